/-! leaving bond -/
theorem least_l (a b : Int32) : m_least a b = if a ≤ b then a else b := by
  unfold m_least
  by_cases h : b ≤ a
  · rw [if_pos h]
    by_cases h2 : a ≤ b
    · rw [if_pos h2]; rw [le_i] at h h2; exact i_eq (by omega)
    · rw [if_neg h2]
  · rw [if_neg h, if_pos (by rw [le_i] at h ⊢; omega)]
theorem czs {x : Int32} {n : Nat} (h : Cz x n) (hn : n < 1000) : x + 1 = nI (ix x + 1) ∧ ix (x + 1) = ix x + 1 := by
  have e : x + 1 = nI (ix x + 1) := by
    have e1 := nI_succ (ix x)
    rw [← h.1] at e1
    exact e1.symm
  exact ⟨e, by rw [e]; exact nI_clamp (by have := h.2; omega)⟩
theorem sim_lot {S L : Sg} (h : Sim S L) {n : Nat} (hn : n = ix (S.1 18)) (hs : ix (S.1 18 + 1) = ix (S.1 18) + 1) (q p : Int32) : Sim (zs (bs (bs S 19 n q) 20 n p) 18 (S.1 18 + 1)) (bs (bs (bs L 5 n q) 6 n p) 4 9 (L.2 4 9 + 1)) := by
  obtain ⟨hV, hA, ⟨g0, g1, g2, g3, g4, g5, g6, g7, g8, g9, g10, g11, g12, g13, g14, g15⟩, hL, hM⟩ := h
  refine ⟨hV, hA, ⟨g0, g1, g2, g3, g4, g5, g6, g7, g8, ?_, g10, g11, g12, g13, g14, g15⟩, fun i hi => ?_, hM⟩
  · show L.2 4 9 + 1 = S.1 18 + 1
    rw [g9]
  · have hi2 : i < ix (S.1 18) + 1 := by rw [← hs]; exact hi
    show upd (L.2 5) n q i = upd (S.2 19) n q i ∧ upd (L.2 6) n p i = upd (S.2 20) n p i
    by_cases e : i = n
    · subst e
      rw [pk_us, pk_us, pk_us, pk_us]
      exact ⟨rfl, rfl⟩
    · rw [pk_un e, pk_un e, pk_un e, pk_un e]
      exact hL i (by omega)
theorem p_rel_no0 {T : Nat} {σ L : Sg} (h : TI T σ L) {k so hv : Int32} (hk : vp_in k 5) (hso : 1 ≤ so.toInt ∧ so.toInt ≤ 10002) (hhv : hv = if L.2 1 (ix k) < so then 0 else 1) (c : hv = 0) : an (g_release σ k so) = -2000000003 ∧ (g_release σ k so).2.2 = σ := by
  refine an_123 (r_release h.1 k so).1 (v := 0) ?_
  rw [m_release, asks_no h hk hso.1 (hv_no (σ := σ) hhv c), if_pos rfl]
theorem p_rel_no1 {T : Nat} {σ L : Sg} (h : TI T σ L) {k so hv x : Int32} (hk : vp_in k 5) (hso : 1 ≤ so.toInt ∧ so.toInt ≤ 10002) (hle : so.toInt ≤ (σ.2 5 (ix k)).toInt) (q : ¬ hv = 0) (hx : x = if hv = 0 then 0 else m_part (L.2 2 (ix k)) so (L.2 1 (ix k))) (c3 : ¬ L.2 4 3 = (-1)) (c : ¬ x ≤ L.2 4 5) : an (g_release σ k so) = -2000000003 ∧ (g_release σ k so).2.2 = σ := by
  refine an_123 (r_release h.1 k so).1 (v := 0) ?_
  rw [if_neg q, (ti_v h hk).2.2.2.1, (ti_v h hk).2.2.2.2.1] at hx
  rw [h.2.2.1.2.2.1.2.2.2.1] at c3
  rw [h.2.2.1.2.2.1.2.2.2.2.2.1, hx] at c
  rw [m_release, asks_yes h hk hso.1 hle, if_neg one_ne0, if_neg c3, if_pos (Int32.not_le.mp c)]
/-- the lot's money -/
def lotP (σ : Sg) (q c : Int32) : Int32 := m_part c (σ.1 11 / 2) 1000 + m_part (q - c) (σ.1 11) 1000
def relS (σ : Sg) (k so y c : Int32) : Sg := zs (bs (bs (zs (zs (zs (m_takes σ k so).2 15 y) 16 (σ.1 16 + c)) 12 (σ.1 12 + lotP σ (m_takes σ k so).1 c)) 19 (ix (σ.1 18)) (m_takes σ k so).1) 20 (ix (σ.1 18)) (lotP σ (m_takes σ k so).1 c)) 18 (σ.1 18 + 1)
def relL (L X : Sg) (q c p : Int32) : Sg := bs (bs (bs (bs (bs X 4 6 (L.2 4 6 + c)) 5 (ix (L.2 4 9)) q) 6 (ix (L.2 4 9)) p) 4 2 (L.2 4 2 + p)) 4 9 (L.2 4 9 + 1)
theorem zs_r (σ : Sg) (k : Nat) (v : Int32) : (zs σ k v).2 = σ.2 := rfl
theorem bs_l (σ : Sg) (k i : Nat) (v : Int32) : (bs σ k i v).1 = σ.1 := rfl
theorem zs_l (σ : Sg) {k j : Nat} (v : Int32) (h : j ≠ k) : (zs σ k v).1 j = σ.1 j := if_neg h
theorem bs_r (σ : Sg) {k j : Nat} (i : Nat) (v : Int32) (h : j ≠ k) : (bs σ k i v).2 j = σ.2 j := if_neg h
theorem relS_v (σ : Sg) (k so y c : Int32) : m_inVessels (relS σ k so y c) = m_inVessels (m_takes σ k so).2 := by
  have e1 : (relS σ k so y c).2 6 = (m_takes σ k so).2.2 6 := by rw [relS, zs_r, bs_r _ _ _ (by decide), bs_r _ _ _ (by decide), zs_r, zs_r, zs_r]
  have e2 : (relS σ k so y c).1 2 = (m_takes σ k so).2.1 2 := by rw [relS, zs_l _ _ (by decide), bs_l, bs_l, zs_l _ _ (by decide), zs_l _ _ (by decide), zs_l _ _ (by decide)]
  rw [m_inVessels, m_inVessels, e1, e2]
theorem relS_m (σ : Sg) (k so y c : Int32) : m_moving (relS σ k so y c) = m_moving σ := rfl
theorem relS_l (σ : Sg) (k so y c : Int32) : m_inLots (relS σ k so y c) = sm (upd (σ.2 19) (ix (σ.1 18)) (m_takes σ k so).1) (ix (σ.1 18 + 1)) := rfl
theorem relS_b (σ : Sg) (k so y c : Int32) (j : Nat) : (relS σ k so y c).2 10 j = σ.2 10 j := rfl
theorem takes_m (σ : Sg) (k so : Int32) : m_moving (m_takes σ k so).2 = m_moving σ := rfl
theorem takes_l (σ : Sg) (k so : Int32) : m_inLots (m_takes σ k so).2 = m_inLots σ := rfl
theorem takes_b (σ : Sg) (k so : Int32) (j : Nat) : (m_takes σ k so).2.2 10 j = σ.2 10 j := rfl
theorem cq_rel (a m l x y z w its : Int32) (h : a + m + l + x + y + z - w = 0 - its) : a + m + (l + its) + x + y + z - w = 0 := by grind
theorem rel_fin {T : Nat} {σ L : Sg} (hT : T < 120) (h : TI T σ L) {k so y c : Int32} (hk : vp_in k 5) (hso : 1 ≤ so.toInt ∧ so.toInt ≤ 10002) (hle : so.toInt ≤ (σ.2 5 (ix k)).toInt) (hc : c = m_least (m_takes σ k so).1 (1000000 - σ.1 16)) (c9 : ¬ L.2 4 9 = 40) (hm : m_release σ k so = (0, lotP σ (m_takes σ k so).1 c, relS σ k so y c)) {X : Sg} (hX : Sim (zs (m_takes σ k so).2 15 y) X) {p : Int32} (hp : p = lotP σ (m_takes σ k so).1 c) :
    an (g_release σ k so) = p ∧ TI (T + 1) (g_release σ k so).2.2 (relL L X (m_takes σ k so).1 c p) ∧ (g_release σ k so).2.2.1 8 = σ.1 8 ∧ (g_release σ k so).2.2.1 9 = σ.1 9 := by
  obtain ⟨b1, b2, -⟩ := draw_b h hk hso.1 hle
  have hz9 := cz9 h
  obtain ⟨hI, hF, hS, hq, hB⟩ := h
  have hG := hS.2.2.1
  have g9 := hG.2.2.2.2.2.2.2.2.2.1
  rw [g9] at c9 hz9
  obtain ⟨s1, s2⟩ := czs hz9 (by decide)
  have n40 : ix (σ.1 18) < 40 := by
    rcases Nat.lt_or_ge (ix (σ.1 18)) 40 with q | q
    · exact q
    · have e : ix (σ.1 18) = 40 := by have := hz9.2; omega
      exact absurd (by rw [hz9.1, e]; rfl) c9
  -- the bounds of the money
  have hA := hB.1
  have h16 := hA.2.2.2
  have e6 : (1000000 : Int32).toInt = 1000000 := by decide
  have eh : (1000000 - σ.1 16).toInt = 1000000 - (σ.1 16).toInt := by rw [i_sub (by rw [e6]; omega) (by rw [e6]; omega), e6]
  have ec : c.toInt = min (m_takes σ k so).1.toInt (1000000 - (σ.1 16).toInt) := by rw [hc, least_i, eh]
  have eq : ((m_takes σ k so).1 - c).toInt = (m_takes σ k so).1.toInt - c.toInt := i_sub (by omega) (by omega)
  have r2 : (σ.1 11 / 2).toInt = (σ.1 11).toInt / 2 := by rw [i_div hA.2.1.1 (by decide)]; rfl
  obtain ⟨p0, p1, p2⟩ := duty_b (q := c) (r := σ.1 11 / 2) (by omega) (by omega) (by rw [r2]; have := hA.2.1.1; omega) (by rw [r2]; have := hA.2.1; omega)
  obtain ⟨q0, q1, q2⟩ := duty_b (q := (m_takes σ k so).1 - c) (r := σ.1 11) (by omega) (by omega) hA.2.1.1 hA.2.1.2
  have k1 : c.toInt * (σ.1 11 / 2).toInt ≤ c.toInt * 99 := Int.mul_le_mul_of_nonneg_left (by rw [r2]; have := hA.2.1; omega) (by omega)
  have k2 : ((m_takes σ k so).1 - c).toInt * (σ.1 11).toInt ≤ ((m_takes σ k so).1 - c).toInt * 99 := Int.mul_le_mul_of_nonneg_left hA.2.1.2 (by omega)
  have ep : (lotP σ (m_takes σ k so).1 c).toInt = (m_part c (σ.1 11 / 2) 1000).toInt + (m_part ((m_takes σ k so).1 - c) (σ.1 11) 1000).toInt := i_add (by omega) (by omega)
  have epb : 0 ≤ (lotP σ (m_takes σ k so).1 c).toInt ∧ (lotP σ (m_takes σ k so).1 c).toInt ≤ 1000000 := by omega
  have eo := owed_up (by omega) hI hB epb.1 epb.2
  rw [← hp] at hm
  refine fin_yes kc123_0 (r_release hI k so) hm ⟨hF.1, by show ix (σ.1 18 + 1) ≤ 40; omega⟩ ?_ ?_ ⟨?_, ?_, ?_⟩ rfl rfl
  · have e1 : relL L X (m_takes σ k so).1 c p = bs (bs (bs (bs (bs X 4 6 (L.2 4 6 + c)) 4 2 (L.2 4 2 + p)) 5 (ix (L.2 4 9)) (m_takes σ k so).1) 6 (ix (L.2 4 9)) p) 4 9 ((bs (bs X 4 6 (L.2 4 6 + c)) 4 2 (L.2 4 2 + p)).2 4 9 + 1) := by
      rw [relL, bs_comm (bs (bs X 4 6 (L.2 4 6 + c)) 5 (ix (L.2 4 9)) (m_takes σ k so).1) (ix (L.2 4 9)) 2 p (L.2 4 2 + p) (by decide), bs_comm (bs X 4 6 (L.2 4 6 + c)) (ix (L.2 4 9)) 2 (m_takes σ k so).1 (L.2 4 2 + p) (by decide)]
      show _ = bs _ 4 9 (X.2 4 9 + 1)
      rw [show X.2 4 9 = σ.1 18 from hX.2.2.1.2.2.2.2.2.2.2.2.2.1, g9]
    rw [e1, g9, hp]
    refine sim_lot (S := zs (zs (zs (m_takes σ k so).2 15 y) 16 (σ.1 16 + c)) 12 (σ.1 12 + lotP σ (m_takes σ k so).1 c)) (sim_g2 (sim_g6 hX ?_) ?_) rfl s2 _ _
    · rw [hG.2.2.2.2.2.2.1]
    · rw [hG.2.2.1]
  · have e1 := cq_takes hF hk so
    rw [cq, takes_m, takes_l, takes_b, takes_b, takes_b, takes_b, hq] at e1
    rw [cq, relS_v, relS_m, relS_l, relS_b, relS_b, relS_b, relS_b, s2, sm_s, pk_us, sm_upd_o (Nat.le_refl _)]
    exact cq_rel _ _ _ _ _ _ _ _ e1
  · refine ⟨hA.1, hA.2.1, hA.2.2.1, ?_⟩
    show 0 ≤ (σ.1 16 + c).toInt ∧ (σ.1 16 + c).toInt ≤ 1000000
    rw [i_add (by omega) (by omega)]
    omega
  · intro i hi
    have hi2 : i < ix (σ.1 18) + 1 := by rw [← s2]; exact hi
    show (upd (σ.2 19) (ix (σ.1 18)) (m_takes σ k so).1 i).toInt ≤ 10000000 ∧ 0 ≤ (upd (σ.2 20) (ix (σ.1 18)) (lotP σ (m_takes σ k so).1 c) i).toInt ∧ (upd (σ.2 20) (ix (σ.1 18)) (lotP σ (m_takes σ k so).1 c) i).toInt ≤ 1000000
    by_cases e : i = ix (σ.1 18)
    · subst e
      rw [pk_us, pk_us]
      omega
    · rw [pk_un e, pk_un e]
      exact hB.2.1 i (by omega)
  · have e1 : ppc (relS σ k so y c) = ppc σ + (lotP σ (m_takes σ k so).1 c).toInt := by
      show smI (fun j => (upd (σ.2 20) (ix (σ.1 18)) (lotP σ (m_takes σ k so).1 c) j).toInt) (ix (σ.1 18 + 1)) = _
      rw [s2, smI_s, pk_us, smI_ext (g := fun j => (σ.2 20 j).toInt) (fun i hi => by rw [pk_un (by omega)])]
      rfl
    have e2 : ((relS σ k so y c).1 12).toInt = (σ.1 12).toInt + (lotP σ (m_takes σ k so).1 c).toInt := eo
    refine bd_up hI hB.2.2 rfl ?_ ?_
    · rw [e1, e2]
      have := hB.2.2.1
      omega
    · rw [e2]
      show _ + mvc σ ≤ _
      omega
theorem p_rel_a {T : Nat} {σ L : Sg} (hT : T < 120) (h : TI T σ L) {k so hv x c p : Int32} (hk : vp_in k 5) (hso : 1 ≤ so.toInt ∧ so.toInt ≤ 10002) (hle : so.toInt ≤ (σ.2 5 (ix k)).toInt) (q : ¬ hv = 0) (hx : x = if hv = 0 then 0 else m_part (L.2 2 (ix k)) so (L.2 1 (ix k))) (hc : c = if x ≤ 1000000 - L.2 4 6 then x else 1000000 - L.2 4 6) (hp : p = m_part c (L.2 4 1 / 2) 1000 + m_part (x - c) (L.2 4 1) 1000) (c9 : ¬ L.2 4 9 = 40) (c3 : L.2 4 3 = (-1)) :
    an (g_release σ k so) = p ∧ TI (T + 1) (g_release σ k so).2.2 (bs (bs (bs (bs (bs (z_draws L k so).2 4 6 (L.2 4 6 + c)) 5 (ix (L.2 4 9)) x) 6 (ix (L.2 4 9)) p) 4 2 (L.2 4 2 + p)) 4 9 (L.2 4 9 + 1)) ∧ (g_release σ k so).2.2.1 8 = σ.1 8 ∧ (g_release σ k so).2.2.1 9 = σ.1 9 := by
  have hS := h.2.2.1
  have hG := hS.2.2.1
  rw [if_neg q, (ti_v h hk).2.2.2.1, (ti_v h hk).2.2.2.2.1] at hx
  have ex : x = (m_takes σ k so).1 := hx
  have c18 : ¬ σ.1 18 = 100 := fun z => by
    have := h.2.1.2
    rw [z] at this
    exact absurd this (by decide)
  rw [hG.2.2.2.1] at c3
  rw [ex, hG.2.2.2.2.2.2.1, ← least_l] at hc
  rw [ex, hG.2.1] at hp
  have hsim : Sim (zs (m_takes σ k so).2 15 (σ.1 15 - 0)) (z_draws L k so).2 := by
    have e : zs (m_takes σ k so).2 15 (σ.1 15 - 0) = (m_takes σ k so).2 := by
      rw [show σ.1 15 - 0 = (m_takes σ k so).2.1 15 from (by show σ.1 15 - 0 = σ.1 15; grind)]
      exact zs_self _ _
    rw [e]
    exact (sim_draw hS hk so).2
  rw [ex]
  refine rel_fin hT h hk hso hle hc c9 ?_ hsim hp
  rw [m_release, asks_yes h hk hso.1 hle, if_neg one_ne0, if_pos c3, if_neg c18, hc]
  rfl
theorem p_rel_b {T : Nat} {σ L : Sg} (hT : T < 120) (h : TI T σ L) {k so hv x c p : Int32} (hk : vp_in k 5) (hso : 1 ≤ so.toInt ∧ so.toInt ≤ 10002) (hle : so.toInt ≤ (σ.2 5 (ix k)).toInt) (q : ¬ hv = 0) (hx : x = if hv = 0 then 0 else m_part (L.2 2 (ix k)) so (L.2 1 (ix k))) (hc : c = if x ≤ 1000000 - L.2 4 6 then x else 1000000 - L.2 4 6) (hp : p = m_part c (L.2 4 1 / 2) 1000 + m_part (x - c) (L.2 4 1) 1000) (c9 : ¬ L.2 4 9 = 40) (c3 : ¬ L.2 4 3 = (-1)) (c5 : x ≤ L.2 4 5) :
    an (g_release σ k so) = p ∧ TI (T + 1) (g_release σ k so).2.2 (bs (bs (bs (bs (bs (bs (z_draws L k so).2 4 5 (L.2 4 5 - x)) 4 6 (L.2 4 6 + c)) 5 (ix (L.2 4 9)) x) 6 (ix (L.2 4 9)) p) 4 2 (L.2 4 2 + p)) 4 9 (L.2 4 9 + 1)) ∧ (g_release σ k so).2.2.1 8 = σ.1 8 ∧ (g_release σ k so).2.2.1 9 = σ.1 9 := by
  have hS := h.2.2.1
  have hG := hS.2.2.1
  rw [if_neg q, (ti_v h hk).2.2.2.1, (ti_v h hk).2.2.2.2.1] at hx
  have ex : x = (m_takes σ k so).1 := hx
  have c18 : ¬ σ.1 18 = 100 := fun z => by
    have := h.2.1.2
    rw [z] at this
    exact absurd this (by decide)
  rw [hG.2.2.2.1] at c3
  rw [hG.2.2.2.2.2.1, ex] at c5
  rw [ex, hG.2.2.2.2.2.2.1, ← least_l] at hc
  rw [ex, hG.2.1] at hp
  have hsim : Sim (zs (m_takes σ k so).2 15 (σ.1 15 - (m_takes σ k so).1)) (bs (z_draws L k so).2 4 5 (L.2 4 5 - x)) := sim_g5 (sim_draw hS hk so).2 (by rw [ex, hG.2.2.2.2.2.1])
  rw [ex] at hsim ⊢
  refine rel_fin hT h hk hso hle hc c9 ?_ hsim hp
  have c5' : ¬ σ.1 15 < m_part (σ.2 6 (ix k)) so (σ.2 5 (ix k)) := Int32.not_lt.mpr c5
  rw [m_release, asks_yes h hk hso.1 hle, if_neg one_ne0, if_neg c3, if_neg c5', if_neg c18, hc]
  rfl
