/-! movements -/
theorem nat_i {x : Int32} (h : 0 ≤ x.toInt) : x = nI (ix x) ∧ (ix x : Int) = x.toInt := by
  have e := ix_i h
  have := i_hi x
  exact ⟨i_eq (by rw [nI_toInt (by omega)]; omega), e⟩
def shT (L : Sg) (k o hv x : Int32) : Int32 := if k - k / 3 * 3 = o - o / 3 * 3 then 0 else (if hv = 0 then 0 else (if L.2 4 8 < m_part ((z_moving L).1 + x) (L.2 4 1) 1000 then 0 else 1))
theorem ship_m {T : Nat} {σ L : Sg} (h : TI T σ L) {k o so days : Int32} (hk : vp_in k 5) (ho : vp_in o 5) (hso : 1 ≤ so.toInt) (hd : 1 ≤ days.toInt ∧ days.toInt ≤ 12) (c10 : ¬ L.2 4 10 = 30) :
    m_ship σ k o so days = if k - k / 3 * 3 = o - o / 3 * 3 then (3, 0, σ) else if L.2 1 (ix k) < so then (3, 0, σ) else if L.2 4 8 < m_part ((z_moving L).1 + (z_draws L k so).1) (L.2 4 1) 1000 then (3, 0, σ) else (0, σ.1 22 + 1 - 1, zs (bs (bs (m_takes (bs (bs σ 24 (ix (σ.1 22)) o) 25 (ix (σ.1 22)) so) k so).2 26 (ix (σ.1 22)) (m_takes σ k so).1) 27 (ix (σ.1 22)) (σ.1 1 + days)) 22 (σ.1 22 + 1)) := by
  obtain ⟨-, -, -, k1, -, -, kv⟩ := ti_v h hk
  obtain ⟨-, -, -, -, -, -, ov⟩ := ti_v h ho
  have hS := h.2.2.1
  have hG := hS.2.2.1
  have hz := cz10 h
  rw [hG.2.2.2.2.2.2.2.2.2.2.1] at c10 hz
  have c30 : ¬ 30 ≤ σ.1 22 := fun q => by
    have h1 := hz.2
    have e := nI_toInt (n := ix (σ.1 22)) (by omega)
    rw [← hz.1] at e
    rw [le_i, show (30 : Int32).toInt = 30 by decide, e] at q
    have e30 : ix (σ.1 22) = 30 := by omega
    exact c10 (by rw [hz.1, e30]; rfl)
  have h1 : (m_hasPart σ k so = 0) = (L.2 1 (ix k) < so) := by
    rw [k1]
    unfold m_hasPart
    by_cases q : σ.2 5 (ix k) < so
    · rw [if_pos q]; exact propext ⟨fun _ => q, fun _ => rfl⟩
    · rw [if_neg q]; exact propext ⟨fun z => absurd z one_ne0, fun z => absurd z q⟩
  rw [m_ship, if_neg (by rw [kv]; exact one_ne0), if_neg (by rw [ov]; exact one_ne0), if_neg (by rw [lt_i, ti1]; omega), if_neg (in_n (by rw [ti1]; omega) (by rw [show (60 : Int32).toInt = 60 by decide]; omega)), (sim_draw hS hk so).1, sim_mov hG hS.2.2.2.2, hG.2.2.2.2.2.2.2.2.1, hG.2.1]
  simp only [place_iff h hk ho, h1, if_neg c30]
  rfl
theorem p_ship_no {T : Nat} {σ L : Sg} (h : TI T σ L) {k o so hv days x ms : Int32} (hk : vp_in k 5) (ho : vp_in o 5) (hso : 1 ≤ so.toInt ∧ so.toInt ≤ 10002) (hhv : hv = if L.2 1 (ix k) < so then 0 else 1) (hd : 1 ≤ days.toInt ∧ days.toInt ≤ 12) (c10 : ¬ L.2 4 10 = 30) (hx : x = if hv = 0 then 0 else m_part (L.2 2 (ix k)) so (L.2 1 (ix k))) (hms : ms = shT L k o hv x) (c : ms = 0) : an (g_ship σ k o so days) = -2000000003 ∧ (g_ship σ k o so days).2.2 = σ := by
  refine an_123 (r_ship h.1 k o so days).1 (v := 0) ?_
  rw [ship_m h hk ho hso.1 hd c10]
  rw [c, shT] at hms
  by_cases q1 : k - k / 3 * 3 = o - o / 3 * 3
  · rw [if_pos q1]
  rw [if_neg q1] at hms ⊢
  by_cases q2 : L.2 1 (ix k) < so
  · rw [if_pos q2]
  rw [if_neg q2] at hhv ⊢
  rw [hhv, if_neg one_ne0] at hms hx
  have ex : x = (z_draws L k so).1 := hx
  rw [ex] at hms
  by_cases q3 : L.2 4 8 < m_part ((z_moving L).1 + (z_draws L k so).1) (L.2 4 1) 1000
  · rw [if_pos q3]
  rw [if_neg q3] at hms
  exact absurd hms (by decide)
theorem sh_yes {L : Sg} {k o hv x ms : Int32} (hms : ms = shT L k o hv x) (c : ¬ ms = 0) : ¬ k - k / 3 * 3 = o - o / 3 * 3 ∧ ¬ hv = 0 ∧ ¬ L.2 4 8 < m_part ((z_moving L).1 + x) (L.2 4 1) 1000 := by
  rw [hms, shT] at c
  by_cases q1 : k - k / 3 * 3 = o - o / 3 * 3
  · rw [if_pos q1] at c; exact absurd rfl c
  rw [if_neg q1] at c
  by_cases q2 : hv = 0
  · rw [if_pos q2] at c; exact absurd rfl c
  rw [if_neg q2] at c
  by_cases q3 : L.2 4 8 < m_part ((z_moving L).1 + x) (L.2 4 1) 1000
  · rw [if_pos q3] at c; exact absurd rfl c
  exact ⟨q1, q2, q3⟩
def shS (σ : Sg) (k o so d : Int32) : Sg := zs (bs (bs (m_takes (bs (bs σ 24 (ix (σ.1 22)) o) 25 (ix (σ.1 22)) so) k so).2 26 (ix (σ.1 22)) (m_takes σ k so).1) 27 (ix (σ.1 22)) (σ.1 1 + d)) 22 (σ.1 22 + 1)
theorem takes_pre (σ : Sg) (n : Nat) (k o so : Int32) : (m_takes (bs (bs σ 24 n o) 25 n so) k so).2.2 6 = (m_takes σ k so).2.2 6 := rfl
theorem takes_pre1 (σ : Sg) (n : Nat) (k o so : Int32) : (m_takes (bs (bs σ 24 n o) 25 n so) k so).2.1 = (m_takes σ k so).2.1 := rfl
theorem shS_v (σ : Sg) (k o so d : Int32) : m_inVessels (shS σ k o so d) = m_inVessels (m_takes σ k so).2 := by
  have e1 : (shS σ k o so d).2 6 = (m_takes σ k so).2.2 6 := by rw [shS, zs_r, bs_r _ _ _ (by decide), bs_r _ _ _ (by decide), takes_pre]
  have e2 : (shS σ k o so d).1 2 = (m_takes σ k so).2.1 2 := by rw [shS, zs_l _ _ (by decide), bs_l, bs_l, takes_pre1]
  rw [m_inVessels, m_inVessels, e1, e2]
theorem shS_m (σ : Sg) (k o so d : Int32) : m_moving (shS σ k o so d) = sm (fun j => if σ.2 23 j = 0 then upd (σ.2 26) (ix (σ.1 22)) (m_takes σ k so).1 j else 0) (ix (σ.1 22 + 1)) := rfl
theorem shS_l (σ : Sg) (k o so d : Int32) : m_inLots (shS σ k o so d) = m_inLots σ := rfl
theorem shS_b (σ : Sg) (k o so d : Int32) (j : Nat) : (shS σ k o so d).2 10 j = σ.2 10 j := rfl
theorem shS_c (σ : Sg) (k o so d : Int32) : mvc (shS σ k o so d) = smI (fun j => if σ.2 23 j = 0 then 1000000 else 0) (ix (σ.1 22 + 1)) := rfl
theorem shS_12 (σ : Sg) (k o so d : Int32) : (shS σ k o so d).1 12 = σ.1 12 := rfl
theorem cq_shp (a m l x y z w its : Int32) (h : a + m + l + x + y + z - w = 0 - its) : a + (m + its) + l + x + y + z - w = 0 := by grind
theorem mvc_misses (Y : Sg) (q : Int32) : mvc (m_misses Y q).2 = mvc Y := rfl
theorem mvc_b10 (Y : Sg) (j : Nat) (v : Int32) : mvc (bs Y 10 j v) = mvc Y := rfl
theorem mvc_comes (Y : Sg) (k P Q : Int32) : mvc (m_comes Y k P Q) = mvc Y := rfl
theorem sim_ship {S L : Sg} (h : Sim S L) {n : Nat} (hn : n = ix (S.1 22)) (hs : ix (S.1 22 + 1) = ix (S.1 22) + 1) {a a' d w : Int32} (ha : a = a') (hw : w = S.1 22 + 1) (hM : Mr (L.2 7 n) (S.2 24 n) (S.2 25 n) (S.2 23 n) d) : Sim (zs (bs (bs S 26 n a') 27 n d) 22 w) (bs (bs L 8 n a) 4 10 w) := by
  obtain ⟨hV, hA, ⟨g0, g1, g2, g3, g4, g5, g6, g7, g8, g9, g10, g11, g12, g13, g14, g15⟩, hL, hM0⟩ := h
  subst hw
  refine ⟨hV, hA, ⟨g0, g1, g2, g3, g4, g5, g6, g7, g8, g9, rfl, g11, g12, g13, g14, g15⟩, hL, fun i hi => ?_⟩
  have hi2 : i < ix (S.1 22) + 1 := by rw [← hs]; exact hi
  show upd (L.2 8) n a i = upd (S.2 26) n a' i ∧ Mr (L.2 7 i) (S.2 24 i) (S.2 25 i) (S.2 23 i) (upd (S.2 27) n d i)
  by_cases e : i = n
  · subst e
    rw [pk_us, pk_us, pk_us]
    exact ⟨ha, hM⟩
  · rw [pk_un e, pk_un e, pk_un e]
    exact hM0 i (by omega)
theorem p_ship_yes {T : Nat} {σ L : Sg} (h : TI T σ L) {k o so hv days x ms : Int32} (hk : vp_in k 5) (ho : vp_in o 5) (hso : 1 ≤ so.toInt ∧ so.toInt ≤ 10002) (hhv : hv = if L.2 1 (ix k) < so then 0 else 1) (hd : 1 ≤ days.toInt ∧ days.toInt ≤ 12) (c10 : ¬ L.2 4 10 = 30) (hx : x = if hv = 0 then 0 else m_part (L.2 2 (ix k)) so (L.2 1 (ix k))) (hms : ms = shT L k o hv x) (c : ¬ ms = 0) : an (g_ship σ k o so days) = L.2 4 10 ∧ TI (T + 1) (g_ship σ k o so days).2.2 (bs (bs (z_draws (bs L 7 (ix (L.2 4 10)) ((o ||| (so <<< (3 &&& 31))) ||| ((L.2 4 0 + days) <<< (20 &&& 31)))) k so).2 8 (ix (L.2 4 10)) (z_draws (bs L 7 (ix (L.2 4 10)) ((o ||| (so <<< (3 &&& 31))) ||| ((L.2 4 0 + days) <<< (20 &&& 31)))) k so).1) 4 10 (L.2 4 10 + 1)) ∧ (g_ship σ k o so days).2.2.1 8 = σ.1 8 ∧ (g_ship σ k o so days).2.2.1 9 = σ.1 9 := by
  obtain ⟨q1, q2, q3⟩ := sh_yes hms c
  obtain ⟨hle, hV0⟩ := hv_has h hk hso hhv q2
  have n2 : ¬ L.2 1 (ix k) < so := fun q => q2 (by rw [hhv, if_pos q])
  rw [if_neg q2] at hx
  have ex : x = (z_draws L k so).1 := hx
  rw [ex] at q3
  have hm := ship_m h hk ho hso.1 hd c10
  rw [if_neg q1, if_neg n2, if_neg q3, show σ.1 22 + 1 - 1 = σ.1 22 by grind] at hm
  obtain ⟨b1, b2, b3, b4⟩ := draw_b h hk hso.1 hle
  have hz := cz10 h
  obtain ⟨hI, hF, hS, hq, hB⟩ := h
  have hG := hS.2.2.1
  have g10 := hG.2.2.2.2.2.2.2.2.2.2.1
  rw [g10] at hz
  obtain ⟨s1, s2⟩ := czs hz (by decide)
  have h23 : σ.2 23 (ix (σ.1 22)) = 0 := hI.2.2.2.2.1 _ (Nat.le_refl _)
  obtain ⟨dy1, dy2⟩ := day_i hI
  have ed : (σ.1 1 + days).toInt = (σ.1 1).toInt + days.toInt := i_add (by omega) (by omega)
  obtain ⟨o1, o2, o3⟩ := vp5n ho
  obtain ⟨v1, v2⟩ := nat_i (x := so) (by omega)
  obtain ⟨w1, w2⟩ := nat_i (x := σ.1 1 + days) (by omega)
  have hMr : Mr ((o ||| (so <<< (3 &&& 31))) ||| ((L.2 4 0 + days) <<< (20 &&& 31))) o so 0 (σ.1 1 + days) := by
    rw [hG.1, o1, v1, w1]
    have := vp5 ho
    exact Mr_new (by omega) (by omega) (by omega)
  rw [g10]
  have hS0 : Sim (bs (bs σ 24 (ix (σ.1 22)) o) 25 (ix (σ.1 22)) so) (bs L 7 (ix (σ.1 22)) ((o ||| (so <<< (3 &&& 31))) ||| ((L.2 4 0 + days) <<< (20 &&& 31)))) := by
    refine ⟨hS.1, hS.2.1, hS.2.2.1, hS.2.2.2.1, fun i hi => ?_⟩
    have hi2 : i < ix (σ.1 22) := hi
    obtain ⟨a, b⟩ := hS.2.2.2.2 i hi2
    refine ⟨a, ?_⟩
    show Mr (upd (L.2 7) (ix (σ.1 22)) _ i) (upd (σ.2 24) (ix (σ.1 22)) o i) (upd (σ.2 25) (ix (σ.1 22)) so i) (σ.2 23 i) (σ.2 27 i)
    rw [pk_un (by omega), pk_un (by omega), pk_un (by omega)]
    exact b
  obtain ⟨e1, e2⟩ := sim_draw hS0 hk so
  generalize hX : ((o ||| (so <<< (3 &&& 31))) ||| ((L.2 4 0 + days) <<< (20 &&& 31))) = X at *
  refine fin_yes kc123_0 (r_ship hI k o so days) hm hF ?_ ?_ ⟨hB.1, hB.2.1, ?_⟩ rfl rfl
  · refine sim_ship (S := (m_takes (bs (bs σ 24 (ix (σ.1 22)) o) 25 (ix (σ.1 22)) so) k so).2) (L := (z_draws (bs L 7 (ix (σ.1 22)) X) k so).2) e2 rfl s2 e1 rfl ?_
    show Mr (upd (L.2 7) (ix (σ.1 22)) X (ix (σ.1 22))) (upd (σ.2 24) (ix (σ.1 22)) o (ix (σ.1 22))) (upd (σ.2 25) (ix (σ.1 22)) so (ix (σ.1 22))) (σ.2 23 (ix (σ.1 22))) (σ.1 1 + days)
    rw [pk_us, pk_us, pk_us, h23]
    exact hMr
  · have c1 := cq_takes hF hk so
    rw [cq, takes_m, takes_l, takes_b, takes_b, takes_b, takes_b, hq] at c1
    show cq (shS σ k o so days) = 0
    rw [cq, shS_v, shS_m, shS_l, shS_b, shS_b, shS_b, shS_b, s2, sm_s, pk_us, if_pos h23, sm_ext (g := mvf σ) (fun i hi => by rw [pk_un (by omega)]; rfl)]
    exact cq_shp _ _ _ _ _ _ _ _ c1
  · show BdO (T + 1) (shS σ k o so days)
    refine bd_up hI hB.2.2 rfl hB.2.2.1 ?_
    rw [shS_c, shS_12, s2, smI_s, if_pos h23]
    show (σ.1 12).toInt + (mvc σ + 1000000) ≤ _
    omega
/-! arriving -/
theorem cq_st {S : Sg} {i : Nat} {s : Int32} (hi : i < ix (S.1 22)) (h0 : S.2 23 i = 0) (hs : ¬ s = 0) : cq (bs S 23 i s) = cq S - S.2 26 i := by
  show m_inVessels S + sm (fun j => if upd (S.2 23) i s j = 0 then S.2 26 j else 0) (ix (S.1 22)) + m_inLots S + S.2 10 4 + S.2 10 5 + S.2 10 6 - S.2 10 0 = _
  have e : sm (fun j => if upd (S.2 23) i s j = 0 then S.2 26 j else 0) (ix (S.1 22)) = sm (upd (mvf S) i 0) (ix (S.1 22)) := sm_ext (fun j _ => by
    by_cases q : j = i
    · subst q; rw [pk_us, pk_us, if_neg hs]
    · rw [pk_un q, pk_un q]; rfl)
  rw [e, sm_upd hi, cq, m_moving, show mvf S i = S.2 26 i from if_pos h0]
  grind
theorem mvc_st {S : Sg} {i : Nat} {s : Int32} (hi : i < ix (S.1 22)) (h0 : S.2 23 i = 0) (hs : ¬ s = 0) : mvc (bs S 23 i s) = mvc S - 1000000 := by
  show smI (fun j => if upd (S.2 23) i s j = 0 then (1000000 : Int) else 0) (ix (S.1 22)) = _
  rw [smI_upd (f := fun j => if S.2 23 j = 0 then (1000000 : Int) else 0) hi (fun j _ q => by rw [pk_un q]), pk_us, if_neg hs, if_pos h0, mvc]
  omega
theorem arr_m {T : Nat} {σ L : Sg} (h : TI T σ L) {wh vol : Int32} (hw : ix wh < ix (σ.1 22)) (hw0 : 0 ≤ wh.toInt) (hv : 0 ≤ vol.toInt ∧ vol.toInt ≤ (σ.2 25 (ix wh)).toInt) :
    m_arrive σ wh vol = if σ.2 23 (ix wh) = 0 then (if σ.2 4 (ix (σ.2 24 (ix wh))) < σ.2 5 (ix (σ.2 24 (ix wh))) + vol then (3, 0, σ) else if σ.2 26 (ix wh) / 200 < σ.2 26 (ix wh) - m_part (σ.2 26 (ix wh)) vol (σ.2 25 (ix wh)) then (0, σ.2 26 (ix wh) - m_part (σ.2 26 (ix wh)) vol (σ.2 25 (ix wh)), (m_misses (m_comes (bs σ 23 (ix wh) 1) (σ.2 24 (ix wh)) vol (m_part (σ.2 26 (ix wh)) vol (σ.2 25 (ix wh)))) (σ.2 26 (ix wh) - m_part (σ.2 26 (ix wh)) vol (σ.2 25 (ix wh)))).2) else (0, 0, bs (m_comes (bs σ 23 (ix wh) 1) (σ.2 24 (ix wh)) vol (m_part (σ.2 26 (ix wh)) vol (σ.2 25 (ix wh)))) 10 4 (σ.2 10 4 + (σ.2 26 (ix wh) - m_part (σ.2 26 (ix wh)) vol (σ.2 25 (ix wh)))))) else (3, 0, σ) := by
  have hm := isM_n h.1 hw
  have ew := (nat_i hw0).1
  rw [← ew] at hm
  have h2 : (m_hasRoom σ (σ.2 24 (ix wh)) vol = 0) = (σ.2 4 (ix (σ.2 24 (ix wh))) < σ.2 5 (ix (σ.2 24 (ix wh))) + vol) := by
    unfold m_hasRoom
    by_cases q : σ.2 4 (ix (σ.2 24 (ix wh))) < σ.2 5 (ix (σ.2 24 (ix wh))) + vol
    · rw [if_pos q]; exact propext ⟨fun _ => q, fun _ => rfl⟩
    · rw [if_neg q]; exact propext ⟨fun z => absurd z one_ne0, fun z => absurd z q⟩
  rw [m_arrive, if_neg hm, if_neg (in_n (by rw [ti0]; omega) hv.2)]
  simp only [h2]
/-- which movement: there is such a one -/
theorem wh_b {T : Nat} {σ L : Sg} (h : TI T σ L) {u n wh : Int32} (c0 : ¬ L.2 4 10 = 0) (hn : n = if 3 ≤ L.2 4 10 then 3 else L.2 4 10) (hwh : wh = L.2 4 10 - 1 - z_low u n) : ¬ n = 0 ∧ vp_in wh 30 ∧ ix wh < ix (σ.1 22) ∧ 0 ≤ wh.toInt := by
  have hz := cz10 h
  have g10 := h.2.2.1.2.2.1.2.2.2.2.2.2.2.2.2.2.1
  have eg : (L.2 4 10).toInt = ix (L.2 4 10) := by
    have e := nI_toInt (n := ix (L.2 4 10)) (by have := hz.2; omega)
    rw [← hz.1] at e
    exact e
  have h30 := hz.2
  have hg0 : (L.2 4 10).toInt ≠ 0 := fun q => c0 (i_eq (by rw [q, ti0]))
  have hnb : 0 < n.toInt ∧ n.toInt ≤ (L.2 4 10).toInt := by
    rw [hn]
    split
    · rename_i q
      rw [le_i] at q
      exact ⟨by decide, q⟩
    · omega
  obtain ⟨l0, l1⟩ := z_low_i u hnb.1
  have e1 : (L.2 4 10 - 1).toInt = (L.2 4 10).toInt - 1 := by rw [i_sub (by rw [ti1]; omega) (by rw [ti1]; omega), ti1]
  have e2 : wh.toInt = (L.2 4 10).toInt - 1 - (z_low u n).toInt := by rw [hwh, i_sub (by rw [e1]; omega) (by rw [e1]; omega), e1]
  obtain ⟨w1, w2⟩ := nat_i (x := wh) (by omega)
  refine ⟨fun q => by rw [q, ti0] at hnb; omega, fun q => ?_, by rw [← g10]; omega, by omega⟩
  rcases q with q | q
  · rw [lt_i, ti0] at q; omega
  · have : 30 ≤ ix wh := q
    omega
theorem arr_b {T : Nat} {σ L : Sg} (h : TI T σ L) {wh : Int32} (hw : ix wh < ix (σ.1 22)) : L.2 7 (ix wh) &&& 7 = σ.2 24 (ix wh) ∧ L.2 7 (ix wh) >>> (3 &&& 31) &&& 16383 = σ.2 25 (ix wh) ∧ L.2 7 (ix wh) >>> (17 &&& 31) &&& 7 = σ.2 23 (ix wh) ∧ L.2 8 (ix wh) = σ.2 26 (ix wh) ∧ vp_in (σ.2 24 (ix wh)) 5 ∧ 1 ≤ (σ.2 25 (ix wh)).toInt ∧ (σ.2 25 (ix wh)).toInt ≤ 9999 ∧ 0 ≤ (σ.2 26 (ix wh)).toInt ∧ (σ.2 26 (ix wh)).toInt ≤ 960 * (σ.2 25 (ix wh)).toInt := by
  obtain ⟨a, b⟩ := h.2.2.1.2.2.2.2 _ hw
  obtain ⟨m1, m2, m3, m4, m5, m6⟩ := h.1.2.2.2.1 _ hw
  rw [ix5 h.2.1] at m6
  refine ⟨Mr_t b, Mr_v b, Mr_s b, a, fun q => ?_, m1, m2, m3, m4⟩
  rcases q with q | q
  · rw [lt_i, ti0] at q; omega
  · have : 5 ≤ ix (σ.2 24 (ix wh)) := q
    omega
theorem com_b {w u went co : Int32} (h1 : 1 ≤ went.toInt ∧ went.toInt ≤ 9999) (hco : co = if w &&& 16384 = 0 then went - z_low (u >>> (3 &&& 31)) (went + 1) / 100 else went - z_low (u >>> (3 &&& 31)) (went + 1)) : 0 ≤ co.toInt ∧ co.toInt ≤ went.toInt := by
  have e1 : (went + 1).toInt = went.toInt + 1 := by rw [i_add (by rw [ti1]; omega) (by rw [ti1]; omega), ti1]
  obtain ⟨l0, l1⟩ := z_low_i (u >>> (3 &&& 31)) (n := went + 1) (by omega)
  rw [hco]
  split
  · have e2 : (z_low (u >>> (3 &&& 31)) (went + 1) / 100).toInt = (z_low (u >>> (3 &&& 31)) (went + 1)).toInt / 100 := i_div l0 (by decide)
    rw [i_sub (by omega) (by omega), e2]
    omega
  · rw [i_sub (by omega) (by omega)]
    omega
theorem comes_st (σ : Sg) (i : Nat) (s to P Q : Int32) : m_comes (bs σ 23 i s) to P Q = bs (m_comes σ to P Q) 23 i s := by
  have e1 : m_comes (bs σ 23 i s) to P Q = bs (bs (bs σ 23 i s) 5 (ix to) (m_with σ to P Q)) 6 (ix to) (σ.2 6 (ix to) + Q) := rfl
  rw [e1, bs_comm σ i (ix to) s (m_with σ to P Q) (by decide), bs_comm (bs σ 5 (ix to) (m_with σ to P Q)) i (ix to) s (σ.2 6 (ix to) + Q) (by decide)]
  rfl
theorem p_arr_no {T : Nat} {σ L : Sg} (h : TI T σ L) {wh co to la : Int32} (hw : ix wh < ix (σ.1 22)) (hw0 : 0 ≤ wh.toInt) (hv : 0 ≤ co.toInt ∧ co.toInt ≤ (σ.2 25 (ix wh)).toInt) (hto : to = L.2 7 (ix wh) &&& 7) (hla : la = if L.2 7 (ix wh) >>> (17 &&& 31) &&& 7 = 0 then (if L.2 0 (ix to) < L.2 1 (ix to) + co then 0 else 1) else 0) (c : la = 0) : an (g_arrive σ wh co) = -2000000003 ∧ (g_arrive σ wh co).2.2 = σ := by
  obtain ⟨b1, b2, b3, b4, b5, -⟩ := arr_b h hw
  refine an_123 (r_arrive h.1 wh co).1 (v := 0) ?_
  rw [arr_m h hw hw0 hv]
  rw [b1] at hto
  rw [c, b3, hto, (ti_v h b5).2.2.1, (ti_v h b5).2.2.2.1] at hla
  by_cases q1 : σ.2 23 (ix wh) = 0
  · rw [if_pos q1] at hla ⊢
    by_cases q2 : σ.2 4 (ix (σ.2 24 (ix wh))) < σ.2 5 (ix (σ.2 24 (ix wh))) + co
    · rw [if_pos q2]
    · rw [if_neg q2] at hla
      exact absurd hla (by decide)
  · rw [if_neg q1]
theorem la_yes {x la : Int32} {P : Prop} {i : Decidable P} (hla : la = if x = 0 then (if P then 0 else 1) else 0) (c : ¬ la = 0) : x = 0 ∧ ¬ P := by
  rw [hla] at c
  by_cases q1 : x = 0
  · rw [if_pos q1] at c
    by_cases q2 : P
    · rw [if_pos q2] at c; exact absurd rfl c
    · exact ⟨q1, q2⟩
  · rw [if_neg q1] at c; exact absurd rfl c
/-- the law's rows behind what came: alike -/
theorem arr_pour {T : Nat} {σ L : Sg} (h : TI T σ L) {wh co to its : Int32} (hw : ix wh < ix (σ.1 22)) (hv : 0 ≤ co.toInt ∧ co.toInt ≤ (σ.2 25 (ix wh)).toInt) (hto : to = L.2 7 (ix wh) &&& 7) (hits : its = m_part (L.2 8 (ix wh)) co (σ.2 25 (ix wh))) (hr : ¬ L.2 0 (ix to) < L.2 1 (ix to) + co) :
    0 ≤ its.toInt ∧ its.toInt ≤ (σ.2 26 (ix wh)).toInt ∧ Sim (m_comes σ to co its) (z_pours L to co its).2 ∧ (co ≤ 0 → m_comes σ to co its = σ) := by
  obtain ⟨b1, b2, b3, b4, b5, b6, b7, b8, b9⟩ := arr_b h hw
  rw [b1] at hto
  rw [b4] at hits
  obtain ⟨vt, -, e0, e1, -⟩ := ti_v h b5
  obtain ⟨t1, t2, t3, t4⟩ := take_b (V := (σ.2 25 (ix wh)).toInt) (D := (σ.2 26 (ix wh)).toInt) (p := co.toInt) (by omega) b8 b9 hv.1 hv.2
  have ei : its.toInt = (σ.2 26 (ix wh)).toInt * co.toInt / (σ.2 25 (ix wh)).toInt := by rw [hits]; exact i_part b8 hv.1 (by omega) (by omega)
  subst hto
  refine ⟨by omega, by omega, sim_pour h.2.2.1 b5 vt hv.1 (by omega) (by omega) (by omega), fun c => ?_⟩
  rw [le_i, ti0] at c
  have c0 : co = 0 := i_eq (by rw [ti0]; omega)
  have i0' : its = 0 := i_eq (by rw [ei, c0, ti0, Int.mul_zero, Int.zero_ediv])
  rw [c0, i0', m_comes, m_with, if_pos rfl, show σ.2 5 (ix (σ.2 24 (ix wh))) + 0 = σ.2 5 (ix (σ.2 24 (ix wh))) by grind, bs_self, show σ.2 6 (ix (σ.2 24 (ix wh))) + 0 = σ.2 6 (ix (σ.2 24 (ix wh))) by grind, bs_self]
theorem few_i {lost n few : Int32} (hl : 0 ≤ lost.toInt) (hn : 0 ≤ n.toInt) (hf : few = if 0 < lg_cmp (200 * lost.toInt64) n.toInt64 then 0 else 1) : (few = 0) = (n / 200 < lost) := by
  have e := cmp_n (n := 200) (k := 200) (g := lost) (d := n) (by decide) (by decide) (by decide) hl hn
  have e2 : (0 < lg_cmp (200 * lost.toInt64) n.toInt64) = (n / 200 < lost) := by
    refine propext ⟨fun q => ?_, fun q => ?_⟩
    · exact Int32.not_le.mp (fun z => absurd (e.mpr z) (Int32.not_le.mpr q))
    · exact Int32.not_le.mp (fun z => absurd (e.mp z) (Int32.not_le.mpr q))
  rw [hf]
  by_cases q : 0 < lg_cmp (200 * lost.toInt64) n.toInt64
  · rw [if_pos q, ← e2]; exact propext ⟨fun _ => q, fun _ => rfl⟩
  · rw [if_neg q, ← e2]; exact propext ⟨fun z => absurd z one_ne0, fun z => absurd z q⟩
theorem or_1 : nI (131072 * 1) = 131072 := by decide
theorem or_2 : nI (131072 * 2) = 262144 := by decide
theorem nI1 : nI 1 = 1 := by decide
theorem nI2 : nI 2 = 2 := by decide
/-- it arrives: X is the law's rows behind what came -/
theorem p_arr {T : Nat} {σ L : Sg} (hT : T < 120) (h : TI T σ L) {wh co to its lost few : Int32} (hw : ix wh < ix (σ.1 22)) (hw0 : 0 ≤ wh.toInt) (hv : 0 ≤ co.toInt ∧ co.toInt ≤ (σ.2 25 (ix wh)).toInt) (hto : to = L.2 7 (ix wh) &&& 7) (q0 : L.2 7 (ix wh) >>> (17 &&& 31) &&& 7 = 0) (hr : ¬ L.2 0 (ix to) < L.2 1 (ix to) + co) (hits : its = m_part (L.2 8 (ix wh)) co (σ.2 25 (ix wh))) (hlost : lost = L.2 8 (ix wh) - its) (hf : few = if 0 < lg_cmp (200 * lost.toInt64) (L.2 8 (ix wh)).toInt64 then 0 else 1)
    {X : Sg} (hX : Sim (m_comes σ to co its) X) (h7 : X.2 7 = L.2 7) (h4 : X.2 4 = L.2 4) :
    (few = 0 → an (g_arrive σ wh co) = lost ∧ TI (T + 1) (g_arrive σ wh co).2.2 (z_misses (bs X 7 (ix wh) (L.2 7 (ix wh) ||| 131072)) lost).2 ∧ (g_arrive σ wh co).2.2.1 8 = σ.1 8 ∧ (g_arrive σ wh co).2.2.1 9 = σ.1 9) ∧ (¬ few = 0 → an (g_arrive σ wh co) = 0 ∧ TI (T + 1) (g_arrive σ wh co).2.2 (bs (bs X 7 (ix wh) (L.2 7 (ix wh) ||| 131072)) 4 12 (L.2 4 12 + lost)) ∧ (g_arrive σ wh co).2.2.1 8 = σ.1 8 ∧ (g_arrive σ wh co).2.2.1 9 = σ.1 9) := by
  obtain ⟨b1, b2, b3, b4, b5, b6, b7, b8, b9⟩ := arr_b h hw
  obtain ⟨p1, p2, -, -⟩ := arr_pour h hw hv hto hits hr
  have hm := arr_m h hw hw0 hv
  rw [b1] at hto
  rw [b3] at q0
  rw [b4] at hits hlost hf
  rw [hto, (ti_v h b5).2.2.1, (ti_v h b5).2.2.2.1] at hr
  have el : lost.toInt = (σ.2 26 (ix wh)).toInt - its.toInt := by rw [hlost, i_sub (by omega) (by omega)]
  have hfe := few_i (by omega) b8 hf
  rw [if_pos q0, if_neg hr, ← hits, ← hlost, ← hto, comes_st] at hm
  obtain ⟨hI, hF, hS, hq, hB⟩ := h
  have hG := hS.2.2.1
  have vto : vp_in to 5 := by rw [hto]; exact b5
  have hst : Sim (bs (m_comes σ to co its) 23 (ix wh) 1) (bs X 7 (ix wh) (L.2 7 (ix wh) ||| 131072)) := by
    have := sim_st hX (i := ix wh) hw q0 1 (by decide)
    rw [h7, or_1, nI1] at this
    exact this
  have ecq : cq (bs (m_comes σ to co its) 23 (ix wh) 1) = its - σ.2 26 (ix wh) := by
    rw [cq_st (S := m_comes σ to co its) hw q0 one_ne0, cq_comes hF vto, hq]
    show 0 + its - σ.2 26 (ix wh) = _
    grind
  have emv : mvc (bs (m_comes σ to co its) 23 (ix wh) 1) ≤ mvc σ := by
    rw [mvc_st (S := m_comes σ to co its) hw q0 one_ne0, mvc_comes]
    omega
  constructor
  · intro c
    rw [hfe] at c
    rw [if_pos c] at hm
    obtain ⟨d0, -, d2⟩ := duty_b (q := lost) (r := σ.1 11) (by omega) (by omega) hB.1.2.1.1 hB.1.2.1.2
    refine fin_yes kc123_0 (r_arrive hI wh co) hm hF (sim_miss hst lost).2 ?_ (bd_owed (by omega) hI hB d0 (by omega) rfl hB.1 rfl rfl rfl (by rw [mvc_misses]; exact emv) rfl) rfl rfl
    rw [cq_misses, ecq, hlost]
    grind
  · intro c
    rw [hfe] at c
    rw [if_neg c] at hm
    refine fin_yes kc123_0 (r_arrive hI wh co) hm hF (sim_g12 hst ?_) ?_ (bd_same hI hB rfl hB.1 rfl rfl rfl (by rw [mvc_b10]; exact emv) rfl) rfl rfl
    · rw [hG.2.2.2.2.2.2.2.2.2.2.2.2.1]
    · rw [cq_b4, ecq]
      show its - σ.2 26 (ix wh) - σ.2 10 4 + (σ.2 10 4 + lost) = 0
      rw [hlost]
      grind
