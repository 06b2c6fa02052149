/-! ===== the law's rows beside the class's state ===== -/
theorem fa_or (a b : Nat) : nI a ||| nI b = nI (a ||| b) := by
  apply Int32.toBitVec_inj.1
  show BitVec.ofNat 32 a ||| BitVec.ofNat 32 b = BitVec.ofNat 32 (a ||| b)
  apply BitVec.eq_of_getLsbD_eq
  intro i hi
  simp [hi]
theorem nx_and (a b : Nat) : nI a &&& nI b = nI (a &&& b) := by
  apply Int32.toBitVec_inj.1
  show BitVec.ofNat 32 a &&& BitVec.ofNat 32 b = BitVec.ofNat 32 (a &&& b)
  apply BitVec.eq_of_getLsbD_eq
  intro i hi
  simp [hi]
/-- a word of the law's m: where to, volume, what it is, the last day -/
def Mr (x t v s d : Int32) : Prop := ∃ T V S E : Nat, t = nI T ∧ v = nI V ∧ s = nI S ∧ d = nI E ∧ T < 8 ∧ V < 16384 ∧ S < 8 ∧ E < 2047 ∧ x = nI (T + 8 * V + 131072 * S + 1048576 * E)
theorem Mr_s {x t v s d : Int32} (h : Mr x t v s d) : x >>> (17 &&& 31) &&& 7 = s := by
  obtain ⟨T, V, S, E, -, -, rfl, -, h1, h2, h3, h4, rfl⟩ := h
  rw [pk_shrN (by omega) (17 &&& 31) 17 (by decide), show (7 : Int32) = nI 7 from rfl, nx_and, Nat.and_two_pow_sub_one_eq_mod _ 3]
  congr 1
  omega
theorem Mr_v {x t v s d : Int32} (h : Mr x t v s d) : x >>> (3 &&& 31) &&& 16383 = v := by
  obtain ⟨T, V, S, E, -, rfl, -, -, h1, h2, h3, h4, rfl⟩ := h
  rw [pk_shrN (by omega) (3 &&& 31) 3 (by decide), show (16383 : Int32) = nI 16383 from rfl, nx_and, Nat.and_two_pow_sub_one_eq_mod _ 14]
  congr 1
  omega
theorem Mr_d {x t v s d : Int32} (h : Mr x t v s d) : x >>> (20 &&& 31) = d := by
  obtain ⟨T, V, S, E, -, -, -, rfl, h1, h2, h3, h4, rfl⟩ := h
  rw [pk_shrN (by omega) (20 &&& 31) 20 (by decide)]
  congr 1
  omega
theorem Mr_t {x t v s d : Int32} (h : Mr x t v s d) : x &&& 7 = t := by
  obtain ⟨T, V, S, E, rfl, -, -, -, h1, h2, h3, h4, rfl⟩ := h
  rw [show (7 : Int32) = nI 7 from rfl, nx_and, Nat.and_two_pow_sub_one_eq_mod _ 3]
  congr 1
  omega
theorem Mr_or {x t v d : Int32} (h : Mr x t v 0 d) (s : Nat) (hs : s < 8) : Mr (x ||| nI (131072 * s)) t v (nI s) d := by
  obtain ⟨T, V, S, E, h5, h6, h7, h8, h1, h2, h3, h4, rfl⟩ := h
  have hS : S = 0 := by
    have := (nI_eq (a := 0) (b := S) (by decide) (by omega)).mp (nI_0.trans h7)
    omega
  subst hS
  refine ⟨T, V, s, E, h5, h6, rfl, h8, h1, h2, hs, h4, ?_⟩
  rw [fa_or]
  congr 1
  have e1 : T + 8 * V + 131072 * 0 + 1048576 * E = 2 ^ 20 * E ||| (T + 8 * V) := by
    rw [← Nat.two_pow_add_eq_or_of_lt (i := 20) (by omega)]; omega
  have e2 : (T + 8 * V) ||| 131072 * s = 131072 * s + (T + 8 * V) := by
    rw [Nat.or_comm, show 131072 * s = 2 ^ 17 * s by omega, ← Nat.two_pow_add_eq_or_of_lt (i := 17) (by omega)]
  rw [e1, Nat.or_assoc, e2, ← Nat.two_pow_add_eq_or_of_lt (i := 20) (by omega)]
  omega
theorem Mr_new {T V E : Nat} (h1 : T < 8) (h2 : V < 16384) (h3 : E < 2047) : Mr (nI T ||| nI V <<< (3 &&& 31) ||| nI E <<< (20 &&& 31)) (nI T) (nI V) 0 (nI E) := by
  refine ⟨T, V, 0, E, rfl, rfl, nI_0.symm, rfl, h1, h2, by decide, h3, ?_⟩
  rw [pk_shlN (3 &&& 31) 3 (by decide) (by omega), pk_shlN (20 &&& 31) 20 (by decide) (by omega), fa_or, fa_or]
  congr 1
  have e1 : T ||| V * 2 ^ 3 = V * 8 + T := by
    rw [Nat.or_comm, show V * 2 ^ 3 = 2 ^ 3 * V by omega, ← Nat.two_pow_add_eq_or_of_lt (i := 3) (by omega)]
  rw [e1, Nat.or_comm, show E * 2 ^ 20 = 2 ^ 20 * E by omega, ← Nat.two_pow_add_eq_or_of_lt (i := 20) (by omega)]
  omega
theorem z_ushr_i (v : Int32) : 0 ≤ (z_ushr v 1).toInt := by
  have h := pk_ushr v 1 1 (by decide)
  have e : (z_ushr v 1).toBitVec.toNat = v.toBitVec.toNat / 2 ^ 1 := h
  have hb := v.toBitVec.isLt
  have e2 : (z_ushr v 1).toInt = (z_ushr v 1).toBitVec.toInt := rfl
  rw [e2, BitVec.toInt_eq_toNat_of_lt (by omega)]
  omega
theorem z_low_i (v : Int32) {n : Int32} (hn : 0 < n.toInt) : 0 ≤ (z_low v n).toInt ∧ (z_low v n).toInt < n.toInt := by
  have h0 := z_ushr_i v
  rw [z_low]
  generalize z_ushr v 1 = q at *
  have hq := i_hi q
  have e1 : (q / n).toInt = q.toInt / n.toInt := i_div h0 hn
  have d0 : 0 ≤ q.toInt / n.toInt := Int.ediv_nonneg h0 (by omega)
  have d1 : q.toInt / n.toInt * n.toInt ≤ q.toInt := Int.ediv_mul_le _ (by omega)
  have d2 : 0 ≤ q.toInt / n.toInt * n.toInt := Int.mul_nonneg d0 (by omega)
  have d3 := Int.lt_ediv_add_one_mul_self q.toInt hn
  rw [Int.add_mul, Int.one_mul] at d3
  have e2 : (q / n * n).toInt = q.toInt / n.toInt * n.toInt := by rw [i_mul (by rw [e1]; omega) (by rw [e1]; omega), e1]
  rw [i_sub (by rw [e2]; omega) (by rw [e2]; omega), e2]
  omega
def SimV (σ L : Sg) : Prop := ∀ k, k < 5 → L.2 0 k = σ.2 4 k ∧ L.2 1 k = σ.2 5 k ∧ L.2 2 k = σ.2 6 k ∧ σ.2 3 k = nI (k % 3)
def SimA (σ L : Sg) : Prop := ∀ k, k < 3 → L.2 3 k = σ.2 7 k
def SimG (σ L : Sg) : Prop := L.2 4 0 = σ.1 1 ∧ L.2 4 1 = σ.1 11 ∧ L.2 4 2 = σ.1 12 ∧ L.2 4 3 = σ.1 13 ∧ L.2 4 4 = σ.1 14 ∧ L.2 4 5 = σ.1 15 ∧ L.2 4 6 = σ.1 16 ∧ L.2 4 7 = σ.1 17 ∧ L.2 4 8 = σ.1 21 ∧ L.2 4 9 = σ.1 18 ∧ L.2 4 10 = σ.1 22 ∧ L.2 4 11 = σ.2 10 0 ∧ L.2 4 12 = σ.2 10 4 ∧ L.2 4 13 = σ.2 10 5 ∧ L.2 4 14 = σ.2 10 6 ∧ L.2 4 15 = σ.2 10 7
def SimL (σ L : Sg) : Prop := ∀ i, i < ix (σ.1 18) → L.2 5 i = σ.2 19 i ∧ L.2 6 i = σ.2 20 i
def SimM (σ L : Sg) : Prop := ∀ i, i < ix (σ.1 22) → L.2 8 i = σ.2 26 i ∧ Mr (L.2 7 i) (σ.2 24 i) (σ.2 25 i) (σ.2 23 i) (σ.2 27 i)
def Sim (σ L : Sg) : Prop := SimV σ L ∧ SimA σ L ∧ SimG σ L ∧ SimL σ L ∧ SimM σ L
/-- five vessels, at most 40 lots -/
def F5 (σ : Sg) : Prop := σ.1 2 = 5 ∧ ix (σ.1 18) ≤ 40
theorem kc1_0 {x : Int32} (h : kc1 x = 0) : x = 0 := by
  unfold kc1 at h
  split at h
  · assumption
  · exact absurd h (by decide)
theorem kc12_0 {x : Int32} (h : kc12 x = 0) : x = 0 := by
  unfold kc12 at h
  split at h
  · assumption
  · repeat' split at h
    all_goals exact absurd h (by decide)
theorem kc23_0 {x : Int32} (h : kc23 x = 0) : x = 0 := by
  unfold kc23 at h
  split at h
  · assumption
  · repeat' split at h
    all_goals exact absurd h (by decide)
theorem kc123_0 {x : Int32} (h : kc123 x = 0) : x = 0 := by
  unfold kc123 at h
  split at h
  · assumption
  · repeat' split at h
    all_goals exact absurd h (by decide)
theorem an_ok {kc : Int32 → Int32} {g m : Int32 × Int32 × Sg} (hk : ∀ {x}, kc x = 0 → x = 0) (h : Eq3 kc g m) {v : Int32} {τ : Sg} (hm : m = (0, v, τ)) : an g = v ∧ g.2.2 = τ := by
  subst hm
  obtain ⟨h1, h2, h3⟩ := h
  have h0 := hk h1
  exact ⟨(an_0 h0).trans (h2 h0), h3⟩
theorem an_123 {g m : Int32 × Int32 × Sg} (h : Eq3 kc123 g m) {v : Int32} {τ : Sg} (hm : m = (3, v, τ)) : an g = -2000000003 ∧ g.2.2 = τ := by
  subst hm
  obtain ⟨h1, h2, h3⟩ := h
  refine ⟨?_, h3⟩
  unfold kc123 at h1
  split at h1
  · exact absurd (show (0 : Int32) = 3 from h1) (by decide)
  · split at h1
    · exact absurd (show (1 : Int32) = 3 from h1) (by decide)
    · split at h1
      · exact absurd (show (2 : Int32) = 3 from h1) (by decide)
      · rename_i a b c
        rw [an, if_neg a, if_neg b, if_neg c]
theorem an_123r {g m : Int32 × Int32 × Sg} (h : Eq3 kc123 g m) {v : Int32} {τ : Sg} (hm : m = (2, v, τ)) : an g = -2000000002 ∧ g.2.2 = τ := by
  subst hm
  obtain ⟨h1, h2, h3⟩ := h
  refine ⟨?_, h3⟩
  unfold kc123 at h1
  split at h1
  · exact absurd (show (0 : Int32) = 2 from h1) (by decide)
  · split at h1
    · exact absurd (show (1 : Int32) = 2 from h1) (by decide)
    · split at h1
      · rename_i a b c
        rw [an, if_neg a, if_neg b, if_pos c]
      · exact absurd (show (3 : Int32) = 2 from h1) (by decide)
theorem an_123i {g m : Int32 × Int32 × Sg} (h : Eq3 kc123 g m) {v : Int32} {τ : Sg} (hm : m = (1, v, τ)) : an g = -2000000001 ∧ g.2.2 = τ := by
  subst hm
  obtain ⟨h1, h2, h3⟩ := h
  refine ⟨?_, h3⟩
  unfold kc123 at h1
  split at h1
  · exact absurd (show (0 : Int32) = 1 from h1) (by decide)
  · split at h1
    · rename_i a b
      rw [an, if_neg a, if_pos b]
    · split at h1
      · exact absurd (show (2 : Int32) = 1 from h1) (by decide)
      · exact absurd (show (3 : Int32) = 1 from h1) (by decide)
theorem an_23 {g m : Int32 × Int32 × Sg} (h : Eq3 kc23 g m) (hx : ¬ g.1 = 0 → g.1 = 2 ∨ g.1 = 3) {v : Int32} {τ : Sg} (hm : m = (2, v, τ)) : an g = -2000000003 ∧ g.2.2 = τ := by
  subst hm
  obtain ⟨h1, h2, h3⟩ := h
  refine ⟨?_, h3⟩
  unfold kc23 at h1
  split at h1
  · exact absurd (show (0 : Int32) = 2 from h1) (by decide)
  · rename_i a
    split at h1
    · exact absurd (show (1 : Int32) = 2 from h1) (by decide)
    · rename_i b
      exact an_3 ((hx a).resolve_left b)
/-! what is asked -/
theorem isV5 {σ : Sg} (h : σ.1 2 = 5) {k : Nat} (hk : k < 5) : m_isVessel σ (nI k) = 1 := by
  rw [m_isVessel, h]
  match k, hk with
  | 0, _ => decide
  | 1, _ => decide
  | 2, _ => decide
  | 3, _ => decide
  | 4, _ => decide
  | k + 5, h => exact absurd h (by omega)
theorem q_ofV {σ L : Sg} (hI : Inv σ) (hF : F5 σ) (hS : SimV σ L) {k : Nat} (hk : k < 5) :
    (an (g_ofVessel σ (nI k) 0) = L.2 1 k ∧ (g_ofVessel σ (nI k) 0).2.2 = σ) ∧ (an (g_ofVessel σ (nI k) 1) = L.2 2 k ∧ (g_ofVessel σ (nI k) 1).2.2 = σ) ∧ (an (g_ofVessel σ (nI k) 2) = m_strengthOf (L.2 2 k) (L.2 1 k) ∧ (g_ofVessel σ (nI k) 2).2.2 = σ) ∧ (an (g_ofVessel σ (nI k) 3) = nI (k % 3) ∧ (g_ofVessel σ (nI k) 3).2.2 = σ) ∧ (an (g_ofVessel σ (nI k) 4) = L.2 0 k - L.2 1 k ∧ (g_ofVessel σ (nI k) 4).2.2 = σ) := by
  obtain ⟨h0, h1, h2, h3⟩ := hS k hk
  have hv := isV5 hF.1 hk
  have e : ix (nI k) = k := nI_clamp (by omega)
  rw [h0, h1, h2, ← h3]
  have go : ∀ w : Int32, ¬ m_in w 0 4 = 0 → m_ofVessel σ (nI k) w = if w = 0 then (0, σ.2 5 k, σ) else if w = 1 then (0, σ.2 6 k, σ) else if w = 2 then (0, m_strengthOf (σ.2 6 k) (σ.2 5 k), σ) else if w = 3 then (0, σ.2 3 k, σ) else (0, (σ.2 4 k) - (σ.2 5 k), σ) := fun w hw => by
    rw [m_ofVessel, hv, if_neg one_ne0, if_neg hw, e]
  exact ⟨an_ok kc1_0 (e_ofVessel hI _ _) (go 0 (by decide)), an_ok kc1_0 (e_ofVessel hI _ _) (go 1 (by decide)), an_ok kc1_0 (e_ofVessel hI _ _) (go 2 (by decide)), an_ok kc1_0 (e_ofVessel hI _ _) (go 3 (by decide)), an_ok kc1_0 (e_ofVessel hI _ _) (go 4 (by decide))⟩
theorem q_anew {σ L : Sg} (hI : Inv σ) (hF : F5 σ) (hS : SimV σ L) {k : Nat} (hk : k < 5) : an (g_dropsAnew σ (nI k)) = L.2 2 k ∧ (g_dropsAnew σ (nI k)).2.2 = σ := by
  obtain ⟨h0, h1, h2, h3⟩ := hS k hk
  have e : ix (nI k) = k := nI_clamp (by omega)
  rw [h2]
  exact an_ok kc1_0 (e_dropsAnew hI _) (by rw [m_dropsAnew, isV5 hF.1 hk, if_neg one_ne0, e])
theorem isM_n {σ : Sg} (hI : Inv σ) {k : Nat} (hk : k < ix (σ.1 22)) : ¬ m_in (nI k) 0 (σ.1 22 - 1) = 0 := by
  obtain ⟨h1, h2⟩ := cnt_i (j := 22) (n := 30) hI.1.2.1
  have ek : (nI k).toInt = k := nI_toInt (by omega)
  have e1 : (σ.1 22 - 1).toInt = (ix (σ.1 22) : Int) - 1 := cnt_pred hI.1.2.1 (by decide)
  rcases in_01 (nI k) 0 (σ.1 22 - 1) with ⟨a, b⟩ | ⟨a, -⟩
  · exact absurd ⟨by rw [le_i, ti0, ek]; omega, by rw [le_i, ek, e1]; omega⟩ b
  · rw [a]; exact one_ne0
theorem q_ofM {σ L : Sg} (hI : Inv σ) (hS : SimM σ L) {k : Nat} (hk : k < ix (σ.1 22)) :
    (an (g_ofMovement σ (nI k) 0) = L.2 7 k >>> (17 &&& 31) &&& 7 ∧ (g_ofMovement σ (nI k) 0).2.2 = σ) ∧ (an (g_ofMovement σ (nI k) 1) = L.2 7 k >>> (3 &&& 31) &&& 16383 ∧ (g_ofMovement σ (nI k) 1).2.2 = σ) ∧ (an (g_ofMovement σ (nI k) 2) = L.2 8 k ∧ (g_ofMovement σ (nI k) 2).2.2 = σ) ∧ (an (g_ofMovement σ (nI k) 3) = L.2 7 k >>> (20 &&& 31) ∧ (g_ofMovement σ (nI k) 3).2.2 = σ) := by
  obtain ⟨h0, h1⟩ := hS k hk
  have hm := isM_n hI hk
  have h30 : k < 30 := Nat.lt_of_lt_of_le hk hI.1.2.1.2
  have e : ix (nI k) = k := nI_clamp (by omega)
  rw [h0, Mr_s h1, Mr_v h1, Mr_d h1]
  have go : ∀ w : Int32, ¬ m_in w 0 3 = 0 → m_ofMovement σ (nI k) w = if w = 0 then (0, σ.2 23 k, σ) else if w = 1 then (0, σ.2 25 k, σ) else if w = 2 then (0, σ.2 26 k, σ) else (0, σ.2 27 k, σ) := fun w hw => by
    rw [m_ofMovement, if_neg hm, if_neg hw, e]
  exact ⟨an_ok kc1_0 (e_ofMovement hI _ _) (go 0 (by decide)), an_ok kc1_0 (e_ofMovement hI _ _) (go 1 (by decide)), an_ok kc1_0 (e_ofMovement hI _ _) (go 2 (by decide)), an_ok kc1_0 (e_ofMovement hI _ _) (go 3 (by decide))⟩
theorem sm_ext {f g : Nat → Int32} : ∀ {n : Nat}, (∀ i, i < n → f i = g i) → sm f n = sm g n
  | 0, _ => rfl
  | n + 1, h => by rw [sm_s, sm_s, sm_ext (fun i hi => h i (by omega)), h n (by omega)]
theorem sim_mov {σ L : Sg} (hG : SimG σ L) (hS : SimM σ L) : (z_moving L).1 = m_moving σ := by
  show sm (zmf L) (ix (L.2 4 10)) = sm (mvf σ) (ix (σ.1 22))
  rw [hG.2.2.2.2.2.2.2.2.2.2.1]
  refine sm_ext (fun i hi => ?_)
  obtain ⟨a, b⟩ := hS i hi
  rw [zmf, mvf, Mr_s b, a]
theorem sim_lots {σ L : Sg} (hS : SimL σ L) : sm (L.2 5) (ix (σ.1 18)) = m_inLots σ := sm_ext (fun i hi => (hS i hi).1)
theorem sim_held {σ L : Sg} (hF : F5 σ) (hS : SimV σ L) : sm (L.2 2) 5 = m_inVessels σ := by
  rw [m_inVessels, hF.1]
  exact sm_ext (fun i hi => (hS i hi).2.2.1)
theorem q_ledger {σ L : Sg} (hF : F5 σ) (h : Sim σ L) :
    (an (g_ledger σ 0) = L.2 4 11 ∧ (g_ledger σ 0).2.2 = σ) ∧ (an (g_ledger σ 1) = sm (L.2 2) 5 ∧ (g_ledger σ 1).2.2 = σ) ∧ (an (g_ledger σ 2) = (z_moving L).1 ∧ (g_ledger σ 2).2.2 = σ) ∧ (an (g_ledger σ 3) = sm (L.2 5) (ix (σ.1 18)) ∧ (g_ledger σ 3).2.2 = σ) ∧ (an (g_ledger σ 4) = L.2 4 12 ∧ (g_ledger σ 4).2.2 = σ) ∧ (an (g_ledger σ 5) = L.2 4 13 ∧ (g_ledger σ 5).2.2 = σ) ∧ (an (g_ledger σ 6) = L.2 4 14 ∧ (g_ledger σ 6).2.2 = σ) ∧ (an (g_ledger σ 7) = L.2 4 15 ∧ (g_ledger σ 7).2.2 = σ) := by
  obtain ⟨hV, -, hG, hL, hM⟩ := h
  rw [sim_held hF hV, sim_mov hG hM, sim_lots hL]
  obtain ⟨-, -, -, -, -, -, -, -, -, -, -, g11, g12, g13, g14, g15⟩ := hG
  rw [g11, g12, g13, g14, g15]
  have go : ∀ w : Int32, ¬ m_in w 0 7 = 0 → m_ledger σ w = if w = 1 then (0, m_inVessels σ, σ) else if w = 2 then (0, m_moving σ, σ) else if w = 3 then (0, m_inLots σ, σ) else (0, σ.2 10 (ix w), σ) := fun w hw => by rw [m_ledger, if_neg hw]
  exact ⟨an_ok kc1_0 (e_ledger _) (go 0 (by decide)), an_ok kc1_0 (e_ledger _) (go 1 (by decide)), an_ok kc1_0 (e_ledger _) (go 2 (by decide)), an_ok kc1_0 (e_ledger _) (go 3 (by decide)), an_ok kc1_0 (e_ledger _) (go 4 (by decide)), an_ok kc1_0 (e_ledger _) (go 5 (by decide)), an_ok kc1_0 (e_ledger _) (go 6 (by decide)), an_ok kc1_0 (e_ledger _) (go 7 (by decide))⟩
theorem q_duty {σ L : Sg} (h : Sim σ L) :
    (an (g_duty σ 0) = L.2 4 2 ∧ (g_duty σ 0).2.2 = σ) ∧ (an (g_duty σ 1) = L.2 4 1 ∧ (g_duty σ 1).2.2 = σ) ∧ (an (g_duty σ 2) = (if L.2 4 3 = -1 then -1 else L.2 4 5) ∧ (g_duty σ 2).2.2 = σ) ∧ (an (g_duty σ 3) = 1000000 - L.2 4 6 ∧ (g_duty σ 3).2.2 = σ) ∧ (an (g_duty σ 4) = L.2 4 7 ∧ (g_duty σ 4).2.2 = σ) ∧ (an (g_duty σ 5) = L.2 4 8 - m_part (z_moving L).1 (L.2 4 1) 1000 ∧ (g_duty σ 5).2.2 = σ) := by
  obtain ⟨hV, -, hG, hL, hM⟩ := h
  rw [sim_mov hG hM]
  obtain ⟨g0, g1, g2, g3, g4, g5, g6, g7, g8, -⟩ := hG
  rw [g1, g2, g3, g5, g6, g7, g8]
  have go : ∀ w : Int32, ¬ m_in w 0 5 = 0 → m_duty σ w = if w = 0 then (0, σ.1 12, σ) else if w = 1 then (0, σ.1 11, σ) else if w = 2 then (if (σ.1 13) = (-1) then (0, (-1), σ) else (0, σ.1 15, σ)) else if w = 3 then (0, 1000000 - (σ.1 16), σ) else if w = 4 then (0, σ.1 17, σ) else (0, (σ.1 21) - (m_dutyFor σ (m_moving σ) (σ.1 11)), σ) := fun w hw => by rw [m_duty, if_neg hw]
  exact ⟨an_ok kc1_0 (e_duty _) (go 0 (by decide)), an_ok kc1_0 (e_duty _) (go 1 (by decide)), an_ok kc1_0 (e_duty _) ((go 2 (by decide)).trans (by
    show (if (σ.1 13) = (-1) then ((0 : Int32), ((-1) : Int32), σ) else (0, σ.1 15, σ)) = _
    split <;> rfl)), an_ok kc1_0 (e_duty _) (go 3 (by decide)), an_ok kc1_0 (e_duty _) (go 4 (by decide)), an_ok kc1_0 (e_duty _) (go 5 (by decide))⟩
