/-! ===== a turn, case by case: the pure side ===== -/
theorem fin_yes {kc : Int32 → Int32} {g m : Int32 × Int32 × Sg} {T : Nat} {v r d : Int32} {τ L' : Sg} (hk : ∀ {x}, kc x = 0 → x = 0) (h3 : R3 kc g m) (hm : m = (0, v, τ)) (hF : F5 τ) (hS : Sim τ L') (hq : cq τ = 0) (hB : Bd (T + 1) τ) (h8 : τ.1 8 = r) (h9 : τ.1 9 = d) : an g = v ∧ TI (T + 1) g.2.2 L' ∧ g.2.2.1 8 = r ∧ g.2.2.1 9 = d := by
  obtain ⟨e1, e2⟩ := an_ok hk h3.1 hm
  have hI := h3.2
  rw [hm] at hI
  rw [e2]
  exact ⟨e1, ⟨hI, hF, hS, hq, hB⟩, h8, h9⟩
theorem ti_v {T : Nat} {σ L : Sg} (h : TI T σ L) {k : Int32} (hk : vp_in k 5) : VI σ (ix k) ∧ ix k < ix (σ.1 2) ∧ L.2 0 (ix k) = σ.2 4 (ix k) ∧ L.2 1 (ix k) = σ.2 5 (ix k) ∧ L.2 2 (ix k) = σ.2 6 (ix k) ∧ σ.2 3 (ix k) = nI (ix k % 3) ∧ m_isVessel σ k = 1 := by
  obtain ⟨hI, hF, hS, -, -⟩ := h
  have h5 := vp5 hk
  obtain ⟨a, b, c, e⟩ := hS.1 _ h5
  have hi : ix k < ix (σ.1 2) := by rw [ix5 hF]; exact h5
  refine ⟨hI.2.1 _ hi, hi, a, b, c, e, ?_⟩
  have := isV5 hF.1 h5
  rwa [← (vp5n hk).1] at this
theorem in_y {x a b : Int32} (ha : a.toInt ≤ x.toInt) (hb : x.toInt ≤ b.toInt) : m_in x a b = 1 := by
  rw [m_in, if_neg (by rw [lt_i]; omega), if_neg (by rw [lt_i]; omega)]
theorem in_n {x a b : Int32} (ha : a.toInt ≤ x.toInt) (hb : x.toInt ≤ b.toInt) : ¬ m_in x a b = 0 := by rw [in_y ha hb]; exact one_ne0
theorem hv_no {σ L : Sg} {k so hv : Int32} (hhv : hv = if L.2 1 (ix k) < so then 0 else 1) (c : hv = 0) : L.2 1 (ix k) < so := by
  rw [c] at hhv
  split at hhv
  · assumption
  · exact absurd hhv (by decide)
theorem hv_has {T : Nat} {σ L : Sg} (h : TI T σ L) {k so hv : Int32} (hk : vp_in k 5) (hso : 1 ≤ so.toInt ∧ so.toInt ≤ 10002) (hhv : hv = if L.2 1 (ix k) < so then 0 else 1) (c : ¬ hv = 0) : so.toInt ≤ (σ.2 5 (ix k)).toInt ∧ ¬ L.2 1 (ix k) = 0 := by
  have hn : ¬ L.2 1 (ix k) < so := fun q => c (by rw [hhv, if_pos q])
  rw [lt_i] at hn
  obtain ⟨-, -, -, e, -⟩ := ti_v h hk
  refine ⟨by rw [← e]; omega, fun q => ?_⟩
  rw [q, ti0] at hn
  omega
theorem day_0 {T : Nat} {σ L : Sg} (h : TI T σ L) : 0 ≤ σ.1 1 := by rw [le_i, ti0]; exact (day_i h.1).1
theorem cz10 {T : Nat} {σ L : Sg} (h : TI T σ L) : Cz (L.2 4 10) 30 := by
  have h1 := h.1.1.2.1
  unfold Cnt at h1
  rw [← h.2.2.1.2.2.1.2.2.2.2.2.2.2.2.2.2.1] at h1
  exact h1
theorem cz9 {T : Nat} {σ L : Sg} (h : TI T σ L) : Cz (L.2 4 9) 40 := by
  have h1 := h.1.1.2.2
  unfold Cnt at h1
  have e := h.2.2.1.2.2.1.2.2.2.2.2.2.2.2.2.1
  rw [← e] at h1
  exact ⟨h1.1, by rw [e]; exact h.2.1.2⟩
/-! every drop has a place: the steps -/
theorem cq_takes {S : Sg} (hF : F5 S) {k : Int32} (hk : vp_in k 5) (p : Int32) : cq (m_takes S k p).2 = cq S - (m_takes S k p).1 := by
  show sm (upd (S.2 6) (ix k) (S.2 6 (ix k) - m_part (S.2 6 (ix k)) p (S.2 5 (ix k)))) (ix (S.1 2)) + m_moving S + m_inLots S + S.2 10 4 + S.2 10 5 + S.2 10 6 - S.2 10 0 = _ - m_part (S.2 6 (ix k)) p (S.2 5 (ix k))
  rw [sm_upd (by rw [ix5 hF]; exact vp5 hk), cq, m_inVessels]
  grind
theorem cq_comes {S : Sg} (hF : F5 S) {k : Int32} (hk : vp_in k 5) (p q : Int32) : cq (m_comes S k p q) = cq S + q := by
  show sm (upd (S.2 6) (ix k) (S.2 6 (ix k) + q)) (ix (S.1 2)) + m_moving S + m_inLots S + S.2 10 4 + S.2 10 5 + S.2 10 6 - S.2 10 0 = _
  rw [sm_upd (by rw [ix5 hF]; exact vp5 hk), cq, m_inVessels]
  grind
theorem cq_v {S : Sg} (hF : F5 S) {k : Int32} (hk : vp_in k 5) (v d : Int32) : cq (bs (bs S 5 (ix k) v) 6 (ix k) d) = cq S - S.2 6 (ix k) + d := by
  show sm (upd (S.2 6) (ix k) d) (ix (S.1 2)) + m_moving S + m_inLots S + S.2 10 4 + S.2 10 5 + S.2 10 6 - S.2 10 0 = _
  rw [sm_upd (by rw [ix5 hF]; exact vp5 hk), cq, m_inVessels]
  grind
theorem cq_misses (S : Sg) (q : Int32) : cq (m_misses S q).2 = cq S + q := by
  show m_inVessels S + m_moving S + m_inLots S + S.2 10 4 + (S.2 10 5 + q) + S.2 10 6 - S.2 10 0 = _
  rw [cq]
  grind
theorem cq_b0 (S : Sg) (v : Int32) : cq (bs S 10 0 v) = cq S + S.2 10 0 - v := by
  show m_inVessels S + m_moving S + m_inLots S + S.2 10 4 + S.2 10 5 + S.2 10 6 - v = _
  rw [cq]
  grind
theorem cq_b4 (S : Sg) (v : Int32) : cq (bs S 10 4 v) = cq S - S.2 10 4 + v := by
  show m_inVessels S + m_moving S + m_inLots S + v + S.2 10 5 + S.2 10 6 - S.2 10 0 = _
  rw [cq]
  grind
/-! what is owed: a step -/
theorem bd_owed {T : Nat} {S S' : Sg} (hT : T ≤ 120) (hI : Inv S) (hB : Bd T S) {x : Int32} (hx : 0 ≤ x.toInt) (hx2 : x.toInt ≤ 1000000) (e12 : S'.1 12 = S.1 12 + x) (eA : BdA S') (e18 : S'.1 18 = S.1 18) (e19 : S'.2 19 = S.2 19) (e20 : S'.2 20 = S.2 20) (eM : mvc S' ≤ mvc S) (e1 : S'.1 1 = S.1 1) : Bd (T + 1) S' := by
  have hb := owed_up hT hI hB hx hx2
  have h1 : ppc S' = ppc S := by unfold ppc; rw [e18, e20]
  refine ⟨eA, ?_, bd_up hI hB.2.2 e1 ?_ ?_⟩
  · intro i hi
    rw [e19, e20]
    exact hB.2.1 i (by rw [← e18]; exact hi)
  · rw [h1, e12, hb]
    have := hB.2.2.1
    omega
  · rw [e12, hb]
    omega
theorem i0 {x : Int32} : x + 0 = x := by grind
theorem z0i : (0 : Int32).toInt = 0 := by decide
/-- nothing of what is owed changes -/
theorem bd_same {T : Nat} {S S' : Sg} (hI : Inv S) (hB : Bd T S) (e12 : S'.1 12 = S.1 12) (eA : BdA S') (e18 : S'.1 18 = S.1 18) (e19 : S'.2 19 = S.2 19) (e20 : S'.2 20 = S.2 20) (eM : mvc S' ≤ mvc S) (e1 : S'.1 1 = S.1 1) : Bd (T + 1) S' := by
  have h1 : ppc S' = ppc S := by unfold ppc; rw [e18, e20]
  refine ⟨eA, ?_, bd_up hI hB.2.2 e1 ?_ ?_⟩
  · intro i hi
    rw [e19, e20]
    exact hB.2.1 i (by rw [← e18]; exact hi)
  · rw [h1, e12]
    exact hB.2.2.1
  · rw [e12]
    omega
/-! a run -/
theorem run_m {T : Nat} {σ L : Sg} (h : TI T σ L) {k wash hard came stre : Int32} (hk : vp_in k 5) (rw_ : 1000 ≤ wash.toInt ∧ wash.toInt ≤ 8999) (rh : 1 ≤ hard.toInt ∧ hard.toInt ≤ 300) (rc : 1 ≤ came.toInt ∧ came.toInt ≤ 9999) (rs : 500 ≤ stre.toInt ∧ stre.toInt ≤ 960) :
    m_run σ k wash hard came stre = if wash * hard < came * stre then (3, 0, σ) else if 60 ≤ σ.1 8 then (3, 0, σ) else if σ.2 4 (ix k) < σ.2 5 (ix k) + came then (3, 0, σ) else (0, (if 0 ≤ 9 * wash * hard / 10 - came * stre then 9 * wash * hard / 10 - came * stre else 0), m_comes (bs (zs (bs (zs σ 8 (σ.1 8 + 1)) 10 7 (σ.2 10 7 + (if 0 ≤ 9 * wash * hard / 10 - came * stre then 9 * wash * hard / 10 - came * stre else 0))) 12 (σ.1 12 + m_part (if 0 ≤ 9 * wash * hard / 10 - came * stre then 9 * wash * hard / 10 - came * stre else 0) (σ.1 11) 1000)) 10 0 (σ.2 10 0 + came * stre)) k came (came * stre)) := by
  have e1 : (1 : Int32).toInt = 1 := by decide
  have e2 : (9999 : Int32).toInt = 9999 := by decide
  have e3 : (300 : Int32).toInt = 300 := by decide
  have e4 : (960 : Int32).toInt = 960 := by decide
  have hr : (m_hasRoom σ k came = 0) = (σ.2 4 (ix k) < σ.2 5 (ix k) + came) := by
    unfold m_hasRoom
    by_cases q : σ.2 4 (ix k) < σ.2 5 (ix k) + came
    · rw [if_pos q]; exact propext ⟨fun _ => q, fun _ => rfl⟩
    · rw [if_neg q]; exact propext ⟨fun z => absurd z one_ne0, fun z => absurd z q⟩
  rw [m_run, if_neg (in_n (by omega) (by omega)), if_neg (in_n (by omega) (by omega)), if_neg (in_n (by omega) (by omega)), if_neg (in_n (by omega) (by omega)), if_neg (by rw [(ti_v h hk).2.2.2.2.2.2]; exact one_ne0)]
  simp only [hr]
  split
  · rfl
  · split
    · rfl
    · split
      · rfl
      · by_cases q : 0 ≤ 9 * wash * hard / 10 - came * stre
        · rw [if_pos q, if_pos q]; rfl
        · rw [if_neg q, if_neg q]; rfl
theorem p_run_no {T : Nat} {σ L : Sg} (h : TI T σ L) {k wash hard came stre mf : Int32} (hk : vp_in k 5) (rw_ : 1000 ≤ wash.toInt ∧ wash.toInt ≤ 8999) (rh : 1 ≤ hard.toInt ∧ hard.toInt ≤ 300) (rc : 1 ≤ came.toInt ∧ came.toInt ≤ 9999) (rs : 500 ≤ stre.toInt ∧ stre.toInt ≤ 960)
    (hm : mf = if wash * hard < came * stre then 0 else (if L.2 0 (ix k) < L.2 1 (ix k) + came then 0 else 1)) (c : mf = 0) : an (g_run σ k wash hard came stre) = -2000000003 ∧ (g_run σ k wash hard came stre).2.2 = σ := by
  obtain ⟨-, -, e0, e1, -⟩ := ti_v h hk
  rw [c, e0, e1] at hm
  refine an_123 (r_run h.1 k wash hard came stre).1 (v := 0) ?_
  rw [run_m h hk rw_ rh rc rs]
  by_cases q1 : wash * hard < came * stre
  · rw [if_pos q1]
  rw [if_neg q1]
  by_cases q2 : 60 ≤ σ.1 8
  · rw [if_pos q2]
  rw [if_neg q2]
  by_cases q3 : σ.2 4 (ix k) < σ.2 5 (ix k) + came
  · rw [if_pos q3]
  rw [if_neg q1, if_neg q3] at hm
  exact absurd hm (by decide)
theorem p_run_yes {T : Nat} {σ L : Sg} (hT : T < 120) (h : TI T σ L) {k wash hard came stre mf less : Int32} (hk : vp_in k 5) (rw_ : 1000 ≤ wash.toInt ∧ wash.toInt ≤ 8999) (rh : 1 ≤ hard.toInt ∧ hard.toInt ≤ 300) (rc : 1 ≤ came.toInt ∧ came.toInt ≤ 9999) (rs : 500 ≤ stre.toInt ∧ stre.toInt ≤ 960)
    (hm : mf = if wash * hard < came * stre then 0 else (if L.2 0 (ix k) < L.2 1 (ix k) + came then 0 else 1)) (c : ¬ mf = 0) (hless : less = if 0 ≤ 9 * wash * hard / 10 - came * stre then 9 * wash * hard / 10 - came * stre else 0) (c6 : ¬ σ.1 8 = 60) :
    an (g_run σ k wash hard came stre) = less ∧ TI (T + 1) (g_run σ k wash hard came stre).2.2 (z_pours (bs (bs (bs L 4 15 (L.2 4 15 + less)) 4 2 (L.2 4 2 + m_part less (L.2 4 1) 1000)) 4 11 (L.2 4 11 + came * stre)) k came (came * stre)).2 ∧ (g_run σ k wash hard came stre).2.2.1 8 = σ.1 8 + 1 ∧ (g_run σ k wash hard came stre).2.2.1 9 = σ.1 9 := by
  obtain ⟨hv, hi, e0, e1, -⟩ := ti_v h hk
  have q1 : ¬ wash * hard < came * stre := fun q => c (by rw [hm, if_pos q])
  have q3 : ¬ σ.2 4 (ix k) < σ.2 5 (ix k) + came := fun q => c (by rw [hm, if_neg q1, e0, e1, if_pos q])
  obtain ⟨hI, hF, hS, hq, hB⟩ := h
  have b8 := hB.1.1
  have b11 := hB.1.2.1
  have q2 : ¬ 60 ≤ σ.1 8 := fun q => c6 (i_eq (by rw [le_i, show (60 : Int32).toInt = 60 by decide] at q; rw [show (60 : Int32).toInt = 60 by decide]; omega))
  have hw9 : (9 * wash).toInt = 9 * wash.toInt := by rw [i_mul (by rw [show (9 : Int32).toInt = 9 by decide]; omega) (by rw [show (9 : Int32).toInt = 9 by decide]; omega)]; rfl
  have hp : 0 ≤ wash.toInt * hard.toInt ∧ wash.toInt * hard.toInt ≤ 8999 * 300 := ⟨Int.mul_nonneg (by omega) (by omega), Int.mul_le_mul (by omega) (by omega) (by omega) (by omega)⟩
  have hw9h : (9 * wash * hard).toInt = 9 * (wash.toInt * hard.toInt) := by
    have e : 9 * wash.toInt * hard.toInt = 9 * (wash.toInt * hard.toInt) := by rw [Int.mul_assoc]
    rw [i_mul (by rw [hw9, e]; omega) (by rw [hw9, e]; omega), hw9, e]
  have hx : (9 * wash * hard / 10).toInt = 9 * (wash.toInt * hard.toInt) / 10 := by rw [i_div (by rw [hw9h]; omega) (by decide), hw9h]; rfl
  have hcs : 0 ≤ came.toInt * stre.toInt ∧ came.toInt * stre.toInt ≤ 9999 * 960 := ⟨Int.mul_nonneg (by omega) (by omega), Int.mul_le_mul (by omega) (by omega) (by omega) (by omega)⟩
  have hcs2 : came.toInt * stre.toInt ≤ 960 * came.toInt := by rw [Int.mul_comm]; exact Int.mul_le_mul_of_nonneg_right (by omega) (by omega)
  have hprod : (came * stre).toInt = came.toInt * stre.toInt := i_mul (by omega) (by omega)
  have hxp : (9 * wash * hard / 10 - came * stre).toInt = 9 * (wash.toInt * hard.toInt) / 10 - came.toInt * stre.toInt := by rw [i_sub (by rw [hx, hprod]; omega) (by rw [hx, hprod]; omega), hx, hprod]
  have hlb : 0 ≤ less.toInt ∧ less.toInt ≤ 10000000 := by
    rw [hless]
    split
    · rename_i q
      rw [le_i, ti0] at q
      omega
    · decide
  obtain ⟨d0, -, d2⟩ := duty_b hlb.1 hlb.2 b11.1 b11.2
  have hmr := run_m ⟨hI, hF, hS, hq, hB⟩ hk rw_ rh rc rs
  rw [if_neg q1, if_neg q2, if_neg q3, ← hless] at hmr
  have hG := hS.2.2.1
  refine fin_yes kc123_0 (r_run hI k wash hard came stre) hmr hF ?_ ?_ ?_ rfl rfl
  · refine sim_pour (sim_g11 (sim_g2 (sim_g15 (sim_z8 hS _) ?_) ?_) ?_) hk hv (by omega) (by omega) (by omega) (by omega)
    · rw [hG.2.2.2.2.2.2.2.2.2.2.2.2.2.2.2]
    · rw [hG.2.2.1, hG.2.1]
    · rw [hG.2.2.2.2.2.2.2.2.2.2.2.1]
  · rw [cq_comes (S := bs (zs (bs (zs σ 8 (σ.1 8 + 1)) 10 7 (σ.2 10 7 + less)) 12 (σ.1 12 + m_part less (σ.1 11) 1000)) 10 0 (σ.2 10 0 + came * stre)) hF hk, cq_b0]
    show cq σ + σ.2 10 0 - (σ.2 10 0 + came * stre) + came * stre = 0
    grind
  · refine bd_owed (by omega) hI hB d0 (by omega) rfl ⟨?_, hB.1.2⟩ rfl rfl rfl (Int.le_refl _) rfl
    show 0 ≤ (σ.1 8 + 1).toInt ∧ (σ.1 8 + 1).toInt ≤ 60
    have : (σ.1 8).toInt ≠ 60 := fun q => c6 (i_eq (by rw [q]; decide))
    rw [i_add (by rw [ti1]; omega) (by rw [ti1]; omega), ti1]
    omega
/-! a move -/
theorem p_move_same {T : Nat} {σ L : Sg} (h : TI T σ L) {k : Int32} (hk : vp_in k 5) : an (g_move σ k k 1) = -2000000002 ∧ (g_move σ k k 1).2.2 = σ := by
  obtain ⟨-, -, -, -, -, -, e⟩ := ti_v h hk
  refine an_123r (r_move h.1 k k 1).1 (v := 0) ?_
  rw [m_move, if_neg (by rw [e]; exact one_ne0), if_neg (by rw [e]; exact one_ne0), if_pos rfl]
theorem place_iff {T : Nat} {σ L : Sg} (h : TI T σ L) {k o : Int32} (hk : vp_in k 5) (ho : vp_in o 5) : (σ.2 3 (ix k) = σ.2 3 (ix o)) = (k - k / 3 * 3 = o - o / 3 * 3) := by
  obtain ⟨-, -, -, -, -, ek, -⟩ := ti_v h hk
  obtain ⟨-, -, -, -, -, eo, -⟩ := ti_v h ho
  have hk2 := r3 (vp5 hk)
  have ho2 := r3 (vp5 ho)
  rw [← (vp5n hk).1] at hk2
  rw [← (vp5n ho).1] at ho2
  rw [ek, eo, hk2, ho2]
theorem move_m {T : Nat} {σ L : Sg} (h : TI T σ L) {k o so : Int32} (hk : vp_in k 5) (ho : vp_in o 5) (hso : 1 ≤ so.toInt) (hne : ¬ k = o) : m_move σ k o so = if k - k / 3 * 3 = o - o / 3 * 3 then (if L.2 1 (ix k) < so then (3, 0, σ) else if L.2 0 (ix o) < L.2 1 (ix o) + so then (3, 0, σ) else (0, (m_comes ((m_takes σ k so).2) o so ((m_takes σ k so).1)).2 5 (ix o), m_comes ((m_takes σ k so).2) o so ((m_takes σ k so).1))) else (3, 0, σ) := by
  obtain ⟨-, -, -, k1, -, -, kv⟩ := ti_v h hk
  obtain ⟨-, -, o0, o1, -, -, ov⟩ := ti_v h ho
  rw [m_move, if_neg (by rw [kv]; exact one_ne0), if_neg (by rw [ov]; exact one_ne0), if_neg hne, if_pos (by rw [le_i, ti1]; exact hso), k1, o0, o1]
  simp only [place_iff h hk ho]
  have h1 : (m_hasPart σ k so = 0) = (σ.2 5 (ix k) < so) := by
    unfold m_hasPart
    by_cases q : σ.2 5 (ix k) < so
    · rw [if_pos q]; exact propext ⟨fun _ => q, fun _ => rfl⟩
    · rw [if_neg q]; exact propext ⟨fun z => absurd z one_ne0, fun z => absurd z q⟩
  have h2 : (m_hasRoom σ o so = 0) = (σ.2 4 (ix o) < σ.2 5 (ix o) + so) := by
    unfold m_hasRoom
    by_cases q : σ.2 4 (ix o) < σ.2 5 (ix o) + so
    · rw [if_pos q]; exact propext ⟨fun _ => q, fun _ => rfl⟩
    · rw [if_neg q]; exact propext ⟨fun z => absurd z one_ne0, fun z => absurd z q⟩
  simp only [h1, h2]
def mvT (L : Sg) (k o so hv : Int32) : Int32 := if k - k / 3 * 3 = o - o / 3 * 3 then (if hv = 0 then 0 else (if L.2 0 (ix o) < L.2 1 (ix o) + so then 0 else 1)) else 0
theorem p_move_no {T : Nat} {σ L : Sg} (h : TI T σ L) {k o so hv mg : Int32} (hk : vp_in k 5) (ho : vp_in o 5) (hso : 1 ≤ so.toInt ∧ so.toInt ≤ 10002) (hhv : hv = if L.2 1 (ix k) < so then 0 else 1) (hne : ¬ k = o) (hm : mg = mvT L k o so hv) (c : mg = 0) : an (g_move σ k o so) = -2000000003 ∧ (g_move σ k o so).2.2 = σ := by
  refine an_123 (r_move h.1 k o so).1 (v := 0) ?_
  rw [move_m h hk ho hso.1 hne]
  rw [c, mvT] at hm
  by_cases q1 : k - k / 3 * 3 = o - o / 3 * 3
  · rw [if_pos q1]
    rw [if_pos q1] at hm
    by_cases q2 : L.2 1 (ix k) < so
    · rw [if_pos q2]
    rw [if_neg q2]
    rw [if_neg q2] at hhv
    rw [hhv, if_neg one_ne0] at hm
    by_cases q3 : L.2 0 (ix o) < L.2 1 (ix o) + so
    · rw [if_pos q3]
    rw [if_neg q3] at hm
    exact absurd hm (by decide)
  · rw [if_neg q1]
theorem mv_yes {L : Sg} {k o so hv mg : Int32} (hm : mg = mvT L k o so hv) (c : ¬ mg = 0) : k - k / 3 * 3 = o - o / 3 * 3 ∧ ¬ hv = 0 ∧ ¬ L.2 0 (ix o) < L.2 1 (ix o) + so := by
  rw [hm, mvT] at c
  by_cases q1 : k - k / 3 * 3 = o - o / 3 * 3
  · rw [if_pos q1] at c
    by_cases q2 : hv = 0
    · rw [if_pos q2] at c; exact absurd rfl c
    · rw [if_neg q2] at c
      by_cases q3 : L.2 0 (ix o) < L.2 1 (ix o) + so
      · rw [if_pos q3] at c; exact absurd rfl c
      · exact ⟨q1, q2, q3⟩
  · rw [if_neg q1] at c; exact absurd rfl c
theorem p_move_yes {T : Nat} {σ L : Sg} (h : TI T σ L) {k o so hv mg : Int32} (hk : vp_in k 5) (ho : vp_in o 5) (hso : 1 ≤ so.toInt ∧ so.toInt ≤ 10002) (hhv : hv = if L.2 1 (ix k) < so then 0 else 1) (hne : ¬ k = o) (hm : mg = mvT L k o so hv) (c : ¬ mg = 0) : an (g_move σ k o so) = (z_pours (z_draws L k so).2 o so (z_draws L k so).1).2.2 1 (ix o) ∧ TI (T + 1) (g_move σ k o so).2.2 (z_pours (z_draws L k so).2 o so (z_draws L k so).1).2 ∧ (g_move σ k o so).2.2.1 8 = σ.1 8 ∧ (g_move σ k o so).2.2.1 9 = σ.1 9 := by
  obtain ⟨q1, q2, q3⟩ := mv_yes hm c
  obtain ⟨hle, hV0⟩ := hv_has h hk hso hhv q2
  have n2 : ¬ L.2 1 (ix k) < so := fun q => q2 (by rw [hhv, if_pos q])
  have hmm := move_m h hk ho hso.1 hne
  rw [if_pos q1, if_neg n2, if_neg q3] at hmm
  obtain ⟨vk, ik, k0, k1, -⟩ := ti_v h hk
  obtain ⟨vo, io, o0, o1, -⟩ := ti_v h ho
  obtain ⟨hI, hF, hS, hq, hB⟩ := h
  obtain ⟨d1, d2⟩ := sim_draw hS hk so
  obtain ⟨t1, t2, t3, t4, t5⟩ := take_ok hI (x := k) ik hso.1 hle
  have hvo : VI (m_takes σ k so).2 (ix o) := by rw [t2]; exact t3.2.1 _ io
  have hsim : Sim (m_comes (m_takes σ k so).2 o so (m_takes σ k so).1) (z_pours (z_draws L k so).2 o so (z_draws L k so).1).2 := by
    rw [d1]
    exact sim_pour d2 ho hvo (by omega) (by have := vk.2.1; have := vk.2.2.1; omega) t4 t5
  rw [← (hsim.1 _ (vp5 ho)).2.1] at hmm
  refine fin_yes kc123_0 (r_move hI k o so) hmm hF hsim ?_ ?_ rfl rfl
  · rw [cq_comes (S := (m_takes σ k so).2) hF ho, cq_takes hF hk, hq]
    grind
  · exact bd_same hI hB rfl hB.1 rfl rfl rfl (Int.le_refl _) rfl
