/-! exports -/
def ts (S : Sg) (k n : Nat) : Int := smI (fun i => (S.2 19 (k + i)).toInt) n
theorem smI_h (g : Nat → Int) (k : Nat) : ∀ n : Nat, smI (fun i => g (k + i)) (n + 1) = g k + smI (fun i => g (k + 1 + i)) n
  | 0 => by
    show 0 + g (k + 0) = g k + 0
    rw [Nat.add_zero]
    omega
  | n + 1 => by
    rw [smI_s, smI_h g k n, smI_s, show k + (n + 1) = k + 1 + n by omega]
    omega
theorem ts_h (S : Sg) (k n : Nat) : ts S k (n + 1) = (S.2 19 k).toInt + ts S (k + 1) n := smI_h (fun i => (S.2 19 i).toInt) k n
theorem ts_ext {S S' : Sg} {k n : Nat} (h : ∀ i, k ≤ i → S'.2 19 i = S.2 19 i) : ts S' k n = ts S k n := smI_ext (fun i _ => by rw [h (k + i) (by omega)])
theorem sm_int {f : Nat → Int32} {B : Int} : ∀ {n : Nat}, (∀ i, i < n → 0 ≤ (f i).toInt ∧ (f i).toInt ≤ B) → (n : Int) * B < 2147483648 → (sm f n).toInt = smI (fun i => (f i).toInt) n ∧ 0 ≤ smI (fun i => (f i).toInt) n ∧ smI (fun i => (f i).toInt) n ≤ n * B
  | 0, _, _ => ⟨ti0, Int.le_refl _, by show (0 : Int) ≤ ((0 : Nat) : Int) * B; rw [Int.natCast_zero, Int.zero_mul]; exact Int.le_refl _⟩
  | n + 1, h, hB => by
    have hn := h n (by omega)
    rw [Int.natCast_add, Int.add_mul] at hB
    obtain ⟨a, b, c⟩ := sm_int (f := f) (B := B) (n := n) (fun i hi => h i (by omega)) (by omega)
    rw [sm_s, smI_s, i_add (by omega) (by omega), a, Int.natCast_add, Int.add_mul]
    omega
theorem lot_0 {S : Sg} (h : Inv S) {i : Nat} (hi : i < ix (S.1 18)) : 0 ≤ (S.2 19 i).toInt := h.2.2.2.2.2.1 i hi
/-- the loop over the lots: R is what comes of it -/
def XI (σ : Sg) (asked : Int32) (R : Int32 × Sg) (n k : Nat) (left back : Int32) (S L : Sg) : Prop :=
  n + k = ix (σ.1 18) ∧ exl n k left back S = R ∧ Sim S L ∧ S.1 = σ.1 ∧ (∀ j, j ≠ 19 → j ≠ 20 → S.2 j = σ.2 j) ∧ BdL S ∧ (∀ i, i < ix (σ.1 18) → 0 ≤ (S.2 19 i).toInt) ∧ 0 ≤ left.toInt ∧ left.toInt ≤ ts S k n ∧ m_inLots S = m_inLots σ - (asked - left) ∧ ppc S + back.toInt = ppc σ ∧ 0 ≤ back.toInt
theorem xi_lt {σ : Sg} {asked : Int32} {R : Int32 × Sg} {n k : Nat} {left back : Int32} {S L : Sg} (h : XI σ asked R n k left back S L) (c : ¬ left ≤ 0) : ∃ n', n = n' + 1 := by
  obtain ⟨-, -, -, -, -, -, -, h8, h9, -⟩ := h
  rcases n with _ | n
  · rw [le_i, ti0] at c
    have : ts S k 0 = 0 := rfl
    omega
  · exact ⟨n, rfl⟩
theorem xi_0 {σ : Sg} {asked : Int32} {R : Int32 × Sg} {n k : Nat} {left back : Int32} {S L : Sg} (h : XI σ asked R (n + 1) k left back S L) (hF : F5 σ) (c : ¬ left ≤ 0) (c0 : L.2 5 k = 0) : XI σ asked R n (k + 1) left back S L := by
  obtain ⟨h1, h2, h3, h4, h5, h6, h7, h8, h9, h10, h11, h12⟩ := h
  have hk : k < ix (S.1 18) := by rw [h4]; omega
  have e0 : S.2 19 k = 0 := by rw [← (h3.2.2.2.1 k hk).1]; exact c0
  have es : ex_some left S k = 0 := by
    unfold ex_some
    rw [e0, m_least, if_pos (by rw [le_i] at c ⊢; omega)]
  have ei : ex_its left S k = 0 := by
    have : m_least left (S.2 19 k) = 0 := es
    unfold ex_its
    rw [if_pos this]
  have eS : ex_s left S k = S := by
    unfold ex_s
    rw [es, ei, show S.2 19 k - 0 = S.2 19 k by grind, bs_self, show S.2 20 k - 0 = S.2 20 k by grind, bs_self]
  rw [exl_s, if_neg c, es, ei, eS, show left - 0 = left by grind, show back + 0 = back by grind] at h2
  rw [ts_h, e0, ti0] at h9
  exact ⟨by omega, h2, h3, h4, h5, h6, h7, h8, by omega, h10, h11, h12⟩
theorem xi_s {σ : Sg} {asked : Int32} {R : Int32 × Sg} {n k : Nat} {left back took its : Int32} {S L : Sg} (h : XI σ asked R (n + 1) k left back S L) (hF : F5 σ) (hBL : BdL σ) (c : ¬ left ≤ 0) (c0 : ¬ L.2 5 k = 0) (ht : took = if left ≤ L.2 5 k then left else L.2 5 k) (hi : its = m_part (L.2 6 k) took (L.2 5 k)) :
    XI σ asked R n (k + 1) (left - took) (back + its) (ex_s left S k) (bs (bs L 6 k (L.2 6 k - its)) 5 k (L.2 5 k - took)) := by
  obtain ⟨h1, h2, h3, h4, h5, h6, h7, h8, h9, h10, h11, h12⟩ := h
  have hk : k < ix (S.1 18) := by rw [h4]; omega
  have hkσ : k < ix (σ.1 18) := by omega
  obtain ⟨l1, l2⟩ := h3.2.2.2.1 k hk
  rw [l1] at c0 ht hi
  rw [l2] at hi
  have b0 := h7 k hkσ
  obtain ⟨b1, b2, b3⟩ := h6 k hk
  rw [le_i, ti0] at c
  have e0 : (S.2 19 k).toInt ≠ 0 := fun q => c0 (i_eq (by rw [q, ti0]))
  have es : ex_some left S k = took := by unfold ex_some; rw [least_l, ht]
  have tb : took.toInt = min left.toInt (S.2 19 k).toInt := by rw [← es]; exact least_i _ _
  have tn : ¬ took = 0 := fun q => by rw [q, ti0] at tb; omega
  have ei : ex_its left S k = its := by
    have e : m_least left (S.2 19 k) = took := es
    unfold ex_its
    rw [e, if_neg tn, hi]
  have hh := i_hi left
  have pm : 0 ≤ (S.2 20 k).toInt * took.toInt := Int.mul_nonneg b2 (by omega)
  have pl : (S.2 20 k).toInt * took.toInt / (S.2 19 k).toInt ≤ (S.2 20 k).toInt := by
    refine Int.ediv_le_of_le_mul (by omega) ?_
    exact Int.mul_le_mul_of_nonneg_left (by omega) b2
  have pn : 0 ≤ (S.2 20 k).toInt * took.toInt / (S.2 19 k).toInt := Int.ediv_nonneg pm (by omega)
  have iv : its.toInt = (S.2 20 k).toInt * took.toInt / (S.2 19 k).toInt := by rw [hi]; exact i_part b2 (by omega) (by omega) (by omega)
  have e19 : (S.2 19 k - took).toInt = (S.2 19 k).toInt - took.toInt := i_sub (by omega) (by omega)
  have e20 : (S.2 20 k - its).toInt = (S.2 20 k).toInt - its.toInt := i_sub (by omega) (by omega)
  have eS : ex_s left S k = bs (bs S 19 k (S.2 19 k - took)) 20 k (S.2 20 k - its) := by unfold ex_s; rw [es, ei]
  rw [exl_s, if_neg (by rw [le_i, ti0]; exact c), es, ei] at h2
  rw [ts_h] at h9
  have pp0 := ppc_0 h6
  have ppb : ppc S ≤ 40000000 := by
    have q1 := smI_b (f := fun j => (S.2 20 j).toInt) (B := 1000000) (n := ix (S.1 18)) (fun i hi => (h6 i hi).2.2)
    have q2 := hF.2
    rw [← h4] at q2
    unfold ppc
    omega
  have ppσ : ppc S ≤ ppc σ := by omega
  have ppk : ppc (ex_s left S k) = ppc S - its.toInt := by
    rw [eS]
    show smI (fun j => (upd (S.2 20) k (S.2 20 k - its) j).toInt) (ix (S.1 18)) = _
    rw [smI_upd (f := fun j => (S.2 20 j).toInt) hk (fun j _ q => by rw [pk_un q]), pk_us, e20, ppc]
    omega
  have hback : back.toInt + its.toInt < 2147483648 := by
    have q2 := hF.2
    have q1 : ppc σ = ppc S + back.toInt := by omega
    -- what was paid back is no more than what was paid
    have q3 : (S.2 20 k).toInt ≤ ppc S := by
      have q4 := smI_upd (f := fun j => (S.2 20 j).toInt) (g := fun j => if j = k then 0 else (S.2 20 j).toInt) hk (fun j _ q => if_neg q)
      have q5 : 0 ≤ smI (fun j => if j = k then 0 else (S.2 20 j).toInt) (ix (S.1 18)) := smI_0 (fun i hi => by
        by_cases z : i = k
        · rw [if_pos z]; exact Int.le_refl _
        · rw [if_neg z]; exact (h6 i hi).2.1)
      rw [if_pos rfl] at q4
      unfold ppc
      omega
    have := i_hi back
    have q6 := ppc_b hF hBL
    omega
  refine ⟨by omega, h2, ?_, by rw [eS]; exact h4, ?_, ?_, ?_, by rw [i_sub (by omega) (by omega)]; omega, ?_, ?_, ?_, ?_⟩
  · rw [eS]
    obtain ⟨hV, hA, hG, hL, hM⟩ := h3
    refine ⟨hV, hA, hG, fun i hi => ?_, hM⟩
    obtain ⟨x1, x2⟩ := hL i hi
    exact ⟨upd_c x1 (by rw [l1]), upd_c x2 (by rw [l2])⟩
  · intro j q1 q2
    rw [eS, bs_r _ _ _ q2, bs_r _ _ _ q1]
    exact h5 j q1 q2
  · rw [eS]
    intro i hi
    obtain ⟨x1, x2, x3⟩ := h6 i hi
    show (upd (S.2 19) k (S.2 19 k - took) i).toInt ≤ 10000000 ∧ 0 ≤ (upd (S.2 20) k (S.2 20 k - its) i).toInt ∧ (upd (S.2 20) k (S.2 20 k - its) i).toInt ≤ 1000000
    by_cases q : i = k
    · subst q
      rw [pk_us, pk_us, e19, e20]
      omega
    · rw [pk_un q, pk_un q]
      exact ⟨x1, x2, x3⟩
  · rw [eS]
    intro i hi
    show 0 ≤ (upd (S.2 19) k (S.2 19 k - took) i).toInt
    by_cases q : i = k
    · subst q
      rw [pk_us, e19]
      omega
    · rw [pk_un q]
      exact h7 i hi
  · have e : ts (ex_s left S k) (k + 1) n = ts S (k + 1) n := ts_ext (fun i q => by
      rw [eS]
      show upd (S.2 19) k (S.2 19 k - took) i = _
      rw [pk_un (by omega)])
    rw [e, i_sub (by omega) (by omega)]
    have : 0 ≤ ts S (k + 1) n := smI_0 (fun i hi => h7 (k + 1 + i) (by omega))
    omega
  · rw [eS]
    show sm (upd (S.2 19) k (S.2 19 k - took)) (ix (S.1 18)) = _
    rw [sm_upd hk, show sm (S.2 19) (ix (S.1 18)) = m_inLots S from rfl, h10]
    grind
  · rw [ppk, i_add (by omega) (by omega)]
    omega
  · rw [i_add (by omega) (by omega)]
    omega
theorem lots_b {T : Nat} {σ L : Sg} (h : TI T σ L) : (sm (L.2 5) (ix (L.2 4 9))).toInt = ts σ 0 (ix (σ.1 18)) ∧ 0 ≤ (sm (L.2 5) (ix (L.2 4 9))).toInt ∧ (sm (L.2 5) (ix (L.2 4 9))).toInt ≤ 400000000 ∧ sm (L.2 5) (ix (L.2 4 9)) = m_inLots σ := by
  have g9 := h.2.2.1.2.2.1.2.2.2.2.2.2.2.2.2.1
  rw [g9, sim_lots h.2.2.1.2.2.2.1]
  have h40 := h.2.1.2
  obtain ⟨a, b, c⟩ := sm_int (f := σ.2 19) (B := 10000000) (n := ix (σ.1 18)) (fun i hi => ⟨lot_0 h.1 hi, (h.2.2.2.2.2.1 i hi).1⟩) (by omega)
  have e : ts σ 0 (ix (σ.1 18)) = smI (fun i => (σ.2 19 i).toInt) (ix (σ.1 18)) := smI_ext (fun i _ => by rw [Nat.zero_add])
  rw [e, m_inLots, a]
  exact ⟨rfl, b, by omega, rfl⟩
theorem ask_b {T : Nat} {σ L : Sg} (h : TI T σ L) {u lo asked : Int32} (hlo : lo = sm (L.2 5) (ix (L.2 4 9))) (ha : asked = 1 + z_low u (lo / 2 + 2)) : ¬ lo / 2 + 2 = 0 ∧ 1 ≤ asked.toInt := by
  obtain ⟨-, b, c, -⟩ := lots_b h
  rw [← hlo] at b c
  have e1 : (lo / 2).toInt = lo.toInt / 2 := i_div b (by decide)
  have e2 : (lo / 2 + 2).toInt = lo.toInt / 2 + 2 := by rw [i_add (by rw [e1, show (2 : Int32).toInt = 2 by decide]; omega) (by rw [e1, show (2 : Int32).toInt = 2 by decide]; omega), e1]; rfl
  obtain ⟨l0, l1⟩ := z_low_i u (n := lo / 2 + 2) (by omega)
  refine ⟨fun q => by rw [q, ti0] at e2; omega, ?_⟩
  rw [ha, i_add (by rw [ti1]; omega) (by rw [ti1]; omega), ti1]
  omega
theorem p_exp_no {T : Nat} {σ L : Sg} (h : TI T σ L) {lo asked : Int32} (hlo : lo = sm (L.2 5) (ix (L.2 4 9))) (ha : 1 ≤ asked.toInt) (c : ¬ asked ≤ lo) : an (g_export σ asked) = -2000000003 ∧ (g_export σ asked).2.2 = σ := by
  refine an_23 (r_export h.1 asked).1 (fun q => (xk_export σ asked q).2) (v := 0) ?_
  rw [hlo, (lots_b h).2.2.2] at c
  rw [m_export, if_pos (by rw [le_i, ti1]; exact ha), if_neg c]
theorem xi_start {T : Nat} {σ L : Sg} (h : TI T σ L) {lo asked : Int32} (hlo : lo = sm (L.2 5) (ix (L.2 4 9))) (ha : 1 ≤ asked.toInt) (c : asked ≤ lo) : XI σ asked (exl (ix (σ.1 18)) 0 asked 0 σ) (ix (σ.1 18)) 0 asked 0 σ L := by
  obtain ⟨a, -, -, -⟩ := lots_b h
  rw [← hlo] at a
  rw [le_i] at c
  exact ⟨rfl, rfl, h.2.2.1, rfl, fun _ _ _ => rfl, h.2.2.2.2.2.1, fun i hi => lot_0 h.1 hi, by omega, by omega, by grind, by rw [ti0]; omega, by rw [ti0]; exact Int.le_refl _⟩
theorem exl_end (n k : Nat) (left back : Int32) (S : Sg) (c : left ≤ 0) : exl n k left back S = (back, S) := by
  cases n with
  | zero => rfl
  | succ n => rw [exl_s, if_pos c]
theorem p_exp {T : Nat} {σ L0 L : Sg} (h : TI T σ L0) {lo asked left back : Int32} {n k : Nat} {S : Sg} (hlo : lo = sm (L0.2 5) (ix (L0.2 4 9))) (ha : 1 ≤ asked.toInt) (c : asked ≤ lo) (hX : XI σ asked (exl (ix (σ.1 18)) 0 asked 0 σ) n k left back S L) (c0 : left ≤ 0) :
    an (g_export σ asked) = back ∧ TI (T + 1) (g_export σ asked).2.2 (bs (bs L 4 14 (L.2 4 14 + asked)) 4 2 (L.2 4 2 - back)) ∧ (g_export σ asked).2.2.1 8 = σ.1 8 ∧ (g_export σ asked).2.2.1 9 = σ.1 9 := by
  have el := (lots_b h).2.2.2
  obtain ⟨hI, hF, hS0, hq, hB⟩ := h
  obtain ⟨h1, h2, h3, h4, h5, h6, h7, h8, h9, h10, h11, h12⟩ := hX
  rw [exl_end n k left back S c0] at h2
  have l0 : left = 0 := i_eq (by rw [le_i, ti0] at c0; rw [ti0]; omega)
  have hm : m_export σ asked = (0, back, zs (bs S 10 6 (S.2 10 6 + asked)) 12 (S.1 12 - back)) := by
    rw [m_export, if_pos (by rw [le_i, ti1]; exact ha), if_pos (by rw [← el, ← hlo]; exact c), ← h2]
  have hG := h3.2.2.1
  have ob := bd_b (T := T) (S := σ)
  have e12 : S.1 12 = σ.1 12 := by rw [h4]
  have pb := ppc_b hF hB.2.1
  have p0 := ppc_0 h6
  have hlo2 := hB.2.2.1
  have hh := i_hi (σ.1 12)
  have eo : (S.1 12 - back).toInt = (σ.1 12).toInt - back.toInt := by rw [e12]; exact i_sub (by omega) (by omega)
  refine fin_yes kc23_0 (r_export hI asked) hm ⟨by show S.1 2 = 5; rw [h4]; exact hF.1, by show ix (S.1 18) ≤ 40; rw [h4]; exact hF.2⟩ (sim_g2 (sim_g14 h3 ?_) ?_) ?_ ⟨?_, h6, ?_⟩ ?_ ?_
  · rw [hG.2.2.2.2.2.2.2.2.2.2.2.2.2.2.1]
  · rw [hG.2.2.1]
  · show m_inVessels S + m_moving S + m_inLots S + S.2 10 4 + S.2 10 5 + (S.2 10 6 + asked) - S.2 10 0 = 0
    have v1 : m_inVessels S = m_inVessels σ := by rw [m_inVessels, m_inVessels, h4, h5 6 (by decide) (by decide)]
    have v2 : m_moving S = m_moving σ := by
      rw [m_moving, m_moving, h4]
      exact sm_ext (fun i _ => by rw [mvf, mvf, h5 23 (by decide) (by decide), h5 26 (by decide) (by decide)])
    rw [v1, v2, h10, h5 10 (by decide) (by decide), l0]
    unfold cq at hq
    grind
  · show BdA S
    unfold BdA
    rw [h4]
    exact hB.1
  · have mv : mvc S = mvc σ := by unfold mvc; rw [h4, h5 23 (by decide) (by decide)]
    refine bd_up hI hB.2.2 (by show S.1 1 = σ.1 1; rw [h4]) ?_ ?_
    · show ppc S - 100000000 ≤ (S.1 12 - back).toInt
      omega
    · show (S.1 12 - back).toInt + mvc S ≤ _
      rw [mv]
      omega
  · show S.1 8 = σ.1 8
    rw [h4]
  · show S.1 9 = σ.1 9
    rw [h4]
