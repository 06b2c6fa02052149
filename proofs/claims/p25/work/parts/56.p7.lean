/-! Inv kept by the others -/
theorem i_permit {σ : Sg} (hI : Inv σ) (p0 : Int32) : Inv (m_permit σ p0).2.2 := by
  unfold m_permit
  repeat' split
  all_goals exact hI
theorem i_pay {σ : Sg} (hI : Inv σ) (p0 : Int32) : Inv (m_pay σ p0).2.2 := by
  unfold m_pay
  repeat' split
  all_goals exact hI
theorem i_guarantee {σ : Sg} (hI : Inv σ) (p0 : Int32) : Inv (m_guarantee σ p0).2.2 := by
  unfold m_guarantee
  repeat' split
  all_goals exact hI
theorem i_budget {σ : Sg} (hI : Inv σ) (p0 p1 p2 : Int32) : Inv (m_budget σ p0 p1 p2).2.2 := by
  unfold m_budget
  repeat' split
  all_goals exact hI
theorem i_ofVessel {σ : Sg} (hI : Inv σ) (p0 p1 : Int32) : Inv (m_ofVessel σ p0 p1).2.2 := by
  unfold m_ofVessel
  repeat' split
  all_goals exact hI
theorem i_dropsAnew {σ : Sg} (hI : Inv σ) (p0 : Int32) : Inv (m_dropsAnew σ p0).2.2 := by
  unfold m_dropsAnew
  repeat' split
  all_goals exact hI
theorem i_ofMovement {σ : Sg} (hI : Inv σ) (p0 p1 : Int32) : Inv (m_ofMovement σ p0 p1).2.2 := by
  unfold m_ofMovement
  repeat' split
  all_goals exact hI
theorem i_ledger {σ : Sg} (hI : Inv σ) (p0 : Int32) : Inv (m_ledger σ p0).2.2 := by
  unfold m_ledger
  repeat' split
  all_goals exact hI
theorem i_duty {σ : Sg} (hI : Inv σ) (p0 : Int32) : Inv (m_duty σ p0).2.2 := by
  unfold m_duty
  repeat' split
  all_goals exact hI
theorem i_shares {σ : Sg} (hI : Inv σ) (p0 p1 : Int32) : Inv (m_shares σ p0 p1).2.2 := by
  unfold m_shares
  split
  · exact hI
  rcases in_01 p1 0 500 with ⟨c, -⟩ | ⟨c, l, u⟩
  · rw [if_pos c]; exact hI
  rw [c, if_neg one_ne0]
  obtain ⟨a1, a2, a3, a4, a5, a6, a7, a8, a9⟩ := hI
  refine ⟨a1, a2, a3, a4, a5, a6, a7, a8, fun j hj => ?_⟩
  show 0 ≤ (upd (σ.2 7) (ix p0) p1 j).toInt ∧ (upd (σ.2 7) (ix p0) p1 j).toInt ≤ 500
  by_cases e : j = ix p0
  · subst e
    rw [pk_us]
    rw [ti0] at l
    rw [show (500 : Int32).toInt = 500 by decide] at u
    exact ⟨l, u⟩
  · rw [pk_un e]; exact a9 j hj
theorem i_vessel {σ : Sg} (hI : Inv σ) (p0 p1 : Int32) : Inv (m_vessel σ p0 p1).2.2 := by
  unfold m_vessel
  rcases in_01 p0 0 3 with ⟨c, -⟩ | ⟨c, l, u⟩
  · rw [show m_isPlace p0 = 0 from c, if_pos rfl]; exact hI
  rw [show m_isPlace p0 = 1 from c, if_neg one_ne0]
  rcases in_01 p1 1 9999 with ⟨c, -⟩ | ⟨c, l1, u1⟩
  · rw [if_pos c]; exact hI
  rw [c, if_neg one_ne0]
  by_cases z : σ.1 2 = 10
  · rw [if_pos z]; exact hI
  rw [if_neg z]
  rw [ti0] at l
  rw [show (3 : Int32).toInt = 3 by decide] at u
  rw [ti1] at l1
  rw [show (9999 : Int32).toInt = 9999 by decide] at u1
  obtain ⟨⟨c1, c2, c3⟩, a2, a3, a4, a5⟩ := hI
  have hn : ix (σ.1 2) < 10 := cnt_ltk (σ := σ) (j := 2) 10 c1 ((ten_lt c1 (by decide)).mpr z) (by decide) (by decide)
  have e1 : σ.1 2 + 1 = nI (ix (σ.1 2) + 1) := cnt_s c1.1
  have e2 : ix (σ.1 2 + 1) = ix (σ.1 2) + 1 := by rw [e1]; exact nI_clamp (by omega)
  refine ⟨⟨⟨?_, ?_⟩, c2, c3⟩, fun k hk => ?_, fun k hk => ?_, fun k hk => ?_, a5⟩
  · show σ.1 2 + 1 = nI (ix (σ.1 2 + 1))
    rw [e2]; exact e1
  · show ix (σ.1 2 + 1) ≤ 10
    omega
  · have hk : k < ix (σ.1 2 + 1) := hk
    show 0 ≤ (σ.2 5 k).toInt ∧ (σ.2 5 k).toInt ≤ (upd (σ.2 4) (ix (σ.1 2)) p1 k).toInt ∧ (upd (σ.2 4) (ix (σ.1 2)) p1 k).toInt ≤ 9999 ∧ 0 ≤ (σ.2 6 k).toInt ∧ (σ.2 6 k).toInt ≤ 960 * (σ.2 5 k).toInt ∧ 0 ≤ (upd (σ.2 3) (ix (σ.1 2)) p0 k).toInt ∧ (upd (σ.2 3) (ix (σ.1 2)) p0 k).toInt ≤ 3
    by_cases e : k = ix (σ.1 2)
    · subst e
      obtain ⟨z5, z6⟩ := a3 _ (Nat.le_refl _)
      rw [pk_us, pk_us, z5, z6, ti0]
      omega
    · rw [pk_un e, pk_un e]; exact a2 k (by omega)
  · have hk : ix (σ.1 2 + 1) ≤ k := hk
    exact a3 k (by omega)
  · obtain ⟨b1, b2, b3, b4, b5, b6⟩ := a4 k hk
    refine ⟨b1, b2, b3, b4, b5, ?_⟩
    show ix (σ.2 24 k) < ix (σ.1 2 + 1)
    omega
/-! export -/
theorem Inv_19 {S : Sg} (hI : Inv S) {k : Nat} {v w : Int32} (hv : 0 ≤ v.toInt) : Inv (bs (bs S 19 k v) 20 k w) := by
  obtain ⟨a1, a2, a3, a4, a5, a6, a7⟩ := hI
  refine ⟨a1, a2, a3, a4, a5, fun j hj => ?_, a7⟩
  show 0 ≤ (upd (S.2 19) k v j).toInt
  by_cases e : j = k
  · subst e; rw [pk_us]; exact hv
  · rw [pk_un e]; exact a6 j hj
theorem exl_eq : ∀ (n k : Nat) (left back : Int32) (S : Sg), Inv S → k + n ≤ ix (S.1 18) → g_exl n k left back S = exl n k left back S ∧ Inv (exl n k left back S).2 := by
  intro n
  induction n with
  | zero => intro k left back S hI _; exact ⟨rfl, hI⟩
  | succ n ih =>
    intro k left back S hI hk
    rw [g_exl_s, exl_s]
    by_cases h : left ≤ 0
    · rw [if_pos h, if_pos h]; exact ⟨rfl, hI⟩
    rw [if_neg h, if_neg h]
    have hd := hI.2.2.2.2.2.1 k (by omega)
    have hl : 0 < left.toInt := by rw [le_i, ti0] at h; omega
    have el := least_i left (S.2 19 k)
    have e1 : (if S.2 19 k < left then S.2 19 k else left) = ex_some left S k := least_eq _ _
    have e2 : lo_drawBack (S.2 19 k) (S.2 20 k) (if S.2 19 k < left then S.2 19 k else left) = ex_its left S k := by
      rw [e1]
      show g_part (S.2 20 k) (m_least left (S.2 19 k)) (S.2 19 k) = (if m_least left (S.2 19 k) = 0 then 0 else m_part (S.2 20 k) (m_least left (S.2 19 k)) (S.2 19 k))
      by_cases z : m_least left (S.2 19 k) = 0
      · rw [if_pos z, g_part_0]
        rw [z, ti0] at el
        omega
      · rw [if_neg z, g_part_1]
        have : (m_least left (S.2 19 k)).toInt ≠ 0 := fun e => z (i_eq (by rw [e, ti0]))
        omega
    have e3 : 0 ≤ (S.2 19 k - ex_some left S k).toInt := by
      have hs : (ex_some left S k).toInt = min left.toInt (S.2 19 k).toInt := el
      have := i_hi left
      have := i_hi (S.2 19 k)
      rw [i_sub (by omega) (by omega), hs]
      omega
    have e4 : g_part (S.2 20 k) (ex_some left S k) (S.2 19 k) = ex_its left S k := by rw [← e1]; exact e2
    rw [e2, e1, e4]
    exact ih (k + 1) _ _ (ex_s left S k) (Inv_19 hI e3) (by show k + 1 + n ≤ ix (S.1 18); omega)
theorem r_export {σ : Sg} (hI : Inv σ) (p0 : Int32) : R3 kc23 (g_export σ p0) (m_export σ p0) := by
  obtain ⟨x1, x2⟩ := exl_eq (ix (σ.1 18)) 0 p0 0 σ hI (by omega)
  rw [g_export, m_export]
  by_cases h1 : 1 ≤ p0
  · rw [if_pos h1, if_pos h1]
    show R3 kc23 (if p0 ≤ m_inLots σ then _ else _) _
    by_cases h2 : p0 ≤ m_inLots σ
    · rw [if_pos h2, if_pos h2, x1]
      generalize exl (ix (σ.1 18)) 0 p0 0 σ = f at x2 ⊢
      exact .l rfl rfl rfl x2
    · rw [if_neg h2, if_neg h2]; exact .l rfl rfl rfl hI
  · rw [if_neg h1, if_neg h1]; exact .l rfl rfl rfl hI
