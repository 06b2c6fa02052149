theorem e_ofMovement {σ : Sg} (hI : Inv σ) (p0 p1 : Int32) : Eq3 kc1 (g_ofMovement σ p0 p1) (m_ofMovement σ p0 p1) := by
  rw [g_ofMovement, m_ofMovement]
  rcases M1 hI p0 with ⟨a, b, -, hv⟩ | ⟨a, b⟩
  · rw [a, b, if_pos rfl, if_neg one_ne0]
    rcases in_01 p1 0 3 with ⟨c, d⟩ | ⟨c, d1, d2⟩
    · rw [c, if_pos rfl]
      repeat' split
      all_goals first | exact .l rfl rfl rfl | (rename_i h; exact absurd (by rw [h]; decide) d)
    · rw [c, if_neg one_ne0]
      rw [ti0] at d1
      rw [show (3 : Int32).toInt = 3 by decide] at d2
      rcases (by omega : p1.toInt = 0 ∨ p1.toInt = 1 ∨ p1.toInt = 2 ∨ p1.toInt = 3) with h | h | h | h
      · obtain rfl : p1 = 0 := i_eq (by rw [h]; decide)
        exact .l rfl rfl rfl
      · obtain rfl : p1 = 1 := i_eq (by rw [h]; decide)
        exact .l rfl rfl rfl
      · obtain rfl : p1 = 2 := i_eq (by rw [h]; decide)
        exact .l rfl rfl rfl
      · obtain rfl : p1 = 3 := i_eq (by rw [h]; decide)
        exact .l rfl rfl rfl
  · rw [a, b, if_neg one_ne0, if_pos rfl]
    exact .l rfl rfl rfl
theorem e_ledger {σ : Sg} (p0 : Int32) : Eq3 kc1 (g_ledger σ p0) (m_ledger σ p0) := by
  rw [g_ledger, m_ledger]
  rcases in_01 p0 0 7 with ⟨c, d⟩ | ⟨c, d1, d2⟩
  · rw [c, if_pos rfl]
    repeat' split
    all_goals first | exact .l rfl rfl rfl | (rename_i h; exact absurd (by rw [h]; decide) d)
  · rw [c, if_neg one_ne0]
    rw [ti0] at d1
    rw [show (7 : Int32).toInt = 7 by decide] at d2
    rcases (by omega : p0.toInt = 0 ∨ p0.toInt = 1 ∨ p0.toInt = 2 ∨ p0.toInt = 3 ∨ p0.toInt = 4 ∨ p0.toInt = 5 ∨ p0.toInt = 6 ∨ p0.toInt = 7) with h | h | h | h | h | h | h | h
    · obtain rfl : p0 = 0 := i_eq (by rw [h]; decide)
      exact .l rfl rfl rfl
    · obtain rfl : p0 = 1 := i_eq (by rw [h]; decide)
      exact .l rfl rfl rfl
    · obtain rfl : p0 = 2 := i_eq (by rw [h]; decide)
      exact .l rfl rfl rfl
    · obtain rfl : p0 = 3 := i_eq (by rw [h]; decide)
      exact .l rfl rfl rfl
    · obtain rfl : p0 = 4 := i_eq (by rw [h]; decide)
      exact .l rfl rfl rfl
    · obtain rfl : p0 = 5 := i_eq (by rw [h]; decide)
      exact .l rfl rfl rfl
    · obtain rfl : p0 = 6 := i_eq (by rw [h]; decide)
      exact .l rfl rfl rfl
    · obtain rfl : p0 = 7 := i_eq (by rw [h]; decide)
      exact .l rfl rfl rfl
theorem e_duty {σ : Sg} (p0 : Int32) : Eq3 kc1 (g_duty σ p0) (m_duty σ p0) := by
  have ed : ex_dutyFor (σ.1 11) (σ.1 12) (1000000 - (σ.1 16)) (g_dropsThatMove σ) = m_dutyFor σ (m_moving σ) (σ.1 11) := duty_m σ _ _ _ _
  rw [g_duty, m_duty, ed]
  rcases in_01 p0 0 5 with ⟨c, d⟩ | ⟨c, d1, d2⟩
  · rw [c, if_pos rfl]
    have hk : ∀ k : Int32, (0 ≤ k ∧ k ≤ 5) → ¬ p0 = k := fun k hk e => d (by rw [e]; exact hk)
    simp only [if_neg (hk 0 (by decide)), if_neg (hk 1 (by decide)), if_neg (hk 2 (by decide)), if_neg (hk 3 (by decide)), if_neg (hk 4 (by decide)), if_neg (hk 5 (by decide))]
    split <;> exact .l rfl rfl rfl
  · rw [c, if_neg one_ne0]
    rw [ti0] at d1
    rw [show (5 : Int32).toInt = 5 by decide] at d2
    rcases (by omega : p0.toInt = 0 ∨ p0.toInt = 1 ∨ p0.toInt = 2 ∨ p0.toInt = 3 ∨ p0.toInt = 4 ∨ p0.toInt = 5) with h | h | h | h | h | h
    · obtain rfl : p0 = 0 := i_eq (by rw [h]; decide)
      split <;> exact .l rfl rfl rfl
    · obtain rfl : p0 = 1 := i_eq (by rw [h]; decide)
      split <;> exact .l rfl rfl rfl
    · obtain rfl : p0 = 2 := i_eq (by rw [h]; decide)
      by_cases z : σ.1 13 = (-1)
      · rw [if_pos z, if_pos z]; exact .l rfl rfl rfl
      · rw [if_neg z, if_neg z]; exact .l rfl rfl rfl
    · obtain rfl : p0 = 3 := i_eq (by rw [h]; decide)
      split <;> exact .l rfl rfl rfl
    · obtain rfl : p0 = 4 := i_eq (by rw [h]; decide)
      split <;> exact .l rfl rfl rfl
    · obtain rfl : p0 = 5 := i_eq (by rw [h]; decide)
      split <;> exact .l rfl rfl rfl
theorem e_budget {σ : Sg} (hI : Inv σ) (p0 p1 p2 : Int32) : Eq3 kc23 (g_budget σ p0 p1 p2) (m_budget σ p0 p1 p2) := by
  rw [g_budget, m_budget, within_in, within_in]
  have hd := hI.2.2.2.2.2.2.1
  have e1 : (σ.1 1 + 1).toInt = (σ.1 1).toInt + 1 := by rw [i_add (by rw [ti1]; omega) (by rw [ti1]; omega), ti1]
  have e9 : (900 : Int32).toInt = 900 := by decide
  rcases in_01 p0 (σ.1 1 + 1) 900 with ⟨c, d⟩ | ⟨c, d1, d2⟩
  · rw [c, if_pos rfl]
    rw [le_i, le_i, e1, e9] at d
    by_cases h1 : p0 ≤ σ.1 1
    · rw [if_pos h1, if_pos h1]
      split <;> exact .l rfl rfl rfl
    · have h2 : ¬ p0 ≤ 900 := by
        rw [le_i, e9]
        rw [le_i] at h1
        omega
      rw [if_neg h1, if_neg h1, if_neg h2, if_neg h2]
      split <;> exact .l rfl rfl rfl
  · rw [c, if_neg one_ne0]
    rw [e1] at d1
    rw [e9] at d2
    have h1 : ¬ p0 ≤ σ.1 1 := by rw [le_i]; omega
    have h2 : p0 ≤ 900 := by rw [le_i, e9]; omega
    rw [if_neg h1, if_neg h1, if_pos h2, if_pos h2]
    repeat' split
    all_goals first | exact .l rfl rfl rfl | contradiction
theorem bs_id {τ : Sg} {k i : Nat} {v : Int32} (h : τ.2 k i = v) : bs τ k i v = τ := by rw [← h]; exact bs_self τ k i
theorem zs_id {τ : Sg} {k : Nat} {v : Int32} (h : τ.1 k = v) : zs τ k v = τ := by rw [← h]; exact zs_self τ k
theorem add0_eq {σ : Sg} (hI : Inv σ) (p c : Int32) : S_add0 σ p c = zs (bs (bs σ 3 (ix (σ.1 2)) p) 4 (ix (σ.1 2)) c) 2 (σ.1 2 + 1) := by
  obtain ⟨z5, z6⟩ := hI.2.2.1 (ix (σ.1 2)) (Nat.le_refl _)
  unfold S_add0
  rw [bs_id (τ := bs (bs σ 3 (ix (σ.1 2)) p) 4 (ix (σ.1 2)) c) (k := 5) (i := ix (σ.1 2)) (v := 0) z5, bs_id (τ := bs (bs σ 3 (ix (σ.1 2)) p) 4 (ix (σ.1 2)) c) (k := 6) (i := ix (σ.1 2)) (v := 0) z6]
theorem ten_lt {σ : Sg} {j n : Nat} {m : Int32} (hc : Cnt σ j n) (hm : m.toInt = n) (hn : n < 2 ^ 31 := by decide) : σ.1 j < m ↔ ¬ σ.1 j = m := by
  obtain ⟨c1, c2⟩ := cnt_i hc hn
  rw [lt_i, hm, c1]
  constructor
  · intro h e
    rw [← c1, e, hm] at h
    omega
  · intro h
    have : (ix (σ.1 j) : Int) ≠ n := fun e => h (i_eq (by rw [c1, hm, e]))
    omega
theorem e_vessel {σ : Sg} (hI : Inv σ) (p0 p1 : Int32) : Eq3 kc123 (g_vessel σ p0 p1) (m_vessel σ p0 p1) := by
  rw [g_vessel, m_vessel, within_in, place_eq, add0_eq hI]
  by_cases z : σ.1 2 = 10
  · have h1 : ¬ σ.1 2 < 10 := fun h => (ten_lt hI.1.1 (by decide)).mp h z
    rw [if_neg h1, if_pos z]
    repeat' split
    all_goals exact .l rfl rfl rfl
  · have h1 : σ.1 2 < 10 := (ten_lt hI.1.1 (by decide)).mpr z
    rw [if_pos h1, if_neg z]
    repeat' split
    all_goals exact .l rfl rfl rfl
/-! a vessel's volume and drops -/
theorem Inv_v {σ : Sg} (hI : Inv σ) {i : Nat} (hi : i < ix (σ.1 2)) {v d : Int32} (h1 : 0 ≤ v.toInt) (h2 : v.toInt ≤ (σ.2 4 i).toInt) (h3 : 0 ≤ d.toInt) (h4 : d.toInt ≤ 960 * v.toInt) : Inv (bs (bs σ 5 i v) 6 i d) := by
  obtain ⟨a1, a2, a3, a4, a5, a6, a7, a8, a9⟩ := hI
  refine ⟨a1, fun k hk => ?_, fun k hk => ?_, a4, a5, a6, a7, a8, a9⟩
  · obtain ⟨b1, b2, b3, b4, b5, b6, b7⟩ := a2 k hk
    show 0 ≤ (upd (σ.2 5) i v k).toInt ∧ (upd (σ.2 5) i v k).toInt ≤ (σ.2 4 k).toInt ∧ (σ.2 4 k).toInt ≤ 9999 ∧ 0 ≤ (upd (σ.2 6) i d k).toInt ∧ (upd (σ.2 6) i d k).toInt ≤ 960 * (upd (σ.2 5) i v k).toInt ∧ 0 ≤ (σ.2 3 k).toInt ∧ (σ.2 3 k).toInt ≤ 3
    by_cases e : k = i
    · subst e
      rw [pk_us, pk_us]
      exact ⟨h1, h2, b3, h3, h4, b6, b7⟩
    · rw [pk_un e, pk_un e]
      exact ⟨b1, b2, b3, b4, b5, b6, b7⟩
  · have e : k ≠ i := by
      have : ix (σ.1 2) ≤ k := hk
      omega
    show upd (σ.2 5) i v k = 0 ∧ upd (σ.2 6) i d k = 0
    rw [pk_un e, pk_un e]
    exact a3 k hk
/-- a part taken out of a vessel -/
theorem take_ok {σ : Sg} (hI : Inv σ) {x p : Int32} (hi : ix x < ix (σ.1 2)) (hp : 1 ≤ p.toInt) (hpv : p.toInt ≤ (σ.2 5 (ix x)).toInt) :
    g_part (σ.2 6 (ix x)) p (σ.2 5 (ix x)) = m_part (σ.2 6 (ix x)) p (σ.2 5 (ix x)) ∧ (m_takes σ x p).2 = bs (bs σ 5 (ix x) (σ.2 5 (ix x) - p)) 6 (ix x) (σ.2 6 (ix x) - m_part (σ.2 6 (ix x)) p (σ.2 5 (ix x))) ∧ Inv (bs (bs σ 5 (ix x) (σ.2 5 (ix x) - p)) 6 (ix x) (σ.2 6 (ix x) - m_part (σ.2 6 (ix x)) p (σ.2 5 (ix x)))) ∧ 0 ≤ (m_part (σ.2 6 (ix x)) p (σ.2 5 (ix x))).toInt ∧ (m_part (σ.2 6 (ix x)) p (σ.2 5 (ix x))).toInt ≤ 960 * p.toInt := by
  obtain ⟨b1, b2, b3, b4, b5, -, -⟩ := hI.2.1 _ hi
  obtain ⟨t1, t2, t3, t4⟩ := take_b (V := (σ.2 5 (ix x)).toInt) (D := (σ.2 6 (ix x)).toInt) (p := p.toInt) (by omega) b4 b5 (by omega) hpv
  have e := i_part (x := σ.2 6 (ix x)) (y := p) (w := σ.2 5 (ix x)) b4 (by omega) (by omega) (by omega)
  refine ⟨g_part_1 (by omega), bs_comm σ _ _ _ _ (by decide), Inv_v hI hi ?_ ?_ ?_ ?_, by omega, by omega⟩
  · rw [i_sub (by omega) (by omega)]; omega
  · rw [i_sub (by omega) (by omega)]; omega
  · rw [i_sub (by omega) (by omega)]; omega
  · rw [i_sub (by omega) (by omega), i_sub (by omega) (by omega)]; omega
/-- what comes into a vessel -/
theorem come_ok {σ : Sg} (hI : Inv σ) {x p q : Int32} (f0 f1 : Int32) (hi : ix x < ix (σ.1 2)) (hp : 0 ≤ p.toInt) (hr : (σ.2 5 (ix x)).toInt + p.toInt ≤ (σ.2 4 (ix x)).toInt) (hq : 0 ≤ q.toInt) (hq2 : q.toInt ≤ 960 * p.toInt) :
    ve_comeIn_2 f0 f1 (σ.2 5 (ix x)) (σ.2 6 (ix x)) p q = m_with σ x p q ∧ Inv (m_comes σ x p q) := by
  obtain ⟨b1, b2, b3, b4, b5, -, -⟩ := hI.2.1 _ hi
  refine ⟨ci_eq b1 (by omega) b4 b5 hp (by omega) hq hq2, ?_⟩
  obtain ⟨m1, m2, m3⟩ := mix_b b1 (by omega) b4 b5 hp (by omega) hq hq2
  have e := mw_i (σ := σ) (i := x) (P := p) (Q := q) b1 (by omega) b4 b5 hp (by omega) hq hq2
  have e2 : (σ.2 6 (ix x) + q).toInt = (σ.2 6 (ix x)).toInt + q.toInt := i_add (by omega) (by omega)
  exact Inv_v hI hi (by omega) (by omega) (by omega) (by omega)
theorem room_eq {σ : Sg} (hI : Inv σ) {x p : Int32} (hi : ix x < ix (σ.1 2)) (hp : 0 ≤ p.toInt) (hp2 : p.toInt ≤ 9999) : (ve_hasRoomFor (σ.2 3 (ix x)) (σ.2 4 (ix x)) (σ.2 5 (ix x)) (σ.2 6 (ix x)) p = 0 ∧ m_hasRoom σ x p = 0) ∨ (ve_hasRoomFor (σ.2 3 (ix x)) (σ.2 4 (ix x)) (σ.2 5 (ix x)) (σ.2 6 (ix x)) p = 1 ∧ m_hasRoom σ x p = 1 ∧ (σ.2 5 (ix x)).toInt + p.toInt ≤ (σ.2 4 (ix x)).toInt) := by
  obtain ⟨b1, b2, b3, b4, b5, -, -⟩ := hI.2.1 _ hi
  have e1 : (σ.2 4 (ix x) - σ.2 5 (ix x)).toInt = (σ.2 4 (ix x)).toInt - (σ.2 5 (ix x)).toInt := i_sub (by omega) (by omega)
  have e2 : (σ.2 5 (ix x) + p).toInt = (σ.2 5 (ix x)).toInt + p.toInt := i_add (by omega) (by omega)
  unfold ve_hasRoomFor m_hasRoom
  by_cases h : (σ.2 5 (ix x)).toInt + p.toInt ≤ (σ.2 4 (ix x)).toInt
  · exact Or.inr ⟨by rw [if_neg]; rw [lt_i, e1]; omega, by rw [if_neg]; rw [lt_i, e2]; omega, h⟩
  · exact Or.inl ⟨by rw [if_pos]; rw [lt_i, e1]; omega, by rw [if_pos]; rw [lt_i, e2]; omega⟩
theorem has_eq (σ : Sg) (x p : Int32) : (ve_has (σ.2 3 (ix x)) (σ.2 4 (ix x)) (σ.2 5 (ix x)) (σ.2 6 (ix x)) p = 0 ∧ m_hasPart σ x p = 0) ∨ (ve_has (σ.2 3 (ix x)) (σ.2 4 (ix x)) (σ.2 5 (ix x)) (σ.2 6 (ix x)) p = 1 ∧ m_hasPart σ x p = 1 ∧ p.toInt ≤ (σ.2 5 (ix x)).toInt) := by
  unfold ve_has m_hasPart
  by_cases h : σ.2 5 (ix x) < p
  · exact Or.inl ⟨if_pos h, if_pos h⟩
  · exact Or.inr ⟨if_neg h, if_neg h, by rw [lt_i] at h; omega⟩
