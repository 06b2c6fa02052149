/-! ===== what holds of the state ===== -/
def VI (σ : Sg) (k : Nat) : Prop := 0 ≤ (σ.2 5 k).toInt ∧ (σ.2 5 k).toInt ≤ (σ.2 4 k).toInt ∧ (σ.2 4 k).toInt ≤ 9999 ∧ 0 ≤ (σ.2 6 k).toInt ∧ (σ.2 6 k).toInt ≤ 960 * (σ.2 5 k).toInt ∧ 0 ≤ (σ.2 3 k).toInt ∧ (σ.2 3 k).toInt ≤ 3
def MI (σ : Sg) (k : Nat) : Prop := 1 ≤ (σ.2 25 k).toInt ∧ (σ.2 25 k).toInt ≤ 9999 ∧ 0 ≤ (σ.2 26 k).toInt ∧ (σ.2 26 k).toInt ≤ 960 * (σ.2 25 k).toInt ∧ 0 ≤ (σ.2 24 k).toInt ∧ ix (σ.2 24 k) < ix (σ.1 2)
def Inv (σ : Sg) : Prop := (Cnt σ 2 10 ∧ Cnt σ 22 30 ∧ Cnt σ 18 100) ∧ (∀ k, k < ix (σ.1 2) → VI σ k) ∧ (∀ k, ix (σ.1 2) ≤ k → σ.2 5 k = 0 ∧ σ.2 6 k = 0) ∧ (∀ k, k < ix (σ.1 22) → MI σ k) ∧ (∀ k, ix (σ.1 22) ≤ k → σ.2 23 k = 0) ∧ (∀ k, k < ix (σ.1 18) → 0 ≤ (σ.2 19 k).toInt) ∧ (0 ≤ (σ.1 1).toInt ∧ (σ.1 1).toInt ≤ 900) ∧ (0 ≤ (σ.1 9).toInt ∧ (σ.1 9).toInt ≤ 60) ∧ ∀ j, j < 4 → 0 ≤ (σ.2 7 j).toInt ∧ (σ.2 7 j).toInt ≤ 500
theorem Sg_ext {σ τ : Sg} (h1 : ∀ j, σ.1 j = τ.1 j) (h2 : ∀ j i, σ.2 j i = τ.2 j i) : σ = τ := Prod.ext (funext h1) (funext fun j => funext fun i => h2 j i)
theorem zs_self (σ : Sg) (k : Nat) : zs σ k (σ.1 k) = σ := Sg_ext (fun j => by
  show (if j = k then σ.1 k else σ.1 j) = σ.1 j
  by_cases h : j = k
  · rw [if_pos h, h]
  · rw [if_neg h]) (fun _ _ => rfl)
theorem bs_self (σ : Sg) (k i : Nat) : bs σ k i (σ.2 k i) = σ := Sg_ext (fun _ => rfl) (fun j a => by
  show (if j = k then upd (σ.2 k) i (σ.2 k i) else σ.2 j) a = σ.2 j a
  by_cases h : j = k
  · rw [if_pos h, h]
    show (if a = i then σ.2 k i else σ.2 k a) = σ.2 k a
    by_cases h2 : a = i
    · rw [if_pos h2, h2]
    · rw [if_neg h2]
  · rw [if_neg h])
theorem zs_comm (σ : Sg) {j k : Nat} (x y : Int32) (h : j ≠ k) : zs (zs σ j x) k y = zs (zs σ k y) j x := Sg_ext (fun n => by
  show (if n = k then y else if n = j then x else σ.1 n) = (if n = j then x else if n = k then y else σ.1 n)
  by_cases h1 : n = k
  · rw [if_pos h1, if_neg (by omega), if_pos h1]
  · rw [if_neg h1, if_neg h1]) (fun _ _ => rfl)
theorem bs_2 (σ : Sg) (k i n : Nat) (v : Int32) : (bs σ k i v).2 n = if n = k then upd (σ.2 k) i v else σ.2 n := rfl
theorem bs_comm (σ : Sg) {j k : Nat} (a b : Nat) (x y : Int32) (h : j ≠ k) : bs (bs σ j a x) k b y = bs (bs σ k b y) j a x := Sg_ext (fun _ => rfl) (fun n i => by
  simp only [bs_2]
  by_cases h1 : n = k
  · subst h1
    rw [if_pos rfl, if_neg (Ne.symm h), if_neg (Ne.symm h), if_pos rfl]
  · rw [if_neg h1]
    by_cases h2 : n = j
    · subst h2
      rw [if_pos rfl, if_pos rfl, if_neg h]
    · rw [if_neg h2, if_neg h2, if_neg h1])
theorem bs_bs (σ : Sg) (k a : Nat) (x y : Int32) : bs (bs σ k a x) k a y = bs σ k a y := Sg_ext (fun _ => rfl) (fun n i => by
  simp only [bs_2]
  by_cases h1 : n = k
  · subst h1
    simp only [if_true]
    show (if i = a then y else if i = a then x else σ.2 n i) = (if i = a then y else σ.2 n i)
    by_cases h2 : i = a
    · rw [if_pos h2, if_pos h2]
    · rw [if_neg h2, if_neg h2, if_neg h2]
  · rw [if_neg h1, if_neg h1, if_neg h1])
/-- two answers, the class's and the reference's -/
def Eq3 (kc : Int32 → Int32) (g m : Int32 × Int32 × Sg) : Prop := kc g.1 = m.1 ∧ (g.1 = 0 → g.2.1 = m.2.1) ∧ g.2.2 = m.2.2
def kc123 (x : Int32) : Int32 := if x = 0 then 0 else if x = 1 then 1 else if x = 2 then 2 else 3
def kc12 (x : Int32) : Int32 := if x = 0 then 0 else if x = 1 then 1 else 2
def kc23 (x : Int32) : Int32 := if x = 0 then 0 else if x = 2 then 1 else 2
def kc1 (x : Int32) : Int32 := if x = 0 then 0 else 1
theorem Eq3.l {kc : Int32 → Int32} {a b v w : Int32} {s t : Sg} (h : kc a = b) (hv : v = w) (hs : s = t) : Eq3 kc (a, v, s) (b, w, t) := ⟨h, fun _ => hv, hs⟩
theorem cnt_i {σ : Sg} {j n : Nat} (hc : Cnt σ j n) (hn : n < 2 ^ 31 := by decide) : (σ.1 j).toInt = ix (σ.1 j) ∧ ix (σ.1 j) ≤ n := by
  refine ⟨?_, hc.2⟩
  conv => lhs; rw [hc.1]
  exact nI_toInt (by have := hc.2; omega)
theorem ix_i {x : Int32} (h : 0 ≤ x.toInt) : (ix x : Int) = x.toInt := by
  show ((x.toInt.toNat : Nat) : Int) = x.toInt
  omega
theorem in_eq {σ : Sg} {j n : Nat} (hc : Cnt σ j n) (x : Int32) (hn : n < 2 ^ 31 := by decide) : (x < 0 ∧ m_in x 0 (σ.1 j - 1) = 0) ∨ (¬ x < 0 ∧ ¬ x < σ.1 j ∧ m_in x 0 (σ.1 j - 1) = 0) ∨ (¬ x < 0 ∧ x < σ.1 j ∧ m_in x 0 (σ.1 j - 1) = 1 ∧ 0 ≤ x.toInt ∧ ix x < ix (σ.1 j)) := by
  obtain ⟨c1, c2⟩ := cnt_i hc hn
  have e : (σ.1 j - 1).toInt = (σ.1 j).toInt - 1 := by rw [i_sub (by rw [ti1]; omega) (by rw [ti1]; omega), ti1]
  by_cases h1 : x < 0
  · exact Or.inl ⟨h1, by rw [m_in, if_pos h1]⟩
  by_cases h2 : x < σ.1 j
  · refine Or.inr (Or.inr ⟨h1, h2, ?_, ?_, (ix_lt h1 h2 hc.1).2⟩)
    · rw [m_in, if_neg h1, if_neg (by rw [lt_i, e]; rw [lt_i] at h2; omega)]
    · rw [lt_i, ti0] at h1; omega
  · refine Or.inr (Or.inl ⟨h1, h2, ?_⟩)
    rw [m_in, if_neg h1, if_pos (by rw [lt_i, e]; rw [lt_i] at h2; omega)]
theorem V1 {σ : Sg} (hI : Inv σ) (x : Int32) : (g_vesselOf σ x = 0 ∧ m_isVessel σ x = 1 ∧ ix x < ix (σ.1 2) ∧ VI σ (ix x)) ∨ (g_vesselOf σ x = 1 ∧ m_isVessel σ x = 0) := by
  unfold g_vesselOf m_isVessel
  rcases in_eq hI.1.1 x with ⟨h1, h2⟩ | ⟨h1, h2, h3⟩ | ⟨h1, h2, h3, h4, h5⟩
  · exact Or.inr ⟨if_pos h1, h2⟩
  · exact Or.inr ⟨by rw [if_neg h1, if_neg h2], h3⟩
  · exact Or.inl ⟨by rw [if_neg h1, if_pos h2], h3, h5, hI.2.1 _ h5⟩
theorem M1 {σ : Sg} (hI : Inv σ) (x : Int32) : (g_movementOf σ x = 0 ∧ m_in x 0 (σ.1 22 - 1) = 1 ∧ ix x < ix (σ.1 22) ∧ MI σ (ix x)) ∨ (g_movementOf σ x = 1 ∧ m_in x 0 (σ.1 22 - 1) = 0) := by
  unfold g_movementOf
  rcases in_eq hI.1.2.1 x with ⟨h1, h2⟩ | ⟨h1, h2, h3⟩ | ⟨h1, h2, h3, h4, h5⟩
  · exact Or.inr ⟨if_pos h1, h2⟩
  · exact Or.inr ⟨by rw [if_neg h1, if_neg h2], h3⟩
  · exact Or.inl ⟨by rw [if_neg h1, if_pos h2], h3, h5, hI.2.2.2.1 _ h5⟩
theorem within_in (x a b : Int32) : g_isWithin x a b = m_in x a b := rfl
theorem duty_m (σ : Sg) (a b c x : Int32) : ex_dutyFor a b c x = m_dutyFor σ x a := duty_eq σ x a
theorem in_01 (x a b : Int32) : (m_in x a b = 0 ∧ ¬ (a ≤ x ∧ x ≤ b)) ∨ (m_in x a b = 1 ∧ a.toInt ≤ x.toInt ∧ x.toInt ≤ b.toInt) := by
  unfold m_in
  by_cases h1 : x < a
  · exact Or.inl ⟨if_pos h1, fun h => by rw [le_i] at h; rw [lt_i] at h1; omega⟩
  by_cases h2 : b < x
  · exact Or.inl ⟨by rw [if_neg h1, if_pos h2], fun h => by rw [le_i, le_i] at h; rw [lt_i] at h2; omega⟩
  · refine Or.inr ⟨by rw [if_neg h1, if_neg h2], ?_⟩
    rw [lt_i] at h1 h2
    omega
theorem one_ne0 : ¬ (1 : Int32) = 0 := by decide
theorem place_eq (σ : Sg) (x : Int32) : g_isPlace σ x = m_isPlace x := by
  rw [g_isPlace, m_isPlace, m_in]
  by_cases h1 : x < 0
  · rw [if_pos h1, if_pos h1]
  · rw [if_neg h1, if_neg h1]
    have e : (4 ≤ x) ↔ (3 < x) := by
      rw [le_i, lt_i, show (4 : Int32).toInt = 4 by decide, show (3 : Int32).toInt = 3 by decide]
      omega
    simp only [e]
theorem e_permit {σ : Sg} (p0 : Int32) : Eq3 kc1 (g_permit σ p0) (m_permit σ p0) := by
  rw [g_permit, m_permit, within_in]
  split <;> exact .l rfl rfl rfl
theorem e_pay {σ : Sg} (p0 : Int32) : Eq3 kc23 (g_pay σ p0) (m_pay σ p0) := by
  rw [g_pay, m_pay, within_in]
  repeat' split
  all_goals exact .l rfl rfl rfl
theorem e_shares {σ : Sg} (p0 p1 : Int32) : Eq3 kc12 (g_shares σ p0 p1) (m_shares σ p0 p1) := by
  rw [g_shares, m_shares, within_in, place_eq]
  repeat' split
  all_goals exact .l rfl rfl rfl
theorem e_guarantee {σ : Sg} (p0 : Int32) : Eq3 kc23 (g_guarantee σ p0) (m_guarantee σ p0) := by
  rw [g_guarantee, m_guarantee, within_in, duty_m σ]
  show Eq3 kc23 _ (if m_in p0 0 9999999 = 0 then (1, 0, σ) else if m_dutyFor σ (g_dropsThatMove σ) (σ.1 11) ≤ p0 then _ else _)
  repeat' split
  all_goals exact .l rfl rfl rfl
theorem e_ofVessel {σ : Sg} (hI : Inv σ) (p0 p1 : Int32) : Eq3 kc1 (g_ofVessel σ p0 p1) (m_ofVessel σ p0 p1) := by
  rw [g_ofVessel, m_ofVessel]
  rcases V1 hI p0 with ⟨a, b, -, hv⟩ | ⟨a, b⟩
  · rw [a, b, if_pos rfl, if_neg one_ne0, str_eq hv.2.2.2.1 hv.1]
    rcases in_01 p1 0 4 with ⟨c, d⟩ | ⟨c, d1, d2⟩
    · rw [c, if_pos rfl]
      repeat' split
      all_goals first | exact .l rfl rfl rfl | (rename_i h; exact absurd (by rw [h]; decide) d)
    · rw [c, if_neg one_ne0]
      repeat' split
      all_goals first
        | exact .l rfl rfl rfl
        | (exfalso
           rw [ti0, show (4 : Int32).toInt = 4 by decide] at *
           have hk : ∀ k : Int32, p1.toInt = k.toInt → p1 = k := fun k h => i_eq h
           rcases (by omega : p1.toInt = 0 ∨ p1.toInt = 1 ∨ p1.toInt = 2 ∨ p1.toInt = 3 ∨ p1.toInt = 4) with h | h | h | h | h
           · have := hk 0 (by rw [h]; decide); contradiction
           · have := hk 1 (by rw [h]; decide); contradiction
           · have := hk 2 (by rw [h]; decide); contradiction
           · have := hk 3 (by rw [h]; decide); contradiction
           · have := hk 4 (by rw [h]; decide); contradiction)
  · rw [a, b, if_neg one_ne0, if_pos rfl]
    exact .l rfl rfl rfl
theorem e_dropsAnew {σ : Sg} (hI : Inv σ) (p0 : Int32) : Eq3 kc1 (g_dropsAnew σ p0) (m_dropsAnew σ p0) := by
  rw [g_dropsAnew, m_dropsAnew]
  rcases V1 hI p0 with ⟨a, b, -, hv⟩ | ⟨a, b⟩
  · rw [a, b, if_pos rfl, if_neg one_ne0]; exact .l rfl rfl rfl
  · rw [a, b, if_neg one_ne0, if_pos rfl]; exact .l rfl rfl rfl
