/-! ===== the pure part: numbers ===== -/
theorem i_lo (a : Int32) : -2147483648 ≤ a.toInt := Int32.le_toInt a
theorem i_hi (a : Int32) : a.toInt < 2147483648 := Int32.toInt_lt a
theorem i_eq {a b : Int32} (h : a.toInt = b.toInt) : a = b := Int32.toInt_inj.mp h
theorem bm32 {n : Int} (h1 : -2147483648 ≤ n) (h2 : n < 2147483648) : n.bmod (2 ^ 32) = n := Int.bmod_eq_of_le (by omega) (by omega)
theorem bm64 {n : Int} (h1 : -9223372036854775808 ≤ n) (h2 : n < 9223372036854775808) : n.bmod (2 ^ 64) = n := Int.bmod_eq_of_le (by omega) (by omega)
theorem i_add {a b : Int32} (h1 : -2147483648 ≤ a.toInt + b.toInt) (h2 : a.toInt + b.toInt < 2147483648) : (a + b).toInt = a.toInt + b.toInt := by
  rw [Int32.toInt_add]; exact bm32 h1 h2
theorem i_sub {a b : Int32} (h1 : -2147483648 ≤ a.toInt - b.toInt) (h2 : a.toInt - b.toInt < 2147483648) : (a - b).toInt = a.toInt - b.toInt := by
  rw [Int32.toInt_sub]; exact bm32 h1 h2
theorem i_mul {a b : Int32} (h1 : -2147483648 ≤ a.toInt * b.toInt) (h2 : a.toInt * b.toInt < 2147483648) : (a * b).toInt = a.toInt * b.toInt := by
  rw [Int32.toInt_mul]; exact bm32 h1 h2
theorem i_div {a b : Int32} (ha : 0 ≤ a.toInt) (hb : 0 < b.toInt) : (a / b).toInt = a.toInt / b.toInt := by
  rw [Int32.toInt_div, Int.tdiv_eq_ediv_of_nonneg ha]
  have h1 : 0 ≤ a.toInt / b.toInt := Int.ediv_nonneg ha (by omega)
  have h2 : a.toInt / b.toInt ≤ a.toInt := Int.ediv_le_self _ ha
  have := i_hi a
  exact bm32 (by omega) (by omega)
/-- a part, where nothing is below zero and the answer is no more than an int -/
theorem i_part {x y w : Int32} (hx : 0 ≤ x.toInt) (hy : 0 ≤ y.toInt) (hw : 0 < w.toInt) (hr : x.toInt * y.toInt / w.toInt < 2147483648) : (m_part x y w).toInt = x.toInt * y.toInt / w.toInt := by
  have hxh := i_hi x
  have hyh := i_hi y
  have p0 : 0 ≤ x.toInt * y.toInt := Int.mul_nonneg hx hy
  have p1 : x.toInt * y.toInt ≤ 2147483648 * 2147483648 := Int.mul_le_mul (by omega) (by omega) hy (by omega)
  have e1 : (x.toInt64 * y.toInt64).toInt = x.toInt * y.toInt := by
    rw [Int64.toInt_mul, Int32.toInt_toInt64, Int32.toInt_toInt64]
    exact bm64 (by omega) (by omega)
  have q0 : 0 ≤ x.toInt * y.toInt / w.toInt := Int.ediv_nonneg p0 (by omega)
  have e2 : (x.toInt64 * y.toInt64 / w.toInt64).toInt = x.toInt * y.toInt / w.toInt := by
    rw [Int64.toInt_div, e1, Int32.toInt_toInt64, Int.tdiv_eq_ediv_of_nonneg p0]
    exact bm64 (by omega) (by omega)
  show ((x.toInt64 * y.toInt64 / w.toInt64).toInt32).toInt = _
  rw [Int64.toInt_toInt32, e2]
  exact bm32 (by omega) hr
theorem lt_i {a b : Int32} : a < b ↔ a.toInt < b.toInt := Int32.lt_iff_toInt_lt
theorem le_i {a b : Int32} : a ≤ b ↔ a.toInt ≤ b.toInt := Int32.le_iff_toInt_le
theorem ti0 : (0 : Int32).toInt = 0 := by decide
theorem ti1 : (1 : Int32).toInt = 1 := by decide
theorem g_part_1 {x y w : Int32} (h : 1 ≤ w.toInt) : g_part x y w = m_part x y w := by
  rw [g_part, if_pos (by rw [le_i, ti1]; exact h)]
  rfl
theorem g_part_0 {x y w : Int32} (h : w.toInt ≤ 0) : g_part x y w = 0 := by
  rw [g_part, if_neg (by rw [le_i, ti1]; omega)]
theorem duty_eq (σ : Sg) (x r : Int32) : g_part x r 1000 = m_dutyFor σ x r := by
  rw [g_part_1 (by decide)]
  rfl
/-- a strength -/
theorem str_eq {d v : Int32} (hd : 0 ≤ d.toInt) (hv : 0 ≤ v.toInt) : g_part d 1 v = m_strengthOf d v := by
  by_cases h : v.toInt = 0
  · rw [g_part_0 (by omega), m_strengthOf, if_pos (i_eq (by rw [h, ti0]))]
  · rw [g_part_1 (by omega), m_strengthOf, if_neg (fun e => h (by rw [e]; exact ti0))]
    have h1 : d.toInt * 1 / v.toInt ≤ d.toInt := by rw [Int.mul_one]; exact Int.ediv_le_self _ hd
    have := i_hi d
    refine i_eq ?_
    rw [i_part hd (by decide) (by omega) (by rw [ti1]; omega), i_div hd (by omega), ti1, Int.mul_one]
theorem str_i {d v : Int32} (hd : 0 ≤ d.toInt) (hv : 0 < v.toInt) : (m_strengthOf d v).toInt = d.toInt / v.toInt := by
  rw [m_strengthOf, if_neg (fun e => by rw [e] at hv; exact absurd hv (by decide)), i_div hd hv]
theorem least_i (a b : Int32) : (m_least a b).toInt = min a.toInt b.toInt := by
  rw [m_least]
  by_cases h : b ≤ a
  · rw [if_pos h]
    rw [le_i] at h
    omega
  · rw [if_neg h]
    rw [le_i] at h
    omega
