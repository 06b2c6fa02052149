theorem str_b {d v : Int32} (hd : 0 ≤ d.toInt) (hv : 0 ≤ v.toInt) (h : d.toInt ≤ 960 * v.toInt) : 0 ≤ (m_strengthOf d v).toInt ∧ (m_strengthOf d v).toInt ≤ 960 ∧ (0 < v.toInt → (m_strengthOf d v).toInt = d.toInt / v.toInt) := by
  by_cases z : v.toInt = 0
  · rw [m_strengthOf, if_pos (i_eq (by rw [z, ti0])), ti0]
    exact ⟨by omega, by omega, fun q => absurd z (by omega)⟩
  · rw [str_i hd (by omega)]
    exact ⟨Int.ediv_nonneg hd hv, Int.ediv_le_of_le_mul (by omega) h, fun _ => rfl⟩
/-- what comes of two volumes -/
def mixI (V D P Q : Int32) : Int := V.toInt + P.toInt - min V.toInt P.toInt * (((m_strengthOf D V).toInt - (m_strengthOf Q P).toInt).natAbs : Int) / 10000
theorem mix_k {m a : Int} (hm : 0 ≤ m) (hm2 : m ≤ 9999) (ha : 0 ≤ a) (ha2 : a ≤ 960) : 0 ≤ m * a ∧ m * a ≤ 9999 * 960 ∧ 0 ≤ m * a / 10000 ∧ m * a / 10000 ≤ m := by
  have h1 : 0 ≤ m * a := Int.mul_nonneg hm ha
  have h2 : m * a ≤ 9999 * 960 := Int.mul_le_mul hm2 ha2 ha (by omega)
  have h3 : m * a ≤ m * 960 := Int.mul_le_mul_of_nonneg_left ha2 hm
  refine ⟨h1, h2, Int.ediv_nonneg h1 (by omega), Int.ediv_le_of_le_mul (by omega) ?_⟩
  omega
theorem ci_i {f0 f1 V D P Q : Int32} (hV : 0 ≤ V.toInt) (hV2 : V.toInt ≤ 9999) (hD : 0 ≤ D.toInt) (hD2 : D.toInt ≤ 960 * V.toInt) (hP : 0 ≤ P.toInt) (hP2 : P.toInt ≤ 9999) (hQ : 0 ≤ Q.toInt) (hQ2 : Q.toInt ≤ 960 * P.toInt) : (ve_comeIn_2 f0 f1 V D P Q).toInt = mixI V D P Q := by
  obtain ⟨a1, a2, -⟩ := str_b hD hV hD2
  obtain ⟨b1, b2, -⟩ := str_b hQ hP hQ2
  rw [ve_comeIn_2, str_eq hD hV, str_eq hQ hP, mixI]
  generalize m_strengthOf D V = s1 at *
  generalize m_strengthOf Q P = s2 at *
  have e1 : (s1 - s2).toInt = s1.toInt - s2.toInt := i_sub (by omega) (by omega)
  have e2 : (if 0 ≤ s1 - s2 then s1 - s2 else 0 - (s1 - s2)).toInt = ((s1.toInt - s2.toInt).natAbs : Int) := by
    by_cases h : 0 ≤ s1 - s2
    · rw [if_pos h, e1]
      rw [le_i, e1, ti0] at h
      omega
    · rw [if_neg h, i_sub (by rw [e1, ti0]; omega) (by rw [e1, ti0]; omega), e1, ti0]
      rw [le_i, e1, ti0] at h
      omega
  have e3 : (if P < V then P else V).toInt = min V.toInt P.toInt := by
    by_cases h : P < V
    · rw [if_pos h]; rw [lt_i] at h; omega
    · rw [if_neg h]; rw [lt_i] at h; omega
  generalize (if 0 ≤ s1 - s2 then s1 - s2 else 0 - (s1 - s2)) = x at *
  generalize (if P < V then P else V) = y at *
  obtain ⟨k1, k2, k3, k4⟩ := mix_k (m := y.toInt) (a := x.toInt) (by omega) (by omega) (by omega) (by omega)
  have e4 : (g_part y x 10000).toInt = y.toInt * x.toInt / 10000 := by
    rw [g_part_1 (by decide), i_part (by omega) (by omega) (by decide) (by rw [show (10000 : Int32).toInt = 10000 by decide]; omega), show (10000 : Int32).toInt = 10000 by decide]
  have e5 : (P - g_part y x 10000).toInt = P.toInt - y.toInt * x.toInt / 10000 := by rw [i_sub (by rw [e4]; omega) (by rw [e4]; omega), e4]
  rw [i_add (by rw [e5]; omega) (by rw [e5]; omega), e5, ← e2, ← e3]
  omega
theorem mw_i {σ : Sg} {i P Q : Int32} (hV : 0 ≤ (σ.2 5 (ix i)).toInt) (hV2 : (σ.2 5 (ix i)).toInt ≤ 9999) (hD : 0 ≤ (σ.2 6 (ix i)).toInt) (hD2 : (σ.2 6 (ix i)).toInt ≤ 960 * (σ.2 5 (ix i)).toInt) (hP : 0 ≤ P.toInt) (hP2 : P.toInt ≤ 9999) (hQ : 0 ≤ Q.toInt) (hQ2 : Q.toInt ≤ 960 * P.toInt) : (m_with σ i P Q).toInt = mixI (σ.2 5 (ix i)) (σ.2 6 (ix i)) P Q := by
  rw [m_with, mixI]
  generalize σ.2 5 (ix i) = V at *
  generalize σ.2 6 (ix i) = D at *
  obtain ⟨a1, a2, -⟩ := str_b hD hV hD2
  obtain ⟨b1, b2, -⟩ := str_b hQ hP hQ2
  generalize m_strengthOf D V = s1 at *
  generalize m_strengthOf Q P = s2 at *
  have e1 : (s1 - s2).toInt = s1.toInt - s2.toInt := i_sub (by omega) (by omega)
  have e0 : (V + P).toInt = V.toInt + P.toInt := i_add (by omega) (by omega)
  have el := least_i V P
  have mz : ∀ a : Int, min V.toInt P.toInt = 0 → min V.toInt P.toInt * a / 10000 = 0 := fun a h => by rw [h, Int.zero_mul]; rfl
  by_cases h1 : P = 0
  · rw [if_pos h1, e0, mz _ (by rw [h1, ti0]; omega)]; omega
  rw [if_neg h1]
  by_cases h2 : V = 0
  · rw [if_pos h2, e0, mz _ (by rw [h2, ti0]; omega)]; omega
  rw [if_neg h2]
  generalize m_least V P = y at *
  have key : ∀ x : Int32, x.toInt = ((s1.toInt - s2.toInt).natAbs : Int) → ((V + P) - (y * x) / 10000).toInt = V.toInt + P.toInt - min V.toInt P.toInt * ((s1.toInt - s2.toInt).natAbs : Int) / 10000 := by
    intro x hx
    obtain ⟨k1, k2, k3, k4⟩ := mix_k (m := y.toInt) (a := x.toInt) (by omega) (by omega) (by omega) (by omega)
    have e4 : (y * x).toInt = y.toInt * x.toInt := i_mul (by omega) (by omega)
    have e5 : (y * x / 10000).toInt = y.toInt * x.toInt / 10000 := by rw [i_div (by rw [e4]; exact k1) (by decide), e4, show (10000 : Int32).toInt = 10000 by decide]
    rw [i_sub (by rw [e0, e5]; omega) (by rw [e0, e5]; omega), e0, e5, ← hx, ← el]
  by_cases h3 : 0 ≤ s1 - s2
  · rw [if_pos h3]
    rw [le_i, e1, ti0] at h3
    exact key _ (by rw [e1]; omega)
  · rw [if_neg h3]
    rw [le_i, e1, ti0] at h3
    have en : (-(s1 - s2)).toInt = -(s1.toInt - s2.toInt) := by
      rw [Int32.toInt_neg, e1]
      exact bm32 (by omega) (by omega)
    exact key _ (by rw [en]; omega)
theorem ci_eq {f0 f1 : Int32} {σ : Sg} {i P Q : Int32} (hV : 0 ≤ (σ.2 5 (ix i)).toInt) (hV2 : (σ.2 5 (ix i)).toInt ≤ 9999) (hD : 0 ≤ (σ.2 6 (ix i)).toInt) (hD2 : (σ.2 6 (ix i)).toInt ≤ 960 * (σ.2 5 (ix i)).toInt) (hP : 0 ≤ P.toInt) (hP2 : P.toInt ≤ 9999) (hQ : 0 ≤ Q.toInt) (hQ2 : Q.toInt ≤ 960 * P.toInt) : ve_comeIn_2 f0 f1 (σ.2 5 (ix i)) (σ.2 6 (ix i)) P Q = m_with σ i P Q :=
  i_eq ((ci_i hV hV2 hD hD2 hP hP2 hQ hQ2).trans (mw_i hV hV2 hD hD2 hP hP2 hQ hQ2).symm)
/-- it keeps: drops are no more than 960 times the volume -/
theorem mix_half {V D P Q s t k : Int} (hV : 0 ≤ V) (hD2 : D ≤ 960 * V) (hP : 0 < P) (hP2 : P ≤ 9999) (hs : s = Q / P) (ht : t ≤ 960) (hst : s < t) (hk0 : 0 ≤ k) (hk : 10000 * k ≤ P * (t - s)) : D + Q ≤ 960 * (V + P - k) := by
  have h1 : Q < (s + 1) * P := by
    rw [hs]
    exact Int.lt_ediv_add_one_mul_self Q hP
  have h2 : P * (t - s) ≤ P * (960 - s) := Int.mul_le_mul_of_nonneg_left (by omega) (by omega)
  have e1 : P * (960 - s) = 960 * P - P * s := by rw [Int.mul_sub, Int.mul_comm P 960]
  have e2 : (s + 1) * P = P * s + P := by rw [Int.add_mul, Int.one_mul, Int.mul_comm s P]
  by_cases h3 : s = 959
  · obtain rfl : t = 960 := by omega
    rw [h3] at h1 hk
    omega
  · have h4 : P * 2 ≤ P * (960 - s) := Int.mul_le_mul_of_nonneg_left (by omega) (by omega)
    omega
theorem mix_b {V D P Q : Int32} (hV : 0 ≤ V.toInt) (hV2 : V.toInt ≤ 9999) (hD : 0 ≤ D.toInt) (hD2 : D.toInt ≤ 960 * V.toInt) (hP : 0 ≤ P.toInt) (hP2 : P.toInt ≤ 9999) (hQ : 0 ≤ Q.toInt) (hQ2 : Q.toInt ≤ 960 * P.toInt) : 0 ≤ mixI V D P Q ∧ mixI V D P Q ≤ V.toInt + P.toInt ∧ D.toInt + Q.toInt ≤ 960 * mixI V D P Q := by
  obtain ⟨a1, a2, a3⟩ := str_b hD hV hD2
  obtain ⟨b1, b2, b3⟩ := str_b hQ hP hQ2
  unfold mixI
  generalize hs1 : (m_strengthOf D V).toInt = s1 at *
  generalize hs2 : (m_strengthOf Q P).toInt = s2 at *
  obtain ⟨k1, k2, k3, k4⟩ := mix_k (m := min V.toInt P.toInt) (a := ((s1 - s2).natAbs : Int)) (by omega) (by omega) (by omega) (by omega)
  refine ⟨by omega, by omega, ?_⟩
  generalize hA : ((s1 - s2).natAbs : Int) = A at *
  have hdiv : 10000 * (min V.toInt P.toInt * A / 10000) ≤ min V.toInt P.toInt * A := by omega
  by_cases h1 : V.toInt = 0
  · have : min V.toInt P.toInt * A = 0 := by rw [show min V.toInt P.toInt = 0 by omega, Int.zero_mul]
    omega
  by_cases h2 : P.toInt = 0
  · have : min V.toInt P.toInt * A = 0 := by rw [show min V.toInt P.toInt = 0 by omega, Int.zero_mul]
    omega
  by_cases h3 : s2 < s1
  · have e : A = s1 - s2 := by omega
    have h4 : min V.toInt P.toInt * A ≤ P.toInt * (s1 - s2) := by rw [e]; exact Int.mul_le_mul_of_nonneg_right (by omega) (by omega)
    exact mix_half hV hD2 (by omega) hP2 (b3 (by omega)) a2 h3 k3 (by omega)
  · by_cases h5 : s1 < s2
    · have e : A = s2 - s1 := by omega
      have h4 : min V.toInt P.toInt * A ≤ V.toInt * (s2 - s1) := by rw [e]; exact Int.mul_le_mul_of_nonneg_right (by omega) (by omega)
      have := mix_half hP hQ2 (by omega : 0 < V.toInt) hV2 (a3 (by omega)) b2 h5 k3 (by omega)
      omega
    · have : min V.toInt P.toInt * A = 0 := by rw [show A = 0 by omega, Int.mul_zero]
      omega
/-- a part taken keeps it -/
theorem take_b {V D p : Int} (hV : 0 < V) (hD : 0 ≤ D) (hD2 : D ≤ 960 * V) (hp : 0 ≤ p) (hpV : p ≤ V) : 0 ≤ D * p / V ∧ D * p / V ≤ D ∧ D * p / V ≤ 960 * p ∧ D - D * p / V ≤ 960 * (V - p) := by
  have h0 : 0 ≤ D * p := Int.mul_nonneg hD hp
  have h1 : D * p ≤ D * V := Int.mul_le_mul_of_nonneg_left hpV hD
  have h2 : D * p ≤ (960 * V) * p := Int.mul_le_mul_of_nonneg_right hD2 hp
  have h3 : D * (V - p) ≤ (960 * V) * (V - p) := Int.mul_le_mul_of_nonneg_right hD2 (by omega)
  refine ⟨Int.ediv_nonneg h0 (by omega), Int.ediv_le_of_le_mul hV h1, Int.ediv_le_of_le_mul hV ?_, ?_⟩
  · rw [Int.mul_right_comm] at h2
    exact h2
  · have h4 : D - 960 * (V - p) ≤ D * p / V := by
      refine Int.le_ediv_of_mul_le hV ?_
      have e1 : (D - 960 * (V - p)) * V = D * V - (960 * V) * (V - p) := by
        rw [Int.sub_mul, Int.mul_right_comm]
      have e2 : D * (V - p) = D * V - D * p := Int.mul_sub _ _ _
      omega
    omega
