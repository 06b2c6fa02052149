/-! a day -/
theorem latS_eq (k : Nat) (S : Sg) : g_latS k S = latS k S := by
  rw [g_latS, latS, miss_eq]
theorem lat_eq (n : Nat) (S : Sg) : g_lat n S = lat n S := by
  induction n with
  | zero => rfl
  | succ n ih => rw [g_lat_s, lat_s, ih, latS_eq]
theorem Inv_lat {S : Sg} (hI : Inv S) : ∀ n, n ≤ ix (S.1 22) → Inv (lat n S) ∧ (lat n S).1 22 = S.1 22 ∧ (lat n S).1 2 = S.1 2 ∧ (lat n S).1 1 = S.1 1 := by
  intro n
  induction n with
  | zero => intro _; exact ⟨hI, rfl, rfl, rfl⟩
  | succ n ih =>
    intro hn
    obtain ⟨h1, h2, h3, h4⟩ := ih (by omega)
    rw [lat_s]
    generalize lat n S = X at h1 h2 h3 h4
    rw [latS]
    by_cases z : X.2 23 n = 0
    · rw [if_pos z]
      split
      · exact ⟨h1, h2, h3, h4⟩
      · exact ⟨Inv_miss (Inv_23 h1 (by rw [h2]; omega) 2), h2, h3, h4⟩
    · rw [if_neg z]; exact ⟨h1, h2, h3, h4⟩
theorem share_b {V D r : Int} (hV : 0 ≤ V) (hD : 0 ≤ D) (hD2 : D ≤ 960 * V) (hr : 0 ≤ r) (hr2 : r ≤ 500) : 0 ≤ D * r / 100000 ∧ D * r / 100000 ≤ D ∧ 0 ≤ V * r / 100000 ∧ V * r / 100000 ≤ V ∧ D - D * r / 100000 ≤ 960 * (V - V * r / 100000) := by
  have a1 : 0 ≤ D * r := Int.mul_nonneg hD hr
  have a2 : 0 ≤ V * r := Int.mul_nonneg hV hr
  have a3 : D * r ≤ D * 500 := Int.mul_le_mul_of_nonneg_left hr2 hD
  have a4 : V * r ≤ V * 500 := Int.mul_le_mul_of_nonneg_left hr2 hV
  have a5 : D * (100000 - r) ≤ (960 * V) * (100000 - r) := Int.mul_le_mul_of_nonneg_right hD2 (by omega)
  have e1 : D * (100000 - r) = D * 100000 - D * r := Int.mul_sub _ _ _
  have e2 : (960 * V) * (100000 - r) = 960 * (V * 100000 - V * r) := by rw [Int.mul_assoc, Int.mul_sub]
  omega
theorem shrS_ok {S : Sg} (hI : Inv S) {k : Nat} (hk : k < ix (S.1 2)) : g_shrS k S = shrS k S ∧ Inv (shrS k S) := by
  obtain ⟨b1, b2, b3, b4, b5, b6, b7⟩ := hI.2.1 k hk
  have hpl : ¬ g_isPlace S (S.2 3 k) = 0 := by
    rw [place_eq]
    rcases in_01 (S.2 3 k) 0 3 with ⟨c, d⟩ | ⟨c, -, -⟩
    · exact absurd ⟨by rw [le_i, ti0]; exact b6, by rw [le_i, show (3 : Int32).toInt = 3 by decide]; exact b7⟩ d
    · rw [show m_isPlace (S.2 3 k) = 1 from c]; exact one_ne0
  have hj : ix (S.2 3 k) < 4 := by
    have := ix_i b6
    omega
  obtain ⟨r1, r2⟩ := hI.2.2.2.2.2.2.2.2 _ hj
  have e1 : g_part (S.2 6 k) (S.2 7 (ix (S.2 3 k))) 100000 = shrI k S := g_part_1 (by decide)
  have e2 : g_part (S.2 5 k) (S.2 7 (ix (S.2 3 k))) 100000 = m_part (S.2 5 k) (S.2 7 (ix (S.2 3 k))) 100000 := g_part_1 (by decide)
  have e3 : ve_takeShare (S.2 3 k) (S.2 4 k) (S.2 5 k) (S.2 6 k) (S.2 7 (ix (S.2 3 k))) = shrI k S := e1
  have ew : (100000 : Int32).toInt = 100000 := by decide
  obtain ⟨s1, s2, s3, s4, s5⟩ := share_b b1 b4 b5 r1 r2
  have i1 : (shrI k S).toInt = (S.2 6 k).toInt * (S.2 7 (ix (S.2 3 k))).toInt / 100000 := by
    unfold shrI
    rw [i_part b4 r1 (by decide) (by rw [ew]; omega), ew]
  have i2 : (m_part (S.2 5 k) (S.2 7 (ix (S.2 3 k))) 100000).toInt = (S.2 5 k).toInt * (S.2 7 (ix (S.2 3 k))).toInt / 100000 := by
    rw [i_part b1 r1 (by decide) (by rw [ew]; omega), ew]
  have q1 : (S.2 6 k - shrI k S).toInt = (S.2 6 k).toInt - (S.2 6 k).toInt * (S.2 7 (ix (S.2 3 k))).toInt / 100000 := by rw [i_sub (by rw [i1]; omega) (by rw [i1]; omega), i1]
  have q2 : (S.2 5 k - m_part (S.2 5 k) (S.2 7 (ix (S.2 3 k))) 100000).toInt = (S.2 5 k).toInt - (S.2 5 k).toInt * (S.2 7 (ix (S.2 3 k))).toInt / 100000 := by rw [i_sub (by rw [i2]; omega) (by rw [i2]; omega), i2]
  have hst : shrS k S = bs (bs (bs S 5 k (S.2 5 k - m_part (S.2 5 k) (S.2 7 (ix (S.2 3 k))) 100000)) 6 k (S.2 6 k - shrI k S)) 10 4 (S.2 10 4 + shrI k S) := by
    unfold shrS
    rw [bs_comm (bs S 10 4 _) k k _ _ (show (6 : Nat) ≠ 5 by decide), bs_comm S 4 k _ _ (show (10 : Nat) ≠ 5 by decide), bs_comm _ 4 k _ _ (show (10 : Nat) ≠ 6 by decide)]
  constructor
  · rw [g_shrS, if_neg hpl, e1, e2, e3, hst]
  · rw [hst]
    exact Inv_b10 (Inv_v hI hk (by rw [q2]; omega) (by rw [q2]; omega) (by rw [q1]; omega) (by rw [q1, q2]; exact s5))
theorem shr_eq {S : Sg} (hI : Inv S) : ∀ n, n ≤ ix (S.1 2) → g_shr n S = shr n S ∧ Inv (shr n S) ∧ (shr n S).1 = S.1 := by
  intro n
  induction n with
  | zero => intro _; exact ⟨rfl, hI, rfl⟩
  | succ n ih =>
    intro hn
    obtain ⟨h1, h2, h3⟩ := ih (by omega)
    rw [g_shr_s, shr_s, h1]
    obtain ⟨k1, k2⟩ := shrS_ok h2 (k := n) (by rw [h3]; omega)
    refine ⟨k1, k2, ?_⟩
    show (shr n S).1 = S.1
    exact h3
theorem pre_eq {σ : Sg} (hI : Inv σ) (hd : (σ.1 1).toInt < 900) : g_dpre σ = m_pre σ ∧ Inv (m_pre σ) ∧ (m_pre σ).1 1 = σ.1 1 + 1 ∧ (m_pre σ).1 2 = σ.1 2 ∧ (m_pre σ).1 22 = σ.1 22 := by
  have h0 := hI.2.2.2.2.2.2.1.1
  have e1 : (σ.1 1 + 1).toInt = (σ.1 1).toInt + 1 := by rw [i_add (by rw [ti1]; omega) (by rw [ti1]; omega), ti1]
  have hI1 : Inv (zs σ 1 (σ.1 1 + 1)) := by
    obtain ⟨a1, a2, a3, a4, a5, a6, a7, a8⟩ := hI
    refine ⟨a1, a2, a3, a4, a5, a6, ?_, a8⟩
    show 0 ≤ (σ.1 1 + 1).toInt ∧ (σ.1 1 + 1).toInt ≤ 900
    omega
  have z16 : ∀ X : Sg, X.1 16 = σ.1 16 → zs X 16 (σ.1 16) = X := fun X h => zs_id h
  rw [g_dpre, m_pre]
  by_cases c1 : σ.1 13 = (-1)
  · have c2 : ¬ (σ.1 1 + 1) = σ.1 13 := fun e => by
      have : (σ.1 1 + 1).toInt = (-1 : Int32).toInt := by rw [e, c1]
      rw [e1, show (-1 : Int32).toInt = -1 by decide] at this
      omega
    rw [if_pos c1, if_neg c2]
    split
    · exact ⟨rfl, hI1, rfl, rfl, rfl⟩
    · rw [z16 (zs σ 1 (σ.1 1 + 1)) rfl]
      exact ⟨rfl, hI1, rfl, rfl, rfl⟩
  · rw [if_neg c1]
    by_cases c2 : (σ.1 1 + 1) = σ.1 13
    · rw [if_pos c2]
      split
      · rw [if_pos c2.symm]
        refine ⟨?_, hI1, rfl, rfl, rfl⟩
        rw [zs_comm (zs σ 1 (σ.1 1 + 1)) 0 (σ.1 14) (show (16 : Nat) ≠ 11 by decide), zs_comm _ 0 (-1) (show (16 : Nat) ≠ 13 by decide)]
      · rw [if_pos c2.symm, z16 (zs (zs (zs σ 1 (σ.1 1 + 1)) 11 (σ.1 14)) 13 (-1)) rfl]
        exact ⟨rfl, hI1, rfl, rfl, rfl⟩
    · have c3 : ¬ σ.1 13 = σ.1 1 + 1 := fun e => c2 e.symm
      rw [if_neg c2]
      split
      · exact ⟨rfl, hI1, rfl, rfl, rfl⟩
      · rw [z16 (zs σ 1 (σ.1 1 + 1)) rfl]
        exact ⟨rfl, hI1, rfl, rfl, rfl⟩
theorem tail_eq (X : Sg) : (if (X.1 1 - X.1 1 / 30 * 30) = 0 then zs X 12 (ex_growOwed_1 (X.1 11) (X.1 12) (1000000 - X.1 16)) else X) = m_tail X := by
  have z : zs X 12 (X.1 12 + 0) = X := by rw [Int32.add_zero]; exact zs_self X 12
  rw [m_tail, z]
  split
  · rw [ex_growOwed_1]
    split
    · exact zs_self X 12
    · rfl
  · rfl
theorem Inv_tail {X : Sg} (h : Inv X) : Inv (m_tail X) ∧ (m_tail X).1 1 = X.1 1 := by
  rw [m_tail]
  repeat' split
  all_goals exact ⟨h, rfl⟩
theorem one_eq {σ : Sg} (hI : Inv σ) (hd : (σ.1 1).toInt < 900) : g_beginDay σ = m_passesOne σ ∧ Inv (m_passesOne σ) ∧ (m_passesOne σ).1 1 = σ.1 1 + 1 := by
  obtain ⟨p1, p2, p3, p4, p5⟩ := pre_eq hI hd
  rw [g_beginDay, p1, m_passesOne, ← p4, ← p5]
  generalize m_pre σ = Y at p2 p3
  obtain ⟨l1, l2, l3, l4⟩ := Inv_lat p2 (ix (Y.1 22)) (Nat.le_refl _)
  have e1 : g_loseLateMovements Y = lat (ix (Y.1 22)) Y := lat_eq _ _
  have hz : ix (Y.1 2) = ix ((lat (ix (Y.1 22)) Y).1 2) := by rw [l3]
  rw [g_dtail, e1, hz]
  generalize lat (ix (Y.1 22)) Y = U at l1 l2 l3 l4
  obtain ⟨s1, s2, s3⟩ := shr_eq l1 (ix (U.1 2)) (Nat.le_refl _)
  have e2 : g_takeShares U = shr (ix (U.1 2)) U := s1
  rw [e2, tail_eq]
  obtain ⟨t1, t2⟩ := Inv_tail s2
  exact ⟨rfl, t1, by rw [t2, s3, l4, p3]⟩
theorem pas_eq {σ : Sg} (hI : Inv σ) : ∀ n : Nat, (σ.1 1).toInt + n ≤ 900 → g_pas n σ = pas n σ ∧ Inv (pas n σ) ∧ ((pas n σ).1 1).toInt = (σ.1 1).toInt + n := by
  intro n
  induction n with
  | zero => intro _; exact ⟨rfl, hI, by show (σ.1 1).toInt = _; omega⟩
  | succ n ih =>
    intro hn
    obtain ⟨h1, h2, h3⟩ := ih (by omega)
    rw [g_pas_s, pas_s, h1]
    obtain ⟨o1, o2, o3⟩ := one_eq h2 (by omega)
    refine ⟨o1, o2, ?_⟩
    have h0 := hI.2.2.2.2.2.2.1.1
    rw [o3, i_add (by rw [ti1, h3]; omega) (by rw [ti1, h3]; omega), ti1, h3]
    omega
theorem r_pass {σ : Sg} (hI : Inv σ) (p0 : Int32) : R3 kc23 (g_pass σ p0) (m_pass σ p0) := by
  rw [g_pass, m_pass, within_in]
  rcases in_01 p0 1 60 with ⟨c, -⟩ | ⟨c, l, u⟩
  · rw [c, if_pos rfl, if_pos rfl]; exact .l rfl rfl rfl hI
  rw [c, if_neg one_ne0, if_neg one_ne0]
  rw [ti1] at l
  rw [show (60 : Int32).toInt = 60 by decide] at u
  have hd := hI.2.2.2.2.2.2.1
  have e : (σ.1 1 + p0).toInt = (σ.1 1).toInt + p0.toInt := i_add (by omega) (by omega)
  by_cases h : σ.1 1 + p0 ≤ 900
  · rw [if_pos h, if_pos h]
    rw [le_i, e, show (900 : Int32).toInt = 900 by decide] at h
    have hx := ix_i (x := p0) (by omega)
    obtain ⟨h1, h2, -⟩ := pas_eq hI (ix p0) (by omega)
    rw [h1]
    exact .l rfl rfl rfl h2
  · rw [if_neg h, if_neg h]; exact .l rfl rfl rfl hI
