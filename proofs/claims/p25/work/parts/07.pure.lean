theorem vp_dec {i : Int32} {n : Nat} (h : ¬ (i < 0 ∨ n ≤ i.toNatClampNeg)) : vp_in i n := h
def sm (f : Nat → Int32) : Nat → Int32
  | 0 => 0
  | n + 1 => sm f n + f n
theorem sm_s (f : Nat → Int32) (n : Nat) : sm f (n + 1) = sm f n + f n := rfl
def Cnt (σ : Sg) (k n : Nat) : Prop := σ.1 k = nI (ix (σ.1 k)) ∧ ix (σ.1 k) ≤ n
theorem lp_end {σ : Sg} {j n k : Nat} (h : Cnt σ j n) (c : σ.1 j ≤ nI k) (h1 : k ≤ ix (σ.1 j)) (hn : n < 2 ^ 31 := by decide) : k = ix (σ.1 j) := by
  rw [h.1] at c
  have h2 := (nI_leI (Nat.lt_of_le_of_lt h.2 hn) (Nat.lt_of_le_of_lt (Nat.le_trans h1 h.2) hn)).mp c
  omega
theorem lp_in {σ : Sg} {j n k : Nat} (h : Cnt σ j n) (c : ¬ σ.1 j ≤ nI k) (h1 : k ≤ ix (σ.1 j)) : k < ix (σ.1 j) := by
  rcases Nat.lt_or_ge k (ix (σ.1 j)) with q | q
  · exact q
  · exfalso
    apply c
    have e : k = ix (σ.1 j) := by omega
    rw [e, ← h.1]
    exact Int32.le_refl _
theorem t64_ne {x : Int32} (h : ¬ x = 0) : ¬ x.toInt64 = 0 := by
  intro q
  apply h
  have := congrArg Int64.toInt q
  rw [Int32.toInt_toInt64] at this
  exact Int32.toInt_inj.mp this
def m_in (p0 : Int32) (p1 : Int32) (p2 : Int32) : Int32 := if p0 < p1 then 0 else if p2 < p0 then 0 else 1
theorem nz_01 {x : Int32} (h : x = 0 ∨ x = 1) : narrow .boolean (.int x) = .int x := by rcases h with rfl | rfl <;> rfl
theorem m_in01 (a b c : Int32) : m_in a b c = 0 ∨ m_in a b c = 1 := by
  rw [m_in]
  split
  · exact Or.inl rfl
  · split
    · exact Or.inl rfl
    · exact Or.inr rfl
def m_isPlace (p0 : Int32) : Int32 := (m_in p0 0 3)
def m_least (p0 : Int32) (p1 : Int32) : Int32 := if p1 ≤ p0 then p1 else p0
def m_strengthOf (p0 : Int32) (p1 : Int32) : Int32 := if p1 = 0 then 0 else (p0 / p1)
def m_part (p0 : Int32) (p1 : Int32) (p2 : Int32) : Int32 := (((p0.toInt64 * p1.toInt64) / p2.toInt64).toInt32)
def m_isVessel (σ : Sg) (p0 : Int32) : Int32 := (m_in p0 0 ((σ.1 2) - 1))
theorem in_vp {x hi : Int32} {n : Nat} (hh : hi.toInt = (n : Int)) (c : ¬ m_in x 0 hi = 0) : vp_in x (n + 1) := by
  rw [m_in] at c
  by_cases c1 : x < 0
  · rw [if_pos c1] at c; exact absurd rfl c
  · rw [if_neg c1] at c
    by_cases c2 : hi < x
    · rw [if_pos c2] at c; exact absurd rfl c
    · rw [Int32.lt_iff_toInt_lt] at c1 c2
      rw [hh] at c2
      rw [vp_in_iff]
      have e0 : (0 : Int32).toInt = 0 := by decide
      rw [e0] at c1
      omega
theorem cnt_pred {σ : Sg} {j n : Nat} (h : Cnt σ j n) (hn : n < 2 ^ 31) : (σ.1 j - 1).toInt = (ix (σ.1 j) : Int) - 1 := by
  have h3 : Int32.toInt (σ.1 j) = (ix (σ.1 j) : Int) := by
    have := nI_toInt (Nat.lt_of_le_of_lt h.2 hn)
    rw [← h.1] at this
    exact this
  have h4 := h.2
  rw [Int32.toInt_sub, h3]
  have e1 : (1 : Int32).toInt = 1 := by decide
  rw [e1]
  exact Int.bmod_eq_of_le (by omega) (by omega)
theorem in_cnt {σ : Sg} {j n : Nat} {x : Int32} (h : Cnt σ j n) (hn : n < 2 ^ 31) (c : ¬ m_in x 0 (σ.1 j - 1) = 0) : x = nI (ix x) ∧ ix x < ix (σ.1 j) := by
  rw [m_in] at c
  by_cases c1 : x < 0
  · rw [if_pos c1] at c; exact absurd rfl c
  · rw [if_neg c1] at c
    by_cases c2 : (σ.1 j - 1) < x
    · rw [if_pos c2] at c; exact absurd rfl c
    · rw [Int32.lt_iff_toInt_lt, cnt_pred h hn] at c2
      obtain ⟨i, hi, rfl⟩ := nI_of c1
      have e2 : ix (nI i) = i := nI_clamp hi
      rw [nI_toInt hi] at c2
      rw [e2]
      exact ⟨rfl, by omega⟩
theorem cnt_vp {σ : Sg} {j n : Nat} {x : Int32} (h : Cnt σ j n) (hn : n < 2 ^ 31) (q : x = nI (ix x) ∧ ix x < ix (σ.1 j)) : vp_in x n := by
  rw [q.1]
  exact vp_in_nI (Nat.lt_of_lt_of_le q.2 h.2) hn
theorem isV_lt {σ : Sg} {x : Int32} (h : Cnt σ 2 10) (c : ¬ m_isVessel σ x = 0) : x = nI (ix x) ∧ ix x < ix (σ.1 2) := in_cnt h (by decide) (by rw [m_isVessel] at c; exact c)
theorem isV_in {σ : Sg} {x : Int32} (h : Cnt σ 2 10) (c : ¬ m_isVessel σ x = 0) : vp_in x 10 := cnt_vp h (by decide) (isV_lt h c)
theorem isM_lt {σ : Sg} {x : Int32} (h : Cnt σ 22 30) (c : ¬ m_in x 0 (σ.1 22 - 1) = 0) : x = nI (ix x) ∧ ix x < ix (σ.1 22) := in_cnt h (by decide) c
theorem isM_in {σ : Sg} {x : Int32} (h : Cnt σ 22 30) (c : ¬ m_in x 0 (σ.1 22 - 1) = 0) : vp_in x 30 := cnt_vp h (by decide) (isM_lt h c)
def m_hasPart (σ : Sg) (p0 : Int32) (p1 : Int32) : Int32 := if (σ.2 5 (ix p0)) < p1 then 0 else 1
def m_hasRoom (σ : Sg) (p0 : Int32) (p1 : Int32) : Int32 := if (σ.2 4 (ix p0)) < ((σ.2 5 (ix p0)) + p1) then 0 else 1
def m_dutyFor (σ : Sg) (p0 : Int32) (p1 : Int32) : Int32 := (((p0.toInt64 * p1.toInt64) / 1000).toInt32)
def m_with (σ : Sg) (p0 : Int32) (p1 : Int32) (p2 : Int32) : Int32 := if p1 = 0 then ((σ.2 5 (ix p0)) + p1) else if (σ.2 5 (ix p0)) = 0 then ((σ.2 5 (ix p0)) + p1) else if 0 ≤ ((m_strengthOf (σ.2 6 (ix p0)) (σ.2 5 (ix p0))) - (m_strengthOf p2 p1)) then (((σ.2 5 (ix p0)) + p1) - (((m_least (σ.2 5 (ix p0)) p1) * ((m_strengthOf (σ.2 6 (ix p0)) (σ.2 5 (ix p0))) - (m_strengthOf p2 p1))) / 10000)) else (((σ.2 5 (ix p0)) + p1) - (((m_least (σ.2 5 (ix p0)) p1) * (-((m_strengthOf (σ.2 6 (ix p0)) (σ.2 5 (ix p0))) - (m_strengthOf p2 p1)))) / 10000))
def m_comes (σ : Sg) (p0 : Int32) (p1 : Int32) (p2 : Int32) : Sg := (bs (bs σ 5 (ix p0) (m_with σ p0 p1 p2)) 6 (ix p0) ((σ.2 6 (ix p0)) + p2))
def m_takes (σ : Sg) (p0 : Int32) (p1 : Int32) : Int32 × Sg := (m_part (σ.2 6 (ix p0)) p1 (σ.2 5 (ix p0)), (bs (bs σ 6 (ix p0) ((σ.2 6 (ix p0)) - (m_part (σ.2 6 (ix p0)) p1 (σ.2 5 (ix p0))))) 5 (ix p0) ((σ.2 5 (ix p0)) - p1)))
def m_misses (σ : Sg) (p0 : Int32) : Int32 × Sg := (m_dutyFor (bs σ 10 5 ((σ.2 10 5) + p0)) p0 (σ.1 11), (zs (bs σ 10 5 ((σ.2 10 5) + p0)) 12 ((σ.1 12) + (m_dutyFor (bs σ 10 5 ((σ.2 10 5) + p0)) p0 (σ.1 11)))))
def m_asksPart (σ : Sg) (p0 : Int32) (p1 : Int32) : Int32 × Int32 := if (m_isVessel σ p0) = 0 then (1, 0) else if 1 ≤ p1 then (if (m_hasPart σ p0 p1) = 0 then (3, 0) else (0, 1)) else (2, 0)
def m_inLots (σ : Sg) : Int32 := sm (σ.2 19) (ix (σ.1 18))
def m_inVessels (σ : Sg) : Int32 := sm (σ.2 6) (ix (σ.1 2))
def mvf (σ : Sg) (k : Nat) : Int32 := if σ.2 23 k = 0 then σ.2 26 k else 0
def m_moving (σ : Sg) : Int32 := sm (mvf σ) (ix (σ.1 22))
theorem cnt_ne {σ : Sg} {j n : Nat} (h : Cnt σ j n) (hn : n < 2 ^ 31) (c : ¬ σ.1 j = nI n) : vp_in (σ.1 j) n := by
  have h1 : ix (σ.1 j) < n := by
    rcases Nat.lt_or_ge (ix (σ.1 j)) n with q | q
    · exact q
    · exact absurd (by rw [h.1]; exact congrArg nI (by have := h.2; omega)) c
  rw [h.1]
  exact vp_in_nI h1 hn
theorem cnt_lt {σ : Sg} {j n : Nat} (h : Cnt σ j n) (hn : n < 2 ^ 31) (c : ¬ nI n ≤ σ.1 j) : vp_in (σ.1 j) n := cnt_ne h hn (fun e => c (by rw [e]; exact Int32.le_refl _))
theorem hasP_ne {σ : Sg} {a b : Int32} (c : ¬ m_hasPart σ a b = 0) (h : 1 ≤ b) : ¬ σ.2 5 (ix a) = 0 := by
  intro e
  apply c
  rw [m_hasPart, e, if_pos]
  exact Int32.lt_of_lt_of_le (by decide) h
theorem hasP_ne' {σ : Sg} {a b : Int32} (c : ¬ m_hasPart σ a b = 0) (h : ¬ b < 1) : ¬ σ.2 5 (ix a) = 0 := hasP_ne c (Int32.not_lt.mp h)
theorem asks_in {σ : Sg} {a b : Int32} (h : Cnt σ 2 10) (c : ¬ (m_asksPart σ a b).2 = 0) : vp_in a 10 ∧ ¬ σ.2 5 (ix a) = 0 := by
  by_cases c1 : m_isVessel σ a = 0
  · exfalso; apply c; rw [m_asksPart]; simp only [c1, if_true, reduceIte, not_true_eq_false]
  · by_cases c2 : 1 ≤ b
    · by_cases c3 : m_hasPart σ a b = 0
      · exfalso; apply c; rw [m_asksPart]; simp only [c1, c2, c3, reduceIte]
      · exact ⟨isV_in h c1, hasP_ne c3 c2⟩
    · exfalso; apply c; rw [m_asksPart]; simp only [c1, c2, reduceIte]
def m_vessel (σ : Sg) (p0 : Int32) (p1 : Int32) : Int32 × Int32 × Sg := if (m_isPlace p0) = 0 then (1, 0, σ) else if (m_in p1 1 9999) = 0 then (2, 0, σ) else if (σ.1 2) = 10 then (3, 0, σ) else (0, ((σ.1 2) + 1) - 1, (zs (bs (bs σ 3 (ix (σ.1 2)) p0) 4 (ix (σ.1 2)) p1) 2 ((σ.1 2) + 1)))
def m_shares (σ : Sg) (p0 : Int32) (p1 : Int32) : Int32 × Int32 × Sg := if (m_isPlace p0) = 0 then (1, 0, σ) else if (m_in p1 0 500) = 0 then (2, 0, σ) else (0, σ.2 7 (ix p0), (bs σ 7 (ix p0) p1))
def m_run (σ : Sg) (p0 : Int32) (p1 : Int32) (p2 : Int32) (p3 : Int32) (p4 : Int32) : Int32 × Int32 × Sg := if (m_in p1 1 9999) = 0 then (if (m_isVessel σ p0) = 0 then (1, 0, σ) else (2, 0, σ)) else if (m_in p2 1 300) = 0 then (if (m_isVessel σ p0) = 0 then (1, 0, σ) else (2, 0, σ)) else if (m_in p3 1 9999) = 0 then (if (m_isVessel σ p0) = 0 then (1, 0, σ) else (2, 0, σ)) else if (m_in p4 1 960) = 0 then (if (m_isVessel σ p0) = 0 then (1, 0, σ) else (2, 0, σ)) else if (m_isVessel σ p0) = 0 then (1, 0, σ) else if (p1 * p2) < (p3 * p4) then (3, 0, σ) else if 60 ≤ (σ.1 8) then (3, 0, σ) else if (m_hasRoom σ p0 p3) = 0 then (3, 0, σ) else if 0 ≤ ((((9 * p1) * p2) / 10) - (p3 * p4)) then (0, (((9 * p1) * p2) / 10) - (p3 * p4), (m_comes (bs (zs (bs (zs σ 8 ((σ.1 8) + 1)) 10 7 ((σ.2 10 7) + ((((9 * p1) * p2) / 10) - (p3 * p4)))) 12 ((σ.1 12) + (m_dutyFor (bs (zs σ 8 ((σ.1 8) + 1)) 10 7 ((σ.2 10 7) + ((((9 * p1) * p2) / 10) - (p3 * p4)))) ((((9 * p1) * p2) / 10) - (p3 * p4)) (σ.1 11)))) 10 0 ((upd (σ.2 10) 7 ((σ.2 10 7) + ((((9 * p1) * p2) / 10) - (p3 * p4))) 0) + (p3 * p4))) p0 p3 (p3 * p4))) else (0, 0, (m_comes (bs (zs (bs (zs σ 8 ((σ.1 8) + 1)) 10 7 ((σ.2 10 7) + 0)) 12 ((σ.1 12) + (m_dutyFor (bs (zs σ 8 ((σ.1 8) + 1)) 10 7 ((σ.2 10 7) + 0)) 0 (σ.1 11)))) 10 0 ((upd (σ.2 10) 7 ((σ.2 10 7) + 0) 0) + (p3 * p4))) p0 p3 (p3 * p4)))
def m_move (σ : Sg) (p0 : Int32) (p1 : Int32) (p2 : Int32) : Int32 × Int32 × Sg := if (m_isVessel σ p0) = 0 then (1, 0, σ) else if (m_isVessel σ p1) = 0 then (1, 0, σ) else if p0 = p1 then (2, 0, σ) else if 1 ≤ p2 then (if (σ.2 3 (ix p0)) = (σ.2 3 (ix p1)) then (if (m_hasPart σ p0 p2) = 0 then (3, 0, σ) else if (m_hasRoom σ p1 p2) = 0 then (3, 0, σ) else (0, (m_comes ((m_takes σ p0 p2).2) p1 p2 ((m_takes σ p0 p2).1)).2 5 (ix p1), (m_comes ((m_takes σ p0 p2).2) p1 p2 ((m_takes σ p0 p2).1)))) else (3, 0, σ)) else (2, 0, σ)
def m_dip (σ : Sg) (p0 : Int32) (p1 : Int32) (p2 : Int32) : Int32 × Int32 × Sg := if (m_isVessel σ p0) = 0 then (1, 0, σ) else if (m_in p1 0 (σ.2 4 (ix p0))) = 0 then (2, 0, σ) else if (m_in p2 0 960) = 0 then (2, 0, σ) else if (σ.1 9) = 60 then (3, 0, σ) else if ((σ.2 6 (ix p0)) - (p1 * p2)) ≤ ((σ.2 6 (ix p0)) / 100) then (if ((σ.2 6 (ix p0)) - (p1 * p2)) ≤ 0 then (0, (σ.2 6 (ix p0)) - (p1 * p2), (bs (bs (bs (zs σ 9 ((σ.1 9) + 1)) 10 0 ((σ.2 10 0) - ((σ.2 6 (ix p0)) - (p1 * p2)))) 5 (ix p0) p1) 6 (ix p0) (p1 * p2))) else (0, (σ.2 6 (ix p0)) - (p1 * p2), (bs (bs (bs (zs σ 9 ((σ.1 9) + 1)) 10 4 ((σ.2 10 4) + ((σ.2 6 (ix p0)) - (p1 * p2)))) 5 (ix p0) p1) 6 (ix p0) (p1 * p2)))) else (0, (σ.2 6 (ix p0)) - (p1 * p2), (bs (bs (m_misses (zs σ 9 ((σ.1 9) + 1)) ((σ.2 6 (ix p0)) - (p1 * p2))).2 5 (ix p0) p1) 6 (ix p0) (p1 * p2)))
def m_lose (σ : Sg) (p0 : Int32) (p1 : Int32) (p2 : Int32) : Int32 × Int32 × Sg := if ((m_asksPart σ p0 p1).2) = 0 then ((m_asksPart σ p0 p1).1, 0, σ) else if p2 = 0 then ((m_asksPart σ p0 p1).1, (m_misses (bs (m_takes σ p0 p1).2 10 4 ((σ.2 10 4) + 0)) ((m_takes σ p0 p1).1)).1, (m_misses (bs (m_takes σ p0 p1).2 10 4 ((σ.2 10 4) + 0)) ((m_takes σ p0 p1).1)).2) else ((m_asksPart σ p0 p1).1, 0, (bs (m_takes σ p0 p1).2 10 4 ((σ.2 10 4) + ((m_takes σ p0 p1).1))))
def m_release (σ : Sg) (p0 : Int32) (p1 : Int32) : Int32 × Int32 × Sg := if ((m_asksPart σ p0 p1).2) = 0 then ((m_asksPart σ p0 p1).1, 0, σ) else if (σ.1 13) = (-1) then (if (σ.1 18) = 100 then (3, 0, σ) else (0, (m_dutyFor (zs (zs (m_takes σ p0 p1).2 15 ((σ.1 15) - 0)) 16 ((σ.1 16) + (m_least (m_part (σ.2 6 (ix p0)) p1 (σ.2 5 (ix p0))) (1000000 - (σ.1 16))))) (m_least (m_part (σ.2 6 (ix p0)) p1 (σ.2 5 (ix p0))) (1000000 - (σ.1 16))) ((σ.1 11) / 2)) + (m_dutyFor (zs (zs (m_takes σ p0 p1).2 15 ((σ.1 15) - 0)) 16 ((σ.1 16) + (m_least (m_part (σ.2 6 (ix p0)) p1 (σ.2 5 (ix p0))) (1000000 - (σ.1 16))))) ((m_part (σ.2 6 (ix p0)) p1 (σ.2 5 (ix p0))) - (m_least (m_part (σ.2 6 (ix p0)) p1 (σ.2 5 (ix p0))) (1000000 - (σ.1 16)))) (σ.1 11)), (zs (bs (bs (zs (zs (zs (m_takes σ p0 p1).2 15 ((σ.1 15) - 0)) 16 ((σ.1 16) + (m_least (m_part (σ.2 6 (ix p0)) p1 (σ.2 5 (ix p0))) (1000000 - (σ.1 16))))) 12 ((σ.1 12) + ((m_dutyFor (zs (zs (m_takes σ p0 p1).2 15 ((σ.1 15) - 0)) 16 ((σ.1 16) + (m_least (m_part (σ.2 6 (ix p0)) p1 (σ.2 5 (ix p0))) (1000000 - (σ.1 16))))) (m_least (m_part (σ.2 6 (ix p0)) p1 (σ.2 5 (ix p0))) (1000000 - (σ.1 16))) ((σ.1 11) / 2)) + (m_dutyFor (zs (zs (m_takes σ p0 p1).2 15 ((σ.1 15) - 0)) 16 ((σ.1 16) + (m_least (m_part (σ.2 6 (ix p0)) p1 (σ.2 5 (ix p0))) (1000000 - (σ.1 16))))) ((m_part (σ.2 6 (ix p0)) p1 (σ.2 5 (ix p0))) - (m_least (m_part (σ.2 6 (ix p0)) p1 (σ.2 5 (ix p0))) (1000000 - (σ.1 16)))) (σ.1 11))))) 19 (ix (σ.1 18)) (m_part (σ.2 6 (ix p0)) p1 (σ.2 5 (ix p0)))) 20 (ix (σ.1 18)) ((m_dutyFor (zs (zs (m_takes σ p0 p1).2 15 ((σ.1 15) - 0)) 16 ((σ.1 16) + (m_least (m_part (σ.2 6 (ix p0)) p1 (σ.2 5 (ix p0))) (1000000 - (σ.1 16))))) (m_least (m_part (σ.2 6 (ix p0)) p1 (σ.2 5 (ix p0))) (1000000 - (σ.1 16))) ((σ.1 11) / 2)) + (m_dutyFor (zs (zs (m_takes σ p0 p1).2 15 ((σ.1 15) - 0)) 16 ((σ.1 16) + (m_least (m_part (σ.2 6 (ix p0)) p1 (σ.2 5 (ix p0))) (1000000 - (σ.1 16))))) ((m_part (σ.2 6 (ix p0)) p1 (σ.2 5 (ix p0))) - (m_least (m_part (σ.2 6 (ix p0)) p1 (σ.2 5 (ix p0))) (1000000 - (σ.1 16)))) (σ.1 11)))) 18 ((σ.1 18) + 1)))) else if (σ.1 15) < (m_part (σ.2 6 (ix p0)) p1 (σ.2 5 (ix p0))) then (3, 0, σ) else if (σ.1 18) = 100 then (3, 0, σ) else (0, (m_dutyFor (zs (zs (m_takes σ p0 p1).2 15 ((σ.1 15) - (m_part (σ.2 6 (ix p0)) p1 (σ.2 5 (ix p0))))) 16 ((σ.1 16) + (m_least (m_part (σ.2 6 (ix p0)) p1 (σ.2 5 (ix p0))) (1000000 - (σ.1 16))))) (m_least (m_part (σ.2 6 (ix p0)) p1 (σ.2 5 (ix p0))) (1000000 - (σ.1 16))) ((σ.1 11) / 2)) + (m_dutyFor (zs (zs (m_takes σ p0 p1).2 15 ((σ.1 15) - (m_part (σ.2 6 (ix p0)) p1 (σ.2 5 (ix p0))))) 16 ((σ.1 16) + (m_least (m_part (σ.2 6 (ix p0)) p1 (σ.2 5 (ix p0))) (1000000 - (σ.1 16))))) ((m_part (σ.2 6 (ix p0)) p1 (σ.2 5 (ix p0))) - (m_least (m_part (σ.2 6 (ix p0)) p1 (σ.2 5 (ix p0))) (1000000 - (σ.1 16)))) (σ.1 11)), (zs (bs (bs (zs (zs (zs (m_takes σ p0 p1).2 15 ((σ.1 15) - (m_part (σ.2 6 (ix p0)) p1 (σ.2 5 (ix p0))))) 16 ((σ.1 16) + (m_least (m_part (σ.2 6 (ix p0)) p1 (σ.2 5 (ix p0))) (1000000 - (σ.1 16))))) 12 ((σ.1 12) + ((m_dutyFor (zs (zs (m_takes σ p0 p1).2 15 ((σ.1 15) - (m_part (σ.2 6 (ix p0)) p1 (σ.2 5 (ix p0))))) 16 ((σ.1 16) + (m_least (m_part (σ.2 6 (ix p0)) p1 (σ.2 5 (ix p0))) (1000000 - (σ.1 16))))) (m_least (m_part (σ.2 6 (ix p0)) p1 (σ.2 5 (ix p0))) (1000000 - (σ.1 16))) ((σ.1 11) / 2)) + (m_dutyFor (zs (zs (m_takes σ p0 p1).2 15 ((σ.1 15) - (m_part (σ.2 6 (ix p0)) p1 (σ.2 5 (ix p0))))) 16 ((σ.1 16) + (m_least (m_part (σ.2 6 (ix p0)) p1 (σ.2 5 (ix p0))) (1000000 - (σ.1 16))))) ((m_part (σ.2 6 (ix p0)) p1 (σ.2 5 (ix p0))) - (m_least (m_part (σ.2 6 (ix p0)) p1 (σ.2 5 (ix p0))) (1000000 - (σ.1 16)))) (σ.1 11))))) 19 (ix (σ.1 18)) (m_part (σ.2 6 (ix p0)) p1 (σ.2 5 (ix p0)))) 20 (ix (σ.1 18)) ((m_dutyFor (zs (zs (m_takes σ p0 p1).2 15 ((σ.1 15) - (m_part (σ.2 6 (ix p0)) p1 (σ.2 5 (ix p0))))) 16 ((σ.1 16) + (m_least (m_part (σ.2 6 (ix p0)) p1 (σ.2 5 (ix p0))) (1000000 - (σ.1 16))))) (m_least (m_part (σ.2 6 (ix p0)) p1 (σ.2 5 (ix p0))) (1000000 - (σ.1 16))) ((σ.1 11) / 2)) + (m_dutyFor (zs (zs (m_takes σ p0 p1).2 15 ((σ.1 15) - (m_part (σ.2 6 (ix p0)) p1 (σ.2 5 (ix p0))))) 16 ((σ.1 16) + (m_least (m_part (σ.2 6 (ix p0)) p1 (σ.2 5 (ix p0))) (1000000 - (σ.1 16))))) ((m_part (σ.2 6 (ix p0)) p1 (σ.2 5 (ix p0))) - (m_least (m_part (σ.2 6 (ix p0)) p1 (σ.2 5 (ix p0))) (1000000 - (σ.1 16)))) (σ.1 11)))) 18 ((σ.1 18) + 1)))
def m_permit (σ : Sg) (p0 : Int32) : Int32 × Int32 × Sg := if (m_in p0 0 9999999) = 0 then (1, 0, σ) else (0, σ.1 17, (zs σ 17 p0))
def m_denature (σ : Sg) (p0 : Int32) (p1 : Int32) : Int32 × Int32 × Sg := if ((m_asksPart σ p0 p1).2) = 0 then ((m_asksPart σ p0 p1).1, 0, σ) else if (m_part (σ.2 6 (ix p0)) p1 (σ.2 5 (ix p0))) ≤ (σ.1 17) then (0, m_part (σ.2 6 (ix p0)) p1 (σ.2 5 (ix p0)), (bs (zs (m_takes σ p0 p1).2 17 ((σ.1 17) - (m_part (σ.2 6 (ix p0)) p1 (σ.2 5 (ix p0))))) 10 4 ((σ.2 10 4) + (m_part (σ.2 6 (ix p0)) p1 (σ.2 5 (ix p0)))))) else (3, 0, σ)
def m_pay (σ : Sg) (p0 : Int32) : Int32 × Int32 × Sg := if (m_in p0 1 999999) = 0 then (1, 0, σ) else if p0 ≤ (σ.1 12) then (0, (σ.1 12) - p0, (zs σ 12 ((σ.1 12) - p0))) else (2, 0, σ)
def m_budget (σ : Sg) (p0 : Int32) (p1 : Int32) (p2 : Int32) : Int32 × Int32 × Sg := if (m_in p0 ((σ.1 1) + 1) 900) = 0 then (1, 0, σ) else if (m_in p1 0 99) = 0 then (1, 0, σ) else if (m_in p2 0 9999999) = 0 then (1, 0, σ) else if (σ.1 13) = (-1) then (0, 0, (zs (zs (zs σ 13 p0) 14 p1) 15 p2)) else (2, 0, σ)
def m_guarantee (σ : Sg) (p0 : Int32) : Int32 × Int32 × Sg := if (m_in p0 0 9999999) = 0 then (1, 0, σ) else if (m_dutyFor σ (m_moving σ) (σ.1 11)) ≤ p0 then (0, σ.1 21, (zs σ 21 p0)) else (2, 0, σ)
def m_ship (σ : Sg) (p0 : Int32) (p1 : Int32) (p2 : Int32) (p3 : Int32) : Int32 × Int32 × Sg := if (m_isVessel σ p0) = 0 then (1, 0, σ) else if (m_isVessel σ p1) = 0 then (1, 0, σ) else if p2 < 1 then (2, 0, σ) else if (m_in p3 1 60) = 0 then (2, 0, σ) else if (σ.2 3 (ix p0)) = (σ.2 3 (ix p1)) then (3, 0, σ) else if (m_hasPart σ p0 p2) = 0 then (3, 0, σ) else if 30 ≤ (σ.1 22) then (3, 0, σ) else if (σ.1 21) < (m_dutyFor σ ((m_moving σ) + (m_part (σ.2 6 (ix p0)) p2 (σ.2 5 (ix p0)))) (σ.1 11)) then (3, 0, σ) else (0, ((σ.1 22) + 1) - 1, (zs (bs (bs (m_takes (bs (bs σ 24 (ix (σ.1 22)) p1) 25 (ix (σ.1 22)) p2) p0 p2).2 26 (ix (σ.1 22)) ((m_takes (bs (bs σ 24 (ix (σ.1 22)) p1) 25 (ix (σ.1 22)) p2) p0 p2).1)) 27 (ix (σ.1 22)) ((σ.1 1) + p3)) 22 ((σ.1 22) + 1)))
theorem tsw_out {hi : Int} (n : Nat) (x : Int32) (hn : n < 2 ^ 31) (h : ∀ k, k < n → ¬ x = nI k) (hh : hi + 1 = (n : Int) := by decide) : x.toInt < 0 ∨ hi < x.toInt := by
  by_cases c : x < 0
  · left
    have := Int32.lt_iff_toInt_lt.mp c
    exact this
  · obtain ⟨i, hi', rfl⟩ := nI_of c
    right
    rw [nI_toInt hi']
    rcases Nat.lt_or_ge i n with q | q
    · exact absurd rfl (h i q)
    · omega
theorem least_ne {a b : Int32} (h : ¬ a ≤ 0) (c : ¬ m_least a b = 0) : ¬ b = 0 := by
  intro e
  apply c
  rw [m_least, e, if_pos]
  exact Int32.le_of_lt (Int32.not_le.mp h)
def m_arrive (σ : Sg) (p0 : Int32) (p1 : Int32) : Int32 × Int32 × Sg := if (m_in p0 0 ((σ.1 22) - 1)) = 0 then (1, 0, σ) else if (m_in p1 0 (σ.2 25 (ix p0))) = 0 then (2, 0, σ) else if (σ.2 23 (ix p0)) = 0 then (if (m_hasRoom σ (σ.2 24 (ix p0)) p1) = 0 then (3, 0, σ) else if ((σ.2 26 (ix p0)) / 200) < ((σ.2 26 (ix p0)) - (m_part (σ.2 26 (ix p0)) p1 (σ.2 25 (ix p0)))) then (0, (σ.2 26 (ix p0)) - (m_part (σ.2 26 (ix p0)) p1 (σ.2 25 (ix p0))), (m_misses (m_comes (bs σ 23 (ix p0) 1) (σ.2 24 (ix p0)) p1 (m_part (σ.2 26 (ix p0)) p1 (σ.2 25 (ix p0)))) ((σ.2 26 (ix p0)) - (m_part (σ.2 26 (ix p0)) p1 (σ.2 25 (ix p0))))).2) else (0, 0, (bs (m_comes (bs σ 23 (ix p0) 1) (σ.2 24 (ix p0)) p1 (m_part (σ.2 26 (ix p0)) p1 (σ.2 25 (ix p0)))) 10 4 ((σ.2 10 4) + ((σ.2 26 (ix p0)) - (m_part (σ.2 26 (ix p0)) p1 (σ.2 25 (ix p0)))))))) else (3, 0, σ)
def m_day (σ : Sg) : Int32 × Int32 × Sg := (0, σ.1 1, σ)
def m_ofVessel (σ : Sg) (p0 : Int32) (p1 : Int32) : Int32 × Int32 × Sg := if (m_isVessel σ p0) = 0 then (1, 0, σ) else if (m_in p1 0 4) = 0 then (1, 0, σ) else if p1 = 0 then (0, σ.2 5 (ix p0), σ) else if p1 = 1 then (0, σ.2 6 (ix p0), σ) else if p1 = 2 then (0, m_strengthOf (σ.2 6 (ix p0)) (σ.2 5 (ix p0)), σ) else if p1 = 3 then (0, σ.2 3 (ix p0), σ) else (0, (σ.2 4 (ix p0)) - (σ.2 5 (ix p0)), σ)
def m_dropsAnew (σ : Sg) (p0 : Int32) : Int32 × Int32 × Sg := if (m_isVessel σ p0) = 0 then (1, 0, σ) else (0, σ.2 6 (ix p0), σ)
def m_ofMovement (σ : Sg) (p0 : Int32) (p1 : Int32) : Int32 × Int32 × Sg := if (m_in p0 0 ((σ.1 22) - 1)) = 0 then (1, 0, σ) else if (m_in p1 0 3) = 0 then (1, 0, σ) else if p1 = 0 then (0, σ.2 23 (ix p0), σ) else if p1 = 1 then (0, σ.2 25 (ix p0), σ) else if p1 = 2 then (0, σ.2 26 (ix p0), σ) else (0, σ.2 27 (ix p0), σ)
def m_ledger (σ : Sg) (p0 : Int32) : Int32 × Int32 × Sg := if (m_in p0 0 7) = 0 then (1, 0, σ) else if p0 = 1 then (0, m_inVessels σ, σ) else if p0 = 2 then (0, m_moving σ, σ) else if p0 = 3 then (0, m_inLots σ, σ) else (0, σ.2 10 (ix p0), σ)
def m_duty (σ : Sg) (p0 : Int32) : Int32 × Int32 × Sg := if (m_in p0 0 5) = 0 then (1, 0, σ) else if p0 = 0 then (0, σ.1 12, σ) else if p0 = 1 then (0, σ.1 11, σ) else if p0 = 2 then (if (σ.1 13) = (-1) then (0, (-1), σ) else (0, σ.1 15, σ)) else if p0 = 3 then (0, 1000000 - (σ.1 16), σ) else if p0 = 4 then (0, σ.1 17, σ) else (0, (σ.1 21) - (m_dutyFor σ (m_moving σ) (σ.1 11)), σ)
def ex_some (left : Int32) (σ : Sg) (k : Nat) : Int32 := m_least left (σ.2 19 k)
def ex_its (left : Int32) (σ : Sg) (k : Nat) : Int32 := if m_least left (σ.2 19 k) = 0 then 0 else m_part (σ.2 20 k) (m_least left (σ.2 19 k)) (σ.2 19 k)
def ex_s (left : Int32) (σ : Sg) (k : Nat) : Sg := bs (bs σ 19 k (σ.2 19 k - ex_some left σ k)) 20 k (σ.2 20 k - ex_its left σ k)
def exl : Nat → Nat → Int32 → Int32 → Sg → Int32 × Sg
  | 0, _, _, back, σ => (back, σ)
  | n + 1, k, left, back, σ => if left ≤ 0 then (back, σ) else exl n (k + 1) (left - ex_some left σ k) (back + ex_its left σ k) (ex_s left σ k)
theorem exl_s (n k : Nat) (left back : Int32) (σ : Sg) : exl (n + 1) k left back σ = if left ≤ 0 then (back, σ) else exl n (k + 1) (left - ex_some left σ k) (back + ex_its left σ k) (ex_s left σ k) := rfl
def m_export (σ : Sg) (p0 : Int32) : Int32 × Int32 × Sg := if 1 ≤ p0 then (if p0 ≤ m_inLots σ then (0, (exl (ix (σ.1 18)) 0 p0 0 σ).1, zs (bs (exl (ix (σ.1 18)) 0 p0 0 σ).2 10 6 ((exl (ix (σ.1 18)) 0 p0 0 σ).2.2 10 6 + p0)) 12 ((exl (ix (σ.1 18)) 0 p0 0 σ).2.1 12 - (exl (ix (σ.1 18)) 0 p0 0 σ).1)) else (2, 0, σ)) else (1, 0, σ)
def latS (k : Nat) (S : Sg) : Sg := if S.2 23 k = 0 then (if S.1 1 ≤ S.2 27 k then S else (m_misses (bs S 23 k 2) (S.2 26 k)).2) else S
def lat : Nat → Sg → Sg
  | 0, S => S
  | n + 1, S => latS n (lat n S)
theorem lat_s (n : Nat) (S : Sg) : lat (n + 1) S = latS n (lat n S) := rfl
def shrI (k : Nat) (S : Sg) : Int32 := m_part (S.2 6 k) (S.2 7 (ix (S.2 3 k))) 100000
def shrS (k : Nat) (S : Sg) : Sg := bs (bs (bs S 10 4 (S.2 10 4 + shrI k S)) 6 k (S.2 6 k - shrI k S)) 5 k (S.2 5 k - m_part (S.2 5 k) (S.2 7 (ix (S.2 3 k))) 100000)
def shr : Nat → Sg → Sg
  | 0, S => S
  | n + 1, S => shrS n (shr n S)
theorem shr_s (n : Nat) (S : Sg) : shr (n + 1) S = shrS n (shr n S) := rfl
theorem latS_z {j : Nat} (hj : j ≠ 12) (k : Nat) (S : Sg) : (latS k S).1 j = S.1 j := by
  rw [latS]
  split
  · split
    · rfl
    · rw [m_misses]
      show (upd S.1 12 _) j = S.1 j
      exact pk_un hj
  · rfl
theorem latS_b {j : Nat} (hj : j ≠ 23) (hj2 : j ≠ 10) (k : Nat) (S : Sg) : (latS k S).2 j = S.2 j := by
  rw [latS]
  split
  · split
    · rfl
    · rw [m_misses]
      show (if j = 10 then _ else (if j = 23 then _ else S.2 j)) = S.2 j
      rw [if_neg hj2, if_neg hj]
  · rfl
theorem lat_z {j : Nat} (hj : j ≠ 12) (k : Nat) (S : Sg) : (lat k S).1 j = S.1 j := by
  induction k with
  | zero => rfl
  | succ k ih => rw [lat_s, latS_z hj, ih]
theorem lat_b {j : Nat} (hj : j ≠ 23) (hj2 : j ≠ 10) (k : Nat) (S : Sg) : (lat k S).2 j = S.2 j := by
  induction k with
  | zero => rfl
  | succ k ih => rw [lat_s, latS_b hj hj2, ih]
theorem shr_z (k : Nat) (S : Sg) : (shr k S).1 = S.1 := by
  induction k with
  | zero => rfl
  | succ k ih => rw [shr_s]; exact ih
theorem shr_b {j : Nat} (h1 : j ≠ 5) (h2 : j ≠ 6) (h3 : j ≠ 10) (k : Nat) (S : Sg) : (shr k S).2 j = S.2 j := by
  induction k with
  | zero => rfl
  | succ k ih =>
    rw [shr_s, shrS]
    show (if j = 5 then _ else (if j = 6 then _ else (if j = 10 then _ else (shr k S).2 j))) = S.2 j
    rw [if_neg h1, if_neg h2, if_neg h3, ih]
theorem cnt_of {σ τ : Sg} {j n : Nat} (h : Cnt σ j n) (e : τ.1 j = σ.1 j) : Cnt τ j n := by unfold Cnt at h ⊢; rw [e]; exact h
def m_pre (σ : Sg) : Sg := if ((σ.1 1) + 1) = (σ.1 13) then (if (((σ.1 1) + 1) - ((σ.1 1) + 1) / 100 * 100) = 0 then (zs (zs (zs (zs σ 1 ((σ.1 1) + 1)) 11 (σ.1 14)) 13 (-1)) 16 0) else (zs (zs (zs (zs σ 1 ((σ.1 1) + 1)) 11 (σ.1 14)) 13 (-1)) 16 (σ.1 16))) else if (((σ.1 1) + 1) - ((σ.1 1) + 1) / 100 * 100) = 0 then (zs (zs σ 1 ((σ.1 1) + 1)) 16 0) else (zs (zs σ 1 ((σ.1 1) + 1)) 16 (σ.1 16))
def m_tail (S2 : Sg) : Sg := if ((S2.1 1) - (S2.1 1) / 30 * 30) = 0 then (if (S2.1 12) ≤ 0 then (zs S2 12 ((S2.1 12) + 0)) else (zs S2 12 ((S2.1 12) + ((S2.1 12) / 100)))) else (zs S2 12 ((S2.1 12) + 0))
def m_passesOne (σ : Sg) : Sg := m_tail (shr (ix (σ.1 2)) (lat (ix (σ.1 22)) (m_pre σ)))
def pas : Nat → Sg → Sg
  | 0, S => S
  | n + 1, S => m_passesOne (pas n S)
theorem pas_s (n : Nat) (S : Sg) : pas (n + 1) S = m_passesOne (pas n S) := rfl
theorem pre_z {j : Nat} (h1 : j ≠ 1) (h2 : j ≠ 11) (h3 : j ≠ 13) (h4 : j ≠ 16) (S : Sg) : (m_pre S).1 j = S.1 j := by
  rw [m_pre]
  split <;> split <;> simp only [zs, pk_un h1, pk_un h2, pk_un h3, pk_un h4]
theorem pre_b (S : Sg) : (m_pre S).2 = S.2 := by
  rw [m_pre]
  split <;> split <;> rfl
theorem tail_z {j : Nat} (h1 : j ≠ 12) (S : Sg) : (m_tail S).1 j = S.1 j := by
  rw [m_tail]
  repeat' split
  all_goals simp only [zs, pk_un h1]
theorem tail_b (S : Sg) : (m_tail S).2 = S.2 := by
  rw [m_tail]
  repeat' split
  all_goals rfl
theorem one_z {j : Nat} (h1 : j ≠ 1) (h2 : j ≠ 11) (h3 : j ≠ 13) (h4 : j ≠ 16) (h5 : j ≠ 12) (S : Sg) : (m_passesOne S).1 j = S.1 j := by
  rw [m_passesOne, tail_z h5, shr_z, lat_z h5, pre_z h1 h2 h3 h4]
theorem one_b {j : Nat} (h1 : j ≠ 5) (h2 : j ≠ 6) (h3 : j ≠ 10) (h4 : j ≠ 23) (S : Sg) : (m_passesOne S).2 j = S.2 j := by
  rw [m_passesOne, tail_b, shr_b h1 h2 h3, lat_b h4 h3, pre_b]
theorem in_nat {x : Int32} (c : ¬ m_in x 1 60 = 0) : ∃ d : Nat, d ≤ 60 ∧ x = nI d := by
  rw [m_in] at c
  by_cases c1 : x < 1
  · rw [if_pos c1] at c; exact absurd rfl c
  · rw [if_neg c1] at c
    by_cases c2 : 60 < x
    · rw [if_pos c2] at c; exact absurd rfl c
    · refine nI_of2 (M := 60) (by decide) ?_ (Int32.not_lt.mp c2)
      intro h
      exact c1 (Int32.lt_trans h (by decide))
def m_pass (σ : Sg) (p0 : Int32) : Int32 × Int32 × Sg := if (m_in p0 1 60) = 0 then (1, 0, σ) else if ((σ.1 1) + p0) ≤ 900 then (0, (pas (ix p0) σ).1 12, pas (ix p0) σ) else (2, 0, σ)
section XN
variable {p : Program} {l : Launch} {e : Env} {R : Room} {s : State} {m : MethodId} {args : Array Value} {below : List Frame} {meth : Method} {c : Code} {H : Heap} {locs : List Loc} {cells slots : Nat} {Q : State → Prop} {cc : ByteArray} {pc : Nat} {ls : Array Slot} {rest st0 : List Value} {Ts : List Cond} {nL : Nat} {D : va_G} {A : Nat → Prop} {ret : Option FieldType} {own : String} {tys : List (ClassId × FieldType)} {cI : ClassId}
theorem x_putF (C : Cx own p s m args meth c cc nL Ts ret) (K : va_K D vwCl tys s) {ws : va_W} (P : Hp D A s ws H locs) {a ci : Nat} {fs : List Value} (q0 : Nat) (he : ws[q0]? = some (a, .inr (ci, fs))) {Cn : String} {T : u_T} {N : Nat} (hc : vwCl[ci]? = some (Cn, T, N)) (hin : ∀ w ∈ u_ws Cn T N, w ∈ Ts)
    {ty0 : Nat → FieldType} (hty : ∀ k, k < N → parseFieldDescriptor (T k).2.2.1 = some (ty0 k)) (hnm : ∀ a, a < N → ∀ b, b < N → a ≠ b → (T a).2.1 ≠ (T b).2.1) (k : Nat) (hk : k < N) {index : Nat}
    (hlink : Cond.fieldLink own index (T k).1 (T k).2.1 (T k).2.2.1 ∈ Ts) (hfin : (T k).2.2.2 = true) (hin2 : meth.name = "<init>") (hdecl : (T k).1 = own) {v : Value} (hn : narrow (ty0 k) v = v) (hfit : fits (ty0 k) v = true) (hlen : k < fs.length) (d : decode cc pc = .ok (.putfield index, 3))
    (kk : ∀ (H : Heap) (locs : List Loc), Hp D A s (ws.set q0 (a, .inr (ci, fs.set k v))) H locs → W p l e R s m args below meth c H locs cells slots Q (F0 m (pc + 3) ls rest)) : W p l e R s m args below meth c H locs cells slots Q (F0 m pc ls (v :: .ref a :: rest)) :=
  va_putF C.1 C.2.1 C.2.2.2.2.1 hin ty0 hty hnm C.2.2.2.1 K P.1 P.2.1 P.2.2.1 q0 he hc k hk (C.2.2.2.2.1 _ hlink) (fun _ h => h) hfin hin2 hdecl (hty k hk) hn hfit hlen d (fun H1 locs1 h1 h2 h3 => kk H1 locs1 ⟨h1, h2, h3, P.2.2.2⟩)
theorem x_newI (C : Cx own p s m args meth c cc nL Ts ret) (K : va_K D vwCl tys s) (t0 : Nat) (ht : tys[t0]? = some (cI, .int)) {ws : va_W} (P : Hp D A s ws H locs) (harr : Cond.arrayClass .int ∈ Ts) {n : Int32} (N' : Nat) (hn : ¬ n < 0) (hN : n.toNatClampNeg = N') (hby : N' * 4 ≤ 536870912) (hc : cells + 1 ≤ R.cells) (hs : slots + N' ≤ R.slots) (d : decode cc pc = .ok (.newarray .int, 2))
    (kk : ∀ (q : Nat) (H : Heap), Hp D A s (ws ++ [(q, .inl (cI, N', .inl (fun _ => 0)))]) H locs → W p l e R s m args below meth c H locs (cells + 1) (slots + N') Q (F0 m (pc + 2) ls (.ref q :: rest))) : W p l e R s m args below meth c H locs cells slots Q (F0 m pc ls (.int n :: rest)) := by
  refine va_newa (ty := .int) (a0 := (N', .inl (fun _ => 0))) C.1 C.2.1 (atype := .int) (C.2.2.2.2.1 _ harr) rfl K P.1 P.2.1 P.2.2.1 P.2.2.2 (fun _ => rfl) hn hN hby hc hs d (fun q cA H1 hK1 h1 h2 h3 => ?_)
  have e1 : s.vm.findClass ("[" ++ FieldType.int.toString) = some cA := (hK1.2 tys.length (cA, .int) (by simp)).2
  have e2 : s.vm.findClass ("[" ++ FieldType.int.toString) = some cI := (K.2 t0 (cI, .int) ht).2
  have e3 : cA = cI := Option.some.inj (e1.symm.trans e2)
  rw [e3] at h1 h2
  exact kk q H1 ⟨h1, h2, h3, P.2.2.2⟩
end XN
def M_s0 : Sg := (fun k => if k = 11 then 10 else if k = 13 then (-1) else 0, fun _ _ => 0)
