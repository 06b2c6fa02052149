theorem run_st (Z : Sg) (i : Nat) (a b W X : Int32) : bs (bs (bs (bs Z 5 i W) 6 i X) 10 0 a) 10 7 b = bs (bs (bs (bs Z 10 7 b) 10 0 a) 5 i W) 6 i X := by
  rw [bs_comm (bs Z 10 7 b) 0 i a W (by decide), bs_comm _ 0 i a X (by decide), bs_comm Z 7 i b W (by decide), bs_comm _ 7 i b X (by decide), bs_commi _ 10 (a := 7) (b := 0) b a (by decide)]
theorem r_run {σ : Sg} (hI : Inv σ) (p0 p1 p2 p3 p4 : Int32) : R3 kc123 (g_run σ p0 p1 p2 p3 p4) (m_run σ p0 p1 p2 p3 p4) := by
  rw [g_run, m_run, within_in, within_in, within_in, within_in]
  rcases V1 hI p0 with ⟨a, b, i0, v0⟩ | ⟨a, b⟩
  · rw [a, if_pos rfl]
    simp only [b, if_neg one_ne0]
    rcases in_01 p1 1 9999 with ⟨c, -⟩ | ⟨c, l1, u1⟩
    · rw [c, if_pos rfl, if_pos rfl]; exact .l rfl rfl rfl hI
    rw [c, if_neg one_ne0, if_neg one_ne0]
    rcases in_01 p2 1 300 with ⟨c, -⟩ | ⟨c, l2, u2⟩
    · rw [c, if_pos rfl, if_pos rfl]; exact .l rfl rfl rfl hI
    rw [c, if_neg one_ne0, if_neg one_ne0]
    rcases in_01 p3 1 9999 with ⟨c, -⟩ | ⟨c, l3, u3⟩
    · rw [c, if_pos rfl, if_pos rfl]; exact .l rfl rfl rfl hI
    rw [c, if_neg one_ne0, if_neg one_ne0]
    rcases in_01 p4 1 960 with ⟨c, -⟩ | ⟨c, l4, u4⟩
    · rw [c, if_pos rfl, if_pos rfl]; exact .l rfl rfl rfl hI
    rw [c, if_neg one_ne0, if_neg one_ne0]
    rw [ti1] at l1 l2 l3 l4
    rw [show (9999 : Int32).toInt = 9999 by decide] at u1 u3
    rw [show (300 : Int32).toInt = 300 by decide] at u2
    rw [show (960 : Int32).toInt = 960 by decide] at u4
    by_cases h1 : p1 * p2 < p3 * p4
    · rw [if_pos h1, if_pos h1]; exact .l rfl rfl rfl hI
    rw [if_neg h1, if_neg h1]
    have r1 : (σ.1 8 < 60) ↔ ¬ (60 ≤ σ.1 8) := by
      rw [lt_i, le_i]
      omega
    rcases room_eq hI i0 (p := p3) (by omega) u3 with ⟨c1, d1⟩ | ⟨c1, d1, h4⟩
    · rw [c1, d1, if_pos rfl, if_pos rfl]
      split <;> exact .l rfl rfl rfl hI
    rw [c1, d1, if_neg one_ne0, if_neg one_ne0]
    by_cases h2 : 60 ≤ σ.1 8
    · rw [if_pos h2, if_neg (fun h => r1.mp h h2)]; exact .l rfl rfl rfl hI
    rw [if_neg h2, if_pos (r1.mpr h2)]
    -- numbers
    have n0 : 0 ≤ p1.toInt * p2.toInt := Int.mul_nonneg (by omega) (by omega)
    have n1 : p1.toInt * p2.toInt ≤ 9999 * 300 := Int.mul_le_mul u1 u2 (by omega) (by omega)
    have n2 : 0 ≤ p3.toInt * p4.toInt := Int.mul_nonneg (by omega) (by omega)
    have n3 : p3.toInt * p4.toInt ≤ p3.toInt * 960 := Int.mul_le_mul_of_nonneg_left u4 (by omega)
    have ea : (p1 * p2).toInt = p1.toInt * p2.toInt := i_mul (by omega) (by omega)
    have eb : (p3 * p4).toInt = p3.toInt * p4.toInt := i_mul (by omega) (by omega)
    have e9 : (9 : Int32).toInt = 9 := by decide
    have e10 : (10 : Int32).toInt = 10 := by decide
    have ec : (9 * p1).toInt = 9 * p1.toInt := by rw [i_mul (by rw [e9]; omega) (by rw [e9]; omega), e9]
    have e99 : 9 * p1.toInt * p2.toInt = 9 * (p1.toInt * p2.toInt) := Int.mul_assoc _ _ _
    have ed : (9 * p1 * p2).toInt = 9 * (p1.toInt * p2.toInt) := by rw [i_mul (by rw [ec]; omega) (by rw [ec]; omega), ec]; exact e99
    have hL : g_part (p1 * p2) 9 10 = 9 * p1 * p2 / 10 := by
      rw [g_part_1 (by decide)]
      refine i_eq ?_
      rw [i_part (by rw [ea]; exact n0) (by decide) (by decide) (by rw [ea, e9, e10]; omega), i_div (by rw [ed]; omega) (by decide), ed, ea, e9, e10]
      omega
    rw [hL]
    have fin : ∀ G : Int32, R3 kc123 (0, G, zs (bs (bs (bs (bs (zs σ 8 (σ.1 8 + 1)) 5 (ix p0) (ve_comeIn_2 (σ.2 3 (ix p0)) (σ.2 4 (ix p0)) (σ.2 5 (ix p0)) (σ.2 6 (ix p0)) p3 (p3 * p4))) 6 (ix p0) (σ.2 6 (ix p0) + p3 * p4)) 10 0 (σ.2 10 0 + p3 * p4)) 10 7 (upd (σ.2 10) 0 (σ.2 10 0 + p3 * p4) 7 + G)) 12 (σ.1 12 + ex_dutyFor (σ.1 11) (σ.1 12) (1000000 - σ.1 16) G))
        (0, G, m_comes (bs (zs (bs (zs σ 8 (σ.1 8 + 1)) 10 7 (σ.2 10 7 + G)) 12 (σ.1 12 + m_dutyFor (bs (zs σ 8 (σ.1 8 + 1)) 10 7 (σ.2 10 7 + G)) G (σ.1 11))) 10 0 (upd (σ.2 10) 7 (σ.2 10 7 + G) 0 + p3 * p4)) p0 p3 (p3 * p4)) := by
      intro G
      have hU : Inv (bs (zs (bs (zs σ 8 (σ.1 8 + 1)) 10 7 (σ.2 10 7 + G)) 12 (σ.1 12 + m_dutyFor (bs (zs σ 8 (σ.1 8 + 1)) 10 7 (σ.2 10 7 + G)) G (σ.1 11))) 10 0 (upd (σ.2 10) 7 (σ.2 10 7 + G) 0 + p3 * p4)) := hI
      obtain ⟨k1, k2⟩ := come_ok hU (x := p0) (p := p3) (q := p3 * p4) (σ.2 3 (ix p0)) (σ.2 4 (ix p0)) i0 (by omega) h4 (by omega) (by omega)
      have k1 : ve_comeIn_2 (σ.2 3 (ix p0)) (σ.2 4 (ix p0)) (σ.2 5 (ix p0)) (σ.2 6 (ix p0)) p3 (p3 * p4) = m_with σ p0 p3 (p3 * p4) := k1
      refine .l rfl rfl ?_ k2
      rw [k1, duty_m (bs (zs σ 8 (σ.1 8 + 1)) 10 7 (σ.2 10 7 + G)), pk_un (by decide), run_st]
      show _ = bs (bs _ 5 (ix p0) (m_with σ p0 p3 (p3 * p4))) 6 (ix p0) _
      rw [pk_un (by decide)]
      rfl
    by_cases g0 : 0 ≤ ((9 * p1) * p2 / 10 - p3 * p4)
    · rw [if_pos g0]
      by_cases g1 : 0 < ((9 * p1) * p2 / 10 - p3 * p4)
      · rw [if_pos g1]; exact fin _
      · rw [if_neg g1]
        have gz : ((9 * p1) * p2 / 10 - p3 * p4) = 0 := i_eq (by rw [lt_i] at g1; rw [le_i] at g0; omega)
        rw [gz]; exact fin 0
    · rw [if_neg g0, if_neg (fun g1 => g0 (by rw [le_i]; rw [lt_i] at g1; omega))]
      exact fin 0
  · rw [a, if_neg one_ne0]
    simp only [b, if_true]
    repeat' split
    all_goals exact .l rfl rfl rfl hI
theorem Inv_23 {σ : Sg} (hI : Inv σ) {i : Nat} (hi : i < ix (σ.1 22)) (v : Int32) : Inv (bs σ 23 i v) := by
  obtain ⟨a1, a2, a3, a4, a5, a6⟩ := hI
  refine ⟨a1, a2, a3, a4, fun k hk => ?_, a6⟩
  have hk : ix (σ.1 22) ≤ k := hk
  show upd (σ.2 23) i v k = 0
  rw [pk_un (by omega)]
  exact a5 k hk
theorem Inv_b10 {X : Sg} {i : Nat} {v : Int32} (h : Inv X) : Inv (bs X 10 i v) := h
theorem Inv_miss {X : Sg} {p : Int32} (h : Inv X) : Inv (m_misses X p).2 := h
theorem r_arrive {σ : Sg} (hI : Inv σ) (p0 p1 : Int32) : R3 kc123 (g_arrive σ p0 p1) (m_arrive σ p0 p1) := by
  rw [g_arrive, m_arrive, within_in]
  rcases M1 hI p0 with ⟨a, b, i0, w1, w2, w3, w4, w5, w6⟩ | ⟨a, b⟩
  · rw [a, b, if_pos rfl, if_neg one_ne0]
    rcases in_01 p1 0 (σ.2 25 (ix p0)) with ⟨c, -⟩ | ⟨c, l1, u1⟩
    · rw [c, if_pos rfl, if_pos rfl]; exact .l rfl rfl rfl hI
    rw [c, if_neg one_ne0, if_neg one_ne0]
    rw [ti0] at l1
    by_cases h1 : σ.2 23 (ix p0) = 0
    · rw [if_pos h1, if_pos h1]
      rcases room_eq hI w6 (p := p1) l1 (by omega) with ⟨c1, d1⟩ | ⟨c1, d1, h4⟩
      · rw [c1, d1, if_pos rfl, if_pos rfl]; exact .l rfl rfl rfl hI
      rw [c1, d1, if_neg one_ne0, if_neg one_ne0, g_part_1 w1]
      obtain ⟨t1, t2, t3, t4⟩ := take_b (V := (σ.2 25 (ix p0)).toInt) (D := (σ.2 26 (ix p0)).toInt) (p := p1.toInt) (by omega) w3 w4 l1 u1
      have e := i_part (x := σ.2 26 (ix p0)) (y := p1) (w := σ.2 25 (ix p0)) w3 l1 (by omega) (by omega)
      have hU : Inv (bs σ 23 (ix p0) 1) := Inv_23 hI i0 1
      obtain ⟨k1, k2⟩ := come_ok hU (x := (σ.2 24 (ix p0))) (p := p1) (q := (m_part (σ.2 26 (ix p0)) p1 (σ.2 25 (ix p0)))) (σ.2 3 (ix (σ.2 24 (ix p0)))) (σ.2 4 (ix (σ.2 24 (ix p0)))) w6 l1 h4 (by omega) (by omega)
      have k1 : ve_comeIn_2 (σ.2 3 (ix (σ.2 24 (ix p0)))) (σ.2 4 (ix (σ.2 24 (ix p0)))) (σ.2 5 (ix (σ.2 24 (ix p0)))) (σ.2 6 (ix (σ.2 24 (ix p0)))) p1 (m_part (σ.2 26 (ix p0)) p1 (σ.2 25 (ix p0))) = m_with (bs σ 23 (ix p0) 1) (σ.2 24 (ix p0)) p1 (m_part (σ.2 26 (ix p0)) p1 (σ.2 25 (ix p0))) := k1
      rw [k1]
      have hst : bs (bs (bs σ 23 (ix p0) 1) 5 (ix (σ.2 24 (ix p0))) (m_with (bs σ 23 (ix p0) 1) (σ.2 24 (ix p0)) p1 (m_part (σ.2 26 (ix p0)) p1 (σ.2 25 (ix p0))))) 6 (ix (σ.2 24 (ix p0))) (σ.2 6 (ix (σ.2 24 (ix p0))) + (m_part (σ.2 26 (ix p0)) p1 (σ.2 25 (ix p0)))) = m_comes (bs σ 23 (ix p0) 1) (σ.2 24 (ix p0)) p1 (m_part (σ.2 26 (ix p0)) p1 (σ.2 25 (ix p0))) := rfl
      rw [hst, miss_eq]
      by_cases g1 : (σ.2 26 (ix p0) - (m_part (σ.2 26 (ix p0)) p1 (σ.2 25 (ix p0)))) ≤ σ.2 26 (ix p0) / 200
      · rw [if_pos g1, if_neg (fun h => by rw [lt_i] at h; rw [le_i] at g1; omega)]
        exact .l rfl rfl rfl (Inv_b10 k2)
      · rw [if_neg g1, if_pos (by rw [lt_i]; rw [le_i] at g1; omega)]
        exact .l rfl rfl rfl (Inv_miss k2)
    · rw [if_neg h1, if_neg h1]; exact .l rfl rfl rfl hI
  · rw [a, b, if_neg one_ne0, if_pos rfl]; exact .l rfl rfl rfl hI
theorem Inv_m {σ : Sg} (hI : Inv σ) (hn : ix (σ.1 22) < 30) {w v q d : Int32} (h1 : 1 ≤ v.toInt) (h2 : v.toInt ≤ 9999) (h3 : 0 ≤ q.toInt) (h4 : q.toInt ≤ 960 * v.toInt) (h5 : 0 ≤ w.toInt) (h6 : ix w < ix (σ.1 2)) : Inv (zs (bs (bs (bs (bs σ 24 (ix (σ.1 22)) w) 25 (ix (σ.1 22)) v) 26 (ix (σ.1 22)) q) 27 (ix (σ.1 22)) d) 22 (σ.1 22 + 1)) := by
  obtain ⟨⟨a1, c2, c3⟩, a2, a3, a4, a5, a6⟩ := hI
  have e1 : σ.1 22 + 1 = nI (ix (σ.1 22) + 1) := cnt_s c2.1
  have e2 : ix (σ.1 22 + 1) = ix (σ.1 22) + 1 := by rw [e1]; exact nI_clamp (by omega)
  refine ⟨⟨a1, ⟨?_, ?_⟩, c3⟩, a2, a3, fun k hk => ?_, fun k hk => ?_, a6⟩
  · show σ.1 22 + 1 = nI (ix (σ.1 22 + 1))
    rw [e2]; exact e1
  · show ix (σ.1 22 + 1) ≤ 30
    omega
  · have hk : k < ix (σ.1 22 + 1) := hk
    show 1 ≤ (upd (σ.2 25) (ix (σ.1 22)) v k).toInt ∧ (upd (σ.2 25) (ix (σ.1 22)) v k).toInt ≤ 9999 ∧ 0 ≤ (upd (σ.2 26) (ix (σ.1 22)) q k).toInt ∧ (upd (σ.2 26) (ix (σ.1 22)) q k).toInt ≤ 960 * (upd (σ.2 25) (ix (σ.1 22)) v k).toInt ∧ 0 ≤ (upd (σ.2 24) (ix (σ.1 22)) w k).toInt ∧ ix (upd (σ.2 24) (ix (σ.1 22)) w k) < ix (σ.1 2)
    by_cases e : k = ix (σ.1 22)
    · subst e
      rw [pk_us, pk_us, pk_us]
      exact ⟨h1, h2, h3, h4, h5, h6⟩
    · rw [pk_un e, pk_un e, pk_un e]
      exact a4 k (by omega)
  · have hk : ix (σ.1 22 + 1) ≤ k := hk
    exact a5 k (by omega)
theorem r_ship {σ : Sg} (hI : Inv σ) (p0 p1 p2 p3 : Int32) : R3 kc123 (g_ship σ p0 p1 p2 p3) (m_ship σ p0 p1 p2 p3) := by
  rw [g_ship, m_ship, within_in]
  rcases V1 hI p0 with ⟨a, b, i0, v0⟩ | ⟨a, b⟩
  · rw [a, b, if_pos rfl, if_neg one_ne0]
    rcases V1 hI p1 with ⟨a1, b1, i1, v1⟩ | ⟨a1, b1⟩
    · rw [a1, b1, if_pos rfl, if_neg one_ne0]
      by_cases h1 : p2 < 1
      · rw [if_pos h1, if_pos h1]; exact .l rfl rfl rfl hI
      rw [if_neg h1, if_neg h1]
      rcases in_01 p3 1 60 with ⟨c, -⟩ | ⟨c, l3, u3⟩
      · rw [c, if_pos rfl, if_pos rfl]; exact .l rfl rfl rfl hI
      rw [c, if_neg one_ne0, if_neg one_ne0]
      by_cases h2 : σ.2 3 (ix p0) = σ.2 3 (ix p1)
      · rw [if_pos h2, if_pos h2]; exact .l rfl rfl rfl hI
      rw [if_neg h2, if_neg h2]
      rcases has_eq σ p0 p2 with ⟨c, d⟩ | ⟨c, d, h3⟩
      · rw [c, d, if_pos rfl, if_pos rfl]; exact .l rfl rfl rfl hI
      rw [c, d, if_neg one_ne0, if_neg one_ne0]
      have hp : 1 ≤ p2.toInt := by rw [lt_i, ti1] at h1; omega
      have r1 : (σ.1 22 < 30) ↔ ¬ (30 ≤ σ.1 22) := by rw [lt_i, le_i]; omega
      by_cases h4 : 30 ≤ σ.1 22
      · rw [if_pos h4, if_neg (fun h => r1.mp h h4)]; exact .l rfl rfl rfl hI
      have hn : ix (σ.1 22) < 30 := cnt_ltk (σ := σ) (j := 22) 30 hI.1.2.1 (r1.mpr h4) (by decide) (by decide)
      rw [if_neg h4, if_pos (r1.mpr h4)]
      obtain ⟨t1, t2, t3, t4, t5⟩ := take_ok hI i0 hp h3
      have hE : ve_dropsOf (σ.2 3 (ix p0)) (σ.2 4 (ix p0)) (σ.2 5 (ix p0)) (σ.2 6 (ix p0)) p2 = (m_part (σ.2 6 (ix p0)) p2 (σ.2 5 (ix p0))) := t1
      have hE2 : ve_takeOut (σ.2 3 (ix p0)) (σ.2 4 (ix p0)) (σ.2 5 (ix p0)) (σ.2 6 (ix p0)) p2 = (m_part (σ.2 6 (ix p0)) p2 (σ.2 5 (ix p0))) := t1
      rw [hE, hE2, duty_m σ]
      show R3 kc123 (if m_dutyFor σ (m_moving σ + (m_part (σ.2 6 (ix p0)) p2 (σ.2 5 (ix p0)))) (σ.1 11) ≤ σ.1 21 then _ else _) _
      have r2 : (m_dutyFor σ (m_moving σ + (m_part (σ.2 6 (ix p0)) p2 (σ.2 5 (ix p0)))) (σ.1 11) ≤ σ.1 21) ↔ ¬ (σ.1 21 < m_dutyFor σ (m_moving σ + (m_part (σ.2 6 (ix p0)) p2 (σ.2 5 (ix p0)))) (σ.1 11)) := by rw [lt_i, le_i]; omega
      by_cases h5 : σ.1 21 < m_dutyFor σ (m_moving σ + (m_part (σ.2 6 (ix p0)) p2 (σ.2 5 (ix p0)))) (σ.1 11)
      · rw [if_pos h5, if_neg (fun h => r2.mp h h5)]; exact .l rfl rfl rfl hI
      rw [if_neg h5, if_pos (r2.mpr h5)]
      obtain ⟨x1, x2, x3, x4, x5, -, -⟩ := v0
      have hw : 0 ≤ p1.toInt := by
        rcases in_eq hI.1.1 p1 with ⟨z, y⟩ | ⟨-, -, y⟩ | ⟨-, -, -, y, -⟩
        · exact absurd b1 (by unfold m_isVessel; rw [y]; decide)
        · exact absurd b1 (by unfold m_isVessel; rw [y]; decide)
        · exact y
      have hIm := Inv_m (σ := (bs (bs σ 5 (ix p0) (σ.2 5 (ix p0) - p2)) 6 (ix p0) (σ.2 6 (ix p0) - (m_part (σ.2 6 (ix p0)) p2 (σ.2 5 (ix p0)))))) t3 hn (w := p1) (v := p2) (q := (m_part (σ.2 6 (ix p0)) p2 (σ.2 5 (ix p0)))) (d := σ.1 1 + p3) hp (by omega) t4 t5 hw i1
      have s23 : bs (bs (bs (bs (bs (bs (bs σ 5 (ix p0) (σ.2 5 (ix p0) - p2)) 6 (ix p0) (σ.2 6 (ix p0) - (m_part (σ.2 6 (ix p0)) p2 (σ.2 5 (ix p0))))) 24 (ix (σ.1 22)) p1) 25 (ix (σ.1 22)) p2) 26 (ix (σ.1 22)) (m_part (σ.2 6 (ix p0)) p2 (σ.2 5 (ix p0)))) 27 (ix (σ.1 22)) (σ.1 1 + p3)) 23 (ix (σ.1 22)) 0 = bs (bs (bs (bs (bs (bs σ 5 (ix p0) (σ.2 5 (ix p0) - p2)) 6 (ix p0) (σ.2 6 (ix p0) - (m_part (σ.2 6 (ix p0)) p2 (σ.2 5 (ix p0))))) 24 (ix (σ.1 22)) p1) 25 (ix (σ.1 22)) p2) 26 (ix (σ.1 22)) (m_part (σ.2 6 (ix p0)) p2 (σ.2 5 (ix p0)))) 27 (ix (σ.1 22)) (σ.1 1 + p3) := bs_id (hI.2.2.2.2.1 (ix (σ.1 22)) (Nat.le_refl _))
      have hg : S_add1 (bs (bs σ 5 (ix p0) (σ.2 5 (ix p0) - p2)) 6 (ix p0) (σ.2 6 (ix p0) - (m_part (σ.2 6 (ix p0)) p2 (σ.2 5 (ix p0))))) p1 p2 (m_part (σ.2 6 (ix p0)) p2 (σ.2 5 (ix p0))) (σ.1 1 + p3) = zs (bs (bs (bs (bs (bs (bs σ 5 (ix p0) (σ.2 5 (ix p0) - p2)) 6 (ix p0) (σ.2 6 (ix p0) - (m_part (σ.2 6 (ix p0)) p2 (σ.2 5 (ix p0))))) 24 (ix (σ.1 22)) p1) 25 (ix (σ.1 22)) p2) 26 (ix (σ.1 22)) (m_part (σ.2 6 (ix p0)) p2 (σ.2 5 (ix p0)))) 27 (ix (σ.1 22)) (σ.1 1 + p3)) 22 (σ.1 22 + 1) := by
        show zs (bs (bs (bs (bs (bs (bs (bs σ 5 (ix p0) (σ.2 5 (ix p0) - p2)) 6 (ix p0) (σ.2 6 (ix p0) - (m_part (σ.2 6 (ix p0)) p2 (σ.2 5 (ix p0))))) 24 (ix (σ.1 22)) p1) 25 (ix (σ.1 22)) p2) 26 (ix (σ.1 22)) (m_part (σ.2 6 (ix p0)) p2 (σ.2 5 (ix p0)))) 27 (ix (σ.1 22)) (σ.1 1 + p3)) 23 (ix (σ.1 22)) 0) 22 (σ.1 22 + 1) = _
        rw [s23]
      have hm : (m_takes (bs (bs σ 24 (ix (σ.1 22)) p1) 25 (ix (σ.1 22)) p2) p0 p2).2 = bs (bs (bs (bs σ 5 (ix p0) (σ.2 5 (ix p0) - p2)) 6 (ix p0) (σ.2 6 (ix p0) - (m_part (σ.2 6 (ix p0)) p2 (σ.2 5 (ix p0))))) 24 (ix (σ.1 22)) p1) 25 (ix (σ.1 22)) p2 := by
        show bs (bs (bs (bs σ 24 (ix (σ.1 22)) p1) 25 (ix (σ.1 22)) p2) 6 (ix p0) (σ.2 6 (ix p0) - (m_part (σ.2 6 (ix p0)) p2 (σ.2 5 (ix p0))))) 5 (ix p0) (σ.2 5 (ix p0) - p2) = _
        rw [bs_comm (bs (bs σ 24 (ix (σ.1 22)) p1) 25 (ix (σ.1 22)) p2) (ix p0) (ix p0) _ _ (show (6 : Nat) ≠ 5 by decide), bs_comm (bs σ 24 (ix (σ.1 22)) p1) (ix (σ.1 22)) (ix p0) p2 _ (show (25 : Nat) ≠ 5 by decide), bs_comm _ (ix (σ.1 22)) (ix p0) p2 _ (show (25 : Nat) ≠ 6 by decide), bs_comm σ (ix (σ.1 22)) (ix p0) p1 _ (show (24 : Nat) ≠ 5 by decide), bs_comm _ (ix (σ.1 22)) (ix p0) p1 _ (show (24 : Nat) ≠ 6 by decide)]
      rw [hg, hm]
      exact .l rfl rfl rfl hIm
    · rw [a1, b1, if_neg one_ne0, if_pos rfl]; exact .l rfl rfl rfl hI
  · rw [a, b, if_neg one_ne0, if_pos rfl]; exact .l rfl rfl rfl hI
theorem least_eq (q h : Int32) : (if h < q then h else q) = m_least q h := by
  rw [m_least]
  by_cases h1 : h < q
  · rw [if_pos h1, if_pos (by rw [le_i]; rw [lt_i] at h1; omega)]
  · rw [if_neg h1]
    by_cases h2 : h ≤ q
    · rw [if_pos h2]; exact i_eq (by rw [le_i] at h2; rw [lt_i] at h1; omega)
    · rw [if_neg h2]
theorem chg_eq (X : Sg) (r o h q : Int32) : ex_chargeLeaving r o h q = m_dutyFor X (m_least q h) (r / 2) + m_dutyFor X (q - m_least q h) r := by
  show g_part (if h < q then h else q) (r / 2) 1000 + g_part (q - (if h < q then h else q)) r 1000 = _
  rw [least_eq, duty_eq X, duty_eq X]
theorem half_eq (h l : Int32) : 1000000 - (1000000 - h - l) = h + l := by
  apply Int32.toBitVec_inj.mp
  rw [Int32.toBitVec_sub, Int32.toBitVec_sub, Int32.toBitVec_sub, Int32.toBitVec_add]
  bv_omega
theorem Inv_l {σ : Sg} (hI : Inv σ) (hn : ix (σ.1 18) < 100) {q a : Int32} (hq : 0 ≤ q.toInt) : Inv (zs (bs (bs σ 19 (ix (σ.1 18)) q) 20 (ix (σ.1 18)) a) 18 (σ.1 18 + 1)) := by
  obtain ⟨⟨a1, c2, c3⟩, a2, a3, a4, a5, a6, a7⟩ := hI
  have e1 : σ.1 18 + 1 = nI (ix (σ.1 18) + 1) := cnt_s c3.1
  have e2 : ix (σ.1 18 + 1) = ix (σ.1 18) + 1 := by rw [e1]; exact nI_clamp (by omega)
  refine ⟨⟨a1, c2, ⟨?_, ?_⟩⟩, a2, a3, a4, a5, fun k hk => ?_, a7⟩
  · show σ.1 18 + 1 = nI (ix (σ.1 18 + 1))
    rw [e2]; exact e1
  · show ix (σ.1 18 + 1) ≤ 100
    omega
  · have hk : k < ix (σ.1 18 + 1) := hk
    show 0 ≤ (upd (σ.2 19) (ix (σ.1 18)) q k).toInt
    by_cases e : k = ix (σ.1 18)
    · subst e; rw [pk_us]; exact hq
    · rw [pk_un e]; exact a6 k (by omega)
theorem r_release {σ : Sg} (hI : Inv σ) (p0 p1 : Int32) : R3 kc123 (g_release σ p0 p1) (m_release σ p0 p1) := by
  rw [g_release, m_release]
  rcases asks hI p0 p1 with ⟨a, b⟩ | ⟨a, h1, b⟩ | ⟨a, h1, c, b⟩ | ⟨a, h1, c, b, i0, hp, hv⟩
  · rw [a, b, if_neg one_ne0, if_neg one_ne0, if_pos rfl]
    split <;> exact .l rfl rfl rfl hI
  · rw [a, b, if_pos rfl, if_neg h1, if_pos rfl]
    simp only [if_true, if_neg h1]
    split <;> exact .l rfl rfl rfl hI
  · rw [a, b]
    simp only [if_true, if_pos h1, c]
    split <;> exact .l rfl rfl rfl hI
  rw [a, b]
  simp only [if_true, if_pos h1, c, if_neg one_ne0]
  obtain ⟨t1, t2, t3, t4, t5⟩ := take_ok hI i0 hp hv
  have hE : ve_dropsOf (σ.2 3 (ix p0)) (σ.2 4 (ix p0)) (σ.2 5 (ix p0)) (σ.2 6 (ix p0)) p1 = (m_part (σ.2 6 (ix p0)) p1 (σ.2 5 (ix p0))) := t1
  have hE2 : ve_takeOut (σ.2 3 (ix p0)) (σ.2 4 (ix p0)) (σ.2 5 (ix p0)) (σ.2 6 (ix p0)) p1 = (m_part (σ.2 6 (ix p0)) p1 (σ.2 5 (ix p0))) := t1
  have e18 : (σ.1 18 < 100) ↔ ¬ σ.1 18 = 100 := ten_lt hI.1.2.2 (by decide)
  have hgen : ∀ (X : Sg) (b : Int32), X.1 11 = σ.1 11 → zs (zs (zs (bs (bs σ 5 (ix p0) (σ.2 5 (ix p0) - p1)) 6 (ix p0) (σ.2 6 (ix p0) - (m_part (σ.2 6 (ix p0)) p1 (σ.2 5 (ix p0))))) 15 b) 12 (ex_chargeLeaving_1 (σ.1 11) (σ.1 12) (1000000 - σ.1 16) (m_part (σ.2 6 (ix p0)) p1 (σ.2 5 (ix p0))))) 16 (1000000 - (1000000 - σ.1 16 - (if 1000000 - σ.1 16 < (m_part (σ.2 6 (ix p0)) p1 (σ.2 5 (ix p0))) then 1000000 - σ.1 16 else (m_part (σ.2 6 (ix p0)) p1 (σ.2 5 (ix p0)))))) = zs (zs (zs (bs (bs σ 5 (ix p0) (σ.2 5 (ix p0) - p1)) 6 (ix p0) (σ.2 6 (ix p0) - (m_part (σ.2 6 (ix p0)) p1 (σ.2 5 (ix p0))))) 15 b) 16 (σ.1 16 + (m_least (m_part (σ.2 6 (ix p0)) p1 (σ.2 5 (ix p0))) (1000000 - σ.1 16)))) 12 (σ.1 12 + (m_dutyFor X (m_least (m_part (σ.2 6 (ix p0)) p1 (σ.2 5 (ix p0))) (1000000 - σ.1 16)) (σ.1 11 / 2) + m_dutyFor X ((m_part (σ.2 6 (ix p0)) p1 (σ.2 5 (ix p0))) - (m_least (m_part (σ.2 6 (ix p0)) p1 (σ.2 5 (ix p0))) (1000000 - σ.1 16))) (σ.1 11))) := by
    intro X b hX
    have hc : ex_chargeLeaving_1 (σ.1 11) (σ.1 12) (1000000 - σ.1 16) (m_part (σ.2 6 (ix p0)) p1 (σ.2 5 (ix p0))) = σ.1 12 + (m_dutyFor X (m_least (m_part (σ.2 6 (ix p0)) p1 (σ.2 5 (ix p0))) (1000000 - σ.1 16)) (σ.1 11 / 2) + m_dutyFor X ((m_part (σ.2 6 (ix p0)) p1 (σ.2 5 (ix p0))) - (m_least (m_part (σ.2 6 (ix p0)) p1 (σ.2 5 (ix p0))) (1000000 - σ.1 16))) (σ.1 11)) := by
      show σ.1 12 + ex_chargeLeaving (σ.1 11) (σ.1 12) (1000000 - σ.1 16) (m_part (σ.2 6 (ix p0)) p1 (σ.2 5 (ix p0))) = _
      rw [chg_eq X]
    rw [hc, least_eq, half_eq, zs_comm _ _ _ (show (12 : Nat) ≠ 16 by decide)]
  rw [hE, hE2, t2]
  by_cases z : σ.1 18 = 100
  · rw [if_neg (fun h => e18.mp h z), if_neg (fun h => e18.mp h z)]
    simp only [if_pos z]
    repeat' split
    all_goals exact .l rfl rfl rfl hI
  have hn : ix (σ.1 18) < 100 := cnt_ltk (σ := σ) (j := 18) 100 hI.1.2.2 (e18.mpr z) (by decide) (by decide)
  simp only [if_neg z, if_pos (e18.mpr z)]
  by_cases hb : σ.1 13 = (-1)
  · rw [if_pos hb, if_pos hb]
    have z15 : zs (bs (bs σ 5 (ix p0) (σ.2 5 (ix p0) - p1)) 6 (ix p0) (σ.2 6 (ix p0) - (m_part (σ.2 6 (ix p0)) p1 (σ.2 5 (ix p0))))) 15 (σ.1 15 - 0) = (bs (bs σ 5 (ix p0) (σ.2 5 (ix p0) - p1)) 6 (ix p0) (σ.2 6 (ix p0) - (m_part (σ.2 6 (ix p0)) p1 (σ.2 5 (ix p0))))) := zs_id (τ := (bs (bs σ 5 (ix p0) (σ.2 5 (ix p0) - p1)) 6 (ix p0) (σ.2 6 (ix p0) - (m_part (σ.2 6 (ix p0)) p1 (σ.2 5 (ix p0)))))) (k := 15) (Int32.sub_zero _).symm
    have hg := hgen (zs (zs (bs (bs σ 5 (ix p0) (σ.2 5 (ix p0) - p1)) 6 (ix p0) (σ.2 6 (ix p0) - (m_part (σ.2 6 (ix p0)) p1 (σ.2 5 (ix p0))))) 15 (σ.1 15 - 0)) 16 (σ.1 16 + (m_least (m_part (σ.2 6 (ix p0)) p1 (σ.2 5 (ix p0))) (1000000 - σ.1 16)))) (σ.1 15 - 0) rfl
    rw [z15] at hg
    rw [hg, chg_eq (zs (bs (bs σ 5 (ix p0) (σ.2 5 (ix p0) - p1)) 6 (ix p0) (σ.2 6 (ix p0) - (m_part (σ.2 6 (ix p0)) p1 (σ.2 5 (ix p0))))) 16 (σ.1 16 + (m_least (m_part (σ.2 6 (ix p0)) p1 (σ.2 5 (ix p0))) (1000000 - σ.1 16)))), z15]
    exact .l rfl rfl rfl (Inv_l (σ := zs (zs (bs (bs σ 5 (ix p0) (σ.2 5 (ix p0) - p1)) 6 (ix p0) (σ.2 6 (ix p0) - (m_part (σ.2 6 (ix p0)) p1 (σ.2 5 (ix p0))))) 16 (σ.1 16 + (m_least (m_part (σ.2 6 (ix p0)) p1 (σ.2 5 (ix p0))) (1000000 - σ.1 16)))) 12 _) t3 hn t4)
  · rw [if_neg hb, if_neg hb]
    have r2 : ((m_part (σ.2 6 (ix p0)) p1 (σ.2 5 (ix p0))) ≤ σ.1 15) ↔ ¬ (σ.1 15 < (m_part (σ.2 6 (ix p0)) p1 (σ.2 5 (ix p0)))) := by rw [lt_i, le_i]; omega
    by_cases h5 : σ.1 15 < (m_part (σ.2 6 (ix p0)) p1 (σ.2 5 (ix p0)))
    · rw [if_pos h5, if_neg (fun h => r2.mp h h5)]; exact .l rfl rfl rfl hI
    rw [if_neg h5, if_pos (r2.mpr h5), hgen (zs (zs (bs (bs σ 5 (ix p0) (σ.2 5 (ix p0) - p1)) 6 (ix p0) (σ.2 6 (ix p0) - (m_part (σ.2 6 (ix p0)) p1 (σ.2 5 (ix p0))))) 15 (σ.1 15 - (m_part (σ.2 6 (ix p0)) p1 (σ.2 5 (ix p0))))) 16 (σ.1 16 + (m_least (m_part (σ.2 6 (ix p0)) p1 (σ.2 5 (ix p0))) (1000000 - σ.1 16)))) (σ.1 15 - (m_part (σ.2 6 (ix p0)) p1 (σ.2 5 (ix p0)))) rfl, chg_eq (zs (zs (bs (bs σ 5 (ix p0) (σ.2 5 (ix p0) - p1)) 6 (ix p0) (σ.2 6 (ix p0) - (m_part (σ.2 6 (ix p0)) p1 (σ.2 5 (ix p0))))) 15 (σ.1 15 - (m_part (σ.2 6 (ix p0)) p1 (σ.2 5 (ix p0))))) 16 (σ.1 16 + (m_least (m_part (σ.2 6 (ix p0)) p1 (σ.2 5 (ix p0))) (1000000 - σ.1 16))))]
    exact .l rfl rfl rfl (Inv_l (σ := zs (zs (zs (bs (bs σ 5 (ix p0) (σ.2 5 (ix p0) - p1)) 6 (ix p0) (σ.2 6 (ix p0) - (m_part (σ.2 6 (ix p0)) p1 (σ.2 5 (ix p0))))) 15 (σ.1 15 - (m_part (σ.2 6 (ix p0)) p1 (σ.2 5 (ix p0))))) 16 (σ.1 16 + (m_least (m_part (σ.2 6 (ix p0)) p1 (σ.2 5 (ix p0))) (1000000 - σ.1 16)))) 12 _) t3 hn t4)
