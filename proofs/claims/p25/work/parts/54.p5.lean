def R3 (kc : Int32 → Int32) (g m : Int32 × Int32 × Sg) : Prop := Eq3 kc g m ∧ Inv m.2.2
theorem R3.l {kc : Int32 → Int32} {a b v w : Int32} {s t : Sg} (h : kc a = b) (hv : v = w) (hs : s = t) (hI : Inv t) : R3 kc (a, v, s) (b, w, t) := ⟨.l h hv hs, hI⟩
theorem bs_commi (σ : Sg) (k : Nat) {a b : Nat} (x y : Int32) (h : a ≠ b) : bs (bs σ k a x) k b y = bs (bs σ k b y) k a x := Sg_ext (fun _ => rfl) (fun n i => by
  simp only [bs_2]
  by_cases h1 : n = k
  · subst h1
    simp only [if_true]
    show (if i = b then y else if i = a then x else σ.2 n i) = (if i = a then x else if i = b then y else σ.2 n i)
    by_cases h2 : i = b
    · rw [if_pos h2, if_neg (by omega), if_pos h2]
    · rw [if_neg h2, if_neg h2]
  · rw [if_neg h1, if_neg h1, if_neg h1, if_neg h1])
theorem miss_eq (σ : Sg) (p : Int32) : g_miss σ p = m_misses σ p := by
  have e1 := duty_m σ (σ.1 11) (σ.1 12) (1000000 - (σ.1 16)) p
  unfold g_miss m_misses
  show (ex_dutyFor (σ.1 11) (σ.1 12) (1000000 - (σ.1 16)) p, _) = _
  rw [e1]
  rfl
theorem ge1 {p : Int32} (h : 1 ≤ p) : 1 ≤ p.toInt := by rw [le_i, ti1] at h; exact h
theorem r_move {σ : Sg} (hI : Inv σ) (p0 p1 p2 : Int32) : R3 kc123 (g_move σ p0 p1 p2) (m_move σ p0 p1 p2) := by
  rw [g_move, m_move]
  rcases V1 hI p0 with ⟨a, b, i0, v0⟩ | ⟨a, b⟩
  · rw [a, b, if_pos rfl, if_neg one_ne0]
    rcases V1 hI p1 with ⟨a1, b1, i1, v1⟩ | ⟨a1, b1⟩
    · rw [a1, b1, if_pos rfl, if_neg one_ne0]
      by_cases e : p0 = p1
      · rw [if_pos e, if_pos e]; exact .l rfl rfl rfl hI
      rw [if_neg e, if_neg e]
      by_cases h1 : 1 ≤ p2
      · rw [if_pos h1, if_pos h1]
        by_cases h2 : σ.2 3 (ix p0) = σ.2 3 (ix p1)
        · rw [if_pos h2, if_pos h2]
          rcases has_eq σ p0 p2 with ⟨c, d⟩ | ⟨c, d, h3⟩
          · rw [c, d, if_pos rfl, if_pos rfl]; exact .l rfl rfl rfl hI
          rw [c, d, if_neg one_ne0, if_neg one_ne0]
          have hp := ge1 h1
          rcases room_eq hI i1 (p := p2) (by omega) (by have := v0.2.1; have := v0.2.2.1; omega) with ⟨c1, d1⟩ | ⟨c1, d1, h4⟩
          · rw [c1, d1, if_pos rfl, if_pos rfl]; exact .l rfl rfl rfl hI
          rw [c1, d1, if_neg one_ne0, if_neg one_ne0]
          obtain ⟨t1, t2, t3, t4, t5⟩ := take_ok hI i0 hp h3
          have hE : ve_dropsOf (σ.2 3 (ix p0)) (σ.2 4 (ix p0)) (σ.2 5 (ix p0)) (σ.2 6 (ix p0)) p2 = (m_part (σ.2 6 (ix p0)) p2 (σ.2 5 (ix p0))) := t1
          have hE2 : ve_takeOut (σ.2 3 (ix p0)) (σ.2 4 (ix p0)) (σ.2 5 (ix p0)) (σ.2 6 (ix p0)) p2 = (m_part (σ.2 6 (ix p0)) p2 (σ.2 5 (ix p0))) := t1
          have hm : m_comes ((m_takes σ p0 p2).2) p1 p2 ((m_takes σ p0 p2).1) = m_comes (bs (bs σ 5 (ix p0) (σ.2 5 (ix p0) - p2)) 6 (ix p0) (σ.2 6 (ix p0) - (m_part (σ.2 6 (ix p0)) p2 (σ.2 5 (ix p0))))) p1 p2 (m_part (σ.2 6 (ix p0)) p2 (σ.2 5 (ix p0))) := by rw [t2]; rfl
          have hr : (upd (σ.2 5) (ix p0) (σ.2 5 (ix p0) - p2) (ix p1)).toInt + p2.toInt ≤ (σ.2 4 (ix p1)).toInt := by
            by_cases z : ix p1 = ix p0
            · obtain ⟨w1, w2, w3, -⟩ := v0
              rw [z, pk_us, i_sub (by omega) (by omega)]
              rw [z] at h4
              omega
            · rw [pk_un z]; exact h4
          obtain ⟨u1, u2⟩ := come_ok t3 (x := p1) (p := p2) (q := (m_part (σ.2 6 (ix p0)) p2 (σ.2 5 (ix p0)))) (σ.2 3 (ix p1)) (σ.2 4 (ix p1)) i1 (by omega) hr t4 t5
          rw [hE, hE2, hm]
          refine .l rfl ?_ ?_ u2
          · show upd (((bs (bs σ 5 (ix p0) (σ.2 5 (ix p0) - p2)) 6 (ix p0) (σ.2 6 (ix p0) - (m_part (σ.2 6 (ix p0)) p2 (σ.2 5 (ix p0)))))).2 5) (ix p1) (ve_comeIn_2 (σ.2 3 (ix p1)) (σ.2 4 (ix p1)) (((bs (bs σ 5 (ix p0) (σ.2 5 (ix p0) - p2)) 6 (ix p0) (σ.2 6 (ix p0) - (m_part (σ.2 6 (ix p0)) p2 (σ.2 5 (ix p0)))))).2 5 (ix p1)) (((bs (bs σ 5 (ix p0) (σ.2 5 (ix p0) - p2)) 6 (ix p0) (σ.2 6 (ix p0) - (m_part (σ.2 6 (ix p0)) p2 (σ.2 5 (ix p0)))))).2 6 (ix p1)) p2 (m_part (σ.2 6 (ix p0)) p2 (σ.2 5 (ix p0)))) (ix p1) = _
            rw [u1]
            rfl
          · show bs (bs (bs (bs σ 5 (ix p0) (σ.2 5 (ix p0) - p2)) 6 (ix p0) (σ.2 6 (ix p0) - (m_part (σ.2 6 (ix p0)) p2 (σ.2 5 (ix p0))))) 5 (ix p1) (ve_comeIn_2 (σ.2 3 (ix p1)) (σ.2 4 (ix p1)) (((bs (bs σ 5 (ix p0) (σ.2 5 (ix p0) - p2)) 6 (ix p0) (σ.2 6 (ix p0) - (m_part (σ.2 6 (ix p0)) p2 (σ.2 5 (ix p0)))))).2 5 (ix p1)) (((bs (bs σ 5 (ix p0) (σ.2 5 (ix p0) - p2)) 6 (ix p0) (σ.2 6 (ix p0) - (m_part (σ.2 6 (ix p0)) p2 (σ.2 5 (ix p0)))))).2 6 (ix p1)) p2 (m_part (σ.2 6 (ix p0)) p2 (σ.2 5 (ix p0))))) 6 (ix p1) (((bs (bs σ 5 (ix p0) (σ.2 5 (ix p0) - p2)) 6 (ix p0) (σ.2 6 (ix p0) - (m_part (σ.2 6 (ix p0)) p2 (σ.2 5 (ix p0)))))).2 6 (ix p1) + (m_part (σ.2 6 (ix p0)) p2 (σ.2 5 (ix p0)))) = _
            rw [u1]
            rfl
        · rw [if_neg h2, if_neg h2]; exact .l rfl rfl rfl hI
      · rw [if_neg h1, if_neg h1]; exact .l rfl rfl rfl hI
    · rw [a1, b1, if_neg one_ne0, if_pos rfl]; exact .l rfl rfl rfl hI
  · rw [a, b, if_neg one_ne0, if_pos rfl]; exact .l rfl rfl rfl hI
/-- whether a part may leave a vessel -/
theorem asks {σ : Sg} (hI : Inv σ) (p0 p1 : Int32) : (g_vesselOf σ p0 = 1 ∧ m_asksPart σ p0 p1 = (1, 0)) ∨ (g_vesselOf σ p0 = 0 ∧ ¬ 1 ≤ p1 ∧ m_asksPart σ p0 p1 = (2, 0)) ∨ (g_vesselOf σ p0 = 0 ∧ 1 ≤ p1 ∧ ve_has (σ.2 3 (ix p0)) (σ.2 4 (ix p0)) (σ.2 5 (ix p0)) (σ.2 6 (ix p0)) p1 = 0 ∧ m_asksPart σ p0 p1 = (3, 0)) ∨ (g_vesselOf σ p0 = 0 ∧ 1 ≤ p1 ∧ ve_has (σ.2 3 (ix p0)) (σ.2 4 (ix p0)) (σ.2 5 (ix p0)) (σ.2 6 (ix p0)) p1 = 1 ∧ m_asksPart σ p0 p1 = (0, 1) ∧ ix p0 < ix (σ.1 2) ∧ 1 ≤ p1.toInt ∧ p1.toInt ≤ (σ.2 5 (ix p0)).toInt) := by
  unfold m_asksPart
  rcases V1 hI p0 with ⟨a, b, i0, v0⟩ | ⟨a, b⟩
  · rw [b, if_neg one_ne0]
    by_cases h1 : 1 ≤ p1
    · rw [if_pos h1]
      rcases has_eq σ p0 p1 with ⟨c, d⟩ | ⟨c, d, h3⟩
      · rw [d, if_pos rfl]; exact Or.inr (Or.inr (Or.inl ⟨a, h1, c, rfl⟩))
      · rw [d, if_neg one_ne0]; exact Or.inr (Or.inr (Or.inr ⟨a, h1, c, rfl, i0, ge1 h1, h3⟩))
    · rw [if_neg h1]; exact Or.inr (Or.inl ⟨a, h1, rfl⟩)
  · rw [b, if_pos rfl]; exact Or.inl ⟨a, rfl⟩
theorem r_lose {σ : Sg} (hI : Inv σ) (p0 p1 p2 : Int32) : R3 kc123 (g_lose σ p0 p1 p2) (m_lose σ p0 p1 p2) := by
  rw [g_lose, m_lose]
  rcases asks hI p0 p1 with ⟨a, b⟩ | ⟨a, h1, b⟩ | ⟨a, h1, c, b⟩ | ⟨a, h1, c, b, i0, hp, hv⟩
  · rw [a, b, if_neg one_ne0, if_pos rfl]; exact .l rfl rfl rfl hI
  · rw [a, b, if_pos rfl, if_neg h1, if_pos rfl]; exact .l rfl rfl rfl hI
  · rw [a, b, if_pos rfl, if_pos h1, c, if_pos rfl, if_pos rfl]; exact .l rfl rfl rfl hI
  rw [a, b, if_pos rfl, if_pos h1, c, if_neg one_ne0, if_neg one_ne0]
  obtain ⟨t1, t2, t3, t4, t5⟩ := take_ok hI i0 hp hv
  have hE : ve_dropsOf (σ.2 3 (ix p0)) (σ.2 4 (ix p0)) (σ.2 5 (ix p0)) (σ.2 6 (ix p0)) p1 = (m_part (σ.2 6 (ix p0)) p1 (σ.2 5 (ix p0))) := t1
  have hE2 : ve_takeOut (σ.2 3 (ix p0)) (σ.2 4 (ix p0)) (σ.2 5 (ix p0)) (σ.2 6 (ix p0)) p1 = (m_part (σ.2 6 (ix p0)) p1 (σ.2 5 (ix p0))) := t1
  have hm1 : (m_takes σ p0 p1).1 = (m_part (σ.2 6 (ix p0)) p1 (σ.2 5 (ix p0))) := rfl
  rw [hE, hE2, hm1, t2]
  by_cases h2 : p2 = 0
  · rw [if_pos h2, if_pos h2, miss_eq]
    have z : bs (bs (bs σ 5 (ix p0) (σ.2 5 (ix p0) - p1)) 6 (ix p0) (σ.2 6 (ix p0) - (m_part (σ.2 6 (ix p0)) p1 (σ.2 5 (ix p0))))) 10 4 (σ.2 10 4 + 0) = (bs (bs σ 5 (ix p0) (σ.2 5 (ix p0) - p1)) 6 (ix p0) (σ.2 6 (ix p0) - (m_part (σ.2 6 (ix p0)) p1 (σ.2 5 (ix p0))))) := by
      rw [Int32.add_zero]
      exact bs_id (τ := (bs (bs σ 5 (ix p0) (σ.2 5 (ix p0) - p1)) 6 (ix p0) (σ.2 6 (ix p0) - (m_part (σ.2 6 (ix p0)) p1 (σ.2 5 (ix p0)))))) (k := 10) (i := 4) rfl
    rw [z]
    exact .l rfl rfl rfl t3
  · rw [if_neg h2, if_neg h2]
    exact .l rfl rfl rfl t3
theorem r_denature {σ : Sg} (hI : Inv σ) (p0 p1 : Int32) : R3 kc123 (g_denature σ p0 p1) (m_denature σ p0 p1) := by
  rw [g_denature, m_denature]
  rcases asks hI p0 p1 with ⟨a, b⟩ | ⟨a, h1, b⟩ | ⟨a, h1, c, b⟩ | ⟨a, h1, c, b, i0, hp, hv⟩
  · rw [a, b, if_neg one_ne0, if_pos rfl]; exact .l rfl rfl rfl hI
  · rw [a, b, if_pos rfl, if_neg h1, if_pos rfl]; exact .l rfl rfl rfl hI
  · rw [a, b, if_pos rfl, if_pos h1, c, if_pos rfl, if_pos rfl]; exact .l rfl rfl rfl hI
  rw [a, b, if_pos rfl, if_pos h1, c, if_neg one_ne0, if_neg one_ne0]
  obtain ⟨t1, t2, t3, t4, t5⟩ := take_ok hI i0 hp hv
  have hE : ve_dropsOf (σ.2 3 (ix p0)) (σ.2 4 (ix p0)) (σ.2 5 (ix p0)) (σ.2 6 (ix p0)) p1 = (m_part (σ.2 6 (ix p0)) p1 (σ.2 5 (ix p0))) := t1
  have hE2 : ve_takeOut (σ.2 3 (ix p0)) (σ.2 4 (ix p0)) (σ.2 5 (ix p0)) (σ.2 6 (ix p0)) p1 = (m_part (σ.2 6 (ix p0)) p1 (σ.2 5 (ix p0))) := t1
  have hm1 : (m_takes σ p0 p1).1 = (m_part (σ.2 6 (ix p0)) p1 (σ.2 5 (ix p0))) := rfl
  rw [hE, hE2, t2]
  split
  · exact .l rfl rfl rfl t3
  · exact .l rfl rfl rfl hI
theorem dip_st (Z : Sg) (i : Nat) (p e : Int32) : bs (bs (bs (bs Z 5 i p) 6 i (Z.2 6 i)) 5 i (upd (Z.2 5) i p i)) 6 i e = bs (bs Z 5 i p) 6 i e := by
  rw [bs_id (τ := bs Z 5 i p) (k := 6) (i := i) (v := Z.2 6 i) rfl, pk_us, bs_bs]
theorem r_dip {σ : Sg} (hI : Inv σ) (p0 p1 p2 : Int32) : R3 kc123 (g_dip σ p0 p1 p2) (m_dip σ p0 p1 p2) := by
  have h9 := hI.2.2.2.2.2.2.2.1
  have e60 : (60 : Int32).toInt = 60 := by decide
  rw [g_dip, m_dip, within_in, within_in]
  rcases V1 hI p0 with ⟨a, b, i0, v0⟩ | ⟨a, b⟩
  · rw [a, b, if_pos rfl, if_neg one_ne0]
    rcases in_01 p1 0 (σ.2 4 (ix p0)) with ⟨c, -⟩ | ⟨c, l1, l2⟩
    · rw [c, if_pos rfl, if_pos rfl]; exact .l rfl rfl rfl hI
    rw [c, if_neg one_ne0, if_neg one_ne0]
    rcases in_01 p2 0 960 with ⟨c2, -⟩ | ⟨c2, l3, l4⟩
    · rw [c2, if_pos rfl, if_pos rfl]; exact .l rfl rfl rfl hI
    rw [c2, if_neg one_ne0, if_neg one_ne0]
    rw [ti0] at l1 l3
    rw [show (960 : Int32).toInt = 960 by decide] at l4
    obtain ⟨b1, b2, b3, b4, b5, -, -⟩ := v0
    have m1 : 0 ≤ p1.toInt * p2.toInt := Int.mul_nonneg l1 l3
    have m2 : p1.toInt * p2.toInt ≤ p1.toInt * 960 := Int.mul_le_mul_of_nonneg_left l4 l1
    have em : (p1 * p2).toInt = p1.toInt * p2.toInt := i_mul (by omega) (by omega)
    have eo : (σ.2 6 (ix p0) - p1 * p2).toInt = (σ.2 6 (ix p0)).toInt - p1.toInt * p2.toInt := by rw [i_sub (by rw [em]; omega) (by rw [em]; omega), em]
    have eh : (σ.2 6 (ix p0) / 100).toInt = (σ.2 6 (ix p0)).toInt / 100 := by rw [i_div b4 (by decide), show (100 : Int32).toInt = 100 by decide]
    have hI2 : Inv (zs σ 9 (σ.1 9 + 1)) → Inv (bs (bs (zs σ 9 (σ.1 9 + 1)) 5 (ix p0) p1) 6 (ix p0) (p1 * p2)) := fun h => Inv_v h i0 l1 l2 (by rw [em]; exact m1) (by rw [em]; omega)
    by_cases z : σ.1 9 = 60
    · rw [if_neg (by rw [lt_i, z]; omega), if_pos z]; exact .l rfl rfl rfl hI
    have z2 : (σ.1 9).toInt ≠ 60 := fun h => z (i_eq (by rw [h, e60]))
    have hI3 := hI2 (by
      obtain ⟨a1, a2, a3, a4, a5, a6, a7, a8, a9⟩ := hI
      refine ⟨a1, a2, a3, a4, a5, a6, a7, ?_, a9⟩
      show 0 ≤ (σ.1 9 + 1).toInt ∧ (σ.1 9 + 1).toInt ≤ 60
      rw [i_add (by rw [ti1]; omega) (by rw [ti1]; omega), ti1]
      omega)
    rw [if_pos (by rw [lt_i, e60]; omega), if_neg z]
    have hst : bs (bs (bs (bs (zs σ 9 (σ.1 9 + 1)) 5 (ix p0) p1) 6 (ix p0) (σ.2 6 (ix p0))) 5 (ix p0) (upd (σ.2 5) (ix p0) p1 (ix p0))) 6 (ix p0) (p1 * p2) = bs (bs (zs σ 9 (σ.1 9 + 1)) 5 (ix p0) p1) 6 (ix p0) (p1 * p2) := dip_st (zs σ 9 (σ.1 9 + 1)) (ix p0) p1 (p1 * p2)
    rw [hst, miss_eq]
    have c10 : ∀ (u : Nat) (x : Int32), bs (bs (bs (zs σ 9 (σ.1 9 + 1)) 10 u x) 5 (ix p0) p1) 6 (ix p0) (p1 * p2) = bs (bs (bs (zs σ 9 (σ.1 9 + 1)) 5 (ix p0) p1) 6 (ix p0) (p1 * p2)) 10 u x := fun u x => by
      rw [bs_comm (zs σ 9 (σ.1 9 + 1)) u (ix p0) x p1 (by decide), bs_comm _ u (ix p0) x (p1 * p2) (by decide)]
    by_cases g0 : 0 ≤ (σ.2 6 (ix p0) - p1 * p2)
    · rw [if_pos g0]
      rw [le_i, ti0, eo] at g0
      by_cases g1 : (σ.2 6 (ix p0) - p1 * p2) ≤ σ.2 6 (ix p0) / 100
      · rw [if_pos g1, if_pos g1]
        by_cases g2 : (σ.2 6 (ix p0) - p1 * p2) ≤ 0
        · rw [if_pos g2]
          rw [le_i, ti0, eo] at g2
          have gz : (σ.2 6 (ix p0) - p1 * p2) = 0 := i_eq (by rw [eo, ti0]; omega)
          rw [gz, Int32.add_zero, Int32.sub_zero]
          have y1 : bs (bs (bs (zs σ 9 (σ.1 9 + 1)) 5 (ix p0) p1) 6 (ix p0) (p1 * p2)) 10 4 (σ.2 10 4) = bs (bs (zs σ 9 (σ.1 9 + 1)) 5 (ix p0) p1) 6 (ix p0) (p1 * p2) := bs_id rfl
          have y2 : bs (zs σ 9 (σ.1 9 + 1)) 10 0 (σ.2 10 0) = (zs σ 9 (σ.1 9 + 1)) := bs_id rfl
          rw [y1, y2]
          exact .l rfl rfl rfl hI3
        · rw [if_neg g2, c10]
          exact .l rfl rfl rfl hI3
      · rw [if_neg g1, if_neg g1]
        have y3 : bs (bs (m_misses (zs σ 9 (σ.1 9 + 1)) (σ.2 6 (ix p0) - p1 * p2)).2 5 (ix p0) p1) 6 (ix p0) (p1 * p2) = (m_misses (bs (bs (zs σ 9 (σ.1 9 + 1)) 5 (ix p0) p1) 6 (ix p0) (p1 * p2)) (σ.2 6 (ix p0) - p1 * p2)).2 := by
          show bs (bs (zs (bs (zs σ 9 (σ.1 9 + 1)) 10 5 (σ.2 10 5 + (σ.2 6 (ix p0) - p1 * p2))) 12 (σ.1 12 + m_dutyFor (bs (zs σ 9 (σ.1 9 + 1)) 10 5 (σ.2 10 5 + (σ.2 6 (ix p0) - p1 * p2))) (σ.2 6 (ix p0) - p1 * p2) (σ.1 11))) 5 (ix p0) p1) 6 (ix p0) (p1 * p2) = zs (bs (bs (bs (zs σ 9 (σ.1 9 + 1)) 5 (ix p0) p1) 6 (ix p0) (p1 * p2)) 10 5 (σ.2 10 5 + (σ.2 6 (ix p0) - p1 * p2))) 12 (σ.1 12 + m_dutyFor (bs (zs σ 9 (σ.1 9 + 1)) 10 5 (σ.2 10 5 + (σ.2 6 (ix p0) - p1 * p2))) (σ.2 6 (ix p0) - p1 * p2) (σ.1 11))
          rw [← c10]
          rfl
        rw [y3]
        exact .l rfl rfl rfl hI3
    · rw [if_neg g0]
      rw [le_i, ti0, eo] at g0
      have hn : 0 ≤ (σ.2 6 (ix p0)).toInt / 100 := Int.ediv_nonneg b4 (by omega)
      rw [if_pos (show (σ.2 6 (ix p0) - p1 * p2) ≤ σ.2 6 (ix p0) / 100 by rw [le_i, eo, eh]; omega), if_pos (show (σ.2 6 (ix p0) - p1 * p2) ≤ 0 by rw [le_i, eo, ti0]; omega), c10]
      exact .l rfl rfl rfl hI3
  · rw [a, b, if_neg one_ne0, if_pos rfl]; exact .l rfl rfl rfl hI
