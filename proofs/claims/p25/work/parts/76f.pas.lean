/-! ===== a day ===== -/
def BdX (T : Nat) (g : Int) (S : Sg) : Prop := ppc S - 100000000 ≤ (S.1 12).toInt ∧ (S.1 12).toInt + mvc S ≤ (T : Int) * (1000000 + 20000 * g)
/-- within a day -/
def DI (T : Nat) (g : Int) (S L : Sg) : Prop := Inv S ∧ F5 S ∧ Sim S L ∧ cq S = 0 ∧ BdA S ∧ BdL S ∧ BdX T g S
theorem bdx_b {T : Nat} {g : Int} {S : Sg} (hT : T ≤ 120) (hg : 0 ≤ g ∧ g ≤ 30) (hL : BdL S) (h : BdX T g S) : -100000000 ≤ (S.1 12).toInt ∧ (S.1 12).toInt ≤ 192000000 ∧ (S.1 12).toInt + mvc S ≤ 192000000 := by
  have h1 := ppc_0 hL
  have h2 := mvc_0 S
  obtain ⟨h3, h4⟩ := h
  have h5 : (T : Int) * (1000000 + 20000 * g) ≤ 120 * 1600000 := Int.mul_le_mul (by omega) (by omega) (by omega) (by omega)
  omega
theorem sim_dp1 {S L : Sg} (h : Sim S L) : Sim (if S.1 1 + 1 = S.1 13 then zs (zs (zs S 1 (S.1 1 + 1)) 11 (S.1 14)) 13 (-1) else zs S 1 (S.1 1 + 1)) (z_dp1 L) := by
  have hG := h.2.2.1
  unfold z_dp1
  by_cases q : S.1 1 + 1 = S.1 13
  · rw [if_pos q, if_pos (by rw [hG.2.2.2.1, hG.1]; exact q.symm)]
    exact sim_g3 (sim_g1 (sim_g0 h (by rw [hG.1])) hG.2.2.2.2.1) rfl
  · rw [if_neg q, if_neg (by rw [hG.2.2.2.1, hG.1]; exact fun z => q z.symm)]
    exact sim_g0 h (by rw [hG.1])
theorem pre_form (S : Sg) : m_pre S = if S.1 1 + 1 - (S.1 1 + 1) / 100 * 100 = 0 then zs (if S.1 1 + 1 = S.1 13 then zs (zs (zs S 1 (S.1 1 + 1)) 11 (S.1 14)) 13 (-1) else zs S 1 (S.1 1 + 1)) 16 0 else (if S.1 1 + 1 = S.1 13 then zs (zs (zs S 1 (S.1 1 + 1)) 11 (S.1 14)) 13 (-1) else zs S 1 (S.1 1 + 1)) := by
  unfold m_pre
  by_cases q : S.1 1 + 1 = S.1 13
  · simp only [if_pos q]
    by_cases q2 : S.1 1 + 1 - (S.1 1 + 1) / 100 * 100 = 0
    · rw [if_pos q2, if_pos q2]
    · rw [if_neg q2, if_neg q2]
      exact zs_id rfl
  · simp only [if_neg q]
    by_cases q2 : S.1 1 + 1 - (S.1 1 + 1) / 100 * 100 = 0
    · rw [if_pos q2, if_pos q2]
    · rw [if_neg q2, if_neg q2]
      exact zs_id rfl
theorem pre_12 (S : Sg) : (m_pre S).1 12 = S.1 12 := pre_z (by decide) (by decide) (by decide) (by decide) S
theorem di_pre {T : Nat} {S L : Sg} (h : TI T S L) (hd : (S.1 1).toInt < 900) : DI T ((S.1 1).toInt / 30) (m_pre S) (z_dpre L) := by
  obtain ⟨hI, hF, hS, hq, hA, hL, hO⟩ := h
  obtain ⟨-, i1, i2, i3, i4⟩ := pre_eq hI hd
  have hb := pre_b S
  have e18 : (m_pre S).1 18 = S.1 18 := pre_z (by decide) (by decide) (by decide) (by decide) S
  have e8 : (m_pre S).1 8 = S.1 8 := pre_z (by decide) (by decide) (by decide) (by decide) S
  have e14 : (m_pre S).1 14 = S.1 14 := pre_z (by decide) (by decide) (by decide) (by decide) S
  have sim : Sim (m_pre S) (z_dpre L) := by
    rw [pre_form, z_dpre, hS.2.2.1.1]
    by_cases q : S.1 1 + 1 - (S.1 1 + 1) / 100 * 100 = 0
    · rw [if_pos q, if_pos q]
      exact sim_g6 (sim_dp1 hS) rfl
    · rw [if_neg q, if_neg q]
      exact sim_dp1 hS
  refine ⟨i1, ⟨by rw [i3]; exact hF.1, by rw [e18]; exact hF.2⟩, sim, ?_, ?_, ?_, ?_, ?_⟩
  · have v1 : m_inVessels (m_pre S) = m_inVessels S := by rw [m_inVessels, m_inVessels, i3, hb]
    have v2 : m_moving (m_pre S) = m_moving S := by
      rw [m_moving, m_moving, i4]
      exact sm_ext (fun i _ => by rw [mvf, mvf, hb])
    have v3 : m_inLots (m_pre S) = m_inLots S := by rw [m_inLots, m_inLots, e18, hb]
    rw [cq, v1, v2, v3, hb]
    exact hq
  · unfold BdA
    rw [e8, e14]
    refine ⟨hA.1, ?_, hA.2.2.1, ?_⟩
    · rw [pre_form]
      by_cases q : S.1 1 + 1 - (S.1 1 + 1) / 100 * 100 = 0 <;> by_cases q2 : S.1 1 + 1 = S.1 13
      · rw [if_pos q, if_pos q2]; exact hA.2.2.1
      · rw [if_pos q, if_neg q2]; exact hA.2.1
      · rw [if_neg q, if_pos q2]; exact hA.2.2.1
      · rw [if_neg q, if_neg q2]; exact hA.2.1
    · rw [pre_form]
      by_cases q : S.1 1 + 1 - (S.1 1 + 1) / 100 * 100 = 0 <;> by_cases q2 : S.1 1 + 1 = S.1 13
      · rw [if_pos q, if_pos q2]; exact (by decide : 0 ≤ (0 : Int32).toInt ∧ (0 : Int32).toInt ≤ 1000000)
      · rw [if_pos q, if_neg q2]; exact (by decide : 0 ≤ (0 : Int32).toInt ∧ (0 : Int32).toInt ≤ 1000000)
      · rw [if_neg q, if_pos q2]; exact hA.2.2.2
      · rw [if_neg q, if_neg q2]; exact hA.2.2.2
  · intro i hi
    rw [hb]
    exact hL i (by rw [← e18]; exact hi)
  · have v : ppc (m_pre S) = ppc S := by unfold ppc; rw [e18, hb]
    rw [v, pre_12]
    exact hO.1
  · have v : mvc (m_pre S) = mvc S := by unfold mvc; rw [i4, hb]
    rw [v, pre_12]
    exact hO.2
/-! movements that are late -/
theorem lat_step {T : Nat} {g : Int} {S L : Sg} (hT : T ≤ 120) (hg : 0 ≤ g ∧ g ≤ 30) (h : DI T g S L) {k : Nat} (hk : k < ix (S.1 22)) (hI' : Inv (latS k S)) : DI T g (latS k S) (z_latS k L) := by
  obtain ⟨hI, hF, hS, hq, hA, hL, hX⟩ := h
  obtain ⟨a, b⟩ := hS.2.2.2.2 k hk
  have g0 := hS.2.2.1.1
  unfold latS at hI' ⊢
  unfold z_latS
  rw [Mr_s b, Mr_d b, g0, a]
  by_cases q : S.2 23 k = 0
  · rw [if_pos q] at hI' ⊢
    rw [if_pos q]
    by_cases q2 : S.1 1 ≤ S.2 27 k
    · rw [if_pos q2, if_neg (Int32.not_lt.mpr q2)]
      exact ⟨hI, hF, hS, hq, hA, hL, hX⟩
    · rw [if_neg q2] at hI' ⊢
      rw [if_pos (Int32.not_le.mp q2)]
      have hst := sim_st hS hk q 2 (by decide)
      rw [or_2, nI2] at hst
      obtain ⟨m1, m2, m3, m4, -⟩ := hI.2.2.2.1 k hk
      obtain ⟨d0, -, d2⟩ := duty_b (q := S.2 26 k) (r := S.1 11) m3 (by omega) hA.2.1.1 hA.2.1.2
      have hb := bdx_b hT hg hL hX
      have eo : (S.1 12 + m_part (S.2 26 k) (S.1 11) 1000).toInt = (S.1 12).toInt + (m_part (S.2 26 k) (S.1 11) 1000).toInt := i_add (by omega) (by omega)
      have two : ¬ (2 : Int32) = 0 := by decide
      refine ⟨hI', hF, (sim_miss hst _).2, ?_, hA, hL, ?_, ?_⟩
      · rw [cq_misses, cq_st hk q two, hq]
        grind
      · show ppc S - 100000000 ≤ (S.1 12 + m_part (S.2 26 k) (S.1 11) 1000).toInt
        rw [eo]
        have := hX.1
        omega
      · rw [mvc_misses, mvc_st hk q two]
        show (S.1 12 + m_part (S.2 26 k) (S.1 11) 1000).toInt + (mvc S - 1000000) ≤ _
        rw [eo]
        have := hX.2
        omega
  · rw [if_neg q, if_neg q]
    exact ⟨hI, hF, hS, hq, hA, hL, hX⟩
theorem lat_all {T : Nat} {g : Int} {S L : Sg} (hT : T ≤ 120) (hg : 0 ≤ g ∧ g ≤ 30) (h : DI T g S L) : ∀ n, n ≤ ix (S.1 22) → DI T g (lat n S) (z_lat n L)
  | 0, _ => h
  | n + 1, hn => by
    obtain ⟨e1, e2, -⟩ := Inv_lat h.1 n (by omega)
    have e3 := Inv_lat h.1 (n + 1) hn
    exact lat_step hT hg (lat_all hT hg h n (by omega)) (by rw [e2]; omega) e3.1
/-! shares -/
theorem shr_val {v r : Int32} (h1 : 0 ≤ v.toInt) (h2 : v.toInt ≤ 9999) (h3 : 0 ≤ r.toInt) (h4 : r.toInt ≤ 500) : v * r / 100000 = m_part v r 100000 := by
  have p : 0 ≤ v.toInt * r.toInt ∧ v.toInt * r.toInt ≤ 9999 * 500 := ⟨Int.mul_nonneg h1 h3, Int.mul_le_mul h2 h4 h3 (by omega)⟩
  have e : (100000 : Int32).toInt = 100000 := by decide
  have e1 : (v * r).toInt = v.toInt * r.toInt := i_mul (by omega) (by omega)
  refine i_eq ?_
  rw [i_div (by omega) (by rw [e]; omega), e1, i_part h1 h3 (by rw [e]; omega) (by rw [e]; omega)]
theorem shr_step {T : Nat} {g : Int} {S L : Sg} (h : DI T g S L) {k : Nat} (hk : k < 5) (hI' : Inv (shrS k S)) : DI T g (shrS k S) (z_shrS k L) := by
  obtain ⟨hI, hF, hS, hq, hA, hL, hX⟩ := h
  obtain ⟨a0, a1, a2, a3⟩ := hS.1 k hk
  have hk2 : k < ix (S.1 2) := by rw [ix5 hF]; exact hk
  obtain ⟨v1, v2, v3, v4, v5, -⟩ := hI.2.1 k hk2
  have ep : ix (S.2 3 k) = k % 3 := by rw [a3]; exact nI_clamp (by omega)
  have er : L.2 3 (k % 3) = S.2 7 (ix (S.2 3 k)) := by rw [ep]; exact hS.2.1 _ (r3_lt k)
  obtain ⟨r1, r2⟩ := hI.2.2.2.2.2.2.2.2 (ix (S.2 3 k)) (by rw [ep]; have := r3_lt k; omega)
  have eI : z_shrI k L = shrI k S := by unfold z_shrI shrI; rw [a2, er]
  have eV : L.2 1 k - L.2 1 k * L.2 3 (k % 3) / 100000 = S.2 5 k - m_part (S.2 5 k) (S.2 7 (ix (S.2 3 k))) 100000 := by rw [a1, er, shr_val v1 (by omega) r1 r2]
  have eS : shrS k S = bs (bs (bs S 10 4 (S.2 10 4 + shrI k S)) 5 k (S.2 5 k - m_part (S.2 5 k) (S.2 7 (ix (S.2 3 k))) 100000)) 6 k (S.2 6 k - shrI k S) := bs_comm _ _ _ _ _ (by decide)
  have eL : z_shrS k L = bs (bs (bs L 4 12 (L.2 4 12 + z_shrI k L)) 1 k (L.2 1 k - L.2 1 k * L.2 3 (k % 3) / 100000)) 2 k (L.2 2 k - z_shrI k L) := by
    unfold z_shrS
    rw [bs_comm L k 12 (L.2 2 k - z_shrI k L) (L.2 4 12 + z_shrI k L) (by decide), bs_comm (bs L 4 12 (L.2 4 12 + z_shrI k L)) k k (L.2 2 k - z_shrI k L) _ (by decide)]
  refine ⟨hI', hF, ?_, ?_, hA, hL, hX⟩
  · rw [eS, eL]
    refine sim_v (sim_g12 hS ?_) k eV ?_
    · rw [eI, hS.2.2.1.2.2.2.2.2.2.2.2.2.2.2.2.1]
    · rw [eI, a2]
  · show sm (upd (S.2 6) k (S.2 6 k - shrI k S)) (ix (S.1 2)) + m_moving S + m_inLots S + (S.2 10 4 + shrI k S) + S.2 10 5 + S.2 10 6 - S.2 10 0 = 0
    rw [sm_upd hk2]
    unfold cq m_inVessels at hq
    grind
theorem shr_all {T : Nat} {g : Int} {S L : Sg} (h : DI T g S L) : ∀ n, n ≤ 5 → DI T g (shr n S) (z_shr n L)
  | 0, _ => h
  | n + 1, hn => by
    have e3 := (shr_eq h.1 (n + 1) (by rw [ix5 h.2.1]; exact hn)).2.1
    exact shr_step (shr_all h n (by omega)) (by omega) e3
/-! the day's end -/
theorem tail_form {T : Nat} {g : Int} {S L : Sg} (h : DI T g S L) (hz : ¬ S.1 12 ≤ 0) (h99 : S.1 12 ≤ 99) : S.1 12 + S.1 12 / 100 = S.1 12 := by
  rw [le_i, ti0] at hz
  rw [le_i, show (99 : Int32).toInt = 99 by decide] at h99
  have e : S.1 12 / 100 = 0 := i_eq (by rw [i_div (by omega) (by decide), show (100 : Int32).toInt = 100 by decide, ti0]; omega)
  rw [e]
  grind
theorem di_tail {T : Nat} {g : Int} {S L : Sg} (hT : T ≤ 120) (hg : 0 ≤ g ∧ g ≤ 30) (h : DI T g S L) (hday : (S.1 1).toInt / 30 = if (S.1 1).toInt % 30 = 0 then g + 1 else g) (hd : 0 ≤ (S.1 1).toInt ∧ (S.1 1).toInt ≤ 900) (hI' : Inv (m_tail S)) : TI T (m_tail S) (z_dtail L) := by
  obtain ⟨hI, hF, hS, hq, hA, hL, hX⟩ := h
  have g0 := hS.2.2.1.1
  have g2 := hS.2.2.1.2.2.1
  have hb := bdx_b hT hg hL hX
  have mv0 := mvc_0 S
  have e30 : (S.1 1 / 30).toInt = (S.1 1).toInt / 30 := i_div hd.1 (by decide)
  have em : (S.1 1 / 30 * 30).toInt = (S.1 1).toInt / 30 * 30 := by rw [i_mul (by rw [e30, show (30 : Int32).toInt = 30 by decide]; omega) (by rw [e30, show (30 : Int32).toInt = 30 by decide]; omega), e30]; rfl
  have er : (S.1 1 - S.1 1 / 30 * 30).toInt = (S.1 1).toInt % 30 := by rw [i_sub (by rw [em]; omega) (by rw [em]; omega), em]; omega
  have Tg : (T : Int) * (1000000 + 20000 * (g + 1)) = (T : Int) * (1000000 + 20000 * g) + (T : Int) * 20000 := by
    rw [← Int.mul_add]
    congr 1
    omega
  have T0 : 0 ≤ (T : Int) := by omega
  have hup : (S.1 12).toInt + mvc S ≤ (T : Int) * (1000000 + 20000 * (g + 1)) := by rw [Tg]; have := hX.2; omega
  have keep : m_tail S = S → z_dtail L = L → TI T (m_tail S) (z_dtail L) := by
    intro e1 e2
    rw [e1, e2]
    refine ⟨hI, hF, hS, hq, hA, hL, hX.1, ?_⟩
    rw [hday]
    split
    · exact hup
    · exact hX.2
  have z12 : zs S 12 (S.1 12 + 0) = S := zs_id (by grind)
  by_cases q : S.1 1 - S.1 1 / 30 * 30 = 0
  · have q' := q
    rw [← g0] at q'
    by_cases q2 : S.1 12 ≤ 0
    · refine keep (by unfold m_tail; rw [if_pos q, if_pos q2, z12]) (by unfold z_dtail; rw [if_pos q', if_pos (by rw [g2]; rw [le_i, ti0] at q2; rw [le_i, show (99 : Int32).toInt = 99 by decide]; omega)])
    · by_cases q3 : S.1 12 ≤ 99
      · refine keep (by unfold m_tail; rw [if_pos q, if_neg q2, tail_form ⟨hI, hF, hS, hq, hA, hL, hX⟩ q2 q3]; exact zs_self S 12) (by unfold z_dtail; rw [if_pos q', if_pos (by rw [g2]; exact q3)])
      · have e1 : m_tail S = zs S 12 (S.1 12 + S.1 12 / 100) := by unfold m_tail; rw [if_pos q, if_neg q2]
        have e2 : z_dtail L = bs L 4 2 (L.2 4 2 + L.2 4 2 / 100) := by unfold z_dtail; rw [if_pos q', if_neg (by rw [g2]; exact q3)]
        rw [e1] at hI' ⊢
        rw [e2]
        rw [le_i, ti0] at q2
        have ed : (S.1 12 / 100).toInt = (S.1 12).toInt / 100 := i_div (by omega) (by decide)
        have eo : (S.1 12 + S.1 12 / 100).toInt = (S.1 12).toInt + (S.1 12).toInt / 100 := by rw [i_add (by rw [ed]; omega) (by rw [ed]; omega), ed]
        have hr : (S.1 1).toInt % 30 = 0 := by rw [← er, q, ti0]
        refine ⟨hI', hF, sim_g2 hS (by rw [g2]), hq, hA, hL, ?_, ?_⟩
        · show ppc S - 100000000 ≤ (S.1 12 + S.1 12 / 100).toInt
          rw [eo]
          have := hX.1
          omega
        · show (S.1 12 + S.1 12 / 100).toInt + mvc S ≤ (T : Int) * (1000000 + 20000 * ((S.1 1).toInt / 30))
          rw [eo, hday, if_pos hr, Tg]
          have h2 := hX.2
          have h4 : (T : Int) * (1000000 + 20000 * g) ≤ (T : Int) * 2000000 := Int.mul_le_mul_of_nonneg_left (by omega) T0
          omega
  · have q' := q
    rw [← g0] at q'
    exact keep (by unfold m_tail; rw [if_neg q, z12]) (by unfold z_dtail; rw [if_neg q'])
theorem one_ok {T : Nat} {S L : Sg} (hT : T ≤ 120) (h : TI T S L) (hd : (S.1 1).toInt < 900) : TI T (m_passesOne S) (z_dawn L).2 ∧ (m_passesOne S).1 1 = S.1 1 + 1 ∧ (m_passesOne S).1 8 = S.1 8 ∧ (m_passesOne S).1 9 = S.1 9 := by
  obtain ⟨dy1, dy2⟩ := day_i h.1
  have hg : 0 ≤ (S.1 1).toInt / 30 ∧ (S.1 1).toInt / 30 ≤ 30 := by omega
  obtain ⟨-, o1, o2⟩ := one_eq h.1 hd
  obtain ⟨-, i1, i2, i3, i4⟩ := pre_eq h.1 hd
  have d1 := di_pre h hd
  have d2 := lat_all hT hg d1 (ix (S.1 22)) (by rw [i4]; exact Nat.le_refl _)
  have d3 := shr_all d2 5 (Nat.le_refl _)
  have e22 : ix (L.2 4 10) = ix (S.1 22) := congrArg ix h.2.2.1.2.2.1.2.2.2.2.2.2.2.2.2.2.1
  have e1 : m_passesOne S = m_tail (shr 5 (lat (ix (S.1 22)) (m_pre S))) := by unfold m_passesOne; rw [ix5 h.2.1]
  have eday : (shr 5 (lat (ix (S.1 22)) (m_pre S))).1 1 = S.1 1 + 1 := by
    rw [shr_z, lat_z (by decide), i2]
  have ed : (S.1 1 + 1).toInt = (S.1 1).toInt + 1 := by rw [i_add (by rw [ti1]; omega) (by rw [ti1]; omega), ti1]
  refine ⟨?_, o2, one_z (by decide) (by decide) (by decide) (by decide) (by decide) S, one_z (by decide) (by decide) (by decide) (by decide) (by decide) S⟩
  show TI T (m_passesOne S) (z_dtail (z_shr 5 (z_lat (ix (L.2 4 10)) (z_dpre L))))
  rw [e1] at o1 ⊢
  rw [e22]
  generalize shr 5 (lat (ix (S.1 22)) (m_pre S)) = Y at *
  generalize z_shr 5 (z_lat (ix (S.1 22)) (z_dpre L)) = Z at *
  refine di_tail hT hg d3 ?_ (by rw [eday, ed]; omega) o1
  rw [eday, ed]
  split <;> omega
/-- days that the law lets begin -/
def z_dw : Nat → Sg → Sg
  | 0, L => L
  | n + 1, L => (z_dawn (z_dw n L)).2
theorem z_dw_s (n : Nat) (L : Sg) : z_dw (n + 1) L = (z_dawn (z_dw n L)).2 := rfl
theorem pas_ok {T : Nat} {S L : Sg} (hT : T ≤ 120) (h : TI T S L) : ∀ n : Nat, (S.1 1).toInt + n ≤ 900 → TI T (pas n S) (z_dw n L) ∧ ((pas n S).1 1).toInt = (S.1 1).toInt + n ∧ (pas n S).1 8 = S.1 8 ∧ (pas n S).1 9 = S.1 9
  | 0, _ => ⟨h, by show (S.1 1).toInt = (S.1 1).toInt + ((0 : Nat) : Int); omega, rfl, rfl⟩
  | n + 1, hn => by
    obtain ⟨a, b, c, d⟩ := pas_ok hT h n (by omega)
    obtain ⟨x, y, z, w⟩ := one_ok hT a (by omega)
    obtain ⟨dy1, dy2⟩ := day_i h.1
    rw [pas_s, z_dw_s, y, z, w, c, d]
    refine ⟨x, ?_, rfl, rfl⟩
    rw [i_add (by rw [ti1]; omega) (by rw [ti1]; omega), ti1]
    omega
theorem p_pass {T : Nat} {σ L : Sg} (hT : T < 120) (h : TI T σ L) {n : Int32} (hn : 1 ≤ n.toInt ∧ n.toInt ≤ 60) (hd : L.2 4 0 + n ≤ 900) : (an (g_pass σ n) = (z_dw (ix n) L).2 4 2 ∧ TI (T + 1) (g_pass σ n).2.2 (z_dw (ix n) L) ∧ (g_pass σ n).2.2.1 8 = σ.1 8 ∧ (g_pass σ n).2.2.1 9 = σ.1 9) ∧ ∀ i, i ≤ ix n → TI T (pas i σ) (z_dw i L) := by
  have g0 := h.2.2.1.2.2.1.1
  obtain ⟨dy1, dy2⟩ := day_i h.1
  rw [g0] at hd
  have e := ix_i (x := n) (by omega)
  have hd2 := hd
  rw [le_i, i_add (by omega) (by omega), show (900 : Int32).toInt = 900 by decide] at hd2
  have hp := fun i (hi : i ≤ ix n) => (pas_ok (by omega) h i (by omega)).1
  obtain ⟨a, b, c, d⟩ := pas_ok (by omega) h (ix n) (by omega)
  refine ⟨?_, hp⟩
  have hm : m_pass σ n = (0, (pas (ix n) σ).1 12, pas (ix n) σ) := by
    rw [m_pass, if_neg (in_n (by rw [ti1]; omega) (by rw [show (60 : Int32).toInt = 60 by decide]; omega)), if_pos hd]
  obtain ⟨e1, e2⟩ := an_ok kc23_0 (r_pass h.1 n).1 hm
  rw [e2, a.2.2.1.2.2.1.2.2.1]
  exact ⟨e1, ti_up a, c, d⟩
