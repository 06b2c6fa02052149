/-! a dip -/
theorem clamp_b {x c m : Int32} (hc : 0 ≤ c.toInt) (hm : m = if 0 ≤ x then (if x ≤ c then x else c) else 0) : 0 ≤ m.toInt ∧ m.toInt ≤ c.toInt := by
  rw [hm]
  split
  · rename_i q
    rw [le_i, ti0] at q
    split
    · rename_i q2
      rw [le_i] at q2
      exact ⟨q, q2⟩
    · exact ⟨hc, Int.le_refl _⟩
  · rw [ti0]; exact ⟨Int.le_refl _, hc⟩
theorem cmp_n {g d : Int32} {n : Int64} {k : Int32} (hn : n.toInt = k.toInt) (hk : 0 < k.toInt) (hk2 : k.toInt ≤ 200) (hg : 0 ≤ g.toInt) (hd : 0 ≤ d.toInt) : (lg_cmp (n * g.toInt64) d.toInt64 ≤ 0) ↔ g ≤ d / k := by
  have h1 := i_hi g
  have h2 := i_hi d
  have p0 : 0 ≤ k.toInt * g.toInt := Int.mul_nonneg (by omega) hg
  have p1 : k.toInt * g.toInt ≤ 200 * 2147483648 := Int.mul_le_mul hk2 (by omega) hg (by omega)
  have e1 : (n * g.toInt64).toInt = k.toInt * g.toInt := by
    rw [Int64.toInt_mul, Int32.toInt_toInt64, hn]
    exact bm64 (by omega) (by omega)
  rw [lg_cmp_le, Int64.le_iff_toInt_le, e1, Int32.toInt_toInt64, le_i, i_div hd hk]
  rw [Int.le_ediv_iff_mul_le hk, Int.mul_comm]
theorem dip_m {T : Nat} {σ L : Sg} (h : TI T σ L) {k vol told : Int32} (hk : vp_in k 5) (hv : 0 ≤ vol.toInt ∧ vol.toInt ≤ (L.2 0 (ix k)).toInt) (ht : 0 ≤ told.toInt ∧ told.toInt ≤ 960) (c9 : ¬ σ.1 9 = 60) :
    m_dip σ k vol told = if σ.2 6 (ix k) - vol * told ≤ σ.2 6 (ix k) / 100 then (if σ.2 6 (ix k) - vol * told ≤ 0 then (0, σ.2 6 (ix k) - vol * told, bs (bs (bs (zs σ 9 (σ.1 9 + 1)) 10 0 (σ.2 10 0 - (σ.2 6 (ix k) - vol * told))) 5 (ix k) vol) 6 (ix k) (vol * told)) else (0, σ.2 6 (ix k) - vol * told, bs (bs (bs (zs σ 9 (σ.1 9 + 1)) 10 4 (σ.2 10 4 + (σ.2 6 (ix k) - vol * told))) 5 (ix k) vol) 6 (ix k) (vol * told))) else (0, σ.2 6 (ix k) - vol * told, bs (bs (m_misses (zs σ 9 (σ.1 9 + 1)) (σ.2 6 (ix k) - vol * told)).2 5 (ix k) vol) 6 (ix k) (vol * told)) := by
  obtain ⟨-, -, e0, -, -, -, ev⟩ := ti_v h hk
  rw [m_dip, if_neg (by rw [ev]; exact one_ne0), if_neg (in_n (by rw [ti0]; omega) (by rw [← e0]; omega)), if_neg (in_n (by rw [ti0]; omega) (by rw [show (960 : Int32).toInt = 960 by decide]; omega)), if_neg c9]
theorem p_dip_v {T : Nat} {σ L : Sg} (h : TI T σ L) {k vol told gone : Int32} (hk : vp_in k 5) (hv : 0 ≤ vol.toInt ∧ vol.toInt ≤ (L.2 0 (ix k)).toInt) (ht : 0 ≤ told.toInt ∧ told.toInt ≤ 960) (c9 : ¬ σ.1 9 = 60) (hgone : gone = L.2 2 (ix k) - vol * told) : an (g_dip σ k vol told) = gone ∧ True := by
  refine ⟨?_, trivial⟩
  have hm := dip_m h hk hv ht c9
  rw [hgone, (ti_v h hk).2.2.2.2.1]
  have h3 := (r_dip h.1 k vol told).1
  split at hm
  · split at hm
    · exact (an_ok kc123_0 h3 hm).1
    · exact (an_ok kc123_0 h3 hm).1
  · exact (an_ok kc123_0 h3 hm).1
theorem dip_b {T : Nat} {σ L : Sg} (h : TI T σ L) {k vol told : Int32} (hk : vp_in k 5) (hv : 0 ≤ vol.toInt ∧ vol.toInt ≤ (L.2 0 (ix k)).toInt) (ht : 0 ≤ told.toInt ∧ told.toInt ≤ 960) : 0 ≤ (σ.2 6 (ix k)).toInt ∧ (σ.2 6 (ix k)).toInt ≤ 9600000 ∧ (σ.2 6 (ix k) - vol * told).toInt ≤ (σ.2 6 (ix k)).toInt := by
  obtain ⟨hvi, -, e0, -⟩ := ti_v h hk
  obtain ⟨v1, v2, v3, v4, v5, -⟩ := hvi
  rw [e0] at hv
  have hp : 0 ≤ vol.toInt * told.toInt ∧ vol.toInt * told.toInt ≤ 9999 * 960 := ⟨Int.mul_nonneg hv.1 ht.1, Int.mul_le_mul (by omega) ht.2 ht.1 (by omega)⟩
  have e1 : (vol * told).toInt = vol.toInt * told.toInt := i_mul (by omega) (by omega)
  have e2 : (σ.2 6 (ix k) - vol * told).toInt = (σ.2 6 (ix k)).toInt - vol.toInt * told.toInt := by rw [i_sub (by rw [e1]; omega) (by rw [e1]; omega), e1]
  omega
theorem p_dip_lt {T : Nat} {σ L : Sg} (h : TI T σ L) {k vol told gone : Int32} (hk : vp_in k 5) (hv : 0 ≤ vol.toInt ∧ vol.toInt ≤ (L.2 0 (ix k)).toInt) (ht : 0 ≤ told.toInt ∧ told.toInt ≤ 960) (c9 : ¬ σ.1 9 = 60) (hgone : gone = L.2 2 (ix k) - vol * told) (c : ¬ 0 ≤ gone) : an (g_dip σ k vol told) = gone ∧ TI (T + 1) (g_dip σ k vol told).2.2 (bs (bs (bs L 4 11 (L.2 4 11 - gone)) 1 (ix k) vol) 2 (ix k) (vol * told)) ∧ (g_dip σ k vol told).2.2.1 8 = σ.1 8 ∧ (g_dip σ k vol told).2.2.1 9 = σ.1 9 + 1 := by
  obtain ⟨b1, b2, b3⟩ := dip_b h hk hv ht
  have hm := dip_m h hk hv ht c9
  rw [(ti_v h hk).2.2.2.2.1] at hgone
  rw [← hgone] at hm b3
  rw [le_i, ti0] at c
  have e100 : (σ.2 6 (ix k) / 100).toInt = (σ.2 6 (ix k)).toInt / 100 := i_div b1 (by decide)
  rw [if_pos (by rw [le_i, e100]; omega), if_pos (by rw [le_i, ti0]; omega)] at hm
  obtain ⟨hI, hF, hS, hq, hB⟩ := h
  refine fin_yes kc123_0 (r_dip hI k vol told) hm hF ?_ ?_ (bd_same hI hB rfl hB.1 rfl rfl rfl (Int.le_refl _) rfl) rfl rfl
  · exact sim_v (sim_g11 (sim_z9 hS _) (by rw [hS.2.2.1.2.2.2.2.2.2.2.2.2.2.2.1])) _ rfl rfl
  · rw [cq_v (S := bs (zs σ 9 (σ.1 9 + 1)) 10 0 (σ.2 10 0 - gone)) hF hk, cq_b0]
    show cq σ + σ.2 10 0 - (σ.2 10 0 - gone) - σ.2 6 (ix k) + vol * told = 0
    rw [hgone, hq]
    grind
theorem p_dip_le {T : Nat} {σ L : Sg} (h : TI T σ L) {k vol told gone : Int32} (hk : vp_in k 5) (hv : 0 ≤ vol.toInt ∧ vol.toInt ≤ (L.2 0 (ix k)).toInt) (ht : 0 ≤ told.toInt ∧ told.toInt ≤ 960) (c9 : ¬ σ.1 9 = 60) (hgone : gone = L.2 2 (ix k) - vol * told) (c : 0 ≤ gone) (c2 : lg_cmp (100 * gone.toInt64) ((L.2 2 (ix k)).toInt64) ≤ 0) : an (g_dip σ k vol told) = gone ∧ TI (T + 1) (g_dip σ k vol told).2.2 (bs (bs (bs L 4 12 (L.2 4 12 + gone)) 1 (ix k) vol) 2 (ix k) (vol * told)) ∧ (g_dip σ k vol told).2.2.1 8 = σ.1 8 ∧ (g_dip σ k vol told).2.2.1 9 = σ.1 9 + 1 := by
  obtain ⟨b1, b2, b3⟩ := dip_b h hk hv ht
  have hm := dip_m h hk hv ht c9
  rw [(ti_v h hk).2.2.2.2.1] at hgone c2
  rw [← hgone] at hm b3
  have c1 := c
  rw [le_i, ti0] at c
  rw [cmp_n (k := 100) (by decide) (by decide) (by decide) c b1] at c2
  rw [if_pos c2] at hm
  obtain ⟨hI, hF, hS, hq, hB⟩ := h
  have g12 := hS.2.2.1.2.2.2.2.2.2.2.2.2.2.2.2.1
  by_cases z : gone ≤ 0
  · rw [if_pos z] at hm
    rw [le_i, ti0] at z
    have z0 : gone = 0 := i_eq (by rw [ti0]; omega)
    refine fin_yes kc123_0 (r_dip hI k vol told) hm hF ?_ ?_ (bd_same hI hB rfl hB.1 rfl rfl rfl (Int.le_refl _) rfl) rfl rfl
    · refine sim_v ?_ _ rfl rfl
      rw [z0, show σ.2 10 0 - 0 = (zs σ 9 (σ.1 9 + 1)).2 10 0 from (by show σ.2 10 0 - 0 = σ.2 10 0; grind), bs_self, show L.2 4 12 + 0 = L.2 4 12 by grind, bs_self]
      exact sim_z9 hS _
    · rw [cq_v (S := bs (zs σ 9 (σ.1 9 + 1)) 10 0 (σ.2 10 0 - gone)) hF hk, cq_b0]
      show cq σ + σ.2 10 0 - (σ.2 10 0 - gone) - σ.2 6 (ix k) + vol * told = 0
      rw [hgone, hq]
      grind
  · rw [if_neg z] at hm
    refine fin_yes kc123_0 (r_dip hI k vol told) hm hF ?_ ?_ (bd_same hI hB rfl hB.1 rfl rfl rfl (Int.le_refl _) rfl) rfl rfl
    · exact sim_v (sim_g12 (sim_z9 hS _) (by rw [g12])) _ rfl rfl
    · rw [cq_v (S := bs (zs σ 9 (σ.1 9 + 1)) 10 4 (σ.2 10 4 + gone)) hF hk, cq_b4]
      show cq σ - σ.2 10 4 + (σ.2 10 4 + gone) - σ.2 6 (ix k) + vol * told = 0
      rw [hgone, hq]
      grind
theorem p_dip_gt {T : Nat} {σ L : Sg} (hT : T < 120) (h : TI T σ L) {k vol told gone : Int32} (hk : vp_in k 5) (hv : 0 ≤ vol.toInt ∧ vol.toInt ≤ (L.2 0 (ix k)).toInt) (ht : 0 ≤ told.toInt ∧ told.toInt ≤ 960) (c9 : ¬ σ.1 9 = 60) (hgone : gone = L.2 2 (ix k) - vol * told) (c : 0 ≤ gone) (c2 : ¬ lg_cmp (100 * gone.toInt64) ((L.2 2 (ix k)).toInt64) ≤ 0) : an (g_dip σ k vol told) = gone ∧ TI (T + 1) (g_dip σ k vol told).2.2 (bs (bs (z_misses L gone).2 1 (ix k) vol) 2 (ix k) (vol * told)) ∧ (g_dip σ k vol told).2.2.1 8 = σ.1 8 ∧ (g_dip σ k vol told).2.2.1 9 = σ.1 9 + 1 := by
  obtain ⟨b1, b2, b3⟩ := dip_b h hk hv ht
  have hm := dip_m h hk hv ht c9
  rw [(ti_v h hk).2.2.2.2.1] at hgone c2
  rw [← hgone] at hm b3
  rw [le_i, ti0] at c
  rw [cmp_n (k := 100) (by decide) (by decide) (by decide) c b1] at c2
  rw [if_neg c2] at hm
  obtain ⟨hI, hF, hS, hq, hB⟩ := h
  obtain ⟨d0, -, d2⟩ := duty_b (q := gone) (r := σ.1 11) c (by omega) hB.1.2.1.1 hB.1.2.1.2
  refine fin_yes kc123_0 (r_dip hI k vol told) hm hF ?_ ?_ (bd_owed (by omega) hI hB d0 (by omega) rfl hB.1 rfl rfl rfl (Int.le_refl _) rfl) rfl rfl
  · exact sim_v (sim_miss (sim_z9 hS _) gone).2 _ rfl rfl
  · rw [cq_v (S := (m_misses (zs σ 9 (σ.1 9 + 1)) gone).2) hF hk, cq_misses]
    show cq σ + gone - σ.2 6 (ix k) + vol * told = 0
    rw [hgone, hq]
    grind
/-! what is asked of a part -/
theorem asks_yes {T : Nat} {σ L : Sg} (h : TI T σ L) {k so : Int32} (hk : vp_in k 5) (hso : 1 ≤ so.toInt) (hle : so.toInt ≤ (σ.2 5 (ix k)).toInt) : m_asksPart σ k so = (0, 1) := by
  have hp : m_hasPart σ k so = 1 := by rw [m_hasPart, if_neg (by rw [lt_i]; omega)]
  rw [m_asksPart, if_neg (by rw [(ti_v h hk).2.2.2.2.2.2]; exact one_ne0), if_pos (by rw [le_i, ti1]; exact hso), if_neg (by rw [hp]; exact one_ne0)]
theorem asks_no {T : Nat} {σ L : Sg} (h : TI T σ L) {k so : Int32} (hk : vp_in k 5) (hso : 1 ≤ so.toInt) (hlt : L.2 1 (ix k) < so) : m_asksPart σ k so = (3, 0) := by
  rw [(ti_v h hk).2.2.2.1] at hlt
  rw [m_asksPart, if_neg (by rw [(ti_v h hk).2.2.2.2.2.2]; exact one_ne0), if_pos (by rw [le_i, ti1]; exact hso), m_hasPart, if_pos hlt, if_pos rfl]
/-- what is drawn: its bounds -/
theorem draw_b {T : Nat} {σ L : Sg} (h : TI T σ L) {k so : Int32} (hk : vp_in k 5) (hso : 1 ≤ so.toInt) (hle : so.toInt ≤ (σ.2 5 (ix k)).toInt) : 0 ≤ (m_takes σ k so).1.toInt ∧ (m_takes σ k so).1.toInt ≤ 9600000 ∧ (m_takes σ k so).1.toInt ≤ 960 * so.toInt ∧ so.toInt ≤ 9999 := by
  obtain ⟨v, i, -⟩ := ti_v h hk
  obtain ⟨-, -, -, t4, t5⟩ := take_ok h.1 (x := k) i hso hle
  have h2 := v.2.1
  have h3 := v.2.2.1
  have t4' : 0 ≤ (m_takes σ k so).1.toInt := t4
  have t5' : (m_takes σ k so).1.toInt ≤ 960 * so.toInt := t5
  omega
/-! what is lost -/
theorem p_lose_no {T : Nat} {σ L : Sg} (h : TI T σ L) {k so seen hv : Int32} (hk : vp_in k 5) (hso : 1 ≤ so.toInt ∧ so.toInt ≤ 10002) (hhv : hv = if L.2 1 (ix k) < so then 0 else 1) (c : hv = 0) : an (g_lose σ k so seen) = -2000000003 ∧ (g_lose σ k so seen).2.2 = σ := by
  refine an_123 (r_lose h.1 k so seen).1 (v := 0) ?_
  rw [m_lose, asks_no h hk hso.1 (hv_no (σ := σ) hhv c), if_pos rfl]
theorem p_lose_0 {T : Nat} {σ L : Sg} (hT : T < 120) (h : TI T σ L) {k so seen broke x : Int32} (hk : vp_in k 5) (hso : 1 ≤ so.toInt ∧ so.toInt ≤ 10002) (hle : so.toInt ≤ (σ.2 5 (ix k)).toInt) (hbr : broke = (z_draws L k so).1) (hx : x = if seen = 0 then 0 else broke) (c : seen = 0) : an (g_lose σ k so seen) = (z_misses (bs (z_draws L k so).2 4 12 (L.2 4 12 + x)) broke).1 ∧ TI (T + 1) (g_lose σ k so seen).2.2 (z_misses (bs (z_draws L k so).2 4 12 (L.2 4 12 + x)) broke).2 ∧ (g_lose σ k so seen).2.2.1 8 = σ.1 8 ∧ (g_lose σ k so seen).2.2.1 9 = σ.1 9 := by
  have ha := asks_yes h hk hso.1 hle
  obtain ⟨b1, b2, -⟩ := draw_b h hk hso.1 hle
  obtain ⟨hI, hF, hS, hq, hB⟩ := h
  obtain ⟨d1, d2⟩ := sim_draw hS hk so
  have g12 := hS.2.2.1.2.2.2.2.2.2.2.2.2.2.2.2.1
  rw [if_pos c] at hx
  rw [hx, hbr, d1]
  obtain ⟨s1, s2⟩ := sim_miss (sim_g12 d2 (v := σ.2 10 4 + 0) (w := L.2 4 12 + 0) (by rw [g12])) (m_takes σ k so).1
  have hm : m_lose σ k so seen = (0, (m_misses (bs (m_takes σ k so).2 10 4 (σ.2 10 4 + 0)) (m_takes σ k so).1).1, (m_misses (bs (m_takes σ k so).2 10 4 (σ.2 10 4 + 0)) (m_takes σ k so).1).2) := by
    rw [m_lose, ha, if_neg one_ne0, if_pos c]
  rw [← s1] at hm
  obtain ⟨e0, -, e2⟩ := duty_b (q := (m_takes σ k so).1) (r := σ.1 11) b1 (by omega) hB.1.2.1.1 hB.1.2.1.2
  refine fin_yes kc123_0 (r_lose hI k so seen) hm hF s2 ?_ (bd_owed (by omega) hI hB e0 (by omega) rfl hB.1 rfl rfl rfl (Int.le_refl _) rfl) rfl rfl
  rw [cq_misses, cq_b4, cq_takes hF hk, hq]
  show 0 - (m_takes σ k so).1 - σ.2 10 4 + (σ.2 10 4 + 0) + (m_takes σ k so).1 = 0
  grind
theorem p_lose_1 {T : Nat} {σ L : Sg} (h : TI T σ L) {k so seen broke x : Int32} (hk : vp_in k 5) (hso : 1 ≤ so.toInt ∧ so.toInt ≤ 10002) (hle : so.toInt ≤ (σ.2 5 (ix k)).toInt) (hbr : broke = (z_draws L k so).1) (hx : x = if seen = 0 then 0 else broke) (c : ¬ seen = 0) : an (g_lose σ k so seen) = 0 ∧ TI (T + 1) (g_lose σ k so seen).2.2 (bs (z_draws L k so).2 4 12 (L.2 4 12 + x)) ∧ (g_lose σ k so seen).2.2.1 8 = σ.1 8 ∧ (g_lose σ k so seen).2.2.1 9 = σ.1 9 := by
  have ha := asks_yes h hk hso.1 hle
  obtain ⟨hI, hF, hS, hq, hB⟩ := h
  obtain ⟨d1, d2⟩ := sim_draw hS hk so
  have g12 := hS.2.2.1.2.2.2.2.2.2.2.2.2.2.2.2.1
  rw [if_neg c] at hx
  rw [hx, hbr, d1]
  have hm : m_lose σ k so seen = (0, 0, bs (m_takes σ k so).2 10 4 (σ.2 10 4 + (m_takes σ k so).1)) := by
    rw [m_lose, ha, if_neg one_ne0, if_neg c]
  refine fin_yes kc123_0 (r_lose hI k so seen) hm hF (sim_g12 d2 (by rw [g12])) ?_ (bd_same hI hB rfl hB.1 rfl rfl rfl (Int.le_refl _) rfl) rfl rfl
  rw [cq_b4, cq_takes hF hk, hq]
  show 0 - (m_takes σ k so).1 - σ.2 10 4 + (σ.2 10 4 + (m_takes σ k so).1) = 0
  grind
/-! permits -/
theorem p_permit {T : Nat} {σ L : Sg} (h : TI T σ L) {x : Int32} (hx : 0 ≤ x.toInt ∧ x.toInt < 3000000) : an (g_permit σ x) = L.2 4 7 ∧ TI (T + 1) (g_permit σ x).2.2 (bs L 4 7 x) ∧ (g_permit σ x).2.2.1 8 = σ.1 8 ∧ (g_permit σ x).2.2.1 9 = σ.1 9 := by
  obtain ⟨hI, hF, hS, hq, hB⟩ := h
  have hm : m_permit σ x = (0, σ.1 17, zs σ 17 x) := by
    rw [m_permit, if_neg (in_n (by rw [ti0]; omega) (by rw [show (9999999 : Int32).toInt = 9999999 by decide]; omega))]
  rw [← hS.2.2.1.2.2.2.2.2.2.2.1] at hm
  exact fin_yes kc1_0 (r_permit hI x) hm hF (sim_g7 hS rfl) hq (bd_same hI hB rfl hB.1 rfl rfl rfl (Int.le_refl _) rfl) rfl rfl
def dnT (L : Sg) (hv x : Int32) : Int32 := if hv = 0 then 0 else (if L.2 4 7 < x then 0 else 1)
theorem p_den_no {T : Nat} {σ L : Sg} (h : TI T σ L) {k so hv x my : Int32} (hk : vp_in k 5) (hso : 1 ≤ so.toInt ∧ so.toInt ≤ 10002) (hhv : hv = if L.2 1 (ix k) < so then 0 else 1) (hx : x = if hv = 0 then 0 else m_part (L.2 2 (ix k)) so (L.2 1 (ix k))) (hmy : my = dnT L hv x) (c : my = 0) : an (g_denature σ k so) = -2000000003 ∧ (g_denature σ k so).2.2 = σ := by
  refine an_123 (r_denature h.1 k so).1 (v := 0) ?_
  by_cases q : hv = 0
  · rw [m_denature, asks_no h hk hso.1 (hv_no (σ := σ) hhv q), if_pos rfl]
  · obtain ⟨hle, -⟩ := hv_has h hk hso hhv q
    rw [c, dnT, if_neg q] at hmy
    rw [if_neg q, (ti_v h hk).2.2.2.1, (ti_v h hk).2.2.2.2.1] at hx
    rw [m_denature, asks_yes h hk hso.1 hle, if_neg one_ne0]
    by_cases q2 : L.2 4 7 < x
    · rw [h.2.2.1.2.2.1.2.2.2.2.2.2.2.1, hx] at q2
      rw [if_neg (Int32.not_le.mpr q2)]
    · rw [if_neg q2] at hmy
      exact absurd hmy (by decide)
theorem dn_yes {L : Sg} {hv x my : Int32} (hmy : my = dnT L hv x) (c : ¬ my = 0) : ¬ hv = 0 ∧ x ≤ L.2 4 7 := by
  rw [hmy, dnT] at c
  by_cases q : hv = 0
  · rw [if_pos q] at c; exact absurd rfl c
  · rw [if_neg q] at c
    by_cases q2 : L.2 4 7 < x
    · rw [if_pos q2] at c; exact absurd rfl c
    · exact ⟨q, Int32.not_lt.mp q2⟩
theorem p_den_yes {T : Nat} {σ L : Sg} (h : TI T σ L) {k so hv x my : Int32} (hk : vp_in k 5) (hso : 1 ≤ so.toInt ∧ so.toInt ≤ 10002) (hhv : hv = if L.2 1 (ix k) < so then 0 else 1) (hx : x = if hv = 0 then 0 else m_part (L.2 2 (ix k)) so (L.2 1 (ix k))) (hmy : my = dnT L hv x) (c : ¬ my = 0) : an (g_denature σ k so) = x ∧ TI (T + 1) (g_denature σ k so).2.2 (bs (bs (z_draws L k so).2 4 7 (L.2 4 7 - x)) 4 12 (L.2 4 12 + x)) ∧ (g_denature σ k so).2.2.1 8 = σ.1 8 ∧ (g_denature σ k so).2.2.1 9 = σ.1 9 := by
  obtain ⟨q, q2⟩ := dn_yes hmy c
  obtain ⟨hle, -⟩ := hv_has h hk hso hhv q
  have ha := asks_yes h hk hso.1 hle
  rw [if_neg q, (ti_v h hk).2.2.2.1, (ti_v h hk).2.2.2.2.1] at hx
  obtain ⟨hI, hF, hS, hq, hB⟩ := h
  obtain ⟨d1, d2⟩ := sim_draw hS hk so
  have g7 := hS.2.2.1.2.2.2.2.2.2.2.1
  have g12 := hS.2.2.1.2.2.2.2.2.2.2.2.2.2.2.2.1
  have hm : m_denature σ k so = (0, x, bs (zs (m_takes σ k so).2 17 (σ.1 17 - x)) 10 4 (σ.2 10 4 + x)) := by
    rw [m_denature, ha, if_neg one_ne0, ← hx, if_pos (by rw [← g7]; exact q2)]
  refine fin_yes kc123_0 (r_denature hI k so) hm hF (sim_g12 (sim_g7 d2 (by rw [g7])) (by rw [g12])) ?_ (bd_same hI hB rfl hB.1 rfl rfl rfl (Int.le_refl _) rfl) rfl rfl
  rw [cq_b4]
  show cq (m_takes σ k so).2 - σ.2 10 4 + (σ.2 10 4 + x) = 0
  rw [cq_takes hF hk, hq, show (m_takes σ k so).1 = x from hx.symm]
  grind
/-! paying -/
theorem pay_b {T : Nat} {σ L : Sg} (hT : T < 120) (h : TI T σ L) {u n m0 mo : Int32} (hn : n = if L.2 4 2 ≤ 0 then 5 else (L.2 4 2 + 1)) (hm0 : m0 = 1 + z_low u n) (hmo : mo = if m0 ≤ 999999 then m0 else 999999) : 1 ≤ mo.toInt ∧ mo.toInt ≤ 999999 := by
  have hb := bd_b (by omega) h.1 h.2.2.2.2.2.1 h.2.2.2.2.2.2
  have g2 := h.2.2.1.2.2.1.2.2.1
  have hnb : 0 < n.toInt ∧ n.toInt ≤ 192000001 := by
    rw [hn, g2]
    split
    · decide
    · rename_i q
      rw [le_i, ti0] at q
      rw [i_add (by rw [ti1]; omega) (by rw [ti1]; omega), ti1]
      omega
  obtain ⟨l0, l1⟩ := z_low_i u hnb.1
  have e0 : m0.toInt = 1 + (z_low u n).toInt := by rw [hm0, i_add (by rw [ti1]; omega) (by rw [ti1]; omega), ti1]
  have e9 : (999999 : Int32).toInt = 999999 := by decide
  rw [hmo]
  split
  · rename_i q
    rw [le_i, e9] at q
    omega
  · rw [e9]; omega
theorem pay_n {σ L : Sg} {T : Nat} (hT : T < 120) (h : TI T σ L) {n : Int32} (hn : n = if L.2 4 2 ≤ 0 then 5 else (L.2 4 2 + 1)) : ¬ n = 0 := by
  have hb := bd_b (by omega) h.1 h.2.2.2.2.2.1 h.2.2.2.2.2.2
  have g2 := h.2.2.1.2.2.1.2.2.1
  intro z
  rw [z, g2] at hn
  split at hn
  · exact absurd hn (by decide)
  · rename_i q
    rw [le_i, ti0] at q
    have e := congrArg Int32.toInt hn
    rw [i_add (by rw [ti1]; omega) (by rw [ti1]; omega), ti1, ti0] at e
    omega
theorem p_pay_no {T : Nat} {σ L : Sg} (h : TI T σ L) {mo ow x : Int32} (hb : 1 ≤ mo.toInt ∧ mo.toInt ≤ 999999) (how : ow = if L.2 4 2 < mo then 0 else 1) (hx : x = if ow = 0 then 0 else mo) (c : ow = 0) : an (g_pay σ mo) = -2000000003 ∧ TI (T + 1) (g_pay σ mo).2.2 (bs L 4 2 (L.2 4 2 - x)) ∧ (g_pay σ mo).2.2.1 8 = σ.1 8 ∧ (g_pay σ mo).2.2.1 9 = σ.1 9 := by
  have g2 := h.2.2.1.2.2.1.2.2.1
  have hlt : ¬ mo ≤ σ.1 12 := by
    rw [c, g2] at how
    split at how
    · exact Int32.not_le.mpr (by assumption)
    · exact absurd how (by decide)
  have hm : m_pay σ mo = (2, 0, σ) := by
    rw [m_pay, if_neg (in_n (by rw [ti1]; omega) (by rw [show (999999 : Int32).toInt = 999999 by decide]; omega)), if_neg hlt]
  obtain ⟨e1, e2⟩ := an_23 (r_pay h.1 mo).1 (fun q => (xk_pay σ mo q).2) hm
  rw [if_pos c] at hx
  rw [e2, hx, show L.2 4 2 - 0 = L.2 4 2 by grind, bs_self]
  exact ⟨e1, ti_up h, rfl, rfl⟩
theorem p_pay_yes {T : Nat} {σ L : Sg} (h : TI T σ L) {mo ow x : Int32} (hb : 1 ≤ mo.toInt ∧ mo.toInt ≤ 999999) (how : ow = if L.2 4 2 < mo then 0 else 1) (hx : x = if ow = 0 then 0 else mo) (c : ¬ ow = 0) : an (g_pay σ mo) = L.2 4 2 - x ∧ TI (T + 1) (g_pay σ mo).2.2 (bs L 4 2 (L.2 4 2 - x)) ∧ (g_pay σ mo).2.2.1 8 = σ.1 8 ∧ (g_pay σ mo).2.2.1 9 = σ.1 9 := by
  have g2 := h.2.2.1.2.2.1.2.2.1
  have hle : mo ≤ σ.1 12 := by
    rw [← g2]
    exact Int32.not_lt.mp (fun q => c (by rw [how, if_pos q]))
  have hm : m_pay σ mo = (0, σ.1 12 - mo, zs σ 12 (σ.1 12 - mo)) := by
    rw [m_pay, if_neg (in_n (by rw [ti1]; omega) (by rw [show (999999 : Int32).toInt = 999999 by decide]; omega)), if_pos hle]
  rw [if_neg c] at hx
  rw [hx, g2]
  obtain ⟨hI, hF, hS, hq, hB⟩ := h
  rw [le_i] at hle
  have hh := i_hi (σ.1 12)
  have e : (σ.1 12 - mo).toInt = (σ.1 12).toInt - mo.toInt := i_sub (by omega) (by omega)
  refine fin_yes kc23_0 (r_pay hI mo) hm hF (sim_g2 hS rfl) hq ⟨hB.1, hB.2.1, bd_up hI hB.2.2 rfl ?_ ?_⟩ rfl rfl
  · show ppc σ - 100000000 ≤ (σ.1 12 - mo).toInt
    have := ppc_b hF hB.2.1
    omega
  · show (σ.1 12 - mo).toInt + mvc σ ≤ _
    omega
/-! budgets -/
theorem p_bud {T : Nat} {σ L : Sg} (h : TI T σ L) {day rate quo u : Int32} (hd : day = L.2 4 0 + 1 + z_low u 9) (c8 : L.2 4 0 ≤ 890) (hr : 0 ≤ rate.toInt ∧ rate.toInt < 100) (hq : 0 ≤ quo.toInt ∧ quo.toInt ≤ 9999999) : m_budget σ day rate quo = if σ.1 13 = (-1) then (0, 0, zs (zs (zs σ 13 day) 14 rate) 15 quo) else (2, 0, σ) := by
  have g0 := h.2.2.1.2.2.1.1
  obtain ⟨d1, d2⟩ := day_i h.1
  rw [g0] at hd c8
  rw [le_i, show (890 : Int32).toInt = 890 by decide] at c8
  obtain ⟨l0, l1⟩ := z_low_i u (n := 9) (by decide)
  rw [show (9 : Int32).toInt = 9 by decide] at l1
  have e1 : (σ.1 1 + 1).toInt = (σ.1 1).toInt + 1 := by rw [i_add (by rw [ti1]; omega) (by rw [ti1]; omega), ti1]
  have e2 : day.toInt = (σ.1 1).toInt + 1 + (z_low u 9).toInt := by rw [hd, i_add (by rw [e1]; omega) (by rw [e1]; omega), e1]
  rw [m_budget, if_neg (in_n (by rw [e1]; omega) (by rw [show (900 : Int32).toInt = 900 by decide]; omega)), if_neg (in_n (by rw [ti0]; omega) (by rw [show (99 : Int32).toInt = 99 by decide]; omega)), if_neg (in_n (by rw [ti0]; omega) (by rw [show (9999999 : Int32).toInt = 9999999 by decide]; omega))]
theorem p_bud_no {T : Nat} {σ L : Sg} (h : TI T σ L) {day rate quo u : Int32} (hd : day = L.2 4 0 + 1 + z_low u 9) (c8 : L.2 4 0 ≤ 890) (hr : 0 ≤ rate.toInt ∧ rate.toInt < 100) (hq : 0 ≤ quo.toInt ∧ quo.toInt ≤ 9999999) (c : ¬ L.2 4 3 = (-1)) : an (g_budget σ day rate quo) = -2000000003 ∧ (g_budget σ day rate quo).2.2 = σ := by
  have hm := p_bud h hd c8 hr hq
  rw [h.2.2.1.2.2.1.2.2.2.1] at c
  rw [if_neg c] at hm
  exact an_23 (r_budget h.1 day rate quo).1 (fun q => (xk_budget σ day rate quo q).2) hm
theorem p_bud_yes {T : Nat} {σ L : Sg} (h : TI T σ L) {day rate quo u : Int32} (hd : day = L.2 4 0 + 1 + z_low u 9) (c8 : L.2 4 0 ≤ 890) (hr : 0 ≤ rate.toInt ∧ rate.toInt < 100) (hq : 0 ≤ quo.toInt ∧ quo.toInt ≤ 9999999) (c : L.2 4 3 = (-1)) : an (g_budget σ day rate quo) = 0 ∧ TI (T + 1) (g_budget σ day rate quo).2.2 (bs (bs (bs L 4 3 day) 4 4 rate) 4 5 quo) ∧ (g_budget σ day rate quo).2.2.1 8 = σ.1 8 ∧ (g_budget σ day rate quo).2.2.1 9 = σ.1 9 := by
  have hm := p_bud h hd c8 hr hq
  rw [h.2.2.1.2.2.1.2.2.2.1] at c
  rw [if_pos c] at hm
  obtain ⟨hI, hF, hS, hq0, hB⟩ := h
  exact fin_yes kc23_0 (r_budget hI day rate quo) hm hF (sim_g5 (sim_g4 (sim_g3 hS rfl) rfl) rfl) hq0 (bd_same hI hB rfl ⟨hB.1.1, hB.1.2.1, ⟨hr.1, by show rate.toInt ≤ 99; omega⟩, hB.1.2.2.2⟩ rfl rfl rfl (Int.le_refl _) rfl) rfl rfl
/-! the guarantee -/
theorem p_gua {T : Nat} {σ L : Sg} (h : TI T σ L) {bail : Int32} (hb : 0 ≤ bail.toInt ∧ bail.toInt ≤ 9999999) : m_guarantee σ bail = if m_part (z_moving L).1 (L.2 4 1) 1000 ≤ bail then (0, σ.1 21, zs σ 21 bail) else (2, 0, σ) := by
  rw [m_guarantee, if_neg (in_n (by rw [ti0]; omega) (by rw [show (9999999 : Int32).toInt = 9999999 by decide]; omega)), sim_mov h.2.2.1.2.2.1 h.2.2.1.2.2.2.2, h.2.2.1.2.2.1.2.1]
  rfl
theorem p_gua_no {T : Nat} {σ L : Sg} (h : TI T σ L) {bail be x : Int32} (hb : 0 ≤ bail.toInt ∧ bail.toInt ≤ 9999999) (hbe : be = if bail < m_part (z_moving L).1 (L.2 4 1) 1000 then 0 else 1) (c : be = 0) (hx : x = L.2 4 8) : an (g_guarantee σ bail) = -2000000003 ∧ TI (T + 1) (g_guarantee σ bail).2.2 (bs L 4 8 x) ∧ (g_guarantee σ bail).2.2.1 8 = σ.1 8 ∧ (g_guarantee σ bail).2.2.1 9 = σ.1 9 := by
  have hm := p_gua h hb
  have hlt : bail < m_part (z_moving L).1 (L.2 4 1) 1000 := by
    rw [c] at hbe
    split at hbe
    · assumption
    · exact absurd hbe (by decide)
  rw [if_neg (Int32.not_le.mpr hlt)] at hm
  obtain ⟨e1, e2⟩ := an_23 (r_guarantee h.1 bail).1 (fun q => (xk_guarantee σ bail q).2) hm
  rw [e2, hx, bs_self]
  exact ⟨e1, ti_up h, rfl, rfl⟩
theorem p_gua_yes {T : Nat} {σ L : Sg} (h : TI T σ L) {bail be x : Int32} (hb : 0 ≤ bail.toInt ∧ bail.toInt ≤ 9999999) (hbe : be = if bail < m_part (z_moving L).1 (L.2 4 1) 1000 then 0 else 1) (c : ¬ be = 0) (hx : x = bail) : an (g_guarantee σ bail) = L.2 4 8 ∧ TI (T + 1) (g_guarantee σ bail).2.2 (bs L 4 8 x) ∧ (g_guarantee σ bail).2.2.1 8 = σ.1 8 ∧ (g_guarantee σ bail).2.2.1 9 = σ.1 9 := by
  have hm := p_gua h hb
  have hle : m_part (z_moving L).1 (L.2 4 1) 1000 ≤ bail := Int32.not_lt.mp (fun q => c (by rw [hbe, if_pos q]))
  rw [if_pos hle] at hm
  obtain ⟨hI, hF, hS, hq, hB⟩ := h
  rw [← hS.2.2.1.2.2.2.2.2.2.2.2.1] at hm
  rw [hx]
  exact fin_yes kc23_0 (r_guarantee hI bail) hm hF (sim_g8 hS rfl) hq (bd_same hI hB rfl hB.1 rfl rfl rfl (Int.le_refl _) rfl) rfl rfl
/-! shares -/
theorem p_shares {T : Nat} {σ L : Sg} (h : TI T σ L) {pl x : Int32} (hp : vp_in pl 3) (hx : 0 ≤ x.toInt ∧ x.toInt < 501) : an (g_shares σ pl x) = L.2 3 (ix pl) ∧ TI (T + 1) (g_shares σ pl x).2.2 (bs L 3 (ix pl) x) ∧ (g_shares σ pl x).2.2.1 8 = σ.1 8 ∧ (g_shares σ pl x).2.2.1 9 = σ.1 9 := by
  obtain ⟨hI, hF, hS, hq, hB⟩ := h
  have h0 : ¬ pl < 0 := fun q => hp (Or.inl q)
  have h3 : ix pl < 3 := Nat.not_le.mp (fun q => hp (Or.inr q))
  rw [lt_i, ti0] at h0
  have e : (ix pl : Int) = pl.toInt := ix_i (by omega)
  have hm : m_shares σ pl x = (0, σ.2 7 (ix pl), bs σ 7 (ix pl) x) := by
    rw [m_shares, m_isPlace, if_neg (in_n (by rw [ti0]; omega) (by rw [show (3 : Int32).toInt = 3 by decide]; omega)), if_neg (in_n (by rw [ti0]; omega) (by rw [show (500 : Int32).toInt = 500 by decide]; omega))]
  rw [← hS.2.1 _ h3] at hm
  exact fin_yes kc12_0 (r_shares hI pl x) hm hF (sim_a hS _ _) hq (bd_same hI hB rfl hB.1 rfl rfl rfl (Int.le_refl _) rfl) rfl rfl
