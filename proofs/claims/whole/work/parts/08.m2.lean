theorem cnt_ne {σ : Sg} {j n : Nat} (h : Cnt σ j n) (hn : n < 2 ^ 31) (c : ¬ σ.1 j = nI n) : vp_in (σ.1 j) n := by
  have h1 : ix (σ.1 j) < n := by
    rcases Nat.lt_or_ge (ix (σ.1 j)) n with q | q
    · exact q
    · exact absurd (by rw [h.1]; exact congrArg nI (by have := h.2; omega)) c
  rw [h.1]
  exact vp_in_nI h1 hn
theorem cnt_lt {σ : Sg} {j n : Nat} (h : Cnt σ j n) (hn : n < 2 ^ 31) (c : ¬ nI n ≤ σ.1 j) : vp_in (σ.1 j) n := cnt_ne h hn (fun e => c (by rw [e]; exact Int32.le_refl _))
theorem hasP_ne {σ : Sg} {a b : Int32} (c : ¬ m_hasPart σ a b = 0) (h : 1 ≤ b) : ¬ σ.2 5 (ix a) = 0 := by
  intro e
  apply c
  rw [m_hasPart, e, if_pos]
  exact Int32.lt_of_lt_of_le (by decide) h
theorem hasP_ne' {σ : Sg} {a b : Int32} (c : ¬ m_hasPart σ a b = 0) (h : ¬ b < 1) : ¬ σ.2 5 (ix a) = 0 := hasP_ne c (Int32.not_lt.mp h)
theorem asks_in {σ : Sg} {a b : Int32} (h : Cnt σ 2 10) (c : ¬ (m_asksPart σ a b).2 = 0) : vp_in a 10 ∧ ¬ σ.2 5 (ix a) = 0 := by
  by_cases c1 : m_isVessel σ a = 0
  · exfalso; apply c; rw [m_asksPart]; simp only [c1, if_true, reduceIte, not_true_eq_false]
  · by_cases c2 : 1 ≤ b
    · by_cases c3 : m_hasPart σ a b = 0
      · exfalso; apply c; rw [m_asksPart]; simp only [c1, c2, c3, reduceIte]
      · exact ⟨isV_in h c1, hasP_ne c3 c2⟩
    · exfalso; apply c; rw [m_asksPart]; simp only [c1, c2, reduceIte]
def m_vessel (σ : Sg) (p0 : Int32) (p1 : Int32) : Int32 × Int32 × Sg := if (m_isPlace p0) = 0 then (1, 0, σ) else if (m_in p1 1 9999) = 0 then (2, 0, σ) else if (σ.1 2) = 10 then (3, 0, σ) else (0, ((σ.1 2) + 1) - 1, (zs (bs (bs σ 3 (ix (σ.1 2)) p0) 4 (ix (σ.1 2)) p1) 2 ((σ.1 2) + 1)))
abbrev rX7_vessel : Room := { frames := 2, cells := 0, slots := 0, locals := 42 }
theorem fnX7_vessel : Fn yX7_vessel wsX7_vessel cX7_vessel 3 (some .int) 2 rX7_vessel 0 0 := ⟨⟨_, rfl⟩, rfl, rfl, by decide +kernel⟩
theorem inX7_vessel : ∀ w ∈ wsX70, w ∈ wsX7_vessel := fun w h => List.mem_cons_of_mem _ (List.mem_append_right _ h)
set_option maxHeartbeats 4000000 in
set_option maxRecDepth 100000 in
theorem kX7_vessel (l : Launch) (D : va_G) (cI : ClassId) (m0 : Nat) (as : Nat → Nat) (th : Int32) (σ : Sg) (p0 : Int32) (p1 : Int32) (h0 : Cnt σ 2 10) : M_Mi l yX7_vessel wsX7_vessel rX7_vessel D cI m0 as th σ [.int p0, .int p1] (m_vessel σ p0 p1) := by
  refine M_body (n := 2) (Qc := fun A => M_Qi D cI m0 as (m_vessel σ p0 p1) A) rfl fnX7_vessel inX7_vessel (Nat.le_of_ble_eq_true rfl) ?_
  intro p e s m args below meth c X A P ls hl
  have hx := X.1.1
  have hb := X.1.2.1
  have hown := X.1.2.2.2.1
  have hts := X.1.2.2.2.2.1
  have hl : lv_has ls 3 [(0, .ref m0), (1, .int p0), (2, .int p1)] := hl
  refine lv_aload_n (pc := 0) hx hb dX7_vessel_0 rfl (lv_at hl 0 rfl) ?_
  refine lv_iload_n (pc := 1) hx hb dX7_vessel_1 rfl (lv_at hl 1 rfl) ?_
  refine S_call (pc := 2) (As := [.int p0]) (rest := [.ref m0]) (r := m_isPlace p0) X.1 hl.1 (kX7_isPlace l p0) fnX7_isPlace gX7_vessel_X7_isPlace rfl rfl ⟨Nat.le_of_ble_eq_true rfl, Nat.le_of_ble_eq_true rfl⟩ (Nat.le_of_ble_eq_true rfl) ⟨Nat.le_of_ble_eq_true rfl, Nat.le_of_ble_eq_true rfl⟩ dX7_vessel_2 ?_
  refine lv_if_ne (pc := 5) (tgt := 12) hx hb dX7_vessel_5 (by decide) (fun c_1 : ¬ (m_isPlace p0) = 0 => ?_) (fun c_1 : (m_isPlace p0) = 0 => ?_)
  · have hv_2 : vp_in p0 4 := in_vp (hi := 3) (by decide) c_1
    refine lv_iload_n (pc := 12) hx hb dX7_vessel_12 rfl (lv_at hl 2 rfl) ?_
    refine lv_iconst (pc := 13) (v := 1) hx hb dX7_vessel_13 (by decide) ?_
    refine lv_sipush (pc := 14) (v := 9999) hx hb dX7_vessel_14 (by decide) ?_
    refine S_call (pc := 17) (As := [.int p1, .int 1, .int 9999]) (rest := [.ref m0]) (r := m_in p1 1 9999) X.1 hl.1 (kX7_in l p1 1 9999) fnX7_in gX7_vessel_X7_in rfl rfl ⟨Nat.le_of_ble_eq_true rfl, Nat.le_of_ble_eq_true rfl⟩ (Nat.le_of_ble_eq_true rfl) ⟨Nat.le_of_ble_eq_true rfl, Nat.le_of_ble_eq_true rfl⟩ dX7_vessel_17 ?_
    refine lv_if_ne (pc := 20) (tgt := 27) hx hb dX7_vessel_20 (by decide) (fun c_3 : ¬ (m_in p1 1 9999) = 0 => ?_) (fun c_3 : (m_in p1 1 9999) = 0 => ?_)
    · refine lv_aload_n (pc := 27) hx hb dX7_vessel_27 rfl (lv_at hl 0 rfl) ?_
      refine M_get (pc := 28) (v := .int (σ.1 2)) X P 2 (Nat.le_of_ble_eq_true rfl) (List.mem_of_getElem? (i := 1) rfl) rfl dX7_vessel_28 ?_
      refine lv_bipush (pc := 31) (v := 10) hx hb dX7_vessel_31 (by decide) ?_
      refine lv_icmp_ne (pc := 33) (tgt := 40) hx hb dX7_vessel_33 (by decide) (fun c_4 : ¬ (σ.1 2) = 10 => ?_) (fun c_4 : (σ.1 2) = 10 => ?_)
      · have hv_5 : vp_in (σ.1 2) 10 := cnt_ne h0 (by decide) c_4
        refine lv_iconst (pc := 40) (v := 0) hx hb dX7_vessel_40 (by decide) ?_
        refine M_putT (pc := 41) (v := 0) X P (List.mem_of_getElem? (i := 2) rfl) dX7_vessel_41 (fun H locs (P : Hp D A s (M_W cI m0 as 0 σ) H locs) => ?_)
        refine lv_aload_n (pc := 44) hx hb dX7_vessel_44 rfl (lv_at hl 0 rfl) ?_
        refine M_get (pc := 45) (v := .int 0) X P 0 (Nat.le_of_ble_eq_true rfl) (List.mem_of_getElem? (i := 2) rfl) rfl dX7_vessel_45 ?_
        refine lv_if_le (pc := 48) (tgt := 53) hx hb dX7_vessel_48 (by decide) (fun _ => ?_) (fun h => absurd h (by decide))
        refine lv_aload_n (pc := 53) hx hb dX7_vessel_53 rfl (lv_at hl 0 rfl) ?_
        refine M_get (pc := 54) (v := .ref (as 3)) X P 3 (Nat.le_of_ble_eq_true rfl) (List.mem_of_getElem? (i := 3) rfl) rfl dX7_vessel_54 ?_
        refine lv_aload_n (pc := 57) hx hb dX7_vessel_57 rfl (lv_at hl 0 rfl) ?_
        refine M_get (pc := 58) (v := .int (σ.1 2)) X P 2 (Nat.le_of_ble_eq_true rfl) (List.mem_of_getElem? (i := 1) rfl) rfl dX7_vessel_58 ?_
        refine lv_iload_n (pc := 61) hx hb dX7_vessel_61 rfl (lv_at hl 1 rfl) ?_
        refine M_ast (pc := 62) (x := p0) (n := 10) X P 1 3 rfl hv_5 M_a3 dX7_vessel_62 (fun H locs (P : Hp D A s (M_W cI m0 as 0 (bs σ 3 (ix (σ.1 2)) p0)) H locs) => ?_)
        refine lv_aload_n (pc := 63) hx hb dX7_vessel_63 rfl (lv_at hl 0 rfl) ?_
        refine M_get (pc := 64) (v := .ref (as 4)) X P 4 (Nat.le_of_ble_eq_true rfl) (List.mem_of_getElem? (i := 4) rfl) rfl dX7_vessel_64 ?_
        refine lv_aload_n (pc := 67) hx hb dX7_vessel_67 rfl (lv_at hl 0 rfl) ?_
        refine M_get (pc := 68) (v := .int (σ.1 2)) X P 2 (Nat.le_of_ble_eq_true rfl) (List.mem_of_getElem? (i := 1) rfl) rfl dX7_vessel_68 ?_
        refine lv_iload_n (pc := 71) hx hb dX7_vessel_71 rfl (lv_at hl 2 rfl) ?_
        refine M_ast (pc := 72) (x := p1) (n := 10) X P 2 4 rfl hv_5 M_a4 dX7_vessel_72 (fun H locs (P : Hp D A s (M_W cI m0 as 0 (bs (bs σ 3 (ix (σ.1 2)) p0) 4 (ix (σ.1 2)) p1)) H locs) => ?_)
        refine lv_aload_n (pc := 73) hx hb dX7_vessel_73 rfl (lv_at hl 0 rfl) ?_
        refine lv_dup (pc := 74) hx hb dX7_vessel_74 rfl ?_
        refine M_get (pc := 75) (v := .int (σ.1 2)) X P 2 (Nat.le_of_ble_eq_true rfl) (List.mem_of_getElem? (i := 1) rfl) rfl dX7_vessel_75 ?_
        refine lv_iconst (pc := 78) (v := 1) hx hb dX7_vessel_78 (by decide) ?_
        refine lv_iadd (pc := 79) hx hb dX7_vessel_79 ?_
        refine M_putS (pc := 80) (v := (σ.1 2) + 1) X P 2 (Nat.le_of_ble_eq_true rfl) (List.mem_of_getElem? (i := 1) rfl) rfl rfl M_s2 dX7_vessel_80 (fun H locs (P : Hp D A s (M_W cI m0 as 0 (zs (bs (bs σ 3 (ix (σ.1 2)) p0) 4 (ix (σ.1 2)) p1) 2 ((σ.1 2) + 1))) H locs) => ?_)
        refine lv_aload_n (pc := 83) hx hb dX7_vessel_83 rfl (lv_at hl 0 rfl) ?_
        refine M_get (pc := 84) (v := .int ((σ.1 2) + 1)) X P 2 (Nat.le_of_ble_eq_true rfl) (List.mem_of_getElem? (i := 1) rfl) rfl dX7_vessel_84 ?_
        refine lv_iconst (pc := 87) (v := 1) hx hb dX7_vessel_87 (by decide) ?_
        refine lv_isub (pc := 88) hx hb dX7_vessel_88 ?_
        exact M_ret (pc := 89) (v := ((σ.1 2) + 1) - 1) X P (by rw [m_vessel, if_neg c_1, if_neg c_3, if_neg c_4]) dX7_vessel_89
      · refine lv_iconst (pc := 36) (v := 3) hx hb dX7_vessel_36 (by decide) ?_
        refine lv_goto (pc := 37) (tgt := 41) hx hb dX7_vessel_37 (by decide) ?_
        refine M_putT (pc := 41) (v := 3) X P (List.mem_of_getElem? (i := 2) rfl) dX7_vessel_41 (fun H locs (P : Hp D A s (M_W cI m0 as 3 σ) H locs) => ?_)
        refine lv_aload_n (pc := 44) hx hb dX7_vessel_44 rfl (lv_at hl 0 rfl) ?_
        refine M_get (pc := 45) (v := .int 3) X P 0 (Nat.le_of_ble_eq_true rfl) (List.mem_of_getElem? (i := 2) rfl) rfl dX7_vessel_45 ?_
        refine lv_if_le (pc := 48) (tgt := 53) hx hb dX7_vessel_48 (by decide) (fun h => absurd h (by decide)) (fun _ => ?_)
        refine lv_iconst (pc := 51) (v := 0) hx hb dX7_vessel_51 (by decide) ?_
        exact M_ret (pc := 52) (v := 0) X P (by rw [m_vessel, if_neg c_1, if_neg c_3, if_pos c_4]) dX7_vessel_52
    · refine lv_iconst (pc := 23) (v := 2) hx hb dX7_vessel_23 (by decide) ?_
      refine lv_goto (pc := 24) (tgt := 41) hx hb dX7_vessel_24 (by decide) ?_
      refine M_putT (pc := 41) (v := 2) X P (List.mem_of_getElem? (i := 2) rfl) dX7_vessel_41 (fun H locs (P : Hp D A s (M_W cI m0 as 2 σ) H locs) => ?_)
      refine lv_aload_n (pc := 44) hx hb dX7_vessel_44 rfl (lv_at hl 0 rfl) ?_
      refine M_get (pc := 45) (v := .int 2) X P 0 (Nat.le_of_ble_eq_true rfl) (List.mem_of_getElem? (i := 2) rfl) rfl dX7_vessel_45 ?_
      refine lv_if_le (pc := 48) (tgt := 53) hx hb dX7_vessel_48 (by decide) (fun h => absurd h (by decide)) (fun _ => ?_)
      refine lv_iconst (pc := 51) (v := 0) hx hb dX7_vessel_51 (by decide) ?_
      exact M_ret (pc := 52) (v := 0) X P (by rw [m_vessel, if_neg c_1, if_pos c_3]) dX7_vessel_52
  · refine lv_iconst (pc := 8) (v := 1) hx hb dX7_vessel_8 (by decide) ?_
    refine lv_goto (pc := 9) (tgt := 41) hx hb dX7_vessel_9 (by decide) ?_
    refine M_putT (pc := 41) (v := 1) X P (List.mem_of_getElem? (i := 2) rfl) dX7_vessel_41 (fun H locs (P : Hp D A s (M_W cI m0 as 1 σ) H locs) => ?_)
    refine lv_aload_n (pc := 44) hx hb dX7_vessel_44 rfl (lv_at hl 0 rfl) ?_
    refine M_get (pc := 45) (v := .int 1) X P 0 (Nat.le_of_ble_eq_true rfl) (List.mem_of_getElem? (i := 2) rfl) rfl dX7_vessel_45 ?_
    refine lv_if_le (pc := 48) (tgt := 53) hx hb dX7_vessel_48 (by decide) (fun h => absurd h (by decide)) (fun _ => ?_)
    refine lv_iconst (pc := 51) (v := 0) hx hb dX7_vessel_51 (by decide) ?_
    exact M_ret (pc := 52) (v := 0) X P (by rw [m_vessel, if_pos c_1]) dX7_vessel_52
def m_shares (σ : Sg) (p0 : Int32) (p1 : Int32) : Int32 × Int32 × Sg := if (m_isPlace p0) = 0 then (1, 0, σ) else if (m_in p1 0 500) = 0 then (2, 0, σ) else (0, σ.2 7 (ix p0), (bs σ 7 (ix p0) p1))
abbrev rX7_shares : Room := { frames := 2, cells := 0, slots := 0, locals := 42 }
theorem fnX7_shares : Fn yX7_shares wsX7_shares cX7_shares 4 (some .int) 2 rX7_shares 0 0 := ⟨⟨_, rfl⟩, rfl, rfl, by decide +kernel⟩
theorem inX7_shares : ∀ w ∈ wsX70, w ∈ wsX7_shares := fun w h => List.mem_cons_of_mem _ (List.mem_append_right _ h)
set_option maxHeartbeats 4000000 in
set_option maxRecDepth 100000 in
theorem kX7_shares (l : Launch) (D : va_G) (cI : ClassId) (m0 : Nat) (as : Nat → Nat) (th : Int32) (σ : Sg) (p0 : Int32) (p1 : Int32) : M_Mi l yX7_shares wsX7_shares rX7_shares D cI m0 as th σ [.int p0, .int p1] (m_shares σ p0 p1) := by
  refine M_body (n := 2) (Qc := fun A => M_Qi D cI m0 as (m_shares σ p0 p1) A) rfl fnX7_shares inX7_shares (Nat.le_of_ble_eq_true rfl) ?_
  intro p e s m args below meth c X A P ls hl
  have hx := X.1.1
  have hb := X.1.2.1
  have hown := X.1.2.2.2.1
  have hts := X.1.2.2.2.2.1
  have hl : lv_has ls 4 [(0, .ref m0), (1, .int p0), (2, .int p1)] := hl
  refine lv_aload_n (pc := 0) hx hb dX7_shares_0 rfl (lv_at hl 0 rfl) ?_
  refine lv_iload_n (pc := 1) hx hb dX7_shares_1 rfl (lv_at hl 1 rfl) ?_
  refine S_call (pc := 2) (As := [.int p0]) (rest := [.ref m0]) (r := m_isPlace p0) X.1 hl.1 (kX7_isPlace l p0) fnX7_isPlace gX7_shares_X7_isPlace rfl rfl ⟨Nat.le_of_ble_eq_true rfl, Nat.le_of_ble_eq_true rfl⟩ (Nat.le_of_ble_eq_true rfl) ⟨Nat.le_of_ble_eq_true rfl, Nat.le_of_ble_eq_true rfl⟩ dX7_shares_2 ?_
  refine lv_if_ne (pc := 5) (tgt := 12) hx hb dX7_shares_5 (by decide) (fun c_1 : ¬ (m_isPlace p0) = 0 => ?_) (fun c_1 : (m_isPlace p0) = 0 => ?_)
  · have hv_2 : vp_in p0 4 := in_vp (hi := 3) (by decide) c_1
    refine lv_iload_n (pc := 12) hx hb dX7_shares_12 rfl (lv_at hl 2 rfl) ?_
    refine lv_iconst (pc := 13) (v := 0) hx hb dX7_shares_13 (by decide) ?_
    refine lv_sipush (pc := 14) (v := 500) hx hb dX7_shares_14 (by decide) ?_
    refine S_call (pc := 17) (As := [.int p1, .int 0, .int 500]) (rest := [.ref m0]) (r := m_in p1 0 500) X.1 hl.1 (kX7_in l p1 0 500) fnX7_in gX7_shares_X7_in rfl rfl ⟨Nat.le_of_ble_eq_true rfl, Nat.le_of_ble_eq_true rfl⟩ (Nat.le_of_ble_eq_true rfl) ⟨Nat.le_of_ble_eq_true rfl, Nat.le_of_ble_eq_true rfl⟩ dX7_shares_17 ?_
    refine lv_if_eq (pc := 20) (tgt := 27) hx hb dX7_shares_20 (by decide) (fun c_3 : (m_in p1 0 500) = 0 => ?_) (fun c_3 : ¬ (m_in p1 0 500) = 0 => ?_)
    · refine lv_iconst (pc := 27) (v := 2) hx hb dX7_shares_27 (by decide) ?_
      refine M_putT (pc := 28) (v := 2) X P (List.mem_of_getElem? (i := 1) rfl) dX7_shares_28 (fun H locs (P : Hp D A s (M_W cI m0 as 2 σ) H locs) => ?_)
      refine lv_aload_n (pc := 31) hx hb dX7_shares_31 rfl (lv_at hl 0 rfl) ?_
      refine M_get (pc := 32) (v := .int 2) X P 0 (Nat.le_of_ble_eq_true rfl) (List.mem_of_getElem? (i := 1) rfl) rfl dX7_shares_32 ?_
      refine lv_if_le (pc := 35) (tgt := 40) hx hb dX7_shares_35 (by decide) (fun h => absurd h (by decide)) (fun _ => ?_)
      refine lv_iconst (pc := 38) (v := 0) hx hb dX7_shares_38 (by decide) ?_
      exact M_ret (pc := 39) (v := 0) X P (by rw [m_shares, if_neg c_1, if_pos c_3]) dX7_shares_39
    · have hv_4 : vp_in p1 501 := in_vp (by decide) c_3
      refine lv_iconst (pc := 23) (v := 0) hx hb dX7_shares_23 (by decide) ?_
      refine lv_goto (pc := 24) (tgt := 28) hx hb dX7_shares_24 (by decide) ?_
      refine M_putT (pc := 28) (v := 0) X P (List.mem_of_getElem? (i := 1) rfl) dX7_shares_28 (fun H locs (P : Hp D A s (M_W cI m0 as 0 σ) H locs) => ?_)
      refine lv_aload_n (pc := 31) hx hb dX7_shares_31 rfl (lv_at hl 0 rfl) ?_
      refine M_get (pc := 32) (v := .int 0) X P 0 (Nat.le_of_ble_eq_true rfl) (List.mem_of_getElem? (i := 1) rfl) rfl dX7_shares_32 ?_
      refine lv_if_le (pc := 35) (tgt := 40) hx hb dX7_shares_35 (by decide) (fun _ => ?_) (fun h => absurd h (by decide))
      refine lv_aload_n (pc := 40) hx hb dX7_shares_40 rfl (lv_at hl 0 rfl) ?_
      refine M_get (pc := 41) (v := .ref (as 7)) X P 7 (Nat.le_of_ble_eq_true rfl) (List.mem_of_getElem? (i := 2) rfl) rfl dX7_shares_41 ?_
      refine lv_iload_n (pc := 44) hx hb dX7_shares_44 rfl (lv_at hl 1 rfl) ?_
      refine M_ald (pc := 45) (a := as 7) (n := 4) (f := σ.2 7) X P 5 rfl hv_2 dX7_shares_45 ?_
      refine lv_istore_n (pc := 46) (lv' := [(3, .int (σ.2 7 (ix p0))), (0, .ref m0), (1, .int p0), (2, .int p1)]) hx hb dX7_shares_46 rfl hl (by decide) rfl (fun ls hl => ?_)
      refine lv_aload_n (pc := 47) hx hb dX7_shares_47 rfl (lv_at hl 1 rfl) ?_
      refine M_get (pc := 48) (v := .ref (as 7)) X P 7 (Nat.le_of_ble_eq_true rfl) (List.mem_of_getElem? (i := 2) rfl) rfl dX7_shares_48 ?_
      refine lv_iload_n (pc := 51) hx hb dX7_shares_51 rfl (lv_at hl 2 rfl) ?_
      refine lv_iload_n (pc := 52) hx hb dX7_shares_52 rfl (lv_at hl 3 rfl) ?_
      refine M_ast (pc := 53) (x := p1) (n := 4) X P 5 7 rfl hv_2 M_a7 dX7_shares_53 (fun H locs (P : Hp D A s (M_W cI m0 as 0 (bs σ 7 (ix p0) p1)) H locs) => ?_)
      refine lv_iload_n (pc := 54) hx hb dX7_shares_54 rfl (lv_at hl 0 rfl) ?_
      exact M_ret (pc := 55) (v := σ.2 7 (ix p0)) X P (by rw [m_shares, if_neg c_1, if_neg c_3]) dX7_shares_55
  · refine lv_iconst (pc := 8) (v := 1) hx hb dX7_shares_8 (by decide) ?_
    refine lv_goto (pc := 9) (tgt := 28) hx hb dX7_shares_9 (by decide) ?_
    refine M_putT (pc := 28) (v := 1) X P (List.mem_of_getElem? (i := 1) rfl) dX7_shares_28 (fun H locs (P : Hp D A s (M_W cI m0 as 1 σ) H locs) => ?_)
    refine lv_aload_n (pc := 31) hx hb dX7_shares_31 rfl (lv_at hl 0 rfl) ?_
    refine M_get (pc := 32) (v := .int 1) X P 0 (Nat.le_of_ble_eq_true rfl) (List.mem_of_getElem? (i := 1) rfl) rfl dX7_shares_32 ?_
    refine lv_if_le (pc := 35) (tgt := 40) hx hb dX7_shares_35 (by decide) (fun h => absurd h (by decide)) (fun _ => ?_)
    refine lv_iconst (pc := 38) (v := 0) hx hb dX7_shares_38 (by decide) ?_
    exact M_ret (pc := 39) (v := 0) X P (by rw [m_shares, if_pos c_1]) dX7_shares_39
def m_run (σ : Sg) (p0 : Int32) (p1 : Int32) (p2 : Int32) (p3 : Int32) (p4 : Int32) : Int32 × Int32 × Sg := if (m_in p1 1 9999) = 0 then (if (m_isVessel σ p0) = 0 then (1, 0, σ) else (2, 0, σ)) else if (m_in p2 1 300) = 0 then (if (m_isVessel σ p0) = 0 then (1, 0, σ) else (2, 0, σ)) else if (m_in p3 1 9999) = 0 then (if (m_isVessel σ p0) = 0 then (1, 0, σ) else (2, 0, σ)) else if (m_in p4 1 960) = 0 then (if (m_isVessel σ p0) = 0 then (1, 0, σ) else (2, 0, σ)) else if (m_isVessel σ p0) = 0 then (1, 0, σ) else if (p1 * p2) < (p3 * p4) then (3, 0, σ) else if 60 ≤ (σ.1 8) then (3, 0, σ) else if (m_hasRoom σ p0 p3) = 0 then (3, 0, σ) else if 0 ≤ ((((9 * p1) * p2) / 10) - (p3 * p4)) then (0, (((9 * p1) * p2) / 10) - (p3 * p4), (m_comes (bs (zs (bs (zs σ 8 ((σ.1 8) + 1)) 10 7 ((σ.2 10 7) + ((((9 * p1) * p2) / 10) - (p3 * p4)))) 12 ((σ.1 12) + (m_dutyFor (bs (zs σ 8 ((σ.1 8) + 1)) 10 7 ((σ.2 10 7) + ((((9 * p1) * p2) / 10) - (p3 * p4)))) ((((9 * p1) * p2) / 10) - (p3 * p4)) (σ.1 11)))) 10 0 ((upd (σ.2 10) 7 ((σ.2 10 7) + ((((9 * p1) * p2) / 10) - (p3 * p4))) 0) + (p3 * p4))) p0 p3 (p3 * p4))) else (0, 0, (m_comes (bs (zs (bs (zs σ 8 ((σ.1 8) + 1)) 10 7 ((σ.2 10 7) + 0)) 12 ((σ.1 12) + (m_dutyFor (bs (zs σ 8 ((σ.1 8) + 1)) 10 7 ((σ.2 10 7) + 0)) 0 (σ.1 11)))) 10 0 ((upd (σ.2 10) 7 ((σ.2 10 7) + 0) 0) + (p3 * p4))) p0 p3 (p3 * p4)))
abbrev rX7_run : Room := { frames := 3, cells := 0, slots := 0, locals := 68 }
theorem fnX7_run : Fn yX7_run wsX7_run cX7_run 9 (some .int) 5 rX7_run 0 0 := ⟨⟨_, rfl⟩, rfl, rfl, by decide +kernel⟩
theorem inX7_run : ∀ w ∈ wsX70, w ∈ wsX7_run := fun w h => List.mem_cons_of_mem _ (List.mem_append_right _ h)
set_option maxHeartbeats 4000000 in
set_option maxRecDepth 100000 in
theorem kX7_run (l : Launch) (D : va_G) (cI : ClassId) (m0 : Nat) (as : Nat → Nat) (th : Int32) (σ : Sg) (p0 : Int32) (p1 : Int32) (p2 : Int32) (p3 : Int32) (p4 : Int32) (h0 : Cnt σ 2 10) : M_Mi l yX7_run wsX7_run rX7_run D cI m0 as th σ [.int p0, .int p1, .int p2, .int p3, .int p4] (m_run σ p0 p1 p2 p3 p4) := by
  refine M_body (n := 5) (Qc := fun A => M_Qi D cI m0 as (m_run σ p0 p1 p2 p3 p4) A) rfl fnX7_run inX7_run (Nat.le_of_ble_eq_true rfl) ?_
  intro p e s m args below meth c X A P ls hl
  have hx := X.1.1
  have hb := X.1.2.1
  have hown := X.1.2.2.2.1
  have hts := X.1.2.2.2.2.1
  have hl : lv_has ls 9 [(0, .ref m0), (1, .int p0), (2, .int p1), (3, .int p2), (4, .int p3), (5, .int p4)] := hl
  refine lv_iload_n (pc := 0) hx hb dX7_run_0 rfl (lv_at hl 2 rfl) ?_
  refine lv_iconst (pc := 1) (v := 1) hx hb dX7_run_1 (by decide) ?_
  refine lv_sipush (pc := 2) (v := 9999) hx hb dX7_run_2 (by decide) ?_
  refine S_call (pc := 5) (As := [.int p1, .int 1, .int 9999]) (rest := []) (r := m_in p1 1 9999) X.1 hl.1 (kX7_in l p1 1 9999) fnX7_in gX7_run_X7_in rfl rfl ⟨Nat.le_of_ble_eq_true rfl, Nat.le_of_ble_eq_true rfl⟩ (Nat.le_of_ble_eq_true rfl) ⟨Nat.le_of_ble_eq_true rfl, Nat.le_of_ble_eq_true rfl⟩ dX7_run_5 ?_
  refine lv_if_eq (pc := 8) (tgt := 50) hx hb dX7_run_8 (by decide) (fun c_1 : (m_in p1 1 9999) = 0 => ?_) (fun c_1 : ¬ (m_in p1 1 9999) = 0 => ?_)
  · refine lv_iconst (pc := 50) (v := 0) hx hb dX7_run_50 (by decide) ?_
    refine lv_istore (pc := 51) (lv' := [(6, .int 0), (0, .ref m0), (1, .int p0), (2, .int p1), (3, .int p2), (4, .int p3), (5, .int p4)]) hx hb dX7_run_51 hl (by decide) rfl (fun ls hl => ?_)
    refine lv_aload_n (pc := 53) hx hb dX7_run_53 rfl (lv_at hl 1 rfl) ?_
    refine lv_aload_n (pc := 54) hx hb dX7_run_54 rfl (lv_at hl 1 rfl) ?_
    refine lv_iload_n (pc := 55) hx hb dX7_run_55 rfl (lv_at hl 2 rfl) ?_
    refine M_calli (pc := 56) (As := [.int p0]) (rest := [.ref m0]) (f := (th, m_isVessel σ p0, σ)) X P hl.1 (kX7_isVessel l D cI m0 as th σ p0) fnX7_isVessel rfl gX7_run_X7_isVessel rfl rfl ⟨Nat.le_of_ble_eq_true rfl, Nat.le_of_ble_eq_true rfl⟩ (Nat.le_of_ble_eq_true rfl) ⟨Nat.le_of_ble_eq_true rfl, Nat.le_of_ble_eq_true rfl⟩ dX7_run_56 (fun H locs (P : Hp D A s (M_W cI m0 as th σ) H locs) => ?_)
    refine lv_if_ne (pc := 59) (tgt := 66) hx hb dX7_run_59 (by decide) (fun c_2 : ¬ (m_isVessel σ p0) = 0 => ?_) (fun c_2 : (m_isVessel σ p0) = 0 => ?_)
    · have hv_3 : vp_in p0 10 := isV_in h0 c_2
      refine lv_iload (pc := 66) hx hb dX7_run_66 (lv_at hl 0 rfl) ?_
      refine lv_if_eq (pc := 68) (tgt := 75) hx hb dX7_run_68 (by decide) (fun _ => ?_) (fun h => absurd h (by decide))
      refine lv_iconst (pc := 75) (v := 2) hx hb dX7_run_75 (by decide) ?_
      refine M_putT (pc := 76) (v := 2) X P (List.mem_of_getElem? (i := 1) rfl) dX7_run_76 (fun H locs (P : Hp D A s (M_W cI m0 as 2 σ) H locs) => ?_)
      refine lv_aload_n (pc := 79) hx hb dX7_run_79 rfl (lv_at hl 1 rfl) ?_
      refine M_get (pc := 80) (v := .int 2) X P 0 (Nat.le_of_ble_eq_true rfl) (List.mem_of_getElem? (i := 1) rfl) rfl dX7_run_80 ?_
      refine lv_if_ne (pc := 83) (tgt := 137) hx hb dX7_run_83 (by decide) (fun _ => ?_) (fun h => absurd h (by decide))
      refine lv_aload_n (pc := 137) hx hb dX7_run_137 rfl (lv_at hl 1 rfl) ?_
      refine M_get (pc := 138) (v := .int 2) X P 0 (Nat.le_of_ble_eq_true rfl) (List.mem_of_getElem? (i := 1) rfl) rfl dX7_run_138 ?_
      refine lv_if_le (pc := 141) (tgt := 146) hx hb dX7_run_141 (by decide) (fun h => absurd h (by decide)) (fun _ => ?_)
      refine lv_iconst (pc := 144) (v := 0) hx hb dX7_run_144 (by decide) ?_
      exact M_ret (pc := 145) (v := 0) X P (by rw [m_run, if_pos c_1, if_neg c_2]) dX7_run_145
    · refine lv_iconst (pc := 62) (v := 1) hx hb dX7_run_62 (by decide) ?_
      refine lv_goto (pc := 63) (tgt := 76) hx hb dX7_run_63 (by decide) ?_
      refine M_putT (pc := 76) (v := 1) X P (List.mem_of_getElem? (i := 1) rfl) dX7_run_76 (fun H locs (P : Hp D A s (M_W cI m0 as 1 σ) H locs) => ?_)
      refine lv_aload_n (pc := 79) hx hb dX7_run_79 rfl (lv_at hl 1 rfl) ?_
      refine M_get (pc := 80) (v := .int 1) X P 0 (Nat.le_of_ble_eq_true rfl) (List.mem_of_getElem? (i := 1) rfl) rfl dX7_run_80 ?_
      refine lv_if_ne (pc := 83) (tgt := 137) hx hb dX7_run_83 (by decide) (fun _ => ?_) (fun h => absurd h (by decide))
      refine lv_aload_n (pc := 137) hx hb dX7_run_137 rfl (lv_at hl 1 rfl) ?_
      refine M_get (pc := 138) (v := .int 1) X P 0 (Nat.le_of_ble_eq_true rfl) (List.mem_of_getElem? (i := 1) rfl) rfl dX7_run_138 ?_
      refine lv_if_le (pc := 141) (tgt := 146) hx hb dX7_run_141 (by decide) (fun h => absurd h (by decide)) (fun _ => ?_)
      refine lv_iconst (pc := 144) (v := 0) hx hb dX7_run_144 (by decide) ?_
      exact M_ret (pc := 145) (v := 0) X P (by rw [m_run, if_pos c_1, if_pos c_2]) dX7_run_145
  · refine lv_iload_n (pc := 11) hx hb dX7_run_11 rfl (lv_at hl 3 rfl) ?_
    refine lv_iconst (pc := 12) (v := 1) hx hb dX7_run_12 (by decide) ?_
    refine lv_sipush (pc := 13) (v := 300) hx hb dX7_run_13 (by decide) ?_
    refine S_call (pc := 16) (As := [.int p2, .int 1, .int 300]) (rest := []) (r := m_in p2 1 300) X.1 hl.1 (kX7_in l p2 1 300) fnX7_in gX7_run_X7_in rfl rfl ⟨Nat.le_of_ble_eq_true rfl, Nat.le_of_ble_eq_true rfl⟩ (Nat.le_of_ble_eq_true rfl) ⟨Nat.le_of_ble_eq_true rfl, Nat.le_of_ble_eq_true rfl⟩ dX7_run_16 ?_
    refine lv_if_eq (pc := 19) (tgt := 50) hx hb dX7_run_19 (by decide) (fun c_4 : (m_in p2 1 300) = 0 => ?_) (fun c_4 : ¬ (m_in p2 1 300) = 0 => ?_)
    · refine lv_iconst (pc := 50) (v := 0) hx hb dX7_run_50 (by decide) ?_
      refine lv_istore (pc := 51) (lv' := [(6, .int 0), (0, .ref m0), (1, .int p0), (2, .int p1), (3, .int p2), (4, .int p3), (5, .int p4)]) hx hb dX7_run_51 hl (by decide) rfl (fun ls hl => ?_)
      refine lv_aload_n (pc := 53) hx hb dX7_run_53 rfl (lv_at hl 1 rfl) ?_
      refine lv_aload_n (pc := 54) hx hb dX7_run_54 rfl (lv_at hl 1 rfl) ?_
      refine lv_iload_n (pc := 55) hx hb dX7_run_55 rfl (lv_at hl 2 rfl) ?_
      refine M_calli (pc := 56) (As := [.int p0]) (rest := [.ref m0]) (f := (th, m_isVessel σ p0, σ)) X P hl.1 (kX7_isVessel l D cI m0 as th σ p0) fnX7_isVessel rfl gX7_run_X7_isVessel rfl rfl ⟨Nat.le_of_ble_eq_true rfl, Nat.le_of_ble_eq_true rfl⟩ (Nat.le_of_ble_eq_true rfl) ⟨Nat.le_of_ble_eq_true rfl, Nat.le_of_ble_eq_true rfl⟩ dX7_run_56 (fun H locs (P : Hp D A s (M_W cI m0 as th σ) H locs) => ?_)
      refine lv_if_ne (pc := 59) (tgt := 66) hx hb dX7_run_59 (by decide) (fun c_5 : ¬ (m_isVessel σ p0) = 0 => ?_) (fun c_5 : (m_isVessel σ p0) = 0 => ?_)
      · have hv_6 : vp_in p0 10 := isV_in h0 c_5
        refine lv_iload (pc := 66) hx hb dX7_run_66 (lv_at hl 0 rfl) ?_
        refine lv_if_eq (pc := 68) (tgt := 75) hx hb dX7_run_68 (by decide) (fun _ => ?_) (fun h => absurd h (by decide))
        refine lv_iconst (pc := 75) (v := 2) hx hb dX7_run_75 (by decide) ?_
        refine M_putT (pc := 76) (v := 2) X P (List.mem_of_getElem? (i := 1) rfl) dX7_run_76 (fun H locs (P : Hp D A s (M_W cI m0 as 2 σ) H locs) => ?_)
        refine lv_aload_n (pc := 79) hx hb dX7_run_79 rfl (lv_at hl 1 rfl) ?_
        refine M_get (pc := 80) (v := .int 2) X P 0 (Nat.le_of_ble_eq_true rfl) (List.mem_of_getElem? (i := 1) rfl) rfl dX7_run_80 ?_
        refine lv_if_ne (pc := 83) (tgt := 137) hx hb dX7_run_83 (by decide) (fun _ => ?_) (fun h => absurd h (by decide))
        refine lv_aload_n (pc := 137) hx hb dX7_run_137 rfl (lv_at hl 1 rfl) ?_
        refine M_get (pc := 138) (v := .int 2) X P 0 (Nat.le_of_ble_eq_true rfl) (List.mem_of_getElem? (i := 1) rfl) rfl dX7_run_138 ?_
        refine lv_if_le (pc := 141) (tgt := 146) hx hb dX7_run_141 (by decide) (fun h => absurd h (by decide)) (fun _ => ?_)
        refine lv_iconst (pc := 144) (v := 0) hx hb dX7_run_144 (by decide) ?_
        exact M_ret (pc := 145) (v := 0) X P (by rw [m_run, if_neg c_1, if_pos c_4, if_neg c_5]) dX7_run_145
      · refine lv_iconst (pc := 62) (v := 1) hx hb dX7_run_62 (by decide) ?_
        refine lv_goto (pc := 63) (tgt := 76) hx hb dX7_run_63 (by decide) ?_
        refine M_putT (pc := 76) (v := 1) X P (List.mem_of_getElem? (i := 1) rfl) dX7_run_76 (fun H locs (P : Hp D A s (M_W cI m0 as 1 σ) H locs) => ?_)
        refine lv_aload_n (pc := 79) hx hb dX7_run_79 rfl (lv_at hl 1 rfl) ?_
        refine M_get (pc := 80) (v := .int 1) X P 0 (Nat.le_of_ble_eq_true rfl) (List.mem_of_getElem? (i := 1) rfl) rfl dX7_run_80 ?_
        refine lv_if_ne (pc := 83) (tgt := 137) hx hb dX7_run_83 (by decide) (fun _ => ?_) (fun h => absurd h (by decide))
        refine lv_aload_n (pc := 137) hx hb dX7_run_137 rfl (lv_at hl 1 rfl) ?_
        refine M_get (pc := 138) (v := .int 1) X P 0 (Nat.le_of_ble_eq_true rfl) (List.mem_of_getElem? (i := 1) rfl) rfl dX7_run_138 ?_
        refine lv_if_le (pc := 141) (tgt := 146) hx hb dX7_run_141 (by decide) (fun h => absurd h (by decide)) (fun _ => ?_)
        refine lv_iconst (pc := 144) (v := 0) hx hb dX7_run_144 (by decide) ?_
        exact M_ret (pc := 145) (v := 0) X P (by rw [m_run, if_neg c_1, if_pos c_4, if_pos c_5]) dX7_run_145
    · refine lv_iload (pc := 22) hx hb dX7_run_22 (lv_at hl 4 rfl) ?_
      refine lv_iconst (pc := 24) (v := 1) hx hb dX7_run_24 (by decide) ?_
      refine lv_sipush (pc := 25) (v := 9999) hx hb dX7_run_25 (by decide) ?_
      refine S_call (pc := 28) (As := [.int p3, .int 1, .int 9999]) (rest := []) (r := m_in p3 1 9999) X.1 hl.1 (kX7_in l p3 1 9999) fnX7_in gX7_run_X7_in rfl rfl ⟨Nat.le_of_ble_eq_true rfl, Nat.le_of_ble_eq_true rfl⟩ (Nat.le_of_ble_eq_true rfl) ⟨Nat.le_of_ble_eq_true rfl, Nat.le_of_ble_eq_true rfl⟩ dX7_run_28 ?_
      refine lv_if_eq (pc := 31) (tgt := 50) hx hb dX7_run_31 (by decide) (fun c_7 : (m_in p3 1 9999) = 0 => ?_) (fun c_7 : ¬ (m_in p3 1 9999) = 0 => ?_)
      · refine lv_iconst (pc := 50) (v := 0) hx hb dX7_run_50 (by decide) ?_
        refine lv_istore (pc := 51) (lv' := [(6, .int 0), (0, .ref m0), (1, .int p0), (2, .int p1), (3, .int p2), (4, .int p3), (5, .int p4)]) hx hb dX7_run_51 hl (by decide) rfl (fun ls hl => ?_)
        refine lv_aload_n (pc := 53) hx hb dX7_run_53 rfl (lv_at hl 1 rfl) ?_
        refine lv_aload_n (pc := 54) hx hb dX7_run_54 rfl (lv_at hl 1 rfl) ?_
        refine lv_iload_n (pc := 55) hx hb dX7_run_55 rfl (lv_at hl 2 rfl) ?_
        refine M_calli (pc := 56) (As := [.int p0]) (rest := [.ref m0]) (f := (th, m_isVessel σ p0, σ)) X P hl.1 (kX7_isVessel l D cI m0 as th σ p0) fnX7_isVessel rfl gX7_run_X7_isVessel rfl rfl ⟨Nat.le_of_ble_eq_true rfl, Nat.le_of_ble_eq_true rfl⟩ (Nat.le_of_ble_eq_true rfl) ⟨Nat.le_of_ble_eq_true rfl, Nat.le_of_ble_eq_true rfl⟩ dX7_run_56 (fun H locs (P : Hp D A s (M_W cI m0 as th σ) H locs) => ?_)
        refine lv_if_ne (pc := 59) (tgt := 66) hx hb dX7_run_59 (by decide) (fun c_8 : ¬ (m_isVessel σ p0) = 0 => ?_) (fun c_8 : (m_isVessel σ p0) = 0 => ?_)
        · have hv_9 : vp_in p0 10 := isV_in h0 c_8
          refine lv_iload (pc := 66) hx hb dX7_run_66 (lv_at hl 0 rfl) ?_
          refine lv_if_eq (pc := 68) (tgt := 75) hx hb dX7_run_68 (by decide) (fun _ => ?_) (fun h => absurd h (by decide))
          refine lv_iconst (pc := 75) (v := 2) hx hb dX7_run_75 (by decide) ?_
          refine M_putT (pc := 76) (v := 2) X P (List.mem_of_getElem? (i := 1) rfl) dX7_run_76 (fun H locs (P : Hp D A s (M_W cI m0 as 2 σ) H locs) => ?_)
          refine lv_aload_n (pc := 79) hx hb dX7_run_79 rfl (lv_at hl 1 rfl) ?_
          refine M_get (pc := 80) (v := .int 2) X P 0 (Nat.le_of_ble_eq_true rfl) (List.mem_of_getElem? (i := 1) rfl) rfl dX7_run_80 ?_
          refine lv_if_ne (pc := 83) (tgt := 137) hx hb dX7_run_83 (by decide) (fun _ => ?_) (fun h => absurd h (by decide))
          refine lv_aload_n (pc := 137) hx hb dX7_run_137 rfl (lv_at hl 1 rfl) ?_
          refine M_get (pc := 138) (v := .int 2) X P 0 (Nat.le_of_ble_eq_true rfl) (List.mem_of_getElem? (i := 1) rfl) rfl dX7_run_138 ?_
          refine lv_if_le (pc := 141) (tgt := 146) hx hb dX7_run_141 (by decide) (fun h => absurd h (by decide)) (fun _ => ?_)
          refine lv_iconst (pc := 144) (v := 0) hx hb dX7_run_144 (by decide) ?_
          exact M_ret (pc := 145) (v := 0) X P (by rw [m_run, if_neg c_1, if_neg c_4, if_pos c_7, if_neg c_8]) dX7_run_145
        · refine lv_iconst (pc := 62) (v := 1) hx hb dX7_run_62 (by decide) ?_
          refine lv_goto (pc := 63) (tgt := 76) hx hb dX7_run_63 (by decide) ?_
          refine M_putT (pc := 76) (v := 1) X P (List.mem_of_getElem? (i := 1) rfl) dX7_run_76 (fun H locs (P : Hp D A s (M_W cI m0 as 1 σ) H locs) => ?_)
          refine lv_aload_n (pc := 79) hx hb dX7_run_79 rfl (lv_at hl 1 rfl) ?_
          refine M_get (pc := 80) (v := .int 1) X P 0 (Nat.le_of_ble_eq_true rfl) (List.mem_of_getElem? (i := 1) rfl) rfl dX7_run_80 ?_
          refine lv_if_ne (pc := 83) (tgt := 137) hx hb dX7_run_83 (by decide) (fun _ => ?_) (fun h => absurd h (by decide))
          refine lv_aload_n (pc := 137) hx hb dX7_run_137 rfl (lv_at hl 1 rfl) ?_
          refine M_get (pc := 138) (v := .int 1) X P 0 (Nat.le_of_ble_eq_true rfl) (List.mem_of_getElem? (i := 1) rfl) rfl dX7_run_138 ?_
          refine lv_if_le (pc := 141) (tgt := 146) hx hb dX7_run_141 (by decide) (fun h => absurd h (by decide)) (fun _ => ?_)
          refine lv_iconst (pc := 144) (v := 0) hx hb dX7_run_144 (by decide) ?_
          exact M_ret (pc := 145) (v := 0) X P (by rw [m_run, if_neg c_1, if_neg c_4, if_pos c_7, if_pos c_8]) dX7_run_145
      · refine lv_iload (pc := 34) hx hb dX7_run_34 (lv_at hl 5 rfl) ?_
        refine lv_iconst (pc := 36) (v := 1) hx hb dX7_run_36 (by decide) ?_
        refine lv_sipush (pc := 37) (v := 960) hx hb dX7_run_37 (by decide) ?_
        refine S_call (pc := 40) (As := [.int p4, .int 1, .int 960]) (rest := []) (r := m_in p4 1 960) X.1 hl.1 (kX7_in l p4 1 960) fnX7_in gX7_run_X7_in rfl rfl ⟨Nat.le_of_ble_eq_true rfl, Nat.le_of_ble_eq_true rfl⟩ (Nat.le_of_ble_eq_true rfl) ⟨Nat.le_of_ble_eq_true rfl, Nat.le_of_ble_eq_true rfl⟩ dX7_run_40 ?_
        refine lv_if_eq (pc := 43) (tgt := 50) hx hb dX7_run_43 (by decide) (fun c_10 : (m_in p4 1 960) = 0 => ?_) (fun c_10 : ¬ (m_in p4 1 960) = 0 => ?_)
        · refine lv_iconst (pc := 50) (v := 0) hx hb dX7_run_50 (by decide) ?_
          refine lv_istore (pc := 51) (lv' := [(6, .int 0), (0, .ref m0), (1, .int p0), (2, .int p1), (3, .int p2), (4, .int p3), (5, .int p4)]) hx hb dX7_run_51 hl (by decide) rfl (fun ls hl => ?_)
          refine lv_aload_n (pc := 53) hx hb dX7_run_53 rfl (lv_at hl 1 rfl) ?_
          refine lv_aload_n (pc := 54) hx hb dX7_run_54 rfl (lv_at hl 1 rfl) ?_
          refine lv_iload_n (pc := 55) hx hb dX7_run_55 rfl (lv_at hl 2 rfl) ?_
          refine M_calli (pc := 56) (As := [.int p0]) (rest := [.ref m0]) (f := (th, m_isVessel σ p0, σ)) X P hl.1 (kX7_isVessel l D cI m0 as th σ p0) fnX7_isVessel rfl gX7_run_X7_isVessel rfl rfl ⟨Nat.le_of_ble_eq_true rfl, Nat.le_of_ble_eq_true rfl⟩ (Nat.le_of_ble_eq_true rfl) ⟨Nat.le_of_ble_eq_true rfl, Nat.le_of_ble_eq_true rfl⟩ dX7_run_56 (fun H locs (P : Hp D A s (M_W cI m0 as th σ) H locs) => ?_)
          refine lv_if_ne (pc := 59) (tgt := 66) hx hb dX7_run_59 (by decide) (fun c_11 : ¬ (m_isVessel σ p0) = 0 => ?_) (fun c_11 : (m_isVessel σ p0) = 0 => ?_)
          · have hv_12 : vp_in p0 10 := isV_in h0 c_11
            refine lv_iload (pc := 66) hx hb dX7_run_66 (lv_at hl 0 rfl) ?_
            refine lv_if_eq (pc := 68) (tgt := 75) hx hb dX7_run_68 (by decide) (fun _ => ?_) (fun h => absurd h (by decide))
            refine lv_iconst (pc := 75) (v := 2) hx hb dX7_run_75 (by decide) ?_
            refine M_putT (pc := 76) (v := 2) X P (List.mem_of_getElem? (i := 1) rfl) dX7_run_76 (fun H locs (P : Hp D A s (M_W cI m0 as 2 σ) H locs) => ?_)
            refine lv_aload_n (pc := 79) hx hb dX7_run_79 rfl (lv_at hl 1 rfl) ?_
            refine M_get (pc := 80) (v := .int 2) X P 0 (Nat.le_of_ble_eq_true rfl) (List.mem_of_getElem? (i := 1) rfl) rfl dX7_run_80 ?_
            refine lv_if_ne (pc := 83) (tgt := 137) hx hb dX7_run_83 (by decide) (fun _ => ?_) (fun h => absurd h (by decide))
            refine lv_aload_n (pc := 137) hx hb dX7_run_137 rfl (lv_at hl 1 rfl) ?_
            refine M_get (pc := 138) (v := .int 2) X P 0 (Nat.le_of_ble_eq_true rfl) (List.mem_of_getElem? (i := 1) rfl) rfl dX7_run_138 ?_
            refine lv_if_le (pc := 141) (tgt := 146) hx hb dX7_run_141 (by decide) (fun h => absurd h (by decide)) (fun _ => ?_)
            refine lv_iconst (pc := 144) (v := 0) hx hb dX7_run_144 (by decide) ?_
            exact M_ret (pc := 145) (v := 0) X P (by rw [m_run, if_neg c_1, if_neg c_4, if_neg c_7, if_pos c_10, if_neg c_11]) dX7_run_145
          · refine lv_iconst (pc := 62) (v := 1) hx hb dX7_run_62 (by decide) ?_
            refine lv_goto (pc := 63) (tgt := 76) hx hb dX7_run_63 (by decide) ?_
            refine M_putT (pc := 76) (v := 1) X P (List.mem_of_getElem? (i := 1) rfl) dX7_run_76 (fun H locs (P : Hp D A s (M_W cI m0 as 1 σ) H locs) => ?_)
            refine lv_aload_n (pc := 79) hx hb dX7_run_79 rfl (lv_at hl 1 rfl) ?_
            refine M_get (pc := 80) (v := .int 1) X P 0 (Nat.le_of_ble_eq_true rfl) (List.mem_of_getElem? (i := 1) rfl) rfl dX7_run_80 ?_
            refine lv_if_ne (pc := 83) (tgt := 137) hx hb dX7_run_83 (by decide) (fun _ => ?_) (fun h => absurd h (by decide))
            refine lv_aload_n (pc := 137) hx hb dX7_run_137 rfl (lv_at hl 1 rfl) ?_
            refine M_get (pc := 138) (v := .int 1) X P 0 (Nat.le_of_ble_eq_true rfl) (List.mem_of_getElem? (i := 1) rfl) rfl dX7_run_138 ?_
            refine lv_if_le (pc := 141) (tgt := 146) hx hb dX7_run_141 (by decide) (fun h => absurd h (by decide)) (fun _ => ?_)
            refine lv_iconst (pc := 144) (v := 0) hx hb dX7_run_144 (by decide) ?_
            exact M_ret (pc := 145) (v := 0) X P (by rw [m_run, if_neg c_1, if_neg c_4, if_neg c_7, if_pos c_10, if_pos c_11]) dX7_run_145
        · refine lv_iconst (pc := 46) (v := 1) hx hb dX7_run_46 (by decide) ?_
          refine lv_goto (pc := 47) (tgt := 51) hx hb dX7_run_47 (by decide) ?_
          refine lv_istore (pc := 51) (lv' := [(6, .int 1), (0, .ref m0), (1, .int p0), (2, .int p1), (3, .int p2), (4, .int p3), (5, .int p4)]) hx hb dX7_run_51 hl (by decide) rfl (fun ls hl => ?_)
          refine lv_aload_n (pc := 53) hx hb dX7_run_53 rfl (lv_at hl 1 rfl) ?_
          refine lv_aload_n (pc := 54) hx hb dX7_run_54 rfl (lv_at hl 1 rfl) ?_
          refine lv_iload_n (pc := 55) hx hb dX7_run_55 rfl (lv_at hl 2 rfl) ?_
          refine M_calli (pc := 56) (As := [.int p0]) (rest := [.ref m0]) (f := (th, m_isVessel σ p0, σ)) X P hl.1 (kX7_isVessel l D cI m0 as th σ p0) fnX7_isVessel rfl gX7_run_X7_isVessel rfl rfl ⟨Nat.le_of_ble_eq_true rfl, Nat.le_of_ble_eq_true rfl⟩ (Nat.le_of_ble_eq_true rfl) ⟨Nat.le_of_ble_eq_true rfl, Nat.le_of_ble_eq_true rfl⟩ dX7_run_56 (fun H locs (P : Hp D A s (M_W cI m0 as th σ) H locs) => ?_)
          refine lv_if_ne (pc := 59) (tgt := 66) hx hb dX7_run_59 (by decide) (fun c_13 : ¬ (m_isVessel σ p0) = 0 => ?_) (fun c_13 : (m_isVessel σ p0) = 0 => ?_)
          · have hv_14 : vp_in p0 10 := isV_in h0 c_13
            refine lv_iload (pc := 66) hx hb dX7_run_66 (lv_at hl 0 rfl) ?_
            refine lv_if_eq (pc := 68) (tgt := 75) hx hb dX7_run_68 (by decide) (fun h => absurd h (by decide)) (fun _ => ?_)
            refine lv_iconst (pc := 71) (v := 0) hx hb dX7_run_71 (by decide) ?_
            refine lv_goto (pc := 72) (tgt := 76) hx hb dX7_run_72 (by decide) ?_
            refine M_putT (pc := 76) (v := 0) X P (List.mem_of_getElem? (i := 1) rfl) dX7_run_76 (fun H locs (P : Hp D A s (M_W cI m0 as 0 σ) H locs) => ?_)
            refine lv_aload_n (pc := 79) hx hb dX7_run_79 rfl (lv_at hl 1 rfl) ?_
            refine M_get (pc := 80) (v := .int 0) X P 0 (Nat.le_of_ble_eq_true rfl) (List.mem_of_getElem? (i := 1) rfl) rfl dX7_run_80 ?_
            refine lv_if_ne (pc := 83) (tgt := 137) hx hb dX7_run_83 (by decide) (fun h => absurd h (by decide)) (fun _ => ?_)
            refine lv_iload (pc := 86) hx hb dX7_run_86 (lv_at hl 5 rfl) ?_
            refine lv_iload (pc := 88) hx hb dX7_run_88 (lv_at hl 6 rfl) ?_
            refine lv_imul (pc := 90) hx hb dX7_run_90 ?_
            refine lv_iload_n (pc := 91) hx hb dX7_run_91 rfl (lv_at hl 3 rfl) ?_
            refine lv_iload_n (pc := 92) hx hb dX7_run_92 rfl (lv_at hl 4 rfl) ?_
            refine lv_imul (pc := 93) hx hb dX7_run_93 ?_
            refine lv_icmp_gt (pc := 94) (tgt := 120) hx hb dX7_run_94 (by decide) (fun c_15 : (p1 * p2) < (p3 * p4) => ?_) (fun c_15 : ¬ (p1 * p2) < (p3 * p4) => ?_)
            · refine lv_iconst (pc := 120) (v := 0) hx hb dX7_run_120 (by decide) ?_
              refine lv_istore (pc := 121) (lv' := [(7, .int 0), (6, .int 1), (0, .ref m0), (1, .int p0), (2, .int p1), (3, .int p2), (4, .int p3), (5, .int p4)]) hx hb dX7_run_121 hl (by decide) rfl (fun ls hl => ?_)
              refine lv_aload_n (pc := 123) hx hb dX7_run_123 rfl (lv_at hl 2 rfl) ?_
              refine lv_iload (pc := 124) hx hb dX7_run_124 (lv_at hl 0 rfl) ?_
              refine lv_if_eq (pc := 126) (tgt := 133) hx hb dX7_run_126 (by decide) (fun _ => ?_) (fun h => absurd h (by decide))
              refine lv_iconst (pc := 133) (v := 3) hx hb dX7_run_133 (by decide) ?_
              refine M_putT (pc := 134) (v := 3) X P (List.mem_of_getElem? (i := 1) rfl) dX7_run_134 (fun H locs (P : Hp D A s (M_W cI m0 as 3 σ) H locs) => ?_)
              refine lv_aload_n (pc := 137) hx hb dX7_run_137 rfl (lv_at hl 2 rfl) ?_
              refine M_get (pc := 138) (v := .int 3) X P 0 (Nat.le_of_ble_eq_true rfl) (List.mem_of_getElem? (i := 1) rfl) rfl dX7_run_138 ?_
              refine lv_if_le (pc := 141) (tgt := 146) hx hb dX7_run_141 (by decide) (fun h => absurd h (by decide)) (fun _ => ?_)
              refine lv_iconst (pc := 144) (v := 0) hx hb dX7_run_144 (by decide) ?_
              exact M_ret (pc := 145) (v := 0) X P (by rw [m_run, if_neg c_1, if_neg c_4, if_neg c_7, if_neg c_10, if_neg c_13, if_pos c_15]) dX7_run_145
            · refine lv_aload_n (pc := 97) hx hb dX7_run_97 rfl (lv_at hl 1 rfl) ?_
              refine M_get (pc := 98) (v := .int (σ.1 8)) X P 8 (Nat.le_of_ble_eq_true rfl) (List.mem_of_getElem? (i := 2) rfl) rfl dX7_run_98 ?_
              refine lv_bipush (pc := 101) (v := 60) hx hb dX7_run_101 (by decide) ?_
              refine lv_icmp_ge (pc := 103) (tgt := 120) hx hb dX7_run_103 (by decide) (fun c_16 : 60 ≤ (σ.1 8) => ?_) (fun c_16 : ¬ 60 ≤ (σ.1 8) => ?_)
              · refine lv_iconst (pc := 120) (v := 0) hx hb dX7_run_120 (by decide) ?_
                refine lv_istore (pc := 121) (lv' := [(7, .int 0), (6, .int 1), (0, .ref m0), (1, .int p0), (2, .int p1), (3, .int p2), (4, .int p3), (5, .int p4)]) hx hb dX7_run_121 hl (by decide) rfl (fun ls hl => ?_)
                refine lv_aload_n (pc := 123) hx hb dX7_run_123 rfl (lv_at hl 2 rfl) ?_
                refine lv_iload (pc := 124) hx hb dX7_run_124 (lv_at hl 0 rfl) ?_
                refine lv_if_eq (pc := 126) (tgt := 133) hx hb dX7_run_126 (by decide) (fun _ => ?_) (fun h => absurd h (by decide))
                refine lv_iconst (pc := 133) (v := 3) hx hb dX7_run_133 (by decide) ?_
                refine M_putT (pc := 134) (v := 3) X P (List.mem_of_getElem? (i := 1) rfl) dX7_run_134 (fun H locs (P : Hp D A s (M_W cI m0 as 3 σ) H locs) => ?_)
                refine lv_aload_n (pc := 137) hx hb dX7_run_137 rfl (lv_at hl 2 rfl) ?_
                refine M_get (pc := 138) (v := .int 3) X P 0 (Nat.le_of_ble_eq_true rfl) (List.mem_of_getElem? (i := 1) rfl) rfl dX7_run_138 ?_
                refine lv_if_le (pc := 141) (tgt := 146) hx hb dX7_run_141 (by decide) (fun h => absurd h (by decide)) (fun _ => ?_)
                refine lv_iconst (pc := 144) (v := 0) hx hb dX7_run_144 (by decide) ?_
                exact M_ret (pc := 145) (v := 0) X P (by rw [m_run, if_neg c_1, if_neg c_4, if_neg c_7, if_neg c_10, if_neg c_13, if_neg c_15, if_pos c_16]) dX7_run_145
              · refine lv_aload_n (pc := 106) hx hb dX7_run_106 rfl (lv_at hl 1 rfl) ?_
                refine lv_iload_n (pc := 107) hx hb dX7_run_107 rfl (lv_at hl 2 rfl) ?_
                refine lv_iload (pc := 108) hx hb dX7_run_108 (lv_at hl 5 rfl) ?_
                refine M_calli (pc := 110) (As := [.int p0, .int p3]) (rest := []) (f := (0, m_hasRoom σ p0 p3, σ)) X P hl.1 (kX7_hasRoom l D cI m0 as 0 σ p0 p3 hv_14) fnX7_hasRoom rfl gX7_run_X7_hasRoom rfl rfl ⟨Nat.le_of_ble_eq_true rfl, Nat.le_of_ble_eq_true rfl⟩ (Nat.le_of_ble_eq_true rfl) ⟨Nat.le_of_ble_eq_true rfl, Nat.le_of_ble_eq_true rfl⟩ dX7_run_110 (fun H locs (P : Hp D A s (M_W cI m0 as 0 σ) H locs) => ?_)
                refine lv_if_eq (pc := 113) (tgt := 120) hx hb dX7_run_113 (by decide) (fun c_17 : (m_hasRoom σ p0 p3) = 0 => ?_) (fun c_17 : ¬ (m_hasRoom σ p0 p3) = 0 => ?_)
                · refine lv_iconst (pc := 120) (v := 0) hx hb dX7_run_120 (by decide) ?_
                  refine lv_istore (pc := 121) (lv' := [(7, .int 0), (6, .int 1), (0, .ref m0), (1, .int p0), (2, .int p1), (3, .int p2), (4, .int p3), (5, .int p4)]) hx hb dX7_run_121 hl (by decide) rfl (fun ls hl => ?_)
                  refine lv_aload_n (pc := 123) hx hb dX7_run_123 rfl (lv_at hl 2 rfl) ?_
                  refine lv_iload (pc := 124) hx hb dX7_run_124 (lv_at hl 0 rfl) ?_
                  refine lv_if_eq (pc := 126) (tgt := 133) hx hb dX7_run_126 (by decide) (fun _ => ?_) (fun h => absurd h (by decide))
                  refine lv_iconst (pc := 133) (v := 3) hx hb dX7_run_133 (by decide) ?_
                  refine M_putT (pc := 134) (v := 3) X P (List.mem_of_getElem? (i := 1) rfl) dX7_run_134 (fun H locs (P : Hp D A s (M_W cI m0 as 3 σ) H locs) => ?_)
                  refine lv_aload_n (pc := 137) hx hb dX7_run_137 rfl (lv_at hl 2 rfl) ?_
                  refine M_get (pc := 138) (v := .int 3) X P 0 (Nat.le_of_ble_eq_true rfl) (List.mem_of_getElem? (i := 1) rfl) rfl dX7_run_138 ?_
                  refine lv_if_le (pc := 141) (tgt := 146) hx hb dX7_run_141 (by decide) (fun h => absurd h (by decide)) (fun _ => ?_)
                  refine lv_iconst (pc := 144) (v := 0) hx hb dX7_run_144 (by decide) ?_
                  exact M_ret (pc := 145) (v := 0) X P (by rw [m_run, if_neg c_1, if_neg c_4, if_neg c_7, if_neg c_10, if_neg c_13, if_neg c_15, if_neg c_16, if_pos c_17]) dX7_run_145
                · refine lv_iconst (pc := 116) (v := 1) hx hb dX7_run_116 (by decide) ?_
                  refine lv_goto (pc := 117) (tgt := 121) hx hb dX7_run_117 (by decide) ?_
                  refine lv_istore (pc := 121) (lv' := [(7, .int 1), (6, .int 1), (0, .ref m0), (1, .int p0), (2, .int p1), (3, .int p2), (4, .int p3), (5, .int p4)]) hx hb dX7_run_121 hl (by decide) rfl (fun ls hl => ?_)
                  refine lv_aload_n (pc := 123) hx hb dX7_run_123 rfl (lv_at hl 2 rfl) ?_
                  refine lv_iload (pc := 124) hx hb dX7_run_124 (lv_at hl 0 rfl) ?_
                  refine lv_if_eq (pc := 126) (tgt := 133) hx hb dX7_run_126 (by decide) (fun h => absurd h (by decide)) (fun _ => ?_)
                  refine lv_iconst (pc := 129) (v := 0) hx hb dX7_run_129 (by decide) ?_
                  refine lv_goto (pc := 130) (tgt := 134) hx hb dX7_run_130 (by decide) ?_
                  refine M_putT (pc := 134) (v := 0) X P (List.mem_of_getElem? (i := 1) rfl) dX7_run_134 (fun H locs (P : Hp D A s (M_W cI m0 as 0 σ) H locs) => ?_)
                  refine lv_aload_n (pc := 137) hx hb dX7_run_137 rfl (lv_at hl 2 rfl) ?_
                  refine M_get (pc := 138) (v := .int 0) X P 0 (Nat.le_of_ble_eq_true rfl) (List.mem_of_getElem? (i := 1) rfl) rfl dX7_run_138 ?_
                  refine lv_if_le (pc := 141) (tgt := 146) hx hb dX7_run_141 (by decide) (fun _ => ?_) (fun h => absurd h (by decide))
                  refine lv_aload_n (pc := 146) hx hb dX7_run_146 rfl (lv_at hl 2 rfl) ?_
                  refine lv_dup (pc := 147) hx hb dX7_run_147 rfl ?_
                  refine M_get (pc := 148) (v := .int (σ.1 8)) X P 8 (Nat.le_of_ble_eq_true rfl) (List.mem_of_getElem? (i := 2) rfl) rfl dX7_run_148 ?_
                  refine lv_iconst (pc := 151) (v := 1) hx hb dX7_run_151 (by decide) ?_
                  refine lv_iadd (pc := 152) hx hb dX7_run_152 ?_
                  refine M_putS (pc := 153) (v := (σ.1 8) + 1) X P 8 (Nat.le_of_ble_eq_true rfl) (List.mem_of_getElem? (i := 2) rfl) rfl rfl M_s8 dX7_run_153 (fun H locs (P : Hp D A s (M_W cI m0 as 0 (zs σ 8 ((σ.1 8) + 1))) H locs) => ?_)
                  refine lv_iload (pc := 156) hx hb dX7_run_156 (lv_at hl 6 rfl) ?_
                  refine lv_iload (pc := 158) hx hb dX7_run_158 (lv_at hl 7 rfl) ?_
                  refine lv_imul (pc := 160) hx hb dX7_run_160 ?_
                  refine lv_istore (pc := 161) (lv' := [(7, .int (p3 * p4)), (6, .int 1), (0, .ref m0), (1, .int p0), (2, .int p1), (3, .int p2), (4, .int p3), (5, .int p4)]) hx hb dX7_run_161 hl (by decide) rfl (fun ls hl => ?_)
                  refine lv_bipush (pc := 163) (v := 9) hx hb dX7_run_163 (by decide) ?_
                  refine lv_iload_n (pc := 165) hx hb dX7_run_165 rfl (lv_at hl 4 rfl) ?_
                  refine lv_imul (pc := 166) hx hb dX7_run_166 ?_
                  refine lv_iload_n (pc := 167) hx hb dX7_run_167 rfl (lv_at hl 5 rfl) ?_
                  refine lv_imul (pc := 168) hx hb dX7_run_168 ?_
                  refine lv_bipush (pc := 169) (v := 10) hx hb dX7_run_169 (by decide) ?_
                  refine lv_idiv (pc := 171) hx hb dX7_run_171 (by decide) ?_
                  refine lv_iload (pc := 172) hx hb dX7_run_172 (lv_at hl 0 rfl) ?_
                  refine lv_isub (pc := 174) hx hb dX7_run_174 ?_
                  refine lv_istore (pc := 175) (lv' := [(8, .int ((((9 * p1) * p2) / 10) - (p3 * p4))), (7, .int (p3 * p4)), (6, .int 1), (0, .ref m0), (1, .int p0), (2, .int p1), (3, .int p2), (4, .int p3), (5, .int p4)]) hx hb dX7_run_175 hl (by decide) rfl (fun ls hl => ?_)
                  refine lv_iload (pc := 177) hx hb dX7_run_177 (lv_at hl 0 rfl) ?_
                  refine lv_if_ge (pc := 179) (tgt := 186) hx hb dX7_run_179 (by decide) (fun c_18 : 0 ≤ ((((9 * p1) * p2) / 10) - (p3 * p4)) => ?_) (fun c_18 : ¬ 0 ≤ ((((9 * p1) * p2) / 10) - (p3 * p4)) => ?_)
                  · refine lv_iload (pc := 186) hx hb dX7_run_186 (lv_at hl 0 rfl) ?_
                    refine lv_istore (pc := 188) (lv' := [(8, .int ((((9 * p1) * p2) / 10) - (p3 * p4))), (7, .int (p3 * p4)), (6, .int 1), (0, .ref m0), (1, .int p0), (2, .int p1), (3, .int p2), (4, .int p3), (5, .int p4)]) hx hb dX7_run_188 hl (by decide) rfl (fun ls hl => ?_)
                    refine lv_aload_n (pc := 190) hx hb dX7_run_190 rfl (lv_at hl 3 rfl) ?_
                    refine M_get (pc := 191) (v := .ref (as 10)) X P 10 (Nat.le_of_ble_eq_true rfl) (List.mem_of_getElem? (i := 3) rfl) rfl dX7_run_191 ?_
                    refine lv_bipush (pc := 194) (v := 7) hx hb dX7_run_194 (by decide) ?_
                    refine lv_dup2_11 (pc := 196) hx hb dX7_run_196 rfl rfl ?_
                    refine M_ald (pc := 197) (a := as 10) (n := 8) (f := σ.2 10) X P 6 rfl (vp_dec (by decide)) dX7_run_197 ?_
                    refine lv_iload (pc := 198) hx hb dX7_run_198 (lv_at hl 0 rfl) ?_
                    refine lv_iadd (pc := 200) hx hb dX7_run_200 ?_
                    refine M_ast (pc := 201) (x := (σ.2 10 7) + ((((9 * p1) * p2) / 10) - (p3 * p4))) (n := 8) X P 6 10 rfl (vp_dec (by decide)) M_a10 dX7_run_201 (fun H locs (P : Hp D A s (M_W cI m0 as 0 (bs (zs σ 8 ((σ.1 8) + 1)) 10 7 ((σ.2 10 7) + ((((9 * p1) * p2) / 10) - (p3 * p4))))) H locs) => ?_)
                    refine lv_aload_n (pc := 202) hx hb dX7_run_202 rfl (lv_at hl 3 rfl) ?_
                    refine lv_dup (pc := 203) hx hb dX7_run_203 rfl ?_
                    refine M_get (pc := 204) (v := .int (σ.1 12)) X P 12 (Nat.le_of_ble_eq_true rfl) (List.mem_of_getElem? (i := 4) rfl) rfl dX7_run_204 ?_
                    refine lv_aload_n (pc := 207) hx hb dX7_run_207 rfl (lv_at hl 3 rfl) ?_
                    refine lv_iload (pc := 208) hx hb dX7_run_208 (lv_at hl 0 rfl) ?_
                    refine lv_aload_n (pc := 210) hx hb dX7_run_210 rfl (lv_at hl 3 rfl) ?_
                    refine M_get (pc := 211) (v := .int (σ.1 11)) X P 11 (Nat.le_of_ble_eq_true rfl) (List.mem_of_getElem? (i := 5) rfl) rfl dX7_run_211 ?_
                    refine M_calli (pc := 214) (As := [.int ((((9 * p1) * p2) / 10) - (p3 * p4)), .int (σ.1 11)]) (rest := [.int (σ.1 12), .ref m0]) (f := (0, m_dutyFor (bs (zs σ 8 ((σ.1 8) + 1)) 10 7 ((σ.2 10 7) + ((((9 * p1) * p2) / 10) - (p3 * p4)))) ((((9 * p1) * p2) / 10) - (p3 * p4)) (σ.1 11), (bs (zs σ 8 ((σ.1 8) + 1)) 10 7 ((σ.2 10 7) + ((((9 * p1) * p2) / 10) - (p3 * p4)))))) X P hl.1 (kX7_dutyFor l D cI m0 as 0 (bs (zs σ 8 ((σ.1 8) + 1)) 10 7 ((σ.2 10 7) + ((((9 * p1) * p2) / 10) - (p3 * p4)))) ((((9 * p1) * p2) / 10) - (p3 * p4)) (σ.1 11)) fnX7_dutyFor rfl gX7_run_X7_dutyFor rfl rfl ⟨Nat.le_of_ble_eq_true rfl, Nat.le_of_ble_eq_true rfl⟩ (Nat.le_of_ble_eq_true rfl) ⟨Nat.le_of_ble_eq_true rfl, Nat.le_of_ble_eq_true rfl⟩ dX7_run_214 (fun H locs (P : Hp D A s (M_W cI m0 as 0 (bs (zs σ 8 ((σ.1 8) + 1)) 10 7 ((σ.2 10 7) + ((((9 * p1) * p2) / 10) - (p3 * p4))))) H locs) => ?_)
                    refine lv_iadd (pc := 217) hx hb dX7_run_217 ?_
                    refine M_putS (pc := 218) (v := (σ.1 12) + (m_dutyFor (bs (zs σ 8 ((σ.1 8) + 1)) 10 7 ((σ.2 10 7) + ((((9 * p1) * p2) / 10) - (p3 * p4)))) ((((9 * p1) * p2) / 10) - (p3 * p4)) (σ.1 11))) X P 12 (Nat.le_of_ble_eq_true rfl) (List.mem_of_getElem? (i := 4) rfl) rfl rfl M_s12 dX7_run_218 (fun H locs (P : Hp D A s (M_W cI m0 as 0 (zs (bs (zs σ 8 ((σ.1 8) + 1)) 10 7 ((σ.2 10 7) + ((((9 * p1) * p2) / 10) - (p3 * p4)))) 12 ((σ.1 12) + (m_dutyFor (bs (zs σ 8 ((σ.1 8) + 1)) 10 7 ((σ.2 10 7) + ((((9 * p1) * p2) / 10) - (p3 * p4)))) ((((9 * p1) * p2) / 10) - (p3 * p4)) (σ.1 11))))) H locs) => ?_)
                    refine lv_aload_n (pc := 221) hx hb dX7_run_221 rfl (lv_at hl 3 rfl) ?_
                    refine M_get (pc := 222) (v := .ref (as 10)) X P 10 (Nat.le_of_ble_eq_true rfl) (List.mem_of_getElem? (i := 3) rfl) rfl dX7_run_222 ?_
                    refine lv_iconst (pc := 225) (v := 0) hx hb dX7_run_225 (by decide) ?_
                    refine lv_dup2_11 (pc := 226) hx hb dX7_run_226 rfl rfl ?_
                    refine M_ald (pc := 227) (a := as 10) (n := 8) (f := upd (σ.2 10) 7 ((σ.2 10 7) + ((((9 * p1) * p2) / 10) - (p3 * p4)))) X P 6 rfl (vp_dec (by decide)) dX7_run_227 ?_
                    refine lv_iload (pc := 228) hx hb dX7_run_228 (lv_at hl 1 rfl) ?_
                    refine lv_iadd (pc := 230) hx hb dX7_run_230 ?_
                    refine M_ast (pc := 231) (x := (upd (σ.2 10) 7 ((σ.2 10 7) + ((((9 * p1) * p2) / 10) - (p3 * p4))) 0) + (p3 * p4)) (n := 8) X P 6 10 rfl (vp_dec (by decide)) M_a10 dX7_run_231 (fun H locs (P : Hp D A s (M_W cI m0 as 0 (bs (zs (bs (zs σ 8 ((σ.1 8) + 1)) 10 7 ((σ.2 10 7) + ((((9 * p1) * p2) / 10) - (p3 * p4)))) 12 ((σ.1 12) + (m_dutyFor (bs (zs σ 8 ((σ.1 8) + 1)) 10 7 ((σ.2 10 7) + ((((9 * p1) * p2) / 10) - (p3 * p4)))) ((((9 * p1) * p2) / 10) - (p3 * p4)) (σ.1 11)))) 10 0 ((upd (σ.2 10) 7 ((σ.2 10 7) + ((((9 * p1) * p2) / 10) - (p3 * p4))) 0) + (p3 * p4)))) H locs) => ?_)
                    refine lv_aload_n (pc := 232) hx hb dX7_run_232 rfl (lv_at hl 3 rfl) ?_
                    refine lv_iload_n (pc := 233) hx hb dX7_run_233 rfl (lv_at hl 4 rfl) ?_
                    refine lv_iload (pc := 234) hx hb dX7_run_234 (lv_at hl 7 rfl) ?_
                    refine lv_iload (pc := 236) hx hb dX7_run_236 (lv_at hl 1 rfl) ?_
                    refine M_callv (pc := 238) (As := [.int p0, .int p3, .int (p3 * p4)]) (rest := []) (f := (0, 0, m_comes (bs (zs (bs (zs σ 8 ((σ.1 8) + 1)) 10 7 ((σ.2 10 7) + ((((9 * p1) * p2) / 10) - (p3 * p4)))) 12 ((σ.1 12) + (m_dutyFor (bs (zs σ 8 ((σ.1 8) + 1)) 10 7 ((σ.2 10 7) + ((((9 * p1) * p2) / 10) - (p3 * p4)))) ((((9 * p1) * p2) / 10) - (p3 * p4)) (σ.1 11)))) 10 0 ((upd (σ.2 10) 7 ((σ.2 10 7) + ((((9 * p1) * p2) / 10) - (p3 * p4))) 0) + (p3 * p4))) p0 p3 (p3 * p4))) X P hl.1 (kX7_comes l D cI m0 as 0 (bs (zs (bs (zs σ 8 ((σ.1 8) + 1)) 10 7 ((σ.2 10 7) + ((((9 * p1) * p2) / 10) - (p3 * p4)))) 12 ((σ.1 12) + (m_dutyFor (bs (zs σ 8 ((σ.1 8) + 1)) 10 7 ((σ.2 10 7) + ((((9 * p1) * p2) / 10) - (p3 * p4)))) ((((9 * p1) * p2) / 10) - (p3 * p4)) (σ.1 11)))) 10 0 ((upd (σ.2 10) 7 ((σ.2 10 7) + ((((9 * p1) * p2) / 10) - (p3 * p4))) 0) + (p3 * p4))) p0 p3 (p3 * p4) hv_14) fnX7_comes rfl gX7_run_X7_comes rfl rfl ⟨Nat.le_of_ble_eq_true rfl, Nat.le_of_ble_eq_true rfl⟩ (Nat.le_of_ble_eq_true rfl) ⟨Nat.le_of_ble_eq_true rfl, Nat.le_of_ble_eq_true rfl⟩ dX7_run_238 (fun H locs (P : Hp D A s (M_W cI m0 as 0 (m_comes (bs (zs (bs (zs σ 8 ((σ.1 8) + 1)) 10 7 ((σ.2 10 7) + ((((9 * p1) * p2) / 10) - (p3 * p4)))) 12 ((σ.1 12) + (m_dutyFor (bs (zs σ 8 ((σ.1 8) + 1)) 10 7 ((σ.2 10 7) + ((((9 * p1) * p2) / 10) - (p3 * p4)))) ((((9 * p1) * p2) / 10) - (p3 * p4)) (σ.1 11)))) 10 0 ((upd (σ.2 10) 7 ((σ.2 10 7) + ((((9 * p1) * p2) / 10) - (p3 * p4))) 0) + (p3 * p4))) p0 p3 (p3 * p4))) H locs) => ?_)
                    refine lv_iload (pc := 241) hx hb dX7_run_241 (lv_at hl 0 rfl) ?_
                    exact M_ret (pc := 243) (v := (((9 * p1) * p2) / 10) - (p3 * p4)) X P (by rw [m_run, if_neg c_1, if_neg c_4, if_neg c_7, if_neg c_10, if_neg c_13, if_neg c_15, if_neg c_16, if_neg c_17, if_pos c_18]) dX7_run_243
                  · refine lv_iconst (pc := 182) (v := 0) hx hb dX7_run_182 (by decide) ?_
                    refine lv_goto (pc := 183) (tgt := 188) hx hb dX7_run_183 (by decide) ?_
                    refine lv_istore (pc := 188) (lv' := [(8, .int 0), (7, .int (p3 * p4)), (6, .int 1), (0, .ref m0), (1, .int p0), (2, .int p1), (3, .int p2), (4, .int p3), (5, .int p4)]) hx hb dX7_run_188 hl (by decide) rfl (fun ls hl => ?_)
                    refine lv_aload_n (pc := 190) hx hb dX7_run_190 rfl (lv_at hl 3 rfl) ?_
                    refine M_get (pc := 191) (v := .ref (as 10)) X P 10 (Nat.le_of_ble_eq_true rfl) (List.mem_of_getElem? (i := 3) rfl) rfl dX7_run_191 ?_
                    refine lv_bipush (pc := 194) (v := 7) hx hb dX7_run_194 (by decide) ?_
                    refine lv_dup2_11 (pc := 196) hx hb dX7_run_196 rfl rfl ?_
                    refine M_ald (pc := 197) (a := as 10) (n := 8) (f := σ.2 10) X P 6 rfl (vp_dec (by decide)) dX7_run_197 ?_
                    refine lv_iload (pc := 198) hx hb dX7_run_198 (lv_at hl 0 rfl) ?_
                    refine lv_iadd (pc := 200) hx hb dX7_run_200 ?_
                    refine M_ast (pc := 201) (x := (σ.2 10 7) + 0) (n := 8) X P 6 10 rfl (vp_dec (by decide)) M_a10 dX7_run_201 (fun H locs (P : Hp D A s (M_W cI m0 as 0 (bs (zs σ 8 ((σ.1 8) + 1)) 10 7 ((σ.2 10 7) + 0))) H locs) => ?_)
                    refine lv_aload_n (pc := 202) hx hb dX7_run_202 rfl (lv_at hl 3 rfl) ?_
                    refine lv_dup (pc := 203) hx hb dX7_run_203 rfl ?_
                    refine M_get (pc := 204) (v := .int (σ.1 12)) X P 12 (Nat.le_of_ble_eq_true rfl) (List.mem_of_getElem? (i := 4) rfl) rfl dX7_run_204 ?_
                    refine lv_aload_n (pc := 207) hx hb dX7_run_207 rfl (lv_at hl 3 rfl) ?_
                    refine lv_iload (pc := 208) hx hb dX7_run_208 (lv_at hl 0 rfl) ?_
                    refine lv_aload_n (pc := 210) hx hb dX7_run_210 rfl (lv_at hl 3 rfl) ?_
                    refine M_get (pc := 211) (v := .int (σ.1 11)) X P 11 (Nat.le_of_ble_eq_true rfl) (List.mem_of_getElem? (i := 5) rfl) rfl dX7_run_211 ?_
                    refine M_calli (pc := 214) (As := [.int 0, .int (σ.1 11)]) (rest := [.int (σ.1 12), .ref m0]) (f := (0, m_dutyFor (bs (zs σ 8 ((σ.1 8) + 1)) 10 7 ((σ.2 10 7) + 0)) 0 (σ.1 11), (bs (zs σ 8 ((σ.1 8) + 1)) 10 7 ((σ.2 10 7) + 0)))) X P hl.1 (kX7_dutyFor l D cI m0 as 0 (bs (zs σ 8 ((σ.1 8) + 1)) 10 7 ((σ.2 10 7) + 0)) 0 (σ.1 11)) fnX7_dutyFor rfl gX7_run_X7_dutyFor rfl rfl ⟨Nat.le_of_ble_eq_true rfl, Nat.le_of_ble_eq_true rfl⟩ (Nat.le_of_ble_eq_true rfl) ⟨Nat.le_of_ble_eq_true rfl, Nat.le_of_ble_eq_true rfl⟩ dX7_run_214 (fun H locs (P : Hp D A s (M_W cI m0 as 0 (bs (zs σ 8 ((σ.1 8) + 1)) 10 7 ((σ.2 10 7) + 0))) H locs) => ?_)
                    refine lv_iadd (pc := 217) hx hb dX7_run_217 ?_
                    refine M_putS (pc := 218) (v := (σ.1 12) + (m_dutyFor (bs (zs σ 8 ((σ.1 8) + 1)) 10 7 ((σ.2 10 7) + 0)) 0 (σ.1 11))) X P 12 (Nat.le_of_ble_eq_true rfl) (List.mem_of_getElem? (i := 4) rfl) rfl rfl M_s12 dX7_run_218 (fun H locs (P : Hp D A s (M_W cI m0 as 0 (zs (bs (zs σ 8 ((σ.1 8) + 1)) 10 7 ((σ.2 10 7) + 0)) 12 ((σ.1 12) + (m_dutyFor (bs (zs σ 8 ((σ.1 8) + 1)) 10 7 ((σ.2 10 7) + 0)) 0 (σ.1 11))))) H locs) => ?_)
                    refine lv_aload_n (pc := 221) hx hb dX7_run_221 rfl (lv_at hl 3 rfl) ?_
                    refine M_get (pc := 222) (v := .ref (as 10)) X P 10 (Nat.le_of_ble_eq_true rfl) (List.mem_of_getElem? (i := 3) rfl) rfl dX7_run_222 ?_
                    refine lv_iconst (pc := 225) (v := 0) hx hb dX7_run_225 (by decide) ?_
                    refine lv_dup2_11 (pc := 226) hx hb dX7_run_226 rfl rfl ?_
                    refine M_ald (pc := 227) (a := as 10) (n := 8) (f := upd (σ.2 10) 7 ((σ.2 10 7) + 0)) X P 6 rfl (vp_dec (by decide)) dX7_run_227 ?_
                    refine lv_iload (pc := 228) hx hb dX7_run_228 (lv_at hl 1 rfl) ?_
                    refine lv_iadd (pc := 230) hx hb dX7_run_230 ?_
                    refine M_ast (pc := 231) (x := (upd (σ.2 10) 7 ((σ.2 10 7) + 0) 0) + (p3 * p4)) (n := 8) X P 6 10 rfl (vp_dec (by decide)) M_a10 dX7_run_231 (fun H locs (P : Hp D A s (M_W cI m0 as 0 (bs (zs (bs (zs σ 8 ((σ.1 8) + 1)) 10 7 ((σ.2 10 7) + 0)) 12 ((σ.1 12) + (m_dutyFor (bs (zs σ 8 ((σ.1 8) + 1)) 10 7 ((σ.2 10 7) + 0)) 0 (σ.1 11)))) 10 0 ((upd (σ.2 10) 7 ((σ.2 10 7) + 0) 0) + (p3 * p4)))) H locs) => ?_)
                    refine lv_aload_n (pc := 232) hx hb dX7_run_232 rfl (lv_at hl 3 rfl) ?_
                    refine lv_iload_n (pc := 233) hx hb dX7_run_233 rfl (lv_at hl 4 rfl) ?_
                    refine lv_iload (pc := 234) hx hb dX7_run_234 (lv_at hl 7 rfl) ?_
                    refine lv_iload (pc := 236) hx hb dX7_run_236 (lv_at hl 1 rfl) ?_
                    refine M_callv (pc := 238) (As := [.int p0, .int p3, .int (p3 * p4)]) (rest := []) (f := (0, 0, m_comes (bs (zs (bs (zs σ 8 ((σ.1 8) + 1)) 10 7 ((σ.2 10 7) + 0)) 12 ((σ.1 12) + (m_dutyFor (bs (zs σ 8 ((σ.1 8) + 1)) 10 7 ((σ.2 10 7) + 0)) 0 (σ.1 11)))) 10 0 ((upd (σ.2 10) 7 ((σ.2 10 7) + 0) 0) + (p3 * p4))) p0 p3 (p3 * p4))) X P hl.1 (kX7_comes l D cI m0 as 0 (bs (zs (bs (zs σ 8 ((σ.1 8) + 1)) 10 7 ((σ.2 10 7) + 0)) 12 ((σ.1 12) + (m_dutyFor (bs (zs σ 8 ((σ.1 8) + 1)) 10 7 ((σ.2 10 7) + 0)) 0 (σ.1 11)))) 10 0 ((upd (σ.2 10) 7 ((σ.2 10 7) + 0) 0) + (p3 * p4))) p0 p3 (p3 * p4) hv_14) fnX7_comes rfl gX7_run_X7_comes rfl rfl ⟨Nat.le_of_ble_eq_true rfl, Nat.le_of_ble_eq_true rfl⟩ (Nat.le_of_ble_eq_true rfl) ⟨Nat.le_of_ble_eq_true rfl, Nat.le_of_ble_eq_true rfl⟩ dX7_run_238 (fun H locs (P : Hp D A s (M_W cI m0 as 0 (m_comes (bs (zs (bs (zs σ 8 ((σ.1 8) + 1)) 10 7 ((σ.2 10 7) + 0)) 12 ((σ.1 12) + (m_dutyFor (bs (zs σ 8 ((σ.1 8) + 1)) 10 7 ((σ.2 10 7) + 0)) 0 (σ.1 11)))) 10 0 ((upd (σ.2 10) 7 ((σ.2 10 7) + 0) 0) + (p3 * p4))) p0 p3 (p3 * p4))) H locs) => ?_)
                    refine lv_iload (pc := 241) hx hb dX7_run_241 (lv_at hl 0 rfl) ?_
                    exact M_ret (pc := 243) (v := 0) X P (by rw [m_run, if_neg c_1, if_neg c_4, if_neg c_7, if_neg c_10, if_neg c_13, if_neg c_15, if_neg c_16, if_neg c_17, if_neg c_18]) dX7_run_243
          · refine lv_iconst (pc := 62) (v := 1) hx hb dX7_run_62 (by decide) ?_
            refine lv_goto (pc := 63) (tgt := 76) hx hb dX7_run_63 (by decide) ?_
            refine M_putT (pc := 76) (v := 1) X P (List.mem_of_getElem? (i := 1) rfl) dX7_run_76 (fun H locs (P : Hp D A s (M_W cI m0 as 1 σ) H locs) => ?_)
            refine lv_aload_n (pc := 79) hx hb dX7_run_79 rfl (lv_at hl 1 rfl) ?_
            refine M_get (pc := 80) (v := .int 1) X P 0 (Nat.le_of_ble_eq_true rfl) (List.mem_of_getElem? (i := 1) rfl) rfl dX7_run_80 ?_
            refine lv_if_ne (pc := 83) (tgt := 137) hx hb dX7_run_83 (by decide) (fun _ => ?_) (fun h => absurd h (by decide))
            refine lv_aload_n (pc := 137) hx hb dX7_run_137 rfl (lv_at hl 1 rfl) ?_
            refine M_get (pc := 138) (v := .int 1) X P 0 (Nat.le_of_ble_eq_true rfl) (List.mem_of_getElem? (i := 1) rfl) rfl dX7_run_138 ?_
            refine lv_if_le (pc := 141) (tgt := 146) hx hb dX7_run_141 (by decide) (fun h => absurd h (by decide)) (fun _ => ?_)
            refine lv_iconst (pc := 144) (v := 0) hx hb dX7_run_144 (by decide) ?_
            exact M_ret (pc := 145) (v := 0) X P (by rw [m_run, if_neg c_1, if_neg c_4, if_neg c_7, if_neg c_10, if_pos c_13]) dX7_run_145
def m_move (σ : Sg) (p0 : Int32) (p1 : Int32) (p2 : Int32) : Int32 × Int32 × Sg := if (m_isVessel σ p0) = 0 then (1, 0, σ) else if (m_isVessel σ p1) = 0 then (1, 0, σ) else if p0 = p1 then (2, 0, σ) else if 1 ≤ p2 then (if (σ.2 3 (ix p0)) = (σ.2 3 (ix p1)) then (if (m_hasPart σ p0 p2) = 0 then (3, 0, σ) else if (m_hasRoom σ p1 p2) = 0 then (3, 0, σ) else (0, (m_comes ((m_takes σ p0 p2).2) p1 p2 ((m_takes σ p0 p2).1)).2 5 (ix p1), (m_comes ((m_takes σ p0 p2).2) p1 p2 ((m_takes σ p0 p2).1)))) else (3, 0, σ)) else (2, 0, σ)
abbrev rX7_move : Room := { frames := 3, cells := 0, slots := 0, locals := 68 }
theorem fnX7_move : Fn yX7_move wsX7_move cX7_move 5 (some .int) 3 rX7_move 0 0 := ⟨⟨_, rfl⟩, rfl, rfl, by decide +kernel⟩
theorem inX7_move : ∀ w ∈ wsX70, w ∈ wsX7_move := fun w h => List.mem_cons_of_mem _ (List.mem_append_right _ h)
set_option maxHeartbeats 4000000 in
set_option maxRecDepth 100000 in
theorem kX7_move (l : Launch) (D : va_G) (cI : ClassId) (m0 : Nat) (as : Nat → Nat) (th : Int32) (σ : Sg) (p0 : Int32) (p1 : Int32) (p2 : Int32) (h0 : Cnt σ 2 10) : M_Mi l yX7_move wsX7_move rX7_move D cI m0 as th σ [.int p0, .int p1, .int p2] (m_move σ p0 p1 p2) := by
  refine M_body (n := 3) (Qc := fun A => M_Qi D cI m0 as (m_move σ p0 p1 p2) A) rfl fnX7_move inX7_move (Nat.le_of_ble_eq_true rfl) ?_
  intro p e s m args below meth c X A P ls hl
  have hx := X.1.1
  have hb := X.1.2.1
  have hown := X.1.2.2.2.1
  have hts := X.1.2.2.2.2.1
  have hl : lv_has ls 5 [(0, .ref m0), (1, .int p0), (2, .int p1), (3, .int p2)] := hl
  refine lv_aload_n (pc := 0) hx hb dX7_move_0 rfl (lv_at hl 0 rfl) ?_
  refine lv_iload_n (pc := 1) hx hb dX7_move_1 rfl (lv_at hl 1 rfl) ?_
  refine M_calli (pc := 2) (As := [.int p0]) (rest := []) (f := (th, m_isVessel σ p0, σ)) X P hl.1 (kX7_isVessel l D cI m0 as th σ p0) fnX7_isVessel rfl gX7_move_X7_isVessel rfl rfl ⟨Nat.le_of_ble_eq_true rfl, Nat.le_of_ble_eq_true rfl⟩ (Nat.le_of_ble_eq_true rfl) ⟨Nat.le_of_ble_eq_true rfl, Nat.le_of_ble_eq_true rfl⟩ dX7_move_2 (fun H locs (P : Hp D A s (M_W cI m0 as th σ) H locs) => ?_)
  refine lv_if_eq (pc := 5) (tgt := 20) hx hb dX7_move_5 (by decide) (fun c_1 : (m_isVessel σ p0) = 0 => ?_) (fun c_1 : ¬ (m_isVessel σ p0) = 0 => ?_)
  · refine lv_iconst (pc := 20) (v := 0) hx hb dX7_move_20 (by decide) ?_
    refine lv_istore (pc := 21) (lv' := [(4, .int 0), (0, .ref m0), (1, .int p0), (2, .int p1), (3, .int p2)]) hx hb dX7_move_21 hl (by decide) rfl (fun ls hl => ?_)
    refine lv_aload_n (pc := 23) hx hb dX7_move_23 rfl (lv_at hl 1 rfl) ?_
    refine lv_iload (pc := 24) hx hb dX7_move_24 (lv_at hl 0 rfl) ?_
    refine lv_if_ne (pc := 26) (tgt := 33) hx hb dX7_move_26 (by decide) (fun h => absurd h (by decide)) (fun _ => ?_)
    refine lv_iconst (pc := 29) (v := 1) hx hb dX7_move_29 (by decide) ?_
    refine lv_goto (pc := 30) (tgt := 48) hx hb dX7_move_30 (by decide) ?_
    refine M_putT (pc := 48) (v := 1) X P (List.mem_of_getElem? (i := 1) rfl) dX7_move_48 (fun H locs (P : Hp D A s (M_W cI m0 as 1 σ) H locs) => ?_)
    refine lv_aload_n (pc := 51) hx hb dX7_move_51 rfl (lv_at hl 1 rfl) ?_
    refine M_get (pc := 52) (v := .int 1) X P 0 (Nat.le_of_ble_eq_true rfl) (List.mem_of_getElem? (i := 1) rfl) rfl dX7_move_52 ?_
    refine lv_if_ne (pc := 55) (tgt := 100) hx hb dX7_move_55 (by decide) (fun _ => ?_) (fun h => absurd h (by decide))
    refine lv_aload_n (pc := 100) hx hb dX7_move_100 rfl (lv_at hl 1 rfl) ?_
    refine M_get (pc := 101) (v := .int 1) X P 0 (Nat.le_of_ble_eq_true rfl) (List.mem_of_getElem? (i := 1) rfl) rfl dX7_move_101 ?_
    refine lv_if_le (pc := 104) (tgt := 109) hx hb dX7_move_104 (by decide) (fun h => absurd h (by decide)) (fun _ => ?_)
    refine lv_iconst (pc := 107) (v := 0) hx hb dX7_move_107 (by decide) ?_
    exact M_ret (pc := 108) (v := 0) X P (by rw [m_move, if_pos c_1]) dX7_move_108
  · have hv_2 : vp_in p0 10 := isV_in h0 c_1
    refine lv_aload_n (pc := 8) hx hb dX7_move_8 rfl (lv_at hl 0 rfl) ?_
    refine lv_iload_n (pc := 9) hx hb dX7_move_9 rfl (lv_at hl 2 rfl) ?_
    refine M_calli (pc := 10) (As := [.int p1]) (rest := []) (f := (th, m_isVessel σ p1, σ)) X P hl.1 (kX7_isVessel l D cI m0 as th σ p1) fnX7_isVessel rfl gX7_move_X7_isVessel rfl rfl ⟨Nat.le_of_ble_eq_true rfl, Nat.le_of_ble_eq_true rfl⟩ (Nat.le_of_ble_eq_true rfl) ⟨Nat.le_of_ble_eq_true rfl, Nat.le_of_ble_eq_true rfl⟩ dX7_move_10 (fun H locs (P : Hp D A s (M_W cI m0 as th σ) H locs) => ?_)
    refine lv_if_eq (pc := 13) (tgt := 20) hx hb dX7_move_13 (by decide) (fun c_3 : (m_isVessel σ p1) = 0 => ?_) (fun c_3 : ¬ (m_isVessel σ p1) = 0 => ?_)
    · refine lv_iconst (pc := 20) (v := 0) hx hb dX7_move_20 (by decide) ?_
      refine lv_istore (pc := 21) (lv' := [(4, .int 0), (0, .ref m0), (1, .int p0), (2, .int p1), (3, .int p2)]) hx hb dX7_move_21 hl (by decide) rfl (fun ls hl => ?_)
      refine lv_aload_n (pc := 23) hx hb dX7_move_23 rfl (lv_at hl 1 rfl) ?_
      refine lv_iload (pc := 24) hx hb dX7_move_24 (lv_at hl 0 rfl) ?_
      refine lv_if_ne (pc := 26) (tgt := 33) hx hb dX7_move_26 (by decide) (fun h => absurd h (by decide)) (fun _ => ?_)
      refine lv_iconst (pc := 29) (v := 1) hx hb dX7_move_29 (by decide) ?_
      refine lv_goto (pc := 30) (tgt := 48) hx hb dX7_move_30 (by decide) ?_
      refine M_putT (pc := 48) (v := 1) X P (List.mem_of_getElem? (i := 1) rfl) dX7_move_48 (fun H locs (P : Hp D A s (M_W cI m0 as 1 σ) H locs) => ?_)
      refine lv_aload_n (pc := 51) hx hb dX7_move_51 rfl (lv_at hl 1 rfl) ?_
      refine M_get (pc := 52) (v := .int 1) X P 0 (Nat.le_of_ble_eq_true rfl) (List.mem_of_getElem? (i := 1) rfl) rfl dX7_move_52 ?_
      refine lv_if_ne (pc := 55) (tgt := 100) hx hb dX7_move_55 (by decide) (fun _ => ?_) (fun h => absurd h (by decide))
      refine lv_aload_n (pc := 100) hx hb dX7_move_100 rfl (lv_at hl 1 rfl) ?_
      refine M_get (pc := 101) (v := .int 1) X P 0 (Nat.le_of_ble_eq_true rfl) (List.mem_of_getElem? (i := 1) rfl) rfl dX7_move_101 ?_
      refine lv_if_le (pc := 104) (tgt := 109) hx hb dX7_move_104 (by decide) (fun h => absurd h (by decide)) (fun _ => ?_)
      refine lv_iconst (pc := 107) (v := 0) hx hb dX7_move_107 (by decide) ?_
      exact M_ret (pc := 108) (v := 0) X P (by rw [m_move, if_neg c_1, if_pos c_3]) dX7_move_108
    · have hv_4 : vp_in p1 10 := isV_in h0 c_3
      refine lv_iconst (pc := 16) (v := 1) hx hb dX7_move_16 (by decide) ?_
      refine lv_goto (pc := 17) (tgt := 21) hx hb dX7_move_17 (by decide) ?_
      refine lv_istore (pc := 21) (lv' := [(4, .int 1), (0, .ref m0), (1, .int p0), (2, .int p1), (3, .int p2)]) hx hb dX7_move_21 hl (by decide) rfl (fun ls hl => ?_)
      refine lv_aload_n (pc := 23) hx hb dX7_move_23 rfl (lv_at hl 1 rfl) ?_
      refine lv_iload (pc := 24) hx hb dX7_move_24 (lv_at hl 0 rfl) ?_
      refine lv_if_ne (pc := 26) (tgt := 33) hx hb dX7_move_26 (by decide) (fun _ => ?_) (fun h => absurd h (by decide))
      refine lv_iload_n (pc := 33) hx hb dX7_move_33 rfl (lv_at hl 2 rfl) ?_
      refine lv_iload_n (pc := 34) hx hb dX7_move_34 rfl (lv_at hl 3 rfl) ?_
      refine lv_icmp_eq (pc := 35) (tgt := 43) hx hb dX7_move_35 (by decide) (fun c_5 : p0 = p1 => ?_) (fun c_5 : ¬ p0 = p1 => ?_)
      · refine lv_iconst (pc := 43) (v := 2) hx hb dX7_move_43 (by decide) ?_
        refine lv_goto (pc := 44) (tgt := 48) hx hb dX7_move_44 (by decide) ?_
        refine M_putT (pc := 48) (v := 2) X P (List.mem_of_getElem? (i := 1) rfl) dX7_move_48 (fun H locs (P : Hp D A s (M_W cI m0 as 2 σ) H locs) => ?_)
        refine lv_aload_n (pc := 51) hx hb dX7_move_51 rfl (lv_at hl 1 rfl) ?_
        refine M_get (pc := 52) (v := .int 2) X P 0 (Nat.le_of_ble_eq_true rfl) (List.mem_of_getElem? (i := 1) rfl) rfl dX7_move_52 ?_
        refine lv_if_ne (pc := 55) (tgt := 100) hx hb dX7_move_55 (by decide) (fun _ => ?_) (fun h => absurd h (by decide))
        refine lv_aload_n (pc := 100) hx hb dX7_move_100 rfl (lv_at hl 1 rfl) ?_
        refine M_get (pc := 101) (v := .int 2) X P 0 (Nat.le_of_ble_eq_true rfl) (List.mem_of_getElem? (i := 1) rfl) rfl dX7_move_101 ?_
        refine lv_if_le (pc := 104) (tgt := 109) hx hb dX7_move_104 (by decide) (fun h => absurd h (by decide)) (fun _ => ?_)
        refine lv_iconst (pc := 107) (v := 0) hx hb dX7_move_107 (by decide) ?_
        exact M_ret (pc := 108) (v := 0) X P (by rw [m_move, if_neg c_1, if_neg c_3, if_pos c_5]) dX7_move_108
      · refine lv_iload_n (pc := 38) hx hb dX7_move_38 rfl (lv_at hl 4 rfl) ?_
        refine lv_iconst (pc := 39) (v := 1) hx hb dX7_move_39 (by decide) ?_
        refine lv_icmp_ge (pc := 40) (tgt := 47) hx hb dX7_move_40 (by decide) (fun c_6 : 1 ≤ p2 => ?_) (fun c_6 : ¬ 1 ≤ p2 => ?_)
        · refine lv_iconst (pc := 47) (v := 0) hx hb dX7_move_47 (by decide) ?_
          refine M_putT (pc := 48) (v := 0) X P (List.mem_of_getElem? (i := 1) rfl) dX7_move_48 (fun H locs (P : Hp D A s (M_W cI m0 as 0 σ) H locs) => ?_)
          refine lv_aload_n (pc := 51) hx hb dX7_move_51 rfl (lv_at hl 1 rfl) ?_
          refine M_get (pc := 52) (v := .int 0) X P 0 (Nat.le_of_ble_eq_true rfl) (List.mem_of_getElem? (i := 1) rfl) rfl dX7_move_52 ?_
          refine lv_if_ne (pc := 55) (tgt := 100) hx hb dX7_move_55 (by decide) (fun h => absurd h (by decide)) (fun _ => ?_)
          refine lv_aload_n (pc := 58) hx hb dX7_move_58 rfl (lv_at hl 1 rfl) ?_
          refine lv_aload_n (pc := 59) hx hb dX7_move_59 rfl (lv_at hl 1 rfl) ?_
          refine M_get (pc := 60) (v := .ref (as 3)) X P 3 (Nat.le_of_ble_eq_true rfl) (List.mem_of_getElem? (i := 2) rfl) rfl dX7_move_60 ?_
          refine lv_iload_n (pc := 63) hx hb dX7_move_63 rfl (lv_at hl 2 rfl) ?_
          refine M_ald (pc := 64) (a := as 3) (n := 10) (f := σ.2 3) X P 1 rfl hv_2 dX7_move_64 ?_
          refine lv_aload_n (pc := 65) hx hb dX7_move_65 rfl (lv_at hl 1 rfl) ?_
          refine M_get (pc := 66) (v := .ref (as 3)) X P 3 (Nat.le_of_ble_eq_true rfl) (List.mem_of_getElem? (i := 2) rfl) rfl dX7_move_66 ?_
          refine lv_iload_n (pc := 69) hx hb dX7_move_69 rfl (lv_at hl 3 rfl) ?_
          refine M_ald (pc := 70) (a := as 3) (n := 10) (f := σ.2 3) X P 1 rfl hv_4 dX7_move_70 ?_
          refine lv_icmp_ne (pc := 71) (tgt := 96) hx hb dX7_move_71 (by decide) (fun c_7 : ¬ (σ.2 3 (ix p0)) = (σ.2 3 (ix p1)) => ?_) (fun c_7 : (σ.2 3 (ix p0)) = (σ.2 3 (ix p1)) => ?_)
          · refine lv_iconst (pc := 96) (v := 3) hx hb dX7_move_96 (by decide) ?_
            refine M_putT (pc := 97) (v := 3) X P (List.mem_of_getElem? (i := 1) rfl) dX7_move_97 (fun H locs (P : Hp D A s (M_W cI m0 as 3 σ) H locs) => ?_)
            refine lv_aload_n (pc := 100) hx hb dX7_move_100 rfl (lv_at hl 1 rfl) ?_
            refine M_get (pc := 101) (v := .int 3) X P 0 (Nat.le_of_ble_eq_true rfl) (List.mem_of_getElem? (i := 1) rfl) rfl dX7_move_101 ?_
            refine lv_if_le (pc := 104) (tgt := 109) hx hb dX7_move_104 (by decide) (fun h => absurd h (by decide)) (fun _ => ?_)
            refine lv_iconst (pc := 107) (v := 0) hx hb dX7_move_107 (by decide) ?_
            exact M_ret (pc := 108) (v := 0) X P (by rw [m_move, if_neg c_1, if_neg c_3, if_neg c_5, if_pos c_6, if_neg c_7]) dX7_move_108
          · refine lv_aload_n (pc := 74) hx hb dX7_move_74 rfl (lv_at hl 1 rfl) ?_
            refine lv_iload_n (pc := 75) hx hb dX7_move_75 rfl (lv_at hl 2 rfl) ?_
            refine lv_iload_n (pc := 76) hx hb dX7_move_76 rfl (lv_at hl 4 rfl) ?_
            refine M_calli (pc := 77) (As := [.int p0, .int p2]) (rest := [.ref m0]) (f := (0, m_hasPart σ p0 p2, σ)) X P hl.1 (kX7_hasPart l D cI m0 as 0 σ p0 p2 hv_2) fnX7_hasPart rfl gX7_move_X7_hasPart rfl rfl ⟨Nat.le_of_ble_eq_true rfl, Nat.le_of_ble_eq_true rfl⟩ (Nat.le_of_ble_eq_true rfl) ⟨Nat.le_of_ble_eq_true rfl, Nat.le_of_ble_eq_true rfl⟩ dX7_move_77 (fun H locs (P : Hp D A s (M_W cI m0 as 0 σ) H locs) => ?_)
            refine lv_if_eq (pc := 80) (tgt := 96) hx hb dX7_move_80 (by decide) (fun c_8 : (m_hasPart σ p0 p2) = 0 => ?_) (fun c_8 : ¬ (m_hasPart σ p0 p2) = 0 => ?_)
            · refine lv_iconst (pc := 96) (v := 3) hx hb dX7_move_96 (by decide) ?_
              refine M_putT (pc := 97) (v := 3) X P (List.mem_of_getElem? (i := 1) rfl) dX7_move_97 (fun H locs (P : Hp D A s (M_W cI m0 as 3 σ) H locs) => ?_)
              refine lv_aload_n (pc := 100) hx hb dX7_move_100 rfl (lv_at hl 1 rfl) ?_
              refine M_get (pc := 101) (v := .int 3) X P 0 (Nat.le_of_ble_eq_true rfl) (List.mem_of_getElem? (i := 1) rfl) rfl dX7_move_101 ?_
              refine lv_if_le (pc := 104) (tgt := 109) hx hb dX7_move_104 (by decide) (fun h => absurd h (by decide)) (fun _ => ?_)
              refine lv_iconst (pc := 107) (v := 0) hx hb dX7_move_107 (by decide) ?_
              exact M_ret (pc := 108) (v := 0) X P (by rw [m_move, if_neg c_1, if_neg c_3, if_neg c_5, if_pos c_6, if_pos c_7, if_pos c_8]) dX7_move_108
            · have hw_9 : ¬ σ.2 5 (ix p0) = 0 := hasP_ne c_8 c_6
              refine lv_aload_n (pc := 83) hx hb dX7_move_83 rfl (lv_at hl 1 rfl) ?_
              refine lv_iload_n (pc := 84) hx hb dX7_move_84 rfl (lv_at hl 3 rfl) ?_
              refine lv_iload_n (pc := 85) hx hb dX7_move_85 rfl (lv_at hl 4 rfl) ?_
              refine M_calli (pc := 86) (As := [.int p1, .int p2]) (rest := [.ref m0]) (f := (0, m_hasRoom σ p1 p2, σ)) X P hl.1 (kX7_hasRoom l D cI m0 as 0 σ p1 p2 hv_4) fnX7_hasRoom rfl gX7_move_X7_hasRoom rfl rfl ⟨Nat.le_of_ble_eq_true rfl, Nat.le_of_ble_eq_true rfl⟩ (Nat.le_of_ble_eq_true rfl) ⟨Nat.le_of_ble_eq_true rfl, Nat.le_of_ble_eq_true rfl⟩ dX7_move_86 (fun H locs (P : Hp D A s (M_W cI m0 as 0 σ) H locs) => ?_)
              refine lv_if_eq (pc := 89) (tgt := 96) hx hb dX7_move_89 (by decide) (fun c_10 : (m_hasRoom σ p1 p2) = 0 => ?_) (fun c_10 : ¬ (m_hasRoom σ p1 p2) = 0 => ?_)
              · refine lv_iconst (pc := 96) (v := 3) hx hb dX7_move_96 (by decide) ?_
                refine M_putT (pc := 97) (v := 3) X P (List.mem_of_getElem? (i := 1) rfl) dX7_move_97 (fun H locs (P : Hp D A s (M_W cI m0 as 3 σ) H locs) => ?_)
                refine lv_aload_n (pc := 100) hx hb dX7_move_100 rfl (lv_at hl 1 rfl) ?_
                refine M_get (pc := 101) (v := .int 3) X P 0 (Nat.le_of_ble_eq_true rfl) (List.mem_of_getElem? (i := 1) rfl) rfl dX7_move_101 ?_
                refine lv_if_le (pc := 104) (tgt := 109) hx hb dX7_move_104 (by decide) (fun h => absurd h (by decide)) (fun _ => ?_)
                refine lv_iconst (pc := 107) (v := 0) hx hb dX7_move_107 (by decide) ?_
                exact M_ret (pc := 108) (v := 0) X P (by rw [m_move, if_neg c_1, if_neg c_3, if_neg c_5, if_pos c_6, if_pos c_7, if_neg c_8, if_pos c_10]) dX7_move_108
              · refine lv_iconst (pc := 92) (v := 0) hx hb dX7_move_92 (by decide) ?_
                refine lv_goto (pc := 93) (tgt := 97) hx hb dX7_move_93 (by decide) ?_
                refine M_putT (pc := 97) (v := 0) X P (List.mem_of_getElem? (i := 1) rfl) dX7_move_97 (fun H locs (P : Hp D A s (M_W cI m0 as 0 σ) H locs) => ?_)
                refine lv_aload_n (pc := 100) hx hb dX7_move_100 rfl (lv_at hl 1 rfl) ?_
                refine M_get (pc := 101) (v := .int 0) X P 0 (Nat.le_of_ble_eq_true rfl) (List.mem_of_getElem? (i := 1) rfl) rfl dX7_move_101 ?_
                refine lv_if_le (pc := 104) (tgt := 109) hx hb dX7_move_104 (by decide) (fun _ => ?_) (fun h => absurd h (by decide))
                refine lv_aload_n (pc := 109) hx hb dX7_move_109 rfl (lv_at hl 1 rfl) ?_
                refine lv_iload_n (pc := 110) hx hb dX7_move_110 rfl (lv_at hl 3 rfl) ?_
                refine lv_iload_n (pc := 111) hx hb dX7_move_111 rfl (lv_at hl 4 rfl) ?_
                refine lv_aload_n (pc := 112) hx hb dX7_move_112 rfl (lv_at hl 1 rfl) ?_
                refine lv_iload_n (pc := 113) hx hb dX7_move_113 rfl (lv_at hl 2 rfl) ?_
                refine lv_iload_n (pc := 114) hx hb dX7_move_114 rfl (lv_at hl 4 rfl) ?_
                refine M_calli (pc := 115) (As := [.int p0, .int p2]) (rest := [.int p2, .int p1, .ref m0]) (f := (0, (m_takes σ p0 p2).1, (m_takes σ p0 p2).2)) X P hl.1 (kX7_takes l D cI m0 as 0 σ p0 p2 hv_2 hw_9) fnX7_takes rfl gX7_move_X7_takes rfl rfl ⟨Nat.le_of_ble_eq_true rfl, Nat.le_of_ble_eq_true rfl⟩ (Nat.le_of_ble_eq_true rfl) ⟨Nat.le_of_ble_eq_true rfl, Nat.le_of_ble_eq_true rfl⟩ dX7_move_115 (fun H locs (P : Hp D A s (M_W cI m0 as 0 ((m_takes σ p0 p2).2)) H locs) => ?_)
                refine M_callv (pc := 118) (As := [.int p1, .int p2, .int ((m_takes σ p0 p2).1)]) (rest := []) (f := (0, 0, m_comes ((m_takes σ p0 p2).2) p1 p2 ((m_takes σ p0 p2).1))) X P hl.1 (kX7_comes l D cI m0 as 0 ((m_takes σ p0 p2).2) p1 p2 ((m_takes σ p0 p2).1) hv_4) fnX7_comes rfl gX7_move_X7_comes rfl rfl ⟨Nat.le_of_ble_eq_true rfl, Nat.le_of_ble_eq_true rfl⟩ (Nat.le_of_ble_eq_true rfl) ⟨Nat.le_of_ble_eq_true rfl, Nat.le_of_ble_eq_true rfl⟩ dX7_move_118 (fun H locs (P : Hp D A s (M_W cI m0 as 0 (m_comes ((m_takes σ p0 p2).2) p1 p2 ((m_takes σ p0 p2).1))) H locs) => ?_)
                refine lv_aload_n (pc := 121) hx hb dX7_move_121 rfl (lv_at hl 1 rfl) ?_
                refine M_get (pc := 122) (v := .ref (as 5)) X P 5 (Nat.le_of_ble_eq_true rfl) (List.mem_of_getElem? (i := 3) rfl) rfl dX7_move_122 ?_
                refine lv_iload_n (pc := 125) hx hb dX7_move_125 rfl (lv_at hl 3 rfl) ?_
                refine M_ald (pc := 126) (a := as 5) (n := 10) (f := (m_comes ((m_takes σ p0 p2).2) p1 p2 ((m_takes σ p0 p2).1)).2 5) X P 3 rfl hv_4 dX7_move_126 ?_
                exact M_ret (pc := 127) (v := (m_comes ((m_takes σ p0 p2).2) p1 p2 ((m_takes σ p0 p2).1)).2 5 (ix p1)) X P (by rw [m_move, if_neg c_1, if_neg c_3, if_neg c_5, if_pos c_6, if_pos c_7, if_neg c_8, if_neg c_10]) dX7_move_127
        · refine lv_iconst (pc := 43) (v := 2) hx hb dX7_move_43 (by decide) ?_
          refine lv_goto (pc := 44) (tgt := 48) hx hb dX7_move_44 (by decide) ?_
          refine M_putT (pc := 48) (v := 2) X P (List.mem_of_getElem? (i := 1) rfl) dX7_move_48 (fun H locs (P : Hp D A s (M_W cI m0 as 2 σ) H locs) => ?_)
          refine lv_aload_n (pc := 51) hx hb dX7_move_51 rfl (lv_at hl 1 rfl) ?_
          refine M_get (pc := 52) (v := .int 2) X P 0 (Nat.le_of_ble_eq_true rfl) (List.mem_of_getElem? (i := 1) rfl) rfl dX7_move_52 ?_
          refine lv_if_ne (pc := 55) (tgt := 100) hx hb dX7_move_55 (by decide) (fun _ => ?_) (fun h => absurd h (by decide))
          refine lv_aload_n (pc := 100) hx hb dX7_move_100 rfl (lv_at hl 1 rfl) ?_
          refine M_get (pc := 101) (v := .int 2) X P 0 (Nat.le_of_ble_eq_true rfl) (List.mem_of_getElem? (i := 1) rfl) rfl dX7_move_101 ?_
          refine lv_if_le (pc := 104) (tgt := 109) hx hb dX7_move_104 (by decide) (fun h => absurd h (by decide)) (fun _ => ?_)
          refine lv_iconst (pc := 107) (v := 0) hx hb dX7_move_107 (by decide) ?_
          exact M_ret (pc := 108) (v := 0) X P (by rw [m_move, if_neg c_1, if_neg c_3, if_neg c_5, if_neg c_6]) dX7_move_108
def m_dip (σ : Sg) (p0 : Int32) (p1 : Int32) (p2 : Int32) : Int32 × Int32 × Sg := if (m_isVessel σ p0) = 0 then (1, 0, σ) else if (m_in p1 0 (σ.2 4 (ix p0))) = 0 then (2, 0, σ) else if (m_in p2 0 960) = 0 then (2, 0, σ) else if (σ.1 9) = 60 then (3, 0, σ) else if ((σ.2 6 (ix p0)) - (p1 * p2)) ≤ ((σ.2 6 (ix p0)) / 100) then (if ((σ.2 6 (ix p0)) - (p1 * p2)) ≤ 0 then (0, (σ.2 6 (ix p0)) - (p1 * p2), (bs (bs (bs (zs σ 9 ((σ.1 9) + 1)) 10 0 ((σ.2 10 0) - ((σ.2 6 (ix p0)) - (p1 * p2)))) 5 (ix p0) p1) 6 (ix p0) (p1 * p2))) else (0, (σ.2 6 (ix p0)) - (p1 * p2), (bs (bs (bs (zs σ 9 ((σ.1 9) + 1)) 10 4 ((σ.2 10 4) + ((σ.2 6 (ix p0)) - (p1 * p2)))) 5 (ix p0) p1) 6 (ix p0) (p1 * p2)))) else (0, (σ.2 6 (ix p0)) - (p1 * p2), (bs (bs (m_misses (zs σ 9 ((σ.1 9) + 1)) ((σ.2 6 (ix p0)) - (p1 * p2))).2 5 (ix p0) p1) 6 (ix p0) (p1 * p2)))
abbrev rX7_dip : Room := { frames := 2, cells := 0, slots := 0, locals := 44 }
theorem fnX7_dip : Fn yX7_dip wsX7_dip cX7_dip 6 (some .int) 3 rX7_dip 0 0 := ⟨⟨_, rfl⟩, rfl, rfl, by decide +kernel⟩
theorem inX7_dip : ∀ w ∈ wsX70, w ∈ wsX7_dip := fun w h => List.mem_cons_of_mem _ (List.mem_append_right _ h)
set_option maxHeartbeats 4000000 in
set_option maxRecDepth 100000 in
theorem kX7_dip (l : Launch) (D : va_G) (cI : ClassId) (m0 : Nat) (as : Nat → Nat) (th : Int32) (σ : Sg) (p0 : Int32) (p1 : Int32) (p2 : Int32) (h0 : Cnt σ 2 10) : M_Mi l yX7_dip wsX7_dip rX7_dip D cI m0 as th σ [.int p0, .int p1, .int p2] (m_dip σ p0 p1 p2) := by
  refine M_body (n := 3) (Qc := fun A => M_Qi D cI m0 as (m_dip σ p0 p1 p2) A) rfl fnX7_dip inX7_dip (Nat.le_of_ble_eq_true rfl) ?_
  intro p e s m args below meth c X A P ls hl
  have hx := X.1.1
  have hb := X.1.2.1
  have hown := X.1.2.2.2.1
  have hts := X.1.2.2.2.2.1
  have hl : lv_has ls 6 [(0, .ref m0), (1, .int p0), (2, .int p1), (3, .int p2)] := hl
  refine lv_aload_n (pc := 0) hx hb dX7_dip_0 rfl (lv_at hl 0 rfl) ?_
  refine lv_iload_n (pc := 1) hx hb dX7_dip_1 rfl (lv_at hl 1 rfl) ?_
  refine M_calli (pc := 2) (As := [.int p0]) (rest := []) (f := (th, m_isVessel σ p0, σ)) X P hl.1 (kX7_isVessel l D cI m0 as th σ p0) fnX7_isVessel rfl gX7_dip_X7_isVessel rfl rfl ⟨Nat.le_of_ble_eq_true rfl, Nat.le_of_ble_eq_true rfl⟩ (Nat.le_of_ble_eq_true rfl) ⟨Nat.le_of_ble_eq_true rfl, Nat.le_of_ble_eq_true rfl⟩ dX7_dip_2 (fun H locs (P : Hp D A s (M_W cI m0 as th σ) H locs) => ?_)
  refine lv_istore (pc := 5) (lv' := [(4, .int (m_isVessel σ p0)), (0, .ref m0), (1, .int p0), (2, .int p1), (3, .int p2)]) hx hb dX7_dip_5 hl (by decide) rfl (fun ls hl => ?_)
  refine lv_aload_n (pc := 7) hx hb dX7_dip_7 rfl (lv_at hl 1 rfl) ?_
  refine lv_iload (pc := 8) hx hb dX7_dip_8 (lv_at hl 0 rfl) ?_
  refine lv_if_ne (pc := 10) (tgt := 17) hx hb dX7_dip_10 (by decide) (fun c_1 : ¬ (m_isVessel σ p0) = 0 => ?_) (fun c_1 : (m_isVessel σ p0) = 0 => ?_)
  · have hv_2 : vp_in p0 10 := isV_in h0 c_1
    refine lv_iload_n (pc := 17) hx hb dX7_dip_17 rfl (lv_at hl 3 rfl) ?_
    refine lv_iconst (pc := 18) (v := 0) hx hb dX7_dip_18 (by decide) ?_
    refine lv_aload_n (pc := 19) hx hb dX7_dip_19 rfl (lv_at hl 1 rfl) ?_
    refine M_get (pc := 20) (v := .ref (as 4)) X P 4 (Nat.le_of_ble_eq_true rfl) (List.mem_of_getElem? (i := 1) rfl) rfl dX7_dip_20 ?_
    refine lv_iload_n (pc := 23) hx hb dX7_dip_23 rfl (lv_at hl 2 rfl) ?_
    refine M_ald (pc := 24) (a := as 4) (n := 10) (f := σ.2 4) X P 2 rfl hv_2 dX7_dip_24 ?_
    refine S_call (pc := 25) (As := [.int p1, .int 0, .int (σ.2 4 (ix p0))]) (rest := [.ref m0]) (r := m_in p1 0 (σ.2 4 (ix p0))) X.1 hl.1 (kX7_in l p1 0 (σ.2 4 (ix p0))) fnX7_in gX7_dip_X7_in rfl rfl ⟨Nat.le_of_ble_eq_true rfl, Nat.le_of_ble_eq_true rfl⟩ (Nat.le_of_ble_eq_true rfl) ⟨Nat.le_of_ble_eq_true rfl, Nat.le_of_ble_eq_true rfl⟩ dX7_dip_25 ?_
    refine lv_if_eq (pc := 28) (tgt := 42) hx hb dX7_dip_28 (by decide) (fun c_3 : (m_in p1 0 (σ.2 4 (ix p0))) = 0 => ?_) (fun c_3 : ¬ (m_in p1 0 (σ.2 4 (ix p0))) = 0 => ?_)
    · refine lv_iconst (pc := 42) (v := 2) hx hb dX7_dip_42 (by decide) ?_
      refine lv_goto (pc := 43) (tgt := 60) hx hb dX7_dip_43 (by decide) ?_
      refine M_putT (pc := 60) (v := 2) X P (List.mem_of_getElem? (i := 3) rfl) dX7_dip_60 (fun H locs (P : Hp D A s (M_W cI m0 as 2 σ) H locs) => ?_)
      refine lv_aload_n (pc := 63) hx hb dX7_dip_63 rfl (lv_at hl 1 rfl) ?_
      refine M_get (pc := 64) (v := .int 2) X P 0 (Nat.le_of_ble_eq_true rfl) (List.mem_of_getElem? (i := 3) rfl) rfl dX7_dip_64 ?_
      refine lv_if_le (pc := 67) (tgt := 72) hx hb dX7_dip_67 (by decide) (fun h => absurd h (by decide)) (fun _ => ?_)
      refine lv_iconst (pc := 70) (v := 0) hx hb dX7_dip_70 (by decide) ?_
      exact M_ret (pc := 71) (v := 0) X P (by rw [m_dip, if_neg c_1, if_pos c_3]) dX7_dip_71
    · refine lv_iload_n (pc := 31) hx hb dX7_dip_31 rfl (lv_at hl 4 rfl) ?_
      refine lv_iconst (pc := 32) (v := 0) hx hb dX7_dip_32 (by decide) ?_
      refine lv_sipush (pc := 33) (v := 960) hx hb dX7_dip_33 (by decide) ?_
      refine S_call (pc := 36) (As := [.int p2, .int 0, .int 960]) (rest := [.ref m0]) (r := m_in p2 0 960) X.1 hl.1 (kX7_in l p2 0 960) fnX7_in gX7_dip_X7_in rfl rfl ⟨Nat.le_of_ble_eq_true rfl, Nat.le_of_ble_eq_true rfl⟩ (Nat.le_of_ble_eq_true rfl) ⟨Nat.le_of_ble_eq_true rfl, Nat.le_of_ble_eq_true rfl⟩ dX7_dip_36 ?_
      refine lv_if_ne (pc := 39) (tgt := 46) hx hb dX7_dip_39 (by decide) (fun c_4 : ¬ (m_in p2 0 960) = 0 => ?_) (fun c_4 : (m_in p2 0 960) = 0 => ?_)
      · have hv_5 : vp_in p2 961 := in_vp (by decide) c_4
        refine lv_aload_n (pc := 46) hx hb dX7_dip_46 rfl (lv_at hl 1 rfl) ?_
        refine M_get (pc := 47) (v := .int (σ.1 9)) X P 9 (Nat.le_of_ble_eq_true rfl) (List.mem_of_getElem? (i := 2) rfl) rfl dX7_dip_47 ?_
        refine lv_bipush (pc := 50) (v := 60) hx hb dX7_dip_50 (by decide) ?_
        refine lv_icmp_ne (pc := 52) (tgt := 59) hx hb dX7_dip_52 (by decide) (fun c_6 : ¬ (σ.1 9) = 60 => ?_) (fun c_6 : (σ.1 9) = 60 => ?_)
        · refine lv_iconst (pc := 59) (v := 0) hx hb dX7_dip_59 (by decide) ?_
          refine M_putT (pc := 60) (v := 0) X P (List.mem_of_getElem? (i := 3) rfl) dX7_dip_60 (fun H locs (P : Hp D A s (M_W cI m0 as 0 σ) H locs) => ?_)
          refine lv_aload_n (pc := 63) hx hb dX7_dip_63 rfl (lv_at hl 1 rfl) ?_
          refine M_get (pc := 64) (v := .int 0) X P 0 (Nat.le_of_ble_eq_true rfl) (List.mem_of_getElem? (i := 3) rfl) rfl dX7_dip_64 ?_
          refine lv_if_le (pc := 67) (tgt := 72) hx hb dX7_dip_67 (by decide) (fun _ => ?_) (fun h => absurd h (by decide))
          refine lv_aload_n (pc := 72) hx hb dX7_dip_72 rfl (lv_at hl 1 rfl) ?_
          refine lv_dup (pc := 73) hx hb dX7_dip_73 rfl ?_
          refine M_get (pc := 74) (v := .int (σ.1 9)) X P 9 (Nat.le_of_ble_eq_true rfl) (List.mem_of_getElem? (i := 2) rfl) rfl dX7_dip_74 ?_
          refine lv_iconst (pc := 77) (v := 1) hx hb dX7_dip_77 (by decide) ?_
          refine lv_iadd (pc := 78) hx hb dX7_dip_78 ?_
          refine M_putS (pc := 79) (v := (σ.1 9) + 1) X P 9 (Nat.le_of_ble_eq_true rfl) (List.mem_of_getElem? (i := 2) rfl) rfl rfl M_s9 dX7_dip_79 (fun H locs (P : Hp D A s (M_W cI m0 as 0 (zs σ 9 ((σ.1 9) + 1))) H locs) => ?_)
          refine lv_aload_n (pc := 82) hx hb dX7_dip_82 rfl (lv_at hl 1 rfl) ?_
          refine M_get (pc := 83) (v := .ref (as 6)) X P 6 (Nat.le_of_ble_eq_true rfl) (List.mem_of_getElem? (i := 4) rfl) rfl dX7_dip_83 ?_
          refine lv_iload_n (pc := 86) hx hb dX7_dip_86 rfl (lv_at hl 2 rfl) ?_
          refine M_ald (pc := 87) (a := as 6) (n := 10) (f := σ.2 6) X P 4 rfl hv_2 dX7_dip_87 ?_
          refine lv_iload_n (pc := 88) hx hb dX7_dip_88 rfl (lv_at hl 3 rfl) ?_
          refine lv_iload_n (pc := 89) hx hb dX7_dip_89 rfl (lv_at hl 4 rfl) ?_
          refine lv_imul (pc := 90) hx hb dX7_dip_90 ?_
          refine lv_isub (pc := 91) hx hb dX7_dip_91 ?_
          refine lv_istore (pc := 92) (lv' := [(5, .int ((σ.2 6 (ix p0)) - (p1 * p2))), (4, .int (m_isVessel σ p0)), (0, .ref m0), (1, .int p0), (2, .int p1), (3, .int p2)]) hx hb dX7_dip_92 hl (by decide) rfl (fun ls hl => ?_)
          refine lv_iload (pc := 94) hx hb dX7_dip_94 (lv_at hl 0 rfl) ?_
          refine lv_aload_n (pc := 96) hx hb dX7_dip_96 rfl (lv_at hl 2 rfl) ?_
          refine M_get (pc := 97) (v := .ref (as 6)) X P 6 (Nat.le_of_ble_eq_true rfl) (List.mem_of_getElem? (i := 4) rfl) rfl dX7_dip_97 ?_
          refine lv_iload_n (pc := 100) hx hb dX7_dip_100 rfl (lv_at hl 3 rfl) ?_
          refine M_ald (pc := 101) (a := as 6) (n := 10) (f := σ.2 6) X P 4 rfl hv_2 dX7_dip_101 ?_
          refine lv_bipush (pc := 102) (v := 100) hx hb dX7_dip_102 (by decide) ?_
          refine lv_idiv (pc := 104) hx hb dX7_dip_104 (by decide) ?_
          refine lv_icmp_le (pc := 105) (tgt := 118) hx hb dX7_dip_105 (by decide) (fun c_7 : ((σ.2 6 (ix p0)) - (p1 * p2)) ≤ ((σ.2 6 (ix p0)) / 100) => ?_) (fun c_7 : ¬ ((σ.2 6 (ix p0)) - (p1 * p2)) ≤ ((σ.2 6 (ix p0)) / 100) => ?_)
          · refine lv_iload (pc := 118) hx hb dX7_dip_118 (lv_at hl 0 rfl) ?_
            refine lv_if_le (pc := 120) (tgt := 137) hx hb dX7_dip_120 (by decide) (fun c_8 : ((σ.2 6 (ix p0)) - (p1 * p2)) ≤ 0 => ?_) (fun c_8 : ¬ ((σ.2 6 (ix p0)) - (p1 * p2)) ≤ 0 => ?_)
            · refine lv_aload_n (pc := 137) hx hb dX7_dip_137 rfl (lv_at hl 2 rfl) ?_
              refine M_get (pc := 138) (v := .ref (as 10)) X P 10 (Nat.le_of_ble_eq_true rfl) (List.mem_of_getElem? (i := 5) rfl) rfl dX7_dip_138 ?_
              refine lv_iconst (pc := 141) (v := 0) hx hb dX7_dip_141 (by decide) ?_
              refine lv_dup2_11 (pc := 142) hx hb dX7_dip_142 rfl rfl ?_
              refine M_ald (pc := 143) (a := as 10) (n := 8) (f := σ.2 10) X P 6 rfl (vp_dec (by decide)) dX7_dip_143 ?_
              refine lv_iload (pc := 144) hx hb dX7_dip_144 (lv_at hl 0 rfl) ?_
              refine lv_isub (pc := 146) hx hb dX7_dip_146 ?_
              refine M_ast (pc := 147) (x := (σ.2 10 0) - ((σ.2 6 (ix p0)) - (p1 * p2))) (n := 8) X P 6 10 rfl (vp_dec (by decide)) M_a10 dX7_dip_147 (fun H locs (P : Hp D A s (M_W cI m0 as 0 (bs (zs σ 9 ((σ.1 9) + 1)) 10 0 ((σ.2 10 0) - ((σ.2 6 (ix p0)) - (p1 * p2))))) H locs) => ?_)
              refine lv_aload_n (pc := 148) hx hb dX7_dip_148 rfl (lv_at hl 2 rfl) ?_
              refine M_get (pc := 149) (v := .ref (as 5)) X P 5 (Nat.le_of_ble_eq_true rfl) (List.mem_of_getElem? (i := 6) rfl) rfl dX7_dip_149 ?_
              refine lv_iload_n (pc := 152) hx hb dX7_dip_152 rfl (lv_at hl 3 rfl) ?_
              refine lv_iload_n (pc := 153) hx hb dX7_dip_153 rfl (lv_at hl 4 rfl) ?_
              refine M_ast (pc := 154) (x := p1) (n := 10) X P 3 5 rfl hv_2 M_a5 dX7_dip_154 (fun H locs (P : Hp D A s (M_W cI m0 as 0 (bs (bs (zs σ 9 ((σ.1 9) + 1)) 10 0 ((σ.2 10 0) - ((σ.2 6 (ix p0)) - (p1 * p2)))) 5 (ix p0) p1)) H locs) => ?_)
              refine lv_aload_n (pc := 155) hx hb dX7_dip_155 rfl (lv_at hl 2 rfl) ?_
              refine M_get (pc := 156) (v := .ref (as 6)) X P 6 (Nat.le_of_ble_eq_true rfl) (List.mem_of_getElem? (i := 4) rfl) rfl dX7_dip_156 ?_
              refine lv_iload_n (pc := 159) hx hb dX7_dip_159 rfl (lv_at hl 3 rfl) ?_
              refine lv_iload_n (pc := 160) hx hb dX7_dip_160 rfl (lv_at hl 4 rfl) ?_
              refine lv_iload_n (pc := 161) hx hb dX7_dip_161 rfl (lv_at hl 5 rfl) ?_
              refine lv_imul (pc := 162) hx hb dX7_dip_162 ?_
              refine M_ast (pc := 163) (x := p1 * p2) (n := 10) X P 4 6 rfl hv_2 M_a6 dX7_dip_163 (fun H locs (P : Hp D A s (M_W cI m0 as 0 (bs (bs (bs (zs σ 9 ((σ.1 9) + 1)) 10 0 ((σ.2 10 0) - ((σ.2 6 (ix p0)) - (p1 * p2)))) 5 (ix p0) p1) 6 (ix p0) (p1 * p2))) H locs) => ?_)
              refine lv_iload (pc := 164) hx hb dX7_dip_164 (lv_at hl 0 rfl) ?_
              exact M_ret (pc := 166) (v := (σ.2 6 (ix p0)) - (p1 * p2)) X P (by rw [m_dip, if_neg c_1, if_neg c_3, if_neg c_4, if_neg c_6, if_pos c_7, if_pos c_8]) dX7_dip_166
            · refine lv_aload_n (pc := 123) hx hb dX7_dip_123 rfl (lv_at hl 2 rfl) ?_
              refine M_get (pc := 124) (v := .ref (as 10)) X P 10 (Nat.le_of_ble_eq_true rfl) (List.mem_of_getElem? (i := 5) rfl) rfl dX7_dip_124 ?_
              refine lv_iconst (pc := 127) (v := 4) hx hb dX7_dip_127 (by decide) ?_
              refine lv_dup2_11 (pc := 128) hx hb dX7_dip_128 rfl rfl ?_
              refine M_ald (pc := 129) (a := as 10) (n := 8) (f := σ.2 10) X P 6 rfl (vp_dec (by decide)) dX7_dip_129 ?_
              refine lv_iload (pc := 130) hx hb dX7_dip_130 (lv_at hl 0 rfl) ?_
              refine lv_iadd (pc := 132) hx hb dX7_dip_132 ?_
              refine M_ast (pc := 133) (x := (σ.2 10 4) + ((σ.2 6 (ix p0)) - (p1 * p2))) (n := 8) X P 6 10 rfl (vp_dec (by decide)) M_a10 dX7_dip_133 (fun H locs (P : Hp D A s (M_W cI m0 as 0 (bs (zs σ 9 ((σ.1 9) + 1)) 10 4 ((σ.2 10 4) + ((σ.2 6 (ix p0)) - (p1 * p2))))) H locs) => ?_)
              refine lv_goto (pc := 134) (tgt := 148) hx hb dX7_dip_134 (by decide) ?_
              refine lv_aload_n (pc := 148) hx hb dX7_dip_148 rfl (lv_at hl 2 rfl) ?_
              refine M_get (pc := 149) (v := .ref (as 5)) X P 5 (Nat.le_of_ble_eq_true rfl) (List.mem_of_getElem? (i := 6) rfl) rfl dX7_dip_149 ?_
              refine lv_iload_n (pc := 152) hx hb dX7_dip_152 rfl (lv_at hl 3 rfl) ?_
              refine lv_iload_n (pc := 153) hx hb dX7_dip_153 rfl (lv_at hl 4 rfl) ?_
              refine M_ast (pc := 154) (x := p1) (n := 10) X P 3 5 rfl hv_2 M_a5 dX7_dip_154 (fun H locs (P : Hp D A s (M_W cI m0 as 0 (bs (bs (zs σ 9 ((σ.1 9) + 1)) 10 4 ((σ.2 10 4) + ((σ.2 6 (ix p0)) - (p1 * p2)))) 5 (ix p0) p1)) H locs) => ?_)
              refine lv_aload_n (pc := 155) hx hb dX7_dip_155 rfl (lv_at hl 2 rfl) ?_
              refine M_get (pc := 156) (v := .ref (as 6)) X P 6 (Nat.le_of_ble_eq_true rfl) (List.mem_of_getElem? (i := 4) rfl) rfl dX7_dip_156 ?_
              refine lv_iload_n (pc := 159) hx hb dX7_dip_159 rfl (lv_at hl 3 rfl) ?_
              refine lv_iload_n (pc := 160) hx hb dX7_dip_160 rfl (lv_at hl 4 rfl) ?_
              refine lv_iload_n (pc := 161) hx hb dX7_dip_161 rfl (lv_at hl 5 rfl) ?_
              refine lv_imul (pc := 162) hx hb dX7_dip_162 ?_
              refine M_ast (pc := 163) (x := p1 * p2) (n := 10) X P 4 6 rfl hv_2 M_a6 dX7_dip_163 (fun H locs (P : Hp D A s (M_W cI m0 as 0 (bs (bs (bs (zs σ 9 ((σ.1 9) + 1)) 10 4 ((σ.2 10 4) + ((σ.2 6 (ix p0)) - (p1 * p2)))) 5 (ix p0) p1) 6 (ix p0) (p1 * p2))) H locs) => ?_)
              refine lv_iload (pc := 164) hx hb dX7_dip_164 (lv_at hl 0 rfl) ?_
              exact M_ret (pc := 166) (v := (σ.2 6 (ix p0)) - (p1 * p2)) X P (by rw [m_dip, if_neg c_1, if_neg c_3, if_neg c_4, if_neg c_6, if_pos c_7, if_neg c_8]) dX7_dip_166
          · refine lv_aload_n (pc := 108) hx hb dX7_dip_108 rfl (lv_at hl 2 rfl) ?_
            refine lv_iload (pc := 109) hx hb dX7_dip_109 (lv_at hl 0 rfl) ?_
            refine M_calli (pc := 111) (As := [.int ((σ.2 6 (ix p0)) - (p1 * p2))]) (rest := []) (f := (0, (m_misses (zs σ 9 ((σ.1 9) + 1)) ((σ.2 6 (ix p0)) - (p1 * p2))).1, (m_misses (zs σ 9 ((σ.1 9) + 1)) ((σ.2 6 (ix p0)) - (p1 * p2))).2)) X P hl.1 (kX7_misses l D cI m0 as 0 (zs σ 9 ((σ.1 9) + 1)) ((σ.2 6 (ix p0)) - (p1 * p2))) fnX7_misses rfl gX7_dip_X7_misses rfl rfl ⟨Nat.le_of_ble_eq_true rfl, Nat.le_of_ble_eq_true rfl⟩ (Nat.le_of_ble_eq_true rfl) ⟨Nat.le_of_ble_eq_true rfl, Nat.le_of_ble_eq_true rfl⟩ dX7_dip_111 (fun H locs (P : Hp D A s (M_W cI m0 as 0 ((m_misses (zs σ 9 ((σ.1 9) + 1)) ((σ.2 6 (ix p0)) - (p1 * p2))).2)) H locs) => ?_)
            refine lv_pop (pc := 114) hx hb dX7_dip_114 rfl ?_
            refine lv_goto (pc := 115) (tgt := 148) hx hb dX7_dip_115 (by decide) ?_
            refine lv_aload_n (pc := 148) hx hb dX7_dip_148 rfl (lv_at hl 2 rfl) ?_
            refine M_get (pc := 149) (v := .ref (as 5)) X P 5 (Nat.le_of_ble_eq_true rfl) (List.mem_of_getElem? (i := 6) rfl) rfl dX7_dip_149 ?_
            refine lv_iload_n (pc := 152) hx hb dX7_dip_152 rfl (lv_at hl 3 rfl) ?_
            refine lv_iload_n (pc := 153) hx hb dX7_dip_153 rfl (lv_at hl 4 rfl) ?_
            refine M_ast (pc := 154) (x := p1) (n := 10) X P 3 5 rfl hv_2 M_a5 dX7_dip_154 (fun H locs (P : Hp D A s (M_W cI m0 as 0 (bs (m_misses (zs σ 9 ((σ.1 9) + 1)) ((σ.2 6 (ix p0)) - (p1 * p2))).2 5 (ix p0) p1)) H locs) => ?_)
            refine lv_aload_n (pc := 155) hx hb dX7_dip_155 rfl (lv_at hl 2 rfl) ?_
            refine M_get (pc := 156) (v := .ref (as 6)) X P 6 (Nat.le_of_ble_eq_true rfl) (List.mem_of_getElem? (i := 4) rfl) rfl dX7_dip_156 ?_
            refine lv_iload_n (pc := 159) hx hb dX7_dip_159 rfl (lv_at hl 3 rfl) ?_
            refine lv_iload_n (pc := 160) hx hb dX7_dip_160 rfl (lv_at hl 4 rfl) ?_
            refine lv_iload_n (pc := 161) hx hb dX7_dip_161 rfl (lv_at hl 5 rfl) ?_
            refine lv_imul (pc := 162) hx hb dX7_dip_162 ?_
            refine M_ast (pc := 163) (x := p1 * p2) (n := 10) X P 4 6 rfl hv_2 M_a6 dX7_dip_163 (fun H locs (P : Hp D A s (M_W cI m0 as 0 (bs (bs (m_misses (zs σ 9 ((σ.1 9) + 1)) ((σ.2 6 (ix p0)) - (p1 * p2))).2 5 (ix p0) p1) 6 (ix p0) (p1 * p2))) H locs) => ?_)
            refine lv_iload (pc := 164) hx hb dX7_dip_164 (lv_at hl 0 rfl) ?_
            exact M_ret (pc := 166) (v := (σ.2 6 (ix p0)) - (p1 * p2)) X P (by rw [m_dip, if_neg c_1, if_neg c_3, if_neg c_4, if_neg c_6, if_neg c_7]) dX7_dip_166
        · refine lv_iconst (pc := 55) (v := 3) hx hb dX7_dip_55 (by decide) ?_
          refine lv_goto (pc := 56) (tgt := 60) hx hb dX7_dip_56 (by decide) ?_
          refine M_putT (pc := 60) (v := 3) X P (List.mem_of_getElem? (i := 3) rfl) dX7_dip_60 (fun H locs (P : Hp D A s (M_W cI m0 as 3 σ) H locs) => ?_)
          refine lv_aload_n (pc := 63) hx hb dX7_dip_63 rfl (lv_at hl 1 rfl) ?_
          refine M_get (pc := 64) (v := .int 3) X P 0 (Nat.le_of_ble_eq_true rfl) (List.mem_of_getElem? (i := 3) rfl) rfl dX7_dip_64 ?_
          refine lv_if_le (pc := 67) (tgt := 72) hx hb dX7_dip_67 (by decide) (fun h => absurd h (by decide)) (fun _ => ?_)
          refine lv_iconst (pc := 70) (v := 0) hx hb dX7_dip_70 (by decide) ?_
          exact M_ret (pc := 71) (v := 0) X P (by rw [m_dip, if_neg c_1, if_neg c_3, if_neg c_4, if_pos c_6]) dX7_dip_71
      · refine lv_iconst (pc := 42) (v := 2) hx hb dX7_dip_42 (by decide) ?_
        refine lv_goto (pc := 43) (tgt := 60) hx hb dX7_dip_43 (by decide) ?_
        refine M_putT (pc := 60) (v := 2) X P (List.mem_of_getElem? (i := 3) rfl) dX7_dip_60 (fun H locs (P : Hp D A s (M_W cI m0 as 2 σ) H locs) => ?_)
        refine lv_aload_n (pc := 63) hx hb dX7_dip_63 rfl (lv_at hl 1 rfl) ?_
        refine M_get (pc := 64) (v := .int 2) X P 0 (Nat.le_of_ble_eq_true rfl) (List.mem_of_getElem? (i := 3) rfl) rfl dX7_dip_64 ?_
        refine lv_if_le (pc := 67) (tgt := 72) hx hb dX7_dip_67 (by decide) (fun h => absurd h (by decide)) (fun _ => ?_)
        refine lv_iconst (pc := 70) (v := 0) hx hb dX7_dip_70 (by decide) ?_
        exact M_ret (pc := 71) (v := 0) X P (by rw [m_dip, if_neg c_1, if_neg c_3, if_pos c_4]) dX7_dip_71
  · refine lv_iconst (pc := 13) (v := 1) hx hb dX7_dip_13 (by decide) ?_
    refine lv_goto (pc := 14) (tgt := 60) hx hb dX7_dip_14 (by decide) ?_
    refine M_putT (pc := 60) (v := 1) X P (List.mem_of_getElem? (i := 3) rfl) dX7_dip_60 (fun H locs (P : Hp D A s (M_W cI m0 as 1 σ) H locs) => ?_)
    refine lv_aload_n (pc := 63) hx hb dX7_dip_63 rfl (lv_at hl 1 rfl) ?_
    refine M_get (pc := 64) (v := .int 1) X P 0 (Nat.le_of_ble_eq_true rfl) (List.mem_of_getElem? (i := 3) rfl) rfl dX7_dip_64 ?_
    refine lv_if_le (pc := 67) (tgt := 72) hx hb dX7_dip_67 (by decide) (fun h => absurd h (by decide)) (fun _ => ?_)
    refine lv_iconst (pc := 70) (v := 0) hx hb dX7_dip_70 (by decide) ?_
    exact M_ret (pc := 71) (v := 0) X P (by rw [m_dip, if_pos c_1]) dX7_dip_71
def m_lose (σ : Sg) (p0 : Int32) (p1 : Int32) (p2 : Int32) : Int32 × Int32 × Sg := if ((m_asksPart σ p0 p1).2) = 0 then ((m_asksPart σ p0 p1).1, 0, σ) else if p2 = 0 then ((m_asksPart σ p0 p1).1, (m_misses (bs (m_takes σ p0 p1).2 10 4 ((σ.2 10 4) + 0)) ((m_takes σ p0 p1).1)).1, (m_misses (bs (m_takes σ p0 p1).2 10 4 ((σ.2 10 4) + 0)) ((m_takes σ p0 p1).1)).2) else ((m_asksPart σ p0 p1).1, 0, (bs (m_takes σ p0 p1).2 10 4 ((σ.2 10 4) + ((m_takes σ p0 p1).1))))
abbrev rX7_lose : Room := { frames := 3, cells := 0, slots := 0, locals := 65 }
theorem fnX7_lose : Fn yX7_lose wsX7_lose cX7_lose 5 (some .int) 3 rX7_lose 0 0 := ⟨⟨_, rfl⟩, rfl, rfl, by decide +kernel⟩
theorem inX7_lose : ∀ w ∈ wsX70, w ∈ wsX7_lose := fun w h => List.mem_cons_of_mem _ (List.mem_append_right _ h)
set_option maxHeartbeats 4000000 in
set_option maxRecDepth 100000 in
theorem kX7_lose (l : Launch) (D : va_G) (cI : ClassId) (m0 : Nat) (as : Nat → Nat) (th : Int32) (σ : Sg) (p0 : Int32) (p1 : Int32) (p2 : Int32) (h0 : Cnt σ 2 10) : M_Mi l yX7_lose wsX7_lose rX7_lose D cI m0 as th σ [.int p0, .int p1, .int p2] (m_lose σ p0 p1 p2) := by
  refine M_body (n := 3) (Qc := fun A => M_Qi D cI m0 as (m_lose σ p0 p1 p2) A) rfl fnX7_lose inX7_lose (Nat.le_of_ble_eq_true rfl) ?_
  intro p e s m args below meth c X A P ls hl
  have hx := X.1.1
  have hb := X.1.2.1
  have hown := X.1.2.2.2.1
  have hts := X.1.2.2.2.2.1
  have hl : lv_has ls 5 [(0, .ref m0), (1, .int p0), (2, .int p1), (3, .int p2)] := hl
  refine lv_aload_n (pc := 0) hx hb dX7_lose_0 rfl (lv_at hl 0 rfl) ?_
  refine lv_iload_n (pc := 1) hx hb dX7_lose_1 rfl (lv_at hl 1 rfl) ?_
  refine lv_iload_n (pc := 2) hx hb dX7_lose_2 rfl (lv_at hl 2 rfl) ?_
  refine M_calli (pc := 3) (As := [.int p0, .int p1]) (rest := []) (f := ((m_asksPart σ p0 p1).1, (m_asksPart σ p0 p1).2, σ)) X P hl.1 (kX7_asksPart l D cI m0 as th σ p0 p1 h0) fnX7_asksPart rfl gX7_lose_X7_asksPart rfl rfl ⟨Nat.le_of_ble_eq_true rfl, Nat.le_of_ble_eq_true rfl⟩ (Nat.le_of_ble_eq_true rfl) ⟨Nat.le_of_ble_eq_true rfl, Nat.le_of_ble_eq_true rfl⟩ dX7_lose_3 (fun H locs (P : Hp D A s (M_W cI m0 as ((m_asksPart σ p0 p1).1) σ) H locs) => ?_)
  refine lv_if_ne (pc := 6) (tgt := 11) hx hb dX7_lose_6 (by decide) (fun c_1 : ¬ ((m_asksPart σ p0 p1).2) = 0 => ?_) (fun c_1 : ((m_asksPart σ p0 p1).2) = 0 => ?_)
  · have hv_2 : vp_in p0 10 := (asks_in h0 c_1).1
    have hw_3 : ¬ σ.2 5 (ix p0) = 0 := (asks_in h0 c_1).2
    refine lv_aload_n (pc := 11) hx hb dX7_lose_11 rfl (lv_at hl 0 rfl) ?_
    refine lv_iload_n (pc := 12) hx hb dX7_lose_12 rfl (lv_at hl 1 rfl) ?_
    refine lv_iload_n (pc := 13) hx hb dX7_lose_13 rfl (lv_at hl 2 rfl) ?_
    refine M_calli (pc := 14) (As := [.int p0, .int p1]) (rest := []) (f := ((m_asksPart σ p0 p1).1, (m_takes σ p0 p1).1, (m_takes σ p0 p1).2)) X P hl.1 (kX7_takes l D cI m0 as ((m_asksPart σ p0 p1).1) σ p0 p1 hv_2 hw_3) fnX7_takes rfl gX7_lose_X7_takes rfl rfl ⟨Nat.le_of_ble_eq_true rfl, Nat.le_of_ble_eq_true rfl⟩ (Nat.le_of_ble_eq_true rfl) ⟨Nat.le_of_ble_eq_true rfl, Nat.le_of_ble_eq_true rfl⟩ dX7_lose_14 (fun H locs (P : Hp D A s (M_W cI m0 as ((m_asksPart σ p0 p1).1) ((m_takes σ p0 p1).2)) H locs) => ?_)
    refine lv_istore (pc := 17) (lv' := [(4, .int ((m_takes σ p0 p1).1)), (0, .ref m0), (1, .int p0), (2, .int p1), (3, .int p2)]) hx hb dX7_lose_17 hl (by decide) rfl (fun ls hl => ?_)
    refine lv_aload_n (pc := 19) hx hb dX7_lose_19 rfl (lv_at hl 1 rfl) ?_
    refine M_get (pc := 20) (v := .ref (as 10)) X P 10 (Nat.le_of_ble_eq_true rfl) (List.mem_of_getElem? (i := 1) rfl) rfl dX7_lose_20 ?_
    refine lv_iconst (pc := 23) (v := 4) hx hb dX7_lose_23 (by decide) ?_
    refine lv_dup2_11 (pc := 24) hx hb dX7_lose_24 rfl rfl ?_
    refine M_ald (pc := 25) (a := as 10) (n := 8) (f := σ.2 10) X P 6 rfl (vp_dec (by decide)) dX7_lose_25 ?_
    refine lv_iload_n (pc := 26) hx hb dX7_lose_26 rfl (lv_at hl 4 rfl) ?_
    refine lv_if_eq (pc := 27) (tgt := 35) hx hb dX7_lose_27 (by decide) (fun c_4 : p2 = 0 => ?_) (fun c_4 : ¬ p2 = 0 => ?_)
    · refine lv_iconst (pc := 35) (v := 0) hx hb dX7_lose_35 (by decide) ?_
      refine lv_iadd (pc := 36) hx hb dX7_lose_36 ?_
      refine M_ast (pc := 37) (x := (σ.2 10 4) + 0) (n := 8) X P 6 10 rfl (vp_dec (by decide)) M_a10 dX7_lose_37 (fun H locs (P : Hp D A s (M_W cI m0 as ((m_asksPart σ p0 p1).1) (bs (m_takes σ p0 p1).2 10 4 ((σ.2 10 4) + 0))) H locs) => ?_)
      refine lv_iload_n (pc := 38) hx hb dX7_lose_38 rfl (lv_at hl 4 rfl) ?_
      refine lv_if_eq (pc := 39) (tgt := 46) hx hb dX7_lose_39 (by decide) (fun _ => ?_) (fun g => absurd c_4 g)
      refine lv_aload_n (pc := 46) hx hb dX7_lose_46 rfl (lv_at hl 1 rfl) ?_
      refine lv_iload (pc := 47) hx hb dX7_lose_47 (lv_at hl 0 rfl) ?_
      refine M_calli (pc := 49) (As := [.int ((m_takes σ p0 p1).1)]) (rest := []) (f := ((m_asksPart σ p0 p1).1, (m_misses (bs (m_takes σ p0 p1).2 10 4 ((σ.2 10 4) + 0)) ((m_takes σ p0 p1).1)).1, (m_misses (bs (m_takes σ p0 p1).2 10 4 ((σ.2 10 4) + 0)) ((m_takes σ p0 p1).1)).2)) X P hl.1 (kX7_misses l D cI m0 as ((m_asksPart σ p0 p1).1) (bs (m_takes σ p0 p1).2 10 4 ((σ.2 10 4) + 0)) ((m_takes σ p0 p1).1)) fnX7_misses rfl gX7_lose_X7_misses rfl rfl ⟨Nat.le_of_ble_eq_true rfl, Nat.le_of_ble_eq_true rfl⟩ (Nat.le_of_ble_eq_true rfl) ⟨Nat.le_of_ble_eq_true rfl, Nat.le_of_ble_eq_true rfl⟩ dX7_lose_49 (fun H locs (P : Hp D A s (M_W cI m0 as ((m_asksPart σ p0 p1).1) ((m_misses (bs (m_takes σ p0 p1).2 10 4 ((σ.2 10 4) + 0)) ((m_takes σ p0 p1).1)).2)) H locs) => ?_)
      exact M_ret (pc := 52) (v := (m_misses (bs (m_takes σ p0 p1).2 10 4 ((σ.2 10 4) + 0)) ((m_takes σ p0 p1).1)).1) X P (by rw [m_lose, if_neg c_1, if_pos c_4]) dX7_lose_52
    · refine lv_iload (pc := 30) hx hb dX7_lose_30 (lv_at hl 0 rfl) ?_
      refine lv_goto (pc := 32) (tgt := 36) hx hb dX7_lose_32 (by decide) ?_
      refine lv_iadd (pc := 36) hx hb dX7_lose_36 ?_
      refine M_ast (pc := 37) (x := (σ.2 10 4) + ((m_takes σ p0 p1).1)) (n := 8) X P 6 10 rfl (vp_dec (by decide)) M_a10 dX7_lose_37 (fun H locs (P : Hp D A s (M_W cI m0 as ((m_asksPart σ p0 p1).1) (bs (m_takes σ p0 p1).2 10 4 ((σ.2 10 4) + ((m_takes σ p0 p1).1)))) H locs) => ?_)
      refine lv_iload_n (pc := 38) hx hb dX7_lose_38 rfl (lv_at hl 4 rfl) ?_
      refine lv_if_eq (pc := 39) (tgt := 46) hx hb dX7_lose_39 (by decide) (fun g => absurd g c_4) (fun _ => ?_)
      refine lv_iconst (pc := 42) (v := 0) hx hb dX7_lose_42 (by decide) ?_
      refine lv_goto (pc := 43) (tgt := 52) hx hb dX7_lose_43 (by decide) ?_
      exact M_ret (pc := 52) (v := 0) X P (by rw [m_lose, if_neg c_1, if_neg c_4]) dX7_lose_52
  · refine lv_iconst (pc := 9) (v := 0) hx hb dX7_lose_9 (by decide) ?_
    exact M_ret (pc := 10) (v := 0) X P (by rw [m_lose, if_pos c_1]) dX7_lose_10
def m_release (σ : Sg) (p0 : Int32) (p1 : Int32) : Int32 × Int32 × Sg := if ((m_asksPart σ p0 p1).2) = 0 then ((m_asksPart σ p0 p1).1, 0, σ) else if (σ.1 13) = (-1) then (if (σ.1 18) = 100 then (3, 0, σ) else (0, (m_dutyFor (zs (zs (m_takes σ p0 p1).2 15 ((σ.1 15) - 0)) 16 ((σ.1 16) + (m_least (m_part (σ.2 6 (ix p0)) p1 (σ.2 5 (ix p0))) (1000000 - (σ.1 16))))) (m_least (m_part (σ.2 6 (ix p0)) p1 (σ.2 5 (ix p0))) (1000000 - (σ.1 16))) ((σ.1 11) / 2)) + (m_dutyFor (zs (zs (m_takes σ p0 p1).2 15 ((σ.1 15) - 0)) 16 ((σ.1 16) + (m_least (m_part (σ.2 6 (ix p0)) p1 (σ.2 5 (ix p0))) (1000000 - (σ.1 16))))) ((m_part (σ.2 6 (ix p0)) p1 (σ.2 5 (ix p0))) - (m_least (m_part (σ.2 6 (ix p0)) p1 (σ.2 5 (ix p0))) (1000000 - (σ.1 16)))) (σ.1 11)), (zs (bs (bs (zs (zs (zs (m_takes σ p0 p1).2 15 ((σ.1 15) - 0)) 16 ((σ.1 16) + (m_least (m_part (σ.2 6 (ix p0)) p1 (σ.2 5 (ix p0))) (1000000 - (σ.1 16))))) 12 ((σ.1 12) + ((m_dutyFor (zs (zs (m_takes σ p0 p1).2 15 ((σ.1 15) - 0)) 16 ((σ.1 16) + (m_least (m_part (σ.2 6 (ix p0)) p1 (σ.2 5 (ix p0))) (1000000 - (σ.1 16))))) (m_least (m_part (σ.2 6 (ix p0)) p1 (σ.2 5 (ix p0))) (1000000 - (σ.1 16))) ((σ.1 11) / 2)) + (m_dutyFor (zs (zs (m_takes σ p0 p1).2 15 ((σ.1 15) - 0)) 16 ((σ.1 16) + (m_least (m_part (σ.2 6 (ix p0)) p1 (σ.2 5 (ix p0))) (1000000 - (σ.1 16))))) ((m_part (σ.2 6 (ix p0)) p1 (σ.2 5 (ix p0))) - (m_least (m_part (σ.2 6 (ix p0)) p1 (σ.2 5 (ix p0))) (1000000 - (σ.1 16)))) (σ.1 11))))) 19 (ix (σ.1 18)) (m_part (σ.2 6 (ix p0)) p1 (σ.2 5 (ix p0)))) 20 (ix (σ.1 18)) ((m_dutyFor (zs (zs (m_takes σ p0 p1).2 15 ((σ.1 15) - 0)) 16 ((σ.1 16) + (m_least (m_part (σ.2 6 (ix p0)) p1 (σ.2 5 (ix p0))) (1000000 - (σ.1 16))))) (m_least (m_part (σ.2 6 (ix p0)) p1 (σ.2 5 (ix p0))) (1000000 - (σ.1 16))) ((σ.1 11) / 2)) + (m_dutyFor (zs (zs (m_takes σ p0 p1).2 15 ((σ.1 15) - 0)) 16 ((σ.1 16) + (m_least (m_part (σ.2 6 (ix p0)) p1 (σ.2 5 (ix p0))) (1000000 - (σ.1 16))))) ((m_part (σ.2 6 (ix p0)) p1 (σ.2 5 (ix p0))) - (m_least (m_part (σ.2 6 (ix p0)) p1 (σ.2 5 (ix p0))) (1000000 - (σ.1 16)))) (σ.1 11)))) 18 ((σ.1 18) + 1)))) else if (σ.1 15) < (m_part (σ.2 6 (ix p0)) p1 (σ.2 5 (ix p0))) then (3, 0, σ) else if (σ.1 18) = 100 then (3, 0, σ) else (0, (m_dutyFor (zs (zs (m_takes σ p0 p1).2 15 ((σ.1 15) - (m_part (σ.2 6 (ix p0)) p1 (σ.2 5 (ix p0))))) 16 ((σ.1 16) + (m_least (m_part (σ.2 6 (ix p0)) p1 (σ.2 5 (ix p0))) (1000000 - (σ.1 16))))) (m_least (m_part (σ.2 6 (ix p0)) p1 (σ.2 5 (ix p0))) (1000000 - (σ.1 16))) ((σ.1 11) / 2)) + (m_dutyFor (zs (zs (m_takes σ p0 p1).2 15 ((σ.1 15) - (m_part (σ.2 6 (ix p0)) p1 (σ.2 5 (ix p0))))) 16 ((σ.1 16) + (m_least (m_part (σ.2 6 (ix p0)) p1 (σ.2 5 (ix p0))) (1000000 - (σ.1 16))))) ((m_part (σ.2 6 (ix p0)) p1 (σ.2 5 (ix p0))) - (m_least (m_part (σ.2 6 (ix p0)) p1 (σ.2 5 (ix p0))) (1000000 - (σ.1 16)))) (σ.1 11)), (zs (bs (bs (zs (zs (zs (m_takes σ p0 p1).2 15 ((σ.1 15) - (m_part (σ.2 6 (ix p0)) p1 (σ.2 5 (ix p0))))) 16 ((σ.1 16) + (m_least (m_part (σ.2 6 (ix p0)) p1 (σ.2 5 (ix p0))) (1000000 - (σ.1 16))))) 12 ((σ.1 12) + ((m_dutyFor (zs (zs (m_takes σ p0 p1).2 15 ((σ.1 15) - (m_part (σ.2 6 (ix p0)) p1 (σ.2 5 (ix p0))))) 16 ((σ.1 16) + (m_least (m_part (σ.2 6 (ix p0)) p1 (σ.2 5 (ix p0))) (1000000 - (σ.1 16))))) (m_least (m_part (σ.2 6 (ix p0)) p1 (σ.2 5 (ix p0))) (1000000 - (σ.1 16))) ((σ.1 11) / 2)) + (m_dutyFor (zs (zs (m_takes σ p0 p1).2 15 ((σ.1 15) - (m_part (σ.2 6 (ix p0)) p1 (σ.2 5 (ix p0))))) 16 ((σ.1 16) + (m_least (m_part (σ.2 6 (ix p0)) p1 (σ.2 5 (ix p0))) (1000000 - (σ.1 16))))) ((m_part (σ.2 6 (ix p0)) p1 (σ.2 5 (ix p0))) - (m_least (m_part (σ.2 6 (ix p0)) p1 (σ.2 5 (ix p0))) (1000000 - (σ.1 16)))) (σ.1 11))))) 19 (ix (σ.1 18)) (m_part (σ.2 6 (ix p0)) p1 (σ.2 5 (ix p0)))) 20 (ix (σ.1 18)) ((m_dutyFor (zs (zs (m_takes σ p0 p1).2 15 ((σ.1 15) - (m_part (σ.2 6 (ix p0)) p1 (σ.2 5 (ix p0))))) 16 ((σ.1 16) + (m_least (m_part (σ.2 6 (ix p0)) p1 (σ.2 5 (ix p0))) (1000000 - (σ.1 16))))) (m_least (m_part (σ.2 6 (ix p0)) p1 (σ.2 5 (ix p0))) (1000000 - (σ.1 16))) ((σ.1 11) / 2)) + (m_dutyFor (zs (zs (m_takes σ p0 p1).2 15 ((σ.1 15) - (m_part (σ.2 6 (ix p0)) p1 (σ.2 5 (ix p0))))) 16 ((σ.1 16) + (m_least (m_part (σ.2 6 (ix p0)) p1 (σ.2 5 (ix p0))) (1000000 - (σ.1 16))))) ((m_part (σ.2 6 (ix p0)) p1 (σ.2 5 (ix p0))) - (m_least (m_part (σ.2 6 (ix p0)) p1 (σ.2 5 (ix p0))) (1000000 - (σ.1 16)))) (σ.1 11)))) 18 ((σ.1 18) + 1)))
abbrev rX7_release : Room := { frames := 3, cells := 0, slots := 0, locals := 65 }
theorem fnX7_release : Fn yX7_release wsX7_release cX7_release 6 (some .int) 2 rX7_release 0 0 := ⟨⟨_, rfl⟩, rfl, rfl, by decide +kernel⟩
theorem inX7_release : ∀ w ∈ wsX70, w ∈ wsX7_release := fun w h => List.mem_cons_of_mem _ (List.mem_append_right _ h)
set_option maxHeartbeats 4000000 in
set_option maxRecDepth 100000 in
theorem kX7_release (l : Launch) (D : va_G) (cI : ClassId) (m0 : Nat) (as : Nat → Nat) (th : Int32) (σ : Sg) (p0 : Int32) (p1 : Int32) (h0 : Cnt σ 2 10) (h2 : Cnt σ 18 100) : M_Mi l yX7_release wsX7_release rX7_release D cI m0 as th σ [.int p0, .int p1] (m_release σ p0 p1) := by
  refine M_body (n := 2) (Qc := fun A => M_Qi D cI m0 as (m_release σ p0 p1) A) rfl fnX7_release inX7_release (Nat.le_of_ble_eq_true rfl) ?_
  intro p e s m args below meth c X A P ls hl
  have hx := X.1.1
  have hb := X.1.2.1
  have hown := X.1.2.2.2.1
  have hts := X.1.2.2.2.2.1
  have hl : lv_has ls 6 [(0, .ref m0), (1, .int p0), (2, .int p1)] := hl
  refine lv_aload_n (pc := 0) hx hb dX7_release_0 rfl (lv_at hl 0 rfl) ?_
  refine lv_iload_n (pc := 1) hx hb dX7_release_1 rfl (lv_at hl 1 rfl) ?_
  refine lv_iload_n (pc := 2) hx hb dX7_release_2 rfl (lv_at hl 2 rfl) ?_
  refine M_calli (pc := 3) (As := [.int p0, .int p1]) (rest := []) (f := ((m_asksPart σ p0 p1).1, (m_asksPart σ p0 p1).2, σ)) X P hl.1 (kX7_asksPart l D cI m0 as th σ p0 p1 h0) fnX7_asksPart rfl gX7_release_X7_asksPart rfl rfl ⟨Nat.le_of_ble_eq_true rfl, Nat.le_of_ble_eq_true rfl⟩ (Nat.le_of_ble_eq_true rfl) ⟨Nat.le_of_ble_eq_true rfl, Nat.le_of_ble_eq_true rfl⟩ dX7_release_3 (fun H locs (P : Hp D A s (M_W cI m0 as ((m_asksPart σ p0 p1).1) σ) H locs) => ?_)
  refine lv_if_ne (pc := 6) (tgt := 11) hx hb dX7_release_6 (by decide) (fun c_1 : ¬ ((m_asksPart σ p0 p1).2) = 0 => ?_) (fun c_1 : ((m_asksPart σ p0 p1).2) = 0 => ?_)
  · have hv_2 : vp_in p0 10 := (asks_in h0 c_1).1
    have hw_3 : ¬ σ.2 5 (ix p0) = 0 := (asks_in h0 c_1).2
    refine lv_aload_n (pc := 11) hx hb dX7_release_11 rfl (lv_at hl 0 rfl) ?_
    refine M_get (pc := 12) (v := .ref (as 6)) X P 6 (Nat.le_of_ble_eq_true rfl) (List.mem_of_getElem? (i := 1) rfl) rfl dX7_release_12 ?_
    refine lv_iload_n (pc := 15) hx hb dX7_release_15 rfl (lv_at hl 1 rfl) ?_
    refine M_ald (pc := 16) (a := as 6) (n := 10) (f := σ.2 6) X P 4 rfl hv_2 dX7_release_16 ?_
    refine lv_iload_n (pc := 17) hx hb dX7_release_17 rfl (lv_at hl 2 rfl) ?_
    refine lv_aload_n (pc := 18) hx hb dX7_release_18 rfl (lv_at hl 0 rfl) ?_
    refine M_get (pc := 19) (v := .ref (as 5)) X P 5 (Nat.le_of_ble_eq_true rfl) (List.mem_of_getElem? (i := 2) rfl) rfl dX7_release_19 ?_
    refine lv_iload_n (pc := 22) hx hb dX7_release_22 rfl (lv_at hl 1 rfl) ?_
    refine M_ald (pc := 23) (a := as 5) (n := 10) (f := σ.2 5) X P 3 rfl hv_2 dX7_release_23 ?_
    refine S_call (pc := 24) (As := [.int (σ.2 6 (ix p0)), .int p1, .int (σ.2 5 (ix p0))]) (rest := []) (r := m_part (σ.2 6 (ix p0)) p1 (σ.2 5 (ix p0))) X.1 hl.1 (kX7_part l (σ.2 6 (ix p0)) p1 (σ.2 5 (ix p0)) hw_3) fnX7_part gX7_release_X7_part rfl rfl ⟨Nat.le_of_ble_eq_true rfl, Nat.le_of_ble_eq_true rfl⟩ (Nat.le_of_ble_eq_true rfl) ⟨Nat.le_of_ble_eq_true rfl, Nat.le_of_ble_eq_true rfl⟩ dX7_release_24 ?_
    refine lv_istore_n (pc := 27) (lv' := [(3, .int (m_part (σ.2 6 (ix p0)) p1 (σ.2 5 (ix p0)))), (0, .ref m0), (1, .int p0), (2, .int p1)]) hx hb dX7_release_27 rfl hl (by decide) rfl (fun ls hl => ?_)
    refine lv_aload_n (pc := 28) hx hb dX7_release_28 rfl (lv_at hl 1 rfl) ?_
    refine lv_aload_n (pc := 29) hx hb dX7_release_29 rfl (lv_at hl 1 rfl) ?_
    refine M_get (pc := 30) (v := .int (σ.1 13)) X P 13 (Nat.le_of_ble_eq_true rfl) (List.mem_of_getElem? (i := 3) rfl) rfl dX7_release_30 ?_
    refine lv_iconst (pc := 33) (v := (-1)) hx hb dX7_release_33 (by decide) ?_
    refine lv_icmp_eq (pc := 34) (tgt := 45) hx hb dX7_release_34 (by decide) (fun c_4 : (σ.1 13) = (-1) => ?_) (fun c_4 : ¬ (σ.1 13) = (-1) => ?_)
    · refine lv_aload_n (pc := 45) hx hb dX7_release_45 rfl (lv_at hl 1 rfl) ?_
      refine M_get (pc := 46) (v := .int (σ.1 18)) X P 18 (Nat.le_of_ble_eq_true rfl) (List.mem_of_getElem? (i := 5) rfl) rfl dX7_release_46 ?_
      refine lv_bipush (pc := 49) (v := 100) hx hb dX7_release_49 (by decide) ?_
      refine lv_icmp_ne (pc := 51) (tgt := 58) hx hb dX7_release_51 (by decide) (fun c_5 : ¬ (σ.1 18) = 100 => ?_) (fun c_5 : (σ.1 18) = 100 => ?_)
      · have hv_6 : vp_in (σ.1 18) 100 := cnt_ne h2 (by decide) c_5
        refine lv_iconst (pc := 58) (v := 0) hx hb dX7_release_58 (by decide) ?_
        refine M_putT (pc := 59) (v := 0) X P (List.mem_of_getElem? (i := 6) rfl) dX7_release_59 (fun H locs (P : Hp D A s (M_W cI m0 as 0 σ) H locs) => ?_)
        refine lv_aload_n (pc := 62) hx hb dX7_release_62 rfl (lv_at hl 1 rfl) ?_
        refine M_get (pc := 63) (v := .int 0) X P 0 (Nat.le_of_ble_eq_true rfl) (List.mem_of_getElem? (i := 6) rfl) rfl dX7_release_63 ?_
        refine lv_if_le (pc := 66) (tgt := 71) hx hb dX7_release_66 (by decide) (fun _ => ?_) (fun h => absurd h (by decide))
        refine lv_aload_n (pc := 71) hx hb dX7_release_71 rfl (lv_at hl 1 rfl) ?_
        refine lv_iload_n (pc := 72) hx hb dX7_release_72 rfl (lv_at hl 2 rfl) ?_
        refine lv_iload_n (pc := 73) hx hb dX7_release_73 rfl (lv_at hl 3 rfl) ?_
        refine M_calli (pc := 74) (As := [.int p0, .int p1]) (rest := []) (f := (0, (m_takes σ p0 p1).1, (m_takes σ p0 p1).2)) X P hl.1 (kX7_takes l D cI m0 as 0 σ p0 p1 hv_2 hw_3) fnX7_takes rfl gX7_release_X7_takes rfl rfl ⟨Nat.le_of_ble_eq_true rfl, Nat.le_of_ble_eq_true rfl⟩ (Nat.le_of_ble_eq_true rfl) ⟨Nat.le_of_ble_eq_true rfl, Nat.le_of_ble_eq_true rfl⟩ dX7_release_74 (fun H locs (P : Hp D A s (M_W cI m0 as 0 ((m_takes σ p0 p1).2)) H locs) => ?_)
        refine lv_pop (pc := 77) hx hb dX7_release_77 rfl ?_
        refine lv_aload_n (pc := 78) hx hb dX7_release_78 rfl (lv_at hl 1 rfl) ?_
        refine lv_dup (pc := 79) hx hb dX7_release_79 rfl ?_
        refine M_get (pc := 80) (v := .int (σ.1 15)) X P 15 (Nat.le_of_ble_eq_true rfl) (List.mem_of_getElem? (i := 4) rfl) rfl dX7_release_80 ?_
        refine lv_aload_n (pc := 83) hx hb dX7_release_83 rfl (lv_at hl 1 rfl) ?_
        refine M_get (pc := 84) (v := .int (σ.1 13)) X P 13 (Nat.le_of_ble_eq_true rfl) (List.mem_of_getElem? (i := 3) rfl) rfl dX7_release_84 ?_
        refine lv_iconst (pc := 87) (v := (-1)) hx hb dX7_release_87 (by decide) ?_
        refine lv_icmp_eq (pc := 88) (tgt := 95) hx hb dX7_release_88 (by decide) (fun _ => ?_) (fun g => absurd c_4 g)
        refine lv_iconst (pc := 95) (v := 0) hx hb dX7_release_95 (by decide) ?_
        refine lv_isub (pc := 96) hx hb dX7_release_96 ?_
        refine M_putS (pc := 97) (v := (σ.1 15) - 0) X P 15 (Nat.le_of_ble_eq_true rfl) (List.mem_of_getElem? (i := 4) rfl) rfl rfl M_s15 dX7_release_97 (fun H locs (P : Hp D A s (M_W cI m0 as 0 (zs (m_takes σ p0 p1).2 15 ((σ.1 15) - 0))) H locs) => ?_)
        refine lv_iload_n (pc := 100) hx hb dX7_release_100 rfl (lv_at hl 0 rfl) ?_
        refine lv_ldc (pc := 101) (v := 1000000) hx hb hown (hts _ (List.mem_of_getElem? (i := 7) rfl)) dX7_release_101 ?_
        refine lv_aload_n (pc := 103) hx hb dX7_release_103 rfl (lv_at hl 1 rfl) ?_
        refine M_get (pc := 104) (v := .int (σ.1 16)) X P 16 (Nat.le_of_ble_eq_true rfl) (List.mem_of_getElem? (i := 8) rfl) rfl dX7_release_104 ?_
        refine lv_isub (pc := 107) hx hb dX7_release_107 ?_
        refine S_call (pc := 108) (As := [.int (m_part (σ.2 6 (ix p0)) p1 (σ.2 5 (ix p0))), .int (1000000 - (σ.1 16))]) (rest := []) (r := m_least (m_part (σ.2 6 (ix p0)) p1 (σ.2 5 (ix p0))) (1000000 - (σ.1 16))) X.1 hl.1 (kX7_least l (m_part (σ.2 6 (ix p0)) p1 (σ.2 5 (ix p0))) (1000000 - (σ.1 16))) fnX7_least gX7_release_X7_least rfl rfl ⟨Nat.le_of_ble_eq_true rfl, Nat.le_of_ble_eq_true rfl⟩ (Nat.le_of_ble_eq_true rfl) ⟨Nat.le_of_ble_eq_true rfl, Nat.le_of_ble_eq_true rfl⟩ dX7_release_108 ?_
        refine lv_istore (pc := 111) (lv' := [(4, .int (m_least (m_part (σ.2 6 (ix p0)) p1 (σ.2 5 (ix p0))) (1000000 - (σ.1 16)))), (3, .int (m_part (σ.2 6 (ix p0)) p1 (σ.2 5 (ix p0)))), (0, .ref m0), (1, .int p0), (2, .int p1)]) hx hb dX7_release_111 hl (by decide) rfl (fun ls hl => ?_)
        refine lv_aload_n (pc := 113) hx hb dX7_release_113 rfl (lv_at hl 2 rfl) ?_
        refine lv_dup (pc := 114) hx hb dX7_release_114 rfl ?_
        refine M_get (pc := 115) (v := .int (σ.1 16)) X P 16 (Nat.le_of_ble_eq_true rfl) (List.mem_of_getElem? (i := 8) rfl) rfl dX7_release_115 ?_
        refine lv_iload (pc := 118) hx hb dX7_release_118 (lv_at hl 0 rfl) ?_
        refine lv_iadd (pc := 120) hx hb dX7_release_120 ?_
        refine M_putS (pc := 121) (v := (σ.1 16) + (m_least (m_part (σ.2 6 (ix p0)) p1 (σ.2 5 (ix p0))) (1000000 - (σ.1 16)))) X P 16 (Nat.le_of_ble_eq_true rfl) (List.mem_of_getElem? (i := 8) rfl) rfl rfl M_s16 dX7_release_121 (fun H locs (P : Hp D A s (M_W cI m0 as 0 (zs (zs (m_takes σ p0 p1).2 15 ((σ.1 15) - 0)) 16 ((σ.1 16) + (m_least (m_part (σ.2 6 (ix p0)) p1 (σ.2 5 (ix p0))) (1000000 - (σ.1 16)))))) H locs) => ?_)
        refine lv_aload_n (pc := 124) hx hb dX7_release_124 rfl (lv_at hl 2 rfl) ?_
        refine lv_iload (pc := 125) hx hb dX7_release_125 (lv_at hl 0 rfl) ?_
        refine lv_aload_n (pc := 127) hx hb dX7_release_127 rfl (lv_at hl 2 rfl) ?_
        refine M_get (pc := 128) (v := .int (σ.1 11)) X P 11 (Nat.le_of_ble_eq_true rfl) (List.mem_of_getElem? (i := 9) rfl) rfl dX7_release_128 ?_
        refine lv_iconst (pc := 131) (v := 2) hx hb dX7_release_131 (by decide) ?_
        refine lv_idiv (pc := 132) hx hb dX7_release_132 (by decide) ?_
        refine M_calli (pc := 133) (As := [.int (m_least (m_part (σ.2 6 (ix p0)) p1 (σ.2 5 (ix p0))) (1000000 - (σ.1 16))), .int ((σ.1 11) / 2)]) (rest := []) (f := (0, m_dutyFor (zs (zs (m_takes σ p0 p1).2 15 ((σ.1 15) - 0)) 16 ((σ.1 16) + (m_least (m_part (σ.2 6 (ix p0)) p1 (σ.2 5 (ix p0))) (1000000 - (σ.1 16))))) (m_least (m_part (σ.2 6 (ix p0)) p1 (σ.2 5 (ix p0))) (1000000 - (σ.1 16))) ((σ.1 11) / 2), (zs (zs (m_takes σ p0 p1).2 15 ((σ.1 15) - 0)) 16 ((σ.1 16) + (m_least (m_part (σ.2 6 (ix p0)) p1 (σ.2 5 (ix p0))) (1000000 - (σ.1 16))))))) X P hl.1 (kX7_dutyFor l D cI m0 as 0 (zs (zs (m_takes σ p0 p1).2 15 ((σ.1 15) - 0)) 16 ((σ.1 16) + (m_least (m_part (σ.2 6 (ix p0)) p1 (σ.2 5 (ix p0))) (1000000 - (σ.1 16))))) (m_least (m_part (σ.2 6 (ix p0)) p1 (σ.2 5 (ix p0))) (1000000 - (σ.1 16))) ((σ.1 11) / 2)) fnX7_dutyFor rfl gX7_release_X7_dutyFor rfl rfl ⟨Nat.le_of_ble_eq_true rfl, Nat.le_of_ble_eq_true rfl⟩ (Nat.le_of_ble_eq_true rfl) ⟨Nat.le_of_ble_eq_true rfl, Nat.le_of_ble_eq_true rfl⟩ dX7_release_133 (fun H locs (P : Hp D A s (M_W cI m0 as 0 (zs (zs (m_takes σ p0 p1).2 15 ((σ.1 15) - 0)) 16 ((σ.1 16) + (m_least (m_part (σ.2 6 (ix p0)) p1 (σ.2 5 (ix p0))) (1000000 - (σ.1 16)))))) H locs) => ?_)
        refine lv_aload_n (pc := 136) hx hb dX7_release_136 rfl (lv_at hl 2 rfl) ?_
        refine lv_iload_n (pc := 137) hx hb dX7_release_137 rfl (lv_at hl 1 rfl) ?_
        refine lv_iload (pc := 138) hx hb dX7_release_138 (lv_at hl 0 rfl) ?_
        refine lv_isub (pc := 140) hx hb dX7_release_140 ?_
        refine lv_aload_n (pc := 141) hx hb dX7_release_141 rfl (lv_at hl 2 rfl) ?_
        refine M_get (pc := 142) (v := .int (σ.1 11)) X P 11 (Nat.le_of_ble_eq_true rfl) (List.mem_of_getElem? (i := 9) rfl) rfl dX7_release_142 ?_
        refine M_calli (pc := 145) (As := [.int ((m_part (σ.2 6 (ix p0)) p1 (σ.2 5 (ix p0))) - (m_least (m_part (σ.2 6 (ix p0)) p1 (σ.2 5 (ix p0))) (1000000 - (σ.1 16)))), .int (σ.1 11)]) (rest := [.int (m_dutyFor (zs (zs (m_takes σ p0 p1).2 15 ((σ.1 15) - 0)) 16 ((σ.1 16) + (m_least (m_part (σ.2 6 (ix p0)) p1 (σ.2 5 (ix p0))) (1000000 - (σ.1 16))))) (m_least (m_part (σ.2 6 (ix p0)) p1 (σ.2 5 (ix p0))) (1000000 - (σ.1 16))) ((σ.1 11) / 2))]) (f := (0, m_dutyFor (zs (zs (m_takes σ p0 p1).2 15 ((σ.1 15) - 0)) 16 ((σ.1 16) + (m_least (m_part (σ.2 6 (ix p0)) p1 (σ.2 5 (ix p0))) (1000000 - (σ.1 16))))) ((m_part (σ.2 6 (ix p0)) p1 (σ.2 5 (ix p0))) - (m_least (m_part (σ.2 6 (ix p0)) p1 (σ.2 5 (ix p0))) (1000000 - (σ.1 16)))) (σ.1 11), (zs (zs (m_takes σ p0 p1).2 15 ((σ.1 15) - 0)) 16 ((σ.1 16) + (m_least (m_part (σ.2 6 (ix p0)) p1 (σ.2 5 (ix p0))) (1000000 - (σ.1 16))))))) X P hl.1 (kX7_dutyFor l D cI m0 as 0 (zs (zs (m_takes σ p0 p1).2 15 ((σ.1 15) - 0)) 16 ((σ.1 16) + (m_least (m_part (σ.2 6 (ix p0)) p1 (σ.2 5 (ix p0))) (1000000 - (σ.1 16))))) ((m_part (σ.2 6 (ix p0)) p1 (σ.2 5 (ix p0))) - (m_least (m_part (σ.2 6 (ix p0)) p1 (σ.2 5 (ix p0))) (1000000 - (σ.1 16)))) (σ.1 11)) fnX7_dutyFor rfl gX7_release_X7_dutyFor rfl rfl ⟨Nat.le_of_ble_eq_true rfl, Nat.le_of_ble_eq_true rfl⟩ (Nat.le_of_ble_eq_true rfl) ⟨Nat.le_of_ble_eq_true rfl, Nat.le_of_ble_eq_true rfl⟩ dX7_release_145 (fun H locs (P : Hp D A s (M_W cI m0 as 0 (zs (zs (m_takes σ p0 p1).2 15 ((σ.1 15) - 0)) 16 ((σ.1 16) + (m_least (m_part (σ.2 6 (ix p0)) p1 (σ.2 5 (ix p0))) (1000000 - (σ.1 16)))))) H locs) => ?_)
        refine lv_iadd (pc := 148) hx hb dX7_release_148 ?_
        refine lv_istore (pc := 149) (lv' := [(5, .int ((m_dutyFor (zs (zs (m_takes σ p0 p1).2 15 ((σ.1 15) - 0)) 16 ((σ.1 16) + (m_least (m_part (σ.2 6 (ix p0)) p1 (σ.2 5 (ix p0))) (1000000 - (σ.1 16))))) (m_least (m_part (σ.2 6 (ix p0)) p1 (σ.2 5 (ix p0))) (1000000 - (σ.1 16))) ((σ.1 11) / 2)) + (m_dutyFor (zs (zs (m_takes σ p0 p1).2 15 ((σ.1 15) - 0)) 16 ((σ.1 16) + (m_least (m_part (σ.2 6 (ix p0)) p1 (σ.2 5 (ix p0))) (1000000 - (σ.1 16))))) ((m_part (σ.2 6 (ix p0)) p1 (σ.2 5 (ix p0))) - (m_least (m_part (σ.2 6 (ix p0)) p1 (σ.2 5 (ix p0))) (1000000 - (σ.1 16)))) (σ.1 11)))), (4, .int (m_least (m_part (σ.2 6 (ix p0)) p1 (σ.2 5 (ix p0))) (1000000 - (σ.1 16)))), (3, .int (m_part (σ.2 6 (ix p0)) p1 (σ.2 5 (ix p0)))), (0, .ref m0), (1, .int p0), (2, .int p1)]) hx hb dX7_release_149 hl (by decide) rfl (fun ls hl => ?_)
        refine lv_aload_n (pc := 151) hx hb dX7_release_151 rfl (lv_at hl 3 rfl) ?_
        refine lv_dup (pc := 152) hx hb dX7_release_152 rfl ?_
        refine M_get (pc := 153) (v := .int (σ.1 12)) X P 12 (Nat.le_of_ble_eq_true rfl) (List.mem_of_getElem? (i := 10) rfl) rfl dX7_release_153 ?_
        refine lv_iload (pc := 156) hx hb dX7_release_156 (lv_at hl 0 rfl) ?_
        refine lv_iadd (pc := 158) hx hb dX7_release_158 ?_
        refine M_putS (pc := 159) (v := (σ.1 12) + ((m_dutyFor (zs (zs (m_takes σ p0 p1).2 15 ((σ.1 15) - 0)) 16 ((σ.1 16) + (m_least (m_part (σ.2 6 (ix p0)) p1 (σ.2 5 (ix p0))) (1000000 - (σ.1 16))))) (m_least (m_part (σ.2 6 (ix p0)) p1 (σ.2 5 (ix p0))) (1000000 - (σ.1 16))) ((σ.1 11) / 2)) + (m_dutyFor (zs (zs (m_takes σ p0 p1).2 15 ((σ.1 15) - 0)) 16 ((σ.1 16) + (m_least (m_part (σ.2 6 (ix p0)) p1 (σ.2 5 (ix p0))) (1000000 - (σ.1 16))))) ((m_part (σ.2 6 (ix p0)) p1 (σ.2 5 (ix p0))) - (m_least (m_part (σ.2 6 (ix p0)) p1 (σ.2 5 (ix p0))) (1000000 - (σ.1 16)))) (σ.1 11)))) X P 12 (Nat.le_of_ble_eq_true rfl) (List.mem_of_getElem? (i := 10) rfl) rfl rfl M_s12 dX7_release_159 (fun H locs (P : Hp D A s (M_W cI m0 as 0 (zs (zs (zs (m_takes σ p0 p1).2 15 ((σ.1 15) - 0)) 16 ((σ.1 16) + (m_least (m_part (σ.2 6 (ix p0)) p1 (σ.2 5 (ix p0))) (1000000 - (σ.1 16))))) 12 ((σ.1 12) + ((m_dutyFor (zs (zs (m_takes σ p0 p1).2 15 ((σ.1 15) - 0)) 16 ((σ.1 16) + (m_least (m_part (σ.2 6 (ix p0)) p1 (σ.2 5 (ix p0))) (1000000 - (σ.1 16))))) (m_least (m_part (σ.2 6 (ix p0)) p1 (σ.2 5 (ix p0))) (1000000 - (σ.1 16))) ((σ.1 11) / 2)) + (m_dutyFor (zs (zs (m_takes σ p0 p1).2 15 ((σ.1 15) - 0)) 16 ((σ.1 16) + (m_least (m_part (σ.2 6 (ix p0)) p1 (σ.2 5 (ix p0))) (1000000 - (σ.1 16))))) ((m_part (σ.2 6 (ix p0)) p1 (σ.2 5 (ix p0))) - (m_least (m_part (σ.2 6 (ix p0)) p1 (σ.2 5 (ix p0))) (1000000 - (σ.1 16)))) (σ.1 11)))))) H locs) => ?_)
        refine lv_aload_n (pc := 162) hx hb dX7_release_162 rfl (lv_at hl 3 rfl) ?_
        refine M_get (pc := 163) (v := .ref (as 19)) X P 19 (Nat.le_of_ble_eq_true rfl) (List.mem_of_getElem? (i := 11) rfl) rfl dX7_release_163 ?_
        refine lv_aload_n (pc := 166) hx hb dX7_release_166 rfl (lv_at hl 3 rfl) ?_
        refine M_get (pc := 167) (v := .int (σ.1 18)) X P 18 (Nat.le_of_ble_eq_true rfl) (List.mem_of_getElem? (i := 5) rfl) rfl dX7_release_167 ?_
        refine lv_iload_n (pc := 170) hx hb dX7_release_170 rfl (lv_at hl 2 rfl) ?_
        refine M_ast (pc := 171) (x := m_part (σ.2 6 (ix p0)) p1 (σ.2 5 (ix p0))) (n := 100) X P 7 19 rfl hv_6 M_a19 dX7_release_171 (fun H locs (P : Hp D A s (M_W cI m0 as 0 (bs (zs (zs (zs (m_takes σ p0 p1).2 15 ((σ.1 15) - 0)) 16 ((σ.1 16) + (m_least (m_part (σ.2 6 (ix p0)) p1 (σ.2 5 (ix p0))) (1000000 - (σ.1 16))))) 12 ((σ.1 12) + ((m_dutyFor (zs (zs (m_takes σ p0 p1).2 15 ((σ.1 15) - 0)) 16 ((σ.1 16) + (m_least (m_part (σ.2 6 (ix p0)) p1 (σ.2 5 (ix p0))) (1000000 - (σ.1 16))))) (m_least (m_part (σ.2 6 (ix p0)) p1 (σ.2 5 (ix p0))) (1000000 - (σ.1 16))) ((σ.1 11) / 2)) + (m_dutyFor (zs (zs (m_takes σ p0 p1).2 15 ((σ.1 15) - 0)) 16 ((σ.1 16) + (m_least (m_part (σ.2 6 (ix p0)) p1 (σ.2 5 (ix p0))) (1000000 - (σ.1 16))))) ((m_part (σ.2 6 (ix p0)) p1 (σ.2 5 (ix p0))) - (m_least (m_part (σ.2 6 (ix p0)) p1 (σ.2 5 (ix p0))) (1000000 - (σ.1 16)))) (σ.1 11))))) 19 (ix (σ.1 18)) (m_part (σ.2 6 (ix p0)) p1 (σ.2 5 (ix p0))))) H locs) => ?_)
        refine lv_aload_n (pc := 172) hx hb dX7_release_172 rfl (lv_at hl 3 rfl) ?_
        refine M_get (pc := 173) (v := .ref (as 20)) X P 20 (Nat.le_of_ble_eq_true rfl) (List.mem_of_getElem? (i := 12) rfl) rfl dX7_release_173 ?_
        refine lv_aload_n (pc := 176) hx hb dX7_release_176 rfl (lv_at hl 3 rfl) ?_
        refine M_get (pc := 177) (v := .int (σ.1 18)) X P 18 (Nat.le_of_ble_eq_true rfl) (List.mem_of_getElem? (i := 5) rfl) rfl dX7_release_177 ?_
        refine lv_iload (pc := 180) hx hb dX7_release_180 (lv_at hl 0 rfl) ?_
        refine M_ast (pc := 182) (x := (m_dutyFor (zs (zs (m_takes σ p0 p1).2 15 ((σ.1 15) - 0)) 16 ((σ.1 16) + (m_least (m_part (σ.2 6 (ix p0)) p1 (σ.2 5 (ix p0))) (1000000 - (σ.1 16))))) (m_least (m_part (σ.2 6 (ix p0)) p1 (σ.2 5 (ix p0))) (1000000 - (σ.1 16))) ((σ.1 11) / 2)) + (m_dutyFor (zs (zs (m_takes σ p0 p1).2 15 ((σ.1 15) - 0)) 16 ((σ.1 16) + (m_least (m_part (σ.2 6 (ix p0)) p1 (σ.2 5 (ix p0))) (1000000 - (σ.1 16))))) ((m_part (σ.2 6 (ix p0)) p1 (σ.2 5 (ix p0))) - (m_least (m_part (σ.2 6 (ix p0)) p1 (σ.2 5 (ix p0))) (1000000 - (σ.1 16)))) (σ.1 11))) (n := 100) X P 8 20 rfl hv_6 M_a20 dX7_release_182 (fun H locs (P : Hp D A s (M_W cI m0 as 0 (bs (bs (zs (zs (zs (m_takes σ p0 p1).2 15 ((σ.1 15) - 0)) 16 ((σ.1 16) + (m_least (m_part (σ.2 6 (ix p0)) p1 (σ.2 5 (ix p0))) (1000000 - (σ.1 16))))) 12 ((σ.1 12) + ((m_dutyFor (zs (zs (m_takes σ p0 p1).2 15 ((σ.1 15) - 0)) 16 ((σ.1 16) + (m_least (m_part (σ.2 6 (ix p0)) p1 (σ.2 5 (ix p0))) (1000000 - (σ.1 16))))) (m_least (m_part (σ.2 6 (ix p0)) p1 (σ.2 5 (ix p0))) (1000000 - (σ.1 16))) ((σ.1 11) / 2)) + (m_dutyFor (zs (zs (m_takes σ p0 p1).2 15 ((σ.1 15) - 0)) 16 ((σ.1 16) + (m_least (m_part (σ.2 6 (ix p0)) p1 (σ.2 5 (ix p0))) (1000000 - (σ.1 16))))) ((m_part (σ.2 6 (ix p0)) p1 (σ.2 5 (ix p0))) - (m_least (m_part (σ.2 6 (ix p0)) p1 (σ.2 5 (ix p0))) (1000000 - (σ.1 16)))) (σ.1 11))))) 19 (ix (σ.1 18)) (m_part (σ.2 6 (ix p0)) p1 (σ.2 5 (ix p0)))) 20 (ix (σ.1 18)) ((m_dutyFor (zs (zs (m_takes σ p0 p1).2 15 ((σ.1 15) - 0)) 16 ((σ.1 16) + (m_least (m_part (σ.2 6 (ix p0)) p1 (σ.2 5 (ix p0))) (1000000 - (σ.1 16))))) (m_least (m_part (σ.2 6 (ix p0)) p1 (σ.2 5 (ix p0))) (1000000 - (σ.1 16))) ((σ.1 11) / 2)) + (m_dutyFor (zs (zs (m_takes σ p0 p1).2 15 ((σ.1 15) - 0)) 16 ((σ.1 16) + (m_least (m_part (σ.2 6 (ix p0)) p1 (σ.2 5 (ix p0))) (1000000 - (σ.1 16))))) ((m_part (σ.2 6 (ix p0)) p1 (σ.2 5 (ix p0))) - (m_least (m_part (σ.2 6 (ix p0)) p1 (σ.2 5 (ix p0))) (1000000 - (σ.1 16)))) (σ.1 11))))) H locs) => ?_)
        refine lv_aload_n (pc := 183) hx hb dX7_release_183 rfl (lv_at hl 3 rfl) ?_
        refine lv_dup (pc := 184) hx hb dX7_release_184 rfl ?_
        refine M_get (pc := 185) (v := .int (σ.1 18)) X P 18 (Nat.le_of_ble_eq_true rfl) (List.mem_of_getElem? (i := 5) rfl) rfl dX7_release_185 ?_
        refine lv_iconst (pc := 188) (v := 1) hx hb dX7_release_188 (by decide) ?_
        refine lv_iadd (pc := 189) hx hb dX7_release_189 ?_
        refine M_putS (pc := 190) (v := (σ.1 18) + 1) X P 18 (Nat.le_of_ble_eq_true rfl) (List.mem_of_getElem? (i := 5) rfl) rfl rfl M_s18 dX7_release_190 (fun H locs (P : Hp D A s (M_W cI m0 as 0 (zs (bs (bs (zs (zs (zs (m_takes σ p0 p1).2 15 ((σ.1 15) - 0)) 16 ((σ.1 16) + (m_least (m_part (σ.2 6 (ix p0)) p1 (σ.2 5 (ix p0))) (1000000 - (σ.1 16))))) 12 ((σ.1 12) + ((m_dutyFor (zs (zs (m_takes σ p0 p1).2 15 ((σ.1 15) - 0)) 16 ((σ.1 16) + (m_least (m_part (σ.2 6 (ix p0)) p1 (σ.2 5 (ix p0))) (1000000 - (σ.1 16))))) (m_least (m_part (σ.2 6 (ix p0)) p1 (σ.2 5 (ix p0))) (1000000 - (σ.1 16))) ((σ.1 11) / 2)) + (m_dutyFor (zs (zs (m_takes σ p0 p1).2 15 ((σ.1 15) - 0)) 16 ((σ.1 16) + (m_least (m_part (σ.2 6 (ix p0)) p1 (σ.2 5 (ix p0))) (1000000 - (σ.1 16))))) ((m_part (σ.2 6 (ix p0)) p1 (σ.2 5 (ix p0))) - (m_least (m_part (σ.2 6 (ix p0)) p1 (σ.2 5 (ix p0))) (1000000 - (σ.1 16)))) (σ.1 11))))) 19 (ix (σ.1 18)) (m_part (σ.2 6 (ix p0)) p1 (σ.2 5 (ix p0)))) 20 (ix (σ.1 18)) ((m_dutyFor (zs (zs (m_takes σ p0 p1).2 15 ((σ.1 15) - 0)) 16 ((σ.1 16) + (m_least (m_part (σ.2 6 (ix p0)) p1 (σ.2 5 (ix p0))) (1000000 - (σ.1 16))))) (m_least (m_part (σ.2 6 (ix p0)) p1 (σ.2 5 (ix p0))) (1000000 - (σ.1 16))) ((σ.1 11) / 2)) + (m_dutyFor (zs (zs (m_takes σ p0 p1).2 15 ((σ.1 15) - 0)) 16 ((σ.1 16) + (m_least (m_part (σ.2 6 (ix p0)) p1 (σ.2 5 (ix p0))) (1000000 - (σ.1 16))))) ((m_part (σ.2 6 (ix p0)) p1 (σ.2 5 (ix p0))) - (m_least (m_part (σ.2 6 (ix p0)) p1 (σ.2 5 (ix p0))) (1000000 - (σ.1 16)))) (σ.1 11)))) 18 ((σ.1 18) + 1))) H locs) => ?_)
        refine lv_iload (pc := 193) hx hb dX7_release_193 (lv_at hl 0 rfl) ?_
        exact M_ret (pc := 195) (v := (m_dutyFor (zs (zs (m_takes σ p0 p1).2 15 ((σ.1 15) - 0)) 16 ((σ.1 16) + (m_least (m_part (σ.2 6 (ix p0)) p1 (σ.2 5 (ix p0))) (1000000 - (σ.1 16))))) (m_least (m_part (σ.2 6 (ix p0)) p1 (σ.2 5 (ix p0))) (1000000 - (σ.1 16))) ((σ.1 11) / 2)) + (m_dutyFor (zs (zs (m_takes σ p0 p1).2 15 ((σ.1 15) - 0)) 16 ((σ.1 16) + (m_least (m_part (σ.2 6 (ix p0)) p1 (σ.2 5 (ix p0))) (1000000 - (σ.1 16))))) ((m_part (σ.2 6 (ix p0)) p1 (σ.2 5 (ix p0))) - (m_least (m_part (σ.2 6 (ix p0)) p1 (σ.2 5 (ix p0))) (1000000 - (σ.1 16)))) (σ.1 11))) X P (by rw [m_release, if_neg c_1, if_pos c_4, if_neg c_5]) dX7_release_195
      · refine lv_iconst (pc := 54) (v := 3) hx hb dX7_release_54 (by decide) ?_
        refine lv_goto (pc := 55) (tgt := 59) hx hb dX7_release_55 (by decide) ?_
        refine M_putT (pc := 59) (v := 3) X P (List.mem_of_getElem? (i := 6) rfl) dX7_release_59 (fun H locs (P : Hp D A s (M_W cI m0 as 3 σ) H locs) => ?_)
        refine lv_aload_n (pc := 62) hx hb dX7_release_62 rfl (lv_at hl 1 rfl) ?_
        refine M_get (pc := 63) (v := .int 3) X P 0 (Nat.le_of_ble_eq_true rfl) (List.mem_of_getElem? (i := 6) rfl) rfl dX7_release_63 ?_
        refine lv_if_le (pc := 66) (tgt := 71) hx hb dX7_release_66 (by decide) (fun h => absurd h (by decide)) (fun _ => ?_)
        refine lv_iconst (pc := 69) (v := 0) hx hb dX7_release_69 (by decide) ?_
        exact M_ret (pc := 70) (v := 0) X P (by rw [m_release, if_neg c_1, if_pos c_4, if_pos c_5]) dX7_release_70
    · refine lv_iload_n (pc := 37) hx hb dX7_release_37 rfl (lv_at hl 0 rfl) ?_
      refine lv_aload_n (pc := 38) hx hb dX7_release_38 rfl (lv_at hl 1 rfl) ?_
      refine M_get (pc := 39) (v := .int (σ.1 15)) X P 15 (Nat.le_of_ble_eq_true rfl) (List.mem_of_getElem? (i := 4) rfl) rfl dX7_release_39 ?_
      refine lv_icmp_gt (pc := 42) (tgt := 54) hx hb dX7_release_42 (by decide) (fun c_7 : (σ.1 15) < (m_part (σ.2 6 (ix p0)) p1 (σ.2 5 (ix p0))) => ?_) (fun c_7 : ¬ (σ.1 15) < (m_part (σ.2 6 (ix p0)) p1 (σ.2 5 (ix p0))) => ?_)
      · refine lv_iconst (pc := 54) (v := 3) hx hb dX7_release_54 (by decide) ?_
        refine lv_goto (pc := 55) (tgt := 59) hx hb dX7_release_55 (by decide) ?_
        refine M_putT (pc := 59) (v := 3) X P (List.mem_of_getElem? (i := 6) rfl) dX7_release_59 (fun H locs (P : Hp D A s (M_W cI m0 as 3 σ) H locs) => ?_)
        refine lv_aload_n (pc := 62) hx hb dX7_release_62 rfl (lv_at hl 1 rfl) ?_
        refine M_get (pc := 63) (v := .int 3) X P 0 (Nat.le_of_ble_eq_true rfl) (List.mem_of_getElem? (i := 6) rfl) rfl dX7_release_63 ?_
        refine lv_if_le (pc := 66) (tgt := 71) hx hb dX7_release_66 (by decide) (fun h => absurd h (by decide)) (fun _ => ?_)
        refine lv_iconst (pc := 69) (v := 0) hx hb dX7_release_69 (by decide) ?_
        exact M_ret (pc := 70) (v := 0) X P (by rw [m_release, if_neg c_1, if_neg c_4, if_pos c_7]) dX7_release_70
      · refine lv_aload_n (pc := 45) hx hb dX7_release_45 rfl (lv_at hl 1 rfl) ?_
        refine M_get (pc := 46) (v := .int (σ.1 18)) X P 18 (Nat.le_of_ble_eq_true rfl) (List.mem_of_getElem? (i := 5) rfl) rfl dX7_release_46 ?_
        refine lv_bipush (pc := 49) (v := 100) hx hb dX7_release_49 (by decide) ?_
        refine lv_icmp_ne (pc := 51) (tgt := 58) hx hb dX7_release_51 (by decide) (fun c_8 : ¬ (σ.1 18) = 100 => ?_) (fun c_8 : (σ.1 18) = 100 => ?_)
        · have hv_9 : vp_in (σ.1 18) 100 := cnt_ne h2 (by decide) c_8
          refine lv_iconst (pc := 58) (v := 0) hx hb dX7_release_58 (by decide) ?_
          refine M_putT (pc := 59) (v := 0) X P (List.mem_of_getElem? (i := 6) rfl) dX7_release_59 (fun H locs (P : Hp D A s (M_W cI m0 as 0 σ) H locs) => ?_)
          refine lv_aload_n (pc := 62) hx hb dX7_release_62 rfl (lv_at hl 1 rfl) ?_
          refine M_get (pc := 63) (v := .int 0) X P 0 (Nat.le_of_ble_eq_true rfl) (List.mem_of_getElem? (i := 6) rfl) rfl dX7_release_63 ?_
          refine lv_if_le (pc := 66) (tgt := 71) hx hb dX7_release_66 (by decide) (fun _ => ?_) (fun h => absurd h (by decide))
          refine lv_aload_n (pc := 71) hx hb dX7_release_71 rfl (lv_at hl 1 rfl) ?_
          refine lv_iload_n (pc := 72) hx hb dX7_release_72 rfl (lv_at hl 2 rfl) ?_
          refine lv_iload_n (pc := 73) hx hb dX7_release_73 rfl (lv_at hl 3 rfl) ?_
          refine M_calli (pc := 74) (As := [.int p0, .int p1]) (rest := []) (f := (0, (m_takes σ p0 p1).1, (m_takes σ p0 p1).2)) X P hl.1 (kX7_takes l D cI m0 as 0 σ p0 p1 hv_2 hw_3) fnX7_takes rfl gX7_release_X7_takes rfl rfl ⟨Nat.le_of_ble_eq_true rfl, Nat.le_of_ble_eq_true rfl⟩ (Nat.le_of_ble_eq_true rfl) ⟨Nat.le_of_ble_eq_true rfl, Nat.le_of_ble_eq_true rfl⟩ dX7_release_74 (fun H locs (P : Hp D A s (M_W cI m0 as 0 ((m_takes σ p0 p1).2)) H locs) => ?_)
          refine lv_pop (pc := 77) hx hb dX7_release_77 rfl ?_
          refine lv_aload_n (pc := 78) hx hb dX7_release_78 rfl (lv_at hl 1 rfl) ?_
          refine lv_dup (pc := 79) hx hb dX7_release_79 rfl ?_
          refine M_get (pc := 80) (v := .int (σ.1 15)) X P 15 (Nat.le_of_ble_eq_true rfl) (List.mem_of_getElem? (i := 4) rfl) rfl dX7_release_80 ?_
          refine lv_aload_n (pc := 83) hx hb dX7_release_83 rfl (lv_at hl 1 rfl) ?_
          refine M_get (pc := 84) (v := .int (σ.1 13)) X P 13 (Nat.le_of_ble_eq_true rfl) (List.mem_of_getElem? (i := 3) rfl) rfl dX7_release_84 ?_
          refine lv_iconst (pc := 87) (v := (-1)) hx hb dX7_release_87 (by decide) ?_
          refine lv_icmp_eq (pc := 88) (tgt := 95) hx hb dX7_release_88 (by decide) (fun g => absurd g c_4) (fun _ => ?_)
          refine lv_iload_n (pc := 91) hx hb dX7_release_91 rfl (lv_at hl 0 rfl) ?_
          refine lv_goto (pc := 92) (tgt := 96) hx hb dX7_release_92 (by decide) ?_
          refine lv_isub (pc := 96) hx hb dX7_release_96 ?_
          refine M_putS (pc := 97) (v := (σ.1 15) - (m_part (σ.2 6 (ix p0)) p1 (σ.2 5 (ix p0)))) X P 15 (Nat.le_of_ble_eq_true rfl) (List.mem_of_getElem? (i := 4) rfl) rfl rfl M_s15 dX7_release_97 (fun H locs (P : Hp D A s (M_W cI m0 as 0 (zs (m_takes σ p0 p1).2 15 ((σ.1 15) - (m_part (σ.2 6 (ix p0)) p1 (σ.2 5 (ix p0)))))) H locs) => ?_)
          refine lv_iload_n (pc := 100) hx hb dX7_release_100 rfl (lv_at hl 0 rfl) ?_
          refine lv_ldc (pc := 101) (v := 1000000) hx hb hown (hts _ (List.mem_of_getElem? (i := 7) rfl)) dX7_release_101 ?_
          refine lv_aload_n (pc := 103) hx hb dX7_release_103 rfl (lv_at hl 1 rfl) ?_
          refine M_get (pc := 104) (v := .int (σ.1 16)) X P 16 (Nat.le_of_ble_eq_true rfl) (List.mem_of_getElem? (i := 8) rfl) rfl dX7_release_104 ?_
          refine lv_isub (pc := 107) hx hb dX7_release_107 ?_
          refine S_call (pc := 108) (As := [.int (m_part (σ.2 6 (ix p0)) p1 (σ.2 5 (ix p0))), .int (1000000 - (σ.1 16))]) (rest := []) (r := m_least (m_part (σ.2 6 (ix p0)) p1 (σ.2 5 (ix p0))) (1000000 - (σ.1 16))) X.1 hl.1 (kX7_least l (m_part (σ.2 6 (ix p0)) p1 (σ.2 5 (ix p0))) (1000000 - (σ.1 16))) fnX7_least gX7_release_X7_least rfl rfl ⟨Nat.le_of_ble_eq_true rfl, Nat.le_of_ble_eq_true rfl⟩ (Nat.le_of_ble_eq_true rfl) ⟨Nat.le_of_ble_eq_true rfl, Nat.le_of_ble_eq_true rfl⟩ dX7_release_108 ?_
          refine lv_istore (pc := 111) (lv' := [(4, .int (m_least (m_part (σ.2 6 (ix p0)) p1 (σ.2 5 (ix p0))) (1000000 - (σ.1 16)))), (3, .int (m_part (σ.2 6 (ix p0)) p1 (σ.2 5 (ix p0)))), (0, .ref m0), (1, .int p0), (2, .int p1)]) hx hb dX7_release_111 hl (by decide) rfl (fun ls hl => ?_)
          refine lv_aload_n (pc := 113) hx hb dX7_release_113 rfl (lv_at hl 2 rfl) ?_
          refine lv_dup (pc := 114) hx hb dX7_release_114 rfl ?_
          refine M_get (pc := 115) (v := .int (σ.1 16)) X P 16 (Nat.le_of_ble_eq_true rfl) (List.mem_of_getElem? (i := 8) rfl) rfl dX7_release_115 ?_
          refine lv_iload (pc := 118) hx hb dX7_release_118 (lv_at hl 0 rfl) ?_
          refine lv_iadd (pc := 120) hx hb dX7_release_120 ?_
          refine M_putS (pc := 121) (v := (σ.1 16) + (m_least (m_part (σ.2 6 (ix p0)) p1 (σ.2 5 (ix p0))) (1000000 - (σ.1 16)))) X P 16 (Nat.le_of_ble_eq_true rfl) (List.mem_of_getElem? (i := 8) rfl) rfl rfl M_s16 dX7_release_121 (fun H locs (P : Hp D A s (M_W cI m0 as 0 (zs (zs (m_takes σ p0 p1).2 15 ((σ.1 15) - (m_part (σ.2 6 (ix p0)) p1 (σ.2 5 (ix p0))))) 16 ((σ.1 16) + (m_least (m_part (σ.2 6 (ix p0)) p1 (σ.2 5 (ix p0))) (1000000 - (σ.1 16)))))) H locs) => ?_)
          refine lv_aload_n (pc := 124) hx hb dX7_release_124 rfl (lv_at hl 2 rfl) ?_
          refine lv_iload (pc := 125) hx hb dX7_release_125 (lv_at hl 0 rfl) ?_
          refine lv_aload_n (pc := 127) hx hb dX7_release_127 rfl (lv_at hl 2 rfl) ?_
          refine M_get (pc := 128) (v := .int (σ.1 11)) X P 11 (Nat.le_of_ble_eq_true rfl) (List.mem_of_getElem? (i := 9) rfl) rfl dX7_release_128 ?_
          refine lv_iconst (pc := 131) (v := 2) hx hb dX7_release_131 (by decide) ?_
          refine lv_idiv (pc := 132) hx hb dX7_release_132 (by decide) ?_
          refine M_calli (pc := 133) (As := [.int (m_least (m_part (σ.2 6 (ix p0)) p1 (σ.2 5 (ix p0))) (1000000 - (σ.1 16))), .int ((σ.1 11) / 2)]) (rest := []) (f := (0, m_dutyFor (zs (zs (m_takes σ p0 p1).2 15 ((σ.1 15) - (m_part (σ.2 6 (ix p0)) p1 (σ.2 5 (ix p0))))) 16 ((σ.1 16) + (m_least (m_part (σ.2 6 (ix p0)) p1 (σ.2 5 (ix p0))) (1000000 - (σ.1 16))))) (m_least (m_part (σ.2 6 (ix p0)) p1 (σ.2 5 (ix p0))) (1000000 - (σ.1 16))) ((σ.1 11) / 2), (zs (zs (m_takes σ p0 p1).2 15 ((σ.1 15) - (m_part (σ.2 6 (ix p0)) p1 (σ.2 5 (ix p0))))) 16 ((σ.1 16) + (m_least (m_part (σ.2 6 (ix p0)) p1 (σ.2 5 (ix p0))) (1000000 - (σ.1 16))))))) X P hl.1 (kX7_dutyFor l D cI m0 as 0 (zs (zs (m_takes σ p0 p1).2 15 ((σ.1 15) - (m_part (σ.2 6 (ix p0)) p1 (σ.2 5 (ix p0))))) 16 ((σ.1 16) + (m_least (m_part (σ.2 6 (ix p0)) p1 (σ.2 5 (ix p0))) (1000000 - (σ.1 16))))) (m_least (m_part (σ.2 6 (ix p0)) p1 (σ.2 5 (ix p0))) (1000000 - (σ.1 16))) ((σ.1 11) / 2)) fnX7_dutyFor rfl gX7_release_X7_dutyFor rfl rfl ⟨Nat.le_of_ble_eq_true rfl, Nat.le_of_ble_eq_true rfl⟩ (Nat.le_of_ble_eq_true rfl) ⟨Nat.le_of_ble_eq_true rfl, Nat.le_of_ble_eq_true rfl⟩ dX7_release_133 (fun H locs (P : Hp D A s (M_W cI m0 as 0 (zs (zs (m_takes σ p0 p1).2 15 ((σ.1 15) - (m_part (σ.2 6 (ix p0)) p1 (σ.2 5 (ix p0))))) 16 ((σ.1 16) + (m_least (m_part (σ.2 6 (ix p0)) p1 (σ.2 5 (ix p0))) (1000000 - (σ.1 16)))))) H locs) => ?_)
          refine lv_aload_n (pc := 136) hx hb dX7_release_136 rfl (lv_at hl 2 rfl) ?_
          refine lv_iload_n (pc := 137) hx hb dX7_release_137 rfl (lv_at hl 1 rfl) ?_
          refine lv_iload (pc := 138) hx hb dX7_release_138 (lv_at hl 0 rfl) ?_
          refine lv_isub (pc := 140) hx hb dX7_release_140 ?_
          refine lv_aload_n (pc := 141) hx hb dX7_release_141 rfl (lv_at hl 2 rfl) ?_
          refine M_get (pc := 142) (v := .int (σ.1 11)) X P 11 (Nat.le_of_ble_eq_true rfl) (List.mem_of_getElem? (i := 9) rfl) rfl dX7_release_142 ?_
          refine M_calli (pc := 145) (As := [.int ((m_part (σ.2 6 (ix p0)) p1 (σ.2 5 (ix p0))) - (m_least (m_part (σ.2 6 (ix p0)) p1 (σ.2 5 (ix p0))) (1000000 - (σ.1 16)))), .int (σ.1 11)]) (rest := [.int (m_dutyFor (zs (zs (m_takes σ p0 p1).2 15 ((σ.1 15) - (m_part (σ.2 6 (ix p0)) p1 (σ.2 5 (ix p0))))) 16 ((σ.1 16) + (m_least (m_part (σ.2 6 (ix p0)) p1 (σ.2 5 (ix p0))) (1000000 - (σ.1 16))))) (m_least (m_part (σ.2 6 (ix p0)) p1 (σ.2 5 (ix p0))) (1000000 - (σ.1 16))) ((σ.1 11) / 2))]) (f := (0, m_dutyFor (zs (zs (m_takes σ p0 p1).2 15 ((σ.1 15) - (m_part (σ.2 6 (ix p0)) p1 (σ.2 5 (ix p0))))) 16 ((σ.1 16) + (m_least (m_part (σ.2 6 (ix p0)) p1 (σ.2 5 (ix p0))) (1000000 - (σ.1 16))))) ((m_part (σ.2 6 (ix p0)) p1 (σ.2 5 (ix p0))) - (m_least (m_part (σ.2 6 (ix p0)) p1 (σ.2 5 (ix p0))) (1000000 - (σ.1 16)))) (σ.1 11), (zs (zs (m_takes σ p0 p1).2 15 ((σ.1 15) - (m_part (σ.2 6 (ix p0)) p1 (σ.2 5 (ix p0))))) 16 ((σ.1 16) + (m_least (m_part (σ.2 6 (ix p0)) p1 (σ.2 5 (ix p0))) (1000000 - (σ.1 16))))))) X P hl.1 (kX7_dutyFor l D cI m0 as 0 (zs (zs (m_takes σ p0 p1).2 15 ((σ.1 15) - (m_part (σ.2 6 (ix p0)) p1 (σ.2 5 (ix p0))))) 16 ((σ.1 16) + (m_least (m_part (σ.2 6 (ix p0)) p1 (σ.2 5 (ix p0))) (1000000 - (σ.1 16))))) ((m_part (σ.2 6 (ix p0)) p1 (σ.2 5 (ix p0))) - (m_least (m_part (σ.2 6 (ix p0)) p1 (σ.2 5 (ix p0))) (1000000 - (σ.1 16)))) (σ.1 11)) fnX7_dutyFor rfl gX7_release_X7_dutyFor rfl rfl ⟨Nat.le_of_ble_eq_true rfl, Nat.le_of_ble_eq_true rfl⟩ (Nat.le_of_ble_eq_true rfl) ⟨Nat.le_of_ble_eq_true rfl, Nat.le_of_ble_eq_true rfl⟩ dX7_release_145 (fun H locs (P : Hp D A s (M_W cI m0 as 0 (zs (zs (m_takes σ p0 p1).2 15 ((σ.1 15) - (m_part (σ.2 6 (ix p0)) p1 (σ.2 5 (ix p0))))) 16 ((σ.1 16) + (m_least (m_part (σ.2 6 (ix p0)) p1 (σ.2 5 (ix p0))) (1000000 - (σ.1 16)))))) H locs) => ?_)
          refine lv_iadd (pc := 148) hx hb dX7_release_148 ?_
          refine lv_istore (pc := 149) (lv' := [(5, .int ((m_dutyFor (zs (zs (m_takes σ p0 p1).2 15 ((σ.1 15) - (m_part (σ.2 6 (ix p0)) p1 (σ.2 5 (ix p0))))) 16 ((σ.1 16) + (m_least (m_part (σ.2 6 (ix p0)) p1 (σ.2 5 (ix p0))) (1000000 - (σ.1 16))))) (m_least (m_part (σ.2 6 (ix p0)) p1 (σ.2 5 (ix p0))) (1000000 - (σ.1 16))) ((σ.1 11) / 2)) + (m_dutyFor (zs (zs (m_takes σ p0 p1).2 15 ((σ.1 15) - (m_part (σ.2 6 (ix p0)) p1 (σ.2 5 (ix p0))))) 16 ((σ.1 16) + (m_least (m_part (σ.2 6 (ix p0)) p1 (σ.2 5 (ix p0))) (1000000 - (σ.1 16))))) ((m_part (σ.2 6 (ix p0)) p1 (σ.2 5 (ix p0))) - (m_least (m_part (σ.2 6 (ix p0)) p1 (σ.2 5 (ix p0))) (1000000 - (σ.1 16)))) (σ.1 11)))), (4, .int (m_least (m_part (σ.2 6 (ix p0)) p1 (σ.2 5 (ix p0))) (1000000 - (σ.1 16)))), (3, .int (m_part (σ.2 6 (ix p0)) p1 (σ.2 5 (ix p0)))), (0, .ref m0), (1, .int p0), (2, .int p1)]) hx hb dX7_release_149 hl (by decide) rfl (fun ls hl => ?_)
          refine lv_aload_n (pc := 151) hx hb dX7_release_151 rfl (lv_at hl 3 rfl) ?_
          refine lv_dup (pc := 152) hx hb dX7_release_152 rfl ?_
          refine M_get (pc := 153) (v := .int (σ.1 12)) X P 12 (Nat.le_of_ble_eq_true rfl) (List.mem_of_getElem? (i := 10) rfl) rfl dX7_release_153 ?_
          refine lv_iload (pc := 156) hx hb dX7_release_156 (lv_at hl 0 rfl) ?_
          refine lv_iadd (pc := 158) hx hb dX7_release_158 ?_
          refine M_putS (pc := 159) (v := (σ.1 12) + ((m_dutyFor (zs (zs (m_takes σ p0 p1).2 15 ((σ.1 15) - (m_part (σ.2 6 (ix p0)) p1 (σ.2 5 (ix p0))))) 16 ((σ.1 16) + (m_least (m_part (σ.2 6 (ix p0)) p1 (σ.2 5 (ix p0))) (1000000 - (σ.1 16))))) (m_least (m_part (σ.2 6 (ix p0)) p1 (σ.2 5 (ix p0))) (1000000 - (σ.1 16))) ((σ.1 11) / 2)) + (m_dutyFor (zs (zs (m_takes σ p0 p1).2 15 ((σ.1 15) - (m_part (σ.2 6 (ix p0)) p1 (σ.2 5 (ix p0))))) 16 ((σ.1 16) + (m_least (m_part (σ.2 6 (ix p0)) p1 (σ.2 5 (ix p0))) (1000000 - (σ.1 16))))) ((m_part (σ.2 6 (ix p0)) p1 (σ.2 5 (ix p0))) - (m_least (m_part (σ.2 6 (ix p0)) p1 (σ.2 5 (ix p0))) (1000000 - (σ.1 16)))) (σ.1 11)))) X P 12 (Nat.le_of_ble_eq_true rfl) (List.mem_of_getElem? (i := 10) rfl) rfl rfl M_s12 dX7_release_159 (fun H locs (P : Hp D A s (M_W cI m0 as 0 (zs (zs (zs (m_takes σ p0 p1).2 15 ((σ.1 15) - (m_part (σ.2 6 (ix p0)) p1 (σ.2 5 (ix p0))))) 16 ((σ.1 16) + (m_least (m_part (σ.2 6 (ix p0)) p1 (σ.2 5 (ix p0))) (1000000 - (σ.1 16))))) 12 ((σ.1 12) + ((m_dutyFor (zs (zs (m_takes σ p0 p1).2 15 ((σ.1 15) - (m_part (σ.2 6 (ix p0)) p1 (σ.2 5 (ix p0))))) 16 ((σ.1 16) + (m_least (m_part (σ.2 6 (ix p0)) p1 (σ.2 5 (ix p0))) (1000000 - (σ.1 16))))) (m_least (m_part (σ.2 6 (ix p0)) p1 (σ.2 5 (ix p0))) (1000000 - (σ.1 16))) ((σ.1 11) / 2)) + (m_dutyFor (zs (zs (m_takes σ p0 p1).2 15 ((σ.1 15) - (m_part (σ.2 6 (ix p0)) p1 (σ.2 5 (ix p0))))) 16 ((σ.1 16) + (m_least (m_part (σ.2 6 (ix p0)) p1 (σ.2 5 (ix p0))) (1000000 - (σ.1 16))))) ((m_part (σ.2 6 (ix p0)) p1 (σ.2 5 (ix p0))) - (m_least (m_part (σ.2 6 (ix p0)) p1 (σ.2 5 (ix p0))) (1000000 - (σ.1 16)))) (σ.1 11)))))) H locs) => ?_)
          refine lv_aload_n (pc := 162) hx hb dX7_release_162 rfl (lv_at hl 3 rfl) ?_
          refine M_get (pc := 163) (v := .ref (as 19)) X P 19 (Nat.le_of_ble_eq_true rfl) (List.mem_of_getElem? (i := 11) rfl) rfl dX7_release_163 ?_
          refine lv_aload_n (pc := 166) hx hb dX7_release_166 rfl (lv_at hl 3 rfl) ?_
          refine M_get (pc := 167) (v := .int (σ.1 18)) X P 18 (Nat.le_of_ble_eq_true rfl) (List.mem_of_getElem? (i := 5) rfl) rfl dX7_release_167 ?_
          refine lv_iload_n (pc := 170) hx hb dX7_release_170 rfl (lv_at hl 2 rfl) ?_
          refine M_ast (pc := 171) (x := m_part (σ.2 6 (ix p0)) p1 (σ.2 5 (ix p0))) (n := 100) X P 7 19 rfl hv_9 M_a19 dX7_release_171 (fun H locs (P : Hp D A s (M_W cI m0 as 0 (bs (zs (zs (zs (m_takes σ p0 p1).2 15 ((σ.1 15) - (m_part (σ.2 6 (ix p0)) p1 (σ.2 5 (ix p0))))) 16 ((σ.1 16) + (m_least (m_part (σ.2 6 (ix p0)) p1 (σ.2 5 (ix p0))) (1000000 - (σ.1 16))))) 12 ((σ.1 12) + ((m_dutyFor (zs (zs (m_takes σ p0 p1).2 15 ((σ.1 15) - (m_part (σ.2 6 (ix p0)) p1 (σ.2 5 (ix p0))))) 16 ((σ.1 16) + (m_least (m_part (σ.2 6 (ix p0)) p1 (σ.2 5 (ix p0))) (1000000 - (σ.1 16))))) (m_least (m_part (σ.2 6 (ix p0)) p1 (σ.2 5 (ix p0))) (1000000 - (σ.1 16))) ((σ.1 11) / 2)) + (m_dutyFor (zs (zs (m_takes σ p0 p1).2 15 ((σ.1 15) - (m_part (σ.2 6 (ix p0)) p1 (σ.2 5 (ix p0))))) 16 ((σ.1 16) + (m_least (m_part (σ.2 6 (ix p0)) p1 (σ.2 5 (ix p0))) (1000000 - (σ.1 16))))) ((m_part (σ.2 6 (ix p0)) p1 (σ.2 5 (ix p0))) - (m_least (m_part (σ.2 6 (ix p0)) p1 (σ.2 5 (ix p0))) (1000000 - (σ.1 16)))) (σ.1 11))))) 19 (ix (σ.1 18)) (m_part (σ.2 6 (ix p0)) p1 (σ.2 5 (ix p0))))) H locs) => ?_)
          refine lv_aload_n (pc := 172) hx hb dX7_release_172 rfl (lv_at hl 3 rfl) ?_
          refine M_get (pc := 173) (v := .ref (as 20)) X P 20 (Nat.le_of_ble_eq_true rfl) (List.mem_of_getElem? (i := 12) rfl) rfl dX7_release_173 ?_
          refine lv_aload_n (pc := 176) hx hb dX7_release_176 rfl (lv_at hl 3 rfl) ?_
          refine M_get (pc := 177) (v := .int (σ.1 18)) X P 18 (Nat.le_of_ble_eq_true rfl) (List.mem_of_getElem? (i := 5) rfl) rfl dX7_release_177 ?_
          refine lv_iload (pc := 180) hx hb dX7_release_180 (lv_at hl 0 rfl) ?_
          refine M_ast (pc := 182) (x := (m_dutyFor (zs (zs (m_takes σ p0 p1).2 15 ((σ.1 15) - (m_part (σ.2 6 (ix p0)) p1 (σ.2 5 (ix p0))))) 16 ((σ.1 16) + (m_least (m_part (σ.2 6 (ix p0)) p1 (σ.2 5 (ix p0))) (1000000 - (σ.1 16))))) (m_least (m_part (σ.2 6 (ix p0)) p1 (σ.2 5 (ix p0))) (1000000 - (σ.1 16))) ((σ.1 11) / 2)) + (m_dutyFor (zs (zs (m_takes σ p0 p1).2 15 ((σ.1 15) - (m_part (σ.2 6 (ix p0)) p1 (σ.2 5 (ix p0))))) 16 ((σ.1 16) + (m_least (m_part (σ.2 6 (ix p0)) p1 (σ.2 5 (ix p0))) (1000000 - (σ.1 16))))) ((m_part (σ.2 6 (ix p0)) p1 (σ.2 5 (ix p0))) - (m_least (m_part (σ.2 6 (ix p0)) p1 (σ.2 5 (ix p0))) (1000000 - (σ.1 16)))) (σ.1 11))) (n := 100) X P 8 20 rfl hv_9 M_a20 dX7_release_182 (fun H locs (P : Hp D A s (M_W cI m0 as 0 (bs (bs (zs (zs (zs (m_takes σ p0 p1).2 15 ((σ.1 15) - (m_part (σ.2 6 (ix p0)) p1 (σ.2 5 (ix p0))))) 16 ((σ.1 16) + (m_least (m_part (σ.2 6 (ix p0)) p1 (σ.2 5 (ix p0))) (1000000 - (σ.1 16))))) 12 ((σ.1 12) + ((m_dutyFor (zs (zs (m_takes σ p0 p1).2 15 ((σ.1 15) - (m_part (σ.2 6 (ix p0)) p1 (σ.2 5 (ix p0))))) 16 ((σ.1 16) + (m_least (m_part (σ.2 6 (ix p0)) p1 (σ.2 5 (ix p0))) (1000000 - (σ.1 16))))) (m_least (m_part (σ.2 6 (ix p0)) p1 (σ.2 5 (ix p0))) (1000000 - (σ.1 16))) ((σ.1 11) / 2)) + (m_dutyFor (zs (zs (m_takes σ p0 p1).2 15 ((σ.1 15) - (m_part (σ.2 6 (ix p0)) p1 (σ.2 5 (ix p0))))) 16 ((σ.1 16) + (m_least (m_part (σ.2 6 (ix p0)) p1 (σ.2 5 (ix p0))) (1000000 - (σ.1 16))))) ((m_part (σ.2 6 (ix p0)) p1 (σ.2 5 (ix p0))) - (m_least (m_part (σ.2 6 (ix p0)) p1 (σ.2 5 (ix p0))) (1000000 - (σ.1 16)))) (σ.1 11))))) 19 (ix (σ.1 18)) (m_part (σ.2 6 (ix p0)) p1 (σ.2 5 (ix p0)))) 20 (ix (σ.1 18)) ((m_dutyFor (zs (zs (m_takes σ p0 p1).2 15 ((σ.1 15) - (m_part (σ.2 6 (ix p0)) p1 (σ.2 5 (ix p0))))) 16 ((σ.1 16) + (m_least (m_part (σ.2 6 (ix p0)) p1 (σ.2 5 (ix p0))) (1000000 - (σ.1 16))))) (m_least (m_part (σ.2 6 (ix p0)) p1 (σ.2 5 (ix p0))) (1000000 - (σ.1 16))) ((σ.1 11) / 2)) + (m_dutyFor (zs (zs (m_takes σ p0 p1).2 15 ((σ.1 15) - (m_part (σ.2 6 (ix p0)) p1 (σ.2 5 (ix p0))))) 16 ((σ.1 16) + (m_least (m_part (σ.2 6 (ix p0)) p1 (σ.2 5 (ix p0))) (1000000 - (σ.1 16))))) ((m_part (σ.2 6 (ix p0)) p1 (σ.2 5 (ix p0))) - (m_least (m_part (σ.2 6 (ix p0)) p1 (σ.2 5 (ix p0))) (1000000 - (σ.1 16)))) (σ.1 11))))) H locs) => ?_)
          refine lv_aload_n (pc := 183) hx hb dX7_release_183 rfl (lv_at hl 3 rfl) ?_
          refine lv_dup (pc := 184) hx hb dX7_release_184 rfl ?_
          refine M_get (pc := 185) (v := .int (σ.1 18)) X P 18 (Nat.le_of_ble_eq_true rfl) (List.mem_of_getElem? (i := 5) rfl) rfl dX7_release_185 ?_
          refine lv_iconst (pc := 188) (v := 1) hx hb dX7_release_188 (by decide) ?_
          refine lv_iadd (pc := 189) hx hb dX7_release_189 ?_
          refine M_putS (pc := 190) (v := (σ.1 18) + 1) X P 18 (Nat.le_of_ble_eq_true rfl) (List.mem_of_getElem? (i := 5) rfl) rfl rfl M_s18 dX7_release_190 (fun H locs (P : Hp D A s (M_W cI m0 as 0 (zs (bs (bs (zs (zs (zs (m_takes σ p0 p1).2 15 ((σ.1 15) - (m_part (σ.2 6 (ix p0)) p1 (σ.2 5 (ix p0))))) 16 ((σ.1 16) + (m_least (m_part (σ.2 6 (ix p0)) p1 (σ.2 5 (ix p0))) (1000000 - (σ.1 16))))) 12 ((σ.1 12) + ((m_dutyFor (zs (zs (m_takes σ p0 p1).2 15 ((σ.1 15) - (m_part (σ.2 6 (ix p0)) p1 (σ.2 5 (ix p0))))) 16 ((σ.1 16) + (m_least (m_part (σ.2 6 (ix p0)) p1 (σ.2 5 (ix p0))) (1000000 - (σ.1 16))))) (m_least (m_part (σ.2 6 (ix p0)) p1 (σ.2 5 (ix p0))) (1000000 - (σ.1 16))) ((σ.1 11) / 2)) + (m_dutyFor (zs (zs (m_takes σ p0 p1).2 15 ((σ.1 15) - (m_part (σ.2 6 (ix p0)) p1 (σ.2 5 (ix p0))))) 16 ((σ.1 16) + (m_least (m_part (σ.2 6 (ix p0)) p1 (σ.2 5 (ix p0))) (1000000 - (σ.1 16))))) ((m_part (σ.2 6 (ix p0)) p1 (σ.2 5 (ix p0))) - (m_least (m_part (σ.2 6 (ix p0)) p1 (σ.2 5 (ix p0))) (1000000 - (σ.1 16)))) (σ.1 11))))) 19 (ix (σ.1 18)) (m_part (σ.2 6 (ix p0)) p1 (σ.2 5 (ix p0)))) 20 (ix (σ.1 18)) ((m_dutyFor (zs (zs (m_takes σ p0 p1).2 15 ((σ.1 15) - (m_part (σ.2 6 (ix p0)) p1 (σ.2 5 (ix p0))))) 16 ((σ.1 16) + (m_least (m_part (σ.2 6 (ix p0)) p1 (σ.2 5 (ix p0))) (1000000 - (σ.1 16))))) (m_least (m_part (σ.2 6 (ix p0)) p1 (σ.2 5 (ix p0))) (1000000 - (σ.1 16))) ((σ.1 11) / 2)) + (m_dutyFor (zs (zs (m_takes σ p0 p1).2 15 ((σ.1 15) - (m_part (σ.2 6 (ix p0)) p1 (σ.2 5 (ix p0))))) 16 ((σ.1 16) + (m_least (m_part (σ.2 6 (ix p0)) p1 (σ.2 5 (ix p0))) (1000000 - (σ.1 16))))) ((m_part (σ.2 6 (ix p0)) p1 (σ.2 5 (ix p0))) - (m_least (m_part (σ.2 6 (ix p0)) p1 (σ.2 5 (ix p0))) (1000000 - (σ.1 16)))) (σ.1 11)))) 18 ((σ.1 18) + 1))) H locs) => ?_)
          refine lv_iload (pc := 193) hx hb dX7_release_193 (lv_at hl 0 rfl) ?_
          exact M_ret (pc := 195) (v := (m_dutyFor (zs (zs (m_takes σ p0 p1).2 15 ((σ.1 15) - (m_part (σ.2 6 (ix p0)) p1 (σ.2 5 (ix p0))))) 16 ((σ.1 16) + (m_least (m_part (σ.2 6 (ix p0)) p1 (σ.2 5 (ix p0))) (1000000 - (σ.1 16))))) (m_least (m_part (σ.2 6 (ix p0)) p1 (σ.2 5 (ix p0))) (1000000 - (σ.1 16))) ((σ.1 11) / 2)) + (m_dutyFor (zs (zs (m_takes σ p0 p1).2 15 ((σ.1 15) - (m_part (σ.2 6 (ix p0)) p1 (σ.2 5 (ix p0))))) 16 ((σ.1 16) + (m_least (m_part (σ.2 6 (ix p0)) p1 (σ.2 5 (ix p0))) (1000000 - (σ.1 16))))) ((m_part (σ.2 6 (ix p0)) p1 (σ.2 5 (ix p0))) - (m_least (m_part (σ.2 6 (ix p0)) p1 (σ.2 5 (ix p0))) (1000000 - (σ.1 16)))) (σ.1 11))) X P (by rw [m_release, if_neg c_1, if_neg c_4, if_neg c_7, if_neg c_8]) dX7_release_195
        · refine lv_iconst (pc := 54) (v := 3) hx hb dX7_release_54 (by decide) ?_
          refine lv_goto (pc := 55) (tgt := 59) hx hb dX7_release_55 (by decide) ?_
          refine M_putT (pc := 59) (v := 3) X P (List.mem_of_getElem? (i := 6) rfl) dX7_release_59 (fun H locs (P : Hp D A s (M_W cI m0 as 3 σ) H locs) => ?_)
          refine lv_aload_n (pc := 62) hx hb dX7_release_62 rfl (lv_at hl 1 rfl) ?_
          refine M_get (pc := 63) (v := .int 3) X P 0 (Nat.le_of_ble_eq_true rfl) (List.mem_of_getElem? (i := 6) rfl) rfl dX7_release_63 ?_
          refine lv_if_le (pc := 66) (tgt := 71) hx hb dX7_release_66 (by decide) (fun h => absurd h (by decide)) (fun _ => ?_)
          refine lv_iconst (pc := 69) (v := 0) hx hb dX7_release_69 (by decide) ?_
          exact M_ret (pc := 70) (v := 0) X P (by rw [m_release, if_neg c_1, if_neg c_4, if_neg c_7, if_pos c_8]) dX7_release_70
  · refine lv_iconst (pc := 9) (v := 0) hx hb dX7_release_9 (by decide) ?_
    exact M_ret (pc := 10) (v := 0) X P (by rw [m_release, if_pos c_1]) dX7_release_10
def m_permit (σ : Sg) (p0 : Int32) : Int32 × Int32 × Sg := if (m_in p0 0 9999999) = 0 then (1, 0, σ) else (0, σ.1 17, (zs σ 17 p0))
abbrev rX7_permit : Room := { frames := 1, cells := 0, slots := 0, locals := 22 }
theorem fnX7_permit : Fn yX7_permit wsX7_permit cX7_permit 3 (some .int) 1 rX7_permit 0 0 := ⟨⟨_, rfl⟩, rfl, rfl, by decide +kernel⟩
theorem inX7_permit : ∀ w ∈ wsX70, w ∈ wsX7_permit := fun w h => List.mem_cons_of_mem _ (List.mem_append_right _ h)
set_option maxHeartbeats 4000000 in
set_option maxRecDepth 100000 in
theorem kX7_permit (l : Launch) (D : va_G) (cI : ClassId) (m0 : Nat) (as : Nat → Nat) (th : Int32) (σ : Sg) (p0 : Int32) : M_Mi l yX7_permit wsX7_permit rX7_permit D cI m0 as th σ [.int p0] (m_permit σ p0) := by
  refine M_body (n := 1) (Qc := fun A => M_Qi D cI m0 as (m_permit σ p0) A) rfl fnX7_permit inX7_permit (Nat.le_of_ble_eq_true rfl) ?_
  intro p e s m args below meth c X A P ls hl
  have hx := X.1.1
  have hb := X.1.2.1
  have hown := X.1.2.2.2.1
  have hts := X.1.2.2.2.2.1
  have hl : lv_has ls 3 [(0, .ref m0), (1, .int p0)] := hl
  refine lv_aload_n (pc := 0) hx hb dX7_permit_0 rfl (lv_at hl 0 rfl) ?_
  refine lv_iload_n (pc := 1) hx hb dX7_permit_1 rfl (lv_at hl 1 rfl) ?_
  refine lv_iconst (pc := 2) (v := 0) hx hb dX7_permit_2 (by decide) ?_
  refine lv_ldc (pc := 3) (v := 9999999) hx hb hown (hts _ (List.mem_of_getElem? (i := 1) rfl)) dX7_permit_3 ?_
  refine S_call (pc := 5) (As := [.int p0, .int 0, .int 9999999]) (rest := [.ref m0]) (r := m_in p0 0 9999999) X.1 hl.1 (kX7_in l p0 0 9999999) fnX7_in gX7_permit_X7_in rfl rfl ⟨Nat.le_of_ble_eq_true rfl, Nat.le_of_ble_eq_true rfl⟩ (Nat.le_of_ble_eq_true rfl) ⟨Nat.le_of_ble_eq_true rfl, Nat.le_of_ble_eq_true rfl⟩ dX7_permit_5 ?_
  refine lv_if_eq (pc := 8) (tgt := 15) hx hb dX7_permit_8 (by decide) (fun c_1 : (m_in p0 0 9999999) = 0 => ?_) (fun c_1 : ¬ (m_in p0 0 9999999) = 0 => ?_)
  · refine lv_iconst (pc := 15) (v := 1) hx hb dX7_permit_15 (by decide) ?_
    refine M_putT (pc := 16) (v := 1) X P (List.mem_of_getElem? (i := 2) rfl) dX7_permit_16 (fun H locs (P : Hp D A s (M_W cI m0 as 1 σ) H locs) => ?_)
    refine lv_aload_n (pc := 19) hx hb dX7_permit_19 rfl (lv_at hl 0 rfl) ?_
    refine M_get (pc := 20) (v := .int 1) X P 0 (Nat.le_of_ble_eq_true rfl) (List.mem_of_getElem? (i := 2) rfl) rfl dX7_permit_20 ?_
    refine lv_if_le (pc := 23) (tgt := 28) hx hb dX7_permit_23 (by decide) (fun h => absurd h (by decide)) (fun _ => ?_)
    refine lv_iconst (pc := 26) (v := 0) hx hb dX7_permit_26 (by decide) ?_
    exact M_ret (pc := 27) (v := 0) X P (by rw [m_permit, if_pos c_1]) dX7_permit_27
  · have hv_2 : vp_in p0 10000000 := in_vp (by decide) c_1
    refine lv_iconst (pc := 11) (v := 0) hx hb dX7_permit_11 (by decide) ?_
    refine lv_goto (pc := 12) (tgt := 16) hx hb dX7_permit_12 (by decide) ?_
    refine M_putT (pc := 16) (v := 0) X P (List.mem_of_getElem? (i := 2) rfl) dX7_permit_16 (fun H locs (P : Hp D A s (M_W cI m0 as 0 σ) H locs) => ?_)
    refine lv_aload_n (pc := 19) hx hb dX7_permit_19 rfl (lv_at hl 0 rfl) ?_
    refine M_get (pc := 20) (v := .int 0) X P 0 (Nat.le_of_ble_eq_true rfl) (List.mem_of_getElem? (i := 2) rfl) rfl dX7_permit_20 ?_
    refine lv_if_le (pc := 23) (tgt := 28) hx hb dX7_permit_23 (by decide) (fun _ => ?_) (fun h => absurd h (by decide))
    refine lv_aload_n (pc := 28) hx hb dX7_permit_28 rfl (lv_at hl 0 rfl) ?_
    refine M_get (pc := 29) (v := .int (σ.1 17)) X P 17 (Nat.le_of_ble_eq_true rfl) (List.mem_of_getElem? (i := 3) rfl) rfl dX7_permit_29 ?_
    refine lv_istore_n (pc := 32) (lv' := [(2, .int (σ.1 17)), (0, .ref m0), (1, .int p0)]) hx hb dX7_permit_32 rfl hl (by decide) rfl (fun ls hl => ?_)
    refine lv_aload_n (pc := 33) hx hb dX7_permit_33 rfl (lv_at hl 1 rfl) ?_
    refine lv_iload_n (pc := 34) hx hb dX7_permit_34 rfl (lv_at hl 2 rfl) ?_
    refine M_putS (pc := 35) (v := p0) X P 17 (Nat.le_of_ble_eq_true rfl) (List.mem_of_getElem? (i := 3) rfl) rfl rfl M_s17 dX7_permit_35 (fun H locs (P : Hp D A s (M_W cI m0 as 0 (zs σ 17 p0)) H locs) => ?_)
    refine lv_iload_n (pc := 38) hx hb dX7_permit_38 rfl (lv_at hl 0 rfl) ?_
    exact M_ret (pc := 39) (v := σ.1 17) X P (by rw [m_permit, if_neg c_1]) dX7_permit_39
def m_denature (σ : Sg) (p0 : Int32) (p1 : Int32) : Int32 × Int32 × Sg := if ((m_asksPart σ p0 p1).2) = 0 then ((m_asksPart σ p0 p1).1, 0, σ) else if (m_part (σ.2 6 (ix p0)) p1 (σ.2 5 (ix p0))) ≤ (σ.1 17) then (0, m_part (σ.2 6 (ix p0)) p1 (σ.2 5 (ix p0)), (bs (zs (m_takes σ p0 p1).2 17 ((σ.1 17) - (m_part (σ.2 6 (ix p0)) p1 (σ.2 5 (ix p0))))) 10 4 ((σ.2 10 4) + (m_part (σ.2 6 (ix p0)) p1 (σ.2 5 (ix p0)))))) else (3, 0, σ)
abbrev rX7_denature : Room := { frames := 3, cells := 0, slots := 0, locals := 65 }
theorem fnX7_denature : Fn yX7_denature wsX7_denature cX7_denature 4 (some .int) 2 rX7_denature 0 0 := ⟨⟨_, rfl⟩, rfl, rfl, by decide +kernel⟩
theorem inX7_denature : ∀ w ∈ wsX70, w ∈ wsX7_denature := fun w h => List.mem_cons_of_mem _ (List.mem_append_right _ h)
set_option maxHeartbeats 4000000 in
set_option maxRecDepth 100000 in
theorem kX7_denature (l : Launch) (D : va_G) (cI : ClassId) (m0 : Nat) (as : Nat → Nat) (th : Int32) (σ : Sg) (p0 : Int32) (p1 : Int32) (h0 : Cnt σ 2 10) : M_Mi l yX7_denature wsX7_denature rX7_denature D cI m0 as th σ [.int p0, .int p1] (m_denature σ p0 p1) := by
  refine M_body (n := 2) (Qc := fun A => M_Qi D cI m0 as (m_denature σ p0 p1) A) rfl fnX7_denature inX7_denature (Nat.le_of_ble_eq_true rfl) ?_
  intro p e s m args below meth c X A P ls hl
  have hx := X.1.1
  have hb := X.1.2.1
  have hown := X.1.2.2.2.1
  have hts := X.1.2.2.2.2.1
  have hl : lv_has ls 4 [(0, .ref m0), (1, .int p0), (2, .int p1)] := hl
  refine lv_aload_n (pc := 0) hx hb dX7_denature_0 rfl (lv_at hl 0 rfl) ?_
  refine lv_iload_n (pc := 1) hx hb dX7_denature_1 rfl (lv_at hl 1 rfl) ?_
  refine lv_iload_n (pc := 2) hx hb dX7_denature_2 rfl (lv_at hl 2 rfl) ?_
  refine M_calli (pc := 3) (As := [.int p0, .int p1]) (rest := []) (f := ((m_asksPart σ p0 p1).1, (m_asksPart σ p0 p1).2, σ)) X P hl.1 (kX7_asksPart l D cI m0 as th σ p0 p1 h0) fnX7_asksPart rfl gX7_denature_X7_asksPart rfl rfl ⟨Nat.le_of_ble_eq_true rfl, Nat.le_of_ble_eq_true rfl⟩ (Nat.le_of_ble_eq_true rfl) ⟨Nat.le_of_ble_eq_true rfl, Nat.le_of_ble_eq_true rfl⟩ dX7_denature_3 (fun H locs (P : Hp D A s (M_W cI m0 as ((m_asksPart σ p0 p1).1) σ) H locs) => ?_)
  refine lv_if_ne (pc := 6) (tgt := 11) hx hb dX7_denature_6 (by decide) (fun c_1 : ¬ ((m_asksPart σ p0 p1).2) = 0 => ?_) (fun c_1 : ((m_asksPart σ p0 p1).2) = 0 => ?_)
  · have hv_2 : vp_in p0 10 := (asks_in h0 c_1).1
    have hw_3 : ¬ σ.2 5 (ix p0) = 0 := (asks_in h0 c_1).2
    refine lv_aload_n (pc := 11) hx hb dX7_denature_11 rfl (lv_at hl 0 rfl) ?_
    refine M_get (pc := 12) (v := .ref (as 6)) X P 6 (Nat.le_of_ble_eq_true rfl) (List.mem_of_getElem? (i := 1) rfl) rfl dX7_denature_12 ?_
    refine lv_iload_n (pc := 15) hx hb dX7_denature_15 rfl (lv_at hl 1 rfl) ?_
    refine M_ald (pc := 16) (a := as 6) (n := 10) (f := σ.2 6) X P 4 rfl hv_2 dX7_denature_16 ?_
    refine lv_iload_n (pc := 17) hx hb dX7_denature_17 rfl (lv_at hl 2 rfl) ?_
    refine lv_aload_n (pc := 18) hx hb dX7_denature_18 rfl (lv_at hl 0 rfl) ?_
    refine M_get (pc := 19) (v := .ref (as 5)) X P 5 (Nat.le_of_ble_eq_true rfl) (List.mem_of_getElem? (i := 2) rfl) rfl dX7_denature_19 ?_
    refine lv_iload_n (pc := 22) hx hb dX7_denature_22 rfl (lv_at hl 1 rfl) ?_
    refine M_ald (pc := 23) (a := as 5) (n := 10) (f := σ.2 5) X P 3 rfl hv_2 dX7_denature_23 ?_
    refine S_call (pc := 24) (As := [.int (σ.2 6 (ix p0)), .int p1, .int (σ.2 5 (ix p0))]) (rest := []) (r := m_part (σ.2 6 (ix p0)) p1 (σ.2 5 (ix p0))) X.1 hl.1 (kX7_part l (σ.2 6 (ix p0)) p1 (σ.2 5 (ix p0)) hw_3) fnX7_part gX7_denature_X7_part rfl rfl ⟨Nat.le_of_ble_eq_true rfl, Nat.le_of_ble_eq_true rfl⟩ (Nat.le_of_ble_eq_true rfl) ⟨Nat.le_of_ble_eq_true rfl, Nat.le_of_ble_eq_true rfl⟩ dX7_denature_24 ?_
    refine lv_istore_n (pc := 27) (lv' := [(3, .int (m_part (σ.2 6 (ix p0)) p1 (σ.2 5 (ix p0)))), (0, .ref m0), (1, .int p0), (2, .int p1)]) hx hb dX7_denature_27 rfl hl (by decide) rfl (fun ls hl => ?_)
    refine lv_aload_n (pc := 28) hx hb dX7_denature_28 rfl (lv_at hl 1 rfl) ?_
    refine lv_iload_n (pc := 29) hx hb dX7_denature_29 rfl (lv_at hl 0 rfl) ?_
    refine lv_aload_n (pc := 30) hx hb dX7_denature_30 rfl (lv_at hl 1 rfl) ?_
    refine M_get (pc := 31) (v := .int (σ.1 17)) X P 17 (Nat.le_of_ble_eq_true rfl) (List.mem_of_getElem? (i := 3) rfl) rfl dX7_denature_31 ?_
    refine lv_icmp_le (pc := 34) (tgt := 41) hx hb dX7_denature_34 (by decide) (fun c_4 : (m_part (σ.2 6 (ix p0)) p1 (σ.2 5 (ix p0))) ≤ (σ.1 17) => ?_) (fun c_4 : ¬ (m_part (σ.2 6 (ix p0)) p1 (σ.2 5 (ix p0))) ≤ (σ.1 17) => ?_)
    · refine lv_iconst (pc := 41) (v := 0) hx hb dX7_denature_41 (by decide) ?_
      refine M_putT (pc := 42) (v := 0) X P (List.mem_of_getElem? (i := 4) rfl) dX7_denature_42 (fun H locs (P : Hp D A s (M_W cI m0 as 0 σ) H locs) => ?_)
      refine lv_aload_n (pc := 45) hx hb dX7_denature_45 rfl (lv_at hl 1 rfl) ?_
      refine M_get (pc := 46) (v := .int 0) X P 0 (Nat.le_of_ble_eq_true rfl) (List.mem_of_getElem? (i := 4) rfl) rfl dX7_denature_46 ?_
      refine lv_if_le (pc := 49) (tgt := 54) hx hb dX7_denature_49 (by decide) (fun _ => ?_) (fun h => absurd h (by decide))
      refine lv_aload_n (pc := 54) hx hb dX7_denature_54 rfl (lv_at hl 1 rfl) ?_
      refine lv_iload_n (pc := 55) hx hb dX7_denature_55 rfl (lv_at hl 2 rfl) ?_
      refine lv_iload_n (pc := 56) hx hb dX7_denature_56 rfl (lv_at hl 3 rfl) ?_
      refine M_calli (pc := 57) (As := [.int p0, .int p1]) (rest := []) (f := (0, (m_takes σ p0 p1).1, (m_takes σ p0 p1).2)) X P hl.1 (kX7_takes l D cI m0 as 0 σ p0 p1 hv_2 hw_3) fnX7_takes rfl gX7_denature_X7_takes rfl rfl ⟨Nat.le_of_ble_eq_true rfl, Nat.le_of_ble_eq_true rfl⟩ (Nat.le_of_ble_eq_true rfl) ⟨Nat.le_of_ble_eq_true rfl, Nat.le_of_ble_eq_true rfl⟩ dX7_denature_57 (fun H locs (P : Hp D A s (M_W cI m0 as 0 ((m_takes σ p0 p1).2)) H locs) => ?_)
      refine lv_pop (pc := 60) hx hb dX7_denature_60 rfl ?_
      refine lv_aload_n (pc := 61) hx hb dX7_denature_61 rfl (lv_at hl 1 rfl) ?_
      refine lv_dup (pc := 62) hx hb dX7_denature_62 rfl ?_
      refine M_get (pc := 63) (v := .int (σ.1 17)) X P 17 (Nat.le_of_ble_eq_true rfl) (List.mem_of_getElem? (i := 3) rfl) rfl dX7_denature_63 ?_
      refine lv_iload_n (pc := 66) hx hb dX7_denature_66 rfl (lv_at hl 0 rfl) ?_
      refine lv_isub (pc := 67) hx hb dX7_denature_67 ?_
      refine M_putS (pc := 68) (v := (σ.1 17) - (m_part (σ.2 6 (ix p0)) p1 (σ.2 5 (ix p0)))) X P 17 (Nat.le_of_ble_eq_true rfl) (List.mem_of_getElem? (i := 3) rfl) rfl rfl M_s17 dX7_denature_68 (fun H locs (P : Hp D A s (M_W cI m0 as 0 (zs (m_takes σ p0 p1).2 17 ((σ.1 17) - (m_part (σ.2 6 (ix p0)) p1 (σ.2 5 (ix p0)))))) H locs) => ?_)
      refine lv_aload_n (pc := 71) hx hb dX7_denature_71 rfl (lv_at hl 1 rfl) ?_
      refine M_get (pc := 72) (v := .ref (as 10)) X P 10 (Nat.le_of_ble_eq_true rfl) (List.mem_of_getElem? (i := 5) rfl) rfl dX7_denature_72 ?_
      refine lv_iconst (pc := 75) (v := 4) hx hb dX7_denature_75 (by decide) ?_
      refine lv_dup2_11 (pc := 76) hx hb dX7_denature_76 rfl rfl ?_
      refine M_ald (pc := 77) (a := as 10) (n := 8) (f := σ.2 10) X P 6 rfl (vp_dec (by decide)) dX7_denature_77 ?_
      refine lv_iload_n (pc := 78) hx hb dX7_denature_78 rfl (lv_at hl 0 rfl) ?_
      refine lv_iadd (pc := 79) hx hb dX7_denature_79 ?_
      refine M_ast (pc := 80) (x := (σ.2 10 4) + (m_part (σ.2 6 (ix p0)) p1 (σ.2 5 (ix p0)))) (n := 8) X P 6 10 rfl (vp_dec (by decide)) M_a10 dX7_denature_80 (fun H locs (P : Hp D A s (M_W cI m0 as 0 (bs (zs (m_takes σ p0 p1).2 17 ((σ.1 17) - (m_part (σ.2 6 (ix p0)) p1 (σ.2 5 (ix p0))))) 10 4 ((σ.2 10 4) + (m_part (σ.2 6 (ix p0)) p1 (σ.2 5 (ix p0)))))) H locs) => ?_)
      refine lv_iload_n (pc := 81) hx hb dX7_denature_81 rfl (lv_at hl 0 rfl) ?_
      exact M_ret (pc := 82) (v := m_part (σ.2 6 (ix p0)) p1 (σ.2 5 (ix p0))) X P (by rw [m_denature, if_neg c_1, if_pos c_4]) dX7_denature_82
    · refine lv_iconst (pc := 37) (v := 3) hx hb dX7_denature_37 (by decide) ?_
      refine lv_goto (pc := 38) (tgt := 42) hx hb dX7_denature_38 (by decide) ?_
      refine M_putT (pc := 42) (v := 3) X P (List.mem_of_getElem? (i := 4) rfl) dX7_denature_42 (fun H locs (P : Hp D A s (M_W cI m0 as 3 σ) H locs) => ?_)
      refine lv_aload_n (pc := 45) hx hb dX7_denature_45 rfl (lv_at hl 1 rfl) ?_
      refine M_get (pc := 46) (v := .int 3) X P 0 (Nat.le_of_ble_eq_true rfl) (List.mem_of_getElem? (i := 4) rfl) rfl dX7_denature_46 ?_
      refine lv_if_le (pc := 49) (tgt := 54) hx hb dX7_denature_49 (by decide) (fun h => absurd h (by decide)) (fun _ => ?_)
      refine lv_iconst (pc := 52) (v := 0) hx hb dX7_denature_52 (by decide) ?_
      exact M_ret (pc := 53) (v := 0) X P (by rw [m_denature, if_neg c_1, if_neg c_4]) dX7_denature_53
  · refine lv_iconst (pc := 9) (v := 0) hx hb dX7_denature_9 (by decide) ?_
    exact M_ret (pc := 10) (v := 0) X P (by rw [m_denature, if_pos c_1]) dX7_denature_10
def m_pay (σ : Sg) (p0 : Int32) : Int32 × Int32 × Sg := if (m_in p0 1 999999) = 0 then (1, 0, σ) else if p0 ≤ (σ.1 12) then (0, (σ.1 12) - p0, (zs σ 12 ((σ.1 12) - p0))) else (2, 0, σ)
abbrev rX7_pay : Room := { frames := 1, cells := 0, slots := 0, locals := 22 }
theorem fnX7_pay : Fn yX7_pay wsX7_pay cX7_pay 2 (some .int) 1 rX7_pay 0 0 := ⟨⟨_, rfl⟩, rfl, rfl, by decide +kernel⟩
theorem inX7_pay : ∀ w ∈ wsX70, w ∈ wsX7_pay := fun w h => List.mem_cons_of_mem _ (List.mem_append_right _ h)
set_option maxHeartbeats 4000000 in
set_option maxRecDepth 100000 in
theorem kX7_pay (l : Launch) (D : va_G) (cI : ClassId) (m0 : Nat) (as : Nat → Nat) (th : Int32) (σ : Sg) (p0 : Int32) : M_Mi l yX7_pay wsX7_pay rX7_pay D cI m0 as th σ [.int p0] (m_pay σ p0) := by
  refine M_body (n := 1) (Qc := fun A => M_Qi D cI m0 as (m_pay σ p0) A) rfl fnX7_pay inX7_pay (Nat.le_of_ble_eq_true rfl) ?_
  intro p e s m args below meth c X A P ls hl
  have hx := X.1.1
  have hb := X.1.2.1
  have hown := X.1.2.2.2.1
  have hts := X.1.2.2.2.2.1
  have hl : lv_has ls 2 [(0, .ref m0), (1, .int p0)] := hl
  refine lv_aload_n (pc := 0) hx hb dX7_pay_0 rfl (lv_at hl 0 rfl) ?_
  refine lv_iload_n (pc := 1) hx hb dX7_pay_1 rfl (lv_at hl 1 rfl) ?_
  refine lv_iconst (pc := 2) (v := 1) hx hb dX7_pay_2 (by decide) ?_
  refine lv_ldc (pc := 3) (v := 999999) hx hb hown (hts _ (List.mem_of_getElem? (i := 1) rfl)) dX7_pay_3 ?_
  refine S_call (pc := 5) (As := [.int p0, .int 1, .int 999999]) (rest := [.ref m0]) (r := m_in p0 1 999999) X.1 hl.1 (kX7_in l p0 1 999999) fnX7_in gX7_pay_X7_in rfl rfl ⟨Nat.le_of_ble_eq_true rfl, Nat.le_of_ble_eq_true rfl⟩ (Nat.le_of_ble_eq_true rfl) ⟨Nat.le_of_ble_eq_true rfl, Nat.le_of_ble_eq_true rfl⟩ dX7_pay_5 ?_
  refine lv_if_ne (pc := 8) (tgt := 15) hx hb dX7_pay_8 (by decide) (fun c_1 : ¬ (m_in p0 1 999999) = 0 => ?_) (fun c_1 : (m_in p0 1 999999) = 0 => ?_)
  · refine lv_iload_n (pc := 15) hx hb dX7_pay_15 rfl (lv_at hl 1 rfl) ?_
    refine lv_aload_n (pc := 16) hx hb dX7_pay_16 rfl (lv_at hl 0 rfl) ?_
    refine M_get (pc := 17) (v := .int (σ.1 12)) X P 12 (Nat.le_of_ble_eq_true rfl) (List.mem_of_getElem? (i := 2) rfl) rfl dX7_pay_17 ?_
    refine lv_icmp_le (pc := 20) (tgt := 27) hx hb dX7_pay_20 (by decide) (fun c_2 : p0 ≤ (σ.1 12) => ?_) (fun c_2 : ¬ p0 ≤ (σ.1 12) => ?_)
    · refine lv_iconst (pc := 27) (v := 0) hx hb dX7_pay_27 (by decide) ?_
      refine M_putT (pc := 28) (v := 0) X P (List.mem_of_getElem? (i := 3) rfl) dX7_pay_28 (fun H locs (P : Hp D A s (M_W cI m0 as 0 σ) H locs) => ?_)
      refine lv_aload_n (pc := 31) hx hb dX7_pay_31 rfl (lv_at hl 0 rfl) ?_
      refine M_get (pc := 32) (v := .int 0) X P 0 (Nat.le_of_ble_eq_true rfl) (List.mem_of_getElem? (i := 3) rfl) rfl dX7_pay_32 ?_
      refine lv_if_le (pc := 35) (tgt := 40) hx hb dX7_pay_35 (by decide) (fun _ => ?_) (fun h => absurd h (by decide))
      refine lv_aload_n (pc := 40) hx hb dX7_pay_40 rfl (lv_at hl 0 rfl) ?_
      refine lv_dup (pc := 41) hx hb dX7_pay_41 rfl ?_
      refine M_get (pc := 42) (v := .int (σ.1 12)) X P 12 (Nat.le_of_ble_eq_true rfl) (List.mem_of_getElem? (i := 2) rfl) rfl dX7_pay_42 ?_
      refine lv_iload_n (pc := 45) hx hb dX7_pay_45 rfl (lv_at hl 1 rfl) ?_
      refine lv_isub (pc := 46) hx hb dX7_pay_46 ?_
      refine M_putS (pc := 47) (v := (σ.1 12) - p0) X P 12 (Nat.le_of_ble_eq_true rfl) (List.mem_of_getElem? (i := 2) rfl) rfl rfl M_s12 dX7_pay_47 (fun H locs (P : Hp D A s (M_W cI m0 as 0 (zs σ 12 ((σ.1 12) - p0))) H locs) => ?_)
      refine lv_aload_n (pc := 50) hx hb dX7_pay_50 rfl (lv_at hl 0 rfl) ?_
      refine M_get (pc := 51) (v := .int ((σ.1 12) - p0)) X P 12 (Nat.le_of_ble_eq_true rfl) (List.mem_of_getElem? (i := 2) rfl) rfl dX7_pay_51 ?_
      exact M_ret (pc := 54) (v := (σ.1 12) - p0) X P (by rw [m_pay, if_neg c_1, if_pos c_2]) dX7_pay_54
    · refine lv_iconst (pc := 23) (v := 2) hx hb dX7_pay_23 (by decide) ?_
      refine lv_goto (pc := 24) (tgt := 28) hx hb dX7_pay_24 (by decide) ?_
      refine M_putT (pc := 28) (v := 2) X P (List.mem_of_getElem? (i := 3) rfl) dX7_pay_28 (fun H locs (P : Hp D A s (M_W cI m0 as 2 σ) H locs) => ?_)
      refine lv_aload_n (pc := 31) hx hb dX7_pay_31 rfl (lv_at hl 0 rfl) ?_
      refine M_get (pc := 32) (v := .int 2) X P 0 (Nat.le_of_ble_eq_true rfl) (List.mem_of_getElem? (i := 3) rfl) rfl dX7_pay_32 ?_
      refine lv_if_le (pc := 35) (tgt := 40) hx hb dX7_pay_35 (by decide) (fun h => absurd h (by decide)) (fun _ => ?_)
      refine lv_iconst (pc := 38) (v := 0) hx hb dX7_pay_38 (by decide) ?_
      exact M_ret (pc := 39) (v := 0) X P (by rw [m_pay, if_neg c_1, if_neg c_2]) dX7_pay_39
  · refine lv_iconst (pc := 11) (v := 1) hx hb dX7_pay_11 (by decide) ?_
    refine lv_goto (pc := 12) (tgt := 28) hx hb dX7_pay_12 (by decide) ?_
    refine M_putT (pc := 28) (v := 1) X P (List.mem_of_getElem? (i := 3) rfl) dX7_pay_28 (fun H locs (P : Hp D A s (M_W cI m0 as 1 σ) H locs) => ?_)
    refine lv_aload_n (pc := 31) hx hb dX7_pay_31 rfl (lv_at hl 0 rfl) ?_
    refine M_get (pc := 32) (v := .int 1) X P 0 (Nat.le_of_ble_eq_true rfl) (List.mem_of_getElem? (i := 3) rfl) rfl dX7_pay_32 ?_
    refine lv_if_le (pc := 35) (tgt := 40) hx hb dX7_pay_35 (by decide) (fun h => absurd h (by decide)) (fun _ => ?_)
    refine lv_iconst (pc := 38) (v := 0) hx hb dX7_pay_38 (by decide) ?_
    exact M_ret (pc := 39) (v := 0) X P (by rw [m_pay, if_pos c_1]) dX7_pay_39
def m_budget (σ : Sg) (p0 : Int32) (p1 : Int32) (p2 : Int32) : Int32 × Int32 × Sg := if (m_in p0 ((σ.1 1) + 1) 900) = 0 then (1, 0, σ) else if (m_in p1 0 99) = 0 then (1, 0, σ) else if (m_in p2 0 9999999) = 0 then (1, 0, σ) else if (σ.1 13) = (-1) then (0, 0, (zs (zs (zs σ 13 p0) 14 p1) 15 p2)) else (2, 0, σ)
abbrev rX7_budget : Room := { frames := 1, cells := 0, slots := 0, locals := 22 }
theorem fnX7_budget : Fn yX7_budget wsX7_budget cX7_budget 5 none 3 rX7_budget 0 0 := ⟨⟨_, rfl⟩, rfl, rfl, by decide +kernel⟩
theorem inX7_budget : ∀ w ∈ wsX70, w ∈ wsX7_budget := fun w h => List.mem_cons_of_mem _ (List.mem_append_right _ h)
set_option maxHeartbeats 4000000 in
set_option maxRecDepth 100000 in
theorem kX7_budget (l : Launch) (D : va_G) (cI : ClassId) (m0 : Nat) (as : Nat → Nat) (th : Int32) (σ : Sg) (p0 : Int32) (p1 : Int32) (p2 : Int32) : M_Mv l yX7_budget wsX7_budget rX7_budget D cI m0 as th σ [.int p0, .int p1, .int p2] (m_budget σ p0 p1 p2) := by
  refine M_body (n := 3) (Qc := fun A => M_Qv D cI m0 as (m_budget σ p0 p1 p2) A) rfl fnX7_budget inX7_budget (Nat.le_of_ble_eq_true rfl) ?_
  intro p e s m args below meth c X A P ls hl
  have hx := X.1.1
  have hb := X.1.2.1
  have hown := X.1.2.2.2.1
  have hts := X.1.2.2.2.2.1
  have hl : lv_has ls 5 [(0, .ref m0), (1, .int p0), (2, .int p1), (3, .int p2)] := hl
  refine lv_iload_n (pc := 0) hx hb dX7_budget_0 rfl (lv_at hl 1 rfl) ?_
  refine lv_aload_n (pc := 1) hx hb dX7_budget_1 rfl (lv_at hl 0 rfl) ?_
  refine M_get (pc := 2) (v := .int (σ.1 1)) X P 1 (Nat.le_of_ble_eq_true rfl) (List.mem_of_getElem? (i := 1) rfl) rfl dX7_budget_2 ?_
  refine lv_iconst (pc := 5) (v := 1) hx hb dX7_budget_5 (by decide) ?_
  refine lv_iadd (pc := 6) hx hb dX7_budget_6 ?_
  refine lv_sipush (pc := 7) (v := 900) hx hb dX7_budget_7 (by decide) ?_
  refine S_call (pc := 10) (As := [.int p0, .int ((σ.1 1) + 1), .int 900]) (rest := []) (r := m_in p0 ((σ.1 1) + 1) 900) X.1 hl.1 (kX7_in l p0 ((σ.1 1) + 1) 900) fnX7_in gX7_budget_X7_in rfl rfl ⟨Nat.le_of_ble_eq_true rfl, Nat.le_of_ble_eq_true rfl⟩ (Nat.le_of_ble_eq_true rfl) ⟨Nat.le_of_ble_eq_true rfl, Nat.le_of_ble_eq_true rfl⟩ dX7_budget_10 ?_
  refine lv_if_eq (pc := 13) (tgt := 40) hx hb dX7_budget_13 (by decide) (fun c_1 : (m_in p0 ((σ.1 1) + 1) 900) = 0 => ?_) (fun c_1 : ¬ (m_in p0 ((σ.1 1) + 1) 900) = 0 => ?_)
  · refine lv_iconst (pc := 40) (v := 0) hx hb dX7_budget_40 (by decide) ?_
    refine lv_istore (pc := 41) (lv' := [(4, .int 0), (0, .ref m0), (1, .int p0), (2, .int p1), (3, .int p2)]) hx hb dX7_budget_41 hl (by decide) rfl (fun ls hl => ?_)
    refine lv_aload_n (pc := 43) hx hb dX7_budget_43 rfl (lv_at hl 1 rfl) ?_
    refine lv_iload (pc := 44) hx hb dX7_budget_44 (lv_at hl 0 rfl) ?_
    refine lv_if_ne (pc := 46) (tgt := 53) hx hb dX7_budget_46 (by decide) (fun h => absurd h (by decide)) (fun _ => ?_)
    refine lv_iconst (pc := 49) (v := 1) hx hb dX7_budget_49 (by decide) ?_
    refine lv_goto (pc := 50) (tgt := 66) hx hb dX7_budget_50 (by decide) ?_
    refine M_putT (pc := 66) (v := 1) X P (List.mem_of_getElem? (i := 4) rfl) dX7_budget_66 (fun H locs (P : Hp D A s (M_W cI m0 as 1 σ) H locs) => ?_)
    refine lv_aload_n (pc := 69) hx hb dX7_budget_69 rfl (lv_at hl 1 rfl) ?_
    refine M_get (pc := 70) (v := .int 1) X P 0 (Nat.le_of_ble_eq_true rfl) (List.mem_of_getElem? (i := 4) rfl) rfl dX7_budget_70 ?_
    refine lv_if_ne (pc := 73) (tgt := 91) hx hb dX7_budget_73 (by decide) (fun _ => ?_) (fun h => absurd h (by decide))
    exact M_retv (pc := 91) X P (by rw [m_budget, if_pos c_1]) dX7_budget_91
  · refine lv_iload_n (pc := 16) hx hb dX7_budget_16 rfl (lv_at hl 2 rfl) ?_
    refine lv_iconst (pc := 17) (v := 0) hx hb dX7_budget_17 (by decide) ?_
    refine lv_bipush (pc := 18) (v := 99) hx hb dX7_budget_18 (by decide) ?_
    refine S_call (pc := 20) (As := [.int p1, .int 0, .int 99]) (rest := []) (r := m_in p1 0 99) X.1 hl.1 (kX7_in l p1 0 99) fnX7_in gX7_budget_X7_in rfl rfl ⟨Nat.le_of_ble_eq_true rfl, Nat.le_of_ble_eq_true rfl⟩ (Nat.le_of_ble_eq_true rfl) ⟨Nat.le_of_ble_eq_true rfl, Nat.le_of_ble_eq_true rfl⟩ dX7_budget_20 ?_
    refine lv_if_eq (pc := 23) (tgt := 40) hx hb dX7_budget_23 (by decide) (fun c_2 : (m_in p1 0 99) = 0 => ?_) (fun c_2 : ¬ (m_in p1 0 99) = 0 => ?_)
    · refine lv_iconst (pc := 40) (v := 0) hx hb dX7_budget_40 (by decide) ?_
      refine lv_istore (pc := 41) (lv' := [(4, .int 0), (0, .ref m0), (1, .int p0), (2, .int p1), (3, .int p2)]) hx hb dX7_budget_41 hl (by decide) rfl (fun ls hl => ?_)
      refine lv_aload_n (pc := 43) hx hb dX7_budget_43 rfl (lv_at hl 1 rfl) ?_
      refine lv_iload (pc := 44) hx hb dX7_budget_44 (lv_at hl 0 rfl) ?_
      refine lv_if_ne (pc := 46) (tgt := 53) hx hb dX7_budget_46 (by decide) (fun h => absurd h (by decide)) (fun _ => ?_)
      refine lv_iconst (pc := 49) (v := 1) hx hb dX7_budget_49 (by decide) ?_
      refine lv_goto (pc := 50) (tgt := 66) hx hb dX7_budget_50 (by decide) ?_
      refine M_putT (pc := 66) (v := 1) X P (List.mem_of_getElem? (i := 4) rfl) dX7_budget_66 (fun H locs (P : Hp D A s (M_W cI m0 as 1 σ) H locs) => ?_)
      refine lv_aload_n (pc := 69) hx hb dX7_budget_69 rfl (lv_at hl 1 rfl) ?_
      refine M_get (pc := 70) (v := .int 1) X P 0 (Nat.le_of_ble_eq_true rfl) (List.mem_of_getElem? (i := 4) rfl) rfl dX7_budget_70 ?_
      refine lv_if_ne (pc := 73) (tgt := 91) hx hb dX7_budget_73 (by decide) (fun _ => ?_) (fun h => absurd h (by decide))
      exact M_retv (pc := 91) X P (by rw [m_budget, if_neg c_1, if_pos c_2]) dX7_budget_91
    · have hv_3 : vp_in p1 100 := in_vp (by decide) c_2
      refine lv_iload_n (pc := 26) hx hb dX7_budget_26 rfl (lv_at hl 3 rfl) ?_
      refine lv_iconst (pc := 27) (v := 0) hx hb dX7_budget_27 (by decide) ?_
      refine lv_ldc (pc := 28) (v := 9999999) hx hb hown (hts _ (List.mem_of_getElem? (i := 2) rfl)) dX7_budget_28 ?_
      refine S_call (pc := 30) (As := [.int p2, .int 0, .int 9999999]) (rest := []) (r := m_in p2 0 9999999) X.1 hl.1 (kX7_in l p2 0 9999999) fnX7_in gX7_budget_X7_in rfl rfl ⟨Nat.le_of_ble_eq_true rfl, Nat.le_of_ble_eq_true rfl⟩ (Nat.le_of_ble_eq_true rfl) ⟨Nat.le_of_ble_eq_true rfl, Nat.le_of_ble_eq_true rfl⟩ dX7_budget_30 ?_
      refine lv_if_eq (pc := 33) (tgt := 40) hx hb dX7_budget_33 (by decide) (fun c_4 : (m_in p2 0 9999999) = 0 => ?_) (fun c_4 : ¬ (m_in p2 0 9999999) = 0 => ?_)
      · refine lv_iconst (pc := 40) (v := 0) hx hb dX7_budget_40 (by decide) ?_
        refine lv_istore (pc := 41) (lv' := [(4, .int 0), (0, .ref m0), (1, .int p0), (2, .int p1), (3, .int p2)]) hx hb dX7_budget_41 hl (by decide) rfl (fun ls hl => ?_)
        refine lv_aload_n (pc := 43) hx hb dX7_budget_43 rfl (lv_at hl 1 rfl) ?_
        refine lv_iload (pc := 44) hx hb dX7_budget_44 (lv_at hl 0 rfl) ?_
        refine lv_if_ne (pc := 46) (tgt := 53) hx hb dX7_budget_46 (by decide) (fun h => absurd h (by decide)) (fun _ => ?_)
        refine lv_iconst (pc := 49) (v := 1) hx hb dX7_budget_49 (by decide) ?_
        refine lv_goto (pc := 50) (tgt := 66) hx hb dX7_budget_50 (by decide) ?_
        refine M_putT (pc := 66) (v := 1) X P (List.mem_of_getElem? (i := 4) rfl) dX7_budget_66 (fun H locs (P : Hp D A s (M_W cI m0 as 1 σ) H locs) => ?_)
        refine lv_aload_n (pc := 69) hx hb dX7_budget_69 rfl (lv_at hl 1 rfl) ?_
        refine M_get (pc := 70) (v := .int 1) X P 0 (Nat.le_of_ble_eq_true rfl) (List.mem_of_getElem? (i := 4) rfl) rfl dX7_budget_70 ?_
        refine lv_if_ne (pc := 73) (tgt := 91) hx hb dX7_budget_73 (by decide) (fun _ => ?_) (fun h => absurd h (by decide))
        exact M_retv (pc := 91) X P (by rw [m_budget, if_neg c_1, if_neg c_2, if_pos c_4]) dX7_budget_91
      · have hv_5 : vp_in p2 10000000 := in_vp (by decide) c_4
        refine lv_iconst (pc := 36) (v := 1) hx hb dX7_budget_36 (by decide) ?_
        refine lv_goto (pc := 37) (tgt := 41) hx hb dX7_budget_37 (by decide) ?_
        refine lv_istore (pc := 41) (lv' := [(4, .int 1), (0, .ref m0), (1, .int p0), (2, .int p1), (3, .int p2)]) hx hb dX7_budget_41 hl (by decide) rfl (fun ls hl => ?_)
        refine lv_aload_n (pc := 43) hx hb dX7_budget_43 rfl (lv_at hl 1 rfl) ?_
        refine lv_iload (pc := 44) hx hb dX7_budget_44 (lv_at hl 0 rfl) ?_
        refine lv_if_ne (pc := 46) (tgt := 53) hx hb dX7_budget_46 (by decide) (fun _ => ?_) (fun h => absurd h (by decide))
        refine lv_aload_n (pc := 53) hx hb dX7_budget_53 rfl (lv_at hl 1 rfl) ?_
        refine M_get (pc := 54) (v := .int (σ.1 13)) X P 13 (Nat.le_of_ble_eq_true rfl) (List.mem_of_getElem? (i := 3) rfl) rfl dX7_budget_54 ?_
        refine lv_iconst (pc := 57) (v := (-1)) hx hb dX7_budget_57 (by decide) ?_
        refine lv_icmp_eq (pc := 58) (tgt := 65) hx hb dX7_budget_58 (by decide) (fun c_6 : (σ.1 13) = (-1) => ?_) (fun c_6 : ¬ (σ.1 13) = (-1) => ?_)
        · refine lv_iconst (pc := 65) (v := 0) hx hb dX7_budget_65 (by decide) ?_
          refine M_putT (pc := 66) (v := 0) X P (List.mem_of_getElem? (i := 4) rfl) dX7_budget_66 (fun H locs (P : Hp D A s (M_W cI m0 as 0 σ) H locs) => ?_)
          refine lv_aload_n (pc := 69) hx hb dX7_budget_69 rfl (lv_at hl 1 rfl) ?_
          refine M_get (pc := 70) (v := .int 0) X P 0 (Nat.le_of_ble_eq_true rfl) (List.mem_of_getElem? (i := 4) rfl) rfl dX7_budget_70 ?_
          refine lv_if_ne (pc := 73) (tgt := 91) hx hb dX7_budget_73 (by decide) (fun h => absurd h (by decide)) (fun _ => ?_)
          refine lv_aload_n (pc := 76) hx hb dX7_budget_76 rfl (lv_at hl 1 rfl) ?_
          refine lv_iload_n (pc := 77) hx hb dX7_budget_77 rfl (lv_at hl 2 rfl) ?_
          refine M_putS (pc := 78) (v := p0) X P 13 (Nat.le_of_ble_eq_true rfl) (List.mem_of_getElem? (i := 3) rfl) rfl rfl M_s13 dX7_budget_78 (fun H locs (P : Hp D A s (M_W cI m0 as 0 (zs σ 13 p0)) H locs) => ?_)
          refine lv_aload_n (pc := 81) hx hb dX7_budget_81 rfl (lv_at hl 1 rfl) ?_
          refine lv_iload_n (pc := 82) hx hb dX7_budget_82 rfl (lv_at hl 3 rfl) ?_
          refine M_putS (pc := 83) (v := p1) X P 14 (Nat.le_of_ble_eq_true rfl) (List.mem_of_getElem? (i := 5) rfl) rfl rfl M_s14 dX7_budget_83 (fun H locs (P : Hp D A s (M_W cI m0 as 0 (zs (zs σ 13 p0) 14 p1)) H locs) => ?_)
          refine lv_aload_n (pc := 86) hx hb dX7_budget_86 rfl (lv_at hl 1 rfl) ?_
          refine lv_iload_n (pc := 87) hx hb dX7_budget_87 rfl (lv_at hl 4 rfl) ?_
          refine M_putS (pc := 88) (v := p2) X P 15 (Nat.le_of_ble_eq_true rfl) (List.mem_of_getElem? (i := 6) rfl) rfl rfl M_s15 dX7_budget_88 (fun H locs (P : Hp D A s (M_W cI m0 as 0 (zs (zs (zs σ 13 p0) 14 p1) 15 p2)) H locs) => ?_)
          exact M_retv (pc := 91) X P (by rw [m_budget, if_neg c_1, if_neg c_2, if_neg c_4, if_pos c_6]) dX7_budget_91
        · refine lv_iconst (pc := 61) (v := 2) hx hb dX7_budget_61 (by decide) ?_
          refine lv_goto (pc := 62) (tgt := 66) hx hb dX7_budget_62 (by decide) ?_
          refine M_putT (pc := 66) (v := 2) X P (List.mem_of_getElem? (i := 4) rfl) dX7_budget_66 (fun H locs (P : Hp D A s (M_W cI m0 as 2 σ) H locs) => ?_)
          refine lv_aload_n (pc := 69) hx hb dX7_budget_69 rfl (lv_at hl 1 rfl) ?_
          refine M_get (pc := 70) (v := .int 2) X P 0 (Nat.le_of_ble_eq_true rfl) (List.mem_of_getElem? (i := 4) rfl) rfl dX7_budget_70 ?_
          refine lv_if_ne (pc := 73) (tgt := 91) hx hb dX7_budget_73 (by decide) (fun _ => ?_) (fun h => absurd h (by decide))
          exact M_retv (pc := 91) X P (by rw [m_budget, if_neg c_1, if_neg c_2, if_neg c_4, if_neg c_6]) dX7_budget_91
def m_guarantee (σ : Sg) (p0 : Int32) : Int32 × Int32 × Sg := if (m_in p0 0 9999999) = 0 then (1, 0, σ) else if (m_dutyFor σ (m_moving σ) (σ.1 11)) ≤ p0 then (0, σ.1 21, (zs σ 21 p0)) else (2, 0, σ)
abbrev rX7_guarantee : Room := { frames := 1, cells := 0, slots := 0, locals := 22 }
theorem fnX7_guarantee : Fn yX7_guarantee wsX7_guarantee cX7_guarantee 3 (some .int) 1 rX7_guarantee 0 0 := ⟨⟨_, rfl⟩, rfl, rfl, by decide +kernel⟩
theorem inX7_guarantee : ∀ w ∈ wsX70, w ∈ wsX7_guarantee := fun w h => List.mem_cons_of_mem _ (List.mem_append_right _ h)
set_option maxHeartbeats 4000000 in
set_option maxRecDepth 100000 in
theorem kX7_guarantee (l : Launch) (D : va_G) (cI : ClassId) (m0 : Nat) (as : Nat → Nat) (th : Int32) (σ : Sg) (p0 : Int32) (h1 : Cnt σ 22 30) : M_Mi l yX7_guarantee wsX7_guarantee rX7_guarantee D cI m0 as th σ [.int p0] (m_guarantee σ p0) := by
  refine M_body (n := 1) (Qc := fun A => M_Qi D cI m0 as (m_guarantee σ p0) A) rfl fnX7_guarantee inX7_guarantee (Nat.le_of_ble_eq_true rfl) ?_
  intro p e s m args below meth c X A P ls hl
  have hx := X.1.1
  have hb := X.1.2.1
  have hown := X.1.2.2.2.1
  have hts := X.1.2.2.2.2.1
  have hl : lv_has ls 3 [(0, .ref m0), (1, .int p0)] := hl
  refine lv_aload_n (pc := 0) hx hb dX7_guarantee_0 rfl (lv_at hl 0 rfl) ?_
  refine lv_iload_n (pc := 1) hx hb dX7_guarantee_1 rfl (lv_at hl 1 rfl) ?_
  refine lv_iconst (pc := 2) (v := 0) hx hb dX7_guarantee_2 (by decide) ?_
  refine lv_ldc (pc := 3) (v := 9999999) hx hb hown (hts _ (List.mem_of_getElem? (i := 1) rfl)) dX7_guarantee_3 ?_
  refine S_call (pc := 5) (As := [.int p0, .int 0, .int 9999999]) (rest := [.ref m0]) (r := m_in p0 0 9999999) X.1 hl.1 (kX7_in l p0 0 9999999) fnX7_in gX7_guarantee_X7_in rfl rfl ⟨Nat.le_of_ble_eq_true rfl, Nat.le_of_ble_eq_true rfl⟩ (Nat.le_of_ble_eq_true rfl) ⟨Nat.le_of_ble_eq_true rfl, Nat.le_of_ble_eq_true rfl⟩ dX7_guarantee_5 ?_
  refine lv_if_ne (pc := 8) (tgt := 15) hx hb dX7_guarantee_8 (by decide) (fun c_1 : ¬ (m_in p0 0 9999999) = 0 => ?_) (fun c_1 : (m_in p0 0 9999999) = 0 => ?_)
  · have hv_2 : vp_in p0 10000000 := in_vp (by decide) c_1
    refine lv_iload_n (pc := 15) hx hb dX7_guarantee_15 rfl (lv_at hl 1 rfl) ?_
    refine lv_aload_n (pc := 16) hx hb dX7_guarantee_16 rfl (lv_at hl 0 rfl) ?_
    refine lv_aload_n (pc := 17) hx hb dX7_guarantee_17 rfl (lv_at hl 0 rfl) ?_
    refine M_calli (pc := 18) (As := []) (rest := [.ref m0, .int p0, .ref m0]) (f := (th, m_moving σ, σ)) X P hl.1 (kX7_moving l D cI m0 as th σ h1) fnX7_moving rfl gX7_guarantee_X7_moving rfl rfl ⟨Nat.le_of_ble_eq_true rfl, Nat.le_of_ble_eq_true rfl⟩ (Nat.le_of_ble_eq_true rfl) ⟨Nat.le_of_ble_eq_true rfl, Nat.le_of_ble_eq_true rfl⟩ dX7_guarantee_18 (fun H locs (P : Hp D A s (M_W cI m0 as th σ) H locs) => ?_)
    refine lv_aload_n (pc := 21) hx hb dX7_guarantee_21 rfl (lv_at hl 0 rfl) ?_
    refine M_get (pc := 22) (v := .int (σ.1 11)) X P 11 (Nat.le_of_ble_eq_true rfl) (List.mem_of_getElem? (i := 2) rfl) rfl dX7_guarantee_22 ?_
    refine M_calli (pc := 25) (As := [.int (m_moving σ), .int (σ.1 11)]) (rest := [.int p0, .ref m0]) (f := (th, m_dutyFor σ (m_moving σ) (σ.1 11), σ)) X P hl.1 (kX7_dutyFor l D cI m0 as th σ (m_moving σ) (σ.1 11)) fnX7_dutyFor rfl gX7_guarantee_X7_dutyFor rfl rfl ⟨Nat.le_of_ble_eq_true rfl, Nat.le_of_ble_eq_true rfl⟩ (Nat.le_of_ble_eq_true rfl) ⟨Nat.le_of_ble_eq_true rfl, Nat.le_of_ble_eq_true rfl⟩ dX7_guarantee_25 (fun H locs (P : Hp D A s (M_W cI m0 as th σ) H locs) => ?_)
    refine lv_icmp_ge (pc := 28) (tgt := 35) hx hb dX7_guarantee_28 (by decide) (fun c_3 : (m_dutyFor σ (m_moving σ) (σ.1 11)) ≤ p0 => ?_) (fun c_3 : ¬ (m_dutyFor σ (m_moving σ) (σ.1 11)) ≤ p0 => ?_)
    · refine lv_iconst (pc := 35) (v := 0) hx hb dX7_guarantee_35 (by decide) ?_
      refine M_putT (pc := 36) (v := 0) X P (List.mem_of_getElem? (i := 3) rfl) dX7_guarantee_36 (fun H locs (P : Hp D A s (M_W cI m0 as 0 σ) H locs) => ?_)
      refine lv_aload_n (pc := 39) hx hb dX7_guarantee_39 rfl (lv_at hl 0 rfl) ?_
      refine M_get (pc := 40) (v := .int 0) X P 0 (Nat.le_of_ble_eq_true rfl) (List.mem_of_getElem? (i := 3) rfl) rfl dX7_guarantee_40 ?_
      refine lv_if_le (pc := 43) (tgt := 48) hx hb dX7_guarantee_43 (by decide) (fun _ => ?_) (fun h => absurd h (by decide))
      refine lv_aload_n (pc := 48) hx hb dX7_guarantee_48 rfl (lv_at hl 0 rfl) ?_
      refine M_get (pc := 49) (v := .int (σ.1 21)) X P 21 (Nat.le_of_ble_eq_true rfl) (List.mem_of_getElem? (i := 4) rfl) rfl dX7_guarantee_49 ?_
      refine lv_istore_n (pc := 52) (lv' := [(2, .int (σ.1 21)), (0, .ref m0), (1, .int p0)]) hx hb dX7_guarantee_52 rfl hl (by decide) rfl (fun ls hl => ?_)
      refine lv_aload_n (pc := 53) hx hb dX7_guarantee_53 rfl (lv_at hl 1 rfl) ?_
      refine lv_iload_n (pc := 54) hx hb dX7_guarantee_54 rfl (lv_at hl 2 rfl) ?_
      refine M_putS (pc := 55) (v := p0) X P 21 (Nat.le_of_ble_eq_true rfl) (List.mem_of_getElem? (i := 4) rfl) rfl rfl M_s21 dX7_guarantee_55 (fun H locs (P : Hp D A s (M_W cI m0 as 0 (zs σ 21 p0)) H locs) => ?_)
      refine lv_iload_n (pc := 58) hx hb dX7_guarantee_58 rfl (lv_at hl 0 rfl) ?_
      exact M_ret (pc := 59) (v := σ.1 21) X P (by rw [m_guarantee, if_neg c_1, if_pos c_3]) dX7_guarantee_59
    · refine lv_iconst (pc := 31) (v := 2) hx hb dX7_guarantee_31 (by decide) ?_
      refine lv_goto (pc := 32) (tgt := 36) hx hb dX7_guarantee_32 (by decide) ?_
      refine M_putT (pc := 36) (v := 2) X P (List.mem_of_getElem? (i := 3) rfl) dX7_guarantee_36 (fun H locs (P : Hp D A s (M_W cI m0 as 2 σ) H locs) => ?_)
      refine lv_aload_n (pc := 39) hx hb dX7_guarantee_39 rfl (lv_at hl 0 rfl) ?_
      refine M_get (pc := 40) (v := .int 2) X P 0 (Nat.le_of_ble_eq_true rfl) (List.mem_of_getElem? (i := 3) rfl) rfl dX7_guarantee_40 ?_
      refine lv_if_le (pc := 43) (tgt := 48) hx hb dX7_guarantee_43 (by decide) (fun h => absurd h (by decide)) (fun _ => ?_)
      refine lv_iconst (pc := 46) (v := 0) hx hb dX7_guarantee_46 (by decide) ?_
      exact M_ret (pc := 47) (v := 0) X P (by rw [m_guarantee, if_neg c_1, if_neg c_3]) dX7_guarantee_47
  · refine lv_iconst (pc := 11) (v := 1) hx hb dX7_guarantee_11 (by decide) ?_
    refine lv_goto (pc := 12) (tgt := 36) hx hb dX7_guarantee_12 (by decide) ?_
    refine M_putT (pc := 36) (v := 1) X P (List.mem_of_getElem? (i := 3) rfl) dX7_guarantee_36 (fun H locs (P : Hp D A s (M_W cI m0 as 1 σ) H locs) => ?_)
    refine lv_aload_n (pc := 39) hx hb dX7_guarantee_39 rfl (lv_at hl 0 rfl) ?_
    refine M_get (pc := 40) (v := .int 1) X P 0 (Nat.le_of_ble_eq_true rfl) (List.mem_of_getElem? (i := 3) rfl) rfl dX7_guarantee_40 ?_
    refine lv_if_le (pc := 43) (tgt := 48) hx hb dX7_guarantee_43 (by decide) (fun h => absurd h (by decide)) (fun _ => ?_)
    refine lv_iconst (pc := 46) (v := 0) hx hb dX7_guarantee_46 (by decide) ?_
    exact M_ret (pc := 47) (v := 0) X P (by rw [m_guarantee, if_pos c_1]) dX7_guarantee_47
def m_ship (σ : Sg) (p0 : Int32) (p1 : Int32) (p2 : Int32) (p3 : Int32) : Int32 × Int32 × Sg := if (m_isVessel σ p0) = 0 then (1, 0, σ) else if (m_isVessel σ p1) = 0 then (1, 0, σ) else if p2 < 1 then (2, 0, σ) else if (m_in p3 1 60) = 0 then (2, 0, σ) else if (σ.2 3 (ix p0)) = (σ.2 3 (ix p1)) then (3, 0, σ) else if (m_hasPart σ p0 p2) = 0 then (3, 0, σ) else if 30 ≤ (σ.1 22) then (3, 0, σ) else if (σ.1 21) < (m_dutyFor σ ((m_moving σ) + (m_part (σ.2 6 (ix p0)) p2 (σ.2 5 (ix p0)))) (σ.1 11)) then (3, 0, σ) else (0, ((σ.1 22) + 1) - 1, (zs (bs (bs (m_takes (bs (bs σ 24 (ix (σ.1 22)) p1) 25 (ix (σ.1 22)) p2) p0 p2).2 26 (ix (σ.1 22)) ((m_takes (bs (bs σ 24 (ix (σ.1 22)) p1) 25 (ix (σ.1 22)) p2) p0 p2).1)) 27 (ix (σ.1 22)) ((σ.1 1) + p3)) 22 ((σ.1 22) + 1)))
abbrev rX7_ship : Room := { frames := 2, cells := 0, slots := 0, locals := 45 }
theorem fnX7_ship : Fn yX7_ship wsX7_ship cX7_ship 7 (some .int) 4 rX7_ship 0 0 := ⟨⟨_, rfl⟩, rfl, rfl, by decide +kernel⟩
theorem inX7_ship : ∀ w ∈ wsX70, w ∈ wsX7_ship := fun w h => List.mem_cons_of_mem _ (List.mem_append_right _ h)
set_option maxHeartbeats 4000000 in
set_option maxRecDepth 100000 in
theorem kX7_ship (l : Launch) (D : va_G) (cI : ClassId) (m0 : Nat) (as : Nat → Nat) (th : Int32) (σ : Sg) (p0 : Int32) (p1 : Int32) (p2 : Int32) (p3 : Int32) (h0 : Cnt σ 2 10) (h1 : Cnt σ 22 30) : M_Mi l yX7_ship wsX7_ship rX7_ship D cI m0 as th σ [.int p0, .int p1, .int p2, .int p3] (m_ship σ p0 p1 p2 p3) := by
  refine M_body (n := 4) (Qc := fun A => M_Qi D cI m0 as (m_ship σ p0 p1 p2 p3) A) rfl fnX7_ship inX7_ship (Nat.le_of_ble_eq_true rfl) ?_
  intro p e s m args below meth c X A P ls hl
  have hx := X.1.1
  have hb := X.1.2.1
  have hown := X.1.2.2.2.1
  have hts := X.1.2.2.2.2.1
  have hl : lv_has ls 7 [(0, .ref m0), (1, .int p0), (2, .int p1), (3, .int p2), (4, .int p3)] := hl
  refine lv_aload_n (pc := 0) hx hb dX7_ship_0 rfl (lv_at hl 0 rfl) ?_
  refine lv_iload_n (pc := 1) hx hb dX7_ship_1 rfl (lv_at hl 1 rfl) ?_
  refine M_calli (pc := 2) (As := [.int p0]) (rest := []) (f := (th, m_isVessel σ p0, σ)) X P hl.1 (kX7_isVessel l D cI m0 as th σ p0) fnX7_isVessel rfl gX7_ship_X7_isVessel rfl rfl ⟨Nat.le_of_ble_eq_true rfl, Nat.le_of_ble_eq_true rfl⟩ (Nat.le_of_ble_eq_true rfl) ⟨Nat.le_of_ble_eq_true rfl, Nat.le_of_ble_eq_true rfl⟩ dX7_ship_2 (fun H locs (P : Hp D A s (M_W cI m0 as th σ) H locs) => ?_)
  refine lv_if_eq (pc := 5) (tgt := 20) hx hb dX7_ship_5 (by decide) (fun c_1 : (m_isVessel σ p0) = 0 => ?_) (fun c_1 : ¬ (m_isVessel σ p0) = 0 => ?_)
  · refine lv_iconst (pc := 20) (v := 0) hx hb dX7_ship_20 (by decide) ?_
    refine lv_istore (pc := 21) (lv' := [(5, .int 0), (0, .ref m0), (1, .int p0), (2, .int p1), (3, .int p2), (4, .int p3)]) hx hb dX7_ship_21 hl (by decide) rfl (fun ls hl => ?_)
    refine lv_aload_n (pc := 23) hx hb dX7_ship_23 rfl (lv_at hl 1 rfl) ?_
    refine lv_iload (pc := 24) hx hb dX7_ship_24 (lv_at hl 0 rfl) ?_
    refine lv_if_ne (pc := 26) (tgt := 33) hx hb dX7_ship_26 (by decide) (fun h => absurd h (by decide)) (fun _ => ?_)
    refine lv_iconst (pc := 29) (v := 1) hx hb dX7_ship_29 (by decide) ?_
    refine lv_goto (pc := 30) (tgt := 54) hx hb dX7_ship_30 (by decide) ?_
    refine M_putT (pc := 54) (v := 1) X P (List.mem_of_getElem? (i := 1) rfl) dX7_ship_54 (fun H locs (P : Hp D A s (M_W cI m0 as 1 σ) H locs) => ?_)
    refine lv_aload_n (pc := 57) hx hb dX7_ship_57 rfl (lv_at hl 1 rfl) ?_
    refine M_get (pc := 58) (v := .int 1) X P 0 (Nat.le_of_ble_eq_true rfl) (List.mem_of_getElem? (i := 1) rfl) rfl dX7_ship_58 ?_
    refine lv_if_ne (pc := 61) (tgt := 154) hx hb dX7_ship_61 (by decide) (fun _ => ?_) (fun h => absurd h (by decide))
    refine lv_aload_n (pc := 154) hx hb dX7_ship_154 rfl (lv_at hl 1 rfl) ?_
    refine M_get (pc := 155) (v := .int 1) X P 0 (Nat.le_of_ble_eq_true rfl) (List.mem_of_getElem? (i := 1) rfl) rfl dX7_ship_155 ?_
    refine lv_if_le (pc := 158) (tgt := 163) hx hb dX7_ship_158 (by decide) (fun h => absurd h (by decide)) (fun _ => ?_)
    refine lv_iconst (pc := 161) (v := 0) hx hb dX7_ship_161 (by decide) ?_
    exact M_ret (pc := 162) (v := 0) X P (by rw [m_ship, if_pos c_1]) dX7_ship_162
  · have hv_2 : vp_in p0 10 := isV_in h0 c_1
    refine lv_aload_n (pc := 8) hx hb dX7_ship_8 rfl (lv_at hl 0 rfl) ?_
    refine lv_iload_n (pc := 9) hx hb dX7_ship_9 rfl (lv_at hl 2 rfl) ?_
    refine M_calli (pc := 10) (As := [.int p1]) (rest := []) (f := (th, m_isVessel σ p1, σ)) X P hl.1 (kX7_isVessel l D cI m0 as th σ p1) fnX7_isVessel rfl gX7_ship_X7_isVessel rfl rfl ⟨Nat.le_of_ble_eq_true rfl, Nat.le_of_ble_eq_true rfl⟩ (Nat.le_of_ble_eq_true rfl) ⟨Nat.le_of_ble_eq_true rfl, Nat.le_of_ble_eq_true rfl⟩ dX7_ship_10 (fun H locs (P : Hp D A s (M_W cI m0 as th σ) H locs) => ?_)
    refine lv_if_eq (pc := 13) (tgt := 20) hx hb dX7_ship_13 (by decide) (fun c_3 : (m_isVessel σ p1) = 0 => ?_) (fun c_3 : ¬ (m_isVessel σ p1) = 0 => ?_)
    · refine lv_iconst (pc := 20) (v := 0) hx hb dX7_ship_20 (by decide) ?_
      refine lv_istore (pc := 21) (lv' := [(5, .int 0), (0, .ref m0), (1, .int p0), (2, .int p1), (3, .int p2), (4, .int p3)]) hx hb dX7_ship_21 hl (by decide) rfl (fun ls hl => ?_)
      refine lv_aload_n (pc := 23) hx hb dX7_ship_23 rfl (lv_at hl 1 rfl) ?_
      refine lv_iload (pc := 24) hx hb dX7_ship_24 (lv_at hl 0 rfl) ?_
      refine lv_if_ne (pc := 26) (tgt := 33) hx hb dX7_ship_26 (by decide) (fun h => absurd h (by decide)) (fun _ => ?_)
      refine lv_iconst (pc := 29) (v := 1) hx hb dX7_ship_29 (by decide) ?_
      refine lv_goto (pc := 30) (tgt := 54) hx hb dX7_ship_30 (by decide) ?_
      refine M_putT (pc := 54) (v := 1) X P (List.mem_of_getElem? (i := 1) rfl) dX7_ship_54 (fun H locs (P : Hp D A s (M_W cI m0 as 1 σ) H locs) => ?_)
      refine lv_aload_n (pc := 57) hx hb dX7_ship_57 rfl (lv_at hl 1 rfl) ?_
      refine M_get (pc := 58) (v := .int 1) X P 0 (Nat.le_of_ble_eq_true rfl) (List.mem_of_getElem? (i := 1) rfl) rfl dX7_ship_58 ?_
      refine lv_if_ne (pc := 61) (tgt := 154) hx hb dX7_ship_61 (by decide) (fun _ => ?_) (fun h => absurd h (by decide))
      refine lv_aload_n (pc := 154) hx hb dX7_ship_154 rfl (lv_at hl 1 rfl) ?_
      refine M_get (pc := 155) (v := .int 1) X P 0 (Nat.le_of_ble_eq_true rfl) (List.mem_of_getElem? (i := 1) rfl) rfl dX7_ship_155 ?_
      refine lv_if_le (pc := 158) (tgt := 163) hx hb dX7_ship_158 (by decide) (fun h => absurd h (by decide)) (fun _ => ?_)
      refine lv_iconst (pc := 161) (v := 0) hx hb dX7_ship_161 (by decide) ?_
      exact M_ret (pc := 162) (v := 0) X P (by rw [m_ship, if_neg c_1, if_pos c_3]) dX7_ship_162
    · have hv_4 : vp_in p1 10 := isV_in h0 c_3
      refine lv_iconst (pc := 16) (v := 1) hx hb dX7_ship_16 (by decide) ?_
      refine lv_goto (pc := 17) (tgt := 21) hx hb dX7_ship_17 (by decide) ?_
      refine lv_istore (pc := 21) (lv' := [(5, .int 1), (0, .ref m0), (1, .int p0), (2, .int p1), (3, .int p2), (4, .int p3)]) hx hb dX7_ship_21 hl (by decide) rfl (fun ls hl => ?_)
      refine lv_aload_n (pc := 23) hx hb dX7_ship_23 rfl (lv_at hl 1 rfl) ?_
      refine lv_iload (pc := 24) hx hb dX7_ship_24 (lv_at hl 0 rfl) ?_
      refine lv_if_ne (pc := 26) (tgt := 33) hx hb dX7_ship_26 (by decide) (fun _ => ?_) (fun h => absurd h (by decide))
      refine lv_iload_n (pc := 33) hx hb dX7_ship_33 rfl (lv_at hl 4 rfl) ?_
      refine lv_iconst (pc := 34) (v := 1) hx hb dX7_ship_34 (by decide) ?_
      refine lv_icmp_lt (pc := 35) (tgt := 49) hx hb dX7_ship_35 (by decide) (fun c_5 : p2 < 1 => ?_) (fun c_5 : ¬ p2 < 1 => ?_)
      · refine lv_iconst (pc := 49) (v := 2) hx hb dX7_ship_49 (by decide) ?_
        refine lv_goto (pc := 50) (tgt := 54) hx hb dX7_ship_50 (by decide) ?_
        refine M_putT (pc := 54) (v := 2) X P (List.mem_of_getElem? (i := 1) rfl) dX7_ship_54 (fun H locs (P : Hp D A s (M_W cI m0 as 2 σ) H locs) => ?_)
        refine lv_aload_n (pc := 57) hx hb dX7_ship_57 rfl (lv_at hl 1 rfl) ?_
        refine M_get (pc := 58) (v := .int 2) X P 0 (Nat.le_of_ble_eq_true rfl) (List.mem_of_getElem? (i := 1) rfl) rfl dX7_ship_58 ?_
        refine lv_if_ne (pc := 61) (tgt := 154) hx hb dX7_ship_61 (by decide) (fun _ => ?_) (fun h => absurd h (by decide))
        refine lv_aload_n (pc := 154) hx hb dX7_ship_154 rfl (lv_at hl 1 rfl) ?_
        refine M_get (pc := 155) (v := .int 2) X P 0 (Nat.le_of_ble_eq_true rfl) (List.mem_of_getElem? (i := 1) rfl) rfl dX7_ship_155 ?_
        refine lv_if_le (pc := 158) (tgt := 163) hx hb dX7_ship_158 (by decide) (fun h => absurd h (by decide)) (fun _ => ?_)
        refine lv_iconst (pc := 161) (v := 0) hx hb dX7_ship_161 (by decide) ?_
        exact M_ret (pc := 162) (v := 0) X P (by rw [m_ship, if_neg c_1, if_neg c_3, if_pos c_5]) dX7_ship_162
      · refine lv_iload (pc := 38) hx hb dX7_ship_38 (lv_at hl 5 rfl) ?_
        refine lv_iconst (pc := 40) (v := 1) hx hb dX7_ship_40 (by decide) ?_
        refine lv_bipush (pc := 41) (v := 60) hx hb dX7_ship_41 (by decide) ?_
        refine S_call (pc := 43) (As := [.int p3, .int 1, .int 60]) (rest := [.ref m0]) (r := m_in p3 1 60) X.1 hl.1 (kX7_in l p3 1 60) fnX7_in gX7_ship_X7_in rfl rfl ⟨Nat.le_of_ble_eq_true rfl, Nat.le_of_ble_eq_true rfl⟩ (Nat.le_of_ble_eq_true rfl) ⟨Nat.le_of_ble_eq_true rfl, Nat.le_of_ble_eq_true rfl⟩ dX7_ship_43 ?_
        refine lv_if_ne (pc := 46) (tgt := 53) hx hb dX7_ship_46 (by decide) (fun c_6 : ¬ (m_in p3 1 60) = 0 => ?_) (fun c_6 : (m_in p3 1 60) = 0 => ?_)
        · refine lv_iconst (pc := 53) (v := 0) hx hb dX7_ship_53 (by decide) ?_
          refine M_putT (pc := 54) (v := 0) X P (List.mem_of_getElem? (i := 1) rfl) dX7_ship_54 (fun H locs (P : Hp D A s (M_W cI m0 as 0 σ) H locs) => ?_)
          refine lv_aload_n (pc := 57) hx hb dX7_ship_57 rfl (lv_at hl 1 rfl) ?_
          refine M_get (pc := 58) (v := .int 0) X P 0 (Nat.le_of_ble_eq_true rfl) (List.mem_of_getElem? (i := 1) rfl) rfl dX7_ship_58 ?_
          refine lv_if_ne (pc := 61) (tgt := 154) hx hb dX7_ship_61 (by decide) (fun h => absurd h (by decide)) (fun _ => ?_)
          refine lv_aload_n (pc := 64) hx hb dX7_ship_64 rfl (lv_at hl 1 rfl) ?_
          refine M_get (pc := 65) (v := .ref (as 3)) X P 3 (Nat.le_of_ble_eq_true rfl) (List.mem_of_getElem? (i := 2) rfl) rfl dX7_ship_65 ?_
          refine lv_iload_n (pc := 68) hx hb dX7_ship_68 rfl (lv_at hl 2 rfl) ?_
          refine M_ald (pc := 69) (a := as 3) (n := 10) (f := σ.2 3) X P 1 rfl hv_2 dX7_ship_69 ?_
          refine lv_aload_n (pc := 70) hx hb dX7_ship_70 rfl (lv_at hl 1 rfl) ?_
          refine M_get (pc := 71) (v := .ref (as 3)) X P 3 (Nat.le_of_ble_eq_true rfl) (List.mem_of_getElem? (i := 2) rfl) rfl dX7_ship_71 ?_
          refine lv_iload_n (pc := 74) hx hb dX7_ship_74 rfl (lv_at hl 3 rfl) ?_
          refine M_ald (pc := 75) (a := as 3) (n := 10) (f := σ.2 3) X P 1 rfl hv_4 dX7_ship_75 ?_
          refine lv_icmp_eq (pc := 76) (tgt := 101) hx hb dX7_ship_76 (by decide) (fun c_7 : (σ.2 3 (ix p0)) = (σ.2 3 (ix p1)) => ?_) (fun c_7 : ¬ (σ.2 3 (ix p0)) = (σ.2 3 (ix p1)) => ?_)
          · refine lv_iconst (pc := 101) (v := 0) hx hb dX7_ship_101 (by decide) ?_
            refine lv_istore (pc := 102) (lv' := [(6, .int 0), (5, .int 1), (0, .ref m0), (1, .int p0), (2, .int p1), (3, .int p2), (4, .int p3)]) hx hb dX7_ship_102 hl (by decide) rfl (fun ls hl => ?_)
            refine lv_aload_n (pc := 104) hx hb dX7_ship_104 rfl (lv_at hl 2 rfl) ?_
            refine lv_iload (pc := 105) hx hb dX7_ship_105 (lv_at hl 0 rfl) ?_
            refine lv_if_eq (pc := 107) (tgt := 150) hx hb dX7_ship_107 (by decide) (fun _ => ?_) (fun h => absurd h (by decide))
            refine lv_iconst (pc := 150) (v := 3) hx hb dX7_ship_150 (by decide) ?_
            refine M_putT (pc := 151) (v := 3) X P (List.mem_of_getElem? (i := 1) rfl) dX7_ship_151 (fun H locs (P : Hp D A s (M_W cI m0 as 3 σ) H locs) => ?_)
            refine lv_aload_n (pc := 154) hx hb dX7_ship_154 rfl (lv_at hl 2 rfl) ?_
            refine M_get (pc := 155) (v := .int 3) X P 0 (Nat.le_of_ble_eq_true rfl) (List.mem_of_getElem? (i := 1) rfl) rfl dX7_ship_155 ?_
            refine lv_if_le (pc := 158) (tgt := 163) hx hb dX7_ship_158 (by decide) (fun h => absurd h (by decide)) (fun _ => ?_)
            refine lv_iconst (pc := 161) (v := 0) hx hb dX7_ship_161 (by decide) ?_
            exact M_ret (pc := 162) (v := 0) X P (by rw [m_ship, if_neg c_1, if_neg c_3, if_neg c_5, if_neg c_6, if_pos c_7]) dX7_ship_162
          · refine lv_aload_n (pc := 79) hx hb dX7_ship_79 rfl (lv_at hl 1 rfl) ?_
            refine lv_iload_n (pc := 80) hx hb dX7_ship_80 rfl (lv_at hl 2 rfl) ?_
            refine lv_iload_n (pc := 81) hx hb dX7_ship_81 rfl (lv_at hl 4 rfl) ?_
            refine M_calli (pc := 82) (As := [.int p0, .int p2]) (rest := []) (f := (0, m_hasPart σ p0 p2, σ)) X P hl.1 (kX7_hasPart l D cI m0 as 0 σ p0 p2 hv_2) fnX7_hasPart rfl gX7_ship_X7_hasPart rfl rfl ⟨Nat.le_of_ble_eq_true rfl, Nat.le_of_ble_eq_true rfl⟩ (Nat.le_of_ble_eq_true rfl) ⟨Nat.le_of_ble_eq_true rfl, Nat.le_of_ble_eq_true rfl⟩ dX7_ship_82 (fun H locs (P : Hp D A s (M_W cI m0 as 0 σ) H locs) => ?_)
            refine lv_if_eq (pc := 85) (tgt := 101) hx hb dX7_ship_85 (by decide) (fun c_8 : (m_hasPart σ p0 p2) = 0 => ?_) (fun c_8 : ¬ (m_hasPart σ p0 p2) = 0 => ?_)
            · refine lv_iconst (pc := 101) (v := 0) hx hb dX7_ship_101 (by decide) ?_
              refine lv_istore (pc := 102) (lv' := [(6, .int 0), (5, .int 1), (0, .ref m0), (1, .int p0), (2, .int p1), (3, .int p2), (4, .int p3)]) hx hb dX7_ship_102 hl (by decide) rfl (fun ls hl => ?_)
              refine lv_aload_n (pc := 104) hx hb dX7_ship_104 rfl (lv_at hl 2 rfl) ?_
              refine lv_iload (pc := 105) hx hb dX7_ship_105 (lv_at hl 0 rfl) ?_
              refine lv_if_eq (pc := 107) (tgt := 150) hx hb dX7_ship_107 (by decide) (fun _ => ?_) (fun h => absurd h (by decide))
              refine lv_iconst (pc := 150) (v := 3) hx hb dX7_ship_150 (by decide) ?_
              refine M_putT (pc := 151) (v := 3) X P (List.mem_of_getElem? (i := 1) rfl) dX7_ship_151 (fun H locs (P : Hp D A s (M_W cI m0 as 3 σ) H locs) => ?_)
              refine lv_aload_n (pc := 154) hx hb dX7_ship_154 rfl (lv_at hl 2 rfl) ?_
              refine M_get (pc := 155) (v := .int 3) X P 0 (Nat.le_of_ble_eq_true rfl) (List.mem_of_getElem? (i := 1) rfl) rfl dX7_ship_155 ?_
              refine lv_if_le (pc := 158) (tgt := 163) hx hb dX7_ship_158 (by decide) (fun h => absurd h (by decide)) (fun _ => ?_)
              refine lv_iconst (pc := 161) (v := 0) hx hb dX7_ship_161 (by decide) ?_
              exact M_ret (pc := 162) (v := 0) X P (by rw [m_ship, if_neg c_1, if_neg c_3, if_neg c_5, if_neg c_6, if_neg c_7, if_pos c_8]) dX7_ship_162
            · have hw_9 : ¬ σ.2 5 (ix p0) = 0 := hasP_ne' c_8 c_5
              refine lv_aload_n (pc := 88) hx hb dX7_ship_88 rfl (lv_at hl 1 rfl) ?_
              refine M_get (pc := 89) (v := .int (σ.1 22)) X P 22 (Nat.le_of_ble_eq_true rfl) (List.mem_of_getElem? (i := 3) rfl) rfl dX7_ship_89 ?_
              refine lv_bipush (pc := 92) (v := 30) hx hb dX7_ship_92 (by decide) ?_
              refine lv_icmp_ge (pc := 94) (tgt := 101) hx hb dX7_ship_94 (by decide) (fun c_10 : 30 ≤ (σ.1 22) => ?_) (fun c_10 : ¬ 30 ≤ (σ.1 22) => ?_)
              · refine lv_iconst (pc := 101) (v := 0) hx hb dX7_ship_101 (by decide) ?_
                refine lv_istore (pc := 102) (lv' := [(6, .int 0), (5, .int 1), (0, .ref m0), (1, .int p0), (2, .int p1), (3, .int p2), (4, .int p3)]) hx hb dX7_ship_102 hl (by decide) rfl (fun ls hl => ?_)
                refine lv_aload_n (pc := 104) hx hb dX7_ship_104 rfl (lv_at hl 2 rfl) ?_
                refine lv_iload (pc := 105) hx hb dX7_ship_105 (lv_at hl 0 rfl) ?_
                refine lv_if_eq (pc := 107) (tgt := 150) hx hb dX7_ship_107 (by decide) (fun _ => ?_) (fun h => absurd h (by decide))
                refine lv_iconst (pc := 150) (v := 3) hx hb dX7_ship_150 (by decide) ?_
                refine M_putT (pc := 151) (v := 3) X P (List.mem_of_getElem? (i := 1) rfl) dX7_ship_151 (fun H locs (P : Hp D A s (M_W cI m0 as 3 σ) H locs) => ?_)
                refine lv_aload_n (pc := 154) hx hb dX7_ship_154 rfl (lv_at hl 2 rfl) ?_
                refine M_get (pc := 155) (v := .int 3) X P 0 (Nat.le_of_ble_eq_true rfl) (List.mem_of_getElem? (i := 1) rfl) rfl dX7_ship_155 ?_
                refine lv_if_le (pc := 158) (tgt := 163) hx hb dX7_ship_158 (by decide) (fun h => absurd h (by decide)) (fun _ => ?_)
                refine lv_iconst (pc := 161) (v := 0) hx hb dX7_ship_161 (by decide) ?_
                exact M_ret (pc := 162) (v := 0) X P (by rw [m_ship, if_neg c_1, if_neg c_3, if_neg c_5, if_neg c_6, if_neg c_7, if_neg c_8, if_pos c_10]) dX7_ship_162
              · have hv_11 : vp_in (σ.1 22) 30 := cnt_lt h1 (by decide) c_10
                refine lv_iconst (pc := 97) (v := 1) hx hb dX7_ship_97 (by decide) ?_
                refine lv_goto (pc := 98) (tgt := 102) hx hb dX7_ship_98 (by decide) ?_
                refine lv_istore (pc := 102) (lv' := [(6, .int 1), (5, .int 1), (0, .ref m0), (1, .int p0), (2, .int p1), (3, .int p2), (4, .int p3)]) hx hb dX7_ship_102 hl (by decide) rfl (fun ls hl => ?_)
                refine lv_aload_n (pc := 104) hx hb dX7_ship_104 rfl (lv_at hl 2 rfl) ?_
                refine lv_iload (pc := 105) hx hb dX7_ship_105 (lv_at hl 0 rfl) ?_
                refine lv_if_eq (pc := 107) (tgt := 150) hx hb dX7_ship_107 (by decide) (fun h => absurd h (by decide)) (fun _ => ?_)
                refine lv_aload_n (pc := 110) hx hb dX7_ship_110 rfl (lv_at hl 2 rfl) ?_
                refine M_get (pc := 111) (v := .int (σ.1 21)) X P 21 (Nat.le_of_ble_eq_true rfl) (List.mem_of_getElem? (i := 4) rfl) rfl dX7_ship_111 ?_
                refine lv_aload_n (pc := 114) hx hb dX7_ship_114 rfl (lv_at hl 2 rfl) ?_
                refine lv_aload_n (pc := 115) hx hb dX7_ship_115 rfl (lv_at hl 2 rfl) ?_
                refine M_calli (pc := 116) (As := []) (rest := [.ref m0, .int (σ.1 21), .ref m0]) (f := (0, m_moving σ, σ)) X P hl.1 (kX7_moving l D cI m0 as 0 σ h1) fnX7_moving rfl gX7_ship_X7_moving rfl rfl ⟨Nat.le_of_ble_eq_true rfl, Nat.le_of_ble_eq_true rfl⟩ (Nat.le_of_ble_eq_true rfl) ⟨Nat.le_of_ble_eq_true rfl, Nat.le_of_ble_eq_true rfl⟩ dX7_ship_116 (fun H locs (P : Hp D A s (M_W cI m0 as 0 σ) H locs) => ?_)
                refine lv_aload_n (pc := 119) hx hb dX7_ship_119 rfl (lv_at hl 2 rfl) ?_
                refine M_get (pc := 120) (v := .ref (as 6)) X P 6 (Nat.le_of_ble_eq_true rfl) (List.mem_of_getElem? (i := 5) rfl) rfl dX7_ship_120 ?_
                refine lv_iload_n (pc := 123) hx hb dX7_ship_123 rfl (lv_at hl 3 rfl) ?_
                refine M_ald (pc := 124) (a := as 6) (n := 10) (f := σ.2 6) X P 4 rfl hv_2 dX7_ship_124 ?_
                refine lv_iload_n (pc := 125) hx hb dX7_ship_125 rfl (lv_at hl 5 rfl) ?_
                refine lv_aload_n (pc := 126) hx hb dX7_ship_126 rfl (lv_at hl 2 rfl) ?_
                refine M_get (pc := 127) (v := .ref (as 5)) X P 5 (Nat.le_of_ble_eq_true rfl) (List.mem_of_getElem? (i := 6) rfl) rfl dX7_ship_127 ?_
                refine lv_iload_n (pc := 130) hx hb dX7_ship_130 rfl (lv_at hl 3 rfl) ?_
                refine M_ald (pc := 131) (a := as 5) (n := 10) (f := σ.2 5) X P 3 rfl hv_2 dX7_ship_131 ?_
                refine S_call (pc := 132) (As := [.int (σ.2 6 (ix p0)), .int p2, .int (σ.2 5 (ix p0))]) (rest := [.int (m_moving σ), .ref m0, .int (σ.1 21), .ref m0]) (r := m_part (σ.2 6 (ix p0)) p2 (σ.2 5 (ix p0))) X.1 hl.1 (kX7_part l (σ.2 6 (ix p0)) p2 (σ.2 5 (ix p0)) hw_9) fnX7_part gX7_ship_X7_part rfl rfl ⟨Nat.le_of_ble_eq_true rfl, Nat.le_of_ble_eq_true rfl⟩ (Nat.le_of_ble_eq_true rfl) ⟨Nat.le_of_ble_eq_true rfl, Nat.le_of_ble_eq_true rfl⟩ dX7_ship_132 ?_
                refine lv_iadd (pc := 135) hx hb dX7_ship_135 ?_
                refine lv_aload_n (pc := 136) hx hb dX7_ship_136 rfl (lv_at hl 2 rfl) ?_
                refine M_get (pc := 137) (v := .int (σ.1 11)) X P 11 (Nat.le_of_ble_eq_true rfl) (List.mem_of_getElem? (i := 7) rfl) rfl dX7_ship_137 ?_
                refine M_calli (pc := 140) (As := [.int ((m_moving σ) + (m_part (σ.2 6 (ix p0)) p2 (σ.2 5 (ix p0)))), .int (σ.1 11)]) (rest := [.int (σ.1 21), .ref m0]) (f := (0, m_dutyFor σ ((m_moving σ) + (m_part (σ.2 6 (ix p0)) p2 (σ.2 5 (ix p0)))) (σ.1 11), σ)) X P hl.1 (kX7_dutyFor l D cI m0 as 0 σ ((m_moving σ) + (m_part (σ.2 6 (ix p0)) p2 (σ.2 5 (ix p0)))) (σ.1 11)) fnX7_dutyFor rfl gX7_ship_X7_dutyFor rfl rfl ⟨Nat.le_of_ble_eq_true rfl, Nat.le_of_ble_eq_true rfl⟩ (Nat.le_of_ble_eq_true rfl) ⟨Nat.le_of_ble_eq_true rfl, Nat.le_of_ble_eq_true rfl⟩ dX7_ship_140 (fun H locs (P : Hp D A s (M_W cI m0 as 0 σ) H locs) => ?_)
                refine lv_icmp_lt (pc := 143) (tgt := 150) hx hb dX7_ship_143 (by decide) (fun c_12 : (σ.1 21) < (m_dutyFor σ ((m_moving σ) + (m_part (σ.2 6 (ix p0)) p2 (σ.2 5 (ix p0)))) (σ.1 11)) => ?_) (fun c_12 : ¬ (σ.1 21) < (m_dutyFor σ ((m_moving σ) + (m_part (σ.2 6 (ix p0)) p2 (σ.2 5 (ix p0)))) (σ.1 11)) => ?_)
                · refine lv_iconst (pc := 150) (v := 3) hx hb dX7_ship_150 (by decide) ?_
                  refine M_putT (pc := 151) (v := 3) X P (List.mem_of_getElem? (i := 1) rfl) dX7_ship_151 (fun H locs (P : Hp D A s (M_W cI m0 as 3 σ) H locs) => ?_)
                  refine lv_aload_n (pc := 154) hx hb dX7_ship_154 rfl (lv_at hl 2 rfl) ?_
                  refine M_get (pc := 155) (v := .int 3) X P 0 (Nat.le_of_ble_eq_true rfl) (List.mem_of_getElem? (i := 1) rfl) rfl dX7_ship_155 ?_
                  refine lv_if_le (pc := 158) (tgt := 163) hx hb dX7_ship_158 (by decide) (fun h => absurd h (by decide)) (fun _ => ?_)
                  refine lv_iconst (pc := 161) (v := 0) hx hb dX7_ship_161 (by decide) ?_
                  exact M_ret (pc := 162) (v := 0) X P (by rw [m_ship, if_neg c_1, if_neg c_3, if_neg c_5, if_neg c_6, if_neg c_7, if_neg c_8, if_neg c_10, if_pos c_12]) dX7_ship_162
                · refine lv_iconst (pc := 146) (v := 0) hx hb dX7_ship_146 (by decide) ?_
                  refine lv_goto (pc := 147) (tgt := 151) hx hb dX7_ship_147 (by decide) ?_
                  refine M_putT (pc := 151) (v := 0) X P (List.mem_of_getElem? (i := 1) rfl) dX7_ship_151 (fun H locs (P : Hp D A s (M_W cI m0 as 0 σ) H locs) => ?_)
                  refine lv_aload_n (pc := 154) hx hb dX7_ship_154 rfl (lv_at hl 2 rfl) ?_
                  refine M_get (pc := 155) (v := .int 0) X P 0 (Nat.le_of_ble_eq_true rfl) (List.mem_of_getElem? (i := 1) rfl) rfl dX7_ship_155 ?_
                  refine lv_if_le (pc := 158) (tgt := 163) hx hb dX7_ship_158 (by decide) (fun _ => ?_) (fun h => absurd h (by decide))
                  refine lv_aload_n (pc := 163) hx hb dX7_ship_163 rfl (lv_at hl 2 rfl) ?_
                  refine M_get (pc := 164) (v := .ref (as 24)) X P 24 (Nat.le_of_ble_eq_true rfl) (List.mem_of_getElem? (i := 8) rfl) rfl dX7_ship_164 ?_
                  refine lv_aload_n (pc := 167) hx hb dX7_ship_167 rfl (lv_at hl 2 rfl) ?_
                  refine M_get (pc := 168) (v := .int (σ.1 22)) X P 22 (Nat.le_of_ble_eq_true rfl) (List.mem_of_getElem? (i := 3) rfl) rfl dX7_ship_168 ?_
                  refine lv_iload_n (pc := 171) hx hb dX7_ship_171 rfl (lv_at hl 4 rfl) ?_
                  refine M_ast (pc := 172) (x := p1) (n := 30) X P 10 24 rfl hv_11 M_a24 dX7_ship_172 (fun H locs (P : Hp D A s (M_W cI m0 as 0 (bs σ 24 (ix (σ.1 22)) p1)) H locs) => ?_)
                  refine lv_aload_n (pc := 173) hx hb dX7_ship_173 rfl (lv_at hl 2 rfl) ?_
                  refine M_get (pc := 174) (v := .ref (as 25)) X P 25 (Nat.le_of_ble_eq_true rfl) (List.mem_of_getElem? (i := 9) rfl) rfl dX7_ship_174 ?_
                  refine lv_aload_n (pc := 177) hx hb dX7_ship_177 rfl (lv_at hl 2 rfl) ?_
                  refine M_get (pc := 178) (v := .int (σ.1 22)) X P 22 (Nat.le_of_ble_eq_true rfl) (List.mem_of_getElem? (i := 3) rfl) rfl dX7_ship_178 ?_
                  refine lv_iload_n (pc := 181) hx hb dX7_ship_181 rfl (lv_at hl 5 rfl) ?_
                  refine M_ast (pc := 182) (x := p2) (n := 30) X P 11 25 rfl hv_11 M_a25 dX7_ship_182 (fun H locs (P : Hp D A s (M_W cI m0 as 0 (bs (bs σ 24 (ix (σ.1 22)) p1) 25 (ix (σ.1 22)) p2)) H locs) => ?_)
                  refine lv_aload_n (pc := 183) hx hb dX7_ship_183 rfl (lv_at hl 2 rfl) ?_
                  refine M_get (pc := 184) (v := .ref (as 26)) X P 26 (Nat.le_of_ble_eq_true rfl) (List.mem_of_getElem? (i := 10) rfl) rfl dX7_ship_184 ?_
                  refine lv_aload_n (pc := 187) hx hb dX7_ship_187 rfl (lv_at hl 2 rfl) ?_
                  refine M_get (pc := 188) (v := .int (σ.1 22)) X P 22 (Nat.le_of_ble_eq_true rfl) (List.mem_of_getElem? (i := 3) rfl) rfl dX7_ship_188 ?_
                  refine lv_aload_n (pc := 191) hx hb dX7_ship_191 rfl (lv_at hl 2 rfl) ?_
                  refine lv_iload_n (pc := 192) hx hb dX7_ship_192 rfl (lv_at hl 3 rfl) ?_
                  refine lv_iload_n (pc := 193) hx hb dX7_ship_193 rfl (lv_at hl 5 rfl) ?_
                  refine M_calli (pc := 194) (As := [.int p0, .int p2]) (rest := [.int (σ.1 22), .ref (as 26)]) (f := (0, (m_takes (bs (bs σ 24 (ix (σ.1 22)) p1) 25 (ix (σ.1 22)) p2) p0 p2).1, (m_takes (bs (bs σ 24 (ix (σ.1 22)) p1) 25 (ix (σ.1 22)) p2) p0 p2).2)) X P hl.1 (kX7_takes l D cI m0 as 0 (bs (bs σ 24 (ix (σ.1 22)) p1) 25 (ix (σ.1 22)) p2) p0 p2 hv_2 hw_9) fnX7_takes rfl gX7_ship_X7_takes rfl rfl ⟨Nat.le_of_ble_eq_true rfl, Nat.le_of_ble_eq_true rfl⟩ (Nat.le_of_ble_eq_true rfl) ⟨Nat.le_of_ble_eq_true rfl, Nat.le_of_ble_eq_true rfl⟩ dX7_ship_194 (fun H locs (P : Hp D A s (M_W cI m0 as 0 ((m_takes (bs (bs σ 24 (ix (σ.1 22)) p1) 25 (ix (σ.1 22)) p2) p0 p2).2)) H locs) => ?_)
                  refine M_ast (pc := 197) (x := (m_takes (bs (bs σ 24 (ix (σ.1 22)) p1) 25 (ix (σ.1 22)) p2) p0 p2).1) (n := 30) X P 12 26 rfl hv_11 M_a26 dX7_ship_197 (fun H locs (P : Hp D A s (M_W cI m0 as 0 (bs (m_takes (bs (bs σ 24 (ix (σ.1 22)) p1) 25 (ix (σ.1 22)) p2) p0 p2).2 26 (ix (σ.1 22)) ((m_takes (bs (bs σ 24 (ix (σ.1 22)) p1) 25 (ix (σ.1 22)) p2) p0 p2).1))) H locs) => ?_)
                  refine lv_aload_n (pc := 198) hx hb dX7_ship_198 rfl (lv_at hl 2 rfl) ?_
                  refine M_get (pc := 199) (v := .ref (as 27)) X P 27 (Nat.le_of_ble_eq_true rfl) (List.mem_of_getElem? (i := 11) rfl) rfl dX7_ship_199 ?_
                  refine lv_aload_n (pc := 202) hx hb dX7_ship_202 rfl (lv_at hl 2 rfl) ?_
                  refine M_get (pc := 203) (v := .int (σ.1 22)) X P 22 (Nat.le_of_ble_eq_true rfl) (List.mem_of_getElem? (i := 3) rfl) rfl dX7_ship_203 ?_
                  refine lv_aload_n (pc := 206) hx hb dX7_ship_206 rfl (lv_at hl 2 rfl) ?_
                  refine M_get (pc := 207) (v := .int (σ.1 1)) X P 1 (Nat.le_of_ble_eq_true rfl) (List.mem_of_getElem? (i := 12) rfl) rfl dX7_ship_207 ?_
                  refine lv_iload (pc := 210) hx hb dX7_ship_210 (lv_at hl 6 rfl) ?_
                  refine lv_iadd (pc := 212) hx hb dX7_ship_212 ?_
                  refine M_ast (pc := 213) (x := (σ.1 1) + p3) (n := 30) X P 13 27 rfl hv_11 M_a27 dX7_ship_213 (fun H locs (P : Hp D A s (M_W cI m0 as 0 (bs (bs (m_takes (bs (bs σ 24 (ix (σ.1 22)) p1) 25 (ix (σ.1 22)) p2) p0 p2).2 26 (ix (σ.1 22)) ((m_takes (bs (bs σ 24 (ix (σ.1 22)) p1) 25 (ix (σ.1 22)) p2) p0 p2).1)) 27 (ix (σ.1 22)) ((σ.1 1) + p3))) H locs) => ?_)
                  refine lv_aload_n (pc := 214) hx hb dX7_ship_214 rfl (lv_at hl 2 rfl) ?_
                  refine lv_dup (pc := 215) hx hb dX7_ship_215 rfl ?_
                  refine M_get (pc := 216) (v := .int (σ.1 22)) X P 22 (Nat.le_of_ble_eq_true rfl) (List.mem_of_getElem? (i := 3) rfl) rfl dX7_ship_216 ?_
                  refine lv_iconst (pc := 219) (v := 1) hx hb dX7_ship_219 (by decide) ?_
                  refine lv_iadd (pc := 220) hx hb dX7_ship_220 ?_
                  refine M_putS (pc := 221) (v := (σ.1 22) + 1) X P 22 (Nat.le_of_ble_eq_true rfl) (List.mem_of_getElem? (i := 3) rfl) rfl rfl M_s22 dX7_ship_221 (fun H locs (P : Hp D A s (M_W cI m0 as 0 (zs (bs (bs (m_takes (bs (bs σ 24 (ix (σ.1 22)) p1) 25 (ix (σ.1 22)) p2) p0 p2).2 26 (ix (σ.1 22)) ((m_takes (bs (bs σ 24 (ix (σ.1 22)) p1) 25 (ix (σ.1 22)) p2) p0 p2).1)) 27 (ix (σ.1 22)) ((σ.1 1) + p3)) 22 ((σ.1 22) + 1))) H locs) => ?_)
                  refine lv_aload_n (pc := 224) hx hb dX7_ship_224 rfl (lv_at hl 2 rfl) ?_
                  refine M_get (pc := 225) (v := .int ((σ.1 22) + 1)) X P 22 (Nat.le_of_ble_eq_true rfl) (List.mem_of_getElem? (i := 3) rfl) rfl dX7_ship_225 ?_
                  refine lv_iconst (pc := 228) (v := 1) hx hb dX7_ship_228 (by decide) ?_
                  refine lv_isub (pc := 229) hx hb dX7_ship_229 ?_
                  exact M_ret (pc := 230) (v := ((σ.1 22) + 1) - 1) X P (by rw [m_ship, if_neg c_1, if_neg c_3, if_neg c_5, if_neg c_6, if_neg c_7, if_neg c_8, if_neg c_10, if_neg c_12]) dX7_ship_230
        · refine lv_iconst (pc := 49) (v := 2) hx hb dX7_ship_49 (by decide) ?_
          refine lv_goto (pc := 50) (tgt := 54) hx hb dX7_ship_50 (by decide) ?_
          refine M_putT (pc := 54) (v := 2) X P (List.mem_of_getElem? (i := 1) rfl) dX7_ship_54 (fun H locs (P : Hp D A s (M_W cI m0 as 2 σ) H locs) => ?_)
          refine lv_aload_n (pc := 57) hx hb dX7_ship_57 rfl (lv_at hl 1 rfl) ?_
          refine M_get (pc := 58) (v := .int 2) X P 0 (Nat.le_of_ble_eq_true rfl) (List.mem_of_getElem? (i := 1) rfl) rfl dX7_ship_58 ?_
          refine lv_if_ne (pc := 61) (tgt := 154) hx hb dX7_ship_61 (by decide) (fun _ => ?_) (fun h => absurd h (by decide))
          refine lv_aload_n (pc := 154) hx hb dX7_ship_154 rfl (lv_at hl 1 rfl) ?_
          refine M_get (pc := 155) (v := .int 2) X P 0 (Nat.le_of_ble_eq_true rfl) (List.mem_of_getElem? (i := 1) rfl) rfl dX7_ship_155 ?_
          refine lv_if_le (pc := 158) (tgt := 163) hx hb dX7_ship_158 (by decide) (fun h => absurd h (by decide)) (fun _ => ?_)
          refine lv_iconst (pc := 161) (v := 0) hx hb dX7_ship_161 (by decide) ?_
          exact M_ret (pc := 162) (v := 0) X P (by rw [m_ship, if_neg c_1, if_neg c_3, if_neg c_5, if_pos c_6]) dX7_ship_162
