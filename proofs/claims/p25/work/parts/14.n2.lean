theorem ge1_ne {x : Int32} (h : 1 ≤ x) : ¬ x = 0 := by
  intro e
  rw [e] at h
  exact absurd h (by decide)
def g_isWithin (p0 : Int32) (p1 : Int32) (p2 : Int32) : Int32 := if p0 < p1 then 0 else if p2 < p0 then 0 else 1
abbrev rX6_isWithin : Room := { frames := 0, cells := 0, slots := 0, locals := 0 }
theorem fnX6_isWithin : Fn yX6_isWithin wsX6_isWithin cX6_isWithin 3 (some .boolean) 3 rX6_isWithin 0 0 := ⟨⟨_, rfl⟩, rfl, rfl, by decide +kernel⟩
set_option maxHeartbeats 4000000 in
set_option maxRecDepth 100000 in
theorem kX6_isWithin (l : Launch) (p0 : Int32) (p1 : Int32) (p2 : Int32) : S_Met l yX6_isWithin wsX6_isWithin rX6_isWithin [.int p0, .int p1, .int p2] (g_isWithin p0 p1 p2) := by
  refine S_of (n := 3) RX6 (by decide) fnX6_isWithin rfl (Nat.le_of_ble_eq_true rfl) ?_
  intro p e s m args below meth c C ls hl
  have hx := C.1
  have hb := C.2.1
  have hml := C.2.2.1
  have hown := C.2.2.2.1
  have hts := C.2.2.2.2.1
  have hl : lv_has ls 3 [(0, .int p0), (1, .int p1), (2, .int p2)] := hl
  refine lv_iload_n (pc := 0) hx hb dX6_isWithin_0 rfl (lv_at hl 0 rfl) ?_
  refine lv_iload_n (pc := 1) hx hb dX6_isWithin_1 rfl (lv_at hl 1 rfl) ?_
  refine lv_icmp_lt (pc := 2) (tgt := 14) hx hb dX6_isWithin_2 (by decide) (fun c_1 : p0 < p1 => ?_) (fun c_1 : ¬ p0 < p1 => ?_)
  · refine lv_iconst (pc := 14) (v := 0) hx hb dX6_isWithin_14 (by decide) ?_
    exact S_retz (pc := 15) (v := 0) C (by rw [g_isWithin, if_pos c_1]) rfl dX6_isWithin_15
  · refine lv_iload_n (pc := 5) hx hb dX6_isWithin_5 rfl (lv_at hl 0 rfl) ?_
    refine lv_iload_n (pc := 6) hx hb dX6_isWithin_6 rfl (lv_at hl 2 rfl) ?_
    refine lv_icmp_gt (pc := 7) (tgt := 14) hx hb dX6_isWithin_7 (by decide) (fun c_2 : p2 < p0 => ?_) (fun c_2 : ¬ p2 < p0 => ?_)
    · refine lv_iconst (pc := 14) (v := 0) hx hb dX6_isWithin_14 (by decide) ?_
      exact S_retz (pc := 15) (v := 0) C (by rw [g_isWithin, if_neg c_1, if_pos c_2]) rfl dX6_isWithin_15
    · refine lv_iconst (pc := 10) (v := 1) hx hb dX6_isWithin_10 (by decide) ?_
      refine lv_goto (pc := 11) (tgt := 15) hx hb dX6_isWithin_11 (by decide) ?_
      exact S_retz (pc := 15) (v := 1) C (by rw [g_isWithin, if_neg c_1, if_neg c_2]) rfl dX6_isWithin_15
def g_part (p0 : Int32) (p1 : Int32) (p2 : Int32) : Int32 := if 1 ≤ p2 then (((p0.toInt64 * p1.toInt64) / p2.toInt64).toInt32) else 0
abbrev rX6_part : Room := { frames := 0, cells := 0, slots := 0, locals := 0 }
theorem fnX6_part : Fn yX6_part wsX6_part cX6_part 3 (some .int) 3 rX6_part 0 0 := ⟨⟨_, rfl⟩, rfl, rfl, by decide +kernel⟩
set_option maxHeartbeats 4000000 in
set_option maxRecDepth 100000 in
theorem kX6_part (l : Launch) (p0 : Int32) (p1 : Int32) (p2 : Int32) : S_Met l yX6_part wsX6_part rX6_part [.int p0, .int p1, .int p2] (g_part p0 p1 p2) := by
  refine S_of (n := 3) RX6 (by decide) fnX6_part rfl (Nat.le_of_ble_eq_true rfl) ?_
  intro p e s m args below meth c C ls hl
  have hx := C.1
  have hb := C.2.1
  have hml := C.2.2.1
  have hown := C.2.2.2.1
  have hts := C.2.2.2.2.1
  have hl : lv_has ls 3 [(0, .int p0), (1, .int p1), (2, .int p2)] := hl
  refine lv_iload_n (pc := 0) hx hb dX6_part_0 rfl (lv_at hl 2 rfl) ?_
  refine lv_iconst (pc := 1) (v := 1) hx hb dX6_part_1 (by decide) ?_
  refine lv_icmp_ge (pc := 2) (tgt := 9) hx hb dX6_part_2 (by decide) (fun c_1 : 1 ≤ p2 => ?_) (fun c_1 : ¬ 1 ≤ p2 => ?_)
  · refine lv_iload_n (pc := 9) hx hb dX6_part_9 rfl (lv_at hl 0 rfl) ?_
    refine lv_i2l (pc := 10) (v := p0.toInt64) hx hb dX6_part_10 rfl ?_
    refine lv_iload_n (pc := 11) hx hb dX6_part_11 rfl (lv_at hl 1 rfl) ?_
    refine lv_i2l (pc := 12) (v := p1.toInt64) hx hb dX6_part_12 rfl ?_
    refine lv_lmul (pc := 13) hx hb dX6_part_13 ?_
    refine lv_iload_n (pc := 14) hx hb dX6_part_14 rfl (lv_at hl 2 rfl) ?_
    refine lv_i2l (pc := 15) (v := p2.toInt64) hx hb dX6_part_15 rfl ?_
    refine lv_ldiv (pc := 16) hx hb dX6_part_16 (t64_ne (ge1_ne c_1)) ?_
    refine lv_l2i (pc := 17) (v := ((p0.toInt64 * p1.toInt64) / p2.toInt64).toInt32) hx hb dX6_part_17 rfl ?_
    exact S_ret (pc := 18) (v := ((p0.toInt64 * p1.toInt64) / p2.toInt64).toInt32) C (by rw [g_part, if_pos c_1]) dX6_part_18
  · refine lv_iconst (pc := 5) (v := 0) hx hb dX6_part_5 (by decide) ?_
    refine lv_goto (pc := 6) (tgt := 18) hx hb dX6_part_6 (by decide) ?_
    exact S_ret (pc := 18) (v := 0) C (by rw [g_part, if_neg c_1]) dX6_part_18
abbrev rX0_init : Room := { frames := 1, cells := 0, slots := 0, locals := 13 }
theorem fnX0_init : Fn yX0_init wsX0_init cX0_init 4 none 3 rX0_init 0 0 := ⟨⟨_, rfl⟩, rfl, rfl, by decide +kernel⟩
theorem inX0_init : ∀ w ∈ wsX00, w ∈ wsX0_init := fun w h => List.mem_cons_of_mem _ (List.mem_append_right _ h)
set_option maxHeartbeats 4000000 in
set_option maxRecDepth 100000 in
theorem kX0_init (l : Launch) (D : va_G) (a : Nat) (p0 : Int32) (p1 : Int32) (p2 : Int32) : N_V l yX0_init wsX0_init rX0_init D a 1 [.int 0, .int 0, .int 0] [.int p0, .int p1, .int p2] [.int p0, .int p1, .int p2] := by
  refine N_body1 (n := 3) (Qc := fun A => va_Qv (fun (_ : Unit) => True) (fun _ t => va_P D vwCl [(a, .inr (1, [.int p0, .int p1, .int p2]))] t.heap) A) RX0 rfl (by decide) fnX0_init (Nat.le_of_ble_eq_true rfl) ?_
  intro p e s m args below meth c C hN K hnm A P ls hl
  have hx := C.1
  have hb := C.2.1
  have hml := C.2.2.1
  have hown := C.2.2.2.1
  have hts := C.2.2.2.2.1
  have hl : lv_has ls 4 [(0, .ref a), (1, .int p0), (2, .int p1), (3, .int p2)] := hl
  refine lv_aload_n (pc := 0) hx hb dX0_init_0 rfl (lv_at hl 0 rfl) ?_
  refine W.objInit hx hb hown (hts _ (List.mem_of_getElem? (i := 1) rfl)) (hts _ (List.mem_of_getElem? (i := 2) rfl)) (hts _ (List.mem_of_getElem? (i := 3) rfl)) rfl (hl.1.trans hml.symm) rfl dX0_init_1 (Nat.le_of_ble_eq_true rfl) (Nat.le_of_ble_eq_true rfl) ?_
  refine W.eq (g2 := F0 m 4 ls []) rfl ?_
  refine lv_aload_n (pc := 4) hx hb dX0_init_4 rfl (lv_at hl 0 rfl) ?_
  refine lv_iload_n (pc := 5) hx hb dX0_init_5 rfl (lv_at hl 1 rfl) ?_
  refine x_putF (pc := 6) (Cn := RX0) (T := TX0) (N := 3) (ci := 1) (fs := [.int 0, .int 0, .int 0]) (v := .int p0) C K P 0 rfl rfl inX0_init tyX0_ok nmX0 0 (Nat.le_of_ble_eq_true rfl) (List.mem_of_getElem? (i := 4) rfl) rfl hnm rfl rfl rfl (Nat.le_of_ble_eq_true rfl) dX0_init_6 (fun H locs (P : Hp D A s [(a, .inr (1, [.int p0, .int 0, .int 0]))] H locs) => ?_)
  refine lv_aload_n (pc := 9) hx hb dX0_init_9 rfl (lv_at hl 0 rfl) ?_
  refine lv_iload_n (pc := 10) hx hb dX0_init_10 rfl (lv_at hl 2 rfl) ?_
  refine x_putF (pc := 11) (Cn := RX0) (T := TX0) (N := 3) (ci := 1) (fs := [.int p0, .int 0, .int 0]) (v := .int p1) C K P 0 rfl rfl inX0_init tyX0_ok nmX0 1 (Nat.le_of_ble_eq_true rfl) (List.mem_of_getElem? (i := 5) rfl) rfl hnm rfl rfl rfl (Nat.le_of_ble_eq_true rfl) dX0_init_11 (fun H locs (P : Hp D A s [(a, .inr (1, [.int p0, .int p1, .int 0]))] H locs) => ?_)
  refine lv_aload_n (pc := 14) hx hb dX0_init_14 rfl (lv_at hl 0 rfl) ?_
  refine lv_iload_n (pc := 15) hx hb dX0_init_15 rfl (lv_at hl 3 rfl) ?_
  refine x_put (pc := 16) (Cn := RX0) (T := TX0) (N := 3) (ci := 1) (fs := [.int p0, .int p1, .int 0]) (v := .int p2) C K P 0 rfl rfl inX0_init tyX0_ok nmX0 2 (Nat.le_of_ble_eq_true rfl) (List.mem_of_getElem? (i := 6) rfl) rfl rfl rfl (Nat.le_of_ble_eq_true rfl) dX0_init_16 (fun H locs (P : Hp D A s [(a, .inr (1, [.int p0, .int p1, .int p2]))] H locs) => ?_)
  exact N_retV (pc := 19) C P rfl dX0_init_19
abbrev rX1_init : Room := { frames := 1, cells := 0, slots := 0, locals := 13 }
theorem fnX1_init : Fn yX1_init wsX1_init cX1_init 1 none 0 rX1_init 0 0 := ⟨⟨_, rfl⟩, rfl, rfl, by decide +kernel⟩
theorem inX1_init : ∀ w ∈ wsX10, w ∈ wsX1_init := fun w h => List.mem_cons_of_mem _ (List.mem_append_right _ h)
set_option maxHeartbeats 4000000 in
set_option maxRecDepth 100000 in
theorem kX1_init (l : Launch) (D : va_G) (a : Nat) : N_V l yX1_init wsX1_init rX1_init D a 2 [.int 0, .int 0, .int 0] [.int 10, .int 0, .int 1000000] [] := by
  refine N_body1 (n := 0) (Qc := fun A => va_Qv (fun (_ : Unit) => True) (fun _ t => va_P D vwCl [(a, .inr (2, [.int 10, .int 0, .int 1000000]))] t.heap) A) RX1 rfl (by decide) fnX1_init (Nat.le_of_ble_eq_true rfl) ?_
  intro p e s m args below meth c C hN K hnm A P ls hl
  have hx := C.1
  have hb := C.2.1
  have hml := C.2.2.1
  have hown := C.2.2.2.1
  have hts := C.2.2.2.2.1
  have hl : lv_has ls 1 [(0, .ref a)] := hl
  refine lv_aload_n (pc := 0) hx hb dX1_init_0 rfl (lv_at hl 0 rfl) ?_
  refine W.objInit hx hb hown (hts _ (List.mem_of_getElem? (i := 1) rfl)) (hts _ (List.mem_of_getElem? (i := 2) rfl)) (hts _ (List.mem_of_getElem? (i := 3) rfl)) rfl (hl.1.trans hml.symm) rfl dX1_init_1 (Nat.le_of_ble_eq_true rfl) (Nat.le_of_ble_eq_true rfl) ?_
  refine W.eq (g2 := F0 m 4 ls []) rfl ?_
  refine lv_aload_n (pc := 4) hx hb dX1_init_4 rfl (lv_at hl 0 rfl) ?_
  refine lv_bipush (pc := 5) (v := 10) hx hb dX1_init_5 (by decide) ?_
  refine x_put (pc := 7) (Cn := RX1) (T := TX1) (N := 3) (ci := 2) (fs := [.int 0, .int 0, .int 0]) (v := .int 10) C K P 0 rfl rfl inX1_init tyX1_ok nmX1 0 (Nat.le_of_ble_eq_true rfl) (List.mem_of_getElem? (i := 4) rfl) rfl rfl rfl (Nat.le_of_ble_eq_true rfl) dX1_init_7 (fun H locs (P : Hp D A s [(a, .inr (2, [.int 10, .int 0, .int 0]))] H locs) => ?_)
  refine lv_aload_n (pc := 10) hx hb dX1_init_10 rfl (lv_at hl 0 rfl) ?_
  refine lv_ldc (pc := 11) (v := 1000000) hx hb hown (hts _ (List.mem_of_getElem? (i := 5) rfl)) dX1_init_11 ?_
  refine x_put (pc := 13) (Cn := RX1) (T := TX1) (N := 3) (ci := 2) (fs := [.int 10, .int 0, .int 0]) (v := .int 1000000) C K P 0 rfl rfl inX1_init tyX1_ok nmX1 2 (Nat.le_of_ble_eq_true rfl) (List.mem_of_getElem? (i := 6) rfl) rfl rfl rfl (Nat.le_of_ble_eq_true rfl) dX1_init_13 (fun H locs (P : Hp D A s [(a, .inr (2, [.int 10, .int 0, .int 1000000]))] H locs) => ?_)
  exact N_retV (pc := 16) C P rfl dX1_init_16
abbrev rX2_init : Room := { frames := 1, cells := 0, slots := 0, locals := 13 }
theorem fnX2_init : Fn yX2_init wsX2_init cX2_init 1 none 0 rX2_init 0 0 := ⟨⟨_, rfl⟩, rfl, rfl, by decide +kernel⟩
set_option maxHeartbeats 4000000 in
set_option maxRecDepth 100000 in
theorem kX2_init (l : Launch) (D : va_G) (a : Nat) : N_V l yX2_init wsX2_init rX2_init D a 3 [.int 0, .int 0, .int 0, .int 0, .int 0] [.int 0, .int 0, .int 0, .int 0, .int 0] [] := by
  refine N_body1 (n := 0) (Qc := fun A => va_Qv (fun (_ : Unit) => True) (fun _ t => va_P D vwCl [(a, .inr (3, [.int 0, .int 0, .int 0, .int 0, .int 0]))] t.heap) A) RX2 rfl (by decide) fnX2_init (Nat.le_of_ble_eq_true rfl) ?_
  intro p e s m args below meth c C hN K hnm A P ls hl
  have hx := C.1
  have hb := C.2.1
  have hml := C.2.2.1
  have hown := C.2.2.2.1
  have hts := C.2.2.2.2.1
  have hl : lv_has ls 1 [(0, .ref a)] := hl
  refine lv_aload_n (pc := 0) hx hb dX2_init_0 rfl (lv_at hl 0 rfl) ?_
  refine W.objInit hx hb hown (hts _ (List.mem_of_getElem? (i := 1) rfl)) (hts _ (List.mem_of_getElem? (i := 2) rfl)) (hts _ (List.mem_of_getElem? (i := 3) rfl)) rfl (hl.1.trans hml.symm) rfl dX2_init_1 (Nat.le_of_ble_eq_true rfl) (Nat.le_of_ble_eq_true rfl) ?_
  refine W.eq (g2 := F0 m 4 ls []) rfl ?_
  exact N_retV (pc := 4) C P rfl dX2_init_4
abbrev rX3_init : Room := { frames := 1, cells := 0, slots := 0, locals := 13 }
theorem fnX3_init : Fn yX3_init wsX3_init cX3_init 3 none 2 rX3_init 0 0 := ⟨⟨_, rfl⟩, rfl, rfl, by decide +kernel⟩
theorem inX3_init : ∀ w ∈ wsX30, w ∈ wsX3_init := fun w h => List.mem_cons_of_mem _ (List.mem_append_right _ h)
set_option maxHeartbeats 4000000 in
set_option maxRecDepth 100000 in
theorem kX3_init (l : Launch) (D : va_G) (a : Nat) (p0 : Int32) (p1 : Int32) : N_V l yX3_init wsX3_init rX3_init D a 4 [.int 0, .int 0] [.int p0, .int p1] [.int p0, .int p1] := by
  refine N_body1 (n := 2) (Qc := fun A => va_Qv (fun (_ : Unit) => True) (fun _ t => va_P D vwCl [(a, .inr (4, [.int p0, .int p1]))] t.heap) A) RX3 rfl (by decide) fnX3_init (Nat.le_of_ble_eq_true rfl) ?_
  intro p e s m args below meth c C hN K hnm A P ls hl
  have hx := C.1
  have hb := C.2.1
  have hml := C.2.2.1
  have hown := C.2.2.2.1
  have hts := C.2.2.2.2.1
  have hl : lv_has ls 3 [(0, .ref a), (1, .int p0), (2, .int p1)] := hl
  refine lv_aload_n (pc := 0) hx hb dX3_init_0 rfl (lv_at hl 0 rfl) ?_
  refine W.objInit hx hb hown (hts _ (List.mem_of_getElem? (i := 1) rfl)) (hts _ (List.mem_of_getElem? (i := 2) rfl)) (hts _ (List.mem_of_getElem? (i := 3) rfl)) rfl (hl.1.trans hml.symm) rfl dX3_init_1 (Nat.le_of_ble_eq_true rfl) (Nat.le_of_ble_eq_true rfl) ?_
  refine W.eq (g2 := F0 m 4 ls []) rfl ?_
  refine lv_aload_n (pc := 4) hx hb dX3_init_4 rfl (lv_at hl 0 rfl) ?_
  refine lv_iload_n (pc := 5) hx hb dX3_init_5 rfl (lv_at hl 1 rfl) ?_
  refine x_put (pc := 6) (Cn := RX3) (T := TX3) (N := 2) (ci := 4) (fs := [.int 0, .int 0]) (v := .int p0) C K P 0 rfl rfl inX3_init tyX3_ok nmX3 0 (Nat.le_of_ble_eq_true rfl) (List.mem_of_getElem? (i := 4) rfl) rfl rfl rfl (Nat.le_of_ble_eq_true rfl) dX3_init_6 (fun H locs (P : Hp D A s [(a, .inr (4, [.int p0, .int 0]))] H locs) => ?_)
  refine lv_aload_n (pc := 9) hx hb dX3_init_9 rfl (lv_at hl 0 rfl) ?_
  refine lv_iload_n (pc := 10) hx hb dX3_init_10 rfl (lv_at hl 2 rfl) ?_
  refine x_put (pc := 11) (Cn := RX3) (T := TX3) (N := 2) (ci := 4) (fs := [.int p0, .int 0]) (v := .int p1) C K P 0 rfl rfl inX3_init tyX3_ok nmX3 1 (Nat.le_of_ble_eq_true rfl) (List.mem_of_getElem? (i := 5) rfl) rfl rfl rfl (Nat.le_of_ble_eq_true rfl) dX3_init_11 (fun H locs (P : Hp D A s [(a, .inr (4, [.int p0, .int p1]))] H locs) => ?_)
  exact N_retV (pc := 14) C P rfl dX3_init_14
abbrev rX4_init : Room := { frames := 1, cells := 0, slots := 0, locals := 13 }
theorem fnX4_init : Fn yX4_init wsX4_init cX4_init 5 none 4 rX4_init 0 0 := ⟨⟨_, rfl⟩, rfl, rfl, by decide +kernel⟩
theorem inX4_init : ∀ w ∈ wsX40, w ∈ wsX4_init := fun w h => List.mem_cons_of_mem _ (List.mem_append_right _ h)
set_option maxHeartbeats 4000000 in
set_option maxRecDepth 100000 in
theorem kX4_init (l : Launch) (D : va_G) (a : Nat) (p0 : Nat) (p1 : Int32) (p2 : Int32) (p3 : Int32) : N_V l yX4_init wsX4_init rX4_init D a 5 [.null, .int 0, .int 0, .int 0, .int 0] [.ref p0, .int p1, .int p2, .int p3, .int 0] [.ref p0, .int p1, .int p2, .int p3] := by
  refine N_body1 (n := 4) (Qc := fun A => va_Qv (fun (_ : Unit) => True) (fun _ t => va_P D vwCl [(a, .inr (5, [.ref p0, .int p1, .int p2, .int p3, .int 0]))] t.heap) A) RX4 rfl (by decide) fnX4_init (Nat.le_of_ble_eq_true rfl) ?_
  intro p e s m args below meth c C hN K hnm A P ls hl
  have hx := C.1
  have hb := C.2.1
  have hml := C.2.2.1
  have hown := C.2.2.2.1
  have hts := C.2.2.2.2.1
  have hl : lv_has ls 5 [(0, .ref a), (1, .ref p0), (2, .int p1), (3, .int p2), (4, .int p3)] := hl
  refine lv_aload_n (pc := 0) hx hb dX4_init_0 rfl (lv_at hl 0 rfl) ?_
  refine W.objInit hx hb hown (hts _ (List.mem_of_getElem? (i := 1) rfl)) (hts _ (List.mem_of_getElem? (i := 2) rfl)) (hts _ (List.mem_of_getElem? (i := 3) rfl)) rfl (hl.1.trans hml.symm) rfl dX4_init_1 (Nat.le_of_ble_eq_true rfl) (Nat.le_of_ble_eq_true rfl) ?_
  refine W.eq (g2 := F0 m 4 ls []) rfl ?_
  refine lv_aload_n (pc := 4) hx hb dX4_init_4 rfl (lv_at hl 0 rfl) ?_
  refine lv_iconst (pc := 5) (v := 0) hx hb dX4_init_5 (by decide) ?_
  refine x_put (pc := 6) (Cn := RX4) (T := TX4) (N := 5) (ci := 5) (fs := [.null, .int 0, .int 0, .int 0, .int 0]) (v := .int 0) C K P 0 rfl rfl inX4_init tyX4_ok nmX4 4 (Nat.le_of_ble_eq_true rfl) (List.mem_of_getElem? (i := 4) rfl) rfl rfl rfl (Nat.le_of_ble_eq_true rfl) dX4_init_6 (fun H locs (P : Hp D A s [(a, .inr (5, [.null, .int 0, .int 0, .int 0, .int 0]))] H locs) => ?_)
  refine lv_aload_n (pc := 9) hx hb dX4_init_9 rfl (lv_at hl 0 rfl) ?_
  refine lv_aload_n (pc := 10) hx hb dX4_init_10 rfl (lv_at hl 1 rfl) ?_
  refine x_putF (pc := 11) (Cn := RX4) (T := TX4) (N := 5) (ci := 5) (fs := [.null, .int 0, .int 0, .int 0, .int 0]) (v := .ref p0) C K P 0 rfl rfl inX4_init tyX4_ok nmX4 0 (Nat.le_of_ble_eq_true rfl) (List.mem_of_getElem? (i := 5) rfl) rfl hnm rfl rfl rfl (Nat.le_of_ble_eq_true rfl) dX4_init_11 (fun H locs (P : Hp D A s [(a, .inr (5, [.ref p0, .int 0, .int 0, .int 0, .int 0]))] H locs) => ?_)
  refine lv_aload_n (pc := 14) hx hb dX4_init_14 rfl (lv_at hl 0 rfl) ?_
  refine lv_iload_n (pc := 15) hx hb dX4_init_15 rfl (lv_at hl 2 rfl) ?_
  refine x_putF (pc := 16) (Cn := RX4) (T := TX4) (N := 5) (ci := 5) (fs := [.ref p0, .int 0, .int 0, .int 0, .int 0]) (v := .int p1) C K P 0 rfl rfl inX4_init tyX4_ok nmX4 1 (Nat.le_of_ble_eq_true rfl) (List.mem_of_getElem? (i := 6) rfl) rfl hnm rfl rfl rfl (Nat.le_of_ble_eq_true rfl) dX4_init_16 (fun H locs (P : Hp D A s [(a, .inr (5, [.ref p0, .int p1, .int 0, .int 0, .int 0]))] H locs) => ?_)
  refine lv_aload_n (pc := 19) hx hb dX4_init_19 rfl (lv_at hl 0 rfl) ?_
  refine lv_iload_n (pc := 20) hx hb dX4_init_20 rfl (lv_at hl 3 rfl) ?_
  refine x_putF (pc := 21) (Cn := RX4) (T := TX4) (N := 5) (ci := 5) (fs := [.ref p0, .int p1, .int 0, .int 0, .int 0]) (v := .int p2) C K P 0 rfl rfl inX4_init tyX4_ok nmX4 2 (Nat.le_of_ble_eq_true rfl) (List.mem_of_getElem? (i := 7) rfl) rfl hnm rfl rfl rfl (Nat.le_of_ble_eq_true rfl) dX4_init_21 (fun H locs (P : Hp D A s [(a, .inr (5, [.ref p0, .int p1, .int p2, .int 0, .int 0]))] H locs) => ?_)
  refine lv_aload_n (pc := 24) hx hb dX4_init_24 rfl (lv_at hl 0 rfl) ?_
  refine lv_iload (pc := 25) hx hb dX4_init_25 (lv_at hl 4 rfl) ?_
  refine x_putF (pc := 27) (Cn := RX4) (T := TX4) (N := 5) (ci := 5) (fs := [.ref p0, .int p1, .int p2, .int 0, .int 0]) (v := .int p3) C K P 0 rfl rfl inX4_init tyX4_ok nmX4 3 (Nat.le_of_ble_eq_true rfl) (List.mem_of_getElem? (i := 8) rfl) rfl hnm rfl rfl rfl (Nat.le_of_ble_eq_true rfl) dX4_init_27 (fun H locs (P : Hp D A s [(a, .inr (5, [.ref p0, .int p1, .int p2, .int p3, .int 0]))] H locs) => ?_)
  exact N_retV (pc := 30) C P rfl dX4_init_30
abbrev rX5_init : Room := { frames := 1, cells := 0, slots := 0, locals := 13 }
theorem fnX5_init : Fn yX5_init wsX5_init cX5_init 3 none 2 rX5_init 0 0 := ⟨⟨_, rfl⟩, rfl, rfl, by decide +kernel⟩
theorem inX5_init : ∀ w ∈ wsX50, w ∈ wsX5_init := fun w h => List.mem_cons_of_mem _ (List.mem_append_right _ h)
set_option maxHeartbeats 4000000 in
set_option maxRecDepth 100000 in
theorem kX5_init (l : Launch) (D : va_G) (a : Nat) (p0 : Int32) (p1 : Int32) : N_V l yX5_init wsX5_init rX5_init D a 6 [.int 0, .int 0, .int 0, .int 0] [.int p0, .int p1, .int 0, .int 0] [.int p0, .int p1] := by
  refine N_body1 (n := 2) (Qc := fun A => va_Qv (fun (_ : Unit) => True) (fun _ t => va_P D vwCl [(a, .inr (6, [.int p0, .int p1, .int 0, .int 0]))] t.heap) A) RX5 rfl (by decide) fnX5_init (Nat.le_of_ble_eq_true rfl) ?_
  intro p e s m args below meth c C hN K hnm A P ls hl
  have hx := C.1
  have hb := C.2.1
  have hml := C.2.2.1
  have hown := C.2.2.2.1
  have hts := C.2.2.2.2.1
  have hl : lv_has ls 3 [(0, .ref a), (1, .int p0), (2, .int p1)] := hl
  refine lv_aload_n (pc := 0) hx hb dX5_init_0 rfl (lv_at hl 0 rfl) ?_
  refine W.objInit hx hb hown (hts _ (List.mem_of_getElem? (i := 1) rfl)) (hts _ (List.mem_of_getElem? (i := 2) rfl)) (hts _ (List.mem_of_getElem? (i := 3) rfl)) rfl (hl.1.trans hml.symm) rfl dX5_init_1 (Nat.le_of_ble_eq_true rfl) (Nat.le_of_ble_eq_true rfl) ?_
  refine W.eq (g2 := F0 m 4 ls []) rfl ?_
  refine lv_aload_n (pc := 4) hx hb dX5_init_4 rfl (lv_at hl 0 rfl) ?_
  refine lv_iload_n (pc := 5) hx hb dX5_init_5 rfl (lv_at hl 1 rfl) ?_
  refine x_putF (pc := 6) (Cn := RX5) (T := TX5) (N := 4) (ci := 6) (fs := [.int 0, .int 0, .int 0, .int 0]) (v := .int p0) C K P 0 rfl rfl inX5_init tyX5_ok nmX5 0 (Nat.le_of_ble_eq_true rfl) (List.mem_of_getElem? (i := 4) rfl) rfl hnm rfl rfl rfl (Nat.le_of_ble_eq_true rfl) dX5_init_6 (fun H locs (P : Hp D A s [(a, .inr (6, [.int p0, .int 0, .int 0, .int 0]))] H locs) => ?_)
  refine lv_aload_n (pc := 9) hx hb dX5_init_9 rfl (lv_at hl 0 rfl) ?_
  refine lv_iload_n (pc := 10) hx hb dX5_init_10 rfl (lv_at hl 2 rfl) ?_
  refine x_putF (pc := 11) (Cn := RX5) (T := TX5) (N := 4) (ci := 6) (fs := [.int p0, .int 0, .int 0, .int 0]) (v := .int p1) C K P 0 rfl rfl inX5_init tyX5_ok nmX5 1 (Nat.le_of_ble_eq_true rfl) (List.mem_of_getElem? (i := 5) rfl) rfl hnm rfl rfl rfl (Nat.le_of_ble_eq_true rfl) dX5_init_11 (fun H locs (P : Hp D A s [(a, .inr (6, [.int p0, .int p1, .int 0, .int 0]))] H locs) => ?_)
  exact N_retV (pc := 14) C P rfl dX5_init_14
abbrev ex_dutyFor (f0 : Int32) (f1 : Int32) (f2 : Int32) (p0 : Int32) : Int32 := g_part p0 f0 1000
abbrev rX1_dutyFor : Room := { frames := 1, cells := 0, slots := 0, locals := 22 }
theorem fnX1_dutyFor : Fn yX1_dutyFor wsX1_dutyFor cX1_dutyFor 2 (some .int) 1 rX1_dutyFor 0 0 := ⟨⟨_, rfl⟩, rfl, rfl, by decide +kernel⟩
theorem inX1_dutyFor : ∀ w ∈ wsX10, w ∈ wsX1_dutyFor := fun w h => List.mem_cons_of_mem _ (List.mem_append_right _ h)
set_option maxHeartbeats 4000000 in
set_option maxRecDepth 100000 in
theorem kX1_dutyFor (l : Launch) (D : va_G) (a : Nat) (f0 : Int32) (f1 : Int32) (f2 : Int32) (p0 : Int32) : N_R l yX1_dutyFor wsX1_dutyFor rX1_dutyFor D [] [(a, .inr (2, [.int f0, .int f1, .int f2]))] (.ref a :: [.int p0]) (ex_dutyFor f0 f1 f2 p0) := by
  refine N_bodyR (n := 1) RX1 rfl (by decide) fnX1_dutyFor (Nat.le_of_ble_eq_true rfl) ?_
  intro p e s m args below meth c C hN K A P ls hl
  have hx := C.1
  have hb := C.2.1
  have hml := C.2.2.1
  have hown := C.2.2.2.1
  have hts := C.2.2.2.2.1
  have hl : lv_has ls 2 [(0, .ref a), (1, .int p0)] := hl
  refine lv_iload_n (pc := 0) hx hb dX1_dutyFor_0 rfl (lv_at hl 1 rfl) ?_
  refine lv_aload_n (pc := 1) hx hb dX1_dutyFor_1 rfl (lv_at hl 0 rfl) ?_
  refine x_get (pc := 2) (Cn := RX1) (T := TX1) (N := 3) (ci := 2) (fs := [.int f0, .int f1, .int f2]) (v := .int f0) C K P 0 rfl rfl inX1_dutyFor 0 (Nat.le_of_ble_eq_true rfl) (List.mem_of_getElem? (i := 1) rfl) rfl dX1_dutyFor_2 ?_
  refine lv_sipush (pc := 5) (v := 1000) hx hb dX1_dutyFor_5 (by decide) ?_
  refine S_callN (pc := 8) (As := [.int p0, .int f0, .int 1000]) (rest := []) (r := g_part p0 f0 1000) C hl.1 (kX6_part l p0 f0 1000) fnX6_part (hN _ (List.mem_of_getElem? (i := 18) rfl)) ggX1_dutyFor_X6_part (List.mem_of_getElem? (i := 2) rfl) (List.mem_of_getElem? (i := 3) rfl) rfl rfl ⟨Nat.le_of_ble_eq_true rfl, Nat.le_of_ble_eq_true rfl⟩ (Nat.le_of_ble_eq_true rfl) ⟨Nat.le_of_ble_eq_true rfl, Nat.le_of_ble_eq_true rfl⟩ dX1_dutyFor_8 ?_
  exact S_ret (pc := 11) (v := g_part p0 f0 1000) C rfl dX1_dutyFor_11
abbrev ex_chargeWhole (f0 : Int32) (f1 : Int32) (f2 : Int32) (p0 : Int32) : Int32 := ex_dutyFor f0 f1 f2 p0
abbrev rX1_chargeWhole : Room := { frames := 2, cells := 0, slots := 0, locals := 43 }
theorem fnX1_chargeWhole : Fn yX1_chargeWhole wsX1_chargeWhole cX1_chargeWhole 3 (some .int) 1 rX1_chargeWhole 0 0 := ⟨⟨_, rfl⟩, rfl, rfl, by decide +kernel⟩
theorem inX1_chargeWhole : ∀ w ∈ wsX10, w ∈ wsX1_chargeWhole := fun w h => List.mem_cons_of_mem _ (List.mem_append_right _ h)
set_option maxHeartbeats 4000000 in
set_option maxRecDepth 100000 in
theorem kX1_chargeWhole (l : Launch) (D : va_G) (a : Nat) (f0 : Int32) (f1 : Int32) (f2 : Int32) (p0 : Int32) : N_I l yX1_chargeWhole wsX1_chargeWhole rX1_chargeWhole D a 2 [.int f0, .int f1, .int f2] [.int f0, .int (f1 + (ex_dutyFor f0 f1 f2 p0)), .int f2] [.int p0] (ex_chargeWhole f0 f1 f2 p0) := by
  refine N_body1 (n := 1) (Qc := fun A => va_Qi (fun x (_ : Unit) => x = (ex_chargeWhole f0 f1 f2 p0)) (fun _ t => va_P D vwCl [(a, .inr (2, [.int f0, .int (f1 + (ex_dutyFor f0 f1 f2 p0)), .int f2]))] t.heap) A) RX1 rfl (by decide) fnX1_chargeWhole (Nat.le_of_ble_eq_true rfl) ?_
  intro p e s m args below meth c C hN K hnm A P ls hl
  have hx := C.1
  have hb := C.2.1
  have hml := C.2.2.1
  have hown := C.2.2.2.1
  have hts := C.2.2.2.2.1
  have hl : lv_has ls 3 [(0, .ref a), (1, .int p0)] := hl
  refine lv_aload_n (pc := 0) hx hb dX1_chargeWhole_0 rfl (lv_at hl 0 rfl) ?_
  refine lv_iload_n (pc := 1) hx hb dX1_chargeWhole_1 rfl (lv_at hl 1 rfl) ?_
  refine N_callR (pc := 2) (As := [.int p0]) (rest := []) (r := ex_dutyFor f0 f1 f2 p0) (rc := RX1) C hN K.nil hl.1 (P.1.one (k := 0) rfl) (va_D.one trivial) (va_recv K P.1 (ci := 2) (q0 := 0) rfl rfl) (kX1_dutyFor l D a f0 f1 f2 p0) fnX1_dutyFor rfl gX1_chargeWhole_X1_dutyFor rfl rfl ⟨Nat.le_of_ble_eq_true rfl, Nat.le_of_ble_eq_true rfl⟩ (Nat.le_of_ble_eq_true rfl) ⟨Nat.le_of_ble_eq_true rfl, Nat.le_of_ble_eq_true rfl⟩ dX1_chargeWhole_2 ?_
  refine lv_istore_n (pc := 5) (lv' := [(2, .int (ex_dutyFor f0 f1 f2 p0)), (0, .ref a), (1, .int p0)]) hx hb dX1_chargeWhole_5 rfl hl (by decide) rfl (fun ls hl => ?_)
  refine lv_aload_n (pc := 6) hx hb dX1_chargeWhole_6 rfl (lv_at hl 1 rfl) ?_
  refine lv_dup (pc := 7) hx hb dX1_chargeWhole_7 rfl ?_
  refine x_get (pc := 8) (Cn := RX1) (T := TX1) (N := 3) (ci := 2) (fs := [.int f0, .int f1, .int f2]) (v := .int f1) C K P 0 rfl rfl inX1_chargeWhole 1 (Nat.le_of_ble_eq_true rfl) (List.mem_of_getElem? (i := 1) rfl) rfl dX1_chargeWhole_8 ?_
  refine lv_iload_n (pc := 11) hx hb dX1_chargeWhole_11 rfl (lv_at hl 0 rfl) ?_
  refine lv_iadd (pc := 12) hx hb dX1_chargeWhole_12 ?_
  refine x_put (pc := 13) (Cn := RX1) (T := TX1) (N := 3) (ci := 2) (fs := [.int f0, .int f1, .int f2]) (v := .int (f1 + (ex_dutyFor f0 f1 f2 p0))) C K P 0 rfl rfl inX1_chargeWhole tyX1_ok nmX1 1 (Nat.le_of_ble_eq_true rfl) (List.mem_of_getElem? (i := 1) rfl) rfl rfl rfl (Nat.le_of_ble_eq_true rfl) dX1_chargeWhole_13 (fun H locs (P : Hp D A s [(a, .inr (2, [.int f0, .int (f1 + (ex_dutyFor f0 f1 f2 p0)), .int f2]))] H locs) => ?_)
  refine lv_iload_n (pc := 16) hx hb dX1_chargeWhole_16 rfl (lv_at hl 0 rfl) ?_
  exact N_retI (pc := 17) (v := ex_dutyFor f0 f1 f2 p0) C P rfl rfl dX1_chargeWhole_17
abbrev ex_chargeLeaving (f0 : Int32) (f1 : Int32) (f2 : Int32) (p0 : Int32) : Int32 := (g_part (if f2 < p0 then f2 else p0) (f0 / 2) 1000) + (ex_dutyFor f0 f1 (f2 - (if f2 < p0 then f2 else p0)) (p0 - (if f2 < p0 then f2 else p0)))
def ex_chargeLeaving_1 (f0 : Int32) (f1 : Int32) (f2 : Int32) (p0 : Int32) : Int32 := f1 + ((g_part (if f2 < p0 then f2 else p0) (f0 / 2) 1000) + (ex_dutyFor f0 f1 (f2 - (if f2 < p0 then f2 else p0)) (p0 - (if f2 < p0 then f2 else p0))))
abbrev rX1_chargeLeaving : Room := { frames := 2, cells := 0, slots := 0, locals := 43 }
theorem fnX1_chargeLeaving : Fn yX1_chargeLeaving wsX1_chargeLeaving cX1_chargeLeaving 4 (some .int) 1 rX1_chargeLeaving 0 0 := ⟨⟨_, rfl⟩, rfl, rfl, by decide +kernel⟩
theorem inX1_chargeLeaving : ∀ w ∈ wsX10, w ∈ wsX1_chargeLeaving := fun w h => List.mem_cons_of_mem _ (List.mem_append_right _ h)
set_option maxHeartbeats 4000000 in
set_option maxRecDepth 100000 in
theorem kX1_chargeLeaving (l : Launch) (D : va_G) (a : Nat) (f0 : Int32) (f1 : Int32) (f2 : Int32) (p0 : Int32) : N_I l yX1_chargeLeaving wsX1_chargeLeaving rX1_chargeLeaving D a 2 [.int f0, .int f1, .int f2] [.int f0, .int (ex_chargeLeaving_1 f0 f1 f2 p0), .int (f2 - (if f2 < p0 then f2 else p0))] [.int p0] (ex_chargeLeaving f0 f1 f2 p0) := by
  refine N_body1 (n := 1) (Qc := fun A => va_Qi (fun x (_ : Unit) => x = (ex_chargeLeaving f0 f1 f2 p0)) (fun _ t => va_P D vwCl [(a, .inr (2, [.int f0, .int (ex_chargeLeaving_1 f0 f1 f2 p0), .int (f2 - (if f2 < p0 then f2 else p0))]))] t.heap) A) RX1 rfl (by decide) fnX1_chargeLeaving (Nat.le_of_ble_eq_true rfl) ?_
  intro p e s m args below meth c C hN K hnm A P ls hl
  have hx := C.1
  have hb := C.2.1
  have hml := C.2.2.1
  have hown := C.2.2.2.1
  have hts := C.2.2.2.2.1
  have hl : lv_has ls 4 [(0, .ref a), (1, .int p0)] := hl
  refine lv_iload_n (pc := 0) hx hb dX1_chargeLeaving_0 rfl (lv_at hl 1 rfl) ?_
  refine lv_aload_n (pc := 1) hx hb dX1_chargeLeaving_1 rfl (lv_at hl 0 rfl) ?_
  refine x_get (pc := 2) (Cn := RX1) (T := TX1) (N := 3) (ci := 2) (fs := [.int f0, .int f1, .int f2]) (v := .int f2) C K P 0 rfl rfl inX1_chargeLeaving 2 (Nat.le_of_ble_eq_true rfl) (List.mem_of_getElem? (i := 1) rfl) rfl dX1_chargeLeaving_2 ?_
  refine va_mmin (pc := 5) hx hb (hml.trans hl.1.symm) hown (hts _ (List.mem_of_getElem? (i := 2) rfl)) (hts _ (List.mem_of_getElem? (i := 3) rfl)) (hts _ (List.mem_of_getElem? (i := 4) rfl)) (hts _ (List.mem_of_getElem? (i := 5) rfl)) (Nat.le_of_ble_eq_true rfl) (Nat.le_of_ble_eq_true rfl) (Nat.le_of_ble_eq_true rfl) (Nat.le_of_ble_eq_true rfl) dX1_chargeLeaving_5 ?_
  refine lv_istore_n (pc := 8) (lv' := [(2, .int (if f2 < p0 then f2 else p0)), (0, .ref a), (1, .int p0)]) hx hb dX1_chargeLeaving_8 rfl hl (by decide) rfl (fun ls hl => ?_)
  refine lv_aload_n (pc := 9) hx hb dX1_chargeLeaving_9 rfl (lv_at hl 1 rfl) ?_
  refine lv_dup (pc := 10) hx hb dX1_chargeLeaving_10 rfl ?_
  refine x_get (pc := 11) (Cn := RX1) (T := TX1) (N := 3) (ci := 2) (fs := [.int f0, .int f1, .int f2]) (v := .int f2) C K P 0 rfl rfl inX1_chargeLeaving 2 (Nat.le_of_ble_eq_true rfl) (List.mem_of_getElem? (i := 1) rfl) rfl dX1_chargeLeaving_11 ?_
  refine lv_iload_n (pc := 14) hx hb dX1_chargeLeaving_14 rfl (lv_at hl 0 rfl) ?_
  refine lv_isub (pc := 15) hx hb dX1_chargeLeaving_15 ?_
  refine x_put (pc := 16) (Cn := RX1) (T := TX1) (N := 3) (ci := 2) (fs := [.int f0, .int f1, .int f2]) (v := .int (f2 - (if f2 < p0 then f2 else p0))) C K P 0 rfl rfl inX1_chargeLeaving tyX1_ok nmX1 2 (Nat.le_of_ble_eq_true rfl) (List.mem_of_getElem? (i := 1) rfl) rfl rfl rfl (Nat.le_of_ble_eq_true rfl) dX1_chargeLeaving_16 (fun H locs (P : Hp D A s [(a, .inr (2, [.int f0, .int f1, .int (f2 - (if f2 < p0 then f2 else p0))]))] H locs) => ?_)
  refine lv_iload_n (pc := 19) hx hb dX1_chargeLeaving_19 rfl (lv_at hl 0 rfl) ?_
  refine lv_aload_n (pc := 20) hx hb dX1_chargeLeaving_20 rfl (lv_at hl 1 rfl) ?_
  refine x_get (pc := 21) (Cn := RX1) (T := TX1) (N := 3) (ci := 2) (fs := [.int f0, .int f1, .int (f2 - (if f2 < p0 then f2 else p0))]) (v := .int f0) C K P 0 rfl rfl inX1_chargeLeaving 0 (Nat.le_of_ble_eq_true rfl) (List.mem_of_getElem? (i := 6) rfl) rfl dX1_chargeLeaving_21 ?_
  refine lv_iconst (pc := 24) (v := 2) hx hb dX1_chargeLeaving_24 (by decide) ?_
  refine lv_idiv (pc := 25) hx hb dX1_chargeLeaving_25 (by decide) ?_
  refine lv_sipush (pc := 26) (v := 1000) hx hb dX1_chargeLeaving_26 (by decide) ?_
  refine S_callN (pc := 29) (As := [.int (if f2 < p0 then f2 else p0), .int (f0 / 2), .int 1000]) (rest := []) (r := g_part (if f2 < p0 then f2 else p0) (f0 / 2) 1000) C hl.1 (kX6_part l (if f2 < p0 then f2 else p0) (f0 / 2) 1000) fnX6_part (hN _ (List.mem_of_getElem? (i := 18) rfl)) ggX1_chargeLeaving_X6_part (List.mem_of_getElem? (i := 8) rfl) (List.mem_of_getElem? (i := 9) rfl) rfl rfl ⟨Nat.le_of_ble_eq_true rfl, Nat.le_of_ble_eq_true rfl⟩ (Nat.le_of_ble_eq_true rfl) ⟨Nat.le_of_ble_eq_true rfl, Nat.le_of_ble_eq_true rfl⟩ dX1_chargeLeaving_29 ?_
  refine lv_aload_n (pc := 32) hx hb dX1_chargeLeaving_32 rfl (lv_at hl 1 rfl) ?_
  refine lv_iload_n (pc := 33) hx hb dX1_chargeLeaving_33 rfl (lv_at hl 2 rfl) ?_
  refine lv_iload_n (pc := 34) hx hb dX1_chargeLeaving_34 rfl (lv_at hl 0 rfl) ?_
  refine lv_isub (pc := 35) hx hb dX1_chargeLeaving_35 ?_
  refine N_callR (pc := 36) (As := [.int (p0 - (if f2 < p0 then f2 else p0))]) (rest := [.int (g_part (if f2 < p0 then f2 else p0) (f0 / 2) 1000)]) (r := ex_dutyFor f0 f1 (f2 - (if f2 < p0 then f2 else p0)) (p0 - (if f2 < p0 then f2 else p0))) (rc := RX1) C hN K.nil hl.1 (P.1.one (k := 0) rfl) (va_D.one trivial) (va_recv K P.1 (ci := 2) (q0 := 0) rfl rfl) (kX1_dutyFor l D a f0 f1 (f2 - (if f2 < p0 then f2 else p0)) (p0 - (if f2 < p0 then f2 else p0))) fnX1_dutyFor rfl gX1_chargeLeaving_X1_dutyFor rfl rfl ⟨Nat.le_of_ble_eq_true rfl, Nat.le_of_ble_eq_true rfl⟩ (Nat.le_of_ble_eq_true rfl) ⟨Nat.le_of_ble_eq_true rfl, Nat.le_of_ble_eq_true rfl⟩ dX1_chargeLeaving_36 ?_
  refine lv_iadd (pc := 39) hx hb dX1_chargeLeaving_39 ?_
  refine lv_istore_n (pc := 40) (lv' := [(3, .int ((g_part (if f2 < p0 then f2 else p0) (f0 / 2) 1000) + (ex_dutyFor f0 f1 (f2 - (if f2 < p0 then f2 else p0)) (p0 - (if f2 < p0 then f2 else p0))))), (2, .int (if f2 < p0 then f2 else p0)), (0, .ref a), (1, .int p0)]) hx hb dX1_chargeLeaving_40 rfl hl (by decide) rfl (fun ls hl => ?_)
  refine lv_aload_n (pc := 41) hx hb dX1_chargeLeaving_41 rfl (lv_at hl 2 rfl) ?_
  refine lv_dup (pc := 42) hx hb dX1_chargeLeaving_42 rfl ?_
  refine x_get (pc := 43) (Cn := RX1) (T := TX1) (N := 3) (ci := 2) (fs := [.int f0, .int f1, .int (f2 - (if f2 < p0 then f2 else p0))]) (v := .int f1) C K P 0 rfl rfl inX1_chargeLeaving 1 (Nat.le_of_ble_eq_true rfl) (List.mem_of_getElem? (i := 7) rfl) rfl dX1_chargeLeaving_43 ?_
  refine lv_iload_n (pc := 46) hx hb dX1_chargeLeaving_46 rfl (lv_at hl 0 rfl) ?_
  refine lv_iadd (pc := 47) hx hb dX1_chargeLeaving_47 ?_
  refine x_put (pc := 48) (Cn := RX1) (T := TX1) (N := 3) (ci := 2) (fs := [.int f0, .int f1, .int (f2 - (if f2 < p0 then f2 else p0))]) (v := .int (f1 + ((g_part (if f2 < p0 then f2 else p0) (f0 / 2) 1000) + (ex_dutyFor f0 f1 (f2 - (if f2 < p0 then f2 else p0)) (p0 - (if f2 < p0 then f2 else p0)))))) C K P 0 rfl rfl inX1_chargeLeaving tyX1_ok nmX1 1 (Nat.le_of_ble_eq_true rfl) (List.mem_of_getElem? (i := 7) rfl) rfl rfl rfl (Nat.le_of_ble_eq_true rfl) dX1_chargeLeaving_48 (fun H locs (P : Hp D A s [(a, .inr (2, [.int f0, .int (f1 + ((g_part (if f2 < p0 then f2 else p0) (f0 / 2) 1000) + (ex_dutyFor f0 f1 (f2 - (if f2 < p0 then f2 else p0)) (p0 - (if f2 < p0 then f2 else p0))))), .int (f2 - (if f2 < p0 then f2 else p0))]))] H locs) => ?_)
  refine lv_iload_n (pc := 51) hx hb dX1_chargeLeaving_51 rfl (lv_at hl 0 rfl) ?_
  exact N_retI (pc := 52) (v := (g_part (if f2 < p0 then f2 else p0) (f0 / 2) 1000) + (ex_dutyFor f0 f1 (f2 - (if f2 < p0 then f2 else p0)) (p0 - (if f2 < p0 then f2 else p0)))) C P rfl rfl dX1_chargeLeaving_52
abbrev rX1_beginYear : Room := { frames := 0, cells := 0, slots := 0, locals := 0 }
theorem fnX1_beginYear : Fn yX1_beginYear wsX1_beginYear cX1_beginYear 1 none 0 rX1_beginYear 0 0 := ⟨⟨_, rfl⟩, rfl, rfl, by decide +kernel⟩
theorem inX1_beginYear : ∀ w ∈ wsX10, w ∈ wsX1_beginYear := fun w h => List.mem_cons_of_mem _ (List.mem_append_right _ h)
set_option maxHeartbeats 4000000 in
set_option maxRecDepth 100000 in
theorem kX1_beginYear (l : Launch) (D : va_G) (a : Nat) (f0 : Int32) (f1 : Int32) (f2 : Int32) : N_V l yX1_beginYear wsX1_beginYear rX1_beginYear D a 2 [.int f0, .int f1, .int f2] [.int f0, .int f1, .int 1000000] [] := by
  refine N_body1 (n := 0) (Qc := fun A => va_Qv (fun (_ : Unit) => True) (fun _ t => va_P D vwCl [(a, .inr (2, [.int f0, .int f1, .int 1000000]))] t.heap) A) RX1 rfl (by decide) fnX1_beginYear (Nat.le_of_ble_eq_true rfl) ?_
  intro p e s m args below meth c C hN K hnm A P ls hl
  have hx := C.1
  have hb := C.2.1
  have hml := C.2.2.1
  have hown := C.2.2.2.1
  have hts := C.2.2.2.2.1
  have hl : lv_has ls 1 [(0, .ref a)] := hl
  refine lv_aload_n (pc := 0) hx hb dX1_beginYear_0 rfl (lv_at hl 0 rfl) ?_
  refine lv_ldc (pc := 1) (v := 1000000) hx hb hown (hts _ (List.mem_of_getElem? (i := 1) rfl)) dX1_beginYear_1 ?_
  refine x_put (pc := 3) (Cn := RX1) (T := TX1) (N := 3) (ci := 2) (fs := [.int f0, .int f1, .int f2]) (v := .int 1000000) C K P 0 rfl rfl inX1_beginYear tyX1_ok nmX1 2 (Nat.le_of_ble_eq_true rfl) (List.mem_of_getElem? (i := 2) rfl) rfl rfl rfl (Nat.le_of_ble_eq_true rfl) dX1_beginYear_3 (fun H locs (P : Hp D A s [(a, .inr (2, [.int f0, .int f1, .int 1000000]))] H locs) => ?_)
  exact N_retV (pc := 6) C P rfl dX1_beginYear_6
def ex_growOwed_1 (f0 : Int32) (f1 : Int32) (f2 : Int32) : Int32 := if f1 ≤ 0 then f1 else (f1 + (f1 / 100))
abbrev rX1_growOwed : Room := { frames := 0, cells := 0, slots := 0, locals := 0 }
theorem fnX1_growOwed : Fn yX1_growOwed wsX1_growOwed cX1_growOwed 1 none 0 rX1_growOwed 0 0 := ⟨⟨_, rfl⟩, rfl, rfl, by decide +kernel⟩
theorem inX1_growOwed : ∀ w ∈ wsX10, w ∈ wsX1_growOwed := fun w h => List.mem_cons_of_mem _ (List.mem_append_right _ h)
set_option maxHeartbeats 4000000 in
set_option maxRecDepth 100000 in
theorem kX1_growOwed (l : Launch) (D : va_G) (a : Nat) (f0 : Int32) (f1 : Int32) (f2 : Int32) : N_V l yX1_growOwed wsX1_growOwed rX1_growOwed D a 2 [.int f0, .int f1, .int f2] [.int f0, .int (ex_growOwed_1 f0 f1 f2), .int f2] [] := by
  refine N_body1 (n := 0) (Qc := fun A => va_Qv (fun (_ : Unit) => True) (fun _ t => va_P D vwCl [(a, .inr (2, [.int f0, .int (ex_growOwed_1 f0 f1 f2), .int f2]))] t.heap) A) RX1 rfl (by decide) fnX1_growOwed (Nat.le_of_ble_eq_true rfl) ?_
  intro p e s m args below meth c C hN K hnm A P ls hl
  have hx := C.1
  have hb := C.2.1
  have hml := C.2.2.1
  have hown := C.2.2.2.1
  have hts := C.2.2.2.2.1
  have hl : lv_has ls 1 [(0, .ref a)] := hl
  refine lv_aload_n (pc := 0) hx hb dX1_growOwed_0 rfl (lv_at hl 0 rfl) ?_
  refine x_get (pc := 1) (Cn := RX1) (T := TX1) (N := 3) (ci := 2) (fs := [.int f0, .int f1, .int f2]) (v := .int f1) C K P 0 rfl rfl inX1_growOwed 1 (Nat.le_of_ble_eq_true rfl) (List.mem_of_getElem? (i := 1) rfl) rfl dX1_growOwed_1 ?_
  refine lv_if_le (pc := 4) (tgt := 23) hx hb dX1_growOwed_4 (by decide) (fun c_1 : f1 ≤ 0 => ?_) (fun c_1 : ¬ f1 ≤ 0 => ?_)
  · exact N_retV (pc := 23) C P (by rw [ex_growOwed_1, if_pos c_1]) dX1_growOwed_23
  · refine lv_aload_n (pc := 7) hx hb dX1_growOwed_7 rfl (lv_at hl 0 rfl) ?_
    refine lv_dup (pc := 8) hx hb dX1_growOwed_8 rfl ?_
    refine x_get (pc := 9) (Cn := RX1) (T := TX1) (N := 3) (ci := 2) (fs := [.int f0, .int f1, .int f2]) (v := .int f1) C K P 0 rfl rfl inX1_growOwed 1 (Nat.le_of_ble_eq_true rfl) (List.mem_of_getElem? (i := 1) rfl) rfl dX1_growOwed_9 ?_
    refine lv_aload_n (pc := 12) hx hb dX1_growOwed_12 rfl (lv_at hl 0 rfl) ?_
    refine x_get (pc := 13) (Cn := RX1) (T := TX1) (N := 3) (ci := 2) (fs := [.int f0, .int f1, .int f2]) (v := .int f1) C K P 0 rfl rfl inX1_growOwed 1 (Nat.le_of_ble_eq_true rfl) (List.mem_of_getElem? (i := 1) rfl) rfl dX1_growOwed_13 ?_
    refine lv_bipush (pc := 16) (v := 100) hx hb dX1_growOwed_16 (by decide) ?_
    refine lv_idiv (pc := 18) hx hb dX1_growOwed_18 (by decide) ?_
    refine lv_iadd (pc := 19) hx hb dX1_growOwed_19 ?_
    refine x_put (pc := 20) (Cn := RX1) (T := TX1) (N := 3) (ci := 2) (fs := [.int f0, .int f1, .int f2]) (v := .int (f1 + (f1 / 100))) C K P 0 rfl rfl inX1_growOwed tyX1_ok nmX1 1 (Nat.le_of_ble_eq_true rfl) (List.mem_of_getElem? (i := 1) rfl) rfl rfl rfl (Nat.le_of_ble_eq_true rfl) dX1_growOwed_20 (fun H locs (P : Hp D A s [(a, .inr (2, [.int f0, .int (f1 + (f1 / 100)), .int f2]))] H locs) => ?_)
    exact N_retV (pc := 23) C P (by rw [ex_growOwed_1, if_neg c_1]) dX1_growOwed_23
abbrev lo_drawBack (f0 : Int32) (f1 : Int32) (p0 : Int32) : Int32 := g_part f1 p0 f0
abbrev rX3_drawBack : Room := { frames := 1, cells := 0, slots := 0, locals := 22 }
theorem fnX3_drawBack : Fn yX3_drawBack wsX3_drawBack cX3_drawBack 3 (some .int) 1 rX3_drawBack 0 0 := ⟨⟨_, rfl⟩, rfl, rfl, by decide +kernel⟩
theorem inX3_drawBack : ∀ w ∈ wsX30, w ∈ wsX3_drawBack := fun w h => List.mem_cons_of_mem _ (List.mem_append_right _ h)
set_option maxHeartbeats 4000000 in
set_option maxRecDepth 100000 in
theorem kX3_drawBack (l : Launch) (D : va_G) (a : Nat) (f0 : Int32) (f1 : Int32) (p0 : Int32) : N_I l yX3_drawBack wsX3_drawBack rX3_drawBack D a 4 [.int f0, .int f1] [.int (f0 - p0), .int (f1 - (g_part f1 p0 f0))] [.int p0] (lo_drawBack f0 f1 p0) := by
  refine N_body1 (n := 1) (Qc := fun A => va_Qi (fun x (_ : Unit) => x = (lo_drawBack f0 f1 p0)) (fun _ t => va_P D vwCl [(a, .inr (4, [.int (f0 - p0), .int (f1 - (g_part f1 p0 f0))]))] t.heap) A) RX3 rfl (by decide) fnX3_drawBack (Nat.le_of_ble_eq_true rfl) ?_
  intro p e s m args below meth c C hN K hnm A P ls hl
  have hx := C.1
  have hb := C.2.1
  have hml := C.2.2.1
  have hown := C.2.2.2.1
  have hts := C.2.2.2.2.1
  have hl : lv_has ls 3 [(0, .ref a), (1, .int p0)] := hl
  refine lv_aload_n (pc := 0) hx hb dX3_drawBack_0 rfl (lv_at hl 0 rfl) ?_
  refine x_get (pc := 1) (Cn := RX3) (T := TX3) (N := 2) (ci := 4) (fs := [.int f0, .int f1]) (v := .int f1) C K P 0 rfl rfl inX3_drawBack 1 (Nat.le_of_ble_eq_true rfl) (List.mem_of_getElem? (i := 1) rfl) rfl dX3_drawBack_1 ?_
  refine lv_iload_n (pc := 4) hx hb dX3_drawBack_4 rfl (lv_at hl 1 rfl) ?_
  refine lv_aload_n (pc := 5) hx hb dX3_drawBack_5 rfl (lv_at hl 0 rfl) ?_
  refine x_get (pc := 6) (Cn := RX3) (T := TX3) (N := 2) (ci := 4) (fs := [.int f0, .int f1]) (v := .int f0) C K P 0 rfl rfl inX3_drawBack 0 (Nat.le_of_ble_eq_true rfl) (List.mem_of_getElem? (i := 2) rfl) rfl dX3_drawBack_6 ?_
  refine S_callN (pc := 9) (As := [.int f1, .int p0, .int f0]) (rest := []) (r := g_part f1 p0 f0) C hl.1 (kX6_part l f1 p0 f0) fnX6_part (hN _ (List.mem_of_getElem? (i := 20) rfl)) ggX3_drawBack_X6_part (List.mem_of_getElem? (i := 3) rfl) (List.mem_of_getElem? (i := 4) rfl) rfl rfl ⟨Nat.le_of_ble_eq_true rfl, Nat.le_of_ble_eq_true rfl⟩ (Nat.le_of_ble_eq_true rfl) ⟨Nat.le_of_ble_eq_true rfl, Nat.le_of_ble_eq_true rfl⟩ dX3_drawBack_9 ?_
  refine lv_istore_n (pc := 12) (lv' := [(2, .int (g_part f1 p0 f0)), (0, .ref a), (1, .int p0)]) hx hb dX3_drawBack_12 rfl hl (by decide) rfl (fun ls hl => ?_)
  refine lv_aload_n (pc := 13) hx hb dX3_drawBack_13 rfl (lv_at hl 1 rfl) ?_
  refine lv_dup (pc := 14) hx hb dX3_drawBack_14 rfl ?_
  refine x_get (pc := 15) (Cn := RX3) (T := TX3) (N := 2) (ci := 4) (fs := [.int f0, .int f1]) (v := .int f0) C K P 0 rfl rfl inX3_drawBack 0 (Nat.le_of_ble_eq_true rfl) (List.mem_of_getElem? (i := 2) rfl) rfl dX3_drawBack_15 ?_
  refine lv_iload_n (pc := 18) hx hb dX3_drawBack_18 rfl (lv_at hl 2 rfl) ?_
  refine lv_isub (pc := 19) hx hb dX3_drawBack_19 ?_
  refine x_put (pc := 20) (Cn := RX3) (T := TX3) (N := 2) (ci := 4) (fs := [.int f0, .int f1]) (v := .int (f0 - p0)) C K P 0 rfl rfl inX3_drawBack tyX3_ok nmX3 0 (Nat.le_of_ble_eq_true rfl) (List.mem_of_getElem? (i := 2) rfl) rfl rfl rfl (Nat.le_of_ble_eq_true rfl) dX3_drawBack_20 (fun H locs (P : Hp D A s [(a, .inr (4, [.int (f0 - p0), .int f1]))] H locs) => ?_)
  refine lv_aload_n (pc := 23) hx hb dX3_drawBack_23 rfl (lv_at hl 1 rfl) ?_
  refine lv_dup (pc := 24) hx hb dX3_drawBack_24 rfl ?_
  refine x_get (pc := 25) (Cn := RX3) (T := TX3) (N := 2) (ci := 4) (fs := [.int (f0 - p0), .int f1]) (v := .int f1) C K P 0 rfl rfl inX3_drawBack 1 (Nat.le_of_ble_eq_true rfl) (List.mem_of_getElem? (i := 1) rfl) rfl dX3_drawBack_25 ?_
  refine lv_iload_n (pc := 28) hx hb dX3_drawBack_28 rfl (lv_at hl 0 rfl) ?_
  refine lv_isub (pc := 29) hx hb dX3_drawBack_29 ?_
  refine x_put (pc := 30) (Cn := RX3) (T := TX3) (N := 2) (ci := 4) (fs := [.int (f0 - p0), .int f1]) (v := .int (f1 - (g_part f1 p0 f0))) C K P 0 rfl rfl inX3_drawBack tyX3_ok nmX3 1 (Nat.le_of_ble_eq_true rfl) (List.mem_of_getElem? (i := 1) rfl) rfl rfl rfl (Nat.le_of_ble_eq_true rfl) dX3_drawBack_30 (fun H locs (P : Hp D A s [(a, .inr (4, [.int (f0 - p0), .int (f1 - (g_part f1 p0 f0))]))] H locs) => ?_)
  refine lv_iload_n (pc := 33) hx hb dX3_drawBack_33 rfl (lv_at hl 0 rfl) ?_
  exact N_retI (pc := 34) (v := g_part f1 p0 f0) C P rfl rfl dX3_drawBack_34
def ve_has (f0 : Int32) (f1 : Int32) (f2 : Int32) (f3 : Int32) (p0 : Int32) : Int32 := if f2 < p0 then 0 else 1
abbrev rX5_has : Room := { frames := 0, cells := 0, slots := 0, locals := 0 }
theorem fnX5_has : Fn yX5_has wsX5_has cX5_has 2 (some .boolean) 1 rX5_has 0 0 := ⟨⟨_, rfl⟩, rfl, rfl, by decide +kernel⟩
theorem inX5_has : ∀ w ∈ wsX50, w ∈ wsX5_has := fun w h => List.mem_cons_of_mem _ (List.mem_append_right _ h)
set_option maxHeartbeats 4000000 in
set_option maxRecDepth 100000 in
theorem kX5_has (l : Launch) (D : va_G) (a : Nat) (f0 : Int32) (f1 : Int32) (f2 : Int32) (f3 : Int32) (p0 : Int32) : N_R l yX5_has wsX5_has rX5_has D [] [(a, .inr (6, [.int f0, .int f1, .int f2, .int f3]))] (.ref a :: [.int p0]) (ve_has f0 f1 f2 f3 p0) := by
  refine N_bodyR (n := 1) RX5 rfl (by decide) fnX5_has (Nat.le_of_ble_eq_true rfl) ?_
  intro p e s m args below meth c C hN K A P ls hl
  have hx := C.1
  have hb := C.2.1
  have hml := C.2.2.1
  have hown := C.2.2.2.1
  have hts := C.2.2.2.2.1
  have hl : lv_has ls 2 [(0, .ref a), (1, .int p0)] := hl
  refine lv_iload_n (pc := 0) hx hb dX5_has_0 rfl (lv_at hl 1 rfl) ?_
  refine lv_aload_n (pc := 1) hx hb dX5_has_1 rfl (lv_at hl 0 rfl) ?_
  refine x_get (pc := 2) (Cn := RX5) (T := TX5) (N := 4) (ci := 6) (fs := [.int f0, .int f1, .int f2, .int f3]) (v := .int f2) C K P 0 rfl rfl inX5_has 2 (Nat.le_of_ble_eq_true rfl) (List.mem_of_getElem? (i := 1) rfl) rfl dX5_has_2 ?_
  refine lv_icmp_gt (pc := 5) (tgt := 12) hx hb dX5_has_5 (by decide) (fun c_1 : f2 < p0 => ?_) (fun c_1 : ¬ f2 < p0 => ?_)
  · refine lv_iconst (pc := 12) (v := 0) hx hb dX5_has_12 (by decide) ?_
    exact S_retz (pc := 13) (v := 0) C (by rw [ve_has, if_pos c_1]) rfl dX5_has_13
  · refine lv_iconst (pc := 8) (v := 1) hx hb dX5_has_8 (by decide) ?_
    refine lv_goto (pc := 9) (tgt := 13) hx hb dX5_has_9 (by decide) ?_
    exact S_retz (pc := 13) (v := 1) C (by rw [ve_has, if_neg c_1]) rfl dX5_has_13
def ve_hasRoomFor (f0 : Int32) (f1 : Int32) (f2 : Int32) (f3 : Int32) (p0 : Int32) : Int32 := if (f1 - f2) < p0 then 0 else 1
abbrev rX5_hasRoomFor : Room := { frames := 0, cells := 0, slots := 0, locals := 0 }
theorem fnX5_hasRoomFor : Fn yX5_hasRoomFor wsX5_hasRoomFor cX5_hasRoomFor 2 (some .boolean) 1 rX5_hasRoomFor 0 0 := ⟨⟨_, rfl⟩, rfl, rfl, by decide +kernel⟩
theorem inX5_hasRoomFor : ∀ w ∈ wsX50, w ∈ wsX5_hasRoomFor := fun w h => List.mem_cons_of_mem _ (List.mem_append_right _ h)
set_option maxHeartbeats 4000000 in
set_option maxRecDepth 100000 in
theorem kX5_hasRoomFor (l : Launch) (D : va_G) (a : Nat) (f0 : Int32) (f1 : Int32) (f2 : Int32) (f3 : Int32) (p0 : Int32) : N_R l yX5_hasRoomFor wsX5_hasRoomFor rX5_hasRoomFor D [] [(a, .inr (6, [.int f0, .int f1, .int f2, .int f3]))] (.ref a :: [.int p0]) (ve_hasRoomFor f0 f1 f2 f3 p0) := by
  refine N_bodyR (n := 1) RX5 rfl (by decide) fnX5_hasRoomFor (Nat.le_of_ble_eq_true rfl) ?_
  intro p e s m args below meth c C hN K A P ls hl
  have hx := C.1
  have hb := C.2.1
  have hml := C.2.2.1
  have hown := C.2.2.2.1
  have hts := C.2.2.2.2.1
  have hl : lv_has ls 2 [(0, .ref a), (1, .int p0)] := hl
  refine lv_iload_n (pc := 0) hx hb dX5_hasRoomFor_0 rfl (lv_at hl 1 rfl) ?_
  refine lv_aload_n (pc := 1) hx hb dX5_hasRoomFor_1 rfl (lv_at hl 0 rfl) ?_
  refine x_get (pc := 2) (Cn := RX5) (T := TX5) (N := 4) (ci := 6) (fs := [.int f0, .int f1, .int f2, .int f3]) (v := .int f1) C K P 0 rfl rfl inX5_hasRoomFor 1 (Nat.le_of_ble_eq_true rfl) (List.mem_of_getElem? (i := 1) rfl) rfl dX5_hasRoomFor_2 ?_
  refine lv_aload_n (pc := 5) hx hb dX5_hasRoomFor_5 rfl (lv_at hl 0 rfl) ?_
  refine x_get (pc := 6) (Cn := RX5) (T := TX5) (N := 4) (ci := 6) (fs := [.int f0, .int f1, .int f2, .int f3]) (v := .int f2) C K P 0 rfl rfl inX5_hasRoomFor 2 (Nat.le_of_ble_eq_true rfl) (List.mem_of_getElem? (i := 2) rfl) rfl dX5_hasRoomFor_6 ?_
  refine lv_isub (pc := 9) hx hb dX5_hasRoomFor_9 ?_
  refine lv_icmp_gt (pc := 10) (tgt := 17) hx hb dX5_hasRoomFor_10 (by decide) (fun c_1 : (f1 - f2) < p0 => ?_) (fun c_1 : ¬ (f1 - f2) < p0 => ?_)
  · refine lv_iconst (pc := 17) (v := 0) hx hb dX5_hasRoomFor_17 (by decide) ?_
    exact S_retz (pc := 18) (v := 0) C (by rw [ve_hasRoomFor, if_pos c_1]) rfl dX5_hasRoomFor_18
  · refine lv_iconst (pc := 13) (v := 1) hx hb dX5_hasRoomFor_13 (by decide) ?_
    refine lv_goto (pc := 14) (tgt := 18) hx hb dX5_hasRoomFor_14 (by decide) ?_
    exact S_retz (pc := 18) (v := 1) C (by rw [ve_hasRoomFor, if_neg c_1]) rfl dX5_hasRoomFor_18
abbrev ve_dropsOf (f0 : Int32) (f1 : Int32) (f2 : Int32) (f3 : Int32) (p0 : Int32) : Int32 := g_part f3 p0 f2
abbrev rX5_dropsOf : Room := { frames := 1, cells := 0, slots := 0, locals := 22 }
theorem fnX5_dropsOf : Fn yX5_dropsOf wsX5_dropsOf cX5_dropsOf 2 (some .int) 1 rX5_dropsOf 0 0 := ⟨⟨_, rfl⟩, rfl, rfl, by decide +kernel⟩
theorem inX5_dropsOf : ∀ w ∈ wsX50, w ∈ wsX5_dropsOf := fun w h => List.mem_cons_of_mem _ (List.mem_append_right _ h)
set_option maxHeartbeats 4000000 in
set_option maxRecDepth 100000 in
theorem kX5_dropsOf (l : Launch) (D : va_G) (a : Nat) (f0 : Int32) (f1 : Int32) (f2 : Int32) (f3 : Int32) (p0 : Int32) : N_R l yX5_dropsOf wsX5_dropsOf rX5_dropsOf D [] [(a, .inr (6, [.int f0, .int f1, .int f2, .int f3]))] (.ref a :: [.int p0]) (ve_dropsOf f0 f1 f2 f3 p0) := by
  refine N_bodyR (n := 1) RX5 rfl (by decide) fnX5_dropsOf (Nat.le_of_ble_eq_true rfl) ?_
  intro p e s m args below meth c C hN K A P ls hl
  have hx := C.1
  have hb := C.2.1
  have hml := C.2.2.1
  have hown := C.2.2.2.1
  have hts := C.2.2.2.2.1
  have hl : lv_has ls 2 [(0, .ref a), (1, .int p0)] := hl
  refine lv_aload_n (pc := 0) hx hb dX5_dropsOf_0 rfl (lv_at hl 0 rfl) ?_
  refine x_get (pc := 1) (Cn := RX5) (T := TX5) (N := 4) (ci := 6) (fs := [.int f0, .int f1, .int f2, .int f3]) (v := .int f3) C K P 0 rfl rfl inX5_dropsOf 3 (Nat.le_of_ble_eq_true rfl) (List.mem_of_getElem? (i := 1) rfl) rfl dX5_dropsOf_1 ?_
  refine lv_iload_n (pc := 4) hx hb dX5_dropsOf_4 rfl (lv_at hl 1 rfl) ?_
  refine lv_aload_n (pc := 5) hx hb dX5_dropsOf_5 rfl (lv_at hl 0 rfl) ?_
  refine x_get (pc := 6) (Cn := RX5) (T := TX5) (N := 4) (ci := 6) (fs := [.int f0, .int f1, .int f2, .int f3]) (v := .int f2) C K P 0 rfl rfl inX5_dropsOf 2 (Nat.le_of_ble_eq_true rfl) (List.mem_of_getElem? (i := 2) rfl) rfl dX5_dropsOf_6 ?_
  refine S_callN (pc := 9) (As := [.int f3, .int p0, .int f2]) (rest := []) (r := g_part f3 p0 f2) C hl.1 (kX6_part l f3 p0 f2) fnX6_part (hN _ (List.mem_of_getElem? (i := 17) rfl)) ggX5_dropsOf_X6_part (List.mem_of_getElem? (i := 3) rfl) (List.mem_of_getElem? (i := 4) rfl) rfl rfl ⟨Nat.le_of_ble_eq_true rfl, Nat.le_of_ble_eq_true rfl⟩ (Nat.le_of_ble_eq_true rfl) ⟨Nat.le_of_ble_eq_true rfl, Nat.le_of_ble_eq_true rfl⟩ dX5_dropsOf_9 ?_
  exact S_ret (pc := 12) (v := g_part f3 p0 f2) C rfl dX5_dropsOf_12
abbrev ve_takeOut (f0 : Int32) (f1 : Int32) (f2 : Int32) (f3 : Int32) (p0 : Int32) : Int32 := ve_dropsOf f0 f1 f2 f3 p0
abbrev rX5_takeOut : Room := { frames := 2, cells := 0, slots := 0, locals := 43 }
theorem fnX5_takeOut : Fn yX5_takeOut wsX5_takeOut cX5_takeOut 3 (some .int) 1 rX5_takeOut 0 0 := ⟨⟨_, rfl⟩, rfl, rfl, by decide +kernel⟩
theorem inX5_takeOut : ∀ w ∈ wsX50, w ∈ wsX5_takeOut := fun w h => List.mem_cons_of_mem _ (List.mem_append_right _ h)
set_option maxHeartbeats 4000000 in
set_option maxRecDepth 100000 in
theorem kX5_takeOut (l : Launch) (D : va_G) (a : Nat) (f0 : Int32) (f1 : Int32) (f2 : Int32) (f3 : Int32) (p0 : Int32) : N_I l yX5_takeOut wsX5_takeOut rX5_takeOut D a 6 [.int f0, .int f1, .int f2, .int f3] [.int f0, .int f1, .int (f2 - p0), .int (f3 - (ve_dropsOf f0 f1 f2 f3 p0))] [.int p0] (ve_takeOut f0 f1 f2 f3 p0) := by
  refine N_body1 (n := 1) (Qc := fun A => va_Qi (fun x (_ : Unit) => x = (ve_takeOut f0 f1 f2 f3 p0)) (fun _ t => va_P D vwCl [(a, .inr (6, [.int f0, .int f1, .int (f2 - p0), .int (f3 - (ve_dropsOf f0 f1 f2 f3 p0))]))] t.heap) A) RX5 rfl (by decide) fnX5_takeOut (Nat.le_of_ble_eq_true rfl) ?_
  intro p e s m args below meth c C hN K hnm A P ls hl
  have hx := C.1
  have hb := C.2.1
  have hml := C.2.2.1
  have hown := C.2.2.2.1
  have hts := C.2.2.2.2.1
  have hl : lv_has ls 3 [(0, .ref a), (1, .int p0)] := hl
  refine lv_aload_n (pc := 0) hx hb dX5_takeOut_0 rfl (lv_at hl 0 rfl) ?_
  refine lv_iload_n (pc := 1) hx hb dX5_takeOut_1 rfl (lv_at hl 1 rfl) ?_
  refine N_callR (pc := 2) (As := [.int p0]) (rest := []) (r := ve_dropsOf f0 f1 f2 f3 p0) (rc := RX5) C hN K.nil hl.1 (P.1.one (k := 0) rfl) (va_D.one trivial) (va_recv K P.1 (ci := 6) (q0 := 0) rfl rfl) (kX5_dropsOf l D a f0 f1 f2 f3 p0) fnX5_dropsOf rfl gX5_takeOut_X5_dropsOf rfl rfl ⟨Nat.le_of_ble_eq_true rfl, Nat.le_of_ble_eq_true rfl⟩ (Nat.le_of_ble_eq_true rfl) ⟨Nat.le_of_ble_eq_true rfl, Nat.le_of_ble_eq_true rfl⟩ dX5_takeOut_2 ?_
  refine lv_istore_n (pc := 5) (lv' := [(2, .int (ve_dropsOf f0 f1 f2 f3 p0)), (0, .ref a), (1, .int p0)]) hx hb dX5_takeOut_5 rfl hl (by decide) rfl (fun ls hl => ?_)
  refine lv_aload_n (pc := 6) hx hb dX5_takeOut_6 rfl (lv_at hl 1 rfl) ?_
  refine lv_dup (pc := 7) hx hb dX5_takeOut_7 rfl ?_
  refine x_get (pc := 8) (Cn := RX5) (T := TX5) (N := 4) (ci := 6) (fs := [.int f0, .int f1, .int f2, .int f3]) (v := .int f2) C K P 0 rfl rfl inX5_takeOut 2 (Nat.le_of_ble_eq_true rfl) (List.mem_of_getElem? (i := 1) rfl) rfl dX5_takeOut_8 ?_
  refine lv_iload_n (pc := 11) hx hb dX5_takeOut_11 rfl (lv_at hl 2 rfl) ?_
  refine lv_isub (pc := 12) hx hb dX5_takeOut_12 ?_
  refine x_put (pc := 13) (Cn := RX5) (T := TX5) (N := 4) (ci := 6) (fs := [.int f0, .int f1, .int f2, .int f3]) (v := .int (f2 - p0)) C K P 0 rfl rfl inX5_takeOut tyX5_ok nmX5 2 (Nat.le_of_ble_eq_true rfl) (List.mem_of_getElem? (i := 1) rfl) rfl rfl rfl (Nat.le_of_ble_eq_true rfl) dX5_takeOut_13 (fun H locs (P : Hp D A s [(a, .inr (6, [.int f0, .int f1, .int (f2 - p0), .int f3]))] H locs) => ?_)
  refine lv_aload_n (pc := 16) hx hb dX5_takeOut_16 rfl (lv_at hl 1 rfl) ?_
  refine lv_dup (pc := 17) hx hb dX5_takeOut_17 rfl ?_
  refine x_get (pc := 18) (Cn := RX5) (T := TX5) (N := 4) (ci := 6) (fs := [.int f0, .int f1, .int (f2 - p0), .int f3]) (v := .int f3) C K P 0 rfl rfl inX5_takeOut 3 (Nat.le_of_ble_eq_true rfl) (List.mem_of_getElem? (i := 2) rfl) rfl dX5_takeOut_18 ?_
  refine lv_iload_n (pc := 21) hx hb dX5_takeOut_21 rfl (lv_at hl 0 rfl) ?_
  refine lv_isub (pc := 22) hx hb dX5_takeOut_22 ?_
  refine x_put (pc := 23) (Cn := RX5) (T := TX5) (N := 4) (ci := 6) (fs := [.int f0, .int f1, .int (f2 - p0), .int f3]) (v := .int (f3 - (ve_dropsOf f0 f1 f2 f3 p0))) C K P 0 rfl rfl inX5_takeOut tyX5_ok nmX5 3 (Nat.le_of_ble_eq_true rfl) (List.mem_of_getElem? (i := 2) rfl) rfl rfl rfl (Nat.le_of_ble_eq_true rfl) dX5_takeOut_23 (fun H locs (P : Hp D A s [(a, .inr (6, [.int f0, .int f1, .int (f2 - p0), .int (f3 - (ve_dropsOf f0 f1 f2 f3 p0))]))] H locs) => ?_)
  refine lv_iload_n (pc := 26) hx hb dX5_takeOut_26 rfl (lv_at hl 0 rfl) ?_
  exact N_retI (pc := 27) (v := ve_dropsOf f0 f1 f2 f3 p0) C P rfl rfl dX5_takeOut_27
def ve_comeIn_2 (f0 : Int32) (f1 : Int32) (f2 : Int32) (f3 : Int32) (p0 : Int32) (p1 : Int32) : Int32 := f2 + (p0 - (g_part (if p0 < f2 then p0 else f2) (if 0 ≤ ((g_part f3 1 f2) - (g_part p1 1 p0)) then ((g_part f3 1 f2) - (g_part p1 1 p0)) else 0 - ((g_part f3 1 f2) - (g_part p1 1 p0))) 10000))
abbrev rX5_comeIn : Room := { frames := 1, cells := 0, slots := 0, locals := 22 }
theorem fnX5_comeIn : Fn yX5_comeIn wsX5_comeIn cX5_comeIn 5 none 2 rX5_comeIn 0 0 := ⟨⟨_, rfl⟩, rfl, rfl, by decide +kernel⟩
theorem inX5_comeIn : ∀ w ∈ wsX50, w ∈ wsX5_comeIn := fun w h => List.mem_cons_of_mem _ (List.mem_append_right _ h)
set_option maxHeartbeats 4000000 in
set_option maxRecDepth 100000 in
theorem kX5_comeIn (l : Launch) (D : va_G) (a : Nat) (f0 : Int32) (f1 : Int32) (f2 : Int32) (f3 : Int32) (p0 : Int32) (p1 : Int32) : N_V l yX5_comeIn wsX5_comeIn rX5_comeIn D a 6 [.int f0, .int f1, .int f2, .int f3] [.int f0, .int f1, .int (ve_comeIn_2 f0 f1 f2 f3 p0 p1), .int (f3 + p1)] [.int p0, .int p1] := by
  refine N_body1 (n := 2) (Qc := fun A => va_Qv (fun (_ : Unit) => True) (fun _ t => va_P D vwCl [(a, .inr (6, [.int f0, .int f1, .int (ve_comeIn_2 f0 f1 f2 f3 p0 p1), .int (f3 + p1)]))] t.heap) A) RX5 rfl (by decide) fnX5_comeIn (Nat.le_of_ble_eq_true rfl) ?_
  intro p e s m args below meth c C hN K hnm A P ls hl
  have hx := C.1
  have hb := C.2.1
  have hml := C.2.2.1
  have hown := C.2.2.2.1
  have hts := C.2.2.2.2.1
  have hl : lv_has ls 5 [(0, .ref a), (1, .int p0), (2, .int p1)] := hl
  refine lv_aload_n (pc := 0) hx hb dX5_comeIn_0 rfl (lv_at hl 0 rfl) ?_
  refine x_get (pc := 1) (Cn := RX5) (T := TX5) (N := 4) (ci := 6) (fs := [.int f0, .int f1, .int f2, .int f3]) (v := .int f3) C K P 0 rfl rfl inX5_comeIn 3 (Nat.le_of_ble_eq_true rfl) (List.mem_of_getElem? (i := 1) rfl) rfl dX5_comeIn_1 ?_
  refine lv_iconst (pc := 4) (v := 1) hx hb dX5_comeIn_4 (by decide) ?_
  refine lv_aload_n (pc := 5) hx hb dX5_comeIn_5 rfl (lv_at hl 0 rfl) ?_
  refine x_get (pc := 6) (Cn := RX5) (T := TX5) (N := 4) (ci := 6) (fs := [.int f0, .int f1, .int f2, .int f3]) (v := .int f2) C K P 0 rfl rfl inX5_comeIn 2 (Nat.le_of_ble_eq_true rfl) (List.mem_of_getElem? (i := 2) rfl) rfl dX5_comeIn_6 ?_
  refine S_callN (pc := 9) (As := [.int f3, .int 1, .int f2]) (rest := []) (r := g_part f3 1 f2) C hl.1 (kX6_part l f3 1 f2) fnX6_part (hN _ (List.mem_of_getElem? (i := 17) rfl)) ggX5_comeIn_X6_part (List.mem_of_getElem? (i := 10) rfl) (List.mem_of_getElem? (i := 11) rfl) rfl rfl ⟨Nat.le_of_ble_eq_true rfl, Nat.le_of_ble_eq_true rfl⟩ (Nat.le_of_ble_eq_true rfl) ⟨Nat.le_of_ble_eq_true rfl, Nat.le_of_ble_eq_true rfl⟩ dX5_comeIn_9 ?_
  refine lv_iload_n (pc := 12) hx hb dX5_comeIn_12 rfl (lv_at hl 2 rfl) ?_
  refine lv_iconst (pc := 13) (v := 1) hx hb dX5_comeIn_13 (by decide) ?_
  refine lv_iload_n (pc := 14) hx hb dX5_comeIn_14 rfl (lv_at hl 1 rfl) ?_
  refine S_callN (pc := 15) (As := [.int p1, .int 1, .int p0]) (rest := [.int (g_part f3 1 f2)]) (r := g_part p1 1 p0) C hl.1 (kX6_part l p1 1 p0) fnX6_part (hN _ (List.mem_of_getElem? (i := 17) rfl)) ggX5_comeIn_X6_part (List.mem_of_getElem? (i := 10) rfl) (List.mem_of_getElem? (i := 11) rfl) rfl rfl ⟨Nat.le_of_ble_eq_true rfl, Nat.le_of_ble_eq_true rfl⟩ (Nat.le_of_ble_eq_true rfl) ⟨Nat.le_of_ble_eq_true rfl, Nat.le_of_ble_eq_true rfl⟩ dX5_comeIn_15 ?_
  refine lv_isub (pc := 18) hx hb dX5_comeIn_18 ?_
  refine va_mabs (pc := 19) hx hb (hml.trans hl.1.symm) hown (hts _ (List.mem_of_getElem? (i := 3) rfl)) (hts _ (List.mem_of_getElem? (i := 4) rfl)) (hts _ (List.mem_of_getElem? (i := 5) rfl)) (hts _ (List.mem_of_getElem? (i := 6) rfl)) (Nat.le_of_ble_eq_true rfl) (Nat.le_of_ble_eq_true rfl) (Nat.le_of_ble_eq_true rfl) (Nat.le_of_ble_eq_true rfl) dX5_comeIn_19 ?_
  refine lv_istore_n (pc := 22) (lv' := [(3, .int (if 0 ≤ ((g_part f3 1 f2) - (g_part p1 1 p0)) then ((g_part f3 1 f2) - (g_part p1 1 p0)) else 0 - ((g_part f3 1 f2) - (g_part p1 1 p0)))), (0, .ref a), (1, .int p0), (2, .int p1)]) hx hb dX5_comeIn_22 rfl hl (by decide) rfl (fun ls hl => ?_)
  refine lv_aload_n (pc := 23) hx hb dX5_comeIn_23 rfl (lv_at hl 1 rfl) ?_
  refine x_get (pc := 24) (Cn := RX5) (T := TX5) (N := 4) (ci := 6) (fs := [.int f0, .int f1, .int f2, .int f3]) (v := .int f2) C K P 0 rfl rfl inX5_comeIn 2 (Nat.le_of_ble_eq_true rfl) (List.mem_of_getElem? (i := 2) rfl) rfl dX5_comeIn_24 ?_
  refine lv_iload_n (pc := 27) hx hb dX5_comeIn_27 rfl (lv_at hl 2 rfl) ?_
  refine va_mmin (pc := 28) hx hb (hml.trans hl.1.symm) hown (hts _ (List.mem_of_getElem? (i := 7) rfl)) (hts _ (List.mem_of_getElem? (i := 8) rfl)) (hts _ (List.mem_of_getElem? (i := 5) rfl)) (hts _ (List.mem_of_getElem? (i := 9) rfl)) (Nat.le_of_ble_eq_true rfl) (Nat.le_of_ble_eq_true rfl) (Nat.le_of_ble_eq_true rfl) (Nat.le_of_ble_eq_true rfl) dX5_comeIn_28 ?_
  refine lv_iload_n (pc := 31) hx hb dX5_comeIn_31 rfl (lv_at hl 0 rfl) ?_
  refine lv_sipush (pc := 32) (v := 10000) hx hb dX5_comeIn_32 (by decide) ?_
  refine S_callN (pc := 35) (As := [.int (if p0 < f2 then p0 else f2), .int (if 0 ≤ ((g_part f3 1 f2) - (g_part p1 1 p0)) then ((g_part f3 1 f2) - (g_part p1 1 p0)) else 0 - ((g_part f3 1 f2) - (g_part p1 1 p0))), .int 10000]) (rest := []) (r := g_part (if p0 < f2 then p0 else f2) (if 0 ≤ ((g_part f3 1 f2) - (g_part p1 1 p0)) then ((g_part f3 1 f2) - (g_part p1 1 p0)) else 0 - ((g_part f3 1 f2) - (g_part p1 1 p0))) 10000) C hl.1 (kX6_part l (if p0 < f2 then p0 else f2) (if 0 ≤ ((g_part f3 1 f2) - (g_part p1 1 p0)) then ((g_part f3 1 f2) - (g_part p1 1 p0)) else 0 - ((g_part f3 1 f2) - (g_part p1 1 p0))) 10000) fnX6_part (hN _ (List.mem_of_getElem? (i := 17) rfl)) ggX5_comeIn_X6_part (List.mem_of_getElem? (i := 10) rfl) (List.mem_of_getElem? (i := 11) rfl) rfl rfl ⟨Nat.le_of_ble_eq_true rfl, Nat.le_of_ble_eq_true rfl⟩ (Nat.le_of_ble_eq_true rfl) ⟨Nat.le_of_ble_eq_true rfl, Nat.le_of_ble_eq_true rfl⟩ dX5_comeIn_35 ?_
  refine lv_istore (pc := 38) (lv' := [(4, .int (g_part (if p0 < f2 then p0 else f2) (if 0 ≤ ((g_part f3 1 f2) - (g_part p1 1 p0)) then ((g_part f3 1 f2) - (g_part p1 1 p0)) else 0 - ((g_part f3 1 f2) - (g_part p1 1 p0))) 10000)), (3, .int (if 0 ≤ ((g_part f3 1 f2) - (g_part p1 1 p0)) then ((g_part f3 1 f2) - (g_part p1 1 p0)) else 0 - ((g_part f3 1 f2) - (g_part p1 1 p0)))), (0, .ref a), (1, .int p0), (2, .int p1)]) hx hb dX5_comeIn_38 hl (by decide) rfl (fun ls hl => ?_)
  refine lv_aload_n (pc := 40) hx hb dX5_comeIn_40 rfl (lv_at hl 2 rfl) ?_
  refine lv_dup (pc := 41) hx hb dX5_comeIn_41 rfl ?_
  refine x_get (pc := 42) (Cn := RX5) (T := TX5) (N := 4) (ci := 6) (fs := [.int f0, .int f1, .int f2, .int f3]) (v := .int f2) C K P 0 rfl rfl inX5_comeIn 2 (Nat.le_of_ble_eq_true rfl) (List.mem_of_getElem? (i := 2) rfl) rfl dX5_comeIn_42 ?_
  refine lv_iload_n (pc := 45) hx hb dX5_comeIn_45 rfl (lv_at hl 3 rfl) ?_
  refine lv_iload (pc := 46) hx hb dX5_comeIn_46 (lv_at hl 0 rfl) ?_
  refine lv_isub (pc := 48) hx hb dX5_comeIn_48 ?_
  refine lv_iadd (pc := 49) hx hb dX5_comeIn_49 ?_
  refine x_put (pc := 50) (Cn := RX5) (T := TX5) (N := 4) (ci := 6) (fs := [.int f0, .int f1, .int f2, .int f3]) (v := .int (f2 + (p0 - (g_part (if p0 < f2 then p0 else f2) (if 0 ≤ ((g_part f3 1 f2) - (g_part p1 1 p0)) then ((g_part f3 1 f2) - (g_part p1 1 p0)) else 0 - ((g_part f3 1 f2) - (g_part p1 1 p0))) 10000)))) C K P 0 rfl rfl inX5_comeIn tyX5_ok nmX5 2 (Nat.le_of_ble_eq_true rfl) (List.mem_of_getElem? (i := 2) rfl) rfl rfl rfl (Nat.le_of_ble_eq_true rfl) dX5_comeIn_50 (fun H locs (P : Hp D A s [(a, .inr (6, [.int f0, .int f1, .int (f2 + (p0 - (g_part (if p0 < f2 then p0 else f2) (if 0 ≤ ((g_part f3 1 f2) - (g_part p1 1 p0)) then ((g_part f3 1 f2) - (g_part p1 1 p0)) else 0 - ((g_part f3 1 f2) - (g_part p1 1 p0))) 10000))), .int f3]))] H locs) => ?_)
  refine lv_aload_n (pc := 53) hx hb dX5_comeIn_53 rfl (lv_at hl 2 rfl) ?_
  refine lv_dup (pc := 54) hx hb dX5_comeIn_54 rfl ?_
  refine x_get (pc := 55) (Cn := RX5) (T := TX5) (N := 4) (ci := 6) (fs := [.int f0, .int f1, .int (f2 + (p0 - (g_part (if p0 < f2 then p0 else f2) (if 0 ≤ ((g_part f3 1 f2) - (g_part p1 1 p0)) then ((g_part f3 1 f2) - (g_part p1 1 p0)) else 0 - ((g_part f3 1 f2) - (g_part p1 1 p0))) 10000))), .int f3]) (v := .int f3) C K P 0 rfl rfl inX5_comeIn 3 (Nat.le_of_ble_eq_true rfl) (List.mem_of_getElem? (i := 1) rfl) rfl dX5_comeIn_55 ?_
  refine lv_iload_n (pc := 58) hx hb dX5_comeIn_58 rfl (lv_at hl 4 rfl) ?_
  refine lv_iadd (pc := 59) hx hb dX5_comeIn_59 ?_
  refine x_put (pc := 60) (Cn := RX5) (T := TX5) (N := 4) (ci := 6) (fs := [.int f0, .int f1, .int (f2 + (p0 - (g_part (if p0 < f2 then p0 else f2) (if 0 ≤ ((g_part f3 1 f2) - (g_part p1 1 p0)) then ((g_part f3 1 f2) - (g_part p1 1 p0)) else 0 - ((g_part f3 1 f2) - (g_part p1 1 p0))) 10000))), .int f3]) (v := .int (f3 + p1)) C K P 0 rfl rfl inX5_comeIn tyX5_ok nmX5 3 (Nat.le_of_ble_eq_true rfl) (List.mem_of_getElem? (i := 1) rfl) rfl rfl rfl (Nat.le_of_ble_eq_true rfl) dX5_comeIn_60 (fun H locs (P : Hp D A s [(a, .inr (6, [.int f0, .int f1, .int (f2 + (p0 - (g_part (if p0 < f2 then p0 else f2) (if 0 ≤ ((g_part f3 1 f2) - (g_part p1 1 p0)) then ((g_part f3 1 f2) - (g_part p1 1 p0)) else 0 - ((g_part f3 1 f2) - (g_part p1 1 p0))) 10000))), .int (f3 + p1)]))] H locs) => ?_)
  exact N_retV (pc := 63) C P rfl dX5_comeIn_63
abbrev ve_takeShare (f0 : Int32) (f1 : Int32) (f2 : Int32) (f3 : Int32) (p0 : Int32) : Int32 := g_part f3 p0 100000
abbrev rX5_takeShare : Room := { frames := 1, cells := 0, slots := 0, locals := 22 }
theorem fnX5_takeShare : Fn yX5_takeShare wsX5_takeShare cX5_takeShare 3 (some .int) 1 rX5_takeShare 0 0 := ⟨⟨_, rfl⟩, rfl, rfl, by decide +kernel⟩
theorem inX5_takeShare : ∀ w ∈ wsX50, w ∈ wsX5_takeShare := fun w h => List.mem_cons_of_mem _ (List.mem_append_right _ h)
set_option maxHeartbeats 4000000 in
set_option maxRecDepth 100000 in
theorem kX5_takeShare (l : Launch) (D : va_G) (a : Nat) (f0 : Int32) (f1 : Int32) (f2 : Int32) (f3 : Int32) (p0 : Int32) : N_I l yX5_takeShare wsX5_takeShare rX5_takeShare D a 6 [.int f0, .int f1, .int f2, .int f3] [.int f0, .int f1, .int (f2 - (g_part f2 p0 100000)), .int (f3 - (g_part f3 p0 100000))] [.int p0] (ve_takeShare f0 f1 f2 f3 p0) := by
  refine N_body1 (n := 1) (Qc := fun A => va_Qi (fun x (_ : Unit) => x = (ve_takeShare f0 f1 f2 f3 p0)) (fun _ t => va_P D vwCl [(a, .inr (6, [.int f0, .int f1, .int (f2 - (g_part f2 p0 100000)), .int (f3 - (g_part f3 p0 100000))]))] t.heap) A) RX5 rfl (by decide) fnX5_takeShare (Nat.le_of_ble_eq_true rfl) ?_
  intro p e s m args below meth c C hN K hnm A P ls hl
  have hx := C.1
  have hb := C.2.1
  have hml := C.2.2.1
  have hown := C.2.2.2.1
  have hts := C.2.2.2.2.1
  have hl : lv_has ls 3 [(0, .ref a), (1, .int p0)] := hl
  refine lv_aload_n (pc := 0) hx hb dX5_takeShare_0 rfl (lv_at hl 0 rfl) ?_
  refine x_get (pc := 1) (Cn := RX5) (T := TX5) (N := 4) (ci := 6) (fs := [.int f0, .int f1, .int f2, .int f3]) (v := .int f3) C K P 0 rfl rfl inX5_takeShare 3 (Nat.le_of_ble_eq_true rfl) (List.mem_of_getElem? (i := 1) rfl) rfl dX5_takeShare_1 ?_
  refine lv_iload_n (pc := 4) hx hb dX5_takeShare_4 rfl (lv_at hl 1 rfl) ?_
  refine lv_ldc (pc := 5) (v := 100000) hx hb hown (hts _ (List.mem_of_getElem? (i := 2) rfl)) dX5_takeShare_5 ?_
  refine S_callN (pc := 7) (As := [.int f3, .int p0, .int 100000]) (rest := []) (r := g_part f3 p0 100000) C hl.1 (kX6_part l f3 p0 100000) fnX6_part (hN _ (List.mem_of_getElem? (i := 17) rfl)) ggX5_takeShare_X6_part (List.mem_of_getElem? (i := 4) rfl) (List.mem_of_getElem? (i := 5) rfl) rfl rfl ⟨Nat.le_of_ble_eq_true rfl, Nat.le_of_ble_eq_true rfl⟩ (Nat.le_of_ble_eq_true rfl) ⟨Nat.le_of_ble_eq_true rfl, Nat.le_of_ble_eq_true rfl⟩ dX5_takeShare_7 ?_
  refine lv_istore_n (pc := 10) (lv' := [(2, .int (g_part f3 p0 100000)), (0, .ref a), (1, .int p0)]) hx hb dX5_takeShare_10 rfl hl (by decide) rfl (fun ls hl => ?_)
  refine lv_aload_n (pc := 11) hx hb dX5_takeShare_11 rfl (lv_at hl 1 rfl) ?_
  refine lv_dup (pc := 12) hx hb dX5_takeShare_12 rfl ?_
  refine x_get (pc := 13) (Cn := RX5) (T := TX5) (N := 4) (ci := 6) (fs := [.int f0, .int f1, .int f2, .int f3]) (v := .int f3) C K P 0 rfl rfl inX5_takeShare 3 (Nat.le_of_ble_eq_true rfl) (List.mem_of_getElem? (i := 1) rfl) rfl dX5_takeShare_13 ?_
  refine lv_iload_n (pc := 16) hx hb dX5_takeShare_16 rfl (lv_at hl 0 rfl) ?_
  refine lv_isub (pc := 17) hx hb dX5_takeShare_17 ?_
  refine x_put (pc := 18) (Cn := RX5) (T := TX5) (N := 4) (ci := 6) (fs := [.int f0, .int f1, .int f2, .int f3]) (v := .int (f3 - (g_part f3 p0 100000))) C K P 0 rfl rfl inX5_takeShare tyX5_ok nmX5 3 (Nat.le_of_ble_eq_true rfl) (List.mem_of_getElem? (i := 1) rfl) rfl rfl rfl (Nat.le_of_ble_eq_true rfl) dX5_takeShare_18 (fun H locs (P : Hp D A s [(a, .inr (6, [.int f0, .int f1, .int f2, .int (f3 - (g_part f3 p0 100000))]))] H locs) => ?_)
  refine lv_aload_n (pc := 21) hx hb dX5_takeShare_21 rfl (lv_at hl 1 rfl) ?_
  refine lv_dup (pc := 22) hx hb dX5_takeShare_22 rfl ?_
  refine x_get (pc := 23) (Cn := RX5) (T := TX5) (N := 4) (ci := 6) (fs := [.int f0, .int f1, .int f2, .int (f3 - (g_part f3 p0 100000))]) (v := .int f2) C K P 0 rfl rfl inX5_takeShare 2 (Nat.le_of_ble_eq_true rfl) (List.mem_of_getElem? (i := 3) rfl) rfl dX5_takeShare_23 ?_
  refine lv_aload_n (pc := 26) hx hb dX5_takeShare_26 rfl (lv_at hl 1 rfl) ?_
  refine x_get (pc := 27) (Cn := RX5) (T := TX5) (N := 4) (ci := 6) (fs := [.int f0, .int f1, .int f2, .int (f3 - (g_part f3 p0 100000))]) (v := .int f2) C K P 0 rfl rfl inX5_takeShare 2 (Nat.le_of_ble_eq_true rfl) (List.mem_of_getElem? (i := 3) rfl) rfl dX5_takeShare_27 ?_
  refine lv_iload_n (pc := 30) hx hb dX5_takeShare_30 rfl (lv_at hl 2 rfl) ?_
  refine lv_ldc (pc := 31) (v := 100000) hx hb hown (hts _ (List.mem_of_getElem? (i := 2) rfl)) dX5_takeShare_31 ?_
  refine S_callN (pc := 33) (As := [.int f2, .int p0, .int 100000]) (rest := [.int f2, .ref a]) (r := g_part f2 p0 100000) C hl.1 (kX6_part l f2 p0 100000) fnX6_part (hN _ (List.mem_of_getElem? (i := 17) rfl)) ggX5_takeShare_X6_part (List.mem_of_getElem? (i := 4) rfl) (List.mem_of_getElem? (i := 5) rfl) rfl rfl ⟨Nat.le_of_ble_eq_true rfl, Nat.le_of_ble_eq_true rfl⟩ (Nat.le_of_ble_eq_true rfl) ⟨Nat.le_of_ble_eq_true rfl, Nat.le_of_ble_eq_true rfl⟩ dX5_takeShare_33 ?_
  refine lv_isub (pc := 36) hx hb dX5_takeShare_36 ?_
  refine x_put (pc := 37) (Cn := RX5) (T := TX5) (N := 4) (ci := 6) (fs := [.int f0, .int f1, .int f2, .int (f3 - (g_part f3 p0 100000))]) (v := .int (f2 - (g_part f2 p0 100000))) C K P 0 rfl rfl inX5_takeShare tyX5_ok nmX5 2 (Nat.le_of_ble_eq_true rfl) (List.mem_of_getElem? (i := 3) rfl) rfl rfl rfl (Nat.le_of_ble_eq_true rfl) dX5_takeShare_37 (fun H locs (P : Hp D A s [(a, .inr (6, [.int f0, .int f1, .int (f2 - (g_part f2 p0 100000)), .int (f3 - (g_part f3 p0 100000))]))] H locs) => ?_)
  refine lv_iload_n (pc := 40) hx hb dX5_takeShare_40 rfl (lv_at hl 0 rfl) ?_
  exact N_retI (pc := 41) (v := g_part f3 p0 100000) C P rfl rfl dX5_takeShare_41
