theorem g_latS_z {j : Nat} (hj : j ≠ 12) (k : Nat) (S : Sg) : (g_latS k S).1 j = S.1 j := by
  rw [g_latS]
  repeat' split
  all_goals first | rfl | (rw [g_miss]; exact pk_un hj)
theorem g_latS_b {j : Nat} (hj : j ≠ 23) (hj2 : j ≠ 10) (k : Nat) (S : Sg) : (g_latS k S).2 j = S.2 j := by
  rw [g_latS]
  repeat' split
  all_goals first
    | rfl
    | (rw [g_miss]
       show (if j = 10 then _ else (if j = 23 then _ else S.2 j)) = S.2 j
       rw [if_neg hj2, if_neg hj])
theorem g_lat_z {j : Nat} (hj : j ≠ 12) (k : Nat) (S : Sg) : (g_lat k S).1 j = S.1 j := by
  induction k with
  | zero => rfl
  | succ k ih => rw [g_lat_s, g_latS_z hj, ih]
theorem g_lat_b {j : Nat} (hj : j ≠ 23) (hj2 : j ≠ 10) (k : Nat) (S : Sg) : (g_lat k S).2 j = S.2 j := by
  induction k with
  | zero => rfl
  | succ k ih => rw [g_lat_s, g_latS_b hj hj2, ih]
theorem g_shrS_z (k : Nat) (S : Sg) : (g_shrS k S).1 = S.1 := by
  rw [g_shrS]
  split <;> rfl
theorem g_shrS_b {j : Nat} (h1 : j ≠ 5) (h2 : j ≠ 6) (h3 : j ≠ 10) (k : Nat) (S : Sg) : (g_shrS k S).2 j = S.2 j := by
  rw [g_shrS]
  split
  · rfl
  · show (if j = 10 then _ else (if j = 6 then _ else (if j = 5 then _ else S.2 j))) = S.2 j
    rw [if_neg h1, if_neg h2, if_neg h3]
theorem g_shr_z (k : Nat) (S : Sg) : (g_shr k S).1 = S.1 := by
  induction k with
  | zero => rfl
  | succ k ih => rw [g_shr_s, g_shrS_z, ih]
theorem g_shr_b {j : Nat} (h1 : j ≠ 5) (h2 : j ≠ 6) (h3 : j ≠ 10) (k : Nat) (S : Sg) : (g_shr k S).2 j = S.2 j := by
  induction k with
  | zero => rfl
  | succ k ih => rw [g_shr_s, g_shrS_b h1 h2 h3, ih]
theorem Lok_of {η : Eg} {σ τ : Sg} {j : Nat} (h : Lok η σ j) (e : τ.1 (csl j) = σ.1 (csl j)) : Lok η τ j := by unfold Lok at h ⊢; rw [e]; exact h
theorem nb_none {η : Eg} {σ : Sg} (h : σ.1 13 = (-1)) (hb : e_bu η = none) : nb η σ = η := by
  unfold nb
  rw [if_pos h, ← hb]
theorem nb_keep {η : Eg} {σ : Sg} (h : ¬ σ.1 13 = (-1)) : nb η σ = η := by
  unfold nb
  rw [if_neg h]
theorem nb_nbn {η : Eg} {σ : Sg} (h : σ.1 13 = (-1)) : nb η σ = nbn η := by
  unfold nb nbn
  rw [if_pos h]
def g_dtail (S1 : Sg) : Sg := if (((g_takeShares (g_loseLateMovements S1)).1 1) - ((g_takeShares (g_loseLateMovements S1)).1 1) / 30 * 30) = 0 then (zs (g_takeShares (g_loseLateMovements S1)) 12 (ex_growOwed_1 ((g_takeShares (g_loseLateMovements S1)).1 11) ((g_takeShares (g_loseLateMovements S1)).1 12) (1000000 - ((g_takeShares (g_loseLateMovements S1)).1 16)))) else (g_takeShares (g_loseLateMovements S1))
def g_dpre (σ : Sg) : Sg := if (σ.1 13) = (-1) then (if (((σ.1 1) + 1) - ((σ.1 1) + 1) / 100 * 100) = 0 then (zs (zs σ 1 ((σ.1 1) + 1)) 16 0) else (zs σ 1 ((σ.1 1) + 1))) else if (((σ.1 1) + 1) - ((σ.1 1) + 1) / 100 * 100) = 0 then (if (σ.1 13) = ((σ.1 1) + 1) then (zs (zs (zs (zs σ 1 ((σ.1 1) + 1)) 16 0) 11 (σ.1 14)) 13 (-1)) else (zs (zs σ 1 ((σ.1 1) + 1)) 16 0)) else if (σ.1 13) = ((σ.1 1) + 1) then (zs (zs (zs σ 1 ((σ.1 1) + 1)) 11 (σ.1 14)) 13 (-1)) else (zs σ 1 ((σ.1 1) + 1))
def g_beginDay (σ : Sg) : Sg := g_dtail (g_dpre σ)
theorem g_dtail_z {j : Nat} (hj : j ≠ 12) (S : Sg) : (g_dtail S).1 j = S.1 j := by
  have e : (g_takeShares (g_loseLateMovements S)).1 j = S.1 j := by rw [g_takeShares, g_shr_z, g_loseLateMovements, g_lat_z hj]
  rw [g_dtail]
  repeat' split
  all_goals first | exact e | (show upd _ 12 _ j = _; rw [pk_un hj]; exact e)
theorem g_dtail_13 (S : Sg) : (g_dtail S).1 13 = S.1 13 := g_dtail_z (by decide) S
abbrev rX6_beginDay : Room := { frames := 5, cells := 0, slots := 0, locals := 108 }
theorem fnX6_beginDay : Fn yX6_beginDay wsX6_beginDay cX6_beginDay 1 none 0 rX6_beginDay 0 0 := ⟨⟨_, rfl⟩, rfl, rfl, by decide +kernel⟩
theorem inX6_beginDay_X0 : ∀ w ∈ wsX00, w ∈ wsX6_beginDay := fun w h => List.mem_cons_of_mem _ (List.mem_append_left _ (List.mem_append_left _ (List.mem_append_left _ (List.mem_append_left _ (List.mem_append_left _ (List.mem_append_right _ h))))))
theorem inX6_beginDay_X1 : ∀ w ∈ wsX10, w ∈ wsX6_beginDay := fun w h => List.mem_cons_of_mem _ (List.mem_append_left _ (List.mem_append_left _ (List.mem_append_left _ (List.mem_append_left _ (List.mem_append_right _ h)))))
theorem inX6_beginDay_X6 : ∀ w ∈ wsX60, w ∈ wsX6_beginDay := fun w h => List.mem_cons_of_mem _ (List.mem_append_left _ (List.mem_append_left _ (List.mem_append_left _ (List.mem_append_left _ (List.mem_append_left _ (List.mem_append_left _ (List.mem_append_right _ h)))))))
set_option maxHeartbeats 4000000 in
set_option maxRecDepth 100000 in
theorem kX6_beginDay (l : Launch) (D : va_G) (cI cO : ClassId) (t0 : Nat) (η : Eg) (σ : Sg) (hG : Gok t0 η σ) (h0 : Lok η σ 0) (h1 : Lok η σ 1) : G_Mv l yX6_beginDay wsX6_beginDay rX6_beginDay D cI cO η σ (nb η (g_beginDay σ)) (g_beginDay σ) [] := by
  refine G_bodyI (n := 0) (Qc := fun A => va_Qv (fun (_ : Unit) => True) (fun _ t => PicG D A (G_W cI cO (nb η (g_beginDay σ)) (g_beginDay σ)) t) A) rfl fnX6_beginDay (Nat.le_of_ble_eq_true rfl) ?_
  intro p e s m args below meth c C hN K A P ls hl
  have hx := C.1
  have hb := C.2.1
  have hml := C.2.2.1
  have hown := C.2.2.2.1
  have hts := C.2.2.2.2.1
  have hl : lv_has ls 1 [(0, .ref (e_ad η 0))] := hl
  have tail : ∀ (η1 : Eg) (S1 : Sg), nb η (g_beginDay σ) = η1 → g_beginDay σ = g_dtail S1 → Lok η1 S1 0 → Lok η1 S1 1 → ∀ (H : Heap) (locs : List Loc) (P : Hp D A s (G_W cI cO η1 S1) H locs) (ls : Array Slot), lv_has ls 1 [(0, .ref (e_ad η1 0))] → W p l e rX6_beginDay s m args below meth c H locs 0 0 (MQ below (va_Qv (fun (_ : Unit) => True) (fun _ t => PicG D A (G_W cI cO (nb η (g_beginDay σ)) (g_beginDay σ)) t) A) args s 0 0 A) (F0 m 67 ls []) := by
    intro η1 S1 hE hT h7 h8 H locs P ls hl
    have h9 : Lok η1 (g_loseLateMovements S1) 0 := Lok_of h7 (g_lat_z (by decide) _ _)
    refine lv_aload_n (pc := 67) hx hb dX6_beginDay_67 rfl (lv_at hl 0 rfl) ?_
    refine G_callv (pc := 68) (As := []) (rest := []) (η' := η1) (σ' := (g_loseLateMovements S1)) C hN K hl.1 P (kX6_loseLateMovements l D cI cO η1 S1 h8) fnX6_loseLateMovements rfl gX6_beginDay_X6_loseLateMovements rfl rfl ⟨Nat.le_of_ble_eq_true rfl, Nat.le_of_ble_eq_true rfl⟩ (Nat.le_of_ble_eq_true rfl) ⟨Nat.le_of_ble_eq_true rfl, Nat.le_of_ble_eq_true rfl⟩ dX6_beginDay_68 (fun H locs (P : Hp D A s (G_W cI cO η1 (g_loseLateMovements S1)) H locs) => ?_)
    refine lv_aload_n (pc := 71) hx hb dX6_beginDay_71 rfl (lv_at hl 0 rfl) ?_
    refine G_callv (pc := 72) (As := []) (rest := []) (η' := η1) (σ' := (g_takeShares (g_loseLateMovements S1))) C hN K hl.1 P (kX6_takeShares l D cI cO η1 (g_loseLateMovements S1) h9) fnX6_takeShares rfl gX6_beginDay_X6_takeShares rfl rfl ⟨Nat.le_of_ble_eq_true rfl, Nat.le_of_ble_eq_true rfl⟩ (Nat.le_of_ble_eq_true rfl) ⟨Nat.le_of_ble_eq_true rfl, Nat.le_of_ble_eq_true rfl⟩ dX6_beginDay_72 (fun H locs (P : Hp D A s (G_W cI cO η1 (g_takeShares (g_loseLateMovements S1))) H locs) => ?_)
    refine lv_aload_n (pc := 75) hx hb dX6_beginDay_75 rfl (lv_at hl 0 rfl) ?_
    refine x_get (pc := 76) (Cn := RX6) (T := TX6) (N := 12) (ci := 7) (fs := G_fs η1 (g_takeShares (g_loseLateMovements S1))) (v := .int ((g_takeShares (g_loseLateMovements S1)).1 1)) C K P 0 rfl rfl inX6_beginDay_X6 7 (Nat.le_of_ble_eq_true rfl) (List.mem_of_getElem? (i := 1) rfl) rfl dX6_beginDay_76 ?_
    refine lv_bipush (pc := 79) (v := 30) hx hb dX6_beginDay_79 (by decide) ?_
    refine lv_irem (pc := 81) hx hb dX6_beginDay_81 (by decide) ?_
    refine lv_if_ne (pc := 82) (tgt := 92) hx hb dX6_beginDay_82 (by decide) (fun c_1 : ¬ (((g_takeShares (g_loseLateMovements S1)).1 1) - ((g_takeShares (g_loseLateMovements S1)).1 1) / 30 * 30) = 0 => ?_) (fun c_1 : (((g_takeShares (g_loseLateMovements S1)).1 1) - ((g_takeShares (g_loseLateMovements S1)).1 1) / 30 * 30) = 0 => ?_)
    · exact G_retV (pc := 92) C P (by rw [hE, hT, g_dtail, if_neg c_1]) dX6_beginDay_92
    · refine lv_aload_n (pc := 85) hx hb dX6_beginDay_85 rfl (lv_at hl 0 rfl) ?_
      refine x_get (pc := 86) (Cn := RX6) (T := TX6) (N := 12) (ci := 7) (fs := G_fs η1 (g_takeShares (g_loseLateMovements S1))) (v := .ref (e_ad η1 5)) C K P 0 rfl rfl inX6_beginDay_X6 4 (Nat.le_of_ble_eq_true rfl) (List.mem_of_getElem? (i := 2) rfl) rfl dX6_beginDay_86 ?_
      refine N_callV (pc := 89) (As := []) (rest := []) (ci := 2) (k := 5) C hN K hl.1 P rfl rfl (kX1_growOwed l D _ ((g_takeShares (g_loseLateMovements S1)).1 11) ((g_takeShares (g_loseLateMovements S1)).1 12) (1000000 - ((g_takeShares (g_loseLateMovements S1)).1 16))) fnX1_growOwed rfl gX6_beginDay_X1_growOwed rfl rfl ⟨Nat.le_of_ble_eq_true rfl, Nat.le_of_ble_eq_true rfl⟩ (Nat.le_of_ble_eq_true rfl) ⟨Nat.le_of_ble_eq_true rfl, Nat.le_of_ble_eq_true rfl⟩ dX6_beginDay_89 (fun H locs P => ?_)
      have P : Hp D A s (G_W cI cO η1 (zs (g_takeShares (g_loseLateMovements S1)) 12 (ex_growOwed_1 ((g_takeShares (g_loseLateMovements S1)).1 11) ((g_takeShares (g_loseLateMovements S1)).1 12) (1000000 - ((g_takeShares (g_loseLateMovements S1)).1 16))))) H locs := P.eq Ex_o
      exact G_retV (pc := 92) C P (by rw [hE, hT, g_dtail, if_pos c_1]) dX6_beginDay_92
  have hb9 := hG.2.2.2.1
  by_cases c_b : σ.1 13 = (-1)
  · have hbu : e_bu η = none := hb9.mpr c_b
    refine lv_aload_n (pc := 0) hx hb dX6_beginDay_0 rfl (lv_at hl 0 rfl) ?_
    refine lv_dup (pc := 1) hx hb dX6_beginDay_1 rfl ?_
    refine x_get (pc := 2) (Cn := RX6) (T := TX6) (N := 12) (ci := 7) (fs := G_fs η σ) (v := .int (σ.1 1)) C K P 0 rfl rfl inX6_beginDay_X6 7 (Nat.le_of_ble_eq_true rfl) (List.mem_of_getElem? (i := 1) rfl) rfl dX6_beginDay_2 ?_
    refine lv_iconst (pc := 5) (v := 1) hx hb dX6_beginDay_5 (by decide) ?_
    refine lv_iadd (pc := 6) hx hb dX6_beginDay_6 ?_
    refine x_put (pc := 7) (Cn := RX6) (T := TX6) (N := 12) (ci := 7) (fs := G_fs η σ) (v := .int ((σ.1 1) + 1)) C K P 0 rfl rfl inX6_beginDay_X6 tyX6_ok nmX6 7 (Nat.le_of_ble_eq_true rfl) (List.mem_of_getElem? (i := 1) rfl) rfl rfl rfl (Nat.le_of_ble_eq_true rfl) dX6_beginDay_7 (fun H locs (P : Hp D A s (G_W cI cO η (zs σ 1 ((σ.1 1) + 1))) H locs) => ?_)
    refine lv_aload_n (pc := 10) hx hb dX6_beginDay_10 rfl (lv_at hl 0 rfl) ?_
    refine x_get (pc := 11) (Cn := RX6) (T := TX6) (N := 12) (ci := 7) (fs := G_fs η (zs σ 1 ((σ.1 1) + 1))) (v := .int ((σ.1 1) + 1)) C K P 0 rfl rfl inX6_beginDay_X6 7 (Nat.le_of_ble_eq_true rfl) (List.mem_of_getElem? (i := 1) rfl) rfl dX6_beginDay_11 ?_
    refine lv_bipush (pc := 14) (v := 100) hx hb dX6_beginDay_14 (by decide) ?_
    refine lv_irem (pc := 16) hx hb dX6_beginDay_16 (by decide) ?_
    refine lv_if_ne (pc := 17) (tgt := 27) hx hb dX6_beginDay_17 (by decide) (fun c_2 : ¬ (((σ.1 1) + 1) - ((σ.1 1) + 1) / 100 * 100) = 0 => ?_) (fun c_2 : (((σ.1 1) + 1) - ((σ.1 1) + 1) / 100 * 100) = 0 => ?_)
    · refine lv_aload_n (pc := 27) hx hb dX6_beginDay_27 rfl (lv_at hl 0 rfl) ?_
      refine x_get (pc := 28) (Cn := RX6) (T := TX6) (N := 12) (ci := 7) (fs := G_fs η (zs σ 1 ((σ.1 1) + 1))) (v := .null) C K P 0 rfl rfl inX6_beginDay_X6 6 (Nat.le_of_ble_eq_true rfl) (List.mem_of_getElem? (i := 3) rfl) (congrArg (fun b => some (va_rf b)) hbu) dX6_beginDay_28 ?_
      refine lv_ifnullN (pc := 31) (tgt := 67) hx hb dX6_beginDay_31 (by decide) ?_
      have e_p : g_dpre σ = (zs σ 1 ((σ.1 1) + 1)) := by rw [g_dpre, if_pos c_b, if_neg c_2]
      have e_q : g_beginDay σ = g_dtail (zs σ 1 ((σ.1 1) + 1)) := by rw [g_beginDay, e_p]
      exact tail η (zs σ 1 ((σ.1 1) + 1)) (nb_none (by rw [e_q, g_dtail_13]; exact c_b) hbu) e_q h0 h1 _ _ P ls (lv_sub hl [0] rfl)
    · refine lv_aload_n (pc := 20) hx hb dX6_beginDay_20 rfl (lv_at hl 0 rfl) ?_
      refine x_get (pc := 21) (Cn := RX6) (T := TX6) (N := 12) (ci := 7) (fs := G_fs η (zs σ 1 ((σ.1 1) + 1))) (v := .ref (e_ad η 5)) C K P 0 rfl rfl inX6_beginDay_X6 4 (Nat.le_of_ble_eq_true rfl) (List.mem_of_getElem? (i := 2) rfl) rfl dX6_beginDay_21 ?_
      refine N_callV (pc := 24) (As := []) (rest := []) (ci := 2) (k := 5) C hN K hl.1 P rfl rfl (kX1_beginYear l D _ (σ.1 11) (σ.1 12) (1000000 - (σ.1 16))) fnX1_beginYear rfl gX6_beginDay_X1_beginYear rfl rfl ⟨Nat.le_of_ble_eq_true rfl, Nat.le_of_ble_eq_true rfl⟩ (Nat.le_of_ble_eq_true rfl) ⟨Nat.le_of_ble_eq_true rfl, Nat.le_of_ble_eq_true rfl⟩ dX6_beginDay_24 (fun H locs P => ?_)
      have P : Hp D A s (G_W cI cO η (zs (zs σ 1 ((σ.1 1) + 1)) 16 0)) H locs := P.eq Ex_y
      refine lv_aload_n (pc := 27) hx hb dX6_beginDay_27 rfl (lv_at hl 0 rfl) ?_
      refine x_get (pc := 28) (Cn := RX6) (T := TX6) (N := 12) (ci := 7) (fs := G_fs η (zs (zs σ 1 ((σ.1 1) + 1)) 16 0)) (v := .null) C K P 0 rfl rfl inX6_beginDay_X6 6 (Nat.le_of_ble_eq_true rfl) (List.mem_of_getElem? (i := 3) rfl) (congrArg (fun b => some (va_rf b)) hbu) dX6_beginDay_28 ?_
      refine lv_ifnullN (pc := 31) (tgt := 67) hx hb dX6_beginDay_31 (by decide) ?_
      have e_p : g_dpre σ = (zs (zs σ 1 ((σ.1 1) + 1)) 16 0) := by rw [g_dpre, if_pos c_b, if_pos c_2]
      have e_q : g_beginDay σ = g_dtail (zs (zs σ 1 ((σ.1 1) + 1)) 16 0) := by rw [g_beginDay, e_p]
      exact tail η (zs (zs σ 1 ((σ.1 1) + 1)) 16 0) (nb_none (by rw [e_q, g_dtail_13]; exact c_b) hbu) e_q h0 h1 _ _ P ls (lv_sub hl [0] rfl)
  · obtain ⟨ab, hbu⟩ := Option.ne_none_iff_exists'.mp (fun h => c_b (hb9.mp h))
    refine lv_aload_n (pc := 0) hx hb dX6_beginDay_0 rfl (lv_at hl 0 rfl) ?_
    refine lv_dup (pc := 1) hx hb dX6_beginDay_1 rfl ?_
    refine x_get (pc := 2) (Cn := RX6) (T := TX6) (N := 12) (ci := 7) (fs := G_fs η σ) (v := .int (σ.1 1)) C K P 0 rfl rfl inX6_beginDay_X6 7 (Nat.le_of_ble_eq_true rfl) (List.mem_of_getElem? (i := 1) rfl) rfl dX6_beginDay_2 ?_
    refine lv_iconst (pc := 5) (v := 1) hx hb dX6_beginDay_5 (by decide) ?_
    refine lv_iadd (pc := 6) hx hb dX6_beginDay_6 ?_
    refine x_put (pc := 7) (Cn := RX6) (T := TX6) (N := 12) (ci := 7) (fs := G_fs η σ) (v := .int ((σ.1 1) + 1)) C K P 0 rfl rfl inX6_beginDay_X6 tyX6_ok nmX6 7 (Nat.le_of_ble_eq_true rfl) (List.mem_of_getElem? (i := 1) rfl) rfl rfl rfl (Nat.le_of_ble_eq_true rfl) dX6_beginDay_7 (fun H locs (P : Hp D A s (G_W cI cO η (zs σ 1 ((σ.1 1) + 1))) H locs) => ?_)
    refine lv_aload_n (pc := 10) hx hb dX6_beginDay_10 rfl (lv_at hl 0 rfl) ?_
    refine x_get (pc := 11) (Cn := RX6) (T := TX6) (N := 12) (ci := 7) (fs := G_fs η (zs σ 1 ((σ.1 1) + 1))) (v := .int ((σ.1 1) + 1)) C K P 0 rfl rfl inX6_beginDay_X6 7 (Nat.le_of_ble_eq_true rfl) (List.mem_of_getElem? (i := 1) rfl) rfl dX6_beginDay_11 ?_
    refine lv_bipush (pc := 14) (v := 100) hx hb dX6_beginDay_14 (by decide) ?_
    refine lv_irem (pc := 16) hx hb dX6_beginDay_16 (by decide) ?_
    refine lv_if_ne (pc := 17) (tgt := 27) hx hb dX6_beginDay_17 (by decide) (fun c_3 : ¬ (((σ.1 1) + 1) - ((σ.1 1) + 1) / 100 * 100) = 0 => ?_) (fun c_3 : (((σ.1 1) + 1) - ((σ.1 1) + 1) / 100 * 100) = 0 => ?_)
    · refine lv_aload_n (pc := 27) hx hb dX6_beginDay_27 rfl (lv_at hl 0 rfl) ?_
      refine x_get (pc := 28) (Cn := RX6) (T := TX6) (N := 12) (ci := 7) (fs := G_fs η (zs σ 1 ((σ.1 1) + 1))) (v := .ref ab) C K P 0 rfl rfl inX6_beginDay_X6 6 (Nat.le_of_ble_eq_true rfl) (List.mem_of_getElem? (i := 3) rfl) (congrArg (fun b => some (va_rf b)) hbu) dX6_beginDay_28 ?_
      refine lv_ifnull (pc := 31) hx hb dX6_beginDay_31 ?_
      refine lv_aload_n (pc := 34) hx hb dX6_beginDay_34 rfl (lv_at hl 0 rfl) ?_
      refine x_get (pc := 35) (Cn := RX6) (T := TX6) (N := 12) (ci := 7) (fs := G_fs η (zs σ 1 ((σ.1 1) + 1))) (v := .ref ab) C K P 0 rfl rfl inX6_beginDay_X6 6 (Nat.le_of_ble_eq_true rfl) (List.mem_of_getElem? (i := 3) rfl) (congrArg (fun b => some (va_rf b)) hbu) dX6_beginDay_35 ?_
      refine x_getN (pc := 38) (Cn := RX0) (T := TX0) (N := 3) (ci := 1) (fs := (Bu_fs (zs σ 1 ((σ.1 1) + 1)))) (v := .int (σ.1 13)) C K P (pB cO η) (B_get (cI := cI) (cO := cO) (η := η) (σ := (zs σ 1 ((σ.1 1) + 1))) hbu) rfl inX6_beginDay_X0 0 (Nat.le_of_ble_eq_true rfl) (hN _ (List.mem_of_getElem? (i := 21) rfl)) rfl dX6_beginDay_38 ?_
      refine lv_aload_n (pc := 41) hx hb dX6_beginDay_41 rfl (lv_at hl 0 rfl) ?_
      refine x_get (pc := 42) (Cn := RX6) (T := TX6) (N := 12) (ci := 7) (fs := G_fs η (zs σ 1 ((σ.1 1) + 1))) (v := .int ((σ.1 1) + 1)) C K P 0 rfl rfl inX6_beginDay_X6 7 (Nat.le_of_ble_eq_true rfl) (List.mem_of_getElem? (i := 1) rfl) rfl dX6_beginDay_42 ?_
      refine lv_icmp_ne (pc := 45) (tgt := 67) hx hb dX6_beginDay_45 (by decide) (fun c_4 : ¬ (σ.1 13) = ((σ.1 1) + 1) => ?_) (fun c_4 : (σ.1 13) = ((σ.1 1) + 1) => ?_)
      · have e_p : g_dpre σ = (zs σ 1 ((σ.1 1) + 1)) := by rw [g_dpre, if_neg c_b, if_neg c_3, if_neg c_4]
        have e_q : g_beginDay σ = g_dtail (zs σ 1 ((σ.1 1) + 1)) := by rw [g_beginDay, e_p]
        exact tail η (zs σ 1 ((σ.1 1) + 1)) (nb_keep (by rw [e_q, g_dtail_13]; exact c_b)) e_q h0 h1 _ _ P ls (lv_sub hl [0] rfl)
      · refine lv_aload_n (pc := 48) hx hb dX6_beginDay_48 rfl (lv_at hl 0 rfl) ?_
        refine x_get (pc := 49) (Cn := RX6) (T := TX6) (N := 12) (ci := 7) (fs := G_fs η (zs σ 1 ((σ.1 1) + 1))) (v := .ref (e_ad η 5)) C K P 0 rfl rfl inX6_beginDay_X6 4 (Nat.le_of_ble_eq_true rfl) (List.mem_of_getElem? (i := 2) rfl) rfl dX6_beginDay_49 ?_
        refine lv_aload_n (pc := 52) hx hb dX6_beginDay_52 rfl (lv_at hl 0 rfl) ?_
        refine x_get (pc := 53) (Cn := RX6) (T := TX6) (N := 12) (ci := 7) (fs := G_fs η (zs σ 1 ((σ.1 1) + 1))) (v := .ref ab) C K P 0 rfl rfl inX6_beginDay_X6 6 (Nat.le_of_ble_eq_true rfl) (List.mem_of_getElem? (i := 3) rfl) (congrArg (fun b => some (va_rf b)) hbu) dX6_beginDay_53 ?_
        refine x_getN (pc := 56) (Cn := RX0) (T := TX0) (N := 3) (ci := 1) (fs := (Bu_fs (zs σ 1 ((σ.1 1) + 1)))) (v := .int (σ.1 14)) C K P (pB cO η) (B_get (cI := cI) (cO := cO) (η := η) (σ := (zs σ 1 ((σ.1 1) + 1))) hbu) rfl inX6_beginDay_X0 1 (Nat.le_of_ble_eq_true rfl) (hN _ (List.mem_of_getElem? (i := 22) rfl)) rfl dX6_beginDay_56 ?_
        refine x_putN (pc := 59) (Cn := RX1) (T := TX1) (N := 3) (ci := 2) (fs := (Ex_fs (zs σ 1 ((σ.1 1) + 1)))) (v := .int (σ.1 14)) C K P 5 rfl rfl inX6_beginDay_X1 tyX1_ok nmX1 0 (Nat.le_of_ble_eq_true rfl) (hN _ (List.mem_of_getElem? (i := 1) rfl)) rfl rfl rfl (Nat.le_of_ble_eq_true rfl) dX6_beginDay_59 (fun H locs P => ?_)
        have P : Hp D A s (G_W cI cO η (zs (zs σ 1 ((σ.1 1) + 1)) 11 (σ.1 14))) H locs := P.eq Ex_s0
        refine lv_aload_n (pc := 62) hx hb dX6_beginDay_62 rfl (lv_at hl 0 rfl) ?_
        refine lv_null (pc := 63) hx hb dX6_beginDay_63 ?_
        refine x_put (pc := 64) (Cn := RX6) (T := TX6) (N := 12) (ci := 7) (fs := G_fs η (zs (zs σ 1 ((σ.1 1) + 1)) 11 (σ.1 14))) (v := .null) C K P 0 rfl rfl inX6_beginDay_X6 tyX6_ok nmX6 6 (Nat.le_of_ble_eq_true rfl) (List.mem_of_getElem? (i := 3) rfl) rfl rfl rfl (Nat.le_of_ble_eq_true rfl) dX6_beginDay_64 (fun H locs P => ?_)
        have P : Hp D A s (G_W cI cO (nbn η) (zs (zs (zs σ 1 ((σ.1 1) + 1)) 11 (σ.1 14)) 13 (-1))) H locs := coming_null P
        have e_p : g_dpre σ = (zs (zs (zs σ 1 ((σ.1 1) + 1)) 11 (σ.1 14)) 13 (-1)) := by rw [g_dpre, if_neg c_b, if_neg c_3, if_pos c_4]
        have e_q : g_beginDay σ = g_dtail (zs (zs (zs σ 1 ((σ.1 1) + 1)) 11 (σ.1 14)) 13 (-1)) := by rw [g_beginDay, e_p]
        exact tail (nbn η) (zs (zs (zs σ 1 ((σ.1 1) + 1)) 11 (σ.1 14)) 13 (-1)) (nb_nbn (by rw [e_q, g_dtail_13]; exact rfl)) e_q h0 h1 _ _ P ls (lv_sub hl [0] rfl)
    · refine lv_aload_n (pc := 20) hx hb dX6_beginDay_20 rfl (lv_at hl 0 rfl) ?_
      refine x_get (pc := 21) (Cn := RX6) (T := TX6) (N := 12) (ci := 7) (fs := G_fs η (zs σ 1 ((σ.1 1) + 1))) (v := .ref (e_ad η 5)) C K P 0 rfl rfl inX6_beginDay_X6 4 (Nat.le_of_ble_eq_true rfl) (List.mem_of_getElem? (i := 2) rfl) rfl dX6_beginDay_21 ?_
      refine N_callV (pc := 24) (As := []) (rest := []) (ci := 2) (k := 5) C hN K hl.1 P rfl rfl (kX1_beginYear l D _ (σ.1 11) (σ.1 12) (1000000 - (σ.1 16))) fnX1_beginYear rfl gX6_beginDay_X1_beginYear rfl rfl ⟨Nat.le_of_ble_eq_true rfl, Nat.le_of_ble_eq_true rfl⟩ (Nat.le_of_ble_eq_true rfl) ⟨Nat.le_of_ble_eq_true rfl, Nat.le_of_ble_eq_true rfl⟩ dX6_beginDay_24 (fun H locs P => ?_)
      have P : Hp D A s (G_W cI cO η (zs (zs σ 1 ((σ.1 1) + 1)) 16 0)) H locs := P.eq Ex_y
      refine lv_aload_n (pc := 27) hx hb dX6_beginDay_27 rfl (lv_at hl 0 rfl) ?_
      refine x_get (pc := 28) (Cn := RX6) (T := TX6) (N := 12) (ci := 7) (fs := G_fs η (zs (zs σ 1 ((σ.1 1) + 1)) 16 0)) (v := .ref ab) C K P 0 rfl rfl inX6_beginDay_X6 6 (Nat.le_of_ble_eq_true rfl) (List.mem_of_getElem? (i := 3) rfl) (congrArg (fun b => some (va_rf b)) hbu) dX6_beginDay_28 ?_
      refine lv_ifnull (pc := 31) hx hb dX6_beginDay_31 ?_
      refine lv_aload_n (pc := 34) hx hb dX6_beginDay_34 rfl (lv_at hl 0 rfl) ?_
      refine x_get (pc := 35) (Cn := RX6) (T := TX6) (N := 12) (ci := 7) (fs := G_fs η (zs (zs σ 1 ((σ.1 1) + 1)) 16 0)) (v := .ref ab) C K P 0 rfl rfl inX6_beginDay_X6 6 (Nat.le_of_ble_eq_true rfl) (List.mem_of_getElem? (i := 3) rfl) (congrArg (fun b => some (va_rf b)) hbu) dX6_beginDay_35 ?_
      refine x_getN (pc := 38) (Cn := RX0) (T := TX0) (N := 3) (ci := 1) (fs := (Bu_fs (zs (zs σ 1 ((σ.1 1) + 1)) 16 0))) (v := .int (σ.1 13)) C K P (pB cO η) (B_get (cI := cI) (cO := cO) (η := η) (σ := (zs (zs σ 1 ((σ.1 1) + 1)) 16 0)) hbu) rfl inX6_beginDay_X0 0 (Nat.le_of_ble_eq_true rfl) (hN _ (List.mem_of_getElem? (i := 21) rfl)) rfl dX6_beginDay_38 ?_
      refine lv_aload_n (pc := 41) hx hb dX6_beginDay_41 rfl (lv_at hl 0 rfl) ?_
      refine x_get (pc := 42) (Cn := RX6) (T := TX6) (N := 12) (ci := 7) (fs := G_fs η (zs (zs σ 1 ((σ.1 1) + 1)) 16 0)) (v := .int ((σ.1 1) + 1)) C K P 0 rfl rfl inX6_beginDay_X6 7 (Nat.le_of_ble_eq_true rfl) (List.mem_of_getElem? (i := 1) rfl) rfl dX6_beginDay_42 ?_
      refine lv_icmp_ne (pc := 45) (tgt := 67) hx hb dX6_beginDay_45 (by decide) (fun c_5 : ¬ (σ.1 13) = ((σ.1 1) + 1) => ?_) (fun c_5 : (σ.1 13) = ((σ.1 1) + 1) => ?_)
      · have e_p : g_dpre σ = (zs (zs σ 1 ((σ.1 1) + 1)) 16 0) := by rw [g_dpre, if_neg c_b, if_pos c_3, if_neg c_5]
        have e_q : g_beginDay σ = g_dtail (zs (zs σ 1 ((σ.1 1) + 1)) 16 0) := by rw [g_beginDay, e_p]
        exact tail η (zs (zs σ 1 ((σ.1 1) + 1)) 16 0) (nb_keep (by rw [e_q, g_dtail_13]; exact c_b)) e_q h0 h1 _ _ P ls (lv_sub hl [0] rfl)
      · refine lv_aload_n (pc := 48) hx hb dX6_beginDay_48 rfl (lv_at hl 0 rfl) ?_
        refine x_get (pc := 49) (Cn := RX6) (T := TX6) (N := 12) (ci := 7) (fs := G_fs η (zs (zs σ 1 ((σ.1 1) + 1)) 16 0)) (v := .ref (e_ad η 5)) C K P 0 rfl rfl inX6_beginDay_X6 4 (Nat.le_of_ble_eq_true rfl) (List.mem_of_getElem? (i := 2) rfl) rfl dX6_beginDay_49 ?_
        refine lv_aload_n (pc := 52) hx hb dX6_beginDay_52 rfl (lv_at hl 0 rfl) ?_
        refine x_get (pc := 53) (Cn := RX6) (T := TX6) (N := 12) (ci := 7) (fs := G_fs η (zs (zs σ 1 ((σ.1 1) + 1)) 16 0)) (v := .ref ab) C K P 0 rfl rfl inX6_beginDay_X6 6 (Nat.le_of_ble_eq_true rfl) (List.mem_of_getElem? (i := 3) rfl) (congrArg (fun b => some (va_rf b)) hbu) dX6_beginDay_53 ?_
        refine x_getN (pc := 56) (Cn := RX0) (T := TX0) (N := 3) (ci := 1) (fs := (Bu_fs (zs (zs σ 1 ((σ.1 1) + 1)) 16 0))) (v := .int (σ.1 14)) C K P (pB cO η) (B_get (cI := cI) (cO := cO) (η := η) (σ := (zs (zs σ 1 ((σ.1 1) + 1)) 16 0)) hbu) rfl inX6_beginDay_X0 1 (Nat.le_of_ble_eq_true rfl) (hN _ (List.mem_of_getElem? (i := 22) rfl)) rfl dX6_beginDay_56 ?_
        refine x_putN (pc := 59) (Cn := RX1) (T := TX1) (N := 3) (ci := 2) (fs := (Ex_fs (zs (zs σ 1 ((σ.1 1) + 1)) 16 0))) (v := .int (σ.1 14)) C K P 5 rfl rfl inX6_beginDay_X1 tyX1_ok nmX1 0 (Nat.le_of_ble_eq_true rfl) (hN _ (List.mem_of_getElem? (i := 1) rfl)) rfl rfl rfl (Nat.le_of_ble_eq_true rfl) dX6_beginDay_59 (fun H locs P => ?_)
        have P : Hp D A s (G_W cI cO η (zs (zs (zs σ 1 ((σ.1 1) + 1)) 16 0) 11 (σ.1 14))) H locs := P.eq Ex_s0
        refine lv_aload_n (pc := 62) hx hb dX6_beginDay_62 rfl (lv_at hl 0 rfl) ?_
        refine lv_null (pc := 63) hx hb dX6_beginDay_63 ?_
        refine x_put (pc := 64) (Cn := RX6) (T := TX6) (N := 12) (ci := 7) (fs := G_fs η (zs (zs (zs σ 1 ((σ.1 1) + 1)) 16 0) 11 (σ.1 14))) (v := .null) C K P 0 rfl rfl inX6_beginDay_X6 tyX6_ok nmX6 6 (Nat.le_of_ble_eq_true rfl) (List.mem_of_getElem? (i := 3) rfl) rfl rfl rfl (Nat.le_of_ble_eq_true rfl) dX6_beginDay_64 (fun H locs P => ?_)
        have P : Hp D A s (G_W cI cO (nbn η) (zs (zs (zs (zs σ 1 ((σ.1 1) + 1)) 16 0) 11 (σ.1 14)) 13 (-1))) H locs := coming_null P
        have e_p : g_dpre σ = (zs (zs (zs (zs σ 1 ((σ.1 1) + 1)) 16 0) 11 (σ.1 14)) 13 (-1)) := by rw [g_dpre, if_neg c_b, if_pos c_3, if_pos c_5]
        have e_q : g_beginDay σ = g_dtail (zs (zs (zs (zs σ 1 ((σ.1 1) + 1)) 16 0) 11 (σ.1 14)) 13 (-1)) := by rw [g_beginDay, e_p]
        exact tail (nbn η) (zs (zs (zs (zs σ 1 ((σ.1 1) + 1)) 16 0) 11 (σ.1 14)) 13 (-1)) (nb_nbn (by rw [e_q, g_dtail_13]; exact rfl)) e_q h0 h1 _ _ P ls (lv_sub hl [0] rfl)
