theorem va_D.nodup {A : Nat → Prop} {ws : va_W} (h : va_D A ws) : (ws.map Prod.fst).Nodup := by
  unfold List.Nodup
  rw [List.pairwise_iff_getElem]
  intro i j hi hj hij e
  rw [List.length_map] at hi hj
  rw [List.getElem_map, List.getElem_map] at e
  exact absurd (h.1 i j _ _ (List.getElem?_eq_getElem hi) (List.getElem?_eq_getElem hj) e) (by omega)
theorem va_D.of_nodup {A : Nat → Prop} {ws : va_W} (h : (ws.map Prod.fst).Nodup) (hA : ∀ q ∈ ws, A q.1) : va_D A ws := by
  refine ⟨fun i j p q hi hj e => ?_, fun k q hk => hA q (List.mem_of_getElem? hk)⟩
  unfold List.Nodup at h
  rw [List.pairwise_iff_getElem] at h
  obtain ⟨hi2, e1⟩ := List.getElem?_eq_some_iff.mp hi
  obtain ⟨hj2, e2⟩ := List.getElem?_eq_some_iff.mp hj
  rcases Nat.lt_trichotomy i j with q2 | q2 | q2
  · exact absurd (by rw [List.getElem_map, List.getElem_map, e1, e2]; exact e) (h i j (by rw [List.length_map]; exact hi2) (by rw [List.length_map]; exact hj2) q2)
  · exact q2
  · exact absurd (by rw [List.getElem_map, List.getElem_map, e1, e2]; exact e.symm) (h j i (by rw [List.length_map]; exact hj2) (by rw [List.length_map]; exact hi2) q2)
theorem Hp.sub {D : va_G} {A : Nat → Prop} {s : State} {ws ws' : va_W} {H : Heap} {locs : List Loc} (P : Hp D A s ws H locs) (h : ws'.Sublist ws) : Hp D A s ws' H locs :=
  ⟨P.1.mem (fun q hq => h.subset hq), va_D.of_nodup (P.2.1.nodup.sublist (h.map Prod.fst)) (fun q hq => by
    obtain ⟨k, hk⟩ := List.mem_iff_getElem?.mp (h.subset hq)
    exact P.2.1.2 k q hk), P.2.2⟩
theorem Hp.perm {D : va_G} {A : Nat → Prop} {s : State} {ws ws' : va_W} {H : Heap} {locs : List Loc} (P : Hp D A s ws H locs) (h : ws'.Perm ws) : Hp D A s ws' H locs :=
  ⟨P.1.mem (fun q hq => h.subset hq), va_D.of_nodup ((h.map Prod.fst).nodup_iff.mpr P.2.1.nodup) (fun q hq => by
    obtain ⟨k, hk⟩ := List.mem_iff_getElem?.mp (h.subset hq)
    exact P.2.1.2 k q hk), P.2.2⟩
def nbn (η : Eg) : Eg := (η.1, η.2.1, η.2.2.1, η.2.2.2.1, η.2.2.2.2.1, none)
def nb (η : Eg) (σ : Sg) : Eg := (η.1, η.2.1, η.2.2.1, η.2.2.2.1, η.2.2.2.2.1, if σ.1 13 = (-1) then none else e_bu η)
theorem coming_null {D : va_G} {A : Nat → Prop} {s : State} {H : Heap} {locs : List Loc} {cI cO : ClassId} {η : Eg} {σ : Sg} (P : Hp D A s ((G_W cI cO η σ).set 0 (e_ad η 0, .inr (7, (G_fs η σ).set 6 .null))) H locs) : Hp D A s (G_W cI cO (nbn η) (zs σ 13 (-1))) H locs := by
  refine P.sub ?_
  show (G_fix cI (nbn η) (zs σ 13 (-1)) ++ (G_opt cO (nbn η) (zs σ 13 (-1)) ++ (V_cells η σ ++ (Mv_cells η σ ++ L_cells η σ)))).Sublist (G_fix cI (nbn η) (zs σ 13 (-1)) ++ (G_opt cO η σ ++ (V_cells η σ ++ (Mv_cells η σ ++ L_cells η σ))))
  refine (List.Sublist.refl _).append (List.Sublist.append ?_ (List.Sublist.refl _))
  show (d_cell cO η 0 ++ (d_cell cO η 1 ++ (d_cell cO η 2 ++ []))).Sublist (d_cell cO η 0 ++ (d_cell cO η 1 ++ (d_cell cO η 2 ++ b_cell η σ)))
  exact (List.Sublist.refl _).append ((List.Sublist.refl _).append ((List.Sublist.refl _).append (List.nil_sublist _)))
def g_latS (k : Nat) (S1 : Sg) : Sg := if (S1.2 23 k) = 0 then (if (S1.1 1) ≤ (S1.2 27 k) then S1 else (g_miss (bs S1 23 k 2) (S1.2 26 k)).2) else S1
def g_lat : Nat → Sg → Sg
  | 0, S => S
  | n + 1, S => g_latS n (g_lat n S)
theorem g_lat_s (n : Nat) (S : Sg) : g_lat (n + 1) S = g_latS n (g_lat n S) := rfl
def g_loseLateMovements (σ : Sg) : Sg := g_lat (ix (σ.1 22)) σ
abbrev rX6_loseLateMovements : Room := { frames := 4, cells := 0, slots := 0, locals := 86 }
theorem fnX6_loseLateMovements : Fn yX6_loseLateMovements wsX6_loseLateMovements cX6_loseLateMovements 3 none 0 rX6_loseLateMovements 0 0 := ⟨⟨_, rfl⟩, rfl, rfl, by decide +kernel⟩
theorem inX6_loseLateMovements_X4 : ∀ w ∈ wsX40, w ∈ wsX6_loseLateMovements := fun w h => List.mem_cons_of_mem _ (List.mem_append_left _ (List.mem_append_left _ (List.mem_append_left _ (List.mem_append_right _ h))))
theorem inX6_loseLateMovements_X6 : ∀ w ∈ wsX60, w ∈ wsX6_loseLateMovements := fun w h => List.mem_cons_of_mem _ (List.mem_append_left _ (List.mem_append_left _ (List.mem_append_left _ (List.mem_append_left _ (List.mem_append_right _ h)))))
set_option maxHeartbeats 4000000 in
set_option maxRecDepth 100000 in
theorem kX6_loseLateMovements (l : Launch) (D : va_G) (cI cO : ClassId) (η : Eg) (σ : Sg) (h0 : Lok η σ 1) : G_Mv l yX6_loseLateMovements wsX6_loseLateMovements rX6_loseLateMovements D cI cO η σ η (g_loseLateMovements σ) [] := by
  refine G_bodyI (n := 0) (Qc := fun A => va_Qv (fun (_ : Unit) => True) (fun _ t => PicG D A (G_W cI cO η (g_loseLateMovements σ)) t) A) rfl fnX6_loseLateMovements (Nat.le_of_ble_eq_true rfl) ?_
  intro p e s m args below meth c C hN K A P ls hl
  have hx := C.1
  have hb := C.2.1
  have hml := C.2.2.1
  have hown := C.2.2.2.1
  have hts := C.2.2.2.2.1
  have hl : lv_has ls 3 [(0, .ref (e_ad η 0))] := hl
  have loop : ∀ (n k : Nat) (S1 : Sg), S1 = g_lat k σ → Lok η S1 1 → k ≤ ix (S1.1 22) → ix (S1.1 22) < k + n → S1.1 22 = σ.1 22 → ∀ (H : Heap) (locs : List Loc) (P : Hp D A s (G_W cI cO η S1) H locs) (ls : Array Slot), lv_has ls 3 [(1, .int (nI k)), (0, .ref (e_ad η 0))] → W p l e rX6_loseLateMovements s m args below meth c H locs 0 0 (MQ below (va_Qv (fun (_ : Unit) => True) (fun _ t => PicG D A (G_W cI cO η (g_loseLateMovements σ)) t) A) args s 0 0 A) (F0 m 2 ls []) := by
    intro n
    induction n with
    | zero => intro k S1 e1 h9 h1 h2; exact absurd h2 (by omega)
    | succ n ih =>
      intro k S1 e1 h9 h1 h2 hz H locs P ls hl
      have hc : Cnt S1 22 100 := ⟨h9.1, h9.2.1⟩
      refine lv_iload_n (pc := 2) hx hb dX6_loseLateMovements_2 rfl (lv_at hl 0 rfl) ?_
      refine lv_aload_n (pc := 3) hx hb dX6_loseLateMovements_3 rfl (lv_at hl 1 rfl) ?_
      refine x_get (pc := 4) (Cn := RX6) (T := TX6) (N := 12) (ci := 7) (fs := G_fs η S1) (v := .ref (e_ad η 2)) C K P 0 rfl rfl inX6_loseLateMovements_X6 1 (Nat.le_of_ble_eq_true rfl) (List.mem_of_getElem? (i := 1) rfl) rfl dX6_loseLateMovements_4 ?_
      refine G_size (pc := 7) (rest := [.int (nI k)]) C hN K hl.1 P 1 (by decide) gX6_loseLateMovements_Jx4a65c_size_8abf5 ⟨Nat.le_of_ble_eq_true rfl, Nat.le_of_ble_eq_true rfl⟩ (Nat.le_of_ble_eq_true rfl) ⟨Nat.le_of_ble_eq_true rfl, Nat.le_of_ble_eq_true rfl⟩ dX6_loseLateMovements_7 ?_
      refine lv_icmp_ge (pc := 10) (tgt := 63) hx hb dX6_loseLateMovements_10 (by decide) (fun c_1 : (S1.1 22) ≤ (nI k) => ?_) (fun c_1 : ¬ (S1.1 22) ≤ (nI k) => ?_)
      · exact G_retV (pc := 63) C P (by rw [g_loseLateMovements, e1, lp_end hc c_1 h1, hz]) dX6_loseLateMovements_63
      · have hk_2 : k < ix (S1.1 22) := lp_in hc c_1 h1
        refine lv_aload_n (pc := 13) hx hb dX6_loseLateMovements_13 rfl (lv_at hl 1 rfl) ?_
        refine x_get (pc := 14) (Cn := RX6) (T := TX6) (N := 12) (ci := 7) (fs := G_fs η S1) (v := .ref (e_ad η 2)) C K P 0 rfl rfl inX6_loseLateMovements_X6 1 (Nat.le_of_ble_eq_true rfl) (List.mem_of_getElem? (i := 1) rfl) rfl dX6_loseLateMovements_14 ?_
        refine lv_iload_n (pc := 17) hx hb dX6_loseLateMovements_17 rfl (lv_at hl 0 rfl) ?_
        refine G_lgetN (pc := 18) (rest := []) C hN K hl.1 P 1 (by decide) h9 (k := k) hk_2 gX6_loseLateMovements_Jx4a65c_get_915e3 ⟨Nat.le_of_ble_eq_true rfl, Nat.le_of_ble_eq_true rfl⟩ (Nat.le_of_ble_eq_true rfl) ⟨Nat.le_of_ble_eq_true rfl, Nat.le_of_ble_eq_true rfl⟩ dX6_loseLateMovements_18 ?_
        refine G_cast (pc := 21) (ci := 5) (q0 := (pM cO η S1 k)) C K P (Mv_get (cI := cI) (cO := cO) (η := η) (σ := S1) (i := k) hk_2) rfl (List.mem_of_getElem? (i := 2) rfl) dX6_loseLateMovements_21 ?_
        refine lv_astore_n (pc := 24) (lv' := [(2, .ref (e_aa η 1 k)), (1, .int (nI k)), (0, .ref (e_ad η 0))]) hx hb dX6_loseLateMovements_24 rfl hl (by decide) rfl (fun ls hl => ?_)
        refine lv_aload_n (pc := 25) hx hb dX6_loseLateMovements_25 rfl (lv_at hl 0 rfl) ?_
        refine x_getN (pc := 26) (Cn := RX4) (T := TX4) (N := 5) (ci := 5) (fs := (Mv_fs η S1 k)) (v := .int (S1.2 23 k)) C K P (pM cO η S1 k) (Mv_get (cI := cI) (cO := cO) (η := η) (σ := S1) (i := k) hk_2) rfl inX6_loseLateMovements_X4 4 (Nat.le_of_ble_eq_true rfl) (hN _ (List.mem_of_getElem? (i := 28) rfl)) rfl dX6_loseLateMovements_26 ?_
        refine lv_if_ne (pc := 29) (tgt := 57) hx hb dX6_loseLateMovements_29 (by decide) (fun c_3 : ¬ (S1.2 23 k) = 0 => ?_) (fun c_3 : (S1.2 23 k) = 0 => ?_)
        · refine lv_iinc (pc := 57) (v := nI (k + 1)) (lv' := [(1, .int (nI (k + 1))), (2, .ref (e_aa η 1 k)), (0, .ref (e_ad η 0))]) hx hb dX6_loseLateMovements_57 hl (k := 1) rfl ((nI_succ k).symm) (by decide) rfl (fun ls hl => ?_)
          refine lv_goto (pc := 60) (tgt := 2) hx hb dX6_loseLateMovements_60 (by decide) ?_
          have e_l : g_latS k S1 = S1 := by rw [g_latS, if_neg c_3]
          exact ih (k + 1) S1 (by rw [g_lat_s, ← e1, e_l]) h9 hk_2 (by show ix (S1.1 22) < _; omega) hz _ _ P ls (lv_sub hl [0, 2] rfl)
        · refine lv_aload_n (pc := 32) hx hb dX6_loseLateMovements_32 rfl (lv_at hl 2 rfl) ?_
          refine x_get (pc := 33) (Cn := RX6) (T := TX6) (N := 12) (ci := 7) (fs := G_fs η S1) (v := .int (S1.1 1)) C K P 0 rfl rfl inX6_loseLateMovements_X6 7 (Nat.le_of_ble_eq_true rfl) (List.mem_of_getElem? (i := 3) rfl) rfl dX6_loseLateMovements_33 ?_
          refine lv_aload_n (pc := 36) hx hb dX6_loseLateMovements_36 rfl (lv_at hl 0 rfl) ?_
          refine x_getN (pc := 37) (Cn := RX4) (T := TX4) (N := 5) (ci := 5) (fs := (Mv_fs η S1 k)) (v := .int (S1.2 27 k)) C K P (pM cO η S1 k) (Mv_get (cI := cI) (cO := cO) (η := η) (σ := S1) (i := k) hk_2) rfl inX6_loseLateMovements_X4 3 (Nat.le_of_ble_eq_true rfl) (hN _ (List.mem_of_getElem? (i := 27) rfl)) rfl dX6_loseLateMovements_37 ?_
          refine lv_icmp_le (pc := 40) (tgt := 57) hx hb dX6_loseLateMovements_40 (by decide) (fun c_4 : (S1.1 1) ≤ (S1.2 27 k) => ?_) (fun c_4 : ¬ (S1.1 1) ≤ (S1.2 27 k) => ?_)
          · refine lv_iinc (pc := 57) (v := nI (k + 1)) (lv' := [(1, .int (nI (k + 1))), (2, .ref (e_aa η 1 k)), (0, .ref (e_ad η 0))]) hx hb dX6_loseLateMovements_57 hl (k := 1) rfl ((nI_succ k).symm) (by decide) rfl (fun ls hl => ?_)
            refine lv_goto (pc := 60) (tgt := 2) hx hb dX6_loseLateMovements_60 (by decide) ?_
            have e_l : g_latS k S1 = S1 := by rw [g_latS, if_pos c_3, if_pos c_4]
            exact ih (k + 1) S1 (by rw [g_lat_s, ← e1, e_l]) h9 hk_2 (by show ix (S1.1 22) < _; omega) hz _ _ P ls (lv_sub hl [0, 2] rfl)
          · refine lv_aload_n (pc := 43) hx hb dX6_loseLateMovements_43 rfl (lv_at hl 0 rfl) ?_
            refine lv_iconst (pc := 44) (v := 2) hx hb dX6_loseLateMovements_44 (by decide) ?_
            refine x_putN (pc := 45) (Cn := RX4) (T := TX4) (N := 5) (ci := 5) (fs := (Mv_fs η S1 k)) (v := .int 2) C K P (pM cO η S1 k) (Mv_get (cI := cI) (cO := cO) (η := η) (σ := S1) (i := k) hk_2) rfl inX6_loseLateMovements_X4 tyX4_ok nmX4 4 (Nat.le_of_ble_eq_true rfl) (hN _ (List.mem_of_getElem? (i := 28) rfl)) rfl rfl rfl (Nat.le_of_ble_eq_true rfl) dX6_loseLateMovements_45 (fun H locs P => ?_)
            have P : Hp D A s (G_W cI cO η (bs S1 23 k 2)) H locs := P.eq (Mv_set (σ := S1) hk_2 2)
            refine lv_aload_n (pc := 48) hx hb dX6_loseLateMovements_48 rfl (lv_at hl 2 rfl) ?_
            refine lv_aload_n (pc := 49) hx hb dX6_loseLateMovements_49 rfl (lv_at hl 0 rfl) ?_
            refine x_getN (pc := 50) (Cn := RX4) (T := TX4) (N := 5) (ci := 5) (fs := (Mv_fs η (bs S1 23 k 2) k)) (v := .int (S1.2 26 k)) C K P (pM cO η (bs S1 23 k 2) k) (Mv_get (cI := cI) (cO := cO) (η := η) (σ := (bs S1 23 k 2)) (i := k) hk_2) rfl inX6_loseLateMovements_X4 2 (Nat.le_of_ble_eq_true rfl) (hN _ (List.mem_of_getElem? (i := 26) rfl)) rfl dX6_loseLateMovements_50 ?_
            refine G_calli (pc := 53) (As := [.int (S1.2 26 k)]) (rest := []) (v := (g_miss (bs S1 23 k 2) (S1.2 26 k)).1) (η' := η) (σ' := ((g_miss (bs S1 23 k 2) (S1.2 26 k)).2)) C hN K hl.1 P (kX6_miss l D cI cO η (bs S1 23 k 2) (S1.2 26 k)) fnX6_miss rfl gX6_loseLateMovements_X6_miss rfl rfl ⟨Nat.le_of_ble_eq_true rfl, Nat.le_of_ble_eq_true rfl⟩ (Nat.le_of_ble_eq_true rfl) ⟨Nat.le_of_ble_eq_true rfl, Nat.le_of_ble_eq_true rfl⟩ dX6_loseLateMovements_53 (fun H locs (P : Hp D A s (G_W cI cO η ((g_miss (bs S1 23 k 2) (S1.2 26 k)).2)) H locs) => ?_)
            refine lv_pop (pc := 56) hx hb dX6_loseLateMovements_56 rfl ?_
            refine lv_iinc (pc := 57) (v := nI (k + 1)) (lv' := [(1, .int (nI (k + 1))), (2, .ref (e_aa η 1 k)), (0, .ref (e_ad η 0))]) hx hb dX6_loseLateMovements_57 hl (k := 1) rfl ((nI_succ k).symm) (by decide) rfl (fun ls hl => ?_)
            refine lv_goto (pc := 60) (tgt := 2) hx hb dX6_loseLateMovements_60 (by decide) ?_
            have e_l : g_latS k S1 = (g_miss (bs S1 23 k 2) (S1.2 26 k)).2 := by rw [g_latS, if_pos c_3, if_neg c_4]
            exact ih (k + 1) ((g_miss (bs S1 23 k 2) (S1.2 26 k)).2) (by rw [g_lat_s, ← e1, e_l]) h9 hk_2 (by show ix (S1.1 22) < _; omega) hz _ _ P ls (lv_sub hl [0, 2] rfl)
  refine lv_iconst (pc := 0) (v := 0) hx hb dX6_loseLateMovements_0 (by decide) ?_
  refine lv_istore_n (pc := 1) (lv' := [(1, .int 0), (0, .ref (e_ad η 0))]) hx hb dX6_loseLateMovements_1 rfl hl (by decide) rfl (fun ls hl => ?_)
  exact loop (ix (σ.1 22) + 1) 0 σ rfl h0 (Nat.zero_le _) (by omega) rfl _ _ P ls (lv_sub hl [0, 1] rfl)
def g_shrS (k : Nat) (S1 : Sg) : Sg := if (g_isPlace S1 (S1.2 3 k)) = 0 then S1 else (bs (bs (bs S1 5 k ((S1.2 5 k) - (g_part (S1.2 5 k) (S1.2 7 (ix (S1.2 3 k))) 100000))) 6 k ((S1.2 6 k) - (g_part (S1.2 6 k) (S1.2 7 (ix (S1.2 3 k))) 100000))) 10 4 ((S1.2 10 4) + (ve_takeShare (S1.2 3 k) (S1.2 4 k) (S1.2 5 k) (S1.2 6 k) (S1.2 7 (ix (S1.2 3 k))))))
def g_shr : Nat → Sg → Sg
  | 0, S => S
  | n + 1, S => g_shrS n (g_shr n S)
theorem g_shr_s (n : Nat) (S : Sg) : g_shr (n + 1) S = g_shrS n (g_shr n S) := rfl
def g_takeShares (σ : Sg) : Sg := g_shr (ix (σ.1 2)) σ
abbrev rX6_takeShares : Room := { frames := 3, cells := 0, slots := 0, locals := 64 }
theorem fnX6_takeShares : Fn yX6_takeShares wsX6_takeShares cX6_takeShares 3 none 0 rX6_takeShares 0 0 := ⟨⟨_, rfl⟩, rfl, rfl, by decide +kernel⟩
theorem inX6_takeShares_X2 : ∀ w ∈ wsX20, w ∈ wsX6_takeShares := fun w h => List.mem_cons_of_mem _ (List.mem_append_left _ (List.mem_append_right _ h))
theorem inX6_takeShares_X5 : ∀ w ∈ wsX50, w ∈ wsX6_takeShares := fun w h => List.mem_cons_of_mem _ (List.mem_append_left _ (List.mem_append_left _ (List.mem_append_right _ h)))
theorem inX6_takeShares_X6 : ∀ w ∈ wsX60, w ∈ wsX6_takeShares := fun w h => List.mem_cons_of_mem _ (List.mem_append_left _ (List.mem_append_left _ (List.mem_append_left _ (List.mem_append_right _ h))))
set_option maxHeartbeats 4000000 in
set_option maxRecDepth 100000 in
theorem kX6_takeShares (l : Launch) (D : va_G) (cI cO : ClassId) (η : Eg) (σ : Sg) (h0 : Lok η σ 0) : G_Mv l yX6_takeShares wsX6_takeShares rX6_takeShares D cI cO η σ η (g_takeShares σ) [] := by
  refine G_bodyI (n := 0) (Qc := fun A => va_Qv (fun (_ : Unit) => True) (fun _ t => PicG D A (G_W cI cO η (g_takeShares σ)) t) A) rfl fnX6_takeShares (Nat.le_of_ble_eq_true rfl) ?_
  intro p e s m args below meth c C hN K A P ls hl
  have hx := C.1
  have hb := C.2.1
  have hml := C.2.2.1
  have hown := C.2.2.2.1
  have hts := C.2.2.2.2.1
  have hl : lv_has ls 3 [(0, .ref (e_ad η 0))] := hl
  have loop : ∀ (n k : Nat) (S1 : Sg), S1 = g_shr k σ → Lok η S1 0 → k ≤ ix (S1.1 2) → ix (S1.1 2) < k + n → S1.1 2 = σ.1 2 → ∀ (H : Heap) (locs : List Loc) (P : Hp D A s (G_W cI cO η S1) H locs) (ls : Array Slot), lv_has ls 3 [(1, .int (nI k)), (0, .ref (e_ad η 0))] → W p l e rX6_takeShares s m args below meth c H locs 0 0 (MQ below (va_Qv (fun (_ : Unit) => True) (fun _ t => PicG D A (G_W cI cO η (g_takeShares σ)) t) A) args s 0 0 A) (F0 m 2 ls []) := by
    intro n
    induction n with
    | zero => intro k S1 e1 h9 h1 h2; exact absurd h2 (by omega)
    | succ n ih =>
      intro k S1 e1 h9 h1 h2 hz H locs P ls hl
      have hc : Cnt S1 2 100 := ⟨h9.1, h9.2.1⟩
      refine lv_iload_n (pc := 2) hx hb dX6_takeShares_2 rfl (lv_at hl 0 rfl) ?_
      refine lv_aload_n (pc := 3) hx hb dX6_takeShares_3 rfl (lv_at hl 1 rfl) ?_
      refine x_get (pc := 4) (Cn := RX6) (T := TX6) (N := 12) (ci := 7) (fs := G_fs η S1) (v := .ref (e_ad η 1)) C K P 0 rfl rfl inX6_takeShares_X6 0 (Nat.le_of_ble_eq_true rfl) (List.mem_of_getElem? (i := 1) rfl) rfl dX6_takeShares_4 ?_
      refine G_size (pc := 7) (rest := [.int (nI k)]) C hN K hl.1 P 0 (by decide) gX6_takeShares_Jx4a65c_size_8abf5 ⟨Nat.le_of_ble_eq_true rfl, Nat.le_of_ble_eq_true rfl⟩ (Nat.le_of_ble_eq_true rfl) ⟨Nat.le_of_ble_eq_true rfl, Nat.le_of_ble_eq_true rfl⟩ dX6_takeShares_7 ?_
      refine lv_icmp_ge (pc := 10) (tgt := 67) hx hb dX6_takeShares_10 (by decide) (fun c_1 : (S1.1 2) ≤ (nI k) => ?_) (fun c_1 : ¬ (S1.1 2) ≤ (nI k) => ?_)
      · exact G_retV (pc := 67) C P (by rw [g_takeShares, e1, lp_end hc c_1 h1, hz]) dX6_takeShares_67
      · have hk_2 : k < ix (S1.1 2) := lp_in hc c_1 h1
        refine lv_aload_n (pc := 13) hx hb dX6_takeShares_13 rfl (lv_at hl 1 rfl) ?_
        refine x_get (pc := 14) (Cn := RX6) (T := TX6) (N := 12) (ci := 7) (fs := G_fs η S1) (v := .ref (e_ad η 1)) C K P 0 rfl rfl inX6_takeShares_X6 0 (Nat.le_of_ble_eq_true rfl) (List.mem_of_getElem? (i := 1) rfl) rfl dX6_takeShares_14 ?_
        refine lv_iload_n (pc := 17) hx hb dX6_takeShares_17 rfl (lv_at hl 0 rfl) ?_
        refine G_lgetN (pc := 18) (rest := []) C hN K hl.1 P 0 (by decide) h9 (k := k) hk_2 gX6_takeShares_Jx4a65c_get_915e3 ⟨Nat.le_of_ble_eq_true rfl, Nat.le_of_ble_eq_true rfl⟩ (Nat.le_of_ble_eq_true rfl) ⟨Nat.le_of_ble_eq_true rfl, Nat.le_of_ble_eq_true rfl⟩ dX6_takeShares_18 ?_
        refine G_cast (pc := 21) (ci := 6) (q0 := (pV cO η S1 k)) C K P (V_get (cI := cI) (cO := cO) (η := η) (σ := S1) (i := k) hk_2) rfl (List.mem_of_getElem? (i := 2) rfl) dX6_takeShares_21 ?_
        refine lv_astore_n (pc := 24) (lv' := [(2, .ref (e_aa η 0 k)), (1, .int (nI k)), (0, .ref (e_ad η 0))]) hx hb dX6_takeShares_24 rfl hl (by decide) rfl (fun ls hl => ?_)
        refine lv_aload_n (pc := 25) hx hb dX6_takeShares_25 rfl (lv_at hl 2 rfl) ?_
        refine lv_aload_n (pc := 26) hx hb dX6_takeShares_26 rfl (lv_at hl 0 rfl) ?_
        refine x_getN (pc := 27) (Cn := RX5) (T := TX5) (N := 4) (ci := 6) (fs := (V_fs S1 k)) (v := .int (S1.2 3 k)) C K P (pV cO η S1 k) (V_get (cI := cI) (cO := cO) (η := η) (σ := S1) (i := k) hk_2) rfl inX6_takeShares_X5 0 (Nat.le_of_ble_eq_true rfl) (hN _ (List.mem_of_getElem? (i := 13) rfl)) rfl dX6_takeShares_27 ?_
        refine N_callR (pc := 30) (As := [.int (S1.2 3 k)]) (rest := []) (r := g_isPlace S1 (S1.2 3 k)) (rc := RX6) C hN K hl.1 P.1 (P.2.1.weaken (fun _ _ _ _ => trivial)) (va_recv K P.1 (ci := 7) (q0 := 0) rfl rfl) (kX6_isPlace l D cI cO η S1 (S1.2 3 k)) fnX6_isPlace rfl gX6_takeShares_X6_isPlace rfl rfl ⟨Nat.le_of_ble_eq_true rfl, Nat.le_of_ble_eq_true rfl⟩ (Nat.le_of_ble_eq_true rfl) ⟨Nat.le_of_ble_eq_true rfl, Nat.le_of_ble_eq_true rfl⟩ dX6_takeShares_30 ?_
        refine lv_if_eq (pc := 33) (tgt := 61) hx hb dX6_takeShares_33 (by decide) (fun c_3 : (g_isPlace S1 (S1.2 3 k)) = 0 => ?_) (fun c_3 : ¬ (g_isPlace S1 (S1.2 3 k)) = 0 => ?_)
        · refine lv_iinc (pc := 61) (v := nI (k + 1)) (lv' := [(1, .int (nI (k + 1))), (2, .ref (e_aa η 0 k)), (0, .ref (e_ad η 0))]) hx hb dX6_takeShares_61 hl (k := 1) rfl ((nI_succ k).symm) (by decide) rfl (fun ls hl => ?_)
          refine lv_goto (pc := 64) (tgt := 2) hx hb dX6_takeShares_64 (by decide) ?_
          have e_l : g_shrS k S1 = S1 := by rw [g_shrS, if_pos c_3]
          exact ih (k + 1) S1 (by rw [g_shr_s, ← e1, e_l]) h9 hk_2 (by show ix (S1.1 2) < _; omega) hz _ _ P ls (lv_sub hl [0, 2] rfl)
        · have hv_4 : vp_in (S1.2 3 k) 4 := isPl_in c_3
          refine lv_aload_n (pc := 36) hx hb dX6_takeShares_36 rfl (lv_at hl 2 rfl) ?_
          refine x_get (pc := 37) (Cn := RX6) (T := TX6) (N := 12) (ci := 7) (fs := G_fs η S1) (v := .ref (e_ad η 6)) C K P 0 rfl rfl inX6_takeShares_X6 5 (Nat.le_of_ble_eq_true rfl) (List.mem_of_getElem? (i := 3) rfl) rfl dX6_takeShares_37 ?_
          refine lv_dup (pc := 40) hx hb dX6_takeShares_40 rfl ?_
          refine x_getN (pc := 41) (Cn := RX2) (T := TX2) (N := 5) (ci := 3) (fs := (Bk_fs S1)) (v := .int (S1.2 10 4)) C K P 6 rfl rfl inX6_takeShares_X2 1 (Nat.le_of_ble_eq_true rfl) (hN _ (List.mem_of_getElem? (i := 6) rfl)) rfl dX6_takeShares_41 ?_
          refine lv_aload_n (pc := 44) hx hb dX6_takeShares_44 rfl (lv_at hl 0 rfl) ?_
          refine lv_aload_n (pc := 45) hx hb dX6_takeShares_45 rfl (lv_at hl 2 rfl) ?_
          refine x_get (pc := 46) (Cn := RX6) (T := TX6) (N := 12) (ci := 7) (fs := G_fs η S1) (v := .ref (e_ad η 4)) C K P 0 rfl rfl inX6_takeShares_X6 3 (Nat.le_of_ble_eq_true rfl) (List.mem_of_getElem? (i := 4) rfl) rfl dX6_takeShares_46 ?_
          refine lv_aload_n (pc := 49) hx hb dX6_takeShares_49 rfl (lv_at hl 0 rfl) ?_
          refine x_getN (pc := 50) (Cn := RX5) (T := TX5) (N := 4) (ci := 6) (fs := (V_fs S1 k)) (v := .int (S1.2 3 k)) C K P (pV cO η S1 k) (V_get (cI := cI) (cO := cO) (η := η) (σ := S1) (i := k) hk_2) rfl inX6_takeShares_X5 0 (Nat.le_of_ble_eq_true rfl) (hN _ (List.mem_of_getElem? (i := 13) rfl)) rfl dX6_takeShares_50 ?_
          refine va_iald (pc := 53) hx hb K P.1 4 0 (f := S1.2 7) rfl rfl hv_4 dX6_takeShares_53 ?_
          refine N_callI (pc := 54) (As := [.int (S1.2 7 (ix (S1.2 3 k)))]) (rest := [.int (S1.2 10 4), .ref (e_ad η 6)]) (r := ve_takeShare (S1.2 3 k) (S1.2 4 k) (S1.2 5 k) (S1.2 6 k) (S1.2 7 (ix (S1.2 3 k)))) (ci := 6) (k := (pV cO η S1 k)) C hN K hl.1 P (V_get (cI := cI) (cO := cO) (η := η) (σ := S1) (i := k) hk_2) rfl (kX5_takeShare l D _ (S1.2 3 k) (S1.2 4 k) (S1.2 5 k) (S1.2 6 k) (S1.2 7 (ix (S1.2 3 k)))) fnX5_takeShare rfl gX6_takeShares_X5_takeShare rfl rfl ⟨Nat.le_of_ble_eq_true rfl, Nat.le_of_ble_eq_true rfl⟩ (Nat.le_of_ble_eq_true rfl) ⟨Nat.le_of_ble_eq_true rfl, Nat.le_of_ble_eq_true rfl⟩ dX6_takeShares_54 (fun H locs P => ?_)
          have P : Hp D A s (G_W cI cO η (bs (bs S1 5 k ((S1.2 5 k) - (g_part (S1.2 5 k) (S1.2 7 (ix (S1.2 3 k))) 100000))) 6 k ((S1.2 6 k) - (g_part (S1.2 6 k) (S1.2 7 (ix (S1.2 3 k))) 100000)))) H locs := P.eq (V_set (σ := S1) hk_2 ((S1.2 5 k) - (g_part (S1.2 5 k) (S1.2 7 (ix (S1.2 3 k))) 100000)) ((S1.2 6 k) - (g_part (S1.2 6 k) (S1.2 7 (ix (S1.2 3 k))) 100000)))
          refine lv_iadd (pc := 57) hx hb dX6_takeShares_57 ?_
          refine x_putN (pc := 58) (Cn := RX2) (T := TX2) (N := 5) (ci := 3) (fs := (Bk_fs (bs (bs S1 5 k ((S1.2 5 k) - (g_part (S1.2 5 k) (S1.2 7 (ix (S1.2 3 k))) 100000))) 6 k ((S1.2 6 k) - (g_part (S1.2 6 k) (S1.2 7 (ix (S1.2 3 k))) 100000))))) (v := .int ((S1.2 10 4) + (ve_takeShare (S1.2 3 k) (S1.2 4 k) (S1.2 5 k) (S1.2 6 k) (S1.2 7 (ix (S1.2 3 k)))))) C K P 6 rfl rfl inX6_takeShares_X2 tyX2_ok nmX2 1 (Nat.le_of_ble_eq_true rfl) (hN _ (List.mem_of_getElem? (i := 6) rfl)) rfl rfl rfl (Nat.le_of_ble_eq_true rfl) dX6_takeShares_58 (fun H locs P => ?_)
          have P : Hp D A s (G_W cI cO η (bs (bs (bs S1 5 k ((S1.2 5 k) - (g_part (S1.2 5 k) (S1.2 7 (ix (S1.2 3 k))) 100000))) 6 k ((S1.2 6 k) - (g_part (S1.2 6 k) (S1.2 7 (ix (S1.2 3 k))) 100000))) 10 4 ((S1.2 10 4) + (ve_takeShare (S1.2 3 k) (S1.2 4 k) (S1.2 5 k) (S1.2 6 k) (S1.2 7 (ix (S1.2 3 k))))))) H locs := P.eq Bk_s1
          refine lv_iinc (pc := 61) (v := nI (k + 1)) (lv' := [(1, .int (nI (k + 1))), (2, .ref (e_aa η 0 k)), (0, .ref (e_ad η 0))]) hx hb dX6_takeShares_61 hl (k := 1) rfl ((nI_succ k).symm) (by decide) rfl (fun ls hl => ?_)
          refine lv_goto (pc := 64) (tgt := 2) hx hb dX6_takeShares_64 (by decide) ?_
          have e_l : g_shrS k S1 = (bs (bs (bs S1 5 k ((S1.2 5 k) - (g_part (S1.2 5 k) (S1.2 7 (ix (S1.2 3 k))) 100000))) 6 k ((S1.2 6 k) - (g_part (S1.2 6 k) (S1.2 7 (ix (S1.2 3 k))) 100000))) 10 4 ((S1.2 10 4) + (ve_takeShare (S1.2 3 k) (S1.2 4 k) (S1.2 5 k) (S1.2 6 k) (S1.2 7 (ix (S1.2 3 k)))))) := by rw [g_shrS, if_neg c_3]
          exact ih (k + 1) (bs (bs (bs S1 5 k ((S1.2 5 k) - (g_part (S1.2 5 k) (S1.2 7 (ix (S1.2 3 k))) 100000))) 6 k ((S1.2 6 k) - (g_part (S1.2 6 k) (S1.2 7 (ix (S1.2 3 k))) 100000))) 10 4 ((S1.2 10 4) + (ve_takeShare (S1.2 3 k) (S1.2 4 k) (S1.2 5 k) (S1.2 6 k) (S1.2 7 (ix (S1.2 3 k)))))) (by rw [g_shr_s, ← e1, e_l]) h9 hk_2 (by show ix (S1.1 2) < _; omega) hz _ _ P ls (lv_sub hl [0, 2] rfl)
  refine lv_iconst (pc := 0) (v := 0) hx hb dX6_takeShares_0 (by decide) ?_
  refine lv_istore_n (pc := 1) (lv' := [(1, .int 0), (0, .ref (e_ad η 0))]) hx hb dX6_takeShares_1 rfl hl (by decide) rfl (fun ls hl => ?_)
  exact loop (ix (σ.1 2) + 1) 0 σ rfl h0 (Nat.zero_le _) (by omega) rfl _ _ P ls (lv_sub hl [0, 1] rfl)
