def g_dropsInVessels (σ : Sg) : Int32 := sm (σ.2 6) (ix (σ.1 2))
abbrev rX6_dropsInVessels : Room := { frames := 3, cells := 0, slots := 0, locals := 64 }
theorem fnX6_dropsInVessels : Fn yX6_dropsInVessels wsX6_dropsInVessels cX6_dropsInVessels 3 (some .int) 0 rX6_dropsInVessels 0 0 := ⟨⟨_, rfl⟩, rfl, rfl, by decide +kernel⟩
theorem inX6_dropsInVessels_X5 : ∀ w ∈ wsX50, w ∈ wsX6_dropsInVessels := fun w h => List.mem_cons_of_mem _ (List.mem_append_left _ (List.mem_append_right _ h))
theorem inX6_dropsInVessels_X6 : ∀ w ∈ wsX60, w ∈ wsX6_dropsInVessels := fun w h => List.mem_cons_of_mem _ (List.mem_append_left _ (List.mem_append_left _ (List.mem_append_right _ h)))
set_option maxHeartbeats 4000000 in
set_option maxRecDepth 100000 in
theorem kX6_dropsInVessels (l : Launch) (D : va_G) (cI cO : ClassId) (η : Eg) (σ : Sg) (h0 : Lok η σ 0) : N_R l yX6_dropsInVessels wsX6_dropsInVessels rX6_dropsInVessels D (tyG cI cO) (G_W cI cO η σ) (.ref (e_ad η 0) :: []) (g_dropsInVessels σ) := by
  refine N_bodyR (n := 0) RX6 rfl (by decide) fnX6_dropsInVessels (Nat.le_of_ble_eq_true rfl) ?_
  intro p e s m args below meth c C hN K A P ls hl
  have hx := C.1
  have hb := C.2.1
  have hml := C.2.2.1
  have hown := C.2.2.2.1
  have hts := C.2.2.2.2.1
  have hl : lv_has ls 3 [(0, .ref (e_ad η 0))] := hl
  have hc : Cnt σ 2 100 := ⟨h0.1, h0.2.1⟩
  have loop : ∀ (n k : Nat), k ≤ ix (σ.1 2) → ix (σ.1 2) < k + n → ∀ (ls : Array Slot), lv_has ls 3 [(2, .int (nI k)), (1, .int (sm (σ.2 6) k)), (0, .ref (e_ad η 0))] → W p l e rX6_dropsInVessels s m args below meth c s.heap [] 0 0 (MQ below (vp_Si (fun x => x = (g_dropsInVessels σ))) args s 0 0 (fun _ => False)) (F0 m 4 ls []) := by
    intro n
    induction n with
    | zero => intro k h1 h2; exact absurd h2 (by omega)
    | succ n ih =>
      intro k h1 h2 ls hl
      refine lv_iload_n (pc := 4) hx hb dX6_dropsInVessels_4 rfl (lv_at hl 0 rfl) ?_
      refine lv_aload_n (pc := 5) hx hb dX6_dropsInVessels_5 rfl (lv_at hl 2 rfl) ?_
      refine x_get (pc := 6) (Cn := RX6) (T := TX6) (N := 12) (ci := 7) (fs := G_fs η σ) (v := .ref (e_ad η 1)) C K P 0 rfl rfl inX6_dropsInVessels_X6 0 (Nat.le_of_ble_eq_true rfl) (List.mem_of_getElem? (i := 1) rfl) rfl dX6_dropsInVessels_6 ?_
      refine G_size (pc := 9) (rest := [.int (nI k)]) C hN K hl.1 P 0 (by decide) gX6_dropsInVessels_Jx4a65c_size_8abf5 ⟨Nat.le_of_ble_eq_true rfl, Nat.le_of_ble_eq_true rfl⟩ (Nat.le_of_ble_eq_true rfl) ⟨Nat.le_of_ble_eq_true rfl, Nat.le_of_ble_eq_true rfl⟩ dX6_dropsInVessels_9 ?_
      refine lv_icmp_ge (pc := 12) (tgt := 38) hx hb dX6_dropsInVessels_12 (by decide) (fun c_1 : (σ.1 2) ≤ (nI k) => ?_) (fun c_1 : ¬ (σ.1 2) ≤ (nI k) => ?_)
      · have e_k_2 : k = ix (σ.1 2) := lp_end hc c_1 h1
        refine lv_iload_n (pc := 38) hx hb dX6_dropsInVessels_38 rfl (lv_at hl 1 rfl) ?_
        exact S_ret (pc := 39) (v := sm (σ.2 6) k) C (by rw [g_dropsInVessels, e_k_2]) dX6_dropsInVessels_39
      · have hk_3 : k < ix (σ.1 2) := lp_in hc c_1 h1
        refine lv_iload_n (pc := 15) hx hb dX6_dropsInVessels_15 rfl (lv_at hl 1 rfl) ?_
        refine lv_aload_n (pc := 16) hx hb dX6_dropsInVessels_16 rfl (lv_at hl 2 rfl) ?_
        refine x_get (pc := 17) (Cn := RX6) (T := TX6) (N := 12) (ci := 7) (fs := G_fs η σ) (v := .ref (e_ad η 1)) C K P 0 rfl rfl inX6_dropsInVessels_X6 0 (Nat.le_of_ble_eq_true rfl) (List.mem_of_getElem? (i := 1) rfl) rfl dX6_dropsInVessels_17 ?_
        refine lv_iload_n (pc := 20) hx hb dX6_dropsInVessels_20 rfl (lv_at hl 0 rfl) ?_
        refine G_lgetN (pc := 21) (rest := [.int (sm (σ.2 6) k)]) C hN K hl.1 P 0 (by decide) h0 (k := k) hk_3 gX6_dropsInVessels_Jx4a65c_get_915e3 ⟨Nat.le_of_ble_eq_true rfl, Nat.le_of_ble_eq_true rfl⟩ (Nat.le_of_ble_eq_true rfl) ⟨Nat.le_of_ble_eq_true rfl, Nat.le_of_ble_eq_true rfl⟩ dX6_dropsInVessels_21 ?_
        refine G_cast (pc := 24) (ci := 6) (q0 := (pV cO η σ k)) C K P (V_get (cI := cI) (cO := cO) (η := η) (σ := σ) (i := k) hk_3) rfl (List.mem_of_getElem? (i := 2) rfl) dX6_dropsInVessels_24 ?_
        refine x_getN (pc := 27) (Cn := RX5) (T := TX5) (N := 4) (ci := 6) (fs := (V_fs σ k)) (v := .int (σ.2 6 k)) C K P (pV cO η σ k) (V_get (cI := cI) (cO := cO) (η := η) (σ := σ) (i := k) hk_3) rfl inX6_dropsInVessels_X5 3 (Nat.le_of_ble_eq_true rfl) (hN _ (List.mem_of_getElem? (i := 16) rfl)) rfl dX6_dropsInVessels_27 ?_
        refine lv_iadd (pc := 30) hx hb dX6_dropsInVessels_30 ?_
        refine lv_istore_n (pc := 31) (lv' := [(1, .int ((sm (σ.2 6) k) + (σ.2 6 k))), (2, .int (nI k)), (0, .ref (e_ad η 0))]) hx hb dX6_dropsInVessels_31 rfl hl (by decide) rfl (fun ls hl => ?_)
        refine lv_iinc (pc := 32) (v := nI (k + 1)) (lv' := [(2, .int (nI (k + 1))), (1, .int ((sm (σ.2 6) k) + (σ.2 6 k))), (0, .ref (e_ad η 0))]) hx hb dX6_dropsInVessels_32 hl (k := 1) rfl ((nI_succ k).symm) (by decide) rfl (fun ls hl => ?_)
        refine lv_goto (pc := 35) (tgt := 4) hx hb dX6_dropsInVessels_35 (by decide) ?_
        have e_s : sm (σ.2 6) (k + 1) = (sm (σ.2 6) k) + (σ.2 6 k) := rfl
        exact ih (k + 1) hk_3 (by omega) ls (by rw [e_s]; exact lv_sub hl [0, 1, 2] rfl)
  refine lv_iconst (pc := 0) (v := 0) hx hb dX6_dropsInVessels_0 (by decide) ?_
  refine lv_istore_n (pc := 1) (lv' := [(1, .int 0), (0, .ref (e_ad η 0))]) hx hb dX6_dropsInVessels_1 rfl hl (by decide) rfl (fun ls hl => ?_)
  refine lv_iconst (pc := 2) (v := 0) hx hb dX6_dropsInVessels_2 (by decide) ?_
  refine lv_istore_n (pc := 3) (lv' := [(2, .int 0), (1, .int 0), (0, .ref (e_ad η 0))]) hx hb dX6_dropsInVessels_3 rfl hl (by decide) rfl (fun ls hl => ?_)
  exact loop (ix (σ.1 2) + 1) 0 (Nat.zero_le _) (by omega) ls (lv_sub hl [0, 1, 2] rfl)
def g_dropsInLots (σ : Sg) : Int32 := sm (σ.2 19) (ix (σ.1 18))
abbrev rX6_dropsInLots : Room := { frames := 3, cells := 0, slots := 0, locals := 64 }
theorem fnX6_dropsInLots : Fn yX6_dropsInLots wsX6_dropsInLots cX6_dropsInLots 3 (some .int) 0 rX6_dropsInLots 0 0 := ⟨⟨_, rfl⟩, rfl, rfl, by decide +kernel⟩
theorem inX6_dropsInLots_X3 : ∀ w ∈ wsX30, w ∈ wsX6_dropsInLots := fun w h => List.mem_cons_of_mem _ (List.mem_append_left _ (List.mem_append_right _ h))
theorem inX6_dropsInLots_X6 : ∀ w ∈ wsX60, w ∈ wsX6_dropsInLots := fun w h => List.mem_cons_of_mem _ (List.mem_append_left _ (List.mem_append_left _ (List.mem_append_right _ h)))
set_option maxHeartbeats 4000000 in
set_option maxRecDepth 100000 in
theorem kX6_dropsInLots (l : Launch) (D : va_G) (cI cO : ClassId) (η : Eg) (σ : Sg) (h0 : Lok η σ 2) : N_R l yX6_dropsInLots wsX6_dropsInLots rX6_dropsInLots D (tyG cI cO) (G_W cI cO η σ) (.ref (e_ad η 0) :: []) (g_dropsInLots σ) := by
  refine N_bodyR (n := 0) RX6 rfl (by decide) fnX6_dropsInLots (Nat.le_of_ble_eq_true rfl) ?_
  intro p e s m args below meth c C hN K A P ls hl
  have hx := C.1
  have hb := C.2.1
  have hml := C.2.2.1
  have hown := C.2.2.2.1
  have hts := C.2.2.2.2.1
  have hl : lv_has ls 3 [(0, .ref (e_ad η 0))] := hl
  have hc : Cnt σ 18 100 := ⟨h0.1, h0.2.1⟩
  have loop : ∀ (n k : Nat), k ≤ ix (σ.1 18) → ix (σ.1 18) < k + n → ∀ (ls : Array Slot), lv_has ls 3 [(2, .int (nI k)), (1, .int (sm (σ.2 19) k)), (0, .ref (e_ad η 0))] → W p l e rX6_dropsInLots s m args below meth c s.heap [] 0 0 (MQ below (vp_Si (fun x => x = (g_dropsInLots σ))) args s 0 0 (fun _ => False)) (F0 m 4 ls []) := by
    intro n
    induction n with
    | zero => intro k h1 h2; exact absurd h2 (by omega)
    | succ n ih =>
      intro k h1 h2 ls hl
      refine lv_iload_n (pc := 4) hx hb dX6_dropsInLots_4 rfl (lv_at hl 0 rfl) ?_
      refine lv_aload_n (pc := 5) hx hb dX6_dropsInLots_5 rfl (lv_at hl 2 rfl) ?_
      refine x_get (pc := 6) (Cn := RX6) (T := TX6) (N := 12) (ci := 7) (fs := G_fs η σ) (v := .ref (e_ad η 3)) C K P 0 rfl rfl inX6_dropsInLots_X6 2 (Nat.le_of_ble_eq_true rfl) (List.mem_of_getElem? (i := 1) rfl) rfl dX6_dropsInLots_6 ?_
      refine G_size (pc := 9) (rest := [.int (nI k)]) C hN K hl.1 P 2 (by decide) gX6_dropsInLots_Jx4a65c_size_8abf5 ⟨Nat.le_of_ble_eq_true rfl, Nat.le_of_ble_eq_true rfl⟩ (Nat.le_of_ble_eq_true rfl) ⟨Nat.le_of_ble_eq_true rfl, Nat.le_of_ble_eq_true rfl⟩ dX6_dropsInLots_9 ?_
      refine lv_icmp_ge (pc := 12) (tgt := 38) hx hb dX6_dropsInLots_12 (by decide) (fun c_1 : (σ.1 18) ≤ (nI k) => ?_) (fun c_1 : ¬ (σ.1 18) ≤ (nI k) => ?_)
      · have e_k_2 : k = ix (σ.1 18) := lp_end hc c_1 h1
        refine lv_iload_n (pc := 38) hx hb dX6_dropsInLots_38 rfl (lv_at hl 1 rfl) ?_
        exact S_ret (pc := 39) (v := sm (σ.2 19) k) C (by rw [g_dropsInLots, e_k_2]) dX6_dropsInLots_39
      · have hk_3 : k < ix (σ.1 18) := lp_in hc c_1 h1
        refine lv_iload_n (pc := 15) hx hb dX6_dropsInLots_15 rfl (lv_at hl 1 rfl) ?_
        refine lv_aload_n (pc := 16) hx hb dX6_dropsInLots_16 rfl (lv_at hl 2 rfl) ?_
        refine x_get (pc := 17) (Cn := RX6) (T := TX6) (N := 12) (ci := 7) (fs := G_fs η σ) (v := .ref (e_ad η 3)) C K P 0 rfl rfl inX6_dropsInLots_X6 2 (Nat.le_of_ble_eq_true rfl) (List.mem_of_getElem? (i := 1) rfl) rfl dX6_dropsInLots_17 ?_
        refine lv_iload_n (pc := 20) hx hb dX6_dropsInLots_20 rfl (lv_at hl 0 rfl) ?_
        refine G_lgetN (pc := 21) (rest := [.int (sm (σ.2 19) k)]) C hN K hl.1 P 2 (by decide) h0 (k := k) hk_3 gX6_dropsInLots_Jx4a65c_get_915e3 ⟨Nat.le_of_ble_eq_true rfl, Nat.le_of_ble_eq_true rfl⟩ (Nat.le_of_ble_eq_true rfl) ⟨Nat.le_of_ble_eq_true rfl, Nat.le_of_ble_eq_true rfl⟩ dX6_dropsInLots_21 ?_
        refine G_cast (pc := 24) (ci := 4) (q0 := (pL cO η σ k)) C K P (L_get (cI := cI) (cO := cO) (η := η) (σ := σ) (i := k) hk_3) rfl (List.mem_of_getElem? (i := 2) rfl) dX6_dropsInLots_24 ?_
        refine x_getN (pc := 27) (Cn := RX3) (T := TX3) (N := 2) (ci := 4) (fs := (L_fs σ k)) (v := .int (σ.2 19 k)) C K P (pL cO η σ k) (L_get (cI := cI) (cO := cO) (η := η) (σ := σ) (i := k) hk_3) rfl inX6_dropsInLots_X3 0 (Nat.le_of_ble_eq_true rfl) (hN _ (List.mem_of_getElem? (i := 19) rfl)) rfl dX6_dropsInLots_27 ?_
        refine lv_iadd (pc := 30) hx hb dX6_dropsInLots_30 ?_
        refine lv_istore_n (pc := 31) (lv' := [(1, .int ((sm (σ.2 19) k) + (σ.2 19 k))), (2, .int (nI k)), (0, .ref (e_ad η 0))]) hx hb dX6_dropsInLots_31 rfl hl (by decide) rfl (fun ls hl => ?_)
        refine lv_iinc (pc := 32) (v := nI (k + 1)) (lv' := [(2, .int (nI (k + 1))), (1, .int ((sm (σ.2 19) k) + (σ.2 19 k))), (0, .ref (e_ad η 0))]) hx hb dX6_dropsInLots_32 hl (k := 1) rfl ((nI_succ k).symm) (by decide) rfl (fun ls hl => ?_)
        refine lv_goto (pc := 35) (tgt := 4) hx hb dX6_dropsInLots_35 (by decide) ?_
        have e_s : sm (σ.2 19) (k + 1) = (sm (σ.2 19) k) + (σ.2 19 k) := rfl
        exact ih (k + 1) hk_3 (by omega) ls (by rw [e_s]; exact lv_sub hl [0, 1, 2] rfl)
  refine lv_iconst (pc := 0) (v := 0) hx hb dX6_dropsInLots_0 (by decide) ?_
  refine lv_istore_n (pc := 1) (lv' := [(1, .int 0), (0, .ref (e_ad η 0))]) hx hb dX6_dropsInLots_1 rfl hl (by decide) rfl (fun ls hl => ?_)
  refine lv_iconst (pc := 2) (v := 0) hx hb dX6_dropsInLots_2 (by decide) ?_
  refine lv_istore_n (pc := 3) (lv' := [(2, .int 0), (1, .int 0), (0, .ref (e_ad η 0))]) hx hb dX6_dropsInLots_3 rfl hl (by decide) rfl (fun ls hl => ?_)
  exact loop (ix (σ.1 18) + 1) 0 (Nat.zero_le _) (by omega) ls (lv_sub hl [0, 1, 2] rfl)
def g_dropsThatMove (σ : Sg) : Int32 := sm (mvf σ) (ix (σ.1 22))
abbrev rX6_dropsThatMove : Room := { frames := 3, cells := 0, slots := 0, locals := 64 }
theorem fnX6_dropsThatMove : Fn yX6_dropsThatMove wsX6_dropsThatMove cX6_dropsThatMove 4 (some .int) 0 rX6_dropsThatMove 0 0 := ⟨⟨_, rfl⟩, rfl, rfl, by decide +kernel⟩
theorem inX6_dropsThatMove_X4 : ∀ w ∈ wsX40, w ∈ wsX6_dropsThatMove := fun w h => List.mem_cons_of_mem _ (List.mem_append_left _ (List.mem_append_right _ h))
theorem inX6_dropsThatMove_X6 : ∀ w ∈ wsX60, w ∈ wsX6_dropsThatMove := fun w h => List.mem_cons_of_mem _ (List.mem_append_left _ (List.mem_append_left _ (List.mem_append_right _ h)))
set_option maxHeartbeats 4000000 in
set_option maxRecDepth 100000 in
theorem kX6_dropsThatMove (l : Launch) (D : va_G) (cI cO : ClassId) (η : Eg) (σ : Sg) (h0 : Lok η σ 1) : N_R l yX6_dropsThatMove wsX6_dropsThatMove rX6_dropsThatMove D (tyG cI cO) (G_W cI cO η σ) (.ref (e_ad η 0) :: []) (g_dropsThatMove σ) := by
  refine N_bodyR (n := 0) RX6 rfl (by decide) fnX6_dropsThatMove (Nat.le_of_ble_eq_true rfl) ?_
  intro p e s m args below meth c C hN K A P ls hl
  have hx := C.1
  have hb := C.2.1
  have hml := C.2.2.1
  have hown := C.2.2.2.1
  have hts := C.2.2.2.2.1
  have hl : lv_has ls 4 [(0, .ref (e_ad η 0))] := hl
  have hc : Cnt σ 22 100 := ⟨h0.1, h0.2.1⟩
  have loop : ∀ (n k : Nat), k ≤ ix (σ.1 22) → ix (σ.1 22) < k + n → ∀ (ls : Array Slot), lv_has ls 4 [(2, .int (nI k)), (1, .int (sm (mvf σ) k)), (0, .ref (e_ad η 0))] → W p l e rX6_dropsThatMove s m args below meth c s.heap [] 0 0 (MQ below (vp_Si (fun x => x = (g_dropsThatMove σ))) args s 0 0 (fun _ => False)) (F0 m 4 ls []) := by
    intro n
    induction n with
    | zero => intro k h1 h2; exact absurd h2 (by omega)
    | succ n ih =>
      intro k h1 h2 ls hl
      refine lv_iload_n (pc := 4) hx hb dX6_dropsThatMove_4 rfl (lv_at hl 0 rfl) ?_
      refine lv_aload_n (pc := 5) hx hb dX6_dropsThatMove_5 rfl (lv_at hl 2 rfl) ?_
      refine x_get (pc := 6) (Cn := RX6) (T := TX6) (N := 12) (ci := 7) (fs := G_fs η σ) (v := .ref (e_ad η 2)) C K P 0 rfl rfl inX6_dropsThatMove_X6 1 (Nat.le_of_ble_eq_true rfl) (List.mem_of_getElem? (i := 1) rfl) rfl dX6_dropsThatMove_6 ?_
      refine G_size (pc := 9) (rest := [.int (nI k)]) C hN K hl.1 P 1 (by decide) gX6_dropsThatMove_Jx4a65c_size_8abf5 ⟨Nat.le_of_ble_eq_true rfl, Nat.le_of_ble_eq_true rfl⟩ (Nat.le_of_ble_eq_true rfl) ⟨Nat.le_of_ble_eq_true rfl, Nat.le_of_ble_eq_true rfl⟩ dX6_dropsThatMove_9 ?_
      refine lv_icmp_ge (pc := 12) (tgt := 51) hx hb dX6_dropsThatMove_12 (by decide) (fun c_1 : (σ.1 22) ≤ (nI k) => ?_) (fun c_1 : ¬ (σ.1 22) ≤ (nI k) => ?_)
      · have e_k_2 : k = ix (σ.1 22) := lp_end hc c_1 h1
        refine lv_iload_n (pc := 51) hx hb dX6_dropsThatMove_51 rfl (lv_at hl 1 rfl) ?_
        exact S_ret (pc := 52) (v := sm (mvf σ) k) C (by rw [g_dropsThatMove, e_k_2]) dX6_dropsThatMove_52
      · have hk_3 : k < ix (σ.1 22) := lp_in hc c_1 h1
        refine lv_aload_n (pc := 15) hx hb dX6_dropsThatMove_15 rfl (lv_at hl 2 rfl) ?_
        refine x_get (pc := 16) (Cn := RX6) (T := TX6) (N := 12) (ci := 7) (fs := G_fs η σ) (v := .ref (e_ad η 2)) C K P 0 rfl rfl inX6_dropsThatMove_X6 1 (Nat.le_of_ble_eq_true rfl) (List.mem_of_getElem? (i := 1) rfl) rfl dX6_dropsThatMove_16 ?_
        refine lv_iload_n (pc := 19) hx hb dX6_dropsThatMove_19 rfl (lv_at hl 0 rfl) ?_
        refine G_lgetN (pc := 20) (rest := []) C hN K hl.1 P 1 (by decide) h0 (k := k) hk_3 gX6_dropsThatMove_Jx4a65c_get_915e3 ⟨Nat.le_of_ble_eq_true rfl, Nat.le_of_ble_eq_true rfl⟩ (Nat.le_of_ble_eq_true rfl) ⟨Nat.le_of_ble_eq_true rfl, Nat.le_of_ble_eq_true rfl⟩ dX6_dropsThatMove_20 ?_
        refine G_cast (pc := 23) (ci := 5) (q0 := (pM cO η σ k)) C K P (Mv_get (cI := cI) (cO := cO) (η := η) (σ := σ) (i := k) hk_3) rfl (List.mem_of_getElem? (i := 2) rfl) dX6_dropsThatMove_23 ?_
        refine lv_astore_n (pc := 26) (lv' := [(3, .ref (e_aa η 1 k)), (2, .int (nI k)), (1, .int (sm (mvf σ) k)), (0, .ref (e_ad η 0))]) hx hb dX6_dropsThatMove_26 rfl hl (by decide) rfl (fun ls hl => ?_)
        refine lv_iload_n (pc := 27) hx hb dX6_dropsThatMove_27 rfl (lv_at hl 2 rfl) ?_
        refine lv_aload_n (pc := 28) hx hb dX6_dropsThatMove_28 rfl (lv_at hl 0 rfl) ?_
        refine x_getN (pc := 29) (Cn := RX4) (T := TX4) (N := 5) (ci := 5) (fs := (Mv_fs η σ k)) (v := .int (σ.2 23 k)) C K P (pM cO η σ k) (Mv_get (cI := cI) (cO := cO) (η := η) (σ := σ) (i := k) hk_3) rfl inX6_dropsThatMove_X4 4 (Nat.le_of_ble_eq_true rfl) (hN _ (List.mem_of_getElem? (i := 28) rfl)) rfl dX6_dropsThatMove_29 ?_
        refine lv_if_ne (pc := 32) (tgt := 42) hx hb dX6_dropsThatMove_32 (by decide) (fun c_4 : ¬ (σ.2 23 k) = 0 => ?_) (fun c_4 : (σ.2 23 k) = 0 => ?_)
        · refine lv_iconst (pc := 42) (v := 0) hx hb dX6_dropsThatMove_42 (by decide) ?_
          refine lv_iadd (pc := 43) hx hb dX6_dropsThatMove_43 ?_
          refine lv_istore_n (pc := 44) (lv' := [(1, .int ((sm (mvf σ) k) + 0)), (3, .ref (e_aa η 1 k)), (2, .int (nI k)), (0, .ref (e_ad η 0))]) hx hb dX6_dropsThatMove_44 rfl hl (by decide) rfl (fun ls hl => ?_)
          refine lv_iinc (pc := 45) (v := nI (k + 1)) (lv' := [(2, .int (nI (k + 1))), (1, .int ((sm (mvf σ) k) + 0)), (3, .ref (e_aa η 1 k)), (0, .ref (e_ad η 0))]) hx hb dX6_dropsThatMove_45 hl (k := 2) rfl ((nI_succ k).symm) (by decide) rfl (fun ls hl => ?_)
          refine lv_goto (pc := 48) (tgt := 4) hx hb dX6_dropsThatMove_48 (by decide) ?_
          have e_s : sm (mvf σ) (k + 1) = (sm (mvf σ) k) + 0 := by rw [sm_s, mvf, if_neg c_4]
          exact ih (k + 1) hk_3 (by omega) ls (by rw [e_s]; exact lv_sub hl [0, 1, 3] rfl)
        · refine lv_aload_n (pc := 35) hx hb dX6_dropsThatMove_35 rfl (lv_at hl 0 rfl) ?_
          refine x_getN (pc := 36) (Cn := RX4) (T := TX4) (N := 5) (ci := 5) (fs := (Mv_fs η σ k)) (v := .int (σ.2 26 k)) C K P (pM cO η σ k) (Mv_get (cI := cI) (cO := cO) (η := η) (σ := σ) (i := k) hk_3) rfl inX6_dropsThatMove_X4 2 (Nat.le_of_ble_eq_true rfl) (hN _ (List.mem_of_getElem? (i := 26) rfl)) rfl dX6_dropsThatMove_36 ?_
          refine lv_goto (pc := 39) (tgt := 43) hx hb dX6_dropsThatMove_39 (by decide) ?_
          refine lv_iadd (pc := 43) hx hb dX6_dropsThatMove_43 ?_
          refine lv_istore_n (pc := 44) (lv' := [(1, .int ((sm (mvf σ) k) + (σ.2 26 k))), (3, .ref (e_aa η 1 k)), (2, .int (nI k)), (0, .ref (e_ad η 0))]) hx hb dX6_dropsThatMove_44 rfl hl (by decide) rfl (fun ls hl => ?_)
          refine lv_iinc (pc := 45) (v := nI (k + 1)) (lv' := [(2, .int (nI (k + 1))), (1, .int ((sm (mvf σ) k) + (σ.2 26 k))), (3, .ref (e_aa η 1 k)), (0, .ref (e_ad η 0))]) hx hb dX6_dropsThatMove_45 hl (k := 2) rfl ((nI_succ k).symm) (by decide) rfl (fun ls hl => ?_)
          refine lv_goto (pc := 48) (tgt := 4) hx hb dX6_dropsThatMove_48 (by decide) ?_
          have e_s : sm (mvf σ) (k + 1) = (sm (mvf σ) k) + (σ.2 26 k) := by rw [sm_s, mvf, if_pos c_4]
          exact ih (k + 1) hk_3 (by omega) ls (by rw [e_s]; exact lv_sub hl [0, 1, 3] rfl)
  refine lv_iconst (pc := 0) (v := 0) hx hb dX6_dropsThatMove_0 (by decide) ?_
  refine lv_istore_n (pc := 1) (lv' := [(1, .int 0), (0, .ref (e_ad η 0))]) hx hb dX6_dropsThatMove_1 rfl hl (by decide) rfl (fun ls hl => ?_)
  refine lv_iconst (pc := 2) (v := 0) hx hb dX6_dropsThatMove_2 (by decide) ?_
  refine lv_istore_n (pc := 3) (lv' := [(2, .int 0), (1, .int 0), (0, .ref (e_ad η 0))]) hx hb dX6_dropsThatMove_3 rfl hl (by decide) rfl (fun ls hl => ?_)
  exact loop (ix (σ.1 22) + 1) 0 (Nat.zero_le _) (by omega) ls (lv_sub hl [0, 1, 2] rfl)
theorem isPl_in {σ : Sg} {x : Int32} (c : ¬ g_isPlace σ x = 0) : vp_in x 4 := by
  rw [g_isPlace] at c
  by_cases h1 : x < 0
  · rw [if_pos h1] at c; exact absurd rfl c
  · rw [if_neg h1] at c
    by_cases h2 : 4 ≤ x
    · rw [if_pos h2] at c; exact absurd rfl c
    · rw [vp_in_iff]
      rw [Int32.lt_iff_toInt_lt] at h1
      rw [Int32.le_iff_toInt_le] at h2
      have e0 : (0 : Int32).toInt = 0 := by decide
      have e4 : (4 : Int32).toInt = 4 := by decide
      rw [e0] at h1
      rw [e4] at h2
      omega
def g_shares (σ : Sg) (p0 : Int32) (p1 : Int32) : Int32 × Int32 × Sg := if (g_isPlace σ p0) = 0 then (1, 0, σ) else if (g_isWithin p1 0 500) = 0 then (2, 0, σ) else (0, σ.2 7 (ix p0), (bs σ 7 (ix p0) p1))
abbrev rX6_shares : Room := { frames := 6, cells := 1, slots := 6, locals := 90 }
theorem fnX6_shares : Fn yX6_shares wsX6_shares cX6_shares 4 (some .int) 2 rX6_shares 1 6 := ⟨⟨_, rfl⟩, rfl, rfl, by decide +kernel⟩
theorem inX6_shares_X6 : ∀ w ∈ wsX60, w ∈ wsX6_shares := fun w h => List.mem_cons_of_mem _ (List.mem_append_left _ (List.mem_append_left _ (List.mem_append_right _ h)))
set_option maxHeartbeats 4000000 in
set_option maxRecDepth 100000 in
theorem kX6_shares (l : Launch) (hl9 : l.stackTraces = false) (D : va_G) (cI cO : ClassId) (t0 : Nat) (η : Eg) (σ : Sg) (p0 : Int32) (p1 : Int32) (hG : Gok t0 η σ) : G_X l yX6_shares wsX6_shares rX6_shares D cI cO t0 η σ [.int p0, .int p1] (fun A => Q_i D cI cO η (g_shares σ p0 p1) A) ((g_shares σ p0 p1).1) 1 6 := by
  refine G_bodyX (n := 2) rfl fnX6_shares (Nat.le_of_ble_eq_true rfl) ?_
  intro p e s m args below meth c C V K hnx A E9 P ls hl
  have hN := V.1
  have hx := C.1
  have hb := C.2.1
  have hml := C.2.2.1
  have hown := C.2.2.2.1
  have hts := C.2.2.2.2.1
  have hl : lv_has ls 4 [(0, .ref (e_ad η 0)), (1, .int p0), (2, .int p1)] := hl
  refine lv_aload_n (pc := 0) hx hb dX6_shares_0 rfl (lv_at hl 0 rfl) ?_
  refine lv_iload_n (pc := 1) hx hb dX6_shares_1 rfl (lv_at hl 1 rfl) ?_
  refine N_callR (pc := 2) (As := [.int p0]) (rest := []) (r := g_isPlace σ p0) (rc := RX6) C hN K hl.1 P.1 (P.2.1.weaken (fun _ _ _ _ => trivial)) (va_recv K P.1 (ci := 7) (q0 := 0) rfl rfl) (kX6_isPlace l D cI cO η σ p0) fnX6_isPlace rfl gX6_shares_X6_isPlace rfl rfl ⟨Nat.le_of_ble_eq_true rfl, Nat.le_of_ble_eq_true rfl⟩ (Nat.le_of_ble_eq_true rfl) ⟨Nat.le_of_ble_eq_true rfl, Nat.le_of_ble_eq_true rfl⟩ dX6_shares_2 ?_
  refine lv_if_ne (pc := 5) (tgt := 18) hx hb dX6_shares_5 (by decide) (fun c_1 : ¬ (g_isPlace σ p0) = 0 => ?_) (fun c_1 : (g_isPlace σ p0) = 0 => ?_)
  · have hv_2 : vp_in p0 4 := isPl_in c_1
    refine lv_iload_n (pc := 18) hx hb dX6_shares_18 rfl (lv_at hl 2 rfl) ?_
    refine lv_iconst (pc := 19) (v := 0) hx hb dX6_shares_19 (by decide) ?_
    refine lv_sipush (pc := 20) (v := 500) hx hb dX6_shares_20 (by decide) ?_
    refine S_call (pc := 23) (As := [.int p1, .int 0, .int 500]) (rest := []) (r := g_isWithin p1 0 500) C hl.1 (kX6_isWithin l p1 0 500) fnX6_isWithin gX6_shares_X6_isWithin rfl rfl ⟨Nat.le_of_ble_eq_true rfl, Nat.le_of_ble_eq_true rfl⟩ (Nat.le_of_ble_eq_true rfl) ⟨Nat.le_of_ble_eq_true rfl, Nat.le_of_ble_eq_true rfl⟩ dX6_shares_23 ?_
    refine lv_if_ne (pc := 26) (tgt := 39) hx hb dX6_shares_26 (by decide) (fun c_3 : ¬ (g_isWithin p1 0 500) = 0 => ?_) (fun c_3 : (g_isWithin p1 0 500) = 0 => ?_)
    · refine lv_aload_n (pc := 39) hx hb dX6_shares_39 rfl (lv_at hl 0 rfl) ?_
      refine x_get (pc := 40) (Cn := RX6) (T := TX6) (N := 12) (ci := 7) (fs := G_fs η σ) (v := .ref (e_ad η 4)) C K P 0 rfl rfl inX6_shares_X6 3 (Nat.le_of_ble_eq_true rfl) (List.mem_of_getElem? (i := 5) rfl) rfl dX6_shares_40 ?_
      refine lv_iload_n (pc := 43) hx hb dX6_shares_43 rfl (lv_at hl 1 rfl) ?_
      refine va_iald (pc := 44) hx hb K P.1 4 0 (f := σ.2 7) rfl rfl hv_2 dX6_shares_44 ?_
      refine lv_istore_n (pc := 45) (lv' := [(3, .int (σ.2 7 (ix p0))), (0, .ref (e_ad η 0)), (1, .int p0), (2, .int p1)]) hx hb dX6_shares_45 rfl hl (by decide) rfl (fun ls hl => ?_)
      refine lv_aload_n (pc := 46) hx hb dX6_shares_46 rfl (lv_at hl 1 rfl) ?_
      refine x_get (pc := 47) (Cn := RX6) (T := TX6) (N := 12) (ci := 7) (fs := G_fs η σ) (v := .ref (e_ad η 4)) C K P 0 rfl rfl inX6_shares_X6 3 (Nat.le_of_ble_eq_true rfl) (List.mem_of_getElem? (i := 5) rfl) rfl dX6_shares_47 ?_
      refine lv_iload_n (pc := 50) hx hb dX6_shares_50 rfl (lv_at hl 2 rfl) ?_
      refine lv_iload_n (pc := 51) hx hb dX6_shares_51 rfl (lv_at hl 3 rfl) ?_
      refine va_iast (pc := 52) hx hb K P.1 P.2.1 P.2.2.1 4 0 (f := σ.2 7) rfl rfl hv_2 dX6_shares_52 (fun H locs h1 h2 h3 => ?_)
      have P : Hp D A s (G_W cI cO η (bs σ 7 (ix p0) p1)) H locs := Hp.eq ⟨h1, h2, h3, P.2.2.2⟩ Sr_set
      refine lv_iload_n (pc := 53) hx hb dX6_shares_53 rfl (lv_at hl 0 rfl) ?_
      exact G_retX (pc := 54) (v := σ.2 7 (ix p0)) (σ' := (bs σ 7 (ix p0) p1)) C P rfl (by rw [g_shares, if_neg c_1, if_neg c_3]) ⟨Nat.le_of_ble_eq_true rfl, Nat.le_of_ble_eq_true rfl⟩ dX6_shares_54
    · exact G_throwG (pc := 29) (cls := "java/lang/IllegalArgumentException") C hl9 V hnx E9 P hl.1 (by rw [g_shares, if_neg c_1, if_pos c_3]; rfl) (by rw [g_shares, if_neg c_1, if_pos c_3]; exact (by decide : ¬ (2 : Int32) = 0)) otl_2 ca_2 (List.mem_of_getElem? (i := 3) rfl) (List.mem_of_getElem? (i := 4) rfl) (fun w h => List.mem_cons_of_mem _ (List.mem_append_right _ h)) (List.mem_of_getElem? (i := 3) rfl) dX6_shares_29 dX6_shares_32 dX6_shares_33 dX6_shares_35 dX6_shares_38 ⟨Nat.le_of_ble_eq_true rfl, Nat.le_of_ble_eq_true rfl⟩ ⟨Nat.le_of_ble_eq_true rfl, Nat.le_of_ble_eq_true rfl⟩ ⟨Nat.le_of_ble_eq_true rfl, Nat.le_of_ble_eq_true rfl⟩
  · exact G_throwG (pc := 8) (cls := "java/lang/IndexOutOfBoundsException") C hl9 V hnx E9 P hl.1 (by rw [g_shares, if_pos c_1]; rfl) (by rw [g_shares, if_pos c_1]; exact (by decide : ¬ (1 : Int32) = 0)) otl_1 ca_1 (List.mem_of_getElem? (i := 1) rfl) (List.mem_of_getElem? (i := 2) rfl) (fun w h => List.mem_cons_of_mem _ (List.mem_append_left _ (List.mem_append_right _ h))) (List.mem_of_getElem? (i := 0) rfl) dX6_shares_8 dX6_shares_11 dX6_shares_12 dX6_shares_14 dX6_shares_17 ⟨Nat.le_of_ble_eq_true rfl, Nat.le_of_ble_eq_true rfl⟩ ⟨Nat.le_of_ble_eq_true rfl, Nat.le_of_ble_eq_true rfl⟩ ⟨Nat.le_of_ble_eq_true rfl, Nat.le_of_ble_eq_true rfl⟩
def g_guarantee (σ : Sg) (p0 : Int32) : Int32 × Int32 × Sg := if (g_isWithin p0 0 9999999) = 0 then (2, 0, σ) else if (ex_dutyFor (σ.1 11) (σ.1 12) (1000000 - (σ.1 16)) (g_dropsThatMove σ)) ≤ p0 then (0, σ.1 21, (zs σ 21 p0)) else (3, 0, σ)
abbrev rX6_guarantee : Room := { frames := 6, cells := 1, slots := 6, locals := 90 }
theorem fnX6_guarantee : Fn yX6_guarantee wsX6_guarantee cX6_guarantee 3 (some .int) 1 rX6_guarantee 1 6 := ⟨⟨_, rfl⟩, rfl, rfl, by decide +kernel⟩
theorem inX6_guarantee_X6 : ∀ w ∈ wsX60, w ∈ wsX6_guarantee := fun w h => List.mem_cons_of_mem _ (List.mem_append_left _ (List.mem_append_left _ (List.mem_append_left _ (List.mem_append_left _ (List.mem_append_left _ (List.mem_append_right _ h))))))
set_option maxHeartbeats 4000000 in
set_option maxRecDepth 100000 in
theorem kX6_guarantee (l : Launch) (hl9 : l.stackTraces = false) (D : va_G) (cI cO : ClassId) (t0 : Nat) (η : Eg) (σ : Sg) (p0 : Int32) (hG : Gok t0 η σ) : G_X l yX6_guarantee wsX6_guarantee rX6_guarantee D cI cO t0 η σ [.int p0] (fun A => Q_i D cI cO η (g_guarantee σ p0) A) ((g_guarantee σ p0).1) 1 6 := by
  refine G_bodyX (n := 1) rfl fnX6_guarantee (Nat.le_of_ble_eq_true rfl) ?_
  intro p e s m args below meth c C V K hnx A E9 P ls hl
  have hN := V.1
  have hx := C.1
  have hb := C.2.1
  have hml := C.2.2.1
  have hown := C.2.2.2.1
  have hts := C.2.2.2.2.1
  have hl : lv_has ls 3 [(0, .ref (e_ad η 0)), (1, .int p0)] := hl
  refine lv_iload_n (pc := 0) hx hb dX6_guarantee_0 rfl (lv_at hl 1 rfl) ?_
  refine lv_iconst (pc := 1) (v := 0) hx hb dX6_guarantee_1 (by decide) ?_
  refine lv_ldc (pc := 2) (v := 9999999) hx hb hown (hts _ (List.mem_of_getElem? (i := 5) rfl)) dX6_guarantee_2 ?_
  refine S_call (pc := 4) (As := [.int p0, .int 0, .int 9999999]) (rest := []) (r := g_isWithin p0 0 9999999) C hl.1 (kX6_isWithin l p0 0 9999999) fnX6_isWithin gX6_guarantee_X6_isWithin rfl rfl ⟨Nat.le_of_ble_eq_true rfl, Nat.le_of_ble_eq_true rfl⟩ (Nat.le_of_ble_eq_true rfl) ⟨Nat.le_of_ble_eq_true rfl, Nat.le_of_ble_eq_true rfl⟩ dX6_guarantee_4 ?_
  refine lv_if_ne (pc := 7) (tgt := 20) hx hb dX6_guarantee_7 (by decide) (fun c_1 : ¬ (g_isWithin p0 0 9999999) = 0 => ?_) (fun c_1 : (g_isWithin p0 0 9999999) = 0 => ?_)
  · refine lv_iload_n (pc := 20) hx hb dX6_guarantee_20 rfl (lv_at hl 1 rfl) ?_
    refine lv_aload_n (pc := 21) hx hb dX6_guarantee_21 rfl (lv_at hl 0 rfl) ?_
    refine x_get (pc := 22) (Cn := RX6) (T := TX6) (N := 12) (ci := 7) (fs := G_fs η σ) (v := .ref (e_ad η 5)) C K P 0 rfl rfl inX6_guarantee_X6 4 (Nat.le_of_ble_eq_true rfl) (List.mem_of_getElem? (i := 6) rfl) rfl dX6_guarantee_22 ?_
    refine lv_aload_n (pc := 25) hx hb dX6_guarantee_25 rfl (lv_at hl 0 rfl) ?_
    refine N_callR (pc := 26) (As := []) (rest := [.ref (e_ad η 5), .int p0]) (r := g_dropsThatMove σ) (rc := RX6) C hN K hl.1 P.1 (P.2.1.weaken (fun _ _ _ _ => trivial)) (va_recv K P.1 (ci := 7) (q0 := 0) rfl rfl) (kX6_dropsThatMove l D cI cO η σ (hG.2.2.2.2.1 1 (by decide)).1) fnX6_dropsThatMove rfl gX6_guarantee_X6_dropsThatMove rfl rfl ⟨Nat.le_of_ble_eq_true rfl, Nat.le_of_ble_eq_true rfl⟩ (Nat.le_of_ble_eq_true rfl) ⟨Nat.le_of_ble_eq_true rfl, Nat.le_of_ble_eq_true rfl⟩ dX6_guarantee_26 ?_
    refine N_callR (pc := 29) (As := [.int (g_dropsThatMove σ)]) (rest := [.int p0]) (r := ex_dutyFor (σ.1 11) (σ.1 12) (1000000 - (σ.1 16)) (g_dropsThatMove σ)) (rc := RX1) C hN K.nil hl.1 (P.1.one (k := 5) rfl) (va_D.one trivial) (va_recv K P.1 (ci := 2) (q0 := 5) rfl rfl) (kX1_dutyFor l D _ (σ.1 11) (σ.1 12) (1000000 - (σ.1 16)) (g_dropsThatMove σ)) fnX1_dutyFor rfl gX6_guarantee_X1_dutyFor rfl rfl ⟨Nat.le_of_ble_eq_true rfl, Nat.le_of_ble_eq_true rfl⟩ (Nat.le_of_ble_eq_true rfl) ⟨Nat.le_of_ble_eq_true rfl, Nat.le_of_ble_eq_true rfl⟩ dX6_guarantee_29 ?_
    refine lv_icmp_ge (pc := 32) (tgt := 45) hx hb dX6_guarantee_32 (by decide) (fun c_2 : (ex_dutyFor (σ.1 11) (σ.1 12) (1000000 - (σ.1 16)) (g_dropsThatMove σ)) ≤ p0 => ?_) (fun c_2 : ¬ (ex_dutyFor (σ.1 11) (σ.1 12) (1000000 - (σ.1 16)) (g_dropsThatMove σ)) ≤ p0 => ?_)
    · refine lv_aload_n (pc := 45) hx hb dX6_guarantee_45 rfl (lv_at hl 0 rfl) ?_
      refine x_get (pc := 46) (Cn := RX6) (T := TX6) (N := 12) (ci := 7) (fs := G_fs η σ) (v := .int (σ.1 21)) C K P 0 rfl rfl inX6_guarantee_X6 11 (Nat.le_of_ble_eq_true rfl) (List.mem_of_getElem? (i := 7) rfl) rfl dX6_guarantee_46 ?_
      refine lv_istore_n (pc := 49) (lv' := [(2, .int (σ.1 21)), (0, .ref (e_ad η 0)), (1, .int p0)]) hx hb dX6_guarantee_49 rfl hl (by decide) rfl (fun ls hl => ?_)
      refine lv_aload_n (pc := 50) hx hb dX6_guarantee_50 rfl (lv_at hl 1 rfl) ?_
      refine lv_iload_n (pc := 51) hx hb dX6_guarantee_51 rfl (lv_at hl 2 rfl) ?_
      refine x_put (pc := 52) (Cn := RX6) (T := TX6) (N := 12) (ci := 7) (fs := G_fs η σ) (v := .int p0) C K P 0 rfl rfl inX6_guarantee_X6 tyX6_ok nmX6 11 (Nat.le_of_ble_eq_true rfl) (List.mem_of_getElem? (i := 7) rfl) rfl rfl rfl (Nat.le_of_ble_eq_true rfl) dX6_guarantee_52 (fun H locs (P : Hp D A s (G_W cI cO η (zs σ 21 p0)) H locs) => ?_)
      refine lv_iload_n (pc := 55) hx hb dX6_guarantee_55 rfl (lv_at hl 0 rfl) ?_
      exact G_retX (pc := 56) (v := σ.1 21) (σ' := (zs σ 21 p0)) C P rfl (by rw [g_guarantee, if_neg c_1, if_pos c_2]) ⟨Nat.le_of_ble_eq_true rfl, Nat.le_of_ble_eq_true rfl⟩ dX6_guarantee_56
    · exact G_throwG (pc := 35) (cls := "java/lang/IllegalStateException") C hl9 V hnx E9 P hl.1 (by rw [g_guarantee, if_neg c_1, if_neg c_2]; rfl) (by rw [g_guarantee, if_neg c_1, if_neg c_2]; exact (by decide : ¬ (3 : Int32) = 0)) otl_3 ca_3 (List.mem_of_getElem? (i := 3) rfl) (List.mem_of_getElem? (i := 4) rfl) (fun w h => List.mem_cons_of_mem _ (List.mem_append_right _ h)) (List.mem_of_getElem? (i := 24) rfl) dX6_guarantee_35 dX6_guarantee_38 dX6_guarantee_39 dX6_guarantee_41 dX6_guarantee_44 ⟨Nat.le_of_ble_eq_true rfl, Nat.le_of_ble_eq_true rfl⟩ ⟨Nat.le_of_ble_eq_true rfl, Nat.le_of_ble_eq_true rfl⟩ ⟨Nat.le_of_ble_eq_true rfl, Nat.le_of_ble_eq_true rfl⟩
  · exact G_throwG (pc := 10) (cls := "java/lang/IllegalArgumentException") C hl9 V hnx E9 P hl.1 (by rw [g_guarantee, if_pos c_1]; rfl) (by rw [g_guarantee, if_pos c_1]; exact (by decide : ¬ (2 : Int32) = 0)) otl_2 ca_2 (List.mem_of_getElem? (i := 1) rfl) (List.mem_of_getElem? (i := 2) rfl) (fun w h => List.mem_cons_of_mem _ (List.mem_append_left _ (List.mem_append_right _ h))) (List.mem_of_getElem? (i := 19) rfl) dX6_guarantee_10 dX6_guarantee_13 dX6_guarantee_14 dX6_guarantee_16 dX6_guarantee_19 ⟨Nat.le_of_ble_eq_true rfl, Nat.le_of_ble_eq_true rfl⟩ ⟨Nat.le_of_ble_eq_true rfl, Nat.le_of_ble_eq_true rfl⟩ ⟨Nat.le_of_ble_eq_true rfl, Nat.le_of_ble_eq_true rfl⟩
def g_ledger (σ : Sg) (p0 : Int32) : Int32 × Int32 × Sg := if p0 = 0 then (0, σ.2 10 0, σ) else if p0 = 1 then (0, g_dropsInVessels σ, σ) else if p0 = 2 then (0, g_dropsThatMove σ, σ) else if p0 = 3 then (0, g_dropsInLots σ, σ) else if p0 = 4 then (0, σ.2 10 4, σ) else if p0 = 5 then (0, σ.2 10 5, σ) else if p0 = 6 then (0, σ.2 10 6, σ) else if p0 = 7 then (0, σ.2 10 7, σ) else (2, 0, σ)
abbrev rX6_ledger : Room := { frames := 6, cells := 1, slots := 6, locals := 90 }
theorem fnX6_ledger : Fn yX6_ledger wsX6_ledger cX6_ledger 2 (some .int) 1 rX6_ledger 1 6 := ⟨⟨_, rfl⟩, rfl, rfl, by decide +kernel⟩
theorem inX6_ledger_X2 : ∀ w ∈ wsX20, w ∈ wsX6_ledger := fun w h => List.mem_cons_of_mem _ (List.mem_append_left _ (List.mem_append_left _ (List.mem_append_left _ (List.mem_append_left _ (List.mem_append_left _ (List.mem_append_right _ h))))))
theorem inX6_ledger_X6 : ∀ w ∈ wsX60, w ∈ wsX6_ledger := fun w h => List.mem_cons_of_mem _ (List.mem_append_left _ (List.mem_append_left _ (List.mem_append_left _ (List.mem_append_left _ (List.mem_append_left _ (List.mem_append_left _ (List.mem_append_right _ h)))))))
set_option maxHeartbeats 4000000 in
set_option maxRecDepth 100000 in
theorem kX6_ledger (l : Launch) (hl9 : l.stackTraces = false) (D : va_G) (cI cO : ClassId) (t0 : Nat) (η : Eg) (σ : Sg) (p0 : Int32) (hG : Gok t0 η σ) : G_X l yX6_ledger wsX6_ledger rX6_ledger D cI cO t0 η σ [.int p0] (fun A => Q_i D cI cO η (g_ledger σ p0) A) ((g_ledger σ p0).1) 1 6 := by
  refine G_bodyX (n := 1) rfl fnX6_ledger (Nat.le_of_ble_eq_true rfl) ?_
  intro p e s m args below meth c C V K hnx A E9 P ls hl
  have hN := V.1
  have hx := C.1
  have hb := C.2.1
  have hml := C.2.2.1
  have hown := C.2.2.2.1
  have hts := C.2.2.2.2.1
  have hl : lv_has ls 2 [(0, .ref (e_ad η 0)), (1, .int p0)] := hl
  refine lv_iload_n (pc := 0) hx hb dX6_ledger_0 rfl (lv_at hl 1 rfl) ?_
  rcases Classical.em (p0 = 0) with c_1 | c_1
  · refine lv_tableIn (pc := 1) (tgt := 48) hx hb dX6_ledger_1 (by rw [c_1]; decide) (by rw [c_1]; decide) (by rw [c_1]; rfl) (by decide) ?_
    refine lv_aload_n (pc := 48) hx hb dX6_ledger_48 rfl (lv_at hl 0 rfl) ?_
    refine x_get (pc := 49) (Cn := RX6) (T := TX6) (N := 12) (ci := 7) (fs := G_fs η σ) (v := .ref (e_ad η 6)) C K P 0 rfl rfl inX6_ledger_X6 5 (Nat.le_of_ble_eq_true rfl) (List.mem_of_getElem? (i := 3) rfl) rfl dX6_ledger_49 ?_
    refine x_getN (pc := 52) (Cn := RX2) (T := TX2) (N := 5) (ci := 3) (fs := (Bk_fs σ)) (v := .int (σ.2 10 0)) C K P 6 rfl rfl inX6_ledger_X2 0 (Nat.le_of_ble_eq_true rfl) (hN _ (List.mem_of_getElem? (i := 5) rfl)) rfl dX6_ledger_52 ?_
    exact G_retX (pc := 55) (v := σ.2 10 0) (σ' := σ) C P rfl (by rw [g_ledger, if_pos c_1]) ⟨Nat.le_of_ble_eq_true rfl, Nat.le_of_ble_eq_true rfl⟩ dX6_ledger_55
  · rcases Classical.em (p0 = 1) with c_2 | c_2
    · refine lv_tableIn (pc := 1) (tgt := 56) hx hb dX6_ledger_1 (by rw [c_2]; decide) (by rw [c_2]; decide) (by rw [c_2]; rfl) (by decide) ?_
      refine lv_aload_n (pc := 56) hx hb dX6_ledger_56 rfl (lv_at hl 0 rfl) ?_
      refine N_callR (pc := 57) (As := []) (rest := []) (r := g_dropsInVessels σ) (rc := RX6) C hN K hl.1 P.1 (P.2.1.weaken (fun _ _ _ _ => trivial)) (va_recv K P.1 (ci := 7) (q0 := 0) rfl rfl) (kX6_dropsInVessels l D cI cO η σ (hG.2.2.2.2.1 0 (by decide)).1) fnX6_dropsInVessels rfl gX6_ledger_X6_dropsInVessels rfl rfl ⟨Nat.le_of_ble_eq_true rfl, Nat.le_of_ble_eq_true rfl⟩ (Nat.le_of_ble_eq_true rfl) ⟨Nat.le_of_ble_eq_true rfl, Nat.le_of_ble_eq_true rfl⟩ dX6_ledger_57 ?_
      exact G_retX (pc := 60) (v := g_dropsInVessels σ) (σ' := σ) C P rfl (by rw [g_ledger, if_neg c_1, if_pos c_2]) ⟨Nat.le_of_ble_eq_true rfl, Nat.le_of_ble_eq_true rfl⟩ dX6_ledger_60
    · rcases Classical.em (p0 = 2) with c_3 | c_3
      · refine lv_tableIn (pc := 1) (tgt := 61) hx hb dX6_ledger_1 (by rw [c_3]; decide) (by rw [c_3]; decide) (by rw [c_3]; rfl) (by decide) ?_
        refine lv_aload_n (pc := 61) hx hb dX6_ledger_61 rfl (lv_at hl 0 rfl) ?_
        refine N_callR (pc := 62) (As := []) (rest := []) (r := g_dropsThatMove σ) (rc := RX6) C hN K hl.1 P.1 (P.2.1.weaken (fun _ _ _ _ => trivial)) (va_recv K P.1 (ci := 7) (q0 := 0) rfl rfl) (kX6_dropsThatMove l D cI cO η σ (hG.2.2.2.2.1 1 (by decide)).1) fnX6_dropsThatMove rfl gX6_ledger_X6_dropsThatMove rfl rfl ⟨Nat.le_of_ble_eq_true rfl, Nat.le_of_ble_eq_true rfl⟩ (Nat.le_of_ble_eq_true rfl) ⟨Nat.le_of_ble_eq_true rfl, Nat.le_of_ble_eq_true rfl⟩ dX6_ledger_62 ?_
        exact G_retX (pc := 65) (v := g_dropsThatMove σ) (σ' := σ) C P rfl (by rw [g_ledger, if_neg c_1, if_neg c_2, if_pos c_3]) ⟨Nat.le_of_ble_eq_true rfl, Nat.le_of_ble_eq_true rfl⟩ dX6_ledger_65
      · rcases Classical.em (p0 = 3) with c_4 | c_4
        · refine lv_tableIn (pc := 1) (tgt := 66) hx hb dX6_ledger_1 (by rw [c_4]; decide) (by rw [c_4]; decide) (by rw [c_4]; rfl) (by decide) ?_
          refine lv_aload_n (pc := 66) hx hb dX6_ledger_66 rfl (lv_at hl 0 rfl) ?_
          refine N_callR (pc := 67) (As := []) (rest := []) (r := g_dropsInLots σ) (rc := RX6) C hN K hl.1 P.1 (P.2.1.weaken (fun _ _ _ _ => trivial)) (va_recv K P.1 (ci := 7) (q0 := 0) rfl rfl) (kX6_dropsInLots l D cI cO η σ (hG.2.2.2.2.1 2 (by decide)).1) fnX6_dropsInLots rfl gX6_ledger_X6_dropsInLots rfl rfl ⟨Nat.le_of_ble_eq_true rfl, Nat.le_of_ble_eq_true rfl⟩ (Nat.le_of_ble_eq_true rfl) ⟨Nat.le_of_ble_eq_true rfl, Nat.le_of_ble_eq_true rfl⟩ dX6_ledger_67 ?_
          exact G_retX (pc := 70) (v := g_dropsInLots σ) (σ' := σ) C P rfl (by rw [g_ledger, if_neg c_1, if_neg c_2, if_neg c_3, if_pos c_4]) ⟨Nat.le_of_ble_eq_true rfl, Nat.le_of_ble_eq_true rfl⟩ dX6_ledger_70
        · rcases Classical.em (p0 = 4) with c_5 | c_5
          · refine lv_tableIn (pc := 1) (tgt := 71) hx hb dX6_ledger_1 (by rw [c_5]; decide) (by rw [c_5]; decide) (by rw [c_5]; rfl) (by decide) ?_
            refine lv_aload_n (pc := 71) hx hb dX6_ledger_71 rfl (lv_at hl 0 rfl) ?_
            refine x_get (pc := 72) (Cn := RX6) (T := TX6) (N := 12) (ci := 7) (fs := G_fs η σ) (v := .ref (e_ad η 6)) C K P 0 rfl rfl inX6_ledger_X6 5 (Nat.le_of_ble_eq_true rfl) (List.mem_of_getElem? (i := 3) rfl) rfl dX6_ledger_72 ?_
            refine x_getN (pc := 75) (Cn := RX2) (T := TX2) (N := 5) (ci := 3) (fs := (Bk_fs σ)) (v := .int (σ.2 10 4)) C K P 6 rfl rfl inX6_ledger_X2 1 (Nat.le_of_ble_eq_true rfl) (hN _ (List.mem_of_getElem? (i := 6) rfl)) rfl dX6_ledger_75 ?_
            exact G_retX (pc := 78) (v := σ.2 10 4) (σ' := σ) C P rfl (by rw [g_ledger, if_neg c_1, if_neg c_2, if_neg c_3, if_neg c_4, if_pos c_5]) ⟨Nat.le_of_ble_eq_true rfl, Nat.le_of_ble_eq_true rfl⟩ dX6_ledger_78
          · rcases Classical.em (p0 = 5) with c_6 | c_6
            · refine lv_tableIn (pc := 1) (tgt := 79) hx hb dX6_ledger_1 (by rw [c_6]; decide) (by rw [c_6]; decide) (by rw [c_6]; rfl) (by decide) ?_
              refine lv_aload_n (pc := 79) hx hb dX6_ledger_79 rfl (lv_at hl 0 rfl) ?_
              refine x_get (pc := 80) (Cn := RX6) (T := TX6) (N := 12) (ci := 7) (fs := G_fs η σ) (v := .ref (e_ad η 6)) C K P 0 rfl rfl inX6_ledger_X6 5 (Nat.le_of_ble_eq_true rfl) (List.mem_of_getElem? (i := 3) rfl) rfl dX6_ledger_80 ?_
              refine x_getN (pc := 83) (Cn := RX2) (T := TX2) (N := 5) (ci := 3) (fs := (Bk_fs σ)) (v := .int (σ.2 10 5)) C K P 6 rfl rfl inX6_ledger_X2 2 (Nat.le_of_ble_eq_true rfl) (hN _ (List.mem_of_getElem? (i := 7) rfl)) rfl dX6_ledger_83 ?_
              exact G_retX (pc := 86) (v := σ.2 10 5) (σ' := σ) C P rfl (by rw [g_ledger, if_neg c_1, if_neg c_2, if_neg c_3, if_neg c_4, if_neg c_5, if_pos c_6]) ⟨Nat.le_of_ble_eq_true rfl, Nat.le_of_ble_eq_true rfl⟩ dX6_ledger_86
            · rcases Classical.em (p0 = 6) with c_7 | c_7
              · refine lv_tableIn (pc := 1) (tgt := 87) hx hb dX6_ledger_1 (by rw [c_7]; decide) (by rw [c_7]; decide) (by rw [c_7]; rfl) (by decide) ?_
                refine lv_aload_n (pc := 87) hx hb dX6_ledger_87 rfl (lv_at hl 0 rfl) ?_
                refine x_get (pc := 88) (Cn := RX6) (T := TX6) (N := 12) (ci := 7) (fs := G_fs η σ) (v := .ref (e_ad η 6)) C K P 0 rfl rfl inX6_ledger_X6 5 (Nat.le_of_ble_eq_true rfl) (List.mem_of_getElem? (i := 3) rfl) rfl dX6_ledger_88 ?_
                refine x_getN (pc := 91) (Cn := RX2) (T := TX2) (N := 5) (ci := 3) (fs := (Bk_fs σ)) (v := .int (σ.2 10 6)) C K P 6 rfl rfl inX6_ledger_X2 3 (Nat.le_of_ble_eq_true rfl) (hN _ (List.mem_of_getElem? (i := 8) rfl)) rfl dX6_ledger_91 ?_
                exact G_retX (pc := 94) (v := σ.2 10 6) (σ' := σ) C P rfl (by rw [g_ledger, if_neg c_1, if_neg c_2, if_neg c_3, if_neg c_4, if_neg c_5, if_neg c_6, if_pos c_7]) ⟨Nat.le_of_ble_eq_true rfl, Nat.le_of_ble_eq_true rfl⟩ dX6_ledger_94
              · rcases Classical.em (p0 = 7) with c_8 | c_8
                · refine lv_tableIn (pc := 1) (tgt := 95) hx hb dX6_ledger_1 (by rw [c_8]; decide) (by rw [c_8]; decide) (by rw [c_8]; rfl) (by decide) ?_
                  refine lv_aload_n (pc := 95) hx hb dX6_ledger_95 rfl (lv_at hl 0 rfl) ?_
                  refine x_get (pc := 96) (Cn := RX6) (T := TX6) (N := 12) (ci := 7) (fs := G_fs η σ) (v := .ref (e_ad η 6)) C K P 0 rfl rfl inX6_ledger_X6 5 (Nat.le_of_ble_eq_true rfl) (List.mem_of_getElem? (i := 3) rfl) rfl dX6_ledger_96 ?_
                  refine x_getN (pc := 99) (Cn := RX2) (T := TX2) (N := 5) (ci := 3) (fs := (Bk_fs σ)) (v := .int (σ.2 10 7)) C K P 6 rfl rfl inX6_ledger_X2 4 (Nat.le_of_ble_eq_true rfl) (hN _ (List.mem_of_getElem? (i := 9) rfl)) rfl dX6_ledger_99 ?_
                  exact G_retX (pc := 102) (v := σ.2 10 7) (σ' := σ) C P rfl (by rw [g_ledger, if_neg c_1, if_neg c_2, if_neg c_3, if_neg c_4, if_neg c_5, if_neg c_6, if_neg c_7, if_pos c_8]) ⟨Nat.le_of_ble_eq_true rfl, Nat.le_of_ble_eq_true rfl⟩ dX6_ledger_102
                · refine lv_tableOut (pc := 1) (tgt := 103) hx hb dX6_ledger_1 (tsw_out 8 p0 (by decide) (by intro k hk; match k, hk with | 0, _ => exact c_1 | 1, _ => exact c_2 | 2, _ => exact c_3 | 3, _ => exact c_4 | 4, _ => exact c_5 | 5, _ => exact c_6 | 6, _ => exact c_7 | 7, _ => exact c_8 | n + 8, hk => exact absurd hk (by omega))) (by decide) ?_
                  exact G_throwW (pc := 103) (cls := "java/lang/IllegalArgumentException") C hl9 V hnx E9 P hl.1 (by rw [g_ledger, if_neg c_1, if_neg c_2, if_neg c_3, if_neg c_4, if_neg c_5, if_neg c_6, if_neg c_7, if_neg c_8]; rfl) (by rw [g_ledger, if_neg c_1, if_neg c_2, if_neg c_3, if_neg c_4, if_neg c_5, if_neg c_6, if_neg c_7, if_neg c_8]; exact (by decide : ¬ (2 : Int32) = 0)) otl_2 ca_2 (List.mem_of_getElem? (i := 1) rfl) (List.mem_of_getElem? (i := 2) rfl) (fun w h => List.mem_cons_of_mem _ (List.mem_append_right _ h)) (List.mem_of_getElem? (i := 33) rfl) dX6_ledger_103 dX6_ledger_106 dX6_ledger_107 dX6_ledger_110 dX6_ledger_113 ⟨Nat.le_of_ble_eq_true rfl, Nat.le_of_ble_eq_true rfl⟩ ⟨Nat.le_of_ble_eq_true rfl, Nat.le_of_ble_eq_true rfl⟩ ⟨Nat.le_of_ble_eq_true rfl, Nat.le_of_ble_eq_true rfl⟩
def g_duty (σ : Sg) (p0 : Int32) : Int32 × Int32 × Sg := if (σ.1 13) = (-1) then (if p0 = 0 then (0, σ.1 12, σ) else if p0 = 1 then (0, σ.1 11, σ) else if p0 = 2 then (0, (-1), σ) else if p0 = 3 then (0, 1000000 - (σ.1 16), σ) else if p0 = 4 then (0, σ.1 17, σ) else if p0 = 5 then (0, (σ.1 21) - (ex_dutyFor (σ.1 11) (σ.1 12) (1000000 - (σ.1 16)) (g_dropsThatMove σ)), σ) else (2, 0, σ)) else if p0 = 0 then (0, σ.1 12, σ) else if p0 = 1 then (0, σ.1 11, σ) else if p0 = 2 then (0, σ.1 15, σ) else if p0 = 3 then (0, 1000000 - (σ.1 16), σ) else if p0 = 4 then (0, σ.1 17, σ) else if p0 = 5 then (0, (σ.1 21) - (ex_dutyFor (σ.1 11) (σ.1 12) (1000000 - (σ.1 16)) (g_dropsThatMove σ)), σ) else (2, 0, σ)
abbrev rX6_duty : Room := { frames := 6, cells := 1, slots := 6, locals := 90 }
theorem fnX6_duty : Fn yX6_duty wsX6_duty cX6_duty 2 (some .int) 1 rX6_duty 1 6 := ⟨⟨_, rfl⟩, rfl, rfl, by decide +kernel⟩
theorem inX6_duty_X0 : ∀ w ∈ wsX00, w ∈ wsX6_duty := fun w h => List.mem_cons_of_mem _ (List.mem_append_left _ (List.mem_append_left _ (List.mem_append_left _ (List.mem_append_right _ h))))
theorem inX6_duty_X1 : ∀ w ∈ wsX10, w ∈ wsX6_duty := fun w h => List.mem_cons_of_mem _ (List.mem_append_left _ (List.mem_append_left _ (List.mem_append_left _ (List.mem_append_left _ (List.mem_append_right _ h)))))
theorem inX6_duty_X6 : ∀ w ∈ wsX60, w ∈ wsX6_duty := fun w h => List.mem_cons_of_mem _ (List.mem_append_left _ (List.mem_append_left _ (List.mem_append_left _ (List.mem_append_left _ (List.mem_append_left _ (List.mem_append_right _ h))))))
set_option maxHeartbeats 4000000 in
set_option maxRecDepth 100000 in
theorem kX6_duty (l : Launch) (hl9 : l.stackTraces = false) (D : va_G) (cI cO : ClassId) (t0 : Nat) (η : Eg) (σ : Sg) (p0 : Int32) (hG : Gok t0 η σ) : G_X l yX6_duty wsX6_duty rX6_duty D cI cO t0 η σ [.int p0] (fun A => Q_i D cI cO η (g_duty σ p0) A) ((g_duty σ p0).1) 1 6 := by
  refine G_bodyX (n := 1) rfl fnX6_duty (Nat.le_of_ble_eq_true rfl) ?_
  intro p e s m args below meth c C V K hnx A E9 P ls hl
  have hN := V.1
  have hx := C.1
  have hb := C.2.1
  have hml := C.2.2.1
  have hown := C.2.2.2.1
  have hts := C.2.2.2.2.1
  have hl : lv_has ls 2 [(0, .ref (e_ad η 0)), (1, .int p0)] := hl
  have hb9 := hG.2.2.2.1
  by_cases c_b : σ.1 13 = (-1)
  · have hbu : e_bu η = none := hb9.mpr c_b
    refine lv_iload_n (pc := 0) hx hb dX6_duty_0 rfl (lv_at hl 1 rfl) ?_
    rcases Classical.em (p0 = 0) with c_1 | c_1
    · refine lv_tableIn (pc := 1) (tgt := 40) hx hb dX6_duty_1 (by rw [c_1]; decide) (by rw [c_1]; decide) (by rw [c_1]; rfl) (by decide) ?_
      refine lv_aload_n (pc := 40) hx hb dX6_duty_40 rfl (lv_at hl 0 rfl) ?_
      refine x_get (pc := 41) (Cn := RX6) (T := TX6) (N := 12) (ci := 7) (fs := G_fs η σ) (v := .ref (e_ad η 5)) C K P 0 rfl rfl inX6_duty_X6 4 (Nat.le_of_ble_eq_true rfl) (List.mem_of_getElem? (i := 3) rfl) rfl dX6_duty_41 ?_
      refine x_getN (pc := 44) (Cn := RX1) (T := TX1) (N := 3) (ci := 2) (fs := (Ex_fs σ)) (v := .int (σ.1 12)) C K P 5 rfl rfl inX6_duty_X1 1 (Nat.le_of_ble_eq_true rfl) (hN _ (List.mem_of_getElem? (i := 2) rfl)) rfl dX6_duty_44 ?_
      exact G_retX (pc := 47) (v := σ.1 12) (σ' := σ) C P rfl (by rw [g_duty, if_pos c_b, if_pos c_1]) ⟨Nat.le_of_ble_eq_true rfl, Nat.le_of_ble_eq_true rfl⟩ dX6_duty_47
    · rcases Classical.em (p0 = 1) with c_2 | c_2
      · refine lv_tableIn (pc := 1) (tgt := 48) hx hb dX6_duty_1 (by rw [c_2]; decide) (by rw [c_2]; decide) (by rw [c_2]; rfl) (by decide) ?_
        refine lv_aload_n (pc := 48) hx hb dX6_duty_48 rfl (lv_at hl 0 rfl) ?_
        refine x_get (pc := 49) (Cn := RX6) (T := TX6) (N := 12) (ci := 7) (fs := G_fs η σ) (v := .ref (e_ad η 5)) C K P 0 rfl rfl inX6_duty_X6 4 (Nat.le_of_ble_eq_true rfl) (List.mem_of_getElem? (i := 3) rfl) rfl dX6_duty_49 ?_
        refine x_getN (pc := 52) (Cn := RX1) (T := TX1) (N := 3) (ci := 2) (fs := (Ex_fs σ)) (v := .int (σ.1 11)) C K P 5 rfl rfl inX6_duty_X1 0 (Nat.le_of_ble_eq_true rfl) (hN _ (List.mem_of_getElem? (i := 1) rfl)) rfl dX6_duty_52 ?_
        exact G_retX (pc := 55) (v := σ.1 11) (σ' := σ) C P rfl (by rw [g_duty, if_pos c_b, if_neg c_1, if_pos c_2]) ⟨Nat.le_of_ble_eq_true rfl, Nat.le_of_ble_eq_true rfl⟩ dX6_duty_55
      · rcases Classical.em (p0 = 2) with c_3 | c_3
        · refine lv_tableIn (pc := 1) (tgt := 56) hx hb dX6_duty_1 (by rw [c_3]; decide) (by rw [c_3]; decide) (by rw [c_3]; rfl) (by decide) ?_
          refine lv_aload_n (pc := 56) hx hb dX6_duty_56 rfl (lv_at hl 0 rfl) ?_
          refine x_get (pc := 57) (Cn := RX6) (T := TX6) (N := 12) (ci := 7) (fs := G_fs η σ) (v := .null) C K P 0 rfl rfl inX6_duty_X6 6 (Nat.le_of_ble_eq_true rfl) (List.mem_of_getElem? (i := 4) rfl) (congrArg (fun b => some (va_rf b)) hbu) dX6_duty_57 ?_
          refine lv_ifnonnullN (pc := 60) hx hb dX6_duty_60 ?_
          refine lv_iconst (pc := 63) (v := (-1)) hx hb dX6_duty_63 (by decide) ?_
          refine lv_goto (pc := 64) (tgt := 74) hx hb dX6_duty_64 (by decide) ?_
          exact G_retX (pc := 74) (v := (-1)) (σ' := σ) C P rfl (by rw [g_duty, if_pos c_b, if_neg c_1, if_neg c_2, if_pos c_3]) ⟨Nat.le_of_ble_eq_true rfl, Nat.le_of_ble_eq_true rfl⟩ dX6_duty_74
        · rcases Classical.em (p0 = 3) with c_4 | c_4
          · refine lv_tableIn (pc := 1) (tgt := 75) hx hb dX6_duty_1 (by rw [c_4]; decide) (by rw [c_4]; decide) (by rw [c_4]; rfl) (by decide) ?_
            refine lv_aload_n (pc := 75) hx hb dX6_duty_75 rfl (lv_at hl 0 rfl) ?_
            refine x_get (pc := 76) (Cn := RX6) (T := TX6) (N := 12) (ci := 7) (fs := G_fs η σ) (v := .ref (e_ad η 5)) C K P 0 rfl rfl inX6_duty_X6 4 (Nat.le_of_ble_eq_true rfl) (List.mem_of_getElem? (i := 3) rfl) rfl dX6_duty_76 ?_
            refine x_getN (pc := 79) (Cn := RX1) (T := TX1) (N := 3) (ci := 2) (fs := (Ex_fs σ)) (v := .int (1000000 - (σ.1 16))) C K P 5 rfl rfl inX6_duty_X1 2 (Nat.le_of_ble_eq_true rfl) (hN _ (List.mem_of_getElem? (i := 3) rfl)) rfl dX6_duty_79 ?_
            exact G_retX (pc := 82) (v := 1000000 - (σ.1 16)) (σ' := σ) C P rfl (by rw [g_duty, if_pos c_b, if_neg c_1, if_neg c_2, if_neg c_3, if_pos c_4]) ⟨Nat.le_of_ble_eq_true rfl, Nat.le_of_ble_eq_true rfl⟩ dX6_duty_82
          · rcases Classical.em (p0 = 4) with c_5 | c_5
            · refine lv_tableIn (pc := 1) (tgt := 83) hx hb dX6_duty_1 (by rw [c_5]; decide) (by rw [c_5]; decide) (by rw [c_5]; rfl) (by decide) ?_
              refine lv_aload_n (pc := 83) hx hb dX6_duty_83 rfl (lv_at hl 0 rfl) ?_
              refine x_get (pc := 84) (Cn := RX6) (T := TX6) (N := 12) (ci := 7) (fs := G_fs η σ) (v := .int (σ.1 17)) C K P 0 rfl rfl inX6_duty_X6 10 (Nat.le_of_ble_eq_true rfl) (List.mem_of_getElem? (i := 5) rfl) rfl dX6_duty_84 ?_
              exact G_retX (pc := 87) (v := σ.1 17) (σ' := σ) C P rfl (by rw [g_duty, if_pos c_b, if_neg c_1, if_neg c_2, if_neg c_3, if_neg c_4, if_pos c_5]) ⟨Nat.le_of_ble_eq_true rfl, Nat.le_of_ble_eq_true rfl⟩ dX6_duty_87
            · rcases Classical.em (p0 = 5) with c_6 | c_6
              · refine lv_tableIn (pc := 1) (tgt := 88) hx hb dX6_duty_1 (by rw [c_6]; decide) (by rw [c_6]; decide) (by rw [c_6]; rfl) (by decide) ?_
                refine lv_aload_n (pc := 88) hx hb dX6_duty_88 rfl (lv_at hl 0 rfl) ?_
                refine x_get (pc := 89) (Cn := RX6) (T := TX6) (N := 12) (ci := 7) (fs := G_fs η σ) (v := .int (σ.1 21)) C K P 0 rfl rfl inX6_duty_X6 11 (Nat.le_of_ble_eq_true rfl) (List.mem_of_getElem? (i := 6) rfl) rfl dX6_duty_89 ?_
                refine lv_aload_n (pc := 92) hx hb dX6_duty_92 rfl (lv_at hl 0 rfl) ?_
                refine x_get (pc := 93) (Cn := RX6) (T := TX6) (N := 12) (ci := 7) (fs := G_fs η σ) (v := .ref (e_ad η 5)) C K P 0 rfl rfl inX6_duty_X6 4 (Nat.le_of_ble_eq_true rfl) (List.mem_of_getElem? (i := 3) rfl) rfl dX6_duty_93 ?_
                refine lv_aload_n (pc := 96) hx hb dX6_duty_96 rfl (lv_at hl 0 rfl) ?_
                refine N_callR (pc := 97) (As := []) (rest := [.ref (e_ad η 5), .int (σ.1 21)]) (r := g_dropsThatMove σ) (rc := RX6) C hN K hl.1 P.1 (P.2.1.weaken (fun _ _ _ _ => trivial)) (va_recv K P.1 (ci := 7) (q0 := 0) rfl rfl) (kX6_dropsThatMove l D cI cO η σ (hG.2.2.2.2.1 1 (by decide)).1) fnX6_dropsThatMove rfl gX6_duty_X6_dropsThatMove rfl rfl ⟨Nat.le_of_ble_eq_true rfl, Nat.le_of_ble_eq_true rfl⟩ (Nat.le_of_ble_eq_true rfl) ⟨Nat.le_of_ble_eq_true rfl, Nat.le_of_ble_eq_true rfl⟩ dX6_duty_97 ?_
                refine N_callR (pc := 100) (As := [.int (g_dropsThatMove σ)]) (rest := [.int (σ.1 21)]) (r := ex_dutyFor (σ.1 11) (σ.1 12) (1000000 - (σ.1 16)) (g_dropsThatMove σ)) (rc := RX1) C hN K.nil hl.1 (P.1.one (k := 5) rfl) (va_D.one trivial) (va_recv K P.1 (ci := 2) (q0 := 5) rfl rfl) (kX1_dutyFor l D _ (σ.1 11) (σ.1 12) (1000000 - (σ.1 16)) (g_dropsThatMove σ)) fnX1_dutyFor rfl gX6_duty_X1_dutyFor rfl rfl ⟨Nat.le_of_ble_eq_true rfl, Nat.le_of_ble_eq_true rfl⟩ (Nat.le_of_ble_eq_true rfl) ⟨Nat.le_of_ble_eq_true rfl, Nat.le_of_ble_eq_true rfl⟩ dX6_duty_100 ?_
                refine lv_isub (pc := 103) hx hb dX6_duty_103 ?_
                exact G_retX (pc := 104) (v := (σ.1 21) - (ex_dutyFor (σ.1 11) (σ.1 12) (1000000 - (σ.1 16)) (g_dropsThatMove σ))) (σ' := σ) C P rfl (by rw [g_duty, if_pos c_b, if_neg c_1, if_neg c_2, if_neg c_3, if_neg c_4, if_neg c_5, if_pos c_6]) ⟨Nat.le_of_ble_eq_true rfl, Nat.le_of_ble_eq_true rfl⟩ dX6_duty_104
              · refine lv_tableOut (pc := 1) (tgt := 105) hx hb dX6_duty_1 (tsw_out 6 p0 (by decide) (by intro k hk; match k, hk with | 0, _ => exact c_1 | 1, _ => exact c_2 | 2, _ => exact c_3 | 3, _ => exact c_4 | 4, _ => exact c_5 | 5, _ => exact c_6 | n + 6, hk => exact absurd hk (by omega))) (by decide) ?_
                exact G_throwW (pc := 105) (cls := "java/lang/IllegalArgumentException") C hl9 V hnx E9 P hl.1 (by rw [g_duty, if_pos c_b, if_neg c_1, if_neg c_2, if_neg c_3, if_neg c_4, if_neg c_5, if_neg c_6]; rfl) (by rw [g_duty, if_pos c_b, if_neg c_1, if_neg c_2, if_neg c_3, if_neg c_4, if_neg c_5, if_neg c_6]; exact (by decide : ¬ (2 : Int32) = 0)) otl_2 ca_2 (List.mem_of_getElem? (i := 1) rfl) (List.mem_of_getElem? (i := 2) rfl) (fun w h => List.mem_cons_of_mem _ (List.mem_append_right _ h)) (List.mem_of_getElem? (i := 33) rfl) dX6_duty_105 dX6_duty_108 dX6_duty_109 dX6_duty_112 dX6_duty_115 ⟨Nat.le_of_ble_eq_true rfl, Nat.le_of_ble_eq_true rfl⟩ ⟨Nat.le_of_ble_eq_true rfl, Nat.le_of_ble_eq_true rfl⟩ ⟨Nat.le_of_ble_eq_true rfl, Nat.le_of_ble_eq_true rfl⟩
  · obtain ⟨ab, hbu⟩ := Option.ne_none_iff_exists'.mp (fun h => c_b (hb9.mp h))
    refine lv_iload_n (pc := 0) hx hb dX6_duty_0 rfl (lv_at hl 1 rfl) ?_
    rcases Classical.em (p0 = 0) with c_7 | c_7
    · refine lv_tableIn (pc := 1) (tgt := 40) hx hb dX6_duty_1 (by rw [c_7]; decide) (by rw [c_7]; decide) (by rw [c_7]; rfl) (by decide) ?_
      refine lv_aload_n (pc := 40) hx hb dX6_duty_40 rfl (lv_at hl 0 rfl) ?_
      refine x_get (pc := 41) (Cn := RX6) (T := TX6) (N := 12) (ci := 7) (fs := G_fs η σ) (v := .ref (e_ad η 5)) C K P 0 rfl rfl inX6_duty_X6 4 (Nat.le_of_ble_eq_true rfl) (List.mem_of_getElem? (i := 3) rfl) rfl dX6_duty_41 ?_
      refine x_getN (pc := 44) (Cn := RX1) (T := TX1) (N := 3) (ci := 2) (fs := (Ex_fs σ)) (v := .int (σ.1 12)) C K P 5 rfl rfl inX6_duty_X1 1 (Nat.le_of_ble_eq_true rfl) (hN _ (List.mem_of_getElem? (i := 2) rfl)) rfl dX6_duty_44 ?_
      exact G_retX (pc := 47) (v := σ.1 12) (σ' := σ) C P rfl (by rw [g_duty, if_neg c_b, if_pos c_7]) ⟨Nat.le_of_ble_eq_true rfl, Nat.le_of_ble_eq_true rfl⟩ dX6_duty_47
    · rcases Classical.em (p0 = 1) with c_8 | c_8
      · refine lv_tableIn (pc := 1) (tgt := 48) hx hb dX6_duty_1 (by rw [c_8]; decide) (by rw [c_8]; decide) (by rw [c_8]; rfl) (by decide) ?_
        refine lv_aload_n (pc := 48) hx hb dX6_duty_48 rfl (lv_at hl 0 rfl) ?_
        refine x_get (pc := 49) (Cn := RX6) (T := TX6) (N := 12) (ci := 7) (fs := G_fs η σ) (v := .ref (e_ad η 5)) C K P 0 rfl rfl inX6_duty_X6 4 (Nat.le_of_ble_eq_true rfl) (List.mem_of_getElem? (i := 3) rfl) rfl dX6_duty_49 ?_
        refine x_getN (pc := 52) (Cn := RX1) (T := TX1) (N := 3) (ci := 2) (fs := (Ex_fs σ)) (v := .int (σ.1 11)) C K P 5 rfl rfl inX6_duty_X1 0 (Nat.le_of_ble_eq_true rfl) (hN _ (List.mem_of_getElem? (i := 1) rfl)) rfl dX6_duty_52 ?_
        exact G_retX (pc := 55) (v := σ.1 11) (σ' := σ) C P rfl (by rw [g_duty, if_neg c_b, if_neg c_7, if_pos c_8]) ⟨Nat.le_of_ble_eq_true rfl, Nat.le_of_ble_eq_true rfl⟩ dX6_duty_55
      · rcases Classical.em (p0 = 2) with c_9 | c_9
        · refine lv_tableIn (pc := 1) (tgt := 56) hx hb dX6_duty_1 (by rw [c_9]; decide) (by rw [c_9]; decide) (by rw [c_9]; rfl) (by decide) ?_
          refine lv_aload_n (pc := 56) hx hb dX6_duty_56 rfl (lv_at hl 0 rfl) ?_
          refine x_get (pc := 57) (Cn := RX6) (T := TX6) (N := 12) (ci := 7) (fs := G_fs η σ) (v := .ref ab) C K P 0 rfl rfl inX6_duty_X6 6 (Nat.le_of_ble_eq_true rfl) (List.mem_of_getElem? (i := 4) rfl) (congrArg (fun b => some (va_rf b)) hbu) dX6_duty_57 ?_
          refine lv_ifnonnull (pc := 60) (tgt := 67) hx hb dX6_duty_60 (by decide) ?_
          refine lv_aload_n (pc := 67) hx hb dX6_duty_67 rfl (lv_at hl 0 rfl) ?_
          refine x_get (pc := 68) (Cn := RX6) (T := TX6) (N := 12) (ci := 7) (fs := G_fs η σ) (v := .ref ab) C K P 0 rfl rfl inX6_duty_X6 6 (Nat.le_of_ble_eq_true rfl) (List.mem_of_getElem? (i := 4) rfl) (congrArg (fun b => some (va_rf b)) hbu) dX6_duty_68 ?_
          refine x_getN (pc := 71) (Cn := RX0) (T := TX0) (N := 3) (ci := 1) (fs := (Bu_fs σ)) (v := .int (σ.1 15)) C K P (pB cO η) (B_get (cI := cI) (cO := cO) (η := η) (σ := σ) hbu) rfl inX6_duty_X0 2 (Nat.le_of_ble_eq_true rfl) (hN _ (List.mem_of_getElem? (i := 23) rfl)) rfl dX6_duty_71 ?_
          exact G_retX (pc := 74) (v := σ.1 15) (σ' := σ) C P rfl (by rw [g_duty, if_neg c_b, if_neg c_7, if_neg c_8, if_pos c_9]) ⟨Nat.le_of_ble_eq_true rfl, Nat.le_of_ble_eq_true rfl⟩ dX6_duty_74
        · rcases Classical.em (p0 = 3) with c_10 | c_10
          · refine lv_tableIn (pc := 1) (tgt := 75) hx hb dX6_duty_1 (by rw [c_10]; decide) (by rw [c_10]; decide) (by rw [c_10]; rfl) (by decide) ?_
            refine lv_aload_n (pc := 75) hx hb dX6_duty_75 rfl (lv_at hl 0 rfl) ?_
            refine x_get (pc := 76) (Cn := RX6) (T := TX6) (N := 12) (ci := 7) (fs := G_fs η σ) (v := .ref (e_ad η 5)) C K P 0 rfl rfl inX6_duty_X6 4 (Nat.le_of_ble_eq_true rfl) (List.mem_of_getElem? (i := 3) rfl) rfl dX6_duty_76 ?_
            refine x_getN (pc := 79) (Cn := RX1) (T := TX1) (N := 3) (ci := 2) (fs := (Ex_fs σ)) (v := .int (1000000 - (σ.1 16))) C K P 5 rfl rfl inX6_duty_X1 2 (Nat.le_of_ble_eq_true rfl) (hN _ (List.mem_of_getElem? (i := 3) rfl)) rfl dX6_duty_79 ?_
            exact G_retX (pc := 82) (v := 1000000 - (σ.1 16)) (σ' := σ) C P rfl (by rw [g_duty, if_neg c_b, if_neg c_7, if_neg c_8, if_neg c_9, if_pos c_10]) ⟨Nat.le_of_ble_eq_true rfl, Nat.le_of_ble_eq_true rfl⟩ dX6_duty_82
          · rcases Classical.em (p0 = 4) with c_11 | c_11
            · refine lv_tableIn (pc := 1) (tgt := 83) hx hb dX6_duty_1 (by rw [c_11]; decide) (by rw [c_11]; decide) (by rw [c_11]; rfl) (by decide) ?_
              refine lv_aload_n (pc := 83) hx hb dX6_duty_83 rfl (lv_at hl 0 rfl) ?_
              refine x_get (pc := 84) (Cn := RX6) (T := TX6) (N := 12) (ci := 7) (fs := G_fs η σ) (v := .int (σ.1 17)) C K P 0 rfl rfl inX6_duty_X6 10 (Nat.le_of_ble_eq_true rfl) (List.mem_of_getElem? (i := 5) rfl) rfl dX6_duty_84 ?_
              exact G_retX (pc := 87) (v := σ.1 17) (σ' := σ) C P rfl (by rw [g_duty, if_neg c_b, if_neg c_7, if_neg c_8, if_neg c_9, if_neg c_10, if_pos c_11]) ⟨Nat.le_of_ble_eq_true rfl, Nat.le_of_ble_eq_true rfl⟩ dX6_duty_87
            · rcases Classical.em (p0 = 5) with c_12 | c_12
              · refine lv_tableIn (pc := 1) (tgt := 88) hx hb dX6_duty_1 (by rw [c_12]; decide) (by rw [c_12]; decide) (by rw [c_12]; rfl) (by decide) ?_
                refine lv_aload_n (pc := 88) hx hb dX6_duty_88 rfl (lv_at hl 0 rfl) ?_
                refine x_get (pc := 89) (Cn := RX6) (T := TX6) (N := 12) (ci := 7) (fs := G_fs η σ) (v := .int (σ.1 21)) C K P 0 rfl rfl inX6_duty_X6 11 (Nat.le_of_ble_eq_true rfl) (List.mem_of_getElem? (i := 6) rfl) rfl dX6_duty_89 ?_
                refine lv_aload_n (pc := 92) hx hb dX6_duty_92 rfl (lv_at hl 0 rfl) ?_
                refine x_get (pc := 93) (Cn := RX6) (T := TX6) (N := 12) (ci := 7) (fs := G_fs η σ) (v := .ref (e_ad η 5)) C K P 0 rfl rfl inX6_duty_X6 4 (Nat.le_of_ble_eq_true rfl) (List.mem_of_getElem? (i := 3) rfl) rfl dX6_duty_93 ?_
                refine lv_aload_n (pc := 96) hx hb dX6_duty_96 rfl (lv_at hl 0 rfl) ?_
                refine N_callR (pc := 97) (As := []) (rest := [.ref (e_ad η 5), .int (σ.1 21)]) (r := g_dropsThatMove σ) (rc := RX6) C hN K hl.1 P.1 (P.2.1.weaken (fun _ _ _ _ => trivial)) (va_recv K P.1 (ci := 7) (q0 := 0) rfl rfl) (kX6_dropsThatMove l D cI cO η σ (hG.2.2.2.2.1 1 (by decide)).1) fnX6_dropsThatMove rfl gX6_duty_X6_dropsThatMove rfl rfl ⟨Nat.le_of_ble_eq_true rfl, Nat.le_of_ble_eq_true rfl⟩ (Nat.le_of_ble_eq_true rfl) ⟨Nat.le_of_ble_eq_true rfl, Nat.le_of_ble_eq_true rfl⟩ dX6_duty_97 ?_
                refine N_callR (pc := 100) (As := [.int (g_dropsThatMove σ)]) (rest := [.int (σ.1 21)]) (r := ex_dutyFor (σ.1 11) (σ.1 12) (1000000 - (σ.1 16)) (g_dropsThatMove σ)) (rc := RX1) C hN K.nil hl.1 (P.1.one (k := 5) rfl) (va_D.one trivial) (va_recv K P.1 (ci := 2) (q0 := 5) rfl rfl) (kX1_dutyFor l D _ (σ.1 11) (σ.1 12) (1000000 - (σ.1 16)) (g_dropsThatMove σ)) fnX1_dutyFor rfl gX6_duty_X1_dutyFor rfl rfl ⟨Nat.le_of_ble_eq_true rfl, Nat.le_of_ble_eq_true rfl⟩ (Nat.le_of_ble_eq_true rfl) ⟨Nat.le_of_ble_eq_true rfl, Nat.le_of_ble_eq_true rfl⟩ dX6_duty_100 ?_
                refine lv_isub (pc := 103) hx hb dX6_duty_103 ?_
                exact G_retX (pc := 104) (v := (σ.1 21) - (ex_dutyFor (σ.1 11) (σ.1 12) (1000000 - (σ.1 16)) (g_dropsThatMove σ))) (σ' := σ) C P rfl (by rw [g_duty, if_neg c_b, if_neg c_7, if_neg c_8, if_neg c_9, if_neg c_10, if_neg c_11, if_pos c_12]) ⟨Nat.le_of_ble_eq_true rfl, Nat.le_of_ble_eq_true rfl⟩ dX6_duty_104
              · refine lv_tableOut (pc := 1) (tgt := 105) hx hb dX6_duty_1 (tsw_out 6 p0 (by decide) (by intro k hk; match k, hk with | 0, _ => exact c_7 | 1, _ => exact c_8 | 2, _ => exact c_9 | 3, _ => exact c_10 | 4, _ => exact c_11 | 5, _ => exact c_12 | n + 6, hk => exact absurd hk (by omega))) (by decide) ?_
                exact G_throwW (pc := 105) (cls := "java/lang/IllegalArgumentException") C hl9 V hnx E9 P hl.1 (by rw [g_duty, if_neg c_b, if_neg c_7, if_neg c_8, if_neg c_9, if_neg c_10, if_neg c_11, if_neg c_12]; rfl) (by rw [g_duty, if_neg c_b, if_neg c_7, if_neg c_8, if_neg c_9, if_neg c_10, if_neg c_11, if_neg c_12]; exact (by decide : ¬ (2 : Int32) = 0)) otl_2 ca_2 (List.mem_of_getElem? (i := 1) rfl) (List.mem_of_getElem? (i := 2) rfl) (fun w h => List.mem_cons_of_mem _ (List.mem_append_right _ h)) (List.mem_of_getElem? (i := 33) rfl) dX6_duty_105 dX6_duty_108 dX6_duty_109 dX6_duty_112 dX6_duty_115 ⟨Nat.le_of_ble_eq_true rfl, Nat.le_of_ble_eq_true rfl⟩ ⟨Nat.le_of_ble_eq_true rfl, Nat.le_of_ble_eq_true rfl⟩ ⟨Nat.le_of_ble_eq_true rfl, Nat.le_of_ble_eq_true rfl⟩
