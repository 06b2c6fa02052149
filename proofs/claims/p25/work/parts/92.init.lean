def arF (a : Nat → Nat) : Nat → Nat := a
section LI
variable {p : Program} {l : Launch} {e : Env} {R : Room} {s : State} {m : MethodId} {args : Array Value} {below : List Frame} {meth : Method} {c : Code} {Q : State → Prop} {D : va_G} {A : Nat → Prop} {ret : Option FieldType} {cI cO : ClassId} {t0 : Nat} {ar : Nat → Nat} {g0 b N : Nat} {xs : Nat → Int32}
set_option maxHeartbeats 8000000 in
set_option maxRecDepth 100000 in
theorem law_init (hl9 : l.stackTraces = false) (C : Cx RL p s m args meth c cL_law 62 wsL_law ret) (V : EnvV s) (hEC : EnvC s) (K : va_K D vwCl (tyG cI cO) s) (E9 : EnvH t0 A s s.heap) (hX : va_X b N xs s s.heap) (hbl : b < s.heap.size) (hbA : ¬ A b) (hN : N < 2 ^ 31) (hRf : 12 ≤ R.frames) (hRl : 452 ≤ R.locals) (cm sm_ : Nat) (hcm : cm + 12 ≤ R.cells) (hsm : sm_ + 500 ≤ R.slots)
    (kk : ∀ (η : Eg) (σ L : Sg) (H : Heap) (locs : List Loc) (ls : Array Slot) (cells slots : Nat), II 5 σ L → Gok t0 η σ → e_ad η 0 = g0 → Hp D A s (G_W cI cO η σ ++ Z_W cI ar L) H locs → cells ≤ cm → slots ≤ sm_ → lv_has ls 62 [(10, .ref (ar 8)), (9, .ref (ar 7)), (8, .ref (ar 6)), (7, .ref (ar 5)), (6, .ref (ar 4)), (5, .ref (ar 3)), (4, .ref (ar 2)), (3, .ref (ar 1)), (2, .ref (ar 0)), (1, .ref g0), (0, .ref b)] → W p l e R s m args below meth c H locs cells slots Q (F0 m 121 ls [])) :
    ∀ (n i : Nat) (η : Eg) (σ L : Sg) (H : Heap) (locs : List Loc) (ls : Array Slot) (cells slots : Nat), i + n = 5 → cells + 12 * n ≤ cm → slots + 500 * n ≤ sm_ → II i σ L → Gok t0 η σ → e_ad η 0 = g0 → Hp D A s (G_W cI cO η σ ++ Z_W cI ar L) H locs → lv_has ls 62 [(11, .int (nI i)), (10, .ref (ar 8)), (9, .ref (ar 7)), (8, .ref (ar 6)), (7, .ref (ar 5)), (6, .ref (ar 4)), (5, .ref (ar 3)), (4, .ref (ar 2)), (3, .ref (ar 1)), (2, .ref (ar 0)), (1, .ref g0), (0, .ref b)] → W p l e R s m args below meth c H locs cells slots Q (F0 m 70 ls []) := by
  have hx := C.1
  have hb := C.2.1
  have hown := C.2.2.2.1
  have hts := C.2.2.2.2.1
  intro n
  induction n with
  | zero =>
    intro i η σ L H locs ls cells slots h1 h2 h3 hII hG hg P hl
    have c73 : (5 : Int32) ≤ nI i := (five_le (by omega)).mpr (by omega)
    have ei : i = 5 := by omega
    refine lv_iload (pc := 70) hx hb dL_law_70 (lv_at hl 0 rfl) ?_
    refine lv_iconst (pc := 72) (v := 5) hx hb dL_law_72 (by decide) ?_
    refine lv_icmp_ge (pc := 73) (tgt := 121) hx hb dL_law_73 (by decide) (fun _ => ?_) (fun g => absurd c73 g)
    exact kk η σ L _ _ ls _ _ (ei ▸ hII) hG hg P (by omega) (by omega) (lv_sub hl [1, 2, 3, 4, 5, 6, 7, 8, 9, 10, 11] rfl)
  | succ n ih =>
    intro i η σ L H locs ls cells slots h1 h2 h3 hII hG hg P hl
    have hi5 : i < 5 := by omega
    have c73 : ¬ (5 : Int32) ≤ nI i := fun q => by have := (five_le (k := i) (by omega)).mp q; omega
    refine lv_iload (pc := 70) hx hb dL_law_70 (lv_at hl 0 rfl) ?_
    refine lv_iconst (pc := 72) (v := 5) hx hb dL_law_72 (by decide) ?_
    refine lv_icmp_ge (pc := 73) (tgt := 121) hx hb dL_law_73 (by decide) (fun g => absurd g c73) (fun _ => ?_)
    refine lv_aload_n (pc := 76) hx hb dL_law_76 rfl (lv_at hl 9 rfl) ?_
    refine lv_iload (pc := 77) hx hb dL_law_77 (lv_at hl 0 rfl) ?_
    refine lv_sipush (pc := 79) (v := 500) hx hb dL_law_79 (by decide) ?_
    refine lv_aload_n (pc := 82) hx hb dL_law_82 rfl (lv_at hl 11 rfl) ?_
    refine lv_iload (pc := 83) hx hb dL_law_83 (lv_at hl 0 rfl) ?_
    refine Z_cell (pc := 85) (rest := [.int 500, .int (nI i), .ref (ar 0)]) C hX hbl hbA P.2.2.1 (nI_pos (by omega)) hN hl.1 gL_law_L_cell ⟨Nat.le_trans (Nat.le_of_ble_eq_true rfl) hRf, Nat.le_trans (Nat.le_of_ble_eq_true rfl) hRl⟩ (Nat.le_of_ble_eq_true rfl) ⟨by omega, by omega⟩ dL_law_85 ?_
    refine lv_sipush (pc := 88) (v := 6000) hx hb dL_law_88 (by decide) ?_
    refine S_call (pc := 91) (As := [.int (z_cell xs N (nI i)), .int 6000]) (rest := [.int 500, .int (nI i), .ref (ar 0)]) (r := z_low (z_cell xs N (nI i)) 6000) C hl.1 (kL_low l (z_cell xs N (nI i)) 6000 (by decide)) fnL_low gL_law_L_low rfl rfl ⟨Nat.le_trans (Nat.le_of_ble_eq_true rfl) hRf, Nat.le_trans (Nat.le_of_ble_eq_true rfl) hRl⟩ (Nat.le_of_ble_eq_true rfl) ⟨by omega, by omega⟩ dL_law_91 ?_
    refine lv_iadd (pc := 94) hx hb dL_law_94 ?_
    refine lv_topi (fun (cv : Int32) (hcv : cv = (500 + (z_low (z_cell xs N (nI i)) 6000) : Int32)) => ?_)
    have hcb := cap_b hcv
    refine Z_astN (pc := 95) (j := 0) (n := 5) (x := cv) C K P rfl (k := i) hi5 (by decide) rfl dL_law_95 (fun H locs (P : Hp D A s (G_W cI cO η σ ++ Z_W cI ar (bs L 0 i cv)) H locs) => ?_)
    refine lv_aload_n (pc := 96) hx hb dL_law_96 rfl (lv_at hl 10 rfl) ?_
    refine lv_iload (pc := 97) hx hb dL_law_97 (lv_at hl 0 rfl) ?_
    refine lv_iconst (pc := 99) (v := 3) hx hb dL_law_99 (by decide) ?_
    refine lv_irem (pc := 100) hx hb dL_law_100 (by decide) ?_
    rw [r3 hi5]
    refine lv_aload_n (pc := 101) hx hb dL_law_101 rfl (lv_at hl 9 rfl) ?_
    refine lv_iload (pc := 102) hx hb dL_law_102 (lv_at hl 0 rfl) ?_
    refine Z_aldN (pc := 104) (j := 0) (n := 5) (v := cv) C K P rfl (k := i) hi5 (by decide) bs_us dL_law_104 ?_
    have e1 : an (g_vessel σ (nI (i % 3)) cv) = (nI i) ∧ _ := p_ves hII hi5 hcb
    refine T_callW (pc := 105) (As0 := [.int (nI (i % 3)), .int cv]) (rest := []) (v := nI i) (τ := (g_vessel σ (nI (i % 3)) cv).2.2) C V hEC K E9 hl.1 hg P (kL_vessel l hl9 D cI cO t0 η σ (nI (i % 3)) cv hG) fnL_vessel ⟨e1.1, rfl⟩ gL_law_L_vessel rfl rfl ⟨Nat.le_trans (Nat.le_of_ble_eq_true rfl) hRf, Nat.le_trans (Nat.le_of_ble_eq_true rfl) hRl⟩ (Nat.le_of_ble_eq_true rfl) ⟨by omega, by omega⟩ dL_law_105 (fun η H locs (P : Hp D A s (G_W cI cO η (g_vessel σ (nI (i % 3)) cv).2.2 ++ Z_W cI ar (bs L 0 i cv)) H locs) (hG : Gok t0 η (g_vessel σ (nI (i % 3)) cv).2.2) hg => ?_)
    refine lv_iload (pc := 108) hx hb dL_law_108 (lv_at hl 0 rfl) ?_
    refine lv_icmp_eq (pc := 110) (tgt := 115) hx hb dL_law_110 (by decide) (fun _ => ?_) (fun g => absurd rfl g)
    refine lv_iinc (pc := 115) (v := nI (i + 1)) (lv' := [(11, .int (nI (i + 1))), (10, .ref (ar 8)), (9, .ref (ar 7)), (8, .ref (ar 6)), (7, .ref (ar 5)), (6, .ref (ar 4)), (5, .ref (ar 3)), (4, .ref (ar 2)), (3, .ref (ar 1)), (2, .ref (ar 0)), (1, .ref g0), (0, .ref b)]) hx hb dL_law_115 hl (k := 0) rfl ((nI_succ i).symm) (by decide) rfl (fun ls hl => ?_)
    refine lv_goto (pc := 118) (tgt := 70) hx hb dL_law_118 (by decide) ?_
    exact W.widen (k := cells + 12) (n := slots + 500) (by omega) (by omega) (ih (i + 1) η ((g_vessel σ (nI (i % 3)) cv).2.2) (bs L 0 i cv) _ _ ls _ _ (by omega) (by omega) (by omega) e1.2 hG hg P (lv_sub hl [0, 1, 2, 3, 4, 5, 6, 7, 8, 9, 10, 11] rfl))
end LI
