theorem pn_n {w m : Int32} (h : m = if w &&& 28672 = 0 then 60 else 6) : ¬ m = 0 := by
  rw [h]
  split <;> decide
theorem pn_b {w u m pn : Int32} (h : m = if w &&& 28672 = 0 then 60 else 6) (hp : pn = 1 + z_low u m) : 1 ≤ pn.toInt ∧ pn.toInt ≤ 60 := by
  have hm : 0 < m.toInt ∧ m.toInt ≤ 60 := by
    rw [h]
    split <;> decide
  obtain ⟨a, b⟩ := z_low_i u hm.1
  rw [hp, i_add (by rw [ti1]; omega) (by rw [ti1]; omega), ti1]
  omega
theorem pn_c {pn : Int32} (h : 1 ≤ pn.toInt ∧ pn.toInt ≤ 60) : Cz pn 60 := by
  obtain ⟨a, b⟩ := nat_i (x := pn) (by omega)
  exact ⟨a, by omega⟩
theorem pass_e {T : Nat} {σ L Y : Sg} {pn : Int32} {Z : Prop} (hY : Y = z_dw (ix pn) L) (hp : (an (g_pass σ pn) = (z_dw (ix pn) L).2 4 2 ∧ TI (T + 1) (g_pass σ pn).2.2 (z_dw (ix pn) L) ∧ (g_pass σ pn).2.2.1 8 = σ.1 8 ∧ (g_pass σ pn).2.2.1 9 = σ.1 9) ∧ Z) : an (g_pass σ pn) = Y.2 4 2 ∧ TI (T + 1) (g_pass σ pn).2.2 Y ∧ (g_pass σ pn).2.2.1 8 = σ.1 8 ∧ (g_pass σ pn).2.2.1 9 = σ.1 9 := by
  subst hY
  exact hp.1
section LC7
variable {p : Program} {l : Launch} {e : Env} {R : Room} {s : State} {m : MethodId} {args : Array Value} {below : List Frame} {meth : Method} {c : Code} {H : Heap} {locs : List Loc} {cells slots : Nat} {Q : State → Prop} {ls : Array Slot} {D : va_G} {A : Nat → Prop} {ret : Option FieldType} {cI cO : ClassId} {t0 : Nat} {η : Eg} {σ L : Sg} {ar : Nat → Nat} {g0 b T : Nat} {k o so hv u w : Int32}
set_option maxHeartbeats 8000000 in
set_option maxRecDepth 100000 in
theorem law_pass (hl9 : l.stackTraces = false) (C : Cx RL p s m args meth c cL_law 62 wsL_law ret) (V : EnvV s) (hEC : EnvC s) (K : va_K D vwCl (tyG cI cO) s) (E9 : EnvH t0 A s s.heap) (hRf : 12 ≤ R.frames) (hRl : 452 ≤ R.locals) (hz : cells + 400 ≤ R.cells ∧ slots + 2400 ≤ R.slots) (hT : T < 120) (hTI : TI T σ L) (hG : Gok t0 η σ) (hg : e_ad η 0 = g0) (P : Hp D A s (G_W cI cO η σ ++ Z_W cI ar L) H locs) (hk : vp_in k 5) (ho : vp_in o 5) (hso : 1 ≤ so.toInt ∧ so.toInt ≤ 10002) (hhv : hv = if L.2 1 (ix k) < so then 0 else 1) (hl : lv_has ls 62 [(20, .int 1), (19, .int hv), (18, .int so), (17, .int o), (16, .int k), (15, .int u), (14, .int w), (13, .int (nI T)), (12, .int (σ.1 9)), (11, .int (σ.1 8)), (10, .ref (ar 8)), (9, .ref (ar 7)), (8, .ref (ar 6)), (7, .ref (ar 5)), (6, .ref (ar 4)), (5, .ref (ar 3)), (4, .ref (ar 2)), (3, .ref (ar 1)), (2, .ref (ar 0)), (1, .ref g0), (0, .ref b)]) (kk : ∀ (η : Eg) (σ L : Sg) (H : Heap) (locs : List Loc) (ls : Array Slot), TI (T + 1) σ L → Gok t0 η σ → e_ad η 0 = g0 → Hp D A s (G_W cI cO η σ ++ Z_W cI ar L) H locs → lv_has ls 62 [(20, .int 1), (13, .int (nI T)), (12, .int (σ.1 9)), (11, .int (σ.1 8)), (10, .ref (ar 8)), (9, .ref (ar 7)), (8, .ref (ar 6)), (7, .ref (ar 5)), (6, .ref (ar 4)), (5, .ref (ar 3)), (4, .ref (ar 2)), (3, .ref (ar 1)), (2, .ref (ar 0)), (1, .ref g0), (0, .ref b)] → W p l e R s m args below meth c H locs (cells + 12) (slots + 500) Q (F0 m 2755 ls [])) : W p l e R s m args below meth c H locs cells slots Q (F0 m 2664 ls []) := by
  have hx := C.1
  have hb := C.2.1
  have hown := C.2.2.2.1
  have hts := C.2.2.2.2.1
  refine lv_iconst (pc := 2664) (v := 1) hx hb dL_law_2664 (by decide) ?_
  refine lv_iload (pc := 2665) hx hb dL_law_2665 (lv_at hl 5 rfl) ?_
  refine lv_iload (pc := 2667) hx hb dL_law_2667 (lv_at hl 6 rfl) ?_
  refine lv_sipush (pc := 2669) (v := 28672) hx hb dL_law_2669 (by decide) ?_
  refine lv_iand (pc := 2672) hx hb dL_law_2672 ?_
  refine lv_mergeI (M := 2683) (T := if (w &&& 28672) = 0 then 60 else 6) (rest := [.int u, .int 1]) (fun hm => ?_) (fun (m2673 : Int32) (hm2673 : m2673 = (if (w &&& 28672) = 0 then 60 else 6 : Int32)) => ?_)
  · refine lv_if_ne (pc := 2673) (tgt := 2681) hx hb dL_law_2673 (by decide) (fun (c2673 : ¬ (w &&& 28672) = 0) => ?_) (fun (c2673 : (w &&& 28672) = 0) => ?_)
    · refine lv_bipush (pc := 2681) (v := 6) hx hb dL_law_2681 (by decide) ?_
      exact hm _ (by rw [if_neg c2673])
    · refine lv_bipush (pc := 2676) (v := 60) hx hb dL_law_2676 (by decide) ?_
      refine lv_goto (pc := 2678) (tgt := 2683) hx hb dL_law_2678 (by decide) ?_
      exact hm _ (by rw [if_pos c2673])
  refine S_call (pc := 2683) (As := [.int u, .int m2673]) (rest := [.int 1]) (r := z_low u m2673) C hl.1 (kL_low l u m2673 (pn_n hm2673)) fnL_low gL_law_L_low rfl rfl ⟨Nat.le_trans (Nat.le_of_ble_eq_true rfl) hRf, Nat.le_trans (Nat.le_of_ble_eq_true rfl) hRl⟩ (Nat.le_of_ble_eq_true rfl) ⟨by omega, by omega⟩ dL_law_2683 ?_
  refine lv_iadd (pc := 2686) hx hb dL_law_2686 ?_
  refine lv_topi (fun (pn : Int32) (hpn : pn = (1 + (z_low u m2673) : Int32)) => ?_)
  have hpb := pn_b hm2673 hpn
  refine lv_istore (pc := 2687) (lv' := [(60, .int pn), (20, .int 1), (19, .int hv), (18, .int so), (17, .int o), (16, .int k), (15, .int u), (14, .int w), (13, .int (nI T)), (12, .int (σ.1 9)), (11, .int (σ.1 8)), (10, .ref (ar 8)), (9, .ref (ar 7)), (8, .ref (ar 6)), (7, .ref (ar 5)), (6, .ref (ar 4)), (5, .ref (ar 3)), (4, .ref (ar 2)), (3, .ref (ar 1)), (2, .ref (ar 0)), (1, .ref g0), (0, .ref b)]) hx hb dL_law_2687 hl (by decide) rfl (fun ls hl => ?_)
  refine lv_aload (pc := 2689) hx hb dL_law_2689 (lv_at hl 15 rfl) ?_
  refine lv_iconst (pc := 2691) (v := 0) hx hb dL_law_2691 (by decide) ?_
  refine Z_ald (pc := 2692) (j := 4) (v := L.2 4 0) C K P rfl (vp_dec (by decide)) rfl dL_law_2692 ?_
  refine lv_iload (pc := 2693) hx hb dL_law_2693 (lv_at hl 0 rfl) ?_
  refine lv_iadd (pc := 2695) hx hb dL_law_2695 ?_
  refine lv_sipush (pc := 2696) (v := 900) hx hb dL_law_2696 (by decide) ?_
  refine lv_icmp_le (pc := 2699) (tgt := 2705) hx hb dL_law_2699 (by decide) (fun (c2699 : ((L.2 4 0) + pn) ≤ 900) => ?_) (fun (c2699 : ¬ ((L.2 4 0) + pn) ≤ 900) => ?_)
  · have hp := p_pass hT hTI hpb c2699
    have hcp : Cz pn 60 := pn_c hpb
    have endE : ∀ (Y : Sg), Y = z_dw (ix pn) L → ∀ (H : Heap) (locs : List Loc) (P : Hp D A s (G_W cI cO η σ ++ Z_W cI ar Y) H locs) (ls : Array Slot), lv_has ls 62 [(60, .int pn), (20, .int 1), (19, .int hv), (18, .int so), (17, .int o), (16, .int k), (15, .int u), (14, .int w), (13, .int (nI T)), (12, .int (σ.1 9)), (11, .int (σ.1 8)), (10, .ref (ar 8)), (9, .ref (ar 7)), (8, .ref (ar 6)), (7, .ref (ar 5)), (6, .ref (ar 4)), (5, .ref (ar 3)), (4, .ref (ar 2)), (3, .ref (ar 1)), (2, .ref (ar 0)), (1, .ref g0), (0, .ref b)] → W p l e R s m args below meth c H locs cells slots Q (F0 m 2735 ls []) := by
      intro Y hY H locs P ls hl
      refine lv_aload_n (pc := 2735) hx hb dL_law_2735 rfl (lv_at hl 20 rfl) ?_
      refine lv_iload (pc := 2736) hx hb dL_law_2736 (lv_at hl 0 rfl) ?_
      have e1 : an (g_pass σ pn) = (Y.2 4 2) ∧ _ := pass_e hY hp
      refine T_callW (pc := 2738) (As0 := [.int pn]) (rest := []) (v := Y.2 4 2) (τ := (g_pass σ pn).2.2) C V hEC K E9 hl.1 hg P (kL_pass l hl9 D cI cO t0 η σ pn hG) fnL_pass ⟨e1.1, rfl⟩ gL_law_L_pass rfl rfl ⟨Nat.le_trans (Nat.le_of_ble_eq_true rfl) hRf, Nat.le_trans (Nat.le_of_ble_eq_true rfl) hRl⟩ (Nat.le_of_ble_eq_true rfl) ⟨by omega, by omega⟩ dL_law_2738 (fun η H locs (P : Hp D A s (G_W cI cO η (g_pass σ pn).2.2 ++ Z_W cI ar Y) H locs) (hG : Gok t0 η (g_pass σ pn).2.2) hg => ?_)
      refine lv_aload (pc := 2741) hx hb dL_law_2741 (lv_at hl 15 rfl) ?_
      refine lv_iconst (pc := 2743) (v := 2) hx hb dL_law_2743 (by decide) ?_
      refine Z_ald (pc := 2744) (j := 4) (v := Y.2 4 2) C K P rfl (vp_dec (by decide)) rfl dL_law_2744 ?_
      refine lv_icmp_ne (pc := 2745) (tgt := 2752) hx hb dL_law_2745 (by decide) (fun g => absurd rfl g) (fun _ => ?_)
      refine lv_iconst (pc := 2748) (v := 1) hx hb dL_law_2748 (by decide) ?_
      refine lv_goto (pc := 2749) (tgt := 2753) hx hb dL_law_2749 (by decide) ?_
      refine lv_istore (pc := 2753) (lv' := [(20, .int 1), (60, .int pn), (19, .int hv), (18, .int so), (17, .int o), (16, .int k), (15, .int u), (14, .int w), (13, .int (nI T)), (12, .int (σ.1 9)), (11, .int (σ.1 8)), (10, .ref (ar 8)), (9, .ref (ar 7)), (8, .ref (ar 6)), (7, .ref (ar 5)), (6, .ref (ar 4)), (5, .ref (ar 3)), (4, .ref (ar 2)), (3, .ref (ar 1)), (2, .ref (ar 0)), (1, .ref g0), (0, .ref b)]) hx hb dL_law_2753 hl (by decide) rfl (fun ls hl => ?_)
      exact W.widen (by omega) (by omega) (kk η ((g_pass σ pn).2.2) Y _ _ ls e1.2.1 hG hg P (by rw [e1.2.2.1, e1.2.2.2]; exact (lv_sub hl [0, 8, 9, 10, 11, 12, 13, 14, 15, 16, 17, 18, 19, 20, 21] rfl)))
    have loop2 : ∀ (n i : Nat), i ≤ ix pn → ix pn < i + n → ∀ (H : Heap) (locs : List Loc) (P : Hp D A s (G_W cI cO η σ ++ Z_W cI ar (z_dw i L)) H locs) (ls : Array Slot), lv_has ls 62 [(61, .int (nI i)), (60, .int pn), (20, .int 1), (19, .int hv), (18, .int so), (17, .int o), (16, .int k), (15, .int u), (14, .int w), (13, .int (nI T)), (12, .int (σ.1 9)), (11, .int (σ.1 8)), (10, .ref (ar 8)), (9, .ref (ar 7)), (8, .ref (ar 6)), (7, .ref (ar 5)), (6, .ref (ar 4)), (5, .ref (ar 3)), (4, .ref (ar 2)), (3, .ref (ar 1)), (2, .ref (ar 0)), (1, .ref g0), (0, .ref b)] → W p l e R s m args below meth c H locs cells slots Q (F0 m 2708 ls []) := by
      intro n
      induction n with
      | zero => intro i h1 h2; exact absurd h2 (by omega)
      | succ n ih =>
        intro i h1 h2 H locs P ls hl
        refine lv_iload (pc := 2708) hx hb dL_law_2708 (lv_at hl 0 rfl) ?_
        refine lv_iload (pc := 2710) hx hb dL_law_2710 (lv_at hl 1 rfl) ?_
        refine lv_icmp_ge (pc := 2712) (tgt := 2735) hx hb dL_law_2712 (by decide) (fun (c2712 : pn ≤ (nI i)) => ?_) (fun (c2712 : ¬ pn ≤ (nI i)) => ?_)
        · have ei : i = ix pn := lz_end hcp c2712 h1
          exact endE _ (by rw [ei]) _ _ P ls (lv_sub hl [1, 2, 3, 4, 5, 6, 7, 8, 9, 10, 11, 12, 13, 14, 15, 16, 17, 18, 19, 20, 21, 22] rfl)
        · have hi : i < ix pn := lz_in hcp c2712 h1
          refine lv_aload_n (pc := 2715) hx hb dL_law_2715 rfl (lv_at hl 19 rfl) ?_
          refine lv_aload (pc := 2716) hx hb dL_law_2716 (lv_at hl 18 rfl) ?_
          refine lv_aload (pc := 2718) hx hb dL_law_2718 (lv_at hl 17 rfl) ?_
          refine lv_aload (pc := 2720) hx hb dL_law_2720 (lv_at hl 16 rfl) ?_
          refine lv_aload (pc := 2722) hx hb dL_law_2722 (lv_at hl 13 rfl) ?_
          refine lv_aload (pc := 2724) hx hb dL_law_2724 (lv_at hl 12 rfl) ?_
          refine Z_callv (pc := 2726) (As := [.ref (ar 1), .ref (ar 2), .ref (ar 3), .ref (ar 4), .ref (ar 7), .ref (ar 8)]) (rest := []) C K P hl.1 (kL_dawn l D cI ar (z_dw i L) (cz10 (hp.2 i h1))) fnL_dawn gL_law_L_dawn rfl rfl ⟨Nat.le_trans (Nat.le_of_ble_eq_true rfl) hRf, Nat.le_trans (Nat.le_of_ble_eq_true rfl) hRl⟩ (Nat.le_of_ble_eq_true rfl) ⟨by omega, by omega⟩ dL_law_2726 (fun H locs (P : Hp D A s (G_W cI cO η σ ++ Z_W cI ar (z_dawn (z_dw i L)).2) H locs) => ?_)
          refine lv_iinc (pc := 2729) (v := nI (i + 1)) (lv' := [(61, .int (nI (i + 1))), (60, .int pn), (20, .int 1), (19, .int hv), (18, .int so), (17, .int o), (16, .int k), (15, .int u), (14, .int w), (13, .int (nI T)), (12, .int (σ.1 9)), (11, .int (σ.1 8)), (10, .ref (ar 8)), (9, .ref (ar 7)), (8, .ref (ar 6)), (7, .ref (ar 5)), (6, .ref (ar 4)), (5, .ref (ar 3)), (4, .ref (ar 2)), (3, .ref (ar 1)), (2, .ref (ar 0)), (1, .ref g0), (0, .ref b)]) hx hb dL_law_2729 hl (k := 0) rfl ((nI_succ i).symm) (by decide) rfl (fun ls hl => ?_)
          refine lv_goto (pc := 2732) (tgt := 2708) hx hb dL_law_2732 (by decide) ?_
          exact ih (i + 1) hi (by omega) _ _ P ls (lv_sub hl [0, 1, 2, 3, 4, 5, 6, 7, 8, 9, 10, 11, 12, 13, 14, 15, 16, 17, 18, 19, 20, 21, 22] rfl)
    refine lv_iconst (pc := 2705) (v := 0) hx hb dL_law_2705 (by decide) ?_
    refine lv_istore (pc := 2706) (lv' := [(61, .int 0), (60, .int pn), (20, .int 1), (19, .int hv), (18, .int so), (17, .int o), (16, .int k), (15, .int u), (14, .int w), (13, .int (nI T)), (12, .int (σ.1 9)), (11, .int (σ.1 8)), (10, .ref (ar 8)), (9, .ref (ar 7)), (8, .ref (ar 6)), (7, .ref (ar 5)), (6, .ref (ar 4)), (5, .ref (ar 3)), (4, .ref (ar 2)), (3, .ref (ar 1)), (2, .ref (ar 0)), (1, .ref g0), (0, .ref b)]) hx hb dL_law_2706 hl (by decide) rfl (fun ls hl => ?_)
    exact loop2 (ix pn + 1) 0 (Nat.zero_le _) (by omega) _ _ P ls (lv_sub hl [0, 1, 2, 3, 4, 5, 6, 7, 8, 9, 10, 11, 12, 13, 14, 15, 16, 17, 18, 19, 20, 21, 22] rfl)
  · refine lv_goto (pc := 2702) (tgt := 2755) hx hb dL_law_2702 (by decide) ?_
    exact W.widen (by omega) (by omega) (kk η σ L _ _ ls (ti_up hTI) hG hg P (lv_sub hl [1, 8, 9, 10, 11, 12, 13, 14, 15, 16, 17, 18, 19, 20, 21] rfl))
end LC7
