theorem p_end_1 {T : Nat} {σ L : Sg} (h : TI T σ L) : an (g_release σ 5 1) = -2000000001 ∧ (g_release σ 5 1).2.2 = σ := by
  refine an_123i (r_release h.1 5 1).1 (v := 0) ?_
  have e : m_isVessel σ 5 = 0 := by rw [m_isVessel, h.2.1.1]; decide
  have e2 : m_asksPart σ 5 1 = (1, 0) := by rw [m_asksPart, if_pos e]
  rw [m_release, e2, if_pos rfl]
theorem p_end_2 {T : Nat} {σ L : Sg} (h : TI T σ L) : an (g_run σ 0 0 1 1 1) = -2000000002 ∧ (g_run σ 0 0 1 1 1).2.2 = σ := by
  refine an_123r (r_run h.1 0 0 1 1 1).1 (v := 0) ?_
  have e : m_isVessel σ 0 = 1 := by rw [m_isVessel, h.2.1.1]; decide
  rw [m_run, if_pos (by decide), if_neg (by rw [e]; exact one_ne0)]
section LC9
variable {p : Program} {l : Launch} {e : Env} {R : Room} {s : State} {m : MethodId} {args : Array Value} {below : List Frame} {meth : Method} {c : Code} {Q : State → Prop} {D : va_G} {A : Nat → Prop} {ret : Option FieldType} {cI cO : ClassId} {t0 : Nat} {ar : Nat → Nat} {g0 b N : Nat} {xs : Nat → Int32}
set_option maxHeartbeats 8000000 in
set_option maxRecDepth 100000 in
theorem law_loop (hl9 : l.stackTraces = false) (C : Cx RL p s m args meth c cL_law 62 wsL_law ret) (V : EnvV s) (hEC : EnvC s) (K : va_K D vwCl (tyG cI cO) s) (E9 : EnvH t0 A s s.heap) (hX : va_X b N xs s s.heap) (hbl : b < s.heap.size) (hbA : ¬ A b) (hN : N < 2 ^ 31) (hRf : 12 ≤ R.frames) (hRl : 452 ≤ R.locals) (cm sm_ : Nat) (hcm : cm + 40 ≤ R.cells) (hsm : sm_ + 2000 ≤ R.slots)
    (kend : ∀ (H : Heap) (locs : List Loc) (ls : Array Slot) (cells slots : Nat), va_S A s.heap H locs → cells ≤ cm + 40 → slots ≤ sm_ + 2000 → W p l e R s m args below meth c H locs cells slots Q (F0 m 2819 ls [.int 1])) :
    ∀ (n T : Nat) (η : Eg) (σ L : Sg) (H : Heap) (locs : List Loc) (ls : Array Slot) (cells slots : Nat), T + n = 120 → cells + 400 * n ≤ cm → slots + 2400 * n ≤ sm_ → TI T σ L → Gok t0 η σ → e_ad η 0 = g0 → Hp D A s (G_W cI cO η σ ++ Z_W cI ar L) H locs → lv_has ls 62 [(13, .int (nI T)), (12, .int (σ.1 9)), (11, .int (σ.1 8)), (10, .ref (ar 8)), (9, .ref (ar 7)), (8, .ref (ar 6)), (7, .ref (ar 5)), (6, .ref (ar 4)), (5, .ref (ar 3)), (4, .ref (ar 2)), (3, .ref (ar 1)), (2, .ref (ar 0)), (1, .ref g0), (0, .ref b)] → W p l e R s m args below meth c H locs cells slots Q (F0 m 130 ls []) := by
  have hx := C.1
  have hb := C.2.1
  have hown := C.2.2.2.1
  have hts := C.2.2.2.2.1
  intro n
  induction n with
  | zero =>
    intro T η σ L H locs ls cells slots h1 h2 h3 hTI hG hg P hl
    have c134 : (120 : Int32) ≤ nI T := (t_lt (by omega)).mpr (by omega)
    refine lv_iload (pc := 130) hx hb dL_law_130 (lv_at hl 0 rfl) ?_
    refine lv_bipush (pc := 132) (v := 120) hx hb dL_law_132 (by decide) ?_
    refine lv_icmp_ge (pc := 134) (tgt := 2789) hx hb dL_law_134 (by decide) (fun _ => ?_) (fun g => absurd c134 g)
    refine lv_aload_n (pc := 2789) hx hb dL_law_2789 rfl (lv_at hl 12 rfl) ?_
    refine lv_iconst (pc := 2790) (v := 5) hx hb dL_law_2790 (by decide) ?_
    refine lv_iconst (pc := 2791) (v := 1) hx hb dL_law_2791 (by decide) ?_
    have e1 : an (g_release σ 5 1) = (-2000000001) ∧ _ := p_end_1 hTI
    refine T_callW (pc := 2792) (As0 := [.int 5, .int 1]) (rest := []) (v := (-2000000001)) (τ := (g_release σ 5 1).2.2) C V hEC K E9 hl.1 hg P (kL_release l hl9 D cI cO t0 η σ 5 1 hG) fnL_release ⟨e1.1, rfl⟩ gL_law_L_release rfl rfl ⟨Nat.le_trans (Nat.le_of_ble_eq_true rfl) hRf, Nat.le_trans (Nat.le_of_ble_eq_true rfl) hRl⟩ (Nat.le_of_ble_eq_true rfl) ⟨by omega, by omega⟩ dL_law_2792 (fun η H locs (P : Hp D A s (G_W cI cO η (g_release σ 5 1).2.2 ++ Z_W cI ar L) H locs) (hG : Gok t0 η (g_release σ 5 1).2.2) hg => ?_)
    refine lv_ldc (pc := 2795) (v := (-2000000001)) hx hb hown (hts _ lc_16) dL_law_2795 ?_
    refine lv_icmp_ne (pc := 2797) (tgt := 2818) hx hb dL_law_2797 (by decide) (fun h => absurd h (by decide)) (fun _ => ?_)
    rw [e1.2] at P hG
    refine lv_aload_n (pc := 2800) hx hb dL_law_2800 rfl (lv_at hl 12 rfl) ?_
    refine lv_iconst (pc := 2801) (v := 0) hx hb dL_law_2801 (by decide) ?_
    refine lv_iconst (pc := 2802) (v := 0) hx hb dL_law_2802 (by decide) ?_
    refine lv_iconst (pc := 2803) (v := 1) hx hb dL_law_2803 (by decide) ?_
    refine lv_iconst (pc := 2804) (v := 1) hx hb dL_law_2804 (by decide) ?_
    refine lv_iconst (pc := 2805) (v := 1) hx hb dL_law_2805 (by decide) ?_
    have e1 : an (g_run σ 0 0 1 1 1) = (-2000000002) ∧ _ := p_end_2 hTI
    refine T_callW (pc := 2806) (As0 := [.int 0, .int 0, .int 1, .int 1, .int 1]) (rest := []) (v := (-2000000002)) (τ := (g_run σ 0 0 1 1 1).2.2) C V hEC K E9 hl.1 hg P (kL_run l hl9 D cI cO t0 η σ 0 0 1 1 1 hG (fun _ => gk_run hG _ _ _ _ _)) fnL_run ⟨e1.1, rfl⟩ gL_law_L_run rfl rfl ⟨Nat.le_trans (Nat.le_of_ble_eq_true rfl) hRf, Nat.le_trans (Nat.le_of_ble_eq_true rfl) hRl⟩ (Nat.le_of_ble_eq_true rfl) ⟨by omega, by omega⟩ dL_law_2806 (fun η H locs (P : Hp D A s (G_W cI cO η (g_run σ 0 0 1 1 1).2.2 ++ Z_W cI ar L) H locs) (hG : Gok t0 η (g_run σ 0 0 1 1 1).2.2) hg => ?_)
    refine lv_ldc (pc := 2809) (v := (-2000000002)) hx hb hown (hts _ lc_19) dL_law_2809 ?_
    refine lv_icmp_ne (pc := 2811) (tgt := 2818) hx hb dL_law_2811 (by decide) (fun h => absurd h (by decide)) (fun _ => ?_)
    refine lv_iconst (pc := 2814) (v := 1) hx hb dL_law_2814 (by decide) ?_
    refine lv_goto (pc := 2815) (tgt := 2819) hx hb dL_law_2815 (by decide) ?_
    exact kend _ _ _ _ _ P.2.2.1 (by omega) (by omega)
  | succ n ih =>
    intro T η σ L H locs ls cells slots h1 h2 h3 hTI hG hg P hl
    have c134 : ¬ (120 : Int32) ≤ nI T := fun q => by have := (t_lt (T := T) (by omega)).mp q; omega
    refine lv_iload (pc := 130) hx hb dL_law_130 (lv_at hl 0 rfl) ?_
    refine lv_bipush (pc := 132) (v := 120) hx hb dL_law_132 (by decide) ?_
    refine lv_icmp_ge (pc := 134) (tgt := 2789) hx hb dL_law_134 (by decide) (fun g => absurd g c134) (fun _ => ?_)
    refine law_turn hl9 C V hEC K E9 hX hbl hbA hN hRf hRl ⟨by omega, by omega⟩ (by omega) hTI hG hg P (lv_sub hl [0, 1, 2, 3, 4, 5, 6, 7, 8, 9, 10, 11, 12, 13] rfl) (fun η σ L H locs ls hTI hG hg P hl => ?_)
    refine lv_iload (pc := 2755) hx hb dL_law_2755 (lv_at hl 0 rfl) ?_
    refine lv_if_eq (pc := 2757) (tgt := 2781) hx hb dL_law_2757 (by decide) (fun h => absurd h (by decide)) (fun _ => ?_)
    refine lv_aload_n (pc := 2760) hx hb dL_law_2760 rfl (lv_at hl 13 rfl) ?_
    refine lv_iload (pc := 2761) hx hb dL_law_2761 (lv_at hl 1 rfl) ?_
    refine lv_aload_n (pc := 2763) hx hb dL_law_2763 rfl (lv_at hl 12 rfl) ?_
    refine lv_aload_n (pc := 2764) hx hb dL_law_2764 rfl (lv_at hl 11 rfl) ?_
    refine lv_aload (pc := 2765) hx hb dL_law_2765 (lv_at hl 10 rfl) ?_
    refine lv_aload (pc := 2767) hx hb dL_law_2767 (lv_at hl 8 rfl) ?_
    refine lv_aload (pc := 2769) hx hb dL_law_2769 (lv_at hl 7 rfl) ?_
    refine lv_aload (pc := 2771) hx hb dL_law_2771 (lv_at hl 5 rfl) ?_
    refine lv_aload (pc := 2773) hx hb dL_law_2773 (lv_at hl 4 rfl) ?_
    refine T_call (pc := 2775) (As := [.ref g0, .int (nI T), .ref (ar 0), .ref (ar 1), .ref (ar 2), .ref (ar 4), .ref (ar 5), .ref (ar 7), .ref (ar 8)]) (rest := []) C V hEC K E9 hl.1 P (kL_isTold l hl9 D cI cO t0 η σ ar L g0 T (by omega) hTI.1 hTI.2.1 hTI.2.2.1 (cons_L hTI) hG hg) fnL_isTold gL_law_L_isTold rfl rfl ⟨Nat.le_trans (Nat.le_of_ble_eq_true rfl) hRf, Nat.le_trans (Nat.le_of_ble_eq_true rfl) hRl⟩ (Nat.le_of_ble_eq_true rfl) ⟨by omega, by omega⟩ dL_law_2775 (fun η H locs (P : Hp D A s (G_W cI cO η σ ++ Z_W cI ar L) H locs) hG hg => ?_)
    refine lv_if_ne (pc := 2778) (tgt := 2783) hx hb dL_law_2778 (by decide) (fun _ => ?_) (fun h => absurd h (by decide))
    refine lv_iinc (pc := 2783) (v := nI (T + 1)) (lv' := [(13, .int (nI (T + 1))), (20, .int 1), (12, .int (σ.1 9)), (11, .int (σ.1 8)), (10, .ref (ar 8)), (9, .ref (ar 7)), (8, .ref (ar 6)), (7, .ref (ar 5)), (6, .ref (ar 4)), (5, .ref (ar 3)), (4, .ref (ar 2)), (3, .ref (ar 1)), (2, .ref (ar 0)), (1, .ref g0), (0, .ref b)]) hx hb dL_law_2783 hl (k := 1) rfl ((nI_succ T).symm) (by decide) rfl (fun ls hl => ?_)
    refine lv_goto (pc := 2786) (tgt := 130) hx hb dL_law_2786 (by decide) ?_
    exact W.widen (k := cells + 400) (n := slots + 2400) (by omega) (by omega) (ih (T + 1) η σ L _ _ ls _ _ (by omega) (by omega) (by omega) hTI hG hg P (lv_sub hl [0, 2, 3, 4, 5, 6, 7, 8, 9, 10, 11, 12, 13, 14] rfl))
end LC9
