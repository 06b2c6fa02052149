section GR3
variable {p : Program} {l : Launch} {e : Env} {R : Room} {s : State} {m : MethodId} {args : Array Value} {below : List Frame} {meth : Method} {c : Code} {H : Heap} {locs : List Loc} {cells slots mc ms : Nat} {Q : State → Prop} {cc : ByteArray} {pc : Nat} {ls : Array Slot} {rest st0 : List Value} {Ts : List Cond} {nL : Nat} {D : va_G} {A : Nat → Prop} {ret : Option FieldType} {cI cO : ClassId} {η η' : Eg} {σ σ' : Sg} {t0 g0 : Nat}
theorem G_retE {f : Int32 × Int32 × Sg} {v : Int32} {XC : String → State → State → Prop} {W0 : va_W} (C : Cx RX6 p s m args meth c cc nL Ts (some .int)) (P : Hp D A s W0 H locs) (hw : W0 = G_W cI cO η' σ') (he : f = (0, v, σ')) (hG : Gok t0 η' σ') (h0 : e_ad η' 0 = g0) (hm : cells ≤ mc ∧ slots ≤ ms) (d : decode cc pc = .ok (.ireturn, 1)) :
    W p l e R s m args below meth c H locs cells slots (vx_MQ below (Q_e D cI cO t0 f g0 A) XC args s mc ms A) (F0 m pc ls [.int v]) := by
  have hlocks := C.2.2.2.2.2.2
  subst hw
  subst he
  exact W.widen hm.1 hm.2 (vx_ret (W.iret C.1 C.2.1 C.2.2.2.2.2.1 (fun t ht hW => ⟨⟨v, η', rfl, ⟨rfl, rfl, hG, h0⟩, by show va_P D vwCl _ t.heap; rw [ht]; exact P.1, P.2.1⟩, P.2.2.1.F ht⟩) P.2.2.1.2.2 d))
theorem G_retEv {f : Int32 × Int32 × Sg} {v : Int32} {XC : String → State → State → Prop} {W0 : va_W} (C : Cx RX6 p s m args meth c cc nL Ts none) (P : Hp D A s W0 H locs) (hw : W0 = G_W cI cO η' σ') (he : f = (0, v, σ')) (hG : Gok t0 η' σ') (h0 : e_ad η' 0 = g0) (hm : cells ≤ mc ∧ slots ≤ ms) (d : decode cc pc = .ok (.return_, 1)) :
    W p l e R s m args below meth c H locs cells slots (vx_MQ below (Q_ev D cI cO t0 f g0 A) XC args s mc ms A) (F0 m pc ls []) := by
  have hlocks := C.2.2.2.2.2.2
  subst hw
  subst he
  exact W.widen hm.1 hm.2 (vx_ret (W.vret C.1 C.2.1 C.2.2.2.2.2.1 (fun t ht hW => ⟨⟨η', rfl, ⟨rfl, hG, h0⟩, by show va_P D vwCl _ t.heap; rw [ht]; exact P.1, P.2.1⟩, P.2.2.1.F ht⟩) P.2.2.1.2.2 d))
end GR3
theorem g_dpre_z {j : Nat} (h1 : j ≠ 1) (h11 : j ≠ 11) (h13 : j ≠ 13) (h16 : j ≠ 16) (σ : Sg) : (g_dpre σ).1 j = σ.1 j := by
  rw [g_dpre]
  repeat' split
  all_goals simp only [zs, pk_un h1, pk_un h11, pk_un h13, pk_un h16]
theorem g_dpre_13 (σ : Sg) : (g_dpre σ).1 13 = (-1) ∨ (g_dpre σ).1 13 = σ.1 13 := by
  rw [g_dpre]
  repeat' split
  all_goals first | exact Or.inr rfl | exact Or.inl rfl
theorem g_dpre_b (σ : Sg) : (g_dpre σ).2 = σ.2 := by
  rw [g_dpre]
  repeat' split
  all_goals rfl
theorem g_dtail_b {j : Nat} (h5 : j ≠ 5) (h6 : j ≠ 6) (h10 : j ≠ 10) (h23 : j ≠ 23) (S : Sg) : (g_dtail S).2 j = S.2 j := by
  have e : (g_takeShares (g_loseLateMovements S)).2 j = S.2 j := by rw [g_takeShares, g_shr_b h5 h6 h10, g_loseLateMovements, g_lat_b h23 h10]
  rw [g_dtail]
  repeat' split
  all_goals exact e
theorem g_bd_z {j : Nat} (h1 : j ≠ 1) (h11 : j ≠ 11) (h12 : j ≠ 12) (h13 : j ≠ 13) (h16 : j ≠ 16) (σ : Sg) : (g_beginDay σ).1 j = σ.1 j := by rw [g_beginDay, g_dtail_z h12, g_dpre_z h1 h11 h13 h16]
theorem Cnt_of {σ τ : Sg} {j n : Nat} (h : Cnt σ j n) (e : τ.1 j = σ.1 j) : Cnt τ j n := by unfold Cnt at h ⊢; rw [e]; exact h
theorem csl_cases {j : Nat} (h : j < 3) : csl j = 2 ∨ csl j = 22 ∨ csl j = 18 := by
  rcases (by omega : j = 0 ∨ j = 1 ∨ j = 2) with rfl | rfl | rfl
  · exact Or.inl rfl
  · exact Or.inr (Or.inl rfl)
  · exact Or.inr (Or.inr rfl)
theorem Lok_nb {η : Eg} {σ τ ρ : Sg} {j : Nat} (h : Lok η σ j) (e : τ.1 (csl j) = σ.1 (csl j)) : Lok (nb η ρ) τ j := Lok_of (η := nb η ρ) (σ := σ) h e
/-- what a change of the state that keeps the counts and the ways keeps -/
theorem Gok_of {t0 : Nat} {η : Eg} {σ τ : Sg} (hG : Gok t0 η σ) (e2 : τ.1 2 = σ.1 2) (e22 : τ.1 22 = σ.1 22) (e18 : τ.1 18 = σ.1 18) (e13 : τ.1 13 = σ.1 13) (e24 : τ.2 24 = σ.2 24) : Gok t0 η τ := by
  obtain ⟨h1, h2, h3, h4, h5, h6⟩ := hG
  refine ⟨Cnt_of h1 e2, Cnt_of h2 e22, Cnt_of h3 e18, by rw [e13]; exact h4, fun j hj => ⟨Lok_of (h5 j hj).1 ?_, (h5 j hj).2⟩, fun k hk => ?_⟩
  · rcases csl_cases hj with e | e | e <;> rw [e] <;> assumption
  · rw [e24, e2]; exact h6 k (by rw [← e22]; exact hk)
theorem Gok_nb {t0 : Nat} {η : Eg} {σ τ : Sg} (hG : Gok t0 η σ) (e2 : τ.1 2 = σ.1 2) (e22 : τ.1 22 = σ.1 22) (e18 : τ.1 18 = σ.1 18) (e13 : τ.1 13 = (-1) ∨ τ.1 13 = σ.1 13) (e24 : τ.2 24 = σ.2 24) : Gok t0 (nb η τ) τ := by
  obtain ⟨h1, h2, h3, h4, h5, h6⟩ := hG
  refine ⟨Cnt_of h1 e2, Cnt_of h2 e22, Cnt_of h3 e18, ?_, fun j hj => ⟨Lok_nb (h5 j hj).1 ?_, (h5 j hj).2⟩, fun k hk => ?_⟩
  · show ((if τ.1 13 = (-1) then none else e_bu η) = none) ↔ _
    by_cases c : τ.1 13 = (-1)
    · rw [if_pos c]; exact ⟨fun _ => c, fun _ => rfl⟩
    · rw [if_neg c]
      have e := e13.resolve_left c
      rw [e]; exact h4
  · rcases csl_cases hj with e | e | e <;> rw [e] <;> assumption
  · rw [e24, e2]; exact h6 k (by rw [← e22]; exact hk)
theorem bd_13 (σ : Sg) : (g_beginDay σ).1 13 = (-1) ∨ (g_beginDay σ).1 13 = σ.1 13 := by rw [g_beginDay, g_dtail_13]; exact g_dpre_13 σ
theorem bd_24 (σ : Sg) : (g_beginDay σ).2 24 = σ.2 24 := by rw [g_beginDay, g_dtail_b (by decide) (by decide) (by decide) (by decide), g_dpre_b]
theorem Gok_bd {t0 : Nat} {η : Eg} {σ : Sg} (hG : Gok t0 η σ) : Gok t0 (nb η (g_beginDay σ)) (g_beginDay σ) :=
  Gok_nb hG (g_bd_z (by decide) (by decide) (by decide) (by decide) (by decide) σ) (g_bd_z (by decide) (by decide) (by decide) (by decide) (by decide) σ) (g_bd_z (by decide) (by decide) (by decide) (by decide) (by decide) σ) (bd_13 σ) (bd_24 σ)
def g_day (σ : Sg) : Int32 := (σ.1 1)
abbrev rX6_day : Room := { frames := 0, cells := 0, slots := 0, locals := 0 }
theorem fnX6_day : Fn yX6_day wsX6_day cX6_day 1 (some .int) 0 rX6_day 0 0 := ⟨⟨_, rfl⟩, rfl, rfl, by decide +kernel⟩
theorem inX6_day_X6 : ∀ w ∈ wsX60, w ∈ wsX6_day := fun w h => List.mem_cons_of_mem _ (List.mem_append_right _ h)
set_option maxHeartbeats 4000000 in
set_option maxRecDepth 100000 in
theorem kX6_day (l : Launch) (D : va_G) (cI cO : ClassId) (η : Eg) (σ : Sg) : N_R l yX6_day wsX6_day rX6_day D (tyG cI cO) (G_W cI cO η σ) (.ref (e_ad η 0) :: []) (g_day σ) := by
  refine N_bodyR (n := 0) RX6 rfl (by decide) fnX6_day (Nat.le_of_ble_eq_true rfl) ?_
  intro p e s m args below meth c C hN K A P ls hl
  have hx := C.1
  have hb := C.2.1
  have hml := C.2.2.1
  have hown := C.2.2.2.1
  have hts := C.2.2.2.2.1
  have hl : lv_has ls 1 [(0, .ref (e_ad η 0))] := hl
  refine lv_aload_n (pc := 0) hx hb dX6_day_0 rfl (lv_at hl 0 rfl) ?_
  refine x_get (pc := 1) (Cn := RX6) (T := TX6) (N := 12) (ci := 7) (fs := G_fs η σ) (v := .int (σ.1 1)) C K P 0 rfl rfl inX6_day_X6 7 (Nat.le_of_ble_eq_true rfl) (List.mem_of_getElem? (i := 1) rfl) rfl dX6_day_1 ?_
  exact S_ret (pc := 4) (v := σ.1 1) C (by rw [g_day]) dX6_day_4
def g_exl : Nat → Nat → Int32 → Int32 → Sg → Int32 × Sg
  | 0, _, _, back, S1 => (back, S1)
  | n + 1, k, left, back, S1 => if left ≤ 0 then (back, S1) else g_exl n (k + 1) (left - (if (S1.2 19 k) < left then (S1.2 19 k) else left)) (back + (lo_drawBack (S1.2 19 k) (S1.2 20 k) (if (S1.2 19 k) < left then (S1.2 19 k) else left))) (bs (bs S1 19 k ((S1.2 19 k) - (if (S1.2 19 k) < left then (S1.2 19 k) else left))) 20 k ((S1.2 20 k) - (g_part (S1.2 20 k) (if (S1.2 19 k) < left then (S1.2 19 k) else left) (S1.2 19 k))))
theorem g_exl_s (n k : Nat) (left back : Int32) (S1 : Sg) : g_exl (n + 1) k left back S1 = if left ≤ 0 then (back, S1) else g_exl n (k + 1) (left - (if (S1.2 19 k) < left then (S1.2 19 k) else left)) (back + (lo_drawBack (S1.2 19 k) (S1.2 20 k) (if (S1.2 19 k) < left then (S1.2 19 k) else left))) (bs (bs S1 19 k ((S1.2 19 k) - (if (S1.2 19 k) < left then (S1.2 19 k) else left))) 20 k ((S1.2 20 k) - (g_part (S1.2 20 k) (if (S1.2 19 k) < left then (S1.2 19 k) else left) (S1.2 19 k)))) := rfl
def g_exfin (p0 : Int32) (f : Int32 × Sg) : Int32 × Int32 × Sg := (0, f.1, bs (zs f.2 12 (f.2.1 12 - f.1)) 10 6 (f.2.2 10 6 + p0))
def g_export (σ : Sg) (p0 : Int32) : Int32 × Int32 × Sg := if 1 ≤ p0 then (if p0 ≤ (g_dropsInLots σ) then g_exfin p0 (g_exl (ix (σ.1 18)) 0 p0 0 σ) else (3, 0, σ)) else (2, 0, σ)
abbrev rX6_export : Room := { frames := 6, cells := 1, slots := 6, locals := 90 }
theorem fnX6_export : Fn yX6_export wsX6_export cX6_export 7 (some .int) 1 rX6_export 1 6 := ⟨⟨_, rfl⟩, rfl, rfl, by decide +kernel⟩
theorem inX6_export_X1 : ∀ w ∈ wsX10, w ∈ wsX6_export := fun w h => List.mem_cons_of_mem _ (List.mem_append_left _ (List.mem_append_left _ (List.mem_append_left _ (List.mem_append_left _ (List.mem_append_right _ h)))))
theorem inX6_export_X2 : ∀ w ∈ wsX20, w ∈ wsX6_export := fun w h => List.mem_cons_of_mem _ (List.mem_append_left _ (List.mem_append_left _ (List.mem_append_left _ (List.mem_append_right _ h))))
theorem inX6_export_X3 : ∀ w ∈ wsX30, w ∈ wsX6_export := fun w h => List.mem_cons_of_mem _ (List.mem_append_left _ (List.mem_append_left _ (List.mem_append_left _ (List.mem_append_left _ (List.mem_append_left _ (List.mem_append_right _ h))))))
theorem inX6_export_X6 : ∀ w ∈ wsX60, w ∈ wsX6_export := fun w h => List.mem_cons_of_mem _ (List.mem_append_left _ (List.mem_append_left _ (List.mem_append_left _ (List.mem_append_left _ (List.mem_append_left _ (List.mem_append_left _ (List.mem_append_right _ h)))))))
set_option maxHeartbeats 4000000 in
set_option maxRecDepth 100000 in
theorem kX6_export (l : Launch) (hl9 : l.stackTraces = false) (D : va_G) (cI cO : ClassId) (t0 : Nat) (η : Eg) (σ : Sg) (p0 : Int32) (hG : Gok t0 η σ) : G_X l yX6_export wsX6_export rX6_export D cI cO t0 η σ [.int p0] (fun A => Q_i D cI cO η (g_export σ p0) A) ((g_export σ p0).1) 1 6 := by
  refine G_bodyX (n := 1) rfl fnX6_export (Nat.le_of_ble_eq_true rfl) ?_
  intro p e s m args below meth c C V K hnx A E9 P ls hl
  have hN := V.1
  have hx := C.1
  have hb := C.2.1
  have hml := C.2.2.1
  have hown := C.2.2.2.1
  have hts := C.2.2.2.2.1
  have hl : lv_has ls 7 [(0, .ref (e_ad η 0)), (1, .int p0)] := hl
  have loop : ∀ (n k : Nat) (left back : Int32) (S1 : Sg), g_export σ p0 = g_exfin p0 (g_exl (ix (S1.1 18) - k) k left back S1) → Lok η S1 2 → k ≤ ix (S1.1 18) → ix (S1.1 18) < k + n → ∀ (H : Heap) (locs : List Loc) (P : Hp D A s (G_W cI cO η S1) H locs) (ls : Array Slot), lv_has ls 7 [(4, .int (nI k)), (3, .int back), (2, .int left), (1, .int p0), (0, .ref (e_ad η 0))] → W p l e rX6_export s m args below meth c H locs 0 0 (vx_MQ below (Q_i D cI cO η (g_export σ p0) A) (G_XC D cI cO η σ (g_export σ p0).1 A) args s 1 6 A) (F0 m 40 ls []) := by
    intro n
    induction n with
    | zero => intro k left back S1 hE h9 h1 h2; exact absurd h2 (by omega)
    | succ n ih =>
      intro k left back S1 hE h9 h1 h2 H locs P ls hl
      have hc : Cnt S1 18 100 := ⟨h9.1, h9.2.1⟩
      refine lv_iload (pc := 40) hx hb dX6_export_40 (lv_at hl 0 rfl) ?_
      refine lv_aload_n (pc := 42) hx hb dX6_export_42 rfl (lv_at hl 4 rfl) ?_
      refine x_get (pc := 43) (Cn := RX6) (T := TX6) (N := 12) (ci := 7) (fs := G_fs η S1) (v := .ref (e_ad η 3)) C K P 0 rfl rfl inX6_export_X6 2 (Nat.le_of_ble_eq_true rfl) (List.mem_of_getElem? (i := 5) rfl) rfl dX6_export_43 ?_
      refine G_size (pc := 46) (rest := [.int (nI k)]) C hN K hl.1 P 2 (by decide) gX6_export_Jx4a65c_size_8abf5 ⟨Nat.le_of_ble_eq_true rfl, Nat.le_of_ble_eq_true rfl⟩ (Nat.le_of_ble_eq_true rfl) ⟨Nat.le_of_ble_eq_true rfl, Nat.le_of_ble_eq_true rfl⟩ dX6_export_46 ?_
      refine lv_icmp_ge (pc := 49) (tgt := 102) hx hb dX6_export_49 (by decide) (fun c_1 : (S1.1 18) ≤ (nI k) => ?_) (fun c_1 : ¬ (S1.1 18) ≤ (nI k) => ?_)
      · refine lv_aload_n (pc := 102) hx hb dX6_export_102 rfl (lv_at hl 4 rfl) ?_
        refine x_get (pc := 103) (Cn := RX6) (T := TX6) (N := 12) (ci := 7) (fs := G_fs η S1) (v := .ref (e_ad η 5)) C K P 0 rfl rfl inX6_export_X6 4 (Nat.le_of_ble_eq_true rfl) (List.mem_of_getElem? (i := 11) rfl) rfl dX6_export_103 ?_
        refine lv_dup (pc := 106) hx hb dX6_export_106 rfl ?_
        refine x_getN (pc := 107) (Cn := RX1) (T := TX1) (N := 3) (ci := 2) (fs := (Ex_fs S1)) (v := .int (S1.1 12)) C K P 5 rfl rfl inX6_export_X1 1 (Nat.le_of_ble_eq_true rfl) (hN _ (List.mem_of_getElem? (i := 2) rfl)) rfl dX6_export_107 ?_
        refine lv_iload_n (pc := 110) hx hb dX6_export_110 rfl (lv_at hl 1 rfl) ?_
        refine lv_isub (pc := 111) hx hb dX6_export_111 ?_
        refine x_putN (pc := 112) (Cn := RX1) (T := TX1) (N := 3) (ci := 2) (fs := (Ex_fs S1)) (v := .int ((S1.1 12) - back)) C K P 5 rfl rfl inX6_export_X1 tyX1_ok nmX1 1 (Nat.le_of_ble_eq_true rfl) (hN _ (List.mem_of_getElem? (i := 2) rfl)) rfl rfl rfl (Nat.le_of_ble_eq_true rfl) dX6_export_112 (fun H locs P => ?_)
        have P : Hp D A s (G_W cI cO η (zs S1 12 ((S1.1 12) - back))) H locs := P.eq Ex_s1
        refine lv_aload_n (pc := 115) hx hb dX6_export_115 rfl (lv_at hl 4 rfl) ?_
        refine x_get (pc := 116) (Cn := RX6) (T := TX6) (N := 12) (ci := 7) (fs := G_fs η (zs S1 12 ((S1.1 12) - back))) (v := .ref (e_ad η 6)) C K P 0 rfl rfl inX6_export_X6 5 (Nat.le_of_ble_eq_true rfl) (List.mem_of_getElem? (i := 12) rfl) rfl dX6_export_116 ?_
        refine lv_dup (pc := 119) hx hb dX6_export_119 rfl ?_
        refine x_getN (pc := 120) (Cn := RX2) (T := TX2) (N := 5) (ci := 3) (fs := (Bk_fs (zs S1 12 ((S1.1 12) - back)))) (v := .int (S1.2 10 6)) C K P 6 rfl rfl inX6_export_X2 3 (Nat.le_of_ble_eq_true rfl) (hN _ (List.mem_of_getElem? (i := 8) rfl)) rfl dX6_export_120 ?_
        refine lv_iload_n (pc := 123) hx hb dX6_export_123 rfl (lv_at hl 3 rfl) ?_
        refine lv_iadd (pc := 124) hx hb dX6_export_124 ?_
        refine x_putN (pc := 125) (Cn := RX2) (T := TX2) (N := 5) (ci := 3) (fs := (Bk_fs (zs S1 12 ((S1.1 12) - back)))) (v := .int ((S1.2 10 6) + p0)) C K P 6 rfl rfl inX6_export_X2 tyX2_ok nmX2 3 (Nat.le_of_ble_eq_true rfl) (hN _ (List.mem_of_getElem? (i := 8) rfl)) rfl rfl rfl (Nat.le_of_ble_eq_true rfl) dX6_export_125 (fun H locs P => ?_)
        have P : Hp D A s (G_W cI cO η (bs (zs S1 12 ((S1.1 12) - back)) 10 6 ((S1.2 10 6) + p0))) H locs := P.eq Bk_s3
        refine lv_iload_n (pc := 128) hx hb dX6_export_128 rfl (lv_at hl 1 rfl) ?_
        exact G_retX (pc := 129) (v := back) (σ' := (bs (zs S1 12 ((S1.1 12) - back)) 10 6 ((S1.2 10 6) + p0))) C P rfl (by rw [hE, ← lp_end hc c_1 h1, Nat.sub_self]; rfl) ⟨Nat.le_of_ble_eq_true rfl, Nat.le_of_ble_eq_true rfl⟩ dX6_export_129
      · have hk_2 : k < ix (S1.1 18) := lp_in hc c_1 h1
        have e_n_3 : ix (S1.1 18) - k = (ix (S1.1 18) - (k + 1)) + 1 := by have := lp_in hc c_1 h1; omega
        refine lv_iload_n (pc := 52) hx hb dX6_export_52 rfl (lv_at hl 2 rfl) ?_
        refine lv_if_le (pc := 53) (tgt := 102) hx hb dX6_export_53 (by decide) (fun c_4 : left ≤ 0 => ?_) (fun c_4 : ¬ left ≤ 0 => ?_)
        · refine lv_aload_n (pc := 102) hx hb dX6_export_102 rfl (lv_at hl 4 rfl) ?_
          refine x_get (pc := 103) (Cn := RX6) (T := TX6) (N := 12) (ci := 7) (fs := G_fs η S1) (v := .ref (e_ad η 5)) C K P 0 rfl rfl inX6_export_X6 4 (Nat.le_of_ble_eq_true rfl) (List.mem_of_getElem? (i := 11) rfl) rfl dX6_export_103 ?_
          refine lv_dup (pc := 106) hx hb dX6_export_106 rfl ?_
          refine x_getN (pc := 107) (Cn := RX1) (T := TX1) (N := 3) (ci := 2) (fs := (Ex_fs S1)) (v := .int (S1.1 12)) C K P 5 rfl rfl inX6_export_X1 1 (Nat.le_of_ble_eq_true rfl) (hN _ (List.mem_of_getElem? (i := 2) rfl)) rfl dX6_export_107 ?_
          refine lv_iload_n (pc := 110) hx hb dX6_export_110 rfl (lv_at hl 1 rfl) ?_
          refine lv_isub (pc := 111) hx hb dX6_export_111 ?_
          refine x_putN (pc := 112) (Cn := RX1) (T := TX1) (N := 3) (ci := 2) (fs := (Ex_fs S1)) (v := .int ((S1.1 12) - back)) C K P 5 rfl rfl inX6_export_X1 tyX1_ok nmX1 1 (Nat.le_of_ble_eq_true rfl) (hN _ (List.mem_of_getElem? (i := 2) rfl)) rfl rfl rfl (Nat.le_of_ble_eq_true rfl) dX6_export_112 (fun H locs P => ?_)
          have P : Hp D A s (G_W cI cO η (zs S1 12 ((S1.1 12) - back))) H locs := P.eq Ex_s1
          refine lv_aload_n (pc := 115) hx hb dX6_export_115 rfl (lv_at hl 4 rfl) ?_
          refine x_get (pc := 116) (Cn := RX6) (T := TX6) (N := 12) (ci := 7) (fs := G_fs η (zs S1 12 ((S1.1 12) - back))) (v := .ref (e_ad η 6)) C K P 0 rfl rfl inX6_export_X6 5 (Nat.le_of_ble_eq_true rfl) (List.mem_of_getElem? (i := 12) rfl) rfl dX6_export_116 ?_
          refine lv_dup (pc := 119) hx hb dX6_export_119 rfl ?_
          refine x_getN (pc := 120) (Cn := RX2) (T := TX2) (N := 5) (ci := 3) (fs := (Bk_fs (zs S1 12 ((S1.1 12) - back)))) (v := .int (S1.2 10 6)) C K P 6 rfl rfl inX6_export_X2 3 (Nat.le_of_ble_eq_true rfl) (hN _ (List.mem_of_getElem? (i := 8) rfl)) rfl dX6_export_120 ?_
          refine lv_iload_n (pc := 123) hx hb dX6_export_123 rfl (lv_at hl 3 rfl) ?_
          refine lv_iadd (pc := 124) hx hb dX6_export_124 ?_
          refine x_putN (pc := 125) (Cn := RX2) (T := TX2) (N := 5) (ci := 3) (fs := (Bk_fs (zs S1 12 ((S1.1 12) - back)))) (v := .int ((S1.2 10 6) + p0)) C K P 6 rfl rfl inX6_export_X2 tyX2_ok nmX2 3 (Nat.le_of_ble_eq_true rfl) (hN _ (List.mem_of_getElem? (i := 8) rfl)) rfl rfl rfl (Nat.le_of_ble_eq_true rfl) dX6_export_125 (fun H locs P => ?_)
          have P : Hp D A s (G_W cI cO η (bs (zs S1 12 ((S1.1 12) - back)) 10 6 ((S1.2 10 6) + p0))) H locs := P.eq Bk_s3
          refine lv_iload_n (pc := 128) hx hb dX6_export_128 rfl (lv_at hl 1 rfl) ?_
          exact G_retX (pc := 129) (v := back) (σ' := (bs (zs S1 12 ((S1.1 12) - back)) 10 6 ((S1.2 10 6) + p0))) C P rfl (by rw [hE, e_n_3, g_exl_s, if_pos c_4]; rfl) ⟨Nat.le_of_ble_eq_true rfl, Nat.le_of_ble_eq_true rfl⟩ dX6_export_129
        · refine lv_aload_n (pc := 56) hx hb dX6_export_56 rfl (lv_at hl 4 rfl) ?_
          refine x_get (pc := 57) (Cn := RX6) (T := TX6) (N := 12) (ci := 7) (fs := G_fs η S1) (v := .ref (e_ad η 3)) C K P 0 rfl rfl inX6_export_X6 2 (Nat.le_of_ble_eq_true rfl) (List.mem_of_getElem? (i := 5) rfl) rfl dX6_export_57 ?_
          refine lv_iload (pc := 60) hx hb dX6_export_60 (lv_at hl 0 rfl) ?_
          refine G_lgetN (pc := 62) (rest := []) C hN K hl.1 P 2 (by decide) h9 (k := k) hk_2 gX6_export_Jx4a65c_get_915e3 ⟨Nat.le_of_ble_eq_true rfl, Nat.le_of_ble_eq_true rfl⟩ (Nat.le_of_ble_eq_true rfl) ⟨Nat.le_of_ble_eq_true rfl, Nat.le_of_ble_eq_true rfl⟩ dX6_export_62 ?_
          refine G_cast (pc := 65) (ci := 4) (q0 := (pL cO η S1 k)) C K P (L_get (cI := cI) (cO := cO) (η := η) (σ := S1) (i := k) hk_2) rfl (List.mem_of_getElem? (i := 6) rfl) dX6_export_65 ?_
          refine lv_astore (pc := 68) (lv' := [(5, .ref (e_aa η 2 k)), (4, .int (nI k)), (3, .int back), (2, .int left), (1, .int p0), (0, .ref (e_ad η 0))]) hx hb dX6_export_68 hl (by decide) rfl (fun ls hl => ?_)
          refine lv_iload_n (pc := 70) hx hb dX6_export_70 rfl (lv_at hl 3 rfl) ?_
          refine lv_aload (pc := 71) hx hb dX6_export_71 (lv_at hl 0 rfl) ?_
          refine x_getN (pc := 73) (Cn := RX3) (T := TX3) (N := 2) (ci := 4) (fs := (L_fs S1 k)) (v := .int (S1.2 19 k)) C K P (pL cO η S1 k) (L_get (cI := cI) (cO := cO) (η := η) (σ := S1) (i := k) hk_2) rfl inX6_export_X3 0 (Nat.le_of_ble_eq_true rfl) (hN _ (List.mem_of_getElem? (i := 19) rfl)) rfl dX6_export_73 ?_
          refine va_mmin (pc := 76) hx hb (hml.trans hl.1.symm) hown (hts _ (List.mem_of_getElem? (i := 7) rfl)) (hts _ (List.mem_of_getElem? (i := 8) rfl)) (hts _ (List.mem_of_getElem? (i := 9) rfl)) (hts _ (List.mem_of_getElem? (i := 10) rfl)) (Nat.le_of_ble_eq_true rfl) (Nat.le_of_ble_eq_true rfl) (Nat.le_of_ble_eq_true rfl) (Nat.le_of_ble_eq_true rfl) dX6_export_76 ?_
          refine lv_istore (pc := 79) (lv' := [(6, .int (if (S1.2 19 k) < left then (S1.2 19 k) else left)), (5, .ref (e_aa η 2 k)), (4, .int (nI k)), (3, .int back), (2, .int left), (1, .int p0), (0, .ref (e_ad η 0))]) hx hb dX6_export_79 hl (by decide) rfl (fun ls hl => ?_)
          refine lv_iload_n (pc := 81) hx hb dX6_export_81 rfl (lv_at hl 3 rfl) ?_
          refine lv_aload (pc := 82) hx hb dX6_export_82 (lv_at hl 1 rfl) ?_
          refine lv_iload (pc := 84) hx hb dX6_export_84 (lv_at hl 0 rfl) ?_
          refine N_callI (pc := 86) (As := [.int (if (S1.2 19 k) < left then (S1.2 19 k) else left)]) (rest := [.int back]) (r := lo_drawBack (S1.2 19 k) (S1.2 20 k) (if (S1.2 19 k) < left then (S1.2 19 k) else left)) (ci := 4) (k := (pL cO η S1 k)) C hN K hl.1 P (L_get (cI := cI) (cO := cO) (η := η) (σ := S1) (i := k) hk_2) rfl (kX3_drawBack l D _ (S1.2 19 k) (S1.2 20 k) (if (S1.2 19 k) < left then (S1.2 19 k) else left)) fnX3_drawBack rfl gX6_export_X3_drawBack rfl rfl ⟨Nat.le_of_ble_eq_true rfl, Nat.le_of_ble_eq_true rfl⟩ (Nat.le_of_ble_eq_true rfl) ⟨Nat.le_of_ble_eq_true rfl, Nat.le_of_ble_eq_true rfl⟩ dX6_export_86 (fun H locs P => ?_)
          have P : Hp D A s (G_W cI cO η (bs (bs S1 19 k ((S1.2 19 k) - (if (S1.2 19 k) < left then (S1.2 19 k) else left))) 20 k ((S1.2 20 k) - (g_part (S1.2 20 k) (if (S1.2 19 k) < left then (S1.2 19 k) else left) (S1.2 19 k))))) H locs := P.eq (L_set (σ := S1) hk_2 ((S1.2 19 k) - (if (S1.2 19 k) < left then (S1.2 19 k) else left)) ((S1.2 20 k) - (g_part (S1.2 20 k) (if (S1.2 19 k) < left then (S1.2 19 k) else left) (S1.2 19 k))))
          refine lv_iadd (pc := 89) hx hb dX6_export_89 ?_
          refine lv_istore_n (pc := 90) (lv' := [(3, .int (back + (lo_drawBack (S1.2 19 k) (S1.2 20 k) (if (S1.2 19 k) < left then (S1.2 19 k) else left)))), (6, .int (if (S1.2 19 k) < left then (S1.2 19 k) else left)), (5, .ref (e_aa η 2 k)), (4, .int (nI k)), (2, .int left), (1, .int p0), (0, .ref (e_ad η 0))]) hx hb dX6_export_90 rfl hl (by decide) rfl (fun ls hl => ?_)
          refine lv_iload_n (pc := 91) hx hb dX6_export_91 rfl (lv_at hl 4 rfl) ?_
          refine lv_iload (pc := 92) hx hb dX6_export_92 (lv_at hl 1 rfl) ?_
          refine lv_isub (pc := 94) hx hb dX6_export_94 ?_
          refine lv_istore_n (pc := 95) (lv' := [(2, .int (left - (if (S1.2 19 k) < left then (S1.2 19 k) else left))), (3, .int (back + (lo_drawBack (S1.2 19 k) (S1.2 20 k) (if (S1.2 19 k) < left then (S1.2 19 k) else left)))), (6, .int (if (S1.2 19 k) < left then (S1.2 19 k) else left)), (5, .ref (e_aa η 2 k)), (4, .int (nI k)), (1, .int p0), (0, .ref (e_ad η 0))]) hx hb dX6_export_95 rfl hl (by decide) rfl (fun ls hl => ?_)
          refine lv_iinc (pc := 96) (v := nI (k + 1)) (lv' := [(4, .int (nI (k + 1))), (2, .int (left - (if (S1.2 19 k) < left then (S1.2 19 k) else left))), (3, .int (back + (lo_drawBack (S1.2 19 k) (S1.2 20 k) (if (S1.2 19 k) < left then (S1.2 19 k) else left)))), (6, .int (if (S1.2 19 k) < left then (S1.2 19 k) else left)), (5, .ref (e_aa η 2 k)), (1, .int p0), (0, .ref (e_ad η 0))]) hx hb dX6_export_96 hl (k := 4) rfl ((nI_succ k).symm) (by decide) rfl (fun ls hl => ?_)
          refine lv_goto (pc := 99) (tgt := 40) hx hb dX6_export_99 (by decide) ?_
          refine ih (k + 1) (left - (if (S1.2 19 k) < left then (S1.2 19 k) else left)) (back + (lo_drawBack (S1.2 19 k) (S1.2 20 k) (if (S1.2 19 k) < left then (S1.2 19 k) else left))) (bs (bs S1 19 k ((S1.2 19 k) - (if (S1.2 19 k) < left then (S1.2 19 k) else left))) 20 k ((S1.2 20 k) - (g_part (S1.2 20 k) (if (S1.2 19 k) < left then (S1.2 19 k) else left) (S1.2 19 k)))) ?_ h9 hk_2 (by show ix (S1.1 18) < _; omega) _ _ P ls (lv_sub hl [0, 2, 1, 5, 6] rfl)
          rw [hE, e_n_3, g_exl_s, if_neg c_4]
          rfl
  refine lv_iload_n (pc := 0) hx hb dX6_export_0 rfl (lv_at hl 1 rfl) ?_
  refine lv_iconst (pc := 1) (v := 1) hx hb dX6_export_1 (by decide) ?_
  refine lv_icmp_ge (pc := 2) (tgt := 15) hx hb dX6_export_2 (by decide) (fun c_5 : 1 ≤ p0 => ?_) (fun c_5 : ¬ 1 ≤ p0 => ?_)
  · refine lv_iload_n (pc := 15) hx hb dX6_export_15 rfl (lv_at hl 1 rfl) ?_
    refine lv_aload_n (pc := 16) hx hb dX6_export_16 rfl (lv_at hl 0 rfl) ?_
    refine N_callR (pc := 17) (As := []) (rest := [.int p0]) (r := g_dropsInLots σ) (rc := RX6) C hN K hl.1 P.1 (P.2.1.weaken (fun _ _ _ _ => trivial)) (va_recv K P.1 (ci := 7) (q0 := 0) rfl rfl) (kX6_dropsInLots l D cI cO η σ (hG.2.2.2.2.1 2 (by decide)).1) fnX6_dropsInLots rfl gX6_export_X6_dropsInLots rfl rfl ⟨Nat.le_of_ble_eq_true rfl, Nat.le_of_ble_eq_true rfl⟩ (Nat.le_of_ble_eq_true rfl) ⟨Nat.le_of_ble_eq_true rfl, Nat.le_of_ble_eq_true rfl⟩ dX6_export_17 ?_
    refine lv_icmp_le (pc := 20) (tgt := 33) hx hb dX6_export_20 (by decide) (fun c_6 : p0 ≤ (g_dropsInLots σ) => ?_) (fun c_6 : ¬ p0 ≤ (g_dropsInLots σ) => ?_)
    · refine lv_iload_n (pc := 33) hx hb dX6_export_33 rfl (lv_at hl 1 rfl) ?_
      refine lv_istore_n (pc := 34) (lv' := [(2, .int p0), (0, .ref (e_ad η 0)), (1, .int p0)]) hx hb dX6_export_34 rfl hl (by decide) rfl (fun ls hl => ?_)
      refine lv_iconst (pc := 35) (v := 0) hx hb dX6_export_35 (by decide) ?_
      refine lv_istore_n (pc := 36) (lv' := [(3, .int 0), (2, .int p0), (0, .ref (e_ad η 0)), (1, .int p0)]) hx hb dX6_export_36 rfl hl (by decide) rfl (fun ls hl => ?_)
      refine lv_iconst (pc := 37) (v := 0) hx hb dX6_export_37 (by decide) ?_
      refine lv_istore (pc := 38) (lv' := [(4, .int 0), (3, .int 0), (2, .int p0), (0, .ref (e_ad η 0)), (1, .int p0)]) hx hb dX6_export_38 hl (by decide) rfl (fun ls hl => ?_)
      exact loop (ix (σ.1 18) + 1) 0 p0 0 σ (by rw [g_export, if_pos c_5, if_pos c_6, Nat.sub_zero]) (hG.2.2.2.2.1 2 (by decide)).1 (Nat.zero_le _) (by omega) _ _ P ls (lv_sub hl [0, 1, 2, 4, 3] rfl)
    · exact G_throwG (pc := 23) (cls := "java/lang/IllegalStateException") C hl9 V hnx E9 P hl.1 (by rw [g_export, if_pos c_5, if_neg c_6]; rfl) (by rw [g_export, if_pos c_5, if_neg c_6]; exact (by decide : ¬ (3 : Int32) = 0)) otl_3 ca_3 (List.mem_of_getElem? (i := 3) rfl) (List.mem_of_getElem? (i := 4) rfl) (fun w h => List.mem_cons_of_mem _ (List.mem_append_right _ h)) (List.mem_of_getElem? (i := 18) rfl) dX6_export_23 dX6_export_26 dX6_export_27 dX6_export_29 dX6_export_32 ⟨Nat.le_of_ble_eq_true rfl, Nat.le_of_ble_eq_true rfl⟩ ⟨Nat.le_of_ble_eq_true rfl, Nat.le_of_ble_eq_true rfl⟩ ⟨Nat.le_of_ble_eq_true rfl, Nat.le_of_ble_eq_true rfl⟩
  · exact G_throwG (pc := 5) (cls := "java/lang/IllegalArgumentException") C hl9 V hnx E9 P hl.1 (by rw [g_export, if_neg c_5]; rfl) (by rw [g_export, if_neg c_5]; exact (by decide : ¬ (2 : Int32) = 0)) otl_2 ca_2 (List.mem_of_getElem? (i := 1) rfl) (List.mem_of_getElem? (i := 2) rfl) (fun w h => List.mem_cons_of_mem _ (List.mem_append_left _ (List.mem_append_right _ h))) (List.mem_of_getElem? (i := 17) rfl) dX6_export_5 dX6_export_8 dX6_export_9 dX6_export_11 dX6_export_14 ⟨Nat.le_of_ble_eq_true rfl, Nat.le_of_ble_eq_true rfl⟩ ⟨Nat.le_of_ble_eq_true rfl, Nat.le_of_ble_eq_true rfl⟩ ⟨Nat.le_of_ble_eq_true rfl, Nat.le_of_ble_eq_true rfl⟩
def g_pas : Nat → Sg → Sg
  | 0, S => S
  | n + 1, S => g_beginDay (g_pas n S)
theorem g_pas_s (n : Nat) (S : Sg) : g_pas (n + 1) S = g_beginDay (g_pas n S) := rfl
theorem ge1_nI {x : Int32} (h : 1 ≤ x) : x = nI (ix x) ∧ ix x < 2 ^ 31 := by
  have h' : ¬ x < 0 := by
    rw [Int32.lt_iff_toInt_lt]
    rw [Int32.le_iff_toInt_le] at h
    have e0 : (0 : Int32).toInt = 0 := by decide
    have e1 : (1 : Int32).toInt = 1 := by decide
    omega
  obtain ⟨j, hj, rfl⟩ := nI_of h'
  have e : ix (nI j) = j := nI_clamp hj
  rw [e]
  exact ⟨rfl, hj⟩
theorem ge1_end {x : Int32} {k : Nat} (hp : 1 ≤ x) (c : x ≤ nI k) (h1 : k ≤ ix x) : k = ix x := by
  obtain ⟨e, hb⟩ := ge1_nI hp
  refine Nat.le_antisymm h1 ?_
  rw [e, Int32.le_iff_toInt_le, nI_toInt hb, nI_toInt (by omega)] at c
  omega
theorem ge1_in {x : Int32} {k : Nat} (hp : 1 ≤ x) (c : ¬ x ≤ nI k) (h1 : k ≤ ix x) : k < ix x := by
  obtain ⟨e, hb⟩ := ge1_nI hp
  refine Nat.lt_of_le_of_ne h1 (fun e2 => c ?_)
  rw [e2, ← e]
  exact Int32.le_refl x
theorem gin_1 {x n : Int32} (c : ¬ g_isWithin x 1 n = 0) : 1 ≤ x := by
  rw [g_isWithin] at c
  by_cases h : x < 1
  · rw [if_pos h] at c; exact absurd rfl c
  · exact Int32.not_lt.mp h
def g_pass (σ : Sg) (p0 : Int32) : Int32 × Int32 × Sg := if (g_isWithin p0 1 60) = 0 then (2, 0, σ) else if ((σ.1 1) + p0) ≤ 900 then (0, (g_pas (ix p0) σ).1 12, g_pas (ix p0) σ) else (3, 0, σ)
abbrev rX6_pass : Room := { frames := 6, cells := 1, slots := 6, locals := 128 }
theorem fnX6_pass : Fn yX6_pass wsX6_pass cX6_pass 3 (some .int) 1 rX6_pass 1 6 := ⟨⟨_, rfl⟩, rfl, rfl, by decide +kernel⟩
theorem inX6_pass_X1 : ∀ w ∈ wsX10, w ∈ wsX6_pass := fun w h => List.mem_cons_of_mem _ (List.mem_append_left _ (List.mem_append_left _ (List.mem_append_left _ (List.mem_append_left _ (List.mem_append_left _ (List.mem_append_left _ (List.mem_append_left _ (List.mem_append_right _ h))))))))
theorem inX6_pass_X6 : ∀ w ∈ wsX60, w ∈ wsX6_pass := fun w h => List.mem_cons_of_mem _ (List.mem_append_left _ (List.mem_append_left _ (List.mem_append_left _ (List.mem_append_left _ (List.mem_append_left _ (List.mem_append_left _ (List.mem_append_left _ (List.mem_append_left _ (List.mem_append_right _ h)))))))))
set_option maxHeartbeats 4000000 in
set_option maxRecDepth 100000 in
theorem kX6_pass (l : Launch) (hl9 : l.stackTraces = false) (D : va_G) (cI cO : ClassId) (t0 : Nat) (η : Eg) (σ : Sg) (p0 : Int32) (hG : Gok t0 η σ) : G_X l yX6_pass wsX6_pass rX6_pass D cI cO t0 η σ [.int p0] (fun A => Q_e D cI cO t0 (g_pass σ p0) (e_ad η 0) A) ((g_pass σ p0).1) 1 6 := by
  refine G_bodyX (n := 1) rfl fnX6_pass (Nat.le_of_ble_eq_true rfl) ?_
  intro p e s m args below meth c C V K hnx A E9 P ls hl
  have hN := V.1
  have hx := C.1
  have hb := C.2.1
  have hml := C.2.2.1
  have hown := C.2.2.2.1
  have hts := C.2.2.2.2.1
  have hl : lv_has ls 3 [(0, .ref (e_ad η 0)), (1, .int p0)] := hl
  have loop : 1 ≤ p0 → ∀ (n k : Nat) (η1 : Eg) (S1 : Sg), S1 = g_pas k σ → g_pass σ p0 = (0, (g_pas (ix p0) σ).1 12, g_pas (ix p0) σ) → Gok t0 η1 S1 → e_ad η1 0 = e_ad η 0 → k ≤ ix p0 → ix p0 < k + n → ∀ (H : Heap) (locs : List Loc) (P : Hp D A s (G_W cI cO η1 S1) H locs) (ls : Array Slot), lv_has ls 3 [(2, .int (nI k)), (1, .int p0), (0, .ref (e_ad η1 0))] → W p l e rX6_pass s m args below meth c H locs 0 0 (vx_MQ below (Q_e D cI cO t0 (g_pass σ p0) (e_ad η 0) A) (G_XC D cI cO η σ (g_pass σ p0).1 A) args s 1 6 A) (F0 m 46 ls []) := by
    intro hp n
    induction n with
    | zero => intro k η1 S1 e1 hE hG1 h0 h1 h2; exact absurd h2 (by omega)
    | succ n ih =>
      intro k η1 S1 e1 hE hG1 h0 h1 h2 H locs P ls hl
      refine lv_iload_n (pc := 46) hx hb dX6_pass_46 rfl (lv_at hl 0 rfl) ?_
      refine lv_iload_n (pc := 47) hx hb dX6_pass_47 rfl (lv_at hl 1 rfl) ?_
      refine lv_icmp_ge (pc := 48) (tgt := 61) hx hb dX6_pass_48 (by decide) (fun c_1 : p0 ≤ (nI k) => ?_) (fun c_1 : ¬ p0 ≤ (nI k) => ?_)
      · refine lv_aload_n (pc := 61) hx hb dX6_pass_61 rfl (lv_at hl 2 rfl) ?_
        refine x_get (pc := 62) (Cn := RX6) (T := TX6) (N := 12) (ci := 7) (fs := G_fs η1 S1) (v := .ref (e_ad η1 5)) C K P 0 rfl rfl inX6_pass_X6 4 (Nat.le_of_ble_eq_true rfl) (List.mem_of_getElem? (i := 6) rfl) rfl dX6_pass_62 ?_
        refine x_getN (pc := 65) (Cn := RX1) (T := TX1) (N := 3) (ci := 2) (fs := (Ex_fs S1)) (v := .int (S1.1 12)) C K P 5 rfl rfl inX6_pass_X1 1 (Nat.le_of_ble_eq_true rfl) (hN _ (List.mem_of_getElem? (i := 2) rfl)) rfl dX6_pass_65 ?_
        exact G_retE (pc := 68) (v := S1.1 12) (σ' := S1) C P rfl (by rw [hE, ← ge1_end hp c_1 h1, ← e1]) hG1 h0 ⟨Nat.le_of_ble_eq_true rfl, Nat.le_of_ble_eq_true rfl⟩ dX6_pass_68
      · have hk_2 : k < ix p0 := ge1_in hp c_1 h1
        refine lv_aload_n (pc := 51) hx hb dX6_pass_51 rfl (lv_at hl 2 rfl) ?_
        refine G_callv (pc := 52) (As := []) (rest := []) (η' := (nb η1 (g_beginDay S1))) (σ' := (g_beginDay S1)) C hN K hl.1 P (kX6_beginDay l D cI cO t0 η1 S1 hG1 (hG1.2.2.2.2.1 0 (by decide)).1 (hG1.2.2.2.2.1 1 (by decide)).1) fnX6_beginDay rfl gX6_pass_X6_beginDay rfl rfl ⟨Nat.le_of_ble_eq_true rfl, Nat.le_of_ble_eq_true rfl⟩ (Nat.le_of_ble_eq_true rfl) ⟨Nat.le_of_ble_eq_true rfl, Nat.le_of_ble_eq_true rfl⟩ dX6_pass_52 (fun H locs (P : Hp D A s (G_W cI cO (nb η1 (g_beginDay S1)) (g_beginDay S1)) H locs) => ?_)
        refine lv_iinc (pc := 55) (v := nI (k + 1)) (lv' := [(2, .int (nI (k + 1))), (1, .int p0), (0, .ref (e_ad η1 0))]) hx hb dX6_pass_55 hl (k := 0) rfl ((nI_succ k).symm) (by decide) rfl (fun ls hl => ?_)
        refine lv_goto (pc := 58) (tgt := 46) hx hb dX6_pass_58 (by decide) ?_
        exact ih (k + 1) (nb η1 (g_beginDay S1)) (g_beginDay S1) (by rw [g_pas_s, ← e1]) hE (Gok_bd hG1) h0 hk_2 (by omega) _ _ P ls (lv_sub hl [0, 1, 2] rfl)
  refine lv_iload_n (pc := 0) hx hb dX6_pass_0 rfl (lv_at hl 1 rfl) ?_
  refine lv_iconst (pc := 1) (v := 1) hx hb dX6_pass_1 (by decide) ?_
  refine lv_bipush (pc := 2) (v := 60) hx hb dX6_pass_2 (by decide) ?_
  refine S_call (pc := 4) (As := [.int p0, .int 1, .int 60]) (rest := []) (r := g_isWithin p0 1 60) C hl.1 (kX6_isWithin l p0 1 60) fnX6_isWithin gX6_pass_X6_isWithin rfl rfl ⟨Nat.le_of_ble_eq_true rfl, Nat.le_of_ble_eq_true rfl⟩ (Nat.le_of_ble_eq_true rfl) ⟨Nat.le_of_ble_eq_true rfl, Nat.le_of_ble_eq_true rfl⟩ dX6_pass_4 ?_
  refine lv_if_ne (pc := 7) (tgt := 21) hx hb dX6_pass_7 (by decide) (fun c_3 : ¬ (g_isWithin p0 1 60) = 0 => ?_) (fun c_3 : (g_isWithin p0 1 60) = 0 => ?_)
  · refine lv_aload_n (pc := 21) hx hb dX6_pass_21 rfl (lv_at hl 0 rfl) ?_
    refine x_get (pc := 22) (Cn := RX6) (T := TX6) (N := 12) (ci := 7) (fs := G_fs η σ) (v := .int (σ.1 1)) C K P 0 rfl rfl inX6_pass_X6 7 (Nat.le_of_ble_eq_true rfl) (List.mem_of_getElem? (i := 5) rfl) rfl dX6_pass_22 ?_
    refine lv_iload_n (pc := 25) hx hb dX6_pass_25 rfl (lv_at hl 1 rfl) ?_
    refine lv_iadd (pc := 26) hx hb dX6_pass_26 ?_
    refine lv_sipush (pc := 27) (v := 900) hx hb dX6_pass_27 (by decide) ?_
    refine lv_icmp_le (pc := 30) (tgt := 44) hx hb dX6_pass_30 (by decide) (fun c_4 : ((σ.1 1) + p0) ≤ 900 => ?_) (fun c_4 : ¬ ((σ.1 1) + p0) ≤ 900 => ?_)
    · refine lv_iconst (pc := 44) (v := 0) hx hb dX6_pass_44 (by decide) ?_
      refine lv_istore_n (pc := 45) (lv' := [(2, .int 0), (0, .ref (e_ad η 0)), (1, .int p0)]) hx hb dX6_pass_45 rfl hl (by decide) rfl (fun ls hl => ?_)
      exact loop (gin_1 c_3) (ix p0 + 1) 0 η σ rfl (by rw [g_pass, if_neg c_3, if_pos c_4]) hG rfl (Nat.zero_le _) (by omega) _ _ P ls (lv_sub hl [0, 2, 1] rfl)
    · exact G_throwW (pc := 33) (cls := "java/lang/IllegalStateException") C hl9 V hnx E9 P hl.1 (by rw [g_pass, if_neg c_3, if_neg c_4]; rfl) (by rw [g_pass, if_neg c_3, if_neg c_4]; exact (by decide : ¬ (3 : Int32) = 0)) otl_3 ca_3 (List.mem_of_getElem? (i := 3) rfl) (List.mem_of_getElem? (i := 4) rfl) (fun w h => List.mem_cons_of_mem _ (List.mem_append_right _ h)) (List.mem_of_getElem? (i := 32) rfl) dX6_pass_33 dX6_pass_36 dX6_pass_37 dX6_pass_40 dX6_pass_43 ⟨Nat.le_of_ble_eq_true rfl, Nat.le_of_ble_eq_true rfl⟩ ⟨Nat.le_of_ble_eq_true rfl, Nat.le_of_ble_eq_true rfl⟩ ⟨Nat.le_of_ble_eq_true rfl, Nat.le_of_ble_eq_true rfl⟩
  · exact G_throwW (pc := 10) (cls := "java/lang/IllegalArgumentException") C hl9 V hnx E9 P hl.1 (by rw [g_pass, if_pos c_3]; rfl) (by rw [g_pass, if_pos c_3]; exact (by decide : ¬ (2 : Int32) = 0)) otl_2 ca_2 (List.mem_of_getElem? (i := 1) rfl) (List.mem_of_getElem? (i := 2) rfl) (fun w h => List.mem_cons_of_mem _ (List.mem_append_left _ (List.mem_append_right _ h))) (List.mem_of_getElem? (i := 31) rfl) dX6_pass_10 dX6_pass_13 dX6_pass_14 dX6_pass_17 dX6_pass_20 ⟨Nat.le_of_ble_eq_true rfl, Nat.le_of_ble_eq_true rfl⟩ ⟨Nat.le_of_ble_eq_true rfl, Nat.le_of_ble_eq_true rfl⟩ ⟨Nat.le_of_ble_eq_true rfl, Nat.le_of_ble_eq_true rfl⟩
