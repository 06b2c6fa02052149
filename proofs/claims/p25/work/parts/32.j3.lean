section JC
variable {p : Program} {l : Launch} {e : Env} {R : Room} {s : State} {m : MethodId} {args : Array Value} {below : List Frame} {meth : Method} {c : Code} {H : Heap} {locs : List Loc} {cells slots : Nat} {Q : State → Prop} {cc : ByteArray} {pc : Nat} {ls : Array Slot} {rest st0 : List Value} {Ts : List Cond} {nL : Nat} {D : va_G} {A : Nat → Prop} {ret : Option FieldType} {cI cO : ClassId} {t0 : Nat} {own : String} {wc : va_W} {wc' : Nat → va_W}
theorem J_callC {y : MethodName} {ws : List Cond} {rm : Room} {bytes : ByteArray} {maxL n index b : Nat} {As : List Value} (C : Cx own p s m args meth c cc nL Ts ret) (V : EnvV s) (K : va_K D vwCl (tyG cI cO) s) (E9 : EnvH t0 A s s.heap) (hl : ls.size = nL) (P : Hp D A s wc H locs)
    (hM : J_V l y ws rm D cI cO t0 wc (.ref b :: As) wc') (hf : Fn y ws bytes maxL none n rm 1 200) (hy1 : y.name = "<init>") (g : GoodIn Ts ws) (hini : Cond.initialized y.cls ∈ Ts) (hlk : Cond.methodLink own index y ∈ Ts) (hin : Cond.instanceMethod y ∈ Ts) (hn : As.length = n) (hst : st0 = As.reverse ++ .ref b :: rest) (hR : rm.frames + 1 ≤ R.frames ∧ 8 + (maxL + 11) + rm.locals ≤ R.locals) (hcat : (rest.map fun v => v.category).sum ≤ 8) (hz : cells + 1 ≤ R.cells ∧ slots + 200 ≤ R.slots)
    (d : decode cc pc = .ok (.invokespecial index, 3)) (kk : ∀ (q : Nat) (H : Heap) (locs : List Loc), Hp D A s (wc' q) H locs → W p l e R s m args below meth c H locs (cells + 1) (slots + 200) Q (F0 m (pc + 3) ls rest)) : W p l e R s m args below meth c H locs cells slots Q (F0 m pc ls st0) := by
  obtain ⟨⟨ws', hw⟩, hrc, hrs, hd⟩ := hf
  have hF := va_A_in P.2.1 P.2.2.1 P.2.2.2
  refine va_callv (va_runI C.fix (hM H.size) (cwI n C.2.2.2.2.1 g hw hrc hrs (C.2.2.2.2.1 _ hini) (C.2.2.2.2.1 _ hlk) (C.2.2.2.2.1 _ hin) hy1 hd hR) (J_pre V K E9 P (X := fun _ => True) trivial (fun _ _ _ _ => trivial) (.ref b :: As)) rfl hn hl hst (lv_room hcat) d hz) P.2.2.1 (fun q _ h => hF q h) hF (fun u t H1 locs1 ht hvm hw hB hz1 hk1 hS => ?_)
  obtain ⟨hP1, hD1⟩ := hB
  rw [ht] at hP1
  exact kk u H1 locs1 ⟨hP1, hD1.weaken (fun _ _ _ h => hF _ h), hS, P.2.2.2⟩
end JC
abbrev rJxa1e45_init_da8c8 : Room := { frames := 1, cells := 1, slots := 200, locals := 12 }
theorem fnJxa1e45_init_da8c8 : Fn yJxa1e45_init_da8c8 wsJxa1e45_init_da8c8 cJxa1e45_init_da8c8 1 none 0 rJxa1e45_init_da8c8 1 200 := ⟨⟨_, rfl⟩, rfl, rfl, by decide +kernel⟩
theorem kJxa1e45_init_da8c8 (l : Launch) (D : va_G) (cI cO : ClassId) (t0 a : Nat) (wc : va_W) : J_V l yJxa1e45_init_da8c8 wsJxa1e45_init_da8c8 rJxa1e45_init_da8c8 D cI cO t0 wc [.ref a] (fun _ => wc) := by
  refine J_bodyV (n := 0) RJxa1e45 rfl (by decide) fnJxa1e45_init_da8c8 (Nat.le_of_ble_eq_true rfl) ?_
  intro p e s m args below meth c C V K _ hnm A E9 P ls hl
  have hx := C.1
  have hb := C.2.1
  have hml := C.2.2.1
  have hown := C.2.2.2.1
  have hts := C.2.2.2.2.1
  have hl : lv_has ls 1 [(0, .ref a)] := hl
  refine lv_aload_n (pc := 0) hx hb dJxa1e45_init_da8c8_0 rfl (lv_at hl 0 rfl) ?_
  refine W.objInit hx hb hown (hts _ (List.mem_of_getElem? (i := 1) rfl)) (hts _ (List.mem_of_getElem? (i := 2) rfl)) (hts _ (List.mem_of_getElem? (i := 3) rfl)) rfl (hl.1.trans hml.symm) rfl dJxa1e45_init_da8c8_1 (Nat.le_of_ble_eq_true rfl) (Nat.le_of_ble_eq_true rfl) ?_
  refine W.eq (g2 := F0 m 4 ls []) rfl ?_
  exact J_retV (pc := 4) (q := 0) C P rfl ⟨Nat.le_of_ble_eq_true rfl, Nat.le_of_ble_eq_true rfl⟩ dJxa1e45_init_da8c8_4
abbrev rJxc12de_init_da8c8 : Room := { frames := 2, cells := 1, slots := 200, locals := 32 }
theorem fnJxc12de_init_da8c8 : Fn yJxc12de_init_da8c8 wsJxc12de_init_da8c8 cJxc12de_init_da8c8 1 none 0 rJxc12de_init_da8c8 1 200 := ⟨⟨_, rfl⟩, rfl, rfl, by decide +kernel⟩
theorem inJxc12de_init_da8c8 : ∀ w ∈ wsJx4a65c0, w ∈ wsJxc12de_init_da8c8 := fun w h => List.mem_cons_of_mem _ (List.mem_append_right _ h)
theorem kJxc12de_init_da8c8 (l : Launch) (D : va_G) (cI cO : ClassId) (t0 a : Nat) (wd : va_W) : J_V l yJxc12de_init_da8c8 wsJxc12de_init_da8c8 rJxc12de_init_da8c8 D cI cO t0 ((a, .inr (0, [.int 0, .null, .int 0])) :: wd) [.ref a] (fun _ => (a, .inr (0, [.int 0, .null, .int 0])) :: wd) := by
  refine J_bodyV (n := 0) RJxc12de rfl (by decide) fnJxc12de_init_da8c8 (Nat.le_of_ble_eq_true rfl) ?_
  intro p e s m args below meth c C V K _ hnm A E9 P ls hl
  have hx := C.1
  have hb := C.2.1
  have hl : lv_has ls 1 [(0, .ref a)] := hl
  refine lv_aload_n (pc := 0) hx hb dJxc12de_init_da8c8_0 rfl (lv_at hl 0 rfl) ?_
  refine J_callC (pc := 1) (As := []) (rest := []) C V K E9 hl.1 P (kJxa1e45_init_da8c8 l D cI cO t0 a _) fnJxa1e45_init_da8c8 rfl gJxc12de_init_da8c8_Jxa1e45_init_da8c8 (List.mem_of_getElem? (i := 4) rfl) (List.mem_of_getElem? (i := 2) rfl) (List.mem_of_getElem? (i := 3) rfl) rfl rfl ⟨Nat.le_of_ble_eq_true rfl, Nat.le_of_ble_eq_true rfl⟩ (Nat.le_of_ble_eq_true rfl) ⟨Nat.le_of_ble_eq_true rfl, Nat.le_of_ble_eq_true rfl⟩ dJxc12de_init_da8c8_1 (fun q H locs P => ?_)
  refine lv_aload_n (pc := 4) hx hb dJxc12de_init_da8c8_4 rfl (lv_at hl 0 rfl) ?_
  refine lv_iconst (pc := 5) (v := 0) hx hb dJxc12de_init_da8c8_5 (by decide) ?_
  refine x_put (pc := 6) (Cn := RJx4a65c) (T := TJx4a65c) (N := 3) (ci := 0) (fs := [.int 0, .null, .int 0]) (v := .int 0) C K P 0 rfl rfl inJxc12de_init_da8c8 tyJx4a65c_ok nmJx4a65c 0 (Nat.le_of_ble_eq_true rfl) (List.mem_of_getElem? (i := 1) rfl) rfl rfl rfl (Nat.le_of_ble_eq_true rfl) dJxc12de_init_da8c8_6 (fun H locs P => ?_)
  exact J_retV (pc := 9) (q := 0) C P rfl ⟨Nat.le_of_ble_eq_true rfl, Nat.le_of_ble_eq_true rfl⟩ dJxc12de_init_da8c8_9
abbrev rJx4a65c_init_da8c8 : Room := { frames := 3, cells := 1, slots := 200, locals := 52 }
theorem fnJx4a65c_init_da8c8 : Fn yJx4a65c_init_da8c8 wsJx4a65c_init_da8c8 cJx4a65c_init_da8c8 1 none 0 rJx4a65c_init_da8c8 1 200 := ⟨⟨_, rfl⟩, rfl, rfl, by decide +kernel⟩
theorem inJx4a65c_init_da8c8 : ∀ w ∈ wsJx4a65c0, w ∈ wsJx4a65c_init_da8c8 := fun w h => List.mem_cons_of_mem _ (List.mem_append_right _ h)
theorem kJx4a65c_init_da8c8 (l : Launch) (D : va_G) (cI cO : ClassId) (t0 a : Nat) (wd : va_W) : J_V l yJx4a65c_init_da8c8 wsJx4a65c_init_da8c8 rJx4a65c_init_da8c8 D cI cO t0 ((a, .inr (0, [.int 0, .null, .int 0])) :: wd) [.ref a] (fun _ => (a, Lc 0 t0 0) :: wd) := by
  refine J_bodyV (n := 0) RJx4a65c rfl (by decide) fnJx4a65c_init_da8c8 (Nat.le_of_ble_eq_true rfl) ?_
  intro p e s m args below meth c C V K _ hnm A E9 P ls hl
  have hx := C.1
  have hb := C.2.1
  have hown := C.2.2.2.1
  have hts := C.2.2.2.2.1
  have hl : lv_has ls 1 [(0, .ref a)] := hl
  refine lv_aload_n (pc := 0) hx hb dJx4a65c_init_da8c8_0 rfl (lv_at hl 0 rfl) ?_
  refine J_callC (pc := 1) (As := []) (rest := []) C V K E9 hl.1 P (kJxc12de_init_da8c8 l D cI cO t0 a wd) fnJxc12de_init_da8c8 rfl gJx4a65c_init_da8c8_Jxc12de_init_da8c8 (List.mem_of_getElem? (i := 5) rfl) (List.mem_of_getElem? (i := 3) rfl) (List.mem_of_getElem? (i := 4) rfl) rfl rfl ⟨Nat.le_of_ble_eq_true rfl, Nat.le_of_ble_eq_true rfl⟩ (Nat.le_of_ble_eq_true rfl) ⟨Nat.le_of_ble_eq_true rfl, Nat.le_of_ble_eq_true rfl⟩ dJx4a65c_init_da8c8_1 (fun q H locs P => ?_)
  refine lv_aload_n (pc := 4) hx hb dJx4a65c_init_da8c8_4 rfl (lv_at hl 0 rfl) ?_
  refine va_gets (pc := 5) hx hb E9.2.2.1 P.2.2.1 hown (hts _ (List.mem_of_getElem? (i := 1) rfl)) (fun _ h => h) dJx4a65c_init_da8c8_5 ?_
  refine x_put (pc := 8) (Cn := RJx4a65c) (T := TJx4a65c) (N := 3) (ci := 0) (fs := [.int 0, .null, .int 0]) (v := .ref t0) C K P 0 rfl rfl inJx4a65c_init_da8c8 tyJx4a65c_ok nmJx4a65c 1 (Nat.le_of_ble_eq_true rfl) (List.mem_of_getElem? (i := 2) rfl) rfl rfl rfl (Nat.le_of_ble_eq_true rfl) dJx4a65c_init_da8c8_8 (fun H locs P => ?_)
  exact J_retV (pc := 11) (q := 0) C P rfl ⟨Nat.le_of_ble_eq_true rfl, Nat.le_of_ble_eq_true rfl⟩ dJx4a65c_init_da8c8_11
