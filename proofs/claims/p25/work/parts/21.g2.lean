theorem va_D.two {A : Nat → Prop} {ws : va_W} (h : va_D A ws) {i j : Nat} {p q : Nat × va_E} (hi : ws[i]? = some p) (hj : ws[j]? = some q) (hn : i ≠ j) : va_D A [p, q] := by
  have hpq : p.1 ≠ q.1 := fun e => hn (h.1 i j p q hi hj e)
  refine ⟨fun x y u v hu hv e => ?_, fun x u hu => ?_⟩
  · match x, y, hu, hv with
    | 0, 0, _, _ => rfl
    | 1, 1, _, _ => rfl
    | 0, 1, hu, hv => cases hu; cases hv; exact absurd e hpq
    | 1, 0, hu, hv => cases hu; cases hv; exact absurd e.symm hpq
    | x + 2, _, hu, _ => simp at hu
    | 0, y + 2, _, hv => simp at hv
    | 1, y + 2, _, hv => simp at hv
  · match x, hu with
    | 0, hu => cases hu; exact h.2 i _ hi
    | 1, hu => cases hu; exact h.2 j _ hj
    | x + 2, hu => simp at hu
theorem va_P.two {D : va_G} {cl : List vw_C} {ws : va_W} {H : Heap} (h : va_P D cl ws H) {i j : Nat} {p q : Nat × va_E} (hi : ws[i]? = some p) (hj : ws[j]? = some q) : va_P D cl [p, q] H :=
  h.mem (fun x hx => by
    rcases List.mem_cons.mp hx with rfl | hx
    · exact List.mem_of_getElem? hi
    · rw [List.mem_singleton.mp hx]; exact List.mem_of_getElem? hj)
def N_Q (l : Launch) (y : MethodName) (ws : List Cond) (rm : Room) (D : va_G) (tys : List (ClassId × FieldType)) (wc : va_W) (As : List Value) (r : Option Nat) : Prop :=
  Met l y ws rm (va_Pc As (PreN D tys wc)) (va_Sq (fun x => x = r)) 0 0 (fun _ => False)
section NQ
variable {p : Program} {l : Launch} {e : Env} {R : Room} {s : State} {m : MethodId} {args : Array Value} {below : List Frame} {meth : Method} {c : Code} {H : Heap} {locs : List Loc} {cells slots : Nat} {Q : State → Prop} {cc : ByteArray} {pc : Nat} {ls : Array Slot} {rest st0 : List Value} {Ts : List Cond} {nL : Nat} {D : va_G} {A : Nat → Prop} {ret : Option FieldType} {own : String} {tys : List (ClassId × FieldType)}
theorem N_bodyQ {y : MethodName} {ws : List Cond} {rm : Room} {maxL n : Nat} {bytes : ByteArray} {wc : va_W} {As : List Value} {r : Option Nat} (own : String) (hy : y.cls = own) (hpl : plainName own = true) (hf : Fn y ws bytes maxL ret n rm 0 0) (hlen : (lg_sl As).length ≤ maxL)
    (body : ∀ (p : Program) (e : Env) (s : State) (m : MethodId) (args : Array Value) (below : List Frame) (meth : Method) (c : Code), Cx own p s m args meth c bytes maxL ws ret → EnvN s → va_K D vwCl tys s → ∀ A : Nat → Prop, Hp D A s wc s.heap [] → ∀ ls : Array Slot, lv_has ls maxL (lv_args 0 As) →
      W p l e rm s m args below meth c s.heap [] 0 0 (MQ below (va_Sq (fun x => x = r)) args s 0 0 (fun _ => False)) (F0 m 0 ls [])) : N_Q l y ws rm D tys wc As r := by
  obtain ⟨⟨ws', hw⟩, -, -, -⟩ := hf
  refine Met.ofW (cc := bytes) (maxL := maxL) (ret := ret) (by rw [hy]; exact hpl) hw ?_
  intro p e s m args below meth c s₁ B hml hv
  obtain ⟨rfl, hP, hK, hD, hN⟩ := hv
  have hown : s.vm.findClass own = some m.cls := by rw [← hy]; exact findClass_of_methodNamed B.named
  have hl := lv_entry As (n := maxL) hlen
  rw [lg_entry_eq]
  exact body p e s m _ below meth c ⟨B.exec, B.bytes, hml, hown, atoms_spec (ws := ws) B.pre, B.returns, B.notSynchronized⟩ hN hK _ ⟨hP, hD.self (sz := s.heap.size), va_S.rf, fun q h => Or.inr h⟩ _ hl
theorem N_callQ {y : MethodName} {ws : List Cond} {rm : Room} {bytes : ByteArray} {maxL n index : Nat} {rty : Option FieldType} {As : List Value} {r : Option Nat} {wc : va_W} {tysc : List (ClassId × FieldType)} {b : Nat} {rc : String} (C : Cx own p s m args meth c cc nL Ts ret) (hN : EnvN s) (Kc : va_K D vwCl tysc s) (hl : ls.size = nL) (hP : va_P D vwCl wc H) (hD : va_D (fun _ => True) wc) (hr : ∃ cell : Cell, H[b]? = some cell ∧ cell.vm.isStatics = false ∧ s.vm.findClass rc = some cell.cls)
    (hM : N_Q l y ws rm D tysc wc (.ref b :: As) r) (hf : Fn y ws bytes maxL rty n rm 0 0) (hy : y.cls = rc) (g : GoodIn Ts (wsV own index rc y ws)) (hn : As.length = n) (hst : st0 = As.reverse ++ .ref b :: rest) (hR : rm.frames + 1 ≤ R.frames ∧ 8 + (maxL + 11) + rm.locals ≤ R.locals) (hcat : (rest.map fun v => v.category).sum ≤ 8) (hz : cells + 0 ≤ R.cells ∧ slots + 0 ≤ R.slots)
    (d : decode cc pc = .ok (.invokevirtual index, 3)) (kk : W p l e R s m args below meth c H locs cells slots Q (F0 m (pc + 3) ls (va_rf r :: rest))) : W p l e R s m args below meth c H locs cells slots Q (F0 m pc ls st0) := by
  obtain ⟨⟨ws', hw⟩, hrc, hrs, hd⟩ := hf
  refine va_csq (W.runV C.fix hM (cwV n C.2.2.2.2.1 g hw hrc hrs ⟨hy, hd⟩ hR) ⟨preN_blind, hr, fun U hU hW => ⟨rfl, by rw [hU]; exact hP, va_K.moved hW.alike Kc, hD, hN.warm hW⟩⟩ rfl hn hl hst (lv_room hcat) d hz) ?_
  intro r' hr'
  rw [hr']
  exact kk
theorem N_retQ {r v : Option Nat} (C : Cx own p s m args meth c cc nL Ts (some (.object "java/lang/Object"))) (hv : v = r) (d : decode cc pc = .ok (.areturn, 1)) :
    W p l e R s m args below meth c s.heap [] 0 0 (MQ below (va_Sq (fun x => x = r)) args s 0 0 (fun _ => False)) (F0 m pc ls [va_rf v]) := by
  have hlocks := C.2.2.2.2.2.2
  exact W.aret C.1 C.2.1 C.2.2.2.2.2.1 (Or.inl ⟨_, rfl⟩) (va_rf_or v) (fun t ht _ => ⟨v, rfl, hv, ht⟩) (fun q h => by cases h) d
end NQ
abbrev rJ3_checkIndex_8e157 : Room := { frames := 0, cells := 0, slots := 0, locals := 0 }
theorem fnJ3_checkIndex_8e157 : Fn yJ3_checkIndex_8e157 wsJ3_checkIndex_8e157 cJ3_checkIndex_8e157 3 (some .int) 3 rJ3_checkIndex_8e157 0 0 := ⟨⟨_, rfl⟩, rfl, rfl, by decide +kernel⟩
theorem kJ3_checkIndex_8e157 (l : Launch) (i n : Int32) (h1 : ¬ i < 0) (h2 : i < n) : S_Met l yJ3_checkIndex_8e157 wsJ3_checkIndex_8e157 rJ3_checkIndex_8e157 [.int i, .int n, .null] i := by
  refine S_of (n := 3) RJ3 (by decide) fnJ3_checkIndex_8e157 rfl (Nat.le_of_ble_eq_true rfl) ?_
  intro p e s m args below meth c C ls hl
  have hx := C.1
  have hb := C.2.1
  have hml := C.2.2.1
  have hown := C.2.2.2.1
  have hts := C.2.2.2.2.1
  have hl : lv_has ls 3 [(0, .int i), (1, .int n), (2, .null)] := hl
  refine lv_iload_n (pc := 0) hx hb dJ3_checkIndex_8e157_0 rfl (lv_at hl 0 rfl) ?_
  refine lv_if_lt (pc := 1) (tgt := 9) hx hb dJ3_checkIndex_8e157_1 (by decide) (fun q => absurd q h1) (fun _ => ?_)
  refine lv_iload_n (pc := 4) hx hb dJ3_checkIndex_8e157_4 rfl (lv_at hl 0 rfl) ?_
  refine lv_iload_n (pc := 5) hx hb dJ3_checkIndex_8e157_5 rfl (lv_at hl 1 rfl) ?_
  refine lv_icmp_lt (pc := 6) (tgt := 16) hx hb dJ3_checkIndex_8e157_6 (by decide) (fun _ => ?_) (fun q => absurd h2 q)
  refine lv_iload_n (pc := 16) hx hb dJ3_checkIndex_8e157_16 rfl (lv_at hl 0 rfl) ?_
  exact S_ret (pc := 17) (v := i) C rfl dJ3_checkIndex_8e157_17
abbrev rJ15_checkIndex_7cf53 : Room := { frames := 1, cells := 0, slots := 0, locals := 22 }
theorem fnJ15_checkIndex_7cf53 : Fn yJ15_checkIndex_7cf53 wsJ15_checkIndex_7cf53 cJ15_checkIndex_7cf53 2 (some .int) 2 rJ15_checkIndex_7cf53 0 0 := ⟨⟨_, rfl⟩, rfl, rfl, by decide +kernel⟩
theorem kJ15_checkIndex_7cf53 (l : Launch) (i n : Int32) (h1 : ¬ i < 0) (h2 : i < n) : S_Met l yJ15_checkIndex_7cf53 wsJ15_checkIndex_7cf53 rJ15_checkIndex_7cf53 [.int i, .int n] i := by
  refine S_of (n := 2) RJ15 (by decide) fnJ15_checkIndex_7cf53 rfl (Nat.le_of_ble_eq_true rfl) ?_
  intro p e s m args below meth c C ls hl
  have hx := C.1
  have hb := C.2.1
  have hml := C.2.2.1
  have hown := C.2.2.2.1
  have hts := C.2.2.2.2.1
  have hl : lv_has ls 2 [(0, .int i), (1, .int n)] := hl
  refine lv_iload_n (pc := 0) hx hb dJ15_checkIndex_7cf53_0 rfl (lv_at hl 0 rfl) ?_
  refine lv_iload_n (pc := 1) hx hb dJ15_checkIndex_7cf53_1 rfl (lv_at hl 1 rfl) ?_
  refine lv_null (pc := 2) hx hb dJ15_checkIndex_7cf53_2 ?_
  refine S_call (pc := 3) (As := [.int i, .int n, .null]) (rest := []) (r := i) C hl.1 (kJ3_checkIndex_8e157 l i n h1 h2) fnJ3_checkIndex_8e157 gJ15_checkIndex_7cf53_J3_checkIndex_8e157 rfl rfl ⟨Nat.le_of_ble_eq_true rfl, Nat.le_of_ble_eq_true rfl⟩ (Nat.le_of_ble_eq_true rfl) ⟨Nat.le_of_ble_eq_true rfl, Nat.le_of_ble_eq_true rfl⟩ dJ15_checkIndex_7cf53_3 ?_
  exact S_ret (pc := 6) (v := i) C rfl dJ15_checkIndex_7cf53_6
abbrev rJx4a65c_size_8abf5 : Room := { frames := 0, cells := 0, slots := 0, locals := 0 }
theorem fnJx4a65c_size_8abf5 : Fn yJx4a65c_size_8abf5 wsJx4a65c_size_8abf5 cJx4a65c_size_8abf5 1 (some .int) 0 rJx4a65c_size_8abf5 0 0 := ⟨⟨_, rfl⟩, rfl, rfl, by decide +kernel⟩
theorem inJx4a65c_size_8abf5 : ∀ w ∈ wsJx4a65c0, w ∈ wsJx4a65c_size_8abf5 := fun w h => List.mem_cons_of_mem _ (List.mem_append_right _ h)
theorem kJx4a65c_size_8abf5 (l : Launch) (D : va_G) (a : Nat) (v0 v1 : Value) (n : Int32) : N_R l yJx4a65c_size_8abf5 wsJx4a65c_size_8abf5 rJx4a65c_size_8abf5 D [] [(a, .inr (0, [v0, v1, .int n]))] [.ref a] n := by
  refine N_bodyR (n := 0) RJx4a65c rfl (by decide) fnJx4a65c_size_8abf5 (Nat.le_of_ble_eq_true rfl) ?_
  intro p e s m args below meth c C hN K A P ls hl
  have hx := C.1
  have hb := C.2.1
  have hml := C.2.2.1
  have hown := C.2.2.2.1
  have hts := C.2.2.2.2.1
  have hl : lv_has ls 1 [(0, .ref a)] := hl
  refine lv_aload_n (pc := 0) hx hb dJx4a65c_size_8abf5_0 rfl (lv_at hl 0 rfl) ?_
  refine x_get (pc := 1) (Cn := RJx4a65c) (T := TJx4a65c) (N := 3) (ci := 0) (fs := [v0, v1, .int n]) (v := .int n) C K P 0 rfl rfl inJx4a65c_size_8abf5 2 (Nat.le_of_ble_eq_true rfl) (List.mem_of_getElem? (i := 1) rfl) rfl dJx4a65c_size_8abf5_1 ?_
  exact S_ret (pc := 4) (v := n) C rfl dJx4a65c_size_8abf5_4
abbrev rJx4a65c_elementData_915e3 : Room := { frames := 0, cells := 0, slots := 0, locals := 0 }
theorem fnJx4a65c_elementData_915e3 : Fn yJx4a65c_elementData_915e3 wsJx4a65c_elementData_915e3 cJx4a65c_elementData_915e3 2 (some (.object "java/lang/Object")) 1 rJx4a65c_elementData_915e3 0 0 := ⟨⟨_, rfl⟩, rfl, rfl, by decide +kernel⟩
theorem inJx4a65c_elementData_915e3 : ∀ w ∈ wsJx4a65c0, w ∈ wsJx4a65c_elementData_915e3 := fun w h => List.mem_cons_of_mem _ (List.mem_append_right _ h)
theorem kJx4a65c_elementData_915e3 (l : Launch) (D : va_G) (a ed cap : Nat) (cO : ClassId) (rows : Nat → Option Nat) (v0 : Value) (n i : Int32) (hi : vp_in i cap) : N_Q l yJx4a65c_elementData_915e3 wsJx4a65c_elementData_915e3 rJx4a65c_elementData_915e3 D [(cO, .object "java/lang/Object")] [(a, .inr (0, [v0, .ref ed, .int n])), (ed, .inl (cO, cap, .inr (.inr (.inr (.inr rows)))))] [.ref a, .int i] (rows (ix i)) := by
  refine N_bodyQ (n := 1) RJx4a65c rfl (by decide) fnJx4a65c_elementData_915e3 (Nat.le_of_ble_eq_true rfl) ?_
  intro p e s m args below meth c C hN K A P ls hl
  have hx := C.1
  have hb := C.2.1
  have hml := C.2.2.1
  have hown := C.2.2.2.1
  have hts := C.2.2.2.2.1
  have hl : lv_has ls 2 [(0, .ref a), (1, .int i)] := hl
  refine lv_aload_n (pc := 0) hx hb dJx4a65c_elementData_915e3_0 rfl (lv_at hl 0 rfl) ?_
  refine x_get (pc := 1) (Cn := RJx4a65c) (T := TJx4a65c) (N := 3) (ci := 0) (fs := [v0, .ref ed, .int n]) (v := .ref ed) C K P 0 rfl rfl inJx4a65c_elementData_915e3 1 (Nat.le_of_ble_eq_true rfl) (List.mem_of_getElem? (i := 1) rfl) rfl dJx4a65c_elementData_915e3_1 ?_
  refine lv_iload_n (pc := 4) hx hb dJx4a65c_elementData_915e3_4 rfl (lv_at hl 1 rfl) ?_
  refine va_aldq (pc := 5) hx hb K P.1 1 0 rfl rfl hi dJx4a65c_elementData_915e3_5 ?_
  exact N_retQ (pc := 6) C rfl dJx4a65c_elementData_915e3_6
abbrev rJx4a65c_get_915e3 : Room := { frames := 2, cells := 0, slots := 0, locals := 43 }
theorem fnJx4a65c_get_915e3 : Fn yJx4a65c_get_915e3 wsJx4a65c_get_915e3 cJx4a65c_get_915e3 2 (some (.object "java/lang/Object")) 1 rJx4a65c_get_915e3 0 0 := ⟨⟨_, rfl⟩, rfl, rfl, by decide +kernel⟩
theorem inJx4a65c_get_915e3 : ∀ w ∈ wsJx4a65c0, w ∈ wsJx4a65c_get_915e3 := fun w h => List.mem_cons_of_mem _ (List.mem_append_right _ h)
theorem kJx4a65c_get_915e3 (l : Launch) (D : va_G) (a ed cap : Nat) (cO : ClassId) (rows : Nat → Option Nat) (v0 : Value) (n i : Int32) (h1 : ¬ i < 0) (h2 : i < n) (hi : vp_in i cap) : N_Q l yJx4a65c_get_915e3 wsJx4a65c_get_915e3 rJx4a65c_get_915e3 D [(cO, .object "java/lang/Object")] [(a, .inr (0, [v0, .ref ed, .int n])), (ed, .inl (cO, cap, .inr (.inr (.inr (.inr rows)))))] [.ref a, .int i] (rows (ix i)) := by
  refine N_bodyQ (n := 1) RJx4a65c rfl (by decide) fnJx4a65c_get_915e3 (Nat.le_of_ble_eq_true rfl) ?_
  intro p e s m args below meth c C hN K A P ls hl
  have hx := C.1
  have hb := C.2.1
  have hml := C.2.2.1
  have hown := C.2.2.2.1
  have hts := C.2.2.2.2.1
  have hl : lv_has ls 2 [(0, .ref a), (1, .int i)] := hl
  refine lv_iload_n (pc := 0) hx hb dJx4a65c_get_915e3_0 rfl (lv_at hl 1 rfl) ?_
  refine lv_aload_n (pc := 1) hx hb dJx4a65c_get_915e3_1 rfl (lv_at hl 0 rfl) ?_
  refine x_get (pc := 2) (Cn := RJx4a65c) (T := TJx4a65c) (N := 3) (ci := 0) (fs := [v0, .ref ed, .int n]) (v := .int n) C K P 0 rfl rfl inJx4a65c_get_915e3 2 (Nat.le_of_ble_eq_true rfl) (List.mem_of_getElem? (i := 1) rfl) rfl dJx4a65c_get_915e3_2 ?_
  refine S_call (pc := 5) (As := [.int i, .int n]) (rest := []) (r := i) C hl.1 (kJ15_checkIndex_7cf53 l i n h1 h2) fnJ15_checkIndex_7cf53 gJx4a65c_get_915e3_J15_checkIndex_7cf53 rfl rfl ⟨Nat.le_of_ble_eq_true rfl, Nat.le_of_ble_eq_true rfl⟩ (Nat.le_of_ble_eq_true rfl) ⟨Nat.le_of_ble_eq_true rfl, Nat.le_of_ble_eq_true rfl⟩ dJx4a65c_get_915e3_5 ?_
  refine lv_pop (pc := 8) hx hb dJx4a65c_get_915e3_8 rfl ?_
  refine lv_aload_n (pc := 9) hx hb dJx4a65c_get_915e3_9 rfl (lv_at hl 0 rfl) ?_
  refine lv_iload_n (pc := 10) hx hb dJx4a65c_get_915e3_10 rfl (lv_at hl 1 rfl) ?_
  refine N_callQ (pc := 11) (As := [.int i]) (rest := []) (rc := RJx4a65c) C hN K hl.1 P.1 (P.2.1.weaken (fun _ _ _ _ => trivial)) (va_recv K P.1 (ci := 0) (q0 := 0) rfl rfl) (kJx4a65c_elementData_915e3 l D a ed cap cO rows v0 n i hi) fnJx4a65c_elementData_915e3 rfl gJx4a65c_get_915e3_Jx4a65c_elementData_915e3 rfl rfl ⟨Nat.le_of_ble_eq_true rfl, Nat.le_of_ble_eq_true rfl⟩ (Nat.le_of_ble_eq_true rfl) ⟨Nat.le_of_ble_eq_true rfl, Nat.le_of_ble_eq_true rfl⟩ dJx4a65c_get_915e3_11 ?_
  exact N_retQ (pc := 14) C rfl dJx4a65c_get_915e3_14
