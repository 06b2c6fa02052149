/-! ===== the lists' writes: a world at large, the list's cell, its row ===== -/
abbrev ArO (cO : ClassId) (n : Nat) (f : Nat → Option Nat) : va_E := .inl (cO, n, .inr (.inr (.inr (.inr f))))
abbrev nOb : String := "[Ljava/lang/Object;"
def PreJ (X : State → Prop) (D : va_G) (cI cO : ClassId) (t0 sz : Nat) (wc : va_W) (U : State) : Prop := PreX D cI cO t0 sz wc U ∧ X U
theorem preJ_blind {X : State → Prop} (hX : ∀ u U : State, u.vm.Alike U.vm → X u → X U) {D : va_G} {cI cO : ClassId} {t0 sz : Nat} {wc : va_W} {As : List Value} : FrameBlind (va_Pc As (PreJ X D cI cO t0 sz wc)) := fun a U g mk q => by
  obtain ⟨q0, q1, q2⟩ := q
  obtain ⟨q4, q5⟩ := preX_blind (As := As) a U g mk ⟨q0, q1⟩
  exact ⟨q4, q5, hX U (U.calling g mk a) (Vm.Alike.refl U.vm) q2⟩
abbrev J_Q (X : State → Prop) (l : Launch) (y : MethodName) (ws : List Cond) (rm : Room) (D : va_G) (cI cO : ClassId) (t0 : Nat) (wc : va_W) (As : List Value) (wc' : Nat → va_W) : Prop :=
  ∀ sz : Nat, Met l y ws rm (va_Pc As (PreJ X D cI cO t0 sz wc)) (va_Qq (fun r (q : Nat) => r = some q) (fun q t => PicG D (va_A wc sz) (wc' q) t) (va_A wc sz)) 1 200 (va_A wc sz)
abbrev J_V (l : Launch) (y : MethodName) (ws : List Cond) (rm : Room) (D : va_G) (cI cO : ClassId) (t0 : Nat) (wc : va_W) (As : List Value) (wc' : Nat → va_W) : Prop :=
  ∀ sz : Nat, Met l y ws rm (va_Pc As (PreJ (fun _ => True) D cI cO t0 sz wc)) (va_Qv (fun (_ : Nat) => True) (fun q t => PicG D (va_A wc sz) (wc' q) t) (va_A wc sz)) 1 200 (va_A wc sz)
abbrev J_I (l : Launch) (y : MethodName) (ws : List Cond) (rm : Room) (D : va_G) (cI cO : ClassId) (t0 : Nat) (wc : va_W) (As : List Value) (wc' : Nat → va_W) : Prop :=
  ∀ sz : Nat, Met l y ws rm (va_Pc As (PreJ (fun _ => True) D cI cO t0 sz wc)) (va_Qi (fun r (_ : Nat) => r = 1) (fun q t => PicG D (va_A wc sz) (wc' q) t) (va_A wc sz)) 1 200 (va_A wc sz)
section JR
variable {p : Program} {l : Launch} {e : Env} {R : Room} {s : State} {m : MethodId} {args : Array Value} {below : List Frame} {meth : Method} {c : Code} {H : Heap} {locs : List Loc} {cells slots mc ms : Nat} {Q : State → Prop} {cc : ByteArray} {pc : Nat} {ls : Array Slot} {rest st0 : List Value} {Ts : List Cond} {nL : Nat} {D : va_G} {A : Nat → Prop} {ret : Option FieldType} {cI cO : ClassId} {t0 : Nat} {own : String} {wc : va_W} {wc' : Nat → va_W} {X : State → Prop}
theorem J_body {y : MethodName} {ws : List Cond} {rm : Room} {maxL n : Nat} {bytes : ByteArray} {As : List Value} {Qc : (Nat → Prop) → Array Value → State → Outcome → State → Prop} (own : String) (hy : y.cls = own) (hpl : plainName own = true) (hf : Fn y ws bytes maxL ret n rm mc ms) (hlen : (lg_sl As).length ≤ maxL)
    (body : ∀ (p : Program) (e : Env) (s : State) (m : MethodId) (args : Array Value) (below : List Frame) (meth : Method) (c : Code), Cx own p s m args meth c bytes maxL ws ret → EnvV s → va_K D vwCl (tyG cI cO) s → X s → (meth.name = y.name) → ∀ A : Nat → Prop, EnvH t0 A s s.heap → Hp D A s wc s.heap [] → ∀ ls : Array Slot, lv_has ls maxL (lv_args 0 As) →
      W p l e rm s m args below meth c s.heap [] 0 0 (MQ below (Qc A) args s mc ms A) (F0 m 0 ls [])) (sz : Nat) : Met l y ws rm (va_Pc As (PreJ X D cI cO t0 sz wc)) (Qc (va_A wc sz)) mc ms (va_A wc sz) := by
  obtain ⟨⟨ws', hw⟩, -, -, -⟩ := hf
  refine Met.ofW (cc := bytes) (maxL := maxL) (ret := ret) (by rw [hy]; exact hpl) hw ?_
  intro p e s m args below meth c s₁ B hml hv
  obtain ⟨rfl, ⟨hsz, hP, hK, hD, hV, hH⟩, hXs⟩ := hv
  subst hsz
  have hown : s.vm.findClass own = some m.cls := by rw [← hy]; exact findClass_of_methodNamed B.named
  have hl := lv_entry As (n := maxL) hlen
  rw [lg_entry_eq]
  exact body p e s m _ below meth c ⟨B.exec, B.bytes, hml, hown, atoms_spec (ws := ws) B.pre, B.returns, B.notSynchronized⟩ hV hK hXs (name_of_methodNamed B.named B.method).1 _ hH ⟨hP, hD.self, va_S.rf, fun q h => Or.inr h⟩ _ hl
theorem J_pre (V : EnvV s) (K : va_K D vwCl (tyG cI cO) s) (E9 : EnvH t0 A s s.heap) (P : Hp D A s wc H locs) (hX : X s) (hXm : ∀ u U : State, u.vm.Alike U.vm → X u → X U) (As : List Value) : PreS s H (va_Pc As (PreJ X D cI cO t0 H.size wc)) As := by
  have hF := va_A_in P.2.1 P.2.2.1 P.2.2.2
  exact ⟨preJ_blind hXm, fun U hU hW => ⟨rfl, ⟨by rw [hU], by rw [hU]; exact P.1, va_K.moved hW.alike K, P.2.1.weaken (fun _ _ _ _ => trivial), V.warm hW, by rw [hU]; exact E9.go P.2.2.1 hF hW.alike⟩, hXm _ _ hW.alike hX⟩⟩
theorem J_callQS {y : MethodName} {ws : List Cond} {rm : Room} {bytes : ByteArray} {maxL n index : Nat} {rty : Option FieldType} {As : List Value} (C : Cx own p s m args meth c cc nL Ts ret) (V : EnvV s) (K : va_K D vwCl (tyG cI cO) s) (E9 : EnvH t0 A s s.heap) (hl : ls.size = nL) (P : Hp D A s wc H locs) (hX : X s) (hXm : ∀ u U : State, u.vm.Alike U.vm → X u → X U)
    (hM : J_Q X l y ws rm D cI cO t0 wc As wc') (hf : Fn y ws bytes maxL rty n rm 1 200) (g : GoodIn Ts (va_wsS own index y ws)) (hn : As.length = n) (hst : st0 = As.reverse ++ rest) (hR : rm.frames + 1 ≤ R.frames ∧ 8 + (maxL + 11) + rm.locals ≤ R.locals) (hcat : (rest.map fun v => v.category).sum ≤ 8) (hz : cells + 1 ≤ R.cells ∧ slots + 200 ≤ R.slots)
    (d : decode cc pc = .ok (.invokestatic index, 3)) (kk : ∀ (q : Nat) (H : Heap) (locs : List Loc), Hp D A s (wc' q) H locs → W p l e R s m args below meth c H locs (cells + 1) (slots + 200) Q (F0 m (pc + 3) ls (.ref q :: rest))) : W p l e R s m args below meth c H locs cells slots Q (F0 m pc ls st0) := by
  obtain ⟨⟨ws', hw⟩, hrc, hrs, hd⟩ := hf
  have hF := va_A_in P.2.1 P.2.2.1 P.2.2.2
  refine va_callq (va_runS C.fix (hM H.size) (va_cwS n C.2.2.2.2.1 g hw hrc hrs hd hR) (J_pre V K E9 P hX hXm As) rfl hn hl hst (lv_room hcat) d hz) P.2.2.1 (fun q _ h => hF q h) hF (fun r u t H1 locs1 ht hvm hw hB hz1 hk1 hS => ?_)
  obtain ⟨hP1, hD1⟩ := hB
  rw [ht] at hP1
  rw [hw]
  exact kk u H1 locs1 ⟨hP1, hD1.weaken (fun _ _ _ h => hF _ h), hS, P.2.2.2⟩
theorem J_callQ {y : MethodName} {ws : List Cond} {rm : Room} {bytes : ByteArray} {maxL n index b : Nat} {rc : String} {rty : Option FieldType} {As : List Value} (C : Cx own p s m args meth c cc nL Ts ret) (V : EnvV s) (K : va_K D vwCl (tyG cI cO) s) (E9 : EnvH t0 A s s.heap) (hl : ls.size = nL) (P : Hp D A s wc H locs) (hr : ∃ cell : Cell, H[b]? = some cell ∧ cell.vm.isStatics = false ∧ s.vm.findClass rc = some cell.cls)
    (hM : J_Q (fun _ => True) l y ws rm D cI cO t0 wc (.ref b :: As) wc') (hf : Fn y ws bytes maxL rty n rm 1 200) (hy : y.cls = rc) (g : GoodIn Ts (wsV own index rc y ws)) (hn : As.length = n) (hst : st0 = As.reverse ++ .ref b :: rest) (hR : rm.frames + 1 ≤ R.frames ∧ 8 + (maxL + 11) + rm.locals ≤ R.locals) (hcat : (rest.map fun v => v.category).sum ≤ 8) (hz : cells + 1 ≤ R.cells ∧ slots + 200 ≤ R.slots)
    (d : decode cc pc = .ok (.invokevirtual index, 3)) (kk : ∀ (q : Nat) (H : Heap) (locs : List Loc), Hp D A s (wc' q) H locs → W p l e R s m args below meth c H locs (cells + 1) (slots + 200) Q (F0 m (pc + 3) ls (.ref q :: rest))) : W p l e R s m args below meth c H locs cells slots Q (F0 m pc ls st0) := by
  obtain ⟨⟨ws', hw⟩, hrc, hrs, hd⟩ := hf
  have hF := va_A_in P.2.1 P.2.2.1 P.2.2.2
  have hp := J_pre V K E9 P (X := fun _ => True) trivial (fun _ _ _ _ => trivial) (.ref b :: As)
  refine va_callq (va_runV C.fix (hM H.size) (cwV n C.2.2.2.2.1 g hw hrc hrs ⟨hy, hd⟩ hR) ⟨hp.1, hr, hp.2⟩ rfl hn hl hst (lv_room hcat) d hz) P.2.2.1 (fun q _ h => hF q h) hF (fun r u t H1 locs1 ht hvm hw hB hz1 hk1 hS => ?_)
  obtain ⟨hP1, hD1⟩ := hB
  rw [ht] at hP1
  rw [hw]
  exact kk u H1 locs1 ⟨hP1, hD1.weaken (fun _ _ _ h => hF _ h), hS, P.2.2.2⟩
theorem J_callV {y : MethodName} {ws : List Cond} {rm : Room} {bytes : ByteArray} {maxL n index b : Nat} {rc : String} {rty : Option FieldType} {As : List Value} (C : Cx own p s m args meth c cc nL Ts ret) (V : EnvV s) (K : va_K D vwCl (tyG cI cO) s) (E9 : EnvH t0 A s s.heap) (hl : ls.size = nL) (P : Hp D A s wc H locs) (hr : ∃ cell : Cell, H[b]? = some cell ∧ cell.vm.isStatics = false ∧ s.vm.findClass rc = some cell.cls)
    (hM : J_V l y ws rm D cI cO t0 wc (.ref b :: As) wc') (hf : Fn y ws bytes maxL rty n rm 1 200) (hy : y.cls = rc) (g : GoodIn Ts (wsV own index rc y ws)) (hn : As.length = n) (hst : st0 = As.reverse ++ .ref b :: rest) (hR : rm.frames + 1 ≤ R.frames ∧ 8 + (maxL + 11) + rm.locals ≤ R.locals) (hcat : (rest.map fun v => v.category).sum ≤ 8) (hz : cells + 1 ≤ R.cells ∧ slots + 200 ≤ R.slots)
    (d : decode cc pc = .ok (.invokevirtual index, 3)) (kk : ∀ (q : Nat) (H : Heap) (locs : List Loc), Hp D A s (wc' q) H locs → W p l e R s m args below meth c H locs (cells + 1) (slots + 200) Q (F0 m (pc + 3) ls rest)) : W p l e R s m args below meth c H locs cells slots Q (F0 m pc ls st0) := by
  obtain ⟨⟨ws', hw⟩, hrc, hrs, hd⟩ := hf
  have hF := va_A_in P.2.1 P.2.2.1 P.2.2.2
  have hp := J_pre V K E9 P (X := fun _ => True) trivial (fun _ _ _ _ => trivial) (.ref b :: As)
  refine va_callv (va_runV C.fix (hM H.size) (cwV n C.2.2.2.2.1 g hw hrc hrs ⟨hy, hd⟩ hR) ⟨hp.1, hr, hp.2⟩ rfl hn hl hst (lv_room hcat) d hz) P.2.2.1 (fun q _ h => hF q h) hF (fun u t H1 locs1 ht hvm hw hB hz1 hk1 hS => ?_)
  obtain ⟨hP1, hD1⟩ := hB
  rw [ht] at hP1
  exact kk u H1 locs1 ⟨hP1, hD1.weaken (fun _ _ _ h => hF _ h), hS, P.2.2.2⟩
theorem J_callI {y : MethodName} {ws : List Cond} {rm : Room} {bytes : ByteArray} {maxL n index b : Nat} {rc : String} {rty : Option FieldType} {As : List Value} (C : Cx own p s m args meth c cc nL Ts ret) (V : EnvV s) (K : va_K D vwCl (tyG cI cO) s) (E9 : EnvH t0 A s s.heap) (hl : ls.size = nL) (P : Hp D A s wc H locs) (hr : ∃ cell : Cell, H[b]? = some cell ∧ cell.vm.isStatics = false ∧ s.vm.findClass rc = some cell.cls)
    (hM : J_I l y ws rm D cI cO t0 wc (.ref b :: As) wc') (hf : Fn y ws bytes maxL rty n rm 1 200) (hy : y.cls = rc) (g : GoodIn Ts (wsV own index rc y ws)) (hn : As.length = n) (hst : st0 = As.reverse ++ .ref b :: rest) (hR : rm.frames + 1 ≤ R.frames ∧ 8 + (maxL + 11) + rm.locals ≤ R.locals) (hcat : (rest.map fun v => v.category).sum ≤ 8) (hz : cells + 1 ≤ R.cells ∧ slots + 200 ≤ R.slots)
    (d : decode cc pc = .ok (.invokevirtual index, 3)) (kk : ∀ (q : Nat) (H : Heap) (locs : List Loc), Hp D A s (wc' q) H locs → W p l e R s m args below meth c H locs (cells + 1) (slots + 200) Q (F0 m (pc + 3) ls (.int 1 :: rest))) : W p l e R s m args below meth c H locs cells slots Q (F0 m pc ls st0) := by
  obtain ⟨⟨ws', hw⟩, hrc, hrs, hd⟩ := hf
  have hF := va_A_in P.2.1 P.2.2.1 P.2.2.2
  have hp := J_pre V K E9 P (X := fun _ => True) trivial (fun _ _ _ _ => trivial) (.ref b :: As)
  refine va_calli (va_runV C.fix (hM H.size) (cwV n C.2.2.2.2.1 g hw hrc hrs ⟨hy, hd⟩ hR) ⟨hp.1, hr, hp.2⟩ rfl hn hl hst (lv_room hcat) d hz) P.2.2.1 (fun q _ h => hF q h) hF (fun r u t H1 locs1 ht hvm hw hB hz1 hk1 hS => ?_)
  obtain ⟨hP1, hD1⟩ := hB
  rw [ht] at hP1
  rw [hw]
  exact kk u H1 locs1 ⟨hP1, hD1.weaken (fun _ _ _ h => hF _ h), hS, P.2.2.2⟩
theorem J_retQ {q : Nat} {rt : FieldType} {W0 : va_W} (C : Cx own p s m args meth c cc nL Ts (some rt)) (hrt : (∃ n, rt = .object n) ∨ ∃ t, rt = .array t) (P : Hp D A s W0 H locs) (hw : W0 = wc' q) (hm : cells ≤ mc ∧ slots ≤ ms) (d : decode cc pc = .ok (.areturn, 1)) :
    W p l e R s m args below meth c H locs cells slots (MQ below (va_Qq (fun r (q : Nat) => r = some q) (fun q t => PicG D A (wc' q) t) A) args s mc ms A) (F0 m pc ls [.ref q]) := by
  have hlocks := C.2.2.2.2.2.2
  subst hw
  exact W.widen hm.1 hm.2 (W.aret C.1 C.2.1 C.2.2.2.2.2.1 hrt (Or.inr ⟨_, rfl⟩) (fun t ht hW => ⟨⟨some q, q, rfl, rfl, by show va_P D vwCl _ t.heap; rw [ht]; exact P.1, P.2.1⟩, P.2.2.1.F ht⟩) P.2.2.1.2.2 d)
theorem J_retV {q : Nat} {W0 : va_W} (C : Cx own p s m args meth c cc nL Ts none) (P : Hp D A s W0 H locs) (hw : W0 = wc' q) (hm : cells ≤ mc ∧ slots ≤ ms) (d : decode cc pc = .ok (.return_, 1)) :
    W p l e R s m args below meth c H locs cells slots (MQ below (va_Qv (fun (_ : Nat) => True) (fun q t => PicG D A (wc' q) t) A) args s mc ms A) (F0 m pc ls []) := by
  have hlocks := C.2.2.2.2.2.2
  subst hw
  exact W.widen hm.1 hm.2 (W.vret C.1 C.2.1 C.2.2.2.2.2.1 (fun t ht hW => ⟨⟨q, rfl, trivial, by show va_P D vwCl _ t.heap; rw [ht]; exact P.1, P.2.1⟩, P.2.2.1.F ht⟩) P.2.2.1.2.2 d)
theorem J_retI {q : Nat} {W0 : va_W} (C : Cx own p s m args meth c cc nL Ts (some .boolean)) (P : Hp D A s W0 H locs) (hw : W0 = wc' q) (hm : cells ≤ mc ∧ slots ≤ ms) (d : decode cc pc = .ok (.ireturn, 1)) :
    W p l e R s m args below meth c H locs cells slots (MQ below (va_Qi (fun r (_ : Nat) => r = 1) (fun q t => PicG D A (wc' q) t) A) args s mc ms A) (F0 m pc ls [.int 1]) := by
  have hlocks := C.2.2.2.2.2.2
  subst hw
  exact W.widen hm.1 hm.2 (W.zret C.1 C.2.1 C.2.2.2.2.2.1 rfl (fun t ht hW => ⟨⟨1, q, rfl, rfl, by show va_P D vwCl _ t.heap; rw [ht]; exact P.1, P.2.1⟩, P.2.2.1.F ht⟩) P.2.2.1.2.2 d)
theorem nmO (K : va_K D vwCl (tyG cI cO) s) : s.vm.findClass nOb = some cO := va_nmO (K.2 1 (cO, .object "java/lang/Object") rfl).2 (by decide)
/-- a new row of objects, set first in the world -/
theorem x_newO (C : Cx own p s m args meth c cc nL Ts ret) (V : EnvV s) (K : va_K D vwCl (tyG cI cO) s) (P : Hp D A s wc H locs) {index : Nat} (hlink : Cond.classLink own index "java/lang/Object" ∈ Ts) {n : Int32} (N' : Nat) (hn : ¬ n < 0) (hN : n.toNatClampNeg = N') (hby : N' * 4 ≤ 536870912) (hc : cells + 1 ≤ R.cells) (hs : slots + N' ≤ R.slots) (d : decode cc pc = .ok (.anewarray index, 3))
    (kk : ∀ (q : Nat) (H : Heap), Hp D A s ((q, ArO cO N' (fun _ => none)) :: wc) H locs → W p l e R s m args below meth c H locs (cells + 1) (slots + N') Q (F0 m (pc + 3) ls (.ref q :: rest))) : W p l e R s m args below meth c H locs cells slots Q (F0 m pc ls (.int n :: rest)) := by
  refine va_newq C.1 C.2.1 C.2.2.2.1 (C.2.2.2.2.1 _ hlink) V.2.2.1 K P.1 P.2.1 P.2.2.1 P.2.2.2 hn hN hby hc hs d (fun q cA H1 hK1 h1 h2 h3 => ?_)
  have e1 : s.vm.findClass nOb = some cA := va_nmO (hK1.2 (tyG cI cO).length (cA, .object "java/lang/Object") (by simp)).2 (by decide)
  have e3 : cA = cO := Option.some.inj (e1.symm.trans (nmO K))
  rw [e3] at h1 h2
  exact kk q H1 (Hp.perm (⟨h1, h2, h3, P.2.2.2⟩ : Hp D A s _ H1 locs) (List.perm_append_singleton _ _).symm)
theorem J_bodyQ {y : MethodName} {ws : List Cond} {rm : Room} {maxL n : Nat} {bytes : ByteArray} {As : List Value} (own : String) (hy : y.cls = own) (hpl : plainName own = true) (hf : Fn y ws bytes maxL ret n rm 1 200) (hlen : (lg_sl As).length ≤ maxL)
    (body : ∀ (p : Program) (e : Env) (s : State) (m : MethodId) (args : Array Value) (below : List Frame) (meth : Method) (c : Code), Cx own p s m args meth c bytes maxL ws ret → EnvV s → va_K D vwCl (tyG cI cO) s → X s → (meth.name = y.name) → ∀ A : Nat → Prop, EnvH t0 A s s.heap → Hp D A s wc s.heap [] → ∀ ls : Array Slot, lv_has ls maxL (lv_args 0 As) →
      W p l e rm s m args below meth c s.heap [] 0 0 (MQ below (va_Qq (fun r (q : Nat) => r = some q) (fun q t => PicG D A (wc' q) t) A) args s 1 200 A) (F0 m 0 ls [])) : J_Q X l y ws rm D cI cO t0 wc As wc' := by
  intro sz
  exact J_body (n := n) (Qc := fun A => va_Qq (fun r (q : Nat) => r = some q) (fun q t => PicG D A (wc' q) t) A) own hy hpl hf hlen body sz
theorem J_bodyV {y : MethodName} {ws : List Cond} {rm : Room} {maxL n : Nat} {bytes : ByteArray} {As : List Value} (own : String) (hy : y.cls = own) (hpl : plainName own = true) (hf : Fn y ws bytes maxL ret n rm 1 200) (hlen : (lg_sl As).length ≤ maxL)
    (body : ∀ (p : Program) (e : Env) (s : State) (m : MethodId) (args : Array Value) (below : List Frame) (meth : Method) (c : Code), Cx own p s m args meth c bytes maxL ws ret → EnvV s → va_K D vwCl (tyG cI cO) s → True → (meth.name = y.name) → ∀ A : Nat → Prop, EnvH t0 A s s.heap → Hp D A s wc s.heap [] → ∀ ls : Array Slot, lv_has ls maxL (lv_args 0 As) →
      W p l e rm s m args below meth c s.heap [] 0 0 (MQ below (va_Qv (fun (_ : Nat) => True) (fun q t => PicG D A (wc' q) t) A) args s 1 200 A) (F0 m 0 ls [])) : J_V l y ws rm D cI cO t0 wc As wc' := by
  intro sz
  exact J_body (X := fun _ => True) (n := n) (Qc := fun A => va_Qv (fun (_ : Nat) => True) (fun q t => PicG D A (wc' q) t) A) own hy hpl hf hlen body sz
theorem J_bodyI {y : MethodName} {ws : List Cond} {rm : Room} {maxL n : Nat} {bytes : ByteArray} {As : List Value} (own : String) (hy : y.cls = own) (hpl : plainName own = true) (hf : Fn y ws bytes maxL ret n rm 1 200) (hlen : (lg_sl As).length ≤ maxL)
    (body : ∀ (p : Program) (e : Env) (s : State) (m : MethodId) (args : Array Value) (below : List Frame) (meth : Method) (c : Code), Cx own p s m args meth c bytes maxL ws ret → EnvV s → va_K D vwCl (tyG cI cO) s → True → (meth.name = y.name) → ∀ A : Nat → Prop, EnvH t0 A s s.heap → Hp D A s wc s.heap [] → ∀ ls : Array Slot, lv_has ls maxL (lv_args 0 As) →
      W p l e rm s m args below meth c s.heap [] 0 0 (MQ below (va_Qi (fun r (_ : Nat) => r = 1) (fun q t => PicG D A (wc' q) t) A) args s 1 200 A) (F0 m 0 ls [])) : J_I l y ws rm D cI cO t0 wc As wc' := by
  intro sz
  exact J_body (X := fun _ => True) (n := n) (Qc := fun A => va_Qi (fun r (_ : Nat) => r = 1) (fun q t => PicG D A (wc' q) t) A) own hy hpl hf hlen body sz
end JR
def El (wc : va_W) (y : Nat) : Prop := ∃ (q ci : Nat) (fs : List Value), wc[q]? = some (y, .inr (ci, fs)) ∧ (ci = 4 ∨ ci = 5 ∨ ci = 6)
theorem El.any {D : va_G} {s : State} {H : Heap} {wc : va_W} {y : Nat} {tys : List (ClassId × FieldType)} (hN : EnvN s) (K : va_K D vwCl tys s) (hP : va_P D vwCl wc H) (h : El wc y) : va_Any "java/lang/Object" s H y := by
  obtain ⟨q, ci, fs, he, rfl | rfl | rfl⟩ := h
  · exact va_rAny K hP he (r := (RX3, TX3, 2)) rfl (fun comp c0 => vb_asgC (hN _ (List.mem_of_getElem? (i := 38) rfl)) comp c0)
  · exact va_rAny K hP he (r := (RX4, TX4, 5)) rfl (fun comp c0 => vb_asgC (hN _ (List.mem_of_getElem? (i := 40) rfl)) comp c0)
  · exact va_rAny K hP he (r := (RX5, TX5, 4)) rfl (fun comp c0 => vb_asgC (hN _ (List.mem_of_getElem? (i := 37) rfl)) comp c0)
theorem El.cons {wc : va_W} {y : Nat} {x : Nat × va_E} (h : El wc y) : El (x :: wc) y := by
  obtain ⟨q, ci, fs, he, hc⟩ := h
  exact ⟨q + 1, ci, fs, he, hc⟩
abbrev rJ7_copyOf_6403c : Room := { frames := 1, cells := 1, slots := 200, locals := 24 }
theorem fnJ7_copyOf_6403c : Fn yJ7_copyOf_6403c wsJ7_copyOf_6403c cJ7_copyOf_6403c 4 (some (.array (.object "java/lang/Object"))) 3 rJ7_copyOf_6403c 1 200 := ⟨⟨_, rfl⟩, rfl, rfl, by decide +kernel⟩
theorem kJ7_copyOf_6403c (l : Launch) (D : va_G) (cI cO : ClassId) (t0 : Nat) (wc : va_W) (pd ed cap N' mi : Nat) (f : Nat → Option Nat) (hd : wc[pd]? = some (ed, ArO cO cap f)) (hc : cap ≤ N') (hN : N' ≤ 200) (hE : ∀ i, i < cap → ∀ y, f i = some y → El wc y) :
    J_Q (va_Mi nOb mi) l yJ7_copyOf_6403c wsJ7_copyOf_6403c rJ7_copyOf_6403c D cI cO t0 wc [.ref ed, .int (nI N'), .ref mi] (fun q => (q, ArO cO N' (va_cpy f (fun _ => none) 0 0 cap)) :: wc) := by
  refine J_bodyQ (n := 3) RJ7 rfl (by decide) fnJ7_copyOf_6403c (Nat.le_of_ble_eq_true rfl) ?_
  intro p e s m args below meth c C V K hMi hnm A E9 P ls hl
  have hx := C.1
  have hb := C.2.1
  have hml := C.2.2.1
  have hown := C.2.2.2.1
  have hts := C.2.2.2.2.1
  have hl : lv_has ls 4 [(0, .ref ed), (1, .int (nI N')), (2, .ref mi)] := hl
  have hN0 : ¬ nI N' < 0 := nI_pos (by omega)
  have hNc : (nI N').toNatClampNeg = N' := nI_clamp (by omega)
  refine lv_aload_n (pc := 0) hx hb dJ7_copyOf_6403c_0 rfl (lv_at hl 2 rfl) ?_
  refine va_ldcM (pc := 1) hx hb hown (hts _ (List.mem_of_getElem? (i := 1) rfl)) hMi dJ7_copyOf_6403c_1 ?_
  refine lv_acmp_ne (pc := 3) (tgt := 13) (rx := some mi) (ry := some mi) hx hb dJ7_copyOf_6403c_3 (by decide) (fun h => absurd rfl h) (fun _ => ?_)
  refine lv_iload_n (pc := 6) hx hb dJ7_copyOf_6403c_6 rfl (lv_at hl 1 rfl) ?_
  refine x_newO (pc := 7) C V K P (List.mem_of_getElem? (i := 2) rfl) N' hN0 hNc (by omega) (Nat.le_of_ble_eq_true rfl) (by show 0 + N' ≤ 200; omega) dJ7_copyOf_6403c_7 (fun q H P => ?_)
  refine lv_goto (pc := 10) (tgt := 24) hx hb dJ7_copyOf_6403c_10 (by decide) ?_
  refine lv_astore_n (pc := 24) (lv' := [(3, .ref q), (0, .ref ed), (1, .int (nI N')), (2, .ref mi)]) hx hb dJ7_copyOf_6403c_24 rfl hl (by decide) rfl (fun ls hl => ?_)
  refine lv_aload_n (pc := 25) hx hb dJ7_copyOf_6403c_25 rfl (lv_at hl 1 rfl) ?_
  refine lv_iconst (pc := 26) (v := 0) hx hb dJ7_copyOf_6403c_26 (by decide) ?_
  refine lv_aload_n (pc := 27) hx hb dJ7_copyOf_6403c_27 rfl (lv_at hl 0 rfl) ?_
  refine lv_iconst (pc := 28) (v := 0) hx hb dJ7_copyOf_6403c_28 (by decide) ?_
  refine lv_aload_n (pc := 29) hx hb dJ7_copyOf_6403c_29 rfl (lv_at hl 1 rfl) ?_
  refine va_alen (pc := 30) (x := (cap, .inr (.inr (.inr (.inr f))))) (v := nI cap) hx hb K P.1 (pd + 1) 1 hd rfl rfl dJ7_copyOf_6403c_30 ?_
  refine lv_iload_n (pc := 31) hx hb dJ7_copyOf_6403c_31 rfl (lv_at hl 2 rfl) ?_
  refine va_mmin (pc := 32) hx hb (hml.trans hl.1.symm) hown (hts _ (List.mem_of_getElem? (i := 3) rfl)) (hts _ (List.mem_of_getElem? (i := 4) rfl)) (hts _ (List.mem_of_getElem? (i := 5) rfl)) (hts _ (List.mem_of_getElem? (i := 6) rfl)) (Nat.le_of_ble_eq_true rfl) (Nat.le_of_ble_eq_true rfl) (Nat.le_of_ble_eq_true rfl) (by show 0 + N' ≤ 200; omega) dJ7_copyOf_6403c_32 ?_
  have hmin : (if nI N' < nI cap then nI N' else nI cap) = nI cap := if_neg (fun h => by
    have h2 := Int32.lt_iff_toInt_lt.mp h
    rw [nI_toInt (by omega), nI_toInt (by omega)] at h2
    omega)
  rw [hmin]
  have hcc : (nI cap).toNatClampNeg = cap := nI_clamp (by omega)
  have hz0 : (0 : Int32).toNatClampNeg = 0 := by decide
  refine va_copyM (pc := 35) hx hb (hml.trans hl.1.symm) hown (hts _ (List.mem_of_getElem? (i := 7) rfl)) (hts _ (List.mem_of_getElem? (i := 8) rfl)) (hts _ (List.mem_of_getElem? (i := 9) rfl)) (hts _ (List.mem_of_getElem? (i := 10) rfl)) K P.1 P.2.1 P.2.2.1 (pd + 1) 0 1 1 (E0 := "java/lang/Object") (E1 := "java/lang/Object") hd rfl rfl rfl (by decide) (by decide) (nI_pos (by omega)) (by rw [hcc, hz0]; omega) (by rw [hcc, hz0]; omega) (fun i hi y hy => (hE i (by rw [hcc] at hi; exact hi) y (by rw [hz0, Nat.zero_add] at hy; exact hy)).cons.any V.1 K P.1) (Nat.le_of_ble_eq_true rfl) (by decide +kernel) dJ7_copyOf_6403c_35 (fun H1 locs1 h1 h2 h3 => ?_)
  rw [hcc, hz0] at h1 h2
  have P : Hp D A s ((q, ArO cO N' (va_cpy f (fun _ => none) 0 0 cap)) :: wc) H1 locs1 := ⟨h1, h2, h3, P.2.2.2⟩
  refine lv_aload_n (pc := 38) hx hb dJ7_copyOf_6403c_38 rfl (lv_at hl 0 rfl) ?_
  exact J_retQ (pc := 39) C (Or.inr ⟨_, rfl⟩) P rfl ⟨Nat.le_of_ble_eq_true rfl, by show 0 + N' ≤ 200; omega⟩ dJ7_copyOf_6403c_39
