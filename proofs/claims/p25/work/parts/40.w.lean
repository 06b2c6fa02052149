/-! ===== the law's wrappers: what they throw is caught, answered as a number ===== -/
abbrev nX1 : String := "java/lang/IndexOutOfBoundsException"
abbrev nX2 : String := "java/lang/IllegalArgumentException"
abbrev nX3 : String := "java/lang/IllegalStateException"
def EnvC (U : State) : Prop := (∀ a, (Cond.classLink RL 14 nX1).before a U = true) ∧ (∀ a, (Cond.classLink RL 17 nX2).before a U = true) ∧ (∀ a, (Cond.classLink RL 20 nX3).before a U = true) ∧ va_Nc nX2 nX1 U ∧ va_Nc nX3 nX1 U ∧ va_Nc nX3 nX2 U
theorem EnvC.warm {s U : State} (h : EnvC s) (hW : s.WarmedH U.vm) : EnvC U :=
  ⟨fun a => word_at hW (Or.inl rfl) (h.1 a), fun a => word_at hW (Or.inl rfl) (h.2.1 a), fun a => word_at hW (Or.inl rfl) (h.2.2.1 a), va_Nc.moved hW.alike h.2.2.2.1, va_Nc.moved hW.alike h.2.2.2.2.1, va_Nc.moved hW.alike h.2.2.2.2.2⟩
theorem EnvC.same {s U : State} (h : EnvC s) (hv : s.vm = U.vm) : EnvC U := by
  have ha : s.vm.Alike U.vm := by rw [hv]; exact Vm.Alike.refl U.vm
  exact ⟨fun a => va_tabs rfl hv (h.1 a), fun a => va_tabs rfl hv (h.2.1 a), fun a => va_tabs rfl hv (h.2.2.1 a), va_Nc.moved ha h.2.2.2.1, va_Nc.moved ha h.2.2.2.2.1, va_Nc.moved ha h.2.2.2.2.2⟩
def PreL (D : va_G) (cI cO : ClassId) (t0 sz : Nat) (wc : va_W) (U : State) : Prop := U.heap.size = sz ∧ va_P D vwCl wc U.heap ∧ va_K D vwCl (tyG cI cO) U ∧ va_D (fun _ => True) wc ∧ EnvV U ∧ EnvC U ∧ EnvH t0 (va_A wc sz) U U.heap
theorem preL_blind {D : va_G} {cI cO : ClassId} {t0 sz : Nat} {wc : va_W} {As : List Value} : FrameBlind (va_Pc As (PreL D cI cO t0 sz wc)) := fun a U g mk q => by
  obtain ⟨q0, q1, qP, qK, qD, qV, qC, qH⟩ := q
  exact ⟨q0, q1, qP, va_K.moved (u := U) (U := U.calling g mk a) (Vm.Alike.refl U.vm) qK, qD, qV.same rfl, qC.same rfl, EnvH.moved (u := U) (U := U.calling g mk a) (Vm.Alike.refl U.vm) qH⟩
/-- what a wrapper answers -/
def an (f : Int32 × Int32 × Sg) : Int32 := if f.1 = 0 then f.2.1 else if f.1 = 1 then (-2000000001) else if f.1 = 2 then (-2000000002) else (-2000000003)
theorem an_0 {f : Int32 × Int32 × Sg} (h : f.1 = 0) : an f = f.2.1 := if_pos h
theorem an_1 {f : Int32 × Int32 × Sg} (h : f.1 = 1) : an f = (-2000000001) := by rw [an, if_neg (by rw [h]; decide), if_pos h]
theorem an_2 {f : Int32 × Int32 × Sg} (h : f.1 = 2) : an f = (-2000000002) := by rw [an, if_neg (by rw [h]; decide), if_neg (by rw [h]; decide), if_pos h]
theorem an_3 {f : Int32 × Int32 × Sg} (h : f.1 = 3) : an f = (-2000000003) := by rw [an, if_neg (by rw [h]; decide), if_neg (by rw [h]; decide), if_neg (by rw [h]; decide)]
abbrev L_Q (D : va_G) (cI cO : ClassId) (t0 : Nat) (f : Int32 × Int32 × Sg) (g0 : Nat) (A : Nat → Prop) : Array Value → State → Outcome → State → Prop :=
  va_Qi (fun r (η' : Eg) => r = an f ∧ Gok t0 η' f.2.2 ∧ e_ad η' 0 = g0) (fun η' t => PicG D A (G_W cI cO η' f.2.2) t) A
def L_Met (l : Launch) (y : MethodName) (ws : List Cond) (rm : Room) (D : va_G) (cI cO : ClassId) (t0 : Nat) (η : Eg) (σ : Sg) (f : Int32 × Int32 × Sg) (As : List Value) (mc ms : Nat) : Prop :=
  ∀ sz : Nat, Met l y ws rm (va_Pc As (PreL D cI cO t0 sz (G_W cI cO η σ))) (L_Q D cI cO t0 f (e_ad η 0) (va_A (G_W cI cO η σ) sz)) mc ms (va_A (G_W cI cO η σ) sz)
def FnW (y : MethodName) (ws : List Cond) (bytes : ByteArray) (maxL : Nat) (ret : Option FieldType) (hh : List (Nat × Nat × Nat × Nat)) (n : Nat) (rm : Room) (mc ms : Nat) : Prop :=
  (∃ ws', ws = Cond.codeWith y bytes maxL ret hh :: ws') ∧ rm.cells = mc ∧ rm.slots = ms ∧ (y.cls ≠ "java/lang/invoke/MethodHandle" ∧ y.cls ≠ "java/lang/invoke/VarHandle" ∧ (parseMethodDescriptor y.desc).map (fun d => d.parameters.length) = some n)
theorem Met_ofWH {l : Launch} {y : MethodName} {ws ws' : List Cond} {rm : Room} {Pc : Array Value → State → Prop} {Qc : Array Value → State → Outcome → State → Prop} {mc ms : Nat} {free : Addr → Prop} {cc : ByteArray} {maxL : Nat} {ret : Option FieldType} {hh : List (Nat × Nat × Nat × Nat)}
    (hy : plainName y.cls = true) (hw : ws = Cond.codeWith y cc maxL ret hh :: ws')
    (body : ∀ p e s m args below meth c s₁, BodyLoose p l y (headSpec ws rm) cc maxL ret e s m args below meth c s₁ → c.maxLocals = maxL → Pc args s →
      W p l e (headSpec ws rm).room s m args below meth c s.heap [] 0 0 (MQ below Qc args s mc ms free) (entryFrame m args maxL)) : Met l y ws rm Pc Qc mc ms free := by
  refine MetFree.of_bodyS (code := cc) (maxLocals := maxL) (ret := ret) hy ?_ ?_
  · intro args s m h hn
    obtain ⟨m9, meth, c, hn9, h1, h2, h3, h4, -, h5, h6, -⟩ := Cond.codeWith_spec (atoms_spec (ws := ws) h _ (by rw [hw]; exact List.mem_cons_self))
    cases hn.symm.trans hn9
    exact ⟨meth, c, h1, h2, h3, h4, h5, h6⟩
  · intro p e s m args below meth c s₁ B hml hP _
    have hh0 : s₁.heap = s.heap := by rw [B.state]; rfl
    obtain ⟨t, a1, o, b1, b2, b3⟩ := body p e s m args below meth c s₁ B hml hP s₁ hh0 (Stand.of_body B)
    exact ⟨t, o, a1, b1, b2, b3⟩
section LR
variable {p : Program} {l : Launch} {e : Env} {R : Room} {s : State} {m : MethodId} {args : Array Value} {below : List Frame} {meth : Method} {c : Code} {H : Heap} {locs : List Loc} {cells slots mc ms : Nat} {Q : State → Prop} {cc : ByteArray} {pc : Nat} {ls : Array Slot} {rest st0 : List Value} {Ts : List Cond} {nL : Nat} {D : va_G} {A : Nat → Prop} {ret : Option FieldType} {cI cO : ClassId} {t0 : Nat} {η : Eg} {σ : Sg}
theorem L_body {y : MethodName} {ws : List Cond} {rm : Room} {maxL n : Nat} {bytes : ByteArray} {hh : List (Nat × Nat × Nat × Nat)} {As : List Value} {f : Int32 × Int32 × Sg} (hy : y.cls = RL) (hf : FnW y ws bytes maxL ret hh n rm mc ms) (hlen : (lg_sl As).length ≤ maxL)
    (body : ∀ (p : Program) (e : Env) (s : State) (m : MethodId) (args : Array Value) (below : List Frame) (meth : Method) (c : Code), Cx RL p s m args meth c bytes maxL ws ret → EnvV s → EnvC s → va_K D vwCl (tyG cI cO) s → c.exceptionTable.toList = tableOf hh → ∀ A : Nat → Prop, EnvH t0 A s s.heap → Hp D A s (G_W cI cO η σ) s.heap [] → ∀ ls : Array Slot, lv_has ls maxL (lv_args 0 As) →
      W p l e rm s m args below meth c s.heap [] 0 0 (MQ below (L_Q D cI cO t0 f (e_ad η 0) A) args s mc ms A) (F0 m 0 ls [])) : L_Met l y ws rm D cI cO t0 η σ f As mc ms := by
  intro sz
  obtain ⟨⟨ws', hw⟩, -, -, -⟩ := hf
  refine Met_ofWH (cc := bytes) (maxL := maxL) (ret := ret) (by rw [hy]; decide) hw ?_
  intro p e s m args below meth c s₁ B hml hv
  obtain ⟨rfl, hsz, hP, hK, hD, hV, hC, hH⟩ := hv
  subst hsz
  have hown : s.vm.findClass RL = some m.cls := by rw [← hy]; exact findClass_of_methodNamed B.named
  have hl := lv_entry As (n := maxL) hlen
  have hat := atoms_spec (ws := ws) B.pre
  rw [lg_entry_eq]
  exact body p e s m _ below meth c ⟨B.exec, B.bytes, hml, hown, hat, B.returns, B.notSynchronized⟩ hV hC hK (vx_table (x := y) B (hat _ (by rw [hw]; exact List.mem_cons_self))) _ hH ⟨hP, hD.self, va_S.rf, fun q h => Or.inr h⟩ _ hl
theorem L_ret {η' : Eg} {g0 : Nat} {f : Int32 × Int32 × Sg} {v : Int32} {σ' : Sg} (C : Cx RL p s m args meth c cc nL Ts (some .int)) (P : Hp D A s (G_W cI cO η' σ') H locs) (hs : f.2.2 = σ') (hv : v = an f) (hG : Gok t0 η' σ') (h0 : e_ad η' 0 = g0) (hm : cells ≤ mc ∧ slots ≤ ms) (d : decode cc pc = .ok (.ireturn, 1)) :
    W p l e R s m args below meth c H locs cells slots (MQ below (L_Q D cI cO t0 f g0 A) args s mc ms A) (F0 m pc ls [.int v]) := by
  have hlocks := C.2.2.2.2.2.2
  subst hs
  exact W.widen hm.1 hm.2 (W.iret C.1 C.2.1 C.2.2.2.2.2.1 (fun t ht hW => ⟨⟨v, η', rfl, ⟨hv, hG, h0⟩, by show va_P D vwCl _ t.heap; rw [ht]; exact P.1, P.2.1⟩, P.2.2.1.F ht⟩) P.2.2.1.2.2 d)
theorem L_callI {y : MethodName} {ws : List Cond} {rm : Room} {bytes : ByteArray} {maxL n index : Nat} {rty : Option FieldType} {As : List Value} {f : Int32 × Int32 × Sg} (C : Cx RL p s m args meth c cc nL Ts ret) (V : EnvV s) (K : va_K D vwCl (tyG cI cO) s) (E9 : EnvH t0 A s s.heap) (hl : ls.size = nL) (P : Hp D A s (G_W cI cO η σ) H locs) (hG9 : f.1 = 0 → Gok t0 η f.2.2)
    (hM : G_X l y ws rm D cI cO t0 η σ As (fun A => Q_i D cI cO η f A) f.1 mc ms) (hf : Fn y ws bytes maxL rty n rm mc ms) (hy : y.cls = RX6) (g : GoodIn Ts (wsV RL index RX6 y ws)) (hn : As.length = n) (hst : st0 = As.reverse ++ .ref (e_ad η 0) :: rest) (hR : rm.frames + 1 ≤ R.frames ∧ 8 + (maxL + 11) + rm.locals ≤ R.locals) (hcat : (rest.map fun v => v.category).sum ≤ 8) (hz : cells + mc ≤ R.cells ∧ slots + ms ≤ R.slots) (d : decode cc pc = .ok (.invokevirtual index, 3))
    (kx : ¬ f.1 = 0 → ∀ (q : Addr) (ce : Cell) (H : Heap) (locs : List Loc), Hp D A s (G_W cI cO η σ) H locs → H[q]? = some ce → ce.vm = .none → s.vm.findClass (xn f.1) = some ce.cls → vx_W p l e R s m args below meth c H locs (cells + mc) (slots + ms) Q (F0 m pc ls rest) q)
    (kk : f.1 = 0 → ∀ (η' : Eg) (H : Heap) (locs : List Loc), Hp D A s (G_W cI cO η' f.2.2) H locs → Gok t0 η' f.2.2 → e_ad η' 0 = e_ad η 0 → W p l e R s m args below meth c H locs (cells + mc) (slots + ms) Q (F0 m (pc + 3) ls (.int f.2.1 :: rest))) : W p l e R s m args below meth c H locs cells slots Q (F0 m pc ls st0) := by
  obtain ⟨⟨ws', hw⟩, hrc, hrs, hd⟩ := hf
  have hF := va_A_in P.2.1 P.2.2.1 P.2.2.2
  refine vx_calli (vx_runV C.fix (hM H.size) (cwV n C.2.2.2.2.1 g hw hrc hrs ⟨hy, hd⟩ hR) ⟨preX_blind, va_recv K P.1 (ci := 7) (q0 := 0) rfl rfl, fun U hU hW => ⟨rfl, by rw [hU], by rw [hU]; exact P.1, va_K.moved hW.alike K, P.2.1.weaken (fun _ _ _ _ => trivial), V.warm hW, by rw [hU]; exact E9.go P.2.2.1 hF hW.alike⟩⟩ rfl hn hl hst (lv_room hcat) d hz) P.2.2.1 (fun q _ h => hF q h) hF (fun q _ h => hF q h) (fun E ce q9 u t H1 locs1 ht hvm hp hB hz1 hk1 hS hc hcv hcl => ?_) (fun r u t H1 locs1 ht hvm hw hB hz1 hk1 hS => ?_)
  · obtain ⟨e1, hP1, hD1⟩ := hB
    rw [ht] at hP1
    exact kx hp q9 ce H1 locs1 ⟨hP1, hD1.weaken (fun _ _ _ h => hF _ h), hS, P.2.2.2⟩ hc hcv (e1 ▸ hcl)
  · obtain ⟨hP1, hD1⟩ := hB
    rw [ht] at hP1
    rw [hw.2]
    exact kk hw.1 η H1 locs1 ⟨hP1, hD1.weaken (fun _ _ _ h => hF _ h), hS, P.2.2.2⟩ (hG9 hw.1) rfl
theorem L_callE {y : MethodName} {ws : List Cond} {rm : Room} {bytes : ByteArray} {maxL n index : Nat} {rty : Option FieldType} {As : List Value} {f : Int32 × Int32 × Sg} (C : Cx RL p s m args meth c cc nL Ts ret) (V : EnvV s) (K : va_K D vwCl (tyG cI cO) s) (E9 : EnvH t0 A s s.heap) (hl : ls.size = nL) (P : Hp D A s (G_W cI cO η σ) H locs)
    (hM : G_X l y ws rm D cI cO t0 η σ As (fun A => Q_e D cI cO t0 f (e_ad η 0) A) f.1 mc ms) (hf : Fn y ws bytes maxL rty n rm mc ms) (hy : y.cls = RX6) (g : GoodIn Ts (wsV RL index RX6 y ws)) (hn : As.length = n) (hst : st0 = As.reverse ++ .ref (e_ad η 0) :: rest) (hR : rm.frames + 1 ≤ R.frames ∧ 8 + (maxL + 11) + rm.locals ≤ R.locals) (hcat : (rest.map fun v => v.category).sum ≤ 8) (hz : cells + mc ≤ R.cells ∧ slots + ms ≤ R.slots) (d : decode cc pc = .ok (.invokevirtual index, 3))
    (kx : ¬ f.1 = 0 → ∀ (q : Addr) (ce : Cell) (H : Heap) (locs : List Loc), Hp D A s (G_W cI cO η σ) H locs → H[q]? = some ce → ce.vm = .none → s.vm.findClass (xn f.1) = some ce.cls → vx_W p l e R s m args below meth c H locs (cells + mc) (slots + ms) Q (F0 m pc ls rest) q)
    (kk : f.1 = 0 → ∀ (η' : Eg) (H : Heap) (locs : List Loc), Hp D A s (G_W cI cO η' f.2.2) H locs → Gok t0 η' f.2.2 → e_ad η' 0 = e_ad η 0 → W p l e R s m args below meth c H locs (cells + mc) (slots + ms) Q (F0 m (pc + 3) ls (.int f.2.1 :: rest))) : W p l e R s m args below meth c H locs cells slots Q (F0 m pc ls st0) := by
  obtain ⟨⟨ws', hw⟩, hrc, hrs, hd⟩ := hf
  have hF := va_A_in P.2.1 P.2.2.1 P.2.2.2
  refine vx_calli (vx_runV C.fix (hM H.size) (cwV n C.2.2.2.2.1 g hw hrc hrs ⟨hy, hd⟩ hR) ⟨preX_blind, va_recv K P.1 (ci := 7) (q0 := 0) rfl rfl, fun U hU hW => ⟨rfl, by rw [hU], by rw [hU]; exact P.1, va_K.moved hW.alike K, P.2.1.weaken (fun _ _ _ _ => trivial), V.warm hW, by rw [hU]; exact E9.go P.2.2.1 hF hW.alike⟩⟩ rfl hn hl hst (lv_room hcat) d hz) P.2.2.1 (fun q _ h => hF q h) hF (fun q _ h => hF q h) (fun E ce q9 u t H1 locs1 ht hvm hp hB hz1 hk1 hS hc hcv hcl => ?_) (fun r u t H1 locs1 ht hvm hw hB hz1 hk1 hS => ?_)
  · obtain ⟨e1, hP1, hD1⟩ := hB
    rw [ht] at hP1
    exact kx hp q9 ce H1 locs1 ⟨hP1, hD1.weaken (fun _ _ _ h => hF _ h), hS, P.2.2.2⟩ hc hcv (e1 ▸ hcl)
  · obtain ⟨hP1, hD1⟩ := hB
    rw [ht] at hP1
    rw [hw.2.1]
    exact kk hw.1 u H1 locs1 ⟨hP1, hD1.weaken (fun _ _ _ h => hF _ h), hS, P.2.2.2⟩ hw.2.2.1 hw.2.2.2
theorem L_callV {y : MethodName} {ws : List Cond} {rm : Room} {bytes : ByteArray} {maxL n index : Nat} {rty : Option FieldType} {As : List Value} {f : Int32 × Int32 × Sg} (C : Cx RL p s m args meth c cc nL Ts ret) (V : EnvV s) (K : va_K D vwCl (tyG cI cO) s) (E9 : EnvH t0 A s s.heap) (hl : ls.size = nL) (P : Hp D A s (G_W cI cO η σ) H locs)
    (hM : G_X l y ws rm D cI cO t0 η σ As (fun A => Q_ev D cI cO t0 f (e_ad η 0) A) f.1 mc ms) (hf : Fn y ws bytes maxL rty n rm mc ms) (hy : y.cls = RX6) (g : GoodIn Ts (wsV RL index RX6 y ws)) (hn : As.length = n) (hst : st0 = As.reverse ++ .ref (e_ad η 0) :: rest) (hR : rm.frames + 1 ≤ R.frames ∧ 8 + (maxL + 11) + rm.locals ≤ R.locals) (hcat : (rest.map fun v => v.category).sum ≤ 8) (hz : cells + mc ≤ R.cells ∧ slots + ms ≤ R.slots) (d : decode cc pc = .ok (.invokevirtual index, 3))
    (kx : ¬ f.1 = 0 → ∀ (q : Addr) (ce : Cell) (H : Heap) (locs : List Loc), Hp D A s (G_W cI cO η σ) H locs → H[q]? = some ce → ce.vm = .none → s.vm.findClass (xn f.1) = some ce.cls → vx_W p l e R s m args below meth c H locs (cells + mc) (slots + ms) Q (F0 m pc ls rest) q)
    (kk : f.1 = 0 → ∀ (η' : Eg) (H : Heap) (locs : List Loc), Hp D A s (G_W cI cO η' f.2.2) H locs → Gok t0 η' f.2.2 → e_ad η' 0 = e_ad η 0 → W p l e R s m args below meth c H locs (cells + mc) (slots + ms) Q (F0 m (pc + 3) ls (rest))) : W p l e R s m args below meth c H locs cells slots Q (F0 m pc ls st0) := by
  obtain ⟨⟨ws', hw⟩, hrc, hrs, hd⟩ := hf
  have hF := va_A_in P.2.1 P.2.2.1 P.2.2.2
  refine vx_callv (vx_runV C.fix (hM H.size) (cwV n C.2.2.2.2.1 g hw hrc hrs ⟨hy, hd⟩ hR) ⟨preX_blind, va_recv K P.1 (ci := 7) (q0 := 0) rfl rfl, fun U hU hW => ⟨rfl, by rw [hU], by rw [hU]; exact P.1, va_K.moved hW.alike K, P.2.1.weaken (fun _ _ _ _ => trivial), V.warm hW, by rw [hU]; exact E9.go P.2.2.1 hF hW.alike⟩⟩ rfl hn hl hst (lv_room hcat) d hz) P.2.2.1 (fun q _ h => hF q h) hF (fun q _ h => hF q h) (fun E ce q9 u t H1 locs1 ht hvm hp hB hz1 hk1 hS hc hcv hcl => ?_) (fun u t H1 locs1 ht hvm hw hB hz1 hk1 hS => ?_)
  · obtain ⟨e1, hP1, hD1⟩ := hB
    rw [ht] at hP1
    exact kx hp q9 ce H1 locs1 ⟨hP1, hD1.weaken (fun _ _ _ h => hF _ h), hS, P.2.2.2⟩ hc hcv (e1 ▸ hcl)
  · obtain ⟨hP1, hD1⟩ := hB
    rw [ht] at hP1
    exact kk hw.1 u H1 locs1 ⟨hP1, hD1.weaken (fun _ _ _ h => hF _ h), hS, P.2.2.2⟩ hw.2.1 hw.2.2
end LR
theorem bud_0 (σ : Sg) (p0 p1 p2 : Int32) : (g_budget σ p0 p1 p2).2.1 = 0 := by
  unfold g_budget
  repeat' split
  all_goals rfl
theorem xk_vessel (σ : Sg) (p0 : Int32) (p1 : Int32) : ¬ (g_vessel σ p0 p1).1 = 0 → (g_vessel σ p0 p1).2.2 = σ ∧ ((g_vessel σ p0 p1).1 = 1 ∨ (g_vessel σ p0 p1).1 = 2 ∨ (g_vessel σ p0 p1).1 = 3) := by
  unfold g_vessel
  repeat' split
  all_goals first
    | (intro h; exact absurd rfl h)
    | (intro _; exact ⟨rfl, by first | exact Or.inl rfl | exact Or.inr (Or.inl rfl) | exact Or.inr (Or.inr rfl) | exact Or.inr rfl | rfl⟩)
abbrev rL_vessel : Room := { frames := 8, cells := 12, slots := 500, locals := 177 }
theorem fnL_vessel : FnW yL_vessel wsL_vessel cL_vessel 5 (some .int) [(0, 7, 10, 14), (0, 7, 15, 17), (0, 7, 20, 20)] 3 rL_vessel 12 500 := ⟨⟨_, rfl⟩, rfl, rfl, by decide +kernel⟩
set_option maxHeartbeats 4000000 in
theorem kL_vessel (l : Launch) (hl9 : l.stackTraces = false) (D : va_G) (cI cO : ClassId) (t0 : Nat) (η : Eg) (σ : Sg) (p0 : Int32) (p1 : Int32) (hG : Gok t0 η σ) : L_Met l yL_vessel wsL_vessel rL_vessel D cI cO t0 η σ (g_vessel σ p0 p1) [.ref (e_ad η 0), .int p0, .int p1] 12 500 := by
  refine L_body (n := 3) rfl fnL_vessel (Nat.le_of_ble_eq_true rfl) ?_
  intro p e s m args below meth c C V hEC K hT A E9 P ls hl
  have hx := C.1
  have hb := C.2.1
  have hml := C.2.2.1
  have hown := C.2.2.2.1
  have hts := C.2.2.2.2.1
  have hl : lv_has ls 5 [(0, .ref (e_ad η 0)), (1, .int p0), (2, .int p1)] := hl
  refine lv_aload_n (pc := 0) hx hb dL_vessel_0 rfl (lv_at hl 0 rfl) ?_
  refine lv_iload_n (pc := 1) hx hb dL_vessel_1 rfl (lv_at hl 1 rfl) ?_
  refine lv_iload_n (pc := 2) hx hb dL_vessel_2 rfl (lv_at hl 2 rfl) ?_
  refine L_callE (pc := 3) (As := [.int p0, .int p1]) (rest := []) C V K E9 hl.1 P (kX6_vessel l hl9 D cI cO t0 η σ p0 p1 hG) fnX6_vessel rfl gL_vessel_X6_vessel rfl rfl ⟨Nat.le_of_ble_eq_true rfl, Nat.le_of_ble_eq_true rfl⟩ (Nat.le_of_ble_eq_true rfl) ⟨Nat.le_of_ble_eq_true rfl, Nat.le_of_ble_eq_true rfl⟩ dL_vessel_3 (fun hk q ce H locs P hc hcv hcl => ?_) (fun hk η2 H locs P hG2 h02 => ?_)
  · obtain ⟨hs9, hk9⟩ := xk_vessel σ p0 p1 hk
    rcases hk9 with hk9 | hk9 | hk9
    · rw [hk9] at hcl
      refine vx_catch (own := RL) (name := nX1) (E := nX1) hown [] (⟨0, 7, 10, 14⟩ : ExceptionTableEntry) [(⟨0, 7, 15, 17⟩ : ExceptionTableEntry), (⟨0, 7, 20, 20⟩ : ExceptionTableEntry)] (by rw [hT]; rfl) (fun z hz => (by cases hz)) (by decide) (by decide) (hEC.1 _) (va_Nw.use rfl (V.1 _ (List.mem_of_getElem? (i := 10) rfl))) hc hcv hcl ?_
      refine lv_astore (pc := 10) (lv' := [(4, .ref q), (0, .ref (e_ad η 0)), (1, .int p0), (2, .int p1)]) hx hb dL_vessel_10 hl (by decide) rfl (fun ls hl => ?_)
      refine lv_ldc (pc := 12) (v := (-2000000001)) hx hb hown (hts _ (List.mem_of_getElem? (i := 2) rfl)) dL_vessel_12 ?_
      exact L_ret (pc := 14) C P hs9 (an_1 hk9).symm hG rfl ⟨Nat.le_of_ble_eq_true rfl, Nat.le_of_ble_eq_true rfl⟩ dL_vessel_14
    · rw [hk9] at hcl
      refine vx_catch (own := RL) (name := nX2) (E := nX2) hown [(⟨0, 7, 10, 14⟩ : ExceptionTableEntry)] (⟨0, 7, 15, 17⟩ : ExceptionTableEntry) [(⟨0, 7, 20, 20⟩ : ExceptionTableEntry)] (by rw [hT]; rfl) (fun z hz => (by rcases List.mem_cons.mp hz with rfl | hz; exact Or.inr ⟨by decide, nX1, hEC.1 _, hEC.2.2.2.1⟩; cases hz)) (by decide) (by decide) (hEC.2.1 _) (va_Nw.use rfl (V.1 _ (List.mem_of_getElem? (i := 11) rfl))) hc hcv hcl ?_
      refine lv_astore (pc := 15) (lv' := [(4, .ref q), (0, .ref (e_ad η 0)), (1, .int p0), (2, .int p1)]) hx hb dL_vessel_15 hl (by decide) rfl (fun ls hl => ?_)
      refine lv_ldc (pc := 17) (v := (-2000000002)) hx hb hown (hts _ (List.mem_of_getElem? (i := 3) rfl)) dL_vessel_17 ?_
      exact L_ret (pc := 19) C P hs9 (an_2 hk9).symm hG rfl ⟨Nat.le_of_ble_eq_true rfl, Nat.le_of_ble_eq_true rfl⟩ dL_vessel_19
    · rw [hk9] at hcl
      refine vx_catch (own := RL) (name := nX3) (E := nX3) hown [(⟨0, 7, 10, 14⟩ : ExceptionTableEntry), (⟨0, 7, 15, 17⟩ : ExceptionTableEntry)] (⟨0, 7, 20, 20⟩ : ExceptionTableEntry) [] (by rw [hT]; rfl) (fun z hz => (by rcases List.mem_cons.mp hz with rfl | hz; exact Or.inr ⟨by decide, nX1, hEC.1 _, hEC.2.2.2.2.1⟩; rcases List.mem_cons.mp hz with rfl | hz; exact Or.inr ⟨by decide, nX2, hEC.2.1 _, hEC.2.2.2.2.2⟩; cases hz)) (by decide) (by decide) (hEC.2.2.1 _) (va_Nw.use rfl (V.1 _ (List.mem_of_getElem? (i := 12) rfl))) hc hcv hcl ?_
      refine lv_astore (pc := 20) (lv' := [(4, .ref q), (0, .ref (e_ad η 0)), (1, .int p0), (2, .int p1)]) hx hb dL_vessel_20 hl (by decide) rfl (fun ls hl => ?_)
      refine lv_ldc (pc := 22) (v := (-2000000003)) hx hb hown (hts _ (List.mem_of_getElem? (i := 4) rfl)) dL_vessel_22 ?_
      exact L_ret (pc := 24) C P hs9 (an_3 hk9).symm hG rfl ⟨Nat.le_of_ble_eq_true rfl, Nat.le_of_ble_eq_true rfl⟩ dL_vessel_24
  · refine lv_istore_n (pc := 6) (lv' := [(3, .int (g_vessel σ p0 p1).2.1), (0, .ref (e_ad η 0)), (1, .int p0), (2, .int p1)]) hx hb dL_vessel_6 rfl hl (by decide) rfl (fun ls hl => ?_)
    refine lv_goto (pc := 7) (tgt := 25) hx hb dL_vessel_7 (by decide) ?_
    refine lv_iload_n (pc := 25) hx hb dL_vessel_25 rfl (lv_at hl 0 rfl) ?_
    exact L_ret (pc := 26) C P rfl (an_0 hk).symm hG2 h02 ⟨Nat.le_of_ble_eq_true rfl, Nat.le_of_ble_eq_true rfl⟩ dL_vessel_26
theorem xk_shares (σ : Sg) (p0 : Int32) (p1 : Int32) : ¬ (g_shares σ p0 p1).1 = 0 → (g_shares σ p0 p1).2.2 = σ ∧ ((g_shares σ p0 p1).1 = 1 ∨ (g_shares σ p0 p1).1 = 2) := by
  unfold g_shares
  repeat' split
  all_goals first
    | (intro h; exact absurd rfl h)
    | (intro _; exact ⟨rfl, by first | exact Or.inl rfl | exact Or.inr (Or.inl rfl) | exact Or.inr (Or.inr rfl) | exact Or.inr rfl | rfl⟩)
abbrev rL_shares : Room := { frames := 7, cells := 1, slots := 6, locals := 113 }
theorem fnL_shares : FnW yL_shares wsL_shares cL_shares 5 (some .int) [(0, 7, 10, 14), (0, 7, 15, 17)] 3 rL_shares 1 6 := ⟨⟨_, rfl⟩, rfl, rfl, by decide +kernel⟩
set_option maxHeartbeats 4000000 in
theorem kL_shares (l : Launch) (hl9 : l.stackTraces = false) (D : va_G) (cI cO : ClassId) (t0 : Nat) (η : Eg) (σ : Sg) (p0 : Int32) (p1 : Int32) (hG : Gok t0 η σ) (hG9 : (g_shares σ p0 p1).1 = 0 → Gok t0 η (g_shares σ p0 p1).2.2) : L_Met l yL_shares wsL_shares rL_shares D cI cO t0 η σ (g_shares σ p0 p1) [.ref (e_ad η 0), .int p0, .int p1] 1 6 := by
  refine L_body (n := 3) rfl fnL_shares (Nat.le_of_ble_eq_true rfl) ?_
  intro p e s m args below meth c C V hEC K hT A E9 P ls hl
  have hx := C.1
  have hb := C.2.1
  have hml := C.2.2.1
  have hown := C.2.2.2.1
  have hts := C.2.2.2.2.1
  have hl : lv_has ls 5 [(0, .ref (e_ad η 0)), (1, .int p0), (2, .int p1)] := hl
  refine lv_aload_n (pc := 0) hx hb dL_shares_0 rfl (lv_at hl 0 rfl) ?_
  refine lv_iload_n (pc := 1) hx hb dL_shares_1 rfl (lv_at hl 1 rfl) ?_
  refine lv_iload_n (pc := 2) hx hb dL_shares_2 rfl (lv_at hl 2 rfl) ?_
  refine L_callI (pc := 3) (As := [.int p0, .int p1]) (rest := []) C V K E9 hl.1 P hG9 (kX6_shares l hl9 D cI cO t0 η σ p0 p1 hG) fnX6_shares rfl gL_shares_X6_shares rfl rfl ⟨Nat.le_of_ble_eq_true rfl, Nat.le_of_ble_eq_true rfl⟩ (Nat.le_of_ble_eq_true rfl) ⟨Nat.le_of_ble_eq_true rfl, Nat.le_of_ble_eq_true rfl⟩ dL_shares_3 (fun hk q ce H locs P hc hcv hcl => ?_) (fun hk η2 H locs P hG2 h02 => ?_)
  · obtain ⟨hs9, hk9⟩ := xk_shares σ p0 p1 hk
    rcases hk9 with hk9 | hk9
    · rw [hk9] at hcl
      refine vx_catch (own := RL) (name := nX1) (E := nX1) hown [] (⟨0, 7, 10, 14⟩ : ExceptionTableEntry) [(⟨0, 7, 15, 17⟩ : ExceptionTableEntry)] (by rw [hT]; rfl) (fun z hz => (by cases hz)) (by decide) (by decide) (hEC.1 _) (va_Nw.use rfl (V.1 _ (List.mem_of_getElem? (i := 10) rfl))) hc hcv hcl ?_
      refine lv_astore (pc := 10) (lv' := [(4, .ref q), (0, .ref (e_ad η 0)), (1, .int p0), (2, .int p1)]) hx hb dL_shares_10 hl (by decide) rfl (fun ls hl => ?_)
      refine lv_ldc (pc := 12) (v := (-2000000001)) hx hb hown (hts _ (List.mem_of_getElem? (i := 2) rfl)) dL_shares_12 ?_
      exact L_ret (pc := 14) C P hs9 (an_1 hk9).symm hG rfl ⟨Nat.le_of_ble_eq_true rfl, Nat.le_of_ble_eq_true rfl⟩ dL_shares_14
    · rw [hk9] at hcl
      refine vx_catch (own := RL) (name := nX2) (E := nX2) hown [(⟨0, 7, 10, 14⟩ : ExceptionTableEntry)] (⟨0, 7, 15, 17⟩ : ExceptionTableEntry) [] (by rw [hT]; rfl) (fun z hz => (by rcases List.mem_cons.mp hz with rfl | hz; exact Or.inr ⟨by decide, nX1, hEC.1 _, hEC.2.2.2.1⟩; cases hz)) (by decide) (by decide) (hEC.2.1 _) (va_Nw.use rfl (V.1 _ (List.mem_of_getElem? (i := 11) rfl))) hc hcv hcl ?_
      refine lv_astore (pc := 15) (lv' := [(4, .ref q), (0, .ref (e_ad η 0)), (1, .int p0), (2, .int p1)]) hx hb dL_shares_15 hl (by decide) rfl (fun ls hl => ?_)
      refine lv_ldc (pc := 17) (v := (-2000000002)) hx hb hown (hts _ (List.mem_of_getElem? (i := 3) rfl)) dL_shares_17 ?_
      exact L_ret (pc := 19) C P hs9 (an_2 hk9).symm hG rfl ⟨Nat.le_of_ble_eq_true rfl, Nat.le_of_ble_eq_true rfl⟩ dL_shares_19
  · refine lv_istore_n (pc := 6) (lv' := [(3, .int (g_shares σ p0 p1).2.1), (0, .ref (e_ad η 0)), (1, .int p0), (2, .int p1)]) hx hb dL_shares_6 rfl hl (by decide) rfl (fun ls hl => ?_)
    refine lv_goto (pc := 7) (tgt := 20) hx hb dL_shares_7 (by decide) ?_
    refine lv_iload_n (pc := 20) hx hb dL_shares_20 rfl (lv_at hl 0 rfl) ?_
    exact L_ret (pc := 21) C P rfl (an_0 hk).symm hG2 h02 ⟨Nat.le_of_ble_eq_true rfl, Nat.le_of_ble_eq_true rfl⟩ dL_shares_21
theorem xk_run (σ : Sg) (p0 : Int32) (p1 : Int32) (p2 : Int32) (p3 : Int32) (p4 : Int32) : ¬ (g_run σ p0 p1 p2 p3 p4).1 = 0 → (g_run σ p0 p1 p2 p3 p4).2.2 = σ ∧ ((g_run σ p0 p1 p2 p3 p4).1 = 1 ∨ (g_run σ p0 p1 p2 p3 p4).1 = 2 ∨ (g_run σ p0 p1 p2 p3 p4).1 = 3) := by
  unfold g_run
  have hv : ∀ x : Int32, g_vesselOf σ x = 0 ∨ g_vesselOf σ x = 1 := fun x => by
    unfold g_vesselOf
    repeat' split
    all_goals first | exact Or.inl rfl | exact Or.inr rfl
  repeat' split
  all_goals first
    | (intro h; exact absurd rfl h)
    | (intro _; refine ⟨rfl, ?_⟩; first | exact (hv _).resolve_left (by assumption) | exact Or.inl ((hv _).resolve_left (by assumption)) | exact Or.inl rfl | exact Or.inr (Or.inl rfl) | exact Or.inr (Or.inr rfl) | exact Or.inr rfl | rfl)
abbrev rL_run : Room := { frames := 8, cells := 2, slots := 12, locals := 140 }
theorem fnL_run : FnW yL_run wsL_run cL_run 8 (some .int) [(0, 13, 16, 14), (0, 13, 21, 17), (0, 13, 26, 20)] 6 rL_run 2 12 := ⟨⟨_, rfl⟩, rfl, rfl, by decide +kernel⟩
set_option maxHeartbeats 4000000 in
theorem kL_run (l : Launch) (hl9 : l.stackTraces = false) (D : va_G) (cI cO : ClassId) (t0 : Nat) (η : Eg) (σ : Sg) (p0 : Int32) (p1 : Int32) (p2 : Int32) (p3 : Int32) (p4 : Int32) (hG : Gok t0 η σ) (hG9 : (g_run σ p0 p1 p2 p3 p4).1 = 0 → Gok t0 η (g_run σ p0 p1 p2 p3 p4).2.2) : L_Met l yL_run wsL_run rL_run D cI cO t0 η σ (g_run σ p0 p1 p2 p3 p4) [.ref (e_ad η 0), .int p0, .int p1, .int p2, .int p3, .int p4] 2 12 := by
  refine L_body (n := 6) rfl fnL_run (Nat.le_of_ble_eq_true rfl) ?_
  intro p e s m args below meth c C V hEC K hT A E9 P ls hl
  have hx := C.1
  have hb := C.2.1
  have hml := C.2.2.1
  have hown := C.2.2.2.1
  have hts := C.2.2.2.2.1
  have hl : lv_has ls 8 [(0, .ref (e_ad η 0)), (1, .int p0), (2, .int p1), (3, .int p2), (4, .int p3), (5, .int p4)] := hl
  refine lv_aload_n (pc := 0) hx hb dL_run_0 rfl (lv_at hl 0 rfl) ?_
  refine lv_iload_n (pc := 1) hx hb dL_run_1 rfl (lv_at hl 1 rfl) ?_
  refine lv_iload_n (pc := 2) hx hb dL_run_2 rfl (lv_at hl 2 rfl) ?_
  refine lv_iload_n (pc := 3) hx hb dL_run_3 rfl (lv_at hl 3 rfl) ?_
  refine lv_iload (pc := 4) hx hb dL_run_4 (lv_at hl 4 rfl) ?_
  refine lv_iload (pc := 6) hx hb dL_run_6 (lv_at hl 5 rfl) ?_
  refine L_callI (pc := 8) (As := [.int p0, .int p1, .int p2, .int p3, .int p4]) (rest := []) C V K E9 hl.1 P hG9 (kX6_run l hl9 D cI cO t0 η σ p0 p1 p2 p3 p4 hG) fnX6_run rfl gL_run_X6_run rfl rfl ⟨Nat.le_of_ble_eq_true rfl, Nat.le_of_ble_eq_true rfl⟩ (Nat.le_of_ble_eq_true rfl) ⟨Nat.le_of_ble_eq_true rfl, Nat.le_of_ble_eq_true rfl⟩ dL_run_8 (fun hk q ce H locs P hc hcv hcl => ?_) (fun hk η2 H locs P hG2 h02 => ?_)
  · obtain ⟨hs9, hk9⟩ := xk_run σ p0 p1 p2 p3 p4 hk
    rcases hk9 with hk9 | hk9 | hk9
    · rw [hk9] at hcl
      refine vx_catch (own := RL) (name := nX1) (E := nX1) hown [] (⟨0, 13, 16, 14⟩ : ExceptionTableEntry) [(⟨0, 13, 21, 17⟩ : ExceptionTableEntry), (⟨0, 13, 26, 20⟩ : ExceptionTableEntry)] (by rw [hT]; rfl) (fun z hz => (by cases hz)) (by decide) (by decide) (hEC.1 _) (va_Nw.use rfl (V.1 _ (List.mem_of_getElem? (i := 10) rfl))) hc hcv hcl ?_
      refine lv_astore (pc := 16) (lv' := [(7, .ref q), (0, .ref (e_ad η 0)), (1, .int p0), (2, .int p1), (3, .int p2), (4, .int p3), (5, .int p4)]) hx hb dL_run_16 hl (by decide) rfl (fun ls hl => ?_)
      refine lv_ldc (pc := 18) (v := (-2000000001)) hx hb hown (hts _ (List.mem_of_getElem? (i := 2) rfl)) dL_run_18 ?_
      exact L_ret (pc := 20) C P hs9 (an_1 hk9).symm hG rfl ⟨Nat.le_of_ble_eq_true rfl, Nat.le_of_ble_eq_true rfl⟩ dL_run_20
    · rw [hk9] at hcl
      refine vx_catch (own := RL) (name := nX2) (E := nX2) hown [(⟨0, 13, 16, 14⟩ : ExceptionTableEntry)] (⟨0, 13, 21, 17⟩ : ExceptionTableEntry) [(⟨0, 13, 26, 20⟩ : ExceptionTableEntry)] (by rw [hT]; rfl) (fun z hz => (by rcases List.mem_cons.mp hz with rfl | hz; exact Or.inr ⟨by decide, nX1, hEC.1 _, hEC.2.2.2.1⟩; cases hz)) (by decide) (by decide) (hEC.2.1 _) (va_Nw.use rfl (V.1 _ (List.mem_of_getElem? (i := 11) rfl))) hc hcv hcl ?_
      refine lv_astore (pc := 21) (lv' := [(7, .ref q), (0, .ref (e_ad η 0)), (1, .int p0), (2, .int p1), (3, .int p2), (4, .int p3), (5, .int p4)]) hx hb dL_run_21 hl (by decide) rfl (fun ls hl => ?_)
      refine lv_ldc (pc := 23) (v := (-2000000002)) hx hb hown (hts _ (List.mem_of_getElem? (i := 3) rfl)) dL_run_23 ?_
      exact L_ret (pc := 25) C P hs9 (an_2 hk9).symm hG rfl ⟨Nat.le_of_ble_eq_true rfl, Nat.le_of_ble_eq_true rfl⟩ dL_run_25
    · rw [hk9] at hcl
      refine vx_catch (own := RL) (name := nX3) (E := nX3) hown [(⟨0, 13, 16, 14⟩ : ExceptionTableEntry), (⟨0, 13, 21, 17⟩ : ExceptionTableEntry)] (⟨0, 13, 26, 20⟩ : ExceptionTableEntry) [] (by rw [hT]; rfl) (fun z hz => (by rcases List.mem_cons.mp hz with rfl | hz; exact Or.inr ⟨by decide, nX1, hEC.1 _, hEC.2.2.2.2.1⟩; rcases List.mem_cons.mp hz with rfl | hz; exact Or.inr ⟨by decide, nX2, hEC.2.1 _, hEC.2.2.2.2.2⟩; cases hz)) (by decide) (by decide) (hEC.2.2.1 _) (va_Nw.use rfl (V.1 _ (List.mem_of_getElem? (i := 12) rfl))) hc hcv hcl ?_
      refine lv_astore (pc := 26) (lv' := [(7, .ref q), (0, .ref (e_ad η 0)), (1, .int p0), (2, .int p1), (3, .int p2), (4, .int p3), (5, .int p4)]) hx hb dL_run_26 hl (by decide) rfl (fun ls hl => ?_)
      refine lv_ldc (pc := 28) (v := (-2000000003)) hx hb hown (hts _ (List.mem_of_getElem? (i := 4) rfl)) dL_run_28 ?_
      exact L_ret (pc := 30) C P hs9 (an_3 hk9).symm hG rfl ⟨Nat.le_of_ble_eq_true rfl, Nat.le_of_ble_eq_true rfl⟩ dL_run_30
  · refine lv_istore (pc := 11) (lv' := [(6, .int (g_run σ p0 p1 p2 p3 p4).2.1), (0, .ref (e_ad η 0)), (1, .int p0), (2, .int p1), (3, .int p2), (4, .int p3), (5, .int p4)]) hx hb dL_run_11 hl (by decide) rfl (fun ls hl => ?_)
    refine lv_goto (pc := 13) (tgt := 31) hx hb dL_run_13 (by decide) ?_
    refine lv_iload (pc := 31) hx hb dL_run_31 (lv_at hl 0 rfl) ?_
    exact L_ret (pc := 33) C P rfl (an_0 hk).symm hG2 h02 ⟨Nat.le_of_ble_eq_true rfl, Nat.le_of_ble_eq_true rfl⟩ dL_run_33
theorem xk_move (σ : Sg) (p0 : Int32) (p1 : Int32) (p2 : Int32) : ¬ (g_move σ p0 p1 p2).1 = 0 → (g_move σ p0 p1 p2).2.2 = σ ∧ ((g_move σ p0 p1 p2).1 = 1 ∨ (g_move σ p0 p1 p2).1 = 2 ∨ (g_move σ p0 p1 p2).1 = 3) := by
  unfold g_move
  have hv : ∀ x : Int32, g_vesselOf σ x = 0 ∨ g_vesselOf σ x = 1 := fun x => by
    unfold g_vesselOf
    repeat' split
    all_goals first | exact Or.inl rfl | exact Or.inr rfl
  repeat' split
  all_goals first
    | (intro h; exact absurd rfl h)
    | (intro _; refine ⟨rfl, ?_⟩; first | exact (hv _).resolve_left (by assumption) | exact Or.inl ((hv _).resolve_left (by assumption)) | exact Or.inl rfl | exact Or.inr (Or.inl rfl) | exact Or.inr (Or.inr rfl) | exact Or.inr rfl | rfl)
abbrev rL_move : Room := { frames := 8, cells := 3, slots := 18, locals := 136 }
theorem fnL_move : FnW yL_move wsL_move cL_move 6 (some .int) [(0, 9, 12, 14), (0, 9, 17, 17), (0, 9, 22, 20)] 4 rL_move 3 18 := ⟨⟨_, rfl⟩, rfl, rfl, by decide +kernel⟩
set_option maxHeartbeats 4000000 in
theorem kL_move (l : Launch) (hl9 : l.stackTraces = false) (D : va_G) (cI cO : ClassId) (t0 : Nat) (η : Eg) (σ : Sg) (p0 : Int32) (p1 : Int32) (p2 : Int32) (hG : Gok t0 η σ) (hG9 : (g_move σ p0 p1 p2).1 = 0 → Gok t0 η (g_move σ p0 p1 p2).2.2) : L_Met l yL_move wsL_move rL_move D cI cO t0 η σ (g_move σ p0 p1 p2) [.ref (e_ad η 0), .int p0, .int p1, .int p2] 3 18 := by
  refine L_body (n := 4) rfl fnL_move (Nat.le_of_ble_eq_true rfl) ?_
  intro p e s m args below meth c C V hEC K hT A E9 P ls hl
  have hx := C.1
  have hb := C.2.1
  have hml := C.2.2.1
  have hown := C.2.2.2.1
  have hts := C.2.2.2.2.1
  have hl : lv_has ls 6 [(0, .ref (e_ad η 0)), (1, .int p0), (2, .int p1), (3, .int p2)] := hl
  refine lv_aload_n (pc := 0) hx hb dL_move_0 rfl (lv_at hl 0 rfl) ?_
  refine lv_iload_n (pc := 1) hx hb dL_move_1 rfl (lv_at hl 1 rfl) ?_
  refine lv_iload_n (pc := 2) hx hb dL_move_2 rfl (lv_at hl 2 rfl) ?_
  refine lv_iload_n (pc := 3) hx hb dL_move_3 rfl (lv_at hl 3 rfl) ?_
  refine L_callI (pc := 4) (As := [.int p0, .int p1, .int p2]) (rest := []) C V K E9 hl.1 P hG9 (kX6_move l hl9 D cI cO t0 η σ p0 p1 p2 hG) fnX6_move rfl gL_move_X6_move rfl rfl ⟨Nat.le_of_ble_eq_true rfl, Nat.le_of_ble_eq_true rfl⟩ (Nat.le_of_ble_eq_true rfl) ⟨Nat.le_of_ble_eq_true rfl, Nat.le_of_ble_eq_true rfl⟩ dL_move_4 (fun hk q ce H locs P hc hcv hcl => ?_) (fun hk η2 H locs P hG2 h02 => ?_)
  · obtain ⟨hs9, hk9⟩ := xk_move σ p0 p1 p2 hk
    rcases hk9 with hk9 | hk9 | hk9
    · rw [hk9] at hcl
      refine vx_catch (own := RL) (name := nX1) (E := nX1) hown [] (⟨0, 9, 12, 14⟩ : ExceptionTableEntry) [(⟨0, 9, 17, 17⟩ : ExceptionTableEntry), (⟨0, 9, 22, 20⟩ : ExceptionTableEntry)] (by rw [hT]; rfl) (fun z hz => (by cases hz)) (by decide) (by decide) (hEC.1 _) (va_Nw.use rfl (V.1 _ (List.mem_of_getElem? (i := 10) rfl))) hc hcv hcl ?_
      refine lv_astore (pc := 12) (lv' := [(5, .ref q), (0, .ref (e_ad η 0)), (1, .int p0), (2, .int p1), (3, .int p2)]) hx hb dL_move_12 hl (by decide) rfl (fun ls hl => ?_)
      refine lv_ldc (pc := 14) (v := (-2000000001)) hx hb hown (hts _ (List.mem_of_getElem? (i := 2) rfl)) dL_move_14 ?_
      exact L_ret (pc := 16) C P hs9 (an_1 hk9).symm hG rfl ⟨Nat.le_of_ble_eq_true rfl, Nat.le_of_ble_eq_true rfl⟩ dL_move_16
    · rw [hk9] at hcl
      refine vx_catch (own := RL) (name := nX2) (E := nX2) hown [(⟨0, 9, 12, 14⟩ : ExceptionTableEntry)] (⟨0, 9, 17, 17⟩ : ExceptionTableEntry) [(⟨0, 9, 22, 20⟩ : ExceptionTableEntry)] (by rw [hT]; rfl) (fun z hz => (by rcases List.mem_cons.mp hz with rfl | hz; exact Or.inr ⟨by decide, nX1, hEC.1 _, hEC.2.2.2.1⟩; cases hz)) (by decide) (by decide) (hEC.2.1 _) (va_Nw.use rfl (V.1 _ (List.mem_of_getElem? (i := 11) rfl))) hc hcv hcl ?_
      refine lv_astore (pc := 17) (lv' := [(5, .ref q), (0, .ref (e_ad η 0)), (1, .int p0), (2, .int p1), (3, .int p2)]) hx hb dL_move_17 hl (by decide) rfl (fun ls hl => ?_)
      refine lv_ldc (pc := 19) (v := (-2000000002)) hx hb hown (hts _ (List.mem_of_getElem? (i := 3) rfl)) dL_move_19 ?_
      exact L_ret (pc := 21) C P hs9 (an_2 hk9).symm hG rfl ⟨Nat.le_of_ble_eq_true rfl, Nat.le_of_ble_eq_true rfl⟩ dL_move_21
    · rw [hk9] at hcl
      refine vx_catch (own := RL) (name := nX3) (E := nX3) hown [(⟨0, 9, 12, 14⟩ : ExceptionTableEntry), (⟨0, 9, 17, 17⟩ : ExceptionTableEntry)] (⟨0, 9, 22, 20⟩ : ExceptionTableEntry) [] (by rw [hT]; rfl) (fun z hz => (by rcases List.mem_cons.mp hz with rfl | hz; exact Or.inr ⟨by decide, nX1, hEC.1 _, hEC.2.2.2.2.1⟩; rcases List.mem_cons.mp hz with rfl | hz; exact Or.inr ⟨by decide, nX2, hEC.2.1 _, hEC.2.2.2.2.2⟩; cases hz)) (by decide) (by decide) (hEC.2.2.1 _) (va_Nw.use rfl (V.1 _ (List.mem_of_getElem? (i := 12) rfl))) hc hcv hcl ?_
      refine lv_astore (pc := 22) (lv' := [(5, .ref q), (0, .ref (e_ad η 0)), (1, .int p0), (2, .int p1), (3, .int p2)]) hx hb dL_move_22 hl (by decide) rfl (fun ls hl => ?_)
      refine lv_ldc (pc := 24) (v := (-2000000003)) hx hb hown (hts _ (List.mem_of_getElem? (i := 4) rfl)) dL_move_24 ?_
      exact L_ret (pc := 26) C P hs9 (an_3 hk9).symm hG rfl ⟨Nat.le_of_ble_eq_true rfl, Nat.le_of_ble_eq_true rfl⟩ dL_move_26
  · refine lv_istore (pc := 7) (lv' := [(4, .int (g_move σ p0 p1 p2).2.1), (0, .ref (e_ad η 0)), (1, .int p0), (2, .int p1), (3, .int p2)]) hx hb dL_move_7 hl (by decide) rfl (fun ls hl => ?_)
    refine lv_goto (pc := 9) (tgt := 27) hx hb dL_move_9 (by decide) ?_
    refine lv_iload (pc := 27) hx hb dL_move_27 (lv_at hl 0 rfl) ?_
    exact L_ret (pc := 29) C P rfl (an_0 hk).symm hG2 h02 ⟨Nat.le_of_ble_eq_true rfl, Nat.le_of_ble_eq_true rfl⟩ dL_move_29
theorem xk_dip (σ : Sg) (p0 : Int32) (p1 : Int32) (p2 : Int32) : ¬ (g_dip σ p0 p1 p2).1 = 0 → (g_dip σ p0 p1 p2).2.2 = σ ∧ ((g_dip σ p0 p1 p2).1 = 1 ∨ (g_dip σ p0 p1 p2).1 = 2 ∨ (g_dip σ p0 p1 p2).1 = 3) := by
  unfold g_dip
  have hv : ∀ x : Int32, g_vesselOf σ x = 0 ∨ g_vesselOf σ x = 1 := fun x => by
    unfold g_vesselOf
    repeat' split
    all_goals first | exact Or.inl rfl | exact Or.inr rfl
  repeat' split
  all_goals first
    | (intro h; exact absurd rfl h)
    | (intro _; refine ⟨rfl, ?_⟩; first | exact (hv _).resolve_left (by assumption) | exact Or.inl ((hv _).resolve_left (by assumption)) | exact Or.inl rfl | exact Or.inr (Or.inl rfl) | exact Or.inr (Or.inr rfl) | exact Or.inr rfl | rfl)
abbrev rL_dip : Room := { frames := 8, cells := 2, slots := 12, locals := 137 }
theorem fnL_dip : FnW yL_dip wsL_dip cL_dip 6 (some .int) [(0, 9, 12, 14), (0, 9, 17, 17), (0, 9, 22, 20)] 4 rL_dip 2 12 := ⟨⟨_, rfl⟩, rfl, rfl, by decide +kernel⟩
set_option maxHeartbeats 4000000 in
theorem kL_dip (l : Launch) (hl9 : l.stackTraces = false) (D : va_G) (cI cO : ClassId) (t0 : Nat) (η : Eg) (σ : Sg) (p0 : Int32) (p1 : Int32) (p2 : Int32) (hG : Gok t0 η σ) (hG9 : (g_dip σ p0 p1 p2).1 = 0 → Gok t0 η (g_dip σ p0 p1 p2).2.2) : L_Met l yL_dip wsL_dip rL_dip D cI cO t0 η σ (g_dip σ p0 p1 p2) [.ref (e_ad η 0), .int p0, .int p1, .int p2] 2 12 := by
  refine L_body (n := 4) rfl fnL_dip (Nat.le_of_ble_eq_true rfl) ?_
  intro p e s m args below meth c C V hEC K hT A E9 P ls hl
  have hx := C.1
  have hb := C.2.1
  have hml := C.2.2.1
  have hown := C.2.2.2.1
  have hts := C.2.2.2.2.1
  have hl : lv_has ls 6 [(0, .ref (e_ad η 0)), (1, .int p0), (2, .int p1), (3, .int p2)] := hl
  refine lv_aload_n (pc := 0) hx hb dL_dip_0 rfl (lv_at hl 0 rfl) ?_
  refine lv_iload_n (pc := 1) hx hb dL_dip_1 rfl (lv_at hl 1 rfl) ?_
  refine lv_iload_n (pc := 2) hx hb dL_dip_2 rfl (lv_at hl 2 rfl) ?_
  refine lv_iload_n (pc := 3) hx hb dL_dip_3 rfl (lv_at hl 3 rfl) ?_
  refine L_callI (pc := 4) (As := [.int p0, .int p1, .int p2]) (rest := []) C V K E9 hl.1 P hG9 (kX6_dip l hl9 D cI cO t0 η σ p0 p1 p2 hG) fnX6_dip rfl gL_dip_X6_dip rfl rfl ⟨Nat.le_of_ble_eq_true rfl, Nat.le_of_ble_eq_true rfl⟩ (Nat.le_of_ble_eq_true rfl) ⟨Nat.le_of_ble_eq_true rfl, Nat.le_of_ble_eq_true rfl⟩ dL_dip_4 (fun hk q ce H locs P hc hcv hcl => ?_) (fun hk η2 H locs P hG2 h02 => ?_)
  · obtain ⟨hs9, hk9⟩ := xk_dip σ p0 p1 p2 hk
    rcases hk9 with hk9 | hk9 | hk9
    · rw [hk9] at hcl
      refine vx_catch (own := RL) (name := nX1) (E := nX1) hown [] (⟨0, 9, 12, 14⟩ : ExceptionTableEntry) [(⟨0, 9, 17, 17⟩ : ExceptionTableEntry), (⟨0, 9, 22, 20⟩ : ExceptionTableEntry)] (by rw [hT]; rfl) (fun z hz => (by cases hz)) (by decide) (by decide) (hEC.1 _) (va_Nw.use rfl (V.1 _ (List.mem_of_getElem? (i := 10) rfl))) hc hcv hcl ?_
      refine lv_astore (pc := 12) (lv' := [(5, .ref q), (0, .ref (e_ad η 0)), (1, .int p0), (2, .int p1), (3, .int p2)]) hx hb dL_dip_12 hl (by decide) rfl (fun ls hl => ?_)
      refine lv_ldc (pc := 14) (v := (-2000000001)) hx hb hown (hts _ (List.mem_of_getElem? (i := 2) rfl)) dL_dip_14 ?_
      exact L_ret (pc := 16) C P hs9 (an_1 hk9).symm hG rfl ⟨Nat.le_of_ble_eq_true rfl, Nat.le_of_ble_eq_true rfl⟩ dL_dip_16
    · rw [hk9] at hcl
      refine vx_catch (own := RL) (name := nX2) (E := nX2) hown [(⟨0, 9, 12, 14⟩ : ExceptionTableEntry)] (⟨0, 9, 17, 17⟩ : ExceptionTableEntry) [(⟨0, 9, 22, 20⟩ : ExceptionTableEntry)] (by rw [hT]; rfl) (fun z hz => (by rcases List.mem_cons.mp hz with rfl | hz; exact Or.inr ⟨by decide, nX1, hEC.1 _, hEC.2.2.2.1⟩; cases hz)) (by decide) (by decide) (hEC.2.1 _) (va_Nw.use rfl (V.1 _ (List.mem_of_getElem? (i := 11) rfl))) hc hcv hcl ?_
      refine lv_astore (pc := 17) (lv' := [(5, .ref q), (0, .ref (e_ad η 0)), (1, .int p0), (2, .int p1), (3, .int p2)]) hx hb dL_dip_17 hl (by decide) rfl (fun ls hl => ?_)
      refine lv_ldc (pc := 19) (v := (-2000000002)) hx hb hown (hts _ (List.mem_of_getElem? (i := 3) rfl)) dL_dip_19 ?_
      exact L_ret (pc := 21) C P hs9 (an_2 hk9).symm hG rfl ⟨Nat.le_of_ble_eq_true rfl, Nat.le_of_ble_eq_true rfl⟩ dL_dip_21
    · rw [hk9] at hcl
      refine vx_catch (own := RL) (name := nX3) (E := nX3) hown [(⟨0, 9, 12, 14⟩ : ExceptionTableEntry), (⟨0, 9, 17, 17⟩ : ExceptionTableEntry)] (⟨0, 9, 22, 20⟩ : ExceptionTableEntry) [] (by rw [hT]; rfl) (fun z hz => (by rcases List.mem_cons.mp hz with rfl | hz; exact Or.inr ⟨by decide, nX1, hEC.1 _, hEC.2.2.2.2.1⟩; rcases List.mem_cons.mp hz with rfl | hz; exact Or.inr ⟨by decide, nX2, hEC.2.1 _, hEC.2.2.2.2.2⟩; cases hz)) (by decide) (by decide) (hEC.2.2.1 _) (va_Nw.use rfl (V.1 _ (List.mem_of_getElem? (i := 12) rfl))) hc hcv hcl ?_
      refine lv_astore (pc := 22) (lv' := [(5, .ref q), (0, .ref (e_ad η 0)), (1, .int p0), (2, .int p1), (3, .int p2)]) hx hb dL_dip_22 hl (by decide) rfl (fun ls hl => ?_)
      refine lv_ldc (pc := 24) (v := (-2000000003)) hx hb hown (hts _ (List.mem_of_getElem? (i := 4) rfl)) dL_dip_24 ?_
      exact L_ret (pc := 26) C P hs9 (an_3 hk9).symm hG rfl ⟨Nat.le_of_ble_eq_true rfl, Nat.le_of_ble_eq_true rfl⟩ dL_dip_26
  · refine lv_istore (pc := 7) (lv' := [(4, .int (g_dip σ p0 p1 p2).2.1), (0, .ref (e_ad η 0)), (1, .int p0), (2, .int p1), (3, .int p2)]) hx hb dL_dip_7 hl (by decide) rfl (fun ls hl => ?_)
    refine lv_goto (pc := 9) (tgt := 27) hx hb dL_dip_9 (by decide) ?_
    refine lv_iload (pc := 27) hx hb dL_dip_27 (lv_at hl 0 rfl) ?_
    exact L_ret (pc := 29) C P rfl (an_0 hk).symm hG2 h02 ⟨Nat.le_of_ble_eq_true rfl, Nat.le_of_ble_eq_true rfl⟩ dL_dip_29
theorem xk_lose (σ : Sg) (p0 : Int32) (p1 : Int32) (p2 : Int32) : ¬ (g_lose σ p0 p1 p2).1 = 0 → (g_lose σ p0 p1 p2).2.2 = σ ∧ ((g_lose σ p0 p1 p2).1 = 1 ∨ (g_lose σ p0 p1 p2).1 = 2 ∨ (g_lose σ p0 p1 p2).1 = 3) := by
  unfold g_lose
  have hv : ∀ x : Int32, g_vesselOf σ x = 0 ∨ g_vesselOf σ x = 1 := fun x => by
    unfold g_vesselOf
    repeat' split
    all_goals first | exact Or.inl rfl | exact Or.inr rfl
  repeat' split
  all_goals first
    | (intro h; exact absurd rfl h)
    | (intro _; refine ⟨rfl, ?_⟩; first | exact (hv _).resolve_left (by assumption) | exact Or.inl ((hv _).resolve_left (by assumption)) | exact Or.inl rfl | exact Or.inr (Or.inl rfl) | exact Or.inr (Or.inr rfl) | exact Or.inr rfl | rfl)
abbrev rL_lose : Room := { frames := 8, cells := 2, slots := 12, locals := 136 }
theorem fnL_lose : FnW yL_lose wsL_lose cL_lose 6 (some .int) [(0, 9, 12, 14), (0, 9, 17, 17), (0, 9, 22, 20)] 4 rL_lose 2 12 := ⟨⟨_, rfl⟩, rfl, rfl, by decide +kernel⟩
set_option maxHeartbeats 4000000 in
theorem kL_lose (l : Launch) (hl9 : l.stackTraces = false) (D : va_G) (cI cO : ClassId) (t0 : Nat) (η : Eg) (σ : Sg) (p0 : Int32) (p1 : Int32) (p2 : Int32) (hG : Gok t0 η σ) (hG9 : (g_lose σ p0 p1 p2).1 = 0 → Gok t0 η (g_lose σ p0 p1 p2).2.2) : L_Met l yL_lose wsL_lose rL_lose D cI cO t0 η σ (g_lose σ p0 p1 p2) [.ref (e_ad η 0), .int p0, .int p1, .int p2] 2 12 := by
  refine L_body (n := 4) rfl fnL_lose (Nat.le_of_ble_eq_true rfl) ?_
  intro p e s m args below meth c C V hEC K hT A E9 P ls hl
  have hx := C.1
  have hb := C.2.1
  have hml := C.2.2.1
  have hown := C.2.2.2.1
  have hts := C.2.2.2.2.1
  have hl : lv_has ls 6 [(0, .ref (e_ad η 0)), (1, .int p0), (2, .int p1), (3, .int p2)] := hl
  refine lv_aload_n (pc := 0) hx hb dL_lose_0 rfl (lv_at hl 0 rfl) ?_
  refine lv_iload_n (pc := 1) hx hb dL_lose_1 rfl (lv_at hl 1 rfl) ?_
  refine lv_iload_n (pc := 2) hx hb dL_lose_2 rfl (lv_at hl 2 rfl) ?_
  refine lv_iload_n (pc := 3) hx hb dL_lose_3 rfl (lv_at hl 3 rfl) ?_
  refine L_callI (pc := 4) (As := [.int p0, .int p1, .int p2]) (rest := []) C V K E9 hl.1 P hG9 (kX6_lose l hl9 D cI cO t0 η σ p0 p1 p2 hG) fnX6_lose rfl gL_lose_X6_lose rfl rfl ⟨Nat.le_of_ble_eq_true rfl, Nat.le_of_ble_eq_true rfl⟩ (Nat.le_of_ble_eq_true rfl) ⟨Nat.le_of_ble_eq_true rfl, Nat.le_of_ble_eq_true rfl⟩ dL_lose_4 (fun hk q ce H locs P hc hcv hcl => ?_) (fun hk η2 H locs P hG2 h02 => ?_)
  · obtain ⟨hs9, hk9⟩ := xk_lose σ p0 p1 p2 hk
    rcases hk9 with hk9 | hk9 | hk9
    · rw [hk9] at hcl
      refine vx_catch (own := RL) (name := nX1) (E := nX1) hown [] (⟨0, 9, 12, 14⟩ : ExceptionTableEntry) [(⟨0, 9, 17, 17⟩ : ExceptionTableEntry), (⟨0, 9, 22, 20⟩ : ExceptionTableEntry)] (by rw [hT]; rfl) (fun z hz => (by cases hz)) (by decide) (by decide) (hEC.1 _) (va_Nw.use rfl (V.1 _ (List.mem_of_getElem? (i := 10) rfl))) hc hcv hcl ?_
      refine lv_astore (pc := 12) (lv' := [(5, .ref q), (0, .ref (e_ad η 0)), (1, .int p0), (2, .int p1), (3, .int p2)]) hx hb dL_lose_12 hl (by decide) rfl (fun ls hl => ?_)
      refine lv_ldc (pc := 14) (v := (-2000000001)) hx hb hown (hts _ (List.mem_of_getElem? (i := 2) rfl)) dL_lose_14 ?_
      exact L_ret (pc := 16) C P hs9 (an_1 hk9).symm hG rfl ⟨Nat.le_of_ble_eq_true rfl, Nat.le_of_ble_eq_true rfl⟩ dL_lose_16
    · rw [hk9] at hcl
      refine vx_catch (own := RL) (name := nX2) (E := nX2) hown [(⟨0, 9, 12, 14⟩ : ExceptionTableEntry)] (⟨0, 9, 17, 17⟩ : ExceptionTableEntry) [(⟨0, 9, 22, 20⟩ : ExceptionTableEntry)] (by rw [hT]; rfl) (fun z hz => (by rcases List.mem_cons.mp hz with rfl | hz; exact Or.inr ⟨by decide, nX1, hEC.1 _, hEC.2.2.2.1⟩; cases hz)) (by decide) (by decide) (hEC.2.1 _) (va_Nw.use rfl (V.1 _ (List.mem_of_getElem? (i := 11) rfl))) hc hcv hcl ?_
      refine lv_astore (pc := 17) (lv' := [(5, .ref q), (0, .ref (e_ad η 0)), (1, .int p0), (2, .int p1), (3, .int p2)]) hx hb dL_lose_17 hl (by decide) rfl (fun ls hl => ?_)
      refine lv_ldc (pc := 19) (v := (-2000000002)) hx hb hown (hts _ (List.mem_of_getElem? (i := 3) rfl)) dL_lose_19 ?_
      exact L_ret (pc := 21) C P hs9 (an_2 hk9).symm hG rfl ⟨Nat.le_of_ble_eq_true rfl, Nat.le_of_ble_eq_true rfl⟩ dL_lose_21
    · rw [hk9] at hcl
      refine vx_catch (own := RL) (name := nX3) (E := nX3) hown [(⟨0, 9, 12, 14⟩ : ExceptionTableEntry), (⟨0, 9, 17, 17⟩ : ExceptionTableEntry)] (⟨0, 9, 22, 20⟩ : ExceptionTableEntry) [] (by rw [hT]; rfl) (fun z hz => (by rcases List.mem_cons.mp hz with rfl | hz; exact Or.inr ⟨by decide, nX1, hEC.1 _, hEC.2.2.2.2.1⟩; rcases List.mem_cons.mp hz with rfl | hz; exact Or.inr ⟨by decide, nX2, hEC.2.1 _, hEC.2.2.2.2.2⟩; cases hz)) (by decide) (by decide) (hEC.2.2.1 _) (va_Nw.use rfl (V.1 _ (List.mem_of_getElem? (i := 12) rfl))) hc hcv hcl ?_
      refine lv_astore (pc := 22) (lv' := [(5, .ref q), (0, .ref (e_ad η 0)), (1, .int p0), (2, .int p1), (3, .int p2)]) hx hb dL_lose_22 hl (by decide) rfl (fun ls hl => ?_)
      refine lv_ldc (pc := 24) (v := (-2000000003)) hx hb hown (hts _ (List.mem_of_getElem? (i := 4) rfl)) dL_lose_24 ?_
      exact L_ret (pc := 26) C P hs9 (an_3 hk9).symm hG rfl ⟨Nat.le_of_ble_eq_true rfl, Nat.le_of_ble_eq_true rfl⟩ dL_lose_26
  · refine lv_istore (pc := 7) (lv' := [(4, .int (g_lose σ p0 p1 p2).2.1), (0, .ref (e_ad η 0)), (1, .int p0), (2, .int p1), (3, .int p2)]) hx hb dL_lose_7 hl (by decide) rfl (fun ls hl => ?_)
    refine lv_goto (pc := 9) (tgt := 27) hx hb dL_lose_9 (by decide) ?_
    refine lv_iload (pc := 27) hx hb dL_lose_27 (lv_at hl 0 rfl) ?_
    exact L_ret (pc := 29) C P rfl (an_0 hk).symm hG2 h02 ⟨Nat.le_of_ble_eq_true rfl, Nat.le_of_ble_eq_true rfl⟩ dL_lose_29
theorem xk_release (σ : Sg) (p0 : Int32) (p1 : Int32) : ¬ (g_release σ p0 p1).1 = 0 → (g_release σ p0 p1).2.2 = σ ∧ ((g_release σ p0 p1).1 = 1 ∨ (g_release σ p0 p1).1 = 2 ∨ (g_release σ p0 p1).1 = 3) := by
  unfold g_release
  have hv : ∀ x : Int32, g_vesselOf σ x = 0 ∨ g_vesselOf σ x = 1 := fun x => by
    unfold g_vesselOf
    repeat' split
    all_goals first | exact Or.inl rfl | exact Or.inr rfl
  repeat' split
  all_goals first
    | (intro h; exact absurd rfl h)
    | (intro _; refine ⟨rfl, ?_⟩; first | exact (hv _).resolve_left (by assumption) | exact Or.inl ((hv _).resolve_left (by assumption)) | exact Or.inl rfl | exact Or.inr (Or.inl rfl) | exact Or.inr (Or.inr rfl) | exact Or.inr rfl | rfl)
abbrev rL_release : Room := { frames := 8, cells := 12, slots := 500, locals := 180 }
theorem fnL_release : FnW yL_release wsL_release cL_release 5 (some .int) [(0, 7, 10, 14), (0, 7, 15, 17), (0, 7, 20, 20)] 3 rL_release 12 500 := ⟨⟨_, rfl⟩, rfl, rfl, by decide +kernel⟩
set_option maxHeartbeats 4000000 in
theorem kL_release (l : Launch) (hl9 : l.stackTraces = false) (D : va_G) (cI cO : ClassId) (t0 : Nat) (η : Eg) (σ : Sg) (p0 : Int32) (p1 : Int32) (hG : Gok t0 η σ) : L_Met l yL_release wsL_release rL_release D cI cO t0 η σ (g_release σ p0 p1) [.ref (e_ad η 0), .int p0, .int p1] 12 500 := by
  refine L_body (n := 3) rfl fnL_release (Nat.le_of_ble_eq_true rfl) ?_
  intro p e s m args below meth c C V hEC K hT A E9 P ls hl
  have hx := C.1
  have hb := C.2.1
  have hml := C.2.2.1
  have hown := C.2.2.2.1
  have hts := C.2.2.2.2.1
  have hl : lv_has ls 5 [(0, .ref (e_ad η 0)), (1, .int p0), (2, .int p1)] := hl
  refine lv_aload_n (pc := 0) hx hb dL_release_0 rfl (lv_at hl 0 rfl) ?_
  refine lv_iload_n (pc := 1) hx hb dL_release_1 rfl (lv_at hl 1 rfl) ?_
  refine lv_iload_n (pc := 2) hx hb dL_release_2 rfl (lv_at hl 2 rfl) ?_
  refine L_callE (pc := 3) (As := [.int p0, .int p1]) (rest := []) C V K E9 hl.1 P (kX6_release l hl9 D cI cO t0 η σ p0 p1 hG) fnX6_release rfl gL_release_X6_release rfl rfl ⟨Nat.le_of_ble_eq_true rfl, Nat.le_of_ble_eq_true rfl⟩ (Nat.le_of_ble_eq_true rfl) ⟨Nat.le_of_ble_eq_true rfl, Nat.le_of_ble_eq_true rfl⟩ dL_release_3 (fun hk q ce H locs P hc hcv hcl => ?_) (fun hk η2 H locs P hG2 h02 => ?_)
  · obtain ⟨hs9, hk9⟩ := xk_release σ p0 p1 hk
    rcases hk9 with hk9 | hk9 | hk9
    · rw [hk9] at hcl
      refine vx_catch (own := RL) (name := nX1) (E := nX1) hown [] (⟨0, 7, 10, 14⟩ : ExceptionTableEntry) [(⟨0, 7, 15, 17⟩ : ExceptionTableEntry), (⟨0, 7, 20, 20⟩ : ExceptionTableEntry)] (by rw [hT]; rfl) (fun z hz => (by cases hz)) (by decide) (by decide) (hEC.1 _) (va_Nw.use rfl (V.1 _ (List.mem_of_getElem? (i := 10) rfl))) hc hcv hcl ?_
      refine lv_astore (pc := 10) (lv' := [(4, .ref q), (0, .ref (e_ad η 0)), (1, .int p0), (2, .int p1)]) hx hb dL_release_10 hl (by decide) rfl (fun ls hl => ?_)
      refine lv_ldc (pc := 12) (v := (-2000000001)) hx hb hown (hts _ (List.mem_of_getElem? (i := 2) rfl)) dL_release_12 ?_
      exact L_ret (pc := 14) C P hs9 (an_1 hk9).symm hG rfl ⟨Nat.le_of_ble_eq_true rfl, Nat.le_of_ble_eq_true rfl⟩ dL_release_14
    · rw [hk9] at hcl
      refine vx_catch (own := RL) (name := nX2) (E := nX2) hown [(⟨0, 7, 10, 14⟩ : ExceptionTableEntry)] (⟨0, 7, 15, 17⟩ : ExceptionTableEntry) [(⟨0, 7, 20, 20⟩ : ExceptionTableEntry)] (by rw [hT]; rfl) (fun z hz => (by rcases List.mem_cons.mp hz with rfl | hz; exact Or.inr ⟨by decide, nX1, hEC.1 _, hEC.2.2.2.1⟩; cases hz)) (by decide) (by decide) (hEC.2.1 _) (va_Nw.use rfl (V.1 _ (List.mem_of_getElem? (i := 11) rfl))) hc hcv hcl ?_
      refine lv_astore (pc := 15) (lv' := [(4, .ref q), (0, .ref (e_ad η 0)), (1, .int p0), (2, .int p1)]) hx hb dL_release_15 hl (by decide) rfl (fun ls hl => ?_)
      refine lv_ldc (pc := 17) (v := (-2000000002)) hx hb hown (hts _ (List.mem_of_getElem? (i := 3) rfl)) dL_release_17 ?_
      exact L_ret (pc := 19) C P hs9 (an_2 hk9).symm hG rfl ⟨Nat.le_of_ble_eq_true rfl, Nat.le_of_ble_eq_true rfl⟩ dL_release_19
    · rw [hk9] at hcl
      refine vx_catch (own := RL) (name := nX3) (E := nX3) hown [(⟨0, 7, 10, 14⟩ : ExceptionTableEntry), (⟨0, 7, 15, 17⟩ : ExceptionTableEntry)] (⟨0, 7, 20, 20⟩ : ExceptionTableEntry) [] (by rw [hT]; rfl) (fun z hz => (by rcases List.mem_cons.mp hz with rfl | hz; exact Or.inr ⟨by decide, nX1, hEC.1 _, hEC.2.2.2.2.1⟩; rcases List.mem_cons.mp hz with rfl | hz; exact Or.inr ⟨by decide, nX2, hEC.2.1 _, hEC.2.2.2.2.2⟩; cases hz)) (by decide) (by decide) (hEC.2.2.1 _) (va_Nw.use rfl (V.1 _ (List.mem_of_getElem? (i := 12) rfl))) hc hcv hcl ?_
      refine lv_astore (pc := 20) (lv' := [(4, .ref q), (0, .ref (e_ad η 0)), (1, .int p0), (2, .int p1)]) hx hb dL_release_20 hl (by decide) rfl (fun ls hl => ?_)
      refine lv_ldc (pc := 22) (v := (-2000000003)) hx hb hown (hts _ (List.mem_of_getElem? (i := 4) rfl)) dL_release_22 ?_
      exact L_ret (pc := 24) C P hs9 (an_3 hk9).symm hG rfl ⟨Nat.le_of_ble_eq_true rfl, Nat.le_of_ble_eq_true rfl⟩ dL_release_24
  · refine lv_istore_n (pc := 6) (lv' := [(3, .int (g_release σ p0 p1).2.1), (0, .ref (e_ad η 0)), (1, .int p0), (2, .int p1)]) hx hb dL_release_6 rfl hl (by decide) rfl (fun ls hl => ?_)
    refine lv_goto (pc := 7) (tgt := 25) hx hb dL_release_7 (by decide) ?_
    refine lv_iload_n (pc := 25) hx hb dL_release_25 rfl (lv_at hl 0 rfl) ?_
    exact L_ret (pc := 26) C P rfl (an_0 hk).symm hG2 h02 ⟨Nat.le_of_ble_eq_true rfl, Nat.le_of_ble_eq_true rfl⟩ dL_release_26
theorem xk_permit (σ : Sg) (p0 : Int32) : ¬ (g_permit σ p0).1 = 0 → (g_permit σ p0).2.2 = σ ∧ ((g_permit σ p0).1 = 2) := by
  unfold g_permit
  repeat' split
  all_goals first
    | (intro h; exact absurd rfl h)
    | (intro _; exact ⟨rfl, by first | exact Or.inl rfl | exact Or.inr (Or.inl rfl) | exact Or.inr (Or.inr rfl) | exact Or.inr rfl | rfl⟩)
abbrev rL_permit : Room := { frames := 7, cells := 1, slots := 6, locals := 112 }
theorem fnL_permit : FnW yL_permit wsL_permit cL_permit 4 (some .int) [(0, 6, 9, 17)] 2 rL_permit 1 6 := ⟨⟨_, rfl⟩, rfl, rfl, by decide +kernel⟩
set_option maxHeartbeats 4000000 in
theorem kL_permit (l : Launch) (hl9 : l.stackTraces = false) (D : va_G) (cI cO : ClassId) (t0 : Nat) (η : Eg) (σ : Sg) (p0 : Int32) (hG : Gok t0 η σ) (hG9 : (g_permit σ p0).1 = 0 → Gok t0 η (g_permit σ p0).2.2) : L_Met l yL_permit wsL_permit rL_permit D cI cO t0 η σ (g_permit σ p0) [.ref (e_ad η 0), .int p0] 1 6 := by
  refine L_body (n := 2) rfl fnL_permit (Nat.le_of_ble_eq_true rfl) ?_
  intro p e s m args below meth c C V hEC K hT A E9 P ls hl
  have hx := C.1
  have hb := C.2.1
  have hml := C.2.2.1
  have hown := C.2.2.2.1
  have hts := C.2.2.2.2.1
  have hl : lv_has ls 4 [(0, .ref (e_ad η 0)), (1, .int p0)] := hl
  refine lv_aload_n (pc := 0) hx hb dL_permit_0 rfl (lv_at hl 0 rfl) ?_
  refine lv_iload_n (pc := 1) hx hb dL_permit_1 rfl (lv_at hl 1 rfl) ?_
  refine L_callI (pc := 2) (As := [.int p0]) (rest := []) C V K E9 hl.1 P hG9 (kX6_permit l hl9 D cI cO t0 η σ p0 hG) fnX6_permit rfl gL_permit_X6_permit rfl rfl ⟨Nat.le_of_ble_eq_true rfl, Nat.le_of_ble_eq_true rfl⟩ (Nat.le_of_ble_eq_true rfl) ⟨Nat.le_of_ble_eq_true rfl, Nat.le_of_ble_eq_true rfl⟩ dL_permit_2 (fun hk q ce H locs P hc hcv hcl => ?_) (fun hk η2 H locs P hG2 h02 => ?_)
  · obtain ⟨hs9, hk9⟩ := xk_permit σ p0 hk
    rw [hk9] at hcl
    refine vx_catch (own := RL) (name := nX2) (E := nX2) hown [] (⟨0, 6, 9, 17⟩ : ExceptionTableEntry) [] (by rw [hT]; rfl) (fun z hz => (by cases hz)) (by decide) (by decide) (hEC.2.1 _) (va_Nw.use rfl (V.1 _ (List.mem_of_getElem? (i := 11) rfl))) hc hcv hcl ?_
    refine lv_astore_n (pc := 9) (lv' := [(3, .ref q), (0, .ref (e_ad η 0)), (1, .int p0)]) hx hb dL_permit_9 rfl hl (by decide) rfl (fun ls hl => ?_)
    refine lv_ldc (pc := 10) (v := (-2000000002)) hx hb hown (hts _ (List.mem_of_getElem? (i := 2) rfl)) dL_permit_10 ?_
    exact L_ret (pc := 12) C P hs9 (an_2 hk9).symm hG rfl ⟨Nat.le_of_ble_eq_true rfl, Nat.le_of_ble_eq_true rfl⟩ dL_permit_12
  · refine lv_istore_n (pc := 5) (lv' := [(2, .int (g_permit σ p0).2.1), (0, .ref (e_ad η 0)), (1, .int p0)]) hx hb dL_permit_5 rfl hl (by decide) rfl (fun ls hl => ?_)
    refine lv_goto (pc := 6) (tgt := 13) hx hb dL_permit_6 (by decide) ?_
    refine lv_iload_n (pc := 13) hx hb dL_permit_13 rfl (lv_at hl 0 rfl) ?_
    exact L_ret (pc := 14) C P rfl (an_0 hk).symm hG2 h02 ⟨Nat.le_of_ble_eq_true rfl, Nat.le_of_ble_eq_true rfl⟩ dL_permit_14
theorem xk_denature (σ : Sg) (p0 : Int32) (p1 : Int32) : ¬ (g_denature σ p0 p1).1 = 0 → (g_denature σ p0 p1).2.2 = σ ∧ ((g_denature σ p0 p1).1 = 1 ∨ (g_denature σ p0 p1).1 = 2 ∨ (g_denature σ p0 p1).1 = 3) := by
  unfold g_denature
  have hv : ∀ x : Int32, g_vesselOf σ x = 0 ∨ g_vesselOf σ x = 1 := fun x => by
    unfold g_vesselOf
    repeat' split
    all_goals first | exact Or.inl rfl | exact Or.inr rfl
  repeat' split
  all_goals first
    | (intro h; exact absurd rfl h)
    | (intro _; refine ⟨rfl, ?_⟩; first | exact (hv _).resolve_left (by assumption) | exact Or.inl ((hv _).resolve_left (by assumption)) | exact Or.inl rfl | exact Or.inr (Or.inl rfl) | exact Or.inr (Or.inr rfl) | exact Or.inr rfl | rfl)
abbrev rL_denature : Room := { frames := 8, cells := 2, slots := 12, locals := 135 }
theorem fnL_denature : FnW yL_denature wsL_denature cL_denature 5 (some .int) [(0, 7, 10, 14), (0, 7, 15, 17), (0, 7, 20, 20)] 3 rL_denature 2 12 := ⟨⟨_, rfl⟩, rfl, rfl, by decide +kernel⟩
set_option maxHeartbeats 4000000 in
theorem kL_denature (l : Launch) (hl9 : l.stackTraces = false) (D : va_G) (cI cO : ClassId) (t0 : Nat) (η : Eg) (σ : Sg) (p0 : Int32) (p1 : Int32) (hG : Gok t0 η σ) (hG9 : (g_denature σ p0 p1).1 = 0 → Gok t0 η (g_denature σ p0 p1).2.2) : L_Met l yL_denature wsL_denature rL_denature D cI cO t0 η σ (g_denature σ p0 p1) [.ref (e_ad η 0), .int p0, .int p1] 2 12 := by
  refine L_body (n := 3) rfl fnL_denature (Nat.le_of_ble_eq_true rfl) ?_
  intro p e s m args below meth c C V hEC K hT A E9 P ls hl
  have hx := C.1
  have hb := C.2.1
  have hml := C.2.2.1
  have hown := C.2.2.2.1
  have hts := C.2.2.2.2.1
  have hl : lv_has ls 5 [(0, .ref (e_ad η 0)), (1, .int p0), (2, .int p1)] := hl
  refine lv_aload_n (pc := 0) hx hb dL_denature_0 rfl (lv_at hl 0 rfl) ?_
  refine lv_iload_n (pc := 1) hx hb dL_denature_1 rfl (lv_at hl 1 rfl) ?_
  refine lv_iload_n (pc := 2) hx hb dL_denature_2 rfl (lv_at hl 2 rfl) ?_
  refine L_callI (pc := 3) (As := [.int p0, .int p1]) (rest := []) C V K E9 hl.1 P hG9 (kX6_denature l hl9 D cI cO t0 η σ p0 p1 hG) fnX6_denature rfl gL_denature_X6_denature rfl rfl ⟨Nat.le_of_ble_eq_true rfl, Nat.le_of_ble_eq_true rfl⟩ (Nat.le_of_ble_eq_true rfl) ⟨Nat.le_of_ble_eq_true rfl, Nat.le_of_ble_eq_true rfl⟩ dL_denature_3 (fun hk q ce H locs P hc hcv hcl => ?_) (fun hk η2 H locs P hG2 h02 => ?_)
  · obtain ⟨hs9, hk9⟩ := xk_denature σ p0 p1 hk
    rcases hk9 with hk9 | hk9 | hk9
    · rw [hk9] at hcl
      refine vx_catch (own := RL) (name := nX1) (E := nX1) hown [] (⟨0, 7, 10, 14⟩ : ExceptionTableEntry) [(⟨0, 7, 15, 17⟩ : ExceptionTableEntry), (⟨0, 7, 20, 20⟩ : ExceptionTableEntry)] (by rw [hT]; rfl) (fun z hz => (by cases hz)) (by decide) (by decide) (hEC.1 _) (va_Nw.use rfl (V.1 _ (List.mem_of_getElem? (i := 10) rfl))) hc hcv hcl ?_
      refine lv_astore (pc := 10) (lv' := [(4, .ref q), (0, .ref (e_ad η 0)), (1, .int p0), (2, .int p1)]) hx hb dL_denature_10 hl (by decide) rfl (fun ls hl => ?_)
      refine lv_ldc (pc := 12) (v := (-2000000001)) hx hb hown (hts _ (List.mem_of_getElem? (i := 2) rfl)) dL_denature_12 ?_
      exact L_ret (pc := 14) C P hs9 (an_1 hk9).symm hG rfl ⟨Nat.le_of_ble_eq_true rfl, Nat.le_of_ble_eq_true rfl⟩ dL_denature_14
    · rw [hk9] at hcl
      refine vx_catch (own := RL) (name := nX2) (E := nX2) hown [(⟨0, 7, 10, 14⟩ : ExceptionTableEntry)] (⟨0, 7, 15, 17⟩ : ExceptionTableEntry) [(⟨0, 7, 20, 20⟩ : ExceptionTableEntry)] (by rw [hT]; rfl) (fun z hz => (by rcases List.mem_cons.mp hz with rfl | hz; exact Or.inr ⟨by decide, nX1, hEC.1 _, hEC.2.2.2.1⟩; cases hz)) (by decide) (by decide) (hEC.2.1 _) (va_Nw.use rfl (V.1 _ (List.mem_of_getElem? (i := 11) rfl))) hc hcv hcl ?_
      refine lv_astore (pc := 15) (lv' := [(4, .ref q), (0, .ref (e_ad η 0)), (1, .int p0), (2, .int p1)]) hx hb dL_denature_15 hl (by decide) rfl (fun ls hl => ?_)
      refine lv_ldc (pc := 17) (v := (-2000000002)) hx hb hown (hts _ (List.mem_of_getElem? (i := 3) rfl)) dL_denature_17 ?_
      exact L_ret (pc := 19) C P hs9 (an_2 hk9).symm hG rfl ⟨Nat.le_of_ble_eq_true rfl, Nat.le_of_ble_eq_true rfl⟩ dL_denature_19
    · rw [hk9] at hcl
      refine vx_catch (own := RL) (name := nX3) (E := nX3) hown [(⟨0, 7, 10, 14⟩ : ExceptionTableEntry), (⟨0, 7, 15, 17⟩ : ExceptionTableEntry)] (⟨0, 7, 20, 20⟩ : ExceptionTableEntry) [] (by rw [hT]; rfl) (fun z hz => (by rcases List.mem_cons.mp hz with rfl | hz; exact Or.inr ⟨by decide, nX1, hEC.1 _, hEC.2.2.2.2.1⟩; rcases List.mem_cons.mp hz with rfl | hz; exact Or.inr ⟨by decide, nX2, hEC.2.1 _, hEC.2.2.2.2.2⟩; cases hz)) (by decide) (by decide) (hEC.2.2.1 _) (va_Nw.use rfl (V.1 _ (List.mem_of_getElem? (i := 12) rfl))) hc hcv hcl ?_
      refine lv_astore (pc := 20) (lv' := [(4, .ref q), (0, .ref (e_ad η 0)), (1, .int p0), (2, .int p1)]) hx hb dL_denature_20 hl (by decide) rfl (fun ls hl => ?_)
      refine lv_ldc (pc := 22) (v := (-2000000003)) hx hb hown (hts _ (List.mem_of_getElem? (i := 4) rfl)) dL_denature_22 ?_
      exact L_ret (pc := 24) C P hs9 (an_3 hk9).symm hG rfl ⟨Nat.le_of_ble_eq_true rfl, Nat.le_of_ble_eq_true rfl⟩ dL_denature_24
  · refine lv_istore_n (pc := 6) (lv' := [(3, .int (g_denature σ p0 p1).2.1), (0, .ref (e_ad η 0)), (1, .int p0), (2, .int p1)]) hx hb dL_denature_6 rfl hl (by decide) rfl (fun ls hl => ?_)
    refine lv_goto (pc := 7) (tgt := 25) hx hb dL_denature_7 (by decide) ?_
    refine lv_iload_n (pc := 25) hx hb dL_denature_25 rfl (lv_at hl 0 rfl) ?_
    exact L_ret (pc := 26) C P rfl (an_0 hk).symm hG2 h02 ⟨Nat.le_of_ble_eq_true rfl, Nat.le_of_ble_eq_true rfl⟩ dL_denature_26
theorem xk_export (σ : Sg) (p0 : Int32) : ¬ (g_export σ p0).1 = 0 → (g_export σ p0).2.2 = σ ∧ ((g_export σ p0).1 = 2 ∨ (g_export σ p0).1 = 3) := by
  unfold g_export
  repeat' split
  all_goals first
    | (intro h; exact absurd rfl h)
    | (intro _; exact ⟨rfl, by first | exact Or.inl rfl | exact Or.inr (Or.inl rfl) | exact Or.inr (Or.inr rfl) | exact Or.inr rfl | rfl⟩)
abbrev rL_export : Room := { frames := 7, cells := 1, slots := 6, locals := 116 }
theorem fnL_export : FnW yL_export wsL_export cL_export 4 (some .int) [(0, 6, 9, 17), (0, 6, 13, 20)] 2 rL_export 1 6 := ⟨⟨_, rfl⟩, rfl, rfl, by decide +kernel⟩
set_option maxHeartbeats 4000000 in
theorem kL_export (l : Launch) (hl9 : l.stackTraces = false) (D : va_G) (cI cO : ClassId) (t0 : Nat) (η : Eg) (σ : Sg) (p0 : Int32) (hG : Gok t0 η σ) (hG9 : (g_export σ p0).1 = 0 → Gok t0 η (g_export σ p0).2.2) : L_Met l yL_export wsL_export rL_export D cI cO t0 η σ (g_export σ p0) [.ref (e_ad η 0), .int p0] 1 6 := by
  refine L_body (n := 2) rfl fnL_export (Nat.le_of_ble_eq_true rfl) ?_
  intro p e s m args below meth c C V hEC K hT A E9 P ls hl
  have hx := C.1
  have hb := C.2.1
  have hml := C.2.2.1
  have hown := C.2.2.2.1
  have hts := C.2.2.2.2.1
  have hl : lv_has ls 4 [(0, .ref (e_ad η 0)), (1, .int p0)] := hl
  refine lv_aload_n (pc := 0) hx hb dL_export_0 rfl (lv_at hl 0 rfl) ?_
  refine lv_iload_n (pc := 1) hx hb dL_export_1 rfl (lv_at hl 1 rfl) ?_
  refine L_callI (pc := 2) (As := [.int p0]) (rest := []) C V K E9 hl.1 P hG9 (kX6_export l hl9 D cI cO t0 η σ p0 hG) fnX6_export rfl gL_export_X6_export rfl rfl ⟨Nat.le_of_ble_eq_true rfl, Nat.le_of_ble_eq_true rfl⟩ (Nat.le_of_ble_eq_true rfl) ⟨Nat.le_of_ble_eq_true rfl, Nat.le_of_ble_eq_true rfl⟩ dL_export_2 (fun hk q ce H locs P hc hcv hcl => ?_) (fun hk η2 H locs P hG2 h02 => ?_)
  · obtain ⟨hs9, hk9⟩ := xk_export σ p0 hk
    rcases hk9 with hk9 | hk9
    · rw [hk9] at hcl
      refine vx_catch (own := RL) (name := nX2) (E := nX2) hown [] (⟨0, 6, 9, 17⟩ : ExceptionTableEntry) [(⟨0, 6, 13, 20⟩ : ExceptionTableEntry)] (by rw [hT]; rfl) (fun z hz => (by cases hz)) (by decide) (by decide) (hEC.2.1 _) (va_Nw.use rfl (V.1 _ (List.mem_of_getElem? (i := 11) rfl))) hc hcv hcl ?_
      refine lv_astore_n (pc := 9) (lv' := [(3, .ref q), (0, .ref (e_ad η 0)), (1, .int p0)]) hx hb dL_export_9 rfl hl (by decide) rfl (fun ls hl => ?_)
      refine lv_ldc (pc := 10) (v := (-2000000002)) hx hb hown (hts _ (List.mem_of_getElem? (i := 2) rfl)) dL_export_10 ?_
      exact L_ret (pc := 12) C P hs9 (an_2 hk9).symm hG rfl ⟨Nat.le_of_ble_eq_true rfl, Nat.le_of_ble_eq_true rfl⟩ dL_export_12
    · rw [hk9] at hcl
      refine vx_catch (own := RL) (name := nX3) (E := nX3) hown [(⟨0, 6, 9, 17⟩ : ExceptionTableEntry)] (⟨0, 6, 13, 20⟩ : ExceptionTableEntry) [] (by rw [hT]; rfl) (fun z hz => (by rcases List.mem_cons.mp hz with rfl | hz; exact Or.inr ⟨by decide, nX2, hEC.2.1 _, hEC.2.2.2.2.2⟩; cases hz)) (by decide) (by decide) (hEC.2.2.1 _) (va_Nw.use rfl (V.1 _ (List.mem_of_getElem? (i := 12) rfl))) hc hcv hcl ?_
      refine lv_astore_n (pc := 13) (lv' := [(3, .ref q), (0, .ref (e_ad η 0)), (1, .int p0)]) hx hb dL_export_13 rfl hl (by decide) rfl (fun ls hl => ?_)
      refine lv_ldc (pc := 14) (v := (-2000000003)) hx hb hown (hts _ (List.mem_of_getElem? (i := 3) rfl)) dL_export_14 ?_
      exact L_ret (pc := 16) C P hs9 (an_3 hk9).symm hG rfl ⟨Nat.le_of_ble_eq_true rfl, Nat.le_of_ble_eq_true rfl⟩ dL_export_16
  · refine lv_istore_n (pc := 5) (lv' := [(2, .int (g_export σ p0).2.1), (0, .ref (e_ad η 0)), (1, .int p0)]) hx hb dL_export_5 rfl hl (by decide) rfl (fun ls hl => ?_)
    refine lv_goto (pc := 6) (tgt := 17) hx hb dL_export_6 (by decide) ?_
    refine lv_iload_n (pc := 17) hx hb dL_export_17 rfl (lv_at hl 0 rfl) ?_
    exact L_ret (pc := 18) C P rfl (an_0 hk).symm hG2 h02 ⟨Nat.le_of_ble_eq_true rfl, Nat.le_of_ble_eq_true rfl⟩ dL_export_18
theorem xk_pay (σ : Sg) (p0 : Int32) : ¬ (g_pay σ p0).1 = 0 → (g_pay σ p0).2.2 = σ ∧ ((g_pay σ p0).1 = 2 ∨ (g_pay σ p0).1 = 3) := by
  unfold g_pay
  repeat' split
  all_goals first
    | (intro h; exact absurd rfl h)
    | (intro _; exact ⟨rfl, by first | exact Or.inl rfl | exact Or.inr (Or.inl rfl) | exact Or.inr (Or.inr rfl) | exact Or.inr rfl | rfl⟩)
abbrev rL_pay : Room := { frames := 7, cells := 1, slots := 6, locals := 111 }
theorem fnL_pay : FnW yL_pay wsL_pay cL_pay 4 (some .int) [(0, 6, 9, 17), (0, 6, 13, 20)] 2 rL_pay 1 6 := ⟨⟨_, rfl⟩, rfl, rfl, by decide +kernel⟩
set_option maxHeartbeats 4000000 in
theorem kL_pay (l : Launch) (hl9 : l.stackTraces = false) (D : va_G) (cI cO : ClassId) (t0 : Nat) (η : Eg) (σ : Sg) (p0 : Int32) (hG : Gok t0 η σ) (hG9 : (g_pay σ p0).1 = 0 → Gok t0 η (g_pay σ p0).2.2) : L_Met l yL_pay wsL_pay rL_pay D cI cO t0 η σ (g_pay σ p0) [.ref (e_ad η 0), .int p0] 1 6 := by
  refine L_body (n := 2) rfl fnL_pay (Nat.le_of_ble_eq_true rfl) ?_
  intro p e s m args below meth c C V hEC K hT A E9 P ls hl
  have hx := C.1
  have hb := C.2.1
  have hml := C.2.2.1
  have hown := C.2.2.2.1
  have hts := C.2.2.2.2.1
  have hl : lv_has ls 4 [(0, .ref (e_ad η 0)), (1, .int p0)] := hl
  refine lv_aload_n (pc := 0) hx hb dL_pay_0 rfl (lv_at hl 0 rfl) ?_
  refine lv_iload_n (pc := 1) hx hb dL_pay_1 rfl (lv_at hl 1 rfl) ?_
  refine L_callI (pc := 2) (As := [.int p0]) (rest := []) C V K E9 hl.1 P hG9 (kX6_pay l hl9 D cI cO t0 η σ p0 hG) fnX6_pay rfl gL_pay_X6_pay rfl rfl ⟨Nat.le_of_ble_eq_true rfl, Nat.le_of_ble_eq_true rfl⟩ (Nat.le_of_ble_eq_true rfl) ⟨Nat.le_of_ble_eq_true rfl, Nat.le_of_ble_eq_true rfl⟩ dL_pay_2 (fun hk q ce H locs P hc hcv hcl => ?_) (fun hk η2 H locs P hG2 h02 => ?_)
  · obtain ⟨hs9, hk9⟩ := xk_pay σ p0 hk
    rcases hk9 with hk9 | hk9
    · rw [hk9] at hcl
      refine vx_catch (own := RL) (name := nX2) (E := nX2) hown [] (⟨0, 6, 9, 17⟩ : ExceptionTableEntry) [(⟨0, 6, 13, 20⟩ : ExceptionTableEntry)] (by rw [hT]; rfl) (fun z hz => (by cases hz)) (by decide) (by decide) (hEC.2.1 _) (va_Nw.use rfl (V.1 _ (List.mem_of_getElem? (i := 11) rfl))) hc hcv hcl ?_
      refine lv_astore_n (pc := 9) (lv' := [(3, .ref q), (0, .ref (e_ad η 0)), (1, .int p0)]) hx hb dL_pay_9 rfl hl (by decide) rfl (fun ls hl => ?_)
      refine lv_ldc (pc := 10) (v := (-2000000002)) hx hb hown (hts _ (List.mem_of_getElem? (i := 2) rfl)) dL_pay_10 ?_
      exact L_ret (pc := 12) C P hs9 (an_2 hk9).symm hG rfl ⟨Nat.le_of_ble_eq_true rfl, Nat.le_of_ble_eq_true rfl⟩ dL_pay_12
    · rw [hk9] at hcl
      refine vx_catch (own := RL) (name := nX3) (E := nX3) hown [(⟨0, 6, 9, 17⟩ : ExceptionTableEntry)] (⟨0, 6, 13, 20⟩ : ExceptionTableEntry) [] (by rw [hT]; rfl) (fun z hz => (by rcases List.mem_cons.mp hz with rfl | hz; exact Or.inr ⟨by decide, nX2, hEC.2.1 _, hEC.2.2.2.2.2⟩; cases hz)) (by decide) (by decide) (hEC.2.2.1 _) (va_Nw.use rfl (V.1 _ (List.mem_of_getElem? (i := 12) rfl))) hc hcv hcl ?_
      refine lv_astore_n (pc := 13) (lv' := [(3, .ref q), (0, .ref (e_ad η 0)), (1, .int p0)]) hx hb dL_pay_13 rfl hl (by decide) rfl (fun ls hl => ?_)
      refine lv_ldc (pc := 14) (v := (-2000000003)) hx hb hown (hts _ (List.mem_of_getElem? (i := 3) rfl)) dL_pay_14 ?_
      exact L_ret (pc := 16) C P hs9 (an_3 hk9).symm hG rfl ⟨Nat.le_of_ble_eq_true rfl, Nat.le_of_ble_eq_true rfl⟩ dL_pay_16
  · refine lv_istore_n (pc := 5) (lv' := [(2, .int (g_pay σ p0).2.1), (0, .ref (e_ad η 0)), (1, .int p0)]) hx hb dL_pay_5 rfl hl (by decide) rfl (fun ls hl => ?_)
    refine lv_goto (pc := 6) (tgt := 17) hx hb dL_pay_6 (by decide) ?_
    refine lv_iload_n (pc := 17) hx hb dL_pay_17 rfl (lv_at hl 0 rfl) ?_
    exact L_ret (pc := 18) C P rfl (an_0 hk).symm hG2 h02 ⟨Nat.le_of_ble_eq_true rfl, Nat.le_of_ble_eq_true rfl⟩ dL_pay_18
theorem xk_budget (σ : Sg) (p0 : Int32) (p1 : Int32) (p2 : Int32) : ¬ (g_budget σ p0 p1 p2).1 = 0 → (g_budget σ p0 p1 p2).2.2 = σ ∧ ((g_budget σ p0 p1 p2).1 = 2 ∨ (g_budget σ p0 p1 p2).1 = 3) := by
  unfold g_budget
  repeat' split
  all_goals first
    | (intro h; exact absurd rfl h)
    | (intro _; exact ⟨rfl, by first | exact Or.inl rfl | exact Or.inr (Or.inl rfl) | exact Or.inr (Or.inr rfl) | exact Or.inr rfl | rfl⟩)
abbrev rL_budget : Room := { frames := 7, cells := 12, slots := 500, locals := 113 }
theorem fnL_budget : FnW yL_budget wsL_budget cL_budget 5 (some .int) [(0, 7, 10, 17), (0, 7, 15, 20)] 4 rL_budget 12 500 := ⟨⟨_, rfl⟩, rfl, rfl, by decide +kernel⟩
set_option maxHeartbeats 4000000 in
theorem kL_budget (l : Launch) (hl9 : l.stackTraces = false) (D : va_G) (cI cO : ClassId) (t0 : Nat) (η : Eg) (σ : Sg) (p0 : Int32) (p1 : Int32) (p2 : Int32) (hG : Gok t0 η σ) (h0 : 0 ≤ σ.1 1) : L_Met l yL_budget wsL_budget rL_budget D cI cO t0 η σ (g_budget σ p0 p1 p2) [.ref (e_ad η 0), .int p0, .int p1, .int p2] 12 500 := by
  refine L_body (n := 4) rfl fnL_budget (Nat.le_of_ble_eq_true rfl) ?_
  intro p e s m args below meth c C V hEC K hT A E9 P ls hl
  have hx := C.1
  have hb := C.2.1
  have hml := C.2.2.1
  have hown := C.2.2.2.1
  have hts := C.2.2.2.2.1
  have hl : lv_has ls 5 [(0, .ref (e_ad η 0)), (1, .int p0), (2, .int p1), (3, .int p2)] := hl
  refine lv_aload_n (pc := 0) hx hb dL_budget_0 rfl (lv_at hl 0 rfl) ?_
  refine lv_iload_n (pc := 1) hx hb dL_budget_1 rfl (lv_at hl 1 rfl) ?_
  refine lv_iload_n (pc := 2) hx hb dL_budget_2 rfl (lv_at hl 2 rfl) ?_
  refine lv_iload_n (pc := 3) hx hb dL_budget_3 rfl (lv_at hl 3 rfl) ?_
  refine L_callV (pc := 4) (As := [.int p0, .int p1, .int p2]) (rest := []) C V K E9 hl.1 P (kX6_budget l hl9 D cI cO t0 η σ p0 p1 p2 hG h0) fnX6_budget rfl gL_budget_X6_budget rfl rfl ⟨Nat.le_of_ble_eq_true rfl, Nat.le_of_ble_eq_true rfl⟩ (Nat.le_of_ble_eq_true rfl) ⟨Nat.le_of_ble_eq_true rfl, Nat.le_of_ble_eq_true rfl⟩ dL_budget_4 (fun hk q ce H locs P hc hcv hcl => ?_) (fun hk η2 H locs P hG2 h02 => ?_)
  · obtain ⟨hs9, hk9⟩ := xk_budget σ p0 p1 p2 hk
    rcases hk9 with hk9 | hk9
    · rw [hk9] at hcl
      refine vx_catch (own := RL) (name := nX2) (E := nX2) hown [] (⟨0, 7, 10, 17⟩ : ExceptionTableEntry) [(⟨0, 7, 15, 20⟩ : ExceptionTableEntry)] (by rw [hT]; rfl) (fun z hz => (by cases hz)) (by decide) (by decide) (hEC.2.1 _) (va_Nw.use rfl (V.1 _ (List.mem_of_getElem? (i := 11) rfl))) hc hcv hcl ?_
      refine lv_astore (pc := 10) (lv' := [(4, .ref q), (0, .ref (e_ad η 0)), (1, .int p0), (2, .int p1), (3, .int p2)]) hx hb dL_budget_10 hl (by decide) rfl (fun ls hl => ?_)
      refine lv_ldc (pc := 12) (v := (-2000000002)) hx hb hown (hts _ (List.mem_of_getElem? (i := 2) rfl)) dL_budget_12 ?_
      exact L_ret (pc := 14) C P hs9 (an_2 hk9).symm hG rfl ⟨Nat.le_of_ble_eq_true rfl, Nat.le_of_ble_eq_true rfl⟩ dL_budget_14
    · rw [hk9] at hcl
      refine vx_catch (own := RL) (name := nX3) (E := nX3) hown [(⟨0, 7, 10, 17⟩ : ExceptionTableEntry)] (⟨0, 7, 15, 20⟩ : ExceptionTableEntry) [] (by rw [hT]; rfl) (fun z hz => (by rcases List.mem_cons.mp hz with rfl | hz; exact Or.inr ⟨by decide, nX2, hEC.2.1 _, hEC.2.2.2.2.2⟩; cases hz)) (by decide) (by decide) (hEC.2.2.1 _) (va_Nw.use rfl (V.1 _ (List.mem_of_getElem? (i := 12) rfl))) hc hcv hcl ?_
      refine lv_astore (pc := 15) (lv' := [(4, .ref q), (0, .ref (e_ad η 0)), (1, .int p0), (2, .int p1), (3, .int p2)]) hx hb dL_budget_15 hl (by decide) rfl (fun ls hl => ?_)
      refine lv_ldc (pc := 17) (v := (-2000000003)) hx hb hown (hts _ (List.mem_of_getElem? (i := 3) rfl)) dL_budget_17 ?_
      exact L_ret (pc := 19) C P hs9 (an_3 hk9).symm hG rfl ⟨Nat.le_of_ble_eq_true rfl, Nat.le_of_ble_eq_true rfl⟩ dL_budget_19
  · refine lv_goto (pc := 7) (tgt := 20) hx hb dL_budget_7 (by decide) ?_
    refine lv_iconst (pc := 20) (v := 0) hx hb dL_budget_20 (by decide) ?_
    exact L_ret (pc := 21) C P rfl ((an_0 hk).trans (bud_0 σ p0 p1 p2)).symm hG2 h02 ⟨Nat.le_of_ble_eq_true rfl, Nat.le_of_ble_eq_true rfl⟩ dL_budget_21
theorem xk_guarantee (σ : Sg) (p0 : Int32) : ¬ (g_guarantee σ p0).1 = 0 → (g_guarantee σ p0).2.2 = σ ∧ ((g_guarantee σ p0).1 = 2 ∨ (g_guarantee σ p0).1 = 3) := by
  unfold g_guarantee
  repeat' split
  all_goals first
    | (intro h; exact absurd rfl h)
    | (intro _; exact ⟨rfl, by first | exact Or.inl rfl | exact Or.inr (Or.inl rfl) | exact Or.inr (Or.inr rfl) | exact Or.inr rfl | rfl⟩)
abbrev rL_guarantee : Room := { frames := 7, cells := 1, slots := 6, locals := 112 }
theorem fnL_guarantee : FnW yL_guarantee wsL_guarantee cL_guarantee 4 (some .int) [(0, 6, 9, 17), (0, 6, 13, 20)] 2 rL_guarantee 1 6 := ⟨⟨_, rfl⟩, rfl, rfl, by decide +kernel⟩
set_option maxHeartbeats 4000000 in
theorem kL_guarantee (l : Launch) (hl9 : l.stackTraces = false) (D : va_G) (cI cO : ClassId) (t0 : Nat) (η : Eg) (σ : Sg) (p0 : Int32) (hG : Gok t0 η σ) (hG9 : (g_guarantee σ p0).1 = 0 → Gok t0 η (g_guarantee σ p0).2.2) : L_Met l yL_guarantee wsL_guarantee rL_guarantee D cI cO t0 η σ (g_guarantee σ p0) [.ref (e_ad η 0), .int p0] 1 6 := by
  refine L_body (n := 2) rfl fnL_guarantee (Nat.le_of_ble_eq_true rfl) ?_
  intro p e s m args below meth c C V hEC K hT A E9 P ls hl
  have hx := C.1
  have hb := C.2.1
  have hml := C.2.2.1
  have hown := C.2.2.2.1
  have hts := C.2.2.2.2.1
  have hl : lv_has ls 4 [(0, .ref (e_ad η 0)), (1, .int p0)] := hl
  refine lv_aload_n (pc := 0) hx hb dL_guarantee_0 rfl (lv_at hl 0 rfl) ?_
  refine lv_iload_n (pc := 1) hx hb dL_guarantee_1 rfl (lv_at hl 1 rfl) ?_
  refine L_callI (pc := 2) (As := [.int p0]) (rest := []) C V K E9 hl.1 P hG9 (kX6_guarantee l hl9 D cI cO t0 η σ p0 hG) fnX6_guarantee rfl gL_guarantee_X6_guarantee rfl rfl ⟨Nat.le_of_ble_eq_true rfl, Nat.le_of_ble_eq_true rfl⟩ (Nat.le_of_ble_eq_true rfl) ⟨Nat.le_of_ble_eq_true rfl, Nat.le_of_ble_eq_true rfl⟩ dL_guarantee_2 (fun hk q ce H locs P hc hcv hcl => ?_) (fun hk η2 H locs P hG2 h02 => ?_)
  · obtain ⟨hs9, hk9⟩ := xk_guarantee σ p0 hk
    rcases hk9 with hk9 | hk9
    · rw [hk9] at hcl
      refine vx_catch (own := RL) (name := nX2) (E := nX2) hown [] (⟨0, 6, 9, 17⟩ : ExceptionTableEntry) [(⟨0, 6, 13, 20⟩ : ExceptionTableEntry)] (by rw [hT]; rfl) (fun z hz => (by cases hz)) (by decide) (by decide) (hEC.2.1 _) (va_Nw.use rfl (V.1 _ (List.mem_of_getElem? (i := 11) rfl))) hc hcv hcl ?_
      refine lv_astore_n (pc := 9) (lv' := [(3, .ref q), (0, .ref (e_ad η 0)), (1, .int p0)]) hx hb dL_guarantee_9 rfl hl (by decide) rfl (fun ls hl => ?_)
      refine lv_ldc (pc := 10) (v := (-2000000002)) hx hb hown (hts _ (List.mem_of_getElem? (i := 2) rfl)) dL_guarantee_10 ?_
      exact L_ret (pc := 12) C P hs9 (an_2 hk9).symm hG rfl ⟨Nat.le_of_ble_eq_true rfl, Nat.le_of_ble_eq_true rfl⟩ dL_guarantee_12
    · rw [hk9] at hcl
      refine vx_catch (own := RL) (name := nX3) (E := nX3) hown [(⟨0, 6, 9, 17⟩ : ExceptionTableEntry)] (⟨0, 6, 13, 20⟩ : ExceptionTableEntry) [] (by rw [hT]; rfl) (fun z hz => (by rcases List.mem_cons.mp hz with rfl | hz; exact Or.inr ⟨by decide, nX2, hEC.2.1 _, hEC.2.2.2.2.2⟩; cases hz)) (by decide) (by decide) (hEC.2.2.1 _) (va_Nw.use rfl (V.1 _ (List.mem_of_getElem? (i := 12) rfl))) hc hcv hcl ?_
      refine lv_astore_n (pc := 13) (lv' := [(3, .ref q), (0, .ref (e_ad η 0)), (1, .int p0)]) hx hb dL_guarantee_13 rfl hl (by decide) rfl (fun ls hl => ?_)
      refine lv_ldc (pc := 14) (v := (-2000000003)) hx hb hown (hts _ (List.mem_of_getElem? (i := 3) rfl)) dL_guarantee_14 ?_
      exact L_ret (pc := 16) C P hs9 (an_3 hk9).symm hG rfl ⟨Nat.le_of_ble_eq_true rfl, Nat.le_of_ble_eq_true rfl⟩ dL_guarantee_16
  · refine lv_istore_n (pc := 5) (lv' := [(2, .int (g_guarantee σ p0).2.1), (0, .ref (e_ad η 0)), (1, .int p0)]) hx hb dL_guarantee_5 rfl hl (by decide) rfl (fun ls hl => ?_)
    refine lv_goto (pc := 6) (tgt := 17) hx hb dL_guarantee_6 (by decide) ?_
    refine lv_iload_n (pc := 17) hx hb dL_guarantee_17 rfl (lv_at hl 0 rfl) ?_
    exact L_ret (pc := 18) C P rfl (an_0 hk).symm hG2 h02 ⟨Nat.le_of_ble_eq_true rfl, Nat.le_of_ble_eq_true rfl⟩ dL_guarantee_18
theorem xk_ship (σ : Sg) (p0 : Int32) (p1 : Int32) (p2 : Int32) (p3 : Int32) : ¬ (g_ship σ p0 p1 p2 p3).1 = 0 → (g_ship σ p0 p1 p2 p3).2.2 = σ ∧ ((g_ship σ p0 p1 p2 p3).1 = 1 ∨ (g_ship σ p0 p1 p2 p3).1 = 2 ∨ (g_ship σ p0 p1 p2 p3).1 = 3) := by
  unfold g_ship
  have hv : ∀ x : Int32, g_vesselOf σ x = 0 ∨ g_vesselOf σ x = 1 := fun x => by
    unfold g_vesselOf
    repeat' split
    all_goals first | exact Or.inl rfl | exact Or.inr rfl
  repeat' split
  all_goals first
    | (intro h; exact absurd rfl h)
    | (intro _; refine ⟨rfl, ?_⟩; first | exact (hv _).resolve_left (by assumption) | exact Or.inl ((hv _).resolve_left (by assumption)) | exact Or.inl rfl | exact Or.inr (Or.inl rfl) | exact Or.inr (Or.inr rfl) | exact Or.inr rfl | rfl)
abbrev rL_ship : Room := { frames := 8, cells := 12, slots := 500, locals := 181 }
theorem fnL_ship : FnW yL_ship wsL_ship cL_ship 7 (some .int) [(0, 11, 14, 14), (0, 11, 19, 17), (0, 11, 24, 20)] 5 rL_ship 12 500 := ⟨⟨_, rfl⟩, rfl, rfl, by decide +kernel⟩
set_option maxHeartbeats 4000000 in
theorem kL_ship (l : Launch) (hl9 : l.stackTraces = false) (D : va_G) (cI cO : ClassId) (t0 : Nat) (η : Eg) (σ : Sg) (p0 : Int32) (p1 : Int32) (p2 : Int32) (p3 : Int32) (hG : Gok t0 η σ) : L_Met l yL_ship wsL_ship rL_ship D cI cO t0 η σ (g_ship σ p0 p1 p2 p3) [.ref (e_ad η 0), .int p0, .int p1, .int p2, .int p3] 12 500 := by
  refine L_body (n := 5) rfl fnL_ship (Nat.le_of_ble_eq_true rfl) ?_
  intro p e s m args below meth c C V hEC K hT A E9 P ls hl
  have hx := C.1
  have hb := C.2.1
  have hml := C.2.2.1
  have hown := C.2.2.2.1
  have hts := C.2.2.2.2.1
  have hl : lv_has ls 7 [(0, .ref (e_ad η 0)), (1, .int p0), (2, .int p1), (3, .int p2), (4, .int p3)] := hl
  refine lv_aload_n (pc := 0) hx hb dL_ship_0 rfl (lv_at hl 0 rfl) ?_
  refine lv_iload_n (pc := 1) hx hb dL_ship_1 rfl (lv_at hl 1 rfl) ?_
  refine lv_iload_n (pc := 2) hx hb dL_ship_2 rfl (lv_at hl 2 rfl) ?_
  refine lv_iload_n (pc := 3) hx hb dL_ship_3 rfl (lv_at hl 3 rfl) ?_
  refine lv_iload (pc := 4) hx hb dL_ship_4 (lv_at hl 4 rfl) ?_
  refine L_callE (pc := 6) (As := [.int p0, .int p1, .int p2, .int p3]) (rest := []) C V K E9 hl.1 P (kX6_ship l hl9 D cI cO t0 η σ p0 p1 p2 p3 hG) fnX6_ship rfl gL_ship_X6_ship rfl rfl ⟨Nat.le_of_ble_eq_true rfl, Nat.le_of_ble_eq_true rfl⟩ (Nat.le_of_ble_eq_true rfl) ⟨Nat.le_of_ble_eq_true rfl, Nat.le_of_ble_eq_true rfl⟩ dL_ship_6 (fun hk q ce H locs P hc hcv hcl => ?_) (fun hk η2 H locs P hG2 h02 => ?_)
  · obtain ⟨hs9, hk9⟩ := xk_ship σ p0 p1 p2 p3 hk
    rcases hk9 with hk9 | hk9 | hk9
    · rw [hk9] at hcl
      refine vx_catch (own := RL) (name := nX1) (E := nX1) hown [] (⟨0, 11, 14, 14⟩ : ExceptionTableEntry) [(⟨0, 11, 19, 17⟩ : ExceptionTableEntry), (⟨0, 11, 24, 20⟩ : ExceptionTableEntry)] (by rw [hT]; rfl) (fun z hz => (by cases hz)) (by decide) (by decide) (hEC.1 _) (va_Nw.use rfl (V.1 _ (List.mem_of_getElem? (i := 10) rfl))) hc hcv hcl ?_
      refine lv_astore (pc := 14) (lv' := [(6, .ref q), (0, .ref (e_ad η 0)), (1, .int p0), (2, .int p1), (3, .int p2), (4, .int p3)]) hx hb dL_ship_14 hl (by decide) rfl (fun ls hl => ?_)
      refine lv_ldc (pc := 16) (v := (-2000000001)) hx hb hown (hts _ (List.mem_of_getElem? (i := 2) rfl)) dL_ship_16 ?_
      exact L_ret (pc := 18) C P hs9 (an_1 hk9).symm hG rfl ⟨Nat.le_of_ble_eq_true rfl, Nat.le_of_ble_eq_true rfl⟩ dL_ship_18
    · rw [hk9] at hcl
      refine vx_catch (own := RL) (name := nX2) (E := nX2) hown [(⟨0, 11, 14, 14⟩ : ExceptionTableEntry)] (⟨0, 11, 19, 17⟩ : ExceptionTableEntry) [(⟨0, 11, 24, 20⟩ : ExceptionTableEntry)] (by rw [hT]; rfl) (fun z hz => (by rcases List.mem_cons.mp hz with rfl | hz; exact Or.inr ⟨by decide, nX1, hEC.1 _, hEC.2.2.2.1⟩; cases hz)) (by decide) (by decide) (hEC.2.1 _) (va_Nw.use rfl (V.1 _ (List.mem_of_getElem? (i := 11) rfl))) hc hcv hcl ?_
      refine lv_astore (pc := 19) (lv' := [(6, .ref q), (0, .ref (e_ad η 0)), (1, .int p0), (2, .int p1), (3, .int p2), (4, .int p3)]) hx hb dL_ship_19 hl (by decide) rfl (fun ls hl => ?_)
      refine lv_ldc (pc := 21) (v := (-2000000002)) hx hb hown (hts _ (List.mem_of_getElem? (i := 3) rfl)) dL_ship_21 ?_
      exact L_ret (pc := 23) C P hs9 (an_2 hk9).symm hG rfl ⟨Nat.le_of_ble_eq_true rfl, Nat.le_of_ble_eq_true rfl⟩ dL_ship_23
    · rw [hk9] at hcl
      refine vx_catch (own := RL) (name := nX3) (E := nX3) hown [(⟨0, 11, 14, 14⟩ : ExceptionTableEntry), (⟨0, 11, 19, 17⟩ : ExceptionTableEntry)] (⟨0, 11, 24, 20⟩ : ExceptionTableEntry) [] (by rw [hT]; rfl) (fun z hz => (by rcases List.mem_cons.mp hz with rfl | hz; exact Or.inr ⟨by decide, nX1, hEC.1 _, hEC.2.2.2.2.1⟩; rcases List.mem_cons.mp hz with rfl | hz; exact Or.inr ⟨by decide, nX2, hEC.2.1 _, hEC.2.2.2.2.2⟩; cases hz)) (by decide) (by decide) (hEC.2.2.1 _) (va_Nw.use rfl (V.1 _ (List.mem_of_getElem? (i := 12) rfl))) hc hcv hcl ?_
      refine lv_astore (pc := 24) (lv' := [(6, .ref q), (0, .ref (e_ad η 0)), (1, .int p0), (2, .int p1), (3, .int p2), (4, .int p3)]) hx hb dL_ship_24 hl (by decide) rfl (fun ls hl => ?_)
      refine lv_ldc (pc := 26) (v := (-2000000003)) hx hb hown (hts _ (List.mem_of_getElem? (i := 4) rfl)) dL_ship_26 ?_
      exact L_ret (pc := 28) C P hs9 (an_3 hk9).symm hG rfl ⟨Nat.le_of_ble_eq_true rfl, Nat.le_of_ble_eq_true rfl⟩ dL_ship_28
  · refine lv_istore (pc := 9) (lv' := [(5, .int (g_ship σ p0 p1 p2 p3).2.1), (0, .ref (e_ad η 0)), (1, .int p0), (2, .int p1), (3, .int p2), (4, .int p3)]) hx hb dL_ship_9 hl (by decide) rfl (fun ls hl => ?_)
    refine lv_goto (pc := 11) (tgt := 29) hx hb dL_ship_11 (by decide) ?_
    refine lv_iload (pc := 29) hx hb dL_ship_29 (lv_at hl 0 rfl) ?_
    exact L_ret (pc := 31) C P rfl (an_0 hk).symm hG2 h02 ⟨Nat.le_of_ble_eq_true rfl, Nat.le_of_ble_eq_true rfl⟩ dL_ship_31
theorem xk_arrive (σ : Sg) (p0 : Int32) (p1 : Int32) : ¬ (g_arrive σ p0 p1).1 = 0 → (g_arrive σ p0 p1).2.2 = σ ∧ ((g_arrive σ p0 p1).1 = 1 ∨ (g_arrive σ p0 p1).1 = 2 ∨ (g_arrive σ p0 p1).1 = 3) := by
  unfold g_arrive
  have hv : ∀ x : Int32, g_movementOf σ x = 0 ∨ g_movementOf σ x = 1 := fun x => by
    unfold g_movementOf
    repeat' split
    all_goals first | exact Or.inl rfl | exact Or.inr rfl
  repeat' split
  all_goals first
    | (intro h; exact absurd rfl h)
    | (intro _; refine ⟨rfl, ?_⟩; first | exact (hv _).resolve_left (by assumption) | exact Or.inl ((hv _).resolve_left (by assumption)) | exact Or.inl rfl | exact Or.inr (Or.inl rfl) | exact Or.inr (Or.inr rfl) | exact Or.inr rfl | rfl)
abbrev rL_arrive : Room := { frames := 8, cells := 2, slots := 12, locals := 136 }
theorem fnL_arrive : FnW yL_arrive wsL_arrive cL_arrive 5 (some .int) [(0, 7, 10, 14), (0, 7, 15, 17), (0, 7, 20, 20)] 3 rL_arrive 2 12 := ⟨⟨_, rfl⟩, rfl, rfl, by decide +kernel⟩
set_option maxHeartbeats 4000000 in
theorem kL_arrive (l : Launch) (hl9 : l.stackTraces = false) (D : va_G) (cI cO : ClassId) (t0 : Nat) (η : Eg) (σ : Sg) (p0 : Int32) (p1 : Int32) (hG : Gok t0 η σ) (hG9 : (g_arrive σ p0 p1).1 = 0 → Gok t0 η (g_arrive σ p0 p1).2.2) : L_Met l yL_arrive wsL_arrive rL_arrive D cI cO t0 η σ (g_arrive σ p0 p1) [.ref (e_ad η 0), .int p0, .int p1] 2 12 := by
  refine L_body (n := 3) rfl fnL_arrive (Nat.le_of_ble_eq_true rfl) ?_
  intro p e s m args below meth c C V hEC K hT A E9 P ls hl
  have hx := C.1
  have hb := C.2.1
  have hml := C.2.2.1
  have hown := C.2.2.2.1
  have hts := C.2.2.2.2.1
  have hl : lv_has ls 5 [(0, .ref (e_ad η 0)), (1, .int p0), (2, .int p1)] := hl
  refine lv_aload_n (pc := 0) hx hb dL_arrive_0 rfl (lv_at hl 0 rfl) ?_
  refine lv_iload_n (pc := 1) hx hb dL_arrive_1 rfl (lv_at hl 1 rfl) ?_
  refine lv_iload_n (pc := 2) hx hb dL_arrive_2 rfl (lv_at hl 2 rfl) ?_
  refine L_callI (pc := 3) (As := [.int p0, .int p1]) (rest := []) C V K E9 hl.1 P hG9 (kX6_arrive l hl9 D cI cO t0 η σ p0 p1 hG) fnX6_arrive rfl gL_arrive_X6_arrive rfl rfl ⟨Nat.le_of_ble_eq_true rfl, Nat.le_of_ble_eq_true rfl⟩ (Nat.le_of_ble_eq_true rfl) ⟨Nat.le_of_ble_eq_true rfl, Nat.le_of_ble_eq_true rfl⟩ dL_arrive_3 (fun hk q ce H locs P hc hcv hcl => ?_) (fun hk η2 H locs P hG2 h02 => ?_)
  · obtain ⟨hs9, hk9⟩ := xk_arrive σ p0 p1 hk
    rcases hk9 with hk9 | hk9 | hk9
    · rw [hk9] at hcl
      refine vx_catch (own := RL) (name := nX1) (E := nX1) hown [] (⟨0, 7, 10, 14⟩ : ExceptionTableEntry) [(⟨0, 7, 15, 17⟩ : ExceptionTableEntry), (⟨0, 7, 20, 20⟩ : ExceptionTableEntry)] (by rw [hT]; rfl) (fun z hz => (by cases hz)) (by decide) (by decide) (hEC.1 _) (va_Nw.use rfl (V.1 _ (List.mem_of_getElem? (i := 10) rfl))) hc hcv hcl ?_
      refine lv_astore (pc := 10) (lv' := [(4, .ref q), (0, .ref (e_ad η 0)), (1, .int p0), (2, .int p1)]) hx hb dL_arrive_10 hl (by decide) rfl (fun ls hl => ?_)
      refine lv_ldc (pc := 12) (v := (-2000000001)) hx hb hown (hts _ (List.mem_of_getElem? (i := 2) rfl)) dL_arrive_12 ?_
      exact L_ret (pc := 14) C P hs9 (an_1 hk9).symm hG rfl ⟨Nat.le_of_ble_eq_true rfl, Nat.le_of_ble_eq_true rfl⟩ dL_arrive_14
    · rw [hk9] at hcl
      refine vx_catch (own := RL) (name := nX2) (E := nX2) hown [(⟨0, 7, 10, 14⟩ : ExceptionTableEntry)] (⟨0, 7, 15, 17⟩ : ExceptionTableEntry) [(⟨0, 7, 20, 20⟩ : ExceptionTableEntry)] (by rw [hT]; rfl) (fun z hz => (by rcases List.mem_cons.mp hz with rfl | hz; exact Or.inr ⟨by decide, nX1, hEC.1 _, hEC.2.2.2.1⟩; cases hz)) (by decide) (by decide) (hEC.2.1 _) (va_Nw.use rfl (V.1 _ (List.mem_of_getElem? (i := 11) rfl))) hc hcv hcl ?_
      refine lv_astore (pc := 15) (lv' := [(4, .ref q), (0, .ref (e_ad η 0)), (1, .int p0), (2, .int p1)]) hx hb dL_arrive_15 hl (by decide) rfl (fun ls hl => ?_)
      refine lv_ldc (pc := 17) (v := (-2000000002)) hx hb hown (hts _ (List.mem_of_getElem? (i := 3) rfl)) dL_arrive_17 ?_
      exact L_ret (pc := 19) C P hs9 (an_2 hk9).symm hG rfl ⟨Nat.le_of_ble_eq_true rfl, Nat.le_of_ble_eq_true rfl⟩ dL_arrive_19
    · rw [hk9] at hcl
      refine vx_catch (own := RL) (name := nX3) (E := nX3) hown [(⟨0, 7, 10, 14⟩ : ExceptionTableEntry), (⟨0, 7, 15, 17⟩ : ExceptionTableEntry)] (⟨0, 7, 20, 20⟩ : ExceptionTableEntry) [] (by rw [hT]; rfl) (fun z hz => (by rcases List.mem_cons.mp hz with rfl | hz; exact Or.inr ⟨by decide, nX1, hEC.1 _, hEC.2.2.2.2.1⟩; rcases List.mem_cons.mp hz with rfl | hz; exact Or.inr ⟨by decide, nX2, hEC.2.1 _, hEC.2.2.2.2.2⟩; cases hz)) (by decide) (by decide) (hEC.2.2.1 _) (va_Nw.use rfl (V.1 _ (List.mem_of_getElem? (i := 12) rfl))) hc hcv hcl ?_
      refine lv_astore (pc := 20) (lv' := [(4, .ref q), (0, .ref (e_ad η 0)), (1, .int p0), (2, .int p1)]) hx hb dL_arrive_20 hl (by decide) rfl (fun ls hl => ?_)
      refine lv_ldc (pc := 22) (v := (-2000000003)) hx hb hown (hts _ (List.mem_of_getElem? (i := 4) rfl)) dL_arrive_22 ?_
      exact L_ret (pc := 24) C P hs9 (an_3 hk9).symm hG rfl ⟨Nat.le_of_ble_eq_true rfl, Nat.le_of_ble_eq_true rfl⟩ dL_arrive_24
  · refine lv_istore_n (pc := 6) (lv' := [(3, .int (g_arrive σ p0 p1).2.1), (0, .ref (e_ad η 0)), (1, .int p0), (2, .int p1)]) hx hb dL_arrive_6 rfl hl (by decide) rfl (fun ls hl => ?_)
    refine lv_goto (pc := 7) (tgt := 25) hx hb dL_arrive_7 (by decide) ?_
    refine lv_iload_n (pc := 25) hx hb dL_arrive_25 rfl (lv_at hl 0 rfl) ?_
    exact L_ret (pc := 26) C P rfl (an_0 hk).symm hG2 h02 ⟨Nat.le_of_ble_eq_true rfl, Nat.le_of_ble_eq_true rfl⟩ dL_arrive_26
theorem xk_pass (σ : Sg) (p0 : Int32) : ¬ (g_pass σ p0).1 = 0 → (g_pass σ p0).2.2 = σ ∧ ((g_pass σ p0).1 = 2 ∨ (g_pass σ p0).1 = 3) := by
  unfold g_pass
  repeat' split
  all_goals first
    | (intro h; exact absurd rfl h)
    | (intro _; exact ⟨rfl, by first | exact Or.inl rfl | exact Or.inr (Or.inl rfl) | exact Or.inr (Or.inr rfl) | exact Or.inr rfl | rfl⟩)
abbrev rL_pass : Room := { frames := 7, cells := 1, slots := 6, locals := 150 }
theorem fnL_pass : FnW yL_pass wsL_pass cL_pass 4 (some .int) [(0, 6, 9, 17), (0, 6, 13, 20)] 2 rL_pass 1 6 := ⟨⟨_, rfl⟩, rfl, rfl, by decide +kernel⟩
set_option maxHeartbeats 4000000 in
theorem kL_pass (l : Launch) (hl9 : l.stackTraces = false) (D : va_G) (cI cO : ClassId) (t0 : Nat) (η : Eg) (σ : Sg) (p0 : Int32) (hG : Gok t0 η σ) : L_Met l yL_pass wsL_pass rL_pass D cI cO t0 η σ (g_pass σ p0) [.ref (e_ad η 0), .int p0] 1 6 := by
  refine L_body (n := 2) rfl fnL_pass (Nat.le_of_ble_eq_true rfl) ?_
  intro p e s m args below meth c C V hEC K hT A E9 P ls hl
  have hx := C.1
  have hb := C.2.1
  have hml := C.2.2.1
  have hown := C.2.2.2.1
  have hts := C.2.2.2.2.1
  have hl : lv_has ls 4 [(0, .ref (e_ad η 0)), (1, .int p0)] := hl
  refine lv_aload_n (pc := 0) hx hb dL_pass_0 rfl (lv_at hl 0 rfl) ?_
  refine lv_iload_n (pc := 1) hx hb dL_pass_1 rfl (lv_at hl 1 rfl) ?_
  refine L_callE (pc := 2) (As := [.int p0]) (rest := []) C V K E9 hl.1 P (kX6_pass l hl9 D cI cO t0 η σ p0 hG) fnX6_pass rfl gL_pass_X6_pass rfl rfl ⟨Nat.le_of_ble_eq_true rfl, Nat.le_of_ble_eq_true rfl⟩ (Nat.le_of_ble_eq_true rfl) ⟨Nat.le_of_ble_eq_true rfl, Nat.le_of_ble_eq_true rfl⟩ dL_pass_2 (fun hk q ce H locs P hc hcv hcl => ?_) (fun hk η2 H locs P hG2 h02 => ?_)
  · obtain ⟨hs9, hk9⟩ := xk_pass σ p0 hk
    rcases hk9 with hk9 | hk9
    · rw [hk9] at hcl
      refine vx_catch (own := RL) (name := nX2) (E := nX2) hown [] (⟨0, 6, 9, 17⟩ : ExceptionTableEntry) [(⟨0, 6, 13, 20⟩ : ExceptionTableEntry)] (by rw [hT]; rfl) (fun z hz => (by cases hz)) (by decide) (by decide) (hEC.2.1 _) (va_Nw.use rfl (V.1 _ (List.mem_of_getElem? (i := 11) rfl))) hc hcv hcl ?_
      refine lv_astore_n (pc := 9) (lv' := [(3, .ref q), (0, .ref (e_ad η 0)), (1, .int p0)]) hx hb dL_pass_9 rfl hl (by decide) rfl (fun ls hl => ?_)
      refine lv_ldc (pc := 10) (v := (-2000000002)) hx hb hown (hts _ (List.mem_of_getElem? (i := 2) rfl)) dL_pass_10 ?_
      exact L_ret (pc := 12) C P hs9 (an_2 hk9).symm hG rfl ⟨Nat.le_of_ble_eq_true rfl, Nat.le_of_ble_eq_true rfl⟩ dL_pass_12
    · rw [hk9] at hcl
      refine vx_catch (own := RL) (name := nX3) (E := nX3) hown [(⟨0, 6, 9, 17⟩ : ExceptionTableEntry)] (⟨0, 6, 13, 20⟩ : ExceptionTableEntry) [] (by rw [hT]; rfl) (fun z hz => (by rcases List.mem_cons.mp hz with rfl | hz; exact Or.inr ⟨by decide, nX2, hEC.2.1 _, hEC.2.2.2.2.2⟩; cases hz)) (by decide) (by decide) (hEC.2.2.1 _) (va_Nw.use rfl (V.1 _ (List.mem_of_getElem? (i := 12) rfl))) hc hcv hcl ?_
      refine lv_astore_n (pc := 13) (lv' := [(3, .ref q), (0, .ref (e_ad η 0)), (1, .int p0)]) hx hb dL_pass_13 rfl hl (by decide) rfl (fun ls hl => ?_)
      refine lv_ldc (pc := 14) (v := (-2000000003)) hx hb hown (hts _ (List.mem_of_getElem? (i := 3) rfl)) dL_pass_14 ?_
      exact L_ret (pc := 16) C P hs9 (an_3 hk9).symm hG rfl ⟨Nat.le_of_ble_eq_true rfl, Nat.le_of_ble_eq_true rfl⟩ dL_pass_16
  · refine lv_istore_n (pc := 5) (lv' := [(2, .int (g_pass σ p0).2.1), (0, .ref (e_ad η 0)), (1, .int p0)]) hx hb dL_pass_5 rfl hl (by decide) rfl (fun ls hl => ?_)
    refine lv_goto (pc := 6) (tgt := 17) hx hb dL_pass_6 (by decide) ?_
    refine lv_iload_n (pc := 17) hx hb dL_pass_17 rfl (lv_at hl 0 rfl) ?_
    exact L_ret (pc := 18) C P rfl (an_0 hk).symm hG2 h02 ⟨Nat.le_of_ble_eq_true rfl, Nat.le_of_ble_eq_true rfl⟩ dL_pass_18
theorem xk_ofVessel (σ : Sg) (p0 : Int32) (p1 : Int32) : ¬ (g_ofVessel σ p0 p1).1 = 0 → (g_ofVessel σ p0 p1).2.2 = σ ∧ ((g_ofVessel σ p0 p1).1 = 1) := by
  unfold g_ofVessel
  have hv : ∀ x : Int32, g_vesselOf σ x = 0 ∨ g_vesselOf σ x = 1 := fun x => by
    unfold g_vesselOf
    repeat' split
    all_goals first | exact Or.inl rfl | exact Or.inr rfl
  repeat' split
  all_goals first
    | (intro h; exact absurd rfl h)
    | (intro _; refine ⟨rfl, ?_⟩; first | exact (hv _).resolve_left (by assumption) | exact Or.inl ((hv _).resolve_left (by assumption)) | exact Or.inl rfl | exact Or.inr (Or.inl rfl) | exact Or.inr (Or.inr rfl) | exact Or.inr rfl | rfl)
abbrev rL_ofVessel : Room := { frames := 8, cells := 2, slots := 12, locals := 134 }
theorem fnL_ofVessel : FnW yL_ofVessel wsL_ofVessel cL_ofVessel 5 (some .int) [(0, 7, 10, 14)] 3 rL_ofVessel 2 12 := ⟨⟨_, rfl⟩, rfl, rfl, by decide +kernel⟩
set_option maxHeartbeats 4000000 in
theorem kL_ofVessel (l : Launch) (hl9 : l.stackTraces = false) (D : va_G) (cI cO : ClassId) (t0 : Nat) (η : Eg) (σ : Sg) (p0 : Int32) (p1 : Int32) (hG : Gok t0 η σ) (hG9 : (g_ofVessel σ p0 p1).1 = 0 → Gok t0 η (g_ofVessel σ p0 p1).2.2) : L_Met l yL_ofVessel wsL_ofVessel rL_ofVessel D cI cO t0 η σ (g_ofVessel σ p0 p1) [.ref (e_ad η 0), .int p0, .int p1] 2 12 := by
  refine L_body (n := 3) rfl fnL_ofVessel (Nat.le_of_ble_eq_true rfl) ?_
  intro p e s m args below meth c C V hEC K hT A E9 P ls hl
  have hx := C.1
  have hb := C.2.1
  have hml := C.2.2.1
  have hown := C.2.2.2.1
  have hts := C.2.2.2.2.1
  have hl : lv_has ls 5 [(0, .ref (e_ad η 0)), (1, .int p0), (2, .int p1)] := hl
  refine lv_aload_n (pc := 0) hx hb dL_ofVessel_0 rfl (lv_at hl 0 rfl) ?_
  refine lv_iload_n (pc := 1) hx hb dL_ofVessel_1 rfl (lv_at hl 1 rfl) ?_
  refine lv_iload_n (pc := 2) hx hb dL_ofVessel_2 rfl (lv_at hl 2 rfl) ?_
  refine L_callI (pc := 3) (As := [.int p0, .int p1]) (rest := []) C V K E9 hl.1 P hG9 (kX6_ofVessel l hl9 D cI cO t0 η σ p0 p1 hG) fnX6_ofVessel rfl gL_ofVessel_X6_ofVessel rfl rfl ⟨Nat.le_of_ble_eq_true rfl, Nat.le_of_ble_eq_true rfl⟩ (Nat.le_of_ble_eq_true rfl) ⟨Nat.le_of_ble_eq_true rfl, Nat.le_of_ble_eq_true rfl⟩ dL_ofVessel_3 (fun hk q ce H locs P hc hcv hcl => ?_) (fun hk η2 H locs P hG2 h02 => ?_)
  · obtain ⟨hs9, hk9⟩ := xk_ofVessel σ p0 p1 hk
    rw [hk9] at hcl
    refine vx_catch (own := RL) (name := nX1) (E := nX1) hown [] (⟨0, 7, 10, 14⟩ : ExceptionTableEntry) [] (by rw [hT]; rfl) (fun z hz => (by cases hz)) (by decide) (by decide) (hEC.1 _) (va_Nw.use rfl (V.1 _ (List.mem_of_getElem? (i := 10) rfl))) hc hcv hcl ?_
    refine lv_astore (pc := 10) (lv' := [(4, .ref q), (0, .ref (e_ad η 0)), (1, .int p0), (2, .int p1)]) hx hb dL_ofVessel_10 hl (by decide) rfl (fun ls hl => ?_)
    refine lv_ldc (pc := 12) (v := (-2000000001)) hx hb hown (hts _ (List.mem_of_getElem? (i := 2) rfl)) dL_ofVessel_12 ?_
    exact L_ret (pc := 14) C P hs9 (an_1 hk9).symm hG rfl ⟨Nat.le_of_ble_eq_true rfl, Nat.le_of_ble_eq_true rfl⟩ dL_ofVessel_14
  · refine lv_istore_n (pc := 6) (lv' := [(3, .int (g_ofVessel σ p0 p1).2.1), (0, .ref (e_ad η 0)), (1, .int p0), (2, .int p1)]) hx hb dL_ofVessel_6 rfl hl (by decide) rfl (fun ls hl => ?_)
    refine lv_goto (pc := 7) (tgt := 15) hx hb dL_ofVessel_7 (by decide) ?_
    refine lv_iload_n (pc := 15) hx hb dL_ofVessel_15 rfl (lv_at hl 0 rfl) ?_
    exact L_ret (pc := 16) C P rfl (an_0 hk).symm hG2 h02 ⟨Nat.le_of_ble_eq_true rfl, Nat.le_of_ble_eq_true rfl⟩ dL_ofVessel_16
theorem xk_dropsAnew (σ : Sg) (p0 : Int32) : ¬ (g_dropsAnew σ p0).1 = 0 → (g_dropsAnew σ p0).2.2 = σ ∧ ((g_dropsAnew σ p0).1 = 1) := by
  unfold g_dropsAnew
  have hv : ∀ x : Int32, g_vesselOf σ x = 0 ∨ g_vesselOf σ x = 1 := fun x => by
    unfold g_vesselOf
    repeat' split
    all_goals first | exact Or.inl rfl | exact Or.inr rfl
  repeat' split
  all_goals first
    | (intro h; exact absurd rfl h)
    | (intro _; refine ⟨rfl, ?_⟩; first | exact (hv _).resolve_left (by assumption) | exact Or.inl ((hv _).resolve_left (by assumption)) | exact Or.inl rfl | exact Or.inr (Or.inl rfl) | exact Or.inr (Or.inr rfl) | exact Or.inr rfl | rfl)
abbrev rL_dropsAnew : Room := { frames := 8, cells := 1, slots := 6, locals := 132 }
theorem fnL_dropsAnew : FnW yL_dropsAnew wsL_dropsAnew cL_dropsAnew 4 (some .int) [(0, 6, 9, 14)] 2 rL_dropsAnew 1 6 := ⟨⟨_, rfl⟩, rfl, rfl, by decide +kernel⟩
set_option maxHeartbeats 4000000 in
theorem kL_dropsAnew (l : Launch) (hl9 : l.stackTraces = false) (D : va_G) (cI cO : ClassId) (t0 : Nat) (η : Eg) (σ : Sg) (p0 : Int32) (hG : Gok t0 η σ) (hG9 : (g_dropsAnew σ p0).1 = 0 → Gok t0 η (g_dropsAnew σ p0).2.2) : L_Met l yL_dropsAnew wsL_dropsAnew rL_dropsAnew D cI cO t0 η σ (g_dropsAnew σ p0) [.ref (e_ad η 0), .int p0] 1 6 := by
  refine L_body (n := 2) rfl fnL_dropsAnew (Nat.le_of_ble_eq_true rfl) ?_
  intro p e s m args below meth c C V hEC K hT A E9 P ls hl
  have hx := C.1
  have hb := C.2.1
  have hml := C.2.2.1
  have hown := C.2.2.2.1
  have hts := C.2.2.2.2.1
  have hl : lv_has ls 4 [(0, .ref (e_ad η 0)), (1, .int p0)] := hl
  refine lv_aload_n (pc := 0) hx hb dL_dropsAnew_0 rfl (lv_at hl 0 rfl) ?_
  refine lv_iload_n (pc := 1) hx hb dL_dropsAnew_1 rfl (lv_at hl 1 rfl) ?_
  refine L_callI (pc := 2) (As := [.int p0]) (rest := []) C V K E9 hl.1 P hG9 (kX6_dropsAnew l hl9 D cI cO t0 η σ p0 hG) fnX6_dropsAnew rfl gL_dropsAnew_X6_dropsAnew rfl rfl ⟨Nat.le_of_ble_eq_true rfl, Nat.le_of_ble_eq_true rfl⟩ (Nat.le_of_ble_eq_true rfl) ⟨Nat.le_of_ble_eq_true rfl, Nat.le_of_ble_eq_true rfl⟩ dL_dropsAnew_2 (fun hk q ce H locs P hc hcv hcl => ?_) (fun hk η2 H locs P hG2 h02 => ?_)
  · obtain ⟨hs9, hk9⟩ := xk_dropsAnew σ p0 hk
    rw [hk9] at hcl
    refine vx_catch (own := RL) (name := nX1) (E := nX1) hown [] (⟨0, 6, 9, 14⟩ : ExceptionTableEntry) [] (by rw [hT]; rfl) (fun z hz => (by cases hz)) (by decide) (by decide) (hEC.1 _) (va_Nw.use rfl (V.1 _ (List.mem_of_getElem? (i := 10) rfl))) hc hcv hcl ?_
    refine lv_astore_n (pc := 9) (lv' := [(3, .ref q), (0, .ref (e_ad η 0)), (1, .int p0)]) hx hb dL_dropsAnew_9 rfl hl (by decide) rfl (fun ls hl => ?_)
    refine lv_ldc (pc := 10) (v := (-2000000001)) hx hb hown (hts _ (List.mem_of_getElem? (i := 2) rfl)) dL_dropsAnew_10 ?_
    exact L_ret (pc := 12) C P hs9 (an_1 hk9).symm hG rfl ⟨Nat.le_of_ble_eq_true rfl, Nat.le_of_ble_eq_true rfl⟩ dL_dropsAnew_12
  · refine lv_istore_n (pc := 5) (lv' := [(2, .int (g_dropsAnew σ p0).2.1), (0, .ref (e_ad η 0)), (1, .int p0)]) hx hb dL_dropsAnew_5 rfl hl (by decide) rfl (fun ls hl => ?_)
    refine lv_goto (pc := 6) (tgt := 13) hx hb dL_dropsAnew_6 (by decide) ?_
    refine lv_iload_n (pc := 13) hx hb dL_dropsAnew_13 rfl (lv_at hl 0 rfl) ?_
    exact L_ret (pc := 14) C P rfl (an_0 hk).symm hG2 h02 ⟨Nat.le_of_ble_eq_true rfl, Nat.le_of_ble_eq_true rfl⟩ dL_dropsAnew_14
theorem xk_ofMovement (σ : Sg) (p0 : Int32) (p1 : Int32) : ¬ (g_ofMovement σ p0 p1).1 = 0 → (g_ofMovement σ p0 p1).2.2 = σ ∧ ((g_ofMovement σ p0 p1).1 = 1) := by
  unfold g_ofMovement
  have hv : ∀ x : Int32, g_movementOf σ x = 0 ∨ g_movementOf σ x = 1 := fun x => by
    unfold g_movementOf
    repeat' split
    all_goals first | exact Or.inl rfl | exact Or.inr rfl
  repeat' split
  all_goals first
    | (intro h; exact absurd rfl h)
    | (intro _; refine ⟨rfl, ?_⟩; first | exact (hv _).resolve_left (by assumption) | exact Or.inl ((hv _).resolve_left (by assumption)) | exact Or.inl rfl | exact Or.inr (Or.inl rfl) | exact Or.inr (Or.inr rfl) | exact Or.inr rfl | rfl)
abbrev rL_ofMovement : Room := { frames := 8, cells := 2, slots := 12, locals := 134 }
theorem fnL_ofMovement : FnW yL_ofMovement wsL_ofMovement cL_ofMovement 5 (some .int) [(0, 7, 10, 14)] 3 rL_ofMovement 2 12 := ⟨⟨_, rfl⟩, rfl, rfl, by decide +kernel⟩
set_option maxHeartbeats 4000000 in
theorem kL_ofMovement (l : Launch) (hl9 : l.stackTraces = false) (D : va_G) (cI cO : ClassId) (t0 : Nat) (η : Eg) (σ : Sg) (p0 : Int32) (p1 : Int32) (hG : Gok t0 η σ) (hG9 : (g_ofMovement σ p0 p1).1 = 0 → Gok t0 η (g_ofMovement σ p0 p1).2.2) : L_Met l yL_ofMovement wsL_ofMovement rL_ofMovement D cI cO t0 η σ (g_ofMovement σ p0 p1) [.ref (e_ad η 0), .int p0, .int p1] 2 12 := by
  refine L_body (n := 3) rfl fnL_ofMovement (Nat.le_of_ble_eq_true rfl) ?_
  intro p e s m args below meth c C V hEC K hT A E9 P ls hl
  have hx := C.1
  have hb := C.2.1
  have hml := C.2.2.1
  have hown := C.2.2.2.1
  have hts := C.2.2.2.2.1
  have hl : lv_has ls 5 [(0, .ref (e_ad η 0)), (1, .int p0), (2, .int p1)] := hl
  refine lv_aload_n (pc := 0) hx hb dL_ofMovement_0 rfl (lv_at hl 0 rfl) ?_
  refine lv_iload_n (pc := 1) hx hb dL_ofMovement_1 rfl (lv_at hl 1 rfl) ?_
  refine lv_iload_n (pc := 2) hx hb dL_ofMovement_2 rfl (lv_at hl 2 rfl) ?_
  refine L_callI (pc := 3) (As := [.int p0, .int p1]) (rest := []) C V K E9 hl.1 P hG9 (kX6_ofMovement l hl9 D cI cO t0 η σ p0 p1 hG) fnX6_ofMovement rfl gL_ofMovement_X6_ofMovement rfl rfl ⟨Nat.le_of_ble_eq_true rfl, Nat.le_of_ble_eq_true rfl⟩ (Nat.le_of_ble_eq_true rfl) ⟨Nat.le_of_ble_eq_true rfl, Nat.le_of_ble_eq_true rfl⟩ dL_ofMovement_3 (fun hk q ce H locs P hc hcv hcl => ?_) (fun hk η2 H locs P hG2 h02 => ?_)
  · obtain ⟨hs9, hk9⟩ := xk_ofMovement σ p0 p1 hk
    rw [hk9] at hcl
    refine vx_catch (own := RL) (name := nX1) (E := nX1) hown [] (⟨0, 7, 10, 14⟩ : ExceptionTableEntry) [] (by rw [hT]; rfl) (fun z hz => (by cases hz)) (by decide) (by decide) (hEC.1 _) (va_Nw.use rfl (V.1 _ (List.mem_of_getElem? (i := 10) rfl))) hc hcv hcl ?_
    refine lv_astore (pc := 10) (lv' := [(4, .ref q), (0, .ref (e_ad η 0)), (1, .int p0), (2, .int p1)]) hx hb dL_ofMovement_10 hl (by decide) rfl (fun ls hl => ?_)
    refine lv_ldc (pc := 12) (v := (-2000000001)) hx hb hown (hts _ (List.mem_of_getElem? (i := 2) rfl)) dL_ofMovement_12 ?_
    exact L_ret (pc := 14) C P hs9 (an_1 hk9).symm hG rfl ⟨Nat.le_of_ble_eq_true rfl, Nat.le_of_ble_eq_true rfl⟩ dL_ofMovement_14
  · refine lv_istore_n (pc := 6) (lv' := [(3, .int (g_ofMovement σ p0 p1).2.1), (0, .ref (e_ad η 0)), (1, .int p0), (2, .int p1)]) hx hb dL_ofMovement_6 rfl hl (by decide) rfl (fun ls hl => ?_)
    refine lv_goto (pc := 7) (tgt := 15) hx hb dL_ofMovement_7 (by decide) ?_
    refine lv_iload_n (pc := 15) hx hb dL_ofMovement_15 rfl (lv_at hl 0 rfl) ?_
    exact L_ret (pc := 16) C P rfl (an_0 hk).symm hG2 h02 ⟨Nat.le_of_ble_eq_true rfl, Nat.le_of_ble_eq_true rfl⟩ dL_ofMovement_16
theorem xk_ledger (σ : Sg) (p0 : Int32) : ¬ (g_ledger σ p0).1 = 0 → (g_ledger σ p0).2.2 = σ ∧ ((g_ledger σ p0).1 = 2) := by
  unfold g_ledger
  repeat' split
  all_goals first
    | (intro h; exact absurd rfl h)
    | (intro _; exact ⟨rfl, by first | exact Or.inl rfl | exact Or.inr (Or.inl rfl) | exact Or.inr (Or.inr rfl) | exact Or.inr rfl | rfl⟩)
abbrev rL_ledger : Room := { frames := 7, cells := 1, slots := 6, locals := 111 }
theorem fnL_ledger : FnW yL_ledger wsL_ledger cL_ledger 4 (some .int) [(0, 6, 9, 17)] 2 rL_ledger 1 6 := ⟨⟨_, rfl⟩, rfl, rfl, by decide +kernel⟩
set_option maxHeartbeats 4000000 in
theorem kL_ledger (l : Launch) (hl9 : l.stackTraces = false) (D : va_G) (cI cO : ClassId) (t0 : Nat) (η : Eg) (σ : Sg) (p0 : Int32) (hG : Gok t0 η σ) (hG9 : (g_ledger σ p0).1 = 0 → Gok t0 η (g_ledger σ p0).2.2) : L_Met l yL_ledger wsL_ledger rL_ledger D cI cO t0 η σ (g_ledger σ p0) [.ref (e_ad η 0), .int p0] 1 6 := by
  refine L_body (n := 2) rfl fnL_ledger (Nat.le_of_ble_eq_true rfl) ?_
  intro p e s m args below meth c C V hEC K hT A E9 P ls hl
  have hx := C.1
  have hb := C.2.1
  have hml := C.2.2.1
  have hown := C.2.2.2.1
  have hts := C.2.2.2.2.1
  have hl : lv_has ls 4 [(0, .ref (e_ad η 0)), (1, .int p0)] := hl
  refine lv_aload_n (pc := 0) hx hb dL_ledger_0 rfl (lv_at hl 0 rfl) ?_
  refine lv_iload_n (pc := 1) hx hb dL_ledger_1 rfl (lv_at hl 1 rfl) ?_
  refine L_callI (pc := 2) (As := [.int p0]) (rest := []) C V K E9 hl.1 P hG9 (kX6_ledger l hl9 D cI cO t0 η σ p0 hG) fnX6_ledger rfl gL_ledger_X6_ledger rfl rfl ⟨Nat.le_of_ble_eq_true rfl, Nat.le_of_ble_eq_true rfl⟩ (Nat.le_of_ble_eq_true rfl) ⟨Nat.le_of_ble_eq_true rfl, Nat.le_of_ble_eq_true rfl⟩ dL_ledger_2 (fun hk q ce H locs P hc hcv hcl => ?_) (fun hk η2 H locs P hG2 h02 => ?_)
  · obtain ⟨hs9, hk9⟩ := xk_ledger σ p0 hk
    rw [hk9] at hcl
    refine vx_catch (own := RL) (name := nX2) (E := nX2) hown [] (⟨0, 6, 9, 17⟩ : ExceptionTableEntry) [] (by rw [hT]; rfl) (fun z hz => (by cases hz)) (by decide) (by decide) (hEC.2.1 _) (va_Nw.use rfl (V.1 _ (List.mem_of_getElem? (i := 11) rfl))) hc hcv hcl ?_
    refine lv_astore_n (pc := 9) (lv' := [(3, .ref q), (0, .ref (e_ad η 0)), (1, .int p0)]) hx hb dL_ledger_9 rfl hl (by decide) rfl (fun ls hl => ?_)
    refine lv_ldc (pc := 10) (v := (-2000000002)) hx hb hown (hts _ (List.mem_of_getElem? (i := 2) rfl)) dL_ledger_10 ?_
    exact L_ret (pc := 12) C P hs9 (an_2 hk9).symm hG rfl ⟨Nat.le_of_ble_eq_true rfl, Nat.le_of_ble_eq_true rfl⟩ dL_ledger_12
  · refine lv_istore_n (pc := 5) (lv' := [(2, .int (g_ledger σ p0).2.1), (0, .ref (e_ad η 0)), (1, .int p0)]) hx hb dL_ledger_5 rfl hl (by decide) rfl (fun ls hl => ?_)
    refine lv_goto (pc := 6) (tgt := 13) hx hb dL_ledger_6 (by decide) ?_
    refine lv_iload_n (pc := 13) hx hb dL_ledger_13 rfl (lv_at hl 0 rfl) ?_
    exact L_ret (pc := 14) C P rfl (an_0 hk).symm hG2 h02 ⟨Nat.le_of_ble_eq_true rfl, Nat.le_of_ble_eq_true rfl⟩ dL_ledger_14
theorem xk_duty (σ : Sg) (p0 : Int32) : ¬ (g_duty σ p0).1 = 0 → (g_duty σ p0).2.2 = σ ∧ ((g_duty σ p0).1 = 2) := by
  unfold g_duty
  repeat' split
  all_goals first
    | (intro h; exact absurd rfl h)
    | (intro _; exact ⟨rfl, by first | exact Or.inl rfl | exact Or.inr (Or.inl rfl) | exact Or.inr (Or.inr rfl) | exact Or.inr rfl | rfl⟩)
abbrev rL_duty : Room := { frames := 7, cells := 1, slots := 6, locals := 111 }
theorem fnL_duty : FnW yL_duty wsL_duty cL_duty 4 (some .int) [(0, 6, 9, 17)] 2 rL_duty 1 6 := ⟨⟨_, rfl⟩, rfl, rfl, by decide +kernel⟩
set_option maxHeartbeats 4000000 in
theorem kL_duty (l : Launch) (hl9 : l.stackTraces = false) (D : va_G) (cI cO : ClassId) (t0 : Nat) (η : Eg) (σ : Sg) (p0 : Int32) (hG : Gok t0 η σ) (hG9 : (g_duty σ p0).1 = 0 → Gok t0 η (g_duty σ p0).2.2) : L_Met l yL_duty wsL_duty rL_duty D cI cO t0 η σ (g_duty σ p0) [.ref (e_ad η 0), .int p0] 1 6 := by
  refine L_body (n := 2) rfl fnL_duty (Nat.le_of_ble_eq_true rfl) ?_
  intro p e s m args below meth c C V hEC K hT A E9 P ls hl
  have hx := C.1
  have hb := C.2.1
  have hml := C.2.2.1
  have hown := C.2.2.2.1
  have hts := C.2.2.2.2.1
  have hl : lv_has ls 4 [(0, .ref (e_ad η 0)), (1, .int p0)] := hl
  refine lv_aload_n (pc := 0) hx hb dL_duty_0 rfl (lv_at hl 0 rfl) ?_
  refine lv_iload_n (pc := 1) hx hb dL_duty_1 rfl (lv_at hl 1 rfl) ?_
  refine L_callI (pc := 2) (As := [.int p0]) (rest := []) C V K E9 hl.1 P hG9 (kX6_duty l hl9 D cI cO t0 η σ p0 hG) fnX6_duty rfl gL_duty_X6_duty rfl rfl ⟨Nat.le_of_ble_eq_true rfl, Nat.le_of_ble_eq_true rfl⟩ (Nat.le_of_ble_eq_true rfl) ⟨Nat.le_of_ble_eq_true rfl, Nat.le_of_ble_eq_true rfl⟩ dL_duty_2 (fun hk q ce H locs P hc hcv hcl => ?_) (fun hk η2 H locs P hG2 h02 => ?_)
  · obtain ⟨hs9, hk9⟩ := xk_duty σ p0 hk
    rw [hk9] at hcl
    refine vx_catch (own := RL) (name := nX2) (E := nX2) hown [] (⟨0, 6, 9, 17⟩ : ExceptionTableEntry) [] (by rw [hT]; rfl) (fun z hz => (by cases hz)) (by decide) (by decide) (hEC.2.1 _) (va_Nw.use rfl (V.1 _ (List.mem_of_getElem? (i := 11) rfl))) hc hcv hcl ?_
    refine lv_astore_n (pc := 9) (lv' := [(3, .ref q), (0, .ref (e_ad η 0)), (1, .int p0)]) hx hb dL_duty_9 rfl hl (by decide) rfl (fun ls hl => ?_)
    refine lv_ldc (pc := 10) (v := (-2000000002)) hx hb hown (hts _ (List.mem_of_getElem? (i := 2) rfl)) dL_duty_10 ?_
    exact L_ret (pc := 12) C P hs9 (an_2 hk9).symm hG rfl ⟨Nat.le_of_ble_eq_true rfl, Nat.le_of_ble_eq_true rfl⟩ dL_duty_12
  · refine lv_istore_n (pc := 5) (lv' := [(2, .int (g_duty σ p0).2.1), (0, .ref (e_ad η 0)), (1, .int p0)]) hx hb dL_duty_5 rfl hl (by decide) rfl (fun ls hl => ?_)
    refine lv_goto (pc := 6) (tgt := 13) hx hb dL_duty_6 (by decide) ?_
    refine lv_iload_n (pc := 13) hx hb dL_duty_13 rfl (lv_at hl 0 rfl) ?_
    exact L_ret (pc := 14) C P rfl (an_0 hk).symm hG2 h02 ⟨Nat.le_of_ble_eq_true rfl, Nat.le_of_ble_eq_true rfl⟩ dL_duty_14
