/-! ===== what is given from without: words, texts, statics; the lists' order ===== -/
abbrev tyG (cI cO : ClassId) : List (ClassId × FieldType) := [(cI, .int), (cO, .object "java/lang/Object")]
def EnvV (U : State) : Prop := EnvN U ∧ (∀ q ∈ SRl, ∃ sa, vk_R RX6 q.1 q.2 sa U) ∧ va_AO "java/lang/Object" U ∧ ∃ mi, va_Mi "[Ljava/lang/Object;" mi U
def EnvH (t0 : Nat) (A : Nat → Prop) (U : State) (H : Heap) : Prop := vx_Zq Bundle.tN "UNASSIGNED_STACK" Bundle.steD A U H ∧ vx_Zq Bundle.tN "SUPPRESSED_SENTINEL" Bundle.listD A U H ∧ va_Z "java/util/ArrayList" "DEFAULTCAPACITY_EMPTY_ELEMENTDATA" "[Ljava/lang/Object;" (.ref t0) A U H ∧ va_T (.object "java/lang/Object") t0 0 (fun _ => .null) A U H
theorem EnvV.warm {s U : State} (h : EnvV s) (hW : s.WarmedH U.vm) : EnvV U := by
  obtain ⟨h1, h2, h3, mi, h4⟩ := h
  refine ⟨h1.warm hW, fun q hq => ?_, va_AO.moved hW.alike h3, mi, va_Mi.moved hW.alike h4⟩
  obtain ⟨sa, h⟩ := h2 q hq
  exact ⟨sa, vk_R.warm hW h⟩
theorem EnvV.same {s U : State} (h : EnvV s) (hv : s.vm = U.vm) : EnvV U := by
  obtain ⟨h1, h2, h3, mi, h4⟩ := h
  have ha : s.vm.Alike U.vm := by rw [hv]; exact Vm.Alike.refl U.vm
  refine ⟨h1.same hv, fun q hq => ?_, va_AO.moved ha h3, mi, va_Mi.moved ha h4⟩
  obtain ⟨sa, h⟩ := h2 q hq
  exact ⟨sa, vk_R.same hv.symm h⟩
theorem EnvH.moved {t0 : Nat} {A : Nat → Prop} {u U : State} {H : Heap} (hvm : u.vm.Alike U.vm) (h : EnvH t0 A u H) : EnvH t0 A U H := ⟨h.1.moved hvm, h.2.1.moved hvm, va_Z.moved hvm h.2.2.1, va_T.moved hvm h.2.2.2⟩
theorem EnvH.go {t0 : Nat} {A A1 : Nat → Prop} {s U : State} {H : Heap} {locs : List Loc} (h : EnvH t0 A s s.heap) (hS : va_S A s.heap H locs) (hF : ∀ q, A1 q → A q) (hvm : s.vm.Alike U.vm) : EnvH t0 A1 U H := by
  have hk : ∀ a : Nat, a < s.heap.size → ¬ A a → H[a]? = s.heap[a]? := hS.2.1
  exact EnvH.moved hvm ⟨(h.1.kept hk).narrow hF, (h.2.1.kept hk).narrow hF, (va_Z.kept h.2.2.1 hk).narrow hF, (va_T.kept h.2.2.2 hk).narrow hF⟩
def Lok (η : Eg) (σ : Sg) (j : Nat) : Prop := σ.1 (csl j) = nI (ix (σ.1 (csl j))) ∧ ix (σ.1 (csl j)) ≤ 100 ∧ ix (σ.1 (csl j)) ≤ e_cp η j ∧ e_cp η j ≤ 200 ∧ ∀ i, i < ix (σ.1 (csl j)) → e_rw η j i = some (e_aa η j i)
def Gok (t0 : Nat) (η : Eg) (σ : Sg) : Prop := Cnt σ 2 10 ∧ Cnt σ 22 30 ∧ Cnt σ 18 100 ∧ (e_bu η = none ↔ σ.1 13 = -1) ∧ (∀ j, j < 3 → Lok η σ j ∧ (e_cp η j = 0 → e_ad η (8 + j) = t0)) ∧ ∀ k, k < ix (σ.1 22) → ix (σ.2 24 k) < ix (σ.1 2)
def PreG (D : va_G) (cI cO : ClassId) (sz : Nat) (wc : va_W) (U : State) : Prop := U.heap.size = sz ∧ PreN D (tyG cI cO) wc U
def PicG (D : va_G) (A : Nat → Prop) (ws : va_W) (t : State) : Prop := va_P D vwCl ws t.heap ∧ va_D A ws
def PreX (D : va_G) (cI cO : ClassId) (t0 sz : Nat) (wc : va_W) (U : State) : Prop := U.heap.size = sz ∧ va_P D vwCl wc U.heap ∧ va_K D vwCl (tyG cI cO) U ∧ va_D (fun _ => True) wc ∧ EnvV U ∧ EnvH t0 (va_A wc sz) U U.heap
theorem preG_blind {D : va_G} {cI cO : ClassId} {sz : Nat} {wc : va_W} {As : List Value} : FrameBlind (va_Pc As (PreG D cI cO sz wc)) := fun a U g mk q => by
  obtain ⟨q0, q1, qP, qK, qD, qN⟩ := q
  exact ⟨q0, q1, qP, va_K.moved (u := U) (U := U.calling g mk a) (Vm.Alike.refl U.vm) qK, qD, qN.same rfl⟩
theorem preX_blind {D : va_G} {cI cO : ClassId} {t0 sz : Nat} {wc : va_W} {As : List Value} : FrameBlind (va_Pc As (PreX D cI cO t0 sz wc)) := fun a U g mk q => by
  obtain ⟨q0, q1, qP, qK, qD, qV, qH⟩ := q
  exact ⟨q0, q1, qP, va_K.moved (u := U) (U := U.calling g mk a) (Vm.Alike.refl U.vm) qK, qD, qV.same rfl, EnvH.moved (u := U) (U := U.calling g mk a) (Vm.Alike.refl U.vm) qH⟩
def G_Mi (l : Launch) (y : MethodName) (ws : List Cond) (rm : Room) (D : va_G) (cI cO : ClassId) (η : Eg) (σ : Sg) (η' : Eg) (σ' : Sg) (As : List Value) (v : Int32) : Prop :=
  ∀ sz : Nat, Met l y ws rm (va_Pc (.ref (e_ad η 0) :: As) (PreG D cI cO sz (G_W cI cO η σ))) (va_Qi (fun r (_ : Unit) => r = v) (fun _ t => PicG D (va_A (G_W cI cO η σ) sz) (G_W cI cO η' σ') t) (va_A (G_W cI cO η σ) sz)) 0 0 (va_A (G_W cI cO η σ) sz)
def G_Mv (l : Launch) (y : MethodName) (ws : List Cond) (rm : Room) (D : va_G) (cI cO : ClassId) (η : Eg) (σ : Sg) (η' : Eg) (σ' : Sg) (As : List Value) : Prop :=
  ∀ sz : Nat, Met l y ws rm (va_Pc (.ref (e_ad η 0) :: As) (PreG D cI cO sz (G_W cI cO η σ))) (va_Qv (fun (_ : Unit) => True) (fun _ t => PicG D (va_A (G_W cI cO η σ) sz) (G_W cI cO η' σ') t) (va_A (G_W cI cO η σ) sz)) 0 0 (va_A (G_W cI cO η σ) sz)
def xn (k : Int32) : String := if k = 1 then "java/lang/IndexOutOfBoundsException" else if k = 2 then "java/lang/IllegalArgumentException" else "java/lang/IllegalStateException"
abbrev G_XC (D : va_G) (cI cO : ClassId) (η : Eg) (σ : Sg) (k : Int32) (A : Nat → Prop) : String → State → State → Prop := vx_X (fun (_ : Unit) => ¬ k = 0) (fun E _ t => E = xn k ∧ PicG D A (G_W cI cO η σ) t) A
/-- a method of the class that may throw; Qn: what it does when it returns -/
def G_X (l : Launch) (y : MethodName) (ws : List Cond) (rm : Room) (D : va_G) (cI cO : ClassId) (t0 : Nat) (η : Eg) (σ : Sg) (As : List Value) (Qn : (Nat → Prop) → Array Value → State → Outcome → State → Prop) (k : Int32) (mc ms : Nat) : Prop :=
  ∀ sz : Nat, vx_Met l y ws rm (va_Pc (.ref (e_ad η 0) :: As) (PreX D cI cO t0 sz (G_W cI cO η σ))) (Qn (va_A (G_W cI cO η σ) sz)) (G_XC D cI cO η σ k (va_A (G_W cI cO η σ) sz)) mc ms (va_A (G_W cI cO η σ) sz)
abbrev Q_i (D : va_G) (cI cO : ClassId) (η : Eg) (f : Int32 × Int32 × Sg) (A : Nat → Prop) : Array Value → State → Outcome → State → Prop := va_Qi (fun r (_ : Unit) => f.1 = 0 ∧ r = f.2.1) (fun _ t => PicG D A (G_W cI cO η f.2.2) t) A
abbrev Q_r (D : va_G) (cI cO : ClassId) (η : Eg) (σ : Sg) (k : Int32) (a : Nat) (A : Nat → Prop) : Array Value → State → Outcome → State → Prop := va_Qq (fun r (_ : Unit) => k = 0 ∧ r = some a) (fun _ t => PicG D A (G_W cI cO η σ) t) A
/-- .. where the lists, or the budget, may change -/
abbrev Q_e (D : va_G) (cI cO : ClassId) (t0 : Nat) (f : Int32 × Int32 × Sg) (g0 : Nat) (A : Nat → Prop) : Array Value → State → Outcome → State → Prop := va_Qi (fun r (η' : Eg) => f.1 = 0 ∧ r = f.2.1 ∧ Gok t0 η' f.2.2 ∧ e_ad η' 0 = g0) (fun η' t => PicG D A (G_W cI cO η' f.2.2) t) A
abbrev Q_ev (D : va_G) (cI cO : ClassId) (t0 : Nat) (f : Int32 × Int32 × Sg) (g0 : Nat) (A : Nat → Prop) : Array Value → State → Outcome → State → Prop := va_Qv (fun (η' : Eg) => f.1 = 0 ∧ Gok t0 η' f.2.2 ∧ e_ad η' 0 = g0) (fun η' t => PicG D A (G_W cI cO η' f.2.2) t) A
abbrev xnames : List String := ["java/lang/RuntimeException", "java/lang/Exception"]
theorem ot_1 : (∀ w ∈ Cond.classLink RX6 44 (xn 1) :: Cond.initialized (xn 1) :: vx_atS RX6 48 (xn 1) xnames, vx_ot w = true) ∧ ∀ w ∈ (vx_atS RX6 48 (xn 1) xnames).filter (fun w => !goodWord w), w ∈ [Cond.castable (xn 1) (xn 1), Cond.declares (Bundle.initS Bundle.tN), Cond.declares (Bundle.initS "java/lang/RuntimeException"), Cond.declares (Bundle.initS "java/lang/Exception")] := by decide +kernel
theorem ot_2 : (∀ w ∈ Cond.classLink RX6 55 (xn 2) :: Cond.initialized (xn 2) :: vx_atS RX6 59 (xn 2) xnames, vx_ot w = true) ∧ ∀ w ∈ (vx_atS RX6 59 (xn 2) xnames).filter (fun w => !goodWord w), w ∈ [Cond.castable (xn 2) (xn 2), Cond.declares (Bundle.initS Bundle.tN), Cond.declares (Bundle.initS "java/lang/RuntimeException"), Cond.declares (Bundle.initS "java/lang/Exception")] := by decide +kernel
theorem ot_3 : (∀ w ∈ Cond.classLink RX6 64 (xn 3) :: Cond.initialized (xn 3) :: vx_atS RX6 68 (xn 3) xnames, vx_ot w = true) ∧ ∀ w ∈ (vx_atS RX6 68 (xn 3) xnames).filter (fun w => !goodWord w), w ∈ [Cond.castable (xn 3) (xn 3), Cond.declares (Bundle.initS Bundle.tN), Cond.declares (Bundle.initS "java/lang/RuntimeException"), Cond.declares (Bundle.initS "java/lang/Exception")] := by decide +kernel
theorem xn_fit (k : Int32) : Bundle.fit (xn k) = true := by
  unfold xn
  split
  · decide +kernel
  · split <;> decide +kernel
theorem xnames_fit : ∀ n ∈ xnames, Bundle.fit n = true := by decide +kernel
section GR
variable {p : Program} {l : Launch} {e : Env} {R : Room} {s : State} {m : MethodId} {args : Array Value} {below : List Frame} {meth : Method} {c : Code} {H : Heap} {locs : List Loc} {cells slots mc ms : Nat} {Q : State → Prop} {cc : ByteArray} {pc : Nat} {ls : Array Slot} {rest st0 : List Value} {Ts : List Cond} {nL : Nat} {D : va_G} {A : Nat → Prop} {ret : Option FieldType} {cI cO : ClassId} {η : Eg} {σ : Sg} {t0 : Nat}
theorem G_size (C : Cx RX6 p s m args meth c cc nL Ts ret) (hN : EnvN s) (K : va_K D vwCl (tyG cI cO) s) (hl : ls.size = nL) (P : Hp D A s (G_W cI cO η σ) H locs) (j : Nat) (hj : j < 3) {index : Nat} (g : GoodIn Ts (wsV RX6 index RJx4a65c yJx4a65c_size_8abf5 wsJx4a65c_size_8abf5))
    (hR : 0 + 1 ≤ R.frames ∧ 8 + (1 + 11) + 0 ≤ R.locals) (hcat : (rest.map fun v => v.category).sum ≤ 8) (hz : cells + 0 ≤ R.cells ∧ slots + 0 ≤ R.slots) (d : decode cc pc = .ok (.invokevirtual index, 3)) (kk : W p l e R s m args below meth c H locs cells slots Q (F0 m (pc + 3) ls (.int (σ.1 (csl j)) :: rest))) : W p l e R s m args below meth c H locs cells slots Q (F0 m pc ls (.ref (e_ad η (1 + j)) :: rest)) :=
  N_callR (As := []) C hN K.nil hl (P.1.one (AL_get hj)) (va_D.one trivial) (va_recv K P.1 (ci := 0) rfl (AL_get hj)) (kJx4a65c_size_8abf5 l D (e_ad η (1 + j)) (.int (e_mc η j)) (.ref (e_ad η (8 + j))) (σ.1 (csl j))) fnJx4a65c_size_8abf5 rfl g rfl rfl hR hcat hz d kk
theorem ix_lt {i n : Int32} (h1 : ¬ i < 0) (h2 : i < n) (hn : n = nI (ix n)) : i = nI (ix i) ∧ ix i < ix n := by
  obtain ⟨j, hj, rfl⟩ := nI_of h1
  have e : ix (nI j) = j := nI_clamp hj
  rw [e]
  refine ⟨rfl, ?_⟩
  have h3 := Int32.lt_iff_toInt_lt.mp h2
  rw [nI_toInt hj] at h3
  have h4 : n.toInt ≤ (ix n : Int) := by
    show n.toInt ≤ (n.toNatClampNeg : Int)
    rw [Int32.toNatClampNeg]
    exact Int.self_le_toNat _
  omega
theorem G_lget (C : Cx RX6 p s m args meth c cc nL Ts ret) (hN : EnvN s) (K : va_K D vwCl (tyG cI cO) s) (hl : ls.size = nL) (P : Hp D A s (G_W cI cO η σ) H locs) (j : Nat) (hj : j < 3) (hL : Lok η σ j) {i : Int32} (h1 : ¬ i < 0) (h2 : i < σ.1 (csl j)) {index : Nat} (g : GoodIn Ts (wsV RX6 index RJx4a65c yJx4a65c_get_915e3 wsJx4a65c_get_915e3))
    (hR : 2 + 1 ≤ R.frames ∧ 8 + (2 + 11) + 43 ≤ R.locals) (hcat : (rest.map fun v => v.category).sum ≤ 8) (hz : cells + 0 ≤ R.cells ∧ slots + 0 ≤ R.slots) (d : decode cc pc = .ok (.invokevirtual index, 3)) (kk : W p l e R s m args below meth c H locs cells slots Q (F0 m (pc + 3) ls (.ref (e_aa η j (ix i)) :: rest))) : W p l e R s m args below meth c H locs cells slots Q (F0 m pc ls (.int i :: .ref (e_ad η (1 + j)) :: rest)) := by
  obtain ⟨q1, q2, q3, q4, q5⟩ := hL
  obtain ⟨r1, r2⟩ := ix_lt h1 h2 q1
  have hc : ¬ e_cp η j = 0 := by omega
  have hi : vp_in i (e_cp η j) := by rw [r1]; exact vp_in_nI (by omega) (by omega)
  have hne : 1 + j ≠ pD cO η j := by
    have : 7 ≤ pD cO η j := Nat.le_add_right _ _
    omega
  have e9 : e_rw η j (ix i) = some (e_aa η j (ix i)) := q5 _ r2
  refine N_callQ (As := [.int i]) C hN (K.sub [1] rfl) hl (P.1.two (AL_get hj) (D_get hj hc)) ((P.2.1.two (AL_get hj) (D_get hj hc) hne).weaken (fun _ _ _ _ => trivial)) (va_recv K P.1 (ci := 0) rfl (AL_get hj)) (kJx4a65c_get_915e3 l D (e_ad η (1 + j)) (e_ad η (8 + j)) (e_cp η j) cO (e_rw η j) (.int (e_mc η j)) (σ.1 (csl j)) i h1 h2 hi) fnJx4a65c_get_915e3 rfl g rfl rfl hR hcat hz d ?_
  rw [e9]
  exact kk
theorem G_cast (C : Cx RX6 p s m args meth c cc nL Ts ret) (K : va_K D vwCl (tyG cI cO) s) {ws : va_W} (P : Hp D A s ws H locs) {a ci q0 : Nat} {fs : List Value} (he : ws[q0]? = some (a, .inr (ci, fs))) {q : vw_C} (hc : vwCl[ci]? = some q) {index : Nat} (hlink : Cond.classLink RX6 index q.1 ∈ Ts) (d : decode cc pc = .ok (.checkcast index, 3))
    (kk : W p l e R s m args below meth c H locs cells slots Q (F0 m (pc + 3) ls (.ref a :: rest))) : W p l e R s m args below meth c H locs cells slots Q (F0 m pc ls (.ref a :: rest)) :=
  va_castS C.1 C.2.1 C.2.2.2.1 (C.2.2.2.2.1 _ hlink) (K.1 ci q hc).2 (va_recv K P.1 hc he) d kk
theorem G_bodyI {y : MethodName} {ws : List Cond} {rm : Room} {maxL n : Nat} {bytes : ByteArray} {As : List Value} {Qc : (Nat → Prop) → Array Value → State → Outcome → State → Prop} (hy : y.cls = RX6) (hf : Fn y ws bytes maxL ret n rm 0 0) (hlen : (lg_sl (.ref (e_ad η 0) :: As)).length ≤ maxL)
    (body : ∀ (p : Program) (e : Env) (s : State) (m : MethodId) (args : Array Value) (below : List Frame) (meth : Method) (c : Code), Cx RX6 p s m args meth c bytes maxL ws ret → EnvN s → va_K D vwCl (tyG cI cO) s → ∀ A : Nat → Prop, Hp D A s (G_W cI cO η σ) s.heap [] → ∀ ls : Array Slot, lv_has ls maxL (lv_args 0 (.ref (e_ad η 0) :: As)) →
      W p l e rm s m args below meth c s.heap [] 0 0 (MQ below (Qc A) args s 0 0 A) (F0 m 0 ls [])) (sz : Nat) : Met l y ws rm (va_Pc (.ref (e_ad η 0) :: As) (PreG D cI cO sz (G_W cI cO η σ))) (Qc (va_A (G_W cI cO η σ) sz)) 0 0 (va_A (G_W cI cO η σ) sz) := by
  obtain ⟨⟨ws', hw⟩, -, -, -⟩ := hf
  refine Met.ofW (cc := bytes) (maxL := maxL) (ret := ret) (by rw [hy]; decide) hw ?_
  intro p e s m args below meth c s₁ B hml hv
  obtain ⟨rfl, hsz, hP, hK, hD, hN⟩ := hv
  subst hsz
  have hown : s.vm.findClass RX6 = some m.cls := by rw [← hy]; exact findClass_of_methodNamed B.named
  have hl := lv_entry (.ref (e_ad η 0) :: As) (n := maxL) hlen
  rw [lg_entry_eq]
  exact body p e s m _ below meth c ⟨B.exec, B.bytes, hml, hown, atoms_spec (ws := ws) B.pre, B.returns, B.notSynchronized⟩ hN hK _ ⟨hP, hD.self, va_S.rf, fun q h => Or.inr h⟩ _ hl
theorem G_retI {η' : Eg} {σ' : Sg} {v r : Int32} {A0 : Nat → Prop} {W0 : va_W} (C : Cx RX6 p s m args meth c cc nL Ts (some .int)) (P : Hp D A0 s W0 H locs) (hv : v = r) (hw : W0 = G_W cI cO η' σ') (d : decode cc pc = .ok (.ireturn, 1)) :
    W p l e R s m args below meth c H locs 0 0 (MQ below (va_Qi (fun x (_ : Unit) => x = r) (fun _ t => PicG D A0 (G_W cI cO η' σ') t) A0) args s 0 0 A0) (F0 m pc ls [.int v]) := by
  have hlocks := C.2.2.2.2.2.2
  subst hw
  exact W.iret C.1 C.2.1 C.2.2.2.2.2.1 (fun t ht hW => ⟨⟨v, (), rfl, hv, by show va_P D vwCl _ t.heap; rw [ht]; exact P.1, P.2.1⟩, P.2.2.1.F ht⟩) P.2.2.1.2.2 d
theorem G_retV {η' : Eg} {σ' : Sg} {A0 : Nat → Prop} {W0 : va_W} (C : Cx RX6 p s m args meth c cc nL Ts none) (P : Hp D A0 s W0 H locs) (hw : W0 = G_W cI cO η' σ') (d : decode cc pc = .ok (.return_, 1)) :
    W p l e R s m args below meth c H locs 0 0 (MQ below (va_Qv (fun (_ : Unit) => True) (fun _ t => PicG D A0 (G_W cI cO η' σ') t) A0) args s 0 0 A0) (F0 m pc ls []) := by
  have hlocks := C.2.2.2.2.2.2
  subst hw
  exact W.vret C.1 C.2.1 C.2.2.2.2.2.1 (fun t ht hW => ⟨⟨(), rfl, trivial, by show va_P D vwCl _ t.heap; rw [ht]; exact P.1, P.2.1⟩, P.2.2.1.F ht⟩) P.2.2.1.2.2 d
theorem G_calli {y : MethodName} {ws : List Cond} {rm : Room} {bytes : ByteArray} {maxL n index : Nat} {rty : Option FieldType} {As : List Value} {η' : Eg} {σ' : Sg} {v : Int32} (C : Cx RX6 p s m args meth c cc nL Ts ret) (hN : EnvN s) (K : va_K D vwCl (tyG cI cO) s) (hl : ls.size = nL) (P : Hp D A s (G_W cI cO η σ) H locs) (hM : G_Mi l y ws rm D cI cO η σ η' σ' As v) (hf : Fn y ws bytes maxL rty n rm 0 0)
    (hy : y.cls = RX6) (g : GoodIn Ts (wsV RX6 index RX6 y ws)) (hn : As.length = n) (hst : st0 = As.reverse ++ .ref (e_ad η 0) :: rest) (hR : rm.frames + 1 ≤ R.frames ∧ 8 + (maxL + 11) + rm.locals ≤ R.locals) (hcat : (rest.map fun v => v.category).sum ≤ 8) (hz : cells + 0 ≤ R.cells ∧ slots + 0 ≤ R.slots)
    (d : decode cc pc = .ok (.invokevirtual index, 3)) (kk : ∀ (H : Heap) (locs : List Loc), Hp D A s (G_W cI cO η' σ') H locs → W p l e R s m args below meth c H locs cells slots Q (F0 m (pc + 3) ls (.int v :: rest))) : W p l e R s m args below meth c H locs cells slots Q (F0 m pc ls st0) := by
  obtain ⟨⟨ws', hw⟩, hrc, hrs, hd⟩ := hf
  have hF := va_A_in P.2.1 P.2.2.1 P.2.2.2
  refine va_calli (va_runV C.fix (hM H.size) (cwV n C.2.2.2.2.1 g hw hrc hrs ⟨hy, hd⟩ hR) ⟨preG_blind, va_recv K P.1 (ci := 7) (q0 := 0) rfl rfl, fun U hU hW => ⟨rfl, by rw [hU], by rw [hU]; exact P.1, va_K.moved hW.alike K, P.2.1.weaken (fun _ _ _ _ => trivial), hN.warm hW⟩⟩ rfl hn hl hst (lv_room hcat) d hz) P.2.2.1 (fun q _ h => hF q h) hF (fun r u t H1 locs1 ht hvm hw hB hz1 hk1 hS => ?_)
  obtain ⟨hP1, hD1⟩ := hB
  rw [ht] at hP1
  rw [hw]
  exact kk H1 locs1 ⟨hP1, hD1.weaken (fun _ _ _ h => hF _ h), hS, P.2.2.2⟩
theorem G_callv {y : MethodName} {ws : List Cond} {rm : Room} {bytes : ByteArray} {maxL n index : Nat} {rty : Option FieldType} {As : List Value} {η' : Eg} {σ' : Sg} (C : Cx RX6 p s m args meth c cc nL Ts ret) (hN : EnvN s) (K : va_K D vwCl (tyG cI cO) s) (hl : ls.size = nL) (P : Hp D A s (G_W cI cO η σ) H locs) (hM : G_Mv l y ws rm D cI cO η σ η' σ' As) (hf : Fn y ws bytes maxL rty n rm 0 0)
    (hy : y.cls = RX6) (g : GoodIn Ts (wsV RX6 index RX6 y ws)) (hn : As.length = n) (hst : st0 = As.reverse ++ .ref (e_ad η 0) :: rest) (hR : rm.frames + 1 ≤ R.frames ∧ 8 + (maxL + 11) + rm.locals ≤ R.locals) (hcat : (rest.map fun v => v.category).sum ≤ 8) (hz : cells + 0 ≤ R.cells ∧ slots + 0 ≤ R.slots)
    (d : decode cc pc = .ok (.invokevirtual index, 3)) (kk : ∀ (H : Heap) (locs : List Loc), Hp D A s (G_W cI cO η' σ') H locs → W p l e R s m args below meth c H locs cells slots Q (F0 m (pc + 3) ls rest)) : W p l e R s m args below meth c H locs cells slots Q (F0 m pc ls st0) := by
  obtain ⟨⟨ws', hw⟩, hrc, hrs, hd⟩ := hf
  have hF := va_A_in P.2.1 P.2.2.1 P.2.2.2
  refine va_callv (va_runV C.fix (hM H.size) (cwV n C.2.2.2.2.1 g hw hrc hrs ⟨hy, hd⟩ hR) ⟨preG_blind, va_recv K P.1 (ci := 7) (q0 := 0) rfl rfl, fun U hU hW => ⟨rfl, by rw [hU], by rw [hU]; exact P.1, va_K.moved hW.alike K, P.2.1.weaken (fun _ _ _ _ => trivial), hN.warm hW⟩⟩ rfl hn hl hst (lv_room hcat) d hz) P.2.2.1 (fun q _ h => hF q h) hF (fun u t H1 locs1 ht hvm hw hB hz1 hk1 hS => ?_)
  obtain ⟨hP1, hD1⟩ := hB
  rw [ht] at hP1
  exact kk H1 locs1 ⟨hP1, hD1.weaken (fun _ _ _ h => hF _ h), hS, P.2.2.2⟩
/-! methods that may throw -/
theorem G_bodyX {y : MethodName} {ws : List Cond} {rm : Room} {maxL n : Nat} {bytes : ByteArray} {As : List Value} {Qn : (Nat → Prop) → Array Value → State → Outcome → State → Prop} {k : Int32} (hy : y.cls = RX6) (hf : Fn y ws bytes maxL ret n rm mc ms) (hlen : (lg_sl (.ref (e_ad η 0) :: As)).length ≤ maxL)
    (body : ∀ (p : Program) (e : Env) (s : State) (m : MethodId) (args : Array Value) (below : List Frame) (meth : Method) (c : Code), Cx RX6 p s m args meth c bytes maxL ws ret → EnvV s → va_K D vwCl (tyG cI cO) s → (∀ x ∈ c.exceptionTable.toList, False) → ∀ A : Nat → Prop, EnvH t0 A s s.heap → Hp D A s (G_W cI cO η σ) s.heap [] → ∀ ls : Array Slot, lv_has ls maxL (lv_args 0 (.ref (e_ad η 0) :: As)) →
      W p l e rm s m args below meth c s.heap [] 0 0 (vx_MQ below (Qn A) (G_XC D cI cO η σ k A) args s mc ms A) (F0 m 0 ls [])) : G_X l y ws rm D cI cO t0 η σ As Qn k mc ms := by
  intro sz
  obtain ⟨⟨ws', hw⟩, -, -, -⟩ := hf
  refine vx_ofW (cc := bytes) (maxL := maxL) (ret := ret) (by rw [hy]; decide) hw ?_
  intro p e s m args below meth c s₁ B hml hnx hv
  obtain ⟨rfl, hsz, hP, hK, hD, hV, hH⟩ := hv
  subst hsz
  have hown : s.vm.findClass RX6 = some m.cls := by rw [← hy]; exact findClass_of_methodNamed B.named
  have hl := lv_entry (.ref (e_ad η 0) :: As) (n := maxL) hlen
  rw [lg_entry_eq]
  exact body p e s m _ below meth c ⟨B.exec, B.bytes, hml, hown, atoms_spec (ws := ws) B.pre, B.returns, B.notSynchronized⟩ hV hK hnx _ hH ⟨hP, hD.self, va_S.rf, fun q h => Or.inr h⟩ _ hl
theorem G_throwG {cls : String} {k : Int32} {ik ic is : Nat} {text : String} {Qn : Array Value → State → Outcome → State → Prop} (C : Cx RX6 p s m args meth c cc nL Ts ret) (hl9 : l.stackTraces = false) (V : EnvV s) (hnx : ∀ x ∈ c.exceptionTable.toList, False) (E9 : EnvH t0 A s s.heap) (P : Hp D A s (G_W cI cO η σ) H locs) (hl : ls.size = nL) (hcls : cls = xn k) (hk0 : ¬ k = 0)
    (hot : (∀ w ∈ Cond.classLink RX6 ik cls :: Cond.initialized cls :: vx_atS RX6 ic cls xnames, vx_ot w = true) ∧ ∀ w ∈ (vx_atS RX6 ic cls xnames).filter (fun w => !goodWord w), w ∈ [Cond.castable cls cls, Cond.declares (Bundle.initS Bundle.tN), Cond.declares (Bundle.initS "java/lang/RuntimeException"), Cond.declares (Bundle.initS "java/lang/Exception")]) (hca : ∀ w ∈ [Cond.castable cls cls, Cond.declares (Bundle.initS Bundle.tN), Cond.declares (Bundle.initS "java/lang/RuntimeException"), Cond.declares (Bundle.initS "java/lang/Exception")], w ∈ NWl)
    (hw1 : Cond.classLink RX6 ik cls ∈ Ts) (hw2 : Cond.initialized cls ∈ Ts) (hw3 : ∀ w ∈ (vx_atS RX6 ic cls xnames).filter goodWord, w ∈ Ts) (hs : (is, text) ∈ SRl) 
    (d0 : decode cc pc = .ok (.new ik, 3)) (d3 : decode cc (pc + 3) = .ok (.dup, 1)) (d4 : decode cc (pc + 4) = .ok (.ldc is, 2)) (d6 : decode cc (pc + 6) = .ok (.invokespecial ic, 3)) (d9 : decode cc (pc + 9) = .ok (.athrow, 1))
    (hR : 5 < R.frames ∧ (rest.map fun v => v.category).sum + 82 ≤ R.locals) (hz : cells + 1 ≤ R.cells ∧ slots + 6 ≤ R.slots) (hm : cells + 1 ≤ mc ∧ slots + 6 ≤ ms) :
    W p l e R s m args below meth c H locs cells slots (vx_MQ below Qn (G_XC D cI cO η σ k A) args s mc ms A) (F0 m pc ls rest) := by
  obtain ⟨sa, hsa⟩ := V.2.1 _ hs
  have hat : ∀ w ∈ vx_atS RX6 ic cls xnames, w.before args s = true := vx_hat (fun w h => C.2.2.2.2.1 _ (hw3 w h)) hot.2 (fun w hw => va_Nw.use (nw_tabs (NWl_ok w (hca w hw))) (V.1 w (hca w hw)))
  subst hcls
  refine vx_throwS C.1 C.2.1 hl9 C.2.2.2.1 (xn_fit k) xnames_fit (C.2.2.2.2.1 _ hw1) (C.2.2.2.2.1 _ hw2) hsa hat hot.1 E9.1 E9.2.1 P.2.2.1 (hl.trans C.2.2.1.symm) d0 d3 d4 d6 d9 (fun x hx => (hnx x hx).elim) hR.1 hR.2 hz.1 hz.2 C.2.2.2.2.2.2 ?_ P.2.2.1.2.2 hm.1 hm.2
  intro t hvm hsz hq
  refine ⟨(), hk0, ⟨rfl, P.1.kept (fun j q hj => hq q.1 (P.1 j q hj).lt), P.2.1⟩, Nat.le_trans P.2.2.1.1 hsz, fun q h1 h2 => (hq q (Nat.lt_of_lt_of_le h1 P.2.2.1.1)).trans (P.2.2.1.2.1 q h1 h2)⟩
theorem G_throwW {cls : String} {k : Int32} {ik ic is : Nat} {text : String} {Qn : Array Value → State → Outcome → State → Prop} (C : Cx RX6 p s m args meth c cc nL Ts ret) (hl9 : l.stackTraces = false) (V : EnvV s) (hnx : ∀ x ∈ c.exceptionTable.toList, False) (E9 : EnvH t0 A s s.heap) (P : Hp D A s (G_W cI cO η σ) H locs) (hl : ls.size = nL) (hcls : cls = xn k) (hk0 : ¬ k = 0)
    (hot : (∀ w ∈ Cond.classLink RX6 ik cls :: Cond.initialized cls :: vx_atS RX6 ic cls xnames, vx_ot w = true) ∧ ∀ w ∈ (vx_atS RX6 ic cls xnames).filter (fun w => !goodWord w), w ∈ [Cond.castable cls cls, Cond.declares (Bundle.initS Bundle.tN), Cond.declares (Bundle.initS "java/lang/RuntimeException"), Cond.declares (Bundle.initS "java/lang/Exception")]) (hca : ∀ w ∈ [Cond.castable cls cls, Cond.declares (Bundle.initS Bundle.tN), Cond.declares (Bundle.initS "java/lang/RuntimeException"), Cond.declares (Bundle.initS "java/lang/Exception")], w ∈ NWl)
    (hw1 : Cond.classLink RX6 ik cls ∈ Ts) (hw2 : Cond.initialized cls ∈ Ts) (hw3 : ∀ w ∈ (vx_atS RX6 ic cls xnames).filter goodWord, w ∈ Ts) (hs : (is, text) ∈ SRl) 
    (d0 : decode cc pc = .ok (.new ik, 3)) (d3 : decode cc (pc + 3) = .ok (.dup, 1)) (d4 : decode cc (pc + 4) = .ok (.ldc_w is, 3)) (d7 : decode cc (pc + 7) = .ok (.invokespecial ic, 3)) (d10 : decode cc (pc + 10) = .ok (.athrow, 1))
    (hR : 5 < R.frames ∧ (rest.map fun v => v.category).sum + 82 ≤ R.locals) (hz : cells + 1 ≤ R.cells ∧ slots + 6 ≤ R.slots) (hm : cells + 1 ≤ mc ∧ slots + 6 ≤ ms) :
    W p l e R s m args below meth c H locs cells slots (vx_MQ below Qn (G_XC D cI cO η σ k A) args s mc ms A) (F0 m pc ls rest) := by
  obtain ⟨sa, hsa⟩ := V.2.1 _ hs
  have hat : ∀ w ∈ vx_atS RX6 ic cls xnames, w.before args s = true := vx_hat (fun w h => C.2.2.2.2.1 _ (hw3 w h)) hot.2 (fun w hw => va_Nw.use (nw_tabs (NWl_ok w (hca w hw))) (V.1 w (hca w hw)))
  subst hcls
  refine vx_throwSW C.1 C.2.1 hl9 C.2.2.2.1 (xn_fit k) xnames_fit (C.2.2.2.2.1 _ hw1) (C.2.2.2.2.1 _ hw2) hsa hat hot.1 E9.1 E9.2.1 P.2.2.1 (hl.trans C.2.2.1.symm) d0 d3 d4 d7 d10 (fun x hx => (hnx x hx).elim) hR.1 hR.2 hz.1 hz.2 C.2.2.2.2.2.2 ?_ P.2.2.1.2.2 hm.1 hm.2
  intro t hvm hsz hq
  refine ⟨(), hk0, ⟨rfl, P.1.kept (fun j q hj => hq q.1 (P.1 j q hj).lt), P.2.1⟩, Nat.le_trans P.2.2.1.1 hsz, fun q h1 h2 => (hq q (Nat.lt_of_lt_of_le h1 P.2.2.1.1)).trans (P.2.2.1.2.1 q h1 h2)⟩
end GR
