/-! ===== state of the reference: the scalars by their slots, the rows by their slots ===== -/
abbrev Sg : Type := (Nat → Int32) × (Nat → Nat → Int32)
def zs (σ : Sg) (k : Nat) (v : Int32) : Sg := (upd σ.1 k v, σ.2)
def bs (σ : Sg) (k i : Nat) (v : Int32) : Sg := (σ.1, fun j => if j = k then upd (σ.2 k) i v else σ.2 j)
abbrev ix (i : Int32) : Nat := i.toNatClampNeg
/-- what a walk of a method stands on -/
def Cx (own : String) (p : Program) (s : State) (m : MethodId) (args : Array Value) (meth : Method) (c : Code) (cc : ByteArray) (nL : Nat) (Ts : List Cond) (ret : Option FieldType) : Prop :=
  p.tables.exec = Jvm.exec ∧ c.code = cc ∧ c.maxLocals = nL ∧ s.vm.findClass own = some m.cls ∧ (∀ w ∈ Ts, w.before args s = true) ∧ meth.sig.returnType = ret ∧ meth.locks = false
/-- the heap holds a world -/
def Hp (D : va_G) (A : Nat → Prop) (s : State) (ws : va_W) (H : Heap) (locs : List Loc) : Prop := va_P D vwCl ws H ∧ va_D A ws ∧ va_S A s.heap H locs ∧ ∀ q, s.heap.size ≤ q → A q
def Pic (D : va_G) (tys : List (ClassId × FieldType)) (A : Nat → Prop) (ws : va_W) (t : State) : Prop := va_P D vwCl ws t.heap ∧ va_K D vwCl tys t ∧ va_D A ws
def PreW (D : va_G) (tys : List (ClassId × FieldType)) (sz : Nat) (ws : va_W) (U : State) : Prop := U.heap.size = sz ∧ va_P D vwCl ws U.heap ∧ va_K D vwCl tys U ∧ va_D (fun _ => True) ws
/-- a callee's code, its place among its words, its arguments -/
def Fn (y : MethodName) (ws : List Cond) (bytes : ByteArray) (maxL : Nat) (ret : Option FieldType) (n : Nat) (rm : Room) (mc ms : Nat) : Prop :=
  (∃ ws', ws = Cond.code y bytes maxL ret :: ws') ∧ rm.cells = mc ∧ rm.slots = ms ∧ (y.cls ≠ "java/lang/invoke/MethodHandle" ∧ y.cls ≠ "java/lang/invoke/VarHandle" ∧ (parseMethodDescriptor y.desc).map (fun d => d.parameters.length) = some n)
theorem va_A_in {A : Nat → Prop} {ws : va_W} {H0 H : Heap} {locs : List Loc} (hD : va_D A ws) (hS : va_S A H0 H locs) (hA : ∀ q, H0.size ≤ q → A q) : ∀ q, va_A ws H.size q → A q := by
  intro q h
  rcases h with ⟨k, e, hk⟩ | h
  · exact hD.2 k _ hk
  · exact hA q (Nat.le_trans hS.1 h)
theorem preW_blind {D : va_G} {tys : List (ClassId × FieldType)} {sz : Nat} {ws : va_W} {As : List Value} : FrameBlind (va_Pc As (PreW D tys sz ws)) := fun a U g mk q => by
  obtain ⟨q0, q1, qP, qK, qD⟩ := q
  exact ⟨q0, q1, qP, va_K.moved (u := U) (U := U.calling g mk a) (Vm.Alike.refl U.vm) qK, qD⟩
section CR
variable {p : Program} {l : Launch} {e : Env} {R : Room} {s : State} {m : MethodId} {args : Array Value} {below : List Frame} {meth : Method} {c : Code} {H : Heap} {locs : List Loc} {cells slots : Nat} {Q : State → Prop} {cc : ByteArray} {pc : Nat} {ls : Array Slot} {rest st0 : List Value} {Ts : List Cond} {nL : Nat} {D : va_G} {A : Nat → Prop} {ret : Option FieldType} {own : String} {tys : List (ClassId × FieldType)}
theorem Cx.fix (C : Cx own p s m args meth c cc nL Ts ret) : CallFix p m c cc nL s args Ts own := ⟨C.1, C.2.1, C.2.2.1, C.2.2.2.1, C.2.2.2.2.1⟩
/-! a static method that touches nothing: its answer is r -/
def S_Met (l : Launch) (y : MethodName) (ws : List Cond) (rm : Room) (As : List Value) (r : Int32) : Prop :=
  Met l y ws rm (va_Pc As (fun _ => True)) (vp_Si (fun x => x = r)) 0 0 (fun _ => False)
theorem S_of {y : MethodName} {ws : List Cond} {rm : Room} {maxL n : Nat} {bytes : ByteArray} {As : List Value} {r : Int32} (own : String) (hy : plainName y.cls = true) (hf : Fn y ws bytes maxL ret n rm 0 0) (hcls : y.cls = own) (hlen : (lg_sl As).length ≤ maxL)
    (body : ∀ (p : Program) (e : Env) (s : State) (m : MethodId) (args : Array Value) (below : List Frame) (meth : Method) (c : Code), Cx own p s m args meth c bytes maxL ws ret → ∀ ls : Array Slot, lv_has ls maxL (lv_args 0 As) →
      W p l e rm s m args below meth c s.heap [] 0 0 (MQ below (vp_Si (fun x => x = r)) args s 0 0 (fun _ => False)) (F0 m 0 ls [])) : S_Met l y ws rm As r := by
  obtain ⟨⟨ws', hw⟩, -, -, -⟩ := hf
  refine Met.ofW (cc := bytes) (maxL := maxL) (ret := ret) hy hw ?_
  intro p e s m args below meth c s₁ B hml hv
  obtain ⟨rfl, -⟩ := hv
  have hown : s.vm.findClass own = some m.cls := by rw [← hcls]; exact findClass_of_methodNamed B.named
  have hl := lv_entry As (n := maxL) hlen
  rw [lg_entry_eq]
  exact body p e s m _ below meth c ⟨B.exec, B.bytes, hml, hown, atoms_spec (ws := ws) B.pre, B.returns, B.notSynchronized⟩ _ hl
theorem S_call {y : MethodName} {ws : List Cond} {rm : Room} {bytes : ByteArray} {maxL n index : Nat} {rty : Option FieldType} {As : List Value} {r : Int32} (C : Cx own p s m args meth c cc nL Ts ret) (hl : ls.size = nL) (hM : S_Met l y ws rm As r) (hf : Fn y ws bytes maxL rty n rm 0 0)
    (g : GoodIn Ts (va_wsS own index y ws)) (hn : As.length = n) (hst : st0 = As.reverse ++ rest) (hR : rm.frames + 1 ≤ R.frames ∧ 8 + (maxL + 11) + rm.locals ≤ R.locals) (hcat : (rest.map fun v => v.category).sum ≤ 8) (hz : cells + 0 ≤ R.cells ∧ slots + 0 ≤ R.slots)
    (d : decode cc pc = .ok (.invokestatic index, 3)) (kk : W p l e R s m args below meth c H locs cells slots Q (F0 m (pc + 3) ls (.int r :: rest))) : W p l e R s m args below meth c H locs cells slots Q (F0 m pc ls st0) := by
  obtain ⟨⟨ws', hw⟩, hrc, hrs, hd⟩ := hf
  refine vp_callSi (W.runS C.fix hM (va_cwS n C.2.2.2.2.1 g hw hrc hrs hd hR) ⟨fun a U g mk q => ⟨q.1, trivial⟩, fun U _ _ => ⟨rfl, trivial⟩⟩ rfl hn hl hst (lv_room hcat) d hz) ?_
  intro r' hr'
  rw [hr']
  exact kk
theorem S_ret {r v : Int32} (C : Cx own p s m args meth c cc nL Ts (some .int)) (hv : v = r) (d : decode cc pc = .ok (.ireturn, 1)) :
    W p l e R s m args below meth c s.heap [] 0 0 (MQ below (vp_Si (fun x => x = r)) args s 0 0 (fun _ => False)) (F0 m pc ls [.int v]) := by
  have hlocks := C.2.2.2.2.2.2
  exact W.iret C.1 C.2.1 C.2.2.2.2.2.1 (fun t ht _ => ⟨v, rfl, hv, ht⟩) (fun q h => by cases h) d
theorem S_retz {r v : Int32} (C : Cx own p s m args meth c cc nL Ts (some .boolean)) (hv : v = r) (hn : narrow .boolean (.int v) = .int v) (d : decode cc pc = .ok (.ireturn, 1)) :
    W p l e R s m args below meth c s.heap [] 0 0 (MQ below (vp_Si (fun x => x = r)) args s 0 0 (fun _ => False)) (F0 m pc ls [.int v]) := by
  have hlocks := C.2.2.2.2.2.2
  exact W.zret C.1 C.2.1 C.2.2.2.2.2.1 hn (fun t ht _ => ⟨v, rfl, hv, ht⟩) (fun q h => by cases h) d
/-! fields and rows of any world -/
theorem x_get (C : Cx own p s m args meth c cc nL Ts ret) (K : va_K D vwCl tys s) {ws : va_W} (P : Hp D A s ws H locs) {a ci : Nat} {fs : List Value} (q0 : Nat) (he : ws[q0]? = some (a, .inr (ci, fs))) {Cn : String} {T : u_T} {N : Nat} (hc : vwCl[ci]? = some (Cn, T, N)) (hin : ∀ w ∈ u_ws Cn T N, w ∈ Ts) (k : Nat) (hk : k < N) {index : Nat}
    (hlink : Cond.fieldLink own index (T k).1 (T k).2.1 (T k).2.2.1 ∈ Ts) {v : Value} (hv : fs[k]? = some v) (d : decode cc pc = .ok (.getfield index, 3)) (kk : W p l e R s m args below meth c H locs cells slots Q (F0 m (pc + 3) ls (v :: rest))) : W p l e R s m args below meth c H locs cells slots Q (F0 m pc ls (.ref a :: rest)) :=
  va_get C.1 C.2.1 C.2.2.2.2.1 hin C.2.2.2.1 K P.1 q0 he hc k hk (C.2.2.2.2.1 _ hlink) (fun _ h => h) hv d kk
theorem x_put (C : Cx own p s m args meth c cc nL Ts ret) (K : va_K D vwCl tys s) {ws : va_W} (P : Hp D A s ws H locs) {a ci : Nat} {fs : List Value} (q0 : Nat) (he : ws[q0]? = some (a, .inr (ci, fs))) {Cn : String} {T : u_T} {N : Nat} (hc : vwCl[ci]? = some (Cn, T, N)) (hin : ∀ w ∈ u_ws Cn T N, w ∈ Ts)
    {ty0 : Nat → FieldType} (hty : ∀ k, k < N → parseFieldDescriptor (T k).2.2.1 = some (ty0 k)) (hnm : ∀ a, a < N → ∀ b, b < N → a ≠ b → (T a).2.1 ≠ (T b).2.1) (k : Nat) (hk : k < N) {index : Nat}
    (hlink : Cond.fieldLink own index (T k).1 (T k).2.1 (T k).2.2.1 ∈ Ts) (hfin : (T k).2.2.2 = false) {v : Value} (hn : narrow (ty0 k) v = v) (hfit : fits (ty0 k) v = true) (hlen : k < fs.length) (d : decode cc pc = .ok (.putfield index, 3))
    (kk : ∀ (H : Heap) (locs : List Loc), Hp D A s (ws.set q0 (a, .inr (ci, fs.set k v))) H locs → W p l e R s m args below meth c H locs cells slots Q (F0 m (pc + 3) ls rest)) : W p l e R s m args below meth c H locs cells slots Q (F0 m pc ls (v :: .ref a :: rest)) :=
  va_put C.1 C.2.1 C.2.2.2.2.1 hin ty0 hty hnm C.2.2.2.1 K P.1 P.2.1 P.2.2.1 q0 he hc k hk (C.2.2.2.2.1 _ hlink) (fun _ h => h) hfin (hty k hk) hn hfit hlen d (fun H1 locs1 h1 h2 h3 => kk H1 locs1 ⟨h1, h2, h3, P.2.2.2⟩)
end CR
