/-! ===== state of the reference: the scalars by their slots, the rows by their slots ===== -/
abbrev Sg : Type := (Nat → Int32) × (Nat → Nat → Int32)
def zs (σ : Sg) (k : Nat) (v : Int32) : Sg := (upd σ.1 k v, σ.2)
def bs (σ : Sg) (k i : Nat) (v : Int32) : Sg := (σ.1, fun j => if j = k then upd (σ.2 k) i v else σ.2 j)
abbrev ix (i : Int32) : Nat := i.toNatClampNeg
def M_fs (as : Nat → Nat) (th : Int32) (σ : Sg) : List Value := [.int th, .int (σ.1 1), .int (σ.1 2), .ref (as 3), .ref (as 4), .ref (as 5), .ref (as 6), .ref (as 7), .int (σ.1 8), .int (σ.1 9), .ref (as 10), .int (σ.1 11), .int (σ.1 12), .int (σ.1 13), .int (σ.1 14), .int (σ.1 15), .int (σ.1 16), .int (σ.1 17), .int (σ.1 18), .ref (as 19), .ref (as 20), .int (σ.1 21), .int (σ.1 22), .ref (as 23), .ref (as 24), .ref (as 25), .ref (as 26), .ref (as 27)]
def M_W (cI : ClassId) (m0 : Nat) (as : Nat → Nat) (th : Int32) (σ : Sg) : va_W := [(m0, .inr (8, M_fs as th σ)), (as 3, .inl (cI, 10, .inl (σ.2 3))), (as 4, .inl (cI, 10, .inl (σ.2 4))), (as 5, .inl (cI, 10, .inl (σ.2 5))), (as 6, .inl (cI, 10, .inl (σ.2 6))), (as 7, .inl (cI, 4, .inl (σ.2 7))), (as 10, .inl (cI, 8, .inl (σ.2 10))), (as 19, .inl (cI, 100, .inl (σ.2 19))), (as 20, .inl (cI, 100, .inl (σ.2 20))), (as 23, .inl (cI, 30, .inl (σ.2 23))), (as 24, .inl (cI, 30, .inl (σ.2 24))), (as 25, .inl (cI, 30, .inl (σ.2 25))), (as 26, .inl (cI, 30, .inl (σ.2 26))), (as 27, .inl (cI, 30, .inl (σ.2 27)))]
/-- what a walk of a method stands on -/
def Cx (own : String) (p : Program) (s : State) (m : MethodId) (args : Array Value) (meth : Method) (c : Code) (cc : ByteArray) (nL : Nat) (Ts : List Cond) (ret : Option FieldType) : Prop :=
  p.tables.exec = Jvm.exec ∧ c.code = cc ∧ c.maxLocals = nL ∧ s.vm.findClass own = some m.cls ∧ (∀ w ∈ Ts, w.before args s = true) ∧ meth.sig.returnType = ret ∧ meth.locks = false
/-- the heap holds a world -/
def Hp (D : va_G) (A : Nat → Prop) (s : State) (ws : va_W) (H : Heap) (locs : List Loc) : Prop := va_P D vwCl ws H ∧ va_D A ws ∧ va_S A s.heap H locs ∧ ∀ q, s.heap.size ≤ q → A q
def Pic (D : va_G) (tys : List (ClassId × FieldType)) (A : Nat → Prop) (ws : va_W) (t : State) : Prop := va_P D vwCl ws t.heap ∧ va_K D vwCl tys t ∧ va_D A ws
def PreW (D : va_G) (tys : List (ClassId × FieldType)) (sz : Nat) (ws : va_W) (U : State) : Prop := U.heap.size = sz ∧ va_P D vwCl ws U.heap ∧ va_K D vwCl tys U ∧ va_D (fun _ => True) ws
/-- a callee's code, its place among its words, its arguments -/
def Fn (y : MethodName) (ws : List Cond) (bytes : ByteArray) (maxL : Nat) (ret : Option FieldType) (n : Nat) (rm : Room) (mc ms : Nat) : Prop :=
  (∃ ws', ws = Cond.code y bytes maxL ret :: ws') ∧ rm.cells = mc ∧ rm.slots = ms ∧ (y.cls ≠ "java/lang/invoke/MethodHandle" ∧ y.cls ≠ "java/lang/invoke/VarHandle" ∧ (parseMethodDescriptor y.desc).map (fun d => d.parameters.length) = some n)
theorem va_A_in {A : Nat → Prop} {ws : va_W} {H0 H : Heap} {locs : List Loc} (hD : va_D A ws) (hS : va_S A H0 H locs) (hA : ∀ q, H0.size ≤ q → A q) : ∀ q, va_A ws H.size q → A q := by
  intro q h
  rcases h with ⟨k, e, hk⟩ | h
  · exact hD.2 k _ hk
  · exact hA q (Nat.le_trans hS.1 h)
theorem preW_blind {D : va_G} {tys : List (ClassId × FieldType)} {sz : Nat} {ws : va_W} {As : List Value} : FrameBlind (va_Pc As (PreW D tys sz ws)) := fun a U g mk q => by
  obtain ⟨q0, q1, qP, qK, qD⟩ := q
  exact ⟨q0, q1, qP, va_K.moved (u := U) (U := U.calling g mk a) (Vm.Alike.refl U.vm) qK, qD⟩
section CR
variable {p : Program} {l : Launch} {e : Env} {R : Room} {s : State} {m : MethodId} {args : Array Value} {below : List Frame} {meth : Method} {c : Code} {H : Heap} {locs : List Loc} {cells slots : Nat} {Q : State → Prop} {cc : ByteArray} {pc : Nat} {ls : Array Slot} {rest st0 : List Value} {Ts : List Cond} {nL : Nat} {D : va_G} {A : Nat → Prop} {ret : Option FieldType} {own : String} {tys : List (ClassId × FieldType)}
theorem Cx.fix (C : Cx own p s m args meth c cc nL Ts ret) : CallFix p m c cc nL s args Ts own := ⟨C.1, C.2.1, C.2.2.1, C.2.2.2.1, C.2.2.2.2.1⟩
/-! a static method that touches nothing: its answer is r -/
def S_Met (l : Launch) (y : MethodName) (ws : List Cond) (rm : Room) (As : List Value) (r : Int32) : Prop :=
  Met l y ws rm (va_Pc As (fun _ => True)) (vp_Si (fun x => x = r)) 0 0 (fun _ => False)
theorem S_of {y : MethodName} {ws : List Cond} {rm : Room} {maxL n : Nat} {bytes : ByteArray} {As : List Value} {r : Int32} (own : String) (hy : plainName y.cls = true) (hf : Fn y ws bytes maxL ret n rm 0 0) (hcls : y.cls = own) (hlen : (lg_sl As).length ≤ maxL)
    (body : ∀ (p : Program) (e : Env) (s : State) (m : MethodId) (args : Array Value) (below : List Frame) (meth : Method) (c : Code), Cx own p s m args meth c bytes maxL ws ret → ∀ ls : Array Slot, lv_has ls maxL (lv_args 0 As) →
      W p l e rm s m args below meth c s.heap [] 0 0 (MQ below (vp_Si (fun x => x = r)) args s 0 0 (fun _ => False)) (F0 m 0 ls [])) : S_Met l y ws rm As r := by
  obtain ⟨⟨ws', hw⟩, -, -, -⟩ := hf
  refine Met.ofW (cc := bytes) (maxL := maxL) (ret := ret) hy hw ?_
  intro p e s m args below meth c s₁ B hml hv
  obtain ⟨rfl, -⟩ := hv
  have hown : s.vm.findClass own = some m.cls := by rw [← hcls]; exact findClass_of_methodNamed B.named
  have hl := lv_entry As (n := maxL) hlen
  rw [lg_entry_eq]
  exact body p e s m _ below meth c ⟨B.exec, B.bytes, hml, hown, atoms_spec (ws := ws) B.pre, B.returns, B.notSynchronized⟩ _ hl
theorem S_call {y : MethodName} {ws : List Cond} {rm : Room} {bytes : ByteArray} {maxL n index : Nat} {rty : Option FieldType} {As : List Value} {r : Int32} (C : Cx own p s m args meth c cc nL Ts ret) (hl : ls.size = nL) (hM : S_Met l y ws rm As r) (hf : Fn y ws bytes maxL rty n rm 0 0)
    (g : GoodIn Ts (va_wsS own index y ws)) (hn : As.length = n) (hst : st0 = As.reverse ++ rest) (hR : rm.frames + 1 ≤ R.frames ∧ 8 + (maxL + 11) + rm.locals ≤ R.locals) (hcat : (rest.map fun v => v.category).sum ≤ 8) (hz : cells + 0 ≤ R.cells ∧ slots + 0 ≤ R.slots)
    (d : decode cc pc = .ok (.invokestatic index, 3)) (kk : W p l e R s m args below meth c H locs cells slots Q (F0 m (pc + 3) ls (.int r :: rest))) : W p l e R s m args below meth c H locs cells slots Q (F0 m pc ls st0) := by
  obtain ⟨⟨ws', hw⟩, hrc, hrs, hd⟩ := hf
  refine vp_callSi (W.runS C.fix hM (va_cwS n C.2.2.2.2.1 g hw hrc hrs hd hR) ⟨fun a U g mk q => ⟨q.1, trivial⟩, fun U _ _ => ⟨rfl, trivial⟩⟩ rfl hn hl hst (lv_room hcat) d hz) ?_
  intro r' hr'
  rw [hr']
  exact kk
theorem S_ret {r v : Int32} (C : Cx own p s m args meth c cc nL Ts (some .int)) (hv : v = r) (d : decode cc pc = .ok (.ireturn, 1)) :
    W p l e R s m args below meth c s.heap [] 0 0 (MQ below (vp_Si (fun x => x = r)) args s 0 0 (fun _ => False)) (F0 m pc ls [.int v]) := by
  have hlocks := C.2.2.2.2.2.2
  exact W.iret C.1 C.2.1 C.2.2.2.2.2.1 (fun t ht _ => ⟨v, rfl, hv, ht⟩) (fun q h => by cases h) d
theorem S_retz {r v : Int32} (C : Cx own p s m args meth c cc nL Ts (some .boolean)) (hv : v = r) (hn : narrow .boolean (.int v) = .int v) (d : decode cc pc = .ok (.ireturn, 1)) :
    W p l e R s m args below meth c s.heap [] 0 0 (MQ below (vp_Si (fun x => x = r)) args s 0 0 (fun _ => False)) (F0 m pc ls [.int v]) := by
  have hlocks := C.2.2.2.2.2.2
  exact W.zret C.1 C.2.1 C.2.2.2.2.2.1 hn (fun t ht _ => ⟨v, rfl, hv, ht⟩) (fun q h => by cases h) d
/-! fields and rows of any world -/
theorem x_get (C : Cx own p s m args meth c cc nL Ts ret) (K : va_K D vwCl tys s) {ws : va_W} (P : Hp D A s ws H locs) {a ci : Nat} {fs : List Value} (q0 : Nat) (he : ws[q0]? = some (a, .inr (ci, fs))) {Cn : String} {T : u_T} {N : Nat} (hc : vwCl[ci]? = some (Cn, T, N)) (hin : ∀ w ∈ u_ws Cn T N, w ∈ Ts) (k : Nat) (hk : k < N) {index : Nat}
    (hlink : Cond.fieldLink own index (T k).1 (T k).2.1 (T k).2.2.1 ∈ Ts) {v : Value} (hv : fs[k]? = some v) (d : decode cc pc = .ok (.getfield index, 3)) (kk : W p l e R s m args below meth c H locs cells slots Q (F0 m (pc + 3) ls (v :: rest))) : W p l e R s m args below meth c H locs cells slots Q (F0 m pc ls (.ref a :: rest)) :=
  va_get C.1 C.2.1 C.2.2.2.2.1 hin C.2.2.2.1 K P.1 q0 he hc k hk (C.2.2.2.2.1 _ hlink) (fun _ h => h) hv d kk
theorem x_put (C : Cx own p s m args meth c cc nL Ts ret) (K : va_K D vwCl tys s) {ws : va_W} (P : Hp D A s ws H locs) {a ci : Nat} {fs : List Value} (q0 : Nat) (he : ws[q0]? = some (a, .inr (ci, fs))) {Cn : String} {T : u_T} {N : Nat} (hc : vwCl[ci]? = some (Cn, T, N)) (hin : ∀ w ∈ u_ws Cn T N, w ∈ Ts)
    {ty0 : Nat → FieldType} (hty : ∀ k, k < N → parseFieldDescriptor (T k).2.2.1 = some (ty0 k)) (hnm : ∀ a, a < N → ∀ b, b < N → a ≠ b → (T a).2.1 ≠ (T b).2.1) (k : Nat) (hk : k < N) {index : Nat}
    (hlink : Cond.fieldLink own index (T k).1 (T k).2.1 (T k).2.2.1 ∈ Ts) (hfin : (T k).2.2.2 = false) {v : Value} (hn : narrow (ty0 k) v = v) (hfit : fits (ty0 k) v = true) (hlen : k < fs.length) (d : decode cc pc = .ok (.putfield index, 3))
    (kk : ∀ (H : Heap) (locs : List Loc), Hp D A s (ws.set q0 (a, .inr (ci, fs.set k v))) H locs → W p l e R s m args below meth c H locs cells slots Q (F0 m (pc + 3) ls rest)) : W p l e R s m args below meth c H locs cells slots Q (F0 m pc ls (v :: .ref a :: rest)) :=
  va_put C.1 C.2.1 C.2.2.2.2.1 hin ty0 hty hnm C.2.2.2.1 K P.1 P.2.1 P.2.2.1 q0 he hc k hk (C.2.2.2.2.1 _ hlink) (fun _ h => h) hfin (hty k hk) hn hfit hlen d (fun H1 locs1 h1 h2 h3 => kk H1 locs1 ⟨h1, h2, h3, P.2.2.2⟩)
end CR
/-! ===== rows of the reference ===== -/
def Mx (B : Prop) (p : Program) (s : State) (m : MethodId) (args : Array Value) (meth : Method) (c : Code) (cc : ByteArray) (nL : Nat) (Ts : List Cond) (ret : Option FieldType) (D : va_G) (cI : ClassId) : Prop :=
  Cx RX7 p s m args meth c cc nL Ts ret ∧ B ∧ va_K D vwCl [(cI, .int)] s
abbrev M_Qi (D : va_G) (cI : ClassId) (m0 : Nat) (as : Nat → Nat) (f : Int32 × Int32 × Sg) (A : Nat → Prop) : Array Value → State → Outcome → State → Prop := va_Qi (fun r (_ : Unit) => r = f.2.1) (fun _ t => Pic D [(cI, .int)] A (M_W cI m0 as f.1 f.2.2) t) A
abbrev M_Qv (D : va_G) (cI : ClassId) (m0 : Nat) (as : Nat → Nat) (f : Int32 × Int32 × Sg) (A : Nat → Prop) : Array Value → State → Outcome → State → Prop := va_Qv (fun (_ : Unit) => True) (fun _ t => Pic D [(cI, .int)] A (M_W cI m0 as f.1 f.2.2) t) A
def M_Mi (l : Launch) (y : MethodName) (ws : List Cond) (rm : Room) (D : va_G) (cI : ClassId) (m0 : Nat) (as : Nat → Nat) (th : Int32) (σ : Sg) (As : List Value) (f : Int32 × Int32 × Sg) : Prop :=
  ∀ sz : Nat, Met l y ws rm (va_Pc (.ref m0 :: As) (PreW D [(cI, .int)] sz (M_W cI m0 as th σ))) (M_Qi D cI m0 as f (va_A (M_W cI m0 as th σ) sz)) 0 0 (va_A (M_W cI m0 as th σ) sz)
def M_Mv (l : Launch) (y : MethodName) (ws : List Cond) (rm : Room) (D : va_G) (cI : ClassId) (m0 : Nat) (as : Nat → Nat) (th : Int32) (σ : Sg) (As : List Value) (f : Int32 × Int32 × Sg) : Prop :=
  ∀ sz : Nat, Met l y ws rm (va_Pc (.ref m0 :: As) (PreW D [(cI, .int)] sz (M_W cI m0 as th σ))) (M_Qv D cI m0 as f (va_A (M_W cI m0 as th σ) sz)) 0 0 (va_A (M_W cI m0 as th σ) sz)
section MR
variable {p : Program} {l : Launch} {e : Env} {R : Room} {s : State} {m : MethodId} {args : Array Value} {below : List Frame} {meth : Method} {c : Code} {H : Heap} {locs : List Loc} {cells slots : Nat} {Q : State → Prop} {cc : ByteArray} {pc : Nat} {ls : Array Slot} {rest st0 : List Value} {Ts : List Cond} {nL : Nat} {D : va_G} {A : Nat → Prop} {ret : Option FieldType} {cI : ClassId} {m0 : Nat} {as : Nat → Nat} {th : Int32} {σ : Sg} {B : Prop}
theorem M_body {y : MethodName} {ws : List Cond} {rm : Room} {maxL n : Nat} {bytes : ByteArray} {As : List Value} {Qc : (Nat → Prop) → Array Value → State → Outcome → State → Prop} (hy : y.cls = RX7) (hf : Fn y ws bytes maxL ret n rm 0 0) (hin : B) (hlen : (lg_sl (.ref m0 :: As)).length ≤ maxL)
    (body : ∀ (p : Program) (e : Env) (s : State) (m : MethodId) (args : Array Value) (below : List Frame) (meth : Method) (c : Code), Mx B p s m args meth c bytes maxL ws ret D cI → ∀ A : Nat → Prop, Hp D A s (M_W cI m0 as th σ) s.heap [] → ∀ ls : Array Slot, lv_has ls maxL (lv_args 0 (.ref m0 :: As)) →
      W p l e rm s m args below meth c s.heap [] 0 0 (MQ below (Qc A) args s 0 0 A) (F0 m 0 ls [])) (sz : Nat) : Met l y ws rm (va_Pc (.ref m0 :: As) (PreW D [(cI, .int)] sz (M_W cI m0 as th σ))) (Qc (va_A (M_W cI m0 as th σ) sz)) 0 0 (va_A (M_W cI m0 as th σ) sz) := by
  obtain ⟨⟨ws', hw⟩, -, -, -⟩ := hf
  refine Met.ofW (cc := bytes) (maxL := maxL) (ret := ret) (by rw [hy]; decide) hw ?_
  intro p e s m args below meth c s₁ B hml hv
  obtain ⟨rfl, hsz, hP, hK, hD⟩ := hv
  subst hsz
  have hown : s.vm.findClass RX7 = some m.cls := by rw [← hy]; exact findClass_of_methodNamed B.named
  have hl := lv_entry (.ref m0 :: As) (n := maxL) hlen
  rw [lg_entry_eq]
  exact body p e s m _ below meth c ⟨⟨B.exec, B.bytes, hml, hown, atoms_spec (ws := ws) B.pre, B.returns, B.notSynchronized⟩, hin, hK⟩ _ ⟨hP, hD.self, va_S.rf, fun q h => Or.inr h⟩ _ hl
theorem M_get (X : Mx (∀ w ∈ wsX70, w ∈ Ts) p s m args meth c cc nL Ts ret D cI) (P : Hp D A s (M_W cI m0 as th σ) H locs) (k : Nat) (hk : k < 28) {index : Nat} (hlink : Cond.fieldLink RX7 index (TX7 k).1 (TX7 k).2.1 (TX7 k).2.2.1 ∈ Ts) {v : Value} (hv : (M_fs as th σ)[k]? = some v) (d : decode cc pc = .ok (.getfield index, 3))
    (kk : W p l e R s m args below meth c H locs cells slots Q (F0 m (pc + 3) ls (v :: rest))) : W p l e R s m args below meth c H locs cells slots Q (F0 m pc ls (.ref m0 :: rest)) :=
  x_get (Cn := RX7) (T := TX7) (N := 28) (ci := 8) (fs := M_fs as th σ) X.1 X.2.2 P 0 rfl rfl X.2.1 k hk hlink hv d kk
theorem M_put (X : Mx (∀ w ∈ wsX70, w ∈ Ts) p s m args meth c cc nL Ts ret D cI) (P : Hp D A s (M_W cI m0 as th σ) H locs) (k : Nat) (hk : k < 28) {index : Nat} (hlink : Cond.fieldLink RX7 index (TX7 k).1 (TX7 k).2.1 (TX7 k).2.2.1 ∈ Ts) (hfin : (TX7 k).2.2.2 = false) (hty : tyX7 k = .int) {v : Int32} {th' : Int32} {z' : Nat → Int32}
    (he : (M_fs as th σ).set k (.int v) = M_fs as th' (z', σ.2)) (d : decode cc pc = .ok (.putfield index, 3))
    (kk : ∀ (H : Heap) (locs : List Loc), Hp D A s (M_W cI m0 as th' (z', σ.2)) H locs → W p l e R s m args below meth c H locs cells slots Q (F0 m (pc + 3) ls rest)) : W p l e R s m args below meth c H locs cells slots Q (F0 m pc ls (.int v :: .ref m0 :: rest)) := by
  refine x_put (Cn := RX7) (T := TX7) (N := 28) (ci := 8) (fs := M_fs as th σ) X.1 X.2.2 P 0 rfl rfl X.2.1 tyX7_ok nmX7 k hk hlink hfin (by rw [hty]; rfl) (by rw [hty]; rfl) hk d ?_
  rw [he]
  exact kk
theorem M_putT (X : Mx (∀ w ∈ wsX70, w ∈ Ts) p s m args meth c cc nL Ts ret D cI) (P : Hp D A s (M_W cI m0 as th σ) H locs) {index : Nat} (hlink : Cond.fieldLink RX7 index "GaugerhallModel" "thrown" "I" ∈ Ts) {v : Int32} (d : decode cc pc = .ok (.putfield index, 3))
    (kk : ∀ (H : Heap) (locs : List Loc), Hp D A s (M_W cI m0 as v σ) H locs → W p l e R s m args below meth c H locs cells slots Q (F0 m (pc + 3) ls rest)) : W p l e R s m args below meth c H locs cells slots Q (F0 m pc ls (.int v :: .ref m0 :: rest)) :=
  M_put X P 0 (by decide) hlink rfl rfl (th' := v) (z' := σ.1) rfl d kk
theorem M_putS (X : Mx (∀ w ∈ wsX70, w ∈ Ts) p s m args meth c cc nL Ts ret D cI) (P : Hp D A s (M_W cI m0 as th σ) H locs) (k : Nat) (hk : k < 28) {index : Nat} (hlink : Cond.fieldLink RX7 index (TX7 k).1 (TX7 k).2.1 (TX7 k).2.2.1 ∈ Ts) (hfin : (TX7 k).2.2.2 = false) (hty : tyX7 k = .int) {v : Int32}
    (he : (M_fs as th σ).set k (.int v) = M_fs as th (zs σ k v)) (d : decode cc pc = .ok (.putfield index, 3))
    (kk : ∀ (H : Heap) (locs : List Loc), Hp D A s (M_W cI m0 as th (zs σ k v)) H locs → W p l e R s m args below meth c H locs cells slots Q (F0 m (pc + 3) ls rest)) : W p l e R s m args below meth c H locs cells slots Q (F0 m pc ls (.int v :: .ref m0 :: rest)) :=
  M_put X P k hk hlink hfin hty (th' := th) (z' := upd σ.1 k v) he d kk
theorem M_ald (X : Mx B p s m args meth c cc nL Ts ret D cI) (P : Hp D A s (M_W cI m0 as th σ) H locs) (q0 : Nat) {a n : Nat} {f : Nat → Int32} (ha : (M_W cI m0 as th σ)[q0]? = some (a, .inl (cI, n, .inl f))) {i : Int32} (hi : vp_in i n) (d : decode cc pc = .ok (.iaload, 1))
    (kk : W p l e R s m args below meth c H locs cells slots Q (F0 m (pc + 1) ls (.int (f (ix i)) :: rest))) : W p l e R s m args below meth c H locs cells slots Q (F0 m pc ls (.int i :: .ref a :: rest)) :=
  va_iald X.1.1 X.1.2.1 X.2.2 P.1 q0 0 ha rfl hi d kk
theorem M_ast (X : Mx B p s m args meth c cc nL Ts ret D cI) (P : Hp D A s (M_W cI m0 as th σ) H locs) (q0 k : Nat) {a n : Nat} (ha : (M_W cI m0 as th σ)[q0]? = some (a, .inl (cI, n, .inl (σ.2 k)))) {i x : Int32} (hi : vp_in i n)
    (he : (M_W cI m0 as th σ).set q0 (a, .inl (cI, n, .inl (upd (σ.2 k) (ix i) x))) = M_W cI m0 as th (bs σ k (ix i) x)) (d : decode cc pc = .ok (.iastore, 1))
    (kk : ∀ (H : Heap) (locs : List Loc), Hp D A s (M_W cI m0 as th (bs σ k (ix i) x)) H locs → W p l e R s m args below meth c H locs cells slots Q (F0 m (pc + 1) ls rest)) : W p l e R s m args below meth c H locs cells slots Q (F0 m pc ls (.int x :: .int i :: .ref a :: rest)) := by
  refine va_iast X.1.1 X.1.2.1 X.2.2 P.1 P.2.1 P.2.2.1 q0 0 ha rfl hi d (fun H1 locs1 h1 h2 h3 => ?_)
  rw [he] at h1 h2
  exact kk H1 locs1 ⟨h1, h2, h3, P.2.2.2⟩
theorem M_calli {y : MethodName} {ws : List Cond} {rm : Room} {bytes : ByteArray} {maxL n index : Nat} {rty : Option FieldType} {As : List Value} {f : Int32 × Int32 × Sg} (X : Mx B p s m args meth c cc nL Ts ret D cI) (P : Hp D A s (M_W cI m0 as th σ) H locs) (hl : ls.size = nL) (hM : M_Mi l y ws rm D cI m0 as th σ As f) (hf : Fn y ws bytes maxL rty n rm 0 0)
    (hy : y.cls = RX7) (g : GoodIn Ts (wsV RX7 index RX7 y ws)) (hn : As.length = n) (hst : st0 = As.reverse ++ .ref m0 :: rest) (hR : rm.frames + 1 ≤ R.frames ∧ 8 + (maxL + 11) + rm.locals ≤ R.locals) (hcat : (rest.map fun v => v.category).sum ≤ 8) (hz : cells + 0 ≤ R.cells ∧ slots + 0 ≤ R.slots)
    (d : decode cc pc = .ok (.invokevirtual index, 3)) (kk : ∀ (H : Heap) (locs : List Loc), Hp D A s (M_W cI m0 as f.1 f.2.2) H locs → W p l e R s m args below meth c H locs cells slots Q (F0 m (pc + 3) ls (.int f.2.1 :: rest))) : W p l e R s m args below meth c H locs cells slots Q (F0 m pc ls st0) := by
  obtain ⟨⟨ws', hw⟩, hrc, hrs, hd⟩ := hf
  have hF := va_A_in P.2.1 P.2.2.1 P.2.2.2
  refine va_calli (va_runV X.1.fix (hM H.size) (cwV n X.1.2.2.2.2.1 g hw hrc hrs ⟨hy, hd⟩ hR) ⟨preW_blind, va_recv X.2.2 P.1 (ci := 8) (q0 := 0) rfl rfl, fun U hU hW => ⟨rfl, by rw [hU], by rw [hU]; exact P.1, va_K.moved hW.alike X.2.2, P.2.1.weaken (fun _ _ _ _ => trivial)⟩⟩ rfl hn hl hst (lv_room hcat) d hz) P.2.2.1 (fun q _ h => hF q h) hF (fun r u t H1 locs1 ht hvm hw hB hz1 hk1 hS => ?_)
  obtain ⟨hP1, -, hD1⟩ := hB
  rw [ht] at hP1
  rw [hw]
  exact kk H1 locs1 ⟨hP1, hD1.weaken (fun _ _ _ h => hF _ h), hS, P.2.2.2⟩
theorem M_callv {y : MethodName} {ws : List Cond} {rm : Room} {bytes : ByteArray} {maxL n index : Nat} {rty : Option FieldType} {As : List Value} {f : Int32 × Int32 × Sg} (X : Mx B p s m args meth c cc nL Ts ret D cI) (P : Hp D A s (M_W cI m0 as th σ) H locs) (hl : ls.size = nL) (hM : M_Mv l y ws rm D cI m0 as th σ As f) (hf : Fn y ws bytes maxL rty n rm 0 0)
    (hy : y.cls = RX7) (g : GoodIn Ts (wsV RX7 index RX7 y ws)) (hn : As.length = n) (hst : st0 = As.reverse ++ .ref m0 :: rest) (hR : rm.frames + 1 ≤ R.frames ∧ 8 + (maxL + 11) + rm.locals ≤ R.locals) (hcat : (rest.map fun v => v.category).sum ≤ 8) (hz : cells + 0 ≤ R.cells ∧ slots + 0 ≤ R.slots)
    (d : decode cc pc = .ok (.invokevirtual index, 3)) (kk : ∀ (H : Heap) (locs : List Loc), Hp D A s (M_W cI m0 as f.1 f.2.2) H locs → W p l e R s m args below meth c H locs cells slots Q (F0 m (pc + 3) ls rest)) : W p l e R s m args below meth c H locs cells slots Q (F0 m pc ls st0) := by
  obtain ⟨⟨ws', hw⟩, hrc, hrs, hd⟩ := hf
  have hF := va_A_in P.2.1 P.2.2.1 P.2.2.2
  refine va_callv (va_runV X.1.fix (hM H.size) (cwV n X.1.2.2.2.2.1 g hw hrc hrs ⟨hy, hd⟩ hR) ⟨preW_blind, va_recv X.2.2 P.1 (ci := 8) (q0 := 0) rfl rfl, fun U hU hW => ⟨rfl, by rw [hU], by rw [hU]; exact P.1, va_K.moved hW.alike X.2.2, P.2.1.weaken (fun _ _ _ _ => trivial)⟩⟩ rfl hn hl hst (lv_room hcat) d hz) P.2.2.1 (fun q _ h => hF q h) hF (fun u t H1 locs1 ht hvm hw hB hz1 hk1 hS => ?_)
  obtain ⟨hP1, -, hD1⟩ := hB
  rw [ht] at hP1
  exact kk H1 locs1 ⟨hP1, hD1.weaken (fun _ _ _ h => hF _ h), hS, P.2.2.2⟩
theorem M_ret {f : Int32 × Int32 × Sg} {v : Int32} (X : Mx B p s m args meth c cc nL Ts (some .int) D cI) (P : Hp D A s (M_W cI m0 as th σ) H locs) (he : f = (th, v, σ)) (d : decode cc pc = .ok (.ireturn, 1)) :
    W p l e R s m args below meth c H locs 0 0 (MQ below (M_Qi D cI m0 as f A) args s 0 0 A) (F0 m pc ls [.int v]) := by
  have hlocks := X.1.2.2.2.2.2.2
  subst he
  exact W.iret X.1.1 X.1.2.1 X.1.2.2.2.2.2.1 (fun t ht hW => ⟨⟨v, (), rfl, rfl, by rw [ht]; exact P.1, va_K.moved hW.alike X.2.2, P.2.1⟩, P.2.2.1.F ht⟩) P.2.2.1.2.2 d
theorem M_retz {f : Int32 × Int32 × Sg} {v : Int32} (X : Mx B p s m args meth c cc nL Ts (some .boolean) D cI) (P : Hp D A s (M_W cI m0 as th σ) H locs) (he : f = (th, v, σ)) (hn : narrow .boolean (.int v) = .int v) (d : decode cc pc = .ok (.ireturn, 1)) :
    W p l e R s m args below meth c H locs 0 0 (MQ below (M_Qi D cI m0 as f A) args s 0 0 A) (F0 m pc ls [.int v]) := by
  have hlocks := X.1.2.2.2.2.2.2
  subst he
  exact W.zret X.1.1 X.1.2.1 X.1.2.2.2.2.2.1 hn (fun t ht hW => ⟨⟨v, (), rfl, rfl, by rw [ht]; exact P.1, va_K.moved hW.alike X.2.2, P.2.1⟩, P.2.2.1.F ht⟩) P.2.2.1.2.2 d
theorem M_retv {f : Int32 × Int32 × Sg} {v : Int32} (X : Mx B p s m args meth c cc nL Ts none D cI) (P : Hp D A s (M_W cI m0 as th σ) H locs) (he : f = (th, v, σ)) (d : decode cc pc = .ok (.return_, 1)) :
    W p l e R s m args below meth c H locs 0 0 (MQ below (M_Qv D cI m0 as f A) args s 0 0 A) (F0 m pc ls []) := by
  have hlocks := X.1.2.2.2.2.2.2
  subst he
  exact W.vret X.1.1 X.1.2.1 X.1.2.2.2.2.2.1 (fun t ht hW => ⟨⟨(), rfl, trivial, by rw [ht]; exact P.1, va_K.moved hW.alike X.2.2, P.2.1⟩, P.2.2.1.F ht⟩) P.2.2.1.2.2 d
end MR
