/-! ===== words that aren't steady, and their way through calls ===== -/
def nw_ok : Cond → Bool
  | .fieldLinkNest .. => true
  | .methodLinkNest .. => true
  | .castable .. => true
  | .declares .. => true
  | _ => false
theorem nw_warm {w : Cond} {s U : State} (h : nw_ok w = true) (hW : s.WarmedH U.vm) (hZ : va_Nw w s) : va_Nw w U := by
  cases w <;> first | (simp [nw_ok] at h; done) | exact va_Nw.warmF hW hZ | exact va_Nw.warmM hW hZ | exact va_Nw.warmC hW hZ | exact va_Nw.warmD hW hZ
theorem nw_tabs {w : Cond} (h : nw_ok w = true) : w.onTables = true := by
  cases w <;> first | (simp [nw_ok] at h; done) | rfl
def NWl : List Cond := [.methodLinkNest RX6 28 yX1_init "Gaugerhall", .fieldLinkNest RX6 285 "Gaugerhall$Excise" "rate" "I" "Gaugerhall", .fieldLinkNest RX6 205 "Gaugerhall$Excise" "owed" "I" "Gaugerhall", .fieldLinkNest RX6 288 "Gaugerhall$Excise" "leftForHalf" "I" "Gaugerhall", .methodLinkNest RX6 35 yX2_init "Gaugerhall", .fieldLinkNest RX6 100 "Gaugerhall$Ledger" "made" "I" "Gaugerhall", .fieldLinkNest RX6 150 "Gaugerhall$Ledger" "excused" "I" "Gaugerhall", .fieldLinkNest RX6 282 "Gaugerhall$Ledger" "missing" "I" "Gaugerhall", .fieldLinkNest RX6 208 "Gaugerhall$Ledger" "exported" "I" "Gaugerhall", .fieldLinkNest RX6 113 "Gaugerhall$Ledger" "neverMade" "I" "Gaugerhall", .castable "java/lang/IndexOutOfBoundsException" "java/lang/IndexOutOfBoundsException", .castable "java/lang/IllegalArgumentException" "java/lang/IllegalArgumentException", .castable "java/lang/IllegalStateException" "java/lang/IllegalStateException", .fieldLinkNest RX6 122 "Gaugerhall$Vessel" "place" "I" "Gaugerhall", .fieldLinkNest RX6 136 "Gaugerhall$Vessel" "capacity" "I" "Gaugerhall", .fieldLinkNest RX6 133 "Gaugerhall$Vessel" "volume" "I" "Gaugerhall", .fieldLinkNest RX6 144 "Gaugerhall$Vessel" "drops" "I" "Gaugerhall", .methodLinkNest RX5 22 yX6_part "Gaugerhall", .methodLinkNest RX1 17 yX6_part "Gaugerhall", .fieldLinkNest RX6 198 "Gaugerhall$Lot" "drops" "I" "Gaugerhall", .methodLinkNest RX3 16 yX6_part "Gaugerhall", .fieldLinkNest RX6 298 "Gaugerhall$Budget" "day" "I" "Gaugerhall", .fieldLinkNest RX6 301 "Gaugerhall$Budget" "rate" "I" "Gaugerhall", .fieldLinkNest RX6 166 "Gaugerhall$Budget" "quota" "I" "Gaugerhall", .fieldLinkNest RX6 260 "Gaugerhall$Movement" "to" "LGaugerhall$Vessel;" "Gaugerhall", .fieldLinkNest RX6 254 "Gaugerhall$Movement" "volume" "I" "Gaugerhall", .fieldLinkNest RX6 266 "Gaugerhall$Movement" "drops" "I" "Gaugerhall", .fieldLinkNest RX6 276 "Gaugerhall$Movement" "lastDay" "I" "Gaugerhall", .fieldLinkNest RX6 257 "Gaugerhall$Movement" "state" "I" "Gaugerhall", .castable RX6 "java/lang/Object", .castable RJx4a65c "java/lang/Object", .castable RX1 "java/lang/Object", .castable RX2 "java/lang/Object", .castable RX2 "java/lang/Object", .castable "java/lang/IndexOutOfBoundsException" "java/lang/Object", .castable "java/lang/IllegalArgumentException" "java/lang/Object", .castable "java/lang/IllegalStateException" "java/lang/Object", .castable RX5 "java/lang/Object", .castable RX3 "java/lang/Object", .castable RX0 "java/lang/Object", .castable RX4 "java/lang/Object", .castable "java/lang/Throwable" "java/lang/Object", .castable "java/lang/String" "java/lang/Object", .castable "[I" "java/lang/Object", .castable "[B" "java/lang/Object", .castable "[Ljava/lang/Object;" "java/lang/Object", .castable "[Ljava/lang/Object;" "java/lang/Object", .declares ⟨"java/lang/RuntimeException", "<init>", "()V"⟩, .declares ⟨"java/lang/RuntimeException", "<init>", "(Ljava/lang/String;)V"⟩, .declares ⟨"java/lang/Exception", "<init>", "()V"⟩, .declares ⟨"java/lang/Exception", "<init>", "(Ljava/lang/String;)V"⟩, .declares ⟨"java/lang/Throwable", "<init>", "()V"⟩, .declares ⟨"java/lang/Throwable", "<init>", "(Ljava/lang/String;)V"⟩, .declares ⟨"java/lang/Object", "getClass", "()Ljava/lang/Class;"⟩]
theorem NWl_ok : ∀ w ∈ NWl, nw_ok w = true := by decide +kernel
def SRl : List (Nat × String) := [(46, "no such place"), (57, "capacity is out of range"), (66, "there are 10 vessels"), (78, "rate is out of range"), (291, "no such vessel"), (84, "wash or washStrength is out of range"), (86, "volume or strength is out of range"), (95, "too many drops, no room, or 60 runs"), (120, "both are the same, or volume is below 1"), (128, "unlike places, not so much, or no room"), (142, "there were 60 dips"), (153, "volume is below 1"), (155, "there is not so much"), (157, "there is not so much, or there were 100"), (171, "the quota does not allow it"), (180, "drops is out of range"), (185, "there is not so much, or the permit does not allow it"), (187, "drops is below 1"), (192, "the lots do not have so many"), (212, "money is out of range"), (214, "it is more than what is owed"), (219, "day is out of range"), (221, "rate or quota is out of range"), (223, "one is told that has not come"), (234, "it would be below the duty for all drops that move"), (239, "volume is below 1, or days is out of range"), (241, "at one place, not so much, or there are 30"), (243, "the guarantee is too small"), (293, "no such movement"), (255, "volume is out of range"), (264, "it does not move any more, or there is no room"), (267, "days is out of range"), (269, "it would be above 900"), (274, "what is out of range")]
def EnvN (U : State) : Prop := ∀ w ∈ NWl, va_Nw w U
theorem EnvN.warm {s U : State} (h : EnvN s) (hW : s.WarmedH U.vm) : EnvN U := fun w hw => nw_warm (NWl_ok w hw) hW (h w hw)
theorem EnvN.same {s U : State} (h : EnvN s) (hv : s.vm = U.vm) : EnvN U := fun w hw => va_tabs (nw_tabs (NWl_ok w hw)) hv (h w hw)
/-! part of a world -/
theorem va_P.mem {D : va_G} {cl : List vw_C} {ws ws' : va_W} {H : Heap} (h : va_P D cl ws H) (hm : ∀ q ∈ ws', q ∈ ws) : va_P D cl ws' H := by
  intro k q hk
  obtain ⟨j, hj⟩ := List.mem_iff_getElem?.mp (hm q (List.mem_of_getElem? hk))
  exact h j q hj
theorem va_P.one {D : va_G} {cl : List vw_C} {ws : va_W} {H : Heap} (h : va_P D cl ws H) {k : Nat} {q : Nat × va_E} (hk : ws[k]? = some q) : va_P D cl [q] H :=
  h.mem (fun x hx => by rw [List.mem_singleton.mp hx]; exact List.mem_of_getElem? hk)
theorem va_D.one {A : Nat → Prop} {q : Nat × va_E} (h : A q.1) : va_D A [q] := by
  refine ⟨fun i j x y hi hj _ => ?_, fun k x hk => ?_⟩
  · have h1 : i < 1 := (List.getElem?_eq_some_iff.mp hi).1
    have h2 : j < 1 := (List.getElem?_eq_some_iff.mp hj).1
    omega
  · have h1 : k < 1 := (List.getElem?_eq_some_iff.mp hk).1
    have e : k = 0 := by omega
    subst e
    cases hk
    exact h
theorem va_K.nil {D : va_G} {cl : List vw_C} {tys : List (ClassId × FieldType)} {U : State} (h : va_K D cl tys U) : va_K D cl [] U := ⟨h.1, fun k q hk => by simp at hk⟩
/-- reads: a world, a receiver or not, an answer; nothing is written -/
def PreN (D : va_G) (tys : List (ClassId × FieldType)) (wc : va_W) (U : State) : Prop := va_P D vwCl wc U.heap ∧ va_K D vwCl tys U ∧ va_D (fun _ => True) wc ∧ EnvN U
def N_R (l : Launch) (y : MethodName) (ws : List Cond) (rm : Room) (D : va_G) (tys : List (ClassId × FieldType)) (wc : va_W) (As : List Value) (r : Int32) : Prop :=
  Met l y ws rm (va_Pc As (PreN D tys wc)) (vp_Si (fun x => x = r)) 0 0 (fun _ => False)
def PreO (D : va_G) (sz : Nat) (wc : va_W) (U : State) : Prop := U.heap.size = sz ∧ va_P D vwCl wc U.heap ∧ va_K D vwCl [] U ∧ EnvN U
/-- writes of one cell -/
def N_I (l : Launch) (y : MethodName) (ws : List Cond) (rm : Room) (D : va_G) (a ci : Nat) (fs fs' : List Value) (As : List Value) (r : Int32) : Prop :=
  ∀ sz : Nat, Met l y ws rm (va_Pc (.ref a :: As) (PreO D sz [(a, .inr (ci, fs))])) (va_Qi (fun x (_ : Unit) => x = r) (fun _ t => va_P D vwCl [(a, .inr (ci, fs'))] t.heap) (va_A [(a, .inr (ci, fs))] sz)) 0 0 (va_A [(a, .inr (ci, fs))] sz)
def N_V (l : Launch) (y : MethodName) (ws : List Cond) (rm : Room) (D : va_G) (a ci : Nat) (fs fs' : List Value) (As : List Value) : Prop :=
  ∀ sz : Nat, Met l y ws rm (va_Pc (.ref a :: As) (PreO D sz [(a, .inr (ci, fs))])) (va_Qv (fun (_ : Unit) => True) (fun _ t => va_P D vwCl [(a, .inr (ci, fs'))] t.heap) (va_A [(a, .inr (ci, fs))] sz)) 0 0 (va_A [(a, .inr (ci, fs))] sz)
theorem preN_blind {D : va_G} {tys : List (ClassId × FieldType)} {wc : va_W} {As : List Value} : FrameBlind (va_Pc As (PreN D tys wc)) := fun a U g mk q => by
  obtain ⟨q0, qP, qK, qD, qN⟩ := q
  exact ⟨q0, qP, va_K.moved (u := U) (U := U.calling g mk a) (Vm.Alike.refl U.vm) qK, qD, qN.same rfl⟩
theorem preO_blind {D : va_G} {sz : Nat} {wc : va_W} {As : List Value} : FrameBlind (va_Pc As (PreO D sz wc)) := fun a U g mk q => by
  obtain ⟨q0, q1, qP, qK, qN⟩ := q
  exact ⟨q0, q1, qP, va_K.moved (u := U) (U := U.calling g mk a) (Vm.Alike.refl U.vm) qK, qN.same rfl⟩
section NR
variable {p : Program} {l : Launch} {e : Env} {R : Room} {s : State} {m : MethodId} {args : Array Value} {below : List Frame} {meth : Method} {c : Code} {H : Heap} {locs : List Loc} {cells slots : Nat} {Q : State → Prop} {cc : ByteArray} {pc : Nat} {ls : Array Slot} {rest st0 : List Value} {Ts : List Cond} {nL : Nat} {D : va_G} {A : Nat → Prop} {ret : Option FieldType} {own : String} {tys : List (ClassId × FieldType)}
theorem S_callN {y : MethodName} {ws : List Cond} {rm : Room} {bytes : ByteArray} {maxL n index : Nat} {rty : Option FieldType} {As : List Value} {r : Int32} {host : String} (C : Cx own p s m args meth c cc nL Ts ret) (hl : ls.size = nL) (hM : S_Met l y ws rm As r) (hf : Fn y ws bytes maxL rty n rm 0 0)
    (hN : va_Nw (.methodLinkNest own index y host) s) (g : GoodIn Ts ws) (hs1 : Cond.static y ∈ Ts) (hs2 : Cond.initialized y.cls ∈ Ts) (hn : As.length = n) (hst : st0 = As.reverse ++ rest) (hR : rm.frames + 1 ≤ R.frames ∧ 8 + (maxL + 11) + rm.locals ≤ R.locals) (hcat : (rest.map fun v => v.category).sum ≤ 8) (hz : cells + 0 ≤ R.cells ∧ slots + 0 ≤ R.slots)
    (d : decode cc pc = .ok (.invokestatic index, 3)) (kk : W p l e R s m args below meth c H locs cells slots Q (F0 m (pc + 3) ls (.int r :: rest))) : W p l e R s m args below meth c H locs cells slots Q (F0 m pc ls st0) := by
  obtain ⟨⟨ws', hw⟩, hrc, hrs, hd⟩ := hf
  refine vp_callSi (va_runSN C.fix hM ⟨va_cnB n C.2.2.2.2.1 g hw hrc hrs hN (C.2.2.2.2.1 _ hs2) hd hR, C.2.2.2.2.1 _ hs1, trivial⟩ ⟨fun a U g mk q => ⟨q.1, trivial⟩, fun U _ _ => ⟨rfl, trivial⟩⟩ rfl hn hl hst (lv_room hcat) d hz).run ?_
  intro r' hr'
  rw [hr']
  exact kk
theorem N_bodyR {y : MethodName} {ws : List Cond} {rm : Room} {maxL n : Nat} {bytes : ByteArray} {wc : va_W} {As : List Value} {r : Int32} (own : String) (hy : y.cls = own) (hpl : plainName own = true) (hf : Fn y ws bytes maxL ret n rm 0 0) (hlen : (lg_sl As).length ≤ maxL)
    (body : ∀ (p : Program) (e : Env) (s : State) (m : MethodId) (args : Array Value) (below : List Frame) (meth : Method) (c : Code), Cx own p s m args meth c bytes maxL ws ret → EnvN s → va_K D vwCl tys s → ∀ A : Nat → Prop, Hp D A s wc s.heap [] → ∀ ls : Array Slot, lv_has ls maxL (lv_args 0 As) →
      W p l e rm s m args below meth c s.heap [] 0 0 (MQ below (vp_Si (fun x => x = r)) args s 0 0 (fun _ => False)) (F0 m 0 ls [])) : N_R l y ws rm D tys wc As r := by
  obtain ⟨⟨ws', hw⟩, -, -, -⟩ := hf
  refine Met.ofW (cc := bytes) (maxL := maxL) (ret := ret) (by rw [hy]; exact hpl) hw ?_
  intro p e s m args below meth c s₁ B hml hv
  obtain ⟨rfl, hP, hK, hD, hN⟩ := hv
  have hown : s.vm.findClass own = some m.cls := by rw [← hy]; exact findClass_of_methodNamed B.named
  have hl := lv_entry As (n := maxL) hlen
  rw [lg_entry_eq]
  exact body p e s m _ below meth c ⟨B.exec, B.bytes, hml, hown, atoms_spec (ws := ws) B.pre, B.returns, B.notSynchronized⟩ hN hK _ ⟨hP, hD.self (sz := s.heap.size), va_S.rf, fun q h => Or.inr h⟩ _ hl
theorem N_body1 {y : MethodName} {ws : List Cond} {rm : Room} {maxL n : Nat} {bytes : ByteArray} {a ci : Nat} {fs : List Value} {As : List Value} {Qc : (Nat → Prop) → Array Value → State → Outcome → State → Prop} (own : String) (hy : y.cls = own) (hpl : plainName own = true) (hf : Fn y ws bytes maxL ret n rm 0 0) (hlen : (lg_sl (.ref a :: As)).length ≤ maxL)
    (body : ∀ (p : Program) (e : Env) (s : State) (m : MethodId) (args : Array Value) (below : List Frame) (meth : Method) (c : Code), Cx own p s m args meth c bytes maxL ws ret → EnvN s → va_K D vwCl [] s → (meth.name = y.name) → ∀ A : Nat → Prop, Hp D A s [(a, .inr (ci, fs))] s.heap [] → ∀ ls : Array Slot, lv_has ls maxL (lv_args 0 (.ref a :: As)) →
      W p l e rm s m args below meth c s.heap [] 0 0 (MQ below (Qc A) args s 0 0 A) (F0 m 0 ls [])) (sz : Nat) : Met l y ws rm (va_Pc (.ref a :: As) (PreO D sz [(a, .inr (ci, fs))])) (Qc (va_A [(a, .inr (ci, fs))] sz)) 0 0 (va_A [(a, .inr (ci, fs))] sz) := by
  obtain ⟨⟨ws', hw⟩, -, -, -⟩ := hf
  refine Met.ofW (cc := bytes) (maxL := maxL) (ret := ret) (by rw [hy]; exact hpl) hw ?_
  intro p e s m args below meth c s₁ B hml hv
  obtain ⟨rfl, hsz, hP, hK, hN⟩ := hv
  subst hsz
  have hown : s.vm.findClass own = some m.cls := by rw [← hy]; exact findClass_of_methodNamed B.named
  have hl := lv_entry (.ref a :: As) (n := maxL) hlen
  rw [lg_entry_eq]
  exact body p e s m _ below meth c ⟨B.exec, B.bytes, hml, hown, atoms_spec (ws := ws) B.pre, B.returns, B.notSynchronized⟩ hN hK (name_of_methodNamed B.named B.method).1 _ ⟨hP, va_D.one (va_A.in (ws := [(a, .inr (ci, fs))]) (k := 0) rfl), va_S.rf, fun q h => Or.inr h⟩ _ hl
theorem Hp.one {ws : va_W} {H1 : Heap} {locs1 : List Loc} {k a : Nat} {e0 e1 : va_E} (P : Hp D A s ws H locs) (hk : ws[k]? = some (a, e0)) (h1 : va_P D vwCl [(a, e1)] H1) (ho : ∀ q : Nat, q < H.size → ¬ va_A [(a, e0)] H.size q → H1[q]? = H[q]?) (hS : va_S A s.heap H1 locs1) : Hp D A s (ws.set k (a, e1)) H1 locs1 := by
  refine ⟨?_, P.2.1.set hk, hS, P.2.2.2⟩
  intro j q hj
  by_cases e : j = k
  · subst e
    have hlt : j < ws.length := (List.getElem?_eq_some_iff.mp hk).1
    rw [List.getElem?_set_self hlt] at hj
    cases hj
    exact h1 0 _ rfl
  · rw [List.getElem?_set_ne (fun h => e h.symm)] at hj
    have hq := P.1 j q hj
    refine va_at.kept hq (ho q.1 hq.lt ?_)
    rintro (⟨i, e2, hi⟩ | h)
    · have h3 : i < 1 := (List.getElem?_eq_some_iff.mp hi).1
      have h4 : i = 0 := by omega
      subst h4
      have h5 : a = q.1 := by injection hi with hi; injection hi
      exact e (P.2.1.1 j k q _ hj hk h5.symm)
    · exact absurd hq.lt (by omega)
theorem N_callR {y : MethodName} {ws : List Cond} {rm : Room} {bytes : ByteArray} {maxL n index : Nat} {rty : Option FieldType} {As : List Value} {r : Int32} {wc : va_W} {tysc : List (ClassId × FieldType)} {b : Nat} {rc : String} (C : Cx own p s m args meth c cc nL Ts ret) (hN : EnvN s) (Kc : va_K D vwCl tysc s) (hl : ls.size = nL) (hP : va_P D vwCl wc H) (hD : va_D (fun _ => True) wc) (hr : ∃ cell : Cell, H[b]? = some cell ∧ cell.vm.isStatics = false ∧ s.vm.findClass rc = some cell.cls)
    (hM : N_R l y ws rm D tysc wc (.ref b :: As) r) (hf : Fn y ws bytes maxL rty n rm 0 0) (hy : y.cls = rc) (g : GoodIn Ts (wsV own index rc y ws)) (hn : As.length = n) (hst : st0 = As.reverse ++ .ref b :: rest) (hR : rm.frames + 1 ≤ R.frames ∧ 8 + (maxL + 11) + rm.locals ≤ R.locals) (hcat : (rest.map fun v => v.category).sum ≤ 8) (hz : cells + 0 ≤ R.cells ∧ slots + 0 ≤ R.slots)
    (d : decode cc pc = .ok (.invokevirtual index, 3)) (kk : W p l e R s m args below meth c H locs cells slots Q (F0 m (pc + 3) ls (.int r :: rest))) : W p l e R s m args below meth c H locs cells slots Q (F0 m pc ls st0) := by
  obtain ⟨⟨ws', hw⟩, hrc, hrs, hd⟩ := hf
  refine vp_callSi (W.runV C.fix hM (cwV n C.2.2.2.2.1 g hw hrc hrs ⟨hy, hd⟩ hR) ⟨preN_blind, hr, fun U hU hW => ⟨rfl, by rw [hU]; exact hP, va_K.moved hW.alike Kc, hD, hN.warm hW⟩⟩ rfl hn hl hst (lv_room hcat) d hz) ?_
  intro r' hr'
  rw [hr']
  exact kk
theorem N_callI {y : MethodName} {ws : List Cond} {rm : Room} {bytes : ByteArray} {maxL n index : Nat} {rty : Option FieldType} {As : List Value} {r : Int32} {W0 : va_W} {a ci k : Nat} {fs fs' : List Value} {q9 : vw_C} (C : Cx own p s m args meth c cc nL Ts ret) (hN : EnvN s) (K : va_K D vwCl tys s) (hl : ls.size = nL) (P : Hp D A s W0 H locs) (hk : W0[k]? = some (a, .inr (ci, fs))) (hc : vwCl[ci]? = some q9)
    (hM : N_I l y ws rm D a ci fs fs' As r) (hf : Fn y ws bytes maxL rty n rm 0 0) (hy : y.cls = q9.1) (g : GoodIn Ts (wsV own index q9.1 y ws)) (hn : As.length = n) (hst : st0 = As.reverse ++ .ref a :: rest) (hR : rm.frames + 1 ≤ R.frames ∧ 8 + (maxL + 11) + rm.locals ≤ R.locals) (hcat : (rest.map fun v => v.category).sum ≤ 8) (hz : cells + 0 ≤ R.cells ∧ slots + 0 ≤ R.slots)
    (d : decode cc pc = .ok (.invokevirtual index, 3)) (kk : ∀ (H : Heap) (locs : List Loc), Hp D A s (W0.set k (a, .inr (ci, fs'))) H locs → W p l e R s m args below meth c H locs cells slots Q (F0 m (pc + 3) ls (.int r :: rest))) : W p l e R s m args below meth c H locs cells slots Q (F0 m pc ls st0) := by
  obtain ⟨⟨ws', hw⟩, hrc, hrs, hd⟩ := hf
  have hF : ∀ q, va_A [(a, (.inr (ci, fs) : va_E))] H.size q → A q := va_A_in (ws := [(a, (.inr (ci, fs) : va_E))]) (va_D.one (P.2.1.2 k _ hk)) P.2.2.1 P.2.2.2
  refine va_calli (va_runV C.fix (hM H.size) (cwV n C.2.2.2.2.1 g hw hrc hrs ⟨hy, hd⟩ hR) ⟨preO_blind, va_recv K P.1 hc hk, fun U hU hW => ⟨rfl, by rw [hU], by rw [hU]; exact P.1.one hk, va_K.moved hW.alike K.nil, hN.warm hW⟩⟩ rfl hn hl hst (lv_room hcat) d hz) P.2.2.1 (fun q _ h => hF q h) hF (fun r u t H1 locs1 ht hvm hw hB hz1 hk1 hS => ?_)
  rw [ht] at hB
  rw [hw]
  exact kk H1 locs1 (P.one hk hB hk1 hS)
theorem N_callV {y : MethodName} {ws : List Cond} {rm : Room} {bytes : ByteArray} {maxL n index : Nat} {rty : Option FieldType} {As : List Value} {W0 : va_W} {a ci k : Nat} {fs fs' : List Value} {q9 : vw_C} (C : Cx own p s m args meth c cc nL Ts ret) (hN : EnvN s) (K : va_K D vwCl tys s) (hl : ls.size = nL) (P : Hp D A s W0 H locs) (hk : W0[k]? = some (a, .inr (ci, fs))) (hc : vwCl[ci]? = some q9)
    (hM : N_V l y ws rm D a ci fs fs' As) (hf : Fn y ws bytes maxL rty n rm 0 0) (hy : y.cls = q9.1) (g : GoodIn Ts (wsV own index q9.1 y ws)) (hn : As.length = n) (hst : st0 = As.reverse ++ .ref a :: rest) (hR : rm.frames + 1 ≤ R.frames ∧ 8 + (maxL + 11) + rm.locals ≤ R.locals) (hcat : (rest.map fun v => v.category).sum ≤ 8) (hz : cells + 0 ≤ R.cells ∧ slots + 0 ≤ R.slots)
    (d : decode cc pc = .ok (.invokevirtual index, 3)) (kk : ∀ (H : Heap) (locs : List Loc), Hp D A s (W0.set k (a, .inr (ci, fs'))) H locs → W p l e R s m args below meth c H locs cells slots Q (F0 m (pc + 3) ls rest)) : W p l e R s m args below meth c H locs cells slots Q (F0 m pc ls st0) := by
  obtain ⟨⟨ws', hw⟩, hrc, hrs, hd⟩ := hf
  have hF : ∀ q, va_A [(a, (.inr (ci, fs) : va_E))] H.size q → A q := va_A_in (ws := [(a, (.inr (ci, fs) : va_E))]) (va_D.one (P.2.1.2 k _ hk)) P.2.2.1 P.2.2.2
  refine va_callv (va_runV C.fix (hM H.size) (cwV n C.2.2.2.2.1 g hw hrc hrs ⟨hy, hd⟩ hR) ⟨preO_blind, va_recv K P.1 hc hk, fun U hU hW => ⟨rfl, by rw [hU], by rw [hU]; exact P.1.one hk, va_K.moved hW.alike K.nil, hN.warm hW⟩⟩ rfl hn hl hst (lv_room hcat) d hz) P.2.2.1 (fun q _ h => hF q h) hF (fun u t H1 locs1 ht hvm hw hB hz1 hk1 hS => ?_)
  rw [ht] at hB
  exact kk H1 locs1 (P.one hk hB hk1 hS)
/-! a constructor's call: the new cell in a world -/
theorem N_callC {y : MethodName} {ws : List Cond} {rm : Room} {bytes : ByteArray} {maxL n index : Nat} {As : List Value} {W0 : va_W} {a ci k : Nat} {fs fs' : List Value} (C : Cx own p s m args meth c cc nL Ts ret) (hN : EnvN s) (K : va_K D vwCl tys s) (hl : ls.size = nL) (P : Hp D A s W0 H locs) (hk : W0[k]? = some (a, .inr (ci, fs)))
    (hM : N_V l y ws rm D a ci fs fs' As) (hf : Fn y ws bytes maxL none n rm 0 0) (hy1 : y.name = "<init>") (g : GoodIn Ts ws) (hini : Cond.initialized y.cls ∈ Ts) (hlk : Cond.methodLink own index y ∈ Ts) (hin : Cond.instanceMethod y ∈ Ts) (hn : As.length = n) (hst : st0 = As.reverse ++ .ref a :: rest) (hR : rm.frames + 1 ≤ R.frames ∧ 8 + (maxL + 11) + rm.locals ≤ R.locals) (hcat : (rest.map fun v => v.category).sum ≤ 8) (hz : cells + 0 ≤ R.cells ∧ slots + 0 ≤ R.slots)
    (d : decode cc pc = .ok (.invokespecial index, 3)) (kk : ∀ (H : Heap) (locs : List Loc), Hp D A s (W0.set k (a, .inr (ci, fs'))) H locs → W p l e R s m args below meth c H locs cells slots Q (F0 m (pc + 3) ls rest)) : W p l e R s m args below meth c H locs cells slots Q (F0 m pc ls st0) := by
  obtain ⟨⟨ws', hw⟩, hrc, hrs, hd⟩ := hf
  have hF : ∀ q, va_A [(a, (.inr (ci, fs) : va_E))] H.size q → A q := va_A_in (ws := [(a, (.inr (ci, fs) : va_E))]) (va_D.one (P.2.1.2 k _ hk)) P.2.2.1 P.2.2.2
  refine va_callv (va_runI C.fix (hM H.size) (cwI n C.2.2.2.2.1 g hw hrc hrs (C.2.2.2.2.1 _ hini) (C.2.2.2.2.1 _ hlk) (C.2.2.2.2.1 _ hin) hy1 hd hR) ⟨preO_blind, fun U hU hW => ⟨rfl, by rw [hU], by rw [hU]; exact P.1.one hk, va_K.moved hW.alike K.nil, hN.warm hW⟩⟩ rfl hn hl hst (lv_room hcat) d hz) P.2.2.1 (fun q _ h => hF q h) hF (fun u t H1 locs1 ht hvm hw hB hz1 hk1 hS => ?_)
  rw [ht] at hB
  exact kk H1 locs1 (P.one hk hB hk1 hS)
theorem N_callCN {y : MethodName} {ws : List Cond} {rm : Room} {bytes : ByteArray} {maxL n index : Nat} {As : List Value} {W0 : va_W} {a ci k : Nat} {fs fs' : List Value} {host : String} (C : Cx own p s m args meth c cc nL Ts ret) (hN : EnvN s) (K : va_K D vwCl tys s) (hl : ls.size = nL) (P : Hp D A s W0 H locs) (hk : W0[k]? = some (a, .inr (ci, fs)))
    (hM : N_V l y ws rm D a ci fs fs' As) (hf : Fn y ws bytes maxL none n rm 0 0) (hy1 : y.name = "<init>") (g : GoodIn Ts ws) (hini : Cond.initialized y.cls ∈ Ts) (hlk : va_Nw (.methodLinkNest own index y host) s) (hin : Cond.instanceMethod y ∈ Ts) (hn : As.length = n) (hst : st0 = As.reverse ++ .ref a :: rest) (hR : rm.frames + 1 ≤ R.frames ∧ 8 + (maxL + 11) + rm.locals ≤ R.locals) (hcat : (rest.map fun v => v.category).sum ≤ 8) (hz : cells + 0 ≤ R.cells ∧ slots + 0 ≤ R.slots)
    (d : decode cc pc = .ok (.invokespecial index, 3)) (kk : ∀ (H : Heap) (locs : List Loc), Hp D A s (W0.set k (a, .inr (ci, fs'))) H locs → W p l e R s m args below meth c H locs cells slots Q (F0 m (pc + 3) ls rest)) : W p l e R s m args below meth c H locs cells slots Q (F0 m pc ls st0) := by
  obtain ⟨⟨ws', hw⟩, hrc, hrs, hd⟩ := hf
  have hF : ∀ q, va_A [(a, (.inr (ci, fs) : va_E))] H.size q → A q := va_A_in (ws := [(a, (.inr (ci, fs) : va_E))]) (va_D.one (P.2.1.2 k _ hk)) P.2.2.1 P.2.2.2
  refine va_callv (va_runIN C.fix (hM H.size) ⟨va_cnB n C.2.2.2.2.1 g hw hrc hrs hlk (C.2.2.2.2.1 _ hini) hd hR, hy1, C.2.2.2.2.1 _ hin⟩ ⟨preO_blind, fun U hU hW => ⟨rfl, by rw [hU], by rw [hU]; exact P.1.one hk, va_K.moved hW.alike K.nil, hN.warm hW⟩⟩ rfl hn hl hst (lv_room hcat) d hz) P.2.2.1 (fun q _ h => hF q h) hF (fun u t H1 locs1 ht hvm hw hB hz1 hk1 hS => ?_)
  rw [ht] at hB
  exact kk H1 locs1 (P.one hk hB hk1 hS)
theorem N_retI {a ci : Nat} {fs fs' : List Value} {r v : Int32} (C : Cx own p s m args meth c cc nL Ts (some .int)) (P : Hp D A s [(a, .inr (ci, fs))] H locs) (hv : v = r) (hf : fs = fs') (d : decode cc pc = .ok (.ireturn, 1)) :
    W p l e R s m args below meth c H locs 0 0 (MQ below (va_Qi (fun x (_ : Unit) => x = r) (fun _ t => va_P D vwCl [(a, .inr (ci, fs'))] t.heap) A) args s 0 0 A) (F0 m pc ls [.int v]) := by
  have hlocks := C.2.2.2.2.2.2
  subst hf
  exact W.iret C.1 C.2.1 C.2.2.2.2.2.1 (fun t ht hW => ⟨⟨v, (), rfl, hv, by show va_P D vwCl _ t.heap; rw [ht]; exact P.1⟩, P.2.2.1.F ht⟩) P.2.2.1.2.2 d
theorem N_retV {a ci : Nat} {fs fs' : List Value} (C : Cx own p s m args meth c cc nL Ts none) (P : Hp D A s [(a, .inr (ci, fs))] H locs) (hf : fs = fs') (d : decode cc pc = .ok (.return_, 1)) :
    W p l e R s m args below meth c H locs 0 0 (MQ below (va_Qv (fun (_ : Unit) => True) (fun _ t => va_P D vwCl [(a, .inr (ci, fs'))] t.heap) A) args s 0 0 A) (F0 m pc ls []) := by
  have hlocks := C.2.2.2.2.2.2
  subst hf
  exact W.vret C.1 C.2.1 C.2.2.2.2.2.1 (fun t ht hW => ⟨⟨(), rfl, trivial, by show va_P D vwCl _ t.heap; rw [ht]; exact P.1⟩, P.2.2.1.F ht⟩) P.2.2.1.2.2 d
theorem x_getN (C : Cx own p s m args meth c cc nL Ts ret) (K : va_K D vwCl tys s) {ws : va_W} (P : Hp D A s ws H locs) {a ci : Nat} {fs : List Value} (q0 : Nat) (he : ws[q0]? = some (a, .inr (ci, fs))) {Cn : String} {T : u_T} {N : Nat} (hc : vwCl[ci]? = some (Cn, T, N)) (hin : ∀ w ∈ u_ws Cn T N, w ∈ Ts) (k : Nat) (hk : k < N) {index : Nat} {host : String}
    (hlink : va_Nw (.fieldLinkNest own index (T k).1 (T k).2.1 (T k).2.2.1 host) s) {v : Value} (hv : fs[k]? = some v) (d : decode cc pc = .ok (.getfield index, 3)) (kk : W p l e R s m args below meth c H locs cells slots Q (F0 m (pc + 3) ls (v :: rest))) : W p l e R s m args below meth c H locs cells slots Q (F0 m pc ls (.ref a :: rest)) :=
  va_getN C.1 C.2.1 C.2.2.2.2.1 hin C.2.2.2.1 K P.1 q0 he hc k hk (va_Nw.use rfl hlink) (fun _ h => h) hv d kk
theorem x_putN (C : Cx own p s m args meth c cc nL Ts ret) (K : va_K D vwCl tys s) {ws : va_W} (P : Hp D A s ws H locs) {a ci : Nat} {fs : List Value} (q0 : Nat) (he : ws[q0]? = some (a, .inr (ci, fs))) {Cn : String} {T : u_T} {N : Nat} (hc : vwCl[ci]? = some (Cn, T, N)) (hin : ∀ w ∈ u_ws Cn T N, w ∈ Ts)
    {ty0 : Nat → FieldType} (hty : ∀ k, k < N → parseFieldDescriptor (T k).2.2.1 = some (ty0 k)) (hnm : ∀ a, a < N → ∀ b, b < N → a ≠ b → (T a).2.1 ≠ (T b).2.1) (k : Nat) (hk : k < N) {index : Nat} {host : String}
    (hlink : va_Nw (.fieldLinkNest own index (T k).1 (T k).2.1 (T k).2.2.1 host) s) (hfin : (T k).2.2.2 = false) {v : Value} (hn : narrow (ty0 k) v = v) (hfit : fits (ty0 k) v = true) (hlen : k < fs.length) (d : decode cc pc = .ok (.putfield index, 3))
    (kk : ∀ (H : Heap) (locs : List Loc), Hp D A s (ws.set q0 (a, .inr (ci, fs.set k v))) H locs → W p l e R s m args below meth c H locs cells slots Q (F0 m (pc + 3) ls rest)) : W p l e R s m args below meth c H locs cells slots Q (F0 m pc ls (v :: .ref a :: rest)) :=
  va_putN C.1 C.2.1 C.2.2.2.2.1 hin ty0 hty hnm C.2.2.2.1 K P.1 P.2.1 P.2.2.1 q0 he hc k hk (va_Nw.use rfl hlink) (fun _ h => h) hfin (hty k hk) hn hfit hlen d (fun H1 locs1 h1 h2 h3 => kk H1 locs1 ⟨h1, h2, h3, P.2.2.2⟩)
end NR
