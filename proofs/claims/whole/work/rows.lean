section
-- ===== PART A: goes FIRST, ahead of the names: the tables' words, and 'selects' of the private methods out of them =====
/-- a private method of a class that the tables say can be made, by its rows of tables_1 -/
def lw_okq (q : MethodName × Nat) : Prop := (q.1.cls ≠ "java/lang/invoke/MethodHandle" ∧ q.1.cls ≠ "java/lang/invoke/VarHandle") ∧ Cond.instantiable q.1.cls q.2 ∈ tables_1 ∧ Cond.privateMethod q.1 ∈ tables_1 ∧ Cond.instanceMethod q.1 ∈ tables_1
theorem lw_p0 : lw_okq (⟨"Gaugerhall", "isPlace", "(I)Z"⟩, 12) := ⟨⟨by decide +kernel, by decide +kernel⟩, List.mem_of_getElem? (i := 25) (by decide +kernel), List.mem_of_getElem? (i := 153) (by decide +kernel), List.mem_of_getElem? (i := 154) (by decide +kernel)⟩
theorem lw_p1 : lw_okq (⟨"java/lang/Throwable", "fillInStackTrace", "(I)Ljava/lang/Throwable;"⟩, 6) := ⟨⟨by decide +kernel, by decide +kernel⟩, List.mem_of_getElem? (i := 195) (by decide +kernel), List.mem_of_getElem? (i := 193) (by decide +kernel), List.mem_of_getElem? (i := 194) (by decide +kernel)⟩
theorem lw_p2 : lw_okq (⟨"java/util/ArrayList", "add", "(Ljava/lang/Object;[Ljava/lang/Object;I)V"⟩, 3) := ⟨⟨by decide +kernel, by decide +kernel⟩, List.mem_of_getElem? (i := 33) (by decide +kernel), List.mem_of_getElem? (i := 291) (by decide +kernel), List.mem_of_getElem? (i := 292) (by decide +kernel)⟩
theorem lw_p3 : lw_okq (⟨"java/util/ArrayList", "grow", "()[Ljava/lang/Object;"⟩, 3) := ⟨⟨by decide +kernel, by decide +kernel⟩, List.mem_of_getElem? (i := 33) (by decide +kernel), List.mem_of_getElem? (i := 295) (by decide +kernel), List.mem_of_getElem? (i := 296) (by decide +kernel)⟩
theorem lw_p4 : lw_okq (⟨"java/util/ArrayList", "grow", "(I)[Ljava/lang/Object;"⟩, 3) := ⟨⟨by decide +kernel, by decide +kernel⟩, List.mem_of_getElem? (i := 33) (by decide +kernel), List.mem_of_getElem? (i := 299) (by decide +kernel), List.mem_of_getElem? (i := 300) (by decide +kernel)⟩
theorem lw_p5 : lw_okq (⟨"Gaugerhall", "vesselOf", "(I)LGaugerhall$Vessel;"⟩, 12) := ⟨⟨by decide +kernel, by decide +kernel⟩, List.mem_of_getElem? (i := 25) (by decide +kernel), List.mem_of_getElem? (i := 361) (by decide +kernel), List.mem_of_getElem? (i := 362) (by decide +kernel)⟩
theorem lw_p6 : lw_okq (⟨"Gaugerhall", "miss", "(I)I"⟩, 12) := ⟨⟨by decide +kernel, by decide +kernel⟩, List.mem_of_getElem? (i := 25) (by decide +kernel), List.mem_of_getElem? (i := 438) (by decide +kernel), List.mem_of_getElem? (i := 439) (by decide +kernel)⟩
theorem lw_p7 : lw_okq (⟨"Gaugerhall", "dropsInLots", "()I"⟩, 12) := ⟨⟨by decide +kernel, by decide +kernel⟩, List.mem_of_getElem? (i := 25) (by decide +kernel), List.mem_of_getElem? (i := 505) (by decide +kernel), List.mem_of_getElem? (i := 506) (by decide +kernel)⟩
theorem lw_p8 : lw_okq (⟨"Gaugerhall", "dropsThatMove", "()I"⟩, 12) := ⟨⟨by decide +kernel, by decide +kernel⟩, List.mem_of_getElem? (i := 25) (by decide +kernel), List.mem_of_getElem? (i := 562) (by decide +kernel), List.mem_of_getElem? (i := 563) (by decide +kernel)⟩
theorem lw_p9 : lw_okq (⟨"Gaugerhall", "movementOf", "(I)LGaugerhall$Movement;"⟩, 12) := ⟨⟨by decide +kernel, by decide +kernel⟩, List.mem_of_getElem? (i := 25) (by decide +kernel), List.mem_of_getElem? (i := 612) (by decide +kernel), List.mem_of_getElem? (i := 613) (by decide +kernel)⟩
theorem lw_p10 : lw_okq (⟨"Gaugerhall", "beginDay", "()V"⟩, 12) := ⟨⟨by decide +kernel, by decide +kernel⟩, List.mem_of_getElem? (i := 25) (by decide +kernel), List.mem_of_getElem? (i := 628) (by decide +kernel), List.mem_of_getElem? (i := 629) (by decide +kernel)⟩
theorem lw_p11 : lw_okq (⟨"Gaugerhall", "loseLateMovements", "()V"⟩, 12) := ⟨⟨by decide +kernel, by decide +kernel⟩, List.mem_of_getElem? (i := 25) (by decide +kernel), List.mem_of_getElem? (i := 636) (by decide +kernel), List.mem_of_getElem? (i := 637) (by decide +kernel)⟩
theorem lw_p12 : lw_okq (⟨"Gaugerhall", "takeShares", "()V"⟩, 12) := ⟨⟨by decide +kernel, by decide +kernel⟩, List.mem_of_getElem? (i := 25) (by decide +kernel), List.mem_of_getElem? (i := 640) (by decide +kernel), List.mem_of_getElem? (i := 641) (by decide +kernel)⟩
theorem lw_p13 : lw_okq (⟨"Gaugerhall", "dropsInVessels", "()I"⟩, 12) := ⟨⟨by decide +kernel, by decide +kernel⟩, List.mem_of_getElem? (i := 25) (by decide +kernel), List.mem_of_getElem? (i := 682) (by decide +kernel), List.mem_of_getElem? (i := 683) (by decide +kernel)⟩
theorem lw_p14 : lw_okq (⟨"GaugerhallModel", "isVessel", "(I)Z"⟩, 28) := ⟨⟨by decide +kernel, by decide +kernel⟩, List.mem_of_getElem? (i := 693) (by decide +kernel), List.mem_of_getElem? (i := 806) (by decide +kernel), List.mem_of_getElem? (i := 807) (by decide +kernel)⟩
theorem lw_p15 : lw_okq (⟨"GaugerhallModel", "hasRoom", "(II)Z"⟩, 28) := ⟨⟨by decide +kernel, by decide +kernel⟩, List.mem_of_getElem? (i := 693) (by decide +kernel), List.mem_of_getElem? (i := 810) (by decide +kernel), List.mem_of_getElem? (i := 811) (by decide +kernel)⟩
def lw_privs_1 : List (MethodName × Nat) := [(⟨"Gaugerhall", "isPlace", "(I)Z"⟩, 12), (⟨"java/lang/Throwable", "fillInStackTrace", "(I)Ljava/lang/Throwable;"⟩, 6), (⟨"java/util/ArrayList", "add", "(Ljava/lang/Object;[Ljava/lang/Object;I)V"⟩, 3), (⟨"java/util/ArrayList", "grow", "()[Ljava/lang/Object;"⟩, 3), (⟨"java/util/ArrayList", "grow", "(I)[Ljava/lang/Object;"⟩, 3), (⟨"Gaugerhall", "vesselOf", "(I)LGaugerhall$Vessel;"⟩, 12), (⟨"Gaugerhall", "miss", "(I)I"⟩, 12), (⟨"Gaugerhall", "dropsInLots", "()I"⟩, 12), (⟨"Gaugerhall", "dropsThatMove", "()I"⟩, 12), (⟨"Gaugerhall", "movementOf", "(I)LGaugerhall$Movement;"⟩, 12), (⟨"Gaugerhall", "beginDay", "()V"⟩, 12), (⟨"Gaugerhall", "loseLateMovements", "()V"⟩, 12), (⟨"Gaugerhall", "takeShares", "()V"⟩, 12), (⟨"Gaugerhall", "dropsInVessels", "()I"⟩, 12), (⟨"GaugerhallModel", "isVessel", "(I)Z"⟩, 28), (⟨"GaugerhallModel", "hasRoom", "(II)Z"⟩, 28)]
theorem lw_r1 : ∀ q ∈ lw_privs_1, lw_okq q := List.forall_mem_cons.mpr ⟨lw_p0, List.forall_mem_cons.mpr ⟨lw_p1, List.forall_mem_cons.mpr ⟨lw_p2, List.forall_mem_cons.mpr ⟨lw_p3, List.forall_mem_cons.mpr ⟨lw_p4, List.forall_mem_cons.mpr ⟨lw_p5, List.forall_mem_cons.mpr ⟨lw_p6, List.forall_mem_cons.mpr ⟨lw_p7, List.forall_mem_cons.mpr ⟨lw_p8, List.forall_mem_cons.mpr ⟨lw_p9, List.forall_mem_cons.mpr ⟨lw_p10, List.forall_mem_cons.mpr ⟨lw_p11, List.forall_mem_cons.mpr ⟨lw_p12, List.forall_mem_cons.mpr ⟨lw_p13, List.forall_mem_cons.mpr ⟨lw_p14, List.forall_mem_cons.mpr ⟨lw_p15, fun _ h => absurd h List.not_mem_nil⟩⟩⟩⟩⟩⟩⟩⟩⟩⟩⟩⟩⟩⟩⟩⟩
theorem lw_p16 : lw_okq (⟨"GaugerhallModel", "dutyFor", "(II)I"⟩, 28) := ⟨⟨by decide +kernel, by decide +kernel⟩, List.mem_of_getElem? (i := 693) (by decide +kernel), List.mem_of_getElem? (i := 814) (by decide +kernel), List.mem_of_getElem? (i := 815) (by decide +kernel)⟩
theorem lw_p17 : lw_okq (⟨"GaugerhallModel", "comes", "(III)V"⟩, 28) := ⟨⟨by decide +kernel, by decide +kernel⟩, List.mem_of_getElem? (i := 693) (by decide +kernel), List.mem_of_getElem? (i := 819) (by decide +kernel), List.mem_of_getElem? (i := 820) (by decide +kernel)⟩
theorem lw_p18 : lw_okq (⟨"GaugerhallModel", "with", "(III)I"⟩, 28) := ⟨⟨by decide +kernel, by decide +kernel⟩, List.mem_of_getElem? (i := 693) (by decide +kernel), List.mem_of_getElem? (i := 823) (by decide +kernel), List.mem_of_getElem? (i := 824) (by decide +kernel)⟩
theorem lw_p19 : lw_okq (⟨"GaugerhallModel", "hasPart", "(II)Z"⟩, 28) := ⟨⟨by decide +kernel, by decide +kernel⟩, List.mem_of_getElem? (i := 693) (by decide +kernel), List.mem_of_getElem? (i := 837) (by decide +kernel), List.mem_of_getElem? (i := 838) (by decide +kernel)⟩
theorem lw_p20 : lw_okq (⟨"GaugerhallModel", "takes", "(II)I"⟩, 28) := ⟨⟨by decide +kernel, by decide +kernel⟩, List.mem_of_getElem? (i := 693) (by decide +kernel), List.mem_of_getElem? (i := 841) (by decide +kernel), List.mem_of_getElem? (i := 842) (by decide +kernel)⟩
theorem lw_p21 : lw_okq (⟨"GaugerhallModel", "misses", "(I)I"⟩, 28) := ⟨⟨by decide +kernel, by decide +kernel⟩, List.mem_of_getElem? (i := 693) (by decide +kernel), List.mem_of_getElem? (i := 852) (by decide +kernel), List.mem_of_getElem? (i := 853) (by decide +kernel)⟩
theorem lw_p22 : lw_okq (⟨"GaugerhallModel", "asksPart", "(II)Z"⟩, 28) := ⟨⟨by decide +kernel, by decide +kernel⟩, List.mem_of_getElem? (i := 693) (by decide +kernel), List.mem_of_getElem? (i := 860) (by decide +kernel), List.mem_of_getElem? (i := 861) (by decide +kernel)⟩
theorem lw_p23 : lw_okq (⟨"GaugerhallModel", "inLots", "()I"⟩, 28) := ⟨⟨by decide +kernel, by decide +kernel⟩, List.mem_of_getElem? (i := 693) (by decide +kernel), List.mem_of_getElem? (i := 882) (by decide +kernel), List.mem_of_getElem? (i := 883) (by decide +kernel)⟩
theorem lw_p24 : lw_okq (⟨"GaugerhallModel", "moving", "()I"⟩, 28) := ⟨⟨by decide +kernel, by decide +kernel⟩, List.mem_of_getElem? (i := 693) (by decide +kernel), List.mem_of_getElem? (i := 899) (by decide +kernel), List.mem_of_getElem? (i := 900) (by decide +kernel)⟩
theorem lw_p25 : lw_okq (⟨"GaugerhallModel", "passesOne", "()V"⟩, 28) := ⟨⟨by decide +kernel, by decide +kernel⟩, List.mem_of_getElem? (i := 693) (by decide +kernel), List.mem_of_getElem? (i := 915) (by decide +kernel), List.mem_of_getElem? (i := 916) (by decide +kernel)⟩
theorem lw_p26 : lw_okq (⟨"GaugerhallModel", "inVessels", "()I"⟩, 28) := ⟨⟨by decide +kernel, by decide +kernel⟩, List.mem_of_getElem? (i := 693) (by decide +kernel), List.mem_of_getElem? (i := 940) (by decide +kernel), List.mem_of_getElem? (i := 941) (by decide +kernel)⟩
def lw_privs_2 : List (MethodName × Nat) := [(⟨"GaugerhallModel", "dutyFor", "(II)I"⟩, 28), (⟨"GaugerhallModel", "comes", "(III)V"⟩, 28), (⟨"GaugerhallModel", "with", "(III)I"⟩, 28), (⟨"GaugerhallModel", "hasPart", "(II)Z"⟩, 28), (⟨"GaugerhallModel", "takes", "(II)I"⟩, 28), (⟨"GaugerhallModel", "misses", "(I)I"⟩, 28), (⟨"GaugerhallModel", "asksPart", "(II)Z"⟩, 28), (⟨"GaugerhallModel", "inLots", "()I"⟩, 28), (⟨"GaugerhallModel", "moving", "()I"⟩, 28), (⟨"GaugerhallModel", "passesOne", "()V"⟩, 28), (⟨"GaugerhallModel", "inVessels", "()I"⟩, 28)]
theorem lw_r2 : ∀ q ∈ lw_privs_2, lw_okq q := List.forall_mem_cons.mpr ⟨lw_p16, List.forall_mem_cons.mpr ⟨lw_p17, List.forall_mem_cons.mpr ⟨lw_p18, List.forall_mem_cons.mpr ⟨lw_p19, List.forall_mem_cons.mpr ⟨lw_p20, List.forall_mem_cons.mpr ⟨lw_p21, List.forall_mem_cons.mpr ⟨lw_p22, List.forall_mem_cons.mpr ⟨lw_p23, List.forall_mem_cons.mpr ⟨lw_p24, List.forall_mem_cons.mpr ⟨lw_p25, List.forall_mem_cons.mpr ⟨lw_p26, fun _ h => absurd h List.not_mem_nil⟩⟩⟩⟩⟩⟩⟩⟩⟩⟩⟩
def lw_privs : List (MethodName × Nat) := lw_privs_1 ++ (lw_privs_2)
def lw_tbl : List Cond := k2_sels lw_privs ++ tables_1
theorem lw_privs_ok : ∀ q ∈ lw_privs, lw_okq q := by
  show ∀ q ∈ lw_privs_1 ++ (lw_privs_2), lw_okq q
  exact List.forall_mem_append.mpr ⟨lw_r1, lw_r2⟩
-- ===== end of PART A; then your names; then what follows =====
end
section
/-! ===== BEGIN words of one list among another's, by their places ===== -/
theorem goodIn_r {big : List Cond} (ws : List Cond) (ps : List Nat) (hp : ws = ps.filterMap (fun i => big[i]?)) (h : ws.all goodWord = true) : GoodIn big ws := by
  intro w hw
  have h1 := List.all_eq_true.mp h w hw
  rw [hp] at hw
  obtain ⟨i, -, hi⟩ := List.mem_filterMap.mp hw
  have hm : w ∈ big := by first | exact List.mem_of_getElem? hi | exact List.getElem?_mem hi
  exact ⟨hm, good_of_word h1⟩
theorem goodIn_app {big a b : List Cond} (ha : GoodIn big a) (hb : GoodIn big b) : GoodIn big (a ++ b) := fun w h => (List.mem_append.mp h).elim (ha w) (hb w)
theorem goodIn_ca {big a b : List Cond} {c : Cond} (ha : GoodIn big (c :: a)) (hb : GoodIn big b) : GoodIn big (c :: (a ++ b)) := fun w h => (List.mem_cons.mp h).elim (fun e => ha w (List.mem_cons.mpr (Or.inl e))) (fun h => (List.mem_append.mp h).elim (fun h => ha w (List.mem_cons.mpr (Or.inr h))) (hb w))
theorem goodIn_sub {big ws : List Cond} (hm : ∀ w ∈ ws, w ∈ big) (h : ws.all goodWord = true) : GoodIn big ws := fun w hw => ⟨hm w hw, good_of_word (List.all_eq_true.mp h w hw)⟩
/-! ===== END ===== -/

/-! ===== BEGIN exceptions that leave a method, and their catching by the caller (launches without stack traces) ===== -/
section VXA
/-! The laws vx_back, vx_callV, vx_callS, vx_callSW, vx_throw0, vx_throwS follow proofs of the library, with one case more: JvmDerived/Free/Laws.lean (Back.of_free), Shelf42/LK1.lean (callV, callS), Shelf/KitTraced.lean (throwNew0V, throwNewS). -/
/-- where a method has thrown q: the class by its name, the cell, what was written, the world -/
def vx_T (XC : String → State → State → Prop) (st : State) (q : Addr) (t : State) (mc ms : Nat) (free : Addr → Prop) : Prop :=
  ∃ (E : String) (ce : Cell) (L : List Loc), XC E st t ∧ t.heap[q]? = some ce ∧ ce.vm = .none ∧ st.vm.findClass E = some ce.cls ∧ st.WarmedH t.vm ∧ st.sameButNew ({ t with vm := st.vm } : State) L mc ms ∧ ∀ z ∈ L, free z.base
def vx_Q (Qc : Array Value → State → Outcome → State → Prop) (XC : String → State → State → Prop) (mc ms : Nat) (free : Addr → Prop) : Array Value → State → Outcome → State → Prop := fun a st o t =>
  (Qc a st o t ∧ ∃ L, FrameEnd st o t L mc ms ∧ ∀ q ∈ L, free q.base) ∨ ∃ q, o = .threw q ∧ vx_T XC st q t mc ms free
/-- a callee that returns or throws -/
def vx_Met (l : Launch) (y : MethodName) (ws : List Cond) (rm : Room) (Pc : Array Value → State → Prop) (Qc : Array Value → State → Outcome → State → Prop) (XC : String → State → State → Prop) (mc ms : Nat) (free : Addr → Prop) : Prop :=
  MetFree l y (headSpec ws rm) Pc (fun _ _ _ _ _ => True) (vx_Q Qc XC mc ms free)
def vx_Post (XC : String → State → State → Prop) (mc ms : Nat) (free : Addr → Prop) : Pt → Array Value → Addr → Pt → Prop := fun A a q B =>
  ∃ (g : JFrame) (mk : MethodId) (t : State) (L : List Loc) (E : String) (ce : Cell), B.U.heap = t.heap ∧ B.U.vm = t.vm ∧ XC E (A.U.calling g mk a) t ∧ t.heap[q]? = some ce ∧ ce.vm = .none ∧ A.U.vm.findClass E = some ce.cls ∧ B.locs = A.locs ++ L ∧ (∀ z ∈ L, free z.base) ∧ B.cells = A.cells + mc ∧ B.slots = A.slots + ms
def vx_Back (l : Launch) (R : Room) (p : Program) (e : Env) (below : List Frame) (s : State) (sargs : Array Value) (y : MethodName) (len W9 : Nat)
    (Pre : Pt → Array Value → Prop) (Post : Pt → Array Value → Option Value → Pt → Prop) (PostX : Pt → Array Value → Addr → Pt → Prop) : Prop :=
  ∀ (m : MethodId) (meth : Method) (c : Code) (A : Pt) (g : JFrame) (ig : Instr) (mk : MethodId) (a : Array Value),
    Stand p l e R s m sargs below meth c A.U A.locs A.cells A.slots → g.method = m → g.locals.size = c.maxLocals → decode c.code g.pc = .ok (ig, len) →
    2 * g.monitorRoom + (g.stack.map fun v => v.category).sum ≤ W9 → A.U.methodNamed? y = some mk → Pre A a →
    (∃ (v : Option Value) (B : Pt), Stand p l e R s m sargs below meth c B.U B.locs B.cells B.slots ∧ Post A a v B ∧
      Steps p.tables e below (doInvoke e (A.U.setTop g) [] mk a).1 (B.U.setTop { g with pc := g.pc + len, stack := v.toList ++ g.stack })) ∨
    (∃ (q : Addr) (B : Pt), Stand p l e R s m sargs below meth c B.U B.locs B.cells B.slots ∧ PostX A a q B ∧
      Steps p.tables e below (doInvoke e (A.U.setTop g) [] mk a).1 ((B.U.setTop g).pushFrame (.throwing q)))
section Payer
variable {l : Launch} {R : Room} {p : Program} {e : Env} {below : List Frame} {s : State} {sargs : Array Value} {y : MethodName} {len W9 : Nat}
theorem vx_back {ws : List Cond} {rm : Room} {Pc : Array Value → State → Prop} {Qc : Array Value → State → Outcome → State → Prop} {XC : String → State → State → Prop} {mc ms : Nat} {free : Addr → Prop} {bytes : ByteArray} {maxL : Nat} {ret : Option FieldType}
    (hM : vx_Met l y ws rm Pc Qc XC mc ms free) (hblind : FrameBlind Pc) (hrc : rm.cells = mc) (hrs : rm.slots = ms)
    (hframes : rm.frames + 1 ≤ R.frames) (hlocals : W9 + (maxL + 11) + rm.locals ≤ R.locals)
    (hws : ∀ w ∈ ws, ∀ a' U, s.WarmedH U.vm → w.before a' U = true) (hcode : Cond.code y bytes maxL ret ∈ ws) (hinit : ∀ a' U, s.WarmedH U.vm → (Cond.initialized y.cls).before a' U = true) :
    vx_Back l R p e below s sargs y len W9 (PreOf R mc ms Pc) (PostOf Qc mc ms free) (vx_Post XC mc ms free) := by
  intro m meth c A g ig mk a X hg hsize hdg hW hn hp
  have h1 : (headSpec ws rm).pre.before a A.U = true := atoms_intro fun w hw => hws w hw _ _ X.warmed
  have h2 : (Cond.code y bytes maxL ret).before a A.U = true := hws _ hcode _ _ X.warmed
  have h3 : (Cond.initialized y.cls).before a A.U = true := hinit _ _ X.warmed
  have h4 : A.cells + (headSpec ws rm).room.cells ≤ R.cells := by rw [show (headSpec ws rm).room.cells = mc from hrc]; exact hp.1
  have h5 : A.slots + (headSpec ws rm).room.slots ≤ R.slots := by rw [show (headSpec ws rm).room.slots = ms from hrs]; exact hp.2.1
  have hPc : Pc a (A.U.calling g mk a) := hblind _ _ _ _ hp.2.2
  obtain ⟨U, Ls, c0, s0⟩ := A
  dsimp only [Pt.U, Pt.locs, Pt.cells, Pt.slots] at h1 h2 h3 h4 h5 X hn hPc ⊢
  obtain ⟨methY, cY, hmY, hcY, -, hlY, -, -, -, -⟩ := Cond.code_spec hn h2
  obtain ⟨kY, hkY, -⟩ := className_of_methodNamed hn
  have hinitY : kY.init = .initialized := Cond.initialized_spec (findClass_of_methodNamed hn) hkY h3
  have h : At U g.method c below := by rw [hg]; exact X.here
  have hlocals9 : W9 + (maxL + 11) + (headSpec ws rm).room.locals ≤ R.locals := hlocals
  have happ : (headSpec ws rm).appliesLoose y e.platform (U.calling g mk a) = true :=
    Spec.appliesLoose_calling (g := g) h hdg hn hkY hinitY
      (X.room_calling (g := g) (R' := (headSpec ws rm).room) hsize hmY hcY hframes (by rw [hlY]; omega) h4 h5) h1
  obtain ⟨mid, hmid⟩ := h.above
  have hfr : (U.setTop g).frames = (.java g :: mid) ++ below := by rw [State.frames_setTop' g h.top, hmid]; rfl
  obtain ⟨o, s₂, hsteps, -, hend, hq⟩ := Steps.callFree hM p X.admits X.cas X.clock (acts := []) hfr happ hPc trivial
  have hq' : vx_Q Qc XC mc ms free a (U.calling g mk a) o s₂ := hq
  rw [State.frames_setTop' g h.top] at hend
  obtain ⟨g₀, hg0⟩ := Option.isSome_iff_exists.mp h.top
  obtain ⟨r, hr⟩ := State.topJava?_eq_some.mp hg0
  have hr' : (({ U with heap := s₂.heap, slotsUsed := s₂.slotsUsed } : State).setVm s₂.vm).frames = .java g₀ :: r := hr
  rcases hq' with ⟨hqc, L, hfe, hL⟩ | ⟨q, rfl, E, ce, L, hx, hce, hcv, hcl, hW₂, hsm, hL⟩
  · obtain ⟨⟨v, rfl⟩, hW₂, e2, q2, q3, q4, q5, q6⟩ := id hfe
    have e3 : s₂ = ({ (U.calling g mk a).setFrames s₂.frames with heap := s₂.heap, slotsUsed := s₂.slotsUsed } : State).setVm s₂.vm := by
      have : s₂ = ({ s₂ with vm := (U.calling g mk a).vm } : State).setVm s₂.vm := rfl
      rw [e2] at this
      exact this
    obtain ⟨c₂, i₂, len₂, hc₂, hd₂, hf₂⟩ := hend
    have hW' : U.WarmedH s₂.vm := hW₂
    have hcc : c₂ = c := by
      have h1 : s₂.code? g.method = U.code? g.method := by
        rw [State.code?_eq, State.code?_eq, hW'.alike.method?]
      exact Option.some.inj (hc₂.symm.trans (h1.trans h.code))
    subst hcc
    have hlen : len₂ = len := by rw [hdg] at hd₂; cases hd₂; rfl
    subst hlen
    have hs₂ : s₂ = (({ U with heap := s₂.heap, slotsUsed := s₂.slotsUsed } : State).setVm s₂.vm).setTop { g with pc := g.pc + len₂, stack := v.toList ++ g.stack } := by
      refine e3.trans ?_
      rw [hf₂, State.calling_eq h.top, State.setFrames_setFrames, State.setTop_of_frames _ hr', hr]
      rfl
    have hsame : U.sameButNew ({ U with heap := s₂.heap, slotsUsed := s₂.slotsUsed } : State) L mc ms := by
      refine ⟨?_, q2, q3, q4, q5, q6⟩
      obtain ⟨t, ht, -⟩ := State.frames_cons hr
      show ({ U with heap := s₂.heap, slotsUsed := s₂.slotsUsed } : State) = { U.setFrames U.frames with heap := s₂.heap, slotsUsed := s₂.slotsUsed }
      rw [State.setFrames_self ht]
    subst hg
    refine Or.inl ⟨v, ⟨(({ U with heap := s₂.heap, slotsUsed := s₂.slotsUsed } : State).setVm s₂.vm), Ls ++ L, c0 + mc, s0 + ms⟩,
      ⟨X.admits, X.cas, X.clock, X.frames, X.room, X.hears, X.method, X.code, (X.here.setHeapUsed s₂.heap s₂.slotsUsed).setVm hW'.alike, X.tail, State.WarmedH.trans X.warmed hW', X.limits, X.bytes, X.same.trans (hsame.setVm s.vm)⟩,
      ⟨g, mk, s₂, L, rfl, rfl, hqc, rfl, hL, rfl, rfl⟩, ?_⟩
    show Steps p.tables e below _ ((({ U with heap := s₂.heap, slotsUsed := s₂.slotsUsed } : State).setVm s₂.vm).setTop { g with pc := g.pc + len₂, stack := v.toList ++ g.stack })
    rw [← hs₂]
    exact hsteps
  · obtain ⟨e2, q2, q3, q4, q5, q6⟩ := id hsm
    have e3 : s₂ = ({ (U.calling g mk a).setFrames s₂.frames with heap := s₂.heap, slotsUsed := s₂.slotsUsed } : State).setVm s₂.vm := by
      have : s₂ = ({ s₂ with vm := (U.calling g mk a).vm } : State).setVm s₂.vm := rfl
      rw [e2] at this
      exact this
    have hf₂ : s₂.frames = .throwing q :: .java g :: U.frames.tail := hend
    have hW' : U.WarmedH s₂.vm := hW₂
    have hs₂ : s₂ = ((({ U with heap := s₂.heap, slotsUsed := s₂.slotsUsed } : State).setVm s₂.vm).setTop g).pushFrame (.throwing q) := by
      refine e3.trans ?_
      rw [hf₂, State.calling_eq h.top, State.setFrames_setFrames, State.pushFrame, State.frames_setTop _ hr', State.setTop_of_frames _ hr', State.setFrames_setFrames, hr]
      rfl
    have hsame : U.sameButNew ({ U with heap := s₂.heap, slotsUsed := s₂.slotsUsed } : State) L mc ms := by
      refine ⟨?_, q2, q3, q4, q5, q6⟩
      obtain ⟨t, ht, -⟩ := State.frames_cons hr
      show ({ U with heap := s₂.heap, slotsUsed := s₂.slotsUsed } : State) = { U.setFrames U.frames with heap := s₂.heap, slotsUsed := s₂.slotsUsed }
      rw [State.setFrames_self ht]
    subst hg
    refine Or.inr ⟨q, ⟨(({ U with heap := s₂.heap, slotsUsed := s₂.slotsUsed } : State).setVm s₂.vm), Ls ++ L, c0 + mc, s0 + ms⟩,
      ⟨X.admits, X.cas, X.clock, X.frames, X.room, X.hears, X.method, X.code, (X.here.setHeapUsed s₂.heap s₂.slotsUsed).setVm hW'.alike, X.tail, State.WarmedH.trans X.warmed hW', X.limits, X.bytes, X.same.trans (hsame.setVm s.vm)⟩,
      ⟨g, mk, s₂, L, E, ce, rfl, rfl, hx, hce, hcv, hcl, rfl, hL, rfl, rfl⟩, ?_⟩
    show Steps p.tables e below _ (((({ U with heap := s₂.heap, slotsUsed := s₂.slotsUsed } : State).setVm s₂.vm).setTop g).pushFrame (.throwing q))
    rw [← hs₂]
    exact hsteps
end Payer
section Calls
variable {p : Program} {l : Launch} {e : Env} {R : Room} {s : State} {m : MethodId} {args : Array Value} {below : List Frame} {meth : Method} {c : Code} {T : State} {locs : List Loc} {cells slots : Nat}
theorem vx_callV (X : Stand p l e R s m args below meth c T locs cells slots) (hexec : p.tables.exec = Jvm.exec) {own C : String} {index : Nat} {y : MethodName} {bytes : ByteArray} {maxL : Nat} {ret : Option FieldType}
    (hown : s.vm.findClass own = some m.cls) (hlink : (Cond.methodLink own index y).before args s = true) (hinst : (Cond.instanceMethod y).before args s = true) (hsel : (Cond.selects C y y).before args s = true)
    (hcode : (Cond.code y bytes maxL ret).before args s = true) (hy : y.cls ≠ "java/lang/invoke/MethodHandle" ∧ y.cls ≠ "java/lang/invoke/VarHandle")
    {W9 : Nat} {Pre : Pt → Array Value → Prop} {Post : Pt → Array Value → Option Value → Pt → Prop} {PostX : Pt → Array Value → Addr → Pt → Prop} (hK : vx_Back l R p e below s args y 3 W9 Pre Post PostX)
    {b : Addr} {cellB : Cell} (hcell : T.heap[b]? = some cellB) (hobj : cellB.vm.isStatics = false) (hcls : s.vm.findClass C = some cellB.cls)
    {g : JFrame} (hg : g.method = m) (hsize : g.locals.size = c.maxLocals) {argsL rest : List Value} (hlen : ∀ sig, parseMethodDescriptor y.desc = some sig → argsL.length = sig.parameters.length)
    (hstack : g.stack = argsL.reverse ++ .ref b :: rest) (hW : 2 * g.monitorRoom + (rest.map fun v => v.category).sum ≤ W9) (hdg : decode c.code g.pc = .ok (.invokevirtual index, 3))
    (hpre : ∀ vm₁, s.WarmedH vm₁ → Pre ⟨T.setVm vm₁, locs, cells, slots⟩ (Value.ref b :: argsL).toArray) :
    (∃ (v : Option Value) (vm₁ : Vm) (B : Pt), s.WarmedH vm₁ ∧ Stand p l e R s m args below meth c B.U B.locs B.cells B.slots ∧ Post ⟨T.setVm vm₁, locs, cells, slots⟩ (Value.ref b :: argsL).toArray v B ∧
      ∀ target, Steps p.tables e below (B.U.setTop { g with pc := g.pc + 3, stack := v.toList ++ rest }) target → Steps p.tables e below (T.setTop g) target) ∨
    (∃ (q : Addr) (vm₁ : Vm) (B : Pt), s.WarmedH vm₁ ∧ Stand p l e R s m args below meth c B.U B.locs B.cells B.slots ∧ PostX ⟨T.setVm vm₁, locs, cells, slots⟩ (Value.ref b :: argsL).toArray q B ∧
      Steps p.tables e below (T.setTop g) ((B.U.setTop { g with stack := rest }).pushFrame (.throwing q))) := by
  obtain ⟨mk, methM, hnamed, hmethM, hstM, habM⟩ := Cond.instanceMethod_spec hinst
  obtain ⟨methM', cM, hmethM', -, -, -, -, -, -, hsigM⟩ := Cond.code_spec hnamed hcode
  cases hmethM.symm.trans hmethM'
  obtain ⟨c2, r2, m2, q1, q2, q3, q4, kP, hkP, hkPi⟩ := Cond.selects_spec hsel
  cases hcls.symm.trans q1
  cases (State.methodFound?_of_named hnamed hy).symm.trans q2
  cases hnamed.symm.trans q3
  have hselP : selectMethod e.platform s.vm cellB.cls mk = .method mk := by rw [Launch.admits_selectMethod X.admits]; exact q4
  obtain ⟨vm₁, X₁, hstep₁⟩ := X.invokevirtual hexec hown hlink hnamed hmethM hstM hkP hkPi hy (a := b) (cell := cellB) hcell
    (fun z h => by rw [h] at hobj; cases hobj) hselP hmethM habM hkP hkPi (g := g) hg (argsL := argsL) (rest := rest) (hlen _ hsigM) hstack hdg
  rcases hK m meth c ⟨T.setVm vm₁, locs, cells, slots⟩ { g with stack := rest } (.invokevirtual index) mk (Value.ref b :: argsL).toArray X₁ hg hsize hdg hW (X₁.named hnamed) (hpre vm₁ X₁.warmed) with ⟨v, B, X', hpost, hsteps⟩ | ⟨q, B, X', hpost, hsteps⟩
  · exact Or.inl ⟨v, vm₁, B, X₁.warmed, X', hpost, fun target h => hstep₁ _ fun acts => by rw [doInvoke_state]; exact hsteps.trans h⟩
  · exact Or.inr ⟨q, vm₁, B, X₁.warmed, X', hpost, hstep₁ _ fun acts => by rw [doInvoke_state]; exact hsteps⟩
theorem vx_callS (X : Stand p l e R s m args below meth c T locs cells slots) (hexec : p.tables.exec = Jvm.exec) {own : String} {index : Nat} {y : MethodName} {bytes : ByteArray} {maxL : Nat} {ret : Option FieldType}
    (hown : s.vm.findClass own = some m.cls) (hlink : (Cond.methodLink own index y).before args s = true) (hstat : (Cond.static y).before args s = true) (hinit : (Cond.initialized y.cls).before args s = true)
    (hcode : (Cond.code y bytes maxL ret).before args s = true) (hy : y.cls ≠ "java/lang/invoke/MethodHandle" ∧ y.cls ≠ "java/lang/invoke/VarHandle")
    {W9 : Nat} {Pre : Pt → Array Value → Prop} {Post : Pt → Array Value → Option Value → Pt → Prop} {PostX : Pt → Array Value → Addr → Pt → Prop} (hK : vx_Back l R p e below s args y 3 W9 Pre Post PostX)
    {g : JFrame} (hg : g.method = m) (hsize : g.locals.size = c.maxLocals) {argsL rest : List Value} (hlen : ∀ sig, parseMethodDescriptor y.desc = some sig → argsL.length = sig.parameters.length)
    (hstack : g.stack = argsL.reverse ++ rest) (hW : 2 * g.monitorRoom + (rest.map fun v => v.category).sum ≤ W9) (hdg : decode c.code g.pc = .ok (.invokestatic index, 3))
    (hpre : ∀ vm₁, s.WarmedH vm₁ → Pre ⟨T.setVm vm₁, locs, cells, slots⟩ argsL.toArray) :
    (∃ (v : Option Value) (vm₁ : Vm) (B : Pt), s.WarmedH vm₁ ∧ Stand p l e R s m args below meth c B.U B.locs B.cells B.slots ∧ Post ⟨T.setVm vm₁, locs, cells, slots⟩ argsL.toArray v B ∧
      ∀ target, Steps p.tables e below (B.U.setTop { g with pc := g.pc + 3, stack := v.toList ++ rest }) target → Steps p.tables e below (T.setTop g) target) ∨
    (∃ (q : Addr) (vm₁ : Vm) (B : Pt), s.WarmedH vm₁ ∧ Stand p l e R s m args below meth c B.U B.locs B.cells B.slots ∧ PostX ⟨T.setVm vm₁, locs, cells, slots⟩ argsL.toArray q B ∧
      Steps p.tables e below (T.setTop g) ((B.U.setTop { g with stack := rest }).pushFrame (.throwing q))) := by
  obtain ⟨mk, hnamed⟩ := Cond.code_named hcode
  obtain ⟨methM, cM, hmethM, -, -, -, -, -, -, hsigM⟩ := Cond.code_spec hnamed hcode
  have hstatic : methM.isStatic = true := Cond.static_spec hnamed hmethM hstat
  obtain ⟨kP, hkP, -⟩ := className_of_methodNamed hnamed
  have hinitP : kP.init = .initialized := Cond.initialized_spec (findClass_of_methodNamed hnamed) hkP hinit
  obtain ⟨vm₁, X₁, hstep₁⟩ := X.invokestatic hexec hown hlink hnamed hmethM hstatic hkP hinitP hy (g := g) hg (argsL := argsL) (rest := rest) (hlen _ hsigM) hstack hdg
  rcases hK m meth c ⟨T.setVm vm₁, locs, cells, slots⟩ { g with stack := rest } (.invokestatic index) mk argsL.toArray X₁ hg hsize hdg hW (X₁.named hnamed) (hpre vm₁ X₁.warmed) with ⟨v, B, X', hpost, hsteps⟩ | ⟨q, B, X', hpost, hsteps⟩
  · exact Or.inl ⟨v, vm₁, B, X₁.warmed, X', hpost, fun target h => hstep₁ _ fun acts => by rw [doInvoke_state]; exact hsteps.trans h⟩
  · exact Or.inr ⟨q, vm₁, B, X₁.warmed, X', hpost, hstep₁ _ fun acts => by rw [doInvoke_state]; exact hsteps⟩
end Calls
theorem vx_cls {s : State} {T : State} {vm₁ : Vm} {E : String} {k : ClassId} (hW : s.WarmedH vm₁) (h : (T.setVm vm₁).vm.findClass E = some k) : s.vm.findClass E = some k := by
  have h1 : vm₁.findClass E = some k := h
  rw [hW.alike.findClass] at h1
  exact h1
/-- the method's frame g, with q thrown over it -/
def vx_W (p : Program) (l : Launch) (e : Env) (R : Room) (s : State) (m : MethodId) (args : Array Value) (below : List Frame) (meth : Method) (c : Code) (H : Heap) (locs : List Loc) (cells slots : Nat) (Q : State → Prop) (g : JFrame) (q : Addr) : Prop :=
  ∀ T : State, T.heap = H → Stand p l e R s m args below meth c T locs cells slots → ∃ t, Steps p.tables e below ((T.setTop g).pushFrame (.throwing q)) t ∧ Q t
def vx_Run (p : Program) (l : Launch) (e : Env) (R : Room) (s : State) (m : MethodId) (args : Array Value) (below : List Frame) (meth : Method) (c : Code) (H : Heap) (locs : List Loc) (cells slots mc ms : Nat) (g : JFrame) (rest : List Value) (Qa : State → Outcome → State → Prop) (XC : String → State → State → Prop) (free : Addr → Prop) : Prop :=
  ∀ T : State, T.heap = H → Stand p l e R s m args below meth c T locs cells slots →
    (∃ (v : Option Value) (st₀ t T' : State) (L : List Loc), st₀.heap = H ∧ Stand p l e R s m args below meth c T' (locs ++ L) (cells + mc) (slots + ms) ∧ (∀ q ∈ L, free q.base) ∧ T'.heap = t.heap ∧ T'.vm = t.vm ∧ Qa st₀ (.returned v) t ∧
      Goes p e below T g T' { g with pc := g.pc + 3, stack := v.toList ++ rest }) ∨
    (∃ (q : Addr) (st₀ t T' : State) (L : List Loc) (E : String) (ce : Cell), st₀.heap = H ∧ Stand p l e R s m args below meth c T' (locs ++ L) (cells + mc) (slots + ms) ∧ (∀ z ∈ L, free z.base) ∧ T'.heap = t.heap ∧ T'.vm = t.vm ∧ XC E st₀ t ∧ t.heap[q]? = some ce ∧ ce.vm = .none ∧ s.vm.findClass E = some ce.cls ∧
      Steps p.tables e below (T.setTop g) ((T'.setTop { g with stack := rest }).pushFrame (.throwing q)))
def vx_X {S : Type} (px : S → Prop) (B : String → S → State → Prop) (A : Nat → Prop) : String → State → State → Prop := fun E st t => ∃ u : S, px u ∧ B E u t ∧ va_F A st t
section Runs
variable {p : Program} {l : Launch} {e : Env} {R : Room} {s : State} {m : MethodId} {args : Array Value} {below : List Frame} {meth : Method} {c : Code} {H : Heap} {locs : List Loc} {cells slots : Nat}
variable {y : MethodName} {bytes cc : ByteArray} {maxL nL mc ms n index : Nat} {ret : Option FieldType} {ws : List Cond} {rm : Room} {Pc : Array Value → State → Prop} {Qc : Array Value → State → Outcome → State → Prop} {XC : String → State → State → Prop} {free : Addr → Prop} {Ts : List Cond} {own C : String} {b : Addr} {As rest : List Value} {g : JFrame}
theorem vx_callBack (cb : CallB R s args own index y bytes maxL ret ws rm mc ms n) (hM : vx_Met l y ws rm Pc Qc XC mc ms free) (hbl : FrameBlind Pc) : vx_Back l R p e below s args y 3 8 (PreOf R mc ms Pc) (PostOf Qc mc ms free) (vx_Post XC mc ms free) := by
  obtain ⟨hrc, hrs, hfr, hlo, hws, hcw, -, hini, -⟩ := cb
  exact vx_back (bytes := bytes) (maxL := maxL) (ret := ret) hM hbl hrc hrs hfr hlo hws hcw (fun a' U hW => word_at hW (Or.inl (by first | rfl | simp [Cond.onTables, Cond.keeps, Cond.steady])) hini)
theorem vx_runV (S : CallFix p m c cc nL s args Ts own) (hM : vx_Met l y ws rm Pc Qc XC mc ms free) (cw : CallW R s args own C index y bytes maxL ret ws rm mc ms n) (hp : PreV s H C b Pc As)
    (hg : g.method = m) (hn : As.length = n) (hsize : g.locals.size = nL) (hstack : g.stack = As.reverse ++ .ref b :: rest) (hW : 2 * g.monitorRoom + (rest.map fun v => v.category).sum ≤ 8) (hdg : decode cc g.pc = .ok (.invokevirtual index, 3)) (hf : cells + mc ≤ R.cells ∧ slots + ms ≤ R.slots) :
    vx_Run p l e R s m args below meth c H locs cells slots mc ms g rest (Qc (Value.ref b :: As).toArray) XC free := by
  have hK : vx_Back l R p e below s args y 3 8 (PreOf R mc ms Pc) (PostOf Qc mc ms free) (vx_Post XC mc ms free) := vx_callBack cw.1 hM hp.1
  obtain ⟨⟨-, -, -, -, -, -, hcode, -, hy, hlen, hl⟩, hin, hse⟩ := cw
  obtain ⟨hx, hb, hml, ho, -⟩ := S
  obtain ⟨-, ⟨cellB, hcB, hoB, hclB⟩, hPc⟩ := hp
  intro T hT X
  rcases vx_callV X hx (C := C) (bytes := bytes) (maxL := maxL) (ret := ret) ho hl hin hse hcode hy hK (by rw [hT]; exact hcB) hoB hclB hg (hsize.trans hml.symm) (argsL := As) (rest := rest) (fun sig h => hn.trans (hlen sig h)) hstack hW (by rw [hb]; exact hdg)
    (fun vm₁ hW₁ => ⟨hf.1, hf.2, hPc (T.setVm vm₁) hT hW₁⟩) with ⟨v, vm₁, ⟨U', l2, c2, s2⟩, hW₁, X', ⟨g', mk, t, L, e1, e2, hq, h1, hL, h2, h3⟩, st⟩ | ⟨q, vm₁, ⟨U', l2, c2, s2⟩, hW₁, X', ⟨g', mk, t, L, E, ce, e1, e2, hq, hce, hcv, hcl, h1, hL, h2, h3⟩, st⟩
  · dsimp only [Pt.U, Pt.locs, Pt.cells, Pt.slots] at X' e1 e2 h1 h2 h3 st
    subst h1; subst h2; subst h3
    exact Or.inl ⟨v, (T.setVm vm₁).calling g' mk (Value.ref b :: As).toArray, t, U', L, hT, X', hL, e1, e2, hq, st⟩
  · dsimp only [Pt.U, Pt.locs, Pt.cells, Pt.slots] at X' e1 e2 h1 h2 h3 st hcl
    subst h1; subst h2; subst h3
    exact Or.inr ⟨q, (T.setVm vm₁).calling g' mk (Value.ref b :: As).toArray, t, U', L, E, ce, hT, X', hL, e1, e2, hq, hce, hcv, vx_cls hW₁ hcl, st⟩
theorem vx_runS (S : CallFix p m c cc nL s args Ts own) (hM : vx_Met l y ws rm Pc Qc XC mc ms free) (cw : CallB R s args own index y bytes maxL ret ws rm mc ms n ∧ (Cond.static y).before args s = true) (hp : PreS s H Pc As)
    (hg : g.method = m) (hn : As.length = n) (hsize : g.locals.size = nL) (hstack : g.stack = As.reverse ++ rest) (hW : 2 * g.monitorRoom + (rest.map fun v => v.category).sum ≤ 8) (hdg : decode cc g.pc = .ok (.invokestatic index, 3)) (hf : cells + mc ≤ R.cells ∧ slots + ms ≤ R.slots) :
    vx_Run p l e R s m args below meth c H locs cells slots mc ms g rest (Qc As.toArray) XC free := by
  have hK : vx_Back l R p e below s args y 3 8 (PreOf R mc ms Pc) (PostOf Qc mc ms free) (vx_Post XC mc ms free) := vx_callBack cw.1 hM hp.1
  obtain ⟨⟨-, -, -, -, -, -, hcode, hini, hy, hlen, hl⟩, hstt⟩ := cw
  obtain ⟨hx, hb, hml, ho, -⟩ := S
  intro T hT X
  rcases vx_callS X hx (bytes := bytes) (maxL := maxL) (ret := ret) ho hl hstt hini hcode hy hK hg (hsize.trans hml.symm) (argsL := As) (rest := rest) (fun sig h => hn.trans (hlen sig h)) hstack hW (by rw [hb]; exact hdg)
    (fun vm₁ hW₁ => ⟨hf.1, hf.2, hp.2 (T.setVm vm₁) hT hW₁⟩) with ⟨v, vm₁, ⟨U', l2, c2, s2⟩, hW₁, X', ⟨g', mk, t, L, e1, e2, hq, h1, hL, h2, h3⟩, st⟩ | ⟨q, vm₁, ⟨U', l2, c2, s2⟩, hW₁, X', ⟨g', mk, t, L, E, ce, e1, e2, hq, hce, hcv, hcl, h1, hL, h2, h3⟩, st⟩
  · dsimp only [Pt.U, Pt.locs, Pt.cells, Pt.slots] at X' e1 e2 h1 h2 h3 st
    subst h1; subst h2; subst h3
    exact Or.inl ⟨v, (T.setVm vm₁).calling g' mk As.toArray, t, U', L, hT, X', hL, e1, e2, hq, st⟩
  · dsimp only [Pt.U, Pt.locs, Pt.cells, Pt.slots] at X' e1 e2 h1 h2 h3 st hcl
    subst h1; subst h2; subst h3
    exact Or.inr ⟨q, (T.setVm vm₁).calling g' mk As.toArray, t, U', L, E, ce, hT, X', hL, e1, e2, hq, hce, hcv, vx_cls hW₁ hcl, st⟩
end Runs
section Rows
variable {p : Program} {l : Launch} {e : Env} {R : Room} {s : State} {m : MethodId} {args : Array Value} {below : List Frame} {meth : Method} {c : Code} {H : Heap} {locs : List Loc} {cells slots : Nat} {Q : State → Prop}
variable {mc ms : Nat} {free : Addr → Prop} {A0 A1 : Nat → Prop} {H0 : Heap} {a : Array Value} {pc : Nat} {ls : Array Slot} {st0 rest : List Value}
theorem vx_keep {st₀ t T' : State} {L : List Loc} (h0 : st₀.heap = H) (e1 : T'.heap = t.heap) (hS : va_S A0 H0 H locs) (hA : ∀ q, q < H.size → A1 q → A0 q) (hf : ∀ q, free q → A0 q) (hL : ∀ q ∈ L, free q.base) (hF : va_F A1 st₀ t) :
    H.size ≤ T'.heap.size ∧ (∀ q : Nat, q < H.size → ¬ A1 q → T'.heap[q]? = H[q]?) ∧ va_S A0 H0 T'.heap (locs ++ L) := by
  obtain ⟨hz, hk⟩ := hF
  rw [h0] at hz hk
  exact ⟨by rw [e1]; exact hz, fun q h1 h2 => by rw [e1]; exact hk q h1 h2,
    ⟨Nat.le_trans hS.1 (by rw [e1]; exact hz), fun q h1 h2 => by rw [e1, hk q (Nat.lt_of_lt_of_le h1 hS.1) (fun z => h2 (hA q (Nat.lt_of_lt_of_le h1 hS.1) z))]; exact hS.2.1 q h1 h2, fun q hq => by
      rcases List.mem_append.mp hq with h | h
      · exact hS.2.2 q h
      · exact hf _ (hL q h)⟩⟩
theorem vx_calli {S SX : Type} {post : Int32 → S → Prop} {px : SX → Prop} {B : S → State → Prop} {BX : String → SX → State → Prop} {AX : Nat → Prop} (hr : vx_Run p l e R s m args below meth c H locs cells slots mc ms (F0 m pc ls st0) rest (va_Qi post B A1 a) (vx_X px BX AX) free) (hS : va_S A0 H0 H locs) (hA : ∀ q, q < H.size → A1 q → A0 q) (hf : ∀ q, free q → A0 q) (hAX : ∀ q, q < H.size → AX q → A0 q)
    (kx : ∀ (E : String) (ce : Cell) (q9 : Addr) (u : SX) (t : State) (H1 : Heap) (locs1 : List Loc), t.heap = H1 → s.vm.Alike t.vm → px u → BX E u t → H.size ≤ H1.size → (∀ q : Nat, q < H.size → ¬ AX q → H1[q]? = H[q]?) → va_S A0 H0 H1 locs1 → H1[q9]? = some ce → ce.vm = .none → s.vm.findClass E = some ce.cls → vx_W p l e R s m args below meth c H1 locs1 (cells + mc) (slots + ms) Q (F0 m pc ls rest) q9)
    (kk : ∀ (r : Int32) (u : S) (t : State) (H1 : Heap) (locs1 : List Loc), t.heap = H1 → s.vm.Alike t.vm → post r u → B u t → H.size ≤ H1.size → (∀ q : Nat, q < H.size → ¬ A1 q → H1[q]? = H[q]?) → va_S A0 H0 H1 locs1 → W p l e R s m args below meth c H1 locs1 (cells + mc) (slots + ms) Q (F0 m (pc + 3) ls (.int r :: rest))) : W p l e R s m args below meth c H locs cells slots Q (F0 m pc ls st0) := by
  intro T hT X
  rcases hr T hT X with ⟨v, st₀, t, T', L, h0, X', hL, e1, e2, ⟨⟨r, u, hv, hp, hb⟩, hF⟩, st⟩ | ⟨q, st₀, t, T', L, E, ce, h0, X', hL, e1, e2, ⟨u, hp, hb, hF⟩, hce, hcv, hcl, st⟩
  · cases hv
    obtain ⟨k1, k2, k3⟩ := vx_keep h0 e1 hS hA hf hL hF
    obtain ⟨t2, a1, b1⟩ := kk r u t T'.heap (locs ++ L) e1.symm (by rw [← e2]; exact X'.warmed.alike) hp hb k1 k2 k3 T' rfl X'
    exact ⟨t2, st t2 a1, b1⟩
  · obtain ⟨k1, k2, k3⟩ := vx_keep h0 e1 hS hAX hf hL hF
    obtain ⟨t2, a1, b1⟩ := kx E ce q u t T'.heap (locs ++ L) e1.symm (by rw [← e2]; exact X'.warmed.alike) hp hb k1 k2 k3 (by rw [e1]; exact hce) hcv hcl T' rfl X'
    exact ⟨t2, st.trans a1, b1⟩
theorem vx_calll {S SX : Type} {post : Int64 → S → Prop} {px : SX → Prop} {B : S → State → Prop} {BX : String → SX → State → Prop} {AX : Nat → Prop} (hr : vx_Run p l e R s m args below meth c H locs cells slots mc ms (F0 m pc ls st0) rest (va_Ql post B A1 a) (vx_X px BX AX) free) (hS : va_S A0 H0 H locs) (hA : ∀ q, q < H.size → A1 q → A0 q) (hf : ∀ q, free q → A0 q) (hAX : ∀ q, q < H.size → AX q → A0 q)
    (kx : ∀ (E : String) (ce : Cell) (q9 : Addr) (u : SX) (t : State) (H1 : Heap) (locs1 : List Loc), t.heap = H1 → s.vm.Alike t.vm → px u → BX E u t → H.size ≤ H1.size → (∀ q : Nat, q < H.size → ¬ AX q → H1[q]? = H[q]?) → va_S A0 H0 H1 locs1 → H1[q9]? = some ce → ce.vm = .none → s.vm.findClass E = some ce.cls → vx_W p l e R s m args below meth c H1 locs1 (cells + mc) (slots + ms) Q (F0 m pc ls rest) q9)
    (kk : ∀ (r : Int64) (u : S) (t : State) (H1 : Heap) (locs1 : List Loc), t.heap = H1 → s.vm.Alike t.vm → post r u → B u t → H.size ≤ H1.size → (∀ q : Nat, q < H.size → ¬ A1 q → H1[q]? = H[q]?) → va_S A0 H0 H1 locs1 → W p l e R s m args below meth c H1 locs1 (cells + mc) (slots + ms) Q (F0 m (pc + 3) ls (.long r :: rest))) : W p l e R s m args below meth c H locs cells slots Q (F0 m pc ls st0) := by
  intro T hT X
  rcases hr T hT X with ⟨v, st₀, t, T', L, h0, X', hL, e1, e2, ⟨⟨r, u, hv, hp, hb⟩, hF⟩, st⟩ | ⟨q, st₀, t, T', L, E, ce, h0, X', hL, e1, e2, ⟨u, hp, hb, hF⟩, hce, hcv, hcl, st⟩
  · cases hv
    obtain ⟨k1, k2, k3⟩ := vx_keep h0 e1 hS hA hf hL hF
    obtain ⟨t2, a1, b1⟩ := kk r u t T'.heap (locs ++ L) e1.symm (by rw [← e2]; exact X'.warmed.alike) hp hb k1 k2 k3 T' rfl X'
    exact ⟨t2, st t2 a1, b1⟩
  · obtain ⟨k1, k2, k3⟩ := vx_keep h0 e1 hS hAX hf hL hF
    obtain ⟨t2, a1, b1⟩ := kx E ce q u t T'.heap (locs ++ L) e1.symm (by rw [← e2]; exact X'.warmed.alike) hp hb k1 k2 k3 (by rw [e1]; exact hce) hcv hcl T' rfl X'
    exact ⟨t2, st.trans a1, b1⟩
theorem vx_callf {S SX : Type} {post : UInt32 → S → Prop} {px : SX → Prop} {B : S → State → Prop} {BX : String → SX → State → Prop} {AX : Nat → Prop} (hr : vx_Run p l e R s m args below meth c H locs cells slots mc ms (F0 m pc ls st0) rest (va_Qf post B A1 a) (vx_X px BX AX) free) (hS : va_S A0 H0 H locs) (hA : ∀ q, q < H.size → A1 q → A0 q) (hf : ∀ q, free q → A0 q) (hAX : ∀ q, q < H.size → AX q → A0 q)
    (kx : ∀ (E : String) (ce : Cell) (q9 : Addr) (u : SX) (t : State) (H1 : Heap) (locs1 : List Loc), t.heap = H1 → s.vm.Alike t.vm → px u → BX E u t → H.size ≤ H1.size → (∀ q : Nat, q < H.size → ¬ AX q → H1[q]? = H[q]?) → va_S A0 H0 H1 locs1 → H1[q9]? = some ce → ce.vm = .none → s.vm.findClass E = some ce.cls → vx_W p l e R s m args below meth c H1 locs1 (cells + mc) (slots + ms) Q (F0 m pc ls rest) q9)
    (kk : ∀ (r : UInt32) (u : S) (t : State) (H1 : Heap) (locs1 : List Loc), t.heap = H1 → s.vm.Alike t.vm → post r u → B u t → H.size ≤ H1.size → (∀ q : Nat, q < H.size → ¬ A1 q → H1[q]? = H[q]?) → va_S A0 H0 H1 locs1 → W p l e R s m args below meth c H1 locs1 (cells + mc) (slots + ms) Q (F0 m (pc + 3) ls (.float r :: rest))) : W p l e R s m args below meth c H locs cells slots Q (F0 m pc ls st0) := by
  intro T hT X
  rcases hr T hT X with ⟨v, st₀, t, T', L, h0, X', hL, e1, e2, ⟨⟨r, u, hv, hp, hb⟩, hF⟩, st⟩ | ⟨q, st₀, t, T', L, E, ce, h0, X', hL, e1, e2, ⟨u, hp, hb, hF⟩, hce, hcv, hcl, st⟩
  · cases hv
    obtain ⟨k1, k2, k3⟩ := vx_keep h0 e1 hS hA hf hL hF
    obtain ⟨t2, a1, b1⟩ := kk r u t T'.heap (locs ++ L) e1.symm (by rw [← e2]; exact X'.warmed.alike) hp hb k1 k2 k3 T' rfl X'
    exact ⟨t2, st t2 a1, b1⟩
  · obtain ⟨k1, k2, k3⟩ := vx_keep h0 e1 hS hAX hf hL hF
    obtain ⟨t2, a1, b1⟩ := kx E ce q u t T'.heap (locs ++ L) e1.symm (by rw [← e2]; exact X'.warmed.alike) hp hb k1 k2 k3 (by rw [e1]; exact hce) hcv hcl T' rfl X'
    exact ⟨t2, st.trans a1, b1⟩
theorem vx_calld {S SX : Type} {post : UInt64 → S → Prop} {px : SX → Prop} {B : S → State → Prop} {BX : String → SX → State → Prop} {AX : Nat → Prop} (hr : vx_Run p l e R s m args below meth c H locs cells slots mc ms (F0 m pc ls st0) rest (va_Qd post B A1 a) (vx_X px BX AX) free) (hS : va_S A0 H0 H locs) (hA : ∀ q, q < H.size → A1 q → A0 q) (hf : ∀ q, free q → A0 q) (hAX : ∀ q, q < H.size → AX q → A0 q)
    (kx : ∀ (E : String) (ce : Cell) (q9 : Addr) (u : SX) (t : State) (H1 : Heap) (locs1 : List Loc), t.heap = H1 → s.vm.Alike t.vm → px u → BX E u t → H.size ≤ H1.size → (∀ q : Nat, q < H.size → ¬ AX q → H1[q]? = H[q]?) → va_S A0 H0 H1 locs1 → H1[q9]? = some ce → ce.vm = .none → s.vm.findClass E = some ce.cls → vx_W p l e R s m args below meth c H1 locs1 (cells + mc) (slots + ms) Q (F0 m pc ls rest) q9)
    (kk : ∀ (r : UInt64) (u : S) (t : State) (H1 : Heap) (locs1 : List Loc), t.heap = H1 → s.vm.Alike t.vm → post r u → B u t → H.size ≤ H1.size → (∀ q : Nat, q < H.size → ¬ A1 q → H1[q]? = H[q]?) → va_S A0 H0 H1 locs1 → W p l e R s m args below meth c H1 locs1 (cells + mc) (slots + ms) Q (F0 m (pc + 3) ls (.double r :: rest))) : W p l e R s m args below meth c H locs cells slots Q (F0 m pc ls st0) := by
  intro T hT X
  rcases hr T hT X with ⟨v, st₀, t, T', L, h0, X', hL, e1, e2, ⟨⟨r, u, hv, hp, hb⟩, hF⟩, st⟩ | ⟨q, st₀, t, T', L, E, ce, h0, X', hL, e1, e2, ⟨u, hp, hb, hF⟩, hce, hcv, hcl, st⟩
  · cases hv
    obtain ⟨k1, k2, k3⟩ := vx_keep h0 e1 hS hA hf hL hF
    obtain ⟨t2, a1, b1⟩ := kk r u t T'.heap (locs ++ L) e1.symm (by rw [← e2]; exact X'.warmed.alike) hp hb k1 k2 k3 T' rfl X'
    exact ⟨t2, st t2 a1, b1⟩
  · obtain ⟨k1, k2, k3⟩ := vx_keep h0 e1 hS hAX hf hL hF
    obtain ⟨t2, a1, b1⟩ := kx E ce q u t T'.heap (locs ++ L) e1.symm (by rw [← e2]; exact X'.warmed.alike) hp hb k1 k2 k3 (by rw [e1]; exact hce) hcv hcl T' rfl X'
    exact ⟨t2, st.trans a1, b1⟩
theorem vx_callv {S SX : Type} {post : S → Prop} {px : SX → Prop} {B : S → State → Prop} {BX : String → SX → State → Prop} {AX : Nat → Prop} (hr : vx_Run p l e R s m args below meth c H locs cells slots mc ms (F0 m pc ls st0) rest (va_Qv post B A1 a) (vx_X px BX AX) free) (hS : va_S A0 H0 H locs) (hA : ∀ q, q < H.size → A1 q → A0 q) (hf : ∀ q, free q → A0 q) (hAX : ∀ q, q < H.size → AX q → A0 q)
    (kx : ∀ (E : String) (ce : Cell) (q9 : Addr) (u : SX) (t : State) (H1 : Heap) (locs1 : List Loc), t.heap = H1 → s.vm.Alike t.vm → px u → BX E u t → H.size ≤ H1.size → (∀ q : Nat, q < H.size → ¬ AX q → H1[q]? = H[q]?) → va_S A0 H0 H1 locs1 → H1[q9]? = some ce → ce.vm = .none → s.vm.findClass E = some ce.cls → vx_W p l e R s m args below meth c H1 locs1 (cells + mc) (slots + ms) Q (F0 m pc ls rest) q9)
    (kk : ∀ (u : S) (t : State) (H1 : Heap) (locs1 : List Loc), t.heap = H1 → s.vm.Alike t.vm → post u → B u t → H.size ≤ H1.size → (∀ q : Nat, q < H.size → ¬ A1 q → H1[q]? = H[q]?) → va_S A0 H0 H1 locs1 → W p l e R s m args below meth c H1 locs1 (cells + mc) (slots + ms) Q (F0 m (pc + 3) ls (rest))) : W p l e R s m args below meth c H locs cells slots Q (F0 m pc ls st0) := by
  intro T hT X
  rcases hr T hT X with ⟨v, st₀, t, T', L, h0, X', hL, e1, e2, ⟨⟨u, hv, hp, hb⟩, hF⟩, st⟩ | ⟨q, st₀, t, T', L, E, ce, h0, X', hL, e1, e2, ⟨u, hp, hb, hF⟩, hce, hcv, hcl, st⟩
  · cases hv
    obtain ⟨k1, k2, k3⟩ := vx_keep h0 e1 hS hA hf hL hF
    obtain ⟨t2, a1, b1⟩ := kk u t T'.heap (locs ++ L) e1.symm (by rw [← e2]; exact X'.warmed.alike) hp hb k1 k2 k3 T' rfl X'
    exact ⟨t2, st t2 a1, b1⟩
  · obtain ⟨k1, k2, k3⟩ := vx_keep h0 e1 hS hAX hf hL hF
    obtain ⟨t2, a1, b1⟩ := kx E ce q u t T'.heap (locs ++ L) e1.symm (by rw [← e2]; exact X'.warmed.alike) hp hb k1 k2 k3 (by rw [e1]; exact hce) hcv hcl T' rfl X'
    exact ⟨t2, st.trans a1, b1⟩
/-- caught by the row x of this method's table; the rows ahead don't take it -/
theorem vx_catch {own name : String} {E : String} {ce : Cell} {q : Addr} (hown : s.vm.findClass own = some m.cls) (pre : List ExceptionTableEntry) (x : ExceptionTableEntry) (suf : List ExceptionTableEntry) (hsplit : c.exceptionTable.toList = pre ++ x :: suf)
    (hpass : ∀ z ∈ pre, covers z pc = false ∨ (z.catchType ≠ 0 ∧ ∃ nm : String, (Cond.classLink own z.catchType nm).before args s = true ∧ va_Nc E nm s)) (hx : covers x pc = true) (h0 : x.catchType ≠ 0)
    (hlink : (Cond.classLink own x.catchType name).before args s = true) (hcast : (Cond.castable E name).before args s = true) (hcell : H[q]? = some ce) (hv : ce.vm = .none) (hcl : s.vm.findClass E = some ce.cls)
    (kk : W p l e R s m args below meth c H locs cells slots Q (F0 m x.handlerPc ls [.ref q])) : vx_W p l e R s m args below meth c H locs cells slots Q (F0 m pc ls rest) q := by
  intro T hT X
  have hpl : e.platform.magicAccessors = ({} : Platform).magicAccessors := by rw [X.admits.platform]
  obtain ⟨c3, c4, hc3, hc4, hasg⟩ := Cond.castable_spec hcast
  cases Option.some.inj (hc3.symm.trans hcl)
  obtain ⟨c5, hc5, hcl5⟩ := Cond.classLink_spec hown hlink e.platform hpl
  cases Option.some.inj (hc4.symm.trans hc5)
  obtain ⟨vm', X', st⟩ := X.thenCaughtThrough q (g := F0 m pc ls rest) rfl (Steps.refl _) (by rw [hT]; exact hcell) (by rw [hv]; rfl) (by obtain ⟨k9, h9, -⟩ := Vm.findClass_spec hcl; exact ⟨k9, h9⟩) pre x suf hsplit
    (fun z hz => by
      rcases hpass z hz with h | ⟨hz0, nm, hl1, hn1⟩
      · exact Or.inl h
      · obtain ⟨c6, hc6, hcl6⟩ := Cond.classLink_spec hown hl1 e.platform hpl
        obtain ⟨a8, b8, h1, h2, h3⟩ := hn1
        cases Option.some.inj (h1.symm.trans hcl)
        cases Option.some.inj (h2.symm.trans hc6)
        exact Or.inr ⟨hz0, _, hcl6, h3⟩) hx (Or.inr ⟨h0, c4, hcl5, hasg⟩)
  obtain ⟨t, a1, b1⟩ := kk (T.setVm vm') hT X'
  exact ⟨t, st.trans a1, b1⟩
end Rows
section Ends
variable {p : Program} {l : Launch} {e : Env} {R : Room} {s : State} {m : MethodId} {args : Array Value} {below : List Frame} {meth : Method} {c : Code} {H : Heap} {locs : List Loc} {cells slots : Nat} {Q : State → Prop}
variable {mc ms : Nat} {free : Addr → Prop} {A0 A1 : Nat → Prop} {H0 : Heap} {a : Array Value} {ls : Array Slot} {st0 rest : List Value}
variable {Qc : Array Value → State → Outcome → State → Prop} {XC : String → State → State → Prop}
/-- what a body that may throw owes at its end -/
def vx_MQ (below : List Frame) (Qc : Array Value → State → Outcome → State → Prop) (XC : String → State → State → Prop) (a : Array Value) (s : State) (mc ms : Nat) (free : Addr → Prop) : State → Prop := fun t =>
  ∃ o, t.status = .running ∧ Ended t below o ∧ vx_Q Qc XC mc ms free a s o t
theorem vx_ret {g : JFrame} {mc ms : Nat} (k : W p l e R s m args below meth c H locs cells slots (MQ below Qc args s mc ms free) g) : W p l e R s m args below meth c H locs cells slots (vx_MQ below Qc XC args s mc ms free) g := by
  intro T hT X
  obtain ⟨t, a1, o, b1, b2, b3, b4⟩ := k T hT X
  exact ⟨t, a1, o, b1, b2, Or.inl ⟨b3, b4⟩⟩
/-- not caught here: it goes on to the caller -/
theorem vx_widen {g : JFrame} {q : Addr} {k n : Nat} (h1 : cells ≤ k) (h2 : slots ≤ n) (kk : vx_W p l e R s m args below meth c H locs k n Q g q) : vx_W p l e R s m args below meth c H locs cells slots Q g q := fun T hT X => kk T hT (stand_widen X h1 h2)
theorem vx_out {pc : Nat} {E : String} {ce : Cell} {q : Addr} {mc ms : Nat} (hout : ∀ x ∈ c.exceptionTable.toList, covers x pc = false) (hlocks : meth.locks = false) (hcell : H[q]? = some ce) (hv : ce.vm = .none) (hcl : s.vm.findClass E = some ce.cls)
    (hx : ∀ t : State, t.heap = H → s.vm.Alike t.vm → XC E s t) (hf : ∀ z ∈ locs, free z.base) (hc : cells ≤ mc) (hs : slots ≤ ms) :
    vx_W p l e R s m args below meth c H locs cells slots (vx_MQ below Qc XC args s mc ms free) (F0 m pc ls rest) q := by
  intro T hT X
  obtain ⟨st1, hrun, hend, hW, hsm⟩ := X.leaveThrown q (g := F0 m pc ls rest) rfl rfl rfl hout hlocks
  have hcell9 : (T.setFrames (.throwing q :: below)).heap[q]? = some ce := by
    show T.heap[q]? = some ce
    rw [hT]; exact hcell
  exact ⟨_, st1, .threw q, hrun, hend, Or.inr ⟨q, rfl, E, ce, locs, hx _ hT hW.alike, hcell9, hv, hcl, hW, hsm.mono hc hs, hf⟩⟩
theorem vx_frame {U : State} {k n : Nat} (h : s.sameButNew ({ U with vm := s.vm } : State) locs k n) : s.heap.size ≤ U.heap.size ∧ ∀ q : Nat, q < s.heap.size → (∀ z ∈ locs, z.base ≠ q) → U.heap[q]? = s.heap[q]? := by
  obtain ⟨-, h2, -, -, -, h6⟩ := h
  refine ⟨h2, fun q hq hz => ?_⟩
  obtain ⟨c9, e1, e2, e3, e4⟩ := h6 q _ (Array.getElem?_eq_getElem hq)
  have hs : c9.slots = (s.heap[q]).slots := Array.ext_getElem? fun i => e4 i fun hm => hz _ hm rfl
  have h9 : c9 = s.heap[q] := by
    rw [hs] at e2
    exact e2
  have e5 : U.heap[q]? = some c9 := e1
  rw [e5, h9, Array.getElem?_eq_getElem hq]
/-- the words of a throw but the four that speak of the heap -/
def vx_no (w : Cond) : Bool := decide (w ≠ .isRef (.static Bundle.tN "UNASSIGNED_STACK" Bundle.steD)) && decide (w ≠ .isRef (.static Bundle.tN "SUPPRESSED_SENTINEL" Bundle.listD)) && decide (w ≠ .laysStatic Bundle.tN "UNASSIGNED_STACK" Bundle.steD) && decide (w ≠ .laysStatic Bundle.tN "SUPPRESSED_SENTINEL" Bundle.listD)
def vx_at0 (own : String) (ic : Nat) (X : String) (names : List String) : List Cond := (Bundle.ownAtoms0 own ic X names).filter vx_no
def vx_atS (own : String) (ic : Nat) (X : String) (names : List String) : List Cond := (Bundle.ownAtoms own ic X names).filter vx_no
/-- a word that the tables alone decide, or a good one -/
def vx_ot (w : Cond) : Bool := w.onTables || goodWord w
theorem vx_ot_at {args a' : Array Value} {s U : State} {w : Cond} (hW : s.WarmedH U.vm) (hvm : s.vm = U.vm) (hg : vx_ot w = true) (h : w.before args s = true) : w.before a' U = true := by
  simp only [vx_ot, Bool.or_eq_true] at hg
  rcases hg with hg | hg
  · exact va_tabs hg hvm h
  · exact word_at hW (good_of_word hg) h
/-- a list's words: the good ones out of the method's own list, the others by premises of their own -/
theorem vx_hat {args : Array Value} {s : State} {L B : List Cond} (h1 : ∀ w ∈ L.filter goodWord, w.before args s = true) (h2 : ∀ w ∈ L.filter (fun w => !goodWord w), w ∈ B) (h3 : ∀ w ∈ B, w.before args s = true) : ∀ w ∈ L, w.before args s = true := by
  intro w hw
  by_cases g : goodWord w = true
  · exact h1 w (List.mem_filter.mpr ⟨hw, g⟩)
  · refine h3 w (h2 w (List.mem_filter.mpr ⟨hw, ?_⟩))
    show (!goodWord w) = true
    cases hgw : goodWord w
    · rfl
    · exact absurd hgw g
theorem vx_c {args : Array Value} {s : State} {w : Cond} {B : List Cond} (h : w.before args s = true) (t : ∀ w ∈ B, w.before args s = true) : ∀ w' ∈ w :: B, w'.before args s = true := fun w' h' => (List.mem_cons.mp h').elim (fun e => by rw [e]; exact h) (t w')
theorem vx_n {args : Array Value} {s : State} : ∀ w ∈ ([] : List Cond), w.before args s = true := fun _ h => nomatch h
theorem vx_own {args : Array Value} {s : State} {L : List Cond} (h1 : ∀ w ∈ L.filter vx_no, w.before args s = true)
    (hU : (Cond.isRef (.static Bundle.tN "UNASSIGNED_STACK" Bundle.steD)).before args s = true) (hN : (Cond.isRef (.static Bundle.tN "SUPPRESSED_SENTINEL" Bundle.listD)).before args s = true)
    (lU : (Cond.laysStatic Bundle.tN "UNASSIGNED_STACK" Bundle.steD).before args s = true) (lN : (Cond.laysStatic Bundle.tN "SUPPRESSED_SENTINEL" Bundle.listD).before args s = true) : ∀ w ∈ L, w.before args s = true := by
  intro w hw
  by_cases e1 : w = .isRef (.static Bundle.tN "UNASSIGNED_STACK" Bundle.steD)
  · rw [e1]; exact hU
  · by_cases e2 : w = .isRef (.static Bundle.tN "SUPPRESSED_SENTINEL" Bundle.listD)
    · rw [e2]; exact hN
    · by_cases e3 : w = .laysStatic Bundle.tN "UNASSIGNED_STACK" Bundle.steD
      · rw [e3]; exact lU
      · by_cases e4 : w = .laysStatic Bundle.tN "SUPPRESSED_SENTINEL" Bundle.listD
        · rw [e4]; exact lN
        · exact h1 w (List.mem_filter.mpr ⟨hw, by unfold vx_no; rw [decide_eq_true e1, decide_eq_true e2, decide_eq_true e3, decide_eq_true e4]; rfl⟩)
/-- where a static field lies, its class's statics cell in H -/
def vx_L (C n d : String) (A : Nat → Prop) (U : State) (H : Heap) : Prop := ∃ (c : ClassId) (k : Class) (i : Nat) (f : Field) (a : Nat) (cell : Cell), U.vm.findClass C = some c ∧ U.fieldFound? C n d = some (c, k, i, f) ∧ f.isStatic = true ∧ k.statics = some a ∧ H[a]? = some cell ∧ cell.vm.isStatics = true ∧ cell.cls = c ∧ f.slot < cell.slots.size ∧ k.staticTypes[f.slot]? = some f.type ∧ ¬ A a
theorem vx_L.moved {C n d : String} {A : Nat → Prop} {u U : State} {H : Heap} (hvm : u.vm.Alike U.vm) (h : vx_L C n d A u H) : vx_L C n d A U H := by
  obtain ⟨c, k, i, f, a, cell, h1, h2, h3, h4, h5, h6, h7, h8, h9, h10⟩ := h
  obtain ⟨k', hi', he⟩ := State.fieldFound?_setVm hvm h2
  exact ⟨c, k', i, f, a, cell, by rw [hvm.findClass]; exact h1, hi', h3, by rw [he]; exact h4, h5, h6, h7, h8, by rw [he]; exact h9, h10⟩
theorem vx_L.kept {C n d : String} {A : Nat → Prop} {U : State} {H H1 : Heap} (h : vx_L C n d A U H) (hq : ∀ a : Nat, a < H.size → ¬ A a → H1[a]? = H[a]?) : vx_L C n d A U H1 := by
  obtain ⟨c, k, i, f, a, cell, h1, h2, h3, h4, h5, h6, h7, h8, h9, h10⟩ := h
  exact ⟨c, k, i, f, a, cell, h1, h2, h3, h4, by rw [hq a (Array.getElem?_eq_some_iff.mp h5).1 h10]; exact h5, h6, h7, h8, h9, h10⟩
theorem vx_L.narrow {C n d : String} {A B : Nat → Prop} {U : State} {H : Heap} (h : vx_L C n d A U H) (hAB : ∀ q, B q → A q) : vx_L C n d B U H := by
  obtain ⟨c, k, i, f, a, cell, h1, h2, h3, h4, h5, h6, h7, h8, h9, h10⟩ := h
  exact ⟨c, k, i, f, a, cell, h1, h2, h3, h4, h5, h6, h7, h8, h9, fun z => h10 (hAB _ z)⟩
theorem vx_L.word {C n d : String} {A : Nat → Prop} {s : State} {args : Array Value} (h : vx_L C n d A s s.heap) : (Cond.laysStatic C n d).before args s = true := by
  obtain ⟨c, k, i, f, a, cell, h1, h2, h3, h4, h5, h6, h7, h8, h9, -⟩ := h
  show (Cond.laysStatic C n d).holds args s none s [] = true
  exact Cond.laysStatic_of h1 h2 h3 h4 h5 h6 h7 h8 h9
/-- .. and what it holds: null or some reference -/
def vx_Zq (C n d : String) (A : Nat → Prop) (U : State) (H : Heap) : Prop := va_Zq C n d A U H ∧ vx_L C n d A U H
theorem vx_Zq.moved {C n d : String} {A : Nat → Prop} {u U : State} {H : Heap} (hvm : u.vm.Alike U.vm) (h : vx_Zq C n d A u H) : vx_Zq C n d A U H := ⟨va_Zq.moved hvm h.1, vx_L.moved hvm h.2⟩
theorem vx_Zq.kept {C n d : String} {A : Nat → Prop} {U : State} {H H1 : Heap} (h : vx_Zq C n d A U H) (hq : ∀ a : Nat, a < H.size → ¬ A a → H1[a]? = H[a]?) : vx_Zq C n d A U H1 := ⟨va_Zq.kept h.1 hq, vx_L.kept h.2 hq⟩
theorem vx_Zq.narrow {C n d : String} {A B : Nat → Prop} {U : State} {H : Heap} (h : vx_Zq C n d A U H) (hAB : ∀ q, B q → A q) : vx_Zq C n d B U H := ⟨va_Zq.narrow h.1 hAB, vx_L.narrow h.2 hAB⟩
theorem vx_Zqof {args : Array Value} {s : State} {C n d : String} {A : Nat → Prop} (hl : (Cond.laysStatic C n d).before args s = true) (hini : (Cond.initialized C).before args s = true) (h : (Cond.isRef (.static C n d)).before args s = true) (hA : ∀ a : Nat, a < s.heap.size → ¬ A a) : vx_Zq C n d A s s.heap := by
  refine ⟨va_Zqof hl hini h hA, ?_⟩
  obtain ⟨c, k, i, f, a, cell, h1, h2, h3, h4, h5, h6, h7, h8, h9⟩ := Cond.laysStatic_spec hl
  exact ⟨c, k, i, f, a, cell, h1, h2, h3, h4, h5, h6, h7, h8, h9, hA a (Array.getElem?_eq_some_iff.mp h5).1⟩
theorem vx_isRef {C n d : String} {v : Value} {A : Nat → Prop} {s : State} {args : Array Value} (h : va_Z C n d v A s s.heap) (hv : v.isRef = true) : (Cond.isRef (.static C n d)).before args s = true := by
  obtain ⟨cf, kf, fi, f, a, cell, h1, h2, h3, h4, h5, h6, h7, -⟩ := h
  have he : (Term.static C n d).eval args s none [] s = some v := by
    simp [Term.eval, State.fieldNamed?, h1, h2, h4, h5, h6, h7]
  simp only [Cond.before, Cond.holds, Cond.value, he]
  cases v <;> simp_all [Value.isRef]
theorem vx_isRefq {C n d : String} {A : Nat → Prop} {s : State} {args : Array Value} (h : va_Zq C n d A s s.heap) : (Cond.isRef (.static C n d)).before args s = true := by
  rcases h with h | ⟨t, h⟩
  · exact vx_isRef h rfl
  · exact vx_isRef h rfl
/-- the same frame, seen from here: as if the method were called anew in this heap -/
theorem vx_rebase {T : State} (X : Stand p l e R s m args below meth c T locs cells slots) {R' : Room} (hf : R'.frames ≤ R.frames) (hl : R'.locals ≤ R.locals) (hc : cells + R'.cells ≤ R.cells) (hs : slots + R'.slots ≤ R.slots) :
    Stand p l e R' ((T.setVm s.vm).setFrames (.invoking m args :: below)) m args below meth c T [] 0 0 := by
  have htop : (T.setVm s.vm).topJava?.isSome := X.here.top
  have hF : ((T.setVm s.vm).setFrames (.invoking m args :: below)).frames = .invoking m args :: below := State.frames_setFrames _ (State.cur_lt_of_top htop)
  obtain ⟨g₀, hg0⟩ := Option.isSome_iff_exists.mp htop
  obtain ⟨r, hr⟩ := State.topJava?_eq_some.mp hg0
  have hl9 : e.platform.stackLimits (T.setVm s.vm).me = e.platform.stackLimits s.me := X.limits
  have hb9 : (T.setVm s.vm).me.stackBytes = s.me.stackBytes := X.bytes
  refine ⟨X.admits, X.cas, X.clock, hF, ?_, X.hears, X.method, X.code, X.here, X.tail, X.warmed, ?_, ?_, ?_⟩
  · have h := X.room
    have hU : ((T.setVm s.vm).setFrames (.invoking m args :: below)).localsInUse = s.localsInUse := by
      rw [State.localsInUse_invoking hF (meth := meth) (c := c) X.method X.code, State.localsInUse_invoking X.frames X.method X.code]
    simp only [State.hasRoom, Bool.and_eq_true, decide_eq_true_eq] at h ⊢
    obtain ⟨⟨⟨⟨h1, h2, h3, h4, h5, h6⟩, h7⟩, h8⟩, h9⟩ := h
    rw [X.frames, List.length_cons] at h2 h3
    have q1 := X.heapSize
    have q2 := X.used
    simp only [hF, hU, List.length_cons, State.stackLimits_setFrames, State.stackBytes_setFrames, hl9, hb9]
    refine ⟨⟨⟨⟨by omega, by omega, by omega, by omega, by omega, h6⟩, ?_⟩, ?_⟩, X.book⟩
    · show T.heap.size + R'.cells ≤ e.platform.maxCells
      omega
    · show T.slotsUsed + R'.slots ≤ e.platform.maxSlots
      omega
  · rw [State.stackLimits_setFrames]; rfl
  · rw [State.stackBytes_setFrames]; rfl
  · refine ⟨?_, Nat.le_refl _, Nat.le_refl _, ?_, ?_, fun a c9 h9 => ⟨c9, h9, rfl, rfl, fun _ _ => rfl⟩⟩
    · obtain ⟨t, ht, -⟩ := State.frames_cons hr
      show T.setVm s.vm = { ((T.setVm s.vm).setFrames (.invoking m args :: below)).setFrames (T.setVm s.vm).frames with heap := T.heap, slotsUsed := T.slotsUsed }
      rw [State.setFrames_setFrames, State.setFrames_self ht]
      rfl
    · show T.slotsUsed = T.slotsUsed + ((T.heap.toList.drop T.heap.size).map (·.slots.size)).sum
      rw [List.drop_eq_nil_of_le (Nat.le_of_eq Array.length_toList)]
      rfl
    · show ((T.heap.toList.drop T.heap.size).map (·.slots.size)).sum ≤ 0
      rw [List.drop_eq_nil_of_le (Nat.le_of_eq Array.length_toList)]
      exact Nat.le_refl _
/-- 'throw new E()': new; dup; invokespecial; athrow -/
theorem vx_throw0 {cc : ByteArray} {pc : Nat} (hexec : p.tables.exec = Jvm.exec) (hb : c.code = cc) (hl : l.stackTraces = false) {own cls : String} {names : List String} {ik ic mc ms : Nat} {A : Nat → Prop}
    (hown : s.vm.findClass own = some m.cls) (hcls : Bundle.fit cls = true) (hnames : ∀ n ∈ names, Bundle.fit n = true)
    (hk : (Cond.classLink own ik cls).before args s = true) (hini : (Cond.initialized cls).before args s = true) (hat : ∀ w ∈ vx_at0 own ic cls names, w.before args s = true)
    (hgood : ∀ w ∈ Cond.classLink own ik cls :: Cond.initialized cls :: vx_at0 own ic cls names, vx_ot w = true)
    (hU : vx_Zq Bundle.tN "UNASSIGNED_STACK" Bundle.steD A s s.heap) (hN : vx_Zq Bundle.tN "SUPPRESSED_SENTINEL" Bundle.listD A s s.heap) (hS : va_S A s.heap H locs) (hsize : ls.size = c.maxLocals)
    (d0 : decode cc pc = .ok (.new ik, 3)) (d3 : decode cc (pc + 3) = .ok (.dup, 1)) (d4 : decode cc (pc + 4) = .ok (.invokespecial ic, 3)) (d7 : decode cc (pc + 7) = .ok (.athrow, 1))
    (hout : ∀ x ∈ c.exceptionTable.toList, covers x (pc + 7) = false)
    (hRframes : names.length + 3 < R.frames) (hRlocals : (rest.map fun v => v.category).sum + (13 * (names.length + 1) + 42) ≤ R.locals) (hRcells : cells + 1 ≤ R.cells) (hRslots : slots + 6 ≤ R.slots) (hlocks : meth.locks = false)
    (hx : ∀ t : State, s.vm.Alike t.vm → H.size ≤ t.heap.size → (∀ q : Nat, q < H.size → t.heap[q]? = H[q]?) → XC cls s t)
    (hf : ∀ z ∈ locs, free z.base) (hc : cells + 1 ≤ mc) (hs : slots + 6 ≤ ms) :
    W p l e R s m args below meth c H locs cells slots (vx_MQ below Qc XC args s mc ms free) (F0 m pc ls rest) := by
  intro T hT X
  have htr : e.platform.stackTraces = false := (show e.platform.stackTraces = l.stackTraces by rw [X.admits.platform]).trans hl
  have Y := vx_rebase X (R' := { frames := R.frames, locals := R.locals, cells := 1, slots := 6 }) (Nat.le_refl _) (Nat.le_refl _) hRcells hRslots
  obtain ⟨s', hA⟩ : ∃ z, z = (T.setVm s.vm).setFrames (.invoking m args :: below) := ⟨_, rfl⟩
  rw [← hA] at Y
  have hvm : s'.vm = s.vm := by rw [hA]; rfl
  have hhp : s'.heap = H := by rw [hA]; exact hT
  have hW0 : s.WarmedH s'.vm := by rw [hvm]; exact State.WarmedH.refl s
  have hat' : ∀ w ∈ vx_at0 own ic cls names, w.before args s' = true := fun w hw => vx_ot_at hW0 hvm.symm (hgood w (List.mem_cons_of_mem _ (List.mem_cons_of_mem _ hw))) (hat w hw)
  have hk' : (Cond.classLink own ik cls).before args s' = true := vx_ot_at hW0 hvm.symm (hgood _ List.mem_cons_self) hk
  have hini' : (Cond.initialized cls).before args s' = true := vx_ot_at hW0 hvm.symm (hgood _ (List.mem_cons_of_mem _ List.mem_cons_self)) hini
  have hU' : vx_Zq Bundle.tN "UNASSIGNED_STACK" Bundle.steD A s' s'.heap := by rw [hhp]; exact vx_Zq.moved hW0.alike (hU.kept hS.2.1)
  have hN' : vx_Zq Bundle.tN "SUPPRESSED_SENTINEL" Bundle.listD A s' s'.heap := by rw [hhp]; exact vx_Zq.moved hW0.alike (hN.kept hS.2.1)
  have h : ∀ w ∈ Bundle.ownAtoms0 own ic cls names, w.before args s' = true := vx_own hat' (vx_isRefq hU'.1) (vx_isRefq hN'.1) hU'.2.word hN'.2.word
  have hown' : s'.vm.findClass own = some m.cls := by rw [hvm]; exact hown
  have hins : (Cond.instantiable cls 6).before args s' = true := h _ (by simp [Bundle.ownAtoms0])
  obtain ⟨vm₁, cX, kX, hfX, hkX, -, -, X₁, st1⟩ := Y.newCold hexec (own := own) (C := cls) (index := ik) (n := 6) hown' hk' hins hini'
    (g := F0 m pc ls rest) rfl (by rw [hb]; exact d0) (Nat.le_refl _) (Nat.le_refl _)
  generalize hT1 : (T.setVm vm₁).pushCell { cls := cX, slots := kX.instanceTypes.map defaultValue, vm := .none } = T1 at X₁ st1
  have hcat : (Value.ref T.heap.size).category = 1 := rfl
  have hcellA : T1.heap[T.heap.size]? = some (freshCell cX kX) := by rw [← hT1]; exact State.heap_pushCell_size _ _
  have d3' : decode c.code (pc + 3) = .ok (.dup, 1) := by rw [hb]; exact d3
  obtain ⟨U, hsteps, hrun, hend, hW, hsame, ce, hce, hO⟩ := X₁.ctorThrow0 hexec htr (own := own) (cls := cls) (names := names) (ic := ic) hown' hcls hnames h (fun x hx => nomatch hx) hfX hkX hcellA (by rw [hhp, hT]; exact Nat.le_refl _)
    (g := { method := m, pc := pc + 4, locals := ls, stack := .ref T.heap.size :: .ref T.heap.size :: rest, locked := none }) rfl hsize rfl rfl (rest := rest) rfl
    (by rw [hb]; exact d4) (by rw [hb]; exact d7) hout hRframes (by simp only [List.map_cons, List.sum_cons, hcat]; omega) hlocks
  obtain ⟨f1, f2⟩ := vx_frame hsame
  rw [hhp] at f1 f2
  have hWs : s.WarmedH U.vm := State.WarmedH.trans hW0 hW
  have hcl : s.vm.findClass cls = some ce.cls := by
    have h9 := hO.cls
    rw [hvm] at h9
    exact h9
  have hall : s.sameButNew ({ U with vm := s.vm } : State) locs mc ms := by
    subst hA
    obtain ⟨e1, e2⟩ := hsame
    rw [State.setFrames_setFrames] at e1
    have h2 : (T.setVm s.vm).sameButNew ({ U with vm := s.vm } : State) [] (0 + 1) (0 + 6) := ⟨e1, e2⟩
    have h3 := X.same.trans h2
    rw [List.append_nil] at h3
    exact h3.mono hc hs
  refine ⟨U, ?_, .threw T.heap.size, hrun, hend, Or.inr ⟨T.heap.size, rfl, cls, ce, locs, hx U hWs.alike f1 (fun q hq => f2 q hq (fun z hz => nomatch hz)), hce, hO.vm, hcl, hWs, hall, hf⟩⟩
  refine st1 _ ?_
  show Steps p.tables e below (T1.setTop { method := m, pc := pc + 3, locals := ls, stack := .ref T.heap.size :: rest, locked := none }) _
  jvm_step X₁.here [X₁.here.top, hexec, d3', Value.category]
  exact hsteps
/-- 'throw new E("text")': new; dup; ldc; invokespecial; athrow -/
theorem vx_throwS {cc : ByteArray} {pc : Nat} (hexec : p.tables.exec = Jvm.exec) (hb : c.code = cc) (hl : l.stackTraces = false) {own cls text : String} {names : List String} {ik is ic mc ms sa : Nat} {A : Nat → Prop}
    (hown : s.vm.findClass own = some m.cls) (hcls : Bundle.fit cls = true) (hnames : ∀ n ∈ names, Bundle.fit n = true)
    (hk : (Cond.classLink own ik cls).before args s = true) (hini : (Cond.initialized cls).before args s = true) (hstr : vk_R own is text sa s) (hat : ∀ w ∈ vx_atS own ic cls names, w.before args s = true)
    (hgood : ∀ w ∈ Cond.classLink own ik cls :: Cond.initialized cls :: vx_atS own ic cls names, vx_ot w = true)
    (hU : vx_Zq Bundle.tN "UNASSIGNED_STACK" Bundle.steD A s s.heap) (hN : vx_Zq Bundle.tN "SUPPRESSED_SENTINEL" Bundle.listD A s s.heap) (hS : va_S A s.heap H locs) (hsize : ls.size = c.maxLocals)
    (d0 : decode cc pc = .ok (.new ik, 3)) (d3 : decode cc (pc + 3) = .ok (.dup, 1)) (d4 : decode cc (pc + 4) = .ok (.ldc is, 2)) (d6 : decode cc (pc + 6) = .ok (.invokespecial ic, 3)) (d9 : decode cc (pc + 9) = .ok (.athrow, 1))
    (hout : ∀ x ∈ c.exceptionTable.toList, covers x (pc + 9) = false)
    (hRframes : names.length + 3 < R.frames) (hRlocals : (rest.map fun v => v.category).sum + (13 * (names.length + 1) + 43) ≤ R.locals) (hRcells : cells + 1 ≤ R.cells) (hRslots : slots + 6 ≤ R.slots) (hlocks : meth.locks = false)
    (hx : ∀ t : State, s.vm.Alike t.vm → H.size ≤ t.heap.size → (∀ q : Nat, q < H.size → t.heap[q]? = H[q]?) → XC cls s t)
    (hf : ∀ z ∈ locs, free z.base) (hc : cells + 1 ≤ mc) (hs : slots + 6 ≤ ms) :
    W p l e R s m args below meth c H locs cells slots (vx_MQ below Qc XC args s mc ms free) (F0 m pc ls rest) := by
  intro T hT X
  have htr : e.platform.stackTraces = false := (show e.platform.stackTraces = l.stackTraces by rw [X.admits.platform]).trans hl
  have Y := vx_rebase X (R' := { frames := R.frames, locals := R.locals, cells := 1, slots := 6 }) (Nat.le_refl _) (Nat.le_refl _) hRcells hRslots
  obtain ⟨s', hA⟩ : ∃ z, z = (T.setVm s.vm).setFrames (.invoking m args :: below) := ⟨_, rfl⟩
  rw [← hA] at Y
  have hvm : s'.vm = s.vm := by rw [hA]; rfl
  have hhp : s'.heap = H := by rw [hA]; exact hT
  have hW0 : s.WarmedH s'.vm := by rw [hvm]; exact State.WarmedH.refl s
  have hat' : ∀ w ∈ vx_atS own ic cls names, w.before args s' = true := fun w hw => vx_ot_at hW0 hvm.symm (hgood w (List.mem_cons_of_mem _ (List.mem_cons_of_mem _ hw))) (hat w hw)
  have hk' : (Cond.classLink own ik cls).before args s' = true := vx_ot_at hW0 hvm.symm (hgood _ List.mem_cons_self) hk
  have hini' : (Cond.initialized cls).before args s' = true := vx_ot_at hW0 hvm.symm (hgood _ (List.mem_cons_of_mem _ List.mem_cons_self)) hini
  have hU' : vx_Zq Bundle.tN "UNASSIGNED_STACK" Bundle.steD A s' s'.heap := by rw [hhp]; exact vx_Zq.moved hW0.alike (hU.kept hS.2.1)
  have hN' : vx_Zq Bundle.tN "SUPPRESSED_SENTINEL" Bundle.listD A s' s'.heap := by rw [hhp]; exact vx_Zq.moved hW0.alike (hN.kept hS.2.1)
  have h : ∀ w ∈ Bundle.ownAtoms own ic cls names, w.before args s' = true := vx_own hat' (vx_isRefq hU'.1) (vx_isRefq hN'.1) hU'.2.word hN'.2.word
  have hown' : s'.vm.findClass own = some m.cls := by rw [hvm]; exact hown
  have hins : (Cond.instantiable cls 6).before args s' = true := h _ (by simp [Bundle.ownAtoms])
  obtain ⟨vm₁, cX, kX, hfX, hkX, -, -, X₁, st1⟩ := Y.newCold hexec (own := own) (C := cls) (index := ik) (n := 6) hown' hk' hins hini'
    (g := F0 m pc ls rest) rfl (by rw [hb]; exact d0) (Nat.le_refl _) (Nat.le_refl _)
  generalize hT1 : (T.setVm vm₁).pushCell { cls := cX, slots := kX.instanceTypes.map defaultValue, vm := .none } = T1 at X₁ st1
  have hcat : (Value.ref T.heap.size).category = 1 := rfl
  have hcellA : T1.heap[T.heap.size]? = some (freshCell cX kX) := by rw [← hT1]; exact State.heap_pushCell_size _ _
  have d3' : decode c.code (pc + 3) = .ok (.dup, 1) := by rw [hb]; exact d3
  have d4' : decode c.code (pc + 4) = .ok (.ldc is, 2) := by rw [hb]; exact d4
  have hstr' : vk_R own is text sa s' := vk_R.warm hW0 hstr
  obtain ⟨U, hsteps, hrun, hend, hW, hsame, ce, hce, hO⟩ := X₁.ctorThrowS hexec htr (own := own) (cls := cls) (names := names) (ic := ic) hown' hcls hnames h (fun x hx => nomatch hx) hfX hkX hcellA (by rw [hhp, hT]; exact Nat.le_refl _) (msg := .ref sa) rfl
    (g := { method := m, pc := pc + 6, locals := ls, stack := .ref sa :: .ref T.heap.size :: .ref T.heap.size :: rest, locked := none }) rfl hsize rfl rfl (rest := rest) rfl
    (by rw [hb]; exact d6) (by rw [hb]; exact d9) hout hRframes (by simp only [List.map_cons, List.sum_cons, hcat]; omega) hlocks
  obtain ⟨f1, f2⟩ := vx_frame hsame
  rw [hhp] at f1 f2
  have hWs : s.WarmedH U.vm := State.WarmedH.trans hW0 hW
  have hcl : s.vm.findClass cls = some ce.cls := by
    have h9 := hO.cls
    rw [hvm] at h9
    exact h9
  have hall : s.sameButNew ({ U with vm := s.vm } : State) locs mc ms := by
    subst hA
    obtain ⟨e1, e2⟩ := hsame
    rw [State.setFrames_setFrames] at e1
    have h2 : (T.setVm s.vm).sameButNew ({ U with vm := s.vm } : State) [] (0 + 1) (0 + 6) := ⟨e1, e2⟩
    have h3 := X.same.trans h2
    rw [List.append_nil] at h3
    exact h3.mono hc hs
  refine ⟨U, ?_, .threw T.heap.size, hrun, hend, Or.inr ⟨T.heap.size, rfl, cls, ce, locs, hx U hWs.alike f1 (fun q hq => f2 q hq (fun z hz => nomatch hz)), hce, hO.vm, hcl, hWs, hall, hf⟩⟩
  refine st1 _ ?_
  show Steps p.tables e below (T1.setTop { method := m, pc := pc + 3, locals := ls, stack := .ref T.heap.size :: rest, locked := none }) _
  jvm_step X₁.here [X₁.here.top, hexec, d3', Value.category]
  exact X₁.ldcString hexec (own := own) (text := text) (index := is) (a := sa) hown' hstr'.1 hstr'.2
    (g := { method := m, pc := pc + 4, locals := ls, stack := .ref T.heap.size :: .ref T.heap.size :: rest, locked := none }) rfl d4' _ hsteps
/-- 'throw new E("text")', the text by a wide index -/
theorem vx_throwSW {cc : ByteArray} {pc : Nat} (hexec : p.tables.exec = Jvm.exec) (hb : c.code = cc) (hl : l.stackTraces = false) {own cls text : String} {names : List String} {ik is ic mc ms sa : Nat} {A : Nat → Prop}
    (hown : s.vm.findClass own = some m.cls) (hcls : Bundle.fit cls = true) (hnames : ∀ n ∈ names, Bundle.fit n = true)
    (hk : (Cond.classLink own ik cls).before args s = true) (hini : (Cond.initialized cls).before args s = true) (hstr : vk_R own is text sa s) (hat : ∀ w ∈ vx_atS own ic cls names, w.before args s = true)
    (hgood : ∀ w ∈ Cond.classLink own ik cls :: Cond.initialized cls :: vx_atS own ic cls names, vx_ot w = true)
    (hU : vx_Zq Bundle.tN "UNASSIGNED_STACK" Bundle.steD A s s.heap) (hN : vx_Zq Bundle.tN "SUPPRESSED_SENTINEL" Bundle.listD A s s.heap) (hS : va_S A s.heap H locs) (hsize : ls.size = c.maxLocals)
    (d0 : decode cc pc = .ok (.new ik, 3)) (d3 : decode cc (pc + 3) = .ok (.dup, 1)) (d4 : decode cc (pc + 4) = .ok (.ldc_w is, 3)) (d7 : decode cc (pc + 7) = .ok (.invokespecial ic, 3)) (d10 : decode cc (pc + 10) = .ok (.athrow, 1))
    (hout : ∀ x ∈ c.exceptionTable.toList, covers x (pc + 10) = false)
    (hRframes : names.length + 3 < R.frames) (hRlocals : (rest.map fun v => v.category).sum + (13 * (names.length + 1) + 43) ≤ R.locals) (hRcells : cells + 1 ≤ R.cells) (hRslots : slots + 6 ≤ R.slots) (hlocks : meth.locks = false)
    (hx : ∀ t : State, s.vm.Alike t.vm → H.size ≤ t.heap.size → (∀ q : Nat, q < H.size → t.heap[q]? = H[q]?) → XC cls s t)
    (hf : ∀ z ∈ locs, free z.base) (hc : cells + 1 ≤ mc) (hs : slots + 6 ≤ ms) :
    W p l e R s m args below meth c H locs cells slots (vx_MQ below Qc XC args s mc ms free) (F0 m pc ls rest) := by
  intro T hT X
  have htr : e.platform.stackTraces = false := (show e.platform.stackTraces = l.stackTraces by rw [X.admits.platform]).trans hl
  have Y := vx_rebase X (R' := { frames := R.frames, locals := R.locals, cells := 1, slots := 6 }) (Nat.le_refl _) (Nat.le_refl _) hRcells hRslots
  obtain ⟨s', hA⟩ : ∃ z, z = (T.setVm s.vm).setFrames (.invoking m args :: below) := ⟨_, rfl⟩
  rw [← hA] at Y
  have hvm : s'.vm = s.vm := by rw [hA]; rfl
  have hhp : s'.heap = H := by rw [hA]; exact hT
  have hW0 : s.WarmedH s'.vm := by rw [hvm]; exact State.WarmedH.refl s
  have hat' : ∀ w ∈ vx_atS own ic cls names, w.before args s' = true := fun w hw => vx_ot_at hW0 hvm.symm (hgood w (List.mem_cons_of_mem _ (List.mem_cons_of_mem _ hw))) (hat w hw)
  have hk' : (Cond.classLink own ik cls).before args s' = true := vx_ot_at hW0 hvm.symm (hgood _ List.mem_cons_self) hk
  have hini' : (Cond.initialized cls).before args s' = true := vx_ot_at hW0 hvm.symm (hgood _ (List.mem_cons_of_mem _ List.mem_cons_self)) hini
  have hU' : vx_Zq Bundle.tN "UNASSIGNED_STACK" Bundle.steD A s' s'.heap := by rw [hhp]; exact vx_Zq.moved hW0.alike (hU.kept hS.2.1)
  have hN' : vx_Zq Bundle.tN "SUPPRESSED_SENTINEL" Bundle.listD A s' s'.heap := by rw [hhp]; exact vx_Zq.moved hW0.alike (hN.kept hS.2.1)
  have h : ∀ w ∈ Bundle.ownAtoms own ic cls names, w.before args s' = true := vx_own hat' (vx_isRefq hU'.1) (vx_isRefq hN'.1) hU'.2.word hN'.2.word
  have hown' : s'.vm.findClass own = some m.cls := by rw [hvm]; exact hown
  have hins : (Cond.instantiable cls 6).before args s' = true := h _ (by simp [Bundle.ownAtoms])
  obtain ⟨vm₁, cX, kX, hfX, hkX, -, -, X₁, st1⟩ := Y.newCold hexec (own := own) (C := cls) (index := ik) (n := 6) hown' hk' hins hini'
    (g := F0 m pc ls rest) rfl (by rw [hb]; exact d0) (Nat.le_refl _) (Nat.le_refl _)
  generalize hT1 : (T.setVm vm₁).pushCell { cls := cX, slots := kX.instanceTypes.map defaultValue, vm := .none } = T1 at X₁ st1
  have hcat : (Value.ref T.heap.size).category = 1 := rfl
  have hcellA : T1.heap[T.heap.size]? = some (freshCell cX kX) := by rw [← hT1]; exact State.heap_pushCell_size _ _
  have d3' : decode c.code (pc + 3) = .ok (.dup, 1) := by rw [hb]; exact d3
  have d4' : decode c.code (pc + 4) = .ok (.ldc_w is, 3) := by rw [hb]; exact d4
  have hstr' : vk_R own is text sa s' := vk_R.warm hW0 hstr
  obtain ⟨U, hsteps, hrun, hend, hW, hsame, ce, hce, hO⟩ := X₁.ctorThrowS hexec htr (own := own) (cls := cls) (names := names) (ic := ic) hown' hcls hnames h (fun x hx => nomatch hx) hfX hkX hcellA (by rw [hhp, hT]; exact Nat.le_refl _) (msg := .ref sa) rfl
    (g := { method := m, pc := pc + 7, locals := ls, stack := .ref sa :: .ref T.heap.size :: .ref T.heap.size :: rest, locked := none }) rfl hsize rfl rfl (rest := rest) rfl
    (by rw [hb]; exact d7) (by rw [hb]; exact d10) hout hRframes (by simp only [List.map_cons, List.sum_cons, hcat]; omega) hlocks
  obtain ⟨f1, f2⟩ := vx_frame hsame
  rw [hhp] at f1 f2
  have hWs : s.WarmedH U.vm := State.WarmedH.trans hW0 hW
  have hcl : s.vm.findClass cls = some ce.cls := by
    have h9 := hO.cls
    rw [hvm] at h9
    exact h9
  have hall : s.sameButNew ({ U with vm := s.vm } : State) locs mc ms := by
    subst hA
    obtain ⟨e1, e2⟩ := hsame
    rw [State.setFrames_setFrames] at e1
    have h2 : (T.setVm s.vm).sameButNew ({ U with vm := s.vm } : State) [] (0 + 1) (0 + 6) := ⟨e1, e2⟩
    have h3 := X.same.trans h2
    rw [List.append_nil] at h3
    exact h3.mono hc hs
  refine ⟨U, ?_, .threw T.heap.size, hrun, hend, Or.inr ⟨T.heap.size, rfl, cls, ce, locs, hx U hWs.alike f1 (fun q hq => f2 q hq (fun z hz => nomatch hz)), hce, hO.vm, hcl, hWs, hall, hf⟩⟩
  refine st1 _ ?_
  show Steps p.tables e below (T1.setTop { method := m, pc := pc + 3, locals := ls, stack := .ref T.heap.size :: rest, locked := none }) _
  jvm_step X₁.here [X₁.here.top, hexec, d3', Value.category]
  exact X₁.ldcStringW hexec (own := own) (text := text) (index := is) (a := sa) hown' hstr'.1 hstr'.2
    (g := { method := m, pc := pc + 4, locals := ls, stack := .ref T.heap.size :: .ref T.heap.size :: rest, locked := none }) rfl d4' _ hsteps
end Ends
section Bodies
variable {l : Launch}
theorem vx_ofW {y : MethodName} {ws ws' : List Cond} {rm : Room} {Pc : Array Value → State → Prop} {Qc : Array Value → State → Outcome → State → Prop} {XC : String → State → State → Prop} {mc ms : Nat} {free : Addr → Prop} {cc : ByteArray} {maxL : Nat} {ret : Option FieldType}
    (hy : plainName y.cls = true) (hw : ws = Cond.code y cc maxL ret :: ws')
    (body : ∀ p e s m args below meth c s₁, BodyLoose p l y (headSpec ws rm) cc maxL ret e s m args below meth c s₁ → c.maxLocals = maxL → (∀ x ∈ c.exceptionTable.toList, False) → Pc args s →
      W p l e (headSpec ws rm).room s m args below meth c s.heap [] 0 0 (vx_MQ below Qc XC args s mc ms free) (entryFrame m args maxL)) : vx_Met l y ws rm Pc Qc XC mc ms free := by
  refine MetFree.of_bodyS (code := cc) (maxLocals := maxL) (ret := ret) hy ?_ ?_
  · intro args s m h hn
    obtain ⟨meth, c, h1, h2, h3, h4, h5, h6, -, -⟩ := Cond.code_spec hn (atoms_spec (ws := ws) h _ (by rw [hw]; exact List.mem_cons_self))
    exact ⟨meth, c, h1, h2, h3, h4, h5, h6⟩
  · intro p e s m args below meth c s₁ B hml hP _
    have hh0 : s₁.heap = s.heap := by rw [B.state]; rfl
    have ht : ∀ x ∈ c.exceptionTable.toList, False := by
      obtain ⟨meth9, c9, h1, h2, -, -, -, -, h7, -⟩ := Cond.code_spec B.named (atoms_spec (ws := ws) B.pre _ (by rw [hw]; exact List.mem_cons_self))
      cases Option.some.inj (h1.symm.trans B.method)
      cases Option.some.inj (h2.symm.trans (Stand.of_body B).code)
      intro x hx
      rw [Array.isEmpty_iff.mp h7] at hx
      cases hx
    obtain ⟨t, a1, o, b1, b2, b3⟩ := body p e s m args below meth c s₁ B hml ht hP s₁ hh0 (Stand.of_body B)
    exact ⟨t, o, a1, b1, b2, b3⟩
/-- the table of a body with handlers -/
theorem vx_table {p : Program} {x y : MethodName} {S : Spec} {cc bytes : ByteArray} {maxL maxL' : Nat} {ret ret' : Option FieldType} {e : Env} {s s₁ : State} {m : MethodId} {args : Array Value} {below : List Frame} {meth : Method} {c : Code} {hh : List (Nat × Nat × Nat × Nat)}
    (B : BodyLoose p l y S cc maxL ret e s m args below meth c s₁) (h : (Cond.codeWith y bytes maxL' ret' hh).before args s = true) : c.exceptionTable.toList = tableOf hh := by
  obtain ⟨m9, meth9, c9, hn9, h1, h2, -, -, h6, -⟩ := Cond.codeWith_spec h
  cases Option.some.inj (hn9.symm.trans B.named)
  cases Option.some.inj (h1.symm.trans B.method)
  cases Option.some.inj (h2.symm.trans (Stand.of_body B).code)
  rw [← h6, table_eq]
end Bodies
end VXA
/-! ===== END ===== -/
/-! ===== BEGIN a static call of a method with an exception table ===== -/
section VXS
variable {p : Program} {l : Launch} {e : Env} {R : Room} {s : State} {m : MethodId} {args : Array Value} {below : List Frame} {meth : Method} {c : Code} {T : State} {H : Heap} {locs : List Loc} {cells slots : Nat}
abbrev vx_CSW (R : Room) (s : State) (args : Array Value) (own : String) (index : Nat) (y : MethodName) (bytes : ByteArray) (maxL : Nat) (ret : Option FieldType) (hh : List (Nat × Nat × Nat × Nat)) (ws : List Cond) (rm : Room) (mc ms n : Nat) : Prop :=
  (rm.cells = mc ∧ rm.slots = ms ∧ rm.frames + 1 ≤ R.frames ∧ 8 + (maxL + 11) + rm.locals ≤ R.locals ∧ (∀ w ∈ ws, ∀ (a' : Array Value) (U : State), s.WarmedH U.vm → w.before a' U = true) ∧ Cond.codeWith y bytes maxL ret hh ∈ ws) ∧
  (Cond.codeWith y bytes maxL ret hh).before args s = true ∧ (Cond.initialized y.cls).before args s = true ∧ (y.cls ≠ "java/lang/invoke/MethodHandle" ∧ y.cls ≠ "java/lang/invoke/VarHandle") ∧
  (∀ sig, parseMethodDescriptor y.desc = some sig → n = sig.parameters.length) ∧ (Cond.methodLink own index y).before args s = true ∧ (Cond.static y).before args s = true
theorem vx_cwSW {own : String} {index maxL mc ms : Nat} {y : MethodName} {bytes : ByteArray} {ret : Option FieldType} {hh : List (Nat × Nat × Nat × Nat)} {Ts ws ws' : List Cond} {rm : Room} (n : Nat) (ht : ∀ w ∈ Ts, w.before args s = true) (hT : GoodIn Ts (va_wsS own index y ws)) (hw : ws = Cond.codeWith y bytes maxL ret hh :: ws') (hrc : rm.cells = mc) (hrs : rm.slots = ms)
    (hd : y.cls ≠ "java/lang/invoke/MethodHandle" ∧ y.cls ≠ "java/lang/invoke/VarHandle" ∧ (parseMethodDescriptor y.desc).map (fun d => d.parameters.length) = some n) (hR : rm.frames + 1 ≤ R.frames ∧ 8 + (maxL + 11) + rm.locals ≤ R.locals) :
    vx_CSW R s args own index y bytes maxL ret hh ws rm mc ms n := by
  have ok : ∀ w ∈ va_wsS own index y ws, w.before args s = true := fun w h => ht w (hT w h).1
  have hG : GoodIn Ts ws := fun w h => hT w (by unfold va_wsS; exact List.mem_append_right _ h)
  have hc : Cond.codeWith y bytes maxL ret hh ∈ ws := by rw [hw]; exact List.mem_cons_self
  refine ⟨⟨hrc, hrs, hR.1, hR.2, pay_in ht hG, hc⟩, ht _ (hG _ hc).1, ok _ (by simp [va_wsS]), ⟨hd.1, hd.2.1⟩, fun sig h => ?_, ok _ (by simp [va_wsS]), ok _ (by simp [va_wsS])⟩
  have h2 := hd.2.2
  rw [h] at h2
  exact (Option.some.inj h2).symm
theorem vx_callSW (X : Stand p l e R s m args below meth c T locs cells slots) (hexec : p.tables.exec = Jvm.exec) {own : String} {index : Nat} {y : MethodName} {bytes : ByteArray} {maxL : Nat} {ret : Option FieldType} {hh : List (Nat × Nat × Nat × Nat)}
    (hown : s.vm.findClass own = some m.cls) (hlink : (Cond.methodLink own index y).before args s = true) (hstat : (Cond.static y).before args s = true) (hinit : (Cond.initialized y.cls).before args s = true)
    (hcode : (Cond.codeWith y bytes maxL ret hh).before args s = true) (hy : y.cls ≠ "java/lang/invoke/MethodHandle" ∧ y.cls ≠ "java/lang/invoke/VarHandle")
    {W9 : Nat} {Pre : Pt → Array Value → Prop} {Post : Pt → Array Value → Option Value → Pt → Prop} (hK : Back l R p e below s args y 3 W9 Pre Post)
    {g : JFrame} (hg : g.method = m) (hsize : g.locals.size = c.maxLocals) {argsL rest : List Value} (hlen : ∀ sig, parseMethodDescriptor y.desc = some sig → argsL.length = sig.parameters.length)
    (hstack : g.stack = argsL.reverse ++ rest) (hW : 2 * g.monitorRoom + (rest.map fun v => v.category).sum ≤ W9) (hdg : decode c.code g.pc = .ok (.invokestatic index, 3))
    (hpre : ∀ vm₁, s.WarmedH vm₁ → Pre ⟨T.setVm vm₁, locs, cells, slots⟩ argsL.toArray) :
    ∃ (v : Option Value) (vm₁ : Vm) (B : Pt), s.WarmedH vm₁ ∧ Stand p l e R s m args below meth c B.U B.locs B.cells B.slots ∧ Post ⟨T.setVm vm₁, locs, cells, slots⟩ argsL.toArray v B ∧
      ∀ target, Steps p.tables e below (B.U.setTop { g with pc := g.pc + 3, stack := v.toList ++ rest }) target → Steps p.tables e below (T.setTop g) target := by
  obtain ⟨mk, methM, cM, hnamed, hmethM, -, -, -, -, -, -, hsigM⟩ := Cond.codeWith_spec hcode
  have hstatic : methM.isStatic = true := Cond.static_spec hnamed hmethM hstat
  obtain ⟨kP, hkP, -⟩ := className_of_methodNamed hnamed
  have hinitP : kP.init = .initialized := Cond.initialized_spec (findClass_of_methodNamed hnamed) hkP hinit
  obtain ⟨vm₁, X₁, hstep₁⟩ := X.invokestatic hexec hown hlink hnamed hmethM hstatic hkP hinitP hy (g := g) hg (argsL := argsL) (rest := rest) (hlen _ hsigM) hstack hdg
  obtain ⟨v, B, X', hpost, hsteps⟩ := hK m meth c ⟨T.setVm vm₁, locs, cells, slots⟩ { g with stack := rest } (.invokestatic index) mk argsL.toArray X₁ hg hsize hdg hW (X₁.named hnamed) (hpre vm₁ X₁.warmed)
  exact ⟨v, vm₁, B, X₁.warmed, X', hpost, fun target h => hstep₁ _ fun acts => by rw [doInvoke_state]; exact hsteps.trans h⟩
theorem vx_runSW {y : MethodName} {bytes cc : ByteArray} {maxL nL mc ms n index : Nat} {ret : Option FieldType} {hh : List (Nat × Nat × Nat × Nat)} {ws : List Cond} {rm : Room} {Pc : Array Value → State → Prop} {Qc : Array Value → State → Outcome → State → Prop} {free : Addr → Prop} {Ts : List Cond} {own : String} {As rest : List Value} {g : JFrame}
    (S : CallFix p m c cc nL s args Ts own) (hM : Met l y ws rm Pc Qc mc ms free) (cw : vx_CSW R s args own index y bytes maxL ret hh ws rm mc ms n) (hp : PreS s H Pc As)
    (hg : g.method = m) (hn : As.length = n) (hsize : g.locals.size = nL) (hstack : g.stack = As.reverse ++ rest) (hW : 2 * g.monitorRoom + (rest.map fun v => v.category).sum ≤ 8) (hdg : decode cc g.pc = .ok (.invokestatic index, 3)) (hf : cells + mc ≤ R.cells ∧ slots + ms ≤ R.slots) :
    va_Run p l e R s m args below meth c H locs cells slots mc ms g rest (Qc As.toArray) (free) := by
  obtain ⟨⟨hrc, hrs, hfr, hlo, hws, hcw⟩, hcode, hini, hy, hlen, hl, hstt⟩ := cw
  have hK : Back l R p e below s args y 3 8 (PreOf R mc ms Pc) (PostOf Qc mc ms free) := va_backW (hh := hh) (bytes := bytes) (maxL := maxL) (ret := ret) hM hp.1 hrc hrs hfr hlo hws hcw (fun a' U hW => word_at hW (Or.inl (by first | rfl | simp [Cond.onTables, Cond.keeps, Cond.steady])) hini)
  obtain ⟨hx, hb, hml, ho, -⟩ := S
  intro T hT X
  obtain ⟨v, vm₁, ⟨U', l2, c2, s2⟩, hW₁, X', ⟨g', mk, t, L, e1, e2, hq, h1, hL, h2, h3⟩, st⟩ := vx_callSW X hx (hh := hh) (bytes := bytes) (maxL := maxL) (ret := ret) ho hl hstt hini hcode hy hK hg (hsize.trans hml.symm) (argsL := As) (rest := rest) (fun sig h => hn.trans (hlen sig h)) hstack hW (by rw [hb]; exact hdg)
    (fun vm₁ hW₁ => ⟨hf.1, hf.2, hp.2 (T.setVm vm₁) hT hW₁⟩)
  dsimp only [Pt.U, Pt.locs, Pt.cells, Pt.slots] at X' e1 e2 h1 h2 h3 st
  subst h1; subst h2; subst h3
  exact ⟨v, (T.setVm vm₁).calling g' mk As.toArray, t, U', L, hT, X', hL, e1, e2, hq, st⟩
/-- not caught here, past rows that name other classes: it goes on to the caller -/
theorem vx_outP {p : Program} {l : Launch} {e : Env} {R : Room} {s : State} {m : MethodId} {args : Array Value} {below : List Frame} {meth : Method} {c : Code} {H : Heap} {locs : List Loc} {cells slots : Nat} {free : Addr → Prop} {ls : Array Slot} {rest : List Value} {Qc : Array Value → State → Outcome → State → Prop} {XC : String → State → State → Prop}
    {pc : Nat} {own E : String} {ce : Cell} {q : Addr} {mc ms : Nat} (hown : s.vm.findClass own = some m.cls) (hlocks : meth.locks = false)
    (hpass : ∀ z ∈ c.exceptionTable.toList, covers z pc = false ∨ (z.catchType ≠ 0 ∧ ∃ nm : String, (Cond.classLink own z.catchType nm).before args s = true ∧ va_Nc E nm s)) (hcell : H[q]? = some ce) (hv : ce.vm = .none) (hcl : s.vm.findClass E = some ce.cls)
    (hx : ∀ t : State, t.heap = H → s.vm.Alike t.vm → XC E s t) (hf : ∀ z ∈ locs, free z.base) (hc : cells ≤ mc) (hs : slots ≤ ms) :
    vx_W p l e R s m args below meth c H locs cells slots (vx_MQ below Qc XC args s mc ms free) (F0 m pc ls rest) q := by
  intro T hT X
  have hpl : e.platform.magicAccessors = ({} : Platform).magicAccessors := by rw [X.admits.platform]
  obtain ⟨vm', hW', X', st⟩ := X.outThrough hlocks q (g := F0 m pc ls rest) rfl rfl rfl (cell := ce) (by rw [hT]; exact hcell) (by rw [hv]; rfl)
    (by obtain ⟨k9, h9, -⟩ := Vm.findClass_spec hcl; exact ⟨k9, h9⟩) (fun z hz => by
      rcases hpass z hz with h | ⟨hz0, nm, hl1, hn1⟩
      · exact Or.inl h
      · obtain ⟨c6, hc6, hcl6⟩ := Cond.classLink_spec hown hl1 e.platform hpl
        obtain ⟨a8, b8, h1, h2, h3⟩ := hn1
        cases Option.some.inj (h1.symm.trans hcl)
        cases Option.some.inj (h2.symm.trans hc6)
        exact Or.inr ⟨hz0, _, hcl6, h3⟩)
  obtain ⟨g₀, hfr⟩ := X'.frames_eq
  have hcell9 : ((T.setVm vm').setFrames (.throwing q :: below)).heap[q]? = some ce := by
    show T.heap[q]? = some ce
    rw [hT]; exact hcell
  have hend : Ended ((T.setVm vm').setFrames (.throwing q :: below)) below (.threw q) := State.frames_setFrames _ (State.cur_lt_of_frames hfr)
  refine ⟨(T.setVm vm').setFrames (.throwing q :: below), ?_, .threw q, X'.here.running, hend, Or.inr ⟨q, rfl, E, ce, locs, hx _ hT (X'.ends _).1.alike, hcell9, hv, hcl, (X'.ends _).1, (X'.ends _).2.mono hc hs, hf⟩⟩
  rw [X.pushThrowing_eq]
  exact st
/-- a thing of a world lies in the heap -/
theorem vx_lt {D : va_G} {cl : List vw_C} {ws : va_W} {H1 : Heap} (h : va_P D cl ws H1) {k : Nat} {q : Nat × va_E} (hk : ws[k]? = some q) : q.1 < H1.size := (h k q hk).lt
end VXS
/-! ===== END ===== -/
/-! ===== BEGIN methods with a table of their own: called by a name, returning or throwing ===== -/
section VXH
/-! vx_backW, vx_callVX, vx_callSX, vx_callVW, vx_runVW, vx_runVX, vx_runSX, vx_ofWH follow the same proofs as their sisters above (Free/Laws.lean, Shelf42/LK1.lean); vx_outP calls Shelf42/NT130.lean (outThrough). -/
section
variable {l : Launch} {R : Room} {p : Program} {e : Env} {below : List Frame} {s : State} {sargs : Array Value} {y : MethodName} {len W9 : Nat}
theorem vx_backW {ws : List Cond} {rm : Room} {Pc : Array Value → State → Prop} {Qc : Array Value → State → Outcome → State → Prop} {XC : String → State → State → Prop} {mc ms : Nat} {free : Addr → Prop} {bytes : ByteArray} {maxL : Nat} {ret : Option FieldType} {hh : List (Nat × Nat × Nat × Nat)}
    (hM : vx_Met l y ws rm Pc Qc XC mc ms free) (hblind : FrameBlind Pc) (hrc : rm.cells = mc) (hrs : rm.slots = ms)
    (hframes : rm.frames + 1 ≤ R.frames) (hlocals : W9 + (maxL + 11) + rm.locals ≤ R.locals)
    (hws : ∀ w ∈ ws, ∀ a' U, s.WarmedH U.vm → w.before a' U = true) (hcode : Cond.codeWith y bytes maxL ret hh ∈ ws) (hinit : ∀ a' U, s.WarmedH U.vm → (Cond.initialized y.cls).before a' U = true) :
    vx_Back l R p e below s sargs y len W9 (PreOf R mc ms Pc) (PostOf Qc mc ms free) (vx_Post XC mc ms free) := by
  intro m meth c A g ig mk a X hg hsize hdg hW hn hp
  have h1 : (headSpec ws rm).pre.before a A.U = true := atoms_intro fun w hw => hws w hw _ _ X.warmed
  have h2 : (Cond.codeWith y bytes maxL ret hh).before a A.U = true := hws _ hcode _ _ X.warmed
  have h3 : (Cond.initialized y.cls).before a A.U = true := hinit _ _ X.warmed
  have h4 : A.cells + (headSpec ws rm).room.cells ≤ R.cells := by rw [show (headSpec ws rm).room.cells = mc from hrc]; exact hp.1
  have h5 : A.slots + (headSpec ws rm).room.slots ≤ R.slots := by rw [show (headSpec ws rm).room.slots = ms from hrs]; exact hp.2.1
  have hPc : Pc a (A.U.calling g mk a) := hblind _ _ _ _ hp.2.2
  obtain ⟨U, Ls, c0, s0⟩ := A
  dsimp only [Pt.U, Pt.locs, Pt.cells, Pt.slots] at h1 h2 h3 h4 h5 X hn hPc ⊢
  obtain ⟨m9, methY, cY, hn9, hmY, hcY, -, hlY, -⟩ := Cond.codeWith_spec h2
  cases Option.some.inj (hn9.symm.trans hn)
  obtain ⟨kY, hkY, -⟩ := className_of_methodNamed hn
  have hinitY : kY.init = .initialized := Cond.initialized_spec (findClass_of_methodNamed hn) hkY h3
  have h : At U g.method c below := by rw [hg]; exact X.here
  have hlocals9 : W9 + (maxL + 11) + (headSpec ws rm).room.locals ≤ R.locals := hlocals
  have happ : (headSpec ws rm).appliesLoose y e.platform (U.calling g mk a) = true :=
    Spec.appliesLoose_calling (g := g) h hdg hn hkY hinitY
      (X.room_calling (g := g) (R' := (headSpec ws rm).room) hsize hmY hcY hframes (by rw [hlY]; omega) h4 h5) h1
  obtain ⟨mid, hmid⟩ := h.above
  have hfr : (U.setTop g).frames = (.java g :: mid) ++ below := by rw [State.frames_setTop' g h.top, hmid]; rfl
  obtain ⟨o, s₂, hsteps, -, hend, hq⟩ := Steps.callFree hM p X.admits X.cas X.clock (acts := []) hfr happ hPc trivial
  have hq' : vx_Q Qc XC mc ms free a (U.calling g mk a) o s₂ := hq
  rw [State.frames_setTop' g h.top] at hend
  obtain ⟨g₀, hg0⟩ := Option.isSome_iff_exists.mp h.top
  obtain ⟨r, hr⟩ := State.topJava?_eq_some.mp hg0
  have hr' : (({ U with heap := s₂.heap, slotsUsed := s₂.slotsUsed } : State).setVm s₂.vm).frames = .java g₀ :: r := hr
  rcases hq' with ⟨hqc, L, hfe, hL⟩ | ⟨q, rfl, E, ce, L, hx, hce, hcv, hcl, hW₂, hsm, hL⟩
  · obtain ⟨⟨v, rfl⟩, hW₂, e2, q2, q3, q4, q5, q6⟩ := id hfe
    have e3 : s₂ = ({ (U.calling g mk a).setFrames s₂.frames with heap := s₂.heap, slotsUsed := s₂.slotsUsed } : State).setVm s₂.vm := by
      have : s₂ = ({ s₂ with vm := (U.calling g mk a).vm } : State).setVm s₂.vm := rfl
      rw [e2] at this
      exact this
    obtain ⟨c₂, i₂, len₂, hc₂, hd₂, hf₂⟩ := hend
    have hW' : U.WarmedH s₂.vm := hW₂
    have hcc : c₂ = c := by
      have h1 : s₂.code? g.method = U.code? g.method := by
        rw [State.code?_eq, State.code?_eq, hW'.alike.method?]
      exact Option.some.inj (hc₂.symm.trans (h1.trans h.code))
    subst hcc
    have hlen : len₂ = len := by rw [hdg] at hd₂; cases hd₂; rfl
    subst hlen
    have hs₂ : s₂ = (({ U with heap := s₂.heap, slotsUsed := s₂.slotsUsed } : State).setVm s₂.vm).setTop { g with pc := g.pc + len₂, stack := v.toList ++ g.stack } := by
      refine e3.trans ?_
      rw [hf₂, State.calling_eq h.top, State.setFrames_setFrames, State.setTop_of_frames _ hr', hr]
      rfl
    have hsame : U.sameButNew ({ U with heap := s₂.heap, slotsUsed := s₂.slotsUsed } : State) L mc ms := by
      refine ⟨?_, q2, q3, q4, q5, q6⟩
      obtain ⟨t, ht, -⟩ := State.frames_cons hr
      show ({ U with heap := s₂.heap, slotsUsed := s₂.slotsUsed } : State) = { U.setFrames U.frames with heap := s₂.heap, slotsUsed := s₂.slotsUsed }
      rw [State.setFrames_self ht]
    subst hg
    refine Or.inl ⟨v, ⟨(({ U with heap := s₂.heap, slotsUsed := s₂.slotsUsed } : State).setVm s₂.vm), Ls ++ L, c0 + mc, s0 + ms⟩,
      ⟨X.admits, X.cas, X.clock, X.frames, X.room, X.hears, X.method, X.code, (X.here.setHeapUsed s₂.heap s₂.slotsUsed).setVm hW'.alike, X.tail, State.WarmedH.trans X.warmed hW', X.limits, X.bytes, X.same.trans (hsame.setVm s.vm)⟩,
      ⟨g, mk, s₂, L, rfl, rfl, hqc, rfl, hL, rfl, rfl⟩, ?_⟩
    show Steps p.tables e below _ ((({ U with heap := s₂.heap, slotsUsed := s₂.slotsUsed } : State).setVm s₂.vm).setTop { g with pc := g.pc + len₂, stack := v.toList ++ g.stack })
    rw [← hs₂]
    exact hsteps
  · obtain ⟨e2, q2, q3, q4, q5, q6⟩ := id hsm
    have e3 : s₂ = ({ (U.calling g mk a).setFrames s₂.frames with heap := s₂.heap, slotsUsed := s₂.slotsUsed } : State).setVm s₂.vm := by
      have : s₂ = ({ s₂ with vm := (U.calling g mk a).vm } : State).setVm s₂.vm := rfl
      rw [e2] at this
      exact this
    have hf₂ : s₂.frames = .throwing q :: .java g :: U.frames.tail := hend
    have hW' : U.WarmedH s₂.vm := hW₂
    have hs₂ : s₂ = ((({ U with heap := s₂.heap, slotsUsed := s₂.slotsUsed } : State).setVm s₂.vm).setTop g).pushFrame (.throwing q) := by
      refine e3.trans ?_
      rw [hf₂, State.calling_eq h.top, State.setFrames_setFrames, State.pushFrame, State.frames_setTop _ hr', State.setTop_of_frames _ hr', State.setFrames_setFrames, hr]
      rfl
    have hsame : U.sameButNew ({ U with heap := s₂.heap, slotsUsed := s₂.slotsUsed } : State) L mc ms := by
      refine ⟨?_, q2, q3, q4, q5, q6⟩
      obtain ⟨t, ht, -⟩ := State.frames_cons hr
      show ({ U with heap := s₂.heap, slotsUsed := s₂.slotsUsed } : State) = { U.setFrames U.frames with heap := s₂.heap, slotsUsed := s₂.slotsUsed }
      rw [State.setFrames_self ht]
    subst hg
    refine Or.inr ⟨q, ⟨(({ U with heap := s₂.heap, slotsUsed := s₂.slotsUsed } : State).setVm s₂.vm), Ls ++ L, c0 + mc, s0 + ms⟩,
      ⟨X.admits, X.cas, X.clock, X.frames, X.room, X.hears, X.method, X.code, (X.here.setHeapUsed s₂.heap s₂.slotsUsed).setVm hW'.alike, X.tail, State.WarmedH.trans X.warmed hW', X.limits, X.bytes, X.same.trans (hsame.setVm s.vm)⟩,
      ⟨g, mk, s₂, L, E, ce, rfl, rfl, hx, hce, hcv, hcl, rfl, hL, rfl, rfl⟩, ?_⟩
    show Steps p.tables e below _ (((({ U with heap := s₂.heap, slotsUsed := s₂.slotsUsed } : State).setVm s₂.vm).setTop g).pushFrame (.throwing q))
    rw [← hs₂]
    exact hsteps
end
variable {p : Program} {l : Launch} {e : Env} {R : Room} {s : State} {m : MethodId} {args : Array Value} {below : List Frame} {meth : Method} {c : Code} {T : State} {H : Heap} {locs : List Loc} {cells slots : Nat}
theorem vx_callVX (X : Stand p l e R s m args below meth c T locs cells slots) (hexec : p.tables.exec = Jvm.exec) {own C : String} {index : Nat} {y : MethodName} {bytes : ByteArray} {maxL : Nat} {ret : Option FieldType} {hh : List (Nat × Nat × Nat × Nat)}
    (hown : s.vm.findClass own = some m.cls) (hlink : (Cond.methodLink own index y).before args s = true) (hinst : (Cond.instanceMethod y).before args s = true) (hsel : (Cond.selects C y y).before args s = true)
    (hcode : (Cond.codeWith y bytes maxL ret hh).before args s = true) (hy : y.cls ≠ "java/lang/invoke/MethodHandle" ∧ y.cls ≠ "java/lang/invoke/VarHandle")
    {W9 : Nat} {Pre : Pt → Array Value → Prop} {Post : Pt → Array Value → Option Value → Pt → Prop} {PostX : Pt → Array Value → Addr → Pt → Prop} (hK : vx_Back l R p e below s args y 3 W9 Pre Post PostX)
    {b : Addr} {cellB : Cell} (hcell : T.heap[b]? = some cellB) (hobj : cellB.vm.isStatics = false) (hcls : s.vm.findClass C = some cellB.cls)
    {g : JFrame} (hg : g.method = m) (hsize : g.locals.size = c.maxLocals) {argsL rest : List Value} (hlen : ∀ sig, parseMethodDescriptor y.desc = some sig → argsL.length = sig.parameters.length)
    (hstack : g.stack = argsL.reverse ++ .ref b :: rest) (hW : 2 * g.monitorRoom + (rest.map fun v => v.category).sum ≤ W9) (hdg : decode c.code g.pc = .ok (.invokevirtual index, 3))
    (hpre : ∀ vm₁, s.WarmedH vm₁ → Pre ⟨T.setVm vm₁, locs, cells, slots⟩ (Value.ref b :: argsL).toArray) :
    (∃ (v : Option Value) (vm₁ : Vm) (B : Pt), s.WarmedH vm₁ ∧ Stand p l e R s m args below meth c B.U B.locs B.cells B.slots ∧ Post ⟨T.setVm vm₁, locs, cells, slots⟩ (Value.ref b :: argsL).toArray v B ∧
      ∀ target, Steps p.tables e below (B.U.setTop { g with pc := g.pc + 3, stack := v.toList ++ rest }) target → Steps p.tables e below (T.setTop g) target) ∨
    (∃ (q : Addr) (vm₁ : Vm) (B : Pt), s.WarmedH vm₁ ∧ Stand p l e R s m args below meth c B.U B.locs B.cells B.slots ∧ PostX ⟨T.setVm vm₁, locs, cells, slots⟩ (Value.ref b :: argsL).toArray q B ∧
      Steps p.tables e below (T.setTop g) ((B.U.setTop { g with stack := rest }).pushFrame (.throwing q))) := by
  obtain ⟨mk, methM, hnamed, hmethM, hstM, habM⟩ := Cond.instanceMethod_spec hinst
  obtain ⟨m8, methM', cM, hn8, hmethM', -, -, -, -, -, -, hsigM⟩ := Cond.codeWith_spec hcode
  cases Option.some.inj (hn8.symm.trans hnamed)
  cases hmethM.symm.trans hmethM'
  obtain ⟨c2, r2, m2, q1, q2, q3, q4, kP, hkP, hkPi⟩ := Cond.selects_spec hsel
  cases hcls.symm.trans q1
  cases (State.methodFound?_of_named hnamed hy).symm.trans q2
  cases hnamed.symm.trans q3
  have hselP : selectMethod e.platform s.vm cellB.cls mk = .method mk := by rw [Launch.admits_selectMethod X.admits]; exact q4
  obtain ⟨vm₁, X₁, hstep₁⟩ := X.invokevirtual hexec hown hlink hnamed hmethM hstM hkP hkPi hy (a := b) (cell := cellB) hcell
    (fun z h => by rw [h] at hobj; cases hobj) hselP hmethM habM hkP hkPi (g := g) hg (argsL := argsL) (rest := rest) (hlen _ hsigM) hstack hdg
  rcases hK m meth c ⟨T.setVm vm₁, locs, cells, slots⟩ { g with stack := rest } (.invokevirtual index) mk (Value.ref b :: argsL).toArray X₁ hg hsize hdg hW (X₁.named hnamed) (hpre vm₁ X₁.warmed) with ⟨v, B, X', hpost, hsteps⟩ | ⟨q, B, X', hpost, hsteps⟩
  · exact Or.inl ⟨v, vm₁, B, X₁.warmed, X', hpost, fun target h => hstep₁ _ fun acts => by rw [doInvoke_state]; exact hsteps.trans h⟩
  · exact Or.inr ⟨q, vm₁, B, X₁.warmed, X', hpost, hstep₁ _ fun acts => by rw [doInvoke_state]; exact hsteps⟩
theorem vx_callSX (X : Stand p l e R s m args below meth c T locs cells slots) (hexec : p.tables.exec = Jvm.exec) {own : String} {index : Nat} {y : MethodName} {bytes : ByteArray} {maxL : Nat} {ret : Option FieldType} {hh : List (Nat × Nat × Nat × Nat)}
    (hown : s.vm.findClass own = some m.cls) (hlink : (Cond.methodLink own index y).before args s = true) (hstat : (Cond.static y).before args s = true) (hinit : (Cond.initialized y.cls).before args s = true)
    (hcode : (Cond.codeWith y bytes maxL ret hh).before args s = true) (hy : y.cls ≠ "java/lang/invoke/MethodHandle" ∧ y.cls ≠ "java/lang/invoke/VarHandle")
    {W9 : Nat} {Pre : Pt → Array Value → Prop} {Post : Pt → Array Value → Option Value → Pt → Prop} {PostX : Pt → Array Value → Addr → Pt → Prop} (hK : vx_Back l R p e below s args y 3 W9 Pre Post PostX)
    {g : JFrame} (hg : g.method = m) (hsize : g.locals.size = c.maxLocals) {argsL rest : List Value} (hlen : ∀ sig, parseMethodDescriptor y.desc = some sig → argsL.length = sig.parameters.length)
    (hstack : g.stack = argsL.reverse ++ rest) (hW : 2 * g.monitorRoom + (rest.map fun v => v.category).sum ≤ W9) (hdg : decode c.code g.pc = .ok (.invokestatic index, 3))
    (hpre : ∀ vm₁, s.WarmedH vm₁ → Pre ⟨T.setVm vm₁, locs, cells, slots⟩ argsL.toArray) :
    (∃ (v : Option Value) (vm₁ : Vm) (B : Pt), s.WarmedH vm₁ ∧ Stand p l e R s m args below meth c B.U B.locs B.cells B.slots ∧ Post ⟨T.setVm vm₁, locs, cells, slots⟩ argsL.toArray v B ∧
      ∀ target, Steps p.tables e below (B.U.setTop { g with pc := g.pc + 3, stack := v.toList ++ rest }) target → Steps p.tables e below (T.setTop g) target) ∨
    (∃ (q : Addr) (vm₁ : Vm) (B : Pt), s.WarmedH vm₁ ∧ Stand p l e R s m args below meth c B.U B.locs B.cells B.slots ∧ PostX ⟨T.setVm vm₁, locs, cells, slots⟩ argsL.toArray q B ∧
      Steps p.tables e below (T.setTop g) ((B.U.setTop { g with stack := rest }).pushFrame (.throwing q))) := by
  obtain ⟨mk, methM, cM, hnamed, hmethM, -, -, -, -, -, -, hsigM⟩ := Cond.codeWith_spec hcode
  have hstatic : methM.isStatic = true := Cond.static_spec hnamed hmethM hstat
  obtain ⟨kP, hkP, -⟩ := className_of_methodNamed hnamed
  have hinitP : kP.init = .initialized := Cond.initialized_spec (findClass_of_methodNamed hnamed) hkP hinit
  obtain ⟨vm₁, X₁, hstep₁⟩ := X.invokestatic hexec hown hlink hnamed hmethM hstatic hkP hinitP hy (g := g) hg (argsL := argsL) (rest := rest) (hlen _ hsigM) hstack hdg
  rcases hK m meth c ⟨T.setVm vm₁, locs, cells, slots⟩ { g with stack := rest } (.invokestatic index) mk argsL.toArray X₁ hg hsize hdg hW (X₁.named hnamed) (hpre vm₁ X₁.warmed) with ⟨v, B, X', hpost, hsteps⟩ | ⟨q, B, X', hpost, hsteps⟩
  · exact Or.inl ⟨v, vm₁, B, X₁.warmed, X', hpost, fun target h => hstep₁ _ fun acts => by rw [doInvoke_state]; exact hsteps.trans h⟩
  · exact Or.inr ⟨q, vm₁, B, X₁.warmed, X', hpost, hstep₁ _ fun acts => by rw [doInvoke_state]; exact hsteps⟩
theorem vx_callVW (X : Stand p l e R s m args below meth c T locs cells slots) (hexec : p.tables.exec = Jvm.exec) {own C : String} {index : Nat} {y : MethodName} {bytes : ByteArray} {maxL : Nat} {ret : Option FieldType} {hh : List (Nat × Nat × Nat × Nat)}
    (hown : s.vm.findClass own = some m.cls) (hlink : (Cond.methodLink own index y).before args s = true) (hinst : (Cond.instanceMethod y).before args s = true) (hsel : (Cond.selects C y y).before args s = true)
    (hcode : (Cond.codeWith y bytes maxL ret hh).before args s = true) (hy : y.cls ≠ "java/lang/invoke/MethodHandle" ∧ y.cls ≠ "java/lang/invoke/VarHandle")
    {W9 : Nat} {Pre : Pt → Array Value → Prop} {Post : Pt → Array Value → Option Value → Pt → Prop} (hK : Back l R p e below s args y 3 W9 Pre Post)
    {b : Addr} {cellB : Cell} (hcell : T.heap[b]? = some cellB) (hobj : cellB.vm.isStatics = false) (hcls : s.vm.findClass C = some cellB.cls)
    {g : JFrame} (hg : g.method = m) (hsize : g.locals.size = c.maxLocals) {argsL rest : List Value} (hlen : ∀ sig, parseMethodDescriptor y.desc = some sig → argsL.length = sig.parameters.length)
    (hstack : g.stack = argsL.reverse ++ .ref b :: rest) (hW : 2 * g.monitorRoom + (rest.map fun v => v.category).sum ≤ W9) (hdg : decode c.code g.pc = .ok (.invokevirtual index, 3))
    (hpre : ∀ vm₁, s.WarmedH vm₁ → Pre ⟨T.setVm vm₁, locs, cells, slots⟩ (Value.ref b :: argsL).toArray) :
    ∃ (v : Option Value) (vm₁ : Vm) (B : Pt), s.WarmedH vm₁ ∧ Stand p l e R s m args below meth c B.U B.locs B.cells B.slots ∧ Post ⟨T.setVm vm₁, locs, cells, slots⟩ (Value.ref b :: argsL).toArray v B ∧
      ∀ target, Steps p.tables e below (B.U.setTop { g with pc := g.pc + 3, stack := v.toList ++ rest }) target → Steps p.tables e below (T.setTop g) target := by
  obtain ⟨mk, methM, hnamed, hmethM, hstM, habM⟩ := Cond.instanceMethod_spec hinst
  obtain ⟨m8, methM', cM, hn8, hmethM', -, -, -, -, -, -, hsigM⟩ := Cond.codeWith_spec hcode
  cases Option.some.inj (hn8.symm.trans hnamed)
  cases hmethM.symm.trans hmethM'
  obtain ⟨c2, r2, m2, q1, q2, q3, q4, kP, hkP, hkPi⟩ := Cond.selects_spec hsel
  cases hcls.symm.trans q1
  cases (State.methodFound?_of_named hnamed hy).symm.trans q2
  cases hnamed.symm.trans q3
  have hselP : selectMethod e.platform s.vm cellB.cls mk = .method mk := by rw [Launch.admits_selectMethod X.admits]; exact q4
  obtain ⟨vm₁, X₁, hstep₁⟩ := X.invokevirtual hexec hown hlink hnamed hmethM hstM hkP hkPi hy (a := b) (cell := cellB) hcell
    (fun z h => by rw [h] at hobj; cases hobj) hselP hmethM habM hkP hkPi (g := g) hg (argsL := argsL) (rest := rest) (hlen _ hsigM) hstack hdg
  obtain ⟨v, B, X', hpost, hsteps⟩ := hK m meth c ⟨T.setVm vm₁, locs, cells, slots⟩ { g with stack := rest } (.invokevirtual index) mk (Value.ref b :: argsL).toArray X₁ hg hsize hdg hW (X₁.named hnamed) (hpre vm₁ X₁.warmed)
  exact ⟨v, vm₁, B, X₁.warmed, X', hpost, fun target h => hstep₁ _ fun acts => by rw [doInvoke_state]; exact hsteps.trans h⟩
abbrev vx_CVW (R : Room) (s : State) (args : Array Value) (own C : String) (index : Nat) (y : MethodName) (bytes : ByteArray) (maxL : Nat) (ret : Option FieldType) (hh : List (Nat × Nat × Nat × Nat)) (ws : List Cond) (rm : Room) (mc ms n : Nat) : Prop :=
  (rm.cells = mc ∧ rm.slots = ms ∧ rm.frames + 1 ≤ R.frames ∧ 8 + (maxL + 11) + rm.locals ≤ R.locals ∧ (∀ w ∈ ws, ∀ (a' : Array Value) (U : State), s.WarmedH U.vm → w.before a' U = true) ∧ Cond.codeWith y bytes maxL ret hh ∈ ws) ∧
  (Cond.codeWith y bytes maxL ret hh).before args s = true ∧ (Cond.initialized y.cls).before args s = true ∧ (y.cls ≠ "java/lang/invoke/MethodHandle" ∧ y.cls ≠ "java/lang/invoke/VarHandle") ∧
  (∀ sig, parseMethodDescriptor y.desc = some sig → n = sig.parameters.length) ∧ (Cond.methodLink own index y).before args s = true ∧ (Cond.instanceMethod y).before args s = true ∧ (Cond.selects C y y).before args s = true
theorem vx_cwVW {own C : String} {index maxL mc ms : Nat} {y : MethodName} {bytes : ByteArray} {ret : Option FieldType} {hh : List (Nat × Nat × Nat × Nat)} {Ts ws ws' : List Cond} {rm : Room} (n : Nat) (ht : ∀ w ∈ Ts, w.before args s = true) (hT : GoodIn Ts (wsV own index C y ws)) (hw : ws = Cond.codeWith y bytes maxL ret hh :: ws') (hrc : rm.cells = mc) (hrs : rm.slots = ms)
    (hd : y.cls = C ∧ y.cls ≠ "java/lang/invoke/MethodHandle" ∧ y.cls ≠ "java/lang/invoke/VarHandle" ∧ (parseMethodDescriptor y.desc).map (fun d => d.parameters.length) = some n) (hR : rm.frames + 1 ≤ R.frames ∧ 8 + (maxL + 11) + rm.locals ≤ R.locals) :
    vx_CVW R s args own C index y bytes maxL ret hh ws rm mc ms n := by
  obtain ⟨hC, hd⟩ := hd
  subst hC
  have ok : ∀ w ∈ wsV own index y.cls y ws, w.before args s = true := fun w h => ht w (hT w h).1
  have hG : GoodIn Ts ws := fun w h => hT w (by unfold wsV; exact List.mem_append_right _ h)
  have hc : Cond.codeWith y bytes maxL ret hh ∈ ws := by rw [hw]; exact List.mem_cons_self
  refine ⟨⟨hrc, hrs, hR.1, hR.2, pay_in ht hG, hc⟩, ht _ (hG _ hc).1, ok _ (by simp [wsV]), ⟨hd.1, hd.2.1⟩, fun sig h => ?_, ok _ (by simp [wsV]), ok _ (by simp [wsV]), ok _ (by simp [wsV])⟩
  have h2 := hd.2.2
  rw [h] at h2
  exact (Option.some.inj h2).symm
theorem vx_runVW {y : MethodName} {bytes cc : ByteArray} {maxL nL mc ms n index : Nat} {ret : Option FieldType} {hh : List (Nat × Nat × Nat × Nat)} {ws : List Cond} {rm : Room} {Pc : Array Value → State → Prop} {Qc : Array Value → State → Outcome → State → Prop} {free : Addr → Prop} {Ts : List Cond} {own C : String} {b : Addr} {As rest : List Value} {g : JFrame}
    (S : CallFix p m c cc nL s args Ts own) (hM : Met l y ws rm Pc Qc mc ms free) (cw : vx_CVW R s args own C index y bytes maxL ret hh ws rm mc ms n) (hp : PreV s H C b Pc As)
    (hg : g.method = m) (hn : As.length = n) (hsize : g.locals.size = nL) (hstack : g.stack = As.reverse ++ .ref b :: rest) (hW : 2 * g.monitorRoom + (rest.map fun v => v.category).sum ≤ 8) (hdg : decode cc g.pc = .ok (.invokevirtual index, 3)) (hf : cells + mc ≤ R.cells ∧ slots + ms ≤ R.slots) :
    va_Run p l e R s m args below meth c H locs cells slots mc ms g rest (Qc (Value.ref b :: As).toArray) free := by
  obtain ⟨⟨hrc, hrs, hfr, hlo, hws, hcw⟩, hcode, hini, hy, hlen, hl, hin, hse⟩ := cw
  have hK : Back l R p e below s args y 3 8 (PreOf R mc ms Pc) (PostOf Qc mc ms free) := va_backW (hh := hh) (bytes := bytes) (maxL := maxL) (ret := ret) hM hp.1 hrc hrs hfr hlo hws hcw (fun a' U hW => word_at hW (Or.inl (by first | rfl | simp [Cond.onTables, Cond.keeps, Cond.steady])) hini)
  obtain ⟨hx, hb, hml, ho, -⟩ := S
  obtain ⟨-, ⟨cellB, hcB, hoB, hclB⟩, hPc⟩ := hp
  intro T hT X
  obtain ⟨v, vm₁, ⟨U', l2, c2, s2⟩, hW₁, X', ⟨g', mk, t, L, e1, e2, hq, h1, hL, h2, h3⟩, st⟩ := vx_callVW X hx (C := C) (hh := hh) (bytes := bytes) (maxL := maxL) (ret := ret) ho hl hin hse hcode hy hK (by rw [hT]; exact hcB) hoB hclB hg (hsize.trans hml.symm) (argsL := As) (rest := rest) (fun sig h => hn.trans (hlen sig h)) hstack hW (by rw [hb]; exact hdg)
    (fun vm₁ hW₁ => ⟨hf.1, hf.2, hPc (T.setVm vm₁) hT hW₁⟩)
  dsimp only [Pt.U, Pt.locs, Pt.cells, Pt.slots] at X' e1 e2 h1 h2 h3 st
  subst h1; subst h2; subst h3
  exact ⟨v, (T.setVm vm₁).calling g' mk (Value.ref b :: As).toArray, t, U', L, hT, X', hL, e1, e2, hq, st⟩
section
variable {y : MethodName} {bytes cc : ByteArray} {maxL nL mc ms n index : Nat} {ret : Option FieldType} {ws : List Cond} {rm : Room} {Pc : Array Value → State → Prop} {Qc : Array Value → State → Outcome → State → Prop} {XC : String → State → State → Prop} {free : Addr → Prop} {Ts : List Cond} {own C : String} {b : Addr} {As rest : List Value} {g : JFrame}
theorem vx_runVX {hh : List (Nat × Nat × Nat × Nat)} (S : CallFix p m c cc nL s args Ts own) (hM : vx_Met l y ws rm Pc Qc XC mc ms free) (cw : vx_CVW R s args own C index y bytes maxL ret hh ws rm mc ms n) (hp : PreV s H C b Pc As)
    (hg : g.method = m) (hn : As.length = n) (hsize : g.locals.size = nL) (hstack : g.stack = As.reverse ++ .ref b :: rest) (hW : 2 * g.monitorRoom + (rest.map fun v => v.category).sum ≤ 8) (hdg : decode cc g.pc = .ok (.invokevirtual index, 3)) (hf : cells + mc ≤ R.cells ∧ slots + ms ≤ R.slots) :
    vx_Run p l e R s m args below meth c H locs cells slots mc ms g rest (Qc (Value.ref b :: As).toArray) XC free := by
  obtain ⟨⟨hrc, hrs, hfr, hlo, hws, hcw⟩, hcode, hini, hy, hlen, hl, hin, hse⟩ := cw
  have hK : vx_Back l R p e below s args y 3 8 (PreOf R mc ms Pc) (PostOf Qc mc ms free) (vx_Post XC mc ms free) := vx_backW (hh := hh) (bytes := bytes) (maxL := maxL) (ret := ret) hM hp.1 hrc hrs hfr hlo hws hcw (fun a' U hW => word_at hW (Or.inl (by first | rfl | simp [Cond.onTables, Cond.keeps, Cond.steady])) hini)
  obtain ⟨hx, hb, hml, ho, -⟩ := S
  obtain ⟨-, ⟨cellB, hcB, hoB, hclB⟩, hPc⟩ := hp
  intro T hT X
  rcases vx_callVX X hx (C := C) (hh := hh) (bytes := bytes) (maxL := maxL) (ret := ret) ho hl hin hse hcode hy hK (by rw [hT]; exact hcB) hoB hclB hg (hsize.trans hml.symm) (argsL := As) (rest := rest) (fun sig h => hn.trans (hlen sig h)) hstack hW (by rw [hb]; exact hdg)
    (fun vm₁ hW₁ => ⟨hf.1, hf.2, hPc (T.setVm vm₁) hT hW₁⟩) with ⟨v, vm₁, ⟨U', l2, c2, s2⟩, hW₁, X', ⟨g', mk, t, L, e1, e2, hq, h1, hL, h2, h3⟩, st⟩ | ⟨q, vm₁, ⟨U', l2, c2, s2⟩, hW₁, X', ⟨g', mk, t, L, E, ce, e1, e2, hq, hce, hcv, hcl, h1, hL, h2, h3⟩, st⟩
  · dsimp only [Pt.U, Pt.locs, Pt.cells, Pt.slots] at X' e1 e2 h1 h2 h3 st
    subst h1; subst h2; subst h3
    exact Or.inl ⟨v, (T.setVm vm₁).calling g' mk (Value.ref b :: As).toArray, t, U', L, hT, X', hL, e1, e2, hq, st⟩
  · dsimp only [Pt.U, Pt.locs, Pt.cells, Pt.slots] at X' e1 e2 h1 h2 h3 st hcl
    subst h1; subst h2; subst h3
    exact Or.inr ⟨q, (T.setVm vm₁).calling g' mk (Value.ref b :: As).toArray, t, U', L, E, ce, hT, X', hL, e1, e2, hq, hce, hcv, vx_cls hW₁ hcl, st⟩
theorem vx_runSX {hh : List (Nat × Nat × Nat × Nat)} (S : CallFix p m c cc nL s args Ts own) (hM : vx_Met l y ws rm Pc Qc XC mc ms free) (cw : vx_CSW R s args own index y bytes maxL ret hh ws rm mc ms n) (hp : PreS s H Pc As)
    (hg : g.method = m) (hn : As.length = n) (hsize : g.locals.size = nL) (hstack : g.stack = As.reverse ++ rest) (hW : 2 * g.monitorRoom + (rest.map fun v => v.category).sum ≤ 8) (hdg : decode cc g.pc = .ok (.invokestatic index, 3)) (hf : cells + mc ≤ R.cells ∧ slots + ms ≤ R.slots) :
    vx_Run p l e R s m args below meth c H locs cells slots mc ms g rest (Qc As.toArray) XC free := by
  obtain ⟨⟨hrc, hrs, hfr, hlo, hws, hcw⟩, hcode, hini, hy, hlen, hl, hstt⟩ := cw
  have hK : vx_Back l R p e below s args y 3 8 (PreOf R mc ms Pc) (PostOf Qc mc ms free) (vx_Post XC mc ms free) := vx_backW (hh := hh) (bytes := bytes) (maxL := maxL) (ret := ret) hM hp.1 hrc hrs hfr hlo hws hcw (fun a' U hW => word_at hW (Or.inl (by first | rfl | simp [Cond.onTables, Cond.keeps, Cond.steady])) hini)
  obtain ⟨hx, hb, hml, ho, -⟩ := S
  intro T hT X
  rcases vx_callSX X hx (hh := hh) (bytes := bytes) (maxL := maxL) (ret := ret) ho hl hstt hini hcode hy hK hg (hsize.trans hml.symm) (argsL := As) (rest := rest) (fun sig h => hn.trans (hlen sig h)) hstack hW (by rw [hb]; exact hdg)
    (fun vm₁ hW₁ => ⟨hf.1, hf.2, hp.2 (T.setVm vm₁) hT hW₁⟩) with ⟨v, vm₁, ⟨U', l2, c2, s2⟩, hW₁, X', ⟨g', mk, t, L, e1, e2, hq, h1, hL, h2, h3⟩, st⟩ | ⟨q, vm₁, ⟨U', l2, c2, s2⟩, hW₁, X', ⟨g', mk, t, L, E, ce, e1, e2, hq, hce, hcv, hcl, h1, hL, h2, h3⟩, st⟩
  · dsimp only [Pt.U, Pt.locs, Pt.cells, Pt.slots] at X' e1 e2 h1 h2 h3 st
    subst h1; subst h2; subst h3
    exact Or.inl ⟨v, (T.setVm vm₁).calling g' mk As.toArray, t, U', L, hT, X', hL, e1, e2, hq, st⟩
  · dsimp only [Pt.U, Pt.locs, Pt.cells, Pt.slots] at X' e1 e2 h1 h2 h3 st hcl
    subst h1; subst h2; subst h3
    exact Or.inr ⟨q, (T.setVm vm₁).calling g' mk As.toArray, t, U', L, E, ce, hT, X', hL, e1, e2, hq, hce, hcv, vx_cls hW₁ hcl, st⟩
end
end VXH
theorem vx_ofWH {l : Launch} {y : MethodName} {ws ws' : List Cond} {rm : Room} {Pc : Array Value → State → Prop} {Qc : Array Value → State → Outcome → State → Prop} {XC : String → State → State → Prop} {mc ms : Nat} {free : Addr → Prop} {cc : ByteArray} {maxL : Nat} {ret : Option FieldType} {hh : List (Nat × Nat × Nat × Nat)}
    (hy : plainName y.cls = true) (hw : ws = Cond.codeWith y cc maxL ret hh :: ws')
    (body : ∀ p e s m args below meth c s₁, BodyLoose p l y (headSpec ws rm) cc maxL ret e s m args below meth c s₁ → c.maxLocals = maxL → Pc args s →
      W p l e (headSpec ws rm).room s m args below meth c s.heap [] 0 0 (vx_MQ below Qc XC args s mc ms free) (entryFrame m args maxL)) : vx_Met l y ws rm Pc Qc XC mc ms free := by
  refine MetFree.of_bodyS (code := cc) (maxLocals := maxL) (ret := ret) hy ?_ ?_
  · intro args s m h hn
    obtain ⟨m9, meth, c, hn9, h1, h2, h3, h4, -, h5, h6, -⟩ := Cond.codeWith_spec (atoms_spec (ws := ws) h _ (by rw [hw]; exact List.mem_cons_self))
    cases hn.symm.trans hn9
    exact ⟨meth, c, h1, h2, h3, h4, h5, h6⟩
  · intro p e s m args below meth c s₁ B hml hP _
    have hh0 : s₁.heap = s.heap := by rw [B.state]; rfl
    obtain ⟨t, a1, o, b1, b2, b3⟩ := body p e s m args below meth c s₁ B hml hP s₁ hh0 (Stand.of_body B)
    exact ⟨t, o, a1, b1, b2, b3⟩
/-! ===== END ===== -/
end
section
/-! ===== BEGIN printed: names, fields, word lists, decode rows ===== -/
def RX0 : String := "Gaugerhall$Budget"
def TX0 : u_T := fun k => match k with
  | 0 => ("Gaugerhall$Budget", "day", "I", true)
  | 1 => ("Gaugerhall$Budget", "rate", "I", true)
  | _ => ("Gaugerhall$Budget", "quota", "I", false)
def tyX0 : Nat → FieldType := fun k => match k with
  | 0 => .int
  | 1 => .int
  | _ => .int
abbrev wsX00 : List Cond := u_ws RX0 TX0 3
theorem nmX0 : ∀ a, a < 3 → ∀ b, b < 3 → a ≠ b → (TX0 a).2.1 ≠ (TX0 b).2.1 := by decide +kernel
theorem tyX0_ok : ∀ k, k < 3 → parseFieldDescriptor (TX0 k).2.2.1 = some (tyX0 k) := by decide +kernel
abbrev cX0_init : ByteArray := prog_2_method_1_code
def yX0_init : MethodName := ⟨RX0, "<init>", "(III)V"⟩
def RX1 : String := "Gaugerhall$Excise"
def TX1 : u_T := fun k => match k with
  | 0 => ("Gaugerhall$Excise", "rate", "I", false)
  | 1 => ("Gaugerhall$Excise", "owed", "I", false)
  | _ => ("Gaugerhall$Excise", "leftForHalf", "I", false)
def tyX1 : Nat → FieldType := fun k => match k with
  | 0 => .int
  | 1 => .int
  | _ => .int
abbrev wsX10 : List Cond := u_ws RX1 TX1 3
theorem nmX1 : ∀ a, a < 3 → ∀ b, b < 3 → a ≠ b → (TX1 a).2.1 ≠ (TX1 b).2.1 := by decide +kernel
theorem tyX1_ok : ∀ k, k < 3 → parseFieldDescriptor (TX1 k).2.2.1 = some (tyX1 k) := by decide +kernel
abbrev cX1_init : ByteArray := prog_3_method_1_code
def yX1_init : MethodName := ⟨RX1, "<init>", "()V"⟩
abbrev cX1_dutyFor : ByteArray := prog_3_method_2_code
def yX1_dutyFor : MethodName := ⟨RX1, "dutyFor", "(I)I"⟩
abbrev cX1_chargeWhole : ByteArray := prog_3_method_3_code
def yX1_chargeWhole : MethodName := ⟨RX1, "chargeWhole", "(I)I"⟩
abbrev cX1_chargeLeaving : ByteArray := prog_3_method_4_code
def yX1_chargeLeaving : MethodName := ⟨RX1, "chargeLeaving", "(I)I"⟩
abbrev cX1_beginYear : ByteArray := prog_3_method_5_code
def yX1_beginYear : MethodName := ⟨RX1, "beginYear", "()V"⟩
abbrev cX1_growOwed : ByteArray := prog_3_method_6_code
def yX1_growOwed : MethodName := ⟨RX1, "growOwed", "()V"⟩
def RX2 : String := "Gaugerhall$Ledger"
def TX2 : u_T := fun k => match k with
  | 0 => ("Gaugerhall$Ledger", "made", "I", false)
  | 1 => ("Gaugerhall$Ledger", "excused", "I", false)
  | 2 => ("Gaugerhall$Ledger", "missing", "I", false)
  | 3 => ("Gaugerhall$Ledger", "exported", "I", false)
  | _ => ("Gaugerhall$Ledger", "neverMade", "I", false)
def tyX2 : Nat → FieldType := fun k => match k with
  | 0 => .int
  | 1 => .int
  | 2 => .int
  | 3 => .int
  | _ => .int
abbrev wsX20 : List Cond := u_ws RX2 TX2 5
theorem nmX2 : ∀ a, a < 5 → ∀ b, b < 5 → a ≠ b → (TX2 a).2.1 ≠ (TX2 b).2.1 := by decide +kernel
theorem tyX2_ok : ∀ k, k < 5 → parseFieldDescriptor (TX2 k).2.2.1 = some (tyX2 k) := by decide +kernel
abbrev cX2_init : ByteArray := prog_4_method_1_code
def yX2_init : MethodName := ⟨RX2, "<init>", "()V"⟩
def RX3 : String := "Gaugerhall$Lot"
def TX3 : u_T := fun k => match k with
  | 0 => ("Gaugerhall$Lot", "drops", "I", false)
  | _ => ("Gaugerhall$Lot", "money", "I", false)
def tyX3 : Nat → FieldType := fun k => match k with
  | 0 => .int
  | _ => .int
abbrev wsX30 : List Cond := u_ws RX3 TX3 2
theorem nmX3 : ∀ a, a < 2 → ∀ b, b < 2 → a ≠ b → (TX3 a).2.1 ≠ (TX3 b).2.1 := by decide +kernel
theorem tyX3_ok : ∀ k, k < 2 → parseFieldDescriptor (TX3 k).2.2.1 = some (tyX3 k) := by decide +kernel
abbrev cX3_init : ByteArray := prog_5_method_1_code
def yX3_init : MethodName := ⟨RX3, "<init>", "(II)V"⟩
abbrev cX3_drawBack : ByteArray := prog_5_method_2_code
def yX3_drawBack : MethodName := ⟨RX3, "drawBack", "(I)I"⟩
def RX4 : String := "Gaugerhall$Movement"
def TX4 : u_T := fun k => match k with
  | 0 => ("Gaugerhall$Movement", "to", "LGaugerhall$Vessel;", true)
  | 1 => ("Gaugerhall$Movement", "volume", "I", true)
  | 2 => ("Gaugerhall$Movement", "drops", "I", true)
  | 3 => ("Gaugerhall$Movement", "lastDay", "I", true)
  | _ => ("Gaugerhall$Movement", "state", "I", false)
def tyX4 : Nat → FieldType := fun k => match k with
  | 0 => .object "Gaugerhall$Vessel"
  | 1 => .int
  | 2 => .int
  | 3 => .int
  | _ => .int
abbrev wsX40 : List Cond := u_ws RX4 TX4 5
theorem nmX4 : ∀ a, a < 5 → ∀ b, b < 5 → a ≠ b → (TX4 a).2.1 ≠ (TX4 b).2.1 := by decide +kernel
theorem tyX4_ok : ∀ k, k < 5 → parseFieldDescriptor (TX4 k).2.2.1 = some (tyX4 k) := by decide +kernel
abbrev cX4_init : ByteArray := prog_6_method_1_code
def yX4_init : MethodName := ⟨RX4, "<init>", "(LGaugerhall$Vessel;III)V"⟩
def RX5 : String := "Gaugerhall$Vessel"
def TX5 : u_T := fun k => match k with
  | 0 => ("Gaugerhall$Vessel", "place", "I", true)
  | 1 => ("Gaugerhall$Vessel", "capacity", "I", true)
  | 2 => ("Gaugerhall$Vessel", "volume", "I", false)
  | _ => ("Gaugerhall$Vessel", "drops", "I", false)
def tyX5 : Nat → FieldType := fun k => match k with
  | 0 => .int
  | 1 => .int
  | 2 => .int
  | _ => .int
abbrev wsX50 : List Cond := u_ws RX5 TX5 4
theorem nmX5 : ∀ a, a < 4 → ∀ b, b < 4 → a ≠ b → (TX5 a).2.1 ≠ (TX5 b).2.1 := by decide +kernel
theorem tyX5_ok : ∀ k, k < 4 → parseFieldDescriptor (TX5 k).2.2.1 = some (tyX5 k) := by decide +kernel
abbrev cX5_init : ByteArray := prog_7_method_1_code
def yX5_init : MethodName := ⟨RX5, "<init>", "(II)V"⟩
abbrev cX5_has : ByteArray := prog_7_method_2_code
def yX5_has : MethodName := ⟨RX5, "has", "(I)Z"⟩
abbrev cX5_hasRoomFor : ByteArray := prog_7_method_3_code
def yX5_hasRoomFor : MethodName := ⟨RX5, "hasRoomFor", "(I)Z"⟩
abbrev cX5_dropsOf : ByteArray := prog_7_method_4_code
def yX5_dropsOf : MethodName := ⟨RX5, "dropsOf", "(I)I"⟩
abbrev cX5_takeOut : ByteArray := prog_7_method_5_code
def yX5_takeOut : MethodName := ⟨RX5, "takeOut", "(I)I"⟩
abbrev cX5_comeIn : ByteArray := prog_7_method_6_code
def yX5_comeIn : MethodName := ⟨RX5, "comeIn", "(II)V"⟩
abbrev cX5_takeShare : ByteArray := prog_7_method_7_code
def yX5_takeShare : MethodName := ⟨RX5, "takeShare", "(I)I"⟩
def RX6 : String := "Gaugerhall"
def TX6 : u_T := fun k => match k with
  | 0 => ("Gaugerhall", "vessels", "Ljava/util/ArrayList;", true)
  | 1 => ("Gaugerhall", "movements", "Ljava/util/ArrayList;", true)
  | 2 => ("Gaugerhall", "lots", "Ljava/util/ArrayList;", true)
  | 3 => ("Gaugerhall", "shareRates", "[I", true)
  | 4 => ("Gaugerhall", "excise", "LGaugerhall$Excise;", true)
  | 5 => ("Gaugerhall", "book", "LGaugerhall$Ledger;", true)
  | 6 => ("Gaugerhall", "coming", "LGaugerhall$Budget;", false)
  | 7 => ("Gaugerhall", "today", "I", false)
  | 8 => ("Gaugerhall", "runs", "I", false)
  | 9 => ("Gaugerhall", "dips", "I", false)
  | 10 => ("Gaugerhall", "permitted", "I", false)
  | _ => ("Gaugerhall", "guaranteed", "I", false)
def tyX6 : Nat → FieldType := fun k => match k with
  | 0 => .object "java/util/ArrayList"
  | 1 => .object "java/util/ArrayList"
  | 2 => .object "java/util/ArrayList"
  | 3 => .array .int
  | 4 => .object "Gaugerhall$Excise"
  | 5 => .object "Gaugerhall$Ledger"
  | 6 => .object "Gaugerhall$Budget"
  | 7 => .int
  | 8 => .int
  | 9 => .int
  | 10 => .int
  | _ => .int
abbrev wsX60 : List Cond := u_ws RX6 TX6 12
theorem nmX6 : ∀ a, a < 12 → ∀ b, b < 12 → a ≠ b → (TX6 a).2.1 ≠ (TX6 b).2.1 := by decide +kernel
theorem tyX6_ok : ∀ k, k < 12 → parseFieldDescriptor (TX6 k).2.2.1 = some (tyX6 k) := by decide +kernel
abbrev cX6_init : ByteArray := prog_1_method_1_code
def yX6_init : MethodName := ⟨RX6, "<init>", "()V"⟩
abbrev cX6_vessel : ByteArray := prog_1_method_2_code
def yX6_vessel : MethodName := ⟨RX6, "vessel", "(II)I"⟩
abbrev cX6_shares : ByteArray := prog_1_method_3_code
def yX6_shares : MethodName := ⟨RX6, "shares", "(II)I"⟩
abbrev cX6_run : ByteArray := prog_1_method_4_code
def yX6_run : MethodName := ⟨RX6, "run", "(IIIII)I"⟩
abbrev cX6_move : ByteArray := prog_1_method_5_code
def yX6_move : MethodName := ⟨RX6, "move", "(III)I"⟩
abbrev cX6_dip : ByteArray := prog_1_method_6_code
def yX6_dip : MethodName := ⟨RX6, "dip", "(III)I"⟩
abbrev cX6_lose : ByteArray := prog_1_method_7_code
def yX6_lose : MethodName := ⟨RX6, "lose", "(IIZ)I"⟩
abbrev cX6_release : ByteArray := prog_1_method_8_code
def yX6_release : MethodName := ⟨RX6, "release", "(II)I"⟩
abbrev cX6_permit : ByteArray := prog_1_method_9_code
def yX6_permit : MethodName := ⟨RX6, "permit", "(I)I"⟩
abbrev cX6_denature : ByteArray := prog_1_method_10_code
def yX6_denature : MethodName := ⟨RX6, "denature", "(II)I"⟩
abbrev cX6_export : ByteArray := prog_1_method_11_code
def yX6_export : MethodName := ⟨RX6, "export", "(I)I"⟩
abbrev cX6_pay : ByteArray := prog_1_method_12_code
def yX6_pay : MethodName := ⟨RX6, "pay", "(I)I"⟩
abbrev cX6_budget : ByteArray := prog_1_method_13_code
def yX6_budget : MethodName := ⟨RX6, "budget", "(III)V"⟩
abbrev cX6_guarantee : ByteArray := prog_1_method_14_code
def yX6_guarantee : MethodName := ⟨RX6, "guarantee", "(I)I"⟩
abbrev cX6_ship : ByteArray := prog_1_method_15_code
def yX6_ship : MethodName := ⟨RX6, "ship", "(IIII)I"⟩
abbrev cX6_arrive : ByteArray := prog_1_method_16_code
def yX6_arrive : MethodName := ⟨RX6, "arrive", "(II)I"⟩
abbrev cX6_pass : ByteArray := prog_1_method_17_code
def yX6_pass : MethodName := ⟨RX6, "pass", "(I)I"⟩
abbrev cX6_day : ByteArray := prog_1_method_18_code
def yX6_day : MethodName := ⟨RX6, "day", "()I"⟩
abbrev cX6_ofVessel : ByteArray := prog_1_method_19_code
def yX6_ofVessel : MethodName := ⟨RX6, "ofVessel", "(II)I"⟩
abbrev cX6_dropsAnew : ByteArray := prog_1_method_20_code
def yX6_dropsAnew : MethodName := ⟨RX6, "dropsAnew", "(I)I"⟩
abbrev cX6_ofMovement : ByteArray := prog_1_method_21_code
def yX6_ofMovement : MethodName := ⟨RX6, "ofMovement", "(II)I"⟩
abbrev cX6_ledger : ByteArray := prog_1_method_22_code
def yX6_ledger : MethodName := ⟨RX6, "ledger", "(I)I"⟩
abbrev cX6_duty : ByteArray := prog_1_method_23_code
def yX6_duty : MethodName := ⟨RX6, "duty", "(I)I"⟩
abbrev cX6_isWithin : ByteArray := prog_1_method_24_code
def yX6_isWithin : MethodName := ⟨RX6, "isWithin", "(III)Z"⟩
abbrev cX6_part : ByteArray := prog_1_method_25_code
def yX6_part : MethodName := ⟨RX6, "part", "(III)I"⟩
abbrev cX6_isPlace : ByteArray := prog_1_method_26_code
def yX6_isPlace : MethodName := ⟨RX6, "isPlace", "(I)Z"⟩
abbrev cX6_vesselOf : ByteArray := prog_1_method_27_code
def yX6_vesselOf : MethodName := ⟨RX6, "vesselOf", "(I)LGaugerhall$Vessel;"⟩
abbrev cX6_movementOf : ByteArray := prog_1_method_28_code
def yX6_movementOf : MethodName := ⟨RX6, "movementOf", "(I)LGaugerhall$Movement;"⟩
abbrev cX6_dropsInVessels : ByteArray := prog_1_method_29_code
def yX6_dropsInVessels : MethodName := ⟨RX6, "dropsInVessels", "()I"⟩
abbrev cX6_dropsThatMove : ByteArray := prog_1_method_30_code
def yX6_dropsThatMove : MethodName := ⟨RX6, "dropsThatMove", "()I"⟩
abbrev cX6_dropsInLots : ByteArray := prog_1_method_31_code
def yX6_dropsInLots : MethodName := ⟨RX6, "dropsInLots", "()I"⟩
abbrev cX6_miss : ByteArray := prog_1_method_32_code
def yX6_miss : MethodName := ⟨RX6, "miss", "(I)I"⟩
abbrev cX6_beginDay : ByteArray := prog_1_method_33_code
def yX6_beginDay : MethodName := ⟨RX6, "beginDay", "()V"⟩
abbrev cX6_loseLateMovements : ByteArray := prog_1_method_34_code
def yX6_loseLateMovements : MethodName := ⟨RX6, "loseLateMovements", "()V"⟩
abbrev cX6_takeShares : ByteArray := prog_1_method_35_code
def yX6_takeShares : MethodName := ⟨RX6, "takeShares", "()V"⟩
def RX7 : String := "GaugerhallModel"
def TX7 : u_T := fun k => match k with
  | 0 => ("GaugerhallModel", "thrown", "I", false)
  | 1 => ("GaugerhallModel", "day", "I", false)
  | 2 => ("GaugerhallModel", "vessels", "I", false)
  | 3 => ("GaugerhallModel", "place", "[I", true)
  | 4 => ("GaugerhallModel", "capacity", "[I", true)
  | 5 => ("GaugerhallModel", "volume", "[I", true)
  | 6 => ("GaugerhallModel", "drops", "[I", true)
  | 7 => ("GaugerhallModel", "shares", "[I", true)
  | 8 => ("GaugerhallModel", "runs", "I", false)
  | 9 => ("GaugerhallModel", "dips", "I", false)
  | 10 => ("GaugerhallModel", "ledger", "[I", true)
  | 11 => ("GaugerhallModel", "rate", "I", false)
  | 12 => ("GaugerhallModel", "owed", "I", false)
  | 13 => ("GaugerhallModel", "budgetDay", "I", false)
  | 14 => ("GaugerhallModel", "budgetRate", "I", false)
  | 15 => ("GaugerhallModel", "quota", "I", false)
  | 16 => ("GaugerhallModel", "halves", "I", false)
  | 17 => ("GaugerhallModel", "permit", "I", false)
  | 18 => ("GaugerhallModel", "lots", "I", false)
  | 19 => ("GaugerhallModel", "lotDrops", "[I", true)
  | 20 => ("GaugerhallModel", "lotPaid", "[I", true)
  | 21 => ("GaugerhallModel", "guarantee", "I", false)
  | 22 => ("GaugerhallModel", "movements", "I", false)
  | 23 => ("GaugerhallModel", "state", "[I", true)
  | 24 => ("GaugerhallModel", "to", "[I", true)
  | 25 => ("GaugerhallModel", "went", "[I", true)
  | 26 => ("GaugerhallModel", "wentDrops", "[I", true)
  | _ => ("GaugerhallModel", "till", "[I", true)
def tyX7 : Nat → FieldType := fun k => match k with
  | 0 => .int
  | 1 => .int
  | 2 => .int
  | 3 => .array .int
  | 4 => .array .int
  | 5 => .array .int
  | 6 => .array .int
  | 7 => .array .int
  | 8 => .int
  | 9 => .int
  | 10 => .array .int
  | 11 => .int
  | 12 => .int
  | 13 => .int
  | 14 => .int
  | 15 => .int
  | 16 => .int
  | 17 => .int
  | 18 => .int
  | 19 => .array .int
  | 20 => .array .int
  | 21 => .int
  | 22 => .int
  | 23 => .array .int
  | 24 => .array .int
  | 25 => .array .int
  | 26 => .array .int
  | _ => .array .int
abbrev wsX70 : List Cond := u_ws RX7 TX7 28
theorem nmX7 : ∀ a, a < 28 → ∀ b, b < 28 → a ≠ b → (TX7 a).2.1 ≠ (TX7 b).2.1 := by decide +kernel
theorem tyX7_ok : ∀ k, k < 28 → parseFieldDescriptor (TX7 k).2.2.1 = some (tyX7 k) := by decide +kernel
abbrev cX7_init : ByteArray := prog_9_method_1_code
def yX7_init : MethodName := ⟨RX7, "<init>", "()V"⟩
abbrev cX7_thrown : ByteArray := prog_9_method_2_code
def yX7_thrown : MethodName := ⟨RX7, "thrown", "()I"⟩
abbrev cX7_in : ByteArray := prog_9_method_3_code
def yX7_in : MethodName := ⟨RX7, "in", "(III)Z"⟩
abbrev cX7_isVessel : ByteArray := prog_9_method_4_code
def yX7_isVessel : MethodName := ⟨RX7, "isVessel", "(I)Z"⟩
abbrev cX7_isPlace : ByteArray := prog_9_method_5_code
def yX7_isPlace : MethodName := ⟨RX7, "isPlace", "(I)Z"⟩
abbrev cX7_least : ByteArray := prog_9_method_6_code
def yX7_least : MethodName := ⟨RX7, "least", "(II)I"⟩
abbrev cX7_strengthOf : ByteArray := prog_9_method_7_code
def yX7_strengthOf : MethodName := ⟨RX7, "strengthOf", "(II)I"⟩
abbrev cX7_with : ByteArray := prog_9_method_8_code
def yX7_with : MethodName := ⟨RX7, "with", "(III)I"⟩
abbrev cX7_comes : ByteArray := prog_9_method_9_code
def yX7_comes : MethodName := ⟨RX7, "comes", "(III)V"⟩
abbrev cX7_part : ByteArray := prog_9_method_10_code
def yX7_part : MethodName := ⟨RX7, "part", "(III)I"⟩
abbrev cX7_takes : ByteArray := prog_9_method_11_code
def yX7_takes : MethodName := ⟨RX7, "takes", "(II)I"⟩
abbrev cX7_dutyFor : ByteArray := prog_9_method_12_code
def yX7_dutyFor : MethodName := ⟨RX7, "dutyFor", "(II)I"⟩
abbrev cX7_misses : ByteArray := prog_9_method_13_code
def yX7_misses : MethodName := ⟨RX7, "misses", "(I)I"⟩
abbrev cX7_vessel : ByteArray := prog_9_method_14_code
def yX7_vessel : MethodName := ⟨RX7, "vessel", "(II)I"⟩
abbrev cX7_shares : ByteArray := prog_9_method_15_code
def yX7_shares : MethodName := ⟨RX7, "shares", "(II)I"⟩
abbrev cX7_run : ByteArray := prog_9_method_16_code
def yX7_run : MethodName := ⟨RX7, "run", "(IIIII)I"⟩
abbrev cX7_hasPart : ByteArray := prog_9_method_17_code
def yX7_hasPart : MethodName := ⟨RX7, "hasPart", "(II)Z"⟩
abbrev cX7_hasRoom : ByteArray := prog_9_method_18_code
def yX7_hasRoom : MethodName := ⟨RX7, "hasRoom", "(II)Z"⟩
abbrev cX7_move : ByteArray := prog_9_method_19_code
def yX7_move : MethodName := ⟨RX7, "move", "(III)I"⟩
abbrev cX7_dip : ByteArray := prog_9_method_20_code
def yX7_dip : MethodName := ⟨RX7, "dip", "(III)I"⟩
abbrev cX7_asksPart : ByteArray := prog_9_method_21_code
def yX7_asksPart : MethodName := ⟨RX7, "asksPart", "(II)Z"⟩
abbrev cX7_lose : ByteArray := prog_9_method_22_code
def yX7_lose : MethodName := ⟨RX7, "lose", "(IIZ)I"⟩
abbrev cX7_release : ByteArray := prog_9_method_23_code
def yX7_release : MethodName := ⟨RX7, "release", "(II)I"⟩
abbrev cX7_permit : ByteArray := prog_9_method_24_code
def yX7_permit : MethodName := ⟨RX7, "permit", "(I)I"⟩
abbrev cX7_denature : ByteArray := prog_9_method_25_code
def yX7_denature : MethodName := ⟨RX7, "denature", "(II)I"⟩
abbrev cX7_inLots : ByteArray := prog_9_method_26_code
def yX7_inLots : MethodName := ⟨RX7, "inLots", "()I"⟩
abbrev cX7_export : ByteArray := prog_9_method_27_code
def yX7_export : MethodName := ⟨RX7, "export", "(I)I"⟩
abbrev cX7_pay : ByteArray := prog_9_method_28_code
def yX7_pay : MethodName := ⟨RX7, "pay", "(I)I"⟩
abbrev cX7_budget : ByteArray := prog_9_method_29_code
def yX7_budget : MethodName := ⟨RX7, "budget", "(III)V"⟩
abbrev cX7_moving : ByteArray := prog_9_method_30_code
def yX7_moving : MethodName := ⟨RX7, "moving", "()I"⟩
abbrev cX7_guarantee : ByteArray := prog_9_method_31_code
def yX7_guarantee : MethodName := ⟨RX7, "guarantee", "(I)I"⟩
abbrev cX7_ship : ByteArray := prog_9_method_32_code
def yX7_ship : MethodName := ⟨RX7, "ship", "(IIII)I"⟩
abbrev cX7_arrive : ByteArray := prog_9_method_33_code
def yX7_arrive : MethodName := ⟨RX7, "arrive", "(II)I"⟩
abbrev cX7_passesOne : ByteArray := prog_9_method_34_code
def yX7_passesOne : MethodName := ⟨RX7, "passesOne", "()V"⟩
abbrev cX7_pass : ByteArray := prog_9_method_35_code
def yX7_pass : MethodName := ⟨RX7, "pass", "(I)I"⟩
abbrev cX7_day : ByteArray := prog_9_method_36_code
def yX7_day : MethodName := ⟨RX7, "day", "()I"⟩
abbrev cX7_ofVessel : ByteArray := prog_9_method_37_code
def yX7_ofVessel : MethodName := ⟨RX7, "ofVessel", "(II)I"⟩
abbrev cX7_dropsAnew : ByteArray := prog_9_method_38_code
def yX7_dropsAnew : MethodName := ⟨RX7, "dropsAnew", "(I)I"⟩
abbrev cX7_ofMovement : ByteArray := prog_9_method_39_code
def yX7_ofMovement : MethodName := ⟨RX7, "ofMovement", "(II)I"⟩
abbrev cX7_inVessels : ByteArray := prog_9_method_40_code
def yX7_inVessels : MethodName := ⟨RX7, "inVessels", "()I"⟩
abbrev cX7_ledger : ByteArray := prog_9_method_41_code
def yX7_ledger : MethodName := ⟨RX7, "ledger", "(I)I"⟩
abbrev cX7_duty : ByteArray := prog_9_method_42_code
def yX7_duty : MethodName := ⟨RX7, "duty", "(I)I"⟩
def RJx145de : String := "java/io/Serializable"
def TJx145de : u_T := fun k => match k with
  | _ => ("", "", "", false)
def tyJx145de : Nat → FieldType := fun k => match k with
  | _ => .int
abbrev wsJx145de0 : List Cond := u_ws RJx145de TJx145de 0
theorem nmJx145de : ∀ a, a < 0 → ∀ b, b < 0 → a ≠ b → (TJx145de a).2.1 ≠ (TJx145de b).2.1 := by decide +kernel
theorem tyJx145de_ok : ∀ k, k < 0 → parseFieldDescriptor (TJx145de k).2.2.1 = some (tyJx145de k) := by decide +kernel
def RJx8e188 : String := "java/lang/Cloneable"
def TJx8e188 : u_T := fun k => match k with
  | _ => ("", "", "", false)
def tyJx8e188 : Nat → FieldType := fun k => match k with
  | _ => .int
abbrev wsJx8e1880 : List Cond := u_ws RJx8e188 TJx8e188 0
theorem nmJx8e188 : ∀ a, a < 0 → ∀ b, b < 0 → a ≠ b → (TJx8e188 a).2.1 ≠ (TJx8e188 b).2.1 := by decide +kernel
theorem tyJx8e188_ok : ∀ k, k < 0 → parseFieldDescriptor (TJx8e188 k).2.2.1 = some (tyJx8e188 k) := by decide +kernel
def RJxab1ab : String := "java/lang/Iterable"
def TJxab1ab : u_T := fun k => match k with
  | _ => ("", "", "", false)
def tyJxab1ab : Nat → FieldType := fun k => match k with
  | _ => .int
abbrev wsJxab1ab0 : List Cond := u_ws RJxab1ab TJxab1ab 0
theorem nmJxab1ab : ∀ a, a < 0 → ∀ b, b < 0 → a ≠ b → (TJxab1ab a).2.1 ≠ (TJxab1ab b).2.1 := by decide +kernel
theorem tyJxab1ab_ok : ∀ k, k < 0 → parseFieldDescriptor (TJxab1ab k).2.2.1 = some (tyJxab1ab k) := by decide +kernel
def RJ9 : String := "java/lang/Math"
def TJ9 : u_T := fun k => match k with
  | _ => ("", "", "", false)
def tyJ9 : Nat → FieldType := fun k => match k with
  | _ => .int
abbrev wsJ90 : List Cond := u_ws RJ9 TJ9 0
theorem nmJ9 : ∀ a, a < 0 → ∀ b, b < 0 → a ≠ b → (TJ9 a).2.1 ≠ (TJ9 b).2.1 := by decide +kernel
theorem tyJ9_ok : ∀ k, k < 0 → parseFieldDescriptor (TJ9 k).2.2.1 = some (tyJ9 k) := by decide +kernel
abbrev cJ9_abs_0f7a4 : ByteArray := prog_17_method_59_code
def yJ9_abs_0f7a4 : MethodName := ⟨RJ9, "abs", "(I)I"⟩
abbrev cJ9_max_7cf53 : ByteArray := prog_17_method_65_code
def yJ9_max_7cf53 : MethodName := ⟨RJ9, "max", "(II)I"⟩
abbrev cJ9_min_7cf53 : ByteArray := prog_17_method_69_code
def yJ9_min_7cf53 : MethodName := ⟨RJ9, "min", "(II)I"⟩
def RJ0 : String := "java/lang/String"
def TJ0 : u_T := fun k => match k with
  | _ => ("", "", "", false)
def tyJ0 : Nat → FieldType := fun k => match k with
  | _ => .int
abbrev wsJ00 : List Cond := u_ws RJ0 TJ0 0
theorem nmJ0 : ∀ a, a < 0 → ∀ b, b < 0 → a ≠ b → (TJ0 a).2.1 ≠ (TJ0 b).2.1 := by decide +kernel
theorem tyJ0_ok : ∀ k, k < 0 → parseFieldDescriptor (TJ0 k).2.2.1 = some (tyJ0 k) := by decide +kernel
def RJ10 : String := "java/lang/System"
def TJ10 : u_T := fun k => match k with
  | _ => ("", "", "", false)
def tyJ10 : Nat → FieldType := fun k => match k with
  | _ => .int
abbrev wsJ100 : List Cond := u_ws RJ10 TJ10 0
theorem nmJ10 : ∀ a, a < 0 → ∀ b, b < 0 → a ≠ b → (TJ10 a).2.1 ≠ (TJ10 b).2.1 := by decide +kernel
theorem tyJ10_ok : ∀ k, k < 0 → parseFieldDescriptor (TJ10 k).2.2.1 = some (tyJ10 k) := by decide +kernel
def RJxa1e45 : String := "java/util/AbstractCollection"
def TJxa1e45 : u_T := fun k => match k with
  | _ => ("", "", "", false)
def tyJxa1e45 : Nat → FieldType := fun k => match k with
  | _ => .int
abbrev wsJxa1e450 : List Cond := u_ws RJxa1e45 TJxa1e45 0
theorem nmJxa1e45 : ∀ a, a < 0 → ∀ b, b < 0 → a ≠ b → (TJxa1e45 a).2.1 ≠ (TJxa1e45 b).2.1 := by decide +kernel
theorem tyJxa1e45_ok : ∀ k, k < 0 → parseFieldDescriptor (TJxa1e45 k).2.2.1 = some (tyJxa1e45 k) := by decide +kernel
abbrev cJxa1e45_init_da8c8 : ByteArray := prog_22_method_1_code
def yJxa1e45_init_da8c8 : MethodName := ⟨RJxa1e45, "<init>", "()V"⟩
def RJxc12de : String := "java/util/AbstractList"
def TJxc12de : u_T := fun k => match k with
  | _ => ("", "", "", false)
def tyJxc12de : Nat → FieldType := fun k => match k with
  | _ => .int
abbrev wsJxc12de0 : List Cond := u_ws RJxc12de TJxc12de 0
theorem nmJxc12de : ∀ a, a < 0 → ∀ b, b < 0 → a ≠ b → (TJxc12de a).2.1 ≠ (TJxc12de b).2.1 := by decide +kernel
theorem tyJxc12de_ok : ∀ k, k < 0 → parseFieldDescriptor (TJxc12de k).2.2.1 = some (tyJxc12de k) := by decide +kernel
abbrev cJxc12de_init_da8c8 : ByteArray := prog_23_method_1_code
def yJxc12de_init_da8c8 : MethodName := ⟨RJxc12de, "<init>", "()V"⟩
def RJx4a65c : String := "java/util/ArrayList"
def TJx4a65c : u_T := fun k => match k with
  | 0 => ("java/util/AbstractList", "modCount", "I", false)
  | 1 => ("java/util/ArrayList", "elementData", "[Ljava/lang/Object;", false)
  | _ => ("java/util/ArrayList", "size", "I", false)
def tyJx4a65c : Nat → FieldType := fun k => match k with
  | 0 => .int
  | 1 => .array (.object "java/lang/Object")
  | _ => .int
abbrev wsJx4a65c0 : List Cond := u_ws RJx4a65c TJx4a65c 3
theorem nmJx4a65c : ∀ a, a < 3 → ∀ b, b < 3 → a ≠ b → (TJx4a65c a).2.1 ≠ (TJx4a65c b).2.1 := by decide +kernel
theorem tyJx4a65c_ok : ∀ k, k < 3 → parseFieldDescriptor (TJx4a65c k).2.2.1 = some (tyJx4a65c k) := by decide +kernel
abbrev cJx4a65c_init_da8c8 : ByteArray := prog_24_method_2_code
def yJx4a65c_init_da8c8 : MethodName := ⟨RJx4a65c, "<init>", "()V"⟩
abbrev cJx4a65c_grow_92f84 : ByteArray := prog_24_method_6_code
def yJx4a65c_grow_92f84 : MethodName := ⟨RJx4a65c, "grow", "(I)[Ljava/lang/Object;"⟩
abbrev cJx4a65c_grow_d5877 : ByteArray := prog_24_method_7_code
def yJx4a65c_grow_d5877 : MethodName := ⟨RJx4a65c, "grow", "()[Ljava/lang/Object;"⟩
abbrev cJx4a65c_size_8abf5 : ByteArray := prog_24_method_8_code
def yJx4a65c_size_8abf5 : MethodName := ⟨RJx4a65c, "size", "()I"⟩
abbrev cJx4a65c_elementData_915e3 : ByteArray := prog_24_method_18_code
def yJx4a65c_elementData_915e3 : MethodName := ⟨RJx4a65c, "elementData", "(I)Ljava/lang/Object;"⟩
abbrev cJx4a65c_get_915e3 : ByteArray := prog_24_method_20_code
def yJx4a65c_get_915e3 : MethodName := ⟨RJx4a65c, "get", "(I)Ljava/lang/Object;"⟩
abbrev cJx4a65c_add_72be8 : ByteArray := prog_24_method_24_code
def yJx4a65c_add_72be8 : MethodName := ⟨RJx4a65c, "add", "(Ljava/lang/Object;[Ljava/lang/Object;I)V"⟩
abbrev cJx4a65c_add_9ea2d : ByteArray := prog_24_method_25_code
def yJx4a65c_add_9ea2d : MethodName := ⟨RJx4a65c, "add", "(Ljava/lang/Object;)Z"⟩
def RJ7 : String := "java/util/Arrays"
def TJ7 : u_T := fun k => match k with
  | _ => ("", "", "", false)
def tyJ7 : Nat → FieldType := fun k => match k with
  | _ => .int
abbrev wsJ70 : List Cond := u_ws RJ7 TJ7 0
theorem nmJ7 : ∀ a, a < 0 → ∀ b, b < 0 → a ≠ b → (TJ7 a).2.1 ≠ (TJ7 b).2.1 := by decide +kernel
theorem tyJ7_ok : ∀ k, k < 0 → parseFieldDescriptor (TJ7 k).2.2.1 = some (tyJ7 k) := by decide +kernel
abbrev cJ7_copyOf_1904c : ByteArray := prog_25_method_119_code
def yJ7_copyOf_1904c : MethodName := ⟨RJ7, "copyOf", "([Ljava/lang/Object;I)[Ljava/lang/Object;"⟩
abbrev cJ7_copyOf_6403c : ByteArray := prog_25_method_120_code
def yJ7_copyOf_6403c : MethodName := ⟨RJ7, "copyOf", "([Ljava/lang/Object;ILjava/lang/Class;)[Ljava/lang/Object;"⟩
def RJx5ef63 : String := "java/util/Collection"
def TJx5ef63 : u_T := fun k => match k with
  | _ => ("", "", "", false)
def tyJx5ef63 : Nat → FieldType := fun k => match k with
  | _ => .int
abbrev wsJx5ef630 : List Cond := u_ws RJx5ef63 TJx5ef63 0
theorem nmJx5ef63 : ∀ a, a < 0 → ∀ b, b < 0 → a ≠ b → (TJx5ef63 a).2.1 ≠ (TJx5ef63 b).2.1 := by decide +kernel
theorem tyJx5ef63_ok : ∀ k, k < 0 → parseFieldDescriptor (TJx5ef63 k).2.2.1 = some (tyJx5ef63 k) := by decide +kernel
def RJxbd725 : String := "java/util/List"
def TJxbd725 : u_T := fun k => match k with
  | _ => ("", "", "", false)
def tyJxbd725 : Nat → FieldType := fun k => match k with
  | _ => .int
abbrev wsJxbd7250 : List Cond := u_ws RJxbd725 TJxbd725 0
theorem nmJxbd725 : ∀ a, a < 0 → ∀ b, b < 0 → a ≠ b → (TJxbd725 a).2.1 ≠ (TJxbd725 b).2.1 := by decide +kernel
theorem tyJxbd725_ok : ∀ k, k < 0 → parseFieldDescriptor (TJxbd725 k).2.2.1 = some (tyJxbd725 k) := by decide +kernel
def RJ15 : String := "java/util/Objects"
def TJ15 : u_T := fun k => match k with
  | _ => ("", "", "", false)
def tyJ15 : Nat → FieldType := fun k => match k with
  | _ => .int
abbrev wsJ150 : List Cond := u_ws RJ15 TJ15 0
theorem nmJ15 : ∀ a, a < 0 → ∀ b, b < 0 → a ≠ b → (TJ15 a).2.1 ≠ (TJ15 b).2.1 := by decide +kernel
theorem tyJ15_ok : ∀ k, k < 0 → parseFieldDescriptor (TJ15 k).2.2.1 = some (tyJ15 k) := by decide +kernel
abbrev cJ15_checkIndex_7cf53 : ByteArray := prog_28_method_17_code
def yJ15_checkIndex_7cf53 : MethodName := ⟨RJ15, "checkIndex", "(II)I"⟩
def RJxf0a74 : String := "java/util/RandomAccess"
def TJxf0a74 : u_T := fun k => match k with
  | _ => ("", "", "", false)
def tyJxf0a74 : Nat → FieldType := fun k => match k with
  | _ => .int
abbrev wsJxf0a740 : List Cond := u_ws RJxf0a74 TJxf0a74 0
theorem nmJxf0a74 : ∀ a, a < 0 → ∀ b, b < 0 → a ≠ b → (TJxf0a74 a).2.1 ≠ (TJxf0a74 b).2.1 := by decide +kernel
theorem tyJxf0a74_ok : ∀ k, k < 0 → parseFieldDescriptor (TJxf0a74 k).2.2.1 = some (tyJxf0a74 k) := by decide +kernel
def RJxa66e6 : String := "java/util/SequencedCollection"
def TJxa66e6 : u_T := fun k => match k with
  | _ => ("", "", "", false)
def tyJxa66e6 : Nat → FieldType := fun k => match k with
  | _ => .int
abbrev wsJxa66e60 : List Cond := u_ws RJxa66e6 TJxa66e6 0
theorem nmJxa66e6 : ∀ a, a < 0 → ∀ b, b < 0 → a ≠ b → (TJxa66e6 a).2.1 ≠ (TJxa66e6 b).2.1 := by decide +kernel
theorem tyJxa66e6_ok : ∀ k, k < 0 → parseFieldDescriptor (TJxa66e6 k).2.2.1 = some (tyJxa66e6 k) := by decide +kernel
def RJ8 : String := "jdk/internal/util/ArraysSupport"
def TJ8 : u_T := fun k => match k with
  | _ => ("", "", "", false)
def tyJ8 : Nat → FieldType := fun k => match k with
  | _ => .int
abbrev wsJ80 : List Cond := u_ws RJ8 TJ8 0
theorem nmJ8 : ∀ a, a < 0 → ∀ b, b < 0 → a ≠ b → (TJ8 a).2.1 ≠ (TJ8 b).2.1 := by decide +kernel
theorem tyJ8_ok : ∀ k, k < 0 → parseFieldDescriptor (TJ8 k).2.2.1 = some (tyJ8 k) := by decide +kernel
abbrev cJ8_newLength_cabcc : ByteArray := prog_31_method_27_code
def yJ8_newLength_cabcc : MethodName := ⟨RJ8, "newLength", "(III)I"⟩
abbrev cJ8_hugeLength_7cf53 : ByteArray := prog_31_method_28_code
def yJ8_hugeLength_7cf53 : MethodName := ⟨RJ8, "hugeLength", "(II)I"⟩
def RJ3 : String := "jdk/internal/util/Preconditions"
def TJ3 : u_T := fun k => match k with
  | _ => ("", "", "", false)
def tyJ3 : Nat → FieldType := fun k => match k with
  | _ => .int
abbrev wsJ30 : List Cond := u_ws RJ3 TJ3 0
theorem nmJ3 : ∀ a, a < 0 → ∀ b, b < 0 → a ≠ b → (TJ3 a).2.1 ≠ (TJ3 b).2.1 := by decide +kernel
theorem tyJ3_ok : ∀ k, k < 0 → parseFieldDescriptor (TJ3 k).2.2.1 = some (tyJ3 k) := by decide +kernel
abbrev cJ3_checkIndex_8e157 : ByteArray := prog_32_method_11_code
def yJ3_checkIndex_8e157 : MethodName := ⟨RJ3, "checkIndex", "(IILjava/util/function/BiFunction;)I"⟩
def RL : String := "GaugerhallLaw"
abbrev cL_vessel : ByteArray := method_3_code
def yL_vessel : MethodName := ⟨RL, "vessel", "(LGaugerhall;II[J)I"⟩
abbrev cL_shares : ByteArray := method_4_code
def yL_shares : MethodName := ⟨RL, "shares", "(LGaugerhall;II[J)I"⟩
abbrev cL_run : ByteArray := method_5_code
def yL_run : MethodName := ⟨RL, "run", "(LGaugerhall;IIIII[J)I"⟩
abbrev cL_move : ByteArray := method_6_code
def yL_move : MethodName := ⟨RL, "move", "(LGaugerhall;III[J)I"⟩
abbrev cL_dip : ByteArray := method_7_code
def yL_dip : MethodName := ⟨RL, "dip", "(LGaugerhall;III[J)I"⟩
abbrev cL_lose : ByteArray := method_8_code
def yL_lose : MethodName := ⟨RL, "lose", "(LGaugerhall;IIZ[J)I"⟩
abbrev cL_release : ByteArray := method_9_code
def yL_release : MethodName := ⟨RL, "release", "(LGaugerhall;II[J)I"⟩
abbrev cL_permit : ByteArray := method_10_code
def yL_permit : MethodName := ⟨RL, "permit", "(LGaugerhall;I[J)I"⟩
abbrev cL_denature : ByteArray := method_11_code
def yL_denature : MethodName := ⟨RL, "denature", "(LGaugerhall;II[J)I"⟩
abbrev cL_export : ByteArray := method_12_code
def yL_export : MethodName := ⟨RL, "export", "(LGaugerhall;I[J)I"⟩
abbrev cL_pay : ByteArray := method_13_code
def yL_pay : MethodName := ⟨RL, "pay", "(LGaugerhall;I[J)I"⟩
abbrev cL_budget : ByteArray := method_14_code
def yL_budget : MethodName := ⟨RL, "budget", "(LGaugerhall;III)I"⟩
abbrev cL_guarantee : ByteArray := method_15_code
def yL_guarantee : MethodName := ⟨RL, "guarantee", "(LGaugerhall;I[J)I"⟩
abbrev cL_ship : ByteArray := method_16_code
def yL_ship : MethodName := ⟨RL, "ship", "(LGaugerhall;IIII[J)I"⟩
abbrev cL_arrive : ByteArray := method_17_code
def yL_arrive : MethodName := ⟨RL, "arrive", "(LGaugerhall;II[J)I"⟩
abbrev cL_pass : ByteArray := method_18_code
def yL_pass : MethodName := ⟨RL, "pass", "(LGaugerhall;I[J)I"⟩
abbrev cL_ofVessel : ByteArray := method_19_code
def yL_ofVessel : MethodName := ⟨RL, "ofVessel", "(LGaugerhall;II[J)I"⟩
abbrev cL_dropsAnew : ByteArray := method_20_code
def yL_dropsAnew : MethodName := ⟨RL, "dropsAnew", "(LGaugerhall;I[J)I"⟩
abbrev cL_ofMovement : ByteArray := method_21_code
def yL_ofMovement : MethodName := ⟨RL, "ofMovement", "(LGaugerhall;II[J)I"⟩
abbrev cL_ledger : ByteArray := method_22_code
def yL_ledger : MethodName := ⟨RL, "ledger", "(LGaugerhall;I[J)I"⟩
abbrev cL_duty : ByteArray := method_23_code
def yL_duty : MethodName := ⟨RL, "duty", "(LGaugerhall;I[J)I"⟩
abbrev cL_law : ByteArray := code
def yL_law : MethodName := ⟨RL, "law", "([I)Z"⟩
def wsX0_init : List Cond := .code yX0_init cX0_init 4 none :: ([.methodLink RX0 1 objectInit, .instanceMethod objectInit, .code objectInit ⟨#[0xb1]⟩ 1 none, .fieldLink RX0 7 "Gaugerhall$Budget" "day" "I", .fieldLink RX0 13 "Gaugerhall$Budget" "rate" "I", .fieldLink RX0 16 "Gaugerhall$Budget" "quota" "I"] ++ wsX00)
def wsX1_init : List Cond := .code yX1_init cX1_init 1 none :: ([.methodLink RX1 1 objectInit, .instanceMethod objectInit, .code objectInit ⟨#[0xb1]⟩ 1 none, .fieldLink RX1 7 "Gaugerhall$Excise" "rate" "I", .constant RX1 13 (1000000), .fieldLink RX1 14 "Gaugerhall$Excise" "leftForHalf" "I"] ++ wsX10)
def wsX6_part : List Cond := .code yX6_part cX6_part 3 (some .int) :: ([])
def wsX1_dutyFor : List Cond := .code yX1_dutyFor cX1_dutyFor 2 (some .int) :: ([.fieldLink RX1 7 "Gaugerhall$Excise" "rate" "I", .static yX6_part, .initialized RX6, .code yX6_part cX6_part 3 (some .int)] ++ wsX10)
def wsX1_chargeWhole : List Cond := .code yX1_chargeWhole cX1_chargeWhole 3 (some .int) :: ([.fieldLink RX1 27 "Gaugerhall$Excise" "owed" "I", .methodLink RX1 23 yX1_dutyFor, .instanceMethod yX1_dutyFor, .selects RX1 yX1_dutyFor yX1_dutyFor, .initialized RX1, .code yX1_dutyFor cX1_dutyFor 2 (some .int), .fieldLink RX1 7 "Gaugerhall$Excise" "rate" "I", .static yX6_part, .initialized RX6, .code yX6_part cX6_part 3 (some .int)] ++ wsX10)
def wsX1_chargeLeaving : List Cond := .code yX1_chargeLeaving cX1_chargeLeaving 4 (some .int) :: ([.fieldLink RX1 14 "Gaugerhall$Excise" "leftForHalf" "I", .methodLink RX1 30 Lib.Math.min.name, .static Lib.Math.min.name, .initialized "java/lang/Math", .code Lib.Math.min.name Lib.Math.min.code 2 (some .int), .fieldLink RX1 7 "Gaugerhall$Excise" "rate" "I", .fieldLink RX1 27 "Gaugerhall$Excise" "owed" "I", .static yX6_part, .initialized RX6, .code yX6_part cX6_part 3 (some .int), .methodLink RX1 23 yX1_dutyFor, .instanceMethod yX1_dutyFor, .selects RX1 yX1_dutyFor yX1_dutyFor, .initialized RX1, .code yX1_dutyFor cX1_dutyFor 2 (some .int)] ++ wsX10)
def wsX1_beginYear : List Cond := .code yX1_beginYear cX1_beginYear 1 none :: ([.constant RX1 13 (1000000), .fieldLink RX1 14 "Gaugerhall$Excise" "leftForHalf" "I"] ++ wsX10)
def wsX1_growOwed : List Cond := .code yX1_growOwed cX1_growOwed 1 none :: ([.fieldLink RX1 27 "Gaugerhall$Excise" "owed" "I"] ++ wsX10)
def wsX2_init : List Cond := .code yX2_init cX2_init 1 none :: ([.methodLink RX2 1 objectInit, .instanceMethod objectInit, .code objectInit ⟨#[0xb1]⟩ 1 none])
def wsX3_init : List Cond := .code yX3_init cX3_init 3 none :: ([.methodLink RX3 1 objectInit, .instanceMethod objectInit, .code objectInit ⟨#[0xb1]⟩ 1 none, .fieldLink RX3 7 "Gaugerhall$Lot" "drops" "I", .fieldLink RX3 13 "Gaugerhall$Lot" "money" "I"] ++ wsX30)
def wsX3_drawBack : List Cond := .code yX3_drawBack cX3_drawBack 3 (some .int) :: ([.fieldLink RX3 13 "Gaugerhall$Lot" "money" "I", .fieldLink RX3 7 "Gaugerhall$Lot" "drops" "I", .static yX6_part, .initialized RX6, .code yX6_part cX6_part 3 (some .int)] ++ wsX30)
def wsX4_init : List Cond := .code yX4_init cX4_init 5 none :: ([.methodLink RX4 3 objectInit, .instanceMethod objectInit, .code objectInit ⟨#[0xb1]⟩ 1 none, .fieldLink RX4 9 "Gaugerhall$Movement" "state" "I", .fieldLink RX4 15 "Gaugerhall$Movement" "to" "LGaugerhall$Vessel;", .fieldLink RX4 19 "Gaugerhall$Movement" "volume" "I", .fieldLink RX4 22 "Gaugerhall$Movement" "drops" "I", .fieldLink RX4 25 "Gaugerhall$Movement" "lastDay" "I"] ++ wsX40)
def wsX5_init : List Cond := .code yX5_init cX5_init 3 none :: ([.methodLink RX5 1 objectInit, .instanceMethod objectInit, .code objectInit ⟨#[0xb1]⟩ 1 none, .fieldLink RX5 7 "Gaugerhall$Vessel" "place" "I", .fieldLink RX5 13 "Gaugerhall$Vessel" "capacity" "I"] ++ wsX50)
def wsX5_has : List Cond := .code yX5_has cX5_has 2 (some .boolean) :: ([.fieldLink RX5 16 "Gaugerhall$Vessel" "volume" "I"] ++ wsX50)
def wsX5_hasRoomFor : List Cond := .code yX5_hasRoomFor cX5_hasRoomFor 2 (some .boolean) :: ([.fieldLink RX5 13 "Gaugerhall$Vessel" "capacity" "I", .fieldLink RX5 16 "Gaugerhall$Vessel" "volume" "I"] ++ wsX50)
def wsX5_dropsOf : List Cond := .code yX5_dropsOf cX5_dropsOf 2 (some .int) :: ([.fieldLink RX5 19 "Gaugerhall$Vessel" "drops" "I", .fieldLink RX5 16 "Gaugerhall$Vessel" "volume" "I", .static yX6_part, .initialized RX6, .code yX6_part cX6_part 3 (some .int)] ++ wsX50)
def wsX5_takeOut : List Cond := .code yX5_takeOut cX5_takeOut 3 (some .int) :: ([.fieldLink RX5 16 "Gaugerhall$Vessel" "volume" "I", .fieldLink RX5 19 "Gaugerhall$Vessel" "drops" "I", .methodLink RX5 28 yX5_dropsOf, .instanceMethod yX5_dropsOf, .selects RX5 yX5_dropsOf yX5_dropsOf, .initialized RX5, .code yX5_dropsOf cX5_dropsOf 2 (some .int), .static yX6_part, .initialized RX6, .code yX6_part cX6_part 3 (some .int)] ++ wsX50)
def wsX5_comeIn : List Cond := .code yX5_comeIn cX5_comeIn 5 none :: ([.fieldLink RX5 19 "Gaugerhall$Vessel" "drops" "I", .fieldLink RX5 16 "Gaugerhall$Vessel" "volume" "I", .methodLink RX5 32 Lib.Math.abs.name, .static Lib.Math.abs.name, .initialized "java/lang/Math", .code Lib.Math.abs.name Lib.Math.abs.code 1 (some .int), .methodLink RX5 37 Lib.Math.min.name, .static Lib.Math.min.name, .code Lib.Math.min.name Lib.Math.min.code 2 (some .int), .static yX6_part, .initialized RX6, .code yX6_part cX6_part 3 (some .int)] ++ wsX50)
def wsX5_takeShare : List Cond := .code yX5_takeShare cX5_takeShare 3 (some .int) :: ([.fieldLink RX5 19 "Gaugerhall$Vessel" "drops" "I", .constant RX5 41 (100000), .fieldLink RX5 16 "Gaugerhall$Vessel" "volume" "I", .static yX6_part, .initialized RX6, .code yX6_part cX6_part 3 (some .int)] ++ wsX50)
def wsJxa1e45_init_da8c8 : List Cond := .code yJxa1e45_init_da8c8 cJxa1e45_init_da8c8 1 none :: ([.methodLink RJxa1e45 1 objectInit, .instanceMethod objectInit, .code objectInit ⟨#[0xb1]⟩ 1 none])
def wsJxc12de_init_da8c8 : List Cond := .code yJxc12de_init_da8c8 cJxc12de_init_da8c8 1 none :: ([.fieldLink RJxc12de 7 "java/util/AbstractList" "modCount" "I", .methodLink RJxc12de 1 yJxa1e45_init_da8c8, .instanceMethod yJxa1e45_init_da8c8, .initialized RJxa1e45, .code yJxa1e45_init_da8c8 cJxa1e45_init_da8c8 1 none, .methodLink RJxa1e45 1 objectInit, .instanceMethod objectInit, .code objectInit ⟨#[0xb1]⟩ 1 none] ++ wsJx4a65c0)
def wsJx4a65c_init_da8c8 : List Cond := .code yJx4a65c_init_da8c8 cJx4a65c_init_da8c8 1 none :: ([.fieldLink RJx4a65c 39 "java/util/ArrayList" "DEFAULTCAPACITY_EMPTY_ELEMENTDATA" "[Ljava/lang/Object;", .fieldLink RJx4a65c 9 "java/util/ArrayList" "elementData" "[Ljava/lang/Object;", .methodLink RJx4a65c 1 yJxc12de_init_da8c8, .instanceMethod yJxc12de_init_da8c8, .initialized RJxc12de, .code yJxc12de_init_da8c8 cJxc12de_init_da8c8 1 none, .fieldLink RJxc12de 7 "java/util/AbstractList" "modCount" "I", .methodLink RJxc12de 1 yJxa1e45_init_da8c8, .instanceMethod yJxa1e45_init_da8c8, .initialized RJxa1e45, .code yJxa1e45_init_da8c8 cJxa1e45_init_da8c8 1 none, .methodLink RJxa1e45 1 objectInit, .instanceMethod objectInit, .code objectInit ⟨#[0xb1]⟩ 1 none] ++ wsJx4a65c0)
def wsX6_init_r1 : List Cond := [Cond.methodLink RX6 1 objectInit, Cond.instanceMethod objectInit, Cond.code objectInit ⟨#[0xb1]⟩ 1 none, Cond.classLink RX6 7 RJx4a65c, Cond.instantiable RJx4a65c 3, Cond.initialized RJx4a65c, Cond.fieldLink RX6 10 "Gaugerhall" "vessels" "Ljava/util/ArrayList;", Cond.fieldLink RX6 16 "Gaugerhall" "movements" "Ljava/util/ArrayList;", Cond.fieldLink RX6 19 "Gaugerhall" "lots" "Ljava/util/ArrayList;", Cond.arrayClass .int, Cond.fieldLink RX6 22 "Gaugerhall" "shareRates" "[I", Cond.classLink RX6 26 RX1, Cond.instantiable RX1 3, Cond.initialized RX1, Cond.fieldLink RX6 29 "Gaugerhall" "excise" "LGaugerhall$Excise;", Cond.classLink RX6 33 RX2, Cond.instantiable RX2 5, Cond.initialized RX2, Cond.fieldLink RX6 36 "Gaugerhall" "book" "LGaugerhall$Ledger;", Cond.methodLink RX6 9 yJx4a65c_init_da8c8, Cond.instanceMethod yJx4a65c_init_da8c8, Cond.code yJx4a65c_init_da8c8 cJx4a65c_init_da8c8 1 none, Cond.fieldLink RJx4a65c 39 "java/util/ArrayList" "DEFAULTCAPACITY_EMPTY_ELEMENTDATA" "[Ljava/lang/Object;", Cond.fieldLink RJx4a65c 9 "java/util/ArrayList" "elementData" "[Ljava/lang/Object;"]
def wsX6_init_r2 : List Cond := [Cond.methodLink RJx4a65c 1 yJxc12de_init_da8c8, Cond.instanceMethod yJxc12de_init_da8c8, Cond.initialized RJxc12de, Cond.code yJxc12de_init_da8c8 cJxc12de_init_da8c8 1 none, Cond.fieldLink RJxc12de 7 "java/util/AbstractList" "modCount" "I", Cond.methodLink RJxc12de 1 yJxa1e45_init_da8c8, Cond.instanceMethod yJxa1e45_init_da8c8, Cond.initialized RJxa1e45, Cond.code yJxa1e45_init_da8c8 cJxa1e45_init_da8c8 1 none, Cond.methodLink RJxa1e45 1 objectInit, Cond.instanceMethod yX1_init, Cond.code yX1_init cX1_init 1 none, Cond.methodLink RX1 1 objectInit, Cond.fieldLink RX1 7 "Gaugerhall$Excise" "rate" "I", Cond.constant RX1 13 (1000000), Cond.fieldLink RX1 14 "Gaugerhall$Excise" "leftForHalf" "I", Cond.instanceMethod yX2_init, Cond.code yX2_init cX2_init 1 none, Cond.methodLink RX2 1 objectInit]
def wsX6_init : List Cond := .code yX6_init cX6_init 1 none :: ((wsX6_init_r1 ++ wsX6_init_r2) ++ wsJx4a65c0 ++ wsX60 ++ wsX10 ++ wsX20)
def wsX6_isPlace : List Cond := .code yX6_isPlace cX6_isPlace 2 (some .boolean) :: ([.fieldLink RX6 22 "Gaugerhall" "shareRates" "[I"] ++ wsX60)
def wsX6_isWithin : List Cond := .code yX6_isWithin cX6_isWithin 3 (some .boolean) :: ([])
def wsJx4a65c_size_8abf5 : List Cond := .code yJx4a65c_size_8abf5 cJx4a65c_size_8abf5 1 (some .int) :: ([.fieldLink RJx4a65c 48 "java/util/ArrayList" "size" "I"] ++ wsJx4a65c0)
def wsJ8_hugeLength_7cf53 : List Cond := .code yJ8_hugeLength_7cf53 cJ8_hugeLength_7cf53 3 (some .int) :: ([.constant RJ8 200 (2147483639)])
def wsJ8_newLength_cabcc : List Cond := .code yJ8_newLength_cabcc cJ8_newLength_cabcc 4 (some .int) :: ([.methodLink RJ8 194 Lib.Math.max.name, .static Lib.Math.max.name, .initialized "java/lang/Math", .code Lib.Math.max.name Lib.Math.max.code 2 (some .int), .constant RJ8 200 (2147483639), .methodLink RJ8 201 yJ8_hugeLength_7cf53, .static yJ8_hugeLength_7cf53, .initialized RJ8, .code yJ8_hugeLength_7cf53 cJ8_hugeLength_7cf53 3 (some .int)])
def wsJ7_copyOf_6403c : List Cond := .code yJ7_copyOf_6403c cJ7_copyOf_6403c 4 (some (.array (.object "java/lang/Object"))) :: ([.classLink RJ7 110 "[Ljava/lang/Object;", .classLink RJ7 2 "java/lang/Object", .methodLink RJ7 304 Lib.Math.min.name, .static Lib.Math.min.name, .initialized "java/lang/Math", .code Lib.Math.min.name Lib.Math.min.code 2 (some .int), .methodLink RJ7 150 arraycopyName, .native arraycopyName, .static arraycopyName, .initialized "java/lang/System"])
def wsJ7_copyOf_1904c : List Cond := .code yJ7_copyOf_1904c cJ7_copyOf_1904c 2 (some (.array (.object "java/lang/Object"))) :: ([.methodLink RJ7 86 ⟨"java/lang/Object", "getClass", "()Ljava/lang/Class;"⟩, .selects "[Ljava/lang/Object;" ⟨"java/lang/Object", "getClass", "()Ljava/lang/Class;"⟩ ⟨"java/lang/Object", "getClass", "()Ljava/lang/Class;"⟩, .instanceMethod ⟨"java/lang/Object", "getClass", "()Ljava/lang/Class;"⟩, .native ⟨"java/lang/Object", "getClass", "()Ljava/lang/Class;"⟩, .methodLink RJ7 300 yJ7_copyOf_6403c, .static yJ7_copyOf_6403c, .initialized RJ7, .code yJ7_copyOf_6403c cJ7_copyOf_6403c 4 (some (.array (.object "java/lang/Object"))), .classLink RJ7 110 "[Ljava/lang/Object;", .classLink RJ7 2 "java/lang/Object", .methodLink RJ7 304 Lib.Math.min.name, .static Lib.Math.min.name, .initialized "java/lang/Math", .code Lib.Math.min.name Lib.Math.min.code 2 (some .int), .methodLink RJ7 150 arraycopyName, .native arraycopyName, .static arraycopyName, .initialized "java/lang/System"])
def wsJx4a65c_grow_92f84_r1 : List Cond := [Cond.fieldLink RJx4a65c 9 "java/util/ArrayList" "elementData" "[Ljava/lang/Object;", Cond.fieldLink RJx4a65c 39 "java/util/ArrayList" "DEFAULTCAPACITY_EMPTY_ELEMENTDATA" "[Ljava/lang/Object;", Cond.methodLink RJx4a65c 79 Lib.Math.max.name, Cond.static Lib.Math.max.name, Cond.initialized "java/lang/Math", Cond.code Lib.Math.max.name Lib.Math.max.code 2 (some .int), Cond.classLink RJx4a65c 7 "java/lang/Object", Cond.methodLink RJx4a65c 73 yJ8_newLength_cabcc, Cond.static yJ8_newLength_cabcc, Cond.initialized RJ8, Cond.code yJ8_newLength_cabcc cJ8_newLength_cabcc 4 (some .int), Cond.methodLink RJ8 194 Lib.Math.max.name, Cond.constant RJ8 200 (2147483639), Cond.methodLink RJ8 201 yJ8_hugeLength_7cf53, Cond.static yJ8_hugeLength_7cf53, Cond.code yJ8_hugeLength_7cf53 cJ8_hugeLength_7cf53 3 (some .int), Cond.methodLink RJx4a65c 66 yJ7_copyOf_1904c, Cond.static yJ7_copyOf_1904c, Cond.initialized RJ7, Cond.code yJ7_copyOf_1904c cJ7_copyOf_1904c 2 (some (.array (.object "java/lang/Object"))), Cond.methodLink RJ7 86 ⟨"java/lang/Object", "getClass", "()Ljava/lang/Class;"⟩, Cond.selects "[Ljava/lang/Object;" ⟨"java/lang/Object", "getClass", "()Ljava/lang/Class;"⟩ ⟨"java/lang/Object", "getClass", "()Ljava/lang/Class;"⟩, Cond.instanceMethod ⟨"java/lang/Object", "getClass", "()Ljava/lang/Class;"⟩, Cond.native ⟨"java/lang/Object", "getClass", "()Ljava/lang/Class;"⟩]
def wsJx4a65c_grow_92f84_r2 : List Cond := [Cond.methodLink RJ7 300 yJ7_copyOf_6403c, Cond.static yJ7_copyOf_6403c, Cond.code yJ7_copyOf_6403c cJ7_copyOf_6403c 4 (some (.array (.object "java/lang/Object"))), Cond.classLink RJ7 110 "[Ljava/lang/Object;", Cond.classLink RJ7 2 "java/lang/Object", Cond.methodLink RJ7 304 Lib.Math.min.name, Cond.static Lib.Math.min.name, Cond.code Lib.Math.min.name Lib.Math.min.code 2 (some .int), Cond.methodLink RJ7 150 arraycopyName, Cond.native arraycopyName, Cond.static arraycopyName, Cond.initialized "java/lang/System"]
def wsJx4a65c_grow_92f84 : List Cond := .code yJx4a65c_grow_92f84 cJx4a65c_grow_92f84 4 (some (.array (.object "java/lang/Object"))) :: ((wsJx4a65c_grow_92f84_r1 ++ wsJx4a65c_grow_92f84_r2) ++ wsJx4a65c0)
def wsJx4a65c_grow_d5877_r1 : List Cond := [Cond.fieldLink RJx4a65c 48 "java/util/ArrayList" "size" "I", Cond.methodLink RJx4a65c 69 yJx4a65c_grow_92f84, Cond.instanceMethod yJx4a65c_grow_92f84, Cond.selects RJx4a65c yJx4a65c_grow_92f84 yJx4a65c_grow_92f84, Cond.initialized RJx4a65c, Cond.code yJx4a65c_grow_92f84 cJx4a65c_grow_92f84 4 (some (.array (.object "java/lang/Object"))), Cond.fieldLink RJx4a65c 9 "java/util/ArrayList" "elementData" "[Ljava/lang/Object;", Cond.fieldLink RJx4a65c 39 "java/util/ArrayList" "DEFAULTCAPACITY_EMPTY_ELEMENTDATA" "[Ljava/lang/Object;", Cond.methodLink RJx4a65c 79 Lib.Math.max.name, Cond.static Lib.Math.max.name, Cond.initialized "java/lang/Math", Cond.code Lib.Math.max.name Lib.Math.max.code 2 (some .int), Cond.classLink RJx4a65c 7 "java/lang/Object", Cond.methodLink RJx4a65c 73 yJ8_newLength_cabcc, Cond.static yJ8_newLength_cabcc, Cond.initialized RJ8, Cond.code yJ8_newLength_cabcc cJ8_newLength_cabcc 4 (some .int), Cond.methodLink RJ8 194 Lib.Math.max.name, Cond.constant RJ8 200 (2147483639), Cond.methodLink RJ8 201 yJ8_hugeLength_7cf53, Cond.static yJ8_hugeLength_7cf53, Cond.code yJ8_hugeLength_7cf53 cJ8_hugeLength_7cf53 3 (some .int), Cond.methodLink RJx4a65c 66 yJ7_copyOf_1904c, Cond.static yJ7_copyOf_1904c]
def wsJx4a65c_grow_d5877_r2 : List Cond := [Cond.initialized RJ7, Cond.code yJ7_copyOf_1904c cJ7_copyOf_1904c 2 (some (.array (.object "java/lang/Object"))), Cond.methodLink RJ7 86 ⟨"java/lang/Object", "getClass", "()Ljava/lang/Class;"⟩, Cond.selects "[Ljava/lang/Object;" ⟨"java/lang/Object", "getClass", "()Ljava/lang/Class;"⟩ ⟨"java/lang/Object", "getClass", "()Ljava/lang/Class;"⟩, Cond.instanceMethod ⟨"java/lang/Object", "getClass", "()Ljava/lang/Class;"⟩, Cond.native ⟨"java/lang/Object", "getClass", "()Ljava/lang/Class;"⟩, Cond.methodLink RJ7 300 yJ7_copyOf_6403c, Cond.static yJ7_copyOf_6403c, Cond.code yJ7_copyOf_6403c cJ7_copyOf_6403c 4 (some (.array (.object "java/lang/Object"))), Cond.classLink RJ7 110 "[Ljava/lang/Object;", Cond.classLink RJ7 2 "java/lang/Object", Cond.methodLink RJ7 304 Lib.Math.min.name, Cond.static Lib.Math.min.name, Cond.code Lib.Math.min.name Lib.Math.min.code 2 (some .int), Cond.methodLink RJ7 150 arraycopyName, Cond.native arraycopyName, Cond.static arraycopyName, Cond.initialized "java/lang/System"]
def wsJx4a65c_grow_d5877 : List Cond := .code yJx4a65c_grow_d5877 cJx4a65c_grow_d5877 1 (some (.array (.object "java/lang/Object"))) :: ((wsJx4a65c_grow_d5877_r1 ++ wsJx4a65c_grow_d5877_r2) ++ wsJx4a65c0)
def wsJx4a65c_add_72be8_r1 : List Cond := [Cond.fieldLink RJx4a65c 48 "java/util/ArrayList" "size" "I", Cond.methodLink RJx4a65c 129 yJx4a65c_grow_d5877, Cond.instanceMethod yJx4a65c_grow_d5877, Cond.selects RJx4a65c yJx4a65c_grow_d5877 yJx4a65c_grow_d5877, Cond.initialized RJx4a65c, Cond.code yJx4a65c_grow_d5877 cJx4a65c_grow_d5877 1 (some (.array (.object "java/lang/Object"))), Cond.methodLink RJx4a65c 69 yJx4a65c_grow_92f84, Cond.instanceMethod yJx4a65c_grow_92f84, Cond.selects RJx4a65c yJx4a65c_grow_92f84 yJx4a65c_grow_92f84, Cond.code yJx4a65c_grow_92f84 cJx4a65c_grow_92f84 4 (some (.array (.object "java/lang/Object"))), Cond.fieldLink RJx4a65c 9 "java/util/ArrayList" "elementData" "[Ljava/lang/Object;", Cond.fieldLink RJx4a65c 39 "java/util/ArrayList" "DEFAULTCAPACITY_EMPTY_ELEMENTDATA" "[Ljava/lang/Object;", Cond.methodLink RJx4a65c 79 Lib.Math.max.name, Cond.static Lib.Math.max.name, Cond.initialized "java/lang/Math", Cond.code Lib.Math.max.name Lib.Math.max.code 2 (some .int), Cond.classLink RJx4a65c 7 "java/lang/Object", Cond.methodLink RJx4a65c 73 yJ8_newLength_cabcc, Cond.static yJ8_newLength_cabcc, Cond.initialized RJ8, Cond.code yJ8_newLength_cabcc cJ8_newLength_cabcc 4 (some .int), Cond.methodLink RJ8 194 Lib.Math.max.name, Cond.constant RJ8 200 (2147483639), Cond.methodLink RJ8 201 yJ8_hugeLength_7cf53]
def wsJx4a65c_add_72be8_r2 : List Cond := [Cond.static yJ8_hugeLength_7cf53, Cond.code yJ8_hugeLength_7cf53 cJ8_hugeLength_7cf53 3 (some .int), Cond.methodLink RJx4a65c 66 yJ7_copyOf_1904c, Cond.static yJ7_copyOf_1904c, Cond.initialized RJ7, Cond.code yJ7_copyOf_1904c cJ7_copyOf_1904c 2 (some (.array (.object "java/lang/Object"))), Cond.methodLink RJ7 86 ⟨"java/lang/Object", "getClass", "()Ljava/lang/Class;"⟩, Cond.selects "[Ljava/lang/Object;" ⟨"java/lang/Object", "getClass", "()Ljava/lang/Class;"⟩ ⟨"java/lang/Object", "getClass", "()Ljava/lang/Class;"⟩, Cond.instanceMethod ⟨"java/lang/Object", "getClass", "()Ljava/lang/Class;"⟩, Cond.native ⟨"java/lang/Object", "getClass", "()Ljava/lang/Class;"⟩, Cond.methodLink RJ7 300 yJ7_copyOf_6403c, Cond.static yJ7_copyOf_6403c, Cond.code yJ7_copyOf_6403c cJ7_copyOf_6403c 4 (some (.array (.object "java/lang/Object"))), Cond.classLink RJ7 110 "[Ljava/lang/Object;", Cond.classLink RJ7 2 "java/lang/Object", Cond.methodLink RJ7 304 Lib.Math.min.name, Cond.static Lib.Math.min.name, Cond.code Lib.Math.min.name Lib.Math.min.code 2 (some .int), Cond.methodLink RJ7 150 arraycopyName, Cond.native arraycopyName, Cond.static arraycopyName, Cond.initialized "java/lang/System"]
def wsJx4a65c_add_72be8 : List Cond := .code yJx4a65c_add_72be8 cJx4a65c_add_72be8 4 none :: ((wsJx4a65c_add_72be8_r1 ++ wsJx4a65c_add_72be8_r2) ++ wsJx4a65c0)
def wsJx4a65c_add_9ea2d_r1 : List Cond := [Cond.fieldLink RJx4a65c 63 "java/util/ArrayList" "modCount" "I", Cond.sameField "java/util/ArrayList" "java/util/AbstractList" "modCount" "I", Cond.fieldLink RJx4a65c 9 "java/util/ArrayList" "elementData" "[Ljava/lang/Object;", Cond.fieldLink RJx4a65c 48 "java/util/ArrayList" "size" "I", Cond.methodLink RJx4a65c 131 yJx4a65c_add_72be8, Cond.instanceMethod yJx4a65c_add_72be8, Cond.selects RJx4a65c yJx4a65c_add_72be8 yJx4a65c_add_72be8, Cond.initialized RJx4a65c, Cond.code yJx4a65c_add_72be8 cJx4a65c_add_72be8 4 none, Cond.methodLink RJx4a65c 129 yJx4a65c_grow_d5877, Cond.instanceMethod yJx4a65c_grow_d5877, Cond.selects RJx4a65c yJx4a65c_grow_d5877 yJx4a65c_grow_d5877, Cond.code yJx4a65c_grow_d5877 cJx4a65c_grow_d5877 1 (some (.array (.object "java/lang/Object"))), Cond.methodLink RJx4a65c 69 yJx4a65c_grow_92f84, Cond.instanceMethod yJx4a65c_grow_92f84, Cond.selects RJx4a65c yJx4a65c_grow_92f84 yJx4a65c_grow_92f84, Cond.code yJx4a65c_grow_92f84 cJx4a65c_grow_92f84 4 (some (.array (.object "java/lang/Object"))), Cond.fieldLink RJx4a65c 39 "java/util/ArrayList" "DEFAULTCAPACITY_EMPTY_ELEMENTDATA" "[Ljava/lang/Object;", Cond.methodLink RJx4a65c 79 Lib.Math.max.name, Cond.static Lib.Math.max.name, Cond.initialized "java/lang/Math", Cond.code Lib.Math.max.name Lib.Math.max.code 2 (some .int), Cond.classLink RJx4a65c 7 "java/lang/Object", Cond.methodLink RJx4a65c 73 yJ8_newLength_cabcc]
def wsJx4a65c_add_9ea2d_r2 : List Cond := [Cond.static yJ8_newLength_cabcc, Cond.initialized RJ8, Cond.code yJ8_newLength_cabcc cJ8_newLength_cabcc 4 (some .int), Cond.methodLink RJ8 194 Lib.Math.max.name, Cond.constant RJ8 200 (2147483639), Cond.methodLink RJ8 201 yJ8_hugeLength_7cf53, Cond.static yJ8_hugeLength_7cf53, Cond.code yJ8_hugeLength_7cf53 cJ8_hugeLength_7cf53 3 (some .int), Cond.methodLink RJx4a65c 66 yJ7_copyOf_1904c, Cond.static yJ7_copyOf_1904c, Cond.initialized RJ7, Cond.code yJ7_copyOf_1904c cJ7_copyOf_1904c 2 (some (.array (.object "java/lang/Object"))), Cond.methodLink RJ7 86 ⟨"java/lang/Object", "getClass", "()Ljava/lang/Class;"⟩, Cond.selects "[Ljava/lang/Object;" ⟨"java/lang/Object", "getClass", "()Ljava/lang/Class;"⟩ ⟨"java/lang/Object", "getClass", "()Ljava/lang/Class;"⟩, Cond.instanceMethod ⟨"java/lang/Object", "getClass", "()Ljava/lang/Class;"⟩, Cond.native ⟨"java/lang/Object", "getClass", "()Ljava/lang/Class;"⟩, Cond.methodLink RJ7 300 yJ7_copyOf_6403c, Cond.static yJ7_copyOf_6403c, Cond.code yJ7_copyOf_6403c cJ7_copyOf_6403c 4 (some (.array (.object "java/lang/Object"))), Cond.classLink RJ7 110 "[Ljava/lang/Object;", Cond.classLink RJ7 2 "java/lang/Object", Cond.methodLink RJ7 304 Lib.Math.min.name, Cond.static Lib.Math.min.name, Cond.code Lib.Math.min.name Lib.Math.min.code 2 (some .int)]
def wsJx4a65c_add_9ea2d_r3 : List Cond := [Cond.methodLink RJ7 150 arraycopyName, Cond.native arraycopyName, Cond.static arraycopyName, Cond.initialized "java/lang/System"]
def wsJx4a65c_add_9ea2d : List Cond := .code yJx4a65c_add_9ea2d cJx4a65c_add_9ea2d 2 (some .boolean) :: ((wsJx4a65c_add_9ea2d_r1 ++ (wsJx4a65c_add_9ea2d_r2 ++ wsJx4a65c_add_9ea2d_r3)) ++ wsJx4a65c0)
def wsX6_vessel_r1 : List Cond := [Cond.classLink RX6 44 "java/lang/IndexOutOfBoundsException", Cond.initialized "java/lang/IndexOutOfBoundsException", Cond.classLink RX6 55 "java/lang/IllegalArgumentException", Cond.initialized "java/lang/IllegalArgumentException", Cond.classLink RX6 64 "java/lang/IllegalStateException", Cond.initialized "java/lang/IllegalStateException", Cond.fieldLink RX6 10 "Gaugerhall" "vessels" "Ljava/util/ArrayList;", Cond.classLink RX6 69 RX5, Cond.instantiable RX5 4, Cond.initialized RX5, Cond.methodLink RX6 40 yX6_isPlace, Cond.instanceMethod yX6_isPlace, Cond.selects RX6 yX6_isPlace yX6_isPlace, Cond.initialized RX6, Cond.code yX6_isPlace cX6_isPlace 2 (some .boolean), Cond.fieldLink RX6 22 "Gaugerhall" "shareRates" "[I", Cond.methodLink RX6 51 yX6_isWithin, Cond.static yX6_isWithin, Cond.code yX6_isWithin cX6_isWithin 3 (some .boolean), Cond.methodLink RX6 60 yJx4a65c_size_8abf5, Cond.instanceMethod yJx4a65c_size_8abf5, Cond.selects RJx4a65c yJx4a65c_size_8abf5 yJx4a65c_size_8abf5, Cond.initialized RJx4a65c, Cond.code yJx4a65c_size_8abf5 cJx4a65c_size_8abf5 1 (some .int)]
def wsX6_vessel_r2 : List Cond := [Cond.fieldLink RJx4a65c 48 "java/util/ArrayList" "size" "I", Cond.methodLink RX6 71 yX5_init, Cond.instanceMethod yX5_init, Cond.code yX5_init cX5_init 3 none, Cond.methodLink RX5 1 objectInit, Cond.instanceMethod objectInit, Cond.code objectInit ⟨#[0xb1]⟩ 1 none, Cond.fieldLink RX5 7 "Gaugerhall$Vessel" "place" "I", Cond.fieldLink RX5 13 "Gaugerhall$Vessel" "capacity" "I", Cond.methodLink RX6 74 yJx4a65c_add_9ea2d, Cond.instanceMethod yJx4a65c_add_9ea2d, Cond.selects RJx4a65c yJx4a65c_add_9ea2d yJx4a65c_add_9ea2d, Cond.code yJx4a65c_add_9ea2d cJx4a65c_add_9ea2d 2 (some .boolean), Cond.fieldLink RJx4a65c 63 "java/util/ArrayList" "modCount" "I", Cond.sameField "java/util/ArrayList" "java/util/AbstractList" "modCount" "I", Cond.fieldLink RJx4a65c 9 "java/util/ArrayList" "elementData" "[Ljava/lang/Object;", Cond.methodLink RJx4a65c 131 yJx4a65c_add_72be8, Cond.instanceMethod yJx4a65c_add_72be8, Cond.selects RJx4a65c yJx4a65c_add_72be8 yJx4a65c_add_72be8, Cond.code yJx4a65c_add_72be8 cJx4a65c_add_72be8 4 none, Cond.methodLink RJx4a65c 129 yJx4a65c_grow_d5877, Cond.instanceMethod yJx4a65c_grow_d5877, Cond.selects RJx4a65c yJx4a65c_grow_d5877 yJx4a65c_grow_d5877, Cond.code yJx4a65c_grow_d5877 cJx4a65c_grow_d5877 1 (some (.array (.object "java/lang/Object")))]
def wsX6_vessel_r3 : List Cond := [Cond.methodLink RJx4a65c 69 yJx4a65c_grow_92f84, Cond.instanceMethod yJx4a65c_grow_92f84, Cond.selects RJx4a65c yJx4a65c_grow_92f84 yJx4a65c_grow_92f84, Cond.code yJx4a65c_grow_92f84 cJx4a65c_grow_92f84 4 (some (.array (.object "java/lang/Object"))), Cond.fieldLink RJx4a65c 39 "java/util/ArrayList" "DEFAULTCAPACITY_EMPTY_ELEMENTDATA" "[Ljava/lang/Object;", Cond.methodLink RJx4a65c 79 Lib.Math.max.name, Cond.static Lib.Math.max.name, Cond.initialized "java/lang/Math", Cond.code Lib.Math.max.name Lib.Math.max.code 2 (some .int), Cond.classLink RJx4a65c 7 "java/lang/Object", Cond.methodLink RJx4a65c 73 yJ8_newLength_cabcc, Cond.static yJ8_newLength_cabcc, Cond.initialized RJ8, Cond.code yJ8_newLength_cabcc cJ8_newLength_cabcc 4 (some .int), Cond.methodLink RJ8 194 Lib.Math.max.name, Cond.constant RJ8 200 (2147483639), Cond.methodLink RJ8 201 yJ8_hugeLength_7cf53, Cond.static yJ8_hugeLength_7cf53, Cond.code yJ8_hugeLength_7cf53 cJ8_hugeLength_7cf53 3 (some .int), Cond.methodLink RJx4a65c 66 yJ7_copyOf_1904c, Cond.static yJ7_copyOf_1904c, Cond.initialized RJ7, Cond.code yJ7_copyOf_1904c cJ7_copyOf_1904c 2 (some (.array (.object "java/lang/Object"))), Cond.methodLink RJ7 86 ⟨"java/lang/Object", "getClass", "()Ljava/lang/Class;"⟩]
def wsX6_vessel_r4 : List Cond := [Cond.selects "[Ljava/lang/Object;" ⟨"java/lang/Object", "getClass", "()Ljava/lang/Class;"⟩ ⟨"java/lang/Object", "getClass", "()Ljava/lang/Class;"⟩, Cond.instanceMethod ⟨"java/lang/Object", "getClass", "()Ljava/lang/Class;"⟩, Cond.native ⟨"java/lang/Object", "getClass", "()Ljava/lang/Class;"⟩, Cond.methodLink RJ7 300 yJ7_copyOf_6403c, Cond.static yJ7_copyOf_6403c, Cond.code yJ7_copyOf_6403c cJ7_copyOf_6403c 4 (some (.array (.object "java/lang/Object"))), Cond.classLink RJ7 110 "[Ljava/lang/Object;", Cond.classLink RJ7 2 "java/lang/Object", Cond.methodLink RJ7 304 Lib.Math.min.name, Cond.static Lib.Math.min.name, Cond.code Lib.Math.min.name Lib.Math.min.code 2 (some .int), Cond.methodLink RJ7 150 arraycopyName, Cond.native arraycopyName, Cond.static arraycopyName, Cond.initialized "java/lang/System"]
def wsX6_vessel : List Cond := .code yX6_vessel cX6_vessel 3 (some .int) :: ((wsX6_vessel_r1 ++ (wsX6_vessel_r2 ++ (wsX6_vessel_r3 ++ wsX6_vessel_r4))) ++ wsX60 ++ wsX50 ++ wsJx4a65c0 ++ (vx_atS RX6 48 "java/lang/IndexOutOfBoundsException" ["java/lang/RuntimeException", "java/lang/Exception"]).filter goodWord ++ (vx_atS RX6 59 "java/lang/IllegalArgumentException" ["java/lang/RuntimeException", "java/lang/Exception"]).filter goodWord ++ (vx_atS RX6 68 "java/lang/IllegalStateException" ["java/lang/RuntimeException", "java/lang/Exception"]).filter goodWord)
def wsX6_shares : List Cond := .code yX6_shares cX6_shares 4 (some .int) :: ([.classLink RX6 44 "java/lang/IndexOutOfBoundsException", .initialized "java/lang/IndexOutOfBoundsException", .classLink RX6 55 "java/lang/IllegalArgumentException", .initialized "java/lang/IllegalArgumentException", .fieldLink RX6 22 "Gaugerhall" "shareRates" "[I", .methodLink RX6 40 yX6_isPlace, .instanceMethod yX6_isPlace, .selects RX6 yX6_isPlace yX6_isPlace, .initialized RX6, .code yX6_isPlace cX6_isPlace 2 (some .boolean), .methodLink RX6 51 yX6_isWithin, .static yX6_isWithin, .code yX6_isWithin cX6_isWithin 3 (some .boolean)] ++ wsX60 ++ (vx_atS RX6 48 "java/lang/IndexOutOfBoundsException" ["java/lang/RuntimeException", "java/lang/Exception"]).filter goodWord ++ (vx_atS RX6 59 "java/lang/IllegalArgumentException" ["java/lang/RuntimeException", "java/lang/Exception"]).filter goodWord)
def wsJ3_checkIndex_8e157 : List Cond := .code yJ3_checkIndex_8e157 cJ3_checkIndex_8e157 3 (some .int) :: ([])
def wsJ15_checkIndex_7cf53 : List Cond := .code yJ15_checkIndex_7cf53 cJ15_checkIndex_7cf53 2 (some .int) :: ([.methodLink RJ15 105 yJ3_checkIndex_8e157, .static yJ3_checkIndex_8e157, .initialized RJ3, .code yJ3_checkIndex_8e157 cJ3_checkIndex_8e157 3 (some .int)])
def wsJx4a65c_elementData_915e3 : List Cond := .code yJx4a65c_elementData_915e3 cJx4a65c_elementData_915e3 2 (some (.object "java/lang/Object")) :: ([.fieldLink RJx4a65c 9 "java/util/ArrayList" "elementData" "[Ljava/lang/Object;"] ++ wsJx4a65c0)
def wsJx4a65c_get_915e3 : List Cond := .code yJx4a65c_get_915e3 cJx4a65c_get_915e3 2 (some (.object "java/lang/Object")) :: ([.fieldLink RJx4a65c 48 "java/util/ArrayList" "size" "I", .methodLink RJx4a65c 118 yJ15_checkIndex_7cf53, .static yJ15_checkIndex_7cf53, .initialized RJ15, .code yJ15_checkIndex_7cf53 cJ15_checkIndex_7cf53 2 (some .int), .methodLink RJ15 105 yJ3_checkIndex_8e157, .static yJ3_checkIndex_8e157, .initialized RJ3, .code yJ3_checkIndex_8e157 cJ3_checkIndex_8e157 3 (some .int), .methodLink RJx4a65c 123 yJx4a65c_elementData_915e3, .instanceMethod yJx4a65c_elementData_915e3, .selects RJx4a65c yJx4a65c_elementData_915e3 yJx4a65c_elementData_915e3, .initialized RJx4a65c, .code yJx4a65c_elementData_915e3 cJx4a65c_elementData_915e3 2 (some (.object "java/lang/Object")), .fieldLink RJx4a65c 9 "java/util/ArrayList" "elementData" "[Ljava/lang/Object;"] ++ wsJx4a65c0)
def wsX6_vesselOf_r1 : List Cond := [Cond.classLink RX6 44 "java/lang/IndexOutOfBoundsException", Cond.initialized "java/lang/IndexOutOfBoundsException", Cond.fieldLink RX6 10 "Gaugerhall" "vessels" "Ljava/util/ArrayList;", Cond.classLink RX6 69 "Gaugerhall$Vessel", Cond.methodLink RX6 60 yJx4a65c_size_8abf5, Cond.instanceMethod yJx4a65c_size_8abf5, Cond.selects RJx4a65c yJx4a65c_size_8abf5 yJx4a65c_size_8abf5, Cond.initialized RJx4a65c, Cond.code yJx4a65c_size_8abf5 cJx4a65c_size_8abf5 1 (some .int), Cond.fieldLink RJx4a65c 48 "java/util/ArrayList" "size" "I", Cond.methodLink RX6 194 yJx4a65c_get_915e3, Cond.instanceMethod yJx4a65c_get_915e3, Cond.selects RJx4a65c yJx4a65c_get_915e3 yJx4a65c_get_915e3, Cond.code yJx4a65c_get_915e3 cJx4a65c_get_915e3 2 (some (.object "java/lang/Object")), Cond.methodLink RJx4a65c 118 yJ15_checkIndex_7cf53, Cond.static yJ15_checkIndex_7cf53, Cond.initialized RJ15, Cond.code yJ15_checkIndex_7cf53 cJ15_checkIndex_7cf53 2 (some .int), Cond.methodLink RJ15 105 yJ3_checkIndex_8e157, Cond.static yJ3_checkIndex_8e157, Cond.initialized RJ3, Cond.code yJ3_checkIndex_8e157 cJ3_checkIndex_8e157 3 (some .int), Cond.methodLink RJx4a65c 123 yJx4a65c_elementData_915e3, Cond.instanceMethod yJx4a65c_elementData_915e3]
def wsX6_vesselOf_r2 : List Cond := [Cond.selects RJx4a65c yJx4a65c_elementData_915e3 yJx4a65c_elementData_915e3, Cond.code yJx4a65c_elementData_915e3 cJx4a65c_elementData_915e3 2 (some (.object "java/lang/Object")), Cond.fieldLink RJx4a65c 9 "java/util/ArrayList" "elementData" "[Ljava/lang/Object;"]
def wsX6_vesselOf : List Cond := .code yX6_vesselOf cX6_vesselOf 2 (some (.object "Gaugerhall$Vessel")) :: ((wsX6_vesselOf_r1 ++ wsX6_vesselOf_r2) ++ wsX60 ++ wsJx4a65c0 ++ (vx_atS RX6 48 "java/lang/IndexOutOfBoundsException" ["java/lang/RuntimeException", "java/lang/Exception"]).filter goodWord)
def wsX6_run_r1 : List Cond := [Cond.classLink RX6 55 "java/lang/IllegalArgumentException", Cond.initialized "java/lang/IllegalArgumentException", Cond.classLink RX6 64 "java/lang/IllegalStateException", Cond.initialized "java/lang/IllegalStateException", Cond.fieldLink RX6 91 "Gaugerhall" "runs" "I", Cond.fieldLink RX6 36 "Gaugerhall" "book" "LGaugerhall$Ledger;", Cond.methodLink RX6 107 Lib.Math.max.name, Cond.static Lib.Math.max.name, Cond.initialized "java/lang/Math", Cond.code Lib.Math.max.name Lib.Math.max.code 2 (some .int), Cond.fieldLink RX6 29 "Gaugerhall" "excise" "LGaugerhall$Excise;", Cond.methodLink RX6 80 yX6_vesselOf, Cond.instanceMethod yX6_vesselOf, Cond.selects RX6 yX6_vesselOf yX6_vesselOf, Cond.initialized RX6, Cond.code yX6_vesselOf cX6_vesselOf 2 (some (.object "Gaugerhall$Vessel")), Cond.classLink RX6 44 "java/lang/IndexOutOfBoundsException", Cond.initialized "java/lang/IndexOutOfBoundsException", Cond.fieldLink RX6 10 "Gaugerhall" "vessels" "Ljava/util/ArrayList;", Cond.classLink RX6 69 "Gaugerhall$Vessel", Cond.methodLink RX6 60 yJx4a65c_size_8abf5, Cond.instanceMethod yJx4a65c_size_8abf5, Cond.selects RJx4a65c yJx4a65c_size_8abf5 yJx4a65c_size_8abf5, Cond.initialized RJx4a65c]
def wsX6_run_r2 : List Cond := [Cond.code yJx4a65c_size_8abf5 cJx4a65c_size_8abf5 1 (some .int), Cond.fieldLink RJx4a65c 48 "java/util/ArrayList" "size" "I", Cond.methodLink RX6 194 yJx4a65c_get_915e3, Cond.instanceMethod yJx4a65c_get_915e3, Cond.selects RJx4a65c yJx4a65c_get_915e3 yJx4a65c_get_915e3, Cond.code yJx4a65c_get_915e3 cJx4a65c_get_915e3 2 (some (.object "java/lang/Object")), Cond.methodLink RJx4a65c 118 yJ15_checkIndex_7cf53, Cond.static yJ15_checkIndex_7cf53, Cond.initialized RJ15, Cond.code yJ15_checkIndex_7cf53 cJ15_checkIndex_7cf53 2 (some .int), Cond.methodLink RJ15 105 yJ3_checkIndex_8e157, Cond.static yJ3_checkIndex_8e157, Cond.initialized RJ3, Cond.code yJ3_checkIndex_8e157 cJ3_checkIndex_8e157 3 (some .int), Cond.methodLink RJx4a65c 123 yJx4a65c_elementData_915e3, Cond.instanceMethod yJx4a65c_elementData_915e3, Cond.selects RJx4a65c yJx4a65c_elementData_915e3 yJx4a65c_elementData_915e3, Cond.code yJx4a65c_elementData_915e3 cJx4a65c_elementData_915e3 2 (some (.object "java/lang/Object")), Cond.fieldLink RJx4a65c 9 "java/util/ArrayList" "elementData" "[Ljava/lang/Object;", Cond.methodLink RX6 51 yX6_isWithin, Cond.static yX6_isWithin, Cond.code yX6_isWithin cX6_isWithin 3 (some .boolean), Cond.methodLink RX6 88 yX5_hasRoomFor, Cond.instanceMethod yX5_hasRoomFor]
def wsX6_run_r3 : List Cond := [Cond.selects RX5 yX5_hasRoomFor yX5_hasRoomFor, Cond.initialized RX5, Cond.code yX5_hasRoomFor cX5_hasRoomFor 2 (some .boolean), Cond.fieldLink RX5 13 "Gaugerhall$Vessel" "capacity" "I", Cond.fieldLink RX5 16 "Gaugerhall$Vessel" "volume" "I", Cond.methodLink RX6 97 yX5_comeIn, Cond.instanceMethod yX5_comeIn, Cond.selects RX5 yX5_comeIn yX5_comeIn, Cond.code yX5_comeIn cX5_comeIn 5 none, Cond.fieldLink RX5 19 "Gaugerhall$Vessel" "drops" "I", Cond.methodLink RX5 32 Lib.Math.abs.name, Cond.static Lib.Math.abs.name, Cond.code Lib.Math.abs.name Lib.Math.abs.code 1 (some .int), Cond.methodLink RX5 37 Lib.Math.min.name, Cond.static Lib.Math.min.name, Cond.code Lib.Math.min.name Lib.Math.min.code 2 (some .int), Cond.static yX6_part, Cond.code yX6_part cX6_part 3 (some .int), Cond.methodLink RX6 103 yX6_part, Cond.methodLink RX6 116 yX1_chargeWhole, Cond.instanceMethod yX1_chargeWhole, Cond.selects RX1 yX1_chargeWhole yX1_chargeWhole, Cond.initialized RX1, Cond.code yX1_chargeWhole cX1_chargeWhole 3 (some .int)]
def wsX6_run_r4 : List Cond := [Cond.fieldLink RX1 27 "Gaugerhall$Excise" "owed" "I", Cond.methodLink RX1 23 yX1_dutyFor, Cond.instanceMethod yX1_dutyFor, Cond.selects RX1 yX1_dutyFor yX1_dutyFor, Cond.code yX1_dutyFor cX1_dutyFor 2 (some .int), Cond.fieldLink RX1 7 "Gaugerhall$Excise" "rate" "I"]
def wsX6_run : List Cond := .code yX6_run cX6_run 10 (some .int) :: ((wsX6_run_r1 ++ (wsX6_run_r2 ++ (wsX6_run_r3 ++ wsX6_run_r4))) ++ wsX60 ++ wsX20 ++ wsJx4a65c0 ++ wsX50 ++ wsX10 ++ (vx_atS RX6 59 "java/lang/IllegalArgumentException" ["java/lang/RuntimeException", "java/lang/Exception"]).filter goodWord ++ (vx_atS RX6 68 "java/lang/IllegalStateException" ["java/lang/RuntimeException", "java/lang/Exception"]).filter goodWord ++ (vx_atS RX6 48 "java/lang/IndexOutOfBoundsException" ["java/lang/RuntimeException", "java/lang/Exception"]).filter goodWord)
def wsX6_move_r1 : List Cond := [Cond.classLink RX6 55 "java/lang/IllegalArgumentException", Cond.initialized "java/lang/IllegalArgumentException", Cond.classLink RX6 64 "java/lang/IllegalStateException", Cond.initialized "java/lang/IllegalStateException", Cond.methodLink RX6 80 yX6_vesselOf, Cond.instanceMethod yX6_vesselOf, Cond.selects RX6 yX6_vesselOf yX6_vesselOf, Cond.initialized RX6, Cond.code yX6_vesselOf cX6_vesselOf 2 (some (.object "Gaugerhall$Vessel")), Cond.classLink RX6 44 "java/lang/IndexOutOfBoundsException", Cond.initialized "java/lang/IndexOutOfBoundsException", Cond.fieldLink RX6 10 "Gaugerhall" "vessels" "Ljava/util/ArrayList;", Cond.classLink RX6 69 "Gaugerhall$Vessel", Cond.methodLink RX6 60 yJx4a65c_size_8abf5, Cond.instanceMethod yJx4a65c_size_8abf5, Cond.selects RJx4a65c yJx4a65c_size_8abf5 yJx4a65c_size_8abf5, Cond.initialized RJx4a65c, Cond.code yJx4a65c_size_8abf5 cJx4a65c_size_8abf5 1 (some .int), Cond.fieldLink RJx4a65c 48 "java/util/ArrayList" "size" "I", Cond.methodLink RX6 194 yJx4a65c_get_915e3, Cond.instanceMethod yJx4a65c_get_915e3, Cond.selects RJx4a65c yJx4a65c_get_915e3 yJx4a65c_get_915e3, Cond.code yJx4a65c_get_915e3 cJx4a65c_get_915e3 2 (some (.object "java/lang/Object")), Cond.methodLink RJx4a65c 118 yJ15_checkIndex_7cf53]
def wsX6_move_r2 : List Cond := [Cond.static yJ15_checkIndex_7cf53, Cond.initialized RJ15, Cond.code yJ15_checkIndex_7cf53 cJ15_checkIndex_7cf53 2 (some .int), Cond.methodLink RJ15 105 yJ3_checkIndex_8e157, Cond.static yJ3_checkIndex_8e157, Cond.initialized RJ3, Cond.code yJ3_checkIndex_8e157 cJ3_checkIndex_8e157 3 (some .int), Cond.methodLink RJx4a65c 123 yJx4a65c_elementData_915e3, Cond.instanceMethod yJx4a65c_elementData_915e3, Cond.selects RJx4a65c yJx4a65c_elementData_915e3 yJx4a65c_elementData_915e3, Cond.code yJx4a65c_elementData_915e3 cJx4a65c_elementData_915e3 2 (some (.object "java/lang/Object")), Cond.fieldLink RJx4a65c 9 "java/util/ArrayList" "elementData" "[Ljava/lang/Object;", Cond.methodLink RX6 125 yX5_has, Cond.instanceMethod yX5_has, Cond.selects RX5 yX5_has yX5_has, Cond.initialized RX5, Cond.code yX5_has cX5_has 2 (some .boolean), Cond.fieldLink RX5 16 "Gaugerhall$Vessel" "volume" "I", Cond.methodLink RX6 88 yX5_hasRoomFor, Cond.instanceMethod yX5_hasRoomFor, Cond.selects RX5 yX5_hasRoomFor yX5_hasRoomFor, Cond.code yX5_hasRoomFor cX5_hasRoomFor 2 (some .boolean), Cond.fieldLink RX5 13 "Gaugerhall$Vessel" "capacity" "I", Cond.methodLink RX6 130 yX5_takeOut]
def wsX6_move_r3 : List Cond := [Cond.instanceMethod yX5_takeOut, Cond.selects RX5 yX5_takeOut yX5_takeOut, Cond.code yX5_takeOut cX5_takeOut 3 (some .int), Cond.fieldLink RX5 19 "Gaugerhall$Vessel" "drops" "I", Cond.methodLink RX5 28 yX5_dropsOf, Cond.instanceMethod yX5_dropsOf, Cond.selects RX5 yX5_dropsOf yX5_dropsOf, Cond.code yX5_dropsOf cX5_dropsOf 2 (some .int), Cond.static yX6_part, Cond.code yX6_part cX6_part 3 (some .int), Cond.methodLink RX6 97 yX5_comeIn, Cond.instanceMethod yX5_comeIn, Cond.selects RX5 yX5_comeIn yX5_comeIn, Cond.code yX5_comeIn cX5_comeIn 5 none, Cond.methodLink RX5 32 Lib.Math.abs.name, Cond.static Lib.Math.abs.name, Cond.initialized "java/lang/Math", Cond.code Lib.Math.abs.name Lib.Math.abs.code 1 (some .int), Cond.methodLink RX5 37 Lib.Math.min.name, Cond.static Lib.Math.min.name, Cond.code Lib.Math.min.name Lib.Math.min.code 2 (some .int)]
def wsX6_move : List Cond := .code yX6_move cX6_move 6 (some .int) :: ((wsX6_move_r1 ++ (wsX6_move_r2 ++ wsX6_move_r3)) ++ wsX50 ++ wsX60 ++ wsJx4a65c0 ++ (vx_atS RX6 59 "java/lang/IllegalArgumentException" ["java/lang/RuntimeException", "java/lang/Exception"]).filter goodWord ++ (vx_atS RX6 68 "java/lang/IllegalStateException" ["java/lang/RuntimeException", "java/lang/Exception"]).filter goodWord ++ (vx_atS RX6 48 "java/lang/IndexOutOfBoundsException" ["java/lang/RuntimeException", "java/lang/Exception"]).filter goodWord)
def wsX6_miss : List Cond := .code yX6_miss cX6_miss 2 (some .int) :: ([.fieldLink RX6 36 "Gaugerhall" "book" "LGaugerhall$Ledger;", .fieldLink RX6 29 "Gaugerhall" "excise" "LGaugerhall$Excise;", .methodLink RX6 116 yX1_chargeWhole, .instanceMethod yX1_chargeWhole, .selects RX1 yX1_chargeWhole yX1_chargeWhole, .initialized RX1, .code yX1_chargeWhole cX1_chargeWhole 3 (some .int), .fieldLink RX1 27 "Gaugerhall$Excise" "owed" "I", .methodLink RX1 23 yX1_dutyFor, .instanceMethod yX1_dutyFor, .selects RX1 yX1_dutyFor yX1_dutyFor, .code yX1_dutyFor cX1_dutyFor 2 (some .int), .fieldLink RX1 7 "Gaugerhall$Excise" "rate" "I", .static yX6_part, .initialized RX6, .code yX6_part cX6_part 3 (some .int)] ++ wsX60 ++ wsX20 ++ wsX10)
def wsX6_dip_r1 : List Cond := [Cond.classLink RX6 55 "java/lang/IllegalArgumentException", Cond.initialized "java/lang/IllegalArgumentException", Cond.classLink RX6 64 "java/lang/IllegalStateException", Cond.initialized "java/lang/IllegalStateException", Cond.fieldLink RX6 139 "Gaugerhall" "dips" "I", Cond.fieldLink RX6 36 "Gaugerhall" "book" "LGaugerhall$Ledger;", Cond.methodLink RX6 80 yX6_vesselOf, Cond.instanceMethod yX6_vesselOf, Cond.selects RX6 yX6_vesselOf yX6_vesselOf, Cond.initialized RX6, Cond.code yX6_vesselOf cX6_vesselOf 2 (some (.object "Gaugerhall$Vessel")), Cond.classLink RX6 44 "java/lang/IndexOutOfBoundsException", Cond.initialized "java/lang/IndexOutOfBoundsException", Cond.fieldLink RX6 10 "Gaugerhall" "vessels" "Ljava/util/ArrayList;", Cond.classLink RX6 69 "Gaugerhall$Vessel", Cond.methodLink RX6 60 yJx4a65c_size_8abf5, Cond.instanceMethod yJx4a65c_size_8abf5, Cond.selects RJx4a65c yJx4a65c_size_8abf5 yJx4a65c_size_8abf5, Cond.initialized RJx4a65c, Cond.code yJx4a65c_size_8abf5 cJx4a65c_size_8abf5 1 (some .int), Cond.fieldLink RJx4a65c 48 "java/util/ArrayList" "size" "I", Cond.methodLink RX6 194 yJx4a65c_get_915e3, Cond.instanceMethod yJx4a65c_get_915e3, Cond.selects RJx4a65c yJx4a65c_get_915e3 yJx4a65c_get_915e3]
def wsX6_dip_r2 : List Cond := [Cond.code yJx4a65c_get_915e3 cJx4a65c_get_915e3 2 (some (.object "java/lang/Object")), Cond.methodLink RJx4a65c 118 yJ15_checkIndex_7cf53, Cond.static yJ15_checkIndex_7cf53, Cond.initialized RJ15, Cond.code yJ15_checkIndex_7cf53 cJ15_checkIndex_7cf53 2 (some .int), Cond.methodLink RJ15 105 yJ3_checkIndex_8e157, Cond.static yJ3_checkIndex_8e157, Cond.initialized RJ3, Cond.code yJ3_checkIndex_8e157 cJ3_checkIndex_8e157 3 (some .int), Cond.methodLink RJx4a65c 123 yJx4a65c_elementData_915e3, Cond.instanceMethod yJx4a65c_elementData_915e3, Cond.selects RJx4a65c yJx4a65c_elementData_915e3 yJx4a65c_elementData_915e3, Cond.code yJx4a65c_elementData_915e3 cJx4a65c_elementData_915e3 2 (some (.object "java/lang/Object")), Cond.fieldLink RJx4a65c 9 "java/util/ArrayList" "elementData" "[Ljava/lang/Object;", Cond.methodLink RX6 51 yX6_isWithin, Cond.static yX6_isWithin, Cond.code yX6_isWithin cX6_isWithin 3 (some .boolean), Cond.methodLink RX6 147 yX6_miss, Cond.instanceMethod yX6_miss, Cond.selects RX6 yX6_miss yX6_miss, Cond.code yX6_miss cX6_miss 2 (some .int), Cond.fieldLink RX6 29 "Gaugerhall" "excise" "LGaugerhall$Excise;", Cond.methodLink RX6 116 yX1_chargeWhole, Cond.instanceMethod yX1_chargeWhole]
def wsX6_dip_r3 : List Cond := [Cond.selects RX1 yX1_chargeWhole yX1_chargeWhole, Cond.initialized RX1, Cond.code yX1_chargeWhole cX1_chargeWhole 3 (some .int), Cond.fieldLink RX1 27 "Gaugerhall$Excise" "owed" "I", Cond.methodLink RX1 23 yX1_dutyFor, Cond.instanceMethod yX1_dutyFor, Cond.selects RX1 yX1_dutyFor yX1_dutyFor, Cond.code yX1_dutyFor cX1_dutyFor 2 (some .int), Cond.fieldLink RX1 7 "Gaugerhall$Excise" "rate" "I", Cond.static yX6_part, Cond.code yX6_part cX6_part 3 (some .int)]
def wsX6_dip : List Cond := .code yX6_dip cX6_dip 7 (some .int) :: ((wsX6_dip_r1 ++ (wsX6_dip_r2 ++ wsX6_dip_r3)) ++ wsX50 ++ wsX60 ++ wsX20 ++ wsJx4a65c0 ++ wsX10 ++ (vx_atS RX6 59 "java/lang/IllegalArgumentException" ["java/lang/RuntimeException", "java/lang/Exception"]).filter goodWord ++ (vx_atS RX6 68 "java/lang/IllegalStateException" ["java/lang/RuntimeException", "java/lang/Exception"]).filter goodWord ++ (vx_atS RX6 48 "java/lang/IndexOutOfBoundsException" ["java/lang/RuntimeException", "java/lang/Exception"]).filter goodWord)
def wsX6_lose_r1 : List Cond := [Cond.classLink RX6 55 "java/lang/IllegalArgumentException", Cond.initialized "java/lang/IllegalArgumentException", Cond.classLink RX6 64 "java/lang/IllegalStateException", Cond.initialized "java/lang/IllegalStateException", Cond.fieldLink RX6 36 "Gaugerhall" "book" "LGaugerhall$Ledger;", Cond.methodLink RX6 80 yX6_vesselOf, Cond.instanceMethod yX6_vesselOf, Cond.selects RX6 yX6_vesselOf yX6_vesselOf, Cond.initialized RX6, Cond.code yX6_vesselOf cX6_vesselOf 2 (some (.object "Gaugerhall$Vessel")), Cond.classLink RX6 44 "java/lang/IndexOutOfBoundsException", Cond.initialized "java/lang/IndexOutOfBoundsException", Cond.fieldLink RX6 10 "Gaugerhall" "vessels" "Ljava/util/ArrayList;", Cond.classLink RX6 69 "Gaugerhall$Vessel", Cond.methodLink RX6 60 yJx4a65c_size_8abf5, Cond.instanceMethod yJx4a65c_size_8abf5, Cond.selects RJx4a65c yJx4a65c_size_8abf5 yJx4a65c_size_8abf5, Cond.initialized RJx4a65c, Cond.code yJx4a65c_size_8abf5 cJx4a65c_size_8abf5 1 (some .int), Cond.fieldLink RJx4a65c 48 "java/util/ArrayList" "size" "I", Cond.methodLink RX6 194 yJx4a65c_get_915e3, Cond.instanceMethod yJx4a65c_get_915e3, Cond.selects RJx4a65c yJx4a65c_get_915e3 yJx4a65c_get_915e3, Cond.code yJx4a65c_get_915e3 cJx4a65c_get_915e3 2 (some (.object "java/lang/Object"))]
def wsX6_lose_r2 : List Cond := [Cond.methodLink RJx4a65c 118 yJ15_checkIndex_7cf53, Cond.static yJ15_checkIndex_7cf53, Cond.initialized RJ15, Cond.code yJ15_checkIndex_7cf53 cJ15_checkIndex_7cf53 2 (some .int), Cond.methodLink RJ15 105 yJ3_checkIndex_8e157, Cond.static yJ3_checkIndex_8e157, Cond.initialized RJ3, Cond.code yJ3_checkIndex_8e157 cJ3_checkIndex_8e157 3 (some .int), Cond.methodLink RJx4a65c 123 yJx4a65c_elementData_915e3, Cond.instanceMethod yJx4a65c_elementData_915e3, Cond.selects RJx4a65c yJx4a65c_elementData_915e3 yJx4a65c_elementData_915e3, Cond.code yJx4a65c_elementData_915e3 cJx4a65c_elementData_915e3 2 (some (.object "java/lang/Object")), Cond.fieldLink RJx4a65c 9 "java/util/ArrayList" "elementData" "[Ljava/lang/Object;", Cond.methodLink RX6 125 yX5_has, Cond.instanceMethod yX5_has, Cond.selects RX5 yX5_has yX5_has, Cond.initialized RX5, Cond.code yX5_has cX5_has 2 (some .boolean), Cond.fieldLink RX5 16 "Gaugerhall$Vessel" "volume" "I", Cond.methodLink RX6 130 yX5_takeOut, Cond.instanceMethod yX5_takeOut, Cond.selects RX5 yX5_takeOut yX5_takeOut, Cond.code yX5_takeOut cX5_takeOut 3 (some .int), Cond.fieldLink RX5 19 "Gaugerhall$Vessel" "drops" "I"]
def wsX6_lose_r3 : List Cond := [Cond.methodLink RX5 28 yX5_dropsOf, Cond.instanceMethod yX5_dropsOf, Cond.selects RX5 yX5_dropsOf yX5_dropsOf, Cond.code yX5_dropsOf cX5_dropsOf 2 (some .int), Cond.static yX6_part, Cond.code yX6_part cX6_part 3 (some .int), Cond.methodLink RX6 147 yX6_miss, Cond.instanceMethod yX6_miss, Cond.selects RX6 yX6_miss yX6_miss, Cond.code yX6_miss cX6_miss 2 (some .int), Cond.fieldLink RX6 29 "Gaugerhall" "excise" "LGaugerhall$Excise;", Cond.methodLink RX6 116 yX1_chargeWhole, Cond.instanceMethod yX1_chargeWhole, Cond.selects RX1 yX1_chargeWhole yX1_chargeWhole, Cond.initialized RX1, Cond.code yX1_chargeWhole cX1_chargeWhole 3 (some .int), Cond.fieldLink RX1 27 "Gaugerhall$Excise" "owed" "I", Cond.methodLink RX1 23 yX1_dutyFor, Cond.instanceMethod yX1_dutyFor, Cond.selects RX1 yX1_dutyFor yX1_dutyFor, Cond.code yX1_dutyFor cX1_dutyFor 2 (some .int), Cond.fieldLink RX1 7 "Gaugerhall$Excise" "rate" "I"]
def wsX6_lose : List Cond := .code yX6_lose cX6_lose 6 (some .int) :: ((wsX6_lose_r1 ++ (wsX6_lose_r2 ++ wsX6_lose_r3)) ++ wsX60 ++ wsX20 ++ wsJx4a65c0 ++ wsX50 ++ wsX10 ++ (vx_atS RX6 59 "java/lang/IllegalArgumentException" ["java/lang/RuntimeException", "java/lang/Exception"]).filter goodWord ++ (vx_atS RX6 68 "java/lang/IllegalStateException" ["java/lang/RuntimeException", "java/lang/Exception"]).filter goodWord ++ (vx_atS RX6 48 "java/lang/IndexOutOfBoundsException" ["java/lang/RuntimeException", "java/lang/Exception"]).filter goodWord)
def wsX6_release_r1 : List Cond := [Cond.classLink RX6 55 "java/lang/IllegalArgumentException", Cond.initialized "java/lang/IllegalArgumentException", Cond.classLink RX6 64 "java/lang/IllegalStateException", Cond.initialized "java/lang/IllegalStateException", Cond.fieldLink RX6 19 "Gaugerhall" "lots" "Ljava/util/ArrayList;", Cond.fieldLink RX6 159 "Gaugerhall" "coming" "LGaugerhall$Budget;", Cond.fieldLink RX6 29 "Gaugerhall" "excise" "LGaugerhall$Excise;", Cond.classLink RX6 176 RX3, Cond.instantiable RX3 2, Cond.initialized RX3, Cond.methodLink RX6 80 yX6_vesselOf, Cond.instanceMethod yX6_vesselOf, Cond.selects RX6 yX6_vesselOf yX6_vesselOf, Cond.initialized RX6, Cond.code yX6_vesselOf cX6_vesselOf 2 (some (.object "Gaugerhall$Vessel")), Cond.classLink RX6 44 "java/lang/IndexOutOfBoundsException", Cond.initialized "java/lang/IndexOutOfBoundsException", Cond.fieldLink RX6 10 "Gaugerhall" "vessels" "Ljava/util/ArrayList;", Cond.classLink RX6 69 "Gaugerhall$Vessel", Cond.methodLink RX6 60 yJx4a65c_size_8abf5, Cond.instanceMethod yJx4a65c_size_8abf5, Cond.selects RJx4a65c yJx4a65c_size_8abf5 yJx4a65c_size_8abf5, Cond.initialized RJx4a65c, Cond.code yJx4a65c_size_8abf5 cJx4a65c_size_8abf5 1 (some .int)]
def wsX6_release_r2 : List Cond := [Cond.fieldLink RJx4a65c 48 "java/util/ArrayList" "size" "I", Cond.methodLink RX6 194 yJx4a65c_get_915e3, Cond.instanceMethod yJx4a65c_get_915e3, Cond.selects RJx4a65c yJx4a65c_get_915e3 yJx4a65c_get_915e3, Cond.code yJx4a65c_get_915e3 cJx4a65c_get_915e3 2 (some (.object "java/lang/Object")), Cond.methodLink RJx4a65c 118 yJ15_checkIndex_7cf53, Cond.static yJ15_checkIndex_7cf53, Cond.initialized RJ15, Cond.code yJ15_checkIndex_7cf53 cJ15_checkIndex_7cf53 2 (some .int), Cond.methodLink RJ15 105 yJ3_checkIndex_8e157, Cond.static yJ3_checkIndex_8e157, Cond.initialized RJ3, Cond.code yJ3_checkIndex_8e157 cJ3_checkIndex_8e157 3 (some .int), Cond.methodLink RJx4a65c 123 yJx4a65c_elementData_915e3, Cond.instanceMethod yJx4a65c_elementData_915e3, Cond.selects RJx4a65c yJx4a65c_elementData_915e3 yJx4a65c_elementData_915e3, Cond.code yJx4a65c_elementData_915e3 cJx4a65c_elementData_915e3 2 (some (.object "java/lang/Object")), Cond.fieldLink RJx4a65c 9 "java/util/ArrayList" "elementData" "[Ljava/lang/Object;", Cond.methodLink RX6 125 yX5_has, Cond.instanceMethod yX5_has, Cond.selects RX5 yX5_has yX5_has, Cond.initialized RX5, Cond.code yX5_has cX5_has 2 (some .boolean), Cond.fieldLink RX5 16 "Gaugerhall$Vessel" "volume" "I"]
def wsX6_release_r3 : List Cond := [Cond.methodLink RX6 163 yX5_dropsOf, Cond.instanceMethod yX5_dropsOf, Cond.selects RX5 yX5_dropsOf yX5_dropsOf, Cond.code yX5_dropsOf cX5_dropsOf 2 (some .int), Cond.fieldLink RX5 19 "Gaugerhall$Vessel" "drops" "I", Cond.static yX6_part, Cond.code yX6_part cX6_part 3 (some .int), Cond.methodLink RX6 130 yX5_takeOut, Cond.instanceMethod yX5_takeOut, Cond.selects RX5 yX5_takeOut yX5_takeOut, Cond.code yX5_takeOut cX5_takeOut 3 (some .int), Cond.methodLink RX5 28 yX5_dropsOf, Cond.methodLink RX6 173 yX1_chargeLeaving, Cond.instanceMethod yX1_chargeLeaving, Cond.selects RX1 yX1_chargeLeaving yX1_chargeLeaving, Cond.initialized RX1, Cond.code yX1_chargeLeaving cX1_chargeLeaving 4 (some .int), Cond.fieldLink RX1 14 "Gaugerhall$Excise" "leftForHalf" "I", Cond.methodLink RX1 30 Lib.Math.min.name, Cond.static Lib.Math.min.name, Cond.initialized "java/lang/Math", Cond.code Lib.Math.min.name Lib.Math.min.code 2 (some .int), Cond.fieldLink RX1 7 "Gaugerhall$Excise" "rate" "I", Cond.fieldLink RX1 27 "Gaugerhall$Excise" "owed" "I"]
def wsX6_release_r4 : List Cond := [Cond.methodLink RX1 23 yX1_dutyFor, Cond.instanceMethod yX1_dutyFor, Cond.selects RX1 yX1_dutyFor yX1_dutyFor, Cond.code yX1_dutyFor cX1_dutyFor 2 (some .int), Cond.methodLink RX6 178 yX3_init, Cond.instanceMethod yX3_init, Cond.code yX3_init cX3_init 3 none, Cond.methodLink RX3 1 objectInit, Cond.instanceMethod objectInit, Cond.code objectInit ⟨#[0xb1]⟩ 1 none, Cond.fieldLink RX3 7 "Gaugerhall$Lot" "drops" "I", Cond.fieldLink RX3 13 "Gaugerhall$Lot" "money" "I", Cond.methodLink RX6 74 yJx4a65c_add_9ea2d, Cond.instanceMethod yJx4a65c_add_9ea2d, Cond.selects RJx4a65c yJx4a65c_add_9ea2d yJx4a65c_add_9ea2d, Cond.code yJx4a65c_add_9ea2d cJx4a65c_add_9ea2d 2 (some .boolean), Cond.fieldLink RJx4a65c 63 "java/util/ArrayList" "modCount" "I", Cond.sameField "java/util/ArrayList" "java/util/AbstractList" "modCount" "I", Cond.methodLink RJx4a65c 131 yJx4a65c_add_72be8, Cond.instanceMethod yJx4a65c_add_72be8, Cond.selects RJx4a65c yJx4a65c_add_72be8 yJx4a65c_add_72be8, Cond.code yJx4a65c_add_72be8 cJx4a65c_add_72be8 4 none, Cond.methodLink RJx4a65c 129 yJx4a65c_grow_d5877, Cond.instanceMethod yJx4a65c_grow_d5877]
def wsX6_release_r5 : List Cond := [Cond.selects RJx4a65c yJx4a65c_grow_d5877 yJx4a65c_grow_d5877, Cond.code yJx4a65c_grow_d5877 cJx4a65c_grow_d5877 1 (some (.array (.object "java/lang/Object"))), Cond.methodLink RJx4a65c 69 yJx4a65c_grow_92f84, Cond.instanceMethod yJx4a65c_grow_92f84, Cond.selects RJx4a65c yJx4a65c_grow_92f84 yJx4a65c_grow_92f84, Cond.code yJx4a65c_grow_92f84 cJx4a65c_grow_92f84 4 (some (.array (.object "java/lang/Object"))), Cond.fieldLink RJx4a65c 39 "java/util/ArrayList" "DEFAULTCAPACITY_EMPTY_ELEMENTDATA" "[Ljava/lang/Object;", Cond.methodLink RJx4a65c 79 Lib.Math.max.name, Cond.static Lib.Math.max.name, Cond.code Lib.Math.max.name Lib.Math.max.code 2 (some .int), Cond.classLink RJx4a65c 7 "java/lang/Object", Cond.methodLink RJx4a65c 73 yJ8_newLength_cabcc, Cond.static yJ8_newLength_cabcc, Cond.initialized RJ8, Cond.code yJ8_newLength_cabcc cJ8_newLength_cabcc 4 (some .int), Cond.methodLink RJ8 194 Lib.Math.max.name, Cond.constant RJ8 200 (2147483639), Cond.methodLink RJ8 201 yJ8_hugeLength_7cf53, Cond.static yJ8_hugeLength_7cf53, Cond.code yJ8_hugeLength_7cf53 cJ8_hugeLength_7cf53 3 (some .int), Cond.methodLink RJx4a65c 66 yJ7_copyOf_1904c, Cond.static yJ7_copyOf_1904c, Cond.initialized RJ7, Cond.code yJ7_copyOf_1904c cJ7_copyOf_1904c 2 (some (.array (.object "java/lang/Object")))]
def wsX6_release_r6 : List Cond := [Cond.methodLink RJ7 86 ⟨"java/lang/Object", "getClass", "()Ljava/lang/Class;"⟩, Cond.selects "[Ljava/lang/Object;" ⟨"java/lang/Object", "getClass", "()Ljava/lang/Class;"⟩ ⟨"java/lang/Object", "getClass", "()Ljava/lang/Class;"⟩, Cond.instanceMethod ⟨"java/lang/Object", "getClass", "()Ljava/lang/Class;"⟩, Cond.native ⟨"java/lang/Object", "getClass", "()Ljava/lang/Class;"⟩, Cond.methodLink RJ7 300 yJ7_copyOf_6403c, Cond.static yJ7_copyOf_6403c, Cond.code yJ7_copyOf_6403c cJ7_copyOf_6403c 4 (some (.array (.object "java/lang/Object"))), Cond.classLink RJ7 110 "[Ljava/lang/Object;", Cond.classLink RJ7 2 "java/lang/Object", Cond.methodLink RJ7 304 Lib.Math.min.name, Cond.methodLink RJ7 150 arraycopyName, Cond.native arraycopyName, Cond.static arraycopyName, Cond.initialized "java/lang/System"]
def wsX6_release : List Cond := .code yX6_release cX6_release 6 (some .int) :: ((wsX6_release_r1 ++ (wsX6_release_r2 ++ (wsX6_release_r3 ++ (wsX6_release_r4 ++ (wsX6_release_r5 ++ wsX6_release_r6))))) ++ wsX60 ++ wsX00 ++ wsX30 ++ wsJx4a65c0 ++ wsX50 ++ wsX10 ++ (vx_atS RX6 59 "java/lang/IllegalArgumentException" ["java/lang/RuntimeException", "java/lang/Exception"]).filter goodWord ++ (vx_atS RX6 68 "java/lang/IllegalStateException" ["java/lang/RuntimeException", "java/lang/Exception"]).filter goodWord ++ (vx_atS RX6 48 "java/lang/IndexOutOfBoundsException" ["java/lang/RuntimeException", "java/lang/Exception"]).filter goodWord)
def wsX6_permit : List Cond := .code yX6_permit cX6_permit 3 (some .int) :: ([.classLink RX6 55 "java/lang/IllegalArgumentException", .initialized "java/lang/IllegalArgumentException", .constant RX6 179 (9999999), .fieldLink RX6 182 "Gaugerhall" "permitted" "I", .methodLink RX6 51 yX6_isWithin, .static yX6_isWithin, .initialized RX6, .code yX6_isWithin cX6_isWithin 3 (some .boolean)] ++ wsX60 ++ (vx_atS RX6 59 "java/lang/IllegalArgumentException" ["java/lang/RuntimeException", "java/lang/Exception"]).filter goodWord)
def wsX6_denature_r1 : List Cond := [Cond.classLink RX6 55 "java/lang/IllegalArgumentException", Cond.initialized "java/lang/IllegalArgumentException", Cond.classLink RX6 64 "java/lang/IllegalStateException", Cond.initialized "java/lang/IllegalStateException", Cond.fieldLink RX6 182 "Gaugerhall" "permitted" "I", Cond.fieldLink RX6 36 "Gaugerhall" "book" "LGaugerhall$Ledger;", Cond.methodLink RX6 80 yX6_vesselOf, Cond.instanceMethod yX6_vesselOf, Cond.selects RX6 yX6_vesselOf yX6_vesselOf, Cond.initialized RX6, Cond.code yX6_vesselOf cX6_vesselOf 2 (some (.object "Gaugerhall$Vessel")), Cond.classLink RX6 44 "java/lang/IndexOutOfBoundsException", Cond.initialized "java/lang/IndexOutOfBoundsException", Cond.fieldLink RX6 10 "Gaugerhall" "vessels" "Ljava/util/ArrayList;", Cond.classLink RX6 69 "Gaugerhall$Vessel", Cond.methodLink RX6 60 yJx4a65c_size_8abf5, Cond.instanceMethod yJx4a65c_size_8abf5, Cond.selects RJx4a65c yJx4a65c_size_8abf5 yJx4a65c_size_8abf5, Cond.initialized RJx4a65c, Cond.code yJx4a65c_size_8abf5 cJx4a65c_size_8abf5 1 (some .int), Cond.fieldLink RJx4a65c 48 "java/util/ArrayList" "size" "I", Cond.methodLink RX6 194 yJx4a65c_get_915e3, Cond.instanceMethod yJx4a65c_get_915e3, Cond.selects RJx4a65c yJx4a65c_get_915e3 yJx4a65c_get_915e3]
def wsX6_denature_r2 : List Cond := [Cond.code yJx4a65c_get_915e3 cJx4a65c_get_915e3 2 (some (.object "java/lang/Object")), Cond.methodLink RJx4a65c 118 yJ15_checkIndex_7cf53, Cond.static yJ15_checkIndex_7cf53, Cond.initialized RJ15, Cond.code yJ15_checkIndex_7cf53 cJ15_checkIndex_7cf53 2 (some .int), Cond.methodLink RJ15 105 yJ3_checkIndex_8e157, Cond.static yJ3_checkIndex_8e157, Cond.initialized RJ3, Cond.code yJ3_checkIndex_8e157 cJ3_checkIndex_8e157 3 (some .int), Cond.methodLink RJx4a65c 123 yJx4a65c_elementData_915e3, Cond.instanceMethod yJx4a65c_elementData_915e3, Cond.selects RJx4a65c yJx4a65c_elementData_915e3 yJx4a65c_elementData_915e3, Cond.code yJx4a65c_elementData_915e3 cJx4a65c_elementData_915e3 2 (some (.object "java/lang/Object")), Cond.fieldLink RJx4a65c 9 "java/util/ArrayList" "elementData" "[Ljava/lang/Object;", Cond.methodLink RX6 125 yX5_has, Cond.instanceMethod yX5_has, Cond.selects RX5 yX5_has yX5_has, Cond.initialized RX5, Cond.code yX5_has cX5_has 2 (some .boolean), Cond.fieldLink RX5 16 "Gaugerhall$Vessel" "volume" "I", Cond.methodLink RX6 163 yX5_dropsOf, Cond.instanceMethod yX5_dropsOf, Cond.selects RX5 yX5_dropsOf yX5_dropsOf, Cond.code yX5_dropsOf cX5_dropsOf 2 (some .int)]
def wsX6_denature_r3 : List Cond := [Cond.fieldLink RX5 19 "Gaugerhall$Vessel" "drops" "I", Cond.static yX6_part, Cond.code yX6_part cX6_part 3 (some .int), Cond.methodLink RX6 130 yX5_takeOut, Cond.instanceMethod yX5_takeOut, Cond.selects RX5 yX5_takeOut yX5_takeOut, Cond.code yX5_takeOut cX5_takeOut 3 (some .int), Cond.methodLink RX5 28 yX5_dropsOf]
def wsX6_denature : List Cond := .code yX6_denature cX6_denature 5 (some .int) :: ((wsX6_denature_r1 ++ (wsX6_denature_r2 ++ wsX6_denature_r3)) ++ wsX60 ++ wsX20 ++ wsJx4a65c0 ++ wsX50 ++ (vx_atS RX6 59 "java/lang/IllegalArgumentException" ["java/lang/RuntimeException", "java/lang/Exception"]).filter goodWord ++ (vx_atS RX6 68 "java/lang/IllegalStateException" ["java/lang/RuntimeException", "java/lang/Exception"]).filter goodWord ++ (vx_atS RX6 48 "java/lang/IndexOutOfBoundsException" ["java/lang/RuntimeException", "java/lang/Exception"]).filter goodWord)
def wsX6_dropsInLots_r1 : List Cond := [Cond.fieldLink RX6 19 "Gaugerhall" "lots" "Ljava/util/ArrayList;", Cond.classLink RX6 176 "Gaugerhall$Lot", Cond.methodLink RX6 60 yJx4a65c_size_8abf5, Cond.instanceMethod yJx4a65c_size_8abf5, Cond.selects RJx4a65c yJx4a65c_size_8abf5 yJx4a65c_size_8abf5, Cond.initialized RJx4a65c, Cond.code yJx4a65c_size_8abf5 cJx4a65c_size_8abf5 1 (some .int), Cond.fieldLink RJx4a65c 48 "java/util/ArrayList" "size" "I", Cond.methodLink RX6 194 yJx4a65c_get_915e3, Cond.instanceMethod yJx4a65c_get_915e3, Cond.selects RJx4a65c yJx4a65c_get_915e3 yJx4a65c_get_915e3, Cond.code yJx4a65c_get_915e3 cJx4a65c_get_915e3 2 (some (.object "java/lang/Object")), Cond.methodLink RJx4a65c 118 yJ15_checkIndex_7cf53, Cond.static yJ15_checkIndex_7cf53, Cond.initialized RJ15, Cond.code yJ15_checkIndex_7cf53 cJ15_checkIndex_7cf53 2 (some .int), Cond.methodLink RJ15 105 yJ3_checkIndex_8e157, Cond.static yJ3_checkIndex_8e157, Cond.initialized RJ3, Cond.code yJ3_checkIndex_8e157 cJ3_checkIndex_8e157 3 (some .int), Cond.methodLink RJx4a65c 123 yJx4a65c_elementData_915e3, Cond.instanceMethod yJx4a65c_elementData_915e3, Cond.selects RJx4a65c yJx4a65c_elementData_915e3 yJx4a65c_elementData_915e3, Cond.code yJx4a65c_elementData_915e3 cJx4a65c_elementData_915e3 2 (some (.object "java/lang/Object"))]
def wsX6_dropsInLots_r2 : List Cond := [Cond.fieldLink RJx4a65c 9 "java/util/ArrayList" "elementData" "[Ljava/lang/Object;"]
def wsX6_dropsInLots : List Cond := .code yX6_dropsInLots cX6_dropsInLots 3 (some .int) :: ((wsX6_dropsInLots_r1 ++ wsX6_dropsInLots_r2) ++ wsX60 ++ wsX30 ++ wsJx4a65c0)
def wsX6_export_r1 : List Cond := [Cond.classLink RX6 55 "java/lang/IllegalArgumentException", Cond.initialized "java/lang/IllegalArgumentException", Cond.classLink RX6 64 "java/lang/IllegalStateException", Cond.initialized "java/lang/IllegalStateException", Cond.fieldLink RX6 19 "Gaugerhall" "lots" "Ljava/util/ArrayList;", Cond.classLink RX6 176 "Gaugerhall$Lot", Cond.methodLink RX6 199 Lib.Math.min.name, Cond.static Lib.Math.min.name, Cond.initialized "java/lang/Math", Cond.code Lib.Math.min.name Lib.Math.min.code 2 (some .int), Cond.fieldLink RX6 29 "Gaugerhall" "excise" "LGaugerhall$Excise;", Cond.fieldLink RX6 36 "Gaugerhall" "book" "LGaugerhall$Ledger;", Cond.methodLink RX6 189 yX6_dropsInLots, Cond.instanceMethod yX6_dropsInLots, Cond.selects RX6 yX6_dropsInLots yX6_dropsInLots, Cond.initialized RX6, Cond.code yX6_dropsInLots cX6_dropsInLots 3 (some .int), Cond.methodLink RX6 60 yJx4a65c_size_8abf5, Cond.instanceMethod yJx4a65c_size_8abf5, Cond.selects RJx4a65c yJx4a65c_size_8abf5 yJx4a65c_size_8abf5, Cond.initialized RJx4a65c, Cond.code yJx4a65c_size_8abf5 cJx4a65c_size_8abf5 1 (some .int), Cond.fieldLink RJx4a65c 48 "java/util/ArrayList" "size" "I", Cond.methodLink RX6 194 yJx4a65c_get_915e3]
def wsX6_export_r2 : List Cond := [Cond.instanceMethod yJx4a65c_get_915e3, Cond.selects RJx4a65c yJx4a65c_get_915e3 yJx4a65c_get_915e3, Cond.code yJx4a65c_get_915e3 cJx4a65c_get_915e3 2 (some (.object "java/lang/Object")), Cond.methodLink RJx4a65c 118 yJ15_checkIndex_7cf53, Cond.static yJ15_checkIndex_7cf53, Cond.initialized RJ15, Cond.code yJ15_checkIndex_7cf53 cJ15_checkIndex_7cf53 2 (some .int), Cond.methodLink RJ15 105 yJ3_checkIndex_8e157, Cond.static yJ3_checkIndex_8e157, Cond.initialized RJ3, Cond.code yJ3_checkIndex_8e157 cJ3_checkIndex_8e157 3 (some .int), Cond.methodLink RJx4a65c 123 yJx4a65c_elementData_915e3, Cond.instanceMethod yJx4a65c_elementData_915e3, Cond.selects RJx4a65c yJx4a65c_elementData_915e3 yJx4a65c_elementData_915e3, Cond.code yJx4a65c_elementData_915e3 cJx4a65c_elementData_915e3 2 (some (.object "java/lang/Object")), Cond.fieldLink RJx4a65c 9 "java/util/ArrayList" "elementData" "[Ljava/lang/Object;", Cond.methodLink RX6 202 yX3_drawBack, Cond.instanceMethod yX3_drawBack, Cond.selects RX3 yX3_drawBack yX3_drawBack, Cond.initialized RX3, Cond.code yX3_drawBack cX3_drawBack 3 (some .int), Cond.fieldLink RX3 13 "Gaugerhall$Lot" "money" "I", Cond.fieldLink RX3 7 "Gaugerhall$Lot" "drops" "I", Cond.static yX6_part]
def wsX6_export_r3 : List Cond := [Cond.code yX6_part cX6_part 3 (some .int)]
def wsX6_export : List Cond := .code yX6_export cX6_export 7 (some .int) :: ((wsX6_export_r1 ++ (wsX6_export_r2 ++ wsX6_export_r3)) ++ wsX60 ++ wsX30 ++ wsX10 ++ wsX20 ++ wsJx4a65c0 ++ (vx_atS RX6 59 "java/lang/IllegalArgumentException" ["java/lang/RuntimeException", "java/lang/Exception"]).filter goodWord ++ (vx_atS RX6 68 "java/lang/IllegalStateException" ["java/lang/RuntimeException", "java/lang/Exception"]).filter goodWord)
def wsX6_pay : List Cond := .code yX6_pay cX6_pay 2 (some .int) :: ([.classLink RX6 55 "java/lang/IllegalArgumentException", .initialized "java/lang/IllegalArgumentException", .classLink RX6 64 "java/lang/IllegalStateException", .initialized "java/lang/IllegalStateException", .constant RX6 211 (999999), .fieldLink RX6 29 "Gaugerhall" "excise" "LGaugerhall$Excise;", .methodLink RX6 51 yX6_isWithin, .static yX6_isWithin, .initialized RX6, .code yX6_isWithin cX6_isWithin 3 (some .boolean)] ++ wsX60 ++ wsX10 ++ (vx_atS RX6 59 "java/lang/IllegalArgumentException" ["java/lang/RuntimeException", "java/lang/Exception"]).filter goodWord ++ (vx_atS RX6 68 "java/lang/IllegalStateException" ["java/lang/RuntimeException", "java/lang/Exception"]).filter goodWord)
def wsX6_budget : List Cond := .code yX6_budget cX6_budget 4 none :: ([.classLink RX6 55 "java/lang/IllegalArgumentException", .initialized "java/lang/IllegalArgumentException", .classLink RX6 64 "java/lang/IllegalStateException", .initialized "java/lang/IllegalStateException", .fieldLink RX6 216 "Gaugerhall" "today" "I", .constant RX6 179 (9999999), .fieldLink RX6 159 "Gaugerhall" "coming" "LGaugerhall$Budget;", .classLink RX6 167 RX0, .instantiable RX0 3, .initialized RX0, .methodLink RX6 51 yX6_isWithin, .static yX6_isWithin, .initialized RX6, .code yX6_isWithin cX6_isWithin 3 (some .boolean), .methodLink RX6 225 yX0_init, .instanceMethod yX0_init, .code yX0_init cX0_init 4 none, .methodLink RX0 1 objectInit, .instanceMethod objectInit, .code objectInit ⟨#[0xb1]⟩ 1 none, .fieldLink RX0 7 "Gaugerhall$Budget" "day" "I", .fieldLink RX0 13 "Gaugerhall$Budget" "rate" "I", .fieldLink RX0 16 "Gaugerhall$Budget" "quota" "I"] ++ wsX60 ++ wsX00 ++ (vx_atS RX6 59 "java/lang/IllegalArgumentException" ["java/lang/RuntimeException", "java/lang/Exception"]).filter goodWord ++ (vx_atS RX6 68 "java/lang/IllegalStateException" ["java/lang/RuntimeException", "java/lang/Exception"]).filter goodWord)
def wsX6_dropsThatMove_r1 : List Cond := [Cond.fieldLink RX6 16 "Gaugerhall" "movements" "Ljava/util/ArrayList;", Cond.classLink RX6 245 "Gaugerhall$Movement", Cond.methodLink RX6 60 yJx4a65c_size_8abf5, Cond.instanceMethod yJx4a65c_size_8abf5, Cond.selects RJx4a65c yJx4a65c_size_8abf5 yJx4a65c_size_8abf5, Cond.initialized RJx4a65c, Cond.code yJx4a65c_size_8abf5 cJx4a65c_size_8abf5 1 (some .int), Cond.fieldLink RJx4a65c 48 "java/util/ArrayList" "size" "I", Cond.methodLink RX6 194 yJx4a65c_get_915e3, Cond.instanceMethod yJx4a65c_get_915e3, Cond.selects RJx4a65c yJx4a65c_get_915e3 yJx4a65c_get_915e3, Cond.code yJx4a65c_get_915e3 cJx4a65c_get_915e3 2 (some (.object "java/lang/Object")), Cond.methodLink RJx4a65c 118 yJ15_checkIndex_7cf53, Cond.static yJ15_checkIndex_7cf53, Cond.initialized RJ15, Cond.code yJ15_checkIndex_7cf53 cJ15_checkIndex_7cf53 2 (some .int), Cond.methodLink RJ15 105 yJ3_checkIndex_8e157, Cond.static yJ3_checkIndex_8e157, Cond.initialized RJ3, Cond.code yJ3_checkIndex_8e157 cJ3_checkIndex_8e157 3 (some .int), Cond.methodLink RJx4a65c 123 yJx4a65c_elementData_915e3, Cond.instanceMethod yJx4a65c_elementData_915e3, Cond.selects RJx4a65c yJx4a65c_elementData_915e3 yJx4a65c_elementData_915e3, Cond.code yJx4a65c_elementData_915e3 cJx4a65c_elementData_915e3 2 (some (.object "java/lang/Object"))]
def wsX6_dropsThatMove_r2 : List Cond := [Cond.fieldLink RJx4a65c 9 "java/util/ArrayList" "elementData" "[Ljava/lang/Object;"]
def wsX6_dropsThatMove : List Cond := .code yX6_dropsThatMove cX6_dropsThatMove 4 (some .int) :: ((wsX6_dropsThatMove_r1 ++ wsX6_dropsThatMove_r2) ++ wsX60 ++ wsX40 ++ wsJx4a65c0)
def wsX6_guarantee_r1 : List Cond := [Cond.classLink RX6 55 "java/lang/IllegalArgumentException", Cond.initialized "java/lang/IllegalArgumentException", Cond.classLink RX6 64 "java/lang/IllegalStateException", Cond.initialized "java/lang/IllegalStateException", Cond.constant RX6 179 (9999999), Cond.fieldLink RX6 29 "Gaugerhall" "excise" "LGaugerhall$Excise;", Cond.fieldLink RX6 236 "Gaugerhall" "guaranteed" "I", Cond.methodLink RX6 51 yX6_isWithin, Cond.static yX6_isWithin, Cond.initialized RX6, Cond.code yX6_isWithin cX6_isWithin 3 (some .boolean), Cond.methodLink RX6 228 yX6_dropsThatMove, Cond.instanceMethod yX6_dropsThatMove, Cond.selects RX6 yX6_dropsThatMove yX6_dropsThatMove, Cond.code yX6_dropsThatMove cX6_dropsThatMove 4 (some .int), Cond.fieldLink RX6 16 "Gaugerhall" "movements" "Ljava/util/ArrayList;", Cond.classLink RX6 245 "Gaugerhall$Movement", Cond.methodLink RX6 60 yJx4a65c_size_8abf5, Cond.instanceMethod yJx4a65c_size_8abf5, Cond.selects RJx4a65c yJx4a65c_size_8abf5 yJx4a65c_size_8abf5, Cond.initialized RJx4a65c, Cond.code yJx4a65c_size_8abf5 cJx4a65c_size_8abf5 1 (some .int), Cond.fieldLink RJx4a65c 48 "java/util/ArrayList" "size" "I", Cond.methodLink RX6 194 yJx4a65c_get_915e3]
def wsX6_guarantee_r2 : List Cond := [Cond.instanceMethod yJx4a65c_get_915e3, Cond.selects RJx4a65c yJx4a65c_get_915e3 yJx4a65c_get_915e3, Cond.code yJx4a65c_get_915e3 cJx4a65c_get_915e3 2 (some (.object "java/lang/Object")), Cond.methodLink RJx4a65c 118 yJ15_checkIndex_7cf53, Cond.static yJ15_checkIndex_7cf53, Cond.initialized RJ15, Cond.code yJ15_checkIndex_7cf53 cJ15_checkIndex_7cf53 2 (some .int), Cond.methodLink RJ15 105 yJ3_checkIndex_8e157, Cond.static yJ3_checkIndex_8e157, Cond.initialized RJ3, Cond.code yJ3_checkIndex_8e157 cJ3_checkIndex_8e157 3 (some .int), Cond.methodLink RJx4a65c 123 yJx4a65c_elementData_915e3, Cond.instanceMethod yJx4a65c_elementData_915e3, Cond.selects RJx4a65c yJx4a65c_elementData_915e3 yJx4a65c_elementData_915e3, Cond.code yJx4a65c_elementData_915e3 cJx4a65c_elementData_915e3 2 (some (.object "java/lang/Object")), Cond.fieldLink RJx4a65c 9 "java/util/ArrayList" "elementData" "[Ljava/lang/Object;", Cond.methodLink RX6 231 yX1_dutyFor, Cond.instanceMethod yX1_dutyFor, Cond.selects RX1 yX1_dutyFor yX1_dutyFor, Cond.initialized RX1, Cond.code yX1_dutyFor cX1_dutyFor 2 (some .int), Cond.fieldLink RX1 7 "Gaugerhall$Excise" "rate" "I", Cond.static yX6_part, Cond.code yX6_part cX6_part 3 (some .int)]
def wsX6_guarantee : List Cond := .code yX6_guarantee cX6_guarantee 3 (some .int) :: ((wsX6_guarantee_r1 ++ wsX6_guarantee_r2) ++ wsX60 ++ wsX40 ++ wsJx4a65c0 ++ wsX10 ++ (vx_atS RX6 59 "java/lang/IllegalArgumentException" ["java/lang/RuntimeException", "java/lang/Exception"]).filter goodWord ++ (vx_atS RX6 68 "java/lang/IllegalStateException" ["java/lang/RuntimeException", "java/lang/Exception"]).filter goodWord)
def wsX6_ship_r1 : List Cond := [Cond.classLink RX6 55 "java/lang/IllegalArgumentException", Cond.initialized "java/lang/IllegalArgumentException", Cond.classLink RX6 64 "java/lang/IllegalStateException", Cond.initialized "java/lang/IllegalStateException", Cond.fieldLink RX6 16 "Gaugerhall" "movements" "Ljava/util/ArrayList;", Cond.fieldLink RX6 236 "Gaugerhall" "guaranteed" "I", Cond.fieldLink RX6 29 "Gaugerhall" "excise" "LGaugerhall$Excise;", Cond.classLink RX6 245 RX4, Cond.instantiable RX4 5, Cond.initialized RX4, Cond.fieldLink RX6 216 "Gaugerhall" "today" "I", Cond.methodLink RX6 80 yX6_vesselOf, Cond.instanceMethod yX6_vesselOf, Cond.selects RX6 yX6_vesselOf yX6_vesselOf, Cond.initialized RX6, Cond.code yX6_vesselOf cX6_vesselOf 2 (some (.object "Gaugerhall$Vessel")), Cond.classLink RX6 44 "java/lang/IndexOutOfBoundsException", Cond.initialized "java/lang/IndexOutOfBoundsException", Cond.fieldLink RX6 10 "Gaugerhall" "vessels" "Ljava/util/ArrayList;", Cond.classLink RX6 69 "Gaugerhall$Vessel", Cond.methodLink RX6 60 yJx4a65c_size_8abf5, Cond.instanceMethod yJx4a65c_size_8abf5, Cond.selects RJx4a65c yJx4a65c_size_8abf5 yJx4a65c_size_8abf5, Cond.initialized RJx4a65c]
def wsX6_ship_r2 : List Cond := [Cond.code yJx4a65c_size_8abf5 cJx4a65c_size_8abf5 1 (some .int), Cond.fieldLink RJx4a65c 48 "java/util/ArrayList" "size" "I", Cond.methodLink RX6 194 yJx4a65c_get_915e3, Cond.instanceMethod yJx4a65c_get_915e3, Cond.selects RJx4a65c yJx4a65c_get_915e3 yJx4a65c_get_915e3, Cond.code yJx4a65c_get_915e3 cJx4a65c_get_915e3 2 (some (.object "java/lang/Object")), Cond.methodLink RJx4a65c 118 yJ15_checkIndex_7cf53, Cond.static yJ15_checkIndex_7cf53, Cond.initialized RJ15, Cond.code yJ15_checkIndex_7cf53 cJ15_checkIndex_7cf53 2 (some .int), Cond.methodLink RJ15 105 yJ3_checkIndex_8e157, Cond.static yJ3_checkIndex_8e157, Cond.initialized RJ3, Cond.code yJ3_checkIndex_8e157 cJ3_checkIndex_8e157 3 (some .int), Cond.methodLink RJx4a65c 123 yJx4a65c_elementData_915e3, Cond.instanceMethod yJx4a65c_elementData_915e3, Cond.selects RJx4a65c yJx4a65c_elementData_915e3 yJx4a65c_elementData_915e3, Cond.code yJx4a65c_elementData_915e3 cJx4a65c_elementData_915e3 2 (some (.object "java/lang/Object")), Cond.fieldLink RJx4a65c 9 "java/util/ArrayList" "elementData" "[Ljava/lang/Object;", Cond.methodLink RX6 51 yX6_isWithin, Cond.static yX6_isWithin, Cond.code yX6_isWithin cX6_isWithin 3 (some .boolean), Cond.methodLink RX6 125 yX5_has, Cond.instanceMethod yX5_has]
def wsX6_ship_r3 : List Cond := [Cond.selects RX5 yX5_has yX5_has, Cond.initialized RX5, Cond.code yX5_has cX5_has 2 (some .boolean), Cond.fieldLink RX5 16 "Gaugerhall$Vessel" "volume" "I", Cond.methodLink RX6 228 yX6_dropsThatMove, Cond.instanceMethod yX6_dropsThatMove, Cond.selects RX6 yX6_dropsThatMove yX6_dropsThatMove, Cond.code yX6_dropsThatMove cX6_dropsThatMove 4 (some .int), Cond.classLink RX6 245 "Gaugerhall$Movement", Cond.methodLink RX6 163 yX5_dropsOf, Cond.instanceMethod yX5_dropsOf, Cond.selects RX5 yX5_dropsOf yX5_dropsOf, Cond.code yX5_dropsOf cX5_dropsOf 2 (some .int), Cond.fieldLink RX5 19 "Gaugerhall$Vessel" "drops" "I", Cond.static yX6_part, Cond.code yX6_part cX6_part 3 (some .int), Cond.methodLink RX6 231 yX1_dutyFor, Cond.instanceMethod yX1_dutyFor, Cond.selects RX1 yX1_dutyFor yX1_dutyFor, Cond.initialized RX1, Cond.code yX1_dutyFor cX1_dutyFor 2 (some .int), Cond.fieldLink RX1 7 "Gaugerhall$Excise" "rate" "I", Cond.methodLink RX6 130 yX5_takeOut, Cond.instanceMethod yX5_takeOut]
def wsX6_ship_r4 : List Cond := [Cond.selects RX5 yX5_takeOut yX5_takeOut, Cond.code yX5_takeOut cX5_takeOut 3 (some .int), Cond.methodLink RX5 28 yX5_dropsOf, Cond.methodLink RX6 247 yX4_init, Cond.instanceMethod yX4_init, Cond.code yX4_init cX4_init 5 none, Cond.methodLink RX4 3 objectInit, Cond.instanceMethod objectInit, Cond.code objectInit ⟨#[0xb1]⟩ 1 none, Cond.fieldLink RX4 9 "Gaugerhall$Movement" "state" "I", Cond.fieldLink RX4 15 "Gaugerhall$Movement" "to" "LGaugerhall$Vessel;", Cond.fieldLink RX4 19 "Gaugerhall$Movement" "volume" "I", Cond.fieldLink RX4 22 "Gaugerhall$Movement" "drops" "I", Cond.fieldLink RX4 25 "Gaugerhall$Movement" "lastDay" "I", Cond.methodLink RX6 74 yJx4a65c_add_9ea2d, Cond.instanceMethod yJx4a65c_add_9ea2d, Cond.selects RJx4a65c yJx4a65c_add_9ea2d yJx4a65c_add_9ea2d, Cond.code yJx4a65c_add_9ea2d cJx4a65c_add_9ea2d 2 (some .boolean), Cond.fieldLink RJx4a65c 63 "java/util/ArrayList" "modCount" "I", Cond.sameField "java/util/ArrayList" "java/util/AbstractList" "modCount" "I", Cond.methodLink RJx4a65c 131 yJx4a65c_add_72be8, Cond.instanceMethod yJx4a65c_add_72be8, Cond.selects RJx4a65c yJx4a65c_add_72be8 yJx4a65c_add_72be8, Cond.code yJx4a65c_add_72be8 cJx4a65c_add_72be8 4 none]
def wsX6_ship_r5 : List Cond := [Cond.methodLink RJx4a65c 129 yJx4a65c_grow_d5877, Cond.instanceMethod yJx4a65c_grow_d5877, Cond.selects RJx4a65c yJx4a65c_grow_d5877 yJx4a65c_grow_d5877, Cond.code yJx4a65c_grow_d5877 cJx4a65c_grow_d5877 1 (some (.array (.object "java/lang/Object"))), Cond.methodLink RJx4a65c 69 yJx4a65c_grow_92f84, Cond.instanceMethod yJx4a65c_grow_92f84, Cond.selects RJx4a65c yJx4a65c_grow_92f84 yJx4a65c_grow_92f84, Cond.code yJx4a65c_grow_92f84 cJx4a65c_grow_92f84 4 (some (.array (.object "java/lang/Object"))), Cond.fieldLink RJx4a65c 39 "java/util/ArrayList" "DEFAULTCAPACITY_EMPTY_ELEMENTDATA" "[Ljava/lang/Object;", Cond.methodLink RJx4a65c 79 Lib.Math.max.name, Cond.static Lib.Math.max.name, Cond.initialized "java/lang/Math", Cond.code Lib.Math.max.name Lib.Math.max.code 2 (some .int), Cond.classLink RJx4a65c 7 "java/lang/Object", Cond.methodLink RJx4a65c 73 yJ8_newLength_cabcc, Cond.static yJ8_newLength_cabcc, Cond.initialized RJ8, Cond.code yJ8_newLength_cabcc cJ8_newLength_cabcc 4 (some .int), Cond.methodLink RJ8 194 Lib.Math.max.name, Cond.constant RJ8 200 (2147483639), Cond.methodLink RJ8 201 yJ8_hugeLength_7cf53, Cond.static yJ8_hugeLength_7cf53, Cond.code yJ8_hugeLength_7cf53 cJ8_hugeLength_7cf53 3 (some .int), Cond.methodLink RJx4a65c 66 yJ7_copyOf_1904c]
def wsX6_ship_r6 : List Cond := [Cond.static yJ7_copyOf_1904c, Cond.initialized RJ7, Cond.code yJ7_copyOf_1904c cJ7_copyOf_1904c 2 (some (.array (.object "java/lang/Object"))), Cond.methodLink RJ7 86 ⟨"java/lang/Object", "getClass", "()Ljava/lang/Class;"⟩, Cond.selects "[Ljava/lang/Object;" ⟨"java/lang/Object", "getClass", "()Ljava/lang/Class;"⟩ ⟨"java/lang/Object", "getClass", "()Ljava/lang/Class;"⟩, Cond.instanceMethod ⟨"java/lang/Object", "getClass", "()Ljava/lang/Class;"⟩, Cond.native ⟨"java/lang/Object", "getClass", "()Ljava/lang/Class;"⟩, Cond.methodLink RJ7 300 yJ7_copyOf_6403c, Cond.static yJ7_copyOf_6403c, Cond.code yJ7_copyOf_6403c cJ7_copyOf_6403c 4 (some (.array (.object "java/lang/Object"))), Cond.classLink RJ7 110 "[Ljava/lang/Object;", Cond.classLink RJ7 2 "java/lang/Object", Cond.methodLink RJ7 304 Lib.Math.min.name, Cond.static Lib.Math.min.name, Cond.code Lib.Math.min.name Lib.Math.min.code 2 (some .int), Cond.methodLink RJ7 150 arraycopyName, Cond.native arraycopyName, Cond.static arraycopyName, Cond.initialized "java/lang/System"]
def wsX6_ship : List Cond := .code yX6_ship cX6_ship 7 (some .int) :: ((wsX6_ship_r1 ++ (wsX6_ship_r2 ++ (wsX6_ship_r3 ++ (wsX6_ship_r4 ++ (wsX6_ship_r5 ++ wsX6_ship_r6))))) ++ wsX50 ++ wsX60 ++ wsX40 ++ wsJx4a65c0 ++ wsX10 ++ (vx_atS RX6 59 "java/lang/IllegalArgumentException" ["java/lang/RuntimeException", "java/lang/Exception"]).filter goodWord ++ (vx_atS RX6 68 "java/lang/IllegalStateException" ["java/lang/RuntimeException", "java/lang/Exception"]).filter goodWord ++ (vx_atS RX6 48 "java/lang/IndexOutOfBoundsException" ["java/lang/RuntimeException", "java/lang/Exception"]).filter goodWord)
def wsX6_movementOf_r1 : List Cond := [Cond.classLink RX6 44 "java/lang/IndexOutOfBoundsException", Cond.initialized "java/lang/IndexOutOfBoundsException", Cond.fieldLink RX6 16 "Gaugerhall" "movements" "Ljava/util/ArrayList;", Cond.classLink RX6 245 "Gaugerhall$Movement", Cond.methodLink RX6 60 yJx4a65c_size_8abf5, Cond.instanceMethod yJx4a65c_size_8abf5, Cond.selects RJx4a65c yJx4a65c_size_8abf5 yJx4a65c_size_8abf5, Cond.initialized RJx4a65c, Cond.code yJx4a65c_size_8abf5 cJx4a65c_size_8abf5 1 (some .int), Cond.fieldLink RJx4a65c 48 "java/util/ArrayList" "size" "I", Cond.methodLink RX6 194 yJx4a65c_get_915e3, Cond.instanceMethod yJx4a65c_get_915e3, Cond.selects RJx4a65c yJx4a65c_get_915e3 yJx4a65c_get_915e3, Cond.code yJx4a65c_get_915e3 cJx4a65c_get_915e3 2 (some (.object "java/lang/Object")), Cond.methodLink RJx4a65c 118 yJ15_checkIndex_7cf53, Cond.static yJ15_checkIndex_7cf53, Cond.initialized RJ15, Cond.code yJ15_checkIndex_7cf53 cJ15_checkIndex_7cf53 2 (some .int), Cond.methodLink RJ15 105 yJ3_checkIndex_8e157, Cond.static yJ3_checkIndex_8e157, Cond.initialized RJ3, Cond.code yJ3_checkIndex_8e157 cJ3_checkIndex_8e157 3 (some .int), Cond.methodLink RJx4a65c 123 yJx4a65c_elementData_915e3, Cond.instanceMethod yJx4a65c_elementData_915e3]
def wsX6_movementOf_r2 : List Cond := [Cond.selects RJx4a65c yJx4a65c_elementData_915e3 yJx4a65c_elementData_915e3, Cond.code yJx4a65c_elementData_915e3 cJx4a65c_elementData_915e3 2 (some (.object "java/lang/Object")), Cond.fieldLink RJx4a65c 9 "java/util/ArrayList" "elementData" "[Ljava/lang/Object;"]
def wsX6_movementOf : List Cond := .code yX6_movementOf cX6_movementOf 2 (some (.object "Gaugerhall$Movement")) :: ((wsX6_movementOf_r1 ++ wsX6_movementOf_r2) ++ wsX60 ++ wsJx4a65c0 ++ (vx_atS RX6 48 "java/lang/IndexOutOfBoundsException" ["java/lang/RuntimeException", "java/lang/Exception"]).filter goodWord)
def wsX6_arrive_r1 : List Cond := [Cond.classLink RX6 55 "java/lang/IllegalArgumentException", Cond.initialized "java/lang/IllegalArgumentException", Cond.classLink RX6 64 "java/lang/IllegalStateException", Cond.initialized "java/lang/IllegalStateException", Cond.fieldLink RX6 36 "Gaugerhall" "book" "LGaugerhall$Ledger;", Cond.methodLink RX6 250 yX6_movementOf, Cond.instanceMethod yX6_movementOf, Cond.selects RX6 yX6_movementOf yX6_movementOf, Cond.initialized RX6, Cond.code yX6_movementOf cX6_movementOf 2 (some (.object "Gaugerhall$Movement")), Cond.classLink RX6 44 "java/lang/IndexOutOfBoundsException", Cond.initialized "java/lang/IndexOutOfBoundsException", Cond.fieldLink RX6 16 "Gaugerhall" "movements" "Ljava/util/ArrayList;", Cond.classLink RX6 245 "Gaugerhall$Movement", Cond.methodLink RX6 60 yJx4a65c_size_8abf5, Cond.instanceMethod yJx4a65c_size_8abf5, Cond.selects RJx4a65c yJx4a65c_size_8abf5 yJx4a65c_size_8abf5, Cond.initialized RJx4a65c, Cond.code yJx4a65c_size_8abf5 cJx4a65c_size_8abf5 1 (some .int), Cond.fieldLink RJx4a65c 48 "java/util/ArrayList" "size" "I", Cond.methodLink RX6 194 yJx4a65c_get_915e3, Cond.instanceMethod yJx4a65c_get_915e3, Cond.selects RJx4a65c yJx4a65c_get_915e3 yJx4a65c_get_915e3, Cond.code yJx4a65c_get_915e3 cJx4a65c_get_915e3 2 (some (.object "java/lang/Object"))]
def wsX6_arrive_r2 : List Cond := [Cond.methodLink RJx4a65c 118 yJ15_checkIndex_7cf53, Cond.static yJ15_checkIndex_7cf53, Cond.initialized RJ15, Cond.code yJ15_checkIndex_7cf53 cJ15_checkIndex_7cf53 2 (some .int), Cond.methodLink RJ15 105 yJ3_checkIndex_8e157, Cond.static yJ3_checkIndex_8e157, Cond.initialized RJ3, Cond.code yJ3_checkIndex_8e157 cJ3_checkIndex_8e157 3 (some .int), Cond.methodLink RJx4a65c 123 yJx4a65c_elementData_915e3, Cond.instanceMethod yJx4a65c_elementData_915e3, Cond.selects RJx4a65c yJx4a65c_elementData_915e3 yJx4a65c_elementData_915e3, Cond.code yJx4a65c_elementData_915e3 cJx4a65c_elementData_915e3 2 (some (.object "java/lang/Object")), Cond.fieldLink RJx4a65c 9 "java/util/ArrayList" "elementData" "[Ljava/lang/Object;", Cond.methodLink RX6 51 yX6_isWithin, Cond.static yX6_isWithin, Cond.code yX6_isWithin cX6_isWithin 3 (some .boolean), Cond.methodLink RX6 88 yX5_hasRoomFor, Cond.instanceMethod yX5_hasRoomFor, Cond.selects RX5 yX5_hasRoomFor yX5_hasRoomFor, Cond.initialized RX5, Cond.code yX5_hasRoomFor cX5_hasRoomFor 2 (some .boolean), Cond.fieldLink RX5 13 "Gaugerhall$Vessel" "capacity" "I", Cond.fieldLink RX5 16 "Gaugerhall$Vessel" "volume" "I", Cond.methodLink RX6 103 yX6_part]
def wsX6_arrive_r3 : List Cond := [Cond.static yX6_part, Cond.code yX6_part cX6_part 3 (some .int), Cond.methodLink RX6 97 yX5_comeIn, Cond.instanceMethod yX5_comeIn, Cond.selects RX5 yX5_comeIn yX5_comeIn, Cond.code yX5_comeIn cX5_comeIn 5 none, Cond.fieldLink RX5 19 "Gaugerhall$Vessel" "drops" "I", Cond.methodLink RX5 32 Lib.Math.abs.name, Cond.static Lib.Math.abs.name, Cond.initialized "java/lang/Math", Cond.code Lib.Math.abs.name Lib.Math.abs.code 1 (some .int), Cond.methodLink RX5 37 Lib.Math.min.name, Cond.static Lib.Math.min.name, Cond.code Lib.Math.min.name Lib.Math.min.code 2 (some .int), Cond.methodLink RX6 147 yX6_miss, Cond.instanceMethod yX6_miss, Cond.selects RX6 yX6_miss yX6_miss, Cond.code yX6_miss cX6_miss 2 (some .int), Cond.fieldLink RX6 29 "Gaugerhall" "excise" "LGaugerhall$Excise;", Cond.methodLink RX6 116 yX1_chargeWhole, Cond.instanceMethod yX1_chargeWhole, Cond.selects RX1 yX1_chargeWhole yX1_chargeWhole, Cond.initialized RX1, Cond.code yX1_chargeWhole cX1_chargeWhole 3 (some .int)]
def wsX6_arrive_r4 : List Cond := [Cond.fieldLink RX1 27 "Gaugerhall$Excise" "owed" "I", Cond.methodLink RX1 23 yX1_dutyFor, Cond.instanceMethod yX1_dutyFor, Cond.selects RX1 yX1_dutyFor yX1_dutyFor, Cond.code yX1_dutyFor cX1_dutyFor 2 (some .int), Cond.fieldLink RX1 7 "Gaugerhall$Excise" "rate" "I"]
def wsX6_arrive : List Cond := .code yX6_arrive cX6_arrive 6 (some .int) :: ((wsX6_arrive_r1 ++ (wsX6_arrive_r2 ++ (wsX6_arrive_r3 ++ wsX6_arrive_r4))) ++ wsX40 ++ wsX60 ++ wsX20 ++ wsJx4a65c0 ++ wsX50 ++ wsX10 ++ (vx_atS RX6 59 "java/lang/IllegalArgumentException" ["java/lang/RuntimeException", "java/lang/Exception"]).filter goodWord ++ (vx_atS RX6 68 "java/lang/IllegalStateException" ["java/lang/RuntimeException", "java/lang/Exception"]).filter goodWord ++ (vx_atS RX6 48 "java/lang/IndexOutOfBoundsException" ["java/lang/RuntimeException", "java/lang/Exception"]).filter goodWord)
def wsX6_loseLateMovements_r1 : List Cond := [Cond.fieldLink RX6 16 "Gaugerhall" "movements" "Ljava/util/ArrayList;", Cond.classLink RX6 245 "Gaugerhall$Movement", Cond.fieldLink RX6 216 "Gaugerhall" "today" "I", Cond.methodLink RX6 60 yJx4a65c_size_8abf5, Cond.instanceMethod yJx4a65c_size_8abf5, Cond.selects RJx4a65c yJx4a65c_size_8abf5 yJx4a65c_size_8abf5, Cond.initialized RJx4a65c, Cond.code yJx4a65c_size_8abf5 cJx4a65c_size_8abf5 1 (some .int), Cond.fieldLink RJx4a65c 48 "java/util/ArrayList" "size" "I", Cond.methodLink RX6 194 yJx4a65c_get_915e3, Cond.instanceMethod yJx4a65c_get_915e3, Cond.selects RJx4a65c yJx4a65c_get_915e3 yJx4a65c_get_915e3, Cond.code yJx4a65c_get_915e3 cJx4a65c_get_915e3 2 (some (.object "java/lang/Object")), Cond.methodLink RJx4a65c 118 yJ15_checkIndex_7cf53, Cond.static yJ15_checkIndex_7cf53, Cond.initialized RJ15, Cond.code yJ15_checkIndex_7cf53 cJ15_checkIndex_7cf53 2 (some .int), Cond.methodLink RJ15 105 yJ3_checkIndex_8e157, Cond.static yJ3_checkIndex_8e157, Cond.initialized RJ3, Cond.code yJ3_checkIndex_8e157 cJ3_checkIndex_8e157 3 (some .int), Cond.methodLink RJx4a65c 123 yJx4a65c_elementData_915e3, Cond.instanceMethod yJx4a65c_elementData_915e3, Cond.selects RJx4a65c yJx4a65c_elementData_915e3 yJx4a65c_elementData_915e3]
def wsX6_loseLateMovements_r2 : List Cond := [Cond.code yJx4a65c_elementData_915e3 cJx4a65c_elementData_915e3 2 (some (.object "java/lang/Object")), Cond.fieldLink RJx4a65c 9 "java/util/ArrayList" "elementData" "[Ljava/lang/Object;", Cond.methodLink RX6 147 yX6_miss, Cond.instanceMethod yX6_miss, Cond.selects RX6 yX6_miss yX6_miss, Cond.initialized RX6, Cond.code yX6_miss cX6_miss 2 (some .int), Cond.fieldLink RX6 36 "Gaugerhall" "book" "LGaugerhall$Ledger;", Cond.fieldLink RX6 29 "Gaugerhall" "excise" "LGaugerhall$Excise;", Cond.methodLink RX6 116 yX1_chargeWhole, Cond.instanceMethod yX1_chargeWhole, Cond.selects RX1 yX1_chargeWhole yX1_chargeWhole, Cond.initialized RX1, Cond.code yX1_chargeWhole cX1_chargeWhole 3 (some .int), Cond.fieldLink RX1 27 "Gaugerhall$Excise" "owed" "I", Cond.methodLink RX1 23 yX1_dutyFor, Cond.instanceMethod yX1_dutyFor, Cond.selects RX1 yX1_dutyFor yX1_dutyFor, Cond.code yX1_dutyFor cX1_dutyFor 2 (some .int), Cond.fieldLink RX1 7 "Gaugerhall$Excise" "rate" "I", Cond.static yX6_part, Cond.code yX6_part cX6_part 3 (some .int)]
def wsX6_loseLateMovements : List Cond := .code yX6_loseLateMovements cX6_loseLateMovements 3 none :: ((wsX6_loseLateMovements_r1 ++ wsX6_loseLateMovements_r2) ++ wsX60 ++ wsX40 ++ wsJx4a65c0 ++ wsX20 ++ wsX10)
def wsX6_takeShares_r1 : List Cond := [Cond.fieldLink RX6 10 "Gaugerhall" "vessels" "Ljava/util/ArrayList;", Cond.classLink RX6 69 "Gaugerhall$Vessel", Cond.fieldLink RX6 36 "Gaugerhall" "book" "LGaugerhall$Ledger;", Cond.fieldLink RX6 22 "Gaugerhall" "shareRates" "[I", Cond.methodLink RX6 60 yJx4a65c_size_8abf5, Cond.instanceMethod yJx4a65c_size_8abf5, Cond.selects RJx4a65c yJx4a65c_size_8abf5 yJx4a65c_size_8abf5, Cond.initialized RJx4a65c, Cond.code yJx4a65c_size_8abf5 cJx4a65c_size_8abf5 1 (some .int), Cond.fieldLink RJx4a65c 48 "java/util/ArrayList" "size" "I", Cond.methodLink RX6 194 yJx4a65c_get_915e3, Cond.instanceMethod yJx4a65c_get_915e3, Cond.selects RJx4a65c yJx4a65c_get_915e3 yJx4a65c_get_915e3, Cond.code yJx4a65c_get_915e3 cJx4a65c_get_915e3 2 (some (.object "java/lang/Object")), Cond.methodLink RJx4a65c 118 yJ15_checkIndex_7cf53, Cond.static yJ15_checkIndex_7cf53, Cond.initialized RJ15, Cond.code yJ15_checkIndex_7cf53 cJ15_checkIndex_7cf53 2 (some .int), Cond.methodLink RJ15 105 yJ3_checkIndex_8e157, Cond.static yJ3_checkIndex_8e157, Cond.initialized RJ3, Cond.code yJ3_checkIndex_8e157 cJ3_checkIndex_8e157 3 (some .int), Cond.methodLink RJx4a65c 123 yJx4a65c_elementData_915e3, Cond.instanceMethod yJx4a65c_elementData_915e3]
def wsX6_takeShares_r2 : List Cond := [Cond.selects RJx4a65c yJx4a65c_elementData_915e3 yJx4a65c_elementData_915e3, Cond.code yJx4a65c_elementData_915e3 cJx4a65c_elementData_915e3 2 (some (.object "java/lang/Object")), Cond.fieldLink RJx4a65c 9 "java/util/ArrayList" "elementData" "[Ljava/lang/Object;", Cond.methodLink RX6 40 yX6_isPlace, Cond.instanceMethod yX6_isPlace, Cond.selects RX6 yX6_isPlace yX6_isPlace, Cond.initialized RX6, Cond.code yX6_isPlace cX6_isPlace 2 (some .boolean), Cond.methodLink RX6 311 yX5_takeShare, Cond.instanceMethod yX5_takeShare, Cond.selects RX5 yX5_takeShare yX5_takeShare, Cond.initialized RX5, Cond.code yX5_takeShare cX5_takeShare 3 (some .int), Cond.fieldLink RX5 19 "Gaugerhall$Vessel" "drops" "I", Cond.constant RX5 41 (100000), Cond.fieldLink RX5 16 "Gaugerhall$Vessel" "volume" "I", Cond.static yX6_part, Cond.code yX6_part cX6_part 3 (some .int)]
def wsX6_takeShares : List Cond := .code yX6_takeShares cX6_takeShares 3 none :: ((wsX6_takeShares_r1 ++ wsX6_takeShares_r2) ++ wsX60 ++ wsX50 ++ wsX20 ++ wsJx4a65c0)
def wsX6_beginDay_r1 : List Cond := [Cond.fieldLink RX6 216 "Gaugerhall" "today" "I", Cond.fieldLink RX6 29 "Gaugerhall" "excise" "LGaugerhall$Excise;", Cond.fieldLink RX6 159 "Gaugerhall" "coming" "LGaugerhall$Budget;", Cond.methodLink RX6 295 yX1_beginYear, Cond.instanceMethod yX1_beginYear, Cond.selects RX1 yX1_beginYear yX1_beginYear, Cond.initialized RX1, Cond.code yX1_beginYear cX1_beginYear 1 none, Cond.constant RX1 13 (1000000), Cond.fieldLink RX1 14 "Gaugerhall$Excise" "leftForHalf" "I", Cond.methodLink RX6 302 yX6_loseLateMovements, Cond.instanceMethod yX6_loseLateMovements, Cond.selects RX6 yX6_loseLateMovements yX6_loseLateMovements, Cond.initialized RX6, Cond.code yX6_loseLateMovements cX6_loseLateMovements 3 none, Cond.fieldLink RX6 16 "Gaugerhall" "movements" "Ljava/util/ArrayList;", Cond.classLink RX6 245 "Gaugerhall$Movement", Cond.methodLink RX6 60 yJx4a65c_size_8abf5, Cond.instanceMethod yJx4a65c_size_8abf5, Cond.selects RJx4a65c yJx4a65c_size_8abf5 yJx4a65c_size_8abf5, Cond.initialized RJx4a65c, Cond.code yJx4a65c_size_8abf5 cJx4a65c_size_8abf5 1 (some .int), Cond.fieldLink RJx4a65c 48 "java/util/ArrayList" "size" "I", Cond.methodLink RX6 194 yJx4a65c_get_915e3]
def wsX6_beginDay_r2 : List Cond := [Cond.instanceMethod yJx4a65c_get_915e3, Cond.selects RJx4a65c yJx4a65c_get_915e3 yJx4a65c_get_915e3, Cond.code yJx4a65c_get_915e3 cJx4a65c_get_915e3 2 (some (.object "java/lang/Object")), Cond.methodLink RJx4a65c 118 yJ15_checkIndex_7cf53, Cond.static yJ15_checkIndex_7cf53, Cond.initialized RJ15, Cond.code yJ15_checkIndex_7cf53 cJ15_checkIndex_7cf53 2 (some .int), Cond.methodLink RJ15 105 yJ3_checkIndex_8e157, Cond.static yJ3_checkIndex_8e157, Cond.initialized RJ3, Cond.code yJ3_checkIndex_8e157 cJ3_checkIndex_8e157 3 (some .int), Cond.methodLink RJx4a65c 123 yJx4a65c_elementData_915e3, Cond.instanceMethod yJx4a65c_elementData_915e3, Cond.selects RJx4a65c yJx4a65c_elementData_915e3 yJx4a65c_elementData_915e3, Cond.code yJx4a65c_elementData_915e3 cJx4a65c_elementData_915e3 2 (some (.object "java/lang/Object")), Cond.fieldLink RJx4a65c 9 "java/util/ArrayList" "elementData" "[Ljava/lang/Object;", Cond.methodLink RX6 147 yX6_miss, Cond.instanceMethod yX6_miss, Cond.selects RX6 yX6_miss yX6_miss, Cond.code yX6_miss cX6_miss 2 (some .int), Cond.fieldLink RX6 36 "Gaugerhall" "book" "LGaugerhall$Ledger;", Cond.methodLink RX6 116 yX1_chargeWhole, Cond.instanceMethod yX1_chargeWhole, Cond.selects RX1 yX1_chargeWhole yX1_chargeWhole]
def wsX6_beginDay_r3 : List Cond := [Cond.code yX1_chargeWhole cX1_chargeWhole 3 (some .int), Cond.fieldLink RX1 27 "Gaugerhall$Excise" "owed" "I", Cond.methodLink RX1 23 yX1_dutyFor, Cond.instanceMethod yX1_dutyFor, Cond.selects RX1 yX1_dutyFor yX1_dutyFor, Cond.code yX1_dutyFor cX1_dutyFor 2 (some .int), Cond.fieldLink RX1 7 "Gaugerhall$Excise" "rate" "I", Cond.static yX6_part, Cond.code yX6_part cX6_part 3 (some .int), Cond.methodLink RX6 305 yX6_takeShares, Cond.instanceMethod yX6_takeShares, Cond.selects RX6 yX6_takeShares yX6_takeShares, Cond.code yX6_takeShares cX6_takeShares 3 none, Cond.fieldLink RX6 10 "Gaugerhall" "vessels" "Ljava/util/ArrayList;", Cond.classLink RX6 69 "Gaugerhall$Vessel", Cond.fieldLink RX6 22 "Gaugerhall" "shareRates" "[I", Cond.methodLink RX6 40 yX6_isPlace, Cond.instanceMethod yX6_isPlace, Cond.selects RX6 yX6_isPlace yX6_isPlace, Cond.code yX6_isPlace cX6_isPlace 2 (some .boolean), Cond.methodLink RX6 311 yX5_takeShare, Cond.instanceMethod yX5_takeShare, Cond.selects RX5 yX5_takeShare yX5_takeShare, Cond.initialized RX5]
def wsX6_beginDay_r4 : List Cond := [Cond.code yX5_takeShare cX5_takeShare 3 (some .int), Cond.fieldLink RX5 19 "Gaugerhall$Vessel" "drops" "I", Cond.constant RX5 41 (100000), Cond.fieldLink RX5 16 "Gaugerhall$Vessel" "volume" "I", Cond.methodLink RX6 308 yX1_growOwed, Cond.instanceMethod yX1_growOwed, Cond.selects RX1 yX1_growOwed yX1_growOwed, Cond.code yX1_growOwed cX1_growOwed 1 none]
def wsX6_beginDay : List Cond := .code yX6_beginDay cX6_beginDay 1 none :: ((wsX6_beginDay_r1 ++ (wsX6_beginDay_r2 ++ (wsX6_beginDay_r3 ++ wsX6_beginDay_r4))) ++ wsX60 ++ wsX00 ++ wsX10 ++ wsX40 ++ wsJx4a65c0 ++ wsX20 ++ wsX50)
def wsX6_pass_r1 : List Cond := [Cond.classLink RX6 55 "java/lang/IllegalArgumentException", Cond.initialized "java/lang/IllegalArgumentException", Cond.classLink RX6 64 "java/lang/IllegalStateException", Cond.initialized "java/lang/IllegalStateException", Cond.fieldLink RX6 216 "Gaugerhall" "today" "I", Cond.fieldLink RX6 29 "Gaugerhall" "excise" "LGaugerhall$Excise;", Cond.methodLink RX6 51 yX6_isWithin, Cond.static yX6_isWithin, Cond.initialized RX6, Cond.code yX6_isWithin cX6_isWithin 3 (some .boolean), Cond.methodLink RX6 271 yX6_beginDay, Cond.instanceMethod yX6_beginDay, Cond.selects RX6 yX6_beginDay yX6_beginDay, Cond.code yX6_beginDay cX6_beginDay 1 none, Cond.fieldLink RX6 159 "Gaugerhall" "coming" "LGaugerhall$Budget;", Cond.methodLink RX6 295 yX1_beginYear, Cond.instanceMethod yX1_beginYear, Cond.selects RX1 yX1_beginYear yX1_beginYear, Cond.initialized RX1, Cond.code yX1_beginYear cX1_beginYear 1 none, Cond.constant RX1 13 (1000000), Cond.fieldLink RX1 14 "Gaugerhall$Excise" "leftForHalf" "I", Cond.methodLink RX6 302 yX6_loseLateMovements, Cond.instanceMethod yX6_loseLateMovements]
def wsX6_pass_r2 : List Cond := [Cond.selects RX6 yX6_loseLateMovements yX6_loseLateMovements, Cond.code yX6_loseLateMovements cX6_loseLateMovements 3 none, Cond.fieldLink RX6 16 "Gaugerhall" "movements" "Ljava/util/ArrayList;", Cond.classLink RX6 245 "Gaugerhall$Movement", Cond.methodLink RX6 60 yJx4a65c_size_8abf5, Cond.instanceMethod yJx4a65c_size_8abf5, Cond.selects RJx4a65c yJx4a65c_size_8abf5 yJx4a65c_size_8abf5, Cond.initialized RJx4a65c, Cond.code yJx4a65c_size_8abf5 cJx4a65c_size_8abf5 1 (some .int), Cond.fieldLink RJx4a65c 48 "java/util/ArrayList" "size" "I", Cond.methodLink RX6 194 yJx4a65c_get_915e3, Cond.instanceMethod yJx4a65c_get_915e3, Cond.selects RJx4a65c yJx4a65c_get_915e3 yJx4a65c_get_915e3, Cond.code yJx4a65c_get_915e3 cJx4a65c_get_915e3 2 (some (.object "java/lang/Object")), Cond.methodLink RJx4a65c 118 yJ15_checkIndex_7cf53, Cond.static yJ15_checkIndex_7cf53, Cond.initialized RJ15, Cond.code yJ15_checkIndex_7cf53 cJ15_checkIndex_7cf53 2 (some .int), Cond.methodLink RJ15 105 yJ3_checkIndex_8e157, Cond.static yJ3_checkIndex_8e157, Cond.initialized RJ3, Cond.code yJ3_checkIndex_8e157 cJ3_checkIndex_8e157 3 (some .int), Cond.methodLink RJx4a65c 123 yJx4a65c_elementData_915e3, Cond.instanceMethod yJx4a65c_elementData_915e3]
def wsX6_pass_r3 : List Cond := [Cond.selects RJx4a65c yJx4a65c_elementData_915e3 yJx4a65c_elementData_915e3, Cond.code yJx4a65c_elementData_915e3 cJx4a65c_elementData_915e3 2 (some (.object "java/lang/Object")), Cond.fieldLink RJx4a65c 9 "java/util/ArrayList" "elementData" "[Ljava/lang/Object;", Cond.methodLink RX6 147 yX6_miss, Cond.instanceMethod yX6_miss, Cond.selects RX6 yX6_miss yX6_miss, Cond.code yX6_miss cX6_miss 2 (some .int), Cond.fieldLink RX6 36 "Gaugerhall" "book" "LGaugerhall$Ledger;", Cond.methodLink RX6 116 yX1_chargeWhole, Cond.instanceMethod yX1_chargeWhole, Cond.selects RX1 yX1_chargeWhole yX1_chargeWhole, Cond.code yX1_chargeWhole cX1_chargeWhole 3 (some .int), Cond.fieldLink RX1 27 "Gaugerhall$Excise" "owed" "I", Cond.methodLink RX1 23 yX1_dutyFor, Cond.instanceMethod yX1_dutyFor, Cond.selects RX1 yX1_dutyFor yX1_dutyFor, Cond.code yX1_dutyFor cX1_dutyFor 2 (some .int), Cond.fieldLink RX1 7 "Gaugerhall$Excise" "rate" "I", Cond.static yX6_part, Cond.code yX6_part cX6_part 3 (some .int), Cond.methodLink RX6 305 yX6_takeShares, Cond.instanceMethod yX6_takeShares, Cond.selects RX6 yX6_takeShares yX6_takeShares, Cond.code yX6_takeShares cX6_takeShares 3 none]
def wsX6_pass_r4 : List Cond := [Cond.fieldLink RX6 10 "Gaugerhall" "vessels" "Ljava/util/ArrayList;", Cond.classLink RX6 69 "Gaugerhall$Vessel", Cond.fieldLink RX6 22 "Gaugerhall" "shareRates" "[I", Cond.methodLink RX6 40 yX6_isPlace, Cond.instanceMethod yX6_isPlace, Cond.selects RX6 yX6_isPlace yX6_isPlace, Cond.code yX6_isPlace cX6_isPlace 2 (some .boolean), Cond.methodLink RX6 311 yX5_takeShare, Cond.instanceMethod yX5_takeShare, Cond.selects RX5 yX5_takeShare yX5_takeShare, Cond.initialized RX5, Cond.code yX5_takeShare cX5_takeShare 3 (some .int), Cond.fieldLink RX5 19 "Gaugerhall$Vessel" "drops" "I", Cond.constant RX5 41 (100000), Cond.fieldLink RX5 16 "Gaugerhall$Vessel" "volume" "I", Cond.methodLink RX6 308 yX1_growOwed, Cond.instanceMethod yX1_growOwed, Cond.selects RX1 yX1_growOwed yX1_growOwed, Cond.code yX1_growOwed cX1_growOwed 1 none]
def wsX6_pass : List Cond := .code yX6_pass cX6_pass 3 (some .int) :: ((wsX6_pass_r1 ++ (wsX6_pass_r2 ++ (wsX6_pass_r3 ++ wsX6_pass_r4))) ++ wsX60 ++ wsX10 ++ wsX00 ++ wsX40 ++ wsJx4a65c0 ++ wsX20 ++ wsX50 ++ (vx_atS RX6 59 "java/lang/IllegalArgumentException" ["java/lang/RuntimeException", "java/lang/Exception"]).filter goodWord ++ (vx_atS RX6 68 "java/lang/IllegalStateException" ["java/lang/RuntimeException", "java/lang/Exception"]).filter goodWord)
def wsX6_day : List Cond := .code yX6_day cX6_day 1 (some .int) :: ([.fieldLink RX6 216 "Gaugerhall" "today" "I"] ++ wsX60)
def wsX6_ofVessel_r1 : List Cond := [Cond.classLink RX6 44 "java/lang/IndexOutOfBoundsException", Cond.initialized "java/lang/IndexOutOfBoundsException", Cond.methodLink RX6 80 yX6_vesselOf, Cond.instanceMethod yX6_vesselOf, Cond.selects RX6 yX6_vesselOf yX6_vesselOf, Cond.initialized RX6, Cond.code yX6_vesselOf cX6_vesselOf 2 (some (.object "Gaugerhall$Vessel")), Cond.fieldLink RX6 10 "Gaugerhall" "vessels" "Ljava/util/ArrayList;", Cond.classLink RX6 69 "Gaugerhall$Vessel", Cond.methodLink RX6 60 yJx4a65c_size_8abf5, Cond.instanceMethod yJx4a65c_size_8abf5, Cond.selects RJx4a65c yJx4a65c_size_8abf5 yJx4a65c_size_8abf5, Cond.initialized RJx4a65c, Cond.code yJx4a65c_size_8abf5 cJx4a65c_size_8abf5 1 (some .int), Cond.fieldLink RJx4a65c 48 "java/util/ArrayList" "size" "I", Cond.methodLink RX6 194 yJx4a65c_get_915e3, Cond.instanceMethod yJx4a65c_get_915e3, Cond.selects RJx4a65c yJx4a65c_get_915e3 yJx4a65c_get_915e3, Cond.code yJx4a65c_get_915e3 cJx4a65c_get_915e3 2 (some (.object "java/lang/Object")), Cond.methodLink RJx4a65c 118 yJ15_checkIndex_7cf53, Cond.static yJ15_checkIndex_7cf53, Cond.initialized RJ15, Cond.code yJ15_checkIndex_7cf53 cJ15_checkIndex_7cf53 2 (some .int), Cond.methodLink RJ15 105 yJ3_checkIndex_8e157]
def wsX6_ofVessel_r2 : List Cond := [Cond.static yJ3_checkIndex_8e157, Cond.initialized RJ3, Cond.code yJ3_checkIndex_8e157 cJ3_checkIndex_8e157 3 (some .int), Cond.methodLink RJx4a65c 123 yJx4a65c_elementData_915e3, Cond.instanceMethod yJx4a65c_elementData_915e3, Cond.selects RJx4a65c yJx4a65c_elementData_915e3 yJx4a65c_elementData_915e3, Cond.code yJx4a65c_elementData_915e3 cJx4a65c_elementData_915e3 2 (some (.object "java/lang/Object")), Cond.fieldLink RJx4a65c 9 "java/util/ArrayList" "elementData" "[Ljava/lang/Object;", Cond.methodLink RX6 103 yX6_part, Cond.static yX6_part, Cond.code yX6_part cX6_part 3 (some .int)]
def wsX6_ofVessel : List Cond := .code yX6_ofVessel cX6_ofVessel 4 (some .int) :: ((wsX6_ofVessel_r1 ++ wsX6_ofVessel_r2) ++ wsX50 ++ wsX60 ++ wsJx4a65c0 ++ (vx_atS RX6 48 "java/lang/IndexOutOfBoundsException" ["java/lang/RuntimeException", "java/lang/Exception"]).filter goodWord)
def wsX6_dropsAnew_r1 : List Cond := [Cond.methodLink RX6 80 yX6_vesselOf, Cond.instanceMethod yX6_vesselOf, Cond.selects RX6 yX6_vesselOf yX6_vesselOf, Cond.initialized RX6, Cond.code yX6_vesselOf cX6_vesselOf 2 (some (.object "Gaugerhall$Vessel")), Cond.classLink RX6 44 "java/lang/IndexOutOfBoundsException", Cond.initialized "java/lang/IndexOutOfBoundsException", Cond.fieldLink RX6 10 "Gaugerhall" "vessels" "Ljava/util/ArrayList;", Cond.classLink RX6 69 "Gaugerhall$Vessel", Cond.methodLink RX6 60 yJx4a65c_size_8abf5, Cond.instanceMethod yJx4a65c_size_8abf5, Cond.selects RJx4a65c yJx4a65c_size_8abf5 yJx4a65c_size_8abf5, Cond.initialized RJx4a65c, Cond.code yJx4a65c_size_8abf5 cJx4a65c_size_8abf5 1 (some .int), Cond.fieldLink RJx4a65c 48 "java/util/ArrayList" "size" "I", Cond.methodLink RX6 194 yJx4a65c_get_915e3, Cond.instanceMethod yJx4a65c_get_915e3, Cond.selects RJx4a65c yJx4a65c_get_915e3 yJx4a65c_get_915e3, Cond.code yJx4a65c_get_915e3 cJx4a65c_get_915e3 2 (some (.object "java/lang/Object")), Cond.methodLink RJx4a65c 118 yJ15_checkIndex_7cf53, Cond.static yJ15_checkIndex_7cf53, Cond.initialized RJ15, Cond.code yJ15_checkIndex_7cf53 cJ15_checkIndex_7cf53 2 (some .int), Cond.methodLink RJ15 105 yJ3_checkIndex_8e157]
def wsX6_dropsAnew_r2 : List Cond := [Cond.static yJ3_checkIndex_8e157, Cond.initialized RJ3, Cond.code yJ3_checkIndex_8e157 cJ3_checkIndex_8e157 3 (some .int), Cond.methodLink RJx4a65c 123 yJx4a65c_elementData_915e3, Cond.instanceMethod yJx4a65c_elementData_915e3, Cond.selects RJx4a65c yJx4a65c_elementData_915e3 yJx4a65c_elementData_915e3, Cond.code yJx4a65c_elementData_915e3 cJx4a65c_elementData_915e3 2 (some (.object "java/lang/Object")), Cond.fieldLink RJx4a65c 9 "java/util/ArrayList" "elementData" "[Ljava/lang/Object;"]
def wsX6_dropsAnew : List Cond := .code yX6_dropsAnew cX6_dropsAnew 2 (some .int) :: ((wsX6_dropsAnew_r1 ++ wsX6_dropsAnew_r2) ++ wsX50 ++ wsX60 ++ wsJx4a65c0 ++ (vx_atS RX6 48 "java/lang/IndexOutOfBoundsException" ["java/lang/RuntimeException", "java/lang/Exception"]).filter goodWord)
def wsX6_ofMovement_r1 : List Cond := [Cond.classLink RX6 44 "java/lang/IndexOutOfBoundsException", Cond.initialized "java/lang/IndexOutOfBoundsException", Cond.methodLink RX6 250 yX6_movementOf, Cond.instanceMethod yX6_movementOf, Cond.selects RX6 yX6_movementOf yX6_movementOf, Cond.initialized RX6, Cond.code yX6_movementOf cX6_movementOf 2 (some (.object "Gaugerhall$Movement")), Cond.fieldLink RX6 16 "Gaugerhall" "movements" "Ljava/util/ArrayList;", Cond.classLink RX6 245 "Gaugerhall$Movement", Cond.methodLink RX6 60 yJx4a65c_size_8abf5, Cond.instanceMethod yJx4a65c_size_8abf5, Cond.selects RJx4a65c yJx4a65c_size_8abf5 yJx4a65c_size_8abf5, Cond.initialized RJx4a65c, Cond.code yJx4a65c_size_8abf5 cJx4a65c_size_8abf5 1 (some .int), Cond.fieldLink RJx4a65c 48 "java/util/ArrayList" "size" "I", Cond.methodLink RX6 194 yJx4a65c_get_915e3, Cond.instanceMethod yJx4a65c_get_915e3, Cond.selects RJx4a65c yJx4a65c_get_915e3 yJx4a65c_get_915e3, Cond.code yJx4a65c_get_915e3 cJx4a65c_get_915e3 2 (some (.object "java/lang/Object")), Cond.methodLink RJx4a65c 118 yJ15_checkIndex_7cf53, Cond.static yJ15_checkIndex_7cf53, Cond.initialized RJ15, Cond.code yJ15_checkIndex_7cf53 cJ15_checkIndex_7cf53 2 (some .int), Cond.methodLink RJ15 105 yJ3_checkIndex_8e157]
def wsX6_ofMovement_r2 : List Cond := [Cond.static yJ3_checkIndex_8e157, Cond.initialized RJ3, Cond.code yJ3_checkIndex_8e157 cJ3_checkIndex_8e157 3 (some .int), Cond.methodLink RJx4a65c 123 yJx4a65c_elementData_915e3, Cond.instanceMethod yJx4a65c_elementData_915e3, Cond.selects RJx4a65c yJx4a65c_elementData_915e3 yJx4a65c_elementData_915e3, Cond.code yJx4a65c_elementData_915e3 cJx4a65c_elementData_915e3 2 (some (.object "java/lang/Object")), Cond.fieldLink RJx4a65c 9 "java/util/ArrayList" "elementData" "[Ljava/lang/Object;"]
def wsX6_ofMovement : List Cond := .code yX6_ofMovement cX6_ofMovement 4 (some .int) :: ((wsX6_ofMovement_r1 ++ wsX6_ofMovement_r2) ++ wsX40 ++ wsX60 ++ wsJx4a65c0 ++ (vx_atS RX6 48 "java/lang/IndexOutOfBoundsException" ["java/lang/RuntimeException", "java/lang/Exception"]).filter goodWord)
def wsX6_dropsInVessels_r1 : List Cond := [Cond.fieldLink RX6 10 "Gaugerhall" "vessels" "Ljava/util/ArrayList;", Cond.classLink RX6 69 "Gaugerhall$Vessel", Cond.methodLink RX6 60 yJx4a65c_size_8abf5, Cond.instanceMethod yJx4a65c_size_8abf5, Cond.selects RJx4a65c yJx4a65c_size_8abf5 yJx4a65c_size_8abf5, Cond.initialized RJx4a65c, Cond.code yJx4a65c_size_8abf5 cJx4a65c_size_8abf5 1 (some .int), Cond.fieldLink RJx4a65c 48 "java/util/ArrayList" "size" "I", Cond.methodLink RX6 194 yJx4a65c_get_915e3, Cond.instanceMethod yJx4a65c_get_915e3, Cond.selects RJx4a65c yJx4a65c_get_915e3 yJx4a65c_get_915e3, Cond.code yJx4a65c_get_915e3 cJx4a65c_get_915e3 2 (some (.object "java/lang/Object")), Cond.methodLink RJx4a65c 118 yJ15_checkIndex_7cf53, Cond.static yJ15_checkIndex_7cf53, Cond.initialized RJ15, Cond.code yJ15_checkIndex_7cf53 cJ15_checkIndex_7cf53 2 (some .int), Cond.methodLink RJ15 105 yJ3_checkIndex_8e157, Cond.static yJ3_checkIndex_8e157, Cond.initialized RJ3, Cond.code yJ3_checkIndex_8e157 cJ3_checkIndex_8e157 3 (some .int), Cond.methodLink RJx4a65c 123 yJx4a65c_elementData_915e3, Cond.instanceMethod yJx4a65c_elementData_915e3, Cond.selects RJx4a65c yJx4a65c_elementData_915e3 yJx4a65c_elementData_915e3, Cond.code yJx4a65c_elementData_915e3 cJx4a65c_elementData_915e3 2 (some (.object "java/lang/Object"))]
def wsX6_dropsInVessels_r2 : List Cond := [Cond.fieldLink RJx4a65c 9 "java/util/ArrayList" "elementData" "[Ljava/lang/Object;"]
def wsX6_dropsInVessels : List Cond := .code yX6_dropsInVessels cX6_dropsInVessels 3 (some .int) :: ((wsX6_dropsInVessels_r1 ++ wsX6_dropsInVessels_r2) ++ wsX60 ++ wsX50 ++ wsJx4a65c0)
def wsX6_ledger_r1 : List Cond := [Cond.classLink RX6 55 "java/lang/IllegalArgumentException", Cond.initialized "java/lang/IllegalArgumentException", Cond.fieldLink RX6 36 "Gaugerhall" "book" "LGaugerhall$Ledger;", Cond.methodLink RX6 279 yX6_dropsInVessels, Cond.instanceMethod yX6_dropsInVessels, Cond.selects RX6 yX6_dropsInVessels yX6_dropsInVessels, Cond.initialized RX6, Cond.code yX6_dropsInVessels cX6_dropsInVessels 3 (some .int), Cond.fieldLink RX6 10 "Gaugerhall" "vessels" "Ljava/util/ArrayList;", Cond.classLink RX6 69 "Gaugerhall$Vessel", Cond.methodLink RX6 60 yJx4a65c_size_8abf5, Cond.instanceMethod yJx4a65c_size_8abf5, Cond.selects RJx4a65c yJx4a65c_size_8abf5 yJx4a65c_size_8abf5, Cond.initialized RJx4a65c, Cond.code yJx4a65c_size_8abf5 cJx4a65c_size_8abf5 1 (some .int), Cond.fieldLink RJx4a65c 48 "java/util/ArrayList" "size" "I", Cond.methodLink RX6 194 yJx4a65c_get_915e3, Cond.instanceMethod yJx4a65c_get_915e3, Cond.selects RJx4a65c yJx4a65c_get_915e3 yJx4a65c_get_915e3, Cond.code yJx4a65c_get_915e3 cJx4a65c_get_915e3 2 (some (.object "java/lang/Object")), Cond.methodLink RJx4a65c 118 yJ15_checkIndex_7cf53, Cond.static yJ15_checkIndex_7cf53, Cond.initialized RJ15, Cond.code yJ15_checkIndex_7cf53 cJ15_checkIndex_7cf53 2 (some .int)]
def wsX6_ledger_r2 : List Cond := [Cond.methodLink RJ15 105 yJ3_checkIndex_8e157, Cond.static yJ3_checkIndex_8e157, Cond.initialized RJ3, Cond.code yJ3_checkIndex_8e157 cJ3_checkIndex_8e157 3 (some .int), Cond.methodLink RJx4a65c 123 yJx4a65c_elementData_915e3, Cond.instanceMethod yJx4a65c_elementData_915e3, Cond.selects RJx4a65c yJx4a65c_elementData_915e3 yJx4a65c_elementData_915e3, Cond.code yJx4a65c_elementData_915e3 cJx4a65c_elementData_915e3 2 (some (.object "java/lang/Object")), Cond.fieldLink RJx4a65c 9 "java/util/ArrayList" "elementData" "[Ljava/lang/Object;", Cond.methodLink RX6 228 yX6_dropsThatMove, Cond.instanceMethod yX6_dropsThatMove, Cond.selects RX6 yX6_dropsThatMove yX6_dropsThatMove, Cond.code yX6_dropsThatMove cX6_dropsThatMove 4 (some .int), Cond.fieldLink RX6 16 "Gaugerhall" "movements" "Ljava/util/ArrayList;", Cond.classLink RX6 245 "Gaugerhall$Movement", Cond.methodLink RX6 189 yX6_dropsInLots, Cond.instanceMethod yX6_dropsInLots, Cond.selects RX6 yX6_dropsInLots yX6_dropsInLots, Cond.code yX6_dropsInLots cX6_dropsInLots 3 (some .int), Cond.fieldLink RX6 19 "Gaugerhall" "lots" "Ljava/util/ArrayList;", Cond.classLink RX6 176 "Gaugerhall$Lot"]
def wsX6_ledger : List Cond := .code yX6_ledger cX6_ledger 2 (some .int) :: ((wsX6_ledger_r1 ++ wsX6_ledger_r2) ++ wsX60 ++ wsX20 ++ wsX50 ++ wsJx4a65c0 ++ wsX40 ++ wsX30 ++ (vx_atS RX6 59 "java/lang/IllegalArgumentException" ["java/lang/RuntimeException", "java/lang/Exception"]).filter goodWord)
def wsX6_duty_r1 : List Cond := [Cond.classLink RX6 55 "java/lang/IllegalArgumentException", Cond.initialized "java/lang/IllegalArgumentException", Cond.fieldLink RX6 29 "Gaugerhall" "excise" "LGaugerhall$Excise;", Cond.fieldLink RX6 159 "Gaugerhall" "coming" "LGaugerhall$Budget;", Cond.fieldLink RX6 182 "Gaugerhall" "permitted" "I", Cond.fieldLink RX6 236 "Gaugerhall" "guaranteed" "I", Cond.methodLink RX6 228 yX6_dropsThatMove, Cond.instanceMethod yX6_dropsThatMove, Cond.selects RX6 yX6_dropsThatMove yX6_dropsThatMove, Cond.initialized RX6, Cond.code yX6_dropsThatMove cX6_dropsThatMove 4 (some .int), Cond.fieldLink RX6 16 "Gaugerhall" "movements" "Ljava/util/ArrayList;", Cond.classLink RX6 245 "Gaugerhall$Movement", Cond.methodLink RX6 60 yJx4a65c_size_8abf5, Cond.instanceMethod yJx4a65c_size_8abf5, Cond.selects RJx4a65c yJx4a65c_size_8abf5 yJx4a65c_size_8abf5, Cond.initialized RJx4a65c, Cond.code yJx4a65c_size_8abf5 cJx4a65c_size_8abf5 1 (some .int), Cond.fieldLink RJx4a65c 48 "java/util/ArrayList" "size" "I", Cond.methodLink RX6 194 yJx4a65c_get_915e3, Cond.instanceMethod yJx4a65c_get_915e3, Cond.selects RJx4a65c yJx4a65c_get_915e3 yJx4a65c_get_915e3, Cond.code yJx4a65c_get_915e3 cJx4a65c_get_915e3 2 (some (.object "java/lang/Object")), Cond.methodLink RJx4a65c 118 yJ15_checkIndex_7cf53]
def wsX6_duty_r2 : List Cond := [Cond.static yJ15_checkIndex_7cf53, Cond.initialized RJ15, Cond.code yJ15_checkIndex_7cf53 cJ15_checkIndex_7cf53 2 (some .int), Cond.methodLink RJ15 105 yJ3_checkIndex_8e157, Cond.static yJ3_checkIndex_8e157, Cond.initialized RJ3, Cond.code yJ3_checkIndex_8e157 cJ3_checkIndex_8e157 3 (some .int), Cond.methodLink RJx4a65c 123 yJx4a65c_elementData_915e3, Cond.instanceMethod yJx4a65c_elementData_915e3, Cond.selects RJx4a65c yJx4a65c_elementData_915e3 yJx4a65c_elementData_915e3, Cond.code yJx4a65c_elementData_915e3 cJx4a65c_elementData_915e3 2 (some (.object "java/lang/Object")), Cond.fieldLink RJx4a65c 9 "java/util/ArrayList" "elementData" "[Ljava/lang/Object;", Cond.methodLink RX6 231 yX1_dutyFor, Cond.instanceMethod yX1_dutyFor, Cond.selects RX1 yX1_dutyFor yX1_dutyFor, Cond.initialized RX1, Cond.code yX1_dutyFor cX1_dutyFor 2 (some .int), Cond.fieldLink RX1 7 "Gaugerhall$Excise" "rate" "I", Cond.static yX6_part, Cond.code yX6_part cX6_part 3 (some .int)]
def wsX6_duty : List Cond := .code yX6_duty cX6_duty 2 (some .int) :: ((wsX6_duty_r1 ++ wsX6_duty_r2) ++ wsX60 ++ wsX10 ++ wsX00 ++ wsX40 ++ wsJx4a65c0 ++ (vx_atS RX6 59 "java/lang/IllegalArgumentException" ["java/lang/RuntimeException", "java/lang/Exception"]).filter goodWord)
def wsX7_init : List Cond := .code yX7_init cX7_init 1 none :: ([.methodLink RX7 1 objectInit, .instanceMethod objectInit, .code objectInit ⟨#[0xb1]⟩ 1 none, .arrayClass .int, .fieldLink RX7 7 "GaugerhallModel" "place" "[I", .fieldLink RX7 13 "GaugerhallModel" "capacity" "[I", .fieldLink RX7 16 "GaugerhallModel" "volume" "[I", .fieldLink RX7 19 "GaugerhallModel" "drops" "[I", .fieldLink RX7 22 "GaugerhallModel" "shares" "[I", .fieldLink RX7 25 "GaugerhallModel" "ledger" "[I", .fieldLink RX7 28 "GaugerhallModel" "rate" "I", .fieldLink RX7 32 "GaugerhallModel" "budgetDay" "I", .fieldLink RX7 35 "GaugerhallModel" "lotDrops" "[I", .fieldLink RX7 38 "GaugerhallModel" "lotPaid" "[I", .fieldLink RX7 41 "GaugerhallModel" "state" "[I", .fieldLink RX7 44 "GaugerhallModel" "to" "[I", .fieldLink RX7 47 "GaugerhallModel" "went" "[I", .fieldLink RX7 50 "GaugerhallModel" "wentDrops" "[I", .fieldLink RX7 53 "GaugerhallModel" "till" "[I"] ++ wsX70)
def wsX7_thrown : List Cond := .code yX7_thrown cX7_thrown 1 (some .int) :: ([.fieldLink RX7 56 "GaugerhallModel" "thrown" "I"] ++ wsX70)
def wsX7_in : List Cond := .code yX7_in cX7_in 3 (some .boolean) :: ([])
def wsX7_isVessel : List Cond := .code yX7_isVessel cX7_isVessel 2 (some .boolean) :: ([.fieldLink RX7 59 "GaugerhallModel" "vessels" "I", .methodLink RX7 62 yX7_in, .static yX7_in, .initialized RX7, .code yX7_in cX7_in 3 (some .boolean)] ++ wsX70)
def wsX7_isPlace : List Cond := .code yX7_isPlace cX7_isPlace 1 (some .boolean) :: ([.methodLink RX7 62 yX7_in, .static yX7_in, .initialized RX7, .code yX7_in cX7_in 3 (some .boolean)])
def wsX7_least : List Cond := .code yX7_least cX7_least 2 (some .int) :: ([])
def wsX7_strengthOf : List Cond := .code yX7_strengthOf cX7_strengthOf 2 (some .int) :: ([])
def wsX7_with : List Cond := .code yX7_with cX7_with 5 (some .int) :: ([.fieldLink RX7 16 "GaugerhallModel" "volume" "[I", .fieldLink RX7 19 "GaugerhallModel" "drops" "[I", .methodLink RX7 66 yX7_strengthOf, .static yX7_strengthOf, .initialized RX7, .code yX7_strengthOf cX7_strengthOf 2 (some .int), .methodLink RX7 70 yX7_least, .static yX7_least, .code yX7_least cX7_least 2 (some .int)] ++ wsX70)
def wsX7_comes : List Cond := .code yX7_comes cX7_comes 4 none :: ([.fieldLink RX7 16 "GaugerhallModel" "volume" "[I", .fieldLink RX7 19 "GaugerhallModel" "drops" "[I", .methodLink RX7 73 yX7_with, .instanceMethod yX7_with, .selects RX7 yX7_with yX7_with, .initialized RX7, .code yX7_with cX7_with 5 (some .int), .methodLink RX7 66 yX7_strengthOf, .static yX7_strengthOf, .code yX7_strengthOf cX7_strengthOf 2 (some .int), .methodLink RX7 70 yX7_least, .static yX7_least, .code yX7_least cX7_least 2 (some .int)] ++ wsX70)
def wsX7_part : List Cond := .code yX7_part cX7_part 3 (some .int) :: ([])
def wsX7_takes : List Cond := .code yX7_takes cX7_takes 4 (some .int) :: ([.fieldLink RX7 19 "GaugerhallModel" "drops" "[I", .fieldLink RX7 16 "GaugerhallModel" "volume" "[I", .methodLink RX7 77 yX7_part, .static yX7_part, .initialized RX7, .code yX7_part cX7_part 3 (some .int)] ++ wsX70)
def wsX7_dutyFor : List Cond := .code yX7_dutyFor cX7_dutyFor 3 (some .int) :: ([.constantLong RX7 80 (1000)])
def wsX7_misses : List Cond := .code yX7_misses cX7_misses 3 (some .int) :: ([.fieldLink RX7 25 "GaugerhallModel" "ledger" "[I", .fieldLink RX7 28 "GaugerhallModel" "rate" "I", .fieldLink RX7 85 "GaugerhallModel" "owed" "I", .methodLink RX7 82 yX7_dutyFor, .instanceMethod yX7_dutyFor, .selects RX7 yX7_dutyFor yX7_dutyFor, .initialized RX7, .code yX7_dutyFor cX7_dutyFor 3 (some .int), .constantLong RX7 80 (1000)] ++ wsX70)
def wsX7_vessel : List Cond := .code yX7_vessel cX7_vessel 3 (some .int) :: ([.fieldLink RX7 59 "GaugerhallModel" "vessels" "I", .fieldLink RX7 56 "GaugerhallModel" "thrown" "I", .fieldLink RX7 7 "GaugerhallModel" "place" "[I", .fieldLink RX7 13 "GaugerhallModel" "capacity" "[I", .methodLink RX7 88 yX7_isPlace, .static yX7_isPlace, .initialized RX7, .code yX7_isPlace cX7_isPlace 1 (some .boolean), .methodLink RX7 62 yX7_in, .static yX7_in, .code yX7_in cX7_in 3 (some .boolean)] ++ wsX70)
def wsX7_shares : List Cond := .code yX7_shares cX7_shares 4 (some .int) :: ([.fieldLink RX7 56 "GaugerhallModel" "thrown" "I", .fieldLink RX7 22 "GaugerhallModel" "shares" "[I", .methodLink RX7 88 yX7_isPlace, .static yX7_isPlace, .initialized RX7, .code yX7_isPlace cX7_isPlace 1 (some .boolean), .methodLink RX7 62 yX7_in, .static yX7_in, .code yX7_in cX7_in 3 (some .boolean)] ++ wsX70)
def wsX7_hasRoom : List Cond := .code yX7_hasRoom cX7_hasRoom 3 (some .boolean) :: ([.fieldLink RX7 16 "GaugerhallModel" "volume" "[I", .fieldLink RX7 13 "GaugerhallModel" "capacity" "[I"] ++ wsX70)
def wsX7_run_r1 : List Cond := [Cond.fieldLink RX7 56 "GaugerhallModel" "thrown" "I", Cond.fieldLink RX7 95 "GaugerhallModel" "runs" "I", Cond.fieldLink RX7 25 "GaugerhallModel" "ledger" "[I", Cond.fieldLink RX7 85 "GaugerhallModel" "owed" "I", Cond.fieldLink RX7 28 "GaugerhallModel" "rate" "I", Cond.methodLink RX7 62 yX7_in, Cond.static yX7_in, Cond.initialized RX7, Cond.code yX7_in cX7_in 3 (some .boolean), Cond.methodLink RX7 92 yX7_isVessel, Cond.instanceMethod yX7_isVessel, Cond.selects RX7 yX7_isVessel yX7_isVessel, Cond.code yX7_isVessel cX7_isVessel 2 (some .boolean), Cond.fieldLink RX7 59 "GaugerhallModel" "vessels" "I", Cond.methodLink RX7 98 yX7_hasRoom, Cond.instanceMethod yX7_hasRoom, Cond.selects RX7 yX7_hasRoom yX7_hasRoom, Cond.code yX7_hasRoom cX7_hasRoom 3 (some .boolean), Cond.fieldLink RX7 16 "GaugerhallModel" "volume" "[I", Cond.fieldLink RX7 13 "GaugerhallModel" "capacity" "[I", Cond.methodLink RX7 82 yX7_dutyFor, Cond.instanceMethod yX7_dutyFor, Cond.selects RX7 yX7_dutyFor yX7_dutyFor, Cond.code yX7_dutyFor cX7_dutyFor 3 (some .int)]
def wsX7_run_r2 : List Cond := [Cond.constantLong RX7 80 (1000), Cond.methodLink RX7 102 yX7_comes, Cond.instanceMethod yX7_comes, Cond.selects RX7 yX7_comes yX7_comes, Cond.code yX7_comes cX7_comes 4 none, Cond.fieldLink RX7 19 "GaugerhallModel" "drops" "[I", Cond.methodLink RX7 73 yX7_with, Cond.instanceMethod yX7_with, Cond.selects RX7 yX7_with yX7_with, Cond.code yX7_with cX7_with 5 (some .int), Cond.methodLink RX7 66 yX7_strengthOf, Cond.static yX7_strengthOf, Cond.code yX7_strengthOf cX7_strengthOf 2 (some .int), Cond.methodLink RX7 70 yX7_least, Cond.static yX7_least, Cond.code yX7_least cX7_least 2 (some .int)]
def wsX7_run : List Cond := .code yX7_run cX7_run 9 (some .int) :: ((wsX7_run_r1 ++ wsX7_run_r2) ++ wsX70)
def wsX7_hasPart : List Cond := .code yX7_hasPart cX7_hasPart 3 (some .boolean) :: ([.fieldLink RX7 16 "GaugerhallModel" "volume" "[I"] ++ wsX70)
def wsX7_move_r1 : List Cond := [Cond.fieldLink RX7 56 "GaugerhallModel" "thrown" "I", Cond.fieldLink RX7 7 "GaugerhallModel" "place" "[I", Cond.fieldLink RX7 16 "GaugerhallModel" "volume" "[I", Cond.methodLink RX7 92 yX7_isVessel, Cond.instanceMethod yX7_isVessel, Cond.selects RX7 yX7_isVessel yX7_isVessel, Cond.initialized RX7, Cond.code yX7_isVessel cX7_isVessel 2 (some .boolean), Cond.fieldLink RX7 59 "GaugerhallModel" "vessels" "I", Cond.methodLink RX7 62 yX7_in, Cond.static yX7_in, Cond.code yX7_in cX7_in 3 (some .boolean), Cond.methodLink RX7 106 yX7_hasPart, Cond.instanceMethod yX7_hasPart, Cond.selects RX7 yX7_hasPart yX7_hasPart, Cond.code yX7_hasPart cX7_hasPart 3 (some .boolean), Cond.methodLink RX7 98 yX7_hasRoom, Cond.instanceMethod yX7_hasRoom, Cond.selects RX7 yX7_hasRoom yX7_hasRoom, Cond.code yX7_hasRoom cX7_hasRoom 3 (some .boolean), Cond.fieldLink RX7 13 "GaugerhallModel" "capacity" "[I", Cond.methodLink RX7 109 yX7_takes, Cond.instanceMethod yX7_takes, Cond.selects RX7 yX7_takes yX7_takes]
def wsX7_move_r2 : List Cond := [Cond.code yX7_takes cX7_takes 4 (some .int), Cond.fieldLink RX7 19 "GaugerhallModel" "drops" "[I", Cond.methodLink RX7 77 yX7_part, Cond.static yX7_part, Cond.code yX7_part cX7_part 3 (some .int), Cond.methodLink RX7 102 yX7_comes, Cond.instanceMethod yX7_comes, Cond.selects RX7 yX7_comes yX7_comes, Cond.code yX7_comes cX7_comes 4 none, Cond.methodLink RX7 73 yX7_with, Cond.instanceMethod yX7_with, Cond.selects RX7 yX7_with yX7_with, Cond.code yX7_with cX7_with 5 (some .int), Cond.methodLink RX7 66 yX7_strengthOf, Cond.static yX7_strengthOf, Cond.code yX7_strengthOf cX7_strengthOf 2 (some .int), Cond.methodLink RX7 70 yX7_least, Cond.static yX7_least, Cond.code yX7_least cX7_least 2 (some .int)]
def wsX7_move : List Cond := .code yX7_move cX7_move 5 (some .int) :: ((wsX7_move_r1 ++ wsX7_move_r2) ++ wsX70)
def wsX7_dip_r1 : List Cond := [Cond.fieldLink RX7 13 "GaugerhallModel" "capacity" "[I", Cond.fieldLink RX7 112 "GaugerhallModel" "dips" "I", Cond.fieldLink RX7 56 "GaugerhallModel" "thrown" "I", Cond.fieldLink RX7 19 "GaugerhallModel" "drops" "[I", Cond.fieldLink RX7 25 "GaugerhallModel" "ledger" "[I", Cond.fieldLink RX7 16 "GaugerhallModel" "volume" "[I", Cond.methodLink RX7 92 yX7_isVessel, Cond.instanceMethod yX7_isVessel, Cond.selects RX7 yX7_isVessel yX7_isVessel, Cond.initialized RX7, Cond.code yX7_isVessel cX7_isVessel 2 (some .boolean), Cond.fieldLink RX7 59 "GaugerhallModel" "vessels" "I", Cond.methodLink RX7 62 yX7_in, Cond.static yX7_in, Cond.code yX7_in cX7_in 3 (some .boolean), Cond.methodLink RX7 115 yX7_misses, Cond.instanceMethod yX7_misses, Cond.selects RX7 yX7_misses yX7_misses, Cond.code yX7_misses cX7_misses 3 (some .int), Cond.fieldLink RX7 28 "GaugerhallModel" "rate" "I", Cond.fieldLink RX7 85 "GaugerhallModel" "owed" "I", Cond.methodLink RX7 82 yX7_dutyFor, Cond.instanceMethod yX7_dutyFor, Cond.selects RX7 yX7_dutyFor yX7_dutyFor]
def wsX7_dip_r2 : List Cond := [Cond.code yX7_dutyFor cX7_dutyFor 3 (some .int), Cond.constantLong RX7 80 (1000)]
def wsX7_dip : List Cond := .code yX7_dip cX7_dip 6 (some .int) :: ((wsX7_dip_r1 ++ wsX7_dip_r2) ++ wsX70)
def wsX7_asksPart : List Cond := .code yX7_asksPart cX7_asksPart 3 (some .boolean) :: ([.fieldLink RX7 56 "GaugerhallModel" "thrown" "I", .methodLink RX7 92 yX7_isVessel, .instanceMethod yX7_isVessel, .selects RX7 yX7_isVessel yX7_isVessel, .initialized RX7, .code yX7_isVessel cX7_isVessel 2 (some .boolean), .fieldLink RX7 59 "GaugerhallModel" "vessels" "I", .methodLink RX7 62 yX7_in, .static yX7_in, .code yX7_in cX7_in 3 (some .boolean), .methodLink RX7 106 yX7_hasPart, .instanceMethod yX7_hasPart, .selects RX7 yX7_hasPart yX7_hasPart, .code yX7_hasPart cX7_hasPart 3 (some .boolean), .fieldLink RX7 16 "GaugerhallModel" "volume" "[I"] ++ wsX70)
def wsX7_lose_r1 : List Cond := [Cond.fieldLink RX7 25 "GaugerhallModel" "ledger" "[I", Cond.methodLink RX7 119 yX7_asksPart, Cond.instanceMethod yX7_asksPart, Cond.selects RX7 yX7_asksPart yX7_asksPart, Cond.initialized RX7, Cond.code yX7_asksPart cX7_asksPart 3 (some .boolean), Cond.fieldLink RX7 56 "GaugerhallModel" "thrown" "I", Cond.methodLink RX7 92 yX7_isVessel, Cond.instanceMethod yX7_isVessel, Cond.selects RX7 yX7_isVessel yX7_isVessel, Cond.code yX7_isVessel cX7_isVessel 2 (some .boolean), Cond.fieldLink RX7 59 "GaugerhallModel" "vessels" "I", Cond.methodLink RX7 62 yX7_in, Cond.static yX7_in, Cond.code yX7_in cX7_in 3 (some .boolean), Cond.methodLink RX7 106 yX7_hasPart, Cond.instanceMethod yX7_hasPart, Cond.selects RX7 yX7_hasPart yX7_hasPart, Cond.code yX7_hasPart cX7_hasPart 3 (some .boolean), Cond.fieldLink RX7 16 "GaugerhallModel" "volume" "[I", Cond.methodLink RX7 109 yX7_takes, Cond.instanceMethod yX7_takes, Cond.selects RX7 yX7_takes yX7_takes, Cond.code yX7_takes cX7_takes 4 (some .int)]
def wsX7_lose_r2 : List Cond := [Cond.fieldLink RX7 19 "GaugerhallModel" "drops" "[I", Cond.methodLink RX7 77 yX7_part, Cond.static yX7_part, Cond.code yX7_part cX7_part 3 (some .int), Cond.methodLink RX7 115 yX7_misses, Cond.instanceMethod yX7_misses, Cond.selects RX7 yX7_misses yX7_misses, Cond.code yX7_misses cX7_misses 3 (some .int), Cond.fieldLink RX7 28 "GaugerhallModel" "rate" "I", Cond.fieldLink RX7 85 "GaugerhallModel" "owed" "I", Cond.methodLink RX7 82 yX7_dutyFor, Cond.instanceMethod yX7_dutyFor, Cond.selects RX7 yX7_dutyFor yX7_dutyFor, Cond.code yX7_dutyFor cX7_dutyFor 3 (some .int), Cond.constantLong RX7 80 (1000)]
def wsX7_lose : List Cond := .code yX7_lose cX7_lose 5 (some .int) :: ((wsX7_lose_r1 ++ wsX7_lose_r2) ++ wsX70)
def wsX7_release_r1 : List Cond := [Cond.fieldLink RX7 19 "GaugerhallModel" "drops" "[I", Cond.fieldLink RX7 16 "GaugerhallModel" "volume" "[I", Cond.fieldLink RX7 32 "GaugerhallModel" "budgetDay" "I", Cond.fieldLink RX7 122 "GaugerhallModel" "quota" "I", Cond.fieldLink RX7 125 "GaugerhallModel" "lots" "I", Cond.fieldLink RX7 56 "GaugerhallModel" "thrown" "I", Cond.constant RX7 128 (1000000), Cond.fieldLink RX7 129 "GaugerhallModel" "halves" "I", Cond.fieldLink RX7 28 "GaugerhallModel" "rate" "I", Cond.fieldLink RX7 85 "GaugerhallModel" "owed" "I", Cond.fieldLink RX7 35 "GaugerhallModel" "lotDrops" "[I", Cond.fieldLink RX7 38 "GaugerhallModel" "lotPaid" "[I", Cond.methodLink RX7 119 yX7_asksPart, Cond.instanceMethod yX7_asksPart, Cond.selects RX7 yX7_asksPart yX7_asksPart, Cond.initialized RX7, Cond.code yX7_asksPart cX7_asksPart 3 (some .boolean), Cond.methodLink RX7 92 yX7_isVessel, Cond.instanceMethod yX7_isVessel, Cond.selects RX7 yX7_isVessel yX7_isVessel, Cond.code yX7_isVessel cX7_isVessel 2 (some .boolean), Cond.fieldLink RX7 59 "GaugerhallModel" "vessels" "I", Cond.methodLink RX7 62 yX7_in, Cond.static yX7_in]
def wsX7_release_r2 : List Cond := [Cond.code yX7_in cX7_in 3 (some .boolean), Cond.methodLink RX7 106 yX7_hasPart, Cond.instanceMethod yX7_hasPart, Cond.selects RX7 yX7_hasPart yX7_hasPart, Cond.code yX7_hasPart cX7_hasPart 3 (some .boolean), Cond.methodLink RX7 77 yX7_part, Cond.static yX7_part, Cond.code yX7_part cX7_part 3 (some .int), Cond.methodLink RX7 109 yX7_takes, Cond.instanceMethod yX7_takes, Cond.selects RX7 yX7_takes yX7_takes, Cond.code yX7_takes cX7_takes 4 (some .int), Cond.methodLink RX7 70 yX7_least, Cond.static yX7_least, Cond.code yX7_least cX7_least 2 (some .int), Cond.methodLink RX7 82 yX7_dutyFor, Cond.instanceMethod yX7_dutyFor, Cond.selects RX7 yX7_dutyFor yX7_dutyFor, Cond.code yX7_dutyFor cX7_dutyFor 3 (some .int), Cond.constantLong RX7 80 (1000)]
def wsX7_release : List Cond := .code yX7_release cX7_release 6 (some .int) :: ((wsX7_release_r1 ++ wsX7_release_r2) ++ wsX70)
def wsX7_permit : List Cond := .code yX7_permit cX7_permit 3 (some .int) :: ([.constant RX7 132 (9999999), .fieldLink RX7 56 "GaugerhallModel" "thrown" "I", .fieldLink RX7 133 "GaugerhallModel" "permit" "I", .methodLink RX7 62 yX7_in, .static yX7_in, .initialized RX7, .code yX7_in cX7_in 3 (some .boolean)] ++ wsX70)
def wsX7_denature_r1 : List Cond := [Cond.fieldLink RX7 19 "GaugerhallModel" "drops" "[I", Cond.fieldLink RX7 16 "GaugerhallModel" "volume" "[I", Cond.fieldLink RX7 133 "GaugerhallModel" "permit" "I", Cond.fieldLink RX7 56 "GaugerhallModel" "thrown" "I", Cond.fieldLink RX7 25 "GaugerhallModel" "ledger" "[I", Cond.methodLink RX7 119 yX7_asksPart, Cond.instanceMethod yX7_asksPart, Cond.selects RX7 yX7_asksPart yX7_asksPart, Cond.initialized RX7, Cond.code yX7_asksPart cX7_asksPart 3 (some .boolean), Cond.methodLink RX7 92 yX7_isVessel, Cond.instanceMethod yX7_isVessel, Cond.selects RX7 yX7_isVessel yX7_isVessel, Cond.code yX7_isVessel cX7_isVessel 2 (some .boolean), Cond.fieldLink RX7 59 "GaugerhallModel" "vessels" "I", Cond.methodLink RX7 62 yX7_in, Cond.static yX7_in, Cond.code yX7_in cX7_in 3 (some .boolean), Cond.methodLink RX7 106 yX7_hasPart, Cond.instanceMethod yX7_hasPart, Cond.selects RX7 yX7_hasPart yX7_hasPart, Cond.code yX7_hasPart cX7_hasPart 3 (some .boolean), Cond.methodLink RX7 77 yX7_part, Cond.static yX7_part]
def wsX7_denature_r2 : List Cond := [Cond.code yX7_part cX7_part 3 (some .int), Cond.methodLink RX7 109 yX7_takes, Cond.instanceMethod yX7_takes, Cond.selects RX7 yX7_takes yX7_takes, Cond.code yX7_takes cX7_takes 4 (some .int)]
def wsX7_denature : List Cond := .code yX7_denature cX7_denature 4 (some .int) :: ((wsX7_denature_r1 ++ wsX7_denature_r2) ++ wsX70)
def wsX7_inLots : List Cond := .code yX7_inLots cX7_inLots 3 (some .int) :: ([.fieldLink RX7 125 "GaugerhallModel" "lots" "I", .fieldLink RX7 35 "GaugerhallModel" "lotDrops" "[I"] ++ wsX70)
def wsX7_export : List Cond := .code yX7_export cX7_export 7 (some .int) :: ([.fieldLink RX7 56 "GaugerhallModel" "thrown" "I", .fieldLink RX7 125 "GaugerhallModel" "lots" "I", .fieldLink RX7 35 "GaugerhallModel" "lotDrops" "[I", .fieldLink RX7 38 "GaugerhallModel" "lotPaid" "[I", .fieldLink RX7 25 "GaugerhallModel" "ledger" "[I", .fieldLink RX7 85 "GaugerhallModel" "owed" "I", .methodLink RX7 136 yX7_inLots, .instanceMethod yX7_inLots, .selects RX7 yX7_inLots yX7_inLots, .initialized RX7, .code yX7_inLots cX7_inLots 3 (some .int), .methodLink RX7 70 yX7_least, .static yX7_least, .code yX7_least cX7_least 2 (some .int), .methodLink RX7 77 yX7_part, .static yX7_part, .code yX7_part cX7_part 3 (some .int)] ++ wsX70)
def wsX7_pay : List Cond := .code yX7_pay cX7_pay 2 (some .int) :: ([.constant RX7 140 (999999), .fieldLink RX7 85 "GaugerhallModel" "owed" "I", .fieldLink RX7 56 "GaugerhallModel" "thrown" "I", .methodLink RX7 62 yX7_in, .static yX7_in, .initialized RX7, .code yX7_in cX7_in 3 (some .boolean)] ++ wsX70)
def wsX7_budget : List Cond := .code yX7_budget cX7_budget 5 none :: ([.fieldLink RX7 141 "GaugerhallModel" "day" "I", .constant RX7 132 (9999999), .fieldLink RX7 32 "GaugerhallModel" "budgetDay" "I", .fieldLink RX7 56 "GaugerhallModel" "thrown" "I", .fieldLink RX7 144 "GaugerhallModel" "budgetRate" "I", .fieldLink RX7 122 "GaugerhallModel" "quota" "I", .methodLink RX7 62 yX7_in, .static yX7_in, .initialized RX7, .code yX7_in cX7_in 3 (some .boolean)] ++ wsX70)
def wsX7_moving : List Cond := .code yX7_moving cX7_moving 3 (some .int) :: ([.fieldLink RX7 147 "GaugerhallModel" "movements" "I", .fieldLink RX7 41 "GaugerhallModel" "state" "[I", .fieldLink RX7 50 "GaugerhallModel" "wentDrops" "[I"] ++ wsX70)
def wsX7_guarantee : List Cond := .code yX7_guarantee cX7_guarantee 3 (some .int) :: ([.constant RX7 132 (9999999), .fieldLink RX7 28 "GaugerhallModel" "rate" "I", .fieldLink RX7 56 "GaugerhallModel" "thrown" "I", .fieldLink RX7 153 "GaugerhallModel" "guarantee" "I", .methodLink RX7 62 yX7_in, .static yX7_in, .initialized RX7, .code yX7_in cX7_in 3 (some .boolean), .methodLink RX7 150 yX7_moving, .instanceMethod yX7_moving, .selects RX7 yX7_moving yX7_moving, .code yX7_moving cX7_moving 3 (some .int), .fieldLink RX7 147 "GaugerhallModel" "movements" "I", .fieldLink RX7 41 "GaugerhallModel" "state" "[I", .fieldLink RX7 50 "GaugerhallModel" "wentDrops" "[I", .methodLink RX7 82 yX7_dutyFor, .instanceMethod yX7_dutyFor, .selects RX7 yX7_dutyFor yX7_dutyFor, .code yX7_dutyFor cX7_dutyFor 3 (some .int), .constantLong RX7 80 (1000)] ++ wsX70)
def wsX7_ship_r1 : List Cond := [Cond.fieldLink RX7 56 "GaugerhallModel" "thrown" "I", Cond.fieldLink RX7 7 "GaugerhallModel" "place" "[I", Cond.fieldLink RX7 147 "GaugerhallModel" "movements" "I", Cond.fieldLink RX7 153 "GaugerhallModel" "guarantee" "I", Cond.fieldLink RX7 19 "GaugerhallModel" "drops" "[I", Cond.fieldLink RX7 16 "GaugerhallModel" "volume" "[I", Cond.fieldLink RX7 28 "GaugerhallModel" "rate" "I", Cond.fieldLink RX7 44 "GaugerhallModel" "to" "[I", Cond.fieldLink RX7 47 "GaugerhallModel" "went" "[I", Cond.fieldLink RX7 50 "GaugerhallModel" "wentDrops" "[I", Cond.fieldLink RX7 53 "GaugerhallModel" "till" "[I", Cond.fieldLink RX7 141 "GaugerhallModel" "day" "I", Cond.methodLink RX7 92 yX7_isVessel, Cond.instanceMethod yX7_isVessel, Cond.selects RX7 yX7_isVessel yX7_isVessel, Cond.initialized RX7, Cond.code yX7_isVessel cX7_isVessel 2 (some .boolean), Cond.fieldLink RX7 59 "GaugerhallModel" "vessels" "I", Cond.methodLink RX7 62 yX7_in, Cond.static yX7_in, Cond.code yX7_in cX7_in 3 (some .boolean), Cond.methodLink RX7 106 yX7_hasPart, Cond.instanceMethod yX7_hasPart, Cond.selects RX7 yX7_hasPart yX7_hasPart]
def wsX7_ship_r2 : List Cond := [Cond.code yX7_hasPart cX7_hasPart 3 (some .boolean), Cond.methodLink RX7 150 yX7_moving, Cond.instanceMethod yX7_moving, Cond.selects RX7 yX7_moving yX7_moving, Cond.code yX7_moving cX7_moving 3 (some .int), Cond.fieldLink RX7 41 "GaugerhallModel" "state" "[I", Cond.methodLink RX7 77 yX7_part, Cond.static yX7_part, Cond.code yX7_part cX7_part 3 (some .int), Cond.methodLink RX7 82 yX7_dutyFor, Cond.instanceMethod yX7_dutyFor, Cond.selects RX7 yX7_dutyFor yX7_dutyFor, Cond.code yX7_dutyFor cX7_dutyFor 3 (some .int), Cond.constantLong RX7 80 (1000), Cond.methodLink RX7 109 yX7_takes, Cond.instanceMethod yX7_takes, Cond.selects RX7 yX7_takes yX7_takes, Cond.code yX7_takes cX7_takes 4 (some .int)]
def wsX7_ship : List Cond := .code yX7_ship cX7_ship 7 (some .int) :: ((wsX7_ship_r1 ++ wsX7_ship_r2) ++ wsX70)
def wsX7_arrive_r1 : List Cond := [Cond.fieldLink RX7 147 "GaugerhallModel" "movements" "I", Cond.fieldLink RX7 47 "GaugerhallModel" "went" "[I", Cond.fieldLink RX7 56 "GaugerhallModel" "thrown" "I", Cond.fieldLink RX7 41 "GaugerhallModel" "state" "[I", Cond.fieldLink RX7 44 "GaugerhallModel" "to" "[I", Cond.fieldLink RX7 50 "GaugerhallModel" "wentDrops" "[I", Cond.fieldLink RX7 25 "GaugerhallModel" "ledger" "[I", Cond.methodLink RX7 62 yX7_in, Cond.static yX7_in, Cond.initialized RX7, Cond.code yX7_in cX7_in 3 (some .boolean), Cond.methodLink RX7 98 yX7_hasRoom, Cond.instanceMethod yX7_hasRoom, Cond.selects RX7 yX7_hasRoom yX7_hasRoom, Cond.code yX7_hasRoom cX7_hasRoom 3 (some .boolean), Cond.fieldLink RX7 16 "GaugerhallModel" "volume" "[I", Cond.fieldLink RX7 13 "GaugerhallModel" "capacity" "[I", Cond.methodLink RX7 77 yX7_part, Cond.static yX7_part, Cond.code yX7_part cX7_part 3 (some .int), Cond.methodLink RX7 102 yX7_comes, Cond.instanceMethod yX7_comes, Cond.selects RX7 yX7_comes yX7_comes, Cond.code yX7_comes cX7_comes 4 none]
def wsX7_arrive_r2 : List Cond := [Cond.fieldLink RX7 19 "GaugerhallModel" "drops" "[I", Cond.methodLink RX7 73 yX7_with, Cond.instanceMethod yX7_with, Cond.selects RX7 yX7_with yX7_with, Cond.code yX7_with cX7_with 5 (some .int), Cond.methodLink RX7 66 yX7_strengthOf, Cond.static yX7_strengthOf, Cond.code yX7_strengthOf cX7_strengthOf 2 (some .int), Cond.methodLink RX7 70 yX7_least, Cond.static yX7_least, Cond.code yX7_least cX7_least 2 (some .int), Cond.methodLink RX7 115 yX7_misses, Cond.instanceMethod yX7_misses, Cond.selects RX7 yX7_misses yX7_misses, Cond.code yX7_misses cX7_misses 3 (some .int), Cond.fieldLink RX7 28 "GaugerhallModel" "rate" "I", Cond.fieldLink RX7 85 "GaugerhallModel" "owed" "I", Cond.methodLink RX7 82 yX7_dutyFor, Cond.instanceMethod yX7_dutyFor, Cond.selects RX7 yX7_dutyFor yX7_dutyFor, Cond.code yX7_dutyFor cX7_dutyFor 3 (some .int), Cond.constantLong RX7 80 (1000)]
def wsX7_arrive : List Cond := .code yX7_arrive cX7_arrive 6 (some .int) :: ((wsX7_arrive_r1 ++ wsX7_arrive_r2) ++ wsX70)
def wsX7_passesOne_r1 : List Cond := [Cond.fieldLink RX7 141 "GaugerhallModel" "day" "I", Cond.fieldLink RX7 32 "GaugerhallModel" "budgetDay" "I", Cond.fieldLink RX7 144 "GaugerhallModel" "budgetRate" "I", Cond.fieldLink RX7 28 "GaugerhallModel" "rate" "I", Cond.fieldLink RX7 129 "GaugerhallModel" "halves" "I", Cond.fieldLink RX7 147 "GaugerhallModel" "movements" "I", Cond.fieldLink RX7 41 "GaugerhallModel" "state" "[I", Cond.fieldLink RX7 53 "GaugerhallModel" "till" "[I", Cond.fieldLink RX7 50 "GaugerhallModel" "wentDrops" "[I", Cond.fieldLink RX7 59 "GaugerhallModel" "vessels" "I", Cond.fieldLink RX7 19 "GaugerhallModel" "drops" "[I", Cond.fieldLink RX7 22 "GaugerhallModel" "shares" "[I", Cond.fieldLink RX7 7 "GaugerhallModel" "place" "[I", Cond.constant RX7 156 (100000), Cond.fieldLink RX7 25 "GaugerhallModel" "ledger" "[I", Cond.fieldLink RX7 16 "GaugerhallModel" "volume" "[I", Cond.fieldLink RX7 85 "GaugerhallModel" "owed" "I", Cond.methodLink RX7 115 yX7_misses, Cond.instanceMethod yX7_misses, Cond.selects RX7 yX7_misses yX7_misses, Cond.initialized RX7, Cond.code yX7_misses cX7_misses 3 (some .int), Cond.methodLink RX7 82 yX7_dutyFor, Cond.instanceMethod yX7_dutyFor]
def wsX7_passesOne_r2 : List Cond := [Cond.selects RX7 yX7_dutyFor yX7_dutyFor, Cond.code yX7_dutyFor cX7_dutyFor 3 (some .int), Cond.constantLong RX7 80 (1000), Cond.methodLink RX7 77 yX7_part, Cond.static yX7_part, Cond.code yX7_part cX7_part 3 (some .int)]
def wsX7_passesOne : List Cond := .code yX7_passesOne cX7_passesOne 3 none :: ((wsX7_passesOne_r1 ++ wsX7_passesOne_r2) ++ wsX70)
def wsX7_pass_r1 : List Cond := [Cond.fieldLink RX7 141 "GaugerhallModel" "day" "I", Cond.fieldLink RX7 56 "GaugerhallModel" "thrown" "I", Cond.fieldLink RX7 85 "GaugerhallModel" "owed" "I", Cond.methodLink RX7 62 yX7_in, Cond.static yX7_in, Cond.initialized RX7, Cond.code yX7_in cX7_in 3 (some .boolean), Cond.methodLink RX7 157 yX7_passesOne, Cond.instanceMethod yX7_passesOne, Cond.selects RX7 yX7_passesOne yX7_passesOne, Cond.code yX7_passesOne cX7_passesOne 3 none, Cond.fieldLink RX7 32 "GaugerhallModel" "budgetDay" "I", Cond.fieldLink RX7 144 "GaugerhallModel" "budgetRate" "I", Cond.fieldLink RX7 28 "GaugerhallModel" "rate" "I", Cond.fieldLink RX7 129 "GaugerhallModel" "halves" "I", Cond.fieldLink RX7 147 "GaugerhallModel" "movements" "I", Cond.fieldLink RX7 41 "GaugerhallModel" "state" "[I", Cond.fieldLink RX7 53 "GaugerhallModel" "till" "[I", Cond.fieldLink RX7 50 "GaugerhallModel" "wentDrops" "[I", Cond.fieldLink RX7 59 "GaugerhallModel" "vessels" "I", Cond.fieldLink RX7 19 "GaugerhallModel" "drops" "[I", Cond.fieldLink RX7 22 "GaugerhallModel" "shares" "[I", Cond.fieldLink RX7 7 "GaugerhallModel" "place" "[I", Cond.constant RX7 156 (100000)]
def wsX7_pass_r2 : List Cond := [Cond.fieldLink RX7 25 "GaugerhallModel" "ledger" "[I", Cond.fieldLink RX7 16 "GaugerhallModel" "volume" "[I", Cond.methodLink RX7 115 yX7_misses, Cond.instanceMethod yX7_misses, Cond.selects RX7 yX7_misses yX7_misses, Cond.code yX7_misses cX7_misses 3 (some .int), Cond.methodLink RX7 82 yX7_dutyFor, Cond.instanceMethod yX7_dutyFor, Cond.selects RX7 yX7_dutyFor yX7_dutyFor, Cond.code yX7_dutyFor cX7_dutyFor 3 (some .int), Cond.constantLong RX7 80 (1000), Cond.methodLink RX7 77 yX7_part, Cond.static yX7_part, Cond.code yX7_part cX7_part 3 (some .int)]
def wsX7_pass : List Cond := .code yX7_pass cX7_pass 3 (some .int) :: ((wsX7_pass_r1 ++ wsX7_pass_r2) ++ wsX70)
def wsX7_day : List Cond := .code yX7_day cX7_day 1 (some .int) :: ([.fieldLink RX7 56 "GaugerhallModel" "thrown" "I", .fieldLink RX7 141 "GaugerhallModel" "day" "I"] ++ wsX70)
def wsX7_ofVessel : List Cond := .code yX7_ofVessel cX7_ofVessel 3 (some .int) :: ([.fieldLink RX7 56 "GaugerhallModel" "thrown" "I", .fieldLink RX7 16 "GaugerhallModel" "volume" "[I", .fieldLink RX7 19 "GaugerhallModel" "drops" "[I", .fieldLink RX7 7 "GaugerhallModel" "place" "[I", .fieldLink RX7 13 "GaugerhallModel" "capacity" "[I", .methodLink RX7 92 yX7_isVessel, .instanceMethod yX7_isVessel, .selects RX7 yX7_isVessel yX7_isVessel, .initialized RX7, .code yX7_isVessel cX7_isVessel 2 (some .boolean), .fieldLink RX7 59 "GaugerhallModel" "vessels" "I", .methodLink RX7 62 yX7_in, .static yX7_in, .code yX7_in cX7_in 3 (some .boolean), .methodLink RX7 66 yX7_strengthOf, .static yX7_strengthOf, .code yX7_strengthOf cX7_strengthOf 2 (some .int)] ++ wsX70)
def wsX7_dropsAnew : List Cond := .code yX7_dropsAnew cX7_dropsAnew 2 (some .int) :: ([.fieldLink RX7 56 "GaugerhallModel" "thrown" "I", .fieldLink RX7 19 "GaugerhallModel" "drops" "[I", .methodLink RX7 92 yX7_isVessel, .instanceMethod yX7_isVessel, .selects RX7 yX7_isVessel yX7_isVessel, .initialized RX7, .code yX7_isVessel cX7_isVessel 2 (some .boolean), .fieldLink RX7 59 "GaugerhallModel" "vessels" "I", .methodLink RX7 62 yX7_in, .static yX7_in, .code yX7_in cX7_in 3 (some .boolean)] ++ wsX70)
def wsX7_ofMovement : List Cond := .code yX7_ofMovement cX7_ofMovement 3 (some .int) :: ([.fieldLink RX7 147 "GaugerhallModel" "movements" "I", .fieldLink RX7 56 "GaugerhallModel" "thrown" "I", .fieldLink RX7 41 "GaugerhallModel" "state" "[I", .fieldLink RX7 47 "GaugerhallModel" "went" "[I", .fieldLink RX7 50 "GaugerhallModel" "wentDrops" "[I", .fieldLink RX7 53 "GaugerhallModel" "till" "[I", .methodLink RX7 62 yX7_in, .static yX7_in, .initialized RX7, .code yX7_in cX7_in 3 (some .boolean)] ++ wsX70)
def wsX7_inVessels : List Cond := .code yX7_inVessels cX7_inVessels 3 (some .int) :: ([.fieldLink RX7 59 "GaugerhallModel" "vessels" "I", .fieldLink RX7 19 "GaugerhallModel" "drops" "[I"] ++ wsX70)
def wsX7_ledger_r1 : List Cond := [Cond.fieldLink RX7 56 "GaugerhallModel" "thrown" "I", Cond.fieldLink RX7 25 "GaugerhallModel" "ledger" "[I", Cond.methodLink RX7 62 yX7_in, Cond.static yX7_in, Cond.initialized RX7, Cond.code yX7_in cX7_in 3 (some .boolean), Cond.methodLink RX7 160 yX7_inVessels, Cond.instanceMethod yX7_inVessels, Cond.selects RX7 yX7_inVessels yX7_inVessels, Cond.code yX7_inVessels cX7_inVessels 3 (some .int), Cond.fieldLink RX7 59 "GaugerhallModel" "vessels" "I", Cond.fieldLink RX7 19 "GaugerhallModel" "drops" "[I", Cond.methodLink RX7 150 yX7_moving, Cond.instanceMethod yX7_moving, Cond.selects RX7 yX7_moving yX7_moving, Cond.code yX7_moving cX7_moving 3 (some .int), Cond.fieldLink RX7 147 "GaugerhallModel" "movements" "I", Cond.fieldLink RX7 41 "GaugerhallModel" "state" "[I", Cond.fieldLink RX7 50 "GaugerhallModel" "wentDrops" "[I", Cond.methodLink RX7 136 yX7_inLots, Cond.instanceMethod yX7_inLots, Cond.selects RX7 yX7_inLots yX7_inLots, Cond.code yX7_inLots cX7_inLots 3 (some .int), Cond.fieldLink RX7 125 "GaugerhallModel" "lots" "I"]
def wsX7_ledger_r2 : List Cond := [Cond.fieldLink RX7 35 "GaugerhallModel" "lotDrops" "[I"]
def wsX7_ledger : List Cond := .code yX7_ledger cX7_ledger 2 (some .int) :: ((wsX7_ledger_r1 ++ wsX7_ledger_r2) ++ wsX70)
def wsX7_duty_r1 : List Cond := [Cond.fieldLink RX7 56 "GaugerhallModel" "thrown" "I", Cond.fieldLink RX7 85 "GaugerhallModel" "owed" "I", Cond.fieldLink RX7 28 "GaugerhallModel" "rate" "I", Cond.fieldLink RX7 32 "GaugerhallModel" "budgetDay" "I", Cond.fieldLink RX7 122 "GaugerhallModel" "quota" "I", Cond.constant RX7 128 (1000000), Cond.fieldLink RX7 129 "GaugerhallModel" "halves" "I", Cond.fieldLink RX7 133 "GaugerhallModel" "permit" "I", Cond.fieldLink RX7 153 "GaugerhallModel" "guarantee" "I", Cond.methodLink RX7 62 yX7_in, Cond.static yX7_in, Cond.initialized RX7, Cond.code yX7_in cX7_in 3 (some .boolean), Cond.methodLink RX7 150 yX7_moving, Cond.instanceMethod yX7_moving, Cond.selects RX7 yX7_moving yX7_moving, Cond.code yX7_moving cX7_moving 3 (some .int), Cond.fieldLink RX7 147 "GaugerhallModel" "movements" "I", Cond.fieldLink RX7 41 "GaugerhallModel" "state" "[I", Cond.fieldLink RX7 50 "GaugerhallModel" "wentDrops" "[I", Cond.methodLink RX7 82 yX7_dutyFor, Cond.instanceMethod yX7_dutyFor, Cond.selects RX7 yX7_dutyFor yX7_dutyFor, Cond.code yX7_dutyFor cX7_dutyFor 3 (some .int)]
def wsX7_duty_r2 : List Cond := [Cond.constantLong RX7 80 (1000)]
def wsX7_duty : List Cond := .code yX7_duty cX7_duty 2 (some .int) :: ((wsX7_duty_r1 ++ wsX7_duty_r2) ++ wsX70)
def wsJ9_abs_0f7a4 : List Cond := .code yJ9_abs_0f7a4 cJ9_abs_0f7a4 1 (some .int) :: ([])
def wsJ9_max_7cf53 : List Cond := .code yJ9_max_7cf53 cJ9_max_7cf53 2 (some .int) :: ([])
def wsJ9_min_7cf53 : List Cond := .code yJ9_min_7cf53 cJ9_min_7cf53 2 (some .int) :: ([])
def wsL_vessel_r1 : List Cond := [Cond.classLink RL 13 "java/lang/IndexOutOfBoundsException", Cond.methodLink RL 7 yX6_vessel, Cond.instanceMethod yX6_vessel, Cond.selects RX6 yX6_vessel yX6_vessel, Cond.initialized RX6, Cond.code yX6_vessel cX6_vessel 3 (some .int), Cond.classLink RX6 44 "java/lang/IndexOutOfBoundsException", Cond.initialized "java/lang/IndexOutOfBoundsException", Cond.classLink RX6 55 "java/lang/IllegalArgumentException", Cond.initialized "java/lang/IllegalArgumentException", Cond.classLink RX6 64 "java/lang/IllegalStateException", Cond.initialized "java/lang/IllegalStateException", Cond.fieldLink RX6 10 "Gaugerhall" "vessels" "Ljava/util/ArrayList;", Cond.classLink RX6 69 RX5, Cond.instantiable RX5 4, Cond.initialized RX5, Cond.methodLink RX6 40 yX6_isPlace, Cond.instanceMethod yX6_isPlace, Cond.selects RX6 yX6_isPlace yX6_isPlace, Cond.code yX6_isPlace cX6_isPlace 2 (some .boolean), Cond.fieldLink RX6 22 "Gaugerhall" "shareRates" "[I", Cond.methodLink RX6 51 yX6_isWithin, Cond.static yX6_isWithin, Cond.code yX6_isWithin cX6_isWithin 3 (some .boolean)]
def wsL_vessel_r2 : List Cond := [Cond.methodLink RX6 60 yJx4a65c_size_8abf5, Cond.instanceMethod yJx4a65c_size_8abf5, Cond.selects RJx4a65c yJx4a65c_size_8abf5 yJx4a65c_size_8abf5, Cond.initialized RJx4a65c, Cond.code yJx4a65c_size_8abf5 cJx4a65c_size_8abf5 1 (some .int), Cond.fieldLink RJx4a65c 48 "java/util/ArrayList" "size" "I", Cond.methodLink RX6 71 yX5_init, Cond.instanceMethod yX5_init, Cond.code yX5_init cX5_init 3 none, Cond.methodLink RX5 1 objectInit, Cond.instanceMethod objectInit, Cond.code objectInit ⟨#[0xb1]⟩ 1 none, Cond.fieldLink RX5 7 "Gaugerhall$Vessel" "place" "I", Cond.fieldLink RX5 13 "Gaugerhall$Vessel" "capacity" "I", Cond.methodLink RX6 74 yJx4a65c_add_9ea2d, Cond.instanceMethod yJx4a65c_add_9ea2d, Cond.selects RJx4a65c yJx4a65c_add_9ea2d yJx4a65c_add_9ea2d, Cond.code yJx4a65c_add_9ea2d cJx4a65c_add_9ea2d 2 (some .boolean), Cond.fieldLink RJx4a65c 63 "java/util/ArrayList" "modCount" "I", Cond.sameField "java/util/ArrayList" "java/util/AbstractList" "modCount" "I", Cond.fieldLink RJx4a65c 9 "java/util/ArrayList" "elementData" "[Ljava/lang/Object;", Cond.methodLink RJx4a65c 131 yJx4a65c_add_72be8, Cond.instanceMethod yJx4a65c_add_72be8, Cond.selects RJx4a65c yJx4a65c_add_72be8 yJx4a65c_add_72be8]
def wsL_vessel_r3 : List Cond := [Cond.code yJx4a65c_add_72be8 cJx4a65c_add_72be8 4 none, Cond.methodLink RJx4a65c 129 yJx4a65c_grow_d5877, Cond.instanceMethod yJx4a65c_grow_d5877, Cond.selects RJx4a65c yJx4a65c_grow_d5877 yJx4a65c_grow_d5877, Cond.code yJx4a65c_grow_d5877 cJx4a65c_grow_d5877 1 (some (.array (.object "java/lang/Object"))), Cond.methodLink RJx4a65c 69 yJx4a65c_grow_92f84, Cond.instanceMethod yJx4a65c_grow_92f84, Cond.selects RJx4a65c yJx4a65c_grow_92f84 yJx4a65c_grow_92f84, Cond.code yJx4a65c_grow_92f84 cJx4a65c_grow_92f84 4 (some (.array (.object "java/lang/Object"))), Cond.fieldLink RJx4a65c 39 "java/util/ArrayList" "DEFAULTCAPACITY_EMPTY_ELEMENTDATA" "[Ljava/lang/Object;", Cond.methodLink RJx4a65c 79 Lib.Math.max.name, Cond.static Lib.Math.max.name, Cond.initialized "java/lang/Math", Cond.code Lib.Math.max.name Lib.Math.max.code 2 (some .int), Cond.classLink RJx4a65c 7 "java/lang/Object", Cond.methodLink RJx4a65c 73 yJ8_newLength_cabcc, Cond.static yJ8_newLength_cabcc, Cond.initialized RJ8, Cond.code yJ8_newLength_cabcc cJ8_newLength_cabcc 4 (some .int), Cond.methodLink RJ8 194 Lib.Math.max.name, Cond.constant RJ8 200 (2147483639), Cond.methodLink RJ8 201 yJ8_hugeLength_7cf53, Cond.static yJ8_hugeLength_7cf53, Cond.code yJ8_hugeLength_7cf53 cJ8_hugeLength_7cf53 3 (some .int)]
def wsL_vessel_r4 : List Cond := [Cond.methodLink RJx4a65c 66 yJ7_copyOf_1904c, Cond.static yJ7_copyOf_1904c, Cond.initialized RJ7, Cond.code yJ7_copyOf_1904c cJ7_copyOf_1904c 2 (some (.array (.object "java/lang/Object"))), Cond.methodLink RJ7 86 ⟨"java/lang/Object", "getClass", "()Ljava/lang/Class;"⟩, Cond.selects "[Ljava/lang/Object;" ⟨"java/lang/Object", "getClass", "()Ljava/lang/Class;"⟩ ⟨"java/lang/Object", "getClass", "()Ljava/lang/Class;"⟩, Cond.instanceMethod ⟨"java/lang/Object", "getClass", "()Ljava/lang/Class;"⟩, Cond.native ⟨"java/lang/Object", "getClass", "()Ljava/lang/Class;"⟩, Cond.methodLink RJ7 300 yJ7_copyOf_6403c, Cond.static yJ7_copyOf_6403c, Cond.code yJ7_copyOf_6403c cJ7_copyOf_6403c 4 (some (.array (.object "java/lang/Object"))), Cond.classLink RJ7 110 "[Ljava/lang/Object;", Cond.classLink RJ7 2 "java/lang/Object", Cond.methodLink RJ7 304 Lib.Math.min.name, Cond.static Lib.Math.min.name, Cond.code Lib.Math.min.name Lib.Math.min.code 2 (some .int), Cond.methodLink RJ7 150 arraycopyName, Cond.native arraycopyName, Cond.static arraycopyName, Cond.initialized "java/lang/System"]
def wsL_vessel : List Cond := .codeWith yL_vessel cL_vessel 5 (some .int) [(0, 10, 13, 13), (0, 10, 17, 15), (0, 10, 21, 17)] :: ((wsL_vessel_r1 ++ (wsL_vessel_r2 ++ (wsL_vessel_r3 ++ wsL_vessel_r4))) ++ wsX60 ++ wsX50 ++ wsJx4a65c0 ++ (vx_atS RX6 48 "java/lang/IndexOutOfBoundsException" ["java/lang/RuntimeException", "java/lang/Exception"]).filter goodWord ++ (vx_atS RX6 59 "java/lang/IllegalArgumentException" ["java/lang/RuntimeException", "java/lang/Exception"]).filter goodWord ++ (vx_atS RX6 68 "java/lang/IllegalStateException" ["java/lang/RuntimeException", "java/lang/Exception"]).filter goodWord)
def wsL_shares : List Cond := .codeWith yL_shares cL_shares 5 (some .int) [(0, 10, 13, 13), (0, 10, 17, 15)] :: ([.classLink RL 13 "java/lang/IndexOutOfBoundsException", .methodLink RL 19 yX6_shares, .instanceMethod yX6_shares, .selects RX6 yX6_shares yX6_shares, .initialized RX6, .code yX6_shares cX6_shares 4 (some .int), .classLink RX6 44 "java/lang/IndexOutOfBoundsException", .initialized "java/lang/IndexOutOfBoundsException", .classLink RX6 55 "java/lang/IllegalArgumentException", .initialized "java/lang/IllegalArgumentException", .fieldLink RX6 22 "Gaugerhall" "shareRates" "[I", .methodLink RX6 40 yX6_isPlace, .instanceMethod yX6_isPlace, .selects RX6 yX6_isPlace yX6_isPlace, .code yX6_isPlace cX6_isPlace 2 (some .boolean), .methodLink RX6 51 yX6_isWithin, .static yX6_isWithin, .code yX6_isWithin cX6_isWithin 3 (some .boolean)] ++ wsX60 ++ (vx_atS RX6 48 "java/lang/IndexOutOfBoundsException" ["java/lang/RuntimeException", "java/lang/Exception"]).filter goodWord ++ (vx_atS RX6 59 "java/lang/IllegalArgumentException" ["java/lang/RuntimeException", "java/lang/Exception"]).filter goodWord)
def wsL_run_r1 : List Cond := [Cond.classLink RL 13 "java/lang/IndexOutOfBoundsException", Cond.methodLink RL 22 yX6_run, Cond.instanceMethod yX6_run, Cond.selects RX6 yX6_run yX6_run, Cond.initialized RX6, Cond.code yX6_run cX6_run 10 (some .int), Cond.classLink RX6 55 "java/lang/IllegalArgumentException", Cond.initialized "java/lang/IllegalArgumentException", Cond.classLink RX6 64 "java/lang/IllegalStateException", Cond.initialized "java/lang/IllegalStateException", Cond.fieldLink RX6 91 "Gaugerhall" "runs" "I", Cond.fieldLink RX6 36 "Gaugerhall" "book" "LGaugerhall$Ledger;", Cond.methodLink RX6 107 Lib.Math.max.name, Cond.static Lib.Math.max.name, Cond.initialized "java/lang/Math", Cond.code Lib.Math.max.name Lib.Math.max.code 2 (some .int), Cond.fieldLink RX6 29 "Gaugerhall" "excise" "LGaugerhall$Excise;", Cond.methodLink RX6 80 yX6_vesselOf, Cond.instanceMethod yX6_vesselOf, Cond.selects RX6 yX6_vesselOf yX6_vesselOf, Cond.code yX6_vesselOf cX6_vesselOf 2 (some (.object "Gaugerhall$Vessel")), Cond.classLink RX6 44 "java/lang/IndexOutOfBoundsException", Cond.initialized "java/lang/IndexOutOfBoundsException", Cond.fieldLink RX6 10 "Gaugerhall" "vessels" "Ljava/util/ArrayList;"]
def wsL_run_r2 : List Cond := [Cond.classLink RX6 69 "Gaugerhall$Vessel", Cond.methodLink RX6 60 yJx4a65c_size_8abf5, Cond.instanceMethod yJx4a65c_size_8abf5, Cond.selects RJx4a65c yJx4a65c_size_8abf5 yJx4a65c_size_8abf5, Cond.initialized RJx4a65c, Cond.code yJx4a65c_size_8abf5 cJx4a65c_size_8abf5 1 (some .int), Cond.fieldLink RJx4a65c 48 "java/util/ArrayList" "size" "I", Cond.methodLink RX6 194 yJx4a65c_get_915e3, Cond.instanceMethod yJx4a65c_get_915e3, Cond.selects RJx4a65c yJx4a65c_get_915e3 yJx4a65c_get_915e3, Cond.code yJx4a65c_get_915e3 cJx4a65c_get_915e3 2 (some (.object "java/lang/Object")), Cond.methodLink RJx4a65c 118 yJ15_checkIndex_7cf53, Cond.static yJ15_checkIndex_7cf53, Cond.initialized RJ15, Cond.code yJ15_checkIndex_7cf53 cJ15_checkIndex_7cf53 2 (some .int), Cond.methodLink RJ15 105 yJ3_checkIndex_8e157, Cond.static yJ3_checkIndex_8e157, Cond.initialized RJ3, Cond.code yJ3_checkIndex_8e157 cJ3_checkIndex_8e157 3 (some .int), Cond.methodLink RJx4a65c 123 yJx4a65c_elementData_915e3, Cond.instanceMethod yJx4a65c_elementData_915e3, Cond.selects RJx4a65c yJx4a65c_elementData_915e3 yJx4a65c_elementData_915e3, Cond.code yJx4a65c_elementData_915e3 cJx4a65c_elementData_915e3 2 (some (.object "java/lang/Object")), Cond.fieldLink RJx4a65c 9 "java/util/ArrayList" "elementData" "[Ljava/lang/Object;"]
def wsL_run_r3 : List Cond := [Cond.methodLink RX6 51 yX6_isWithin, Cond.static yX6_isWithin, Cond.code yX6_isWithin cX6_isWithin 3 (some .boolean), Cond.methodLink RX6 88 yX5_hasRoomFor, Cond.instanceMethod yX5_hasRoomFor, Cond.selects RX5 yX5_hasRoomFor yX5_hasRoomFor, Cond.initialized RX5, Cond.code yX5_hasRoomFor cX5_hasRoomFor 2 (some .boolean), Cond.fieldLink RX5 13 "Gaugerhall$Vessel" "capacity" "I", Cond.fieldLink RX5 16 "Gaugerhall$Vessel" "volume" "I", Cond.methodLink RX6 97 yX5_comeIn, Cond.instanceMethod yX5_comeIn, Cond.selects RX5 yX5_comeIn yX5_comeIn, Cond.code yX5_comeIn cX5_comeIn 5 none, Cond.fieldLink RX5 19 "Gaugerhall$Vessel" "drops" "I", Cond.methodLink RX5 32 Lib.Math.abs.name, Cond.static Lib.Math.abs.name, Cond.code Lib.Math.abs.name Lib.Math.abs.code 1 (some .int), Cond.methodLink RX5 37 Lib.Math.min.name, Cond.static Lib.Math.min.name, Cond.code Lib.Math.min.name Lib.Math.min.code 2 (some .int), Cond.static yX6_part, Cond.code yX6_part cX6_part 3 (some .int), Cond.methodLink RX6 103 yX6_part]
def wsL_run_r4 : List Cond := [Cond.methodLink RX6 116 yX1_chargeWhole, Cond.instanceMethod yX1_chargeWhole, Cond.selects RX1 yX1_chargeWhole yX1_chargeWhole, Cond.initialized RX1, Cond.code yX1_chargeWhole cX1_chargeWhole 3 (some .int), Cond.fieldLink RX1 27 "Gaugerhall$Excise" "owed" "I", Cond.methodLink RX1 23 yX1_dutyFor, Cond.instanceMethod yX1_dutyFor, Cond.selects RX1 yX1_dutyFor yX1_dutyFor, Cond.code yX1_dutyFor cX1_dutyFor 2 (some .int), Cond.fieldLink RX1 7 "Gaugerhall$Excise" "rate" "I"]
def wsL_run : List Cond := .codeWith yL_run cL_run 8 (some .int) [(0, 16, 19, 13), (0, 16, 23, 15), (0, 16, 27, 17)] :: ((wsL_run_r1 ++ (wsL_run_r2 ++ (wsL_run_r3 ++ wsL_run_r4))) ++ wsX60 ++ wsX20 ++ wsJx4a65c0 ++ wsX50 ++ wsX10 ++ (vx_atS RX6 59 "java/lang/IllegalArgumentException" ["java/lang/RuntimeException", "java/lang/Exception"]).filter goodWord ++ (vx_atS RX6 68 "java/lang/IllegalStateException" ["java/lang/RuntimeException", "java/lang/Exception"]).filter goodWord ++ (vx_atS RX6 48 "java/lang/IndexOutOfBoundsException" ["java/lang/RuntimeException", "java/lang/Exception"]).filter goodWord)
def wsL_move_r1 : List Cond := [Cond.classLink RL 13 "java/lang/IndexOutOfBoundsException", Cond.methodLink RL 26 yX6_move, Cond.instanceMethod yX6_move, Cond.selects RX6 yX6_move yX6_move, Cond.initialized RX6, Cond.code yX6_move cX6_move 6 (some .int), Cond.classLink RX6 55 "java/lang/IllegalArgumentException", Cond.initialized "java/lang/IllegalArgumentException", Cond.classLink RX6 64 "java/lang/IllegalStateException", Cond.initialized "java/lang/IllegalStateException", Cond.methodLink RX6 80 yX6_vesselOf, Cond.instanceMethod yX6_vesselOf, Cond.selects RX6 yX6_vesselOf yX6_vesselOf, Cond.code yX6_vesselOf cX6_vesselOf 2 (some (.object "Gaugerhall$Vessel")), Cond.classLink RX6 44 "java/lang/IndexOutOfBoundsException", Cond.initialized "java/lang/IndexOutOfBoundsException", Cond.fieldLink RX6 10 "Gaugerhall" "vessels" "Ljava/util/ArrayList;", Cond.classLink RX6 69 "Gaugerhall$Vessel", Cond.methodLink RX6 60 yJx4a65c_size_8abf5, Cond.instanceMethod yJx4a65c_size_8abf5, Cond.selects RJx4a65c yJx4a65c_size_8abf5 yJx4a65c_size_8abf5, Cond.initialized RJx4a65c, Cond.code yJx4a65c_size_8abf5 cJx4a65c_size_8abf5 1 (some .int), Cond.fieldLink RJx4a65c 48 "java/util/ArrayList" "size" "I"]
def wsL_move_r2 : List Cond := [Cond.methodLink RX6 194 yJx4a65c_get_915e3, Cond.instanceMethod yJx4a65c_get_915e3, Cond.selects RJx4a65c yJx4a65c_get_915e3 yJx4a65c_get_915e3, Cond.code yJx4a65c_get_915e3 cJx4a65c_get_915e3 2 (some (.object "java/lang/Object")), Cond.methodLink RJx4a65c 118 yJ15_checkIndex_7cf53, Cond.static yJ15_checkIndex_7cf53, Cond.initialized RJ15, Cond.code yJ15_checkIndex_7cf53 cJ15_checkIndex_7cf53 2 (some .int), Cond.methodLink RJ15 105 yJ3_checkIndex_8e157, Cond.static yJ3_checkIndex_8e157, Cond.initialized RJ3, Cond.code yJ3_checkIndex_8e157 cJ3_checkIndex_8e157 3 (some .int), Cond.methodLink RJx4a65c 123 yJx4a65c_elementData_915e3, Cond.instanceMethod yJx4a65c_elementData_915e3, Cond.selects RJx4a65c yJx4a65c_elementData_915e3 yJx4a65c_elementData_915e3, Cond.code yJx4a65c_elementData_915e3 cJx4a65c_elementData_915e3 2 (some (.object "java/lang/Object")), Cond.fieldLink RJx4a65c 9 "java/util/ArrayList" "elementData" "[Ljava/lang/Object;", Cond.methodLink RX6 125 yX5_has, Cond.instanceMethod yX5_has, Cond.selects RX5 yX5_has yX5_has, Cond.initialized RX5, Cond.code yX5_has cX5_has 2 (some .boolean), Cond.fieldLink RX5 16 "Gaugerhall$Vessel" "volume" "I", Cond.methodLink RX6 88 yX5_hasRoomFor]
def wsL_move_r3 : List Cond := [Cond.instanceMethod yX5_hasRoomFor, Cond.selects RX5 yX5_hasRoomFor yX5_hasRoomFor, Cond.code yX5_hasRoomFor cX5_hasRoomFor 2 (some .boolean), Cond.fieldLink RX5 13 "Gaugerhall$Vessel" "capacity" "I", Cond.methodLink RX6 130 yX5_takeOut, Cond.instanceMethod yX5_takeOut, Cond.selects RX5 yX5_takeOut yX5_takeOut, Cond.code yX5_takeOut cX5_takeOut 3 (some .int), Cond.fieldLink RX5 19 "Gaugerhall$Vessel" "drops" "I", Cond.methodLink RX5 28 yX5_dropsOf, Cond.instanceMethod yX5_dropsOf, Cond.selects RX5 yX5_dropsOf yX5_dropsOf, Cond.code yX5_dropsOf cX5_dropsOf 2 (some .int), Cond.static yX6_part, Cond.code yX6_part cX6_part 3 (some .int), Cond.methodLink RX6 97 yX5_comeIn, Cond.instanceMethod yX5_comeIn, Cond.selects RX5 yX5_comeIn yX5_comeIn, Cond.code yX5_comeIn cX5_comeIn 5 none, Cond.methodLink RX5 32 Lib.Math.abs.name, Cond.static Lib.Math.abs.name, Cond.initialized "java/lang/Math", Cond.code Lib.Math.abs.name Lib.Math.abs.code 1 (some .int), Cond.methodLink RX5 37 Lib.Math.min.name]
def wsL_move_r4 : List Cond := [Cond.static Lib.Math.min.name, Cond.code Lib.Math.min.name Lib.Math.min.code 2 (some .int)]
def wsL_move : List Cond := .codeWith yL_move cL_move 6 (some .int) [(0, 12, 15, 13), (0, 12, 19, 15), (0, 12, 23, 17)] :: ((wsL_move_r1 ++ (wsL_move_r2 ++ (wsL_move_r3 ++ wsL_move_r4))) ++ wsX50 ++ wsX60 ++ wsJx4a65c0 ++ (vx_atS RX6 59 "java/lang/IllegalArgumentException" ["java/lang/RuntimeException", "java/lang/Exception"]).filter goodWord ++ (vx_atS RX6 68 "java/lang/IllegalStateException" ["java/lang/RuntimeException", "java/lang/Exception"]).filter goodWord ++ (vx_atS RX6 48 "java/lang/IndexOutOfBoundsException" ["java/lang/RuntimeException", "java/lang/Exception"]).filter goodWord)
def wsL_dip_r1 : List Cond := [Cond.classLink RL 13 "java/lang/IndexOutOfBoundsException", Cond.methodLink RL 30 yX6_dip, Cond.instanceMethod yX6_dip, Cond.selects RX6 yX6_dip yX6_dip, Cond.initialized RX6, Cond.code yX6_dip cX6_dip 7 (some .int), Cond.classLink RX6 55 "java/lang/IllegalArgumentException", Cond.initialized "java/lang/IllegalArgumentException", Cond.classLink RX6 64 "java/lang/IllegalStateException", Cond.initialized "java/lang/IllegalStateException", Cond.fieldLink RX6 139 "Gaugerhall" "dips" "I", Cond.fieldLink RX6 36 "Gaugerhall" "book" "LGaugerhall$Ledger;", Cond.methodLink RX6 80 yX6_vesselOf, Cond.instanceMethod yX6_vesselOf, Cond.selects RX6 yX6_vesselOf yX6_vesselOf, Cond.code yX6_vesselOf cX6_vesselOf 2 (some (.object "Gaugerhall$Vessel")), Cond.classLink RX6 44 "java/lang/IndexOutOfBoundsException", Cond.initialized "java/lang/IndexOutOfBoundsException", Cond.fieldLink RX6 10 "Gaugerhall" "vessels" "Ljava/util/ArrayList;", Cond.classLink RX6 69 "Gaugerhall$Vessel", Cond.methodLink RX6 60 yJx4a65c_size_8abf5, Cond.instanceMethod yJx4a65c_size_8abf5, Cond.selects RJx4a65c yJx4a65c_size_8abf5 yJx4a65c_size_8abf5, Cond.initialized RJx4a65c]
def wsL_dip_r2 : List Cond := [Cond.code yJx4a65c_size_8abf5 cJx4a65c_size_8abf5 1 (some .int), Cond.fieldLink RJx4a65c 48 "java/util/ArrayList" "size" "I", Cond.methodLink RX6 194 yJx4a65c_get_915e3, Cond.instanceMethod yJx4a65c_get_915e3, Cond.selects RJx4a65c yJx4a65c_get_915e3 yJx4a65c_get_915e3, Cond.code yJx4a65c_get_915e3 cJx4a65c_get_915e3 2 (some (.object "java/lang/Object")), Cond.methodLink RJx4a65c 118 yJ15_checkIndex_7cf53, Cond.static yJ15_checkIndex_7cf53, Cond.initialized RJ15, Cond.code yJ15_checkIndex_7cf53 cJ15_checkIndex_7cf53 2 (some .int), Cond.methodLink RJ15 105 yJ3_checkIndex_8e157, Cond.static yJ3_checkIndex_8e157, Cond.initialized RJ3, Cond.code yJ3_checkIndex_8e157 cJ3_checkIndex_8e157 3 (some .int), Cond.methodLink RJx4a65c 123 yJx4a65c_elementData_915e3, Cond.instanceMethod yJx4a65c_elementData_915e3, Cond.selects RJx4a65c yJx4a65c_elementData_915e3 yJx4a65c_elementData_915e3, Cond.code yJx4a65c_elementData_915e3 cJx4a65c_elementData_915e3 2 (some (.object "java/lang/Object")), Cond.fieldLink RJx4a65c 9 "java/util/ArrayList" "elementData" "[Ljava/lang/Object;", Cond.methodLink RX6 51 yX6_isWithin, Cond.static yX6_isWithin, Cond.code yX6_isWithin cX6_isWithin 3 (some .boolean), Cond.methodLink RX6 147 yX6_miss, Cond.instanceMethod yX6_miss]
def wsL_dip_r3 : List Cond := [Cond.selects RX6 yX6_miss yX6_miss, Cond.code yX6_miss cX6_miss 2 (some .int), Cond.fieldLink RX6 29 "Gaugerhall" "excise" "LGaugerhall$Excise;", Cond.methodLink RX6 116 yX1_chargeWhole, Cond.instanceMethod yX1_chargeWhole, Cond.selects RX1 yX1_chargeWhole yX1_chargeWhole, Cond.initialized RX1, Cond.code yX1_chargeWhole cX1_chargeWhole 3 (some .int), Cond.fieldLink RX1 27 "Gaugerhall$Excise" "owed" "I", Cond.methodLink RX1 23 yX1_dutyFor, Cond.instanceMethod yX1_dutyFor, Cond.selects RX1 yX1_dutyFor yX1_dutyFor, Cond.code yX1_dutyFor cX1_dutyFor 2 (some .int), Cond.fieldLink RX1 7 "Gaugerhall$Excise" "rate" "I", Cond.static yX6_part, Cond.code yX6_part cX6_part 3 (some .int)]
def wsL_dip : List Cond := .codeWith yL_dip cL_dip 6 (some .int) [(0, 12, 15, 13), (0, 12, 19, 15), (0, 12, 23, 17)] :: ((wsL_dip_r1 ++ (wsL_dip_r2 ++ wsL_dip_r3)) ++ wsX50 ++ wsX60 ++ wsX20 ++ wsJx4a65c0 ++ wsX10 ++ (vx_atS RX6 59 "java/lang/IllegalArgumentException" ["java/lang/RuntimeException", "java/lang/Exception"]).filter goodWord ++ (vx_atS RX6 68 "java/lang/IllegalStateException" ["java/lang/RuntimeException", "java/lang/Exception"]).filter goodWord ++ (vx_atS RX6 48 "java/lang/IndexOutOfBoundsException" ["java/lang/RuntimeException", "java/lang/Exception"]).filter goodWord)
def wsL_lose_r1 : List Cond := [Cond.classLink RL 13 "java/lang/IndexOutOfBoundsException", Cond.methodLink RL 33 yX6_lose, Cond.instanceMethod yX6_lose, Cond.selects RX6 yX6_lose yX6_lose, Cond.initialized RX6, Cond.code yX6_lose cX6_lose 6 (some .int), Cond.classLink RX6 55 "java/lang/IllegalArgumentException", Cond.initialized "java/lang/IllegalArgumentException", Cond.classLink RX6 64 "java/lang/IllegalStateException", Cond.initialized "java/lang/IllegalStateException", Cond.fieldLink RX6 36 "Gaugerhall" "book" "LGaugerhall$Ledger;", Cond.methodLink RX6 80 yX6_vesselOf, Cond.instanceMethod yX6_vesselOf, Cond.selects RX6 yX6_vesselOf yX6_vesselOf, Cond.code yX6_vesselOf cX6_vesselOf 2 (some (.object "Gaugerhall$Vessel")), Cond.classLink RX6 44 "java/lang/IndexOutOfBoundsException", Cond.initialized "java/lang/IndexOutOfBoundsException", Cond.fieldLink RX6 10 "Gaugerhall" "vessels" "Ljava/util/ArrayList;", Cond.classLink RX6 69 "Gaugerhall$Vessel", Cond.methodLink RX6 60 yJx4a65c_size_8abf5, Cond.instanceMethod yJx4a65c_size_8abf5, Cond.selects RJx4a65c yJx4a65c_size_8abf5 yJx4a65c_size_8abf5, Cond.initialized RJx4a65c, Cond.code yJx4a65c_size_8abf5 cJx4a65c_size_8abf5 1 (some .int)]
def wsL_lose_r2 : List Cond := [Cond.fieldLink RJx4a65c 48 "java/util/ArrayList" "size" "I", Cond.methodLink RX6 194 yJx4a65c_get_915e3, Cond.instanceMethod yJx4a65c_get_915e3, Cond.selects RJx4a65c yJx4a65c_get_915e3 yJx4a65c_get_915e3, Cond.code yJx4a65c_get_915e3 cJx4a65c_get_915e3 2 (some (.object "java/lang/Object")), Cond.methodLink RJx4a65c 118 yJ15_checkIndex_7cf53, Cond.static yJ15_checkIndex_7cf53, Cond.initialized RJ15, Cond.code yJ15_checkIndex_7cf53 cJ15_checkIndex_7cf53 2 (some .int), Cond.methodLink RJ15 105 yJ3_checkIndex_8e157, Cond.static yJ3_checkIndex_8e157, Cond.initialized RJ3, Cond.code yJ3_checkIndex_8e157 cJ3_checkIndex_8e157 3 (some .int), Cond.methodLink RJx4a65c 123 yJx4a65c_elementData_915e3, Cond.instanceMethod yJx4a65c_elementData_915e3, Cond.selects RJx4a65c yJx4a65c_elementData_915e3 yJx4a65c_elementData_915e3, Cond.code yJx4a65c_elementData_915e3 cJx4a65c_elementData_915e3 2 (some (.object "java/lang/Object")), Cond.fieldLink RJx4a65c 9 "java/util/ArrayList" "elementData" "[Ljava/lang/Object;", Cond.methodLink RX6 125 yX5_has, Cond.instanceMethod yX5_has, Cond.selects RX5 yX5_has yX5_has, Cond.initialized RX5, Cond.code yX5_has cX5_has 2 (some .boolean), Cond.fieldLink RX5 16 "Gaugerhall$Vessel" "volume" "I"]
def wsL_lose_r3 : List Cond := [Cond.methodLink RX6 130 yX5_takeOut, Cond.instanceMethod yX5_takeOut, Cond.selects RX5 yX5_takeOut yX5_takeOut, Cond.code yX5_takeOut cX5_takeOut 3 (some .int), Cond.fieldLink RX5 19 "Gaugerhall$Vessel" "drops" "I", Cond.methodLink RX5 28 yX5_dropsOf, Cond.instanceMethod yX5_dropsOf, Cond.selects RX5 yX5_dropsOf yX5_dropsOf, Cond.code yX5_dropsOf cX5_dropsOf 2 (some .int), Cond.static yX6_part, Cond.code yX6_part cX6_part 3 (some .int), Cond.methodLink RX6 147 yX6_miss, Cond.instanceMethod yX6_miss, Cond.selects RX6 yX6_miss yX6_miss, Cond.code yX6_miss cX6_miss 2 (some .int), Cond.fieldLink RX6 29 "Gaugerhall" "excise" "LGaugerhall$Excise;", Cond.methodLink RX6 116 yX1_chargeWhole, Cond.instanceMethod yX1_chargeWhole, Cond.selects RX1 yX1_chargeWhole yX1_chargeWhole, Cond.initialized RX1, Cond.code yX1_chargeWhole cX1_chargeWhole 3 (some .int), Cond.fieldLink RX1 27 "Gaugerhall$Excise" "owed" "I", Cond.methodLink RX1 23 yX1_dutyFor, Cond.instanceMethod yX1_dutyFor]
def wsL_lose_r4 : List Cond := [Cond.selects RX1 yX1_dutyFor yX1_dutyFor, Cond.code yX1_dutyFor cX1_dutyFor 2 (some .int), Cond.fieldLink RX1 7 "Gaugerhall$Excise" "rate" "I"]
def wsL_lose : List Cond := .codeWith yL_lose cL_lose 6 (some .int) [(0, 12, 15, 13), (0, 12, 19, 15), (0, 12, 23, 17)] :: ((wsL_lose_r1 ++ (wsL_lose_r2 ++ (wsL_lose_r3 ++ wsL_lose_r4))) ++ wsX60 ++ wsX20 ++ wsJx4a65c0 ++ wsX50 ++ wsX10 ++ (vx_atS RX6 59 "java/lang/IllegalArgumentException" ["java/lang/RuntimeException", "java/lang/Exception"]).filter goodWord ++ (vx_atS RX6 68 "java/lang/IllegalStateException" ["java/lang/RuntimeException", "java/lang/Exception"]).filter goodWord ++ (vx_atS RX6 48 "java/lang/IndexOutOfBoundsException" ["java/lang/RuntimeException", "java/lang/Exception"]).filter goodWord)
def wsL_release_r1 : List Cond := [Cond.classLink RL 13 "java/lang/IndexOutOfBoundsException", Cond.methodLink RL 37 yX6_release, Cond.instanceMethod yX6_release, Cond.selects RX6 yX6_release yX6_release, Cond.initialized RX6, Cond.code yX6_release cX6_release 6 (some .int), Cond.classLink RX6 55 "java/lang/IllegalArgumentException", Cond.initialized "java/lang/IllegalArgumentException", Cond.classLink RX6 64 "java/lang/IllegalStateException", Cond.initialized "java/lang/IllegalStateException", Cond.fieldLink RX6 19 "Gaugerhall" "lots" "Ljava/util/ArrayList;", Cond.fieldLink RX6 159 "Gaugerhall" "coming" "LGaugerhall$Budget;", Cond.fieldLink RX6 29 "Gaugerhall" "excise" "LGaugerhall$Excise;", Cond.classLink RX6 176 RX3, Cond.instantiable RX3 2, Cond.initialized RX3, Cond.methodLink RX6 80 yX6_vesselOf, Cond.instanceMethod yX6_vesselOf, Cond.selects RX6 yX6_vesselOf yX6_vesselOf, Cond.code yX6_vesselOf cX6_vesselOf 2 (some (.object "Gaugerhall$Vessel")), Cond.classLink RX6 44 "java/lang/IndexOutOfBoundsException", Cond.initialized "java/lang/IndexOutOfBoundsException", Cond.fieldLink RX6 10 "Gaugerhall" "vessels" "Ljava/util/ArrayList;", Cond.classLink RX6 69 "Gaugerhall$Vessel"]
def wsL_release_r2 : List Cond := [Cond.methodLink RX6 60 yJx4a65c_size_8abf5, Cond.instanceMethod yJx4a65c_size_8abf5, Cond.selects RJx4a65c yJx4a65c_size_8abf5 yJx4a65c_size_8abf5, Cond.initialized RJx4a65c, Cond.code yJx4a65c_size_8abf5 cJx4a65c_size_8abf5 1 (some .int), Cond.fieldLink RJx4a65c 48 "java/util/ArrayList" "size" "I", Cond.methodLink RX6 194 yJx4a65c_get_915e3, Cond.instanceMethod yJx4a65c_get_915e3, Cond.selects RJx4a65c yJx4a65c_get_915e3 yJx4a65c_get_915e3, Cond.code yJx4a65c_get_915e3 cJx4a65c_get_915e3 2 (some (.object "java/lang/Object")), Cond.methodLink RJx4a65c 118 yJ15_checkIndex_7cf53, Cond.static yJ15_checkIndex_7cf53, Cond.initialized RJ15, Cond.code yJ15_checkIndex_7cf53 cJ15_checkIndex_7cf53 2 (some .int), Cond.methodLink RJ15 105 yJ3_checkIndex_8e157, Cond.static yJ3_checkIndex_8e157, Cond.initialized RJ3, Cond.code yJ3_checkIndex_8e157 cJ3_checkIndex_8e157 3 (some .int), Cond.methodLink RJx4a65c 123 yJx4a65c_elementData_915e3, Cond.instanceMethod yJx4a65c_elementData_915e3, Cond.selects RJx4a65c yJx4a65c_elementData_915e3 yJx4a65c_elementData_915e3, Cond.code yJx4a65c_elementData_915e3 cJx4a65c_elementData_915e3 2 (some (.object "java/lang/Object")), Cond.fieldLink RJx4a65c 9 "java/util/ArrayList" "elementData" "[Ljava/lang/Object;", Cond.methodLink RX6 125 yX5_has]
def wsL_release_r3 : List Cond := [Cond.instanceMethod yX5_has, Cond.selects RX5 yX5_has yX5_has, Cond.initialized RX5, Cond.code yX5_has cX5_has 2 (some .boolean), Cond.fieldLink RX5 16 "Gaugerhall$Vessel" "volume" "I", Cond.methodLink RX6 163 yX5_dropsOf, Cond.instanceMethod yX5_dropsOf, Cond.selects RX5 yX5_dropsOf yX5_dropsOf, Cond.code yX5_dropsOf cX5_dropsOf 2 (some .int), Cond.fieldLink RX5 19 "Gaugerhall$Vessel" "drops" "I", Cond.static yX6_part, Cond.code yX6_part cX6_part 3 (some .int), Cond.methodLink RX6 130 yX5_takeOut, Cond.instanceMethod yX5_takeOut, Cond.selects RX5 yX5_takeOut yX5_takeOut, Cond.code yX5_takeOut cX5_takeOut 3 (some .int), Cond.methodLink RX5 28 yX5_dropsOf, Cond.methodLink RX6 173 yX1_chargeLeaving, Cond.instanceMethod yX1_chargeLeaving, Cond.selects RX1 yX1_chargeLeaving yX1_chargeLeaving, Cond.initialized RX1, Cond.code yX1_chargeLeaving cX1_chargeLeaving 4 (some .int), Cond.fieldLink RX1 14 "Gaugerhall$Excise" "leftForHalf" "I", Cond.methodLink RX1 30 Lib.Math.min.name]
def wsL_release_r4 : List Cond := [Cond.static Lib.Math.min.name, Cond.initialized "java/lang/Math", Cond.code Lib.Math.min.name Lib.Math.min.code 2 (some .int), Cond.fieldLink RX1 7 "Gaugerhall$Excise" "rate" "I", Cond.fieldLink RX1 27 "Gaugerhall$Excise" "owed" "I", Cond.methodLink RX1 23 yX1_dutyFor, Cond.instanceMethod yX1_dutyFor, Cond.selects RX1 yX1_dutyFor yX1_dutyFor, Cond.code yX1_dutyFor cX1_dutyFor 2 (some .int), Cond.methodLink RX6 178 yX3_init, Cond.instanceMethod yX3_init, Cond.code yX3_init cX3_init 3 none, Cond.methodLink RX3 1 objectInit, Cond.instanceMethod objectInit, Cond.code objectInit ⟨#[0xb1]⟩ 1 none, Cond.fieldLink RX3 7 "Gaugerhall$Lot" "drops" "I", Cond.fieldLink RX3 13 "Gaugerhall$Lot" "money" "I", Cond.methodLink RX6 74 yJx4a65c_add_9ea2d, Cond.instanceMethod yJx4a65c_add_9ea2d, Cond.selects RJx4a65c yJx4a65c_add_9ea2d yJx4a65c_add_9ea2d, Cond.code yJx4a65c_add_9ea2d cJx4a65c_add_9ea2d 2 (some .boolean), Cond.fieldLink RJx4a65c 63 "java/util/ArrayList" "modCount" "I", Cond.sameField "java/util/ArrayList" "java/util/AbstractList" "modCount" "I", Cond.methodLink RJx4a65c 131 yJx4a65c_add_72be8]
def wsL_release_r5 : List Cond := [Cond.instanceMethod yJx4a65c_add_72be8, Cond.selects RJx4a65c yJx4a65c_add_72be8 yJx4a65c_add_72be8, Cond.code yJx4a65c_add_72be8 cJx4a65c_add_72be8 4 none, Cond.methodLink RJx4a65c 129 yJx4a65c_grow_d5877, Cond.instanceMethod yJx4a65c_grow_d5877, Cond.selects RJx4a65c yJx4a65c_grow_d5877 yJx4a65c_grow_d5877, Cond.code yJx4a65c_grow_d5877 cJx4a65c_grow_d5877 1 (some (.array (.object "java/lang/Object"))), Cond.methodLink RJx4a65c 69 yJx4a65c_grow_92f84, Cond.instanceMethod yJx4a65c_grow_92f84, Cond.selects RJx4a65c yJx4a65c_grow_92f84 yJx4a65c_grow_92f84, Cond.code yJx4a65c_grow_92f84 cJx4a65c_grow_92f84 4 (some (.array (.object "java/lang/Object"))), Cond.fieldLink RJx4a65c 39 "java/util/ArrayList" "DEFAULTCAPACITY_EMPTY_ELEMENTDATA" "[Ljava/lang/Object;", Cond.methodLink RJx4a65c 79 Lib.Math.max.name, Cond.static Lib.Math.max.name, Cond.code Lib.Math.max.name Lib.Math.max.code 2 (some .int), Cond.classLink RJx4a65c 7 "java/lang/Object", Cond.methodLink RJx4a65c 73 yJ8_newLength_cabcc, Cond.static yJ8_newLength_cabcc, Cond.initialized RJ8, Cond.code yJ8_newLength_cabcc cJ8_newLength_cabcc 4 (some .int), Cond.methodLink RJ8 194 Lib.Math.max.name, Cond.constant RJ8 200 (2147483639), Cond.methodLink RJ8 201 yJ8_hugeLength_7cf53, Cond.static yJ8_hugeLength_7cf53]
def wsL_release_r6 : List Cond := [Cond.code yJ8_hugeLength_7cf53 cJ8_hugeLength_7cf53 3 (some .int), Cond.methodLink RJx4a65c 66 yJ7_copyOf_1904c, Cond.static yJ7_copyOf_1904c, Cond.initialized RJ7, Cond.code yJ7_copyOf_1904c cJ7_copyOf_1904c 2 (some (.array (.object "java/lang/Object"))), Cond.methodLink RJ7 86 ⟨"java/lang/Object", "getClass", "()Ljava/lang/Class;"⟩, Cond.selects "[Ljava/lang/Object;" ⟨"java/lang/Object", "getClass", "()Ljava/lang/Class;"⟩ ⟨"java/lang/Object", "getClass", "()Ljava/lang/Class;"⟩, Cond.instanceMethod ⟨"java/lang/Object", "getClass", "()Ljava/lang/Class;"⟩, Cond.native ⟨"java/lang/Object", "getClass", "()Ljava/lang/Class;"⟩, Cond.methodLink RJ7 300 yJ7_copyOf_6403c, Cond.static yJ7_copyOf_6403c, Cond.code yJ7_copyOf_6403c cJ7_copyOf_6403c 4 (some (.array (.object "java/lang/Object"))), Cond.classLink RJ7 110 "[Ljava/lang/Object;", Cond.classLink RJ7 2 "java/lang/Object", Cond.methodLink RJ7 304 Lib.Math.min.name, Cond.methodLink RJ7 150 arraycopyName, Cond.native arraycopyName, Cond.static arraycopyName, Cond.initialized "java/lang/System"]
def wsL_release : List Cond := .codeWith yL_release cL_release 5 (some .int) [(0, 10, 13, 13), (0, 10, 17, 15), (0, 10, 21, 17)] :: ((wsL_release_r1 ++ (wsL_release_r2 ++ (wsL_release_r3 ++ (wsL_release_r4 ++ (wsL_release_r5 ++ wsL_release_r6))))) ++ wsX60 ++ wsX00 ++ wsX30 ++ wsJx4a65c0 ++ wsX50 ++ wsX10 ++ (vx_atS RX6 59 "java/lang/IllegalArgumentException" ["java/lang/RuntimeException", "java/lang/Exception"]).filter goodWord ++ (vx_atS RX6 68 "java/lang/IllegalStateException" ["java/lang/RuntimeException", "java/lang/Exception"]).filter goodWord ++ (vx_atS RX6 48 "java/lang/IndexOutOfBoundsException" ["java/lang/RuntimeException", "java/lang/Exception"]).filter goodWord)
def wsL_permit : List Cond := .codeWith yL_permit cL_permit 4 (some .int) [(0, 9, 12, 15)] :: ([.classLink RL 15 "java/lang/IllegalArgumentException", .methodLink RL 40 yX6_permit, .instanceMethod yX6_permit, .selects RX6 yX6_permit yX6_permit, .initialized RX6, .code yX6_permit cX6_permit 3 (some .int), .classLink RX6 55 "java/lang/IllegalArgumentException", .initialized "java/lang/IllegalArgumentException", .constant RX6 179 (9999999), .fieldLink RX6 182 "Gaugerhall" "permitted" "I", .methodLink RX6 51 yX6_isWithin, .static yX6_isWithin, .code yX6_isWithin cX6_isWithin 3 (some .boolean)] ++ wsX60 ++ (vx_atS RX6 59 "java/lang/IllegalArgumentException" ["java/lang/RuntimeException", "java/lang/Exception"]).filter goodWord)
def wsL_denature_r1 : List Cond := [Cond.classLink RL 13 "java/lang/IndexOutOfBoundsException", Cond.methodLink RL 44 yX6_denature, Cond.instanceMethod yX6_denature, Cond.selects RX6 yX6_denature yX6_denature, Cond.initialized RX6, Cond.code yX6_denature cX6_denature 5 (some .int), Cond.classLink RX6 55 "java/lang/IllegalArgumentException", Cond.initialized "java/lang/IllegalArgumentException", Cond.classLink RX6 64 "java/lang/IllegalStateException", Cond.initialized "java/lang/IllegalStateException", Cond.fieldLink RX6 182 "Gaugerhall" "permitted" "I", Cond.fieldLink RX6 36 "Gaugerhall" "book" "LGaugerhall$Ledger;", Cond.methodLink RX6 80 yX6_vesselOf, Cond.instanceMethod yX6_vesselOf, Cond.selects RX6 yX6_vesselOf yX6_vesselOf, Cond.code yX6_vesselOf cX6_vesselOf 2 (some (.object "Gaugerhall$Vessel")), Cond.classLink RX6 44 "java/lang/IndexOutOfBoundsException", Cond.initialized "java/lang/IndexOutOfBoundsException", Cond.fieldLink RX6 10 "Gaugerhall" "vessels" "Ljava/util/ArrayList;", Cond.classLink RX6 69 "Gaugerhall$Vessel", Cond.methodLink RX6 60 yJx4a65c_size_8abf5, Cond.instanceMethod yJx4a65c_size_8abf5, Cond.selects RJx4a65c yJx4a65c_size_8abf5 yJx4a65c_size_8abf5, Cond.initialized RJx4a65c]
def wsL_denature_r2 : List Cond := [Cond.code yJx4a65c_size_8abf5 cJx4a65c_size_8abf5 1 (some .int), Cond.fieldLink RJx4a65c 48 "java/util/ArrayList" "size" "I", Cond.methodLink RX6 194 yJx4a65c_get_915e3, Cond.instanceMethod yJx4a65c_get_915e3, Cond.selects RJx4a65c yJx4a65c_get_915e3 yJx4a65c_get_915e3, Cond.code yJx4a65c_get_915e3 cJx4a65c_get_915e3 2 (some (.object "java/lang/Object")), Cond.methodLink RJx4a65c 118 yJ15_checkIndex_7cf53, Cond.static yJ15_checkIndex_7cf53, Cond.initialized RJ15, Cond.code yJ15_checkIndex_7cf53 cJ15_checkIndex_7cf53 2 (some .int), Cond.methodLink RJ15 105 yJ3_checkIndex_8e157, Cond.static yJ3_checkIndex_8e157, Cond.initialized RJ3, Cond.code yJ3_checkIndex_8e157 cJ3_checkIndex_8e157 3 (some .int), Cond.methodLink RJx4a65c 123 yJx4a65c_elementData_915e3, Cond.instanceMethod yJx4a65c_elementData_915e3, Cond.selects RJx4a65c yJx4a65c_elementData_915e3 yJx4a65c_elementData_915e3, Cond.code yJx4a65c_elementData_915e3 cJx4a65c_elementData_915e3 2 (some (.object "java/lang/Object")), Cond.fieldLink RJx4a65c 9 "java/util/ArrayList" "elementData" "[Ljava/lang/Object;", Cond.methodLink RX6 125 yX5_has, Cond.instanceMethod yX5_has, Cond.selects RX5 yX5_has yX5_has, Cond.initialized RX5, Cond.code yX5_has cX5_has 2 (some .boolean)]
def wsL_denature_r3 : List Cond := [Cond.fieldLink RX5 16 "Gaugerhall$Vessel" "volume" "I", Cond.methodLink RX6 163 yX5_dropsOf, Cond.instanceMethod yX5_dropsOf, Cond.selects RX5 yX5_dropsOf yX5_dropsOf, Cond.code yX5_dropsOf cX5_dropsOf 2 (some .int), Cond.fieldLink RX5 19 "Gaugerhall$Vessel" "drops" "I", Cond.static yX6_part, Cond.code yX6_part cX6_part 3 (some .int), Cond.methodLink RX6 130 yX5_takeOut, Cond.instanceMethod yX5_takeOut, Cond.selects RX5 yX5_takeOut yX5_takeOut, Cond.code yX5_takeOut cX5_takeOut 3 (some .int), Cond.methodLink RX5 28 yX5_dropsOf]
def wsL_denature : List Cond := .codeWith yL_denature cL_denature 5 (some .int) [(0, 10, 13, 13), (0, 10, 17, 15), (0, 10, 21, 17)] :: ((wsL_denature_r1 ++ (wsL_denature_r2 ++ wsL_denature_r3)) ++ wsX60 ++ wsX20 ++ wsJx4a65c0 ++ wsX50 ++ (vx_atS RX6 59 "java/lang/IllegalArgumentException" ["java/lang/RuntimeException", "java/lang/Exception"]).filter goodWord ++ (vx_atS RX6 68 "java/lang/IllegalStateException" ["java/lang/RuntimeException", "java/lang/Exception"]).filter goodWord ++ (vx_atS RX6 48 "java/lang/IndexOutOfBoundsException" ["java/lang/RuntimeException", "java/lang/Exception"]).filter goodWord)
def wsL_export_r1 : List Cond := [Cond.classLink RL 15 "java/lang/IllegalArgumentException", Cond.methodLink RL 47 yX6_export, Cond.instanceMethod yX6_export, Cond.selects RX6 yX6_export yX6_export, Cond.initialized RX6, Cond.code yX6_export cX6_export 7 (some .int), Cond.classLink RX6 55 "java/lang/IllegalArgumentException", Cond.initialized "java/lang/IllegalArgumentException", Cond.classLink RX6 64 "java/lang/IllegalStateException", Cond.initialized "java/lang/IllegalStateException", Cond.fieldLink RX6 19 "Gaugerhall" "lots" "Ljava/util/ArrayList;", Cond.classLink RX6 176 "Gaugerhall$Lot", Cond.methodLink RX6 199 Lib.Math.min.name, Cond.static Lib.Math.min.name, Cond.initialized "java/lang/Math", Cond.code Lib.Math.min.name Lib.Math.min.code 2 (some .int), Cond.fieldLink RX6 29 "Gaugerhall" "excise" "LGaugerhall$Excise;", Cond.fieldLink RX6 36 "Gaugerhall" "book" "LGaugerhall$Ledger;", Cond.methodLink RX6 189 yX6_dropsInLots, Cond.instanceMethod yX6_dropsInLots, Cond.selects RX6 yX6_dropsInLots yX6_dropsInLots, Cond.code yX6_dropsInLots cX6_dropsInLots 3 (some .int), Cond.methodLink RX6 60 yJx4a65c_size_8abf5, Cond.instanceMethod yJx4a65c_size_8abf5]
def wsL_export_r2 : List Cond := [Cond.selects RJx4a65c yJx4a65c_size_8abf5 yJx4a65c_size_8abf5, Cond.initialized RJx4a65c, Cond.code yJx4a65c_size_8abf5 cJx4a65c_size_8abf5 1 (some .int), Cond.fieldLink RJx4a65c 48 "java/util/ArrayList" "size" "I", Cond.methodLink RX6 194 yJx4a65c_get_915e3, Cond.instanceMethod yJx4a65c_get_915e3, Cond.selects RJx4a65c yJx4a65c_get_915e3 yJx4a65c_get_915e3, Cond.code yJx4a65c_get_915e3 cJx4a65c_get_915e3 2 (some (.object "java/lang/Object")), Cond.methodLink RJx4a65c 118 yJ15_checkIndex_7cf53, Cond.static yJ15_checkIndex_7cf53, Cond.initialized RJ15, Cond.code yJ15_checkIndex_7cf53 cJ15_checkIndex_7cf53 2 (some .int), Cond.methodLink RJ15 105 yJ3_checkIndex_8e157, Cond.static yJ3_checkIndex_8e157, Cond.initialized RJ3, Cond.code yJ3_checkIndex_8e157 cJ3_checkIndex_8e157 3 (some .int), Cond.methodLink RJx4a65c 123 yJx4a65c_elementData_915e3, Cond.instanceMethod yJx4a65c_elementData_915e3, Cond.selects RJx4a65c yJx4a65c_elementData_915e3 yJx4a65c_elementData_915e3, Cond.code yJx4a65c_elementData_915e3 cJx4a65c_elementData_915e3 2 (some (.object "java/lang/Object")), Cond.fieldLink RJx4a65c 9 "java/util/ArrayList" "elementData" "[Ljava/lang/Object;", Cond.methodLink RX6 202 yX3_drawBack, Cond.instanceMethod yX3_drawBack, Cond.selects RX3 yX3_drawBack yX3_drawBack]
def wsL_export_r3 : List Cond := [Cond.initialized RX3, Cond.code yX3_drawBack cX3_drawBack 3 (some .int), Cond.fieldLink RX3 13 "Gaugerhall$Lot" "money" "I", Cond.fieldLink RX3 7 "Gaugerhall$Lot" "drops" "I", Cond.static yX6_part, Cond.code yX6_part cX6_part 3 (some .int)]
def wsL_export : List Cond := .codeWith yL_export cL_export 4 (some .int) [(0, 9, 12, 15), (0, 9, 15, 17)] :: ((wsL_export_r1 ++ (wsL_export_r2 ++ wsL_export_r3)) ++ wsX60 ++ wsX30 ++ wsX10 ++ wsX20 ++ wsJx4a65c0 ++ (vx_atS RX6 59 "java/lang/IllegalArgumentException" ["java/lang/RuntimeException", "java/lang/Exception"]).filter goodWord ++ (vx_atS RX6 68 "java/lang/IllegalStateException" ["java/lang/RuntimeException", "java/lang/Exception"]).filter goodWord)
def wsL_pay : List Cond := .codeWith yL_pay cL_pay 4 (some .int) [(0, 9, 12, 15), (0, 9, 15, 17)] :: ([.classLink RL 15 "java/lang/IllegalArgumentException", .methodLink RL 50 yX6_pay, .instanceMethod yX6_pay, .selects RX6 yX6_pay yX6_pay, .initialized RX6, .code yX6_pay cX6_pay 2 (some .int), .classLink RX6 55 "java/lang/IllegalArgumentException", .initialized "java/lang/IllegalArgumentException", .classLink RX6 64 "java/lang/IllegalStateException", .initialized "java/lang/IllegalStateException", .constant RX6 211 (999999), .fieldLink RX6 29 "Gaugerhall" "excise" "LGaugerhall$Excise;", .methodLink RX6 51 yX6_isWithin, .static yX6_isWithin, .code yX6_isWithin cX6_isWithin 3 (some .boolean)] ++ wsX60 ++ wsX10 ++ (vx_atS RX6 59 "java/lang/IllegalArgumentException" ["java/lang/RuntimeException", "java/lang/Exception"]).filter goodWord ++ (vx_atS RX6 68 "java/lang/IllegalStateException" ["java/lang/RuntimeException", "java/lang/Exception"]).filter goodWord)
def wsL_budget_r1 : List Cond := [Cond.classLink RL 15 "java/lang/IllegalArgumentException", Cond.methodLink RL 53 yX6_budget, Cond.instanceMethod yX6_budget, Cond.selects RX6 yX6_budget yX6_budget, Cond.initialized RX6, Cond.code yX6_budget cX6_budget 4 none, Cond.classLink RX6 55 "java/lang/IllegalArgumentException", Cond.initialized "java/lang/IllegalArgumentException", Cond.classLink RX6 64 "java/lang/IllegalStateException", Cond.initialized "java/lang/IllegalStateException", Cond.fieldLink RX6 216 "Gaugerhall" "today" "I", Cond.constant RX6 179 (9999999), Cond.fieldLink RX6 159 "Gaugerhall" "coming" "LGaugerhall$Budget;", Cond.classLink RX6 167 RX0, Cond.instantiable RX0 3, Cond.initialized RX0, Cond.methodLink RX6 51 yX6_isWithin, Cond.static yX6_isWithin, Cond.code yX6_isWithin cX6_isWithin 3 (some .boolean), Cond.methodLink RX6 225 yX0_init, Cond.instanceMethod yX0_init, Cond.code yX0_init cX0_init 4 none, Cond.methodLink RX0 1 objectInit, Cond.instanceMethod objectInit]
def wsL_budget_r2 : List Cond := [Cond.code objectInit ⟨#[0xb1]⟩ 1 none, Cond.fieldLink RX0 7 "Gaugerhall$Budget" "day" "I", Cond.fieldLink RX0 13 "Gaugerhall$Budget" "rate" "I", Cond.fieldLink RX0 16 "Gaugerhall$Budget" "quota" "I"]
def wsL_budget : List Cond := .codeWith yL_budget cL_budget 5 (some .int) [(0, 7, 10, 15), (0, 7, 14, 17)] :: ((wsL_budget_r1 ++ wsL_budget_r2) ++ wsX60 ++ wsX00 ++ (vx_atS RX6 59 "java/lang/IllegalArgumentException" ["java/lang/RuntimeException", "java/lang/Exception"]).filter goodWord ++ (vx_atS RX6 68 "java/lang/IllegalStateException" ["java/lang/RuntimeException", "java/lang/Exception"]).filter goodWord)
def wsL_guarantee_r1 : List Cond := [Cond.classLink RL 15 "java/lang/IllegalArgumentException", Cond.methodLink RL 57 yX6_guarantee, Cond.instanceMethod yX6_guarantee, Cond.selects RX6 yX6_guarantee yX6_guarantee, Cond.initialized RX6, Cond.code yX6_guarantee cX6_guarantee 3 (some .int), Cond.classLink RX6 55 "java/lang/IllegalArgumentException", Cond.initialized "java/lang/IllegalArgumentException", Cond.classLink RX6 64 "java/lang/IllegalStateException", Cond.initialized "java/lang/IllegalStateException", Cond.constant RX6 179 (9999999), Cond.fieldLink RX6 29 "Gaugerhall" "excise" "LGaugerhall$Excise;", Cond.fieldLink RX6 236 "Gaugerhall" "guaranteed" "I", Cond.methodLink RX6 51 yX6_isWithin, Cond.static yX6_isWithin, Cond.code yX6_isWithin cX6_isWithin 3 (some .boolean), Cond.methodLink RX6 228 yX6_dropsThatMove, Cond.instanceMethod yX6_dropsThatMove, Cond.selects RX6 yX6_dropsThatMove yX6_dropsThatMove, Cond.code yX6_dropsThatMove cX6_dropsThatMove 4 (some .int), Cond.fieldLink RX6 16 "Gaugerhall" "movements" "Ljava/util/ArrayList;", Cond.classLink RX6 245 "Gaugerhall$Movement", Cond.methodLink RX6 60 yJx4a65c_size_8abf5, Cond.instanceMethod yJx4a65c_size_8abf5]
def wsL_guarantee_r2 : List Cond := [Cond.selects RJx4a65c yJx4a65c_size_8abf5 yJx4a65c_size_8abf5, Cond.initialized RJx4a65c, Cond.code yJx4a65c_size_8abf5 cJx4a65c_size_8abf5 1 (some .int), Cond.fieldLink RJx4a65c 48 "java/util/ArrayList" "size" "I", Cond.methodLink RX6 194 yJx4a65c_get_915e3, Cond.instanceMethod yJx4a65c_get_915e3, Cond.selects RJx4a65c yJx4a65c_get_915e3 yJx4a65c_get_915e3, Cond.code yJx4a65c_get_915e3 cJx4a65c_get_915e3 2 (some (.object "java/lang/Object")), Cond.methodLink RJx4a65c 118 yJ15_checkIndex_7cf53, Cond.static yJ15_checkIndex_7cf53, Cond.initialized RJ15, Cond.code yJ15_checkIndex_7cf53 cJ15_checkIndex_7cf53 2 (some .int), Cond.methodLink RJ15 105 yJ3_checkIndex_8e157, Cond.static yJ3_checkIndex_8e157, Cond.initialized RJ3, Cond.code yJ3_checkIndex_8e157 cJ3_checkIndex_8e157 3 (some .int), Cond.methodLink RJx4a65c 123 yJx4a65c_elementData_915e3, Cond.instanceMethod yJx4a65c_elementData_915e3, Cond.selects RJx4a65c yJx4a65c_elementData_915e3 yJx4a65c_elementData_915e3, Cond.code yJx4a65c_elementData_915e3 cJx4a65c_elementData_915e3 2 (some (.object "java/lang/Object")), Cond.fieldLink RJx4a65c 9 "java/util/ArrayList" "elementData" "[Ljava/lang/Object;", Cond.methodLink RX6 231 yX1_dutyFor, Cond.instanceMethod yX1_dutyFor, Cond.selects RX1 yX1_dutyFor yX1_dutyFor]
def wsL_guarantee_r3 : List Cond := [Cond.initialized RX1, Cond.code yX1_dutyFor cX1_dutyFor 2 (some .int), Cond.fieldLink RX1 7 "Gaugerhall$Excise" "rate" "I", Cond.static yX6_part, Cond.code yX6_part cX6_part 3 (some .int)]
def wsL_guarantee : List Cond := .codeWith yL_guarantee cL_guarantee 4 (some .int) [(0, 9, 12, 15), (0, 9, 15, 17)] :: ((wsL_guarantee_r1 ++ (wsL_guarantee_r2 ++ wsL_guarantee_r3)) ++ wsX60 ++ wsX40 ++ wsJx4a65c0 ++ wsX10 ++ (vx_atS RX6 59 "java/lang/IllegalArgumentException" ["java/lang/RuntimeException", "java/lang/Exception"]).filter goodWord ++ (vx_atS RX6 68 "java/lang/IllegalStateException" ["java/lang/RuntimeException", "java/lang/Exception"]).filter goodWord)
def wsL_ship_r1 : List Cond := [Cond.classLink RL 13 "java/lang/IndexOutOfBoundsException", Cond.methodLink RL 60 yX6_ship, Cond.instanceMethod yX6_ship, Cond.selects RX6 yX6_ship yX6_ship, Cond.initialized RX6, Cond.code yX6_ship cX6_ship 7 (some .int), Cond.classLink RX6 55 "java/lang/IllegalArgumentException", Cond.initialized "java/lang/IllegalArgumentException", Cond.classLink RX6 64 "java/lang/IllegalStateException", Cond.initialized "java/lang/IllegalStateException", Cond.fieldLink RX6 16 "Gaugerhall" "movements" "Ljava/util/ArrayList;", Cond.fieldLink RX6 236 "Gaugerhall" "guaranteed" "I", Cond.fieldLink RX6 29 "Gaugerhall" "excise" "LGaugerhall$Excise;", Cond.classLink RX6 245 RX4, Cond.instantiable RX4 5, Cond.initialized RX4, Cond.fieldLink RX6 216 "Gaugerhall" "today" "I", Cond.methodLink RX6 80 yX6_vesselOf, Cond.instanceMethod yX6_vesselOf, Cond.selects RX6 yX6_vesselOf yX6_vesselOf, Cond.code yX6_vesselOf cX6_vesselOf 2 (some (.object "Gaugerhall$Vessel")), Cond.classLink RX6 44 "java/lang/IndexOutOfBoundsException", Cond.initialized "java/lang/IndexOutOfBoundsException", Cond.fieldLink RX6 10 "Gaugerhall" "vessels" "Ljava/util/ArrayList;"]
def wsL_ship_r2 : List Cond := [Cond.classLink RX6 69 "Gaugerhall$Vessel", Cond.methodLink RX6 60 yJx4a65c_size_8abf5, Cond.instanceMethod yJx4a65c_size_8abf5, Cond.selects RJx4a65c yJx4a65c_size_8abf5 yJx4a65c_size_8abf5, Cond.initialized RJx4a65c, Cond.code yJx4a65c_size_8abf5 cJx4a65c_size_8abf5 1 (some .int), Cond.fieldLink RJx4a65c 48 "java/util/ArrayList" "size" "I", Cond.methodLink RX6 194 yJx4a65c_get_915e3, Cond.instanceMethod yJx4a65c_get_915e3, Cond.selects RJx4a65c yJx4a65c_get_915e3 yJx4a65c_get_915e3, Cond.code yJx4a65c_get_915e3 cJx4a65c_get_915e3 2 (some (.object "java/lang/Object")), Cond.methodLink RJx4a65c 118 yJ15_checkIndex_7cf53, Cond.static yJ15_checkIndex_7cf53, Cond.initialized RJ15, Cond.code yJ15_checkIndex_7cf53 cJ15_checkIndex_7cf53 2 (some .int), Cond.methodLink RJ15 105 yJ3_checkIndex_8e157, Cond.static yJ3_checkIndex_8e157, Cond.initialized RJ3, Cond.code yJ3_checkIndex_8e157 cJ3_checkIndex_8e157 3 (some .int), Cond.methodLink RJx4a65c 123 yJx4a65c_elementData_915e3, Cond.instanceMethod yJx4a65c_elementData_915e3, Cond.selects RJx4a65c yJx4a65c_elementData_915e3 yJx4a65c_elementData_915e3, Cond.code yJx4a65c_elementData_915e3 cJx4a65c_elementData_915e3 2 (some (.object "java/lang/Object")), Cond.fieldLink RJx4a65c 9 "java/util/ArrayList" "elementData" "[Ljava/lang/Object;"]
def wsL_ship_r3 : List Cond := [Cond.methodLink RX6 51 yX6_isWithin, Cond.static yX6_isWithin, Cond.code yX6_isWithin cX6_isWithin 3 (some .boolean), Cond.methodLink RX6 125 yX5_has, Cond.instanceMethod yX5_has, Cond.selects RX5 yX5_has yX5_has, Cond.initialized RX5, Cond.code yX5_has cX5_has 2 (some .boolean), Cond.fieldLink RX5 16 "Gaugerhall$Vessel" "volume" "I", Cond.methodLink RX6 228 yX6_dropsThatMove, Cond.instanceMethod yX6_dropsThatMove, Cond.selects RX6 yX6_dropsThatMove yX6_dropsThatMove, Cond.code yX6_dropsThatMove cX6_dropsThatMove 4 (some .int), Cond.classLink RX6 245 "Gaugerhall$Movement", Cond.methodLink RX6 163 yX5_dropsOf, Cond.instanceMethod yX5_dropsOf, Cond.selects RX5 yX5_dropsOf yX5_dropsOf, Cond.code yX5_dropsOf cX5_dropsOf 2 (some .int), Cond.fieldLink RX5 19 "Gaugerhall$Vessel" "drops" "I", Cond.static yX6_part, Cond.code yX6_part cX6_part 3 (some .int), Cond.methodLink RX6 231 yX1_dutyFor, Cond.instanceMethod yX1_dutyFor, Cond.selects RX1 yX1_dutyFor yX1_dutyFor]
def wsL_ship_r4 : List Cond := [Cond.initialized RX1, Cond.code yX1_dutyFor cX1_dutyFor 2 (some .int), Cond.fieldLink RX1 7 "Gaugerhall$Excise" "rate" "I", Cond.methodLink RX6 130 yX5_takeOut, Cond.instanceMethod yX5_takeOut, Cond.selects RX5 yX5_takeOut yX5_takeOut, Cond.code yX5_takeOut cX5_takeOut 3 (some .int), Cond.methodLink RX5 28 yX5_dropsOf, Cond.methodLink RX6 247 yX4_init, Cond.instanceMethod yX4_init, Cond.code yX4_init cX4_init 5 none, Cond.methodLink RX4 3 objectInit, Cond.instanceMethod objectInit, Cond.code objectInit ⟨#[0xb1]⟩ 1 none, Cond.fieldLink RX4 9 "Gaugerhall$Movement" "state" "I", Cond.fieldLink RX4 15 "Gaugerhall$Movement" "to" "LGaugerhall$Vessel;", Cond.fieldLink RX4 19 "Gaugerhall$Movement" "volume" "I", Cond.fieldLink RX4 22 "Gaugerhall$Movement" "drops" "I", Cond.fieldLink RX4 25 "Gaugerhall$Movement" "lastDay" "I", Cond.methodLink RX6 74 yJx4a65c_add_9ea2d, Cond.instanceMethod yJx4a65c_add_9ea2d, Cond.selects RJx4a65c yJx4a65c_add_9ea2d yJx4a65c_add_9ea2d, Cond.code yJx4a65c_add_9ea2d cJx4a65c_add_9ea2d 2 (some .boolean), Cond.fieldLink RJx4a65c 63 "java/util/ArrayList" "modCount" "I"]
def wsL_ship_r5 : List Cond := [Cond.sameField "java/util/ArrayList" "java/util/AbstractList" "modCount" "I", Cond.methodLink RJx4a65c 131 yJx4a65c_add_72be8, Cond.instanceMethod yJx4a65c_add_72be8, Cond.selects RJx4a65c yJx4a65c_add_72be8 yJx4a65c_add_72be8, Cond.code yJx4a65c_add_72be8 cJx4a65c_add_72be8 4 none, Cond.methodLink RJx4a65c 129 yJx4a65c_grow_d5877, Cond.instanceMethod yJx4a65c_grow_d5877, Cond.selects RJx4a65c yJx4a65c_grow_d5877 yJx4a65c_grow_d5877, Cond.code yJx4a65c_grow_d5877 cJx4a65c_grow_d5877 1 (some (.array (.object "java/lang/Object"))), Cond.methodLink RJx4a65c 69 yJx4a65c_grow_92f84, Cond.instanceMethod yJx4a65c_grow_92f84, Cond.selects RJx4a65c yJx4a65c_grow_92f84 yJx4a65c_grow_92f84, Cond.code yJx4a65c_grow_92f84 cJx4a65c_grow_92f84 4 (some (.array (.object "java/lang/Object"))), Cond.fieldLink RJx4a65c 39 "java/util/ArrayList" "DEFAULTCAPACITY_EMPTY_ELEMENTDATA" "[Ljava/lang/Object;", Cond.methodLink RJx4a65c 79 Lib.Math.max.name, Cond.static Lib.Math.max.name, Cond.initialized "java/lang/Math", Cond.code Lib.Math.max.name Lib.Math.max.code 2 (some .int), Cond.classLink RJx4a65c 7 "java/lang/Object", Cond.methodLink RJx4a65c 73 yJ8_newLength_cabcc, Cond.static yJ8_newLength_cabcc, Cond.initialized RJ8, Cond.code yJ8_newLength_cabcc cJ8_newLength_cabcc 4 (some .int), Cond.methodLink RJ8 194 Lib.Math.max.name]
def wsL_ship_r6 : List Cond := [Cond.constant RJ8 200 (2147483639), Cond.methodLink RJ8 201 yJ8_hugeLength_7cf53, Cond.static yJ8_hugeLength_7cf53, Cond.code yJ8_hugeLength_7cf53 cJ8_hugeLength_7cf53 3 (some .int), Cond.methodLink RJx4a65c 66 yJ7_copyOf_1904c, Cond.static yJ7_copyOf_1904c, Cond.initialized RJ7, Cond.code yJ7_copyOf_1904c cJ7_copyOf_1904c 2 (some (.array (.object "java/lang/Object"))), Cond.methodLink RJ7 86 ⟨"java/lang/Object", "getClass", "()Ljava/lang/Class;"⟩, Cond.selects "[Ljava/lang/Object;" ⟨"java/lang/Object", "getClass", "()Ljava/lang/Class;"⟩ ⟨"java/lang/Object", "getClass", "()Ljava/lang/Class;"⟩, Cond.instanceMethod ⟨"java/lang/Object", "getClass", "()Ljava/lang/Class;"⟩, Cond.native ⟨"java/lang/Object", "getClass", "()Ljava/lang/Class;"⟩, Cond.methodLink RJ7 300 yJ7_copyOf_6403c, Cond.static yJ7_copyOf_6403c, Cond.code yJ7_copyOf_6403c cJ7_copyOf_6403c 4 (some (.array (.object "java/lang/Object"))), Cond.classLink RJ7 110 "[Ljava/lang/Object;", Cond.classLink RJ7 2 "java/lang/Object", Cond.methodLink RJ7 304 Lib.Math.min.name, Cond.static Lib.Math.min.name, Cond.code Lib.Math.min.name Lib.Math.min.code 2 (some .int), Cond.methodLink RJ7 150 arraycopyName, Cond.native arraycopyName, Cond.static arraycopyName, Cond.initialized "java/lang/System"]
def wsL_ship : List Cond := .codeWith yL_ship cL_ship 7 (some .int) [(0, 14, 17, 13), (0, 14, 21, 15), (0, 14, 25, 17)] :: ((wsL_ship_r1 ++ (wsL_ship_r2 ++ (wsL_ship_r3 ++ (wsL_ship_r4 ++ (wsL_ship_r5 ++ wsL_ship_r6))))) ++ wsX50 ++ wsX60 ++ wsX40 ++ wsJx4a65c0 ++ wsX10 ++ (vx_atS RX6 59 "java/lang/IllegalArgumentException" ["java/lang/RuntimeException", "java/lang/Exception"]).filter goodWord ++ (vx_atS RX6 68 "java/lang/IllegalStateException" ["java/lang/RuntimeException", "java/lang/Exception"]).filter goodWord ++ (vx_atS RX6 48 "java/lang/IndexOutOfBoundsException" ["java/lang/RuntimeException", "java/lang/Exception"]).filter goodWord)
def wsL_arrive_r1 : List Cond := [Cond.classLink RL 13 "java/lang/IndexOutOfBoundsException", Cond.methodLink RL 64 yX6_arrive, Cond.instanceMethod yX6_arrive, Cond.selects RX6 yX6_arrive yX6_arrive, Cond.initialized RX6, Cond.code yX6_arrive cX6_arrive 6 (some .int), Cond.classLink RX6 55 "java/lang/IllegalArgumentException", Cond.initialized "java/lang/IllegalArgumentException", Cond.classLink RX6 64 "java/lang/IllegalStateException", Cond.initialized "java/lang/IllegalStateException", Cond.fieldLink RX6 36 "Gaugerhall" "book" "LGaugerhall$Ledger;", Cond.methodLink RX6 250 yX6_movementOf, Cond.instanceMethod yX6_movementOf, Cond.selects RX6 yX6_movementOf yX6_movementOf, Cond.code yX6_movementOf cX6_movementOf 2 (some (.object "Gaugerhall$Movement")), Cond.classLink RX6 44 "java/lang/IndexOutOfBoundsException", Cond.initialized "java/lang/IndexOutOfBoundsException", Cond.fieldLink RX6 16 "Gaugerhall" "movements" "Ljava/util/ArrayList;", Cond.classLink RX6 245 "Gaugerhall$Movement", Cond.methodLink RX6 60 yJx4a65c_size_8abf5, Cond.instanceMethod yJx4a65c_size_8abf5, Cond.selects RJx4a65c yJx4a65c_size_8abf5 yJx4a65c_size_8abf5, Cond.initialized RJx4a65c, Cond.code yJx4a65c_size_8abf5 cJx4a65c_size_8abf5 1 (some .int)]
def wsL_arrive_r2 : List Cond := [Cond.fieldLink RJx4a65c 48 "java/util/ArrayList" "size" "I", Cond.methodLink RX6 194 yJx4a65c_get_915e3, Cond.instanceMethod yJx4a65c_get_915e3, Cond.selects RJx4a65c yJx4a65c_get_915e3 yJx4a65c_get_915e3, Cond.code yJx4a65c_get_915e3 cJx4a65c_get_915e3 2 (some (.object "java/lang/Object")), Cond.methodLink RJx4a65c 118 yJ15_checkIndex_7cf53, Cond.static yJ15_checkIndex_7cf53, Cond.initialized RJ15, Cond.code yJ15_checkIndex_7cf53 cJ15_checkIndex_7cf53 2 (some .int), Cond.methodLink RJ15 105 yJ3_checkIndex_8e157, Cond.static yJ3_checkIndex_8e157, Cond.initialized RJ3, Cond.code yJ3_checkIndex_8e157 cJ3_checkIndex_8e157 3 (some .int), Cond.methodLink RJx4a65c 123 yJx4a65c_elementData_915e3, Cond.instanceMethod yJx4a65c_elementData_915e3, Cond.selects RJx4a65c yJx4a65c_elementData_915e3 yJx4a65c_elementData_915e3, Cond.code yJx4a65c_elementData_915e3 cJx4a65c_elementData_915e3 2 (some (.object "java/lang/Object")), Cond.fieldLink RJx4a65c 9 "java/util/ArrayList" "elementData" "[Ljava/lang/Object;", Cond.methodLink RX6 51 yX6_isWithin, Cond.static yX6_isWithin, Cond.code yX6_isWithin cX6_isWithin 3 (some .boolean), Cond.methodLink RX6 88 yX5_hasRoomFor, Cond.instanceMethod yX5_hasRoomFor, Cond.selects RX5 yX5_hasRoomFor yX5_hasRoomFor]
def wsL_arrive_r3 : List Cond := [Cond.initialized RX5, Cond.code yX5_hasRoomFor cX5_hasRoomFor 2 (some .boolean), Cond.fieldLink RX5 13 "Gaugerhall$Vessel" "capacity" "I", Cond.fieldLink RX5 16 "Gaugerhall$Vessel" "volume" "I", Cond.methodLink RX6 103 yX6_part, Cond.static yX6_part, Cond.code yX6_part cX6_part 3 (some .int), Cond.methodLink RX6 97 yX5_comeIn, Cond.instanceMethod yX5_comeIn, Cond.selects RX5 yX5_comeIn yX5_comeIn, Cond.code yX5_comeIn cX5_comeIn 5 none, Cond.fieldLink RX5 19 "Gaugerhall$Vessel" "drops" "I", Cond.methodLink RX5 32 Lib.Math.abs.name, Cond.static Lib.Math.abs.name, Cond.initialized "java/lang/Math", Cond.code Lib.Math.abs.name Lib.Math.abs.code 1 (some .int), Cond.methodLink RX5 37 Lib.Math.min.name, Cond.static Lib.Math.min.name, Cond.code Lib.Math.min.name Lib.Math.min.code 2 (some .int), Cond.methodLink RX6 147 yX6_miss, Cond.instanceMethod yX6_miss, Cond.selects RX6 yX6_miss yX6_miss, Cond.code yX6_miss cX6_miss 2 (some .int), Cond.fieldLink RX6 29 "Gaugerhall" "excise" "LGaugerhall$Excise;"]
def wsL_arrive_r4 : List Cond := [Cond.methodLink RX6 116 yX1_chargeWhole, Cond.instanceMethod yX1_chargeWhole, Cond.selects RX1 yX1_chargeWhole yX1_chargeWhole, Cond.initialized RX1, Cond.code yX1_chargeWhole cX1_chargeWhole 3 (some .int), Cond.fieldLink RX1 27 "Gaugerhall$Excise" "owed" "I", Cond.methodLink RX1 23 yX1_dutyFor, Cond.instanceMethod yX1_dutyFor, Cond.selects RX1 yX1_dutyFor yX1_dutyFor, Cond.code yX1_dutyFor cX1_dutyFor 2 (some .int), Cond.fieldLink RX1 7 "Gaugerhall$Excise" "rate" "I"]
def wsL_arrive : List Cond := .codeWith yL_arrive cL_arrive 5 (some .int) [(0, 10, 13, 13), (0, 10, 17, 15), (0, 10, 21, 17)] :: ((wsL_arrive_r1 ++ (wsL_arrive_r2 ++ (wsL_arrive_r3 ++ wsL_arrive_r4))) ++ wsX40 ++ wsX60 ++ wsX20 ++ wsJx4a65c0 ++ wsX50 ++ wsX10 ++ (vx_atS RX6 59 "java/lang/IllegalArgumentException" ["java/lang/RuntimeException", "java/lang/Exception"]).filter goodWord ++ (vx_atS RX6 68 "java/lang/IllegalStateException" ["java/lang/RuntimeException", "java/lang/Exception"]).filter goodWord ++ (vx_atS RX6 48 "java/lang/IndexOutOfBoundsException" ["java/lang/RuntimeException", "java/lang/Exception"]).filter goodWord)
def wsL_pass_r1 : List Cond := [Cond.classLink RL 15 "java/lang/IllegalArgumentException", Cond.methodLink RL 67 yX6_pass, Cond.instanceMethod yX6_pass, Cond.selects RX6 yX6_pass yX6_pass, Cond.initialized RX6, Cond.code yX6_pass cX6_pass 3 (some .int), Cond.classLink RX6 55 "java/lang/IllegalArgumentException", Cond.initialized "java/lang/IllegalArgumentException", Cond.classLink RX6 64 "java/lang/IllegalStateException", Cond.initialized "java/lang/IllegalStateException", Cond.fieldLink RX6 216 "Gaugerhall" "today" "I", Cond.fieldLink RX6 29 "Gaugerhall" "excise" "LGaugerhall$Excise;", Cond.methodLink RX6 51 yX6_isWithin, Cond.static yX6_isWithin, Cond.code yX6_isWithin cX6_isWithin 3 (some .boolean), Cond.methodLink RX6 271 yX6_beginDay, Cond.instanceMethod yX6_beginDay, Cond.selects RX6 yX6_beginDay yX6_beginDay, Cond.code yX6_beginDay cX6_beginDay 1 none, Cond.fieldLink RX6 159 "Gaugerhall" "coming" "LGaugerhall$Budget;", Cond.methodLink RX6 295 yX1_beginYear, Cond.instanceMethod yX1_beginYear, Cond.selects RX1 yX1_beginYear yX1_beginYear, Cond.initialized RX1]
def wsL_pass_r2 : List Cond := [Cond.code yX1_beginYear cX1_beginYear 1 none, Cond.constant RX1 13 (1000000), Cond.fieldLink RX1 14 "Gaugerhall$Excise" "leftForHalf" "I", Cond.methodLink RX6 302 yX6_loseLateMovements, Cond.instanceMethod yX6_loseLateMovements, Cond.selects RX6 yX6_loseLateMovements yX6_loseLateMovements, Cond.code yX6_loseLateMovements cX6_loseLateMovements 3 none, Cond.fieldLink RX6 16 "Gaugerhall" "movements" "Ljava/util/ArrayList;", Cond.classLink RX6 245 "Gaugerhall$Movement", Cond.methodLink RX6 60 yJx4a65c_size_8abf5, Cond.instanceMethod yJx4a65c_size_8abf5, Cond.selects RJx4a65c yJx4a65c_size_8abf5 yJx4a65c_size_8abf5, Cond.initialized RJx4a65c, Cond.code yJx4a65c_size_8abf5 cJx4a65c_size_8abf5 1 (some .int), Cond.fieldLink RJx4a65c 48 "java/util/ArrayList" "size" "I", Cond.methodLink RX6 194 yJx4a65c_get_915e3, Cond.instanceMethod yJx4a65c_get_915e3, Cond.selects RJx4a65c yJx4a65c_get_915e3 yJx4a65c_get_915e3, Cond.code yJx4a65c_get_915e3 cJx4a65c_get_915e3 2 (some (.object "java/lang/Object")), Cond.methodLink RJx4a65c 118 yJ15_checkIndex_7cf53, Cond.static yJ15_checkIndex_7cf53, Cond.initialized RJ15, Cond.code yJ15_checkIndex_7cf53 cJ15_checkIndex_7cf53 2 (some .int), Cond.methodLink RJ15 105 yJ3_checkIndex_8e157]
def wsL_pass_r3 : List Cond := [Cond.static yJ3_checkIndex_8e157, Cond.initialized RJ3, Cond.code yJ3_checkIndex_8e157 cJ3_checkIndex_8e157 3 (some .int), Cond.methodLink RJx4a65c 123 yJx4a65c_elementData_915e3, Cond.instanceMethod yJx4a65c_elementData_915e3, Cond.selects RJx4a65c yJx4a65c_elementData_915e3 yJx4a65c_elementData_915e3, Cond.code yJx4a65c_elementData_915e3 cJx4a65c_elementData_915e3 2 (some (.object "java/lang/Object")), Cond.fieldLink RJx4a65c 9 "java/util/ArrayList" "elementData" "[Ljava/lang/Object;", Cond.methodLink RX6 147 yX6_miss, Cond.instanceMethod yX6_miss, Cond.selects RX6 yX6_miss yX6_miss, Cond.code yX6_miss cX6_miss 2 (some .int), Cond.fieldLink RX6 36 "Gaugerhall" "book" "LGaugerhall$Ledger;", Cond.methodLink RX6 116 yX1_chargeWhole, Cond.instanceMethod yX1_chargeWhole, Cond.selects RX1 yX1_chargeWhole yX1_chargeWhole, Cond.code yX1_chargeWhole cX1_chargeWhole 3 (some .int), Cond.fieldLink RX1 27 "Gaugerhall$Excise" "owed" "I", Cond.methodLink RX1 23 yX1_dutyFor, Cond.instanceMethod yX1_dutyFor, Cond.selects RX1 yX1_dutyFor yX1_dutyFor, Cond.code yX1_dutyFor cX1_dutyFor 2 (some .int), Cond.fieldLink RX1 7 "Gaugerhall$Excise" "rate" "I", Cond.static yX6_part]
def wsL_pass_r4 : List Cond := [Cond.code yX6_part cX6_part 3 (some .int), Cond.methodLink RX6 305 yX6_takeShares, Cond.instanceMethod yX6_takeShares, Cond.selects RX6 yX6_takeShares yX6_takeShares, Cond.code yX6_takeShares cX6_takeShares 3 none, Cond.fieldLink RX6 10 "Gaugerhall" "vessels" "Ljava/util/ArrayList;", Cond.classLink RX6 69 "Gaugerhall$Vessel", Cond.fieldLink RX6 22 "Gaugerhall" "shareRates" "[I", Cond.methodLink RX6 40 yX6_isPlace, Cond.instanceMethod yX6_isPlace, Cond.selects RX6 yX6_isPlace yX6_isPlace, Cond.code yX6_isPlace cX6_isPlace 2 (some .boolean), Cond.methodLink RX6 311 yX5_takeShare, Cond.instanceMethod yX5_takeShare, Cond.selects RX5 yX5_takeShare yX5_takeShare, Cond.initialized RX5, Cond.code yX5_takeShare cX5_takeShare 3 (some .int), Cond.fieldLink RX5 19 "Gaugerhall$Vessel" "drops" "I", Cond.constant RX5 41 (100000), Cond.fieldLink RX5 16 "Gaugerhall$Vessel" "volume" "I", Cond.methodLink RX6 308 yX1_growOwed, Cond.instanceMethod yX1_growOwed, Cond.selects RX1 yX1_growOwed yX1_growOwed, Cond.code yX1_growOwed cX1_growOwed 1 none]
def wsL_pass : List Cond := .codeWith yL_pass cL_pass 4 (some .int) [(0, 9, 12, 15), (0, 9, 15, 17)] :: ((wsL_pass_r1 ++ (wsL_pass_r2 ++ (wsL_pass_r3 ++ wsL_pass_r4))) ++ wsX60 ++ wsX10 ++ wsX00 ++ wsX40 ++ wsJx4a65c0 ++ wsX20 ++ wsX50 ++ (vx_atS RX6 59 "java/lang/IllegalArgumentException" ["java/lang/RuntimeException", "java/lang/Exception"]).filter goodWord ++ (vx_atS RX6 68 "java/lang/IllegalStateException" ["java/lang/RuntimeException", "java/lang/Exception"]).filter goodWord)
def wsL_ofVessel_r1 : List Cond := [Cond.classLink RL 13 "java/lang/IndexOutOfBoundsException", Cond.methodLink RL 70 yX6_ofVessel, Cond.instanceMethod yX6_ofVessel, Cond.selects RX6 yX6_ofVessel yX6_ofVessel, Cond.initialized RX6, Cond.code yX6_ofVessel cX6_ofVessel 4 (some .int), Cond.classLink RX6 44 "java/lang/IndexOutOfBoundsException", Cond.initialized "java/lang/IndexOutOfBoundsException", Cond.methodLink RX6 80 yX6_vesselOf, Cond.instanceMethod yX6_vesselOf, Cond.selects RX6 yX6_vesselOf yX6_vesselOf, Cond.code yX6_vesselOf cX6_vesselOf 2 (some (.object "Gaugerhall$Vessel")), Cond.fieldLink RX6 10 "Gaugerhall" "vessels" "Ljava/util/ArrayList;", Cond.classLink RX6 69 "Gaugerhall$Vessel", Cond.methodLink RX6 60 yJx4a65c_size_8abf5, Cond.instanceMethod yJx4a65c_size_8abf5, Cond.selects RJx4a65c yJx4a65c_size_8abf5 yJx4a65c_size_8abf5, Cond.initialized RJx4a65c, Cond.code yJx4a65c_size_8abf5 cJx4a65c_size_8abf5 1 (some .int), Cond.fieldLink RJx4a65c 48 "java/util/ArrayList" "size" "I", Cond.methodLink RX6 194 yJx4a65c_get_915e3, Cond.instanceMethod yJx4a65c_get_915e3, Cond.selects RJx4a65c yJx4a65c_get_915e3 yJx4a65c_get_915e3, Cond.code yJx4a65c_get_915e3 cJx4a65c_get_915e3 2 (some (.object "java/lang/Object"))]
def wsL_ofVessel_r2 : List Cond := [Cond.methodLink RJx4a65c 118 yJ15_checkIndex_7cf53, Cond.static yJ15_checkIndex_7cf53, Cond.initialized RJ15, Cond.code yJ15_checkIndex_7cf53 cJ15_checkIndex_7cf53 2 (some .int), Cond.methodLink RJ15 105 yJ3_checkIndex_8e157, Cond.static yJ3_checkIndex_8e157, Cond.initialized RJ3, Cond.code yJ3_checkIndex_8e157 cJ3_checkIndex_8e157 3 (some .int), Cond.methodLink RJx4a65c 123 yJx4a65c_elementData_915e3, Cond.instanceMethod yJx4a65c_elementData_915e3, Cond.selects RJx4a65c yJx4a65c_elementData_915e3 yJx4a65c_elementData_915e3, Cond.code yJx4a65c_elementData_915e3 cJx4a65c_elementData_915e3 2 (some (.object "java/lang/Object")), Cond.fieldLink RJx4a65c 9 "java/util/ArrayList" "elementData" "[Ljava/lang/Object;", Cond.methodLink RX6 103 yX6_part, Cond.static yX6_part, Cond.code yX6_part cX6_part 3 (some .int)]
def wsL_ofVessel : List Cond := .codeWith yL_ofVessel cL_ofVessel 5 (some .int) [(0, 10, 13, 13)] :: ((wsL_ofVessel_r1 ++ wsL_ofVessel_r2) ++ wsX50 ++ wsX60 ++ wsJx4a65c0 ++ (vx_atS RX6 48 "java/lang/IndexOutOfBoundsException" ["java/lang/RuntimeException", "java/lang/Exception"]).filter goodWord)
def wsL_dropsAnew_r1 : List Cond := [Cond.classLink RL 13 "java/lang/IndexOutOfBoundsException", Cond.methodLink RL 73 yX6_dropsAnew, Cond.instanceMethod yX6_dropsAnew, Cond.selects RX6 yX6_dropsAnew yX6_dropsAnew, Cond.initialized RX6, Cond.code yX6_dropsAnew cX6_dropsAnew 2 (some .int), Cond.methodLink RX6 80 yX6_vesselOf, Cond.instanceMethod yX6_vesselOf, Cond.selects RX6 yX6_vesselOf yX6_vesselOf, Cond.code yX6_vesselOf cX6_vesselOf 2 (some (.object "Gaugerhall$Vessel")), Cond.classLink RX6 44 "java/lang/IndexOutOfBoundsException", Cond.initialized "java/lang/IndexOutOfBoundsException", Cond.fieldLink RX6 10 "Gaugerhall" "vessels" "Ljava/util/ArrayList;", Cond.classLink RX6 69 "Gaugerhall$Vessel", Cond.methodLink RX6 60 yJx4a65c_size_8abf5, Cond.instanceMethod yJx4a65c_size_8abf5, Cond.selects RJx4a65c yJx4a65c_size_8abf5 yJx4a65c_size_8abf5, Cond.initialized RJx4a65c, Cond.code yJx4a65c_size_8abf5 cJx4a65c_size_8abf5 1 (some .int), Cond.fieldLink RJx4a65c 48 "java/util/ArrayList" "size" "I", Cond.methodLink RX6 194 yJx4a65c_get_915e3, Cond.instanceMethod yJx4a65c_get_915e3, Cond.selects RJx4a65c yJx4a65c_get_915e3 yJx4a65c_get_915e3, Cond.code yJx4a65c_get_915e3 cJx4a65c_get_915e3 2 (some (.object "java/lang/Object"))]
def wsL_dropsAnew_r2 : List Cond := [Cond.methodLink RJx4a65c 118 yJ15_checkIndex_7cf53, Cond.static yJ15_checkIndex_7cf53, Cond.initialized RJ15, Cond.code yJ15_checkIndex_7cf53 cJ15_checkIndex_7cf53 2 (some .int), Cond.methodLink RJ15 105 yJ3_checkIndex_8e157, Cond.static yJ3_checkIndex_8e157, Cond.initialized RJ3, Cond.code yJ3_checkIndex_8e157 cJ3_checkIndex_8e157 3 (some .int), Cond.methodLink RJx4a65c 123 yJx4a65c_elementData_915e3, Cond.instanceMethod yJx4a65c_elementData_915e3, Cond.selects RJx4a65c yJx4a65c_elementData_915e3 yJx4a65c_elementData_915e3, Cond.code yJx4a65c_elementData_915e3 cJx4a65c_elementData_915e3 2 (some (.object "java/lang/Object")), Cond.fieldLink RJx4a65c 9 "java/util/ArrayList" "elementData" "[Ljava/lang/Object;"]
def wsL_dropsAnew : List Cond := .codeWith yL_dropsAnew cL_dropsAnew 4 (some .int) [(0, 9, 12, 13)] :: ((wsL_dropsAnew_r1 ++ wsL_dropsAnew_r2) ++ wsX50 ++ wsX60 ++ wsJx4a65c0 ++ (vx_atS RX6 48 "java/lang/IndexOutOfBoundsException" ["java/lang/RuntimeException", "java/lang/Exception"]).filter goodWord)
def wsL_ofMovement_r1 : List Cond := [Cond.classLink RL 13 "java/lang/IndexOutOfBoundsException", Cond.methodLink RL 76 yX6_ofMovement, Cond.instanceMethod yX6_ofMovement, Cond.selects RX6 yX6_ofMovement yX6_ofMovement, Cond.initialized RX6, Cond.code yX6_ofMovement cX6_ofMovement 4 (some .int), Cond.classLink RX6 44 "java/lang/IndexOutOfBoundsException", Cond.initialized "java/lang/IndexOutOfBoundsException", Cond.methodLink RX6 250 yX6_movementOf, Cond.instanceMethod yX6_movementOf, Cond.selects RX6 yX6_movementOf yX6_movementOf, Cond.code yX6_movementOf cX6_movementOf 2 (some (.object "Gaugerhall$Movement")), Cond.fieldLink RX6 16 "Gaugerhall" "movements" "Ljava/util/ArrayList;", Cond.classLink RX6 245 "Gaugerhall$Movement", Cond.methodLink RX6 60 yJx4a65c_size_8abf5, Cond.instanceMethod yJx4a65c_size_8abf5, Cond.selects RJx4a65c yJx4a65c_size_8abf5 yJx4a65c_size_8abf5, Cond.initialized RJx4a65c, Cond.code yJx4a65c_size_8abf5 cJx4a65c_size_8abf5 1 (some .int), Cond.fieldLink RJx4a65c 48 "java/util/ArrayList" "size" "I", Cond.methodLink RX6 194 yJx4a65c_get_915e3, Cond.instanceMethod yJx4a65c_get_915e3, Cond.selects RJx4a65c yJx4a65c_get_915e3 yJx4a65c_get_915e3, Cond.code yJx4a65c_get_915e3 cJx4a65c_get_915e3 2 (some (.object "java/lang/Object"))]
def wsL_ofMovement_r2 : List Cond := [Cond.methodLink RJx4a65c 118 yJ15_checkIndex_7cf53, Cond.static yJ15_checkIndex_7cf53, Cond.initialized RJ15, Cond.code yJ15_checkIndex_7cf53 cJ15_checkIndex_7cf53 2 (some .int), Cond.methodLink RJ15 105 yJ3_checkIndex_8e157, Cond.static yJ3_checkIndex_8e157, Cond.initialized RJ3, Cond.code yJ3_checkIndex_8e157 cJ3_checkIndex_8e157 3 (some .int), Cond.methodLink RJx4a65c 123 yJx4a65c_elementData_915e3, Cond.instanceMethod yJx4a65c_elementData_915e3, Cond.selects RJx4a65c yJx4a65c_elementData_915e3 yJx4a65c_elementData_915e3, Cond.code yJx4a65c_elementData_915e3 cJx4a65c_elementData_915e3 2 (some (.object "java/lang/Object")), Cond.fieldLink RJx4a65c 9 "java/util/ArrayList" "elementData" "[Ljava/lang/Object;"]
def wsL_ofMovement : List Cond := .codeWith yL_ofMovement cL_ofMovement 5 (some .int) [(0, 10, 13, 13)] :: ((wsL_ofMovement_r1 ++ wsL_ofMovement_r2) ++ wsX40 ++ wsX60 ++ wsJx4a65c0 ++ (vx_atS RX6 48 "java/lang/IndexOutOfBoundsException" ["java/lang/RuntimeException", "java/lang/Exception"]).filter goodWord)
def wsL_ledger_r1 : List Cond := [Cond.classLink RL 15 "java/lang/IllegalArgumentException", Cond.methodLink RL 79 yX6_ledger, Cond.instanceMethod yX6_ledger, Cond.selects RX6 yX6_ledger yX6_ledger, Cond.initialized RX6, Cond.code yX6_ledger cX6_ledger 2 (some .int), Cond.classLink RX6 55 "java/lang/IllegalArgumentException", Cond.initialized "java/lang/IllegalArgumentException", Cond.fieldLink RX6 36 "Gaugerhall" "book" "LGaugerhall$Ledger;", Cond.methodLink RX6 279 yX6_dropsInVessels, Cond.instanceMethod yX6_dropsInVessels, Cond.selects RX6 yX6_dropsInVessels yX6_dropsInVessels, Cond.code yX6_dropsInVessels cX6_dropsInVessels 3 (some .int), Cond.fieldLink RX6 10 "Gaugerhall" "vessels" "Ljava/util/ArrayList;", Cond.classLink RX6 69 "Gaugerhall$Vessel", Cond.methodLink RX6 60 yJx4a65c_size_8abf5, Cond.instanceMethod yJx4a65c_size_8abf5, Cond.selects RJx4a65c yJx4a65c_size_8abf5 yJx4a65c_size_8abf5, Cond.initialized RJx4a65c, Cond.code yJx4a65c_size_8abf5 cJx4a65c_size_8abf5 1 (some .int), Cond.fieldLink RJx4a65c 48 "java/util/ArrayList" "size" "I", Cond.methodLink RX6 194 yJx4a65c_get_915e3, Cond.instanceMethod yJx4a65c_get_915e3, Cond.selects RJx4a65c yJx4a65c_get_915e3 yJx4a65c_get_915e3]
def wsL_ledger_r2 : List Cond := [Cond.code yJx4a65c_get_915e3 cJx4a65c_get_915e3 2 (some (.object "java/lang/Object")), Cond.methodLink RJx4a65c 118 yJ15_checkIndex_7cf53, Cond.static yJ15_checkIndex_7cf53, Cond.initialized RJ15, Cond.code yJ15_checkIndex_7cf53 cJ15_checkIndex_7cf53 2 (some .int), Cond.methodLink RJ15 105 yJ3_checkIndex_8e157, Cond.static yJ3_checkIndex_8e157, Cond.initialized RJ3, Cond.code yJ3_checkIndex_8e157 cJ3_checkIndex_8e157 3 (some .int), Cond.methodLink RJx4a65c 123 yJx4a65c_elementData_915e3, Cond.instanceMethod yJx4a65c_elementData_915e3, Cond.selects RJx4a65c yJx4a65c_elementData_915e3 yJx4a65c_elementData_915e3, Cond.code yJx4a65c_elementData_915e3 cJx4a65c_elementData_915e3 2 (some (.object "java/lang/Object")), Cond.fieldLink RJx4a65c 9 "java/util/ArrayList" "elementData" "[Ljava/lang/Object;", Cond.methodLink RX6 228 yX6_dropsThatMove, Cond.instanceMethod yX6_dropsThatMove, Cond.selects RX6 yX6_dropsThatMove yX6_dropsThatMove, Cond.code yX6_dropsThatMove cX6_dropsThatMove 4 (some .int), Cond.fieldLink RX6 16 "Gaugerhall" "movements" "Ljava/util/ArrayList;", Cond.classLink RX6 245 "Gaugerhall$Movement", Cond.methodLink RX6 189 yX6_dropsInLots, Cond.instanceMethod yX6_dropsInLots, Cond.selects RX6 yX6_dropsInLots yX6_dropsInLots, Cond.code yX6_dropsInLots cX6_dropsInLots 3 (some .int)]
def wsL_ledger_r3 : List Cond := [Cond.fieldLink RX6 19 "Gaugerhall" "lots" "Ljava/util/ArrayList;", Cond.classLink RX6 176 "Gaugerhall$Lot"]
def wsL_ledger : List Cond := .codeWith yL_ledger cL_ledger 4 (some .int) [(0, 9, 12, 15)] :: ((wsL_ledger_r1 ++ (wsL_ledger_r2 ++ wsL_ledger_r3)) ++ wsX60 ++ wsX20 ++ wsX50 ++ wsJx4a65c0 ++ wsX40 ++ wsX30 ++ (vx_atS RX6 59 "java/lang/IllegalArgumentException" ["java/lang/RuntimeException", "java/lang/Exception"]).filter goodWord)
def wsL_duty_r1 : List Cond := [Cond.classLink RL 15 "java/lang/IllegalArgumentException", Cond.methodLink RL 82 yX6_duty, Cond.instanceMethod yX6_duty, Cond.selects RX6 yX6_duty yX6_duty, Cond.initialized RX6, Cond.code yX6_duty cX6_duty 2 (some .int), Cond.classLink RX6 55 "java/lang/IllegalArgumentException", Cond.initialized "java/lang/IllegalArgumentException", Cond.fieldLink RX6 29 "Gaugerhall" "excise" "LGaugerhall$Excise;", Cond.fieldLink RX6 159 "Gaugerhall" "coming" "LGaugerhall$Budget;", Cond.fieldLink RX6 182 "Gaugerhall" "permitted" "I", Cond.fieldLink RX6 236 "Gaugerhall" "guaranteed" "I", Cond.methodLink RX6 228 yX6_dropsThatMove, Cond.instanceMethod yX6_dropsThatMove, Cond.selects RX6 yX6_dropsThatMove yX6_dropsThatMove, Cond.code yX6_dropsThatMove cX6_dropsThatMove 4 (some .int), Cond.fieldLink RX6 16 "Gaugerhall" "movements" "Ljava/util/ArrayList;", Cond.classLink RX6 245 "Gaugerhall$Movement", Cond.methodLink RX6 60 yJx4a65c_size_8abf5, Cond.instanceMethod yJx4a65c_size_8abf5, Cond.selects RJx4a65c yJx4a65c_size_8abf5 yJx4a65c_size_8abf5, Cond.initialized RJx4a65c, Cond.code yJx4a65c_size_8abf5 cJx4a65c_size_8abf5 1 (some .int), Cond.fieldLink RJx4a65c 48 "java/util/ArrayList" "size" "I"]
def wsL_duty_r2 : List Cond := [Cond.methodLink RX6 194 yJx4a65c_get_915e3, Cond.instanceMethod yJx4a65c_get_915e3, Cond.selects RJx4a65c yJx4a65c_get_915e3 yJx4a65c_get_915e3, Cond.code yJx4a65c_get_915e3 cJx4a65c_get_915e3 2 (some (.object "java/lang/Object")), Cond.methodLink RJx4a65c 118 yJ15_checkIndex_7cf53, Cond.static yJ15_checkIndex_7cf53, Cond.initialized RJ15, Cond.code yJ15_checkIndex_7cf53 cJ15_checkIndex_7cf53 2 (some .int), Cond.methodLink RJ15 105 yJ3_checkIndex_8e157, Cond.static yJ3_checkIndex_8e157, Cond.initialized RJ3, Cond.code yJ3_checkIndex_8e157 cJ3_checkIndex_8e157 3 (some .int), Cond.methodLink RJx4a65c 123 yJx4a65c_elementData_915e3, Cond.instanceMethod yJx4a65c_elementData_915e3, Cond.selects RJx4a65c yJx4a65c_elementData_915e3 yJx4a65c_elementData_915e3, Cond.code yJx4a65c_elementData_915e3 cJx4a65c_elementData_915e3 2 (some (.object "java/lang/Object")), Cond.fieldLink RJx4a65c 9 "java/util/ArrayList" "elementData" "[Ljava/lang/Object;", Cond.methodLink RX6 231 yX1_dutyFor, Cond.instanceMethod yX1_dutyFor, Cond.selects RX1 yX1_dutyFor yX1_dutyFor, Cond.initialized RX1, Cond.code yX1_dutyFor cX1_dutyFor 2 (some .int), Cond.fieldLink RX1 7 "Gaugerhall$Excise" "rate" "I", Cond.static yX6_part]
def wsL_duty_r3 : List Cond := [Cond.code yX6_part cX6_part 3 (some .int)]
def wsL_duty : List Cond := .codeWith yL_duty cL_duty 4 (some .int) [(0, 9, 12, 15)] :: ((wsL_duty_r1 ++ (wsL_duty_r2 ++ wsL_duty_r3)) ++ wsX60 ++ wsX10 ++ wsX00 ++ wsX40 ++ wsJx4a65c0 ++ (vx_atS RX6 59 "java/lang/IllegalArgumentException" ["java/lang/RuntimeException", "java/lang/Exception"]).filter goodWord)
def wsL_law0_r1 : List Cond := [Cond.classLink RL 8 RX6, Cond.instantiable RX6 12, Cond.initialized RX6, Cond.classLink RL 86 RX7, Cond.instantiable RX7 28, Cond.initialized RX7, Cond.arrayClass .long, Cond.methodLink RL 85 yX6_init, Cond.instanceMethod yX6_init, Cond.code yX6_init cX6_init 1 none, Cond.methodLink RX6 1 objectInit, Cond.instanceMethod objectInit, Cond.code objectInit ⟨#[0xb1]⟩ 1 none, Cond.classLink RX6 7 RJx4a65c, Cond.instantiable RJx4a65c 3, Cond.initialized RJx4a65c, Cond.fieldLink RX6 10 "Gaugerhall" "vessels" "Ljava/util/ArrayList;", Cond.fieldLink RX6 16 "Gaugerhall" "movements" "Ljava/util/ArrayList;", Cond.fieldLink RX6 19 "Gaugerhall" "lots" "Ljava/util/ArrayList;", Cond.arrayClass .int, Cond.fieldLink RX6 22 "Gaugerhall" "shareRates" "[I", Cond.classLink RX6 26 RX1, Cond.instantiable RX1 3, Cond.initialized RX1]
def wsL_law0_r2 : List Cond := [Cond.fieldLink RX6 29 "Gaugerhall" "excise" "LGaugerhall$Excise;", Cond.classLink RX6 33 RX2, Cond.instantiable RX2 5, Cond.initialized RX2, Cond.fieldLink RX6 36 "Gaugerhall" "book" "LGaugerhall$Ledger;", Cond.methodLink RX6 9 yJx4a65c_init_da8c8, Cond.instanceMethod yJx4a65c_init_da8c8, Cond.code yJx4a65c_init_da8c8 cJx4a65c_init_da8c8 1 none, Cond.fieldLink RJx4a65c 39 "java/util/ArrayList" "DEFAULTCAPACITY_EMPTY_ELEMENTDATA" "[Ljava/lang/Object;", Cond.fieldLink RJx4a65c 9 "java/util/ArrayList" "elementData" "[Ljava/lang/Object;", Cond.methodLink RJx4a65c 1 yJxc12de_init_da8c8, Cond.instanceMethod yJxc12de_init_da8c8, Cond.initialized RJxc12de, Cond.code yJxc12de_init_da8c8 cJxc12de_init_da8c8 1 none, Cond.fieldLink RJxc12de 7 "java/util/AbstractList" "modCount" "I", Cond.methodLink RJxc12de 1 yJxa1e45_init_da8c8, Cond.instanceMethod yJxa1e45_init_da8c8, Cond.initialized RJxa1e45, Cond.code yJxa1e45_init_da8c8 cJxa1e45_init_da8c8 1 none, Cond.methodLink RJxa1e45 1 objectInit, Cond.instanceMethod yX1_init, Cond.code yX1_init cX1_init 1 none, Cond.methodLink RX1 1 objectInit, Cond.fieldLink RX1 7 "Gaugerhall$Excise" "rate" "I"]
def wsL_law0_r3 : List Cond := [Cond.constant RX1 13 (1000000), Cond.fieldLink RX1 14 "Gaugerhall$Excise" "leftForHalf" "I", Cond.instanceMethod yX2_init, Cond.code yX2_init cX2_init 1 none, Cond.methodLink RX2 1 objectInit, Cond.methodLink RL 88 yX7_init, Cond.instanceMethod yX7_init, Cond.code yX7_init cX7_init 1 none, Cond.methodLink RX7 1 objectInit, Cond.fieldLink RX7 7 "GaugerhallModel" "place" "[I", Cond.fieldLink RX7 13 "GaugerhallModel" "capacity" "[I", Cond.fieldLink RX7 16 "GaugerhallModel" "volume" "[I", Cond.fieldLink RX7 19 "GaugerhallModel" "drops" "[I", Cond.fieldLink RX7 22 "GaugerhallModel" "shares" "[I", Cond.fieldLink RX7 25 "GaugerhallModel" "ledger" "[I", Cond.fieldLink RX7 28 "GaugerhallModel" "rate" "I", Cond.fieldLink RX7 32 "GaugerhallModel" "budgetDay" "I", Cond.fieldLink RX7 35 "GaugerhallModel" "lotDrops" "[I", Cond.fieldLink RX7 38 "GaugerhallModel" "lotPaid" "[I", Cond.fieldLink RX7 41 "GaugerhallModel" "state" "[I", Cond.fieldLink RX7 44 "GaugerhallModel" "to" "[I", Cond.fieldLink RX7 47 "GaugerhallModel" "went" "[I", Cond.fieldLink RX7 50 "GaugerhallModel" "wentDrops" "[I", Cond.fieldLink RX7 53 "GaugerhallModel" "till" "[I"]
def wsL_law0_r4 : List Cond := [Cond.methodLink RL 89 yL_vessel, Cond.static yL_vessel, Cond.initialized RL, Cond.codeWith yL_vessel cL_vessel 5 (some .int) [(0, 10, 13, 13), (0, 10, 17, 15), (0, 10, 21, 17)], Cond.classLink RL 13 "java/lang/IndexOutOfBoundsException", Cond.methodLink RL 7 yX6_vessel, Cond.instanceMethod yX6_vessel, Cond.selects RX6 yX6_vessel yX6_vessel, Cond.code yX6_vessel cX6_vessel 3 (some .int), Cond.classLink RX6 44 "java/lang/IndexOutOfBoundsException", Cond.initialized "java/lang/IndexOutOfBoundsException", Cond.classLink RX6 55 "java/lang/IllegalArgumentException", Cond.initialized "java/lang/IllegalArgumentException", Cond.classLink RX6 64 "java/lang/IllegalStateException", Cond.initialized "java/lang/IllegalStateException", Cond.classLink RX6 69 RX5, Cond.instantiable RX5 4, Cond.initialized RX5, Cond.methodLink RX6 40 yX6_isPlace, Cond.instanceMethod yX6_isPlace, Cond.selects RX6 yX6_isPlace yX6_isPlace, Cond.code yX6_isPlace cX6_isPlace 2 (some .boolean), Cond.methodLink RX6 51 yX6_isWithin, Cond.static yX6_isWithin]
def wsL_law0_r5 : List Cond := [Cond.code yX6_isWithin cX6_isWithin 3 (some .boolean), Cond.methodLink RX6 60 yJx4a65c_size_8abf5, Cond.instanceMethod yJx4a65c_size_8abf5, Cond.selects RJx4a65c yJx4a65c_size_8abf5 yJx4a65c_size_8abf5, Cond.code yJx4a65c_size_8abf5 cJx4a65c_size_8abf5 1 (some .int), Cond.fieldLink RJx4a65c 48 "java/util/ArrayList" "size" "I", Cond.methodLink RX6 71 yX5_init, Cond.instanceMethod yX5_init, Cond.code yX5_init cX5_init 3 none, Cond.methodLink RX5 1 objectInit, Cond.fieldLink RX5 7 "Gaugerhall$Vessel" "place" "I", Cond.fieldLink RX5 13 "Gaugerhall$Vessel" "capacity" "I", Cond.methodLink RX6 74 yJx4a65c_add_9ea2d, Cond.instanceMethod yJx4a65c_add_9ea2d, Cond.selects RJx4a65c yJx4a65c_add_9ea2d yJx4a65c_add_9ea2d, Cond.code yJx4a65c_add_9ea2d cJx4a65c_add_9ea2d 2 (some .boolean), Cond.fieldLink RJx4a65c 63 "java/util/ArrayList" "modCount" "I", Cond.sameField "java/util/ArrayList" "java/util/AbstractList" "modCount" "I", Cond.methodLink RJx4a65c 131 yJx4a65c_add_72be8, Cond.instanceMethod yJx4a65c_add_72be8, Cond.selects RJx4a65c yJx4a65c_add_72be8 yJx4a65c_add_72be8, Cond.code yJx4a65c_add_72be8 cJx4a65c_add_72be8 4 none, Cond.methodLink RJx4a65c 129 yJx4a65c_grow_d5877, Cond.instanceMethod yJx4a65c_grow_d5877]
def wsL_law0_r6 : List Cond := [Cond.selects RJx4a65c yJx4a65c_grow_d5877 yJx4a65c_grow_d5877, Cond.code yJx4a65c_grow_d5877 cJx4a65c_grow_d5877 1 (some (.array (.object "java/lang/Object"))), Cond.methodLink RJx4a65c 69 yJx4a65c_grow_92f84, Cond.instanceMethod yJx4a65c_grow_92f84, Cond.selects RJx4a65c yJx4a65c_grow_92f84 yJx4a65c_grow_92f84, Cond.code yJx4a65c_grow_92f84 cJx4a65c_grow_92f84 4 (some (.array (.object "java/lang/Object"))), Cond.methodLink RJx4a65c 79 Lib.Math.max.name, Cond.static Lib.Math.max.name, Cond.initialized "java/lang/Math", Cond.code Lib.Math.max.name Lib.Math.max.code 2 (some .int), Cond.classLink RJx4a65c 7 "java/lang/Object", Cond.methodLink RJx4a65c 73 yJ8_newLength_cabcc, Cond.static yJ8_newLength_cabcc, Cond.initialized RJ8, Cond.code yJ8_newLength_cabcc cJ8_newLength_cabcc 4 (some .int), Cond.methodLink RJ8 194 Lib.Math.max.name, Cond.constant RJ8 200 (2147483639), Cond.methodLink RJ8 201 yJ8_hugeLength_7cf53, Cond.static yJ8_hugeLength_7cf53, Cond.code yJ8_hugeLength_7cf53 cJ8_hugeLength_7cf53 3 (some .int), Cond.methodLink RJx4a65c 66 yJ7_copyOf_1904c, Cond.static yJ7_copyOf_1904c, Cond.initialized RJ7, Cond.code yJ7_copyOf_1904c cJ7_copyOf_1904c 2 (some (.array (.object "java/lang/Object")))]
def wsL_law0_r7 : List Cond := [Cond.methodLink RJ7 86 ⟨"java/lang/Object", "getClass", "()Ljava/lang/Class;"⟩, Cond.selects "[Ljava/lang/Object;" ⟨"java/lang/Object", "getClass", "()Ljava/lang/Class;"⟩ ⟨"java/lang/Object", "getClass", "()Ljava/lang/Class;"⟩, Cond.instanceMethod ⟨"java/lang/Object", "getClass", "()Ljava/lang/Class;"⟩, Cond.native ⟨"java/lang/Object", "getClass", "()Ljava/lang/Class;"⟩, Cond.methodLink RJ7 300 yJ7_copyOf_6403c, Cond.static yJ7_copyOf_6403c, Cond.code yJ7_copyOf_6403c cJ7_copyOf_6403c 4 (some (.array (.object "java/lang/Object"))), Cond.classLink RJ7 110 "[Ljava/lang/Object;", Cond.classLink RJ7 2 "java/lang/Object", Cond.methodLink RJ7 304 Lib.Math.min.name, Cond.static Lib.Math.min.name, Cond.code Lib.Math.min.name Lib.Math.min.code 2 (some .int), Cond.methodLink RJ7 150 arraycopyName, Cond.native arraycopyName, Cond.static arraycopyName, Cond.initialized "java/lang/System", Cond.methodLink RL 94 yX7_vessel, Cond.instanceMethod yX7_vessel, Cond.selects RX7 yX7_vessel yX7_vessel, Cond.code yX7_vessel cX7_vessel 3 (some .int), Cond.fieldLink RX7 59 "GaugerhallModel" "vessels" "I", Cond.fieldLink RX7 56 "GaugerhallModel" "thrown" "I", Cond.methodLink RX7 88 yX7_isPlace, Cond.static yX7_isPlace]
def wsL_law0_r8 : List Cond := [Cond.code yX7_isPlace cX7_isPlace 1 (some .boolean), Cond.methodLink RX7 62 yX7_in, Cond.static yX7_in, Cond.code yX7_in cX7_in 3 (some .boolean), Cond.methodLink RL 95 yX7_thrown, Cond.instanceMethod yX7_thrown, Cond.selects RX7 yX7_thrown yX7_thrown, Cond.code yX7_thrown cX7_thrown 1 (some .int), Cond.methodLink RL 99 yL_shares, Cond.static yL_shares, Cond.codeWith yL_shares cL_shares 5 (some .int) [(0, 10, 13, 13), (0, 10, 17, 15)], Cond.methodLink RL 19 yX6_shares, Cond.instanceMethod yX6_shares, Cond.selects RX6 yX6_shares yX6_shares, Cond.code yX6_shares cX6_shares 4 (some .int), Cond.methodLink RL 101 yX7_shares, Cond.instanceMethod yX7_shares, Cond.selects RX7 yX7_shares yX7_shares, Cond.code yX7_shares cX7_shares 4 (some .int), Cond.methodLink RL 102 yL_run, Cond.static yL_run, Cond.codeWith yL_run cL_run 8 (some .int) [(0, 16, 19, 13), (0, 16, 23, 15), (0, 16, 27, 17)], Cond.methodLink RL 22 yX6_run, Cond.instanceMethod yX6_run]
def wsL_law0_r9 : List Cond := [Cond.selects RX6 yX6_run yX6_run, Cond.code yX6_run cX6_run 10 (some .int), Cond.fieldLink RX6 91 "Gaugerhall" "runs" "I", Cond.methodLink RX6 107 Lib.Math.max.name, Cond.methodLink RX6 80 yX6_vesselOf, Cond.instanceMethod yX6_vesselOf, Cond.selects RX6 yX6_vesselOf yX6_vesselOf, Cond.code yX6_vesselOf cX6_vesselOf 2 (some (.object "Gaugerhall$Vessel")), Cond.classLink RX6 69 "Gaugerhall$Vessel", Cond.methodLink RX6 194 yJx4a65c_get_915e3, Cond.instanceMethod yJx4a65c_get_915e3, Cond.selects RJx4a65c yJx4a65c_get_915e3 yJx4a65c_get_915e3, Cond.code yJx4a65c_get_915e3 cJx4a65c_get_915e3 2 (some (.object "java/lang/Object")), Cond.methodLink RJx4a65c 118 yJ15_checkIndex_7cf53, Cond.static yJ15_checkIndex_7cf53, Cond.initialized RJ15, Cond.code yJ15_checkIndex_7cf53 cJ15_checkIndex_7cf53 2 (some .int), Cond.methodLink RJ15 105 yJ3_checkIndex_8e157, Cond.static yJ3_checkIndex_8e157, Cond.initialized RJ3, Cond.code yJ3_checkIndex_8e157 cJ3_checkIndex_8e157 3 (some .int), Cond.methodLink RJx4a65c 123 yJx4a65c_elementData_915e3, Cond.instanceMethod yJx4a65c_elementData_915e3, Cond.selects RJx4a65c yJx4a65c_elementData_915e3 yJx4a65c_elementData_915e3]
def wsL_law0_r10 : List Cond := [Cond.code yJx4a65c_elementData_915e3 cJx4a65c_elementData_915e3 2 (some (.object "java/lang/Object")), Cond.methodLink RX6 88 yX5_hasRoomFor, Cond.instanceMethod yX5_hasRoomFor, Cond.selects RX5 yX5_hasRoomFor yX5_hasRoomFor, Cond.code yX5_hasRoomFor cX5_hasRoomFor 2 (some .boolean), Cond.fieldLink RX5 16 "Gaugerhall$Vessel" "volume" "I", Cond.methodLink RX6 97 yX5_comeIn, Cond.instanceMethod yX5_comeIn, Cond.selects RX5 yX5_comeIn yX5_comeIn, Cond.code yX5_comeIn cX5_comeIn 5 none, Cond.fieldLink RX5 19 "Gaugerhall$Vessel" "drops" "I", Cond.methodLink RX5 32 Lib.Math.abs.name, Cond.static Lib.Math.abs.name, Cond.code Lib.Math.abs.name Lib.Math.abs.code 1 (some .int), Cond.methodLink RX5 37 Lib.Math.min.name, Cond.static yX6_part, Cond.code yX6_part cX6_part 3 (some .int), Cond.methodLink RX6 103 yX6_part, Cond.methodLink RX6 116 yX1_chargeWhole, Cond.instanceMethod yX1_chargeWhole, Cond.selects RX1 yX1_chargeWhole yX1_chargeWhole, Cond.code yX1_chargeWhole cX1_chargeWhole 3 (some .int), Cond.fieldLink RX1 27 "Gaugerhall$Excise" "owed" "I", Cond.methodLink RX1 23 yX1_dutyFor]
def wsL_law0_r11 : List Cond := [Cond.instanceMethod yX1_dutyFor, Cond.selects RX1 yX1_dutyFor yX1_dutyFor, Cond.code yX1_dutyFor cX1_dutyFor 2 (some .int), Cond.methodLink RL 105 yX7_run, Cond.instanceMethod yX7_run, Cond.selects RX7 yX7_run yX7_run, Cond.code yX7_run cX7_run 9 (some .int), Cond.fieldLink RX7 95 "GaugerhallModel" "runs" "I", Cond.fieldLink RX7 85 "GaugerhallModel" "owed" "I", Cond.methodLink RX7 92 yX7_isVessel, Cond.instanceMethod yX7_isVessel, Cond.selects RX7 yX7_isVessel yX7_isVessel, Cond.code yX7_isVessel cX7_isVessel 2 (some .boolean), Cond.methodLink RX7 98 yX7_hasRoom, Cond.instanceMethod yX7_hasRoom, Cond.selects RX7 yX7_hasRoom yX7_hasRoom, Cond.code yX7_hasRoom cX7_hasRoom 3 (some .boolean), Cond.methodLink RX7 82 yX7_dutyFor, Cond.instanceMethod yX7_dutyFor, Cond.selects RX7 yX7_dutyFor yX7_dutyFor, Cond.code yX7_dutyFor cX7_dutyFor 3 (some .int), Cond.constantLong RX7 80 (1000), Cond.methodLink RX7 102 yX7_comes, Cond.instanceMethod yX7_comes]
def wsL_law0_r12 : List Cond := [Cond.selects RX7 yX7_comes yX7_comes, Cond.code yX7_comes cX7_comes 4 none, Cond.methodLink RX7 73 yX7_with, Cond.instanceMethod yX7_with, Cond.selects RX7 yX7_with yX7_with, Cond.code yX7_with cX7_with 5 (some .int), Cond.methodLink RX7 66 yX7_strengthOf, Cond.static yX7_strengthOf, Cond.code yX7_strengthOf cX7_strengthOf 2 (some .int), Cond.methodLink RX7 70 yX7_least, Cond.static yX7_least, Cond.code yX7_least cX7_least 2 (some .int), Cond.methodLink RL 106 yL_move, Cond.static yL_move, Cond.codeWith yL_move cL_move 6 (some .int) [(0, 12, 15, 13), (0, 12, 19, 15), (0, 12, 23, 17)], Cond.methodLink RL 26 yX6_move, Cond.instanceMethod yX6_move, Cond.selects RX6 yX6_move yX6_move, Cond.code yX6_move cX6_move 6 (some .int), Cond.methodLink RX6 125 yX5_has, Cond.instanceMethod yX5_has, Cond.selects RX5 yX5_has yX5_has, Cond.code yX5_has cX5_has 2 (some .boolean), Cond.methodLink RX6 130 yX5_takeOut]
def wsL_law0_r13 : List Cond := [Cond.instanceMethod yX5_takeOut, Cond.selects RX5 yX5_takeOut yX5_takeOut, Cond.code yX5_takeOut cX5_takeOut 3 (some .int), Cond.methodLink RX5 28 yX5_dropsOf, Cond.instanceMethod yX5_dropsOf, Cond.selects RX5 yX5_dropsOf yX5_dropsOf, Cond.code yX5_dropsOf cX5_dropsOf 2 (some .int), Cond.methodLink RL 109 yX7_move, Cond.instanceMethod yX7_move, Cond.selects RX7 yX7_move yX7_move, Cond.code yX7_move cX7_move 5 (some .int), Cond.methodLink RX7 106 yX7_hasPart, Cond.instanceMethod yX7_hasPart, Cond.selects RX7 yX7_hasPart yX7_hasPart, Cond.code yX7_hasPart cX7_hasPart 3 (some .boolean), Cond.methodLink RX7 109 yX7_takes, Cond.instanceMethod yX7_takes, Cond.selects RX7 yX7_takes yX7_takes, Cond.code yX7_takes cX7_takes 4 (some .int), Cond.methodLink RX7 77 yX7_part, Cond.static yX7_part, Cond.code yX7_part cX7_part 3 (some .int), Cond.methodLink RL 110 yL_dip, Cond.static yL_dip]
def wsL_law0_r14 : List Cond := [Cond.codeWith yL_dip cL_dip 6 (some .int) [(0, 12, 15, 13), (0, 12, 19, 15), (0, 12, 23, 17)], Cond.methodLink RL 30 yX6_dip, Cond.instanceMethod yX6_dip, Cond.selects RX6 yX6_dip yX6_dip, Cond.code yX6_dip cX6_dip 7 (some .int), Cond.fieldLink RX6 139 "Gaugerhall" "dips" "I", Cond.methodLink RX6 147 yX6_miss, Cond.instanceMethod yX6_miss, Cond.selects RX6 yX6_miss yX6_miss, Cond.code yX6_miss cX6_miss 2 (some .int), Cond.methodLink RL 112 yX7_dip, Cond.instanceMethod yX7_dip, Cond.selects RX7 yX7_dip yX7_dip, Cond.code yX7_dip cX7_dip 6 (some .int), Cond.fieldLink RX7 112 "GaugerhallModel" "dips" "I", Cond.methodLink RX7 115 yX7_misses, Cond.instanceMethod yX7_misses, Cond.selects RX7 yX7_misses yX7_misses, Cond.code yX7_misses cX7_misses 3 (some .int), Cond.methodLink RL 113 yL_lose, Cond.static yL_lose, Cond.codeWith yL_lose cL_lose 6 (some .int) [(0, 12, 15, 13), (0, 12, 19, 15), (0, 12, 23, 17)], Cond.methodLink RL 33 yX6_lose, Cond.instanceMethod yX6_lose]
def wsL_law0_r15 : List Cond := [Cond.selects RX6 yX6_lose yX6_lose, Cond.code yX6_lose cX6_lose 6 (some .int), Cond.methodLink RL 116 yX7_lose, Cond.instanceMethod yX7_lose, Cond.selects RX7 yX7_lose yX7_lose, Cond.code yX7_lose cX7_lose 5 (some .int), Cond.methodLink RX7 119 yX7_asksPart, Cond.instanceMethod yX7_asksPart, Cond.selects RX7 yX7_asksPart yX7_asksPart, Cond.code yX7_asksPart cX7_asksPart 3 (some .boolean), Cond.methodLink RL 117 yL_release, Cond.static yL_release, Cond.codeWith yL_release cL_release 5 (some .int) [(0, 10, 13, 13), (0, 10, 17, 15), (0, 10, 21, 17)], Cond.methodLink RL 37 yX6_release, Cond.instanceMethod yX6_release, Cond.selects RX6 yX6_release yX6_release, Cond.code yX6_release cX6_release 6 (some .int), Cond.fieldLink RX6 159 "Gaugerhall" "coming" "LGaugerhall$Budget;", Cond.classLink RX6 176 RX3, Cond.instantiable RX3 2, Cond.initialized RX3, Cond.methodLink RX6 163 yX5_dropsOf, Cond.methodLink RX6 173 yX1_chargeLeaving, Cond.instanceMethod yX1_chargeLeaving]
def wsL_law0_r16 : List Cond := [Cond.selects RX1 yX1_chargeLeaving yX1_chargeLeaving, Cond.code yX1_chargeLeaving cX1_chargeLeaving 4 (some .int), Cond.methodLink RX1 30 Lib.Math.min.name, Cond.methodLink RX6 178 yX3_init, Cond.instanceMethod yX3_init, Cond.code yX3_init cX3_init 3 none, Cond.methodLink RX3 1 objectInit, Cond.fieldLink RX3 7 "Gaugerhall$Lot" "drops" "I", Cond.fieldLink RX3 13 "Gaugerhall$Lot" "money" "I", Cond.methodLink RL 119 yX7_release, Cond.instanceMethod yX7_release, Cond.selects RX7 yX7_release yX7_release, Cond.code yX7_release cX7_release 6 (some .int), Cond.fieldLink RX7 122 "GaugerhallModel" "quota" "I", Cond.fieldLink RX7 125 "GaugerhallModel" "lots" "I", Cond.constant RX7 128 (1000000), Cond.fieldLink RX7 129 "GaugerhallModel" "halves" "I", Cond.methodLink RL 120 yL_permit, Cond.static yL_permit, Cond.codeWith yL_permit cL_permit 4 (some .int) [(0, 9, 12, 15)], Cond.classLink RL 15 "java/lang/IllegalArgumentException", Cond.methodLink RL 40 yX6_permit, Cond.instanceMethod yX6_permit, Cond.selects RX6 yX6_permit yX6_permit]
def wsL_law0_r17 : List Cond := [Cond.code yX6_permit cX6_permit 3 (some .int), Cond.constant RX6 179 (9999999), Cond.fieldLink RX6 182 "Gaugerhall" "permitted" "I", Cond.methodLink RL 123 yX7_permit, Cond.instanceMethod yX7_permit, Cond.selects RX7 yX7_permit yX7_permit, Cond.code yX7_permit cX7_permit 3 (some .int), Cond.constant RX7 132 (9999999), Cond.fieldLink RX7 133 "GaugerhallModel" "permit" "I", Cond.methodLink RL 124 yL_denature, Cond.static yL_denature, Cond.codeWith yL_denature cL_denature 5 (some .int) [(0, 10, 13, 13), (0, 10, 17, 15), (0, 10, 21, 17)], Cond.methodLink RL 44 yX6_denature, Cond.instanceMethod yX6_denature, Cond.selects RX6 yX6_denature yX6_denature, Cond.code yX6_denature cX6_denature 5 (some .int), Cond.methodLink RL 126 yX7_denature, Cond.instanceMethod yX7_denature, Cond.selects RX7 yX7_denature yX7_denature, Cond.code yX7_denature cX7_denature 4 (some .int), Cond.methodLink RL 127 yL_export, Cond.static yL_export, Cond.codeWith yL_export cL_export 4 (some .int) [(0, 9, 12, 15), (0, 9, 15, 17)], Cond.methodLink RL 47 yX6_export]
def wsL_law0_r18 : List Cond := [Cond.instanceMethod yX6_export, Cond.selects RX6 yX6_export yX6_export, Cond.code yX6_export cX6_export 7 (some .int), Cond.classLink RX6 176 "Gaugerhall$Lot", Cond.methodLink RX6 199 Lib.Math.min.name, Cond.methodLink RX6 189 yX6_dropsInLots, Cond.instanceMethod yX6_dropsInLots, Cond.selects RX6 yX6_dropsInLots yX6_dropsInLots, Cond.code yX6_dropsInLots cX6_dropsInLots 3 (some .int), Cond.methodLink RX6 202 yX3_drawBack, Cond.instanceMethod yX3_drawBack, Cond.selects RX3 yX3_drawBack yX3_drawBack, Cond.code yX3_drawBack cX3_drawBack 3 (some .int), Cond.methodLink RL 129 yX7_export, Cond.instanceMethod yX7_export, Cond.selects RX7 yX7_export yX7_export, Cond.code yX7_export cX7_export 7 (some .int), Cond.methodLink RX7 136 yX7_inLots, Cond.instanceMethod yX7_inLots, Cond.selects RX7 yX7_inLots yX7_inLots, Cond.code yX7_inLots cX7_inLots 3 (some .int), Cond.methodLink RL 130 yL_pay, Cond.static yL_pay, Cond.codeWith yL_pay cL_pay 4 (some .int) [(0, 9, 12, 15), (0, 9, 15, 17)]]
def wsL_law0_r19 : List Cond := [Cond.methodLink RL 50 yX6_pay, Cond.instanceMethod yX6_pay, Cond.selects RX6 yX6_pay yX6_pay, Cond.code yX6_pay cX6_pay 2 (some .int), Cond.constant RX6 211 (999999), Cond.methodLink RL 132 yX7_pay, Cond.instanceMethod yX7_pay, Cond.selects RX7 yX7_pay yX7_pay, Cond.code yX7_pay cX7_pay 2 (some .int), Cond.constant RX7 140 (999999), Cond.methodLink RL 133 yL_budget, Cond.static yL_budget, Cond.codeWith yL_budget cL_budget 5 (some .int) [(0, 7, 10, 15), (0, 7, 14, 17)], Cond.methodLink RL 53 yX6_budget, Cond.instanceMethod yX6_budget, Cond.selects RX6 yX6_budget yX6_budget, Cond.code yX6_budget cX6_budget 4 none, Cond.fieldLink RX6 216 "Gaugerhall" "today" "I", Cond.classLink RX6 167 RX0, Cond.instantiable RX0 3, Cond.initialized RX0, Cond.methodLink RX6 225 yX0_init, Cond.instanceMethod yX0_init, Cond.code yX0_init cX0_init 4 none]
def wsL_law0_r20 : List Cond := [Cond.methodLink RX0 1 objectInit, Cond.fieldLink RX0 7 "Gaugerhall$Budget" "day" "I", Cond.fieldLink RX0 13 "Gaugerhall$Budget" "rate" "I", Cond.fieldLink RX0 16 "Gaugerhall$Budget" "quota" "I", Cond.methodLink RL 136 yX7_budget, Cond.instanceMethod yX7_budget, Cond.selects RX7 yX7_budget yX7_budget, Cond.code yX7_budget cX7_budget 5 none, Cond.fieldLink RX7 141 "GaugerhallModel" "day" "I", Cond.fieldLink RX7 144 "GaugerhallModel" "budgetRate" "I", Cond.methodLink RL 137 yL_guarantee, Cond.static yL_guarantee, Cond.codeWith yL_guarantee cL_guarantee 4 (some .int) [(0, 9, 12, 15), (0, 9, 15, 17)], Cond.methodLink RL 57 yX6_guarantee, Cond.instanceMethod yX6_guarantee, Cond.selects RX6 yX6_guarantee yX6_guarantee, Cond.code yX6_guarantee cX6_guarantee 3 (some .int), Cond.fieldLink RX6 236 "Gaugerhall" "guaranteed" "I", Cond.methodLink RX6 228 yX6_dropsThatMove, Cond.instanceMethod yX6_dropsThatMove, Cond.selects RX6 yX6_dropsThatMove yX6_dropsThatMove, Cond.code yX6_dropsThatMove cX6_dropsThatMove 4 (some .int), Cond.classLink RX6 245 "Gaugerhall$Movement", Cond.methodLink RX6 231 yX1_dutyFor]
def wsL_law0_r21 : List Cond := [Cond.methodLink RL 139 yX7_guarantee, Cond.instanceMethod yX7_guarantee, Cond.selects RX7 yX7_guarantee yX7_guarantee, Cond.code yX7_guarantee cX7_guarantee 3 (some .int), Cond.fieldLink RX7 153 "GaugerhallModel" "guarantee" "I", Cond.methodLink RX7 150 yX7_moving, Cond.instanceMethod yX7_moving, Cond.selects RX7 yX7_moving yX7_moving, Cond.code yX7_moving cX7_moving 3 (some .int), Cond.fieldLink RX7 147 "GaugerhallModel" "movements" "I", Cond.methodLink RL 140 yL_ship, Cond.static yL_ship, Cond.codeWith yL_ship cL_ship 7 (some .int) [(0, 14, 17, 13), (0, 14, 21, 15), (0, 14, 25, 17)], Cond.methodLink RL 60 yX6_ship, Cond.instanceMethod yX6_ship, Cond.selects RX6 yX6_ship yX6_ship, Cond.code yX6_ship cX6_ship 7 (some .int), Cond.classLink RX6 245 RX4, Cond.instantiable RX4 5, Cond.initialized RX4, Cond.methodLink RX6 247 yX4_init, Cond.instanceMethod yX4_init, Cond.code yX4_init cX4_init 5 none, Cond.methodLink RX4 3 objectInit]
def wsL_law0_r22 : List Cond := [Cond.fieldLink RX4 9 "Gaugerhall$Movement" "state" "I", Cond.fieldLink RX4 15 "Gaugerhall$Movement" "to" "LGaugerhall$Vessel;", Cond.fieldLink RX4 19 "Gaugerhall$Movement" "volume" "I", Cond.fieldLink RX4 22 "Gaugerhall$Movement" "drops" "I", Cond.fieldLink RX4 25 "Gaugerhall$Movement" "lastDay" "I", Cond.methodLink RL 143 yX7_ship, Cond.instanceMethod yX7_ship, Cond.selects RX7 yX7_ship yX7_ship, Cond.code yX7_ship cX7_ship 7 (some .int), Cond.methodLink RL 144 yL_arrive, Cond.static yL_arrive, Cond.codeWith yL_arrive cL_arrive 5 (some .int) [(0, 10, 13, 13), (0, 10, 17, 15), (0, 10, 21, 17)], Cond.methodLink RL 64 yX6_arrive, Cond.instanceMethod yX6_arrive, Cond.selects RX6 yX6_arrive yX6_arrive, Cond.code yX6_arrive cX6_arrive 6 (some .int), Cond.methodLink RX6 250 yX6_movementOf, Cond.instanceMethod yX6_movementOf, Cond.selects RX6 yX6_movementOf yX6_movementOf, Cond.code yX6_movementOf cX6_movementOf 2 (some (.object "Gaugerhall$Movement")), Cond.methodLink RL 146 yX7_arrive, Cond.instanceMethod yX7_arrive, Cond.selects RX7 yX7_arrive yX7_arrive, Cond.code yX7_arrive cX7_arrive 6 (some .int)]
def wsL_law0_r23 : List Cond := [Cond.methodLink RL 147 yL_pass, Cond.static yL_pass, Cond.codeWith yL_pass cL_pass 4 (some .int) [(0, 9, 12, 15), (0, 9, 15, 17)], Cond.methodLink RL 67 yX6_pass, Cond.instanceMethod yX6_pass, Cond.selects RX6 yX6_pass yX6_pass, Cond.code yX6_pass cX6_pass 3 (some .int), Cond.methodLink RX6 271 yX6_beginDay, Cond.instanceMethod yX6_beginDay, Cond.selects RX6 yX6_beginDay yX6_beginDay, Cond.code yX6_beginDay cX6_beginDay 1 none, Cond.methodLink RX6 295 yX1_beginYear, Cond.instanceMethod yX1_beginYear, Cond.selects RX1 yX1_beginYear yX1_beginYear, Cond.code yX1_beginYear cX1_beginYear 1 none, Cond.methodLink RX6 302 yX6_loseLateMovements, Cond.instanceMethod yX6_loseLateMovements, Cond.selects RX6 yX6_loseLateMovements yX6_loseLateMovements, Cond.code yX6_loseLateMovements cX6_loseLateMovements 3 none, Cond.methodLink RX6 305 yX6_takeShares, Cond.instanceMethod yX6_takeShares, Cond.selects RX6 yX6_takeShares yX6_takeShares, Cond.code yX6_takeShares cX6_takeShares 3 none, Cond.methodLink RX6 311 yX5_takeShare]
def wsL_law0_r24 : List Cond := [Cond.instanceMethod yX5_takeShare, Cond.selects RX5 yX5_takeShare yX5_takeShare, Cond.code yX5_takeShare cX5_takeShare 3 (some .int), Cond.constant RX5 41 (100000), Cond.methodLink RX6 308 yX1_growOwed, Cond.instanceMethod yX1_growOwed, Cond.selects RX1 yX1_growOwed yX1_growOwed, Cond.code yX1_growOwed cX1_growOwed 1 none, Cond.methodLink RL 149 yX7_pass, Cond.instanceMethod yX7_pass, Cond.selects RX7 yX7_pass yX7_pass, Cond.code yX7_pass cX7_pass 3 (some .int), Cond.methodLink RX7 157 yX7_passesOne, Cond.instanceMethod yX7_passesOne, Cond.selects RX7 yX7_passesOne yX7_passesOne, Cond.code yX7_passesOne cX7_passesOne 3 none, Cond.constant RX7 156 (100000), Cond.methodLink RL 150 yX6_day, Cond.instanceMethod yX6_day, Cond.selects RX6 yX6_day yX6_day, Cond.code yX6_day cX6_day 1 (some .int), Cond.methodLink RL 153 yX7_day, Cond.instanceMethod yX7_day, Cond.selects RX7 yX7_day yX7_day]
def wsL_law0_r25 : List Cond := [Cond.code yX7_day cX7_day 1 (some .int), Cond.methodLink RL 154 yL_ofVessel, Cond.static yL_ofVessel, Cond.codeWith yL_ofVessel cL_ofVessel 5 (some .int) [(0, 10, 13, 13)], Cond.methodLink RL 70 yX6_ofVessel, Cond.instanceMethod yX6_ofVessel, Cond.selects RX6 yX6_ofVessel yX6_ofVessel, Cond.code yX6_ofVessel cX6_ofVessel 4 (some .int), Cond.methodLink RL 156 yX7_ofVessel, Cond.instanceMethod yX7_ofVessel, Cond.selects RX7 yX7_ofVessel yX7_ofVessel, Cond.code yX7_ofVessel cX7_ofVessel 3 (some .int), Cond.methodLink RL 157 yL_dropsAnew, Cond.static yL_dropsAnew, Cond.codeWith yL_dropsAnew cL_dropsAnew 4 (some .int) [(0, 9, 12, 13)], Cond.methodLink RL 73 yX6_dropsAnew, Cond.instanceMethod yX6_dropsAnew, Cond.selects RX6 yX6_dropsAnew yX6_dropsAnew, Cond.code yX6_dropsAnew cX6_dropsAnew 2 (some .int), Cond.methodLink RL 159 yX7_dropsAnew, Cond.instanceMethod yX7_dropsAnew, Cond.selects RX7 yX7_dropsAnew yX7_dropsAnew, Cond.code yX7_dropsAnew cX7_dropsAnew 2 (some .int), Cond.methodLink RL 160 yL_ofMovement]
def wsL_law0_r26 : List Cond := [Cond.static yL_ofMovement, Cond.codeWith yL_ofMovement cL_ofMovement 5 (some .int) [(0, 10, 13, 13)], Cond.methodLink RL 76 yX6_ofMovement, Cond.instanceMethod yX6_ofMovement, Cond.selects RX6 yX6_ofMovement yX6_ofMovement, Cond.code yX6_ofMovement cX6_ofMovement 4 (some .int), Cond.methodLink RL 162 yX7_ofMovement, Cond.instanceMethod yX7_ofMovement, Cond.selects RX7 yX7_ofMovement yX7_ofMovement, Cond.code yX7_ofMovement cX7_ofMovement 3 (some .int), Cond.methodLink RL 163 yL_ledger, Cond.static yL_ledger, Cond.codeWith yL_ledger cL_ledger 4 (some .int) [(0, 9, 12, 15)], Cond.methodLink RL 79 yX6_ledger, Cond.instanceMethod yX6_ledger, Cond.selects RX6 yX6_ledger yX6_ledger, Cond.code yX6_ledger cX6_ledger 2 (some .int), Cond.methodLink RX6 279 yX6_dropsInVessels, Cond.instanceMethod yX6_dropsInVessels, Cond.selects RX6 yX6_dropsInVessels yX6_dropsInVessels, Cond.code yX6_dropsInVessels cX6_dropsInVessels 3 (some .int), Cond.methodLink RL 165 yX7_ledger, Cond.instanceMethod yX7_ledger, Cond.selects RX7 yX7_ledger yX7_ledger]
def wsL_law0_r27 : List Cond := [Cond.code yX7_ledger cX7_ledger 2 (some .int), Cond.methodLink RX7 160 yX7_inVessels, Cond.instanceMethod yX7_inVessels, Cond.selects RX7 yX7_inVessels yX7_inVessels, Cond.code yX7_inVessels cX7_inVessels 3 (some .int), Cond.methodLink RL 166 yL_duty, Cond.static yL_duty, Cond.codeWith yL_duty cL_duty 4 (some .int) [(0, 9, 12, 15)], Cond.methodLink RL 82 yX6_duty, Cond.instanceMethod yX6_duty, Cond.selects RX6 yX6_duty yX6_duty, Cond.code yX6_duty cX6_duty 2 (some .int), Cond.methodLink RL 168 yX7_duty, Cond.instanceMethod yX7_duty, Cond.selects RX7 yX7_duty yX7_duty, Cond.code yX7_duty cX7_duty 2 (some .int)]
def wsL_law0 : List Cond := (wsL_law0_r1 ++ (wsL_law0_r2 ++ (wsL_law0_r3 ++ (wsL_law0_r4 ++ (wsL_law0_r5 ++ (wsL_law0_r6 ++ (wsL_law0_r7 ++ (wsL_law0_r8 ++ (wsL_law0_r9 ++ (wsL_law0_r10 ++ (wsL_law0_r11 ++ (wsL_law0_r12 ++ (wsL_law0_r13 ++ (wsL_law0_r14 ++ (wsL_law0_r15 ++ (wsL_law0_r16 ++ (wsL_law0_r17 ++ (wsL_law0_r18 ++ (wsL_law0_r19 ++ (wsL_law0_r20 ++ (wsL_law0_r21 ++ (wsL_law0_r22 ++ (wsL_law0_r23 ++ (wsL_law0_r24 ++ (wsL_law0_r25 ++ (wsL_law0_r26 ++ wsL_law0_r27)))))))))))))))))))))))))) ++ wsX60 ++ wsX70 ++ wsJx4a65c0 ++ wsX10 ++ wsX20 ++ wsX50 ++ wsX00 ++ wsX30 ++ wsX40 ++ ([] : List Cond)
def wsL_law : List Cond := wsL_law0 ++ (vx_atS RX6 48 "java/lang/IndexOutOfBoundsException" ["java/lang/RuntimeException", "java/lang/Exception"]).filter goodWord ++ (vx_atS RX6 59 "java/lang/IllegalArgumentException" ["java/lang/RuntimeException", "java/lang/Exception"]).filter goodWord ++ (vx_atS RX6 68 "java/lang/IllegalStateException" ["java/lang/RuntimeException", "java/lang/Exception"]).filter goodWord
abbrev vwCl : List vw_C := [(RJx4a65c, TJx4a65c, 3), (RX0, TX0, 3), (RX1, TX1, 3), (RX2, TX2, 5), (RX3, TX3, 2), (RX4, TX4, 5), (RX5, TX5, 4), (RX6, TX6, 12), (RX7, TX7, 28)]
end
section
theorem dX0_init_0 : decode cX0_init 0 = .ok (.aload_n 0, 1) := by decide +kernel
theorem dX0_init_1 : decode cX0_init 1 = .ok (.invokespecial 1, 3) := by decide +kernel
theorem dX0_init_4 : decode cX0_init 4 = .ok (.aload_n 0, 1) := by decide +kernel
theorem dX0_init_5 : decode cX0_init 5 = .ok (.iload_n 1, 1) := by decide +kernel
theorem dX0_init_6 : decode cX0_init 6 = .ok (.putfield 7, 3) := by decide +kernel
theorem dX0_init_9 : decode cX0_init 9 = .ok (.aload_n 0, 1) := by decide +kernel
theorem dX0_init_10 : decode cX0_init 10 = .ok (.iload_n 2, 1) := by decide +kernel
theorem dX0_init_11 : decode cX0_init 11 = .ok (.putfield 13, 3) := by decide +kernel
theorem dX0_init_14 : decode cX0_init 14 = .ok (.aload_n 0, 1) := by decide +kernel
theorem dX0_init_15 : decode cX0_init 15 = .ok (.iload_n 3, 1) := by decide +kernel
theorem dX0_init_16 : decode cX0_init 16 = .ok (.putfield 16, 3) := by decide +kernel
theorem dX0_init_19 : decode cX0_init 19 = .ok (.return_, 1) := by decide +kernel
theorem dX1_init_0 : decode cX1_init 0 = .ok (.aload_n 0, 1) := by decide +kernel
theorem dX1_init_1 : decode cX1_init 1 = .ok (.invokespecial 1, 3) := by decide +kernel
theorem dX1_init_4 : decode cX1_init 4 = .ok (.aload_n 0, 1) := by decide +kernel
theorem dX1_init_5 : decode cX1_init 5 = .ok (.bipush 10, 2) := by decide +kernel
theorem dX1_init_7 : decode cX1_init 7 = .ok (.putfield 7, 3) := by decide +kernel
theorem dX1_init_10 : decode cX1_init 10 = .ok (.aload_n 0, 1) := by decide +kernel
theorem dX1_init_11 : decode cX1_init 11 = .ok (.ldc 13, 2) := by decide +kernel
theorem dX1_init_13 : decode cX1_init 13 = .ok (.putfield 14, 3) := by decide +kernel
theorem dX1_init_16 : decode cX1_init 16 = .ok (.return_, 1) := by decide +kernel
set_option maxRecDepth 20000 in
theorem ggX1_dutyFor_X6_part : GoodIn wsX1_dutyFor wsX6_part := goodIn_r _ [4] (by decide +kernel) (by decide +kernel)
set_option maxRecDepth 20000 in
theorem gX1_dutyFor_X6_part_n17 : GoodIn wsX1_dutyFor (wsX6_part) := ggX1_dutyFor_X6_part
theorem dX1_dutyFor_0 : decode cX1_dutyFor 0 = .ok (.iload_n 1, 1) := by decide +kernel
theorem dX1_dutyFor_1 : decode cX1_dutyFor 1 = .ok (.aload_n 0, 1) := by decide +kernel
theorem dX1_dutyFor_2 : decode cX1_dutyFor 2 = .ok (.getfield 7, 3) := by decide +kernel
theorem dX1_dutyFor_5 : decode cX1_dutyFor 5 = .ok (.sipush 1000, 3) := by decide +kernel
theorem dX1_dutyFor_8 : decode cX1_dutyFor 8 = .ok (.invokestatic 17, 3) := by decide +kernel
theorem dX1_dutyFor_11 : decode cX1_dutyFor 11 = .ok (.ireturn, 1) := by decide +kernel
set_option maxRecDepth 20000 in
theorem ggX1_chargeWhole_X1_dutyFor : GoodIn wsX1_chargeWhole wsX1_dutyFor := goodIn_r _ [6, 7, 8, 9, 10, 11, 12, 13] (by decide +kernel) (by decide +kernel)
set_option maxRecDepth 20000 in
theorem gX1_chargeWhole_X1_dutyFor : GoodIn wsX1_chargeWhole (wsV RX1 23 RX1 yX1_dutyFor wsX1_dutyFor) := goodIn_app (goodIn_of _ (by decide +kernel)) ggX1_chargeWhole_X1_dutyFor
theorem dX1_chargeWhole_0 : decode cX1_chargeWhole 0 = .ok (.aload_n 0, 1) := by decide +kernel
theorem dX1_chargeWhole_1 : decode cX1_chargeWhole 1 = .ok (.iload_n 1, 1) := by decide +kernel
theorem dX1_chargeWhole_2 : decode cX1_chargeWhole 2 = .ok (.invokevirtual 23, 3) := by decide +kernel
theorem dX1_chargeWhole_5 : decode cX1_chargeWhole 5 = .ok (.istore_n 2, 1) := by decide +kernel
theorem dX1_chargeWhole_6 : decode cX1_chargeWhole 6 = .ok (.aload_n 0, 1) := by decide +kernel
theorem dX1_chargeWhole_7 : decode cX1_chargeWhole 7 = .ok (.dup, 1) := by decide +kernel
theorem dX1_chargeWhole_8 : decode cX1_chargeWhole 8 = .ok (.getfield 27, 3) := by decide +kernel
theorem dX1_chargeWhole_11 : decode cX1_chargeWhole 11 = .ok (.iload_n 2, 1) := by decide +kernel
theorem dX1_chargeWhole_12 : decode cX1_chargeWhole 12 = .ok (.iadd, 1) := by decide +kernel
theorem dX1_chargeWhole_13 : decode cX1_chargeWhole 13 = .ok (.putfield 27, 3) := by decide +kernel
theorem dX1_chargeWhole_16 : decode cX1_chargeWhole 16 = .ok (.iload_n 2, 1) := by decide +kernel
theorem dX1_chargeWhole_17 : decode cX1_chargeWhole 17 = .ok (.ireturn, 1) := by decide +kernel
set_option maxRecDepth 20000 in
theorem ggX1_chargeLeaving_X6_part : GoodIn wsX1_chargeLeaving wsX6_part := goodIn_r _ [10] (by decide +kernel) (by decide +kernel)
set_option maxRecDepth 20000 in
theorem gX1_chargeLeaving_X6_part_n17 : GoodIn wsX1_chargeLeaving (wsX6_part) := ggX1_chargeLeaving_X6_part
set_option maxRecDepth 20000 in
theorem ggX1_chargeLeaving_X1_dutyFor : GoodIn wsX1_chargeLeaving wsX1_dutyFor := goodIn_r _ [15, 6, 8, 9, 10, 16, 17, 18] (by decide +kernel) (by decide +kernel)
set_option maxRecDepth 20000 in
theorem gX1_chargeLeaving_X1_dutyFor : GoodIn wsX1_chargeLeaving (wsV RX1 23 RX1 yX1_dutyFor wsX1_dutyFor) := goodIn_app (goodIn_of _ (by decide +kernel)) ggX1_chargeLeaving_X1_dutyFor
theorem dX1_chargeLeaving_0 : decode cX1_chargeLeaving 0 = .ok (.iload_n 1, 1) := by decide +kernel
theorem dX1_chargeLeaving_1 : decode cX1_chargeLeaving 1 = .ok (.aload_n 0, 1) := by decide +kernel
theorem dX1_chargeLeaving_2 : decode cX1_chargeLeaving 2 = .ok (.getfield 14, 3) := by decide +kernel
theorem dX1_chargeLeaving_5 : decode cX1_chargeLeaving 5 = .ok (.invokestatic 30, 3) := by decide +kernel
theorem dX1_chargeLeaving_8 : decode cX1_chargeLeaving 8 = .ok (.istore_n 2, 1) := by decide +kernel
theorem dX1_chargeLeaving_9 : decode cX1_chargeLeaving 9 = .ok (.aload_n 0, 1) := by decide +kernel
theorem dX1_chargeLeaving_10 : decode cX1_chargeLeaving 10 = .ok (.dup, 1) := by decide +kernel
theorem dX1_chargeLeaving_11 : decode cX1_chargeLeaving 11 = .ok (.getfield 14, 3) := by decide +kernel
theorem dX1_chargeLeaving_14 : decode cX1_chargeLeaving 14 = .ok (.iload_n 2, 1) := by decide +kernel
theorem dX1_chargeLeaving_15 : decode cX1_chargeLeaving 15 = .ok (.isub, 1) := by decide +kernel
theorem dX1_chargeLeaving_16 : decode cX1_chargeLeaving 16 = .ok (.putfield 14, 3) := by decide +kernel
theorem dX1_chargeLeaving_19 : decode cX1_chargeLeaving 19 = .ok (.iload_n 2, 1) := by decide +kernel
theorem dX1_chargeLeaving_20 : decode cX1_chargeLeaving 20 = .ok (.aload_n 0, 1) := by decide +kernel
theorem dX1_chargeLeaving_21 : decode cX1_chargeLeaving 21 = .ok (.getfield 7, 3) := by decide +kernel
theorem dX1_chargeLeaving_24 : decode cX1_chargeLeaving 24 = .ok (.iconst 2, 1) := by decide +kernel
theorem dX1_chargeLeaving_25 : decode cX1_chargeLeaving 25 = .ok (.idiv, 1) := by decide +kernel
theorem dX1_chargeLeaving_26 : decode cX1_chargeLeaving 26 = .ok (.sipush 1000, 3) := by decide +kernel
theorem dX1_chargeLeaving_29 : decode cX1_chargeLeaving 29 = .ok (.invokestatic 17, 3) := by decide +kernel
theorem dX1_chargeLeaving_32 : decode cX1_chargeLeaving 32 = .ok (.aload_n 0, 1) := by decide +kernel
theorem dX1_chargeLeaving_33 : decode cX1_chargeLeaving 33 = .ok (.iload_n 1, 1) := by decide +kernel
theorem dX1_chargeLeaving_34 : decode cX1_chargeLeaving 34 = .ok (.iload_n 2, 1) := by decide +kernel
theorem dX1_chargeLeaving_35 : decode cX1_chargeLeaving 35 = .ok (.isub, 1) := by decide +kernel
theorem dX1_chargeLeaving_36 : decode cX1_chargeLeaving 36 = .ok (.invokevirtual 23, 3) := by decide +kernel
theorem dX1_chargeLeaving_39 : decode cX1_chargeLeaving 39 = .ok (.iadd, 1) := by decide +kernel
theorem dX1_chargeLeaving_40 : decode cX1_chargeLeaving 40 = .ok (.istore_n 3, 1) := by decide +kernel
theorem dX1_chargeLeaving_41 : decode cX1_chargeLeaving 41 = .ok (.aload_n 0, 1) := by decide +kernel
theorem dX1_chargeLeaving_42 : decode cX1_chargeLeaving 42 = .ok (.dup, 1) := by decide +kernel
theorem dX1_chargeLeaving_43 : decode cX1_chargeLeaving 43 = .ok (.getfield 27, 3) := by decide +kernel
theorem dX1_chargeLeaving_46 : decode cX1_chargeLeaving 46 = .ok (.iload_n 3, 1) := by decide +kernel
theorem dX1_chargeLeaving_47 : decode cX1_chargeLeaving 47 = .ok (.iadd, 1) := by decide +kernel
theorem dX1_chargeLeaving_48 : decode cX1_chargeLeaving 48 = .ok (.putfield 27, 3) := by decide +kernel
theorem dX1_chargeLeaving_51 : decode cX1_chargeLeaving 51 = .ok (.iload_n 3, 1) := by decide +kernel
theorem dX1_chargeLeaving_52 : decode cX1_chargeLeaving 52 = .ok (.ireturn, 1) := by decide +kernel
theorem dX1_beginYear_0 : decode cX1_beginYear 0 = .ok (.aload_n 0, 1) := by decide +kernel
theorem dX1_beginYear_1 : decode cX1_beginYear 1 = .ok (.ldc 13, 2) := by decide +kernel
theorem dX1_beginYear_3 : decode cX1_beginYear 3 = .ok (.putfield 14, 3) := by decide +kernel
theorem dX1_beginYear_6 : decode cX1_beginYear 6 = .ok (.return_, 1) := by decide +kernel
theorem dX1_growOwed_0 : decode cX1_growOwed 0 = .ok (.aload_n 0, 1) := by decide +kernel
theorem dX1_growOwed_1 : decode cX1_growOwed 1 = .ok (.getfield 27, 3) := by decide +kernel
theorem dX1_growOwed_4 : decode cX1_growOwed 4 = .ok (.ifCond .le 19, 3) := by decide +kernel
theorem dX1_growOwed_7 : decode cX1_growOwed 7 = .ok (.aload_n 0, 1) := by decide +kernel
theorem dX1_growOwed_8 : decode cX1_growOwed 8 = .ok (.dup, 1) := by decide +kernel
theorem dX1_growOwed_9 : decode cX1_growOwed 9 = .ok (.getfield 27, 3) := by decide +kernel
theorem dX1_growOwed_12 : decode cX1_growOwed 12 = .ok (.aload_n 0, 1) := by decide +kernel
theorem dX1_growOwed_13 : decode cX1_growOwed 13 = .ok (.getfield 27, 3) := by decide +kernel
theorem dX1_growOwed_16 : decode cX1_growOwed 16 = .ok (.bipush 100, 2) := by decide +kernel
theorem dX1_growOwed_18 : decode cX1_growOwed 18 = .ok (.idiv, 1) := by decide +kernel
theorem dX1_growOwed_19 : decode cX1_growOwed 19 = .ok (.iadd, 1) := by decide +kernel
theorem dX1_growOwed_20 : decode cX1_growOwed 20 = .ok (.putfield 27, 3) := by decide +kernel
theorem dX1_growOwed_23 : decode cX1_growOwed 23 = .ok (.return_, 1) := by decide +kernel
theorem dX2_init_0 : decode cX2_init 0 = .ok (.aload_n 0, 1) := by decide +kernel
theorem dX2_init_1 : decode cX2_init 1 = .ok (.invokespecial 1, 3) := by decide +kernel
theorem dX2_init_4 : decode cX2_init 4 = .ok (.return_, 1) := by decide +kernel
theorem dX3_init_0 : decode cX3_init 0 = .ok (.aload_n 0, 1) := by decide +kernel
theorem dX3_init_1 : decode cX3_init 1 = .ok (.invokespecial 1, 3) := by decide +kernel
theorem dX3_init_4 : decode cX3_init 4 = .ok (.aload_n 0, 1) := by decide +kernel
theorem dX3_init_5 : decode cX3_init 5 = .ok (.iload_n 1, 1) := by decide +kernel
theorem dX3_init_6 : decode cX3_init 6 = .ok (.putfield 7, 3) := by decide +kernel
theorem dX3_init_9 : decode cX3_init 9 = .ok (.aload_n 0, 1) := by decide +kernel
theorem dX3_init_10 : decode cX3_init 10 = .ok (.iload_n 2, 1) := by decide +kernel
theorem dX3_init_11 : decode cX3_init 11 = .ok (.putfield 13, 3) := by decide +kernel
theorem dX3_init_14 : decode cX3_init 14 = .ok (.return_, 1) := by decide +kernel
set_option maxRecDepth 20000 in
theorem ggX3_drawBack_X6_part : GoodIn wsX3_drawBack wsX6_part := goodIn_r _ [5] (by decide +kernel) (by decide +kernel)
set_option maxRecDepth 20000 in
theorem gX3_drawBack_X6_part_n16 : GoodIn wsX3_drawBack (wsX6_part) := ggX3_drawBack_X6_part
theorem dX3_drawBack_0 : decode cX3_drawBack 0 = .ok (.aload_n 0, 1) := by decide +kernel
theorem dX3_drawBack_1 : decode cX3_drawBack 1 = .ok (.getfield 13, 3) := by decide +kernel
theorem dX3_drawBack_4 : decode cX3_drawBack 4 = .ok (.iload_n 1, 1) := by decide +kernel
theorem dX3_drawBack_5 : decode cX3_drawBack 5 = .ok (.aload_n 0, 1) := by decide +kernel
theorem dX3_drawBack_6 : decode cX3_drawBack 6 = .ok (.getfield 7, 3) := by decide +kernel
theorem dX3_drawBack_9 : decode cX3_drawBack 9 = .ok (.invokestatic 16, 3) := by decide +kernel
theorem dX3_drawBack_12 : decode cX3_drawBack 12 = .ok (.istore_n 2, 1) := by decide +kernel
theorem dX3_drawBack_13 : decode cX3_drawBack 13 = .ok (.aload_n 0, 1) := by decide +kernel
theorem dX3_drawBack_14 : decode cX3_drawBack 14 = .ok (.dup, 1) := by decide +kernel
theorem dX3_drawBack_15 : decode cX3_drawBack 15 = .ok (.getfield 7, 3) := by decide +kernel
theorem dX3_drawBack_18 : decode cX3_drawBack 18 = .ok (.iload_n 1, 1) := by decide +kernel
theorem dX3_drawBack_19 : decode cX3_drawBack 19 = .ok (.isub, 1) := by decide +kernel
theorem dX3_drawBack_20 : decode cX3_drawBack 20 = .ok (.putfield 7, 3) := by decide +kernel
theorem dX3_drawBack_23 : decode cX3_drawBack 23 = .ok (.aload_n 0, 1) := by decide +kernel
theorem dX3_drawBack_24 : decode cX3_drawBack 24 = .ok (.dup, 1) := by decide +kernel
theorem dX3_drawBack_25 : decode cX3_drawBack 25 = .ok (.getfield 13, 3) := by decide +kernel
theorem dX3_drawBack_28 : decode cX3_drawBack 28 = .ok (.iload_n 2, 1) := by decide +kernel
theorem dX3_drawBack_29 : decode cX3_drawBack 29 = .ok (.isub, 1) := by decide +kernel
theorem dX3_drawBack_30 : decode cX3_drawBack 30 = .ok (.putfield 13, 3) := by decide +kernel
theorem dX3_drawBack_33 : decode cX3_drawBack 33 = .ok (.iload_n 2, 1) := by decide +kernel
theorem dX3_drawBack_34 : decode cX3_drawBack 34 = .ok (.ireturn, 1) := by decide +kernel
theorem dX4_init_0 : decode cX4_init 0 = .ok (.aload_n 0, 1) := by decide +kernel
theorem dX4_init_1 : decode cX4_init 1 = .ok (.invokespecial 3, 3) := by decide +kernel
theorem dX4_init_4 : decode cX4_init 4 = .ok (.aload_n 0, 1) := by decide +kernel
theorem dX4_init_5 : decode cX4_init 5 = .ok (.iconst 0, 1) := by decide +kernel
theorem dX4_init_6 : decode cX4_init 6 = .ok (.putfield 9, 3) := by decide +kernel
theorem dX4_init_9 : decode cX4_init 9 = .ok (.aload_n 0, 1) := by decide +kernel
theorem dX4_init_10 : decode cX4_init 10 = .ok (.aload_n 1, 1) := by decide +kernel
theorem dX4_init_11 : decode cX4_init 11 = .ok (.putfield 15, 3) := by decide +kernel
theorem dX4_init_14 : decode cX4_init 14 = .ok (.aload_n 0, 1) := by decide +kernel
theorem dX4_init_15 : decode cX4_init 15 = .ok (.iload_n 2, 1) := by decide +kernel
theorem dX4_init_16 : decode cX4_init 16 = .ok (.putfield 19, 3) := by decide +kernel
theorem dX4_init_19 : decode cX4_init 19 = .ok (.aload_n 0, 1) := by decide +kernel
theorem dX4_init_20 : decode cX4_init 20 = .ok (.iload_n 3, 1) := by decide +kernel
theorem dX4_init_21 : decode cX4_init 21 = .ok (.putfield 22, 3) := by decide +kernel
theorem dX4_init_24 : decode cX4_init 24 = .ok (.aload_n 0, 1) := by decide +kernel
theorem dX4_init_25 : decode cX4_init 25 = .ok (.iload 4, 2) := by decide +kernel
theorem dX4_init_27 : decode cX4_init 27 = .ok (.putfield 25, 3) := by decide +kernel
theorem dX4_init_30 : decode cX4_init 30 = .ok (.return_, 1) := by decide +kernel
theorem dX5_init_0 : decode cX5_init 0 = .ok (.aload_n 0, 1) := by decide +kernel
theorem dX5_init_1 : decode cX5_init 1 = .ok (.invokespecial 1, 3) := by decide +kernel
theorem dX5_init_4 : decode cX5_init 4 = .ok (.aload_n 0, 1) := by decide +kernel
theorem dX5_init_5 : decode cX5_init 5 = .ok (.iload_n 1, 1) := by decide +kernel
theorem dX5_init_6 : decode cX5_init 6 = .ok (.putfield 7, 3) := by decide +kernel
theorem dX5_init_9 : decode cX5_init 9 = .ok (.aload_n 0, 1) := by decide +kernel
theorem dX5_init_10 : decode cX5_init 10 = .ok (.iload_n 2, 1) := by decide +kernel
theorem dX5_init_11 : decode cX5_init 11 = .ok (.putfield 13, 3) := by decide +kernel
theorem dX5_init_14 : decode cX5_init 14 = .ok (.return_, 1) := by decide +kernel
theorem dX5_has_0 : decode cX5_has 0 = .ok (.iload_n 1, 1) := by decide +kernel
theorem dX5_has_1 : decode cX5_has 1 = .ok (.aload_n 0, 1) := by decide +kernel
theorem dX5_has_2 : decode cX5_has 2 = .ok (.getfield 16, 3) := by decide +kernel
theorem dX5_has_5 : decode cX5_has 5 = .ok (.if_icmp .gt 7, 3) := by decide +kernel
theorem dX5_has_8 : decode cX5_has 8 = .ok (.iconst 1, 1) := by decide +kernel
theorem dX5_has_9 : decode cX5_has 9 = .ok (.goto 4, 3) := by decide +kernel
theorem dX5_has_12 : decode cX5_has 12 = .ok (.iconst 0, 1) := by decide +kernel
theorem dX5_has_13 : decode cX5_has 13 = .ok (.ireturn, 1) := by decide +kernel
theorem dX5_hasRoomFor_0 : decode cX5_hasRoomFor 0 = .ok (.iload_n 1, 1) := by decide +kernel
theorem dX5_hasRoomFor_1 : decode cX5_hasRoomFor 1 = .ok (.aload_n 0, 1) := by decide +kernel
theorem dX5_hasRoomFor_2 : decode cX5_hasRoomFor 2 = .ok (.getfield 13, 3) := by decide +kernel
theorem dX5_hasRoomFor_5 : decode cX5_hasRoomFor 5 = .ok (.aload_n 0, 1) := by decide +kernel
theorem dX5_hasRoomFor_6 : decode cX5_hasRoomFor 6 = .ok (.getfield 16, 3) := by decide +kernel
theorem dX5_hasRoomFor_9 : decode cX5_hasRoomFor 9 = .ok (.isub, 1) := by decide +kernel
theorem dX5_hasRoomFor_10 : decode cX5_hasRoomFor 10 = .ok (.if_icmp .gt 7, 3) := by decide +kernel
theorem dX5_hasRoomFor_13 : decode cX5_hasRoomFor 13 = .ok (.iconst 1, 1) := by decide +kernel
theorem dX5_hasRoomFor_14 : decode cX5_hasRoomFor 14 = .ok (.goto 4, 3) := by decide +kernel
theorem dX5_hasRoomFor_17 : decode cX5_hasRoomFor 17 = .ok (.iconst 0, 1) := by decide +kernel
theorem dX5_hasRoomFor_18 : decode cX5_hasRoomFor 18 = .ok (.ireturn, 1) := by decide +kernel
set_option maxRecDepth 20000 in
theorem ggX5_dropsOf_X6_part : GoodIn wsX5_dropsOf wsX6_part := goodIn_r _ [5] (by decide +kernel) (by decide +kernel)
set_option maxRecDepth 20000 in
theorem gX5_dropsOf_X6_part_n22 : GoodIn wsX5_dropsOf (wsX6_part) := ggX5_dropsOf_X6_part
theorem dX5_dropsOf_0 : decode cX5_dropsOf 0 = .ok (.aload_n 0, 1) := by decide +kernel
theorem dX5_dropsOf_1 : decode cX5_dropsOf 1 = .ok (.getfield 19, 3) := by decide +kernel
theorem dX5_dropsOf_4 : decode cX5_dropsOf 4 = .ok (.iload_n 1, 1) := by decide +kernel
theorem dX5_dropsOf_5 : decode cX5_dropsOf 5 = .ok (.aload_n 0, 1) := by decide +kernel
theorem dX5_dropsOf_6 : decode cX5_dropsOf 6 = .ok (.getfield 16, 3) := by decide +kernel
theorem dX5_dropsOf_9 : decode cX5_dropsOf 9 = .ok (.invokestatic 22, 3) := by decide +kernel
theorem dX5_dropsOf_12 : decode cX5_dropsOf 12 = .ok (.ireturn, 1) := by decide +kernel
set_option maxRecDepth 20000 in
theorem ggX5_takeOut_X5_dropsOf : GoodIn wsX5_takeOut wsX5_dropsOf := goodIn_r _ [7, 2, 1, 8, 9, 10, 11, 12, 13, 14] (by decide +kernel) (by decide +kernel)
set_option maxRecDepth 20000 in
theorem gX5_takeOut_X5_dropsOf : GoodIn wsX5_takeOut (wsV RX5 28 RX5 yX5_dropsOf wsX5_dropsOf) := goodIn_app (goodIn_of _ (by decide +kernel)) ggX5_takeOut_X5_dropsOf
theorem dX5_takeOut_0 : decode cX5_takeOut 0 = .ok (.aload_n 0, 1) := by decide +kernel
theorem dX5_takeOut_1 : decode cX5_takeOut 1 = .ok (.iload_n 1, 1) := by decide +kernel
theorem dX5_takeOut_2 : decode cX5_takeOut 2 = .ok (.invokevirtual 28, 3) := by decide +kernel
theorem dX5_takeOut_5 : decode cX5_takeOut 5 = .ok (.istore_n 2, 1) := by decide +kernel
theorem dX5_takeOut_6 : decode cX5_takeOut 6 = .ok (.aload_n 0, 1) := by decide +kernel
theorem dX5_takeOut_7 : decode cX5_takeOut 7 = .ok (.dup, 1) := by decide +kernel
theorem dX5_takeOut_8 : decode cX5_takeOut 8 = .ok (.getfield 16, 3) := by decide +kernel
theorem dX5_takeOut_11 : decode cX5_takeOut 11 = .ok (.iload_n 1, 1) := by decide +kernel
theorem dX5_takeOut_12 : decode cX5_takeOut 12 = .ok (.isub, 1) := by decide +kernel
theorem dX5_takeOut_13 : decode cX5_takeOut 13 = .ok (.putfield 16, 3) := by decide +kernel
theorem dX5_takeOut_16 : decode cX5_takeOut 16 = .ok (.aload_n 0, 1) := by decide +kernel
theorem dX5_takeOut_17 : decode cX5_takeOut 17 = .ok (.dup, 1) := by decide +kernel
theorem dX5_takeOut_18 : decode cX5_takeOut 18 = .ok (.getfield 19, 3) := by decide +kernel
theorem dX5_takeOut_21 : decode cX5_takeOut 21 = .ok (.iload_n 2, 1) := by decide +kernel
theorem dX5_takeOut_22 : decode cX5_takeOut 22 = .ok (.isub, 1) := by decide +kernel
theorem dX5_takeOut_23 : decode cX5_takeOut 23 = .ok (.putfield 19, 3) := by decide +kernel
theorem dX5_takeOut_26 : decode cX5_takeOut 26 = .ok (.iload_n 2, 1) := by decide +kernel
theorem dX5_takeOut_27 : decode cX5_takeOut 27 = .ok (.ireturn, 1) := by decide +kernel
set_option maxRecDepth 20000 in
theorem ggX5_comeIn_X6_part : GoodIn wsX5_comeIn wsX6_part := goodIn_r _ [12] (by decide +kernel) (by decide +kernel)
set_option maxRecDepth 20000 in
theorem gX5_comeIn_X6_part_n22 : GoodIn wsX5_comeIn (wsX6_part) := ggX5_comeIn_X6_part
theorem dX5_comeIn_0 : decode cX5_comeIn 0 = .ok (.aload_n 0, 1) := by decide +kernel
theorem dX5_comeIn_1 : decode cX5_comeIn 1 = .ok (.getfield 19, 3) := by decide +kernel
theorem dX5_comeIn_4 : decode cX5_comeIn 4 = .ok (.iconst 1, 1) := by decide +kernel
theorem dX5_comeIn_5 : decode cX5_comeIn 5 = .ok (.aload_n 0, 1) := by decide +kernel
theorem dX5_comeIn_6 : decode cX5_comeIn 6 = .ok (.getfield 16, 3) := by decide +kernel
theorem dX5_comeIn_9 : decode cX5_comeIn 9 = .ok (.invokestatic 22, 3) := by decide +kernel
theorem dX5_comeIn_12 : decode cX5_comeIn 12 = .ok (.iload_n 2, 1) := by decide +kernel
theorem dX5_comeIn_13 : decode cX5_comeIn 13 = .ok (.iconst 1, 1) := by decide +kernel
theorem dX5_comeIn_14 : decode cX5_comeIn 14 = .ok (.iload_n 1, 1) := by decide +kernel
theorem dX5_comeIn_15 : decode cX5_comeIn 15 = .ok (.invokestatic 22, 3) := by decide +kernel
theorem dX5_comeIn_18 : decode cX5_comeIn 18 = .ok (.isub, 1) := by decide +kernel
theorem dX5_comeIn_19 : decode cX5_comeIn 19 = .ok (.invokestatic 32, 3) := by decide +kernel
theorem dX5_comeIn_22 : decode cX5_comeIn 22 = .ok (.istore_n 3, 1) := by decide +kernel
theorem dX5_comeIn_23 : decode cX5_comeIn 23 = .ok (.aload_n 0, 1) := by decide +kernel
theorem dX5_comeIn_24 : decode cX5_comeIn 24 = .ok (.getfield 16, 3) := by decide +kernel
theorem dX5_comeIn_27 : decode cX5_comeIn 27 = .ok (.iload_n 1, 1) := by decide +kernel
theorem dX5_comeIn_28 : decode cX5_comeIn 28 = .ok (.invokestatic 37, 3) := by decide +kernel
theorem dX5_comeIn_31 : decode cX5_comeIn 31 = .ok (.iload_n 3, 1) := by decide +kernel
theorem dX5_comeIn_32 : decode cX5_comeIn 32 = .ok (.sipush 10000, 3) := by decide +kernel
theorem dX5_comeIn_35 : decode cX5_comeIn 35 = .ok (.invokestatic 22, 3) := by decide +kernel
theorem dX5_comeIn_38 : decode cX5_comeIn 38 = .ok (.istore 4, 2) := by decide +kernel
theorem dX5_comeIn_40 : decode cX5_comeIn 40 = .ok (.aload_n 0, 1) := by decide +kernel
theorem dX5_comeIn_41 : decode cX5_comeIn 41 = .ok (.dup, 1) := by decide +kernel
theorem dX5_comeIn_42 : decode cX5_comeIn 42 = .ok (.getfield 16, 3) := by decide +kernel
theorem dX5_comeIn_45 : decode cX5_comeIn 45 = .ok (.iload_n 1, 1) := by decide +kernel
theorem dX5_comeIn_46 : decode cX5_comeIn 46 = .ok (.iload 4, 2) := by decide +kernel
theorem dX5_comeIn_48 : decode cX5_comeIn 48 = .ok (.isub, 1) := by decide +kernel
theorem dX5_comeIn_49 : decode cX5_comeIn 49 = .ok (.iadd, 1) := by decide +kernel
theorem dX5_comeIn_50 : decode cX5_comeIn 50 = .ok (.putfield 16, 3) := by decide +kernel
theorem dX5_comeIn_53 : decode cX5_comeIn 53 = .ok (.aload_n 0, 1) := by decide +kernel
theorem dX5_comeIn_54 : decode cX5_comeIn 54 = .ok (.dup, 1) := by decide +kernel
theorem dX5_comeIn_55 : decode cX5_comeIn 55 = .ok (.getfield 19, 3) := by decide +kernel
theorem dX5_comeIn_58 : decode cX5_comeIn 58 = .ok (.iload_n 2, 1) := by decide +kernel
theorem dX5_comeIn_59 : decode cX5_comeIn 59 = .ok (.iadd, 1) := by decide +kernel
theorem dX5_comeIn_60 : decode cX5_comeIn 60 = .ok (.putfield 19, 3) := by decide +kernel
theorem dX5_comeIn_63 : decode cX5_comeIn 63 = .ok (.return_, 1) := by decide +kernel
set_option maxRecDepth 20000 in
theorem ggX5_takeShare_X6_part : GoodIn wsX5_takeShare wsX6_part := goodIn_r _ [6] (by decide +kernel) (by decide +kernel)
set_option maxRecDepth 20000 in
theorem gX5_takeShare_X6_part_n22 : GoodIn wsX5_takeShare (wsX6_part) := ggX5_takeShare_X6_part
theorem dX5_takeShare_0 : decode cX5_takeShare 0 = .ok (.aload_n 0, 1) := by decide +kernel
theorem dX5_takeShare_1 : decode cX5_takeShare 1 = .ok (.getfield 19, 3) := by decide +kernel
theorem dX5_takeShare_4 : decode cX5_takeShare 4 = .ok (.iload_n 1, 1) := by decide +kernel
theorem dX5_takeShare_5 : decode cX5_takeShare 5 = .ok (.ldc 41, 2) := by decide +kernel
theorem dX5_takeShare_7 : decode cX5_takeShare 7 = .ok (.invokestatic 22, 3) := by decide +kernel
theorem dX5_takeShare_10 : decode cX5_takeShare 10 = .ok (.istore_n 2, 1) := by decide +kernel
theorem dX5_takeShare_11 : decode cX5_takeShare 11 = .ok (.aload_n 0, 1) := by decide +kernel
theorem dX5_takeShare_12 : decode cX5_takeShare 12 = .ok (.dup, 1) := by decide +kernel
theorem dX5_takeShare_13 : decode cX5_takeShare 13 = .ok (.getfield 19, 3) := by decide +kernel
theorem dX5_takeShare_16 : decode cX5_takeShare 16 = .ok (.iload_n 2, 1) := by decide +kernel
theorem dX5_takeShare_17 : decode cX5_takeShare 17 = .ok (.isub, 1) := by decide +kernel
theorem dX5_takeShare_18 : decode cX5_takeShare 18 = .ok (.putfield 19, 3) := by decide +kernel
theorem dX5_takeShare_21 : decode cX5_takeShare 21 = .ok (.aload_n 0, 1) := by decide +kernel
theorem dX5_takeShare_22 : decode cX5_takeShare 22 = .ok (.dup, 1) := by decide +kernel
theorem dX5_takeShare_23 : decode cX5_takeShare 23 = .ok (.getfield 16, 3) := by decide +kernel
theorem dX5_takeShare_26 : decode cX5_takeShare 26 = .ok (.aload_n 0, 1) := by decide +kernel
theorem dX5_takeShare_27 : decode cX5_takeShare 27 = .ok (.getfield 16, 3) := by decide +kernel
theorem dX5_takeShare_30 : decode cX5_takeShare 30 = .ok (.iload_n 1, 1) := by decide +kernel
theorem dX5_takeShare_31 : decode cX5_takeShare 31 = .ok (.ldc 41, 2) := by decide +kernel
theorem dX5_takeShare_33 : decode cX5_takeShare 33 = .ok (.invokestatic 22, 3) := by decide +kernel
theorem dX5_takeShare_36 : decode cX5_takeShare 36 = .ok (.isub, 1) := by decide +kernel
theorem dX5_takeShare_37 : decode cX5_takeShare 37 = .ok (.putfield 16, 3) := by decide +kernel
theorem dX5_takeShare_40 : decode cX5_takeShare 40 = .ok (.iload_n 2, 1) := by decide +kernel
theorem dX5_takeShare_41 : decode cX5_takeShare 41 = .ok (.ireturn, 1) := by decide +kernel
set_option maxRecDepth 20000 in
theorem ggX6_init_Jx4a65c_init_da8c8 : GoodIn wsX6_init wsJx4a65c_init_da8c8 := goodIn_r _ [22, 23, 24, 25, 26, 27, 28, 29, 30, 31, 32, 33, 34, 2, 3, 44, 45, 46] (by decide +kernel) (by decide +kernel)
set_option maxRecDepth 20000 in
theorem gX6_init_Jx4a65c_init_da8c8 : GoodIn wsX6_init (wsJx4a65c_init_da8c8) := ggX6_init_Jx4a65c_init_da8c8
set_option maxRecDepth 20000 in
theorem ggX6_init_X1_init : GoodIn wsX6_init wsX1_init := goodIn_r _ [36, 37, 2, 3, 38, 39, 40, 59, 60, 61] (by decide +kernel) (by decide +kernel)
set_option maxRecDepth 20000 in
theorem gX6_init_X1_init_n28 : GoodIn wsX6_init (wsX1_init) := ggX6_init_X1_init
set_option maxRecDepth 20000 in
theorem ggX6_init_X2_init : GoodIn wsX6_init wsX2_init := goodIn_r _ [42, 43, 2, 3] (by decide +kernel) (by decide +kernel)
set_option maxRecDepth 20000 in
theorem gX6_init_X2_init_n35 : GoodIn wsX6_init (wsX2_init) := ggX6_init_X2_init
theorem dX6_init_0 : decode cX6_init 0 = .ok (.aload_n 0, 1) := by decide +kernel
theorem dX6_init_1 : decode cX6_init 1 = .ok (.invokespecial 1, 3) := by decide +kernel
theorem dX6_init_4 : decode cX6_init 4 = .ok (.aload_n 0, 1) := by decide +kernel
theorem dX6_init_5 : decode cX6_init 5 = .ok (.new 7, 3) := by decide +kernel
theorem dX6_init_8 : decode cX6_init 8 = .ok (.dup, 1) := by decide +kernel
theorem dX6_init_9 : decode cX6_init 9 = .ok (.invokespecial 9, 3) := by decide +kernel
theorem dX6_init_12 : decode cX6_init 12 = .ok (.putfield 10, 3) := by decide +kernel
theorem dX6_init_15 : decode cX6_init 15 = .ok (.aload_n 0, 1) := by decide +kernel
theorem dX6_init_16 : decode cX6_init 16 = .ok (.new 7, 3) := by decide +kernel
theorem dX6_init_19 : decode cX6_init 19 = .ok (.dup, 1) := by decide +kernel
theorem dX6_init_20 : decode cX6_init 20 = .ok (.invokespecial 9, 3) := by decide +kernel
theorem dX6_init_23 : decode cX6_init 23 = .ok (.putfield 16, 3) := by decide +kernel
theorem dX6_init_26 : decode cX6_init 26 = .ok (.aload_n 0, 1) := by decide +kernel
theorem dX6_init_27 : decode cX6_init 27 = .ok (.new 7, 3) := by decide +kernel
theorem dX6_init_30 : decode cX6_init 30 = .ok (.dup, 1) := by decide +kernel
theorem dX6_init_31 : decode cX6_init 31 = .ok (.invokespecial 9, 3) := by decide +kernel
theorem dX6_init_34 : decode cX6_init 34 = .ok (.putfield 19, 3) := by decide +kernel
theorem dX6_init_37 : decode cX6_init 37 = .ok (.aload_n 0, 1) := by decide +kernel
theorem dX6_init_38 : decode cX6_init 38 = .ok (.iconst 4, 1) := by decide +kernel
theorem dX6_init_39 : decode cX6_init 39 = .ok (.newarray .int, 2) := by decide +kernel
theorem dX6_init_41 : decode cX6_init 41 = .ok (.putfield 22, 3) := by decide +kernel
theorem dX6_init_44 : decode cX6_init 44 = .ok (.aload_n 0, 1) := by decide +kernel
theorem dX6_init_45 : decode cX6_init 45 = .ok (.new 26, 3) := by decide +kernel
theorem dX6_init_48 : decode cX6_init 48 = .ok (.dup, 1) := by decide +kernel
theorem dX6_init_49 : decode cX6_init 49 = .ok (.invokespecial 28, 3) := by decide +kernel
theorem dX6_init_52 : decode cX6_init 52 = .ok (.putfield 29, 3) := by decide +kernel
theorem dX6_init_55 : decode cX6_init 55 = .ok (.aload_n 0, 1) := by decide +kernel
theorem dX6_init_56 : decode cX6_init 56 = .ok (.new 33, 3) := by decide +kernel
theorem dX6_init_59 : decode cX6_init 59 = .ok (.dup, 1) := by decide +kernel
theorem dX6_init_60 : decode cX6_init 60 = .ok (.invokespecial 35, 3) := by decide +kernel
theorem dX6_init_63 : decode cX6_init 63 = .ok (.putfield 36, 3) := by decide +kernel
theorem dX6_init_66 : decode cX6_init 66 = .ok (.return_, 1) := by decide +kernel
set_option maxRecDepth 20000 in
theorem ggX6_vessel_X6_isPlace : GoodIn wsX6_vessel wsX6_isPlace := goodIn_r _ [15, 16, 88, 89, 90, 91, 92, 93, 94, 95, 96, 97, 98, 99] (by decide +kernel) (by decide +kernel)
set_option maxRecDepth 20000 in
theorem gX6_vessel_X6_isPlace : GoodIn wsX6_vessel (wsV RX6 40 RX6 yX6_isPlace wsX6_isPlace) := goodIn_app (goodIn_of _ (by decide +kernel)) ggX6_vessel_X6_isPlace
set_option maxRecDepth 20000 in
theorem ggX6_vessel_X6_isWithin : GoodIn wsX6_vessel wsX6_isWithin := goodIn_r _ [19] (by decide +kernel) (by decide +kernel)
set_option maxRecDepth 20000 in
theorem gX6_vessel_X6_isWithin : GoodIn wsX6_vessel (va_wsS RX6 51 yX6_isWithin wsX6_isWithin) := goodIn_app (goodIn_of _ (by decide +kernel)) ggX6_vessel_X6_isWithin
set_option maxRecDepth 20000 in
theorem ggX6_vessel_Jx4a65c_size_8abf5 : GoodIn wsX6_vessel wsJx4a65c_size_8abf5 := goodIn_r _ [24, 25, 104, 105, 106] (by decide +kernel) (by decide +kernel)
set_option maxRecDepth 20000 in
theorem gX6_vessel_Jx4a65c_size_8abf5 : GoodIn wsX6_vessel (wsV RX6 60 RJx4a65c yJx4a65c_size_8abf5 wsJx4a65c_size_8abf5) := goodIn_app (goodIn_of _ (by decide +kernel)) ggX6_vessel_Jx4a65c_size_8abf5
set_option maxRecDepth 20000 in
theorem ggX6_vessel_X5_init : GoodIn wsX6_vessel wsX5_init := goodIn_r _ [28, 29, 30, 31, 32, 33, 100, 101, 102, 103] (by decide +kernel) (by decide +kernel)
set_option maxRecDepth 20000 in
theorem gX6_vessel_X5_init : GoodIn wsX6_vessel (wsX5_init) := ggX6_vessel_X5_init
set_option maxRecDepth 20000 in
theorem ggX6_vessel_Jx4a65c_add_9ea2d : GoodIn wsX6_vessel wsJx4a65c_add_9ea2d := goodIn_r _ [37, 38, 39, 40, 25, 41, 42, 43, 23, 44, 45, 46, 47, 48, 49, 50, 51, 52, 53, 54, 55, 56, 57, 58, 59, 60, 61, 62, 63, 64, 65, 66, 67, 68, 69, 70, 71, 72, 73, 74, 75, 76, 77, 78, 79, 80, 81, 82, 83, 84, 85, 86, 87, 104, 105, 106] (by decide +kernel) (by decide +kernel)
set_option maxRecDepth 20000 in
theorem gX6_vessel_Jx4a65c_add_9ea2d : GoodIn wsX6_vessel (wsV RX6 74 RJx4a65c yJx4a65c_add_9ea2d wsJx4a65c_add_9ea2d) := goodIn_app (goodIn_of _ (by decide +kernel)) ggX6_vessel_Jx4a65c_add_9ea2d
theorem dX6_vessel_0 : decode cX6_vessel 0 = .ok (.aload_n 0, 1) := by decide +kernel
theorem dX6_vessel_1 : decode cX6_vessel 1 = .ok (.iload_n 1, 1) := by decide +kernel
theorem dX6_vessel_2 : decode cX6_vessel 2 = .ok (.invokevirtual 40, 3) := by decide +kernel
theorem dX6_vessel_5 : decode cX6_vessel 5 = .ok (.ifCond .ne 13, 3) := by decide +kernel
theorem dX6_vessel_8 : decode cX6_vessel 8 = .ok (.new 44, 3) := by decide +kernel
theorem dX6_vessel_11 : decode cX6_vessel 11 = .ok (.dup, 1) := by decide +kernel
theorem dX6_vessel_12 : decode cX6_vessel 12 = .ok (.ldc 46, 2) := by decide +kernel
theorem dX6_vessel_14 : decode cX6_vessel 14 = .ok (.invokespecial 48, 3) := by decide +kernel
theorem dX6_vessel_17 : decode cX6_vessel 17 = .ok (.athrow, 1) := by decide +kernel
theorem dX6_vessel_18 : decode cX6_vessel 18 = .ok (.iload_n 2, 1) := by decide +kernel
theorem dX6_vessel_19 : decode cX6_vessel 19 = .ok (.iconst 1, 1) := by decide +kernel
theorem dX6_vessel_20 : decode cX6_vessel 20 = .ok (.sipush 9999, 3) := by decide +kernel
theorem dX6_vessel_23 : decode cX6_vessel 23 = .ok (.invokestatic 51, 3) := by decide +kernel
theorem dX6_vessel_26 : decode cX6_vessel 26 = .ok (.ifCond .ne 13, 3) := by decide +kernel
theorem dX6_vessel_29 : decode cX6_vessel 29 = .ok (.new 55, 3) := by decide +kernel
theorem dX6_vessel_32 : decode cX6_vessel 32 = .ok (.dup, 1) := by decide +kernel
theorem dX6_vessel_33 : decode cX6_vessel 33 = .ok (.ldc 57, 2) := by decide +kernel
theorem dX6_vessel_35 : decode cX6_vessel 35 = .ok (.invokespecial 59, 3) := by decide +kernel
theorem dX6_vessel_38 : decode cX6_vessel 38 = .ok (.athrow, 1) := by decide +kernel
theorem dX6_vessel_39 : decode cX6_vessel 39 = .ok (.aload_n 0, 1) := by decide +kernel
theorem dX6_vessel_40 : decode cX6_vessel 40 = .ok (.getfield 10, 3) := by decide +kernel
theorem dX6_vessel_43 : decode cX6_vessel 43 = .ok (.invokevirtual 60, 3) := by decide +kernel
theorem dX6_vessel_46 : decode cX6_vessel 46 = .ok (.bipush 10, 2) := by decide +kernel
theorem dX6_vessel_48 : decode cX6_vessel 48 = .ok (.if_icmp .lt 13, 3) := by decide +kernel
theorem dX6_vessel_51 : decode cX6_vessel 51 = .ok (.new 64, 3) := by decide +kernel
theorem dX6_vessel_54 : decode cX6_vessel 54 = .ok (.dup, 1) := by decide +kernel
theorem dX6_vessel_55 : decode cX6_vessel 55 = .ok (.ldc 66, 2) := by decide +kernel
theorem dX6_vessel_57 : decode cX6_vessel 57 = .ok (.invokespecial 68, 3) := by decide +kernel
theorem dX6_vessel_60 : decode cX6_vessel 60 = .ok (.athrow, 1) := by decide +kernel
theorem dX6_vessel_61 : decode cX6_vessel 61 = .ok (.aload_n 0, 1) := by decide +kernel
theorem dX6_vessel_62 : decode cX6_vessel 62 = .ok (.getfield 10, 3) := by decide +kernel
theorem dX6_vessel_65 : decode cX6_vessel 65 = .ok (.new 69, 3) := by decide +kernel
theorem dX6_vessel_68 : decode cX6_vessel 68 = .ok (.dup, 1) := by decide +kernel
theorem dX6_vessel_69 : decode cX6_vessel 69 = .ok (.iload_n 1, 1) := by decide +kernel
theorem dX6_vessel_70 : decode cX6_vessel 70 = .ok (.iload_n 2, 1) := by decide +kernel
theorem dX6_vessel_71 : decode cX6_vessel 71 = .ok (.invokespecial 71, 3) := by decide +kernel
theorem dX6_vessel_74 : decode cX6_vessel 74 = .ok (.invokevirtual 74, 3) := by decide +kernel
theorem dX6_vessel_77 : decode cX6_vessel 77 = .ok (.pop, 1) := by decide +kernel
theorem dX6_vessel_78 : decode cX6_vessel 78 = .ok (.aload_n 0, 1) := by decide +kernel
theorem dX6_vessel_79 : decode cX6_vessel 79 = .ok (.getfield 10, 3) := by decide +kernel
theorem dX6_vessel_82 : decode cX6_vessel 82 = .ok (.invokevirtual 60, 3) := by decide +kernel
theorem dX6_vessel_85 : decode cX6_vessel 85 = .ok (.iconst 1, 1) := by decide +kernel
theorem dX6_vessel_86 : decode cX6_vessel 86 = .ok (.isub, 1) := by decide +kernel
theorem dX6_vessel_87 : decode cX6_vessel 87 = .ok (.ireturn, 1) := by decide +kernel
set_option maxRecDepth 20000 in
theorem ggX6_shares_X6_isPlace : GoodIn wsX6_shares wsX6_isPlace := goodIn_r _ [10, 5, 14, 15, 16, 17, 18, 19, 20, 21, 22, 23, 24, 25] (by decide +kernel) (by decide +kernel)
set_option maxRecDepth 20000 in
theorem gX6_shares_X6_isPlace : GoodIn wsX6_shares (wsV RX6 40 RX6 yX6_isPlace wsX6_isPlace) := goodIn_app (goodIn_of _ (by decide +kernel)) ggX6_shares_X6_isPlace
set_option maxRecDepth 20000 in
theorem ggX6_shares_X6_isWithin : GoodIn wsX6_shares wsX6_isWithin := goodIn_r _ [13] (by decide +kernel) (by decide +kernel)
set_option maxRecDepth 20000 in
theorem gX6_shares_X6_isWithin : GoodIn wsX6_shares (va_wsS RX6 51 yX6_isWithin wsX6_isWithin) := goodIn_app (goodIn_of _ (by decide +kernel)) ggX6_shares_X6_isWithin
theorem dX6_shares_0 : decode cX6_shares 0 = .ok (.aload_n 0, 1) := by decide +kernel
theorem dX6_shares_1 : decode cX6_shares 1 = .ok (.iload_n 1, 1) := by decide +kernel
theorem dX6_shares_2 : decode cX6_shares 2 = .ok (.invokevirtual 40, 3) := by decide +kernel
theorem dX6_shares_5 : decode cX6_shares 5 = .ok (.ifCond .ne 13, 3) := by decide +kernel
theorem dX6_shares_8 : decode cX6_shares 8 = .ok (.new 44, 3) := by decide +kernel
theorem dX6_shares_11 : decode cX6_shares 11 = .ok (.dup, 1) := by decide +kernel
theorem dX6_shares_12 : decode cX6_shares 12 = .ok (.ldc 46, 2) := by decide +kernel
theorem dX6_shares_14 : decode cX6_shares 14 = .ok (.invokespecial 48, 3) := by decide +kernel
theorem dX6_shares_17 : decode cX6_shares 17 = .ok (.athrow, 1) := by decide +kernel
theorem dX6_shares_18 : decode cX6_shares 18 = .ok (.iload_n 2, 1) := by decide +kernel
theorem dX6_shares_19 : decode cX6_shares 19 = .ok (.iconst 0, 1) := by decide +kernel
theorem dX6_shares_20 : decode cX6_shares 20 = .ok (.sipush 500, 3) := by decide +kernel
theorem dX6_shares_23 : decode cX6_shares 23 = .ok (.invokestatic 51, 3) := by decide +kernel
theorem dX6_shares_26 : decode cX6_shares 26 = .ok (.ifCond .ne 13, 3) := by decide +kernel
theorem dX6_shares_29 : decode cX6_shares 29 = .ok (.new 55, 3) := by decide +kernel
theorem dX6_shares_32 : decode cX6_shares 32 = .ok (.dup, 1) := by decide +kernel
theorem dX6_shares_33 : decode cX6_shares 33 = .ok (.ldc 78, 2) := by decide +kernel
theorem dX6_shares_35 : decode cX6_shares 35 = .ok (.invokespecial 59, 3) := by decide +kernel
theorem dX6_shares_38 : decode cX6_shares 38 = .ok (.athrow, 1) := by decide +kernel
theorem dX6_shares_39 : decode cX6_shares 39 = .ok (.aload_n 0, 1) := by decide +kernel
theorem dX6_shares_40 : decode cX6_shares 40 = .ok (.getfield 22, 3) := by decide +kernel
theorem dX6_shares_43 : decode cX6_shares 43 = .ok (.iload_n 1, 1) := by decide +kernel
theorem dX6_shares_44 : decode cX6_shares 44 = .ok (.iaload, 1) := by decide +kernel
theorem dX6_shares_45 : decode cX6_shares 45 = .ok (.istore_n 3, 1) := by decide +kernel
theorem dX6_shares_46 : decode cX6_shares 46 = .ok (.aload_n 0, 1) := by decide +kernel
theorem dX6_shares_47 : decode cX6_shares 47 = .ok (.getfield 22, 3) := by decide +kernel
theorem dX6_shares_50 : decode cX6_shares 50 = .ok (.iload_n 1, 1) := by decide +kernel
theorem dX6_shares_51 : decode cX6_shares 51 = .ok (.iload_n 2, 1) := by decide +kernel
theorem dX6_shares_52 : decode cX6_shares 52 = .ok (.iastore, 1) := by decide +kernel
theorem dX6_shares_53 : decode cX6_shares 53 = .ok (.iload_n 3, 1) := by decide +kernel
theorem dX6_shares_54 : decode cX6_shares 54 = .ok (.ireturn, 1) := by decide +kernel
set_option maxRecDepth 20000 in
theorem ggX6_run_X6_vesselOf : GoodIn wsX6_run wsX6_vesselOf := goodIn_ca (goodIn_r _ [16, 17, 18, 19, 20, 21, 22, 23, 24, 25, 26, 27, 28, 29, 30, 31, 32, 33, 34, 35, 36, 37, 38, 39, 40, 41, 42, 43, 79, 80, 81, 82, 83, 84, 85, 86, 87, 88, 89, 90, 96, 97, 98] (by decide +kernel) (by decide +kernel)) (goodIn_sub (fun _ h => List.mem_cons_of_mem _ (List.mem_append_right _ h)) (by decide +kernel))
set_option maxRecDepth 20000 in
theorem gX6_run_X6_vesselOf : GoodIn wsX6_run (wsV RX6 80 RX6 yX6_vesselOf wsX6_vesselOf) := goodIn_app (goodIn_of _ (by decide +kernel)) ggX6_run_X6_vesselOf
set_option maxRecDepth 20000 in
theorem ggX6_run_X6_isWithin : GoodIn wsX6_run wsX6_isWithin := goodIn_r _ [46] (by decide +kernel) (by decide +kernel)
set_option maxRecDepth 20000 in
theorem gX6_run_X6_isWithin : GoodIn wsX6_run (va_wsS RX6 51 yX6_isWithin wsX6_isWithin) := goodIn_app (goodIn_of _ (by decide +kernel)) ggX6_run_X6_isWithin
set_option maxRecDepth 20000 in
theorem ggX6_run_X5_hasRoomFor : GoodIn wsX6_run wsX5_hasRoomFor := goodIn_r _ [51, 52, 53, 99, 100, 101, 102] (by decide +kernel) (by decide +kernel)
set_option maxRecDepth 20000 in
theorem gX6_run_X5_hasRoomFor : GoodIn wsX6_run (wsV RX6 88 RX5 yX5_hasRoomFor wsX5_hasRoomFor) := goodIn_app (goodIn_of _ (by decide +kernel)) ggX6_run_X5_hasRoomFor
set_option maxRecDepth 20000 in
theorem ggX6_run_X5_comeIn : GoodIn wsX6_run wsX5_comeIn := goodIn_r _ [57, 58, 53, 59, 60, 9, 61, 62, 63, 64, 65, 15, 66, 99, 100, 101, 102] (by decide +kernel) (by decide +kernel)
set_option maxRecDepth 20000 in
theorem gX6_run_X5_comeIn : GoodIn wsX6_run (wsV RX6 97 RX5 yX5_comeIn wsX5_comeIn) := goodIn_app (goodIn_of _ (by decide +kernel)) ggX6_run_X5_comeIn
set_option maxRecDepth 20000 in
theorem ggX6_run_X6_part : GoodIn wsX6_run wsX6_part := goodIn_r _ [66] (by decide +kernel) (by decide +kernel)
set_option maxRecDepth 20000 in
theorem gX6_run_X6_part : GoodIn wsX6_run (va_wsS RX6 103 yX6_part wsX6_part) := goodIn_app (goodIn_of _ (by decide +kernel)) ggX6_run_X6_part
set_option maxRecDepth 20000 in
theorem ggX6_run_X1_chargeWhole : GoodIn wsX6_run wsX1_chargeWhole := goodIn_r _ [72, 73, 74, 75, 76, 71, 77, 78, 65, 15, 66, 103, 104, 105] (by decide +kernel) (by decide +kernel)
set_option maxRecDepth 20000 in
theorem gX6_run_X1_chargeWhole : GoodIn wsX6_run (wsV RX6 116 RX1 yX1_chargeWhole wsX1_chargeWhole) := goodIn_app (goodIn_of _ (by decide +kernel)) ggX6_run_X1_chargeWhole
theorem dX6_run_0 : decode cX6_run 0 = .ok (.aload_n 0, 1) := by decide +kernel
theorem dX6_run_1 : decode cX6_run 1 = .ok (.iload_n 1, 1) := by decide +kernel
theorem dX6_run_2 : decode cX6_run 2 = .ok (.invokevirtual 80, 3) := by decide +kernel
theorem dX6_run_5 : decode cX6_run 5 = .ok (.astore 6, 2) := by decide +kernel
theorem dX6_run_7 : decode cX6_run 7 = .ok (.iload_n 2, 1) := by decide +kernel
theorem dX6_run_8 : decode cX6_run 8 = .ok (.iconst 1, 1) := by decide +kernel
theorem dX6_run_9 : decode cX6_run 9 = .ok (.sipush 9999, 3) := by decide +kernel
theorem dX6_run_12 : decode cX6_run 12 = .ok (.invokestatic 51, 3) := by decide +kernel
theorem dX6_run_15 : decode cX6_run 15 = .ok (.ifCond .eq 14, 3) := by decide +kernel
theorem dX6_run_18 : decode cX6_run 18 = .ok (.iload_n 3, 1) := by decide +kernel
theorem dX6_run_19 : decode cX6_run 19 = .ok (.iconst 1, 1) := by decide +kernel
theorem dX6_run_20 : decode cX6_run 20 = .ok (.sipush 300, 3) := by decide +kernel
theorem dX6_run_23 : decode cX6_run 23 = .ok (.invokestatic 51, 3) := by decide +kernel
theorem dX6_run_26 : decode cX6_run 26 = .ok (.ifCond .ne 13, 3) := by decide +kernel
theorem dX6_run_29 : decode cX6_run 29 = .ok (.new 55, 3) := by decide +kernel
theorem dX6_run_32 : decode cX6_run 32 = .ok (.dup, 1) := by decide +kernel
theorem dX6_run_33 : decode cX6_run 33 = .ok (.ldc 84, 2) := by decide +kernel
theorem dX6_run_35 : decode cX6_run 35 = .ok (.invokespecial 59, 3) := by decide +kernel
theorem dX6_run_38 : decode cX6_run 38 = .ok (.athrow, 1) := by decide +kernel
theorem dX6_run_39 : decode cX6_run 39 = .ok (.iload 4, 2) := by decide +kernel
theorem dX6_run_41 : decode cX6_run 41 = .ok (.iconst 1, 1) := by decide +kernel
theorem dX6_run_42 : decode cX6_run 42 = .ok (.sipush 9999, 3) := by decide +kernel
theorem dX6_run_45 : decode cX6_run 45 = .ok (.invokestatic 51, 3) := by decide +kernel
theorem dX6_run_48 : decode cX6_run 48 = .ok (.ifCond .eq 15, 3) := by decide +kernel
theorem dX6_run_51 : decode cX6_run 51 = .ok (.iload 5, 2) := by decide +kernel
theorem dX6_run_53 : decode cX6_run 53 = .ok (.iconst 1, 1) := by decide +kernel
theorem dX6_run_54 : decode cX6_run 54 = .ok (.sipush 960, 3) := by decide +kernel
theorem dX6_run_57 : decode cX6_run 57 = .ok (.invokestatic 51, 3) := by decide +kernel
theorem dX6_run_60 : decode cX6_run 60 = .ok (.ifCond .ne 13, 3) := by decide +kernel
theorem dX6_run_63 : decode cX6_run 63 = .ok (.new 55, 3) := by decide +kernel
theorem dX6_run_66 : decode cX6_run 66 = .ok (.dup, 1) := by decide +kernel
theorem dX6_run_67 : decode cX6_run 67 = .ok (.ldc 86, 2) := by decide +kernel
theorem dX6_run_69 : decode cX6_run 69 = .ok (.invokespecial 59, 3) := by decide +kernel
theorem dX6_run_72 : decode cX6_run 72 = .ok (.athrow, 1) := by decide +kernel
theorem dX6_run_73 : decode cX6_run 73 = .ok (.iload_n 2, 1) := by decide +kernel
theorem dX6_run_74 : decode cX6_run 74 = .ok (.iload_n 3, 1) := by decide +kernel
theorem dX6_run_75 : decode cX6_run 75 = .ok (.imul, 1) := by decide +kernel
theorem dX6_run_76 : decode cX6_run 76 = .ok (.istore 7, 2) := by decide +kernel
theorem dX6_run_78 : decode cX6_run 78 = .ok (.iload 4, 2) := by decide +kernel
theorem dX6_run_80 : decode cX6_run 80 = .ok (.iload 5, 2) := by decide +kernel
theorem dX6_run_82 : decode cX6_run 82 = .ok (.imul, 1) := by decide +kernel
theorem dX6_run_83 : decode cX6_run 83 = .ok (.istore 8, 2) := by decide +kernel
theorem dX6_run_85 : decode cX6_run 85 = .ok (.iload 8, 2) := by decide +kernel
theorem dX6_run_87 : decode cX6_run 87 = .ok (.iload 7, 2) := by decide +kernel
theorem dX6_run_89 : decode cX6_run 89 = .ok (.if_icmp .gt 22, 3) := by decide +kernel
theorem dX6_run_92 : decode cX6_run 92 = .ok (.aload 6, 2) := by decide +kernel
theorem dX6_run_94 : decode cX6_run 94 = .ok (.iload 4, 2) := by decide +kernel
theorem dX6_run_96 : decode cX6_run 96 = .ok (.invokevirtual 88, 3) := by decide +kernel
theorem dX6_run_99 : decode cX6_run 99 = .ok (.ifCond .eq 12, 3) := by decide +kernel
theorem dX6_run_102 : decode cX6_run 102 = .ok (.aload_n 0, 1) := by decide +kernel
theorem dX6_run_103 : decode cX6_run 103 = .ok (.getfield 91, 3) := by decide +kernel
theorem dX6_run_106 : decode cX6_run 106 = .ok (.bipush 60, 2) := by decide +kernel
theorem dX6_run_108 : decode cX6_run 108 = .ok (.if_icmp .lt 13, 3) := by decide +kernel
theorem dX6_run_111 : decode cX6_run 111 = .ok (.new 64, 3) := by decide +kernel
theorem dX6_run_114 : decode cX6_run 114 = .ok (.dup, 1) := by decide +kernel
theorem dX6_run_115 : decode cX6_run 115 = .ok (.ldc 95, 2) := by decide +kernel
theorem dX6_run_117 : decode cX6_run 117 = .ok (.invokespecial 68, 3) := by decide +kernel
theorem dX6_run_120 : decode cX6_run 120 = .ok (.athrow, 1) := by decide +kernel
theorem dX6_run_121 : decode cX6_run 121 = .ok (.aload_n 0, 1) := by decide +kernel
theorem dX6_run_122 : decode cX6_run 122 = .ok (.dup, 1) := by decide +kernel
theorem dX6_run_123 : decode cX6_run 123 = .ok (.getfield 91, 3) := by decide +kernel
theorem dX6_run_126 : decode cX6_run 126 = .ok (.iconst 1, 1) := by decide +kernel
theorem dX6_run_127 : decode cX6_run 127 = .ok (.iadd, 1) := by decide +kernel
theorem dX6_run_128 : decode cX6_run 128 = .ok (.putfield 91, 3) := by decide +kernel
theorem dX6_run_131 : decode cX6_run 131 = .ok (.aload 6, 2) := by decide +kernel
theorem dX6_run_133 : decode cX6_run 133 = .ok (.iload 4, 2) := by decide +kernel
theorem dX6_run_135 : decode cX6_run 135 = .ok (.iload 8, 2) := by decide +kernel
theorem dX6_run_137 : decode cX6_run 137 = .ok (.invokevirtual 97, 3) := by decide +kernel
theorem dX6_run_140 : decode cX6_run 140 = .ok (.aload_n 0, 1) := by decide +kernel
theorem dX6_run_141 : decode cX6_run 141 = .ok (.getfield 36, 3) := by decide +kernel
theorem dX6_run_144 : decode cX6_run 144 = .ok (.dup, 1) := by decide +kernel
theorem dX6_run_145 : decode cX6_run 145 = .ok (.getfield 100, 3) := by decide +kernel
theorem dX6_run_148 : decode cX6_run 148 = .ok (.iload 8, 2) := by decide +kernel
theorem dX6_run_150 : decode cX6_run 150 = .ok (.iadd, 1) := by decide +kernel
theorem dX6_run_151 : decode cX6_run 151 = .ok (.putfield 100, 3) := by decide +kernel
theorem dX6_run_154 : decode cX6_run 154 = .ok (.iconst 0, 1) := by decide +kernel
theorem dX6_run_155 : decode cX6_run 155 = .ok (.iload 7, 2) := by decide +kernel
theorem dX6_run_157 : decode cX6_run 157 = .ok (.bipush 9, 2) := by decide +kernel
theorem dX6_run_159 : decode cX6_run 159 = .ok (.bipush 10, 2) := by decide +kernel
theorem dX6_run_161 : decode cX6_run 161 = .ok (.invokestatic 103, 3) := by decide +kernel
theorem dX6_run_164 : decode cX6_run 164 = .ok (.iload 8, 2) := by decide +kernel
theorem dX6_run_166 : decode cX6_run 166 = .ok (.isub, 1) := by decide +kernel
theorem dX6_run_167 : decode cX6_run 167 = .ok (.invokestatic 107, 3) := by decide +kernel
theorem dX6_run_170 : decode cX6_run 170 = .ok (.istore 9, 2) := by decide +kernel
theorem dX6_run_172 : decode cX6_run 172 = .ok (.aload_n 0, 1) := by decide +kernel
theorem dX6_run_173 : decode cX6_run 173 = .ok (.getfield 36, 3) := by decide +kernel
theorem dX6_run_176 : decode cX6_run 176 = .ok (.dup, 1) := by decide +kernel
theorem dX6_run_177 : decode cX6_run 177 = .ok (.getfield 113, 3) := by decide +kernel
theorem dX6_run_180 : decode cX6_run 180 = .ok (.iload 9, 2) := by decide +kernel
theorem dX6_run_182 : decode cX6_run 182 = .ok (.iadd, 1) := by decide +kernel
theorem dX6_run_183 : decode cX6_run 183 = .ok (.putfield 113, 3) := by decide +kernel
theorem dX6_run_186 : decode cX6_run 186 = .ok (.aload_n 0, 1) := by decide +kernel
theorem dX6_run_187 : decode cX6_run 187 = .ok (.getfield 29, 3) := by decide +kernel
theorem dX6_run_190 : decode cX6_run 190 = .ok (.iload 9, 2) := by decide +kernel
theorem dX6_run_192 : decode cX6_run 192 = .ok (.invokevirtual 116, 3) := by decide +kernel
theorem dX6_run_195 : decode cX6_run 195 = .ok (.pop, 1) := by decide +kernel
theorem dX6_run_196 : decode cX6_run 196 = .ok (.iload 9, 2) := by decide +kernel
theorem dX6_run_198 : decode cX6_run 198 = .ok (.ireturn, 1) := by decide +kernel
set_option maxRecDepth 20000 in
theorem ggX6_move_X6_vesselOf : GoodIn wsX6_move wsX6_vesselOf := goodIn_ca (goodIn_r _ [9, 10, 11, 12, 13, 14, 15, 16, 17, 18, 19, 20, 21, 22, 23, 24, 25, 26, 27, 28, 29, 30, 31, 32, 33, 34, 35, 36, 74, 75, 76, 77, 78, 79, 80, 81, 82, 83, 84, 85, 86, 87, 88] (by decide +kernel) (by decide +kernel)) (goodIn_sub (fun _ h => List.mem_cons_of_mem _ (List.mem_append_right _ h)) (by decide +kernel))
set_option maxRecDepth 20000 in
theorem gX6_move_X6_vesselOf : GoodIn wsX6_move (wsV RX6 80 RX6 yX6_vesselOf wsX6_vesselOf) := goodIn_app (goodIn_of _ (by decide +kernel)) ggX6_move_X6_vesselOf
set_option maxRecDepth 20000 in
theorem ggX6_move_X5_has : GoodIn wsX6_move wsX5_has := goodIn_r _ [41, 42, 70, 71, 72, 73] (by decide +kernel) (by decide +kernel)
set_option maxRecDepth 20000 in
theorem gX6_move_X5_has : GoodIn wsX6_move (wsV RX6 125 RX5 yX5_has wsX5_has) := goodIn_app (goodIn_of _ (by decide +kernel)) ggX6_move_X5_has
set_option maxRecDepth 20000 in
theorem ggX6_move_X5_hasRoomFor : GoodIn wsX6_move wsX5_hasRoomFor := goodIn_r _ [46, 47, 42, 70, 71, 72, 73] (by decide +kernel) (by decide +kernel)
set_option maxRecDepth 20000 in
theorem gX6_move_X5_hasRoomFor : GoodIn wsX6_move (wsV RX6 88 RX5 yX5_hasRoomFor wsX5_hasRoomFor) := goodIn_app (goodIn_of _ (by decide +kernel)) ggX6_move_X5_hasRoomFor
set_option maxRecDepth 20000 in
theorem ggX6_move_X5_takeOut : GoodIn wsX6_move wsX5_takeOut := goodIn_r _ [51, 42, 52, 53, 54, 55, 40, 56, 57, 8, 58, 70, 71, 72, 73] (by decide +kernel) (by decide +kernel)
set_option maxRecDepth 20000 in
theorem gX6_move_X5_takeOut : GoodIn wsX6_move (wsV RX6 130 RX5 yX5_takeOut wsX5_takeOut) := goodIn_app (goodIn_of _ (by decide +kernel)) ggX6_move_X5_takeOut
set_option maxRecDepth 20000 in
theorem ggX6_move_X5_comeIn : GoodIn wsX6_move wsX5_comeIn := goodIn_r _ [62, 52, 42, 63, 64, 65, 66, 67, 68, 69, 57, 8, 58, 70, 71, 72, 73] (by decide +kernel) (by decide +kernel)
set_option maxRecDepth 20000 in
theorem gX6_move_X5_comeIn : GoodIn wsX6_move (wsV RX6 97 RX5 yX5_comeIn wsX5_comeIn) := goodIn_app (goodIn_of _ (by decide +kernel)) ggX6_move_X5_comeIn
theorem dX6_move_0 : decode cX6_move 0 = .ok (.aload_n 0, 1) := by decide +kernel
theorem dX6_move_1 : decode cX6_move 1 = .ok (.iload_n 1, 1) := by decide +kernel
theorem dX6_move_2 : decode cX6_move 2 = .ok (.invokevirtual 80, 3) := by decide +kernel
theorem dX6_move_5 : decode cX6_move 5 = .ok (.astore 4, 2) := by decide +kernel
theorem dX6_move_7 : decode cX6_move 7 = .ok (.aload_n 0, 1) := by decide +kernel
theorem dX6_move_8 : decode cX6_move 8 = .ok (.iload_n 2, 1) := by decide +kernel
theorem dX6_move_9 : decode cX6_move 9 = .ok (.invokevirtual 80, 3) := by decide +kernel
theorem dX6_move_12 : decode cX6_move 12 = .ok (.astore 5, 2) := by decide +kernel
theorem dX6_move_14 : decode cX6_move 14 = .ok (.iload_n 1, 1) := by decide +kernel
theorem dX6_move_15 : decode cX6_move 15 = .ok (.iload_n 2, 1) := by decide +kernel
theorem dX6_move_16 : decode cX6_move 16 = .ok (.if_icmp .eq 8, 3) := by decide +kernel
theorem dX6_move_19 : decode cX6_move 19 = .ok (.iload_n 3, 1) := by decide +kernel
theorem dX6_move_20 : decode cX6_move 20 = .ok (.iconst 1, 1) := by decide +kernel
theorem dX6_move_21 : decode cX6_move 21 = .ok (.if_icmp .ge 13, 3) := by decide +kernel
theorem dX6_move_24 : decode cX6_move 24 = .ok (.new 55, 3) := by decide +kernel
theorem dX6_move_27 : decode cX6_move 27 = .ok (.dup, 1) := by decide +kernel
theorem dX6_move_28 : decode cX6_move 28 = .ok (.ldc 120, 2) := by decide +kernel
theorem dX6_move_30 : decode cX6_move 30 = .ok (.invokespecial 59, 3) := by decide +kernel
theorem dX6_move_33 : decode cX6_move 33 = .ok (.athrow, 1) := by decide +kernel
theorem dX6_move_34 : decode cX6_move 34 = .ok (.aload 4, 2) := by decide +kernel
theorem dX6_move_36 : decode cX6_move 36 = .ok (.getfield 122, 3) := by decide +kernel
theorem dX6_move_39 : decode cX6_move 39 = .ok (.aload 5, 2) := by decide +kernel
theorem dX6_move_41 : decode cX6_move 41 = .ok (.getfield 122, 3) := by decide +kernel
theorem dX6_move_44 : decode cX6_move 44 = .ok (.if_icmp .ne 21, 3) := by decide +kernel
theorem dX6_move_47 : decode cX6_move 47 = .ok (.aload 4, 2) := by decide +kernel
theorem dX6_move_49 : decode cX6_move 49 = .ok (.iload_n 3, 1) := by decide +kernel
theorem dX6_move_50 : decode cX6_move 50 = .ok (.invokevirtual 125, 3) := by decide +kernel
theorem dX6_move_53 : decode cX6_move 53 = .ok (.ifCond .eq 12, 3) := by decide +kernel
theorem dX6_move_56 : decode cX6_move 56 = .ok (.aload 5, 2) := by decide +kernel
theorem dX6_move_58 : decode cX6_move 58 = .ok (.iload_n 3, 1) := by decide +kernel
theorem dX6_move_59 : decode cX6_move 59 = .ok (.invokevirtual 88, 3) := by decide +kernel
theorem dX6_move_62 : decode cX6_move 62 = .ok (.ifCond .ne 13, 3) := by decide +kernel
theorem dX6_move_65 : decode cX6_move 65 = .ok (.new 64, 3) := by decide +kernel
theorem dX6_move_68 : decode cX6_move 68 = .ok (.dup, 1) := by decide +kernel
theorem dX6_move_69 : decode cX6_move 69 = .ok (.ldc 128, 2) := by decide +kernel
theorem dX6_move_71 : decode cX6_move 71 = .ok (.invokespecial 68, 3) := by decide +kernel
theorem dX6_move_74 : decode cX6_move 74 = .ok (.athrow, 1) := by decide +kernel
theorem dX6_move_75 : decode cX6_move 75 = .ok (.aload 5, 2) := by decide +kernel
theorem dX6_move_77 : decode cX6_move 77 = .ok (.iload_n 3, 1) := by decide +kernel
theorem dX6_move_78 : decode cX6_move 78 = .ok (.aload 4, 2) := by decide +kernel
theorem dX6_move_80 : decode cX6_move 80 = .ok (.iload_n 3, 1) := by decide +kernel
theorem dX6_move_81 : decode cX6_move 81 = .ok (.invokevirtual 130, 3) := by decide +kernel
theorem dX6_move_84 : decode cX6_move 84 = .ok (.invokevirtual 97, 3) := by decide +kernel
theorem dX6_move_87 : decode cX6_move 87 = .ok (.aload 5, 2) := by decide +kernel
theorem dX6_move_89 : decode cX6_move 89 = .ok (.getfield 133, 3) := by decide +kernel
theorem dX6_move_92 : decode cX6_move 92 = .ok (.ireturn, 1) := by decide +kernel
set_option maxRecDepth 20000 in
theorem ggX6_dip_X6_vesselOf : GoodIn wsX6_dip wsX6_vesselOf := goodIn_ca (goodIn_r _ [11, 12, 13, 14, 15, 16, 17, 18, 19, 20, 21, 22, 23, 24, 25, 26, 27, 28, 29, 30, 31, 32, 33, 34, 35, 36, 37, 38, 64, 65, 66, 67, 68, 69, 70, 71, 72, 73, 74, 75, 81, 82, 83] (by decide +kernel) (by decide +kernel)) (goodIn_sub (fun _ h => List.mem_cons_of_mem _ (List.mem_append_right _ h)) (by decide +kernel))
set_option maxRecDepth 20000 in
theorem gX6_dip_X6_vesselOf : GoodIn wsX6_dip (wsV RX6 80 RX6 yX6_vesselOf wsX6_vesselOf) := goodIn_app (goodIn_of _ (by decide +kernel)) ggX6_dip_X6_vesselOf
set_option maxRecDepth 20000 in
theorem ggX6_dip_X6_isWithin : GoodIn wsX6_dip wsX6_isWithin := goodIn_r _ [41] (by decide +kernel) (by decide +kernel)
set_option maxRecDepth 20000 in
theorem gX6_dip_X6_isWithin : GoodIn wsX6_dip (va_wsS RX6 51 yX6_isWithin wsX6_isWithin) := goodIn_app (goodIn_of _ (by decide +kernel)) ggX6_dip_X6_isWithin
set_option maxRecDepth 20000 in
theorem ggX6_dip_X6_miss : GoodIn wsX6_dip wsX6_miss := goodIn_r _ [45, 6, 46, 47, 48, 49, 50, 51, 52, 53, 54, 55, 56, 57, 58, 10, 59, 64, 65, 66, 67, 68, 69, 70, 71, 72, 73, 74, 75, 76, 77, 78, 79, 80, 84, 85, 86] (by decide +kernel) (by decide +kernel)
set_option maxRecDepth 20000 in
theorem gX6_dip_X6_miss : GoodIn wsX6_dip (wsV RX6 147 RX6 yX6_miss wsX6_miss) := goodIn_app (goodIn_of _ (by decide +kernel)) ggX6_dip_X6_miss
theorem dX6_dip_0 : decode cX6_dip 0 = .ok (.aload_n 0, 1) := by decide +kernel
theorem dX6_dip_1 : decode cX6_dip 1 = .ok (.iload_n 1, 1) := by decide +kernel
theorem dX6_dip_2 : decode cX6_dip 2 = .ok (.invokevirtual 80, 3) := by decide +kernel
theorem dX6_dip_5 : decode cX6_dip 5 = .ok (.astore 4, 2) := by decide +kernel
theorem dX6_dip_7 : decode cX6_dip 7 = .ok (.iload_n 2, 1) := by decide +kernel
theorem dX6_dip_8 : decode cX6_dip 8 = .ok (.iconst 0, 1) := by decide +kernel
theorem dX6_dip_9 : decode cX6_dip 9 = .ok (.aload 4, 2) := by decide +kernel
theorem dX6_dip_11 : decode cX6_dip 11 = .ok (.getfield 136, 3) := by decide +kernel
theorem dX6_dip_14 : decode cX6_dip 14 = .ok (.invokestatic 51, 3) := by decide +kernel
theorem dX6_dip_17 : decode cX6_dip 17 = .ok (.ifCond .eq 14, 3) := by decide +kernel
theorem dX6_dip_20 : decode cX6_dip 20 = .ok (.iload_n 3, 1) := by decide +kernel
theorem dX6_dip_21 : decode cX6_dip 21 = .ok (.iconst 0, 1) := by decide +kernel
theorem dX6_dip_22 : decode cX6_dip 22 = .ok (.sipush 960, 3) := by decide +kernel
theorem dX6_dip_25 : decode cX6_dip 25 = .ok (.invokestatic 51, 3) := by decide +kernel
theorem dX6_dip_28 : decode cX6_dip 28 = .ok (.ifCond .ne 13, 3) := by decide +kernel
theorem dX6_dip_31 : decode cX6_dip 31 = .ok (.new 55, 3) := by decide +kernel
theorem dX6_dip_34 : decode cX6_dip 34 = .ok (.dup, 1) := by decide +kernel
theorem dX6_dip_35 : decode cX6_dip 35 = .ok (.ldc 86, 2) := by decide +kernel
theorem dX6_dip_37 : decode cX6_dip 37 = .ok (.invokespecial 59, 3) := by decide +kernel
theorem dX6_dip_40 : decode cX6_dip 40 = .ok (.athrow, 1) := by decide +kernel
theorem dX6_dip_41 : decode cX6_dip 41 = .ok (.aload_n 0, 1) := by decide +kernel
theorem dX6_dip_42 : decode cX6_dip 42 = .ok (.getfield 139, 3) := by decide +kernel
theorem dX6_dip_45 : decode cX6_dip 45 = .ok (.bipush 60, 2) := by decide +kernel
theorem dX6_dip_47 : decode cX6_dip 47 = .ok (.if_icmp .lt 13, 3) := by decide +kernel
theorem dX6_dip_50 : decode cX6_dip 50 = .ok (.new 64, 3) := by decide +kernel
theorem dX6_dip_53 : decode cX6_dip 53 = .ok (.dup, 1) := by decide +kernel
theorem dX6_dip_54 : decode cX6_dip 54 = .ok (.ldc 142, 2) := by decide +kernel
theorem dX6_dip_56 : decode cX6_dip 56 = .ok (.invokespecial 68, 3) := by decide +kernel
theorem dX6_dip_59 : decode cX6_dip 59 = .ok (.athrow, 1) := by decide +kernel
theorem dX6_dip_60 : decode cX6_dip 60 = .ok (.aload_n 0, 1) := by decide +kernel
theorem dX6_dip_61 : decode cX6_dip 61 = .ok (.dup, 1) := by decide +kernel
theorem dX6_dip_62 : decode cX6_dip 62 = .ok (.getfield 139, 3) := by decide +kernel
theorem dX6_dip_65 : decode cX6_dip 65 = .ok (.iconst 1, 1) := by decide +kernel
theorem dX6_dip_66 : decode cX6_dip 66 = .ok (.iadd, 1) := by decide +kernel
theorem dX6_dip_67 : decode cX6_dip 67 = .ok (.putfield 139, 3) := by decide +kernel
theorem dX6_dip_70 : decode cX6_dip 70 = .ok (.aload 4, 2) := by decide +kernel
theorem dX6_dip_72 : decode cX6_dip 72 = .ok (.getfield 144, 3) := by decide +kernel
theorem dX6_dip_75 : decode cX6_dip 75 = .ok (.istore 5, 2) := by decide +kernel
theorem dX6_dip_77 : decode cX6_dip 77 = .ok (.iload 5, 2) := by decide +kernel
theorem dX6_dip_79 : decode cX6_dip 79 = .ok (.iload_n 2, 1) := by decide +kernel
theorem dX6_dip_80 : decode cX6_dip 80 = .ok (.iload_n 3, 1) := by decide +kernel
theorem dX6_dip_81 : decode cX6_dip 81 = .ok (.imul, 1) := by decide +kernel
theorem dX6_dip_82 : decode cX6_dip 82 = .ok (.isub, 1) := by decide +kernel
theorem dX6_dip_83 : decode cX6_dip 83 = .ok (.istore 6, 2) := by decide +kernel
theorem dX6_dip_85 : decode cX6_dip 85 = .ok (.aload 4, 2) := by decide +kernel
theorem dX6_dip_87 : decode cX6_dip 87 = .ok (.iload_n 2, 1) := by decide +kernel
theorem dX6_dip_88 : decode cX6_dip 88 = .ok (.putfield 133, 3) := by decide +kernel
theorem dX6_dip_91 : decode cX6_dip 91 = .ok (.aload 4, 2) := by decide +kernel
theorem dX6_dip_93 : decode cX6_dip 93 = .ok (.iload_n 2, 1) := by decide +kernel
theorem dX6_dip_94 : decode cX6_dip 94 = .ok (.iload_n 3, 1) := by decide +kernel
theorem dX6_dip_95 : decode cX6_dip 95 = .ok (.imul, 1) := by decide +kernel
theorem dX6_dip_96 : decode cX6_dip 96 = .ok (.putfield 144, 3) := by decide +kernel
theorem dX6_dip_99 : decode cX6_dip 99 = .ok (.iload 6, 2) := by decide +kernel
theorem dX6_dip_101 : decode cX6_dip 101 = .ok (.ifCond .ge 20, 3) := by decide +kernel
theorem dX6_dip_104 : decode cX6_dip 104 = .ok (.aload_n 0, 1) := by decide +kernel
theorem dX6_dip_105 : decode cX6_dip 105 = .ok (.getfield 36, 3) := by decide +kernel
theorem dX6_dip_108 : decode cX6_dip 108 = .ok (.dup, 1) := by decide +kernel
theorem dX6_dip_109 : decode cX6_dip 109 = .ok (.getfield 100, 3) := by decide +kernel
theorem dX6_dip_112 : decode cX6_dip 112 = .ok (.iload 6, 2) := by decide +kernel
theorem dX6_dip_114 : decode cX6_dip 114 = .ok (.isub, 1) := by decide +kernel
theorem dX6_dip_115 : decode cX6_dip 115 = .ok (.putfield 100, 3) := by decide +kernel
theorem dX6_dip_118 : decode cX6_dip 118 = .ok (.goto 37, 3) := by decide +kernel
theorem dX6_dip_121 : decode cX6_dip 121 = .ok (.iload 6, 2) := by decide +kernel
theorem dX6_dip_123 : decode cX6_dip 123 = .ok (.iload 5, 2) := by decide +kernel
theorem dX6_dip_125 : decode cX6_dip 125 = .ok (.bipush 100, 2) := by decide +kernel
theorem dX6_dip_127 : decode cX6_dip 127 = .ok (.idiv, 1) := by decide +kernel
theorem dX6_dip_128 : decode cX6_dip 128 = .ok (.if_icmp .le 13, 3) := by decide +kernel
theorem dX6_dip_131 : decode cX6_dip 131 = .ok (.aload_n 0, 1) := by decide +kernel
theorem dX6_dip_132 : decode cX6_dip 132 = .ok (.iload 6, 2) := by decide +kernel
theorem dX6_dip_134 : decode cX6_dip 134 = .ok (.invokevirtual 147, 3) := by decide +kernel
theorem dX6_dip_137 : decode cX6_dip 137 = .ok (.pop, 1) := by decide +kernel
theorem dX6_dip_138 : decode cX6_dip 138 = .ok (.goto 17, 3) := by decide +kernel
theorem dX6_dip_141 : decode cX6_dip 141 = .ok (.aload_n 0, 1) := by decide +kernel
theorem dX6_dip_142 : decode cX6_dip 142 = .ok (.getfield 36, 3) := by decide +kernel
theorem dX6_dip_145 : decode cX6_dip 145 = .ok (.dup, 1) := by decide +kernel
theorem dX6_dip_146 : decode cX6_dip 146 = .ok (.getfield 150, 3) := by decide +kernel
theorem dX6_dip_149 : decode cX6_dip 149 = .ok (.iload 6, 2) := by decide +kernel
theorem dX6_dip_151 : decode cX6_dip 151 = .ok (.iadd, 1) := by decide +kernel
theorem dX6_dip_152 : decode cX6_dip 152 = .ok (.putfield 150, 3) := by decide +kernel
theorem dX6_dip_155 : decode cX6_dip 155 = .ok (.iload 6, 2) := by decide +kernel
theorem dX6_dip_157 : decode cX6_dip 157 = .ok (.ireturn, 1) := by decide +kernel
set_option maxRecDepth 20000 in
theorem ggX6_lose_X6_vesselOf : GoodIn wsX6_lose wsX6_vesselOf := goodIn_ca (goodIn_r _ [10, 11, 12, 13, 14, 15, 16, 17, 18, 19, 20, 21, 22, 23, 24, 25, 26, 27, 28, 29, 30, 31, 32, 33, 34, 35, 36, 37, 71, 72, 73, 74, 75, 76, 77, 78, 79, 80, 81, 82, 88, 89, 90] (by decide +kernel) (by decide +kernel)) (goodIn_sub (fun _ h => List.mem_cons_of_mem _ (List.mem_append_right _ h)) (by decide +kernel))
set_option maxRecDepth 20000 in
theorem gX6_lose_X6_vesselOf : GoodIn wsX6_lose (wsV RX6 80 RX6 yX6_vesselOf wsX6_vesselOf) := goodIn_app (goodIn_of _ (by decide +kernel)) ggX6_lose_X6_vesselOf
set_option maxRecDepth 20000 in
theorem ggX6_lose_X5_has : GoodIn wsX6_lose wsX5_has := goodIn_r _ [42, 43, 91, 92, 93, 94] (by decide +kernel) (by decide +kernel)
set_option maxRecDepth 20000 in
theorem gX6_lose_X5_has : GoodIn wsX6_lose (wsV RX6 125 RX5 yX5_has wsX5_has) := goodIn_app (goodIn_of _ (by decide +kernel)) ggX6_lose_X5_has
set_option maxRecDepth 20000 in
theorem ggX6_lose_X5_takeOut : GoodIn wsX6_lose wsX5_takeOut := goodIn_r _ [47, 43, 48, 49, 50, 51, 41, 52, 53, 9, 54, 91, 92, 93, 94] (by decide +kernel) (by decide +kernel)
set_option maxRecDepth 20000 in
theorem gX6_lose_X5_takeOut : GoodIn wsX6_lose (wsV RX6 130 RX5 yX5_takeOut wsX5_takeOut) := goodIn_app (goodIn_of _ (by decide +kernel)) ggX6_lose_X5_takeOut
set_option maxRecDepth 20000 in
theorem ggX6_lose_X6_miss : GoodIn wsX6_lose wsX6_miss := goodIn_r _ [58, 5, 59, 60, 61, 62, 63, 64, 65, 66, 67, 68, 69, 70, 53, 9, 54, 71, 72, 73, 74, 75, 76, 77, 78, 79, 80, 81, 82, 83, 84, 85, 86, 87, 95, 96, 97] (by decide +kernel) (by decide +kernel)
set_option maxRecDepth 20000 in
theorem gX6_lose_X6_miss : GoodIn wsX6_lose (wsV RX6 147 RX6 yX6_miss wsX6_miss) := goodIn_app (goodIn_of _ (by decide +kernel)) ggX6_lose_X6_miss
theorem dX6_lose_0 : decode cX6_lose 0 = .ok (.aload_n 0, 1) := by decide +kernel
theorem dX6_lose_1 : decode cX6_lose 1 = .ok (.iload_n 1, 1) := by decide +kernel
theorem dX6_lose_2 : decode cX6_lose 2 = .ok (.invokevirtual 80, 3) := by decide +kernel
theorem dX6_lose_5 : decode cX6_lose 5 = .ok (.astore 4, 2) := by decide +kernel
theorem dX6_lose_7 : decode cX6_lose 7 = .ok (.iload_n 2, 1) := by decide +kernel
theorem dX6_lose_8 : decode cX6_lose 8 = .ok (.iconst 1, 1) := by decide +kernel
theorem dX6_lose_9 : decode cX6_lose 9 = .ok (.if_icmp .ge 13, 3) := by decide +kernel
theorem dX6_lose_12 : decode cX6_lose 12 = .ok (.new 55, 3) := by decide +kernel
theorem dX6_lose_15 : decode cX6_lose 15 = .ok (.dup, 1) := by decide +kernel
theorem dX6_lose_16 : decode cX6_lose 16 = .ok (.ldc 153, 2) := by decide +kernel
theorem dX6_lose_18 : decode cX6_lose 18 = .ok (.invokespecial 59, 3) := by decide +kernel
theorem dX6_lose_21 : decode cX6_lose 21 = .ok (.athrow, 1) := by decide +kernel
theorem dX6_lose_22 : decode cX6_lose 22 = .ok (.aload 4, 2) := by decide +kernel
theorem dX6_lose_24 : decode cX6_lose 24 = .ok (.iload_n 2, 1) := by decide +kernel
theorem dX6_lose_25 : decode cX6_lose 25 = .ok (.invokevirtual 125, 3) := by decide +kernel
theorem dX6_lose_28 : decode cX6_lose 28 = .ok (.ifCond .ne 13, 3) := by decide +kernel
theorem dX6_lose_31 : decode cX6_lose 31 = .ok (.new 64, 3) := by decide +kernel
theorem dX6_lose_34 : decode cX6_lose 34 = .ok (.dup, 1) := by decide +kernel
theorem dX6_lose_35 : decode cX6_lose 35 = .ok (.ldc 155, 2) := by decide +kernel
theorem dX6_lose_37 : decode cX6_lose 37 = .ok (.invokespecial 68, 3) := by decide +kernel
theorem dX6_lose_40 : decode cX6_lose 40 = .ok (.athrow, 1) := by decide +kernel
theorem dX6_lose_41 : decode cX6_lose 41 = .ok (.aload 4, 2) := by decide +kernel
theorem dX6_lose_43 : decode cX6_lose 43 = .ok (.iload_n 2, 1) := by decide +kernel
theorem dX6_lose_44 : decode cX6_lose 44 = .ok (.invokevirtual 130, 3) := by decide +kernel
theorem dX6_lose_47 : decode cX6_lose 47 = .ok (.istore 5, 2) := by decide +kernel
theorem dX6_lose_49 : decode cX6_lose 49 = .ok (.iload_n 3, 1) := by decide +kernel
theorem dX6_lose_50 : decode cX6_lose 50 = .ok (.ifCond .ne 10, 3) := by decide +kernel
theorem dX6_lose_53 : decode cX6_lose 53 = .ok (.aload_n 0, 1) := by decide +kernel
theorem dX6_lose_54 : decode cX6_lose 54 = .ok (.iload 5, 2) := by decide +kernel
theorem dX6_lose_56 : decode cX6_lose 56 = .ok (.invokevirtual 147, 3) := by decide +kernel
theorem dX6_lose_59 : decode cX6_lose 59 = .ok (.ireturn, 1) := by decide +kernel
theorem dX6_lose_60 : decode cX6_lose 60 = .ok (.aload_n 0, 1) := by decide +kernel
theorem dX6_lose_61 : decode cX6_lose 61 = .ok (.getfield 36, 3) := by decide +kernel
theorem dX6_lose_64 : decode cX6_lose 64 = .ok (.dup, 1) := by decide +kernel
theorem dX6_lose_65 : decode cX6_lose 65 = .ok (.getfield 150, 3) := by decide +kernel
theorem dX6_lose_68 : decode cX6_lose 68 = .ok (.iload 5, 2) := by decide +kernel
theorem dX6_lose_70 : decode cX6_lose 70 = .ok (.iadd, 1) := by decide +kernel
theorem dX6_lose_71 : decode cX6_lose 71 = .ok (.putfield 150, 3) := by decide +kernel
theorem dX6_lose_74 : decode cX6_lose 74 = .ok (.iconst 0, 1) := by decide +kernel
theorem dX6_lose_75 : decode cX6_lose 75 = .ok (.ireturn, 1) := by decide +kernel
set_option maxRecDepth 20000 in
theorem ggX6_release_X6_vesselOf : GoodIn wsX6_release wsX6_vesselOf := goodIn_ca (goodIn_r _ [15, 16, 17, 18, 19, 20, 21, 22, 23, 24, 25, 26, 27, 28, 29, 30, 31, 32, 33, 34, 35, 36, 37, 38, 39, 40, 41, 42, 135, 136, 137, 138, 139, 140, 141, 142, 143, 144, 145, 146, 152, 153, 154] (by decide +kernel) (by decide +kernel)) (goodIn_sub (fun _ h => List.mem_cons_of_mem _ (List.mem_append_right _ h)) (by decide +kernel))
set_option maxRecDepth 20000 in
theorem gX6_release_X6_vesselOf : GoodIn wsX6_release (wsV RX6 80 RX6 yX6_vesselOf wsX6_vesselOf) := goodIn_app (goodIn_of _ (by decide +kernel)) ggX6_release_X6_vesselOf
set_option maxRecDepth 20000 in
theorem ggX6_release_X5_has : GoodIn wsX6_release wsX5_has := goodIn_r _ [47, 48, 155, 156, 157, 158] (by decide +kernel) (by decide +kernel)
set_option maxRecDepth 20000 in
theorem gX6_release_X5_has : GoodIn wsX6_release (wsV RX6 125 RX5 yX5_has wsX5_has) := goodIn_app (goodIn_of _ (by decide +kernel)) ggX6_release_X5_has
set_option maxRecDepth 20000 in
theorem ggX6_release_Jx4a65c_size_8abf5 : GoodIn wsX6_release wsJx4a65c_size_8abf5 := goodIn_r _ [24, 25, 152, 153, 154] (by decide +kernel) (by decide +kernel)
set_option maxRecDepth 20000 in
theorem gX6_release_Jx4a65c_size_8abf5 : GoodIn wsX6_release (wsV RX6 60 RJx4a65c yJx4a65c_size_8abf5 wsJx4a65c_size_8abf5) := goodIn_app (goodIn_of _ (by decide +kernel)) ggX6_release_Jx4a65c_size_8abf5
set_option maxRecDepth 20000 in
theorem ggX6_release_X5_dropsOf : GoodIn wsX6_release wsX5_dropsOf := goodIn_r _ [52, 53, 48, 54, 14, 55, 155, 156, 157, 158] (by decide +kernel) (by decide +kernel)
set_option maxRecDepth 20000 in
theorem gX6_release_X5_dropsOf : GoodIn wsX6_release (wsV RX6 163 RX5 yX5_dropsOf wsX5_dropsOf) := goodIn_app (goodIn_of _ (by decide +kernel)) ggX6_release_X5_dropsOf
set_option maxRecDepth 20000 in
theorem ggX6_release_X5_takeOut : GoodIn wsX6_release wsX5_takeOut := goodIn_r _ [59, 48, 53, 60, 50, 51, 46, 52, 54, 14, 55, 155, 156, 157, 158] (by decide +kernel) (by decide +kernel)
set_option maxRecDepth 20000 in
theorem gX6_release_X5_takeOut : GoodIn wsX6_release (wsV RX6 130 RX5 yX5_takeOut wsX5_takeOut) := goodIn_app (goodIn_of _ (by decide +kernel)) ggX6_release_X5_takeOut
set_option maxRecDepth 20000 in
theorem ggX6_release_X1_chargeLeaving : GoodIn wsX6_release wsX1_chargeLeaving := goodIn_r _ [65, 66, 67, 68, 69, 70, 71, 72, 54, 14, 55, 73, 74, 75, 64, 76, 159, 160, 161] (by decide +kernel) (by decide +kernel)
set_option maxRecDepth 20000 in
theorem gX6_release_X1_chargeLeaving : GoodIn wsX6_release (wsV RX6 173 RX1 yX1_chargeLeaving wsX1_chargeLeaving) := goodIn_app (goodIn_of _ (by decide +kernel)) ggX6_release_X1_chargeLeaving
set_option maxRecDepth 20000 in
theorem ggX6_release_X3_init : GoodIn wsX6_release wsX3_init := goodIn_r _ [79, 80, 81, 82, 83, 84, 150, 151] (by decide +kernel) (by decide +kernel)
set_option maxRecDepth 20000 in
theorem gX6_release_X3_init : GoodIn wsX6_release (wsX3_init) := ggX6_release_X3_init
set_option maxRecDepth 20000 in
theorem ggX6_release_Jx4a65c_add_9ea2d : GoodIn wsX6_release wsJx4a65c_add_9ea2d := goodIn_r _ [88, 89, 90, 42, 25, 91, 92, 93, 23, 94, 95, 96, 97, 98, 99, 100, 101, 102, 103, 104, 105, 69, 106, 107, 108, 109, 110, 111, 112, 113, 114, 115, 116, 117, 118, 119, 120, 121, 122, 123, 124, 125, 126, 127, 128, 129, 130, 68, 70, 131, 132, 133, 134, 152, 153, 154] (by decide +kernel) (by decide +kernel)
set_option maxRecDepth 20000 in
theorem gX6_release_Jx4a65c_add_9ea2d : GoodIn wsX6_release (wsV RX6 74 RJx4a65c yJx4a65c_add_9ea2d wsJx4a65c_add_9ea2d) := goodIn_app (goodIn_of _ (by decide +kernel)) ggX6_release_Jx4a65c_add_9ea2d
theorem dX6_release_0 : decode cX6_release 0 = .ok (.aload_n 0, 1) := by decide +kernel
theorem dX6_release_1 : decode cX6_release 1 = .ok (.iload_n 1, 1) := by decide +kernel
theorem dX6_release_2 : decode cX6_release 2 = .ok (.invokevirtual 80, 3) := by decide +kernel
theorem dX6_release_5 : decode cX6_release 5 = .ok (.astore_n 3, 1) := by decide +kernel
theorem dX6_release_6 : decode cX6_release 6 = .ok (.iload_n 2, 1) := by decide +kernel
theorem dX6_release_7 : decode cX6_release 7 = .ok (.iconst 1, 1) := by decide +kernel
theorem dX6_release_8 : decode cX6_release 8 = .ok (.if_icmp .ge 13, 3) := by decide +kernel
theorem dX6_release_11 : decode cX6_release 11 = .ok (.new 55, 3) := by decide +kernel
theorem dX6_release_14 : decode cX6_release 14 = .ok (.dup, 1) := by decide +kernel
theorem dX6_release_15 : decode cX6_release 15 = .ok (.ldc 153, 2) := by decide +kernel
theorem dX6_release_17 : decode cX6_release 17 = .ok (.invokespecial 59, 3) := by decide +kernel
theorem dX6_release_20 : decode cX6_release 20 = .ok (.athrow, 1) := by decide +kernel
theorem dX6_release_21 : decode cX6_release 21 = .ok (.aload_n 3, 1) := by decide +kernel
theorem dX6_release_22 : decode cX6_release 22 = .ok (.iload_n 2, 1) := by decide +kernel
theorem dX6_release_23 : decode cX6_release 23 = .ok (.invokevirtual 125, 3) := by decide +kernel
theorem dX6_release_26 : decode cX6_release 26 = .ok (.ifCond .eq 15, 3) := by decide +kernel
theorem dX6_release_29 : decode cX6_release 29 = .ok (.aload_n 0, 1) := by decide +kernel
theorem dX6_release_30 : decode cX6_release 30 = .ok (.getfield 19, 3) := by decide +kernel
theorem dX6_release_33 : decode cX6_release 33 = .ok (.invokevirtual 60, 3) := by decide +kernel
theorem dX6_release_36 : decode cX6_release 36 = .ok (.bipush 100, 2) := by decide +kernel
theorem dX6_release_38 : decode cX6_release 38 = .ok (.if_icmp .lt 13, 3) := by decide +kernel
theorem dX6_release_41 : decode cX6_release 41 = .ok (.new 64, 3) := by decide +kernel
theorem dX6_release_44 : decode cX6_release 44 = .ok (.dup, 1) := by decide +kernel
theorem dX6_release_45 : decode cX6_release 45 = .ok (.ldc 157, 2) := by decide +kernel
theorem dX6_release_47 : decode cX6_release 47 = .ok (.invokespecial 68, 3) := by decide +kernel
theorem dX6_release_50 : decode cX6_release 50 = .ok (.athrow, 1) := by decide +kernel
theorem dX6_release_51 : decode cX6_release 51 = .ok (.aload_n 0, 1) := by decide +kernel
theorem dX6_release_52 : decode cX6_release 52 = .ok (.getfield 159, 3) := by decide +kernel
theorem dX6_release_55 : decode cX6_release 55 = .ok (.ifnull 28, 3) := by decide +kernel
theorem dX6_release_58 : decode cX6_release 58 = .ok (.aload_n 3, 1) := by decide +kernel
theorem dX6_release_59 : decode cX6_release 59 = .ok (.iload_n 2, 1) := by decide +kernel
theorem dX6_release_60 : decode cX6_release 60 = .ok (.invokevirtual 163, 3) := by decide +kernel
theorem dX6_release_63 : decode cX6_release 63 = .ok (.aload_n 0, 1) := by decide +kernel
theorem dX6_release_64 : decode cX6_release 64 = .ok (.getfield 159, 3) := by decide +kernel
theorem dX6_release_67 : decode cX6_release 67 = .ok (.getfield 166, 3) := by decide +kernel
theorem dX6_release_70 : decode cX6_release 70 = .ok (.if_icmp .le 13, 3) := by decide +kernel
theorem dX6_release_73 : decode cX6_release 73 = .ok (.new 64, 3) := by decide +kernel
theorem dX6_release_76 : decode cX6_release 76 = .ok (.dup, 1) := by decide +kernel
theorem dX6_release_77 : decode cX6_release 77 = .ok (.ldc 171, 2) := by decide +kernel
theorem dX6_release_79 : decode cX6_release 79 = .ok (.invokespecial 68, 3) := by decide +kernel
theorem dX6_release_82 : decode cX6_release 82 = .ok (.athrow, 1) := by decide +kernel
theorem dX6_release_83 : decode cX6_release 83 = .ok (.aload_n 3, 1) := by decide +kernel
theorem dX6_release_84 : decode cX6_release 84 = .ok (.iload_n 2, 1) := by decide +kernel
theorem dX6_release_85 : decode cX6_release 85 = .ok (.invokevirtual 130, 3) := by decide +kernel
theorem dX6_release_88 : decode cX6_release 88 = .ok (.istore 4, 2) := by decide +kernel
theorem dX6_release_90 : decode cX6_release 90 = .ok (.aload_n 0, 1) := by decide +kernel
theorem dX6_release_91 : decode cX6_release 91 = .ok (.getfield 159, 3) := by decide +kernel
theorem dX6_release_94 : decode cX6_release 94 = .ok (.ifnull 17, 3) := by decide +kernel
theorem dX6_release_97 : decode cX6_release 97 = .ok (.aload_n 0, 1) := by decide +kernel
theorem dX6_release_98 : decode cX6_release 98 = .ok (.getfield 159, 3) := by decide +kernel
theorem dX6_release_101 : decode cX6_release 101 = .ok (.dup, 1) := by decide +kernel
theorem dX6_release_102 : decode cX6_release 102 = .ok (.getfield 166, 3) := by decide +kernel
theorem dX6_release_105 : decode cX6_release 105 = .ok (.iload 4, 2) := by decide +kernel
theorem dX6_release_107 : decode cX6_release 107 = .ok (.isub, 1) := by decide +kernel
theorem dX6_release_108 : decode cX6_release 108 = .ok (.putfield 166, 3) := by decide +kernel
theorem dX6_release_111 : decode cX6_release 111 = .ok (.aload_n 0, 1) := by decide +kernel
theorem dX6_release_112 : decode cX6_release 112 = .ok (.getfield 29, 3) := by decide +kernel
theorem dX6_release_115 : decode cX6_release 115 = .ok (.iload 4, 2) := by decide +kernel
theorem dX6_release_117 : decode cX6_release 117 = .ok (.invokevirtual 173, 3) := by decide +kernel
theorem dX6_release_120 : decode cX6_release 120 = .ok (.istore 5, 2) := by decide +kernel
theorem dX6_release_122 : decode cX6_release 122 = .ok (.aload_n 0, 1) := by decide +kernel
theorem dX6_release_123 : decode cX6_release 123 = .ok (.getfield 19, 3) := by decide +kernel
theorem dX6_release_126 : decode cX6_release 126 = .ok (.new 176, 3) := by decide +kernel
theorem dX6_release_129 : decode cX6_release 129 = .ok (.dup, 1) := by decide +kernel
theorem dX6_release_130 : decode cX6_release 130 = .ok (.iload 4, 2) := by decide +kernel
theorem dX6_release_132 : decode cX6_release 132 = .ok (.iload 5, 2) := by decide +kernel
theorem dX6_release_134 : decode cX6_release 134 = .ok (.invokespecial 178, 3) := by decide +kernel
theorem dX6_release_137 : decode cX6_release 137 = .ok (.invokevirtual 74, 3) := by decide +kernel
theorem dX6_release_140 : decode cX6_release 140 = .ok (.pop, 1) := by decide +kernel
theorem dX6_release_141 : decode cX6_release 141 = .ok (.iload 5, 2) := by decide +kernel
theorem dX6_release_143 : decode cX6_release 143 = .ok (.ireturn, 1) := by decide +kernel
set_option maxRecDepth 20000 in
theorem ggX6_permit_X6_isWithin : GoodIn wsX6_permit wsX6_isWithin := goodIn_r _ [8] (by decide +kernel) (by decide +kernel)
set_option maxRecDepth 20000 in
theorem gX6_permit_X6_isWithin : GoodIn wsX6_permit (va_wsS RX6 51 yX6_isWithin wsX6_isWithin) := goodIn_app (goodIn_of _ (by decide +kernel)) ggX6_permit_X6_isWithin
theorem dX6_permit_0 : decode cX6_permit 0 = .ok (.iload_n 1, 1) := by decide +kernel
theorem dX6_permit_1 : decode cX6_permit 1 = .ok (.iconst 0, 1) := by decide +kernel
theorem dX6_permit_2 : decode cX6_permit 2 = .ok (.ldc 179, 2) := by decide +kernel
theorem dX6_permit_4 : decode cX6_permit 4 = .ok (.invokestatic 51, 3) := by decide +kernel
theorem dX6_permit_7 : decode cX6_permit 7 = .ok (.ifCond .ne 13, 3) := by decide +kernel
theorem dX6_permit_10 : decode cX6_permit 10 = .ok (.new 55, 3) := by decide +kernel
theorem dX6_permit_13 : decode cX6_permit 13 = .ok (.dup, 1) := by decide +kernel
theorem dX6_permit_14 : decode cX6_permit 14 = .ok (.ldc 180, 2) := by decide +kernel
theorem dX6_permit_16 : decode cX6_permit 16 = .ok (.invokespecial 59, 3) := by decide +kernel
theorem dX6_permit_19 : decode cX6_permit 19 = .ok (.athrow, 1) := by decide +kernel
theorem dX6_permit_20 : decode cX6_permit 20 = .ok (.aload_n 0, 1) := by decide +kernel
theorem dX6_permit_21 : decode cX6_permit 21 = .ok (.getfield 182, 3) := by decide +kernel
theorem dX6_permit_24 : decode cX6_permit 24 = .ok (.istore_n 2, 1) := by decide +kernel
theorem dX6_permit_25 : decode cX6_permit 25 = .ok (.aload_n 0, 1) := by decide +kernel
theorem dX6_permit_26 : decode cX6_permit 26 = .ok (.iload_n 1, 1) := by decide +kernel
theorem dX6_permit_27 : decode cX6_permit 27 = .ok (.putfield 182, 3) := by decide +kernel
theorem dX6_permit_30 : decode cX6_permit 30 = .ok (.iload_n 2, 1) := by decide +kernel
theorem dX6_permit_31 : decode cX6_permit 31 = .ok (.ireturn, 1) := by decide +kernel
set_option maxRecDepth 20000 in
theorem ggX6_denature_X6_vesselOf : GoodIn wsX6_denature wsX6_vesselOf := goodIn_ca (goodIn_r _ [11, 12, 13, 14, 15, 16, 17, 18, 19, 20, 21, 22, 23, 24, 25, 26, 27, 28, 29, 30, 31, 32, 33, 34, 35, 36, 37, 38, 57, 58, 59, 60, 61, 62, 63, 64, 65, 66, 67, 68, 74, 75, 76] (by decide +kernel) (by decide +kernel)) (goodIn_sub (fun _ h => List.mem_cons_of_mem _ (List.mem_append_right _ h)) (by decide +kernel))
set_option maxRecDepth 20000 in
theorem gX6_denature_X6_vesselOf : GoodIn wsX6_denature (wsV RX6 80 RX6 yX6_vesselOf wsX6_vesselOf) := goodIn_app (goodIn_of _ (by decide +kernel)) ggX6_denature_X6_vesselOf
set_option maxRecDepth 20000 in
theorem ggX6_denature_X5_has : GoodIn wsX6_denature wsX5_has := goodIn_r _ [43, 44, 77, 78, 79, 80] (by decide +kernel) (by decide +kernel)
set_option maxRecDepth 20000 in
theorem gX6_denature_X5_has : GoodIn wsX6_denature (wsV RX6 125 RX5 yX5_has wsX5_has) := goodIn_app (goodIn_of _ (by decide +kernel)) ggX6_denature_X5_has
set_option maxRecDepth 20000 in
theorem ggX6_denature_X5_dropsOf : GoodIn wsX6_denature wsX5_dropsOf := goodIn_r _ [48, 49, 44, 50, 10, 51, 77, 78, 79, 80] (by decide +kernel) (by decide +kernel)
set_option maxRecDepth 20000 in
theorem gX6_denature_X5_dropsOf : GoodIn wsX6_denature (wsV RX6 163 RX5 yX5_dropsOf wsX5_dropsOf) := goodIn_app (goodIn_of _ (by decide +kernel)) ggX6_denature_X5_dropsOf
set_option maxRecDepth 20000 in
theorem ggX6_denature_X5_takeOut : GoodIn wsX6_denature wsX5_takeOut := goodIn_r _ [55, 44, 49, 56, 46, 47, 42, 48, 50, 10, 51, 77, 78, 79, 80] (by decide +kernel) (by decide +kernel)
set_option maxRecDepth 20000 in
theorem gX6_denature_X5_takeOut : GoodIn wsX6_denature (wsV RX6 130 RX5 yX5_takeOut wsX5_takeOut) := goodIn_app (goodIn_of _ (by decide +kernel)) ggX6_denature_X5_takeOut
theorem dX6_denature_0 : decode cX6_denature 0 = .ok (.aload_n 0, 1) := by decide +kernel
theorem dX6_denature_1 : decode cX6_denature 1 = .ok (.iload_n 1, 1) := by decide +kernel
theorem dX6_denature_2 : decode cX6_denature 2 = .ok (.invokevirtual 80, 3) := by decide +kernel
theorem dX6_denature_5 : decode cX6_denature 5 = .ok (.astore_n 3, 1) := by decide +kernel
theorem dX6_denature_6 : decode cX6_denature 6 = .ok (.iload_n 2, 1) := by decide +kernel
theorem dX6_denature_7 : decode cX6_denature 7 = .ok (.iconst 1, 1) := by decide +kernel
theorem dX6_denature_8 : decode cX6_denature 8 = .ok (.if_icmp .ge 13, 3) := by decide +kernel
theorem dX6_denature_11 : decode cX6_denature 11 = .ok (.new 55, 3) := by decide +kernel
theorem dX6_denature_14 : decode cX6_denature 14 = .ok (.dup, 1) := by decide +kernel
theorem dX6_denature_15 : decode cX6_denature 15 = .ok (.ldc 153, 2) := by decide +kernel
theorem dX6_denature_17 : decode cX6_denature 17 = .ok (.invokespecial 59, 3) := by decide +kernel
theorem dX6_denature_20 : decode cX6_denature 20 = .ok (.athrow, 1) := by decide +kernel
theorem dX6_denature_21 : decode cX6_denature 21 = .ok (.aload_n 3, 1) := by decide +kernel
theorem dX6_denature_22 : decode cX6_denature 22 = .ok (.iload_n 2, 1) := by decide +kernel
theorem dX6_denature_23 : decode cX6_denature 23 = .ok (.invokevirtual 125, 3) := by decide +kernel
theorem dX6_denature_26 : decode cX6_denature 26 = .ok (.ifCond .eq 15, 3) := by decide +kernel
theorem dX6_denature_29 : decode cX6_denature 29 = .ok (.aload_n 3, 1) := by decide +kernel
theorem dX6_denature_30 : decode cX6_denature 30 = .ok (.iload_n 2, 1) := by decide +kernel
theorem dX6_denature_31 : decode cX6_denature 31 = .ok (.invokevirtual 163, 3) := by decide +kernel
theorem dX6_denature_34 : decode cX6_denature 34 = .ok (.aload_n 0, 1) := by decide +kernel
theorem dX6_denature_35 : decode cX6_denature 35 = .ok (.getfield 182, 3) := by decide +kernel
theorem dX6_denature_38 : decode cX6_denature 38 = .ok (.if_icmp .le 13, 3) := by decide +kernel
theorem dX6_denature_41 : decode cX6_denature 41 = .ok (.new 64, 3) := by decide +kernel
theorem dX6_denature_44 : decode cX6_denature 44 = .ok (.dup, 1) := by decide +kernel
theorem dX6_denature_45 : decode cX6_denature 45 = .ok (.ldc 185, 2) := by decide +kernel
theorem dX6_denature_47 : decode cX6_denature 47 = .ok (.invokespecial 68, 3) := by decide +kernel
theorem dX6_denature_50 : decode cX6_denature 50 = .ok (.athrow, 1) := by decide +kernel
theorem dX6_denature_51 : decode cX6_denature 51 = .ok (.aload_n 3, 1) := by decide +kernel
theorem dX6_denature_52 : decode cX6_denature 52 = .ok (.iload_n 2, 1) := by decide +kernel
theorem dX6_denature_53 : decode cX6_denature 53 = .ok (.invokevirtual 130, 3) := by decide +kernel
theorem dX6_denature_56 : decode cX6_denature 56 = .ok (.istore 4, 2) := by decide +kernel
theorem dX6_denature_58 : decode cX6_denature 58 = .ok (.aload_n 0, 1) := by decide +kernel
theorem dX6_denature_59 : decode cX6_denature 59 = .ok (.dup, 1) := by decide +kernel
theorem dX6_denature_60 : decode cX6_denature 60 = .ok (.getfield 182, 3) := by decide +kernel
theorem dX6_denature_63 : decode cX6_denature 63 = .ok (.iload 4, 2) := by decide +kernel
theorem dX6_denature_65 : decode cX6_denature 65 = .ok (.isub, 1) := by decide +kernel
theorem dX6_denature_66 : decode cX6_denature 66 = .ok (.putfield 182, 3) := by decide +kernel
theorem dX6_denature_69 : decode cX6_denature 69 = .ok (.aload_n 0, 1) := by decide +kernel
theorem dX6_denature_70 : decode cX6_denature 70 = .ok (.getfield 36, 3) := by decide +kernel
theorem dX6_denature_73 : decode cX6_denature 73 = .ok (.dup, 1) := by decide +kernel
theorem dX6_denature_74 : decode cX6_denature 74 = .ok (.getfield 150, 3) := by decide +kernel
theorem dX6_denature_77 : decode cX6_denature 77 = .ok (.iload 4, 2) := by decide +kernel
theorem dX6_denature_79 : decode cX6_denature 79 = .ok (.iadd, 1) := by decide +kernel
theorem dX6_denature_80 : decode cX6_denature 80 = .ok (.putfield 150, 3) := by decide +kernel
theorem dX6_denature_83 : decode cX6_denature 83 = .ok (.iload 4, 2) := by decide +kernel
theorem dX6_denature_85 : decode cX6_denature 85 = .ok (.ireturn, 1) := by decide +kernel
set_option maxRecDepth 20000 in
theorem ggX6_export_X6_dropsInLots : GoodIn wsX6_export wsX6_dropsInLots := goodIn_r _ [17, 5, 6, 18, 19, 20, 21, 22, 23, 24, 25, 26, 27, 28, 29, 30, 31, 32, 33, 34, 35, 36, 37, 38, 39, 40, 50, 51, 52, 53, 54, 55, 56, 57, 58, 59, 60, 61, 62, 63, 72, 73, 74] (by decide +kernel) (by decide +kernel)
set_option maxRecDepth 20000 in
theorem gX6_export_X6_dropsInLots : GoodIn wsX6_export (wsV RX6 189 RX6 yX6_dropsInLots wsX6_dropsInLots) := goodIn_app (goodIn_of _ (by decide +kernel)) ggX6_export_X6_dropsInLots
set_option maxRecDepth 20000 in
theorem ggX6_export_Jx4a65c_size_8abf5 : GoodIn wsX6_export wsJx4a65c_size_8abf5 := goodIn_r _ [22, 23, 72, 73, 74] (by decide +kernel) (by decide +kernel)
set_option maxRecDepth 20000 in
theorem gX6_export_Jx4a65c_size_8abf5 : GoodIn wsX6_export (wsV RX6 60 RJx4a65c yJx4a65c_size_8abf5 wsJx4a65c_size_8abf5) := goodIn_app (goodIn_of _ (by decide +kernel)) ggX6_export_Jx4a65c_size_8abf5
set_option maxRecDepth 20000 in
theorem ggX6_export_Jx4a65c_get_915e3 : GoodIn wsX6_export wsJx4a65c_get_915e3 := goodIn_r _ [27, 23, 28, 29, 30, 31, 32, 33, 34, 35, 36, 37, 38, 21, 39, 40, 72, 73, 74] (by decide +kernel) (by decide +kernel)
set_option maxRecDepth 20000 in
theorem gX6_export_Jx4a65c_get_915e3 : GoodIn wsX6_export (wsV RX6 194 RJx4a65c yJx4a65c_get_915e3 wsJx4a65c_get_915e3) := goodIn_app (goodIn_of _ (by decide +kernel)) ggX6_export_Jx4a65c_get_915e3
set_option maxRecDepth 20000 in
theorem ggX6_export_X3_drawBack : GoodIn wsX6_export wsX3_drawBack := goodIn_r _ [45, 46, 47, 48, 16, 49, 62, 63] (by decide +kernel) (by decide +kernel)
set_option maxRecDepth 20000 in
theorem gX6_export_X3_drawBack : GoodIn wsX6_export (wsV RX6 202 RX3 yX3_drawBack wsX3_drawBack) := goodIn_app (goodIn_of _ (by decide +kernel)) ggX6_export_X3_drawBack
theorem dX6_export_0 : decode cX6_export 0 = .ok (.iload_n 1, 1) := by decide +kernel
theorem dX6_export_1 : decode cX6_export 1 = .ok (.iconst 1, 1) := by decide +kernel
theorem dX6_export_2 : decode cX6_export 2 = .ok (.if_icmp .ge 13, 3) := by decide +kernel
theorem dX6_export_5 : decode cX6_export 5 = .ok (.new 55, 3) := by decide +kernel
theorem dX6_export_8 : decode cX6_export 8 = .ok (.dup, 1) := by decide +kernel
theorem dX6_export_9 : decode cX6_export 9 = .ok (.ldc 187, 2) := by decide +kernel
theorem dX6_export_11 : decode cX6_export 11 = .ok (.invokespecial 59, 3) := by decide +kernel
theorem dX6_export_14 : decode cX6_export 14 = .ok (.athrow, 1) := by decide +kernel
theorem dX6_export_15 : decode cX6_export 15 = .ok (.iload_n 1, 1) := by decide +kernel
theorem dX6_export_16 : decode cX6_export 16 = .ok (.aload_n 0, 1) := by decide +kernel
theorem dX6_export_17 : decode cX6_export 17 = .ok (.invokevirtual 189, 3) := by decide +kernel
theorem dX6_export_20 : decode cX6_export 20 = .ok (.if_icmp .le 13, 3) := by decide +kernel
theorem dX6_export_23 : decode cX6_export 23 = .ok (.new 64, 3) := by decide +kernel
theorem dX6_export_26 : decode cX6_export 26 = .ok (.dup, 1) := by decide +kernel
theorem dX6_export_27 : decode cX6_export 27 = .ok (.ldc 192, 2) := by decide +kernel
theorem dX6_export_29 : decode cX6_export 29 = .ok (.invokespecial 68, 3) := by decide +kernel
theorem dX6_export_32 : decode cX6_export 32 = .ok (.athrow, 1) := by decide +kernel
theorem dX6_export_33 : decode cX6_export 33 = .ok (.iload_n 1, 1) := by decide +kernel
theorem dX6_export_34 : decode cX6_export 34 = .ok (.istore_n 2, 1) := by decide +kernel
theorem dX6_export_35 : decode cX6_export 35 = .ok (.iconst 0, 1) := by decide +kernel
theorem dX6_export_36 : decode cX6_export 36 = .ok (.istore_n 3, 1) := by decide +kernel
theorem dX6_export_37 : decode cX6_export 37 = .ok (.iconst 0, 1) := by decide +kernel
theorem dX6_export_38 : decode cX6_export 38 = .ok (.istore 4, 2) := by decide +kernel
theorem dX6_export_40 : decode cX6_export 40 = .ok (.iload 4, 2) := by decide +kernel
theorem dX6_export_42 : decode cX6_export 42 = .ok (.aload_n 0, 1) := by decide +kernel
theorem dX6_export_43 : decode cX6_export 43 = .ok (.getfield 19, 3) := by decide +kernel
theorem dX6_export_46 : decode cX6_export 46 = .ok (.invokevirtual 60, 3) := by decide +kernel
theorem dX6_export_49 : decode cX6_export 49 = .ok (.if_icmp .ge 53, 3) := by decide +kernel
theorem dX6_export_52 : decode cX6_export 52 = .ok (.iload_n 2, 1) := by decide +kernel
theorem dX6_export_53 : decode cX6_export 53 = .ok (.ifCond .le 49, 3) := by decide +kernel
theorem dX6_export_56 : decode cX6_export 56 = .ok (.aload_n 0, 1) := by decide +kernel
theorem dX6_export_57 : decode cX6_export 57 = .ok (.getfield 19, 3) := by decide +kernel
theorem dX6_export_60 : decode cX6_export 60 = .ok (.iload 4, 2) := by decide +kernel
theorem dX6_export_62 : decode cX6_export 62 = .ok (.invokevirtual 194, 3) := by decide +kernel
theorem dX6_export_65 : decode cX6_export 65 = .ok (.checkcast 176, 3) := by decide +kernel
theorem dX6_export_68 : decode cX6_export 68 = .ok (.astore 5, 2) := by decide +kernel
theorem dX6_export_70 : decode cX6_export 70 = .ok (.iload_n 2, 1) := by decide +kernel
theorem dX6_export_71 : decode cX6_export 71 = .ok (.aload 5, 2) := by decide +kernel
theorem dX6_export_73 : decode cX6_export 73 = .ok (.getfield 198, 3) := by decide +kernel
theorem dX6_export_76 : decode cX6_export 76 = .ok (.invokestatic 199, 3) := by decide +kernel
theorem dX6_export_79 : decode cX6_export 79 = .ok (.istore 6, 2) := by decide +kernel
theorem dX6_export_81 : decode cX6_export 81 = .ok (.iload_n 3, 1) := by decide +kernel
theorem dX6_export_82 : decode cX6_export 82 = .ok (.aload 5, 2) := by decide +kernel
theorem dX6_export_84 : decode cX6_export 84 = .ok (.iload 6, 2) := by decide +kernel
theorem dX6_export_86 : decode cX6_export 86 = .ok (.invokevirtual 202, 3) := by decide +kernel
theorem dX6_export_89 : decode cX6_export 89 = .ok (.iadd, 1) := by decide +kernel
theorem dX6_export_90 : decode cX6_export 90 = .ok (.istore_n 3, 1) := by decide +kernel
theorem dX6_export_91 : decode cX6_export 91 = .ok (.iload_n 2, 1) := by decide +kernel
theorem dX6_export_92 : decode cX6_export 92 = .ok (.iload 6, 2) := by decide +kernel
theorem dX6_export_94 : decode cX6_export 94 = .ok (.isub, 1) := by decide +kernel
theorem dX6_export_95 : decode cX6_export 95 = .ok (.istore_n 2, 1) := by decide +kernel
theorem dX6_export_96 : decode cX6_export 96 = .ok (.iinc 4 1, 3) := by decide +kernel
theorem dX6_export_99 : decode cX6_export 99 = .ok (.goto (-59), 3) := by decide +kernel
theorem dX6_export_102 : decode cX6_export 102 = .ok (.aload_n 0, 1) := by decide +kernel
theorem dX6_export_103 : decode cX6_export 103 = .ok (.getfield 29, 3) := by decide +kernel
theorem dX6_export_106 : decode cX6_export 106 = .ok (.dup, 1) := by decide +kernel
theorem dX6_export_107 : decode cX6_export 107 = .ok (.getfield 205, 3) := by decide +kernel
theorem dX6_export_110 : decode cX6_export 110 = .ok (.iload_n 3, 1) := by decide +kernel
theorem dX6_export_111 : decode cX6_export 111 = .ok (.isub, 1) := by decide +kernel
theorem dX6_export_112 : decode cX6_export 112 = .ok (.putfield 205, 3) := by decide +kernel
theorem dX6_export_115 : decode cX6_export 115 = .ok (.aload_n 0, 1) := by decide +kernel
theorem dX6_export_116 : decode cX6_export 116 = .ok (.getfield 36, 3) := by decide +kernel
theorem dX6_export_119 : decode cX6_export 119 = .ok (.dup, 1) := by decide +kernel
theorem dX6_export_120 : decode cX6_export 120 = .ok (.getfield 208, 3) := by decide +kernel
theorem dX6_export_123 : decode cX6_export 123 = .ok (.iload_n 1, 1) := by decide +kernel
theorem dX6_export_124 : decode cX6_export 124 = .ok (.iadd, 1) := by decide +kernel
theorem dX6_export_125 : decode cX6_export 125 = .ok (.putfield 208, 3) := by decide +kernel
theorem dX6_export_128 : decode cX6_export 128 = .ok (.iload_n 3, 1) := by decide +kernel
theorem dX6_export_129 : decode cX6_export 129 = .ok (.ireturn, 1) := by decide +kernel
set_option maxRecDepth 20000 in
theorem ggX6_pay_X6_isWithin : GoodIn wsX6_pay wsX6_isWithin := goodIn_r _ [10] (by decide +kernel) (by decide +kernel)
set_option maxRecDepth 20000 in
theorem gX6_pay_X6_isWithin : GoodIn wsX6_pay (va_wsS RX6 51 yX6_isWithin wsX6_isWithin) := goodIn_app (goodIn_of _ (by decide +kernel)) ggX6_pay_X6_isWithin
theorem dX6_pay_0 : decode cX6_pay 0 = .ok (.iload_n 1, 1) := by decide +kernel
theorem dX6_pay_1 : decode cX6_pay 1 = .ok (.iconst 1, 1) := by decide +kernel
theorem dX6_pay_2 : decode cX6_pay 2 = .ok (.ldc 211, 2) := by decide +kernel
theorem dX6_pay_4 : decode cX6_pay 4 = .ok (.invokestatic 51, 3) := by decide +kernel
theorem dX6_pay_7 : decode cX6_pay 7 = .ok (.ifCond .ne 13, 3) := by decide +kernel
theorem dX6_pay_10 : decode cX6_pay 10 = .ok (.new 55, 3) := by decide +kernel
theorem dX6_pay_13 : decode cX6_pay 13 = .ok (.dup, 1) := by decide +kernel
theorem dX6_pay_14 : decode cX6_pay 14 = .ok (.ldc 212, 2) := by decide +kernel
theorem dX6_pay_16 : decode cX6_pay 16 = .ok (.invokespecial 59, 3) := by decide +kernel
theorem dX6_pay_19 : decode cX6_pay 19 = .ok (.athrow, 1) := by decide +kernel
theorem dX6_pay_20 : decode cX6_pay 20 = .ok (.iload_n 1, 1) := by decide +kernel
theorem dX6_pay_21 : decode cX6_pay 21 = .ok (.aload_n 0, 1) := by decide +kernel
theorem dX6_pay_22 : decode cX6_pay 22 = .ok (.getfield 29, 3) := by decide +kernel
theorem dX6_pay_25 : decode cX6_pay 25 = .ok (.getfield 205, 3) := by decide +kernel
theorem dX6_pay_28 : decode cX6_pay 28 = .ok (.if_icmp .le 13, 3) := by decide +kernel
theorem dX6_pay_31 : decode cX6_pay 31 = .ok (.new 64, 3) := by decide +kernel
theorem dX6_pay_34 : decode cX6_pay 34 = .ok (.dup, 1) := by decide +kernel
theorem dX6_pay_35 : decode cX6_pay 35 = .ok (.ldc 214, 2) := by decide +kernel
theorem dX6_pay_37 : decode cX6_pay 37 = .ok (.invokespecial 68, 3) := by decide +kernel
theorem dX6_pay_40 : decode cX6_pay 40 = .ok (.athrow, 1) := by decide +kernel
theorem dX6_pay_41 : decode cX6_pay 41 = .ok (.aload_n 0, 1) := by decide +kernel
theorem dX6_pay_42 : decode cX6_pay 42 = .ok (.getfield 29, 3) := by decide +kernel
theorem dX6_pay_45 : decode cX6_pay 45 = .ok (.dup, 1) := by decide +kernel
theorem dX6_pay_46 : decode cX6_pay 46 = .ok (.getfield 205, 3) := by decide +kernel
theorem dX6_pay_49 : decode cX6_pay 49 = .ok (.iload_n 1, 1) := by decide +kernel
theorem dX6_pay_50 : decode cX6_pay 50 = .ok (.isub, 1) := by decide +kernel
theorem dX6_pay_51 : decode cX6_pay 51 = .ok (.putfield 205, 3) := by decide +kernel
theorem dX6_pay_54 : decode cX6_pay 54 = .ok (.aload_n 0, 1) := by decide +kernel
theorem dX6_pay_55 : decode cX6_pay 55 = .ok (.getfield 29, 3) := by decide +kernel
theorem dX6_pay_58 : decode cX6_pay 58 = .ok (.getfield 205, 3) := by decide +kernel
theorem dX6_pay_61 : decode cX6_pay 61 = .ok (.ireturn, 1) := by decide +kernel
set_option maxRecDepth 20000 in
theorem ggX6_budget_X6_isWithin : GoodIn wsX6_budget wsX6_isWithin := goodIn_r _ [14] (by decide +kernel) (by decide +kernel)
set_option maxRecDepth 20000 in
theorem gX6_budget_X6_isWithin : GoodIn wsX6_budget (va_wsS RX6 51 yX6_isWithin wsX6_isWithin) := goodIn_app (goodIn_of _ (by decide +kernel)) ggX6_budget_X6_isWithin
set_option maxRecDepth 20000 in
theorem ggX6_budget_X0_init : GoodIn wsX6_budget wsX0_init := goodIn_r _ [17, 18, 19, 20, 21, 22, 23, 36, 37, 38] (by decide +kernel) (by decide +kernel)
set_option maxRecDepth 20000 in
theorem gX6_budget_X0_init : GoodIn wsX6_budget (wsX0_init) := ggX6_budget_X0_init
theorem dX6_budget_0 : decode cX6_budget 0 = .ok (.iload_n 1, 1) := by decide +kernel
theorem dX6_budget_1 : decode cX6_budget 1 = .ok (.aload_n 0, 1) := by decide +kernel
theorem dX6_budget_2 : decode cX6_budget 2 = .ok (.getfield 216, 3) := by decide +kernel
theorem dX6_budget_5 : decode cX6_budget 5 = .ok (.if_icmp .le 10, 3) := by decide +kernel
theorem dX6_budget_8 : decode cX6_budget 8 = .ok (.iload_n 1, 1) := by decide +kernel
theorem dX6_budget_9 : decode cX6_budget 9 = .ok (.sipush 900, 3) := by decide +kernel
theorem dX6_budget_12 : decode cX6_budget 12 = .ok (.if_icmp .le 13, 3) := by decide +kernel
theorem dX6_budget_15 : decode cX6_budget 15 = .ok (.new 55, 3) := by decide +kernel
theorem dX6_budget_18 : decode cX6_budget 18 = .ok (.dup, 1) := by decide +kernel
theorem dX6_budget_19 : decode cX6_budget 19 = .ok (.ldc 219, 2) := by decide +kernel
theorem dX6_budget_21 : decode cX6_budget 21 = .ok (.invokespecial 59, 3) := by decide +kernel
theorem dX6_budget_24 : decode cX6_budget 24 = .ok (.athrow, 1) := by decide +kernel
theorem dX6_budget_25 : decode cX6_budget 25 = .ok (.iload_n 2, 1) := by decide +kernel
theorem dX6_budget_26 : decode cX6_budget 26 = .ok (.iconst 0, 1) := by decide +kernel
theorem dX6_budget_27 : decode cX6_budget 27 = .ok (.bipush 99, 2) := by decide +kernel
theorem dX6_budget_29 : decode cX6_budget 29 = .ok (.invokestatic 51, 3) := by decide +kernel
theorem dX6_budget_32 : decode cX6_budget 32 = .ok (.ifCond .eq 13, 3) := by decide +kernel
theorem dX6_budget_35 : decode cX6_budget 35 = .ok (.iload_n 3, 1) := by decide +kernel
theorem dX6_budget_36 : decode cX6_budget 36 = .ok (.iconst 0, 1) := by decide +kernel
theorem dX6_budget_37 : decode cX6_budget 37 = .ok (.ldc 179, 2) := by decide +kernel
theorem dX6_budget_39 : decode cX6_budget 39 = .ok (.invokestatic 51, 3) := by decide +kernel
theorem dX6_budget_42 : decode cX6_budget 42 = .ok (.ifCond .ne 13, 3) := by decide +kernel
theorem dX6_budget_45 : decode cX6_budget 45 = .ok (.new 55, 3) := by decide +kernel
theorem dX6_budget_48 : decode cX6_budget 48 = .ok (.dup, 1) := by decide +kernel
theorem dX6_budget_49 : decode cX6_budget 49 = .ok (.ldc 221, 2) := by decide +kernel
theorem dX6_budget_51 : decode cX6_budget 51 = .ok (.invokespecial 59, 3) := by decide +kernel
theorem dX6_budget_54 : decode cX6_budget 54 = .ok (.athrow, 1) := by decide +kernel
theorem dX6_budget_55 : decode cX6_budget 55 = .ok (.aload_n 0, 1) := by decide +kernel
theorem dX6_budget_56 : decode cX6_budget 56 = .ok (.getfield 159, 3) := by decide +kernel
theorem dX6_budget_59 : decode cX6_budget 59 = .ok (.ifnull 13, 3) := by decide +kernel
theorem dX6_budget_62 : decode cX6_budget 62 = .ok (.new 64, 3) := by decide +kernel
theorem dX6_budget_65 : decode cX6_budget 65 = .ok (.dup, 1) := by decide +kernel
theorem dX6_budget_66 : decode cX6_budget 66 = .ok (.ldc 223, 2) := by decide +kernel
theorem dX6_budget_68 : decode cX6_budget 68 = .ok (.invokespecial 68, 3) := by decide +kernel
theorem dX6_budget_71 : decode cX6_budget 71 = .ok (.athrow, 1) := by decide +kernel
theorem dX6_budget_72 : decode cX6_budget 72 = .ok (.aload_n 0, 1) := by decide +kernel
theorem dX6_budget_73 : decode cX6_budget 73 = .ok (.new 167, 3) := by decide +kernel
theorem dX6_budget_76 : decode cX6_budget 76 = .ok (.dup, 1) := by decide +kernel
theorem dX6_budget_77 : decode cX6_budget 77 = .ok (.iload_n 1, 1) := by decide +kernel
theorem dX6_budget_78 : decode cX6_budget 78 = .ok (.iload_n 2, 1) := by decide +kernel
theorem dX6_budget_79 : decode cX6_budget 79 = .ok (.iload_n 3, 1) := by decide +kernel
theorem dX6_budget_80 : decode cX6_budget 80 = .ok (.invokespecial 225, 3) := by decide +kernel
theorem dX6_budget_83 : decode cX6_budget 83 = .ok (.putfield 159, 3) := by decide +kernel
theorem dX6_budget_86 : decode cX6_budget 86 = .ok (.return_, 1) := by decide +kernel
set_option maxRecDepth 20000 in
theorem ggX6_guarantee_X6_isWithin : GoodIn wsX6_guarantee wsX6_isWithin := goodIn_r _ [11] (by decide +kernel) (by decide +kernel)
set_option maxRecDepth 20000 in
theorem gX6_guarantee_X6_isWithin : GoodIn wsX6_guarantee (va_wsS RX6 51 yX6_isWithin wsX6_isWithin) := goodIn_app (goodIn_of _ (by decide +kernel)) ggX6_guarantee_X6_isWithin
set_option maxRecDepth 20000 in
theorem ggX6_guarantee_X6_dropsThatMove : GoodIn wsX6_guarantee wsX6_dropsThatMove := goodIn_r _ [15, 16, 17, 18, 19, 20, 21, 22, 23, 24, 25, 26, 27, 28, 29, 30, 31, 32, 33, 34, 35, 36, 37, 38, 39, 40, 49, 50, 51, 52, 53, 54, 55, 56, 57, 58, 59, 60, 61, 62, 63, 64, 65, 66, 67, 68] (by decide +kernel) (by decide +kernel)
set_option maxRecDepth 20000 in
theorem gX6_guarantee_X6_dropsThatMove : GoodIn wsX6_guarantee (wsV RX6 228 RX6 yX6_dropsThatMove wsX6_dropsThatMove) := goodIn_app (goodIn_of _ (by decide +kernel)) ggX6_guarantee_X6_dropsThatMove
set_option maxRecDepth 20000 in
theorem ggX6_guarantee_X1_dutyFor : GoodIn wsX6_guarantee wsX1_dutyFor := goodIn_r _ [45, 46, 47, 10, 48, 69, 70, 71] (by decide +kernel) (by decide +kernel)
set_option maxRecDepth 20000 in
theorem gX6_guarantee_X1_dutyFor : GoodIn wsX6_guarantee (wsV RX6 231 RX1 yX1_dutyFor wsX1_dutyFor) := goodIn_app (goodIn_of _ (by decide +kernel)) ggX6_guarantee_X1_dutyFor
theorem dX6_guarantee_0 : decode cX6_guarantee 0 = .ok (.iload_n 1, 1) := by decide +kernel
theorem dX6_guarantee_1 : decode cX6_guarantee 1 = .ok (.iconst 0, 1) := by decide +kernel
theorem dX6_guarantee_2 : decode cX6_guarantee 2 = .ok (.ldc 179, 2) := by decide +kernel
theorem dX6_guarantee_4 : decode cX6_guarantee 4 = .ok (.invokestatic 51, 3) := by decide +kernel
theorem dX6_guarantee_7 : decode cX6_guarantee 7 = .ok (.ifCond .ne 13, 3) := by decide +kernel
theorem dX6_guarantee_10 : decode cX6_guarantee 10 = .ok (.new 55, 3) := by decide +kernel
theorem dX6_guarantee_13 : decode cX6_guarantee 13 = .ok (.dup, 1) := by decide +kernel
theorem dX6_guarantee_14 : decode cX6_guarantee 14 = .ok (.ldc 212, 2) := by decide +kernel
theorem dX6_guarantee_16 : decode cX6_guarantee 16 = .ok (.invokespecial 59, 3) := by decide +kernel
theorem dX6_guarantee_19 : decode cX6_guarantee 19 = .ok (.athrow, 1) := by decide +kernel
theorem dX6_guarantee_20 : decode cX6_guarantee 20 = .ok (.iload_n 1, 1) := by decide +kernel
theorem dX6_guarantee_21 : decode cX6_guarantee 21 = .ok (.aload_n 0, 1) := by decide +kernel
theorem dX6_guarantee_22 : decode cX6_guarantee 22 = .ok (.getfield 29, 3) := by decide +kernel
theorem dX6_guarantee_25 : decode cX6_guarantee 25 = .ok (.aload_n 0, 1) := by decide +kernel
theorem dX6_guarantee_26 : decode cX6_guarantee 26 = .ok (.invokevirtual 228, 3) := by decide +kernel
theorem dX6_guarantee_29 : decode cX6_guarantee 29 = .ok (.invokevirtual 231, 3) := by decide +kernel
theorem dX6_guarantee_32 : decode cX6_guarantee 32 = .ok (.if_icmp .ge 13, 3) := by decide +kernel
theorem dX6_guarantee_35 : decode cX6_guarantee 35 = .ok (.new 64, 3) := by decide +kernel
theorem dX6_guarantee_38 : decode cX6_guarantee 38 = .ok (.dup, 1) := by decide +kernel
theorem dX6_guarantee_39 : decode cX6_guarantee 39 = .ok (.ldc 234, 2) := by decide +kernel
theorem dX6_guarantee_41 : decode cX6_guarantee 41 = .ok (.invokespecial 68, 3) := by decide +kernel
theorem dX6_guarantee_44 : decode cX6_guarantee 44 = .ok (.athrow, 1) := by decide +kernel
theorem dX6_guarantee_45 : decode cX6_guarantee 45 = .ok (.aload_n 0, 1) := by decide +kernel
theorem dX6_guarantee_46 : decode cX6_guarantee 46 = .ok (.getfield 236, 3) := by decide +kernel
theorem dX6_guarantee_49 : decode cX6_guarantee 49 = .ok (.istore_n 2, 1) := by decide +kernel
theorem dX6_guarantee_50 : decode cX6_guarantee 50 = .ok (.aload_n 0, 1) := by decide +kernel
theorem dX6_guarantee_51 : decode cX6_guarantee 51 = .ok (.iload_n 1, 1) := by decide +kernel
theorem dX6_guarantee_52 : decode cX6_guarantee 52 = .ok (.putfield 236, 3) := by decide +kernel
theorem dX6_guarantee_55 : decode cX6_guarantee 55 = .ok (.iload_n 2, 1) := by decide +kernel
theorem dX6_guarantee_56 : decode cX6_guarantee 56 = .ok (.ireturn, 1) := by decide +kernel
set_option maxRecDepth 20000 in
theorem ggX6_ship_X6_vesselOf : GoodIn wsX6_ship wsX6_vesselOf := goodIn_ca (goodIn_r _ [16, 17, 18, 19, 20, 21, 22, 23, 24, 25, 26, 27, 28, 29, 30, 31, 32, 33, 34, 35, 36, 37, 38, 39, 40, 41, 42, 43, 144, 145, 146, 147, 148, 149, 150, 151, 152, 153, 154, 155, 161, 162, 163] (by decide +kernel) (by decide +kernel)) (goodIn_sub (fun _ h => List.mem_cons_of_mem _ (List.mem_append_right _ h)) (by decide +kernel))
set_option maxRecDepth 20000 in
theorem gX6_ship_X6_vesselOf : GoodIn wsX6_ship (wsV RX6 80 RX6 yX6_vesselOf wsX6_vesselOf) := goodIn_app (goodIn_of _ (by decide +kernel)) ggX6_ship_X6_vesselOf
set_option maxRecDepth 20000 in
theorem ggX6_ship_X6_isWithin : GoodIn wsX6_ship wsX6_isWithin := goodIn_r _ [46] (by decide +kernel) (by decide +kernel)
set_option maxRecDepth 20000 in
theorem gX6_ship_X6_isWithin : GoodIn wsX6_ship (va_wsS RX6 51 yX6_isWithin wsX6_isWithin) := goodIn_app (goodIn_of _ (by decide +kernel)) ggX6_ship_X6_isWithin
set_option maxRecDepth 20000 in
theorem ggX6_ship_X5_has : GoodIn wsX6_ship wsX5_has := goodIn_r _ [51, 52, 140, 141, 142, 143] (by decide +kernel) (by decide +kernel)
set_option maxRecDepth 20000 in
theorem gX6_ship_X5_has : GoodIn wsX6_ship (wsV RX6 125 RX5 yX5_has wsX5_has) := goodIn_app (goodIn_of _ (by decide +kernel)) ggX6_ship_X5_has
set_option maxRecDepth 20000 in
theorem ggX6_ship_Jx4a65c_size_8abf5 : GoodIn wsX6_ship wsJx4a65c_size_8abf5 := goodIn_r _ [25, 26, 161, 162, 163] (by decide +kernel) (by decide +kernel)
set_option maxRecDepth 20000 in
theorem gX6_ship_Jx4a65c_size_8abf5 : GoodIn wsX6_ship (wsV RX6 60 RJx4a65c yJx4a65c_size_8abf5 wsJx4a65c_size_8abf5) := goodIn_app (goodIn_of _ (by decide +kernel)) ggX6_ship_Jx4a65c_size_8abf5
set_option maxRecDepth 20000 in
theorem ggX6_ship_X6_dropsThatMove : GoodIn wsX6_ship wsX6_dropsThatMove := goodIn_r _ [56, 5, 57, 21, 22, 23, 24, 25, 26, 27, 28, 29, 30, 31, 32, 33, 34, 35, 36, 37, 38, 39, 40, 41, 42, 43, 144, 145, 146, 147, 148, 149, 150, 151, 152, 153, 154, 155, 156, 157, 158, 159, 160, 161, 162, 163] (by decide +kernel) (by decide +kernel)
set_option maxRecDepth 20000 in
theorem gX6_ship_X6_dropsThatMove : GoodIn wsX6_ship (wsV RX6 228 RX6 yX6_dropsThatMove wsX6_dropsThatMove) := goodIn_app (goodIn_of _ (by decide +kernel)) ggX6_ship_X6_dropsThatMove
set_option maxRecDepth 20000 in
theorem ggX6_ship_X5_dropsOf : GoodIn wsX6_ship wsX5_dropsOf := goodIn_r _ [61, 62, 52, 63, 15, 64, 140, 141, 142, 143] (by decide +kernel) (by decide +kernel)
set_option maxRecDepth 20000 in
theorem gX6_ship_X5_dropsOf : GoodIn wsX6_ship (wsV RX6 163 RX5 yX5_dropsOf wsX5_dropsOf) := goodIn_app (goodIn_of _ (by decide +kernel)) ggX6_ship_X5_dropsOf
set_option maxRecDepth 20000 in
theorem ggX6_ship_X1_dutyFor : GoodIn wsX6_ship wsX1_dutyFor := goodIn_r _ [69, 70, 63, 15, 64, 164, 165, 166] (by decide +kernel) (by decide +kernel)
set_option maxRecDepth 20000 in
theorem gX6_ship_X1_dutyFor : GoodIn wsX6_ship (wsV RX6 231 RX1 yX1_dutyFor wsX1_dutyFor) := goodIn_app (goodIn_of _ (by decide +kernel)) ggX6_ship_X1_dutyFor
set_option maxRecDepth 20000 in
theorem ggX6_ship_X5_takeOut : GoodIn wsX6_ship wsX5_takeOut := goodIn_r _ [74, 52, 62, 75, 59, 60, 50, 61, 63, 15, 64, 140, 141, 142, 143] (by decide +kernel) (by decide +kernel)
set_option maxRecDepth 20000 in
theorem gX6_ship_X5_takeOut : GoodIn wsX6_ship (wsV RX6 130 RX5 yX5_takeOut wsX5_takeOut) := goodIn_app (goodIn_of _ (by decide +kernel)) ggX6_ship_X5_takeOut
set_option maxRecDepth 20000 in
theorem ggX6_ship_X4_init : GoodIn wsX6_ship wsX4_init := goodIn_r _ [78, 79, 80, 81, 82, 83, 84, 85, 86, 156, 157, 158, 159, 160] (by decide +kernel) (by decide +kernel)
set_option maxRecDepth 20000 in
theorem gX6_ship_X4_init : GoodIn wsX6_ship (wsX4_init) := ggX6_ship_X4_init
set_option maxRecDepth 20000 in
theorem ggX6_ship_Jx4a65c_add_9ea2d : GoodIn wsX6_ship wsJx4a65c_add_9ea2d := goodIn_r _ [90, 91, 92, 43, 26, 93, 94, 95, 24, 96, 97, 98, 99, 100, 101, 102, 103, 104, 105, 106, 107, 108, 109, 110, 111, 112, 113, 114, 115, 116, 117, 118, 119, 120, 121, 122, 123, 124, 125, 126, 127, 128, 129, 130, 131, 132, 133, 134, 135, 136, 137, 138, 139, 161, 162, 163] (by decide +kernel) (by decide +kernel)
set_option maxRecDepth 20000 in
theorem gX6_ship_Jx4a65c_add_9ea2d : GoodIn wsX6_ship (wsV RX6 74 RJx4a65c yJx4a65c_add_9ea2d wsJx4a65c_add_9ea2d) := goodIn_app (goodIn_of _ (by decide +kernel)) ggX6_ship_Jx4a65c_add_9ea2d
theorem dX6_ship_0 : decode cX6_ship 0 = .ok (.aload_n 0, 1) := by decide +kernel
theorem dX6_ship_1 : decode cX6_ship 1 = .ok (.iload_n 1, 1) := by decide +kernel
theorem dX6_ship_2 : decode cX6_ship 2 = .ok (.invokevirtual 80, 3) := by decide +kernel
theorem dX6_ship_5 : decode cX6_ship 5 = .ok (.astore 5, 2) := by decide +kernel
theorem dX6_ship_7 : decode cX6_ship 7 = .ok (.aload_n 0, 1) := by decide +kernel
theorem dX6_ship_8 : decode cX6_ship 8 = .ok (.iload_n 2, 1) := by decide +kernel
theorem dX6_ship_9 : decode cX6_ship 9 = .ok (.invokevirtual 80, 3) := by decide +kernel
theorem dX6_ship_12 : decode cX6_ship 12 = .ok (.astore 6, 2) := by decide +kernel
theorem dX6_ship_14 : decode cX6_ship 14 = .ok (.iload_n 3, 1) := by decide +kernel
theorem dX6_ship_15 : decode cX6_ship 15 = .ok (.iconst 1, 1) := by decide +kernel
theorem dX6_ship_16 : decode cX6_ship 16 = .ok (.if_icmp .lt 14, 3) := by decide +kernel
theorem dX6_ship_19 : decode cX6_ship 19 = .ok (.iload 4, 2) := by decide +kernel
theorem dX6_ship_21 : decode cX6_ship 21 = .ok (.iconst 1, 1) := by decide +kernel
theorem dX6_ship_22 : decode cX6_ship 22 = .ok (.bipush 60, 2) := by decide +kernel
theorem dX6_ship_24 : decode cX6_ship 24 = .ok (.invokestatic 51, 3) := by decide +kernel
theorem dX6_ship_27 : decode cX6_ship 27 = .ok (.ifCond .ne 13, 3) := by decide +kernel
theorem dX6_ship_30 : decode cX6_ship 30 = .ok (.new 55, 3) := by decide +kernel
theorem dX6_ship_33 : decode cX6_ship 33 = .ok (.dup, 1) := by decide +kernel
theorem dX6_ship_34 : decode cX6_ship 34 = .ok (.ldc 239, 2) := by decide +kernel
theorem dX6_ship_36 : decode cX6_ship 36 = .ok (.invokespecial 59, 3) := by decide +kernel
theorem dX6_ship_39 : decode cX6_ship 39 = .ok (.athrow, 1) := by decide +kernel
theorem dX6_ship_40 : decode cX6_ship 40 = .ok (.aload 5, 2) := by decide +kernel
theorem dX6_ship_42 : decode cX6_ship 42 = .ok (.getfield 122, 3) := by decide +kernel
theorem dX6_ship_45 : decode cX6_ship 45 = .ok (.aload 6, 2) := by decide +kernel
theorem dX6_ship_47 : decode cX6_ship 47 = .ok (.getfield 122, 3) := by decide +kernel
theorem dX6_ship_50 : decode cX6_ship 50 = .ok (.if_icmp .eq 24, 3) := by decide +kernel
theorem dX6_ship_53 : decode cX6_ship 53 = .ok (.aload 5, 2) := by decide +kernel
theorem dX6_ship_55 : decode cX6_ship 55 = .ok (.iload_n 3, 1) := by decide +kernel
theorem dX6_ship_56 : decode cX6_ship 56 = .ok (.invokevirtual 125, 3) := by decide +kernel
theorem dX6_ship_59 : decode cX6_ship 59 = .ok (.ifCond .eq 15, 3) := by decide +kernel
theorem dX6_ship_62 : decode cX6_ship 62 = .ok (.aload_n 0, 1) := by decide +kernel
theorem dX6_ship_63 : decode cX6_ship 63 = .ok (.getfield 16, 3) := by decide +kernel
theorem dX6_ship_66 : decode cX6_ship 66 = .ok (.invokevirtual 60, 3) := by decide +kernel
theorem dX6_ship_69 : decode cX6_ship 69 = .ok (.bipush 30, 2) := by decide +kernel
theorem dX6_ship_71 : decode cX6_ship 71 = .ok (.if_icmp .lt 13, 3) := by decide +kernel
theorem dX6_ship_74 : decode cX6_ship 74 = .ok (.new 64, 3) := by decide +kernel
theorem dX6_ship_77 : decode cX6_ship 77 = .ok (.dup, 1) := by decide +kernel
theorem dX6_ship_78 : decode cX6_ship 78 = .ok (.ldc 241, 2) := by decide +kernel
theorem dX6_ship_80 : decode cX6_ship 80 = .ok (.invokespecial 68, 3) := by decide +kernel
theorem dX6_ship_83 : decode cX6_ship 83 = .ok (.athrow, 1) := by decide +kernel
theorem dX6_ship_84 : decode cX6_ship 84 = .ok (.aload_n 0, 1) := by decide +kernel
theorem dX6_ship_85 : decode cX6_ship 85 = .ok (.getfield 236, 3) := by decide +kernel
theorem dX6_ship_88 : decode cX6_ship 88 = .ok (.aload_n 0, 1) := by decide +kernel
theorem dX6_ship_89 : decode cX6_ship 89 = .ok (.getfield 29, 3) := by decide +kernel
theorem dX6_ship_92 : decode cX6_ship 92 = .ok (.aload_n 0, 1) := by decide +kernel
theorem dX6_ship_93 : decode cX6_ship 93 = .ok (.invokevirtual 228, 3) := by decide +kernel
theorem dX6_ship_96 : decode cX6_ship 96 = .ok (.aload 5, 2) := by decide +kernel
theorem dX6_ship_98 : decode cX6_ship 98 = .ok (.iload_n 3, 1) := by decide +kernel
theorem dX6_ship_99 : decode cX6_ship 99 = .ok (.invokevirtual 163, 3) := by decide +kernel
theorem dX6_ship_102 : decode cX6_ship 102 = .ok (.iadd, 1) := by decide +kernel
theorem dX6_ship_103 : decode cX6_ship 103 = .ok (.invokevirtual 231, 3) := by decide +kernel
theorem dX6_ship_106 : decode cX6_ship 106 = .ok (.if_icmp .ge 13, 3) := by decide +kernel
theorem dX6_ship_109 : decode cX6_ship 109 = .ok (.new 64, 3) := by decide +kernel
theorem dX6_ship_112 : decode cX6_ship 112 = .ok (.dup, 1) := by decide +kernel
theorem dX6_ship_113 : decode cX6_ship 113 = .ok (.ldc 243, 2) := by decide +kernel
theorem dX6_ship_115 : decode cX6_ship 115 = .ok (.invokespecial 68, 3) := by decide +kernel
theorem dX6_ship_118 : decode cX6_ship 118 = .ok (.athrow, 1) := by decide +kernel
theorem dX6_ship_119 : decode cX6_ship 119 = .ok (.aload_n 0, 1) := by decide +kernel
theorem dX6_ship_120 : decode cX6_ship 120 = .ok (.getfield 16, 3) := by decide +kernel
theorem dX6_ship_123 : decode cX6_ship 123 = .ok (.new 245, 3) := by decide +kernel
theorem dX6_ship_126 : decode cX6_ship 126 = .ok (.dup, 1) := by decide +kernel
theorem dX6_ship_127 : decode cX6_ship 127 = .ok (.aload 6, 2) := by decide +kernel
theorem dX6_ship_129 : decode cX6_ship 129 = .ok (.iload_n 3, 1) := by decide +kernel
theorem dX6_ship_130 : decode cX6_ship 130 = .ok (.aload 5, 2) := by decide +kernel
theorem dX6_ship_132 : decode cX6_ship 132 = .ok (.iload_n 3, 1) := by decide +kernel
theorem dX6_ship_133 : decode cX6_ship 133 = .ok (.invokevirtual 130, 3) := by decide +kernel
theorem dX6_ship_136 : decode cX6_ship 136 = .ok (.aload_n 0, 1) := by decide +kernel
theorem dX6_ship_137 : decode cX6_ship 137 = .ok (.getfield 216, 3) := by decide +kernel
theorem dX6_ship_140 : decode cX6_ship 140 = .ok (.iload 4, 2) := by decide +kernel
theorem dX6_ship_142 : decode cX6_ship 142 = .ok (.iadd, 1) := by decide +kernel
theorem dX6_ship_143 : decode cX6_ship 143 = .ok (.invokespecial 247, 3) := by decide +kernel
theorem dX6_ship_146 : decode cX6_ship 146 = .ok (.invokevirtual 74, 3) := by decide +kernel
theorem dX6_ship_149 : decode cX6_ship 149 = .ok (.pop, 1) := by decide +kernel
theorem dX6_ship_150 : decode cX6_ship 150 = .ok (.aload_n 0, 1) := by decide +kernel
theorem dX6_ship_151 : decode cX6_ship 151 = .ok (.getfield 16, 3) := by decide +kernel
theorem dX6_ship_154 : decode cX6_ship 154 = .ok (.invokevirtual 60, 3) := by decide +kernel
theorem dX6_ship_157 : decode cX6_ship 157 = .ok (.iconst 1, 1) := by decide +kernel
theorem dX6_ship_158 : decode cX6_ship 158 = .ok (.isub, 1) := by decide +kernel
theorem dX6_ship_159 : decode cX6_ship 159 = .ok (.ireturn, 1) := by decide +kernel
set_option maxRecDepth 20000 in
theorem ggX6_arrive_X6_movementOf : GoodIn wsX6_arrive wsX6_movementOf := goodIn_ca (goodIn_r _ [10, 11, 12, 13, 14, 15, 16, 17, 18, 19, 20, 21, 22, 23, 24, 25, 26, 27, 28, 29, 30, 31, 32, 33, 34, 35, 36, 37, 84, 85, 86, 87, 88, 89, 90, 91, 92, 93, 94, 95, 101, 102, 103] (by decide +kernel) (by decide +kernel)) (goodIn_sub (fun _ h => List.mem_cons_of_mem _ (List.mem_append_right _ h)) (by decide +kernel))
set_option maxRecDepth 20000 in
theorem gX6_arrive_X6_movementOf : GoodIn wsX6_arrive (wsV RX6 250 RX6 yX6_movementOf wsX6_movementOf) := goodIn_app (goodIn_of _ (by decide +kernel)) ggX6_arrive_X6_movementOf
set_option maxRecDepth 20000 in
theorem ggX6_arrive_X6_isWithin : GoodIn wsX6_arrive wsX6_isWithin := goodIn_r _ [40] (by decide +kernel) (by decide +kernel)
set_option maxRecDepth 20000 in
theorem gX6_arrive_X6_isWithin : GoodIn wsX6_arrive (va_wsS RX6 51 yX6_isWithin wsX6_isWithin) := goodIn_app (goodIn_of _ (by decide +kernel)) ggX6_arrive_X6_isWithin
set_option maxRecDepth 20000 in
theorem ggX6_arrive_X5_hasRoomFor : GoodIn wsX6_arrive wsX5_hasRoomFor := goodIn_r _ [45, 46, 47, 104, 105, 106, 107] (by decide +kernel) (by decide +kernel)
set_option maxRecDepth 20000 in
theorem gX6_arrive_X5_hasRoomFor : GoodIn wsX6_arrive (wsV RX6 88 RX5 yX5_hasRoomFor wsX5_hasRoomFor) := goodIn_app (goodIn_of _ (by decide +kernel)) ggX6_arrive_X5_hasRoomFor
set_option maxRecDepth 20000 in
theorem ggX6_arrive_X6_part : GoodIn wsX6_arrive wsX6_part := goodIn_r _ [50] (by decide +kernel) (by decide +kernel)
set_option maxRecDepth 20000 in
theorem gX6_arrive_X6_part : GoodIn wsX6_arrive (va_wsS RX6 103 yX6_part wsX6_part) := goodIn_app (goodIn_of _ (by decide +kernel)) ggX6_arrive_X6_part
set_option maxRecDepth 20000 in
theorem ggX6_arrive_X5_comeIn : GoodIn wsX6_arrive wsX5_comeIn := goodIn_r _ [54, 55, 47, 56, 57, 58, 59, 60, 61, 62, 49, 9, 50, 104, 105, 106, 107] (by decide +kernel) (by decide +kernel)
set_option maxRecDepth 20000 in
theorem gX6_arrive_X5_comeIn : GoodIn wsX6_arrive (wsV RX6 97 RX5 yX5_comeIn wsX5_comeIn) := goodIn_app (goodIn_of _ (by decide +kernel)) ggX6_arrive_X5_comeIn
set_option maxRecDepth 20000 in
theorem ggX6_arrive_X6_miss : GoodIn wsX6_arrive wsX6_miss := goodIn_r _ [66, 5, 67, 68, 69, 70, 71, 72, 73, 74, 75, 76, 77, 78, 49, 9, 50, 84, 85, 86, 87, 88, 89, 90, 91, 92, 93, 94, 95, 96, 97, 98, 99, 100, 108, 109, 110] (by decide +kernel) (by decide +kernel)
set_option maxRecDepth 20000 in
theorem gX6_arrive_X6_miss : GoodIn wsX6_arrive (wsV RX6 147 RX6 yX6_miss wsX6_miss) := goodIn_app (goodIn_of _ (by decide +kernel)) ggX6_arrive_X6_miss
theorem dX6_arrive_0 : decode cX6_arrive 0 = .ok (.aload_n 0, 1) := by decide +kernel
theorem dX6_arrive_1 : decode cX6_arrive 1 = .ok (.iload_n 1, 1) := by decide +kernel
theorem dX6_arrive_2 : decode cX6_arrive 2 = .ok (.invokevirtual 250, 3) := by decide +kernel
theorem dX6_arrive_5 : decode cX6_arrive 5 = .ok (.astore_n 3, 1) := by decide +kernel
theorem dX6_arrive_6 : decode cX6_arrive 6 = .ok (.iload_n 2, 1) := by decide +kernel
theorem dX6_arrive_7 : decode cX6_arrive 7 = .ok (.iconst 0, 1) := by decide +kernel
theorem dX6_arrive_8 : decode cX6_arrive 8 = .ok (.aload_n 3, 1) := by decide +kernel
theorem dX6_arrive_9 : decode cX6_arrive 9 = .ok (.getfield 254, 3) := by decide +kernel
theorem dX6_arrive_12 : decode cX6_arrive 12 = .ok (.invokestatic 51, 3) := by decide +kernel
theorem dX6_arrive_15 : decode cX6_arrive 15 = .ok (.ifCond .ne 13, 3) := by decide +kernel
theorem dX6_arrive_18 : decode cX6_arrive 18 = .ok (.new 55, 3) := by decide +kernel
theorem dX6_arrive_21 : decode cX6_arrive 21 = .ok (.dup, 1) := by decide +kernel
theorem dX6_arrive_22 : decode cX6_arrive 22 = .ok (.ldc 255, 2) := by decide +kernel
theorem dX6_arrive_24 : decode cX6_arrive 24 = .ok (.invokespecial 59, 3) := by decide +kernel
theorem dX6_arrive_27 : decode cX6_arrive 27 = .ok (.athrow, 1) := by decide +kernel
theorem dX6_arrive_28 : decode cX6_arrive 28 = .ok (.aload_n 3, 1) := by decide +kernel
theorem dX6_arrive_29 : decode cX6_arrive 29 = .ok (.getfield 257, 3) := by decide +kernel
theorem dX6_arrive_32 : decode cX6_arrive 32 = .ok (.ifCond .ne 14, 3) := by decide +kernel
theorem dX6_arrive_35 : decode cX6_arrive 35 = .ok (.aload_n 3, 1) := by decide +kernel
theorem dX6_arrive_36 : decode cX6_arrive 36 = .ok (.getfield 260, 3) := by decide +kernel
theorem dX6_arrive_39 : decode cX6_arrive 39 = .ok (.iload_n 2, 1) := by decide +kernel
theorem dX6_arrive_40 : decode cX6_arrive 40 = .ok (.invokevirtual 88, 3) := by decide +kernel
theorem dX6_arrive_43 : decode cX6_arrive 43 = .ok (.ifCond .ne 14, 3) := by decide +kernel
theorem dX6_arrive_46 : decode cX6_arrive 46 = .ok (.new 64, 3) := by decide +kernel
theorem dX6_arrive_49 : decode cX6_arrive 49 = .ok (.dup, 1) := by decide +kernel
theorem dX6_arrive_50 : decode cX6_arrive 50 = .ok (.ldc_w 264, 3) := by decide +kernel
theorem dX6_arrive_53 : decode cX6_arrive 53 = .ok (.invokespecial 68, 3) := by decide +kernel
theorem dX6_arrive_56 : decode cX6_arrive 56 = .ok (.athrow, 1) := by decide +kernel
theorem dX6_arrive_57 : decode cX6_arrive 57 = .ok (.aload_n 3, 1) := by decide +kernel
theorem dX6_arrive_58 : decode cX6_arrive 58 = .ok (.getfield 266, 3) := by decide +kernel
theorem dX6_arrive_61 : decode cX6_arrive 61 = .ok (.iload_n 2, 1) := by decide +kernel
theorem dX6_arrive_62 : decode cX6_arrive 62 = .ok (.aload_n 3, 1) := by decide +kernel
theorem dX6_arrive_63 : decode cX6_arrive 63 = .ok (.getfield 254, 3) := by decide +kernel
theorem dX6_arrive_66 : decode cX6_arrive 66 = .ok (.invokestatic 103, 3) := by decide +kernel
theorem dX6_arrive_69 : decode cX6_arrive 69 = .ok (.istore 4, 2) := by decide +kernel
theorem dX6_arrive_71 : decode cX6_arrive 71 = .ok (.aload_n 3, 1) := by decide +kernel
theorem dX6_arrive_72 : decode cX6_arrive 72 = .ok (.iconst 1, 1) := by decide +kernel
theorem dX6_arrive_73 : decode cX6_arrive 73 = .ok (.putfield 257, 3) := by decide +kernel
theorem dX6_arrive_76 : decode cX6_arrive 76 = .ok (.aload_n 3, 1) := by decide +kernel
theorem dX6_arrive_77 : decode cX6_arrive 77 = .ok (.getfield 260, 3) := by decide +kernel
theorem dX6_arrive_80 : decode cX6_arrive 80 = .ok (.iload_n 2, 1) := by decide +kernel
theorem dX6_arrive_81 : decode cX6_arrive 81 = .ok (.iload 4, 2) := by decide +kernel
theorem dX6_arrive_83 : decode cX6_arrive 83 = .ok (.invokevirtual 97, 3) := by decide +kernel
theorem dX6_arrive_86 : decode cX6_arrive 86 = .ok (.aload_n 3, 1) := by decide +kernel
theorem dX6_arrive_87 : decode cX6_arrive 87 = .ok (.getfield 266, 3) := by decide +kernel
theorem dX6_arrive_90 : decode cX6_arrive 90 = .ok (.iload 4, 2) := by decide +kernel
theorem dX6_arrive_92 : decode cX6_arrive 92 = .ok (.isub, 1) := by decide +kernel
theorem dX6_arrive_93 : decode cX6_arrive 93 = .ok (.istore 5, 2) := by decide +kernel
theorem dX6_arrive_95 : decode cX6_arrive 95 = .ok (.iload 5, 2) := by decide +kernel
theorem dX6_arrive_97 : decode cX6_arrive 97 = .ok (.aload_n 3, 1) := by decide +kernel
theorem dX6_arrive_98 : decode cX6_arrive 98 = .ok (.getfield 266, 3) := by decide +kernel
theorem dX6_arrive_101 : decode cX6_arrive 101 = .ok (.sipush 200, 3) := by decide +kernel
theorem dX6_arrive_104 : decode cX6_arrive 104 = .ok (.idiv, 1) := by decide +kernel
theorem dX6_arrive_105 : decode cX6_arrive 105 = .ok (.if_icmp .le 13, 3) := by decide +kernel
theorem dX6_arrive_108 : decode cX6_arrive 108 = .ok (.aload_n 0, 1) := by decide +kernel
theorem dX6_arrive_109 : decode cX6_arrive 109 = .ok (.iload 5, 2) := by decide +kernel
theorem dX6_arrive_111 : decode cX6_arrive 111 = .ok (.invokevirtual 147, 3) := by decide +kernel
theorem dX6_arrive_114 : decode cX6_arrive 114 = .ok (.pop, 1) := by decide +kernel
theorem dX6_arrive_115 : decode cX6_arrive 115 = .ok (.iload 5, 2) := by decide +kernel
theorem dX6_arrive_117 : decode cX6_arrive 117 = .ok (.ireturn, 1) := by decide +kernel
theorem dX6_arrive_118 : decode cX6_arrive 118 = .ok (.aload_n 0, 1) := by decide +kernel
theorem dX6_arrive_119 : decode cX6_arrive 119 = .ok (.getfield 36, 3) := by decide +kernel
theorem dX6_arrive_122 : decode cX6_arrive 122 = .ok (.dup, 1) := by decide +kernel
theorem dX6_arrive_123 : decode cX6_arrive 123 = .ok (.getfield 150, 3) := by decide +kernel
theorem dX6_arrive_126 : decode cX6_arrive 126 = .ok (.iload 5, 2) := by decide +kernel
theorem dX6_arrive_128 : decode cX6_arrive 128 = .ok (.iadd, 1) := by decide +kernel
theorem dX6_arrive_129 : decode cX6_arrive 129 = .ok (.putfield 150, 3) := by decide +kernel
theorem dX6_arrive_132 : decode cX6_arrive 132 = .ok (.iconst 0, 1) := by decide +kernel
theorem dX6_arrive_133 : decode cX6_arrive 133 = .ok (.ireturn, 1) := by decide +kernel
set_option maxRecDepth 20000 in
theorem ggX6_pass_X6_isWithin : GoodIn wsX6_pass wsX6_isWithin := goodIn_r _ [10] (by decide +kernel) (by decide +kernel)
set_option maxRecDepth 20000 in
theorem gX6_pass_X6_isWithin : GoodIn wsX6_pass (va_wsS RX6 51 yX6_isWithin wsX6_isWithin) := goodIn_app (goodIn_of _ (by decide +kernel)) ggX6_pass_X6_isWithin
set_option maxRecDepth 20000 in
theorem ggX6_pass_X6_beginDay : GoodIn wsX6_pass wsX6_beginDay := goodIn_r _ [14, 5, 6, 15, 16, 17, 18, 19, 20, 21, 22, 23, 24, 25, 9, 26, 27, 28, 29, 30, 31, 32, 33, 34, 35, 36, 37, 38, 39, 40, 41, 42, 43, 44, 45, 46, 47, 48, 49, 50, 51, 52, 53, 54, 55, 56, 57, 58, 59, 60, 61, 62, 63, 64, 65, 66, 67, 68, 69, 70, 71, 72, 73, 74, 75, 76, 77, 78, 79, 80, 81, 82, 83, 84, 85, 86, 87, 88, 89, 90, 91, 92, 93, 94, 95, 96, 97, 98, 99, 100, 101, 102, 103, 107, 108, 109, 104, 105, 106, 110, 111, 112, 113, 114, 115, 116, 117, 118, 119, 120, 121, 122, 123, 124, 125, 126] (by decide +kernel) (by decide +kernel)
set_option maxRecDepth 20000 in
theorem gX6_pass_X6_beginDay : GoodIn wsX6_pass (wsV RX6 271 RX6 yX6_beginDay wsX6_beginDay) := goodIn_app (goodIn_of _ (by decide +kernel)) ggX6_pass_X6_beginDay
theorem dX6_pass_0 : decode cX6_pass 0 = .ok (.iload_n 1, 1) := by decide +kernel
theorem dX6_pass_1 : decode cX6_pass 1 = .ok (.iconst 1, 1) := by decide +kernel
theorem dX6_pass_2 : decode cX6_pass 2 = .ok (.bipush 60, 2) := by decide +kernel
theorem dX6_pass_4 : decode cX6_pass 4 = .ok (.invokestatic 51, 3) := by decide +kernel
theorem dX6_pass_7 : decode cX6_pass 7 = .ok (.ifCond .ne 14, 3) := by decide +kernel
theorem dX6_pass_10 : decode cX6_pass 10 = .ok (.new 55, 3) := by decide +kernel
theorem dX6_pass_13 : decode cX6_pass 13 = .ok (.dup, 1) := by decide +kernel
theorem dX6_pass_14 : decode cX6_pass 14 = .ok (.ldc_w 267, 3) := by decide +kernel
theorem dX6_pass_17 : decode cX6_pass 17 = .ok (.invokespecial 59, 3) := by decide +kernel
theorem dX6_pass_20 : decode cX6_pass 20 = .ok (.athrow, 1) := by decide +kernel
theorem dX6_pass_21 : decode cX6_pass 21 = .ok (.aload_n 0, 1) := by decide +kernel
theorem dX6_pass_22 : decode cX6_pass 22 = .ok (.getfield 216, 3) := by decide +kernel
theorem dX6_pass_25 : decode cX6_pass 25 = .ok (.iload_n 1, 1) := by decide +kernel
theorem dX6_pass_26 : decode cX6_pass 26 = .ok (.iadd, 1) := by decide +kernel
theorem dX6_pass_27 : decode cX6_pass 27 = .ok (.sipush 900, 3) := by decide +kernel
theorem dX6_pass_30 : decode cX6_pass 30 = .ok (.if_icmp .le 14, 3) := by decide +kernel
theorem dX6_pass_33 : decode cX6_pass 33 = .ok (.new 64, 3) := by decide +kernel
theorem dX6_pass_36 : decode cX6_pass 36 = .ok (.dup, 1) := by decide +kernel
theorem dX6_pass_37 : decode cX6_pass 37 = .ok (.ldc_w 269, 3) := by decide +kernel
theorem dX6_pass_40 : decode cX6_pass 40 = .ok (.invokespecial 68, 3) := by decide +kernel
theorem dX6_pass_43 : decode cX6_pass 43 = .ok (.athrow, 1) := by decide +kernel
theorem dX6_pass_44 : decode cX6_pass 44 = .ok (.iconst 0, 1) := by decide +kernel
theorem dX6_pass_45 : decode cX6_pass 45 = .ok (.istore_n 2, 1) := by decide +kernel
theorem dX6_pass_46 : decode cX6_pass 46 = .ok (.iload_n 2, 1) := by decide +kernel
theorem dX6_pass_47 : decode cX6_pass 47 = .ok (.iload_n 1, 1) := by decide +kernel
theorem dX6_pass_48 : decode cX6_pass 48 = .ok (.if_icmp .ge 13, 3) := by decide +kernel
theorem dX6_pass_51 : decode cX6_pass 51 = .ok (.aload_n 0, 1) := by decide +kernel
theorem dX6_pass_52 : decode cX6_pass 52 = .ok (.invokevirtual 271, 3) := by decide +kernel
theorem dX6_pass_55 : decode cX6_pass 55 = .ok (.iinc 2 1, 3) := by decide +kernel
theorem dX6_pass_58 : decode cX6_pass 58 = .ok (.goto (-12), 3) := by decide +kernel
theorem dX6_pass_61 : decode cX6_pass 61 = .ok (.aload_n 0, 1) := by decide +kernel
theorem dX6_pass_62 : decode cX6_pass 62 = .ok (.getfield 29, 3) := by decide +kernel
theorem dX6_pass_65 : decode cX6_pass 65 = .ok (.getfield 205, 3) := by decide +kernel
theorem dX6_pass_68 : decode cX6_pass 68 = .ok (.ireturn, 1) := by decide +kernel
theorem dX6_day_0 : decode cX6_day 0 = .ok (.aload_n 0, 1) := by decide +kernel
theorem dX6_day_1 : decode cX6_day 1 = .ok (.getfield 216, 3) := by decide +kernel
theorem dX6_day_4 : decode cX6_day 4 = .ok (.ireturn, 1) := by decide +kernel
set_option maxRecDepth 20000 in
theorem ggX6_ofVessel_X6_vesselOf : GoodIn wsX6_ofVessel wsX6_vesselOf := goodIn_ca (goodIn_r _ [7, 1, 2, 8, 9, 10, 11, 12, 13, 14, 15, 16, 17, 18, 19, 20, 21, 22, 23, 24, 25, 26, 27, 28, 29, 30, 31, 32, 40, 41, 42, 43, 44, 45, 46, 47, 48, 49, 50, 51, 52, 53, 54] (by decide +kernel) (by decide +kernel)) (goodIn_sub (fun _ h => List.mem_cons_of_mem _ (List.mem_append_right _ h)) (by decide +kernel))
set_option maxRecDepth 20000 in
theorem gX6_ofVessel_X6_vesselOf : GoodIn wsX6_ofVessel (wsV RX6 80 RX6 yX6_vesselOf wsX6_vesselOf) := goodIn_app (goodIn_of _ (by decide +kernel)) ggX6_ofVessel_X6_vesselOf
set_option maxRecDepth 20000 in
theorem ggX6_ofVessel_X6_part : GoodIn wsX6_ofVessel wsX6_part := goodIn_r _ [35] (by decide +kernel) (by decide +kernel)
set_option maxRecDepth 20000 in
theorem gX6_ofVessel_X6_part : GoodIn wsX6_ofVessel (va_wsS RX6 103 yX6_part wsX6_part) := goodIn_app (goodIn_of _ (by decide +kernel)) ggX6_ofVessel_X6_part
theorem dX6_ofVessel_0 : decode cX6_ofVessel 0 = .ok (.aload_n 0, 1) := by decide +kernel
theorem dX6_ofVessel_1 : decode cX6_ofVessel 1 = .ok (.iload_n 1, 1) := by decide +kernel
theorem dX6_ofVessel_2 : decode cX6_ofVessel 2 = .ok (.invokevirtual 80, 3) := by decide +kernel
theorem dX6_ofVessel_5 : decode cX6_ofVessel 5 = .ok (.astore_n 3, 1) := by decide +kernel
theorem dX6_ofVessel_6 : decode cX6_ofVessel 6 = .ok (.iload_n 2, 1) := by decide +kernel
theorem dX6_ofVessel_7 : decode cX6_ofVessel 7 = .ok (.tableswitch 71 0 4 #[33, 38, 43, 56, 61], 33) := by decide +kernel
theorem dX6_ofVessel_40 : decode cX6_ofVessel 40 = .ok (.aload_n 3, 1) := by decide +kernel
theorem dX6_ofVessel_41 : decode cX6_ofVessel 41 = .ok (.getfield 133, 3) := by decide +kernel
theorem dX6_ofVessel_44 : decode cX6_ofVessel 44 = .ok (.ireturn, 1) := by decide +kernel
theorem dX6_ofVessel_45 : decode cX6_ofVessel 45 = .ok (.aload_n 3, 1) := by decide +kernel
theorem dX6_ofVessel_46 : decode cX6_ofVessel 46 = .ok (.getfield 144, 3) := by decide +kernel
theorem dX6_ofVessel_49 : decode cX6_ofVessel 49 = .ok (.ireturn, 1) := by decide +kernel
theorem dX6_ofVessel_50 : decode cX6_ofVessel 50 = .ok (.aload_n 3, 1) := by decide +kernel
theorem dX6_ofVessel_51 : decode cX6_ofVessel 51 = .ok (.getfield 144, 3) := by decide +kernel
theorem dX6_ofVessel_54 : decode cX6_ofVessel 54 = .ok (.iconst 1, 1) := by decide +kernel
theorem dX6_ofVessel_55 : decode cX6_ofVessel 55 = .ok (.aload_n 3, 1) := by decide +kernel
theorem dX6_ofVessel_56 : decode cX6_ofVessel 56 = .ok (.getfield 133, 3) := by decide +kernel
theorem dX6_ofVessel_59 : decode cX6_ofVessel 59 = .ok (.invokestatic 103, 3) := by decide +kernel
theorem dX6_ofVessel_62 : decode cX6_ofVessel 62 = .ok (.ireturn, 1) := by decide +kernel
theorem dX6_ofVessel_63 : decode cX6_ofVessel 63 = .ok (.aload_n 3, 1) := by decide +kernel
theorem dX6_ofVessel_64 : decode cX6_ofVessel 64 = .ok (.getfield 122, 3) := by decide +kernel
theorem dX6_ofVessel_67 : decode cX6_ofVessel 67 = .ok (.ireturn, 1) := by decide +kernel
theorem dX6_ofVessel_68 : decode cX6_ofVessel 68 = .ok (.aload_n 3, 1) := by decide +kernel
theorem dX6_ofVessel_69 : decode cX6_ofVessel 69 = .ok (.getfield 136, 3) := by decide +kernel
theorem dX6_ofVessel_72 : decode cX6_ofVessel 72 = .ok (.aload_n 3, 1) := by decide +kernel
theorem dX6_ofVessel_73 : decode cX6_ofVessel 73 = .ok (.getfield 133, 3) := by decide +kernel
theorem dX6_ofVessel_76 : decode cX6_ofVessel 76 = .ok (.isub, 1) := by decide +kernel
theorem dX6_ofVessel_77 : decode cX6_ofVessel 77 = .ok (.ireturn, 1) := by decide +kernel
theorem dX6_ofVessel_78 : decode cX6_ofVessel 78 = .ok (.new 44, 3) := by decide +kernel
theorem dX6_ofVessel_81 : decode cX6_ofVessel 81 = .ok (.dup, 1) := by decide +kernel
theorem dX6_ofVessel_82 : decode cX6_ofVessel 82 = .ok (.ldc_w 274, 3) := by decide +kernel
theorem dX6_ofVessel_85 : decode cX6_ofVessel 85 = .ok (.invokespecial 48, 3) := by decide +kernel
theorem dX6_ofVessel_88 : decode cX6_ofVessel 88 = .ok (.athrow, 1) := by decide +kernel
set_option maxRecDepth 20000 in
theorem ggX6_dropsAnew_X6_vesselOf : GoodIn wsX6_dropsAnew wsX6_vesselOf := goodIn_ca (goodIn_r _ [5, 6, 7, 8, 9, 10, 11, 12, 13, 14, 15, 16, 17, 18, 19, 20, 21, 22, 23, 24, 25, 26, 27, 28, 29, 30, 31, 32, 37, 38, 39, 40, 41, 42, 43, 44, 45, 46, 47, 48, 49, 50, 51] (by decide +kernel) (by decide +kernel)) (goodIn_sub (fun _ h => List.mem_cons_of_mem _ (List.mem_append_right _ h)) (by decide +kernel))
set_option maxRecDepth 20000 in
theorem gX6_dropsAnew_X6_vesselOf : GoodIn wsX6_dropsAnew (wsV RX6 80 RX6 yX6_vesselOf wsX6_vesselOf) := goodIn_app (goodIn_of _ (by decide +kernel)) ggX6_dropsAnew_X6_vesselOf
theorem dX6_dropsAnew_0 : decode cX6_dropsAnew 0 = .ok (.aload_n 0, 1) := by decide +kernel
theorem dX6_dropsAnew_1 : decode cX6_dropsAnew 1 = .ok (.iload_n 1, 1) := by decide +kernel
theorem dX6_dropsAnew_2 : decode cX6_dropsAnew 2 = .ok (.invokevirtual 80, 3) := by decide +kernel
theorem dX6_dropsAnew_5 : decode cX6_dropsAnew 5 = .ok (.getfield 144, 3) := by decide +kernel
theorem dX6_dropsAnew_8 : decode cX6_dropsAnew 8 = .ok (.ireturn, 1) := by decide +kernel
set_option maxRecDepth 20000 in
theorem ggX6_ofMovement_X6_movementOf : GoodIn wsX6_ofMovement wsX6_movementOf := goodIn_ca (goodIn_r _ [7, 1, 2, 8, 9, 10, 11, 12, 13, 14, 15, 16, 17, 18, 19, 20, 21, 22, 23, 24, 25, 26, 27, 28, 29, 30, 31, 32, 38, 39, 40, 41, 42, 43, 44, 45, 46, 47, 48, 49, 50, 51, 52] (by decide +kernel) (by decide +kernel)) (goodIn_sub (fun _ h => List.mem_cons_of_mem _ (List.mem_append_right _ h)) (by decide +kernel))
set_option maxRecDepth 20000 in
theorem gX6_ofMovement_X6_movementOf : GoodIn wsX6_ofMovement (wsV RX6 250 RX6 yX6_movementOf wsX6_movementOf) := goodIn_app (goodIn_of _ (by decide +kernel)) ggX6_ofMovement_X6_movementOf
theorem dX6_ofMovement_0 : decode cX6_ofMovement 0 = .ok (.aload_n 0, 1) := by decide +kernel
theorem dX6_ofMovement_1 : decode cX6_ofMovement 1 = .ok (.iload_n 1, 1) := by decide +kernel
theorem dX6_ofMovement_2 : decode cX6_ofMovement 2 = .ok (.invokevirtual 250, 3) := by decide +kernel
theorem dX6_ofMovement_5 : decode cX6_ofMovement 5 = .ok (.astore_n 3, 1) := by decide +kernel
theorem dX6_ofMovement_6 : decode cX6_ofMovement 6 = .ok (.iload_n 2, 1) := by decide +kernel
theorem dX6_ofMovement_7 : decode cX6_ofMovement 7 = .ok (.tableswitch 49 0 3 #[29, 34, 39, 44], 29) := by decide +kernel
theorem dX6_ofMovement_36 : decode cX6_ofMovement 36 = .ok (.aload_n 3, 1) := by decide +kernel
theorem dX6_ofMovement_37 : decode cX6_ofMovement 37 = .ok (.getfield 257, 3) := by decide +kernel
theorem dX6_ofMovement_40 : decode cX6_ofMovement 40 = .ok (.ireturn, 1) := by decide +kernel
theorem dX6_ofMovement_41 : decode cX6_ofMovement 41 = .ok (.aload_n 3, 1) := by decide +kernel
theorem dX6_ofMovement_42 : decode cX6_ofMovement 42 = .ok (.getfield 254, 3) := by decide +kernel
theorem dX6_ofMovement_45 : decode cX6_ofMovement 45 = .ok (.ireturn, 1) := by decide +kernel
theorem dX6_ofMovement_46 : decode cX6_ofMovement 46 = .ok (.aload_n 3, 1) := by decide +kernel
theorem dX6_ofMovement_47 : decode cX6_ofMovement 47 = .ok (.getfield 266, 3) := by decide +kernel
theorem dX6_ofMovement_50 : decode cX6_ofMovement 50 = .ok (.ireturn, 1) := by decide +kernel
theorem dX6_ofMovement_51 : decode cX6_ofMovement 51 = .ok (.aload_n 3, 1) := by decide +kernel
theorem dX6_ofMovement_52 : decode cX6_ofMovement 52 = .ok (.getfield 276, 3) := by decide +kernel
theorem dX6_ofMovement_55 : decode cX6_ofMovement 55 = .ok (.ireturn, 1) := by decide +kernel
theorem dX6_ofMovement_56 : decode cX6_ofMovement 56 = .ok (.new 44, 3) := by decide +kernel
theorem dX6_ofMovement_59 : decode cX6_ofMovement 59 = .ok (.dup, 1) := by decide +kernel
theorem dX6_ofMovement_60 : decode cX6_ofMovement 60 = .ok (.ldc_w 274, 3) := by decide +kernel
theorem dX6_ofMovement_63 : decode cX6_ofMovement 63 = .ok (.invokespecial 48, 3) := by decide +kernel
theorem dX6_ofMovement_66 : decode cX6_ofMovement 66 = .ok (.athrow, 1) := by decide +kernel
set_option maxRecDepth 20000 in
theorem ggX6_ledger_X6_dropsInVessels : GoodIn wsX6_ledger wsX6_dropsInVessels := goodIn_r _ [8, 9, 10, 11, 12, 13, 14, 15, 16, 17, 18, 19, 20, 21, 22, 23, 24, 25, 26, 27, 28, 29, 30, 31, 32, 33, 46, 47, 48, 49, 50, 51, 52, 53, 54, 55, 56, 57, 63, 64, 65, 66, 67, 68, 69] (by decide +kernel) (by decide +kernel)
set_option maxRecDepth 20000 in
theorem gX6_ledger_X6_dropsInVessels : GoodIn wsX6_ledger (wsV RX6 279 RX6 yX6_dropsInVessels wsX6_dropsInVessels) := goodIn_app (goodIn_of _ (by decide +kernel)) ggX6_ledger_X6_dropsInVessels
set_option maxRecDepth 20000 in
theorem ggX6_ledger_X6_dropsThatMove : GoodIn wsX6_ledger wsX6_dropsThatMove := goodIn_r _ [37, 38, 39, 11, 12, 13, 14, 15, 16, 17, 18, 19, 20, 21, 22, 23, 24, 25, 26, 27, 28, 29, 30, 31, 32, 33, 46, 47, 48, 49, 50, 51, 52, 53, 54, 55, 56, 57, 70, 71, 72, 73, 74, 67, 68, 69] (by decide +kernel) (by decide +kernel)
set_option maxRecDepth 20000 in
theorem gX6_ledger_X6_dropsThatMove : GoodIn wsX6_ledger (wsV RX6 228 RX6 yX6_dropsThatMove wsX6_dropsThatMove) := goodIn_app (goodIn_of _ (by decide +kernel)) ggX6_ledger_X6_dropsThatMove
set_option maxRecDepth 20000 in
theorem ggX6_ledger_X6_dropsInLots : GoodIn wsX6_ledger wsX6_dropsInLots := goodIn_r _ [43, 44, 45, 11, 12, 13, 14, 15, 16, 17, 18, 19, 20, 21, 22, 23, 24, 25, 26, 27, 28, 29, 30, 31, 32, 33, 46, 47, 48, 49, 50, 51, 52, 53, 54, 55, 56, 57, 75, 76, 67, 68, 69] (by decide +kernel) (by decide +kernel)
set_option maxRecDepth 20000 in
theorem gX6_ledger_X6_dropsInLots : GoodIn wsX6_ledger (wsV RX6 189 RX6 yX6_dropsInLots wsX6_dropsInLots) := goodIn_app (goodIn_of _ (by decide +kernel)) ggX6_ledger_X6_dropsInLots
theorem dX6_ledger_0 : decode cX6_ledger 0 = .ok (.iload_n 1, 1) := by decide +kernel
theorem dX6_ledger_1 : decode cX6_ledger 1 = .ok (.tableswitch 102 0 7 #[47, 55, 60, 65, 70, 78, 86, 94], 47) := by decide +kernel
theorem dX6_ledger_48 : decode cX6_ledger 48 = .ok (.aload_n 0, 1) := by decide +kernel
theorem dX6_ledger_49 : decode cX6_ledger 49 = .ok (.getfield 36, 3) := by decide +kernel
theorem dX6_ledger_52 : decode cX6_ledger 52 = .ok (.getfield 100, 3) := by decide +kernel
theorem dX6_ledger_55 : decode cX6_ledger 55 = .ok (.ireturn, 1) := by decide +kernel
theorem dX6_ledger_56 : decode cX6_ledger 56 = .ok (.aload_n 0, 1) := by decide +kernel
theorem dX6_ledger_57 : decode cX6_ledger 57 = .ok (.invokevirtual 279, 3) := by decide +kernel
theorem dX6_ledger_60 : decode cX6_ledger 60 = .ok (.ireturn, 1) := by decide +kernel
theorem dX6_ledger_61 : decode cX6_ledger 61 = .ok (.aload_n 0, 1) := by decide +kernel
theorem dX6_ledger_62 : decode cX6_ledger 62 = .ok (.invokevirtual 228, 3) := by decide +kernel
theorem dX6_ledger_65 : decode cX6_ledger 65 = .ok (.ireturn, 1) := by decide +kernel
theorem dX6_ledger_66 : decode cX6_ledger 66 = .ok (.aload_n 0, 1) := by decide +kernel
theorem dX6_ledger_67 : decode cX6_ledger 67 = .ok (.invokevirtual 189, 3) := by decide +kernel
theorem dX6_ledger_70 : decode cX6_ledger 70 = .ok (.ireturn, 1) := by decide +kernel
theorem dX6_ledger_71 : decode cX6_ledger 71 = .ok (.aload_n 0, 1) := by decide +kernel
theorem dX6_ledger_72 : decode cX6_ledger 72 = .ok (.getfield 36, 3) := by decide +kernel
theorem dX6_ledger_75 : decode cX6_ledger 75 = .ok (.getfield 150, 3) := by decide +kernel
theorem dX6_ledger_78 : decode cX6_ledger 78 = .ok (.ireturn, 1) := by decide +kernel
theorem dX6_ledger_79 : decode cX6_ledger 79 = .ok (.aload_n 0, 1) := by decide +kernel
theorem dX6_ledger_80 : decode cX6_ledger 80 = .ok (.getfield 36, 3) := by decide +kernel
theorem dX6_ledger_83 : decode cX6_ledger 83 = .ok (.getfield 282, 3) := by decide +kernel
theorem dX6_ledger_86 : decode cX6_ledger 86 = .ok (.ireturn, 1) := by decide +kernel
theorem dX6_ledger_87 : decode cX6_ledger 87 = .ok (.aload_n 0, 1) := by decide +kernel
theorem dX6_ledger_88 : decode cX6_ledger 88 = .ok (.getfield 36, 3) := by decide +kernel
theorem dX6_ledger_91 : decode cX6_ledger 91 = .ok (.getfield 208, 3) := by decide +kernel
theorem dX6_ledger_94 : decode cX6_ledger 94 = .ok (.ireturn, 1) := by decide +kernel
theorem dX6_ledger_95 : decode cX6_ledger 95 = .ok (.aload_n 0, 1) := by decide +kernel
theorem dX6_ledger_96 : decode cX6_ledger 96 = .ok (.getfield 36, 3) := by decide +kernel
theorem dX6_ledger_99 : decode cX6_ledger 99 = .ok (.getfield 113, 3) := by decide +kernel
theorem dX6_ledger_102 : decode cX6_ledger 102 = .ok (.ireturn, 1) := by decide +kernel
theorem dX6_ledger_103 : decode cX6_ledger 103 = .ok (.new 55, 3) := by decide +kernel
theorem dX6_ledger_106 : decode cX6_ledger 106 = .ok (.dup, 1) := by decide +kernel
theorem dX6_ledger_107 : decode cX6_ledger 107 = .ok (.ldc_w 274, 3) := by decide +kernel
theorem dX6_ledger_110 : decode cX6_ledger 110 = .ok (.invokespecial 59, 3) := by decide +kernel
theorem dX6_ledger_113 : decode cX6_ledger 113 = .ok (.athrow, 1) := by decide +kernel
set_option maxRecDepth 20000 in
theorem ggX6_duty_X6_dropsThatMove : GoodIn wsX6_duty wsX6_dropsThatMove := goodIn_r _ [11, 12, 13, 14, 15, 16, 17, 18, 19, 20, 21, 22, 23, 24, 25, 26, 27, 28, 29, 30, 31, 32, 33, 34, 35, 36, 45, 46, 47, 48, 49, 50, 51, 52, 53, 54, 55, 56, 63, 64, 65, 66, 67, 68, 69, 70] (by decide +kernel) (by decide +kernel)
set_option maxRecDepth 20000 in
theorem gX6_duty_X6_dropsThatMove : GoodIn wsX6_duty (wsV RX6 228 RX6 yX6_dropsThatMove wsX6_dropsThatMove) := goodIn_app (goodIn_of _ (by decide +kernel)) ggX6_duty_X6_dropsThatMove
set_option maxRecDepth 20000 in
theorem ggX6_duty_X1_dutyFor : GoodIn wsX6_duty wsX1_dutyFor := goodIn_r _ [41, 42, 43, 10, 44, 57, 58, 59] (by decide +kernel) (by decide +kernel)
set_option maxRecDepth 20000 in
theorem gX6_duty_X1_dutyFor : GoodIn wsX6_duty (wsV RX6 231 RX1 yX1_dutyFor wsX1_dutyFor) := goodIn_app (goodIn_of _ (by decide +kernel)) ggX6_duty_X1_dutyFor
theorem dX6_duty_0 : decode cX6_duty 0 = .ok (.iload_n 1, 1) := by decide +kernel
theorem dX6_duty_1 : decode cX6_duty 1 = .ok (.tableswitch 104 0 5 #[39, 47, 55, 74, 82, 87], 39) := by decide +kernel
theorem dX6_duty_40 : decode cX6_duty 40 = .ok (.aload_n 0, 1) := by decide +kernel
theorem dX6_duty_41 : decode cX6_duty 41 = .ok (.getfield 29, 3) := by decide +kernel
theorem dX6_duty_44 : decode cX6_duty 44 = .ok (.getfield 205, 3) := by decide +kernel
theorem dX6_duty_47 : decode cX6_duty 47 = .ok (.ireturn, 1) := by decide +kernel
theorem dX6_duty_48 : decode cX6_duty 48 = .ok (.aload_n 0, 1) := by decide +kernel
theorem dX6_duty_49 : decode cX6_duty 49 = .ok (.getfield 29, 3) := by decide +kernel
theorem dX6_duty_52 : decode cX6_duty 52 = .ok (.getfield 285, 3) := by decide +kernel
theorem dX6_duty_55 : decode cX6_duty 55 = .ok (.ireturn, 1) := by decide +kernel
theorem dX6_duty_56 : decode cX6_duty 56 = .ok (.aload_n 0, 1) := by decide +kernel
theorem dX6_duty_57 : decode cX6_duty 57 = .ok (.getfield 159, 3) := by decide +kernel
theorem dX6_duty_60 : decode cX6_duty 60 = .ok (.ifnonnull 7, 3) := by decide +kernel
theorem dX6_duty_63 : decode cX6_duty 63 = .ok (.iconst (-1), 1) := by decide +kernel
theorem dX6_duty_64 : decode cX6_duty 64 = .ok (.goto 10, 3) := by decide +kernel
theorem dX6_duty_67 : decode cX6_duty 67 = .ok (.aload_n 0, 1) := by decide +kernel
theorem dX6_duty_68 : decode cX6_duty 68 = .ok (.getfield 159, 3) := by decide +kernel
theorem dX6_duty_71 : decode cX6_duty 71 = .ok (.getfield 166, 3) := by decide +kernel
theorem dX6_duty_74 : decode cX6_duty 74 = .ok (.ireturn, 1) := by decide +kernel
theorem dX6_duty_75 : decode cX6_duty 75 = .ok (.aload_n 0, 1) := by decide +kernel
theorem dX6_duty_76 : decode cX6_duty 76 = .ok (.getfield 29, 3) := by decide +kernel
theorem dX6_duty_79 : decode cX6_duty 79 = .ok (.getfield 288, 3) := by decide +kernel
theorem dX6_duty_82 : decode cX6_duty 82 = .ok (.ireturn, 1) := by decide +kernel
theorem dX6_duty_83 : decode cX6_duty 83 = .ok (.aload_n 0, 1) := by decide +kernel
theorem dX6_duty_84 : decode cX6_duty 84 = .ok (.getfield 182, 3) := by decide +kernel
theorem dX6_duty_87 : decode cX6_duty 87 = .ok (.ireturn, 1) := by decide +kernel
theorem dX6_duty_88 : decode cX6_duty 88 = .ok (.aload_n 0, 1) := by decide +kernel
theorem dX6_duty_89 : decode cX6_duty 89 = .ok (.getfield 236, 3) := by decide +kernel
theorem dX6_duty_92 : decode cX6_duty 92 = .ok (.aload_n 0, 1) := by decide +kernel
theorem dX6_duty_93 : decode cX6_duty 93 = .ok (.getfield 29, 3) := by decide +kernel
theorem dX6_duty_96 : decode cX6_duty 96 = .ok (.aload_n 0, 1) := by decide +kernel
theorem dX6_duty_97 : decode cX6_duty 97 = .ok (.invokevirtual 228, 3) := by decide +kernel
theorem dX6_duty_100 : decode cX6_duty 100 = .ok (.invokevirtual 231, 3) := by decide +kernel
theorem dX6_duty_103 : decode cX6_duty 103 = .ok (.isub, 1) := by decide +kernel
theorem dX6_duty_104 : decode cX6_duty 104 = .ok (.ireturn, 1) := by decide +kernel
theorem dX6_duty_105 : decode cX6_duty 105 = .ok (.new 55, 3) := by decide +kernel
theorem dX6_duty_108 : decode cX6_duty 108 = .ok (.dup, 1) := by decide +kernel
theorem dX6_duty_109 : decode cX6_duty 109 = .ok (.ldc_w 274, 3) := by decide +kernel
theorem dX6_duty_112 : decode cX6_duty 112 = .ok (.invokespecial 59, 3) := by decide +kernel
theorem dX6_duty_115 : decode cX6_duty 115 = .ok (.athrow, 1) := by decide +kernel
theorem dX6_isWithin_0 : decode cX6_isWithin 0 = .ok (.iload_n 0, 1) := by decide +kernel
theorem dX6_isWithin_1 : decode cX6_isWithin 1 = .ok (.iload_n 1, 1) := by decide +kernel
theorem dX6_isWithin_2 : decode cX6_isWithin 2 = .ok (.if_icmp .lt 12, 3) := by decide +kernel
theorem dX6_isWithin_5 : decode cX6_isWithin 5 = .ok (.iload_n 0, 1) := by decide +kernel
theorem dX6_isWithin_6 : decode cX6_isWithin 6 = .ok (.iload_n 2, 1) := by decide +kernel
theorem dX6_isWithin_7 : decode cX6_isWithin 7 = .ok (.if_icmp .gt 7, 3) := by decide +kernel
theorem dX6_isWithin_10 : decode cX6_isWithin 10 = .ok (.iconst 1, 1) := by decide +kernel
theorem dX6_isWithin_11 : decode cX6_isWithin 11 = .ok (.goto 4, 3) := by decide +kernel
theorem dX6_isWithin_14 : decode cX6_isWithin 14 = .ok (.iconst 0, 1) := by decide +kernel
theorem dX6_isWithin_15 : decode cX6_isWithin 15 = .ok (.ireturn, 1) := by decide +kernel
theorem dX6_part_0 : decode cX6_part 0 = .ok (.iload_n 2, 1) := by decide +kernel
theorem dX6_part_1 : decode cX6_part 1 = .ok (.iconst 1, 1) := by decide +kernel
theorem dX6_part_2 : decode cX6_part 2 = .ok (.if_icmp .ge 7, 3) := by decide +kernel
theorem dX6_part_5 : decode cX6_part 5 = .ok (.iconst 0, 1) := by decide +kernel
theorem dX6_part_6 : decode cX6_part 6 = .ok (.goto 12, 3) := by decide +kernel
theorem dX6_part_9 : decode cX6_part 9 = .ok (.iload_n 0, 1) := by decide +kernel
theorem dX6_part_10 : decode cX6_part 10 = .ok (.i2l, 1) := by decide +kernel
theorem dX6_part_11 : decode cX6_part 11 = .ok (.iload_n 1, 1) := by decide +kernel
theorem dX6_part_12 : decode cX6_part 12 = .ok (.i2l, 1) := by decide +kernel
theorem dX6_part_13 : decode cX6_part 13 = .ok (.lmul, 1) := by decide +kernel
theorem dX6_part_14 : decode cX6_part 14 = .ok (.iload_n 2, 1) := by decide +kernel
theorem dX6_part_15 : decode cX6_part 15 = .ok (.i2l, 1) := by decide +kernel
theorem dX6_part_16 : decode cX6_part 16 = .ok (.ldiv, 1) := by decide +kernel
theorem dX6_part_17 : decode cX6_part 17 = .ok (.l2i, 1) := by decide +kernel
theorem dX6_part_18 : decode cX6_part 18 = .ok (.ireturn, 1) := by decide +kernel
theorem dX6_isPlace_0 : decode cX6_isPlace 0 = .ok (.iload_n 1, 1) := by decide +kernel
theorem dX6_isPlace_1 : decode cX6_isPlace 1 = .ok (.ifCond .lt 16, 3) := by decide +kernel
theorem dX6_isPlace_4 : decode cX6_isPlace 4 = .ok (.iload_n 1, 1) := by decide +kernel
theorem dX6_isPlace_5 : decode cX6_isPlace 5 = .ok (.aload_n 0, 1) := by decide +kernel
theorem dX6_isPlace_6 : decode cX6_isPlace 6 = .ok (.getfield 22, 3) := by decide +kernel
theorem dX6_isPlace_9 : decode cX6_isPlace 9 = .ok (.arraylength, 1) := by decide +kernel
theorem dX6_isPlace_10 : decode cX6_isPlace 10 = .ok (.if_icmp .ge 7, 3) := by decide +kernel
theorem dX6_isPlace_13 : decode cX6_isPlace 13 = .ok (.iconst 1, 1) := by decide +kernel
theorem dX6_isPlace_14 : decode cX6_isPlace 14 = .ok (.goto 4, 3) := by decide +kernel
theorem dX6_isPlace_17 : decode cX6_isPlace 17 = .ok (.iconst 0, 1) := by decide +kernel
theorem dX6_isPlace_18 : decode cX6_isPlace 18 = .ok (.ireturn, 1) := by decide +kernel
set_option maxRecDepth 20000 in
theorem ggX6_vesselOf_Jx4a65c_size_8abf5 : GoodIn wsX6_vesselOf wsJx4a65c_size_8abf5 := goodIn_r _ [9, 10, 40, 41, 42] (by decide +kernel) (by decide +kernel)
set_option maxRecDepth 20000 in
theorem gX6_vesselOf_Jx4a65c_size_8abf5 : GoodIn wsX6_vesselOf (wsV RX6 60 RJx4a65c yJx4a65c_size_8abf5 wsJx4a65c_size_8abf5) := goodIn_app (goodIn_of _ (by decide +kernel)) ggX6_vesselOf_Jx4a65c_size_8abf5
set_option maxRecDepth 20000 in
theorem ggX6_vesselOf_Jx4a65c_get_915e3 : GoodIn wsX6_vesselOf wsJx4a65c_get_915e3 := goodIn_r _ [14, 10, 15, 16, 17, 18, 19, 20, 21, 22, 23, 24, 25, 8, 26, 27, 40, 41, 42] (by decide +kernel) (by decide +kernel)
set_option maxRecDepth 20000 in
theorem gX6_vesselOf_Jx4a65c_get_915e3 : GoodIn wsX6_vesselOf (wsV RX6 194 RJx4a65c yJx4a65c_get_915e3 wsJx4a65c_get_915e3) := goodIn_app (goodIn_of _ (by decide +kernel)) ggX6_vesselOf_Jx4a65c_get_915e3
theorem dX6_vesselOf_0 : decode cX6_vesselOf 0 = .ok (.iload_n 1, 1) := by decide +kernel
theorem dX6_vesselOf_1 : decode cX6_vesselOf 1 = .ok (.ifCond .lt 14, 3) := by decide +kernel
theorem dX6_vesselOf_4 : decode cX6_vesselOf 4 = .ok (.iload_n 1, 1) := by decide +kernel
theorem dX6_vesselOf_5 : decode cX6_vesselOf 5 = .ok (.aload_n 0, 1) := by decide +kernel
theorem dX6_vesselOf_6 : decode cX6_vesselOf 6 = .ok (.getfield 10, 3) := by decide +kernel
theorem dX6_vesselOf_9 : decode cX6_vesselOf 9 = .ok (.invokevirtual 60, 3) := by decide +kernel
theorem dX6_vesselOf_12 : decode cX6_vesselOf 12 = .ok (.if_icmp .lt 14, 3) := by decide +kernel
theorem dX6_vesselOf_15 : decode cX6_vesselOf 15 = .ok (.new 44, 3) := by decide +kernel
theorem dX6_vesselOf_18 : decode cX6_vesselOf 18 = .ok (.dup, 1) := by decide +kernel
theorem dX6_vesselOf_19 : decode cX6_vesselOf 19 = .ok (.ldc_w 291, 3) := by decide +kernel
theorem dX6_vesselOf_22 : decode cX6_vesselOf 22 = .ok (.invokespecial 48, 3) := by decide +kernel
theorem dX6_vesselOf_25 : decode cX6_vesselOf 25 = .ok (.athrow, 1) := by decide +kernel
theorem dX6_vesselOf_26 : decode cX6_vesselOf 26 = .ok (.aload_n 0, 1) := by decide +kernel
theorem dX6_vesselOf_27 : decode cX6_vesselOf 27 = .ok (.getfield 10, 3) := by decide +kernel
theorem dX6_vesselOf_30 : decode cX6_vesselOf 30 = .ok (.iload_n 1, 1) := by decide +kernel
theorem dX6_vesselOf_31 : decode cX6_vesselOf 31 = .ok (.invokevirtual 194, 3) := by decide +kernel
theorem dX6_vesselOf_34 : decode cX6_vesselOf 34 = .ok (.checkcast 69, 3) := by decide +kernel
theorem dX6_vesselOf_37 : decode cX6_vesselOf 37 = .ok (.areturn, 1) := by decide +kernel
set_option maxRecDepth 20000 in
theorem ggX6_movementOf_Jx4a65c_size_8abf5 : GoodIn wsX6_movementOf wsJx4a65c_size_8abf5 := goodIn_r _ [9, 10, 40, 41, 42] (by decide +kernel) (by decide +kernel)
set_option maxRecDepth 20000 in
theorem gX6_movementOf_Jx4a65c_size_8abf5 : GoodIn wsX6_movementOf (wsV RX6 60 RJx4a65c yJx4a65c_size_8abf5 wsJx4a65c_size_8abf5) := goodIn_app (goodIn_of _ (by decide +kernel)) ggX6_movementOf_Jx4a65c_size_8abf5
set_option maxRecDepth 20000 in
theorem ggX6_movementOf_Jx4a65c_get_915e3 : GoodIn wsX6_movementOf wsJx4a65c_get_915e3 := goodIn_r _ [14, 10, 15, 16, 17, 18, 19, 20, 21, 22, 23, 24, 25, 8, 26, 27, 40, 41, 42] (by decide +kernel) (by decide +kernel)
set_option maxRecDepth 20000 in
theorem gX6_movementOf_Jx4a65c_get_915e3 : GoodIn wsX6_movementOf (wsV RX6 194 RJx4a65c yJx4a65c_get_915e3 wsJx4a65c_get_915e3) := goodIn_app (goodIn_of _ (by decide +kernel)) ggX6_movementOf_Jx4a65c_get_915e3
theorem dX6_movementOf_0 : decode cX6_movementOf 0 = .ok (.iload_n 1, 1) := by decide +kernel
theorem dX6_movementOf_1 : decode cX6_movementOf 1 = .ok (.ifCond .lt 14, 3) := by decide +kernel
theorem dX6_movementOf_4 : decode cX6_movementOf 4 = .ok (.iload_n 1, 1) := by decide +kernel
theorem dX6_movementOf_5 : decode cX6_movementOf 5 = .ok (.aload_n 0, 1) := by decide +kernel
theorem dX6_movementOf_6 : decode cX6_movementOf 6 = .ok (.getfield 16, 3) := by decide +kernel
theorem dX6_movementOf_9 : decode cX6_movementOf 9 = .ok (.invokevirtual 60, 3) := by decide +kernel
theorem dX6_movementOf_12 : decode cX6_movementOf 12 = .ok (.if_icmp .lt 14, 3) := by decide +kernel
theorem dX6_movementOf_15 : decode cX6_movementOf 15 = .ok (.new 44, 3) := by decide +kernel
theorem dX6_movementOf_18 : decode cX6_movementOf 18 = .ok (.dup, 1) := by decide +kernel
theorem dX6_movementOf_19 : decode cX6_movementOf 19 = .ok (.ldc_w 293, 3) := by decide +kernel
theorem dX6_movementOf_22 : decode cX6_movementOf 22 = .ok (.invokespecial 48, 3) := by decide +kernel
theorem dX6_movementOf_25 : decode cX6_movementOf 25 = .ok (.athrow, 1) := by decide +kernel
theorem dX6_movementOf_26 : decode cX6_movementOf 26 = .ok (.aload_n 0, 1) := by decide +kernel
theorem dX6_movementOf_27 : decode cX6_movementOf 27 = .ok (.getfield 16, 3) := by decide +kernel
theorem dX6_movementOf_30 : decode cX6_movementOf 30 = .ok (.iload_n 1, 1) := by decide +kernel
theorem dX6_movementOf_31 : decode cX6_movementOf 31 = .ok (.invokevirtual 194, 3) := by decide +kernel
theorem dX6_movementOf_34 : decode cX6_movementOf 34 = .ok (.checkcast 245, 3) := by decide +kernel
theorem dX6_movementOf_37 : decode cX6_movementOf 37 = .ok (.areturn, 1) := by decide +kernel
set_option maxRecDepth 20000 in
theorem ggX6_dropsInVessels_Jx4a65c_size_8abf5 : GoodIn wsX6_dropsInVessels wsJx4a65c_size_8abf5 := goodIn_r _ [7, 8, 42, 43, 44] (by decide +kernel) (by decide +kernel)
set_option maxRecDepth 20000 in
theorem gX6_dropsInVessels_Jx4a65c_size_8abf5 : GoodIn wsX6_dropsInVessels (wsV RX6 60 RJx4a65c yJx4a65c_size_8abf5 wsJx4a65c_size_8abf5) := goodIn_app (goodIn_of _ (by decide +kernel)) ggX6_dropsInVessels_Jx4a65c_size_8abf5
set_option maxRecDepth 20000 in
theorem ggX6_dropsInVessels_Jx4a65c_get_915e3 : GoodIn wsX6_dropsInVessels wsJx4a65c_get_915e3 := goodIn_r _ [12, 8, 13, 14, 15, 16, 17, 18, 19, 20, 21, 22, 23, 6, 24, 25, 42, 43, 44] (by decide +kernel) (by decide +kernel)
set_option maxRecDepth 20000 in
theorem gX6_dropsInVessels_Jx4a65c_get_915e3 : GoodIn wsX6_dropsInVessels (wsV RX6 194 RJx4a65c yJx4a65c_get_915e3 wsJx4a65c_get_915e3) := goodIn_app (goodIn_of _ (by decide +kernel)) ggX6_dropsInVessels_Jx4a65c_get_915e3
theorem dX6_dropsInVessels_0 : decode cX6_dropsInVessels 0 = .ok (.iconst 0, 1) := by decide +kernel
theorem dX6_dropsInVessels_1 : decode cX6_dropsInVessels 1 = .ok (.istore_n 1, 1) := by decide +kernel
theorem dX6_dropsInVessels_2 : decode cX6_dropsInVessels 2 = .ok (.iconst 0, 1) := by decide +kernel
theorem dX6_dropsInVessels_3 : decode cX6_dropsInVessels 3 = .ok (.istore_n 2, 1) := by decide +kernel
theorem dX6_dropsInVessels_4 : decode cX6_dropsInVessels 4 = .ok (.iload_n 2, 1) := by decide +kernel
theorem dX6_dropsInVessels_5 : decode cX6_dropsInVessels 5 = .ok (.aload_n 0, 1) := by decide +kernel
theorem dX6_dropsInVessels_6 : decode cX6_dropsInVessels 6 = .ok (.getfield 10, 3) := by decide +kernel
theorem dX6_dropsInVessels_9 : decode cX6_dropsInVessels 9 = .ok (.invokevirtual 60, 3) := by decide +kernel
theorem dX6_dropsInVessels_12 : decode cX6_dropsInVessels 12 = .ok (.if_icmp .ge 26, 3) := by decide +kernel
theorem dX6_dropsInVessels_15 : decode cX6_dropsInVessels 15 = .ok (.iload_n 1, 1) := by decide +kernel
theorem dX6_dropsInVessels_16 : decode cX6_dropsInVessels 16 = .ok (.aload_n 0, 1) := by decide +kernel
theorem dX6_dropsInVessels_17 : decode cX6_dropsInVessels 17 = .ok (.getfield 10, 3) := by decide +kernel
theorem dX6_dropsInVessels_20 : decode cX6_dropsInVessels 20 = .ok (.iload_n 2, 1) := by decide +kernel
theorem dX6_dropsInVessels_21 : decode cX6_dropsInVessels 21 = .ok (.invokevirtual 194, 3) := by decide +kernel
theorem dX6_dropsInVessels_24 : decode cX6_dropsInVessels 24 = .ok (.checkcast 69, 3) := by decide +kernel
theorem dX6_dropsInVessels_27 : decode cX6_dropsInVessels 27 = .ok (.getfield 144, 3) := by decide +kernel
theorem dX6_dropsInVessels_30 : decode cX6_dropsInVessels 30 = .ok (.iadd, 1) := by decide +kernel
theorem dX6_dropsInVessels_31 : decode cX6_dropsInVessels 31 = .ok (.istore_n 1, 1) := by decide +kernel
theorem dX6_dropsInVessels_32 : decode cX6_dropsInVessels 32 = .ok (.iinc 2 1, 3) := by decide +kernel
theorem dX6_dropsInVessels_35 : decode cX6_dropsInVessels 35 = .ok (.goto (-31), 3) := by decide +kernel
theorem dX6_dropsInVessels_38 : decode cX6_dropsInVessels 38 = .ok (.iload_n 1, 1) := by decide +kernel
theorem dX6_dropsInVessels_39 : decode cX6_dropsInVessels 39 = .ok (.ireturn, 1) := by decide +kernel
set_option maxRecDepth 20000 in
theorem ggX6_dropsThatMove_Jx4a65c_size_8abf5 : GoodIn wsX6_dropsThatMove wsJx4a65c_size_8abf5 := goodIn_r _ [7, 8, 43, 44, 45] (by decide +kernel) (by decide +kernel)
set_option maxRecDepth 20000 in
theorem gX6_dropsThatMove_Jx4a65c_size_8abf5 : GoodIn wsX6_dropsThatMove (wsV RX6 60 RJx4a65c yJx4a65c_size_8abf5 wsJx4a65c_size_8abf5) := goodIn_app (goodIn_of _ (by decide +kernel)) ggX6_dropsThatMove_Jx4a65c_size_8abf5
set_option maxRecDepth 20000 in
theorem ggX6_dropsThatMove_Jx4a65c_get_915e3 : GoodIn wsX6_dropsThatMove wsJx4a65c_get_915e3 := goodIn_r _ [12, 8, 13, 14, 15, 16, 17, 18, 19, 20, 21, 22, 23, 6, 24, 25, 43, 44, 45] (by decide +kernel) (by decide +kernel)
set_option maxRecDepth 20000 in
theorem gX6_dropsThatMove_Jx4a65c_get_915e3 : GoodIn wsX6_dropsThatMove (wsV RX6 194 RJx4a65c yJx4a65c_get_915e3 wsJx4a65c_get_915e3) := goodIn_app (goodIn_of _ (by decide +kernel)) ggX6_dropsThatMove_Jx4a65c_get_915e3
theorem dX6_dropsThatMove_0 : decode cX6_dropsThatMove 0 = .ok (.iconst 0, 1) := by decide +kernel
theorem dX6_dropsThatMove_1 : decode cX6_dropsThatMove 1 = .ok (.istore_n 1, 1) := by decide +kernel
theorem dX6_dropsThatMove_2 : decode cX6_dropsThatMove 2 = .ok (.iconst 0, 1) := by decide +kernel
theorem dX6_dropsThatMove_3 : decode cX6_dropsThatMove 3 = .ok (.istore_n 2, 1) := by decide +kernel
theorem dX6_dropsThatMove_4 : decode cX6_dropsThatMove 4 = .ok (.iload_n 2, 1) := by decide +kernel
theorem dX6_dropsThatMove_5 : decode cX6_dropsThatMove 5 = .ok (.aload_n 0, 1) := by decide +kernel
theorem dX6_dropsThatMove_6 : decode cX6_dropsThatMove 6 = .ok (.getfield 16, 3) := by decide +kernel
theorem dX6_dropsThatMove_9 : decode cX6_dropsThatMove 9 = .ok (.invokevirtual 60, 3) := by decide +kernel
theorem dX6_dropsThatMove_12 : decode cX6_dropsThatMove 12 = .ok (.if_icmp .ge 39, 3) := by decide +kernel
theorem dX6_dropsThatMove_15 : decode cX6_dropsThatMove 15 = .ok (.aload_n 0, 1) := by decide +kernel
theorem dX6_dropsThatMove_16 : decode cX6_dropsThatMove 16 = .ok (.getfield 16, 3) := by decide +kernel
theorem dX6_dropsThatMove_19 : decode cX6_dropsThatMove 19 = .ok (.iload_n 2, 1) := by decide +kernel
theorem dX6_dropsThatMove_20 : decode cX6_dropsThatMove 20 = .ok (.invokevirtual 194, 3) := by decide +kernel
theorem dX6_dropsThatMove_23 : decode cX6_dropsThatMove 23 = .ok (.checkcast 245, 3) := by decide +kernel
theorem dX6_dropsThatMove_26 : decode cX6_dropsThatMove 26 = .ok (.astore_n 3, 1) := by decide +kernel
theorem dX6_dropsThatMove_27 : decode cX6_dropsThatMove 27 = .ok (.iload_n 1, 1) := by decide +kernel
theorem dX6_dropsThatMove_28 : decode cX6_dropsThatMove 28 = .ok (.aload_n 3, 1) := by decide +kernel
theorem dX6_dropsThatMove_29 : decode cX6_dropsThatMove 29 = .ok (.getfield 257, 3) := by decide +kernel
theorem dX6_dropsThatMove_32 : decode cX6_dropsThatMove 32 = .ok (.ifCond .ne 10, 3) := by decide +kernel
theorem dX6_dropsThatMove_35 : decode cX6_dropsThatMove 35 = .ok (.aload_n 3, 1) := by decide +kernel
theorem dX6_dropsThatMove_36 : decode cX6_dropsThatMove 36 = .ok (.getfield 266, 3) := by decide +kernel
theorem dX6_dropsThatMove_39 : decode cX6_dropsThatMove 39 = .ok (.goto 4, 3) := by decide +kernel
theorem dX6_dropsThatMove_42 : decode cX6_dropsThatMove 42 = .ok (.iconst 0, 1) := by decide +kernel
theorem dX6_dropsThatMove_43 : decode cX6_dropsThatMove 43 = .ok (.iadd, 1) := by decide +kernel
theorem dX6_dropsThatMove_44 : decode cX6_dropsThatMove 44 = .ok (.istore_n 1, 1) := by decide +kernel
theorem dX6_dropsThatMove_45 : decode cX6_dropsThatMove 45 = .ok (.iinc 2 1, 3) := by decide +kernel
theorem dX6_dropsThatMove_48 : decode cX6_dropsThatMove 48 = .ok (.goto (-44), 3) := by decide +kernel
theorem dX6_dropsThatMove_51 : decode cX6_dropsThatMove 51 = .ok (.iload_n 1, 1) := by decide +kernel
theorem dX6_dropsThatMove_52 : decode cX6_dropsThatMove 52 = .ok (.ireturn, 1) := by decide +kernel
set_option maxRecDepth 20000 in
theorem ggX6_dropsInLots_Jx4a65c_size_8abf5 : GoodIn wsX6_dropsInLots wsJx4a65c_size_8abf5 := goodIn_r _ [7, 8, 40, 41, 42] (by decide +kernel) (by decide +kernel)
set_option maxRecDepth 20000 in
theorem gX6_dropsInLots_Jx4a65c_size_8abf5 : GoodIn wsX6_dropsInLots (wsV RX6 60 RJx4a65c yJx4a65c_size_8abf5 wsJx4a65c_size_8abf5) := goodIn_app (goodIn_of _ (by decide +kernel)) ggX6_dropsInLots_Jx4a65c_size_8abf5
set_option maxRecDepth 20000 in
theorem ggX6_dropsInLots_Jx4a65c_get_915e3 : GoodIn wsX6_dropsInLots wsJx4a65c_get_915e3 := goodIn_r _ [12, 8, 13, 14, 15, 16, 17, 18, 19, 20, 21, 22, 23, 6, 24, 25, 40, 41, 42] (by decide +kernel) (by decide +kernel)
set_option maxRecDepth 20000 in
theorem gX6_dropsInLots_Jx4a65c_get_915e3 : GoodIn wsX6_dropsInLots (wsV RX6 194 RJx4a65c yJx4a65c_get_915e3 wsJx4a65c_get_915e3) := goodIn_app (goodIn_of _ (by decide +kernel)) ggX6_dropsInLots_Jx4a65c_get_915e3
theorem dX6_dropsInLots_0 : decode cX6_dropsInLots 0 = .ok (.iconst 0, 1) := by decide +kernel
theorem dX6_dropsInLots_1 : decode cX6_dropsInLots 1 = .ok (.istore_n 1, 1) := by decide +kernel
theorem dX6_dropsInLots_2 : decode cX6_dropsInLots 2 = .ok (.iconst 0, 1) := by decide +kernel
theorem dX6_dropsInLots_3 : decode cX6_dropsInLots 3 = .ok (.istore_n 2, 1) := by decide +kernel
theorem dX6_dropsInLots_4 : decode cX6_dropsInLots 4 = .ok (.iload_n 2, 1) := by decide +kernel
theorem dX6_dropsInLots_5 : decode cX6_dropsInLots 5 = .ok (.aload_n 0, 1) := by decide +kernel
theorem dX6_dropsInLots_6 : decode cX6_dropsInLots 6 = .ok (.getfield 19, 3) := by decide +kernel
theorem dX6_dropsInLots_9 : decode cX6_dropsInLots 9 = .ok (.invokevirtual 60, 3) := by decide +kernel
theorem dX6_dropsInLots_12 : decode cX6_dropsInLots 12 = .ok (.if_icmp .ge 26, 3) := by decide +kernel
theorem dX6_dropsInLots_15 : decode cX6_dropsInLots 15 = .ok (.iload_n 1, 1) := by decide +kernel
theorem dX6_dropsInLots_16 : decode cX6_dropsInLots 16 = .ok (.aload_n 0, 1) := by decide +kernel
theorem dX6_dropsInLots_17 : decode cX6_dropsInLots 17 = .ok (.getfield 19, 3) := by decide +kernel
theorem dX6_dropsInLots_20 : decode cX6_dropsInLots 20 = .ok (.iload_n 2, 1) := by decide +kernel
theorem dX6_dropsInLots_21 : decode cX6_dropsInLots 21 = .ok (.invokevirtual 194, 3) := by decide +kernel
theorem dX6_dropsInLots_24 : decode cX6_dropsInLots 24 = .ok (.checkcast 176, 3) := by decide +kernel
theorem dX6_dropsInLots_27 : decode cX6_dropsInLots 27 = .ok (.getfield 198, 3) := by decide +kernel
theorem dX6_dropsInLots_30 : decode cX6_dropsInLots 30 = .ok (.iadd, 1) := by decide +kernel
theorem dX6_dropsInLots_31 : decode cX6_dropsInLots 31 = .ok (.istore_n 1, 1) := by decide +kernel
theorem dX6_dropsInLots_32 : decode cX6_dropsInLots 32 = .ok (.iinc 2 1, 3) := by decide +kernel
theorem dX6_dropsInLots_35 : decode cX6_dropsInLots 35 = .ok (.goto (-31), 3) := by decide +kernel
theorem dX6_dropsInLots_38 : decode cX6_dropsInLots 38 = .ok (.iload_n 1, 1) := by decide +kernel
theorem dX6_dropsInLots_39 : decode cX6_dropsInLots 39 = .ok (.ireturn, 1) := by decide +kernel
set_option maxRecDepth 20000 in
theorem ggX6_miss_X1_chargeWhole : GoodIn wsX6_miss wsX1_chargeWhole := goodIn_r _ [7, 8, 9, 10, 11, 6, 12, 13, 14, 15, 16, 34, 35, 36] (by decide +kernel) (by decide +kernel)
set_option maxRecDepth 20000 in
theorem gX6_miss_X1_chargeWhole : GoodIn wsX6_miss (wsV RX6 116 RX1 yX1_chargeWhole wsX1_chargeWhole) := goodIn_app (goodIn_of _ (by decide +kernel)) ggX6_miss_X1_chargeWhole
theorem dX6_miss_0 : decode cX6_miss 0 = .ok (.aload_n 0, 1) := by decide +kernel
theorem dX6_miss_1 : decode cX6_miss 1 = .ok (.getfield 36, 3) := by decide +kernel
theorem dX6_miss_4 : decode cX6_miss 4 = .ok (.dup, 1) := by decide +kernel
theorem dX6_miss_5 : decode cX6_miss 5 = .ok (.getfield 282, 3) := by decide +kernel
theorem dX6_miss_8 : decode cX6_miss 8 = .ok (.iload_n 1, 1) := by decide +kernel
theorem dX6_miss_9 : decode cX6_miss 9 = .ok (.iadd, 1) := by decide +kernel
theorem dX6_miss_10 : decode cX6_miss 10 = .ok (.putfield 282, 3) := by decide +kernel
theorem dX6_miss_13 : decode cX6_miss 13 = .ok (.aload_n 0, 1) := by decide +kernel
theorem dX6_miss_14 : decode cX6_miss 14 = .ok (.getfield 29, 3) := by decide +kernel
theorem dX6_miss_17 : decode cX6_miss 17 = .ok (.iload_n 1, 1) := by decide +kernel
theorem dX6_miss_18 : decode cX6_miss 18 = .ok (.invokevirtual 116, 3) := by decide +kernel
theorem dX6_miss_21 : decode cX6_miss 21 = .ok (.ireturn, 1) := by decide +kernel
set_option maxRecDepth 20000 in
theorem ggX6_beginDay_X1_beginYear : GoodIn wsX6_beginDay wsX1_beginYear := goodIn_r _ [8, 9, 10, 96, 97, 98] (by decide +kernel) (by decide +kernel)
set_option maxRecDepth 20000 in
theorem gX6_beginDay_X1_beginYear : GoodIn wsX6_beginDay (wsV RX6 295 RX1 yX1_beginYear wsX1_beginYear) := goodIn_app (goodIn_of _ (by decide +kernel)) ggX6_beginDay_X1_beginYear
set_option maxRecDepth 20000 in
theorem ggX6_beginDay_X6_loseLateMovements : GoodIn wsX6_beginDay wsX6_loseLateMovements := goodIn_r _ [15, 16, 17, 1, 18, 19, 20, 21, 22, 23, 24, 25, 26, 27, 28, 29, 30, 31, 32, 33, 34, 35, 36, 37, 38, 39, 40, 41, 42, 43, 14, 44, 45, 2, 46, 47, 48, 7, 49, 50, 51, 52, 53, 54, 55, 56, 57, 81, 82, 83, 84, 85, 86, 87, 88, 89, 90, 91, 92, 99, 100, 101, 102, 103, 104, 105, 106, 107, 108, 109, 110, 111, 96, 97, 98] (by decide +kernel) (by decide +kernel)
set_option maxRecDepth 20000 in
theorem gX6_beginDay_X6_loseLateMovements : GoodIn wsX6_beginDay (wsV RX6 302 RX6 yX6_loseLateMovements wsX6_loseLateMovements) := goodIn_app (goodIn_of _ (by decide +kernel)) ggX6_beginDay_X6_loseLateMovements
set_option maxRecDepth 20000 in
theorem ggX6_beginDay_X6_takeShares : GoodIn wsX6_beginDay wsX6_takeShares := goodIn_r _ [61, 62, 63, 45, 64, 18, 19, 20, 21, 22, 23, 24, 25, 26, 27, 28, 29, 30, 31, 32, 33, 34, 35, 36, 37, 38, 39, 40, 65, 66, 67, 14, 68, 69, 70, 71, 72, 73, 74, 75, 76, 56, 57, 81, 82, 83, 84, 85, 86, 87, 88, 89, 90, 91, 92, 112, 113, 114, 115, 107, 108, 109, 110, 111, 104, 105, 106] (by decide +kernel) (by decide +kernel)
set_option maxRecDepth 20000 in
theorem gX6_beginDay_X6_takeShares : GoodIn wsX6_beginDay (wsV RX6 305 RX6 yX6_takeShares wsX6_takeShares) := goodIn_app (goodIn_of _ (by decide +kernel)) ggX6_beginDay_X6_takeShares
set_option maxRecDepth 20000 in
theorem ggX6_beginDay_X1_growOwed : GoodIn wsX6_beginDay wsX1_growOwed := goodIn_r _ [80, 50, 96, 97, 98] (by decide +kernel) (by decide +kernel)
set_option maxRecDepth 20000 in
theorem gX6_beginDay_X1_growOwed : GoodIn wsX6_beginDay (wsV RX6 308 RX1 yX1_growOwed wsX1_growOwed) := goodIn_app (goodIn_of _ (by decide +kernel)) ggX6_beginDay_X1_growOwed
theorem dX6_beginDay_0 : decode cX6_beginDay 0 = .ok (.aload_n 0, 1) := by decide +kernel
theorem dX6_beginDay_1 : decode cX6_beginDay 1 = .ok (.dup, 1) := by decide +kernel
theorem dX6_beginDay_2 : decode cX6_beginDay 2 = .ok (.getfield 216, 3) := by decide +kernel
theorem dX6_beginDay_5 : decode cX6_beginDay 5 = .ok (.iconst 1, 1) := by decide +kernel
theorem dX6_beginDay_6 : decode cX6_beginDay 6 = .ok (.iadd, 1) := by decide +kernel
theorem dX6_beginDay_7 : decode cX6_beginDay 7 = .ok (.putfield 216, 3) := by decide +kernel
theorem dX6_beginDay_10 : decode cX6_beginDay 10 = .ok (.aload_n 0, 1) := by decide +kernel
theorem dX6_beginDay_11 : decode cX6_beginDay 11 = .ok (.getfield 216, 3) := by decide +kernel
theorem dX6_beginDay_14 : decode cX6_beginDay 14 = .ok (.bipush 100, 2) := by decide +kernel
theorem dX6_beginDay_16 : decode cX6_beginDay 16 = .ok (.irem, 1) := by decide +kernel
theorem dX6_beginDay_17 : decode cX6_beginDay 17 = .ok (.ifCond .ne 10, 3) := by decide +kernel
theorem dX6_beginDay_20 : decode cX6_beginDay 20 = .ok (.aload_n 0, 1) := by decide +kernel
theorem dX6_beginDay_21 : decode cX6_beginDay 21 = .ok (.getfield 29, 3) := by decide +kernel
theorem dX6_beginDay_24 : decode cX6_beginDay 24 = .ok (.invokevirtual 295, 3) := by decide +kernel
theorem dX6_beginDay_27 : decode cX6_beginDay 27 = .ok (.aload_n 0, 1) := by decide +kernel
theorem dX6_beginDay_28 : decode cX6_beginDay 28 = .ok (.getfield 159, 3) := by decide +kernel
theorem dX6_beginDay_31 : decode cX6_beginDay 31 = .ok (.ifnull 36, 3) := by decide +kernel
theorem dX6_beginDay_34 : decode cX6_beginDay 34 = .ok (.aload_n 0, 1) := by decide +kernel
theorem dX6_beginDay_35 : decode cX6_beginDay 35 = .ok (.getfield 159, 3) := by decide +kernel
theorem dX6_beginDay_38 : decode cX6_beginDay 38 = .ok (.getfield 298, 3) := by decide +kernel
theorem dX6_beginDay_41 : decode cX6_beginDay 41 = .ok (.aload_n 0, 1) := by decide +kernel
theorem dX6_beginDay_42 : decode cX6_beginDay 42 = .ok (.getfield 216, 3) := by decide +kernel
theorem dX6_beginDay_45 : decode cX6_beginDay 45 = .ok (.if_icmp .ne 22, 3) := by decide +kernel
theorem dX6_beginDay_48 : decode cX6_beginDay 48 = .ok (.aload_n 0, 1) := by decide +kernel
theorem dX6_beginDay_49 : decode cX6_beginDay 49 = .ok (.getfield 29, 3) := by decide +kernel
theorem dX6_beginDay_52 : decode cX6_beginDay 52 = .ok (.aload_n 0, 1) := by decide +kernel
theorem dX6_beginDay_53 : decode cX6_beginDay 53 = .ok (.getfield 159, 3) := by decide +kernel
theorem dX6_beginDay_56 : decode cX6_beginDay 56 = .ok (.getfield 301, 3) := by decide +kernel
theorem dX6_beginDay_59 : decode cX6_beginDay 59 = .ok (.putfield 285, 3) := by decide +kernel
theorem dX6_beginDay_62 : decode cX6_beginDay 62 = .ok (.aload_n 0, 1) := by decide +kernel
theorem dX6_beginDay_63 : decode cX6_beginDay 63 = .ok (.aconst_null, 1) := by decide +kernel
theorem dX6_beginDay_64 : decode cX6_beginDay 64 = .ok (.putfield 159, 3) := by decide +kernel
theorem dX6_beginDay_67 : decode cX6_beginDay 67 = .ok (.aload_n 0, 1) := by decide +kernel
theorem dX6_beginDay_68 : decode cX6_beginDay 68 = .ok (.invokevirtual 302, 3) := by decide +kernel
theorem dX6_beginDay_71 : decode cX6_beginDay 71 = .ok (.aload_n 0, 1) := by decide +kernel
theorem dX6_beginDay_72 : decode cX6_beginDay 72 = .ok (.invokevirtual 305, 3) := by decide +kernel
theorem dX6_beginDay_75 : decode cX6_beginDay 75 = .ok (.aload_n 0, 1) := by decide +kernel
theorem dX6_beginDay_76 : decode cX6_beginDay 76 = .ok (.getfield 216, 3) := by decide +kernel
theorem dX6_beginDay_79 : decode cX6_beginDay 79 = .ok (.bipush 30, 2) := by decide +kernel
theorem dX6_beginDay_81 : decode cX6_beginDay 81 = .ok (.irem, 1) := by decide +kernel
theorem dX6_beginDay_82 : decode cX6_beginDay 82 = .ok (.ifCond .ne 10, 3) := by decide +kernel
theorem dX6_beginDay_85 : decode cX6_beginDay 85 = .ok (.aload_n 0, 1) := by decide +kernel
theorem dX6_beginDay_86 : decode cX6_beginDay 86 = .ok (.getfield 29, 3) := by decide +kernel
theorem dX6_beginDay_89 : decode cX6_beginDay 89 = .ok (.invokevirtual 308, 3) := by decide +kernel
theorem dX6_beginDay_92 : decode cX6_beginDay 92 = .ok (.return_, 1) := by decide +kernel
set_option maxRecDepth 20000 in
theorem ggX6_loseLateMovements_Jx4a65c_size_8abf5 : GoodIn wsX6_loseLateMovements wsJx4a65c_size_8abf5 := goodIn_r _ [8, 9, 64, 65, 66] (by decide +kernel) (by decide +kernel)
set_option maxRecDepth 20000 in
theorem gX6_loseLateMovements_Jx4a65c_size_8abf5 : GoodIn wsX6_loseLateMovements (wsV RX6 60 RJx4a65c yJx4a65c_size_8abf5 wsJx4a65c_size_8abf5) := goodIn_app (goodIn_of _ (by decide +kernel)) ggX6_loseLateMovements_Jx4a65c_size_8abf5
set_option maxRecDepth 20000 in
theorem ggX6_loseLateMovements_Jx4a65c_get_915e3 : GoodIn wsX6_loseLateMovements wsJx4a65c_get_915e3 := goodIn_r _ [13, 9, 14, 15, 16, 17, 18, 19, 20, 21, 22, 23, 24, 7, 25, 26, 64, 65, 66] (by decide +kernel) (by decide +kernel)
set_option maxRecDepth 20000 in
theorem gX6_loseLateMovements_Jx4a65c_get_915e3 : GoodIn wsX6_loseLateMovements (wsV RX6 194 RJx4a65c yJx4a65c_get_915e3 wsJx4a65c_get_915e3) := goodIn_app (goodIn_of _ (by decide +kernel)) ggX6_loseLateMovements_Jx4a65c_get_915e3
set_option maxRecDepth 20000 in
theorem ggX6_loseLateMovements_X6_miss : GoodIn wsX6_loseLateMovements wsX6_miss := goodIn_r _ [31, 32, 33, 34, 35, 36, 37, 38, 39, 40, 41, 42, 43, 44, 45, 30, 46, 47, 48, 49, 50, 51, 52, 53, 54, 55, 56, 57, 58, 67, 68, 69, 70, 71, 72, 73, 74] (by decide +kernel) (by decide +kernel)
set_option maxRecDepth 20000 in
theorem gX6_loseLateMovements_X6_miss : GoodIn wsX6_loseLateMovements (wsV RX6 147 RX6 yX6_miss wsX6_miss) := goodIn_app (goodIn_of _ (by decide +kernel)) ggX6_loseLateMovements_X6_miss
theorem dX6_loseLateMovements_0 : decode cX6_loseLateMovements 0 = .ok (.iconst 0, 1) := by decide +kernel
theorem dX6_loseLateMovements_1 : decode cX6_loseLateMovements 1 = .ok (.istore_n 1, 1) := by decide +kernel
theorem dX6_loseLateMovements_2 : decode cX6_loseLateMovements 2 = .ok (.iload_n 1, 1) := by decide +kernel
theorem dX6_loseLateMovements_3 : decode cX6_loseLateMovements 3 = .ok (.aload_n 0, 1) := by decide +kernel
theorem dX6_loseLateMovements_4 : decode cX6_loseLateMovements 4 = .ok (.getfield 16, 3) := by decide +kernel
theorem dX6_loseLateMovements_7 : decode cX6_loseLateMovements 7 = .ok (.invokevirtual 60, 3) := by decide +kernel
theorem dX6_loseLateMovements_10 : decode cX6_loseLateMovements 10 = .ok (.if_icmp .ge 53, 3) := by decide +kernel
theorem dX6_loseLateMovements_13 : decode cX6_loseLateMovements 13 = .ok (.aload_n 0, 1) := by decide +kernel
theorem dX6_loseLateMovements_14 : decode cX6_loseLateMovements 14 = .ok (.getfield 16, 3) := by decide +kernel
theorem dX6_loseLateMovements_17 : decode cX6_loseLateMovements 17 = .ok (.iload_n 1, 1) := by decide +kernel
theorem dX6_loseLateMovements_18 : decode cX6_loseLateMovements 18 = .ok (.invokevirtual 194, 3) := by decide +kernel
theorem dX6_loseLateMovements_21 : decode cX6_loseLateMovements 21 = .ok (.checkcast 245, 3) := by decide +kernel
theorem dX6_loseLateMovements_24 : decode cX6_loseLateMovements 24 = .ok (.astore_n 2, 1) := by decide +kernel
theorem dX6_loseLateMovements_25 : decode cX6_loseLateMovements 25 = .ok (.aload_n 2, 1) := by decide +kernel
theorem dX6_loseLateMovements_26 : decode cX6_loseLateMovements 26 = .ok (.getfield 257, 3) := by decide +kernel
theorem dX6_loseLateMovements_29 : decode cX6_loseLateMovements 29 = .ok (.ifCond .ne 28, 3) := by decide +kernel
theorem dX6_loseLateMovements_32 : decode cX6_loseLateMovements 32 = .ok (.aload_n 0, 1) := by decide +kernel
theorem dX6_loseLateMovements_33 : decode cX6_loseLateMovements 33 = .ok (.getfield 216, 3) := by decide +kernel
theorem dX6_loseLateMovements_36 : decode cX6_loseLateMovements 36 = .ok (.aload_n 2, 1) := by decide +kernel
theorem dX6_loseLateMovements_37 : decode cX6_loseLateMovements 37 = .ok (.getfield 276, 3) := by decide +kernel
theorem dX6_loseLateMovements_40 : decode cX6_loseLateMovements 40 = .ok (.if_icmp .le 17, 3) := by decide +kernel
theorem dX6_loseLateMovements_43 : decode cX6_loseLateMovements 43 = .ok (.aload_n 2, 1) := by decide +kernel
theorem dX6_loseLateMovements_44 : decode cX6_loseLateMovements 44 = .ok (.iconst 2, 1) := by decide +kernel
theorem dX6_loseLateMovements_45 : decode cX6_loseLateMovements 45 = .ok (.putfield 257, 3) := by decide +kernel
theorem dX6_loseLateMovements_48 : decode cX6_loseLateMovements 48 = .ok (.aload_n 0, 1) := by decide +kernel
theorem dX6_loseLateMovements_49 : decode cX6_loseLateMovements 49 = .ok (.aload_n 2, 1) := by decide +kernel
theorem dX6_loseLateMovements_50 : decode cX6_loseLateMovements 50 = .ok (.getfield 266, 3) := by decide +kernel
theorem dX6_loseLateMovements_53 : decode cX6_loseLateMovements 53 = .ok (.invokevirtual 147, 3) := by decide +kernel
theorem dX6_loseLateMovements_56 : decode cX6_loseLateMovements 56 = .ok (.pop, 1) := by decide +kernel
theorem dX6_loseLateMovements_57 : decode cX6_loseLateMovements 57 = .ok (.iinc 1 1, 3) := by decide +kernel
theorem dX6_loseLateMovements_60 : decode cX6_loseLateMovements 60 = .ok (.goto (-58), 3) := by decide +kernel
theorem dX6_loseLateMovements_63 : decode cX6_loseLateMovements 63 = .ok (.return_, 1) := by decide +kernel
set_option maxRecDepth 20000 in
theorem ggX6_takeShares_Jx4a65c_size_8abf5 : GoodIn wsX6_takeShares wsJx4a65c_size_8abf5 := goodIn_r _ [9, 10, 64, 65, 66] (by decide +kernel) (by decide +kernel)
set_option maxRecDepth 20000 in
theorem gX6_takeShares_Jx4a65c_size_8abf5 : GoodIn wsX6_takeShares (wsV RX6 60 RJx4a65c yJx4a65c_size_8abf5 wsJx4a65c_size_8abf5) := goodIn_app (goodIn_of _ (by decide +kernel)) ggX6_takeShares_Jx4a65c_size_8abf5
set_option maxRecDepth 20000 in
theorem ggX6_takeShares_Jx4a65c_get_915e3 : GoodIn wsX6_takeShares wsJx4a65c_get_915e3 := goodIn_r _ [14, 10, 15, 16, 17, 18, 19, 20, 21, 22, 23, 24, 25, 8, 26, 27, 64, 65, 66] (by decide +kernel) (by decide +kernel)
set_option maxRecDepth 20000 in
theorem gX6_takeShares_Jx4a65c_get_915e3 : GoodIn wsX6_takeShares (wsV RX6 194 RJx4a65c yJx4a65c_get_915e3 wsJx4a65c_get_915e3) := goodIn_app (goodIn_of _ (by decide +kernel)) ggX6_takeShares_Jx4a65c_get_915e3
set_option maxRecDepth 20000 in
theorem ggX6_takeShares_X6_isPlace : GoodIn wsX6_takeShares wsX6_isPlace := goodIn_r _ [32, 4, 43, 44, 45, 46, 47, 48, 49, 50, 51, 52, 53, 54] (by decide +kernel) (by decide +kernel)
set_option maxRecDepth 20000 in
theorem gX6_takeShares_X6_isPlace : GoodIn wsX6_takeShares (wsV RX6 40 RX6 yX6_isPlace wsX6_isPlace) := goodIn_app (goodIn_of _ (by decide +kernel)) ggX6_takeShares_X6_isPlace
set_option maxRecDepth 20000 in
theorem ggX6_takeShares_X5_takeShare : GoodIn wsX6_takeShares wsX5_takeShare := goodIn_r _ [37, 38, 39, 40, 41, 31, 42, 55, 56, 57, 58] (by decide +kernel) (by decide +kernel)
set_option maxRecDepth 20000 in
theorem gX6_takeShares_X5_takeShare : GoodIn wsX6_takeShares (wsV RX6 311 RX5 yX5_takeShare wsX5_takeShare) := goodIn_app (goodIn_of _ (by decide +kernel)) ggX6_takeShares_X5_takeShare
theorem dX6_takeShares_0 : decode cX6_takeShares 0 = .ok (.iconst 0, 1) := by decide +kernel
theorem dX6_takeShares_1 : decode cX6_takeShares 1 = .ok (.istore_n 1, 1) := by decide +kernel
theorem dX6_takeShares_2 : decode cX6_takeShares 2 = .ok (.iload_n 1, 1) := by decide +kernel
theorem dX6_takeShares_3 : decode cX6_takeShares 3 = .ok (.aload_n 0, 1) := by decide +kernel
theorem dX6_takeShares_4 : decode cX6_takeShares 4 = .ok (.getfield 10, 3) := by decide +kernel
theorem dX6_takeShares_7 : decode cX6_takeShares 7 = .ok (.invokevirtual 60, 3) := by decide +kernel
theorem dX6_takeShares_10 : decode cX6_takeShares 10 = .ok (.if_icmp .ge 57, 3) := by decide +kernel
theorem dX6_takeShares_13 : decode cX6_takeShares 13 = .ok (.aload_n 0, 1) := by decide +kernel
theorem dX6_takeShares_14 : decode cX6_takeShares 14 = .ok (.getfield 10, 3) := by decide +kernel
theorem dX6_takeShares_17 : decode cX6_takeShares 17 = .ok (.iload_n 1, 1) := by decide +kernel
theorem dX6_takeShares_18 : decode cX6_takeShares 18 = .ok (.invokevirtual 194, 3) := by decide +kernel
theorem dX6_takeShares_21 : decode cX6_takeShares 21 = .ok (.checkcast 69, 3) := by decide +kernel
theorem dX6_takeShares_24 : decode cX6_takeShares 24 = .ok (.astore_n 2, 1) := by decide +kernel
theorem dX6_takeShares_25 : decode cX6_takeShares 25 = .ok (.aload_n 0, 1) := by decide +kernel
theorem dX6_takeShares_26 : decode cX6_takeShares 26 = .ok (.aload_n 2, 1) := by decide +kernel
theorem dX6_takeShares_27 : decode cX6_takeShares 27 = .ok (.getfield 122, 3) := by decide +kernel
theorem dX6_takeShares_30 : decode cX6_takeShares 30 = .ok (.invokevirtual 40, 3) := by decide +kernel
theorem dX6_takeShares_33 : decode cX6_takeShares 33 = .ok (.ifCond .eq 28, 3) := by decide +kernel
theorem dX6_takeShares_36 : decode cX6_takeShares 36 = .ok (.aload_n 0, 1) := by decide +kernel
theorem dX6_takeShares_37 : decode cX6_takeShares 37 = .ok (.getfield 36, 3) := by decide +kernel
theorem dX6_takeShares_40 : decode cX6_takeShares 40 = .ok (.dup, 1) := by decide +kernel
theorem dX6_takeShares_41 : decode cX6_takeShares 41 = .ok (.getfield 150, 3) := by decide +kernel
theorem dX6_takeShares_44 : decode cX6_takeShares 44 = .ok (.aload_n 2, 1) := by decide +kernel
theorem dX6_takeShares_45 : decode cX6_takeShares 45 = .ok (.aload_n 0, 1) := by decide +kernel
theorem dX6_takeShares_46 : decode cX6_takeShares 46 = .ok (.getfield 22, 3) := by decide +kernel
theorem dX6_takeShares_49 : decode cX6_takeShares 49 = .ok (.aload_n 2, 1) := by decide +kernel
theorem dX6_takeShares_50 : decode cX6_takeShares 50 = .ok (.getfield 122, 3) := by decide +kernel
theorem dX6_takeShares_53 : decode cX6_takeShares 53 = .ok (.iaload, 1) := by decide +kernel
theorem dX6_takeShares_54 : decode cX6_takeShares 54 = .ok (.invokevirtual 311, 3) := by decide +kernel
theorem dX6_takeShares_57 : decode cX6_takeShares 57 = .ok (.iadd, 1) := by decide +kernel
theorem dX6_takeShares_58 : decode cX6_takeShares 58 = .ok (.putfield 150, 3) := by decide +kernel
theorem dX6_takeShares_61 : decode cX6_takeShares 61 = .ok (.iinc 1 1, 3) := by decide +kernel
theorem dX6_takeShares_64 : decode cX6_takeShares 64 = .ok (.goto (-62), 3) := by decide +kernel
theorem dX6_takeShares_67 : decode cX6_takeShares 67 = .ok (.return_, 1) := by decide +kernel
theorem dX7_init_0 : decode cX7_init 0 = .ok (.aload_n 0, 1) := by decide +kernel
theorem dX7_init_1 : decode cX7_init 1 = .ok (.invokespecial 1, 3) := by decide +kernel
theorem dX7_init_4 : decode cX7_init 4 = .ok (.aload_n 0, 1) := by decide +kernel
theorem dX7_init_5 : decode cX7_init 5 = .ok (.bipush 10, 2) := by decide +kernel
theorem dX7_init_7 : decode cX7_init 7 = .ok (.newarray .int, 2) := by decide +kernel
theorem dX7_init_9 : decode cX7_init 9 = .ok (.putfield 7, 3) := by decide +kernel
theorem dX7_init_12 : decode cX7_init 12 = .ok (.aload_n 0, 1) := by decide +kernel
theorem dX7_init_13 : decode cX7_init 13 = .ok (.bipush 10, 2) := by decide +kernel
theorem dX7_init_15 : decode cX7_init 15 = .ok (.newarray .int, 2) := by decide +kernel
theorem dX7_init_17 : decode cX7_init 17 = .ok (.putfield 13, 3) := by decide +kernel
theorem dX7_init_20 : decode cX7_init 20 = .ok (.aload_n 0, 1) := by decide +kernel
theorem dX7_init_21 : decode cX7_init 21 = .ok (.bipush 10, 2) := by decide +kernel
theorem dX7_init_23 : decode cX7_init 23 = .ok (.newarray .int, 2) := by decide +kernel
theorem dX7_init_25 : decode cX7_init 25 = .ok (.putfield 16, 3) := by decide +kernel
theorem dX7_init_28 : decode cX7_init 28 = .ok (.aload_n 0, 1) := by decide +kernel
theorem dX7_init_29 : decode cX7_init 29 = .ok (.bipush 10, 2) := by decide +kernel
theorem dX7_init_31 : decode cX7_init 31 = .ok (.newarray .int, 2) := by decide +kernel
theorem dX7_init_33 : decode cX7_init 33 = .ok (.putfield 19, 3) := by decide +kernel
theorem dX7_init_36 : decode cX7_init 36 = .ok (.aload_n 0, 1) := by decide +kernel
theorem dX7_init_37 : decode cX7_init 37 = .ok (.iconst 4, 1) := by decide +kernel
theorem dX7_init_38 : decode cX7_init 38 = .ok (.newarray .int, 2) := by decide +kernel
theorem dX7_init_40 : decode cX7_init 40 = .ok (.putfield 22, 3) := by decide +kernel
theorem dX7_init_43 : decode cX7_init 43 = .ok (.aload_n 0, 1) := by decide +kernel
theorem dX7_init_44 : decode cX7_init 44 = .ok (.bipush 8, 2) := by decide +kernel
theorem dX7_init_46 : decode cX7_init 46 = .ok (.newarray .int, 2) := by decide +kernel
theorem dX7_init_48 : decode cX7_init 48 = .ok (.putfield 25, 3) := by decide +kernel
theorem dX7_init_51 : decode cX7_init 51 = .ok (.aload_n 0, 1) := by decide +kernel
theorem dX7_init_52 : decode cX7_init 52 = .ok (.bipush 10, 2) := by decide +kernel
theorem dX7_init_54 : decode cX7_init 54 = .ok (.putfield 28, 3) := by decide +kernel
theorem dX7_init_57 : decode cX7_init 57 = .ok (.aload_n 0, 1) := by decide +kernel
theorem dX7_init_58 : decode cX7_init 58 = .ok (.iconst (-1), 1) := by decide +kernel
theorem dX7_init_59 : decode cX7_init 59 = .ok (.putfield 32, 3) := by decide +kernel
theorem dX7_init_62 : decode cX7_init 62 = .ok (.aload_n 0, 1) := by decide +kernel
theorem dX7_init_63 : decode cX7_init 63 = .ok (.bipush 100, 2) := by decide +kernel
theorem dX7_init_65 : decode cX7_init 65 = .ok (.newarray .int, 2) := by decide +kernel
theorem dX7_init_67 : decode cX7_init 67 = .ok (.putfield 35, 3) := by decide +kernel
theorem dX7_init_70 : decode cX7_init 70 = .ok (.aload_n 0, 1) := by decide +kernel
theorem dX7_init_71 : decode cX7_init 71 = .ok (.bipush 100, 2) := by decide +kernel
theorem dX7_init_73 : decode cX7_init 73 = .ok (.newarray .int, 2) := by decide +kernel
theorem dX7_init_75 : decode cX7_init 75 = .ok (.putfield 38, 3) := by decide +kernel
theorem dX7_init_78 : decode cX7_init 78 = .ok (.aload_n 0, 1) := by decide +kernel
theorem dX7_init_79 : decode cX7_init 79 = .ok (.bipush 30, 2) := by decide +kernel
theorem dX7_init_81 : decode cX7_init 81 = .ok (.newarray .int, 2) := by decide +kernel
theorem dX7_init_83 : decode cX7_init 83 = .ok (.putfield 41, 3) := by decide +kernel
theorem dX7_init_86 : decode cX7_init 86 = .ok (.aload_n 0, 1) := by decide +kernel
theorem dX7_init_87 : decode cX7_init 87 = .ok (.bipush 30, 2) := by decide +kernel
theorem dX7_init_89 : decode cX7_init 89 = .ok (.newarray .int, 2) := by decide +kernel
theorem dX7_init_91 : decode cX7_init 91 = .ok (.putfield 44, 3) := by decide +kernel
theorem dX7_init_94 : decode cX7_init 94 = .ok (.aload_n 0, 1) := by decide +kernel
theorem dX7_init_95 : decode cX7_init 95 = .ok (.bipush 30, 2) := by decide +kernel
theorem dX7_init_97 : decode cX7_init 97 = .ok (.newarray .int, 2) := by decide +kernel
theorem dX7_init_99 : decode cX7_init 99 = .ok (.putfield 47, 3) := by decide +kernel
theorem dX7_init_102 : decode cX7_init 102 = .ok (.aload_n 0, 1) := by decide +kernel
theorem dX7_init_103 : decode cX7_init 103 = .ok (.bipush 30, 2) := by decide +kernel
theorem dX7_init_105 : decode cX7_init 105 = .ok (.newarray .int, 2) := by decide +kernel
theorem dX7_init_107 : decode cX7_init 107 = .ok (.putfield 50, 3) := by decide +kernel
theorem dX7_init_110 : decode cX7_init 110 = .ok (.aload_n 0, 1) := by decide +kernel
theorem dX7_init_111 : decode cX7_init 111 = .ok (.bipush 30, 2) := by decide +kernel
theorem dX7_init_113 : decode cX7_init 113 = .ok (.newarray .int, 2) := by decide +kernel
theorem dX7_init_115 : decode cX7_init 115 = .ok (.putfield 53, 3) := by decide +kernel
theorem dX7_init_118 : decode cX7_init 118 = .ok (.return_, 1) := by decide +kernel
theorem dX7_thrown_0 : decode cX7_thrown 0 = .ok (.aload_n 0, 1) := by decide +kernel
theorem dX7_thrown_1 : decode cX7_thrown 1 = .ok (.getfield 56, 3) := by decide +kernel
theorem dX7_thrown_4 : decode cX7_thrown 4 = .ok (.ireturn, 1) := by decide +kernel
theorem dX7_in_0 : decode cX7_in 0 = .ok (.iload_n 0, 1) := by decide +kernel
theorem dX7_in_1 : decode cX7_in 1 = .ok (.iload_n 1, 1) := by decide +kernel
theorem dX7_in_2 : decode cX7_in 2 = .ok (.if_icmp .lt 12, 3) := by decide +kernel
theorem dX7_in_5 : decode cX7_in 5 = .ok (.iload_n 0, 1) := by decide +kernel
theorem dX7_in_6 : decode cX7_in 6 = .ok (.iload_n 2, 1) := by decide +kernel
theorem dX7_in_7 : decode cX7_in 7 = .ok (.if_icmp .gt 7, 3) := by decide +kernel
theorem dX7_in_10 : decode cX7_in 10 = .ok (.iconst 1, 1) := by decide +kernel
theorem dX7_in_11 : decode cX7_in 11 = .ok (.goto 4, 3) := by decide +kernel
theorem dX7_in_14 : decode cX7_in 14 = .ok (.iconst 0, 1) := by decide +kernel
theorem dX7_in_15 : decode cX7_in 15 = .ok (.ireturn, 1) := by decide +kernel
set_option maxRecDepth 20000 in
theorem ggX7_isVessel_X7_in : GoodIn wsX7_isVessel wsX7_in := goodIn_r _ [5] (by decide +kernel) (by decide +kernel)
set_option maxRecDepth 20000 in
theorem gX7_isVessel_X7_in : GoodIn wsX7_isVessel (va_wsS RX7 62 yX7_in wsX7_in) := goodIn_app (goodIn_of _ (by decide +kernel)) ggX7_isVessel_X7_in
theorem dX7_isVessel_0 : decode cX7_isVessel 0 = .ok (.iload_n 1, 1) := by decide +kernel
theorem dX7_isVessel_1 : decode cX7_isVessel 1 = .ok (.iconst 0, 1) := by decide +kernel
theorem dX7_isVessel_2 : decode cX7_isVessel 2 = .ok (.aload_n 0, 1) := by decide +kernel
theorem dX7_isVessel_3 : decode cX7_isVessel 3 = .ok (.getfield 59, 3) := by decide +kernel
theorem dX7_isVessel_6 : decode cX7_isVessel 6 = .ok (.iconst 1, 1) := by decide +kernel
theorem dX7_isVessel_7 : decode cX7_isVessel 7 = .ok (.isub, 1) := by decide +kernel
theorem dX7_isVessel_8 : decode cX7_isVessel 8 = .ok (.invokestatic 62, 3) := by decide +kernel
theorem dX7_isVessel_11 : decode cX7_isVessel 11 = .ok (.ireturn, 1) := by decide +kernel
set_option maxRecDepth 20000 in
theorem ggX7_isPlace_X7_in : GoodIn wsX7_isPlace wsX7_in := goodIn_r _ [4] (by decide +kernel) (by decide +kernel)
set_option maxRecDepth 20000 in
theorem gX7_isPlace_X7_in : GoodIn wsX7_isPlace (va_wsS RX7 62 yX7_in wsX7_in) := goodIn_app (goodIn_of _ (by decide +kernel)) ggX7_isPlace_X7_in
theorem dX7_isPlace_0 : decode cX7_isPlace 0 = .ok (.iload_n 0, 1) := by decide +kernel
theorem dX7_isPlace_1 : decode cX7_isPlace 1 = .ok (.iconst 0, 1) := by decide +kernel
theorem dX7_isPlace_2 : decode cX7_isPlace 2 = .ok (.iconst 3, 1) := by decide +kernel
theorem dX7_isPlace_3 : decode cX7_isPlace 3 = .ok (.invokestatic 62, 3) := by decide +kernel
theorem dX7_isPlace_6 : decode cX7_isPlace 6 = .ok (.ireturn, 1) := by decide +kernel
theorem dX7_least_0 : decode cX7_least 0 = .ok (.iload_n 0, 1) := by decide +kernel
theorem dX7_least_1 : decode cX7_least 1 = .ok (.iload_n 1, 1) := by decide +kernel
theorem dX7_least_2 : decode cX7_least 2 = .ok (.if_icmp .ge 7, 3) := by decide +kernel
theorem dX7_least_5 : decode cX7_least 5 = .ok (.iload_n 0, 1) := by decide +kernel
theorem dX7_least_6 : decode cX7_least 6 = .ok (.goto 4, 3) := by decide +kernel
theorem dX7_least_9 : decode cX7_least 9 = .ok (.iload_n 1, 1) := by decide +kernel
theorem dX7_least_10 : decode cX7_least 10 = .ok (.ireturn, 1) := by decide +kernel
theorem dX7_strengthOf_0 : decode cX7_strengthOf 0 = .ok (.iload_n 1, 1) := by decide +kernel
theorem dX7_strengthOf_1 : decode cX7_strengthOf 1 = .ok (.ifCond .ne 7, 3) := by decide +kernel
theorem dX7_strengthOf_4 : decode cX7_strengthOf 4 = .ok (.iconst 0, 1) := by decide +kernel
theorem dX7_strengthOf_5 : decode cX7_strengthOf 5 = .ok (.goto 6, 3) := by decide +kernel
theorem dX7_strengthOf_8 : decode cX7_strengthOf 8 = .ok (.iload_n 0, 1) := by decide +kernel
theorem dX7_strengthOf_9 : decode cX7_strengthOf 9 = .ok (.iload_n 1, 1) := by decide +kernel
theorem dX7_strengthOf_10 : decode cX7_strengthOf 10 = .ok (.idiv, 1) := by decide +kernel
theorem dX7_strengthOf_11 : decode cX7_strengthOf 11 = .ok (.ireturn, 1) := by decide +kernel
set_option maxRecDepth 20000 in
theorem ggX7_with_X7_strengthOf : GoodIn wsX7_with wsX7_strengthOf := goodIn_r _ [6] (by decide +kernel) (by decide +kernel)
set_option maxRecDepth 20000 in
theorem gX7_with_X7_strengthOf : GoodIn wsX7_with (va_wsS RX7 66 yX7_strengthOf wsX7_strengthOf) := goodIn_app (goodIn_of _ (by decide +kernel)) ggX7_with_X7_strengthOf
set_option maxRecDepth 20000 in
theorem ggX7_with_X7_least : GoodIn wsX7_with wsX7_least := goodIn_r _ [9] (by decide +kernel) (by decide +kernel)
set_option maxRecDepth 20000 in
theorem gX7_with_X7_least : GoodIn wsX7_with (va_wsS RX7 70 yX7_least wsX7_least) := goodIn_app (goodIn_of _ (by decide +kernel)) ggX7_with_X7_least
theorem dX7_with_0 : decode cX7_with 0 = .ok (.iload_n 2, 1) := by decide +kernel
theorem dX7_with_1 : decode cX7_with 1 = .ok (.ifCond .eq 12, 3) := by decide +kernel
theorem dX7_with_4 : decode cX7_with 4 = .ok (.aload_n 0, 1) := by decide +kernel
theorem dX7_with_5 : decode cX7_with 5 = .ok (.getfield 16, 3) := by decide +kernel
theorem dX7_with_8 : decode cX7_with 8 = .ok (.iload_n 1, 1) := by decide +kernel
theorem dX7_with_9 : decode cX7_with 9 = .ok (.iaload, 1) := by decide +kernel
theorem dX7_with_10 : decode cX7_with 10 = .ok (.ifCond .ne 12, 3) := by decide +kernel
theorem dX7_with_13 : decode cX7_with 13 = .ok (.aload_n 0, 1) := by decide +kernel
theorem dX7_with_14 : decode cX7_with 14 = .ok (.getfield 16, 3) := by decide +kernel
theorem dX7_with_17 : decode cX7_with 17 = .ok (.iload_n 1, 1) := by decide +kernel
theorem dX7_with_18 : decode cX7_with 18 = .ok (.iaload, 1) := by decide +kernel
theorem dX7_with_19 : decode cX7_with 19 = .ok (.iload_n 2, 1) := by decide +kernel
theorem dX7_with_20 : decode cX7_with 20 = .ok (.iadd, 1) := by decide +kernel
theorem dX7_with_21 : decode cX7_with 21 = .ok (.ireturn, 1) := by decide +kernel
theorem dX7_with_22 : decode cX7_with 22 = .ok (.aload_n 0, 1) := by decide +kernel
theorem dX7_with_23 : decode cX7_with 23 = .ok (.getfield 19, 3) := by decide +kernel
theorem dX7_with_26 : decode cX7_with 26 = .ok (.iload_n 1, 1) := by decide +kernel
theorem dX7_with_27 : decode cX7_with 27 = .ok (.iaload, 1) := by decide +kernel
theorem dX7_with_28 : decode cX7_with 28 = .ok (.aload_n 0, 1) := by decide +kernel
theorem dX7_with_29 : decode cX7_with 29 = .ok (.getfield 16, 3) := by decide +kernel
theorem dX7_with_32 : decode cX7_with 32 = .ok (.iload_n 1, 1) := by decide +kernel
theorem dX7_with_33 : decode cX7_with 33 = .ok (.iaload, 1) := by decide +kernel
theorem dX7_with_34 : decode cX7_with 34 = .ok (.invokestatic 66, 3) := by decide +kernel
theorem dX7_with_37 : decode cX7_with 37 = .ok (.iload_n 3, 1) := by decide +kernel
theorem dX7_with_38 : decode cX7_with 38 = .ok (.iload_n 2, 1) := by decide +kernel
theorem dX7_with_39 : decode cX7_with 39 = .ok (.invokestatic 66, 3) := by decide +kernel
theorem dX7_with_42 : decode cX7_with 42 = .ok (.isub, 1) := by decide +kernel
theorem dX7_with_43 : decode cX7_with 43 = .ok (.istore 4, 2) := by decide +kernel
theorem dX7_with_45 : decode cX7_with 45 = .ok (.aload_n 0, 1) := by decide +kernel
theorem dX7_with_46 : decode cX7_with 46 = .ok (.getfield 16, 3) := by decide +kernel
theorem dX7_with_49 : decode cX7_with 49 = .ok (.iload_n 1, 1) := by decide +kernel
theorem dX7_with_50 : decode cX7_with 50 = .ok (.iaload, 1) := by decide +kernel
theorem dX7_with_51 : decode cX7_with 51 = .ok (.iload_n 2, 1) := by decide +kernel
theorem dX7_with_52 : decode cX7_with 52 = .ok (.iadd, 1) := by decide +kernel
theorem dX7_with_53 : decode cX7_with 53 = .ok (.aload_n 0, 1) := by decide +kernel
theorem dX7_with_54 : decode cX7_with 54 = .ok (.getfield 16, 3) := by decide +kernel
theorem dX7_with_57 : decode cX7_with 57 = .ok (.iload_n 1, 1) := by decide +kernel
theorem dX7_with_58 : decode cX7_with 58 = .ok (.iaload, 1) := by decide +kernel
theorem dX7_with_59 : decode cX7_with 59 = .ok (.iload_n 2, 1) := by decide +kernel
theorem dX7_with_60 : decode cX7_with 60 = .ok (.invokestatic 70, 3) := by decide +kernel
theorem dX7_with_63 : decode cX7_with 63 = .ok (.iload 4, 2) := by decide +kernel
theorem dX7_with_65 : decode cX7_with 65 = .ok (.ifCond .ge 9, 3) := by decide +kernel
theorem dX7_with_68 : decode cX7_with 68 = .ok (.iload 4, 2) := by decide +kernel
theorem dX7_with_70 : decode cX7_with 70 = .ok (.ineg, 1) := by decide +kernel
theorem dX7_with_71 : decode cX7_with 71 = .ok (.goto 5, 3) := by decide +kernel
theorem dX7_with_74 : decode cX7_with 74 = .ok (.iload 4, 2) := by decide +kernel
theorem dX7_with_76 : decode cX7_with 76 = .ok (.imul, 1) := by decide +kernel
theorem dX7_with_77 : decode cX7_with 77 = .ok (.sipush 10000, 3) := by decide +kernel
theorem dX7_with_80 : decode cX7_with 80 = .ok (.idiv, 1) := by decide +kernel
theorem dX7_with_81 : decode cX7_with 81 = .ok (.isub, 1) := by decide +kernel
theorem dX7_with_82 : decode cX7_with 82 = .ok (.ireturn, 1) := by decide +kernel
set_option maxRecDepth 20000 in
theorem ggX7_comes_X7_with : GoodIn wsX7_comes wsX7_with := goodIn_r _ [7, 1, 2, 8, 9, 6, 10, 11, 12, 13, 14, 15, 16, 17, 18, 19, 20, 21, 22, 23, 24, 25, 26, 27, 28, 29, 30, 31, 32, 33, 34, 35, 36, 37, 38, 39, 40, 41] (by decide +kernel) (by decide +kernel)
set_option maxRecDepth 20000 in
theorem gX7_comes_X7_with : GoodIn wsX7_comes (wsV RX7 73 RX7 yX7_with wsX7_with) := goodIn_app (goodIn_of _ (by decide +kernel)) ggX7_comes_X7_with
theorem dX7_comes_0 : decode cX7_comes 0 = .ok (.aload_n 0, 1) := by decide +kernel
theorem dX7_comes_1 : decode cX7_comes 1 = .ok (.getfield 16, 3) := by decide +kernel
theorem dX7_comes_4 : decode cX7_comes 4 = .ok (.iload_n 1, 1) := by decide +kernel
theorem dX7_comes_5 : decode cX7_comes 5 = .ok (.aload_n 0, 1) := by decide +kernel
theorem dX7_comes_6 : decode cX7_comes 6 = .ok (.iload_n 1, 1) := by decide +kernel
theorem dX7_comes_7 : decode cX7_comes 7 = .ok (.iload_n 2, 1) := by decide +kernel
theorem dX7_comes_8 : decode cX7_comes 8 = .ok (.iload_n 3, 1) := by decide +kernel
theorem dX7_comes_9 : decode cX7_comes 9 = .ok (.invokevirtual 73, 3) := by decide +kernel
theorem dX7_comes_12 : decode cX7_comes 12 = .ok (.iastore, 1) := by decide +kernel
theorem dX7_comes_13 : decode cX7_comes 13 = .ok (.aload_n 0, 1) := by decide +kernel
theorem dX7_comes_14 : decode cX7_comes 14 = .ok (.getfield 19, 3) := by decide +kernel
theorem dX7_comes_17 : decode cX7_comes 17 = .ok (.iload_n 1, 1) := by decide +kernel
theorem dX7_comes_18 : decode cX7_comes 18 = .ok (.dup2, 1) := by decide +kernel
theorem dX7_comes_19 : decode cX7_comes 19 = .ok (.iaload, 1) := by decide +kernel
theorem dX7_comes_20 : decode cX7_comes 20 = .ok (.iload_n 3, 1) := by decide +kernel
theorem dX7_comes_21 : decode cX7_comes 21 = .ok (.iadd, 1) := by decide +kernel
theorem dX7_comes_22 : decode cX7_comes 22 = .ok (.iastore, 1) := by decide +kernel
theorem dX7_comes_23 : decode cX7_comes 23 = .ok (.return_, 1) := by decide +kernel
theorem dX7_part_0 : decode cX7_part 0 = .ok (.iload_n 0, 1) := by decide +kernel
theorem dX7_part_1 : decode cX7_part 1 = .ok (.i2l, 1) := by decide +kernel
theorem dX7_part_2 : decode cX7_part 2 = .ok (.iload_n 1, 1) := by decide +kernel
theorem dX7_part_3 : decode cX7_part 3 = .ok (.i2l, 1) := by decide +kernel
theorem dX7_part_4 : decode cX7_part 4 = .ok (.lmul, 1) := by decide +kernel
theorem dX7_part_5 : decode cX7_part 5 = .ok (.iload_n 2, 1) := by decide +kernel
theorem dX7_part_6 : decode cX7_part 6 = .ok (.i2l, 1) := by decide +kernel
theorem dX7_part_7 : decode cX7_part 7 = .ok (.ldiv, 1) := by decide +kernel
theorem dX7_part_8 : decode cX7_part 8 = .ok (.l2i, 1) := by decide +kernel
theorem dX7_part_9 : decode cX7_part 9 = .ok (.ireturn, 1) := by decide +kernel
set_option maxRecDepth 20000 in
theorem ggX7_takes_X7_part : GoodIn wsX7_takes wsX7_part := goodIn_r _ [6] (by decide +kernel) (by decide +kernel)
set_option maxRecDepth 20000 in
theorem gX7_takes_X7_part : GoodIn wsX7_takes (va_wsS RX7 77 yX7_part wsX7_part) := goodIn_app (goodIn_of _ (by decide +kernel)) ggX7_takes_X7_part
theorem dX7_takes_0 : decode cX7_takes 0 = .ok (.aload_n 0, 1) := by decide +kernel
theorem dX7_takes_1 : decode cX7_takes 1 = .ok (.getfield 19, 3) := by decide +kernel
theorem dX7_takes_4 : decode cX7_takes 4 = .ok (.iload_n 1, 1) := by decide +kernel
theorem dX7_takes_5 : decode cX7_takes 5 = .ok (.iaload, 1) := by decide +kernel
theorem dX7_takes_6 : decode cX7_takes 6 = .ok (.iload_n 2, 1) := by decide +kernel
theorem dX7_takes_7 : decode cX7_takes 7 = .ok (.aload_n 0, 1) := by decide +kernel
theorem dX7_takes_8 : decode cX7_takes 8 = .ok (.getfield 16, 3) := by decide +kernel
theorem dX7_takes_11 : decode cX7_takes 11 = .ok (.iload_n 1, 1) := by decide +kernel
theorem dX7_takes_12 : decode cX7_takes 12 = .ok (.iaload, 1) := by decide +kernel
theorem dX7_takes_13 : decode cX7_takes 13 = .ok (.invokestatic 77, 3) := by decide +kernel
theorem dX7_takes_16 : decode cX7_takes 16 = .ok (.istore_n 3, 1) := by decide +kernel
theorem dX7_takes_17 : decode cX7_takes 17 = .ok (.aload_n 0, 1) := by decide +kernel
theorem dX7_takes_18 : decode cX7_takes 18 = .ok (.getfield 19, 3) := by decide +kernel
theorem dX7_takes_21 : decode cX7_takes 21 = .ok (.iload_n 1, 1) := by decide +kernel
theorem dX7_takes_22 : decode cX7_takes 22 = .ok (.dup2, 1) := by decide +kernel
theorem dX7_takes_23 : decode cX7_takes 23 = .ok (.iaload, 1) := by decide +kernel
theorem dX7_takes_24 : decode cX7_takes 24 = .ok (.iload_n 3, 1) := by decide +kernel
theorem dX7_takes_25 : decode cX7_takes 25 = .ok (.isub, 1) := by decide +kernel
theorem dX7_takes_26 : decode cX7_takes 26 = .ok (.iastore, 1) := by decide +kernel
theorem dX7_takes_27 : decode cX7_takes 27 = .ok (.aload_n 0, 1) := by decide +kernel
theorem dX7_takes_28 : decode cX7_takes 28 = .ok (.getfield 16, 3) := by decide +kernel
theorem dX7_takes_31 : decode cX7_takes 31 = .ok (.iload_n 1, 1) := by decide +kernel
theorem dX7_takes_32 : decode cX7_takes 32 = .ok (.dup2, 1) := by decide +kernel
theorem dX7_takes_33 : decode cX7_takes 33 = .ok (.iaload, 1) := by decide +kernel
theorem dX7_takes_34 : decode cX7_takes 34 = .ok (.iload_n 2, 1) := by decide +kernel
theorem dX7_takes_35 : decode cX7_takes 35 = .ok (.isub, 1) := by decide +kernel
theorem dX7_takes_36 : decode cX7_takes 36 = .ok (.iastore, 1) := by decide +kernel
theorem dX7_takes_37 : decode cX7_takes 37 = .ok (.iload_n 3, 1) := by decide +kernel
theorem dX7_takes_38 : decode cX7_takes 38 = .ok (.ireturn, 1) := by decide +kernel
theorem dX7_dutyFor_0 : decode cX7_dutyFor 0 = .ok (.iload_n 1, 1) := by decide +kernel
theorem dX7_dutyFor_1 : decode cX7_dutyFor 1 = .ok (.i2l, 1) := by decide +kernel
theorem dX7_dutyFor_2 : decode cX7_dutyFor 2 = .ok (.iload_n 2, 1) := by decide +kernel
theorem dX7_dutyFor_3 : decode cX7_dutyFor 3 = .ok (.i2l, 1) := by decide +kernel
theorem dX7_dutyFor_4 : decode cX7_dutyFor 4 = .ok (.lmul, 1) := by decide +kernel
theorem dX7_dutyFor_5 : decode cX7_dutyFor 5 = .ok (.ldc2_w 80, 3) := by decide +kernel
theorem dX7_dutyFor_8 : decode cX7_dutyFor 8 = .ok (.ldiv, 1) := by decide +kernel
theorem dX7_dutyFor_9 : decode cX7_dutyFor 9 = .ok (.l2i, 1) := by decide +kernel
theorem dX7_dutyFor_10 : decode cX7_dutyFor 10 = .ok (.ireturn, 1) := by decide +kernel
set_option maxRecDepth 20000 in
theorem ggX7_misses_X7_dutyFor : GoodIn wsX7_misses wsX7_dutyFor := goodIn_r _ [8, 9] (by decide +kernel) (by decide +kernel)
set_option maxRecDepth 20000 in
theorem gX7_misses_X7_dutyFor : GoodIn wsX7_misses (wsV RX7 82 RX7 yX7_dutyFor wsX7_dutyFor) := goodIn_app (goodIn_of _ (by decide +kernel)) ggX7_misses_X7_dutyFor
theorem dX7_misses_0 : decode cX7_misses 0 = .ok (.aload_n 0, 1) := by decide +kernel
theorem dX7_misses_1 : decode cX7_misses 1 = .ok (.getfield 25, 3) := by decide +kernel
theorem dX7_misses_4 : decode cX7_misses 4 = .ok (.iconst 5, 1) := by decide +kernel
theorem dX7_misses_5 : decode cX7_misses 5 = .ok (.dup2, 1) := by decide +kernel
theorem dX7_misses_6 : decode cX7_misses 6 = .ok (.iaload, 1) := by decide +kernel
theorem dX7_misses_7 : decode cX7_misses 7 = .ok (.iload_n 1, 1) := by decide +kernel
theorem dX7_misses_8 : decode cX7_misses 8 = .ok (.iadd, 1) := by decide +kernel
theorem dX7_misses_9 : decode cX7_misses 9 = .ok (.iastore, 1) := by decide +kernel
theorem dX7_misses_10 : decode cX7_misses 10 = .ok (.aload_n 0, 1) := by decide +kernel
theorem dX7_misses_11 : decode cX7_misses 11 = .ok (.iload_n 1, 1) := by decide +kernel
theorem dX7_misses_12 : decode cX7_misses 12 = .ok (.aload_n 0, 1) := by decide +kernel
theorem dX7_misses_13 : decode cX7_misses 13 = .ok (.getfield 28, 3) := by decide +kernel
theorem dX7_misses_16 : decode cX7_misses 16 = .ok (.invokevirtual 82, 3) := by decide +kernel
theorem dX7_misses_19 : decode cX7_misses 19 = .ok (.istore_n 2, 1) := by decide +kernel
theorem dX7_misses_20 : decode cX7_misses 20 = .ok (.aload_n 0, 1) := by decide +kernel
theorem dX7_misses_21 : decode cX7_misses 21 = .ok (.dup, 1) := by decide +kernel
theorem dX7_misses_22 : decode cX7_misses 22 = .ok (.getfield 85, 3) := by decide +kernel
theorem dX7_misses_25 : decode cX7_misses 25 = .ok (.iload_n 2, 1) := by decide +kernel
theorem dX7_misses_26 : decode cX7_misses 26 = .ok (.iadd, 1) := by decide +kernel
theorem dX7_misses_27 : decode cX7_misses 27 = .ok (.putfield 85, 3) := by decide +kernel
theorem dX7_misses_30 : decode cX7_misses 30 = .ok (.iload_n 2, 1) := by decide +kernel
theorem dX7_misses_31 : decode cX7_misses 31 = .ok (.ireturn, 1) := by decide +kernel
set_option maxRecDepth 20000 in
theorem ggX7_vessel_X7_isPlace : GoodIn wsX7_vessel wsX7_isPlace := goodIn_r _ [8, 9, 10, 7, 11] (by decide +kernel) (by decide +kernel)
set_option maxRecDepth 20000 in
theorem gX7_vessel_X7_isPlace : GoodIn wsX7_vessel (va_wsS RX7 88 yX7_isPlace wsX7_isPlace) := goodIn_app (goodIn_of _ (by decide +kernel)) ggX7_vessel_X7_isPlace
set_option maxRecDepth 20000 in
theorem ggX7_vessel_X7_in : GoodIn wsX7_vessel wsX7_in := goodIn_r _ [11] (by decide +kernel) (by decide +kernel)
set_option maxRecDepth 20000 in
theorem gX7_vessel_X7_in : GoodIn wsX7_vessel (va_wsS RX7 62 yX7_in wsX7_in) := goodIn_app (goodIn_of _ (by decide +kernel)) ggX7_vessel_X7_in
theorem dX7_vessel_0 : decode cX7_vessel 0 = .ok (.aload_n 0, 1) := by decide +kernel
theorem dX7_vessel_1 : decode cX7_vessel 1 = .ok (.iload_n 1, 1) := by decide +kernel
theorem dX7_vessel_2 : decode cX7_vessel 2 = .ok (.invokestatic 88, 3) := by decide +kernel
theorem dX7_vessel_5 : decode cX7_vessel 5 = .ok (.ifCond .ne 7, 3) := by decide +kernel
theorem dX7_vessel_8 : decode cX7_vessel 8 = .ok (.iconst 1, 1) := by decide +kernel
theorem dX7_vessel_9 : decode cX7_vessel 9 = .ok (.goto 32, 3) := by decide +kernel
theorem dX7_vessel_12 : decode cX7_vessel 12 = .ok (.iload_n 2, 1) := by decide +kernel
theorem dX7_vessel_13 : decode cX7_vessel 13 = .ok (.iconst 1, 1) := by decide +kernel
theorem dX7_vessel_14 : decode cX7_vessel 14 = .ok (.sipush 9999, 3) := by decide +kernel
theorem dX7_vessel_17 : decode cX7_vessel 17 = .ok (.invokestatic 62, 3) := by decide +kernel
theorem dX7_vessel_20 : decode cX7_vessel 20 = .ok (.ifCond .ne 7, 3) := by decide +kernel
theorem dX7_vessel_23 : decode cX7_vessel 23 = .ok (.iconst 2, 1) := by decide +kernel
theorem dX7_vessel_24 : decode cX7_vessel 24 = .ok (.goto 17, 3) := by decide +kernel
theorem dX7_vessel_27 : decode cX7_vessel 27 = .ok (.aload_n 0, 1) := by decide +kernel
theorem dX7_vessel_28 : decode cX7_vessel 28 = .ok (.getfield 59, 3) := by decide +kernel
theorem dX7_vessel_31 : decode cX7_vessel 31 = .ok (.bipush 10, 2) := by decide +kernel
theorem dX7_vessel_33 : decode cX7_vessel 33 = .ok (.if_icmp .ne 7, 3) := by decide +kernel
theorem dX7_vessel_36 : decode cX7_vessel 36 = .ok (.iconst 3, 1) := by decide +kernel
theorem dX7_vessel_37 : decode cX7_vessel 37 = .ok (.goto 4, 3) := by decide +kernel
theorem dX7_vessel_40 : decode cX7_vessel 40 = .ok (.iconst 0, 1) := by decide +kernel
theorem dX7_vessel_41 : decode cX7_vessel 41 = .ok (.putfield 56, 3) := by decide +kernel
theorem dX7_vessel_44 : decode cX7_vessel 44 = .ok (.aload_n 0, 1) := by decide +kernel
theorem dX7_vessel_45 : decode cX7_vessel 45 = .ok (.getfield 56, 3) := by decide +kernel
theorem dX7_vessel_48 : decode cX7_vessel 48 = .ok (.ifCond .le 5, 3) := by decide +kernel
theorem dX7_vessel_51 : decode cX7_vessel 51 = .ok (.iconst 0, 1) := by decide +kernel
theorem dX7_vessel_52 : decode cX7_vessel 52 = .ok (.ireturn, 1) := by decide +kernel
theorem dX7_vessel_53 : decode cX7_vessel 53 = .ok (.aload_n 0, 1) := by decide +kernel
theorem dX7_vessel_54 : decode cX7_vessel 54 = .ok (.getfield 7, 3) := by decide +kernel
theorem dX7_vessel_57 : decode cX7_vessel 57 = .ok (.aload_n 0, 1) := by decide +kernel
theorem dX7_vessel_58 : decode cX7_vessel 58 = .ok (.getfield 59, 3) := by decide +kernel
theorem dX7_vessel_61 : decode cX7_vessel 61 = .ok (.iload_n 1, 1) := by decide +kernel
theorem dX7_vessel_62 : decode cX7_vessel 62 = .ok (.iastore, 1) := by decide +kernel
theorem dX7_vessel_63 : decode cX7_vessel 63 = .ok (.aload_n 0, 1) := by decide +kernel
theorem dX7_vessel_64 : decode cX7_vessel 64 = .ok (.getfield 13, 3) := by decide +kernel
theorem dX7_vessel_67 : decode cX7_vessel 67 = .ok (.aload_n 0, 1) := by decide +kernel
theorem dX7_vessel_68 : decode cX7_vessel 68 = .ok (.getfield 59, 3) := by decide +kernel
theorem dX7_vessel_71 : decode cX7_vessel 71 = .ok (.iload_n 2, 1) := by decide +kernel
theorem dX7_vessel_72 : decode cX7_vessel 72 = .ok (.iastore, 1) := by decide +kernel
theorem dX7_vessel_73 : decode cX7_vessel 73 = .ok (.aload_n 0, 1) := by decide +kernel
theorem dX7_vessel_74 : decode cX7_vessel 74 = .ok (.dup, 1) := by decide +kernel
theorem dX7_vessel_75 : decode cX7_vessel 75 = .ok (.getfield 59, 3) := by decide +kernel
theorem dX7_vessel_78 : decode cX7_vessel 78 = .ok (.iconst 1, 1) := by decide +kernel
theorem dX7_vessel_79 : decode cX7_vessel 79 = .ok (.iadd, 1) := by decide +kernel
theorem dX7_vessel_80 : decode cX7_vessel 80 = .ok (.putfield 59, 3) := by decide +kernel
theorem dX7_vessel_83 : decode cX7_vessel 83 = .ok (.aload_n 0, 1) := by decide +kernel
theorem dX7_vessel_84 : decode cX7_vessel 84 = .ok (.getfield 59, 3) := by decide +kernel
theorem dX7_vessel_87 : decode cX7_vessel 87 = .ok (.iconst 1, 1) := by decide +kernel
theorem dX7_vessel_88 : decode cX7_vessel 88 = .ok (.isub, 1) := by decide +kernel
theorem dX7_vessel_89 : decode cX7_vessel 89 = .ok (.ireturn, 1) := by decide +kernel
set_option maxRecDepth 20000 in
theorem ggX7_shares_X7_isPlace : GoodIn wsX7_shares wsX7_isPlace := goodIn_r _ [6, 7, 8, 5, 9] (by decide +kernel) (by decide +kernel)
set_option maxRecDepth 20000 in
theorem gX7_shares_X7_isPlace : GoodIn wsX7_shares (va_wsS RX7 88 yX7_isPlace wsX7_isPlace) := goodIn_app (goodIn_of _ (by decide +kernel)) ggX7_shares_X7_isPlace
set_option maxRecDepth 20000 in
theorem ggX7_shares_X7_in : GoodIn wsX7_shares wsX7_in := goodIn_r _ [9] (by decide +kernel) (by decide +kernel)
set_option maxRecDepth 20000 in
theorem gX7_shares_X7_in : GoodIn wsX7_shares (va_wsS RX7 62 yX7_in wsX7_in) := goodIn_app (goodIn_of _ (by decide +kernel)) ggX7_shares_X7_in
theorem dX7_shares_0 : decode cX7_shares 0 = .ok (.aload_n 0, 1) := by decide +kernel
theorem dX7_shares_1 : decode cX7_shares 1 = .ok (.iload_n 1, 1) := by decide +kernel
theorem dX7_shares_2 : decode cX7_shares 2 = .ok (.invokestatic 88, 3) := by decide +kernel
theorem dX7_shares_5 : decode cX7_shares 5 = .ok (.ifCond .ne 7, 3) := by decide +kernel
theorem dX7_shares_8 : decode cX7_shares 8 = .ok (.iconst 1, 1) := by decide +kernel
theorem dX7_shares_9 : decode cX7_shares 9 = .ok (.goto 19, 3) := by decide +kernel
theorem dX7_shares_12 : decode cX7_shares 12 = .ok (.iload_n 2, 1) := by decide +kernel
theorem dX7_shares_13 : decode cX7_shares 13 = .ok (.iconst 0, 1) := by decide +kernel
theorem dX7_shares_14 : decode cX7_shares 14 = .ok (.sipush 500, 3) := by decide +kernel
theorem dX7_shares_17 : decode cX7_shares 17 = .ok (.invokestatic 62, 3) := by decide +kernel
theorem dX7_shares_20 : decode cX7_shares 20 = .ok (.ifCond .eq 7, 3) := by decide +kernel
theorem dX7_shares_23 : decode cX7_shares 23 = .ok (.iconst 0, 1) := by decide +kernel
theorem dX7_shares_24 : decode cX7_shares 24 = .ok (.goto 4, 3) := by decide +kernel
theorem dX7_shares_27 : decode cX7_shares 27 = .ok (.iconst 2, 1) := by decide +kernel
theorem dX7_shares_28 : decode cX7_shares 28 = .ok (.putfield 56, 3) := by decide +kernel
theorem dX7_shares_31 : decode cX7_shares 31 = .ok (.aload_n 0, 1) := by decide +kernel
theorem dX7_shares_32 : decode cX7_shares 32 = .ok (.getfield 56, 3) := by decide +kernel
theorem dX7_shares_35 : decode cX7_shares 35 = .ok (.ifCond .le 5, 3) := by decide +kernel
theorem dX7_shares_38 : decode cX7_shares 38 = .ok (.iconst 0, 1) := by decide +kernel
theorem dX7_shares_39 : decode cX7_shares 39 = .ok (.ireturn, 1) := by decide +kernel
theorem dX7_shares_40 : decode cX7_shares 40 = .ok (.aload_n 0, 1) := by decide +kernel
theorem dX7_shares_41 : decode cX7_shares 41 = .ok (.getfield 22, 3) := by decide +kernel
theorem dX7_shares_44 : decode cX7_shares 44 = .ok (.iload_n 1, 1) := by decide +kernel
theorem dX7_shares_45 : decode cX7_shares 45 = .ok (.iaload, 1) := by decide +kernel
theorem dX7_shares_46 : decode cX7_shares 46 = .ok (.istore_n 3, 1) := by decide +kernel
theorem dX7_shares_47 : decode cX7_shares 47 = .ok (.aload_n 0, 1) := by decide +kernel
theorem dX7_shares_48 : decode cX7_shares 48 = .ok (.getfield 22, 3) := by decide +kernel
theorem dX7_shares_51 : decode cX7_shares 51 = .ok (.iload_n 1, 1) := by decide +kernel
theorem dX7_shares_52 : decode cX7_shares 52 = .ok (.iload_n 2, 1) := by decide +kernel
theorem dX7_shares_53 : decode cX7_shares 53 = .ok (.iastore, 1) := by decide +kernel
theorem dX7_shares_54 : decode cX7_shares 54 = .ok (.iload_n 3, 1) := by decide +kernel
theorem dX7_shares_55 : decode cX7_shares 55 = .ok (.ireturn, 1) := by decide +kernel
set_option maxRecDepth 20000 in
theorem ggX7_run_X7_in : GoodIn wsX7_run wsX7_in := goodIn_r _ [9] (by decide +kernel) (by decide +kernel)
set_option maxRecDepth 20000 in
theorem gX7_run_X7_in : GoodIn wsX7_run (va_wsS RX7 62 yX7_in wsX7_in) := goodIn_app (goodIn_of _ (by decide +kernel)) ggX7_run_X7_in
set_option maxRecDepth 20000 in
theorem ggX7_run_X7_isVessel : GoodIn wsX7_run wsX7_isVessel := goodIn_r _ [13, 14, 6, 7, 8, 9, 41, 42, 43, 44, 45, 46, 47, 48, 49, 50, 51, 52, 53, 54, 55, 56, 57, 58, 59, 60, 61, 62, 63, 64, 65, 66, 67, 68] (by decide +kernel) (by decide +kernel)
set_option maxRecDepth 20000 in
theorem gX7_run_X7_isVessel : GoodIn wsX7_run (wsV RX7 92 RX7 yX7_isVessel wsX7_isVessel) := goodIn_app (goodIn_of _ (by decide +kernel)) ggX7_run_X7_isVessel
set_option maxRecDepth 20000 in
theorem ggX7_run_X7_hasRoom : GoodIn wsX7_run wsX7_hasRoom := goodIn_r _ [18, 19, 20, 41, 42, 43, 44, 45, 46, 47, 48, 49, 50, 51, 52, 53, 54, 55, 56, 57, 58, 59, 60, 61, 62, 63, 64, 65, 66, 67, 68] (by decide +kernel) (by decide +kernel)
set_option maxRecDepth 20000 in
theorem gX7_run_X7_hasRoom : GoodIn wsX7_run (wsV RX7 98 RX7 yX7_hasRoom wsX7_hasRoom) := goodIn_app (goodIn_of _ (by decide +kernel)) ggX7_run_X7_hasRoom
set_option maxRecDepth 20000 in
theorem ggX7_run_X7_dutyFor : GoodIn wsX7_run wsX7_dutyFor := goodIn_r _ [24, 25] (by decide +kernel) (by decide +kernel)
set_option maxRecDepth 20000 in
theorem gX7_run_X7_dutyFor : GoodIn wsX7_run (wsV RX7 82 RX7 yX7_dutyFor wsX7_dutyFor) := goodIn_app (goodIn_of _ (by decide +kernel)) ggX7_run_X7_dutyFor
set_option maxRecDepth 20000 in
theorem ggX7_run_X7_comes : GoodIn wsX7_run wsX7_comes := goodIn_r _ [29, 19, 30, 31, 32, 33, 8, 34, 35, 36, 37, 38, 39, 40, 41, 42, 43, 44, 45, 46, 47, 48, 49, 50, 51, 52, 53, 54, 55, 56, 57, 58, 59, 60, 61, 62, 63, 64, 65, 66, 67, 68] (by decide +kernel) (by decide +kernel)
set_option maxRecDepth 20000 in
theorem gX7_run_X7_comes : GoodIn wsX7_run (wsV RX7 102 RX7 yX7_comes wsX7_comes) := goodIn_app (goodIn_of _ (by decide +kernel)) ggX7_run_X7_comes
theorem dX7_run_0 : decode cX7_run 0 = .ok (.iload_n 2, 1) := by decide +kernel
theorem dX7_run_1 : decode cX7_run 1 = .ok (.iconst 1, 1) := by decide +kernel
theorem dX7_run_2 : decode cX7_run 2 = .ok (.sipush 9999, 3) := by decide +kernel
theorem dX7_run_5 : decode cX7_run 5 = .ok (.invokestatic 62, 3) := by decide +kernel
theorem dX7_run_8 : decode cX7_run 8 = .ok (.ifCond .eq 42, 3) := by decide +kernel
theorem dX7_run_11 : decode cX7_run 11 = .ok (.iload_n 3, 1) := by decide +kernel
theorem dX7_run_12 : decode cX7_run 12 = .ok (.iconst 1, 1) := by decide +kernel
theorem dX7_run_13 : decode cX7_run 13 = .ok (.sipush 300, 3) := by decide +kernel
theorem dX7_run_16 : decode cX7_run 16 = .ok (.invokestatic 62, 3) := by decide +kernel
theorem dX7_run_19 : decode cX7_run 19 = .ok (.ifCond .eq 31, 3) := by decide +kernel
theorem dX7_run_22 : decode cX7_run 22 = .ok (.iload 4, 2) := by decide +kernel
theorem dX7_run_24 : decode cX7_run 24 = .ok (.iconst 1, 1) := by decide +kernel
theorem dX7_run_25 : decode cX7_run 25 = .ok (.sipush 9999, 3) := by decide +kernel
theorem dX7_run_28 : decode cX7_run 28 = .ok (.invokestatic 62, 3) := by decide +kernel
theorem dX7_run_31 : decode cX7_run 31 = .ok (.ifCond .eq 19, 3) := by decide +kernel
theorem dX7_run_34 : decode cX7_run 34 = .ok (.iload 5, 2) := by decide +kernel
theorem dX7_run_36 : decode cX7_run 36 = .ok (.iconst 1, 1) := by decide +kernel
theorem dX7_run_37 : decode cX7_run 37 = .ok (.sipush 960, 3) := by decide +kernel
theorem dX7_run_40 : decode cX7_run 40 = .ok (.invokestatic 62, 3) := by decide +kernel
theorem dX7_run_43 : decode cX7_run 43 = .ok (.ifCond .eq 7, 3) := by decide +kernel
theorem dX7_run_46 : decode cX7_run 46 = .ok (.iconst 1, 1) := by decide +kernel
theorem dX7_run_47 : decode cX7_run 47 = .ok (.goto 4, 3) := by decide +kernel
theorem dX7_run_50 : decode cX7_run 50 = .ok (.iconst 0, 1) := by decide +kernel
theorem dX7_run_51 : decode cX7_run 51 = .ok (.istore 6, 2) := by decide +kernel
theorem dX7_run_53 : decode cX7_run 53 = .ok (.aload_n 0, 1) := by decide +kernel
theorem dX7_run_54 : decode cX7_run 54 = .ok (.aload_n 0, 1) := by decide +kernel
theorem dX7_run_55 : decode cX7_run 55 = .ok (.iload_n 1, 1) := by decide +kernel
theorem dX7_run_56 : decode cX7_run 56 = .ok (.invokevirtual 92, 3) := by decide +kernel
theorem dX7_run_59 : decode cX7_run 59 = .ok (.ifCond .ne 7, 3) := by decide +kernel
theorem dX7_run_62 : decode cX7_run 62 = .ok (.iconst 1, 1) := by decide +kernel
theorem dX7_run_63 : decode cX7_run 63 = .ok (.goto 13, 3) := by decide +kernel
theorem dX7_run_66 : decode cX7_run 66 = .ok (.iload 6, 2) := by decide +kernel
theorem dX7_run_68 : decode cX7_run 68 = .ok (.ifCond .eq 7, 3) := by decide +kernel
theorem dX7_run_71 : decode cX7_run 71 = .ok (.iconst 0, 1) := by decide +kernel
theorem dX7_run_72 : decode cX7_run 72 = .ok (.goto 4, 3) := by decide +kernel
theorem dX7_run_75 : decode cX7_run 75 = .ok (.iconst 2, 1) := by decide +kernel
theorem dX7_run_76 : decode cX7_run 76 = .ok (.putfield 56, 3) := by decide +kernel
theorem dX7_run_79 : decode cX7_run 79 = .ok (.aload_n 0, 1) := by decide +kernel
theorem dX7_run_80 : decode cX7_run 80 = .ok (.getfield 56, 3) := by decide +kernel
theorem dX7_run_83 : decode cX7_run 83 = .ok (.ifCond .ne 54, 3) := by decide +kernel
theorem dX7_run_86 : decode cX7_run 86 = .ok (.iload 4, 2) := by decide +kernel
theorem dX7_run_88 : decode cX7_run 88 = .ok (.iload 5, 2) := by decide +kernel
theorem dX7_run_90 : decode cX7_run 90 = .ok (.imul, 1) := by decide +kernel
theorem dX7_run_91 : decode cX7_run 91 = .ok (.iload_n 2, 1) := by decide +kernel
theorem dX7_run_92 : decode cX7_run 92 = .ok (.iload_n 3, 1) := by decide +kernel
theorem dX7_run_93 : decode cX7_run 93 = .ok (.imul, 1) := by decide +kernel
theorem dX7_run_94 : decode cX7_run 94 = .ok (.if_icmp .gt 26, 3) := by decide +kernel
theorem dX7_run_97 : decode cX7_run 97 = .ok (.aload_n 0, 1) := by decide +kernel
theorem dX7_run_98 : decode cX7_run 98 = .ok (.getfield 95, 3) := by decide +kernel
theorem dX7_run_101 : decode cX7_run 101 = .ok (.bipush 60, 2) := by decide +kernel
theorem dX7_run_103 : decode cX7_run 103 = .ok (.if_icmp .ge 17, 3) := by decide +kernel
theorem dX7_run_106 : decode cX7_run 106 = .ok (.aload_n 0, 1) := by decide +kernel
theorem dX7_run_107 : decode cX7_run 107 = .ok (.iload_n 1, 1) := by decide +kernel
theorem dX7_run_108 : decode cX7_run 108 = .ok (.iload 4, 2) := by decide +kernel
theorem dX7_run_110 : decode cX7_run 110 = .ok (.invokevirtual 98, 3) := by decide +kernel
theorem dX7_run_113 : decode cX7_run 113 = .ok (.ifCond .eq 7, 3) := by decide +kernel
theorem dX7_run_116 : decode cX7_run 116 = .ok (.iconst 1, 1) := by decide +kernel
theorem dX7_run_117 : decode cX7_run 117 = .ok (.goto 4, 3) := by decide +kernel
theorem dX7_run_120 : decode cX7_run 120 = .ok (.iconst 0, 1) := by decide +kernel
theorem dX7_run_121 : decode cX7_run 121 = .ok (.istore 7, 2) := by decide +kernel
theorem dX7_run_123 : decode cX7_run 123 = .ok (.aload_n 0, 1) := by decide +kernel
theorem dX7_run_124 : decode cX7_run 124 = .ok (.iload 7, 2) := by decide +kernel
theorem dX7_run_126 : decode cX7_run 126 = .ok (.ifCond .eq 7, 3) := by decide +kernel
theorem dX7_run_129 : decode cX7_run 129 = .ok (.iconst 0, 1) := by decide +kernel
theorem dX7_run_130 : decode cX7_run 130 = .ok (.goto 4, 3) := by decide +kernel
theorem dX7_run_133 : decode cX7_run 133 = .ok (.iconst 3, 1) := by decide +kernel
theorem dX7_run_134 : decode cX7_run 134 = .ok (.putfield 56, 3) := by decide +kernel
theorem dX7_run_137 : decode cX7_run 137 = .ok (.aload_n 0, 1) := by decide +kernel
theorem dX7_run_138 : decode cX7_run 138 = .ok (.getfield 56, 3) := by decide +kernel
theorem dX7_run_141 : decode cX7_run 141 = .ok (.ifCond .le 5, 3) := by decide +kernel
theorem dX7_run_144 : decode cX7_run 144 = .ok (.iconst 0, 1) := by decide +kernel
theorem dX7_run_145 : decode cX7_run 145 = .ok (.ireturn, 1) := by decide +kernel
theorem dX7_run_146 : decode cX7_run 146 = .ok (.aload_n 0, 1) := by decide +kernel
theorem dX7_run_147 : decode cX7_run 147 = .ok (.dup, 1) := by decide +kernel
theorem dX7_run_148 : decode cX7_run 148 = .ok (.getfield 95, 3) := by decide +kernel
theorem dX7_run_151 : decode cX7_run 151 = .ok (.iconst 1, 1) := by decide +kernel
theorem dX7_run_152 : decode cX7_run 152 = .ok (.iadd, 1) := by decide +kernel
theorem dX7_run_153 : decode cX7_run 153 = .ok (.putfield 95, 3) := by decide +kernel
theorem dX7_run_156 : decode cX7_run 156 = .ok (.iload 4, 2) := by decide +kernel
theorem dX7_run_158 : decode cX7_run 158 = .ok (.iload 5, 2) := by decide +kernel
theorem dX7_run_160 : decode cX7_run 160 = .ok (.imul, 1) := by decide +kernel
theorem dX7_run_161 : decode cX7_run 161 = .ok (.istore 7, 2) := by decide +kernel
theorem dX7_run_163 : decode cX7_run 163 = .ok (.bipush 9, 2) := by decide +kernel
theorem dX7_run_165 : decode cX7_run 165 = .ok (.iload_n 2, 1) := by decide +kernel
theorem dX7_run_166 : decode cX7_run 166 = .ok (.imul, 1) := by decide +kernel
theorem dX7_run_167 : decode cX7_run 167 = .ok (.iload_n 3, 1) := by decide +kernel
theorem dX7_run_168 : decode cX7_run 168 = .ok (.imul, 1) := by decide +kernel
theorem dX7_run_169 : decode cX7_run 169 = .ok (.bipush 10, 2) := by decide +kernel
theorem dX7_run_171 : decode cX7_run 171 = .ok (.idiv, 1) := by decide +kernel
theorem dX7_run_172 : decode cX7_run 172 = .ok (.iload 7, 2) := by decide +kernel
theorem dX7_run_174 : decode cX7_run 174 = .ok (.isub, 1) := by decide +kernel
theorem dX7_run_175 : decode cX7_run 175 = .ok (.istore 8, 2) := by decide +kernel
theorem dX7_run_177 : decode cX7_run 177 = .ok (.iload 8, 2) := by decide +kernel
theorem dX7_run_179 : decode cX7_run 179 = .ok (.ifCond .ge 7, 3) := by decide +kernel
theorem dX7_run_182 : decode cX7_run 182 = .ok (.iconst 0, 1) := by decide +kernel
theorem dX7_run_183 : decode cX7_run 183 = .ok (.goto 5, 3) := by decide +kernel
theorem dX7_run_186 : decode cX7_run 186 = .ok (.iload 8, 2) := by decide +kernel
theorem dX7_run_188 : decode cX7_run 188 = .ok (.istore 8, 2) := by decide +kernel
theorem dX7_run_190 : decode cX7_run 190 = .ok (.aload_n 0, 1) := by decide +kernel
theorem dX7_run_191 : decode cX7_run 191 = .ok (.getfield 25, 3) := by decide +kernel
theorem dX7_run_194 : decode cX7_run 194 = .ok (.bipush 7, 2) := by decide +kernel
theorem dX7_run_196 : decode cX7_run 196 = .ok (.dup2, 1) := by decide +kernel
theorem dX7_run_197 : decode cX7_run 197 = .ok (.iaload, 1) := by decide +kernel
theorem dX7_run_198 : decode cX7_run 198 = .ok (.iload 8, 2) := by decide +kernel
theorem dX7_run_200 : decode cX7_run 200 = .ok (.iadd, 1) := by decide +kernel
theorem dX7_run_201 : decode cX7_run 201 = .ok (.iastore, 1) := by decide +kernel
theorem dX7_run_202 : decode cX7_run 202 = .ok (.aload_n 0, 1) := by decide +kernel
theorem dX7_run_203 : decode cX7_run 203 = .ok (.dup, 1) := by decide +kernel
theorem dX7_run_204 : decode cX7_run 204 = .ok (.getfield 85, 3) := by decide +kernel
theorem dX7_run_207 : decode cX7_run 207 = .ok (.aload_n 0, 1) := by decide +kernel
theorem dX7_run_208 : decode cX7_run 208 = .ok (.iload 8, 2) := by decide +kernel
theorem dX7_run_210 : decode cX7_run 210 = .ok (.aload_n 0, 1) := by decide +kernel
theorem dX7_run_211 : decode cX7_run 211 = .ok (.getfield 28, 3) := by decide +kernel
theorem dX7_run_214 : decode cX7_run 214 = .ok (.invokevirtual 82, 3) := by decide +kernel
theorem dX7_run_217 : decode cX7_run 217 = .ok (.iadd, 1) := by decide +kernel
theorem dX7_run_218 : decode cX7_run 218 = .ok (.putfield 85, 3) := by decide +kernel
theorem dX7_run_221 : decode cX7_run 221 = .ok (.aload_n 0, 1) := by decide +kernel
theorem dX7_run_222 : decode cX7_run 222 = .ok (.getfield 25, 3) := by decide +kernel
theorem dX7_run_225 : decode cX7_run 225 = .ok (.iconst 0, 1) := by decide +kernel
theorem dX7_run_226 : decode cX7_run 226 = .ok (.dup2, 1) := by decide +kernel
theorem dX7_run_227 : decode cX7_run 227 = .ok (.iaload, 1) := by decide +kernel
theorem dX7_run_228 : decode cX7_run 228 = .ok (.iload 7, 2) := by decide +kernel
theorem dX7_run_230 : decode cX7_run 230 = .ok (.iadd, 1) := by decide +kernel
theorem dX7_run_231 : decode cX7_run 231 = .ok (.iastore, 1) := by decide +kernel
theorem dX7_run_232 : decode cX7_run 232 = .ok (.aload_n 0, 1) := by decide +kernel
theorem dX7_run_233 : decode cX7_run 233 = .ok (.iload_n 1, 1) := by decide +kernel
theorem dX7_run_234 : decode cX7_run 234 = .ok (.iload 4, 2) := by decide +kernel
theorem dX7_run_236 : decode cX7_run 236 = .ok (.iload 7, 2) := by decide +kernel
theorem dX7_run_238 : decode cX7_run 238 = .ok (.invokevirtual 102, 3) := by decide +kernel
theorem dX7_run_241 : decode cX7_run 241 = .ok (.iload 8, 2) := by decide +kernel
theorem dX7_run_243 : decode cX7_run 243 = .ok (.ireturn, 1) := by decide +kernel
theorem dX7_hasPart_0 : decode cX7_hasPart 0 = .ok (.iload_n 2, 1) := by decide +kernel
theorem dX7_hasPart_1 : decode cX7_hasPart 1 = .ok (.aload_n 0, 1) := by decide +kernel
theorem dX7_hasPart_2 : decode cX7_hasPart 2 = .ok (.getfield 16, 3) := by decide +kernel
theorem dX7_hasPart_5 : decode cX7_hasPart 5 = .ok (.iload_n 1, 1) := by decide +kernel
theorem dX7_hasPart_6 : decode cX7_hasPart 6 = .ok (.iaload, 1) := by decide +kernel
theorem dX7_hasPart_7 : decode cX7_hasPart 7 = .ok (.if_icmp .gt 7, 3) := by decide +kernel
theorem dX7_hasPart_10 : decode cX7_hasPart 10 = .ok (.iconst 1, 1) := by decide +kernel
theorem dX7_hasPart_11 : decode cX7_hasPart 11 = .ok (.goto 4, 3) := by decide +kernel
theorem dX7_hasPart_14 : decode cX7_hasPart 14 = .ok (.iconst 0, 1) := by decide +kernel
theorem dX7_hasPart_15 : decode cX7_hasPart 15 = .ok (.ireturn, 1) := by decide +kernel
theorem dX7_hasRoom_0 : decode cX7_hasRoom 0 = .ok (.aload_n 0, 1) := by decide +kernel
theorem dX7_hasRoom_1 : decode cX7_hasRoom 1 = .ok (.getfield 16, 3) := by decide +kernel
theorem dX7_hasRoom_4 : decode cX7_hasRoom 4 = .ok (.iload_n 1, 1) := by decide +kernel
theorem dX7_hasRoom_5 : decode cX7_hasRoom 5 = .ok (.iaload, 1) := by decide +kernel
theorem dX7_hasRoom_6 : decode cX7_hasRoom 6 = .ok (.iload_n 2, 1) := by decide +kernel
theorem dX7_hasRoom_7 : decode cX7_hasRoom 7 = .ok (.iadd, 1) := by decide +kernel
theorem dX7_hasRoom_8 : decode cX7_hasRoom 8 = .ok (.aload_n 0, 1) := by decide +kernel
theorem dX7_hasRoom_9 : decode cX7_hasRoom 9 = .ok (.getfield 13, 3) := by decide +kernel
theorem dX7_hasRoom_12 : decode cX7_hasRoom 12 = .ok (.iload_n 1, 1) := by decide +kernel
theorem dX7_hasRoom_13 : decode cX7_hasRoom 13 = .ok (.iaload, 1) := by decide +kernel
theorem dX7_hasRoom_14 : decode cX7_hasRoom 14 = .ok (.if_icmp .gt 7, 3) := by decide +kernel
theorem dX7_hasRoom_17 : decode cX7_hasRoom 17 = .ok (.iconst 1, 1) := by decide +kernel
theorem dX7_hasRoom_18 : decode cX7_hasRoom 18 = .ok (.goto 4, 3) := by decide +kernel
theorem dX7_hasRoom_21 : decode cX7_hasRoom 21 = .ok (.iconst 0, 1) := by decide +kernel
theorem dX7_hasRoom_22 : decode cX7_hasRoom 22 = .ok (.ireturn, 1) := by decide +kernel
set_option maxRecDepth 20000 in
theorem ggX7_move_X7_isVessel : GoodIn wsX7_move wsX7_isVessel := goodIn_r _ [8, 9, 10, 11, 7, 12, 44, 45, 46, 47, 48, 49, 50, 51, 52, 53, 54, 55, 56, 57, 58, 59, 60, 61, 62, 63, 64, 65, 66, 67, 68, 69, 70, 71] (by decide +kernel) (by decide +kernel)
set_option maxRecDepth 20000 in
theorem gX7_move_X7_isVessel : GoodIn wsX7_move (wsV RX7 92 RX7 yX7_isVessel wsX7_isVessel) := goodIn_app (goodIn_of _ (by decide +kernel)) ggX7_move_X7_isVessel
set_option maxRecDepth 20000 in
theorem ggX7_move_X7_hasPart : GoodIn wsX7_move wsX7_hasPart := goodIn_r _ [16, 3, 44, 45, 46, 47, 48, 49, 50, 51, 52, 53, 54, 55, 56, 57, 58, 59, 60, 61, 62, 63, 64, 65, 66, 67, 68, 69, 70, 71] (by decide +kernel) (by decide +kernel)
set_option maxRecDepth 20000 in
theorem gX7_move_X7_hasPart : GoodIn wsX7_move (wsV RX7 106 RX7 yX7_hasPart wsX7_hasPart) := goodIn_app (goodIn_of _ (by decide +kernel)) ggX7_move_X7_hasPart
set_option maxRecDepth 20000 in
theorem ggX7_move_X7_hasRoom : GoodIn wsX7_move wsX7_hasRoom := goodIn_r _ [20, 3, 21, 44, 45, 46, 47, 48, 49, 50, 51, 52, 53, 54, 55, 56, 57, 58, 59, 60, 61, 62, 63, 64, 65, 66, 67, 68, 69, 70, 71] (by decide +kernel) (by decide +kernel)
set_option maxRecDepth 20000 in
theorem gX7_move_X7_hasRoom : GoodIn wsX7_move (wsV RX7 98 RX7 yX7_hasRoom wsX7_hasRoom) := goodIn_app (goodIn_of _ (by decide +kernel)) ggX7_move_X7_hasRoom
set_option maxRecDepth 20000 in
theorem ggX7_move_X7_takes : GoodIn wsX7_move wsX7_takes := goodIn_r _ [25, 26, 3, 27, 28, 7, 29, 44, 45, 46, 47, 48, 49, 50, 51, 52, 53, 54, 55, 56, 57, 58, 59, 60, 61, 62, 63, 64, 65, 66, 67, 68, 69, 70, 71] (by decide +kernel) (by decide +kernel)
set_option maxRecDepth 20000 in
theorem gX7_move_X7_takes : GoodIn wsX7_move (wsV RX7 109 RX7 yX7_takes wsX7_takes) := goodIn_app (goodIn_of _ (by decide +kernel)) ggX7_move_X7_takes
set_option maxRecDepth 20000 in
theorem ggX7_move_X7_comes : GoodIn wsX7_move wsX7_comes := goodIn_r _ [33, 3, 26, 34, 35, 36, 7, 37, 38, 39, 40, 41, 42, 43, 44, 45, 46, 47, 48, 49, 50, 51, 52, 53, 54, 55, 56, 57, 58, 59, 60, 61, 62, 63, 64, 65, 66, 67, 68, 69, 70, 71] (by decide +kernel) (by decide +kernel)
set_option maxRecDepth 20000 in
theorem gX7_move_X7_comes : GoodIn wsX7_move (wsV RX7 102 RX7 yX7_comes wsX7_comes) := goodIn_app (goodIn_of _ (by decide +kernel)) ggX7_move_X7_comes
theorem dX7_move_0 : decode cX7_move 0 = .ok (.aload_n 0, 1) := by decide +kernel
theorem dX7_move_1 : decode cX7_move 1 = .ok (.iload_n 1, 1) := by decide +kernel
theorem dX7_move_2 : decode cX7_move 2 = .ok (.invokevirtual 92, 3) := by decide +kernel
theorem dX7_move_5 : decode cX7_move 5 = .ok (.ifCond .eq 15, 3) := by decide +kernel
theorem dX7_move_8 : decode cX7_move 8 = .ok (.aload_n 0, 1) := by decide +kernel
theorem dX7_move_9 : decode cX7_move 9 = .ok (.iload_n 2, 1) := by decide +kernel
theorem dX7_move_10 : decode cX7_move 10 = .ok (.invokevirtual 92, 3) := by decide +kernel
theorem dX7_move_13 : decode cX7_move 13 = .ok (.ifCond .eq 7, 3) := by decide +kernel
theorem dX7_move_16 : decode cX7_move 16 = .ok (.iconst 1, 1) := by decide +kernel
theorem dX7_move_17 : decode cX7_move 17 = .ok (.goto 4, 3) := by decide +kernel
theorem dX7_move_20 : decode cX7_move 20 = .ok (.iconst 0, 1) := by decide +kernel
theorem dX7_move_21 : decode cX7_move 21 = .ok (.istore 4, 2) := by decide +kernel
theorem dX7_move_23 : decode cX7_move 23 = .ok (.aload_n 0, 1) := by decide +kernel
theorem dX7_move_24 : decode cX7_move 24 = .ok (.iload 4, 2) := by decide +kernel
theorem dX7_move_26 : decode cX7_move 26 = .ok (.ifCond .ne 7, 3) := by decide +kernel
theorem dX7_move_29 : decode cX7_move 29 = .ok (.iconst 1, 1) := by decide +kernel
theorem dX7_move_30 : decode cX7_move 30 = .ok (.goto 18, 3) := by decide +kernel
theorem dX7_move_33 : decode cX7_move 33 = .ok (.iload_n 1, 1) := by decide +kernel
theorem dX7_move_34 : decode cX7_move 34 = .ok (.iload_n 2, 1) := by decide +kernel
theorem dX7_move_35 : decode cX7_move 35 = .ok (.if_icmp .eq 8, 3) := by decide +kernel
theorem dX7_move_38 : decode cX7_move 38 = .ok (.iload_n 3, 1) := by decide +kernel
theorem dX7_move_39 : decode cX7_move 39 = .ok (.iconst 1, 1) := by decide +kernel
theorem dX7_move_40 : decode cX7_move 40 = .ok (.if_icmp .ge 7, 3) := by decide +kernel
theorem dX7_move_43 : decode cX7_move 43 = .ok (.iconst 2, 1) := by decide +kernel
theorem dX7_move_44 : decode cX7_move 44 = .ok (.goto 4, 3) := by decide +kernel
theorem dX7_move_47 : decode cX7_move 47 = .ok (.iconst 0, 1) := by decide +kernel
theorem dX7_move_48 : decode cX7_move 48 = .ok (.putfield 56, 3) := by decide +kernel
theorem dX7_move_51 : decode cX7_move 51 = .ok (.aload_n 0, 1) := by decide +kernel
theorem dX7_move_52 : decode cX7_move 52 = .ok (.getfield 56, 3) := by decide +kernel
theorem dX7_move_55 : decode cX7_move 55 = .ok (.ifCond .ne 45, 3) := by decide +kernel
theorem dX7_move_58 : decode cX7_move 58 = .ok (.aload_n 0, 1) := by decide +kernel
theorem dX7_move_59 : decode cX7_move 59 = .ok (.aload_n 0, 1) := by decide +kernel
theorem dX7_move_60 : decode cX7_move 60 = .ok (.getfield 7, 3) := by decide +kernel
theorem dX7_move_63 : decode cX7_move 63 = .ok (.iload_n 1, 1) := by decide +kernel
theorem dX7_move_64 : decode cX7_move 64 = .ok (.iaload, 1) := by decide +kernel
theorem dX7_move_65 : decode cX7_move 65 = .ok (.aload_n 0, 1) := by decide +kernel
theorem dX7_move_66 : decode cX7_move 66 = .ok (.getfield 7, 3) := by decide +kernel
theorem dX7_move_69 : decode cX7_move 69 = .ok (.iload_n 2, 1) := by decide +kernel
theorem dX7_move_70 : decode cX7_move 70 = .ok (.iaload, 1) := by decide +kernel
theorem dX7_move_71 : decode cX7_move 71 = .ok (.if_icmp .ne 25, 3) := by decide +kernel
theorem dX7_move_74 : decode cX7_move 74 = .ok (.aload_n 0, 1) := by decide +kernel
theorem dX7_move_75 : decode cX7_move 75 = .ok (.iload_n 1, 1) := by decide +kernel
theorem dX7_move_76 : decode cX7_move 76 = .ok (.iload_n 3, 1) := by decide +kernel
theorem dX7_move_77 : decode cX7_move 77 = .ok (.invokevirtual 106, 3) := by decide +kernel
theorem dX7_move_80 : decode cX7_move 80 = .ok (.ifCond .eq 16, 3) := by decide +kernel
theorem dX7_move_83 : decode cX7_move 83 = .ok (.aload_n 0, 1) := by decide +kernel
theorem dX7_move_84 : decode cX7_move 84 = .ok (.iload_n 2, 1) := by decide +kernel
theorem dX7_move_85 : decode cX7_move 85 = .ok (.iload_n 3, 1) := by decide +kernel
theorem dX7_move_86 : decode cX7_move 86 = .ok (.invokevirtual 98, 3) := by decide +kernel
theorem dX7_move_89 : decode cX7_move 89 = .ok (.ifCond .eq 7, 3) := by decide +kernel
theorem dX7_move_92 : decode cX7_move 92 = .ok (.iconst 0, 1) := by decide +kernel
theorem dX7_move_93 : decode cX7_move 93 = .ok (.goto 4, 3) := by decide +kernel
theorem dX7_move_96 : decode cX7_move 96 = .ok (.iconst 3, 1) := by decide +kernel
theorem dX7_move_97 : decode cX7_move 97 = .ok (.putfield 56, 3) := by decide +kernel
theorem dX7_move_100 : decode cX7_move 100 = .ok (.aload_n 0, 1) := by decide +kernel
theorem dX7_move_101 : decode cX7_move 101 = .ok (.getfield 56, 3) := by decide +kernel
theorem dX7_move_104 : decode cX7_move 104 = .ok (.ifCond .le 5, 3) := by decide +kernel
theorem dX7_move_107 : decode cX7_move 107 = .ok (.iconst 0, 1) := by decide +kernel
theorem dX7_move_108 : decode cX7_move 108 = .ok (.ireturn, 1) := by decide +kernel
theorem dX7_move_109 : decode cX7_move 109 = .ok (.aload_n 0, 1) := by decide +kernel
theorem dX7_move_110 : decode cX7_move 110 = .ok (.iload_n 2, 1) := by decide +kernel
theorem dX7_move_111 : decode cX7_move 111 = .ok (.iload_n 3, 1) := by decide +kernel
theorem dX7_move_112 : decode cX7_move 112 = .ok (.aload_n 0, 1) := by decide +kernel
theorem dX7_move_113 : decode cX7_move 113 = .ok (.iload_n 1, 1) := by decide +kernel
theorem dX7_move_114 : decode cX7_move 114 = .ok (.iload_n 3, 1) := by decide +kernel
theorem dX7_move_115 : decode cX7_move 115 = .ok (.invokevirtual 109, 3) := by decide +kernel
theorem dX7_move_118 : decode cX7_move 118 = .ok (.invokevirtual 102, 3) := by decide +kernel
theorem dX7_move_121 : decode cX7_move 121 = .ok (.aload_n 0, 1) := by decide +kernel
theorem dX7_move_122 : decode cX7_move 122 = .ok (.getfield 16, 3) := by decide +kernel
theorem dX7_move_125 : decode cX7_move 125 = .ok (.iload_n 2, 1) := by decide +kernel
theorem dX7_move_126 : decode cX7_move 126 = .ok (.iaload, 1) := by decide +kernel
theorem dX7_move_127 : decode cX7_move 127 = .ok (.ireturn, 1) := by decide +kernel
set_option maxRecDepth 20000 in
theorem ggX7_dip_X7_isVessel : GoodIn wsX7_dip wsX7_isVessel := goodIn_r _ [11, 12, 13, 14, 10, 15, 27, 28, 29, 30, 31, 32, 33, 34, 35, 36, 37, 38, 39, 40, 41, 42, 43, 44, 45, 46, 47, 48, 49, 50, 51, 52, 53, 54] (by decide +kernel) (by decide +kernel)
set_option maxRecDepth 20000 in
theorem gX7_dip_X7_isVessel : GoodIn wsX7_dip (wsV RX7 92 RX7 yX7_isVessel wsX7_isVessel) := goodIn_app (goodIn_of _ (by decide +kernel)) ggX7_dip_X7_isVessel
set_option maxRecDepth 20000 in
theorem ggX7_dip_X7_in : GoodIn wsX7_dip wsX7_in := goodIn_r _ [15] (by decide +kernel) (by decide +kernel)
set_option maxRecDepth 20000 in
theorem gX7_dip_X7_in : GoodIn wsX7_dip (va_wsS RX7 62 yX7_in wsX7_in) := goodIn_app (goodIn_of _ (by decide +kernel)) ggX7_dip_X7_in
set_option maxRecDepth 20000 in
theorem ggX7_dip_X7_misses : GoodIn wsX7_dip wsX7_misses := goodIn_r _ [19, 5, 20, 21, 22, 23, 24, 10, 25, 26, 27, 28, 29, 30, 31, 32, 33, 34, 35, 36, 37, 38, 39, 40, 41, 42, 43, 44, 45, 46, 47, 48, 49, 50, 51, 52, 53, 54] (by decide +kernel) (by decide +kernel)
set_option maxRecDepth 20000 in
theorem gX7_dip_X7_misses : GoodIn wsX7_dip (wsV RX7 115 RX7 yX7_misses wsX7_misses) := goodIn_app (goodIn_of _ (by decide +kernel)) ggX7_dip_X7_misses
theorem dX7_dip_0 : decode cX7_dip 0 = .ok (.aload_n 0, 1) := by decide +kernel
theorem dX7_dip_1 : decode cX7_dip 1 = .ok (.iload_n 1, 1) := by decide +kernel
theorem dX7_dip_2 : decode cX7_dip 2 = .ok (.invokevirtual 92, 3) := by decide +kernel
theorem dX7_dip_5 : decode cX7_dip 5 = .ok (.istore 4, 2) := by decide +kernel
theorem dX7_dip_7 : decode cX7_dip 7 = .ok (.aload_n 0, 1) := by decide +kernel
theorem dX7_dip_8 : decode cX7_dip 8 = .ok (.iload 4, 2) := by decide +kernel
theorem dX7_dip_10 : decode cX7_dip 10 = .ok (.ifCond .ne 7, 3) := by decide +kernel
theorem dX7_dip_13 : decode cX7_dip 13 = .ok (.iconst 1, 1) := by decide +kernel
theorem dX7_dip_14 : decode cX7_dip 14 = .ok (.goto 46, 3) := by decide +kernel
theorem dX7_dip_17 : decode cX7_dip 17 = .ok (.iload_n 2, 1) := by decide +kernel
theorem dX7_dip_18 : decode cX7_dip 18 = .ok (.iconst 0, 1) := by decide +kernel
theorem dX7_dip_19 : decode cX7_dip 19 = .ok (.aload_n 0, 1) := by decide +kernel
theorem dX7_dip_20 : decode cX7_dip 20 = .ok (.getfield 13, 3) := by decide +kernel
theorem dX7_dip_23 : decode cX7_dip 23 = .ok (.iload_n 1, 1) := by decide +kernel
theorem dX7_dip_24 : decode cX7_dip 24 = .ok (.iaload, 1) := by decide +kernel
theorem dX7_dip_25 : decode cX7_dip 25 = .ok (.invokestatic 62, 3) := by decide +kernel
theorem dX7_dip_28 : decode cX7_dip 28 = .ok (.ifCond .eq 14, 3) := by decide +kernel
theorem dX7_dip_31 : decode cX7_dip 31 = .ok (.iload_n 3, 1) := by decide +kernel
theorem dX7_dip_32 : decode cX7_dip 32 = .ok (.iconst 0, 1) := by decide +kernel
theorem dX7_dip_33 : decode cX7_dip 33 = .ok (.sipush 960, 3) := by decide +kernel
theorem dX7_dip_36 : decode cX7_dip 36 = .ok (.invokestatic 62, 3) := by decide +kernel
theorem dX7_dip_39 : decode cX7_dip 39 = .ok (.ifCond .ne 7, 3) := by decide +kernel
theorem dX7_dip_42 : decode cX7_dip 42 = .ok (.iconst 2, 1) := by decide +kernel
theorem dX7_dip_43 : decode cX7_dip 43 = .ok (.goto 17, 3) := by decide +kernel
theorem dX7_dip_46 : decode cX7_dip 46 = .ok (.aload_n 0, 1) := by decide +kernel
theorem dX7_dip_47 : decode cX7_dip 47 = .ok (.getfield 112, 3) := by decide +kernel
theorem dX7_dip_50 : decode cX7_dip 50 = .ok (.bipush 60, 2) := by decide +kernel
theorem dX7_dip_52 : decode cX7_dip 52 = .ok (.if_icmp .ne 7, 3) := by decide +kernel
theorem dX7_dip_55 : decode cX7_dip 55 = .ok (.iconst 3, 1) := by decide +kernel
theorem dX7_dip_56 : decode cX7_dip 56 = .ok (.goto 4, 3) := by decide +kernel
theorem dX7_dip_59 : decode cX7_dip 59 = .ok (.iconst 0, 1) := by decide +kernel
theorem dX7_dip_60 : decode cX7_dip 60 = .ok (.putfield 56, 3) := by decide +kernel
theorem dX7_dip_63 : decode cX7_dip 63 = .ok (.aload_n 0, 1) := by decide +kernel
theorem dX7_dip_64 : decode cX7_dip 64 = .ok (.getfield 56, 3) := by decide +kernel
theorem dX7_dip_67 : decode cX7_dip 67 = .ok (.ifCond .le 5, 3) := by decide +kernel
theorem dX7_dip_70 : decode cX7_dip 70 = .ok (.iconst 0, 1) := by decide +kernel
theorem dX7_dip_71 : decode cX7_dip 71 = .ok (.ireturn, 1) := by decide +kernel
theorem dX7_dip_72 : decode cX7_dip 72 = .ok (.aload_n 0, 1) := by decide +kernel
theorem dX7_dip_73 : decode cX7_dip 73 = .ok (.dup, 1) := by decide +kernel
theorem dX7_dip_74 : decode cX7_dip 74 = .ok (.getfield 112, 3) := by decide +kernel
theorem dX7_dip_77 : decode cX7_dip 77 = .ok (.iconst 1, 1) := by decide +kernel
theorem dX7_dip_78 : decode cX7_dip 78 = .ok (.iadd, 1) := by decide +kernel
theorem dX7_dip_79 : decode cX7_dip 79 = .ok (.putfield 112, 3) := by decide +kernel
theorem dX7_dip_82 : decode cX7_dip 82 = .ok (.aload_n 0, 1) := by decide +kernel
theorem dX7_dip_83 : decode cX7_dip 83 = .ok (.getfield 19, 3) := by decide +kernel
theorem dX7_dip_86 : decode cX7_dip 86 = .ok (.iload_n 1, 1) := by decide +kernel
theorem dX7_dip_87 : decode cX7_dip 87 = .ok (.iaload, 1) := by decide +kernel
theorem dX7_dip_88 : decode cX7_dip 88 = .ok (.iload_n 2, 1) := by decide +kernel
theorem dX7_dip_89 : decode cX7_dip 89 = .ok (.iload_n 3, 1) := by decide +kernel
theorem dX7_dip_90 : decode cX7_dip 90 = .ok (.imul, 1) := by decide +kernel
theorem dX7_dip_91 : decode cX7_dip 91 = .ok (.isub, 1) := by decide +kernel
theorem dX7_dip_92 : decode cX7_dip 92 = .ok (.istore 5, 2) := by decide +kernel
theorem dX7_dip_94 : decode cX7_dip 94 = .ok (.iload 5, 2) := by decide +kernel
theorem dX7_dip_96 : decode cX7_dip 96 = .ok (.aload_n 0, 1) := by decide +kernel
theorem dX7_dip_97 : decode cX7_dip 97 = .ok (.getfield 19, 3) := by decide +kernel
theorem dX7_dip_100 : decode cX7_dip 100 = .ok (.iload_n 1, 1) := by decide +kernel
theorem dX7_dip_101 : decode cX7_dip 101 = .ok (.iaload, 1) := by decide +kernel
theorem dX7_dip_102 : decode cX7_dip 102 = .ok (.bipush 100, 2) := by decide +kernel
theorem dX7_dip_104 : decode cX7_dip 104 = .ok (.idiv, 1) := by decide +kernel
theorem dX7_dip_105 : decode cX7_dip 105 = .ok (.if_icmp .le 13, 3) := by decide +kernel
theorem dX7_dip_108 : decode cX7_dip 108 = .ok (.aload_n 0, 1) := by decide +kernel
theorem dX7_dip_109 : decode cX7_dip 109 = .ok (.iload 5, 2) := by decide +kernel
theorem dX7_dip_111 : decode cX7_dip 111 = .ok (.invokevirtual 115, 3) := by decide +kernel
theorem dX7_dip_114 : decode cX7_dip 114 = .ok (.pop, 1) := by decide +kernel
theorem dX7_dip_115 : decode cX7_dip 115 = .ok (.goto 33, 3) := by decide +kernel
theorem dX7_dip_118 : decode cX7_dip 118 = .ok (.iload 5, 2) := by decide +kernel
theorem dX7_dip_120 : decode cX7_dip 120 = .ok (.ifCond .le 17, 3) := by decide +kernel
theorem dX7_dip_123 : decode cX7_dip 123 = .ok (.aload_n 0, 1) := by decide +kernel
theorem dX7_dip_124 : decode cX7_dip 124 = .ok (.getfield 25, 3) := by decide +kernel
theorem dX7_dip_127 : decode cX7_dip 127 = .ok (.iconst 4, 1) := by decide +kernel
theorem dX7_dip_128 : decode cX7_dip 128 = .ok (.dup2, 1) := by decide +kernel
theorem dX7_dip_129 : decode cX7_dip 129 = .ok (.iaload, 1) := by decide +kernel
theorem dX7_dip_130 : decode cX7_dip 130 = .ok (.iload 5, 2) := by decide +kernel
theorem dX7_dip_132 : decode cX7_dip 132 = .ok (.iadd, 1) := by decide +kernel
theorem dX7_dip_133 : decode cX7_dip 133 = .ok (.iastore, 1) := by decide +kernel
theorem dX7_dip_134 : decode cX7_dip 134 = .ok (.goto 14, 3) := by decide +kernel
theorem dX7_dip_137 : decode cX7_dip 137 = .ok (.aload_n 0, 1) := by decide +kernel
theorem dX7_dip_138 : decode cX7_dip 138 = .ok (.getfield 25, 3) := by decide +kernel
theorem dX7_dip_141 : decode cX7_dip 141 = .ok (.iconst 0, 1) := by decide +kernel
theorem dX7_dip_142 : decode cX7_dip 142 = .ok (.dup2, 1) := by decide +kernel
theorem dX7_dip_143 : decode cX7_dip 143 = .ok (.iaload, 1) := by decide +kernel
theorem dX7_dip_144 : decode cX7_dip 144 = .ok (.iload 5, 2) := by decide +kernel
theorem dX7_dip_146 : decode cX7_dip 146 = .ok (.isub, 1) := by decide +kernel
theorem dX7_dip_147 : decode cX7_dip 147 = .ok (.iastore, 1) := by decide +kernel
theorem dX7_dip_148 : decode cX7_dip 148 = .ok (.aload_n 0, 1) := by decide +kernel
theorem dX7_dip_149 : decode cX7_dip 149 = .ok (.getfield 16, 3) := by decide +kernel
theorem dX7_dip_152 : decode cX7_dip 152 = .ok (.iload_n 1, 1) := by decide +kernel
theorem dX7_dip_153 : decode cX7_dip 153 = .ok (.iload_n 2, 1) := by decide +kernel
theorem dX7_dip_154 : decode cX7_dip 154 = .ok (.iastore, 1) := by decide +kernel
theorem dX7_dip_155 : decode cX7_dip 155 = .ok (.aload_n 0, 1) := by decide +kernel
theorem dX7_dip_156 : decode cX7_dip 156 = .ok (.getfield 19, 3) := by decide +kernel
theorem dX7_dip_159 : decode cX7_dip 159 = .ok (.iload_n 1, 1) := by decide +kernel
theorem dX7_dip_160 : decode cX7_dip 160 = .ok (.iload_n 2, 1) := by decide +kernel
theorem dX7_dip_161 : decode cX7_dip 161 = .ok (.iload_n 3, 1) := by decide +kernel
theorem dX7_dip_162 : decode cX7_dip 162 = .ok (.imul, 1) := by decide +kernel
theorem dX7_dip_163 : decode cX7_dip 163 = .ok (.iastore, 1) := by decide +kernel
theorem dX7_dip_164 : decode cX7_dip 164 = .ok (.iload 5, 2) := by decide +kernel
theorem dX7_dip_166 : decode cX7_dip 166 = .ok (.ireturn, 1) := by decide +kernel
set_option maxRecDepth 20000 in
theorem ggX7_asksPart_X7_isVessel : GoodIn wsX7_asksPart wsX7_isVessel := goodIn_r _ [6, 7, 8, 9, 5, 10, 16, 17, 18, 19, 20, 21, 22, 23, 24, 25, 26, 27, 28, 29, 30, 31, 32, 33, 34, 35, 36, 37, 38, 39, 40, 41, 42, 43] (by decide +kernel) (by decide +kernel)
set_option maxRecDepth 20000 in
theorem gX7_asksPart_X7_isVessel : GoodIn wsX7_asksPart (wsV RX7 92 RX7 yX7_isVessel wsX7_isVessel) := goodIn_app (goodIn_of _ (by decide +kernel)) ggX7_asksPart_X7_isVessel
set_option maxRecDepth 20000 in
theorem ggX7_asksPart_X7_hasPart : GoodIn wsX7_asksPart wsX7_hasPart := goodIn_r _ [14, 15, 16, 17, 18, 19, 20, 21, 22, 23, 24, 25, 26, 27, 28, 29, 30, 31, 32, 33, 34, 35, 36, 37, 38, 39, 40, 41, 42, 43] (by decide +kernel) (by decide +kernel)
set_option maxRecDepth 20000 in
theorem gX7_asksPart_X7_hasPart : GoodIn wsX7_asksPart (wsV RX7 106 RX7 yX7_hasPart wsX7_hasPart) := goodIn_app (goodIn_of _ (by decide +kernel)) ggX7_asksPart_X7_hasPart
theorem dX7_asksPart_0 : decode cX7_asksPart 0 = .ok (.aload_n 0, 1) := by decide +kernel
theorem dX7_asksPart_1 : decode cX7_asksPart 1 = .ok (.aload_n 0, 1) := by decide +kernel
theorem dX7_asksPart_2 : decode cX7_asksPart 2 = .ok (.iload_n 1, 1) := by decide +kernel
theorem dX7_asksPart_3 : decode cX7_asksPart 3 = .ok (.invokevirtual 92, 3) := by decide +kernel
theorem dX7_asksPart_6 : decode cX7_asksPart 6 = .ok (.ifCond .ne 7, 3) := by decide +kernel
theorem dX7_asksPart_9 : decode cX7_asksPart 9 = .ok (.iconst 1, 1) := by decide +kernel
theorem dX7_asksPart_10 : decode cX7_asksPart 10 = .ok (.goto 26, 3) := by decide +kernel
theorem dX7_asksPart_13 : decode cX7_asksPart 13 = .ok (.iload_n 2, 1) := by decide +kernel
theorem dX7_asksPart_14 : decode cX7_asksPart 14 = .ok (.iconst 1, 1) := by decide +kernel
theorem dX7_asksPart_15 : decode cX7_asksPart 15 = .ok (.if_icmp .ge 7, 3) := by decide +kernel
theorem dX7_asksPart_18 : decode cX7_asksPart 18 = .ok (.iconst 2, 1) := by decide +kernel
theorem dX7_asksPart_19 : decode cX7_asksPart 19 = .ok (.goto 17, 3) := by decide +kernel
theorem dX7_asksPart_22 : decode cX7_asksPart 22 = .ok (.aload_n 0, 1) := by decide +kernel
theorem dX7_asksPart_23 : decode cX7_asksPart 23 = .ok (.iload_n 1, 1) := by decide +kernel
theorem dX7_asksPart_24 : decode cX7_asksPart 24 = .ok (.iload_n 2, 1) := by decide +kernel
theorem dX7_asksPart_25 : decode cX7_asksPart 25 = .ok (.invokevirtual 106, 3) := by decide +kernel
theorem dX7_asksPart_28 : decode cX7_asksPart 28 = .ok (.ifCond .eq 7, 3) := by decide +kernel
theorem dX7_asksPart_31 : decode cX7_asksPart 31 = .ok (.iconst 0, 1) := by decide +kernel
theorem dX7_asksPart_32 : decode cX7_asksPart 32 = .ok (.goto 4, 3) := by decide +kernel
theorem dX7_asksPart_35 : decode cX7_asksPart 35 = .ok (.iconst 3, 1) := by decide +kernel
theorem dX7_asksPart_36 : decode cX7_asksPart 36 = .ok (.putfield 56, 3) := by decide +kernel
theorem dX7_asksPart_39 : decode cX7_asksPart 39 = .ok (.aload_n 0, 1) := by decide +kernel
theorem dX7_asksPart_40 : decode cX7_asksPart 40 = .ok (.getfield 56, 3) := by decide +kernel
theorem dX7_asksPart_43 : decode cX7_asksPart 43 = .ok (.ifCond .ne 7, 3) := by decide +kernel
theorem dX7_asksPart_46 : decode cX7_asksPart 46 = .ok (.iconst 1, 1) := by decide +kernel
theorem dX7_asksPart_47 : decode cX7_asksPart 47 = .ok (.goto 4, 3) := by decide +kernel
theorem dX7_asksPart_50 : decode cX7_asksPart 50 = .ok (.iconst 0, 1) := by decide +kernel
theorem dX7_asksPart_51 : decode cX7_asksPart 51 = .ok (.ireturn, 1) := by decide +kernel
set_option maxRecDepth 20000 in
theorem ggX7_lose_X7_asksPart : GoodIn wsX7_lose wsX7_asksPart := goodIn_r _ [6, 7, 8, 9, 10, 5, 11, 12, 13, 14, 15, 16, 17, 18, 19, 20, 40, 41, 42, 43, 44, 45, 46, 47, 48, 49, 50, 51, 52, 53, 54, 55, 56, 57, 58, 59, 60, 61, 62, 63, 64, 65, 66, 67] (by decide +kernel) (by decide +kernel)
set_option maxRecDepth 20000 in
theorem gX7_lose_X7_asksPart : GoodIn wsX7_lose (wsV RX7 119 RX7 yX7_asksPart wsX7_asksPart) := goodIn_app (goodIn_of _ (by decide +kernel)) ggX7_lose_X7_asksPart
set_option maxRecDepth 20000 in
theorem ggX7_lose_X7_takes : GoodIn wsX7_lose wsX7_takes := goodIn_r _ [24, 25, 20, 26, 27, 5, 28, 40, 41, 42, 43, 44, 45, 46, 47, 48, 49, 50, 51, 52, 53, 54, 55, 56, 57, 58, 59, 60, 61, 62, 63, 64, 65, 66, 67] (by decide +kernel) (by decide +kernel)
set_option maxRecDepth 20000 in
theorem gX7_lose_X7_takes : GoodIn wsX7_lose (wsV RX7 109 RX7 yX7_takes wsX7_takes) := goodIn_app (goodIn_of _ (by decide +kernel)) ggX7_lose_X7_takes
set_option maxRecDepth 20000 in
theorem ggX7_lose_X7_misses : GoodIn wsX7_lose wsX7_misses := goodIn_r _ [32, 1, 33, 34, 35, 36, 37, 5, 38, 39, 40, 41, 42, 43, 44, 45, 46, 47, 48, 49, 50, 51, 52, 53, 54, 55, 56, 57, 58, 59, 60, 61, 62, 63, 64, 65, 66, 67] (by decide +kernel) (by decide +kernel)
set_option maxRecDepth 20000 in
theorem gX7_lose_X7_misses : GoodIn wsX7_lose (wsV RX7 115 RX7 yX7_misses wsX7_misses) := goodIn_app (goodIn_of _ (by decide +kernel)) ggX7_lose_X7_misses
theorem dX7_lose_0 : decode cX7_lose 0 = .ok (.aload_n 0, 1) := by decide +kernel
theorem dX7_lose_1 : decode cX7_lose 1 = .ok (.iload_n 1, 1) := by decide +kernel
theorem dX7_lose_2 : decode cX7_lose 2 = .ok (.iload_n 2, 1) := by decide +kernel
theorem dX7_lose_3 : decode cX7_lose 3 = .ok (.invokevirtual 119, 3) := by decide +kernel
theorem dX7_lose_6 : decode cX7_lose 6 = .ok (.ifCond .ne 5, 3) := by decide +kernel
theorem dX7_lose_9 : decode cX7_lose 9 = .ok (.iconst 0, 1) := by decide +kernel
theorem dX7_lose_10 : decode cX7_lose 10 = .ok (.ireturn, 1) := by decide +kernel
theorem dX7_lose_11 : decode cX7_lose 11 = .ok (.aload_n 0, 1) := by decide +kernel
theorem dX7_lose_12 : decode cX7_lose 12 = .ok (.iload_n 1, 1) := by decide +kernel
theorem dX7_lose_13 : decode cX7_lose 13 = .ok (.iload_n 2, 1) := by decide +kernel
theorem dX7_lose_14 : decode cX7_lose 14 = .ok (.invokevirtual 109, 3) := by decide +kernel
theorem dX7_lose_17 : decode cX7_lose 17 = .ok (.istore 4, 2) := by decide +kernel
theorem dX7_lose_19 : decode cX7_lose 19 = .ok (.aload_n 0, 1) := by decide +kernel
theorem dX7_lose_20 : decode cX7_lose 20 = .ok (.getfield 25, 3) := by decide +kernel
theorem dX7_lose_23 : decode cX7_lose 23 = .ok (.iconst 4, 1) := by decide +kernel
theorem dX7_lose_24 : decode cX7_lose 24 = .ok (.dup2, 1) := by decide +kernel
theorem dX7_lose_25 : decode cX7_lose 25 = .ok (.iaload, 1) := by decide +kernel
theorem dX7_lose_26 : decode cX7_lose 26 = .ok (.iload_n 3, 1) := by decide +kernel
theorem dX7_lose_27 : decode cX7_lose 27 = .ok (.ifCond .eq 8, 3) := by decide +kernel
theorem dX7_lose_30 : decode cX7_lose 30 = .ok (.iload 4, 2) := by decide +kernel
theorem dX7_lose_32 : decode cX7_lose 32 = .ok (.goto 4, 3) := by decide +kernel
theorem dX7_lose_35 : decode cX7_lose 35 = .ok (.iconst 0, 1) := by decide +kernel
theorem dX7_lose_36 : decode cX7_lose 36 = .ok (.iadd, 1) := by decide +kernel
theorem dX7_lose_37 : decode cX7_lose 37 = .ok (.iastore, 1) := by decide +kernel
theorem dX7_lose_38 : decode cX7_lose 38 = .ok (.iload_n 3, 1) := by decide +kernel
theorem dX7_lose_39 : decode cX7_lose 39 = .ok (.ifCond .eq 7, 3) := by decide +kernel
theorem dX7_lose_42 : decode cX7_lose 42 = .ok (.iconst 0, 1) := by decide +kernel
theorem dX7_lose_43 : decode cX7_lose 43 = .ok (.goto 9, 3) := by decide +kernel
theorem dX7_lose_46 : decode cX7_lose 46 = .ok (.aload_n 0, 1) := by decide +kernel
theorem dX7_lose_47 : decode cX7_lose 47 = .ok (.iload 4, 2) := by decide +kernel
theorem dX7_lose_49 : decode cX7_lose 49 = .ok (.invokevirtual 115, 3) := by decide +kernel
theorem dX7_lose_52 : decode cX7_lose 52 = .ok (.ireturn, 1) := by decide +kernel
set_option maxRecDepth 20000 in
theorem ggX7_release_X7_asksPart : GoodIn wsX7_release wsX7_asksPart := goodIn_r _ [17, 6, 18, 19, 20, 16, 21, 22, 23, 24, 25, 26, 27, 28, 29, 2, 45, 46, 47, 48, 49, 50, 51, 52, 53, 54, 55, 56, 57, 58, 59, 60, 61, 62, 63, 64, 65, 66, 67, 68, 69, 70, 71, 72] (by decide +kernel) (by decide +kernel)
set_option maxRecDepth 20000 in
theorem gX7_release_X7_asksPart : GoodIn wsX7_release (wsV RX7 119 RX7 yX7_asksPart wsX7_asksPart) := goodIn_app (goodIn_of _ (by decide +kernel)) ggX7_release_X7_asksPart
set_option maxRecDepth 20000 in
theorem ggX7_release_X7_part : GoodIn wsX7_release wsX7_part := goodIn_r _ [32] (by decide +kernel) (by decide +kernel)
set_option maxRecDepth 20000 in
theorem gX7_release_X7_part : GoodIn wsX7_release (va_wsS RX7 77 yX7_part wsX7_part) := goodIn_app (goodIn_of _ (by decide +kernel)) ggX7_release_X7_part
set_option maxRecDepth 20000 in
theorem ggX7_release_X7_takes : GoodIn wsX7_release wsX7_takes := goodIn_r _ [36, 1, 2, 30, 31, 16, 32, 45, 46, 47, 48, 49, 50, 51, 52, 53, 54, 55, 56, 57, 58, 59, 60, 61, 62, 63, 64, 65, 66, 67, 68, 69, 70, 71, 72] (by decide +kernel) (by decide +kernel)
set_option maxRecDepth 20000 in
theorem gX7_release_X7_takes : GoodIn wsX7_release (wsV RX7 109 RX7 yX7_takes wsX7_takes) := goodIn_app (goodIn_of _ (by decide +kernel)) ggX7_release_X7_takes
set_option maxRecDepth 20000 in
theorem ggX7_release_X7_least : GoodIn wsX7_release wsX7_least := goodIn_r _ [39] (by decide +kernel) (by decide +kernel)
set_option maxRecDepth 20000 in
theorem gX7_release_X7_least : GoodIn wsX7_release (va_wsS RX7 70 yX7_least wsX7_least) := goodIn_app (goodIn_of _ (by decide +kernel)) ggX7_release_X7_least
set_option maxRecDepth 20000 in
theorem ggX7_release_X7_dutyFor : GoodIn wsX7_release wsX7_dutyFor := goodIn_r _ [43, 44] (by decide +kernel) (by decide +kernel)
set_option maxRecDepth 20000 in
theorem gX7_release_X7_dutyFor : GoodIn wsX7_release (wsV RX7 82 RX7 yX7_dutyFor wsX7_dutyFor) := goodIn_app (goodIn_of _ (by decide +kernel)) ggX7_release_X7_dutyFor
theorem dX7_release_0 : decode cX7_release 0 = .ok (.aload_n 0, 1) := by decide +kernel
theorem dX7_release_1 : decode cX7_release 1 = .ok (.iload_n 1, 1) := by decide +kernel
theorem dX7_release_2 : decode cX7_release 2 = .ok (.iload_n 2, 1) := by decide +kernel
theorem dX7_release_3 : decode cX7_release 3 = .ok (.invokevirtual 119, 3) := by decide +kernel
theorem dX7_release_6 : decode cX7_release 6 = .ok (.ifCond .ne 5, 3) := by decide +kernel
theorem dX7_release_9 : decode cX7_release 9 = .ok (.iconst 0, 1) := by decide +kernel
theorem dX7_release_10 : decode cX7_release 10 = .ok (.ireturn, 1) := by decide +kernel
theorem dX7_release_11 : decode cX7_release 11 = .ok (.aload_n 0, 1) := by decide +kernel
theorem dX7_release_12 : decode cX7_release 12 = .ok (.getfield 19, 3) := by decide +kernel
theorem dX7_release_15 : decode cX7_release 15 = .ok (.iload_n 1, 1) := by decide +kernel
theorem dX7_release_16 : decode cX7_release 16 = .ok (.iaload, 1) := by decide +kernel
theorem dX7_release_17 : decode cX7_release 17 = .ok (.iload_n 2, 1) := by decide +kernel
theorem dX7_release_18 : decode cX7_release 18 = .ok (.aload_n 0, 1) := by decide +kernel
theorem dX7_release_19 : decode cX7_release 19 = .ok (.getfield 16, 3) := by decide +kernel
theorem dX7_release_22 : decode cX7_release 22 = .ok (.iload_n 1, 1) := by decide +kernel
theorem dX7_release_23 : decode cX7_release 23 = .ok (.iaload, 1) := by decide +kernel
theorem dX7_release_24 : decode cX7_release 24 = .ok (.invokestatic 77, 3) := by decide +kernel
theorem dX7_release_27 : decode cX7_release 27 = .ok (.istore_n 3, 1) := by decide +kernel
theorem dX7_release_28 : decode cX7_release 28 = .ok (.aload_n 0, 1) := by decide +kernel
theorem dX7_release_29 : decode cX7_release 29 = .ok (.aload_n 0, 1) := by decide +kernel
theorem dX7_release_30 : decode cX7_release 30 = .ok (.getfield 32, 3) := by decide +kernel
theorem dX7_release_33 : decode cX7_release 33 = .ok (.iconst (-1), 1) := by decide +kernel
theorem dX7_release_34 : decode cX7_release 34 = .ok (.if_icmp .eq 11, 3) := by decide +kernel
theorem dX7_release_37 : decode cX7_release 37 = .ok (.iload_n 3, 1) := by decide +kernel
theorem dX7_release_38 : decode cX7_release 38 = .ok (.aload_n 0, 1) := by decide +kernel
theorem dX7_release_39 : decode cX7_release 39 = .ok (.getfield 122, 3) := by decide +kernel
theorem dX7_release_42 : decode cX7_release 42 = .ok (.if_icmp .gt 12, 3) := by decide +kernel
theorem dX7_release_45 : decode cX7_release 45 = .ok (.aload_n 0, 1) := by decide +kernel
theorem dX7_release_46 : decode cX7_release 46 = .ok (.getfield 125, 3) := by decide +kernel
theorem dX7_release_49 : decode cX7_release 49 = .ok (.bipush 100, 2) := by decide +kernel
theorem dX7_release_51 : decode cX7_release 51 = .ok (.if_icmp .ne 7, 3) := by decide +kernel
theorem dX7_release_54 : decode cX7_release 54 = .ok (.iconst 3, 1) := by decide +kernel
theorem dX7_release_55 : decode cX7_release 55 = .ok (.goto 4, 3) := by decide +kernel
theorem dX7_release_58 : decode cX7_release 58 = .ok (.iconst 0, 1) := by decide +kernel
theorem dX7_release_59 : decode cX7_release 59 = .ok (.putfield 56, 3) := by decide +kernel
theorem dX7_release_62 : decode cX7_release 62 = .ok (.aload_n 0, 1) := by decide +kernel
theorem dX7_release_63 : decode cX7_release 63 = .ok (.getfield 56, 3) := by decide +kernel
theorem dX7_release_66 : decode cX7_release 66 = .ok (.ifCond .le 5, 3) := by decide +kernel
theorem dX7_release_69 : decode cX7_release 69 = .ok (.iconst 0, 1) := by decide +kernel
theorem dX7_release_70 : decode cX7_release 70 = .ok (.ireturn, 1) := by decide +kernel
theorem dX7_release_71 : decode cX7_release 71 = .ok (.aload_n 0, 1) := by decide +kernel
theorem dX7_release_72 : decode cX7_release 72 = .ok (.iload_n 1, 1) := by decide +kernel
theorem dX7_release_73 : decode cX7_release 73 = .ok (.iload_n 2, 1) := by decide +kernel
theorem dX7_release_74 : decode cX7_release 74 = .ok (.invokevirtual 109, 3) := by decide +kernel
theorem dX7_release_77 : decode cX7_release 77 = .ok (.pop, 1) := by decide +kernel
theorem dX7_release_78 : decode cX7_release 78 = .ok (.aload_n 0, 1) := by decide +kernel
theorem dX7_release_79 : decode cX7_release 79 = .ok (.dup, 1) := by decide +kernel
theorem dX7_release_80 : decode cX7_release 80 = .ok (.getfield 122, 3) := by decide +kernel
theorem dX7_release_83 : decode cX7_release 83 = .ok (.aload_n 0, 1) := by decide +kernel
theorem dX7_release_84 : decode cX7_release 84 = .ok (.getfield 32, 3) := by decide +kernel
theorem dX7_release_87 : decode cX7_release 87 = .ok (.iconst (-1), 1) := by decide +kernel
theorem dX7_release_88 : decode cX7_release 88 = .ok (.if_icmp .eq 7, 3) := by decide +kernel
theorem dX7_release_91 : decode cX7_release 91 = .ok (.iload_n 3, 1) := by decide +kernel
theorem dX7_release_92 : decode cX7_release 92 = .ok (.goto 4, 3) := by decide +kernel
theorem dX7_release_95 : decode cX7_release 95 = .ok (.iconst 0, 1) := by decide +kernel
theorem dX7_release_96 : decode cX7_release 96 = .ok (.isub, 1) := by decide +kernel
theorem dX7_release_97 : decode cX7_release 97 = .ok (.putfield 122, 3) := by decide +kernel
theorem dX7_release_100 : decode cX7_release 100 = .ok (.iload_n 3, 1) := by decide +kernel
theorem dX7_release_101 : decode cX7_release 101 = .ok (.ldc 128, 2) := by decide +kernel
theorem dX7_release_103 : decode cX7_release 103 = .ok (.aload_n 0, 1) := by decide +kernel
theorem dX7_release_104 : decode cX7_release 104 = .ok (.getfield 129, 3) := by decide +kernel
theorem dX7_release_107 : decode cX7_release 107 = .ok (.isub, 1) := by decide +kernel
theorem dX7_release_108 : decode cX7_release 108 = .ok (.invokestatic 70, 3) := by decide +kernel
theorem dX7_release_111 : decode cX7_release 111 = .ok (.istore 4, 2) := by decide +kernel
theorem dX7_release_113 : decode cX7_release 113 = .ok (.aload_n 0, 1) := by decide +kernel
theorem dX7_release_114 : decode cX7_release 114 = .ok (.dup, 1) := by decide +kernel
theorem dX7_release_115 : decode cX7_release 115 = .ok (.getfield 129, 3) := by decide +kernel
theorem dX7_release_118 : decode cX7_release 118 = .ok (.iload 4, 2) := by decide +kernel
theorem dX7_release_120 : decode cX7_release 120 = .ok (.iadd, 1) := by decide +kernel
theorem dX7_release_121 : decode cX7_release 121 = .ok (.putfield 129, 3) := by decide +kernel
theorem dX7_release_124 : decode cX7_release 124 = .ok (.aload_n 0, 1) := by decide +kernel
theorem dX7_release_125 : decode cX7_release 125 = .ok (.iload 4, 2) := by decide +kernel
theorem dX7_release_127 : decode cX7_release 127 = .ok (.aload_n 0, 1) := by decide +kernel
theorem dX7_release_128 : decode cX7_release 128 = .ok (.getfield 28, 3) := by decide +kernel
theorem dX7_release_131 : decode cX7_release 131 = .ok (.iconst 2, 1) := by decide +kernel
theorem dX7_release_132 : decode cX7_release 132 = .ok (.idiv, 1) := by decide +kernel
theorem dX7_release_133 : decode cX7_release 133 = .ok (.invokevirtual 82, 3) := by decide +kernel
theorem dX7_release_136 : decode cX7_release 136 = .ok (.aload_n 0, 1) := by decide +kernel
theorem dX7_release_137 : decode cX7_release 137 = .ok (.iload_n 3, 1) := by decide +kernel
theorem dX7_release_138 : decode cX7_release 138 = .ok (.iload 4, 2) := by decide +kernel
theorem dX7_release_140 : decode cX7_release 140 = .ok (.isub, 1) := by decide +kernel
theorem dX7_release_141 : decode cX7_release 141 = .ok (.aload_n 0, 1) := by decide +kernel
theorem dX7_release_142 : decode cX7_release 142 = .ok (.getfield 28, 3) := by decide +kernel
theorem dX7_release_145 : decode cX7_release 145 = .ok (.invokevirtual 82, 3) := by decide +kernel
theorem dX7_release_148 : decode cX7_release 148 = .ok (.iadd, 1) := by decide +kernel
theorem dX7_release_149 : decode cX7_release 149 = .ok (.istore 5, 2) := by decide +kernel
theorem dX7_release_151 : decode cX7_release 151 = .ok (.aload_n 0, 1) := by decide +kernel
theorem dX7_release_152 : decode cX7_release 152 = .ok (.dup, 1) := by decide +kernel
theorem dX7_release_153 : decode cX7_release 153 = .ok (.getfield 85, 3) := by decide +kernel
theorem dX7_release_156 : decode cX7_release 156 = .ok (.iload 5, 2) := by decide +kernel
theorem dX7_release_158 : decode cX7_release 158 = .ok (.iadd, 1) := by decide +kernel
theorem dX7_release_159 : decode cX7_release 159 = .ok (.putfield 85, 3) := by decide +kernel
theorem dX7_release_162 : decode cX7_release 162 = .ok (.aload_n 0, 1) := by decide +kernel
theorem dX7_release_163 : decode cX7_release 163 = .ok (.getfield 35, 3) := by decide +kernel
theorem dX7_release_166 : decode cX7_release 166 = .ok (.aload_n 0, 1) := by decide +kernel
theorem dX7_release_167 : decode cX7_release 167 = .ok (.getfield 125, 3) := by decide +kernel
theorem dX7_release_170 : decode cX7_release 170 = .ok (.iload_n 3, 1) := by decide +kernel
theorem dX7_release_171 : decode cX7_release 171 = .ok (.iastore, 1) := by decide +kernel
theorem dX7_release_172 : decode cX7_release 172 = .ok (.aload_n 0, 1) := by decide +kernel
theorem dX7_release_173 : decode cX7_release 173 = .ok (.getfield 38, 3) := by decide +kernel
theorem dX7_release_176 : decode cX7_release 176 = .ok (.aload_n 0, 1) := by decide +kernel
theorem dX7_release_177 : decode cX7_release 177 = .ok (.getfield 125, 3) := by decide +kernel
theorem dX7_release_180 : decode cX7_release 180 = .ok (.iload 5, 2) := by decide +kernel
theorem dX7_release_182 : decode cX7_release 182 = .ok (.iastore, 1) := by decide +kernel
theorem dX7_release_183 : decode cX7_release 183 = .ok (.aload_n 0, 1) := by decide +kernel
theorem dX7_release_184 : decode cX7_release 184 = .ok (.dup, 1) := by decide +kernel
theorem dX7_release_185 : decode cX7_release 185 = .ok (.getfield 125, 3) := by decide +kernel
theorem dX7_release_188 : decode cX7_release 188 = .ok (.iconst 1, 1) := by decide +kernel
theorem dX7_release_189 : decode cX7_release 189 = .ok (.iadd, 1) := by decide +kernel
theorem dX7_release_190 : decode cX7_release 190 = .ok (.putfield 125, 3) := by decide +kernel
theorem dX7_release_193 : decode cX7_release 193 = .ok (.iload 5, 2) := by decide +kernel
theorem dX7_release_195 : decode cX7_release 195 = .ok (.ireturn, 1) := by decide +kernel
set_option maxRecDepth 20000 in
theorem ggX7_permit_X7_in : GoodIn wsX7_permit wsX7_in := goodIn_r _ [7] (by decide +kernel) (by decide +kernel)
set_option maxRecDepth 20000 in
theorem gX7_permit_X7_in : GoodIn wsX7_permit (va_wsS RX7 62 yX7_in wsX7_in) := goodIn_app (goodIn_of _ (by decide +kernel)) ggX7_permit_X7_in
theorem dX7_permit_0 : decode cX7_permit 0 = .ok (.aload_n 0, 1) := by decide +kernel
theorem dX7_permit_1 : decode cX7_permit 1 = .ok (.iload_n 1, 1) := by decide +kernel
theorem dX7_permit_2 : decode cX7_permit 2 = .ok (.iconst 0, 1) := by decide +kernel
theorem dX7_permit_3 : decode cX7_permit 3 = .ok (.ldc 132, 2) := by decide +kernel
theorem dX7_permit_5 : decode cX7_permit 5 = .ok (.invokestatic 62, 3) := by decide +kernel
theorem dX7_permit_8 : decode cX7_permit 8 = .ok (.ifCond .eq 7, 3) := by decide +kernel
theorem dX7_permit_11 : decode cX7_permit 11 = .ok (.iconst 0, 1) := by decide +kernel
theorem dX7_permit_12 : decode cX7_permit 12 = .ok (.goto 4, 3) := by decide +kernel
theorem dX7_permit_15 : decode cX7_permit 15 = .ok (.iconst 1, 1) := by decide +kernel
theorem dX7_permit_16 : decode cX7_permit 16 = .ok (.putfield 56, 3) := by decide +kernel
theorem dX7_permit_19 : decode cX7_permit 19 = .ok (.aload_n 0, 1) := by decide +kernel
theorem dX7_permit_20 : decode cX7_permit 20 = .ok (.getfield 56, 3) := by decide +kernel
theorem dX7_permit_23 : decode cX7_permit 23 = .ok (.ifCond .le 5, 3) := by decide +kernel
theorem dX7_permit_26 : decode cX7_permit 26 = .ok (.iconst 0, 1) := by decide +kernel
theorem dX7_permit_27 : decode cX7_permit 27 = .ok (.ireturn, 1) := by decide +kernel
theorem dX7_permit_28 : decode cX7_permit 28 = .ok (.aload_n 0, 1) := by decide +kernel
theorem dX7_permit_29 : decode cX7_permit 29 = .ok (.getfield 133, 3) := by decide +kernel
theorem dX7_permit_32 : decode cX7_permit 32 = .ok (.istore_n 2, 1) := by decide +kernel
theorem dX7_permit_33 : decode cX7_permit 33 = .ok (.aload_n 0, 1) := by decide +kernel
theorem dX7_permit_34 : decode cX7_permit 34 = .ok (.iload_n 1, 1) := by decide +kernel
theorem dX7_permit_35 : decode cX7_permit 35 = .ok (.putfield 133, 3) := by decide +kernel
theorem dX7_permit_38 : decode cX7_permit 38 = .ok (.iload_n 2, 1) := by decide +kernel
theorem dX7_permit_39 : decode cX7_permit 39 = .ok (.ireturn, 1) := by decide +kernel
set_option maxRecDepth 20000 in
theorem ggX7_denature_X7_asksPart : GoodIn wsX7_denature wsX7_asksPart := goodIn_r _ [10, 4, 11, 12, 13, 9, 14, 15, 16, 17, 18, 19, 20, 21, 22, 2, 30, 31, 32, 33, 34, 35, 36, 37, 38, 39, 40, 41, 42, 43, 44, 45, 46, 47, 48, 49, 50, 51, 52, 53, 54, 55, 56, 57] (by decide +kernel) (by decide +kernel)
set_option maxRecDepth 20000 in
theorem gX7_denature_X7_asksPart : GoodIn wsX7_denature (wsV RX7 119 RX7 yX7_asksPart wsX7_asksPart) := goodIn_app (goodIn_of _ (by decide +kernel)) ggX7_denature_X7_asksPart
set_option maxRecDepth 20000 in
theorem ggX7_denature_X7_part : GoodIn wsX7_denature wsX7_part := goodIn_r _ [25] (by decide +kernel) (by decide +kernel)
set_option maxRecDepth 20000 in
theorem gX7_denature_X7_part : GoodIn wsX7_denature (va_wsS RX7 77 yX7_part wsX7_part) := goodIn_app (goodIn_of _ (by decide +kernel)) ggX7_denature_X7_part
set_option maxRecDepth 20000 in
theorem ggX7_denature_X7_takes : GoodIn wsX7_denature wsX7_takes := goodIn_r _ [29, 1, 2, 23, 24, 9, 25, 30, 31, 32, 33, 34, 35, 36, 37, 38, 39, 40, 41, 42, 43, 44, 45, 46, 47, 48, 49, 50, 51, 52, 53, 54, 55, 56, 57] (by decide +kernel) (by decide +kernel)
set_option maxRecDepth 20000 in
theorem gX7_denature_X7_takes : GoodIn wsX7_denature (wsV RX7 109 RX7 yX7_takes wsX7_takes) := goodIn_app (goodIn_of _ (by decide +kernel)) ggX7_denature_X7_takes
theorem dX7_denature_0 : decode cX7_denature 0 = .ok (.aload_n 0, 1) := by decide +kernel
theorem dX7_denature_1 : decode cX7_denature 1 = .ok (.iload_n 1, 1) := by decide +kernel
theorem dX7_denature_2 : decode cX7_denature 2 = .ok (.iload_n 2, 1) := by decide +kernel
theorem dX7_denature_3 : decode cX7_denature 3 = .ok (.invokevirtual 119, 3) := by decide +kernel
theorem dX7_denature_6 : decode cX7_denature 6 = .ok (.ifCond .ne 5, 3) := by decide +kernel
theorem dX7_denature_9 : decode cX7_denature 9 = .ok (.iconst 0, 1) := by decide +kernel
theorem dX7_denature_10 : decode cX7_denature 10 = .ok (.ireturn, 1) := by decide +kernel
theorem dX7_denature_11 : decode cX7_denature 11 = .ok (.aload_n 0, 1) := by decide +kernel
theorem dX7_denature_12 : decode cX7_denature 12 = .ok (.getfield 19, 3) := by decide +kernel
theorem dX7_denature_15 : decode cX7_denature 15 = .ok (.iload_n 1, 1) := by decide +kernel
theorem dX7_denature_16 : decode cX7_denature 16 = .ok (.iaload, 1) := by decide +kernel
theorem dX7_denature_17 : decode cX7_denature 17 = .ok (.iload_n 2, 1) := by decide +kernel
theorem dX7_denature_18 : decode cX7_denature 18 = .ok (.aload_n 0, 1) := by decide +kernel
theorem dX7_denature_19 : decode cX7_denature 19 = .ok (.getfield 16, 3) := by decide +kernel
theorem dX7_denature_22 : decode cX7_denature 22 = .ok (.iload_n 1, 1) := by decide +kernel
theorem dX7_denature_23 : decode cX7_denature 23 = .ok (.iaload, 1) := by decide +kernel
theorem dX7_denature_24 : decode cX7_denature 24 = .ok (.invokestatic 77, 3) := by decide +kernel
theorem dX7_denature_27 : decode cX7_denature 27 = .ok (.istore_n 3, 1) := by decide +kernel
theorem dX7_denature_28 : decode cX7_denature 28 = .ok (.aload_n 0, 1) := by decide +kernel
theorem dX7_denature_29 : decode cX7_denature 29 = .ok (.iload_n 3, 1) := by decide +kernel
theorem dX7_denature_30 : decode cX7_denature 30 = .ok (.aload_n 0, 1) := by decide +kernel
theorem dX7_denature_31 : decode cX7_denature 31 = .ok (.getfield 133, 3) := by decide +kernel
theorem dX7_denature_34 : decode cX7_denature 34 = .ok (.if_icmp .le 7, 3) := by decide +kernel
theorem dX7_denature_37 : decode cX7_denature 37 = .ok (.iconst 3, 1) := by decide +kernel
theorem dX7_denature_38 : decode cX7_denature 38 = .ok (.goto 4, 3) := by decide +kernel
theorem dX7_denature_41 : decode cX7_denature 41 = .ok (.iconst 0, 1) := by decide +kernel
theorem dX7_denature_42 : decode cX7_denature 42 = .ok (.putfield 56, 3) := by decide +kernel
theorem dX7_denature_45 : decode cX7_denature 45 = .ok (.aload_n 0, 1) := by decide +kernel
theorem dX7_denature_46 : decode cX7_denature 46 = .ok (.getfield 56, 3) := by decide +kernel
theorem dX7_denature_49 : decode cX7_denature 49 = .ok (.ifCond .le 5, 3) := by decide +kernel
theorem dX7_denature_52 : decode cX7_denature 52 = .ok (.iconst 0, 1) := by decide +kernel
theorem dX7_denature_53 : decode cX7_denature 53 = .ok (.ireturn, 1) := by decide +kernel
theorem dX7_denature_54 : decode cX7_denature 54 = .ok (.aload_n 0, 1) := by decide +kernel
theorem dX7_denature_55 : decode cX7_denature 55 = .ok (.iload_n 1, 1) := by decide +kernel
theorem dX7_denature_56 : decode cX7_denature 56 = .ok (.iload_n 2, 1) := by decide +kernel
theorem dX7_denature_57 : decode cX7_denature 57 = .ok (.invokevirtual 109, 3) := by decide +kernel
theorem dX7_denature_60 : decode cX7_denature 60 = .ok (.pop, 1) := by decide +kernel
theorem dX7_denature_61 : decode cX7_denature 61 = .ok (.aload_n 0, 1) := by decide +kernel
theorem dX7_denature_62 : decode cX7_denature 62 = .ok (.dup, 1) := by decide +kernel
theorem dX7_denature_63 : decode cX7_denature 63 = .ok (.getfield 133, 3) := by decide +kernel
theorem dX7_denature_66 : decode cX7_denature 66 = .ok (.iload_n 3, 1) := by decide +kernel
theorem dX7_denature_67 : decode cX7_denature 67 = .ok (.isub, 1) := by decide +kernel
theorem dX7_denature_68 : decode cX7_denature 68 = .ok (.putfield 133, 3) := by decide +kernel
theorem dX7_denature_71 : decode cX7_denature 71 = .ok (.aload_n 0, 1) := by decide +kernel
theorem dX7_denature_72 : decode cX7_denature 72 = .ok (.getfield 25, 3) := by decide +kernel
theorem dX7_denature_75 : decode cX7_denature 75 = .ok (.iconst 4, 1) := by decide +kernel
theorem dX7_denature_76 : decode cX7_denature 76 = .ok (.dup2, 1) := by decide +kernel
theorem dX7_denature_77 : decode cX7_denature 77 = .ok (.iaload, 1) := by decide +kernel
theorem dX7_denature_78 : decode cX7_denature 78 = .ok (.iload_n 3, 1) := by decide +kernel
theorem dX7_denature_79 : decode cX7_denature 79 = .ok (.iadd, 1) := by decide +kernel
theorem dX7_denature_80 : decode cX7_denature 80 = .ok (.iastore, 1) := by decide +kernel
theorem dX7_denature_81 : decode cX7_denature 81 = .ok (.iload_n 3, 1) := by decide +kernel
theorem dX7_denature_82 : decode cX7_denature 82 = .ok (.ireturn, 1) := by decide +kernel
theorem dX7_inLots_0 : decode cX7_inLots 0 = .ok (.iconst 0, 1) := by decide +kernel
theorem dX7_inLots_1 : decode cX7_inLots 1 = .ok (.istore_n 1, 1) := by decide +kernel
theorem dX7_inLots_2 : decode cX7_inLots 2 = .ok (.iconst 0, 1) := by decide +kernel
theorem dX7_inLots_3 : decode cX7_inLots 3 = .ok (.istore_n 2, 1) := by decide +kernel
theorem dX7_inLots_4 : decode cX7_inLots 4 = .ok (.iload_n 2, 1) := by decide +kernel
theorem dX7_inLots_5 : decode cX7_inLots 5 = .ok (.aload_n 0, 1) := by decide +kernel
theorem dX7_inLots_6 : decode cX7_inLots 6 = .ok (.getfield 125, 3) := by decide +kernel
theorem dX7_inLots_9 : decode cX7_inLots 9 = .ok (.if_icmp .ge 18, 3) := by decide +kernel
theorem dX7_inLots_12 : decode cX7_inLots 12 = .ok (.iload_n 1, 1) := by decide +kernel
theorem dX7_inLots_13 : decode cX7_inLots 13 = .ok (.aload_n 0, 1) := by decide +kernel
theorem dX7_inLots_14 : decode cX7_inLots 14 = .ok (.getfield 35, 3) := by decide +kernel
theorem dX7_inLots_17 : decode cX7_inLots 17 = .ok (.iload_n 2, 1) := by decide +kernel
theorem dX7_inLots_18 : decode cX7_inLots 18 = .ok (.iaload, 1) := by decide +kernel
theorem dX7_inLots_19 : decode cX7_inLots 19 = .ok (.iadd, 1) := by decide +kernel
theorem dX7_inLots_20 : decode cX7_inLots 20 = .ok (.istore_n 1, 1) := by decide +kernel
theorem dX7_inLots_21 : decode cX7_inLots 21 = .ok (.iinc 2 1, 3) := by decide +kernel
theorem dX7_inLots_24 : decode cX7_inLots 24 = .ok (.goto (-20), 3) := by decide +kernel
theorem dX7_inLots_27 : decode cX7_inLots 27 = .ok (.iload_n 1, 1) := by decide +kernel
theorem dX7_inLots_28 : decode cX7_inLots 28 = .ok (.ireturn, 1) := by decide +kernel
set_option maxRecDepth 20000 in
theorem ggX7_export_X7_inLots : GoodIn wsX7_export wsX7_inLots := goodIn_r _ [11, 2, 3, 18, 19, 20, 21, 22, 23, 24, 25, 26, 27, 28, 29, 30, 31, 32, 33, 34, 35, 36, 37, 38, 39, 40, 41, 42, 43, 44, 45] (by decide +kernel) (by decide +kernel)
set_option maxRecDepth 20000 in
theorem gX7_export_X7_inLots : GoodIn wsX7_export (wsV RX7 136 RX7 yX7_inLots wsX7_inLots) := goodIn_app (goodIn_of _ (by decide +kernel)) ggX7_export_X7_inLots
set_option maxRecDepth 20000 in
theorem ggX7_export_X7_least : GoodIn wsX7_export wsX7_least := goodIn_r _ [14] (by decide +kernel) (by decide +kernel)
set_option maxRecDepth 20000 in
theorem gX7_export_X7_least : GoodIn wsX7_export (va_wsS RX7 70 yX7_least wsX7_least) := goodIn_app (goodIn_of _ (by decide +kernel)) ggX7_export_X7_least
set_option maxRecDepth 20000 in
theorem ggX7_export_X7_part : GoodIn wsX7_export wsX7_part := goodIn_r _ [17] (by decide +kernel) (by decide +kernel)
set_option maxRecDepth 20000 in
theorem gX7_export_X7_part : GoodIn wsX7_export (va_wsS RX7 77 yX7_part wsX7_part) := goodIn_app (goodIn_of _ (by decide +kernel)) ggX7_export_X7_part
theorem dX7_export_0 : decode cX7_export 0 = .ok (.aload_n 0, 1) := by decide +kernel
theorem dX7_export_1 : decode cX7_export 1 = .ok (.iload_n 1, 1) := by decide +kernel
theorem dX7_export_2 : decode cX7_export 2 = .ok (.iconst 1, 1) := by decide +kernel
theorem dX7_export_3 : decode cX7_export 3 = .ok (.if_icmp .ge 7, 3) := by decide +kernel
theorem dX7_export_6 : decode cX7_export 6 = .ok (.iconst 1, 1) := by decide +kernel
theorem dX7_export_7 : decode cX7_export 7 = .ok (.goto 16, 3) := by decide +kernel
theorem dX7_export_10 : decode cX7_export 10 = .ok (.iload_n 1, 1) := by decide +kernel
theorem dX7_export_11 : decode cX7_export 11 = .ok (.aload_n 0, 1) := by decide +kernel
theorem dX7_export_12 : decode cX7_export 12 = .ok (.invokevirtual 136, 3) := by decide +kernel
theorem dX7_export_15 : decode cX7_export 15 = .ok (.if_icmp .le 7, 3) := by decide +kernel
theorem dX7_export_18 : decode cX7_export 18 = .ok (.iconst 2, 1) := by decide +kernel
theorem dX7_export_19 : decode cX7_export 19 = .ok (.goto 4, 3) := by decide +kernel
theorem dX7_export_22 : decode cX7_export 22 = .ok (.iconst 0, 1) := by decide +kernel
theorem dX7_export_23 : decode cX7_export 23 = .ok (.putfield 56, 3) := by decide +kernel
theorem dX7_export_26 : decode cX7_export 26 = .ok (.aload_n 0, 1) := by decide +kernel
theorem dX7_export_27 : decode cX7_export 27 = .ok (.getfield 56, 3) := by decide +kernel
theorem dX7_export_30 : decode cX7_export 30 = .ok (.ifCond .le 5, 3) := by decide +kernel
theorem dX7_export_33 : decode cX7_export 33 = .ok (.iconst 0, 1) := by decide +kernel
theorem dX7_export_34 : decode cX7_export 34 = .ok (.ireturn, 1) := by decide +kernel
theorem dX7_export_35 : decode cX7_export 35 = .ok (.iload_n 1, 1) := by decide +kernel
theorem dX7_export_36 : decode cX7_export 36 = .ok (.istore_n 2, 1) := by decide +kernel
theorem dX7_export_37 : decode cX7_export 37 = .ok (.iconst 0, 1) := by decide +kernel
theorem dX7_export_38 : decode cX7_export 38 = .ok (.istore_n 3, 1) := by decide +kernel
theorem dX7_export_39 : decode cX7_export 39 = .ok (.iconst 0, 1) := by decide +kernel
theorem dX7_export_40 : decode cX7_export 40 = .ok (.istore 4, 2) := by decide +kernel
theorem dX7_export_42 : decode cX7_export 42 = .ok (.iload 4, 2) := by decide +kernel
theorem dX7_export_44 : decode cX7_export 44 = .ok (.aload_n 0, 1) := by decide +kernel
theorem dX7_export_45 : decode cX7_export 45 = .ok (.getfield 125, 3) := by decide +kernel
theorem dX7_export_48 : decode cX7_export 48 = .ok (.if_icmp .ge 90, 3) := by decide +kernel
theorem dX7_export_51 : decode cX7_export 51 = .ok (.iload_n 2, 1) := by decide +kernel
theorem dX7_export_52 : decode cX7_export 52 = .ok (.ifCond .le 86, 3) := by decide +kernel
theorem dX7_export_55 : decode cX7_export 55 = .ok (.iload_n 2, 1) := by decide +kernel
theorem dX7_export_56 : decode cX7_export 56 = .ok (.aload_n 0, 1) := by decide +kernel
theorem dX7_export_57 : decode cX7_export 57 = .ok (.getfield 35, 3) := by decide +kernel
theorem dX7_export_60 : decode cX7_export 60 = .ok (.iload 4, 2) := by decide +kernel
theorem dX7_export_62 : decode cX7_export 62 = .ok (.iaload, 1) := by decide +kernel
theorem dX7_export_63 : decode cX7_export 63 = .ok (.invokestatic 70, 3) := by decide +kernel
theorem dX7_export_66 : decode cX7_export 66 = .ok (.istore 5, 2) := by decide +kernel
theorem dX7_export_68 : decode cX7_export 68 = .ok (.iload 5, 2) := by decide +kernel
theorem dX7_export_70 : decode cX7_export 70 = .ok (.ifCond .ne 7, 3) := by decide +kernel
theorem dX7_export_73 : decode cX7_export 73 = .ok (.iconst 0, 1) := by decide +kernel
theorem dX7_export_74 : decode cX7_export 74 = .ok (.goto 22, 3) := by decide +kernel
theorem dX7_export_77 : decode cX7_export 77 = .ok (.aload_n 0, 1) := by decide +kernel
theorem dX7_export_78 : decode cX7_export 78 = .ok (.getfield 38, 3) := by decide +kernel
theorem dX7_export_81 : decode cX7_export 81 = .ok (.iload 4, 2) := by decide +kernel
theorem dX7_export_83 : decode cX7_export 83 = .ok (.iaload, 1) := by decide +kernel
theorem dX7_export_84 : decode cX7_export 84 = .ok (.iload 5, 2) := by decide +kernel
theorem dX7_export_86 : decode cX7_export 86 = .ok (.aload_n 0, 1) := by decide +kernel
theorem dX7_export_87 : decode cX7_export 87 = .ok (.getfield 35, 3) := by decide +kernel
theorem dX7_export_90 : decode cX7_export 90 = .ok (.iload 4, 2) := by decide +kernel
theorem dX7_export_92 : decode cX7_export 92 = .ok (.iaload, 1) := by decide +kernel
theorem dX7_export_93 : decode cX7_export 93 = .ok (.invokestatic 77, 3) := by decide +kernel
theorem dX7_export_96 : decode cX7_export 96 = .ok (.istore 6, 2) := by decide +kernel
theorem dX7_export_98 : decode cX7_export 98 = .ok (.aload_n 0, 1) := by decide +kernel
theorem dX7_export_99 : decode cX7_export 99 = .ok (.getfield 35, 3) := by decide +kernel
theorem dX7_export_102 : decode cX7_export 102 = .ok (.iload 4, 2) := by decide +kernel
theorem dX7_export_104 : decode cX7_export 104 = .ok (.dup2, 1) := by decide +kernel
theorem dX7_export_105 : decode cX7_export 105 = .ok (.iaload, 1) := by decide +kernel
theorem dX7_export_106 : decode cX7_export 106 = .ok (.iload 5, 2) := by decide +kernel
theorem dX7_export_108 : decode cX7_export 108 = .ok (.isub, 1) := by decide +kernel
theorem dX7_export_109 : decode cX7_export 109 = .ok (.iastore, 1) := by decide +kernel
theorem dX7_export_110 : decode cX7_export 110 = .ok (.aload_n 0, 1) := by decide +kernel
theorem dX7_export_111 : decode cX7_export 111 = .ok (.getfield 38, 3) := by decide +kernel
theorem dX7_export_114 : decode cX7_export 114 = .ok (.iload 4, 2) := by decide +kernel
theorem dX7_export_116 : decode cX7_export 116 = .ok (.dup2, 1) := by decide +kernel
theorem dX7_export_117 : decode cX7_export 117 = .ok (.iaload, 1) := by decide +kernel
theorem dX7_export_118 : decode cX7_export 118 = .ok (.iload 6, 2) := by decide +kernel
theorem dX7_export_120 : decode cX7_export 120 = .ok (.isub, 1) := by decide +kernel
theorem dX7_export_121 : decode cX7_export 121 = .ok (.iastore, 1) := by decide +kernel
theorem dX7_export_122 : decode cX7_export 122 = .ok (.iload_n 2, 1) := by decide +kernel
theorem dX7_export_123 : decode cX7_export 123 = .ok (.iload 5, 2) := by decide +kernel
theorem dX7_export_125 : decode cX7_export 125 = .ok (.isub, 1) := by decide +kernel
theorem dX7_export_126 : decode cX7_export 126 = .ok (.istore_n 2, 1) := by decide +kernel
theorem dX7_export_127 : decode cX7_export 127 = .ok (.iload_n 3, 1) := by decide +kernel
theorem dX7_export_128 : decode cX7_export 128 = .ok (.iload 6, 2) := by decide +kernel
theorem dX7_export_130 : decode cX7_export 130 = .ok (.iadd, 1) := by decide +kernel
theorem dX7_export_131 : decode cX7_export 131 = .ok (.istore_n 3, 1) := by decide +kernel
theorem dX7_export_132 : decode cX7_export 132 = .ok (.iinc 4 1, 3) := by decide +kernel
theorem dX7_export_135 : decode cX7_export 135 = .ok (.goto (-93), 3) := by decide +kernel
theorem dX7_export_138 : decode cX7_export 138 = .ok (.aload_n 0, 1) := by decide +kernel
theorem dX7_export_139 : decode cX7_export 139 = .ok (.getfield 25, 3) := by decide +kernel
theorem dX7_export_142 : decode cX7_export 142 = .ok (.bipush 6, 2) := by decide +kernel
theorem dX7_export_144 : decode cX7_export 144 = .ok (.dup2, 1) := by decide +kernel
theorem dX7_export_145 : decode cX7_export 145 = .ok (.iaload, 1) := by decide +kernel
theorem dX7_export_146 : decode cX7_export 146 = .ok (.iload_n 1, 1) := by decide +kernel
theorem dX7_export_147 : decode cX7_export 147 = .ok (.iadd, 1) := by decide +kernel
theorem dX7_export_148 : decode cX7_export 148 = .ok (.iastore, 1) := by decide +kernel
theorem dX7_export_149 : decode cX7_export 149 = .ok (.aload_n 0, 1) := by decide +kernel
theorem dX7_export_150 : decode cX7_export 150 = .ok (.dup, 1) := by decide +kernel
theorem dX7_export_151 : decode cX7_export 151 = .ok (.getfield 85, 3) := by decide +kernel
theorem dX7_export_154 : decode cX7_export 154 = .ok (.iload_n 3, 1) := by decide +kernel
theorem dX7_export_155 : decode cX7_export 155 = .ok (.isub, 1) := by decide +kernel
theorem dX7_export_156 : decode cX7_export 156 = .ok (.putfield 85, 3) := by decide +kernel
theorem dX7_export_159 : decode cX7_export 159 = .ok (.iload_n 3, 1) := by decide +kernel
theorem dX7_export_160 : decode cX7_export 160 = .ok (.ireturn, 1) := by decide +kernel
set_option maxRecDepth 20000 in
theorem ggX7_pay_X7_in : GoodIn wsX7_pay wsX7_in := goodIn_r _ [7] (by decide +kernel) (by decide +kernel)
set_option maxRecDepth 20000 in
theorem gX7_pay_X7_in : GoodIn wsX7_pay (va_wsS RX7 62 yX7_in wsX7_in) := goodIn_app (goodIn_of _ (by decide +kernel)) ggX7_pay_X7_in
theorem dX7_pay_0 : decode cX7_pay 0 = .ok (.aload_n 0, 1) := by decide +kernel
theorem dX7_pay_1 : decode cX7_pay 1 = .ok (.iload_n 1, 1) := by decide +kernel
theorem dX7_pay_2 : decode cX7_pay 2 = .ok (.iconst 1, 1) := by decide +kernel
theorem dX7_pay_3 : decode cX7_pay 3 = .ok (.ldc 140, 2) := by decide +kernel
theorem dX7_pay_5 : decode cX7_pay 5 = .ok (.invokestatic 62, 3) := by decide +kernel
theorem dX7_pay_8 : decode cX7_pay 8 = .ok (.ifCond .ne 7, 3) := by decide +kernel
theorem dX7_pay_11 : decode cX7_pay 11 = .ok (.iconst 1, 1) := by decide +kernel
theorem dX7_pay_12 : decode cX7_pay 12 = .ok (.goto 16, 3) := by decide +kernel
theorem dX7_pay_15 : decode cX7_pay 15 = .ok (.iload_n 1, 1) := by decide +kernel
theorem dX7_pay_16 : decode cX7_pay 16 = .ok (.aload_n 0, 1) := by decide +kernel
theorem dX7_pay_17 : decode cX7_pay 17 = .ok (.getfield 85, 3) := by decide +kernel
theorem dX7_pay_20 : decode cX7_pay 20 = .ok (.if_icmp .le 7, 3) := by decide +kernel
theorem dX7_pay_23 : decode cX7_pay 23 = .ok (.iconst 2, 1) := by decide +kernel
theorem dX7_pay_24 : decode cX7_pay 24 = .ok (.goto 4, 3) := by decide +kernel
theorem dX7_pay_27 : decode cX7_pay 27 = .ok (.iconst 0, 1) := by decide +kernel
theorem dX7_pay_28 : decode cX7_pay 28 = .ok (.putfield 56, 3) := by decide +kernel
theorem dX7_pay_31 : decode cX7_pay 31 = .ok (.aload_n 0, 1) := by decide +kernel
theorem dX7_pay_32 : decode cX7_pay 32 = .ok (.getfield 56, 3) := by decide +kernel
theorem dX7_pay_35 : decode cX7_pay 35 = .ok (.ifCond .le 5, 3) := by decide +kernel
theorem dX7_pay_38 : decode cX7_pay 38 = .ok (.iconst 0, 1) := by decide +kernel
theorem dX7_pay_39 : decode cX7_pay 39 = .ok (.ireturn, 1) := by decide +kernel
theorem dX7_pay_40 : decode cX7_pay 40 = .ok (.aload_n 0, 1) := by decide +kernel
theorem dX7_pay_41 : decode cX7_pay 41 = .ok (.dup, 1) := by decide +kernel
theorem dX7_pay_42 : decode cX7_pay 42 = .ok (.getfield 85, 3) := by decide +kernel
theorem dX7_pay_45 : decode cX7_pay 45 = .ok (.iload_n 1, 1) := by decide +kernel
theorem dX7_pay_46 : decode cX7_pay 46 = .ok (.isub, 1) := by decide +kernel
theorem dX7_pay_47 : decode cX7_pay 47 = .ok (.putfield 85, 3) := by decide +kernel
theorem dX7_pay_50 : decode cX7_pay 50 = .ok (.aload_n 0, 1) := by decide +kernel
theorem dX7_pay_51 : decode cX7_pay 51 = .ok (.getfield 85, 3) := by decide +kernel
theorem dX7_pay_54 : decode cX7_pay 54 = .ok (.ireturn, 1) := by decide +kernel
set_option maxRecDepth 20000 in
theorem ggX7_budget_X7_in : GoodIn wsX7_budget wsX7_in := goodIn_r _ [10] (by decide +kernel) (by decide +kernel)
set_option maxRecDepth 20000 in
theorem gX7_budget_X7_in : GoodIn wsX7_budget (va_wsS RX7 62 yX7_in wsX7_in) := goodIn_app (goodIn_of _ (by decide +kernel)) ggX7_budget_X7_in
theorem dX7_budget_0 : decode cX7_budget 0 = .ok (.iload_n 1, 1) := by decide +kernel
theorem dX7_budget_1 : decode cX7_budget 1 = .ok (.aload_n 0, 1) := by decide +kernel
theorem dX7_budget_2 : decode cX7_budget 2 = .ok (.getfield 141, 3) := by decide +kernel
theorem dX7_budget_5 : decode cX7_budget 5 = .ok (.iconst 1, 1) := by decide +kernel
theorem dX7_budget_6 : decode cX7_budget 6 = .ok (.iadd, 1) := by decide +kernel
theorem dX7_budget_7 : decode cX7_budget 7 = .ok (.sipush 900, 3) := by decide +kernel
theorem dX7_budget_10 : decode cX7_budget 10 = .ok (.invokestatic 62, 3) := by decide +kernel
theorem dX7_budget_13 : decode cX7_budget 13 = .ok (.ifCond .eq 27, 3) := by decide +kernel
theorem dX7_budget_16 : decode cX7_budget 16 = .ok (.iload_n 2, 1) := by decide +kernel
theorem dX7_budget_17 : decode cX7_budget 17 = .ok (.iconst 0, 1) := by decide +kernel
theorem dX7_budget_18 : decode cX7_budget 18 = .ok (.bipush 99, 2) := by decide +kernel
theorem dX7_budget_20 : decode cX7_budget 20 = .ok (.invokestatic 62, 3) := by decide +kernel
theorem dX7_budget_23 : decode cX7_budget 23 = .ok (.ifCond .eq 17, 3) := by decide +kernel
theorem dX7_budget_26 : decode cX7_budget 26 = .ok (.iload_n 3, 1) := by decide +kernel
theorem dX7_budget_27 : decode cX7_budget 27 = .ok (.iconst 0, 1) := by decide +kernel
theorem dX7_budget_28 : decode cX7_budget 28 = .ok (.ldc 132, 2) := by decide +kernel
theorem dX7_budget_30 : decode cX7_budget 30 = .ok (.invokestatic 62, 3) := by decide +kernel
theorem dX7_budget_33 : decode cX7_budget 33 = .ok (.ifCond .eq 7, 3) := by decide +kernel
theorem dX7_budget_36 : decode cX7_budget 36 = .ok (.iconst 1, 1) := by decide +kernel
theorem dX7_budget_37 : decode cX7_budget 37 = .ok (.goto 4, 3) := by decide +kernel
theorem dX7_budget_40 : decode cX7_budget 40 = .ok (.iconst 0, 1) := by decide +kernel
theorem dX7_budget_41 : decode cX7_budget 41 = .ok (.istore 4, 2) := by decide +kernel
theorem dX7_budget_43 : decode cX7_budget 43 = .ok (.aload_n 0, 1) := by decide +kernel
theorem dX7_budget_44 : decode cX7_budget 44 = .ok (.iload 4, 2) := by decide +kernel
theorem dX7_budget_46 : decode cX7_budget 46 = .ok (.ifCond .ne 7, 3) := by decide +kernel
theorem dX7_budget_49 : decode cX7_budget 49 = .ok (.iconst 1, 1) := by decide +kernel
theorem dX7_budget_50 : decode cX7_budget 50 = .ok (.goto 16, 3) := by decide +kernel
theorem dX7_budget_53 : decode cX7_budget 53 = .ok (.aload_n 0, 1) := by decide +kernel
theorem dX7_budget_54 : decode cX7_budget 54 = .ok (.getfield 32, 3) := by decide +kernel
theorem dX7_budget_57 : decode cX7_budget 57 = .ok (.iconst (-1), 1) := by decide +kernel
theorem dX7_budget_58 : decode cX7_budget 58 = .ok (.if_icmp .eq 7, 3) := by decide +kernel
theorem dX7_budget_61 : decode cX7_budget 61 = .ok (.iconst 2, 1) := by decide +kernel
theorem dX7_budget_62 : decode cX7_budget 62 = .ok (.goto 4, 3) := by decide +kernel
theorem dX7_budget_65 : decode cX7_budget 65 = .ok (.iconst 0, 1) := by decide +kernel
theorem dX7_budget_66 : decode cX7_budget 66 = .ok (.putfield 56, 3) := by decide +kernel
theorem dX7_budget_69 : decode cX7_budget 69 = .ok (.aload_n 0, 1) := by decide +kernel
theorem dX7_budget_70 : decode cX7_budget 70 = .ok (.getfield 56, 3) := by decide +kernel
theorem dX7_budget_73 : decode cX7_budget 73 = .ok (.ifCond .ne 18, 3) := by decide +kernel
theorem dX7_budget_76 : decode cX7_budget 76 = .ok (.aload_n 0, 1) := by decide +kernel
theorem dX7_budget_77 : decode cX7_budget 77 = .ok (.iload_n 1, 1) := by decide +kernel
theorem dX7_budget_78 : decode cX7_budget 78 = .ok (.putfield 32, 3) := by decide +kernel
theorem dX7_budget_81 : decode cX7_budget 81 = .ok (.aload_n 0, 1) := by decide +kernel
theorem dX7_budget_82 : decode cX7_budget 82 = .ok (.iload_n 2, 1) := by decide +kernel
theorem dX7_budget_83 : decode cX7_budget 83 = .ok (.putfield 144, 3) := by decide +kernel
theorem dX7_budget_86 : decode cX7_budget 86 = .ok (.aload_n 0, 1) := by decide +kernel
theorem dX7_budget_87 : decode cX7_budget 87 = .ok (.iload_n 3, 1) := by decide +kernel
theorem dX7_budget_88 : decode cX7_budget 88 = .ok (.putfield 122, 3) := by decide +kernel
theorem dX7_budget_91 : decode cX7_budget 91 = .ok (.return_, 1) := by decide +kernel
theorem dX7_moving_0 : decode cX7_moving 0 = .ok (.iconst 0, 1) := by decide +kernel
theorem dX7_moving_1 : decode cX7_moving 1 = .ok (.istore_n 1, 1) := by decide +kernel
theorem dX7_moving_2 : decode cX7_moving 2 = .ok (.iconst 0, 1) := by decide +kernel
theorem dX7_moving_3 : decode cX7_moving 3 = .ok (.istore_n 2, 1) := by decide +kernel
theorem dX7_moving_4 : decode cX7_moving 4 = .ok (.iload_n 2, 1) := by decide +kernel
theorem dX7_moving_5 : decode cX7_moving 5 = .ok (.aload_n 0, 1) := by decide +kernel
theorem dX7_moving_6 : decode cX7_moving 6 = .ok (.getfield 147, 3) := by decide +kernel
theorem dX7_moving_9 : decode cX7_moving 9 = .ok (.if_icmp .ge 31, 3) := by decide +kernel
theorem dX7_moving_12 : decode cX7_moving 12 = .ok (.iload_n 1, 1) := by decide +kernel
theorem dX7_moving_13 : decode cX7_moving 13 = .ok (.aload_n 0, 1) := by decide +kernel
theorem dX7_moving_14 : decode cX7_moving 14 = .ok (.getfield 41, 3) := by decide +kernel
theorem dX7_moving_17 : decode cX7_moving 17 = .ok (.iload_n 2, 1) := by decide +kernel
theorem dX7_moving_18 : decode cX7_moving 18 = .ok (.iaload, 1) := by decide +kernel
theorem dX7_moving_19 : decode cX7_moving 19 = .ok (.ifCond .ne 12, 3) := by decide +kernel
theorem dX7_moving_22 : decode cX7_moving 22 = .ok (.aload_n 0, 1) := by decide +kernel
theorem dX7_moving_23 : decode cX7_moving 23 = .ok (.getfield 50, 3) := by decide +kernel
theorem dX7_moving_26 : decode cX7_moving 26 = .ok (.iload_n 2, 1) := by decide +kernel
theorem dX7_moving_27 : decode cX7_moving 27 = .ok (.iaload, 1) := by decide +kernel
theorem dX7_moving_28 : decode cX7_moving 28 = .ok (.goto 4, 3) := by decide +kernel
theorem dX7_moving_31 : decode cX7_moving 31 = .ok (.iconst 0, 1) := by decide +kernel
theorem dX7_moving_32 : decode cX7_moving 32 = .ok (.iadd, 1) := by decide +kernel
theorem dX7_moving_33 : decode cX7_moving 33 = .ok (.istore_n 1, 1) := by decide +kernel
theorem dX7_moving_34 : decode cX7_moving 34 = .ok (.iinc 2 1, 3) := by decide +kernel
theorem dX7_moving_37 : decode cX7_moving 37 = .ok (.goto (-33), 3) := by decide +kernel
theorem dX7_moving_40 : decode cX7_moving 40 = .ok (.iload_n 1, 1) := by decide +kernel
theorem dX7_moving_41 : decode cX7_moving 41 = .ok (.ireturn, 1) := by decide +kernel
set_option maxRecDepth 20000 in
theorem ggX7_guarantee_X7_in : GoodIn wsX7_guarantee wsX7_in := goodIn_r _ [8] (by decide +kernel) (by decide +kernel)
set_option maxRecDepth 20000 in
theorem gX7_guarantee_X7_in : GoodIn wsX7_guarantee (va_wsS RX7 62 yX7_in wsX7_in) := goodIn_app (goodIn_of _ (by decide +kernel)) ggX7_guarantee_X7_in
set_option maxRecDepth 20000 in
theorem ggX7_guarantee_X7_moving : GoodIn wsX7_guarantee wsX7_moving := goodIn_r _ [12, 13, 14, 15, 21, 22, 23, 24, 25, 26, 27, 28, 29, 30, 31, 32, 33, 34, 35, 36, 37, 38, 39, 40, 41, 42, 43, 44, 45, 46, 47, 48] (by decide +kernel) (by decide +kernel)
set_option maxRecDepth 20000 in
theorem gX7_guarantee_X7_moving : GoodIn wsX7_guarantee (wsV RX7 150 RX7 yX7_moving wsX7_moving) := goodIn_app (goodIn_of _ (by decide +kernel)) ggX7_guarantee_X7_moving
set_option maxRecDepth 20000 in
theorem ggX7_guarantee_X7_dutyFor : GoodIn wsX7_guarantee wsX7_dutyFor := goodIn_r _ [19, 20] (by decide +kernel) (by decide +kernel)
set_option maxRecDepth 20000 in
theorem gX7_guarantee_X7_dutyFor : GoodIn wsX7_guarantee (wsV RX7 82 RX7 yX7_dutyFor wsX7_dutyFor) := goodIn_app (goodIn_of _ (by decide +kernel)) ggX7_guarantee_X7_dutyFor
theorem dX7_guarantee_0 : decode cX7_guarantee 0 = .ok (.aload_n 0, 1) := by decide +kernel
theorem dX7_guarantee_1 : decode cX7_guarantee 1 = .ok (.iload_n 1, 1) := by decide +kernel
theorem dX7_guarantee_2 : decode cX7_guarantee 2 = .ok (.iconst 0, 1) := by decide +kernel
theorem dX7_guarantee_3 : decode cX7_guarantee 3 = .ok (.ldc 132, 2) := by decide +kernel
theorem dX7_guarantee_5 : decode cX7_guarantee 5 = .ok (.invokestatic 62, 3) := by decide +kernel
theorem dX7_guarantee_8 : decode cX7_guarantee 8 = .ok (.ifCond .ne 7, 3) := by decide +kernel
theorem dX7_guarantee_11 : decode cX7_guarantee 11 = .ok (.iconst 1, 1) := by decide +kernel
theorem dX7_guarantee_12 : decode cX7_guarantee 12 = .ok (.goto 24, 3) := by decide +kernel
theorem dX7_guarantee_15 : decode cX7_guarantee 15 = .ok (.iload_n 1, 1) := by decide +kernel
theorem dX7_guarantee_16 : decode cX7_guarantee 16 = .ok (.aload_n 0, 1) := by decide +kernel
theorem dX7_guarantee_17 : decode cX7_guarantee 17 = .ok (.aload_n 0, 1) := by decide +kernel
theorem dX7_guarantee_18 : decode cX7_guarantee 18 = .ok (.invokevirtual 150, 3) := by decide +kernel
theorem dX7_guarantee_21 : decode cX7_guarantee 21 = .ok (.aload_n 0, 1) := by decide +kernel
theorem dX7_guarantee_22 : decode cX7_guarantee 22 = .ok (.getfield 28, 3) := by decide +kernel
theorem dX7_guarantee_25 : decode cX7_guarantee 25 = .ok (.invokevirtual 82, 3) := by decide +kernel
theorem dX7_guarantee_28 : decode cX7_guarantee 28 = .ok (.if_icmp .ge 7, 3) := by decide +kernel
theorem dX7_guarantee_31 : decode cX7_guarantee 31 = .ok (.iconst 2, 1) := by decide +kernel
theorem dX7_guarantee_32 : decode cX7_guarantee 32 = .ok (.goto 4, 3) := by decide +kernel
theorem dX7_guarantee_35 : decode cX7_guarantee 35 = .ok (.iconst 0, 1) := by decide +kernel
theorem dX7_guarantee_36 : decode cX7_guarantee 36 = .ok (.putfield 56, 3) := by decide +kernel
theorem dX7_guarantee_39 : decode cX7_guarantee 39 = .ok (.aload_n 0, 1) := by decide +kernel
theorem dX7_guarantee_40 : decode cX7_guarantee 40 = .ok (.getfield 56, 3) := by decide +kernel
theorem dX7_guarantee_43 : decode cX7_guarantee 43 = .ok (.ifCond .le 5, 3) := by decide +kernel
theorem dX7_guarantee_46 : decode cX7_guarantee 46 = .ok (.iconst 0, 1) := by decide +kernel
theorem dX7_guarantee_47 : decode cX7_guarantee 47 = .ok (.ireturn, 1) := by decide +kernel
theorem dX7_guarantee_48 : decode cX7_guarantee 48 = .ok (.aload_n 0, 1) := by decide +kernel
theorem dX7_guarantee_49 : decode cX7_guarantee 49 = .ok (.getfield 153, 3) := by decide +kernel
theorem dX7_guarantee_52 : decode cX7_guarantee 52 = .ok (.istore_n 2, 1) := by decide +kernel
theorem dX7_guarantee_53 : decode cX7_guarantee 53 = .ok (.aload_n 0, 1) := by decide +kernel
theorem dX7_guarantee_54 : decode cX7_guarantee 54 = .ok (.iload_n 1, 1) := by decide +kernel
theorem dX7_guarantee_55 : decode cX7_guarantee 55 = .ok (.putfield 153, 3) := by decide +kernel
theorem dX7_guarantee_58 : decode cX7_guarantee 58 = .ok (.iload_n 2, 1) := by decide +kernel
theorem dX7_guarantee_59 : decode cX7_guarantee 59 = .ok (.ireturn, 1) := by decide +kernel
set_option maxRecDepth 20000 in
theorem ggX7_ship_X7_isVessel : GoodIn wsX7_ship wsX7_isVessel := goodIn_r _ [17, 18, 19, 20, 16, 21, 43, 44, 45, 46, 47, 48, 49, 50, 51, 52, 53, 54, 55, 56, 57, 58, 59, 60, 61, 62, 63, 64, 65, 66, 67, 68, 69, 70] (by decide +kernel) (by decide +kernel)
set_option maxRecDepth 20000 in
theorem gX7_ship_X7_isVessel : GoodIn wsX7_ship (wsV RX7 92 RX7 yX7_isVessel wsX7_isVessel) := goodIn_app (goodIn_of _ (by decide +kernel)) ggX7_ship_X7_isVessel
set_option maxRecDepth 20000 in
theorem ggX7_ship_X7_in : GoodIn wsX7_ship wsX7_in := goodIn_r _ [21] (by decide +kernel) (by decide +kernel)
set_option maxRecDepth 20000 in
theorem gX7_ship_X7_in : GoodIn wsX7_ship (va_wsS RX7 62 yX7_in wsX7_in) := goodIn_app (goodIn_of _ (by decide +kernel)) ggX7_ship_X7_in
set_option maxRecDepth 20000 in
theorem ggX7_ship_X7_hasPart : GoodIn wsX7_ship wsX7_hasPart := goodIn_r _ [25, 6, 43, 44, 45, 46, 47, 48, 49, 50, 51, 52, 53, 54, 55, 56, 57, 58, 59, 60, 61, 62, 63, 64, 65, 66, 67, 68, 69, 70] (by decide +kernel) (by decide +kernel)
set_option maxRecDepth 20000 in
theorem gX7_ship_X7_hasPart : GoodIn wsX7_ship (wsV RX7 106 RX7 yX7_hasPart wsX7_hasPart) := goodIn_app (goodIn_of _ (by decide +kernel)) ggX7_ship_X7_hasPart
set_option maxRecDepth 20000 in
theorem ggX7_ship_X7_moving : GoodIn wsX7_ship wsX7_moving := goodIn_r _ [29, 3, 30, 10, 43, 44, 45, 46, 47, 48, 49, 50, 51, 52, 53, 54, 55, 56, 57, 58, 59, 60, 61, 62, 63, 64, 65, 66, 67, 68, 69, 70] (by decide +kernel) (by decide +kernel)
set_option maxRecDepth 20000 in
theorem gX7_ship_X7_moving : GoodIn wsX7_ship (wsV RX7 150 RX7 yX7_moving wsX7_moving) := goodIn_app (goodIn_of _ (by decide +kernel)) ggX7_ship_X7_moving
set_option maxRecDepth 20000 in
theorem ggX7_ship_X7_part : GoodIn wsX7_ship wsX7_part := goodIn_r _ [33] (by decide +kernel) (by decide +kernel)
set_option maxRecDepth 20000 in
theorem gX7_ship_X7_part : GoodIn wsX7_ship (va_wsS RX7 77 yX7_part wsX7_part) := goodIn_app (goodIn_of _ (by decide +kernel)) ggX7_ship_X7_part
set_option maxRecDepth 20000 in
theorem ggX7_ship_X7_dutyFor : GoodIn wsX7_ship wsX7_dutyFor := goodIn_r _ [37, 38] (by decide +kernel) (by decide +kernel)
set_option maxRecDepth 20000 in
theorem gX7_ship_X7_dutyFor : GoodIn wsX7_ship (wsV RX7 82 RX7 yX7_dutyFor wsX7_dutyFor) := goodIn_app (goodIn_of _ (by decide +kernel)) ggX7_ship_X7_dutyFor
set_option maxRecDepth 20000 in
theorem ggX7_ship_X7_takes : GoodIn wsX7_ship wsX7_takes := goodIn_r _ [42, 5, 6, 31, 32, 16, 33, 43, 44, 45, 46, 47, 48, 49, 50, 51, 52, 53, 54, 55, 56, 57, 58, 59, 60, 61, 62, 63, 64, 65, 66, 67, 68, 69, 70] (by decide +kernel) (by decide +kernel)
set_option maxRecDepth 20000 in
theorem gX7_ship_X7_takes : GoodIn wsX7_ship (wsV RX7 109 RX7 yX7_takes wsX7_takes) := goodIn_app (goodIn_of _ (by decide +kernel)) ggX7_ship_X7_takes
theorem dX7_ship_0 : decode cX7_ship 0 = .ok (.aload_n 0, 1) := by decide +kernel
theorem dX7_ship_1 : decode cX7_ship 1 = .ok (.iload_n 1, 1) := by decide +kernel
theorem dX7_ship_2 : decode cX7_ship 2 = .ok (.invokevirtual 92, 3) := by decide +kernel
theorem dX7_ship_5 : decode cX7_ship 5 = .ok (.ifCond .eq 15, 3) := by decide +kernel
theorem dX7_ship_8 : decode cX7_ship 8 = .ok (.aload_n 0, 1) := by decide +kernel
theorem dX7_ship_9 : decode cX7_ship 9 = .ok (.iload_n 2, 1) := by decide +kernel
theorem dX7_ship_10 : decode cX7_ship 10 = .ok (.invokevirtual 92, 3) := by decide +kernel
theorem dX7_ship_13 : decode cX7_ship 13 = .ok (.ifCond .eq 7, 3) := by decide +kernel
theorem dX7_ship_16 : decode cX7_ship 16 = .ok (.iconst 1, 1) := by decide +kernel
theorem dX7_ship_17 : decode cX7_ship 17 = .ok (.goto 4, 3) := by decide +kernel
theorem dX7_ship_20 : decode cX7_ship 20 = .ok (.iconst 0, 1) := by decide +kernel
theorem dX7_ship_21 : decode cX7_ship 21 = .ok (.istore 5, 2) := by decide +kernel
theorem dX7_ship_23 : decode cX7_ship 23 = .ok (.aload_n 0, 1) := by decide +kernel
theorem dX7_ship_24 : decode cX7_ship 24 = .ok (.iload 5, 2) := by decide +kernel
theorem dX7_ship_26 : decode cX7_ship 26 = .ok (.ifCond .ne 7, 3) := by decide +kernel
theorem dX7_ship_29 : decode cX7_ship 29 = .ok (.iconst 1, 1) := by decide +kernel
theorem dX7_ship_30 : decode cX7_ship 30 = .ok (.goto 24, 3) := by decide +kernel
theorem dX7_ship_33 : decode cX7_ship 33 = .ok (.iload_n 3, 1) := by decide +kernel
theorem dX7_ship_34 : decode cX7_ship 34 = .ok (.iconst 1, 1) := by decide +kernel
theorem dX7_ship_35 : decode cX7_ship 35 = .ok (.if_icmp .lt 14, 3) := by decide +kernel
theorem dX7_ship_38 : decode cX7_ship 38 = .ok (.iload 4, 2) := by decide +kernel
theorem dX7_ship_40 : decode cX7_ship 40 = .ok (.iconst 1, 1) := by decide +kernel
theorem dX7_ship_41 : decode cX7_ship 41 = .ok (.bipush 60, 2) := by decide +kernel
theorem dX7_ship_43 : decode cX7_ship 43 = .ok (.invokestatic 62, 3) := by decide +kernel
theorem dX7_ship_46 : decode cX7_ship 46 = .ok (.ifCond .ne 7, 3) := by decide +kernel
theorem dX7_ship_49 : decode cX7_ship 49 = .ok (.iconst 2, 1) := by decide +kernel
theorem dX7_ship_50 : decode cX7_ship 50 = .ok (.goto 4, 3) := by decide +kernel
theorem dX7_ship_53 : decode cX7_ship 53 = .ok (.iconst 0, 1) := by decide +kernel
theorem dX7_ship_54 : decode cX7_ship 54 = .ok (.putfield 56, 3) := by decide +kernel
theorem dX7_ship_57 : decode cX7_ship 57 = .ok (.aload_n 0, 1) := by decide +kernel
theorem dX7_ship_58 : decode cX7_ship 58 = .ok (.getfield 56, 3) := by decide +kernel
theorem dX7_ship_61 : decode cX7_ship 61 = .ok (.ifCond .ne 93, 3) := by decide +kernel
theorem dX7_ship_64 : decode cX7_ship 64 = .ok (.aload_n 0, 1) := by decide +kernel
theorem dX7_ship_65 : decode cX7_ship 65 = .ok (.getfield 7, 3) := by decide +kernel
theorem dX7_ship_68 : decode cX7_ship 68 = .ok (.iload_n 1, 1) := by decide +kernel
theorem dX7_ship_69 : decode cX7_ship 69 = .ok (.iaload, 1) := by decide +kernel
theorem dX7_ship_70 : decode cX7_ship 70 = .ok (.aload_n 0, 1) := by decide +kernel
theorem dX7_ship_71 : decode cX7_ship 71 = .ok (.getfield 7, 3) := by decide +kernel
theorem dX7_ship_74 : decode cX7_ship 74 = .ok (.iload_n 2, 1) := by decide +kernel
theorem dX7_ship_75 : decode cX7_ship 75 = .ok (.iaload, 1) := by decide +kernel
theorem dX7_ship_76 : decode cX7_ship 76 = .ok (.if_icmp .eq 25, 3) := by decide +kernel
theorem dX7_ship_79 : decode cX7_ship 79 = .ok (.aload_n 0, 1) := by decide +kernel
theorem dX7_ship_80 : decode cX7_ship 80 = .ok (.iload_n 1, 1) := by decide +kernel
theorem dX7_ship_81 : decode cX7_ship 81 = .ok (.iload_n 3, 1) := by decide +kernel
theorem dX7_ship_82 : decode cX7_ship 82 = .ok (.invokevirtual 106, 3) := by decide +kernel
theorem dX7_ship_85 : decode cX7_ship 85 = .ok (.ifCond .eq 16, 3) := by decide +kernel
theorem dX7_ship_88 : decode cX7_ship 88 = .ok (.aload_n 0, 1) := by decide +kernel
theorem dX7_ship_89 : decode cX7_ship 89 = .ok (.getfield 147, 3) := by decide +kernel
theorem dX7_ship_92 : decode cX7_ship 92 = .ok (.bipush 30, 2) := by decide +kernel
theorem dX7_ship_94 : decode cX7_ship 94 = .ok (.if_icmp .ge 7, 3) := by decide +kernel
theorem dX7_ship_97 : decode cX7_ship 97 = .ok (.iconst 1, 1) := by decide +kernel
theorem dX7_ship_98 : decode cX7_ship 98 = .ok (.goto 4, 3) := by decide +kernel
theorem dX7_ship_101 : decode cX7_ship 101 = .ok (.iconst 0, 1) := by decide +kernel
theorem dX7_ship_102 : decode cX7_ship 102 = .ok (.istore 6, 2) := by decide +kernel
theorem dX7_ship_104 : decode cX7_ship 104 = .ok (.aload_n 0, 1) := by decide +kernel
theorem dX7_ship_105 : decode cX7_ship 105 = .ok (.iload 6, 2) := by decide +kernel
theorem dX7_ship_107 : decode cX7_ship 107 = .ok (.ifCond .eq 43, 3) := by decide +kernel
theorem dX7_ship_110 : decode cX7_ship 110 = .ok (.aload_n 0, 1) := by decide +kernel
theorem dX7_ship_111 : decode cX7_ship 111 = .ok (.getfield 153, 3) := by decide +kernel
theorem dX7_ship_114 : decode cX7_ship 114 = .ok (.aload_n 0, 1) := by decide +kernel
theorem dX7_ship_115 : decode cX7_ship 115 = .ok (.aload_n 0, 1) := by decide +kernel
theorem dX7_ship_116 : decode cX7_ship 116 = .ok (.invokevirtual 150, 3) := by decide +kernel
theorem dX7_ship_119 : decode cX7_ship 119 = .ok (.aload_n 0, 1) := by decide +kernel
theorem dX7_ship_120 : decode cX7_ship 120 = .ok (.getfield 19, 3) := by decide +kernel
theorem dX7_ship_123 : decode cX7_ship 123 = .ok (.iload_n 1, 1) := by decide +kernel
theorem dX7_ship_124 : decode cX7_ship 124 = .ok (.iaload, 1) := by decide +kernel
theorem dX7_ship_125 : decode cX7_ship 125 = .ok (.iload_n 3, 1) := by decide +kernel
theorem dX7_ship_126 : decode cX7_ship 126 = .ok (.aload_n 0, 1) := by decide +kernel
theorem dX7_ship_127 : decode cX7_ship 127 = .ok (.getfield 16, 3) := by decide +kernel
theorem dX7_ship_130 : decode cX7_ship 130 = .ok (.iload_n 1, 1) := by decide +kernel
theorem dX7_ship_131 : decode cX7_ship 131 = .ok (.iaload, 1) := by decide +kernel
theorem dX7_ship_132 : decode cX7_ship 132 = .ok (.invokestatic 77, 3) := by decide +kernel
theorem dX7_ship_135 : decode cX7_ship 135 = .ok (.iadd, 1) := by decide +kernel
theorem dX7_ship_136 : decode cX7_ship 136 = .ok (.aload_n 0, 1) := by decide +kernel
theorem dX7_ship_137 : decode cX7_ship 137 = .ok (.getfield 28, 3) := by decide +kernel
theorem dX7_ship_140 : decode cX7_ship 140 = .ok (.invokevirtual 82, 3) := by decide +kernel
theorem dX7_ship_143 : decode cX7_ship 143 = .ok (.if_icmp .lt 7, 3) := by decide +kernel
theorem dX7_ship_146 : decode cX7_ship 146 = .ok (.iconst 0, 1) := by decide +kernel
theorem dX7_ship_147 : decode cX7_ship 147 = .ok (.goto 4, 3) := by decide +kernel
theorem dX7_ship_150 : decode cX7_ship 150 = .ok (.iconst 3, 1) := by decide +kernel
theorem dX7_ship_151 : decode cX7_ship 151 = .ok (.putfield 56, 3) := by decide +kernel
theorem dX7_ship_154 : decode cX7_ship 154 = .ok (.aload_n 0, 1) := by decide +kernel
theorem dX7_ship_155 : decode cX7_ship 155 = .ok (.getfield 56, 3) := by decide +kernel
theorem dX7_ship_158 : decode cX7_ship 158 = .ok (.ifCond .le 5, 3) := by decide +kernel
theorem dX7_ship_161 : decode cX7_ship 161 = .ok (.iconst 0, 1) := by decide +kernel
theorem dX7_ship_162 : decode cX7_ship 162 = .ok (.ireturn, 1) := by decide +kernel
theorem dX7_ship_163 : decode cX7_ship 163 = .ok (.aload_n 0, 1) := by decide +kernel
theorem dX7_ship_164 : decode cX7_ship 164 = .ok (.getfield 44, 3) := by decide +kernel
theorem dX7_ship_167 : decode cX7_ship 167 = .ok (.aload_n 0, 1) := by decide +kernel
theorem dX7_ship_168 : decode cX7_ship 168 = .ok (.getfield 147, 3) := by decide +kernel
theorem dX7_ship_171 : decode cX7_ship 171 = .ok (.iload_n 2, 1) := by decide +kernel
theorem dX7_ship_172 : decode cX7_ship 172 = .ok (.iastore, 1) := by decide +kernel
theorem dX7_ship_173 : decode cX7_ship 173 = .ok (.aload_n 0, 1) := by decide +kernel
theorem dX7_ship_174 : decode cX7_ship 174 = .ok (.getfield 47, 3) := by decide +kernel
theorem dX7_ship_177 : decode cX7_ship 177 = .ok (.aload_n 0, 1) := by decide +kernel
theorem dX7_ship_178 : decode cX7_ship 178 = .ok (.getfield 147, 3) := by decide +kernel
theorem dX7_ship_181 : decode cX7_ship 181 = .ok (.iload_n 3, 1) := by decide +kernel
theorem dX7_ship_182 : decode cX7_ship 182 = .ok (.iastore, 1) := by decide +kernel
theorem dX7_ship_183 : decode cX7_ship 183 = .ok (.aload_n 0, 1) := by decide +kernel
theorem dX7_ship_184 : decode cX7_ship 184 = .ok (.getfield 50, 3) := by decide +kernel
theorem dX7_ship_187 : decode cX7_ship 187 = .ok (.aload_n 0, 1) := by decide +kernel
theorem dX7_ship_188 : decode cX7_ship 188 = .ok (.getfield 147, 3) := by decide +kernel
theorem dX7_ship_191 : decode cX7_ship 191 = .ok (.aload_n 0, 1) := by decide +kernel
theorem dX7_ship_192 : decode cX7_ship 192 = .ok (.iload_n 1, 1) := by decide +kernel
theorem dX7_ship_193 : decode cX7_ship 193 = .ok (.iload_n 3, 1) := by decide +kernel
theorem dX7_ship_194 : decode cX7_ship 194 = .ok (.invokevirtual 109, 3) := by decide +kernel
theorem dX7_ship_197 : decode cX7_ship 197 = .ok (.iastore, 1) := by decide +kernel
theorem dX7_ship_198 : decode cX7_ship 198 = .ok (.aload_n 0, 1) := by decide +kernel
theorem dX7_ship_199 : decode cX7_ship 199 = .ok (.getfield 53, 3) := by decide +kernel
theorem dX7_ship_202 : decode cX7_ship 202 = .ok (.aload_n 0, 1) := by decide +kernel
theorem dX7_ship_203 : decode cX7_ship 203 = .ok (.getfield 147, 3) := by decide +kernel
theorem dX7_ship_206 : decode cX7_ship 206 = .ok (.aload_n 0, 1) := by decide +kernel
theorem dX7_ship_207 : decode cX7_ship 207 = .ok (.getfield 141, 3) := by decide +kernel
theorem dX7_ship_210 : decode cX7_ship 210 = .ok (.iload 4, 2) := by decide +kernel
theorem dX7_ship_212 : decode cX7_ship 212 = .ok (.iadd, 1) := by decide +kernel
theorem dX7_ship_213 : decode cX7_ship 213 = .ok (.iastore, 1) := by decide +kernel
theorem dX7_ship_214 : decode cX7_ship 214 = .ok (.aload_n 0, 1) := by decide +kernel
theorem dX7_ship_215 : decode cX7_ship 215 = .ok (.dup, 1) := by decide +kernel
theorem dX7_ship_216 : decode cX7_ship 216 = .ok (.getfield 147, 3) := by decide +kernel
theorem dX7_ship_219 : decode cX7_ship 219 = .ok (.iconst 1, 1) := by decide +kernel
theorem dX7_ship_220 : decode cX7_ship 220 = .ok (.iadd, 1) := by decide +kernel
theorem dX7_ship_221 : decode cX7_ship 221 = .ok (.putfield 147, 3) := by decide +kernel
theorem dX7_ship_224 : decode cX7_ship 224 = .ok (.aload_n 0, 1) := by decide +kernel
theorem dX7_ship_225 : decode cX7_ship 225 = .ok (.getfield 147, 3) := by decide +kernel
theorem dX7_ship_228 : decode cX7_ship 228 = .ok (.iconst 1, 1) := by decide +kernel
theorem dX7_ship_229 : decode cX7_ship 229 = .ok (.isub, 1) := by decide +kernel
theorem dX7_ship_230 : decode cX7_ship 230 = .ok (.ireturn, 1) := by decide +kernel
set_option maxRecDepth 20000 in
theorem ggX7_arrive_X7_in : GoodIn wsX7_arrive wsX7_in := goodIn_r _ [11] (by decide +kernel) (by decide +kernel)
set_option maxRecDepth 20000 in
theorem gX7_arrive_X7_in : GoodIn wsX7_arrive (va_wsS RX7 62 yX7_in wsX7_in) := goodIn_app (goodIn_of _ (by decide +kernel)) ggX7_arrive_X7_in
set_option maxRecDepth 20000 in
theorem ggX7_arrive_X7_hasRoom : GoodIn wsX7_arrive wsX7_hasRoom := goodIn_r _ [15, 16, 17, 47, 48, 49, 50, 51, 52, 53, 54, 55, 56, 57, 58, 59, 60, 61, 62, 63, 64, 65, 66, 67, 68, 69, 70, 71, 72, 73, 74] (by decide +kernel) (by decide +kernel)
set_option maxRecDepth 20000 in
theorem gX7_arrive_X7_hasRoom : GoodIn wsX7_arrive (wsV RX7 98 RX7 yX7_hasRoom wsX7_hasRoom) := goodIn_app (goodIn_of _ (by decide +kernel)) ggX7_arrive_X7_hasRoom
set_option maxRecDepth 20000 in
theorem ggX7_arrive_X7_part : GoodIn wsX7_arrive wsX7_part := goodIn_r _ [20] (by decide +kernel) (by decide +kernel)
set_option maxRecDepth 20000 in
theorem gX7_arrive_X7_part : GoodIn wsX7_arrive (va_wsS RX7 77 yX7_part wsX7_part) := goodIn_app (goodIn_of _ (by decide +kernel)) ggX7_arrive_X7_part
set_option maxRecDepth 20000 in
theorem ggX7_arrive_X7_comes : GoodIn wsX7_arrive wsX7_comes := goodIn_r _ [24, 16, 25, 26, 27, 28, 10, 29, 30, 31, 32, 33, 34, 35, 47, 48, 49, 50, 51, 52, 53, 54, 55, 56, 57, 58, 59, 60, 61, 62, 63, 64, 65, 66, 67, 68, 69, 70, 71, 72, 73, 74] (by decide +kernel) (by decide +kernel)
set_option maxRecDepth 20000 in
theorem gX7_arrive_X7_comes : GoodIn wsX7_arrive (wsV RX7 102 RX7 yX7_comes wsX7_comes) := goodIn_app (goodIn_of _ (by decide +kernel)) ggX7_arrive_X7_comes
set_option maxRecDepth 20000 in
theorem ggX7_arrive_X7_misses : GoodIn wsX7_arrive wsX7_misses := goodIn_r _ [39, 7, 40, 41, 42, 43, 44, 10, 45, 46, 47, 48, 49, 50, 51, 52, 53, 54, 55, 56, 57, 58, 59, 60, 61, 62, 63, 64, 65, 66, 67, 68, 69, 70, 71, 72, 73, 74] (by decide +kernel) (by decide +kernel)
set_option maxRecDepth 20000 in
theorem gX7_arrive_X7_misses : GoodIn wsX7_arrive (wsV RX7 115 RX7 yX7_misses wsX7_misses) := goodIn_app (goodIn_of _ (by decide +kernel)) ggX7_arrive_X7_misses
theorem dX7_arrive_0 : decode cX7_arrive 0 = .ok (.iload_n 1, 1) := by decide +kernel
theorem dX7_arrive_1 : decode cX7_arrive 1 = .ok (.iconst 0, 1) := by decide +kernel
theorem dX7_arrive_2 : decode cX7_arrive 2 = .ok (.aload_n 0, 1) := by decide +kernel
theorem dX7_arrive_3 : decode cX7_arrive 3 = .ok (.getfield 147, 3) := by decide +kernel
theorem dX7_arrive_6 : decode cX7_arrive 6 = .ok (.iconst 1, 1) := by decide +kernel
theorem dX7_arrive_7 : decode cX7_arrive 7 = .ok (.isub, 1) := by decide +kernel
theorem dX7_arrive_8 : decode cX7_arrive 8 = .ok (.invokestatic 62, 3) := by decide +kernel
theorem dX7_arrive_11 : decode cX7_arrive 11 = .ok (.istore_n 3, 1) := by decide +kernel
theorem dX7_arrive_12 : decode cX7_arrive 12 = .ok (.aload_n 0, 1) := by decide +kernel
theorem dX7_arrive_13 : decode cX7_arrive 13 = .ok (.iload_n 3, 1) := by decide +kernel
theorem dX7_arrive_14 : decode cX7_arrive 14 = .ok (.ifCond .ne 7, 3) := by decide +kernel
theorem dX7_arrive_17 : decode cX7_arrive 17 = .ok (.iconst 1, 1) := by decide +kernel
theorem dX7_arrive_18 : decode cX7_arrive 18 = .ok (.goto 22, 3) := by decide +kernel
theorem dX7_arrive_21 : decode cX7_arrive 21 = .ok (.iload_n 2, 1) := by decide +kernel
theorem dX7_arrive_22 : decode cX7_arrive 22 = .ok (.iconst 0, 1) := by decide +kernel
theorem dX7_arrive_23 : decode cX7_arrive 23 = .ok (.aload_n 0, 1) := by decide +kernel
theorem dX7_arrive_24 : decode cX7_arrive 24 = .ok (.getfield 47, 3) := by decide +kernel
theorem dX7_arrive_27 : decode cX7_arrive 27 = .ok (.iload_n 1, 1) := by decide +kernel
theorem dX7_arrive_28 : decode cX7_arrive 28 = .ok (.iaload, 1) := by decide +kernel
theorem dX7_arrive_29 : decode cX7_arrive 29 = .ok (.invokestatic 62, 3) := by decide +kernel
theorem dX7_arrive_32 : decode cX7_arrive 32 = .ok (.ifCond .eq 7, 3) := by decide +kernel
theorem dX7_arrive_35 : decode cX7_arrive 35 = .ok (.iconst 0, 1) := by decide +kernel
theorem dX7_arrive_36 : decode cX7_arrive 36 = .ok (.goto 4, 3) := by decide +kernel
theorem dX7_arrive_39 : decode cX7_arrive 39 = .ok (.iconst 2, 1) := by decide +kernel
theorem dX7_arrive_40 : decode cX7_arrive 40 = .ok (.putfield 56, 3) := by decide +kernel
theorem dX7_arrive_43 : decode cX7_arrive 43 = .ok (.aload_n 0, 1) := by decide +kernel
theorem dX7_arrive_44 : decode cX7_arrive 44 = .ok (.getfield 56, 3) := by decide +kernel
theorem dX7_arrive_47 : decode cX7_arrive 47 = .ok (.ifCond .ne 35, 3) := by decide +kernel
theorem dX7_arrive_50 : decode cX7_arrive 50 = .ok (.aload_n 0, 1) := by decide +kernel
theorem dX7_arrive_51 : decode cX7_arrive 51 = .ok (.aload_n 0, 1) := by decide +kernel
theorem dX7_arrive_52 : decode cX7_arrive 52 = .ok (.getfield 41, 3) := by decide +kernel
theorem dX7_arrive_55 : decode cX7_arrive 55 = .ok (.iload_n 1, 1) := by decide +kernel
theorem dX7_arrive_56 : decode cX7_arrive 56 = .ok (.iaload, 1) := by decide +kernel
theorem dX7_arrive_57 : decode cX7_arrive 57 = .ok (.ifCond .ne 21, 3) := by decide +kernel
theorem dX7_arrive_60 : decode cX7_arrive 60 = .ok (.aload_n 0, 1) := by decide +kernel
theorem dX7_arrive_61 : decode cX7_arrive 61 = .ok (.aload_n 0, 1) := by decide +kernel
theorem dX7_arrive_62 : decode cX7_arrive 62 = .ok (.getfield 44, 3) := by decide +kernel
theorem dX7_arrive_65 : decode cX7_arrive 65 = .ok (.iload_n 1, 1) := by decide +kernel
theorem dX7_arrive_66 : decode cX7_arrive 66 = .ok (.iaload, 1) := by decide +kernel
theorem dX7_arrive_67 : decode cX7_arrive 67 = .ok (.iload_n 2, 1) := by decide +kernel
theorem dX7_arrive_68 : decode cX7_arrive 68 = .ok (.invokevirtual 98, 3) := by decide +kernel
theorem dX7_arrive_71 : decode cX7_arrive 71 = .ok (.ifCond .eq 7, 3) := by decide +kernel
theorem dX7_arrive_74 : decode cX7_arrive 74 = .ok (.iconst 0, 1) := by decide +kernel
theorem dX7_arrive_75 : decode cX7_arrive 75 = .ok (.goto 4, 3) := by decide +kernel
theorem dX7_arrive_78 : decode cX7_arrive 78 = .ok (.iconst 3, 1) := by decide +kernel
theorem dX7_arrive_79 : decode cX7_arrive 79 = .ok (.putfield 56, 3) := by decide +kernel
theorem dX7_arrive_82 : decode cX7_arrive 82 = .ok (.aload_n 0, 1) := by decide +kernel
theorem dX7_arrive_83 : decode cX7_arrive 83 = .ok (.getfield 56, 3) := by decide +kernel
theorem dX7_arrive_86 : decode cX7_arrive 86 = .ok (.ifCond .le 5, 3) := by decide +kernel
theorem dX7_arrive_89 : decode cX7_arrive 89 = .ok (.iconst 0, 1) := by decide +kernel
theorem dX7_arrive_90 : decode cX7_arrive 90 = .ok (.ireturn, 1) := by decide +kernel
theorem dX7_arrive_91 : decode cX7_arrive 91 = .ok (.aload_n 0, 1) := by decide +kernel
theorem dX7_arrive_92 : decode cX7_arrive 92 = .ok (.getfield 50, 3) := by decide +kernel
theorem dX7_arrive_95 : decode cX7_arrive 95 = .ok (.iload_n 1, 1) := by decide +kernel
theorem dX7_arrive_96 : decode cX7_arrive 96 = .ok (.iaload, 1) := by decide +kernel
theorem dX7_arrive_97 : decode cX7_arrive 97 = .ok (.iload_n 2, 1) := by decide +kernel
theorem dX7_arrive_98 : decode cX7_arrive 98 = .ok (.aload_n 0, 1) := by decide +kernel
theorem dX7_arrive_99 : decode cX7_arrive 99 = .ok (.getfield 47, 3) := by decide +kernel
theorem dX7_arrive_102 : decode cX7_arrive 102 = .ok (.iload_n 1, 1) := by decide +kernel
theorem dX7_arrive_103 : decode cX7_arrive 103 = .ok (.iaload, 1) := by decide +kernel
theorem dX7_arrive_104 : decode cX7_arrive 104 = .ok (.invokestatic 77, 3) := by decide +kernel
theorem dX7_arrive_107 : decode cX7_arrive 107 = .ok (.istore 4, 2) := by decide +kernel
theorem dX7_arrive_109 : decode cX7_arrive 109 = .ok (.aload_n 0, 1) := by decide +kernel
theorem dX7_arrive_110 : decode cX7_arrive 110 = .ok (.getfield 50, 3) := by decide +kernel
theorem dX7_arrive_113 : decode cX7_arrive 113 = .ok (.iload_n 1, 1) := by decide +kernel
theorem dX7_arrive_114 : decode cX7_arrive 114 = .ok (.iaload, 1) := by decide +kernel
theorem dX7_arrive_115 : decode cX7_arrive 115 = .ok (.iload 4, 2) := by decide +kernel
theorem dX7_arrive_117 : decode cX7_arrive 117 = .ok (.isub, 1) := by decide +kernel
theorem dX7_arrive_118 : decode cX7_arrive 118 = .ok (.istore 5, 2) := by decide +kernel
theorem dX7_arrive_120 : decode cX7_arrive 120 = .ok (.aload_n 0, 1) := by decide +kernel
theorem dX7_arrive_121 : decode cX7_arrive 121 = .ok (.getfield 41, 3) := by decide +kernel
theorem dX7_arrive_124 : decode cX7_arrive 124 = .ok (.iload_n 1, 1) := by decide +kernel
theorem dX7_arrive_125 : decode cX7_arrive 125 = .ok (.iconst 1, 1) := by decide +kernel
theorem dX7_arrive_126 : decode cX7_arrive 126 = .ok (.iastore, 1) := by decide +kernel
theorem dX7_arrive_127 : decode cX7_arrive 127 = .ok (.aload_n 0, 1) := by decide +kernel
theorem dX7_arrive_128 : decode cX7_arrive 128 = .ok (.aload_n 0, 1) := by decide +kernel
theorem dX7_arrive_129 : decode cX7_arrive 129 = .ok (.getfield 44, 3) := by decide +kernel
theorem dX7_arrive_132 : decode cX7_arrive 132 = .ok (.iload_n 1, 1) := by decide +kernel
theorem dX7_arrive_133 : decode cX7_arrive 133 = .ok (.iaload, 1) := by decide +kernel
theorem dX7_arrive_134 : decode cX7_arrive 134 = .ok (.iload_n 2, 1) := by decide +kernel
theorem dX7_arrive_135 : decode cX7_arrive 135 = .ok (.iload 4, 2) := by decide +kernel
theorem dX7_arrive_137 : decode cX7_arrive 137 = .ok (.invokevirtual 102, 3) := by decide +kernel
theorem dX7_arrive_140 : decode cX7_arrive 140 = .ok (.iload 5, 2) := by decide +kernel
theorem dX7_arrive_142 : decode cX7_arrive 142 = .ok (.aload_n 0, 1) := by decide +kernel
theorem dX7_arrive_143 : decode cX7_arrive 143 = .ok (.getfield 50, 3) := by decide +kernel
theorem dX7_arrive_146 : decode cX7_arrive 146 = .ok (.iload_n 1, 1) := by decide +kernel
theorem dX7_arrive_147 : decode cX7_arrive 147 = .ok (.iaload, 1) := by decide +kernel
theorem dX7_arrive_148 : decode cX7_arrive 148 = .ok (.sipush 200, 3) := by decide +kernel
theorem dX7_arrive_151 : decode cX7_arrive 151 = .ok (.idiv, 1) := by decide +kernel
theorem dX7_arrive_152 : decode cX7_arrive 152 = .ok (.if_icmp .gt 16, 3) := by decide +kernel
theorem dX7_arrive_155 : decode cX7_arrive 155 = .ok (.aload_n 0, 1) := by decide +kernel
theorem dX7_arrive_156 : decode cX7_arrive 156 = .ok (.getfield 25, 3) := by decide +kernel
theorem dX7_arrive_159 : decode cX7_arrive 159 = .ok (.iconst 4, 1) := by decide +kernel
theorem dX7_arrive_160 : decode cX7_arrive 160 = .ok (.dup2, 1) := by decide +kernel
theorem dX7_arrive_161 : decode cX7_arrive 161 = .ok (.iaload, 1) := by decide +kernel
theorem dX7_arrive_162 : decode cX7_arrive 162 = .ok (.iload 5, 2) := by decide +kernel
theorem dX7_arrive_164 : decode cX7_arrive 164 = .ok (.iadd, 1) := by decide +kernel
theorem dX7_arrive_165 : decode cX7_arrive 165 = .ok (.iastore, 1) := by decide +kernel
theorem dX7_arrive_166 : decode cX7_arrive 166 = .ok (.iconst 0, 1) := by decide +kernel
theorem dX7_arrive_167 : decode cX7_arrive 167 = .ok (.ireturn, 1) := by decide +kernel
theorem dX7_arrive_168 : decode cX7_arrive 168 = .ok (.aload_n 0, 1) := by decide +kernel
theorem dX7_arrive_169 : decode cX7_arrive 169 = .ok (.iload 5, 2) := by decide +kernel
theorem dX7_arrive_171 : decode cX7_arrive 171 = .ok (.invokevirtual 115, 3) := by decide +kernel
theorem dX7_arrive_174 : decode cX7_arrive 174 = .ok (.pop, 1) := by decide +kernel
theorem dX7_arrive_175 : decode cX7_arrive 175 = .ok (.iload 5, 2) := by decide +kernel
theorem dX7_arrive_177 : decode cX7_arrive 177 = .ok (.ireturn, 1) := by decide +kernel
set_option maxRecDepth 20000 in
theorem ggX7_passesOne_X7_misses : GoodIn wsX7_passesOne wsX7_misses := goodIn_r _ [22, 15, 4, 17, 23, 24, 25, 21, 26, 27, 31, 32, 33, 34, 35, 36, 37, 38, 39, 40, 41, 42, 43, 44, 45, 46, 47, 48, 49, 50, 51, 52, 53, 54, 55, 56, 57, 58] (by decide +kernel) (by decide +kernel)
set_option maxRecDepth 20000 in
theorem gX7_passesOne_X7_misses : GoodIn wsX7_passesOne (wsV RX7 115 RX7 yX7_misses wsX7_misses) := goodIn_app (goodIn_of _ (by decide +kernel)) ggX7_passesOne_X7_misses
set_option maxRecDepth 20000 in
theorem ggX7_passesOne_X7_part : GoodIn wsX7_passesOne wsX7_part := goodIn_r _ [30] (by decide +kernel) (by decide +kernel)
set_option maxRecDepth 20000 in
theorem gX7_passesOne_X7_part : GoodIn wsX7_passesOne (va_wsS RX7 77 yX7_part wsX7_part) := goodIn_app (goodIn_of _ (by decide +kernel)) ggX7_passesOne_X7_part
theorem dX7_passesOne_0 : decode cX7_passesOne 0 = .ok (.aload_n 0, 1) := by decide +kernel
theorem dX7_passesOne_1 : decode cX7_passesOne 1 = .ok (.dup, 1) := by decide +kernel
theorem dX7_passesOne_2 : decode cX7_passesOne 2 = .ok (.getfield 141, 3) := by decide +kernel
theorem dX7_passesOne_5 : decode cX7_passesOne 5 = .ok (.iconst 1, 1) := by decide +kernel
theorem dX7_passesOne_6 : decode cX7_passesOne 6 = .ok (.iadd, 1) := by decide +kernel
theorem dX7_passesOne_7 : decode cX7_passesOne 7 = .ok (.putfield 141, 3) := by decide +kernel
theorem dX7_passesOne_10 : decode cX7_passesOne 10 = .ok (.aload_n 0, 1) := by decide +kernel
theorem dX7_passesOne_11 : decode cX7_passesOne 11 = .ok (.getfield 141, 3) := by decide +kernel
theorem dX7_passesOne_14 : decode cX7_passesOne 14 = .ok (.aload_n 0, 1) := by decide +kernel
theorem dX7_passesOne_15 : decode cX7_passesOne 15 = .ok (.getfield 32, 3) := by decide +kernel
theorem dX7_passesOne_18 : decode cX7_passesOne 18 = .ok (.if_icmp .ne 16, 3) := by decide +kernel
theorem dX7_passesOne_21 : decode cX7_passesOne 21 = .ok (.aload_n 0, 1) := by decide +kernel
theorem dX7_passesOne_22 : decode cX7_passesOne 22 = .ok (.aload_n 0, 1) := by decide +kernel
theorem dX7_passesOne_23 : decode cX7_passesOne 23 = .ok (.getfield 144, 3) := by decide +kernel
theorem dX7_passesOne_26 : decode cX7_passesOne 26 = .ok (.putfield 28, 3) := by decide +kernel
theorem dX7_passesOne_29 : decode cX7_passesOne 29 = .ok (.aload_n 0, 1) := by decide +kernel
theorem dX7_passesOne_30 : decode cX7_passesOne 30 = .ok (.iconst (-1), 1) := by decide +kernel
theorem dX7_passesOne_31 : decode cX7_passesOne 31 = .ok (.putfield 32, 3) := by decide +kernel
theorem dX7_passesOne_34 : decode cX7_passesOne 34 = .ok (.aload_n 0, 1) := by decide +kernel
theorem dX7_passesOne_35 : decode cX7_passesOne 35 = .ok (.aload_n 0, 1) := by decide +kernel
theorem dX7_passesOne_36 : decode cX7_passesOne 36 = .ok (.getfield 141, 3) := by decide +kernel
theorem dX7_passesOne_39 : decode cX7_passesOne 39 = .ok (.bipush 100, 2) := by decide +kernel
theorem dX7_passesOne_41 : decode cX7_passesOne 41 = .ok (.irem, 1) := by decide +kernel
theorem dX7_passesOne_42 : decode cX7_passesOne 42 = .ok (.ifCond .ne 7, 3) := by decide +kernel
theorem dX7_passesOne_45 : decode cX7_passesOne 45 = .ok (.iconst 0, 1) := by decide +kernel
theorem dX7_passesOne_46 : decode cX7_passesOne 46 = .ok (.goto 7, 3) := by decide +kernel
theorem dX7_passesOne_49 : decode cX7_passesOne 49 = .ok (.aload_n 0, 1) := by decide +kernel
theorem dX7_passesOne_50 : decode cX7_passesOne 50 = .ok (.getfield 129, 3) := by decide +kernel
theorem dX7_passesOne_53 : decode cX7_passesOne 53 = .ok (.putfield 129, 3) := by decide +kernel
theorem dX7_passesOne_56 : decode cX7_passesOne 56 = .ok (.iconst 0, 1) := by decide +kernel
theorem dX7_passesOne_57 : decode cX7_passesOne 57 = .ok (.istore_n 1, 1) := by decide +kernel
theorem dX7_passesOne_58 : decode cX7_passesOne 58 = .ok (.iload_n 1, 1) := by decide +kernel
theorem dX7_passesOne_59 : decode cX7_passesOne 59 = .ok (.aload_n 0, 1) := by decide +kernel
theorem dX7_passesOne_60 : decode cX7_passesOne 60 = .ok (.getfield 147, 3) := by decide +kernel
theorem dX7_passesOne_63 : decode cX7_passesOne 63 = .ok (.if_icmp .ge 49, 3) := by decide +kernel
theorem dX7_passesOne_66 : decode cX7_passesOne 66 = .ok (.aload_n 0, 1) := by decide +kernel
theorem dX7_passesOne_67 : decode cX7_passesOne 67 = .ok (.getfield 41, 3) := by decide +kernel
theorem dX7_passesOne_70 : decode cX7_passesOne 70 = .ok (.iload_n 1, 1) := by decide +kernel
theorem dX7_passesOne_71 : decode cX7_passesOne 71 = .ok (.iaload, 1) := by decide +kernel
theorem dX7_passesOne_72 : decode cX7_passesOne 72 = .ok (.ifCond .ne 34, 3) := by decide +kernel
theorem dX7_passesOne_75 : decode cX7_passesOne 75 = .ok (.aload_n 0, 1) := by decide +kernel
theorem dX7_passesOne_76 : decode cX7_passesOne 76 = .ok (.getfield 141, 3) := by decide +kernel
theorem dX7_passesOne_79 : decode cX7_passesOne 79 = .ok (.aload_n 0, 1) := by decide +kernel
theorem dX7_passesOne_80 : decode cX7_passesOne 80 = .ok (.getfield 53, 3) := by decide +kernel
theorem dX7_passesOne_83 : decode cX7_passesOne 83 = .ok (.iload_n 1, 1) := by decide +kernel
theorem dX7_passesOne_84 : decode cX7_passesOne 84 = .ok (.iaload, 1) := by decide +kernel
theorem dX7_passesOne_85 : decode cX7_passesOne 85 = .ok (.if_icmp .le 21, 3) := by decide +kernel
theorem dX7_passesOne_88 : decode cX7_passesOne 88 = .ok (.aload_n 0, 1) := by decide +kernel
theorem dX7_passesOne_89 : decode cX7_passesOne 89 = .ok (.getfield 41, 3) := by decide +kernel
theorem dX7_passesOne_92 : decode cX7_passesOne 92 = .ok (.iload_n 1, 1) := by decide +kernel
theorem dX7_passesOne_93 : decode cX7_passesOne 93 = .ok (.iconst 2, 1) := by decide +kernel
theorem dX7_passesOne_94 : decode cX7_passesOne 94 = .ok (.iastore, 1) := by decide +kernel
theorem dX7_passesOne_95 : decode cX7_passesOne 95 = .ok (.aload_n 0, 1) := by decide +kernel
theorem dX7_passesOne_96 : decode cX7_passesOne 96 = .ok (.aload_n 0, 1) := by decide +kernel
theorem dX7_passesOne_97 : decode cX7_passesOne 97 = .ok (.getfield 50, 3) := by decide +kernel
theorem dX7_passesOne_100 : decode cX7_passesOne 100 = .ok (.iload_n 1, 1) := by decide +kernel
theorem dX7_passesOne_101 : decode cX7_passesOne 101 = .ok (.iaload, 1) := by decide +kernel
theorem dX7_passesOne_102 : decode cX7_passesOne 102 = .ok (.invokevirtual 115, 3) := by decide +kernel
theorem dX7_passesOne_105 : decode cX7_passesOne 105 = .ok (.pop, 1) := by decide +kernel
theorem dX7_passesOne_106 : decode cX7_passesOne 106 = .ok (.iinc 1 1, 3) := by decide +kernel
theorem dX7_passesOne_109 : decode cX7_passesOne 109 = .ok (.goto (-51), 3) := by decide +kernel
theorem dX7_passesOne_112 : decode cX7_passesOne 112 = .ok (.iconst 0, 1) := by decide +kernel
theorem dX7_passesOne_113 : decode cX7_passesOne 113 = .ok (.istore_n 1, 1) := by decide +kernel
theorem dX7_passesOne_114 : decode cX7_passesOne 114 = .ok (.iload_n 1, 1) := by decide +kernel
theorem dX7_passesOne_115 : decode cX7_passesOne 115 = .ok (.aload_n 0, 1) := by decide +kernel
theorem dX7_passesOne_116 : decode cX7_passesOne 116 = .ok (.getfield 59, 3) := by decide +kernel
theorem dX7_passesOne_119 : decode cX7_passesOne 119 = .ok (.if_icmp .ge 83, 3) := by decide +kernel
theorem dX7_passesOne_122 : decode cX7_passesOne 122 = .ok (.aload_n 0, 1) := by decide +kernel
theorem dX7_passesOne_123 : decode cX7_passesOne 123 = .ok (.getfield 19, 3) := by decide +kernel
theorem dX7_passesOne_126 : decode cX7_passesOne 126 = .ok (.iload_n 1, 1) := by decide +kernel
theorem dX7_passesOne_127 : decode cX7_passesOne 127 = .ok (.iaload, 1) := by decide +kernel
theorem dX7_passesOne_128 : decode cX7_passesOne 128 = .ok (.aload_n 0, 1) := by decide +kernel
theorem dX7_passesOne_129 : decode cX7_passesOne 129 = .ok (.getfield 22, 3) := by decide +kernel
theorem dX7_passesOne_132 : decode cX7_passesOne 132 = .ok (.aload_n 0, 1) := by decide +kernel
theorem dX7_passesOne_133 : decode cX7_passesOne 133 = .ok (.getfield 7, 3) := by decide +kernel
theorem dX7_passesOne_136 : decode cX7_passesOne 136 = .ok (.iload_n 1, 1) := by decide +kernel
theorem dX7_passesOne_137 : decode cX7_passesOne 137 = .ok (.iaload, 1) := by decide +kernel
theorem dX7_passesOne_138 : decode cX7_passesOne 138 = .ok (.iaload, 1) := by decide +kernel
theorem dX7_passesOne_139 : decode cX7_passesOne 139 = .ok (.ldc 156, 2) := by decide +kernel
theorem dX7_passesOne_141 : decode cX7_passesOne 141 = .ok (.invokestatic 77, 3) := by decide +kernel
theorem dX7_passesOne_144 : decode cX7_passesOne 144 = .ok (.istore_n 2, 1) := by decide +kernel
theorem dX7_passesOne_145 : decode cX7_passesOne 145 = .ok (.aload_n 0, 1) := by decide +kernel
theorem dX7_passesOne_146 : decode cX7_passesOne 146 = .ok (.getfield 25, 3) := by decide +kernel
theorem dX7_passesOne_149 : decode cX7_passesOne 149 = .ok (.iconst 4, 1) := by decide +kernel
theorem dX7_passesOne_150 : decode cX7_passesOne 150 = .ok (.dup2, 1) := by decide +kernel
theorem dX7_passesOne_151 : decode cX7_passesOne 151 = .ok (.iaload, 1) := by decide +kernel
theorem dX7_passesOne_152 : decode cX7_passesOne 152 = .ok (.iload_n 2, 1) := by decide +kernel
theorem dX7_passesOne_153 : decode cX7_passesOne 153 = .ok (.iadd, 1) := by decide +kernel
theorem dX7_passesOne_154 : decode cX7_passesOne 154 = .ok (.iastore, 1) := by decide +kernel
theorem dX7_passesOne_155 : decode cX7_passesOne 155 = .ok (.aload_n 0, 1) := by decide +kernel
theorem dX7_passesOne_156 : decode cX7_passesOne 156 = .ok (.getfield 19, 3) := by decide +kernel
theorem dX7_passesOne_159 : decode cX7_passesOne 159 = .ok (.iload_n 1, 1) := by decide +kernel
theorem dX7_passesOne_160 : decode cX7_passesOne 160 = .ok (.dup2, 1) := by decide +kernel
theorem dX7_passesOne_161 : decode cX7_passesOne 161 = .ok (.iaload, 1) := by decide +kernel
theorem dX7_passesOne_162 : decode cX7_passesOne 162 = .ok (.iload_n 2, 1) := by decide +kernel
theorem dX7_passesOne_163 : decode cX7_passesOne 163 = .ok (.isub, 1) := by decide +kernel
theorem dX7_passesOne_164 : decode cX7_passesOne 164 = .ok (.iastore, 1) := by decide +kernel
theorem dX7_passesOne_165 : decode cX7_passesOne 165 = .ok (.aload_n 0, 1) := by decide +kernel
theorem dX7_passesOne_166 : decode cX7_passesOne 166 = .ok (.getfield 16, 3) := by decide +kernel
theorem dX7_passesOne_169 : decode cX7_passesOne 169 = .ok (.iload_n 1, 1) := by decide +kernel
theorem dX7_passesOne_170 : decode cX7_passesOne 170 = .ok (.dup2, 1) := by decide +kernel
theorem dX7_passesOne_171 : decode cX7_passesOne 171 = .ok (.iaload, 1) := by decide +kernel
theorem dX7_passesOne_172 : decode cX7_passesOne 172 = .ok (.aload_n 0, 1) := by decide +kernel
theorem dX7_passesOne_173 : decode cX7_passesOne 173 = .ok (.getfield 16, 3) := by decide +kernel
theorem dX7_passesOne_176 : decode cX7_passesOne 176 = .ok (.iload_n 1, 1) := by decide +kernel
theorem dX7_passesOne_177 : decode cX7_passesOne 177 = .ok (.iaload, 1) := by decide +kernel
theorem dX7_passesOne_178 : decode cX7_passesOne 178 = .ok (.aload_n 0, 1) := by decide +kernel
theorem dX7_passesOne_179 : decode cX7_passesOne 179 = .ok (.getfield 22, 3) := by decide +kernel
theorem dX7_passesOne_182 : decode cX7_passesOne 182 = .ok (.aload_n 0, 1) := by decide +kernel
theorem dX7_passesOne_183 : decode cX7_passesOne 183 = .ok (.getfield 7, 3) := by decide +kernel
theorem dX7_passesOne_186 : decode cX7_passesOne 186 = .ok (.iload_n 1, 1) := by decide +kernel
theorem dX7_passesOne_187 : decode cX7_passesOne 187 = .ok (.iaload, 1) := by decide +kernel
theorem dX7_passesOne_188 : decode cX7_passesOne 188 = .ok (.iaload, 1) := by decide +kernel
theorem dX7_passesOne_189 : decode cX7_passesOne 189 = .ok (.ldc 156, 2) := by decide +kernel
theorem dX7_passesOne_191 : decode cX7_passesOne 191 = .ok (.invokestatic 77, 3) := by decide +kernel
theorem dX7_passesOne_194 : decode cX7_passesOne 194 = .ok (.isub, 1) := by decide +kernel
theorem dX7_passesOne_195 : decode cX7_passesOne 195 = .ok (.iastore, 1) := by decide +kernel
theorem dX7_passesOne_196 : decode cX7_passesOne 196 = .ok (.iinc 1 1, 3) := by decide +kernel
theorem dX7_passesOne_199 : decode cX7_passesOne 199 = .ok (.goto (-85), 3) := by decide +kernel
theorem dX7_passesOne_202 : decode cX7_passesOne 202 = .ok (.aload_n 0, 1) := by decide +kernel
theorem dX7_passesOne_203 : decode cX7_passesOne 203 = .ok (.dup, 1) := by decide +kernel
theorem dX7_passesOne_204 : decode cX7_passesOne 204 = .ok (.getfield 85, 3) := by decide +kernel
theorem dX7_passesOne_207 : decode cX7_passesOne 207 = .ok (.aload_n 0, 1) := by decide +kernel
theorem dX7_passesOne_208 : decode cX7_passesOne 208 = .ok (.getfield 141, 3) := by decide +kernel
theorem dX7_passesOne_211 : decode cX7_passesOne 211 = .ok (.bipush 30, 2) := by decide +kernel
theorem dX7_passesOne_213 : decode cX7_passesOne 213 = .ok (.irem, 1) := by decide +kernel
theorem dX7_passesOne_214 : decode cX7_passesOne 214 = .ok (.ifCond .ne 20, 3) := by decide +kernel
theorem dX7_passesOne_217 : decode cX7_passesOne 217 = .ok (.aload_n 0, 1) := by decide +kernel
theorem dX7_passesOne_218 : decode cX7_passesOne 218 = .ok (.getfield 85, 3) := by decide +kernel
theorem dX7_passesOne_221 : decode cX7_passesOne 221 = .ok (.ifCond .le 13, 3) := by decide +kernel
theorem dX7_passesOne_224 : decode cX7_passesOne 224 = .ok (.aload_n 0, 1) := by decide +kernel
theorem dX7_passesOne_225 : decode cX7_passesOne 225 = .ok (.getfield 85, 3) := by decide +kernel
theorem dX7_passesOne_228 : decode cX7_passesOne 228 = .ok (.bipush 100, 2) := by decide +kernel
theorem dX7_passesOne_230 : decode cX7_passesOne 230 = .ok (.idiv, 1) := by decide +kernel
theorem dX7_passesOne_231 : decode cX7_passesOne 231 = .ok (.goto 4, 3) := by decide +kernel
theorem dX7_passesOne_234 : decode cX7_passesOne 234 = .ok (.iconst 0, 1) := by decide +kernel
theorem dX7_passesOne_235 : decode cX7_passesOne 235 = .ok (.iadd, 1) := by decide +kernel
theorem dX7_passesOne_236 : decode cX7_passesOne 236 = .ok (.putfield 85, 3) := by decide +kernel
theorem dX7_passesOne_239 : decode cX7_passesOne 239 = .ok (.return_, 1) := by decide +kernel
set_option maxRecDepth 20000 in
theorem ggX7_pass_X7_in : GoodIn wsX7_pass wsX7_in := goodIn_r _ [7] (by decide +kernel) (by decide +kernel)
set_option maxRecDepth 20000 in
theorem gX7_pass_X7_in : GoodIn wsX7_pass (va_wsS RX7 62 yX7_in wsX7_in) := goodIn_app (goodIn_of _ (by decide +kernel)) ggX7_pass_X7_in
set_option maxRecDepth 20000 in
theorem ggX7_pass_X7_passesOne : GoodIn wsX7_pass wsX7_passesOne := goodIn_r _ [11, 1, 12, 13, 14, 15, 16, 17, 18, 19, 20, 21, 22, 23, 24, 25, 26, 3, 27, 28, 29, 6, 30, 31, 32, 33, 34, 35, 36, 37, 38, 39, 40, 41, 42, 43, 44, 45, 46, 47, 48, 49, 50, 51, 52, 53, 54, 55, 56, 57, 58, 59, 60, 61, 62, 63, 64, 65, 66] (by decide +kernel) (by decide +kernel)
set_option maxRecDepth 20000 in
theorem gX7_pass_X7_passesOne : GoodIn wsX7_pass (wsV RX7 157 RX7 yX7_passesOne wsX7_passesOne) := goodIn_app (goodIn_of _ (by decide +kernel)) ggX7_pass_X7_passesOne
theorem dX7_pass_0 : decode cX7_pass 0 = .ok (.aload_n 0, 1) := by decide +kernel
theorem dX7_pass_1 : decode cX7_pass 1 = .ok (.iload_n 1, 1) := by decide +kernel
theorem dX7_pass_2 : decode cX7_pass 2 = .ok (.iconst 1, 1) := by decide +kernel
theorem dX7_pass_3 : decode cX7_pass 3 = .ok (.bipush 60, 2) := by decide +kernel
theorem dX7_pass_5 : decode cX7_pass 5 = .ok (.invokestatic 62, 3) := by decide +kernel
theorem dX7_pass_8 : decode cX7_pass 8 = .ok (.ifCond .ne 7, 3) := by decide +kernel
theorem dX7_pass_11 : decode cX7_pass 11 = .ok (.iconst 1, 1) := by decide +kernel
theorem dX7_pass_12 : decode cX7_pass 12 = .ok (.goto 20, 3) := by decide +kernel
theorem dX7_pass_15 : decode cX7_pass 15 = .ok (.aload_n 0, 1) := by decide +kernel
theorem dX7_pass_16 : decode cX7_pass 16 = .ok (.getfield 141, 3) := by decide +kernel
theorem dX7_pass_19 : decode cX7_pass 19 = .ok (.iload_n 1, 1) := by decide +kernel
theorem dX7_pass_20 : decode cX7_pass 20 = .ok (.iadd, 1) := by decide +kernel
theorem dX7_pass_21 : decode cX7_pass 21 = .ok (.sipush 900, 3) := by decide +kernel
theorem dX7_pass_24 : decode cX7_pass 24 = .ok (.if_icmp .le 7, 3) := by decide +kernel
theorem dX7_pass_27 : decode cX7_pass 27 = .ok (.iconst 2, 1) := by decide +kernel
theorem dX7_pass_28 : decode cX7_pass 28 = .ok (.goto 4, 3) := by decide +kernel
theorem dX7_pass_31 : decode cX7_pass 31 = .ok (.iconst 0, 1) := by decide +kernel
theorem dX7_pass_32 : decode cX7_pass 32 = .ok (.putfield 56, 3) := by decide +kernel
theorem dX7_pass_35 : decode cX7_pass 35 = .ok (.iconst 0, 1) := by decide +kernel
theorem dX7_pass_36 : decode cX7_pass 36 = .ok (.istore_n 2, 1) := by decide +kernel
theorem dX7_pass_37 : decode cX7_pass 37 = .ok (.iload_n 2, 1) := by decide +kernel
theorem dX7_pass_38 : decode cX7_pass 38 = .ok (.iload_n 1, 1) := by decide +kernel
theorem dX7_pass_39 : decode cX7_pass 39 = .ok (.if_icmp .ge 20, 3) := by decide +kernel
theorem dX7_pass_42 : decode cX7_pass 42 = .ok (.aload_n 0, 1) := by decide +kernel
theorem dX7_pass_43 : decode cX7_pass 43 = .ok (.getfield 56, 3) := by decide +kernel
theorem dX7_pass_46 : decode cX7_pass 46 = .ok (.ifCond .ne 13, 3) := by decide +kernel
theorem dX7_pass_49 : decode cX7_pass 49 = .ok (.aload_n 0, 1) := by decide +kernel
theorem dX7_pass_50 : decode cX7_pass 50 = .ok (.invokevirtual 157, 3) := by decide +kernel
theorem dX7_pass_53 : decode cX7_pass 53 = .ok (.iinc 2 1, 3) := by decide +kernel
theorem dX7_pass_56 : decode cX7_pass 56 = .ok (.goto (-19), 3) := by decide +kernel
theorem dX7_pass_59 : decode cX7_pass 59 = .ok (.aload_n 0, 1) := by decide +kernel
theorem dX7_pass_60 : decode cX7_pass 60 = .ok (.getfield 56, 3) := by decide +kernel
theorem dX7_pass_63 : decode cX7_pass 63 = .ok (.ifCond .le 7, 3) := by decide +kernel
theorem dX7_pass_66 : decode cX7_pass 66 = .ok (.iconst 0, 1) := by decide +kernel
theorem dX7_pass_67 : decode cX7_pass 67 = .ok (.goto 7, 3) := by decide +kernel
theorem dX7_pass_70 : decode cX7_pass 70 = .ok (.aload_n 0, 1) := by decide +kernel
theorem dX7_pass_71 : decode cX7_pass 71 = .ok (.getfield 85, 3) := by decide +kernel
theorem dX7_pass_74 : decode cX7_pass 74 = .ok (.ireturn, 1) := by decide +kernel
theorem dX7_day_0 : decode cX7_day 0 = .ok (.aload_n 0, 1) := by decide +kernel
theorem dX7_day_1 : decode cX7_day 1 = .ok (.iconst 0, 1) := by decide +kernel
theorem dX7_day_2 : decode cX7_day 2 = .ok (.putfield 56, 3) := by decide +kernel
theorem dX7_day_5 : decode cX7_day 5 = .ok (.aload_n 0, 1) := by decide +kernel
theorem dX7_day_6 : decode cX7_day 6 = .ok (.getfield 141, 3) := by decide +kernel
theorem dX7_day_9 : decode cX7_day 9 = .ok (.ireturn, 1) := by decide +kernel
set_option maxRecDepth 20000 in
theorem ggX7_ofVessel_X7_isVessel : GoodIn wsX7_ofVessel wsX7_isVessel := goodIn_r _ [10, 11, 12, 13, 9, 14, 18, 19, 20, 21, 22, 23, 24, 25, 26, 27, 28, 29, 30, 31, 32, 33, 34, 35, 36, 37, 38, 39, 40, 41, 42, 43, 44, 45] (by decide +kernel) (by decide +kernel)
set_option maxRecDepth 20000 in
theorem gX7_ofVessel_X7_isVessel : GoodIn wsX7_ofVessel (wsV RX7 92 RX7 yX7_isVessel wsX7_isVessel) := goodIn_app (goodIn_of _ (by decide +kernel)) ggX7_ofVessel_X7_isVessel
set_option maxRecDepth 20000 in
theorem ggX7_ofVessel_X7_in : GoodIn wsX7_ofVessel wsX7_in := goodIn_r _ [14] (by decide +kernel) (by decide +kernel)
set_option maxRecDepth 20000 in
theorem gX7_ofVessel_X7_in : GoodIn wsX7_ofVessel (va_wsS RX7 62 yX7_in wsX7_in) := goodIn_app (goodIn_of _ (by decide +kernel)) ggX7_ofVessel_X7_in
set_option maxRecDepth 20000 in
theorem ggX7_ofVessel_X7_strengthOf : GoodIn wsX7_ofVessel wsX7_strengthOf := goodIn_r _ [17] (by decide +kernel) (by decide +kernel)
set_option maxRecDepth 20000 in
theorem gX7_ofVessel_X7_strengthOf : GoodIn wsX7_ofVessel (va_wsS RX7 66 yX7_strengthOf wsX7_strengthOf) := goodIn_app (goodIn_of _ (by decide +kernel)) ggX7_ofVessel_X7_strengthOf
theorem dX7_ofVessel_0 : decode cX7_ofVessel 0 = .ok (.aload_n 0, 1) := by decide +kernel
theorem dX7_ofVessel_1 : decode cX7_ofVessel 1 = .ok (.aload_n 0, 1) := by decide +kernel
theorem dX7_ofVessel_2 : decode cX7_ofVessel 2 = .ok (.iload_n 1, 1) := by decide +kernel
theorem dX7_ofVessel_3 : decode cX7_ofVessel 3 = .ok (.invokevirtual 92, 3) := by decide +kernel
theorem dX7_ofVessel_6 : decode cX7_ofVessel 6 = .ok (.ifCond .eq 16, 3) := by decide +kernel
theorem dX7_ofVessel_9 : decode cX7_ofVessel 9 = .ok (.iload_n 2, 1) := by decide +kernel
theorem dX7_ofVessel_10 : decode cX7_ofVessel 10 = .ok (.iconst 0, 1) := by decide +kernel
theorem dX7_ofVessel_11 : decode cX7_ofVessel 11 = .ok (.iconst 4, 1) := by decide +kernel
theorem dX7_ofVessel_12 : decode cX7_ofVessel 12 = .ok (.invokestatic 62, 3) := by decide +kernel
theorem dX7_ofVessel_15 : decode cX7_ofVessel 15 = .ok (.ifCond .eq 7, 3) := by decide +kernel
theorem dX7_ofVessel_18 : decode cX7_ofVessel 18 = .ok (.iconst 0, 1) := by decide +kernel
theorem dX7_ofVessel_19 : decode cX7_ofVessel 19 = .ok (.goto 4, 3) := by decide +kernel
theorem dX7_ofVessel_22 : decode cX7_ofVessel 22 = .ok (.iconst 1, 1) := by decide +kernel
theorem dX7_ofVessel_23 : decode cX7_ofVessel 23 = .ok (.putfield 56, 3) := by decide +kernel
theorem dX7_ofVessel_26 : decode cX7_ofVessel 26 = .ok (.aload_n 0, 1) := by decide +kernel
theorem dX7_ofVessel_27 : decode cX7_ofVessel 27 = .ok (.getfield 56, 3) := by decide +kernel
theorem dX7_ofVessel_30 : decode cX7_ofVessel 30 = .ok (.ifCond .le 5, 3) := by decide +kernel
theorem dX7_ofVessel_33 : decode cX7_ofVessel 33 = .ok (.iconst 0, 1) := by decide +kernel
theorem dX7_ofVessel_34 : decode cX7_ofVessel 34 = .ok (.ireturn, 1) := by decide +kernel
theorem dX7_ofVessel_35 : decode cX7_ofVessel 35 = .ok (.iload_n 2, 1) := by decide +kernel
theorem dX7_ofVessel_36 : decode cX7_ofVessel 36 = .ok (.tableswitch 69 0 3 #[32, 39, 46, 62], 32) := by decide +kernel
theorem dX7_ofVessel_68 : decode cX7_ofVessel 68 = .ok (.aload_n 0, 1) := by decide +kernel
theorem dX7_ofVessel_69 : decode cX7_ofVessel 69 = .ok (.getfield 16, 3) := by decide +kernel
theorem dX7_ofVessel_72 : decode cX7_ofVessel 72 = .ok (.iload_n 1, 1) := by decide +kernel
theorem dX7_ofVessel_73 : decode cX7_ofVessel 73 = .ok (.iaload, 1) := by decide +kernel
theorem dX7_ofVessel_74 : decode cX7_ofVessel 74 = .ok (.ireturn, 1) := by decide +kernel
theorem dX7_ofVessel_75 : decode cX7_ofVessel 75 = .ok (.aload_n 0, 1) := by decide +kernel
theorem dX7_ofVessel_76 : decode cX7_ofVessel 76 = .ok (.getfield 19, 3) := by decide +kernel
theorem dX7_ofVessel_79 : decode cX7_ofVessel 79 = .ok (.iload_n 1, 1) := by decide +kernel
theorem dX7_ofVessel_80 : decode cX7_ofVessel 80 = .ok (.iaload, 1) := by decide +kernel
theorem dX7_ofVessel_81 : decode cX7_ofVessel 81 = .ok (.ireturn, 1) := by decide +kernel
theorem dX7_ofVessel_82 : decode cX7_ofVessel 82 = .ok (.aload_n 0, 1) := by decide +kernel
theorem dX7_ofVessel_83 : decode cX7_ofVessel 83 = .ok (.getfield 19, 3) := by decide +kernel
theorem dX7_ofVessel_86 : decode cX7_ofVessel 86 = .ok (.iload_n 1, 1) := by decide +kernel
theorem dX7_ofVessel_87 : decode cX7_ofVessel 87 = .ok (.iaload, 1) := by decide +kernel
theorem dX7_ofVessel_88 : decode cX7_ofVessel 88 = .ok (.aload_n 0, 1) := by decide +kernel
theorem dX7_ofVessel_89 : decode cX7_ofVessel 89 = .ok (.getfield 16, 3) := by decide +kernel
theorem dX7_ofVessel_92 : decode cX7_ofVessel 92 = .ok (.iload_n 1, 1) := by decide +kernel
theorem dX7_ofVessel_93 : decode cX7_ofVessel 93 = .ok (.iaload, 1) := by decide +kernel
theorem dX7_ofVessel_94 : decode cX7_ofVessel 94 = .ok (.invokestatic 66, 3) := by decide +kernel
theorem dX7_ofVessel_97 : decode cX7_ofVessel 97 = .ok (.ireturn, 1) := by decide +kernel
theorem dX7_ofVessel_98 : decode cX7_ofVessel 98 = .ok (.aload_n 0, 1) := by decide +kernel
theorem dX7_ofVessel_99 : decode cX7_ofVessel 99 = .ok (.getfield 7, 3) := by decide +kernel
theorem dX7_ofVessel_102 : decode cX7_ofVessel 102 = .ok (.iload_n 1, 1) := by decide +kernel
theorem dX7_ofVessel_103 : decode cX7_ofVessel 103 = .ok (.iaload, 1) := by decide +kernel
theorem dX7_ofVessel_104 : decode cX7_ofVessel 104 = .ok (.ireturn, 1) := by decide +kernel
theorem dX7_ofVessel_105 : decode cX7_ofVessel 105 = .ok (.aload_n 0, 1) := by decide +kernel
theorem dX7_ofVessel_106 : decode cX7_ofVessel 106 = .ok (.getfield 13, 3) := by decide +kernel
theorem dX7_ofVessel_109 : decode cX7_ofVessel 109 = .ok (.iload_n 1, 1) := by decide +kernel
theorem dX7_ofVessel_110 : decode cX7_ofVessel 110 = .ok (.iaload, 1) := by decide +kernel
theorem dX7_ofVessel_111 : decode cX7_ofVessel 111 = .ok (.aload_n 0, 1) := by decide +kernel
theorem dX7_ofVessel_112 : decode cX7_ofVessel 112 = .ok (.getfield 16, 3) := by decide +kernel
theorem dX7_ofVessel_115 : decode cX7_ofVessel 115 = .ok (.iload_n 1, 1) := by decide +kernel
theorem dX7_ofVessel_116 : decode cX7_ofVessel 116 = .ok (.iaload, 1) := by decide +kernel
theorem dX7_ofVessel_117 : decode cX7_ofVessel 117 = .ok (.isub, 1) := by decide +kernel
theorem dX7_ofVessel_118 : decode cX7_ofVessel 118 = .ok (.ireturn, 1) := by decide +kernel
set_option maxRecDepth 20000 in
theorem ggX7_dropsAnew_X7_isVessel : GoodIn wsX7_dropsAnew wsX7_isVessel := goodIn_r _ [7, 8, 9, 10, 6, 11, 12, 13, 14, 15, 16, 17, 18, 19, 20, 21, 22, 23, 24, 25, 26, 27, 28, 29, 30, 31, 32, 33, 34, 35, 36, 37, 38, 39] (by decide +kernel) (by decide +kernel)
set_option maxRecDepth 20000 in
theorem gX7_dropsAnew_X7_isVessel : GoodIn wsX7_dropsAnew (wsV RX7 92 RX7 yX7_isVessel wsX7_isVessel) := goodIn_app (goodIn_of _ (by decide +kernel)) ggX7_dropsAnew_X7_isVessel
theorem dX7_dropsAnew_0 : decode cX7_dropsAnew 0 = .ok (.aload_n 0, 1) := by decide +kernel
theorem dX7_dropsAnew_1 : decode cX7_dropsAnew 1 = .ok (.aload_n 0, 1) := by decide +kernel
theorem dX7_dropsAnew_2 : decode cX7_dropsAnew 2 = .ok (.iload_n 1, 1) := by decide +kernel
theorem dX7_dropsAnew_3 : decode cX7_dropsAnew 3 = .ok (.invokevirtual 92, 3) := by decide +kernel
theorem dX7_dropsAnew_6 : decode cX7_dropsAnew 6 = .ok (.ifCond .eq 7, 3) := by decide +kernel
theorem dX7_dropsAnew_9 : decode cX7_dropsAnew 9 = .ok (.iconst 0, 1) := by decide +kernel
theorem dX7_dropsAnew_10 : decode cX7_dropsAnew 10 = .ok (.goto 4, 3) := by decide +kernel
theorem dX7_dropsAnew_13 : decode cX7_dropsAnew 13 = .ok (.iconst 1, 1) := by decide +kernel
theorem dX7_dropsAnew_14 : decode cX7_dropsAnew 14 = .ok (.putfield 56, 3) := by decide +kernel
theorem dX7_dropsAnew_17 : decode cX7_dropsAnew 17 = .ok (.aload_n 0, 1) := by decide +kernel
theorem dX7_dropsAnew_18 : decode cX7_dropsAnew 18 = .ok (.getfield 56, 3) := by decide +kernel
theorem dX7_dropsAnew_21 : decode cX7_dropsAnew 21 = .ok (.ifCond .le 7, 3) := by decide +kernel
theorem dX7_dropsAnew_24 : decode cX7_dropsAnew 24 = .ok (.iconst 0, 1) := by decide +kernel
theorem dX7_dropsAnew_25 : decode cX7_dropsAnew 25 = .ok (.goto 9, 3) := by decide +kernel
theorem dX7_dropsAnew_28 : decode cX7_dropsAnew 28 = .ok (.aload_n 0, 1) := by decide +kernel
theorem dX7_dropsAnew_29 : decode cX7_dropsAnew 29 = .ok (.getfield 19, 3) := by decide +kernel
theorem dX7_dropsAnew_32 : decode cX7_dropsAnew 32 = .ok (.iload_n 1, 1) := by decide +kernel
theorem dX7_dropsAnew_33 : decode cX7_dropsAnew 33 = .ok (.iaload, 1) := by decide +kernel
theorem dX7_dropsAnew_34 : decode cX7_dropsAnew 34 = .ok (.ireturn, 1) := by decide +kernel
set_option maxRecDepth 20000 in
theorem ggX7_ofMovement_X7_in : GoodIn wsX7_ofMovement wsX7_in := goodIn_r _ [10] (by decide +kernel) (by decide +kernel)
set_option maxRecDepth 20000 in
theorem gX7_ofMovement_X7_in : GoodIn wsX7_ofMovement (va_wsS RX7 62 yX7_in wsX7_in) := goodIn_app (goodIn_of _ (by decide +kernel)) ggX7_ofMovement_X7_in
theorem dX7_ofMovement_0 : decode cX7_ofMovement 0 = .ok (.aload_n 0, 1) := by decide +kernel
theorem dX7_ofMovement_1 : decode cX7_ofMovement 1 = .ok (.iload_n 1, 1) := by decide +kernel
theorem dX7_ofMovement_2 : decode cX7_ofMovement 2 = .ok (.iconst 0, 1) := by decide +kernel
theorem dX7_ofMovement_3 : decode cX7_ofMovement 3 = .ok (.aload_n 0, 1) := by decide +kernel
theorem dX7_ofMovement_4 : decode cX7_ofMovement 4 = .ok (.getfield 147, 3) := by decide +kernel
theorem dX7_ofMovement_7 : decode cX7_ofMovement 7 = .ok (.iconst 1, 1) := by decide +kernel
theorem dX7_ofMovement_8 : decode cX7_ofMovement 8 = .ok (.isub, 1) := by decide +kernel
theorem dX7_ofMovement_9 : decode cX7_ofMovement 9 = .ok (.invokestatic 62, 3) := by decide +kernel
theorem dX7_ofMovement_12 : decode cX7_ofMovement 12 = .ok (.ifCond .eq 16, 3) := by decide +kernel
theorem dX7_ofMovement_15 : decode cX7_ofMovement 15 = .ok (.iload_n 2, 1) := by decide +kernel
theorem dX7_ofMovement_16 : decode cX7_ofMovement 16 = .ok (.iconst 0, 1) := by decide +kernel
theorem dX7_ofMovement_17 : decode cX7_ofMovement 17 = .ok (.iconst 3, 1) := by decide +kernel
theorem dX7_ofMovement_18 : decode cX7_ofMovement 18 = .ok (.invokestatic 62, 3) := by decide +kernel
theorem dX7_ofMovement_21 : decode cX7_ofMovement 21 = .ok (.ifCond .eq 7, 3) := by decide +kernel
theorem dX7_ofMovement_24 : decode cX7_ofMovement 24 = .ok (.iconst 0, 1) := by decide +kernel
theorem dX7_ofMovement_25 : decode cX7_ofMovement 25 = .ok (.goto 4, 3) := by decide +kernel
theorem dX7_ofMovement_28 : decode cX7_ofMovement 28 = .ok (.iconst 1, 1) := by decide +kernel
theorem dX7_ofMovement_29 : decode cX7_ofMovement 29 = .ok (.putfield 56, 3) := by decide +kernel
theorem dX7_ofMovement_32 : decode cX7_ofMovement 32 = .ok (.aload_n 0, 1) := by decide +kernel
theorem dX7_ofMovement_33 : decode cX7_ofMovement 33 = .ok (.getfield 56, 3) := by decide +kernel
theorem dX7_ofMovement_36 : decode cX7_ofMovement 36 = .ok (.ifCond .le 5, 3) := by decide +kernel
theorem dX7_ofMovement_39 : decode cX7_ofMovement 39 = .ok (.iconst 0, 1) := by decide +kernel
theorem dX7_ofMovement_40 : decode cX7_ofMovement 40 = .ok (.ireturn, 1) := by decide +kernel
theorem dX7_ofMovement_41 : decode cX7_ofMovement 41 = .ok (.iload_n 2, 1) := by decide +kernel
theorem dX7_ofMovement_42 : decode cX7_ofMovement 42 = .ok (.ifCond .ne 12, 3) := by decide +kernel
theorem dX7_ofMovement_45 : decode cX7_ofMovement 45 = .ok (.aload_n 0, 1) := by decide +kernel
theorem dX7_ofMovement_46 : decode cX7_ofMovement 46 = .ok (.getfield 41, 3) := by decide +kernel
theorem dX7_ofMovement_49 : decode cX7_ofMovement 49 = .ok (.iload_n 1, 1) := by decide +kernel
theorem dX7_ofMovement_50 : decode cX7_ofMovement 50 = .ok (.iaload, 1) := by decide +kernel
theorem dX7_ofMovement_51 : decode cX7_ofMovement 51 = .ok (.goto 37, 3) := by decide +kernel
theorem dX7_ofMovement_54 : decode cX7_ofMovement 54 = .ok (.iload_n 2, 1) := by decide +kernel
theorem dX7_ofMovement_55 : decode cX7_ofMovement 55 = .ok (.iconst 1, 1) := by decide +kernel
theorem dX7_ofMovement_56 : decode cX7_ofMovement 56 = .ok (.if_icmp .ne 12, 3) := by decide +kernel
theorem dX7_ofMovement_59 : decode cX7_ofMovement 59 = .ok (.aload_n 0, 1) := by decide +kernel
theorem dX7_ofMovement_60 : decode cX7_ofMovement 60 = .ok (.getfield 47, 3) := by decide +kernel
theorem dX7_ofMovement_63 : decode cX7_ofMovement 63 = .ok (.iload_n 1, 1) := by decide +kernel
theorem dX7_ofMovement_64 : decode cX7_ofMovement 64 = .ok (.iaload, 1) := by decide +kernel
theorem dX7_ofMovement_65 : decode cX7_ofMovement 65 = .ok (.goto 23, 3) := by decide +kernel
theorem dX7_ofMovement_68 : decode cX7_ofMovement 68 = .ok (.iload_n 2, 1) := by decide +kernel
theorem dX7_ofMovement_69 : decode cX7_ofMovement 69 = .ok (.iconst 2, 1) := by decide +kernel
theorem dX7_ofMovement_70 : decode cX7_ofMovement 70 = .ok (.if_icmp .ne 12, 3) := by decide +kernel
theorem dX7_ofMovement_73 : decode cX7_ofMovement 73 = .ok (.aload_n 0, 1) := by decide +kernel
theorem dX7_ofMovement_74 : decode cX7_ofMovement 74 = .ok (.getfield 50, 3) := by decide +kernel
theorem dX7_ofMovement_77 : decode cX7_ofMovement 77 = .ok (.iload_n 1, 1) := by decide +kernel
theorem dX7_ofMovement_78 : decode cX7_ofMovement 78 = .ok (.iaload, 1) := by decide +kernel
theorem dX7_ofMovement_79 : decode cX7_ofMovement 79 = .ok (.goto 9, 3) := by decide +kernel
theorem dX7_ofMovement_82 : decode cX7_ofMovement 82 = .ok (.aload_n 0, 1) := by decide +kernel
theorem dX7_ofMovement_83 : decode cX7_ofMovement 83 = .ok (.getfield 53, 3) := by decide +kernel
theorem dX7_ofMovement_86 : decode cX7_ofMovement 86 = .ok (.iload_n 1, 1) := by decide +kernel
theorem dX7_ofMovement_87 : decode cX7_ofMovement 87 = .ok (.iaload, 1) := by decide +kernel
theorem dX7_ofMovement_88 : decode cX7_ofMovement 88 = .ok (.ireturn, 1) := by decide +kernel
theorem dX7_inVessels_0 : decode cX7_inVessels 0 = .ok (.iconst 0, 1) := by decide +kernel
theorem dX7_inVessels_1 : decode cX7_inVessels 1 = .ok (.istore_n 1, 1) := by decide +kernel
theorem dX7_inVessels_2 : decode cX7_inVessels 2 = .ok (.iconst 0, 1) := by decide +kernel
theorem dX7_inVessels_3 : decode cX7_inVessels 3 = .ok (.istore_n 2, 1) := by decide +kernel
theorem dX7_inVessels_4 : decode cX7_inVessels 4 = .ok (.iload_n 2, 1) := by decide +kernel
theorem dX7_inVessels_5 : decode cX7_inVessels 5 = .ok (.aload_n 0, 1) := by decide +kernel
theorem dX7_inVessels_6 : decode cX7_inVessels 6 = .ok (.getfield 59, 3) := by decide +kernel
theorem dX7_inVessels_9 : decode cX7_inVessels 9 = .ok (.if_icmp .ge 18, 3) := by decide +kernel
theorem dX7_inVessels_12 : decode cX7_inVessels 12 = .ok (.iload_n 1, 1) := by decide +kernel
theorem dX7_inVessels_13 : decode cX7_inVessels 13 = .ok (.aload_n 0, 1) := by decide +kernel
theorem dX7_inVessels_14 : decode cX7_inVessels 14 = .ok (.getfield 19, 3) := by decide +kernel
theorem dX7_inVessels_17 : decode cX7_inVessels 17 = .ok (.iload_n 2, 1) := by decide +kernel
theorem dX7_inVessels_18 : decode cX7_inVessels 18 = .ok (.iaload, 1) := by decide +kernel
theorem dX7_inVessels_19 : decode cX7_inVessels 19 = .ok (.iadd, 1) := by decide +kernel
theorem dX7_inVessels_20 : decode cX7_inVessels 20 = .ok (.istore_n 1, 1) := by decide +kernel
theorem dX7_inVessels_21 : decode cX7_inVessels 21 = .ok (.iinc 2 1, 3) := by decide +kernel
theorem dX7_inVessels_24 : decode cX7_inVessels 24 = .ok (.goto (-20), 3) := by decide +kernel
theorem dX7_inVessels_27 : decode cX7_inVessels 27 = .ok (.iload_n 1, 1) := by decide +kernel
theorem dX7_inVessels_28 : decode cX7_inVessels 28 = .ok (.ireturn, 1) := by decide +kernel
set_option maxRecDepth 20000 in
theorem ggX7_ledger_X7_in : GoodIn wsX7_ledger wsX7_in := goodIn_r _ [6] (by decide +kernel) (by decide +kernel)
set_option maxRecDepth 20000 in
theorem gX7_ledger_X7_in : GoodIn wsX7_ledger (va_wsS RX7 62 yX7_in wsX7_in) := goodIn_app (goodIn_of _ (by decide +kernel)) ggX7_ledger_X7_in
set_option maxRecDepth 20000 in
theorem ggX7_ledger_X7_inVessels : GoodIn wsX7_ledger wsX7_inVessels := goodIn_r _ [10, 11, 12, 26, 27, 28, 29, 30, 31, 32, 33, 34, 35, 36, 37, 38, 39, 40, 41, 42, 43, 44, 45, 46, 47, 48, 49, 50, 51, 52, 53] (by decide +kernel) (by decide +kernel)
set_option maxRecDepth 20000 in
theorem gX7_ledger_X7_inVessels : GoodIn wsX7_ledger (wsV RX7 160 RX7 yX7_inVessels wsX7_inVessels) := goodIn_app (goodIn_of _ (by decide +kernel)) ggX7_ledger_X7_inVessels
set_option maxRecDepth 20000 in
theorem ggX7_ledger_X7_moving : GoodIn wsX7_ledger wsX7_moving := goodIn_r _ [16, 17, 18, 19, 26, 27, 28, 29, 30, 31, 32, 33, 34, 35, 36, 37, 38, 39, 40, 41, 42, 43, 44, 45, 46, 47, 48, 49, 50, 51, 52, 53] (by decide +kernel) (by decide +kernel)
set_option maxRecDepth 20000 in
theorem gX7_ledger_X7_moving : GoodIn wsX7_ledger (wsV RX7 150 RX7 yX7_moving wsX7_moving) := goodIn_app (goodIn_of _ (by decide +kernel)) ggX7_ledger_X7_moving
set_option maxRecDepth 20000 in
theorem ggX7_ledger_X7_inLots : GoodIn wsX7_ledger wsX7_inLots := goodIn_r _ [23, 24, 25, 26, 27, 28, 29, 30, 31, 32, 33, 34, 35, 36, 37, 38, 39, 40, 41, 42, 43, 44, 45, 46, 47, 48, 49, 50, 51, 52, 53] (by decide +kernel) (by decide +kernel)
set_option maxRecDepth 20000 in
theorem gX7_ledger_X7_inLots : GoodIn wsX7_ledger (wsV RX7 136 RX7 yX7_inLots wsX7_inLots) := goodIn_app (goodIn_of _ (by decide +kernel)) ggX7_ledger_X7_inLots
theorem dX7_ledger_0 : decode cX7_ledger 0 = .ok (.aload_n 0, 1) := by decide +kernel
theorem dX7_ledger_1 : decode cX7_ledger 1 = .ok (.iload_n 1, 1) := by decide +kernel
theorem dX7_ledger_2 : decode cX7_ledger 2 = .ok (.iconst 0, 1) := by decide +kernel
theorem dX7_ledger_3 : decode cX7_ledger 3 = .ok (.bipush 7, 2) := by decide +kernel
theorem dX7_ledger_5 : decode cX7_ledger 5 = .ok (.invokestatic 62, 3) := by decide +kernel
theorem dX7_ledger_8 : decode cX7_ledger 8 = .ok (.ifCond .eq 7, 3) := by decide +kernel
theorem dX7_ledger_11 : decode cX7_ledger 11 = .ok (.iconst 0, 1) := by decide +kernel
theorem dX7_ledger_12 : decode cX7_ledger 12 = .ok (.goto 4, 3) := by decide +kernel
theorem dX7_ledger_15 : decode cX7_ledger 15 = .ok (.iconst 1, 1) := by decide +kernel
theorem dX7_ledger_16 : decode cX7_ledger 16 = .ok (.putfield 56, 3) := by decide +kernel
theorem dX7_ledger_19 : decode cX7_ledger 19 = .ok (.aload_n 0, 1) := by decide +kernel
theorem dX7_ledger_20 : decode cX7_ledger 20 = .ok (.getfield 56, 3) := by decide +kernel
theorem dX7_ledger_23 : decode cX7_ledger 23 = .ok (.ifCond .le 5, 3) := by decide +kernel
theorem dX7_ledger_26 : decode cX7_ledger 26 = .ok (.iconst 0, 1) := by decide +kernel
theorem dX7_ledger_27 : decode cX7_ledger 27 = .ok (.ireturn, 1) := by decide +kernel
theorem dX7_ledger_28 : decode cX7_ledger 28 = .ok (.iload_n 1, 1) := by decide +kernel
theorem dX7_ledger_29 : decode cX7_ledger 29 = .ok (.iconst 1, 1) := by decide +kernel
theorem dX7_ledger_30 : decode cX7_ledger 30 = .ok (.if_icmp .ne 10, 3) := by decide +kernel
theorem dX7_ledger_33 : decode cX7_ledger 33 = .ok (.aload_n 0, 1) := by decide +kernel
theorem dX7_ledger_34 : decode cX7_ledger 34 = .ok (.invokevirtual 160, 3) := by decide +kernel
theorem dX7_ledger_37 : decode cX7_ledger 37 = .ok (.goto 33, 3) := by decide +kernel
theorem dX7_ledger_40 : decode cX7_ledger 40 = .ok (.iload_n 1, 1) := by decide +kernel
theorem dX7_ledger_41 : decode cX7_ledger 41 = .ok (.iconst 2, 1) := by decide +kernel
theorem dX7_ledger_42 : decode cX7_ledger 42 = .ok (.if_icmp .ne 10, 3) := by decide +kernel
theorem dX7_ledger_45 : decode cX7_ledger 45 = .ok (.aload_n 0, 1) := by decide +kernel
theorem dX7_ledger_46 : decode cX7_ledger 46 = .ok (.invokevirtual 150, 3) := by decide +kernel
theorem dX7_ledger_49 : decode cX7_ledger 49 = .ok (.goto 21, 3) := by decide +kernel
theorem dX7_ledger_52 : decode cX7_ledger 52 = .ok (.iload_n 1, 1) := by decide +kernel
theorem dX7_ledger_53 : decode cX7_ledger 53 = .ok (.iconst 3, 1) := by decide +kernel
theorem dX7_ledger_54 : decode cX7_ledger 54 = .ok (.if_icmp .ne 10, 3) := by decide +kernel
theorem dX7_ledger_57 : decode cX7_ledger 57 = .ok (.aload_n 0, 1) := by decide +kernel
theorem dX7_ledger_58 : decode cX7_ledger 58 = .ok (.invokevirtual 136, 3) := by decide +kernel
theorem dX7_ledger_61 : decode cX7_ledger 61 = .ok (.goto 9, 3) := by decide +kernel
theorem dX7_ledger_64 : decode cX7_ledger 64 = .ok (.aload_n 0, 1) := by decide +kernel
theorem dX7_ledger_65 : decode cX7_ledger 65 = .ok (.getfield 25, 3) := by decide +kernel
theorem dX7_ledger_68 : decode cX7_ledger 68 = .ok (.iload_n 1, 1) := by decide +kernel
theorem dX7_ledger_69 : decode cX7_ledger 69 = .ok (.iaload, 1) := by decide +kernel
theorem dX7_ledger_70 : decode cX7_ledger 70 = .ok (.ireturn, 1) := by decide +kernel
set_option maxRecDepth 20000 in
theorem ggX7_duty_X7_in : GoodIn wsX7_duty wsX7_in := goodIn_r _ [13] (by decide +kernel) (by decide +kernel)
set_option maxRecDepth 20000 in
theorem gX7_duty_X7_in : GoodIn wsX7_duty (va_wsS RX7 62 yX7_in wsX7_in) := goodIn_app (goodIn_of _ (by decide +kernel)) ggX7_duty_X7_in
set_option maxRecDepth 20000 in
theorem ggX7_duty_X7_moving : GoodIn wsX7_duty wsX7_moving := goodIn_r _ [17, 18, 19, 20, 26, 27, 28, 29, 30, 31, 32, 33, 34, 35, 36, 37, 38, 39, 40, 41, 42, 43, 44, 45, 46, 47, 48, 49, 50, 51, 52, 53] (by decide +kernel) (by decide +kernel)
set_option maxRecDepth 20000 in
theorem gX7_duty_X7_moving : GoodIn wsX7_duty (wsV RX7 150 RX7 yX7_moving wsX7_moving) := goodIn_app (goodIn_of _ (by decide +kernel)) ggX7_duty_X7_moving
set_option maxRecDepth 20000 in
theorem ggX7_duty_X7_dutyFor : GoodIn wsX7_duty wsX7_dutyFor := goodIn_r _ [24, 25] (by decide +kernel) (by decide +kernel)
set_option maxRecDepth 20000 in
theorem gX7_duty_X7_dutyFor : GoodIn wsX7_duty (wsV RX7 82 RX7 yX7_dutyFor wsX7_dutyFor) := goodIn_app (goodIn_of _ (by decide +kernel)) ggX7_duty_X7_dutyFor
theorem dX7_duty_0 : decode cX7_duty 0 = .ok (.aload_n 0, 1) := by decide +kernel
theorem dX7_duty_1 : decode cX7_duty 1 = .ok (.iload_n 1, 1) := by decide +kernel
theorem dX7_duty_2 : decode cX7_duty 2 = .ok (.iconst 0, 1) := by decide +kernel
theorem dX7_duty_3 : decode cX7_duty 3 = .ok (.iconst 5, 1) := by decide +kernel
theorem dX7_duty_4 : decode cX7_duty 4 = .ok (.invokestatic 62, 3) := by decide +kernel
theorem dX7_duty_7 : decode cX7_duty 7 = .ok (.ifCond .eq 7, 3) := by decide +kernel
theorem dX7_duty_10 : decode cX7_duty 10 = .ok (.iconst 0, 1) := by decide +kernel
theorem dX7_duty_11 : decode cX7_duty 11 = .ok (.goto 4, 3) := by decide +kernel
theorem dX7_duty_14 : decode cX7_duty 14 = .ok (.iconst 1, 1) := by decide +kernel
theorem dX7_duty_15 : decode cX7_duty 15 = .ok (.putfield 56, 3) := by decide +kernel
theorem dX7_duty_18 : decode cX7_duty 18 = .ok (.aload_n 0, 1) := by decide +kernel
theorem dX7_duty_19 : decode cX7_duty 19 = .ok (.getfield 56, 3) := by decide +kernel
theorem dX7_duty_22 : decode cX7_duty 22 = .ok (.ifCond .le 5, 3) := by decide +kernel
theorem dX7_duty_25 : decode cX7_duty 25 = .ok (.iconst 0, 1) := by decide +kernel
theorem dX7_duty_26 : decode cX7_duty 26 = .ok (.ireturn, 1) := by decide +kernel
theorem dX7_duty_27 : decode cX7_duty 27 = .ok (.iload_n 1, 1) := by decide +kernel
theorem dX7_duty_28 : decode cX7_duty 28 = .ok (.tableswitch 76 0 4 #[36, 41, 46, 63, 71], 36) := by decide +kernel
theorem dX7_duty_64 : decode cX7_duty 64 = .ok (.aload_n 0, 1) := by decide +kernel
theorem dX7_duty_65 : decode cX7_duty 65 = .ok (.getfield 85, 3) := by decide +kernel
theorem dX7_duty_68 : decode cX7_duty 68 = .ok (.ireturn, 1) := by decide +kernel
theorem dX7_duty_69 : decode cX7_duty 69 = .ok (.aload_n 0, 1) := by decide +kernel
theorem dX7_duty_70 : decode cX7_duty 70 = .ok (.getfield 28, 3) := by decide +kernel
theorem dX7_duty_73 : decode cX7_duty 73 = .ok (.ireturn, 1) := by decide +kernel
theorem dX7_duty_74 : decode cX7_duty 74 = .ok (.aload_n 0, 1) := by decide +kernel
theorem dX7_duty_75 : decode cX7_duty 75 = .ok (.getfield 32, 3) := by decide +kernel
theorem dX7_duty_78 : decode cX7_duty 78 = .ok (.iconst (-1), 1) := by decide +kernel
theorem dX7_duty_79 : decode cX7_duty 79 = .ok (.if_icmp .ne 7, 3) := by decide +kernel
theorem dX7_duty_82 : decode cX7_duty 82 = .ok (.iconst (-1), 1) := by decide +kernel
theorem dX7_duty_83 : decode cX7_duty 83 = .ok (.goto 7, 3) := by decide +kernel
theorem dX7_duty_86 : decode cX7_duty 86 = .ok (.aload_n 0, 1) := by decide +kernel
theorem dX7_duty_87 : decode cX7_duty 87 = .ok (.getfield 122, 3) := by decide +kernel
theorem dX7_duty_90 : decode cX7_duty 90 = .ok (.ireturn, 1) := by decide +kernel
theorem dX7_duty_91 : decode cX7_duty 91 = .ok (.ldc 128, 2) := by decide +kernel
theorem dX7_duty_93 : decode cX7_duty 93 = .ok (.aload_n 0, 1) := by decide +kernel
theorem dX7_duty_94 : decode cX7_duty 94 = .ok (.getfield 129, 3) := by decide +kernel
theorem dX7_duty_97 : decode cX7_duty 97 = .ok (.isub, 1) := by decide +kernel
theorem dX7_duty_98 : decode cX7_duty 98 = .ok (.ireturn, 1) := by decide +kernel
theorem dX7_duty_99 : decode cX7_duty 99 = .ok (.aload_n 0, 1) := by decide +kernel
theorem dX7_duty_100 : decode cX7_duty 100 = .ok (.getfield 133, 3) := by decide +kernel
theorem dX7_duty_103 : decode cX7_duty 103 = .ok (.ireturn, 1) := by decide +kernel
theorem dX7_duty_104 : decode cX7_duty 104 = .ok (.aload_n 0, 1) := by decide +kernel
theorem dX7_duty_105 : decode cX7_duty 105 = .ok (.getfield 153, 3) := by decide +kernel
theorem dX7_duty_108 : decode cX7_duty 108 = .ok (.aload_n 0, 1) := by decide +kernel
theorem dX7_duty_109 : decode cX7_duty 109 = .ok (.aload_n 0, 1) := by decide +kernel
theorem dX7_duty_110 : decode cX7_duty 110 = .ok (.invokevirtual 150, 3) := by decide +kernel
theorem dX7_duty_113 : decode cX7_duty 113 = .ok (.aload_n 0, 1) := by decide +kernel
theorem dX7_duty_114 : decode cX7_duty 114 = .ok (.getfield 28, 3) := by decide +kernel
theorem dX7_duty_117 : decode cX7_duty 117 = .ok (.invokevirtual 82, 3) := by decide +kernel
theorem dX7_duty_120 : decode cX7_duty 120 = .ok (.isub, 1) := by decide +kernel
theorem dX7_duty_121 : decode cX7_duty 121 = .ok (.ireturn, 1) := by decide +kernel
end
section
theorem dJ9_abs_0f7a4_0 : decode cJ9_abs_0f7a4 0 = .ok (.iload_n 0, 1) := by decide +kernel
theorem dJ9_abs_0f7a4_1 : decode cJ9_abs_0f7a4 1 = .ok (.ifCond .ge 8, 3) := by decide +kernel
theorem dJ9_abs_0f7a4_4 : decode cJ9_abs_0f7a4 4 = .ok (.iload_n 0, 1) := by decide +kernel
theorem dJ9_abs_0f7a4_5 : decode cJ9_abs_0f7a4 5 = .ok (.ineg, 1) := by decide +kernel
theorem dJ9_abs_0f7a4_6 : decode cJ9_abs_0f7a4 6 = .ok (.goto 4, 3) := by decide +kernel
theorem dJ9_abs_0f7a4_9 : decode cJ9_abs_0f7a4 9 = .ok (.iload_n 0, 1) := by decide +kernel
theorem dJ9_abs_0f7a4_10 : decode cJ9_abs_0f7a4 10 = .ok (.ireturn, 1) := by decide +kernel
theorem dJ9_max_7cf53_0 : decode cJ9_max_7cf53 0 = .ok (.iload_n 0, 1) := by decide +kernel
theorem dJ9_max_7cf53_1 : decode cJ9_max_7cf53 1 = .ok (.iload_n 1, 1) := by decide +kernel
theorem dJ9_max_7cf53_2 : decode cJ9_max_7cf53 2 = .ok (.if_icmp .lt 7, 3) := by decide +kernel
theorem dJ9_max_7cf53_5 : decode cJ9_max_7cf53 5 = .ok (.iload_n 0, 1) := by decide +kernel
theorem dJ9_max_7cf53_6 : decode cJ9_max_7cf53 6 = .ok (.goto 4, 3) := by decide +kernel
theorem dJ9_max_7cf53_9 : decode cJ9_max_7cf53 9 = .ok (.iload_n 1, 1) := by decide +kernel
theorem dJ9_max_7cf53_10 : decode cJ9_max_7cf53 10 = .ok (.ireturn, 1) := by decide +kernel
theorem dJ9_min_7cf53_0 : decode cJ9_min_7cf53 0 = .ok (.iload_n 0, 1) := by decide +kernel
theorem dJ9_min_7cf53_1 : decode cJ9_min_7cf53 1 = .ok (.iload_n 1, 1) := by decide +kernel
theorem dJ9_min_7cf53_2 : decode cJ9_min_7cf53 2 = .ok (.if_icmp .gt 7, 3) := by decide +kernel
theorem dJ9_min_7cf53_5 : decode cJ9_min_7cf53 5 = .ok (.iload_n 0, 1) := by decide +kernel
theorem dJ9_min_7cf53_6 : decode cJ9_min_7cf53 6 = .ok (.goto 4, 3) := by decide +kernel
theorem dJ9_min_7cf53_9 : decode cJ9_min_7cf53 9 = .ok (.iload_n 1, 1) := by decide +kernel
theorem dJ9_min_7cf53_10 : decode cJ9_min_7cf53 10 = .ok (.ireturn, 1) := by decide +kernel
theorem dJxa1e45_init_da8c8_0 : decode cJxa1e45_init_da8c8 0 = .ok (.aload_n 0, 1) := by decide +kernel
theorem dJxa1e45_init_da8c8_1 : decode cJxa1e45_init_da8c8 1 = .ok (.invokespecial 1, 3) := by decide +kernel
theorem dJxa1e45_init_da8c8_4 : decode cJxa1e45_init_da8c8 4 = .ok (.return_, 1) := by decide +kernel
set_option maxRecDepth 20000 in
theorem ggJxc12de_init_da8c8_Jxa1e45_init_da8c8 : GoodIn wsJxc12de_init_da8c8 wsJxa1e45_init_da8c8 := goodIn_r _ [5, 6, 7, 8] (by decide +kernel) (by decide +kernel)
set_option maxRecDepth 20000 in
theorem gJxc12de_init_da8c8_Jxa1e45_init_da8c8 : GoodIn wsJxc12de_init_da8c8 (wsJxa1e45_init_da8c8) := ggJxc12de_init_da8c8_Jxa1e45_init_da8c8
theorem dJxc12de_init_da8c8_0 : decode cJxc12de_init_da8c8 0 = .ok (.aload_n 0, 1) := by decide +kernel
theorem dJxc12de_init_da8c8_1 : decode cJxc12de_init_da8c8 1 = .ok (.invokespecial 1, 3) := by decide +kernel
theorem dJxc12de_init_da8c8_4 : decode cJxc12de_init_da8c8 4 = .ok (.aload_n 0, 1) := by decide +kernel
theorem dJxc12de_init_da8c8_5 : decode cJxc12de_init_da8c8 5 = .ok (.iconst 0, 1) := by decide +kernel
theorem dJxc12de_init_da8c8_6 : decode cJxc12de_init_da8c8 6 = .ok (.putfield 7, 3) := by decide +kernel
theorem dJxc12de_init_da8c8_9 : decode cJxc12de_init_da8c8 9 = .ok (.return_, 1) := by decide +kernel
set_option maxRecDepth 20000 in
theorem ggJx4a65c_init_da8c8_Jxc12de_init_da8c8 : GoodIn wsJx4a65c_init_da8c8 wsJxc12de_init_da8c8 := goodIn_r _ [6, 7, 8, 9, 10, 11, 12, 13, 14, 15, 16, 17] (by decide +kernel) (by decide +kernel)
set_option maxRecDepth 20000 in
theorem gJx4a65c_init_da8c8_Jxc12de_init_da8c8 : GoodIn wsJx4a65c_init_da8c8 (wsJxc12de_init_da8c8) := ggJx4a65c_init_da8c8_Jxc12de_init_da8c8
theorem dJx4a65c_init_da8c8_0 : decode cJx4a65c_init_da8c8 0 = .ok (.aload_n 0, 1) := by decide +kernel
theorem dJx4a65c_init_da8c8_1 : decode cJx4a65c_init_da8c8 1 = .ok (.invokespecial 1, 3) := by decide +kernel
theorem dJx4a65c_init_da8c8_4 : decode cJx4a65c_init_da8c8 4 = .ok (.aload_n 0, 1) := by decide +kernel
theorem dJx4a65c_init_da8c8_5 : decode cJx4a65c_init_da8c8 5 = .ok (.getstatic 39, 3) := by decide +kernel
theorem dJx4a65c_init_da8c8_8 : decode cJx4a65c_init_da8c8 8 = .ok (.putfield 9, 3) := by decide +kernel
theorem dJx4a65c_init_da8c8_11 : decode cJx4a65c_init_da8c8 11 = .ok (.return_, 1) := by decide +kernel
set_option maxRecDepth 20000 in
theorem ggJx4a65c_grow_92f84_J8_newLength_cabcc : GoodIn wsJx4a65c_grow_92f84 wsJ8_newLength_cabcc := goodIn_r _ [11, 12, 4, 5, 6, 13, 14, 15, 10, 16] (by decide +kernel) (by decide +kernel)
set_option maxRecDepth 20000 in
theorem gJx4a65c_grow_92f84_J8_newLength_cabcc : GoodIn wsJx4a65c_grow_92f84 (va_wsS RJx4a65c 73 yJ8_newLength_cabcc wsJ8_newLength_cabcc) := goodIn_app (goodIn_of _ (by decide +kernel)) ggJx4a65c_grow_92f84_J8_newLength_cabcc
set_option maxRecDepth 20000 in
theorem ggJx4a65c_grow_92f84_J7_copyOf_1904c : GoodIn wsJx4a65c_grow_92f84 wsJ7_copyOf_1904c := goodIn_r _ [20, 21, 22, 23, 24, 25, 26, 19, 27, 28, 29, 30, 31, 5, 32, 33, 34, 35, 36] (by decide +kernel) (by decide +kernel)
set_option maxRecDepth 20000 in
theorem gJx4a65c_grow_92f84_J7_copyOf_1904c : GoodIn wsJx4a65c_grow_92f84 (va_wsS RJx4a65c 66 yJ7_copyOf_1904c wsJ7_copyOf_1904c) := goodIn_app (goodIn_of _ (by decide +kernel)) ggJx4a65c_grow_92f84_J7_copyOf_1904c
theorem dJx4a65c_grow_92f84_0 : decode cJx4a65c_grow_92f84 0 = .ok (.aload_n 0, 1) := by decide +kernel
theorem dJx4a65c_grow_92f84_1 : decode cJx4a65c_grow_92f84 1 = .ok (.getfield 9, 3) := by decide +kernel
theorem dJx4a65c_grow_92f84_4 : decode cJx4a65c_grow_92f84 4 = .ok (.arraylength, 1) := by decide +kernel
theorem dJx4a65c_grow_92f84_5 : decode cJx4a65c_grow_92f84 5 = .ok (.istore_n 2, 1) := by decide +kernel
theorem dJx4a65c_grow_92f84_6 : decode cJx4a65c_grow_92f84 6 = .ok (.iload_n 2, 1) := by decide +kernel
theorem dJx4a65c_grow_92f84_7 : decode cJx4a65c_grow_92f84 7 = .ok (.ifCond .gt 13, 3) := by decide +kernel
theorem dJx4a65c_grow_92f84_10 : decode cJx4a65c_grow_92f84 10 = .ok (.aload_n 0, 1) := by decide +kernel
theorem dJx4a65c_grow_92f84_11 : decode cJx4a65c_grow_92f84 11 = .ok (.getfield 9, 3) := by decide +kernel
theorem dJx4a65c_grow_92f84_14 : decode cJx4a65c_grow_92f84 14 = .ok (.getstatic 39, 3) := by decide +kernel
theorem dJx4a65c_grow_92f84_17 : decode cJx4a65c_grow_92f84 17 = .ok (.if_acmp .eq 28, 3) := by decide +kernel
theorem dJx4a65c_grow_92f84_20 : decode cJx4a65c_grow_92f84 20 = .ok (.iload_n 2, 1) := by decide +kernel
theorem dJx4a65c_grow_92f84_21 : decode cJx4a65c_grow_92f84 21 = .ok (.iload_n 1, 1) := by decide +kernel
theorem dJx4a65c_grow_92f84_22 : decode cJx4a65c_grow_92f84 22 = .ok (.iload_n 2, 1) := by decide +kernel
theorem dJx4a65c_grow_92f84_23 : decode cJx4a65c_grow_92f84 23 = .ok (.isub, 1) := by decide +kernel
theorem dJx4a65c_grow_92f84_24 : decode cJx4a65c_grow_92f84 24 = .ok (.iload_n 2, 1) := by decide +kernel
theorem dJx4a65c_grow_92f84_25 : decode cJx4a65c_grow_92f84 25 = .ok (.iconst 1, 1) := by decide +kernel
theorem dJx4a65c_grow_92f84_26 : decode cJx4a65c_grow_92f84 26 = .ok (.ishr, 1) := by decide +kernel
theorem dJx4a65c_grow_92f84_27 : decode cJx4a65c_grow_92f84 27 = .ok (.invokestatic 73, 3) := by decide +kernel
theorem dJx4a65c_grow_92f84_30 : decode cJx4a65c_grow_92f84 30 = .ok (.istore_n 3, 1) := by decide +kernel
theorem dJx4a65c_grow_92f84_31 : decode cJx4a65c_grow_92f84 31 = .ok (.aload_n 0, 1) := by decide +kernel
theorem dJx4a65c_grow_92f84_32 : decode cJx4a65c_grow_92f84 32 = .ok (.aload_n 0, 1) := by decide +kernel
theorem dJx4a65c_grow_92f84_33 : decode cJx4a65c_grow_92f84 33 = .ok (.getfield 9, 3) := by decide +kernel
theorem dJx4a65c_grow_92f84_36 : decode cJx4a65c_grow_92f84 36 = .ok (.iload_n 3, 1) := by decide +kernel
theorem dJx4a65c_grow_92f84_37 : decode cJx4a65c_grow_92f84 37 = .ok (.invokestatic 66, 3) := by decide +kernel
theorem dJx4a65c_grow_92f84_40 : decode cJx4a65c_grow_92f84 40 = .ok (.dup_x1, 1) := by decide +kernel
theorem dJx4a65c_grow_92f84_41 : decode cJx4a65c_grow_92f84 41 = .ok (.putfield 9, 3) := by decide +kernel
theorem dJx4a65c_grow_92f84_44 : decode cJx4a65c_grow_92f84 44 = .ok (.areturn, 1) := by decide +kernel
theorem dJx4a65c_grow_92f84_45 : decode cJx4a65c_grow_92f84 45 = .ok (.aload_n 0, 1) := by decide +kernel
theorem dJx4a65c_grow_92f84_46 : decode cJx4a65c_grow_92f84 46 = .ok (.bipush 10, 2) := by decide +kernel
theorem dJx4a65c_grow_92f84_48 : decode cJx4a65c_grow_92f84 48 = .ok (.iload_n 1, 1) := by decide +kernel
theorem dJx4a65c_grow_92f84_49 : decode cJx4a65c_grow_92f84 49 = .ok (.invokestatic 79, 3) := by decide +kernel
theorem dJx4a65c_grow_92f84_52 : decode cJx4a65c_grow_92f84 52 = .ok (.anewarray 7, 3) := by decide +kernel
theorem dJx4a65c_grow_92f84_55 : decode cJx4a65c_grow_92f84 55 = .ok (.dup_x1, 1) := by decide +kernel
theorem dJx4a65c_grow_92f84_56 : decode cJx4a65c_grow_92f84 56 = .ok (.putfield 9, 3) := by decide +kernel
theorem dJx4a65c_grow_92f84_59 : decode cJx4a65c_grow_92f84 59 = .ok (.areturn, 1) := by decide +kernel
set_option maxRecDepth 20000 in
theorem ggJx4a65c_grow_d5877_Jx4a65c_grow_92f84 : GoodIn wsJx4a65c_grow_d5877 wsJx4a65c_grow_92f84 := goodIn_r _ [6, 7, 8, 9, 10, 11, 12, 13, 14, 15, 16, 17, 18, 19, 20, 21, 22, 23, 24, 25, 26, 27, 28, 29, 30, 31, 32, 33, 34, 35, 36, 37, 38, 39, 40, 41, 42, 43, 44, 45] (by decide +kernel) (by decide +kernel)
set_option maxRecDepth 20000 in
theorem gJx4a65c_grow_d5877_Jx4a65c_grow_92f84 : GoodIn wsJx4a65c_grow_d5877 (wsV RJx4a65c 69 RJx4a65c yJx4a65c_grow_92f84 wsJx4a65c_grow_92f84) := goodIn_app (goodIn_of _ (by decide +kernel)) ggJx4a65c_grow_d5877_Jx4a65c_grow_92f84
theorem dJx4a65c_grow_d5877_0 : decode cJx4a65c_grow_d5877 0 = .ok (.aload_n 0, 1) := by decide +kernel
theorem dJx4a65c_grow_d5877_1 : decode cJx4a65c_grow_d5877 1 = .ok (.aload_n 0, 1) := by decide +kernel
theorem dJx4a65c_grow_d5877_2 : decode cJx4a65c_grow_d5877 2 = .ok (.getfield 48, 3) := by decide +kernel
theorem dJx4a65c_grow_d5877_5 : decode cJx4a65c_grow_d5877 5 = .ok (.iconst 1, 1) := by decide +kernel
theorem dJx4a65c_grow_d5877_6 : decode cJx4a65c_grow_d5877 6 = .ok (.iadd, 1) := by decide +kernel
theorem dJx4a65c_grow_d5877_7 : decode cJx4a65c_grow_d5877 7 = .ok (.invokevirtual 69, 3) := by decide +kernel
theorem dJx4a65c_grow_d5877_10 : decode cJx4a65c_grow_d5877 10 = .ok (.areturn, 1) := by decide +kernel
theorem dJx4a65c_size_8abf5_0 : decode cJx4a65c_size_8abf5 0 = .ok (.aload_n 0, 1) := by decide +kernel
theorem dJx4a65c_size_8abf5_1 : decode cJx4a65c_size_8abf5 1 = .ok (.getfield 48, 3) := by decide +kernel
theorem dJx4a65c_size_8abf5_4 : decode cJx4a65c_size_8abf5 4 = .ok (.ireturn, 1) := by decide +kernel
theorem dJx4a65c_elementData_915e3_0 : decode cJx4a65c_elementData_915e3 0 = .ok (.aload_n 0, 1) := by decide +kernel
theorem dJx4a65c_elementData_915e3_1 : decode cJx4a65c_elementData_915e3 1 = .ok (.getfield 9, 3) := by decide +kernel
theorem dJx4a65c_elementData_915e3_4 : decode cJx4a65c_elementData_915e3 4 = .ok (.iload_n 1, 1) := by decide +kernel
theorem dJx4a65c_elementData_915e3_5 : decode cJx4a65c_elementData_915e3 5 = .ok (.aaload, 1) := by decide +kernel
theorem dJx4a65c_elementData_915e3_6 : decode cJx4a65c_elementData_915e3 6 = .ok (.areturn, 1) := by decide +kernel
set_option maxRecDepth 20000 in
theorem ggJx4a65c_get_915e3_J15_checkIndex_7cf53 : GoodIn wsJx4a65c_get_915e3 wsJ15_checkIndex_7cf53 := goodIn_r _ [5, 6, 7, 8, 9] (by decide +kernel) (by decide +kernel)
set_option maxRecDepth 20000 in
theorem gJx4a65c_get_915e3_J15_checkIndex_7cf53 : GoodIn wsJx4a65c_get_915e3 (va_wsS RJx4a65c 118 yJ15_checkIndex_7cf53 wsJ15_checkIndex_7cf53) := goodIn_app (goodIn_of _ (by decide +kernel)) ggJx4a65c_get_915e3_J15_checkIndex_7cf53
set_option maxRecDepth 20000 in
theorem ggJx4a65c_get_915e3_Jx4a65c_elementData_915e3 : GoodIn wsJx4a65c_get_915e3 wsJx4a65c_elementData_915e3 := goodIn_r _ [14, 15, 16, 17, 18] (by decide +kernel) (by decide +kernel)
set_option maxRecDepth 20000 in
theorem gJx4a65c_get_915e3_Jx4a65c_elementData_915e3 : GoodIn wsJx4a65c_get_915e3 (wsV RJx4a65c 123 RJx4a65c yJx4a65c_elementData_915e3 wsJx4a65c_elementData_915e3) := goodIn_app (goodIn_of _ (by decide +kernel)) ggJx4a65c_get_915e3_Jx4a65c_elementData_915e3
theorem dJx4a65c_get_915e3_0 : decode cJx4a65c_get_915e3 0 = .ok (.iload_n 1, 1) := by decide +kernel
theorem dJx4a65c_get_915e3_1 : decode cJx4a65c_get_915e3 1 = .ok (.aload_n 0, 1) := by decide +kernel
theorem dJx4a65c_get_915e3_2 : decode cJx4a65c_get_915e3 2 = .ok (.getfield 48, 3) := by decide +kernel
theorem dJx4a65c_get_915e3_5 : decode cJx4a65c_get_915e3 5 = .ok (.invokestatic 118, 3) := by decide +kernel
theorem dJx4a65c_get_915e3_8 : decode cJx4a65c_get_915e3 8 = .ok (.pop, 1) := by decide +kernel
theorem dJx4a65c_get_915e3_9 : decode cJx4a65c_get_915e3 9 = .ok (.aload_n 0, 1) := by decide +kernel
theorem dJx4a65c_get_915e3_10 : decode cJx4a65c_get_915e3 10 = .ok (.iload_n 1, 1) := by decide +kernel
theorem dJx4a65c_get_915e3_11 : decode cJx4a65c_get_915e3 11 = .ok (.invokevirtual 123, 3) := by decide +kernel
theorem dJx4a65c_get_915e3_14 : decode cJx4a65c_get_915e3 14 = .ok (.areturn, 1) := by decide +kernel
set_option maxRecDepth 20000 in
theorem ggJx4a65c_add_72be8_Jx4a65c_grow_d5877 : GoodIn wsJx4a65c_add_72be8 wsJx4a65c_grow_d5877 := goodIn_r _ [6, 1, 7, 8, 9, 5, 10, 11, 12, 13, 14, 15, 16, 17, 18, 19, 20, 21, 22, 23, 24, 25, 26, 27, 28, 29, 30, 31, 32, 33, 34, 35, 36, 37, 38, 39, 40, 41, 42, 43, 44, 45, 46, 47, 48, 49] (by decide +kernel) (by decide +kernel)
set_option maxRecDepth 20000 in
theorem gJx4a65c_add_72be8_Jx4a65c_grow_d5877 : GoodIn wsJx4a65c_add_72be8 (wsV RJx4a65c 129 RJx4a65c yJx4a65c_grow_d5877 wsJx4a65c_grow_d5877) := goodIn_app (goodIn_of _ (by decide +kernel)) ggJx4a65c_add_72be8_Jx4a65c_grow_d5877
theorem dJx4a65c_add_72be8_0 : decode cJx4a65c_add_72be8 0 = .ok (.iload_n 3, 1) := by decide +kernel
theorem dJx4a65c_add_72be8_1 : decode cJx4a65c_add_72be8 1 = .ok (.aload_n 2, 1) := by decide +kernel
theorem dJx4a65c_add_72be8_2 : decode cJx4a65c_add_72be8 2 = .ok (.arraylength, 1) := by decide +kernel
theorem dJx4a65c_add_72be8_3 : decode cJx4a65c_add_72be8 3 = .ok (.if_icmp .ne 8, 3) := by decide +kernel
theorem dJx4a65c_add_72be8_6 : decode cJx4a65c_add_72be8 6 = .ok (.aload_n 0, 1) := by decide +kernel
theorem dJx4a65c_add_72be8_7 : decode cJx4a65c_add_72be8 7 = .ok (.invokevirtual 129, 3) := by decide +kernel
theorem dJx4a65c_add_72be8_10 : decode cJx4a65c_add_72be8 10 = .ok (.astore_n 2, 1) := by decide +kernel
theorem dJx4a65c_add_72be8_11 : decode cJx4a65c_add_72be8 11 = .ok (.aload_n 2, 1) := by decide +kernel
theorem dJx4a65c_add_72be8_12 : decode cJx4a65c_add_72be8 12 = .ok (.iload_n 3, 1) := by decide +kernel
theorem dJx4a65c_add_72be8_13 : decode cJx4a65c_add_72be8 13 = .ok (.aload_n 1, 1) := by decide +kernel
theorem dJx4a65c_add_72be8_14 : decode cJx4a65c_add_72be8 14 = .ok (.aastore, 1) := by decide +kernel
theorem dJx4a65c_add_72be8_15 : decode cJx4a65c_add_72be8 15 = .ok (.aload_n 0, 1) := by decide +kernel
theorem dJx4a65c_add_72be8_16 : decode cJx4a65c_add_72be8 16 = .ok (.iload_n 3, 1) := by decide +kernel
theorem dJx4a65c_add_72be8_17 : decode cJx4a65c_add_72be8 17 = .ok (.iconst 1, 1) := by decide +kernel
theorem dJx4a65c_add_72be8_18 : decode cJx4a65c_add_72be8 18 = .ok (.iadd, 1) := by decide +kernel
theorem dJx4a65c_add_72be8_19 : decode cJx4a65c_add_72be8 19 = .ok (.putfield 48, 3) := by decide +kernel
theorem dJx4a65c_add_72be8_22 : decode cJx4a65c_add_72be8 22 = .ok (.return_, 1) := by decide +kernel
set_option maxRecDepth 20000 in
theorem ggJx4a65c_add_9ea2d_Jx4a65c_add_72be8 : GoodIn wsJx4a65c_add_9ea2d wsJx4a65c_add_72be8 := goodIn_r _ [9, 4, 10, 11, 12, 8, 13, 14, 15, 16, 17, 3, 18, 19, 20, 21, 22, 23, 24, 25, 26, 27, 28, 29, 30, 31, 32, 33, 34, 35, 36, 37, 38, 39, 40, 41, 42, 43, 44, 45, 46, 47, 48, 49, 50, 51, 52, 53, 54, 55] (by decide +kernel) (by decide +kernel)
set_option maxRecDepth 20000 in
theorem gJx4a65c_add_9ea2d_Jx4a65c_add_72be8 : GoodIn wsJx4a65c_add_9ea2d (wsV RJx4a65c 131 RJx4a65c yJx4a65c_add_72be8 wsJx4a65c_add_72be8) := goodIn_app (goodIn_of _ (by decide +kernel)) ggJx4a65c_add_9ea2d_Jx4a65c_add_72be8
theorem dJx4a65c_add_9ea2d_0 : decode cJx4a65c_add_9ea2d 0 = .ok (.aload_n 0, 1) := by decide +kernel
theorem dJx4a65c_add_9ea2d_1 : decode cJx4a65c_add_9ea2d 1 = .ok (.dup, 1) := by decide +kernel
theorem dJx4a65c_add_9ea2d_2 : decode cJx4a65c_add_9ea2d 2 = .ok (.getfield 63, 3) := by decide +kernel
theorem dJx4a65c_add_9ea2d_5 : decode cJx4a65c_add_9ea2d 5 = .ok (.iconst 1, 1) := by decide +kernel
theorem dJx4a65c_add_9ea2d_6 : decode cJx4a65c_add_9ea2d 6 = .ok (.iadd, 1) := by decide +kernel
theorem dJx4a65c_add_9ea2d_7 : decode cJx4a65c_add_9ea2d 7 = .ok (.putfield 63, 3) := by decide +kernel
theorem dJx4a65c_add_9ea2d_10 : decode cJx4a65c_add_9ea2d 10 = .ok (.aload_n 0, 1) := by decide +kernel
theorem dJx4a65c_add_9ea2d_11 : decode cJx4a65c_add_9ea2d 11 = .ok (.aload_n 1, 1) := by decide +kernel
theorem dJx4a65c_add_9ea2d_12 : decode cJx4a65c_add_9ea2d 12 = .ok (.aload_n 0, 1) := by decide +kernel
theorem dJx4a65c_add_9ea2d_13 : decode cJx4a65c_add_9ea2d 13 = .ok (.getfield 9, 3) := by decide +kernel
theorem dJx4a65c_add_9ea2d_16 : decode cJx4a65c_add_9ea2d 16 = .ok (.aload_n 0, 1) := by decide +kernel
theorem dJx4a65c_add_9ea2d_17 : decode cJx4a65c_add_9ea2d 17 = .ok (.getfield 48, 3) := by decide +kernel
theorem dJx4a65c_add_9ea2d_20 : decode cJx4a65c_add_9ea2d 20 = .ok (.invokevirtual 131, 3) := by decide +kernel
theorem dJx4a65c_add_9ea2d_23 : decode cJx4a65c_add_9ea2d 23 = .ok (.iconst 1, 1) := by decide +kernel
theorem dJx4a65c_add_9ea2d_24 : decode cJx4a65c_add_9ea2d 24 = .ok (.ireturn, 1) := by decide +kernel
set_option maxRecDepth 20000 in
theorem ggJ7_copyOf_1904c_J7_copyOf_6403c : GoodIn wsJ7_copyOf_1904c wsJ7_copyOf_6403c := goodIn_r _ [8, 9, 10, 11, 12, 13, 14, 15, 16, 17, 18] (by decide +kernel) (by decide +kernel)
set_option maxRecDepth 20000 in
theorem gJ7_copyOf_1904c_J7_copyOf_6403c : GoodIn wsJ7_copyOf_1904c (va_wsS RJ7 300 yJ7_copyOf_6403c wsJ7_copyOf_6403c) := goodIn_app (goodIn_of _ (by decide +kernel)) ggJ7_copyOf_1904c_J7_copyOf_6403c
theorem dJ7_copyOf_1904c_0 : decode cJ7_copyOf_1904c 0 = .ok (.aload_n 0, 1) := by decide +kernel
theorem dJ7_copyOf_1904c_1 : decode cJ7_copyOf_1904c 1 = .ok (.iload_n 1, 1) := by decide +kernel
theorem dJ7_copyOf_1904c_2 : decode cJ7_copyOf_1904c 2 = .ok (.aload_n 0, 1) := by decide +kernel
theorem dJ7_copyOf_1904c_3 : decode cJ7_copyOf_1904c 3 = .ok (.invokevirtual 86, 3) := by decide +kernel
theorem dJ7_copyOf_1904c_6 : decode cJ7_copyOf_1904c 6 = .ok (.invokestatic 300, 3) := by decide +kernel
theorem dJ7_copyOf_1904c_9 : decode cJ7_copyOf_1904c 9 = .ok (.areturn, 1) := by decide +kernel
theorem dJ7_copyOf_6403c_0 : decode cJ7_copyOf_6403c 0 = .ok (.aload_n 2, 1) := by decide +kernel
theorem dJ7_copyOf_6403c_1 : decode cJ7_copyOf_6403c 1 = .ok (.ldc 110, 2) := by decide +kernel
theorem dJ7_copyOf_6403c_3 : decode cJ7_copyOf_6403c 3 = .ok (.if_acmp .ne 10, 3) := by decide +kernel
theorem dJ7_copyOf_6403c_6 : decode cJ7_copyOf_6403c 6 = .ok (.iload_n 1, 1) := by decide +kernel
theorem dJ7_copyOf_6403c_7 : decode cJ7_copyOf_6403c 7 = .ok (.anewarray 2, 3) := by decide +kernel
theorem dJ7_copyOf_6403c_10 : decode cJ7_copyOf_6403c 10 = .ok (.goto 14, 3) := by decide +kernel
theorem dJ7_copyOf_6403c_13 : decode cJ7_copyOf_6403c 13 = .ok (.aload_n 2, 1) := by decide +kernel
theorem dJ7_copyOf_6403c_14 : decode cJ7_copyOf_6403c 14 = .ok (.invokevirtual 90, 3) := by decide +kernel
theorem dJ7_copyOf_6403c_17 : decode cJ7_copyOf_6403c 17 = .ok (.iload_n 1, 1) := by decide +kernel
theorem dJ7_copyOf_6403c_18 : decode cJ7_copyOf_6403c 18 = .ok (.invokestatic 95, 3) := by decide +kernel
theorem dJ7_copyOf_6403c_21 : decode cJ7_copyOf_6403c 21 = .ok (.checkcast 110, 3) := by decide +kernel
theorem dJ7_copyOf_6403c_24 : decode cJ7_copyOf_6403c 24 = .ok (.astore_n 3, 1) := by decide +kernel
theorem dJ7_copyOf_6403c_25 : decode cJ7_copyOf_6403c 25 = .ok (.aload_n 0, 1) := by decide +kernel
theorem dJ7_copyOf_6403c_26 : decode cJ7_copyOf_6403c 26 = .ok (.iconst 0, 1) := by decide +kernel
theorem dJ7_copyOf_6403c_27 : decode cJ7_copyOf_6403c 27 = .ok (.aload_n 3, 1) := by decide +kernel
theorem dJ7_copyOf_6403c_28 : decode cJ7_copyOf_6403c 28 = .ok (.iconst 0, 1) := by decide +kernel
theorem dJ7_copyOf_6403c_29 : decode cJ7_copyOf_6403c 29 = .ok (.aload_n 0, 1) := by decide +kernel
theorem dJ7_copyOf_6403c_30 : decode cJ7_copyOf_6403c 30 = .ok (.arraylength, 1) := by decide +kernel
theorem dJ7_copyOf_6403c_31 : decode cJ7_copyOf_6403c 31 = .ok (.iload_n 1, 1) := by decide +kernel
theorem dJ7_copyOf_6403c_32 : decode cJ7_copyOf_6403c 32 = .ok (.invokestatic 304, 3) := by decide +kernel
theorem dJ7_copyOf_6403c_35 : decode cJ7_copyOf_6403c 35 = .ok (.invokestatic 150, 3) := by decide +kernel
theorem dJ7_copyOf_6403c_38 : decode cJ7_copyOf_6403c 38 = .ok (.aload_n 3, 1) := by decide +kernel
theorem dJ7_copyOf_6403c_39 : decode cJ7_copyOf_6403c 39 = .ok (.areturn, 1) := by decide +kernel
set_option maxRecDepth 20000 in
theorem ggJ15_checkIndex_7cf53_J3_checkIndex_8e157 : GoodIn wsJ15_checkIndex_7cf53 wsJ3_checkIndex_8e157 := goodIn_r _ [4] (by decide +kernel) (by decide +kernel)
set_option maxRecDepth 20000 in
theorem gJ15_checkIndex_7cf53_J3_checkIndex_8e157 : GoodIn wsJ15_checkIndex_7cf53 (va_wsS RJ15 105 yJ3_checkIndex_8e157 wsJ3_checkIndex_8e157) := goodIn_app (goodIn_of _ (by decide +kernel)) ggJ15_checkIndex_7cf53_J3_checkIndex_8e157
theorem dJ15_checkIndex_7cf53_0 : decode cJ15_checkIndex_7cf53 0 = .ok (.iload_n 0, 1) := by decide +kernel
theorem dJ15_checkIndex_7cf53_1 : decode cJ15_checkIndex_7cf53 1 = .ok (.iload_n 1, 1) := by decide +kernel
theorem dJ15_checkIndex_7cf53_2 : decode cJ15_checkIndex_7cf53 2 = .ok (.aconst_null, 1) := by decide +kernel
theorem dJ15_checkIndex_7cf53_3 : decode cJ15_checkIndex_7cf53 3 = .ok (.invokestatic 105, 3) := by decide +kernel
theorem dJ15_checkIndex_7cf53_6 : decode cJ15_checkIndex_7cf53 6 = .ok (.ireturn, 1) := by decide +kernel
set_option maxRecDepth 20000 in
theorem ggJ8_newLength_cabcc_J8_hugeLength_7cf53 : GoodIn wsJ8_newLength_cabcc wsJ8_hugeLength_7cf53 := goodIn_r _ [9, 5] (by decide +kernel) (by decide +kernel)
set_option maxRecDepth 20000 in
theorem gJ8_newLength_cabcc_J8_hugeLength_7cf53 : GoodIn wsJ8_newLength_cabcc (va_wsS RJ8 201 yJ8_hugeLength_7cf53 wsJ8_hugeLength_7cf53) := goodIn_app (goodIn_of _ (by decide +kernel)) ggJ8_newLength_cabcc_J8_hugeLength_7cf53
theorem dJ8_newLength_cabcc_0 : decode cJ8_newLength_cabcc 0 = .ok (.iload_n 0, 1) := by decide +kernel
theorem dJ8_newLength_cabcc_1 : decode cJ8_newLength_cabcc 1 = .ok (.iload_n 1, 1) := by decide +kernel
theorem dJ8_newLength_cabcc_2 : decode cJ8_newLength_cabcc 2 = .ok (.iload_n 2, 1) := by decide +kernel
theorem dJ8_newLength_cabcc_3 : decode cJ8_newLength_cabcc 3 = .ok (.invokestatic 194, 3) := by decide +kernel
theorem dJ8_newLength_cabcc_6 : decode cJ8_newLength_cabcc 6 = .ok (.iadd, 1) := by decide +kernel
theorem dJ8_newLength_cabcc_7 : decode cJ8_newLength_cabcc 7 = .ok (.istore_n 3, 1) := by decide +kernel
theorem dJ8_newLength_cabcc_8 : decode cJ8_newLength_cabcc 8 = .ok (.iconst 0, 1) := by decide +kernel
theorem dJ8_newLength_cabcc_9 : decode cJ8_newLength_cabcc 9 = .ok (.iload_n 3, 1) := by decide +kernel
theorem dJ8_newLength_cabcc_10 : decode cJ8_newLength_cabcc 10 = .ok (.if_icmp .ge 11, 3) := by decide +kernel
theorem dJ8_newLength_cabcc_13 : decode cJ8_newLength_cabcc 13 = .ok (.iload_n 3, 1) := by decide +kernel
theorem dJ8_newLength_cabcc_14 : decode cJ8_newLength_cabcc 14 = .ok (.ldc 200, 2) := by decide +kernel
theorem dJ8_newLength_cabcc_16 : decode cJ8_newLength_cabcc 16 = .ok (.if_icmp .gt 5, 3) := by decide +kernel
theorem dJ8_newLength_cabcc_19 : decode cJ8_newLength_cabcc 19 = .ok (.iload_n 3, 1) := by decide +kernel
theorem dJ8_newLength_cabcc_20 : decode cJ8_newLength_cabcc 20 = .ok (.ireturn, 1) := by decide +kernel
theorem dJ8_newLength_cabcc_21 : decode cJ8_newLength_cabcc 21 = .ok (.iload_n 0, 1) := by decide +kernel
theorem dJ8_newLength_cabcc_22 : decode cJ8_newLength_cabcc 22 = .ok (.iload_n 1, 1) := by decide +kernel
theorem dJ8_newLength_cabcc_23 : decode cJ8_newLength_cabcc 23 = .ok (.invokestatic 201, 3) := by decide +kernel
theorem dJ8_newLength_cabcc_26 : decode cJ8_newLength_cabcc 26 = .ok (.ireturn, 1) := by decide +kernel
theorem dJ8_hugeLength_7cf53_0 : decode cJ8_hugeLength_7cf53 0 = .ok (.iload_n 0, 1) := by decide +kernel
theorem dJ8_hugeLength_7cf53_1 : decode cJ8_hugeLength_7cf53 1 = .ok (.iload_n 1, 1) := by decide +kernel
theorem dJ8_hugeLength_7cf53_2 : decode cJ8_hugeLength_7cf53 2 = .ok (.iadd, 1) := by decide +kernel
theorem dJ8_hugeLength_7cf53_3 : decode cJ8_hugeLength_7cf53 3 = .ok (.istore_n 2, 1) := by decide +kernel
theorem dJ8_hugeLength_7cf53_4 : decode cJ8_hugeLength_7cf53 4 = .ok (.iload_n 2, 1) := by decide +kernel
theorem dJ8_hugeLength_7cf53_5 : decode cJ8_hugeLength_7cf53 5 = .ok (.ifCond .ge 44, 3) := by decide +kernel
theorem dJ8_hugeLength_7cf53_8 : decode cJ8_hugeLength_7cf53 8 = .ok (.new 204, 3) := by decide +kernel
theorem dJ8_hugeLength_7cf53_11 : decode cJ8_hugeLength_7cf53 11 = .ok (.dup, 1) := by decide +kernel
theorem dJ8_hugeLength_7cf53_12 : decode cJ8_hugeLength_7cf53 12 = .ok (.new 89, 3) := by decide +kernel
theorem dJ8_hugeLength_7cf53_15 : decode cJ8_hugeLength_7cf53 15 = .ok (.dup, 1) := by decide +kernel
theorem dJ8_hugeLength_7cf53_16 : decode cJ8_hugeLength_7cf53 16 = .ok (.invokespecial 91, 3) := by decide +kernel
theorem dJ8_hugeLength_7cf53_19 : decode cJ8_hugeLength_7cf53 19 = .ok (.ldc 206, 2) := by decide +kernel
theorem dJ8_hugeLength_7cf53_21 : decode cJ8_hugeLength_7cf53 21 = .ok (.invokevirtual 94, 3) := by decide +kernel
theorem dJ8_hugeLength_7cf53_24 : decode cJ8_hugeLength_7cf53 24 = .ok (.iload_n 0, 1) := by decide +kernel
theorem dJ8_hugeLength_7cf53_25 : decode cJ8_hugeLength_7cf53 25 = .ok (.invokevirtual 98, 3) := by decide +kernel
theorem dJ8_hugeLength_7cf53_28 : decode cJ8_hugeLength_7cf53 28 = .ok (.ldc 208, 2) := by decide +kernel
theorem dJ8_hugeLength_7cf53_30 : decode cJ8_hugeLength_7cf53 30 = .ok (.invokevirtual 94, 3) := by decide +kernel
theorem dJ8_hugeLength_7cf53_33 : decode cJ8_hugeLength_7cf53 33 = .ok (.iload_n 1, 1) := by decide +kernel
theorem dJ8_hugeLength_7cf53_34 : decode cJ8_hugeLength_7cf53 34 = .ok (.invokevirtual 98, 3) := by decide +kernel
theorem dJ8_hugeLength_7cf53_37 : decode cJ8_hugeLength_7cf53 37 = .ok (.ldc 210, 2) := by decide +kernel
theorem dJ8_hugeLength_7cf53_39 : decode cJ8_hugeLength_7cf53 39 = .ok (.invokevirtual 94, 3) := by decide +kernel
theorem dJ8_hugeLength_7cf53_42 : decode cJ8_hugeLength_7cf53 42 = .ok (.invokevirtual 101, 3) := by decide +kernel
theorem dJ8_hugeLength_7cf53_45 : decode cJ8_hugeLength_7cf53 45 = .ok (.invokespecial 212, 3) := by decide +kernel
theorem dJ8_hugeLength_7cf53_48 : decode cJ8_hugeLength_7cf53 48 = .ok (.athrow, 1) := by decide +kernel
theorem dJ8_hugeLength_7cf53_49 : decode cJ8_hugeLength_7cf53 49 = .ok (.iload_n 2, 1) := by decide +kernel
theorem dJ8_hugeLength_7cf53_50 : decode cJ8_hugeLength_7cf53 50 = .ok (.ldc 200, 2) := by decide +kernel
theorem dJ8_hugeLength_7cf53_52 : decode cJ8_hugeLength_7cf53 52 = .ok (.if_icmp .gt 6, 3) := by decide +kernel
theorem dJ8_hugeLength_7cf53_55 : decode cJ8_hugeLength_7cf53 55 = .ok (.ldc 200, 2) := by decide +kernel
theorem dJ8_hugeLength_7cf53_57 : decode cJ8_hugeLength_7cf53 57 = .ok (.ireturn, 1) := by decide +kernel
theorem dJ8_hugeLength_7cf53_58 : decode cJ8_hugeLength_7cf53 58 = .ok (.iload_n 2, 1) := by decide +kernel
theorem dJ8_hugeLength_7cf53_59 : decode cJ8_hugeLength_7cf53 59 = .ok (.ireturn, 1) := by decide +kernel
theorem dJ3_checkIndex_8e157_0 : decode cJ3_checkIndex_8e157 0 = .ok (.iload_n 0, 1) := by decide +kernel
theorem dJ3_checkIndex_8e157_1 : decode cJ3_checkIndex_8e157 1 = .ok (.ifCond .lt 8, 3) := by decide +kernel
theorem dJ3_checkIndex_8e157_4 : decode cJ3_checkIndex_8e157 4 = .ok (.iload_n 0, 1) := by decide +kernel
theorem dJ3_checkIndex_8e157_5 : decode cJ3_checkIndex_8e157 5 = .ok (.iload_n 1, 1) := by decide +kernel
theorem dJ3_checkIndex_8e157_6 : decode cJ3_checkIndex_8e157 6 = .ok (.if_icmp .lt 10, 3) := by decide +kernel
theorem dJ3_checkIndex_8e157_9 : decode cJ3_checkIndex_8e157 9 = .ok (.aload_n 2, 1) := by decide +kernel
theorem dJ3_checkIndex_8e157_10 : decode cJ3_checkIndex_8e157 10 = .ok (.iload_n 0, 1) := by decide +kernel
theorem dJ3_checkIndex_8e157_11 : decode cJ3_checkIndex_8e157 11 = .ok (.iload_n 1, 1) := by decide +kernel
theorem dJ3_checkIndex_8e157_12 : decode cJ3_checkIndex_8e157 12 = .ok (.invokestatic 95, 3) := by decide +kernel
theorem dJ3_checkIndex_8e157_15 : decode cJ3_checkIndex_8e157 15 = .ok (.athrow, 1) := by decide +kernel
theorem dJ3_checkIndex_8e157_16 : decode cJ3_checkIndex_8e157 16 = .ok (.iload_n 0, 1) := by decide +kernel
theorem dJ3_checkIndex_8e157_17 : decode cJ3_checkIndex_8e157 17 = .ok (.ireturn, 1) := by decide +kernel
set_option maxRecDepth 20000 in
theorem ggL_vessel_X6_vessel : GoodIn wsL_vessel wsX6_vessel := goodIn_ca (goodIn_ca (goodIn_ca (goodIn_r _ [6, 7, 8, 9, 10, 11, 12, 13, 14, 15, 16, 17, 18, 19, 5, 20, 21, 22, 23, 24, 25, 26, 27, 28, 29, 30, 31, 32, 33, 34, 35, 36, 37, 38, 39, 40, 41, 42, 43, 44, 45, 46, 47, 48, 49, 50, 51, 52, 53, 54, 55, 56, 57, 58, 59, 60, 61, 62, 63, 64, 65, 66, 67, 68, 69, 70, 71, 72, 73, 74, 75, 76, 77, 78, 79, 80, 81, 82, 83, 84, 85, 86, 87, 88, 89, 90, 91, 92, 93, 94, 95, 96, 97, 98, 99, 100, 101, 102, 103, 104, 105, 106, 107, 108, 109, 110, 111] (by decide +kernel) (by decide +kernel)) (goodIn_sub (fun _ h => List.mem_cons_of_mem _ (List.mem_append_left _ (List.mem_append_left _ (List.mem_append_right _ h)))) (by decide +kernel))) (goodIn_sub (fun _ h => List.mem_cons_of_mem _ (List.mem_append_left _ (List.mem_append_right _ h))) (by decide +kernel))) (goodIn_sub (fun _ h => List.mem_cons_of_mem _ (List.mem_append_right _ h)) (by decide +kernel))
set_option maxRecDepth 20000 in
theorem gL_vessel_X6_vessel : GoodIn wsL_vessel (wsV RL 7 RX6 yX6_vessel wsX6_vessel) := goodIn_app (goodIn_of _ (by decide +kernel)) ggL_vessel_X6_vessel
theorem dL_vessel_0 : decode cL_vessel 0 = .ok (.aload_n 3, 1) := by decide +kernel
theorem dL_vessel_1 : decode cL_vessel 1 = .ok (.iconst 0, 1) := by decide +kernel
theorem dL_vessel_2 : decode cL_vessel 2 = .ok (.aload_n 0, 1) := by decide +kernel
theorem dL_vessel_3 : decode cL_vessel 3 = .ok (.iload_n 1, 1) := by decide +kernel
theorem dL_vessel_4 : decode cL_vessel 4 = .ok (.iload_n 2, 1) := by decide +kernel
theorem dL_vessel_5 : decode cL_vessel 5 = .ok (.invokevirtual 7, 3) := by decide +kernel
theorem dL_vessel_8 : decode cL_vessel 8 = .ok (.i2l, 1) := by decide +kernel
theorem dL_vessel_9 : decode cL_vessel 9 = .ok (.lastore, 1) := by decide +kernel
theorem dL_vessel_10 : decode cL_vessel 10 = .ok (.goto 15, 3) := by decide +kernel
theorem dL_vessel_13 : decode cL_vessel 13 = .ok (.astore 4, 2) := by decide +kernel
theorem dL_vessel_15 : decode cL_vessel 15 = .ok (.iconst 1, 1) := by decide +kernel
theorem dL_vessel_16 : decode cL_vessel 16 = .ok (.ireturn, 1) := by decide +kernel
theorem dL_vessel_17 : decode cL_vessel 17 = .ok (.astore 4, 2) := by decide +kernel
theorem dL_vessel_19 : decode cL_vessel 19 = .ok (.iconst 2, 1) := by decide +kernel
theorem dL_vessel_20 : decode cL_vessel 20 = .ok (.ireturn, 1) := by decide +kernel
theorem dL_vessel_21 : decode cL_vessel 21 = .ok (.astore 4, 2) := by decide +kernel
theorem dL_vessel_23 : decode cL_vessel 23 = .ok (.iconst 3, 1) := by decide +kernel
theorem dL_vessel_24 : decode cL_vessel 24 = .ok (.ireturn, 1) := by decide +kernel
theorem dL_vessel_25 : decode cL_vessel 25 = .ok (.iconst 0, 1) := by decide +kernel
theorem dL_vessel_26 : decode cL_vessel 26 = .ok (.ireturn, 1) := by decide +kernel
set_option maxRecDepth 20000 in
theorem ggL_shares_X6_shares : GoodIn wsL_shares wsX6_shares := goodIn_ca (goodIn_ca (goodIn_r _ [6, 7, 8, 9, 10, 11, 12, 13, 14, 5, 15, 16, 17, 18, 19, 20, 21, 22, 23, 24, 25, 26, 27, 28, 29, 30] (by decide +kernel) (by decide +kernel)) (goodIn_sub (fun _ h => List.mem_cons_of_mem _ (List.mem_append_left _ (List.mem_append_right _ h))) (by decide +kernel))) (goodIn_sub (fun _ h => List.mem_cons_of_mem _ (List.mem_append_right _ h)) (by decide +kernel))
set_option maxRecDepth 20000 in
theorem gL_shares_X6_shares : GoodIn wsL_shares (wsV RL 19 RX6 yX6_shares wsX6_shares) := goodIn_app (goodIn_of _ (by decide +kernel)) ggL_shares_X6_shares
theorem dL_shares_0 : decode cL_shares 0 = .ok (.aload_n 3, 1) := by decide +kernel
theorem dL_shares_1 : decode cL_shares 1 = .ok (.iconst 0, 1) := by decide +kernel
theorem dL_shares_2 : decode cL_shares 2 = .ok (.aload_n 0, 1) := by decide +kernel
theorem dL_shares_3 : decode cL_shares 3 = .ok (.iload_n 1, 1) := by decide +kernel
theorem dL_shares_4 : decode cL_shares 4 = .ok (.iload_n 2, 1) := by decide +kernel
theorem dL_shares_5 : decode cL_shares 5 = .ok (.invokevirtual 19, 3) := by decide +kernel
theorem dL_shares_8 : decode cL_shares 8 = .ok (.i2l, 1) := by decide +kernel
theorem dL_shares_9 : decode cL_shares 9 = .ok (.lastore, 1) := by decide +kernel
theorem dL_shares_10 : decode cL_shares 10 = .ok (.goto 11, 3) := by decide +kernel
theorem dL_shares_13 : decode cL_shares 13 = .ok (.astore 4, 2) := by decide +kernel
theorem dL_shares_15 : decode cL_shares 15 = .ok (.iconst 1, 1) := by decide +kernel
theorem dL_shares_16 : decode cL_shares 16 = .ok (.ireturn, 1) := by decide +kernel
theorem dL_shares_17 : decode cL_shares 17 = .ok (.astore 4, 2) := by decide +kernel
theorem dL_shares_19 : decode cL_shares 19 = .ok (.iconst 2, 1) := by decide +kernel
theorem dL_shares_20 : decode cL_shares 20 = .ok (.ireturn, 1) := by decide +kernel
theorem dL_shares_21 : decode cL_shares 21 = .ok (.iconst 0, 1) := by decide +kernel
theorem dL_shares_22 : decode cL_shares 22 = .ok (.ireturn, 1) := by decide +kernel
set_option maxRecDepth 20000 in
theorem ggL_run_X6_run : GoodIn wsL_run wsX6_run := goodIn_ca (goodIn_ca (goodIn_ca (goodIn_r _ [6, 7, 8, 9, 10, 11, 12, 13, 14, 15, 16, 17, 18, 19, 20, 5, 21, 22, 23, 24, 25, 26, 27, 28, 29, 30, 31, 32, 33, 34, 35, 36, 37, 38, 39, 40, 41, 42, 43, 44, 45, 46, 47, 48, 49, 50, 51, 52, 53, 54, 55, 56, 57, 58, 59, 60, 61, 62, 63, 64, 65, 66, 67, 68, 69, 70, 71, 72, 73, 74, 75, 76, 77, 78, 79, 80, 81, 82, 83, 84, 85, 86, 87, 88, 89, 90, 91, 92, 93, 94, 95, 96, 97, 98, 99, 100, 101, 102, 103, 104, 105, 106, 107, 108, 109, 110] (by decide +kernel) (by decide +kernel)) (goodIn_sub (fun _ h => List.mem_cons_of_mem _ (List.mem_append_left _ (List.mem_append_left _ (List.mem_append_right _ h)))) (by decide +kernel))) (goodIn_sub (fun _ h => List.mem_cons_of_mem _ (List.mem_append_left _ (List.mem_append_right _ h))) (by decide +kernel))) (goodIn_sub (fun _ h => List.mem_cons_of_mem _ (List.mem_append_right _ h)) (by decide +kernel))
set_option maxRecDepth 20000 in
theorem gL_run_X6_run : GoodIn wsL_run (wsV RL 22 RX6 yX6_run wsX6_run) := goodIn_app (goodIn_of _ (by decide +kernel)) ggL_run_X6_run
theorem dL_run_0 : decode cL_run 0 = .ok (.aload 6, 2) := by decide +kernel
theorem dL_run_2 : decode cL_run 2 = .ok (.iconst 0, 1) := by decide +kernel
theorem dL_run_3 : decode cL_run 3 = .ok (.aload_n 0, 1) := by decide +kernel
theorem dL_run_4 : decode cL_run 4 = .ok (.iload_n 1, 1) := by decide +kernel
theorem dL_run_5 : decode cL_run 5 = .ok (.iload_n 2, 1) := by decide +kernel
theorem dL_run_6 : decode cL_run 6 = .ok (.iload_n 3, 1) := by decide +kernel
theorem dL_run_7 : decode cL_run 7 = .ok (.iload 4, 2) := by decide +kernel
theorem dL_run_9 : decode cL_run 9 = .ok (.iload 5, 2) := by decide +kernel
theorem dL_run_11 : decode cL_run 11 = .ok (.invokevirtual 22, 3) := by decide +kernel
theorem dL_run_14 : decode cL_run 14 = .ok (.i2l, 1) := by decide +kernel
theorem dL_run_15 : decode cL_run 15 = .ok (.lastore, 1) := by decide +kernel
theorem dL_run_16 : decode cL_run 16 = .ok (.goto 15, 3) := by decide +kernel
theorem dL_run_19 : decode cL_run 19 = .ok (.astore 7, 2) := by decide +kernel
theorem dL_run_21 : decode cL_run 21 = .ok (.iconst 1, 1) := by decide +kernel
theorem dL_run_22 : decode cL_run 22 = .ok (.ireturn, 1) := by decide +kernel
theorem dL_run_23 : decode cL_run 23 = .ok (.astore 7, 2) := by decide +kernel
theorem dL_run_25 : decode cL_run 25 = .ok (.iconst 2, 1) := by decide +kernel
theorem dL_run_26 : decode cL_run 26 = .ok (.ireturn, 1) := by decide +kernel
theorem dL_run_27 : decode cL_run 27 = .ok (.astore 7, 2) := by decide +kernel
theorem dL_run_29 : decode cL_run 29 = .ok (.iconst 3, 1) := by decide +kernel
theorem dL_run_30 : decode cL_run 30 = .ok (.ireturn, 1) := by decide +kernel
theorem dL_run_31 : decode cL_run 31 = .ok (.iconst 0, 1) := by decide +kernel
theorem dL_run_32 : decode cL_run 32 = .ok (.ireturn, 1) := by decide +kernel
set_option maxRecDepth 20000 in
theorem ggL_move_X6_move : GoodIn wsL_move wsX6_move := goodIn_ca (goodIn_ca (goodIn_ca (goodIn_r _ [6, 7, 8, 9, 10, 11, 12, 13, 5, 14, 15, 16, 17, 18, 19, 20, 21, 22, 23, 24, 25, 26, 27, 28, 29, 30, 31, 32, 33, 34, 35, 36, 37, 38, 39, 40, 41, 42, 43, 44, 45, 46, 47, 48, 49, 50, 51, 52, 53, 54, 55, 56, 57, 58, 59, 60, 61, 62, 63, 64, 65, 66, 67, 68, 69, 70, 71, 72, 73, 74, 75, 76, 77, 78, 79, 80, 81, 82, 83, 84, 85, 86, 87, 88, 89, 90, 91, 92, 93] (by decide +kernel) (by decide +kernel)) (goodIn_sub (fun _ h => List.mem_cons_of_mem _ (List.mem_append_left _ (List.mem_append_left _ (List.mem_append_right _ h)))) (by decide +kernel))) (goodIn_sub (fun _ h => List.mem_cons_of_mem _ (List.mem_append_left _ (List.mem_append_right _ h))) (by decide +kernel))) (goodIn_sub (fun _ h => List.mem_cons_of_mem _ (List.mem_append_right _ h)) (by decide +kernel))
set_option maxRecDepth 20000 in
theorem gL_move_X6_move : GoodIn wsL_move (wsV RL 26 RX6 yX6_move wsX6_move) := goodIn_app (goodIn_of _ (by decide +kernel)) ggL_move_X6_move
theorem dL_move_0 : decode cL_move 0 = .ok (.aload 4, 2) := by decide +kernel
theorem dL_move_2 : decode cL_move 2 = .ok (.iconst 0, 1) := by decide +kernel
theorem dL_move_3 : decode cL_move 3 = .ok (.aload_n 0, 1) := by decide +kernel
theorem dL_move_4 : decode cL_move 4 = .ok (.iload_n 1, 1) := by decide +kernel
theorem dL_move_5 : decode cL_move 5 = .ok (.iload_n 2, 1) := by decide +kernel
theorem dL_move_6 : decode cL_move 6 = .ok (.iload_n 3, 1) := by decide +kernel
theorem dL_move_7 : decode cL_move 7 = .ok (.invokevirtual 26, 3) := by decide +kernel
theorem dL_move_10 : decode cL_move 10 = .ok (.i2l, 1) := by decide +kernel
theorem dL_move_11 : decode cL_move 11 = .ok (.lastore, 1) := by decide +kernel
theorem dL_move_12 : decode cL_move 12 = .ok (.goto 15, 3) := by decide +kernel
theorem dL_move_15 : decode cL_move 15 = .ok (.astore 5, 2) := by decide +kernel
theorem dL_move_17 : decode cL_move 17 = .ok (.iconst 1, 1) := by decide +kernel
theorem dL_move_18 : decode cL_move 18 = .ok (.ireturn, 1) := by decide +kernel
theorem dL_move_19 : decode cL_move 19 = .ok (.astore 5, 2) := by decide +kernel
theorem dL_move_21 : decode cL_move 21 = .ok (.iconst 2, 1) := by decide +kernel
theorem dL_move_22 : decode cL_move 22 = .ok (.ireturn, 1) := by decide +kernel
theorem dL_move_23 : decode cL_move 23 = .ok (.astore 5, 2) := by decide +kernel
theorem dL_move_25 : decode cL_move 25 = .ok (.iconst 3, 1) := by decide +kernel
theorem dL_move_26 : decode cL_move 26 = .ok (.ireturn, 1) := by decide +kernel
theorem dL_move_27 : decode cL_move 27 = .ok (.iconst 0, 1) := by decide +kernel
theorem dL_move_28 : decode cL_move 28 = .ok (.ireturn, 1) := by decide +kernel
set_option maxRecDepth 20000 in
theorem ggL_dip_X6_dip : GoodIn wsL_dip wsX6_dip := goodIn_ca (goodIn_ca (goodIn_ca (goodIn_r _ [6, 7, 8, 9, 10, 11, 12, 13, 14, 15, 5, 16, 17, 18, 19, 20, 21, 22, 23, 24, 25, 26, 27, 28, 29, 30, 31, 32, 33, 34, 35, 36, 37, 38, 39, 40, 41, 42, 43, 44, 45, 46, 47, 48, 49, 50, 51, 52, 53, 54, 55, 56, 57, 58, 59, 60, 61, 62, 63, 64, 65, 66, 67, 68, 69, 70, 71, 72, 73, 74, 75, 76, 77, 78, 79, 80, 81, 82, 83, 84, 85, 86, 87, 88, 89, 90, 91] (by decide +kernel) (by decide +kernel)) (goodIn_sub (fun _ h => List.mem_cons_of_mem _ (List.mem_append_left _ (List.mem_append_left _ (List.mem_append_right _ h)))) (by decide +kernel))) (goodIn_sub (fun _ h => List.mem_cons_of_mem _ (List.mem_append_left _ (List.mem_append_right _ h))) (by decide +kernel))) (goodIn_sub (fun _ h => List.mem_cons_of_mem _ (List.mem_append_right _ h)) (by decide +kernel))
set_option maxRecDepth 20000 in
theorem gL_dip_X6_dip : GoodIn wsL_dip (wsV RL 30 RX6 yX6_dip wsX6_dip) := goodIn_app (goodIn_of _ (by decide +kernel)) ggL_dip_X6_dip
theorem dL_dip_0 : decode cL_dip 0 = .ok (.aload 4, 2) := by decide +kernel
theorem dL_dip_2 : decode cL_dip 2 = .ok (.iconst 0, 1) := by decide +kernel
theorem dL_dip_3 : decode cL_dip 3 = .ok (.aload_n 0, 1) := by decide +kernel
theorem dL_dip_4 : decode cL_dip 4 = .ok (.iload_n 1, 1) := by decide +kernel
theorem dL_dip_5 : decode cL_dip 5 = .ok (.iload_n 2, 1) := by decide +kernel
theorem dL_dip_6 : decode cL_dip 6 = .ok (.iload_n 3, 1) := by decide +kernel
theorem dL_dip_7 : decode cL_dip 7 = .ok (.invokevirtual 30, 3) := by decide +kernel
theorem dL_dip_10 : decode cL_dip 10 = .ok (.i2l, 1) := by decide +kernel
theorem dL_dip_11 : decode cL_dip 11 = .ok (.lastore, 1) := by decide +kernel
theorem dL_dip_12 : decode cL_dip 12 = .ok (.goto 15, 3) := by decide +kernel
theorem dL_dip_15 : decode cL_dip 15 = .ok (.astore 5, 2) := by decide +kernel
theorem dL_dip_17 : decode cL_dip 17 = .ok (.iconst 1, 1) := by decide +kernel
theorem dL_dip_18 : decode cL_dip 18 = .ok (.ireturn, 1) := by decide +kernel
theorem dL_dip_19 : decode cL_dip 19 = .ok (.astore 5, 2) := by decide +kernel
theorem dL_dip_21 : decode cL_dip 21 = .ok (.iconst 2, 1) := by decide +kernel
theorem dL_dip_22 : decode cL_dip 22 = .ok (.ireturn, 1) := by decide +kernel
theorem dL_dip_23 : decode cL_dip 23 = .ok (.astore 5, 2) := by decide +kernel
theorem dL_dip_25 : decode cL_dip 25 = .ok (.iconst 3, 1) := by decide +kernel
theorem dL_dip_26 : decode cL_dip 26 = .ok (.ireturn, 1) := by decide +kernel
theorem dL_dip_27 : decode cL_dip 27 = .ok (.iconst 0, 1) := by decide +kernel
theorem dL_dip_28 : decode cL_dip 28 = .ok (.ireturn, 1) := by decide +kernel
set_option maxRecDepth 20000 in
theorem ggL_lose_X6_lose : GoodIn wsL_lose wsX6_lose := goodIn_ca (goodIn_ca (goodIn_ca (goodIn_r _ [6, 7, 8, 9, 10, 11, 12, 13, 14, 5, 15, 16, 17, 18, 19, 20, 21, 22, 23, 24, 25, 26, 27, 28, 29, 30, 31, 32, 33, 34, 35, 36, 37, 38, 39, 40, 41, 42, 43, 44, 45, 46, 47, 48, 49, 50, 51, 52, 53, 54, 55, 56, 57, 58, 59, 60, 61, 62, 63, 64, 65, 66, 67, 68, 69, 70, 71, 72, 73, 74, 75, 76, 77, 78, 79, 80, 81, 82, 83, 84, 85, 86, 87, 88, 89, 90, 91, 92, 93, 94, 95, 96, 97, 98, 99, 100, 101, 102] (by decide +kernel) (by decide +kernel)) (goodIn_sub (fun _ h => List.mem_cons_of_mem _ (List.mem_append_left _ (List.mem_append_left _ (List.mem_append_right _ h)))) (by decide +kernel))) (goodIn_sub (fun _ h => List.mem_cons_of_mem _ (List.mem_append_left _ (List.mem_append_right _ h))) (by decide +kernel))) (goodIn_sub (fun _ h => List.mem_cons_of_mem _ (List.mem_append_right _ h)) (by decide +kernel))
set_option maxRecDepth 20000 in
theorem gL_lose_X6_lose : GoodIn wsL_lose (wsV RL 33 RX6 yX6_lose wsX6_lose) := goodIn_app (goodIn_of _ (by decide +kernel)) ggL_lose_X6_lose
theorem dL_lose_0 : decode cL_lose 0 = .ok (.aload 4, 2) := by decide +kernel
theorem dL_lose_2 : decode cL_lose 2 = .ok (.iconst 0, 1) := by decide +kernel
theorem dL_lose_3 : decode cL_lose 3 = .ok (.aload_n 0, 1) := by decide +kernel
theorem dL_lose_4 : decode cL_lose 4 = .ok (.iload_n 1, 1) := by decide +kernel
theorem dL_lose_5 : decode cL_lose 5 = .ok (.iload_n 2, 1) := by decide +kernel
theorem dL_lose_6 : decode cL_lose 6 = .ok (.iload_n 3, 1) := by decide +kernel
theorem dL_lose_7 : decode cL_lose 7 = .ok (.invokevirtual 33, 3) := by decide +kernel
theorem dL_lose_10 : decode cL_lose 10 = .ok (.i2l, 1) := by decide +kernel
theorem dL_lose_11 : decode cL_lose 11 = .ok (.lastore, 1) := by decide +kernel
theorem dL_lose_12 : decode cL_lose 12 = .ok (.goto 15, 3) := by decide +kernel
theorem dL_lose_15 : decode cL_lose 15 = .ok (.astore 5, 2) := by decide +kernel
theorem dL_lose_17 : decode cL_lose 17 = .ok (.iconst 1, 1) := by decide +kernel
theorem dL_lose_18 : decode cL_lose 18 = .ok (.ireturn, 1) := by decide +kernel
theorem dL_lose_19 : decode cL_lose 19 = .ok (.astore 5, 2) := by decide +kernel
theorem dL_lose_21 : decode cL_lose 21 = .ok (.iconst 2, 1) := by decide +kernel
theorem dL_lose_22 : decode cL_lose 22 = .ok (.ireturn, 1) := by decide +kernel
theorem dL_lose_23 : decode cL_lose 23 = .ok (.astore 5, 2) := by decide +kernel
theorem dL_lose_25 : decode cL_lose 25 = .ok (.iconst 3, 1) := by decide +kernel
theorem dL_lose_26 : decode cL_lose 26 = .ok (.ireturn, 1) := by decide +kernel
theorem dL_lose_27 : decode cL_lose 27 = .ok (.iconst 0, 1) := by decide +kernel
theorem dL_lose_28 : decode cL_lose 28 = .ok (.ireturn, 1) := by decide +kernel
set_option maxRecDepth 20000 in
theorem ggL_release_X6_release : GoodIn wsL_release wsX6_release := goodIn_ca (goodIn_ca (goodIn_ca (goodIn_r _ [6, 7, 8, 9, 10, 11, 12, 13, 14, 15, 16, 17, 18, 19, 5, 20, 21, 22, 23, 24, 25, 26, 27, 28, 29, 30, 31, 32, 33, 34, 35, 36, 37, 38, 39, 40, 41, 42, 43, 44, 45, 46, 47, 48, 49, 50, 51, 52, 53, 54, 55, 56, 57, 58, 59, 60, 61, 62, 63, 64, 65, 66, 67, 68, 69, 70, 71, 72, 73, 74, 75, 76, 77, 78, 79, 80, 81, 82, 83, 84, 85, 86, 87, 88, 89, 90, 91, 92, 93, 94, 95, 96, 97, 98, 99, 100, 101, 102, 103, 104, 105, 106, 107, 108, 109, 110, 111, 112, 113, 114, 115, 116, 117, 118, 119, 120, 121, 122, 123, 124, 125, 126, 127, 128, 129, 130, 131, 132, 133, 134, 135, 136, 137, 138, 139, 140, 141, 142, 143, 144, 145, 146, 147, 148, 149, 150, 151, 152, 153, 154, 155, 156, 157, 158, 159, 160, 161, 162, 163, 164, 165, 166] (by decide +kernel) (by decide +kernel)) (goodIn_sub (fun _ h => List.mem_cons_of_mem _ (List.mem_append_left _ (List.mem_append_left _ (List.mem_append_right _ h)))) (by decide +kernel))) (goodIn_sub (fun _ h => List.mem_cons_of_mem _ (List.mem_append_left _ (List.mem_append_right _ h))) (by decide +kernel))) (goodIn_sub (fun _ h => List.mem_cons_of_mem _ (List.mem_append_right _ h)) (by decide +kernel))
set_option maxRecDepth 20000 in
theorem gL_release_X6_release : GoodIn wsL_release (wsV RL 37 RX6 yX6_release wsX6_release) := goodIn_app (goodIn_of _ (by decide +kernel)) ggL_release_X6_release
theorem dL_release_0 : decode cL_release 0 = .ok (.aload_n 3, 1) := by decide +kernel
theorem dL_release_1 : decode cL_release 1 = .ok (.iconst 0, 1) := by decide +kernel
theorem dL_release_2 : decode cL_release 2 = .ok (.aload_n 0, 1) := by decide +kernel
theorem dL_release_3 : decode cL_release 3 = .ok (.iload_n 1, 1) := by decide +kernel
theorem dL_release_4 : decode cL_release 4 = .ok (.iload_n 2, 1) := by decide +kernel
theorem dL_release_5 : decode cL_release 5 = .ok (.invokevirtual 37, 3) := by decide +kernel
theorem dL_release_8 : decode cL_release 8 = .ok (.i2l, 1) := by decide +kernel
theorem dL_release_9 : decode cL_release 9 = .ok (.lastore, 1) := by decide +kernel
theorem dL_release_10 : decode cL_release 10 = .ok (.goto 15, 3) := by decide +kernel
theorem dL_release_13 : decode cL_release 13 = .ok (.astore 4, 2) := by decide +kernel
theorem dL_release_15 : decode cL_release 15 = .ok (.iconst 1, 1) := by decide +kernel
theorem dL_release_16 : decode cL_release 16 = .ok (.ireturn, 1) := by decide +kernel
theorem dL_release_17 : decode cL_release 17 = .ok (.astore 4, 2) := by decide +kernel
theorem dL_release_19 : decode cL_release 19 = .ok (.iconst 2, 1) := by decide +kernel
theorem dL_release_20 : decode cL_release 20 = .ok (.ireturn, 1) := by decide +kernel
theorem dL_release_21 : decode cL_release 21 = .ok (.astore 4, 2) := by decide +kernel
theorem dL_release_23 : decode cL_release 23 = .ok (.iconst 3, 1) := by decide +kernel
theorem dL_release_24 : decode cL_release 24 = .ok (.ireturn, 1) := by decide +kernel
theorem dL_release_25 : decode cL_release 25 = .ok (.iconst 0, 1) := by decide +kernel
theorem dL_release_26 : decode cL_release 26 = .ok (.ireturn, 1) := by decide +kernel
set_option maxRecDepth 20000 in
theorem ggL_permit_X6_permit : GoodIn wsL_permit wsX6_permit := goodIn_ca (goodIn_r _ [6, 7, 8, 9, 10, 11, 12, 5, 13, 14, 15, 16, 17, 18, 19, 20, 21, 22, 23, 24, 25] (by decide +kernel) (by decide +kernel)) (goodIn_sub (fun _ h => List.mem_cons_of_mem _ (List.mem_append_right _ h)) (by decide +kernel))
set_option maxRecDepth 20000 in
theorem gL_permit_X6_permit : GoodIn wsL_permit (wsV RL 40 RX6 yX6_permit wsX6_permit) := goodIn_app (goodIn_of _ (by decide +kernel)) ggL_permit_X6_permit
theorem dL_permit_0 : decode cL_permit 0 = .ok (.aload_n 2, 1) := by decide +kernel
theorem dL_permit_1 : decode cL_permit 1 = .ok (.iconst 0, 1) := by decide +kernel
theorem dL_permit_2 : decode cL_permit 2 = .ok (.aload_n 0, 1) := by decide +kernel
theorem dL_permit_3 : decode cL_permit 3 = .ok (.iload_n 1, 1) := by decide +kernel
theorem dL_permit_4 : decode cL_permit 4 = .ok (.invokevirtual 40, 3) := by decide +kernel
theorem dL_permit_7 : decode cL_permit 7 = .ok (.i2l, 1) := by decide +kernel
theorem dL_permit_8 : decode cL_permit 8 = .ok (.lastore, 1) := by decide +kernel
theorem dL_permit_9 : decode cL_permit 9 = .ok (.goto 6, 3) := by decide +kernel
theorem dL_permit_12 : decode cL_permit 12 = .ok (.astore_n 3, 1) := by decide +kernel
theorem dL_permit_13 : decode cL_permit 13 = .ok (.iconst 1, 1) := by decide +kernel
theorem dL_permit_14 : decode cL_permit 14 = .ok (.ireturn, 1) := by decide +kernel
theorem dL_permit_15 : decode cL_permit 15 = .ok (.iconst 0, 1) := by decide +kernel
theorem dL_permit_16 : decode cL_permit 16 = .ok (.ireturn, 1) := by decide +kernel
set_option maxRecDepth 20000 in
theorem ggL_denature_X6_denature : GoodIn wsL_denature wsX6_denature := goodIn_ca (goodIn_ca (goodIn_ca (goodIn_r _ [6, 7, 8, 9, 10, 11, 12, 13, 14, 15, 5, 16, 17, 18, 19, 20, 21, 22, 23, 24, 25, 26, 27, 28, 29, 30, 31, 32, 33, 34, 35, 36, 37, 38, 39, 40, 41, 42, 43, 44, 45, 46, 47, 48, 49, 50, 51, 52, 53, 54, 55, 56, 57, 58, 59, 60, 61, 62, 63, 64, 65, 66, 67, 68, 69, 70, 71, 72, 73, 74, 75, 76, 77, 78, 79, 80, 81, 82, 83, 84, 85] (by decide +kernel) (by decide +kernel)) (goodIn_sub (fun _ h => List.mem_cons_of_mem _ (List.mem_append_left _ (List.mem_append_left _ (List.mem_append_right _ h)))) (by decide +kernel))) (goodIn_sub (fun _ h => List.mem_cons_of_mem _ (List.mem_append_left _ (List.mem_append_right _ h))) (by decide +kernel))) (goodIn_sub (fun _ h => List.mem_cons_of_mem _ (List.mem_append_right _ h)) (by decide +kernel))
set_option maxRecDepth 20000 in
theorem gL_denature_X6_denature : GoodIn wsL_denature (wsV RL 44 RX6 yX6_denature wsX6_denature) := goodIn_app (goodIn_of _ (by decide +kernel)) ggL_denature_X6_denature
theorem dL_denature_0 : decode cL_denature 0 = .ok (.aload_n 3, 1) := by decide +kernel
theorem dL_denature_1 : decode cL_denature 1 = .ok (.iconst 0, 1) := by decide +kernel
theorem dL_denature_2 : decode cL_denature 2 = .ok (.aload_n 0, 1) := by decide +kernel
theorem dL_denature_3 : decode cL_denature 3 = .ok (.iload_n 1, 1) := by decide +kernel
theorem dL_denature_4 : decode cL_denature 4 = .ok (.iload_n 2, 1) := by decide +kernel
theorem dL_denature_5 : decode cL_denature 5 = .ok (.invokevirtual 44, 3) := by decide +kernel
theorem dL_denature_8 : decode cL_denature 8 = .ok (.i2l, 1) := by decide +kernel
theorem dL_denature_9 : decode cL_denature 9 = .ok (.lastore, 1) := by decide +kernel
theorem dL_denature_10 : decode cL_denature 10 = .ok (.goto 15, 3) := by decide +kernel
theorem dL_denature_13 : decode cL_denature 13 = .ok (.astore 4, 2) := by decide +kernel
theorem dL_denature_15 : decode cL_denature 15 = .ok (.iconst 1, 1) := by decide +kernel
theorem dL_denature_16 : decode cL_denature 16 = .ok (.ireturn, 1) := by decide +kernel
theorem dL_denature_17 : decode cL_denature 17 = .ok (.astore 4, 2) := by decide +kernel
theorem dL_denature_19 : decode cL_denature 19 = .ok (.iconst 2, 1) := by decide +kernel
theorem dL_denature_20 : decode cL_denature 20 = .ok (.ireturn, 1) := by decide +kernel
theorem dL_denature_21 : decode cL_denature 21 = .ok (.astore 4, 2) := by decide +kernel
theorem dL_denature_23 : decode cL_denature 23 = .ok (.iconst 3, 1) := by decide +kernel
theorem dL_denature_24 : decode cL_denature 24 = .ok (.ireturn, 1) := by decide +kernel
theorem dL_denature_25 : decode cL_denature 25 = .ok (.iconst 0, 1) := by decide +kernel
theorem dL_denature_26 : decode cL_denature 26 = .ok (.ireturn, 1) := by decide +kernel
set_option maxRecDepth 20000 in
theorem ggL_export_X6_export : GoodIn wsL_export wsX6_export := goodIn_ca (goodIn_ca (goodIn_r _ [6, 7, 8, 9, 10, 11, 12, 13, 14, 15, 16, 17, 18, 19, 20, 21, 5, 22, 23, 24, 25, 26, 27, 28, 29, 30, 31, 32, 33, 34, 35, 36, 37, 38, 39, 40, 41, 42, 43, 44, 45, 46, 47, 48, 49, 50, 51, 52, 53, 54, 55, 56, 57, 58, 59, 60, 61, 62, 63, 64, 65, 66, 67, 68, 69, 70, 71, 72, 73, 74, 75, 76, 77, 78, 79] (by decide +kernel) (by decide +kernel)) (goodIn_sub (fun _ h => List.mem_cons_of_mem _ (List.mem_append_left _ (List.mem_append_right _ h))) (by decide +kernel))) (goodIn_sub (fun _ h => List.mem_cons_of_mem _ (List.mem_append_right _ h)) (by decide +kernel))
set_option maxRecDepth 20000 in
theorem gL_export_X6_export : GoodIn wsL_export (wsV RL 47 RX6 yX6_export wsX6_export) := goodIn_app (goodIn_of _ (by decide +kernel)) ggL_export_X6_export
theorem dL_export_0 : decode cL_export 0 = .ok (.aload_n 2, 1) := by decide +kernel
theorem dL_export_1 : decode cL_export 1 = .ok (.iconst 0, 1) := by decide +kernel
theorem dL_export_2 : decode cL_export 2 = .ok (.aload_n 0, 1) := by decide +kernel
theorem dL_export_3 : decode cL_export 3 = .ok (.iload_n 1, 1) := by decide +kernel
theorem dL_export_4 : decode cL_export 4 = .ok (.invokevirtual 47, 3) := by decide +kernel
theorem dL_export_7 : decode cL_export 7 = .ok (.i2l, 1) := by decide +kernel
theorem dL_export_8 : decode cL_export 8 = .ok (.lastore, 1) := by decide +kernel
theorem dL_export_9 : decode cL_export 9 = .ok (.goto 9, 3) := by decide +kernel
theorem dL_export_12 : decode cL_export 12 = .ok (.astore_n 3, 1) := by decide +kernel
theorem dL_export_13 : decode cL_export 13 = .ok (.iconst 1, 1) := by decide +kernel
theorem dL_export_14 : decode cL_export 14 = .ok (.ireturn, 1) := by decide +kernel
theorem dL_export_15 : decode cL_export 15 = .ok (.astore_n 3, 1) := by decide +kernel
theorem dL_export_16 : decode cL_export 16 = .ok (.iconst 2, 1) := by decide +kernel
theorem dL_export_17 : decode cL_export 17 = .ok (.ireturn, 1) := by decide +kernel
theorem dL_export_18 : decode cL_export 18 = .ok (.iconst 0, 1) := by decide +kernel
theorem dL_export_19 : decode cL_export 19 = .ok (.ireturn, 1) := by decide +kernel
set_option maxRecDepth 20000 in
theorem ggL_pay_X6_pay : GoodIn wsL_pay wsX6_pay := goodIn_ca (goodIn_ca (goodIn_r _ [6, 7, 8, 9, 10, 11, 12, 13, 14, 5, 15, 16, 17, 18, 19, 20, 21, 22, 23, 24, 25, 26, 27, 28, 29, 30] (by decide +kernel) (by decide +kernel)) (goodIn_sub (fun _ h => List.mem_cons_of_mem _ (List.mem_append_left _ (List.mem_append_right _ h))) (by decide +kernel))) (goodIn_sub (fun _ h => List.mem_cons_of_mem _ (List.mem_append_right _ h)) (by decide +kernel))
set_option maxRecDepth 20000 in
theorem gL_pay_X6_pay : GoodIn wsL_pay (wsV RL 50 RX6 yX6_pay wsX6_pay) := goodIn_app (goodIn_of _ (by decide +kernel)) ggL_pay_X6_pay
theorem dL_pay_0 : decode cL_pay 0 = .ok (.aload_n 2, 1) := by decide +kernel
theorem dL_pay_1 : decode cL_pay 1 = .ok (.iconst 0, 1) := by decide +kernel
theorem dL_pay_2 : decode cL_pay 2 = .ok (.aload_n 0, 1) := by decide +kernel
theorem dL_pay_3 : decode cL_pay 3 = .ok (.iload_n 1, 1) := by decide +kernel
theorem dL_pay_4 : decode cL_pay 4 = .ok (.invokevirtual 50, 3) := by decide +kernel
theorem dL_pay_7 : decode cL_pay 7 = .ok (.i2l, 1) := by decide +kernel
theorem dL_pay_8 : decode cL_pay 8 = .ok (.lastore, 1) := by decide +kernel
theorem dL_pay_9 : decode cL_pay 9 = .ok (.goto 9, 3) := by decide +kernel
theorem dL_pay_12 : decode cL_pay 12 = .ok (.astore_n 3, 1) := by decide +kernel
theorem dL_pay_13 : decode cL_pay 13 = .ok (.iconst 1, 1) := by decide +kernel
theorem dL_pay_14 : decode cL_pay 14 = .ok (.ireturn, 1) := by decide +kernel
theorem dL_pay_15 : decode cL_pay 15 = .ok (.astore_n 3, 1) := by decide +kernel
theorem dL_pay_16 : decode cL_pay 16 = .ok (.iconst 2, 1) := by decide +kernel
theorem dL_pay_17 : decode cL_pay 17 = .ok (.ireturn, 1) := by decide +kernel
theorem dL_pay_18 : decode cL_pay 18 = .ok (.iconst 0, 1) := by decide +kernel
theorem dL_pay_19 : decode cL_pay 19 = .ok (.ireturn, 1) := by decide +kernel
set_option maxRecDepth 20000 in
theorem ggL_budget_X6_budget : GoodIn wsL_budget wsX6_budget := goodIn_ca (goodIn_ca (goodIn_r _ [6, 7, 8, 9, 10, 11, 12, 13, 14, 15, 16, 17, 18, 5, 19, 20, 21, 22, 23, 24, 25, 26, 27, 28, 29, 30, 31, 32, 33, 34, 35, 36, 37, 38, 39, 40, 41, 42, 43] (by decide +kernel) (by decide +kernel)) (goodIn_sub (fun _ h => List.mem_cons_of_mem _ (List.mem_append_left _ (List.mem_append_right _ h))) (by decide +kernel))) (goodIn_sub (fun _ h => List.mem_cons_of_mem _ (List.mem_append_right _ h)) (by decide +kernel))
set_option maxRecDepth 20000 in
theorem gL_budget_X6_budget : GoodIn wsL_budget (wsV RL 53 RX6 yX6_budget wsX6_budget) := goodIn_app (goodIn_of _ (by decide +kernel)) ggL_budget_X6_budget
theorem dL_budget_0 : decode cL_budget 0 = .ok (.aload_n 0, 1) := by decide +kernel
theorem dL_budget_1 : decode cL_budget 1 = .ok (.iload_n 1, 1) := by decide +kernel
theorem dL_budget_2 : decode cL_budget 2 = .ok (.iload_n 2, 1) := by decide +kernel
theorem dL_budget_3 : decode cL_budget 3 = .ok (.iload_n 3, 1) := by decide +kernel
theorem dL_budget_4 : decode cL_budget 4 = .ok (.invokevirtual 53, 3) := by decide +kernel
theorem dL_budget_7 : decode cL_budget 7 = .ok (.goto 11, 3) := by decide +kernel
theorem dL_budget_10 : decode cL_budget 10 = .ok (.astore 4, 2) := by decide +kernel
theorem dL_budget_12 : decode cL_budget 12 = .ok (.iconst 1, 1) := by decide +kernel
theorem dL_budget_13 : decode cL_budget 13 = .ok (.ireturn, 1) := by decide +kernel
theorem dL_budget_14 : decode cL_budget 14 = .ok (.astore 4, 2) := by decide +kernel
theorem dL_budget_16 : decode cL_budget 16 = .ok (.iconst 2, 1) := by decide +kernel
theorem dL_budget_17 : decode cL_budget 17 = .ok (.ireturn, 1) := by decide +kernel
theorem dL_budget_18 : decode cL_budget 18 = .ok (.iconst 0, 1) := by decide +kernel
theorem dL_budget_19 : decode cL_budget 19 = .ok (.ireturn, 1) := by decide +kernel
set_option maxRecDepth 20000 in
theorem ggL_guarantee_X6_guarantee : GoodIn wsL_guarantee wsX6_guarantee := goodIn_ca (goodIn_ca (goodIn_r _ [6, 7, 8, 9, 10, 11, 12, 13, 14, 15, 5, 16, 17, 18, 19, 20, 21, 22, 23, 24, 25, 26, 27, 28, 29, 30, 31, 32, 33, 34, 35, 36, 37, 38, 39, 40, 41, 42, 43, 44, 45, 46, 47, 48, 49, 50, 51, 52, 53, 54, 55, 56, 57, 58, 59, 60, 61, 62, 63, 64, 65, 66, 67, 68, 69, 70, 71, 72, 73, 74, 75, 76] (by decide +kernel) (by decide +kernel)) (goodIn_sub (fun _ h => List.mem_cons_of_mem _ (List.mem_append_left _ (List.mem_append_right _ h))) (by decide +kernel))) (goodIn_sub (fun _ h => List.mem_cons_of_mem _ (List.mem_append_right _ h)) (by decide +kernel))
set_option maxRecDepth 20000 in
theorem gL_guarantee_X6_guarantee : GoodIn wsL_guarantee (wsV RL 57 RX6 yX6_guarantee wsX6_guarantee) := goodIn_app (goodIn_of _ (by decide +kernel)) ggL_guarantee_X6_guarantee
theorem dL_guarantee_0 : decode cL_guarantee 0 = .ok (.aload_n 2, 1) := by decide +kernel
theorem dL_guarantee_1 : decode cL_guarantee 1 = .ok (.iconst 0, 1) := by decide +kernel
theorem dL_guarantee_2 : decode cL_guarantee 2 = .ok (.aload_n 0, 1) := by decide +kernel
theorem dL_guarantee_3 : decode cL_guarantee 3 = .ok (.iload_n 1, 1) := by decide +kernel
theorem dL_guarantee_4 : decode cL_guarantee 4 = .ok (.invokevirtual 57, 3) := by decide +kernel
theorem dL_guarantee_7 : decode cL_guarantee 7 = .ok (.i2l, 1) := by decide +kernel
theorem dL_guarantee_8 : decode cL_guarantee 8 = .ok (.lastore, 1) := by decide +kernel
theorem dL_guarantee_9 : decode cL_guarantee 9 = .ok (.goto 9, 3) := by decide +kernel
theorem dL_guarantee_12 : decode cL_guarantee 12 = .ok (.astore_n 3, 1) := by decide +kernel
theorem dL_guarantee_13 : decode cL_guarantee 13 = .ok (.iconst 1, 1) := by decide +kernel
theorem dL_guarantee_14 : decode cL_guarantee 14 = .ok (.ireturn, 1) := by decide +kernel
theorem dL_guarantee_15 : decode cL_guarantee 15 = .ok (.astore_n 3, 1) := by decide +kernel
theorem dL_guarantee_16 : decode cL_guarantee 16 = .ok (.iconst 2, 1) := by decide +kernel
theorem dL_guarantee_17 : decode cL_guarantee 17 = .ok (.ireturn, 1) := by decide +kernel
theorem dL_guarantee_18 : decode cL_guarantee 18 = .ok (.iconst 0, 1) := by decide +kernel
theorem dL_guarantee_19 : decode cL_guarantee 19 = .ok (.ireturn, 1) := by decide +kernel
set_option maxRecDepth 20000 in
theorem ggL_ship_X6_ship : GoodIn wsL_ship wsX6_ship := goodIn_ca (goodIn_ca (goodIn_ca (goodIn_r _ [6, 7, 8, 9, 10, 11, 12, 13, 14, 15, 16, 17, 18, 19, 20, 5, 21, 22, 23, 24, 25, 26, 27, 28, 29, 30, 31, 32, 33, 34, 35, 36, 37, 38, 39, 40, 41, 42, 43, 44, 45, 46, 47, 48, 49, 50, 51, 52, 53, 54, 55, 56, 57, 58, 59, 60, 61, 62, 63, 64, 65, 66, 67, 68, 69, 70, 71, 72, 73, 74, 75, 76, 77, 78, 79, 80, 81, 82, 83, 84, 85, 86, 87, 88, 89, 90, 91, 92, 93, 94, 95, 96, 97, 98, 99, 100, 101, 102, 103, 104, 105, 106, 107, 108, 109, 110, 111, 112, 113, 114, 115, 116, 117, 118, 119, 120, 121, 122, 123, 124, 125, 126, 127, 128, 129, 130, 131, 132, 133, 134, 135, 136, 137, 138, 139, 140, 141, 142, 143, 144, 145, 146, 147, 148, 149, 150, 151, 152, 153, 154, 155, 156, 157, 158, 159, 160, 161, 162, 163, 164, 165, 166, 167, 168, 169, 170, 171] (by decide +kernel) (by decide +kernel)) (goodIn_sub (fun _ h => List.mem_cons_of_mem _ (List.mem_append_left _ (List.mem_append_left _ (List.mem_append_right _ h)))) (by decide +kernel))) (goodIn_sub (fun _ h => List.mem_cons_of_mem _ (List.mem_append_left _ (List.mem_append_right _ h))) (by decide +kernel))) (goodIn_sub (fun _ h => List.mem_cons_of_mem _ (List.mem_append_right _ h)) (by decide +kernel))
set_option maxRecDepth 20000 in
theorem gL_ship_X6_ship : GoodIn wsL_ship (wsV RL 60 RX6 yX6_ship wsX6_ship) := goodIn_app (goodIn_of _ (by decide +kernel)) ggL_ship_X6_ship
theorem dL_ship_0 : decode cL_ship 0 = .ok (.aload 5, 2) := by decide +kernel
theorem dL_ship_2 : decode cL_ship 2 = .ok (.iconst 0, 1) := by decide +kernel
theorem dL_ship_3 : decode cL_ship 3 = .ok (.aload_n 0, 1) := by decide +kernel
theorem dL_ship_4 : decode cL_ship 4 = .ok (.iload_n 1, 1) := by decide +kernel
theorem dL_ship_5 : decode cL_ship 5 = .ok (.iload_n 2, 1) := by decide +kernel
theorem dL_ship_6 : decode cL_ship 6 = .ok (.iload_n 3, 1) := by decide +kernel
theorem dL_ship_7 : decode cL_ship 7 = .ok (.iload 4, 2) := by decide +kernel
theorem dL_ship_9 : decode cL_ship 9 = .ok (.invokevirtual 60, 3) := by decide +kernel
theorem dL_ship_12 : decode cL_ship 12 = .ok (.i2l, 1) := by decide +kernel
theorem dL_ship_13 : decode cL_ship 13 = .ok (.lastore, 1) := by decide +kernel
theorem dL_ship_14 : decode cL_ship 14 = .ok (.goto 15, 3) := by decide +kernel
theorem dL_ship_17 : decode cL_ship 17 = .ok (.astore 6, 2) := by decide +kernel
theorem dL_ship_19 : decode cL_ship 19 = .ok (.iconst 1, 1) := by decide +kernel
theorem dL_ship_20 : decode cL_ship 20 = .ok (.ireturn, 1) := by decide +kernel
theorem dL_ship_21 : decode cL_ship 21 = .ok (.astore 6, 2) := by decide +kernel
theorem dL_ship_23 : decode cL_ship 23 = .ok (.iconst 2, 1) := by decide +kernel
theorem dL_ship_24 : decode cL_ship 24 = .ok (.ireturn, 1) := by decide +kernel
theorem dL_ship_25 : decode cL_ship 25 = .ok (.astore 6, 2) := by decide +kernel
theorem dL_ship_27 : decode cL_ship 27 = .ok (.iconst 3, 1) := by decide +kernel
theorem dL_ship_28 : decode cL_ship 28 = .ok (.ireturn, 1) := by decide +kernel
theorem dL_ship_29 : decode cL_ship 29 = .ok (.iconst 0, 1) := by decide +kernel
theorem dL_ship_30 : decode cL_ship 30 = .ok (.ireturn, 1) := by decide +kernel
set_option maxRecDepth 20000 in
theorem ggL_arrive_X6_arrive : GoodIn wsL_arrive wsX6_arrive := goodIn_ca (goodIn_ca (goodIn_ca (goodIn_r _ [6, 7, 8, 9, 10, 11, 12, 13, 14, 5, 15, 16, 17, 18, 19, 20, 21, 22, 23, 24, 25, 26, 27, 28, 29, 30, 31, 32, 33, 34, 35, 36, 37, 38, 39, 40, 41, 42, 43, 44, 45, 46, 47, 48, 49, 50, 51, 52, 53, 54, 55, 56, 57, 58, 59, 60, 61, 62, 63, 64, 65, 66, 67, 68, 69, 70, 71, 72, 73, 74, 75, 76, 77, 78, 79, 80, 81, 82, 83, 84, 85, 86, 87, 88, 89, 90, 91, 92, 93, 94, 95, 96, 97, 98, 99, 100, 101, 102, 103, 104, 105, 106, 107, 108, 109, 110, 111, 112, 113, 114, 115] (by decide +kernel) (by decide +kernel)) (goodIn_sub (fun _ h => List.mem_cons_of_mem _ (List.mem_append_left _ (List.mem_append_left _ (List.mem_append_right _ h)))) (by decide +kernel))) (goodIn_sub (fun _ h => List.mem_cons_of_mem _ (List.mem_append_left _ (List.mem_append_right _ h))) (by decide +kernel))) (goodIn_sub (fun _ h => List.mem_cons_of_mem _ (List.mem_append_right _ h)) (by decide +kernel))
set_option maxRecDepth 20000 in
theorem gL_arrive_X6_arrive : GoodIn wsL_arrive (wsV RL 64 RX6 yX6_arrive wsX6_arrive) := goodIn_app (goodIn_of _ (by decide +kernel)) ggL_arrive_X6_arrive
theorem dL_arrive_0 : decode cL_arrive 0 = .ok (.aload_n 3, 1) := by decide +kernel
theorem dL_arrive_1 : decode cL_arrive 1 = .ok (.iconst 0, 1) := by decide +kernel
theorem dL_arrive_2 : decode cL_arrive 2 = .ok (.aload_n 0, 1) := by decide +kernel
theorem dL_arrive_3 : decode cL_arrive 3 = .ok (.iload_n 1, 1) := by decide +kernel
theorem dL_arrive_4 : decode cL_arrive 4 = .ok (.iload_n 2, 1) := by decide +kernel
theorem dL_arrive_5 : decode cL_arrive 5 = .ok (.invokevirtual 64, 3) := by decide +kernel
theorem dL_arrive_8 : decode cL_arrive 8 = .ok (.i2l, 1) := by decide +kernel
theorem dL_arrive_9 : decode cL_arrive 9 = .ok (.lastore, 1) := by decide +kernel
theorem dL_arrive_10 : decode cL_arrive 10 = .ok (.goto 15, 3) := by decide +kernel
theorem dL_arrive_13 : decode cL_arrive 13 = .ok (.astore 4, 2) := by decide +kernel
theorem dL_arrive_15 : decode cL_arrive 15 = .ok (.iconst 1, 1) := by decide +kernel
theorem dL_arrive_16 : decode cL_arrive 16 = .ok (.ireturn, 1) := by decide +kernel
theorem dL_arrive_17 : decode cL_arrive 17 = .ok (.astore 4, 2) := by decide +kernel
theorem dL_arrive_19 : decode cL_arrive 19 = .ok (.iconst 2, 1) := by decide +kernel
theorem dL_arrive_20 : decode cL_arrive 20 = .ok (.ireturn, 1) := by decide +kernel
theorem dL_arrive_21 : decode cL_arrive 21 = .ok (.astore 4, 2) := by decide +kernel
theorem dL_arrive_23 : decode cL_arrive 23 = .ok (.iconst 3, 1) := by decide +kernel
theorem dL_arrive_24 : decode cL_arrive 24 = .ok (.ireturn, 1) := by decide +kernel
theorem dL_arrive_25 : decode cL_arrive 25 = .ok (.iconst 0, 1) := by decide +kernel
theorem dL_arrive_26 : decode cL_arrive 26 = .ok (.ireturn, 1) := by decide +kernel
set_option maxRecDepth 20000 in
theorem ggL_pass_X6_pass : GoodIn wsL_pass wsX6_pass := goodIn_ca (goodIn_ca (goodIn_r _ [6, 7, 8, 9, 10, 11, 12, 13, 14, 5, 15, 16, 17, 18, 19, 20, 21, 22, 23, 24, 25, 26, 27, 28, 29, 30, 31, 32, 33, 34, 35, 36, 37, 38, 39, 40, 41, 42, 43, 44, 45, 46, 47, 48, 49, 50, 51, 52, 53, 54, 55, 56, 57, 58, 59, 60, 61, 62, 63, 64, 65, 66, 67, 68, 69, 70, 71, 72, 73, 74, 75, 76, 77, 78, 79, 80, 81, 82, 83, 84, 85, 86, 87, 88, 89, 90, 91, 92, 93, 94, 95, 96, 97, 98, 99, 100, 101, 102, 103, 104, 105, 106, 107, 108, 109, 110, 111, 112, 113, 114, 115, 116, 117, 118, 119, 120, 121, 122, 123, 124, 125, 126, 127, 128, 129, 130, 131] (by decide +kernel) (by decide +kernel)) (goodIn_sub (fun _ h => List.mem_cons_of_mem _ (List.mem_append_left _ (List.mem_append_right _ h))) (by decide +kernel))) (goodIn_sub (fun _ h => List.mem_cons_of_mem _ (List.mem_append_right _ h)) (by decide +kernel))
set_option maxRecDepth 20000 in
theorem gL_pass_X6_pass : GoodIn wsL_pass (wsV RL 67 RX6 yX6_pass wsX6_pass) := goodIn_app (goodIn_of _ (by decide +kernel)) ggL_pass_X6_pass
theorem dL_pass_0 : decode cL_pass 0 = .ok (.aload_n 2, 1) := by decide +kernel
theorem dL_pass_1 : decode cL_pass 1 = .ok (.iconst 0, 1) := by decide +kernel
theorem dL_pass_2 : decode cL_pass 2 = .ok (.aload_n 0, 1) := by decide +kernel
theorem dL_pass_3 : decode cL_pass 3 = .ok (.iload_n 1, 1) := by decide +kernel
theorem dL_pass_4 : decode cL_pass 4 = .ok (.invokevirtual 67, 3) := by decide +kernel
theorem dL_pass_7 : decode cL_pass 7 = .ok (.i2l, 1) := by decide +kernel
theorem dL_pass_8 : decode cL_pass 8 = .ok (.lastore, 1) := by decide +kernel
theorem dL_pass_9 : decode cL_pass 9 = .ok (.goto 9, 3) := by decide +kernel
theorem dL_pass_12 : decode cL_pass 12 = .ok (.astore_n 3, 1) := by decide +kernel
theorem dL_pass_13 : decode cL_pass 13 = .ok (.iconst 1, 1) := by decide +kernel
theorem dL_pass_14 : decode cL_pass 14 = .ok (.ireturn, 1) := by decide +kernel
theorem dL_pass_15 : decode cL_pass 15 = .ok (.astore_n 3, 1) := by decide +kernel
theorem dL_pass_16 : decode cL_pass 16 = .ok (.iconst 2, 1) := by decide +kernel
theorem dL_pass_17 : decode cL_pass 17 = .ok (.ireturn, 1) := by decide +kernel
theorem dL_pass_18 : decode cL_pass 18 = .ok (.iconst 0, 1) := by decide +kernel
theorem dL_pass_19 : decode cL_pass 19 = .ok (.ireturn, 1) := by decide +kernel
set_option maxRecDepth 20000 in
theorem ggL_ofVessel_X6_ofVessel : GoodIn wsL_ofVessel wsX6_ofVessel := goodIn_ca (goodIn_r _ [6, 7, 8, 9, 10, 11, 5, 12, 13, 14, 15, 16, 17, 18, 19, 20, 21, 22, 23, 24, 25, 26, 27, 28, 29, 30, 31, 32, 33, 34, 35, 36, 37, 38, 39, 40, 41, 42, 43, 44, 45, 46, 47, 48, 49, 50, 51, 52, 53, 54, 55, 56, 57, 58, 59] (by decide +kernel) (by decide +kernel)) (goodIn_sub (fun _ h => List.mem_cons_of_mem _ (List.mem_append_right _ h)) (by decide +kernel))
set_option maxRecDepth 20000 in
theorem gL_ofVessel_X6_ofVessel : GoodIn wsL_ofVessel (wsV RL 70 RX6 yX6_ofVessel wsX6_ofVessel) := goodIn_app (goodIn_of _ (by decide +kernel)) ggL_ofVessel_X6_ofVessel
theorem dL_ofVessel_0 : decode cL_ofVessel 0 = .ok (.aload_n 3, 1) := by decide +kernel
theorem dL_ofVessel_1 : decode cL_ofVessel 1 = .ok (.iconst 0, 1) := by decide +kernel
theorem dL_ofVessel_2 : decode cL_ofVessel 2 = .ok (.aload_n 0, 1) := by decide +kernel
theorem dL_ofVessel_3 : decode cL_ofVessel 3 = .ok (.iload_n 1, 1) := by decide +kernel
theorem dL_ofVessel_4 : decode cL_ofVessel 4 = .ok (.iload_n 2, 1) := by decide +kernel
theorem dL_ofVessel_5 : decode cL_ofVessel 5 = .ok (.invokevirtual 70, 3) := by decide +kernel
theorem dL_ofVessel_8 : decode cL_ofVessel 8 = .ok (.i2l, 1) := by decide +kernel
theorem dL_ofVessel_9 : decode cL_ofVessel 9 = .ok (.lastore, 1) := by decide +kernel
theorem dL_ofVessel_10 : decode cL_ofVessel 10 = .ok (.goto 7, 3) := by decide +kernel
theorem dL_ofVessel_13 : decode cL_ofVessel 13 = .ok (.astore 4, 2) := by decide +kernel
theorem dL_ofVessel_15 : decode cL_ofVessel 15 = .ok (.iconst 1, 1) := by decide +kernel
theorem dL_ofVessel_16 : decode cL_ofVessel 16 = .ok (.ireturn, 1) := by decide +kernel
theorem dL_ofVessel_17 : decode cL_ofVessel 17 = .ok (.iconst 0, 1) := by decide +kernel
theorem dL_ofVessel_18 : decode cL_ofVessel 18 = .ok (.ireturn, 1) := by decide +kernel
set_option maxRecDepth 20000 in
theorem ggL_dropsAnew_X6_dropsAnew : GoodIn wsL_dropsAnew wsX6_dropsAnew := goodIn_ca (goodIn_r _ [6, 7, 8, 9, 5, 10, 11, 12, 13, 14, 15, 16, 17, 18, 19, 20, 21, 22, 23, 24, 25, 26, 27, 28, 29, 30, 31, 32, 33, 34, 35, 36, 37, 38, 39, 40, 41, 42, 43, 44, 45, 46, 47, 48, 49, 50, 51, 52, 53, 54, 55, 56] (by decide +kernel) (by decide +kernel)) (goodIn_sub (fun _ h => List.mem_cons_of_mem _ (List.mem_append_right _ h)) (by decide +kernel))
set_option maxRecDepth 20000 in
theorem gL_dropsAnew_X6_dropsAnew : GoodIn wsL_dropsAnew (wsV RL 73 RX6 yX6_dropsAnew wsX6_dropsAnew) := goodIn_app (goodIn_of _ (by decide +kernel)) ggL_dropsAnew_X6_dropsAnew
theorem dL_dropsAnew_0 : decode cL_dropsAnew 0 = .ok (.aload_n 2, 1) := by decide +kernel
theorem dL_dropsAnew_1 : decode cL_dropsAnew 1 = .ok (.iconst 0, 1) := by decide +kernel
theorem dL_dropsAnew_2 : decode cL_dropsAnew 2 = .ok (.aload_n 0, 1) := by decide +kernel
theorem dL_dropsAnew_3 : decode cL_dropsAnew 3 = .ok (.iload_n 1, 1) := by decide +kernel
theorem dL_dropsAnew_4 : decode cL_dropsAnew 4 = .ok (.invokevirtual 73, 3) := by decide +kernel
theorem dL_dropsAnew_7 : decode cL_dropsAnew 7 = .ok (.i2l, 1) := by decide +kernel
theorem dL_dropsAnew_8 : decode cL_dropsAnew 8 = .ok (.lastore, 1) := by decide +kernel
theorem dL_dropsAnew_9 : decode cL_dropsAnew 9 = .ok (.goto 6, 3) := by decide +kernel
theorem dL_dropsAnew_12 : decode cL_dropsAnew 12 = .ok (.astore_n 3, 1) := by decide +kernel
theorem dL_dropsAnew_13 : decode cL_dropsAnew 13 = .ok (.iconst 1, 1) := by decide +kernel
theorem dL_dropsAnew_14 : decode cL_dropsAnew 14 = .ok (.ireturn, 1) := by decide +kernel
theorem dL_dropsAnew_15 : decode cL_dropsAnew 15 = .ok (.iconst 0, 1) := by decide +kernel
theorem dL_dropsAnew_16 : decode cL_dropsAnew 16 = .ok (.ireturn, 1) := by decide +kernel
set_option maxRecDepth 20000 in
theorem ggL_ofMovement_X6_ofMovement : GoodIn wsL_ofMovement wsX6_ofMovement := goodIn_ca (goodIn_r _ [6, 7, 8, 9, 10, 11, 5, 12, 13, 14, 15, 16, 17, 18, 19, 20, 21, 22, 23, 24, 25, 26, 27, 28, 29, 30, 31, 32, 33, 34, 35, 36, 37, 38, 39, 40, 41, 42, 43, 44, 45, 46, 47, 48, 49, 50, 51, 52, 53, 54, 55, 56, 57] (by decide +kernel) (by decide +kernel)) (goodIn_sub (fun _ h => List.mem_cons_of_mem _ (List.mem_append_right _ h)) (by decide +kernel))
set_option maxRecDepth 20000 in
theorem gL_ofMovement_X6_ofMovement : GoodIn wsL_ofMovement (wsV RL 76 RX6 yX6_ofMovement wsX6_ofMovement) := goodIn_app (goodIn_of _ (by decide +kernel)) ggL_ofMovement_X6_ofMovement
theorem dL_ofMovement_0 : decode cL_ofMovement 0 = .ok (.aload_n 3, 1) := by decide +kernel
theorem dL_ofMovement_1 : decode cL_ofMovement 1 = .ok (.iconst 0, 1) := by decide +kernel
theorem dL_ofMovement_2 : decode cL_ofMovement 2 = .ok (.aload_n 0, 1) := by decide +kernel
theorem dL_ofMovement_3 : decode cL_ofMovement 3 = .ok (.iload_n 1, 1) := by decide +kernel
theorem dL_ofMovement_4 : decode cL_ofMovement 4 = .ok (.iload_n 2, 1) := by decide +kernel
theorem dL_ofMovement_5 : decode cL_ofMovement 5 = .ok (.invokevirtual 76, 3) := by decide +kernel
theorem dL_ofMovement_8 : decode cL_ofMovement 8 = .ok (.i2l, 1) := by decide +kernel
theorem dL_ofMovement_9 : decode cL_ofMovement 9 = .ok (.lastore, 1) := by decide +kernel
theorem dL_ofMovement_10 : decode cL_ofMovement 10 = .ok (.goto 7, 3) := by decide +kernel
theorem dL_ofMovement_13 : decode cL_ofMovement 13 = .ok (.astore 4, 2) := by decide +kernel
theorem dL_ofMovement_15 : decode cL_ofMovement 15 = .ok (.iconst 1, 1) := by decide +kernel
theorem dL_ofMovement_16 : decode cL_ofMovement 16 = .ok (.ireturn, 1) := by decide +kernel
theorem dL_ofMovement_17 : decode cL_ofMovement 17 = .ok (.iconst 0, 1) := by decide +kernel
theorem dL_ofMovement_18 : decode cL_ofMovement 18 = .ok (.ireturn, 1) := by decide +kernel
set_option maxRecDepth 20000 in
theorem ggL_ledger_X6_ledger : GoodIn wsL_ledger wsX6_ledger := goodIn_ca (goodIn_r _ [6, 7, 8, 9, 10, 11, 12, 5, 13, 14, 15, 16, 17, 18, 19, 20, 21, 22, 23, 24, 25, 26, 27, 28, 29, 30, 31, 32, 33, 34, 35, 36, 37, 38, 39, 40, 41, 42, 43, 44, 45, 46, 47, 48, 49, 50, 51, 52, 53, 54, 55, 56, 57, 58, 59, 60, 61, 62, 63, 64, 65, 66, 67, 68, 69, 70, 71, 72, 73, 74, 75, 76, 77, 78, 79, 80, 81] (by decide +kernel) (by decide +kernel)) (goodIn_sub (fun _ h => List.mem_cons_of_mem _ (List.mem_append_right _ h)) (by decide +kernel))
set_option maxRecDepth 20000 in
theorem gL_ledger_X6_ledger : GoodIn wsL_ledger (wsV RL 79 RX6 yX6_ledger wsX6_ledger) := goodIn_app (goodIn_of _ (by decide +kernel)) ggL_ledger_X6_ledger
theorem dL_ledger_0 : decode cL_ledger 0 = .ok (.aload_n 2, 1) := by decide +kernel
theorem dL_ledger_1 : decode cL_ledger 1 = .ok (.iconst 0, 1) := by decide +kernel
theorem dL_ledger_2 : decode cL_ledger 2 = .ok (.aload_n 0, 1) := by decide +kernel
theorem dL_ledger_3 : decode cL_ledger 3 = .ok (.iload_n 1, 1) := by decide +kernel
theorem dL_ledger_4 : decode cL_ledger 4 = .ok (.invokevirtual 79, 3) := by decide +kernel
theorem dL_ledger_7 : decode cL_ledger 7 = .ok (.i2l, 1) := by decide +kernel
theorem dL_ledger_8 : decode cL_ledger 8 = .ok (.lastore, 1) := by decide +kernel
theorem dL_ledger_9 : decode cL_ledger 9 = .ok (.goto 6, 3) := by decide +kernel
theorem dL_ledger_12 : decode cL_ledger 12 = .ok (.astore_n 3, 1) := by decide +kernel
theorem dL_ledger_13 : decode cL_ledger 13 = .ok (.iconst 1, 1) := by decide +kernel
theorem dL_ledger_14 : decode cL_ledger 14 = .ok (.ireturn, 1) := by decide +kernel
theorem dL_ledger_15 : decode cL_ledger 15 = .ok (.iconst 0, 1) := by decide +kernel
theorem dL_ledger_16 : decode cL_ledger 16 = .ok (.ireturn, 1) := by decide +kernel
set_option maxRecDepth 20000 in
theorem ggL_duty_X6_duty : GoodIn wsL_duty wsX6_duty := goodIn_ca (goodIn_r _ [6, 7, 8, 9, 10, 11, 12, 13, 14, 15, 5, 16, 17, 18, 19, 20, 21, 22, 23, 24, 25, 26, 27, 28, 29, 30, 31, 32, 33, 34, 35, 36, 37, 38, 39, 40, 41, 42, 43, 44, 45, 46, 47, 48, 49, 50, 51, 52, 53, 54, 55, 56, 57, 58, 59, 60, 61, 62, 63, 64, 65, 66, 67, 68, 69, 70, 71, 72, 73, 74, 75] (by decide +kernel) (by decide +kernel)) (goodIn_sub (fun _ h => List.mem_cons_of_mem _ (List.mem_append_right _ h)) (by decide +kernel))
set_option maxRecDepth 20000 in
theorem gL_duty_X6_duty : GoodIn wsL_duty (wsV RL 82 RX6 yX6_duty wsX6_duty) := goodIn_app (goodIn_of _ (by decide +kernel)) ggL_duty_X6_duty
theorem dL_duty_0 : decode cL_duty 0 = .ok (.aload_n 2, 1) := by decide +kernel
theorem dL_duty_1 : decode cL_duty 1 = .ok (.iconst 0, 1) := by decide +kernel
theorem dL_duty_2 : decode cL_duty 2 = .ok (.aload_n 0, 1) := by decide +kernel
theorem dL_duty_3 : decode cL_duty 3 = .ok (.iload_n 1, 1) := by decide +kernel
theorem dL_duty_4 : decode cL_duty 4 = .ok (.invokevirtual 82, 3) := by decide +kernel
theorem dL_duty_7 : decode cL_duty 7 = .ok (.i2l, 1) := by decide +kernel
theorem dL_duty_8 : decode cL_duty 8 = .ok (.lastore, 1) := by decide +kernel
theorem dL_duty_9 : decode cL_duty 9 = .ok (.goto 6, 3) := by decide +kernel
theorem dL_duty_12 : decode cL_duty 12 = .ok (.astore_n 3, 1) := by decide +kernel
theorem dL_duty_13 : decode cL_duty 13 = .ok (.iconst 1, 1) := by decide +kernel
theorem dL_duty_14 : decode cL_duty 14 = .ok (.ireturn, 1) := by decide +kernel
theorem dL_duty_15 : decode cL_duty 15 = .ok (.iconst 0, 1) := by decide +kernel
theorem dL_duty_16 : decode cL_duty 16 = .ok (.ireturn, 1) := by decide +kernel
end
section
/-! ===== state of the reference: the scalars by their slots, the rows by their slots ===== -/
abbrev Sg : Type := (Nat → Int32) × (Nat → Nat → Int32)
def zs (σ : Sg) (k : Nat) (v : Int32) : Sg := (upd σ.1 k v, σ.2)
def bs (σ : Sg) (k i : Nat) (v : Int32) : Sg := (σ.1, fun j => if j = k then upd (σ.2 k) i v else σ.2 j)
abbrev ix (i : Int32) : Nat := i.toNatClampNeg
def M_fs (as : Nat → Nat) (th : Int32) (σ : Sg) : List Value := [.int th, .int (σ.1 1), .int (σ.1 2), .ref (as 3), .ref (as 4), .ref (as 5), .ref (as 6), .ref (as 7), .int (σ.1 8), .int (σ.1 9), .ref (as 10), .int (σ.1 11), .int (σ.1 12), .int (σ.1 13), .int (σ.1 14), .int (σ.1 15), .int (σ.1 16), .int (σ.1 17), .int (σ.1 18), .ref (as 19), .ref (as 20), .int (σ.1 21), .int (σ.1 22), .ref (as 23), .ref (as 24), .ref (as 25), .ref (as 26), .ref (as 27)]
def M_W (cI : ClassId) (m0 : Nat) (as : Nat → Nat) (th : Int32) (σ : Sg) : va_W := [(m0, .inr (8, M_fs as th σ)), (as 3, .inl (cI, 10, .inl (σ.2 3))), (as 4, .inl (cI, 10, .inl (σ.2 4))), (as 5, .inl (cI, 10, .inl (σ.2 5))), (as 6, .inl (cI, 10, .inl (σ.2 6))), (as 7, .inl (cI, 4, .inl (σ.2 7))), (as 10, .inl (cI, 8, .inl (σ.2 10))), (as 19, .inl (cI, 100, .inl (σ.2 19))), (as 20, .inl (cI, 100, .inl (σ.2 20))), (as 23, .inl (cI, 30, .inl (σ.2 23))), (as 24, .inl (cI, 30, .inl (σ.2 24))), (as 25, .inl (cI, 30, .inl (σ.2 25))), (as 26, .inl (cI, 30, .inl (σ.2 26))), (as 27, .inl (cI, 30, .inl (σ.2 27)))]
/-- what a walk of a method stands on -/
def Cx (own : String) (p : Program) (s : State) (m : MethodId) (args : Array Value) (meth : Method) (c : Code) (cc : ByteArray) (nL : Nat) (Ts : List Cond) (ret : Option FieldType) : Prop :=
  p.tables.exec = Jvm.exec ∧ c.code = cc ∧ c.maxLocals = nL ∧ s.vm.findClass own = some m.cls ∧ (∀ w ∈ Ts, w.before args s = true) ∧ meth.sig.returnType = ret ∧ meth.locks = false
/-- the heap holds a world -/
def Hp (D : va_G) (A : Nat → Prop) (s : State) (ws : va_W) (H : Heap) (locs : List Loc) : Prop := va_P D vwCl ws H ∧ va_D A ws ∧ va_S A s.heap H locs ∧ ∀ q, s.heap.size ≤ q → A q
def Pic (D : va_G) (tys : List (ClassId × FieldType)) (A : Nat → Prop) (ws : va_W) (t : State) : Prop := va_P D vwCl ws t.heap ∧ va_K D vwCl tys t ∧ va_D A ws
def PreW (D : va_G) (tys : List (ClassId × FieldType)) (sz : Nat) (ws : va_W) (U : State) : Prop := U.heap.size = sz ∧ va_P D vwCl ws U.heap ∧ va_K D vwCl tys U ∧ va_D (fun _ => True) ws
/-- a callee's code, its place among its words, its arguments -/
def Fn (y : MethodName) (ws : List Cond) (bytes : ByteArray) (maxL : Nat) (ret : Option FieldType) (n : Nat) (rm : Room) (mc ms : Nat) : Prop :=
  (∃ ws', ws = Cond.code y bytes maxL ret :: ws') ∧ rm.cells = mc ∧ rm.slots = ms ∧ (y.cls ≠ "java/lang/invoke/MethodHandle" ∧ y.cls ≠ "java/lang/invoke/VarHandle" ∧ (parseMethodDescriptor y.desc).map (fun d => d.parameters.length) = some n)
theorem va_A_in {A : Nat → Prop} {ws : va_W} {H0 H : Heap} {locs : List Loc} (hD : va_D A ws) (hS : va_S A H0 H locs) (hA : ∀ q, H0.size ≤ q → A q) : ∀ q, va_A ws H.size q → A q := by
  intro q h
  rcases h with ⟨k, e, hk⟩ | h
  · exact hD.2 k _ hk
  · exact hA q (Nat.le_trans hS.1 h)
theorem preW_blind {D : va_G} {tys : List (ClassId × FieldType)} {sz : Nat} {ws : va_W} {As : List Value} : FrameBlind (va_Pc As (PreW D tys sz ws)) := fun a U g mk q => by
  obtain ⟨q0, q1, qP, qK, qD⟩ := q
  exact ⟨q0, q1, qP, va_K.moved (u := U) (U := U.calling g mk a) (Vm.Alike.refl U.vm) qK, qD⟩
section CR
variable {p : Program} {l : Launch} {e : Env} {R : Room} {s : State} {m : MethodId} {args : Array Value} {below : List Frame} {meth : Method} {c : Code} {H : Heap} {locs : List Loc} {cells slots : Nat} {Q : State → Prop} {cc : ByteArray} {pc : Nat} {ls : Array Slot} {rest st0 : List Value} {Ts : List Cond} {nL : Nat} {D : va_G} {A : Nat → Prop} {ret : Option FieldType} {own : String} {tys : List (ClassId × FieldType)}
theorem Cx.fix (C : Cx own p s m args meth c cc nL Ts ret) : CallFix p m c cc nL s args Ts own := ⟨C.1, C.2.1, C.2.2.1, C.2.2.2.1, C.2.2.2.2.1⟩
/-! a static method that touches nothing: its answer is r -/
def S_Met (l : Launch) (y : MethodName) (ws : List Cond) (rm : Room) (As : List Value) (r : Int32) : Prop :=
  Met l y ws rm (va_Pc As (fun _ => True)) (vp_Si (fun x => x = r)) 0 0 (fun _ => False)
theorem S_of {y : MethodName} {ws : List Cond} {rm : Room} {maxL n : Nat} {bytes : ByteArray} {As : List Value} {r : Int32} (own : String) (hy : plainName y.cls = true) (hf : Fn y ws bytes maxL ret n rm 0 0) (hcls : y.cls = own) (hlen : (lg_sl As).length ≤ maxL)
    (body : ∀ (p : Program) (e : Env) (s : State) (m : MethodId) (args : Array Value) (below : List Frame) (meth : Method) (c : Code), Cx own p s m args meth c bytes maxL ws ret → ∀ ls : Array Slot, lv_has ls maxL (lv_args 0 As) →
      W p l e rm s m args below meth c s.heap [] 0 0 (MQ below (vp_Si (fun x => x = r)) args s 0 0 (fun _ => False)) (F0 m 0 ls [])) : S_Met l y ws rm As r := by
  obtain ⟨⟨ws', hw⟩, -, -, -⟩ := hf
  refine Met.ofW (cc := bytes) (maxL := maxL) (ret := ret) hy hw ?_
  intro p e s m args below meth c s₁ B hml hv
  obtain ⟨rfl, -⟩ := hv
  have hown : s.vm.findClass own = some m.cls := by rw [← hcls]; exact findClass_of_methodNamed B.named
  have hl := lv_entry As (n := maxL) hlen
  rw [lg_entry_eq]
  exact body p e s m _ below meth c ⟨B.exec, B.bytes, hml, hown, atoms_spec (ws := ws) B.pre, B.returns, B.notSynchronized⟩ _ hl
theorem S_call {y : MethodName} {ws : List Cond} {rm : Room} {bytes : ByteArray} {maxL n index : Nat} {rty : Option FieldType} {As : List Value} {r : Int32} (C : Cx own p s m args meth c cc nL Ts ret) (hl : ls.size = nL) (hM : S_Met l y ws rm As r) (hf : Fn y ws bytes maxL rty n rm 0 0)
    (g : GoodIn Ts (va_wsS own index y ws)) (hn : As.length = n) (hst : st0 = As.reverse ++ rest) (hR : rm.frames + 1 ≤ R.frames ∧ 8 + (maxL + 11) + rm.locals ≤ R.locals) (hcat : (rest.map fun v => v.category).sum ≤ 8) (hz : cells + 0 ≤ R.cells ∧ slots + 0 ≤ R.slots)
    (d : decode cc pc = .ok (.invokestatic index, 3)) (kk : W p l e R s m args below meth c H locs cells slots Q (F0 m (pc + 3) ls (.int r :: rest))) : W p l e R s m args below meth c H locs cells slots Q (F0 m pc ls st0) := by
  obtain ⟨⟨ws', hw⟩, hrc, hrs, hd⟩ := hf
  refine vp_callSi (W.runS C.fix hM (va_cwS n C.2.2.2.2.1 g hw hrc hrs hd hR) ⟨fun a U g mk q => ⟨q.1, trivial⟩, fun U _ _ => ⟨rfl, trivial⟩⟩ rfl hn hl hst (lv_room hcat) d hz) ?_
  intro r' hr'
  rw [hr']
  exact kk
theorem S_ret {r v : Int32} (C : Cx own p s m args meth c cc nL Ts (some .int)) (hv : v = r) (d : decode cc pc = .ok (.ireturn, 1)) :
    W p l e R s m args below meth c s.heap [] 0 0 (MQ below (vp_Si (fun x => x = r)) args s 0 0 (fun _ => False)) (F0 m pc ls [.int v]) := by
  have hlocks := C.2.2.2.2.2.2
  exact W.iret C.1 C.2.1 C.2.2.2.2.2.1 (fun t ht _ => ⟨v, rfl, hv, ht⟩) (fun q h => by cases h) d
theorem S_retz {r v : Int32} (C : Cx own p s m args meth c cc nL Ts (some .boolean)) (hv : v = r) (hn : narrow .boolean (.int v) = .int v) (d : decode cc pc = .ok (.ireturn, 1)) :
    W p l e R s m args below meth c s.heap [] 0 0 (MQ below (vp_Si (fun x => x = r)) args s 0 0 (fun _ => False)) (F0 m pc ls [.int v]) := by
  have hlocks := C.2.2.2.2.2.2
  exact W.zret C.1 C.2.1 C.2.2.2.2.2.1 hn (fun t ht _ => ⟨v, rfl, hv, ht⟩) (fun q h => by cases h) d
/-! fields and rows of any world -/
theorem x_get (C : Cx own p s m args meth c cc nL Ts ret) (K : va_K D vwCl tys s) {ws : va_W} (P : Hp D A s ws H locs) {a ci : Nat} {fs : List Value} (q0 : Nat) (he : ws[q0]? = some (a, .inr (ci, fs))) {Cn : String} {T : u_T} {N : Nat} (hc : vwCl[ci]? = some (Cn, T, N)) (hin : ∀ w ∈ u_ws Cn T N, w ∈ Ts) (k : Nat) (hk : k < N) {index : Nat}
    (hlink : Cond.fieldLink own index (T k).1 (T k).2.1 (T k).2.2.1 ∈ Ts) {v : Value} (hv : fs[k]? = some v) (d : decode cc pc = .ok (.getfield index, 3)) (kk : W p l e R s m args below meth c H locs cells slots Q (F0 m (pc + 3) ls (v :: rest))) : W p l e R s m args below meth c H locs cells slots Q (F0 m pc ls (.ref a :: rest)) :=
  va_get C.1 C.2.1 C.2.2.2.2.1 hin C.2.2.2.1 K P.1 q0 he hc k hk (C.2.2.2.2.1 _ hlink) (fun _ h => h) hv d kk
theorem x_put (C : Cx own p s m args meth c cc nL Ts ret) (K : va_K D vwCl tys s) {ws : va_W} (P : Hp D A s ws H locs) {a ci : Nat} {fs : List Value} (q0 : Nat) (he : ws[q0]? = some (a, .inr (ci, fs))) {Cn : String} {T : u_T} {N : Nat} (hc : vwCl[ci]? = some (Cn, T, N)) (hin : ∀ w ∈ u_ws Cn T N, w ∈ Ts)
    {ty0 : Nat → FieldType} (hty : ∀ k, k < N → parseFieldDescriptor (T k).2.2.1 = some (ty0 k)) (hnm : ∀ a, a < N → ∀ b, b < N → a ≠ b → (T a).2.1 ≠ (T b).2.1) (k : Nat) (hk : k < N) {index : Nat}
    (hlink : Cond.fieldLink own index (T k).1 (T k).2.1 (T k).2.2.1 ∈ Ts) (hfin : (T k).2.2.2 = false) {v : Value} (hn : narrow (ty0 k) v = v) (hfit : fits (ty0 k) v = true) (hlen : k < fs.length) (d : decode cc pc = .ok (.putfield index, 3))
    (kk : ∀ (H : Heap) (locs : List Loc), Hp D A s (ws.set q0 (a, .inr (ci, fs.set k v))) H locs → W p l e R s m args below meth c H locs cells slots Q (F0 m (pc + 3) ls rest)) : W p l e R s m args below meth c H locs cells slots Q (F0 m pc ls (v :: .ref a :: rest)) :=
  va_put C.1 C.2.1 C.2.2.2.2.1 hin ty0 hty hnm C.2.2.2.1 K P.1 P.2.1 P.2.2.1 q0 he hc k hk (C.2.2.2.2.1 _ hlink) (fun _ h => h) hfin (hty k hk) hn hfit hlen d (fun H1 locs1 h1 h2 h3 => kk H1 locs1 ⟨h1, h2, h3, P.2.2.2⟩)
end CR
/-! ===== rows of the reference ===== -/
def Mx (B : Prop) (p : Program) (s : State) (m : MethodId) (args : Array Value) (meth : Method) (c : Code) (cc : ByteArray) (nL : Nat) (Ts : List Cond) (ret : Option FieldType) (D : va_G) (cI : ClassId) : Prop :=
  Cx RX7 p s m args meth c cc nL Ts ret ∧ B ∧ va_K D vwCl [(cI, .int)] s
abbrev M_Qi (D : va_G) (cI : ClassId) (m0 : Nat) (as : Nat → Nat) (f : Int32 × Int32 × Sg) (A : Nat → Prop) : Array Value → State → Outcome → State → Prop := va_Qi (fun r (_ : Unit) => r = f.2.1) (fun _ t => Pic D [(cI, .int)] A (M_W cI m0 as f.1 f.2.2) t) A
abbrev M_Qv (D : va_G) (cI : ClassId) (m0 : Nat) (as : Nat → Nat) (f : Int32 × Int32 × Sg) (A : Nat → Prop) : Array Value → State → Outcome → State → Prop := va_Qv (fun (_ : Unit) => True) (fun _ t => Pic D [(cI, .int)] A (M_W cI m0 as f.1 f.2.2) t) A
def M_Mi (l : Launch) (y : MethodName) (ws : List Cond) (rm : Room) (D : va_G) (cI : ClassId) (m0 : Nat) (as : Nat → Nat) (th : Int32) (σ : Sg) (As : List Value) (f : Int32 × Int32 × Sg) : Prop :=
  ∀ sz : Nat, Met l y ws rm (va_Pc (.ref m0 :: As) (PreW D [(cI, .int)] sz (M_W cI m0 as th σ))) (M_Qi D cI m0 as f (va_A (M_W cI m0 as th σ) sz)) 0 0 (va_A (M_W cI m0 as th σ) sz)
def M_Mv (l : Launch) (y : MethodName) (ws : List Cond) (rm : Room) (D : va_G) (cI : ClassId) (m0 : Nat) (as : Nat → Nat) (th : Int32) (σ : Sg) (As : List Value) (f : Int32 × Int32 × Sg) : Prop :=
  ∀ sz : Nat, Met l y ws rm (va_Pc (.ref m0 :: As) (PreW D [(cI, .int)] sz (M_W cI m0 as th σ))) (M_Qv D cI m0 as f (va_A (M_W cI m0 as th σ) sz)) 0 0 (va_A (M_W cI m0 as th σ) sz)
section MR
variable {p : Program} {l : Launch} {e : Env} {R : Room} {s : State} {m : MethodId} {args : Array Value} {below : List Frame} {meth : Method} {c : Code} {H : Heap} {locs : List Loc} {cells slots : Nat} {Q : State → Prop} {cc : ByteArray} {pc : Nat} {ls : Array Slot} {rest st0 : List Value} {Ts : List Cond} {nL : Nat} {D : va_G} {A : Nat → Prop} {ret : Option FieldType} {cI : ClassId} {m0 : Nat} {as : Nat → Nat} {th : Int32} {σ : Sg} {B : Prop}
theorem M_body {y : MethodName} {ws : List Cond} {rm : Room} {maxL n : Nat} {bytes : ByteArray} {As : List Value} {Qc : (Nat → Prop) → Array Value → State → Outcome → State → Prop} (hy : y.cls = RX7) (hf : Fn y ws bytes maxL ret n rm 0 0) (hin : B) (hlen : (lg_sl (.ref m0 :: As)).length ≤ maxL)
    (body : ∀ (p : Program) (e : Env) (s : State) (m : MethodId) (args : Array Value) (below : List Frame) (meth : Method) (c : Code), Mx B p s m args meth c bytes maxL ws ret D cI → ∀ A : Nat → Prop, Hp D A s (M_W cI m0 as th σ) s.heap [] → ∀ ls : Array Slot, lv_has ls maxL (lv_args 0 (.ref m0 :: As)) →
      W p l e rm s m args below meth c s.heap [] 0 0 (MQ below (Qc A) args s 0 0 A) (F0 m 0 ls [])) (sz : Nat) : Met l y ws rm (va_Pc (.ref m0 :: As) (PreW D [(cI, .int)] sz (M_W cI m0 as th σ))) (Qc (va_A (M_W cI m0 as th σ) sz)) 0 0 (va_A (M_W cI m0 as th σ) sz) := by
  obtain ⟨⟨ws', hw⟩, -, -, -⟩ := hf
  refine Met.ofW (cc := bytes) (maxL := maxL) (ret := ret) (by rw [hy]; decide) hw ?_
  intro p e s m args below meth c s₁ B hml hv
  obtain ⟨rfl, hsz, hP, hK, hD⟩ := hv
  subst hsz
  have hown : s.vm.findClass RX7 = some m.cls := by rw [← hy]; exact findClass_of_methodNamed B.named
  have hl := lv_entry (.ref m0 :: As) (n := maxL) hlen
  rw [lg_entry_eq]
  exact body p e s m _ below meth c ⟨⟨B.exec, B.bytes, hml, hown, atoms_spec (ws := ws) B.pre, B.returns, B.notSynchronized⟩, hin, hK⟩ _ ⟨hP, hD.self, va_S.rf, fun q h => Or.inr h⟩ _ hl
theorem M_get (X : Mx (∀ w ∈ wsX70, w ∈ Ts) p s m args meth c cc nL Ts ret D cI) (P : Hp D A s (M_W cI m0 as th σ) H locs) (k : Nat) (hk : k < 28) {index : Nat} (hlink : Cond.fieldLink RX7 index (TX7 k).1 (TX7 k).2.1 (TX7 k).2.2.1 ∈ Ts) {v : Value} (hv : (M_fs as th σ)[k]? = some v) (d : decode cc pc = .ok (.getfield index, 3))
    (kk : W p l e R s m args below meth c H locs cells slots Q (F0 m (pc + 3) ls (v :: rest))) : W p l e R s m args below meth c H locs cells slots Q (F0 m pc ls (.ref m0 :: rest)) :=
  x_get (Cn := RX7) (T := TX7) (N := 28) (ci := 8) (fs := M_fs as th σ) X.1 X.2.2 P 0 rfl rfl X.2.1 k hk hlink hv d kk
theorem M_put (X : Mx (∀ w ∈ wsX70, w ∈ Ts) p s m args meth c cc nL Ts ret D cI) (P : Hp D A s (M_W cI m0 as th σ) H locs) (k : Nat) (hk : k < 28) {index : Nat} (hlink : Cond.fieldLink RX7 index (TX7 k).1 (TX7 k).2.1 (TX7 k).2.2.1 ∈ Ts) (hfin : (TX7 k).2.2.2 = false) (hty : tyX7 k = .int) {v : Int32} {th' : Int32} {z' : Nat → Int32}
    (he : (M_fs as th σ).set k (.int v) = M_fs as th' (z', σ.2)) (d : decode cc pc = .ok (.putfield index, 3))
    (kk : ∀ (H : Heap) (locs : List Loc), Hp D A s (M_W cI m0 as th' (z', σ.2)) H locs → W p l e R s m args below meth c H locs cells slots Q (F0 m (pc + 3) ls rest)) : W p l e R s m args below meth c H locs cells slots Q (F0 m pc ls (.int v :: .ref m0 :: rest)) := by
  refine x_put (Cn := RX7) (T := TX7) (N := 28) (ci := 8) (fs := M_fs as th σ) X.1 X.2.2 P 0 rfl rfl X.2.1 tyX7_ok nmX7 k hk hlink hfin (by rw [hty]; rfl) (by rw [hty]; rfl) hk d ?_
  rw [he]
  exact kk
theorem M_putT (X : Mx (∀ w ∈ wsX70, w ∈ Ts) p s m args meth c cc nL Ts ret D cI) (P : Hp D A s (M_W cI m0 as th σ) H locs) {index : Nat} (hlink : Cond.fieldLink RX7 index "GaugerhallModel" "thrown" "I" ∈ Ts) {v : Int32} (d : decode cc pc = .ok (.putfield index, 3))
    (kk : ∀ (H : Heap) (locs : List Loc), Hp D A s (M_W cI m0 as v σ) H locs → W p l e R s m args below meth c H locs cells slots Q (F0 m (pc + 3) ls rest)) : W p l e R s m args below meth c H locs cells slots Q (F0 m pc ls (.int v :: .ref m0 :: rest)) :=
  M_put X P 0 (by decide) hlink rfl rfl (th' := v) (z' := σ.1) rfl d kk
theorem M_putS (X : Mx (∀ w ∈ wsX70, w ∈ Ts) p s m args meth c cc nL Ts ret D cI) (P : Hp D A s (M_W cI m0 as th σ) H locs) (k : Nat) (hk : k < 28) {index : Nat} (hlink : Cond.fieldLink RX7 index (TX7 k).1 (TX7 k).2.1 (TX7 k).2.2.1 ∈ Ts) (hfin : (TX7 k).2.2.2 = false) (hty : tyX7 k = .int) {v : Int32}
    (he : (M_fs as th σ).set k (.int v) = M_fs as th (zs σ k v)) (d : decode cc pc = .ok (.putfield index, 3))
    (kk : ∀ (H : Heap) (locs : List Loc), Hp D A s (M_W cI m0 as th (zs σ k v)) H locs → W p l e R s m args below meth c H locs cells slots Q (F0 m (pc + 3) ls rest)) : W p l e R s m args below meth c H locs cells slots Q (F0 m pc ls (.int v :: .ref m0 :: rest)) :=
  M_put X P k hk hlink hfin hty (th' := th) (z' := upd σ.1 k v) he d kk
theorem M_ald (X : Mx B p s m args meth c cc nL Ts ret D cI) (P : Hp D A s (M_W cI m0 as th σ) H locs) (q0 : Nat) {a n : Nat} {f : Nat → Int32} (ha : (M_W cI m0 as th σ)[q0]? = some (a, .inl (cI, n, .inl f))) {i : Int32} (hi : vp_in i n) (d : decode cc pc = .ok (.iaload, 1))
    (kk : W p l e R s m args below meth c H locs cells slots Q (F0 m (pc + 1) ls (.int (f (ix i)) :: rest))) : W p l e R s m args below meth c H locs cells slots Q (F0 m pc ls (.int i :: .ref a :: rest)) :=
  va_iald X.1.1 X.1.2.1 X.2.2 P.1 q0 0 ha rfl hi d kk
theorem M_ast (X : Mx B p s m args meth c cc nL Ts ret D cI) (P : Hp D A s (M_W cI m0 as th σ) H locs) (q0 k : Nat) {a n : Nat} (ha : (M_W cI m0 as th σ)[q0]? = some (a, .inl (cI, n, .inl (σ.2 k)))) {i x : Int32} (hi : vp_in i n)
    (he : (M_W cI m0 as th σ).set q0 (a, .inl (cI, n, .inl (upd (σ.2 k) (ix i) x))) = M_W cI m0 as th (bs σ k (ix i) x)) (d : decode cc pc = .ok (.iastore, 1))
    (kk : ∀ (H : Heap) (locs : List Loc), Hp D A s (M_W cI m0 as th (bs σ k (ix i) x)) H locs → W p l e R s m args below meth c H locs cells slots Q (F0 m (pc + 1) ls rest)) : W p l e R s m args below meth c H locs cells slots Q (F0 m pc ls (.int x :: .int i :: .ref a :: rest)) := by
  refine va_iast X.1.1 X.1.2.1 X.2.2 P.1 P.2.1 P.2.2.1 q0 0 ha rfl hi d (fun H1 locs1 h1 h2 h3 => ?_)
  rw [he] at h1 h2
  exact kk H1 locs1 ⟨h1, h2, h3, P.2.2.2⟩
theorem M_calli {y : MethodName} {ws : List Cond} {rm : Room} {bytes : ByteArray} {maxL n index : Nat} {rty : Option FieldType} {As : List Value} {f : Int32 × Int32 × Sg} (X : Mx B p s m args meth c cc nL Ts ret D cI) (P : Hp D A s (M_W cI m0 as th σ) H locs) (hl : ls.size = nL) (hM : M_Mi l y ws rm D cI m0 as th σ As f) (hf : Fn y ws bytes maxL rty n rm 0 0)
    (hy : y.cls = RX7) (g : GoodIn Ts (wsV RX7 index RX7 y ws)) (hn : As.length = n) (hst : st0 = As.reverse ++ .ref m0 :: rest) (hR : rm.frames + 1 ≤ R.frames ∧ 8 + (maxL + 11) + rm.locals ≤ R.locals) (hcat : (rest.map fun v => v.category).sum ≤ 8) (hz : cells + 0 ≤ R.cells ∧ slots + 0 ≤ R.slots)
    (d : decode cc pc = .ok (.invokevirtual index, 3)) (kk : ∀ (H : Heap) (locs : List Loc), Hp D A s (M_W cI m0 as f.1 f.2.2) H locs → W p l e R s m args below meth c H locs cells slots Q (F0 m (pc + 3) ls (.int f.2.1 :: rest))) : W p l e R s m args below meth c H locs cells slots Q (F0 m pc ls st0) := by
  obtain ⟨⟨ws', hw⟩, hrc, hrs, hd⟩ := hf
  have hF := va_A_in P.2.1 P.2.2.1 P.2.2.2
  refine va_calli (va_runV X.1.fix (hM H.size) (cwV n X.1.2.2.2.2.1 g hw hrc hrs ⟨hy, hd⟩ hR) ⟨preW_blind, va_recv X.2.2 P.1 (ci := 8) (q0 := 0) rfl rfl, fun U hU hW => ⟨rfl, by rw [hU], by rw [hU]; exact P.1, va_K.moved hW.alike X.2.2, P.2.1.weaken (fun _ _ _ _ => trivial)⟩⟩ rfl hn hl hst (lv_room hcat) d hz) P.2.2.1 (fun q _ h => hF q h) hF (fun r u t H1 locs1 ht hvm hw hB hz1 hk1 hS => ?_)
  obtain ⟨hP1, -, hD1⟩ := hB
  rw [ht] at hP1
  rw [hw]
  exact kk H1 locs1 ⟨hP1, hD1.weaken (fun _ _ _ h => hF _ h), hS, P.2.2.2⟩
theorem M_callv {y : MethodName} {ws : List Cond} {rm : Room} {bytes : ByteArray} {maxL n index : Nat} {rty : Option FieldType} {As : List Value} {f : Int32 × Int32 × Sg} (X : Mx B p s m args meth c cc nL Ts ret D cI) (P : Hp D A s (M_W cI m0 as th σ) H locs) (hl : ls.size = nL) (hM : M_Mv l y ws rm D cI m0 as th σ As f) (hf : Fn y ws bytes maxL rty n rm 0 0)
    (hy : y.cls = RX7) (g : GoodIn Ts (wsV RX7 index RX7 y ws)) (hn : As.length = n) (hst : st0 = As.reverse ++ .ref m0 :: rest) (hR : rm.frames + 1 ≤ R.frames ∧ 8 + (maxL + 11) + rm.locals ≤ R.locals) (hcat : (rest.map fun v => v.category).sum ≤ 8) (hz : cells + 0 ≤ R.cells ∧ slots + 0 ≤ R.slots)
    (d : decode cc pc = .ok (.invokevirtual index, 3)) (kk : ∀ (H : Heap) (locs : List Loc), Hp D A s (M_W cI m0 as f.1 f.2.2) H locs → W p l e R s m args below meth c H locs cells slots Q (F0 m (pc + 3) ls rest)) : W p l e R s m args below meth c H locs cells slots Q (F0 m pc ls st0) := by
  obtain ⟨⟨ws', hw⟩, hrc, hrs, hd⟩ := hf
  have hF := va_A_in P.2.1 P.2.2.1 P.2.2.2
  refine va_callv (va_runV X.1.fix (hM H.size) (cwV n X.1.2.2.2.2.1 g hw hrc hrs ⟨hy, hd⟩ hR) ⟨preW_blind, va_recv X.2.2 P.1 (ci := 8) (q0 := 0) rfl rfl, fun U hU hW => ⟨rfl, by rw [hU], by rw [hU]; exact P.1, va_K.moved hW.alike X.2.2, P.2.1.weaken (fun _ _ _ _ => trivial)⟩⟩ rfl hn hl hst (lv_room hcat) d hz) P.2.2.1 (fun q _ h => hF q h) hF (fun u t H1 locs1 ht hvm hw hB hz1 hk1 hS => ?_)
  obtain ⟨hP1, -, hD1⟩ := hB
  rw [ht] at hP1
  exact kk H1 locs1 ⟨hP1, hD1.weaken (fun _ _ _ h => hF _ h), hS, P.2.2.2⟩
theorem M_ret {f : Int32 × Int32 × Sg} {v : Int32} (X : Mx B p s m args meth c cc nL Ts (some .int) D cI) (P : Hp D A s (M_W cI m0 as th σ) H locs) (he : f = (th, v, σ)) (d : decode cc pc = .ok (.ireturn, 1)) :
    W p l e R s m args below meth c H locs 0 0 (MQ below (M_Qi D cI m0 as f A) args s 0 0 A) (F0 m pc ls [.int v]) := by
  have hlocks := X.1.2.2.2.2.2.2
  subst he
  exact W.iret X.1.1 X.1.2.1 X.1.2.2.2.2.2.1 (fun t ht hW => ⟨⟨v, (), rfl, rfl, by rw [ht]; exact P.1, va_K.moved hW.alike X.2.2, P.2.1⟩, P.2.2.1.F ht⟩) P.2.2.1.2.2 d
theorem M_retz {f : Int32 × Int32 × Sg} {v : Int32} (X : Mx B p s m args meth c cc nL Ts (some .boolean) D cI) (P : Hp D A s (M_W cI m0 as th σ) H locs) (he : f = (th, v, σ)) (hn : narrow .boolean (.int v) = .int v) (d : decode cc pc = .ok (.ireturn, 1)) :
    W p l e R s m args below meth c H locs 0 0 (MQ below (M_Qi D cI m0 as f A) args s 0 0 A) (F0 m pc ls [.int v]) := by
  have hlocks := X.1.2.2.2.2.2.2
  subst he
  exact W.zret X.1.1 X.1.2.1 X.1.2.2.2.2.2.1 hn (fun t ht hW => ⟨⟨v, (), rfl, rfl, by rw [ht]; exact P.1, va_K.moved hW.alike X.2.2, P.2.1⟩, P.2.2.1.F ht⟩) P.2.2.1.2.2 d
theorem M_retv {f : Int32 × Int32 × Sg} {v : Int32} (X : Mx B p s m args meth c cc nL Ts none D cI) (P : Hp D A s (M_W cI m0 as th σ) H locs) (he : f = (th, v, σ)) (d : decode cc pc = .ok (.return_, 1)) :
    W p l e R s m args below meth c H locs 0 0 (MQ below (M_Qv D cI m0 as f A) args s 0 0 A) (F0 m pc ls []) := by
  have hlocks := X.1.2.2.2.2.2.2
  subst he
  exact W.vret X.1.1 X.1.2.1 X.1.2.2.2.2.2.1 (fun t ht hW => ⟨⟨(), rfl, trivial, by rw [ht]; exact P.1, va_K.moved hW.alike X.2.2, P.2.1⟩, P.2.2.1.F ht⟩) P.2.2.1.2.2 d
end MR
end
section
theorem vp_dec {i : Int32} {n : Nat} (h : ¬ (i < 0 ∨ n ≤ i.toNatClampNeg)) : vp_in i n := h
def sm (f : Nat → Int32) : Nat → Int32
  | 0 => 0
  | n + 1 => sm f n + f n
theorem sm_s (f : Nat → Int32) (n : Nat) : sm f (n + 1) = sm f n + f n := rfl
def Cnt (σ : Sg) (k n : Nat) : Prop := σ.1 k = nI (ix (σ.1 k)) ∧ ix (σ.1 k) ≤ n
theorem lp_end {σ : Sg} {j n k : Nat} (h : Cnt σ j n) (c : σ.1 j ≤ nI k) (h1 : k ≤ ix (σ.1 j)) (hn : n < 2 ^ 31 := by decide) : k = ix (σ.1 j) := by
  rw [h.1] at c
  have h2 := (nI_leI (Nat.lt_of_le_of_lt h.2 hn) (Nat.lt_of_le_of_lt (Nat.le_trans h1 h.2) hn)).mp c
  omega
theorem lp_in {σ : Sg} {j n k : Nat} (h : Cnt σ j n) (c : ¬ σ.1 j ≤ nI k) (h1 : k ≤ ix (σ.1 j)) : k < ix (σ.1 j) := by
  rcases Nat.lt_or_ge k (ix (σ.1 j)) with q | q
  · exact q
  · exfalso
    apply c
    have e : k = ix (σ.1 j) := by omega
    rw [e, ← h.1]
    exact Int32.le_refl _
section MR2
variable {p : Program} {l : Launch} {e : Env} {R : Room} {s : State} {m : MethodId} {args : Array Value} {below : List Frame} {meth : Method} {c : Code} {H : Heap} {locs : List Loc} {cells slots : Nat} {Q : State → Prop} {cc : ByteArray} {pc : Nat} {ls : Array Slot} {rest st0 : List Value} {Ts : List Cond} {nL : Nat} {D : va_G} {A : Nat → Prop} {ret : Option FieldType} {cI : ClassId} {m0 : Nat} {as : Nat → Nat} {th : Int32} {σ : Sg} {B : Prop}
theorem M_aldN (X : Mx B p s m args meth c cc nL Ts ret D cI) (P : Hp D A s (M_W cI m0 as th σ) H locs) (q0 : Nat) {a n : Nat} {f : Nat → Int32} (ha : (M_W cI m0 as th σ)[q0]? = some (a, .inl (cI, n, .inl f))) {k : Nat} (hk : k < n) (hn : n < 2 ^ 31) (d : decode cc pc = .ok (.iaload, 1))
    (kk : W p l e R s m args below meth c H locs cells slots Q (F0 m (pc + 1) ls (.int (f k) :: rest))) : W p l e R s m args below meth c H locs cells slots Q (F0 m pc ls (.int (nI k) :: .ref a :: rest)) := by
  refine M_ald X P q0 ha (vp_in_nI hk hn) d ?_
  rw [show ix (nI k) = k from nI_clamp (Nat.lt_trans hk hn)]
  exact kk
theorem M_astN (X : Mx B p s m args meth c cc nL Ts ret D cI) (P : Hp D A s (M_W cI m0 as th σ) H locs) (q0 k0 : Nat) {a n : Nat} (ha : (M_W cI m0 as th σ)[q0]? = some (a, .inl (cI, n, .inl (σ.2 k0)))) {k : Nat} {x : Int32} (hk : k < n) (hn : n < 2 ^ 31)
    (he : (M_W cI m0 as th σ).set q0 (a, .inl (cI, n, .inl (upd (σ.2 k0) k x))) = M_W cI m0 as th (bs σ k0 k x)) (d : decode cc pc = .ok (.iastore, 1))
    (kk : ∀ (H : Heap) (locs : List Loc), Hp D A s (M_W cI m0 as th (bs σ k0 k x)) H locs → W p l e R s m args below meth c H locs cells slots Q (F0 m (pc + 1) ls rest)) : W p l e R s m args below meth c H locs cells slots Q (F0 m pc ls (.int x :: .int (nI k) :: .ref a :: rest)) := by
  have e : ix (nI k) = k := nI_clamp (Nat.lt_trans hk hn)
  refine M_ast X P q0 k0 ha (vp_in_nI hk hn) (by rw [e]; exact he) d ?_
  rw [e]
  exact kk
end MR2
theorem t64_ne {x : Int32} (h : ¬ x = 0) : ¬ x.toInt64 = 0 := by
  intro q
  apply h
  have := congrArg Int64.toInt q
  rw [Int32.toInt_toInt64] at this
  exact Int32.toInt_inj.mp this
theorem M_s1 {as : Nat → Nat} {th v : Int32} {σ : Sg} : (M_fs as th σ).set 1 (.int v) = M_fs as th (zs σ 1 v) := rfl
theorem M_s2 {as : Nat → Nat} {th v : Int32} {σ : Sg} : (M_fs as th σ).set 2 (.int v) = M_fs as th (zs σ 2 v) := rfl
theorem M_s8 {as : Nat → Nat} {th v : Int32} {σ : Sg} : (M_fs as th σ).set 8 (.int v) = M_fs as th (zs σ 8 v) := rfl
theorem M_s9 {as : Nat → Nat} {th v : Int32} {σ : Sg} : (M_fs as th σ).set 9 (.int v) = M_fs as th (zs σ 9 v) := rfl
theorem M_s11 {as : Nat → Nat} {th v : Int32} {σ : Sg} : (M_fs as th σ).set 11 (.int v) = M_fs as th (zs σ 11 v) := rfl
theorem M_s12 {as : Nat → Nat} {th v : Int32} {σ : Sg} : (M_fs as th σ).set 12 (.int v) = M_fs as th (zs σ 12 v) := rfl
theorem M_s13 {as : Nat → Nat} {th v : Int32} {σ : Sg} : (M_fs as th σ).set 13 (.int v) = M_fs as th (zs σ 13 v) := rfl
theorem M_s14 {as : Nat → Nat} {th v : Int32} {σ : Sg} : (M_fs as th σ).set 14 (.int v) = M_fs as th (zs σ 14 v) := rfl
theorem M_s15 {as : Nat → Nat} {th v : Int32} {σ : Sg} : (M_fs as th σ).set 15 (.int v) = M_fs as th (zs σ 15 v) := rfl
theorem M_s16 {as : Nat → Nat} {th v : Int32} {σ : Sg} : (M_fs as th σ).set 16 (.int v) = M_fs as th (zs σ 16 v) := rfl
theorem M_s17 {as : Nat → Nat} {th v : Int32} {σ : Sg} : (M_fs as th σ).set 17 (.int v) = M_fs as th (zs σ 17 v) := rfl
theorem M_s18 {as : Nat → Nat} {th v : Int32} {σ : Sg} : (M_fs as th σ).set 18 (.int v) = M_fs as th (zs σ 18 v) := rfl
theorem M_s21 {as : Nat → Nat} {th v : Int32} {σ : Sg} : (M_fs as th σ).set 21 (.int v) = M_fs as th (zs σ 21 v) := rfl
theorem M_s22 {as : Nat → Nat} {th v : Int32} {σ : Sg} : (M_fs as th σ).set 22 (.int v) = M_fs as th (zs σ 22 v) := rfl
theorem M_a3 {cI : ClassId} {m0 : Nat} {as : Nat → Nat} {th x : Int32} {i : Nat} {σ : Sg} : (M_W cI m0 as th σ).set 1 (as 3, .inl (cI, 10, .inl (upd (σ.2 3) i x))) = M_W cI m0 as th (bs σ 3 i x) := rfl
theorem M_a4 {cI : ClassId} {m0 : Nat} {as : Nat → Nat} {th x : Int32} {i : Nat} {σ : Sg} : (M_W cI m0 as th σ).set 2 (as 4, .inl (cI, 10, .inl (upd (σ.2 4) i x))) = M_W cI m0 as th (bs σ 4 i x) := rfl
theorem M_a5 {cI : ClassId} {m0 : Nat} {as : Nat → Nat} {th x : Int32} {i : Nat} {σ : Sg} : (M_W cI m0 as th σ).set 3 (as 5, .inl (cI, 10, .inl (upd (σ.2 5) i x))) = M_W cI m0 as th (bs σ 5 i x) := rfl
theorem M_a6 {cI : ClassId} {m0 : Nat} {as : Nat → Nat} {th x : Int32} {i : Nat} {σ : Sg} : (M_W cI m0 as th σ).set 4 (as 6, .inl (cI, 10, .inl (upd (σ.2 6) i x))) = M_W cI m0 as th (bs σ 6 i x) := rfl
theorem M_a7 {cI : ClassId} {m0 : Nat} {as : Nat → Nat} {th x : Int32} {i : Nat} {σ : Sg} : (M_W cI m0 as th σ).set 5 (as 7, .inl (cI, 4, .inl (upd (σ.2 7) i x))) = M_W cI m0 as th (bs σ 7 i x) := rfl
theorem M_a10 {cI : ClassId} {m0 : Nat} {as : Nat → Nat} {th x : Int32} {i : Nat} {σ : Sg} : (M_W cI m0 as th σ).set 6 (as 10, .inl (cI, 8, .inl (upd (σ.2 10) i x))) = M_W cI m0 as th (bs σ 10 i x) := rfl
theorem M_a19 {cI : ClassId} {m0 : Nat} {as : Nat → Nat} {th x : Int32} {i : Nat} {σ : Sg} : (M_W cI m0 as th σ).set 7 (as 19, .inl (cI, 100, .inl (upd (σ.2 19) i x))) = M_W cI m0 as th (bs σ 19 i x) := rfl
theorem M_a20 {cI : ClassId} {m0 : Nat} {as : Nat → Nat} {th x : Int32} {i : Nat} {σ : Sg} : (M_W cI m0 as th σ).set 8 (as 20, .inl (cI, 100, .inl (upd (σ.2 20) i x))) = M_W cI m0 as th (bs σ 20 i x) := rfl
theorem M_a23 {cI : ClassId} {m0 : Nat} {as : Nat → Nat} {th x : Int32} {i : Nat} {σ : Sg} : (M_W cI m0 as th σ).set 9 (as 23, .inl (cI, 30, .inl (upd (σ.2 23) i x))) = M_W cI m0 as th (bs σ 23 i x) := rfl
theorem M_a24 {cI : ClassId} {m0 : Nat} {as : Nat → Nat} {th x : Int32} {i : Nat} {σ : Sg} : (M_W cI m0 as th σ).set 10 (as 24, .inl (cI, 30, .inl (upd (σ.2 24) i x))) = M_W cI m0 as th (bs σ 24 i x) := rfl
theorem M_a25 {cI : ClassId} {m0 : Nat} {as : Nat → Nat} {th x : Int32} {i : Nat} {σ : Sg} : (M_W cI m0 as th σ).set 11 (as 25, .inl (cI, 30, .inl (upd (σ.2 25) i x))) = M_W cI m0 as th (bs σ 25 i x) := rfl
theorem M_a26 {cI : ClassId} {m0 : Nat} {as : Nat → Nat} {th x : Int32} {i : Nat} {σ : Sg} : (M_W cI m0 as th σ).set 12 (as 26, .inl (cI, 30, .inl (upd (σ.2 26) i x))) = M_W cI m0 as th (bs σ 26 i x) := rfl
theorem M_a27 {cI : ClassId} {m0 : Nat} {as : Nat → Nat} {th x : Int32} {i : Nat} {σ : Sg} : (M_W cI m0 as th σ).set 13 (as 27, .inl (cI, 30, .inl (upd (σ.2 27) i x))) = M_W cI m0 as th (bs σ 27 i x) := rfl
def m_in (p0 : Int32) (p1 : Int32) (p2 : Int32) : Int32 := if p0 < p1 then 0 else if p2 < p0 then 0 else 1
abbrev rX7_in : Room := { frames := 0, cells := 0, slots := 0, locals := 0 }
theorem fnX7_in : Fn yX7_in wsX7_in cX7_in 3 (some .boolean) 3 rX7_in 0 0 := ⟨⟨_, rfl⟩, rfl, rfl, by decide +kernel⟩
set_option maxHeartbeats 4000000 in
set_option maxRecDepth 100000 in
theorem kX7_in (l : Launch) (p0 : Int32) (p1 : Int32) (p2 : Int32) : S_Met l yX7_in wsX7_in rX7_in [.int p0, .int p1, .int p2] (m_in p0 p1 p2) := by
  refine S_of (n := 3) RX7 (by decide) fnX7_in rfl (Nat.le_of_ble_eq_true rfl) ?_
  intro p e s m args below meth c C ls hl
  have X := And.intro C True.intro
  have hx := X.1.1
  have hb := X.1.2.1
  have hown := X.1.2.2.2.1
  have hts := X.1.2.2.2.2.1
  have hl : lv_has ls 3 [(0, .int p0), (1, .int p1), (2, .int p2)] := hl
  refine lv_iload_n (pc := 0) hx hb dX7_in_0 rfl (lv_at hl 0 rfl) ?_
  refine lv_iload_n (pc := 1) hx hb dX7_in_1 rfl (lv_at hl 1 rfl) ?_
  refine lv_icmp_lt (pc := 2) (tgt := 14) hx hb dX7_in_2 (by decide) (fun c_1 : p0 < p1 => ?_) (fun c_1 : ¬ p0 < p1 => ?_)
  · refine lv_iconst (pc := 14) (v := 0) hx hb dX7_in_14 (by decide) ?_
    exact S_retz (pc := 15) (v := 0) X.1 (by rw [m_in, if_pos c_1]) rfl dX7_in_15
  · refine lv_iload_n (pc := 5) hx hb dX7_in_5 rfl (lv_at hl 0 rfl) ?_
    refine lv_iload_n (pc := 6) hx hb dX7_in_6 rfl (lv_at hl 2 rfl) ?_
    refine lv_icmp_gt (pc := 7) (tgt := 14) hx hb dX7_in_7 (by decide) (fun c_2 : p2 < p0 => ?_) (fun c_2 : ¬ p2 < p0 => ?_)
    · refine lv_iconst (pc := 14) (v := 0) hx hb dX7_in_14 (by decide) ?_
      exact S_retz (pc := 15) (v := 0) X.1 (by rw [m_in, if_neg c_1, if_pos c_2]) rfl dX7_in_15
    · refine lv_iconst (pc := 10) (v := 1) hx hb dX7_in_10 (by decide) ?_
      refine lv_goto (pc := 11) (tgt := 15) hx hb dX7_in_11 (by decide) ?_
      exact S_retz (pc := 15) (v := 1) X.1 (by rw [m_in, if_neg c_1, if_neg c_2]) rfl dX7_in_15
theorem nz_01 {x : Int32} (h : x = 0 ∨ x = 1) : narrow .boolean (.int x) = .int x := by rcases h with rfl | rfl <;> rfl
theorem m_in01 (a b c : Int32) : m_in a b c = 0 ∨ m_in a b c = 1 := by
  rw [m_in]
  split
  · exact Or.inl rfl
  · split
    · exact Or.inl rfl
    · exact Or.inr rfl
def m_isPlace (p0 : Int32) : Int32 := (m_in p0 0 3)
abbrev rX7_isPlace : Room := { frames := 1, cells := 0, slots := 0, locals := 22 }
theorem fnX7_isPlace : Fn yX7_isPlace wsX7_isPlace cX7_isPlace 1 (some .boolean) 1 rX7_isPlace 0 0 := ⟨⟨_, rfl⟩, rfl, rfl, by decide +kernel⟩
set_option maxHeartbeats 4000000 in
set_option maxRecDepth 100000 in
theorem kX7_isPlace (l : Launch) (p0 : Int32) : S_Met l yX7_isPlace wsX7_isPlace rX7_isPlace [.int p0] (m_isPlace p0) := by
  refine S_of (n := 1) RX7 (by decide) fnX7_isPlace rfl (Nat.le_of_ble_eq_true rfl) ?_
  intro p e s m args below meth c C ls hl
  have X := And.intro C True.intro
  have hx := X.1.1
  have hb := X.1.2.1
  have hown := X.1.2.2.2.1
  have hts := X.1.2.2.2.2.1
  have hl : lv_has ls 1 [(0, .int p0)] := hl
  refine lv_iload_n (pc := 0) hx hb dX7_isPlace_0 rfl (lv_at hl 0 rfl) ?_
  refine lv_iconst (pc := 1) (v := 0) hx hb dX7_isPlace_1 (by decide) ?_
  refine lv_iconst (pc := 2) (v := 3) hx hb dX7_isPlace_2 (by decide) ?_
  refine S_call (pc := 3) (As := [.int p0, .int 0, .int 3]) (rest := []) (r := m_in p0 0 3) X.1 hl.1 (kX7_in l p0 0 3) fnX7_in gX7_isPlace_X7_in rfl rfl ⟨Nat.le_of_ble_eq_true rfl, Nat.le_of_ble_eq_true rfl⟩ (Nat.le_of_ble_eq_true rfl) ⟨Nat.le_of_ble_eq_true rfl, Nat.le_of_ble_eq_true rfl⟩ dX7_isPlace_3 ?_
  exact S_retz (pc := 6) (v := m_in p0 0 3) X.1 (by rw [m_isPlace]) (nz_01 (m_in01 _ _ _)) dX7_isPlace_6
def m_least (p0 : Int32) (p1 : Int32) : Int32 := if p1 ≤ p0 then p1 else p0
abbrev rX7_least : Room := { frames := 0, cells := 0, slots := 0, locals := 0 }
theorem fnX7_least : Fn yX7_least wsX7_least cX7_least 2 (some .int) 2 rX7_least 0 0 := ⟨⟨_, rfl⟩, rfl, rfl, by decide +kernel⟩
set_option maxHeartbeats 4000000 in
set_option maxRecDepth 100000 in
theorem kX7_least (l : Launch) (p0 : Int32) (p1 : Int32) : S_Met l yX7_least wsX7_least rX7_least [.int p0, .int p1] (m_least p0 p1) := by
  refine S_of (n := 2) RX7 (by decide) fnX7_least rfl (Nat.le_of_ble_eq_true rfl) ?_
  intro p e s m args below meth c C ls hl
  have X := And.intro C True.intro
  have hx := X.1.1
  have hb := X.1.2.1
  have hown := X.1.2.2.2.1
  have hts := X.1.2.2.2.2.1
  have hl : lv_has ls 2 [(0, .int p0), (1, .int p1)] := hl
  refine lv_iload_n (pc := 0) hx hb dX7_least_0 rfl (lv_at hl 0 rfl) ?_
  refine lv_iload_n (pc := 1) hx hb dX7_least_1 rfl (lv_at hl 1 rfl) ?_
  refine lv_icmp_ge (pc := 2) (tgt := 9) hx hb dX7_least_2 (by decide) (fun c_1 : p1 ≤ p0 => ?_) (fun c_1 : ¬ p1 ≤ p0 => ?_)
  · refine lv_iload_n (pc := 9) hx hb dX7_least_9 rfl (lv_at hl 1 rfl) ?_
    exact S_ret (pc := 10) (v := p1) X.1 (by rw [m_least, if_pos c_1]) dX7_least_10
  · refine lv_iload_n (pc := 5) hx hb dX7_least_5 rfl (lv_at hl 0 rfl) ?_
    refine lv_goto (pc := 6) (tgt := 10) hx hb dX7_least_6 (by decide) ?_
    exact S_ret (pc := 10) (v := p0) X.1 (by rw [m_least, if_neg c_1]) dX7_least_10
def m_strengthOf (p0 : Int32) (p1 : Int32) : Int32 := if p1 = 0 then 0 else (p0 / p1)
abbrev rX7_strengthOf : Room := { frames := 0, cells := 0, slots := 0, locals := 0 }
theorem fnX7_strengthOf : Fn yX7_strengthOf wsX7_strengthOf cX7_strengthOf 2 (some .int) 2 rX7_strengthOf 0 0 := ⟨⟨_, rfl⟩, rfl, rfl, by decide +kernel⟩
set_option maxHeartbeats 4000000 in
set_option maxRecDepth 100000 in
theorem kX7_strengthOf (l : Launch) (p0 : Int32) (p1 : Int32) : S_Met l yX7_strengthOf wsX7_strengthOf rX7_strengthOf [.int p0, .int p1] (m_strengthOf p0 p1) := by
  refine S_of (n := 2) RX7 (by decide) fnX7_strengthOf rfl (Nat.le_of_ble_eq_true rfl) ?_
  intro p e s m args below meth c C ls hl
  have X := And.intro C True.intro
  have hx := X.1.1
  have hb := X.1.2.1
  have hown := X.1.2.2.2.1
  have hts := X.1.2.2.2.2.1
  have hl : lv_has ls 2 [(0, .int p0), (1, .int p1)] := hl
  refine lv_iload_n (pc := 0) hx hb dX7_strengthOf_0 rfl (lv_at hl 1 rfl) ?_
  refine lv_if_ne (pc := 1) (tgt := 8) hx hb dX7_strengthOf_1 (by decide) (fun c_1 : ¬ p1 = 0 => ?_) (fun c_1 : p1 = 0 => ?_)
  · refine lv_iload_n (pc := 8) hx hb dX7_strengthOf_8 rfl (lv_at hl 0 rfl) ?_
    refine lv_iload_n (pc := 9) hx hb dX7_strengthOf_9 rfl (lv_at hl 1 rfl) ?_
    refine lv_idiv (pc := 10) hx hb dX7_strengthOf_10 c_1 ?_
    exact S_ret (pc := 11) (v := p0 / p1) X.1 (by rw [m_strengthOf, if_neg c_1]) dX7_strengthOf_11
  · refine lv_iconst (pc := 4) (v := 0) hx hb dX7_strengthOf_4 (by decide) ?_
    refine lv_goto (pc := 5) (tgt := 11) hx hb dX7_strengthOf_5 (by decide) ?_
    exact S_ret (pc := 11) (v := 0) X.1 (by rw [m_strengthOf, if_pos c_1]) dX7_strengthOf_11
def m_part (p0 : Int32) (p1 : Int32) (p2 : Int32) : Int32 := (((p0.toInt64 * p1.toInt64) / p2.toInt64).toInt32)
abbrev rX7_part : Room := { frames := 0, cells := 0, slots := 0, locals := 0 }
theorem fnX7_part : Fn yX7_part wsX7_part cX7_part 3 (some .int) 3 rX7_part 0 0 := ⟨⟨_, rfl⟩, rfl, rfl, by decide +kernel⟩
set_option maxHeartbeats 4000000 in
set_option maxRecDepth 100000 in
theorem kX7_part (l : Launch) (p0 : Int32) (p1 : Int32) (p2 : Int32) (h0 : ¬ p2 = 0) : S_Met l yX7_part wsX7_part rX7_part [.int p0, .int p1, .int p2] (m_part p0 p1 p2) := by
  refine S_of (n := 3) RX7 (by decide) fnX7_part rfl (Nat.le_of_ble_eq_true rfl) ?_
  intro p e s m args below meth c C ls hl
  have X := And.intro C True.intro
  have hx := X.1.1
  have hb := X.1.2.1
  have hown := X.1.2.2.2.1
  have hts := X.1.2.2.2.2.1
  have hl : lv_has ls 3 [(0, .int p0), (1, .int p1), (2, .int p2)] := hl
  refine lv_iload_n (pc := 0) hx hb dX7_part_0 rfl (lv_at hl 0 rfl) ?_
  refine lv_i2l (pc := 1) (v := p0.toInt64) hx hb dX7_part_1 rfl ?_
  refine lv_iload_n (pc := 2) hx hb dX7_part_2 rfl (lv_at hl 1 rfl) ?_
  refine lv_i2l (pc := 3) (v := p1.toInt64) hx hb dX7_part_3 rfl ?_
  refine lv_lmul (pc := 4) hx hb dX7_part_4 ?_
  refine lv_iload_n (pc := 5) hx hb dX7_part_5 rfl (lv_at hl 2 rfl) ?_
  refine lv_i2l (pc := 6) (v := p2.toInt64) hx hb dX7_part_6 rfl ?_
  refine lv_ldiv (pc := 7) hx hb dX7_part_7 (t64_ne h0) ?_
  refine lv_l2i (pc := 8) (v := ((p0.toInt64 * p1.toInt64) / p2.toInt64).toInt32) hx hb dX7_part_8 rfl ?_
  exact S_ret (pc := 9) (v := ((p0.toInt64 * p1.toInt64) / p2.toInt64).toInt32) X.1 (by rw [m_part]) dX7_part_9
def m_isVessel (σ : Sg) (p0 : Int32) : Int32 := (m_in p0 0 ((σ.1 2) - 1))
abbrev rX7_isVessel : Room := { frames := 1, cells := 0, slots := 0, locals := 22 }
theorem fnX7_isVessel : Fn yX7_isVessel wsX7_isVessel cX7_isVessel 2 (some .boolean) 1 rX7_isVessel 0 0 := ⟨⟨_, rfl⟩, rfl, rfl, by decide +kernel⟩
theorem inX7_isVessel : ∀ w ∈ wsX70, w ∈ wsX7_isVessel := fun w h => List.mem_cons_of_mem _ (List.mem_append_right _ h)
set_option maxHeartbeats 4000000 in
set_option maxRecDepth 100000 in
theorem kX7_isVessel (l : Launch) (D : va_G) (cI : ClassId) (m0 : Nat) (as : Nat → Nat) (th : Int32) (σ : Sg) (p0 : Int32) : M_Mi l yX7_isVessel wsX7_isVessel rX7_isVessel D cI m0 as th σ [.int p0] ((th, m_isVessel σ p0, σ)) := by
  refine M_body (n := 1) (Qc := fun A => M_Qi D cI m0 as ((th, m_isVessel σ p0, σ)) A) rfl fnX7_isVessel inX7_isVessel (Nat.le_of_ble_eq_true rfl) ?_
  intro p e s m args below meth c X A P ls hl
  have hx := X.1.1
  have hb := X.1.2.1
  have hown := X.1.2.2.2.1
  have hts := X.1.2.2.2.2.1
  have hl : lv_has ls 2 [(0, .ref m0), (1, .int p0)] := hl
  refine lv_iload_n (pc := 0) hx hb dX7_isVessel_0 rfl (lv_at hl 1 rfl) ?_
  refine lv_iconst (pc := 1) (v := 0) hx hb dX7_isVessel_1 (by decide) ?_
  refine lv_aload_n (pc := 2) hx hb dX7_isVessel_2 rfl (lv_at hl 0 rfl) ?_
  refine M_get (pc := 3) (v := .int (σ.1 2)) X P 2 (Nat.le_of_ble_eq_true rfl) (List.mem_of_getElem? (i := 1) rfl) rfl dX7_isVessel_3 ?_
  refine lv_iconst (pc := 6) (v := 1) hx hb dX7_isVessel_6 (by decide) ?_
  refine lv_isub (pc := 7) hx hb dX7_isVessel_7 ?_
  refine S_call (pc := 8) (As := [.int p0, .int 0, .int ((σ.1 2) - 1)]) (rest := []) (r := m_in p0 0 ((σ.1 2) - 1)) X.1 hl.1 (kX7_in l p0 0 ((σ.1 2) - 1)) fnX7_in gX7_isVessel_X7_in rfl rfl ⟨Nat.le_of_ble_eq_true rfl, Nat.le_of_ble_eq_true rfl⟩ (Nat.le_of_ble_eq_true rfl) ⟨Nat.le_of_ble_eq_true rfl, Nat.le_of_ble_eq_true rfl⟩ dX7_isVessel_8 ?_
  exact M_retz (pc := 11) (v := m_in p0 0 ((σ.1 2) - 1)) X P (by rw [m_isVessel]) (nz_01 (m_in01 _ _ _)) dX7_isVessel_11
theorem in_vp {x hi : Int32} {n : Nat} (hh : hi.toInt = (n : Int)) (c : ¬ m_in x 0 hi = 0) : vp_in x (n + 1) := by
  rw [m_in] at c
  by_cases c1 : x < 0
  · rw [if_pos c1] at c; exact absurd rfl c
  · rw [if_neg c1] at c
    by_cases c2 : hi < x
    · rw [if_pos c2] at c; exact absurd rfl c
    · rw [Int32.lt_iff_toInt_lt] at c1 c2
      rw [hh] at c2
      rw [vp_in_iff]
      have e0 : (0 : Int32).toInt = 0 := by decide
      rw [e0] at c1
      omega
theorem cnt_pred {σ : Sg} {j n : Nat} (h : Cnt σ j n) (hn : n < 2 ^ 31) : (σ.1 j - 1).toInt = (ix (σ.1 j) : Int) - 1 := by
  have h3 : Int32.toInt (σ.1 j) = (ix (σ.1 j) : Int) := by
    have := nI_toInt (Nat.lt_of_le_of_lt h.2 hn)
    rw [← h.1] at this
    exact this
  have h4 := h.2
  rw [Int32.toInt_sub, h3]
  have e1 : (1 : Int32).toInt = 1 := by decide
  rw [e1]
  exact Int.bmod_eq_of_le (by omega) (by omega)
theorem in_cnt {σ : Sg} {j n : Nat} {x : Int32} (h : Cnt σ j n) (hn : n < 2 ^ 31) (c : ¬ m_in x 0 (σ.1 j - 1) = 0) : x = nI (ix x) ∧ ix x < ix (σ.1 j) := by
  rw [m_in] at c
  by_cases c1 : x < 0
  · rw [if_pos c1] at c; exact absurd rfl c
  · rw [if_neg c1] at c
    by_cases c2 : (σ.1 j - 1) < x
    · rw [if_pos c2] at c; exact absurd rfl c
    · rw [Int32.lt_iff_toInt_lt, cnt_pred h hn] at c2
      obtain ⟨i, hi, rfl⟩ := nI_of c1
      have e2 : ix (nI i) = i := nI_clamp hi
      rw [nI_toInt hi] at c2
      rw [e2]
      exact ⟨rfl, by omega⟩
theorem cnt_vp {σ : Sg} {j n : Nat} {x : Int32} (h : Cnt σ j n) (hn : n < 2 ^ 31) (q : x = nI (ix x) ∧ ix x < ix (σ.1 j)) : vp_in x n := by
  rw [q.1]
  exact vp_in_nI (Nat.lt_of_lt_of_le q.2 h.2) hn
theorem isV_lt {σ : Sg} {x : Int32} (h : Cnt σ 2 10) (c : ¬ m_isVessel σ x = 0) : x = nI (ix x) ∧ ix x < ix (σ.1 2) := in_cnt h (by decide) (by rw [m_isVessel] at c; exact c)
theorem isV_in {σ : Sg} {x : Int32} (h : Cnt σ 2 10) (c : ¬ m_isVessel σ x = 0) : vp_in x 10 := cnt_vp h (by decide) (isV_lt h c)
theorem isM_lt {σ : Sg} {x : Int32} (h : Cnt σ 22 30) (c : ¬ m_in x 0 (σ.1 22 - 1) = 0) : x = nI (ix x) ∧ ix x < ix (σ.1 22) := in_cnt h (by decide) c
theorem isM_in {σ : Sg} {x : Int32} (h : Cnt σ 22 30) (c : ¬ m_in x 0 (σ.1 22 - 1) = 0) : vp_in x 30 := cnt_vp h (by decide) (isM_lt h c)
def m_hasPart (σ : Sg) (p0 : Int32) (p1 : Int32) : Int32 := if (σ.2 5 (ix p0)) < p1 then 0 else 1
abbrev rX7_hasPart : Room := { frames := 0, cells := 0, slots := 0, locals := 0 }
theorem fnX7_hasPart : Fn yX7_hasPart wsX7_hasPart cX7_hasPart 3 (some .boolean) 2 rX7_hasPart 0 0 := ⟨⟨_, rfl⟩, rfl, rfl, by decide +kernel⟩
theorem inX7_hasPart : ∀ w ∈ wsX70, w ∈ wsX7_hasPart := fun w h => List.mem_cons_of_mem _ (List.mem_append_right _ h)
set_option maxHeartbeats 4000000 in
set_option maxRecDepth 100000 in
theorem kX7_hasPart (l : Launch) (D : va_G) (cI : ClassId) (m0 : Nat) (as : Nat → Nat) (th : Int32) (σ : Sg) (p0 : Int32) (p1 : Int32) (h0 : vp_in p0 10) : M_Mi l yX7_hasPart wsX7_hasPart rX7_hasPart D cI m0 as th σ [.int p0, .int p1] ((th, m_hasPart σ p0 p1, σ)) := by
  refine M_body (n := 2) (Qc := fun A => M_Qi D cI m0 as ((th, m_hasPart σ p0 p1, σ)) A) rfl fnX7_hasPart inX7_hasPart (Nat.le_of_ble_eq_true rfl) ?_
  intro p e s m args below meth c X A P ls hl
  have hx := X.1.1
  have hb := X.1.2.1
  have hown := X.1.2.2.2.1
  have hts := X.1.2.2.2.2.1
  have hl : lv_has ls 3 [(0, .ref m0), (1, .int p0), (2, .int p1)] := hl
  refine lv_iload_n (pc := 0) hx hb dX7_hasPart_0 rfl (lv_at hl 2 rfl) ?_
  refine lv_aload_n (pc := 1) hx hb dX7_hasPart_1 rfl (lv_at hl 0 rfl) ?_
  refine M_get (pc := 2) (v := .ref (as 5)) X P 5 (Nat.le_of_ble_eq_true rfl) (List.mem_of_getElem? (i := 1) rfl) rfl dX7_hasPart_2 ?_
  refine lv_iload_n (pc := 5) hx hb dX7_hasPart_5 rfl (lv_at hl 1 rfl) ?_
  refine M_ald (pc := 6) (a := as 5) (n := 10) (f := σ.2 5) X P 3 rfl h0 dX7_hasPart_6 ?_
  refine lv_icmp_gt (pc := 7) (tgt := 14) hx hb dX7_hasPart_7 (by decide) (fun c_1 : (σ.2 5 (ix p0)) < p1 => ?_) (fun c_1 : ¬ (σ.2 5 (ix p0)) < p1 => ?_)
  · refine lv_iconst (pc := 14) (v := 0) hx hb dX7_hasPart_14 (by decide) ?_
    exact M_retz (pc := 15) (v := 0) X P (by rw [m_hasPart, if_pos c_1]) rfl dX7_hasPart_15
  · refine lv_iconst (pc := 10) (v := 1) hx hb dX7_hasPart_10 (by decide) ?_
    refine lv_goto (pc := 11) (tgt := 15) hx hb dX7_hasPart_11 (by decide) ?_
    exact M_retz (pc := 15) (v := 1) X P (by rw [m_hasPart, if_neg c_1]) rfl dX7_hasPart_15
def m_hasRoom (σ : Sg) (p0 : Int32) (p1 : Int32) : Int32 := if (σ.2 4 (ix p0)) < ((σ.2 5 (ix p0)) + p1) then 0 else 1
abbrev rX7_hasRoom : Room := { frames := 0, cells := 0, slots := 0, locals := 0 }
theorem fnX7_hasRoom : Fn yX7_hasRoom wsX7_hasRoom cX7_hasRoom 3 (some .boolean) 2 rX7_hasRoom 0 0 := ⟨⟨_, rfl⟩, rfl, rfl, by decide +kernel⟩
theorem inX7_hasRoom : ∀ w ∈ wsX70, w ∈ wsX7_hasRoom := fun w h => List.mem_cons_of_mem _ (List.mem_append_right _ h)
set_option maxHeartbeats 4000000 in
set_option maxRecDepth 100000 in
theorem kX7_hasRoom (l : Launch) (D : va_G) (cI : ClassId) (m0 : Nat) (as : Nat → Nat) (th : Int32) (σ : Sg) (p0 : Int32) (p1 : Int32) (h0 : vp_in p0 10) : M_Mi l yX7_hasRoom wsX7_hasRoom rX7_hasRoom D cI m0 as th σ [.int p0, .int p1] ((th, m_hasRoom σ p0 p1, σ)) := by
  refine M_body (n := 2) (Qc := fun A => M_Qi D cI m0 as ((th, m_hasRoom σ p0 p1, σ)) A) rfl fnX7_hasRoom inX7_hasRoom (Nat.le_of_ble_eq_true rfl) ?_
  intro p e s m args below meth c X A P ls hl
  have hx := X.1.1
  have hb := X.1.2.1
  have hown := X.1.2.2.2.1
  have hts := X.1.2.2.2.2.1
  have hl : lv_has ls 3 [(0, .ref m0), (1, .int p0), (2, .int p1)] := hl
  refine lv_aload_n (pc := 0) hx hb dX7_hasRoom_0 rfl (lv_at hl 0 rfl) ?_
  refine M_get (pc := 1) (v := .ref (as 5)) X P 5 (Nat.le_of_ble_eq_true rfl) (List.mem_of_getElem? (i := 1) rfl) rfl dX7_hasRoom_1 ?_
  refine lv_iload_n (pc := 4) hx hb dX7_hasRoom_4 rfl (lv_at hl 1 rfl) ?_
  refine M_ald (pc := 5) (a := as 5) (n := 10) (f := σ.2 5) X P 3 rfl h0 dX7_hasRoom_5 ?_
  refine lv_iload_n (pc := 6) hx hb dX7_hasRoom_6 rfl (lv_at hl 2 rfl) ?_
  refine lv_iadd (pc := 7) hx hb dX7_hasRoom_7 ?_
  refine lv_aload_n (pc := 8) hx hb dX7_hasRoom_8 rfl (lv_at hl 0 rfl) ?_
  refine M_get (pc := 9) (v := .ref (as 4)) X P 4 (Nat.le_of_ble_eq_true rfl) (List.mem_of_getElem? (i := 2) rfl) rfl dX7_hasRoom_9 ?_
  refine lv_iload_n (pc := 12) hx hb dX7_hasRoom_12 rfl (lv_at hl 1 rfl) ?_
  refine M_ald (pc := 13) (a := as 4) (n := 10) (f := σ.2 4) X P 2 rfl h0 dX7_hasRoom_13 ?_
  refine lv_icmp_gt (pc := 14) (tgt := 21) hx hb dX7_hasRoom_14 (by decide) (fun c_1 : (σ.2 4 (ix p0)) < ((σ.2 5 (ix p0)) + p1) => ?_) (fun c_1 : ¬ (σ.2 4 (ix p0)) < ((σ.2 5 (ix p0)) + p1) => ?_)
  · refine lv_iconst (pc := 21) (v := 0) hx hb dX7_hasRoom_21 (by decide) ?_
    exact M_retz (pc := 22) (v := 0) X P (by rw [m_hasRoom, if_pos c_1]) rfl dX7_hasRoom_22
  · refine lv_iconst (pc := 17) (v := 1) hx hb dX7_hasRoom_17 (by decide) ?_
    refine lv_goto (pc := 18) (tgt := 22) hx hb dX7_hasRoom_18 (by decide) ?_
    exact M_retz (pc := 22) (v := 1) X P (by rw [m_hasRoom, if_neg c_1]) rfl dX7_hasRoom_22
def m_dutyFor (σ : Sg) (p0 : Int32) (p1 : Int32) : Int32 := (((p0.toInt64 * p1.toInt64) / 1000).toInt32)
abbrev rX7_dutyFor : Room := { frames := 0, cells := 0, slots := 0, locals := 0 }
theorem fnX7_dutyFor : Fn yX7_dutyFor wsX7_dutyFor cX7_dutyFor 3 (some .int) 2 rX7_dutyFor 0 0 := ⟨⟨_, rfl⟩, rfl, rfl, by decide +kernel⟩
theorem inX7_dutyFor : True := trivial
set_option maxHeartbeats 4000000 in
set_option maxRecDepth 100000 in
theorem kX7_dutyFor (l : Launch) (D : va_G) (cI : ClassId) (m0 : Nat) (as : Nat → Nat) (th : Int32) (σ : Sg) (p0 : Int32) (p1 : Int32) : M_Mi l yX7_dutyFor wsX7_dutyFor rX7_dutyFor D cI m0 as th σ [.int p0, .int p1] ((th, m_dutyFor σ p0 p1, σ)) := by
  refine M_body (n := 2) (Qc := fun A => M_Qi D cI m0 as ((th, m_dutyFor σ p0 p1, σ)) A) rfl fnX7_dutyFor inX7_dutyFor (Nat.le_of_ble_eq_true rfl) ?_
  intro p e s m args below meth c X A P ls hl
  have hx := X.1.1
  have hb := X.1.2.1
  have hown := X.1.2.2.2.1
  have hts := X.1.2.2.2.2.1
  have hl : lv_has ls 3 [(0, .ref m0), (1, .int p0), (2, .int p1)] := hl
  refine lv_iload_n (pc := 0) hx hb dX7_dutyFor_0 rfl (lv_at hl 1 rfl) ?_
  refine lv_i2l (pc := 1) (v := p0.toInt64) hx hb dX7_dutyFor_1 rfl ?_
  refine lv_iload_n (pc := 2) hx hb dX7_dutyFor_2 rfl (lv_at hl 2 rfl) ?_
  refine lv_i2l (pc := 3) (v := p1.toInt64) hx hb dX7_dutyFor_3 rfl ?_
  refine lv_lmul (pc := 4) hx hb dX7_dutyFor_4 ?_
  refine lv_ldc2 (pc := 5) (v := 1000) hx hb hown (hts _ (List.mem_of_getElem? (i := 1) rfl)) dX7_dutyFor_5 ?_
  refine lv_ldiv (pc := 8) hx hb dX7_dutyFor_8 (by decide) ?_
  refine lv_l2i (pc := 9) (v := ((p0.toInt64 * p1.toInt64) / 1000).toInt32) hx hb dX7_dutyFor_9 rfl ?_
  exact M_ret (pc := 10) (v := ((p0.toInt64 * p1.toInt64) / 1000).toInt32) X P (by rw [m_dutyFor]) dX7_dutyFor_10
def m_with (σ : Sg) (p0 : Int32) (p1 : Int32) (p2 : Int32) : Int32 := if p1 = 0 then ((σ.2 5 (ix p0)) + p1) else if (σ.2 5 (ix p0)) = 0 then ((σ.2 5 (ix p0)) + p1) else if 0 ≤ ((m_strengthOf (σ.2 6 (ix p0)) (σ.2 5 (ix p0))) - (m_strengthOf p2 p1)) then (((σ.2 5 (ix p0)) + p1) - (((m_least (σ.2 5 (ix p0)) p1) * ((m_strengthOf (σ.2 6 (ix p0)) (σ.2 5 (ix p0))) - (m_strengthOf p2 p1))) / 10000)) else (((σ.2 5 (ix p0)) + p1) - (((m_least (σ.2 5 (ix p0)) p1) * (-((m_strengthOf (σ.2 6 (ix p0)) (σ.2 5 (ix p0))) - (m_strengthOf p2 p1)))) / 10000))
abbrev rX7_with : Room := { frames := 1, cells := 0, slots := 0, locals := 21 }
theorem fnX7_with : Fn yX7_with wsX7_with cX7_with 5 (some .int) 3 rX7_with 0 0 := ⟨⟨_, rfl⟩, rfl, rfl, by decide +kernel⟩
theorem inX7_with : ∀ w ∈ wsX70, w ∈ wsX7_with := fun w h => List.mem_cons_of_mem _ (List.mem_append_right _ h)
set_option maxHeartbeats 4000000 in
set_option maxRecDepth 100000 in
theorem kX7_with (l : Launch) (D : va_G) (cI : ClassId) (m0 : Nat) (as : Nat → Nat) (th : Int32) (σ : Sg) (p0 : Int32) (p1 : Int32) (p2 : Int32) (h0 : vp_in p0 10) : M_Mi l yX7_with wsX7_with rX7_with D cI m0 as th σ [.int p0, .int p1, .int p2] ((th, m_with σ p0 p1 p2, σ)) := by
  refine M_body (n := 3) (Qc := fun A => M_Qi D cI m0 as ((th, m_with σ p0 p1 p2, σ)) A) rfl fnX7_with inX7_with (Nat.le_of_ble_eq_true rfl) ?_
  intro p e s m args below meth c X A P ls hl
  have hx := X.1.1
  have hb := X.1.2.1
  have hown := X.1.2.2.2.1
  have hts := X.1.2.2.2.2.1
  have hl : lv_has ls 5 [(0, .ref m0), (1, .int p0), (2, .int p1), (3, .int p2)] := hl
  refine lv_iload_n (pc := 0) hx hb dX7_with_0 rfl (lv_at hl 2 rfl) ?_
  refine lv_if_eq (pc := 1) (tgt := 13) hx hb dX7_with_1 (by decide) (fun c_1 : p1 = 0 => ?_) (fun c_1 : ¬ p1 = 0 => ?_)
  · refine lv_aload_n (pc := 13) hx hb dX7_with_13 rfl (lv_at hl 0 rfl) ?_
    refine M_get (pc := 14) (v := .ref (as 5)) X P 5 (Nat.le_of_ble_eq_true rfl) (List.mem_of_getElem? (i := 1) rfl) rfl dX7_with_14 ?_
    refine lv_iload_n (pc := 17) hx hb dX7_with_17 rfl (lv_at hl 1 rfl) ?_
    refine M_ald (pc := 18) (a := as 5) (n := 10) (f := σ.2 5) X P 3 rfl h0 dX7_with_18 ?_
    refine lv_iload_n (pc := 19) hx hb dX7_with_19 rfl (lv_at hl 2 rfl) ?_
    refine lv_iadd (pc := 20) hx hb dX7_with_20 ?_
    exact M_ret (pc := 21) (v := (σ.2 5 (ix p0)) + p1) X P (by rw [m_with, if_pos c_1]) dX7_with_21
  · refine lv_aload_n (pc := 4) hx hb dX7_with_4 rfl (lv_at hl 0 rfl) ?_
    refine M_get (pc := 5) (v := .ref (as 5)) X P 5 (Nat.le_of_ble_eq_true rfl) (List.mem_of_getElem? (i := 1) rfl) rfl dX7_with_5 ?_
    refine lv_iload_n (pc := 8) hx hb dX7_with_8 rfl (lv_at hl 1 rfl) ?_
    refine M_ald (pc := 9) (a := as 5) (n := 10) (f := σ.2 5) X P 3 rfl h0 dX7_with_9 ?_
    refine lv_if_ne (pc := 10) (tgt := 22) hx hb dX7_with_10 (by decide) (fun c_2 : ¬ (σ.2 5 (ix p0)) = 0 => ?_) (fun c_2 : (σ.2 5 (ix p0)) = 0 => ?_)
    · refine lv_aload_n (pc := 22) hx hb dX7_with_22 rfl (lv_at hl 0 rfl) ?_
      refine M_get (pc := 23) (v := .ref (as 6)) X P 6 (Nat.le_of_ble_eq_true rfl) (List.mem_of_getElem? (i := 2) rfl) rfl dX7_with_23 ?_
      refine lv_iload_n (pc := 26) hx hb dX7_with_26 rfl (lv_at hl 1 rfl) ?_
      refine M_ald (pc := 27) (a := as 6) (n := 10) (f := σ.2 6) X P 4 rfl h0 dX7_with_27 ?_
      refine lv_aload_n (pc := 28) hx hb dX7_with_28 rfl (lv_at hl 0 rfl) ?_
      refine M_get (pc := 29) (v := .ref (as 5)) X P 5 (Nat.le_of_ble_eq_true rfl) (List.mem_of_getElem? (i := 1) rfl) rfl dX7_with_29 ?_
      refine lv_iload_n (pc := 32) hx hb dX7_with_32 rfl (lv_at hl 1 rfl) ?_
      refine M_ald (pc := 33) (a := as 5) (n := 10) (f := σ.2 5) X P 3 rfl h0 dX7_with_33 ?_
      refine S_call (pc := 34) (As := [.int (σ.2 6 (ix p0)), .int (σ.2 5 (ix p0))]) (rest := []) (r := m_strengthOf (σ.2 6 (ix p0)) (σ.2 5 (ix p0))) X.1 hl.1 (kX7_strengthOf l (σ.2 6 (ix p0)) (σ.2 5 (ix p0))) fnX7_strengthOf gX7_with_X7_strengthOf rfl rfl ⟨Nat.le_of_ble_eq_true rfl, Nat.le_of_ble_eq_true rfl⟩ (Nat.le_of_ble_eq_true rfl) ⟨Nat.le_of_ble_eq_true rfl, Nat.le_of_ble_eq_true rfl⟩ dX7_with_34 ?_
      refine lv_iload_n (pc := 37) hx hb dX7_with_37 rfl (lv_at hl 3 rfl) ?_
      refine lv_iload_n (pc := 38) hx hb dX7_with_38 rfl (lv_at hl 2 rfl) ?_
      refine S_call (pc := 39) (As := [.int p2, .int p1]) (rest := [.int (m_strengthOf (σ.2 6 (ix p0)) (σ.2 5 (ix p0)))]) (r := m_strengthOf p2 p1) X.1 hl.1 (kX7_strengthOf l p2 p1) fnX7_strengthOf gX7_with_X7_strengthOf rfl rfl ⟨Nat.le_of_ble_eq_true rfl, Nat.le_of_ble_eq_true rfl⟩ (Nat.le_of_ble_eq_true rfl) ⟨Nat.le_of_ble_eq_true rfl, Nat.le_of_ble_eq_true rfl⟩ dX7_with_39 ?_
      refine lv_isub (pc := 42) hx hb dX7_with_42 ?_
      refine lv_istore (pc := 43) (lv' := [(4, .int ((m_strengthOf (σ.2 6 (ix p0)) (σ.2 5 (ix p0))) - (m_strengthOf p2 p1))), (0, .ref m0), (1, .int p0), (2, .int p1), (3, .int p2)]) hx hb dX7_with_43 hl (by decide) rfl (fun ls hl => ?_)
      refine lv_aload_n (pc := 45) hx hb dX7_with_45 rfl (lv_at hl 1 rfl) ?_
      refine M_get (pc := 46) (v := .ref (as 5)) X P 5 (Nat.le_of_ble_eq_true rfl) (List.mem_of_getElem? (i := 1) rfl) rfl dX7_with_46 ?_
      refine lv_iload_n (pc := 49) hx hb dX7_with_49 rfl (lv_at hl 2 rfl) ?_
      refine M_ald (pc := 50) (a := as 5) (n := 10) (f := σ.2 5) X P 3 rfl h0 dX7_with_50 ?_
      refine lv_iload_n (pc := 51) hx hb dX7_with_51 rfl (lv_at hl 3 rfl) ?_
      refine lv_iadd (pc := 52) hx hb dX7_with_52 ?_
      refine lv_aload_n (pc := 53) hx hb dX7_with_53 rfl (lv_at hl 1 rfl) ?_
      refine M_get (pc := 54) (v := .ref (as 5)) X P 5 (Nat.le_of_ble_eq_true rfl) (List.mem_of_getElem? (i := 1) rfl) rfl dX7_with_54 ?_
      refine lv_iload_n (pc := 57) hx hb dX7_with_57 rfl (lv_at hl 2 rfl) ?_
      refine M_ald (pc := 58) (a := as 5) (n := 10) (f := σ.2 5) X P 3 rfl h0 dX7_with_58 ?_
      refine lv_iload_n (pc := 59) hx hb dX7_with_59 rfl (lv_at hl 3 rfl) ?_
      refine S_call (pc := 60) (As := [.int (σ.2 5 (ix p0)), .int p1]) (rest := [.int ((σ.2 5 (ix p0)) + p1)]) (r := m_least (σ.2 5 (ix p0)) p1) X.1 hl.1 (kX7_least l (σ.2 5 (ix p0)) p1) fnX7_least gX7_with_X7_least rfl rfl ⟨Nat.le_of_ble_eq_true rfl, Nat.le_of_ble_eq_true rfl⟩ (Nat.le_of_ble_eq_true rfl) ⟨Nat.le_of_ble_eq_true rfl, Nat.le_of_ble_eq_true rfl⟩ dX7_with_60 ?_
      refine lv_iload (pc := 63) hx hb dX7_with_63 (lv_at hl 0 rfl) ?_
      refine lv_if_ge (pc := 65) (tgt := 74) hx hb dX7_with_65 (by decide) (fun c_3 : 0 ≤ ((m_strengthOf (σ.2 6 (ix p0)) (σ.2 5 (ix p0))) - (m_strengthOf p2 p1)) => ?_) (fun c_3 : ¬ 0 ≤ ((m_strengthOf (σ.2 6 (ix p0)) (σ.2 5 (ix p0))) - (m_strengthOf p2 p1)) => ?_)
      · refine lv_iload (pc := 74) hx hb dX7_with_74 (lv_at hl 0 rfl) ?_
        refine lv_imul (pc := 76) hx hb dX7_with_76 ?_
        refine lv_sipush (pc := 77) (v := 10000) hx hb dX7_with_77 (by decide) ?_
        refine lv_idiv (pc := 80) hx hb dX7_with_80 (by decide) ?_
        refine lv_isub (pc := 81) hx hb dX7_with_81 ?_
        exact M_ret (pc := 82) (v := ((σ.2 5 (ix p0)) + p1) - (((m_least (σ.2 5 (ix p0)) p1) * ((m_strengthOf (σ.2 6 (ix p0)) (σ.2 5 (ix p0))) - (m_strengthOf p2 p1))) / 10000)) X P (by rw [m_with, if_neg c_1, if_neg c_2, if_pos c_3]) dX7_with_82
      · refine lv_iload (pc := 68) hx hb dX7_with_68 (lv_at hl 0 rfl) ?_
        refine lv_ineg (pc := 70) hx hb dX7_with_70 ?_
        refine lv_goto (pc := 71) (tgt := 76) hx hb dX7_with_71 (by decide) ?_
        refine lv_imul (pc := 76) hx hb dX7_with_76 ?_
        refine lv_sipush (pc := 77) (v := 10000) hx hb dX7_with_77 (by decide) ?_
        refine lv_idiv (pc := 80) hx hb dX7_with_80 (by decide) ?_
        refine lv_isub (pc := 81) hx hb dX7_with_81 ?_
        exact M_ret (pc := 82) (v := ((σ.2 5 (ix p0)) + p1) - (((m_least (σ.2 5 (ix p0)) p1) * (-((m_strengthOf (σ.2 6 (ix p0)) (σ.2 5 (ix p0))) - (m_strengthOf p2 p1)))) / 10000)) X P (by rw [m_with, if_neg c_1, if_neg c_2, if_neg c_3]) dX7_with_82
    · refine lv_aload_n (pc := 13) hx hb dX7_with_13 rfl (lv_at hl 0 rfl) ?_
      refine M_get (pc := 14) (v := .ref (as 5)) X P 5 (Nat.le_of_ble_eq_true rfl) (List.mem_of_getElem? (i := 1) rfl) rfl dX7_with_14 ?_
      refine lv_iload_n (pc := 17) hx hb dX7_with_17 rfl (lv_at hl 1 rfl) ?_
      refine M_ald (pc := 18) (a := as 5) (n := 10) (f := σ.2 5) X P 3 rfl h0 dX7_with_18 ?_
      refine lv_iload_n (pc := 19) hx hb dX7_with_19 rfl (lv_at hl 2 rfl) ?_
      refine lv_iadd (pc := 20) hx hb dX7_with_20 ?_
      exact M_ret (pc := 21) (v := (σ.2 5 (ix p0)) + p1) X P (by rw [m_with, if_neg c_1, if_pos c_2]) dX7_with_21
def m_comes (σ : Sg) (p0 : Int32) (p1 : Int32) (p2 : Int32) : Sg := (bs (bs σ 5 (ix p0) (m_with σ p0 p1 p2)) 6 (ix p0) ((σ.2 6 (ix p0)) + p2))
abbrev rX7_comes : Room := { frames := 2, cells := 0, slots := 0, locals := 45 }
theorem fnX7_comes : Fn yX7_comes wsX7_comes cX7_comes 4 none 3 rX7_comes 0 0 := ⟨⟨_, rfl⟩, rfl, rfl, by decide +kernel⟩
theorem inX7_comes : ∀ w ∈ wsX70, w ∈ wsX7_comes := fun w h => List.mem_cons_of_mem _ (List.mem_append_right _ h)
set_option maxHeartbeats 4000000 in
set_option maxRecDepth 100000 in
theorem kX7_comes (l : Launch) (D : va_G) (cI : ClassId) (m0 : Nat) (as : Nat → Nat) (th : Int32) (σ : Sg) (p0 : Int32) (p1 : Int32) (p2 : Int32) (h0 : vp_in p0 10) : M_Mv l yX7_comes wsX7_comes rX7_comes D cI m0 as th σ [.int p0, .int p1, .int p2] ((th, 0, m_comes σ p0 p1 p2)) := by
  refine M_body (n := 3) (Qc := fun A => M_Qv D cI m0 as ((th, 0, m_comes σ p0 p1 p2)) A) rfl fnX7_comes inX7_comes (Nat.le_of_ble_eq_true rfl) ?_
  intro p e s m args below meth c X A P ls hl
  have hx := X.1.1
  have hb := X.1.2.1
  have hown := X.1.2.2.2.1
  have hts := X.1.2.2.2.2.1
  have hl : lv_has ls 4 [(0, .ref m0), (1, .int p0), (2, .int p1), (3, .int p2)] := hl
  refine lv_aload_n (pc := 0) hx hb dX7_comes_0 rfl (lv_at hl 0 rfl) ?_
  refine M_get (pc := 1) (v := .ref (as 5)) X P 5 (Nat.le_of_ble_eq_true rfl) (List.mem_of_getElem? (i := 1) rfl) rfl dX7_comes_1 ?_
  refine lv_iload_n (pc := 4) hx hb dX7_comes_4 rfl (lv_at hl 1 rfl) ?_
  refine lv_aload_n (pc := 5) hx hb dX7_comes_5 rfl (lv_at hl 0 rfl) ?_
  refine lv_iload_n (pc := 6) hx hb dX7_comes_6 rfl (lv_at hl 1 rfl) ?_
  refine lv_iload_n (pc := 7) hx hb dX7_comes_7 rfl (lv_at hl 2 rfl) ?_
  refine lv_iload_n (pc := 8) hx hb dX7_comes_8 rfl (lv_at hl 3 rfl) ?_
  refine M_calli (pc := 9) (As := [.int p0, .int p1, .int p2]) (rest := [.int p0, .ref (as 5)]) (f := (th, m_with σ p0 p1 p2, σ)) X P hl.1 (kX7_with l D cI m0 as th σ p0 p1 p2 h0) fnX7_with rfl gX7_comes_X7_with rfl rfl ⟨Nat.le_of_ble_eq_true rfl, Nat.le_of_ble_eq_true rfl⟩ (Nat.le_of_ble_eq_true rfl) ⟨Nat.le_of_ble_eq_true rfl, Nat.le_of_ble_eq_true rfl⟩ dX7_comes_9 (fun H locs (P : Hp D A s (M_W cI m0 as th σ) H locs) => ?_)
  refine M_ast (pc := 12) (x := m_with σ p0 p1 p2) (n := 10) X P 3 5 rfl h0 M_a5 dX7_comes_12 (fun H locs (P : Hp D A s (M_W cI m0 as th (bs σ 5 (ix p0) (m_with σ p0 p1 p2))) H locs) => ?_)
  refine lv_aload_n (pc := 13) hx hb dX7_comes_13 rfl (lv_at hl 0 rfl) ?_
  refine M_get (pc := 14) (v := .ref (as 6)) X P 6 (Nat.le_of_ble_eq_true rfl) (List.mem_of_getElem? (i := 2) rfl) rfl dX7_comes_14 ?_
  refine lv_iload_n (pc := 17) hx hb dX7_comes_17 rfl (lv_at hl 1 rfl) ?_
  refine lv_dup2_11 (pc := 18) hx hb dX7_comes_18 rfl rfl ?_
  refine M_ald (pc := 19) (a := as 6) (n := 10) (f := σ.2 6) X P 4 rfl h0 dX7_comes_19 ?_
  refine lv_iload_n (pc := 20) hx hb dX7_comes_20 rfl (lv_at hl 3 rfl) ?_
  refine lv_iadd (pc := 21) hx hb dX7_comes_21 ?_
  refine M_ast (pc := 22) (x := (σ.2 6 (ix p0)) + p2) (n := 10) X P 4 6 rfl h0 M_a6 dX7_comes_22 (fun H locs (P : Hp D A s (M_W cI m0 as th (bs (bs σ 5 (ix p0) (m_with σ p0 p1 p2)) 6 (ix p0) ((σ.2 6 (ix p0)) + p2))) H locs) => ?_)
  exact M_retv (pc := 23) X P (by rw [m_comes]) dX7_comes_23
def m_takes (σ : Sg) (p0 : Int32) (p1 : Int32) : Int32 × Sg := (m_part (σ.2 6 (ix p0)) p1 (σ.2 5 (ix p0)), (bs (bs σ 6 (ix p0) ((σ.2 6 (ix p0)) - (m_part (σ.2 6 (ix p0)) p1 (σ.2 5 (ix p0))))) 5 (ix p0) ((σ.2 5 (ix p0)) - p1)))
abbrev rX7_takes : Room := { frames := 1, cells := 0, slots := 0, locals := 22 }
theorem fnX7_takes : Fn yX7_takes wsX7_takes cX7_takes 4 (some .int) 2 rX7_takes 0 0 := ⟨⟨_, rfl⟩, rfl, rfl, by decide +kernel⟩
theorem inX7_takes : ∀ w ∈ wsX70, w ∈ wsX7_takes := fun w h => List.mem_cons_of_mem _ (List.mem_append_right _ h)
set_option maxHeartbeats 4000000 in
set_option maxRecDepth 100000 in
theorem kX7_takes (l : Launch) (D : va_G) (cI : ClassId) (m0 : Nat) (as : Nat → Nat) (th : Int32) (σ : Sg) (p0 : Int32) (p1 : Int32) (h0 : vp_in p0 10) (h1 : ¬ σ.2 5 (ix p0) = 0) : M_Mi l yX7_takes wsX7_takes rX7_takes D cI m0 as th σ [.int p0, .int p1] ((th, (m_takes σ p0 p1).1, (m_takes σ p0 p1).2)) := by
  refine M_body (n := 2) (Qc := fun A => M_Qi D cI m0 as ((th, (m_takes σ p0 p1).1, (m_takes σ p0 p1).2)) A) rfl fnX7_takes inX7_takes (Nat.le_of_ble_eq_true rfl) ?_
  intro p e s m args below meth c X A P ls hl
  have hx := X.1.1
  have hb := X.1.2.1
  have hown := X.1.2.2.2.1
  have hts := X.1.2.2.2.2.1
  have hl : lv_has ls 4 [(0, .ref m0), (1, .int p0), (2, .int p1)] := hl
  refine lv_aload_n (pc := 0) hx hb dX7_takes_0 rfl (lv_at hl 0 rfl) ?_
  refine M_get (pc := 1) (v := .ref (as 6)) X P 6 (Nat.le_of_ble_eq_true rfl) (List.mem_of_getElem? (i := 1) rfl) rfl dX7_takes_1 ?_
  refine lv_iload_n (pc := 4) hx hb dX7_takes_4 rfl (lv_at hl 1 rfl) ?_
  refine M_ald (pc := 5) (a := as 6) (n := 10) (f := σ.2 6) X P 4 rfl h0 dX7_takes_5 ?_
  refine lv_iload_n (pc := 6) hx hb dX7_takes_6 rfl (lv_at hl 2 rfl) ?_
  refine lv_aload_n (pc := 7) hx hb dX7_takes_7 rfl (lv_at hl 0 rfl) ?_
  refine M_get (pc := 8) (v := .ref (as 5)) X P 5 (Nat.le_of_ble_eq_true rfl) (List.mem_of_getElem? (i := 2) rfl) rfl dX7_takes_8 ?_
  refine lv_iload_n (pc := 11) hx hb dX7_takes_11 rfl (lv_at hl 1 rfl) ?_
  refine M_ald (pc := 12) (a := as 5) (n := 10) (f := σ.2 5) X P 3 rfl h0 dX7_takes_12 ?_
  refine S_call (pc := 13) (As := [.int (σ.2 6 (ix p0)), .int p1, .int (σ.2 5 (ix p0))]) (rest := []) (r := m_part (σ.2 6 (ix p0)) p1 (σ.2 5 (ix p0))) X.1 hl.1 (kX7_part l (σ.2 6 (ix p0)) p1 (σ.2 5 (ix p0)) h1) fnX7_part gX7_takes_X7_part rfl rfl ⟨Nat.le_of_ble_eq_true rfl, Nat.le_of_ble_eq_true rfl⟩ (Nat.le_of_ble_eq_true rfl) ⟨Nat.le_of_ble_eq_true rfl, Nat.le_of_ble_eq_true rfl⟩ dX7_takes_13 ?_
  refine lv_istore_n (pc := 16) (lv' := [(3, .int (m_part (σ.2 6 (ix p0)) p1 (σ.2 5 (ix p0)))), (0, .ref m0), (1, .int p0), (2, .int p1)]) hx hb dX7_takes_16 rfl hl (by decide) rfl (fun ls hl => ?_)
  refine lv_aload_n (pc := 17) hx hb dX7_takes_17 rfl (lv_at hl 1 rfl) ?_
  refine M_get (pc := 18) (v := .ref (as 6)) X P 6 (Nat.le_of_ble_eq_true rfl) (List.mem_of_getElem? (i := 1) rfl) rfl dX7_takes_18 ?_
  refine lv_iload_n (pc := 21) hx hb dX7_takes_21 rfl (lv_at hl 2 rfl) ?_
  refine lv_dup2_11 (pc := 22) hx hb dX7_takes_22 rfl rfl ?_
  refine M_ald (pc := 23) (a := as 6) (n := 10) (f := σ.2 6) X P 4 rfl h0 dX7_takes_23 ?_
  refine lv_iload_n (pc := 24) hx hb dX7_takes_24 rfl (lv_at hl 0 rfl) ?_
  refine lv_isub (pc := 25) hx hb dX7_takes_25 ?_
  refine M_ast (pc := 26) (x := (σ.2 6 (ix p0)) - (m_part (σ.2 6 (ix p0)) p1 (σ.2 5 (ix p0)))) (n := 10) X P 4 6 rfl h0 M_a6 dX7_takes_26 (fun H locs (P : Hp D A s (M_W cI m0 as th (bs σ 6 (ix p0) ((σ.2 6 (ix p0)) - (m_part (σ.2 6 (ix p0)) p1 (σ.2 5 (ix p0)))))) H locs) => ?_)
  refine lv_aload_n (pc := 27) hx hb dX7_takes_27 rfl (lv_at hl 1 rfl) ?_
  refine M_get (pc := 28) (v := .ref (as 5)) X P 5 (Nat.le_of_ble_eq_true rfl) (List.mem_of_getElem? (i := 2) rfl) rfl dX7_takes_28 ?_
  refine lv_iload_n (pc := 31) hx hb dX7_takes_31 rfl (lv_at hl 2 rfl) ?_
  refine lv_dup2_11 (pc := 32) hx hb dX7_takes_32 rfl rfl ?_
  refine M_ald (pc := 33) (a := as 5) (n := 10) (f := σ.2 5) X P 3 rfl h0 dX7_takes_33 ?_
  refine lv_iload_n (pc := 34) hx hb dX7_takes_34 rfl (lv_at hl 3 rfl) ?_
  refine lv_isub (pc := 35) hx hb dX7_takes_35 ?_
  refine M_ast (pc := 36) (x := (σ.2 5 (ix p0)) - p1) (n := 10) X P 3 5 rfl h0 M_a5 dX7_takes_36 (fun H locs (P : Hp D A s (M_W cI m0 as th (bs (bs σ 6 (ix p0) ((σ.2 6 (ix p0)) - (m_part (σ.2 6 (ix p0)) p1 (σ.2 5 (ix p0))))) 5 (ix p0) ((σ.2 5 (ix p0)) - p1))) H locs) => ?_)
  refine lv_iload_n (pc := 37) hx hb dX7_takes_37 rfl (lv_at hl 0 rfl) ?_
  exact M_ret (pc := 38) (v := m_part (σ.2 6 (ix p0)) p1 (σ.2 5 (ix p0))) X P (by rw [m_takes]) dX7_takes_38
def m_misses (σ : Sg) (p0 : Int32) : Int32 × Sg := (m_dutyFor (bs σ 10 5 ((σ.2 10 5) + p0)) p0 (σ.1 11), (zs (bs σ 10 5 ((σ.2 10 5) + p0)) 12 ((σ.1 12) + (m_dutyFor (bs σ 10 5 ((σ.2 10 5) + p0)) p0 (σ.1 11)))))
abbrev rX7_misses : Room := { frames := 1, cells := 0, slots := 0, locals := 22 }
theorem fnX7_misses : Fn yX7_misses wsX7_misses cX7_misses 3 (some .int) 1 rX7_misses 0 0 := ⟨⟨_, rfl⟩, rfl, rfl, by decide +kernel⟩
theorem inX7_misses : ∀ w ∈ wsX70, w ∈ wsX7_misses := fun w h => List.mem_cons_of_mem _ (List.mem_append_right _ h)
set_option maxHeartbeats 4000000 in
set_option maxRecDepth 100000 in
theorem kX7_misses (l : Launch) (D : va_G) (cI : ClassId) (m0 : Nat) (as : Nat → Nat) (th : Int32) (σ : Sg) (p0 : Int32) : M_Mi l yX7_misses wsX7_misses rX7_misses D cI m0 as th σ [.int p0] ((th, (m_misses σ p0).1, (m_misses σ p0).2)) := by
  refine M_body (n := 1) (Qc := fun A => M_Qi D cI m0 as ((th, (m_misses σ p0).1, (m_misses σ p0).2)) A) rfl fnX7_misses inX7_misses (Nat.le_of_ble_eq_true rfl) ?_
  intro p e s m args below meth c X A P ls hl
  have hx := X.1.1
  have hb := X.1.2.1
  have hown := X.1.2.2.2.1
  have hts := X.1.2.2.2.2.1
  have hl : lv_has ls 3 [(0, .ref m0), (1, .int p0)] := hl
  refine lv_aload_n (pc := 0) hx hb dX7_misses_0 rfl (lv_at hl 0 rfl) ?_
  refine M_get (pc := 1) (v := .ref (as 10)) X P 10 (Nat.le_of_ble_eq_true rfl) (List.mem_of_getElem? (i := 1) rfl) rfl dX7_misses_1 ?_
  refine lv_iconst (pc := 4) (v := 5) hx hb dX7_misses_4 (by decide) ?_
  refine lv_dup2_11 (pc := 5) hx hb dX7_misses_5 rfl rfl ?_
  refine M_ald (pc := 6) (a := as 10) (n := 8) (f := σ.2 10) X P 6 rfl (vp_dec (by decide)) dX7_misses_6 ?_
  refine lv_iload_n (pc := 7) hx hb dX7_misses_7 rfl (lv_at hl 1 rfl) ?_
  refine lv_iadd (pc := 8) hx hb dX7_misses_8 ?_
  refine M_ast (pc := 9) (x := (σ.2 10 5) + p0) (n := 8) X P 6 10 rfl (vp_dec (by decide)) M_a10 dX7_misses_9 (fun H locs (P : Hp D A s (M_W cI m0 as th (bs σ 10 5 ((σ.2 10 5) + p0))) H locs) => ?_)
  refine lv_aload_n (pc := 10) hx hb dX7_misses_10 rfl (lv_at hl 0 rfl) ?_
  refine lv_iload_n (pc := 11) hx hb dX7_misses_11 rfl (lv_at hl 1 rfl) ?_
  refine lv_aload_n (pc := 12) hx hb dX7_misses_12 rfl (lv_at hl 0 rfl) ?_
  refine M_get (pc := 13) (v := .int (σ.1 11)) X P 11 (Nat.le_of_ble_eq_true rfl) (List.mem_of_getElem? (i := 2) rfl) rfl dX7_misses_13 ?_
  refine M_calli (pc := 16) (As := [.int p0, .int (σ.1 11)]) (rest := []) (f := (th, m_dutyFor (bs σ 10 5 ((σ.2 10 5) + p0)) p0 (σ.1 11), (bs σ 10 5 ((σ.2 10 5) + p0)))) X P hl.1 (kX7_dutyFor l D cI m0 as th (bs σ 10 5 ((σ.2 10 5) + p0)) p0 (σ.1 11)) fnX7_dutyFor rfl gX7_misses_X7_dutyFor rfl rfl ⟨Nat.le_of_ble_eq_true rfl, Nat.le_of_ble_eq_true rfl⟩ (Nat.le_of_ble_eq_true rfl) ⟨Nat.le_of_ble_eq_true rfl, Nat.le_of_ble_eq_true rfl⟩ dX7_misses_16 (fun H locs (P : Hp D A s (M_W cI m0 as th (bs σ 10 5 ((σ.2 10 5) + p0))) H locs) => ?_)
  refine lv_istore_n (pc := 19) (lv' := [(2, .int (m_dutyFor (bs σ 10 5 ((σ.2 10 5) + p0)) p0 (σ.1 11))), (0, .ref m0), (1, .int p0)]) hx hb dX7_misses_19 rfl hl (by decide) rfl (fun ls hl => ?_)
  refine lv_aload_n (pc := 20) hx hb dX7_misses_20 rfl (lv_at hl 1 rfl) ?_
  refine lv_dup (pc := 21) hx hb dX7_misses_21 rfl ?_
  refine M_get (pc := 22) (v := .int (σ.1 12)) X P 12 (Nat.le_of_ble_eq_true rfl) (List.mem_of_getElem? (i := 3) rfl) rfl dX7_misses_22 ?_
  refine lv_iload_n (pc := 25) hx hb dX7_misses_25 rfl (lv_at hl 0 rfl) ?_
  refine lv_iadd (pc := 26) hx hb dX7_misses_26 ?_
  refine M_putS (pc := 27) (v := (σ.1 12) + (m_dutyFor (bs σ 10 5 ((σ.2 10 5) + p0)) p0 (σ.1 11))) X P 12 (Nat.le_of_ble_eq_true rfl) (List.mem_of_getElem? (i := 3) rfl) rfl rfl M_s12 dX7_misses_27 (fun H locs (P : Hp D A s (M_W cI m0 as th (zs (bs σ 10 5 ((σ.2 10 5) + p0)) 12 ((σ.1 12) + (m_dutyFor (bs σ 10 5 ((σ.2 10 5) + p0)) p0 (σ.1 11))))) H locs) => ?_)
  refine lv_iload_n (pc := 30) hx hb dX7_misses_30 rfl (lv_at hl 0 rfl) ?_
  exact M_ret (pc := 31) (v := m_dutyFor (bs σ 10 5 ((σ.2 10 5) + p0)) p0 (σ.1 11)) X P (by rw [m_misses]) dX7_misses_31
def m_asksPart (σ : Sg) (p0 : Int32) (p1 : Int32) : Int32 × Int32 := if (m_isVessel σ p0) = 0 then (1, 0) else if 1 ≤ p1 then (if (m_hasPart σ p0 p1) = 0 then (3, 0) else (0, 1)) else (2, 0)
abbrev rX7_asksPart : Room := { frames := 2, cells := 0, slots := 0, locals := 43 }
theorem fnX7_asksPart : Fn yX7_asksPart wsX7_asksPart cX7_asksPart 3 (some .boolean) 2 rX7_asksPart 0 0 := ⟨⟨_, rfl⟩, rfl, rfl, by decide +kernel⟩
theorem inX7_asksPart : ∀ w ∈ wsX70, w ∈ wsX7_asksPart := fun w h => List.mem_cons_of_mem _ (List.mem_append_right _ h)
set_option maxHeartbeats 4000000 in
set_option maxRecDepth 100000 in
theorem kX7_asksPart (l : Launch) (D : va_G) (cI : ClassId) (m0 : Nat) (as : Nat → Nat) (th : Int32) (σ : Sg) (p0 : Int32) (p1 : Int32) (h0 : Cnt σ 2 10) : M_Mi l yX7_asksPart wsX7_asksPart rX7_asksPart D cI m0 as th σ [.int p0, .int p1] (((m_asksPart σ p0 p1).1, (m_asksPart σ p0 p1).2, σ)) := by
  refine M_body (n := 2) (Qc := fun A => M_Qi D cI m0 as (((m_asksPart σ p0 p1).1, (m_asksPart σ p0 p1).2, σ)) A) rfl fnX7_asksPart inX7_asksPart (Nat.le_of_ble_eq_true rfl) ?_
  intro p e s m args below meth c X A P ls hl
  have hx := X.1.1
  have hb := X.1.2.1
  have hown := X.1.2.2.2.1
  have hts := X.1.2.2.2.2.1
  have hl : lv_has ls 3 [(0, .ref m0), (1, .int p0), (2, .int p1)] := hl
  refine lv_aload_n (pc := 0) hx hb dX7_asksPart_0 rfl (lv_at hl 0 rfl) ?_
  refine lv_aload_n (pc := 1) hx hb dX7_asksPart_1 rfl (lv_at hl 0 rfl) ?_
  refine lv_iload_n (pc := 2) hx hb dX7_asksPart_2 rfl (lv_at hl 1 rfl) ?_
  refine M_calli (pc := 3) (As := [.int p0]) (rest := [.ref m0]) (f := (th, m_isVessel σ p0, σ)) X P hl.1 (kX7_isVessel l D cI m0 as th σ p0) fnX7_isVessel rfl gX7_asksPart_X7_isVessel rfl rfl ⟨Nat.le_of_ble_eq_true rfl, Nat.le_of_ble_eq_true rfl⟩ (Nat.le_of_ble_eq_true rfl) ⟨Nat.le_of_ble_eq_true rfl, Nat.le_of_ble_eq_true rfl⟩ dX7_asksPart_3 (fun H locs (P : Hp D A s (M_W cI m0 as th σ) H locs) => ?_)
  refine lv_if_ne (pc := 6) (tgt := 13) hx hb dX7_asksPart_6 (by decide) (fun c_1 : ¬ (m_isVessel σ p0) = 0 => ?_) (fun c_1 : (m_isVessel σ p0) = 0 => ?_)
  · have hv_2 : vp_in p0 10 := isV_in h0 c_1
    refine lv_iload_n (pc := 13) hx hb dX7_asksPart_13 rfl (lv_at hl 2 rfl) ?_
    refine lv_iconst (pc := 14) (v := 1) hx hb dX7_asksPart_14 (by decide) ?_
    refine lv_icmp_ge (pc := 15) (tgt := 22) hx hb dX7_asksPart_15 (by decide) (fun c_3 : 1 ≤ p1 => ?_) (fun c_3 : ¬ 1 ≤ p1 => ?_)
    · refine lv_aload_n (pc := 22) hx hb dX7_asksPart_22 rfl (lv_at hl 0 rfl) ?_
      refine lv_iload_n (pc := 23) hx hb dX7_asksPart_23 rfl (lv_at hl 1 rfl) ?_
      refine lv_iload_n (pc := 24) hx hb dX7_asksPart_24 rfl (lv_at hl 2 rfl) ?_
      refine M_calli (pc := 25) (As := [.int p0, .int p1]) (rest := [.ref m0]) (f := (th, m_hasPart σ p0 p1, σ)) X P hl.1 (kX7_hasPart l D cI m0 as th σ p0 p1 hv_2) fnX7_hasPart rfl gX7_asksPart_X7_hasPart rfl rfl ⟨Nat.le_of_ble_eq_true rfl, Nat.le_of_ble_eq_true rfl⟩ (Nat.le_of_ble_eq_true rfl) ⟨Nat.le_of_ble_eq_true rfl, Nat.le_of_ble_eq_true rfl⟩ dX7_asksPart_25 (fun H locs (P : Hp D A s (M_W cI m0 as th σ) H locs) => ?_)
      refine lv_if_eq (pc := 28) (tgt := 35) hx hb dX7_asksPart_28 (by decide) (fun c_4 : (m_hasPart σ p0 p1) = 0 => ?_) (fun c_4 : ¬ (m_hasPart σ p0 p1) = 0 => ?_)
      · refine lv_iconst (pc := 35) (v := 3) hx hb dX7_asksPart_35 (by decide) ?_
        refine M_putT (pc := 36) (v := 3) X P (List.mem_of_getElem? (i := 1) rfl) dX7_asksPart_36 (fun H locs (P : Hp D A s (M_W cI m0 as 3 σ) H locs) => ?_)
        refine lv_aload_n (pc := 39) hx hb dX7_asksPart_39 rfl (lv_at hl 0 rfl) ?_
        refine M_get (pc := 40) (v := .int 3) X P 0 (Nat.le_of_ble_eq_true rfl) (List.mem_of_getElem? (i := 1) rfl) rfl dX7_asksPart_40 ?_
        refine lv_if_ne (pc := 43) (tgt := 50) hx hb dX7_asksPart_43 (by decide) (fun _ => ?_) (fun h => absurd h (by decide))
        refine lv_iconst (pc := 50) (v := 0) hx hb dX7_asksPart_50 (by decide) ?_
        exact M_retz (pc := 51) (v := 0) X P (by rw [m_asksPart, if_neg c_1, if_pos c_3, if_pos c_4]) rfl dX7_asksPart_51
      · refine lv_iconst (pc := 31) (v := 0) hx hb dX7_asksPart_31 (by decide) ?_
        refine lv_goto (pc := 32) (tgt := 36) hx hb dX7_asksPart_32 (by decide) ?_
        refine M_putT (pc := 36) (v := 0) X P (List.mem_of_getElem? (i := 1) rfl) dX7_asksPart_36 (fun H locs (P : Hp D A s (M_W cI m0 as 0 σ) H locs) => ?_)
        refine lv_aload_n (pc := 39) hx hb dX7_asksPart_39 rfl (lv_at hl 0 rfl) ?_
        refine M_get (pc := 40) (v := .int 0) X P 0 (Nat.le_of_ble_eq_true rfl) (List.mem_of_getElem? (i := 1) rfl) rfl dX7_asksPart_40 ?_
        refine lv_if_ne (pc := 43) (tgt := 50) hx hb dX7_asksPart_43 (by decide) (fun h => absurd h (by decide)) (fun _ => ?_)
        refine lv_iconst (pc := 46) (v := 1) hx hb dX7_asksPart_46 (by decide) ?_
        refine lv_goto (pc := 47) (tgt := 51) hx hb dX7_asksPart_47 (by decide) ?_
        exact M_retz (pc := 51) (v := 1) X P (by rw [m_asksPart, if_neg c_1, if_pos c_3, if_neg c_4]) rfl dX7_asksPart_51
    · refine lv_iconst (pc := 18) (v := 2) hx hb dX7_asksPart_18 (by decide) ?_
      refine lv_goto (pc := 19) (tgt := 36) hx hb dX7_asksPart_19 (by decide) ?_
      refine M_putT (pc := 36) (v := 2) X P (List.mem_of_getElem? (i := 1) rfl) dX7_asksPart_36 (fun H locs (P : Hp D A s (M_W cI m0 as 2 σ) H locs) => ?_)
      refine lv_aload_n (pc := 39) hx hb dX7_asksPart_39 rfl (lv_at hl 0 rfl) ?_
      refine M_get (pc := 40) (v := .int 2) X P 0 (Nat.le_of_ble_eq_true rfl) (List.mem_of_getElem? (i := 1) rfl) rfl dX7_asksPart_40 ?_
      refine lv_if_ne (pc := 43) (tgt := 50) hx hb dX7_asksPart_43 (by decide) (fun _ => ?_) (fun h => absurd h (by decide))
      refine lv_iconst (pc := 50) (v := 0) hx hb dX7_asksPart_50 (by decide) ?_
      exact M_retz (pc := 51) (v := 0) X P (by rw [m_asksPart, if_neg c_1, if_neg c_3]) rfl dX7_asksPart_51
  · refine lv_iconst (pc := 9) (v := 1) hx hb dX7_asksPart_9 (by decide) ?_
    refine lv_goto (pc := 10) (tgt := 36) hx hb dX7_asksPart_10 (by decide) ?_
    refine M_putT (pc := 36) (v := 1) X P (List.mem_of_getElem? (i := 1) rfl) dX7_asksPart_36 (fun H locs (P : Hp D A s (M_W cI m0 as 1 σ) H locs) => ?_)
    refine lv_aload_n (pc := 39) hx hb dX7_asksPart_39 rfl (lv_at hl 0 rfl) ?_
    refine M_get (pc := 40) (v := .int 1) X P 0 (Nat.le_of_ble_eq_true rfl) (List.mem_of_getElem? (i := 1) rfl) rfl dX7_asksPart_40 ?_
    refine lv_if_ne (pc := 43) (tgt := 50) hx hb dX7_asksPart_43 (by decide) (fun _ => ?_) (fun h => absurd h (by decide))
    refine lv_iconst (pc := 50) (v := 0) hx hb dX7_asksPart_50 (by decide) ?_
    exact M_retz (pc := 51) (v := 0) X P (by rw [m_asksPart, if_pos c_1]) rfl dX7_asksPart_51
def m_inLots (σ : Sg) : Int32 := sm (σ.2 19) (ix (σ.1 18))
abbrev rX7_inLots : Room := { frames := 0, cells := 0, slots := 0, locals := 0 }
theorem fnX7_inLots : Fn yX7_inLots wsX7_inLots cX7_inLots 3 (some .int) 0 rX7_inLots 0 0 := ⟨⟨_, rfl⟩, rfl, rfl, by decide +kernel⟩
theorem inX7_inLots : ∀ w ∈ wsX70, w ∈ wsX7_inLots := fun w h => List.mem_cons_of_mem _ (List.mem_append_right _ h)
set_option maxHeartbeats 4000000 in
set_option maxRecDepth 100000 in
theorem kX7_inLots (l : Launch) (D : va_G) (cI : ClassId) (m0 : Nat) (as : Nat → Nat) (th : Int32) (σ : Sg) (h0 : Cnt σ 18 100) : M_Mi l yX7_inLots wsX7_inLots rX7_inLots D cI m0 as th σ [] ((th, m_inLots σ, σ)) := by
  refine M_body (n := 0) (Qc := fun A => M_Qi D cI m0 as ((th, m_inLots σ, σ)) A) rfl fnX7_inLots inX7_inLots (Nat.le_of_ble_eq_true rfl) ?_
  intro p e s m args below meth c X A P ls hl
  have hx := X.1.1
  have hb := X.1.2.1
  have hown := X.1.2.2.2.1
  have hts := X.1.2.2.2.2.1
  have hl : lv_has ls 3 [(0, .ref m0)] := hl
  have loop : ∀ (n k : Nat), k ≤ ix (σ.1 18) → ix (σ.1 18) < k + n → ∀ (H : Heap) (locs : List Loc) (P : Hp D A s (M_W cI m0 as th σ) H locs) (ls : Array Slot), lv_has ls 3 [(2, .int (nI k)), (1, .int (sm (σ.2 19) k)), (0, .ref m0)] → W p l e rX7_inLots s m args below meth c H locs 0 0 (MQ below (M_Qi D cI m0 as ((th, m_inLots σ, σ)) A) args s 0 0 A) (F0 m 4 ls []) := by
    intro n
    induction n with
    | zero => intro k h1 h2; exact absurd h2 (by omega)
    | succ n ih =>
      intro k h1 h2 H locs P ls hl
      refine lv_iload_n (pc := 4) hx hb dX7_inLots_4 rfl (lv_at hl 0 rfl) ?_
      refine lv_aload_n (pc := 5) hx hb dX7_inLots_5 rfl (lv_at hl 2 rfl) ?_
      refine M_get (pc := 6) (v := .int (σ.1 18)) X P 18 (Nat.le_of_ble_eq_true rfl) (List.mem_of_getElem? (i := 1) rfl) rfl dX7_inLots_6 ?_
      refine lv_icmp_ge (pc := 9) (tgt := 27) hx hb dX7_inLots_9 (by decide) (fun c_1 : (σ.1 18) ≤ (nI k) => ?_) (fun c_1 : ¬ (σ.1 18) ≤ (nI k) => ?_)
      · have e_k_2 : k = ix (σ.1 18) := lp_end h0 c_1 h1
        refine lv_iload_n (pc := 27) hx hb dX7_inLots_27 rfl (lv_at hl 1 rfl) ?_
        exact M_ret (pc := 28) (v := sm (σ.2 19) k) X P (by rw [m_inLots, e_k_2]) dX7_inLots_28
      · have hk_3 : k < ix (σ.1 18) := lp_in h0 c_1 h1
        have hk_4 : k < 100 := Nat.lt_of_lt_of_le (lp_in h0 c_1 h1) h0.2
        refine lv_iload_n (pc := 12) hx hb dX7_inLots_12 rfl (lv_at hl 1 rfl) ?_
        refine lv_aload_n (pc := 13) hx hb dX7_inLots_13 rfl (lv_at hl 2 rfl) ?_
        refine M_get (pc := 14) (v := .ref (as 19)) X P 19 (Nat.le_of_ble_eq_true rfl) (List.mem_of_getElem? (i := 2) rfl) rfl dX7_inLots_14 ?_
        refine lv_iload_n (pc := 17) hx hb dX7_inLots_17 rfl (lv_at hl 0 rfl) ?_
        refine M_aldN (pc := 18) (a := as 19) (n := 100) (f := σ.2 19) X P 7 rfl (k := k) hk_4 (by decide) dX7_inLots_18 ?_
        refine lv_iadd (pc := 19) hx hb dX7_inLots_19 ?_
        refine lv_istore_n (pc := 20) (lv' := [(1, .int ((sm (σ.2 19) k) + (σ.2 19 k))), (2, .int (nI k)), (0, .ref m0)]) hx hb dX7_inLots_20 rfl hl (by decide) rfl (fun ls hl => ?_)
        refine lv_iinc (pc := 21) (v := nI (k + 1)) (lv' := [(2, .int (nI (k + 1))), (1, .int ((sm (σ.2 19) k) + (σ.2 19 k))), (0, .ref m0)]) hx hb dX7_inLots_21 hl (k := 1) rfl ((nI_succ k).symm) (by decide) rfl (fun ls hl => ?_)
        refine lv_goto (pc := 24) (tgt := 4) hx hb dX7_inLots_24 (by decide) ?_
        have e_s : sm (σ.2 19) (k + 1) = (sm (σ.2 19) k) + (σ.2 19 k) := rfl
        exact ih (k + 1) hk_3 (by omega) _ _ P ls (by rw [e_s]; exact lv_sub hl [0, 1, 2] rfl)
  refine lv_iconst (pc := 0) (v := 0) hx hb dX7_inLots_0 (by decide) ?_
  refine lv_istore_n (pc := 1) (lv' := [(1, .int 0), (0, .ref m0)]) hx hb dX7_inLots_1 rfl hl (by decide) rfl (fun ls hl => ?_)
  refine lv_iconst (pc := 2) (v := 0) hx hb dX7_inLots_2 (by decide) ?_
  refine lv_istore_n (pc := 3) (lv' := [(2, .int 0), (1, .int 0), (0, .ref m0)]) hx hb dX7_inLots_3 rfl hl (by decide) rfl (fun ls hl => ?_)
  exact loop (ix (σ.1 18) + 1) 0 (Nat.zero_le _) (by omega) _ _ P ls (lv_sub hl [0, 1, 2] rfl)
def m_inVessels (σ : Sg) : Int32 := sm (σ.2 6) (ix (σ.1 2))
abbrev rX7_inVessels : Room := { frames := 0, cells := 0, slots := 0, locals := 0 }
theorem fnX7_inVessels : Fn yX7_inVessels wsX7_inVessels cX7_inVessels 3 (some .int) 0 rX7_inVessels 0 0 := ⟨⟨_, rfl⟩, rfl, rfl, by decide +kernel⟩
theorem inX7_inVessels : ∀ w ∈ wsX70, w ∈ wsX7_inVessels := fun w h => List.mem_cons_of_mem _ (List.mem_append_right _ h)
set_option maxHeartbeats 4000000 in
set_option maxRecDepth 100000 in
theorem kX7_inVessels (l : Launch) (D : va_G) (cI : ClassId) (m0 : Nat) (as : Nat → Nat) (th : Int32) (σ : Sg) (h0 : Cnt σ 2 10) : M_Mi l yX7_inVessels wsX7_inVessels rX7_inVessels D cI m0 as th σ [] ((th, m_inVessels σ, σ)) := by
  refine M_body (n := 0) (Qc := fun A => M_Qi D cI m0 as ((th, m_inVessels σ, σ)) A) rfl fnX7_inVessels inX7_inVessels (Nat.le_of_ble_eq_true rfl) ?_
  intro p e s m args below meth c X A P ls hl
  have hx := X.1.1
  have hb := X.1.2.1
  have hown := X.1.2.2.2.1
  have hts := X.1.2.2.2.2.1
  have hl : lv_has ls 3 [(0, .ref m0)] := hl
  have loop : ∀ (n k : Nat), k ≤ ix (σ.1 2) → ix (σ.1 2) < k + n → ∀ (H : Heap) (locs : List Loc) (P : Hp D A s (M_W cI m0 as th σ) H locs) (ls : Array Slot), lv_has ls 3 [(2, .int (nI k)), (1, .int (sm (σ.2 6) k)), (0, .ref m0)] → W p l e rX7_inVessels s m args below meth c H locs 0 0 (MQ below (M_Qi D cI m0 as ((th, m_inVessels σ, σ)) A) args s 0 0 A) (F0 m 4 ls []) := by
    intro n
    induction n with
    | zero => intro k h1 h2; exact absurd h2 (by omega)
    | succ n ih =>
      intro k h1 h2 H locs P ls hl
      refine lv_iload_n (pc := 4) hx hb dX7_inVessels_4 rfl (lv_at hl 0 rfl) ?_
      refine lv_aload_n (pc := 5) hx hb dX7_inVessels_5 rfl (lv_at hl 2 rfl) ?_
      refine M_get (pc := 6) (v := .int (σ.1 2)) X P 2 (Nat.le_of_ble_eq_true rfl) (List.mem_of_getElem? (i := 1) rfl) rfl dX7_inVessels_6 ?_
      refine lv_icmp_ge (pc := 9) (tgt := 27) hx hb dX7_inVessels_9 (by decide) (fun c_1 : (σ.1 2) ≤ (nI k) => ?_) (fun c_1 : ¬ (σ.1 2) ≤ (nI k) => ?_)
      · have e_k_2 : k = ix (σ.1 2) := lp_end h0 c_1 h1
        refine lv_iload_n (pc := 27) hx hb dX7_inVessels_27 rfl (lv_at hl 1 rfl) ?_
        exact M_ret (pc := 28) (v := sm (σ.2 6) k) X P (by rw [m_inVessels, e_k_2]) dX7_inVessels_28
      · have hk_3 : k < ix (σ.1 2) := lp_in h0 c_1 h1
        have hk_4 : k < 10 := Nat.lt_of_lt_of_le (lp_in h0 c_1 h1) h0.2
        refine lv_iload_n (pc := 12) hx hb dX7_inVessels_12 rfl (lv_at hl 1 rfl) ?_
        refine lv_aload_n (pc := 13) hx hb dX7_inVessels_13 rfl (lv_at hl 2 rfl) ?_
        refine M_get (pc := 14) (v := .ref (as 6)) X P 6 (Nat.le_of_ble_eq_true rfl) (List.mem_of_getElem? (i := 2) rfl) rfl dX7_inVessels_14 ?_
        refine lv_iload_n (pc := 17) hx hb dX7_inVessels_17 rfl (lv_at hl 0 rfl) ?_
        refine M_aldN (pc := 18) (a := as 6) (n := 10) (f := σ.2 6) X P 4 rfl (k := k) hk_4 (by decide) dX7_inVessels_18 ?_
        refine lv_iadd (pc := 19) hx hb dX7_inVessels_19 ?_
        refine lv_istore_n (pc := 20) (lv' := [(1, .int ((sm (σ.2 6) k) + (σ.2 6 k))), (2, .int (nI k)), (0, .ref m0)]) hx hb dX7_inVessels_20 rfl hl (by decide) rfl (fun ls hl => ?_)
        refine lv_iinc (pc := 21) (v := nI (k + 1)) (lv' := [(2, .int (nI (k + 1))), (1, .int ((sm (σ.2 6) k) + (σ.2 6 k))), (0, .ref m0)]) hx hb dX7_inVessels_21 hl (k := 1) rfl ((nI_succ k).symm) (by decide) rfl (fun ls hl => ?_)
        refine lv_goto (pc := 24) (tgt := 4) hx hb dX7_inVessels_24 (by decide) ?_
        have e_s : sm (σ.2 6) (k + 1) = (sm (σ.2 6) k) + (σ.2 6 k) := rfl
        exact ih (k + 1) hk_3 (by omega) _ _ P ls (by rw [e_s]; exact lv_sub hl [0, 1, 2] rfl)
  refine lv_iconst (pc := 0) (v := 0) hx hb dX7_inVessels_0 (by decide) ?_
  refine lv_istore_n (pc := 1) (lv' := [(1, .int 0), (0, .ref m0)]) hx hb dX7_inVessels_1 rfl hl (by decide) rfl (fun ls hl => ?_)
  refine lv_iconst (pc := 2) (v := 0) hx hb dX7_inVessels_2 (by decide) ?_
  refine lv_istore_n (pc := 3) (lv' := [(2, .int 0), (1, .int 0), (0, .ref m0)]) hx hb dX7_inVessels_3 rfl hl (by decide) rfl (fun ls hl => ?_)
  exact loop (ix (σ.1 2) + 1) 0 (Nat.zero_le _) (by omega) _ _ P ls (lv_sub hl [0, 1, 2] rfl)
def mvf (σ : Sg) (k : Nat) : Int32 := if σ.2 23 k = 0 then σ.2 26 k else 0
def m_moving (σ : Sg) : Int32 := sm (mvf σ) (ix (σ.1 22))
abbrev rX7_moving : Room := { frames := 0, cells := 0, slots := 0, locals := 0 }
theorem fnX7_moving : Fn yX7_moving wsX7_moving cX7_moving 3 (some .int) 0 rX7_moving 0 0 := ⟨⟨_, rfl⟩, rfl, rfl, by decide +kernel⟩
theorem inX7_moving : ∀ w ∈ wsX70, w ∈ wsX7_moving := fun w h => List.mem_cons_of_mem _ (List.mem_append_right _ h)
set_option maxHeartbeats 4000000 in
set_option maxRecDepth 100000 in
theorem kX7_moving (l : Launch) (D : va_G) (cI : ClassId) (m0 : Nat) (as : Nat → Nat) (th : Int32) (σ : Sg) (h0 : Cnt σ 22 30) : M_Mi l yX7_moving wsX7_moving rX7_moving D cI m0 as th σ [] ((th, m_moving σ, σ)) := by
  refine M_body (n := 0) (Qc := fun A => M_Qi D cI m0 as ((th, m_moving σ, σ)) A) rfl fnX7_moving inX7_moving (Nat.le_of_ble_eq_true rfl) ?_
  intro p e s m args below meth c X A P ls hl
  have hx := X.1.1
  have hb := X.1.2.1
  have hown := X.1.2.2.2.1
  have hts := X.1.2.2.2.2.1
  have hl : lv_has ls 3 [(0, .ref m0)] := hl
  have loop : ∀ (n k : Nat), k ≤ ix (σ.1 22) → ix (σ.1 22) < k + n → ∀ (H : Heap) (locs : List Loc) (P : Hp D A s (M_W cI m0 as th σ) H locs) (ls : Array Slot), lv_has ls 3 [(2, .int (nI k)), (1, .int (sm (mvf σ) k)), (0, .ref m0)] → W p l e rX7_moving s m args below meth c H locs 0 0 (MQ below (M_Qi D cI m0 as ((th, m_moving σ, σ)) A) args s 0 0 A) (F0 m 4 ls []) := by
    intro n
    induction n with
    | zero => intro k h1 h2; exact absurd h2 (by omega)
    | succ n ih =>
      intro k h1 h2 H locs P ls hl
      refine lv_iload_n (pc := 4) hx hb dX7_moving_4 rfl (lv_at hl 0 rfl) ?_
      refine lv_aload_n (pc := 5) hx hb dX7_moving_5 rfl (lv_at hl 2 rfl) ?_
      refine M_get (pc := 6) (v := .int (σ.1 22)) X P 22 (Nat.le_of_ble_eq_true rfl) (List.mem_of_getElem? (i := 1) rfl) rfl dX7_moving_6 ?_
      refine lv_icmp_ge (pc := 9) (tgt := 40) hx hb dX7_moving_9 (by decide) (fun c_1 : (σ.1 22) ≤ (nI k) => ?_) (fun c_1 : ¬ (σ.1 22) ≤ (nI k) => ?_)
      · have e_k_2 : k = ix (σ.1 22) := lp_end h0 c_1 h1
        refine lv_iload_n (pc := 40) hx hb dX7_moving_40 rfl (lv_at hl 1 rfl) ?_
        exact M_ret (pc := 41) (v := sm (mvf σ) k) X P (by rw [m_moving, e_k_2]) dX7_moving_41
      · have hk_3 : k < ix (σ.1 22) := lp_in h0 c_1 h1
        have hk_4 : k < 30 := Nat.lt_of_lt_of_le (lp_in h0 c_1 h1) h0.2
        refine lv_iload_n (pc := 12) hx hb dX7_moving_12 rfl (lv_at hl 1 rfl) ?_
        refine lv_aload_n (pc := 13) hx hb dX7_moving_13 rfl (lv_at hl 2 rfl) ?_
        refine M_get (pc := 14) (v := .ref (as 23)) X P 23 (Nat.le_of_ble_eq_true rfl) (List.mem_of_getElem? (i := 2) rfl) rfl dX7_moving_14 ?_
        refine lv_iload_n (pc := 17) hx hb dX7_moving_17 rfl (lv_at hl 0 rfl) ?_
        refine M_aldN (pc := 18) (a := as 23) (n := 30) (f := σ.2 23) X P 9 rfl (k := k) hk_4 (by decide) dX7_moving_18 ?_
        refine lv_if_ne (pc := 19) (tgt := 31) hx hb dX7_moving_19 (by decide) (fun c_5 : ¬ (σ.2 23 k) = 0 => ?_) (fun c_5 : (σ.2 23 k) = 0 => ?_)
        · refine lv_iconst (pc := 31) (v := 0) hx hb dX7_moving_31 (by decide) ?_
          refine lv_iadd (pc := 32) hx hb dX7_moving_32 ?_
          refine lv_istore_n (pc := 33) (lv' := [(1, .int ((sm (mvf σ) k) + 0)), (2, .int (nI k)), (0, .ref m0)]) hx hb dX7_moving_33 rfl hl (by decide) rfl (fun ls hl => ?_)
          refine lv_iinc (pc := 34) (v := nI (k + 1)) (lv' := [(2, .int (nI (k + 1))), (1, .int ((sm (mvf σ) k) + 0)), (0, .ref m0)]) hx hb dX7_moving_34 hl (k := 1) rfl ((nI_succ k).symm) (by decide) rfl (fun ls hl => ?_)
          refine lv_goto (pc := 37) (tgt := 4) hx hb dX7_moving_37 (by decide) ?_
          have e_s : sm (mvf σ) (k + 1) = (sm (mvf σ) k) + 0 := by rw [sm_s, mvf, if_neg c_5]
          exact ih (k + 1) hk_3 (by omega) _ _ P ls (by rw [e_s]; exact lv_sub hl [0, 1, 2] rfl)
        · refine lv_aload_n (pc := 22) hx hb dX7_moving_22 rfl (lv_at hl 2 rfl) ?_
          refine M_get (pc := 23) (v := .ref (as 26)) X P 26 (Nat.le_of_ble_eq_true rfl) (List.mem_of_getElem? (i := 3) rfl) rfl dX7_moving_23 ?_
          refine lv_iload_n (pc := 26) hx hb dX7_moving_26 rfl (lv_at hl 0 rfl) ?_
          refine M_aldN (pc := 27) (a := as 26) (n := 30) (f := σ.2 26) X P 12 rfl (k := k) hk_4 (by decide) dX7_moving_27 ?_
          refine lv_goto (pc := 28) (tgt := 32) hx hb dX7_moving_28 (by decide) ?_
          refine lv_iadd (pc := 32) hx hb dX7_moving_32 ?_
          refine lv_istore_n (pc := 33) (lv' := [(1, .int ((sm (mvf σ) k) + (σ.2 26 k))), (2, .int (nI k)), (0, .ref m0)]) hx hb dX7_moving_33 rfl hl (by decide) rfl (fun ls hl => ?_)
          refine lv_iinc (pc := 34) (v := nI (k + 1)) (lv' := [(2, .int (nI (k + 1))), (1, .int ((sm (mvf σ) k) + (σ.2 26 k))), (0, .ref m0)]) hx hb dX7_moving_34 hl (k := 1) rfl ((nI_succ k).symm) (by decide) rfl (fun ls hl => ?_)
          refine lv_goto (pc := 37) (tgt := 4) hx hb dX7_moving_37 (by decide) ?_
          have e_s : sm (mvf σ) (k + 1) = (sm (mvf σ) k) + (σ.2 26 k) := by rw [sm_s, mvf, if_pos c_5]
          exact ih (k + 1) hk_3 (by omega) _ _ P ls (by rw [e_s]; exact lv_sub hl [0, 1, 2] rfl)
  refine lv_iconst (pc := 0) (v := 0) hx hb dX7_moving_0 (by decide) ?_
  refine lv_istore_n (pc := 1) (lv' := [(1, .int 0), (0, .ref m0)]) hx hb dX7_moving_1 rfl hl (by decide) rfl (fun ls hl => ?_)
  refine lv_iconst (pc := 2) (v := 0) hx hb dX7_moving_2 (by decide) ?_
  refine lv_istore_n (pc := 3) (lv' := [(2, .int 0), (1, .int 0), (0, .ref m0)]) hx hb dX7_moving_3 rfl hl (by decide) rfl (fun ls hl => ?_)
  exact loop (ix (σ.1 22) + 1) 0 (Nat.zero_le _) (by omega) _ _ P ls (lv_sub hl [0, 1, 2] rfl)
end
