/-! ===== the law's own rows and small helpers ===== -/
def z_ushr (x y : Int32) : Int32 := (x.toUInt32 >>> (y.toUInt32 &&& Int32.toUInt32 31)).toInt32
def z_low (v n : Int32) : Int32 := z_ushr v 1 - z_ushr v 1 / n * n
def z_cell (xs : Nat → Int32) (N : Nat) (k : Int32) : Int32 := if Int32.ofNat N ≤ k then 1205587469 * (k + 11) else xs (ix k)
/-- the law's nine rows: c v d a g e p m n -/
def Z_W (cI : ClassId) (ar : Nat → Nat) (L : Sg) : va_W := [(ar 0, .inl (cI, 5, .inl (L.2 0))), (ar 1, .inl (cI, 5, .inl (L.2 1))), (ar 2, .inl (cI, 5, .inl (L.2 2))), (ar 3, .inl (cI, 3, .inl (L.2 3))), (ar 4, .inl (cI, 16, .inl (L.2 4))), (ar 5, .inl (cI, 40, .inl (L.2 5))), (ar 6, .inl (cI, 40, .inl (L.2 6))), (ar 7, .inl (cI, 30, .inl (L.2 7))), (ar 8, .inl (cI, 30, .inl (L.2 8)))]
abbrev Z_Qi (D : va_G) (cI : ClassId) (ar : Nat → Nat) (f : Int32 × Sg) (A : Nat → Prop) : Array Value → State → Outcome → State → Prop := va_Qi (fun r (_ : Unit) => r = f.1) (fun _ t => Pic D [(cI, .int)] A (Z_W cI ar f.2) t) A
abbrev Z_Qv (D : va_G) (cI : ClassId) (ar : Nat → Nat) (f : Int32 × Sg) (A : Nat → Prop) : Array Value → State → Outcome → State → Prop := va_Qv (fun (_ : Unit) => True) (fun _ t => Pic D [(cI, .int)] A (Z_W cI ar f.2) t) A
def Z_Mi (l : Launch) (y : MethodName) (ws : List Cond) (rm : Room) (D : va_G) (cI : ClassId) (ar : Nat → Nat) (L : Sg) (As : List Value) (f : Int32 × Sg) : Prop :=
  ∀ sz : Nat, Met l y ws rm (va_Pc As (PreW D [(cI, .int)] sz (Z_W cI ar L))) (Z_Qi D cI ar f (va_A (Z_W cI ar L) sz)) 0 0 (va_A (Z_W cI ar L) sz)
def Z_Mv (l : Launch) (y : MethodName) (ws : List Cond) (rm : Room) (D : va_G) (cI : ClassId) (ar : Nat → Nat) (L : Sg) (As : List Value) (f : Int32 × Sg) : Prop :=
  ∀ sz : Nat, Met l y ws rm (va_Pc As (PreW D [(cI, .int)] sz (Z_W cI ar L))) (Z_Qv D cI ar f (va_A (Z_W cI ar L) sz)) 0 0 (va_A (Z_W cI ar L) sz)
theorem Hp.frame2 {D : va_G} {A : Nat → Prop} {s : State} {ws ws' wr : va_W} {H H1 : Heap} {locs locs1 : List Loc} (P : Hp D A s (ws ++ wr) H locs) (h1 : va_P D vwCl ws' H1) (hD : va_D (va_A ws H.size) ws') (hk : ∀ q : Nat, q < H.size → ¬ va_A ws H.size q → H1[q]? = H[q]?) (hS : va_S A s.heap H1 locs1) : Hp D A s (ws' ++ wr) H1 locs1 := by
  have P2 := P.sub (List.sublist_append_left ws wr)
  have P3 := P.sub (List.sublist_append_right ws wr)
  have hF := va_A_in P2.2.1 P2.2.2.1 P2.2.2.2
  have hn : ∀ q ∈ wr, ¬ va_A ws H.size q.1 := by
    intro q hq
    obtain ⟨k, hk2⟩ := List.mem_iff_getElem?.mp hq
    rintro (⟨i, e, hi⟩ | h)
    · have hi2 : (ws ++ wr)[i]? = some (q.1, e) := by
        rw [List.getElem?_append_left (List.getElem?_eq_some_iff.mp hi).1]; exact hi
      have hk3 : (ws ++ wr)[ws.length + k]? = some q := by
        rw [List.getElem?_append_right (Nat.le_add_right _ _), Nat.add_sub_cancel_left]; exact hk2
      have e1 := P.2.1.1 i (ws.length + k) _ _ hi2 hk3 rfl
      have := (List.getElem?_eq_some_iff.mp hi).1
      omega
    · have := (P3.1 k q hk2).lt
      omega
  refine ⟨?_, va_D.of_nodup ?_ ?_, hS, P.2.2.2⟩
  · intro j q hj
    rcases List.mem_append.mp (List.mem_of_getElem? hj) with h | h
    · obtain ⟨k, hk2⟩ := List.mem_iff_getElem?.mp h
      exact h1 k q hk2
    · obtain ⟨k, hk2⟩ := List.mem_iff_getElem?.mp h
      have hq := P3.1 k q hk2
      exact va_at.kept hq (hk q.1 hq.lt (hn q h))
  · rw [List.map_append, List.nodup_append]
    refine ⟨hD.nodup, P3.2.1.nodup, fun a ha b hb e => ?_⟩
    obtain ⟨q, hq, rfl⟩ := List.mem_map.mp ha
    obtain ⟨r, hr, rfl⟩ := List.mem_map.mp hb
    obtain ⟨k, hk2⟩ := List.mem_iff_getElem?.mp hq
    exact hn r hr (e ▸ hD.2 k q hk2)
  · intro q hq
    rcases List.mem_append.mp hq with h | h
    · obtain ⟨k, hk2⟩ := List.mem_iff_getElem?.mp h
      exact hF _ (hD.2 k q hk2)
    · obtain ⟨k, hk2⟩ := List.mem_iff_getElem?.mp h
      exact P3.2.1.2 k q hk2
section ZR
variable {p : Program} {l : Launch} {e : Env} {R : Room} {s : State} {m : MethodId} {args : Array Value} {below : List Frame} {meth : Method} {c : Code} {H : Heap} {locs : List Loc} {cells slots : Nat} {Q : State → Prop} {cc : ByteArray} {pc : Nat} {ls : Array Slot} {rest st0 : List Value} {Ts : List Cond} {nL : Nat} {D : va_G} {A : Nat → Prop} {ret : Option FieldType} {cI : ClassId} {tys : List (ClassId × FieldType)} {ar : Nat → Nat} {L : Sg} {wl : va_W} {own : String}
theorem lv_mergeI {M : Nat} {T : Int32} (hs : (∀ x : Int32, x = T → W p l e R s m args below meth c H locs cells slots Q (F0 m M ls (.int x :: rest))) → W p l e R s m args below meth c H locs cells slots Q (F0 m pc ls st0)) (hm : ∀ x : Int32, x = T → W p l e R s m args below meth c H locs cells slots Q (F0 m M ls (.int x :: rest))) : W p l e R s m args below meth c H locs cells slots Q (F0 m pc ls st0) := hs hm
theorem Z_ald (C : Cx own p s m args meth c cc nL Ts ret) (K : va_K D vwCl ((cI, .int) :: tys) s) (P : Hp D A s (wl ++ Z_W cI ar L) H locs) {j a n : Nat} {f : Nat → Int32} (hj : (Z_W cI ar L)[j]? = some (a, .inl (cI, n, .inl f))) {i v : Int32} (hi : vp_in i n) (hv : f (ix i) = v) (d : decode cc pc = .ok (.iaload, 1))
    (kk : W p l e R s m args below meth c H locs cells slots Q (F0 m (pc + 1) ls (.int v :: rest))) : W p l e R s m args below meth c H locs cells slots Q (F0 m pc ls (.int i :: .ref a :: rest)) := by
  refine va_iald C.1 C.2.1 K P.1 (wl.length + j) 0 ((app_get _ _ _).trans hj) rfl hi d ?_
  rw [show f i.toNatClampNeg = v from hv]
  exact kk
theorem Z_aldN (C : Cx own p s m args meth c cc nL Ts ret) (K : va_K D vwCl ((cI, .int) :: tys) s) (P : Hp D A s (wl ++ Z_W cI ar L) H locs) {j a n : Nat} {f : Nat → Int32} (hj : (Z_W cI ar L)[j]? = some (a, .inl (cI, n, .inl f))) {k : Nat} {v : Int32} (hk : k < n) (hn : n < 2 ^ 31) (hv : f k = v) (d : decode cc pc = .ok (.iaload, 1))
    (kk : W p l e R s m args below meth c H locs cells slots Q (F0 m (pc + 1) ls (.int v :: rest))) : W p l e R s m args below meth c H locs cells slots Q (F0 m pc ls (.int (nI k) :: .ref a :: rest)) :=
  Z_ald C K P hj (vp_in_nI hk hn) (by rw [show ix (nI k) = k from nI_clamp (Nat.lt_trans hk hn)]; exact hv) d kk
theorem Z_ast (C : Cx own p s m args meth c cc nL Ts ret) (K : va_K D vwCl ((cI, .int) :: tys) s) (P : Hp D A s (wl ++ Z_W cI ar L) H locs) {j a n : Nat} (hj : (Z_W cI ar L)[j]? = some (a, .inl (cI, n, .inl (L.2 j)))) {i x : Int32} (hi : vp_in i n)
    (he : (Z_W cI ar L).set j (a, .inl (cI, n, .inl (upd (L.2 j) (ix i) x))) = Z_W cI ar (bs L j (ix i) x)) (d : decode cc pc = .ok (.iastore, 1))
    (kk : ∀ (H : Heap) (locs : List Loc), Hp D A s (wl ++ Z_W cI ar (bs L j (ix i) x)) H locs → W p l e R s m args below meth c H locs cells slots Q (F0 m (pc + 1) ls rest)) : W p l e R s m args below meth c H locs cells slots Q (F0 m pc ls (.int x :: .int i :: .ref a :: rest)) := by
  refine va_iast C.1 C.2.1 K P.1 P.2.1 P.2.2.1 (wl.length + j) 0 ((app_get _ _ _).trans hj) rfl hi d (fun H1 locs1 h1 h2 h3 => ?_)
  rw [app_set, he] at h1 h2
  exact kk H1 locs1 ⟨h1, h2, h3, P.2.2.2⟩
theorem Z_astN (C : Cx own p s m args meth c cc nL Ts ret) (K : va_K D vwCl ((cI, .int) :: tys) s) (P : Hp D A s (wl ++ Z_W cI ar L) H locs) {j a n : Nat} (hj : (Z_W cI ar L)[j]? = some (a, .inl (cI, n, .inl (L.2 j)))) {k : Nat} {x : Int32} (hk : k < n) (hn : n < 2 ^ 31)
    (he : (Z_W cI ar L).set j (a, .inl (cI, n, .inl (upd (L.2 j) k x))) = Z_W cI ar (bs L j k x)) (d : decode cc pc = .ok (.iastore, 1))
    (kk : ∀ (H : Heap) (locs : List Loc), Hp D A s (wl ++ Z_W cI ar (bs L j k x)) H locs → W p l e R s m args below meth c H locs cells slots Q (F0 m (pc + 1) ls rest)) : W p l e R s m args below meth c H locs cells slots Q (F0 m pc ls (.int x :: .int (nI k) :: .ref a :: rest)) := by
  have e : ix (nI k) = k := nI_clamp (Nat.lt_trans hk hn)
  refine Z_ast C K P hj (vp_in_nI hk hn) (by rw [e]; exact he) d ?_
  rw [e]
  exact kk
theorem Z_calli {y : MethodName} {ws : List Cond} {rm : Room} {bytes : ByteArray} {maxL n index : Nat} {rty : Option FieldType} {As : List Value} {f : Int32 × Sg} (C : Cx own p s m args meth c cc nL Ts ret) (K : va_K D vwCl ((cI, .int) :: tys) s) (P : Hp D A s (wl ++ Z_W cI ar L) H locs) (hl : ls.size = nL) (hM : Z_Mi l y ws rm D cI ar L As f) (hf : Fn y ws bytes maxL rty n rm 0 0)
    (g : GoodIn Ts (va_wsS own index y ws)) (hn : As.length = n) (hst : st0 = As.reverse ++ rest) (hR : rm.frames + 1 ≤ R.frames ∧ 8 + (maxL + 11) + rm.locals ≤ R.locals) (hcat : (rest.map fun v => v.category).sum ≤ 8) (hz : cells + 0 ≤ R.cells ∧ slots + 0 ≤ R.slots)
    (d : decode cc pc = .ok (.invokestatic index, 3)) (kk : ∀ (H : Heap) (locs : List Loc), Hp D A s (wl ++ Z_W cI ar f.2) H locs → W p l e R s m args below meth c H locs cells slots Q (F0 m (pc + 3) ls (.int f.1 :: rest))) : W p l e R s m args below meth c H locs cells slots Q (F0 m pc ls st0) := by
  obtain ⟨⟨ws', hw⟩, hrc, hrs, hd⟩ := hf
  have P0 := P.perm (List.perm_append_comm (l₁ := Z_W cI ar L) (l₂ := wl))
  have P2 := P0.sub (List.sublist_append_left _ wl)
  have hF := va_A_in P2.2.1 P2.2.2.1 P2.2.2.2
  have K1 : va_K D vwCl [(cI, .int)] s := K.sub [0] rfl
  refine va_calli (va_runS C.fix (hM H.size) (va_cwS n C.2.2.2.2.1 g hw hrc hrs hd hR) ⟨preW_blind, fun U hU hW => ⟨rfl, by rw [hU], by rw [hU]; exact P2.1, va_K.moved hW.alike K1, P2.2.1.weaken (fun _ _ _ _ => trivial)⟩⟩ rfl hn hl hst (lv_room hcat) d hz) P2.2.2.1 (fun q _ h => hF q h) hF (fun r u t H1 locs1 ht hvm hw hB hz1 hk1 hS => ?_)
  obtain ⟨hP1, -, hD1⟩ := hB
  rw [ht] at hP1
  rw [hw]
  exact kk H1 locs1 ((P0.frame2 hP1 hD1 hk1 hS).perm List.perm_append_comm)
theorem Z_callv {y : MethodName} {ws : List Cond} {rm : Room} {bytes : ByteArray} {maxL n index : Nat} {rty : Option FieldType} {As : List Value} {f : Int32 × Sg} (C : Cx own p s m args meth c cc nL Ts ret) (K : va_K D vwCl ((cI, .int) :: tys) s) (P : Hp D A s (wl ++ Z_W cI ar L) H locs) (hl : ls.size = nL) (hM : Z_Mv l y ws rm D cI ar L As f) (hf : Fn y ws bytes maxL rty n rm 0 0)
    (g : GoodIn Ts (va_wsS own index y ws)) (hn : As.length = n) (hst : st0 = As.reverse ++ rest) (hR : rm.frames + 1 ≤ R.frames ∧ 8 + (maxL + 11) + rm.locals ≤ R.locals) (hcat : (rest.map fun v => v.category).sum ≤ 8) (hz : cells + 0 ≤ R.cells ∧ slots + 0 ≤ R.slots)
    (d : decode cc pc = .ok (.invokestatic index, 3)) (kk : ∀ (H : Heap) (locs : List Loc), Hp D A s (wl ++ Z_W cI ar f.2) H locs → W p l e R s m args below meth c H locs cells slots Q (F0 m (pc + 3) ls rest)) : W p l e R s m args below meth c H locs cells slots Q (F0 m pc ls st0) := by
  obtain ⟨⟨ws', hw⟩, hrc, hrs, hd⟩ := hf
  have P0 := P.perm (List.perm_append_comm (l₁ := Z_W cI ar L) (l₂ := wl))
  have P2 := P0.sub (List.sublist_append_left _ wl)
  have hF := va_A_in P2.2.1 P2.2.2.1 P2.2.2.2
  have K1 : va_K D vwCl [(cI, .int)] s := K.sub [0] rfl
  refine va_callv (va_runS C.fix (hM H.size) (va_cwS n C.2.2.2.2.1 g hw hrc hrs hd hR) ⟨preW_blind, fun U hU hW => ⟨rfl, by rw [hU], by rw [hU]; exact P2.1, va_K.moved hW.alike K1, P2.2.1.weaken (fun _ _ _ _ => trivial)⟩⟩ rfl hn hl hst (lv_room hcat) d hz) P2.2.2.1 (fun q _ h => hF q h) hF (fun u t H1 locs1 ht hvm hw hB hz1 hk1 hS => ?_)
  obtain ⟨hP1, -, hD1⟩ := hB
  rw [ht] at hP1
  exact kk H1 locs1 ((P0.frame2 hP1 hD1 hk1 hS).perm List.perm_append_comm)
theorem Z_body {y : MethodName} {ws : List Cond} {rm : Room} {maxL n : Nat} {bytes : ByteArray} {As : List Value} {Qc : (Nat → Prop) → Array Value → State → Outcome → State → Prop} (hy : y.cls = RL) (hf : Fn y ws bytes maxL ret n rm 0 0) (hlen : (lg_sl As).length ≤ maxL)
    (body : ∀ (p : Program) (e : Env) (s : State) (m : MethodId) (args : Array Value) (below : List Frame) (meth : Method) (c : Code), Cx RL p s m args meth c bytes maxL ws ret → va_K D vwCl [(cI, .int)] s → ∀ A : Nat → Prop, Hp D A s ([] ++ Z_W cI ar L) s.heap [] → ∀ ls : Array Slot, lv_has ls maxL (lv_args 0 As) →
      W p l e rm s m args below meth c s.heap [] 0 0 (MQ below (Qc A) args s 0 0 A) (F0 m 0 ls [])) (sz : Nat) : Met l y ws rm (va_Pc As (PreW D [(cI, .int)] sz (Z_W cI ar L))) (Qc (va_A (Z_W cI ar L) sz)) 0 0 (va_A (Z_W cI ar L) sz) := by
  obtain ⟨⟨ws', hw⟩, -, -, -⟩ := hf
  refine Met.ofW (cc := bytes) (maxL := maxL) (ret := ret) (by rw [hy]; decide) hw ?_
  intro p e s m args below meth c s₁ B hml hv
  obtain ⟨rfl, hsz, hP, hK, hD⟩ := hv
  subst hsz
  have hown : s.vm.findClass RL = some m.cls := by rw [← hy]; exact findClass_of_methodNamed B.named
  have hl := lv_entry As (n := maxL) hlen
  rw [lg_entry_eq]
  exact body p e s m _ below meth c ⟨B.exec, B.bytes, hml, hown, atoms_spec (ws := ws) B.pre, B.returns, B.notSynchronized⟩ hK _ ⟨hP, hD.self, va_S.rf, fun q h => Or.inr h⟩ _ hl
theorem Z_ret {f : Int32 × Sg} {v : Int32} (C : Cx RL p s m args meth c cc nL Ts (some .int)) (K : va_K D vwCl [(cI, .int)] s) (P : Hp D A s ([] ++ Z_W cI ar L) H locs) (he : f = (v, L)) (d : decode cc pc = .ok (.ireturn, 1)) :
    W p l e R s m args below meth c H locs 0 0 (MQ below (Z_Qi D cI ar f A) args s 0 0 A) (F0 m pc ls [.int v]) := by
  have hlocks := C.2.2.2.2.2.2
  subst he
  exact W.iret C.1 C.2.1 C.2.2.2.2.2.1 (fun t ht hW => ⟨⟨v, (), rfl, rfl, by rw [ht]; exact P.1, va_K.moved hW.alike K, P.2.1⟩, P.2.2.1.F ht⟩) P.2.2.1.2.2 d
theorem Z_retv {f : Int32 × Sg} {v : Int32} (C : Cx RL p s m args meth c cc nL Ts none) (K : va_K D vwCl [(cI, .int)] s) (P : Hp D A s ([] ++ Z_W cI ar L) H locs) (he : f = (v, L)) (d : decode cc pc = .ok (.return_, 1)) :
    W p l e R s m args below meth c H locs 0 0 (MQ below (Z_Qv D cI ar f A) args s 0 0 A) (F0 m pc ls []) := by
  have hlocks := C.2.2.2.2.2.2
  subst he
  exact W.vret C.1 C.2.1 C.2.2.2.2.2.1 (fun t ht hW => ⟨⟨(), rfl, trivial, by rw [ht]; exact P.1, va_K.moved hW.alike K, P.2.1⟩, P.2.2.1.F ht⟩) P.2.2.1.2.2 d
end ZR
/-! the script's cell -/
theorem vp_of_lt {i : Int32} {N : Nat} (hN : N < 2 ^ 31) (h0 : ¬ i < 0) (h : ¬ Int32.ofNat N ≤ i) : vp_in i N := by
  have e1 : (Int32.ofNat N).toInt = N := nI_toInt hN
  rw [Int32.le_iff_toInt_le, e1] at h
  rw [Int32.lt_iff_toInt_lt, show (0 : Int32).toInt = 0 by decide] at h0
  intro q
  rcases q with q | q
  · rw [Int32.lt_iff_toInt_lt, show (0 : Int32).toInt = 0 by decide] at q; omega
  · have e : (i.toNatClampNeg : Int) = i.toInt := by rw [← Int32.toNat_toInt]; omega
    omega
abbrev rL_cell : Room := { frames := 0, cells := 0, slots := 0, locals := 0 }
theorem fnL_cell : Fn yL_cell wsL_cell cL_cell 2 (some .int) 2 rL_cell 0 0 := ⟨⟨_, rfl⟩, rfl, rfl, by decide +kernel⟩
set_option maxHeartbeats 4000000 in
theorem kL_cell (l : Launch) (b N : Nat) (xs : Nat → Int32) (k : Int32) (h0 : ¬ k < 0) (hN : N < 2 ^ 31) : Met l yL_cell wsL_cell rL_cell (va_Pc [.ref b, .int k] (fun U => va_X b N xs U U.heap)) (vp_Si (fun x => x = z_cell xs N k)) 0 0 (fun _ => False) := by
  refine Met.ofW (cc := cL_cell) (maxL := 2) (ret := some .int) (by decide) rfl ?_
  intro p e s m args below meth c s₁ B hml hv
  obtain ⟨rfl, hX⟩ := hv
  have hown : s.vm.findClass RL = some m.cls := findClass_of_methodNamed B.named
  have C : Cx RL p s m #[Value.ref b, Value.int k] meth c cL_cell 2 wsL_cell (some .int) := ⟨B.exec, B.bytes, hml, hown, atoms_spec (ws := wsL_cell) B.pre, B.returns, B.notSynchronized⟩
  have hl := lv_entry [.ref b, .int k] (n := 2) (Nat.le_of_ble_eq_true rfl)
  rw [lg_entry_eq]
  generalize (lg_sl [.ref b, .int k] ++ List.replicate (2 - (lg_sl [.ref b, .int k]).length) Slot.unset).toArray = ls at hl ⊢
  have hl : lv_has ls 2 [(0, .ref b), (1, .int k)] := hl
  have hx := C.1
  have hb := C.2.1
  have hts := C.2.2.2.2.1
  have hbl : b < s.heap.size := (Array.getElem?_eq_some_iff.mp hX.choose_spec.1).1
  have hS : va_S (fun _ => False) s.heap s.heap [] := va_S.rf
  refine lv_iload_n (pc := 0) hx hb dL_cell_0 rfl (lv_at hl 1 rfl) ?_
  refine lv_aload_n (pc := 1) hx hb dL_cell_1 rfl (lv_at hl 0 rfl) ?_
  refine va_slen (pc := 2) hx hb hX hbl (fun h => h) hS dL_cell_2 ?_
  refine lv_icmp_ge (pc := 3) (tgt := 12) hx hb dL_cell_3 (by decide) (fun (c3 : Int32.ofNat N ≤ k) => ?_) (fun (c3 : ¬ Int32.ofNat N ≤ k) => ?_)
  · refine lv_ldc (pc := 12) (v := 1205587469) hx hb hown (hts _ (List.mem_of_getElem? (i := 1) rfl)) dL_cell_12 ?_
    refine lv_iload_n (pc := 14) hx hb dL_cell_14 rfl (lv_at hl 1 rfl) ?_
    refine lv_bipush (pc := 15) (v := 11) hx hb dL_cell_15 (by decide) ?_
    refine lv_iadd (pc := 17) hx hb dL_cell_17 ?_
    refine lv_imul (pc := 18) hx hb dL_cell_18 ?_
    exact S_ret (pc := 19) C (by rw [z_cell, if_pos c3]) dL_cell_19
  · refine lv_aload_n (pc := 6) hx hb dL_cell_6 rfl (lv_at hl 0 rfl) ?_
    refine lv_iload_n (pc := 7) hx hb dL_cell_7 rfl (lv_at hl 1 rfl) ?_
    refine va_sld (pc := 8) hx hb hX hbl (fun h => h) hS (vp_of_lt hN h0 c3) dL_cell_8 ?_
    refine lv_goto (pc := 9) (tgt := 19) hx hb dL_cell_9 (by decide) ?_
    exact S_ret (pc := 19) C (by rw [z_cell, if_neg c3]) dL_cell_19
section ZC
variable {p : Program} {l : Launch} {e : Env} {R : Room} {s : State} {m : MethodId} {args : Array Value} {below : List Frame} {meth : Method} {c : Code} {H : Heap} {locs : List Loc} {cells slots : Nat} {Q : State → Prop} {cc : ByteArray} {pc : Nat} {ls : Array Slot} {rest st0 : List Value} {Ts : List Cond} {nL : Nat} {D : va_G} {A : Nat → Prop} {ret : Option FieldType} {cI : ClassId} {tys : List (ClassId × FieldType)} {ar : Nat → Nat} {L : Sg} {wl : va_W} {own : String}
theorem Z_cell {b N index : Nat} {xs : Nat → Int32} {k : Int32} (C : Cx RL p s m args meth c cc nL Ts ret) (hX : va_X b N xs s s.heap) (hbl : b < s.heap.size) (hbA : ¬ A b) (hS : va_S A s.heap H locs) (h0 : ¬ k < 0) (hN : N < 2 ^ 31) (hl : ls.size = nL) (g : GoodIn Ts (va_wsS RL index yL_cell wsL_cell)) (hR : rL_cell.frames + 1 ≤ R.frames ∧ 8 + (2 + 11) + rL_cell.locals ≤ R.locals) (hcat : (rest.map fun v => v.category).sum ≤ 8) (hz : cells + 0 ≤ R.cells ∧ slots + 0 ≤ R.slots)
    (d : decode cc pc = .ok (.invokestatic index, 3)) (kk : W p l e R s m args below meth c H locs cells slots Q (F0 m (pc + 3) ls (.int (z_cell xs N k) :: rest))) : W p l e R s m args below meth c H locs cells slots Q (F0 m pc ls (.int k :: .ref b :: rest)) := by
  obtain ⟨⟨ws', hw⟩, hrc, hrs, hd⟩ := fnL_cell
  refine vp_callSi (W.runS C.fix (kL_cell l b N xs k h0 hN) (va_cwS 2 C.2.2.2.2.1 g hw hrc hrs hd hR) ⟨fun a U g mk q => ⟨q.1, va_X.moved (u := U) (U := U.calling g mk a) (Vm.Alike.refl U.vm) q.2⟩, fun U hU hW => ⟨rfl, by show va_X b N xs U U.heap; rw [hU]; exact (va_X.moved hW.alike hX).kept (hS.2.1 b hbl hbA)⟩⟩ rfl rfl hl rfl (lv_room hcat) d hz) ?_
  intro r' hr'
  rw [hr']
  exact kk
end ZC
/-! low, times, strength: pure -/
abbrev rL_low : Room := { frames := 0, cells := 0, slots := 0, locals := 0 }
theorem fnL_low : Fn yL_low wsL_low cL_low 2 (some .int) 2 rL_low 0 0 := ⟨⟨_, rfl⟩, rfl, rfl, by decide +kernel⟩
set_option maxHeartbeats 4000000 in
set_option maxRecDepth 100000 in
theorem kL_low (l : Launch) (v : Int32) (n : Int32) (h0 : ¬ n = 0) : S_Met l yL_low wsL_low rL_low [.int v, .int n] (z_low v n) := by
  refine S_of (n := 2) RL (by decide) fnL_low rfl (Nat.le_of_ble_eq_true rfl) ?_
  intro p e s m args below meth c C ls hl
  have hx := C.1
  have hb := C.2.1
  have hown := C.2.2.2.1
  have hts := C.2.2.2.2.1
  have hl : lv_has ls 2 [(0, .int v), (1, .int n)] := hl
  refine lv_iload_n (pc := 0) hx hb dL_low_0 rfl (lv_at hl 0 rfl) ?_
  refine lv_iconst (pc := 1) (v := 1) hx hb dL_low_1 (by decide) ?_
  refine lv_iushr (pc := 2) (v := z_ushr v 1) hx hb dL_low_2 rfl ?_
  refine lv_iload_n (pc := 3) hx hb dL_low_3 rfl (lv_at hl 1 rfl) ?_
  refine lv_irem (pc := 4) hx hb dL_low_4 h0 ?_
  exact S_ret (pc := 5) C (by rfl) dL_low_5
abbrev rL_times : Room := { frames := 0, cells := 0, slots := 0, locals := 0 }
theorem fnL_times : Fn yL_times wsL_times cL_times 3 (some .int) 3 rL_times 0 0 := ⟨⟨_, rfl⟩, rfl, rfl, by decide +kernel⟩
set_option maxHeartbeats 4000000 in
set_option maxRecDepth 100000 in
theorem kL_times (l : Launch) (a : Int32) (b : Int32) (w : Int32) (h0 : ¬ w = 0) : S_Met l yL_times wsL_times rL_times [.int a, .int b, .int w] (m_part a b w) := by
  refine S_of (n := 3) RL (by decide) fnL_times rfl (Nat.le_of_ble_eq_true rfl) ?_
  intro p e s m args below meth c C ls hl
  have hx := C.1
  have hb := C.2.1
  have hown := C.2.2.2.1
  have hts := C.2.2.2.2.1
  have hl : lv_has ls 3 [(0, .int a), (1, .int b), (2, .int w)] := hl
  refine lv_iload_n (pc := 0) hx hb dL_times_0 rfl (lv_at hl 0 rfl) ?_
  refine lv_i2l (pc := 1) (v := a.toInt64) hx hb dL_times_1 rfl ?_
  refine lv_iload_n (pc := 2) hx hb dL_times_2 rfl (lv_at hl 1 rfl) ?_
  refine lv_i2l (pc := 3) (v := b.toInt64) hx hb dL_times_3 rfl ?_
  refine lv_lmul (pc := 4) hx hb dL_times_4 ?_
  refine lv_iload_n (pc := 5) hx hb dL_times_5 rfl (lv_at hl 2 rfl) ?_
  refine lv_i2l (pc := 6) (v := w.toInt64) hx hb dL_times_6 rfl ?_
  refine lv_ldiv (pc := 7) hx hb dL_times_7 (t64_ne h0) ?_
  refine lv_l2i (pc := 8) (v := ((a.toInt64 * b.toInt64) / w.toInt64).toInt32) hx hb dL_times_8 rfl ?_
  exact S_ret (pc := 9) C (by rfl) dL_times_9
abbrev rL_strength : Room := { frames := 0, cells := 0, slots := 0, locals := 0 }
theorem fnL_strength : Fn yL_strength wsL_strength cL_strength 2 (some .int) 2 rL_strength 0 0 := ⟨⟨_, rfl⟩, rfl, rfl, by decide +kernel⟩
set_option maxHeartbeats 4000000 in
set_option maxRecDepth 100000 in
theorem kL_strength (l : Launch) (d : Int32) (v : Int32) : S_Met l yL_strength wsL_strength rL_strength [.int d, .int v] (m_strengthOf d v) := by
  refine S_of (n := 2) RL (by decide) fnL_strength rfl (Nat.le_of_ble_eq_true rfl) ?_
  intro p e s m args below meth c C ls hl
  have hx := C.1
  have hb := C.2.1
  have hown := C.2.2.2.1
  have hts := C.2.2.2.2.1
  have hl : lv_has ls 2 [(0, .int d), (1, .int v)] := hl
  refine lv_iload_n (pc := 0) hx hb dL_strength_0 rfl (lv_at hl 1 rfl) ?_
  refine lv_if_ne (pc := 1) (tgt := 8) hx hb dL_strength_1 (by decide) (fun (c1 : ¬ v = 0) => ?_) (fun (c1 : v = 0) => ?_)
  · refine lv_iload_n (pc := 8) hx hb dL_strength_8 rfl (lv_at hl 0 rfl) ?_
    refine lv_iload_n (pc := 9) hx hb dL_strength_9 rfl (lv_at hl 1 rfl) ?_
    refine lv_idiv (pc := 10) hx hb dL_strength_10 c1 ?_
    exact S_ret (pc := 11) C (by rw [m_strengthOf, if_neg c1]) dL_strength_11
  · refine lv_iconst (pc := 4) (v := 0) hx hb dL_strength_4 (by decide) ?_
    refine lv_goto (pc := 5) (tgt := 11) hx hb dL_strength_5 (by decide) ?_
    exact S_ret (pc := 11) C (by rw [m_strengthOf, if_pos c1]) dL_strength_11
/-! over the rows: pours, draws, misses -/
def z_with (had D vol drops : Int32) : Int32 := had + vol - (if (if had ≤ vol then had else vol) = 0 then 0 else if (m_strengthOf D had - m_strengthOf drops vol) ≤ 0 then (if had ≤ vol then had else vol) * (-(m_strengthOf D had - m_strengthOf drops vol)) / 10000 else (if had ≤ vol then had else vol) * (m_strengthOf D had - m_strengthOf drops vol) / 10000)
def z_pours (L : Sg) (k vol drops : Int32) : Int32 × Sg := (0, bs (bs L 1 (ix k) (z_with (L.2 1 (ix k)) (L.2 2 (ix k)) vol drops)) 2 (ix k) (L.2 2 (ix k) + drops))
def z_draws (L : Sg) (k vol : Int32) : Int32 × Sg := (m_part (L.2 2 (ix k)) vol (L.2 1 (ix k)), bs (bs L 1 (ix k) (L.2 1 (ix k) - vol)) 2 (ix k) (L.2 2 (ix k) - m_part (L.2 2 (ix k)) vol (L.2 1 (ix k))))
def z_misses (L : Sg) (drops : Int32) : Int32 × Sg := (m_part drops (L.2 4 1) 1000, bs (bs L 4 13 (L.2 4 13 + drops)) 4 2 (L.2 4 2 + m_part drops (L.2 4 1) 1000))
abbrev rL_pours : Room := { frames := 1, cells := 0, slots := 0, locals := 21 }
theorem fnL_pours : Fn yL_pours wsL_pours cL_pours 8 none 5 rL_pours 0 0 := ⟨⟨_, rfl⟩, rfl, rfl, by decide +kernel⟩
set_option maxHeartbeats 4000000 in
set_option maxRecDepth 100000 in
theorem kL_pours (l : Launch) (D : va_G) (cI : ClassId) (ar : Nat → Nat) (L : Sg) (k : Int32) (vol : Int32) (drops : Int32) (hk : vp_in k 5) : Z_Mv l yL_pours wsL_pours rL_pours D cI ar L [.int k, .int vol, .int drops, .ref (ar 1), .ref (ar 2)] (z_pours L k vol drops) := by
  refine Z_body (n := 5) (Qc := fun A => Z_Qv D cI ar (z_pours L k vol drops) A) rfl fnL_pours (Nat.le_of_ble_eq_true rfl) ?_
  intro p e s m args below meth c C K A P ls hl
  have hx := C.1
  have hb := C.2.1
  have hown := C.2.2.2.1
  have hts := C.2.2.2.2.1
  have hl : lv_has ls 8 [(0, .int k), (1, .int vol), (2, .int drops), (3, .ref (ar 1)), (4, .ref (ar 2))] := hl
  refine lv_aload_n (pc := 0) hx hb dL_pours_0 rfl (lv_at hl 3 rfl) ?_
  refine lv_iload_n (pc := 1) hx hb dL_pours_1 rfl (lv_at hl 0 rfl) ?_
  refine Z_ald (pc := 2) (j := 1) (v := L.2 1 (ix k)) C K P rfl hk rfl dL_pours_2 ?_
  refine lv_topi (fun had (hhad : had = L.2 1 (ix k)) => ?_)
  refine lv_istore (pc := 3) (lv' := [(5, .int had), (0, .int k), (1, .int vol), (2, .int drops), (3, .ref (ar 1)), (4, .ref (ar 2))]) hx hb dL_pours_3 hl (by decide) rfl (fun ls hl => ?_)
  refine lv_aload (pc := 5) hx hb dL_pours_5 (lv_at hl 5 rfl) ?_
  refine lv_iload_n (pc := 7) hx hb dL_pours_7 rfl (lv_at hl 1 rfl) ?_
  refine Z_ald (pc := 8) (j := 2) (v := L.2 2 (ix k)) C K P rfl hk rfl dL_pours_8 ?_
  refine lv_iload (pc := 9) hx hb dL_pours_9 (lv_at hl 0 rfl) ?_
  refine S_call (pc := 11) (As := [.int (L.2 2 (ix k)), .int had]) (rest := []) (r := m_strengthOf (L.2 2 (ix k)) had) C hl.1 (kL_strength l (L.2 2 (ix k)) had) fnL_strength gL_pours_L_strength rfl rfl ⟨Nat.le_of_ble_eq_true rfl, Nat.le_of_ble_eq_true rfl⟩ (Nat.le_of_ble_eq_true rfl) ⟨Nat.le_refl _, Nat.le_refl _⟩ dL_pours_11 ?_
  refine lv_iload_n (pc := 14) hx hb dL_pours_14 rfl (lv_at hl 3 rfl) ?_
  refine lv_iload_n (pc := 15) hx hb dL_pours_15 rfl (lv_at hl 2 rfl) ?_
  refine S_call (pc := 16) (As := [.int drops, .int vol]) (rest := [.int (m_strengthOf (L.2 2 (ix k)) had)]) (r := m_strengthOf drops vol) C hl.1 (kL_strength l drops vol) fnL_strength gL_pours_L_strength rfl rfl ⟨Nat.le_of_ble_eq_true rfl, Nat.le_of_ble_eq_true rfl⟩ (Nat.le_of_ble_eq_true rfl) ⟨Nat.le_refl _, Nat.le_refl _⟩ dL_pours_16 ?_
  refine lv_isub (pc := 19) hx hb dL_pours_19 ?_
  refine lv_topi (fun more (hmore : more = (m_strengthOf (L.2 2 (ix k)) had) - (m_strengthOf drops vol)) => ?_)
  refine lv_istore (pc := 20) (lv' := [(6, .int more), (5, .int had), (0, .int k), (1, .int vol), (2, .int drops), (3, .ref (ar 1)), (4, .ref (ar 2))]) hx hb dL_pours_20 hl (by decide) rfl (fun ls hl => ?_)
  refine lv_iload (pc := 22) hx hb dL_pours_22 (lv_at hl 1 rfl) ?_
  refine lv_iload_n (pc := 24) hx hb dL_pours_24 rfl (lv_at hl 3 rfl) ?_
  refine lv_mergeI (M := 34) (T := if had ≤ vol then had else vol) (rest := []) (fun hm => ?_) (fun m25 (hm25 : m25 = if had ≤ vol then had else vol) => ?_)
  · refine lv_icmp_le (pc := 25) (tgt := 32) hx hb dL_pours_25 (by decide) (fun (c25 : had ≤ vol) => ?_) (fun (c25 : ¬ had ≤ vol) => ?_)
    · refine lv_iload (pc := 32) hx hb dL_pours_32 (lv_at hl 1 rfl) ?_
      exact hm _ (by rw [if_pos c25])
    · refine lv_iload_n (pc := 28) hx hb dL_pours_28 rfl (lv_at hl 3 rfl) ?_
      refine lv_goto (pc := 29) (tgt := 34) hx hb dL_pours_29 (by decide) ?_
      exact hm _ (by rw [if_neg c25])
  refine lv_istore (pc := 34) (lv' := [(7, .int m25), (6, .int more), (5, .int had), (0, .int k), (1, .int vol), (2, .int drops), (3, .ref (ar 1)), (4, .ref (ar 2))]) hx hb dL_pours_34 hl (by decide) rfl (fun ls hl => ?_)
  refine lv_aload_n (pc := 36) hx hb dL_pours_36 rfl (lv_at hl 6 rfl) ?_
  refine lv_iload_n (pc := 37) hx hb dL_pours_37 rfl (lv_at hl 3 rfl) ?_
  refine lv_iload (pc := 38) hx hb dL_pours_38 (lv_at hl 2 rfl) ?_
  refine lv_iload_n (pc := 40) hx hb dL_pours_40 rfl (lv_at hl 4 rfl) ?_
  refine lv_iadd (pc := 41) hx hb dL_pours_41 ?_
  refine lv_iload (pc := 42) hx hb dL_pours_42 (lv_at hl 0 rfl) ?_
  refine lv_mergeI (M := 71) (T := if m25 = 0 then 0 else (if more ≤ 0 then ((m25 * (-more)) / 10000) else ((m25 * more) / 10000))) (rest := [.int (had + vol), .int k, .ref (ar 1)]) (fun hm => ?_) (fun m44 (hm44 : m44 = if m25 = 0 then 0 else (if more ≤ 0 then ((m25 * (-more)) / 10000) else ((m25 * more) / 10000))) => ?_)
  · refine lv_if_ne (pc := 44) (tgt := 51) hx hb dL_pours_44 (by decide) (fun (c44 : ¬ m25 = 0) => ?_) (fun (c44 : m25 = 0) => ?_)
    · refine lv_iload (pc := 51) hx hb dL_pours_51 (lv_at hl 0 rfl) ?_
      refine lv_iload (pc := 53) hx hb dL_pours_53 (lv_at hl 1 rfl) ?_
      refine lv_if_le (pc := 55) (tgt := 63) hx hb dL_pours_55 (by decide) (fun (c55 : more ≤ 0) => ?_) (fun (c55 : ¬ more ≤ 0) => ?_)
      · refine lv_iload (pc := 63) hx hb dL_pours_63 (lv_at hl 1 rfl) ?_
        refine lv_ineg (pc := 65) hx hb dL_pours_65 ?_
        refine lv_imul (pc := 66) hx hb dL_pours_66 ?_
        refine lv_sipush (pc := 67) (v := 10000) hx hb dL_pours_67 (by decide) ?_
        refine lv_idiv (pc := 70) hx hb dL_pours_70 (by decide) ?_
        exact hm _ (by rw [if_neg c44, if_pos c55])
      · refine lv_iload (pc := 58) hx hb dL_pours_58 (lv_at hl 1 rfl) ?_
        refine lv_goto (pc := 60) (tgt := 66) hx hb dL_pours_60 (by decide) ?_
        refine lv_imul (pc := 66) hx hb dL_pours_66 ?_
        refine lv_sipush (pc := 67) (v := 10000) hx hb dL_pours_67 (by decide) ?_
        refine lv_idiv (pc := 70) hx hb dL_pours_70 (by decide) ?_
        exact hm _ (by rw [if_neg c44, if_neg c55])
    · refine lv_iconst (pc := 47) (v := 0) hx hb dL_pours_47 (by decide) ?_
      refine lv_goto (pc := 48) (tgt := 71) hx hb dL_pours_48 (by decide) ?_
      exact hm _ (by rw [if_pos c44])
  refine lv_isub (pc := 71) hx hb dL_pours_71 ?_
  refine Z_ast (pc := 72) (j := 1) (n := 5) (x := (had + vol) - m44) C K P rfl hk rfl dL_pours_72 (fun H locs (P : Hp D A s ([] ++ Z_W cI ar (bs L 1 (ix k) ((had + vol) - m44))) H locs) => ?_)
  refine lv_aload (pc := 73) hx hb dL_pours_73 (lv_at hl 7 rfl) ?_
  refine lv_iload_n (pc := 75) hx hb dL_pours_75 rfl (lv_at hl 3 rfl) ?_
  refine lv_dup2_11 (pc := 76) hx hb dL_pours_76 rfl rfl ?_
  refine Z_ald (pc := 77) (j := 2) (v := L.2 2 (ix k)) C K P rfl hk rfl dL_pours_77 ?_
  refine lv_iload_n (pc := 78) hx hb dL_pours_78 rfl (lv_at hl 5 rfl) ?_
  refine lv_iadd (pc := 79) hx hb dL_pours_79 ?_
  refine Z_ast (pc := 80) (j := 2) (n := 5) (x := (L.2 2 (ix k)) + drops) C K P rfl hk rfl dL_pours_80 (fun H locs (P : Hp D A s ([] ++ Z_W cI ar (bs (bs L 1 (ix k) ((had + vol) - m44)) 2 (ix k) ((L.2 2 (ix k)) + drops))) H locs) => ?_)
  exact Z_retv (pc := 81) (v := 0) C K P (by subst hmore; subst hm44; subst hm25; subst hhad; rfl) dL_pours_81
abbrev rL_draws : Room := { frames := 1, cells := 0, slots := 0, locals := 22 }
theorem fnL_draws : Fn yL_draws wsL_draws cL_draws 5 (some .int) 4 rL_draws 0 0 := ⟨⟨_, rfl⟩, rfl, rfl, by decide +kernel⟩
set_option maxHeartbeats 4000000 in
set_option maxRecDepth 100000 in
theorem kL_draws (l : Launch) (D : va_G) (cI : ClassId) (ar : Nat → Nat) (L : Sg) (k : Int32) (vol : Int32) (hk : vp_in k 5) (h0 : ¬ L.2 1 (ix k) = 0) : Z_Mi l yL_draws wsL_draws rL_draws D cI ar L [.int k, .int vol, .ref (ar 1), .ref (ar 2)] (z_draws L k vol) := by
  refine Z_body (n := 4) (Qc := fun A => Z_Qi D cI ar (z_draws L k vol) A) rfl fnL_draws (Nat.le_of_ble_eq_true rfl) ?_
  intro p e s m args below meth c C K A P ls hl
  have hx := C.1
  have hb := C.2.1
  have hown := C.2.2.2.1
  have hts := C.2.2.2.2.1
  have hl : lv_has ls 5 [(0, .int k), (1, .int vol), (2, .ref (ar 1)), (3, .ref (ar 2))] := hl
  refine lv_aload_n (pc := 0) hx hb dL_draws_0 rfl (lv_at hl 3 rfl) ?_
  refine lv_iload_n (pc := 1) hx hb dL_draws_1 rfl (lv_at hl 0 rfl) ?_
  refine Z_ald (pc := 2) (j := 2) (v := L.2 2 (ix k)) C K P rfl hk rfl dL_draws_2 ?_
  refine lv_iload_n (pc := 3) hx hb dL_draws_3 rfl (lv_at hl 1 rfl) ?_
  refine lv_aload_n (pc := 4) hx hb dL_draws_4 rfl (lv_at hl 2 rfl) ?_
  refine lv_iload_n (pc := 5) hx hb dL_draws_5 rfl (lv_at hl 0 rfl) ?_
  refine Z_ald (pc := 6) (j := 1) (v := L.2 1 (ix k)) C K P rfl hk rfl dL_draws_6 ?_
  refine S_call (pc := 7) (As := [.int (L.2 2 (ix k)), .int vol, .int (L.2 1 (ix k))]) (rest := []) (r := m_part (L.2 2 (ix k)) vol (L.2 1 (ix k))) C hl.1 (kL_times l (L.2 2 (ix k)) vol (L.2 1 (ix k)) h0) fnL_times gL_draws_L_times rfl rfl ⟨Nat.le_of_ble_eq_true rfl, Nat.le_of_ble_eq_true rfl⟩ (Nat.le_of_ble_eq_true rfl) ⟨Nat.le_refl _, Nat.le_refl _⟩ dL_draws_7 ?_
  refine lv_istore (pc := 10) (lv' := [(4, .int (m_part (L.2 2 (ix k)) vol (L.2 1 (ix k)))), (0, .int k), (1, .int vol), (2, .ref (ar 1)), (3, .ref (ar 2))]) hx hb dL_draws_10 hl (by decide) rfl (fun ls hl => ?_)
  refine lv_aload_n (pc := 12) hx hb dL_draws_12 rfl (lv_at hl 3 rfl) ?_
  refine lv_iload_n (pc := 13) hx hb dL_draws_13 rfl (lv_at hl 1 rfl) ?_
  refine lv_dup2_11 (pc := 14) hx hb dL_draws_14 rfl rfl ?_
  refine Z_ald (pc := 15) (j := 1) (v := L.2 1 (ix k)) C K P rfl hk rfl dL_draws_15 ?_
  refine lv_iload_n (pc := 16) hx hb dL_draws_16 rfl (lv_at hl 2 rfl) ?_
  refine lv_isub (pc := 17) hx hb dL_draws_17 ?_
  refine Z_ast (pc := 18) (j := 1) (n := 5) (x := (L.2 1 (ix k)) - vol) C K P rfl hk rfl dL_draws_18 (fun H locs (P : Hp D A s ([] ++ Z_W cI ar (bs L 1 (ix k) ((L.2 1 (ix k)) - vol))) H locs) => ?_)
  refine lv_aload_n (pc := 19) hx hb dL_draws_19 rfl (lv_at hl 4 rfl) ?_
  refine lv_iload_n (pc := 20) hx hb dL_draws_20 rfl (lv_at hl 1 rfl) ?_
  refine lv_dup2_11 (pc := 21) hx hb dL_draws_21 rfl rfl ?_
  refine Z_ald (pc := 22) (j := 2) (v := L.2 2 (ix k)) C K P rfl hk rfl dL_draws_22 ?_
  refine lv_iload (pc := 23) hx hb dL_draws_23 (lv_at hl 0 rfl) ?_
  refine lv_isub (pc := 25) hx hb dL_draws_25 ?_
  refine Z_ast (pc := 26) (j := 2) (n := 5) (x := (L.2 2 (ix k)) - (m_part (L.2 2 (ix k)) vol (L.2 1 (ix k)))) C K P rfl hk rfl dL_draws_26 (fun H locs (P : Hp D A s ([] ++ Z_W cI ar (bs (bs L 1 (ix k) ((L.2 1 (ix k)) - vol)) 2 (ix k) ((L.2 2 (ix k)) - (m_part (L.2 2 (ix k)) vol (L.2 1 (ix k)))))) H locs) => ?_)
  refine lv_iload (pc := 27) hx hb dL_draws_27 (lv_at hl 0 rfl) ?_
  exact Z_ret (pc := 29) C K P (by rfl) dL_draws_29
abbrev rL_misses : Room := { frames := 1, cells := 0, slots := 0, locals := 22 }
theorem fnL_misses : Fn yL_misses wsL_misses cL_misses 3 (some .int) 2 rL_misses 0 0 := ⟨⟨_, rfl⟩, rfl, rfl, by decide +kernel⟩
set_option maxHeartbeats 4000000 in
set_option maxRecDepth 100000 in
theorem kL_misses (l : Launch) (D : va_G) (cI : ClassId) (ar : Nat → Nat) (L : Sg) (drops : Int32) : Z_Mi l yL_misses wsL_misses rL_misses D cI ar L [.int drops, .ref (ar 4)] (z_misses L drops) := by
  refine Z_body (n := 2) (Qc := fun A => Z_Qi D cI ar (z_misses L drops) A) rfl fnL_misses (Nat.le_of_ble_eq_true rfl) ?_
  intro p e s m args below meth c C K A P ls hl
  have hx := C.1
  have hb := C.2.1
  have hown := C.2.2.2.1
  have hts := C.2.2.2.2.1
  have hl : lv_has ls 3 [(0, .int drops), (1, .ref (ar 4))] := hl
  refine lv_aload_n (pc := 0) hx hb dL_misses_0 rfl (lv_at hl 1 rfl) ?_
  refine lv_bipush (pc := 1) (v := 13) hx hb dL_misses_1 (by decide) ?_
  refine lv_dup2_11 (pc := 3) hx hb dL_misses_3 rfl rfl ?_
  refine Z_ald (pc := 4) (j := 4) (v := L.2 4 13) C K P rfl (vp_dec (by decide)) rfl dL_misses_4 ?_
  refine lv_iload_n (pc := 5) hx hb dL_misses_5 rfl (lv_at hl 0 rfl) ?_
  refine lv_iadd (pc := 6) hx hb dL_misses_6 ?_
  refine Z_ast (pc := 7) (j := 4) (n := 16) (x := (L.2 4 13) + drops) C K P rfl (vp_dec (by decide)) rfl dL_misses_7 (fun H locs (P : Hp D A s ([] ++ Z_W cI ar (bs L 4 13 ((L.2 4 13) + drops))) H locs) => ?_)
  refine lv_iload_n (pc := 8) hx hb dL_misses_8 rfl (lv_at hl 0 rfl) ?_
  refine lv_aload_n (pc := 9) hx hb dL_misses_9 rfl (lv_at hl 1 rfl) ?_
  refine lv_iconst (pc := 10) (v := 1) hx hb dL_misses_10 (by decide) ?_
  refine Z_ald (pc := 11) (j := 4) (v := L.2 4 1) C K P rfl (vp_dec (by decide)) rfl dL_misses_11 ?_
  refine lv_sipush (pc := 12) (v := 1000) hx hb dL_misses_12 (by decide) ?_
  refine S_call (pc := 15) (As := [.int drops, .int (L.2 4 1), .int 1000]) (rest := []) (r := m_part drops (L.2 4 1) 1000) C hl.1 (kL_times l drops (L.2 4 1) 1000 (by decide)) fnL_times gL_misses_L_times rfl rfl ⟨Nat.le_of_ble_eq_true rfl, Nat.le_of_ble_eq_true rfl⟩ (Nat.le_of_ble_eq_true rfl) ⟨Nat.le_refl _, Nat.le_refl _⟩ dL_misses_15 ?_
  refine lv_istore_n (pc := 18) (lv' := [(2, .int (m_part drops (L.2 4 1) 1000)), (0, .int drops), (1, .ref (ar 4))]) hx hb dL_misses_18 rfl hl (by decide) rfl (fun ls hl => ?_)
  refine lv_aload_n (pc := 19) hx hb dL_misses_19 rfl (lv_at hl 2 rfl) ?_
  refine lv_iconst (pc := 20) (v := 2) hx hb dL_misses_20 (by decide) ?_
  refine lv_dup2_11 (pc := 21) hx hb dL_misses_21 rfl rfl ?_
  refine Z_ald (pc := 22) (j := 4) (v := L.2 4 2) C K P rfl (vp_dec (by decide)) rfl dL_misses_22 ?_
  refine lv_iload_n (pc := 23) hx hb dL_misses_23 rfl (lv_at hl 0 rfl) ?_
  refine lv_iadd (pc := 24) hx hb dL_misses_24 ?_
  refine Z_ast (pc := 25) (j := 4) (n := 16) (x := (L.2 4 2) + (m_part drops (L.2 4 1) 1000)) C K P rfl (vp_dec (by decide)) rfl dL_misses_25 (fun H locs (P : Hp D A s ([] ++ Z_W cI ar (bs (bs L 4 13 ((L.2 4 13) + drops)) 4 2 ((L.2 4 2) + (m_part drops (L.2 4 1) 1000)))) H locs) => ?_)
  refine lv_iload_n (pc := 26) hx hb dL_misses_26 rfl (lv_at hl 0 rfl) ?_
  exact Z_ret (pc := 27) C K P (by rfl) dL_misses_27
/-! moving: what moves -/
def zmf (L : Sg) (k : Nat) : Int32 := if L.2 7 k >>> (17 &&& 31) &&& 7 = 0 then L.2 8 k else 0
def z_moving (L : Sg) : Int32 × Sg := (sm (zmf L) (ix (L.2 4 10)), L)
def Cz (x : Int32) (n : Nat) : Prop := x = nI (ix x) ∧ ix x ≤ n
theorem lz_end {x : Int32} {n k : Nat} (h : Cz x n) (c : x ≤ nI k) (h1 : k ≤ ix x) (hn : n < 2 ^ 31 := by decide) : k = ix x := by
  rw [h.1] at c
  have h2 := (nI_leI (Nat.lt_of_le_of_lt h.2 hn) (Nat.lt_of_le_of_lt (Nat.le_trans h1 h.2) hn)).mp c
  omega
theorem lz_in {x : Int32} {n k : Nat} (h : Cz x n) (c : ¬ x ≤ nI k) (h1 : k ≤ ix x) : k < ix x := by
  rcases Nat.lt_or_ge k (ix x) with q | q
  · exact q
  · exfalso
    apply c
    have e : k = ix x := by omega
    rw [e, ← h.1]
    exact Int32.le_refl _
abbrev rL_moving : Room := { frames := 0, cells := 0, slots := 0, locals := 0 }
theorem fnL_moving : Fn yL_moving wsL_moving cL_moving 5 (some .int) 3 rL_moving 0 0 := ⟨⟨_, rfl⟩, rfl, rfl, by decide +kernel⟩
set_option maxHeartbeats 4000000 in
set_option maxRecDepth 100000 in
theorem kL_moving (l : Launch) (D : va_G) (cI : ClassId) (ar : Nat → Nat) (L : Sg) (hc : Cz (L.2 4 10) 30) : Z_Mi l yL_moving wsL_moving rL_moving D cI ar L [.ref (ar 7), .ref (ar 8), .ref (ar 4)] (z_moving L) := by
  refine Z_body (n := 3) (Qc := fun A => Z_Qi D cI ar (z_moving L) A) rfl fnL_moving (Nat.le_of_ble_eq_true rfl) ?_
  intro p e s m args below meth c C K A P ls hl
  have hx := C.1
  have hb := C.2.1
  have hown := C.2.2.2.1
  have hts := C.2.2.2.2.1
  have hl : lv_has ls 5 [(0, .ref (ar 7)), (1, .ref (ar 8)), (2, .ref (ar 4))] := hl
  have loop : ∀ (n k : Nat), k ≤ ix (L.2 4 10) → ix (L.2 4 10) < k + n → ∀ (H : Heap) (locs : List Loc) (P : Hp D A s ([] ++ Z_W cI ar L) H locs) (ls : Array Slot), lv_has ls 5 [(4, .int (nI k)), (3, .int (sm (zmf L) k)), (0, .ref (ar 7)), (1, .ref (ar 8)), (2, .ref (ar 4))] → W p l e rL_moving s m args below meth c H locs 0 0 (MQ below (Z_Qi D cI ar (z_moving L) A) args s 0 0 A) (F0 m 5 ls []) := by
    intro n
    induction n with
    | zero => intro k h1 h2; exact absurd h2 (by omega)
    | succ n ih =>
      intro k h1 h2 H locs P ls hl
      refine lv_iload (pc := 5) hx hb dL_moving_5 (lv_at hl 0 rfl) ?_
      refine lv_aload_n (pc := 7) hx hb dL_moving_7 rfl (lv_at hl 4 rfl) ?_
      refine lv_bipush (pc := 8) (v := 10) hx hb dL_moving_8 (by decide) ?_
      refine Z_ald (pc := 10) (j := 4) (v := L.2 4 10) C K P rfl (vp_dec (by decide)) rfl dL_moving_10 ?_
      refine lv_icmp_ge (pc := 11) (tgt := 44) hx hb dL_moving_11 (by decide) (fun (c11 : (L.2 4 10) ≤ (nI k)) => ?_) (fun (c11 : ¬ (L.2 4 10) ≤ (nI k)) => ?_)
      · have ek : k = ix (L.2 4 10) := lz_end hc c11 h1
        refine lv_iload_n (pc := 44) hx hb dL_moving_44 rfl (lv_at hl 1 rfl) ?_
        exact Z_ret (pc := 45) C K P (by rw [z_moving, ek]) dL_moving_45
      · have hk : k < ix (L.2 4 10) := lz_in hc c11 h1
        have hk3 : k < 30 := Nat.lt_of_lt_of_le hk hc.2
        refine lv_iload_n (pc := 14) hx hb dL_moving_14 rfl (lv_at hl 1 rfl) ?_
        refine lv_aload_n (pc := 15) hx hb dL_moving_15 rfl (lv_at hl 2 rfl) ?_
        refine lv_iload (pc := 16) hx hb dL_moving_16 (lv_at hl 0 rfl) ?_
        refine Z_aldN (pc := 18) (j := 7) (n := 30) (v := L.2 7 k) C K P rfl (k := k) hk3 (by decide) rfl dL_moving_18 ?_
        refine lv_bipush (pc := 19) (v := 17) hx hb dL_moving_19 (by decide) ?_
        refine lv_ishr (pc := 21) hx hb dL_moving_21 ?_
        refine lv_bipush (pc := 22) (v := 7) hx hb dL_moving_22 (by decide) ?_
        refine lv_iand (pc := 24) hx hb dL_moving_24 ?_
        refine lv_mergeI (M := 36) (T := if (((L.2 7 k) >>> (17 &&& 31)) &&& 7) = 0 then (L.2 8 k) else 0) (rest := [.int (sm (zmf L) k)]) (fun hm => ?_) (fun m25 (hm25 : m25 = if (((L.2 7 k) >>> (17 &&& 31)) &&& 7) = 0 then (L.2 8 k) else 0) => ?_)
        · refine lv_if_ne (pc := 25) (tgt := 35) hx hb dL_moving_25 (by decide) (fun (c25 : ¬ (((L.2 7 k) >>> (17 &&& 31)) &&& 7) = 0) => ?_) (fun (c25 : (((L.2 7 k) >>> (17 &&& 31)) &&& 7) = 0) => ?_)
          · refine lv_iconst (pc := 35) (v := 0) hx hb dL_moving_35 (by decide) ?_
            exact hm _ (by rw [if_neg c25])
          · refine lv_aload_n (pc := 28) hx hb dL_moving_28 rfl (lv_at hl 3 rfl) ?_
            refine lv_iload (pc := 29) hx hb dL_moving_29 (lv_at hl 0 rfl) ?_
            refine Z_aldN (pc := 31) (j := 8) (n := 30) (v := L.2 8 k) C K P rfl (k := k) hk3 (by decide) rfl dL_moving_31 ?_
            refine lv_goto (pc := 32) (tgt := 36) hx hb dL_moving_32 (by decide) ?_
            exact hm _ (by rw [if_pos c25])
        refine lv_iadd (pc := 36) hx hb dL_moving_36 ?_
        refine lv_istore_n (pc := 37) (lv' := [(3, .int ((sm (zmf L) k) + m25)), (4, .int (nI k)), (0, .ref (ar 7)), (1, .ref (ar 8)), (2, .ref (ar 4))]) hx hb dL_moving_37 rfl hl (by decide) rfl (fun ls hl => ?_)
        refine lv_iinc (pc := 38) (v := nI (k + 1)) (lv' := [(4, .int (nI (k + 1))), (3, .int ((sm (zmf L) k) + m25)), (0, .ref (ar 7)), (1, .ref (ar 8)), (2, .ref (ar 4))]) hx hb dL_moving_38 hl (k := 1) rfl ((nI_succ k).symm) (by decide) rfl (fun ls hl => ?_)
        refine lv_goto (pc := 41) (tgt := 5) hx hb dL_moving_41 (by decide) ?_
        exact ih (k + 1) hk (by omega) _ _ P ls (by rw [show sm (zmf L) (k + 1) = sm (zmf L) k + zmf L k from rfl, show zmf L k = m25 from hm25.symm]; exact lv_sub hl [0, 1, 2, 3, 4] rfl)
  refine lv_iconst (pc := 0) (v := 0) hx hb dL_moving_0 (by decide) ?_
  refine lv_istore_n (pc := 1) (lv' := [(3, .int 0), (0, .ref (ar 7)), (1, .ref (ar 8)), (2, .ref (ar 4))]) hx hb dL_moving_1 rfl hl (by decide) rfl (fun ls hl => ?_)
  refine lv_iconst (pc := 2) (v := 0) hx hb dL_moving_2 (by decide) ?_
  refine lv_istore (pc := 3) (lv' := [(4, .int 0), (3, .int 0), (0, .ref (ar 7)), (1, .ref (ar 8)), (2, .ref (ar 4))]) hx hb dL_moving_3 hl (by decide) rfl (fun ls hl => ?_)
  exact loop (ix (L.2 4 10) + 1) 0 (Nat.zero_le _) (by omega) _ _ P ls (lv_sub hl [0, 1, 2, 3, 4] rfl)
