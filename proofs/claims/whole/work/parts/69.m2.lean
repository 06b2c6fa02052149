def R_law : String := "GaugerhallLaw"
def lw_P (b : Addr) (xs : List Int32) (args : Array Value) (s : State) : Prop := args = #[.ref b] ∧ s.IntsAt b xs ∧ xs.length ≤ 3072 ∧ (Jvm.Cond.and given_1 narrow_1).before args s = true
def lw_Q (_ : Array Value) (s : State) (o : Outcome) (t : State) : Prop := o = .returned (some (.int 1)) ∧ Framed s o t [] 601024 7293034
def lw_Z (below : List Frame) (a : Array Value) (s : State) : State → Prop := fun t => ∃ o, t.status = .running ∧ Ended t below o ∧ lw_Q a s o t
/-- the law's own end, with 1 on the stack, nothing written that was there before, its room as the claim has it -/
theorem lw_ret {p : Program} {l : Launch} {e : Env} {s : State} {m : MethodId} {below : List Frame} {meth : Method} {c : Code} {b : Nat} (hx : p.tables.exec = Jvm.exec) (hb : c.code = code) (hr : meth.sig.returnType = ret) (hlocks : meth.locks = false) {pc : Nat} {H : Heap} {ls : Array Slot} (hdg : decode code pc = .ok (.ireturn, 1)) : W p l e room_1 s m #[Value.ref b] below meth c H [] 601024 7293034 (lw_Z below #[Value.ref b] s) (F0 m pc ls [.int 1]) := by
  intro T hT X
  obtain ⟨fs, hret, hrun, hended, hW, hframe⟩ := X.leave (v := some (.int 1)) (hlocks := hlocks) (fun h => by rw [hr] at h; cases h)
  have hmeth' : T.vm.method? m = some meth := X.method'
  refine ⟨T.setFrames fs, ?_, .returned (some (.int 1)), hrun, hended, rfl, ⟨_, rfl⟩, hW, hframe⟩
  jvm_step X.here [X.here.top, hx, hb, hdg, hmeth', hr, ret, narrow_b1]
  (try refine ⟨rfl, ?_⟩); (try refine ⟨rfl, ?_⟩)
  first | (intro acts; rw [hret _ acts rfl rfl rfl]) | rw [hret _ _ rfl rfl rfl]
  exact Steps.refl _
/-- what holds at the law's entry: the machine, the code, the tables' words (any of lw_tbl by 'hts w (by decide +kernel)'), the script of L ints xs at the cell b, what the Statement gives of the start (any of its parts by flat_of_before) -/
def lw_At (p : Program) (s : State) (m : MethodId) (meth : Method) (c : Code) (b L : Nat) (xs : Nat → Int32) : Prop :=
  p.tables.exec = Jvm.exec ∧ c.code = code ∧ meth.sig.returnType = ret ∧ c.maxLocals = 7 ∧ s.vm.findClass R_law = some m.cls ∧ (∀ w ∈ lw_tbl, w.before #[Value.ref b] s = true) ∧ va_X b L xs s s.heap ∧ b < s.heap.size ∧ meth.locks = false ∧ (Jvm.Cond.and given_1 narrow_1).before #[Value.ref b] s = true
set_option maxRecDepth 100000 in
set_option maxHeartbeats 4000000 in
theorem whole_start {p : Program} {e : Env} {s : State} {m : MethodId} {below : List Frame} {meth : Method} {c : Code} (l : Launch) (hflags : l.flags = flags0) {b L : Nat} {xs : Nat → Int32} (hL : L ≤ 3072) (C0 : lw_At p s m meth c b L xs) : W p l e room_1 s m #[Value.ref b] below meth c s.heap [] 0 0 (lw_Z below #[Value.ref b] s) (entryFrame m ([Value.ref b] : List Value).toArray 7) := by
  obtain ⟨hexec, hcode, hret, hml, hown, hts, hX, hbl, hlocks, hn⟩ := C0
  have hl9 : l.stackTraces = false := by unfold Launch.stackTraces; rw [hflags]; decide
  have C : Cx RL p s m #[Value.ref b] meth c cL_law 7 wsL_law ret := ⟨hexec, hcode, hml, hown, fun w h => hts w (wsL_law_in w h), hret, hlocks⟩
  have V := envV_start hts hn
  have hEC := envC_start hts hn
  obtain ⟨t0, E9⟩ := envH_start hts hn
  obtain ⟨D, cI, cO, cJ, K⟩ := k_start hts V.2.2.1
  have hx := C.1
  have hb := C.2.1
  have hl := lv_entry [.ref b] (n := 7) (Nat.le_of_ble_eq_true rfl)
  rw [lg_entry_eq]
  generalize (lg_sl [.ref b] ++ List.replicate (7 - (lg_sl [.ref b]).length) Slot.unset).toArray = ls at hl ⊢
  have hl : lv_has ls 7 [(0, .ref b)] := hl
  have P : Hp D (fun q => s.heap.size ≤ q) s [] s.heap [] := ⟨fun k q h => by simp at h, ⟨fun i j p q h => by simp at h, fun k q h => by simp at h⟩, va_S.rf, fun q h => h⟩
  refine x_newC (pc := 0) C K P (Cn := RX6) (T := TX6) (N := 12) (ci := 7) rfl inlX6 tyX6 tyX6_ok (List.mem_append_left _ (List.mem_append_left _ (List.mem_append_left _ (by decide +kernel)))) (List.mem_append_left _ (List.mem_append_left _ (List.mem_append_left _ (by decide +kernel)))) (List.mem_append_left _ (List.mem_append_left _ (List.mem_append_left _ (by decide +kernel)))) G_f0 (fun j hj => match j, hj with | 0, _ => rfl | 1, _ => rfl | 2, _ => rfl | 3, _ => rfl | 4, _ => rfl | 5, _ => rfl | 6, _ => rfl | 7, _ => rfl | 8, _ => rfl | 9, _ => rfl | 10, _ => rfl | 11, _ => rfl | j + 12, h => absurd h (by omega)) (Nat.le_of_ble_eq_true rfl) (Nat.le_of_ble_eq_true rfl) dL_law_0 (fun g H P => ?_)
  refine lv_dup (pc := 3) hx hb dL_law_3 rfl ?_
  refine A_newG (pc := 4) (wr := []) (rest := [.ref g]) C V K E9 hl.1 P (Nat.le_of_ble_eq_true rfl) (Nat.le_of_ble_eq_true rfl) (Nat.le_of_ble_eq_true rfl) ⟨Nat.le_of_ble_eq_true rfl, Nat.le_of_ble_eq_true rfl⟩ (List.mem_append_left _ (List.mem_append_left _ (List.mem_append_left _ (by decide +kernel)))) (List.mem_append_left _ (List.mem_append_left _ (List.mem_append_left _ (by decide +kernel)))) (List.mem_append_left _ (List.mem_append_left _ (List.mem_append_left _ (by decide +kernel)))) dL_law_4 (fun η H locs P hG hg => ?_)
  refine lv_astore_n (pc := 7) (lv' := [(1, .ref g), (0, .ref b)]) hx hb dL_law_7 rfl hl (by decide) rfl (fun ls hl => ?_)
  refine x_newC (pc := 8) C K P (Cn := RX7) (T := TX7) (N := 28) (ci := 8) rfl inlX7 tyX7 tyX7_ok (List.mem_append_left _ (List.mem_append_left _ (List.mem_append_left _ (by decide +kernel)))) (List.mem_append_left _ (List.mem_append_left _ (List.mem_append_left _ (by decide +kernel)))) (List.mem_append_left _ (List.mem_append_left _ (List.mem_append_left _ (by decide +kernel)))) M_f0 (fun j hj => match j, hj with | 0, _ => rfl | 1, _ => rfl | 2, _ => rfl | 3, _ => rfl | 4, _ => rfl | 5, _ => rfl | 6, _ => rfl | 7, _ => rfl | 8, _ => rfl | 9, _ => rfl | 10, _ => rfl | 11, _ => rfl | 12, _ => rfl | 13, _ => rfl | 14, _ => rfl | 15, _ => rfl | 16, _ => rfl | 17, _ => rfl | 18, _ => rfl | 19, _ => rfl | 20, _ => rfl | 21, _ => rfl | 22, _ => rfl | 23, _ => rfl | 24, _ => rfl | 25, _ => rfl | 26, _ => rfl | 27, _ => rfl | j + 28, h => absurd h (by omega)) (Nat.le_of_ble_eq_true rfl) (Nat.le_of_ble_eq_true rfl) dL_law_8 (fun m0 H P => ?_)
  refine lv_dup (pc := 11) hx hb dL_law_11 rfl ?_
  refine A_newM (pc := 12) (wr := G_W cI cO η M_s0 ++ []) (rest := [.ref m0]) C K hl.1 P (Nat.le_of_ble_eq_true rfl) (Nat.le_of_ble_eq_true rfl) (Nat.le_of_ble_eq_true rfl) ⟨Nat.le_of_ble_eq_true rfl, Nat.le_of_ble_eq_true rfl⟩ (List.mem_append_left _ (List.mem_append_left _ (List.mem_append_left _ (by decide +kernel)))) (List.mem_append_left _ (List.mem_append_left _ (List.mem_append_left _ (by decide +kernel)))) (List.mem_append_left _ (List.mem_append_left _ (List.mem_append_left _ (by decide +kernel)))) dL_law_12 (fun as H locs P => ?_)
  refine lv_astore_n (pc := 15) (lv' := [(2, .ref m0), (1, .ref g), (0, .ref b)]) hx hb dL_law_15 rfl hl (by decide) rfl (fun ls hl => ?_)
  refine lv_iconst (pc := 16) (v := 1) hx hb dL_law_16 (by decide) ?_
  refine va_newa (pc := 17) (ty := .long) (a0 := (1, .inr (.inl (fun _ => 0)))) C.1 C.2.1 (atype := .long) (C.2.2.2.2.1 (.arrayClass .long) (List.mem_append_left _ (List.mem_append_left _ (List.mem_append_left _ (by decide +kernel))))) rfl K P.1 P.2.1 P.2.2.1 P.2.2.2 (N' := 1) (fun _ => rfl) (by decide) (by decide) (by decide) (Nat.le_of_ble_eq_true rfl) (Nat.le_of_ble_eq_true rfl) dL_law_17 (fun ob cA H hK1 h1 h2 h3 => ?_)
  have e3 : cA = cJ := Option.some.inj ((hK1.2 (tyL cI cO cJ).length (cA, .long) (by simp)).2.symm.trans (K.2 2 (cJ, .long) rfl).2)
  rw [e3] at h1 h2
  have P : Hp D (fun q => s.heap.size ≤ q) s (((ob, ArL cJ (fun _ => 0)) :: G_W cI cO η M_s0) ++ M_W cI m0 as 0 M_s0) H locs := Hp.perm (⟨h1, h2, h3, P.2.2.2⟩ : Hp D _ s _ H locs) (by
    rw [List.append_nil]
    exact ((List.perm_append_comm.cons _).trans (List.perm_append_singleton _ _).symm))
  refine lv_astore_n (pc := 19) (lv' := [(3, .ref ob), (2, .ref m0), (1, .ref g), (0, .ref b)]) hx hb dL_law_19 rfl hl (by decide) rfl (fun ls hl => ?_)
  refine lv_iconst (pc := 20) (v := 0) hx hb dL_law_20 (by decide) ?_
  refine lv_istore (pc := 21) (lv' := [(4, .int 0), (3, .ref ob), (2, .ref m0), (1, .ref g), (0, .ref b)]) hx hb dL_law_21 hl (by decide) rfl (fun ls hl => ?_)
  refine law_loop hl9 C V hEC K E9 hX hbl (by omega) hL (Nat.le_of_ble_eq_true rfl) (Nat.le_of_ble_eq_true rfl) 601024 7293034 (Nat.le_refl _) (Nat.le_refl _) (fun H locs ls cells slots hS hc hs => ?_) 512 0 η M_s0 0 _ H locs ls _ _ (by omega) (Nat.zero_le _) (by decide) (by decide) Inv_0 hG P (by rw [hg]; exact hl)
  refine lv_iconst (pc := 1599) (v := 1) hx hb dL_law_1599 (by decide) ?_
  exact W.widen hc hs (va_forget hS.2.2 (lw_ret hexec hcode hret hlocks dL_law_1600))
