def R_law : String := "GaugerhallLaw"
def lw_P (b : Addr) (xs : List Int32) (args : Array Value) (s : State) : Prop := args = #[.ref b] ∧ s.IntsAt b xs ∧ xs.length ≤ 260 ∧ (Jvm.Cond.and given_1 narrow_1).before args s = true
def lw_Q (_ : Array Value) (s : State) (o : Outcome) (t : State) : Prop := o = .returned (some (.int 1)) ∧ Framed s o t [] 603455 7291333
def lw_Z (below : List Frame) (a : Array Value) (s : State) : State → Prop := fun t => ∃ o, t.status = .running ∧ Ended t below o ∧ lw_Q a s o t
/-- the law's own end, with 1 on the stack, nothing written that was there before, its room as the claim has it -/
theorem lw_ret {p : Program} {l : Launch} {e : Env} {s : State} {m : MethodId} {below : List Frame} {meth : Method} {c : Code} {b : Nat} (hx : p.tables.exec = Jvm.exec) (hb : c.code = code) (hr : meth.sig.returnType = ret) (hlocks : meth.locks = false) {pc : Nat} {H : Heap} {ls : Array Slot} (hdg : decode code pc = .ok (.ireturn, 1)) : W p l e room_1 s m #[Value.ref b] below meth c H [] 603455 7291333 (lw_Z below #[Value.ref b] s) (F0 m pc ls [.int 1]) := by
  intro T hT X
  obtain ⟨fs, hret, hrun, hended, hW, hframe⟩ := X.leave (v := some (.int 1)) (hlocks := hlocks) (fun h => by rw [hr] at h; cases h)
  have hmeth' : T.vm.method? m = some meth := X.method'
  refine ⟨T.setFrames fs, ?_, .returned (some (.int 1)), hrun, hended, rfl, ⟨_, rfl⟩, hW, hframe⟩
  jvm_step X.here [X.here.top, hx, hb, hdg, hmeth', hr, ret, narrow_b1]
  (try refine ⟨rfl, ?_⟩); (try refine ⟨rfl, ?_⟩)
  first | (intro acts; rw [hret _ acts rfl rfl rfl]) | rw [hret _ _ rfl rfl rfl]
  exact Steps.refl _
/-- what holds at the law's entry: the machine, the code, the tables' words (any of lw_tbl by 'hts w (by decide +kernel)'), the script of L ints xs at the cell b, what the Statement gives of the start (any of its parts by flat_of_before) -/
def lw_At (p : Program) (s : State) (m : MethodId) (meth : Method) (c : Code) (b L : Nat) (xs : Nat → Int32) : Prop :=
  p.tables.exec = Jvm.exec ∧ c.code = code ∧ meth.sig.returnType = ret ∧ c.maxLocals = 62 ∧ s.vm.findClass R_law = some m.cls ∧ (∀ w ∈ lw_tbl, w.before #[Value.ref b] s = true) ∧ va_X b L xs s s.heap ∧ b < s.heap.size ∧ meth.locks = false ∧ (Jvm.Cond.and given_1 narrow_1).before #[Value.ref b] s = true
set_option maxRecDepth 100000 in
set_option maxHeartbeats 8000000 in
theorem whole_start {p : Program} {e : Env} {s : State} {m : MethodId} {below : List Frame} {meth : Method} {c : Code} (l : Launch) (hflags : l.flags = flags0) {b L : Nat} {xs : Nat → Int32} (hL : L ≤ 260) (C0 : lw_At p s m meth c b L xs) : W p l e room_1 s m #[Value.ref b] below meth c s.heap [] 0 0 (lw_Z below #[Value.ref b] s) (entryFrame m ([Value.ref b] : List Value).toArray 62) := by
  obtain ⟨hexec, hcode, hret, hml, hown, hts0, hX, hbl, hlocks, hn⟩ := C0
  have hl9 : l.stackTraces = false := by unfold Launch.stackTraces; rw [hflags]; decide
  have C : Cx RL p s m #[Value.ref b] meth c cL_law 62 wsL_law ret := ⟨hexec, hcode, hml, hown, fun w h => hts0 w (wsL_law_in w h), hret, hlocks⟩
  have V := envV_start hts0 hn
  have hEC := envC_start hts0 hn
  obtain ⟨t0, E9⟩ := envH_start hts0 hn
  obtain ⟨D, cI, cO, K⟩ := k_start hts0 V.2.2.1
  have hx := C.1
  have hb := C.2.1
  have hts := C.2.2.2.2.1
  have hl := lv_entry [.ref b] (n := 62) (Nat.le_of_ble_eq_true rfl)
  rw [lg_entry_eq]
  generalize (lg_sl [.ref b] ++ List.replicate (62 - (lg_sl [.ref b]).length) Slot.unset).toArray = ls at hl ⊢
  have hl : lv_has ls 62 [(0, .ref b)] := hl
  have P : Hp D (fun q => s.heap.size ≤ q) s [] s.heap [] := ⟨fun k q h => by simp at h, ⟨fun i j p q h => by simp at h, fun k q h => by simp at h⟩, va_S.rf, fun q h => h⟩
  refine x_newC (pc := 0) C K P (Cn := RX6) (T := TX6) (N := 12) (ci := 7) rfl inlX6 tyX6 tyX6_ok (List.mem_append_left _ (List.mem_append_left _ (List.mem_append_left _ (by decide +kernel)))) (List.mem_append_left _ (List.mem_append_left _ (List.mem_append_left _ (by decide +kernel)))) (List.mem_append_left _ (List.mem_append_left _ (List.mem_append_left _ (by decide +kernel)))) G_f0 (fun j hj => match j, hj with | 0, _ => rfl | 1, _ => rfl | 2, _ => rfl | 3, _ => rfl | 4, _ => rfl | 5, _ => rfl | 6, _ => rfl | 7, _ => rfl | 8, _ => rfl | 9, _ => rfl | 10, _ => rfl | 11, _ => rfl | j + 12, h => absurd h (by omega)) (Nat.le_of_ble_eq_true rfl) (Nat.le_of_ble_eq_true rfl) dL_law_0 (fun g0 H P => ?_)
  refine lv_dup (pc := 3) hx hb dL_law_3 rfl ?_
  refine A_newG (pc := 4) (wr := []) (rest := [.ref g0]) C V K E9 hl.1 P (Nat.le_of_ble_eq_true rfl) (Nat.le_of_ble_eq_true rfl) (Nat.le_of_ble_eq_true rfl) ⟨Nat.le_of_ble_eq_true rfl, Nat.le_of_ble_eq_true rfl⟩ (List.mem_append_left _ (List.mem_append_left _ (List.mem_append_left _ (by decide +kernel)))) (List.mem_append_left _ (List.mem_append_left _ (List.mem_append_left _ (by decide +kernel)))) (List.mem_append_left _ (List.mem_append_left _ (List.mem_append_left _ (by decide +kernel)))) dL_law_4 (fun η H locs P hG hg => ?_)
  refine lv_astore_n (pc := 7) (lv' := [(1, .ref g0), (0, .ref b)]) hx hb dL_law_7 rfl hl (by decide) rfl (fun ls hl => ?_)
  refine lv_iconst (pc := 8) (v := 5) hx hb dL_law_8 (by decide) ?_
  refine x_newI (pc := 9) C K 0 rfl P (List.mem_append_left _ (List.mem_append_left _ (List.mem_append_left _ (by decide +kernel)))) 5 (by decide) (by decide) (by decide) (Nat.le_of_ble_eq_true rfl) (Nat.le_of_ble_eq_true rfl) dL_law_9 (fun a0 H P => ?_)
  refine lv_astore_n (pc := 11) (lv' := [(2, .ref a0), (1, .ref g0), (0, .ref b)]) hx hb dL_law_11 rfl hl (by decide) rfl (fun ls hl => ?_)
  refine lv_iconst (pc := 12) (v := 5) hx hb dL_law_12 (by decide) ?_
  refine x_newI (pc := 13) C K 0 rfl P (List.mem_append_left _ (List.mem_append_left _ (List.mem_append_left _ (by decide +kernel)))) 5 (by decide) (by decide) (by decide) (Nat.le_of_ble_eq_true rfl) (Nat.le_of_ble_eq_true rfl) dL_law_13 (fun a1 H P => ?_)
  refine lv_astore_n (pc := 15) (lv' := [(3, .ref a1), (2, .ref a0), (1, .ref g0), (0, .ref b)]) hx hb dL_law_15 rfl hl (by decide) rfl (fun ls hl => ?_)
  refine lv_iconst (pc := 16) (v := 5) hx hb dL_law_16 (by decide) ?_
  refine x_newI (pc := 17) C K 0 rfl P (List.mem_append_left _ (List.mem_append_left _ (List.mem_append_left _ (by decide +kernel)))) 5 (by decide) (by decide) (by decide) (Nat.le_of_ble_eq_true rfl) (Nat.le_of_ble_eq_true rfl) dL_law_17 (fun a2 H P => ?_)
  refine lv_astore (pc := 19) (lv' := [(4, .ref a2), (3, .ref a1), (2, .ref a0), (1, .ref g0), (0, .ref b)]) hx hb dL_law_19 hl (by decide) rfl (fun ls hl => ?_)
  refine lv_iconst (pc := 21) (v := 3) hx hb dL_law_21 (by decide) ?_
  refine x_newI (pc := 22) C K 0 rfl P (List.mem_append_left _ (List.mem_append_left _ (List.mem_append_left _ (by decide +kernel)))) 3 (by decide) (by decide) (by decide) (Nat.le_of_ble_eq_true rfl) (Nat.le_of_ble_eq_true rfl) dL_law_22 (fun a3 H P => ?_)
  refine lv_astore (pc := 24) (lv' := [(5, .ref a3), (4, .ref a2), (3, .ref a1), (2, .ref a0), (1, .ref g0), (0, .ref b)]) hx hb dL_law_24 hl (by decide) rfl (fun ls hl => ?_)
  refine lv_bipush (pc := 26) (v := 16) hx hb dL_law_26 (by decide) ?_
  refine x_newI (pc := 28) C K 0 rfl P (List.mem_append_left _ (List.mem_append_left _ (List.mem_append_left _ (by decide +kernel)))) 16 (by decide) (by decide) (by decide) (Nat.le_of_ble_eq_true rfl) (Nat.le_of_ble_eq_true rfl) dL_law_28 (fun a4 H P => ?_)
  refine lv_astore (pc := 30) (lv' := [(6, .ref a4), (5, .ref a3), (4, .ref a2), (3, .ref a1), (2, .ref a0), (1, .ref g0), (0, .ref b)]) hx hb dL_law_30 hl (by decide) rfl (fun ls hl => ?_)
  refine lv_bipush (pc := 32) (v := 40) hx hb dL_law_32 (by decide) ?_
  refine x_newI (pc := 34) C K 0 rfl P (List.mem_append_left _ (List.mem_append_left _ (List.mem_append_left _ (by decide +kernel)))) 40 (by decide) (by decide) (by decide) (Nat.le_of_ble_eq_true rfl) (Nat.le_of_ble_eq_true rfl) dL_law_34 (fun a5 H P => ?_)
  refine lv_astore (pc := 36) (lv' := [(7, .ref a5), (6, .ref a4), (5, .ref a3), (4, .ref a2), (3, .ref a1), (2, .ref a0), (1, .ref g0), (0, .ref b)]) hx hb dL_law_36 hl (by decide) rfl (fun ls hl => ?_)
  refine lv_bipush (pc := 38) (v := 40) hx hb dL_law_38 (by decide) ?_
  refine x_newI (pc := 40) C K 0 rfl P (List.mem_append_left _ (List.mem_append_left _ (List.mem_append_left _ (by decide +kernel)))) 40 (by decide) (by decide) (by decide) (Nat.le_of_ble_eq_true rfl) (Nat.le_of_ble_eq_true rfl) dL_law_40 (fun a6 H P => ?_)
  refine lv_astore (pc := 42) (lv' := [(8, .ref a6), (7, .ref a5), (6, .ref a4), (5, .ref a3), (4, .ref a2), (3, .ref a1), (2, .ref a0), (1, .ref g0), (0, .ref b)]) hx hb dL_law_42 hl (by decide) rfl (fun ls hl => ?_)
  refine lv_bipush (pc := 44) (v := 30) hx hb dL_law_44 (by decide) ?_
  refine x_newI (pc := 46) C K 0 rfl P (List.mem_append_left _ (List.mem_append_left _ (List.mem_append_left _ (by decide +kernel)))) 30 (by decide) (by decide) (by decide) (Nat.le_of_ble_eq_true rfl) (Nat.le_of_ble_eq_true rfl) dL_law_46 (fun a7 H P => ?_)
  refine lv_astore (pc := 48) (lv' := [(9, .ref a7), (8, .ref a6), (7, .ref a5), (6, .ref a4), (5, .ref a3), (4, .ref a2), (3, .ref a1), (2, .ref a0), (1, .ref g0), (0, .ref b)]) hx hb dL_law_48 hl (by decide) rfl (fun ls hl => ?_)
  refine lv_bipush (pc := 50) (v := 30) hx hb dL_law_50 (by decide) ?_
  refine x_newI (pc := 52) C K 0 rfl P (List.mem_append_left _ (List.mem_append_left _ (List.mem_append_left _ (by decide +kernel)))) 30 (by decide) (by decide) (by decide) (Nat.le_of_ble_eq_true rfl) (Nat.le_of_ble_eq_true rfl) dL_law_52 (fun a8 H P => ?_)
  refine lv_astore (pc := 54) (lv' := [(10, .ref a8), (9, .ref a7), (8, .ref a6), (7, .ref a5), (6, .ref a4), (5, .ref a3), (4, .ref a2), (3, .ref a1), (2, .ref a0), (1, .ref g0), (0, .ref b)]) hx hb dL_law_54 hl (by decide) rfl (fun ls hl => ?_)
  obtain ⟨ar, har⟩ : ∃ ar : Nat → Nat, ar 0 = a0 ∧ ar 1 = a1 ∧ ar 2 = a2 ∧ ar 3 = a3 ∧ ar 4 = a4 ∧ ar 5 = a5 ∧ ar 6 = a6 ∧ ar 7 = a7 ∧ ar 8 = a8 := ⟨fun j => match j with | 0 => a0 | 1 => a1 | 2 => a2 | 3 => a3 | 4 => a4 | 5 => a5 | 6 => a6 | 7 => a7 | _ => a8, rfl, rfl, rfl, rfl, rfl, rfl, rfl, rfl, rfl⟩
  obtain ⟨rfl, rfl, rfl, rfl, rfl, rfl, rfl, rfl, rfl⟩ := har
  have P : Hp D (fun q => s.heap.size ≤ q) s (G_W cI cO η M_s0 ++ Z_W cI ar L00) H locs := P.eq (by
    simp only [List.append_assoc, List.nil_append, List.cons_append]
    rfl)
  refine lv_aload (pc := 56) hx hb dL_law_56 (lv_at hl 4 rfl) ?_
  refine lv_iconst (pc := 58) (v := 1) hx hb dL_law_58 (by decide) ?_
  refine lv_bipush (pc := 59) (v := 10) hx hb dL_law_59 (by decide) ?_
  refine Z_ast (pc := 61) (j := 4) (n := 16) (x := 10) C K P rfl (vp_dec (by decide)) rfl dL_law_61 (fun H locs (P : Hp D (fun q => s.heap.size ≤ q) s (G_W cI cO η M_s0 ++ Z_W cI ar (bs L00 4 1 10)) H locs) => ?_)
  refine lv_aload (pc := 62) hx hb dL_law_62 (lv_at hl 4 rfl) ?_
  refine lv_iconst (pc := 64) (v := 3) hx hb dL_law_64 (by decide) ?_
  refine lv_iconst (pc := 65) (v := (-1)) hx hb dL_law_65 (by decide) ?_
  refine Z_ast (pc := 66) (j := 4) (n := 16) (x := (-1)) C K P rfl (vp_dec (by decide)) rfl dL_law_66 (fun H locs (P : Hp D (fun q => s.heap.size ≤ q) s (G_W cI cO η M_s0 ++ Z_W cI ar (bs (bs L00 4 1 10) 4 3 (-1))) H locs) => ?_)
  refine lv_iconst (pc := 67) (v := 0) hx hb dL_law_67 (by decide) ?_
  refine lv_istore (pc := 68) (lv' := [(11, .int 0), (10, .ref (ar 8)), (9, .ref (ar 7)), (8, .ref (ar 6)), (7, .ref (ar 5)), (6, .ref (ar 4)), (5, .ref (ar 3)), (4, .ref (ar 2)), (3, .ref (ar 1)), (2, .ref (ar 0)), (1, .ref g0), (0, .ref b)]) hx hb dL_law_68 hl (by decide) rfl (fun ls hl => ?_)
  have hRf : 12 ≤ room_1.frames := Nat.le_of_ble_eq_true rfl
  have hRl : 452 ≤ room_1.locals := Nat.le_of_ble_eq_true rfl
  have hbA : ¬ s.heap.size ≤ b := by omega
  refine law_init hl9 C V hEC K E9 hX hbl hbA (by omega) hRf hRl 90 4000 (Nat.le_of_ble_eq_true rfl) (Nat.le_of_ble_eq_true rfl) (fun η σ L H locs ls cells slots hII hG hg P hc hs hl => ?_) 5 0 η M_s0 L01 H locs ls _ _ rfl (by decide) (by decide) ii_0 hG hg P (lv_sub hl [0, 1, 2, 3, 4, 5, 6, 7, 8, 9, 10, 11] rfl)
  obtain ⟨hTI, z8, z9⟩ := ii_ti hII
  refine lv_iconst (pc := 121) (v := 0) hx hb dL_law_121 (by decide) ?_
  refine lv_istore (pc := 122) (lv' := [(11, .int 0), (10, .ref (ar 8)), (9, .ref (ar 7)), (8, .ref (ar 6)), (7, .ref (ar 5)), (6, .ref (ar 4)), (5, .ref (ar 3)), (4, .ref (ar 2)), (3, .ref (ar 1)), (2, .ref (ar 0)), (1, .ref g0), (0, .ref b)]) hx hb dL_law_122 hl (by decide) rfl (fun ls hl => ?_)
  refine lv_iconst (pc := 124) (v := 0) hx hb dL_law_124 (by decide) ?_
  refine lv_istore (pc := 125) (lv' := [(12, .int 0), (11, .int 0), (10, .ref (ar 8)), (9, .ref (ar 7)), (8, .ref (ar 6)), (7, .ref (ar 5)), (6, .ref (ar 4)), (5, .ref (ar 3)), (4, .ref (ar 2)), (3, .ref (ar 1)), (2, .ref (ar 0)), (1, .ref g0), (0, .ref b)]) hx hb dL_law_125 hl (by decide) rfl (fun ls hl => ?_)
  refine lv_iconst (pc := 127) (v := 0) hx hb dL_law_127 (by decide) ?_
  refine lv_istore (pc := 128) (lv' := [(13, .int 0), (12, .int 0), (11, .int 0), (10, .ref (ar 8)), (9, .ref (ar 7)), (8, .ref (ar 6)), (7, .ref (ar 5)), (6, .ref (ar 4)), (5, .ref (ar 3)), (4, .ref (ar 2)), (3, .ref (ar 1)), (2, .ref (ar 0)), (1, .ref g0), (0, .ref b)]) hx hb dL_law_128 hl (by decide) rfl (fun ls hl => ?_)
  refine law_loop hl9 C V hEC K E9 hX hbl hbA (by omega) hRf hRl 600000 7280000 (Nat.le_of_ble_eq_true rfl) (Nat.le_of_ble_eq_true rfl) (fun H locs ls cells slots hS hc hs => ?_) 120 0 η σ L H locs ls _ _ rfl (by omega) (by omega) hTI hG hg P (by rw [z8, z9]; exact (lv_sub hl [0, 1, 2, 3, 4, 5, 6, 7, 8, 9, 10, 11, 12, 13] rfl))
  exact W.widen (Nat.le_trans hc (Nat.le_of_ble_eq_true rfl)) (Nat.le_trans hs (Nat.le_of_ble_eq_true rfl)) (va_forget hS.2.2 (lw_ret hexec hcode hret hlocks dL_law_2819))
