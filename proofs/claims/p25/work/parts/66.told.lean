/-! ===== isTold: all of it is asked ===== -/
section TR
variable {p : Program} {l : Launch} {e : Env} {R : Room} {s : State} {m : MethodId} {args : Array Value} {below : List Frame} {meth : Method} {c : Code} {H : Heap} {locs : List Loc} {cells slots : Nat} {Q : State → Prop} {cc : ByteArray} {pc : Nat} {ls : Array Slot} {rest st0 : List Value} {Ts : List Cond} {nL : Nat} {D : va_G} {A : Nat → Prop} {ret : Option FieldType} {cI : ClassId} {tys : List (ClassId × FieldType)} {ar : Nat → Nat} {L : Sg} {wl : va_W} {own : String} {cO : ClassId} {t0 : Nat} {η : Eg} {σ : Sg} {wr : va_W} {mc ms g0 : Nat}
theorem T_callW {y : MethodName} {ws : List Cond} {rm : Room} {bytes : ByteArray} {maxL n index : Nat} {rty : Option FieldType} {hh : List (Nat × Nat × Nat × Nat)} {As0 : List Value} {f : Int32 × Int32 × Sg} {v : Int32} {τ : Sg} (C : Cx RL p s m args meth c cc nL Ts ret) (V : EnvV s) (hEC : EnvC s) (K : va_K D vwCl (tyG cI cO) s) (E9 : EnvH t0 A s s.heap) (hl : ls.size = nL) (hg : e_ad η 0 = g0) (P : Hp D A s (G_W cI cO η σ ++ wr) H locs)
    (hM : L_Met l y ws rm D cI cO t0 η σ f (.ref (e_ad η 0) :: As0) mc ms) (hf : FnW y ws bytes maxL rty hh n rm mc ms) (hv : an f = v ∧ f.2.2 = τ) (g : GoodIn Ts (va_wsS RL index y ws)) (hn : (Value.ref g0 :: As0).length = n) (hst : st0 = (Value.ref g0 :: As0).reverse ++ rest) (hR : rm.frames + 1 ≤ R.frames ∧ 8 + (maxL + 11) + rm.locals ≤ R.locals) (hcat : (rest.map fun v => v.category).sum ≤ 8) (hz : cells + mc ≤ R.cells ∧ slots + ms ≤ R.slots) (d : decode cc pc = .ok (.invokestatic index, 3))
    (kk : ∀ (η' : Eg) (H : Heap) (locs : List Loc), Hp D A s (G_W cI cO η' τ ++ wr) H locs → Gok t0 η' τ → e_ad η' 0 = g0 → W p l e R s m args below meth c H locs (cells + mc) (slots + ms) Q (F0 m (pc + 3) ls (.int v :: rest))) : W p l e R s m args below meth c H locs cells slots Q (F0 m pc ls st0) := by
  subst hg
  obtain ⟨rfl, rfl⟩ := hv
  obtain ⟨⟨ws', hw⟩, hrc, hrs, hd⟩ := hf
  have P2 := P.sub (List.sublist_append_left _ wr)
  have hF := va_A_in P2.2.1 P2.2.2.1 P2.2.2.2
  refine va_calli (vx_runSW C.fix (hM H.size) (vx_cwSW n C.2.2.2.2.1 g hw hrc hrs hd hR) ⟨preL_blind, fun U hU hW => ⟨rfl, by rw [hU], by rw [hU]; exact P2.1, va_K.moved hW.alike K, P2.2.1.weaken (fun _ _ _ _ => trivial), V.warm hW, hEC.warm hW, by rw [hU]; exact E9.go P2.2.2.1 hF hW.alike⟩⟩ rfl hn hl hst (lv_room hcat) d hz) P2.2.2.1 (fun q _ h => hF q h) hF (fun r u t H1 locs1 ht hvm hw hB hz1 hk1 hS => ?_)
  obtain ⟨hP1, hD1⟩ := hB
  rw [ht] at hP1
  rw [hw.1]
  exact kk u H1 locs1 (P.frame2 hP1 hD1 hk1 hS) hw.2.1 hw.2.2
theorem T_day {index : Nat} (C : Cx RL p s m args meth c cc nL Ts ret) (hN : EnvN s) (K : va_K D vwCl (tyG cI cO) s) (hl : ls.size = nL) (hg : e_ad η 0 = g0) (P : Hp D A s (G_W cI cO η σ ++ wr) H locs) (g : GoodIn Ts (wsV RL index RX6 yX6_day wsX6_day)) (hR : rX6_day.frames + 1 ≤ R.frames ∧ 8 + (1 + 11) + rX6_day.locals ≤ R.locals) (hcat : (rest.map fun v => v.category).sum ≤ 8) (hz : cells + 0 ≤ R.cells ∧ slots + 0 ≤ R.slots)
    (d : decode cc pc = .ok (.invokevirtual index, 3)) (kk : W p l e R s m args below meth c H locs cells slots Q (F0 m (pc + 3) ls (.int (g_day σ) :: rest))) : W p l e R s m args below meth c H locs cells slots Q (F0 m pc ls (.ref g0 :: rest)) := by
  subst hg
  have P2 := P.sub (List.sublist_append_left _ wr)
  exact N_callR (As := []) C hN K hl P2.1 (P2.2.1.weaken (fun _ _ _ _ => trivial)) (va_recv K P2.1 (ci := 7) (q0 := 0) rfl rfl) (kX6_day l D cI cO η σ) fnX6_day rfl g rfl rfl hR hcat hz d kk
abbrev T_Q (D : va_G) (cI cO : ClassId) (t0 : Nat) (σ : Sg) (g0 : Nat) (wr : va_W) (A : Nat → Prop) : Array Value → State → Outcome → State → Prop :=
  va_Qi (fun r (η' : Eg) => r = 1 ∧ Gok t0 η' σ ∧ e_ad η' 0 = g0) (fun η' t => PicG D A (G_W cI cO η' σ ++ wr) t) A
def T_Met (l : Launch) (y : MethodName) (ws : List Cond) (rm : Room) (D : va_G) (cI cO : ClassId) (t0 : Nat) (η : Eg) (σ : Sg) (wr : va_W) (g0 : Nat) (As : List Value) (mc ms : Nat) : Prop :=
  ∀ sz : Nat, Met l y ws rm (va_Pc As (PreL D cI cO t0 sz (G_W cI cO η σ ++ wr))) (T_Q D cI cO t0 σ g0 wr (va_A (G_W cI cO η σ ++ wr) sz)) mc ms (va_A (G_W cI cO η σ ++ wr) sz)
theorem T_body {y : MethodName} {ws : List Cond} {rm : Room} {maxL n : Nat} {bytes : ByteArray} {As : List Value} (hy : y.cls = RL) (hf : Fn y ws bytes maxL ret n rm mc ms) (hlen : (lg_sl As).length ≤ maxL)
    (body : ∀ (p : Program) (e : Env) (s : State) (m : MethodId) (args : Array Value) (below : List Frame) (meth : Method) (c : Code), Cx RL p s m args meth c bytes maxL ws ret → EnvV s → EnvC s → va_K D vwCl (tyG cI cO) s → ∀ A : Nat → Prop, EnvH t0 A s s.heap → Hp D A s (G_W cI cO η σ ++ wr) s.heap [] → ∀ ls : Array Slot, lv_has ls maxL (lv_args 0 As) →
      W p l e rm s m args below meth c s.heap [] 0 0 (MQ below (T_Q D cI cO t0 σ g0 wr A) args s mc ms A) (F0 m 0 ls [])) : T_Met l y ws rm D cI cO t0 η σ wr g0 As mc ms := by
  intro sz
  obtain ⟨⟨ws', hw⟩, -, -, -⟩ := hf
  refine Met.ofW (cc := bytes) (maxL := maxL) (ret := ret) (by rw [hy]; decide) hw ?_
  intro p e s m args below meth c s₁ B hml hv
  obtain ⟨rfl, hsz, hP, hK, hD, hV, hC, hH⟩ := hv
  subst hsz
  have hown : s.vm.findClass RL = some m.cls := by rw [← hy]; exact findClass_of_methodNamed B.named
  have hl := lv_entry As (n := maxL) hlen
  rw [lg_entry_eq]
  exact body p e s m _ below meth c ⟨B.exec, B.bytes, hml, hown, atoms_spec (ws := ws) B.pre, B.returns, B.notSynchronized⟩ hV hC hK _ hH ⟨hP, hD.self, va_S.rf, fun q h => Or.inr h⟩ _ hl
theorem T_ret (C : Cx RL p s m args meth c cc nL Ts (some .boolean)) (P : Hp D A s (G_W cI cO η σ ++ wr) H locs) (hG : Gok t0 η σ) (hg : e_ad η 0 = g0) (hm : cells ≤ mc ∧ slots ≤ ms) (d : decode cc pc = .ok (.ireturn, 1)) :
    W p l e R s m args below meth c H locs cells slots (MQ below (T_Q D cI cO t0 σ g0 wr A) args s mc ms A) (F0 m pc ls [.int 1]) := by
  have hlocks := C.2.2.2.2.2.2
  exact W.widen hm.1 hm.2 (W.zret C.1 C.2.1 C.2.2.2.2.2.1 rfl (fun t ht hW => ⟨⟨1, η, rfl, ⟨rfl, hG, hg⟩, by show va_P D vwCl _ t.heap; rw [ht]; exact P.1, P.2.1⟩, P.2.2.1.F ht⟩) P.2.2.1.2.2 d)
theorem T_call {y : MethodName} {ws : List Cond} {rm : Room} {bytes : ByteArray} {maxL n index : Nat} {rty : Option FieldType} {As : List Value} (C : Cx RL p s m args meth c cc nL Ts ret) (V : EnvV s) (hEC : EnvC s) (K : va_K D vwCl (tyG cI cO) s) (E9 : EnvH t0 A s s.heap) (hl : ls.size = nL) (P : Hp D A s (G_W cI cO η σ ++ wr) H locs)
    (hM : T_Met l y ws rm D cI cO t0 η σ wr g0 As mc ms) (hf : Fn y ws bytes maxL rty n rm mc ms) (g : GoodIn Ts (va_wsS RL index y ws)) (hn : As.length = n) (hst : st0 = As.reverse ++ rest) (hR : rm.frames + 1 ≤ R.frames ∧ 8 + (maxL + 11) + rm.locals ≤ R.locals) (hcat : (rest.map fun v => v.category).sum ≤ 8) (hz : cells + mc ≤ R.cells ∧ slots + ms ≤ R.slots) (d : decode cc pc = .ok (.invokestatic index, 3))
    (kk : ∀ (η' : Eg) (H : Heap) (locs : List Loc), Hp D A s (G_W cI cO η' σ ++ wr) H locs → Gok t0 η' σ → e_ad η' 0 = g0 → W p l e R s m args below meth c H locs (cells + mc) (slots + ms) Q (F0 m (pc + 3) ls (.int 1 :: rest))) : W p l e R s m args below meth c H locs cells slots Q (F0 m pc ls st0) := by
  obtain ⟨⟨ws', hw⟩, hrc, hrs, hd⟩ := hf
  have hF := va_A_in P.2.1 P.2.2.1 P.2.2.2
  refine va_calli (va_runS C.fix (hM H.size) (va_cwS n C.2.2.2.2.1 g hw hrc hrs hd hR) ⟨preL_blind, fun U hU hW => ⟨rfl, by rw [hU], by rw [hU]; exact P.1, va_K.moved hW.alike K, P.2.1.weaken (fun _ _ _ _ => trivial), V.warm hW, hEC.warm hW, by rw [hU]; exact E9.go P.2.2.1 hF hW.alike⟩⟩ rfl hn hl hst (lv_room hcat) d hz) P.2.2.1 (fun q _ h => hF q h) hF (fun r u t H1 locs1 ht hvm hw hB hz1 hk1 hS => ?_)
  obtain ⟨hP1, hD1⟩ := hB
  rw [ht] at hP1
  rw [hw.1]
  exact kk u H1 locs1 ⟨hP1, hD1.weaken (fun _ _ _ h => hF _ h), hS, P.2.2.2⟩ hw.2.1 hw.2.2
theorem t5 {T : Nat} (h : T < 120) : ∃ j, j < 5 ∧ nI T / 10 - nI T / 10 / 5 * 5 = nI j := by
  refine ⟨T / 10 % 5, Nat.mod_lt _ (by decide), ?_⟩
  have h1 : (nI T).toInt = T := nI_toInt (by omega)
  have h2 : (nI T / 10).toInt = ((T / 10 : Nat) : Int) := by rw [i_div (by rw [h1]; omega) (by decide), h1]; rfl
  have h3 : (nI T / 10 / 5).toInt = ((T / 10 / 5 : Nat) : Int) := by rw [i_div (by rw [h2]; omega) (by decide), h2]; rfl
  have h4 : (nI T / 10 / 5 * 5).toInt = ((T / 10 / 5 : Nat) : Int) * 5 := by rw [i_mul (by rw [h3, show (5 : Int32).toInt = 5 by decide]; omega) (by rw [h3, show (5 : Int32).toInt = 5 by decide]; omega), h3]; rfl
  apply i_eq
  rw [i_sub (by rw [h2, h4]; omega) (by rw [h2, h4]; omega), h2, h4, nI_toInt (by omega)]
  omega
end TR
abbrev rL_isTold : Room := { frames := 9, cells := 305, slots := 1830, locals := 158 }
theorem fnL_isTold : Fn yL_isTold wsL_isTold cL_isTold 13 (some .boolean) 9 rL_isTold 305 1830 := ⟨⟨_, rfl⟩, rfl, rfl, by decide +kernel⟩
set_option maxHeartbeats 8000000 in
set_option maxRecDepth 100000 in
theorem kL_isTold (l : Launch) (hl9 : l.stackTraces = false) (D : va_G) (cI cO : ClassId) (t0 : Nat) (η : Eg) (σ : Sg) (ar : Nat → Nat) (L : Sg) (g0 T : Nat) (hT : T < 120) (hI : Inv σ) (hF : F5 σ) (hS : Sim σ L) (hCons : ((((((sm (L.2 2) 5) + ((z_moving L).1)) + (sm (L.2 5) (ix (L.2 4 9)))) + (L.2 4 12)) + (L.2 4 13)) + (L.2 4 14)) = (L.2 4 11)) (hG : Gok t0 η σ) (hg : e_ad η 0 = g0) : T_Met l yL_isTold wsL_isTold rL_isTold D cI cO t0 η σ (Z_W cI ar L) g0 [.ref g0, .int (nI T), .ref (ar 0), .ref (ar 1), .ref (ar 2), .ref (ar 4), .ref (ar 5), .ref (ar 7), .ref (ar 8)] 305 1830 := by
  refine T_body (n := 9) rfl fnL_isTold (Nat.le_of_ble_eq_true rfl) ?_
  intro p e s m args below meth c C V hEC K A E9 P ls hl
  have hx := C.1
  have hb := C.2.1
  have hown := C.2.2.2.1
  have hts := C.2.2.2.2.1
  have hl : lv_has ls 13 [(0, .ref g0), (1, .int (nI T)), (2, .ref (ar 0)), (3, .ref (ar 1)), (4, .ref (ar 2)), (5, .ref (ar 4)), (6, .ref (ar 5)), (7, .ref (ar 7)), (8, .ref (ar 8))] := hl
  have hx22 : ix (L.2 4 10) = ix (σ.1 22) := congrArg ix hS.2.2.1.2.2.2.2.2.2.2.2.2.2.1
  have hx18 : L.2 4 9 = σ.1 18 := hS.2.2.1.2.2.2.2.2.2.2.2.2.1
  have hc10 : Cz (L.2 4 10) 30 := by have h := hI.1.2.1; unfold Cnt at h; rw [← hS.2.2.1.2.2.2.2.2.2.2.2.2.2.1] at h; exact h
  have hc9 : Cz (L.2 4 9) 40 := by have h := hI.1.2.2; unfold Cnt at h; rw [← hx18] at h; exact ⟨h.1, by rw [hx18]; exact hF.2⟩
  have ql := q_ledger hF hS
  have qd := q_duty hS
  rw [← hx18] at ql
  obtain ⟨j, hj5, ej5⟩ := t5 hT
  have fin : ∀ (η : Eg) (H : Heap) (locs : List Loc) (P : Hp D A s (G_W cI cO η σ ++ Z_W cI ar L) H locs) (hG : Gok t0 η σ) (hg : e_ad η 0 = g0) (ls : Array Slot), lv_has ls 13 [(9, .int (sm (L.2 2) 5)), (10, .int (sm (L.2 5) (ix (L.2 4 9)))), (11, .int ((z_moving L).1)), (0, .ref g0), (1, .int (nI T)), (2, .ref (ar 0)), (3, .ref (ar 1)), (4, .ref (ar 2)), (5, .ref (ar 4)), (6, .ref (ar 5)), (7, .ref (ar 7)), (8, .ref (ar 8))] → W p l e rL_isTold s m args below meth c H locs 290 1740 (MQ below (T_Q D cI cO t0 σ g0 (Z_W cI ar L) A) args s 305 1830 A) (F0 m 253 ls []) := by
    intro η H locs P hG hg ls hl
    refine lv_iload (pc := 253) hx hb dL_isTold_253 (lv_at hl 0 rfl) ?_
    refine lv_iload (pc := 255) hx hb dL_isTold_255 (lv_at hl 2 rfl) ?_
    refine lv_iadd (pc := 257) hx hb dL_isTold_257 ?_
    refine lv_iload (pc := 258) hx hb dL_isTold_258 (lv_at hl 1 rfl) ?_
    refine lv_iadd (pc := 260) hx hb dL_isTold_260 ?_
    refine lv_aload (pc := 261) hx hb dL_isTold_261 (lv_at hl 8 rfl) ?_
    refine lv_bipush (pc := 263) (v := 12) hx hb dL_isTold_263 (by decide) ?_
    refine Z_ald (pc := 265) (j := 4) (v := L.2 4 12) C K P rfl (vp_dec (by decide)) rfl dL_isTold_265 ?_
    refine lv_iadd (pc := 266) hx hb dL_isTold_266 ?_
    refine lv_aload (pc := 267) hx hb dL_isTold_267 (lv_at hl 8 rfl) ?_
    refine lv_bipush (pc := 269) (v := 13) hx hb dL_isTold_269 (by decide) ?_
    refine Z_ald (pc := 271) (j := 4) (v := L.2 4 13) C K P rfl (vp_dec (by decide)) rfl dL_isTold_271 ?_
    refine lv_iadd (pc := 272) hx hb dL_isTold_272 ?_
    refine lv_aload (pc := 273) hx hb dL_isTold_273 (lv_at hl 8 rfl) ?_
    refine lv_bipush (pc := 275) (v := 14) hx hb dL_isTold_275 (by decide) ?_
    refine Z_ald (pc := 277) (j := 4) (v := L.2 4 14) C K P rfl (vp_dec (by decide)) rfl dL_isTold_277 ?_
    refine lv_iadd (pc := 278) hx hb dL_isTold_278 ?_
    refine lv_aload (pc := 279) hx hb dL_isTold_279 (lv_at hl 8 rfl) ?_
    refine lv_bipush (pc := 281) (v := 11) hx hb dL_isTold_281 (by decide) ?_
    refine Z_ald (pc := 283) (j := 4) (v := L.2 4 11) C K P rfl (vp_dec (by decide)) rfl dL_isTold_283 ?_
    refine lv_icmp_eq (pc := 284) (tgt := 289) hx hb dL_isTold_284 (by decide) (fun _ => ?_) (fun g => absurd hCons g)
    refine lv_aload_n (pc := 289) hx hb dL_isTold_289 rfl (lv_at hl 3 rfl) ?_
    refine lv_iconst (pc := 290) (v := 0) hx hb dL_isTold_290 (by decide) ?_
    refine T_callW (pc := 291) (As0 := [.int 0]) (rest := []) (v := L.2 4 11) (τ := σ) C V hEC K E9 hl.1 hg P (kL_ledger l hl9 D cI cO t0 η σ 0 hG (fun _ => gk_ledger hG _)) fnL_ledger ql.1 gL_isTold_L_ledger rfl rfl ⟨Nat.le_of_ble_eq_true rfl, Nat.le_of_ble_eq_true rfl⟩ (Nat.le_of_ble_eq_true rfl) ⟨(by omega : _ ≤ 305), (by omega : _ ≤ 1830)⟩ dL_isTold_291 (fun η H locs (P : Hp D A s (G_W cI cO η σ ++ Z_W cI ar L) H locs) (hG : Gok t0 η σ) hg => ?_)
    refine lv_aload (pc := 294) hx hb dL_isTold_294 (lv_at hl 8 rfl) ?_
    refine lv_bipush (pc := 296) (v := 11) hx hb dL_isTold_296 (by decide) ?_
    refine Z_ald (pc := 298) (j := 4) (v := L.2 4 11) C K P rfl (vp_dec (by decide)) rfl dL_isTold_298 ?_
    refine lv_icmp_ne (pc := 299) (tgt := 386) hx hb dL_isTold_299 (by decide) (fun g => absurd rfl g) (fun _ => ?_)
    refine lv_aload_n (pc := 302) hx hb dL_isTold_302 rfl (lv_at hl 3 rfl) ?_
    refine lv_iconst (pc := 303) (v := 1) hx hb dL_isTold_303 (by decide) ?_
    refine T_callW (pc := 304) (As0 := [.int 1]) (rest := []) (v := sm (L.2 2) 5) (τ := σ) C V hEC K E9 hl.1 hg P (kL_ledger l hl9 D cI cO t0 η σ 1 hG (fun _ => gk_ledger hG _)) fnL_ledger ql.2.1 gL_isTold_L_ledger rfl rfl ⟨Nat.le_of_ble_eq_true rfl, Nat.le_of_ble_eq_true rfl⟩ (Nat.le_of_ble_eq_true rfl) ⟨(by omega : _ ≤ 305), (by omega : _ ≤ 1830)⟩ dL_isTold_304 (fun η H locs (P : Hp D A s (G_W cI cO η σ ++ Z_W cI ar L) H locs) (hG : Gok t0 η σ) hg => ?_)
    refine lv_iload (pc := 307) hx hb dL_isTold_307 (lv_at hl 0 rfl) ?_
    refine lv_icmp_ne (pc := 309) (tgt := 386) hx hb dL_isTold_309 (by decide) (fun g => absurd rfl g) (fun _ => ?_)
    refine lv_aload_n (pc := 312) hx hb dL_isTold_312 rfl (lv_at hl 3 rfl) ?_
    refine lv_iconst (pc := 313) (v := 2) hx hb dL_isTold_313 (by decide) ?_
    refine T_callW (pc := 314) (As0 := [.int 2]) (rest := []) (v := (z_moving L).1) (τ := σ) C V hEC K E9 hl.1 hg P (kL_ledger l hl9 D cI cO t0 η σ 2 hG (fun _ => gk_ledger hG _)) fnL_ledger ql.2.2.1 gL_isTold_L_ledger rfl rfl ⟨Nat.le_of_ble_eq_true rfl, Nat.le_of_ble_eq_true rfl⟩ (Nat.le_of_ble_eq_true rfl) ⟨(by omega : _ ≤ 305), (by omega : _ ≤ 1830)⟩ dL_isTold_314 (fun η H locs (P : Hp D A s (G_W cI cO η σ ++ Z_W cI ar L) H locs) (hG : Gok t0 η σ) hg => ?_)
    refine lv_iload (pc := 317) hx hb dL_isTold_317 (lv_at hl 2 rfl) ?_
    refine lv_icmp_ne (pc := 319) (tgt := 386) hx hb dL_isTold_319 (by decide) (fun g => absurd rfl g) (fun _ => ?_)
    refine lv_aload_n (pc := 322) hx hb dL_isTold_322 rfl (lv_at hl 3 rfl) ?_
    refine lv_iconst (pc := 323) (v := 3) hx hb dL_isTold_323 (by decide) ?_
    refine T_callW (pc := 324) (As0 := [.int 3]) (rest := []) (v := sm (L.2 5) (ix (L.2 4 9))) (τ := σ) C V hEC K E9 hl.1 hg P (kL_ledger l hl9 D cI cO t0 η σ 3 hG (fun _ => gk_ledger hG _)) fnL_ledger ql.2.2.2.1 gL_isTold_L_ledger rfl rfl ⟨Nat.le_of_ble_eq_true rfl, Nat.le_of_ble_eq_true rfl⟩ (Nat.le_of_ble_eq_true rfl) ⟨(by omega : _ ≤ 305), (by omega : _ ≤ 1830)⟩ dL_isTold_324 (fun η H locs (P : Hp D A s (G_W cI cO η σ ++ Z_W cI ar L) H locs) (hG : Gok t0 η σ) hg => ?_)
    refine lv_iload (pc := 327) hx hb dL_isTold_327 (lv_at hl 1 rfl) ?_
    refine lv_icmp_ne (pc := 329) (tgt := 386) hx hb dL_isTold_329 (by decide) (fun g => absurd rfl g) (fun _ => ?_)
    refine lv_aload_n (pc := 332) hx hb dL_isTold_332 rfl (lv_at hl 3 rfl) ?_
    refine lv_iconst (pc := 333) (v := 4) hx hb dL_isTold_333 (by decide) ?_
    refine T_callW (pc := 334) (As0 := [.int 4]) (rest := []) (v := L.2 4 12) (τ := σ) C V hEC K E9 hl.1 hg P (kL_ledger l hl9 D cI cO t0 η σ 4 hG (fun _ => gk_ledger hG _)) fnL_ledger ql.2.2.2.2.1 gL_isTold_L_ledger rfl rfl ⟨Nat.le_of_ble_eq_true rfl, Nat.le_of_ble_eq_true rfl⟩ (Nat.le_of_ble_eq_true rfl) ⟨(by omega : _ ≤ 305), (by omega : _ ≤ 1830)⟩ dL_isTold_334 (fun η H locs (P : Hp D A s (G_W cI cO η σ ++ Z_W cI ar L) H locs) (hG : Gok t0 η σ) hg => ?_)
    refine lv_aload (pc := 337) hx hb dL_isTold_337 (lv_at hl 8 rfl) ?_
    refine lv_bipush (pc := 339) (v := 12) hx hb dL_isTold_339 (by decide) ?_
    refine Z_ald (pc := 341) (j := 4) (v := L.2 4 12) C K P rfl (vp_dec (by decide)) rfl dL_isTold_341 ?_
    refine lv_icmp_ne (pc := 342) (tgt := 386) hx hb dL_isTold_342 (by decide) (fun g => absurd rfl g) (fun _ => ?_)
    refine lv_aload_n (pc := 345) hx hb dL_isTold_345 rfl (lv_at hl 3 rfl) ?_
    refine lv_iconst (pc := 346) (v := 5) hx hb dL_isTold_346 (by decide) ?_
    refine T_callW (pc := 347) (As0 := [.int 5]) (rest := []) (v := L.2 4 13) (τ := σ) C V hEC K E9 hl.1 hg P (kL_ledger l hl9 D cI cO t0 η σ 5 hG (fun _ => gk_ledger hG _)) fnL_ledger ql.2.2.2.2.2.1 gL_isTold_L_ledger rfl rfl ⟨Nat.le_of_ble_eq_true rfl, Nat.le_of_ble_eq_true rfl⟩ (Nat.le_of_ble_eq_true rfl) ⟨(by omega : _ ≤ 305), (by omega : _ ≤ 1830)⟩ dL_isTold_347 (fun η H locs (P : Hp D A s (G_W cI cO η σ ++ Z_W cI ar L) H locs) (hG : Gok t0 η σ) hg => ?_)
    refine lv_aload (pc := 350) hx hb dL_isTold_350 (lv_at hl 8 rfl) ?_
    refine lv_bipush (pc := 352) (v := 13) hx hb dL_isTold_352 (by decide) ?_
    refine Z_ald (pc := 354) (j := 4) (v := L.2 4 13) C K P rfl (vp_dec (by decide)) rfl dL_isTold_354 ?_
    refine lv_icmp_ne (pc := 355) (tgt := 386) hx hb dL_isTold_355 (by decide) (fun g => absurd rfl g) (fun _ => ?_)
    refine lv_aload_n (pc := 358) hx hb dL_isTold_358 rfl (lv_at hl 3 rfl) ?_
    refine lv_bipush (pc := 359) (v := 6) hx hb dL_isTold_359 (by decide) ?_
    refine T_callW (pc := 361) (As0 := [.int 6]) (rest := []) (v := L.2 4 14) (τ := σ) C V hEC K E9 hl.1 hg P (kL_ledger l hl9 D cI cO t0 η σ 6 hG (fun _ => gk_ledger hG _)) fnL_ledger ql.2.2.2.2.2.2.1 gL_isTold_L_ledger rfl rfl ⟨Nat.le_of_ble_eq_true rfl, Nat.le_of_ble_eq_true rfl⟩ (Nat.le_of_ble_eq_true rfl) ⟨(by omega : _ ≤ 305), (by omega : _ ≤ 1830)⟩ dL_isTold_361 (fun η H locs (P : Hp D A s (G_W cI cO η σ ++ Z_W cI ar L) H locs) (hG : Gok t0 η σ) hg => ?_)
    refine lv_aload (pc := 364) hx hb dL_isTold_364 (lv_at hl 8 rfl) ?_
    refine lv_bipush (pc := 366) (v := 14) hx hb dL_isTold_366 (by decide) ?_
    refine Z_ald (pc := 368) (j := 4) (v := L.2 4 14) C K P rfl (vp_dec (by decide)) rfl dL_isTold_368 ?_
    refine lv_icmp_ne (pc := 369) (tgt := 386) hx hb dL_isTold_369 (by decide) (fun g => absurd rfl g) (fun _ => ?_)
    refine lv_aload_n (pc := 372) hx hb dL_isTold_372 rfl (lv_at hl 3 rfl) ?_
    refine lv_bipush (pc := 373) (v := 7) hx hb dL_isTold_373 (by decide) ?_
    refine T_callW (pc := 375) (As0 := [.int 7]) (rest := []) (v := L.2 4 15) (τ := σ) C V hEC K E9 hl.1 hg P (kL_ledger l hl9 D cI cO t0 η σ 7 hG (fun _ => gk_ledger hG _)) fnL_ledger ql.2.2.2.2.2.2.2 gL_isTold_L_ledger rfl rfl ⟨Nat.le_of_ble_eq_true rfl, Nat.le_of_ble_eq_true rfl⟩ (Nat.le_of_ble_eq_true rfl) ⟨(by omega : _ ≤ 305), (by omega : _ ≤ 1830)⟩ dL_isTold_375 (fun η H locs (P : Hp D A s (G_W cI cO η σ ++ Z_W cI ar L) H locs) (hG : Gok t0 η σ) hg => ?_)
    refine lv_aload (pc := 378) hx hb dL_isTold_378 (lv_at hl 8 rfl) ?_
    refine lv_bipush (pc := 380) (v := 15) hx hb dL_isTold_380 (by decide) ?_
    refine Z_ald (pc := 382) (j := 4) (v := L.2 4 15) C K P rfl (vp_dec (by decide)) rfl dL_isTold_382 ?_
    refine lv_icmp_eq (pc := 383) (tgt := 388) hx hb dL_isTold_383 (by decide) (fun _ => ?_) (fun g => absurd rfl g)
    refine lv_iload_n (pc := 388) hx hb dL_isTold_388 rfl (lv_at hl 4 rfl) ?_
    refine lv_bipush (pc := 389) (v := 10) hx hb dL_isTold_389 (by decide) ?_
    refine lv_irem (pc := 391) hx hb dL_isTold_391 (by decide) ?_
    refine lv_bipush (pc := 392) (v := 9) hx hb dL_isTold_392 (by decide) ?_
    refine lv_icmp_ne (pc := 394) (tgt := 421) hx hb dL_isTold_394 (by decide) (fun (c394 : ¬ ((nI T) - (nI T) / 10 * 10) = 9) => ?_) (fun (c394 : ((nI T) - (nI T) / 10 * 10) = 9) => ?_)
    · refine lv_aload_n (pc := 421) hx hb dL_isTold_421 rfl (lv_at hl 3 rfl) ?_
      refine lv_iconst (pc := 422) (v := 0) hx hb dL_isTold_422 (by decide) ?_
      refine T_callW (pc := 423) (As0 := [.int 0]) (rest := []) (v := L.2 4 2) (τ := σ) C V hEC K E9 hl.1 hg P (kL_duty l hl9 D cI cO t0 η σ 0 hG (fun _ => gk_duty hG _)) fnL_duty qd.1 gL_isTold_L_duty rfl rfl ⟨Nat.le_of_ble_eq_true rfl, Nat.le_of_ble_eq_true rfl⟩ (Nat.le_of_ble_eq_true rfl) ⟨(by omega : _ ≤ 305), (by omega : _ ≤ 1830)⟩ dL_isTold_423 (fun η H locs (P : Hp D A s (G_W cI cO η σ ++ Z_W cI ar L) H locs) (hG : Gok t0 η σ) hg => ?_)
      refine lv_aload (pc := 426) hx hb dL_isTold_426 (lv_at hl 8 rfl) ?_
      refine lv_iconst (pc := 428) (v := 2) hx hb dL_isTold_428 (by decide) ?_
      refine Z_ald (pc := 429) (j := 4) (v := L.2 4 2) C K P rfl (vp_dec (by decide)) rfl dL_isTold_429 ?_
      refine lv_icmp_ne (pc := 430) (tgt := 539) hx hb dL_isTold_430 (by decide) (fun g => absurd rfl g) (fun _ => ?_)
      refine lv_aload_n (pc := 433) hx hb dL_isTold_433 rfl (lv_at hl 3 rfl) ?_
      refine lv_iconst (pc := 434) (v := 1) hx hb dL_isTold_434 (by decide) ?_
      refine T_callW (pc := 435) (As0 := [.int 1]) (rest := []) (v := L.2 4 1) (τ := σ) C V hEC K E9 hl.1 hg P (kL_duty l hl9 D cI cO t0 η σ 1 hG (fun _ => gk_duty hG _)) fnL_duty qd.2.1 gL_isTold_L_duty rfl rfl ⟨Nat.le_of_ble_eq_true rfl, Nat.le_of_ble_eq_true rfl⟩ (Nat.le_of_ble_eq_true rfl) ⟨(by omega : _ ≤ 305), (by omega : _ ≤ 1830)⟩ dL_isTold_435 (fun η H locs (P : Hp D A s (G_W cI cO η σ ++ Z_W cI ar L) H locs) (hG : Gok t0 η σ) hg => ?_)
      refine lv_aload (pc := 438) hx hb dL_isTold_438 (lv_at hl 8 rfl) ?_
      refine lv_iconst (pc := 440) (v := 1) hx hb dL_isTold_440 (by decide) ?_
      refine Z_ald (pc := 441) (j := 4) (v := L.2 4 1) C K P rfl (vp_dec (by decide)) rfl dL_isTold_441 ?_
      refine lv_icmp_ne (pc := 442) (tgt := 539) hx hb dL_isTold_442 (by decide) (fun g => absurd rfl g) (fun _ => ?_)
      refine lv_aload_n (pc := 445) hx hb dL_isTold_445 rfl (lv_at hl 3 rfl) ?_
      refine lv_iconst (pc := 446) (v := 2) hx hb dL_isTold_446 (by decide) ?_
      refine T_callW (pc := 447) (As0 := [.int 2]) (rest := []) (v := (if (L.2 4 3) = (-1) then (-1) else (L.2 4 5))) (τ := σ) C V hEC K E9 hl.1 hg P (kL_duty l hl9 D cI cO t0 η σ 2 hG (fun _ => gk_duty hG _)) fnL_duty qd.2.2.1 gL_isTold_L_duty rfl rfl ⟨Nat.le_of_ble_eq_true rfl, Nat.le_of_ble_eq_true rfl⟩ (Nat.le_of_ble_eq_true rfl) ⟨(by omega : _ ≤ 305), (by omega : _ ≤ 1830)⟩ dL_isTold_447 (fun η H locs (P : Hp D A s (G_W cI cO η σ ++ Z_W cI ar L) H locs) (hG : Gok t0 η σ) hg => ?_)
      refine lv_aload (pc := 450) hx hb dL_isTold_450 (lv_at hl 8 rfl) ?_
      refine lv_iconst (pc := 452) (v := 3) hx hb dL_isTold_452 (by decide) ?_
      refine Z_ald (pc := 453) (j := 4) (v := L.2 4 3) C K P rfl (vp_dec (by decide)) rfl dL_isTold_453 ?_
      refine lv_iconst (pc := 454) (v := (-1)) hx hb dL_isTold_454 (by decide) ?_
      refine lv_mergeI (M := 466) (T := if (L.2 4 3) = (-1) then (-1) else (L.2 4 5)) (rest := [.int (if (L.2 4 3) = (-1) then (-1) else (L.2 4 5))]) (fun hm => ?_) (fun m455 (hm455 : m455 = if (L.2 4 3) = (-1) then (-1) else (L.2 4 5)) => ?_)
      · refine lv_icmp_ne (pc := 455) (tgt := 462) hx hb dL_isTold_455 (by decide) (fun (c455 : ¬ (L.2 4 3) = (-1)) => ?_) (fun (c455 : (L.2 4 3) = (-1)) => ?_)
        · refine lv_aload (pc := 462) hx hb dL_isTold_462 (lv_at hl 8 rfl) ?_
          refine lv_iconst (pc := 464) (v := 5) hx hb dL_isTold_464 (by decide) ?_
          refine Z_ald (pc := 465) (j := 4) (v := L.2 4 5) C K P rfl (vp_dec (by decide)) rfl dL_isTold_465 ?_
          exact hm _ (by rw [if_neg c455])
        · refine lv_iconst (pc := 458) (v := (-1)) hx hb dL_isTold_458 (by decide) ?_
          refine lv_goto (pc := 459) (tgt := 466) hx hb dL_isTold_459 (by decide) ?_
          exact hm _ (by rw [if_pos c455])
      refine lv_icmp_ne (pc := 466) (tgt := 539) hx hb dL_isTold_466 (by decide) (fun g => absurd hm455.symm g) (fun _ => ?_)
      refine lv_aload_n (pc := 469) hx hb dL_isTold_469 rfl (lv_at hl 3 rfl) ?_
      refine lv_iconst (pc := 470) (v := 3) hx hb dL_isTold_470 (by decide) ?_
      refine T_callW (pc := 471) (As0 := [.int 3]) (rest := []) (v := 1000000 - (L.2 4 6)) (τ := σ) C V hEC K E9 hl.1 hg P (kL_duty l hl9 D cI cO t0 η σ 3 hG (fun _ => gk_duty hG _)) fnL_duty qd.2.2.2.1 gL_isTold_L_duty rfl rfl ⟨Nat.le_of_ble_eq_true rfl, Nat.le_of_ble_eq_true rfl⟩ (Nat.le_of_ble_eq_true rfl) ⟨(by omega : _ ≤ 305), (by omega : _ ≤ 1830)⟩ dL_isTold_471 (fun η H locs (P : Hp D A s (G_W cI cO η σ ++ Z_W cI ar L) H locs) (hG : Gok t0 η σ) hg => ?_)
      refine lv_ldc (pc := 474) (v := 1000000) hx hb hown (hts _ (List.mem_of_getElem? (i := 1) rfl)) dL_isTold_474 ?_
      refine lv_aload (pc := 476) hx hb dL_isTold_476 (lv_at hl 8 rfl) ?_
      refine lv_bipush (pc := 478) (v := 6) hx hb dL_isTold_478 (by decide) ?_
      refine Z_ald (pc := 480) (j := 4) (v := L.2 4 6) C K P rfl (vp_dec (by decide)) rfl dL_isTold_480 ?_
      refine lv_isub (pc := 481) hx hb dL_isTold_481 ?_
      refine lv_icmp_ne (pc := 482) (tgt := 539) hx hb dL_isTold_482 (by decide) (fun g => absurd rfl g) (fun _ => ?_)
      refine lv_aload_n (pc := 485) hx hb dL_isTold_485 rfl (lv_at hl 3 rfl) ?_
      refine lv_iconst (pc := 486) (v := 4) hx hb dL_isTold_486 (by decide) ?_
      refine T_callW (pc := 487) (As0 := [.int 4]) (rest := []) (v := L.2 4 7) (τ := σ) C V hEC K E9 hl.1 hg P (kL_duty l hl9 D cI cO t0 η σ 4 hG (fun _ => gk_duty hG _)) fnL_duty qd.2.2.2.2.1 gL_isTold_L_duty rfl rfl ⟨Nat.le_of_ble_eq_true rfl, Nat.le_of_ble_eq_true rfl⟩ (Nat.le_of_ble_eq_true rfl) ⟨(by omega : _ ≤ 305), (by omega : _ ≤ 1830)⟩ dL_isTold_487 (fun η H locs (P : Hp D A s (G_W cI cO η σ ++ Z_W cI ar L) H locs) (hG : Gok t0 η σ) hg => ?_)
      refine lv_aload (pc := 490) hx hb dL_isTold_490 (lv_at hl 8 rfl) ?_
      refine lv_bipush (pc := 492) (v := 7) hx hb dL_isTold_492 (by decide) ?_
      refine Z_ald (pc := 494) (j := 4) (v := L.2 4 7) C K P rfl (vp_dec (by decide)) rfl dL_isTold_494 ?_
      refine lv_icmp_ne (pc := 495) (tgt := 539) hx hb dL_isTold_495 (by decide) (fun g => absurd rfl g) (fun _ => ?_)
      refine lv_aload_n (pc := 498) hx hb dL_isTold_498 rfl (lv_at hl 3 rfl) ?_
      refine lv_iconst (pc := 499) (v := 5) hx hb dL_isTold_499 (by decide) ?_
      refine T_callW (pc := 500) (As0 := [.int 5]) (rest := []) (v := (L.2 4 8) - (m_part ((z_moving L).1) (L.2 4 1) 1000)) (τ := σ) C V hEC K E9 hl.1 hg P (kL_duty l hl9 D cI cO t0 η σ 5 hG (fun _ => gk_duty hG _)) fnL_duty qd.2.2.2.2.2 gL_isTold_L_duty rfl rfl ⟨Nat.le_of_ble_eq_true rfl, Nat.le_of_ble_eq_true rfl⟩ (Nat.le_of_ble_eq_true rfl) ⟨(by omega : _ ≤ 305), (by omega : _ ≤ 1830)⟩ dL_isTold_500 (fun η H locs (P : Hp D A s (G_W cI cO η σ ++ Z_W cI ar L) H locs) (hG : Gok t0 η σ) hg => ?_)
      refine lv_aload (pc := 503) hx hb dL_isTold_503 (lv_at hl 8 rfl) ?_
      refine lv_bipush (pc := 505) (v := 8) hx hb dL_isTold_505 (by decide) ?_
      refine Z_ald (pc := 507) (j := 4) (v := L.2 4 8) C K P rfl (vp_dec (by decide)) rfl dL_isTold_507 ?_
      refine lv_iload (pc := 508) hx hb dL_isTold_508 (lv_at hl 2 rfl) ?_
      refine lv_aload (pc := 510) hx hb dL_isTold_510 (lv_at hl 8 rfl) ?_
      refine lv_iconst (pc := 512) (v := 1) hx hb dL_isTold_512 (by decide) ?_
      refine Z_ald (pc := 513) (j := 4) (v := L.2 4 1) C K P rfl (vp_dec (by decide)) rfl dL_isTold_513 ?_
      refine lv_sipush (pc := 514) (v := 1000) hx hb dL_isTold_514 (by decide) ?_
      refine S_call (pc := 517) (As := [.int ((z_moving L).1), .int (L.2 4 1), .int 1000]) (rest := [.int (L.2 4 8), .int ((L.2 4 8) - (m_part ((z_moving L).1) (L.2 4 1) 1000))]) (r := m_part ((z_moving L).1) (L.2 4 1) 1000) C hl.1 (kL_times l ((z_moving L).1) (L.2 4 1) 1000 (by decide)) fnL_times gL_isTold_L_times rfl rfl ⟨Nat.le_of_ble_eq_true rfl, Nat.le_of_ble_eq_true rfl⟩ (Nat.le_of_ble_eq_true rfl) ⟨(by omega : _ ≤ 305), (by omega : _ ≤ 1830)⟩ dL_isTold_517 ?_
      refine lv_isub (pc := 520) hx hb dL_isTold_520 ?_
      refine lv_icmp_ne (pc := 521) (tgt := 539) hx hb dL_isTold_521 (by decide) (fun g => absurd rfl g) (fun _ => ?_)
      refine lv_aload_n (pc := 524) hx hb dL_isTold_524 rfl (lv_at hl 3 rfl) ?_
      refine T_day (pc := 525) (rest := []) C V.1 K hl.1 hg P gL_isTold_X6_day ⟨Nat.le_of_ble_eq_true rfl, Nat.le_of_ble_eq_true rfl⟩ (Nat.le_of_ble_eq_true rfl) ⟨(by omega : _ ≤ 305), (by omega : _ ≤ 1830)⟩ dL_isTold_525 ?_
      refine lv_aload (pc := 528) hx hb dL_isTold_528 (lv_at hl 8 rfl) ?_
      refine lv_iconst (pc := 530) (v := 0) hx hb dL_isTold_530 (by decide) ?_
      refine Z_ald (pc := 531) (j := 4) (v := L.2 4 0) C K P rfl (vp_dec (by decide)) rfl dL_isTold_531 ?_
      refine lv_icmp_ne (pc := 532) (tgt := 539) hx hb dL_isTold_532 (by decide) (fun g => absurd hS.2.2.1.1.symm g) (fun _ => ?_)
      refine lv_iconst (pc := 535) (v := 1) hx hb dL_isTold_535 (by decide) ?_
      refine lv_goto (pc := 536) (tgt := 540) hx hb dL_isTold_536 (by decide) ?_
      exact T_ret (pc := 540) C P hG hg ⟨(by omega : _ ≤ 305), (by omega : _ ≤ 1830)⟩ dL_isTold_540
    · refine lv_aload_n (pc := 397) hx hb dL_isTold_397 rfl (lv_at hl 3 rfl) ?_
      refine lv_iload_n (pc := 398) hx hb dL_isTold_398 rfl (lv_at hl 4 rfl) ?_
      refine lv_bipush (pc := 399) (v := 10) hx hb dL_isTold_399 (by decide) ?_
      refine lv_idiv (pc := 401) hx hb dL_isTold_401 (by decide) ?_
      refine lv_iconst (pc := 402) (v := 5) hx hb dL_isTold_402 (by decide) ?_
      refine lv_irem (pc := 403) hx hb dL_isTold_403 (by decide) ?_
      rw [ej5]
      refine T_callW (pc := 404) (As0 := [.int (nI j)]) (rest := []) (v := L.2 2 j) (τ := σ) C V hEC K E9 hl.1 hg P (kL_dropsAnew l hl9 D cI cO t0 η σ (nI j) hG (fun _ => gk_dropsAnew hG _)) fnL_dropsAnew (q_anew hI hF hS.1 hj5) gL_isTold_L_dropsAnew rfl rfl ⟨Nat.le_of_ble_eq_true rfl, Nat.le_of_ble_eq_true rfl⟩ (Nat.le_of_ble_eq_true rfl) ⟨(by omega : _ ≤ 305), (by omega : _ ≤ 1830)⟩ dL_isTold_404 (fun η H locs (P : Hp D A s (G_W cI cO η σ ++ Z_W cI ar L) H locs) (hG : Gok t0 η σ) hg => ?_)
      refine lv_aload (pc := 407) hx hb dL_isTold_407 (lv_at hl 7 rfl) ?_
      refine lv_iload_n (pc := 409) hx hb dL_isTold_409 rfl (lv_at hl 4 rfl) ?_
      refine lv_bipush (pc := 410) (v := 10) hx hb dL_isTold_410 (by decide) ?_
      refine lv_idiv (pc := 412) hx hb dL_isTold_412 (by decide) ?_
      refine lv_iconst (pc := 413) (v := 5) hx hb dL_isTold_413 (by decide) ?_
      refine lv_irem (pc := 414) hx hb dL_isTold_414 (by decide) ?_
      rw [ej5]
      refine Z_aldN (pc := 415) (j := 2) (n := 5) (v := L.2 2 j) C K P rfl (k := j) hj5 (by decide) rfl dL_isTold_415 ?_
      refine lv_icmp_eq (pc := 416) (tgt := 421) hx hb dL_isTold_416 (by decide) (fun _ => ?_) (fun g => absurd rfl g)
      refine lv_aload_n (pc := 421) hx hb dL_isTold_421 rfl (lv_at hl 3 rfl) ?_
      refine lv_iconst (pc := 422) (v := 0) hx hb dL_isTold_422 (by decide) ?_
      refine T_callW (pc := 423) (As0 := [.int 0]) (rest := []) (v := L.2 4 2) (τ := σ) C V hEC K E9 hl.1 hg P (kL_duty l hl9 D cI cO t0 η σ 0 hG (fun _ => gk_duty hG _)) fnL_duty qd.1 gL_isTold_L_duty rfl rfl ⟨Nat.le_of_ble_eq_true rfl, Nat.le_of_ble_eq_true rfl⟩ (Nat.le_of_ble_eq_true rfl) ⟨(by omega : _ ≤ 305), (by omega : _ ≤ 1830)⟩ dL_isTold_423 (fun η H locs (P : Hp D A s (G_W cI cO η σ ++ Z_W cI ar L) H locs) (hG : Gok t0 η σ) hg => ?_)
      refine lv_aload (pc := 426) hx hb dL_isTold_426 (lv_at hl 8 rfl) ?_
      refine lv_iconst (pc := 428) (v := 2) hx hb dL_isTold_428 (by decide) ?_
      refine Z_ald (pc := 429) (j := 4) (v := L.2 4 2) C K P rfl (vp_dec (by decide)) rfl dL_isTold_429 ?_
      refine lv_icmp_ne (pc := 430) (tgt := 539) hx hb dL_isTold_430 (by decide) (fun g => absurd rfl g) (fun _ => ?_)
      refine lv_aload_n (pc := 433) hx hb dL_isTold_433 rfl (lv_at hl 3 rfl) ?_
      refine lv_iconst (pc := 434) (v := 1) hx hb dL_isTold_434 (by decide) ?_
      refine T_callW (pc := 435) (As0 := [.int 1]) (rest := []) (v := L.2 4 1) (τ := σ) C V hEC K E9 hl.1 hg P (kL_duty l hl9 D cI cO t0 η σ 1 hG (fun _ => gk_duty hG _)) fnL_duty qd.2.1 gL_isTold_L_duty rfl rfl ⟨Nat.le_of_ble_eq_true rfl, Nat.le_of_ble_eq_true rfl⟩ (Nat.le_of_ble_eq_true rfl) ⟨(by omega : _ ≤ 305), (by omega : _ ≤ 1830)⟩ dL_isTold_435 (fun η H locs (P : Hp D A s (G_W cI cO η σ ++ Z_W cI ar L) H locs) (hG : Gok t0 η σ) hg => ?_)
      refine lv_aload (pc := 438) hx hb dL_isTold_438 (lv_at hl 8 rfl) ?_
      refine lv_iconst (pc := 440) (v := 1) hx hb dL_isTold_440 (by decide) ?_
      refine Z_ald (pc := 441) (j := 4) (v := L.2 4 1) C K P rfl (vp_dec (by decide)) rfl dL_isTold_441 ?_
      refine lv_icmp_ne (pc := 442) (tgt := 539) hx hb dL_isTold_442 (by decide) (fun g => absurd rfl g) (fun _ => ?_)
      refine lv_aload_n (pc := 445) hx hb dL_isTold_445 rfl (lv_at hl 3 rfl) ?_
      refine lv_iconst (pc := 446) (v := 2) hx hb dL_isTold_446 (by decide) ?_
      refine T_callW (pc := 447) (As0 := [.int 2]) (rest := []) (v := (if (L.2 4 3) = (-1) then (-1) else (L.2 4 5))) (τ := σ) C V hEC K E9 hl.1 hg P (kL_duty l hl9 D cI cO t0 η σ 2 hG (fun _ => gk_duty hG _)) fnL_duty qd.2.2.1 gL_isTold_L_duty rfl rfl ⟨Nat.le_of_ble_eq_true rfl, Nat.le_of_ble_eq_true rfl⟩ (Nat.le_of_ble_eq_true rfl) ⟨(by omega : _ ≤ 305), (by omega : _ ≤ 1830)⟩ dL_isTold_447 (fun η H locs (P : Hp D A s (G_W cI cO η σ ++ Z_W cI ar L) H locs) (hG : Gok t0 η σ) hg => ?_)
      refine lv_aload (pc := 450) hx hb dL_isTold_450 (lv_at hl 8 rfl) ?_
      refine lv_iconst (pc := 452) (v := 3) hx hb dL_isTold_452 (by decide) ?_
      refine Z_ald (pc := 453) (j := 4) (v := L.2 4 3) C K P rfl (vp_dec (by decide)) rfl dL_isTold_453 ?_
      refine lv_iconst (pc := 454) (v := (-1)) hx hb dL_isTold_454 (by decide) ?_
      refine lv_mergeI (M := 466) (T := if (L.2 4 3) = (-1) then (-1) else (L.2 4 5)) (rest := [.int (if (L.2 4 3) = (-1) then (-1) else (L.2 4 5))]) (fun hm => ?_) (fun m455 (hm455 : m455 = if (L.2 4 3) = (-1) then (-1) else (L.2 4 5)) => ?_)
      · refine lv_icmp_ne (pc := 455) (tgt := 462) hx hb dL_isTold_455 (by decide) (fun (c455 : ¬ (L.2 4 3) = (-1)) => ?_) (fun (c455 : (L.2 4 3) = (-1)) => ?_)
        · refine lv_aload (pc := 462) hx hb dL_isTold_462 (lv_at hl 8 rfl) ?_
          refine lv_iconst (pc := 464) (v := 5) hx hb dL_isTold_464 (by decide) ?_
          refine Z_ald (pc := 465) (j := 4) (v := L.2 4 5) C K P rfl (vp_dec (by decide)) rfl dL_isTold_465 ?_
          exact hm _ (by rw [if_neg c455])
        · refine lv_iconst (pc := 458) (v := (-1)) hx hb dL_isTold_458 (by decide) ?_
          refine lv_goto (pc := 459) (tgt := 466) hx hb dL_isTold_459 (by decide) ?_
          exact hm _ (by rw [if_pos c455])
      refine lv_icmp_ne (pc := 466) (tgt := 539) hx hb dL_isTold_466 (by decide) (fun g => absurd hm455.symm g) (fun _ => ?_)
      refine lv_aload_n (pc := 469) hx hb dL_isTold_469 rfl (lv_at hl 3 rfl) ?_
      refine lv_iconst (pc := 470) (v := 3) hx hb dL_isTold_470 (by decide) ?_
      refine T_callW (pc := 471) (As0 := [.int 3]) (rest := []) (v := 1000000 - (L.2 4 6)) (τ := σ) C V hEC K E9 hl.1 hg P (kL_duty l hl9 D cI cO t0 η σ 3 hG (fun _ => gk_duty hG _)) fnL_duty qd.2.2.2.1 gL_isTold_L_duty rfl rfl ⟨Nat.le_of_ble_eq_true rfl, Nat.le_of_ble_eq_true rfl⟩ (Nat.le_of_ble_eq_true rfl) ⟨(by omega : _ ≤ 305), (by omega : _ ≤ 1830)⟩ dL_isTold_471 (fun η H locs (P : Hp D A s (G_W cI cO η σ ++ Z_W cI ar L) H locs) (hG : Gok t0 η σ) hg => ?_)
      refine lv_ldc (pc := 474) (v := 1000000) hx hb hown (hts _ (List.mem_of_getElem? (i := 1) rfl)) dL_isTold_474 ?_
      refine lv_aload (pc := 476) hx hb dL_isTold_476 (lv_at hl 8 rfl) ?_
      refine lv_bipush (pc := 478) (v := 6) hx hb dL_isTold_478 (by decide) ?_
      refine Z_ald (pc := 480) (j := 4) (v := L.2 4 6) C K P rfl (vp_dec (by decide)) rfl dL_isTold_480 ?_
      refine lv_isub (pc := 481) hx hb dL_isTold_481 ?_
      refine lv_icmp_ne (pc := 482) (tgt := 539) hx hb dL_isTold_482 (by decide) (fun g => absurd rfl g) (fun _ => ?_)
      refine lv_aload_n (pc := 485) hx hb dL_isTold_485 rfl (lv_at hl 3 rfl) ?_
      refine lv_iconst (pc := 486) (v := 4) hx hb dL_isTold_486 (by decide) ?_
      refine T_callW (pc := 487) (As0 := [.int 4]) (rest := []) (v := L.2 4 7) (τ := σ) C V hEC K E9 hl.1 hg P (kL_duty l hl9 D cI cO t0 η σ 4 hG (fun _ => gk_duty hG _)) fnL_duty qd.2.2.2.2.1 gL_isTold_L_duty rfl rfl ⟨Nat.le_of_ble_eq_true rfl, Nat.le_of_ble_eq_true rfl⟩ (Nat.le_of_ble_eq_true rfl) ⟨(by omega : _ ≤ 305), (by omega : _ ≤ 1830)⟩ dL_isTold_487 (fun η H locs (P : Hp D A s (G_W cI cO η σ ++ Z_W cI ar L) H locs) (hG : Gok t0 η σ) hg => ?_)
      refine lv_aload (pc := 490) hx hb dL_isTold_490 (lv_at hl 8 rfl) ?_
      refine lv_bipush (pc := 492) (v := 7) hx hb dL_isTold_492 (by decide) ?_
      refine Z_ald (pc := 494) (j := 4) (v := L.2 4 7) C K P rfl (vp_dec (by decide)) rfl dL_isTold_494 ?_
      refine lv_icmp_ne (pc := 495) (tgt := 539) hx hb dL_isTold_495 (by decide) (fun g => absurd rfl g) (fun _ => ?_)
      refine lv_aload_n (pc := 498) hx hb dL_isTold_498 rfl (lv_at hl 3 rfl) ?_
      refine lv_iconst (pc := 499) (v := 5) hx hb dL_isTold_499 (by decide) ?_
      refine T_callW (pc := 500) (As0 := [.int 5]) (rest := []) (v := (L.2 4 8) - (m_part ((z_moving L).1) (L.2 4 1) 1000)) (τ := σ) C V hEC K E9 hl.1 hg P (kL_duty l hl9 D cI cO t0 η σ 5 hG (fun _ => gk_duty hG _)) fnL_duty qd.2.2.2.2.2 gL_isTold_L_duty rfl rfl ⟨Nat.le_of_ble_eq_true rfl, Nat.le_of_ble_eq_true rfl⟩ (Nat.le_of_ble_eq_true rfl) ⟨(by omega : _ ≤ 305), (by omega : _ ≤ 1830)⟩ dL_isTold_500 (fun η H locs (P : Hp D A s (G_W cI cO η σ ++ Z_W cI ar L) H locs) (hG : Gok t0 η σ) hg => ?_)
      refine lv_aload (pc := 503) hx hb dL_isTold_503 (lv_at hl 8 rfl) ?_
      refine lv_bipush (pc := 505) (v := 8) hx hb dL_isTold_505 (by decide) ?_
      refine Z_ald (pc := 507) (j := 4) (v := L.2 4 8) C K P rfl (vp_dec (by decide)) rfl dL_isTold_507 ?_
      refine lv_iload (pc := 508) hx hb dL_isTold_508 (lv_at hl 2 rfl) ?_
      refine lv_aload (pc := 510) hx hb dL_isTold_510 (lv_at hl 8 rfl) ?_
      refine lv_iconst (pc := 512) (v := 1) hx hb dL_isTold_512 (by decide) ?_
      refine Z_ald (pc := 513) (j := 4) (v := L.2 4 1) C K P rfl (vp_dec (by decide)) rfl dL_isTold_513 ?_
      refine lv_sipush (pc := 514) (v := 1000) hx hb dL_isTold_514 (by decide) ?_
      refine S_call (pc := 517) (As := [.int ((z_moving L).1), .int (L.2 4 1), .int 1000]) (rest := [.int (L.2 4 8), .int ((L.2 4 8) - (m_part ((z_moving L).1) (L.2 4 1) 1000))]) (r := m_part ((z_moving L).1) (L.2 4 1) 1000) C hl.1 (kL_times l ((z_moving L).1) (L.2 4 1) 1000 (by decide)) fnL_times gL_isTold_L_times rfl rfl ⟨Nat.le_of_ble_eq_true rfl, Nat.le_of_ble_eq_true rfl⟩ (Nat.le_of_ble_eq_true rfl) ⟨(by omega : _ ≤ 305), (by omega : _ ≤ 1830)⟩ dL_isTold_517 ?_
      refine lv_isub (pc := 520) hx hb dL_isTold_520 ?_
      refine lv_icmp_ne (pc := 521) (tgt := 539) hx hb dL_isTold_521 (by decide) (fun g => absurd rfl g) (fun _ => ?_)
      refine lv_aload_n (pc := 524) hx hb dL_isTold_524 rfl (lv_at hl 3 rfl) ?_
      refine T_day (pc := 525) (rest := []) C V.1 K hl.1 hg P gL_isTold_X6_day ⟨Nat.le_of_ble_eq_true rfl, Nat.le_of_ble_eq_true rfl⟩ (Nat.le_of_ble_eq_true rfl) ⟨(by omega : _ ≤ 305), (by omega : _ ≤ 1830)⟩ dL_isTold_525 ?_
      refine lv_aload (pc := 528) hx hb dL_isTold_528 (lv_at hl 8 rfl) ?_
      refine lv_iconst (pc := 530) (v := 0) hx hb dL_isTold_530 (by decide) ?_
      refine Z_ald (pc := 531) (j := 4) (v := L.2 4 0) C K P rfl (vp_dec (by decide)) rfl dL_isTold_531 ?_
      refine lv_icmp_ne (pc := 532) (tgt := 539) hx hb dL_isTold_532 (by decide) (fun g => absurd hS.2.2.1.1.symm g) (fun _ => ?_)
      refine lv_iconst (pc := 535) (v := 1) hx hb dL_isTold_535 (by decide) ?_
      refine lv_goto (pc := 536) (tgt := 540) hx hb dL_isTold_536 (by decide) ?_
      exact T_ret (pc := 540) C P hG hg ⟨(by omega : _ ≤ 305), (by omega : _ ≤ 1830)⟩ dL_isTold_540
  have loopM : ∀ (n k : Nat), k ≤ ix (L.2 4 10) → ix (L.2 4 10) < k + n → ∀ (η : Eg) (H : Heap) (locs : List Loc) (P : Hp D A s (G_W cI cO η σ ++ Z_W cI ar L) H locs) (hG : Gok t0 η σ) (hg : e_ad η 0 = g0) (ls : Array Slot), lv_has ls 13 [(12, .int (nI k)), (9, .int (sm (L.2 2) 5)), (10, .int (sm (L.2 5) (ix (L.2 4 9)))), (11, .int ((z_moving L).1)), (0, .ref g0), (1, .int (nI T)), (2, .ref (ar 0)), (3, .ref (ar 1)), (4, .ref (ar 2)), (5, .ref (ar 4)), (6, .ref (ar 5)), (7, .ref (ar 7)), (8, .ref (ar 8))] → W p l e rL_isTold s m args below meth c H locs (50 + 8 * k) (300 + 48 * k) (MQ below (T_Q D cI cO t0 σ g0 (Z_W cI ar L) A) args s 305 1830 A) (F0 m 160 ls []) := by
    intro n
    induction n with
    | zero => intro k h1 h2; exact absurd h2 (by omega)
    | succ n ih =>
      intro k h1 h2 η H locs P hG hg ls hl
      refine lv_iload (pc := 160) hx hb dL_isTold_160 (lv_at hl 0 rfl) ?_
      refine lv_aload (pc := 162) hx hb dL_isTold_162 (lv_at hl 9 rfl) ?_
      refine lv_bipush (pc := 164) (v := 10) hx hb dL_isTold_164 (by decide) ?_
      refine Z_ald (pc := 166) (j := 4) (v := L.2 4 10) C K P rfl (vp_dec (by decide)) rfl dL_isTold_166 ?_
      refine lv_icmp_ge (pc := 167) (tgt := 253) hx hb dL_isTold_167 (by decide) (fun (c167 : (L.2 4 10) ≤ (nI k)) => ?_) (fun (c167 : ¬ (L.2 4 10) ≤ (nI k)) => ?_)
      · exact W.widen (by have := hc10.2; omega) (by have := hc10.2; omega) (fin _ _ _ P hG hg ls (lv_sub hl [1, 2, 3, 4, 5, 6, 7, 8, 9, 10, 11, 12] rfl))
      · have hk : k < ix (L.2 4 10) := lz_in hc10 c167 h1
        have hk3 : k < 30 := Nat.lt_of_lt_of_le hk hc10.2
        refine lv_aload_n (pc := 170) hx hb dL_isTold_170 rfl (lv_at hl 4 rfl) ?_
        refine lv_iload (pc := 171) hx hb dL_isTold_171 (lv_at hl 0 rfl) ?_
        refine lv_iconst (pc := 173) (v := 0) hx hb dL_isTold_173 (by decide) ?_
        refine T_callW (pc := 174) (As0 := [.int (nI k), .int 0]) (rest := []) (v := ((L.2 7 k) >>> (17 &&& 31)) &&& 7) (τ := σ) C V hEC K E9 hl.1 hg P (kL_ofMovement l hl9 D cI cO t0 η σ (nI k) 0 hG (fun _ => gk_ofMovement hG _ _)) fnL_ofMovement (q_ofM hI hS.2.2.2.2 (hx22 ▸ hk)).1 gL_isTold_L_ofMovement rfl rfl ⟨Nat.le_of_ble_eq_true rfl, Nat.le_of_ble_eq_true rfl⟩ (Nat.le_of_ble_eq_true rfl) ⟨(by omega : _ ≤ 305), (by omega : _ ≤ 1830)⟩ dL_isTold_174 (fun η H locs (P : Hp D A s (G_W cI cO η σ ++ Z_W cI ar L) H locs) (hG : Gok t0 η σ) hg => ?_)
        refine lv_aload (pc := 177) hx hb dL_isTold_177 (lv_at hl 11 rfl) ?_
        refine lv_iload (pc := 179) hx hb dL_isTold_179 (lv_at hl 0 rfl) ?_
        refine Z_aldN (pc := 181) (j := 7) (n := 30) (v := L.2 7 k) C K P rfl (k := k) hk3 (by decide) rfl dL_isTold_181 ?_
        refine lv_bipush (pc := 182) (v := 17) hx hb dL_isTold_182 (by decide) ?_
        refine lv_ishr (pc := 184) hx hb dL_isTold_184 ?_
        refine lv_bipush (pc := 185) (v := 7) hx hb dL_isTold_185 (by decide) ?_
        refine lv_iand (pc := 187) hx hb dL_isTold_187 ?_
        refine lv_icmp_ne (pc := 188) (tgt := 245) hx hb dL_isTold_188 (by decide) (fun g => absurd rfl g) (fun _ => ?_)
        refine lv_aload_n (pc := 191) hx hb dL_isTold_191 rfl (lv_at hl 4 rfl) ?_
        refine lv_iload (pc := 192) hx hb dL_isTold_192 (lv_at hl 0 rfl) ?_
        refine lv_iconst (pc := 194) (v := 1) hx hb dL_isTold_194 (by decide) ?_
        refine T_callW (pc := 195) (As0 := [.int (nI k), .int 1]) (rest := []) (v := ((L.2 7 k) >>> (3 &&& 31)) &&& 16383) (τ := σ) C V hEC K E9 hl.1 hg P (kL_ofMovement l hl9 D cI cO t0 η σ (nI k) 1 hG (fun _ => gk_ofMovement hG _ _)) fnL_ofMovement (q_ofM hI hS.2.2.2.2 (hx22 ▸ hk)).2.1 gL_isTold_L_ofMovement rfl rfl ⟨Nat.le_of_ble_eq_true rfl, Nat.le_of_ble_eq_true rfl⟩ (Nat.le_of_ble_eq_true rfl) ⟨(by omega : _ ≤ 305), (by omega : _ ≤ 1830)⟩ dL_isTold_195 (fun η H locs (P : Hp D A s (G_W cI cO η σ ++ Z_W cI ar L) H locs) (hG : Gok t0 η σ) hg => ?_)
        refine lv_aload (pc := 198) hx hb dL_isTold_198 (lv_at hl 11 rfl) ?_
        refine lv_iload (pc := 200) hx hb dL_isTold_200 (lv_at hl 0 rfl) ?_
        refine Z_aldN (pc := 202) (j := 7) (n := 30) (v := L.2 7 k) C K P rfl (k := k) hk3 (by decide) rfl dL_isTold_202 ?_
        refine lv_iconst (pc := 203) (v := 3) hx hb dL_isTold_203 (by decide) ?_
        refine lv_ishr (pc := 204) hx hb dL_isTold_204 ?_
        refine lv_sipush (pc := 205) (v := 16383) hx hb dL_isTold_205 (by decide) ?_
        refine lv_iand (pc := 208) hx hb dL_isTold_208 ?_
        refine lv_icmp_ne (pc := 209) (tgt := 245) hx hb dL_isTold_209 (by decide) (fun g => absurd rfl g) (fun _ => ?_)
        refine lv_aload_n (pc := 212) hx hb dL_isTold_212 rfl (lv_at hl 4 rfl) ?_
        refine lv_iload (pc := 213) hx hb dL_isTold_213 (lv_at hl 0 rfl) ?_
        refine lv_iconst (pc := 215) (v := 2) hx hb dL_isTold_215 (by decide) ?_
        refine T_callW (pc := 216) (As0 := [.int (nI k), .int 2]) (rest := []) (v := L.2 8 k) (τ := σ) C V hEC K E9 hl.1 hg P (kL_ofMovement l hl9 D cI cO t0 η σ (nI k) 2 hG (fun _ => gk_ofMovement hG _ _)) fnL_ofMovement (q_ofM hI hS.2.2.2.2 (hx22 ▸ hk)).2.2.1 gL_isTold_L_ofMovement rfl rfl ⟨Nat.le_of_ble_eq_true rfl, Nat.le_of_ble_eq_true rfl⟩ (Nat.le_of_ble_eq_true rfl) ⟨(by omega : _ ≤ 305), (by omega : _ ≤ 1830)⟩ dL_isTold_216 (fun η H locs (P : Hp D A s (G_W cI cO η σ ++ Z_W cI ar L) H locs) (hG : Gok t0 η σ) hg => ?_)
        refine lv_aload (pc := 219) hx hb dL_isTold_219 (lv_at hl 12 rfl) ?_
        refine lv_iload (pc := 221) hx hb dL_isTold_221 (lv_at hl 0 rfl) ?_
        refine Z_aldN (pc := 223) (j := 8) (n := 30) (v := L.2 8 k) C K P rfl (k := k) hk3 (by decide) rfl dL_isTold_223 ?_
        refine lv_icmp_ne (pc := 224) (tgt := 245) hx hb dL_isTold_224 (by decide) (fun g => absurd rfl g) (fun _ => ?_)
        refine lv_aload_n (pc := 227) hx hb dL_isTold_227 rfl (lv_at hl 4 rfl) ?_
        refine lv_iload (pc := 228) hx hb dL_isTold_228 (lv_at hl 0 rfl) ?_
        refine lv_iconst (pc := 230) (v := 3) hx hb dL_isTold_230 (by decide) ?_
        refine T_callW (pc := 231) (As0 := [.int (nI k), .int 3]) (rest := []) (v := (L.2 7 k) >>> (20 &&& 31)) (τ := σ) C V hEC K E9 hl.1 hg P (kL_ofMovement l hl9 D cI cO t0 η σ (nI k) 3 hG (fun _ => gk_ofMovement hG _ _)) fnL_ofMovement (q_ofM hI hS.2.2.2.2 (hx22 ▸ hk)).2.2.2 gL_isTold_L_ofMovement rfl rfl ⟨Nat.le_of_ble_eq_true rfl, Nat.le_of_ble_eq_true rfl⟩ (Nat.le_of_ble_eq_true rfl) ⟨(by omega : _ ≤ 305), (by omega : _ ≤ 1830)⟩ dL_isTold_231 (fun η H locs (P : Hp D A s (G_W cI cO η σ ++ Z_W cI ar L) H locs) (hG : Gok t0 η σ) hg => ?_)
        refine lv_aload (pc := 234) hx hb dL_isTold_234 (lv_at hl 11 rfl) ?_
        refine lv_iload (pc := 236) hx hb dL_isTold_236 (lv_at hl 0 rfl) ?_
        refine Z_aldN (pc := 238) (j := 7) (n := 30) (v := L.2 7 k) C K P rfl (k := k) hk3 (by decide) rfl dL_isTold_238 ?_
        refine lv_bipush (pc := 239) (v := 20) hx hb dL_isTold_239 (by decide) ?_
        refine lv_ishr (pc := 241) hx hb dL_isTold_241 ?_
        refine lv_icmp_eq (pc := 242) (tgt := 247) hx hb dL_isTold_242 (by decide) (fun _ => ?_) (fun g => absurd rfl g)
        refine lv_iinc (pc := 247) (v := nI (k + 1)) (lv' := [(12, .int (nI (k + 1))), (9, .int (sm (L.2 2) 5)), (10, .int (sm (L.2 5) (ix (L.2 4 9)))), (11, .int ((z_moving L).1)), (0, .ref g0), (1, .int (nI T)), (2, .ref (ar 0)), (3, .ref (ar 1)), (4, .ref (ar 2)), (5, .ref (ar 4)), (6, .ref (ar 5)), (7, .ref (ar 7)), (8, .ref (ar 8))]) hx hb dL_isTold_247 hl (k := 0) rfl ((nI_succ k).symm) (by decide) rfl (fun ls hl => ?_)
        refine lv_goto (pc := 250) (tgt := 160) hx hb dL_isTold_250 (by decide) ?_
        exact W.widen (by omega) (by omega) (ih (k + 1) hk (by omega) _ _ _ P hG hg ls (lv_sub hl [0, 1, 2, 3, 4, 5, 6, 7, 8, 9, 10, 11, 12] rfl))
  have afterL : ∀ (η : Eg) (H : Heap) (locs : List Loc) (P : Hp D A s (G_W cI cO η σ ++ Z_W cI ar L) H locs) (hG : Gok t0 η σ) (hg : e_ad η 0 = g0) (ls : Array Slot), lv_has ls 13 [(9, .int (sm (L.2 2) 5)), (10, .int (sm (L.2 5) (ix (L.2 4 9)))), (0, .ref g0), (1, .int (nI T)), (2, .ref (ar 0)), (3, .ref (ar 1)), (4, .ref (ar 2)), (5, .ref (ar 4)), (6, .ref (ar 5)), (7, .ref (ar 7)), (8, .ref (ar 8))] → W p l e rL_isTold s m args below meth c H locs 50 300 (MQ below (T_Q D cI cO t0 σ g0 (Z_W cI ar L) A) args s 305 1830 A) (F0 m 146 ls []) := by
    intro η H locs P hG hg ls hl
    refine lv_aload (pc := 146) hx hb dL_isTold_146 (lv_at hl 9 rfl) ?_
    refine lv_aload (pc := 148) hx hb dL_isTold_148 (lv_at hl 10 rfl) ?_
    refine lv_aload (pc := 150) hx hb dL_isTold_150 (lv_at hl 7 rfl) ?_
    refine Z_calli (pc := 152) (As := [.ref (ar 7), .ref (ar 8), .ref (ar 4)]) (rest := []) C K P hl.1 (kL_moving l D cI ar L hc10) fnL_moving gL_isTold_L_moving rfl rfl ⟨Nat.le_of_ble_eq_true rfl, Nat.le_of_ble_eq_true rfl⟩ (Nat.le_of_ble_eq_true rfl) ⟨(by omega : _ ≤ 305), (by omega : _ ≤ 1830)⟩ dL_isTold_152 (fun H locs (P : Hp D A s (G_W cI cO η σ ++ Z_W cI ar L) H locs) => ?_)
    refine lv_istore (pc := 155) (lv' := [(11, .int ((z_moving L).1)), (9, .int (sm (L.2 2) 5)), (10, .int (sm (L.2 5) (ix (L.2 4 9)))), (0, .ref g0), (1, .int (nI T)), (2, .ref (ar 0)), (3, .ref (ar 1)), (4, .ref (ar 2)), (5, .ref (ar 4)), (6, .ref (ar 5)), (7, .ref (ar 7)), (8, .ref (ar 8))]) hx hb dL_isTold_155 hl (by decide) rfl (fun ls hl => ?_)
    refine lv_iconst (pc := 157) (v := 0) hx hb dL_isTold_157 (by decide) ?_
    refine lv_istore (pc := 158) (lv' := [(12, .int 0), (11, .int ((z_moving L).1)), (9, .int (sm (L.2 2) 5)), (10, .int (sm (L.2 5) (ix (L.2 4 9)))), (0, .ref g0), (1, .int (nI T)), (2, .ref (ar 0)), (3, .ref (ar 1)), (4, .ref (ar 2)), (5, .ref (ar 4)), (6, .ref (ar 5)), (7, .ref (ar 7)), (8, .ref (ar 8))]) hx hb dL_isTold_158 hl (by decide) rfl (fun ls hl => ?_)
    exact loopM (ix (L.2 4 10) + 1) 0 (Nat.zero_le _) (by omega) _ _ _ P hG hg ls (lv_sub hl [0, 2, 3, 1, 4, 5, 6, 7, 8, 9, 10, 11, 12] rfl)
  have loopL : ∀ (n k : Nat), k ≤ ix (L.2 4 9) → ix (L.2 4 9) < k + n → ∀ (η : Eg) (H : Heap) (locs : List Loc) (P : Hp D A s (G_W cI cO η σ ++ Z_W cI ar L) H locs) (hG : Gok t0 η σ) (hg : e_ad η 0 = g0) (ls : Array Slot), lv_has ls 13 [(11, .int (nI k)), (10, .int (sm (L.2 5) k)), (9, .int (sm (L.2 2) 5)), (0, .ref g0), (1, .int (nI T)), (2, .ref (ar 0)), (3, .ref (ar 1)), (4, .ref (ar 2)), (5, .ref (ar 4)), (6, .ref (ar 5)), (7, .ref (ar 7)), (8, .ref (ar 8))] → W p l e rL_isTold s m args below meth c H locs 50 300 (MQ below (T_Q D cI cO t0 σ g0 (Z_W cI ar L) A) args s 305 1830 A) (F0 m 120 ls []) := by
    intro n
    induction n with
    | zero => intro k h1 h2; exact absurd h2 (by omega)
    | succ n ih =>
      intro k h1 h2 η H locs P hG hg ls hl
      refine lv_iload (pc := 120) hx hb dL_isTold_120 (lv_at hl 0 rfl) ?_
      refine lv_aload (pc := 122) hx hb dL_isTold_122 (lv_at hl 8 rfl) ?_
      refine lv_bipush (pc := 124) (v := 9) hx hb dL_isTold_124 (by decide) ?_
      refine Z_ald (pc := 126) (j := 4) (v := L.2 4 9) C K P rfl (vp_dec (by decide)) rfl dL_isTold_126 ?_
      refine lv_icmp_ge (pc := 127) (tgt := 146) hx hb dL_isTold_127 (by decide) (fun (c127 : (L.2 4 9) ≤ (nI k)) => ?_) (fun (c127 : ¬ (L.2 4 9) ≤ (nI k)) => ?_)
      · have ek : k = ix (L.2 4 9) := lz_end hc9 c127 h1
        exact afterL _ _ _ P hG hg ls (by rw [← ek]; exact (lv_sub hl [2, 1, 3, 4, 5, 6, 7, 8, 9, 10, 11] rfl))
      · have hk : k < ix (L.2 4 9) := lz_in hc9 c127 h1
        have hk4 : k < 40 := Nat.lt_of_lt_of_le hk hc9.2
        refine lv_iload (pc := 130) hx hb dL_isTold_130 (lv_at hl 1 rfl) ?_
        refine lv_aload (pc := 132) hx hb dL_isTold_132 (lv_at hl 9 rfl) ?_
        refine lv_iload (pc := 134) hx hb dL_isTold_134 (lv_at hl 0 rfl) ?_
        refine Z_aldN (pc := 136) (j := 5) (n := 40) (v := L.2 5 k) C K P rfl (k := k) hk4 (by decide) rfl dL_isTold_136 ?_
        refine lv_iadd (pc := 137) hx hb dL_isTold_137 ?_
        refine lv_istore (pc := 138) (lv' := [(10, .int ((sm (L.2 5) k) + (L.2 5 k))), (11, .int (nI k)), (9, .int (sm (L.2 2) 5)), (0, .ref g0), (1, .int (nI T)), (2, .ref (ar 0)), (3, .ref (ar 1)), (4, .ref (ar 2)), (5, .ref (ar 4)), (6, .ref (ar 5)), (7, .ref (ar 7)), (8, .ref (ar 8))]) hx hb dL_isTold_138 hl (by decide) rfl (fun ls hl => ?_)
        refine lv_iinc (pc := 140) (v := nI (k + 1)) (lv' := [(11, .int (nI (k + 1))), (10, .int ((sm (L.2 5) k) + (L.2 5 k))), (9, .int (sm (L.2 2) 5)), (0, .ref g0), (1, .int (nI T)), (2, .ref (ar 0)), (3, .ref (ar 1)), (4, .ref (ar 2)), (5, .ref (ar 4)), (6, .ref (ar 5)), (7, .ref (ar 7)), (8, .ref (ar 8))]) hx hb dL_isTold_140 hl (k := 1) rfl ((nI_succ k).symm) (by decide) rfl (fun ls hl => ?_)
        refine lv_goto (pc := 143) (tgt := 120) hx hb dL_isTold_143 (by decide) ?_
        exact ih (k + 1) hk (by omega) _ _ _ P hG hg ls (by rw [show sm (L.2 5) (k + 1) = sm (L.2 5) k + L.2 5 k from rfl]; exact (lv_sub hl [0, 1, 2, 3, 4, 5, 6, 7, 8, 9, 10, 11] rfl))
  have afterV : ∀ (η : Eg) (H : Heap) (locs : List Loc) (P : Hp D A s (G_W cI cO η σ ++ Z_W cI ar L) H locs) (hG : Gok t0 η σ) (hg : e_ad η 0 = g0) (ls : Array Slot), lv_has ls 13 [(9, .int (sm (L.2 2) 5)), (0, .ref g0), (1, .int (nI T)), (2, .ref (ar 0)), (3, .ref (ar 1)), (4, .ref (ar 2)), (5, .ref (ar 4)), (6, .ref (ar 5)), (7, .ref (ar 7)), (8, .ref (ar 8))] → W p l e rL_isTold s m args below meth c H locs 50 300 (MQ below (T_Q D cI cO t0 σ g0 (Z_W cI ar L) A) args s 305 1830 A) (F0 m 114 ls []) := by
    intro η H locs P hG hg ls hl
    refine lv_iconst (pc := 114) (v := 0) hx hb dL_isTold_114 (by decide) ?_
    refine lv_istore (pc := 115) (lv' := [(10, .int 0), (9, .int (sm (L.2 2) 5)), (0, .ref g0), (1, .int (nI T)), (2, .ref (ar 0)), (3, .ref (ar 1)), (4, .ref (ar 2)), (5, .ref (ar 4)), (6, .ref (ar 5)), (7, .ref (ar 7)), (8, .ref (ar 8))]) hx hb dL_isTold_115 hl (by decide) rfl (fun ls hl => ?_)
    refine lv_iconst (pc := 117) (v := 0) hx hb dL_isTold_117 (by decide) ?_
    refine lv_istore (pc := 118) (lv' := [(11, .int 0), (10, .int 0), (9, .int (sm (L.2 2) 5)), (0, .ref g0), (1, .int (nI T)), (2, .ref (ar 0)), (3, .ref (ar 1)), (4, .ref (ar 2)), (5, .ref (ar 4)), (6, .ref (ar 5)), (7, .ref (ar 7)), (8, .ref (ar 8))]) hx hb dL_isTold_118 hl (by decide) rfl (fun ls hl => ?_)
    exact loopL (ix (L.2 4 9) + 1) 0 (Nat.zero_le _) (by omega) _ _ _ P hG hg ls (lv_sub hl [0, 1, 2, 3, 4, 5, 6, 7, 8, 9, 10, 11] rfl)
  have loopV : ∀ (n k : Nat), k ≤ 5 → 5 < k + n → ∀ (η : Eg) (H : Heap) (locs : List Loc) (P : Hp D A s (G_W cI cO η σ ++ Z_W cI ar L) H locs) (hG : Gok t0 η σ) (hg : e_ad η 0 = g0) (ls : Array Slot), lv_has ls 13 [(10, .int (nI k)), (9, .int (sm (L.2 2) k)), (0, .ref g0), (1, .int (nI T)), (2, .ref (ar 0)), (3, .ref (ar 1)), (4, .ref (ar 2)), (5, .ref (ar 4)), (6, .ref (ar 5)), (7, .ref (ar 7)), (8, .ref (ar 8))] → W p l e rL_isTold s m args below meth c H locs (10 * k) (60 * k) (MQ below (T_Q D cI cO t0 σ g0 (Z_W cI ar L) A) args s 305 1830 A) (F0 m 6 ls []) := by
    intro n
    induction n with
    | zero => intro k h1 h2; exact absurd h2 (by omega)
    | succ n ih =>
      intro k h1 h2 η H locs P hG hg ls hl
      refine lv_iload (pc := 6) hx hb dL_isTold_6 (lv_at hl 0 rfl) ?_
      refine lv_iconst (pc := 8) (v := 5) hx hb dL_isTold_8 (by decide) ?_
      refine lv_icmp_ge (pc := 9) (tgt := 114) hx hb dL_isTold_9 (by decide) (fun (c9 : 5 ≤ (nI k)) => ?_) (fun (c9 : ¬ 5 ≤ (nI k)) => ?_)
      · have ek : k = 5 := (five_le h1).mp c9
        subst ek
        exact W.widen (by omega) (by omega) (afterV _ _ _ P hG hg ls (lv_sub hl [1, 2, 3, 4, 5, 6, 7, 8, 9, 10] rfl))
      · have hk5 : k < 5 := Nat.lt_of_le_of_ne h1 (fun e => c9 ((five_le h1).mpr e))
        refine lv_aload_n (pc := 12) hx hb dL_isTold_12 rfl (lv_at hl 2 rfl) ?_
        refine lv_iload (pc := 13) hx hb dL_isTold_13 (lv_at hl 0 rfl) ?_
        refine lv_iconst (pc := 15) (v := 0) hx hb dL_isTold_15 (by decide) ?_
        refine T_callW (pc := 16) (As0 := [.int (nI k), .int 0]) (rest := []) (v := L.2 1 k) (τ := σ) C V hEC K E9 hl.1 hg P (kL_ofVessel l hl9 D cI cO t0 η σ (nI k) 0 hG (fun _ => gk_ofVessel hG _ _)) fnL_ofVessel (q_ofV hI hF hS.1 hk5).1 gL_isTold_L_ofVessel rfl rfl ⟨Nat.le_of_ble_eq_true rfl, Nat.le_of_ble_eq_true rfl⟩ (Nat.le_of_ble_eq_true rfl) ⟨(by omega : _ ≤ 305), (by omega : _ ≤ 1830)⟩ dL_isTold_16 (fun η H locs (P : Hp D A s (G_W cI cO η σ ++ Z_W cI ar L) H locs) (hG : Gok t0 η σ) hg => ?_)
        refine lv_aload_n (pc := 19) hx hb dL_isTold_19 rfl (lv_at hl 5 rfl) ?_
        refine lv_iload (pc := 20) hx hb dL_isTold_20 (lv_at hl 0 rfl) ?_
        refine Z_aldN (pc := 22) (j := 1) (n := 5) (v := L.2 1 k) C K P rfl (k := k) hk5 (by decide) rfl dL_isTold_22 ?_
        refine lv_icmp_ne (pc := 23) (tgt := 96) hx hb dL_isTold_23 (by decide) (fun g => absurd rfl g) (fun _ => ?_)
        refine lv_aload_n (pc := 26) hx hb dL_isTold_26 rfl (lv_at hl 2 rfl) ?_
        refine lv_iload (pc := 27) hx hb dL_isTold_27 (lv_at hl 0 rfl) ?_
        refine lv_iconst (pc := 29) (v := 1) hx hb dL_isTold_29 (by decide) ?_
        refine T_callW (pc := 30) (As0 := [.int (nI k), .int 1]) (rest := []) (v := L.2 2 k) (τ := σ) C V hEC K E9 hl.1 hg P (kL_ofVessel l hl9 D cI cO t0 η σ (nI k) 1 hG (fun _ => gk_ofVessel hG _ _)) fnL_ofVessel (q_ofV hI hF hS.1 hk5).2.1 gL_isTold_L_ofVessel rfl rfl ⟨Nat.le_of_ble_eq_true rfl, Nat.le_of_ble_eq_true rfl⟩ (Nat.le_of_ble_eq_true rfl) ⟨(by omega : _ ≤ 305), (by omega : _ ≤ 1830)⟩ dL_isTold_30 (fun η H locs (P : Hp D A s (G_W cI cO η σ ++ Z_W cI ar L) H locs) (hG : Gok t0 η σ) hg => ?_)
        refine lv_aload (pc := 33) hx hb dL_isTold_33 (lv_at hl 6 rfl) ?_
        refine lv_iload (pc := 35) hx hb dL_isTold_35 (lv_at hl 0 rfl) ?_
        refine Z_aldN (pc := 37) (j := 2) (n := 5) (v := L.2 2 k) C K P rfl (k := k) hk5 (by decide) rfl dL_isTold_37 ?_
        refine lv_icmp_ne (pc := 38) (tgt := 96) hx hb dL_isTold_38 (by decide) (fun g => absurd rfl g) (fun _ => ?_)
        refine lv_aload_n (pc := 41) hx hb dL_isTold_41 rfl (lv_at hl 2 rfl) ?_
        refine lv_iload (pc := 42) hx hb dL_isTold_42 (lv_at hl 0 rfl) ?_
        refine lv_iconst (pc := 44) (v := 2) hx hb dL_isTold_44 (by decide) ?_
        refine T_callW (pc := 45) (As0 := [.int (nI k), .int 2]) (rest := []) (v := m_strengthOf (L.2 2 k) (L.2 1 k)) (τ := σ) C V hEC K E9 hl.1 hg P (kL_ofVessel l hl9 D cI cO t0 η σ (nI k) 2 hG (fun _ => gk_ofVessel hG _ _)) fnL_ofVessel (q_ofV hI hF hS.1 hk5).2.2.1 gL_isTold_L_ofVessel rfl rfl ⟨Nat.le_of_ble_eq_true rfl, Nat.le_of_ble_eq_true rfl⟩ (Nat.le_of_ble_eq_true rfl) ⟨(by omega : _ ≤ 305), (by omega : _ ≤ 1830)⟩ dL_isTold_45 (fun η H locs (P : Hp D A s (G_W cI cO η σ ++ Z_W cI ar L) H locs) (hG : Gok t0 η σ) hg => ?_)
        refine lv_aload (pc := 48) hx hb dL_isTold_48 (lv_at hl 6 rfl) ?_
        refine lv_iload (pc := 50) hx hb dL_isTold_50 (lv_at hl 0 rfl) ?_
        refine Z_aldN (pc := 52) (j := 2) (n := 5) (v := L.2 2 k) C K P rfl (k := k) hk5 (by decide) rfl dL_isTold_52 ?_
        refine lv_aload_n (pc := 53) hx hb dL_isTold_53 rfl (lv_at hl 5 rfl) ?_
        refine lv_iload (pc := 54) hx hb dL_isTold_54 (lv_at hl 0 rfl) ?_
        refine Z_aldN (pc := 56) (j := 1) (n := 5) (v := L.2 1 k) C K P rfl (k := k) hk5 (by decide) rfl dL_isTold_56 ?_
        refine S_call (pc := 57) (As := [.int (L.2 2 k), .int (L.2 1 k)]) (rest := [.int (m_strengthOf (L.2 2 k) (L.2 1 k))]) (r := m_strengthOf (L.2 2 k) (L.2 1 k)) C hl.1 (kL_strength l (L.2 2 k) (L.2 1 k)) fnL_strength gL_isTold_L_strength rfl rfl ⟨Nat.le_of_ble_eq_true rfl, Nat.le_of_ble_eq_true rfl⟩ (Nat.le_of_ble_eq_true rfl) ⟨(by omega : _ ≤ 305), (by omega : _ ≤ 1830)⟩ dL_isTold_57 ?_
        refine lv_icmp_ne (pc := 60) (tgt := 96) hx hb dL_isTold_60 (by decide) (fun g => absurd rfl g) (fun _ => ?_)
        refine lv_aload_n (pc := 63) hx hb dL_isTold_63 rfl (lv_at hl 2 rfl) ?_
        refine lv_iload (pc := 64) hx hb dL_isTold_64 (lv_at hl 0 rfl) ?_
        refine lv_iconst (pc := 66) (v := 3) hx hb dL_isTold_66 (by decide) ?_
        refine T_callW (pc := 67) (As0 := [.int (nI k), .int 3]) (rest := []) (v := nI (k % 3)) (τ := σ) C V hEC K E9 hl.1 hg P (kL_ofVessel l hl9 D cI cO t0 η σ (nI k) 3 hG (fun _ => gk_ofVessel hG _ _)) fnL_ofVessel (q_ofV hI hF hS.1 hk5).2.2.2.1 gL_isTold_L_ofVessel rfl rfl ⟨Nat.le_of_ble_eq_true rfl, Nat.le_of_ble_eq_true rfl⟩ (Nat.le_of_ble_eq_true rfl) ⟨(by omega : _ ≤ 305), (by omega : _ ≤ 1830)⟩ dL_isTold_67 (fun η H locs (P : Hp D A s (G_W cI cO η σ ++ Z_W cI ar L) H locs) (hG : Gok t0 η σ) hg => ?_)
        refine lv_iload (pc := 70) hx hb dL_isTold_70 (lv_at hl 0 rfl) ?_
        refine lv_iconst (pc := 72) (v := 3) hx hb dL_isTold_72 (by decide) ?_
        refine lv_irem (pc := 73) hx hb dL_isTold_73 (by decide) ?_
        rw [r3 hk5]
        refine lv_icmp_ne (pc := 74) (tgt := 96) hx hb dL_isTold_74 (by decide) (fun g => absurd rfl g) (fun _ => ?_)
        refine lv_aload_n (pc := 77) hx hb dL_isTold_77 rfl (lv_at hl 2 rfl) ?_
        refine lv_iload (pc := 78) hx hb dL_isTold_78 (lv_at hl 0 rfl) ?_
        refine lv_iconst (pc := 80) (v := 4) hx hb dL_isTold_80 (by decide) ?_
        refine T_callW (pc := 81) (As0 := [.int (nI k), .int 4]) (rest := []) (v := (L.2 0 k) - (L.2 1 k)) (τ := σ) C V hEC K E9 hl.1 hg P (kL_ofVessel l hl9 D cI cO t0 η σ (nI k) 4 hG (fun _ => gk_ofVessel hG _ _)) fnL_ofVessel (q_ofV hI hF hS.1 hk5).2.2.2.2 gL_isTold_L_ofVessel rfl rfl ⟨Nat.le_of_ble_eq_true rfl, Nat.le_of_ble_eq_true rfl⟩ (Nat.le_of_ble_eq_true rfl) ⟨(by omega : _ ≤ 305), (by omega : _ ≤ 1830)⟩ dL_isTold_81 (fun η H locs (P : Hp D A s (G_W cI cO η σ ++ Z_W cI ar L) H locs) (hG : Gok t0 η σ) hg => ?_)
        refine lv_aload_n (pc := 84) hx hb dL_isTold_84 rfl (lv_at hl 4 rfl) ?_
        refine lv_iload (pc := 85) hx hb dL_isTold_85 (lv_at hl 0 rfl) ?_
        refine Z_aldN (pc := 87) (j := 0) (n := 5) (v := L.2 0 k) C K P rfl (k := k) hk5 (by decide) rfl dL_isTold_87 ?_
        refine lv_aload_n (pc := 88) hx hb dL_isTold_88 rfl (lv_at hl 5 rfl) ?_
        refine lv_iload (pc := 89) hx hb dL_isTold_89 (lv_at hl 0 rfl) ?_
        refine Z_aldN (pc := 91) (j := 1) (n := 5) (v := L.2 1 k) C K P rfl (k := k) hk5 (by decide) rfl dL_isTold_91 ?_
        refine lv_isub (pc := 92) hx hb dL_isTold_92 ?_
        refine lv_icmp_eq (pc := 93) (tgt := 98) hx hb dL_isTold_93 (by decide) (fun _ => ?_) (fun g => absurd rfl g)
        refine lv_iload (pc := 98) hx hb dL_isTold_98 (lv_at hl 1 rfl) ?_
        refine lv_aload (pc := 100) hx hb dL_isTold_100 (lv_at hl 6 rfl) ?_
        refine lv_iload (pc := 102) hx hb dL_isTold_102 (lv_at hl 0 rfl) ?_
        refine Z_aldN (pc := 104) (j := 2) (n := 5) (v := L.2 2 k) C K P rfl (k := k) hk5 (by decide) rfl dL_isTold_104 ?_
        refine lv_iadd (pc := 105) hx hb dL_isTold_105 ?_
        refine lv_istore (pc := 106) (lv' := [(9, .int ((sm (L.2 2) k) + (L.2 2 k))), (10, .int (nI k)), (0, .ref g0), (1, .int (nI T)), (2, .ref (ar 0)), (3, .ref (ar 1)), (4, .ref (ar 2)), (5, .ref (ar 4)), (6, .ref (ar 5)), (7, .ref (ar 7)), (8, .ref (ar 8))]) hx hb dL_isTold_106 hl (by decide) rfl (fun ls hl => ?_)
        refine lv_iinc (pc := 108) (v := nI (k + 1)) (lv' := [(10, .int (nI (k + 1))), (9, .int ((sm (L.2 2) k) + (L.2 2 k))), (0, .ref g0), (1, .int (nI T)), (2, .ref (ar 0)), (3, .ref (ar 1)), (4, .ref (ar 2)), (5, .ref (ar 4)), (6, .ref (ar 5)), (7, .ref (ar 7)), (8, .ref (ar 8))]) hx hb dL_isTold_108 hl (k := 1) rfl ((nI_succ k).symm) (by decide) rfl (fun ls hl => ?_)
        refine lv_goto (pc := 111) (tgt := 6) hx hb dL_isTold_111 (by decide) ?_
        exact W.widen (by omega) (by omega) (ih (k + 1) (by omega) (by omega) _ _ _ P hG hg ls (by rw [show sm (L.2 2) (k + 1) = sm (L.2 2) k + L.2 2 k from rfl]; exact (lv_sub hl [0, 1, 2, 3, 4, 5, 6, 7, 8, 9, 10] rfl)))
  refine lv_iconst (pc := 0) (v := 0) hx hb dL_isTold_0 (by decide) ?_
  refine lv_istore (pc := 1) (lv' := [(9, .int 0), (0, .ref g0), (1, .int (nI T)), (2, .ref (ar 0)), (3, .ref (ar 1)), (4, .ref (ar 2)), (5, .ref (ar 4)), (6, .ref (ar 5)), (7, .ref (ar 7)), (8, .ref (ar 8))]) hx hb dL_isTold_1 hl (by decide) rfl (fun ls hl => ?_)
  refine lv_iconst (pc := 3) (v := 0) hx hb dL_isTold_3 (by decide) ?_
  refine lv_istore (pc := 4) (lv' := [(10, .int 0), (9, .int 0), (0, .ref g0), (1, .int (nI T)), (2, .ref (ar 0)), (3, .ref (ar 1)), (4, .ref (ar 2)), (5, .ref (ar 4)), (6, .ref (ar 5)), (7, .ref (ar 7)), (8, .ref (ar 8))]) hx hb dL_isTold_4 hl (by decide) rfl (fun ls hl => ?_)
  exact loopV 6 0 (by decide) (by decide) _ _ _ P hG hg ls (lv_sub hl [0, 1, 2, 3, 4, 5, 6, 7, 8, 9, 10] rfl)
