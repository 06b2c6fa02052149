/-! ===== the law: its rows ===== -/
theorem Hp.frame2 {D : va_G} {A : Nat → Prop} {s : State} {ws ws' wr : va_W} {H H1 : Heap} {locs locs1 : List Loc} (P : Hp D A s (ws ++ wr) H locs) (h1 : va_P D vwCl ws' H1) (hD : va_D (va_A ws H.size) ws') (hk : ∀ q : Nat, q < H.size → ¬ va_A ws H.size q → H1[q]? = H[q]?) (hS : va_S A s.heap H1 locs1) : Hp D A s (ws' ++ wr) H1 locs1 := by
  have P2 := P.sub (List.sublist_append_left ws wr)
  have P3 := P.sub (List.sublist_append_right ws wr)
  have hF := va_A_in P2.2.1 P2.2.2.1 P2.2.2.2
  have hn : ∀ q ∈ wr, ¬ va_A ws H.size q.1 := by
    intro q hq
    obtain ⟨k, hk2⟩ := List.mem_iff_getElem?.mp hq
    rintro (⟨i, e, hi⟩ | h)
    · have hi2 : (ws ++ wr)[i]? = some (q.1, e) := by
        rw [List.getElem?_append_left (List.getElem?_eq_some_iff.mp hi).1]; exact hi
      have hk3 : (ws ++ wr)[ws.length + k]? = some q := by
        rw [List.getElem?_append_right (Nat.le_add_right _ _), Nat.add_sub_cancel_left]; exact hk2
      have e1 := P.2.1.1 i (ws.length + k) _ _ hi2 hk3 rfl
      have := (List.getElem?_eq_some_iff.mp hi).1
      omega
    · have := (P3.1 k q hk2).lt
      omega
  refine ⟨?_, va_D.of_nodup ?_ ?_, hS, P.2.2.2⟩
  · intro j q hj
    rcases List.mem_append.mp (List.mem_of_getElem? hj) with h | h
    · obtain ⟨k, hk2⟩ := List.mem_iff_getElem?.mp h
      exact h1 k q hk2
    · obtain ⟨k, hk2⟩ := List.mem_iff_getElem?.mp h
      have hq := P3.1 k q hk2
      exact va_at.kept hq (hk q.1 hq.lt (hn q h))
  · rw [List.map_append, List.nodup_append]
    refine ⟨hD.nodup, P3.2.1.nodup, fun a ha b hb e => ?_⟩
    obtain ⟨q, hq, rfl⟩ := List.mem_map.mp ha
    obtain ⟨r, hr, rfl⟩ := List.mem_map.mp hb
    obtain ⟨k, hk2⟩ := List.mem_iff_getElem?.mp hq
    exact hn r hr (e ▸ hD.2 k q hk2)
  · intro q hq
    rcases List.mem_append.mp hq with h | h
    · obtain ⟨k, hk2⟩ := List.mem_iff_getElem?.mp h
      exact hF _ (hD.2 k q hk2)
    · obtain ⟨k, hk2⟩ := List.mem_iff_getElem?.mp h
      exact P3.2.1.2 k q hk2
section AR
variable {p : Program} {l : Launch} {e : Env} {R : Room} {s : State} {m : MethodId} {args : Array Value} {below : List Frame} {meth : Method} {c : Code} {H : Heap} {locs : List Loc} {cells slots mc ms : Nat} {Q : State → Prop} {cc : ByteArray} {pc : Nat} {ls : Array Slot} {rest st0 : List Value} {Ts : List Cond} {nL : Nat} {D : va_G} {A : Nat → Prop} {ret : Option FieldType} {cI cO cJ : ClassId} {t0 : Nat} {η : Eg} {σ : Sg} {wr wl : va_W} {own : String}
theorem A_callW {y : MethodName} {ws : List Cond} {rm : Room} {bytes : ByteArray} {maxL n index ob : Nat} {rty : Option FieldType} {hh : List (Nat × Nat × Nat × Nat)} {As : List Value} {lf lf' : Nat → Int64} {f : Int32 × Int32 × Sg} {k : Int32} (C : Cx RL p s m args meth c cc nL Ts ret) (V : EnvV s) (hEC : EnvC s) (K : va_K D vwCl (tyL cI cO cJ) s) (E9 : EnvH t0 A s s.heap) (hl : ls.size = nL) (P : Hp D A s (((ob, ArL cJ lf) :: G_W cI cO η σ) ++ wr) H locs)
    (hM : L_Met l y ws rm D cI cO cJ t0 η σ ob lf lf' f k As mc ms) (hf : FnW y ws bytes maxL rty hh n rm mc ms) (g : GoodIn Ts (va_wsS RL index y ws)) (hn : As.length = n) (hst : st0 = As.reverse ++ rest) (hR : rm.frames + 1 ≤ R.frames ∧ 8 + (maxL + 11) + rm.locals ≤ R.locals) (hcat : (rest.map fun v => v.category).sum ≤ 8) (hz : cells + mc ≤ R.cells ∧ slots + ms ≤ R.slots) (d : decode cc pc = .ok (.invokestatic index, 3))
    (kk : ∀ (η' : Eg) (H : Heap) (locs : List Loc), Hp D A s (((ob, ArL cJ lf') :: G_W cI cO η' f.2.2) ++ wr) H locs → Gok t0 η' f.2.2 → e_ad η' 0 = e_ad η 0 → W p l e R s m args below meth c H locs (cells + mc) (slots + ms) Q (F0 m (pc + 3) ls (.int k :: rest))) : W p l e R s m args below meth c H locs cells slots Q (F0 m pc ls st0) := by
  obtain ⟨⟨ws', hw⟩, hrc, hrs, hd⟩ := hf
  have P2 := P.sub (List.sublist_append_left _ wr)
  have hF := va_A_in P2.2.1 P2.2.2.1 P2.2.2.2
  refine va_calli (vx_runSW C.fix (hM H.size) (vx_cwSW n C.2.2.2.2.1 g hw hrc hrs hd hR) ⟨preL_blind, fun U hU hW => ⟨rfl, by rw [hU], by rw [hU]; exact P2.1, va_K.moved hW.alike K, P2.2.1.weaken (fun _ _ _ _ => trivial), V.warm hW, hEC.warm hW, by rw [hU]; exact E9.go P2.2.2.1 hF hW.alike⟩⟩ rfl hn hl hst (lv_room hcat) d hz) P2.2.2.1 (fun q _ h => hF q h) hF (fun r u t H1 locs1 ht hvm hw hB hz1 hk1 hS => ?_)
  obtain ⟨hP1, hD1⟩ := hB
  rw [ht] at hP1
  rw [hw.1]
  exact kk u H1 locs1 (P.frame2 hP1 hD1 hk1 hS) hw.2.1 hw.2.2
theorem A_callM {y : MethodName} {ws : List Cond} {rm : Room} {bytes : ByteArray} {maxL n index m0 : Nat} {as : Nat → Nat} {th : Int32} {τ : Sg} {rty : Option FieldType} {As : List Value} {f : Int32 × Int32 × Sg} (C : Cx RL p s m args meth c cc nL Ts ret) (K : va_K D vwCl (tyL cI cO cJ) s) (hl : ls.size = nL) (P : Hp D A s (wl ++ M_W cI m0 as th τ) H locs) (hM : M_Mi l y ws rm D cI m0 as th τ As f) (hf : Fn y ws bytes maxL rty n rm 0 0)
    (hy : y.cls = RX7) (g : GoodIn Ts (wsV RL index RX7 y ws)) (hn : As.length = n) (hst : st0 = As.reverse ++ .ref m0 :: rest) (hR : rm.frames + 1 ≤ R.frames ∧ 8 + (maxL + 11) + rm.locals ≤ R.locals) (hcat : (rest.map fun v => v.category).sum ≤ 8) (hz : cells + 0 ≤ R.cells ∧ slots + 0 ≤ R.slots)
    (d : decode cc pc = .ok (.invokevirtual index, 3)) (kk : ∀ (H : Heap) (locs : List Loc), Hp D A s (wl ++ M_W cI m0 as f.1 f.2.2) H locs → W p l e R s m args below meth c H locs cells slots Q (F0 m (pc + 3) ls (.int f.2.1 :: rest))) : W p l e R s m args below meth c H locs cells slots Q (F0 m pc ls st0) := by
  obtain ⟨⟨ws', hw⟩, hrc, hrs, hd⟩ := hf
  have P := P.perm (List.perm_append_comm (l₁ := M_W cI m0 as th τ) (l₂ := wl))
  have P2 := P.sub (List.sublist_append_left _ wl)
  have hF := va_A_in P2.2.1 P2.2.2.1 P2.2.2.2
  have KM : va_K D vwCl [(cI, .int)] s := K.sub [0] rfl
  refine va_calli (va_runV C.fix (hM H.size) (cwV n C.2.2.2.2.1 g hw hrc hrs ⟨hy, hd⟩ hR) ⟨preW_blind, va_recv KM P2.1 (ci := 8) (q0 := 0) rfl rfl, fun U hU hW => ⟨rfl, by rw [hU], by rw [hU]; exact P2.1, va_K.moved hW.alike KM, P2.2.1.weaken (fun _ _ _ _ => trivial)⟩⟩ rfl hn hl hst (lv_room hcat) d hz) P2.2.2.1 (fun q _ h => hF q h) hF (fun r u t H1 locs1 ht hvm hw hB hz1 hk1 hS => ?_)
  obtain ⟨hP1, -, hD1⟩ := hB
  rw [ht] at hP1
  rw [hw]
  exact kk H1 locs1 ((P.frame2 hP1 hD1 hk1 hS).perm List.perm_append_comm)
theorem A_callMv {y : MethodName} {ws : List Cond} {rm : Room} {bytes : ByteArray} {maxL n index m0 : Nat} {as : Nat → Nat} {th : Int32} {τ : Sg} {rty : Option FieldType} {As : List Value} {f : Int32 × Int32 × Sg} (C : Cx RL p s m args meth c cc nL Ts ret) (K : va_K D vwCl (tyL cI cO cJ) s) (hl : ls.size = nL) (P : Hp D A s (wl ++ M_W cI m0 as th τ) H locs) (hM : M_Mv l y ws rm D cI m0 as th τ As f) (hf : Fn y ws bytes maxL rty n rm 0 0)
    (hy : y.cls = RX7) (g : GoodIn Ts (wsV RL index RX7 y ws)) (hn : As.length = n) (hst : st0 = As.reverse ++ .ref m0 :: rest) (hR : rm.frames + 1 ≤ R.frames ∧ 8 + (maxL + 11) + rm.locals ≤ R.locals) (hcat : (rest.map fun v => v.category).sum ≤ 8) (hz : cells + 0 ≤ R.cells ∧ slots + 0 ≤ R.slots)
    (d : decode cc pc = .ok (.invokevirtual index, 3)) (kk : ∀ (H : Heap) (locs : List Loc), Hp D A s (wl ++ M_W cI m0 as f.1 f.2.2) H locs → W p l e R s m args below meth c H locs cells slots Q (F0 m (pc + 3) ls rest)) : W p l e R s m args below meth c H locs cells slots Q (F0 m pc ls st0) := by
  obtain ⟨⟨ws', hw⟩, hrc, hrs, hd⟩ := hf
  have P := P.perm (List.perm_append_comm (l₁ := M_W cI m0 as th τ) (l₂ := wl))
  have P2 := P.sub (List.sublist_append_left _ wl)
  have hF := va_A_in P2.2.1 P2.2.2.1 P2.2.2.2
  have KM : va_K D vwCl [(cI, .int)] s := K.sub [0] rfl
  refine va_callv (va_runV C.fix (hM H.size) (cwV n C.2.2.2.2.1 g hw hrc hrs ⟨hy, hd⟩ hR) ⟨preW_blind, va_recv KM P2.1 (ci := 8) (q0 := 0) rfl rfl, fun U hU hW => ⟨rfl, by rw [hU], by rw [hU]; exact P2.1, va_K.moved hW.alike KM, P2.2.1.weaken (fun _ _ _ _ => trivial)⟩⟩ rfl hn hl hst (lv_room hcat) d hz) P2.2.2.1 (fun q _ h => hF q h) hF (fun u t H1 locs1 ht hvm hw hB hz1 hk1 hS => ?_)
  obtain ⟨hP1, -, hD1⟩ := hB
  rw [ht] at hP1
  exact kk H1 locs1 ((P.frame2 hP1 hD1 hk1 hS).perm List.perm_append_comm)
theorem A_day {index ob : Nat} {lf : Nat → Int64} (C : Cx RL p s m args meth c cc nL Ts ret) (hN : EnvN s) (K : va_K D vwCl (tyL cI cO cJ) s) (hl : ls.size = nL) (P : Hp D A s (((ob, ArL cJ lf) :: G_W cI cO η σ) ++ wr) H locs) (g : GoodIn Ts (wsV RL index RX6 yX6_day wsX6_day)) (hR : rX6_day.frames + 1 ≤ R.frames ∧ 8 + (1 + 11) + rX6_day.locals ≤ R.locals) (hcat : (rest.map fun v => v.category).sum ≤ 8) (hz : cells + 0 ≤ R.cells ∧ slots + 0 ≤ R.slots)
    (d : decode cc pc = .ok (.invokevirtual index, 3)) (kk : W p l e R s m args below meth c H locs cells slots Q (F0 m (pc + 3) ls (.int (g_day σ) :: rest))) : W p l e R s m args below meth c H locs cells slots Q (F0 m pc ls (.ref (e_ad η 0) :: rest)) := by
  have P2 := P.sub ((List.sublist_cons_self (ob, (ArL cJ lf : va_E)) (G_W cI cO η σ)).trans (List.sublist_append_left _ wr))
  have KG : va_K D vwCl (tyG cI cO) s := K.sub [0, 1] rfl
  exact N_callR (As := []) C hN KG hl P2.1 (P2.2.1.weaken (fun _ _ _ _ => trivial)) (va_recv KG P2.1 (ci := 7) (q0 := 0) rfl rfl) (kX6_day l D cI cO η σ) fnX6_day rfl g rfl rfl hR hcat hz d kk
end AR
