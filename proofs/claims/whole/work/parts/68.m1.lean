section ST
variable {p : Program} {l : Launch} {e : Env} {R : Room} {s : State} {m : MethodId} {args : Array Value} {below : List Frame} {meth : Method} {c : Code} {H : Heap} {locs : List Loc} {cells slots : Nat} {Q : State → Prop} {cc : ByteArray} {pc : Nat} {ls : Array Slot} {rest : List Value} {nL : Nat} {D : va_G} {A : Nat → Prop} {ret : Option FieldType} {cI cO cJ : ClassId} {t0 : Nat} {wr : va_W}
theorem A_newG {g : Nat} (C : Cx RL p s m args meth c cc nL wsL_law ret) (V : EnvV s) (K : va_K D vwCl (tyL cI cO cJ) s) (E9 : EnvH t0 A s s.heap) (hl : ls.size = nL) (P : Hp D A s ([(g, (.inr (7, G_f0) : va_E))] ++ wr) H locs) (hRf : 11 ≤ R.frames) (hRl : 414 ≤ R.locals) (hcat : (rest.map fun v => v.category).sum ≤ 8) (hz : cells + 12 ≤ R.cells ∧ slots + 700 ≤ R.slots)
    (hini : Cond.initialized RX6 ∈ wsL_law) (hlk : Cond.methodLink RL 85 yX6_init ∈ wsL_law) (hin : Cond.instanceMethod yX6_init ∈ wsL_law) (d : decode cc pc = .ok (.invokespecial 85, 3))
    (kk : ∀ (η : Eg) (H : Heap) (locs : List Loc), Hp D A s (G_W cI cO η M_s0 ++ wr) H locs → Gok t0 η M_s0 → e_ad η 0 = g → W p l e R s m args below meth c H locs (cells + 12) (slots + 700) Q (F0 m (pc + 3) ls rest)) : W p l e R s m args below meth c H locs cells slots Q (F0 m pc ls (.ref g :: rest)) := by
  obtain ⟨⟨ws', hw⟩, hrc, hrs, hd⟩ := fnX6_init
  have P2 := P.sub (List.sublist_append_left _ wr)
  have hF := va_A_in P2.2.1 P2.2.2.1 P2.2.2.2
  have KG : va_K D vwCl (tyG cI cO) s := K.sub [0, 1] rfl
  refine va_callv (va_runI C.fix (kX6_init l D cI cO t0 g H.size) (cwI 0 C.2.2.2.2.1 gL_law_X6_init hw hrc hrs (C.2.2.2.2.1 _ hini) (C.2.2.2.2.1 _ hlk) (C.2.2.2.2.1 _ hin) rfl hd ⟨Nat.le_trans (Nat.le_of_ble_eq_true rfl) hRf, Nat.le_trans (Nat.le_of_ble_eq_true rfl) hRl⟩) (J_pre V KG E9 P2 (X := fun _ => True) trivial (fun _ _ _ _ => trivial) [.ref g]) rfl rfl hl rfl (lv_room hcat) d hz) P2.2.2.1 (fun q _ h => hF q h) hF (fun u t H1 locs1 ht hvm hw hB hz1 hk1 hS => ?_)
  obtain ⟨hP1, hD1⟩ := hB
  rw [ht] at hP1
  exact kk u H1 locs1 (P.frame2 hP1 hD1 hk1 hS) hw.1 hw.2
theorem A_newM {m0 : Nat} (C : Cx RL p s m args meth c cc nL wsL_law ret) (K : va_K D vwCl (tyL cI cO cJ) s) (hl : ls.size = nL) (P : Hp D A s ([(m0, (.inr (8, M_f0) : va_E))] ++ wr) H locs) (hRf : 11 ≤ R.frames) (hRl : 414 ≤ R.locals) (hcat : (rest.map fun v => v.category).sum ≤ 8) (hz : cells + 13 ≤ R.cells ∧ slots + 402 ≤ R.slots)
    (hini : Cond.initialized RX7 ∈ wsL_law) (hlk : Cond.methodLink RL 88 yX7_init ∈ wsL_law) (hin : Cond.instanceMethod yX7_init ∈ wsL_law) (d : decode cc pc = .ok (.invokespecial 88, 3))
    (kk : ∀ (as : Nat → Nat) (H : Heap) (locs : List Loc), Hp D A s (M_W cI m0 as 0 M_s0 ++ wr) H locs → W p l e R s m args below meth c H locs (cells + 13) (slots + 402) Q (F0 m (pc + 3) ls rest)) : W p l e R s m args below meth c H locs cells slots Q (F0 m pc ls (.ref m0 :: rest)) := by
  obtain ⟨⟨ws', hw⟩, hrc, hrs, hd⟩ := fnX7_init
  have P2 := P.sub (List.sublist_append_left _ wr)
  have hF := va_A_in P2.2.1 P2.2.2.1 P2.2.2.2
  have KM : va_K D vwCl [(cI, .int)] s := K.sub [0] rfl
  refine va_callv (va_runI C.fix (kX7_init l D cI m0 H.size) (cwI 0 C.2.2.2.2.1 gL_law_X7_init hw hrc hrs (C.2.2.2.2.1 _ hini) (C.2.2.2.2.1 _ hlk) (C.2.2.2.2.1 _ hin) rfl hd ⟨Nat.le_trans (Nat.le_of_ble_eq_true rfl) hRf, Nat.le_trans (Nat.le_of_ble_eq_true rfl) hRl⟩) ⟨preW_blind, fun U hU hW => ⟨rfl, by rw [hU], by rw [hU]; exact P2.1, va_K.moved hW.alike KM, P2.2.1.weaken (fun _ _ _ _ => trivial)⟩⟩ rfl rfl hl rfl (lv_room hcat) d hz) P2.2.2.1 (fun q _ h => hF q h) hF (fun u t H1 locs1 ht hvm hw hB hz1 hk1 hS => ?_)
  obtain ⟨hP1, -, hD1⟩ := hB
  rw [ht] at hP1
  exact kk u H1 locs1 (P.frame2 hP1 hD1 hk1 hS)
end ST
