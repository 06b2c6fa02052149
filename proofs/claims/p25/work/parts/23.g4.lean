theorem Hp.eq {D : va_G} {A : Nat → Prop} {s : State} {ws ws' : va_W} {H : Heap} {locs : List Loc} (P : Hp D A s ws H locs) (e : ws = ws') : Hp D A s ws' H locs := e ▸ P
section VXQ
variable {p : Program} {l : Launch} {e : Env} {R : Room} {s : State} {m : MethodId} {args : Array Value} {below : List Frame} {meth : Method} {c : Code} {H : Heap} {locs : List Loc} {cells slots : Nat} {Q : State → Prop}
variable {mc ms : Nat} {free : Addr → Prop} {A0 A1 : Nat → Prop} {H0 : Heap} {a : Array Value} {pc : Nat} {ls : Array Slot} {st0 rest : List Value}
theorem vx_callq {S SX : Type} {post : Option Nat → S → Prop} {px : SX → Prop} {B : S → State → Prop} {BX : String → SX → State → Prop} {AX : Nat → Prop} (hr : vx_Run p l e R s m args below meth c H locs cells slots mc ms (F0 m pc ls st0) rest (va_Qq post B A1 a) (vx_X px BX AX) free) (hS : va_S A0 H0 H locs) (hA : ∀ q, q < H.size → A1 q → A0 q) (hf : ∀ q, free q → A0 q) (hAX : ∀ q, q < H.size → AX q → A0 q)
    (kx : ∀ (E : String) (ce : Cell) (q9 : Addr) (u : SX) (t : State) (H1 : Heap) (locs1 : List Loc), t.heap = H1 → s.vm.Alike t.vm → px u → BX E u t → H.size ≤ H1.size → (∀ q : Nat, q < H.size → ¬ AX q → H1[q]? = H[q]?) → va_S A0 H0 H1 locs1 → H1[q9]? = some ce → ce.vm = .none → s.vm.findClass E = some ce.cls → vx_W p l e R s m args below meth c H1 locs1 (cells + mc) (slots + ms) Q (F0 m pc ls rest) q9)
    (kk : ∀ (r : Option Nat) (u : S) (t : State) (H1 : Heap) (locs1 : List Loc), t.heap = H1 → s.vm.Alike t.vm → post r u → B u t → H.size ≤ H1.size → (∀ q : Nat, q < H.size → ¬ A1 q → H1[q]? = H[q]?) → va_S A0 H0 H1 locs1 → W p l e R s m args below meth c H1 locs1 (cells + mc) (slots + ms) Q (F0 m (pc + 3) ls (va_rf r :: rest))) : W p l e R s m args below meth c H locs cells slots Q (F0 m pc ls st0) := by
  intro T hT X
  rcases hr T hT X with ⟨v, st₀, t, T', L, h0, X', hL, e1, e2, ⟨⟨r, u, hv, hp, hb⟩, hF⟩, st⟩ | ⟨q, st₀, t, T', L, E, ce, h0, X', hL, e1, e2, ⟨u, hp, hb, hF⟩, hce, hcv, hcl, st⟩
  · cases hv
    obtain ⟨k1, k2, k3⟩ := vx_keep h0 e1 hS hA hf hL hF
    obtain ⟨t2, a1, b1⟩ := kk r u t T'.heap (locs ++ L) e1.symm (by rw [← e2]; exact X'.warmed.alike) hp hb k1 k2 k3 T' rfl X'
    exact ⟨t2, st t2 a1, b1⟩
  · obtain ⟨k1, k2, k3⟩ := vx_keep h0 e1 hS hAX hf hL hF
    obtain ⟨t2, a1, b1⟩ := kx E ce q u t T'.heap (locs ++ L) e1.symm (by rw [← e2]; exact X'.warmed.alike) hp hb k1 k2 k3 (by rw [e1]; exact hce) hcv hcl T' rfl X'
    exact ⟨t2, st.trans a1, b1⟩
end VXQ
section GR2
variable {p : Program} {l : Launch} {e : Env} {R : Room} {s : State} {m : MethodId} {args : Array Value} {below : List Frame} {meth : Method} {c : Code} {H : Heap} {locs : List Loc} {cells slots mc ms : Nat} {Q : State → Prop} {cc : ByteArray} {pc : Nat} {ls : Array Slot} {rest st0 : List Value} {Ts : List Cond} {nL : Nat} {D : va_G} {A : Nat → Prop} {ret : Option FieldType} {cI cO : ClassId} {η : Eg} {σ : Sg} {t0 : Nat}
/-- the call of a look-up that may throw; what it throws goes on to the caller -/
theorem G_callX {y : MethodName} {ws : List Cond} {rm : Room} {bytes : ByteArray} {maxL n index : Nat} {rty : Option FieldType} {As : List Value} {k k' : Int32} {a : Nat} {Qn : Array Value → State → Outcome → State → Prop} (C : Cx RX6 p s m args meth c cc nL Ts ret) (V : EnvV s) (K : va_K D vwCl (tyG cI cO) s) (hnx : ∀ x ∈ c.exceptionTable.toList, False) (E9 : EnvH t0 A s s.heap) (hl : ls.size = nL) (P : Hp D A s (G_W cI cO η σ) H locs)
    (hM : G_X l y ws rm D cI cO t0 η σ As (fun A => Q_r D cI cO η σ k a A) k 1 6) (hf : Fn y ws bytes maxL rty n rm 1 6) (hy : y.cls = RX6) (g : GoodIn Ts (wsV RX6 index RX6 y ws)) (hn : As.length = n) (hst : st0 = As.reverse ++ .ref (e_ad η 0) :: rest) (hR : rm.frames + 1 ≤ R.frames ∧ 8 + (maxL + 11) + rm.locals ≤ R.locals) (hcat : (rest.map fun v => v.category).sum ≤ 8) (hz : cells + 1 ≤ R.cells ∧ slots + 6 ≤ R.slots) (hm : cells + 1 ≤ mc ∧ slots + 6 ≤ ms)
    (d : decode cc pc = .ok (.invokevirtual index, 3)) (hx : ¬ k = 0 → k' = k)
    (kk : k = 0 → ∀ (H : Heap) (locs : List Loc), Hp D A s (G_W cI cO η σ) H locs → W p l e R s m args below meth c H locs (cells + 1) (slots + 6) (vx_MQ below Qn (G_XC D cI cO η σ k' A) args s mc ms A) (F0 m (pc + 3) ls (.ref a :: rest))) : W p l e R s m args below meth c H locs cells slots (vx_MQ below Qn (G_XC D cI cO η σ k' A) args s mc ms A) (F0 m pc ls st0) := by
  obtain ⟨⟨ws', hw⟩, hrc, hrs, hd⟩ := hf
  have hF := va_A_in P.2.1 P.2.2.1 P.2.2.2
  refine vx_callq (vx_runV C.fix (hM H.size) (cwV n C.2.2.2.2.1 g hw hrc hrs ⟨hy, hd⟩ hR) ⟨preX_blind, va_recv K P.1 (ci := 7) (q0 := 0) rfl rfl, fun U hU hW => ⟨rfl, by rw [hU], by rw [hU]; exact P.1, va_K.moved hW.alike K, P.2.1.weaken (fun _ _ _ _ => trivial), V.warm hW, by rw [hU]; exact E9.go P.2.2.1 hF hW.alike⟩⟩ rfl hn hl hst (lv_room hcat) d hz) P.2.2.1 (fun q _ h => hF q h) hF (fun q _ h => hF q h) (fun E ce q9 u t H1 locs1 ht hvm hp hB hz1 hk1 hS hc hcv hcl => ?_) (fun r u t H1 locs1 ht hvm hw hB hz1 hk1 hS => ?_)
  · refine vx_out (fun x h => (hnx x h).elim) C.2.2.2.2.2.2 hc hcv hcl (fun t' ht' hvm' => ?_) hS.2.2 hm.1 hm.2
    obtain ⟨e1, hP1, hD1⟩ := hB
    rw [ht] at hP1
    refine ⟨(), by rw [hx hp]; exact hp, ⟨by rw [hx hp]; exact e1, by rw [ht']; exact hP1, hD1.weaken (fun _ _ _ h => hF _ h)⟩, hS.F ht'⟩
  · obtain ⟨hP1, hD1⟩ := hB
    rw [ht] at hP1
    rw [hw.2]
    exact kk hw.1 H1 locs1 ⟨hP1, hD1.weaken (fun _ _ _ h => hF _ h), hS, P.2.2.2⟩
theorem G_retX {f : Int32 × Int32 × Sg} {v : Int32} {σ' : Sg} {XC : String → State → State → Prop} {W0 : va_W} (C : Cx RX6 p s m args meth c cc nL Ts (some .int)) (P : Hp D A s W0 H locs) (hw : W0 = G_W cI cO η σ') (he : f = (0, v, σ')) (hm : cells ≤ mc ∧ slots ≤ ms) (d : decode cc pc = .ok (.ireturn, 1)) :
    W p l e R s m args below meth c H locs cells slots (vx_MQ below (Q_i D cI cO η f A) XC args s mc ms A) (F0 m pc ls [.int v]) := by
  have hlocks := C.2.2.2.2.2.2
  subst hw
  subst he
  exact W.widen hm.1 hm.2 (vx_ret (W.iret C.1 C.2.1 C.2.2.2.2.2.1 (fun t ht hW => ⟨⟨v, (), rfl, ⟨rfl, rfl⟩, by show va_P D vwCl _ t.heap; rw [ht]; exact P.1, P.2.1⟩, P.2.2.1.F ht⟩) P.2.2.1.2.2 d))
theorem G_retR {k : Int32} {a b : Nat} {rt : FieldType} {XC : String → State → State → Prop} (C : Cx RX6 p s m args meth c cc nL Ts (some rt)) (hrt : (∃ n, rt = .object n) ∨ ∃ t, rt = .array t) (P : Hp D A s (G_W cI cO η σ) H locs) (hk : k = 0) (hb : b = a) (hm : cells ≤ mc ∧ slots ≤ ms) (d : decode cc pc = .ok (.areturn, 1)) :
    W p l e R s m args below meth c H locs cells slots (vx_MQ below (Q_r D cI cO η σ k a A) XC args s mc ms A) (F0 m pc ls [.ref b]) := by
  have hlocks := C.2.2.2.2.2.2
  subst hb
  exact W.widen hm.1 hm.2 (vx_ret (W.aret C.1 C.2.1 C.2.2.2.2.2.1 hrt (Or.inr ⟨_, rfl⟩) (fun t ht hW => ⟨⟨some b, (), rfl, ⟨hk, rfl⟩, by show va_P D vwCl _ t.heap; rw [ht]; exact P.1, P.2.1⟩, P.2.2.1.F ht⟩) P.2.2.1.2.2 d))
theorem G_lgetN (C : Cx RX6 p s m args meth c cc nL Ts ret) (hN : EnvN s) (K : va_K D vwCl (tyG cI cO) s) (hl : ls.size = nL) (P : Hp D A s (G_W cI cO η σ) H locs) (j : Nat) (hj : j < 3) (hL : Lok η σ j) {k : Nat} (hk : k < ix (σ.1 (csl j))) {index : Nat} (g : GoodIn Ts (wsV RX6 index RJx4a65c yJx4a65c_get_915e3 wsJx4a65c_get_915e3))
    (hR : 2 + 1 ≤ R.frames ∧ 8 + (2 + 11) + 43 ≤ R.locals) (hcat : (rest.map fun v => v.category).sum ≤ 8) (hz : cells + 0 ≤ R.cells ∧ slots + 0 ≤ R.slots) (d : decode cc pc = .ok (.invokevirtual index, 3)) (kk : W p l e R s m args below meth c H locs cells slots Q (F0 m (pc + 3) ls (.ref (e_aa η j k) :: rest))) : W p l e R s m args below meth c H locs cells slots Q (F0 m pc ls (.int (nI k) :: .ref (e_ad η (1 + j)) :: rest)) := by
  have hb : k < 2 ^ 31 := by have := hL.2.1; omega
  have hb2 : ix (σ.1 (csl j)) < 2 ^ 31 := by have := hL.2.1; omega
  have e : ix (nI k) = k := nI_clamp hb
  refine G_lget C hN K hl P j hj hL (nI_pos hb) ?_ g hR hcat hz d ?_
  · rw [hL.1]; exact nI_lt hk hb2
  · rw [e]; exact kk
end GR2
theorem Ex_y {cI cO : ClassId} {η : Eg} {σ : Sg} : (G_W cI cO η σ).set 5 (e_ad η 5, .inr (2, [.int (σ.1 11), .int (σ.1 12), .int 1000000])) = G_W cI cO η (zs σ 16 0) := by
  have e : (1000000 : Int32) = 1000000 - (zs σ 16 0).1 16 := by
    show (1000000 : Int32) = 1000000 - (upd σ.1 16 0 16)
    rw [pk_us]
    decide
  conv => lhs; rw [e]
  rfl
