/-! ===== the beginning: five vessels ===== -/
def L00 : Sg := (fun _ => 0, fun _ _ => 0)
def L01 : Sg := bs (bs L00 4 1 10) 4 3 (-1)
def II (k : Nat) (S L : Sg) : Prop := Inv S ∧ S.1 2 = nI k ∧ (∀ j, j ≠ 2 → S.1 j = M_s0.1 j) ∧ (∀ j, j ≠ 3 → j ≠ 4 → S.2 j = M_s0.2 j) ∧ (∀ j, j ≠ 0 → L.2 j = L01.2 j) ∧ ∀ j, j < k → L.2 0 j = S.2 4 j ∧ S.2 3 j = nI (j % 3)
theorem ii_0 : II 0 M_s0 L01 := ⟨Inv_0, rfl, fun _ _ => rfl, fun _ _ _ => rfl, fun _ _ => rfl, fun j h => absurd h (by omega)⟩
theorem cap_b {v cv : Int32} (h : cv = 500 + z_low v 6000) : 500 ≤ cv.toInt ∧ cv.toInt ≤ 6499 := by
  obtain ⟨a, b⟩ := low_n v 6000 6000 (by decide) (by decide)
  rw [h, add_b (x := 500) (y := 6000) (by decide) a (by omega) (by decide) (by decide)]
  omega
theorem pl_y {k : Nat} : m_isPlace (nI (k % 3)) = 1 := by
  have h := r3_lt k
  generalize k % 3 = j at *
  match j, h with
  | 0, _ => decide
  | 1, _ => decide
  | 2, _ => decide
  | j + 3, h => exact absurd h (by omega)
theorem p_ves {k : Nat} {S L : Sg} (h : II k S L) (hk : k < 5) {c : Int32} (hc : 500 ≤ c.toInt ∧ c.toInt ≤ 6499) : an (g_vessel S (nI (k % 3)) c) = nI k ∧ II (k + 1) (g_vessel S (nI (k % 3)) c).2.2 (bs L 0 k c) := by
  obtain ⟨hI, h2, h3, h4, h5, h6⟩ := h
  have e : ix (S.1 2) = k := by rw [h2]; exact nI_clamp (by omega)
  have n10 : ¬ S.1 2 = 10 := fun q => by
    have := (nI_eq (a := k) (b := 10) (by omega) (by decide)).mp (h2.symm.trans q)
    omega
  have hm : m_vessel S (nI (k % 3)) c = (0, nI k, zs (bs (bs S 3 k (nI (k % 3))) 4 k c) 2 (nI (k + 1))) := by
    rw [m_vessel, if_neg (by rw [pl_y]; exact one_ne0), if_neg (in_n (by rw [ti1]; omega) (by rw [show (9999 : Int32).toInt = 9999 by decide]; omega)), if_neg n10, e, h2, ← nI_succ, nI_pred]
  have hr := r_vessel hI (nI (k % 3)) c
  obtain ⟨e1, e2⟩ := an_ok kc123_0 hr.1 hm
  have hI2 := hr.2
  rw [hm] at hI2
  rw [e2]
  refine ⟨e1, hI2, rfl, fun j q => ?_, fun j q1 q2 => ?_, fun j q => ?_, fun j q => ?_⟩
  · rw [zs_l _ _ q, bs_l, bs_l]
    exact h3 j q
  · rw [zs_r, bs_r _ _ _ q2, bs_r _ _ _ q1]
    exact h4 j q1 q2
  · rw [bs_r _ _ _ q]
    exact h5 j q
  · show upd (L.2 0) k c j = upd (S.2 4) k c j ∧ upd (S.2 3) k (nI (k % 3)) j = nI (j % 3)
    by_cases z : j = k
    · subst z
      rw [pk_us, pk_us, pk_us]
      exact ⟨rfl, rfl⟩
    · rw [pk_un z, pk_un z, pk_un z]
      exact h6 j (by omega)
theorem sm_z {f : Nat → Int32} (h : ∀ i, f i = 0) : ∀ n, sm f n = 0
  | 0 => rfl
  | n + 1 => by
    rw [sm_s, sm_z h n, h n]
    rfl
theorem ii_ti {S L : Sg} (h : II 5 S L) : TI 0 S L ∧ S.1 8 = 0 ∧ S.1 9 = 0 := by
  obtain ⟨hI, h2, h3, h4, h5, h6⟩ := h
  have a1 : S.1 1 = 0 := h3 1 (by decide)
  have a8 : S.1 8 = 0 := h3 8 (by decide)
  have a9 : S.1 9 = 0 := h3 9 (by decide)
  have a11 : S.1 11 = 10 := h3 11 (by decide)
  have a12 : S.1 12 = 0 := h3 12 (by decide)
  have a13 : S.1 13 = -1 := h3 13 (by decide)
  have a14 : S.1 14 = 0 := h3 14 (by decide)
  have a15 : S.1 15 = 0 := h3 15 (by decide)
  have a16 : S.1 16 = 0 := h3 16 (by decide)
  have a17 : S.1 17 = 0 := h3 17 (by decide)
  have a18 : S.1 18 = 0 := h3 18 (by decide)
  have a21 : S.1 21 = 0 := h3 21 (by decide)
  have a22 : S.1 22 = 0 := h3 22 (by decide)
  have b10 : S.2 10 = fun _ => 0 := h4 10 (by decide) (by decide)
  have b5 : S.2 5 = fun _ => 0 := h4 5 (by decide) (by decide)
  have b6 : S.2 6 = fun _ => 0 := h4 6 (by decide) (by decide)
  have b7 : S.2 7 = fun _ => 0 := h4 7 (by decide) (by decide)
  have c1 : L.2 1 = fun _ => 0 := h5 1 (by decide)
  have c2 : L.2 2 = fun _ => 0 := h5 2 (by decide)
  have c3 : L.2 3 = fun _ => 0 := h5 3 (by decide)
  have c4 : L.2 4 = L01.2 4 := h5 4 (by decide)
  have i18 : ix (S.1 18) = 0 := by rw [a18]; decide
  have i22 : ix (S.1 22) = 0 := by rw [a22]; decide
  refine ⟨⟨hI, ⟨h2, by rw [i18]; decide⟩, ⟨fun k hk => ?_, fun k hk => ?_, ?_, fun i hi => ?_, fun i hi => ?_⟩, ?_, ⟨?_, ?_, ?_, ?_⟩, fun i hi => ?_, ?_, ?_⟩, a8, a9⟩
  · obtain ⟨x, y⟩ := h6 k hk
    exact ⟨x, by rw [c1, b5], by rw [c2, b6], y⟩
  · rw [c3, b7]
  · unfold SimG
    rw [c4, a1, a11, a12, a13, a14, a15, a16, a17, a18, a21, a22, b10]
    exact ⟨rfl, rfl, rfl, rfl, rfl, rfl, rfl, rfl, rfl, rfl, rfl, rfl, rfl, rfl, rfl, rfl⟩
  · rw [i18] at hi; exact absurd hi (by omega)
  · rw [i22] at hi; exact absurd hi (by omega)
  · unfold cq m_inVessels m_moving m_inLots
    rw [i18, i22, b10, b6, sm_z (fun _ => rfl)]
    show (0 : Int32) + 0 + 0 + 0 + 0 + 0 - 0 = 0
    decide
  · rw [a8]; decide
  · rw [a11]; decide
  · rw [a14]; decide
  · rw [a16]; decide
  · rw [i18] at hi; exact absurd hi (by omega)
  · unfold ppc
    rw [i18, a12]
    show (0 : Int) - 100000000 ≤ (0 : Int32).toInt
    rw [ti0]
    omega
  · unfold mvc
    rw [i22, a12]
    show (0 : Int32).toInt + (0 : Int) ≤ ((0 : Nat) : Int) * _
    rw [ti0, Int.natCast_zero, Int.zero_mul]
    omega
section ST
variable {p : Program} {l : Launch} {e : Env} {R : Room} {s : State} {m : MethodId} {args : Array Value} {below : List Frame} {meth : Method} {c : Code} {H : Heap} {locs : List Loc} {cells slots : Nat} {Q : State → Prop} {cc : ByteArray} {pc : Nat} {ls : Array Slot} {rest : List Value} {nL : Nat} {D : va_G} {A : Nat → Prop} {ret : Option FieldType} {cI cO : ClassId} {t0 : Nat} {wr : va_W}
theorem A_newG {g : Nat} (C : Cx RL p s m args meth c cc nL wsL_law ret) (V : EnvV s) (K : va_K D vwCl (tyG cI cO) s) (E9 : EnvH t0 A s s.heap) (hl : ls.size = nL) (P : Hp D A s ([(g, (.inr (7, G_f0) : va_E))] ++ wr) H locs) (hRf : 12 ≤ R.frames) (hRl : 452 ≤ R.locals) (hcat : (rest.map fun v => v.category).sum ≤ 8) (hz : cells + 12 ≤ R.cells ∧ slots + 700 ≤ R.slots)
    (hini : Cond.initialized RX6 ∈ wsL_law) (hlk : Cond.methodLink RL 124 yX6_init ∈ wsL_law) (hin : Cond.instanceMethod yX6_init ∈ wsL_law) (d : decode cc pc = .ok (.invokespecial 124, 3))
    (kk : ∀ (η : Eg) (H : Heap) (locs : List Loc), Hp D A s (G_W cI cO η M_s0 ++ wr) H locs → Gok t0 η M_s0 → e_ad η 0 = g → W p l e R s m args below meth c H locs (cells + 12) (slots + 700) Q (F0 m (pc + 3) ls rest)) : W p l e R s m args below meth c H locs cells slots Q (F0 m pc ls (.ref g :: rest)) := by
  obtain ⟨⟨ws', hw⟩, hrc, hrs, hd⟩ := fnX6_init
  have P2 := P.sub (List.sublist_append_left _ wr)
  have hF := va_A_in P2.2.1 P2.2.2.1 P2.2.2.2
  refine va_callv (va_runI C.fix (kX6_init l D cI cO t0 g H.size) (cwI 0 C.2.2.2.2.1 gL_law_X6_init hw hrc hrs (C.2.2.2.2.1 _ hini) (C.2.2.2.2.1 _ hlk) (C.2.2.2.2.1 _ hin) rfl hd ⟨Nat.le_trans (Nat.le_of_ble_eq_true rfl) hRf, Nat.le_trans (Nat.le_of_ble_eq_true rfl) hRl⟩) (J_pre V K E9 P2 (X := fun _ => True) trivial (fun _ _ _ _ => trivial) [.ref g]) rfl rfl hl rfl (lv_room hcat) d hz) P2.2.2.1 (fun q _ h => hF q h) hF (fun u t H1 locs1 ht hvm hw hB hz1 hk1 hS => ?_)
  obtain ⟨hP1, hD1⟩ := hB
  rw [ht] at hP1
  exact kk u H1 locs1 (P.frame2 hP1 hD1 hk1 hS) hw.1 hw.2
end ST
