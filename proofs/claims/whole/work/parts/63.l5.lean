section LD
variable {p : Program} {l : Launch} {e : Env} {R : Room} {s : State} {m : MethodId} {args : Array Value} {below : List Frame} {meth : Method} {c : Code} {Q : State → Prop} {D : va_G} {A : Nat → Prop} {ret : Option FieldType} {cI cO cJ : ClassId} {t0 : Nat} {b L ob m0 : Nat} {xs : Nat → Int32} {as : Nat → Nat}
theorem law_day {H : Heap} {locs : List Loc} {cells slots : Nat} {ls : Array Slot} {η : Eg} {σ : Sg} {i0 : Nat} {th : Int32} {lf : Nat → Int64} (hl9 : l.stackTraces = false) (C : Cx RL p s m args meth c cL_law 7 wsL_law ret) (V : EnvV s) (hEC : EnvC s) (K : va_K D vwCl (tyL cI cO cJ) s) (E9 : EnvH t0 A s s.heap) (hX : va_X b L xs s s.heap) (hbl : b < s.heap.size) (hbA : ¬ A b) (hL : L ≤ 3072) (hi : i0 + 6 ≤ L) (hRf : 11 ≤ R.frames) (hRl : 414 ≤ R.locals) (hz : cells + 12 ≤ R.cells ∧ slots + 500 ≤ R.slots) (hI : Inv σ) (hG : Gok t0 η σ)
    (P : Hp D A s (((ob, ArL cJ lf) :: G_W cI cO η σ) ++ M_W cI m0 as th σ) H locs) (hl : lv_has ls 7 [(4, .int (nI i0)), (3, .ref ob), (2, .ref m0), (1, .ref (e_ad η 0)), (0, .ref b)])
    (kk : ∀ (η' : Eg) (σ' : Sg) (th' : Int32) (lf' : Nat → Int64) (H : Heap) (locs : List Loc) (ls : Array Slot), Inv σ' → Gok t0 η' σ' → e_ad η' 0 = e_ad η 0 → Hp D A s (((ob, ArL cJ lf') :: G_W cI cO η' σ') ++ M_W cI m0 as th' σ') H locs → lv_has ls 7 [(4, .int (nI i0)), (3, .ref ob), (2, .ref m0), (1, .ref (e_ad η 0)), (0, .ref b)] → W p l e R s m args below meth c H locs (cells + 12) (slots + 500) Q (F0 m 1593 ls [])) : W p l e R s m args below meth c H locs cells slots Q (F0 m 1276 ls []) := by
  obtain ⟨w0, w1, w2, w3, w4, w5⟩ := vpj hL hi
  have hx := C.1
  have hb := C.2.1
  have hml := C.2.2.1
  have hown := C.2.2.2.1
  refine lv_aload_n (pc := 1276) hx hb dL_law_1276 rfl (lv_at hl 3 rfl) ?_
  refine A_day (pc := 1277) C V.1 K hl.1 P gL_law_X6_day ⟨Nat.le_trans (Nat.le_of_ble_eq_true rfl) hRf, Nat.le_trans (Nat.le_of_ble_eq_true rfl) hRl⟩ (Nat.le_of_ble_eq_true rfl) ⟨by omega, by omega⟩ dL_law_1277 ?_
  refine lv_aload_n (pc := 1280) hx hb dL_law_1280 rfl (lv_at hl 2 rfl) ?_
  refine A_callM (pc := 1281) (As := []) (rest := [.int (g_day σ)]) C K hl.1 P (kX7_day l D cI m0 as th σ) fnX7_day rfl gL_law_X7_day rfl rfl ⟨Nat.le_trans (Nat.le_of_ble_eq_true rfl) hRf, Nat.le_trans (Nat.le_of_ble_eq_true rfl) hRl⟩ (Nat.le_of_ble_eq_true rfl) ⟨by omega, by omega⟩ dL_law_1281 (fun H locs P => ?_)
  refine lv_icmp_eq (pc := 1284) (tgt := 1593) hx hb dL_law_1284 (by decide) (fun _ => ?_) (fun h => absurd rfl h)
  exact W.widen (by omega) (by omega) (kk η σ _ lf H locs ls hI hG rfl P hl)
set_option maxRecDepth 100000 in
set_option maxHeartbeats 4000000 in
/-- the loop over the script -/
theorem law_loop (hl9 : l.stackTraces = false) (C : Cx RL p s m args meth c cL_law 7 wsL_law ret) (V : EnvV s) (hEC : EnvC s) (K : va_K D vwCl (tyL cI cO cJ) s) (E9 : EnvH t0 A s s.heap) (hX : va_X b L xs s s.heap) (hbl : b < s.heap.size) (hbA : ¬ A b) (hL : L ≤ 3072) (hRf : 11 ≤ R.frames) (hRl : 414 ≤ R.locals) (cm sm : Nat) (hcm : cm ≤ R.cells) (hsm : sm ≤ R.slots)
    (kend : ∀ (H : Heap) (locs : List Loc) (ls : Array Slot) (cells slots : Nat), va_S A s.heap H locs → cells ≤ cm → slots ≤ sm → W p l e R s m args below meth c H locs cells slots Q (F0 m 1599 ls [])) :
    ∀ (n i0 : Nat) (η : Eg) (σ : Sg) (th : Int32) (lf : Nat → Int64) (H : Heap) (locs : List Loc) (ls : Array Slot) (cells slots : Nat), L < i0 + 6 * n + 6 → i0 ≤ L → cells + 12 * n ≤ cm → slots + 500 * n ≤ sm → Inv σ → Gok t0 η σ → Hp D A s (((ob, ArL cJ lf) :: G_W cI cO η σ) ++ M_W cI m0 as th σ) H locs → lv_has ls 7 [(4, .int (nI i0)), (3, .ref ob), (2, .ref m0), (1, .ref (e_ad η 0)), (0, .ref b)] → W p l e R s m args below meth c H locs cells slots Q (F0 m 23 ls []) := by
  intro n
  induction n with
  | zero =>
    intro i0 η σ th lf H locs ls cells slots h1 h2 h3 h4 hI hG P hl
    have hx := C.1
    have hb := C.2.1
    have eI : (nI i0).toInt = i0 := nI_toInt (by omega)
    have eL : (Int32.ofNat L - 6).toInt = (L : Int) - 6 := by
      have e1 : (Int32.ofNat L).toInt = L := nI_toInt (by omega)
      rw [i_sub (by rw [e1, show (6 : Int32).toInt = 6 by decide]; omega) (by rw [e1, show (6 : Int32).toInt = 6 by decide]; omega), e1, show (6 : Int32).toInt = 6 by decide]
    refine lv_iload (pc := 23) hx hb dL_law_23 (lv_at hl 0 rfl) ?_
    refine lv_aload_n (pc := 25) hx hb dL_law_25 rfl (lv_at hl 4 rfl) ?_
    refine va_slen (pc := 26) hx hb hX hbl hbA P.2.2.1 dL_law_26 ?_
    refine lv_bipush (pc := 27) (v := 6) hx hb dL_law_27 (by decide) ?_
    refine lv_isub (pc := 29) hx hb dL_law_29 ?_
    refine lv_icmp_gt (pc := 30) (tgt := 1599) hx hb dL_law_30 (by decide) (fun _ => ?_) (fun h => absurd (by rw [lt_i, eL, eI]; omega) h)
    exact kend H locs ls cells slots P.2.2.1 (by omega) (by omega)
  | succ n ih =>
    intro i0 η σ th lf H locs ls cells slots h1 h2 h3 h4 hI hG P hl
    have hx := C.1
    have hb := C.2.1
    have eI : (nI i0).toInt = i0 := nI_toInt (by omega)
    have eL : (Int32.ofNat L - 6).toInt = (L : Int) - 6 := by
      have e1 : (Int32.ofNat L).toInt = L := nI_toInt (by omega)
      rw [i_sub (by rw [e1, show (6 : Int32).toInt = 6 by decide]; omega) (by rw [e1, show (6 : Int32).toInt = 6 by decide]; omega), e1, show (6 : Int32).toInt = 6 by decide]
    refine lv_iload (pc := 23) hx hb dL_law_23 (lv_at hl 0 rfl) ?_
    refine lv_aload_n (pc := 25) hx hb dL_law_25 rfl (lv_at hl 4 rfl) ?_
    refine va_slen (pc := 26) hx hb hX hbl hbA P.2.2.1 dL_law_26 ?_
    refine lv_bipush (pc := 27) (v := 6) hx hb dL_law_27 (by decide) ?_
    refine lv_isub (pc := 29) hx hb dL_law_29 ?_
    refine lv_icmp_gt (pc := 30) (tgt := 1599) hx hb dL_law_30 (by decide) (fun _ => ?_) (fun hgt => ?_)
    · exact kend H locs ls cells slots P.2.2.1 (by omega) (by omega)
    have hi : i0 + 6 ≤ L := by rw [lt_i, eL, eI] at hgt; omega
    have tail : ∀ (η' : Eg) (σ' : Sg) (th' : Int32) (lf' : Nat → Int64) (H : Heap) (locs : List Loc) (ls : Array Slot), Inv σ' → Gok t0 η' σ' → e_ad η' 0 = e_ad η 0 → Hp D A s (((ob, ArL cJ lf') :: G_W cI cO η' σ') ++ M_W cI m0 as th' σ') H locs → lv_has ls 7 [(4, .int (nI i0)), (3, .ref ob), (2, .ref m0), (1, .ref (e_ad η 0)), (0, .ref b)] → W p l e R s m args below meth c H locs (cells + 12) (slots + 500) Q (F0 m 1593 ls []) := by
      intro η' σ' th' lf' H locs ls hI' hG' h0 P hl
      refine lv_iinc (pc := 1593) (v := nI (i0 + 6)) (lv' := [(4, .int (nI (i0 + 6))), (3, .ref ob), (2, .ref m0), (1, .ref (e_ad η 0)), (0, .ref b)]) hx hb dL_law_1593 hl (k := 0) rfl ((nI_add2 i0).2.2.2.2) (by decide) rfl (fun ls hl => ?_)
      refine lv_goto (pc := 1596) (tgt := 23) hx hb dL_law_1596 (by decide) ?_
      exact ih (i0 + 6) η' σ' th' lf' H locs ls (cells + 12) (slots + 500) (by omega) hi (by omega) (by omega) hI' hG' P (by rw [h0]; exact hl)
    have hz : cells + 12 ≤ R.cells ∧ slots + 500 ≤ R.slots := ⟨by omega, by omega⟩
    refine lv_aload_n (pc := 33) hx hb dL_law_33 rfl (lv_at hl 4 rfl) ?_
    refine lv_iload (pc := 34) hx hb dL_law_34 (lv_at hl 0 rfl) ?_
    refine va_sld (pc := 36) hx hb hX hbl hbA P.2.2.1 (vpj hL hi).1 dL_law_36 ?_
    refine lv_bipush (pc := 37) (v := 31) hx hb dL_law_37 (by decide) ?_
    refine lv_iand (pc := 39) hx hb dL_law_39 ?_
    generalize (xs (nI i0).toNatClampNeg &&& 31) = x
    rcases Classical.em (x = 0) with z0 | z0
    · refine lv_tableIn (pc := 40) (tgt := 144) hx hb dL_law_40 (by rw [z0]; decide) (by rw [z0]; decide) (by rw [z0]; rfl) (by decide) ?_
      exact law_vessel hl9 C V hEC K E9 hX hbl hbA hL hi hRf hRl hz hI hG P hl tail
    rcases Classical.em (x = 1) with z1 | z1
    · refine lv_tableIn (pc := 40) (tgt := 212) hx hb dL_law_40 (by rw [z1]; decide) (by rw [z1]; decide) (by rw [z1]; rfl) (by decide) ?_
      exact law_shares hl9 C V hEC K E9 hX hbl hbA hL hi hRf hRl hz hI hG P hl tail
    rcases Classical.em (x = 2) with z2 | z2
    · refine lv_tableIn (pc := 40) (tgt := 280) hx hb dL_law_40 (by rw [z2]; decide) (by rw [z2]; decide) (by rw [z2]; rfl) (by decide) ?_
      exact law_run hl9 C V hEC K E9 hX hbl hbA hL hi hRf hRl hz hI hG P hl tail
    rcases Classical.em (x = 3) with z3 | z3
    · refine lv_tableIn (pc := 40) (tgt := 384) hx hb dL_law_40 (by rw [z3]; decide) (by rw [z3]; decide) (by rw [z3]; rfl) (by decide) ?_
      exact law_move hl9 C V hEC K E9 hX hbl hbA hL hi hRf hRl hz hI hG P hl tail
    rcases Classical.em (x = 4) with z4 | z4
    · refine lv_tableIn (pc := 40) (tgt := 464) hx hb dL_law_40 (by rw [z4]; decide) (by rw [z4]; decide) (by rw [z4]; rfl) (by decide) ?_
      exact law_dip hl9 C V hEC K E9 hX hbl hbA hL hi hRf hRl hz hI hG P hl tail
    rcases Classical.em (x = 5) with z5 | z5
    · refine lv_tableIn (pc := 40) (tgt := 544) hx hb dL_law_40 (by rw [z5]; decide) (by rw [z5]; decide) (by rw [z5]; rfl) (by decide) ?_
      exact law_lose hl9 C V hEC K E9 hX hbl hbA hL hi hRf hRl hz hI hG P hl tail
    rcases Classical.em (x = 6) with z6 | z6
    · refine lv_tableIn (pc := 40) (tgt := 640) hx hb dL_law_40 (by rw [z6]; decide) (by rw [z6]; decide) (by rw [z6]; rfl) (by decide) ?_
      exact law_release hl9 C V hEC K E9 hX hbl hbA hL hi hRf hRl hz hI hG P hl tail
    rcases Classical.em (x = 7) with z7 | z7
    · refine lv_tableIn (pc := 40) (tgt := 708) hx hb dL_law_40 (by rw [z7]; decide) (by rw [z7]; decide) (by rw [z7]; rfl) (by decide) ?_
      exact law_permit hl9 C V hEC K E9 hX hbl hbA hL hi hRf hRl hz hI hG P hl tail
    rcases Classical.em (x = 8) with z8 | z8
    · refine lv_tableIn (pc := 40) (tgt := 764) hx hb dL_law_40 (by rw [z8]; decide) (by rw [z8]; decide) (by rw [z8]; rfl) (by decide) ?_
      exact law_denature hl9 C V hEC K E9 hX hbl hbA hL hi hRf hRl hz hI hG P hl tail
    rcases Classical.em (x = 9) with z9 | z9
    · refine lv_tableIn (pc := 40) (tgt := 832) hx hb dL_law_40 (by rw [z9]; decide) (by rw [z9]; decide) (by rw [z9]; rfl) (by decide) ?_
      exact law_export hl9 C V hEC K E9 hX hbl hbA hL hi hRf hRl hz hI hG P hl tail
    rcases Classical.em (x = 10) with z10 | z10
    · refine lv_tableIn (pc := 40) (tgt := 888) hx hb dL_law_40 (by rw [z10]; decide) (by rw [z10]; decide) (by rw [z10]; rfl) (by decide) ?_
      exact law_pay hl9 C V hEC K E9 hX hbl hbA hL hi hRf hRl hz hI hG P hl tail
    rcases Classical.em (x = 11) with z11 | z11
    · refine lv_tableIn (pc := 40) (tgt := 944) hx hb dL_law_40 (by rw [z11]; decide) (by rw [z11]; decide) (by rw [z11]; rfl) (by decide) ?_
      exact law_budget hl9 C V hEC K E9 hX hbl hbA hL hi hRf hRl hz hI hG P hl tail
    rcases Classical.em (x = 12) with z12 | z12
    · refine lv_tableIn (pc := 40) (tgt := 1004) hx hb dL_law_40 (by rw [z12]; decide) (by rw [z12]; decide) (by rw [z12]; rfl) (by decide) ?_
      exact law_guarantee hl9 C V hEC K E9 hX hbl hbA hL hi hRf hRl hz hI hG P hl tail
    rcases Classical.em (x = 13) with z13 | z13
    · refine lv_tableIn (pc := 40) (tgt := 1060) hx hb dL_law_40 (by rw [z13]; decide) (by rw [z13]; decide) (by rw [z13]; rfl) (by decide) ?_
      exact law_ship hl9 C V hEC K E9 hX hbl hbA hL hi hRf hRl hz hI hG P hl tail
    rcases Classical.em (x = 14) with z14 | z14
    · refine lv_tableIn (pc := 40) (tgt := 1152) hx hb dL_law_40 (by rw [z14]; decide) (by rw [z14]; decide) (by rw [z14]; rfl) (by decide) ?_
      exact law_arrive hl9 C V hEC K E9 hX hbl hbA hL hi hRf hRl hz hI hG P hl tail
    rcases Classical.em (x = 15) with z15 | z15
    · refine lv_tableIn (pc := 40) (tgt := 1220) hx hb dL_law_40 (by rw [z15]; decide) (by rw [z15]; decide) (by rw [z15]; rfl) (by decide) ?_
      exact law_pass hl9 C V hEC K E9 hX hbl hbA hL hi hRf hRl hz hI hG P hl tail
    rcases Classical.em (x = 16) with z16 | z16
    · refine lv_tableIn (pc := 40) (tgt := 1276) hx hb dL_law_40 (by rw [z16]; decide) (by rw [z16]; decide) (by rw [z16]; rfl) (by decide) ?_
      exact law_day hl9 C V hEC K E9 hX hbl hbA hL hi hRf hRl hz hI hG P hl tail
    rcases Classical.em (x = 17) with z17 | z17
    · refine lv_tableIn (pc := 40) (tgt := 1289) hx hb dL_law_40 (by rw [z17]; decide) (by rw [z17]; decide) (by rw [z17]; rfl) (by decide) ?_
      exact law_ofVessel hl9 C V hEC K E9 hX hbl hbA hL hi hRf hRl hz hI hG P hl tail
    rcases Classical.em (x = 18) with z18 | z18
    · refine lv_tableIn (pc := 40) (tgt := 1357) hx hb dL_law_40 (by rw [z18]; decide) (by rw [z18]; decide) (by rw [z18]; rfl) (by decide) ?_
      exact law_dropsAnew hl9 C V hEC K E9 hX hbl hbA hL hi hRf hRl hz hI hG P hl tail
    rcases Classical.em (x = 19) with z19 | z19
    · refine lv_tableIn (pc := 40) (tgt := 1413) hx hb dL_law_40 (by rw [z19]; decide) (by rw [z19]; decide) (by rw [z19]; rfl) (by decide) ?_
      exact law_ofMovement hl9 C V hEC K E9 hX hbl hbA hL hi hRf hRl hz hI hG P hl tail
    rcases Classical.em (x = 20) with z20 | z20
    · refine lv_tableIn (pc := 40) (tgt := 1481) hx hb dL_law_40 (by rw [z20]; decide) (by rw [z20]; decide) (by rw [z20]; rfl) (by decide) ?_
      exact law_ledger hl9 C V hEC K E9 hX hbl hbA hL hi hRf hRl hz hI hG P hl tail
    rcases Classical.em (x = 21) with z21 | z21
    · refine lv_tableIn (pc := 40) (tgt := 1537) hx hb dL_law_40 (by rw [z21]; decide) (by rw [z21]; decide) (by rw [z21]; rfl) (by decide) ?_
      exact law_duty hl9 C V hEC K E9 hX hbl hbA hL hi hRf hRl hz hI hG P hl tail
    refine lv_tableOut (pc := 40) (tgt := 1593) hx hb dL_law_40 (tsw_out 22 x (by decide) (by intro k hk; match k, hk with | 0, _ => exact z0 | 1, _ => exact z1 | 2, _ => exact z2 | 3, _ => exact z3 | 4, _ => exact z4 | 5, _ => exact z5 | 6, _ => exact z6 | 7, _ => exact z7 | 8, _ => exact z8 | 9, _ => exact z9 | 10, _ => exact z10 | 11, _ => exact z11 | 12, _ => exact z12 | 13, _ => exact z13 | 14, _ => exact z14 | 15, _ => exact z15 | 16, _ => exact z16 | 17, _ => exact z17 | 18, _ => exact z18 | 19, _ => exact z19 | 20, _ => exact z20 | 21, _ => exact z21 | n + 22, hk => exact absurd hk (by omega))) (by decide) ?_
    exact W.widen (by omega) (by omega) (tail η σ th lf H locs ls hI hG rfl P hl)
end LD
