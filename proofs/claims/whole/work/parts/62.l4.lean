/-! ===== the law's calls, one by one ===== -/
theorem lg_same (x : Int64) : lg_cmp x x = 0 := by simp [lg_cmp]
theorem nI_add2 (a : Nat) : nI a + 2 = nI (a + 2) ∧ nI a + 3 = nI (a + 3) ∧ nI a + 4 = nI (a + 4) ∧ nI a + 5 = nI (a + 5) ∧ nI a + 6 = nI (a + 6) := by
  refine ⟨?_, ?_, ?_, ?_, ?_⟩ <;> exact (Int32.ofNat_add _ _).symm
theorem vpj {i0 L : Nat} (hL : L ≤ 3072) (h : i0 + 6 ≤ L) : vp_in (nI i0) L ∧ vp_in (nI i0 + 1) L ∧ vp_in (nI i0 + 2) L ∧ vp_in (nI i0 + 3) L ∧ vp_in (nI i0 + 4) L ∧ vp_in (nI i0 + 5) L := by
  obtain ⟨e2, e3, e4, e5, -⟩ := nI_add2 i0
  rw [← nI_succ, e2, e3, e4, e5]
  exact ⟨vp_in_nI (by omega) (by omega), vp_in_nI (by omega) (by omega), vp_in_nI (by omega) (by omega), vp_in_nI (by omega) (by omega), vp_in_nI (by omega) (by omega), vp_in_nI (by omega) (by omega)⟩
theorem kc123_0 {x : Int32} (h : kc123 x = 0) : x = 0 := by
  unfold kc123 at h
  split at h
  · assumption
  · repeat' split at h
    all_goals exact absurd h (by decide)
theorem kc12_0 {x : Int32} (h : kc12 x = 0) : x = 0 := by
  unfold kc12 at h
  split at h
  · assumption
  · repeat' split at h
    all_goals exact absurd h (by decide)
theorem kc23_0 {x : Int32} (h : kc23 x = 0) : x = 0 := by
  unfold kc23 at h
  split at h
  · assumption
  · repeat' split at h
    all_goals exact absurd h (by decide)
theorem kc1_0 {x : Int32} (h : kc1 x = 0) : x = 0 := by
  unfold kc1 at h
  split at h
  · assumption
  · exact absurd h (by decide)
section LC
variable {p : Program} {l : Launch} {e : Env} {R : Room} {s : State} {m : MethodId} {args : Array Value} {below : List Frame} {meth : Method} {c : Code} {H : Heap} {locs : List Loc} {cells slots : Nat} {Q : State → Prop} {ls : Array Slot} {D : va_G} {A : Nat → Prop} {ret : Option FieldType} {cI cO cJ : ClassId} {t0 : Nat} {η : Eg} {σ : Sg} {b L i0 ob m0 : Nat} {xs : Nat → Int32} {as : Nat → Nat} {th : Int32} {lf : Nat → Int64}
set_option maxHeartbeats 4000000 in
theorem law_vessel (hl9 : l.stackTraces = false) (C : Cx RL p s m args meth c cL_law 7 wsL_law ret) (V : EnvV s) (hEC : EnvC s) (K : va_K D vwCl (tyL cI cO cJ) s) (E9 : EnvH t0 A s s.heap) (hX : va_X b L xs s s.heap) (hbl : b < s.heap.size) (hbA : ¬ A b) (hL : L ≤ 3072) (hi : i0 + 6 ≤ L) (hRf : 11 ≤ R.frames) (hRl : 414 ≤ R.locals) (hz : cells + 12 ≤ R.cells ∧ slots + 500 ≤ R.slots) (hI : Inv σ) (hG : Gok t0 η σ)
    (P : Hp D A s (((ob, ArL cJ lf) :: G_W cI cO η σ) ++ M_W cI m0 as th σ) H locs) (hl : lv_has ls 7 [(4, .int (nI i0)), (3, .ref ob), (2, .ref m0), (1, .ref (e_ad η 0)), (0, .ref b)])
    (kk : ∀ (η' : Eg) (σ' : Sg) (th' : Int32) (lf' : Nat → Int64) (H : Heap) (locs : List Loc) (ls : Array Slot), Inv σ' → Gok t0 η' σ' → e_ad η' 0 = e_ad η 0 → Hp D A s (((ob, ArL cJ lf') :: G_W cI cO η' σ') ++ M_W cI m0 as th' σ') H locs → lv_has ls 7 [(4, .int (nI i0)), (3, .ref ob), (2, .ref m0), (1, .ref (e_ad η 0)), (0, .ref b)] → W p l e R s m args below meth c H locs (cells + 12) (slots + 500) Q (F0 m 1593 ls [])) : W p l e R s m args below meth c H locs cells slots Q (F0 m 144 ls []) := by
  obtain ⟨w0, w1, w2, w3, w4, w5⟩ := vpj hL hi
  have hx := C.1
  have hb := C.2.1
  have hml := C.2.2.1
  have hown := C.2.2.2.1
  obtain ⟨⟨q1, q2, q3⟩, q4⟩ := r_vessel hI (xs (nI i0 + 1).toNatClampNeg) (xs (nI i0 + 2).toNatClampNeg)
  refine lv_aload_n (pc := 144) hx hb dL_law_144 rfl (lv_at hl 3 rfl) ?_
  refine lv_aload_n (pc := 145) hx hb dL_law_145 rfl (lv_at hl 4 rfl) ?_
  refine lv_iload (pc := 146) hx hb dL_law_146 (lv_at hl 0 rfl) ?_
  refine lv_iconst (pc := 148) (v := 1) hx hb dL_law_148 (by decide) ?_
  refine lv_iadd (pc := 149) hx hb dL_law_149 ?_
  refine va_sld (pc := 150) hx hb hX hbl hbA P.2.2.1 w1 dL_law_150 ?_
  refine lv_aload_n (pc := 151) hx hb dL_law_151 rfl (lv_at hl 4 rfl) ?_
  refine lv_iload (pc := 152) hx hb dL_law_152 (lv_at hl 0 rfl) ?_
  refine lv_iconst (pc := 154) (v := 2) hx hb dL_law_154 (by decide) ?_
  refine lv_iadd (pc := 155) hx hb dL_law_155 ?_
  refine va_sld (pc := 156) hx hb hX hbl hbA P.2.2.1 w2 dL_law_156 ?_
  refine lv_aload_n (pc := 157) hx hb dL_law_157 rfl (lv_at hl 1 rfl) ?_
  refine A_callW (pc := 158) (As := [.ref (e_ad η 0), .int (xs (nI i0 + 1).toNatClampNeg), .int (xs (nI i0 + 2).toNatClampNeg), .ref ob]) (rest := []) C V hEC K E9 hl.1 P (kL_vessel l hl9 D cI cO cJ t0 η σ ob lf (xs (nI i0 + 1).toNatClampNeg) (xs (nI i0 + 2).toNatClampNeg) hG) fnL_vessel gL_law_L_vessel rfl rfl ⟨Nat.le_trans (Nat.le_of_ble_eq_true rfl) hRf, Nat.le_trans (Nat.le_of_ble_eq_true rfl) hRl⟩ (Nat.le_of_ble_eq_true rfl) ⟨by omega, by omega⟩ dL_law_158 (fun η2 H locs P hG2 h02 => ?_)
  refine lv_istore (pc := 161) (lv' := [(5, .int _), (4, .int (nI i0)), (3, .ref ob), (2, .ref m0), (1, .ref (e_ad η 0)), (0, .ref b)]) hx hb dL_law_161 hl (by decide) rfl (fun ls hl => ?_)
  refine lv_aload_n (pc := 163) hx hb dL_law_163 rfl (lv_at hl 3 rfl) ?_
  refine lv_aload_n (pc := 164) hx hb dL_law_164 rfl (lv_at hl 5 rfl) ?_
  refine lv_iload (pc := 165) hx hb dL_law_165 (lv_at hl 1 rfl) ?_
  refine lv_iconst (pc := 167) (v := 1) hx hb dL_law_167 (by decide) ?_
  refine lv_iadd (pc := 168) hx hb dL_law_168 ?_
  refine va_sld (pc := 169) hx hb hX hbl hbA P.2.2.1 w1 dL_law_169 ?_
  refine lv_aload_n (pc := 170) hx hb dL_law_170 rfl (lv_at hl 5 rfl) ?_
  refine lv_iload (pc := 171) hx hb dL_law_171 (lv_at hl 1 rfl) ?_
  refine lv_iconst (pc := 173) (v := 2) hx hb dL_law_173 (by decide) ?_
  refine lv_iadd (pc := 174) hx hb dL_law_174 ?_
  refine va_sld (pc := 175) hx hb hX hbl hbA P.2.2.1 w2 dL_law_175 ?_
  refine A_callM (pc := 176) (As := [.int (xs (nI i0 + 1).toNatClampNeg), .int (xs (nI i0 + 2).toNatClampNeg)]) (rest := []) C K hl.1 P (kX7_vessel l D cI m0 as th σ (xs (nI i0 + 1).toNatClampNeg) (xs (nI i0 + 2).toNatClampNeg) hI.1.1) fnX7_vessel rfl gL_law_X7_vessel rfl rfl ⟨Nat.le_trans (Nat.le_of_ble_eq_true rfl) hRf, Nat.le_trans (Nat.le_of_ble_eq_true rfl) hRl⟩ (Nat.le_of_ble_eq_true rfl) ⟨by omega, by omega⟩ dL_law_176 (fun H locs P => ?_)
  rw [q3] at P hG2
  refine lv_istore (pc := 179) (lv' := [(6, .int _), (5, .int _), (4, .int (nI i0)), (3, .ref ob), (2, .ref m0), (1, .ref (e_ad η 0)), (0, .ref b)]) hx hb dL_law_179 hl (by decide) rfl (fun ls hl => ?_)
  refine lv_aload_n (pc := 181) hx hb dL_law_181 rfl (lv_at hl 4 rfl) ?_
  refine A_callM (pc := 182) (As := []) (rest := []) C K hl.1 P (kX7_thrown l D cI m0 as _ _) fnX7_thrown rfl gL_law_X7_thrown rfl rfl ⟨Nat.le_trans (Nat.le_of_ble_eq_true rfl) hRf, Nat.le_trans (Nat.le_of_ble_eq_true rfl) hRl⟩ (Nat.le_of_ble_eq_true rfl) ⟨by omega, by omega⟩ dL_law_182 (fun H locs P => ?_)
  refine lv_iload (pc := 185) hx hb dL_law_185 (lv_at hl 1 rfl) ?_
  refine lv_icmp_eq (pc := 187) (tgt := 192) hx hb dL_law_187 (by decide) (fun _ => ?_) (fun h => absurd q1.symm h)
  refine lv_iload (pc := 192) hx hb dL_law_192 (lv_at hl 1 rfl) ?_
  refine lv_if_ne (pc := 194) (tgt := 209) hx hb dL_law_194 (by decide) (fun _ => ?_) (fun ck => ?_)
  · refine lv_goto (pc := 209) (tgt := 1593) hx hb dL_law_209 (by decide) ?_
    exact W.widen (by omega) (by omega) (kk η2 _ _ _ H locs ls q4 hG2 h02 P (lv_sub hl [2, 3, 4, 5, 6] rfl))
  · have g0 : (g_vessel σ (xs (nI i0 + 1).toNatClampNeg) (xs (nI i0 + 2).toNatClampNeg)).1 = 0 := kc123_0 ck
    have q5 := q2 g0
    refine lv_aload_n (pc := 197) hx hb dL_law_197 rfl (lv_at hl 3 rfl) ?_
    refine lv_iconst (pc := 198) (v := 0) hx hb dL_law_198 (by decide) ?_
    refine va_lald (pc := 199) hx hb K P.1 0 2 rfl rfl vp_in01 dL_law_199 ?_
    refine lv_iload (pc := 200) hx hb dL_law_200 (lv_at hl 0 rfl) ?_
    refine lv_i2l (pc := 202) (v := (m_vessel σ (xs (nI i0 + 1).toNatClampNeg) (xs (nI i0 + 2).toNatClampNeg)).2.1.toInt64) hx hb dL_law_202 rfl ?_
    refine W.lcmp (pc := 203) hx hb dL_law_203 ?_
    refine lv_if_eq (pc := 204) (tgt := 209) hx hb dL_law_204 (by decide) (fun _ => ?_) (fun h => absurd ?_ h)
    · refine lv_goto (pc := 209) (tgt := 1593) hx hb dL_law_209 (by decide) ?_
      exact W.widen (by omega) (by omega) (kk η2 _ _ _ H locs ls q4 hG2 h02 P (lv_sub hl [2, 3, 4, 5, 6] rfl))
    · show lg_cmp ((if (g_vessel σ (xs (nI i0 + 1).toNatClampNeg) (xs (nI i0 + 2).toNatClampNeg)).1 = 0 then vp_updL lf 0 (g_vessel σ (xs (nI i0 + 1).toNatClampNeg) (xs (nI i0 + 2).toNatClampNeg)).2.1.toInt64 else lf) ((0 : Int32).toNatClampNeg)) _ = 0
      rw [if_pos g0, q5, show (0 : Int32).toNatClampNeg = 0 by decide, pk_uLs]
      exact lg_same _
set_option maxHeartbeats 4000000 in
theorem law_lose (hl9 : l.stackTraces = false) (C : Cx RL p s m args meth c cL_law 7 wsL_law ret) (V : EnvV s) (hEC : EnvC s) (K : va_K D vwCl (tyL cI cO cJ) s) (E9 : EnvH t0 A s s.heap) (hX : va_X b L xs s s.heap) (hbl : b < s.heap.size) (hbA : ¬ A b) (hL : L ≤ 3072) (hi : i0 + 6 ≤ L) (hRf : 11 ≤ R.frames) (hRl : 414 ≤ R.locals) (hz : cells + 12 ≤ R.cells ∧ slots + 500 ≤ R.slots) (hI : Inv σ) (hG : Gok t0 η σ)
    (P : Hp D A s (((ob, ArL cJ lf) :: G_W cI cO η σ) ++ M_W cI m0 as th σ) H locs) (hl : lv_has ls 7 [(4, .int (nI i0)), (3, .ref ob), (2, .ref m0), (1, .ref (e_ad η 0)), (0, .ref b)])
    (kk : ∀ (η' : Eg) (σ' : Sg) (th' : Int32) (lf' : Nat → Int64) (H : Heap) (locs : List Loc) (ls : Array Slot), Inv σ' → Gok t0 η' σ' → e_ad η' 0 = e_ad η 0 → Hp D A s (((ob, ArL cJ lf') :: G_W cI cO η' σ') ++ M_W cI m0 as th' σ') H locs → lv_has ls 7 [(4, .int (nI i0)), (3, .ref ob), (2, .ref m0), (1, .ref (e_ad η 0)), (0, .ref b)] → W p l e R s m args below meth c H locs (cells + 12) (slots + 500) Q (F0 m 1593 ls [])) : W p l e R s m args below meth c H locs cells slots Q (F0 m 544 ls []) := by
  obtain ⟨w0, w1, w2, w3, w4, w5⟩ := vpj hL hi
  have hx := C.1
  have hb := C.2.1
  have hml := C.2.2.1
  have hown := C.2.2.2.1
  by_cases lz : xs (nI i0 + 3).toNatClampNeg = 0
  · obtain ⟨⟨q1, q2, q3⟩, q4⟩ := r_lose hI (xs (nI i0 + 1).toNatClampNeg) (xs (nI i0 + 2).toNatClampNeg) 0
    refine lv_aload_n (pc := 544) hx hb dL_law_544 rfl (lv_at hl 3 rfl) ?_
    refine lv_aload_n (pc := 545) hx hb dL_law_545 rfl (lv_at hl 4 rfl) ?_
    refine lv_iload (pc := 546) hx hb dL_law_546 (lv_at hl 0 rfl) ?_
    refine lv_iconst (pc := 548) (v := 1) hx hb dL_law_548 (by decide) ?_
    refine lv_iadd (pc := 549) hx hb dL_law_549 ?_
    refine va_sld (pc := 550) hx hb hX hbl hbA P.2.2.1 w1 dL_law_550 ?_
    refine lv_aload_n (pc := 551) hx hb dL_law_551 rfl (lv_at hl 4 rfl) ?_
    refine lv_iload (pc := 552) hx hb dL_law_552 (lv_at hl 0 rfl) ?_
    refine lv_iconst (pc := 554) (v := 2) hx hb dL_law_554 (by decide) ?_
    refine lv_iadd (pc := 555) hx hb dL_law_555 ?_
    refine va_sld (pc := 556) hx hb hX hbl hbA P.2.2.1 w2 dL_law_556 ?_
    refine lv_aload_n (pc := 557) hx hb dL_law_557 rfl (lv_at hl 4 rfl) ?_
    refine lv_iload (pc := 558) hx hb dL_law_558 (lv_at hl 0 rfl) ?_
    refine lv_iconst (pc := 560) (v := 3) hx hb dL_law_560 (by decide) ?_
    refine lv_iadd (pc := 561) hx hb dL_law_561 ?_
    refine va_sld (pc := 562) hx hb hX hbl hbA P.2.2.1 w3 dL_law_562 ?_
    refine lv_if_eq (pc := 563) (tgt := 570) hx hb dL_law_563 (by decide) (fun h => ?_) (fun h => absurd lz h)
    refine lv_iconst (pc := 570) (v := 0) hx hb dL_law_570 (by decide) ?_
    refine lv_aload_n (pc := 571) hx hb dL_law_571 rfl (lv_at hl 1 rfl) ?_
    refine A_callW (pc := 572) (As := [.ref (e_ad η 0), .int (xs (nI i0 + 1).toNatClampNeg), .int (xs (nI i0 + 2).toNatClampNeg), .int (0), .ref ob]) (rest := []) C V hEC K E9 hl.1 P (kL_lose l hl9 D cI cO cJ t0 η σ ob lf (xs (nI i0 + 1).toNatClampNeg) (xs (nI i0 + 2).toNatClampNeg) 0 hG (fun _ => gk_lose hG (xs (nI i0 + 1).toNatClampNeg) (xs (nI i0 + 2).toNatClampNeg) 0)) fnL_lose gL_law_L_lose rfl rfl ⟨Nat.le_trans (Nat.le_of_ble_eq_true rfl) hRf, Nat.le_trans (Nat.le_of_ble_eq_true rfl) hRl⟩ (Nat.le_of_ble_eq_true rfl) ⟨by omega, by omega⟩ dL_law_572 (fun η2 H locs P hG2 h02 => ?_)
    refine lv_istore (pc := 575) (lv' := [(5, .int _), (4, .int (nI i0)), (3, .ref ob), (2, .ref m0), (1, .ref (e_ad η 0)), (0, .ref b)]) hx hb dL_law_575 hl (by decide) rfl (fun ls hl => ?_)
    refine lv_aload_n (pc := 577) hx hb dL_law_577 rfl (lv_at hl 3 rfl) ?_
    refine lv_aload_n (pc := 578) hx hb dL_law_578 rfl (lv_at hl 5 rfl) ?_
    refine lv_iload (pc := 579) hx hb dL_law_579 (lv_at hl 1 rfl) ?_
    refine lv_iconst (pc := 581) (v := 1) hx hb dL_law_581 (by decide) ?_
    refine lv_iadd (pc := 582) hx hb dL_law_582 ?_
    refine va_sld (pc := 583) hx hb hX hbl hbA P.2.2.1 w1 dL_law_583 ?_
    refine lv_aload_n (pc := 584) hx hb dL_law_584 rfl (lv_at hl 5 rfl) ?_
    refine lv_iload (pc := 585) hx hb dL_law_585 (lv_at hl 1 rfl) ?_
    refine lv_iconst (pc := 587) (v := 2) hx hb dL_law_587 (by decide) ?_
    refine lv_iadd (pc := 588) hx hb dL_law_588 ?_
    refine va_sld (pc := 589) hx hb hX hbl hbA P.2.2.1 w2 dL_law_589 ?_
    refine lv_aload_n (pc := 590) hx hb dL_law_590 rfl (lv_at hl 5 rfl) ?_
    refine lv_iload (pc := 591) hx hb dL_law_591 (lv_at hl 1 rfl) ?_
    refine lv_iconst (pc := 593) (v := 3) hx hb dL_law_593 (by decide) ?_
    refine lv_iadd (pc := 594) hx hb dL_law_594 ?_
    refine va_sld (pc := 595) hx hb hX hbl hbA P.2.2.1 w3 dL_law_595 ?_
    refine lv_if_eq (pc := 596) (tgt := 603) hx hb dL_law_596 (by decide) (fun h => ?_) (fun h => absurd lz h)
    refine lv_iconst (pc := 603) (v := 0) hx hb dL_law_603 (by decide) ?_
    refine A_callM (pc := 604) (As := [.int (xs (nI i0 + 1).toNatClampNeg), .int (xs (nI i0 + 2).toNatClampNeg), .int (0)]) (rest := []) C K hl.1 P (kX7_lose l D cI m0 as th σ (xs (nI i0 + 1).toNatClampNeg) (xs (nI i0 + 2).toNatClampNeg) 0 hI.1.1) fnX7_lose rfl gL_law_X7_lose rfl rfl ⟨Nat.le_trans (Nat.le_of_ble_eq_true rfl) hRf, Nat.le_trans (Nat.le_of_ble_eq_true rfl) hRl⟩ (Nat.le_of_ble_eq_true rfl) ⟨by omega, by omega⟩ dL_law_604 (fun H locs P => ?_)
    rw [q3] at P hG2
    refine lv_istore (pc := 607) (lv' := [(6, .int _), (5, .int _), (4, .int (nI i0)), (3, .ref ob), (2, .ref m0), (1, .ref (e_ad η 0)), (0, .ref b)]) hx hb dL_law_607 hl (by decide) rfl (fun ls hl => ?_)
    refine lv_aload_n (pc := 609) hx hb dL_law_609 rfl (lv_at hl 4 rfl) ?_
    refine A_callM (pc := 610) (As := []) (rest := []) C K hl.1 P (kX7_thrown l D cI m0 as _ _) fnX7_thrown rfl gL_law_X7_thrown rfl rfl ⟨Nat.le_trans (Nat.le_of_ble_eq_true rfl) hRf, Nat.le_trans (Nat.le_of_ble_eq_true rfl) hRl⟩ (Nat.le_of_ble_eq_true rfl) ⟨by omega, by omega⟩ dL_law_610 (fun H locs P => ?_)
    refine lv_iload (pc := 613) hx hb dL_law_613 (lv_at hl 1 rfl) ?_
    refine lv_icmp_eq (pc := 615) (tgt := 620) hx hb dL_law_615 (by decide) (fun _ => ?_) (fun h => absurd q1.symm h)
    refine lv_iload (pc := 620) hx hb dL_law_620 (lv_at hl 1 rfl) ?_
    refine lv_if_ne (pc := 622) (tgt := 637) hx hb dL_law_622 (by decide) (fun _ => ?_) (fun ck => ?_)
    · refine lv_goto (pc := 637) (tgt := 1593) hx hb dL_law_637 (by decide) ?_
      exact W.widen (by omega) (by omega) (kk η2 _ _ _ H locs ls q4 hG2 h02 P (lv_sub hl [2, 3, 4, 5, 6] rfl))
    · have g0 : (g_lose σ (xs (nI i0 + 1).toNatClampNeg) (xs (nI i0 + 2).toNatClampNeg) 0).1 = 0 := kc123_0 ck
      have q5 := q2 g0
      refine lv_aload_n (pc := 625) hx hb dL_law_625 rfl (lv_at hl 3 rfl) ?_
      refine lv_iconst (pc := 626) (v := 0) hx hb dL_law_626 (by decide) ?_
      refine va_lald (pc := 627) hx hb K P.1 0 2 rfl rfl vp_in01 dL_law_627 ?_
      refine lv_iload (pc := 628) hx hb dL_law_628 (lv_at hl 0 rfl) ?_
      refine lv_i2l (pc := 630) (v := (m_lose σ (xs (nI i0 + 1).toNatClampNeg) (xs (nI i0 + 2).toNatClampNeg) 0).2.1.toInt64) hx hb dL_law_630 rfl ?_
      refine W.lcmp (pc := 631) hx hb dL_law_631 ?_
      refine lv_if_eq (pc := 632) (tgt := 637) hx hb dL_law_632 (by decide) (fun _ => ?_) (fun h => absurd ?_ h)
      · refine lv_goto (pc := 637) (tgt := 1593) hx hb dL_law_637 (by decide) ?_
        exact W.widen (by omega) (by omega) (kk η2 _ _ _ H locs ls q4 hG2 h02 P (lv_sub hl [2, 3, 4, 5, 6] rfl))
      · show lg_cmp ((if (g_lose σ (xs (nI i0 + 1).toNatClampNeg) (xs (nI i0 + 2).toNatClampNeg) 0).1 = 0 then vp_updL lf 0 (g_lose σ (xs (nI i0 + 1).toNatClampNeg) (xs (nI i0 + 2).toNatClampNeg) 0).2.1.toInt64 else lf) ((0 : Int32).toNatClampNeg)) _ = 0
        rw [if_pos g0, q5, show (0 : Int32).toNatClampNeg = 0 by decide, pk_uLs]
        exact lg_same _
  · obtain ⟨⟨q1, q2, q3⟩, q4⟩ := r_lose hI (xs (nI i0 + 1).toNatClampNeg) (xs (nI i0 + 2).toNatClampNeg) 1
    refine lv_aload_n (pc := 544) hx hb dL_law_544 rfl (lv_at hl 3 rfl) ?_
    refine lv_aload_n (pc := 545) hx hb dL_law_545 rfl (lv_at hl 4 rfl) ?_
    refine lv_iload (pc := 546) hx hb dL_law_546 (lv_at hl 0 rfl) ?_
    refine lv_iconst (pc := 548) (v := 1) hx hb dL_law_548 (by decide) ?_
    refine lv_iadd (pc := 549) hx hb dL_law_549 ?_
    refine va_sld (pc := 550) hx hb hX hbl hbA P.2.2.1 w1 dL_law_550 ?_
    refine lv_aload_n (pc := 551) hx hb dL_law_551 rfl (lv_at hl 4 rfl) ?_
    refine lv_iload (pc := 552) hx hb dL_law_552 (lv_at hl 0 rfl) ?_
    refine lv_iconst (pc := 554) (v := 2) hx hb dL_law_554 (by decide) ?_
    refine lv_iadd (pc := 555) hx hb dL_law_555 ?_
    refine va_sld (pc := 556) hx hb hX hbl hbA P.2.2.1 w2 dL_law_556 ?_
    refine lv_aload_n (pc := 557) hx hb dL_law_557 rfl (lv_at hl 4 rfl) ?_
    refine lv_iload (pc := 558) hx hb dL_law_558 (lv_at hl 0 rfl) ?_
    refine lv_iconst (pc := 560) (v := 3) hx hb dL_law_560 (by decide) ?_
    refine lv_iadd (pc := 561) hx hb dL_law_561 ?_
    refine va_sld (pc := 562) hx hb hX hbl hbA P.2.2.1 w3 dL_law_562 ?_
    refine lv_if_eq (pc := 563) (tgt := 570) hx hb dL_law_563 (by decide) (fun h => absurd h lz) (fun h => ?_)
    refine lv_iconst (pc := 566) (v := 1) hx hb dL_law_566 (by decide) ?_
    refine lv_goto (pc := 567) (tgt := 571) hx hb dL_law_567 (by decide) ?_
    refine lv_aload_n (pc := 571) hx hb dL_law_571 rfl (lv_at hl 1 rfl) ?_
    refine A_callW (pc := 572) (As := [.ref (e_ad η 0), .int (xs (nI i0 + 1).toNatClampNeg), .int (xs (nI i0 + 2).toNatClampNeg), .int (1), .ref ob]) (rest := []) C V hEC K E9 hl.1 P (kL_lose l hl9 D cI cO cJ t0 η σ ob lf (xs (nI i0 + 1).toNatClampNeg) (xs (nI i0 + 2).toNatClampNeg) 1 hG (fun _ => gk_lose hG (xs (nI i0 + 1).toNatClampNeg) (xs (nI i0 + 2).toNatClampNeg) 1)) fnL_lose gL_law_L_lose rfl rfl ⟨Nat.le_trans (Nat.le_of_ble_eq_true rfl) hRf, Nat.le_trans (Nat.le_of_ble_eq_true rfl) hRl⟩ (Nat.le_of_ble_eq_true rfl) ⟨by omega, by omega⟩ dL_law_572 (fun η2 H locs P hG2 h02 => ?_)
    refine lv_istore (pc := 575) (lv' := [(5, .int _), (4, .int (nI i0)), (3, .ref ob), (2, .ref m0), (1, .ref (e_ad η 0)), (0, .ref b)]) hx hb dL_law_575 hl (by decide) rfl (fun ls hl => ?_)
    refine lv_aload_n (pc := 577) hx hb dL_law_577 rfl (lv_at hl 3 rfl) ?_
    refine lv_aload_n (pc := 578) hx hb dL_law_578 rfl (lv_at hl 5 rfl) ?_
    refine lv_iload (pc := 579) hx hb dL_law_579 (lv_at hl 1 rfl) ?_
    refine lv_iconst (pc := 581) (v := 1) hx hb dL_law_581 (by decide) ?_
    refine lv_iadd (pc := 582) hx hb dL_law_582 ?_
    refine va_sld (pc := 583) hx hb hX hbl hbA P.2.2.1 w1 dL_law_583 ?_
    refine lv_aload_n (pc := 584) hx hb dL_law_584 rfl (lv_at hl 5 rfl) ?_
    refine lv_iload (pc := 585) hx hb dL_law_585 (lv_at hl 1 rfl) ?_
    refine lv_iconst (pc := 587) (v := 2) hx hb dL_law_587 (by decide) ?_
    refine lv_iadd (pc := 588) hx hb dL_law_588 ?_
    refine va_sld (pc := 589) hx hb hX hbl hbA P.2.2.1 w2 dL_law_589 ?_
    refine lv_aload_n (pc := 590) hx hb dL_law_590 rfl (lv_at hl 5 rfl) ?_
    refine lv_iload (pc := 591) hx hb dL_law_591 (lv_at hl 1 rfl) ?_
    refine lv_iconst (pc := 593) (v := 3) hx hb dL_law_593 (by decide) ?_
    refine lv_iadd (pc := 594) hx hb dL_law_594 ?_
    refine va_sld (pc := 595) hx hb hX hbl hbA P.2.2.1 w3 dL_law_595 ?_
    refine lv_if_eq (pc := 596) (tgt := 603) hx hb dL_law_596 (by decide) (fun h => absurd h lz) (fun h => ?_)
    refine lv_iconst (pc := 599) (v := 1) hx hb dL_law_599 (by decide) ?_
    refine lv_goto (pc := 600) (tgt := 604) hx hb dL_law_600 (by decide) ?_
    refine A_callM (pc := 604) (As := [.int (xs (nI i0 + 1).toNatClampNeg), .int (xs (nI i0 + 2).toNatClampNeg), .int (1)]) (rest := []) C K hl.1 P (kX7_lose l D cI m0 as th σ (xs (nI i0 + 1).toNatClampNeg) (xs (nI i0 + 2).toNatClampNeg) 1 hI.1.1) fnX7_lose rfl gL_law_X7_lose rfl rfl ⟨Nat.le_trans (Nat.le_of_ble_eq_true rfl) hRf, Nat.le_trans (Nat.le_of_ble_eq_true rfl) hRl⟩ (Nat.le_of_ble_eq_true rfl) ⟨by omega, by omega⟩ dL_law_604 (fun H locs P => ?_)
    rw [q3] at P hG2
    refine lv_istore (pc := 607) (lv' := [(6, .int _), (5, .int _), (4, .int (nI i0)), (3, .ref ob), (2, .ref m0), (1, .ref (e_ad η 0)), (0, .ref b)]) hx hb dL_law_607 hl (by decide) rfl (fun ls hl => ?_)
    refine lv_aload_n (pc := 609) hx hb dL_law_609 rfl (lv_at hl 4 rfl) ?_
    refine A_callM (pc := 610) (As := []) (rest := []) C K hl.1 P (kX7_thrown l D cI m0 as _ _) fnX7_thrown rfl gL_law_X7_thrown rfl rfl ⟨Nat.le_trans (Nat.le_of_ble_eq_true rfl) hRf, Nat.le_trans (Nat.le_of_ble_eq_true rfl) hRl⟩ (Nat.le_of_ble_eq_true rfl) ⟨by omega, by omega⟩ dL_law_610 (fun H locs P => ?_)
    refine lv_iload (pc := 613) hx hb dL_law_613 (lv_at hl 1 rfl) ?_
    refine lv_icmp_eq (pc := 615) (tgt := 620) hx hb dL_law_615 (by decide) (fun _ => ?_) (fun h => absurd q1.symm h)
    refine lv_iload (pc := 620) hx hb dL_law_620 (lv_at hl 1 rfl) ?_
    refine lv_if_ne (pc := 622) (tgt := 637) hx hb dL_law_622 (by decide) (fun _ => ?_) (fun ck => ?_)
    · refine lv_goto (pc := 637) (tgt := 1593) hx hb dL_law_637 (by decide) ?_
      exact W.widen (by omega) (by omega) (kk η2 _ _ _ H locs ls q4 hG2 h02 P (lv_sub hl [2, 3, 4, 5, 6] rfl))
    · have g0 : (g_lose σ (xs (nI i0 + 1).toNatClampNeg) (xs (nI i0 + 2).toNatClampNeg) 1).1 = 0 := kc123_0 ck
      have q5 := q2 g0
      refine lv_aload_n (pc := 625) hx hb dL_law_625 rfl (lv_at hl 3 rfl) ?_
      refine lv_iconst (pc := 626) (v := 0) hx hb dL_law_626 (by decide) ?_
      refine va_lald (pc := 627) hx hb K P.1 0 2 rfl rfl vp_in01 dL_law_627 ?_
      refine lv_iload (pc := 628) hx hb dL_law_628 (lv_at hl 0 rfl) ?_
      refine lv_i2l (pc := 630) (v := (m_lose σ (xs (nI i0 + 1).toNatClampNeg) (xs (nI i0 + 2).toNatClampNeg) 1).2.1.toInt64) hx hb dL_law_630 rfl ?_
      refine W.lcmp (pc := 631) hx hb dL_law_631 ?_
      refine lv_if_eq (pc := 632) (tgt := 637) hx hb dL_law_632 (by decide) (fun _ => ?_) (fun h => absurd ?_ h)
      · refine lv_goto (pc := 637) (tgt := 1593) hx hb dL_law_637 (by decide) ?_
        exact W.widen (by omega) (by omega) (kk η2 _ _ _ H locs ls q4 hG2 h02 P (lv_sub hl [2, 3, 4, 5, 6] rfl))
      · show lg_cmp ((if (g_lose σ (xs (nI i0 + 1).toNatClampNeg) (xs (nI i0 + 2).toNatClampNeg) 1).1 = 0 then vp_updL lf 0 (g_lose σ (xs (nI i0 + 1).toNatClampNeg) (xs (nI i0 + 2).toNatClampNeg) 1).2.1.toInt64 else lf) ((0 : Int32).toNatClampNeg)) _ = 0
        rw [if_pos g0, q5, show (0 : Int32).toNatClampNeg = 0 by decide, pk_uLs]
        exact lg_same _
set_option maxHeartbeats 4000000 in
theorem law_budget (hl9 : l.stackTraces = false) (C : Cx RL p s m args meth c cL_law 7 wsL_law ret) (V : EnvV s) (hEC : EnvC s) (K : va_K D vwCl (tyL cI cO cJ) s) (E9 : EnvH t0 A s s.heap) (hX : va_X b L xs s s.heap) (hbl : b < s.heap.size) (hbA : ¬ A b) (hL : L ≤ 3072) (hi : i0 + 6 ≤ L) (hRf : 11 ≤ R.frames) (hRl : 414 ≤ R.locals) (hz : cells + 12 ≤ R.cells ∧ slots + 500 ≤ R.slots) (hI : Inv σ) (hG : Gok t0 η σ)
    (P : Hp D A s (((ob, ArL cJ lf) :: G_W cI cO η σ) ++ M_W cI m0 as th σ) H locs) (hl : lv_has ls 7 [(4, .int (nI i0)), (3, .ref ob), (2, .ref m0), (1, .ref (e_ad η 0)), (0, .ref b)])
    (kk : ∀ (η' : Eg) (σ' : Sg) (th' : Int32) (lf' : Nat → Int64) (H : Heap) (locs : List Loc) (ls : Array Slot), Inv σ' → Gok t0 η' σ' → e_ad η' 0 = e_ad η 0 → Hp D A s (((ob, ArL cJ lf') :: G_W cI cO η' σ') ++ M_W cI m0 as th' σ') H locs → lv_has ls 7 [(4, .int (nI i0)), (3, .ref ob), (2, .ref m0), (1, .ref (e_ad η 0)), (0, .ref b)] → W p l e R s m args below meth c H locs (cells + 12) (slots + 500) Q (F0 m 1593 ls [])) : W p l e R s m args below meth c H locs cells slots Q (F0 m 944 ls []) := by
  obtain ⟨w0, w1, w2, w3, w4, w5⟩ := vpj hL hi
  have hx := C.1
  have hb := C.2.1
  have hml := C.2.2.1
  have hown := C.2.2.2.1
  obtain ⟨⟨q1, q2, q3⟩, q4⟩ := r_budget hI (xs (nI i0 + 1).toNatClampNeg) (xs (nI i0 + 2).toNatClampNeg) (xs (nI i0 + 3).toNatClampNeg)
  refine lv_aload_n (pc := 944) hx hb dL_law_944 rfl (lv_at hl 3 rfl) ?_
  refine lv_aload_n (pc := 945) hx hb dL_law_945 rfl (lv_at hl 4 rfl) ?_
  refine lv_iload (pc := 946) hx hb dL_law_946 (lv_at hl 0 rfl) ?_
  refine lv_iconst (pc := 948) (v := 1) hx hb dL_law_948 (by decide) ?_
  refine lv_iadd (pc := 949) hx hb dL_law_949 ?_
  refine va_sld (pc := 950) hx hb hX hbl hbA P.2.2.1 w1 dL_law_950 ?_
  refine lv_aload_n (pc := 951) hx hb dL_law_951 rfl (lv_at hl 4 rfl) ?_
  refine lv_iload (pc := 952) hx hb dL_law_952 (lv_at hl 0 rfl) ?_
  refine lv_iconst (pc := 954) (v := 2) hx hb dL_law_954 (by decide) ?_
  refine lv_iadd (pc := 955) hx hb dL_law_955 ?_
  refine va_sld (pc := 956) hx hb hX hbl hbA P.2.2.1 w2 dL_law_956 ?_
  refine lv_aload_n (pc := 957) hx hb dL_law_957 rfl (lv_at hl 4 rfl) ?_
  refine lv_iload (pc := 958) hx hb dL_law_958 (lv_at hl 0 rfl) ?_
  refine lv_iconst (pc := 960) (v := 3) hx hb dL_law_960 (by decide) ?_
  refine lv_iadd (pc := 961) hx hb dL_law_961 ?_
  refine va_sld (pc := 962) hx hb hX hbl hbA P.2.2.1 w3 dL_law_962 ?_
  refine A_callW (pc := 963) (As := [.ref (e_ad η 0), .int (xs (nI i0 + 1).toNatClampNeg), .int (xs (nI i0 + 2).toNatClampNeg), .int (xs (nI i0 + 3).toNatClampNeg)]) (rest := []) C V hEC K E9 hl.1 P (kL_budget l hl9 D cI cO cJ t0 η σ ob lf (xs (nI i0 + 1).toNatClampNeg) (xs (nI i0 + 2).toNatClampNeg) (xs (nI i0 + 3).toNatClampNeg) hG (by rw [le_i, ti0]; exact hI.2.2.2.2.2.2.1.1)) fnL_budget gL_law_L_budget rfl rfl ⟨Nat.le_trans (Nat.le_of_ble_eq_true rfl) hRf, Nat.le_trans (Nat.le_of_ble_eq_true rfl) hRl⟩ (Nat.le_of_ble_eq_true rfl) ⟨by omega, by omega⟩ dL_law_963 (fun η2 H locs P hG2 h02 => ?_)
  refine lv_istore (pc := 966) (lv' := [(5, .int _), (4, .int (nI i0)), (3, .ref ob), (2, .ref m0), (1, .ref (e_ad η 0)), (0, .ref b)]) hx hb dL_law_966 hl (by decide) rfl (fun ls hl => ?_)
  refine lv_aload_n (pc := 968) hx hb dL_law_968 rfl (lv_at hl 3 rfl) ?_
  refine lv_aload_n (pc := 969) hx hb dL_law_969 rfl (lv_at hl 5 rfl) ?_
  refine lv_iload (pc := 970) hx hb dL_law_970 (lv_at hl 1 rfl) ?_
  refine lv_iconst (pc := 972) (v := 1) hx hb dL_law_972 (by decide) ?_
  refine lv_iadd (pc := 973) hx hb dL_law_973 ?_
  refine va_sld (pc := 974) hx hb hX hbl hbA P.2.2.1 w1 dL_law_974 ?_
  refine lv_aload_n (pc := 975) hx hb dL_law_975 rfl (lv_at hl 5 rfl) ?_
  refine lv_iload (pc := 976) hx hb dL_law_976 (lv_at hl 1 rfl) ?_
  refine lv_iconst (pc := 978) (v := 2) hx hb dL_law_978 (by decide) ?_
  refine lv_iadd (pc := 979) hx hb dL_law_979 ?_
  refine va_sld (pc := 980) hx hb hX hbl hbA P.2.2.1 w2 dL_law_980 ?_
  refine lv_aload_n (pc := 981) hx hb dL_law_981 rfl (lv_at hl 5 rfl) ?_
  refine lv_iload (pc := 982) hx hb dL_law_982 (lv_at hl 1 rfl) ?_
  refine lv_iconst (pc := 984) (v := 3) hx hb dL_law_984 (by decide) ?_
  refine lv_iadd (pc := 985) hx hb dL_law_985 ?_
  refine va_sld (pc := 986) hx hb hX hbl hbA P.2.2.1 w3 dL_law_986 ?_
  refine A_callMv (pc := 987) (As := [.int (xs (nI i0 + 1).toNatClampNeg), .int (xs (nI i0 + 2).toNatClampNeg), .int (xs (nI i0 + 3).toNatClampNeg)]) (rest := []) C K hl.1 P (kX7_budget l D cI m0 as th σ (xs (nI i0 + 1).toNatClampNeg) (xs (nI i0 + 2).toNatClampNeg) (xs (nI i0 + 3).toNatClampNeg) ) fnX7_budget rfl gL_law_X7_budget rfl rfl ⟨Nat.le_trans (Nat.le_of_ble_eq_true rfl) hRf, Nat.le_trans (Nat.le_of_ble_eq_true rfl) hRl⟩ (Nat.le_of_ble_eq_true rfl) ⟨by omega, by omega⟩ dL_law_987 (fun H locs P => ?_)
  rw [q3] at P hG2
  refine lv_aload_n (pc := 990) hx hb dL_law_990 rfl (lv_at hl 3 rfl) ?_
  refine A_callM (pc := 991) (As := []) (rest := []) C K hl.1 P (kX7_thrown l D cI m0 as _ _) fnX7_thrown rfl gL_law_X7_thrown rfl rfl ⟨Nat.le_trans (Nat.le_of_ble_eq_true rfl) hRf, Nat.le_trans (Nat.le_of_ble_eq_true rfl) hRl⟩ (Nat.le_of_ble_eq_true rfl) ⟨by omega, by omega⟩ dL_law_991 (fun H locs P => ?_)
  refine lv_iload (pc := 994) hx hb dL_law_994 (lv_at hl 0 rfl) ?_
  refine lv_icmp_eq (pc := 996) (tgt := 1001) hx hb dL_law_996 (by decide) (fun _ => ?_) (fun h => absurd q1.symm h)
  refine lv_goto (pc := 1001) (tgt := 1593) hx hb dL_law_1001 (by decide) ?_
  exact W.widen (by omega) (by omega) (kk η2 _ _ _ H locs ls q4 hG2 h02 P (lv_sub hl [1, 2, 3, 4, 5] rfl))
end LC
