/-! ===== the law's calls, one by one ===== -/
theorem lg_same (x : Int64) : lg_cmp x x = 0 := by simp [lg_cmp]
theorem nI_add2 (a : Nat) : nI a + 2 = nI (a + 2) ∧ nI a + 3 = nI (a + 3) ∧ nI a + 4 = nI (a + 4) ∧ nI a + 5 = nI (a + 5) ∧ nI a + 6 = nI (a + 6) := by
  refine ⟨?_, ?_, ?_, ?_, ?_⟩ <;> exact (Int32.ofNat_add _ _).symm
theorem vpj {i0 L : Nat} (hL : L ≤ 3072) (h : i0 + 6 ≤ L) : vp_in (nI i0) L ∧ vp_in (nI i0 + 1) L ∧ vp_in (nI i0 + 2) L ∧ vp_in (nI i0 + 3) L ∧ vp_in (nI i0 + 4) L ∧ vp_in (nI i0 + 5) L := by
  obtain ⟨e2, e3, e4, e5, -⟩ := nI_add2 i0
  rw [← nI_succ, e2, e3, e4, e5]
  exact ⟨vp_in_nI (by omega) (by omega), vp_in_nI (by omega) (by omega), vp_in_nI (by omega) (by omega), vp_in_nI (by omega) (by omega), vp_in_nI (by omega) (by omega), vp_in_nI (by omega) (by omega)⟩
theorem kc123_0 {x : Int32} (h : kc123 x = 0) : x = 0 := by
  unfold kc123 at h
  split at h
  · assumption
  · repeat' split at h
    all_goals exact absurd h (by decide)
theorem kc12_0 {x : Int32} (h : kc12 x = 0) : x = 0 := by
  unfold kc12 at h
  split at h
  · assumption
  · repeat' split at h
    all_goals exact absurd h (by decide)
theorem kc23_0 {x : Int32} (h : kc23 x = 0) : x = 0 := by
  unfold kc23 at h
  split at h
  · assumption
  · repeat' split at h
    all_goals exact absurd h (by decide)
theorem kc1_0 {x : Int32} (h : kc1 x = 0) : x = 0 := by
  unfold kc1 at h
  split at h
  · assumption
  · exact absurd h (by decide)
section LC
variable {p : Program} {l : Launch} {e : Env} {R : Room} {s : State} {m : MethodId} {args : Array Value} {below : List Frame} {meth : Method} {c : Code} {H : Heap} {locs : List Loc} {cells slots : Nat} {Q : State → Prop} {ls : Array Slot} {D : va_G} {A : Nat → Prop} {ret : Option FieldType} {cI cO cJ : ClassId} {t0 : Nat} {η : Eg} {σ : Sg} {b L i0 ob m0 : Nat} {xs : Nat → Int32} {as : Nat → Nat} {th : Int32} {lf : Nat → Int64}
set_option maxHeartbeats 4000000 in
theorem law_vessel (hl9 : l.stackTraces = false) (C : Cx RL p s m args meth c cL_law 7 wsL_law ret) (V : EnvV s) (hEC : EnvC s) (K : va_K D vwCl (tyL cI cO cJ) s) (E9 : EnvH t0 A s s.heap) (hX : va_X b L xs s s.heap) (hbl : b < s.heap.size) (hbA : ¬ A b) (hL : L ≤ 3072) (hi : i0 + 6 ≤ L) (hRf : 11 ≤ R.frames) (hRl : 414 ≤ R.locals) (hz : cells + 12 ≤ R.cells ∧ slots + 500 ≤ R.slots) (hI : Inv σ) (hG : Gok t0 η σ)
    (P : Hp D A s (((ob, ArL cJ lf) :: G_W cI cO η σ) ++ M_W cI m0 as th σ) H locs) (hl : lv_has ls 7 [(4, .int (nI i0)), (3, .ref ob), (2, .ref m0), (1, .ref (e_ad η 0)), (0, .ref b)])
    (kk : ∀ (η' : Eg) (σ' : Sg) (th' : Int32) (lf' : Nat → Int64) (H : Heap) (locs : List Loc) (ls : Array Slot), Inv σ' → Gok t0 η' σ' → e_ad η' 0 = e_ad η 0 → Hp D A s (((ob, ArL cJ lf') :: G_W cI cO η' σ') ++ M_W cI m0 as th' σ') H locs → lv_has ls 7 [(4, .int (nI i0)), (3, .ref ob), (2, .ref m0), (1, .ref (e_ad η 0)), (0, .ref b)] → W p l e R s m args below meth c H locs (cells + 12) (slots + 500) Q (F0 m 1593 ls [])) : W p l e R s m args below meth c H locs cells slots Q (F0 m 144 ls []) := by
  obtain ⟨w0, w1, w2, w3, w4, w5⟩ := vpj hL hi
  have hx := C.1
  have hb := C.2.1
  have hml := C.2.2.1
  have hown := C.2.2.2.1
  obtain ⟨⟨q1, q2, q3⟩, q4⟩ := r_vessel hI (xs (nI i0 + 1).toNatClampNeg) (xs (nI i0 + 2).toNatClampNeg)
  refine lv_aload_n (pc := 144) hx hb dL_law_144 rfl (lv_at hl 3 rfl) ?_
  refine lv_aload_n (pc := 145) hx hb dL_law_145 rfl (lv_at hl 4 rfl) ?_
  refine lv_iload (pc := 146) hx hb dL_law_146 (lv_at hl 0 rfl) ?_
  refine lv_iconst (pc := 148) (v := 1) hx hb dL_law_148 (by decide) ?_
  refine lv_iadd (pc := 149) hx hb dL_law_149 ?_
  refine va_sld (pc := 150) hx hb hX hbl hbA P.2.2.1 w1 dL_law_150 ?_
  refine lv_aload_n (pc := 151) hx hb dL_law_151 rfl (lv_at hl 4 rfl) ?_
  refine lv_iload (pc := 152) hx hb dL_law_152 (lv_at hl 0 rfl) ?_
  refine lv_iconst (pc := 154) (v := 2) hx hb dL_law_154 (by decide) ?_
  refine lv_iadd (pc := 155) hx hb dL_law_155 ?_
  refine va_sld (pc := 156) hx hb hX hbl hbA P.2.2.1 w2 dL_law_156 ?_
  refine lv_aload_n (pc := 157) hx hb dL_law_157 rfl (lv_at hl 1 rfl) ?_
  refine A_callW (pc := 158) (As := [.ref (e_ad η 0), .int (xs (nI i0 + 1).toNatClampNeg), .int (xs (nI i0 + 2).toNatClampNeg), .ref ob]) (rest := []) C V hEC K E9 hl.1 P (kL_vessel l hl9 D cI cO cJ t0 η σ ob lf (xs (nI i0 + 1).toNatClampNeg) (xs (nI i0 + 2).toNatClampNeg) hG) fnL_vessel gL_law_L_vessel rfl rfl ⟨Nat.le_trans (Nat.le_of_ble_eq_true rfl) hRf, Nat.le_trans (Nat.le_of_ble_eq_true rfl) hRl⟩ (Nat.le_of_ble_eq_true rfl) ⟨by omega, by omega⟩ dL_law_158 (fun η2 H locs P hG2 h02 => ?_)
  refine lv_istore (pc := 161) (lv' := [(5, .int _), (4, .int (nI i0)), (3, .ref ob), (2, .ref m0), (1, .ref (e_ad η 0)), (0, .ref b)]) hx hb dL_law_161 hl (by decide) rfl (fun ls hl => ?_)
  refine lv_aload_n (pc := 163) hx hb dL_law_163 rfl (lv_at hl 3 rfl) ?_
  refine lv_aload_n (pc := 164) hx hb dL_law_164 rfl (lv_at hl 5 rfl) ?_
  refine lv_iload (pc := 165) hx hb dL_law_165 (lv_at hl 1 rfl) ?_
  refine lv_iconst (pc := 167) (v := 1) hx hb dL_law_167 (by decide) ?_
  refine lv_iadd (pc := 168) hx hb dL_law_168 ?_
  refine va_sld (pc := 169) hx hb hX hbl hbA P.2.2.1 w1 dL_law_169 ?_
  refine lv_aload_n (pc := 170) hx hb dL_law_170 rfl (lv_at hl 5 rfl) ?_
  refine lv_iload (pc := 171) hx hb dL_law_171 (lv_at hl 1 rfl) ?_
  refine lv_iconst (pc := 173) (v := 2) hx hb dL_law_173 (by decide) ?_
  refine lv_iadd (pc := 174) hx hb dL_law_174 ?_
  refine va_sld (pc := 175) hx hb hX hbl hbA P.2.2.1 w2 dL_law_175 ?_
  refine A_callM (pc := 176) (As := [.int (xs (nI i0 + 1).toNatClampNeg), .int (xs (nI i0 + 2).toNatClampNeg)]) (rest := []) C K hl.1 P (kX7_vessel l D cI m0 as th σ (xs (nI i0 + 1).toNatClampNeg) (xs (nI i0 + 2).toNatClampNeg) hI.1.1) fnX7_vessel rfl gL_law_X7_vessel rfl rfl ⟨Nat.le_trans (Nat.le_of_ble_eq_true rfl) hRf, Nat.le_trans (Nat.le_of_ble_eq_true rfl) hRl⟩ (Nat.le_of_ble_eq_true rfl) ⟨by omega, by omega⟩ dL_law_176 (fun H locs P => ?_)
  rw [q3] at P hG2
  refine lv_istore (pc := 179) (lv' := [(6, .int _), (5, .int _), (4, .int (nI i0)), (3, .ref ob), (2, .ref m0), (1, .ref (e_ad η 0)), (0, .ref b)]) hx hb dL_law_179 hl (by decide) rfl (fun ls hl => ?_)
  refine lv_aload_n (pc := 181) hx hb dL_law_181 rfl (lv_at hl 4 rfl) ?_
  refine A_callM (pc := 182) (As := []) (rest := []) C K hl.1 P (kX7_thrown l D cI m0 as _ _) fnX7_thrown rfl gL_law_X7_thrown rfl rfl ⟨Nat.le_trans (Nat.le_of_ble_eq_true rfl) hRf, Nat.le_trans (Nat.le_of_ble_eq_true rfl) hRl⟩ (Nat.le_of_ble_eq_true rfl) ⟨by omega, by omega⟩ dL_law_182 (fun H locs P => ?_)
  refine lv_iload (pc := 185) hx hb dL_law_185 (lv_at hl 1 rfl) ?_
  refine lv_icmp_eq (pc := 187) (tgt := 192) hx hb dL_law_187 (by decide) (fun _ => ?_) (fun h => absurd q1.symm h)
  refine lv_iload (pc := 192) hx hb dL_law_192 (lv_at hl 1 rfl) ?_
  refine lv_if_ne (pc := 194) (tgt := 209) hx hb dL_law_194 (by decide) (fun _ => ?_) (fun ck => ?_)
  · refine lv_goto (pc := 209) (tgt := 1593) hx hb dL_law_209 (by decide) ?_
    exact W.widen (by omega) (by omega) (kk η2 _ _ _ H locs ls q4 hG2 h02 P (lv_sub hl [2, 3, 4, 5, 6] rfl))
  · have g0 : (g_vessel σ (xs (nI i0 + 1).toNatClampNeg) (xs (nI i0 + 2).toNatClampNeg)).1 = 0 := kc123_0 ck
    have q5 := q2 g0
    refine lv_aload_n (pc := 197) hx hb dL_law_197 rfl (lv_at hl 3 rfl) ?_
    refine lv_iconst (pc := 198) (v := 0) hx hb dL_law_198 (by decide) ?_
    refine va_lald (pc := 199) hx hb K P.1 0 2 rfl rfl vp_in01 dL_law_199 ?_
    refine lv_iload (pc := 200) hx hb dL_law_200 (lv_at hl 0 rfl) ?_
    refine lv_i2l (pc := 202) (v := (m_vessel σ (xs (nI i0 + 1).toNatClampNeg) (xs (nI i0 + 2).toNatClampNeg)).2.1.toInt64) hx hb dL_law_202 rfl ?_
    refine W.lcmp (pc := 203) hx hb dL_law_203 ?_
    refine lv_if_eq (pc := 204) (tgt := 209) hx hb dL_law_204 (by decide) (fun _ => ?_) (fun h => absurd ?_ h)
    · refine lv_goto (pc := 209) (tgt := 1593) hx hb dL_law_209 (by decide) ?_
      exact W.widen (by omega) (by omega) (kk η2 _ _ _ H locs ls q4 hG2 h02 P (lv_sub hl [2, 3, 4, 5, 6] rfl))
    · show lg_cmp ((if (g_vessel σ (xs (nI i0 + 1).toNatClampNeg) (xs (nI i0 + 2).toNatClampNeg)).1 = 0 then vp_updL lf 0 (g_vessel σ (xs (nI i0 + 1).toNatClampNeg) (xs (nI i0 + 2).toNatClampNeg)).2.1.toInt64 else lf) ((0 : Int32).toNatClampNeg)) _ = 0
      rw [if_pos g0, q5, show (0 : Int32).toNatClampNeg = 0 by decide, pk_uLs]
      exact lg_same _
set_option maxHeartbeats 4000000 in
theorem law_shares (hl9 : l.stackTraces = false) (C : Cx RL p s m args meth c cL_law 7 wsL_law ret) (V : EnvV s) (hEC : EnvC s) (K : va_K D vwCl (tyL cI cO cJ) s) (E9 : EnvH t0 A s s.heap) (hX : va_X b L xs s s.heap) (hbl : b < s.heap.size) (hbA : ¬ A b) (hL : L ≤ 3072) (hi : i0 + 6 ≤ L) (hRf : 11 ≤ R.frames) (hRl : 414 ≤ R.locals) (hz : cells + 12 ≤ R.cells ∧ slots + 500 ≤ R.slots) (hI : Inv σ) (hG : Gok t0 η σ)
    (P : Hp D A s (((ob, ArL cJ lf) :: G_W cI cO η σ) ++ M_W cI m0 as th σ) H locs) (hl : lv_has ls 7 [(4, .int (nI i0)), (3, .ref ob), (2, .ref m0), (1, .ref (e_ad η 0)), (0, .ref b)])
    (kk : ∀ (η' : Eg) (σ' : Sg) (th' : Int32) (lf' : Nat → Int64) (H : Heap) (locs : List Loc) (ls : Array Slot), Inv σ' → Gok t0 η' σ' → e_ad η' 0 = e_ad η 0 → Hp D A s (((ob, ArL cJ lf') :: G_W cI cO η' σ') ++ M_W cI m0 as th' σ') H locs → lv_has ls 7 [(4, .int (nI i0)), (3, .ref ob), (2, .ref m0), (1, .ref (e_ad η 0)), (0, .ref b)] → W p l e R s m args below meth c H locs (cells + 12) (slots + 500) Q (F0 m 1593 ls [])) : W p l e R s m args below meth c H locs cells slots Q (F0 m 212 ls []) := by
  obtain ⟨w0, w1, w2, w3, w4, w5⟩ := vpj hL hi
  have hx := C.1
  have hb := C.2.1
  have hml := C.2.2.1
  have hown := C.2.2.2.1
  obtain ⟨⟨q1, q2, q3⟩, q4⟩ := r_shares hI (xs (nI i0 + 1).toNatClampNeg) (xs (nI i0 + 2).toNatClampNeg)
  refine lv_aload_n (pc := 212) hx hb dL_law_212 rfl (lv_at hl 3 rfl) ?_
  refine lv_aload_n (pc := 213) hx hb dL_law_213 rfl (lv_at hl 4 rfl) ?_
  refine lv_iload (pc := 214) hx hb dL_law_214 (lv_at hl 0 rfl) ?_
  refine lv_iconst (pc := 216) (v := 1) hx hb dL_law_216 (by decide) ?_
  refine lv_iadd (pc := 217) hx hb dL_law_217 ?_
  refine va_sld (pc := 218) hx hb hX hbl hbA P.2.2.1 w1 dL_law_218 ?_
  refine lv_aload_n (pc := 219) hx hb dL_law_219 rfl (lv_at hl 4 rfl) ?_
  refine lv_iload (pc := 220) hx hb dL_law_220 (lv_at hl 0 rfl) ?_
  refine lv_iconst (pc := 222) (v := 2) hx hb dL_law_222 (by decide) ?_
  refine lv_iadd (pc := 223) hx hb dL_law_223 ?_
  refine va_sld (pc := 224) hx hb hX hbl hbA P.2.2.1 w2 dL_law_224 ?_
  refine lv_aload_n (pc := 225) hx hb dL_law_225 rfl (lv_at hl 1 rfl) ?_
  refine A_callW (pc := 226) (As := [.ref (e_ad η 0), .int (xs (nI i0 + 1).toNatClampNeg), .int (xs (nI i0 + 2).toNatClampNeg), .ref ob]) (rest := []) C V hEC K E9 hl.1 P (kL_shares l hl9 D cI cO cJ t0 η σ ob lf (xs (nI i0 + 1).toNatClampNeg) (xs (nI i0 + 2).toNatClampNeg) hG (fun _ => gk_shares hG (xs (nI i0 + 1).toNatClampNeg) (xs (nI i0 + 2).toNatClampNeg))) fnL_shares gL_law_L_shares rfl rfl ⟨Nat.le_trans (Nat.le_of_ble_eq_true rfl) hRf, Nat.le_trans (Nat.le_of_ble_eq_true rfl) hRl⟩ (Nat.le_of_ble_eq_true rfl) ⟨by omega, by omega⟩ dL_law_226 (fun η2 H locs P hG2 h02 => ?_)
  refine lv_istore (pc := 229) (lv' := [(5, .int _), (4, .int (nI i0)), (3, .ref ob), (2, .ref m0), (1, .ref (e_ad η 0)), (0, .ref b)]) hx hb dL_law_229 hl (by decide) rfl (fun ls hl => ?_)
  refine lv_aload_n (pc := 231) hx hb dL_law_231 rfl (lv_at hl 3 rfl) ?_
  refine lv_aload_n (pc := 232) hx hb dL_law_232 rfl (lv_at hl 5 rfl) ?_
  refine lv_iload (pc := 233) hx hb dL_law_233 (lv_at hl 1 rfl) ?_
  refine lv_iconst (pc := 235) (v := 1) hx hb dL_law_235 (by decide) ?_
  refine lv_iadd (pc := 236) hx hb dL_law_236 ?_
  refine va_sld (pc := 237) hx hb hX hbl hbA P.2.2.1 w1 dL_law_237 ?_
  refine lv_aload_n (pc := 238) hx hb dL_law_238 rfl (lv_at hl 5 rfl) ?_
  refine lv_iload (pc := 239) hx hb dL_law_239 (lv_at hl 1 rfl) ?_
  refine lv_iconst (pc := 241) (v := 2) hx hb dL_law_241 (by decide) ?_
  refine lv_iadd (pc := 242) hx hb dL_law_242 ?_
  refine va_sld (pc := 243) hx hb hX hbl hbA P.2.2.1 w2 dL_law_243 ?_
  refine A_callM (pc := 244) (As := [.int (xs (nI i0 + 1).toNatClampNeg), .int (xs (nI i0 + 2).toNatClampNeg)]) (rest := []) C K hl.1 P (kX7_shares l D cI m0 as th σ (xs (nI i0 + 1).toNatClampNeg) (xs (nI i0 + 2).toNatClampNeg) ) fnX7_shares rfl gL_law_X7_shares rfl rfl ⟨Nat.le_trans (Nat.le_of_ble_eq_true rfl) hRf, Nat.le_trans (Nat.le_of_ble_eq_true rfl) hRl⟩ (Nat.le_of_ble_eq_true rfl) ⟨by omega, by omega⟩ dL_law_244 (fun H locs P => ?_)
  rw [q3] at P hG2
  refine lv_istore (pc := 247) (lv' := [(6, .int _), (5, .int _), (4, .int (nI i0)), (3, .ref ob), (2, .ref m0), (1, .ref (e_ad η 0)), (0, .ref b)]) hx hb dL_law_247 hl (by decide) rfl (fun ls hl => ?_)
  refine lv_aload_n (pc := 249) hx hb dL_law_249 rfl (lv_at hl 4 rfl) ?_
  refine A_callM (pc := 250) (As := []) (rest := []) C K hl.1 P (kX7_thrown l D cI m0 as _ _) fnX7_thrown rfl gL_law_X7_thrown rfl rfl ⟨Nat.le_trans (Nat.le_of_ble_eq_true rfl) hRf, Nat.le_trans (Nat.le_of_ble_eq_true rfl) hRl⟩ (Nat.le_of_ble_eq_true rfl) ⟨by omega, by omega⟩ dL_law_250 (fun H locs P => ?_)
  refine lv_iload (pc := 253) hx hb dL_law_253 (lv_at hl 1 rfl) ?_
  refine lv_icmp_eq (pc := 255) (tgt := 260) hx hb dL_law_255 (by decide) (fun _ => ?_) (fun h => absurd q1.symm h)
  refine lv_iload (pc := 260) hx hb dL_law_260 (lv_at hl 1 rfl) ?_
  refine lv_if_ne (pc := 262) (tgt := 277) hx hb dL_law_262 (by decide) (fun _ => ?_) (fun ck => ?_)
  · refine lv_goto (pc := 277) (tgt := 1593) hx hb dL_law_277 (by decide) ?_
    exact W.widen (by omega) (by omega) (kk η2 _ _ _ H locs ls q4 hG2 h02 P (lv_sub hl [2, 3, 4, 5, 6] rfl))
  · have g0 : (g_shares σ (xs (nI i0 + 1).toNatClampNeg) (xs (nI i0 + 2).toNatClampNeg)).1 = 0 := kc12_0 ck
    have q5 := q2 g0
    refine lv_aload_n (pc := 265) hx hb dL_law_265 rfl (lv_at hl 3 rfl) ?_
    refine lv_iconst (pc := 266) (v := 0) hx hb dL_law_266 (by decide) ?_
    refine va_lald (pc := 267) hx hb K P.1 0 2 rfl rfl vp_in01 dL_law_267 ?_
    refine lv_iload (pc := 268) hx hb dL_law_268 (lv_at hl 0 rfl) ?_
    refine lv_i2l (pc := 270) (v := (m_shares σ (xs (nI i0 + 1).toNatClampNeg) (xs (nI i0 + 2).toNatClampNeg)).2.1.toInt64) hx hb dL_law_270 rfl ?_
    refine W.lcmp (pc := 271) hx hb dL_law_271 ?_
    refine lv_if_eq (pc := 272) (tgt := 277) hx hb dL_law_272 (by decide) (fun _ => ?_) (fun h => absurd ?_ h)
    · refine lv_goto (pc := 277) (tgt := 1593) hx hb dL_law_277 (by decide) ?_
      exact W.widen (by omega) (by omega) (kk η2 _ _ _ H locs ls q4 hG2 h02 P (lv_sub hl [2, 3, 4, 5, 6] rfl))
    · show lg_cmp ((if (g_shares σ (xs (nI i0 + 1).toNatClampNeg) (xs (nI i0 + 2).toNatClampNeg)).1 = 0 then vp_updL lf 0 (g_shares σ (xs (nI i0 + 1).toNatClampNeg) (xs (nI i0 + 2).toNatClampNeg)).2.1.toInt64 else lf) ((0 : Int32).toNatClampNeg)) _ = 0
      rw [if_pos g0, q5, show (0 : Int32).toNatClampNeg = 0 by decide, pk_uLs]
      exact lg_same _
set_option maxHeartbeats 4000000 in
theorem law_run (hl9 : l.stackTraces = false) (C : Cx RL p s m args meth c cL_law 7 wsL_law ret) (V : EnvV s) (hEC : EnvC s) (K : va_K D vwCl (tyL cI cO cJ) s) (E9 : EnvH t0 A s s.heap) (hX : va_X b L xs s s.heap) (hbl : b < s.heap.size) (hbA : ¬ A b) (hL : L ≤ 3072) (hi : i0 + 6 ≤ L) (hRf : 11 ≤ R.frames) (hRl : 414 ≤ R.locals) (hz : cells + 12 ≤ R.cells ∧ slots + 500 ≤ R.slots) (hI : Inv σ) (hG : Gok t0 η σ)
    (P : Hp D A s (((ob, ArL cJ lf) :: G_W cI cO η σ) ++ M_W cI m0 as th σ) H locs) (hl : lv_has ls 7 [(4, .int (nI i0)), (3, .ref ob), (2, .ref m0), (1, .ref (e_ad η 0)), (0, .ref b)])
    (kk : ∀ (η' : Eg) (σ' : Sg) (th' : Int32) (lf' : Nat → Int64) (H : Heap) (locs : List Loc) (ls : Array Slot), Inv σ' → Gok t0 η' σ' → e_ad η' 0 = e_ad η 0 → Hp D A s (((ob, ArL cJ lf') :: G_W cI cO η' σ') ++ M_W cI m0 as th' σ') H locs → lv_has ls 7 [(4, .int (nI i0)), (3, .ref ob), (2, .ref m0), (1, .ref (e_ad η 0)), (0, .ref b)] → W p l e R s m args below meth c H locs (cells + 12) (slots + 500) Q (F0 m 1593 ls [])) : W p l e R s m args below meth c H locs cells slots Q (F0 m 280 ls []) := by
  obtain ⟨w0, w1, w2, w3, w4, w5⟩ := vpj hL hi
  have hx := C.1
  have hb := C.2.1
  have hml := C.2.2.1
  have hown := C.2.2.2.1
  obtain ⟨⟨q1, q2, q3⟩, q4⟩ := r_run hI (xs (nI i0 + 1).toNatClampNeg) (xs (nI i0 + 2).toNatClampNeg) (xs (nI i0 + 3).toNatClampNeg) (xs (nI i0 + 4).toNatClampNeg) (xs (nI i0 + 5).toNatClampNeg)
  refine lv_aload_n (pc := 280) hx hb dL_law_280 rfl (lv_at hl 3 rfl) ?_
  refine lv_aload_n (pc := 281) hx hb dL_law_281 rfl (lv_at hl 4 rfl) ?_
  refine lv_iload (pc := 282) hx hb dL_law_282 (lv_at hl 0 rfl) ?_
  refine lv_iconst (pc := 284) (v := 1) hx hb dL_law_284 (by decide) ?_
  refine lv_iadd (pc := 285) hx hb dL_law_285 ?_
  refine va_sld (pc := 286) hx hb hX hbl hbA P.2.2.1 w1 dL_law_286 ?_
  refine lv_aload_n (pc := 287) hx hb dL_law_287 rfl (lv_at hl 4 rfl) ?_
  refine lv_iload (pc := 288) hx hb dL_law_288 (lv_at hl 0 rfl) ?_
  refine lv_iconst (pc := 290) (v := 2) hx hb dL_law_290 (by decide) ?_
  refine lv_iadd (pc := 291) hx hb dL_law_291 ?_
  refine va_sld (pc := 292) hx hb hX hbl hbA P.2.2.1 w2 dL_law_292 ?_
  refine lv_aload_n (pc := 293) hx hb dL_law_293 rfl (lv_at hl 4 rfl) ?_
  refine lv_iload (pc := 294) hx hb dL_law_294 (lv_at hl 0 rfl) ?_
  refine lv_iconst (pc := 296) (v := 3) hx hb dL_law_296 (by decide) ?_
  refine lv_iadd (pc := 297) hx hb dL_law_297 ?_
  refine va_sld (pc := 298) hx hb hX hbl hbA P.2.2.1 w3 dL_law_298 ?_
  refine lv_aload_n (pc := 299) hx hb dL_law_299 rfl (lv_at hl 4 rfl) ?_
  refine lv_iload (pc := 300) hx hb dL_law_300 (lv_at hl 0 rfl) ?_
  refine lv_iconst (pc := 302) (v := 4) hx hb dL_law_302 (by decide) ?_
  refine lv_iadd (pc := 303) hx hb dL_law_303 ?_
  refine va_sld (pc := 304) hx hb hX hbl hbA P.2.2.1 w4 dL_law_304 ?_
  refine lv_aload_n (pc := 305) hx hb dL_law_305 rfl (lv_at hl 4 rfl) ?_
  refine lv_iload (pc := 306) hx hb dL_law_306 (lv_at hl 0 rfl) ?_
  refine lv_iconst (pc := 308) (v := 5) hx hb dL_law_308 (by decide) ?_
  refine lv_iadd (pc := 309) hx hb dL_law_309 ?_
  refine va_sld (pc := 310) hx hb hX hbl hbA P.2.2.1 w5 dL_law_310 ?_
  refine lv_aload_n (pc := 311) hx hb dL_law_311 rfl (lv_at hl 1 rfl) ?_
  refine A_callW (pc := 312) (As := [.ref (e_ad η 0), .int (xs (nI i0 + 1).toNatClampNeg), .int (xs (nI i0 + 2).toNatClampNeg), .int (xs (nI i0 + 3).toNatClampNeg), .int (xs (nI i0 + 4).toNatClampNeg), .int (xs (nI i0 + 5).toNatClampNeg), .ref ob]) (rest := []) C V hEC K E9 hl.1 P (kL_run l hl9 D cI cO cJ t0 η σ ob lf (xs (nI i0 + 1).toNatClampNeg) (xs (nI i0 + 2).toNatClampNeg) (xs (nI i0 + 3).toNatClampNeg) (xs (nI i0 + 4).toNatClampNeg) (xs (nI i0 + 5).toNatClampNeg) hG (fun _ => gk_run hG (xs (nI i0 + 1).toNatClampNeg) (xs (nI i0 + 2).toNatClampNeg) (xs (nI i0 + 3).toNatClampNeg) (xs (nI i0 + 4).toNatClampNeg) (xs (nI i0 + 5).toNatClampNeg))) fnL_run gL_law_L_run rfl rfl ⟨Nat.le_trans (Nat.le_of_ble_eq_true rfl) hRf, Nat.le_trans (Nat.le_of_ble_eq_true rfl) hRl⟩ (Nat.le_of_ble_eq_true rfl) ⟨by omega, by omega⟩ dL_law_312 (fun η2 H locs P hG2 h02 => ?_)
  refine lv_istore (pc := 315) (lv' := [(5, .int _), (4, .int (nI i0)), (3, .ref ob), (2, .ref m0), (1, .ref (e_ad η 0)), (0, .ref b)]) hx hb dL_law_315 hl (by decide) rfl (fun ls hl => ?_)
  refine lv_aload_n (pc := 317) hx hb dL_law_317 rfl (lv_at hl 3 rfl) ?_
  refine lv_aload_n (pc := 318) hx hb dL_law_318 rfl (lv_at hl 5 rfl) ?_
  refine lv_iload (pc := 319) hx hb dL_law_319 (lv_at hl 1 rfl) ?_
  refine lv_iconst (pc := 321) (v := 1) hx hb dL_law_321 (by decide) ?_
  refine lv_iadd (pc := 322) hx hb dL_law_322 ?_
  refine va_sld (pc := 323) hx hb hX hbl hbA P.2.2.1 w1 dL_law_323 ?_
  refine lv_aload_n (pc := 324) hx hb dL_law_324 rfl (lv_at hl 5 rfl) ?_
  refine lv_iload (pc := 325) hx hb dL_law_325 (lv_at hl 1 rfl) ?_
  refine lv_iconst (pc := 327) (v := 2) hx hb dL_law_327 (by decide) ?_
  refine lv_iadd (pc := 328) hx hb dL_law_328 ?_
  refine va_sld (pc := 329) hx hb hX hbl hbA P.2.2.1 w2 dL_law_329 ?_
  refine lv_aload_n (pc := 330) hx hb dL_law_330 rfl (lv_at hl 5 rfl) ?_
  refine lv_iload (pc := 331) hx hb dL_law_331 (lv_at hl 1 rfl) ?_
  refine lv_iconst (pc := 333) (v := 3) hx hb dL_law_333 (by decide) ?_
  refine lv_iadd (pc := 334) hx hb dL_law_334 ?_
  refine va_sld (pc := 335) hx hb hX hbl hbA P.2.2.1 w3 dL_law_335 ?_
  refine lv_aload_n (pc := 336) hx hb dL_law_336 rfl (lv_at hl 5 rfl) ?_
  refine lv_iload (pc := 337) hx hb dL_law_337 (lv_at hl 1 rfl) ?_
  refine lv_iconst (pc := 339) (v := 4) hx hb dL_law_339 (by decide) ?_
  refine lv_iadd (pc := 340) hx hb dL_law_340 ?_
  refine va_sld (pc := 341) hx hb hX hbl hbA P.2.2.1 w4 dL_law_341 ?_
  refine lv_aload_n (pc := 342) hx hb dL_law_342 rfl (lv_at hl 5 rfl) ?_
  refine lv_iload (pc := 343) hx hb dL_law_343 (lv_at hl 1 rfl) ?_
  refine lv_iconst (pc := 345) (v := 5) hx hb dL_law_345 (by decide) ?_
  refine lv_iadd (pc := 346) hx hb dL_law_346 ?_
  refine va_sld (pc := 347) hx hb hX hbl hbA P.2.2.1 w5 dL_law_347 ?_
  refine A_callM (pc := 348) (As := [.int (xs (nI i0 + 1).toNatClampNeg), .int (xs (nI i0 + 2).toNatClampNeg), .int (xs (nI i0 + 3).toNatClampNeg), .int (xs (nI i0 + 4).toNatClampNeg), .int (xs (nI i0 + 5).toNatClampNeg)]) (rest := []) C K hl.1 P (kX7_run l D cI m0 as th σ (xs (nI i0 + 1).toNatClampNeg) (xs (nI i0 + 2).toNatClampNeg) (xs (nI i0 + 3).toNatClampNeg) (xs (nI i0 + 4).toNatClampNeg) (xs (nI i0 + 5).toNatClampNeg) hI.1.1) fnX7_run rfl gL_law_X7_run rfl rfl ⟨Nat.le_trans (Nat.le_of_ble_eq_true rfl) hRf, Nat.le_trans (Nat.le_of_ble_eq_true rfl) hRl⟩ (Nat.le_of_ble_eq_true rfl) ⟨by omega, by omega⟩ dL_law_348 (fun H locs P => ?_)
  rw [q3] at P hG2
  refine lv_istore (pc := 351) (lv' := [(6, .int _), (5, .int _), (4, .int (nI i0)), (3, .ref ob), (2, .ref m0), (1, .ref (e_ad η 0)), (0, .ref b)]) hx hb dL_law_351 hl (by decide) rfl (fun ls hl => ?_)
  refine lv_aload_n (pc := 353) hx hb dL_law_353 rfl (lv_at hl 4 rfl) ?_
  refine A_callM (pc := 354) (As := []) (rest := []) C K hl.1 P (kX7_thrown l D cI m0 as _ _) fnX7_thrown rfl gL_law_X7_thrown rfl rfl ⟨Nat.le_trans (Nat.le_of_ble_eq_true rfl) hRf, Nat.le_trans (Nat.le_of_ble_eq_true rfl) hRl⟩ (Nat.le_of_ble_eq_true rfl) ⟨by omega, by omega⟩ dL_law_354 (fun H locs P => ?_)
  refine lv_iload (pc := 357) hx hb dL_law_357 (lv_at hl 1 rfl) ?_
  refine lv_icmp_eq (pc := 359) (tgt := 364) hx hb dL_law_359 (by decide) (fun _ => ?_) (fun h => absurd q1.symm h)
  refine lv_iload (pc := 364) hx hb dL_law_364 (lv_at hl 1 rfl) ?_
  refine lv_if_ne (pc := 366) (tgt := 381) hx hb dL_law_366 (by decide) (fun _ => ?_) (fun ck => ?_)
  · refine lv_goto (pc := 381) (tgt := 1593) hx hb dL_law_381 (by decide) ?_
    exact W.widen (by omega) (by omega) (kk η2 _ _ _ H locs ls q4 hG2 h02 P (lv_sub hl [2, 3, 4, 5, 6] rfl))
  · have g0 : (g_run σ (xs (nI i0 + 1).toNatClampNeg) (xs (nI i0 + 2).toNatClampNeg) (xs (nI i0 + 3).toNatClampNeg) (xs (nI i0 + 4).toNatClampNeg) (xs (nI i0 + 5).toNatClampNeg)).1 = 0 := kc123_0 ck
    have q5 := q2 g0
    refine lv_aload_n (pc := 369) hx hb dL_law_369 rfl (lv_at hl 3 rfl) ?_
    refine lv_iconst (pc := 370) (v := 0) hx hb dL_law_370 (by decide) ?_
    refine va_lald (pc := 371) hx hb K P.1 0 2 rfl rfl vp_in01 dL_law_371 ?_
    refine lv_iload (pc := 372) hx hb dL_law_372 (lv_at hl 0 rfl) ?_
    refine lv_i2l (pc := 374) (v := (m_run σ (xs (nI i0 + 1).toNatClampNeg) (xs (nI i0 + 2).toNatClampNeg) (xs (nI i0 + 3).toNatClampNeg) (xs (nI i0 + 4).toNatClampNeg) (xs (nI i0 + 5).toNatClampNeg)).2.1.toInt64) hx hb dL_law_374 rfl ?_
    refine W.lcmp (pc := 375) hx hb dL_law_375 ?_
    refine lv_if_eq (pc := 376) (tgt := 381) hx hb dL_law_376 (by decide) (fun _ => ?_) (fun h => absurd ?_ h)
    · refine lv_goto (pc := 381) (tgt := 1593) hx hb dL_law_381 (by decide) ?_
      exact W.widen (by omega) (by omega) (kk η2 _ _ _ H locs ls q4 hG2 h02 P (lv_sub hl [2, 3, 4, 5, 6] rfl))
    · show lg_cmp ((if (g_run σ (xs (nI i0 + 1).toNatClampNeg) (xs (nI i0 + 2).toNatClampNeg) (xs (nI i0 + 3).toNatClampNeg) (xs (nI i0 + 4).toNatClampNeg) (xs (nI i0 + 5).toNatClampNeg)).1 = 0 then vp_updL lf 0 (g_run σ (xs (nI i0 + 1).toNatClampNeg) (xs (nI i0 + 2).toNatClampNeg) (xs (nI i0 + 3).toNatClampNeg) (xs (nI i0 + 4).toNatClampNeg) (xs (nI i0 + 5).toNatClampNeg)).2.1.toInt64 else lf) ((0 : Int32).toNatClampNeg)) _ = 0
      rw [if_pos g0, q5, show (0 : Int32).toNatClampNeg = 0 by decide, pk_uLs]
      exact lg_same _
set_option maxHeartbeats 4000000 in
theorem law_move (hl9 : l.stackTraces = false) (C : Cx RL p s m args meth c cL_law 7 wsL_law ret) (V : EnvV s) (hEC : EnvC s) (K : va_K D vwCl (tyL cI cO cJ) s) (E9 : EnvH t0 A s s.heap) (hX : va_X b L xs s s.heap) (hbl : b < s.heap.size) (hbA : ¬ A b) (hL : L ≤ 3072) (hi : i0 + 6 ≤ L) (hRf : 11 ≤ R.frames) (hRl : 414 ≤ R.locals) (hz : cells + 12 ≤ R.cells ∧ slots + 500 ≤ R.slots) (hI : Inv σ) (hG : Gok t0 η σ)
    (P : Hp D A s (((ob, ArL cJ lf) :: G_W cI cO η σ) ++ M_W cI m0 as th σ) H locs) (hl : lv_has ls 7 [(4, .int (nI i0)), (3, .ref ob), (2, .ref m0), (1, .ref (e_ad η 0)), (0, .ref b)])
    (kk : ∀ (η' : Eg) (σ' : Sg) (th' : Int32) (lf' : Nat → Int64) (H : Heap) (locs : List Loc) (ls : Array Slot), Inv σ' → Gok t0 η' σ' → e_ad η' 0 = e_ad η 0 → Hp D A s (((ob, ArL cJ lf') :: G_W cI cO η' σ') ++ M_W cI m0 as th' σ') H locs → lv_has ls 7 [(4, .int (nI i0)), (3, .ref ob), (2, .ref m0), (1, .ref (e_ad η 0)), (0, .ref b)] → W p l e R s m args below meth c H locs (cells + 12) (slots + 500) Q (F0 m 1593 ls [])) : W p l e R s m args below meth c H locs cells slots Q (F0 m 384 ls []) := by
  obtain ⟨w0, w1, w2, w3, w4, w5⟩ := vpj hL hi
  have hx := C.1
  have hb := C.2.1
  have hml := C.2.2.1
  have hown := C.2.2.2.1
  obtain ⟨⟨q1, q2, q3⟩, q4⟩ := r_move hI (xs (nI i0 + 1).toNatClampNeg) (xs (nI i0 + 2).toNatClampNeg) (xs (nI i0 + 3).toNatClampNeg)
  refine lv_aload_n (pc := 384) hx hb dL_law_384 rfl (lv_at hl 3 rfl) ?_
  refine lv_aload_n (pc := 385) hx hb dL_law_385 rfl (lv_at hl 4 rfl) ?_
  refine lv_iload (pc := 386) hx hb dL_law_386 (lv_at hl 0 rfl) ?_
  refine lv_iconst (pc := 388) (v := 1) hx hb dL_law_388 (by decide) ?_
  refine lv_iadd (pc := 389) hx hb dL_law_389 ?_
  refine va_sld (pc := 390) hx hb hX hbl hbA P.2.2.1 w1 dL_law_390 ?_
  refine lv_aload_n (pc := 391) hx hb dL_law_391 rfl (lv_at hl 4 rfl) ?_
  refine lv_iload (pc := 392) hx hb dL_law_392 (lv_at hl 0 rfl) ?_
  refine lv_iconst (pc := 394) (v := 2) hx hb dL_law_394 (by decide) ?_
  refine lv_iadd (pc := 395) hx hb dL_law_395 ?_
  refine va_sld (pc := 396) hx hb hX hbl hbA P.2.2.1 w2 dL_law_396 ?_
  refine lv_aload_n (pc := 397) hx hb dL_law_397 rfl (lv_at hl 4 rfl) ?_
  refine lv_iload (pc := 398) hx hb dL_law_398 (lv_at hl 0 rfl) ?_
  refine lv_iconst (pc := 400) (v := 3) hx hb dL_law_400 (by decide) ?_
  refine lv_iadd (pc := 401) hx hb dL_law_401 ?_
  refine va_sld (pc := 402) hx hb hX hbl hbA P.2.2.1 w3 dL_law_402 ?_
  refine lv_aload_n (pc := 403) hx hb dL_law_403 rfl (lv_at hl 1 rfl) ?_
  refine A_callW (pc := 404) (As := [.ref (e_ad η 0), .int (xs (nI i0 + 1).toNatClampNeg), .int (xs (nI i0 + 2).toNatClampNeg), .int (xs (nI i0 + 3).toNatClampNeg), .ref ob]) (rest := []) C V hEC K E9 hl.1 P (kL_move l hl9 D cI cO cJ t0 η σ ob lf (xs (nI i0 + 1).toNatClampNeg) (xs (nI i0 + 2).toNatClampNeg) (xs (nI i0 + 3).toNatClampNeg) hG (fun _ => gk_move hG (xs (nI i0 + 1).toNatClampNeg) (xs (nI i0 + 2).toNatClampNeg) (xs (nI i0 + 3).toNatClampNeg))) fnL_move gL_law_L_move rfl rfl ⟨Nat.le_trans (Nat.le_of_ble_eq_true rfl) hRf, Nat.le_trans (Nat.le_of_ble_eq_true rfl) hRl⟩ (Nat.le_of_ble_eq_true rfl) ⟨by omega, by omega⟩ dL_law_404 (fun η2 H locs P hG2 h02 => ?_)
  refine lv_istore (pc := 407) (lv' := [(5, .int _), (4, .int (nI i0)), (3, .ref ob), (2, .ref m0), (1, .ref (e_ad η 0)), (0, .ref b)]) hx hb dL_law_407 hl (by decide) rfl (fun ls hl => ?_)
  refine lv_aload_n (pc := 409) hx hb dL_law_409 rfl (lv_at hl 3 rfl) ?_
  refine lv_aload_n (pc := 410) hx hb dL_law_410 rfl (lv_at hl 5 rfl) ?_
  refine lv_iload (pc := 411) hx hb dL_law_411 (lv_at hl 1 rfl) ?_
  refine lv_iconst (pc := 413) (v := 1) hx hb dL_law_413 (by decide) ?_
  refine lv_iadd (pc := 414) hx hb dL_law_414 ?_
  refine va_sld (pc := 415) hx hb hX hbl hbA P.2.2.1 w1 dL_law_415 ?_
  refine lv_aload_n (pc := 416) hx hb dL_law_416 rfl (lv_at hl 5 rfl) ?_
  refine lv_iload (pc := 417) hx hb dL_law_417 (lv_at hl 1 rfl) ?_
  refine lv_iconst (pc := 419) (v := 2) hx hb dL_law_419 (by decide) ?_
  refine lv_iadd (pc := 420) hx hb dL_law_420 ?_
  refine va_sld (pc := 421) hx hb hX hbl hbA P.2.2.1 w2 dL_law_421 ?_
  refine lv_aload_n (pc := 422) hx hb dL_law_422 rfl (lv_at hl 5 rfl) ?_
  refine lv_iload (pc := 423) hx hb dL_law_423 (lv_at hl 1 rfl) ?_
  refine lv_iconst (pc := 425) (v := 3) hx hb dL_law_425 (by decide) ?_
  refine lv_iadd (pc := 426) hx hb dL_law_426 ?_
  refine va_sld (pc := 427) hx hb hX hbl hbA P.2.2.1 w3 dL_law_427 ?_
  refine A_callM (pc := 428) (As := [.int (xs (nI i0 + 1).toNatClampNeg), .int (xs (nI i0 + 2).toNatClampNeg), .int (xs (nI i0 + 3).toNatClampNeg)]) (rest := []) C K hl.1 P (kX7_move l D cI m0 as th σ (xs (nI i0 + 1).toNatClampNeg) (xs (nI i0 + 2).toNatClampNeg) (xs (nI i0 + 3).toNatClampNeg) hI.1.1) fnX7_move rfl gL_law_X7_move rfl rfl ⟨Nat.le_trans (Nat.le_of_ble_eq_true rfl) hRf, Nat.le_trans (Nat.le_of_ble_eq_true rfl) hRl⟩ (Nat.le_of_ble_eq_true rfl) ⟨by omega, by omega⟩ dL_law_428 (fun H locs P => ?_)
  rw [q3] at P hG2
  refine lv_istore (pc := 431) (lv' := [(6, .int _), (5, .int _), (4, .int (nI i0)), (3, .ref ob), (2, .ref m0), (1, .ref (e_ad η 0)), (0, .ref b)]) hx hb dL_law_431 hl (by decide) rfl (fun ls hl => ?_)
  refine lv_aload_n (pc := 433) hx hb dL_law_433 rfl (lv_at hl 4 rfl) ?_
  refine A_callM (pc := 434) (As := []) (rest := []) C K hl.1 P (kX7_thrown l D cI m0 as _ _) fnX7_thrown rfl gL_law_X7_thrown rfl rfl ⟨Nat.le_trans (Nat.le_of_ble_eq_true rfl) hRf, Nat.le_trans (Nat.le_of_ble_eq_true rfl) hRl⟩ (Nat.le_of_ble_eq_true rfl) ⟨by omega, by omega⟩ dL_law_434 (fun H locs P => ?_)
  refine lv_iload (pc := 437) hx hb dL_law_437 (lv_at hl 1 rfl) ?_
  refine lv_icmp_eq (pc := 439) (tgt := 444) hx hb dL_law_439 (by decide) (fun _ => ?_) (fun h => absurd q1.symm h)
  refine lv_iload (pc := 444) hx hb dL_law_444 (lv_at hl 1 rfl) ?_
  refine lv_if_ne (pc := 446) (tgt := 461) hx hb dL_law_446 (by decide) (fun _ => ?_) (fun ck => ?_)
  · refine lv_goto (pc := 461) (tgt := 1593) hx hb dL_law_461 (by decide) ?_
    exact W.widen (by omega) (by omega) (kk η2 _ _ _ H locs ls q4 hG2 h02 P (lv_sub hl [2, 3, 4, 5, 6] rfl))
  · have g0 : (g_move σ (xs (nI i0 + 1).toNatClampNeg) (xs (nI i0 + 2).toNatClampNeg) (xs (nI i0 + 3).toNatClampNeg)).1 = 0 := kc123_0 ck
    have q5 := q2 g0
    refine lv_aload_n (pc := 449) hx hb dL_law_449 rfl (lv_at hl 3 rfl) ?_
    refine lv_iconst (pc := 450) (v := 0) hx hb dL_law_450 (by decide) ?_
    refine va_lald (pc := 451) hx hb K P.1 0 2 rfl rfl vp_in01 dL_law_451 ?_
    refine lv_iload (pc := 452) hx hb dL_law_452 (lv_at hl 0 rfl) ?_
    refine lv_i2l (pc := 454) (v := (m_move σ (xs (nI i0 + 1).toNatClampNeg) (xs (nI i0 + 2).toNatClampNeg) (xs (nI i0 + 3).toNatClampNeg)).2.1.toInt64) hx hb dL_law_454 rfl ?_
    refine W.lcmp (pc := 455) hx hb dL_law_455 ?_
    refine lv_if_eq (pc := 456) (tgt := 461) hx hb dL_law_456 (by decide) (fun _ => ?_) (fun h => absurd ?_ h)
    · refine lv_goto (pc := 461) (tgt := 1593) hx hb dL_law_461 (by decide) ?_
      exact W.widen (by omega) (by omega) (kk η2 _ _ _ H locs ls q4 hG2 h02 P (lv_sub hl [2, 3, 4, 5, 6] rfl))
    · show lg_cmp ((if (g_move σ (xs (nI i0 + 1).toNatClampNeg) (xs (nI i0 + 2).toNatClampNeg) (xs (nI i0 + 3).toNatClampNeg)).1 = 0 then vp_updL lf 0 (g_move σ (xs (nI i0 + 1).toNatClampNeg) (xs (nI i0 + 2).toNatClampNeg) (xs (nI i0 + 3).toNatClampNeg)).2.1.toInt64 else lf) ((0 : Int32).toNatClampNeg)) _ = 0
      rw [if_pos g0, q5, show (0 : Int32).toNatClampNeg = 0 by decide, pk_uLs]
      exact lg_same _
set_option maxHeartbeats 4000000 in
theorem law_dip (hl9 : l.stackTraces = false) (C : Cx RL p s m args meth c cL_law 7 wsL_law ret) (V : EnvV s) (hEC : EnvC s) (K : va_K D vwCl (tyL cI cO cJ) s) (E9 : EnvH t0 A s s.heap) (hX : va_X b L xs s s.heap) (hbl : b < s.heap.size) (hbA : ¬ A b) (hL : L ≤ 3072) (hi : i0 + 6 ≤ L) (hRf : 11 ≤ R.frames) (hRl : 414 ≤ R.locals) (hz : cells + 12 ≤ R.cells ∧ slots + 500 ≤ R.slots) (hI : Inv σ) (hG : Gok t0 η σ)
    (P : Hp D A s (((ob, ArL cJ lf) :: G_W cI cO η σ) ++ M_W cI m0 as th σ) H locs) (hl : lv_has ls 7 [(4, .int (nI i0)), (3, .ref ob), (2, .ref m0), (1, .ref (e_ad η 0)), (0, .ref b)])
    (kk : ∀ (η' : Eg) (σ' : Sg) (th' : Int32) (lf' : Nat → Int64) (H : Heap) (locs : List Loc) (ls : Array Slot), Inv σ' → Gok t0 η' σ' → e_ad η' 0 = e_ad η 0 → Hp D A s (((ob, ArL cJ lf') :: G_W cI cO η' σ') ++ M_W cI m0 as th' σ') H locs → lv_has ls 7 [(4, .int (nI i0)), (3, .ref ob), (2, .ref m0), (1, .ref (e_ad η 0)), (0, .ref b)] → W p l e R s m args below meth c H locs (cells + 12) (slots + 500) Q (F0 m 1593 ls [])) : W p l e R s m args below meth c H locs cells slots Q (F0 m 464 ls []) := by
  obtain ⟨w0, w1, w2, w3, w4, w5⟩ := vpj hL hi
  have hx := C.1
  have hb := C.2.1
  have hml := C.2.2.1
  have hown := C.2.2.2.1
  obtain ⟨⟨q1, q2, q3⟩, q4⟩ := r_dip hI (xs (nI i0 + 1).toNatClampNeg) (xs (nI i0 + 2).toNatClampNeg) (xs (nI i0 + 3).toNatClampNeg)
  refine lv_aload_n (pc := 464) hx hb dL_law_464 rfl (lv_at hl 3 rfl) ?_
  refine lv_aload_n (pc := 465) hx hb dL_law_465 rfl (lv_at hl 4 rfl) ?_
  refine lv_iload (pc := 466) hx hb dL_law_466 (lv_at hl 0 rfl) ?_
  refine lv_iconst (pc := 468) (v := 1) hx hb dL_law_468 (by decide) ?_
  refine lv_iadd (pc := 469) hx hb dL_law_469 ?_
  refine va_sld (pc := 470) hx hb hX hbl hbA P.2.2.1 w1 dL_law_470 ?_
  refine lv_aload_n (pc := 471) hx hb dL_law_471 rfl (lv_at hl 4 rfl) ?_
  refine lv_iload (pc := 472) hx hb dL_law_472 (lv_at hl 0 rfl) ?_
  refine lv_iconst (pc := 474) (v := 2) hx hb dL_law_474 (by decide) ?_
  refine lv_iadd (pc := 475) hx hb dL_law_475 ?_
  refine va_sld (pc := 476) hx hb hX hbl hbA P.2.2.1 w2 dL_law_476 ?_
  refine lv_aload_n (pc := 477) hx hb dL_law_477 rfl (lv_at hl 4 rfl) ?_
  refine lv_iload (pc := 478) hx hb dL_law_478 (lv_at hl 0 rfl) ?_
  refine lv_iconst (pc := 480) (v := 3) hx hb dL_law_480 (by decide) ?_
  refine lv_iadd (pc := 481) hx hb dL_law_481 ?_
  refine va_sld (pc := 482) hx hb hX hbl hbA P.2.2.1 w3 dL_law_482 ?_
  refine lv_aload_n (pc := 483) hx hb dL_law_483 rfl (lv_at hl 1 rfl) ?_
  refine A_callW (pc := 484) (As := [.ref (e_ad η 0), .int (xs (nI i0 + 1).toNatClampNeg), .int (xs (nI i0 + 2).toNatClampNeg), .int (xs (nI i0 + 3).toNatClampNeg), .ref ob]) (rest := []) C V hEC K E9 hl.1 P (kL_dip l hl9 D cI cO cJ t0 η σ ob lf (xs (nI i0 + 1).toNatClampNeg) (xs (nI i0 + 2).toNatClampNeg) (xs (nI i0 + 3).toNatClampNeg) hG (fun _ => gk_dip hG (xs (nI i0 + 1).toNatClampNeg) (xs (nI i0 + 2).toNatClampNeg) (xs (nI i0 + 3).toNatClampNeg))) fnL_dip gL_law_L_dip rfl rfl ⟨Nat.le_trans (Nat.le_of_ble_eq_true rfl) hRf, Nat.le_trans (Nat.le_of_ble_eq_true rfl) hRl⟩ (Nat.le_of_ble_eq_true rfl) ⟨by omega, by omega⟩ dL_law_484 (fun η2 H locs P hG2 h02 => ?_)
  refine lv_istore (pc := 487) (lv' := [(5, .int _), (4, .int (nI i0)), (3, .ref ob), (2, .ref m0), (1, .ref (e_ad η 0)), (0, .ref b)]) hx hb dL_law_487 hl (by decide) rfl (fun ls hl => ?_)
  refine lv_aload_n (pc := 489) hx hb dL_law_489 rfl (lv_at hl 3 rfl) ?_
  refine lv_aload_n (pc := 490) hx hb dL_law_490 rfl (lv_at hl 5 rfl) ?_
  refine lv_iload (pc := 491) hx hb dL_law_491 (lv_at hl 1 rfl) ?_
  refine lv_iconst (pc := 493) (v := 1) hx hb dL_law_493 (by decide) ?_
  refine lv_iadd (pc := 494) hx hb dL_law_494 ?_
  refine va_sld (pc := 495) hx hb hX hbl hbA P.2.2.1 w1 dL_law_495 ?_
  refine lv_aload_n (pc := 496) hx hb dL_law_496 rfl (lv_at hl 5 rfl) ?_
  refine lv_iload (pc := 497) hx hb dL_law_497 (lv_at hl 1 rfl) ?_
  refine lv_iconst (pc := 499) (v := 2) hx hb dL_law_499 (by decide) ?_
  refine lv_iadd (pc := 500) hx hb dL_law_500 ?_
  refine va_sld (pc := 501) hx hb hX hbl hbA P.2.2.1 w2 dL_law_501 ?_
  refine lv_aload_n (pc := 502) hx hb dL_law_502 rfl (lv_at hl 5 rfl) ?_
  refine lv_iload (pc := 503) hx hb dL_law_503 (lv_at hl 1 rfl) ?_
  refine lv_iconst (pc := 505) (v := 3) hx hb dL_law_505 (by decide) ?_
  refine lv_iadd (pc := 506) hx hb dL_law_506 ?_
  refine va_sld (pc := 507) hx hb hX hbl hbA P.2.2.1 w3 dL_law_507 ?_
  refine A_callM (pc := 508) (As := [.int (xs (nI i0 + 1).toNatClampNeg), .int (xs (nI i0 + 2).toNatClampNeg), .int (xs (nI i0 + 3).toNatClampNeg)]) (rest := []) C K hl.1 P (kX7_dip l D cI m0 as th σ (xs (nI i0 + 1).toNatClampNeg) (xs (nI i0 + 2).toNatClampNeg) (xs (nI i0 + 3).toNatClampNeg) hI.1.1) fnX7_dip rfl gL_law_X7_dip rfl rfl ⟨Nat.le_trans (Nat.le_of_ble_eq_true rfl) hRf, Nat.le_trans (Nat.le_of_ble_eq_true rfl) hRl⟩ (Nat.le_of_ble_eq_true rfl) ⟨by omega, by omega⟩ dL_law_508 (fun H locs P => ?_)
  rw [q3] at P hG2
  refine lv_istore (pc := 511) (lv' := [(6, .int _), (5, .int _), (4, .int (nI i0)), (3, .ref ob), (2, .ref m0), (1, .ref (e_ad η 0)), (0, .ref b)]) hx hb dL_law_511 hl (by decide) rfl (fun ls hl => ?_)
  refine lv_aload_n (pc := 513) hx hb dL_law_513 rfl (lv_at hl 4 rfl) ?_
  refine A_callM (pc := 514) (As := []) (rest := []) C K hl.1 P (kX7_thrown l D cI m0 as _ _) fnX7_thrown rfl gL_law_X7_thrown rfl rfl ⟨Nat.le_trans (Nat.le_of_ble_eq_true rfl) hRf, Nat.le_trans (Nat.le_of_ble_eq_true rfl) hRl⟩ (Nat.le_of_ble_eq_true rfl) ⟨by omega, by omega⟩ dL_law_514 (fun H locs P => ?_)
  refine lv_iload (pc := 517) hx hb dL_law_517 (lv_at hl 1 rfl) ?_
  refine lv_icmp_eq (pc := 519) (tgt := 524) hx hb dL_law_519 (by decide) (fun _ => ?_) (fun h => absurd q1.symm h)
  refine lv_iload (pc := 524) hx hb dL_law_524 (lv_at hl 1 rfl) ?_
  refine lv_if_ne (pc := 526) (tgt := 541) hx hb dL_law_526 (by decide) (fun _ => ?_) (fun ck => ?_)
  · refine lv_goto (pc := 541) (tgt := 1593) hx hb dL_law_541 (by decide) ?_
    exact W.widen (by omega) (by omega) (kk η2 _ _ _ H locs ls q4 hG2 h02 P (lv_sub hl [2, 3, 4, 5, 6] rfl))
  · have g0 : (g_dip σ (xs (nI i0 + 1).toNatClampNeg) (xs (nI i0 + 2).toNatClampNeg) (xs (nI i0 + 3).toNatClampNeg)).1 = 0 := kc123_0 ck
    have q5 := q2 g0
    refine lv_aload_n (pc := 529) hx hb dL_law_529 rfl (lv_at hl 3 rfl) ?_
    refine lv_iconst (pc := 530) (v := 0) hx hb dL_law_530 (by decide) ?_
    refine va_lald (pc := 531) hx hb K P.1 0 2 rfl rfl vp_in01 dL_law_531 ?_
    refine lv_iload (pc := 532) hx hb dL_law_532 (lv_at hl 0 rfl) ?_
    refine lv_i2l (pc := 534) (v := (m_dip σ (xs (nI i0 + 1).toNatClampNeg) (xs (nI i0 + 2).toNatClampNeg) (xs (nI i0 + 3).toNatClampNeg)).2.1.toInt64) hx hb dL_law_534 rfl ?_
    refine W.lcmp (pc := 535) hx hb dL_law_535 ?_
    refine lv_if_eq (pc := 536) (tgt := 541) hx hb dL_law_536 (by decide) (fun _ => ?_) (fun h => absurd ?_ h)
    · refine lv_goto (pc := 541) (tgt := 1593) hx hb dL_law_541 (by decide) ?_
      exact W.widen (by omega) (by omega) (kk η2 _ _ _ H locs ls q4 hG2 h02 P (lv_sub hl [2, 3, 4, 5, 6] rfl))
    · show lg_cmp ((if (g_dip σ (xs (nI i0 + 1).toNatClampNeg) (xs (nI i0 + 2).toNatClampNeg) (xs (nI i0 + 3).toNatClampNeg)).1 = 0 then vp_updL lf 0 (g_dip σ (xs (nI i0 + 1).toNatClampNeg) (xs (nI i0 + 2).toNatClampNeg) (xs (nI i0 + 3).toNatClampNeg)).2.1.toInt64 else lf) ((0 : Int32).toNatClampNeg)) _ = 0
      rw [if_pos g0, q5, show (0 : Int32).toNatClampNeg = 0 by decide, pk_uLs]
      exact lg_same _
set_option maxHeartbeats 4000000 in
theorem law_lose (hl9 : l.stackTraces = false) (C : Cx RL p s m args meth c cL_law 7 wsL_law ret) (V : EnvV s) (hEC : EnvC s) (K : va_K D vwCl (tyL cI cO cJ) s) (E9 : EnvH t0 A s s.heap) (hX : va_X b L xs s s.heap) (hbl : b < s.heap.size) (hbA : ¬ A b) (hL : L ≤ 3072) (hi : i0 + 6 ≤ L) (hRf : 11 ≤ R.frames) (hRl : 414 ≤ R.locals) (hz : cells + 12 ≤ R.cells ∧ slots + 500 ≤ R.slots) (hI : Inv σ) (hG : Gok t0 η σ)
    (P : Hp D A s (((ob, ArL cJ lf) :: G_W cI cO η σ) ++ M_W cI m0 as th σ) H locs) (hl : lv_has ls 7 [(4, .int (nI i0)), (3, .ref ob), (2, .ref m0), (1, .ref (e_ad η 0)), (0, .ref b)])
    (kk : ∀ (η' : Eg) (σ' : Sg) (th' : Int32) (lf' : Nat → Int64) (H : Heap) (locs : List Loc) (ls : Array Slot), Inv σ' → Gok t0 η' σ' → e_ad η' 0 = e_ad η 0 → Hp D A s (((ob, ArL cJ lf') :: G_W cI cO η' σ') ++ M_W cI m0 as th' σ') H locs → lv_has ls 7 [(4, .int (nI i0)), (3, .ref ob), (2, .ref m0), (1, .ref (e_ad η 0)), (0, .ref b)] → W p l e R s m args below meth c H locs (cells + 12) (slots + 500) Q (F0 m 1593 ls [])) : W p l e R s m args below meth c H locs cells slots Q (F0 m 544 ls []) := by
  obtain ⟨w0, w1, w2, w3, w4, w5⟩ := vpj hL hi
  have hx := C.1
  have hb := C.2.1
  have hml := C.2.2.1
  have hown := C.2.2.2.1
  by_cases lz : xs (nI i0 + 3).toNatClampNeg = 0
  · obtain ⟨⟨q1, q2, q3⟩, q4⟩ := r_lose hI (xs (nI i0 + 1).toNatClampNeg) (xs (nI i0 + 2).toNatClampNeg) 0
    refine lv_aload_n (pc := 544) hx hb dL_law_544 rfl (lv_at hl 3 rfl) ?_
    refine lv_aload_n (pc := 545) hx hb dL_law_545 rfl (lv_at hl 4 rfl) ?_
    refine lv_iload (pc := 546) hx hb dL_law_546 (lv_at hl 0 rfl) ?_
    refine lv_iconst (pc := 548) (v := 1) hx hb dL_law_548 (by decide) ?_
    refine lv_iadd (pc := 549) hx hb dL_law_549 ?_
    refine va_sld (pc := 550) hx hb hX hbl hbA P.2.2.1 w1 dL_law_550 ?_
    refine lv_aload_n (pc := 551) hx hb dL_law_551 rfl (lv_at hl 4 rfl) ?_
    refine lv_iload (pc := 552) hx hb dL_law_552 (lv_at hl 0 rfl) ?_
    refine lv_iconst (pc := 554) (v := 2) hx hb dL_law_554 (by decide) ?_
    refine lv_iadd (pc := 555) hx hb dL_law_555 ?_
    refine va_sld (pc := 556) hx hb hX hbl hbA P.2.2.1 w2 dL_law_556 ?_
    refine lv_aload_n (pc := 557) hx hb dL_law_557 rfl (lv_at hl 4 rfl) ?_
    refine lv_iload (pc := 558) hx hb dL_law_558 (lv_at hl 0 rfl) ?_
    refine lv_iconst (pc := 560) (v := 3) hx hb dL_law_560 (by decide) ?_
    refine lv_iadd (pc := 561) hx hb dL_law_561 ?_
    refine va_sld (pc := 562) hx hb hX hbl hbA P.2.2.1 w3 dL_law_562 ?_
    refine lv_if_eq (pc := 563) (tgt := 570) hx hb dL_law_563 (by decide) (fun h => ?_) (fun h => absurd lz h)
    refine lv_iconst (pc := 570) (v := 0) hx hb dL_law_570 (by decide) ?_
    refine lv_aload_n (pc := 571) hx hb dL_law_571 rfl (lv_at hl 1 rfl) ?_
    refine A_callW (pc := 572) (As := [.ref (e_ad η 0), .int (xs (nI i0 + 1).toNatClampNeg), .int (xs (nI i0 + 2).toNatClampNeg), .int (0), .ref ob]) (rest := []) C V hEC K E9 hl.1 P (kL_lose l hl9 D cI cO cJ t0 η σ ob lf (xs (nI i0 + 1).toNatClampNeg) (xs (nI i0 + 2).toNatClampNeg) 0 hG (fun _ => gk_lose hG (xs (nI i0 + 1).toNatClampNeg) (xs (nI i0 + 2).toNatClampNeg) 0)) fnL_lose gL_law_L_lose rfl rfl ⟨Nat.le_trans (Nat.le_of_ble_eq_true rfl) hRf, Nat.le_trans (Nat.le_of_ble_eq_true rfl) hRl⟩ (Nat.le_of_ble_eq_true rfl) ⟨by omega, by omega⟩ dL_law_572 (fun η2 H locs P hG2 h02 => ?_)
    refine lv_istore (pc := 575) (lv' := [(5, .int _), (4, .int (nI i0)), (3, .ref ob), (2, .ref m0), (1, .ref (e_ad η 0)), (0, .ref b)]) hx hb dL_law_575 hl (by decide) rfl (fun ls hl => ?_)
    refine lv_aload_n (pc := 577) hx hb dL_law_577 rfl (lv_at hl 3 rfl) ?_
    refine lv_aload_n (pc := 578) hx hb dL_law_578 rfl (lv_at hl 5 rfl) ?_
    refine lv_iload (pc := 579) hx hb dL_law_579 (lv_at hl 1 rfl) ?_
    refine lv_iconst (pc := 581) (v := 1) hx hb dL_law_581 (by decide) ?_
    refine lv_iadd (pc := 582) hx hb dL_law_582 ?_
    refine va_sld (pc := 583) hx hb hX hbl hbA P.2.2.1 w1 dL_law_583 ?_
    refine lv_aload_n (pc := 584) hx hb dL_law_584 rfl (lv_at hl 5 rfl) ?_
    refine lv_iload (pc := 585) hx hb dL_law_585 (lv_at hl 1 rfl) ?_
    refine lv_iconst (pc := 587) (v := 2) hx hb dL_law_587 (by decide) ?_
    refine lv_iadd (pc := 588) hx hb dL_law_588 ?_
    refine va_sld (pc := 589) hx hb hX hbl hbA P.2.2.1 w2 dL_law_589 ?_
    refine lv_aload_n (pc := 590) hx hb dL_law_590 rfl (lv_at hl 5 rfl) ?_
    refine lv_iload (pc := 591) hx hb dL_law_591 (lv_at hl 1 rfl) ?_
    refine lv_iconst (pc := 593) (v := 3) hx hb dL_law_593 (by decide) ?_
    refine lv_iadd (pc := 594) hx hb dL_law_594 ?_
    refine va_sld (pc := 595) hx hb hX hbl hbA P.2.2.1 w3 dL_law_595 ?_
    refine lv_if_eq (pc := 596) (tgt := 603) hx hb dL_law_596 (by decide) (fun h => ?_) (fun h => absurd lz h)
    refine lv_iconst (pc := 603) (v := 0) hx hb dL_law_603 (by decide) ?_
    refine A_callM (pc := 604) (As := [.int (xs (nI i0 + 1).toNatClampNeg), .int (xs (nI i0 + 2).toNatClampNeg), .int (0)]) (rest := []) C K hl.1 P (kX7_lose l D cI m0 as th σ (xs (nI i0 + 1).toNatClampNeg) (xs (nI i0 + 2).toNatClampNeg) 0 hI.1.1) fnX7_lose rfl gL_law_X7_lose rfl rfl ⟨Nat.le_trans (Nat.le_of_ble_eq_true rfl) hRf, Nat.le_trans (Nat.le_of_ble_eq_true rfl) hRl⟩ (Nat.le_of_ble_eq_true rfl) ⟨by omega, by omega⟩ dL_law_604 (fun H locs P => ?_)
    rw [q3] at P hG2
    refine lv_istore (pc := 607) (lv' := [(6, .int _), (5, .int _), (4, .int (nI i0)), (3, .ref ob), (2, .ref m0), (1, .ref (e_ad η 0)), (0, .ref b)]) hx hb dL_law_607 hl (by decide) rfl (fun ls hl => ?_)
    refine lv_aload_n (pc := 609) hx hb dL_law_609 rfl (lv_at hl 4 rfl) ?_
    refine A_callM (pc := 610) (As := []) (rest := []) C K hl.1 P (kX7_thrown l D cI m0 as _ _) fnX7_thrown rfl gL_law_X7_thrown rfl rfl ⟨Nat.le_trans (Nat.le_of_ble_eq_true rfl) hRf, Nat.le_trans (Nat.le_of_ble_eq_true rfl) hRl⟩ (Nat.le_of_ble_eq_true rfl) ⟨by omega, by omega⟩ dL_law_610 (fun H locs P => ?_)
    refine lv_iload (pc := 613) hx hb dL_law_613 (lv_at hl 1 rfl) ?_
    refine lv_icmp_eq (pc := 615) (tgt := 620) hx hb dL_law_615 (by decide) (fun _ => ?_) (fun h => absurd q1.symm h)
    refine lv_iload (pc := 620) hx hb dL_law_620 (lv_at hl 1 rfl) ?_
    refine lv_if_ne (pc := 622) (tgt := 637) hx hb dL_law_622 (by decide) (fun _ => ?_) (fun ck => ?_)
    · refine lv_goto (pc := 637) (tgt := 1593) hx hb dL_law_637 (by decide) ?_
      exact W.widen (by omega) (by omega) (kk η2 _ _ _ H locs ls q4 hG2 h02 P (lv_sub hl [2, 3, 4, 5, 6] rfl))
    · have g0 : (g_lose σ (xs (nI i0 + 1).toNatClampNeg) (xs (nI i0 + 2).toNatClampNeg) 0).1 = 0 := kc123_0 ck
      have q5 := q2 g0
      refine lv_aload_n (pc := 625) hx hb dL_law_625 rfl (lv_at hl 3 rfl) ?_
      refine lv_iconst (pc := 626) (v := 0) hx hb dL_law_626 (by decide) ?_
      refine va_lald (pc := 627) hx hb K P.1 0 2 rfl rfl vp_in01 dL_law_627 ?_
      refine lv_iload (pc := 628) hx hb dL_law_628 (lv_at hl 0 rfl) ?_
      refine lv_i2l (pc := 630) (v := (m_lose σ (xs (nI i0 + 1).toNatClampNeg) (xs (nI i0 + 2).toNatClampNeg) 0).2.1.toInt64) hx hb dL_law_630 rfl ?_
      refine W.lcmp (pc := 631) hx hb dL_law_631 ?_
      refine lv_if_eq (pc := 632) (tgt := 637) hx hb dL_law_632 (by decide) (fun _ => ?_) (fun h => absurd ?_ h)
      · refine lv_goto (pc := 637) (tgt := 1593) hx hb dL_law_637 (by decide) ?_
        exact W.widen (by omega) (by omega) (kk η2 _ _ _ H locs ls q4 hG2 h02 P (lv_sub hl [2, 3, 4, 5, 6] rfl))
      · show lg_cmp ((if (g_lose σ (xs (nI i0 + 1).toNatClampNeg) (xs (nI i0 + 2).toNatClampNeg) 0).1 = 0 then vp_updL lf 0 (g_lose σ (xs (nI i0 + 1).toNatClampNeg) (xs (nI i0 + 2).toNatClampNeg) 0).2.1.toInt64 else lf) ((0 : Int32).toNatClampNeg)) _ = 0
        rw [if_pos g0, q5, show (0 : Int32).toNatClampNeg = 0 by decide, pk_uLs]
        exact lg_same _
  · obtain ⟨⟨q1, q2, q3⟩, q4⟩ := r_lose hI (xs (nI i0 + 1).toNatClampNeg) (xs (nI i0 + 2).toNatClampNeg) 1
    refine lv_aload_n (pc := 544) hx hb dL_law_544 rfl (lv_at hl 3 rfl) ?_
    refine lv_aload_n (pc := 545) hx hb dL_law_545 rfl (lv_at hl 4 rfl) ?_
    refine lv_iload (pc := 546) hx hb dL_law_546 (lv_at hl 0 rfl) ?_
    refine lv_iconst (pc := 548) (v := 1) hx hb dL_law_548 (by decide) ?_
    refine lv_iadd (pc := 549) hx hb dL_law_549 ?_
    refine va_sld (pc := 550) hx hb hX hbl hbA P.2.2.1 w1 dL_law_550 ?_
    refine lv_aload_n (pc := 551) hx hb dL_law_551 rfl (lv_at hl 4 rfl) ?_
    refine lv_iload (pc := 552) hx hb dL_law_552 (lv_at hl 0 rfl) ?_
    refine lv_iconst (pc := 554) (v := 2) hx hb dL_law_554 (by decide) ?_
    refine lv_iadd (pc := 555) hx hb dL_law_555 ?_
    refine va_sld (pc := 556) hx hb hX hbl hbA P.2.2.1 w2 dL_law_556 ?_
    refine lv_aload_n (pc := 557) hx hb dL_law_557 rfl (lv_at hl 4 rfl) ?_
    refine lv_iload (pc := 558) hx hb dL_law_558 (lv_at hl 0 rfl) ?_
    refine lv_iconst (pc := 560) (v := 3) hx hb dL_law_560 (by decide) ?_
    refine lv_iadd (pc := 561) hx hb dL_law_561 ?_
    refine va_sld (pc := 562) hx hb hX hbl hbA P.2.2.1 w3 dL_law_562 ?_
    refine lv_if_eq (pc := 563) (tgt := 570) hx hb dL_law_563 (by decide) (fun h => absurd h lz) (fun h => ?_)
    refine lv_iconst (pc := 566) (v := 1) hx hb dL_law_566 (by decide) ?_
    refine lv_goto (pc := 567) (tgt := 571) hx hb dL_law_567 (by decide) ?_
    refine lv_aload_n (pc := 571) hx hb dL_law_571 rfl (lv_at hl 1 rfl) ?_
    refine A_callW (pc := 572) (As := [.ref (e_ad η 0), .int (xs (nI i0 + 1).toNatClampNeg), .int (xs (nI i0 + 2).toNatClampNeg), .int (1), .ref ob]) (rest := []) C V hEC K E9 hl.1 P (kL_lose l hl9 D cI cO cJ t0 η σ ob lf (xs (nI i0 + 1).toNatClampNeg) (xs (nI i0 + 2).toNatClampNeg) 1 hG (fun _ => gk_lose hG (xs (nI i0 + 1).toNatClampNeg) (xs (nI i0 + 2).toNatClampNeg) 1)) fnL_lose gL_law_L_lose rfl rfl ⟨Nat.le_trans (Nat.le_of_ble_eq_true rfl) hRf, Nat.le_trans (Nat.le_of_ble_eq_true rfl) hRl⟩ (Nat.le_of_ble_eq_true rfl) ⟨by omega, by omega⟩ dL_law_572 (fun η2 H locs P hG2 h02 => ?_)
    refine lv_istore (pc := 575) (lv' := [(5, .int _), (4, .int (nI i0)), (3, .ref ob), (2, .ref m0), (1, .ref (e_ad η 0)), (0, .ref b)]) hx hb dL_law_575 hl (by decide) rfl (fun ls hl => ?_)
    refine lv_aload_n (pc := 577) hx hb dL_law_577 rfl (lv_at hl 3 rfl) ?_
    refine lv_aload_n (pc := 578) hx hb dL_law_578 rfl (lv_at hl 5 rfl) ?_
    refine lv_iload (pc := 579) hx hb dL_law_579 (lv_at hl 1 rfl) ?_
    refine lv_iconst (pc := 581) (v := 1) hx hb dL_law_581 (by decide) ?_
    refine lv_iadd (pc := 582) hx hb dL_law_582 ?_
    refine va_sld (pc := 583) hx hb hX hbl hbA P.2.2.1 w1 dL_law_583 ?_
    refine lv_aload_n (pc := 584) hx hb dL_law_584 rfl (lv_at hl 5 rfl) ?_
    refine lv_iload (pc := 585) hx hb dL_law_585 (lv_at hl 1 rfl) ?_
    refine lv_iconst (pc := 587) (v := 2) hx hb dL_law_587 (by decide) ?_
    refine lv_iadd (pc := 588) hx hb dL_law_588 ?_
    refine va_sld (pc := 589) hx hb hX hbl hbA P.2.2.1 w2 dL_law_589 ?_
    refine lv_aload_n (pc := 590) hx hb dL_law_590 rfl (lv_at hl 5 rfl) ?_
    refine lv_iload (pc := 591) hx hb dL_law_591 (lv_at hl 1 rfl) ?_
    refine lv_iconst (pc := 593) (v := 3) hx hb dL_law_593 (by decide) ?_
    refine lv_iadd (pc := 594) hx hb dL_law_594 ?_
    refine va_sld (pc := 595) hx hb hX hbl hbA P.2.2.1 w3 dL_law_595 ?_
    refine lv_if_eq (pc := 596) (tgt := 603) hx hb dL_law_596 (by decide) (fun h => absurd h lz) (fun h => ?_)
    refine lv_iconst (pc := 599) (v := 1) hx hb dL_law_599 (by decide) ?_
    refine lv_goto (pc := 600) (tgt := 604) hx hb dL_law_600 (by decide) ?_
    refine A_callM (pc := 604) (As := [.int (xs (nI i0 + 1).toNatClampNeg), .int (xs (nI i0 + 2).toNatClampNeg), .int (1)]) (rest := []) C K hl.1 P (kX7_lose l D cI m0 as th σ (xs (nI i0 + 1).toNatClampNeg) (xs (nI i0 + 2).toNatClampNeg) 1 hI.1.1) fnX7_lose rfl gL_law_X7_lose rfl rfl ⟨Nat.le_trans (Nat.le_of_ble_eq_true rfl) hRf, Nat.le_trans (Nat.le_of_ble_eq_true rfl) hRl⟩ (Nat.le_of_ble_eq_true rfl) ⟨by omega, by omega⟩ dL_law_604 (fun H locs P => ?_)
    rw [q3] at P hG2
    refine lv_istore (pc := 607) (lv' := [(6, .int _), (5, .int _), (4, .int (nI i0)), (3, .ref ob), (2, .ref m0), (1, .ref (e_ad η 0)), (0, .ref b)]) hx hb dL_law_607 hl (by decide) rfl (fun ls hl => ?_)
    refine lv_aload_n (pc := 609) hx hb dL_law_609 rfl (lv_at hl 4 rfl) ?_
    refine A_callM (pc := 610) (As := []) (rest := []) C K hl.1 P (kX7_thrown l D cI m0 as _ _) fnX7_thrown rfl gL_law_X7_thrown rfl rfl ⟨Nat.le_trans (Nat.le_of_ble_eq_true rfl) hRf, Nat.le_trans (Nat.le_of_ble_eq_true rfl) hRl⟩ (Nat.le_of_ble_eq_true rfl) ⟨by omega, by omega⟩ dL_law_610 (fun H locs P => ?_)
    refine lv_iload (pc := 613) hx hb dL_law_613 (lv_at hl 1 rfl) ?_
    refine lv_icmp_eq (pc := 615) (tgt := 620) hx hb dL_law_615 (by decide) (fun _ => ?_) (fun h => absurd q1.symm h)
    refine lv_iload (pc := 620) hx hb dL_law_620 (lv_at hl 1 rfl) ?_
    refine lv_if_ne (pc := 622) (tgt := 637) hx hb dL_law_622 (by decide) (fun _ => ?_) (fun ck => ?_)
    · refine lv_goto (pc := 637) (tgt := 1593) hx hb dL_law_637 (by decide) ?_
      exact W.widen (by omega) (by omega) (kk η2 _ _ _ H locs ls q4 hG2 h02 P (lv_sub hl [2, 3, 4, 5, 6] rfl))
    · have g0 : (g_lose σ (xs (nI i0 + 1).toNatClampNeg) (xs (nI i0 + 2).toNatClampNeg) 1).1 = 0 := kc123_0 ck
      have q5 := q2 g0
      refine lv_aload_n (pc := 625) hx hb dL_law_625 rfl (lv_at hl 3 rfl) ?_
      refine lv_iconst (pc := 626) (v := 0) hx hb dL_law_626 (by decide) ?_
      refine va_lald (pc := 627) hx hb K P.1 0 2 rfl rfl vp_in01 dL_law_627 ?_
      refine lv_iload (pc := 628) hx hb dL_law_628 (lv_at hl 0 rfl) ?_
      refine lv_i2l (pc := 630) (v := (m_lose σ (xs (nI i0 + 1).toNatClampNeg) (xs (nI i0 + 2).toNatClampNeg) 1).2.1.toInt64) hx hb dL_law_630 rfl ?_
      refine W.lcmp (pc := 631) hx hb dL_law_631 ?_
      refine lv_if_eq (pc := 632) (tgt := 637) hx hb dL_law_632 (by decide) (fun _ => ?_) (fun h => absurd ?_ h)
      · refine lv_goto (pc := 637) (tgt := 1593) hx hb dL_law_637 (by decide) ?_
        exact W.widen (by omega) (by omega) (kk η2 _ _ _ H locs ls q4 hG2 h02 P (lv_sub hl [2, 3, 4, 5, 6] rfl))
      · show lg_cmp ((if (g_lose σ (xs (nI i0 + 1).toNatClampNeg) (xs (nI i0 + 2).toNatClampNeg) 1).1 = 0 then vp_updL lf 0 (g_lose σ (xs (nI i0 + 1).toNatClampNeg) (xs (nI i0 + 2).toNatClampNeg) 1).2.1.toInt64 else lf) ((0 : Int32).toNatClampNeg)) _ = 0
        rw [if_pos g0, q5, show (0 : Int32).toNatClampNeg = 0 by decide, pk_uLs]
        exact lg_same _
set_option maxHeartbeats 4000000 in
theorem law_release (hl9 : l.stackTraces = false) (C : Cx RL p s m args meth c cL_law 7 wsL_law ret) (V : EnvV s) (hEC : EnvC s) (K : va_K D vwCl (tyL cI cO cJ) s) (E9 : EnvH t0 A s s.heap) (hX : va_X b L xs s s.heap) (hbl : b < s.heap.size) (hbA : ¬ A b) (hL : L ≤ 3072) (hi : i0 + 6 ≤ L) (hRf : 11 ≤ R.frames) (hRl : 414 ≤ R.locals) (hz : cells + 12 ≤ R.cells ∧ slots + 500 ≤ R.slots) (hI : Inv σ) (hG : Gok t0 η σ)
    (P : Hp D A s (((ob, ArL cJ lf) :: G_W cI cO η σ) ++ M_W cI m0 as th σ) H locs) (hl : lv_has ls 7 [(4, .int (nI i0)), (3, .ref ob), (2, .ref m0), (1, .ref (e_ad η 0)), (0, .ref b)])
    (kk : ∀ (η' : Eg) (σ' : Sg) (th' : Int32) (lf' : Nat → Int64) (H : Heap) (locs : List Loc) (ls : Array Slot), Inv σ' → Gok t0 η' σ' → e_ad η' 0 = e_ad η 0 → Hp D A s (((ob, ArL cJ lf') :: G_W cI cO η' σ') ++ M_W cI m0 as th' σ') H locs → lv_has ls 7 [(4, .int (nI i0)), (3, .ref ob), (2, .ref m0), (1, .ref (e_ad η 0)), (0, .ref b)] → W p l e R s m args below meth c H locs (cells + 12) (slots + 500) Q (F0 m 1593 ls [])) : W p l e R s m args below meth c H locs cells slots Q (F0 m 640 ls []) := by
  obtain ⟨w0, w1, w2, w3, w4, w5⟩ := vpj hL hi
  have hx := C.1
  have hb := C.2.1
  have hml := C.2.2.1
  have hown := C.2.2.2.1
  obtain ⟨⟨q1, q2, q3⟩, q4⟩ := r_release hI (xs (nI i0 + 1).toNatClampNeg) (xs (nI i0 + 2).toNatClampNeg)
  refine lv_aload_n (pc := 640) hx hb dL_law_640 rfl (lv_at hl 3 rfl) ?_
  refine lv_aload_n (pc := 641) hx hb dL_law_641 rfl (lv_at hl 4 rfl) ?_
  refine lv_iload (pc := 642) hx hb dL_law_642 (lv_at hl 0 rfl) ?_
  refine lv_iconst (pc := 644) (v := 1) hx hb dL_law_644 (by decide) ?_
  refine lv_iadd (pc := 645) hx hb dL_law_645 ?_
  refine va_sld (pc := 646) hx hb hX hbl hbA P.2.2.1 w1 dL_law_646 ?_
  refine lv_aload_n (pc := 647) hx hb dL_law_647 rfl (lv_at hl 4 rfl) ?_
  refine lv_iload (pc := 648) hx hb dL_law_648 (lv_at hl 0 rfl) ?_
  refine lv_iconst (pc := 650) (v := 2) hx hb dL_law_650 (by decide) ?_
  refine lv_iadd (pc := 651) hx hb dL_law_651 ?_
  refine va_sld (pc := 652) hx hb hX hbl hbA P.2.2.1 w2 dL_law_652 ?_
  refine lv_aload_n (pc := 653) hx hb dL_law_653 rfl (lv_at hl 1 rfl) ?_
  refine A_callW (pc := 654) (As := [.ref (e_ad η 0), .int (xs (nI i0 + 1).toNatClampNeg), .int (xs (nI i0 + 2).toNatClampNeg), .ref ob]) (rest := []) C V hEC K E9 hl.1 P (kL_release l hl9 D cI cO cJ t0 η σ ob lf (xs (nI i0 + 1).toNatClampNeg) (xs (nI i0 + 2).toNatClampNeg) hG) fnL_release gL_law_L_release rfl rfl ⟨Nat.le_trans (Nat.le_of_ble_eq_true rfl) hRf, Nat.le_trans (Nat.le_of_ble_eq_true rfl) hRl⟩ (Nat.le_of_ble_eq_true rfl) ⟨by omega, by omega⟩ dL_law_654 (fun η2 H locs P hG2 h02 => ?_)
  refine lv_istore (pc := 657) (lv' := [(5, .int _), (4, .int (nI i0)), (3, .ref ob), (2, .ref m0), (1, .ref (e_ad η 0)), (0, .ref b)]) hx hb dL_law_657 hl (by decide) rfl (fun ls hl => ?_)
  refine lv_aload_n (pc := 659) hx hb dL_law_659 rfl (lv_at hl 3 rfl) ?_
  refine lv_aload_n (pc := 660) hx hb dL_law_660 rfl (lv_at hl 5 rfl) ?_
  refine lv_iload (pc := 661) hx hb dL_law_661 (lv_at hl 1 rfl) ?_
  refine lv_iconst (pc := 663) (v := 1) hx hb dL_law_663 (by decide) ?_
  refine lv_iadd (pc := 664) hx hb dL_law_664 ?_
  refine va_sld (pc := 665) hx hb hX hbl hbA P.2.2.1 w1 dL_law_665 ?_
  refine lv_aload_n (pc := 666) hx hb dL_law_666 rfl (lv_at hl 5 rfl) ?_
  refine lv_iload (pc := 667) hx hb dL_law_667 (lv_at hl 1 rfl) ?_
  refine lv_iconst (pc := 669) (v := 2) hx hb dL_law_669 (by decide) ?_
  refine lv_iadd (pc := 670) hx hb dL_law_670 ?_
  refine va_sld (pc := 671) hx hb hX hbl hbA P.2.2.1 w2 dL_law_671 ?_
  refine A_callM (pc := 672) (As := [.int (xs (nI i0 + 1).toNatClampNeg), .int (xs (nI i0 + 2).toNatClampNeg)]) (rest := []) C K hl.1 P (kX7_release l D cI m0 as th σ (xs (nI i0 + 1).toNatClampNeg) (xs (nI i0 + 2).toNatClampNeg) hI.1.1 hI.1.2.2) fnX7_release rfl gL_law_X7_release rfl rfl ⟨Nat.le_trans (Nat.le_of_ble_eq_true rfl) hRf, Nat.le_trans (Nat.le_of_ble_eq_true rfl) hRl⟩ (Nat.le_of_ble_eq_true rfl) ⟨by omega, by omega⟩ dL_law_672 (fun H locs P => ?_)
  rw [q3] at P hG2
  refine lv_istore (pc := 675) (lv' := [(6, .int _), (5, .int _), (4, .int (nI i0)), (3, .ref ob), (2, .ref m0), (1, .ref (e_ad η 0)), (0, .ref b)]) hx hb dL_law_675 hl (by decide) rfl (fun ls hl => ?_)
  refine lv_aload_n (pc := 677) hx hb dL_law_677 rfl (lv_at hl 4 rfl) ?_
  refine A_callM (pc := 678) (As := []) (rest := []) C K hl.1 P (kX7_thrown l D cI m0 as _ _) fnX7_thrown rfl gL_law_X7_thrown rfl rfl ⟨Nat.le_trans (Nat.le_of_ble_eq_true rfl) hRf, Nat.le_trans (Nat.le_of_ble_eq_true rfl) hRl⟩ (Nat.le_of_ble_eq_true rfl) ⟨by omega, by omega⟩ dL_law_678 (fun H locs P => ?_)
  refine lv_iload (pc := 681) hx hb dL_law_681 (lv_at hl 1 rfl) ?_
  refine lv_icmp_eq (pc := 683) (tgt := 688) hx hb dL_law_683 (by decide) (fun _ => ?_) (fun h => absurd q1.symm h)
  refine lv_iload (pc := 688) hx hb dL_law_688 (lv_at hl 1 rfl) ?_
  refine lv_if_ne (pc := 690) (tgt := 705) hx hb dL_law_690 (by decide) (fun _ => ?_) (fun ck => ?_)
  · refine lv_goto (pc := 705) (tgt := 1593) hx hb dL_law_705 (by decide) ?_
    exact W.widen (by omega) (by omega) (kk η2 _ _ _ H locs ls q4 hG2 h02 P (lv_sub hl [2, 3, 4, 5, 6] rfl))
  · have g0 : (g_release σ (xs (nI i0 + 1).toNatClampNeg) (xs (nI i0 + 2).toNatClampNeg)).1 = 0 := kc123_0 ck
    have q5 := q2 g0
    refine lv_aload_n (pc := 693) hx hb dL_law_693 rfl (lv_at hl 3 rfl) ?_
    refine lv_iconst (pc := 694) (v := 0) hx hb dL_law_694 (by decide) ?_
    refine va_lald (pc := 695) hx hb K P.1 0 2 rfl rfl vp_in01 dL_law_695 ?_
    refine lv_iload (pc := 696) hx hb dL_law_696 (lv_at hl 0 rfl) ?_
    refine lv_i2l (pc := 698) (v := (m_release σ (xs (nI i0 + 1).toNatClampNeg) (xs (nI i0 + 2).toNatClampNeg)).2.1.toInt64) hx hb dL_law_698 rfl ?_
    refine W.lcmp (pc := 699) hx hb dL_law_699 ?_
    refine lv_if_eq (pc := 700) (tgt := 705) hx hb dL_law_700 (by decide) (fun _ => ?_) (fun h => absurd ?_ h)
    · refine lv_goto (pc := 705) (tgt := 1593) hx hb dL_law_705 (by decide) ?_
      exact W.widen (by omega) (by omega) (kk η2 _ _ _ H locs ls q4 hG2 h02 P (lv_sub hl [2, 3, 4, 5, 6] rfl))
    · show lg_cmp ((if (g_release σ (xs (nI i0 + 1).toNatClampNeg) (xs (nI i0 + 2).toNatClampNeg)).1 = 0 then vp_updL lf 0 (g_release σ (xs (nI i0 + 1).toNatClampNeg) (xs (nI i0 + 2).toNatClampNeg)).2.1.toInt64 else lf) ((0 : Int32).toNatClampNeg)) _ = 0
      rw [if_pos g0, q5, show (0 : Int32).toNatClampNeg = 0 by decide, pk_uLs]
      exact lg_same _
set_option maxHeartbeats 4000000 in
theorem law_permit (hl9 : l.stackTraces = false) (C : Cx RL p s m args meth c cL_law 7 wsL_law ret) (V : EnvV s) (hEC : EnvC s) (K : va_K D vwCl (tyL cI cO cJ) s) (E9 : EnvH t0 A s s.heap) (hX : va_X b L xs s s.heap) (hbl : b < s.heap.size) (hbA : ¬ A b) (hL : L ≤ 3072) (hi : i0 + 6 ≤ L) (hRf : 11 ≤ R.frames) (hRl : 414 ≤ R.locals) (hz : cells + 12 ≤ R.cells ∧ slots + 500 ≤ R.slots) (hI : Inv σ) (hG : Gok t0 η σ)
    (P : Hp D A s (((ob, ArL cJ lf) :: G_W cI cO η σ) ++ M_W cI m0 as th σ) H locs) (hl : lv_has ls 7 [(4, .int (nI i0)), (3, .ref ob), (2, .ref m0), (1, .ref (e_ad η 0)), (0, .ref b)])
    (kk : ∀ (η' : Eg) (σ' : Sg) (th' : Int32) (lf' : Nat → Int64) (H : Heap) (locs : List Loc) (ls : Array Slot), Inv σ' → Gok t0 η' σ' → e_ad η' 0 = e_ad η 0 → Hp D A s (((ob, ArL cJ lf') :: G_W cI cO η' σ') ++ M_W cI m0 as th' σ') H locs → lv_has ls 7 [(4, .int (nI i0)), (3, .ref ob), (2, .ref m0), (1, .ref (e_ad η 0)), (0, .ref b)] → W p l e R s m args below meth c H locs (cells + 12) (slots + 500) Q (F0 m 1593 ls [])) : W p l e R s m args below meth c H locs cells slots Q (F0 m 708 ls []) := by
  obtain ⟨w0, w1, w2, w3, w4, w5⟩ := vpj hL hi
  have hx := C.1
  have hb := C.2.1
  have hml := C.2.2.1
  have hown := C.2.2.2.1
  obtain ⟨⟨q1, q2, q3⟩, q4⟩ := r_permit hI (xs (nI i0 + 1).toNatClampNeg)
  refine lv_aload_n (pc := 708) hx hb dL_law_708 rfl (lv_at hl 3 rfl) ?_
  refine lv_aload_n (pc := 709) hx hb dL_law_709 rfl (lv_at hl 4 rfl) ?_
  refine lv_iload (pc := 710) hx hb dL_law_710 (lv_at hl 0 rfl) ?_
  refine lv_iconst (pc := 712) (v := 1) hx hb dL_law_712 (by decide) ?_
  refine lv_iadd (pc := 713) hx hb dL_law_713 ?_
  refine va_sld (pc := 714) hx hb hX hbl hbA P.2.2.1 w1 dL_law_714 ?_
  refine lv_aload_n (pc := 715) hx hb dL_law_715 rfl (lv_at hl 1 rfl) ?_
  refine A_callW (pc := 716) (As := [.ref (e_ad η 0), .int (xs (nI i0 + 1).toNatClampNeg), .ref ob]) (rest := []) C V hEC K E9 hl.1 P (kL_permit l hl9 D cI cO cJ t0 η σ ob lf (xs (nI i0 + 1).toNatClampNeg) hG (fun _ => gk_permit hG (xs (nI i0 + 1).toNatClampNeg))) fnL_permit gL_law_L_permit rfl rfl ⟨Nat.le_trans (Nat.le_of_ble_eq_true rfl) hRf, Nat.le_trans (Nat.le_of_ble_eq_true rfl) hRl⟩ (Nat.le_of_ble_eq_true rfl) ⟨by omega, by omega⟩ dL_law_716 (fun η2 H locs P hG2 h02 => ?_)
  refine lv_istore (pc := 719) (lv' := [(5, .int _), (4, .int (nI i0)), (3, .ref ob), (2, .ref m0), (1, .ref (e_ad η 0)), (0, .ref b)]) hx hb dL_law_719 hl (by decide) rfl (fun ls hl => ?_)
  refine lv_aload_n (pc := 721) hx hb dL_law_721 rfl (lv_at hl 3 rfl) ?_
  refine lv_aload_n (pc := 722) hx hb dL_law_722 rfl (lv_at hl 5 rfl) ?_
  refine lv_iload (pc := 723) hx hb dL_law_723 (lv_at hl 1 rfl) ?_
  refine lv_iconst (pc := 725) (v := 1) hx hb dL_law_725 (by decide) ?_
  refine lv_iadd (pc := 726) hx hb dL_law_726 ?_
  refine va_sld (pc := 727) hx hb hX hbl hbA P.2.2.1 w1 dL_law_727 ?_
  refine A_callM (pc := 728) (As := [.int (xs (nI i0 + 1).toNatClampNeg)]) (rest := []) C K hl.1 P (kX7_permit l D cI m0 as th σ (xs (nI i0 + 1).toNatClampNeg) ) fnX7_permit rfl gL_law_X7_permit rfl rfl ⟨Nat.le_trans (Nat.le_of_ble_eq_true rfl) hRf, Nat.le_trans (Nat.le_of_ble_eq_true rfl) hRl⟩ (Nat.le_of_ble_eq_true rfl) ⟨by omega, by omega⟩ dL_law_728 (fun H locs P => ?_)
  rw [q3] at P hG2
  refine lv_istore (pc := 731) (lv' := [(6, .int _), (5, .int _), (4, .int (nI i0)), (3, .ref ob), (2, .ref m0), (1, .ref (e_ad η 0)), (0, .ref b)]) hx hb dL_law_731 hl (by decide) rfl (fun ls hl => ?_)
  refine lv_aload_n (pc := 733) hx hb dL_law_733 rfl (lv_at hl 4 rfl) ?_
  refine A_callM (pc := 734) (As := []) (rest := []) C K hl.1 P (kX7_thrown l D cI m0 as _ _) fnX7_thrown rfl gL_law_X7_thrown rfl rfl ⟨Nat.le_trans (Nat.le_of_ble_eq_true rfl) hRf, Nat.le_trans (Nat.le_of_ble_eq_true rfl) hRl⟩ (Nat.le_of_ble_eq_true rfl) ⟨by omega, by omega⟩ dL_law_734 (fun H locs P => ?_)
  refine lv_iload (pc := 737) hx hb dL_law_737 (lv_at hl 1 rfl) ?_
  refine lv_icmp_eq (pc := 739) (tgt := 744) hx hb dL_law_739 (by decide) (fun _ => ?_) (fun h => absurd q1.symm h)
  refine lv_iload (pc := 744) hx hb dL_law_744 (lv_at hl 1 rfl) ?_
  refine lv_if_ne (pc := 746) (tgt := 761) hx hb dL_law_746 (by decide) (fun _ => ?_) (fun ck => ?_)
  · refine lv_goto (pc := 761) (tgt := 1593) hx hb dL_law_761 (by decide) ?_
    exact W.widen (by omega) (by omega) (kk η2 _ _ _ H locs ls q4 hG2 h02 P (lv_sub hl [2, 3, 4, 5, 6] rfl))
  · have g0 : (g_permit σ (xs (nI i0 + 1).toNatClampNeg)).1 = 0 := kc1_0 ck
    have q5 := q2 g0
    refine lv_aload_n (pc := 749) hx hb dL_law_749 rfl (lv_at hl 3 rfl) ?_
    refine lv_iconst (pc := 750) (v := 0) hx hb dL_law_750 (by decide) ?_
    refine va_lald (pc := 751) hx hb K P.1 0 2 rfl rfl vp_in01 dL_law_751 ?_
    refine lv_iload (pc := 752) hx hb dL_law_752 (lv_at hl 0 rfl) ?_
    refine lv_i2l (pc := 754) (v := (m_permit σ (xs (nI i0 + 1).toNatClampNeg)).2.1.toInt64) hx hb dL_law_754 rfl ?_
    refine W.lcmp (pc := 755) hx hb dL_law_755 ?_
    refine lv_if_eq (pc := 756) (tgt := 761) hx hb dL_law_756 (by decide) (fun _ => ?_) (fun h => absurd ?_ h)
    · refine lv_goto (pc := 761) (tgt := 1593) hx hb dL_law_761 (by decide) ?_
      exact W.widen (by omega) (by omega) (kk η2 _ _ _ H locs ls q4 hG2 h02 P (lv_sub hl [2, 3, 4, 5, 6] rfl))
    · show lg_cmp ((if (g_permit σ (xs (nI i0 + 1).toNatClampNeg)).1 = 0 then vp_updL lf 0 (g_permit σ (xs (nI i0 + 1).toNatClampNeg)).2.1.toInt64 else lf) ((0 : Int32).toNatClampNeg)) _ = 0
      rw [if_pos g0, q5, show (0 : Int32).toNatClampNeg = 0 by decide, pk_uLs]
      exact lg_same _
set_option maxHeartbeats 4000000 in
theorem law_denature (hl9 : l.stackTraces = false) (C : Cx RL p s m args meth c cL_law 7 wsL_law ret) (V : EnvV s) (hEC : EnvC s) (K : va_K D vwCl (tyL cI cO cJ) s) (E9 : EnvH t0 A s s.heap) (hX : va_X b L xs s s.heap) (hbl : b < s.heap.size) (hbA : ¬ A b) (hL : L ≤ 3072) (hi : i0 + 6 ≤ L) (hRf : 11 ≤ R.frames) (hRl : 414 ≤ R.locals) (hz : cells + 12 ≤ R.cells ∧ slots + 500 ≤ R.slots) (hI : Inv σ) (hG : Gok t0 η σ)
    (P : Hp D A s (((ob, ArL cJ lf) :: G_W cI cO η σ) ++ M_W cI m0 as th σ) H locs) (hl : lv_has ls 7 [(4, .int (nI i0)), (3, .ref ob), (2, .ref m0), (1, .ref (e_ad η 0)), (0, .ref b)])
    (kk : ∀ (η' : Eg) (σ' : Sg) (th' : Int32) (lf' : Nat → Int64) (H : Heap) (locs : List Loc) (ls : Array Slot), Inv σ' → Gok t0 η' σ' → e_ad η' 0 = e_ad η 0 → Hp D A s (((ob, ArL cJ lf') :: G_W cI cO η' σ') ++ M_W cI m0 as th' σ') H locs → lv_has ls 7 [(4, .int (nI i0)), (3, .ref ob), (2, .ref m0), (1, .ref (e_ad η 0)), (0, .ref b)] → W p l e R s m args below meth c H locs (cells + 12) (slots + 500) Q (F0 m 1593 ls [])) : W p l e R s m args below meth c H locs cells slots Q (F0 m 764 ls []) := by
  obtain ⟨w0, w1, w2, w3, w4, w5⟩ := vpj hL hi
  have hx := C.1
  have hb := C.2.1
  have hml := C.2.2.1
  have hown := C.2.2.2.1
  obtain ⟨⟨q1, q2, q3⟩, q4⟩ := r_denature hI (xs (nI i0 + 1).toNatClampNeg) (xs (nI i0 + 2).toNatClampNeg)
  refine lv_aload_n (pc := 764) hx hb dL_law_764 rfl (lv_at hl 3 rfl) ?_
  refine lv_aload_n (pc := 765) hx hb dL_law_765 rfl (lv_at hl 4 rfl) ?_
  refine lv_iload (pc := 766) hx hb dL_law_766 (lv_at hl 0 rfl) ?_
  refine lv_iconst (pc := 768) (v := 1) hx hb dL_law_768 (by decide) ?_
  refine lv_iadd (pc := 769) hx hb dL_law_769 ?_
  refine va_sld (pc := 770) hx hb hX hbl hbA P.2.2.1 w1 dL_law_770 ?_
  refine lv_aload_n (pc := 771) hx hb dL_law_771 rfl (lv_at hl 4 rfl) ?_
  refine lv_iload (pc := 772) hx hb dL_law_772 (lv_at hl 0 rfl) ?_
  refine lv_iconst (pc := 774) (v := 2) hx hb dL_law_774 (by decide) ?_
  refine lv_iadd (pc := 775) hx hb dL_law_775 ?_
  refine va_sld (pc := 776) hx hb hX hbl hbA P.2.2.1 w2 dL_law_776 ?_
  refine lv_aload_n (pc := 777) hx hb dL_law_777 rfl (lv_at hl 1 rfl) ?_
  refine A_callW (pc := 778) (As := [.ref (e_ad η 0), .int (xs (nI i0 + 1).toNatClampNeg), .int (xs (nI i0 + 2).toNatClampNeg), .ref ob]) (rest := []) C V hEC K E9 hl.1 P (kL_denature l hl9 D cI cO cJ t0 η σ ob lf (xs (nI i0 + 1).toNatClampNeg) (xs (nI i0 + 2).toNatClampNeg) hG (fun _ => gk_denature hG (xs (nI i0 + 1).toNatClampNeg) (xs (nI i0 + 2).toNatClampNeg))) fnL_denature gL_law_L_denature rfl rfl ⟨Nat.le_trans (Nat.le_of_ble_eq_true rfl) hRf, Nat.le_trans (Nat.le_of_ble_eq_true rfl) hRl⟩ (Nat.le_of_ble_eq_true rfl) ⟨by omega, by omega⟩ dL_law_778 (fun η2 H locs P hG2 h02 => ?_)
  refine lv_istore (pc := 781) (lv' := [(5, .int _), (4, .int (nI i0)), (3, .ref ob), (2, .ref m0), (1, .ref (e_ad η 0)), (0, .ref b)]) hx hb dL_law_781 hl (by decide) rfl (fun ls hl => ?_)
  refine lv_aload_n (pc := 783) hx hb dL_law_783 rfl (lv_at hl 3 rfl) ?_
  refine lv_aload_n (pc := 784) hx hb dL_law_784 rfl (lv_at hl 5 rfl) ?_
  refine lv_iload (pc := 785) hx hb dL_law_785 (lv_at hl 1 rfl) ?_
  refine lv_iconst (pc := 787) (v := 1) hx hb dL_law_787 (by decide) ?_
  refine lv_iadd (pc := 788) hx hb dL_law_788 ?_
  refine va_sld (pc := 789) hx hb hX hbl hbA P.2.2.1 w1 dL_law_789 ?_
  refine lv_aload_n (pc := 790) hx hb dL_law_790 rfl (lv_at hl 5 rfl) ?_
  refine lv_iload (pc := 791) hx hb dL_law_791 (lv_at hl 1 rfl) ?_
  refine lv_iconst (pc := 793) (v := 2) hx hb dL_law_793 (by decide) ?_
  refine lv_iadd (pc := 794) hx hb dL_law_794 ?_
  refine va_sld (pc := 795) hx hb hX hbl hbA P.2.2.1 w2 dL_law_795 ?_
  refine A_callM (pc := 796) (As := [.int (xs (nI i0 + 1).toNatClampNeg), .int (xs (nI i0 + 2).toNatClampNeg)]) (rest := []) C K hl.1 P (kX7_denature l D cI m0 as th σ (xs (nI i0 + 1).toNatClampNeg) (xs (nI i0 + 2).toNatClampNeg) hI.1.1) fnX7_denature rfl gL_law_X7_denature rfl rfl ⟨Nat.le_trans (Nat.le_of_ble_eq_true rfl) hRf, Nat.le_trans (Nat.le_of_ble_eq_true rfl) hRl⟩ (Nat.le_of_ble_eq_true rfl) ⟨by omega, by omega⟩ dL_law_796 (fun H locs P => ?_)
  rw [q3] at P hG2
  refine lv_istore (pc := 799) (lv' := [(6, .int _), (5, .int _), (4, .int (nI i0)), (3, .ref ob), (2, .ref m0), (1, .ref (e_ad η 0)), (0, .ref b)]) hx hb dL_law_799 hl (by decide) rfl (fun ls hl => ?_)
  refine lv_aload_n (pc := 801) hx hb dL_law_801 rfl (lv_at hl 4 rfl) ?_
  refine A_callM (pc := 802) (As := []) (rest := []) C K hl.1 P (kX7_thrown l D cI m0 as _ _) fnX7_thrown rfl gL_law_X7_thrown rfl rfl ⟨Nat.le_trans (Nat.le_of_ble_eq_true rfl) hRf, Nat.le_trans (Nat.le_of_ble_eq_true rfl) hRl⟩ (Nat.le_of_ble_eq_true rfl) ⟨by omega, by omega⟩ dL_law_802 (fun H locs P => ?_)
  refine lv_iload (pc := 805) hx hb dL_law_805 (lv_at hl 1 rfl) ?_
  refine lv_icmp_eq (pc := 807) (tgt := 812) hx hb dL_law_807 (by decide) (fun _ => ?_) (fun h => absurd q1.symm h)
  refine lv_iload (pc := 812) hx hb dL_law_812 (lv_at hl 1 rfl) ?_
  refine lv_if_ne (pc := 814) (tgt := 829) hx hb dL_law_814 (by decide) (fun _ => ?_) (fun ck => ?_)
  · refine lv_goto (pc := 829) (tgt := 1593) hx hb dL_law_829 (by decide) ?_
    exact W.widen (by omega) (by omega) (kk η2 _ _ _ H locs ls q4 hG2 h02 P (lv_sub hl [2, 3, 4, 5, 6] rfl))
  · have g0 : (g_denature σ (xs (nI i0 + 1).toNatClampNeg) (xs (nI i0 + 2).toNatClampNeg)).1 = 0 := kc123_0 ck
    have q5 := q2 g0
    refine lv_aload_n (pc := 817) hx hb dL_law_817 rfl (lv_at hl 3 rfl) ?_
    refine lv_iconst (pc := 818) (v := 0) hx hb dL_law_818 (by decide) ?_
    refine va_lald (pc := 819) hx hb K P.1 0 2 rfl rfl vp_in01 dL_law_819 ?_
    refine lv_iload (pc := 820) hx hb dL_law_820 (lv_at hl 0 rfl) ?_
    refine lv_i2l (pc := 822) (v := (m_denature σ (xs (nI i0 + 1).toNatClampNeg) (xs (nI i0 + 2).toNatClampNeg)).2.1.toInt64) hx hb dL_law_822 rfl ?_
    refine W.lcmp (pc := 823) hx hb dL_law_823 ?_
    refine lv_if_eq (pc := 824) (tgt := 829) hx hb dL_law_824 (by decide) (fun _ => ?_) (fun h => absurd ?_ h)
    · refine lv_goto (pc := 829) (tgt := 1593) hx hb dL_law_829 (by decide) ?_
      exact W.widen (by omega) (by omega) (kk η2 _ _ _ H locs ls q4 hG2 h02 P (lv_sub hl [2, 3, 4, 5, 6] rfl))
    · show lg_cmp ((if (g_denature σ (xs (nI i0 + 1).toNatClampNeg) (xs (nI i0 + 2).toNatClampNeg)).1 = 0 then vp_updL lf 0 (g_denature σ (xs (nI i0 + 1).toNatClampNeg) (xs (nI i0 + 2).toNatClampNeg)).2.1.toInt64 else lf) ((0 : Int32).toNatClampNeg)) _ = 0
      rw [if_pos g0, q5, show (0 : Int32).toNatClampNeg = 0 by decide, pk_uLs]
      exact lg_same _
set_option maxHeartbeats 4000000 in
theorem law_export (hl9 : l.stackTraces = false) (C : Cx RL p s m args meth c cL_law 7 wsL_law ret) (V : EnvV s) (hEC : EnvC s) (K : va_K D vwCl (tyL cI cO cJ) s) (E9 : EnvH t0 A s s.heap) (hX : va_X b L xs s s.heap) (hbl : b < s.heap.size) (hbA : ¬ A b) (hL : L ≤ 3072) (hi : i0 + 6 ≤ L) (hRf : 11 ≤ R.frames) (hRl : 414 ≤ R.locals) (hz : cells + 12 ≤ R.cells ∧ slots + 500 ≤ R.slots) (hI : Inv σ) (hG : Gok t0 η σ)
    (P : Hp D A s (((ob, ArL cJ lf) :: G_W cI cO η σ) ++ M_W cI m0 as th σ) H locs) (hl : lv_has ls 7 [(4, .int (nI i0)), (3, .ref ob), (2, .ref m0), (1, .ref (e_ad η 0)), (0, .ref b)])
    (kk : ∀ (η' : Eg) (σ' : Sg) (th' : Int32) (lf' : Nat → Int64) (H : Heap) (locs : List Loc) (ls : Array Slot), Inv σ' → Gok t0 η' σ' → e_ad η' 0 = e_ad η 0 → Hp D A s (((ob, ArL cJ lf') :: G_W cI cO η' σ') ++ M_W cI m0 as th' σ') H locs → lv_has ls 7 [(4, .int (nI i0)), (3, .ref ob), (2, .ref m0), (1, .ref (e_ad η 0)), (0, .ref b)] → W p l e R s m args below meth c H locs (cells + 12) (slots + 500) Q (F0 m 1593 ls [])) : W p l e R s m args below meth c H locs cells slots Q (F0 m 832 ls []) := by
  obtain ⟨w0, w1, w2, w3, w4, w5⟩ := vpj hL hi
  have hx := C.1
  have hb := C.2.1
  have hml := C.2.2.1
  have hown := C.2.2.2.1
  obtain ⟨⟨q1, q2, q3⟩, q4⟩ := r_export hI (xs (nI i0 + 1).toNatClampNeg)
  refine lv_aload_n (pc := 832) hx hb dL_law_832 rfl (lv_at hl 3 rfl) ?_
  refine lv_aload_n (pc := 833) hx hb dL_law_833 rfl (lv_at hl 4 rfl) ?_
  refine lv_iload (pc := 834) hx hb dL_law_834 (lv_at hl 0 rfl) ?_
  refine lv_iconst (pc := 836) (v := 1) hx hb dL_law_836 (by decide) ?_
  refine lv_iadd (pc := 837) hx hb dL_law_837 ?_
  refine va_sld (pc := 838) hx hb hX hbl hbA P.2.2.1 w1 dL_law_838 ?_
  refine lv_aload_n (pc := 839) hx hb dL_law_839 rfl (lv_at hl 1 rfl) ?_
  refine A_callW (pc := 840) (As := [.ref (e_ad η 0), .int (xs (nI i0 + 1).toNatClampNeg), .ref ob]) (rest := []) C V hEC K E9 hl.1 P (kL_export l hl9 D cI cO cJ t0 η σ ob lf (xs (nI i0 + 1).toNatClampNeg) hG (fun _ => gk_export hG (xs (nI i0 + 1).toNatClampNeg))) fnL_export gL_law_L_export rfl rfl ⟨Nat.le_trans (Nat.le_of_ble_eq_true rfl) hRf, Nat.le_trans (Nat.le_of_ble_eq_true rfl) hRl⟩ (Nat.le_of_ble_eq_true rfl) ⟨by omega, by omega⟩ dL_law_840 (fun η2 H locs P hG2 h02 => ?_)
  refine lv_istore (pc := 843) (lv' := [(5, .int _), (4, .int (nI i0)), (3, .ref ob), (2, .ref m0), (1, .ref (e_ad η 0)), (0, .ref b)]) hx hb dL_law_843 hl (by decide) rfl (fun ls hl => ?_)
  refine lv_aload_n (pc := 845) hx hb dL_law_845 rfl (lv_at hl 3 rfl) ?_
  refine lv_aload_n (pc := 846) hx hb dL_law_846 rfl (lv_at hl 5 rfl) ?_
  refine lv_iload (pc := 847) hx hb dL_law_847 (lv_at hl 1 rfl) ?_
  refine lv_iconst (pc := 849) (v := 1) hx hb dL_law_849 (by decide) ?_
  refine lv_iadd (pc := 850) hx hb dL_law_850 ?_
  refine va_sld (pc := 851) hx hb hX hbl hbA P.2.2.1 w1 dL_law_851 ?_
  refine A_callM (pc := 852) (As := [.int (xs (nI i0 + 1).toNatClampNeg)]) (rest := []) C K hl.1 P (kX7_export l D cI m0 as th σ (xs (nI i0 + 1).toNatClampNeg) hI.1.2.2) fnX7_export rfl gL_law_X7_export rfl rfl ⟨Nat.le_trans (Nat.le_of_ble_eq_true rfl) hRf, Nat.le_trans (Nat.le_of_ble_eq_true rfl) hRl⟩ (Nat.le_of_ble_eq_true rfl) ⟨by omega, by omega⟩ dL_law_852 (fun H locs P => ?_)
  rw [q3] at P hG2
  refine lv_istore (pc := 855) (lv' := [(6, .int _), (5, .int _), (4, .int (nI i0)), (3, .ref ob), (2, .ref m0), (1, .ref (e_ad η 0)), (0, .ref b)]) hx hb dL_law_855 hl (by decide) rfl (fun ls hl => ?_)
  refine lv_aload_n (pc := 857) hx hb dL_law_857 rfl (lv_at hl 4 rfl) ?_
  refine A_callM (pc := 858) (As := []) (rest := []) C K hl.1 P (kX7_thrown l D cI m0 as _ _) fnX7_thrown rfl gL_law_X7_thrown rfl rfl ⟨Nat.le_trans (Nat.le_of_ble_eq_true rfl) hRf, Nat.le_trans (Nat.le_of_ble_eq_true rfl) hRl⟩ (Nat.le_of_ble_eq_true rfl) ⟨by omega, by omega⟩ dL_law_858 (fun H locs P => ?_)
  refine lv_iload (pc := 861) hx hb dL_law_861 (lv_at hl 1 rfl) ?_
  refine lv_icmp_eq (pc := 863) (tgt := 868) hx hb dL_law_863 (by decide) (fun _ => ?_) (fun h => absurd q1.symm h)
  refine lv_iload (pc := 868) hx hb dL_law_868 (lv_at hl 1 rfl) ?_
  refine lv_if_ne (pc := 870) (tgt := 885) hx hb dL_law_870 (by decide) (fun _ => ?_) (fun ck => ?_)
  · refine lv_goto (pc := 885) (tgt := 1593) hx hb dL_law_885 (by decide) ?_
    exact W.widen (by omega) (by omega) (kk η2 _ _ _ H locs ls q4 hG2 h02 P (lv_sub hl [2, 3, 4, 5, 6] rfl))
  · have g0 : (g_export σ (xs (nI i0 + 1).toNatClampNeg)).1 = 0 := kc23_0 ck
    have q5 := q2 g0
    refine lv_aload_n (pc := 873) hx hb dL_law_873 rfl (lv_at hl 3 rfl) ?_
    refine lv_iconst (pc := 874) (v := 0) hx hb dL_law_874 (by decide) ?_
    refine va_lald (pc := 875) hx hb K P.1 0 2 rfl rfl vp_in01 dL_law_875 ?_
    refine lv_iload (pc := 876) hx hb dL_law_876 (lv_at hl 0 rfl) ?_
    refine lv_i2l (pc := 878) (v := (m_export σ (xs (nI i0 + 1).toNatClampNeg)).2.1.toInt64) hx hb dL_law_878 rfl ?_
    refine W.lcmp (pc := 879) hx hb dL_law_879 ?_
    refine lv_if_eq (pc := 880) (tgt := 885) hx hb dL_law_880 (by decide) (fun _ => ?_) (fun h => absurd ?_ h)
    · refine lv_goto (pc := 885) (tgt := 1593) hx hb dL_law_885 (by decide) ?_
      exact W.widen (by omega) (by omega) (kk η2 _ _ _ H locs ls q4 hG2 h02 P (lv_sub hl [2, 3, 4, 5, 6] rfl))
    · show lg_cmp ((if (g_export σ (xs (nI i0 + 1).toNatClampNeg)).1 = 0 then vp_updL lf 0 (g_export σ (xs (nI i0 + 1).toNatClampNeg)).2.1.toInt64 else lf) ((0 : Int32).toNatClampNeg)) _ = 0
      rw [if_pos g0, q5, show (0 : Int32).toNatClampNeg = 0 by decide, pk_uLs]
      exact lg_same _
set_option maxHeartbeats 4000000 in
theorem law_pay (hl9 : l.stackTraces = false) (C : Cx RL p s m args meth c cL_law 7 wsL_law ret) (V : EnvV s) (hEC : EnvC s) (K : va_K D vwCl (tyL cI cO cJ) s) (E9 : EnvH t0 A s s.heap) (hX : va_X b L xs s s.heap) (hbl : b < s.heap.size) (hbA : ¬ A b) (hL : L ≤ 3072) (hi : i0 + 6 ≤ L) (hRf : 11 ≤ R.frames) (hRl : 414 ≤ R.locals) (hz : cells + 12 ≤ R.cells ∧ slots + 500 ≤ R.slots) (hI : Inv σ) (hG : Gok t0 η σ)
    (P : Hp D A s (((ob, ArL cJ lf) :: G_W cI cO η σ) ++ M_W cI m0 as th σ) H locs) (hl : lv_has ls 7 [(4, .int (nI i0)), (3, .ref ob), (2, .ref m0), (1, .ref (e_ad η 0)), (0, .ref b)])
    (kk : ∀ (η' : Eg) (σ' : Sg) (th' : Int32) (lf' : Nat → Int64) (H : Heap) (locs : List Loc) (ls : Array Slot), Inv σ' → Gok t0 η' σ' → e_ad η' 0 = e_ad η 0 → Hp D A s (((ob, ArL cJ lf') :: G_W cI cO η' σ') ++ M_W cI m0 as th' σ') H locs → lv_has ls 7 [(4, .int (nI i0)), (3, .ref ob), (2, .ref m0), (1, .ref (e_ad η 0)), (0, .ref b)] → W p l e R s m args below meth c H locs (cells + 12) (slots + 500) Q (F0 m 1593 ls [])) : W p l e R s m args below meth c H locs cells slots Q (F0 m 888 ls []) := by
  obtain ⟨w0, w1, w2, w3, w4, w5⟩ := vpj hL hi
  have hx := C.1
  have hb := C.2.1
  have hml := C.2.2.1
  have hown := C.2.2.2.1
  obtain ⟨⟨q1, q2, q3⟩, q4⟩ := r_pay hI (xs (nI i0 + 1).toNatClampNeg)
  refine lv_aload_n (pc := 888) hx hb dL_law_888 rfl (lv_at hl 3 rfl) ?_
  refine lv_aload_n (pc := 889) hx hb dL_law_889 rfl (lv_at hl 4 rfl) ?_
  refine lv_iload (pc := 890) hx hb dL_law_890 (lv_at hl 0 rfl) ?_
  refine lv_iconst (pc := 892) (v := 1) hx hb dL_law_892 (by decide) ?_
  refine lv_iadd (pc := 893) hx hb dL_law_893 ?_
  refine va_sld (pc := 894) hx hb hX hbl hbA P.2.2.1 w1 dL_law_894 ?_
  refine lv_aload_n (pc := 895) hx hb dL_law_895 rfl (lv_at hl 1 rfl) ?_
  refine A_callW (pc := 896) (As := [.ref (e_ad η 0), .int (xs (nI i0 + 1).toNatClampNeg), .ref ob]) (rest := []) C V hEC K E9 hl.1 P (kL_pay l hl9 D cI cO cJ t0 η σ ob lf (xs (nI i0 + 1).toNatClampNeg) hG (fun _ => gk_pay hG (xs (nI i0 + 1).toNatClampNeg))) fnL_pay gL_law_L_pay rfl rfl ⟨Nat.le_trans (Nat.le_of_ble_eq_true rfl) hRf, Nat.le_trans (Nat.le_of_ble_eq_true rfl) hRl⟩ (Nat.le_of_ble_eq_true rfl) ⟨by omega, by omega⟩ dL_law_896 (fun η2 H locs P hG2 h02 => ?_)
  refine lv_istore (pc := 899) (lv' := [(5, .int _), (4, .int (nI i0)), (3, .ref ob), (2, .ref m0), (1, .ref (e_ad η 0)), (0, .ref b)]) hx hb dL_law_899 hl (by decide) rfl (fun ls hl => ?_)
  refine lv_aload_n (pc := 901) hx hb dL_law_901 rfl (lv_at hl 3 rfl) ?_
  refine lv_aload_n (pc := 902) hx hb dL_law_902 rfl (lv_at hl 5 rfl) ?_
  refine lv_iload (pc := 903) hx hb dL_law_903 (lv_at hl 1 rfl) ?_
  refine lv_iconst (pc := 905) (v := 1) hx hb dL_law_905 (by decide) ?_
  refine lv_iadd (pc := 906) hx hb dL_law_906 ?_
  refine va_sld (pc := 907) hx hb hX hbl hbA P.2.2.1 w1 dL_law_907 ?_
  refine A_callM (pc := 908) (As := [.int (xs (nI i0 + 1).toNatClampNeg)]) (rest := []) C K hl.1 P (kX7_pay l D cI m0 as th σ (xs (nI i0 + 1).toNatClampNeg) ) fnX7_pay rfl gL_law_X7_pay rfl rfl ⟨Nat.le_trans (Nat.le_of_ble_eq_true rfl) hRf, Nat.le_trans (Nat.le_of_ble_eq_true rfl) hRl⟩ (Nat.le_of_ble_eq_true rfl) ⟨by omega, by omega⟩ dL_law_908 (fun H locs P => ?_)
  rw [q3] at P hG2
  refine lv_istore (pc := 911) (lv' := [(6, .int _), (5, .int _), (4, .int (nI i0)), (3, .ref ob), (2, .ref m0), (1, .ref (e_ad η 0)), (0, .ref b)]) hx hb dL_law_911 hl (by decide) rfl (fun ls hl => ?_)
  refine lv_aload_n (pc := 913) hx hb dL_law_913 rfl (lv_at hl 4 rfl) ?_
  refine A_callM (pc := 914) (As := []) (rest := []) C K hl.1 P (kX7_thrown l D cI m0 as _ _) fnX7_thrown rfl gL_law_X7_thrown rfl rfl ⟨Nat.le_trans (Nat.le_of_ble_eq_true rfl) hRf, Nat.le_trans (Nat.le_of_ble_eq_true rfl) hRl⟩ (Nat.le_of_ble_eq_true rfl) ⟨by omega, by omega⟩ dL_law_914 (fun H locs P => ?_)
  refine lv_iload (pc := 917) hx hb dL_law_917 (lv_at hl 1 rfl) ?_
  refine lv_icmp_eq (pc := 919) (tgt := 924) hx hb dL_law_919 (by decide) (fun _ => ?_) (fun h => absurd q1.symm h)
  refine lv_iload (pc := 924) hx hb dL_law_924 (lv_at hl 1 rfl) ?_
  refine lv_if_ne (pc := 926) (tgt := 941) hx hb dL_law_926 (by decide) (fun _ => ?_) (fun ck => ?_)
  · refine lv_goto (pc := 941) (tgt := 1593) hx hb dL_law_941 (by decide) ?_
    exact W.widen (by omega) (by omega) (kk η2 _ _ _ H locs ls q4 hG2 h02 P (lv_sub hl [2, 3, 4, 5, 6] rfl))
  · have g0 : (g_pay σ (xs (nI i0 + 1).toNatClampNeg)).1 = 0 := kc23_0 ck
    have q5 := q2 g0
    refine lv_aload_n (pc := 929) hx hb dL_law_929 rfl (lv_at hl 3 rfl) ?_
    refine lv_iconst (pc := 930) (v := 0) hx hb dL_law_930 (by decide) ?_
    refine va_lald (pc := 931) hx hb K P.1 0 2 rfl rfl vp_in01 dL_law_931 ?_
    refine lv_iload (pc := 932) hx hb dL_law_932 (lv_at hl 0 rfl) ?_
    refine lv_i2l (pc := 934) (v := (m_pay σ (xs (nI i0 + 1).toNatClampNeg)).2.1.toInt64) hx hb dL_law_934 rfl ?_
    refine W.lcmp (pc := 935) hx hb dL_law_935 ?_
    refine lv_if_eq (pc := 936) (tgt := 941) hx hb dL_law_936 (by decide) (fun _ => ?_) (fun h => absurd ?_ h)
    · refine lv_goto (pc := 941) (tgt := 1593) hx hb dL_law_941 (by decide) ?_
      exact W.widen (by omega) (by omega) (kk η2 _ _ _ H locs ls q4 hG2 h02 P (lv_sub hl [2, 3, 4, 5, 6] rfl))
    · show lg_cmp ((if (g_pay σ (xs (nI i0 + 1).toNatClampNeg)).1 = 0 then vp_updL lf 0 (g_pay σ (xs (nI i0 + 1).toNatClampNeg)).2.1.toInt64 else lf) ((0 : Int32).toNatClampNeg)) _ = 0
      rw [if_pos g0, q5, show (0 : Int32).toNatClampNeg = 0 by decide, pk_uLs]
      exact lg_same _
set_option maxHeartbeats 4000000 in
theorem law_budget (hl9 : l.stackTraces = false) (C : Cx RL p s m args meth c cL_law 7 wsL_law ret) (V : EnvV s) (hEC : EnvC s) (K : va_K D vwCl (tyL cI cO cJ) s) (E9 : EnvH t0 A s s.heap) (hX : va_X b L xs s s.heap) (hbl : b < s.heap.size) (hbA : ¬ A b) (hL : L ≤ 3072) (hi : i0 + 6 ≤ L) (hRf : 11 ≤ R.frames) (hRl : 414 ≤ R.locals) (hz : cells + 12 ≤ R.cells ∧ slots + 500 ≤ R.slots) (hI : Inv σ) (hG : Gok t0 η σ)
    (P : Hp D A s (((ob, ArL cJ lf) :: G_W cI cO η σ) ++ M_W cI m0 as th σ) H locs) (hl : lv_has ls 7 [(4, .int (nI i0)), (3, .ref ob), (2, .ref m0), (1, .ref (e_ad η 0)), (0, .ref b)])
    (kk : ∀ (η' : Eg) (σ' : Sg) (th' : Int32) (lf' : Nat → Int64) (H : Heap) (locs : List Loc) (ls : Array Slot), Inv σ' → Gok t0 η' σ' → e_ad η' 0 = e_ad η 0 → Hp D A s (((ob, ArL cJ lf') :: G_W cI cO η' σ') ++ M_W cI m0 as th' σ') H locs → lv_has ls 7 [(4, .int (nI i0)), (3, .ref ob), (2, .ref m0), (1, .ref (e_ad η 0)), (0, .ref b)] → W p l e R s m args below meth c H locs (cells + 12) (slots + 500) Q (F0 m 1593 ls [])) : W p l e R s m args below meth c H locs cells slots Q (F0 m 944 ls []) := by
  obtain ⟨w0, w1, w2, w3, w4, w5⟩ := vpj hL hi
  have hx := C.1
  have hb := C.2.1
  have hml := C.2.2.1
  have hown := C.2.2.2.1
  obtain ⟨⟨q1, q2, q3⟩, q4⟩ := r_budget hI (xs (nI i0 + 1).toNatClampNeg) (xs (nI i0 + 2).toNatClampNeg) (xs (nI i0 + 3).toNatClampNeg)
  refine lv_aload_n (pc := 944) hx hb dL_law_944 rfl (lv_at hl 3 rfl) ?_
  refine lv_aload_n (pc := 945) hx hb dL_law_945 rfl (lv_at hl 4 rfl) ?_
  refine lv_iload (pc := 946) hx hb dL_law_946 (lv_at hl 0 rfl) ?_
  refine lv_iconst (pc := 948) (v := 1) hx hb dL_law_948 (by decide) ?_
  refine lv_iadd (pc := 949) hx hb dL_law_949 ?_
  refine va_sld (pc := 950) hx hb hX hbl hbA P.2.2.1 w1 dL_law_950 ?_
  refine lv_aload_n (pc := 951) hx hb dL_law_951 rfl (lv_at hl 4 rfl) ?_
  refine lv_iload (pc := 952) hx hb dL_law_952 (lv_at hl 0 rfl) ?_
  refine lv_iconst (pc := 954) (v := 2) hx hb dL_law_954 (by decide) ?_
  refine lv_iadd (pc := 955) hx hb dL_law_955 ?_
  refine va_sld (pc := 956) hx hb hX hbl hbA P.2.2.1 w2 dL_law_956 ?_
  refine lv_aload_n (pc := 957) hx hb dL_law_957 rfl (lv_at hl 4 rfl) ?_
  refine lv_iload (pc := 958) hx hb dL_law_958 (lv_at hl 0 rfl) ?_
  refine lv_iconst (pc := 960) (v := 3) hx hb dL_law_960 (by decide) ?_
  refine lv_iadd (pc := 961) hx hb dL_law_961 ?_
  refine va_sld (pc := 962) hx hb hX hbl hbA P.2.2.1 w3 dL_law_962 ?_
  refine A_callW (pc := 963) (As := [.ref (e_ad η 0), .int (xs (nI i0 + 1).toNatClampNeg), .int (xs (nI i0 + 2).toNatClampNeg), .int (xs (nI i0 + 3).toNatClampNeg)]) (rest := []) C V hEC K E9 hl.1 P (kL_budget l hl9 D cI cO cJ t0 η σ ob lf (xs (nI i0 + 1).toNatClampNeg) (xs (nI i0 + 2).toNatClampNeg) (xs (nI i0 + 3).toNatClampNeg) hG (by rw [le_i, ti0]; exact hI.2.2.2.2.2.2.1.1)) fnL_budget gL_law_L_budget rfl rfl ⟨Nat.le_trans (Nat.le_of_ble_eq_true rfl) hRf, Nat.le_trans (Nat.le_of_ble_eq_true rfl) hRl⟩ (Nat.le_of_ble_eq_true rfl) ⟨by omega, by omega⟩ dL_law_963 (fun η2 H locs P hG2 h02 => ?_)
  refine lv_istore (pc := 966) (lv' := [(5, .int _), (4, .int (nI i0)), (3, .ref ob), (2, .ref m0), (1, .ref (e_ad η 0)), (0, .ref b)]) hx hb dL_law_966 hl (by decide) rfl (fun ls hl => ?_)
  refine lv_aload_n (pc := 968) hx hb dL_law_968 rfl (lv_at hl 3 rfl) ?_
  refine lv_aload_n (pc := 969) hx hb dL_law_969 rfl (lv_at hl 5 rfl) ?_
  refine lv_iload (pc := 970) hx hb dL_law_970 (lv_at hl 1 rfl) ?_
  refine lv_iconst (pc := 972) (v := 1) hx hb dL_law_972 (by decide) ?_
  refine lv_iadd (pc := 973) hx hb dL_law_973 ?_
  refine va_sld (pc := 974) hx hb hX hbl hbA P.2.2.1 w1 dL_law_974 ?_
  refine lv_aload_n (pc := 975) hx hb dL_law_975 rfl (lv_at hl 5 rfl) ?_
  refine lv_iload (pc := 976) hx hb dL_law_976 (lv_at hl 1 rfl) ?_
  refine lv_iconst (pc := 978) (v := 2) hx hb dL_law_978 (by decide) ?_
  refine lv_iadd (pc := 979) hx hb dL_law_979 ?_
  refine va_sld (pc := 980) hx hb hX hbl hbA P.2.2.1 w2 dL_law_980 ?_
  refine lv_aload_n (pc := 981) hx hb dL_law_981 rfl (lv_at hl 5 rfl) ?_
  refine lv_iload (pc := 982) hx hb dL_law_982 (lv_at hl 1 rfl) ?_
  refine lv_iconst (pc := 984) (v := 3) hx hb dL_law_984 (by decide) ?_
  refine lv_iadd (pc := 985) hx hb dL_law_985 ?_
  refine va_sld (pc := 986) hx hb hX hbl hbA P.2.2.1 w3 dL_law_986 ?_
  refine A_callMv (pc := 987) (As := [.int (xs (nI i0 + 1).toNatClampNeg), .int (xs (nI i0 + 2).toNatClampNeg), .int (xs (nI i0 + 3).toNatClampNeg)]) (rest := []) C K hl.1 P (kX7_budget l D cI m0 as th σ (xs (nI i0 + 1).toNatClampNeg) (xs (nI i0 + 2).toNatClampNeg) (xs (nI i0 + 3).toNatClampNeg) ) fnX7_budget rfl gL_law_X7_budget rfl rfl ⟨Nat.le_trans (Nat.le_of_ble_eq_true rfl) hRf, Nat.le_trans (Nat.le_of_ble_eq_true rfl) hRl⟩ (Nat.le_of_ble_eq_true rfl) ⟨by omega, by omega⟩ dL_law_987 (fun H locs P => ?_)
  rw [q3] at P hG2
  refine lv_aload_n (pc := 990) hx hb dL_law_990 rfl (lv_at hl 3 rfl) ?_
  refine A_callM (pc := 991) (As := []) (rest := []) C K hl.1 P (kX7_thrown l D cI m0 as _ _) fnX7_thrown rfl gL_law_X7_thrown rfl rfl ⟨Nat.le_trans (Nat.le_of_ble_eq_true rfl) hRf, Nat.le_trans (Nat.le_of_ble_eq_true rfl) hRl⟩ (Nat.le_of_ble_eq_true rfl) ⟨by omega, by omega⟩ dL_law_991 (fun H locs P => ?_)
  refine lv_iload (pc := 994) hx hb dL_law_994 (lv_at hl 0 rfl) ?_
  refine lv_icmp_eq (pc := 996) (tgt := 1001) hx hb dL_law_996 (by decide) (fun _ => ?_) (fun h => absurd q1.symm h)
  refine lv_goto (pc := 1001) (tgt := 1593) hx hb dL_law_1001 (by decide) ?_
  exact W.widen (by omega) (by omega) (kk η2 _ _ _ H locs ls q4 hG2 h02 P (lv_sub hl [1, 2, 3, 4, 5] rfl))
set_option maxHeartbeats 4000000 in
theorem law_guarantee (hl9 : l.stackTraces = false) (C : Cx RL p s m args meth c cL_law 7 wsL_law ret) (V : EnvV s) (hEC : EnvC s) (K : va_K D vwCl (tyL cI cO cJ) s) (E9 : EnvH t0 A s s.heap) (hX : va_X b L xs s s.heap) (hbl : b < s.heap.size) (hbA : ¬ A b) (hL : L ≤ 3072) (hi : i0 + 6 ≤ L) (hRf : 11 ≤ R.frames) (hRl : 414 ≤ R.locals) (hz : cells + 12 ≤ R.cells ∧ slots + 500 ≤ R.slots) (hI : Inv σ) (hG : Gok t0 η σ)
    (P : Hp D A s (((ob, ArL cJ lf) :: G_W cI cO η σ) ++ M_W cI m0 as th σ) H locs) (hl : lv_has ls 7 [(4, .int (nI i0)), (3, .ref ob), (2, .ref m0), (1, .ref (e_ad η 0)), (0, .ref b)])
    (kk : ∀ (η' : Eg) (σ' : Sg) (th' : Int32) (lf' : Nat → Int64) (H : Heap) (locs : List Loc) (ls : Array Slot), Inv σ' → Gok t0 η' σ' → e_ad η' 0 = e_ad η 0 → Hp D A s (((ob, ArL cJ lf') :: G_W cI cO η' σ') ++ M_W cI m0 as th' σ') H locs → lv_has ls 7 [(4, .int (nI i0)), (3, .ref ob), (2, .ref m0), (1, .ref (e_ad η 0)), (0, .ref b)] → W p l e R s m args below meth c H locs (cells + 12) (slots + 500) Q (F0 m 1593 ls [])) : W p l e R s m args below meth c H locs cells slots Q (F0 m 1004 ls []) := by
  obtain ⟨w0, w1, w2, w3, w4, w5⟩ := vpj hL hi
  have hx := C.1
  have hb := C.2.1
  have hml := C.2.2.1
  have hown := C.2.2.2.1
  obtain ⟨⟨q1, q2, q3⟩, q4⟩ := r_guarantee hI (xs (nI i0 + 1).toNatClampNeg)
  refine lv_aload_n (pc := 1004) hx hb dL_law_1004 rfl (lv_at hl 3 rfl) ?_
  refine lv_aload_n (pc := 1005) hx hb dL_law_1005 rfl (lv_at hl 4 rfl) ?_
  refine lv_iload (pc := 1006) hx hb dL_law_1006 (lv_at hl 0 rfl) ?_
  refine lv_iconst (pc := 1008) (v := 1) hx hb dL_law_1008 (by decide) ?_
  refine lv_iadd (pc := 1009) hx hb dL_law_1009 ?_
  refine va_sld (pc := 1010) hx hb hX hbl hbA P.2.2.1 w1 dL_law_1010 ?_
  refine lv_aload_n (pc := 1011) hx hb dL_law_1011 rfl (lv_at hl 1 rfl) ?_
  refine A_callW (pc := 1012) (As := [.ref (e_ad η 0), .int (xs (nI i0 + 1).toNatClampNeg), .ref ob]) (rest := []) C V hEC K E9 hl.1 P (kL_guarantee l hl9 D cI cO cJ t0 η σ ob lf (xs (nI i0 + 1).toNatClampNeg) hG (fun _ => gk_guarantee hG (xs (nI i0 + 1).toNatClampNeg))) fnL_guarantee gL_law_L_guarantee rfl rfl ⟨Nat.le_trans (Nat.le_of_ble_eq_true rfl) hRf, Nat.le_trans (Nat.le_of_ble_eq_true rfl) hRl⟩ (Nat.le_of_ble_eq_true rfl) ⟨by omega, by omega⟩ dL_law_1012 (fun η2 H locs P hG2 h02 => ?_)
  refine lv_istore (pc := 1015) (lv' := [(5, .int _), (4, .int (nI i0)), (3, .ref ob), (2, .ref m0), (1, .ref (e_ad η 0)), (0, .ref b)]) hx hb dL_law_1015 hl (by decide) rfl (fun ls hl => ?_)
  refine lv_aload_n (pc := 1017) hx hb dL_law_1017 rfl (lv_at hl 3 rfl) ?_
  refine lv_aload_n (pc := 1018) hx hb dL_law_1018 rfl (lv_at hl 5 rfl) ?_
  refine lv_iload (pc := 1019) hx hb dL_law_1019 (lv_at hl 1 rfl) ?_
  refine lv_iconst (pc := 1021) (v := 1) hx hb dL_law_1021 (by decide) ?_
  refine lv_iadd (pc := 1022) hx hb dL_law_1022 ?_
  refine va_sld (pc := 1023) hx hb hX hbl hbA P.2.2.1 w1 dL_law_1023 ?_
  refine A_callM (pc := 1024) (As := [.int (xs (nI i0 + 1).toNatClampNeg)]) (rest := []) C K hl.1 P (kX7_guarantee l D cI m0 as th σ (xs (nI i0 + 1).toNatClampNeg) hI.1.2.1) fnX7_guarantee rfl gL_law_X7_guarantee rfl rfl ⟨Nat.le_trans (Nat.le_of_ble_eq_true rfl) hRf, Nat.le_trans (Nat.le_of_ble_eq_true rfl) hRl⟩ (Nat.le_of_ble_eq_true rfl) ⟨by omega, by omega⟩ dL_law_1024 (fun H locs P => ?_)
  rw [q3] at P hG2
  refine lv_istore (pc := 1027) (lv' := [(6, .int _), (5, .int _), (4, .int (nI i0)), (3, .ref ob), (2, .ref m0), (1, .ref (e_ad η 0)), (0, .ref b)]) hx hb dL_law_1027 hl (by decide) rfl (fun ls hl => ?_)
  refine lv_aload_n (pc := 1029) hx hb dL_law_1029 rfl (lv_at hl 4 rfl) ?_
  refine A_callM (pc := 1030) (As := []) (rest := []) C K hl.1 P (kX7_thrown l D cI m0 as _ _) fnX7_thrown rfl gL_law_X7_thrown rfl rfl ⟨Nat.le_trans (Nat.le_of_ble_eq_true rfl) hRf, Nat.le_trans (Nat.le_of_ble_eq_true rfl) hRl⟩ (Nat.le_of_ble_eq_true rfl) ⟨by omega, by omega⟩ dL_law_1030 (fun H locs P => ?_)
  refine lv_iload (pc := 1033) hx hb dL_law_1033 (lv_at hl 1 rfl) ?_
  refine lv_icmp_eq (pc := 1035) (tgt := 1040) hx hb dL_law_1035 (by decide) (fun _ => ?_) (fun h => absurd q1.symm h)
  refine lv_iload (pc := 1040) hx hb dL_law_1040 (lv_at hl 1 rfl) ?_
  refine lv_if_ne (pc := 1042) (tgt := 1057) hx hb dL_law_1042 (by decide) (fun _ => ?_) (fun ck => ?_)
  · refine lv_goto (pc := 1057) (tgt := 1593) hx hb dL_law_1057 (by decide) ?_
    exact W.widen (by omega) (by omega) (kk η2 _ _ _ H locs ls q4 hG2 h02 P (lv_sub hl [2, 3, 4, 5, 6] rfl))
  · have g0 : (g_guarantee σ (xs (nI i0 + 1).toNatClampNeg)).1 = 0 := kc23_0 ck
    have q5 := q2 g0
    refine lv_aload_n (pc := 1045) hx hb dL_law_1045 rfl (lv_at hl 3 rfl) ?_
    refine lv_iconst (pc := 1046) (v := 0) hx hb dL_law_1046 (by decide) ?_
    refine va_lald (pc := 1047) hx hb K P.1 0 2 rfl rfl vp_in01 dL_law_1047 ?_
    refine lv_iload (pc := 1048) hx hb dL_law_1048 (lv_at hl 0 rfl) ?_
    refine lv_i2l (pc := 1050) (v := (m_guarantee σ (xs (nI i0 + 1).toNatClampNeg)).2.1.toInt64) hx hb dL_law_1050 rfl ?_
    refine W.lcmp (pc := 1051) hx hb dL_law_1051 ?_
    refine lv_if_eq (pc := 1052) (tgt := 1057) hx hb dL_law_1052 (by decide) (fun _ => ?_) (fun h => absurd ?_ h)
    · refine lv_goto (pc := 1057) (tgt := 1593) hx hb dL_law_1057 (by decide) ?_
      exact W.widen (by omega) (by omega) (kk η2 _ _ _ H locs ls q4 hG2 h02 P (lv_sub hl [2, 3, 4, 5, 6] rfl))
    · show lg_cmp ((if (g_guarantee σ (xs (nI i0 + 1).toNatClampNeg)).1 = 0 then vp_updL lf 0 (g_guarantee σ (xs (nI i0 + 1).toNatClampNeg)).2.1.toInt64 else lf) ((0 : Int32).toNatClampNeg)) _ = 0
      rw [if_pos g0, q5, show (0 : Int32).toNatClampNeg = 0 by decide, pk_uLs]
      exact lg_same _
set_option maxHeartbeats 4000000 in
theorem law_ship (hl9 : l.stackTraces = false) (C : Cx RL p s m args meth c cL_law 7 wsL_law ret) (V : EnvV s) (hEC : EnvC s) (K : va_K D vwCl (tyL cI cO cJ) s) (E9 : EnvH t0 A s s.heap) (hX : va_X b L xs s s.heap) (hbl : b < s.heap.size) (hbA : ¬ A b) (hL : L ≤ 3072) (hi : i0 + 6 ≤ L) (hRf : 11 ≤ R.frames) (hRl : 414 ≤ R.locals) (hz : cells + 12 ≤ R.cells ∧ slots + 500 ≤ R.slots) (hI : Inv σ) (hG : Gok t0 η σ)
    (P : Hp D A s (((ob, ArL cJ lf) :: G_W cI cO η σ) ++ M_W cI m0 as th σ) H locs) (hl : lv_has ls 7 [(4, .int (nI i0)), (3, .ref ob), (2, .ref m0), (1, .ref (e_ad η 0)), (0, .ref b)])
    (kk : ∀ (η' : Eg) (σ' : Sg) (th' : Int32) (lf' : Nat → Int64) (H : Heap) (locs : List Loc) (ls : Array Slot), Inv σ' → Gok t0 η' σ' → e_ad η' 0 = e_ad η 0 → Hp D A s (((ob, ArL cJ lf') :: G_W cI cO η' σ') ++ M_W cI m0 as th' σ') H locs → lv_has ls 7 [(4, .int (nI i0)), (3, .ref ob), (2, .ref m0), (1, .ref (e_ad η 0)), (0, .ref b)] → W p l e R s m args below meth c H locs (cells + 12) (slots + 500) Q (F0 m 1593 ls [])) : W p l e R s m args below meth c H locs cells slots Q (F0 m 1060 ls []) := by
  obtain ⟨w0, w1, w2, w3, w4, w5⟩ := vpj hL hi
  have hx := C.1
  have hb := C.2.1
  have hml := C.2.2.1
  have hown := C.2.2.2.1
  obtain ⟨⟨q1, q2, q3⟩, q4⟩ := r_ship hI (xs (nI i0 + 1).toNatClampNeg) (xs (nI i0 + 2).toNatClampNeg) (xs (nI i0 + 3).toNatClampNeg) (xs (nI i0 + 4).toNatClampNeg)
  refine lv_aload_n (pc := 1060) hx hb dL_law_1060 rfl (lv_at hl 3 rfl) ?_
  refine lv_aload_n (pc := 1061) hx hb dL_law_1061 rfl (lv_at hl 4 rfl) ?_
  refine lv_iload (pc := 1062) hx hb dL_law_1062 (lv_at hl 0 rfl) ?_
  refine lv_iconst (pc := 1064) (v := 1) hx hb dL_law_1064 (by decide) ?_
  refine lv_iadd (pc := 1065) hx hb dL_law_1065 ?_
  refine va_sld (pc := 1066) hx hb hX hbl hbA P.2.2.1 w1 dL_law_1066 ?_
  refine lv_aload_n (pc := 1067) hx hb dL_law_1067 rfl (lv_at hl 4 rfl) ?_
  refine lv_iload (pc := 1068) hx hb dL_law_1068 (lv_at hl 0 rfl) ?_
  refine lv_iconst (pc := 1070) (v := 2) hx hb dL_law_1070 (by decide) ?_
  refine lv_iadd (pc := 1071) hx hb dL_law_1071 ?_
  refine va_sld (pc := 1072) hx hb hX hbl hbA P.2.2.1 w2 dL_law_1072 ?_
  refine lv_aload_n (pc := 1073) hx hb dL_law_1073 rfl (lv_at hl 4 rfl) ?_
  refine lv_iload (pc := 1074) hx hb dL_law_1074 (lv_at hl 0 rfl) ?_
  refine lv_iconst (pc := 1076) (v := 3) hx hb dL_law_1076 (by decide) ?_
  refine lv_iadd (pc := 1077) hx hb dL_law_1077 ?_
  refine va_sld (pc := 1078) hx hb hX hbl hbA P.2.2.1 w3 dL_law_1078 ?_
  refine lv_aload_n (pc := 1079) hx hb dL_law_1079 rfl (lv_at hl 4 rfl) ?_
  refine lv_iload (pc := 1080) hx hb dL_law_1080 (lv_at hl 0 rfl) ?_
  refine lv_iconst (pc := 1082) (v := 4) hx hb dL_law_1082 (by decide) ?_
  refine lv_iadd (pc := 1083) hx hb dL_law_1083 ?_
  refine va_sld (pc := 1084) hx hb hX hbl hbA P.2.2.1 w4 dL_law_1084 ?_
  refine lv_aload_n (pc := 1085) hx hb dL_law_1085 rfl (lv_at hl 1 rfl) ?_
  refine A_callW (pc := 1086) (As := [.ref (e_ad η 0), .int (xs (nI i0 + 1).toNatClampNeg), .int (xs (nI i0 + 2).toNatClampNeg), .int (xs (nI i0 + 3).toNatClampNeg), .int (xs (nI i0 + 4).toNatClampNeg), .ref ob]) (rest := []) C V hEC K E9 hl.1 P (kL_ship l hl9 D cI cO cJ t0 η σ ob lf (xs (nI i0 + 1).toNatClampNeg) (xs (nI i0 + 2).toNatClampNeg) (xs (nI i0 + 3).toNatClampNeg) (xs (nI i0 + 4).toNatClampNeg) hG) fnL_ship gL_law_L_ship rfl rfl ⟨Nat.le_trans (Nat.le_of_ble_eq_true rfl) hRf, Nat.le_trans (Nat.le_of_ble_eq_true rfl) hRl⟩ (Nat.le_of_ble_eq_true rfl) ⟨by omega, by omega⟩ dL_law_1086 (fun η2 H locs P hG2 h02 => ?_)
  refine lv_istore (pc := 1089) (lv' := [(5, .int _), (4, .int (nI i0)), (3, .ref ob), (2, .ref m0), (1, .ref (e_ad η 0)), (0, .ref b)]) hx hb dL_law_1089 hl (by decide) rfl (fun ls hl => ?_)
  refine lv_aload_n (pc := 1091) hx hb dL_law_1091 rfl (lv_at hl 3 rfl) ?_
  refine lv_aload_n (pc := 1092) hx hb dL_law_1092 rfl (lv_at hl 5 rfl) ?_
  refine lv_iload (pc := 1093) hx hb dL_law_1093 (lv_at hl 1 rfl) ?_
  refine lv_iconst (pc := 1095) (v := 1) hx hb dL_law_1095 (by decide) ?_
  refine lv_iadd (pc := 1096) hx hb dL_law_1096 ?_
  refine va_sld (pc := 1097) hx hb hX hbl hbA P.2.2.1 w1 dL_law_1097 ?_
  refine lv_aload_n (pc := 1098) hx hb dL_law_1098 rfl (lv_at hl 5 rfl) ?_
  refine lv_iload (pc := 1099) hx hb dL_law_1099 (lv_at hl 1 rfl) ?_
  refine lv_iconst (pc := 1101) (v := 2) hx hb dL_law_1101 (by decide) ?_
  refine lv_iadd (pc := 1102) hx hb dL_law_1102 ?_
  refine va_sld (pc := 1103) hx hb hX hbl hbA P.2.2.1 w2 dL_law_1103 ?_
  refine lv_aload_n (pc := 1104) hx hb dL_law_1104 rfl (lv_at hl 5 rfl) ?_
  refine lv_iload (pc := 1105) hx hb dL_law_1105 (lv_at hl 1 rfl) ?_
  refine lv_iconst (pc := 1107) (v := 3) hx hb dL_law_1107 (by decide) ?_
  refine lv_iadd (pc := 1108) hx hb dL_law_1108 ?_
  refine va_sld (pc := 1109) hx hb hX hbl hbA P.2.2.1 w3 dL_law_1109 ?_
  refine lv_aload_n (pc := 1110) hx hb dL_law_1110 rfl (lv_at hl 5 rfl) ?_
  refine lv_iload (pc := 1111) hx hb dL_law_1111 (lv_at hl 1 rfl) ?_
  refine lv_iconst (pc := 1113) (v := 4) hx hb dL_law_1113 (by decide) ?_
  refine lv_iadd (pc := 1114) hx hb dL_law_1114 ?_
  refine va_sld (pc := 1115) hx hb hX hbl hbA P.2.2.1 w4 dL_law_1115 ?_
  refine A_callM (pc := 1116) (As := [.int (xs (nI i0 + 1).toNatClampNeg), .int (xs (nI i0 + 2).toNatClampNeg), .int (xs (nI i0 + 3).toNatClampNeg), .int (xs (nI i0 + 4).toNatClampNeg)]) (rest := []) C K hl.1 P (kX7_ship l D cI m0 as th σ (xs (nI i0 + 1).toNatClampNeg) (xs (nI i0 + 2).toNatClampNeg) (xs (nI i0 + 3).toNatClampNeg) (xs (nI i0 + 4).toNatClampNeg) hI.1.1 hI.1.2.1) fnX7_ship rfl gL_law_X7_ship rfl rfl ⟨Nat.le_trans (Nat.le_of_ble_eq_true rfl) hRf, Nat.le_trans (Nat.le_of_ble_eq_true rfl) hRl⟩ (Nat.le_of_ble_eq_true rfl) ⟨by omega, by omega⟩ dL_law_1116 (fun H locs P => ?_)
  rw [q3] at P hG2
  refine lv_istore (pc := 1119) (lv' := [(6, .int _), (5, .int _), (4, .int (nI i0)), (3, .ref ob), (2, .ref m0), (1, .ref (e_ad η 0)), (0, .ref b)]) hx hb dL_law_1119 hl (by decide) rfl (fun ls hl => ?_)
  refine lv_aload_n (pc := 1121) hx hb dL_law_1121 rfl (lv_at hl 4 rfl) ?_
  refine A_callM (pc := 1122) (As := []) (rest := []) C K hl.1 P (kX7_thrown l D cI m0 as _ _) fnX7_thrown rfl gL_law_X7_thrown rfl rfl ⟨Nat.le_trans (Nat.le_of_ble_eq_true rfl) hRf, Nat.le_trans (Nat.le_of_ble_eq_true rfl) hRl⟩ (Nat.le_of_ble_eq_true rfl) ⟨by omega, by omega⟩ dL_law_1122 (fun H locs P => ?_)
  refine lv_iload (pc := 1125) hx hb dL_law_1125 (lv_at hl 1 rfl) ?_
  refine lv_icmp_eq (pc := 1127) (tgt := 1132) hx hb dL_law_1127 (by decide) (fun _ => ?_) (fun h => absurd q1.symm h)
  refine lv_iload (pc := 1132) hx hb dL_law_1132 (lv_at hl 1 rfl) ?_
  refine lv_if_ne (pc := 1134) (tgt := 1149) hx hb dL_law_1134 (by decide) (fun _ => ?_) (fun ck => ?_)
  · refine lv_goto (pc := 1149) (tgt := 1593) hx hb dL_law_1149 (by decide) ?_
    exact W.widen (by omega) (by omega) (kk η2 _ _ _ H locs ls q4 hG2 h02 P (lv_sub hl [2, 3, 4, 5, 6] rfl))
  · have g0 : (g_ship σ (xs (nI i0 + 1).toNatClampNeg) (xs (nI i0 + 2).toNatClampNeg) (xs (nI i0 + 3).toNatClampNeg) (xs (nI i0 + 4).toNatClampNeg)).1 = 0 := kc123_0 ck
    have q5 := q2 g0
    refine lv_aload_n (pc := 1137) hx hb dL_law_1137 rfl (lv_at hl 3 rfl) ?_
    refine lv_iconst (pc := 1138) (v := 0) hx hb dL_law_1138 (by decide) ?_
    refine va_lald (pc := 1139) hx hb K P.1 0 2 rfl rfl vp_in01 dL_law_1139 ?_
    refine lv_iload (pc := 1140) hx hb dL_law_1140 (lv_at hl 0 rfl) ?_
    refine lv_i2l (pc := 1142) (v := (m_ship σ (xs (nI i0 + 1).toNatClampNeg) (xs (nI i0 + 2).toNatClampNeg) (xs (nI i0 + 3).toNatClampNeg) (xs (nI i0 + 4).toNatClampNeg)).2.1.toInt64) hx hb dL_law_1142 rfl ?_
    refine W.lcmp (pc := 1143) hx hb dL_law_1143 ?_
    refine lv_if_eq (pc := 1144) (tgt := 1149) hx hb dL_law_1144 (by decide) (fun _ => ?_) (fun h => absurd ?_ h)
    · refine lv_goto (pc := 1149) (tgt := 1593) hx hb dL_law_1149 (by decide) ?_
      exact W.widen (by omega) (by omega) (kk η2 _ _ _ H locs ls q4 hG2 h02 P (lv_sub hl [2, 3, 4, 5, 6] rfl))
    · show lg_cmp ((if (g_ship σ (xs (nI i0 + 1).toNatClampNeg) (xs (nI i0 + 2).toNatClampNeg) (xs (nI i0 + 3).toNatClampNeg) (xs (nI i0 + 4).toNatClampNeg)).1 = 0 then vp_updL lf 0 (g_ship σ (xs (nI i0 + 1).toNatClampNeg) (xs (nI i0 + 2).toNatClampNeg) (xs (nI i0 + 3).toNatClampNeg) (xs (nI i0 + 4).toNatClampNeg)).2.1.toInt64 else lf) ((0 : Int32).toNatClampNeg)) _ = 0
      rw [if_pos g0, q5, show (0 : Int32).toNatClampNeg = 0 by decide, pk_uLs]
      exact lg_same _
set_option maxHeartbeats 4000000 in
theorem law_arrive (hl9 : l.stackTraces = false) (C : Cx RL p s m args meth c cL_law 7 wsL_law ret) (V : EnvV s) (hEC : EnvC s) (K : va_K D vwCl (tyL cI cO cJ) s) (E9 : EnvH t0 A s s.heap) (hX : va_X b L xs s s.heap) (hbl : b < s.heap.size) (hbA : ¬ A b) (hL : L ≤ 3072) (hi : i0 + 6 ≤ L) (hRf : 11 ≤ R.frames) (hRl : 414 ≤ R.locals) (hz : cells + 12 ≤ R.cells ∧ slots + 500 ≤ R.slots) (hI : Inv σ) (hG : Gok t0 η σ)
    (P : Hp D A s (((ob, ArL cJ lf) :: G_W cI cO η σ) ++ M_W cI m0 as th σ) H locs) (hl : lv_has ls 7 [(4, .int (nI i0)), (3, .ref ob), (2, .ref m0), (1, .ref (e_ad η 0)), (0, .ref b)])
    (kk : ∀ (η' : Eg) (σ' : Sg) (th' : Int32) (lf' : Nat → Int64) (H : Heap) (locs : List Loc) (ls : Array Slot), Inv σ' → Gok t0 η' σ' → e_ad η' 0 = e_ad η 0 → Hp D A s (((ob, ArL cJ lf') :: G_W cI cO η' σ') ++ M_W cI m0 as th' σ') H locs → lv_has ls 7 [(4, .int (nI i0)), (3, .ref ob), (2, .ref m0), (1, .ref (e_ad η 0)), (0, .ref b)] → W p l e R s m args below meth c H locs (cells + 12) (slots + 500) Q (F0 m 1593 ls [])) : W p l e R s m args below meth c H locs cells slots Q (F0 m 1152 ls []) := by
  obtain ⟨w0, w1, w2, w3, w4, w5⟩ := vpj hL hi
  have hx := C.1
  have hb := C.2.1
  have hml := C.2.2.1
  have hown := C.2.2.2.1
  obtain ⟨⟨q1, q2, q3⟩, q4⟩ := r_arrive hI (xs (nI i0 + 1).toNatClampNeg) (xs (nI i0 + 2).toNatClampNeg)
  refine lv_aload_n (pc := 1152) hx hb dL_law_1152 rfl (lv_at hl 3 rfl) ?_
  refine lv_aload_n (pc := 1153) hx hb dL_law_1153 rfl (lv_at hl 4 rfl) ?_
  refine lv_iload (pc := 1154) hx hb dL_law_1154 (lv_at hl 0 rfl) ?_
  refine lv_iconst (pc := 1156) (v := 1) hx hb dL_law_1156 (by decide) ?_
  refine lv_iadd (pc := 1157) hx hb dL_law_1157 ?_
  refine va_sld (pc := 1158) hx hb hX hbl hbA P.2.2.1 w1 dL_law_1158 ?_
  refine lv_aload_n (pc := 1159) hx hb dL_law_1159 rfl (lv_at hl 4 rfl) ?_
  refine lv_iload (pc := 1160) hx hb dL_law_1160 (lv_at hl 0 rfl) ?_
  refine lv_iconst (pc := 1162) (v := 2) hx hb dL_law_1162 (by decide) ?_
  refine lv_iadd (pc := 1163) hx hb dL_law_1163 ?_
  refine va_sld (pc := 1164) hx hb hX hbl hbA P.2.2.1 w2 dL_law_1164 ?_
  refine lv_aload_n (pc := 1165) hx hb dL_law_1165 rfl (lv_at hl 1 rfl) ?_
  refine A_callW (pc := 1166) (As := [.ref (e_ad η 0), .int (xs (nI i0 + 1).toNatClampNeg), .int (xs (nI i0 + 2).toNatClampNeg), .ref ob]) (rest := []) C V hEC K E9 hl.1 P (kL_arrive l hl9 D cI cO cJ t0 η σ ob lf (xs (nI i0 + 1).toNatClampNeg) (xs (nI i0 + 2).toNatClampNeg) hG (fun _ => gk_arrive hG (xs (nI i0 + 1).toNatClampNeg) (xs (nI i0 + 2).toNatClampNeg))) fnL_arrive gL_law_L_arrive rfl rfl ⟨Nat.le_trans (Nat.le_of_ble_eq_true rfl) hRf, Nat.le_trans (Nat.le_of_ble_eq_true rfl) hRl⟩ (Nat.le_of_ble_eq_true rfl) ⟨by omega, by omega⟩ dL_law_1166 (fun η2 H locs P hG2 h02 => ?_)
  refine lv_istore (pc := 1169) (lv' := [(5, .int _), (4, .int (nI i0)), (3, .ref ob), (2, .ref m0), (1, .ref (e_ad η 0)), (0, .ref b)]) hx hb dL_law_1169 hl (by decide) rfl (fun ls hl => ?_)
  refine lv_aload_n (pc := 1171) hx hb dL_law_1171 rfl (lv_at hl 3 rfl) ?_
  refine lv_aload_n (pc := 1172) hx hb dL_law_1172 rfl (lv_at hl 5 rfl) ?_
  refine lv_iload (pc := 1173) hx hb dL_law_1173 (lv_at hl 1 rfl) ?_
  refine lv_iconst (pc := 1175) (v := 1) hx hb dL_law_1175 (by decide) ?_
  refine lv_iadd (pc := 1176) hx hb dL_law_1176 ?_
  refine va_sld (pc := 1177) hx hb hX hbl hbA P.2.2.1 w1 dL_law_1177 ?_
  refine lv_aload_n (pc := 1178) hx hb dL_law_1178 rfl (lv_at hl 5 rfl) ?_
  refine lv_iload (pc := 1179) hx hb dL_law_1179 (lv_at hl 1 rfl) ?_
  refine lv_iconst (pc := 1181) (v := 2) hx hb dL_law_1181 (by decide) ?_
  refine lv_iadd (pc := 1182) hx hb dL_law_1182 ?_
  refine va_sld (pc := 1183) hx hb hX hbl hbA P.2.2.1 w2 dL_law_1183 ?_
  refine A_callM (pc := 1184) (As := [.int (xs (nI i0 + 1).toNatClampNeg), .int (xs (nI i0 + 2).toNatClampNeg)]) (rest := []) C K hl.1 P (kX7_arrive l D cI m0 as th σ (xs (nI i0 + 1).toNatClampNeg) (xs (nI i0 + 2).toNatClampNeg) hI.1.2.1 (Inv_arr hI)) fnX7_arrive rfl gL_law_X7_arrive rfl rfl ⟨Nat.le_trans (Nat.le_of_ble_eq_true rfl) hRf, Nat.le_trans (Nat.le_of_ble_eq_true rfl) hRl⟩ (Nat.le_of_ble_eq_true rfl) ⟨by omega, by omega⟩ dL_law_1184 (fun H locs P => ?_)
  rw [q3] at P hG2
  refine lv_istore (pc := 1187) (lv' := [(6, .int _), (5, .int _), (4, .int (nI i0)), (3, .ref ob), (2, .ref m0), (1, .ref (e_ad η 0)), (0, .ref b)]) hx hb dL_law_1187 hl (by decide) rfl (fun ls hl => ?_)
  refine lv_aload_n (pc := 1189) hx hb dL_law_1189 rfl (lv_at hl 4 rfl) ?_
  refine A_callM (pc := 1190) (As := []) (rest := []) C K hl.1 P (kX7_thrown l D cI m0 as _ _) fnX7_thrown rfl gL_law_X7_thrown rfl rfl ⟨Nat.le_trans (Nat.le_of_ble_eq_true rfl) hRf, Nat.le_trans (Nat.le_of_ble_eq_true rfl) hRl⟩ (Nat.le_of_ble_eq_true rfl) ⟨by omega, by omega⟩ dL_law_1190 (fun H locs P => ?_)
  refine lv_iload (pc := 1193) hx hb dL_law_1193 (lv_at hl 1 rfl) ?_
  refine lv_icmp_eq (pc := 1195) (tgt := 1200) hx hb dL_law_1195 (by decide) (fun _ => ?_) (fun h => absurd q1.symm h)
  refine lv_iload (pc := 1200) hx hb dL_law_1200 (lv_at hl 1 rfl) ?_
  refine lv_if_ne (pc := 1202) (tgt := 1217) hx hb dL_law_1202 (by decide) (fun _ => ?_) (fun ck => ?_)
  · refine lv_goto (pc := 1217) (tgt := 1593) hx hb dL_law_1217 (by decide) ?_
    exact W.widen (by omega) (by omega) (kk η2 _ _ _ H locs ls q4 hG2 h02 P (lv_sub hl [2, 3, 4, 5, 6] rfl))
  · have g0 : (g_arrive σ (xs (nI i0 + 1).toNatClampNeg) (xs (nI i0 + 2).toNatClampNeg)).1 = 0 := kc123_0 ck
    have q5 := q2 g0
    refine lv_aload_n (pc := 1205) hx hb dL_law_1205 rfl (lv_at hl 3 rfl) ?_
    refine lv_iconst (pc := 1206) (v := 0) hx hb dL_law_1206 (by decide) ?_
    refine va_lald (pc := 1207) hx hb K P.1 0 2 rfl rfl vp_in01 dL_law_1207 ?_
    refine lv_iload (pc := 1208) hx hb dL_law_1208 (lv_at hl 0 rfl) ?_
    refine lv_i2l (pc := 1210) (v := (m_arrive σ (xs (nI i0 + 1).toNatClampNeg) (xs (nI i0 + 2).toNatClampNeg)).2.1.toInt64) hx hb dL_law_1210 rfl ?_
    refine W.lcmp (pc := 1211) hx hb dL_law_1211 ?_
    refine lv_if_eq (pc := 1212) (tgt := 1217) hx hb dL_law_1212 (by decide) (fun _ => ?_) (fun h => absurd ?_ h)
    · refine lv_goto (pc := 1217) (tgt := 1593) hx hb dL_law_1217 (by decide) ?_
      exact W.widen (by omega) (by omega) (kk η2 _ _ _ H locs ls q4 hG2 h02 P (lv_sub hl [2, 3, 4, 5, 6] rfl))
    · show lg_cmp ((if (g_arrive σ (xs (nI i0 + 1).toNatClampNeg) (xs (nI i0 + 2).toNatClampNeg)).1 = 0 then vp_updL lf 0 (g_arrive σ (xs (nI i0 + 1).toNatClampNeg) (xs (nI i0 + 2).toNatClampNeg)).2.1.toInt64 else lf) ((0 : Int32).toNatClampNeg)) _ = 0
      rw [if_pos g0, q5, show (0 : Int32).toNatClampNeg = 0 by decide, pk_uLs]
      exact lg_same _
set_option maxHeartbeats 4000000 in
theorem law_pass (hl9 : l.stackTraces = false) (C : Cx RL p s m args meth c cL_law 7 wsL_law ret) (V : EnvV s) (hEC : EnvC s) (K : va_K D vwCl (tyL cI cO cJ) s) (E9 : EnvH t0 A s s.heap) (hX : va_X b L xs s s.heap) (hbl : b < s.heap.size) (hbA : ¬ A b) (hL : L ≤ 3072) (hi : i0 + 6 ≤ L) (hRf : 11 ≤ R.frames) (hRl : 414 ≤ R.locals) (hz : cells + 12 ≤ R.cells ∧ slots + 500 ≤ R.slots) (hI : Inv σ) (hG : Gok t0 η σ)
    (P : Hp D A s (((ob, ArL cJ lf) :: G_W cI cO η σ) ++ M_W cI m0 as th σ) H locs) (hl : lv_has ls 7 [(4, .int (nI i0)), (3, .ref ob), (2, .ref m0), (1, .ref (e_ad η 0)), (0, .ref b)])
    (kk : ∀ (η' : Eg) (σ' : Sg) (th' : Int32) (lf' : Nat → Int64) (H : Heap) (locs : List Loc) (ls : Array Slot), Inv σ' → Gok t0 η' σ' → e_ad η' 0 = e_ad η 0 → Hp D A s (((ob, ArL cJ lf') :: G_W cI cO η' σ') ++ M_W cI m0 as th' σ') H locs → lv_has ls 7 [(4, .int (nI i0)), (3, .ref ob), (2, .ref m0), (1, .ref (e_ad η 0)), (0, .ref b)] → W p l e R s m args below meth c H locs (cells + 12) (slots + 500) Q (F0 m 1593 ls [])) : W p l e R s m args below meth c H locs cells slots Q (F0 m 1220 ls []) := by
  obtain ⟨w0, w1, w2, w3, w4, w5⟩ := vpj hL hi
  have hx := C.1
  have hb := C.2.1
  have hml := C.2.2.1
  have hown := C.2.2.2.1
  obtain ⟨⟨q1, q2, q3⟩, q4⟩ := r_pass hI (xs (nI i0 + 1).toNatClampNeg)
  refine lv_aload_n (pc := 1220) hx hb dL_law_1220 rfl (lv_at hl 3 rfl) ?_
  refine lv_aload_n (pc := 1221) hx hb dL_law_1221 rfl (lv_at hl 4 rfl) ?_
  refine lv_iload (pc := 1222) hx hb dL_law_1222 (lv_at hl 0 rfl) ?_
  refine lv_iconst (pc := 1224) (v := 1) hx hb dL_law_1224 (by decide) ?_
  refine lv_iadd (pc := 1225) hx hb dL_law_1225 ?_
  refine va_sld (pc := 1226) hx hb hX hbl hbA P.2.2.1 w1 dL_law_1226 ?_
  refine lv_aload_n (pc := 1227) hx hb dL_law_1227 rfl (lv_at hl 1 rfl) ?_
  refine A_callW (pc := 1228) (As := [.ref (e_ad η 0), .int (xs (nI i0 + 1).toNatClampNeg), .ref ob]) (rest := []) C V hEC K E9 hl.1 P (kL_pass l hl9 D cI cO cJ t0 η σ ob lf (xs (nI i0 + 1).toNatClampNeg) hG) fnL_pass gL_law_L_pass rfl rfl ⟨Nat.le_trans (Nat.le_of_ble_eq_true rfl) hRf, Nat.le_trans (Nat.le_of_ble_eq_true rfl) hRl⟩ (Nat.le_of_ble_eq_true rfl) ⟨by omega, by omega⟩ dL_law_1228 (fun η2 H locs P hG2 h02 => ?_)
  refine lv_istore (pc := 1231) (lv' := [(5, .int _), (4, .int (nI i0)), (3, .ref ob), (2, .ref m0), (1, .ref (e_ad η 0)), (0, .ref b)]) hx hb dL_law_1231 hl (by decide) rfl (fun ls hl => ?_)
  refine lv_aload_n (pc := 1233) hx hb dL_law_1233 rfl (lv_at hl 3 rfl) ?_
  refine lv_aload_n (pc := 1234) hx hb dL_law_1234 rfl (lv_at hl 5 rfl) ?_
  refine lv_iload (pc := 1235) hx hb dL_law_1235 (lv_at hl 1 rfl) ?_
  refine lv_iconst (pc := 1237) (v := 1) hx hb dL_law_1237 (by decide) ?_
  refine lv_iadd (pc := 1238) hx hb dL_law_1238 ?_
  refine va_sld (pc := 1239) hx hb hX hbl hbA P.2.2.1 w1 dL_law_1239 ?_
  refine A_callM (pc := 1240) (As := [.int (xs (nI i0 + 1).toNatClampNeg)]) (rest := []) C K hl.1 P (kX7_pass l D cI m0 as th σ (xs (nI i0 + 1).toNatClampNeg) hI.1.1 hI.1.2.1 (Inv_pl hI)) fnX7_pass rfl gL_law_X7_pass rfl rfl ⟨Nat.le_trans (Nat.le_of_ble_eq_true rfl) hRf, Nat.le_trans (Nat.le_of_ble_eq_true rfl) hRl⟩ (Nat.le_of_ble_eq_true rfl) ⟨by omega, by omega⟩ dL_law_1240 (fun H locs P => ?_)
  rw [q3] at P hG2
  refine lv_istore (pc := 1243) (lv' := [(6, .int _), (5, .int _), (4, .int (nI i0)), (3, .ref ob), (2, .ref m0), (1, .ref (e_ad η 0)), (0, .ref b)]) hx hb dL_law_1243 hl (by decide) rfl (fun ls hl => ?_)
  refine lv_aload_n (pc := 1245) hx hb dL_law_1245 rfl (lv_at hl 4 rfl) ?_
  refine A_callM (pc := 1246) (As := []) (rest := []) C K hl.1 P (kX7_thrown l D cI m0 as _ _) fnX7_thrown rfl gL_law_X7_thrown rfl rfl ⟨Nat.le_trans (Nat.le_of_ble_eq_true rfl) hRf, Nat.le_trans (Nat.le_of_ble_eq_true rfl) hRl⟩ (Nat.le_of_ble_eq_true rfl) ⟨by omega, by omega⟩ dL_law_1246 (fun H locs P => ?_)
  refine lv_iload (pc := 1249) hx hb dL_law_1249 (lv_at hl 1 rfl) ?_
  refine lv_icmp_eq (pc := 1251) (tgt := 1256) hx hb dL_law_1251 (by decide) (fun _ => ?_) (fun h => absurd q1.symm h)
  refine lv_iload (pc := 1256) hx hb dL_law_1256 (lv_at hl 1 rfl) ?_
  refine lv_if_ne (pc := 1258) (tgt := 1273) hx hb dL_law_1258 (by decide) (fun _ => ?_) (fun ck => ?_)
  · refine lv_goto (pc := 1273) (tgt := 1593) hx hb dL_law_1273 (by decide) ?_
    exact W.widen (by omega) (by omega) (kk η2 _ _ _ H locs ls q4 hG2 h02 P (lv_sub hl [2, 3, 4, 5, 6] rfl))
  · have g0 : (g_pass σ (xs (nI i0 + 1).toNatClampNeg)).1 = 0 := kc23_0 ck
    have q5 := q2 g0
    refine lv_aload_n (pc := 1261) hx hb dL_law_1261 rfl (lv_at hl 3 rfl) ?_
    refine lv_iconst (pc := 1262) (v := 0) hx hb dL_law_1262 (by decide) ?_
    refine va_lald (pc := 1263) hx hb K P.1 0 2 rfl rfl vp_in01 dL_law_1263 ?_
    refine lv_iload (pc := 1264) hx hb dL_law_1264 (lv_at hl 0 rfl) ?_
    refine lv_i2l (pc := 1266) (v := (m_pass σ (xs (nI i0 + 1).toNatClampNeg)).2.1.toInt64) hx hb dL_law_1266 rfl ?_
    refine W.lcmp (pc := 1267) hx hb dL_law_1267 ?_
    refine lv_if_eq (pc := 1268) (tgt := 1273) hx hb dL_law_1268 (by decide) (fun _ => ?_) (fun h => absurd ?_ h)
    · refine lv_goto (pc := 1273) (tgt := 1593) hx hb dL_law_1273 (by decide) ?_
      exact W.widen (by omega) (by omega) (kk η2 _ _ _ H locs ls q4 hG2 h02 P (lv_sub hl [2, 3, 4, 5, 6] rfl))
    · show lg_cmp ((if (g_pass σ (xs (nI i0 + 1).toNatClampNeg)).1 = 0 then vp_updL lf 0 (g_pass σ (xs (nI i0 + 1).toNatClampNeg)).2.1.toInt64 else lf) ((0 : Int32).toNatClampNeg)) _ = 0
      rw [if_pos g0, q5, show (0 : Int32).toNatClampNeg = 0 by decide, pk_uLs]
      exact lg_same _
set_option maxHeartbeats 4000000 in
theorem law_ofVessel (hl9 : l.stackTraces = false) (C : Cx RL p s m args meth c cL_law 7 wsL_law ret) (V : EnvV s) (hEC : EnvC s) (K : va_K D vwCl (tyL cI cO cJ) s) (E9 : EnvH t0 A s s.heap) (hX : va_X b L xs s s.heap) (hbl : b < s.heap.size) (hbA : ¬ A b) (hL : L ≤ 3072) (hi : i0 + 6 ≤ L) (hRf : 11 ≤ R.frames) (hRl : 414 ≤ R.locals) (hz : cells + 12 ≤ R.cells ∧ slots + 500 ≤ R.slots) (hI : Inv σ) (hG : Gok t0 η σ)
    (P : Hp D A s (((ob, ArL cJ lf) :: G_W cI cO η σ) ++ M_W cI m0 as th σ) H locs) (hl : lv_has ls 7 [(4, .int (nI i0)), (3, .ref ob), (2, .ref m0), (1, .ref (e_ad η 0)), (0, .ref b)])
    (kk : ∀ (η' : Eg) (σ' : Sg) (th' : Int32) (lf' : Nat → Int64) (H : Heap) (locs : List Loc) (ls : Array Slot), Inv σ' → Gok t0 η' σ' → e_ad η' 0 = e_ad η 0 → Hp D A s (((ob, ArL cJ lf') :: G_W cI cO η' σ') ++ M_W cI m0 as th' σ') H locs → lv_has ls 7 [(4, .int (nI i0)), (3, .ref ob), (2, .ref m0), (1, .ref (e_ad η 0)), (0, .ref b)] → W p l e R s m args below meth c H locs (cells + 12) (slots + 500) Q (F0 m 1593 ls [])) : W p l e R s m args below meth c H locs cells slots Q (F0 m 1289 ls []) := by
  obtain ⟨w0, w1, w2, w3, w4, w5⟩ := vpj hL hi
  have hx := C.1
  have hb := C.2.1
  have hml := C.2.2.1
  have hown := C.2.2.2.1
  obtain ⟨⟨q1, q2, q3⟩, q4⟩ := r_ofVessel hI (xs (nI i0 + 1).toNatClampNeg) (xs (nI i0 + 2).toNatClampNeg)
  refine lv_aload_n (pc := 1289) hx hb dL_law_1289 rfl (lv_at hl 3 rfl) ?_
  refine lv_aload_n (pc := 1290) hx hb dL_law_1290 rfl (lv_at hl 4 rfl) ?_
  refine lv_iload (pc := 1291) hx hb dL_law_1291 (lv_at hl 0 rfl) ?_
  refine lv_iconst (pc := 1293) (v := 1) hx hb dL_law_1293 (by decide) ?_
  refine lv_iadd (pc := 1294) hx hb dL_law_1294 ?_
  refine va_sld (pc := 1295) hx hb hX hbl hbA P.2.2.1 w1 dL_law_1295 ?_
  refine lv_aload_n (pc := 1296) hx hb dL_law_1296 rfl (lv_at hl 4 rfl) ?_
  refine lv_iload (pc := 1297) hx hb dL_law_1297 (lv_at hl 0 rfl) ?_
  refine lv_iconst (pc := 1299) (v := 2) hx hb dL_law_1299 (by decide) ?_
  refine lv_iadd (pc := 1300) hx hb dL_law_1300 ?_
  refine va_sld (pc := 1301) hx hb hX hbl hbA P.2.2.1 w2 dL_law_1301 ?_
  refine lv_aload_n (pc := 1302) hx hb dL_law_1302 rfl (lv_at hl 1 rfl) ?_
  refine A_callW (pc := 1303) (As := [.ref (e_ad η 0), .int (xs (nI i0 + 1).toNatClampNeg), .int (xs (nI i0 + 2).toNatClampNeg), .ref ob]) (rest := []) C V hEC K E9 hl.1 P (kL_ofVessel l hl9 D cI cO cJ t0 η σ ob lf (xs (nI i0 + 1).toNatClampNeg) (xs (nI i0 + 2).toNatClampNeg) hG (fun _ => gk_ofVessel hG (xs (nI i0 + 1).toNatClampNeg) (xs (nI i0 + 2).toNatClampNeg))) fnL_ofVessel gL_law_L_ofVessel rfl rfl ⟨Nat.le_trans (Nat.le_of_ble_eq_true rfl) hRf, Nat.le_trans (Nat.le_of_ble_eq_true rfl) hRl⟩ (Nat.le_of_ble_eq_true rfl) ⟨by omega, by omega⟩ dL_law_1303 (fun η2 H locs P hG2 h02 => ?_)
  refine lv_istore (pc := 1306) (lv' := [(5, .int _), (4, .int (nI i0)), (3, .ref ob), (2, .ref m0), (1, .ref (e_ad η 0)), (0, .ref b)]) hx hb dL_law_1306 hl (by decide) rfl (fun ls hl => ?_)
  refine lv_aload_n (pc := 1308) hx hb dL_law_1308 rfl (lv_at hl 3 rfl) ?_
  refine lv_aload_n (pc := 1309) hx hb dL_law_1309 rfl (lv_at hl 5 rfl) ?_
  refine lv_iload (pc := 1310) hx hb dL_law_1310 (lv_at hl 1 rfl) ?_
  refine lv_iconst (pc := 1312) (v := 1) hx hb dL_law_1312 (by decide) ?_
  refine lv_iadd (pc := 1313) hx hb dL_law_1313 ?_
  refine va_sld (pc := 1314) hx hb hX hbl hbA P.2.2.1 w1 dL_law_1314 ?_
  refine lv_aload_n (pc := 1315) hx hb dL_law_1315 rfl (lv_at hl 5 rfl) ?_
  refine lv_iload (pc := 1316) hx hb dL_law_1316 (lv_at hl 1 rfl) ?_
  refine lv_iconst (pc := 1318) (v := 2) hx hb dL_law_1318 (by decide) ?_
  refine lv_iadd (pc := 1319) hx hb dL_law_1319 ?_
  refine va_sld (pc := 1320) hx hb hX hbl hbA P.2.2.1 w2 dL_law_1320 ?_
  refine A_callM (pc := 1321) (As := [.int (xs (nI i0 + 1).toNatClampNeg), .int (xs (nI i0 + 2).toNatClampNeg)]) (rest := []) C K hl.1 P (kX7_ofVessel l D cI m0 as th σ (xs (nI i0 + 1).toNatClampNeg) (xs (nI i0 + 2).toNatClampNeg) hI.1.1) fnX7_ofVessel rfl gL_law_X7_ofVessel rfl rfl ⟨Nat.le_trans (Nat.le_of_ble_eq_true rfl) hRf, Nat.le_trans (Nat.le_of_ble_eq_true rfl) hRl⟩ (Nat.le_of_ble_eq_true rfl) ⟨by omega, by omega⟩ dL_law_1321 (fun H locs P => ?_)
  rw [q3] at P hG2
  refine lv_istore (pc := 1324) (lv' := [(6, .int _), (5, .int _), (4, .int (nI i0)), (3, .ref ob), (2, .ref m0), (1, .ref (e_ad η 0)), (0, .ref b)]) hx hb dL_law_1324 hl (by decide) rfl (fun ls hl => ?_)
  refine lv_aload_n (pc := 1326) hx hb dL_law_1326 rfl (lv_at hl 4 rfl) ?_
  refine A_callM (pc := 1327) (As := []) (rest := []) C K hl.1 P (kX7_thrown l D cI m0 as _ _) fnX7_thrown rfl gL_law_X7_thrown rfl rfl ⟨Nat.le_trans (Nat.le_of_ble_eq_true rfl) hRf, Nat.le_trans (Nat.le_of_ble_eq_true rfl) hRl⟩ (Nat.le_of_ble_eq_true rfl) ⟨by omega, by omega⟩ dL_law_1327 (fun H locs P => ?_)
  refine lv_iload (pc := 1330) hx hb dL_law_1330 (lv_at hl 1 rfl) ?_
  refine lv_icmp_eq (pc := 1332) (tgt := 1337) hx hb dL_law_1332 (by decide) (fun _ => ?_) (fun h => absurd q1.symm h)
  refine lv_iload (pc := 1337) hx hb dL_law_1337 (lv_at hl 1 rfl) ?_
  refine lv_if_ne (pc := 1339) (tgt := 1354) hx hb dL_law_1339 (by decide) (fun _ => ?_) (fun ck => ?_)
  · refine lv_goto (pc := 1354) (tgt := 1593) hx hb dL_law_1354 (by decide) ?_
    exact W.widen (by omega) (by omega) (kk η2 _ _ _ H locs ls q4 hG2 h02 P (lv_sub hl [2, 3, 4, 5, 6] rfl))
  · have g0 : (g_ofVessel σ (xs (nI i0 + 1).toNatClampNeg) (xs (nI i0 + 2).toNatClampNeg)).1 = 0 := kc1_0 ck
    have q5 := q2 g0
    refine lv_aload_n (pc := 1342) hx hb dL_law_1342 rfl (lv_at hl 3 rfl) ?_
    refine lv_iconst (pc := 1343) (v := 0) hx hb dL_law_1343 (by decide) ?_
    refine va_lald (pc := 1344) hx hb K P.1 0 2 rfl rfl vp_in01 dL_law_1344 ?_
    refine lv_iload (pc := 1345) hx hb dL_law_1345 (lv_at hl 0 rfl) ?_
    refine lv_i2l (pc := 1347) (v := (m_ofVessel σ (xs (nI i0 + 1).toNatClampNeg) (xs (nI i0 + 2).toNatClampNeg)).2.1.toInt64) hx hb dL_law_1347 rfl ?_
    refine W.lcmp (pc := 1348) hx hb dL_law_1348 ?_
    refine lv_if_eq (pc := 1349) (tgt := 1354) hx hb dL_law_1349 (by decide) (fun _ => ?_) (fun h => absurd ?_ h)
    · refine lv_goto (pc := 1354) (tgt := 1593) hx hb dL_law_1354 (by decide) ?_
      exact W.widen (by omega) (by omega) (kk η2 _ _ _ H locs ls q4 hG2 h02 P (lv_sub hl [2, 3, 4, 5, 6] rfl))
    · show lg_cmp ((if (g_ofVessel σ (xs (nI i0 + 1).toNatClampNeg) (xs (nI i0 + 2).toNatClampNeg)).1 = 0 then vp_updL lf 0 (g_ofVessel σ (xs (nI i0 + 1).toNatClampNeg) (xs (nI i0 + 2).toNatClampNeg)).2.1.toInt64 else lf) ((0 : Int32).toNatClampNeg)) _ = 0
      rw [if_pos g0, q5, show (0 : Int32).toNatClampNeg = 0 by decide, pk_uLs]
      exact lg_same _
set_option maxHeartbeats 4000000 in
theorem law_dropsAnew (hl9 : l.stackTraces = false) (C : Cx RL p s m args meth c cL_law 7 wsL_law ret) (V : EnvV s) (hEC : EnvC s) (K : va_K D vwCl (tyL cI cO cJ) s) (E9 : EnvH t0 A s s.heap) (hX : va_X b L xs s s.heap) (hbl : b < s.heap.size) (hbA : ¬ A b) (hL : L ≤ 3072) (hi : i0 + 6 ≤ L) (hRf : 11 ≤ R.frames) (hRl : 414 ≤ R.locals) (hz : cells + 12 ≤ R.cells ∧ slots + 500 ≤ R.slots) (hI : Inv σ) (hG : Gok t0 η σ)
    (P : Hp D A s (((ob, ArL cJ lf) :: G_W cI cO η σ) ++ M_W cI m0 as th σ) H locs) (hl : lv_has ls 7 [(4, .int (nI i0)), (3, .ref ob), (2, .ref m0), (1, .ref (e_ad η 0)), (0, .ref b)])
    (kk : ∀ (η' : Eg) (σ' : Sg) (th' : Int32) (lf' : Nat → Int64) (H : Heap) (locs : List Loc) (ls : Array Slot), Inv σ' → Gok t0 η' σ' → e_ad η' 0 = e_ad η 0 → Hp D A s (((ob, ArL cJ lf') :: G_W cI cO η' σ') ++ M_W cI m0 as th' σ') H locs → lv_has ls 7 [(4, .int (nI i0)), (3, .ref ob), (2, .ref m0), (1, .ref (e_ad η 0)), (0, .ref b)] → W p l e R s m args below meth c H locs (cells + 12) (slots + 500) Q (F0 m 1593 ls [])) : W p l e R s m args below meth c H locs cells slots Q (F0 m 1357 ls []) := by
  obtain ⟨w0, w1, w2, w3, w4, w5⟩ := vpj hL hi
  have hx := C.1
  have hb := C.2.1
  have hml := C.2.2.1
  have hown := C.2.2.2.1
  obtain ⟨⟨q1, q2, q3⟩, q4⟩ := r_dropsAnew hI (xs (nI i0 + 1).toNatClampNeg)
  refine lv_aload_n (pc := 1357) hx hb dL_law_1357 rfl (lv_at hl 3 rfl) ?_
  refine lv_aload_n (pc := 1358) hx hb dL_law_1358 rfl (lv_at hl 4 rfl) ?_
  refine lv_iload (pc := 1359) hx hb dL_law_1359 (lv_at hl 0 rfl) ?_
  refine lv_iconst (pc := 1361) (v := 1) hx hb dL_law_1361 (by decide) ?_
  refine lv_iadd (pc := 1362) hx hb dL_law_1362 ?_
  refine va_sld (pc := 1363) hx hb hX hbl hbA P.2.2.1 w1 dL_law_1363 ?_
  refine lv_aload_n (pc := 1364) hx hb dL_law_1364 rfl (lv_at hl 1 rfl) ?_
  refine A_callW (pc := 1365) (As := [.ref (e_ad η 0), .int (xs (nI i0 + 1).toNatClampNeg), .ref ob]) (rest := []) C V hEC K E9 hl.1 P (kL_dropsAnew l hl9 D cI cO cJ t0 η σ ob lf (xs (nI i0 + 1).toNatClampNeg) hG (fun _ => gk_dropsAnew hG (xs (nI i0 + 1).toNatClampNeg))) fnL_dropsAnew gL_law_L_dropsAnew rfl rfl ⟨Nat.le_trans (Nat.le_of_ble_eq_true rfl) hRf, Nat.le_trans (Nat.le_of_ble_eq_true rfl) hRl⟩ (Nat.le_of_ble_eq_true rfl) ⟨by omega, by omega⟩ dL_law_1365 (fun η2 H locs P hG2 h02 => ?_)
  refine lv_istore (pc := 1368) (lv' := [(5, .int _), (4, .int (nI i0)), (3, .ref ob), (2, .ref m0), (1, .ref (e_ad η 0)), (0, .ref b)]) hx hb dL_law_1368 hl (by decide) rfl (fun ls hl => ?_)
  refine lv_aload_n (pc := 1370) hx hb dL_law_1370 rfl (lv_at hl 3 rfl) ?_
  refine lv_aload_n (pc := 1371) hx hb dL_law_1371 rfl (lv_at hl 5 rfl) ?_
  refine lv_iload (pc := 1372) hx hb dL_law_1372 (lv_at hl 1 rfl) ?_
  refine lv_iconst (pc := 1374) (v := 1) hx hb dL_law_1374 (by decide) ?_
  refine lv_iadd (pc := 1375) hx hb dL_law_1375 ?_
  refine va_sld (pc := 1376) hx hb hX hbl hbA P.2.2.1 w1 dL_law_1376 ?_
  refine A_callM (pc := 1377) (As := [.int (xs (nI i0 + 1).toNatClampNeg)]) (rest := []) C K hl.1 P (kX7_dropsAnew l D cI m0 as th σ (xs (nI i0 + 1).toNatClampNeg) hI.1.1) fnX7_dropsAnew rfl gL_law_X7_dropsAnew rfl rfl ⟨Nat.le_trans (Nat.le_of_ble_eq_true rfl) hRf, Nat.le_trans (Nat.le_of_ble_eq_true rfl) hRl⟩ (Nat.le_of_ble_eq_true rfl) ⟨by omega, by omega⟩ dL_law_1377 (fun H locs P => ?_)
  rw [q3] at P hG2
  refine lv_istore (pc := 1380) (lv' := [(6, .int _), (5, .int _), (4, .int (nI i0)), (3, .ref ob), (2, .ref m0), (1, .ref (e_ad η 0)), (0, .ref b)]) hx hb dL_law_1380 hl (by decide) rfl (fun ls hl => ?_)
  refine lv_aload_n (pc := 1382) hx hb dL_law_1382 rfl (lv_at hl 4 rfl) ?_
  refine A_callM (pc := 1383) (As := []) (rest := []) C K hl.1 P (kX7_thrown l D cI m0 as _ _) fnX7_thrown rfl gL_law_X7_thrown rfl rfl ⟨Nat.le_trans (Nat.le_of_ble_eq_true rfl) hRf, Nat.le_trans (Nat.le_of_ble_eq_true rfl) hRl⟩ (Nat.le_of_ble_eq_true rfl) ⟨by omega, by omega⟩ dL_law_1383 (fun H locs P => ?_)
  refine lv_iload (pc := 1386) hx hb dL_law_1386 (lv_at hl 1 rfl) ?_
  refine lv_icmp_eq (pc := 1388) (tgt := 1393) hx hb dL_law_1388 (by decide) (fun _ => ?_) (fun h => absurd q1.symm h)
  refine lv_iload (pc := 1393) hx hb dL_law_1393 (lv_at hl 1 rfl) ?_
  refine lv_if_ne (pc := 1395) (tgt := 1410) hx hb dL_law_1395 (by decide) (fun _ => ?_) (fun ck => ?_)
  · refine lv_goto (pc := 1410) (tgt := 1593) hx hb dL_law_1410 (by decide) ?_
    exact W.widen (by omega) (by omega) (kk η2 _ _ _ H locs ls q4 hG2 h02 P (lv_sub hl [2, 3, 4, 5, 6] rfl))
  · have g0 : (g_dropsAnew σ (xs (nI i0 + 1).toNatClampNeg)).1 = 0 := kc1_0 ck
    have q5 := q2 g0
    refine lv_aload_n (pc := 1398) hx hb dL_law_1398 rfl (lv_at hl 3 rfl) ?_
    refine lv_iconst (pc := 1399) (v := 0) hx hb dL_law_1399 (by decide) ?_
    refine va_lald (pc := 1400) hx hb K P.1 0 2 rfl rfl vp_in01 dL_law_1400 ?_
    refine lv_iload (pc := 1401) hx hb dL_law_1401 (lv_at hl 0 rfl) ?_
    refine lv_i2l (pc := 1403) (v := (m_dropsAnew σ (xs (nI i0 + 1).toNatClampNeg)).2.1.toInt64) hx hb dL_law_1403 rfl ?_
    refine W.lcmp (pc := 1404) hx hb dL_law_1404 ?_
    refine lv_if_eq (pc := 1405) (tgt := 1410) hx hb dL_law_1405 (by decide) (fun _ => ?_) (fun h => absurd ?_ h)
    · refine lv_goto (pc := 1410) (tgt := 1593) hx hb dL_law_1410 (by decide) ?_
      exact W.widen (by omega) (by omega) (kk η2 _ _ _ H locs ls q4 hG2 h02 P (lv_sub hl [2, 3, 4, 5, 6] rfl))
    · show lg_cmp ((if (g_dropsAnew σ (xs (nI i0 + 1).toNatClampNeg)).1 = 0 then vp_updL lf 0 (g_dropsAnew σ (xs (nI i0 + 1).toNatClampNeg)).2.1.toInt64 else lf) ((0 : Int32).toNatClampNeg)) _ = 0
      rw [if_pos g0, q5, show (0 : Int32).toNatClampNeg = 0 by decide, pk_uLs]
      exact lg_same _
set_option maxHeartbeats 4000000 in
theorem law_ofMovement (hl9 : l.stackTraces = false) (C : Cx RL p s m args meth c cL_law 7 wsL_law ret) (V : EnvV s) (hEC : EnvC s) (K : va_K D vwCl (tyL cI cO cJ) s) (E9 : EnvH t0 A s s.heap) (hX : va_X b L xs s s.heap) (hbl : b < s.heap.size) (hbA : ¬ A b) (hL : L ≤ 3072) (hi : i0 + 6 ≤ L) (hRf : 11 ≤ R.frames) (hRl : 414 ≤ R.locals) (hz : cells + 12 ≤ R.cells ∧ slots + 500 ≤ R.slots) (hI : Inv σ) (hG : Gok t0 η σ)
    (P : Hp D A s (((ob, ArL cJ lf) :: G_W cI cO η σ) ++ M_W cI m0 as th σ) H locs) (hl : lv_has ls 7 [(4, .int (nI i0)), (3, .ref ob), (2, .ref m0), (1, .ref (e_ad η 0)), (0, .ref b)])
    (kk : ∀ (η' : Eg) (σ' : Sg) (th' : Int32) (lf' : Nat → Int64) (H : Heap) (locs : List Loc) (ls : Array Slot), Inv σ' → Gok t0 η' σ' → e_ad η' 0 = e_ad η 0 → Hp D A s (((ob, ArL cJ lf') :: G_W cI cO η' σ') ++ M_W cI m0 as th' σ') H locs → lv_has ls 7 [(4, .int (nI i0)), (3, .ref ob), (2, .ref m0), (1, .ref (e_ad η 0)), (0, .ref b)] → W p l e R s m args below meth c H locs (cells + 12) (slots + 500) Q (F0 m 1593 ls [])) : W p l e R s m args below meth c H locs cells slots Q (F0 m 1413 ls []) := by
  obtain ⟨w0, w1, w2, w3, w4, w5⟩ := vpj hL hi
  have hx := C.1
  have hb := C.2.1
  have hml := C.2.2.1
  have hown := C.2.2.2.1
  obtain ⟨⟨q1, q2, q3⟩, q4⟩ := r_ofMovement hI (xs (nI i0 + 1).toNatClampNeg) (xs (nI i0 + 2).toNatClampNeg)
  refine lv_aload_n (pc := 1413) hx hb dL_law_1413 rfl (lv_at hl 3 rfl) ?_
  refine lv_aload_n (pc := 1414) hx hb dL_law_1414 rfl (lv_at hl 4 rfl) ?_
  refine lv_iload (pc := 1415) hx hb dL_law_1415 (lv_at hl 0 rfl) ?_
  refine lv_iconst (pc := 1417) (v := 1) hx hb dL_law_1417 (by decide) ?_
  refine lv_iadd (pc := 1418) hx hb dL_law_1418 ?_
  refine va_sld (pc := 1419) hx hb hX hbl hbA P.2.2.1 w1 dL_law_1419 ?_
  refine lv_aload_n (pc := 1420) hx hb dL_law_1420 rfl (lv_at hl 4 rfl) ?_
  refine lv_iload (pc := 1421) hx hb dL_law_1421 (lv_at hl 0 rfl) ?_
  refine lv_iconst (pc := 1423) (v := 2) hx hb dL_law_1423 (by decide) ?_
  refine lv_iadd (pc := 1424) hx hb dL_law_1424 ?_
  refine va_sld (pc := 1425) hx hb hX hbl hbA P.2.2.1 w2 dL_law_1425 ?_
  refine lv_aload_n (pc := 1426) hx hb dL_law_1426 rfl (lv_at hl 1 rfl) ?_
  refine A_callW (pc := 1427) (As := [.ref (e_ad η 0), .int (xs (nI i0 + 1).toNatClampNeg), .int (xs (nI i0 + 2).toNatClampNeg), .ref ob]) (rest := []) C V hEC K E9 hl.1 P (kL_ofMovement l hl9 D cI cO cJ t0 η σ ob lf (xs (nI i0 + 1).toNatClampNeg) (xs (nI i0 + 2).toNatClampNeg) hG (fun _ => gk_ofMovement hG (xs (nI i0 + 1).toNatClampNeg) (xs (nI i0 + 2).toNatClampNeg))) fnL_ofMovement gL_law_L_ofMovement rfl rfl ⟨Nat.le_trans (Nat.le_of_ble_eq_true rfl) hRf, Nat.le_trans (Nat.le_of_ble_eq_true rfl) hRl⟩ (Nat.le_of_ble_eq_true rfl) ⟨by omega, by omega⟩ dL_law_1427 (fun η2 H locs P hG2 h02 => ?_)
  refine lv_istore (pc := 1430) (lv' := [(5, .int _), (4, .int (nI i0)), (3, .ref ob), (2, .ref m0), (1, .ref (e_ad η 0)), (0, .ref b)]) hx hb dL_law_1430 hl (by decide) rfl (fun ls hl => ?_)
  refine lv_aload_n (pc := 1432) hx hb dL_law_1432 rfl (lv_at hl 3 rfl) ?_
  refine lv_aload_n (pc := 1433) hx hb dL_law_1433 rfl (lv_at hl 5 rfl) ?_
  refine lv_iload (pc := 1434) hx hb dL_law_1434 (lv_at hl 1 rfl) ?_
  refine lv_iconst (pc := 1436) (v := 1) hx hb dL_law_1436 (by decide) ?_
  refine lv_iadd (pc := 1437) hx hb dL_law_1437 ?_
  refine va_sld (pc := 1438) hx hb hX hbl hbA P.2.2.1 w1 dL_law_1438 ?_
  refine lv_aload_n (pc := 1439) hx hb dL_law_1439 rfl (lv_at hl 5 rfl) ?_
  refine lv_iload (pc := 1440) hx hb dL_law_1440 (lv_at hl 1 rfl) ?_
  refine lv_iconst (pc := 1442) (v := 2) hx hb dL_law_1442 (by decide) ?_
  refine lv_iadd (pc := 1443) hx hb dL_law_1443 ?_
  refine va_sld (pc := 1444) hx hb hX hbl hbA P.2.2.1 w2 dL_law_1444 ?_
  refine A_callM (pc := 1445) (As := [.int (xs (nI i0 + 1).toNatClampNeg), .int (xs (nI i0 + 2).toNatClampNeg)]) (rest := []) C K hl.1 P (kX7_ofMovement l D cI m0 as th σ (xs (nI i0 + 1).toNatClampNeg) (xs (nI i0 + 2).toNatClampNeg) hI.1.2.1) fnX7_ofMovement rfl gL_law_X7_ofMovement rfl rfl ⟨Nat.le_trans (Nat.le_of_ble_eq_true rfl) hRf, Nat.le_trans (Nat.le_of_ble_eq_true rfl) hRl⟩ (Nat.le_of_ble_eq_true rfl) ⟨by omega, by omega⟩ dL_law_1445 (fun H locs P => ?_)
  rw [q3] at P hG2
  refine lv_istore (pc := 1448) (lv' := [(6, .int _), (5, .int _), (4, .int (nI i0)), (3, .ref ob), (2, .ref m0), (1, .ref (e_ad η 0)), (0, .ref b)]) hx hb dL_law_1448 hl (by decide) rfl (fun ls hl => ?_)
  refine lv_aload_n (pc := 1450) hx hb dL_law_1450 rfl (lv_at hl 4 rfl) ?_
  refine A_callM (pc := 1451) (As := []) (rest := []) C K hl.1 P (kX7_thrown l D cI m0 as _ _) fnX7_thrown rfl gL_law_X7_thrown rfl rfl ⟨Nat.le_trans (Nat.le_of_ble_eq_true rfl) hRf, Nat.le_trans (Nat.le_of_ble_eq_true rfl) hRl⟩ (Nat.le_of_ble_eq_true rfl) ⟨by omega, by omega⟩ dL_law_1451 (fun H locs P => ?_)
  refine lv_iload (pc := 1454) hx hb dL_law_1454 (lv_at hl 1 rfl) ?_
  refine lv_icmp_eq (pc := 1456) (tgt := 1461) hx hb dL_law_1456 (by decide) (fun _ => ?_) (fun h => absurd q1.symm h)
  refine lv_iload (pc := 1461) hx hb dL_law_1461 (lv_at hl 1 rfl) ?_
  refine lv_if_ne (pc := 1463) (tgt := 1478) hx hb dL_law_1463 (by decide) (fun _ => ?_) (fun ck => ?_)
  · refine lv_goto (pc := 1478) (tgt := 1593) hx hb dL_law_1478 (by decide) ?_
    exact W.widen (by omega) (by omega) (kk η2 _ _ _ H locs ls q4 hG2 h02 P (lv_sub hl [2, 3, 4, 5, 6] rfl))
  · have g0 : (g_ofMovement σ (xs (nI i0 + 1).toNatClampNeg) (xs (nI i0 + 2).toNatClampNeg)).1 = 0 := kc1_0 ck
    have q5 := q2 g0
    refine lv_aload_n (pc := 1466) hx hb dL_law_1466 rfl (lv_at hl 3 rfl) ?_
    refine lv_iconst (pc := 1467) (v := 0) hx hb dL_law_1467 (by decide) ?_
    refine va_lald (pc := 1468) hx hb K P.1 0 2 rfl rfl vp_in01 dL_law_1468 ?_
    refine lv_iload (pc := 1469) hx hb dL_law_1469 (lv_at hl 0 rfl) ?_
    refine lv_i2l (pc := 1471) (v := (m_ofMovement σ (xs (nI i0 + 1).toNatClampNeg) (xs (nI i0 + 2).toNatClampNeg)).2.1.toInt64) hx hb dL_law_1471 rfl ?_
    refine W.lcmp (pc := 1472) hx hb dL_law_1472 ?_
    refine lv_if_eq (pc := 1473) (tgt := 1478) hx hb dL_law_1473 (by decide) (fun _ => ?_) (fun h => absurd ?_ h)
    · refine lv_goto (pc := 1478) (tgt := 1593) hx hb dL_law_1478 (by decide) ?_
      exact W.widen (by omega) (by omega) (kk η2 _ _ _ H locs ls q4 hG2 h02 P (lv_sub hl [2, 3, 4, 5, 6] rfl))
    · show lg_cmp ((if (g_ofMovement σ (xs (nI i0 + 1).toNatClampNeg) (xs (nI i0 + 2).toNatClampNeg)).1 = 0 then vp_updL lf 0 (g_ofMovement σ (xs (nI i0 + 1).toNatClampNeg) (xs (nI i0 + 2).toNatClampNeg)).2.1.toInt64 else lf) ((0 : Int32).toNatClampNeg)) _ = 0
      rw [if_pos g0, q5, show (0 : Int32).toNatClampNeg = 0 by decide, pk_uLs]
      exact lg_same _
set_option maxHeartbeats 4000000 in
theorem law_ledger (hl9 : l.stackTraces = false) (C : Cx RL p s m args meth c cL_law 7 wsL_law ret) (V : EnvV s) (hEC : EnvC s) (K : va_K D vwCl (tyL cI cO cJ) s) (E9 : EnvH t0 A s s.heap) (hX : va_X b L xs s s.heap) (hbl : b < s.heap.size) (hbA : ¬ A b) (hL : L ≤ 3072) (hi : i0 + 6 ≤ L) (hRf : 11 ≤ R.frames) (hRl : 414 ≤ R.locals) (hz : cells + 12 ≤ R.cells ∧ slots + 500 ≤ R.slots) (hI : Inv σ) (hG : Gok t0 η σ)
    (P : Hp D A s (((ob, ArL cJ lf) :: G_W cI cO η σ) ++ M_W cI m0 as th σ) H locs) (hl : lv_has ls 7 [(4, .int (nI i0)), (3, .ref ob), (2, .ref m0), (1, .ref (e_ad η 0)), (0, .ref b)])
    (kk : ∀ (η' : Eg) (σ' : Sg) (th' : Int32) (lf' : Nat → Int64) (H : Heap) (locs : List Loc) (ls : Array Slot), Inv σ' → Gok t0 η' σ' → e_ad η' 0 = e_ad η 0 → Hp D A s (((ob, ArL cJ lf') :: G_W cI cO η' σ') ++ M_W cI m0 as th' σ') H locs → lv_has ls 7 [(4, .int (nI i0)), (3, .ref ob), (2, .ref m0), (1, .ref (e_ad η 0)), (0, .ref b)] → W p l e R s m args below meth c H locs (cells + 12) (slots + 500) Q (F0 m 1593 ls [])) : W p l e R s m args below meth c H locs cells slots Q (F0 m 1481 ls []) := by
  obtain ⟨w0, w1, w2, w3, w4, w5⟩ := vpj hL hi
  have hx := C.1
  have hb := C.2.1
  have hml := C.2.2.1
  have hown := C.2.2.2.1
  obtain ⟨⟨q1, q2, q3⟩, q4⟩ := r_ledger hI (xs (nI i0 + 1).toNatClampNeg)
  refine lv_aload_n (pc := 1481) hx hb dL_law_1481 rfl (lv_at hl 3 rfl) ?_
  refine lv_aload_n (pc := 1482) hx hb dL_law_1482 rfl (lv_at hl 4 rfl) ?_
  refine lv_iload (pc := 1483) hx hb dL_law_1483 (lv_at hl 0 rfl) ?_
  refine lv_iconst (pc := 1485) (v := 1) hx hb dL_law_1485 (by decide) ?_
  refine lv_iadd (pc := 1486) hx hb dL_law_1486 ?_
  refine va_sld (pc := 1487) hx hb hX hbl hbA P.2.2.1 w1 dL_law_1487 ?_
  refine lv_aload_n (pc := 1488) hx hb dL_law_1488 rfl (lv_at hl 1 rfl) ?_
  refine A_callW (pc := 1489) (As := [.ref (e_ad η 0), .int (xs (nI i0 + 1).toNatClampNeg), .ref ob]) (rest := []) C V hEC K E9 hl.1 P (kL_ledger l hl9 D cI cO cJ t0 η σ ob lf (xs (nI i0 + 1).toNatClampNeg) hG (fun _ => gk_ledger hG (xs (nI i0 + 1).toNatClampNeg))) fnL_ledger gL_law_L_ledger rfl rfl ⟨Nat.le_trans (Nat.le_of_ble_eq_true rfl) hRf, Nat.le_trans (Nat.le_of_ble_eq_true rfl) hRl⟩ (Nat.le_of_ble_eq_true rfl) ⟨by omega, by omega⟩ dL_law_1489 (fun η2 H locs P hG2 h02 => ?_)
  refine lv_istore (pc := 1492) (lv' := [(5, .int _), (4, .int (nI i0)), (3, .ref ob), (2, .ref m0), (1, .ref (e_ad η 0)), (0, .ref b)]) hx hb dL_law_1492 hl (by decide) rfl (fun ls hl => ?_)
  refine lv_aload_n (pc := 1494) hx hb dL_law_1494 rfl (lv_at hl 3 rfl) ?_
  refine lv_aload_n (pc := 1495) hx hb dL_law_1495 rfl (lv_at hl 5 rfl) ?_
  refine lv_iload (pc := 1496) hx hb dL_law_1496 (lv_at hl 1 rfl) ?_
  refine lv_iconst (pc := 1498) (v := 1) hx hb dL_law_1498 (by decide) ?_
  refine lv_iadd (pc := 1499) hx hb dL_law_1499 ?_
  refine va_sld (pc := 1500) hx hb hX hbl hbA P.2.2.1 w1 dL_law_1500 ?_
  refine A_callM (pc := 1501) (As := [.int (xs (nI i0 + 1).toNatClampNeg)]) (rest := []) C K hl.1 P (kX7_ledger l D cI m0 as th σ (xs (nI i0 + 1).toNatClampNeg) hI.1.1 hI.1.2.1 hI.1.2.2) fnX7_ledger rfl gL_law_X7_ledger rfl rfl ⟨Nat.le_trans (Nat.le_of_ble_eq_true rfl) hRf, Nat.le_trans (Nat.le_of_ble_eq_true rfl) hRl⟩ (Nat.le_of_ble_eq_true rfl) ⟨by omega, by omega⟩ dL_law_1501 (fun H locs P => ?_)
  rw [q3] at P hG2
  refine lv_istore (pc := 1504) (lv' := [(6, .int _), (5, .int _), (4, .int (nI i0)), (3, .ref ob), (2, .ref m0), (1, .ref (e_ad η 0)), (0, .ref b)]) hx hb dL_law_1504 hl (by decide) rfl (fun ls hl => ?_)
  refine lv_aload_n (pc := 1506) hx hb dL_law_1506 rfl (lv_at hl 4 rfl) ?_
  refine A_callM (pc := 1507) (As := []) (rest := []) C K hl.1 P (kX7_thrown l D cI m0 as _ _) fnX7_thrown rfl gL_law_X7_thrown rfl rfl ⟨Nat.le_trans (Nat.le_of_ble_eq_true rfl) hRf, Nat.le_trans (Nat.le_of_ble_eq_true rfl) hRl⟩ (Nat.le_of_ble_eq_true rfl) ⟨by omega, by omega⟩ dL_law_1507 (fun H locs P => ?_)
  refine lv_iload (pc := 1510) hx hb dL_law_1510 (lv_at hl 1 rfl) ?_
  refine lv_icmp_eq (pc := 1512) (tgt := 1517) hx hb dL_law_1512 (by decide) (fun _ => ?_) (fun h => absurd q1.symm h)
  refine lv_iload (pc := 1517) hx hb dL_law_1517 (lv_at hl 1 rfl) ?_
  refine lv_if_ne (pc := 1519) (tgt := 1534) hx hb dL_law_1519 (by decide) (fun _ => ?_) (fun ck => ?_)
  · refine lv_goto (pc := 1534) (tgt := 1593) hx hb dL_law_1534 (by decide) ?_
    exact W.widen (by omega) (by omega) (kk η2 _ _ _ H locs ls q4 hG2 h02 P (lv_sub hl [2, 3, 4, 5, 6] rfl))
  · have g0 : (g_ledger σ (xs (nI i0 + 1).toNatClampNeg)).1 = 0 := kc1_0 ck
    have q5 := q2 g0
    refine lv_aload_n (pc := 1522) hx hb dL_law_1522 rfl (lv_at hl 3 rfl) ?_
    refine lv_iconst (pc := 1523) (v := 0) hx hb dL_law_1523 (by decide) ?_
    refine va_lald (pc := 1524) hx hb K P.1 0 2 rfl rfl vp_in01 dL_law_1524 ?_
    refine lv_iload (pc := 1525) hx hb dL_law_1525 (lv_at hl 0 rfl) ?_
    refine lv_i2l (pc := 1527) (v := (m_ledger σ (xs (nI i0 + 1).toNatClampNeg)).2.1.toInt64) hx hb dL_law_1527 rfl ?_
    refine W.lcmp (pc := 1528) hx hb dL_law_1528 ?_
    refine lv_if_eq (pc := 1529) (tgt := 1534) hx hb dL_law_1529 (by decide) (fun _ => ?_) (fun h => absurd ?_ h)
    · refine lv_goto (pc := 1534) (tgt := 1593) hx hb dL_law_1534 (by decide) ?_
      exact W.widen (by omega) (by omega) (kk η2 _ _ _ H locs ls q4 hG2 h02 P (lv_sub hl [2, 3, 4, 5, 6] rfl))
    · show lg_cmp ((if (g_ledger σ (xs (nI i0 + 1).toNatClampNeg)).1 = 0 then vp_updL lf 0 (g_ledger σ (xs (nI i0 + 1).toNatClampNeg)).2.1.toInt64 else lf) ((0 : Int32).toNatClampNeg)) _ = 0
      rw [if_pos g0, q5, show (0 : Int32).toNatClampNeg = 0 by decide, pk_uLs]
      exact lg_same _
set_option maxHeartbeats 4000000 in
theorem law_duty (hl9 : l.stackTraces = false) (C : Cx RL p s m args meth c cL_law 7 wsL_law ret) (V : EnvV s) (hEC : EnvC s) (K : va_K D vwCl (tyL cI cO cJ) s) (E9 : EnvH t0 A s s.heap) (hX : va_X b L xs s s.heap) (hbl : b < s.heap.size) (hbA : ¬ A b) (hL : L ≤ 3072) (hi : i0 + 6 ≤ L) (hRf : 11 ≤ R.frames) (hRl : 414 ≤ R.locals) (hz : cells + 12 ≤ R.cells ∧ slots + 500 ≤ R.slots) (hI : Inv σ) (hG : Gok t0 η σ)
    (P : Hp D A s (((ob, ArL cJ lf) :: G_W cI cO η σ) ++ M_W cI m0 as th σ) H locs) (hl : lv_has ls 7 [(4, .int (nI i0)), (3, .ref ob), (2, .ref m0), (1, .ref (e_ad η 0)), (0, .ref b)])
    (kk : ∀ (η' : Eg) (σ' : Sg) (th' : Int32) (lf' : Nat → Int64) (H : Heap) (locs : List Loc) (ls : Array Slot), Inv σ' → Gok t0 η' σ' → e_ad η' 0 = e_ad η 0 → Hp D A s (((ob, ArL cJ lf') :: G_W cI cO η' σ') ++ M_W cI m0 as th' σ') H locs → lv_has ls 7 [(4, .int (nI i0)), (3, .ref ob), (2, .ref m0), (1, .ref (e_ad η 0)), (0, .ref b)] → W p l e R s m args below meth c H locs (cells + 12) (slots + 500) Q (F0 m 1593 ls [])) : W p l e R s m args below meth c H locs cells slots Q (F0 m 1537 ls []) := by
  obtain ⟨w0, w1, w2, w3, w4, w5⟩ := vpj hL hi
  have hx := C.1
  have hb := C.2.1
  have hml := C.2.2.1
  have hown := C.2.2.2.1
  obtain ⟨⟨q1, q2, q3⟩, q4⟩ := r_duty hI (xs (nI i0 + 1).toNatClampNeg)
  refine lv_aload_n (pc := 1537) hx hb dL_law_1537 rfl (lv_at hl 3 rfl) ?_
  refine lv_aload_n (pc := 1538) hx hb dL_law_1538 rfl (lv_at hl 4 rfl) ?_
  refine lv_iload (pc := 1539) hx hb dL_law_1539 (lv_at hl 0 rfl) ?_
  refine lv_iconst (pc := 1541) (v := 1) hx hb dL_law_1541 (by decide) ?_
  refine lv_iadd (pc := 1542) hx hb dL_law_1542 ?_
  refine va_sld (pc := 1543) hx hb hX hbl hbA P.2.2.1 w1 dL_law_1543 ?_
  refine lv_aload_n (pc := 1544) hx hb dL_law_1544 rfl (lv_at hl 1 rfl) ?_
  refine A_callW (pc := 1545) (As := [.ref (e_ad η 0), .int (xs (nI i0 + 1).toNatClampNeg), .ref ob]) (rest := []) C V hEC K E9 hl.1 P (kL_duty l hl9 D cI cO cJ t0 η σ ob lf (xs (nI i0 + 1).toNatClampNeg) hG (fun _ => gk_duty hG (xs (nI i0 + 1).toNatClampNeg))) fnL_duty gL_law_L_duty rfl rfl ⟨Nat.le_trans (Nat.le_of_ble_eq_true rfl) hRf, Nat.le_trans (Nat.le_of_ble_eq_true rfl) hRl⟩ (Nat.le_of_ble_eq_true rfl) ⟨by omega, by omega⟩ dL_law_1545 (fun η2 H locs P hG2 h02 => ?_)
  refine lv_istore (pc := 1548) (lv' := [(5, .int _), (4, .int (nI i0)), (3, .ref ob), (2, .ref m0), (1, .ref (e_ad η 0)), (0, .ref b)]) hx hb dL_law_1548 hl (by decide) rfl (fun ls hl => ?_)
  refine lv_aload_n (pc := 1550) hx hb dL_law_1550 rfl (lv_at hl 3 rfl) ?_
  refine lv_aload_n (pc := 1551) hx hb dL_law_1551 rfl (lv_at hl 5 rfl) ?_
  refine lv_iload (pc := 1552) hx hb dL_law_1552 (lv_at hl 1 rfl) ?_
  refine lv_iconst (pc := 1554) (v := 1) hx hb dL_law_1554 (by decide) ?_
  refine lv_iadd (pc := 1555) hx hb dL_law_1555 ?_
  refine va_sld (pc := 1556) hx hb hX hbl hbA P.2.2.1 w1 dL_law_1556 ?_
  refine A_callM (pc := 1557) (As := [.int (xs (nI i0 + 1).toNatClampNeg)]) (rest := []) C K hl.1 P (kX7_duty l D cI m0 as th σ (xs (nI i0 + 1).toNatClampNeg) hI.1.2.1) fnX7_duty rfl gL_law_X7_duty rfl rfl ⟨Nat.le_trans (Nat.le_of_ble_eq_true rfl) hRf, Nat.le_trans (Nat.le_of_ble_eq_true rfl) hRl⟩ (Nat.le_of_ble_eq_true rfl) ⟨by omega, by omega⟩ dL_law_1557 (fun H locs P => ?_)
  rw [q3] at P hG2
  refine lv_istore (pc := 1560) (lv' := [(6, .int _), (5, .int _), (4, .int (nI i0)), (3, .ref ob), (2, .ref m0), (1, .ref (e_ad η 0)), (0, .ref b)]) hx hb dL_law_1560 hl (by decide) rfl (fun ls hl => ?_)
  refine lv_aload_n (pc := 1562) hx hb dL_law_1562 rfl (lv_at hl 4 rfl) ?_
  refine A_callM (pc := 1563) (As := []) (rest := []) C K hl.1 P (kX7_thrown l D cI m0 as _ _) fnX7_thrown rfl gL_law_X7_thrown rfl rfl ⟨Nat.le_trans (Nat.le_of_ble_eq_true rfl) hRf, Nat.le_trans (Nat.le_of_ble_eq_true rfl) hRl⟩ (Nat.le_of_ble_eq_true rfl) ⟨by omega, by omega⟩ dL_law_1563 (fun H locs P => ?_)
  refine lv_iload (pc := 1566) hx hb dL_law_1566 (lv_at hl 1 rfl) ?_
  refine lv_icmp_eq (pc := 1568) (tgt := 1573) hx hb dL_law_1568 (by decide) (fun _ => ?_) (fun h => absurd q1.symm h)
  refine lv_iload (pc := 1573) hx hb dL_law_1573 (lv_at hl 1 rfl) ?_
  refine lv_if_ne (pc := 1575) (tgt := 1590) hx hb dL_law_1575 (by decide) (fun _ => ?_) (fun ck => ?_)
  · refine lv_goto (pc := 1590) (tgt := 1593) hx hb dL_law_1590 (by decide) ?_
    exact W.widen (by omega) (by omega) (kk η2 _ _ _ H locs ls q4 hG2 h02 P (lv_sub hl [2, 3, 4, 5, 6] rfl))
  · have g0 : (g_duty σ (xs (nI i0 + 1).toNatClampNeg)).1 = 0 := kc1_0 ck
    have q5 := q2 g0
    refine lv_aload_n (pc := 1578) hx hb dL_law_1578 rfl (lv_at hl 3 rfl) ?_
    refine lv_iconst (pc := 1579) (v := 0) hx hb dL_law_1579 (by decide) ?_
    refine va_lald (pc := 1580) hx hb K P.1 0 2 rfl rfl vp_in01 dL_law_1580 ?_
    refine lv_iload (pc := 1581) hx hb dL_law_1581 (lv_at hl 0 rfl) ?_
    refine lv_i2l (pc := 1583) (v := (m_duty σ (xs (nI i0 + 1).toNatClampNeg)).2.1.toInt64) hx hb dL_law_1583 rfl ?_
    refine W.lcmp (pc := 1584) hx hb dL_law_1584 ?_
    refine lv_if_eq (pc := 1585) (tgt := 1590) hx hb dL_law_1585 (by decide) (fun _ => ?_) (fun h => absurd ?_ h)
    · refine lv_goto (pc := 1590) (tgt := 1593) hx hb dL_law_1590 (by decide) ?_
      exact W.widen (by omega) (by omega) (kk η2 _ _ _ H locs ls q4 hG2 h02 P (lv_sub hl [2, 3, 4, 5, 6] rfl))
    · show lg_cmp ((if (g_duty σ (xs (nI i0 + 1).toNatClampNeg)).1 = 0 then vp_updL lf 0 (g_duty σ (xs (nI i0 + 1).toNatClampNeg)).2.1.toInt64 else lf) ((0 : Int32).toNatClampNeg)) _ = 0
      rw [if_pos g0, q5, show (0 : Int32).toNatClampNeg = 0 by decide, pk_uLs]
      exact lg_same _
end LC
