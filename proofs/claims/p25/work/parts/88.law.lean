theorem so_b {T : Nat} {σ L : Sg} (h : TI T σ L) {k u w so : Int32} (hk : vp_in k 5) (hs : so = if L.2 1 (ix k) = 0 then 1 else (if w &&& 12288 = 0 then 1 + z_low u (L.2 1 (ix k) + 3) else 1 + z_low u (L.2 1 (ix k) / 3 + 1))) : 1 ≤ so.toInt ∧ so.toInt ≤ 10002 := by
  obtain ⟨v, -, -, e, -⟩ := ti_v h hk
  have v1 := v.1
  have v2 := v.2.1
  have v3 := v.2.2.1
  rw [← e] at v1 v2
  have e3 : (L.2 1 (ix k) + 3).toInt = (L.2 1 (ix k)).toInt + 3 := by rw [i_add (by rw [show (3 : Int32).toInt = 3 by decide]; omega) (by rw [show (3 : Int32).toInt = 3 by decide]; omega)]; rfl
  have d3 : (L.2 1 (ix k) / 3).toInt = (L.2 1 (ix k)).toInt / 3 := i_div v1 (by decide)
  have e4 : (L.2 1 (ix k) / 3 + 1).toInt = (L.2 1 (ix k)).toInt / 3 + 1 := by rw [i_add (by rw [d3, ti1]; omega) (by rw [d3, ti1]; omega), d3, ti1]
  rw [hs]
  split
  · decide
  · split
    · obtain ⟨a, b⟩ := z_low_i u (n := L.2 1 (ix k) + 3) (by omega)
      rw [i_add (by rw [ti1]; omega) (by rw [ti1]; omega), ti1]
      omega
    · obtain ⟨a, b⟩ := z_low_i u (n := L.2 1 (ix k) / 3 + 1) (by omega)
      rw [i_add (by rw [ti1]; omega) (by rw [ti1]; omega), ti1]
      omega
theorem so_n {T : Nat} {σ L : Sg} (h : TI T σ L) {k : Int32} (hk : vp_in k 5) : ¬ L.2 1 (ix k) + 3 = 0 ∧ ¬ L.2 1 (ix k) / 3 + 1 = 0 := by
  obtain ⟨v, -, -, e, -⟩ := ti_v h hk
  have v1 := v.1
  have v2 := v.2.1
  have v3 := v.2.2.1
  rw [← e] at v1 v2
  have e3 : (L.2 1 (ix k) + 3).toInt = (L.2 1 (ix k)).toInt + 3 := by rw [i_add (by rw [show (3 : Int32).toInt = 3 by decide]; omega) (by rw [show (3 : Int32).toInt = 3 by decide]; omega)]; rfl
  have d3 : (L.2 1 (ix k) / 3).toInt = (L.2 1 (ix k)).toInt / 3 := i_div v1 (by decide)
  have e4 : (L.2 1 (ix k) / 3 + 1).toInt = (L.2 1 (ix k)).toInt / 3 + 1 := by rw [i_add (by rw [d3, ti1]; omega) (by rw [d3, ti1]; omega), d3, ti1]
  exact ⟨fun q => by rw [q, ti0] at e3; omega, fun q => by rw [q, ti0] at e4; omega⟩
theorem neg_a {T : Nat} (h : T < 120) : ¬ 5 + 2 * nI T < 0 ∧ ¬ 6 + 2 * nI T < 0 := by
  have e : (nI T).toInt = T := nI_toInt (by omega)
  have e2 : (2 * nI T).toInt = 2 * T := by rw [i_mul (by rw [e, show (2 : Int32).toInt = 2 by decide]; omega) (by rw [e, show (2 : Int32).toInt = 2 by decide]; omega), e]; rfl
  refine ⟨fun q => ?_, fun q => ?_⟩
  · rw [lt_i, i_add (by rw [e2, show (5 : Int32).toInt = 5 by decide]; omega) (by rw [e2, show (5 : Int32).toInt = 5 by decide]; omega), e2, ti0, show (5 : Int32).toInt = 5 by decide] at q
    omega
  · rw [lt_i, i_add (by rw [e2, show (6 : Int32).toInt = 6 by decide]; omega) (by rw [e2, show (6 : Int32).toInt = 6 by decide]; omega), e2, ti0, show (6 : Int32).toInt = 6 by decide] at q
    omega
theorem cons_L {T : Nat} {σ L : Sg} (h : TI T σ L) : sm (L.2 2) 5 + (z_moving L).1 + sm (L.2 5) (ix (L.2 4 9)) + L.2 4 12 + L.2 4 13 + L.2 4 14 = L.2 4 11 := by
  have hS := h.2.2.1
  have hG := hS.2.2.1
  have hq := h.2.2.2.1
  rw [sim_held h.2.1 hS.1, sim_mov hG hS.2.2.2.2, (lots_b h).2.2.2, hG.2.2.2.2.2.2.2.2.2.2.2.1, hG.2.2.2.2.2.2.2.2.2.2.2.2.1, hG.2.2.2.2.2.2.2.2.2.2.2.2.2.1, hG.2.2.2.2.2.2.2.2.2.2.2.2.2.2.1]
  unfold cq at hq
  grind
theorem t_lt {T : Nat} (hT : T ≤ 120) : (120 : Int32) ≤ nI T ↔ T = 120 := by
  rw [le_i, nI_toInt (by omega), show (120 : Int32).toInt = 120 by decide]
  omega
section LC8
variable {p : Program} {l : Launch} {e : Env} {R : Room} {s : State} {m : MethodId} {args : Array Value} {below : List Frame} {meth : Method} {c : Code} {H : Heap} {locs : List Loc} {cells slots : Nat} {Q : State → Prop} {ls : Array Slot} {D : va_G} {A : Nat → Prop} {ret : Option FieldType} {cI cO : ClassId} {t0 : Nat} {η : Eg} {σ L : Sg} {ar : Nat → Nat} {g0 b T N : Nat} {xs : Nat → Int32}
set_option maxHeartbeats 8000000 in
set_option maxRecDepth 100000 in
theorem law_turn (hl9 : l.stackTraces = false) (C : Cx RL p s m args meth c cL_law 62 wsL_law ret) (V : EnvV s) (hEC : EnvC s) (K : va_K D vwCl (tyG cI cO) s) (E9 : EnvH t0 A s s.heap) (hX : va_X b N xs s s.heap) (hbl : b < s.heap.size) (hbA : ¬ A b) (hN : N < 2 ^ 31) (hRf : 12 ≤ R.frames) (hRl : 452 ≤ R.locals) (hz : cells + 400 ≤ R.cells ∧ slots + 2400 ≤ R.slots) (hT : T < 120) (hTI : TI T σ L) (hG : Gok t0 η σ) (hg : e_ad η 0 = g0) (P : Hp D A s (G_W cI cO η σ ++ Z_W cI ar L) H locs) (hl : lv_has ls 62 [(13, .int (nI T)), (12, .int (σ.1 9)), (11, .int (σ.1 8)), (10, .ref (ar 8)), (9, .ref (ar 7)), (8, .ref (ar 6)), (7, .ref (ar 5)), (6, .ref (ar 4)), (5, .ref (ar 3)), (4, .ref (ar 2)), (3, .ref (ar 1)), (2, .ref (ar 0)), (1, .ref g0), (0, .ref b)]) (kk : ∀ (η : Eg) (σ L : Sg) (H : Heap) (locs : List Loc) (ls : Array Slot), TI (T + 1) σ L → Gok t0 η σ → e_ad η 0 = g0 → Hp D A s (G_W cI cO η σ ++ Z_W cI ar L) H locs → lv_has ls 62 [(20, .int 1), (13, .int (nI T)), (12, .int (σ.1 9)), (11, .int (σ.1 8)), (10, .ref (ar 8)), (9, .ref (ar 7)), (8, .ref (ar 6)), (7, .ref (ar 5)), (6, .ref (ar 4)), (5, .ref (ar 3)), (4, .ref (ar 2)), (3, .ref (ar 1)), (2, .ref (ar 0)), (1, .ref g0), (0, .ref b)] → W p l e R s m args below meth c H locs (cells + 12) (slots + 500) Q (F0 m 2755 ls [])) : W p l e R s m args below meth c H locs cells slots Q (F0 m 137 ls []) := by
  have hx := C.1
  have hb := C.2.1
  have hown := C.2.2.2.1
  have hts := C.2.2.2.2.1
  refine lv_aload_n (pc := 137) hx hb dL_law_137 rfl (lv_at hl 13 rfl) ?_
  refine lv_iconst (pc := 138) (v := 5) hx hb dL_law_138 (by decide) ?_
  refine lv_iconst (pc := 139) (v := 2) hx hb dL_law_139 (by decide) ?_
  refine lv_iload (pc := 140) hx hb dL_law_140 (lv_at hl 0 rfl) ?_
  refine lv_imul (pc := 142) hx hb dL_law_142 ?_
  refine lv_iadd (pc := 143) hx hb dL_law_143 ?_
  refine Z_cell (pc := 144) (rest := []) C hX hbl hbA P.2.2.1 (neg_a hT).1 hN hl.1 gL_law_L_cell ⟨Nat.le_trans (Nat.le_of_ble_eq_true rfl) hRf, Nat.le_trans (Nat.le_of_ble_eq_true rfl) hRl⟩ (Nat.le_of_ble_eq_true rfl) ⟨by omega, by omega⟩ dL_law_144 ?_
  refine lv_topi (fun (w : Int32) (hw : w = (z_cell xs N (5 + (2 * (nI T))) : Int32)) => ?_)
  refine lv_istore (pc := 147) (lv' := [(14, .int w), (13, .int (nI T)), (12, .int (σ.1 9)), (11, .int (σ.1 8)), (10, .ref (ar 8)), (9, .ref (ar 7)), (8, .ref (ar 6)), (7, .ref (ar 5)), (6, .ref (ar 4)), (5, .ref (ar 3)), (4, .ref (ar 2)), (3, .ref (ar 1)), (2, .ref (ar 0)), (1, .ref g0), (0, .ref b)]) hx hb dL_law_147 hl (by decide) rfl (fun ls hl => ?_)
  refine lv_aload_n (pc := 149) hx hb dL_law_149 rfl (lv_at hl 14 rfl) ?_
  refine lv_bipush (pc := 150) (v := 6) hx hb dL_law_150 (by decide) ?_
  refine lv_iconst (pc := 152) (v := 2) hx hb dL_law_152 (by decide) ?_
  refine lv_iload (pc := 153) hx hb dL_law_153 (lv_at hl 1 rfl) ?_
  refine lv_imul (pc := 155) hx hb dL_law_155 ?_
  refine lv_iadd (pc := 156) hx hb dL_law_156 ?_
  refine Z_cell (pc := 157) (rest := []) C hX hbl hbA P.2.2.1 (neg_a hT).2 hN hl.1 gL_law_L_cell ⟨Nat.le_trans (Nat.le_of_ble_eq_true rfl) hRf, Nat.le_trans (Nat.le_of_ble_eq_true rfl) hRl⟩ (Nat.le_of_ble_eq_true rfl) ⟨by omega, by omega⟩ dL_law_157 ?_
  refine lv_topi (fun (u : Int32) (hu : u = (z_cell xs N (6 + (2 * (nI T))) : Int32)) => ?_)
  refine lv_istore (pc := 160) (lv' := [(15, .int u), (14, .int w), (13, .int (nI T)), (12, .int (σ.1 9)), (11, .int (σ.1 8)), (10, .ref (ar 8)), (9, .ref (ar 7)), (8, .ref (ar 6)), (7, .ref (ar 5)), (6, .ref (ar 4)), (5, .ref (ar 3)), (4, .ref (ar 2)), (3, .ref (ar 1)), (2, .ref (ar 0)), (1, .ref g0), (0, .ref b)]) hx hb dL_law_160 hl (by decide) rfl (fun ls hl => ?_)
  refine lv_iload (pc := 162) hx hb dL_law_162 (lv_at hl 1 rfl) ?_
  refine lv_iconst (pc := 164) (v := 5) hx hb dL_law_164 (by decide) ?_
  refine lv_ishr (pc := 165) hx hb dL_law_165 ?_
  refine lv_iconst (pc := 166) (v := 5) hx hb dL_law_166 (by decide) ?_
  refine S_call (pc := 167) (As := [.int (w >>> (5 &&& 31)), .int 5]) (rest := []) (r := z_low (w >>> (5 &&& 31)) 5) C hl.1 (kL_low l (w >>> (5 &&& 31)) 5 (by decide)) fnL_low gL_law_L_low rfl rfl ⟨Nat.le_trans (Nat.le_of_ble_eq_true rfl) hRf, Nat.le_trans (Nat.le_of_ble_eq_true rfl) hRl⟩ (Nat.le_of_ble_eq_true rfl) ⟨by omega, by omega⟩ dL_law_167 ?_
  refine lv_topi (fun (k : Int32) (hk : k = (z_low (w >>> ((5 &&& 31) : Int32)) 5 : Int32)) => ?_)
  have hk5 : vp_in k 5 := by rw [hk]; exact low_vp _ 5 5 (by decide) (by decide)
  refine lv_istore (pc := 170) (lv' := [(16, .int k), (15, .int u), (14, .int w), (13, .int (nI T)), (12, .int (σ.1 9)), (11, .int (σ.1 8)), (10, .ref (ar 8)), (9, .ref (ar 7)), (8, .ref (ar 6)), (7, .ref (ar 5)), (6, .ref (ar 4)), (5, .ref (ar 3)), (4, .ref (ar 2)), (3, .ref (ar 1)), (2, .ref (ar 0)), (1, .ref g0), (0, .ref b)]) hx hb dL_law_170 hl (by decide) rfl (fun ls hl => ?_)
  refine lv_iload (pc := 172) hx hb dL_law_172 (lv_at hl 2 rfl) ?_
  refine lv_bipush (pc := 174) (v := 8) hx hb dL_law_174 (by decide) ?_
  refine lv_ishr (pc := 176) hx hb dL_law_176 ?_
  refine lv_iconst (pc := 177) (v := 5) hx hb dL_law_177 (by decide) ?_
  refine S_call (pc := 178) (As := [.int (w >>> (8 &&& 31)), .int 5]) (rest := []) (r := z_low (w >>> (8 &&& 31)) 5) C hl.1 (kL_low l (w >>> (8 &&& 31)) 5 (by decide)) fnL_low gL_law_L_low rfl rfl ⟨Nat.le_trans (Nat.le_of_ble_eq_true rfl) hRf, Nat.le_trans (Nat.le_of_ble_eq_true rfl) hRl⟩ (Nat.le_of_ble_eq_true rfl) ⟨by omega, by omega⟩ dL_law_178 ?_
  refine lv_topi (fun (o : Int32) (ho : o = (z_low (w >>> ((8 &&& 31) : Int32)) 5 : Int32)) => ?_)
  have ho5 : vp_in o 5 := by rw [ho]; exact low_vp _ 5 5 (by decide) (by decide)
  refine lv_istore (pc := 181) (lv' := [(17, .int o), (16, .int k), (15, .int u), (14, .int w), (13, .int (nI T)), (12, .int (σ.1 9)), (11, .int (σ.1 8)), (10, .ref (ar 8)), (9, .ref (ar 7)), (8, .ref (ar 6)), (7, .ref (ar 5)), (6, .ref (ar 4)), (5, .ref (ar 3)), (4, .ref (ar 2)), (3, .ref (ar 1)), (2, .ref (ar 0)), (1, .ref g0), (0, .ref b)]) hx hb dL_law_181 hl (by decide) rfl (fun ls hl => ?_)
  refine lv_aload_n (pc := 183) hx hb dL_law_183 rfl (lv_at hl 14 rfl) ?_
  refine lv_iload (pc := 184) hx hb dL_law_184 (lv_at hl 1 rfl) ?_
  refine Z_ald (pc := 186) (j := 1) (v := L.2 1 (ix k)) C K P rfl hk5 rfl dL_law_186 ?_
  refine lv_mergeI (M := 227) (T := if (L.2 1 (ix k)) = 0 then 1 else (if (w &&& 12288) = 0 then (1 + (z_low u ((L.2 1 (ix k)) + 3))) else (1 + (z_low u (((L.2 1 (ix k)) / 3) + 1))))) (rest := []) (fun hm => ?_) (fun (m187 : Int32) (hm187 : m187 = (if (L.2 1 (ix k)) = 0 then 1 else (if (w &&& 12288) = 0 then (1 + (z_low u ((L.2 1 (ix k)) + 3))) else (1 + (z_low u (((L.2 1 (ix k)) / 3) + 1)))) : Int32)) => ?_)
  · refine lv_if_ne (pc := 187) (tgt := 194) hx hb dL_law_187 (by decide) (fun (c187 : ¬ (L.2 1 (ix k)) = 0) => ?_) (fun (c187 : (L.2 1 (ix k)) = 0) => ?_)
    · refine lv_iconst (pc := 194) (v := 1) hx hb dL_law_194 (by decide) ?_
      refine lv_iload (pc := 195) hx hb dL_law_195 (lv_at hl 2 rfl) ?_
      refine lv_iload (pc := 197) hx hb dL_law_197 (lv_at hl 3 rfl) ?_
      refine lv_sipush (pc := 199) (v := 12288) hx hb dL_law_199 (by decide) ?_
      refine lv_iand (pc := 202) hx hb dL_law_202 ?_
      refine lv_if_ne (pc := 203) (tgt := 215) hx hb dL_law_203 (by decide) (fun (c203 : ¬ (w &&& 12288) = 0) => ?_) (fun (c203 : (w &&& 12288) = 0) => ?_)
      · refine lv_aload_n (pc := 215) hx hb dL_law_215 rfl (lv_at hl 14 rfl) ?_
        refine lv_iload (pc := 216) hx hb dL_law_216 (lv_at hl 1 rfl) ?_
        refine Z_ald (pc := 218) (j := 1) (v := L.2 1 (ix k)) C K P rfl hk5 rfl dL_law_218 ?_
        refine lv_iconst (pc := 219) (v := 3) hx hb dL_law_219 (by decide) ?_
        refine lv_idiv (pc := 220) hx hb dL_law_220 (by decide) ?_
        refine lv_iconst (pc := 221) (v := 1) hx hb dL_law_221 (by decide) ?_
        refine lv_iadd (pc := 222) hx hb dL_law_222 ?_
        refine S_call (pc := 223) (As := [.int u, .int (((L.2 1 (ix k)) / 3) + 1)]) (rest := [.int 1]) (r := z_low u (((L.2 1 (ix k)) / 3) + 1)) C hl.1 (kL_low l u (((L.2 1 (ix k)) / 3) + 1) (so_n hTI hk5).2) fnL_low gL_law_L_low rfl rfl ⟨Nat.le_trans (Nat.le_of_ble_eq_true rfl) hRf, Nat.le_trans (Nat.le_of_ble_eq_true rfl) hRl⟩ (Nat.le_of_ble_eq_true rfl) ⟨by omega, by omega⟩ dL_law_223 ?_
        refine lv_iadd (pc := 226) hx hb dL_law_226 ?_
        exact hm _ (by rw [if_neg c187, if_neg c203])
      · refine lv_aload_n (pc := 206) hx hb dL_law_206 rfl (lv_at hl 14 rfl) ?_
        refine lv_iload (pc := 207) hx hb dL_law_207 (lv_at hl 1 rfl) ?_
        refine Z_ald (pc := 209) (j := 1) (v := L.2 1 (ix k)) C K P rfl hk5 rfl dL_law_209 ?_
        refine lv_iconst (pc := 210) (v := 3) hx hb dL_law_210 (by decide) ?_
        refine lv_iadd (pc := 211) hx hb dL_law_211 ?_
        refine lv_goto (pc := 212) (tgt := 223) hx hb dL_law_212 (by decide) ?_
        refine S_call (pc := 223) (As := [.int u, .int ((L.2 1 (ix k)) + 3)]) (rest := [.int 1]) (r := z_low u ((L.2 1 (ix k)) + 3)) C hl.1 (kL_low l u ((L.2 1 (ix k)) + 3) (so_n hTI hk5).1) fnL_low gL_law_L_low rfl rfl ⟨Nat.le_trans (Nat.le_of_ble_eq_true rfl) hRf, Nat.le_trans (Nat.le_of_ble_eq_true rfl) hRl⟩ (Nat.le_of_ble_eq_true rfl) ⟨by omega, by omega⟩ dL_law_223 ?_
        refine lv_iadd (pc := 226) hx hb dL_law_226 ?_
        exact hm _ (by rw [if_neg c187, if_pos c203])
    · refine lv_iconst (pc := 190) (v := 1) hx hb dL_law_190 (by decide) ?_
      refine lv_goto (pc := 191) (tgt := 227) hx hb dL_law_191 (by decide) ?_
      exact hm _ (by rw [if_pos c187])
  have hsob := so_b hTI hk5 hm187
  refine lv_istore (pc := 227) (lv' := [(18, .int m187), (17, .int o), (16, .int k), (15, .int u), (14, .int w), (13, .int (nI T)), (12, .int (σ.1 9)), (11, .int (σ.1 8)), (10, .ref (ar 8)), (9, .ref (ar 7)), (8, .ref (ar 6)), (7, .ref (ar 5)), (6, .ref (ar 4)), (5, .ref (ar 3)), (4, .ref (ar 2)), (3, .ref (ar 1)), (2, .ref (ar 0)), (1, .ref g0), (0, .ref b)]) hx hb dL_law_227 hl (by decide) rfl (fun ls hl => ?_)
  refine lv_iload (pc := 229) hx hb dL_law_229 (lv_at hl 0 rfl) ?_
  refine lv_aload_n (pc := 231) hx hb dL_law_231 rfl (lv_at hl 15 rfl) ?_
  refine lv_iload (pc := 232) hx hb dL_law_232 (lv_at hl 2 rfl) ?_
  refine Z_ald (pc := 234) (j := 1) (v := L.2 1 (ix k)) C K P rfl hk5 rfl dL_law_234 ?_
  refine lv_mergeI (M := 243) (T := if (L.2 1 (ix k)) < m187 then 0 else 1) (rest := []) (fun hm => ?_) (fun (m235 : Int32) (hm235 : m235 = (if (L.2 1 (ix k)) < m187 then 0 else 1 : Int32)) => ?_)
  · refine lv_icmp_gt (pc := 235) (tgt := 242) hx hb dL_law_235 (by decide) (fun (c235 : (L.2 1 (ix k)) < m187) => ?_) (fun (c235 : ¬ (L.2 1 (ix k)) < m187) => ?_)
    · refine lv_iconst (pc := 242) (v := 0) hx hb dL_law_242 (by decide) ?_
      exact hm _ (by rw [if_pos c235])
    · refine lv_iconst (pc := 238) (v := 1) hx hb dL_law_238 (by decide) ?_
      refine lv_goto (pc := 239) (tgt := 243) hx hb dL_law_239 (by decide) ?_
      exact hm _ (by rw [if_neg c235])
  refine lv_istore (pc := 243) (lv' := [(19, .int m235), (18, .int m187), (17, .int o), (16, .int k), (15, .int u), (14, .int w), (13, .int (nI T)), (12, .int (σ.1 9)), (11, .int (σ.1 8)), (10, .ref (ar 8)), (9, .ref (ar 7)), (8, .ref (ar 6)), (7, .ref (ar 5)), (6, .ref (ar 4)), (5, .ref (ar 3)), (4, .ref (ar 2)), (3, .ref (ar 1)), (2, .ref (ar 0)), (1, .ref g0), (0, .ref b)]) hx hb dL_law_243 hl (by decide) rfl (fun ls hl => ?_)
  refine lv_iconst (pc := 245) (v := 1) hx hb dL_law_245 (by decide) ?_
  refine lv_istore (pc := 246) (lv' := [(20, .int 1), (19, .int m235), (18, .int m187), (17, .int o), (16, .int k), (15, .int u), (14, .int w), (13, .int (nI T)), (12, .int (σ.1 9)), (11, .int (σ.1 8)), (10, .ref (ar 8)), (9, .ref (ar 7)), (8, .ref (ar 6)), (7, .ref (ar 5)), (6, .ref (ar 4)), (5, .ref (ar 3)), (4, .ref (ar 2)), (3, .ref (ar 1)), (2, .ref (ar 0)), (1, .ref g0), (0, .ref b)]) hx hb dL_law_246 hl (by decide) rfl (fun ls hl => ?_)
  refine lv_iload (pc := 248) hx hb dL_law_248 (lv_at hl 7 rfl) ?_
  refine lv_iconst (pc := 250) (v := 4) hx hb dL_law_250 (by decide) ?_
  refine lv_mergeI (M := 265) (T := if 4 ≤ (nI T) then (z_low w 17) else 0) (rest := []) (fun hm => ?_) (fun (m251 : Int32) (hm251 : m251 = (if 4 ≤ (nI T) then (z_low w 17) else 0 : Int32)) => ?_)
  · refine lv_icmp_ge (pc := 251) (tgt := 258) hx hb dL_law_251 (by decide) (fun (c251 : 4 ≤ (nI T)) => ?_) (fun (c251 : ¬ 4 ≤ (nI T)) => ?_)
    · refine lv_iload (pc := 258) hx hb dL_law_258 (lv_at hl 6 rfl) ?_
      refine lv_bipush (pc := 260) (v := 17) hx hb dL_law_260 (by decide) ?_
      refine S_call (pc := 262) (As := [.int w, .int 17]) (rest := []) (r := z_low w 17) C hl.1 (kL_low l w 17 (by decide)) fnL_low gL_law_L_low rfl rfl ⟨Nat.le_trans (Nat.le_of_ble_eq_true rfl) hRf, Nat.le_trans (Nat.le_of_ble_eq_true rfl) hRl⟩ (Nat.le_of_ble_eq_true rfl) ⟨by omega, by omega⟩ dL_law_262 ?_
      exact hm _ (by rw [if_pos c251])
    · refine lv_iconst (pc := 254) (v := 0) hx hb dL_law_254 (by decide) ?_
      refine lv_goto (pc := 255) (tgt := 265) hx hb dL_law_255 (by decide) ?_
      exact hm _ (by rw [if_neg c251])
  rcases Classical.em (m251 = 0) with z0 | z0
  · refine lv_tableIn (pc := 265) (tgt := 340) hx hb dL_law_265 (by rw [z0]; decide) (by rw [z0]; decide) (by rw [z0]; rfl) (by decide) ?_
    exact law_run hl9 C V hEC K E9 hRf hRl hz hT hTI hG hg P hk5 ho5 hsob hm235 (lv_sub hl [0, 1, 2, 3, 4, 5, 6, 7, 8, 9, 10, 11, 12, 13, 14, 15, 16, 17, 18, 19, 20] rfl) kk
  rcases Classical.em (m251 = 1) with z1 | z1
  · refine lv_tableIn (pc := 265) (tgt := 340) hx hb dL_law_265 (by rw [z1]; decide) (by rw [z1]; decide) (by rw [z1]; rfl) (by decide) ?_
    exact law_run hl9 C V hEC K E9 hRf hRl hz hT hTI hG hg P hk5 ho5 hsob hm235 (lv_sub hl [0, 1, 2, 3, 4, 5, 6, 7, 8, 9, 10, 11, 12, 13, 14, 15, 16, 17, 18, 19, 20] rfl) kk
  rcases Classical.em (m251 = 2) with z2 | z2
  · refine lv_tableIn (pc := 265) (tgt := 616) hx hb dL_law_265 (by rw [z2]; decide) (by rw [z2]; decide) (by rw [z2]; rfl) (by decide) ?_
    exact law_move hl9 C V hEC K E9 hRf hRl hz hT hTI hG hg P hk5 ho5 hsob hm235 (lv_sub hl [0, 1, 2, 3, 4, 5, 6, 7, 8, 9, 10, 11, 12, 13, 14, 15, 16, 17, 18, 19, 20] rfl) kk
  rcases Classical.em (m251 = 3) with z3 | z3
  · refine lv_tableIn (pc := 265) (tgt := 746) hx hb dL_law_265 (by rw [z3]; decide) (by rw [z3]; decide) (by rw [z3]; rfl) (by decide) ?_
    exact law_dip hl9 C V hEC K E9 hRf hRl hz hT hTI hG hg P hk5 ho5 hsob hm235 (lv_sub hl [0, 1, 2, 3, 4, 5, 6, 7, 8, 9, 10, 11, 12, 13, 14, 15, 16, 17, 18, 19, 20] rfl) kk
  rcases Classical.em (m251 = 4) with z4 | z4
  · refine lv_tableIn (pc := 265) (tgt := 997) hx hb dL_law_265 (by rw [z4]; decide) (by rw [z4]; decide) (by rw [z4]; rfl) (by decide) ?_
    exact law_lose hl9 C V hEC K E9 hRf hRl hz hT hTI hG hg P hk5 ho5 hsob hm235 (lv_sub hl [0, 1, 2, 3, 4, 5, 6, 7, 8, 9, 10, 11, 12, 13, 14, 15, 16, 17, 18, 19, 20] rfl) kk
  rcases Classical.em (m251 = 5) with z5 | z5
  · refine lv_tableIn (pc := 265) (tgt := 1112) hx hb dL_law_265 (by rw [z5]; decide) (by rw [z5]; decide) (by rw [z5]; rfl) (by decide) ?_
    exact law_release hl9 C V hEC K E9 hRf hRl hz hT hTI hG hg P hk5 ho5 hsob hm235 (lv_sub hl [0, 1, 2, 3, 4, 5, 6, 7, 8, 9, 10, 11, 12, 13, 14, 15, 16, 17, 18, 19, 20] rfl) kk
  rcases Classical.em (m251 = 6) with z6 | z6
  · refine lv_tableIn (pc := 265) (tgt := 1112) hx hb dL_law_265 (by rw [z6]; decide) (by rw [z6]; decide) (by rw [z6]; rfl) (by decide) ?_
    exact law_release hl9 C V hEC K E9 hRf hRl hz hT hTI hG hg P hk5 ho5 hsob hm235 (lv_sub hl [0, 1, 2, 3, 4, 5, 6, 7, 8, 9, 10, 11, 12, 13, 14, 15, 16, 17, 18, 19, 20] rfl) kk
  rcases Classical.em (m251 = 7) with z7 | z7
  · refine lv_tableIn (pc := 265) (tgt := 1362) hx hb dL_law_265 (by rw [z7]; decide) (by rw [z7]; decide) (by rw [z7]; rfl) (by decide) ?_
    exact law_permit hl9 C V hEC K E9 hRf hRl hz hT hTI hG hg P hk5 ho5 hsob hm235 (lv_sub hl [0, 1, 2, 3, 4, 5, 6, 7, 8, 9, 10, 11, 12, 13, 14, 15, 16, 17, 18, 19, 20] rfl) kk
  rcases Classical.em (m251 = 8) with z8 | z8
  · refine lv_tableIn (pc := 265) (tgt := 1533) hx hb dL_law_265 (by rw [z8]; decide) (by rw [z8]; decide) (by rw [z8]; rfl) (by decide) ?_
    exact law_export hl9 C V hEC K E9 hRf hRl hz hT hTI hG hg P hk5 ho5 hsob hm235 (lv_sub hl [0, 1, 2, 3, 4, 5, 6, 7, 8, 9, 10, 11, 12, 13, 14, 15, 16, 17, 18, 19, 20] rfl) kk
  rcases Classical.em (m251 = 9) with z9 | z9
  · refine lv_tableIn (pc := 265) (tgt := 1753) hx hb dL_law_265 (by rw [z9]; decide) (by rw [z9]; decide) (by rw [z9]; rfl) (by decide) ?_
    exact law_pay hl9 C V hEC K E9 hRf hRl hz hT hTI hG hg P hk5 ho5 hsob hm235 (lv_sub hl [0, 1, 2, 3, 4, 5, 6, 7, 8, 9, 10, 11, 12, 13, 14, 15, 16, 17, 18, 19, 20] rfl) kk
  rcases Classical.em (m251 = 10) with z10 | z10
  · refine lv_tableIn (pc := 265) (tgt := 1862) hx hb dL_law_265 (by rw [z10]; decide) (by rw [z10]; decide) (by rw [z10]; rfl) (by decide) ?_
    exact law_budget hl9 C V hEC K E9 hRf hRl hz hT hTI hG hg P hk5 ho5 hsob hm235 (lv_sub hl [0, 1, 2, 3, 4, 5, 6, 7, 8, 9, 10, 11, 12, 13, 14, 15, 16, 17, 18, 19, 20] rfl) kk
  rcases Classical.em (m251 = 11) with z11 | z11
  · refine lv_tableIn (pc := 265) (tgt := 1985) hx hb dL_law_265 (by rw [z11]; decide) (by rw [z11]; decide) (by rw [z11]; rfl) (by decide) ?_
    exact law_guar hl9 C V hEC K E9 hRf hRl hz hT hTI hG hg P hk5 ho5 hsob hm235 (lv_sub hl [0, 1, 2, 3, 4, 5, 6, 7, 8, 9, 10, 11, 12, 13, 14, 15, 16, 17, 18, 19, 20] rfl) kk
  rcases Classical.em (m251 = 12) with z12 | z12
  · refine lv_tableIn (pc := 265) (tgt := 2093) hx hb dL_law_265 (by rw [z12]; decide) (by rw [z12]; decide) (by rw [z12]; rfl) (by decide) ?_
    exact law_ship hl9 C V hEC K E9 hRf hRl hz hT hTI hG hg P hk5 ho5 hsob hm235 (lv_sub hl [0, 1, 2, 3, 4, 5, 6, 7, 8, 9, 10, 11, 12, 13, 14, 15, 16, 17, 18, 19, 20] rfl) kk
  rcases Classical.em (m251 = 13) with z13 | z13
  · refine lv_tableIn (pc := 265) (tgt := 2299) hx hb dL_law_265 (by rw [z13]; decide) (by rw [z13]; decide) (by rw [z13]; rfl) (by decide) ?_
    exact law_arrive hl9 C V hEC K E9 hRf hRl hz hT hTI hG hg P hk5 ho5 hsob hm235 (lv_sub hl [0, 1, 2, 3, 4, 5, 6, 7, 8, 9, 10, 11, 12, 13, 14, 15, 16, 17, 18, 19, 20] rfl) kk
  rcases Classical.em (m251 = 14) with z14 | z14
  · refine lv_tableIn (pc := 265) (tgt := 2607) hx hb dL_law_265 (by rw [z14]; decide) (by rw [z14]; decide) (by rw [z14]; rfl) (by decide) ?_
    exact law_shares hl9 C V hEC K E9 hRf hRl hz hT hTI hG hg P hk5 ho5 hsob hm235 (lv_sub hl [0, 1, 2, 3, 4, 5, 6, 7, 8, 9, 10, 11, 12, 13, 14, 15, 16, 17, 18, 19, 20] rfl) kk
  refine lv_tableOut (pc := 265) (tgt := 2664) hx hb dL_law_265 (tsw_out 15 m251 (by decide) (by intro k hk; match k, hk with | 0, _ => exact z0 | 1, _ => exact z1 | 2, _ => exact z2 | 3, _ => exact z3 | 4, _ => exact z4 | 5, _ => exact z5 | 6, _ => exact z6 | 7, _ => exact z7 | 8, _ => exact z8 | 9, _ => exact z9 | 10, _ => exact z10 | 11, _ => exact z11 | 12, _ => exact z12 | 13, _ => exact z13 | 14, _ => exact z14 | n + 15, hk => exact absurd hk (by omega))) (by decide) ?_
  exact law_pass hl9 C V hEC K E9 hRf hRl hz hT hTI hG hg P hk5 ho5 hsob hm235 (lv_sub hl [0, 1, 2, 3, 4, 5, 6, 7, 8, 9, 10, 11, 12, 13, 14, 15, 16, 17, 18, 19, 20] rfl) kk
end LC8
