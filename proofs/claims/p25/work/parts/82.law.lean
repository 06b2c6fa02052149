section LC2
variable {p : Program} {l : Launch} {e : Env} {R : Room} {s : State} {m : MethodId} {args : Array Value} {below : List Frame} {meth : Method} {c : Code} {H : Heap} {locs : List Loc} {cells slots : Nat} {Q : State → Prop} {ls : Array Slot} {D : va_G} {A : Nat → Prop} {ret : Option FieldType} {cI cO : ClassId} {t0 : Nat} {η : Eg} {σ L : Sg} {ar : Nat → Nat} {g0 b T : Nat} {k o so hv u w : Int32}
set_option maxHeartbeats 8000000 in
set_option maxRecDepth 100000 in
theorem law_release (hl9 : l.stackTraces = false) (C : Cx RL p s m args meth c cL_law 62 wsL_law ret) (V : EnvV s) (hEC : EnvC s) (K : va_K D vwCl (tyG cI cO) s) (E9 : EnvH t0 A s s.heap) (hRf : 12 ≤ R.frames) (hRl : 452 ≤ R.locals) (hz : cells + 400 ≤ R.cells ∧ slots + 2400 ≤ R.slots) (hT : T < 120) (hTI : TI T σ L) (hG : Gok t0 η σ) (hg : e_ad η 0 = g0) (P : Hp D A s (G_W cI cO η σ ++ Z_W cI ar L) H locs) (hk : vp_in k 5) (ho : vp_in o 5) (hso : 1 ≤ so.toInt ∧ so.toInt ≤ 10002) (hhv : hv = if L.2 1 (ix k) < so then 0 else 1) (hl : lv_has ls 62 [(20, .int 1), (19, .int hv), (18, .int so), (17, .int o), (16, .int k), (15, .int u), (14, .int w), (13, .int (nI T)), (12, .int (σ.1 9)), (11, .int (σ.1 8)), (10, .ref (ar 8)), (9, .ref (ar 7)), (8, .ref (ar 6)), (7, .ref (ar 5)), (6, .ref (ar 4)), (5, .ref (ar 3)), (4, .ref (ar 2)), (3, .ref (ar 1)), (2, .ref (ar 0)), (1, .ref g0), (0, .ref b)]) (kk : ∀ (η : Eg) (σ L : Sg) (H : Heap) (locs : List Loc) (ls : Array Slot), TI (T + 1) σ L → Gok t0 η σ → e_ad η 0 = g0 → Hp D A s (G_W cI cO η σ ++ Z_W cI ar L) H locs → lv_has ls 62 [(20, .int 1), (13, .int (nI T)), (12, .int (σ.1 9)), (11, .int (σ.1 8)), (10, .ref (ar 8)), (9, .ref (ar 7)), (8, .ref (ar 6)), (7, .ref (ar 5)), (6, .ref (ar 4)), (5, .ref (ar 3)), (4, .ref (ar 2)), (3, .ref (ar 1)), (2, .ref (ar 0)), (1, .ref g0), (0, .ref b)] → W p l e R s m args below meth c H locs (cells + 12) (slots + 500) Q (F0 m 2755 ls [])) : W p l e R s m args below meth c H locs cells slots Q (F0 m 1112 ls []) := by
  have hx := C.1
  have hb := C.2.1
  have hown := C.2.2.2.1
  have hts := C.2.2.2.2.1
  refine lv_aload (pc := 1112) hx hb dL_law_1112 (lv_at hl 14 rfl) ?_
  refine lv_bipush (pc := 1114) (v := 9) hx hb dL_law_1114 (by decide) ?_
  refine Z_ald (pc := 1116) (j := 4) (v := L.2 4 9) C K P rfl (vp_dec (by decide)) rfl dL_law_1116 ?_
  refine lv_bipush (pc := 1117) (v := 40) hx hb dL_law_1117 (by decide) ?_
  refine lv_icmp_ne (pc := 1119) (tgt := 1125) hx hb dL_law_1119 (by decide) (fun (c1119 : ¬ (L.2 4 9) = 40) => ?_) (fun (c1119 : (L.2 4 9) = 40) => ?_)
  · have hv9 := vp40 hTI c1119
    refine lv_iload (pc := 1125) hx hb dL_law_1125 (lv_at hl 1 rfl) ?_
    refine lv_mergeI (M := 1148) (T := if hv = 0 then 0 else (m_part (L.2 2 (ix k)) so (L.2 1 (ix k)))) (rest := []) (fun hm => ?_) (fun (m1127 : Int32) (hm1127 : m1127 = (if hv = 0 then 0 else (m_part (L.2 2 (ix k)) so (L.2 1 (ix k))) : Int32)) => ?_)
    · refine lv_if_eq (pc := 1127) (tgt := 1147) hx hb dL_law_1127 (by decide) (fun (c1127 : hv = 0) => ?_) (fun (c1127 : ¬ hv = 0) => ?_)
      · refine lv_iconst (pc := 1147) (v := 0) hx hb dL_law_1147 (by decide) ?_
        exact hm _ (by rw [if_pos c1127])
      · obtain ⟨hle, hV0⟩ := hv_has hTI hk hso hhv c1127
        refine lv_aload (pc := 1130) hx hb dL_law_1130 (lv_at hl 16 rfl) ?_
        refine lv_iload (pc := 1132) hx hb dL_law_1132 (lv_at hl 4 rfl) ?_
        refine Z_ald (pc := 1134) (j := 2) (v := L.2 2 (ix k)) C K P rfl hk rfl dL_law_1134 ?_
        refine lv_iload (pc := 1135) hx hb dL_law_1135 (lv_at hl 2 rfl) ?_
        refine lv_aload_n (pc := 1137) hx hb dL_law_1137 rfl (lv_at hl 17 rfl) ?_
        refine lv_iload (pc := 1138) hx hb dL_law_1138 (lv_at hl 4 rfl) ?_
        refine Z_ald (pc := 1140) (j := 1) (v := L.2 1 (ix k)) C K P rfl hk rfl dL_law_1140 ?_
        refine S_call (pc := 1141) (As := [.int (L.2 2 (ix k)), .int so, .int (L.2 1 (ix k))]) (rest := []) (r := m_part (L.2 2 (ix k)) so (L.2 1 (ix k))) C hl.1 (kL_times l (L.2 2 (ix k)) so (L.2 1 (ix k)) hV0) fnL_times gL_law_L_times rfl rfl ⟨Nat.le_trans (Nat.le_of_ble_eq_true rfl) hRf, Nat.le_trans (Nat.le_of_ble_eq_true rfl) hRl⟩ (Nat.le_of_ble_eq_true rfl) ⟨by omega, by omega⟩ dL_law_1141 ?_
        refine lv_goto (pc := 1144) (tgt := 1148) hx hb dL_law_1144 (by decide) ?_
        exact hm _ (by rw [if_neg c1127])
    refine lv_istore (pc := 1148) (lv' := [(33, .int m1127), (20, .int 1), (19, .int hv), (18, .int so), (17, .int o), (16, .int k), (15, .int u), (14, .int w), (13, .int (nI T)), (12, .int (σ.1 9)), (11, .int (σ.1 8)), (10, .ref (ar 8)), (9, .ref (ar 7)), (8, .ref (ar 6)), (7, .ref (ar 5)), (6, .ref (ar 4)), (5, .ref (ar 3)), (4, .ref (ar 2)), (3, .ref (ar 1)), (2, .ref (ar 0)), (1, .ref g0), (0, .ref b)]) hx hb dL_law_1148 hl (by decide) rfl (fun ls hl => ?_)
    refine lv_iload (pc := 1150) hx hb dL_law_1150 (lv_at hl 2 rfl) ?_
    refine lv_if_eq (pc := 1152) (tgt := 1172) hx hb dL_law_1152 (by decide) (fun (c1152 : hv = 0) => ?_) (fun (c1152 : ¬ hv = 0) => ?_)
    · refine lv_aload_n (pc := 1172) hx hb dL_law_1172 rfl (lv_at hl 20 rfl) ?_
      refine lv_iload (pc := 1173) hx hb dL_law_1173 (lv_at hl 5 rfl) ?_
      refine lv_iload (pc := 1175) hx hb dL_law_1175 (lv_at hl 3 rfl) ?_
      have e1 : an (g_release σ k so) = (-2000000003) ∧ _ := p_rel_no0 hTI hk hso hhv c1152
      refine T_callW (pc := 1177) (As0 := [.int k, .int so]) (rest := []) (v := (-2000000003)) (τ := (g_release σ k so).2.2) C V hEC K E9 hl.1 hg P (kL_release l hl9 D cI cO t0 η σ k so hG) fnL_release ⟨e1.1, rfl⟩ gL_law_L_release rfl rfl ⟨Nat.le_trans (Nat.le_of_ble_eq_true rfl) hRf, Nat.le_trans (Nat.le_of_ble_eq_true rfl) hRl⟩ (Nat.le_of_ble_eq_true rfl) ⟨by omega, by omega⟩ dL_law_1177 (fun η H locs (P : Hp D A s (G_W cI cO η (g_release σ k so).2.2 ++ Z_W cI ar L) H locs) (hG : Gok t0 η (g_release σ k so).2.2) hg => ?_)
      refine lv_ldc (pc := 1180) (v := (-2000000003)) hx hb hown (hts _ lc_22) dL_law_1180 ?_
      refine lv_icmp_ne (pc := 1182) (tgt := 1189) hx hb dL_law_1182 (by decide) (fun h => absurd h (by decide)) (fun _ => ?_)
      refine lv_iconst (pc := 1185) (v := 1) hx hb dL_law_1185 (by decide) ?_
      refine lv_goto (pc := 1186) (tgt := 1190) hx hb dL_law_1186 (by decide) ?_
      refine lv_istore (pc := 1190) (lv' := [(20, .int 1), (33, .int m1127), (19, .int hv), (18, .int so), (17, .int o), (16, .int k), (15, .int u), (14, .int w), (13, .int (nI T)), (12, .int (σ.1 9)), (11, .int (σ.1 8)), (10, .ref (ar 8)), (9, .ref (ar 7)), (8, .ref (ar 6)), (7, .ref (ar 5)), (6, .ref (ar 4)), (5, .ref (ar 3)), (4, .ref (ar 2)), (3, .ref (ar 1)), (2, .ref (ar 0)), (1, .ref g0), (0, .ref b)]) hx hb dL_law_1190 hl (by decide) rfl (fun ls hl => ?_)
      refine lv_goto (pc := 1192) (tgt := 2755) hx hb dL_law_1192 (by decide) ?_
      exact W.widen (by omega) (by omega) (kk η ((g_release σ k so).2.2) L _ _ ls (by rw [e1.2]; exact ti_up hTI) hG hg P (by rw [e1.2]; exact (lv_sub hl [0, 8, 9, 10, 11, 12, 13, 14, 15, 16, 17, 18, 19, 20, 21] rfl)))
    · obtain ⟨hle, hV0⟩ := hv_has hTI hk hso hhv c1152
      refine lv_aload (pc := 1155) hx hb dL_law_1155 (lv_at hl 15 rfl) ?_
      refine lv_iconst (pc := 1157) (v := 3) hx hb dL_law_1157 (by decide) ?_
      refine Z_ald (pc := 1158) (j := 4) (v := L.2 4 3) C K P rfl (vp_dec (by decide)) rfl dL_law_1158 ?_
      refine lv_iconst (pc := 1159) (v := (-1)) hx hb dL_law_1159 (by decide) ?_
      refine lv_icmp_eq (pc := 1160) (tgt := 1195) hx hb dL_law_1160 (by decide) (fun (c1160 : (L.2 4 3) = (-1)) => ?_) (fun (c1160 : ¬ (L.2 4 3) = (-1)) => ?_)
      · refine lv_iload (pc := 1195) hx hb dL_law_1195 (lv_at hl 5 rfl) ?_
        refine lv_iload (pc := 1197) hx hb dL_law_1197 (lv_at hl 3 rfl) ?_
        refine lv_aload_n (pc := 1199) hx hb dL_law_1199 rfl (lv_at hl 18 rfl) ?_
        refine lv_aload (pc := 1200) hx hb dL_law_1200 (lv_at hl 17 rfl) ?_
        refine Z_calli (pc := 1202) (As := [.int k, .int so, .ref (ar 1), .ref (ar 2)]) (rest := []) C K P hl.1 (kL_draws l D cI ar L k so hk hV0) fnL_draws gL_law_L_draws rfl rfl ⟨Nat.le_trans (Nat.le_of_ble_eq_true rfl) hRf, Nat.le_trans (Nat.le_of_ble_eq_true rfl) hRl⟩ (Nat.le_of_ble_eq_true rfl) ⟨by omega, by omega⟩ dL_law_1202 (fun H locs (P : Hp D A s (G_W cI cO η σ ++ Z_W cI ar (z_draws L k so).2) H locs) => ?_)
        refine lv_pop (pc := 1205) hx hb dL_law_1205 rfl ?_
        refine lv_aload (pc := 1206) hx hb dL_law_1206 (lv_at hl 15 rfl) ?_
        refine lv_iconst (pc := 1208) (v := 3) hx hb dL_law_1208 (by decide) ?_
        refine Z_ald (pc := 1209) (j := 4) (v := L.2 4 3) C K P rfl (vp_dec (by decide)) rfl dL_law_1209 ?_
        refine lv_iconst (pc := 1210) (v := (-1)) hx hb dL_law_1210 (by decide) ?_
        refine lv_icmp_eq (pc := 1211) (tgt := 1223) hx hb dL_law_1211 (by decide) (fun _ => ?_) (fun g => absurd c1160 g)
        refine lv_ldc (pc := 1223) (v := 1000000) hx hb hown (hts _ lc_119) dL_law_1223 ?_
        refine lv_aload (pc := 1225) hx hb dL_law_1225 (lv_at hl 15 rfl) ?_
        refine lv_bipush (pc := 1227) (v := 6) hx hb dL_law_1227 (by decide) ?_
        refine Z_ald (pc := 1229) (j := 4) (v := L.2 4 6) C K P rfl (vp_dec (by decide)) rfl dL_law_1229 ?_
        refine lv_isub (pc := 1230) hx hb dL_law_1230 ?_
        refine lv_iload (pc := 1231) hx hb dL_law_1231 (lv_at hl 0 rfl) ?_
        refine lv_mergeI (M := 1249) (T := if m1127 ≤ (1000000 - (L.2 4 6)) then m1127 else (1000000 - (L.2 4 6))) (rest := []) (fun hm => ?_) (fun (m1233 : Int32) (hm1233 : m1233 = (if m1127 ≤ (1000000 - (L.2 4 6)) then m1127 else (1000000 - (L.2 4 6)) : Int32)) => ?_)
        · refine lv_icmp_ge (pc := 1233) (tgt := 1247) hx hb dL_law_1233 (by decide) (fun (c1233 : m1127 ≤ (1000000 - (L.2 4 6))) => ?_) (fun (c1233 : ¬ m1127 ≤ (1000000 - (L.2 4 6))) => ?_)
          · refine lv_iload (pc := 1247) hx hb dL_law_1247 (lv_at hl 0 rfl) ?_
            exact hm _ (by rw [if_pos c1233])
          · refine lv_ldc (pc := 1236) (v := 1000000) hx hb hown (hts _ lc_119) dL_law_1236 ?_
            refine lv_aload (pc := 1238) hx hb dL_law_1238 (lv_at hl 15 rfl) ?_
            refine lv_bipush (pc := 1240) (v := 6) hx hb dL_law_1240 (by decide) ?_
            refine Z_ald (pc := 1242) (j := 4) (v := L.2 4 6) C K P rfl (vp_dec (by decide)) rfl dL_law_1242 ?_
            refine lv_isub (pc := 1243) hx hb dL_law_1243 ?_
            refine lv_goto (pc := 1244) (tgt := 1249) hx hb dL_law_1244 (by decide) ?_
            exact hm _ (by rw [if_neg c1233])
        refine lv_istore (pc := 1249) (lv' := [(34, .int m1233), (33, .int m1127), (20, .int 1), (19, .int hv), (18, .int so), (17, .int o), (16, .int k), (15, .int u), (14, .int w), (13, .int (nI T)), (12, .int (σ.1 9)), (11, .int (σ.1 8)), (10, .ref (ar 8)), (9, .ref (ar 7)), (8, .ref (ar 6)), (7, .ref (ar 5)), (6, .ref (ar 4)), (5, .ref (ar 3)), (4, .ref (ar 2)), (3, .ref (ar 1)), (2, .ref (ar 0)), (1, .ref g0), (0, .ref b)]) hx hb dL_law_1249 hl (by decide) rfl (fun ls hl => ?_)
        refine lv_aload (pc := 1251) hx hb dL_law_1251 (lv_at hl 16 rfl) ?_
        refine lv_bipush (pc := 1253) (v := 6) hx hb dL_law_1253 (by decide) ?_
        refine lv_dup2_11 (pc := 1255) hx hb dL_law_1255 rfl rfl ?_
        refine Z_ald (pc := 1256) (j := 4) (v := L.2 4 6) C K P rfl (vp_dec (by decide)) rfl dL_law_1256 ?_
        refine lv_iload (pc := 1257) hx hb dL_law_1257 (lv_at hl 0 rfl) ?_
        refine lv_iadd (pc := 1259) hx hb dL_law_1259 ?_
        refine Z_ast (pc := 1260) (j := 4) (n := 16) (x := (L.2 4 6) + m1233) C K P (zj4 _) (vp_dec (by decide)) (zs4 _ _ _) dL_law_1260 (fun H locs (P : Hp D A s (G_W cI cO η σ ++ Z_W cI ar (bs (z_draws L k so).2 4 6 ((L.2 4 6) + m1233))) H locs) => ?_)
        refine lv_aload (pc := 1261) hx hb dL_law_1261 (lv_at hl 15 rfl) ?_
        refine lv_aload (pc := 1263) hx hb dL_law_1263 (lv_at hl 16 rfl) ?_
        refine lv_bipush (pc := 1265) (v := 9) hx hb dL_law_1265 (by decide) ?_
        refine Z_ald (pc := 1267) (j := 4) (v := L.2 4 9) C K P rfl (vp_dec (by decide)) rfl dL_law_1267 ?_
        refine lv_iload (pc := 1268) hx hb dL_law_1268 (lv_at hl 1 rfl) ?_
        refine Z_ast (pc := 1270) (j := 5) (n := 40) (x := m1127) C K P (zj5 _) hv9 (zs5 _ _ _) dL_law_1270 (fun H locs (P : Hp D A s (G_W cI cO η σ ++ Z_W cI ar (bs (bs (z_draws L k so).2 4 6 ((L.2 4 6) + m1233)) 5 (ix (L.2 4 9)) m1127)) H locs) => ?_)
        refine lv_aload (pc := 1271) hx hb dL_law_1271 (lv_at hl 14 rfl) ?_
        refine lv_aload (pc := 1273) hx hb dL_law_1273 (lv_at hl 16 rfl) ?_
        refine lv_bipush (pc := 1275) (v := 9) hx hb dL_law_1275 (by decide) ?_
        refine Z_ald (pc := 1277) (j := 4) (v := L.2 4 9) C K P rfl (vp_dec (by decide)) rfl dL_law_1277 ?_
        refine lv_iload (pc := 1278) hx hb dL_law_1278 (lv_at hl 0 rfl) ?_
        refine lv_aload (pc := 1280) hx hb dL_law_1280 (lv_at hl 16 rfl) ?_
        refine lv_iconst (pc := 1282) (v := 1) hx hb dL_law_1282 (by decide) ?_
        refine Z_ald (pc := 1283) (j := 4) (v := L.2 4 1) C K P rfl (vp_dec (by decide)) rfl dL_law_1283 ?_
        refine lv_iconst (pc := 1284) (v := 2) hx hb dL_law_1284 (by decide) ?_
        refine lv_idiv (pc := 1285) hx hb dL_law_1285 (by decide) ?_
        refine lv_sipush (pc := 1286) (v := 1000) hx hb dL_law_1286 (by decide) ?_
        refine S_call (pc := 1289) (As := [.int m1233, .int ((L.2 4 1) / 2), .int 1000]) (rest := [.int (L.2 4 9), .ref (ar 6)]) (r := m_part m1233 ((L.2 4 1) / 2) 1000) C hl.1 (kL_times l m1233 ((L.2 4 1) / 2) 1000 (by decide)) fnL_times gL_law_L_times rfl rfl ⟨Nat.le_trans (Nat.le_of_ble_eq_true rfl) hRf, Nat.le_trans (Nat.le_of_ble_eq_true rfl) hRl⟩ (Nat.le_of_ble_eq_true rfl) ⟨by omega, by omega⟩ dL_law_1289 ?_
        refine lv_iload (pc := 1292) hx hb dL_law_1292 (lv_at hl 1 rfl) ?_
        refine lv_iload (pc := 1294) hx hb dL_law_1294 (lv_at hl 0 rfl) ?_
        refine lv_isub (pc := 1296) hx hb dL_law_1296 ?_
        refine lv_aload (pc := 1297) hx hb dL_law_1297 (lv_at hl 16 rfl) ?_
        refine lv_iconst (pc := 1299) (v := 1) hx hb dL_law_1299 (by decide) ?_
        refine Z_ald (pc := 1300) (j := 4) (v := L.2 4 1) C K P rfl (vp_dec (by decide)) rfl dL_law_1300 ?_
        refine lv_sipush (pc := 1301) (v := 1000) hx hb dL_law_1301 (by decide) ?_
        refine S_call (pc := 1304) (As := [.int (m1127 - m1233), .int (L.2 4 1), .int 1000]) (rest := [.int (m_part m1233 ((L.2 4 1) / 2) 1000), .int (L.2 4 9), .ref (ar 6)]) (r := m_part (m1127 - m1233) (L.2 4 1) 1000) C hl.1 (kL_times l (m1127 - m1233) (L.2 4 1) 1000 (by decide)) fnL_times gL_law_L_times rfl rfl ⟨Nat.le_trans (Nat.le_of_ble_eq_true rfl) hRf, Nat.le_trans (Nat.le_of_ble_eq_true rfl) hRl⟩ (Nat.le_of_ble_eq_true rfl) ⟨by omega, by omega⟩ dL_law_1304 ?_
        refine lv_iadd (pc := 1307) hx hb dL_law_1307 ?_
        refine lv_topi (fun (pmo : Int32) (hpmo : pmo = ((m_part m1233 ((L.2 4 1) / 2) 1000) + (m_part (m1127 - m1233) (L.2 4 1) 1000) : Int32)) => ?_)
        refine Z_ast (pc := 1308) (j := 6) (n := 40) (x := pmo) C K P (zj6 _) hv9 (zs6 _ _ _) dL_law_1308 (fun H locs (P : Hp D A s (G_W cI cO η σ ++ Z_W cI ar (bs (bs (bs (z_draws L k so).2 4 6 ((L.2 4 6) + m1233)) 5 (ix (L.2 4 9)) m1127) 6 (ix (L.2 4 9)) pmo)) H locs) => ?_)
        refine lv_aload (pc := 1309) hx hb dL_law_1309 (lv_at hl 16 rfl) ?_
        refine lv_iconst (pc := 1311) (v := 2) hx hb dL_law_1311 (by decide) ?_
        refine lv_dup2_11 (pc := 1312) hx hb dL_law_1312 rfl rfl ?_
        refine Z_ald (pc := 1313) (j := 4) (v := L.2 4 2) C K P rfl (vp_dec (by decide)) rfl dL_law_1313 ?_
        refine lv_aload (pc := 1314) hx hb dL_law_1314 (lv_at hl 14 rfl) ?_
        refine lv_aload (pc := 1316) hx hb dL_law_1316 (lv_at hl 16 rfl) ?_
        refine lv_bipush (pc := 1318) (v := 9) hx hb dL_law_1318 (by decide) ?_
        refine Z_ald (pc := 1320) (j := 4) (v := L.2 4 9) C K P rfl (vp_dec (by decide)) rfl dL_law_1320 ?_
        refine Z_ald (pc := 1321) (j := 6) (v := pmo) C K P rfl hv9 bs_us dL_law_1321 ?_
        refine lv_iadd (pc := 1322) hx hb dL_law_1322 ?_
        refine Z_ast (pc := 1323) (j := 4) (n := 16) (x := (L.2 4 2) + pmo) C K P (zj4 _) (vp_dec (by decide)) (zs4 _ _ _) dL_law_1323 (fun H locs (P : Hp D A s (G_W cI cO η σ ++ Z_W cI ar (bs (bs (bs (bs (z_draws L k so).2 4 6 ((L.2 4 6) + m1233)) 5 (ix (L.2 4 9)) m1127) 6 (ix (L.2 4 9)) pmo) 4 2 ((L.2 4 2) + pmo))) H locs) => ?_)
        refine lv_aload_n (pc := 1324) hx hb dL_law_1324 rfl (lv_at hl 21 rfl) ?_
        refine lv_iload (pc := 1325) hx hb dL_law_1325 (lv_at hl 6 rfl) ?_
        refine lv_iload (pc := 1327) hx hb dL_law_1327 (lv_at hl 4 rfl) ?_
        have e1 : an (g_release σ k so) = pmo ∧ _ := p_rel_a hT hTI hk hso hle c1152 hm1127 hm1233 hpmo c1119 c1160
        refine T_callW (pc := 1329) (As0 := [.int k, .int so]) (rest := []) (v := pmo) (τ := (g_release σ k so).2.2) C V hEC K E9 hl.1 hg P (kL_release l hl9 D cI cO t0 η σ k so hG) fnL_release ⟨e1.1, rfl⟩ gL_law_L_release rfl rfl ⟨Nat.le_trans (Nat.le_of_ble_eq_true rfl) hRf, Nat.le_trans (Nat.le_of_ble_eq_true rfl) hRl⟩ (Nat.le_of_ble_eq_true rfl) ⟨by omega, by omega⟩ dL_law_1329 (fun η H locs (P : Hp D A s (G_W cI cO η (g_release σ k so).2.2 ++ Z_W cI ar (bs (bs (bs (bs (z_draws L k so).2 4 6 ((L.2 4 6) + m1233)) 5 (ix (L.2 4 9)) m1127) 6 (ix (L.2 4 9)) pmo) 4 2 ((L.2 4 2) + pmo))) H locs) (hG : Gok t0 η (g_release σ k so).2.2) hg => ?_)
        refine lv_aload (pc := 1332) hx hb dL_law_1332 (lv_at hl 14 rfl) ?_
        refine lv_aload (pc := 1334) hx hb dL_law_1334 (lv_at hl 16 rfl) ?_
        refine lv_bipush (pc := 1336) (v := 9) hx hb dL_law_1336 (by decide) ?_
        refine Z_ald (pc := 1338) (j := 4) (v := L.2 4 9) C K P rfl (vp_dec (by decide)) rfl dL_law_1338 ?_
        refine Z_ald (pc := 1339) (j := 6) (v := pmo) C K P rfl hv9 (bs_o (by decide) bs_us) dL_law_1339 ?_
        refine lv_icmp_ne (pc := 1340) (tgt := 1347) hx hb dL_law_1340 (by decide) (fun g => absurd rfl g) (fun _ => ?_)
        refine lv_iconst (pc := 1343) (v := 1) hx hb dL_law_1343 (by decide) ?_
        refine lv_goto (pc := 1344) (tgt := 1348) hx hb dL_law_1344 (by decide) ?_
        refine lv_istore (pc := 1348) (lv' := [(20, .int 1), (34, .int m1233), (33, .int m1127), (19, .int hv), (18, .int so), (17, .int o), (16, .int k), (15, .int u), (14, .int w), (13, .int (nI T)), (12, .int (σ.1 9)), (11, .int (σ.1 8)), (10, .ref (ar 8)), (9, .ref (ar 7)), (8, .ref (ar 6)), (7, .ref (ar 5)), (6, .ref (ar 4)), (5, .ref (ar 3)), (4, .ref (ar 2)), (3, .ref (ar 1)), (2, .ref (ar 0)), (1, .ref g0), (0, .ref b)]) hx hb dL_law_1348 hl (by decide) rfl (fun ls hl => ?_)
        refine lv_aload (pc := 1350) hx hb dL_law_1350 (lv_at hl 16 rfl) ?_
        refine lv_bipush (pc := 1352) (v := 9) hx hb dL_law_1352 (by decide) ?_
        refine lv_dup2_11 (pc := 1354) hx hb dL_law_1354 rfl rfl ?_
        refine Z_ald (pc := 1355) (j := 4) (v := L.2 4 9) C K P rfl (vp_dec (by decide)) rfl dL_law_1355 ?_
        refine lv_iconst (pc := 1356) (v := 1) hx hb dL_law_1356 (by decide) ?_
        refine lv_iadd (pc := 1357) hx hb dL_law_1357 ?_
        refine Z_ast (pc := 1358) (j := 4) (n := 16) (x := (L.2 4 9) + 1) C K P (zj4 _) (vp_dec (by decide)) (zs4 _ _ _) dL_law_1358 (fun H locs (P : Hp D A s (G_W cI cO η (g_release σ k so).2.2 ++ Z_W cI ar (bs (bs (bs (bs (bs (z_draws L k so).2 4 6 ((L.2 4 6) + m1233)) 5 (ix (L.2 4 9)) m1127) 6 (ix (L.2 4 9)) pmo) 4 2 ((L.2 4 2) + pmo)) 4 9 ((L.2 4 9) + 1))) H locs) => ?_)
        refine lv_goto (pc := 1359) (tgt := 2755) hx hb dL_law_1359 (by decide) ?_
        exact W.widen (by omega) (by omega) (kk η ((g_release σ k so).2.2) (bs (bs (bs (bs (bs (z_draws L k so).2 4 6 ((L.2 4 6) + m1233)) 5 (ix (L.2 4 9)) m1127) 6 (ix (L.2 4 9)) pmo) 4 2 ((L.2 4 2) + pmo)) 4 9 ((L.2 4 9) + 1)) _ _ ls e1.2.1 hG hg P (by rw [e1.2.2.1, e1.2.2.2]; exact (lv_sub hl [0, 9, 10, 11, 12, 13, 14, 15, 16, 17, 18, 19, 20, 21, 22] rfl)))
      · refine lv_iload (pc := 1163) hx hb dL_law_1163 (lv_at hl 0 rfl) ?_
        refine lv_aload (pc := 1165) hx hb dL_law_1165 (lv_at hl 15 rfl) ?_
        refine lv_iconst (pc := 1167) (v := 5) hx hb dL_law_1167 (by decide) ?_
        refine Z_ald (pc := 1168) (j := 4) (v := L.2 4 5) C K P rfl (vp_dec (by decide)) rfl dL_law_1168 ?_
        refine lv_icmp_le (pc := 1169) (tgt := 1195) hx hb dL_law_1169 (by decide) (fun (c1169 : m1127 ≤ (L.2 4 5)) => ?_) (fun (c1169 : ¬ m1127 ≤ (L.2 4 5)) => ?_)
        · refine lv_iload (pc := 1195) hx hb dL_law_1195 (lv_at hl 5 rfl) ?_
          refine lv_iload (pc := 1197) hx hb dL_law_1197 (lv_at hl 3 rfl) ?_
          refine lv_aload_n (pc := 1199) hx hb dL_law_1199 rfl (lv_at hl 18 rfl) ?_
          refine lv_aload (pc := 1200) hx hb dL_law_1200 (lv_at hl 17 rfl) ?_
          refine Z_calli (pc := 1202) (As := [.int k, .int so, .ref (ar 1), .ref (ar 2)]) (rest := []) C K P hl.1 (kL_draws l D cI ar L k so hk hV0) fnL_draws gL_law_L_draws rfl rfl ⟨Nat.le_trans (Nat.le_of_ble_eq_true rfl) hRf, Nat.le_trans (Nat.le_of_ble_eq_true rfl) hRl⟩ (Nat.le_of_ble_eq_true rfl) ⟨by omega, by omega⟩ dL_law_1202 (fun H locs (P : Hp D A s (G_W cI cO η σ ++ Z_W cI ar (z_draws L k so).2) H locs) => ?_)
          refine lv_pop (pc := 1205) hx hb dL_law_1205 rfl ?_
          refine lv_aload (pc := 1206) hx hb dL_law_1206 (lv_at hl 15 rfl) ?_
          refine lv_iconst (pc := 1208) (v := 3) hx hb dL_law_1208 (by decide) ?_
          refine Z_ald (pc := 1209) (j := 4) (v := L.2 4 3) C K P rfl (vp_dec (by decide)) rfl dL_law_1209 ?_
          refine lv_iconst (pc := 1210) (v := (-1)) hx hb dL_law_1210 (by decide) ?_
          refine lv_icmp_eq (pc := 1211) (tgt := 1223) hx hb dL_law_1211 (by decide) (fun g => absurd g c1160) (fun _ => ?_)
          refine lv_aload (pc := 1214) hx hb dL_law_1214 (lv_at hl 15 rfl) ?_
          refine lv_iconst (pc := 1216) (v := 5) hx hb dL_law_1216 (by decide) ?_
          refine lv_dup2_11 (pc := 1217) hx hb dL_law_1217 rfl rfl ?_
          refine Z_ald (pc := 1218) (j := 4) (v := L.2 4 5) C K P rfl (vp_dec (by decide)) rfl dL_law_1218 ?_
          refine lv_iload (pc := 1219) hx hb dL_law_1219 (lv_at hl 0 rfl) ?_
          refine lv_isub (pc := 1221) hx hb dL_law_1221 ?_
          refine Z_ast (pc := 1222) (j := 4) (n := 16) (x := (L.2 4 5) - m1127) C K P (zj4 _) (vp_dec (by decide)) (zs4 _ _ _) dL_law_1222 (fun H locs (P : Hp D A s (G_W cI cO η σ ++ Z_W cI ar (bs (z_draws L k so).2 4 5 ((L.2 4 5) - m1127))) H locs) => ?_)
          refine lv_ldc (pc := 1223) (v := 1000000) hx hb hown (hts _ lc_119) dL_law_1223 ?_
          refine lv_aload (pc := 1225) hx hb dL_law_1225 (lv_at hl 15 rfl) ?_
          refine lv_bipush (pc := 1227) (v := 6) hx hb dL_law_1227 (by decide) ?_
          refine Z_ald (pc := 1229) (j := 4) (v := L.2 4 6) C K P rfl (vp_dec (by decide)) rfl dL_law_1229 ?_
          refine lv_isub (pc := 1230) hx hb dL_law_1230 ?_
          refine lv_iload (pc := 1231) hx hb dL_law_1231 (lv_at hl 0 rfl) ?_
          refine lv_mergeI (M := 1249) (T := if m1127 ≤ (1000000 - (L.2 4 6)) then m1127 else (1000000 - (L.2 4 6))) (rest := []) (fun hm => ?_) (fun (m1233 : Int32) (hm1233 : m1233 = (if m1127 ≤ (1000000 - (L.2 4 6)) then m1127 else (1000000 - (L.2 4 6)) : Int32)) => ?_)
          · refine lv_icmp_ge (pc := 1233) (tgt := 1247) hx hb dL_law_1233 (by decide) (fun (c1233 : m1127 ≤ (1000000 - (L.2 4 6))) => ?_) (fun (c1233 : ¬ m1127 ≤ (1000000 - (L.2 4 6))) => ?_)
            · refine lv_iload (pc := 1247) hx hb dL_law_1247 (lv_at hl 0 rfl) ?_
              exact hm _ (by rw [if_pos c1233])
            · refine lv_ldc (pc := 1236) (v := 1000000) hx hb hown (hts _ lc_119) dL_law_1236 ?_
              refine lv_aload (pc := 1238) hx hb dL_law_1238 (lv_at hl 15 rfl) ?_
              refine lv_bipush (pc := 1240) (v := 6) hx hb dL_law_1240 (by decide) ?_
              refine Z_ald (pc := 1242) (j := 4) (v := L.2 4 6) C K P rfl (vp_dec (by decide)) rfl dL_law_1242 ?_
              refine lv_isub (pc := 1243) hx hb dL_law_1243 ?_
              refine lv_goto (pc := 1244) (tgt := 1249) hx hb dL_law_1244 (by decide) ?_
              exact hm _ (by rw [if_neg c1233])
          refine lv_istore (pc := 1249) (lv' := [(34, .int m1233), (33, .int m1127), (20, .int 1), (19, .int hv), (18, .int so), (17, .int o), (16, .int k), (15, .int u), (14, .int w), (13, .int (nI T)), (12, .int (σ.1 9)), (11, .int (σ.1 8)), (10, .ref (ar 8)), (9, .ref (ar 7)), (8, .ref (ar 6)), (7, .ref (ar 5)), (6, .ref (ar 4)), (5, .ref (ar 3)), (4, .ref (ar 2)), (3, .ref (ar 1)), (2, .ref (ar 0)), (1, .ref g0), (0, .ref b)]) hx hb dL_law_1249 hl (by decide) rfl (fun ls hl => ?_)
          refine lv_aload (pc := 1251) hx hb dL_law_1251 (lv_at hl 16 rfl) ?_
          refine lv_bipush (pc := 1253) (v := 6) hx hb dL_law_1253 (by decide) ?_
          refine lv_dup2_11 (pc := 1255) hx hb dL_law_1255 rfl rfl ?_
          refine Z_ald (pc := 1256) (j := 4) (v := L.2 4 6) C K P rfl (vp_dec (by decide)) rfl dL_law_1256 ?_
          refine lv_iload (pc := 1257) hx hb dL_law_1257 (lv_at hl 0 rfl) ?_
          refine lv_iadd (pc := 1259) hx hb dL_law_1259 ?_
          refine Z_ast (pc := 1260) (j := 4) (n := 16) (x := (L.2 4 6) + m1233) C K P (zj4 _) (vp_dec (by decide)) (zs4 _ _ _) dL_law_1260 (fun H locs (P : Hp D A s (G_W cI cO η σ ++ Z_W cI ar (bs (bs (z_draws L k so).2 4 5 ((L.2 4 5) - m1127)) 4 6 ((L.2 4 6) + m1233))) H locs) => ?_)
          refine lv_aload (pc := 1261) hx hb dL_law_1261 (lv_at hl 15 rfl) ?_
          refine lv_aload (pc := 1263) hx hb dL_law_1263 (lv_at hl 16 rfl) ?_
          refine lv_bipush (pc := 1265) (v := 9) hx hb dL_law_1265 (by decide) ?_
          refine Z_ald (pc := 1267) (j := 4) (v := L.2 4 9) C K P rfl (vp_dec (by decide)) rfl dL_law_1267 ?_
          refine lv_iload (pc := 1268) hx hb dL_law_1268 (lv_at hl 1 rfl) ?_
          refine Z_ast (pc := 1270) (j := 5) (n := 40) (x := m1127) C K P (zj5 _) hv9 (zs5 _ _ _) dL_law_1270 (fun H locs (P : Hp D A s (G_W cI cO η σ ++ Z_W cI ar (bs (bs (bs (z_draws L k so).2 4 5 ((L.2 4 5) - m1127)) 4 6 ((L.2 4 6) + m1233)) 5 (ix (L.2 4 9)) m1127)) H locs) => ?_)
          refine lv_aload (pc := 1271) hx hb dL_law_1271 (lv_at hl 14 rfl) ?_
          refine lv_aload (pc := 1273) hx hb dL_law_1273 (lv_at hl 16 rfl) ?_
          refine lv_bipush (pc := 1275) (v := 9) hx hb dL_law_1275 (by decide) ?_
          refine Z_ald (pc := 1277) (j := 4) (v := L.2 4 9) C K P rfl (vp_dec (by decide)) rfl dL_law_1277 ?_
          refine lv_iload (pc := 1278) hx hb dL_law_1278 (lv_at hl 0 rfl) ?_
          refine lv_aload (pc := 1280) hx hb dL_law_1280 (lv_at hl 16 rfl) ?_
          refine lv_iconst (pc := 1282) (v := 1) hx hb dL_law_1282 (by decide) ?_
          refine Z_ald (pc := 1283) (j := 4) (v := L.2 4 1) C K P rfl (vp_dec (by decide)) rfl dL_law_1283 ?_
          refine lv_iconst (pc := 1284) (v := 2) hx hb dL_law_1284 (by decide) ?_
          refine lv_idiv (pc := 1285) hx hb dL_law_1285 (by decide) ?_
          refine lv_sipush (pc := 1286) (v := 1000) hx hb dL_law_1286 (by decide) ?_
          refine S_call (pc := 1289) (As := [.int m1233, .int ((L.2 4 1) / 2), .int 1000]) (rest := [.int (L.2 4 9), .ref (ar 6)]) (r := m_part m1233 ((L.2 4 1) / 2) 1000) C hl.1 (kL_times l m1233 ((L.2 4 1) / 2) 1000 (by decide)) fnL_times gL_law_L_times rfl rfl ⟨Nat.le_trans (Nat.le_of_ble_eq_true rfl) hRf, Nat.le_trans (Nat.le_of_ble_eq_true rfl) hRl⟩ (Nat.le_of_ble_eq_true rfl) ⟨by omega, by omega⟩ dL_law_1289 ?_
          refine lv_iload (pc := 1292) hx hb dL_law_1292 (lv_at hl 1 rfl) ?_
          refine lv_iload (pc := 1294) hx hb dL_law_1294 (lv_at hl 0 rfl) ?_
          refine lv_isub (pc := 1296) hx hb dL_law_1296 ?_
          refine lv_aload (pc := 1297) hx hb dL_law_1297 (lv_at hl 16 rfl) ?_
          refine lv_iconst (pc := 1299) (v := 1) hx hb dL_law_1299 (by decide) ?_
          refine Z_ald (pc := 1300) (j := 4) (v := L.2 4 1) C K P rfl (vp_dec (by decide)) rfl dL_law_1300 ?_
          refine lv_sipush (pc := 1301) (v := 1000) hx hb dL_law_1301 (by decide) ?_
          refine S_call (pc := 1304) (As := [.int (m1127 - m1233), .int (L.2 4 1), .int 1000]) (rest := [.int (m_part m1233 ((L.2 4 1) / 2) 1000), .int (L.2 4 9), .ref (ar 6)]) (r := m_part (m1127 - m1233) (L.2 4 1) 1000) C hl.1 (kL_times l (m1127 - m1233) (L.2 4 1) 1000 (by decide)) fnL_times gL_law_L_times rfl rfl ⟨Nat.le_trans (Nat.le_of_ble_eq_true rfl) hRf, Nat.le_trans (Nat.le_of_ble_eq_true rfl) hRl⟩ (Nat.le_of_ble_eq_true rfl) ⟨by omega, by omega⟩ dL_law_1304 ?_
          refine lv_iadd (pc := 1307) hx hb dL_law_1307 ?_
          refine lv_topi (fun (pmo : Int32) (hpmo : pmo = ((m_part m1233 ((L.2 4 1) / 2) 1000) + (m_part (m1127 - m1233) (L.2 4 1) 1000) : Int32)) => ?_)
          refine Z_ast (pc := 1308) (j := 6) (n := 40) (x := pmo) C K P (zj6 _) hv9 (zs6 _ _ _) dL_law_1308 (fun H locs (P : Hp D A s (G_W cI cO η σ ++ Z_W cI ar (bs (bs (bs (bs (z_draws L k so).2 4 5 ((L.2 4 5) - m1127)) 4 6 ((L.2 4 6) + m1233)) 5 (ix (L.2 4 9)) m1127) 6 (ix (L.2 4 9)) pmo)) H locs) => ?_)
          refine lv_aload (pc := 1309) hx hb dL_law_1309 (lv_at hl 16 rfl) ?_
          refine lv_iconst (pc := 1311) (v := 2) hx hb dL_law_1311 (by decide) ?_
          refine lv_dup2_11 (pc := 1312) hx hb dL_law_1312 rfl rfl ?_
          refine Z_ald (pc := 1313) (j := 4) (v := L.2 4 2) C K P rfl (vp_dec (by decide)) rfl dL_law_1313 ?_
          refine lv_aload (pc := 1314) hx hb dL_law_1314 (lv_at hl 14 rfl) ?_
          refine lv_aload (pc := 1316) hx hb dL_law_1316 (lv_at hl 16 rfl) ?_
          refine lv_bipush (pc := 1318) (v := 9) hx hb dL_law_1318 (by decide) ?_
          refine Z_ald (pc := 1320) (j := 4) (v := L.2 4 9) C K P rfl (vp_dec (by decide)) rfl dL_law_1320 ?_
          refine Z_ald (pc := 1321) (j := 6) (v := pmo) C K P rfl hv9 bs_us dL_law_1321 ?_
          refine lv_iadd (pc := 1322) hx hb dL_law_1322 ?_
          refine Z_ast (pc := 1323) (j := 4) (n := 16) (x := (L.2 4 2) + pmo) C K P (zj4 _) (vp_dec (by decide)) (zs4 _ _ _) dL_law_1323 (fun H locs (P : Hp D A s (G_W cI cO η σ ++ Z_W cI ar (bs (bs (bs (bs (bs (z_draws L k so).2 4 5 ((L.2 4 5) - m1127)) 4 6 ((L.2 4 6) + m1233)) 5 (ix (L.2 4 9)) m1127) 6 (ix (L.2 4 9)) pmo) 4 2 ((L.2 4 2) + pmo))) H locs) => ?_)
          refine lv_aload_n (pc := 1324) hx hb dL_law_1324 rfl (lv_at hl 21 rfl) ?_
          refine lv_iload (pc := 1325) hx hb dL_law_1325 (lv_at hl 6 rfl) ?_
          refine lv_iload (pc := 1327) hx hb dL_law_1327 (lv_at hl 4 rfl) ?_
          have e1 : an (g_release σ k so) = pmo ∧ _ := p_rel_b hT hTI hk hso hle c1152 hm1127 hm1233 hpmo c1119 c1160 c1169
          refine T_callW (pc := 1329) (As0 := [.int k, .int so]) (rest := []) (v := pmo) (τ := (g_release σ k so).2.2) C V hEC K E9 hl.1 hg P (kL_release l hl9 D cI cO t0 η σ k so hG) fnL_release ⟨e1.1, rfl⟩ gL_law_L_release rfl rfl ⟨Nat.le_trans (Nat.le_of_ble_eq_true rfl) hRf, Nat.le_trans (Nat.le_of_ble_eq_true rfl) hRl⟩ (Nat.le_of_ble_eq_true rfl) ⟨by omega, by omega⟩ dL_law_1329 (fun η H locs (P : Hp D A s (G_W cI cO η (g_release σ k so).2.2 ++ Z_W cI ar (bs (bs (bs (bs (bs (z_draws L k so).2 4 5 ((L.2 4 5) - m1127)) 4 6 ((L.2 4 6) + m1233)) 5 (ix (L.2 4 9)) m1127) 6 (ix (L.2 4 9)) pmo) 4 2 ((L.2 4 2) + pmo))) H locs) (hG : Gok t0 η (g_release σ k so).2.2) hg => ?_)
          refine lv_aload (pc := 1332) hx hb dL_law_1332 (lv_at hl 14 rfl) ?_
          refine lv_aload (pc := 1334) hx hb dL_law_1334 (lv_at hl 16 rfl) ?_
          refine lv_bipush (pc := 1336) (v := 9) hx hb dL_law_1336 (by decide) ?_
          refine Z_ald (pc := 1338) (j := 4) (v := L.2 4 9) C K P rfl (vp_dec (by decide)) rfl dL_law_1338 ?_
          refine Z_ald (pc := 1339) (j := 6) (v := pmo) C K P rfl hv9 (bs_o (by decide) bs_us) dL_law_1339 ?_
          refine lv_icmp_ne (pc := 1340) (tgt := 1347) hx hb dL_law_1340 (by decide) (fun g => absurd rfl g) (fun _ => ?_)
          refine lv_iconst (pc := 1343) (v := 1) hx hb dL_law_1343 (by decide) ?_
          refine lv_goto (pc := 1344) (tgt := 1348) hx hb dL_law_1344 (by decide) ?_
          refine lv_istore (pc := 1348) (lv' := [(20, .int 1), (34, .int m1233), (33, .int m1127), (19, .int hv), (18, .int so), (17, .int o), (16, .int k), (15, .int u), (14, .int w), (13, .int (nI T)), (12, .int (σ.1 9)), (11, .int (σ.1 8)), (10, .ref (ar 8)), (9, .ref (ar 7)), (8, .ref (ar 6)), (7, .ref (ar 5)), (6, .ref (ar 4)), (5, .ref (ar 3)), (4, .ref (ar 2)), (3, .ref (ar 1)), (2, .ref (ar 0)), (1, .ref g0), (0, .ref b)]) hx hb dL_law_1348 hl (by decide) rfl (fun ls hl => ?_)
          refine lv_aload (pc := 1350) hx hb dL_law_1350 (lv_at hl 16 rfl) ?_
          refine lv_bipush (pc := 1352) (v := 9) hx hb dL_law_1352 (by decide) ?_
          refine lv_dup2_11 (pc := 1354) hx hb dL_law_1354 rfl rfl ?_
          refine Z_ald (pc := 1355) (j := 4) (v := L.2 4 9) C K P rfl (vp_dec (by decide)) rfl dL_law_1355 ?_
          refine lv_iconst (pc := 1356) (v := 1) hx hb dL_law_1356 (by decide) ?_
          refine lv_iadd (pc := 1357) hx hb dL_law_1357 ?_
          refine Z_ast (pc := 1358) (j := 4) (n := 16) (x := (L.2 4 9) + 1) C K P (zj4 _) (vp_dec (by decide)) (zs4 _ _ _) dL_law_1358 (fun H locs (P : Hp D A s (G_W cI cO η (g_release σ k so).2.2 ++ Z_W cI ar (bs (bs (bs (bs (bs (bs (z_draws L k so).2 4 5 ((L.2 4 5) - m1127)) 4 6 ((L.2 4 6) + m1233)) 5 (ix (L.2 4 9)) m1127) 6 (ix (L.2 4 9)) pmo) 4 2 ((L.2 4 2) + pmo)) 4 9 ((L.2 4 9) + 1))) H locs) => ?_)
          refine lv_goto (pc := 1359) (tgt := 2755) hx hb dL_law_1359 (by decide) ?_
          exact W.widen (by omega) (by omega) (kk η ((g_release σ k so).2.2) (bs (bs (bs (bs (bs (bs (z_draws L k so).2 4 5 ((L.2 4 5) - m1127)) 4 6 ((L.2 4 6) + m1233)) 5 (ix (L.2 4 9)) m1127) 6 (ix (L.2 4 9)) pmo) 4 2 ((L.2 4 2) + pmo)) 4 9 ((L.2 4 9) + 1)) _ _ ls e1.2.1 hG hg P (by rw [e1.2.2.1, e1.2.2.2]; exact (lv_sub hl [0, 9, 10, 11, 12, 13, 14, 15, 16, 17, 18, 19, 20, 21, 22] rfl)))
        · refine lv_aload_n (pc := 1172) hx hb dL_law_1172 rfl (lv_at hl 20 rfl) ?_
          refine lv_iload (pc := 1173) hx hb dL_law_1173 (lv_at hl 5 rfl) ?_
          refine lv_iload (pc := 1175) hx hb dL_law_1175 (lv_at hl 3 rfl) ?_
          have e1 : an (g_release σ k so) = (-2000000003) ∧ _ := p_rel_no1 hTI hk hso hle c1152 hm1127 c1160 c1169
          refine T_callW (pc := 1177) (As0 := [.int k, .int so]) (rest := []) (v := (-2000000003)) (τ := (g_release σ k so).2.2) C V hEC K E9 hl.1 hg P (kL_release l hl9 D cI cO t0 η σ k so hG) fnL_release ⟨e1.1, rfl⟩ gL_law_L_release rfl rfl ⟨Nat.le_trans (Nat.le_of_ble_eq_true rfl) hRf, Nat.le_trans (Nat.le_of_ble_eq_true rfl) hRl⟩ (Nat.le_of_ble_eq_true rfl) ⟨by omega, by omega⟩ dL_law_1177 (fun η H locs (P : Hp D A s (G_W cI cO η (g_release σ k so).2.2 ++ Z_W cI ar L) H locs) (hG : Gok t0 η (g_release σ k so).2.2) hg => ?_)
          refine lv_ldc (pc := 1180) (v := (-2000000003)) hx hb hown (hts _ lc_22) dL_law_1180 ?_
          refine lv_icmp_ne (pc := 1182) (tgt := 1189) hx hb dL_law_1182 (by decide) (fun h => absurd h (by decide)) (fun _ => ?_)
          refine lv_iconst (pc := 1185) (v := 1) hx hb dL_law_1185 (by decide) ?_
          refine lv_goto (pc := 1186) (tgt := 1190) hx hb dL_law_1186 (by decide) ?_
          refine lv_istore (pc := 1190) (lv' := [(20, .int 1), (33, .int m1127), (19, .int hv), (18, .int so), (17, .int o), (16, .int k), (15, .int u), (14, .int w), (13, .int (nI T)), (12, .int (σ.1 9)), (11, .int (σ.1 8)), (10, .ref (ar 8)), (9, .ref (ar 7)), (8, .ref (ar 6)), (7, .ref (ar 5)), (6, .ref (ar 4)), (5, .ref (ar 3)), (4, .ref (ar 2)), (3, .ref (ar 1)), (2, .ref (ar 0)), (1, .ref g0), (0, .ref b)]) hx hb dL_law_1190 hl (by decide) rfl (fun ls hl => ?_)
          refine lv_goto (pc := 1192) (tgt := 2755) hx hb dL_law_1192 (by decide) ?_
          exact W.widen (by omega) (by omega) (kk η ((g_release σ k so).2.2) L _ _ ls (by rw [e1.2]; exact ti_up hTI) hG hg P (by rw [e1.2]; exact (lv_sub hl [0, 8, 9, 10, 11, 12, 13, 14, 15, 16, 17, 18, 19, 20, 21] rfl)))
  · refine lv_goto (pc := 1122) (tgt := 2755) hx hb dL_law_1122 (by decide) ?_
    exact W.widen (by omega) (by omega) (kk η σ L _ _ ls (ti_up hTI) hG hg P (lv_sub hl [0, 7, 8, 9, 10, 11, 12, 13, 14, 15, 16, 17, 18, 19, 20] rfl))
end LC2
