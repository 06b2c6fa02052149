section LC4
variable {p : Program} {l : Launch} {e : Env} {R : Room} {s : State} {m : MethodId} {args : Array Value} {below : List Frame} {meth : Method} {c : Code} {H : Heap} {locs : List Loc} {cells slots : Nat} {Q : State → Prop} {ls : Array Slot} {D : va_G} {A : Nat → Prop} {ret : Option FieldType} {cI cO : ClassId} {t0 : Nat} {η : Eg} {σ L : Sg} {ar : Nat → Nat} {g0 b T : Nat} {k o so hv u w : Int32}
set_option maxHeartbeats 8000000 in
set_option maxRecDepth 100000 in
theorem law_ship (hl9 : l.stackTraces = false) (C : Cx RL p s m args meth c cL_law 62 wsL_law ret) (V : EnvV s) (hEC : EnvC s) (K : va_K D vwCl (tyG cI cO) s) (E9 : EnvH t0 A s s.heap) (hRf : 12 ≤ R.frames) (hRl : 452 ≤ R.locals) (hz : cells + 400 ≤ R.cells ∧ slots + 2400 ≤ R.slots) (hT : T < 120) (hTI : TI T σ L) (hG : Gok t0 η σ) (hg : e_ad η 0 = g0) (P : Hp D A s (G_W cI cO η σ ++ Z_W cI ar L) H locs) (hk : vp_in k 5) (ho : vp_in o 5) (hso : 1 ≤ so.toInt ∧ so.toInt ≤ 10002) (hhv : hv = if L.2 1 (ix k) < so then 0 else 1) (hl : lv_has ls 62 [(20, .int 1), (19, .int hv), (18, .int so), (17, .int o), (16, .int k), (15, .int u), (14, .int w), (13, .int (nI T)), (12, .int (σ.1 9)), (11, .int (σ.1 8)), (10, .ref (ar 8)), (9, .ref (ar 7)), (8, .ref (ar 6)), (7, .ref (ar 5)), (6, .ref (ar 4)), (5, .ref (ar 3)), (4, .ref (ar 2)), (3, .ref (ar 1)), (2, .ref (ar 0)), (1, .ref g0), (0, .ref b)]) (kk : ∀ (η : Eg) (σ L : Sg) (H : Heap) (locs : List Loc) (ls : Array Slot), TI (T + 1) σ L → Gok t0 η σ → e_ad η 0 = g0 → Hp D A s (G_W cI cO η σ ++ Z_W cI ar L) H locs → lv_has ls 62 [(20, .int 1), (13, .int (nI T)), (12, .int (σ.1 9)), (11, .int (σ.1 8)), (10, .ref (ar 8)), (9, .ref (ar 7)), (8, .ref (ar 6)), (7, .ref (ar 5)), (6, .ref (ar 4)), (5, .ref (ar 3)), (4, .ref (ar 2)), (3, .ref (ar 1)), (2, .ref (ar 0)), (1, .ref g0), (0, .ref b)] → W p l e R s m args below meth c H locs (cells + 12) (slots + 500) Q (F0 m 2755 ls [])) : W p l e R s m args below meth c H locs cells slots Q (F0 m 2093 ls []) := by
  have hx := C.1
  have hb := C.2.1
  have hown := C.2.2.2.1
  have hts := C.2.2.2.2.1
  refine lv_aload (pc := 2093) hx hb dL_law_2093 (lv_at hl 14 rfl) ?_
  refine lv_bipush (pc := 2095) (v := 10) hx hb dL_law_2095 (by decide) ?_
  refine Z_ald (pc := 2097) (j := 4) (v := L.2 4 10) C K P rfl (vp_dec (by decide)) rfl dL_law_2097 ?_
  refine lv_bipush (pc := 2098) (v := 30) hx hb dL_law_2098 (by decide) ?_
  refine lv_icmp_ne (pc := 2100) (tgt := 2106) hx hb dL_law_2100 (by decide) (fun (c2100 : ¬ (L.2 4 10) = 30) => ?_) (fun (c2100 : (L.2 4 10) = 30) => ?_)
  · have hv10 := vp30 hTI c2100
    refine lv_iconst (pc := 2106) (v := 1) hx hb dL_law_2106 (by decide) ?_
    refine lv_iload (pc := 2107) hx hb dL_law_2107 (lv_at hl 5 rfl) ?_
    refine lv_bipush (pc := 2109) (v := 17) hx hb dL_law_2109 (by decide) ?_
    refine lv_ishr (pc := 2111) hx hb dL_law_2111 ?_
    refine lv_bipush (pc := 2112) (v := 12) hx hb dL_law_2112 (by decide) ?_
    refine S_call (pc := 2114) (As := [.int (u >>> (17 &&& 31)), .int 12]) (rest := [.int 1]) (r := z_low (u >>> (17 &&& 31)) 12) C hl.1 (kL_low l (u >>> (17 &&& 31)) 12 (by decide)) fnL_low gL_law_L_low rfl rfl ⟨Nat.le_trans (Nat.le_of_ble_eq_true rfl) hRf, Nat.le_trans (Nat.le_of_ble_eq_true rfl) hRl⟩ (Nat.le_of_ble_eq_true rfl) ⟨by omega, by omega⟩ dL_law_2114 ?_
    refine lv_iadd (pc := 2117) hx hb dL_law_2117 ?_
    refine lv_topi (fun (days : Int32) (hdays : days = (1 + (z_low (u >>> ((17 &&& 31) : Int32)) 12) : Int32)) => ?_)
    refine lv_istore (pc := 2118) (lv' := [(48, .int days), (20, .int 1), (19, .int hv), (18, .int so), (17, .int o), (16, .int k), (15, .int u), (14, .int w), (13, .int (nI T)), (12, .int (σ.1 9)), (11, .int (σ.1 8)), (10, .ref (ar 8)), (9, .ref (ar 7)), (8, .ref (ar 6)), (7, .ref (ar 5)), (6, .ref (ar 4)), (5, .ref (ar 3)), (4, .ref (ar 2)), (3, .ref (ar 1)), (2, .ref (ar 0)), (1, .ref g0), (0, .ref b)]) hx hb dL_law_2118 hl (by decide) rfl (fun ls hl => ?_)
    refine lv_iload (pc := 2120) hx hb dL_law_2120 (lv_at hl 2 rfl) ?_
    refine lv_mergeI (M := 2143) (T := if hv = 0 then 0 else (m_part (L.2 2 (ix k)) so (L.2 1 (ix k)))) (rest := []) (fun hm => ?_) (fun (m2122 : Int32) (hm2122 : m2122 = (if hv = 0 then 0 else (m_part (L.2 2 (ix k)) so (L.2 1 (ix k))) : Int32)) => ?_)
    · refine lv_if_eq (pc := 2122) (tgt := 2142) hx hb dL_law_2122 (by decide) (fun (c2122 : hv = 0) => ?_) (fun (c2122 : ¬ hv = 0) => ?_)
      · refine lv_iconst (pc := 2142) (v := 0) hx hb dL_law_2142 (by decide) ?_
        exact hm _ (by rw [if_pos c2122])
      · obtain ⟨hle, hV0⟩ := hv_has hTI hk hso hhv c2122
        refine lv_aload (pc := 2125) hx hb dL_law_2125 (lv_at hl 17 rfl) ?_
        refine lv_iload (pc := 2127) hx hb dL_law_2127 (lv_at hl 5 rfl) ?_
        refine Z_ald (pc := 2129) (j := 2) (v := L.2 2 (ix k)) C K P rfl hk rfl dL_law_2129 ?_
        refine lv_iload (pc := 2130) hx hb dL_law_2130 (lv_at hl 3 rfl) ?_
        refine lv_aload_n (pc := 2132) hx hb dL_law_2132 rfl (lv_at hl 18 rfl) ?_
        refine lv_iload (pc := 2133) hx hb dL_law_2133 (lv_at hl 5 rfl) ?_
        refine Z_ald (pc := 2135) (j := 1) (v := L.2 1 (ix k)) C K P rfl hk rfl dL_law_2135 ?_
        refine S_call (pc := 2136) (As := [.int (L.2 2 (ix k)), .int so, .int (L.2 1 (ix k))]) (rest := []) (r := m_part (L.2 2 (ix k)) so (L.2 1 (ix k))) C hl.1 (kL_times l (L.2 2 (ix k)) so (L.2 1 (ix k)) hV0) fnL_times gL_law_L_times rfl rfl ⟨Nat.le_trans (Nat.le_of_ble_eq_true rfl) hRf, Nat.le_trans (Nat.le_of_ble_eq_true rfl) hRl⟩ (Nat.le_of_ble_eq_true rfl) ⟨by omega, by omega⟩ dL_law_2136 ?_
        refine lv_goto (pc := 2139) (tgt := 2143) hx hb dL_law_2139 (by decide) ?_
        exact hm _ (by rw [if_neg c2122])
    refine lv_istore (pc := 2143) (lv' := [(49, .int m2122), (48, .int days), (20, .int 1), (19, .int hv), (18, .int so), (17, .int o), (16, .int k), (15, .int u), (14, .int w), (13, .int (nI T)), (12, .int (σ.1 9)), (11, .int (σ.1 8)), (10, .ref (ar 8)), (9, .ref (ar 7)), (8, .ref (ar 6)), (7, .ref (ar 5)), (6, .ref (ar 4)), (5, .ref (ar 3)), (4, .ref (ar 2)), (3, .ref (ar 1)), (2, .ref (ar 0)), (1, .ref g0), (0, .ref b)]) hx hb dL_law_2143 hl (by decide) rfl (fun ls hl => ?_)
    refine lv_iload (pc := 2145) hx hb dL_law_2145 (lv_at hl 6 rfl) ?_
    refine lv_iconst (pc := 2147) (v := 3) hx hb dL_law_2147 (by decide) ?_
    refine lv_irem (pc := 2148) hx hb dL_law_2148 (by decide) ?_
    refine lv_iload (pc := 2149) hx hb dL_law_2149 (lv_at hl 5 rfl) ?_
    refine lv_iconst (pc := 2151) (v := 3) hx hb dL_law_2151 (by decide) ?_
    refine lv_irem (pc := 2152) hx hb dL_law_2152 (by decide) ?_
    refine lv_mergeH (M := 2196) (T := if (k - k / 3 * 3) = (o - o / 3 * 3) then 0 else (if hv = 0 then 0 else (if (L.2 4 8) < (m_part (((z_moving L).1) + m2122) (L.2 4 1) 1000) then 0 else 1))) (rest := []) P (fun hm => ?_) (fun (m2153 : Int32) (hm2153 : m2153 = (if (k - k / 3 * 3) = (o - o / 3 * 3) then 0 else (if hv = 0 then 0 else (if (L.2 4 8) < (m_part (((z_moving L).1) + m2122) (L.2 4 1) 1000) then 0 else 1)) : Int32)) H locs (P : Hp D A s (G_W cI cO η σ ++ Z_W cI ar L) H locs) => ?_)
    · refine lv_icmp_eq (pc := 2153) (tgt := 2195) hx hb dL_law_2153 (by decide) (fun (c2153 : (k - k / 3 * 3) = (o - o / 3 * 3)) => ?_) (fun (c2153 : ¬ (k - k / 3 * 3) = (o - o / 3 * 3)) => ?_)
      · refine lv_iconst (pc := 2195) (v := 0) hx hb dL_law_2195 (by decide) ?_
        exact hm _ (by rw [if_pos c2153]) _ _ P
      · refine lv_iload (pc := 2156) hx hb dL_law_2156 (lv_at hl 3 rfl) ?_
        refine lv_if_eq (pc := 2158) (tgt := 2195) hx hb dL_law_2158 (by decide) (fun (c2158 : hv = 0) => ?_) (fun (c2158 : ¬ hv = 0) => ?_)
        · refine lv_iconst (pc := 2195) (v := 0) hx hb dL_law_2195 (by decide) ?_
          exact hm _ (by rw [if_neg c2153, if_pos c2158]) _ _ P
        · refine lv_aload (pc := 2161) hx hb dL_law_2161 (lv_at hl 16 rfl) ?_
          refine lv_bipush (pc := 2163) (v := 8) hx hb dL_law_2163 (by decide) ?_
          refine Z_ald (pc := 2165) (j := 4) (v := L.2 4 8) C K P rfl (vp_dec (by decide)) rfl dL_law_2165 ?_
          refine lv_aload (pc := 2166) hx hb dL_law_2166 (lv_at hl 13 rfl) ?_
          refine lv_aload (pc := 2168) hx hb dL_law_2168 (lv_at hl 12 rfl) ?_
          refine lv_aload (pc := 2170) hx hb dL_law_2170 (lv_at hl 16 rfl) ?_
          refine Z_calli (pc := 2172) (As := [.ref (ar 7), .ref (ar 8), .ref (ar 4)]) (rest := [.int (L.2 4 8)]) C K P hl.1 (kL_moving l D cI ar L (cz10 hTI)) fnL_moving gL_law_L_moving rfl rfl ⟨Nat.le_trans (Nat.le_of_ble_eq_true rfl) hRf, Nat.le_trans (Nat.le_of_ble_eq_true rfl) hRl⟩ (Nat.le_of_ble_eq_true rfl) ⟨by omega, by omega⟩ dL_law_2172 (fun H locs (P : Hp D A s (G_W cI cO η σ ++ Z_W cI ar L) H locs) => ?_)
          refine lv_iload (pc := 2175) hx hb dL_law_2175 (lv_at hl 0 rfl) ?_
          refine lv_iadd (pc := 2177) hx hb dL_law_2177 ?_
          refine lv_aload (pc := 2178) hx hb dL_law_2178 (lv_at hl 16 rfl) ?_
          refine lv_iconst (pc := 2180) (v := 1) hx hb dL_law_2180 (by decide) ?_
          refine Z_ald (pc := 2181) (j := 4) (v := L.2 4 1) C K P rfl (vp_dec (by decide)) rfl dL_law_2181 ?_
          refine lv_sipush (pc := 2182) (v := 1000) hx hb dL_law_2182 (by decide) ?_
          refine S_call (pc := 2185) (As := [.int (((z_moving L).1) + m2122), .int (L.2 4 1), .int 1000]) (rest := [.int (L.2 4 8)]) (r := m_part (((z_moving L).1) + m2122) (L.2 4 1) 1000) C hl.1 (kL_times l (((z_moving L).1) + m2122) (L.2 4 1) 1000 (by decide)) fnL_times gL_law_L_times rfl rfl ⟨Nat.le_trans (Nat.le_of_ble_eq_true rfl) hRf, Nat.le_trans (Nat.le_of_ble_eq_true rfl) hRl⟩ (Nat.le_of_ble_eq_true rfl) ⟨by omega, by omega⟩ dL_law_2185 ?_
          refine lv_icmp_lt (pc := 2188) (tgt := 2195) hx hb dL_law_2188 (by decide) (fun (c2188 : (L.2 4 8) < (m_part (((z_moving L).1) + m2122) (L.2 4 1) 1000)) => ?_) (fun (c2188 : ¬ (L.2 4 8) < (m_part (((z_moving L).1) + m2122) (L.2 4 1) 1000)) => ?_)
          · refine lv_iconst (pc := 2195) (v := 0) hx hb dL_law_2195 (by decide) ?_
            exact hm _ (by rw [if_neg c2153, if_neg c2158, if_pos c2188]) _ _ P
          · refine lv_iconst (pc := 2191) (v := 1) hx hb dL_law_2191 (by decide) ?_
            refine lv_goto (pc := 2192) (tgt := 2196) hx hb dL_law_2192 (by decide) ?_
            exact hm _ (by rw [if_neg c2153, if_neg c2158, if_neg c2188]) _ _ P
    refine lv_istore (pc := 2196) (lv' := [(50, .int m2153), (49, .int m2122), (48, .int days), (20, .int 1), (19, .int hv), (18, .int so), (17, .int o), (16, .int k), (15, .int u), (14, .int w), (13, .int (nI T)), (12, .int (σ.1 9)), (11, .int (σ.1 8)), (10, .ref (ar 8)), (9, .ref (ar 7)), (8, .ref (ar 6)), (7, .ref (ar 5)), (6, .ref (ar 4)), (5, .ref (ar 3)), (4, .ref (ar 2)), (3, .ref (ar 1)), (2, .ref (ar 0)), (1, .ref g0), (0, .ref b)]) hx hb dL_law_2196 hl (by decide) rfl (fun ls hl => ?_)
    refine lv_aload_n (pc := 2198) hx hb dL_law_2198 rfl (lv_at hl 22 rfl) ?_
    refine lv_iload (pc := 2199) hx hb dL_law_2199 (lv_at hl 7 rfl) ?_
    refine lv_iload (pc := 2201) hx hb dL_law_2201 (lv_at hl 6 rfl) ?_
    refine lv_iload (pc := 2203) hx hb dL_law_2203 (lv_at hl 5 rfl) ?_
    refine lv_iload (pc := 2205) hx hb dL_law_2205 (lv_at hl 2 rfl) ?_
    refine T_callW (pc := 2207) (As0 := [.int k, .int o, .int so, .int days]) (rest := []) (v := an (g_ship σ k o so days)) (τ := (g_ship σ k o so days).2.2) C V hEC K E9 hl.1 hg P (kL_ship l hl9 D cI cO t0 η σ k o so days hG) fnL_ship ⟨rfl, rfl⟩ gL_law_L_ship rfl rfl ⟨Nat.le_trans (Nat.le_of_ble_eq_true rfl) hRf, Nat.le_trans (Nat.le_of_ble_eq_true rfl) hRl⟩ (Nat.le_of_ble_eq_true rfl) ⟨by omega, by omega⟩ dL_law_2207 (fun η H locs (P : Hp D A s (G_W cI cO η (g_ship σ k o so days).2.2 ++ Z_W cI ar L) H locs) (hG : Gok t0 η (g_ship σ k o so days).2.2) hg => ?_)
    refine lv_iload (pc := 2210) hx hb dL_law_2210 (lv_at hl 0 rfl) ?_
    refine lv_if_eq (pc := 2212) (tgt := 2223) hx hb dL_law_2212 (by decide) (fun (c2212 : m2153 = 0) => ?_) (fun (c2212 : ¬ m2153 = 0) => ?_)
    · have e1 : an (g_ship σ k o so days) = (-2000000003) ∧ _ := p_ship_no hTI hk ho hso hhv (days_b hdays) c2100 hm2122 hm2153 c2212
      refine lv_ldc (pc := 2223) (v := (-2000000003)) hx hb hown (hts _ lc_22) dL_law_2223 ?_
      refine lv_icmp_ne (pc := 2225) (tgt := 2232) hx hb dL_law_2225 (by decide) (fun g => absurd e1.1 g) (fun _ => ?_)
      refine lv_iconst (pc := 2228) (v := 1) hx hb dL_law_2228 (by decide) ?_
      refine lv_goto (pc := 2229) (tgt := 2233) hx hb dL_law_2229 (by decide) ?_
      refine lv_istore (pc := 2233) (lv' := [(20, .int 1), (50, .int m2153), (49, .int m2122), (48, .int days), (19, .int hv), (18, .int so), (17, .int o), (16, .int k), (15, .int u), (14, .int w), (13, .int (nI T)), (12, .int (σ.1 9)), (11, .int (σ.1 8)), (10, .ref (ar 8)), (9, .ref (ar 7)), (8, .ref (ar 6)), (7, .ref (ar 5)), (6, .ref (ar 4)), (5, .ref (ar 3)), (4, .ref (ar 2)), (3, .ref (ar 1)), (2, .ref (ar 0)), (1, .ref g0), (0, .ref b)]) hx hb dL_law_2233 hl (by decide) rfl (fun ls hl => ?_)
      refine lv_iload (pc := 2235) hx hb dL_law_2235 (lv_at hl 1 rfl) ?_
      refine lv_if_ne (pc := 2237) (tgt := 2243) hx hb dL_law_2237 (by decide) (fun g => absurd c2212 g) (fun _ => ?_)
      refine lv_goto (pc := 2240) (tgt := 2755) hx hb dL_law_2240 (by decide) ?_
      exact W.widen (by omega) (by omega) (kk η ((g_ship σ k o so days).2.2) L _ _ ls (by rw [e1.2]; exact ti_up hTI) hG hg P (by rw [e1.2]; exact (lv_sub hl [0, 10, 11, 12, 13, 14, 15, 16, 17, 18, 19, 20, 21, 22, 23] rfl)))
    · have e1 : an (g_ship σ k o so days) = (L.2 4 10) ∧ _ := p_ship_yes hTI hk ho hso hhv (days_b hdays) c2100 hm2122 hm2153 c2212
      obtain ⟨-, hq, -⟩ := sh_yes (L := L) (k := k) (o := o) (hv := hv) hm2153 c2212
      obtain ⟨hle, hV0⟩ := hv_has hTI hk hso hhv hq
      refine lv_aload (pc := 2215) hx hb dL_law_2215 (lv_at hl 17 rfl) ?_
      refine lv_bipush (pc := 2217) (v := 10) hx hb dL_law_2217 (by decide) ?_
      refine Z_ald (pc := 2219) (j := 4) (v := L.2 4 10) C K P rfl (vp_dec (by decide)) rfl dL_law_2219 ?_
      refine lv_goto (pc := 2220) (tgt := 2225) hx hb dL_law_2220 (by decide) ?_
      refine lv_icmp_ne (pc := 2225) (tgt := 2232) hx hb dL_law_2225 (by decide) (fun g => absurd e1.1 g) (fun _ => ?_)
      refine lv_iconst (pc := 2228) (v := 1) hx hb dL_law_2228 (by decide) ?_
      refine lv_goto (pc := 2229) (tgt := 2233) hx hb dL_law_2229 (by decide) ?_
      refine lv_istore (pc := 2233) (lv' := [(20, .int 1), (50, .int m2153), (49, .int m2122), (48, .int days), (19, .int hv), (18, .int so), (17, .int o), (16, .int k), (15, .int u), (14, .int w), (13, .int (nI T)), (12, .int (σ.1 9)), (11, .int (σ.1 8)), (10, .ref (ar 8)), (9, .ref (ar 7)), (8, .ref (ar 6)), (7, .ref (ar 5)), (6, .ref (ar 4)), (5, .ref (ar 3)), (4, .ref (ar 2)), (3, .ref (ar 1)), (2, .ref (ar 0)), (1, .ref g0), (0, .ref b)]) hx hb dL_law_2233 hl (by decide) rfl (fun ls hl => ?_)
      refine lv_iload (pc := 2235) hx hb dL_law_2235 (lv_at hl 1 rfl) ?_
      refine lv_if_ne (pc := 2237) (tgt := 2243) hx hb dL_law_2237 (by decide) (fun _ => ?_) (fun g => absurd g c2212)
      refine lv_aload (pc := 2243) hx hb dL_law_2243 (lv_at hl 14 rfl) ?_
      refine lv_aload (pc := 2245) hx hb dL_law_2245 (lv_at hl 17 rfl) ?_
      refine lv_bipush (pc := 2247) (v := 10) hx hb dL_law_2247 (by decide) ?_
      refine Z_ald (pc := 2249) (j := 4) (v := L.2 4 10) C K P rfl (vp_dec (by decide)) rfl dL_law_2249 ?_
      refine lv_iload (pc := 2250) hx hb dL_law_2250 (lv_at hl 6 rfl) ?_
      refine lv_iload (pc := 2252) hx hb dL_law_2252 (lv_at hl 5 rfl) ?_
      refine lv_iconst (pc := 2254) (v := 3) hx hb dL_law_2254 (by decide) ?_
      refine lv_ishl (pc := 2255) hx hb dL_law_2255 ?_
      refine lv_ior (pc := 2256) hx hb dL_law_2256 ?_
      refine lv_aload (pc := 2257) hx hb dL_law_2257 (lv_at hl 17 rfl) ?_
      refine lv_iconst (pc := 2259) (v := 0) hx hb dL_law_2259 (by decide) ?_
      refine Z_ald (pc := 2260) (j := 4) (v := L.2 4 0) C K P rfl (vp_dec (by decide)) rfl dL_law_2260 ?_
      refine lv_iload (pc := 2261) hx hb dL_law_2261 (lv_at hl 3 rfl) ?_
      refine lv_iadd (pc := 2263) hx hb dL_law_2263 ?_
      refine lv_bipush (pc := 2264) (v := 20) hx hb dL_law_2264 (by decide) ?_
      refine lv_ishl (pc := 2266) hx hb dL_law_2266 ?_
      refine lv_ior (pc := 2267) hx hb dL_law_2267 ?_
      refine Z_ast (pc := 2268) (j := 7) (n := 30) (x := (o ||| (so <<< (3 &&& 31))) ||| (((L.2 4 0) + days) <<< (20 &&& 31))) C K P (zj7 _) hv10 (zs7 _ _ _) dL_law_2268 (fun H locs (P : Hp D A s (G_W cI cO η (g_ship σ k o so days).2.2 ++ Z_W cI ar (bs L 7 (ix (L.2 4 10)) ((o ||| (so <<< (3 &&& 31))) ||| (((L.2 4 0) + days) <<< (20 &&& 31))))) H locs) => ?_)
      refine lv_aload (pc := 2269) hx hb dL_law_2269 (lv_at hl 13 rfl) ?_
      refine lv_aload (pc := 2271) hx hb dL_law_2271 (lv_at hl 17 rfl) ?_
      refine lv_bipush (pc := 2273) (v := 10) hx hb dL_law_2273 (by decide) ?_
      refine Z_ald (pc := 2275) (j := 4) (v := L.2 4 10) C K P rfl (vp_dec (by decide)) rfl dL_law_2275 ?_
      refine lv_iload (pc := 2276) hx hb dL_law_2276 (lv_at hl 7 rfl) ?_
      refine lv_iload (pc := 2278) hx hb dL_law_2278 (lv_at hl 5 rfl) ?_
      refine lv_aload_n (pc := 2280) hx hb dL_law_2280 rfl (lv_at hl 20 rfl) ?_
      refine lv_aload (pc := 2281) hx hb dL_law_2281 (lv_at hl 19 rfl) ?_
      refine Z_calli (pc := 2283) (As := [.int k, .int so, .ref (ar 1), .ref (ar 2)]) (rest := [.int (L.2 4 10), .ref (ar 8)]) C K P hl.1 (kL_draws l D cI ar (bs L 7 (ix (L.2 4 10)) ((o ||| (so <<< (3 &&& 31))) ||| (((L.2 4 0) + days) <<< (20 &&& 31)))) k so hk hV0) fnL_draws gL_law_L_draws rfl rfl ⟨Nat.le_trans (Nat.le_of_ble_eq_true rfl) hRf, Nat.le_trans (Nat.le_of_ble_eq_true rfl) hRl⟩ (Nat.le_of_ble_eq_true rfl) ⟨by omega, by omega⟩ dL_law_2283 (fun H locs (P : Hp D A s (G_W cI cO η (g_ship σ k o so days).2.2 ++ Z_W cI ar (z_draws (bs L 7 (ix (L.2 4 10)) ((o ||| (so <<< (3 &&& 31))) ||| (((L.2 4 0) + days) <<< (20 &&& 31)))) k so).2) H locs) => ?_)
      refine Z_ast (pc := 2286) (j := 8) (n := 30) (x := (z_draws (bs L 7 (ix (L.2 4 10)) ((o ||| (so <<< (3 &&& 31))) ||| (((L.2 4 0) + days) <<< (20 &&& 31)))) k so).1) C K P (zj8 _) hv10 (zs8 _ _ _) dL_law_2286 (fun H locs (P : Hp D A s (G_W cI cO η (g_ship σ k o so days).2.2 ++ Z_W cI ar (bs (z_draws (bs L 7 (ix (L.2 4 10)) ((o ||| (so <<< (3 &&& 31))) ||| (((L.2 4 0) + days) <<< (20 &&& 31)))) k so).2 8 (ix (L.2 4 10)) ((z_draws (bs L 7 (ix (L.2 4 10)) ((o ||| (so <<< (3 &&& 31))) ||| (((L.2 4 0) + days) <<< (20 &&& 31)))) k so).1))) H locs) => ?_)
      refine lv_aload (pc := 2287) hx hb dL_law_2287 (lv_at hl 17 rfl) ?_
      refine lv_bipush (pc := 2289) (v := 10) hx hb dL_law_2289 (by decide) ?_
      refine lv_dup2_11 (pc := 2291) hx hb dL_law_2291 rfl rfl ?_
      refine Z_ald (pc := 2292) (j := 4) (v := L.2 4 10) C K P rfl (vp_dec (by decide)) rfl dL_law_2292 ?_
      refine lv_iconst (pc := 2293) (v := 1) hx hb dL_law_2293 (by decide) ?_
      refine lv_iadd (pc := 2294) hx hb dL_law_2294 ?_
      refine Z_ast (pc := 2295) (j := 4) (n := 16) (x := (L.2 4 10) + 1) C K P (zj4 _) (vp_dec (by decide)) (zs4 _ _ _) dL_law_2295 (fun H locs (P : Hp D A s (G_W cI cO η (g_ship σ k o so days).2.2 ++ Z_W cI ar (bs (bs (z_draws (bs L 7 (ix (L.2 4 10)) ((o ||| (so <<< (3 &&& 31))) ||| (((L.2 4 0) + days) <<< (20 &&& 31)))) k so).2 8 (ix (L.2 4 10)) ((z_draws (bs L 7 (ix (L.2 4 10)) ((o ||| (so <<< (3 &&& 31))) ||| (((L.2 4 0) + days) <<< (20 &&& 31)))) k so).1)) 4 10 ((L.2 4 10) + 1))) H locs) => ?_)
      refine lv_goto (pc := 2296) (tgt := 2755) hx hb dL_law_2296 (by decide) ?_
      exact W.widen (by omega) (by omega) (kk η ((g_ship σ k o so days).2.2) (bs (bs (z_draws (bs L 7 (ix (L.2 4 10)) ((o ||| (so <<< (3 &&& 31))) ||| (((L.2 4 0) + days) <<< (20 &&& 31)))) k so).2 8 (ix (L.2 4 10)) ((z_draws (bs L 7 (ix (L.2 4 10)) ((o ||| (so <<< (3 &&& 31))) ||| (((L.2 4 0) + days) <<< (20 &&& 31)))) k so).1)) 4 10 ((L.2 4 10) + 1)) _ _ ls e1.2.1 hG hg P (by rw [e1.2.2.1, e1.2.2.2]; exact (lv_sub hl [0, 10, 11, 12, 13, 14, 15, 16, 17, 18, 19, 20, 21, 22, 23] rfl)))
  · refine lv_goto (pc := 2103) (tgt := 2755) hx hb dL_law_2103 (by decide) ?_
    exact W.widen (by omega) (by omega) (kk η σ L _ _ ls (ti_up hTI) hG hg P (lv_sub hl [0, 7, 8, 9, 10, 11, 12, 13, 14, 15, 16, 17, 18, 19, 20] rfl))
end LC4
