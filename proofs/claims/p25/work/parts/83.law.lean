section LC3
variable {p : Program} {l : Launch} {e : Env} {R : Room} {s : State} {m : MethodId} {args : Array Value} {below : List Frame} {meth : Method} {c : Code} {H : Heap} {locs : List Loc} {cells slots : Nat} {Q : State → Prop} {ls : Array Slot} {D : va_G} {A : Nat → Prop} {ret : Option FieldType} {cI cO : ClassId} {t0 : Nat} {η : Eg} {σ L : Sg} {ar : Nat → Nat} {g0 b T : Nat} {k o so hv u w : Int32}
set_option maxHeartbeats 8000000 in
set_option maxRecDepth 100000 in
theorem law_permit (hl9 : l.stackTraces = false) (C : Cx RL p s m args meth c cL_law 62 wsL_law ret) (V : EnvV s) (hEC : EnvC s) (K : va_K D vwCl (tyG cI cO) s) (E9 : EnvH t0 A s s.heap) (hRf : 12 ≤ R.frames) (hRl : 452 ≤ R.locals) (hz : cells + 400 ≤ R.cells ∧ slots + 2400 ≤ R.slots) (hT : T < 120) (hTI : TI T σ L) (hG : Gok t0 η σ) (hg : e_ad η 0 = g0) (P : Hp D A s (G_W cI cO η σ ++ Z_W cI ar L) H locs) (hk : vp_in k 5) (ho : vp_in o 5) (hso : 1 ≤ so.toInt ∧ so.toInt ≤ 10002) (hhv : hv = if L.2 1 (ix k) < so then 0 else 1) (hl : lv_has ls 62 [(20, .int 1), (19, .int hv), (18, .int so), (17, .int o), (16, .int k), (15, .int u), (14, .int w), (13, .int (nI T)), (12, .int (σ.1 9)), (11, .int (σ.1 8)), (10, .ref (ar 8)), (9, .ref (ar 7)), (8, .ref (ar 6)), (7, .ref (ar 5)), (6, .ref (ar 4)), (5, .ref (ar 3)), (4, .ref (ar 2)), (3, .ref (ar 1)), (2, .ref (ar 0)), (1, .ref g0), (0, .ref b)]) (kk : ∀ (η : Eg) (σ L : Sg) (H : Heap) (locs : List Loc) (ls : Array Slot), TI (T + 1) σ L → Gok t0 η σ → e_ad η 0 = g0 → Hp D A s (G_W cI cO η σ ++ Z_W cI ar L) H locs → lv_has ls 62 [(20, .int 1), (13, .int (nI T)), (12, .int (σ.1 9)), (11, .int (σ.1 8)), (10, .ref (ar 8)), (9, .ref (ar 7)), (8, .ref (ar 6)), (7, .ref (ar 5)), (6, .ref (ar 4)), (5, .ref (ar 3)), (4, .ref (ar 2)), (3, .ref (ar 1)), (2, .ref (ar 0)), (1, .ref g0), (0, .ref b)] → W p l e R s m args below meth c H locs (cells + 12) (slots + 500) Q (F0 m 2755 ls [])) : W p l e R s m args below meth c H locs cells slots Q (F0 m 1362 ls []) := by
  have hx := C.1
  have hb := C.2.1
  have hown := C.2.2.2.1
  have hts := C.2.2.2.2.1
  refine lv_iload (pc := 1362) hx hb dL_law_1362 (lv_at hl 5 rfl) ?_
  refine lv_iconst (pc := 1364) (v := 1) hx hb dL_law_1364 (by decide) ?_
  refine lv_iand (pc := 1365) hx hb dL_law_1365 ?_
  refine lv_if_ne (pc := 1366) (tgt := 1414) hx hb dL_law_1366 (by decide) (fun (c1366 : ¬ (u &&& 1) = 0) => ?_) (fun (c1366 : (u &&& 1) = 0) => ?_)
  · refine lv_iload (pc := 1414) hx hb dL_law_1414 (lv_at hl 1 rfl) ?_
    refine lv_mergeI (M := 1437) (T := if hv = 0 then 0 else (m_part (L.2 2 (ix k)) so (L.2 1 (ix k)))) (rest := []) (fun hm => ?_) (fun (m1416 : Int32) (hm1416 : m1416 = (if hv = 0 then 0 else (m_part (L.2 2 (ix k)) so (L.2 1 (ix k))) : Int32)) => ?_)
    · refine lv_if_eq (pc := 1416) (tgt := 1436) hx hb dL_law_1416 (by decide) (fun (c1416 : hv = 0) => ?_) (fun (c1416 : ¬ hv = 0) => ?_)
      · refine lv_iconst (pc := 1436) (v := 0) hx hb dL_law_1436 (by decide) ?_
        exact hm _ (by rw [if_pos c1416])
      · obtain ⟨hle, hV0⟩ := hv_has hTI hk hso hhv c1416
        refine lv_aload (pc := 1419) hx hb dL_law_1419 (lv_at hl 16 rfl) ?_
        refine lv_iload (pc := 1421) hx hb dL_law_1421 (lv_at hl 4 rfl) ?_
        refine Z_ald (pc := 1423) (j := 2) (v := L.2 2 (ix k)) C K P rfl hk rfl dL_law_1423 ?_
        refine lv_iload (pc := 1424) hx hb dL_law_1424 (lv_at hl 2 rfl) ?_
        refine lv_aload_n (pc := 1426) hx hb dL_law_1426 rfl (lv_at hl 17 rfl) ?_
        refine lv_iload (pc := 1427) hx hb dL_law_1427 (lv_at hl 4 rfl) ?_
        refine Z_ald (pc := 1429) (j := 1) (v := L.2 1 (ix k)) C K P rfl hk rfl dL_law_1429 ?_
        refine S_call (pc := 1430) (As := [.int (L.2 2 (ix k)), .int so, .int (L.2 1 (ix k))]) (rest := []) (r := m_part (L.2 2 (ix k)) so (L.2 1 (ix k))) C hl.1 (kL_times l (L.2 2 (ix k)) so (L.2 1 (ix k)) hV0) fnL_times gL_law_L_times rfl rfl ⟨Nat.le_trans (Nat.le_of_ble_eq_true rfl) hRf, Nat.le_trans (Nat.le_of_ble_eq_true rfl) hRl⟩ (Nat.le_of_ble_eq_true rfl) ⟨by omega, by omega⟩ dL_law_1430 ?_
        refine lv_goto (pc := 1433) (tgt := 1437) hx hb dL_law_1433 (by decide) ?_
        exact hm _ (by rw [if_neg c1416])
    refine lv_istore (pc := 1437) (lv' := [(35, .int m1416), (20, .int 1), (19, .int hv), (18, .int so), (17, .int o), (16, .int k), (15, .int u), (14, .int w), (13, .int (nI T)), (12, .int (σ.1 9)), (11, .int (σ.1 8)), (10, .ref (ar 8)), (9, .ref (ar 7)), (8, .ref (ar 6)), (7, .ref (ar 5)), (6, .ref (ar 4)), (5, .ref (ar 3)), (4, .ref (ar 2)), (3, .ref (ar 1)), (2, .ref (ar 0)), (1, .ref g0), (0, .ref b)]) hx hb dL_law_1437 hl (by decide) rfl (fun ls hl => ?_)
    refine lv_iload (pc := 1439) hx hb dL_law_1439 (lv_at hl 2 rfl) ?_
    refine lv_mergeI (M := 1459) (T := if hv = 0 then 0 else (if (L.2 4 7) < m1416 then 0 else 1)) (rest := []) (fun hm => ?_) (fun (m1441 : Int32) (hm1441 : m1441 = (if hv = 0 then 0 else (if (L.2 4 7) < m1416 then 0 else 1) : Int32)) => ?_)
    · refine lv_if_eq (pc := 1441) (tgt := 1458) hx hb dL_law_1441 (by decide) (fun (c1441 : hv = 0) => ?_) (fun (c1441 : ¬ hv = 0) => ?_)
      · refine lv_iconst (pc := 1458) (v := 0) hx hb dL_law_1458 (by decide) ?_
        exact hm _ (by rw [if_pos c1441])
      · refine lv_iload (pc := 1444) hx hb dL_law_1444 (lv_at hl 0 rfl) ?_
        refine lv_aload (pc := 1446) hx hb dL_law_1446 (lv_at hl 15 rfl) ?_
        refine lv_bipush (pc := 1448) (v := 7) hx hb dL_law_1448 (by decide) ?_
        refine Z_ald (pc := 1450) (j := 4) (v := L.2 4 7) C K P rfl (vp_dec (by decide)) rfl dL_law_1450 ?_
        refine lv_icmp_gt (pc := 1451) (tgt := 1458) hx hb dL_law_1451 (by decide) (fun (c1451 : (L.2 4 7) < m1416) => ?_) (fun (c1451 : ¬ (L.2 4 7) < m1416) => ?_)
        · refine lv_iconst (pc := 1458) (v := 0) hx hb dL_law_1458 (by decide) ?_
          exact hm _ (by rw [if_neg c1441, if_pos c1451])
        · refine lv_iconst (pc := 1454) (v := 1) hx hb dL_law_1454 (by decide) ?_
          refine lv_goto (pc := 1455) (tgt := 1459) hx hb dL_law_1455 (by decide) ?_
          exact hm _ (by rw [if_neg c1441, if_neg c1451])
    refine lv_istore (pc := 1459) (lv' := [(36, .int m1441), (35, .int m1416), (20, .int 1), (19, .int hv), (18, .int so), (17, .int o), (16, .int k), (15, .int u), (14, .int w), (13, .int (nI T)), (12, .int (σ.1 9)), (11, .int (σ.1 8)), (10, .ref (ar 8)), (9, .ref (ar 7)), (8, .ref (ar 6)), (7, .ref (ar 5)), (6, .ref (ar 4)), (5, .ref (ar 3)), (4, .ref (ar 2)), (3, .ref (ar 1)), (2, .ref (ar 0)), (1, .ref g0), (0, .ref b)]) hx hb dL_law_1459 hl (by decide) rfl (fun ls hl => ?_)
    refine lv_aload_n (pc := 1461) hx hb dL_law_1461 rfl (lv_at hl 21 rfl) ?_
    refine lv_iload (pc := 1462) hx hb dL_law_1462 (lv_at hl 6 rfl) ?_
    refine lv_iload (pc := 1464) hx hb dL_law_1464 (lv_at hl 4 rfl) ?_
    refine T_callW (pc := 1466) (As0 := [.int k, .int so]) (rest := []) (v := an (g_denature σ k so)) (τ := (g_denature σ k so).2.2) C V hEC K E9 hl.1 hg P (kL_denature l hl9 D cI cO t0 η σ k so hG (fun _ => gk_denature hG _ _)) fnL_denature ⟨rfl, rfl⟩ gL_law_L_denature rfl rfl ⟨Nat.le_trans (Nat.le_of_ble_eq_true rfl) hRf, Nat.le_trans (Nat.le_of_ble_eq_true rfl) hRl⟩ (Nat.le_of_ble_eq_true rfl) ⟨by omega, by omega⟩ dL_law_1466 (fun η H locs (P : Hp D A s (G_W cI cO η (g_denature σ k so).2.2 ++ Z_W cI ar L) H locs) (hG : Gok t0 η (g_denature σ k so).2.2) hg => ?_)
    refine lv_iload (pc := 1469) hx hb dL_law_1469 (lv_at hl 0 rfl) ?_
    refine lv_if_eq (pc := 1471) (tgt := 1479) hx hb dL_law_1471 (by decide) (fun (c1471 : m1441 = 0) => ?_) (fun (c1471 : ¬ m1441 = 0) => ?_)
    · have e1 : an (g_denature σ k so) = (-2000000003) ∧ _ := p_den_no hTI hk hso hhv hm1416 hm1441 c1471
      refine lv_ldc (pc := 1479) (v := (-2000000003)) hx hb hown (hts _ lc_22) dL_law_1479 ?_
      refine lv_icmp_ne (pc := 1481) (tgt := 1488) hx hb dL_law_1481 (by decide) (fun g => absurd e1.1 g) (fun _ => ?_)
      refine lv_iconst (pc := 1484) (v := 1) hx hb dL_law_1484 (by decide) ?_
      refine lv_goto (pc := 1485) (tgt := 1489) hx hb dL_law_1485 (by decide) ?_
      refine lv_istore (pc := 1489) (lv' := [(20, .int 1), (36, .int m1441), (35, .int m1416), (19, .int hv), (18, .int so), (17, .int o), (16, .int k), (15, .int u), (14, .int w), (13, .int (nI T)), (12, .int (σ.1 9)), (11, .int (σ.1 8)), (10, .ref (ar 8)), (9, .ref (ar 7)), (8, .ref (ar 6)), (7, .ref (ar 5)), (6, .ref (ar 4)), (5, .ref (ar 3)), (4, .ref (ar 2)), (3, .ref (ar 1)), (2, .ref (ar 0)), (1, .ref g0), (0, .ref b)]) hx hb dL_law_1489 hl (by decide) rfl (fun ls hl => ?_)
      refine lv_iload (pc := 1491) hx hb dL_law_1491 (lv_at hl 1 rfl) ?_
      refine lv_if_ne (pc := 1493) (tgt := 1499) hx hb dL_law_1493 (by decide) (fun g => absurd c1471 g) (fun _ => ?_)
      refine lv_goto (pc := 1496) (tgt := 2755) hx hb dL_law_1496 (by decide) ?_
      exact W.widen (by omega) (by omega) (kk η ((g_denature σ k so).2.2) L _ _ ls (by rw [e1.2]; exact ti_up hTI) hG hg P (by rw [e1.2]; exact (lv_sub hl [0, 9, 10, 11, 12, 13, 14, 15, 16, 17, 18, 19, 20, 21, 22] rfl)))
    · have e1 : an (g_denature σ k so) = m1416 ∧ _ := p_den_yes hTI hk hso hhv hm1416 hm1441 c1471
      obtain ⟨hq, -⟩ := dn_yes (L := L) (hv := hv) hm1441 c1471
      obtain ⟨hle, hV0⟩ := hv_has hTI hk hso hhv hq
      refine lv_iload (pc := 1474) hx hb dL_law_1474 (lv_at hl 1 rfl) ?_
      refine lv_goto (pc := 1476) (tgt := 1481) hx hb dL_law_1476 (by decide) ?_
      refine lv_icmp_ne (pc := 1481) (tgt := 1488) hx hb dL_law_1481 (by decide) (fun g => absurd e1.1 g) (fun _ => ?_)
      refine lv_iconst (pc := 1484) (v := 1) hx hb dL_law_1484 (by decide) ?_
      refine lv_goto (pc := 1485) (tgt := 1489) hx hb dL_law_1485 (by decide) ?_
      refine lv_istore (pc := 1489) (lv' := [(20, .int 1), (36, .int m1441), (35, .int m1416), (19, .int hv), (18, .int so), (17, .int o), (16, .int k), (15, .int u), (14, .int w), (13, .int (nI T)), (12, .int (σ.1 9)), (11, .int (σ.1 8)), (10, .ref (ar 8)), (9, .ref (ar 7)), (8, .ref (ar 6)), (7, .ref (ar 5)), (6, .ref (ar 4)), (5, .ref (ar 3)), (4, .ref (ar 2)), (3, .ref (ar 1)), (2, .ref (ar 0)), (1, .ref g0), (0, .ref b)]) hx hb dL_law_1489 hl (by decide) rfl (fun ls hl => ?_)
      refine lv_iload (pc := 1491) hx hb dL_law_1491 (lv_at hl 1 rfl) ?_
      refine lv_if_ne (pc := 1493) (tgt := 1499) hx hb dL_law_1493 (by decide) (fun _ => ?_) (fun g => absurd g c1471)
      refine lv_iload (pc := 1499) hx hb dL_law_1499 (lv_at hl 6 rfl) ?_
      refine lv_iload (pc := 1501) hx hb dL_law_1501 (lv_at hl 4 rfl) ?_
      refine lv_aload_n (pc := 1503) hx hb dL_law_1503 rfl (lv_at hl 19 rfl) ?_
      refine lv_aload (pc := 1504) hx hb dL_law_1504 (lv_at hl 18 rfl) ?_
      refine Z_calli (pc := 1506) (As := [.int k, .int so, .ref (ar 1), .ref (ar 2)]) (rest := []) C K P hl.1 (kL_draws l D cI ar L k so hk hV0) fnL_draws gL_law_L_draws rfl rfl ⟨Nat.le_trans (Nat.le_of_ble_eq_true rfl) hRf, Nat.le_trans (Nat.le_of_ble_eq_true rfl) hRl⟩ (Nat.le_of_ble_eq_true rfl) ⟨by omega, by omega⟩ dL_law_1506 (fun H locs (P : Hp D A s (G_W cI cO η (g_denature σ k so).2.2 ++ Z_W cI ar (z_draws L k so).2) H locs) => ?_)
      refine lv_pop (pc := 1509) hx hb dL_law_1509 rfl ?_
      refine lv_aload (pc := 1510) hx hb dL_law_1510 (lv_at hl 16 rfl) ?_
      refine lv_bipush (pc := 1512) (v := 7) hx hb dL_law_1512 (by decide) ?_
      refine lv_dup2_11 (pc := 1514) hx hb dL_law_1514 rfl rfl ?_
      refine Z_ald (pc := 1515) (j := 4) (v := L.2 4 7) C K P rfl (vp_dec (by decide)) rfl dL_law_1515 ?_
      refine lv_iload (pc := 1516) hx hb dL_law_1516 (lv_at hl 2 rfl) ?_
      refine lv_isub (pc := 1518) hx hb dL_law_1518 ?_
      refine Z_ast (pc := 1519) (j := 4) (n := 16) (x := (L.2 4 7) - m1416) C K P (zj4 _) (vp_dec (by decide)) (zs4 _ _ _) dL_law_1519 (fun H locs (P : Hp D A s (G_W cI cO η (g_denature σ k so).2.2 ++ Z_W cI ar (bs (z_draws L k so).2 4 7 ((L.2 4 7) - m1416))) H locs) => ?_)
      refine lv_aload (pc := 1520) hx hb dL_law_1520 (lv_at hl 16 rfl) ?_
      refine lv_bipush (pc := 1522) (v := 12) hx hb dL_law_1522 (by decide) ?_
      refine lv_dup2_11 (pc := 1524) hx hb dL_law_1524 rfl rfl ?_
      refine Z_ald (pc := 1525) (j := 4) (v := L.2 4 12) C K P rfl (vp_dec (by decide)) rfl dL_law_1525 ?_
      refine lv_iload (pc := 1526) hx hb dL_law_1526 (lv_at hl 2 rfl) ?_
      refine lv_iadd (pc := 1528) hx hb dL_law_1528 ?_
      refine Z_ast (pc := 1529) (j := 4) (n := 16) (x := (L.2 4 12) + m1416) C K P (zj4 _) (vp_dec (by decide)) (zs4 _ _ _) dL_law_1529 (fun H locs (P : Hp D A s (G_W cI cO η (g_denature σ k so).2.2 ++ Z_W cI ar (bs (bs (z_draws L k so).2 4 7 ((L.2 4 7) - m1416)) 4 12 ((L.2 4 12) + m1416))) H locs) => ?_)
      refine lv_goto (pc := 1530) (tgt := 2755) hx hb dL_law_1530 (by decide) ?_
      exact W.widen (by omega) (by omega) (kk η ((g_denature σ k so).2.2) (bs (bs (z_draws L k so).2 4 7 ((L.2 4 7) - m1416)) 4 12 ((L.2 4 12) + m1416)) _ _ ls e1.2.1 hG hg P (by rw [e1.2.2.1, e1.2.2.2]; exact (lv_sub hl [0, 9, 10, 11, 12, 13, 14, 15, 16, 17, 18, 19, 20, 21, 22] rfl)))
  · refine lv_aload_n (pc := 1369) hx hb dL_law_1369 rfl (lv_at hl 19 rfl) ?_
    refine lv_iload (pc := 1370) hx hb dL_law_1370 (lv_at hl 5 rfl) ?_
    refine lv_iconst (pc := 1372) (v := 1) hx hb dL_law_1372 (by decide) ?_
    refine lv_ishr (pc := 1373) hx hb dL_law_1373 ?_
    refine lv_ldc (pc := 1374) (v := 3000000) hx hb hown (hts _ lc_158) dL_law_1374 ?_
    refine S_call (pc := 1376) (As := [.int (u >>> (1 &&& 31)), .int 3000000]) (rest := [.ref g0]) (r := z_low (u >>> (1 &&& 31)) 3000000) C hl.1 (kL_low l (u >>> (1 &&& 31)) 3000000 (by decide)) fnL_low gL_law_L_low rfl rfl ⟨Nat.le_trans (Nat.le_of_ble_eq_true rfl) hRf, Nat.le_trans (Nat.le_of_ble_eq_true rfl) hRl⟩ (Nat.le_of_ble_eq_true rfl) ⟨by omega, by omega⟩ dL_law_1376 ?_
    have e1 : an (g_permit σ (z_low (u >>> (1 &&& 31)) 3000000)) = (L.2 4 7) ∧ _ := p_permit hTI (low_n _ 3000000 3000000 (by decide) (by decide))
    refine T_callW (pc := 1379) (As0 := [.int (z_low (u >>> (1 &&& 31)) 3000000)]) (rest := []) (v := L.2 4 7) (τ := (g_permit σ (z_low (u >>> (1 &&& 31)) 3000000)).2.2) C V hEC K E9 hl.1 hg P (kL_permit l hl9 D cI cO t0 η σ (z_low (u >>> (1 &&& 31)) 3000000) hG (fun _ => gk_permit hG _)) fnL_permit ⟨e1.1, rfl⟩ gL_law_L_permit rfl rfl ⟨Nat.le_trans (Nat.le_of_ble_eq_true rfl) hRf, Nat.le_trans (Nat.le_of_ble_eq_true rfl) hRl⟩ (Nat.le_of_ble_eq_true rfl) ⟨by omega, by omega⟩ dL_law_1379 (fun η H locs (P : Hp D A s (G_W cI cO η (g_permit σ (z_low (u >>> (1 &&& 31)) 3000000)).2.2 ++ Z_W cI ar L) H locs) (hG : Gok t0 η (g_permit σ (z_low (u >>> (1 &&& 31)) 3000000)).2.2) hg => ?_)
    refine lv_aload (pc := 1382) hx hb dL_law_1382 (lv_at hl 14 rfl) ?_
    refine lv_bipush (pc := 1384) (v := 7) hx hb dL_law_1384 (by decide) ?_
    refine Z_ald (pc := 1386) (j := 4) (v := L.2 4 7) C K P rfl (vp_dec (by decide)) rfl dL_law_1386 ?_
    refine lv_icmp_ne (pc := 1387) (tgt := 1394) hx hb dL_law_1387 (by decide) (fun g => absurd rfl g) (fun _ => ?_)
    refine lv_iconst (pc := 1390) (v := 1) hx hb dL_law_1390 (by decide) ?_
    refine lv_goto (pc := 1391) (tgt := 1395) hx hb dL_law_1391 (by decide) ?_
    refine lv_istore (pc := 1395) (lv' := [(20, .int 1), (19, .int hv), (18, .int so), (17, .int o), (16, .int k), (15, .int u), (14, .int w), (13, .int (nI T)), (12, .int (σ.1 9)), (11, .int (σ.1 8)), (10, .ref (ar 8)), (9, .ref (ar 7)), (8, .ref (ar 6)), (7, .ref (ar 5)), (6, .ref (ar 4)), (5, .ref (ar 3)), (4, .ref (ar 2)), (3, .ref (ar 1)), (2, .ref (ar 0)), (1, .ref g0), (0, .ref b)]) hx hb dL_law_1395 hl (by decide) rfl (fun ls hl => ?_)
    refine lv_aload (pc := 1397) hx hb dL_law_1397 (lv_at hl 14 rfl) ?_
    refine lv_bipush (pc := 1399) (v := 7) hx hb dL_law_1399 (by decide) ?_
    refine lv_iload (pc := 1401) hx hb dL_law_1401 (lv_at hl 5 rfl) ?_
    refine lv_iconst (pc := 1403) (v := 1) hx hb dL_law_1403 (by decide) ?_
    refine lv_ishr (pc := 1404) hx hb dL_law_1404 ?_
    refine lv_ldc (pc := 1405) (v := 3000000) hx hb hown (hts _ lc_158) dL_law_1405 ?_
    refine S_call (pc := 1407) (As := [.int (u >>> (1 &&& 31)), .int 3000000]) (rest := [.int 7, .ref (ar 4)]) (r := z_low (u >>> (1 &&& 31)) 3000000) C hl.1 (kL_low l (u >>> (1 &&& 31)) 3000000 (by decide)) fnL_low gL_law_L_low rfl rfl ⟨Nat.le_trans (Nat.le_of_ble_eq_true rfl) hRf, Nat.le_trans (Nat.le_of_ble_eq_true rfl) hRl⟩ (Nat.le_of_ble_eq_true rfl) ⟨by omega, by omega⟩ dL_law_1407 ?_
    refine Z_ast (pc := 1410) (j := 4) (n := 16) (x := z_low (u >>> (1 &&& 31)) 3000000) C K P (zj4 _) (vp_dec (by decide)) (zs4 _ _ _) dL_law_1410 (fun H locs (P : Hp D A s (G_W cI cO η (g_permit σ (z_low (u >>> (1 &&& 31)) 3000000)).2.2 ++ Z_W cI ar (bs L 4 7 (z_low (u >>> (1 &&& 31)) 3000000))) H locs) => ?_)
    refine lv_goto (pc := 1411) (tgt := 2755) hx hb dL_law_1411 (by decide) ?_
    exact W.widen (by omega) (by omega) (kk η ((g_permit σ (z_low (u >>> (1 &&& 31)) 3000000)).2.2) (bs L 4 7 (z_low (u >>> (1 &&& 31)) 3000000)) _ _ ls e1.2.1 hG hg P (by rw [e1.2.2.1, e1.2.2.2]; exact (lv_sub hl [0, 7, 8, 9, 10, 11, 12, 13, 14, 15, 16, 17, 18, 19, 20] rfl)))
set_option maxHeartbeats 8000000 in
set_option maxRecDepth 100000 in
theorem law_pay (hl9 : l.stackTraces = false) (C : Cx RL p s m args meth c cL_law 62 wsL_law ret) (V : EnvV s) (hEC : EnvC s) (K : va_K D vwCl (tyG cI cO) s) (E9 : EnvH t0 A s s.heap) (hRf : 12 ≤ R.frames) (hRl : 452 ≤ R.locals) (hz : cells + 400 ≤ R.cells ∧ slots + 2400 ≤ R.slots) (hT : T < 120) (hTI : TI T σ L) (hG : Gok t0 η σ) (hg : e_ad η 0 = g0) (P : Hp D A s (G_W cI cO η σ ++ Z_W cI ar L) H locs) (hk : vp_in k 5) (ho : vp_in o 5) (hso : 1 ≤ so.toInt ∧ so.toInt ≤ 10002) (hhv : hv = if L.2 1 (ix k) < so then 0 else 1) (hl : lv_has ls 62 [(20, .int 1), (19, .int hv), (18, .int so), (17, .int o), (16, .int k), (15, .int u), (14, .int w), (13, .int (nI T)), (12, .int (σ.1 9)), (11, .int (σ.1 8)), (10, .ref (ar 8)), (9, .ref (ar 7)), (8, .ref (ar 6)), (7, .ref (ar 5)), (6, .ref (ar 4)), (5, .ref (ar 3)), (4, .ref (ar 2)), (3, .ref (ar 1)), (2, .ref (ar 0)), (1, .ref g0), (0, .ref b)]) (kk : ∀ (η : Eg) (σ L : Sg) (H : Heap) (locs : List Loc) (ls : Array Slot), TI (T + 1) σ L → Gok t0 η σ → e_ad η 0 = g0 → Hp D A s (G_W cI cO η σ ++ Z_W cI ar L) H locs → lv_has ls 62 [(20, .int 1), (13, .int (nI T)), (12, .int (σ.1 9)), (11, .int (σ.1 8)), (10, .ref (ar 8)), (9, .ref (ar 7)), (8, .ref (ar 6)), (7, .ref (ar 5)), (6, .ref (ar 4)), (5, .ref (ar 3)), (4, .ref (ar 2)), (3, .ref (ar 1)), (2, .ref (ar 0)), (1, .ref g0), (0, .ref b)] → W p l e R s m args below meth c H locs (cells + 12) (slots + 500) Q (F0 m 2755 ls [])) : W p l e R s m args below meth c H locs cells slots Q (F0 m 1753 ls []) := by
  have hx := C.1
  have hb := C.2.1
  have hown := C.2.2.2.1
  have hts := C.2.2.2.2.1
  refine lv_iconst (pc := 1753) (v := 1) hx hb dL_law_1753 (by decide) ?_
  refine lv_iload (pc := 1754) hx hb dL_law_1754 (lv_at hl 5 rfl) ?_
  refine lv_aload (pc := 1756) hx hb dL_law_1756 (lv_at hl 14 rfl) ?_
  refine lv_iconst (pc := 1758) (v := 2) hx hb dL_law_1758 (by decide) ?_
  refine Z_ald (pc := 1759) (j := 4) (v := L.2 4 2) C K P rfl (vp_dec (by decide)) rfl dL_law_1759 ?_
  refine lv_mergeI (M := 1773) (T := if (L.2 4 2) ≤ 0 then 5 else ((L.2 4 2) + 1)) (rest := [.int u, .int 1]) (fun hm => ?_) (fun (m1760 : Int32) (hm1760 : m1760 = (if (L.2 4 2) ≤ 0 then 5 else ((L.2 4 2) + 1) : Int32)) => ?_)
  · refine lv_if_le (pc := 1760) (tgt := 1772) hx hb dL_law_1760 (by decide) (fun (c1760 : (L.2 4 2) ≤ 0) => ?_) (fun (c1760 : ¬ (L.2 4 2) ≤ 0) => ?_)
    · refine lv_iconst (pc := 1772) (v := 5) hx hb dL_law_1772 (by decide) ?_
      exact hm _ (by rw [if_pos c1760])
    · refine lv_aload (pc := 1763) hx hb dL_law_1763 (lv_at hl 14 rfl) ?_
      refine lv_iconst (pc := 1765) (v := 2) hx hb dL_law_1765 (by decide) ?_
      refine Z_ald (pc := 1766) (j := 4) (v := L.2 4 2) C K P rfl (vp_dec (by decide)) rfl dL_law_1766 ?_
      refine lv_iconst (pc := 1767) (v := 1) hx hb dL_law_1767 (by decide) ?_
      refine lv_iadd (pc := 1768) hx hb dL_law_1768 ?_
      refine lv_goto (pc := 1769) (tgt := 1773) hx hb dL_law_1769 (by decide) ?_
      exact hm _ (by rw [if_neg c1760])
  refine S_call (pc := 1773) (As := [.int u, .int m1760]) (rest := [.int 1]) (r := z_low u m1760) C hl.1 (kL_low l u m1760 (pay_n hT hTI hm1760)) fnL_low gL_law_L_low rfl rfl ⟨Nat.le_trans (Nat.le_of_ble_eq_true rfl) hRf, Nat.le_trans (Nat.le_of_ble_eq_true rfl) hRl⟩ (Nat.le_of_ble_eq_true rfl) ⟨by omega, by omega⟩ dL_law_1773 ?_
  refine lv_iadd (pc := 1776) hx hb dL_law_1776 ?_
  refine lv_topi (fun (mon0 : Int32) (hmon0 : mon0 = (1 + (z_low u m1760) : Int32)) => ?_)
  refine lv_istore (pc := 1777) (lv' := [(41, .int mon0), (20, .int 1), (19, .int hv), (18, .int so), (17, .int o), (16, .int k), (15, .int u), (14, .int w), (13, .int (nI T)), (12, .int (σ.1 9)), (11, .int (σ.1 8)), (10, .ref (ar 8)), (9, .ref (ar 7)), (8, .ref (ar 6)), (7, .ref (ar 5)), (6, .ref (ar 4)), (5, .ref (ar 3)), (4, .ref (ar 2)), (3, .ref (ar 1)), (2, .ref (ar 0)), (1, .ref g0), (0, .ref b)]) hx hb dL_law_1777 hl (by decide) rfl (fun ls hl => ?_)
  refine lv_iload (pc := 1779) hx hb dL_law_1779 (lv_at hl 0 rfl) ?_
  refine lv_ldc (pc := 1781) (v := 999999) hx hb hown (hts _ lc_165) dL_law_1781 ?_
  refine lv_mergeI (M := 1793) (T := if mon0 ≤ 999999 then mon0 else 999999) (rest := []) (fun hm => ?_) (fun (m1783 : Int32) (hm1783 : m1783 = (if mon0 ≤ 999999 then mon0 else 999999 : Int32)) => ?_)
  · refine lv_icmp_le (pc := 1783) (tgt := 1791) hx hb dL_law_1783 (by decide) (fun (c1783 : mon0 ≤ 999999) => ?_) (fun (c1783 : ¬ mon0 ≤ 999999) => ?_)
    · refine lv_iload (pc := 1791) hx hb dL_law_1791 (lv_at hl 0 rfl) ?_
      exact hm _ (by rw [if_pos c1783])
    · refine lv_ldc (pc := 1786) (v := 999999) hx hb hown (hts _ lc_165) dL_law_1786 ?_
      refine lv_goto (pc := 1788) (tgt := 1793) hx hb dL_law_1788 (by decide) ?_
      exact hm _ (by rw [if_neg c1783])
  have hmb := pay_b hT hTI hm1760 hmon0 hm1783
  refine lv_istore (pc := 1793) (lv' := [(41, .int m1783), (20, .int 1), (19, .int hv), (18, .int so), (17, .int o), (16, .int k), (15, .int u), (14, .int w), (13, .int (nI T)), (12, .int (σ.1 9)), (11, .int (σ.1 8)), (10, .ref (ar 8)), (9, .ref (ar 7)), (8, .ref (ar 6)), (7, .ref (ar 5)), (6, .ref (ar 4)), (5, .ref (ar 3)), (4, .ref (ar 2)), (3, .ref (ar 1)), (2, .ref (ar 0)), (1, .ref g0), (0, .ref b)]) hx hb dL_law_1793 hl (by decide) rfl (fun ls hl => ?_)
  refine lv_iload (pc := 1795) hx hb dL_law_1795 (lv_at hl 0 rfl) ?_
  refine lv_aload (pc := 1797) hx hb dL_law_1797 (lv_at hl 15 rfl) ?_
  refine lv_iconst (pc := 1799) (v := 2) hx hb dL_law_1799 (by decide) ?_
  refine Z_ald (pc := 1800) (j := 4) (v := L.2 4 2) C K P rfl (vp_dec (by decide)) rfl dL_law_1800 ?_
  refine lv_mergeI (M := 1809) (T := if (L.2 4 2) < m1783 then 0 else 1) (rest := []) (fun hm => ?_) (fun (m1801 : Int32) (hm1801 : m1801 = (if (L.2 4 2) < m1783 then 0 else 1 : Int32)) => ?_)
  · refine lv_icmp_gt (pc := 1801) (tgt := 1808) hx hb dL_law_1801 (by decide) (fun (c1801 : (L.2 4 2) < m1783) => ?_) (fun (c1801 : ¬ (L.2 4 2) < m1783) => ?_)
    · refine lv_iconst (pc := 1808) (v := 0) hx hb dL_law_1808 (by decide) ?_
      exact hm _ (by rw [if_pos c1801])
    · refine lv_iconst (pc := 1804) (v := 1) hx hb dL_law_1804 (by decide) ?_
      refine lv_goto (pc := 1805) (tgt := 1809) hx hb dL_law_1805 (by decide) ?_
      exact hm _ (by rw [if_neg c1801])
  refine lv_istore (pc := 1809) (lv' := [(42, .int m1801), (41, .int m1783), (20, .int 1), (19, .int hv), (18, .int so), (17, .int o), (16, .int k), (15, .int u), (14, .int w), (13, .int (nI T)), (12, .int (σ.1 9)), (11, .int (σ.1 8)), (10, .ref (ar 8)), (9, .ref (ar 7)), (8, .ref (ar 6)), (7, .ref (ar 5)), (6, .ref (ar 4)), (5, .ref (ar 3)), (4, .ref (ar 2)), (3, .ref (ar 1)), (2, .ref (ar 0)), (1, .ref g0), (0, .ref b)]) hx hb dL_law_1809 hl (by decide) rfl (fun ls hl => ?_)
  refine lv_aload (pc := 1811) hx hb dL_law_1811 (lv_at hl 16 rfl) ?_
  refine lv_iconst (pc := 1813) (v := 2) hx hb dL_law_1813 (by decide) ?_
  refine lv_dup2_11 (pc := 1814) hx hb dL_law_1814 rfl rfl ?_
  refine Z_ald (pc := 1815) (j := 4) (v := L.2 4 2) C K P rfl (vp_dec (by decide)) rfl dL_law_1815 ?_
  refine lv_iload (pc := 1816) hx hb dL_law_1816 (lv_at hl 0 rfl) ?_
  refine lv_mergeI (M := 1827) (T := if m1801 = 0 then 0 else m1783) (rest := [.int (L.2 4 2), .int 2, .ref (ar 4)]) (fun hm => ?_) (fun (m1818 : Int32) (hm1818 : m1818 = (if m1801 = 0 then 0 else m1783 : Int32)) => ?_)
  · refine lv_if_eq (pc := 1818) (tgt := 1826) hx hb dL_law_1818 (by decide) (fun (c1818 : m1801 = 0) => ?_) (fun (c1818 : ¬ m1801 = 0) => ?_)
    · refine lv_iconst (pc := 1826) (v := 0) hx hb dL_law_1826 (by decide) ?_
      exact hm _ (by rw [if_pos c1818])
    · refine lv_iload (pc := 1821) hx hb dL_law_1821 (lv_at hl 1 rfl) ?_
      refine lv_goto (pc := 1823) (tgt := 1827) hx hb dL_law_1823 (by decide) ?_
      exact hm _ (by rw [if_neg c1818])
  refine lv_isub (pc := 1827) hx hb dL_law_1827 ?_
  refine Z_ast (pc := 1828) (j := 4) (n := 16) (x := (L.2 4 2) - m1818) C K P (zj4 _) (vp_dec (by decide)) (zs4 _ _ _) dL_law_1828 (fun H locs (P : Hp D A s (G_W cI cO η σ ++ Z_W cI ar (bs L 4 2 ((L.2 4 2) - m1818))) H locs) => ?_)
  refine lv_aload_n (pc := 1829) hx hb dL_law_1829 rfl (lv_at hl 21 rfl) ?_
  refine lv_iload (pc := 1830) hx hb dL_law_1830 (lv_at hl 1 rfl) ?_
  refine T_callW (pc := 1832) (As0 := [.int m1783]) (rest := []) (v := an (g_pay σ m1783)) (τ := (g_pay σ m1783).2.2) C V hEC K E9 hl.1 hg P (kL_pay l hl9 D cI cO t0 η σ m1783 hG (fun _ => gk_pay hG _)) fnL_pay ⟨rfl, rfl⟩ gL_law_L_pay rfl rfl ⟨Nat.le_trans (Nat.le_of_ble_eq_true rfl) hRf, Nat.le_trans (Nat.le_of_ble_eq_true rfl) hRl⟩ (Nat.le_of_ble_eq_true rfl) ⟨by omega, by omega⟩ dL_law_1832 (fun η H locs (P : Hp D A s (G_W cI cO η (g_pay σ m1783).2.2 ++ Z_W cI ar (bs L 4 2 ((L.2 4 2) - m1818))) H locs) (hG : Gok t0 η (g_pay σ m1783).2.2) hg => ?_)
  refine lv_iload (pc := 1835) hx hb dL_law_1835 (lv_at hl 0 rfl) ?_
  refine lv_if_eq (pc := 1837) (tgt := 1847) hx hb dL_law_1837 (by decide) (fun (c1837 : m1801 = 0) => ?_) (fun (c1837 : ¬ m1801 = 0) => ?_)
  · have e1 : an (g_pay σ m1783) = (-2000000003) ∧ _ := p_pay_no hTI hmb hm1801 hm1818 c1837
    refine lv_ldc (pc := 1847) (v := (-2000000003)) hx hb hown (hts _ lc_22) dL_law_1847 ?_
    refine lv_icmp_ne (pc := 1849) (tgt := 1856) hx hb dL_law_1849 (by decide) (fun g => absurd e1.1 g) (fun _ => ?_)
    refine lv_iconst (pc := 1852) (v := 1) hx hb dL_law_1852 (by decide) ?_
    refine lv_goto (pc := 1853) (tgt := 1857) hx hb dL_law_1853 (by decide) ?_
    refine lv_istore (pc := 1857) (lv' := [(20, .int 1), (42, .int m1801), (41, .int m1783), (19, .int hv), (18, .int so), (17, .int o), (16, .int k), (15, .int u), (14, .int w), (13, .int (nI T)), (12, .int (σ.1 9)), (11, .int (σ.1 8)), (10, .ref (ar 8)), (9, .ref (ar 7)), (8, .ref (ar 6)), (7, .ref (ar 5)), (6, .ref (ar 4)), (5, .ref (ar 3)), (4, .ref (ar 2)), (3, .ref (ar 1)), (2, .ref (ar 0)), (1, .ref g0), (0, .ref b)]) hx hb dL_law_1857 hl (by decide) rfl (fun ls hl => ?_)
    refine lv_goto (pc := 1859) (tgt := 2755) hx hb dL_law_1859 (by decide) ?_
    exact W.widen (by omega) (by omega) (kk η ((g_pay σ m1783).2.2) (bs L 4 2 ((L.2 4 2) - m1818)) _ _ ls e1.2.1 hG hg P (by rw [e1.2.2.1, e1.2.2.2]; exact (lv_sub hl [0, 9, 10, 11, 12, 13, 14, 15, 16, 17, 18, 19, 20, 21, 22] rfl)))
  · have e1 : an (g_pay σ m1783) = ((L.2 4 2) - m1818) ∧ _ := p_pay_yes hTI hmb hm1801 hm1818 c1837
    refine lv_aload (pc := 1840) hx hb dL_law_1840 (lv_at hl 16 rfl) ?_
    refine lv_iconst (pc := 1842) (v := 2) hx hb dL_law_1842 (by decide) ?_
    refine Z_ald (pc := 1843) (j := 4) (v := (L.2 4 2) - m1818) C K P rfl (vp_dec (by decide)) rfl dL_law_1843 ?_
    refine lv_goto (pc := 1844) (tgt := 1849) hx hb dL_law_1844 (by decide) ?_
    refine lv_icmp_ne (pc := 1849) (tgt := 1856) hx hb dL_law_1849 (by decide) (fun g => absurd e1.1 g) (fun _ => ?_)
    refine lv_iconst (pc := 1852) (v := 1) hx hb dL_law_1852 (by decide) ?_
    refine lv_goto (pc := 1853) (tgt := 1857) hx hb dL_law_1853 (by decide) ?_
    refine lv_istore (pc := 1857) (lv' := [(20, .int 1), (42, .int m1801), (41, .int m1783), (19, .int hv), (18, .int so), (17, .int o), (16, .int k), (15, .int u), (14, .int w), (13, .int (nI T)), (12, .int (σ.1 9)), (11, .int (σ.1 8)), (10, .ref (ar 8)), (9, .ref (ar 7)), (8, .ref (ar 6)), (7, .ref (ar 5)), (6, .ref (ar 4)), (5, .ref (ar 3)), (4, .ref (ar 2)), (3, .ref (ar 1)), (2, .ref (ar 0)), (1, .ref g0), (0, .ref b)]) hx hb dL_law_1857 hl (by decide) rfl (fun ls hl => ?_)
    refine lv_goto (pc := 1859) (tgt := 2755) hx hb dL_law_1859 (by decide) ?_
    exact W.widen (by omega) (by omega) (kk η ((g_pay σ m1783).2.2) (bs L 4 2 ((L.2 4 2) - m1818)) _ _ ls e1.2.1 hG hg P (by rw [e1.2.2.1, e1.2.2.2]; exact (lv_sub hl [0, 9, 10, 11, 12, 13, 14, 15, 16, 17, 18, 19, 20, 21, 22] rfl)))
set_option maxHeartbeats 8000000 in
set_option maxRecDepth 100000 in
theorem law_budget (hl9 : l.stackTraces = false) (C : Cx RL p s m args meth c cL_law 62 wsL_law ret) (V : EnvV s) (hEC : EnvC s) (K : va_K D vwCl (tyG cI cO) s) (E9 : EnvH t0 A s s.heap) (hRf : 12 ≤ R.frames) (hRl : 452 ≤ R.locals) (hz : cells + 400 ≤ R.cells ∧ slots + 2400 ≤ R.slots) (hT : T < 120) (hTI : TI T σ L) (hG : Gok t0 η σ) (hg : e_ad η 0 = g0) (P : Hp D A s (G_W cI cO η σ ++ Z_W cI ar L) H locs) (hk : vp_in k 5) (ho : vp_in o 5) (hso : 1 ≤ so.toInt ∧ so.toInt ≤ 10002) (hhv : hv = if L.2 1 (ix k) < so then 0 else 1) (hl : lv_has ls 62 [(20, .int 1), (19, .int hv), (18, .int so), (17, .int o), (16, .int k), (15, .int u), (14, .int w), (13, .int (nI T)), (12, .int (σ.1 9)), (11, .int (σ.1 8)), (10, .ref (ar 8)), (9, .ref (ar 7)), (8, .ref (ar 6)), (7, .ref (ar 5)), (6, .ref (ar 4)), (5, .ref (ar 3)), (4, .ref (ar 2)), (3, .ref (ar 1)), (2, .ref (ar 0)), (1, .ref g0), (0, .ref b)]) (kk : ∀ (η : Eg) (σ L : Sg) (H : Heap) (locs : List Loc) (ls : Array Slot), TI (T + 1) σ L → Gok t0 η σ → e_ad η 0 = g0 → Hp D A s (G_W cI cO η σ ++ Z_W cI ar L) H locs → lv_has ls 62 [(20, .int 1), (13, .int (nI T)), (12, .int (σ.1 9)), (11, .int (σ.1 8)), (10, .ref (ar 8)), (9, .ref (ar 7)), (8, .ref (ar 6)), (7, .ref (ar 5)), (6, .ref (ar 4)), (5, .ref (ar 3)), (4, .ref (ar 2)), (3, .ref (ar 1)), (2, .ref (ar 0)), (1, .ref g0), (0, .ref b)] → W p l e R s m args below meth c H locs (cells + 12) (slots + 500) Q (F0 m 2755 ls [])) : W p l e R s m args below meth c H locs cells slots Q (F0 m 1862 ls []) := by
  have hx := C.1
  have hb := C.2.1
  have hown := C.2.2.2.1
  have hts := C.2.2.2.2.1
  refine lv_aload (pc := 1862) hx hb dL_law_1862 (lv_at hl 14 rfl) ?_
  refine lv_iconst (pc := 1864) (v := 0) hx hb dL_law_1864 (by decide) ?_
  refine Z_ald (pc := 1865) (j := 4) (v := L.2 4 0) C K P rfl (vp_dec (by decide)) rfl dL_law_1865 ?_
  refine lv_sipush (pc := 1866) (v := 890) hx hb dL_law_1866 (by decide) ?_
  refine lv_icmp_le (pc := 1869) (tgt := 1875) hx hb dL_law_1869 (by decide) (fun (c1869 : (L.2 4 0) ≤ 890) => ?_) (fun (c1869 : ¬ (L.2 4 0) ≤ 890) => ?_)
  · refine lv_aload (pc := 1875) hx hb dL_law_1875 (lv_at hl 14 rfl) ?_
    refine lv_iconst (pc := 1877) (v := 0) hx hb dL_law_1877 (by decide) ?_
    refine Z_ald (pc := 1878) (j := 4) (v := L.2 4 0) C K P rfl (vp_dec (by decide)) rfl dL_law_1878 ?_
    refine lv_iconst (pc := 1879) (v := 1) hx hb dL_law_1879 (by decide) ?_
    refine lv_iadd (pc := 1880) hx hb dL_law_1880 ?_
    refine lv_iload (pc := 1881) hx hb dL_law_1881 (lv_at hl 5 rfl) ?_
    refine lv_bipush (pc := 1883) (v := 9) hx hb dL_law_1883 (by decide) ?_
    refine S_call (pc := 1885) (As := [.int u, .int 9]) (rest := [.int ((L.2 4 0) + 1)]) (r := z_low u 9) C hl.1 (kL_low l u 9 (by decide)) fnL_low gL_law_L_low rfl rfl ⟨Nat.le_trans (Nat.le_of_ble_eq_true rfl) hRf, Nat.le_trans (Nat.le_of_ble_eq_true rfl) hRl⟩ (Nat.le_of_ble_eq_true rfl) ⟨by omega, by omega⟩ dL_law_1885 ?_
    refine lv_iadd (pc := 1888) hx hb dL_law_1888 ?_
    refine lv_topi (fun (day : Int32) (hday : day = (((L.2 4 0) + 1) + (z_low u 9) : Int32)) => ?_)
    refine lv_istore (pc := 1889) (lv' := [(43, .int day), (20, .int 1), (19, .int hv), (18, .int so), (17, .int o), (16, .int k), (15, .int u), (14, .int w), (13, .int (nI T)), (12, .int (σ.1 9)), (11, .int (σ.1 8)), (10, .ref (ar 8)), (9, .ref (ar 7)), (8, .ref (ar 6)), (7, .ref (ar 5)), (6, .ref (ar 4)), (5, .ref (ar 3)), (4, .ref (ar 2)), (3, .ref (ar 1)), (2, .ref (ar 0)), (1, .ref g0), (0, .ref b)]) hx hb dL_law_1889 hl (by decide) rfl (fun ls hl => ?_)
    refine lv_iload (pc := 1891) hx hb dL_law_1891 (lv_at hl 6 rfl) ?_
    refine lv_iconst (pc := 1893) (v := 5) hx hb dL_law_1893 (by decide) ?_
    refine lv_ishr (pc := 1894) hx hb dL_law_1894 ?_
    refine lv_bipush (pc := 1895) (v := 100) hx hb dL_law_1895 (by decide) ?_
    refine S_call (pc := 1897) (As := [.int (u >>> (5 &&& 31)), .int 100]) (rest := []) (r := z_low (u >>> (5 &&& 31)) 100) C hl.1 (kL_low l (u >>> (5 &&& 31)) 100 (by decide)) fnL_low gL_law_L_low rfl rfl ⟨Nat.le_trans (Nat.le_of_ble_eq_true rfl) hRf, Nat.le_trans (Nat.le_of_ble_eq_true rfl) hRl⟩ (Nat.le_of_ble_eq_true rfl) ⟨by omega, by omega⟩ dL_law_1897 ?_
    refine lv_topi (fun (rate : Int32) (hrate : rate = (z_low (u >>> ((5 &&& 31) : Int32)) 100 : Int32)) => ?_)
    refine lv_istore (pc := 1900) (lv' := [(44, .int rate), (43, .int day), (20, .int 1), (19, .int hv), (18, .int so), (17, .int o), (16, .int k), (15, .int u), (14, .int w), (13, .int (nI T)), (12, .int (σ.1 9)), (11, .int (σ.1 8)), (10, .ref (ar 8)), (9, .ref (ar 7)), (8, .ref (ar 6)), (7, .ref (ar 5)), (6, .ref (ar 4)), (5, .ref (ar 3)), (4, .ref (ar 2)), (3, .ref (ar 1)), (2, .ref (ar 0)), (1, .ref g0), (0, .ref b)]) hx hb dL_law_1900 hl (by decide) rfl (fun ls hl => ?_)
    refine lv_iload (pc := 1902) hx hb dL_law_1902 (lv_at hl 7 rfl) ?_
    refine lv_bipush (pc := 1904) (v := 12) hx hb dL_law_1904 (by decide) ?_
    refine lv_ishr (pc := 1906) hx hb dL_law_1906 ?_
    refine lv_sipush (pc := 1907) (v := 1000) hx hb dL_law_1907 (by decide) ?_
    refine S_call (pc := 1910) (As := [.int (u >>> (12 &&& 31)), .int 1000]) (rest := []) (r := z_low (u >>> (12 &&& 31)) 1000) C hl.1 (kL_low l (u >>> (12 &&& 31)) 1000 (by decide)) fnL_low gL_law_L_low rfl rfl ⟨Nat.le_trans (Nat.le_of_ble_eq_true rfl) hRf, Nat.le_trans (Nat.le_of_ble_eq_true rfl) hRl⟩ (Nat.le_of_ble_eq_true rfl) ⟨by omega, by omega⟩ dL_law_1910 ?_
    refine lv_sipush (pc := 1913) (v := 1000) hx hb dL_law_1913 (by decide) ?_
    refine lv_imul (pc := 1916) hx hb dL_law_1916 ?_
    refine lv_topi (fun (quo : Int32) (hquo : quo = ((z_low (u >>> ((12 &&& 31) : Int32)) 1000) * 1000 : Int32)) => ?_)
    refine lv_istore (pc := 1917) (lv' := [(45, .int quo), (44, .int rate), (43, .int day), (20, .int 1), (19, .int hv), (18, .int so), (17, .int o), (16, .int k), (15, .int u), (14, .int w), (13, .int (nI T)), (12, .int (σ.1 9)), (11, .int (σ.1 8)), (10, .ref (ar 8)), (9, .ref (ar 7)), (8, .ref (ar 6)), (7, .ref (ar 5)), (6, .ref (ar 4)), (5, .ref (ar 3)), (4, .ref (ar 2)), (3, .ref (ar 1)), (2, .ref (ar 0)), (1, .ref g0), (0, .ref b)]) hx hb dL_law_1917 hl (by decide) rfl (fun ls hl => ?_)
    refine lv_aload_n (pc := 1919) hx hb dL_law_1919 rfl (lv_at hl 22 rfl) ?_
    refine lv_iload (pc := 1920) hx hb dL_law_1920 (lv_at hl 2 rfl) ?_
    refine lv_iload (pc := 1922) hx hb dL_law_1922 (lv_at hl 1 rfl) ?_
    refine lv_iload (pc := 1924) hx hb dL_law_1924 (lv_at hl 0 rfl) ?_
    refine T_callW (pc := 1926) (As0 := [.int day, .int rate, .int quo]) (rest := []) (v := an (g_budget σ day rate quo)) (τ := (g_budget σ day rate quo).2.2) C V hEC K E9 hl.1 hg P (kL_budget l hl9 D cI cO t0 η σ day rate quo hG (day_0 hTI)) fnL_budget ⟨rfl, rfl⟩ gL_law_L_budget rfl rfl ⟨Nat.le_trans (Nat.le_of_ble_eq_true rfl) hRf, Nat.le_trans (Nat.le_of_ble_eq_true rfl) hRl⟩ (Nat.le_of_ble_eq_true rfl) ⟨by omega, by omega⟩ dL_law_1926 (fun η H locs (P : Hp D A s (G_W cI cO η (g_budget σ day rate quo).2.2 ++ Z_W cI ar L) H locs) (hG : Gok t0 η (g_budget σ day rate quo).2.2) hg => ?_)
    refine lv_aload (pc := 1929) hx hb dL_law_1929 (lv_at hl 17 rfl) ?_
    refine lv_iconst (pc := 1931) (v := 3) hx hb dL_law_1931 (by decide) ?_
    refine Z_ald (pc := 1932) (j := 4) (v := L.2 4 3) C K P rfl (vp_dec (by decide)) rfl dL_law_1932 ?_
    refine lv_iconst (pc := 1933) (v := (-1)) hx hb dL_law_1933 (by decide) ?_
    refine lv_icmp_ne (pc := 1934) (tgt := 1941) hx hb dL_law_1934 (by decide) (fun (c1934 : ¬ (L.2 4 3) = (-1)) => ?_) (fun (c1934 : (L.2 4 3) = (-1)) => ?_)
    · have e1 : an (g_budget σ day rate quo) = (-2000000003) ∧ _ := p_bud_no hTI hday c1869 (by rw [hrate]; exact low_n _ 100 100 (by decide) (by decide)) (quo_b hquo) c1934
      refine lv_ldc (pc := 1941) (v := (-2000000003)) hx hb hown (hts _ lc_22) dL_law_1941 ?_
      refine lv_icmp_ne (pc := 1943) (tgt := 1950) hx hb dL_law_1943 (by decide) (fun g => absurd e1.1 g) (fun _ => ?_)
      refine lv_iconst (pc := 1946) (v := 1) hx hb dL_law_1946 (by decide) ?_
      refine lv_goto (pc := 1947) (tgt := 1951) hx hb dL_law_1947 (by decide) ?_
      refine lv_istore (pc := 1951) (lv' := [(20, .int 1), (45, .int quo), (44, .int rate), (43, .int day), (19, .int hv), (18, .int so), (17, .int o), (16, .int k), (15, .int u), (14, .int w), (13, .int (nI T)), (12, .int (σ.1 9)), (11, .int (σ.1 8)), (10, .ref (ar 8)), (9, .ref (ar 7)), (8, .ref (ar 6)), (7, .ref (ar 5)), (6, .ref (ar 4)), (5, .ref (ar 3)), (4, .ref (ar 2)), (3, .ref (ar 1)), (2, .ref (ar 0)), (1, .ref g0), (0, .ref b)]) hx hb dL_law_1951 hl (by decide) rfl (fun ls hl => ?_)
      refine lv_aload (pc := 1953) hx hb dL_law_1953 (lv_at hl 17 rfl) ?_
      refine lv_iconst (pc := 1955) (v := 3) hx hb dL_law_1955 (by decide) ?_
      refine Z_ald (pc := 1956) (j := 4) (v := L.2 4 3) C K P rfl (vp_dec (by decide)) rfl dL_law_1956 ?_
      refine lv_iconst (pc := 1957) (v := (-1)) hx hb dL_law_1957 (by decide) ?_
      refine lv_icmp_eq (pc := 1958) (tgt := 1964) hx hb dL_law_1958 (by decide) (fun g => absurd g c1934) (fun _ => ?_)
      refine lv_goto (pc := 1961) (tgt := 2755) hx hb dL_law_1961 (by decide) ?_
      exact W.widen (by omega) (by omega) (kk η ((g_budget σ day rate quo).2.2) L _ _ ls (by rw [e1.2]; exact ti_up hTI) hG hg P (by rw [e1.2]; exact (lv_sub hl [0, 10, 11, 12, 13, 14, 15, 16, 17, 18, 19, 20, 21, 22, 23] rfl)))
    · have e1 : an (g_budget σ day rate quo) = 0 ∧ _ := p_bud_yes hTI hday c1869 (by rw [hrate]; exact low_n _ 100 100 (by decide) (by decide)) (quo_b hquo) c1934
      refine lv_iconst (pc := 1937) (v := 0) hx hb dL_law_1937 (by decide) ?_
      refine lv_goto (pc := 1938) (tgt := 1943) hx hb dL_law_1938 (by decide) ?_
      refine lv_icmp_ne (pc := 1943) (tgt := 1950) hx hb dL_law_1943 (by decide) (fun g => absurd e1.1 g) (fun _ => ?_)
      refine lv_iconst (pc := 1946) (v := 1) hx hb dL_law_1946 (by decide) ?_
      refine lv_goto (pc := 1947) (tgt := 1951) hx hb dL_law_1947 (by decide) ?_
      refine lv_istore (pc := 1951) (lv' := [(20, .int 1), (45, .int quo), (44, .int rate), (43, .int day), (19, .int hv), (18, .int so), (17, .int o), (16, .int k), (15, .int u), (14, .int w), (13, .int (nI T)), (12, .int (σ.1 9)), (11, .int (σ.1 8)), (10, .ref (ar 8)), (9, .ref (ar 7)), (8, .ref (ar 6)), (7, .ref (ar 5)), (6, .ref (ar 4)), (5, .ref (ar 3)), (4, .ref (ar 2)), (3, .ref (ar 1)), (2, .ref (ar 0)), (1, .ref g0), (0, .ref b)]) hx hb dL_law_1951 hl (by decide) rfl (fun ls hl => ?_)
      refine lv_aload (pc := 1953) hx hb dL_law_1953 (lv_at hl 17 rfl) ?_
      refine lv_iconst (pc := 1955) (v := 3) hx hb dL_law_1955 (by decide) ?_
      refine Z_ald (pc := 1956) (j := 4) (v := L.2 4 3) C K P rfl (vp_dec (by decide)) rfl dL_law_1956 ?_
      refine lv_iconst (pc := 1957) (v := (-1)) hx hb dL_law_1957 (by decide) ?_
      refine lv_icmp_eq (pc := 1958) (tgt := 1964) hx hb dL_law_1958 (by decide) (fun _ => ?_) (fun g => absurd c1934 g)
      refine lv_aload (pc := 1964) hx hb dL_law_1964 (lv_at hl 17 rfl) ?_
      refine lv_iconst (pc := 1966) (v := 3) hx hb dL_law_1966 (by decide) ?_
      refine lv_iload (pc := 1967) hx hb dL_law_1967 (lv_at hl 3 rfl) ?_
      refine Z_ast (pc := 1969) (j := 4) (n := 16) (x := day) C K P (zj4 _) (vp_dec (by decide)) (zs4 _ _ _) dL_law_1969 (fun H locs (P : Hp D A s (G_W cI cO η (g_budget σ day rate quo).2.2 ++ Z_W cI ar (bs L 4 3 day)) H locs) => ?_)
      refine lv_aload (pc := 1970) hx hb dL_law_1970 (lv_at hl 17 rfl) ?_
      refine lv_iconst (pc := 1972) (v := 4) hx hb dL_law_1972 (by decide) ?_
      refine lv_iload (pc := 1973) hx hb dL_law_1973 (lv_at hl 2 rfl) ?_
      refine Z_ast (pc := 1975) (j := 4) (n := 16) (x := rate) C K P (zj4 _) (vp_dec (by decide)) (zs4 _ _ _) dL_law_1975 (fun H locs (P : Hp D A s (G_W cI cO η (g_budget σ day rate quo).2.2 ++ Z_W cI ar (bs (bs L 4 3 day) 4 4 rate)) H locs) => ?_)
      refine lv_aload (pc := 1976) hx hb dL_law_1976 (lv_at hl 17 rfl) ?_
      refine lv_iconst (pc := 1978) (v := 5) hx hb dL_law_1978 (by decide) ?_
      refine lv_iload (pc := 1979) hx hb dL_law_1979 (lv_at hl 1 rfl) ?_
      refine Z_ast (pc := 1981) (j := 4) (n := 16) (x := quo) C K P (zj4 _) (vp_dec (by decide)) (zs4 _ _ _) dL_law_1981 (fun H locs (P : Hp D A s (G_W cI cO η (g_budget σ day rate quo).2.2 ++ Z_W cI ar (bs (bs (bs L 4 3 day) 4 4 rate) 4 5 quo)) H locs) => ?_)
      refine lv_goto (pc := 1982) (tgt := 2755) hx hb dL_law_1982 (by decide) ?_
      exact W.widen (by omega) (by omega) (kk η ((g_budget σ day rate quo).2.2) (bs (bs (bs L 4 3 day) 4 4 rate) 4 5 quo) _ _ ls e1.2.1 hG hg P (by rw [e1.2.2.1, e1.2.2.2]; exact (lv_sub hl [0, 10, 11, 12, 13, 14, 15, 16, 17, 18, 19, 20, 21, 22, 23] rfl)))
  · refine lv_goto (pc := 1872) (tgt := 2755) hx hb dL_law_1872 (by decide) ?_
    exact W.widen (by omega) (by omega) (kk η σ L _ _ ls (ti_up hTI) hG hg P (lv_sub hl [0, 7, 8, 9, 10, 11, 12, 13, 14, 15, 16, 17, 18, 19, 20] rfl))
set_option maxHeartbeats 8000000 in
set_option maxRecDepth 100000 in
theorem law_guar (hl9 : l.stackTraces = false) (C : Cx RL p s m args meth c cL_law 62 wsL_law ret) (V : EnvV s) (hEC : EnvC s) (K : va_K D vwCl (tyG cI cO) s) (E9 : EnvH t0 A s s.heap) (hRf : 12 ≤ R.frames) (hRl : 452 ≤ R.locals) (hz : cells + 400 ≤ R.cells ∧ slots + 2400 ≤ R.slots) (hT : T < 120) (hTI : TI T σ L) (hG : Gok t0 η σ) (hg : e_ad η 0 = g0) (P : Hp D A s (G_W cI cO η σ ++ Z_W cI ar L) H locs) (hk : vp_in k 5) (ho : vp_in o 5) (hso : 1 ≤ so.toInt ∧ so.toInt ≤ 10002) (hhv : hv = if L.2 1 (ix k) < so then 0 else 1) (hl : lv_has ls 62 [(20, .int 1), (19, .int hv), (18, .int so), (17, .int o), (16, .int k), (15, .int u), (14, .int w), (13, .int (nI T)), (12, .int (σ.1 9)), (11, .int (σ.1 8)), (10, .ref (ar 8)), (9, .ref (ar 7)), (8, .ref (ar 6)), (7, .ref (ar 5)), (6, .ref (ar 4)), (5, .ref (ar 3)), (4, .ref (ar 2)), (3, .ref (ar 1)), (2, .ref (ar 0)), (1, .ref g0), (0, .ref b)]) (kk : ∀ (η : Eg) (σ L : Sg) (H : Heap) (locs : List Loc) (ls : Array Slot), TI (T + 1) σ L → Gok t0 η σ → e_ad η 0 = g0 → Hp D A s (G_W cI cO η σ ++ Z_W cI ar L) H locs → lv_has ls 62 [(20, .int 1), (13, .int (nI T)), (12, .int (σ.1 9)), (11, .int (σ.1 8)), (10, .ref (ar 8)), (9, .ref (ar 7)), (8, .ref (ar 6)), (7, .ref (ar 5)), (6, .ref (ar 4)), (5, .ref (ar 3)), (4, .ref (ar 2)), (3, .ref (ar 1)), (2, .ref (ar 0)), (1, .ref g0), (0, .ref b)] → W p l e R s m args below meth c H locs (cells + 12) (slots + 500) Q (F0 m 2755 ls [])) : W p l e R s m args below meth c H locs cells slots Q (F0 m 1985 ls []) := by
  have hx := C.1
  have hb := C.2.1
  have hown := C.2.2.2.1
  have hts := C.2.2.2.2.1
  refine lv_iload (pc := 1985) hx hb dL_law_1985 (lv_at hl 5 rfl) ?_
  refine lv_iconst (pc := 1987) (v := 1) hx hb dL_law_1987 (by decide) ?_
  refine lv_iand (pc := 1988) hx hb dL_law_1988 ?_
  refine lv_mergeI (M := 2006) (T := if (u &&& 1) = 0 then 9999999 else (z_low (u >>> (1 &&& 31)) 60000)) (rest := []) (fun hm => ?_) (fun (m1989 : Int32) (hm1989 : m1989 = (if (u &&& 1) = 0 then 9999999 else (z_low (u >>> ((1 &&& 31) : Int32)) 60000) : Int32)) => ?_)
  · refine lv_if_ne (pc := 1989) (tgt := 1997) hx hb dL_law_1989 (by decide) (fun (c1989 : ¬ (u &&& 1) = 0) => ?_) (fun (c1989 : (u &&& 1) = 0) => ?_)
    · refine lv_iload (pc := 1997) hx hb dL_law_1997 (lv_at hl 5 rfl) ?_
      refine lv_iconst (pc := 1999) (v := 1) hx hb dL_law_1999 (by decide) ?_
      refine lv_ishr (pc := 2000) hx hb dL_law_2000 ?_
      refine lv_ldc (pc := 2001) (v := 60000) hx hb hown (hts _ lc_171) dL_law_2001 ?_
      refine S_call (pc := 2003) (As := [.int (u >>> (1 &&& 31)), .int 60000]) (rest := []) (r := z_low (u >>> (1 &&& 31)) 60000) C hl.1 (kL_low l (u >>> (1 &&& 31)) 60000 (by decide)) fnL_low gL_law_L_low rfl rfl ⟨Nat.le_trans (Nat.le_of_ble_eq_true rfl) hRf, Nat.le_trans (Nat.le_of_ble_eq_true rfl) hRl⟩ (Nat.le_of_ble_eq_true rfl) ⟨by omega, by omega⟩ dL_law_2003 ?_
      exact hm _ (by rw [if_neg c1989])
    · refine lv_ldc (pc := 1992) (v := 9999999) hx hb hown (hts _ lc_170) dL_law_1992 ?_
      refine lv_goto (pc := 1994) (tgt := 2006) hx hb dL_law_1994 (by decide) ?_
      exact hm _ (by rw [if_pos c1989])
  refine lv_istore (pc := 2006) (lv' := [(46, .int m1989), (20, .int 1), (19, .int hv), (18, .int so), (17, .int o), (16, .int k), (15, .int u), (14, .int w), (13, .int (nI T)), (12, .int (σ.1 9)), (11, .int (σ.1 8)), (10, .ref (ar 8)), (9, .ref (ar 7)), (8, .ref (ar 6)), (7, .ref (ar 5)), (6, .ref (ar 4)), (5, .ref (ar 3)), (4, .ref (ar 2)), (3, .ref (ar 1)), (2, .ref (ar 0)), (1, .ref g0), (0, .ref b)]) hx hb dL_law_2006 hl (by decide) rfl (fun ls hl => ?_)
  refine lv_iload (pc := 2008) hx hb dL_law_2008 (lv_at hl 0 rfl) ?_
  refine lv_aload (pc := 2010) hx hb dL_law_2010 (lv_at hl 12 rfl) ?_
  refine lv_aload (pc := 2012) hx hb dL_law_2012 (lv_at hl 11 rfl) ?_
  refine lv_aload (pc := 2014) hx hb dL_law_2014 (lv_at hl 15 rfl) ?_
  refine Z_calli (pc := 2016) (As := [.ref (ar 7), .ref (ar 8), .ref (ar 4)]) (rest := [.int m1989]) C K P hl.1 (kL_moving l D cI ar L (cz10 hTI)) fnL_moving gL_law_L_moving rfl rfl ⟨Nat.le_trans (Nat.le_of_ble_eq_true rfl) hRf, Nat.le_trans (Nat.le_of_ble_eq_true rfl) hRl⟩ (Nat.le_of_ble_eq_true rfl) ⟨by omega, by omega⟩ dL_law_2016 (fun H locs (P : Hp D A s (G_W cI cO η σ ++ Z_W cI ar L) H locs) => ?_)
  refine lv_aload (pc := 2019) hx hb dL_law_2019 (lv_at hl 15 rfl) ?_
  refine lv_iconst (pc := 2021) (v := 1) hx hb dL_law_2021 (by decide) ?_
  refine Z_ald (pc := 2022) (j := 4) (v := L.2 4 1) C K P rfl (vp_dec (by decide)) rfl dL_law_2022 ?_
  refine lv_sipush (pc := 2023) (v := 1000) hx hb dL_law_2023 (by decide) ?_
  refine S_call (pc := 2026) (As := [.int ((z_moving L).1), .int (L.2 4 1), .int 1000]) (rest := [.int m1989]) (r := m_part ((z_moving L).1) (L.2 4 1) 1000) C hl.1 (kL_times l ((z_moving L).1) (L.2 4 1) 1000 (by decide)) fnL_times gL_law_L_times rfl rfl ⟨Nat.le_trans (Nat.le_of_ble_eq_true rfl) hRf, Nat.le_trans (Nat.le_of_ble_eq_true rfl) hRl⟩ (Nat.le_of_ble_eq_true rfl) ⟨by omega, by omega⟩ dL_law_2026 ?_
  refine lv_mergeI (M := 2037) (T := if m1989 < (m_part ((z_moving L).1) (L.2 4 1) 1000) then 0 else 1) (rest := []) (fun hm => ?_) (fun (m2029 : Int32) (hm2029 : m2029 = (if m1989 < (m_part ((z_moving L).1) (L.2 4 1) 1000) then 0 else 1 : Int32)) => ?_)
  · refine lv_icmp_lt (pc := 2029) (tgt := 2036) hx hb dL_law_2029 (by decide) (fun (c2029 : m1989 < (m_part ((z_moving L).1) (L.2 4 1) 1000)) => ?_) (fun (c2029 : ¬ m1989 < (m_part ((z_moving L).1) (L.2 4 1) 1000)) => ?_)
    · refine lv_iconst (pc := 2036) (v := 0) hx hb dL_law_2036 (by decide) ?_
      exact hm _ (by rw [if_pos c2029])
    · refine lv_iconst (pc := 2032) (v := 1) hx hb dL_law_2032 (by decide) ?_
      refine lv_goto (pc := 2033) (tgt := 2037) hx hb dL_law_2033 (by decide) ?_
      exact hm _ (by rw [if_neg c2029])
  refine lv_istore (pc := 2037) (lv' := [(47, .int m2029), (46, .int m1989), (20, .int 1), (19, .int hv), (18, .int so), (17, .int o), (16, .int k), (15, .int u), (14, .int w), (13, .int (nI T)), (12, .int (σ.1 9)), (11, .int (σ.1 8)), (10, .ref (ar 8)), (9, .ref (ar 7)), (8, .ref (ar 6)), (7, .ref (ar 5)), (6, .ref (ar 4)), (5, .ref (ar 3)), (4, .ref (ar 2)), (3, .ref (ar 1)), (2, .ref (ar 0)), (1, .ref g0), (0, .ref b)]) hx hb dL_law_2037 hl (by decide) rfl (fun ls hl => ?_)
  refine lv_aload_n (pc := 2039) hx hb dL_law_2039 rfl (lv_at hl 21 rfl) ?_
  refine lv_iload (pc := 2040) hx hb dL_law_2040 (lv_at hl 1 rfl) ?_
  refine T_callW (pc := 2042) (As0 := [.int m1989]) (rest := []) (v := an (g_guarantee σ m1989)) (τ := (g_guarantee σ m1989).2.2) C V hEC K E9 hl.1 hg P (kL_guarantee l hl9 D cI cO t0 η σ m1989 hG (fun _ => gk_guarantee hG _)) fnL_guarantee ⟨rfl, rfl⟩ gL_law_L_guarantee rfl rfl ⟨Nat.le_trans (Nat.le_of_ble_eq_true rfl) hRf, Nat.le_trans (Nat.le_of_ble_eq_true rfl) hRl⟩ (Nat.le_of_ble_eq_true rfl) ⟨by omega, by omega⟩ dL_law_2042 (fun η H locs (P : Hp D A s (G_W cI cO η (g_guarantee σ m1989).2.2 ++ Z_W cI ar L) H locs) (hG : Gok t0 η (g_guarantee σ m1989).2.2) hg => ?_)
  refine lv_iload (pc := 2045) hx hb dL_law_2045 (lv_at hl 0 rfl) ?_
  refine lv_if_eq (pc := 2047) (tgt := 2058) hx hb dL_law_2047 (by decide) (fun (c2047 : m2029 = 0) => ?_) (fun (c2047 : ¬ m2029 = 0) => ?_)
  · have e1 : an (g_guarantee σ m1989) = (-2000000003) ∧ _ := p_gua_no hTI (bail_b hm1989) hm2029 c2047 rfl
    refine lv_ldc (pc := 2058) (v := (-2000000003)) hx hb hown (hts _ lc_22) dL_law_2058 ?_
    refine lv_icmp_ne (pc := 2060) (tgt := 2067) hx hb dL_law_2060 (by decide) (fun g => absurd e1.1 g) (fun _ => ?_)
    refine lv_iconst (pc := 2063) (v := 1) hx hb dL_law_2063 (by decide) ?_
    refine lv_goto (pc := 2064) (tgt := 2068) hx hb dL_law_2064 (by decide) ?_
    refine lv_istore (pc := 2068) (lv' := [(20, .int 1), (47, .int m2029), (46, .int m1989), (19, .int hv), (18, .int so), (17, .int o), (16, .int k), (15, .int u), (14, .int w), (13, .int (nI T)), (12, .int (σ.1 9)), (11, .int (σ.1 8)), (10, .ref (ar 8)), (9, .ref (ar 7)), (8, .ref (ar 6)), (7, .ref (ar 5)), (6, .ref (ar 4)), (5, .ref (ar 3)), (4, .ref (ar 2)), (3, .ref (ar 1)), (2, .ref (ar 0)), (1, .ref g0), (0, .ref b)]) hx hb dL_law_2068 hl (by decide) rfl (fun ls hl => ?_)
    refine lv_aload (pc := 2070) hx hb dL_law_2070 (lv_at hl 16 rfl) ?_
    refine lv_bipush (pc := 2072) (v := 8) hx hb dL_law_2072 (by decide) ?_
    refine lv_iload (pc := 2074) hx hb dL_law_2074 (lv_at hl 1 rfl) ?_
    refine lv_if_eq (pc := 2076) (tgt := 2084) hx hb dL_law_2076 (by decide) (fun _ => ?_) (fun g => absurd c2047 g)
    refine lv_aload (pc := 2084) hx hb dL_law_2084 (lv_at hl 16 rfl) ?_
    refine lv_bipush (pc := 2086) (v := 8) hx hb dL_law_2086 (by decide) ?_
    refine Z_ald (pc := 2088) (j := 4) (v := L.2 4 8) C K P rfl (vp_dec (by decide)) rfl dL_law_2088 ?_
    refine Z_ast (pc := 2089) (j := 4) (n := 16) (x := L.2 4 8) C K P (zj4 _) (vp_dec (by decide)) (zs4 _ _ _) dL_law_2089 (fun H locs (P : Hp D A s (G_W cI cO η (g_guarantee σ m1989).2.2 ++ Z_W cI ar (bs L 4 8 (L.2 4 8))) H locs) => ?_)
    refine lv_goto (pc := 2090) (tgt := 2755) hx hb dL_law_2090 (by decide) ?_
    exact W.widen (by omega) (by omega) (kk η ((g_guarantee σ m1989).2.2) (bs L 4 8 (L.2 4 8)) _ _ ls e1.2.1 hG hg P (by rw [e1.2.2.1, e1.2.2.2]; exact (lv_sub hl [0, 9, 10, 11, 12, 13, 14, 15, 16, 17, 18, 19, 20, 21, 22] rfl)))
  · have e1 : an (g_guarantee σ m1989) = (L.2 4 8) ∧ _ := p_gua_yes hTI (bail_b hm1989) hm2029 c2047 rfl
    refine lv_aload (pc := 2050) hx hb dL_law_2050 (lv_at hl 16 rfl) ?_
    refine lv_bipush (pc := 2052) (v := 8) hx hb dL_law_2052 (by decide) ?_
    refine Z_ald (pc := 2054) (j := 4) (v := L.2 4 8) C K P rfl (vp_dec (by decide)) rfl dL_law_2054 ?_
    refine lv_goto (pc := 2055) (tgt := 2060) hx hb dL_law_2055 (by decide) ?_
    refine lv_icmp_ne (pc := 2060) (tgt := 2067) hx hb dL_law_2060 (by decide) (fun g => absurd e1.1 g) (fun _ => ?_)
    refine lv_iconst (pc := 2063) (v := 1) hx hb dL_law_2063 (by decide) ?_
    refine lv_goto (pc := 2064) (tgt := 2068) hx hb dL_law_2064 (by decide) ?_
    refine lv_istore (pc := 2068) (lv' := [(20, .int 1), (47, .int m2029), (46, .int m1989), (19, .int hv), (18, .int so), (17, .int o), (16, .int k), (15, .int u), (14, .int w), (13, .int (nI T)), (12, .int (σ.1 9)), (11, .int (σ.1 8)), (10, .ref (ar 8)), (9, .ref (ar 7)), (8, .ref (ar 6)), (7, .ref (ar 5)), (6, .ref (ar 4)), (5, .ref (ar 3)), (4, .ref (ar 2)), (3, .ref (ar 1)), (2, .ref (ar 0)), (1, .ref g0), (0, .ref b)]) hx hb dL_law_2068 hl (by decide) rfl (fun ls hl => ?_)
    refine lv_aload (pc := 2070) hx hb dL_law_2070 (lv_at hl 16 rfl) ?_
    refine lv_bipush (pc := 2072) (v := 8) hx hb dL_law_2072 (by decide) ?_
    refine lv_iload (pc := 2074) hx hb dL_law_2074 (lv_at hl 1 rfl) ?_
    refine lv_if_eq (pc := 2076) (tgt := 2084) hx hb dL_law_2076 (by decide) (fun g => absurd g c2047) (fun _ => ?_)
    refine lv_iload (pc := 2079) hx hb dL_law_2079 (lv_at hl 2 rfl) ?_
    refine lv_goto (pc := 2081) (tgt := 2089) hx hb dL_law_2081 (by decide) ?_
    refine Z_ast (pc := 2089) (j := 4) (n := 16) (x := m1989) C K P (zj4 _) (vp_dec (by decide)) (zs4 _ _ _) dL_law_2089 (fun H locs (P : Hp D A s (G_W cI cO η (g_guarantee σ m1989).2.2 ++ Z_W cI ar (bs L 4 8 m1989)) H locs) => ?_)
    refine lv_goto (pc := 2090) (tgt := 2755) hx hb dL_law_2090 (by decide) ?_
    exact W.widen (by omega) (by omega) (kk η ((g_guarantee σ m1989).2.2) (bs L 4 8 m1989) _ _ ls e1.2.1 hG hg P (by rw [e1.2.2.1, e1.2.2.2]; exact (lv_sub hl [0, 9, 10, 11, 12, 13, 14, 15, 16, 17, 18, 19, 20, 21, 22] rfl)))
end LC3
