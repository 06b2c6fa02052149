section LC5
variable {p : Program} {l : Launch} {e : Env} {R : Room} {s : State} {m : MethodId} {args : Array Value} {below : List Frame} {meth : Method} {c : Code} {H : Heap} {locs : List Loc} {cells slots : Nat} {Q : State → Prop} {ls : Array Slot} {D : va_G} {A : Nat → Prop} {ret : Option FieldType} {cI cO : ClassId} {t0 : Nat} {η : Eg} {σ L : Sg} {ar : Nat → Nat} {g0 b T : Nat} {k o so hv u w : Int32}
set_option maxHeartbeats 8000000 in
set_option maxRecDepth 100000 in
theorem law_arrive (hl9 : l.stackTraces = false) (C : Cx RL p s m args meth c cL_law 62 wsL_law ret) (V : EnvV s) (hEC : EnvC s) (K : va_K D vwCl (tyG cI cO) s) (E9 : EnvH t0 A s s.heap) (hRf : 12 ≤ R.frames) (hRl : 452 ≤ R.locals) (hz : cells + 400 ≤ R.cells ∧ slots + 2400 ≤ R.slots) (hT : T < 120) (hTI : TI T σ L) (hG : Gok t0 η σ) (hg : e_ad η 0 = g0) (P : Hp D A s (G_W cI cO η σ ++ Z_W cI ar L) H locs) (hk : vp_in k 5) (ho : vp_in o 5) (hso : 1 ≤ so.toInt ∧ so.toInt ≤ 10002) (hhv : hv = if L.2 1 (ix k) < so then 0 else 1) (hl : lv_has ls 62 [(20, .int 1), (19, .int hv), (18, .int so), (17, .int o), (16, .int k), (15, .int u), (14, .int w), (13, .int (nI T)), (12, .int (σ.1 9)), (11, .int (σ.1 8)), (10, .ref (ar 8)), (9, .ref (ar 7)), (8, .ref (ar 6)), (7, .ref (ar 5)), (6, .ref (ar 4)), (5, .ref (ar 3)), (4, .ref (ar 2)), (3, .ref (ar 1)), (2, .ref (ar 0)), (1, .ref g0), (0, .ref b)]) (kk : ∀ (η : Eg) (σ L : Sg) (H : Heap) (locs : List Loc) (ls : Array Slot), TI (T + 1) σ L → Gok t0 η σ → e_ad η 0 = g0 → Hp D A s (G_W cI cO η σ ++ Z_W cI ar L) H locs → lv_has ls 62 [(20, .int 1), (13, .int (nI T)), (12, .int (σ.1 9)), (11, .int (σ.1 8)), (10, .ref (ar 8)), (9, .ref (ar 7)), (8, .ref (ar 6)), (7, .ref (ar 5)), (6, .ref (ar 4)), (5, .ref (ar 3)), (4, .ref (ar 2)), (3, .ref (ar 1)), (2, .ref (ar 0)), (1, .ref g0), (0, .ref b)] → W p l e R s m args below meth c H locs (cells + 12) (slots + 500) Q (F0 m 2755 ls [])) : W p l e R s m args below meth c H locs cells slots Q (F0 m 2299 ls []) := by
  have hx := C.1
  have hb := C.2.1
  have hown := C.2.2.2.1
  have hts := C.2.2.2.2.1
  refine lv_aload (pc := 2299) hx hb dL_law_2299 (lv_at hl 14 rfl) ?_
  refine lv_bipush (pc := 2301) (v := 10) hx hb dL_law_2301 (by decide) ?_
  refine Z_ald (pc := 2303) (j := 4) (v := L.2 4 10) C K P rfl (vp_dec (by decide)) rfl dL_law_2303 ?_
  refine lv_if_ne (pc := 2304) (tgt := 2310) hx hb dL_law_2304 (by decide) (fun (c2304 : ¬ (L.2 4 10) = 0) => ?_) (fun (c2304 : (L.2 4 10) = 0) => ?_)
  · refine lv_aload (pc := 2310) hx hb dL_law_2310 (lv_at hl 14 rfl) ?_
    refine lv_bipush (pc := 2312) (v := 10) hx hb dL_law_2312 (by decide) ?_
    refine Z_ald (pc := 2314) (j := 4) (v := L.2 4 10) C K P rfl (vp_dec (by decide)) rfl dL_law_2314 ?_
    refine lv_iconst (pc := 2315) (v := 1) hx hb dL_law_2315 (by decide) ?_
    refine lv_isub (pc := 2316) hx hb dL_law_2316 ?_
    refine lv_iload (pc := 2317) hx hb dL_law_2317 (lv_at hl 5 rfl) ?_
    refine lv_aload (pc := 2319) hx hb dL_law_2319 (lv_at hl 14 rfl) ?_
    refine lv_bipush (pc := 2321) (v := 10) hx hb dL_law_2321 (by decide) ?_
    refine Z_ald (pc := 2323) (j := 4) (v := L.2 4 10) C K P rfl (vp_dec (by decide)) rfl dL_law_2323 ?_
    refine lv_iconst (pc := 2324) (v := 3) hx hb dL_law_2324 (by decide) ?_
    refine lv_mergeI (M := 2337) (T := if 3 ≤ (L.2 4 10) then 3 else (L.2 4 10)) (rest := [.int u, .int ((L.2 4 10) - 1)]) (fun hm => ?_) (fun (m2325 : Int32) (hm2325 : m2325 = (if 3 ≤ (L.2 4 10) then 3 else (L.2 4 10) : Int32)) => ?_)
    · refine lv_icmp_ge (pc := 2325) (tgt := 2336) hx hb dL_law_2325 (by decide) (fun (c2325 : 3 ≤ (L.2 4 10)) => ?_) (fun (c2325 : ¬ 3 ≤ (L.2 4 10)) => ?_)
      · refine lv_iconst (pc := 2336) (v := 3) hx hb dL_law_2336 (by decide) ?_
        exact hm _ (by rw [if_pos c2325])
      · refine lv_aload (pc := 2328) hx hb dL_law_2328 (lv_at hl 14 rfl) ?_
        refine lv_bipush (pc := 2330) (v := 10) hx hb dL_law_2330 (by decide) ?_
        refine Z_ald (pc := 2332) (j := 4) (v := L.2 4 10) C K P rfl (vp_dec (by decide)) rfl dL_law_2332 ?_
        refine lv_goto (pc := 2333) (tgt := 2337) hx hb dL_law_2333 (by decide) ?_
        exact hm _ (by rw [if_neg c2325])
    refine S_call (pc := 2337) (As := [.int u, .int m2325]) (rest := [.int ((L.2 4 10) - 1)]) (r := z_low u m2325) C hl.1 (kL_low l u m2325 (wh_b (u := u) hTI c2304 hm2325 rfl).1) fnL_low gL_law_L_low rfl rfl ⟨Nat.le_trans (Nat.le_of_ble_eq_true rfl) hRf, Nat.le_trans (Nat.le_of_ble_eq_true rfl) hRl⟩ (Nat.le_of_ble_eq_true rfl) ⟨by omega, by omega⟩ dL_law_2337 ?_
    refine lv_isub (pc := 2340) hx hb dL_law_2340 ?_
    refine lv_topi (fun (wh : Int32) (hwh : wh = (((L.2 4 10) - 1) - (z_low u m2325) : Int32)) => ?_)
    obtain ⟨-, hw30, hwi, hw0⟩ := wh_b hTI c2304 hm2325 hwh
    obtain ⟨b1, b2, b3, b4, b5, b6, b7, b8, b9⟩ := arr_b hTI hwi
    refine lv_istore (pc := 2341) (lv' := [(51, .int wh), (20, .int 1), (19, .int hv), (18, .int so), (17, .int o), (16, .int k), (15, .int u), (14, .int w), (13, .int (nI T)), (12, .int (σ.1 9)), (11, .int (σ.1 8)), (10, .ref (ar 8)), (9, .ref (ar 7)), (8, .ref (ar 6)), (7, .ref (ar 5)), (6, .ref (ar 4)), (5, .ref (ar 3)), (4, .ref (ar 2)), (3, .ref (ar 1)), (2, .ref (ar 0)), (1, .ref g0), (0, .ref b)]) hx hb dL_law_2341 hl (by decide) rfl (fun ls hl => ?_)
    refine lv_aload (pc := 2343) hx hb dL_law_2343 (lv_at hl 12 rfl) ?_
    refine lv_iload (pc := 2345) hx hb dL_law_2345 (lv_at hl 0 rfl) ?_
    refine Z_ald (pc := 2347) (j := 7) (v := L.2 7 (ix wh)) C K P rfl hw30 rfl dL_law_2347 ?_
    refine lv_iconst (pc := 2348) (v := 3) hx hb dL_law_2348 (by decide) ?_
    refine lv_ishr (pc := 2349) hx hb dL_law_2349 ?_
    refine lv_sipush (pc := 2350) (v := 16383) hx hb dL_law_2350 (by decide) ?_
    refine lv_iand (pc := 2353) hx hb dL_law_2353 ?_
    refine lv_topi (fun (went : Int32) (hwent : went = (((L.2 7 (ix wh)) >>> ((3 &&& 31) : Int32)) &&& 16383 : Int32)) => ?_)
    have hwe : went = σ.2 25 (ix wh) := hwent.trans b2
    have hwb : 1 ≤ went.toInt ∧ went.toInt ≤ 9999 := by rw [hwe]; exact ⟨b6, b7⟩
    refine lv_istore (pc := 2354) (lv' := [(52, .int went), (51, .int wh), (20, .int 1), (19, .int hv), (18, .int so), (17, .int o), (16, .int k), (15, .int u), (14, .int w), (13, .int (nI T)), (12, .int (σ.1 9)), (11, .int (σ.1 8)), (10, .ref (ar 8)), (9, .ref (ar 7)), (8, .ref (ar 6)), (7, .ref (ar 5)), (6, .ref (ar 4)), (5, .ref (ar 3)), (4, .ref (ar 2)), (3, .ref (ar 1)), (2, .ref (ar 0)), (1, .ref g0), (0, .ref b)]) hx hb dL_law_2354 hl (by decide) rfl (fun ls hl => ?_)
    refine lv_iload (pc := 2356) hx hb dL_law_2356 (lv_at hl 8 rfl) ?_
    refine lv_sipush (pc := 2358) (v := 16384) hx hb dL_law_2358 (by decide) ?_
    refine lv_iand (pc := 2361) hx hb dL_law_2361 ?_
    refine lv_mergeI (M := 2399) (T := if (w &&& 16384) = 0 then (went - ((z_low (u >>> (3 &&& 31)) (went + 1)) / 100)) else (went - (z_low (u >>> (3 &&& 31)) (went + 1)))) (rest := []) (fun hm => ?_) (fun (m2362 : Int32) (hm2362 : m2362 = (if (w &&& 16384) = 0 then (went - ((z_low (u >>> ((3 &&& 31) : Int32)) (went + 1)) / 100)) else (went - (z_low (u >>> ((3 &&& 31) : Int32)) (went + 1))) : Int32)) => ?_)
    · refine lv_if_ne (pc := 2362) (tgt := 2385) hx hb dL_law_2362 (by decide) (fun (c2362 : ¬ (w &&& 16384) = 0) => ?_) (fun (c2362 : (w &&& 16384) = 0) => ?_)
      · refine lv_iload (pc := 2385) hx hb dL_law_2385 (lv_at hl 0 rfl) ?_
        refine lv_iload (pc := 2387) hx hb dL_law_2387 (lv_at hl 7 rfl) ?_
        refine lv_iconst (pc := 2389) (v := 3) hx hb dL_law_2389 (by decide) ?_
        refine lv_ishr (pc := 2390) hx hb dL_law_2390 ?_
        refine lv_iload (pc := 2391) hx hb dL_law_2391 (lv_at hl 0 rfl) ?_
        refine lv_iconst (pc := 2393) (v := 1) hx hb dL_law_2393 (by decide) ?_
        refine lv_iadd (pc := 2394) hx hb dL_law_2394 ?_
        refine S_call (pc := 2395) (As := [.int (u >>> (3 &&& 31)), .int (went + 1)]) (rest := [.int went]) (r := z_low (u >>> (3 &&& 31)) (went + 1)) C hl.1 (kL_low l (u >>> (3 &&& 31)) (went + 1) (ne_s hwb)) fnL_low gL_law_L_low rfl rfl ⟨Nat.le_trans (Nat.le_of_ble_eq_true rfl) hRf, Nat.le_trans (Nat.le_of_ble_eq_true rfl) hRl⟩ (Nat.le_of_ble_eq_true rfl) ⟨by omega, by omega⟩ dL_law_2395 ?_
        refine lv_isub (pc := 2398) hx hb dL_law_2398 ?_
        exact hm _ (by rw [if_neg c2362])
      · refine lv_iload (pc := 2365) hx hb dL_law_2365 (lv_at hl 0 rfl) ?_
        refine lv_iload (pc := 2367) hx hb dL_law_2367 (lv_at hl 7 rfl) ?_
        refine lv_iconst (pc := 2369) (v := 3) hx hb dL_law_2369 (by decide) ?_
        refine lv_ishr (pc := 2370) hx hb dL_law_2370 ?_
        refine lv_iload (pc := 2371) hx hb dL_law_2371 (lv_at hl 0 rfl) ?_
        refine lv_iconst (pc := 2373) (v := 1) hx hb dL_law_2373 (by decide) ?_
        refine lv_iadd (pc := 2374) hx hb dL_law_2374 ?_
        refine S_call (pc := 2375) (As := [.int (u >>> (3 &&& 31)), .int (went + 1)]) (rest := [.int went]) (r := z_low (u >>> (3 &&& 31)) (went + 1)) C hl.1 (kL_low l (u >>> (3 &&& 31)) (went + 1) (ne_s hwb)) fnL_low gL_law_L_low rfl rfl ⟨Nat.le_trans (Nat.le_of_ble_eq_true rfl) hRf, Nat.le_trans (Nat.le_of_ble_eq_true rfl) hRl⟩ (Nat.le_of_ble_eq_true rfl) ⟨by omega, by omega⟩ dL_law_2375 ?_
        refine lv_bipush (pc := 2378) (v := 100) hx hb dL_law_2378 (by decide) ?_
        refine lv_idiv (pc := 2380) hx hb dL_law_2380 (by decide) ?_
        refine lv_isub (pc := 2381) hx hb dL_law_2381 ?_
        refine lv_goto (pc := 2382) (tgt := 2399) hx hb dL_law_2382 (by decide) ?_
        exact hm _ (by rw [if_pos c2362])
    have hco0 := com_b hwb hm2362
    have hco : 0 ≤ m2362.toInt ∧ m2362.toInt ≤ (σ.2 25 (ix wh)).toInt := by rw [← hwe]; exact hco0
    refine lv_istore (pc := 2399) (lv' := [(53, .int m2362), (52, .int went), (51, .int wh), (20, .int 1), (19, .int hv), (18, .int so), (17, .int o), (16, .int k), (15, .int u), (14, .int w), (13, .int (nI T)), (12, .int (σ.1 9)), (11, .int (σ.1 8)), (10, .ref (ar 8)), (9, .ref (ar 7)), (8, .ref (ar 6)), (7, .ref (ar 5)), (6, .ref (ar 4)), (5, .ref (ar 3)), (4, .ref (ar 2)), (3, .ref (ar 1)), (2, .ref (ar 0)), (1, .ref g0), (0, .ref b)]) hx hb dL_law_2399 hl (by decide) rfl (fun ls hl => ?_)
    refine lv_aload (pc := 2401) hx hb dL_law_2401 (lv_at hl 14 rfl) ?_
    refine lv_iload (pc := 2403) hx hb dL_law_2403 (lv_at hl 2 rfl) ?_
    refine Z_ald (pc := 2405) (j := 7) (v := L.2 7 (ix wh)) C K P rfl hw30 rfl dL_law_2405 ?_
    refine lv_bipush (pc := 2406) (v := 7) hx hb dL_law_2406 (by decide) ?_
    refine lv_iand (pc := 2408) hx hb dL_law_2408 ?_
    refine lv_topi (fun (to : Int32) (hto : to = ((L.2 7 (ix wh)) &&& 7 : Int32)) => ?_)
    have hto3 : σ.2 24 (ix wh) = to := (hto.trans b1).symm
    refine lv_istore (pc := 2409) (lv' := [(54, .int to), (53, .int m2362), (52, .int went), (51, .int wh), (20, .int 1), (19, .int hv), (18, .int so), (17, .int o), (16, .int k), (15, .int u), (14, .int w), (13, .int (nI T)), (12, .int (σ.1 9)), (11, .int (σ.1 8)), (10, .ref (ar 8)), (9, .ref (ar 7)), (8, .ref (ar 6)), (7, .ref (ar 5)), (6, .ref (ar 4)), (5, .ref (ar 3)), (4, .ref (ar 2)), (3, .ref (ar 1)), (2, .ref (ar 0)), (1, .ref g0), (0, .ref b)]) hx hb dL_law_2409 hl (by decide) rfl (fun ls hl => ?_)
    refine lv_aload (pc := 2411) hx hb dL_law_2411 (lv_at hl 15 rfl) ?_
    refine lv_iload (pc := 2413) hx hb dL_law_2413 (lv_at hl 3 rfl) ?_
    refine Z_ald (pc := 2415) (j := 7) (v := L.2 7 (ix wh)) C K P rfl hw30 rfl dL_law_2415 ?_
    refine lv_bipush (pc := 2416) (v := 17) hx hb dL_law_2416 (by decide) ?_
    refine lv_ishr (pc := 2418) hx hb dL_law_2418 ?_
    refine lv_bipush (pc := 2419) (v := 7) hx hb dL_law_2419 (by decide) ?_
    refine lv_iand (pc := 2421) hx hb dL_law_2421 ?_
    refine lv_mergeI (M := 2444) (T := if (((L.2 7 (ix wh)) >>> (17 &&& 31)) &&& 7) = 0 then (if (L.2 0 (ix to)) < ((L.2 1 (ix to)) + m2362) then 0 else 1) else 0) (rest := []) (fun hm => ?_) (fun (m2422 : Int32) (hm2422 : m2422 = (if (((L.2 7 (ix wh)) >>> ((17 &&& 31) : Int32)) &&& 7) = 0 then (if (L.2 0 (ix to)) < ((L.2 1 (ix to)) + m2362) then 0 else 1) else 0 : Int32)) => ?_)
    · refine lv_if_ne (pc := 2422) (tgt := 2443) hx hb dL_law_2422 (by decide) (fun (c2422 : ¬ (((L.2 7 (ix wh)) >>> (17 &&& 31)) &&& 7) = 0) => ?_) (fun (c2422 : (((L.2 7 (ix wh)) >>> (17 &&& 31)) &&& 7) = 0) => ?_)
      · refine lv_iconst (pc := 2443) (v := 0) hx hb dL_law_2443 (by decide) ?_
        exact hm _ (by rw [if_neg c2422])
      · refine lv_aload_n (pc := 2425) hx hb dL_law_2425 rfl (lv_at hl 21 rfl) ?_
        refine lv_iload (pc := 2426) hx hb dL_law_2426 (lv_at hl 0 rfl) ?_
        refine Z_ald (pc := 2428) (j := 1) (v := L.2 1 (ix to)) C K P rfl (hto3 ▸ b5) rfl dL_law_2428 ?_
        refine lv_iload (pc := 2429) hx hb dL_law_2429 (lv_at hl 1 rfl) ?_
        refine lv_iadd (pc := 2431) hx hb dL_law_2431 ?_
        refine lv_aload_n (pc := 2432) hx hb dL_law_2432 rfl (lv_at hl 22 rfl) ?_
        refine lv_iload (pc := 2433) hx hb dL_law_2433 (lv_at hl 0 rfl) ?_
        refine Z_ald (pc := 2435) (j := 0) (v := L.2 0 (ix to)) C K P rfl (hto3 ▸ b5) rfl dL_law_2435 ?_
        refine lv_icmp_gt (pc := 2436) (tgt := 2443) hx hb dL_law_2436 (by decide) (fun (c2436 : (L.2 0 (ix to)) < ((L.2 1 (ix to)) + m2362)) => ?_) (fun (c2436 : ¬ (L.2 0 (ix to)) < ((L.2 1 (ix to)) + m2362)) => ?_)
        · refine lv_iconst (pc := 2443) (v := 0) hx hb dL_law_2443 (by decide) ?_
          exact hm _ (by rw [if_pos c2422, if_pos c2436])
        · refine lv_iconst (pc := 2439) (v := 1) hx hb dL_law_2439 (by decide) ?_
          refine lv_goto (pc := 2440) (tgt := 2444) hx hb dL_law_2440 (by decide) ?_
          exact hm _ (by rw [if_pos c2422, if_neg c2436])
    refine lv_istore (pc := 2444) (lv' := [(55, .int m2422), (54, .int to), (53, .int m2362), (52, .int went), (51, .int wh), (20, .int 1), (19, .int hv), (18, .int so), (17, .int o), (16, .int k), (15, .int u), (14, .int w), (13, .int (nI T)), (12, .int (σ.1 9)), (11, .int (σ.1 8)), (10, .ref (ar 8)), (9, .ref (ar 7)), (8, .ref (ar 6)), (7, .ref (ar 5)), (6, .ref (ar 4)), (5, .ref (ar 3)), (4, .ref (ar 2)), (3, .ref (ar 1)), (2, .ref (ar 0)), (1, .ref g0), (0, .ref b)]) hx hb dL_law_2444 hl (by decide) rfl (fun ls hl => ?_)
    refine lv_iload (pc := 2446) hx hb dL_law_2446 (lv_at hl 0 rfl) ?_
    refine lv_if_ne (pc := 2448) (tgt := 2474) hx hb dL_law_2448 (by decide) (fun (c2448 : ¬ m2422 = 0) => ?_) (fun (c2448 : m2422 = 0) => ?_)
    · obtain ⟨hla1, hla2⟩ := la_yes hm2422 c2448
      refine lv_aload (pc := 2474) hx hb dL_law_2474 (lv_at hl 15 rfl) ?_
      refine lv_iload (pc := 2476) hx hb dL_law_2476 (lv_at hl 4 rfl) ?_
      refine Z_ald (pc := 2478) (j := 8) (v := L.2 8 (ix wh)) C K P rfl hw30 rfl dL_law_2478 ?_
      refine lv_iload (pc := 2479) hx hb dL_law_2479 (lv_at hl 2 rfl) ?_
      refine lv_iload (pc := 2481) hx hb dL_law_2481 (lv_at hl 3 rfl) ?_
      refine S_call (pc := 2483) (As := [.int (L.2 8 (ix wh)), .int m2362, .int went]) (rest := []) (r := m_part (L.2 8 (ix wh)) m2362 went) C hl.1 (kL_times l (L.2 8 (ix wh)) m2362 went (ne_1 hwb.1)) fnL_times gL_law_L_times rfl rfl ⟨Nat.le_trans (Nat.le_of_ble_eq_true rfl) hRf, Nat.le_trans (Nat.le_of_ble_eq_true rfl) hRl⟩ (Nat.le_of_ble_eq_true rfl) ⟨by omega, by omega⟩ dL_law_2483 ?_
      refine lv_topi (fun (its : Int32) (hits : its = (m_part (L.2 8 (ix wh)) m2362 went : Int32)) => ?_)
      have hits2 : its = m_part (L.2 8 (ix wh)) m2362 (σ.2 25 (ix wh)) := by rw [← hwe]; exact hits
      have hap := arr_pour hTI hwi hco hto hits2 hla2
      refine lv_istore (pc := 2486) (lv' := [(56, .int its), (55, .int m2422), (54, .int to), (53, .int m2362), (52, .int went), (51, .int wh), (20, .int 1), (19, .int hv), (18, .int so), (17, .int o), (16, .int k), (15, .int u), (14, .int w), (13, .int (nI T)), (12, .int (σ.1 9)), (11, .int (σ.1 8)), (10, .ref (ar 8)), (9, .ref (ar 7)), (8, .ref (ar 6)), (7, .ref (ar 5)), (6, .ref (ar 4)), (5, .ref (ar 3)), (4, .ref (ar 2)), (3, .ref (ar 1)), (2, .ref (ar 0)), (1, .ref g0), (0, .ref b)]) hx hb dL_law_2486 hl (by decide) rfl (fun ls hl => ?_)
      refine lv_aload (pc := 2488) hx hb dL_law_2488 (lv_at hl 16 rfl) ?_
      refine lv_iload (pc := 2490) hx hb dL_law_2490 (lv_at hl 5 rfl) ?_
      refine Z_ald (pc := 2492) (j := 8) (v := L.2 8 (ix wh)) C K P rfl hw30 rfl dL_law_2492 ?_
      refine lv_iload (pc := 2493) hx hb dL_law_2493 (lv_at hl 0 rfl) ?_
      refine lv_isub (pc := 2495) hx hb dL_law_2495 ?_
      refine lv_topi (fun (lost : Int32) (hlost : lost = ((L.2 8 (ix wh)) - its : Int32)) => ?_)
      refine lv_istore (pc := 2496) (lv' := [(57, .int lost), (56, .int its), (55, .int m2422), (54, .int to), (53, .int m2362), (52, .int went), (51, .int wh), (20, .int 1), (19, .int hv), (18, .int so), (17, .int o), (16, .int k), (15, .int u), (14, .int w), (13, .int (nI T)), (12, .int (σ.1 9)), (11, .int (σ.1 8)), (10, .ref (ar 8)), (9, .ref (ar 7)), (8, .ref (ar 6)), (7, .ref (ar 5)), (6, .ref (ar 4)), (5, .ref (ar 3)), (4, .ref (ar 2)), (3, .ref (ar 1)), (2, .ref (ar 0)), (1, .ref g0), (0, .ref b)]) hx hb dL_law_2496 hl (by decide) rfl (fun ls hl => ?_)
      refine lv_iload (pc := 2498) hx hb dL_law_2498 (lv_at hl 4 rfl) ?_
      refine lv_if_le (pc := 2500) (tgt := 2515) hx hb dL_law_2500 (by decide) (fun (c2500 : m2362 ≤ 0) => ?_) (fun (c2500 : ¬ m2362 ≤ 0) => ?_)
      · refine lv_aload (pc := 2515) hx hb dL_law_2515 (lv_at hl 18 rfl) ?_
        refine lv_iload (pc := 2517) hx hb dL_law_2517 (lv_at hl 6 rfl) ?_
        refine lv_dup2_11 (pc := 2519) hx hb dL_law_2519 rfl rfl ?_
        refine Z_ald (pc := 2520) (j := 7) (v := L.2 7 (ix wh)) C K P rfl hw30 rfl dL_law_2520 ?_
        refine lv_ldc (pc := 2521) (v := 131072) hx hb hown (hts _ lc_179) dL_law_2521 ?_
        refine lv_ior (pc := 2523) hx hb dL_law_2523 ?_
        refine Z_ast (pc := 2524) (j := 7) (n := 30) (x := (L.2 7 (ix wh)) ||| 131072) C K P (zj7 _) hw30 (zs7 _ _ _) dL_law_2524 (fun H locs (P : Hp D A s (G_W cI cO η σ ++ Z_W cI ar (bs L 7 (ix wh) ((L.2 7 (ix wh)) ||| 131072))) H locs) => ?_)
        refine lv_ldc2 (pc := 2525) (v := 200) hx hb hown (hts _ lc_180) dL_law_2525 ?_
        refine lv_iload (pc := 2528) hx hb dL_law_2528 (lv_at hl 0 rfl) ?_
        refine lv_i2l (pc := 2530) (v := lost.toInt64) hx hb dL_law_2530 rfl ?_
        refine lv_lmul (pc := 2531) hx hb dL_law_2531 ?_
        refine lv_aload (pc := 2532) hx hb dL_law_2532 (lv_at hl 17 rfl) ?_
        refine lv_iload (pc := 2534) hx hb dL_law_2534 (lv_at hl 6 rfl) ?_
        refine Z_ald (pc := 2536) (j := 8) (v := L.2 8 (ix wh)) C K P rfl hw30 rfl dL_law_2536 ?_
        refine lv_i2l (pc := 2537) (v := (L.2 8 (ix wh)).toInt64) hx hb dL_law_2537 rfl ?_
        refine W.lcmp (pc := 2538) hx hb dL_law_2538 ?_
        refine lv_mergeI (M := 2547) (T := if 0 < (lg_cmp (200 * lost.toInt64) ((L.2 8 (ix wh)).toInt64)) then 0 else 1) (rest := []) (fun hm => ?_) (fun (m2539 : Int32) (hm2539 : m2539 = (if 0 < (lg_cmp (200 * lost.toInt64) ((L.2 8 (ix wh)).toInt64)) then 0 else 1 : Int32)) => ?_)
        · refine lv_if_gt (pc := 2539) (tgt := 2546) hx hb dL_law_2539 (by decide) (fun (c2539 : 0 < (lg_cmp (200 * lost.toInt64) ((L.2 8 (ix wh)).toInt64))) => ?_) (fun (c2539 : ¬ 0 < (lg_cmp (200 * lost.toInt64) ((L.2 8 (ix wh)).toInt64))) => ?_)
          · refine lv_iconst (pc := 2546) (v := 0) hx hb dL_law_2546 (by decide) ?_
            exact hm _ (by rw [if_pos c2539])
          · refine lv_iconst (pc := 2542) (v := 1) hx hb dL_law_2542 (by decide) ?_
            refine lv_goto (pc := 2543) (tgt := 2547) hx hb dL_law_2543 (by decide) ?_
            exact hm _ (by rw [if_neg c2539])
        refine lv_istore (pc := 2547) (lv' := [(58, .int m2539), (57, .int lost), (56, .int its), (55, .int m2422), (54, .int to), (53, .int m2362), (52, .int went), (51, .int wh), (20, .int 1), (19, .int hv), (18, .int so), (17, .int o), (16, .int k), (15, .int u), (14, .int w), (13, .int (nI T)), (12, .int (σ.1 9)), (11, .int (σ.1 8)), (10, .ref (ar 8)), (9, .ref (ar 7)), (8, .ref (ar 6)), (7, .ref (ar 5)), (6, .ref (ar 4)), (5, .ref (ar 3)), (4, .ref (ar 2)), (3, .ref (ar 1)), (2, .ref (ar 0)), (1, .ref g0), (0, .ref b)]) hx hb dL_law_2547 hl (by decide) rfl (fun ls hl => ?_)
        refine lv_iload (pc := 2549) hx hb dL_law_2549 (lv_at hl 0 rfl) ?_
        refine lv_if_eq (pc := 2551) (tgt := 2567) hx hb dL_law_2551 (by decide) (fun (c2551 : m2539 = 0) => ?_) (fun (c2551 : ¬ m2539 = 0) => ?_)
        · refine lv_iload (pc := 2567) hx hb dL_law_2567 (lv_at hl 1 rfl) ?_
          refine lv_aload (pc := 2569) hx hb dL_law_2569 (lv_at hl 22 rfl) ?_
          refine Z_calli (pc := 2571) (As := [.int lost, .ref (ar 4)]) (rest := []) C K P hl.1 (kL_misses l D cI ar (bs L 7 (ix wh) ((L.2 7 (ix wh)) ||| 131072)) lost) fnL_misses gL_law_L_misses rfl rfl ⟨Nat.le_trans (Nat.le_of_ble_eq_true rfl) hRf, Nat.le_trans (Nat.le_of_ble_eq_true rfl) hRl⟩ (Nat.le_of_ble_eq_true rfl) ⟨by omega, by omega⟩ dL_law_2571 (fun H locs (P : Hp D A s (G_W cI cO η σ ++ Z_W cI ar (z_misses (bs L 7 (ix wh) ((L.2 7 (ix wh)) ||| 131072)) lost).2) H locs) => ?_)
          refine lv_pop (pc := 2574) hx hb dL_law_2574 rfl ?_
          refine lv_aload_n (pc := 2575) hx hb dL_law_2575 rfl (lv_at hl 27 rfl) ?_
          refine lv_iload (pc := 2576) hx hb dL_law_2576 (lv_at hl 7 rfl) ?_
          refine lv_iload (pc := 2578) hx hb dL_law_2578 (lv_at hl 5 rfl) ?_
          have e1 : an (g_arrive σ wh m2362) = lost ∧ _ := (p_arr hT hTI hwi hw0 hco hto hla1 hla2 hits2 hlost hm2539 (X := (L)) (by rw [hap.2.2.2 c2500]; exact hTI.2.2.1) rfl rfl).1 c2551
          refine T_callW (pc := 2580) (As0 := [.int wh, .int m2362]) (rest := []) (v := lost) (τ := (g_arrive σ wh m2362).2.2) C V hEC K E9 hl.1 hg P (kL_arrive l hl9 D cI cO t0 η σ wh m2362 hG (fun _ => gk_arrive hG _ _)) fnL_arrive ⟨e1.1, rfl⟩ gL_law_L_arrive rfl rfl ⟨Nat.le_trans (Nat.le_of_ble_eq_true rfl) hRf, Nat.le_trans (Nat.le_of_ble_eq_true rfl) hRl⟩ (Nat.le_of_ble_eq_true rfl) ⟨by omega, by omega⟩ dL_law_2580 (fun η H locs (P : Hp D A s (G_W cI cO η (g_arrive σ wh m2362).2.2 ++ Z_W cI ar ((z_misses (bs L 7 (ix wh) ((L.2 7 (ix wh)) ||| 131072)) lost).2)) H locs) (hG : Gok t0 η (g_arrive σ wh m2362).2.2) hg => ?_)
          refine lv_iload (pc := 2583) hx hb dL_law_2583 (lv_at hl 0 rfl) ?_
          refine lv_if_eq (pc := 2585) (tgt := 2592) hx hb dL_law_2585 (by decide) (fun _ => ?_) (fun g => absurd c2551 g)
          refine lv_iload (pc := 2592) hx hb dL_law_2592 (lv_at hl 1 rfl) ?_
          refine lv_icmp_ne (pc := 2594) (tgt := 2601) hx hb dL_law_2594 (by decide) (fun g => absurd rfl g) (fun _ => ?_)
          refine lv_iconst (pc := 2597) (v := 1) hx hb dL_law_2597 (by decide) ?_
          refine lv_goto (pc := 2598) (tgt := 2602) hx hb dL_law_2598 (by decide) ?_
          refine lv_istore (pc := 2602) (lv' := [(20, .int 1), (58, .int m2539), (57, .int lost), (56, .int its), (55, .int m2422), (54, .int to), (53, .int m2362), (52, .int went), (51, .int wh), (19, .int hv), (18, .int so), (17, .int o), (16, .int k), (15, .int u), (14, .int w), (13, .int (nI T)), (12, .int (σ.1 9)), (11, .int (σ.1 8)), (10, .ref (ar 8)), (9, .ref (ar 7)), (8, .ref (ar 6)), (7, .ref (ar 5)), (6, .ref (ar 4)), (5, .ref (ar 3)), (4, .ref (ar 2)), (3, .ref (ar 1)), (2, .ref (ar 0)), (1, .ref g0), (0, .ref b)]) hx hb dL_law_2602 hl (by decide) rfl (fun ls hl => ?_)
          refine lv_goto (pc := 2604) (tgt := 2755) hx hb dL_law_2604 (by decide) ?_
          exact W.widen (by omega) (by omega) (kk η ((g_arrive σ wh m2362).2.2) ((z_misses (bs L 7 (ix wh) ((L.2 7 (ix wh)) ||| 131072)) lost).2) _ _ ls e1.2.1 hG hg P (by rw [e1.2.2.1, e1.2.2.2]; exact (lv_sub hl [0, 15, 16, 17, 18, 19, 20, 21, 22, 23, 24, 25, 26, 27, 28] rfl)))
        · refine lv_aload (pc := 2554) hx hb dL_law_2554 (lv_at hl 22 rfl) ?_
          refine lv_bipush (pc := 2556) (v := 12) hx hb dL_law_2556 (by decide) ?_
          refine lv_dup2_11 (pc := 2558) hx hb dL_law_2558 rfl rfl ?_
          refine Z_ald (pc := 2559) (j := 4) (v := L.2 4 12) C K P rfl (vp_dec (by decide)) rfl dL_law_2559 ?_
          refine lv_iload (pc := 2560) hx hb dL_law_2560 (lv_at hl 1 rfl) ?_
          refine lv_iadd (pc := 2562) hx hb dL_law_2562 ?_
          refine Z_ast (pc := 2563) (j := 4) (n := 16) (x := (L.2 4 12) + lost) C K P (zj4 _) (vp_dec (by decide)) (zs4 _ _ _) dL_law_2563 (fun H locs (P : Hp D A s (G_W cI cO η σ ++ Z_W cI ar (bs (bs L 7 (ix wh) ((L.2 7 (ix wh)) ||| 131072)) 4 12 ((L.2 4 12) + lost))) H locs) => ?_)
          refine lv_goto (pc := 2564) (tgt := 2575) hx hb dL_law_2564 (by decide) ?_
          refine lv_aload_n (pc := 2575) hx hb dL_law_2575 rfl (lv_at hl 27 rfl) ?_
          refine lv_iload (pc := 2576) hx hb dL_law_2576 (lv_at hl 7 rfl) ?_
          refine lv_iload (pc := 2578) hx hb dL_law_2578 (lv_at hl 5 rfl) ?_
          have e1 : an (g_arrive σ wh m2362) = 0 ∧ _ := (p_arr hT hTI hwi hw0 hco hto hla1 hla2 hits2 hlost hm2539 (X := (L)) (by rw [hap.2.2.2 c2500]; exact hTI.2.2.1) rfl rfl).2 c2551
          refine T_callW (pc := 2580) (As0 := [.int wh, .int m2362]) (rest := []) (v := 0) (τ := (g_arrive σ wh m2362).2.2) C V hEC K E9 hl.1 hg P (kL_arrive l hl9 D cI cO t0 η σ wh m2362 hG (fun _ => gk_arrive hG _ _)) fnL_arrive ⟨e1.1, rfl⟩ gL_law_L_arrive rfl rfl ⟨Nat.le_trans (Nat.le_of_ble_eq_true rfl) hRf, Nat.le_trans (Nat.le_of_ble_eq_true rfl) hRl⟩ (Nat.le_of_ble_eq_true rfl) ⟨by omega, by omega⟩ dL_law_2580 (fun η H locs (P : Hp D A s (G_W cI cO η (g_arrive σ wh m2362).2.2 ++ Z_W cI ar (bs (bs L 7 (ix wh) ((L.2 7 (ix wh)) ||| 131072)) 4 12 ((L.2 4 12) + lost))) H locs) (hG : Gok t0 η (g_arrive σ wh m2362).2.2) hg => ?_)
          refine lv_iload (pc := 2583) hx hb dL_law_2583 (lv_at hl 0 rfl) ?_
          refine lv_if_eq (pc := 2585) (tgt := 2592) hx hb dL_law_2585 (by decide) (fun g => absurd g c2551) (fun _ => ?_)
          refine lv_iconst (pc := 2588) (v := 0) hx hb dL_law_2588 (by decide) ?_
          refine lv_goto (pc := 2589) (tgt := 2594) hx hb dL_law_2589 (by decide) ?_
          refine lv_icmp_ne (pc := 2594) (tgt := 2601) hx hb dL_law_2594 (by decide) (fun h => absurd h (by decide)) (fun _ => ?_)
          refine lv_iconst (pc := 2597) (v := 1) hx hb dL_law_2597 (by decide) ?_
          refine lv_goto (pc := 2598) (tgt := 2602) hx hb dL_law_2598 (by decide) ?_
          refine lv_istore (pc := 2602) (lv' := [(20, .int 1), (58, .int m2539), (57, .int lost), (56, .int its), (55, .int m2422), (54, .int to), (53, .int m2362), (52, .int went), (51, .int wh), (19, .int hv), (18, .int so), (17, .int o), (16, .int k), (15, .int u), (14, .int w), (13, .int (nI T)), (12, .int (σ.1 9)), (11, .int (σ.1 8)), (10, .ref (ar 8)), (9, .ref (ar 7)), (8, .ref (ar 6)), (7, .ref (ar 5)), (6, .ref (ar 4)), (5, .ref (ar 3)), (4, .ref (ar 2)), (3, .ref (ar 1)), (2, .ref (ar 0)), (1, .ref g0), (0, .ref b)]) hx hb dL_law_2602 hl (by decide) rfl (fun ls hl => ?_)
          refine lv_goto (pc := 2604) (tgt := 2755) hx hb dL_law_2604 (by decide) ?_
          exact W.widen (by omega) (by omega) (kk η ((g_arrive σ wh m2362).2.2) (bs (bs L 7 (ix wh) ((L.2 7 (ix wh)) ||| 131072)) 4 12 ((L.2 4 12) + lost)) _ _ ls e1.2.1 hG hg P (by rw [e1.2.2.1, e1.2.2.2]; exact (lv_sub hl [0, 15, 16, 17, 18, 19, 20, 21, 22, 23, 24, 25, 26, 27, 28] rfl)))
      · refine lv_iload (pc := 2503) hx hb dL_law_2503 (lv_at hl 3 rfl) ?_
        refine lv_iload (pc := 2505) hx hb dL_law_2505 (lv_at hl 4 rfl) ?_
        refine lv_iload (pc := 2507) hx hb dL_law_2507 (lv_at hl 1 rfl) ?_
        refine lv_aload_n (pc := 2509) hx hb dL_law_2509 rfl (lv_at hl 24 rfl) ?_
        refine lv_aload (pc := 2510) hx hb dL_law_2510 (lv_at hl 23 rfl) ?_
        refine Z_callv (pc := 2512) (As := [.int to, .int m2362, .int its, .ref (ar 1), .ref (ar 2)]) (rest := []) C K P hl.1 (kL_pours l D cI ar L to m2362 its (hto3 ▸ b5)) fnL_pours gL_law_L_pours rfl rfl ⟨Nat.le_trans (Nat.le_of_ble_eq_true rfl) hRf, Nat.le_trans (Nat.le_of_ble_eq_true rfl) hRl⟩ (Nat.le_of_ble_eq_true rfl) ⟨by omega, by omega⟩ dL_law_2512 (fun H locs (P : Hp D A s (G_W cI cO η σ ++ Z_W cI ar (z_pours L to m2362 its).2) H locs) => ?_)
        refine lv_aload (pc := 2515) hx hb dL_law_2515 (lv_at hl 18 rfl) ?_
        refine lv_iload (pc := 2517) hx hb dL_law_2517 (lv_at hl 6 rfl) ?_
        refine lv_dup2_11 (pc := 2519) hx hb dL_law_2519 rfl rfl ?_
        refine Z_ald (pc := 2520) (j := 7) (v := L.2 7 (ix wh)) C K P rfl hw30 rfl dL_law_2520 ?_
        refine lv_ldc (pc := 2521) (v := 131072) hx hb hown (hts _ lc_179) dL_law_2521 ?_
        refine lv_ior (pc := 2523) hx hb dL_law_2523 ?_
        refine Z_ast (pc := 2524) (j := 7) (n := 30) (x := (L.2 7 (ix wh)) ||| 131072) C K P (zj7 _) hw30 (zs7 _ _ _) dL_law_2524 (fun H locs (P : Hp D A s (G_W cI cO η σ ++ Z_W cI ar (bs (z_pours L to m2362 its).2 7 (ix wh) ((L.2 7 (ix wh)) ||| 131072))) H locs) => ?_)
        refine lv_ldc2 (pc := 2525) (v := 200) hx hb hown (hts _ lc_180) dL_law_2525 ?_
        refine lv_iload (pc := 2528) hx hb dL_law_2528 (lv_at hl 0 rfl) ?_
        refine lv_i2l (pc := 2530) (v := lost.toInt64) hx hb dL_law_2530 rfl ?_
        refine lv_lmul (pc := 2531) hx hb dL_law_2531 ?_
        refine lv_aload (pc := 2532) hx hb dL_law_2532 (lv_at hl 17 rfl) ?_
        refine lv_iload (pc := 2534) hx hb dL_law_2534 (lv_at hl 6 rfl) ?_
        refine Z_ald (pc := 2536) (j := 8) (v := L.2 8 (ix wh)) C K P rfl hw30 rfl dL_law_2536 ?_
        refine lv_i2l (pc := 2537) (v := (L.2 8 (ix wh)).toInt64) hx hb dL_law_2537 rfl ?_
        refine W.lcmp (pc := 2538) hx hb dL_law_2538 ?_
        refine lv_mergeI (M := 2547) (T := if 0 < (lg_cmp (200 * lost.toInt64) ((L.2 8 (ix wh)).toInt64)) then 0 else 1) (rest := []) (fun hm => ?_) (fun (m2539 : Int32) (hm2539 : m2539 = (if 0 < (lg_cmp (200 * lost.toInt64) ((L.2 8 (ix wh)).toInt64)) then 0 else 1 : Int32)) => ?_)
        · refine lv_if_gt (pc := 2539) (tgt := 2546) hx hb dL_law_2539 (by decide) (fun (c2539 : 0 < (lg_cmp (200 * lost.toInt64) ((L.2 8 (ix wh)).toInt64))) => ?_) (fun (c2539 : ¬ 0 < (lg_cmp (200 * lost.toInt64) ((L.2 8 (ix wh)).toInt64))) => ?_)
          · refine lv_iconst (pc := 2546) (v := 0) hx hb dL_law_2546 (by decide) ?_
            exact hm _ (by rw [if_pos c2539])
          · refine lv_iconst (pc := 2542) (v := 1) hx hb dL_law_2542 (by decide) ?_
            refine lv_goto (pc := 2543) (tgt := 2547) hx hb dL_law_2543 (by decide) ?_
            exact hm _ (by rw [if_neg c2539])
        refine lv_istore (pc := 2547) (lv' := [(58, .int m2539), (57, .int lost), (56, .int its), (55, .int m2422), (54, .int to), (53, .int m2362), (52, .int went), (51, .int wh), (20, .int 1), (19, .int hv), (18, .int so), (17, .int o), (16, .int k), (15, .int u), (14, .int w), (13, .int (nI T)), (12, .int (σ.1 9)), (11, .int (σ.1 8)), (10, .ref (ar 8)), (9, .ref (ar 7)), (8, .ref (ar 6)), (7, .ref (ar 5)), (6, .ref (ar 4)), (5, .ref (ar 3)), (4, .ref (ar 2)), (3, .ref (ar 1)), (2, .ref (ar 0)), (1, .ref g0), (0, .ref b)]) hx hb dL_law_2547 hl (by decide) rfl (fun ls hl => ?_)
        refine lv_iload (pc := 2549) hx hb dL_law_2549 (lv_at hl 0 rfl) ?_
        refine lv_if_eq (pc := 2551) (tgt := 2567) hx hb dL_law_2551 (by decide) (fun (c2551 : m2539 = 0) => ?_) (fun (c2551 : ¬ m2539 = 0) => ?_)
        · refine lv_iload (pc := 2567) hx hb dL_law_2567 (lv_at hl 1 rfl) ?_
          refine lv_aload (pc := 2569) hx hb dL_law_2569 (lv_at hl 22 rfl) ?_
          refine Z_calli (pc := 2571) (As := [.int lost, .ref (ar 4)]) (rest := []) C K P hl.1 (kL_misses l D cI ar (bs (z_pours L to m2362 its).2 7 (ix wh) ((L.2 7 (ix wh)) ||| 131072)) lost) fnL_misses gL_law_L_misses rfl rfl ⟨Nat.le_trans (Nat.le_of_ble_eq_true rfl) hRf, Nat.le_trans (Nat.le_of_ble_eq_true rfl) hRl⟩ (Nat.le_of_ble_eq_true rfl) ⟨by omega, by omega⟩ dL_law_2571 (fun H locs (P : Hp D A s (G_W cI cO η σ ++ Z_W cI ar (z_misses (bs (z_pours L to m2362 its).2 7 (ix wh) ((L.2 7 (ix wh)) ||| 131072)) lost).2) H locs) => ?_)
          refine lv_pop (pc := 2574) hx hb dL_law_2574 rfl ?_
          refine lv_aload_n (pc := 2575) hx hb dL_law_2575 rfl (lv_at hl 27 rfl) ?_
          refine lv_iload (pc := 2576) hx hb dL_law_2576 (lv_at hl 7 rfl) ?_
          refine lv_iload (pc := 2578) hx hb dL_law_2578 (lv_at hl 5 rfl) ?_
          have e1 : an (g_arrive σ wh m2362) = lost ∧ _ := (p_arr hT hTI hwi hw0 hco hto hla1 hla2 hits2 hlost hm2539 (X := ((z_pours L to m2362 its).2)) hap.2.2.1 rfl rfl).1 c2551
          refine T_callW (pc := 2580) (As0 := [.int wh, .int m2362]) (rest := []) (v := lost) (τ := (g_arrive σ wh m2362).2.2) C V hEC K E9 hl.1 hg P (kL_arrive l hl9 D cI cO t0 η σ wh m2362 hG (fun _ => gk_arrive hG _ _)) fnL_arrive ⟨e1.1, rfl⟩ gL_law_L_arrive rfl rfl ⟨Nat.le_trans (Nat.le_of_ble_eq_true rfl) hRf, Nat.le_trans (Nat.le_of_ble_eq_true rfl) hRl⟩ (Nat.le_of_ble_eq_true rfl) ⟨by omega, by omega⟩ dL_law_2580 (fun η H locs (P : Hp D A s (G_W cI cO η (g_arrive σ wh m2362).2.2 ++ Z_W cI ar ((z_misses (bs (z_pours L to m2362 its).2 7 (ix wh) ((L.2 7 (ix wh)) ||| 131072)) lost).2)) H locs) (hG : Gok t0 η (g_arrive σ wh m2362).2.2) hg => ?_)
          refine lv_iload (pc := 2583) hx hb dL_law_2583 (lv_at hl 0 rfl) ?_
          refine lv_if_eq (pc := 2585) (tgt := 2592) hx hb dL_law_2585 (by decide) (fun _ => ?_) (fun g => absurd c2551 g)
          refine lv_iload (pc := 2592) hx hb dL_law_2592 (lv_at hl 1 rfl) ?_
          refine lv_icmp_ne (pc := 2594) (tgt := 2601) hx hb dL_law_2594 (by decide) (fun g => absurd rfl g) (fun _ => ?_)
          refine lv_iconst (pc := 2597) (v := 1) hx hb dL_law_2597 (by decide) ?_
          refine lv_goto (pc := 2598) (tgt := 2602) hx hb dL_law_2598 (by decide) ?_
          refine lv_istore (pc := 2602) (lv' := [(20, .int 1), (58, .int m2539), (57, .int lost), (56, .int its), (55, .int m2422), (54, .int to), (53, .int m2362), (52, .int went), (51, .int wh), (19, .int hv), (18, .int so), (17, .int o), (16, .int k), (15, .int u), (14, .int w), (13, .int (nI T)), (12, .int (σ.1 9)), (11, .int (σ.1 8)), (10, .ref (ar 8)), (9, .ref (ar 7)), (8, .ref (ar 6)), (7, .ref (ar 5)), (6, .ref (ar 4)), (5, .ref (ar 3)), (4, .ref (ar 2)), (3, .ref (ar 1)), (2, .ref (ar 0)), (1, .ref g0), (0, .ref b)]) hx hb dL_law_2602 hl (by decide) rfl (fun ls hl => ?_)
          refine lv_goto (pc := 2604) (tgt := 2755) hx hb dL_law_2604 (by decide) ?_
          exact W.widen (by omega) (by omega) (kk η ((g_arrive σ wh m2362).2.2) ((z_misses (bs (z_pours L to m2362 its).2 7 (ix wh) ((L.2 7 (ix wh)) ||| 131072)) lost).2) _ _ ls e1.2.1 hG hg P (by rw [e1.2.2.1, e1.2.2.2]; exact (lv_sub hl [0, 15, 16, 17, 18, 19, 20, 21, 22, 23, 24, 25, 26, 27, 28] rfl)))
        · refine lv_aload (pc := 2554) hx hb dL_law_2554 (lv_at hl 22 rfl) ?_
          refine lv_bipush (pc := 2556) (v := 12) hx hb dL_law_2556 (by decide) ?_
          refine lv_dup2_11 (pc := 2558) hx hb dL_law_2558 rfl rfl ?_
          refine Z_ald (pc := 2559) (j := 4) (v := L.2 4 12) C K P rfl (vp_dec (by decide)) rfl dL_law_2559 ?_
          refine lv_iload (pc := 2560) hx hb dL_law_2560 (lv_at hl 1 rfl) ?_
          refine lv_iadd (pc := 2562) hx hb dL_law_2562 ?_
          refine Z_ast (pc := 2563) (j := 4) (n := 16) (x := (L.2 4 12) + lost) C K P (zj4 _) (vp_dec (by decide)) (zs4 _ _ _) dL_law_2563 (fun H locs (P : Hp D A s (G_W cI cO η σ ++ Z_W cI ar (bs (bs (z_pours L to m2362 its).2 7 (ix wh) ((L.2 7 (ix wh)) ||| 131072)) 4 12 ((L.2 4 12) + lost))) H locs) => ?_)
          refine lv_goto (pc := 2564) (tgt := 2575) hx hb dL_law_2564 (by decide) ?_
          refine lv_aload_n (pc := 2575) hx hb dL_law_2575 rfl (lv_at hl 27 rfl) ?_
          refine lv_iload (pc := 2576) hx hb dL_law_2576 (lv_at hl 7 rfl) ?_
          refine lv_iload (pc := 2578) hx hb dL_law_2578 (lv_at hl 5 rfl) ?_
          have e1 : an (g_arrive σ wh m2362) = 0 ∧ _ := (p_arr hT hTI hwi hw0 hco hto hla1 hla2 hits2 hlost hm2539 (X := ((z_pours L to m2362 its).2)) hap.2.2.1 rfl rfl).2 c2551
          refine T_callW (pc := 2580) (As0 := [.int wh, .int m2362]) (rest := []) (v := 0) (τ := (g_arrive σ wh m2362).2.2) C V hEC K E9 hl.1 hg P (kL_arrive l hl9 D cI cO t0 η σ wh m2362 hG (fun _ => gk_arrive hG _ _)) fnL_arrive ⟨e1.1, rfl⟩ gL_law_L_arrive rfl rfl ⟨Nat.le_trans (Nat.le_of_ble_eq_true rfl) hRf, Nat.le_trans (Nat.le_of_ble_eq_true rfl) hRl⟩ (Nat.le_of_ble_eq_true rfl) ⟨by omega, by omega⟩ dL_law_2580 (fun η H locs (P : Hp D A s (G_W cI cO η (g_arrive σ wh m2362).2.2 ++ Z_W cI ar (bs (bs (z_pours L to m2362 its).2 7 (ix wh) ((L.2 7 (ix wh)) ||| 131072)) 4 12 ((L.2 4 12) + lost))) H locs) (hG : Gok t0 η (g_arrive σ wh m2362).2.2) hg => ?_)
          refine lv_iload (pc := 2583) hx hb dL_law_2583 (lv_at hl 0 rfl) ?_
          refine lv_if_eq (pc := 2585) (tgt := 2592) hx hb dL_law_2585 (by decide) (fun g => absurd g c2551) (fun _ => ?_)
          refine lv_iconst (pc := 2588) (v := 0) hx hb dL_law_2588 (by decide) ?_
          refine lv_goto (pc := 2589) (tgt := 2594) hx hb dL_law_2589 (by decide) ?_
          refine lv_icmp_ne (pc := 2594) (tgt := 2601) hx hb dL_law_2594 (by decide) (fun h => absurd h (by decide)) (fun _ => ?_)
          refine lv_iconst (pc := 2597) (v := 1) hx hb dL_law_2597 (by decide) ?_
          refine lv_goto (pc := 2598) (tgt := 2602) hx hb dL_law_2598 (by decide) ?_
          refine lv_istore (pc := 2602) (lv' := [(20, .int 1), (58, .int m2539), (57, .int lost), (56, .int its), (55, .int m2422), (54, .int to), (53, .int m2362), (52, .int went), (51, .int wh), (19, .int hv), (18, .int so), (17, .int o), (16, .int k), (15, .int u), (14, .int w), (13, .int (nI T)), (12, .int (σ.1 9)), (11, .int (σ.1 8)), (10, .ref (ar 8)), (9, .ref (ar 7)), (8, .ref (ar 6)), (7, .ref (ar 5)), (6, .ref (ar 4)), (5, .ref (ar 3)), (4, .ref (ar 2)), (3, .ref (ar 1)), (2, .ref (ar 0)), (1, .ref g0), (0, .ref b)]) hx hb dL_law_2602 hl (by decide) rfl (fun ls hl => ?_)
          refine lv_goto (pc := 2604) (tgt := 2755) hx hb dL_law_2604 (by decide) ?_
          exact W.widen (by omega) (by omega) (kk η ((g_arrive σ wh m2362).2.2) (bs (bs (z_pours L to m2362 its).2 7 (ix wh) ((L.2 7 (ix wh)) ||| 131072)) 4 12 ((L.2 4 12) + lost)) _ _ ls e1.2.1 hG hg P (by rw [e1.2.2.1, e1.2.2.2]; exact (lv_sub hl [0, 15, 16, 17, 18, 19, 20, 21, 22, 23, 24, 25, 26, 27, 28] rfl)))
    · refine lv_aload_n (pc := 2451) hx hb dL_law_2451 rfl (lv_at hl 24 rfl) ?_
      refine lv_iload (pc := 2452) hx hb dL_law_2452 (lv_at hl 4 rfl) ?_
      refine lv_iload (pc := 2454) hx hb dL_law_2454 (lv_at hl 2 rfl) ?_
      have e1 : an (g_arrive σ wh m2362) = (-2000000003) ∧ _ := p_arr_no hTI hwi hw0 hco hto hm2422 c2448
      refine T_callW (pc := 2456) (As0 := [.int wh, .int m2362]) (rest := []) (v := (-2000000003)) (τ := (g_arrive σ wh m2362).2.2) C V hEC K E9 hl.1 hg P (kL_arrive l hl9 D cI cO t0 η σ wh m2362 hG (fun _ => gk_arrive hG _ _)) fnL_arrive ⟨e1.1, rfl⟩ gL_law_L_arrive rfl rfl ⟨Nat.le_trans (Nat.le_of_ble_eq_true rfl) hRf, Nat.le_trans (Nat.le_of_ble_eq_true rfl) hRl⟩ (Nat.le_of_ble_eq_true rfl) ⟨by omega, by omega⟩ dL_law_2456 (fun η H locs (P : Hp D A s (G_W cI cO η (g_arrive σ wh m2362).2.2 ++ Z_W cI ar L) H locs) (hG : Gok t0 η (g_arrive σ wh m2362).2.2) hg => ?_)
      refine lv_ldc (pc := 2459) (v := (-2000000003)) hx hb hown (hts _ lc_22) dL_law_2459 ?_
      refine lv_icmp_ne (pc := 2461) (tgt := 2468) hx hb dL_law_2461 (by decide) (fun h => absurd h (by decide)) (fun _ => ?_)
      refine lv_iconst (pc := 2464) (v := 1) hx hb dL_law_2464 (by decide) ?_
      refine lv_goto (pc := 2465) (tgt := 2469) hx hb dL_law_2465 (by decide) ?_
      refine lv_istore (pc := 2469) (lv' := [(20, .int 1), (55, .int m2422), (54, .int to), (53, .int m2362), (52, .int went), (51, .int wh), (19, .int hv), (18, .int so), (17, .int o), (16, .int k), (15, .int u), (14, .int w), (13, .int (nI T)), (12, .int (σ.1 9)), (11, .int (σ.1 8)), (10, .ref (ar 8)), (9, .ref (ar 7)), (8, .ref (ar 6)), (7, .ref (ar 5)), (6, .ref (ar 4)), (5, .ref (ar 3)), (4, .ref (ar 2)), (3, .ref (ar 1)), (2, .ref (ar 0)), (1, .ref g0), (0, .ref b)]) hx hb dL_law_2469 hl (by decide) rfl (fun ls hl => ?_)
      refine lv_goto (pc := 2471) (tgt := 2755) hx hb dL_law_2471 (by decide) ?_
      exact W.widen (by omega) (by omega) (kk η ((g_arrive σ wh m2362).2.2) L _ _ ls (by rw [e1.2]; exact ti_up hTI) hG hg P (by rw [e1.2]; exact (lv_sub hl [0, 12, 13, 14, 15, 16, 17, 18, 19, 20, 21, 22, 23, 24, 25] rfl)))
  · refine lv_goto (pc := 2307) (tgt := 2755) hx hb dL_law_2307 (by decide) ?_
    exact W.widen (by omega) (by omega) (kk η σ L _ _ ls (ti_up hTI) hG hg P (lv_sub hl [0, 7, 8, 9, 10, 11, 12, 13, 14, 15, 16, 17, 18, 19, 20] rfl))
set_option maxHeartbeats 8000000 in
set_option maxRecDepth 100000 in
theorem law_shares (hl9 : l.stackTraces = false) (C : Cx RL p s m args meth c cL_law 62 wsL_law ret) (V : EnvV s) (hEC : EnvC s) (K : va_K D vwCl (tyG cI cO) s) (E9 : EnvH t0 A s s.heap) (hRf : 12 ≤ R.frames) (hRl : 452 ≤ R.locals) (hz : cells + 400 ≤ R.cells ∧ slots + 2400 ≤ R.slots) (hT : T < 120) (hTI : TI T σ L) (hG : Gok t0 η σ) (hg : e_ad η 0 = g0) (P : Hp D A s (G_W cI cO η σ ++ Z_W cI ar L) H locs) (hk : vp_in k 5) (ho : vp_in o 5) (hso : 1 ≤ so.toInt ∧ so.toInt ≤ 10002) (hhv : hv = if L.2 1 (ix k) < so then 0 else 1) (hl : lv_has ls 62 [(20, .int 1), (19, .int hv), (18, .int so), (17, .int o), (16, .int k), (15, .int u), (14, .int w), (13, .int (nI T)), (12, .int (σ.1 9)), (11, .int (σ.1 8)), (10, .ref (ar 8)), (9, .ref (ar 7)), (8, .ref (ar 6)), (7, .ref (ar 5)), (6, .ref (ar 4)), (5, .ref (ar 3)), (4, .ref (ar 2)), (3, .ref (ar 1)), (2, .ref (ar 0)), (1, .ref g0), (0, .ref b)]) (kk : ∀ (η : Eg) (σ L : Sg) (H : Heap) (locs : List Loc) (ls : Array Slot), TI (T + 1) σ L → Gok t0 η σ → e_ad η 0 = g0 → Hp D A s (G_W cI cO η σ ++ Z_W cI ar L) H locs → lv_has ls 62 [(20, .int 1), (13, .int (nI T)), (12, .int (σ.1 9)), (11, .int (σ.1 8)), (10, .ref (ar 8)), (9, .ref (ar 7)), (8, .ref (ar 6)), (7, .ref (ar 5)), (6, .ref (ar 4)), (5, .ref (ar 3)), (4, .ref (ar 2)), (3, .ref (ar 1)), (2, .ref (ar 0)), (1, .ref g0), (0, .ref b)] → W p l e R s m args below meth c H locs (cells + 12) (slots + 500) Q (F0 m 2755 ls [])) : W p l e R s m args below meth c H locs cells slots Q (F0 m 2607 ls []) := by
  have hx := C.1
  have hb := C.2.1
  have hown := C.2.2.2.1
  have hts := C.2.2.2.2.1
  refine lv_iload (pc := 2607) hx hb dL_law_2607 (lv_at hl 5 rfl) ?_
  refine lv_iconst (pc := 2609) (v := 3) hx hb dL_law_2609 (by decide) ?_
  refine S_call (pc := 2610) (As := [.int u, .int 3]) (rest := []) (r := z_low u 3) C hl.1 (kL_low l u 3 (by decide)) fnL_low gL_law_L_low rfl rfl ⟨Nat.le_trans (Nat.le_of_ble_eq_true rfl) hRf, Nat.le_trans (Nat.le_of_ble_eq_true rfl) hRl⟩ (Nat.le_of_ble_eq_true rfl) ⟨by omega, by omega⟩ dL_law_2610 ?_
  refine lv_topi (fun (pl : Int32) (hpl : pl = (z_low u 3 : Int32)) => ?_)
  refine lv_istore (pc := 2613) (lv' := [(59, .int pl), (20, .int 1), (19, .int hv), (18, .int so), (17, .int o), (16, .int k), (15, .int u), (14, .int w), (13, .int (nI T)), (12, .int (σ.1 9)), (11, .int (σ.1 8)), (10, .ref (ar 8)), (9, .ref (ar 7)), (8, .ref (ar 6)), (7, .ref (ar 5)), (6, .ref (ar 4)), (5, .ref (ar 3)), (4, .ref (ar 2)), (3, .ref (ar 1)), (2, .ref (ar 0)), (1, .ref g0), (0, .ref b)]) hx hb dL_law_2613 hl (by decide) rfl (fun ls hl => ?_)
  refine lv_aload_n (pc := 2615) hx hb dL_law_2615 rfl (lv_at hl 20 rfl) ?_
  refine lv_iload (pc := 2616) hx hb dL_law_2616 (lv_at hl 0 rfl) ?_
  refine lv_iload (pc := 2618) hx hb dL_law_2618 (lv_at hl 6 rfl) ?_
  refine lv_iconst (pc := 2620) (v := 3) hx hb dL_law_2620 (by decide) ?_
  refine lv_ishr (pc := 2621) hx hb dL_law_2621 ?_
  refine lv_sipush (pc := 2622) (v := 501) hx hb dL_law_2622 (by decide) ?_
  refine S_call (pc := 2625) (As := [.int (u >>> (3 &&& 31)), .int 501]) (rest := [.int pl, .ref g0]) (r := z_low (u >>> (3 &&& 31)) 501) C hl.1 (kL_low l (u >>> (3 &&& 31)) 501 (by decide)) fnL_low gL_law_L_low rfl rfl ⟨Nat.le_trans (Nat.le_of_ble_eq_true rfl) hRf, Nat.le_trans (Nat.le_of_ble_eq_true rfl) hRl⟩ (Nat.le_of_ble_eq_true rfl) ⟨by omega, by omega⟩ dL_law_2625 ?_
  have e1 : an (g_shares σ pl (z_low (u >>> (3 &&& 31)) 501)) = (L.2 3 (ix pl)) ∧ _ := p_shares hTI (hpl ▸ low_vp u 3 3 (by decide) (by decide)) (low_n _ 501 501 (by decide) (by decide))
  refine T_callW (pc := 2628) (As0 := [.int pl, .int (z_low (u >>> (3 &&& 31)) 501)]) (rest := []) (v := L.2 3 (ix pl)) (τ := (g_shares σ pl (z_low (u >>> (3 &&& 31)) 501)).2.2) C V hEC K E9 hl.1 hg P (kL_shares l hl9 D cI cO t0 η σ pl (z_low (u >>> (3 &&& 31)) 501) hG (fun _ => gk_shares hG _ _)) fnL_shares ⟨e1.1, rfl⟩ gL_law_L_shares rfl rfl ⟨Nat.le_trans (Nat.le_of_ble_eq_true rfl) hRf, Nat.le_trans (Nat.le_of_ble_eq_true rfl) hRl⟩ (Nat.le_of_ble_eq_true rfl) ⟨by omega, by omega⟩ dL_law_2628 (fun η H locs (P : Hp D A s (G_W cI cO η (g_shares σ pl (z_low (u >>> (3 &&& 31)) 501)).2.2 ++ Z_W cI ar L) H locs) (hG : Gok t0 η (g_shares σ pl (z_low (u >>> (3 &&& 31)) 501)).2.2) hg => ?_)
  refine lv_aload (pc := 2631) hx hb dL_law_2631 (lv_at hl 16 rfl) ?_
  refine lv_iload (pc := 2633) hx hb dL_law_2633 (lv_at hl 0 rfl) ?_
  refine Z_ald (pc := 2635) (j := 3) (v := L.2 3 (ix pl)) C K P rfl (hpl ▸ low_vp u 3 3 (by decide) (by decide)) rfl dL_law_2635 ?_
  refine lv_icmp_ne (pc := 2636) (tgt := 2643) hx hb dL_law_2636 (by decide) (fun g => absurd rfl g) (fun _ => ?_)
  refine lv_iconst (pc := 2639) (v := 1) hx hb dL_law_2639 (by decide) ?_
  refine lv_goto (pc := 2640) (tgt := 2644) hx hb dL_law_2640 (by decide) ?_
  refine lv_istore (pc := 2644) (lv' := [(20, .int 1), (59, .int pl), (19, .int hv), (18, .int so), (17, .int o), (16, .int k), (15, .int u), (14, .int w), (13, .int (nI T)), (12, .int (σ.1 9)), (11, .int (σ.1 8)), (10, .ref (ar 8)), (9, .ref (ar 7)), (8, .ref (ar 6)), (7, .ref (ar 5)), (6, .ref (ar 4)), (5, .ref (ar 3)), (4, .ref (ar 2)), (3, .ref (ar 1)), (2, .ref (ar 0)), (1, .ref g0), (0, .ref b)]) hx hb dL_law_2644 hl (by decide) rfl (fun ls hl => ?_)
  refine lv_aload (pc := 2646) hx hb dL_law_2646 (lv_at hl 16 rfl) ?_
  refine lv_iload (pc := 2648) hx hb dL_law_2648 (lv_at hl 1 rfl) ?_
  refine lv_iload (pc := 2650) hx hb dL_law_2650 (lv_at hl 6 rfl) ?_
  refine lv_iconst (pc := 2652) (v := 3) hx hb dL_law_2652 (by decide) ?_
  refine lv_ishr (pc := 2653) hx hb dL_law_2653 ?_
  refine lv_sipush (pc := 2654) (v := 501) hx hb dL_law_2654 (by decide) ?_
  refine S_call (pc := 2657) (As := [.int (u >>> (3 &&& 31)), .int 501]) (rest := [.int pl, .ref (ar 3)]) (r := z_low (u >>> (3 &&& 31)) 501) C hl.1 (kL_low l (u >>> (3 &&& 31)) 501 (by decide)) fnL_low gL_law_L_low rfl rfl ⟨Nat.le_trans (Nat.le_of_ble_eq_true rfl) hRf, Nat.le_trans (Nat.le_of_ble_eq_true rfl) hRl⟩ (Nat.le_of_ble_eq_true rfl) ⟨by omega, by omega⟩ dL_law_2657 ?_
  refine Z_ast (pc := 2660) (j := 3) (n := 3) (x := z_low (u >>> (3 &&& 31)) 501) C K P rfl (hpl ▸ low_vp u 3 3 (by decide) (by decide)) rfl dL_law_2660 (fun H locs (P : Hp D A s (G_W cI cO η (g_shares σ pl (z_low (u >>> (3 &&& 31)) 501)).2.2 ++ Z_W cI ar (bs L 3 (ix pl) (z_low (u >>> (3 &&& 31)) 501))) H locs) => ?_)
  refine lv_goto (pc := 2661) (tgt := 2755) hx hb dL_law_2661 (by decide) ?_
  exact W.widen (by omega) (by omega) (kk η ((g_shares σ pl (z_low (u >>> (3 &&& 31)) 501)).2.2) (bs L 3 (ix pl) (z_low (u >>> (3 &&& 31)) 501)) _ _ ls e1.2.1 hG hg P (by rw [e1.2.2.1, e1.2.2.2]; exact (lv_sub hl [0, 8, 9, 10, 11, 12, 13, 14, 15, 16, 17, 18, 19, 20, 21] rfl)))
end LC5
