section LC0
variable {p : Program} {l : Launch} {e : Env} {R : Room} {s : State} {m : MethodId} {args : Array Value} {below : List Frame} {meth : Method} {c : Code} {H : Heap} {locs : List Loc} {cells slots : Nat} {Q : State → Prop} {ls : Array Slot} {D : va_G} {A : Nat → Prop} {ret : Option FieldType} {cI cO : ClassId} {t0 : Nat} {η : Eg} {σ L : Sg} {ar : Nat → Nat} {g0 b T : Nat} {k o so hv u w : Int32}
set_option maxHeartbeats 8000000 in
set_option maxRecDepth 100000 in
theorem law_run (hl9 : l.stackTraces = false) (C : Cx RL p s m args meth c cL_law 62 wsL_law ret) (V : EnvV s) (hEC : EnvC s) (K : va_K D vwCl (tyG cI cO) s) (E9 : EnvH t0 A s s.heap) (hRf : 12 ≤ R.frames) (hRl : 452 ≤ R.locals) (hz : cells + 400 ≤ R.cells ∧ slots + 2400 ≤ R.slots) (hT : T < 120) (hTI : TI T σ L) (hG : Gok t0 η σ) (hg : e_ad η 0 = g0) (P : Hp D A s (G_W cI cO η σ ++ Z_W cI ar L) H locs) (hk : vp_in k 5) (ho : vp_in o 5) (hso : 1 ≤ so.toInt ∧ so.toInt ≤ 10002) (hhv : hv = if L.2 1 (ix k) < so then 0 else 1) (hl : lv_has ls 62 [(20, .int 1), (19, .int hv), (18, .int so), (17, .int o), (16, .int k), (15, .int u), (14, .int w), (13, .int (nI T)), (12, .int (σ.1 9)), (11, .int (σ.1 8)), (10, .ref (ar 8)), (9, .ref (ar 7)), (8, .ref (ar 6)), (7, .ref (ar 5)), (6, .ref (ar 4)), (5, .ref (ar 3)), (4, .ref (ar 2)), (3, .ref (ar 1)), (2, .ref (ar 0)), (1, .ref g0), (0, .ref b)]) (kk : ∀ (η : Eg) (σ L : Sg) (H : Heap) (locs : List Loc) (ls : Array Slot), TI (T + 1) σ L → Gok t0 η σ → e_ad η 0 = g0 → Hp D A s (G_W cI cO η σ ++ Z_W cI ar L) H locs → lv_has ls 62 [(20, .int 1), (13, .int (nI T)), (12, .int (σ.1 9)), (11, .int (σ.1 8)), (10, .ref (ar 8)), (9, .ref (ar 7)), (8, .ref (ar 6)), (7, .ref (ar 5)), (6, .ref (ar 4)), (5, .ref (ar 3)), (4, .ref (ar 2)), (3, .ref (ar 1)), (2, .ref (ar 0)), (1, .ref g0), (0, .ref b)] → W p l e R s m args below meth c H locs (cells + 12) (slots + 500) Q (F0 m 2755 ls [])) : W p l e R s m args below meth c H locs cells slots Q (F0 m 340 ls []) := by
  have hx := C.1
  have hb := C.2.1
  have hown := C.2.2.2.1
  have hts := C.2.2.2.2.1
  refine lv_iload (pc := 340) hx hb dL_law_340 (lv_at hl 9 rfl) ?_
  refine lv_bipush (pc := 342) (v := 60) hx hb dL_law_342 (by decide) ?_
  refine lv_icmp_ne (pc := 344) (tgt := 350) hx hb dL_law_344 (by decide) (fun (c344 : ¬ (σ.1 8) = 60) => ?_) (fun (c344 : (σ.1 8) = 60) => ?_)
  · refine lv_sipush (pc := 350) (v := 1000) hx hb dL_law_350 (by decide) ?_
    refine lv_iload (pc := 353) hx hb dL_law_353 (lv_at hl 5 rfl) ?_
    refine lv_sipush (pc := 355) (v := 8000) hx hb dL_law_355 (by decide) ?_
    refine S_call (pc := 358) (As := [.int u, .int 8000]) (rest := [.int 1000]) (r := z_low u 8000) C hl.1 (kL_low l u 8000 (by decide)) fnL_low gL_law_L_low rfl rfl ⟨Nat.le_trans (Nat.le_of_ble_eq_true rfl) hRf, Nat.le_trans (Nat.le_of_ble_eq_true rfl) hRl⟩ (Nat.le_of_ble_eq_true rfl) ⟨by omega, by omega⟩ dL_law_358 ?_
    refine lv_iadd (pc := 361) hx hb dL_law_361 ?_
    refine lv_topi (fun (wash : Int32) (hwash : wash = (1000 + (z_low u 8000) : Int32)) => ?_)
    refine lv_istore (pc := 362) (lv' := [(21, .int wash), (20, .int 1), (19, .int hv), (18, .int so), (17, .int o), (16, .int k), (15, .int u), (14, .int w), (13, .int (nI T)), (12, .int (σ.1 9)), (11, .int (σ.1 8)), (10, .ref (ar 8)), (9, .ref (ar 7)), (8, .ref (ar 6)), (7, .ref (ar 5)), (6, .ref (ar 4)), (5, .ref (ar 3)), (4, .ref (ar 2)), (3, .ref (ar 1)), (2, .ref (ar 0)), (1, .ref g0), (0, .ref b)]) hx hb dL_law_362 hl (by decide) rfl (fun ls hl => ?_)
    refine lv_iconst (pc := 364) (v := 1) hx hb dL_law_364 (by decide) ?_
    refine lv_iload (pc := 365) hx hb dL_law_365 (lv_at hl 6 rfl) ?_
    refine lv_bipush (pc := 367) (v := 9) hx hb dL_law_367 (by decide) ?_
    refine lv_ishr (pc := 369) hx hb dL_law_369 ?_
    refine lv_sipush (pc := 370) (v := 300) hx hb dL_law_370 (by decide) ?_
    refine S_call (pc := 373) (As := [.int (u >>> (9 &&& 31)), .int 300]) (rest := [.int 1]) (r := z_low (u >>> (9 &&& 31)) 300) C hl.1 (kL_low l (u >>> (9 &&& 31)) 300 (by decide)) fnL_low gL_law_L_low rfl rfl ⟨Nat.le_trans (Nat.le_of_ble_eq_true rfl) hRf, Nat.le_trans (Nat.le_of_ble_eq_true rfl) hRl⟩ (Nat.le_of_ble_eq_true rfl) ⟨by omega, by omega⟩ dL_law_373 ?_
    refine lv_iadd (pc := 376) hx hb dL_law_376 ?_
    refine lv_topi (fun (hard : Int32) (hhard : hard = (1 + (z_low (u >>> ((9 &&& 31) : Int32)) 300) : Int32)) => ?_)
    refine lv_istore (pc := 377) (lv' := [(22, .int hard), (21, .int wash), (20, .int 1), (19, .int hv), (18, .int so), (17, .int o), (16, .int k), (15, .int u), (14, .int w), (13, .int (nI T)), (12, .int (σ.1 9)), (11, .int (σ.1 8)), (10, .ref (ar 8)), (9, .ref (ar 7)), (8, .ref (ar 6)), (7, .ref (ar 5)), (6, .ref (ar 4)), (5, .ref (ar 3)), (4, .ref (ar 2)), (3, .ref (ar 1)), (2, .ref (ar 0)), (1, .ref g0), (0, .ref b)]) hx hb dL_law_377 hl (by decide) rfl (fun ls hl => ?_)
    refine lv_sipush (pc := 379) (v := 500) hx hb dL_law_379 (by decide) ?_
    refine lv_iload (pc := 382) hx hb dL_law_382 (lv_at hl 7 rfl) ?_
    refine lv_bipush (pc := 384) (v := 13) hx hb dL_law_384 (by decide) ?_
    refine lv_ishr (pc := 386) hx hb dL_law_386 ?_
    refine lv_sipush (pc := 387) (v := 461) hx hb dL_law_387 (by decide) ?_
    refine S_call (pc := 390) (As := [.int (u >>> (13 &&& 31)), .int 461]) (rest := [.int 500]) (r := z_low (u >>> (13 &&& 31)) 461) C hl.1 (kL_low l (u >>> (13 &&& 31)) 461 (by decide)) fnL_low gL_law_L_low rfl rfl ⟨Nat.le_trans (Nat.le_of_ble_eq_true rfl) hRf, Nat.le_trans (Nat.le_of_ble_eq_true rfl) hRl⟩ (Nat.le_of_ble_eq_true rfl) ⟨by omega, by omega⟩ dL_law_390 ?_
    refine lv_iadd (pc := 393) hx hb dL_law_393 ?_
    refine lv_topi (fun (stre : Int32) (hstre : stre = (500 + (z_low (u >>> ((13 &&& 31) : Int32)) 461) : Int32)) => ?_)
    refine lv_istore (pc := 394) (lv' := [(23, .int stre), (22, .int hard), (21, .int wash), (20, .int 1), (19, .int hv), (18, .int so), (17, .int o), (16, .int k), (15, .int u), (14, .int w), (13, .int (nI T)), (12, .int (σ.1 9)), (11, .int (σ.1 8)), (10, .ref (ar 8)), (9, .ref (ar 7)), (8, .ref (ar 6)), (7, .ref (ar 5)), (6, .ref (ar 4)), (5, .ref (ar 3)), (4, .ref (ar 2)), (3, .ref (ar 1)), (2, .ref (ar 0)), (1, .ref g0), (0, .ref b)]) hx hb dL_law_394 hl (by decide) rfl (fun ls hl => ?_)
    refine lv_iconst (pc := 396) (v := 1) hx hb dL_law_396 (by decide) ?_
    refine lv_iload (pc := 397) hx hb dL_law_397 (lv_at hl 2 rfl) ?_
    refine lv_iload (pc := 399) hx hb dL_law_399 (lv_at hl 1 rfl) ?_
    refine lv_imul (pc := 401) hx hb dL_law_401 ?_
    refine lv_iload (pc := 402) hx hb dL_law_402 (lv_at hl 0 rfl) ?_
    refine lv_idiv (pc := 404) hx hb dL_law_404 (stre_n hstre) ?_
    refine lv_bipush (pc := 405) (v := 85) hx hb dL_law_405 (by decide) ?_
    refine lv_iload (pc := 407) hx hb dL_law_407 (lv_at hl 8 rfl) ?_
    refine lv_bipush (pc := 409) (v := 18) hx hb dL_law_409 (by decide) ?_
    refine lv_ishr (pc := 411) hx hb dL_law_411 ?_
    refine lv_bipush (pc := 412) (v := 17) hx hb dL_law_412 (by decide) ?_
    refine S_call (pc := 414) (As := [.int (u >>> (18 &&& 31)), .int 17]) (rest := [.int 85, .int ((wash * hard) / stre), .int 1]) (r := z_low (u >>> (18 &&& 31)) 17) C hl.1 (kL_low l (u >>> (18 &&& 31)) 17 (by decide)) fnL_low gL_law_L_low rfl rfl ⟨Nat.le_trans (Nat.le_of_ble_eq_true rfl) hRf, Nat.le_trans (Nat.le_of_ble_eq_true rfl) hRl⟩ (Nat.le_of_ble_eq_true rfl) ⟨by omega, by omega⟩ dL_law_414 ?_
    refine lv_iadd (pc := 417) hx hb dL_law_417 ?_
    refine lv_imul (pc := 418) hx hb dL_law_418 ?_
    refine lv_bipush (pc := 419) (v := 100) hx hb dL_law_419 (by decide) ?_
    refine lv_idiv (pc := 421) hx hb dL_law_421 (by decide) ?_
    refine lv_iadd (pc := 422) hx hb dL_law_422 ?_
    refine lv_topi (fun (came : Int32) (hcame : came = (1 + ((((wash * hard) / stre) * (85 + (z_low (u >>> ((18 &&& 31) : Int32)) 17))) / 100) : Int32)) => ?_)
    refine lv_istore (pc := 423) (lv' := [(24, .int came), (23, .int stre), (22, .int hard), (21, .int wash), (20, .int 1), (19, .int hv), (18, .int so), (17, .int o), (16, .int k), (15, .int u), (14, .int w), (13, .int (nI T)), (12, .int (σ.1 9)), (11, .int (σ.1 8)), (10, .ref (ar 8)), (9, .ref (ar 7)), (8, .ref (ar 6)), (7, .ref (ar 5)), (6, .ref (ar 4)), (5, .ref (ar 3)), (4, .ref (ar 2)), (3, .ref (ar 1)), (2, .ref (ar 0)), (1, .ref g0), (0, .ref b)]) hx hb dL_law_423 hl (by decide) rfl (fun ls hl => ?_)
    refine lv_iload (pc := 425) hx hb dL_law_425 (lv_at hl 0 rfl) ?_
    refine lv_sipush (pc := 427) (v := 9999) hx hb dL_law_427 (by decide) ?_
    refine lv_mergeI (M := 441) (T := if came ≤ 9999 then came else 9999) (rest := []) (fun hm => ?_) (fun (m430 : Int32) (hm430 : m430 = (if came ≤ 9999 then came else 9999 : Int32)) => ?_)
    · refine lv_icmp_le (pc := 430) (tgt := 439) hx hb dL_law_430 (by decide) (fun (c430 : came ≤ 9999) => ?_) (fun (c430 : ¬ came ≤ 9999) => ?_)
      · refine lv_iload (pc := 439) hx hb dL_law_439 (lv_at hl 0 rfl) ?_
        exact hm _ (by rw [if_pos c430])
      · refine lv_sipush (pc := 433) (v := 9999) hx hb dL_law_433 (by decide) ?_
        refine lv_goto (pc := 436) (tgt := 441) hx hb dL_law_436 (by decide) ?_
        exact hm _ (by rw [if_neg c430])
    have hwb := wash_b hwash
    have hhb := hard_b hhard
    have hsb := stre_b hstre
    have hcb := came_b hwb hhb hsb hcame hm430
    refine lv_istore (pc := 441) (lv' := [(24, .int m430), (23, .int stre), (22, .int hard), (21, .int wash), (20, .int 1), (19, .int hv), (18, .int so), (17, .int o), (16, .int k), (15, .int u), (14, .int w), (13, .int (nI T)), (12, .int (σ.1 9)), (11, .int (σ.1 8)), (10, .ref (ar 8)), (9, .ref (ar 7)), (8, .ref (ar 6)), (7, .ref (ar 5)), (6, .ref (ar 4)), (5, .ref (ar 3)), (4, .ref (ar 2)), (3, .ref (ar 1)), (2, .ref (ar 0)), (1, .ref g0), (0, .ref b)]) hx hb dL_law_441 hl (by decide) rfl (fun ls hl => ?_)
    refine lv_iload (pc := 443) hx hb dL_law_443 (lv_at hl 0 rfl) ?_
    refine lv_iload (pc := 445) hx hb dL_law_445 (lv_at hl 1 rfl) ?_
    refine lv_imul (pc := 447) hx hb dL_law_447 ?_
    refine lv_iload (pc := 448) hx hb dL_law_448 (lv_at hl 3 rfl) ?_
    refine lv_iload (pc := 450) hx hb dL_law_450 (lv_at hl 2 rfl) ?_
    refine lv_imul (pc := 452) hx hb dL_law_452 ?_
    refine lv_mergeI (M := 475) (T := if (wash * hard) < (m430 * stre) then 0 else (if (L.2 0 (ix k)) < ((L.2 1 (ix k)) + m430) then 0 else 1)) (rest := []) (fun hm => ?_) (fun (m453 : Int32) (hm453 : m453 = (if (wash * hard) < (m430 * stre) then 0 else (if (L.2 0 (ix k)) < ((L.2 1 (ix k)) + m430) then 0 else 1) : Int32)) => ?_)
    · refine lv_icmp_gt (pc := 453) (tgt := 474) hx hb dL_law_453 (by decide) (fun (c453 : (wash * hard) < (m430 * stre)) => ?_) (fun (c453 : ¬ (wash * hard) < (m430 * stre)) => ?_)
      · refine lv_iconst (pc := 474) (v := 0) hx hb dL_law_474 (by decide) ?_
        exact hm _ (by rw [if_pos c453])
      · refine lv_aload_n (pc := 456) hx hb dL_law_456 rfl (lv_at hl 21 rfl) ?_
        refine lv_iload (pc := 457) hx hb dL_law_457 (lv_at hl 8 rfl) ?_
        refine Z_ald (pc := 459) (j := 1) (v := L.2 1 (ix k)) C K P rfl hk rfl dL_law_459 ?_
        refine lv_iload (pc := 460) hx hb dL_law_460 (lv_at hl 0 rfl) ?_
        refine lv_iadd (pc := 462) hx hb dL_law_462 ?_
        refine lv_aload_n (pc := 463) hx hb dL_law_463 rfl (lv_at hl 22 rfl) ?_
        refine lv_iload (pc := 464) hx hb dL_law_464 (lv_at hl 8 rfl) ?_
        refine Z_ald (pc := 466) (j := 0) (v := L.2 0 (ix k)) C K P rfl hk rfl dL_law_466 ?_
        refine lv_icmp_gt (pc := 467) (tgt := 474) hx hb dL_law_467 (by decide) (fun (c467 : (L.2 0 (ix k)) < ((L.2 1 (ix k)) + m430)) => ?_) (fun (c467 : ¬ (L.2 0 (ix k)) < ((L.2 1 (ix k)) + m430)) => ?_)
        · refine lv_iconst (pc := 474) (v := 0) hx hb dL_law_474 (by decide) ?_
          exact hm _ (by rw [if_neg c453, if_pos c467])
        · refine lv_iconst (pc := 470) (v := 1) hx hb dL_law_470 (by decide) ?_
          refine lv_goto (pc := 471) (tgt := 475) hx hb dL_law_471 (by decide) ?_
          exact hm _ (by rw [if_neg c453, if_neg c467])
    refine lv_istore (pc := 475) (lv' := [(25, .int m453), (24, .int m430), (23, .int stre), (22, .int hard), (21, .int wash), (20, .int 1), (19, .int hv), (18, .int so), (17, .int o), (16, .int k), (15, .int u), (14, .int w), (13, .int (nI T)), (12, .int (σ.1 9)), (11, .int (σ.1 8)), (10, .ref (ar 8)), (9, .ref (ar 7)), (8, .ref (ar 6)), (7, .ref (ar 5)), (6, .ref (ar 4)), (5, .ref (ar 3)), (4, .ref (ar 2)), (3, .ref (ar 1)), (2, .ref (ar 0)), (1, .ref g0), (0, .ref b)]) hx hb dL_law_475 hl (by decide) rfl (fun ls hl => ?_)
    refine lv_bipush (pc := 477) (v := 9) hx hb dL_law_477 (by decide) ?_
    refine lv_iload (pc := 479) hx hb dL_law_479 (lv_at hl 4 rfl) ?_
    refine lv_imul (pc := 481) hx hb dL_law_481 ?_
    refine lv_iload (pc := 482) hx hb dL_law_482 (lv_at hl 3 rfl) ?_
    refine lv_imul (pc := 484) hx hb dL_law_484 ?_
    refine lv_bipush (pc := 485) (v := 10) hx hb dL_law_485 (by decide) ?_
    refine lv_idiv (pc := 487) hx hb dL_law_487 (by decide) ?_
    refine lv_iload (pc := 488) hx hb dL_law_488 (lv_at hl 1 rfl) ?_
    refine lv_iload (pc := 490) hx hb dL_law_490 (lv_at hl 2 rfl) ?_
    refine lv_imul (pc := 492) hx hb dL_law_492 ?_
    refine lv_isub (pc := 493) hx hb dL_law_493 ?_
    refine lv_istore (pc := 494) (lv' := [(26, .int ((((9 * wash) * hard) / 10) - (m430 * stre))), (25, .int m453), (24, .int m430), (23, .int stre), (22, .int hard), (21, .int wash), (20, .int 1), (19, .int hv), (18, .int so), (17, .int o), (16, .int k), (15, .int u), (14, .int w), (13, .int (nI T)), (12, .int (σ.1 9)), (11, .int (σ.1 8)), (10, .ref (ar 8)), (9, .ref (ar 7)), (8, .ref (ar 6)), (7, .ref (ar 5)), (6, .ref (ar 4)), (5, .ref (ar 3)), (4, .ref (ar 2)), (3, .ref (ar 1)), (2, .ref (ar 0)), (1, .ref g0), (0, .ref b)]) hx hb dL_law_494 hl (by decide) rfl (fun ls hl => ?_)
    refine lv_iload (pc := 496) hx hb dL_law_496 (lv_at hl 0 rfl) ?_
    refine lv_mergeI (M := 507) (T := if 0 ≤ ((((9 * wash) * hard) / 10) - (m430 * stre)) then ((((9 * wash) * hard) / 10) - (m430 * stre)) else 0) (rest := []) (fun hm => ?_) (fun (m498 : Int32) (hm498 : m498 = (if 0 ≤ ((((9 * wash) * hard) / 10) - (m430 * stre)) then ((((9 * wash) * hard) / 10) - (m430 * stre)) else 0 : Int32)) => ?_)
    · refine lv_if_ge (pc := 498) (tgt := 505) hx hb dL_law_498 (by decide) (fun (c498 : 0 ≤ ((((9 * wash) * hard) / 10) - (m430 * stre))) => ?_) (fun (c498 : ¬ 0 ≤ ((((9 * wash) * hard) / 10) - (m430 * stre))) => ?_)
      · refine lv_iload (pc := 505) hx hb dL_law_505 (lv_at hl 0 rfl) ?_
        exact hm _ (by rw [if_pos c498])
      · refine lv_iconst (pc := 501) (v := 0) hx hb dL_law_501 (by decide) ?_
        refine lv_goto (pc := 502) (tgt := 507) hx hb dL_law_502 (by decide) ?_
        exact hm _ (by rw [if_neg c498])
    refine lv_istore (pc := 507) (lv' := [(26, .int m498), (25, .int m453), (24, .int m430), (23, .int stre), (22, .int hard), (21, .int wash), (20, .int 1), (19, .int hv), (18, .int so), (17, .int o), (16, .int k), (15, .int u), (14, .int w), (13, .int (nI T)), (12, .int (σ.1 9)), (11, .int (σ.1 8)), (10, .ref (ar 8)), (9, .ref (ar 7)), (8, .ref (ar 6)), (7, .ref (ar 5)), (6, .ref (ar 4)), (5, .ref (ar 3)), (4, .ref (ar 2)), (3, .ref (ar 1)), (2, .ref (ar 0)), (1, .ref g0), (0, .ref b)]) hx hb dL_law_507 hl (by decide) rfl (fun ls hl => ?_)
    refine lv_aload_n (pc := 509) hx hb dL_law_509 rfl (lv_at hl 25 rfl) ?_
    refine lv_iload (pc := 510) hx hb dL_law_510 (lv_at hl 10 rfl) ?_
    refine lv_iload (pc := 512) hx hb dL_law_512 (lv_at hl 5 rfl) ?_
    refine lv_iload (pc := 514) hx hb dL_law_514 (lv_at hl 4 rfl) ?_
    refine lv_iload (pc := 516) hx hb dL_law_516 (lv_at hl 2 rfl) ?_
    refine lv_iload (pc := 518) hx hb dL_law_518 (lv_at hl 3 rfl) ?_
    refine T_callW (pc := 520) (As0 := [.int k, .int wash, .int hard, .int m430, .int stre]) (rest := []) (v := an (g_run σ k wash hard m430 stre)) (τ := (g_run σ k wash hard m430 stre).2.2) C V hEC K E9 hl.1 hg P (kL_run l hl9 D cI cO t0 η σ k wash hard m430 stre hG (fun _ => gk_run hG _ _ _ _ _)) fnL_run ⟨rfl, rfl⟩ gL_law_L_run rfl rfl ⟨Nat.le_trans (Nat.le_of_ble_eq_true rfl) hRf, Nat.le_trans (Nat.le_of_ble_eq_true rfl) hRl⟩ (Nat.le_of_ble_eq_true rfl) ⟨by omega, by omega⟩ dL_law_520 (fun η H locs (P : Hp D A s (G_W cI cO η (g_run σ k wash hard m430 stre).2.2 ++ Z_W cI ar L) H locs) (hG : Gok t0 η (g_run σ k wash hard m430 stre).2.2) hg => ?_)
    refine lv_iload (pc := 523) hx hb dL_law_523 (lv_at hl 1 rfl) ?_
    refine lv_if_eq (pc := 525) (tgt := 533) hx hb dL_law_525 (by decide) (fun (c525 : m453 = 0) => ?_) (fun (c525 : ¬ m453 = 0) => ?_)
    · have e1 : an (g_run σ k wash hard m430 stre) = (-2000000003) ∧ _ := p_run_no hTI hk hwb hhb hcb hsb hm453 c525
      refine lv_ldc (pc := 533) (v := (-2000000003)) hx hb hown (hts _ lc_22) dL_law_533 ?_
      refine lv_icmp_ne (pc := 535) (tgt := 542) hx hb dL_law_535 (by decide) (fun g => absurd e1.1 g) (fun _ => ?_)
      refine lv_iconst (pc := 538) (v := 1) hx hb dL_law_538 (by decide) ?_
      refine lv_goto (pc := 539) (tgt := 543) hx hb dL_law_539 (by decide) ?_
      refine lv_istore (pc := 543) (lv' := [(20, .int 1), (26, .int m498), (25, .int m453), (24, .int m430), (23, .int stre), (22, .int hard), (21, .int wash), (19, .int hv), (18, .int so), (17, .int o), (16, .int k), (15, .int u), (14, .int w), (13, .int (nI T)), (12, .int (σ.1 9)), (11, .int (σ.1 8)), (10, .ref (ar 8)), (9, .ref (ar 7)), (8, .ref (ar 6)), (7, .ref (ar 5)), (6, .ref (ar 4)), (5, .ref (ar 3)), (4, .ref (ar 2)), (3, .ref (ar 1)), (2, .ref (ar 0)), (1, .ref g0), (0, .ref b)]) hx hb dL_law_543 hl (by decide) rfl (fun ls hl => ?_)
      refine lv_iload (pc := 545) hx hb dL_law_545 (lv_at hl 2 rfl) ?_
      refine lv_if_ne (pc := 547) (tgt := 553) hx hb dL_law_547 (by decide) (fun g => absurd c525 g) (fun _ => ?_)
      refine lv_goto (pc := 550) (tgt := 2755) hx hb dL_law_550 (by decide) ?_
      exact W.widen (by omega) (by omega) (kk η ((g_run σ k wash hard m430 stre).2.2) L _ _ ls (by rw [e1.2]; exact ti_up hTI) hG hg P (by rw [e1.2]; exact (lv_sub hl [0, 13, 14, 15, 16, 17, 18, 19, 20, 21, 22, 23, 24, 25, 26] rfl)))
    · have e1 : an (g_run σ k wash hard m430 stre) = m498 ∧ _ := p_run_yes hT hTI hk hwb hhb hcb hsb hm453 c525 hm498 c344
      refine lv_iload (pc := 528) hx hb dL_law_528 (lv_at hl 0 rfl) ?_
      refine lv_goto (pc := 530) (tgt := 535) hx hb dL_law_530 (by decide) ?_
      refine lv_icmp_ne (pc := 535) (tgt := 542) hx hb dL_law_535 (by decide) (fun g => absurd e1.1 g) (fun _ => ?_)
      refine lv_iconst (pc := 538) (v := 1) hx hb dL_law_538 (by decide) ?_
      refine lv_goto (pc := 539) (tgt := 543) hx hb dL_law_539 (by decide) ?_
      refine lv_istore (pc := 543) (lv' := [(20, .int 1), (26, .int m498), (25, .int m453), (24, .int m430), (23, .int stre), (22, .int hard), (21, .int wash), (19, .int hv), (18, .int so), (17, .int o), (16, .int k), (15, .int u), (14, .int w), (13, .int (nI T)), (12, .int (σ.1 9)), (11, .int (σ.1 8)), (10, .ref (ar 8)), (9, .ref (ar 7)), (8, .ref (ar 6)), (7, .ref (ar 5)), (6, .ref (ar 4)), (5, .ref (ar 3)), (4, .ref (ar 2)), (3, .ref (ar 1)), (2, .ref (ar 0)), (1, .ref g0), (0, .ref b)]) hx hb dL_law_543 hl (by decide) rfl (fun ls hl => ?_)
      refine lv_iload (pc := 545) hx hb dL_law_545 (lv_at hl 2 rfl) ?_
      refine lv_if_ne (pc := 547) (tgt := 553) hx hb dL_law_547 (by decide) (fun _ => ?_) (fun g => absurd g c525)
      refine lv_iinc (pc := 553) (v := (σ.1 8) + 1) (lv' := [(11, .int ((σ.1 8) + 1)), (20, .int 1), (26, .int m498), (25, .int m453), (24, .int m430), (23, .int stre), (22, .int hard), (21, .int wash), (19, .int hv), (18, .int so), (17, .int o), (16, .int k), (15, .int u), (14, .int w), (13, .int (nI T)), (12, .int (σ.1 9)), (10, .ref (ar 8)), (9, .ref (ar 7)), (8, .ref (ar 6)), (7, .ref (ar 5)), (6, .ref (ar 4)), (5, .ref (ar 3)), (4, .ref (ar 2)), (3, .ref (ar 1)), (2, .ref (ar 0)), (1, .ref g0), (0, .ref b)]) hx hb dL_law_553 hl (k := 15) rfl (rfl) (by decide) rfl (fun ls hl => ?_)
      refine lv_aload (pc := 556) hx hb dL_law_556 (lv_at hl 20 rfl) ?_
      refine lv_bipush (pc := 558) (v := 15) hx hb dL_law_558 (by decide) ?_
      refine lv_dup2_11 (pc := 560) hx hb dL_law_560 rfl rfl ?_
      refine Z_ald (pc := 561) (j := 4) (v := L.2 4 15) C K P rfl (vp_dec (by decide)) rfl dL_law_561 ?_
      refine lv_iload (pc := 562) hx hb dL_law_562 (lv_at hl 2 rfl) ?_
      refine lv_iadd (pc := 564) hx hb dL_law_564 ?_
      refine Z_ast (pc := 565) (j := 4) (n := 16) (x := (L.2 4 15) + m498) C K P (zj4 _) (vp_dec (by decide)) (zs4 _ _ _) dL_law_565 (fun H locs (P : Hp D A s (G_W cI cO η (g_run σ k wash hard m430 stre).2.2 ++ Z_W cI ar (bs L 4 15 ((L.2 4 15) + m498))) H locs) => ?_)
      refine lv_aload (pc := 566) hx hb dL_law_566 (lv_at hl 20 rfl) ?_
      refine lv_iconst (pc := 568) (v := 2) hx hb dL_law_568 (by decide) ?_
      refine lv_dup2_11 (pc := 569) hx hb dL_law_569 rfl rfl ?_
      refine Z_ald (pc := 570) (j := 4) (v := L.2 4 2) C K P rfl (vp_dec (by decide)) rfl dL_law_570 ?_
      refine lv_iload (pc := 571) hx hb dL_law_571 (lv_at hl 2 rfl) ?_
      refine lv_aload (pc := 573) hx hb dL_law_573 (lv_at hl 20 rfl) ?_
      refine lv_iconst (pc := 575) (v := 1) hx hb dL_law_575 (by decide) ?_
      refine Z_ald (pc := 576) (j := 4) (v := L.2 4 1) C K P rfl (vp_dec (by decide)) rfl dL_law_576 ?_
      refine lv_sipush (pc := 577) (v := 1000) hx hb dL_law_577 (by decide) ?_
      refine S_call (pc := 580) (As := [.int m498, .int (L.2 4 1), .int 1000]) (rest := [.int (L.2 4 2), .int 2, .ref (ar 4)]) (r := m_part m498 (L.2 4 1) 1000) C hl.1 (kL_times l m498 (L.2 4 1) 1000 (by decide)) fnL_times gL_law_L_times rfl rfl ⟨Nat.le_trans (Nat.le_of_ble_eq_true rfl) hRf, Nat.le_trans (Nat.le_of_ble_eq_true rfl) hRl⟩ (Nat.le_of_ble_eq_true rfl) ⟨by omega, by omega⟩ dL_law_580 ?_
      refine lv_iadd (pc := 583) hx hb dL_law_583 ?_
      refine Z_ast (pc := 584) (j := 4) (n := 16) (x := (L.2 4 2) + (m_part m498 (L.2 4 1) 1000)) C K P (zj4 _) (vp_dec (by decide)) (zs4 _ _ _) dL_law_584 (fun H locs (P : Hp D A s (G_W cI cO η (g_run σ k wash hard m430 stre).2.2 ++ Z_W cI ar (bs (bs L 4 15 ((L.2 4 15) + m498)) 4 2 ((L.2 4 2) + (m_part m498 (L.2 4 1) 1000)))) H locs) => ?_)
      refine lv_aload (pc := 585) hx hb dL_law_585 (lv_at hl 20 rfl) ?_
      refine lv_bipush (pc := 587) (v := 11) hx hb dL_law_587 (by decide) ?_
      refine lv_dup2_11 (pc := 589) hx hb dL_law_589 rfl rfl ?_
      refine Z_ald (pc := 590) (j := 4) (v := L.2 4 11) C K P rfl (vp_dec (by decide)) rfl dL_law_590 ?_
      refine lv_iload (pc := 591) hx hb dL_law_591 (lv_at hl 4 rfl) ?_
      refine lv_iload (pc := 593) hx hb dL_law_593 (lv_at hl 5 rfl) ?_
      refine lv_imul (pc := 595) hx hb dL_law_595 ?_
      refine lv_iadd (pc := 596) hx hb dL_law_596 ?_
      refine Z_ast (pc := 597) (j := 4) (n := 16) (x := (L.2 4 11) + (m430 * stre)) C K P (zj4 _) (vp_dec (by decide)) (zs4 _ _ _) dL_law_597 (fun H locs (P : Hp D A s (G_W cI cO η (g_run σ k wash hard m430 stre).2.2 ++ Z_W cI ar (bs (bs (bs L 4 15 ((L.2 4 15) + m498)) 4 2 ((L.2 4 2) + (m_part m498 (L.2 4 1) 1000))) 4 11 ((L.2 4 11) + (m430 * stre)))) H locs) => ?_)
      refine lv_iload (pc := 598) hx hb dL_law_598 (lv_at hl 11 rfl) ?_
      refine lv_iload (pc := 600) hx hb dL_law_600 (lv_at hl 4 rfl) ?_
      refine lv_iload (pc := 602) hx hb dL_law_602 (lv_at hl 4 rfl) ?_
      refine lv_iload (pc := 604) hx hb dL_law_604 (lv_at hl 5 rfl) ?_
      refine lv_imul (pc := 606) hx hb dL_law_606 ?_
      refine lv_aload_n (pc := 607) hx hb dL_law_607 rfl (lv_at hl 23 rfl) ?_
      refine lv_aload (pc := 608) hx hb dL_law_608 (lv_at hl 22 rfl) ?_
      refine Z_callv (pc := 610) (As := [.int k, .int m430, .int (m430 * stre), .ref (ar 1), .ref (ar 2)]) (rest := []) C K P hl.1 (kL_pours l D cI ar (bs (bs (bs L 4 15 ((L.2 4 15) + m498)) 4 2 ((L.2 4 2) + (m_part m498 (L.2 4 1) 1000))) 4 11 ((L.2 4 11) + (m430 * stre))) k m430 (m430 * stre) hk) fnL_pours gL_law_L_pours rfl rfl ⟨Nat.le_trans (Nat.le_of_ble_eq_true rfl) hRf, Nat.le_trans (Nat.le_of_ble_eq_true rfl) hRl⟩ (Nat.le_of_ble_eq_true rfl) ⟨by omega, by omega⟩ dL_law_610 (fun H locs (P : Hp D A s (G_W cI cO η (g_run σ k wash hard m430 stre).2.2 ++ Z_W cI ar (z_pours (bs (bs (bs L 4 15 ((L.2 4 15) + m498)) 4 2 ((L.2 4 2) + (m_part m498 (L.2 4 1) 1000))) 4 11 ((L.2 4 11) + (m430 * stre))) k m430 (m430 * stre)).2) H locs) => ?_)
      refine lv_goto (pc := 613) (tgt := 2755) hx hb dL_law_613 (by decide) ?_
      exact W.widen (by omega) (by omega) (kk η ((g_run σ k wash hard m430 stre).2.2) ((z_pours (bs (bs (bs L 4 15 ((L.2 4 15) + m498)) 4 2 ((L.2 4 2) + (m_part m498 (L.2 4 1) 1000))) 4 11 ((L.2 4 11) + (m430 * stre))) k m430 (m430 * stre)).2) _ _ ls e1.2.1 hG hg P (by rw [e1.2.2.1, e1.2.2.2]; exact (lv_sub hl [1, 14, 15, 0, 16, 17, 18, 19, 20, 21, 22, 23, 24, 25, 26] rfl)))
  · refine lv_goto (pc := 347) (tgt := 2755) hx hb dL_law_347 (by decide) ?_
    exact W.widen (by omega) (by omega) (kk η σ L _ _ ls (ti_up hTI) hG hg P (lv_sub hl [0, 7, 8, 9, 10, 11, 12, 13, 14, 15, 16, 17, 18, 19, 20] rfl))
set_option maxHeartbeats 8000000 in
set_option maxRecDepth 100000 in
theorem law_move (hl9 : l.stackTraces = false) (C : Cx RL p s m args meth c cL_law 62 wsL_law ret) (V : EnvV s) (hEC : EnvC s) (K : va_K D vwCl (tyG cI cO) s) (E9 : EnvH t0 A s s.heap) (hRf : 12 ≤ R.frames) (hRl : 452 ≤ R.locals) (hz : cells + 400 ≤ R.cells ∧ slots + 2400 ≤ R.slots) (hT : T < 120) (hTI : TI T σ L) (hG : Gok t0 η σ) (hg : e_ad η 0 = g0) (P : Hp D A s (G_W cI cO η σ ++ Z_W cI ar L) H locs) (hk : vp_in k 5) (ho : vp_in o 5) (hso : 1 ≤ so.toInt ∧ so.toInt ≤ 10002) (hhv : hv = if L.2 1 (ix k) < so then 0 else 1) (hl : lv_has ls 62 [(20, .int 1), (19, .int hv), (18, .int so), (17, .int o), (16, .int k), (15, .int u), (14, .int w), (13, .int (nI T)), (12, .int (σ.1 9)), (11, .int (σ.1 8)), (10, .ref (ar 8)), (9, .ref (ar 7)), (8, .ref (ar 6)), (7, .ref (ar 5)), (6, .ref (ar 4)), (5, .ref (ar 3)), (4, .ref (ar 2)), (3, .ref (ar 1)), (2, .ref (ar 0)), (1, .ref g0), (0, .ref b)]) (kk : ∀ (η : Eg) (σ L : Sg) (H : Heap) (locs : List Loc) (ls : Array Slot), TI (T + 1) σ L → Gok t0 η σ → e_ad η 0 = g0 → Hp D A s (G_W cI cO η σ ++ Z_W cI ar L) H locs → lv_has ls 62 [(20, .int 1), (13, .int (nI T)), (12, .int (σ.1 9)), (11, .int (σ.1 8)), (10, .ref (ar 8)), (9, .ref (ar 7)), (8, .ref (ar 6)), (7, .ref (ar 5)), (6, .ref (ar 4)), (5, .ref (ar 3)), (4, .ref (ar 2)), (3, .ref (ar 1)), (2, .ref (ar 0)), (1, .ref g0), (0, .ref b)] → W p l e R s m args below meth c H locs (cells + 12) (slots + 500) Q (F0 m 2755 ls [])) : W p l e R s m args below meth c H locs cells slots Q (F0 m 616 ls []) := by
  have hx := C.1
  have hb := C.2.1
  have hown := C.2.2.2.1
  have hts := C.2.2.2.2.1
  refine lv_iload (pc := 616) hx hb dL_law_616 (lv_at hl 4 rfl) ?_
  refine lv_iload (pc := 618) hx hb dL_law_618 (lv_at hl 3 rfl) ?_
  refine lv_icmp_ne (pc := 620) (tgt := 647) hx hb dL_law_620 (by decide) (fun (c620 : ¬ k = o) => ?_) (fun (c620 : k = o) => ?_)
  · refine lv_iload (pc := 647) hx hb dL_law_647 (lv_at hl 4 rfl) ?_
    refine lv_iconst (pc := 649) (v := 3) hx hb dL_law_649 (by decide) ?_
    refine lv_irem (pc := 650) hx hb dL_law_650 (by decide) ?_
    refine lv_iload (pc := 651) hx hb dL_law_651 (lv_at hl 3 rfl) ?_
    refine lv_iconst (pc := 653) (v := 3) hx hb dL_law_653 (by decide) ?_
    refine lv_irem (pc := 654) hx hb dL_law_654 (by decide) ?_
    refine lv_mergeI (M := 682) (T := if (k - k / 3 * 3) = (o - o / 3 * 3) then (if hv = 0 then 0 else (if (L.2 0 (ix o)) < ((L.2 1 (ix o)) + so) then 0 else 1)) else 0) (rest := []) (fun hm => ?_) (fun (m655 : Int32) (hm655 : m655 = (if (k - k / 3 * 3) = (o - o / 3 * 3) then (if hv = 0 then 0 else (if (L.2 0 (ix o)) < ((L.2 1 (ix o)) + so) then 0 else 1)) else 0 : Int32)) => ?_)
    · refine lv_icmp_ne (pc := 655) (tgt := 681) hx hb dL_law_655 (by decide) (fun (c655 : ¬ (k - k / 3 * 3) = (o - o / 3 * 3)) => ?_) (fun (c655 : (k - k / 3 * 3) = (o - o / 3 * 3)) => ?_)
      · refine lv_iconst (pc := 681) (v := 0) hx hb dL_law_681 (by decide) ?_
        exact hm _ (by rw [if_neg c655])
      · refine lv_iload (pc := 658) hx hb dL_law_658 (lv_at hl 1 rfl) ?_
        refine lv_if_eq (pc := 660) (tgt := 681) hx hb dL_law_660 (by decide) (fun (c660 : hv = 0) => ?_) (fun (c660 : ¬ hv = 0) => ?_)
        · refine lv_iconst (pc := 681) (v := 0) hx hb dL_law_681 (by decide) ?_
          exact hm _ (by rw [if_pos c655, if_pos c660])
        · refine lv_aload_n (pc := 663) hx hb dL_law_663 rfl (lv_at hl 17 rfl) ?_
          refine lv_iload (pc := 664) hx hb dL_law_664 (lv_at hl 3 rfl) ?_
          refine Z_ald (pc := 666) (j := 1) (v := L.2 1 (ix o)) C K P rfl ho rfl dL_law_666 ?_
          refine lv_iload (pc := 667) hx hb dL_law_667 (lv_at hl 2 rfl) ?_
          refine lv_iadd (pc := 669) hx hb dL_law_669 ?_
          refine lv_aload_n (pc := 670) hx hb dL_law_670 rfl (lv_at hl 18 rfl) ?_
          refine lv_iload (pc := 671) hx hb dL_law_671 (lv_at hl 3 rfl) ?_
          refine Z_ald (pc := 673) (j := 0) (v := L.2 0 (ix o)) C K P rfl ho rfl dL_law_673 ?_
          refine lv_icmp_gt (pc := 674) (tgt := 681) hx hb dL_law_674 (by decide) (fun (c674 : (L.2 0 (ix o)) < ((L.2 1 (ix o)) + so)) => ?_) (fun (c674 : ¬ (L.2 0 (ix o)) < ((L.2 1 (ix o)) + so)) => ?_)
          · refine lv_iconst (pc := 681) (v := 0) hx hb dL_law_681 (by decide) ?_
            exact hm _ (by rw [if_pos c655, if_neg c660, if_pos c674])
          · refine lv_iconst (pc := 677) (v := 1) hx hb dL_law_677 (by decide) ?_
            refine lv_goto (pc := 678) (tgt := 682) hx hb dL_law_678 (by decide) ?_
            exact hm _ (by rw [if_pos c655, if_neg c660, if_neg c674])
    refine lv_istore (pc := 682) (lv' := [(27, .int m655), (20, .int 1), (19, .int hv), (18, .int so), (17, .int o), (16, .int k), (15, .int u), (14, .int w), (13, .int (nI T)), (12, .int (σ.1 9)), (11, .int (σ.1 8)), (10, .ref (ar 8)), (9, .ref (ar 7)), (8, .ref (ar 6)), (7, .ref (ar 5)), (6, .ref (ar 4)), (5, .ref (ar 3)), (4, .ref (ar 2)), (3, .ref (ar 1)), (2, .ref (ar 0)), (1, .ref g0), (0, .ref b)]) hx hb dL_law_682 hl (by decide) rfl (fun ls hl => ?_)
    refine lv_iload (pc := 684) hx hb dL_law_684 (lv_at hl 0 rfl) ?_
    refine lv_if_eq (pc := 686) (tgt := 709) hx hb dL_law_686 (by decide) (fun (c686 : m655 = 0) => ?_) (fun (c686 : ¬ m655 = 0) => ?_)
    · refine lv_aload_n (pc := 709) hx hb dL_law_709 rfl (lv_at hl 20 rfl) ?_
      refine lv_iload (pc := 710) hx hb dL_law_710 (lv_at hl 5 rfl) ?_
      refine lv_iload (pc := 712) hx hb dL_law_712 (lv_at hl 4 rfl) ?_
      refine lv_iload (pc := 714) hx hb dL_law_714 (lv_at hl 3 rfl) ?_
      have e1 : an (g_move σ k o so) = (-2000000003) ∧ _ := p_move_no hTI hk ho hso hhv c620 hm655 c686
      refine T_callW (pc := 716) (As0 := [.int k, .int o, .int so]) (rest := []) (v := (-2000000003)) (τ := (g_move σ k o so).2.2) C V hEC K E9 hl.1 hg P (kL_move l hl9 D cI cO t0 η σ k o so hG (fun _ => gk_move hG _ _ _)) fnL_move ⟨e1.1, rfl⟩ gL_law_L_move rfl rfl ⟨Nat.le_trans (Nat.le_of_ble_eq_true rfl) hRf, Nat.le_trans (Nat.le_of_ble_eq_true rfl) hRl⟩ (Nat.le_of_ble_eq_true rfl) ⟨by omega, by omega⟩ dL_law_716 (fun η H locs (P : Hp D A s (G_W cI cO η (g_move σ k o so).2.2 ++ Z_W cI ar L) H locs) (hG : Gok t0 η (g_move σ k o so).2.2) hg => ?_)
      refine lv_iload (pc := 719) hx hb dL_law_719 (lv_at hl 0 rfl) ?_
      refine lv_if_eq (pc := 721) (tgt := 731) hx hb dL_law_721 (by decide) (fun _ => ?_) (fun g => absurd c686 g)
      refine lv_ldc (pc := 731) (v := (-2000000003)) hx hb hown (hts _ lc_22) dL_law_731 ?_
      refine lv_icmp_ne (pc := 733) (tgt := 740) hx hb dL_law_733 (by decide) (fun h => absurd h (by decide)) (fun _ => ?_)
      refine lv_iconst (pc := 736) (v := 1) hx hb dL_law_736 (by decide) ?_
      refine lv_goto (pc := 737) (tgt := 741) hx hb dL_law_737 (by decide) ?_
      refine lv_istore (pc := 741) (lv' := [(20, .int 1), (27, .int m655), (19, .int hv), (18, .int so), (17, .int o), (16, .int k), (15, .int u), (14, .int w), (13, .int (nI T)), (12, .int (σ.1 9)), (11, .int (σ.1 8)), (10, .ref (ar 8)), (9, .ref (ar 7)), (8, .ref (ar 6)), (7, .ref (ar 5)), (6, .ref (ar 4)), (5, .ref (ar 3)), (4, .ref (ar 2)), (3, .ref (ar 1)), (2, .ref (ar 0)), (1, .ref g0), (0, .ref b)]) hx hb dL_law_741 hl (by decide) rfl (fun ls hl => ?_)
      refine lv_goto (pc := 743) (tgt := 2755) hx hb dL_law_743 (by decide) ?_
      exact W.widen (by omega) (by omega) (kk η ((g_move σ k o so).2.2) L _ _ ls (by rw [e1.2]; exact ti_up hTI) hG hg P (by rw [e1.2]; exact (lv_sub hl [0, 8, 9, 10, 11, 12, 13, 14, 15, 16, 17, 18, 19, 20, 21] rfl)))
    · obtain ⟨hq1, hq2, hq3⟩ := mv_yes (L := L) (k := k) (o := o) (so := so) (hv := hv) hm655 c686
      obtain ⟨hle, hV0⟩ := hv_has hTI hk hso hhv hq2
      refine lv_iload (pc := 689) hx hb dL_law_689 (lv_at hl 4 rfl) ?_
      refine lv_iload (pc := 691) hx hb dL_law_691 (lv_at hl 3 rfl) ?_
      refine lv_iload (pc := 693) hx hb dL_law_693 (lv_at hl 5 rfl) ?_
      refine lv_iload (pc := 695) hx hb dL_law_695 (lv_at hl 3 rfl) ?_
      refine lv_aload_n (pc := 697) hx hb dL_law_697 rfl (lv_at hl 18 rfl) ?_
      refine lv_aload (pc := 698) hx hb dL_law_698 (lv_at hl 17 rfl) ?_
      refine Z_calli (pc := 700) (As := [.int k, .int so, .ref (ar 1), .ref (ar 2)]) (rest := [.int so, .int o]) C K P hl.1 (kL_draws l D cI ar L k so hk hV0) fnL_draws gL_law_L_draws rfl rfl ⟨Nat.le_trans (Nat.le_of_ble_eq_true rfl) hRf, Nat.le_trans (Nat.le_of_ble_eq_true rfl) hRl⟩ (Nat.le_of_ble_eq_true rfl) ⟨by omega, by omega⟩ dL_law_700 (fun H locs (P : Hp D A s (G_W cI cO η σ ++ Z_W cI ar (z_draws L k so).2) H locs) => ?_)
      refine lv_aload_n (pc := 703) hx hb dL_law_703 rfl (lv_at hl 18 rfl) ?_
      refine lv_aload (pc := 704) hx hb dL_law_704 (lv_at hl 17 rfl) ?_
      refine Z_callv (pc := 706) (As := [.int o, .int so, .int ((z_draws L k so).1), .ref (ar 1), .ref (ar 2)]) (rest := []) C K P hl.1 (kL_pours l D cI ar ((z_draws L k so).2) o so ((z_draws L k so).1) ho) fnL_pours gL_law_L_pours rfl rfl ⟨Nat.le_trans (Nat.le_of_ble_eq_true rfl) hRf, Nat.le_trans (Nat.le_of_ble_eq_true rfl) hRl⟩ (Nat.le_of_ble_eq_true rfl) ⟨by omega, by omega⟩ dL_law_706 (fun H locs (P : Hp D A s (G_W cI cO η σ ++ Z_W cI ar (z_pours ((z_draws L k so).2) o so ((z_draws L k so).1)).2) H locs) => ?_)
      refine lv_aload_n (pc := 709) hx hb dL_law_709 rfl (lv_at hl 20 rfl) ?_
      refine lv_iload (pc := 710) hx hb dL_law_710 (lv_at hl 5 rfl) ?_
      refine lv_iload (pc := 712) hx hb dL_law_712 (lv_at hl 4 rfl) ?_
      refine lv_iload (pc := 714) hx hb dL_law_714 (lv_at hl 3 rfl) ?_
      have e1 : an (g_move σ k o so) = (((z_pours ((z_draws L k so).2) o so ((z_draws L k so).1)).2).2 1 (ix o)) ∧ _ := p_move_yes hTI hk ho hso hhv c620 hm655 c686
      refine T_callW (pc := 716) (As0 := [.int k, .int o, .int so]) (rest := []) (v := ((z_pours ((z_draws L k so).2) o so ((z_draws L k so).1)).2).2 1 (ix o)) (τ := (g_move σ k o so).2.2) C V hEC K E9 hl.1 hg P (kL_move l hl9 D cI cO t0 η σ k o so hG (fun _ => gk_move hG _ _ _)) fnL_move ⟨e1.1, rfl⟩ gL_law_L_move rfl rfl ⟨Nat.le_trans (Nat.le_of_ble_eq_true rfl) hRf, Nat.le_trans (Nat.le_of_ble_eq_true rfl) hRl⟩ (Nat.le_of_ble_eq_true rfl) ⟨by omega, by omega⟩ dL_law_716 (fun η H locs (P : Hp D A s (G_W cI cO η (g_move σ k o so).2.2 ++ Z_W cI ar ((z_pours ((z_draws L k so).2) o so ((z_draws L k so).1)).2)) H locs) (hG : Gok t0 η (g_move σ k o so).2.2) hg => ?_)
      refine lv_iload (pc := 719) hx hb dL_law_719 (lv_at hl 0 rfl) ?_
      refine lv_if_eq (pc := 721) (tgt := 731) hx hb dL_law_721 (by decide) (fun g => absurd g c686) (fun _ => ?_)
      refine lv_aload_n (pc := 724) hx hb dL_law_724 rfl (lv_at hl 18 rfl) ?_
      refine lv_iload (pc := 725) hx hb dL_law_725 (lv_at hl 4 rfl) ?_
      refine Z_ald (pc := 727) (j := 1) (v := ((z_pours ((z_draws L k so).2) o so ((z_draws L k so).1)).2).2 1 (ix o)) C K P rfl ho rfl dL_law_727 ?_
      refine lv_goto (pc := 728) (tgt := 733) hx hb dL_law_728 (by decide) ?_
      refine lv_icmp_ne (pc := 733) (tgt := 740) hx hb dL_law_733 (by decide) (fun g => absurd rfl g) (fun _ => ?_)
      refine lv_iconst (pc := 736) (v := 1) hx hb dL_law_736 (by decide) ?_
      refine lv_goto (pc := 737) (tgt := 741) hx hb dL_law_737 (by decide) ?_
      refine lv_istore (pc := 741) (lv' := [(20, .int 1), (27, .int m655), (19, .int hv), (18, .int so), (17, .int o), (16, .int k), (15, .int u), (14, .int w), (13, .int (nI T)), (12, .int (σ.1 9)), (11, .int (σ.1 8)), (10, .ref (ar 8)), (9, .ref (ar 7)), (8, .ref (ar 6)), (7, .ref (ar 5)), (6, .ref (ar 4)), (5, .ref (ar 3)), (4, .ref (ar 2)), (3, .ref (ar 1)), (2, .ref (ar 0)), (1, .ref g0), (0, .ref b)]) hx hb dL_law_741 hl (by decide) rfl (fun ls hl => ?_)
      refine lv_goto (pc := 743) (tgt := 2755) hx hb dL_law_743 (by decide) ?_
      exact W.widen (by omega) (by omega) (kk η ((g_move σ k o so).2.2) ((z_pours ((z_draws L k so).2) o so ((z_draws L k so).1)).2) _ _ ls e1.2.1 hG hg P (by rw [e1.2.2.1, e1.2.2.2]; exact (lv_sub hl [0, 8, 9, 10, 11, 12, 13, 14, 15, 16, 17, 18, 19, 20, 21] rfl)))
  · refine lv_aload_n (pc := 623) hx hb dL_law_623 rfl (lv_at hl 19 rfl) ?_
    refine lv_iload (pc := 624) hx hb dL_law_624 (lv_at hl 4 rfl) ?_
    refine lv_iload (pc := 626) hx hb dL_law_626 (lv_at hl 4 rfl) ?_
    refine lv_iconst (pc := 628) (v := 1) hx hb dL_law_628 (by decide) ?_
    have e1 : an (g_move σ k k 1) = (-2000000002) ∧ _ := p_move_same hTI hk
    refine T_callW (pc := 629) (As0 := [.int k, .int k, .int 1]) (rest := []) (v := (-2000000002)) (τ := (g_move σ k k 1).2.2) C V hEC K E9 hl.1 hg P (kL_move l hl9 D cI cO t0 η σ k k 1 hG (fun _ => gk_move hG _ _ _)) fnL_move ⟨e1.1, rfl⟩ gL_law_L_move rfl rfl ⟨Nat.le_trans (Nat.le_of_ble_eq_true rfl) hRf, Nat.le_trans (Nat.le_of_ble_eq_true rfl) hRl⟩ (Nat.le_of_ble_eq_true rfl) ⟨by omega, by omega⟩ dL_law_629 (fun η H locs (P : Hp D A s (G_W cI cO η (g_move σ k k 1).2.2 ++ Z_W cI ar L) H locs) (hG : Gok t0 η (g_move σ k k 1).2.2) hg => ?_)
    refine lv_ldc (pc := 632) (v := (-2000000002)) hx hb hown (hts _ lc_19) dL_law_632 ?_
    refine lv_icmp_ne (pc := 634) (tgt := 641) hx hb dL_law_634 (by decide) (fun h => absurd h (by decide)) (fun _ => ?_)
    refine lv_iconst (pc := 637) (v := 1) hx hb dL_law_637 (by decide) ?_
    refine lv_goto (pc := 638) (tgt := 642) hx hb dL_law_638 (by decide) ?_
    refine lv_istore (pc := 642) (lv' := [(20, .int 1), (19, .int hv), (18, .int so), (17, .int o), (16, .int k), (15, .int u), (14, .int w), (13, .int (nI T)), (12, .int (σ.1 9)), (11, .int (σ.1 8)), (10, .ref (ar 8)), (9, .ref (ar 7)), (8, .ref (ar 6)), (7, .ref (ar 5)), (6, .ref (ar 4)), (5, .ref (ar 3)), (4, .ref (ar 2)), (3, .ref (ar 1)), (2, .ref (ar 0)), (1, .ref g0), (0, .ref b)]) hx hb dL_law_642 hl (by decide) rfl (fun ls hl => ?_)
    refine lv_goto (pc := 644) (tgt := 2755) hx hb dL_law_644 (by decide) ?_
    exact W.widen (by omega) (by omega) (kk η ((g_move σ k k 1).2.2) L _ _ ls (by rw [e1.2]; exact ti_up hTI) hG hg P (by rw [e1.2]; exact (lv_sub hl [0, 7, 8, 9, 10, 11, 12, 13, 14, 15, 16, 17, 18, 19, 20] rfl)))
end LC0
