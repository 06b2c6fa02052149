section LC6
variable {p : Program} {l : Launch} {e : Env} {R : Room} {s : State} {m : MethodId} {args : Array Value} {below : List Frame} {meth : Method} {c : Code} {H : Heap} {locs : List Loc} {cells slots : Nat} {Q : State → Prop} {ls : Array Slot} {D : va_G} {A : Nat → Prop} {ret : Option FieldType} {cI cO : ClassId} {t0 : Nat} {η : Eg} {σ L : Sg} {ar : Nat → Nat} {g0 b T : Nat} {k o so hv u w : Int32}
set_option maxHeartbeats 8000000 in
set_option maxRecDepth 100000 in
theorem law_export (hl9 : l.stackTraces = false) (C : Cx RL p s m args meth c cL_law 62 wsL_law ret) (V : EnvV s) (hEC : EnvC s) (K : va_K D vwCl (tyG cI cO) s) (E9 : EnvH t0 A s s.heap) (hRf : 12 ≤ R.frames) (hRl : 452 ≤ R.locals) (hz : cells + 400 ≤ R.cells ∧ slots + 2400 ≤ R.slots) (hT : T < 120) (hTI : TI T σ L) (hG : Gok t0 η σ) (hg : e_ad η 0 = g0) (P : Hp D A s (G_W cI cO η σ ++ Z_W cI ar L) H locs) (hk : vp_in k 5) (ho : vp_in o 5) (hso : 1 ≤ so.toInt ∧ so.toInt ≤ 10002) (hhv : hv = if L.2 1 (ix k) < so then 0 else 1) (hl : lv_has ls 62 [(20, .int 1), (19, .int hv), (18, .int so), (17, .int o), (16, .int k), (15, .int u), (14, .int w), (13, .int (nI T)), (12, .int (σ.1 9)), (11, .int (σ.1 8)), (10, .ref (ar 8)), (9, .ref (ar 7)), (8, .ref (ar 6)), (7, .ref (ar 5)), (6, .ref (ar 4)), (5, .ref (ar 3)), (4, .ref (ar 2)), (3, .ref (ar 1)), (2, .ref (ar 0)), (1, .ref g0), (0, .ref b)]) (kk : ∀ (η : Eg) (σ L : Sg) (H : Heap) (locs : List Loc) (ls : Array Slot), TI (T + 1) σ L → Gok t0 η σ → e_ad η 0 = g0 → Hp D A s (G_W cI cO η σ ++ Z_W cI ar L) H locs → lv_has ls 62 [(20, .int 1), (13, .int (nI T)), (12, .int (σ.1 9)), (11, .int (σ.1 8)), (10, .ref (ar 8)), (9, .ref (ar 7)), (8, .ref (ar 6)), (7, .ref (ar 5)), (6, .ref (ar 4)), (5, .ref (ar 3)), (4, .ref (ar 2)), (3, .ref (ar 1)), (2, .ref (ar 0)), (1, .ref g0), (0, .ref b)] → W p l e R s m args below meth c H locs (cells + 12) (slots + 500) Q (F0 m 2755 ls [])) : W p l e R s m args below meth c H locs cells slots Q (F0 m 1533 ls []) := by
  have hx := C.1
  have hb := C.2.1
  have hown := C.2.2.2.1
  have hts := C.2.2.2.2.1
  have hc9 := cz9 hTI
  have afterB : ∀ (lo : Int32), lo = sm (L.2 5) (ix (L.2 4 9)) → ∀ (H : Heap) (locs : List Loc) (P : Hp D A s (G_W cI cO η σ ++ Z_W cI ar L) H locs) (ls : Array Slot), lv_has ls 62 [(37, .int lo), (20, .int 1), (19, .int hv), (18, .int so), (17, .int o), (16, .int k), (15, .int u), (14, .int w), (13, .int (nI T)), (12, .int (σ.1 9)), (11, .int (σ.1 8)), (10, .ref (ar 8)), (9, .ref (ar 7)), (8, .ref (ar 6)), (7, .ref (ar 5)), (6, .ref (ar 4)), (5, .ref (ar 3)), (4, .ref (ar 2)), (3, .ref (ar 1)), (2, .ref (ar 0)), (1, .ref g0), (0, .ref b)] → W p l e R s m args below meth c H locs cells slots Q (F0 m 1565 ls []) := by
    intro lo hlo H locs P ls hl
    refine lv_iconst (pc := 1565) (v := 1) hx hb dL_law_1565 (by decide) ?_
    refine lv_iload (pc := 1566) hx hb dL_law_1566 (lv_at hl 6 rfl) ?_
    refine lv_iload (pc := 1568) hx hb dL_law_1568 (lv_at hl 0 rfl) ?_
    refine lv_iconst (pc := 1570) (v := 2) hx hb dL_law_1570 (by decide) ?_
    refine lv_idiv (pc := 1571) hx hb dL_law_1571 (by decide) ?_
    refine lv_iconst (pc := 1572) (v := 2) hx hb dL_law_1572 (by decide) ?_
    refine lv_iadd (pc := 1573) hx hb dL_law_1573 ?_
    refine S_call (pc := 1574) (As := [.int u, .int ((lo / 2) + 2)]) (rest := [.int 1]) (r := z_low u ((lo / 2) + 2)) C hl.1 (kL_low l u ((lo / 2) + 2) (ask_b hTI hlo rfl).1) fnL_low gL_law_L_low rfl rfl ⟨Nat.le_trans (Nat.le_of_ble_eq_true rfl) hRf, Nat.le_trans (Nat.le_of_ble_eq_true rfl) hRl⟩ (Nat.le_of_ble_eq_true rfl) ⟨by omega, by omega⟩ dL_law_1574 ?_
    refine lv_iadd (pc := 1577) hx hb dL_law_1577 ?_
    refine lv_topi (fun asked (hasked : asked = 1 + (z_low u ((lo / 2) + 2))) => ?_)
    have hab := (ask_b hTI hlo hasked).2
    refine lv_istore (pc := 1578) (lv' := [(38, .int asked), (37, .int lo), (20, .int 1), (19, .int hv), (18, .int so), (17, .int o), (16, .int k), (15, .int u), (14, .int w), (13, .int (nI T)), (12, .int (σ.1 9)), (11, .int (σ.1 8)), (10, .ref (ar 8)), (9, .ref (ar 7)), (8, .ref (ar 6)), (7, .ref (ar 5)), (6, .ref (ar 4)), (5, .ref (ar 3)), (4, .ref (ar 2)), (3, .ref (ar 1)), (2, .ref (ar 0)), (1, .ref g0), (0, .ref b)]) hx hb dL_law_1578 hl (by decide) rfl (fun ls hl => ?_)
    refine lv_iload (pc := 1580) hx hb dL_law_1580 (lv_at hl 0 rfl) ?_
    refine lv_iload (pc := 1582) hx hb dL_law_1582 (lv_at hl 1 rfl) ?_
    refine lv_icmp_le (pc := 1584) (tgt := 1608) hx hb dL_law_1584 (by decide) (fun (c1584 : asked ≤ lo) => ?_) (fun (c1584 : ¬ asked ≤ lo) => ?_)
    · refine lv_iconst (pc := 1608) (v := 0) hx hb dL_law_1608 (by decide) ?_
      refine lv_istore (pc := 1609) (lv' := [(39, .int 0), (38, .int asked), (37, .int lo), (20, .int 1), (19, .int hv), (18, .int so), (17, .int o), (16, .int k), (15, .int u), (14, .int w), (13, .int (nI T)), (12, .int (σ.1 9)), (11, .int (σ.1 8)), (10, .ref (ar 8)), (9, .ref (ar 7)), (8, .ref (ar 6)), (7, .ref (ar 5)), (6, .ref (ar 4)), (5, .ref (ar 3)), (4, .ref (ar 2)), (3, .ref (ar 1)), (2, .ref (ar 0)), (1, .ref g0), (0, .ref b)]) hx hb dL_law_1609 hl (by decide) rfl (fun ls hl => ?_)
      refine lv_iload (pc := 1611) hx hb dL_law_1611 (lv_at hl 1 rfl) ?_
      refine lv_istore (pc := 1613) (lv' := [(40, .int asked), (39, .int 0), (38, .int asked), (37, .int lo), (20, .int 1), (19, .int hv), (18, .int so), (17, .int o), (16, .int k), (15, .int u), (14, .int w), (13, .int (nI T)), (12, .int (σ.1 9)), (11, .int (σ.1 8)), (10, .ref (ar 8)), (9, .ref (ar 7)), (8, .ref (ar 6)), (7, .ref (ar 5)), (6, .ref (ar 4)), (5, .ref (ar 3)), (4, .ref (ar 2)), (3, .ref (ar 1)), (2, .ref (ar 0)), (1, .ref g0), (0, .ref b)]) hx hb dL_law_1613 hl (by decide) rfl (fun ls hl => ?_)
      refine lv_iconst (pc := 1615) (v := 0) hx hb dL_law_1615 (by decide) ?_
      refine lv_istore (pc := 1616) (lv' := [(41, .int 0), (40, .int asked), (39, .int 0), (38, .int asked), (37, .int lo), (20, .int 1), (19, .int hv), (18, .int so), (17, .int o), (16, .int k), (15, .int u), (14, .int w), (13, .int (nI T)), (12, .int (σ.1 9)), (11, .int (σ.1 8)), (10, .ref (ar 8)), (9, .ref (ar 7)), (8, .ref (ar 6)), (7, .ref (ar 5)), (6, .ref (ar 4)), (5, .ref (ar 3)), (4, .ref (ar 2)), (3, .ref (ar 1)), (2, .ref (ar 0)), (1, .ref g0), (0, .ref b)]) hx hb dL_law_1616 hl (by decide) rfl (fun ls hl => ?_)
      exact loop2 (ix (σ.1 18) + 1) (ix (σ.1 18)) 0 asked 0 σ L (by omega) (xi_start hTI hlo hab c1582) _ _ P ls (lv_sub hl [0, 1, 2, 3, 5, 6, 7, 8, 9, 10, 11, 12, 13, 14, 15, 16, 17, 18, 19, 20, 21, 22, 23, 24, 25] rfl)
    · refine lv_aload_n (pc := 1587) hx hb dL_law_1587 rfl (lv_at hl 21 rfl) ?_
      refine lv_iload (pc := 1588) hx hb dL_law_1588 (lv_at hl 0 rfl) ?_
      have e1 : an (g_export σ asked) = (-2000000003) ∧ _ := p_exp_no hTI hlo hab c1582
      refine T_callW (pc := 1590) (As0 := [.int asked]) (rest := []) (v := (-2000000003)) (τ := (g_export σ asked).2.2) C V hEC K E9 hl.1 hg P (kL_export l hl9 D cI cO t0 η σ asked hG (fun _ => gk_export hG _)) fnL_export ⟨e1.1, rfl⟩ gL_law_L_export rfl rfl ⟨Nat.le_trans (Nat.le_of_ble_eq_true rfl) hRf, Nat.le_trans (Nat.le_of_ble_eq_true rfl) hRl⟩ (Nat.le_of_ble_eq_true rfl) ⟨by omega, by omega⟩ dL_law_1590 (fun η H locs (P : Hp D A s (G_W cI cO η (g_export σ asked).2.2 ++ Z_W cI ar L) H locs) (hG : Gok t0 η (g_export σ asked).2.2) hg => ?_)
      refine lv_ldc (pc := 1593) (v := (-2000000003)) hx hb hown (hts _ lc_22) dL_law_1593 ?_
      refine lv_icmp_ne (pc := 1595) (tgt := 1602) hx hb dL_law_1595 (by decide) (fun h => absurd h (by decide)) (fun _ => ?_)
      refine lv_iconst (pc := 1598) (v := 1) hx hb dL_law_1598 (by decide) ?_
      refine lv_goto (pc := 1599) (tgt := 1603) hx hb dL_law_1599 (by decide) ?_
      refine lv_istore (pc := 1603) (lv' := [(20, .int 1), (38, .int asked), (37, .int lo), (19, .int hv), (18, .int so), (17, .int o), (16, .int k), (15, .int u), (14, .int w), (13, .int (nI T)), (12, .int (σ.1 9)), (11, .int (σ.1 8)), (10, .ref (ar 8)), (9, .ref (ar 7)), (8, .ref (ar 6)), (7, .ref (ar 5)), (6, .ref (ar 4)), (5, .ref (ar 3)), (4, .ref (ar 2)), (3, .ref (ar 1)), (2, .ref (ar 0)), (1, .ref g0), (0, .ref b)]) hx hb dL_law_1603 hl (by decide) rfl (fun ls hl => ?_)
      refine lv_goto (pc := 1605) (tgt := 2755) hx hb dL_law_1605 (by decide) ?_
      exact W.widen (by omega) (by omega) (kk η ((g_export σ asked).2.2) L _ _ ls (by rw [e1.2]; exact ti_up hTI) hG hg P (by rw [e1.2]; exact (lv_sub hl [0, 9, 10, 11, 12, 13, 14, 15, 16, 17, 18, 19, 20, 21, 22] rfl)))
  have loop1 : ∀ (n i : Nat), i ≤ ix (L.2 4 9) → ix (L.2 4 9) < i + n → ∀ (H : Heap) (locs : List Loc) (P : Hp D A s (G_W cI cO η σ ++ Z_W cI ar L) H locs) (ls : Array Slot), lv_has ls 62 [(38, .int (nI i)), (37, .int (sm (L.2 5) i)), (20, .int 1), (19, .int hv), (18, .int so), (17, .int o), (16, .int k), (15, .int u), (14, .int w), (13, .int (nI T)), (12, .int (σ.1 9)), (11, .int (σ.1 8)), (10, .ref (ar 8)), (9, .ref (ar 7)), (8, .ref (ar 6)), (7, .ref (ar 5)), (6, .ref (ar 4)), (5, .ref (ar 3)), (4, .ref (ar 2)), (3, .ref (ar 1)), (2, .ref (ar 0)), (1, .ref g0), (0, .ref b)] → W p l e R s m args below meth c H locs cells slots Q (F0 m 1539 ls []) := by
    intro n
    induction n with
    | zero => intro i h1 h2; exact absurd h2 (by omega)
    | succ n ih =>
      intro i h1 h2 H locs P ls hl
      refine lv_iload (pc := 1539) hx hb dL_law_1539 (lv_at hl 0 rfl) ?_
      refine lv_aload (pc := 1541) hx hb dL_law_1541 (lv_at hl 16 rfl) ?_
      refine lv_bipush (pc := 1543) (v := 9) hx hb dL_law_1543 (by decide) ?_
      refine Z_ald (pc := 1545) (j := 4) (v := L.2 4 9) C K P rfl (vp_dec (by decide)) rfl dL_law_1545 ?_
      refine lv_icmp_ge (pc := 1546) (tgt := 1565) hx hb dL_law_1546 (by decide) (fun (c1546 : (L.2 4 9) ≤ (nI i)) => ?_) (fun (c1546 : ¬ (L.2 4 9) ≤ (nI i)) => ?_)
      · have ei : i = ix (L.2 4 9) := lz_end hc9 c1546 h1
        exact afterB _ (by rw [ei]) _ _ P ls (lv_sub hl [1, 2, 3, 4, 5, 6, 7, 8, 9, 10, 11, 12, 13, 14, 15, 16, 17, 18, 19, 20, 21, 22] rfl)
      · have hi : i < ix (L.2 4 9) := lz_in hc9 c1546 h1
        have hi40 : i < 40 := Nat.lt_of_lt_of_le hi hc9.2
        refine lv_iload (pc := 1549) hx hb dL_law_1549 (lv_at hl 1 rfl) ?_
        refine lv_aload (pc := 1551) hx hb dL_law_1551 (lv_at hl 15 rfl) ?_
        refine lv_iload (pc := 1553) hx hb dL_law_1553 (lv_at hl 0 rfl) ?_
        refine Z_aldN (pc := 1555) (j := 5) (n := 40) (v := L.2 5 i) C K P rfl (k := i) hi40 (by decide) rfl dL_law_1555 ?_
        refine lv_iadd (pc := 1556) hx hb dL_law_1556 ?_
        refine lv_istore (pc := 1557) (lv' := [(37, .int ((sm (L.2 5) i) + (L.2 5 i))), (38, .int (nI i)), (20, .int 1), (19, .int hv), (18, .int so), (17, .int o), (16, .int k), (15, .int u), (14, .int w), (13, .int (nI T)), (12, .int (σ.1 9)), (11, .int (σ.1 8)), (10, .ref (ar 8)), (9, .ref (ar 7)), (8, .ref (ar 6)), (7, .ref (ar 5)), (6, .ref (ar 4)), (5, .ref (ar 3)), (4, .ref (ar 2)), (3, .ref (ar 1)), (2, .ref (ar 0)), (1, .ref g0), (0, .ref b)]) hx hb dL_law_1557 hl (by decide) rfl (fun ls hl => ?_)
        refine lv_iinc (pc := 1559) (v := nI (i + 1)) (lv' := [(38, .int (nI (i + 1))), (37, .int ((sm (L.2 5) i) + (L.2 5 i))), (20, .int 1), (19, .int hv), (18, .int so), (17, .int o), (16, .int k), (15, .int u), (14, .int w), (13, .int (nI T)), (12, .int (σ.1 9)), (11, .int (σ.1 8)), (10, .ref (ar 8)), (9, .ref (ar 7)), (8, .ref (ar 6)), (7, .ref (ar 5)), (6, .ref (ar 4)), (5, .ref (ar 3)), (4, .ref (ar 2)), (3, .ref (ar 1)), (2, .ref (ar 0)), (1, .ref g0), (0, .ref b)]) hx hb dL_law_1559 hl (k := 1) rfl ((nI_succ i).symm) (by decide) rfl (fun ls hl => ?_)
        refine lv_goto (pc := 1562) (tgt := 1539) hx hb dL_law_1562 (by decide) ?_
        exact ih (i + 1) hi (by omega) _ _ P ls (by rw [show sm (L.2 5) (i + 1) = sm (L.2 5) i + L.2 5 i from rfl]; exact (lv_sub hl [0, 1, 2, 3, 4, 5, 6, 7, 8, 9, 10, 11, 12, 13, 14, 15, 16, 17, 18, 19, 20, 21, 22] rfl))
  refine lv_iconst (pc := 1533) (v := 0) hx hb dL_law_1533 (by decide) ?_
  refine lv_istore (pc := 1534) (lv' := [(37, .int 0), (20, .int 1), (19, .int hv), (18, .int so), (17, .int o), (16, .int k), (15, .int u), (14, .int w), (13, .int (nI T)), (12, .int (σ.1 9)), (11, .int (σ.1 8)), (10, .ref (ar 8)), (9, .ref (ar 7)), (8, .ref (ar 6)), (7, .ref (ar 5)), (6, .ref (ar 4)), (5, .ref (ar 3)), (4, .ref (ar 2)), (3, .ref (ar 1)), (2, .ref (ar 0)), (1, .ref g0), (0, .ref b)]) hx hb dL_law_1534 hl (by decide) rfl (fun ls hl => ?_)
  refine lv_iconst (pc := 1536) (v := 0) hx hb dL_law_1536 (by decide) ?_
  refine lv_istore (pc := 1537) (lv' := [(38, .int 0), (37, .int 0), (20, .int 1), (19, .int hv), (18, .int so), (17, .int o), (16, .int k), (15, .int u), (14, .int w), (13, .int (nI T)), (12, .int (σ.1 9)), (11, .int (σ.1 8)), (10, .ref (ar 8)), (9, .ref (ar 7)), (8, .ref (ar 6)), (7, .ref (ar 5)), (6, .ref (ar 4)), (5, .ref (ar 3)), (4, .ref (ar 2)), (3, .ref (ar 1)), (2, .ref (ar 0)), (1, .ref g0), (0, .ref b)]) hx hb dL_law_1537 hl (by decide) rfl (fun ls hl => ?_)
  exact loop1 (ix (L.2 4 9) + 1) 0 (Nat.zero_le _) (by omega) _ _ P ls (lv_sub hl [0, 1, 2, 3, 4, 5, 6, 7, 8, 9, 10, 11, 12, 13, 14, 15, 16, 17, 18, 19, 20, 21, 22] rfl)
end LC6
