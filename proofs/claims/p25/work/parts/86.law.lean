section LC6
variable {p : Program} {l : Launch} {e : Env} {R : Room} {s : State} {m : MethodId} {args : Array Value} {below : List Frame} {meth : Method} {c : Code} {H : Heap} {locs : List Loc} {cells slots : Nat} {Q : State → Prop} {ls : Array Slot} {D : va_G} {A : Nat → Prop} {ret : Option FieldType} {cI cO : ClassId} {t0 : Nat} {η : Eg} {σ L : Sg} {ar : Nat → Nat} {g0 b T : Nat} {k o so hv u w : Int32}
set_option maxHeartbeats 8000000 in
set_option maxRecDepth 100000 in
theorem law_export (hl9 : l.stackTraces = false) (C : Cx RL p s m args meth c cL_law 62 wsL_law ret) (V : EnvV s) (hEC : EnvC s) (K : va_K D vwCl (tyG cI cO) s) (E9 : EnvH t0 A s s.heap) (hRf : 12 ≤ R.frames) (hRl : 452 ≤ R.locals) (hz : cells + 400 ≤ R.cells ∧ slots + 2400 ≤ R.slots) (hT : T < 120) (hTI : TI T σ L) (hG : Gok t0 η σ) (hg : e_ad η 0 = g0) (P : Hp D A s (G_W cI cO η σ ++ Z_W cI ar L) H locs) (hk : vp_in k 5) (ho : vp_in o 5) (hso : 1 ≤ so.toInt ∧ so.toInt ≤ 10002) (hhv : hv = if L.2 1 (ix k) < so then 0 else 1) (hl : lv_has ls 62 [(20, .int 1), (19, .int hv), (18, .int so), (17, .int o), (16, .int k), (15, .int u), (14, .int w), (13, .int (nI T)), (12, .int (σ.1 9)), (11, .int (σ.1 8)), (10, .ref (ar 8)), (9, .ref (ar 7)), (8, .ref (ar 6)), (7, .ref (ar 5)), (6, .ref (ar 4)), (5, .ref (ar 3)), (4, .ref (ar 2)), (3, .ref (ar 1)), (2, .ref (ar 0)), (1, .ref g0), (0, .ref b)]) (kk : ∀ (η : Eg) (σ L : Sg) (H : Heap) (locs : List Loc) (ls : Array Slot), TI (T + 1) σ L → Gok t0 η σ → e_ad η 0 = g0 → Hp D A s (G_W cI cO η σ ++ Z_W cI ar L) H locs → lv_has ls 62 [(20, .int 1), (13, .int (nI T)), (12, .int (σ.1 9)), (11, .int (σ.1 8)), (10, .ref (ar 8)), (9, .ref (ar 7)), (8, .ref (ar 6)), (7, .ref (ar 5)), (6, .ref (ar 4)), (5, .ref (ar 3)), (4, .ref (ar 2)), (3, .ref (ar 1)), (2, .ref (ar 0)), (1, .ref g0), (0, .ref b)] → W p l e R s m args below meth c H locs (cells + 12) (slots + 500) Q (F0 m 2755 ls [])) : W p l e R s m args below meth c H locs cells slots Q (F0 m 1533 ls []) := by
  have hx := C.1
  have hb := C.2.1
  have hown := C.2.2.2.1
  have hts := C.2.2.2.2.1
  have hc9 := cz9 hTI
  have afterB : ∀ (lo : Int32), lo = sm (L.2 5) (ix (L.2 4 9)) → ∀ (H : Heap) (locs : List Loc) (P : Hp D A s (G_W cI cO η σ ++ Z_W cI ar L) H locs) (ls : Array Slot), lv_has ls 62 [(37, .int lo), (20, .int 1), (19, .int hv), (18, .int so), (17, .int o), (16, .int k), (15, .int u), (14, .int w), (13, .int (nI T)), (12, .int (σ.1 9)), (11, .int (σ.1 8)), (10, .ref (ar 8)), (9, .ref (ar 7)), (8, .ref (ar 6)), (7, .ref (ar 5)), (6, .ref (ar 4)), (5, .ref (ar 3)), (4, .ref (ar 2)), (3, .ref (ar 1)), (2, .ref (ar 0)), (1, .ref g0), (0, .ref b)] → W p l e R s m args below meth c H locs cells slots Q (F0 m 1565 ls []) := by
    intro lo hlo H locs P ls hl
    refine lv_iconst (pc := 1565) (v := 1) hx hb dL_law_1565 (by decide) ?_
    refine lv_iload (pc := 1566) hx hb dL_law_1566 (lv_at hl 6 rfl) ?_
    refine lv_iload (pc := 1568) hx hb dL_law_1568 (lv_at hl 0 rfl) ?_
    refine lv_iconst (pc := 1570) (v := 2) hx hb dL_law_1570 (by decide) ?_
    refine lv_idiv (pc := 1571) hx hb dL_law_1571 (by decide) ?_
    refine lv_iconst (pc := 1572) (v := 2) hx hb dL_law_1572 (by decide) ?_
    refine lv_iadd (pc := 1573) hx hb dL_law_1573 ?_
    refine S_call (pc := 1574) (As := [.int u, .int ((lo / 2) + 2)]) (rest := [.int 1]) (r := z_low u ((lo / 2) + 2)) C hl.1 (kL_low l u ((lo / 2) + 2) (ask_b (u := u) hTI hlo rfl).1) fnL_low gL_law_L_low rfl rfl ⟨Nat.le_trans (Nat.le_of_ble_eq_true rfl) hRf, Nat.le_trans (Nat.le_of_ble_eq_true rfl) hRl⟩ (Nat.le_of_ble_eq_true rfl) ⟨by omega, by omega⟩ dL_law_1574 ?_
    refine lv_iadd (pc := 1577) hx hb dL_law_1577 ?_
    refine lv_topi (fun (asked : Int32) (hasked : asked = (1 + (z_low u ((lo / 2) + 2)) : Int32)) => ?_)
    have hab := (ask_b hTI hlo hasked).2
    refine lv_istore (pc := 1578) (lv' := [(38, .int asked), (37, .int lo), (20, .int 1), (19, .int hv), (18, .int so), (17, .int o), (16, .int k), (15, .int u), (14, .int w), (13, .int (nI T)), (12, .int (σ.1 9)), (11, .int (σ.1 8)), (10, .ref (ar 8)), (9, .ref (ar 7)), (8, .ref (ar 6)), (7, .ref (ar 5)), (6, .ref (ar 4)), (5, .ref (ar 3)), (4, .ref (ar 2)), (3, .ref (ar 1)), (2, .ref (ar 0)), (1, .ref g0), (0, .ref b)]) hx hb dL_law_1578 hl (by decide) rfl (fun ls hl => ?_)
    refine lv_iload (pc := 1580) hx hb dL_law_1580 (lv_at hl 0 rfl) ?_
    refine lv_iload (pc := 1582) hx hb dL_law_1582 (lv_at hl 1 rfl) ?_
    refine lv_icmp_le (pc := 1584) (tgt := 1608) hx hb dL_law_1584 (by decide) (fun (c1584 : asked ≤ lo) => ?_) (fun (c1584 : ¬ asked ≤ lo) => ?_)
    · have endC : ∀ (n i : Nat) (left back : Int32) (X Y : Sg), XI σ asked (exl (ix (σ.1 18)) 0 asked 0 σ) n i left back X Y → left ≤ 0 → ∀ (H : Heap) (locs : List Loc) (P : Hp D A s (G_W cI cO η σ ++ Z_W cI ar Y) H locs) (ls : Array Slot), lv_has ls 62 [(39, .int back), (38, .int asked), (20, .int 1), (19, .int hv), (18, .int so), (17, .int o), (16, .int k), (15, .int u), (14, .int w), (13, .int (nI T)), (12, .int (σ.1 9)), (11, .int (σ.1 8)), (10, .ref (ar 8)), (9, .ref (ar 7)), (8, .ref (ar 6)), (7, .ref (ar 5)), (6, .ref (ar 4)), (5, .ref (ar 3)), (4, .ref (ar 2)), (3, .ref (ar 1)), (2, .ref (ar 0)), (1, .ref g0), (0, .ref b)] → W p l e R s m args below meth c H locs cells slots Q (F0 m 1713 ls []) := by
        intro n i left back X Y hX c0 H locs P ls hl
        refine lv_aload (pc := 1713) hx hb dL_law_1713 (lv_at hl 16 rfl) ?_
        refine lv_bipush (pc := 1715) (v := 14) hx hb dL_law_1715 (by decide) ?_
        refine lv_dup2_11 (pc := 1717) hx hb dL_law_1717 rfl rfl ?_
        refine Z_ald (pc := 1718) (j := 4) (v := Y.2 4 14) C K P rfl (vp_dec (by decide)) rfl dL_law_1718 ?_
        refine lv_iload (pc := 1719) hx hb dL_law_1719 (lv_at hl 1 rfl) ?_
        refine lv_iadd (pc := 1721) hx hb dL_law_1721 ?_
        refine Z_ast (pc := 1722) (j := 4) (n := 16) (x := (Y.2 4 14) + asked) C K P (zj4 _) (vp_dec (by decide)) (zs4 _ _ _) dL_law_1722 (fun H locs (P : Hp D A s (G_W cI cO η σ ++ Z_W cI ar (bs Y 4 14 ((Y.2 4 14) + asked))) H locs) => ?_)
        refine lv_aload (pc := 1723) hx hb dL_law_1723 (lv_at hl 16 rfl) ?_
        refine lv_iconst (pc := 1725) (v := 2) hx hb dL_law_1725 (by decide) ?_
        refine lv_dup2_11 (pc := 1726) hx hb dL_law_1726 rfl rfl ?_
        refine Z_ald (pc := 1727) (j := 4) (v := Y.2 4 2) C K P rfl (vp_dec (by decide)) rfl dL_law_1727 ?_
        refine lv_iload (pc := 1728) hx hb dL_law_1728 (lv_at hl 0 rfl) ?_
        refine lv_isub (pc := 1730) hx hb dL_law_1730 ?_
        refine Z_ast (pc := 1731) (j := 4) (n := 16) (x := (Y.2 4 2) - back) C K P (zj4 _) (vp_dec (by decide)) (zs4 _ _ _) dL_law_1731 (fun H locs (P : Hp D A s (G_W cI cO η σ ++ Z_W cI ar (bs (bs Y 4 14 ((Y.2 4 14) + asked)) 4 2 ((Y.2 4 2) - back))) H locs) => ?_)
        refine lv_aload_n (pc := 1732) hx hb dL_law_1732 rfl (lv_at hl 21 rfl) ?_
        refine lv_iload (pc := 1733) hx hb dL_law_1733 (lv_at hl 1 rfl) ?_
        have e1 : an (g_export σ asked) = back ∧ _ := p_exp hTI hlo hab c1584 hX c0
        refine T_callW (pc := 1735) (As0 := [.int asked]) (rest := []) (v := back) (τ := (g_export σ asked).2.2) C V hEC K E9 hl.1 hg P (kL_export l hl9 D cI cO t0 η σ asked hG (fun _ => gk_export hG _)) fnL_export ⟨e1.1, rfl⟩ gL_law_L_export rfl rfl ⟨Nat.le_trans (Nat.le_of_ble_eq_true rfl) hRf, Nat.le_trans (Nat.le_of_ble_eq_true rfl) hRl⟩ (Nat.le_of_ble_eq_true rfl) ⟨by omega, by omega⟩ dL_law_1735 (fun η H locs (P : Hp D A s (G_W cI cO η (g_export σ asked).2.2 ++ Z_W cI ar (bs (bs Y 4 14 ((Y.2 4 14) + asked)) 4 2 ((Y.2 4 2) - back))) H locs) (hG : Gok t0 η (g_export σ asked).2.2) hg => ?_)
        refine lv_iload (pc := 1738) hx hb dL_law_1738 (lv_at hl 0 rfl) ?_
        refine lv_icmp_ne (pc := 1740) (tgt := 1747) hx hb dL_law_1740 (by decide) (fun g => absurd rfl g) (fun _ => ?_)
        refine lv_iconst (pc := 1743) (v := 1) hx hb dL_law_1743 (by decide) ?_
        refine lv_goto (pc := 1744) (tgt := 1748) hx hb dL_law_1744 (by decide) ?_
        refine lv_istore (pc := 1748) (lv' := [(20, .int 1), (39, .int back), (38, .int asked), (19, .int hv), (18, .int so), (17, .int o), (16, .int k), (15, .int u), (14, .int w), (13, .int (nI T)), (12, .int (σ.1 9)), (11, .int (σ.1 8)), (10, .ref (ar 8)), (9, .ref (ar 7)), (8, .ref (ar 6)), (7, .ref (ar 5)), (6, .ref (ar 4)), (5, .ref (ar 3)), (4, .ref (ar 2)), (3, .ref (ar 1)), (2, .ref (ar 0)), (1, .ref g0), (0, .ref b)]) hx hb dL_law_1748 hl (by decide) rfl (fun ls hl => ?_)
        refine lv_goto (pc := 1750) (tgt := 2755) hx hb dL_law_1750 (by decide) ?_
        exact W.widen (by omega) (by omega) (kk η ((g_export σ asked).2.2) (bs (bs Y 4 14 ((Y.2 4 14) + asked)) 4 2 ((Y.2 4 2) - back)) _ _ ls e1.2.1 hG hg P (by rw [e1.2.2.1, e1.2.2.2]; exact (lv_sub hl [0, 9, 10, 11, 12, 13, 14, 15, 16, 17, 18, 19, 20, 21, 22] rfl)))
      have loop2 : ∀ (f n i : Nat) (left back : Int32) (X Y : Sg), n < f → XI σ asked (exl (ix (σ.1 18)) 0 asked 0 σ) n i left back X Y → ∀ (H : Heap) (locs : List Loc) (P : Hp D A s (G_W cI cO η σ ++ Z_W cI ar Y) H locs) (ls : Array Slot), lv_has ls 62 [(41, .int (nI i)), (40, .int left), (39, .int back), (38, .int asked), (20, .int 1), (19, .int hv), (18, .int so), (17, .int o), (16, .int k), (15, .int u), (14, .int w), (13, .int (nI T)), (12, .int (σ.1 9)), (11, .int (σ.1 8)), (10, .ref (ar 8)), (9, .ref (ar 7)), (8, .ref (ar 6)), (7, .ref (ar 5)), (6, .ref (ar 4)), (5, .ref (ar 3)), (4, .ref (ar 2)), (3, .ref (ar 1)), (2, .ref (ar 0)), (1, .ref g0), (0, .ref b)] → W p l e R s m args below meth c H locs cells slots Q (F0 m 1618 ls []) := by
        intro f
        induction f with
        | zero => intro n i left back X Y hf; exact absurd hf (by omega)
        | succ f ih =>
          intro n i left back X Y hf hX H locs P ls hl
          refine lv_iload (pc := 1618) hx hb dL_law_1618 (lv_at hl 1 rfl) ?_
          refine lv_if_le (pc := 1620) (tgt := 1713) hx hb dL_law_1620 (by decide) (fun (c1620 : left ≤ 0) => ?_) (fun (c1620 : ¬ left ≤ 0) => ?_)
          · exact endC n i left back X Y hX c1620 _ _ P ls (lv_sub hl [2, 3, 4, 5, 6, 7, 8, 9, 10, 11, 12, 13, 14, 15, 16, 17, 18, 19, 20, 21, 22, 23, 24] rfl)
          · obtain ⟨n2, rfl⟩ := xi_lt hX c1620
            have hi40 : i < 40 := by have h1 := hX.1; have h2 := hTI.2.1.2; omega
            refine lv_aload (pc := 1623) hx hb dL_law_1623 (lv_at hl 17 rfl) ?_
            refine lv_iload (pc := 1625) hx hb dL_law_1625 (lv_at hl 0 rfl) ?_
            refine Z_aldN (pc := 1627) (j := 5) (n := 40) (v := Y.2 5 i) C K P rfl (k := i) hi40 (by decide) rfl dL_law_1627 ?_
            refine lv_if_ne (pc := 1628) (tgt := 1634) hx hb dL_law_1628 (by decide) (fun (c1628 : ¬ (Y.2 5 i) = 0) => ?_) (fun (c1628 : (Y.2 5 i) = 0) => ?_)
            · refine lv_aload (pc := 1634) hx hb dL_law_1634 (lv_at hl 17 rfl) ?_
              refine lv_iload (pc := 1636) hx hb dL_law_1636 (lv_at hl 0 rfl) ?_
              refine Z_aldN (pc := 1638) (j := 5) (n := 40) (v := Y.2 5 i) C K P rfl (k := i) hi40 (by decide) rfl dL_law_1638 ?_
              refine lv_iload (pc := 1639) hx hb dL_law_1639 (lv_at hl 1 rfl) ?_
              refine lv_mergeI (M := 1654) (T := if left ≤ (Y.2 5 i) then left else (Y.2 5 i)) (rest := []) (fun hm => ?_) (fun (m1641 : Int32) (hm1641 : m1641 = (if left ≤ (Y.2 5 i) then left else (Y.2 5 i) : Int32)) => ?_)
              · refine lv_icmp_ge (pc := 1641) (tgt := 1652) hx hb dL_law_1641 (by decide) (fun (c1641 : left ≤ (Y.2 5 i)) => ?_) (fun (c1641 : ¬ left ≤ (Y.2 5 i)) => ?_)
                · refine lv_iload (pc := 1652) hx hb dL_law_1652 (lv_at hl 1 rfl) ?_
                  exact hm _ (by rw [if_pos c1641])
                · refine lv_aload (pc := 1644) hx hb dL_law_1644 (lv_at hl 17 rfl) ?_
                  refine lv_iload (pc := 1646) hx hb dL_law_1646 (lv_at hl 0 rfl) ?_
                  refine Z_aldN (pc := 1648) (j := 5) (n := 40) (v := Y.2 5 i) C K P rfl (k := i) hi40 (by decide) rfl dL_law_1648 ?_
                  refine lv_goto (pc := 1649) (tgt := 1654) hx hb dL_law_1649 (by decide) ?_
                  exact hm _ (by rw [if_neg c1641])
              refine lv_istore (pc := 1654) (lv' := [(42, .int m1641), (41, .int (nI i)), (40, .int left), (39, .int back), (38, .int asked), (20, .int 1), (19, .int hv), (18, .int so), (17, .int o), (16, .int k), (15, .int u), (14, .int w), (13, .int (nI T)), (12, .int (σ.1 9)), (11, .int (σ.1 8)), (10, .ref (ar 8)), (9, .ref (ar 7)), (8, .ref (ar 6)), (7, .ref (ar 5)), (6, .ref (ar 4)), (5, .ref (ar 3)), (4, .ref (ar 2)), (3, .ref (ar 1)), (2, .ref (ar 0)), (1, .ref g0), (0, .ref b)]) hx hb dL_law_1654 hl (by decide) rfl (fun ls hl => ?_)
              refine lv_aload (pc := 1656) hx hb dL_law_1656 (lv_at hl 17 rfl) ?_
              refine lv_iload (pc := 1658) hx hb dL_law_1658 (lv_at hl 1 rfl) ?_
              refine Z_aldN (pc := 1660) (j := 6) (n := 40) (v := Y.2 6 i) C K P rfl (k := i) hi40 (by decide) rfl dL_law_1660 ?_
              refine lv_iload (pc := 1661) hx hb dL_law_1661 (lv_at hl 0 rfl) ?_
              refine lv_aload (pc := 1663) hx hb dL_law_1663 (lv_at hl 18 rfl) ?_
              refine lv_iload (pc := 1665) hx hb dL_law_1665 (lv_at hl 1 rfl) ?_
              refine Z_aldN (pc := 1667) (j := 5) (n := 40) (v := Y.2 5 i) C K P rfl (k := i) hi40 (by decide) rfl dL_law_1667 ?_
              refine S_call (pc := 1668) (As := [.int (Y.2 6 i), .int m1641, .int (Y.2 5 i)]) (rest := []) (r := m_part (Y.2 6 i) m1641 (Y.2 5 i)) C hl.1 (kL_times l (Y.2 6 i) m1641 (Y.2 5 i) c1628) fnL_times gL_law_L_times rfl rfl ⟨Nat.le_trans (Nat.le_of_ble_eq_true rfl) hRf, Nat.le_trans (Nat.le_of_ble_eq_true rfl) hRl⟩ (Nat.le_of_ble_eq_true rfl) ⟨by omega, by omega⟩ dL_law_1668 ?_
              refine lv_topi (fun (its : Int32) (hits : its = (m_part (Y.2 6 i) m1641 (Y.2 5 i) : Int32)) => ?_)
              refine lv_istore (pc := 1671) (lv' := [(43, .int its), (42, .int m1641), (41, .int (nI i)), (40, .int left), (39, .int back), (38, .int asked), (20, .int 1), (19, .int hv), (18, .int so), (17, .int o), (16, .int k), (15, .int u), (14, .int w), (13, .int (nI T)), (12, .int (σ.1 9)), (11, .int (σ.1 8)), (10, .ref (ar 8)), (9, .ref (ar 7)), (8, .ref (ar 6)), (7, .ref (ar 5)), (6, .ref (ar 4)), (5, .ref (ar 3)), (4, .ref (ar 2)), (3, .ref (ar 1)), (2, .ref (ar 0)), (1, .ref g0), (0, .ref b)]) hx hb dL_law_1671 hl (by decide) rfl (fun ls hl => ?_)
              refine lv_iload (pc := 1673) hx hb dL_law_1673 (lv_at hl 4 rfl) ?_
              refine lv_iload (pc := 1675) hx hb dL_law_1675 (lv_at hl 0 rfl) ?_
              refine lv_iadd (pc := 1677) hx hb dL_law_1677 ?_
              refine lv_istore (pc := 1678) (lv' := [(39, .int (back + its)), (43, .int its), (42, .int m1641), (41, .int (nI i)), (40, .int left), (38, .int asked), (20, .int 1), (19, .int hv), (18, .int so), (17, .int o), (16, .int k), (15, .int u), (14, .int w), (13, .int (nI T)), (12, .int (σ.1 9)), (11, .int (σ.1 8)), (10, .ref (ar 8)), (9, .ref (ar 7)), (8, .ref (ar 6)), (7, .ref (ar 5)), (6, .ref (ar 4)), (5, .ref (ar 3)), (4, .ref (ar 2)), (3, .ref (ar 1)), (2, .ref (ar 0)), (1, .ref g0), (0, .ref b)]) hx hb dL_law_1678 hl (by decide) rfl (fun ls hl => ?_)
              refine lv_aload (pc := 1680) hx hb dL_law_1680 (lv_at hl 18 rfl) ?_
              refine lv_iload (pc := 1682) hx hb dL_law_1682 (lv_at hl 3 rfl) ?_
              refine lv_dup2_11 (pc := 1684) hx hb dL_law_1684 rfl rfl ?_
              refine Z_aldN (pc := 1685) (j := 6) (n := 40) (v := Y.2 6 i) C K P rfl (k := i) hi40 (by decide) rfl dL_law_1685 ?_
              refine lv_iload (pc := 1686) hx hb dL_law_1686 (lv_at hl 1 rfl) ?_
              refine lv_isub (pc := 1688) hx hb dL_law_1688 ?_
              refine Z_astN (pc := 1689) (j := 6) (n := 40) (x := (Y.2 6 i) - its) C K P rfl (k := i) hi40 (by decide) rfl dL_law_1689 (fun H locs (P : Hp D A s (G_W cI cO η σ ++ Z_W cI ar (bs Y 6 i ((Y.2 6 i) - its))) H locs) => ?_)
              refine lv_aload (pc := 1690) hx hb dL_law_1690 (lv_at hl 19 rfl) ?_
              refine lv_iload (pc := 1692) hx hb dL_law_1692 (lv_at hl 3 rfl) ?_
              refine lv_dup2_11 (pc := 1694) hx hb dL_law_1694 rfl rfl ?_
              refine Z_aldN (pc := 1695) (j := 5) (n := 40) (v := Y.2 5 i) C K P rfl (k := i) hi40 (by decide) rfl dL_law_1695 ?_
              refine lv_iload (pc := 1696) hx hb dL_law_1696 (lv_at hl 2 rfl) ?_
              refine lv_isub (pc := 1698) hx hb dL_law_1698 ?_
              refine Z_astN (pc := 1699) (j := 5) (n := 40) (x := (Y.2 5 i) - m1641) C K P rfl (k := i) hi40 (by decide) rfl dL_law_1699 (fun H locs (P : Hp D A s (G_W cI cO η σ ++ Z_W cI ar (bs (bs Y 6 i ((Y.2 6 i) - its)) 5 i ((Y.2 5 i) - m1641))) H locs) => ?_)
              refine lv_iload (pc := 1700) hx hb dL_law_1700 (lv_at hl 4 rfl) ?_
              refine lv_iload (pc := 1702) hx hb dL_law_1702 (lv_at hl 2 rfl) ?_
              refine lv_isub (pc := 1704) hx hb dL_law_1704 ?_
              refine lv_istore (pc := 1705) (lv' := [(40, .int (left - m1641)), (39, .int (back + its)), (43, .int its), (42, .int m1641), (41, .int (nI i)), (38, .int asked), (20, .int 1), (19, .int hv), (18, .int so), (17, .int o), (16, .int k), (15, .int u), (14, .int w), (13, .int (nI T)), (12, .int (σ.1 9)), (11, .int (σ.1 8)), (10, .ref (ar 8)), (9, .ref (ar 7)), (8, .ref (ar 6)), (7, .ref (ar 5)), (6, .ref (ar 4)), (5, .ref (ar 3)), (4, .ref (ar 2)), (3, .ref (ar 1)), (2, .ref (ar 0)), (1, .ref g0), (0, .ref b)]) hx hb dL_law_1705 hl (by decide) rfl (fun ls hl => ?_)
              refine lv_iinc (pc := 1707) (v := nI (i + 1)) (lv' := [(41, .int (nI (i + 1))), (40, .int (left - m1641)), (39, .int (back + its)), (43, .int its), (42, .int m1641), (38, .int asked), (20, .int 1), (19, .int hv), (18, .int so), (17, .int o), (16, .int k), (15, .int u), (14, .int w), (13, .int (nI T)), (12, .int (σ.1 9)), (11, .int (σ.1 8)), (10, .ref (ar 8)), (9, .ref (ar 7)), (8, .ref (ar 6)), (7, .ref (ar 5)), (6, .ref (ar 4)), (5, .ref (ar 3)), (4, .ref (ar 2)), (3, .ref (ar 1)), (2, .ref (ar 0)), (1, .ref g0), (0, .ref b)]) hx hb dL_law_1707 hl (k := 4) rfl ((nI_succ i).symm) (by decide) rfl (fun ls hl => ?_)
              refine lv_goto (pc := 1710) (tgt := 1618) hx hb dL_law_1710 (by decide) ?_
              exact ih n2 (i + 1) (left - m1641) (back + its) (ex_s left X i) (bs (bs Y 6 i ((Y.2 6 i) - its)) 5 i ((Y.2 5 i) - m1641)) (by omega) (xi_s hX hTI.2.1 hTI.2.2.2.2.2.1 c1620 c1628 hm1641 hits) _ _ P ls (lv_sub hl [0, 1, 2, 5, 6, 7, 8, 9, 10, 11, 12, 13, 14, 15, 16, 17, 18, 19, 20, 21, 22, 23, 24, 25, 26] rfl)
            · refine lv_goto (pc := 1631) (tgt := 1707) hx hb dL_law_1631 (by decide) ?_
              refine lv_iinc (pc := 1707) (v := nI (i + 1)) (lv' := [(41, .int (nI (i + 1))), (40, .int left), (39, .int back), (38, .int asked), (20, .int 1), (19, .int hv), (18, .int so), (17, .int o), (16, .int k), (15, .int u), (14, .int w), (13, .int (nI T)), (12, .int (σ.1 9)), (11, .int (σ.1 8)), (10, .ref (ar 8)), (9, .ref (ar 7)), (8, .ref (ar 6)), (7, .ref (ar 5)), (6, .ref (ar 4)), (5, .ref (ar 3)), (4, .ref (ar 2)), (3, .ref (ar 1)), (2, .ref (ar 0)), (1, .ref g0), (0, .ref b)]) hx hb dL_law_1707 hl (k := 0) rfl ((nI_succ i).symm) (by decide) rfl (fun ls hl => ?_)
              refine lv_goto (pc := 1710) (tgt := 1618) hx hb dL_law_1710 (by decide) ?_
              exact ih n2 (i + 1) left back X Y (by omega) (xi_0 hX hTI.2.1 c1620 c1628) _ _ P ls (lv_sub hl [0, 1, 2, 3, 4, 5, 6, 7, 8, 9, 10, 11, 12, 13, 14, 15, 16, 17, 18, 19, 20, 21, 22, 23, 24] rfl)
      refine lv_iconst (pc := 1608) (v := 0) hx hb dL_law_1608 (by decide) ?_
      refine lv_istore (pc := 1609) (lv' := [(39, .int 0), (38, .int asked), (37, .int lo), (20, .int 1), (19, .int hv), (18, .int so), (17, .int o), (16, .int k), (15, .int u), (14, .int w), (13, .int (nI T)), (12, .int (σ.1 9)), (11, .int (σ.1 8)), (10, .ref (ar 8)), (9, .ref (ar 7)), (8, .ref (ar 6)), (7, .ref (ar 5)), (6, .ref (ar 4)), (5, .ref (ar 3)), (4, .ref (ar 2)), (3, .ref (ar 1)), (2, .ref (ar 0)), (1, .ref g0), (0, .ref b)]) hx hb dL_law_1609 hl (by decide) rfl (fun ls hl => ?_)
      refine lv_iload (pc := 1611) hx hb dL_law_1611 (lv_at hl 1 rfl) ?_
      refine lv_istore (pc := 1613) (lv' := [(40, .int asked), (39, .int 0), (38, .int asked), (37, .int lo), (20, .int 1), (19, .int hv), (18, .int so), (17, .int o), (16, .int k), (15, .int u), (14, .int w), (13, .int (nI T)), (12, .int (σ.1 9)), (11, .int (σ.1 8)), (10, .ref (ar 8)), (9, .ref (ar 7)), (8, .ref (ar 6)), (7, .ref (ar 5)), (6, .ref (ar 4)), (5, .ref (ar 3)), (4, .ref (ar 2)), (3, .ref (ar 1)), (2, .ref (ar 0)), (1, .ref g0), (0, .ref b)]) hx hb dL_law_1613 hl (by decide) rfl (fun ls hl => ?_)
      refine lv_iconst (pc := 1615) (v := 0) hx hb dL_law_1615 (by decide) ?_
      refine lv_istore (pc := 1616) (lv' := [(41, .int 0), (40, .int asked), (39, .int 0), (38, .int asked), (37, .int lo), (20, .int 1), (19, .int hv), (18, .int so), (17, .int o), (16, .int k), (15, .int u), (14, .int w), (13, .int (nI T)), (12, .int (σ.1 9)), (11, .int (σ.1 8)), (10, .ref (ar 8)), (9, .ref (ar 7)), (8, .ref (ar 6)), (7, .ref (ar 5)), (6, .ref (ar 4)), (5, .ref (ar 3)), (4, .ref (ar 2)), (3, .ref (ar 1)), (2, .ref (ar 0)), (1, .ref g0), (0, .ref b)]) hx hb dL_law_1616 hl (by decide) rfl (fun ls hl => ?_)
      exact loop2 (ix (σ.1 18) + 1) (ix (σ.1 18)) 0 asked 0 σ L (by omega) (xi_start hTI hlo hab c1584) _ _ P ls (lv_sub hl [0, 1, 2, 3, 5, 6, 7, 8, 9, 10, 11, 12, 13, 14, 15, 16, 17, 18, 19, 20, 21, 22, 23, 24, 25] rfl)
    · refine lv_aload_n (pc := 1587) hx hb dL_law_1587 rfl (lv_at hl 21 rfl) ?_
      refine lv_iload (pc := 1588) hx hb dL_law_1588 (lv_at hl 0 rfl) ?_
      have e1 : an (g_export σ asked) = (-2000000003) ∧ _ := p_exp_no hTI hlo hab c1584
      refine T_callW (pc := 1590) (As0 := [.int asked]) (rest := []) (v := (-2000000003)) (τ := (g_export σ asked).2.2) C V hEC K E9 hl.1 hg P (kL_export l hl9 D cI cO t0 η σ asked hG (fun _ => gk_export hG _)) fnL_export ⟨e1.1, rfl⟩ gL_law_L_export rfl rfl ⟨Nat.le_trans (Nat.le_of_ble_eq_true rfl) hRf, Nat.le_trans (Nat.le_of_ble_eq_true rfl) hRl⟩ (Nat.le_of_ble_eq_true rfl) ⟨by omega, by omega⟩ dL_law_1590 (fun η H locs (P : Hp D A s (G_W cI cO η (g_export σ asked).2.2 ++ Z_W cI ar L) H locs) (hG : Gok t0 η (g_export σ asked).2.2) hg => ?_)
      refine lv_ldc (pc := 1593) (v := (-2000000003)) hx hb hown (hts _ lc_22) dL_law_1593 ?_
      refine lv_icmp_ne (pc := 1595) (tgt := 1602) hx hb dL_law_1595 (by decide) (fun h => absurd h (by decide)) (fun _ => ?_)
      refine lv_iconst (pc := 1598) (v := 1) hx hb dL_law_1598 (by decide) ?_
      refine lv_goto (pc := 1599) (tgt := 1603) hx hb dL_law_1599 (by decide) ?_
      refine lv_istore (pc := 1603) (lv' := [(20, .int 1), (38, .int asked), (37, .int lo), (19, .int hv), (18, .int so), (17, .int o), (16, .int k), (15, .int u), (14, .int w), (13, .int (nI T)), (12, .int (σ.1 9)), (11, .int (σ.1 8)), (10, .ref (ar 8)), (9, .ref (ar 7)), (8, .ref (ar 6)), (7, .ref (ar 5)), (6, .ref (ar 4)), (5, .ref (ar 3)), (4, .ref (ar 2)), (3, .ref (ar 1)), (2, .ref (ar 0)), (1, .ref g0), (0, .ref b)]) hx hb dL_law_1603 hl (by decide) rfl (fun ls hl => ?_)
      refine lv_goto (pc := 1605) (tgt := 2755) hx hb dL_law_1605 (by decide) ?_
      exact W.widen (by omega) (by omega) (kk η ((g_export σ asked).2.2) L _ _ ls (by rw [e1.2]; exact ti_up hTI) hG hg P (by rw [e1.2]; exact (lv_sub hl [0, 9, 10, 11, 12, 13, 14, 15, 16, 17, 18, 19, 20, 21, 22] rfl)))
  have loop1 : ∀ (n i : Nat), i ≤ ix (L.2 4 9) → ix (L.2 4 9) < i + n → ∀ (H : Heap) (locs : List Loc) (P : Hp D A s (G_W cI cO η σ ++ Z_W cI ar L) H locs) (ls : Array Slot), lv_has ls 62 [(38, .int (nI i)), (37, .int (sm (L.2 5) i)), (20, .int 1), (19, .int hv), (18, .int so), (17, .int o), (16, .int k), (15, .int u), (14, .int w), (13, .int (nI T)), (12, .int (σ.1 9)), (11, .int (σ.1 8)), (10, .ref (ar 8)), (9, .ref (ar 7)), (8, .ref (ar 6)), (7, .ref (ar 5)), (6, .ref (ar 4)), (5, .ref (ar 3)), (4, .ref (ar 2)), (3, .ref (ar 1)), (2, .ref (ar 0)), (1, .ref g0), (0, .ref b)] → W p l e R s m args below meth c H locs cells slots Q (F0 m 1539 ls []) := by
    intro n
    induction n with
    | zero => intro i h1 h2; exact absurd h2 (by omega)
    | succ n ih =>
      intro i h1 h2 H locs P ls hl
      refine lv_iload (pc := 1539) hx hb dL_law_1539 (lv_at hl 0 rfl) ?_
      refine lv_aload (pc := 1541) hx hb dL_law_1541 (lv_at hl 16 rfl) ?_
      refine lv_bipush (pc := 1543) (v := 9) hx hb dL_law_1543 (by decide) ?_
      refine Z_ald (pc := 1545) (j := 4) (v := L.2 4 9) C K P rfl (vp_dec (by decide)) rfl dL_law_1545 ?_
      refine lv_icmp_ge (pc := 1546) (tgt := 1565) hx hb dL_law_1546 (by decide) (fun (c1546 : (L.2 4 9) ≤ (nI i)) => ?_) (fun (c1546 : ¬ (L.2 4 9) ≤ (nI i)) => ?_)
      · have ei : i = ix (L.2 4 9) := lz_end hc9 c1546 h1
        exact afterB _ (by rw [ei]) _ _ P ls (lv_sub hl [1, 2, 3, 4, 5, 6, 7, 8, 9, 10, 11, 12, 13, 14, 15, 16, 17, 18, 19, 20, 21, 22] rfl)
      · have hi : i < ix (L.2 4 9) := lz_in hc9 c1546 h1
        have hi40 : i < 40 := Nat.lt_of_lt_of_le hi hc9.2
        refine lv_iload (pc := 1549) hx hb dL_law_1549 (lv_at hl 1 rfl) ?_
        refine lv_aload (pc := 1551) hx hb dL_law_1551 (lv_at hl 15 rfl) ?_
        refine lv_iload (pc := 1553) hx hb dL_law_1553 (lv_at hl 0 rfl) ?_
        refine Z_aldN (pc := 1555) (j := 5) (n := 40) (v := L.2 5 i) C K P rfl (k := i) hi40 (by decide) rfl dL_law_1555 ?_
        refine lv_iadd (pc := 1556) hx hb dL_law_1556 ?_
        refine lv_istore (pc := 1557) (lv' := [(37, .int ((sm (L.2 5) i) + (L.2 5 i))), (38, .int (nI i)), (20, .int 1), (19, .int hv), (18, .int so), (17, .int o), (16, .int k), (15, .int u), (14, .int w), (13, .int (nI T)), (12, .int (σ.1 9)), (11, .int (σ.1 8)), (10, .ref (ar 8)), (9, .ref (ar 7)), (8, .ref (ar 6)), (7, .ref (ar 5)), (6, .ref (ar 4)), (5, .ref (ar 3)), (4, .ref (ar 2)), (3, .ref (ar 1)), (2, .ref (ar 0)), (1, .ref g0), (0, .ref b)]) hx hb dL_law_1557 hl (by decide) rfl (fun ls hl => ?_)
        refine lv_iinc (pc := 1559) (v := nI (i + 1)) (lv' := [(38, .int (nI (i + 1))), (37, .int ((sm (L.2 5) i) + (L.2 5 i))), (20, .int 1), (19, .int hv), (18, .int so), (17, .int o), (16, .int k), (15, .int u), (14, .int w), (13, .int (nI T)), (12, .int (σ.1 9)), (11, .int (σ.1 8)), (10, .ref (ar 8)), (9, .ref (ar 7)), (8, .ref (ar 6)), (7, .ref (ar 5)), (6, .ref (ar 4)), (5, .ref (ar 3)), (4, .ref (ar 2)), (3, .ref (ar 1)), (2, .ref (ar 0)), (1, .ref g0), (0, .ref b)]) hx hb dL_law_1559 hl (k := 1) rfl ((nI_succ i).symm) (by decide) rfl (fun ls hl => ?_)
        refine lv_goto (pc := 1562) (tgt := 1539) hx hb dL_law_1562 (by decide) ?_
        exact ih (i + 1) hi (by omega) _ _ P ls (by rw [show sm (L.2 5) (i + 1) = sm (L.2 5) i + L.2 5 i from rfl]; exact (lv_sub hl [0, 1, 2, 3, 4, 5, 6, 7, 8, 9, 10, 11, 12, 13, 14, 15, 16, 17, 18, 19, 20, 21, 22] rfl))
  refine lv_iconst (pc := 1533) (v := 0) hx hb dL_law_1533 (by decide) ?_
  refine lv_istore (pc := 1534) (lv' := [(37, .int 0), (20, .int 1), (19, .int hv), (18, .int so), (17, .int o), (16, .int k), (15, .int u), (14, .int w), (13, .int (nI T)), (12, .int (σ.1 9)), (11, .int (σ.1 8)), (10, .ref (ar 8)), (9, .ref (ar 7)), (8, .ref (ar 6)), (7, .ref (ar 5)), (6, .ref (ar 4)), (5, .ref (ar 3)), (4, .ref (ar 2)), (3, .ref (ar 1)), (2, .ref (ar 0)), (1, .ref g0), (0, .ref b)]) hx hb dL_law_1534 hl (by decide) rfl (fun ls hl => ?_)
  refine lv_iconst (pc := 1536) (v := 0) hx hb dL_law_1536 (by decide) ?_
  refine lv_istore (pc := 1537) (lv' := [(38, .int 0), (37, .int 0), (20, .int 1), (19, .int hv), (18, .int so), (17, .int o), (16, .int k), (15, .int u), (14, .int w), (13, .int (nI T)), (12, .int (σ.1 9)), (11, .int (σ.1 8)), (10, .ref (ar 8)), (9, .ref (ar 7)), (8, .ref (ar 6)), (7, .ref (ar 5)), (6, .ref (ar 4)), (5, .ref (ar 3)), (4, .ref (ar 2)), (3, .ref (ar 1)), (2, .ref (ar 0)), (1, .ref g0), (0, .ref b)]) hx hb dL_law_1537 hl (by decide) rfl (fun ls hl => ?_)
  exact loop1 (ix (L.2 4 9) + 1) 0 (Nat.zero_le _) (by omega) _ _ P ls (lv_sub hl [0, 1, 2, 3, 4, 5, 6, 7, 8, 9, 10, 11, 12, 13, 14, 15, 16, 17, 18, 19, 20, 21, 22] rfl)
end LC6
