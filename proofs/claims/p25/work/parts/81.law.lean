section LC1
variable {p : Program} {l : Launch} {e : Env} {R : Room} {s : State} {m : MethodId} {args : Array Value} {below : List Frame} {meth : Method} {c : Code} {H : Heap} {locs : List Loc} {cells slots : Nat} {Q : State → Prop} {ls : Array Slot} {D : va_G} {A : Nat → Prop} {ret : Option FieldType} {cI cO : ClassId} {t0 : Nat} {η : Eg} {σ L : Sg} {ar : Nat → Nat} {g0 b T : Nat} {k o so hv u w : Int32}
set_option maxHeartbeats 8000000 in
set_option maxRecDepth 100000 in
theorem law_dip (hl9 : l.stackTraces = false) (C : Cx RL p s m args meth c cL_law 62 wsL_law ret) (V : EnvV s) (hEC : EnvC s) (K : va_K D vwCl (tyG cI cO) s) (E9 : EnvH t0 A s s.heap) (hRf : 12 ≤ R.frames) (hRl : 452 ≤ R.locals) (hz : cells + 400 ≤ R.cells ∧ slots + 2400 ≤ R.slots) (hT : T < 120) (hTI : TI T σ L) (hG : Gok t0 η σ) (hg : e_ad η 0 = g0) (P : Hp D A s (G_W cI cO η σ ++ Z_W cI ar L) H locs) (hk : vp_in k 5) (ho : vp_in o 5) (hso : 1 ≤ so.toInt ∧ so.toInt ≤ 10002) (hhv : hv = if L.2 1 (ix k) < so then 0 else 1) (hl : lv_has ls 62 [(20, .int 1), (19, .int hv), (18, .int so), (17, .int o), (16, .int k), (15, .int u), (14, .int w), (13, .int (nI T)), (12, .int (σ.1 9)), (11, .int (σ.1 8)), (10, .ref (ar 8)), (9, .ref (ar 7)), (8, .ref (ar 6)), (7, .ref (ar 5)), (6, .ref (ar 4)), (5, .ref (ar 3)), (4, .ref (ar 2)), (3, .ref (ar 1)), (2, .ref (ar 0)), (1, .ref g0), (0, .ref b)]) (kk : ∀ (η : Eg) (σ L : Sg) (H : Heap) (locs : List Loc) (ls : Array Slot), TI (T + 1) σ L → Gok t0 η σ → e_ad η 0 = g0 → Hp D A s (G_W cI cO η σ ++ Z_W cI ar L) H locs → lv_has ls 62 [(20, .int 1), (13, .int (nI T)), (12, .int (σ.1 9)), (11, .int (σ.1 8)), (10, .ref (ar 8)), (9, .ref (ar 7)), (8, .ref (ar 6)), (7, .ref (ar 5)), (6, .ref (ar 4)), (5, .ref (ar 3)), (4, .ref (ar 2)), (3, .ref (ar 1)), (2, .ref (ar 0)), (1, .ref g0), (0, .ref b)] → W p l e R s m args below meth c H locs (cells + 12) (slots + 500) Q (F0 m 2755 ls [])) : W p l e R s m args below meth c H locs cells slots Q (F0 m 746 ls []) := by
  have hx := C.1
  have hb := C.2.1
  have hown := C.2.2.2.1
  have hts := C.2.2.2.2.1
  refine lv_iload (pc := 746) hx hb dL_law_746 (lv_at hl 8 rfl) ?_
  refine lv_bipush (pc := 748) (v := 60) hx hb dL_law_748 (by decide) ?_
  refine lv_icmp_ne (pc := 750) (tgt := 756) hx hb dL_law_750 (by decide) (fun (c750 : ¬ (σ.1 9) = 60) => ?_) (fun (c750 : (σ.1 9) = 60) => ?_)
  · refine lv_aload_n (pc := 756) hx hb dL_law_756 rfl (lv_at hl 17 rfl) ?_
    refine lv_iload (pc := 757) hx hb dL_law_757 (lv_at hl 4 rfl) ?_
    refine Z_ald (pc := 759) (j := 1) (v := L.2 1 (ix k)) C K P rfl hk rfl dL_law_759 ?_
    refine lv_iload (pc := 760) hx hb dL_law_760 (lv_at hl 5 rfl) ?_
    refine lv_iconst (pc := 762) (v := 5) hx hb dL_law_762 (by decide) ?_
    refine S_call (pc := 763) (As := [.int u, .int 5]) (rest := [.int (L.2 1 (ix k))]) (r := z_low u 5) C hl.1 (kL_low l u 5 (by decide)) fnL_low gL_law_L_low rfl rfl ⟨Nat.le_trans (Nat.le_of_ble_eq_true rfl) hRf, Nat.le_trans (Nat.le_of_ble_eq_true rfl) hRl⟩ (Nat.le_of_ble_eq_true rfl) ⟨by omega, by omega⟩ dL_law_763 ?_
    refine lv_isub (pc := 766) hx hb dL_law_766 ?_
    refine lv_iload (pc := 767) hx hb dL_law_767 (lv_at hl 5 rfl) ?_
    refine lv_bipush (pc := 769) (v := 12) hx hb dL_law_769 (by decide) ?_
    refine lv_ishr (pc := 771) hx hb dL_law_771 ?_
    refine lv_iconst (pc := 772) (v := 1) hx hb dL_law_772 (by decide) ?_
    refine lv_iand (pc := 773) hx hb dL_law_773 ?_
    refine lv_iadd (pc := 774) hx hb dL_law_774 ?_
    refine lv_topi (fun (vol0 : Int32) (hvol0 : vol0 = (((L.2 1 (ix k)) - (z_low u 5)) + ((u >>> ((12 &&& 31) : Int32)) &&& 1) : Int32)) => ?_)
    refine lv_istore (pc := 775) (lv' := [(28, .int vol0), (20, .int 1), (19, .int hv), (18, .int so), (17, .int o), (16, .int k), (15, .int u), (14, .int w), (13, .int (nI T)), (12, .int (σ.1 9)), (11, .int (σ.1 8)), (10, .ref (ar 8)), (9, .ref (ar 7)), (8, .ref (ar 6)), (7, .ref (ar 5)), (6, .ref (ar 4)), (5, .ref (ar 3)), (4, .ref (ar 2)), (3, .ref (ar 1)), (2, .ref (ar 0)), (1, .ref g0), (0, .ref b)]) hx hb dL_law_775 hl (by decide) rfl (fun ls hl => ?_)
    refine lv_iload (pc := 777) hx hb dL_law_777 (lv_at hl 0 rfl) ?_
    refine lv_mergeI (M := 804) (T := if 0 ≤ vol0 then (if vol0 ≤ (L.2 0 (ix k)) then vol0 else (L.2 0 (ix k))) else 0) (rest := []) (fun hm => ?_) (fun (m779 : Int32) (hm779 : m779 = (if 0 ≤ vol0 then (if vol0 ≤ (L.2 0 (ix k)) then vol0 else (L.2 0 (ix k))) else 0 : Int32)) => ?_)
    · refine lv_if_ge (pc := 779) (tgt := 786) hx hb dL_law_779 (by decide) (fun (c779 : 0 ≤ vol0) => ?_) (fun (c779 : ¬ 0 ≤ vol0) => ?_)
      · refine lv_iload (pc := 786) hx hb dL_law_786 (lv_at hl 0 rfl) ?_
        refine lv_aload_n (pc := 788) hx hb dL_law_788 rfl (lv_at hl 19 rfl) ?_
        refine lv_iload (pc := 789) hx hb dL_law_789 (lv_at hl 5 rfl) ?_
        refine Z_ald (pc := 791) (j := 0) (v := L.2 0 (ix k)) C K P rfl hk rfl dL_law_791 ?_
        refine lv_icmp_le (pc := 792) (tgt := 802) hx hb dL_law_792 (by decide) (fun (c792 : vol0 ≤ (L.2 0 (ix k))) => ?_) (fun (c792 : ¬ vol0 ≤ (L.2 0 (ix k))) => ?_)
        · refine lv_iload (pc := 802) hx hb dL_law_802 (lv_at hl 0 rfl) ?_
          exact hm _ (by rw [if_pos c779, if_pos c792])
        · refine lv_aload_n (pc := 795) hx hb dL_law_795 rfl (lv_at hl 19 rfl) ?_
          refine lv_iload (pc := 796) hx hb dL_law_796 (lv_at hl 5 rfl) ?_
          refine Z_ald (pc := 798) (j := 0) (v := L.2 0 (ix k)) C K P rfl hk rfl dL_law_798 ?_
          refine lv_goto (pc := 799) (tgt := 804) hx hb dL_law_799 (by decide) ?_
          exact hm _ (by rw [if_pos c779, if_neg c792])
      · refine lv_iconst (pc := 782) (v := 0) hx hb dL_law_782 (by decide) ?_
        refine lv_goto (pc := 783) (tgt := 804) hx hb dL_law_783 (by decide) ?_
        exact hm _ (by rw [if_neg c779])
    refine lv_istore (pc := 804) (lv' := [(28, .int m779), (20, .int 1), (19, .int hv), (18, .int so), (17, .int o), (16, .int k), (15, .int u), (14, .int w), (13, .int (nI T)), (12, .int (σ.1 9)), (11, .int (σ.1 8)), (10, .ref (ar 8)), (9, .ref (ar 7)), (8, .ref (ar 6)), (7, .ref (ar 5)), (6, .ref (ar 4)), (5, .ref (ar 3)), (4, .ref (ar 2)), (3, .ref (ar 1)), (2, .ref (ar 0)), (1, .ref g0), (0, .ref b)]) hx hb dL_law_804 hl (by decide) rfl (fun ls hl => ?_)
    refine lv_aload_n (pc := 806) hx hb dL_law_806 rfl (lv_at hl 18 rfl) ?_
    refine lv_iload (pc := 807) hx hb dL_law_807 (lv_at hl 5 rfl) ?_
    refine Z_ald (pc := 809) (j := 1) (v := L.2 1 (ix k)) C K P rfl hk rfl dL_law_809 ?_
    refine lv_mergeI (M := 855) (T := if (L.2 1 (ix k)) = 0 then (z_low (u >>> (4 &&& 31)) 900) else ((((L.2 2 (ix k)) / (L.2 1 (ix k))) - (z_low (u >>> (4 &&& 31)) 4)) + (z_low (u >>> (7 &&& 31)) 5))) (rest := []) (fun hm => ?_) (fun (m810 : Int32) (hm810 : m810 = (if (L.2 1 (ix k)) = 0 then (z_low (u >>> ((4 &&& 31) : Int32)) 900) else ((((L.2 2 (ix k)) / (L.2 1 (ix k))) - (z_low (u >>> ((4 &&& 31) : Int32)) 4)) + (z_low (u >>> ((7 &&& 31) : Int32)) 5)) : Int32)) => ?_)
    · refine lv_if_ne (pc := 810) (tgt := 826) hx hb dL_law_810 (by decide) (fun (c810 : ¬ (L.2 1 (ix k)) = 0) => ?_) (fun (c810 : (L.2 1 (ix k)) = 0) => ?_)
      · refine lv_aload (pc := 826) hx hb dL_law_826 (lv_at hl 17 rfl) ?_
        refine lv_iload (pc := 828) hx hb dL_law_828 (lv_at hl 5 rfl) ?_
        refine Z_ald (pc := 830) (j := 2) (v := L.2 2 (ix k)) C K P rfl hk rfl dL_law_830 ?_
        refine lv_aload_n (pc := 831) hx hb dL_law_831 rfl (lv_at hl 18 rfl) ?_
        refine lv_iload (pc := 832) hx hb dL_law_832 (lv_at hl 5 rfl) ?_
        refine Z_ald (pc := 834) (j := 1) (v := L.2 1 (ix k)) C K P rfl hk rfl dL_law_834 ?_
        refine lv_idiv (pc := 835) hx hb dL_law_835 c810 ?_
        refine lv_iload (pc := 836) hx hb dL_law_836 (lv_at hl 6 rfl) ?_
        refine lv_iconst (pc := 838) (v := 4) hx hb dL_law_838 (by decide) ?_
        refine lv_ishr (pc := 839) hx hb dL_law_839 ?_
        refine lv_iconst (pc := 840) (v := 4) hx hb dL_law_840 (by decide) ?_
        refine S_call (pc := 841) (As := [.int (u >>> (4 &&& 31)), .int 4]) (rest := [.int ((L.2 2 (ix k)) / (L.2 1 (ix k)))]) (r := z_low (u >>> (4 &&& 31)) 4) C hl.1 (kL_low l (u >>> (4 &&& 31)) 4 (by decide)) fnL_low gL_law_L_low rfl rfl ⟨Nat.le_trans (Nat.le_of_ble_eq_true rfl) hRf, Nat.le_trans (Nat.le_of_ble_eq_true rfl) hRl⟩ (Nat.le_of_ble_eq_true rfl) ⟨by omega, by omega⟩ dL_law_841 ?_
        refine lv_isub (pc := 844) hx hb dL_law_844 ?_
        refine lv_iload (pc := 845) hx hb dL_law_845 (lv_at hl 6 rfl) ?_
        refine lv_bipush (pc := 847) (v := 7) hx hb dL_law_847 (by decide) ?_
        refine lv_ishr (pc := 849) hx hb dL_law_849 ?_
        refine lv_iconst (pc := 850) (v := 5) hx hb dL_law_850 (by decide) ?_
        refine S_call (pc := 851) (As := [.int (u >>> (7 &&& 31)), .int 5]) (rest := [.int (((L.2 2 (ix k)) / (L.2 1 (ix k))) - (z_low (u >>> (4 &&& 31)) 4))]) (r := z_low (u >>> (7 &&& 31)) 5) C hl.1 (kL_low l (u >>> (7 &&& 31)) 5 (by decide)) fnL_low gL_law_L_low rfl rfl ⟨Nat.le_trans (Nat.le_of_ble_eq_true rfl) hRf, Nat.le_trans (Nat.le_of_ble_eq_true rfl) hRl⟩ (Nat.le_of_ble_eq_true rfl) ⟨by omega, by omega⟩ dL_law_851 ?_
        refine lv_iadd (pc := 854) hx hb dL_law_854 ?_
        exact hm _ (by rw [if_neg c810])
      · refine lv_iload (pc := 813) hx hb dL_law_813 (lv_at hl 6 rfl) ?_
        refine lv_iconst (pc := 815) (v := 4) hx hb dL_law_815 (by decide) ?_
        refine lv_ishr (pc := 816) hx hb dL_law_816 ?_
        refine lv_sipush (pc := 817) (v := 900) hx hb dL_law_817 (by decide) ?_
        refine S_call (pc := 820) (As := [.int (u >>> (4 &&& 31)), .int 900]) (rest := []) (r := z_low (u >>> (4 &&& 31)) 900) C hl.1 (kL_low l (u >>> (4 &&& 31)) 900 (by decide)) fnL_low gL_law_L_low rfl rfl ⟨Nat.le_trans (Nat.le_of_ble_eq_true rfl) hRf, Nat.le_trans (Nat.le_of_ble_eq_true rfl) hRl⟩ (Nat.le_of_ble_eq_true rfl) ⟨by omega, by omega⟩ dL_law_820 ?_
        refine lv_goto (pc := 823) (tgt := 855) hx hb dL_law_823 (by decide) ?_
        exact hm _ (by rw [if_pos c810])
    refine lv_istore (pc := 855) (lv' := [(29, .int m810), (28, .int m779), (20, .int 1), (19, .int hv), (18, .int so), (17, .int o), (16, .int k), (15, .int u), (14, .int w), (13, .int (nI T)), (12, .int (σ.1 9)), (11, .int (σ.1 8)), (10, .ref (ar 8)), (9, .ref (ar 7)), (8, .ref (ar 6)), (7, .ref (ar 5)), (6, .ref (ar 4)), (5, .ref (ar 3)), (4, .ref (ar 2)), (3, .ref (ar 1)), (2, .ref (ar 0)), (1, .ref g0), (0, .ref b)]) hx hb dL_law_855 hl (by decide) rfl (fun ls hl => ?_)
    refine lv_iload (pc := 857) hx hb dL_law_857 (lv_at hl 0 rfl) ?_
    refine lv_mergeI (M := 882) (T := if 0 ≤ m810 then (if m810 ≤ 960 then m810 else 960) else 0) (rest := []) (fun hm => ?_) (fun (m859 : Int32) (hm859 : m859 = (if 0 ≤ m810 then (if m810 ≤ 960 then m810 else 960) else 0 : Int32)) => ?_)
    · refine lv_if_ge (pc := 859) (tgt := 866) hx hb dL_law_859 (by decide) (fun (c859 : 0 ≤ m810) => ?_) (fun (c859 : ¬ 0 ≤ m810) => ?_)
      · refine lv_iload (pc := 866) hx hb dL_law_866 (lv_at hl 0 rfl) ?_
        refine lv_sipush (pc := 868) (v := 960) hx hb dL_law_868 (by decide) ?_
        refine lv_icmp_le (pc := 871) (tgt := 880) hx hb dL_law_871 (by decide) (fun (c871 : m810 ≤ 960) => ?_) (fun (c871 : ¬ m810 ≤ 960) => ?_)
        · refine lv_iload (pc := 880) hx hb dL_law_880 (lv_at hl 0 rfl) ?_
          exact hm _ (by rw [if_pos c859, if_pos c871])
        · refine lv_sipush (pc := 874) (v := 960) hx hb dL_law_874 (by decide) ?_
          refine lv_goto (pc := 877) (tgt := 882) hx hb dL_law_877 (by decide) ?_
          exact hm _ (by rw [if_pos c859, if_neg c871])
      · refine lv_iconst (pc := 862) (v := 0) hx hb dL_law_862 (by decide) ?_
        refine lv_goto (pc := 863) (tgt := 882) hx hb dL_law_863 (by decide) ?_
        exact hm _ (by rw [if_neg c859])
    have hvb := clamp_b (cap_0 hTI hk) hm779
    have htb := told_b hm859
    refine lv_istore (pc := 882) (lv' := [(29, .int m859), (28, .int m779), (20, .int 1), (19, .int hv), (18, .int so), (17, .int o), (16, .int k), (15, .int u), (14, .int w), (13, .int (nI T)), (12, .int (σ.1 9)), (11, .int (σ.1 8)), (10, .ref (ar 8)), (9, .ref (ar 7)), (8, .ref (ar 6)), (7, .ref (ar 5)), (6, .ref (ar 4)), (5, .ref (ar 3)), (4, .ref (ar 2)), (3, .ref (ar 1)), (2, .ref (ar 0)), (1, .ref g0), (0, .ref b)]) hx hb dL_law_882 hl (by decide) rfl (fun ls hl => ?_)
    refine lv_aload (pc := 884) hx hb dL_law_884 (lv_at hl 18 rfl) ?_
    refine lv_iload (pc := 886) hx hb dL_law_886 (lv_at hl 6 rfl) ?_
    refine Z_ald (pc := 888) (j := 2) (v := L.2 2 (ix k)) C K P rfl hk rfl dL_law_888 ?_
    refine lv_iload (pc := 889) hx hb dL_law_889 (lv_at hl 1 rfl) ?_
    refine lv_iload (pc := 891) hx hb dL_law_891 (lv_at hl 0 rfl) ?_
    refine lv_imul (pc := 893) hx hb dL_law_893 ?_
    refine lv_isub (pc := 894) hx hb dL_law_894 ?_
    refine lv_topi (fun (gone : Int32) (hgone : gone = ((L.2 2 (ix k)) - (m779 * m859) : Int32)) => ?_)
    refine lv_istore (pc := 895) (lv' := [(30, .int gone), (29, .int m859), (28, .int m779), (20, .int 1), (19, .int hv), (18, .int so), (17, .int o), (16, .int k), (15, .int u), (14, .int w), (13, .int (nI T)), (12, .int (σ.1 9)), (11, .int (σ.1 8)), (10, .ref (ar 8)), (9, .ref (ar 7)), (8, .ref (ar 6)), (7, .ref (ar 5)), (6, .ref (ar 4)), (5, .ref (ar 3)), (4, .ref (ar 2)), (3, .ref (ar 1)), (2, .ref (ar 0)), (1, .ref g0), (0, .ref b)]) hx hb dL_law_895 hl (by decide) rfl (fun ls hl => ?_)
    refine lv_aload_n (pc := 897) hx hb dL_law_897 rfl (lv_at hl 22 rfl) ?_
    refine lv_iload (pc := 898) hx hb dL_law_898 (lv_at hl 7 rfl) ?_
    refine lv_iload (pc := 900) hx hb dL_law_900 (lv_at hl 2 rfl) ?_
    refine lv_iload (pc := 902) hx hb dL_law_902 (lv_at hl 1 rfl) ?_
    have e1 : an (g_dip σ k m779 m859) = gone ∧ _ := p_dip_v hTI hk hvb htb c750 hgone
    refine T_callW (pc := 904) (As0 := [.int k, .int m779, .int m859]) (rest := []) (v := gone) (τ := (g_dip σ k m779 m859).2.2) C V hEC K E9 hl.1 hg P (kL_dip l hl9 D cI cO t0 η σ k m779 m859 hG (fun _ => gk_dip hG _ _ _)) fnL_dip ⟨e1.1, rfl⟩ gL_law_L_dip rfl rfl ⟨Nat.le_trans (Nat.le_of_ble_eq_true rfl) hRf, Nat.le_trans (Nat.le_of_ble_eq_true rfl) hRl⟩ (Nat.le_of_ble_eq_true rfl) ⟨by omega, by omega⟩ dL_law_904 (fun η H locs (P : Hp D A s (G_W cI cO η (g_dip σ k m779 m859).2.2 ++ Z_W cI ar L) H locs) (hG : Gok t0 η (g_dip σ k m779 m859).2.2) hg => ?_)
    refine lv_iload (pc := 907) hx hb dL_law_907 (lv_at hl 0 rfl) ?_
    refine lv_icmp_ne (pc := 909) (tgt := 916) hx hb dL_law_909 (by decide) (fun g => absurd rfl g) (fun _ => ?_)
    refine lv_iconst (pc := 912) (v := 1) hx hb dL_law_912 (by decide) ?_
    refine lv_goto (pc := 913) (tgt := 917) hx hb dL_law_913 (by decide) ?_
    refine lv_istore (pc := 917) (lv' := [(20, .int 1), (30, .int gone), (29, .int m859), (28, .int m779), (19, .int hv), (18, .int so), (17, .int o), (16, .int k), (15, .int u), (14, .int w), (13, .int (nI T)), (12, .int (σ.1 9)), (11, .int (σ.1 8)), (10, .ref (ar 8)), (9, .ref (ar 7)), (8, .ref (ar 6)), (7, .ref (ar 5)), (6, .ref (ar 4)), (5, .ref (ar 3)), (4, .ref (ar 2)), (3, .ref (ar 1)), (2, .ref (ar 0)), (1, .ref g0), (0, .ref b)]) hx hb dL_law_917 hl (by decide) rfl (fun ls hl => ?_)
    refine lv_iinc (pc := 919) (v := (σ.1 9) + 1) (lv' := [(12, .int ((σ.1 9) + 1)), (20, .int 1), (30, .int gone), (29, .int m859), (28, .int m779), (19, .int hv), (18, .int so), (17, .int o), (16, .int k), (15, .int u), (14, .int w), (13, .int (nI T)), (11, .int (σ.1 8)), (10, .ref (ar 8)), (9, .ref (ar 7)), (8, .ref (ar 6)), (7, .ref (ar 5)), (6, .ref (ar 4)), (5, .ref (ar 3)), (4, .ref (ar 2)), (3, .ref (ar 1)), (2, .ref (ar 0)), (1, .ref g0), (0, .ref b)]) hx hb dL_law_919 hl (k := 11) rfl (rfl) (by decide) rfl (fun ls hl => ?_)
    refine lv_iload (pc := 922) hx hb dL_law_922 (lv_at hl 2 rfl) ?_
    refine lv_if_ge (pc := 924) (tgt := 940) hx hb dL_law_924 (by decide) (fun (c924 : 0 ≤ gone) => ?_) (fun (c924 : ¬ 0 ≤ gone) => ?_)
    · refine lv_ldc2 (pc := 940) (v := 100) hx hb hown (hts _ lc_150) dL_law_940 ?_
      refine lv_iload (pc := 943) hx hb dL_law_943 (lv_at hl 2 rfl) ?_
      refine lv_i2l (pc := 945) (v := gone.toInt64) hx hb dL_law_945 rfl ?_
      refine lv_lmul (pc := 946) hx hb dL_law_946 ?_
      refine lv_aload (pc := 947) hx hb dL_law_947 (lv_at hl 19 rfl) ?_
      refine lv_iload (pc := 949) hx hb dL_law_949 (lv_at hl 8 rfl) ?_
      refine Z_ald (pc := 951) (j := 2) (v := L.2 2 (ix k)) C K P rfl hk rfl dL_law_951 ?_
      refine lv_i2l (pc := 952) (v := (L.2 2 (ix k)).toInt64) hx hb dL_law_952 rfl ?_
      refine W.lcmp (pc := 953) hx hb dL_law_953 ?_
      refine lv_if_le (pc := 954) (tgt := 968) hx hb dL_law_954 (by decide) (fun (c954 : (lg_cmp (100 * gone.toInt64) ((L.2 2 (ix k)).toInt64)) ≤ 0) => ?_) (fun (c954 : ¬ (lg_cmp (100 * gone.toInt64) ((L.2 2 (ix k)).toInt64)) ≤ 0) => ?_)
      · refine lv_aload (pc := 968) hx hb dL_law_968 (lv_at hl 17 rfl) ?_
        refine lv_bipush (pc := 970) (v := 12) hx hb dL_law_970 (by decide) ?_
        refine lv_dup2_11 (pc := 972) hx hb dL_law_972 rfl rfl ?_
        refine Z_ald (pc := 973) (j := 4) (v := L.2 4 12) C K P rfl (vp_dec (by decide)) rfl dL_law_973 ?_
        refine lv_iload (pc := 974) hx hb dL_law_974 (lv_at hl 2 rfl) ?_
        refine lv_iadd (pc := 976) hx hb dL_law_976 ?_
        refine Z_ast (pc := 977) (j := 4) (n := 16) (x := (L.2 4 12) + gone) C K P (zj4 _) (vp_dec (by decide)) (zs4 _ _ _) dL_law_977 (fun H locs (P : Hp D A s (G_W cI cO η (g_dip σ k m779 m859).2.2 ++ Z_W cI ar (bs L 4 12 ((L.2 4 12) + gone))) H locs) => ?_)
        refine lv_aload_n (pc := 978) hx hb dL_law_978 rfl (lv_at hl 20 rfl) ?_
        refine lv_iload (pc := 979) hx hb dL_law_979 (lv_at hl 8 rfl) ?_
        refine lv_iload (pc := 981) hx hb dL_law_981 (lv_at hl 4 rfl) ?_
        refine Z_ast (pc := 983) (j := 1) (n := 5) (x := m779) C K P (zj1 _) hk (zs1 _ _ _) dL_law_983 (fun H locs (P : Hp D A s (G_W cI cO η (g_dip σ k m779 m859).2.2 ++ Z_W cI ar (bs (bs L 4 12 ((L.2 4 12) + gone)) 1 (ix k) m779)) H locs) => ?_)
        refine lv_aload (pc := 984) hx hb dL_law_984 (lv_at hl 19 rfl) ?_
        refine lv_iload (pc := 986) hx hb dL_law_986 (lv_at hl 8 rfl) ?_
        refine lv_iload (pc := 988) hx hb dL_law_988 (lv_at hl 4 rfl) ?_
        refine lv_iload (pc := 990) hx hb dL_law_990 (lv_at hl 3 rfl) ?_
        refine lv_imul (pc := 992) hx hb dL_law_992 ?_
        refine Z_ast (pc := 993) (j := 2) (n := 5) (x := m779 * m859) C K P (zj2 _) hk (zs2 _ _ _) dL_law_993 (fun H locs (P : Hp D A s (G_W cI cO η (g_dip σ k m779 m859).2.2 ++ Z_W cI ar (bs (bs (bs L 4 12 ((L.2 4 12) + gone)) 1 (ix k) m779) 2 (ix k) (m779 * m859))) H locs) => ?_)
        refine lv_goto (pc := 994) (tgt := 2755) hx hb dL_law_994 (by decide) ?_
        have e2 := p_dip_le hTI hk hvb htb c750 hgone c924 c954
        exact W.widen (by omega) (by omega) (kk η ((g_dip σ k m779 m859).2.2) (bs (bs (bs L 4 12 ((L.2 4 12) + gone)) 1 (ix k) m779) 2 (ix k) (m779 * m859)) _ _ ls e2.2.1 hG hg P (by rw [e2.2.2.1, e2.2.2.2]; exact (lv_sub hl [1, 11, 0, 12, 13, 14, 15, 16, 17, 18, 19, 20, 21, 22, 23] rfl)))
      · refine lv_iload (pc := 957) hx hb dL_law_957 (lv_at hl 2 rfl) ?_
        refine lv_aload (pc := 959) hx hb dL_law_959 (lv_at hl 17 rfl) ?_
        refine Z_calli (pc := 961) (As := [.int gone, .ref (ar 4)]) (rest := []) C K P hl.1 (kL_misses l D cI ar L gone) fnL_misses gL_law_L_misses rfl rfl ⟨Nat.le_trans (Nat.le_of_ble_eq_true rfl) hRf, Nat.le_trans (Nat.le_of_ble_eq_true rfl) hRl⟩ (Nat.le_of_ble_eq_true rfl) ⟨by omega, by omega⟩ dL_law_961 (fun H locs (P : Hp D A s (G_W cI cO η (g_dip σ k m779 m859).2.2 ++ Z_W cI ar (z_misses L gone).2) H locs) => ?_)
        refine lv_pop (pc := 964) hx hb dL_law_964 rfl ?_
        refine lv_goto (pc := 965) (tgt := 978) hx hb dL_law_965 (by decide) ?_
        refine lv_aload_n (pc := 978) hx hb dL_law_978 rfl (lv_at hl 20 rfl) ?_
        refine lv_iload (pc := 979) hx hb dL_law_979 (lv_at hl 8 rfl) ?_
        refine lv_iload (pc := 981) hx hb dL_law_981 (lv_at hl 4 rfl) ?_
        refine Z_ast (pc := 983) (j := 1) (n := 5) (x := m779) C K P (zj1 _) hk (zs1 _ _ _) dL_law_983 (fun H locs (P : Hp D A s (G_W cI cO η (g_dip σ k m779 m859).2.2 ++ Z_W cI ar (bs (z_misses L gone).2 1 (ix k) m779)) H locs) => ?_)
        refine lv_aload (pc := 984) hx hb dL_law_984 (lv_at hl 19 rfl) ?_
        refine lv_iload (pc := 986) hx hb dL_law_986 (lv_at hl 8 rfl) ?_
        refine lv_iload (pc := 988) hx hb dL_law_988 (lv_at hl 4 rfl) ?_
        refine lv_iload (pc := 990) hx hb dL_law_990 (lv_at hl 3 rfl) ?_
        refine lv_imul (pc := 992) hx hb dL_law_992 ?_
        refine Z_ast (pc := 993) (j := 2) (n := 5) (x := m779 * m859) C K P (zj2 _) hk (zs2 _ _ _) dL_law_993 (fun H locs (P : Hp D A s (G_W cI cO η (g_dip σ k m779 m859).2.2 ++ Z_W cI ar (bs (bs (z_misses L gone).2 1 (ix k) m779) 2 (ix k) (m779 * m859))) H locs) => ?_)
        refine lv_goto (pc := 994) (tgt := 2755) hx hb dL_law_994 (by decide) ?_
        have e2 := p_dip_gt hT hTI hk hvb htb c750 hgone c924 c954
        exact W.widen (by omega) (by omega) (kk η ((g_dip σ k m779 m859).2.2) (bs (bs (z_misses L gone).2 1 (ix k) m779) 2 (ix k) (m779 * m859)) _ _ ls e2.2.1 hG hg P (by rw [e2.2.2.1, e2.2.2.2]; exact (lv_sub hl [1, 11, 0, 12, 13, 14, 15, 16, 17, 18, 19, 20, 21, 22, 23] rfl)))
    · refine lv_aload (pc := 927) hx hb dL_law_927 (lv_at hl 17 rfl) ?_
      refine lv_bipush (pc := 929) (v := 11) hx hb dL_law_929 (by decide) ?_
      refine lv_dup2_11 (pc := 931) hx hb dL_law_931 rfl rfl ?_
      refine Z_ald (pc := 932) (j := 4) (v := L.2 4 11) C K P rfl (vp_dec (by decide)) rfl dL_law_932 ?_
      refine lv_iload (pc := 933) hx hb dL_law_933 (lv_at hl 2 rfl) ?_
      refine lv_isub (pc := 935) hx hb dL_law_935 ?_
      refine Z_ast (pc := 936) (j := 4) (n := 16) (x := (L.2 4 11) - gone) C K P (zj4 _) (vp_dec (by decide)) (zs4 _ _ _) dL_law_936 (fun H locs (P : Hp D A s (G_W cI cO η (g_dip σ k m779 m859).2.2 ++ Z_W cI ar (bs L 4 11 ((L.2 4 11) - gone))) H locs) => ?_)
      refine lv_goto (pc := 937) (tgt := 978) hx hb dL_law_937 (by decide) ?_
      refine lv_aload_n (pc := 978) hx hb dL_law_978 rfl (lv_at hl 20 rfl) ?_
      refine lv_iload (pc := 979) hx hb dL_law_979 (lv_at hl 8 rfl) ?_
      refine lv_iload (pc := 981) hx hb dL_law_981 (lv_at hl 4 rfl) ?_
      refine Z_ast (pc := 983) (j := 1) (n := 5) (x := m779) C K P (zj1 _) hk (zs1 _ _ _) dL_law_983 (fun H locs (P : Hp D A s (G_W cI cO η (g_dip σ k m779 m859).2.2 ++ Z_W cI ar (bs (bs L 4 11 ((L.2 4 11) - gone)) 1 (ix k) m779)) H locs) => ?_)
      refine lv_aload (pc := 984) hx hb dL_law_984 (lv_at hl 19 rfl) ?_
      refine lv_iload (pc := 986) hx hb dL_law_986 (lv_at hl 8 rfl) ?_
      refine lv_iload (pc := 988) hx hb dL_law_988 (lv_at hl 4 rfl) ?_
      refine lv_iload (pc := 990) hx hb dL_law_990 (lv_at hl 3 rfl) ?_
      refine lv_imul (pc := 992) hx hb dL_law_992 ?_
      refine Z_ast (pc := 993) (j := 2) (n := 5) (x := m779 * m859) C K P (zj2 _) hk (zs2 _ _ _) dL_law_993 (fun H locs (P : Hp D A s (G_W cI cO η (g_dip σ k m779 m859).2.2 ++ Z_W cI ar (bs (bs (bs L 4 11 ((L.2 4 11) - gone)) 1 (ix k) m779) 2 (ix k) (m779 * m859))) H locs) => ?_)
      refine lv_goto (pc := 994) (tgt := 2755) hx hb dL_law_994 (by decide) ?_
      have e2 := p_dip_lt hTI hk hvb htb c750 hgone c924
      exact W.widen (by omega) (by omega) (kk η ((g_dip σ k m779 m859).2.2) (bs (bs (bs L 4 11 ((L.2 4 11) - gone)) 1 (ix k) m779) 2 (ix k) (m779 * m859)) _ _ ls e2.2.1 hG hg P (by rw [e2.2.2.1, e2.2.2.2]; exact (lv_sub hl [1, 11, 0, 12, 13, 14, 15, 16, 17, 18, 19, 20, 21, 22, 23] rfl)))
  · refine lv_goto (pc := 753) (tgt := 2755) hx hb dL_law_753 (by decide) ?_
    exact W.widen (by omega) (by omega) (kk η σ L _ _ ls (ti_up hTI) hG hg P (lv_sub hl [0, 7, 8, 9, 10, 11, 12, 13, 14, 15, 16, 17, 18, 19, 20] rfl))
set_option maxHeartbeats 8000000 in
set_option maxRecDepth 100000 in
theorem law_lose (hl9 : l.stackTraces = false) (C : Cx RL p s m args meth c cL_law 62 wsL_law ret) (V : EnvV s) (hEC : EnvC s) (K : va_K D vwCl (tyG cI cO) s) (E9 : EnvH t0 A s s.heap) (hRf : 12 ≤ R.frames) (hRl : 452 ≤ R.locals) (hz : cells + 400 ≤ R.cells ∧ slots + 2400 ≤ R.slots) (hT : T < 120) (hTI : TI T σ L) (hG : Gok t0 η σ) (hg : e_ad η 0 = g0) (P : Hp D A s (G_W cI cO η σ ++ Z_W cI ar L) H locs) (hk : vp_in k 5) (ho : vp_in o 5) (hso : 1 ≤ so.toInt ∧ so.toInt ≤ 10002) (hhv : hv = if L.2 1 (ix k) < so then 0 else 1) (hl : lv_has ls 62 [(20, .int 1), (19, .int hv), (18, .int so), (17, .int o), (16, .int k), (15, .int u), (14, .int w), (13, .int (nI T)), (12, .int (σ.1 9)), (11, .int (σ.1 8)), (10, .ref (ar 8)), (9, .ref (ar 7)), (8, .ref (ar 6)), (7, .ref (ar 5)), (6, .ref (ar 4)), (5, .ref (ar 3)), (4, .ref (ar 2)), (3, .ref (ar 1)), (2, .ref (ar 0)), (1, .ref g0), (0, .ref b)]) (kk : ∀ (η : Eg) (σ L : Sg) (H : Heap) (locs : List Loc) (ls : Array Slot), TI (T + 1) σ L → Gok t0 η σ → e_ad η 0 = g0 → Hp D A s (G_W cI cO η σ ++ Z_W cI ar L) H locs → lv_has ls 62 [(20, .int 1), (13, .int (nI T)), (12, .int (σ.1 9)), (11, .int (σ.1 8)), (10, .ref (ar 8)), (9, .ref (ar 7)), (8, .ref (ar 6)), (7, .ref (ar 5)), (6, .ref (ar 4)), (5, .ref (ar 3)), (4, .ref (ar 2)), (3, .ref (ar 1)), (2, .ref (ar 0)), (1, .ref g0), (0, .ref b)] → W p l e R s m args below meth c H locs (cells + 12) (slots + 500) Q (F0 m 2755 ls [])) : W p l e R s m args below meth c H locs cells slots Q (F0 m 997 ls []) := by
  have hx := C.1
  have hb := C.2.1
  have hown := C.2.2.2.1
  have hts := C.2.2.2.2.1
  refine lv_iload (pc := 997) hx hb dL_law_997 (lv_at hl 5 rfl) ?_
  refine lv_ldc (pc := 999) (v := 1048576) hx hb hown (hts _ lc_152) dL_law_999 ?_
  refine lv_iand (pc := 1001) hx hb dL_law_1001 ?_
  refine lv_mergeI (M := 1010) (T := if (u &&& 1048576) = 0 then 1 else 0) (rest := []) (fun hm => ?_) (fun (m1002 : Int32) (hm1002 : m1002 = (if (u &&& 1048576) = 0 then 1 else 0 : Int32)) => ?_)
  · refine lv_if_ne (pc := 1002) (tgt := 1009) hx hb dL_law_1002 (by decide) (fun (c1002 : ¬ (u &&& 1048576) = 0) => ?_) (fun (c1002 : (u &&& 1048576) = 0) => ?_)
    · refine lv_iconst (pc := 1009) (v := 0) hx hb dL_law_1009 (by decide) ?_
      exact hm _ (by rw [if_neg c1002])
    · refine lv_iconst (pc := 1005) (v := 1) hx hb dL_law_1005 (by decide) ?_
      refine lv_goto (pc := 1006) (tgt := 1010) hx hb dL_law_1006 (by decide) ?_
      exact hm _ (by rw [if_pos c1002])
  refine lv_istore (pc := 1010) (lv' := [(31, .int m1002), (20, .int 1), (19, .int hv), (18, .int so), (17, .int o), (16, .int k), (15, .int u), (14, .int w), (13, .int (nI T)), (12, .int (σ.1 9)), (11, .int (σ.1 8)), (10, .ref (ar 8)), (9, .ref (ar 7)), (8, .ref (ar 6)), (7, .ref (ar 5)), (6, .ref (ar 4)), (5, .ref (ar 3)), (4, .ref (ar 2)), (3, .ref (ar 1)), (2, .ref (ar 0)), (1, .ref g0), (0, .ref b)]) hx hb dL_law_1010 hl (by decide) rfl (fun ls hl => ?_)
  refine lv_iload (pc := 1012) hx hb dL_law_1012 (lv_at hl 2 rfl) ?_
  refine lv_if_ne (pc := 1014) (tgt := 1042) hx hb dL_law_1014 (by decide) (fun (c1014 : ¬ hv = 0) => ?_) (fun (c1014 : hv = 0) => ?_)
  · obtain ⟨hle, hV0⟩ := hv_has hTI hk hso hhv c1014
    refine lv_iload (pc := 1042) hx hb dL_law_1042 (lv_at hl 5 rfl) ?_
    refine lv_iload (pc := 1044) hx hb dL_law_1044 (lv_at hl 3 rfl) ?_
    refine lv_aload_n (pc := 1046) hx hb dL_law_1046 rfl (lv_at hl 18 rfl) ?_
    refine lv_aload (pc := 1047) hx hb dL_law_1047 (lv_at hl 17 rfl) ?_
    refine Z_calli (pc := 1049) (As := [.int k, .int so, .ref (ar 1), .ref (ar 2)]) (rest := []) C K P hl.1 (kL_draws l D cI ar L k so hk hV0) fnL_draws gL_law_L_draws rfl rfl ⟨Nat.le_trans (Nat.le_of_ble_eq_true rfl) hRf, Nat.le_trans (Nat.le_of_ble_eq_true rfl) hRl⟩ (Nat.le_of_ble_eq_true rfl) ⟨by omega, by omega⟩ dL_law_1049 (fun H locs (P : Hp D A s (G_W cI cO η σ ++ Z_W cI ar (z_draws L k so).2) H locs) => ?_)
    refine lv_topi (fun (broke : Int32) (hbroke : broke = ((z_draws L k so).1 : Int32)) => ?_)
    refine lv_istore (pc := 1052) (lv' := [(32, .int broke), (31, .int m1002), (20, .int 1), (19, .int hv), (18, .int so), (17, .int o), (16, .int k), (15, .int u), (14, .int w), (13, .int (nI T)), (12, .int (σ.1 9)), (11, .int (σ.1 8)), (10, .ref (ar 8)), (9, .ref (ar 7)), (8, .ref (ar 6)), (7, .ref (ar 5)), (6, .ref (ar 4)), (5, .ref (ar 3)), (4, .ref (ar 2)), (3, .ref (ar 1)), (2, .ref (ar 0)), (1, .ref g0), (0, .ref b)]) hx hb dL_law_1052 hl (by decide) rfl (fun ls hl => ?_)
    refine lv_aload (pc := 1054) hx hb dL_law_1054 (lv_at hl 16 rfl) ?_
    refine lv_bipush (pc := 1056) (v := 12) hx hb dL_law_1056 (by decide) ?_
    refine lv_dup2_11 (pc := 1058) hx hb dL_law_1058 rfl rfl ?_
    refine Z_ald (pc := 1059) (j := 4) (v := L.2 4 12) C K P rfl (vp_dec (by decide)) rfl dL_law_1059 ?_
    refine lv_iload (pc := 1060) hx hb dL_law_1060 (lv_at hl 1 rfl) ?_
    refine lv_mergeI (M := 1071) (T := if m1002 = 0 then 0 else broke) (rest := [.int (L.2 4 12), .int 12, .ref (ar 4)]) (fun hm => ?_) (fun (m1062 : Int32) (hm1062 : m1062 = (if m1002 = 0 then 0 else broke : Int32)) => ?_)
    · refine lv_if_eq (pc := 1062) (tgt := 1070) hx hb dL_law_1062 (by decide) (fun (c1062 : m1002 = 0) => ?_) (fun (c1062 : ¬ m1002 = 0) => ?_)
      · refine lv_iconst (pc := 1070) (v := 0) hx hb dL_law_1070 (by decide) ?_
        exact hm _ (by rw [if_pos c1062])
      · refine lv_iload (pc := 1065) hx hb dL_law_1065 (lv_at hl 0 rfl) ?_
        refine lv_goto (pc := 1067) (tgt := 1071) hx hb dL_law_1067 (by decide) ?_
        exact hm _ (by rw [if_neg c1062])
    refine lv_iadd (pc := 1071) hx hb dL_law_1071 ?_
    refine Z_ast (pc := 1072) (j := 4) (n := 16) (x := (L.2 4 12) + m1062) C K P (zj4 _) (vp_dec (by decide)) (zs4 _ _ _) dL_law_1072 (fun H locs (P : Hp D A s (G_W cI cO η σ ++ Z_W cI ar (bs (z_draws L k so).2 4 12 ((L.2 4 12) + m1062))) H locs) => ?_)
    refine lv_aload_n (pc := 1073) hx hb dL_law_1073 rfl (lv_at hl 21 rfl) ?_
    refine lv_iload (pc := 1074) hx hb dL_law_1074 (lv_at hl 6 rfl) ?_
    refine lv_iload (pc := 1076) hx hb dL_law_1076 (lv_at hl 4 rfl) ?_
    refine lv_iload (pc := 1078) hx hb dL_law_1078 (lv_at hl 1 rfl) ?_
    refine T_callW (pc := 1080) (As0 := [.int k, .int so, .int m1002]) (rest := []) (v := an (g_lose σ k so m1002)) (τ := (g_lose σ k so m1002).2.2) C V hEC K E9 hl.1 hg P (kL_lose l hl9 D cI cO t0 η σ k so m1002 hG (fun _ => gk_lose hG _ _ _)) fnL_lose ⟨rfl, rfl⟩ gL_law_L_lose rfl rfl ⟨Nat.le_trans (Nat.le_of_ble_eq_true rfl) hRf, Nat.le_trans (Nat.le_of_ble_eq_true rfl) hRl⟩ (Nat.le_of_ble_eq_true rfl) ⟨by omega, by omega⟩ dL_law_1080 (fun η H locs (P : Hp D A s (G_W cI cO η (g_lose σ k so m1002).2.2 ++ Z_W cI ar (bs (z_draws L k so).2 4 12 ((L.2 4 12) + m1062))) H locs) (hG : Gok t0 η (g_lose σ k so m1002).2.2) hg => ?_)
    refine lv_iload (pc := 1083) hx hb dL_law_1083 (lv_at hl 1 rfl) ?_
    refine lv_if_eq (pc := 1085) (tgt := 1092) hx hb dL_law_1085 (by decide) (fun (c1085 : m1002 = 0) => ?_) (fun (c1085 : ¬ m1002 = 0) => ?_)
    · have e1 : an (g_lose σ k so m1002) = ((z_misses (bs (z_draws L k so).2 4 12 ((L.2 4 12) + m1062)) broke).1) ∧ _ := p_lose_0 hT hTI hk hso hle hbroke hm1062 c1085
      refine lv_iload (pc := 1092) hx hb dL_law_1092 (lv_at hl 0 rfl) ?_
      refine lv_aload (pc := 1094) hx hb dL_law_1094 (lv_at hl 16 rfl) ?_
      refine Z_calli (pc := 1096) (As := [.int broke, .ref (ar 4)]) (rest := [.int (an (g_lose σ k so m1002))]) C K P hl.1 (kL_misses l D cI ar (bs (z_draws L k so).2 4 12 ((L.2 4 12) + m1062)) broke) fnL_misses gL_law_L_misses rfl rfl ⟨Nat.le_trans (Nat.le_of_ble_eq_true rfl) hRf, Nat.le_trans (Nat.le_of_ble_eq_true rfl) hRl⟩ (Nat.le_of_ble_eq_true rfl) ⟨by omega, by omega⟩ dL_law_1096 (fun H locs (P : Hp D A s (G_W cI cO η (g_lose σ k so m1002).2.2 ++ Z_W cI ar (z_misses (bs (z_draws L k so).2 4 12 ((L.2 4 12) + m1062)) broke).2) H locs) => ?_)
      refine lv_icmp_ne (pc := 1099) (tgt := 1106) hx hb dL_law_1099 (by decide) (fun g => absurd e1.1 g) (fun _ => ?_)
      refine lv_iconst (pc := 1102) (v := 1) hx hb dL_law_1102 (by decide) ?_
      refine lv_goto (pc := 1103) (tgt := 1107) hx hb dL_law_1103 (by decide) ?_
      refine lv_istore (pc := 1107) (lv' := [(20, .int 1), (32, .int broke), (31, .int m1002), (19, .int hv), (18, .int so), (17, .int o), (16, .int k), (15, .int u), (14, .int w), (13, .int (nI T)), (12, .int (σ.1 9)), (11, .int (σ.1 8)), (10, .ref (ar 8)), (9, .ref (ar 7)), (8, .ref (ar 6)), (7, .ref (ar 5)), (6, .ref (ar 4)), (5, .ref (ar 3)), (4, .ref (ar 2)), (3, .ref (ar 1)), (2, .ref (ar 0)), (1, .ref g0), (0, .ref b)]) hx hb dL_law_1107 hl (by decide) rfl (fun ls hl => ?_)
      refine lv_goto (pc := 1109) (tgt := 2755) hx hb dL_law_1109 (by decide) ?_
      exact W.widen (by omega) (by omega) (kk η ((g_lose σ k so m1002).2.2) ((z_misses (bs (z_draws L k so).2 4 12 ((L.2 4 12) + m1062)) broke).2) _ _ ls e1.2.1 hG hg P (by rw [e1.2.2.1, e1.2.2.2]; exact (lv_sub hl [0, 9, 10, 11, 12, 13, 14, 15, 16, 17, 18, 19, 20, 21, 22] rfl)))
    · have e1 : an (g_lose σ k so m1002) = 0 ∧ _ := p_lose_1 hTI hk hso hle hbroke hm1062 c1085
      refine lv_iconst (pc := 1088) (v := 0) hx hb dL_law_1088 (by decide) ?_
      refine lv_goto (pc := 1089) (tgt := 1099) hx hb dL_law_1089 (by decide) ?_
      refine lv_icmp_ne (pc := 1099) (tgt := 1106) hx hb dL_law_1099 (by decide) (fun g => absurd e1.1 g) (fun _ => ?_)
      refine lv_iconst (pc := 1102) (v := 1) hx hb dL_law_1102 (by decide) ?_
      refine lv_goto (pc := 1103) (tgt := 1107) hx hb dL_law_1103 (by decide) ?_
      refine lv_istore (pc := 1107) (lv' := [(20, .int 1), (32, .int broke), (31, .int m1002), (19, .int hv), (18, .int so), (17, .int o), (16, .int k), (15, .int u), (14, .int w), (13, .int (nI T)), (12, .int (σ.1 9)), (11, .int (σ.1 8)), (10, .ref (ar 8)), (9, .ref (ar 7)), (8, .ref (ar 6)), (7, .ref (ar 5)), (6, .ref (ar 4)), (5, .ref (ar 3)), (4, .ref (ar 2)), (3, .ref (ar 1)), (2, .ref (ar 0)), (1, .ref g0), (0, .ref b)]) hx hb dL_law_1107 hl (by decide) rfl (fun ls hl => ?_)
      refine lv_goto (pc := 1109) (tgt := 2755) hx hb dL_law_1109 (by decide) ?_
      exact W.widen (by omega) (by omega) (kk η ((g_lose σ k so m1002).2.2) (bs (z_draws L k so).2 4 12 ((L.2 4 12) + m1062)) _ _ ls e1.2.1 hG hg P (by rw [e1.2.2.1, e1.2.2.2]; exact (lv_sub hl [0, 9, 10, 11, 12, 13, 14, 15, 16, 17, 18, 19, 20, 21, 22] rfl)))
  · refine lv_aload_n (pc := 1017) hx hb dL_law_1017 rfl (lv_at hl 20 rfl) ?_
    refine lv_iload (pc := 1018) hx hb dL_law_1018 (lv_at hl 5 rfl) ?_
    refine lv_iload (pc := 1020) hx hb dL_law_1020 (lv_at hl 3 rfl) ?_
    refine lv_iload (pc := 1022) hx hb dL_law_1022 (lv_at hl 0 rfl) ?_
    have e1 : an (g_lose σ k so m1002) = (-2000000003) ∧ _ := p_lose_no hTI hk hso hhv c1014
    refine T_callW (pc := 1024) (As0 := [.int k, .int so, .int m1002]) (rest := []) (v := (-2000000003)) (τ := (g_lose σ k so m1002).2.2) C V hEC K E9 hl.1 hg P (kL_lose l hl9 D cI cO t0 η σ k so m1002 hG (fun _ => gk_lose hG _ _ _)) fnL_lose ⟨e1.1, rfl⟩ gL_law_L_lose rfl rfl ⟨Nat.le_trans (Nat.le_of_ble_eq_true rfl) hRf, Nat.le_trans (Nat.le_of_ble_eq_true rfl) hRl⟩ (Nat.le_of_ble_eq_true rfl) ⟨by omega, by omega⟩ dL_law_1024 (fun η H locs (P : Hp D A s (G_W cI cO η (g_lose σ k so m1002).2.2 ++ Z_W cI ar L) H locs) (hG : Gok t0 η (g_lose σ k so m1002).2.2) hg => ?_)
    refine lv_ldc (pc := 1027) (v := (-2000000003)) hx hb hown (hts _ lc_22) dL_law_1027 ?_
    refine lv_icmp_ne (pc := 1029) (tgt := 1036) hx hb dL_law_1029 (by decide) (fun h => absurd h (by decide)) (fun _ => ?_)
    refine lv_iconst (pc := 1032) (v := 1) hx hb dL_law_1032 (by decide) ?_
    refine lv_goto (pc := 1033) (tgt := 1037) hx hb dL_law_1033 (by decide) ?_
    refine lv_istore (pc := 1037) (lv' := [(20, .int 1), (31, .int m1002), (19, .int hv), (18, .int so), (17, .int o), (16, .int k), (15, .int u), (14, .int w), (13, .int (nI T)), (12, .int (σ.1 9)), (11, .int (σ.1 8)), (10, .ref (ar 8)), (9, .ref (ar 7)), (8, .ref (ar 6)), (7, .ref (ar 5)), (6, .ref (ar 4)), (5, .ref (ar 3)), (4, .ref (ar 2)), (3, .ref (ar 1)), (2, .ref (ar 0)), (1, .ref g0), (0, .ref b)]) hx hb dL_law_1037 hl (by decide) rfl (fun ls hl => ?_)
    refine lv_goto (pc := 1039) (tgt := 2755) hx hb dL_law_1039 (by decide) ?_
    exact W.widen (by omega) (by omega) (kk η ((g_lose σ k so m1002).2.2) L _ _ ls (by rw [e1.2]; exact ti_up hTI) hG hg P (by rw [e1.2]; exact (lv_sub hl [0, 8, 9, 10, 11, 12, 13, 14, 15, 16, 17, 18, 19, 20, 21] rfl)))
end LC1
