theorem tsw_out {hi : Int} (n : Nat) (x : Int32) (hn : n < 2 ^ 31) (h : ∀ k, k < n → ¬ x = nI k) (hh : hi + 1 = (n : Int) := by decide) : x.toInt < 0 ∨ hi < x.toInt := by
  by_cases c : x < 0
  · left
    have := Int32.lt_iff_toInt_lt.mp c
    exact this
  · obtain ⟨i, hi', rfl⟩ := nI_of c
    right
    rw [nI_toInt hi']
    rcases Nat.lt_or_ge i n with q | q
    · exact absurd rfl (h i q)
    · omega
theorem least_ne {a b : Int32} (h : ¬ a ≤ 0) (c : ¬ m_least a b = 0) : ¬ b = 0 := by
  intro e
  apply c
  rw [m_least, e, if_pos]
  exact Int32.le_of_lt (Int32.not_le.mp h)
def m_arrive (σ : Sg) (p0 : Int32) (p1 : Int32) : Int32 × Int32 × Sg := if (m_in p0 0 ((σ.1 22) - 1)) = 0 then (1, 0, σ) else if (m_in p1 0 (σ.2 25 (ix p0))) = 0 then (2, 0, σ) else if (σ.2 23 (ix p0)) = 0 then (if (m_hasRoom σ (σ.2 24 (ix p0)) p1) = 0 then (3, 0, σ) else if ((σ.2 26 (ix p0)) / 200) < ((σ.2 26 (ix p0)) - (m_part (σ.2 26 (ix p0)) p1 (σ.2 25 (ix p0)))) then (0, (σ.2 26 (ix p0)) - (m_part (σ.2 26 (ix p0)) p1 (σ.2 25 (ix p0))), (m_misses (m_comes (bs σ 23 (ix p0) 1) (σ.2 24 (ix p0)) p1 (m_part (σ.2 26 (ix p0)) p1 (σ.2 25 (ix p0)))) ((σ.2 26 (ix p0)) - (m_part (σ.2 26 (ix p0)) p1 (σ.2 25 (ix p0))))).2) else (0, 0, (bs (m_comes (bs σ 23 (ix p0) 1) (σ.2 24 (ix p0)) p1 (m_part (σ.2 26 (ix p0)) p1 (σ.2 25 (ix p0)))) 10 4 ((σ.2 10 4) + ((σ.2 26 (ix p0)) - (m_part (σ.2 26 (ix p0)) p1 (σ.2 25 (ix p0)))))))) else (3, 0, σ)
abbrev rX7_arrive : Room := { frames := 3, cells := 0, slots := 0, locals := 68 }
theorem fnX7_arrive : Fn yX7_arrive wsX7_arrive cX7_arrive 6 (some .int) 2 rX7_arrive 0 0 := ⟨⟨_, rfl⟩, rfl, rfl, by decide +kernel⟩
theorem inX7_arrive : ∀ w ∈ wsX70, w ∈ wsX7_arrive := fun w h => List.mem_cons_of_mem _ (List.mem_append_right _ h)
set_option maxHeartbeats 4000000 in
set_option maxRecDepth 100000 in
theorem kX7_arrive (l : Launch) (D : va_G) (cI : ClassId) (m0 : Nat) (as : Nat → Nat) (th : Int32) (σ : Sg) (p0 : Int32) (p1 : Int32) (h1 : Cnt σ 22 30) (h3 : ∀ k, k < ix (σ.1 22) → vp_in (σ.2 24 k) 10 ∧ ¬ σ.2 25 k = 0) : M_Mi l yX7_arrive wsX7_arrive rX7_arrive D cI m0 as th σ [.int p0, .int p1] (m_arrive σ p0 p1) := by
  refine M_body (n := 2) (Qc := fun A => M_Qi D cI m0 as (m_arrive σ p0 p1) A) rfl fnX7_arrive inX7_arrive (Nat.le_of_ble_eq_true rfl) ?_
  intro p e s m args below meth c X A P ls hl
  have hx := X.1.1
  have hb := X.1.2.1
  have hown := X.1.2.2.2.1
  have hts := X.1.2.2.2.2.1
  have hl : lv_has ls 6 [(0, .ref m0), (1, .int p0), (2, .int p1)] := hl
  refine lv_iload_n (pc := 0) hx hb dX7_arrive_0 rfl (lv_at hl 1 rfl) ?_
  refine lv_iconst (pc := 1) (v := 0) hx hb dX7_arrive_1 (by decide) ?_
  refine lv_aload_n (pc := 2) hx hb dX7_arrive_2 rfl (lv_at hl 0 rfl) ?_
  refine M_get (pc := 3) (v := .int (σ.1 22)) X P 22 (Nat.le_of_ble_eq_true rfl) (List.mem_of_getElem? (i := 1) rfl) rfl dX7_arrive_3 ?_
  refine lv_iconst (pc := 6) (v := 1) hx hb dX7_arrive_6 (by decide) ?_
  refine lv_isub (pc := 7) hx hb dX7_arrive_7 ?_
  refine S_call (pc := 8) (As := [.int p0, .int 0, .int ((σ.1 22) - 1)]) (rest := []) (r := m_in p0 0 ((σ.1 22) - 1)) X.1 hl.1 (kX7_in l p0 0 ((σ.1 22) - 1)) fnX7_in gX7_arrive_X7_in rfl rfl ⟨Nat.le_of_ble_eq_true rfl, Nat.le_of_ble_eq_true rfl⟩ (Nat.le_of_ble_eq_true rfl) ⟨Nat.le_of_ble_eq_true rfl, Nat.le_of_ble_eq_true rfl⟩ dX7_arrive_8 ?_
  refine lv_istore_n (pc := 11) (lv' := [(3, .int (m_in p0 0 ((σ.1 22) - 1))), (0, .ref m0), (1, .int p0), (2, .int p1)]) hx hb dX7_arrive_11 rfl hl (by decide) rfl (fun ls hl => ?_)
  refine lv_aload_n (pc := 12) hx hb dX7_arrive_12 rfl (lv_at hl 1 rfl) ?_
  refine lv_iload_n (pc := 13) hx hb dX7_arrive_13 rfl (lv_at hl 0 rfl) ?_
  refine lv_if_ne (pc := 14) (tgt := 21) hx hb dX7_arrive_14 (by decide) (fun c_1 : ¬ (m_in p0 0 ((σ.1 22) - 1)) = 0 => ?_) (fun c_1 : (m_in p0 0 ((σ.1 22) - 1)) = 0 => ?_)
  · have hq_2 : vp_in (σ.2 24 (ix p0)) 10 := (h3 _ (isM_lt h1 c_1).2).1
    have hw_3 : ¬ σ.2 25 (ix p0) = 0 := (h3 _ (isM_lt h1 c_1).2).2
    have hv_4 : vp_in p0 30 := isM_in h1 c_1
    have hm_5 : p0 = nI (ix p0) ∧ ix p0 < ix (σ.1 22) := isM_lt h1 c_1
    refine lv_iload_n (pc := 21) hx hb dX7_arrive_21 rfl (lv_at hl 3 rfl) ?_
    refine lv_iconst (pc := 22) (v := 0) hx hb dX7_arrive_22 (by decide) ?_
    refine lv_aload_n (pc := 23) hx hb dX7_arrive_23 rfl (lv_at hl 1 rfl) ?_
    refine M_get (pc := 24) (v := .ref (as 25)) X P 25 (Nat.le_of_ble_eq_true rfl) (List.mem_of_getElem? (i := 2) rfl) rfl dX7_arrive_24 ?_
    refine lv_iload_n (pc := 27) hx hb dX7_arrive_27 rfl (lv_at hl 2 rfl) ?_
    refine M_ald (pc := 28) (a := as 25) (n := 30) (f := σ.2 25) X P 11 rfl hv_4 dX7_arrive_28 ?_
    refine S_call (pc := 29) (As := [.int p1, .int 0, .int (σ.2 25 (ix p0))]) (rest := [.ref m0]) (r := m_in p1 0 (σ.2 25 (ix p0))) X.1 hl.1 (kX7_in l p1 0 (σ.2 25 (ix p0))) fnX7_in gX7_arrive_X7_in rfl rfl ⟨Nat.le_of_ble_eq_true rfl, Nat.le_of_ble_eq_true rfl⟩ (Nat.le_of_ble_eq_true rfl) ⟨Nat.le_of_ble_eq_true rfl, Nat.le_of_ble_eq_true rfl⟩ dX7_arrive_29 ?_
    refine lv_if_eq (pc := 32) (tgt := 39) hx hb dX7_arrive_32 (by decide) (fun c_6 : (m_in p1 0 (σ.2 25 (ix p0))) = 0 => ?_) (fun c_6 : ¬ (m_in p1 0 (σ.2 25 (ix p0))) = 0 => ?_)
    · refine lv_iconst (pc := 39) (v := 2) hx hb dX7_arrive_39 (by decide) ?_
      refine M_putT (pc := 40) (v := 2) X P (List.mem_of_getElem? (i := 3) rfl) dX7_arrive_40 (fun H locs (P : Hp D A s (M_W cI m0 as 2 σ) H locs) => ?_)
      refine lv_aload_n (pc := 43) hx hb dX7_arrive_43 rfl (lv_at hl 1 rfl) ?_
      refine M_get (pc := 44) (v := .int 2) X P 0 (Nat.le_of_ble_eq_true rfl) (List.mem_of_getElem? (i := 3) rfl) rfl dX7_arrive_44 ?_
      refine lv_if_ne (pc := 47) (tgt := 82) hx hb dX7_arrive_47 (by decide) (fun _ => ?_) (fun h => absurd h (by decide))
      refine lv_aload_n (pc := 82) hx hb dX7_arrive_82 rfl (lv_at hl 1 rfl) ?_
      refine M_get (pc := 83) (v := .int 2) X P 0 (Nat.le_of_ble_eq_true rfl) (List.mem_of_getElem? (i := 3) rfl) rfl dX7_arrive_83 ?_
      refine lv_if_le (pc := 86) (tgt := 91) hx hb dX7_arrive_86 (by decide) (fun h => absurd h (by decide)) (fun _ => ?_)
      refine lv_iconst (pc := 89) (v := 0) hx hb dX7_arrive_89 (by decide) ?_
      exact M_ret (pc := 90) (v := 0) X P (by rw [m_arrive, if_neg c_1, if_pos c_6]) dX7_arrive_90
    · refine lv_iconst (pc := 35) (v := 0) hx hb dX7_arrive_35 (by decide) ?_
      refine lv_goto (pc := 36) (tgt := 40) hx hb dX7_arrive_36 (by decide) ?_
      refine M_putT (pc := 40) (v := 0) X P (List.mem_of_getElem? (i := 3) rfl) dX7_arrive_40 (fun H locs (P : Hp D A s (M_W cI m0 as 0 σ) H locs) => ?_)
      refine lv_aload_n (pc := 43) hx hb dX7_arrive_43 rfl (lv_at hl 1 rfl) ?_
      refine M_get (pc := 44) (v := .int 0) X P 0 (Nat.le_of_ble_eq_true rfl) (List.mem_of_getElem? (i := 3) rfl) rfl dX7_arrive_44 ?_
      refine lv_if_ne (pc := 47) (tgt := 82) hx hb dX7_arrive_47 (by decide) (fun h => absurd h (by decide)) (fun _ => ?_)
      refine lv_aload_n (pc := 50) hx hb dX7_arrive_50 rfl (lv_at hl 1 rfl) ?_
      refine lv_aload_n (pc := 51) hx hb dX7_arrive_51 rfl (lv_at hl 1 rfl) ?_
      refine M_get (pc := 52) (v := .ref (as 23)) X P 23 (Nat.le_of_ble_eq_true rfl) (List.mem_of_getElem? (i := 4) rfl) rfl dX7_arrive_52 ?_
      refine lv_iload_n (pc := 55) hx hb dX7_arrive_55 rfl (lv_at hl 2 rfl) ?_
      refine M_ald (pc := 56) (a := as 23) (n := 30) (f := σ.2 23) X P 9 rfl hv_4 dX7_arrive_56 ?_
      refine lv_if_ne (pc := 57) (tgt := 78) hx hb dX7_arrive_57 (by decide) (fun c_7 : ¬ (σ.2 23 (ix p0)) = 0 => ?_) (fun c_7 : (σ.2 23 (ix p0)) = 0 => ?_)
      · refine lv_iconst (pc := 78) (v := 3) hx hb dX7_arrive_78 (by decide) ?_
        refine M_putT (pc := 79) (v := 3) X P (List.mem_of_getElem? (i := 3) rfl) dX7_arrive_79 (fun H locs (P : Hp D A s (M_W cI m0 as 3 σ) H locs) => ?_)
        refine lv_aload_n (pc := 82) hx hb dX7_arrive_82 rfl (lv_at hl 1 rfl) ?_
        refine M_get (pc := 83) (v := .int 3) X P 0 (Nat.le_of_ble_eq_true rfl) (List.mem_of_getElem? (i := 3) rfl) rfl dX7_arrive_83 ?_
        refine lv_if_le (pc := 86) (tgt := 91) hx hb dX7_arrive_86 (by decide) (fun h => absurd h (by decide)) (fun _ => ?_)
        refine lv_iconst (pc := 89) (v := 0) hx hb dX7_arrive_89 (by decide) ?_
        exact M_ret (pc := 90) (v := 0) X P (by rw [m_arrive, if_neg c_1, if_neg c_6, if_neg c_7]) dX7_arrive_90
      · refine lv_aload_n (pc := 60) hx hb dX7_arrive_60 rfl (lv_at hl 1 rfl) ?_
        refine lv_aload_n (pc := 61) hx hb dX7_arrive_61 rfl (lv_at hl 1 rfl) ?_
        refine M_get (pc := 62) (v := .ref (as 24)) X P 24 (Nat.le_of_ble_eq_true rfl) (List.mem_of_getElem? (i := 5) rfl) rfl dX7_arrive_62 ?_
        refine lv_iload_n (pc := 65) hx hb dX7_arrive_65 rfl (lv_at hl 2 rfl) ?_
        refine M_ald (pc := 66) (a := as 24) (n := 30) (f := σ.2 24) X P 10 rfl hv_4 dX7_arrive_66 ?_
        refine lv_iload_n (pc := 67) hx hb dX7_arrive_67 rfl (lv_at hl 3 rfl) ?_
        refine M_calli (pc := 68) (As := [.int (σ.2 24 (ix p0)), .int p1]) (rest := [.ref m0]) (f := (0, m_hasRoom σ (σ.2 24 (ix p0)) p1, σ)) X P hl.1 (kX7_hasRoom l D cI m0 as 0 σ (σ.2 24 (ix p0)) p1 hq_2) fnX7_hasRoom rfl gX7_arrive_X7_hasRoom rfl rfl ⟨Nat.le_of_ble_eq_true rfl, Nat.le_of_ble_eq_true rfl⟩ (Nat.le_of_ble_eq_true rfl) ⟨Nat.le_of_ble_eq_true rfl, Nat.le_of_ble_eq_true rfl⟩ dX7_arrive_68 (fun H locs (P : Hp D A s (M_W cI m0 as 0 σ) H locs) => ?_)
        refine lv_if_eq (pc := 71) (tgt := 78) hx hb dX7_arrive_71 (by decide) (fun c_8 : (m_hasRoom σ (σ.2 24 (ix p0)) p1) = 0 => ?_) (fun c_8 : ¬ (m_hasRoom σ (σ.2 24 (ix p0)) p1) = 0 => ?_)
        · refine lv_iconst (pc := 78) (v := 3) hx hb dX7_arrive_78 (by decide) ?_
          refine M_putT (pc := 79) (v := 3) X P (List.mem_of_getElem? (i := 3) rfl) dX7_arrive_79 (fun H locs (P : Hp D A s (M_W cI m0 as 3 σ) H locs) => ?_)
          refine lv_aload_n (pc := 82) hx hb dX7_arrive_82 rfl (lv_at hl 1 rfl) ?_
          refine M_get (pc := 83) (v := .int 3) X P 0 (Nat.le_of_ble_eq_true rfl) (List.mem_of_getElem? (i := 3) rfl) rfl dX7_arrive_83 ?_
          refine lv_if_le (pc := 86) (tgt := 91) hx hb dX7_arrive_86 (by decide) (fun h => absurd h (by decide)) (fun _ => ?_)
          refine lv_iconst (pc := 89) (v := 0) hx hb dX7_arrive_89 (by decide) ?_
          exact M_ret (pc := 90) (v := 0) X P (by rw [m_arrive, if_neg c_1, if_neg c_6, if_pos c_7, if_pos c_8]) dX7_arrive_90
        · refine lv_iconst (pc := 74) (v := 0) hx hb dX7_arrive_74 (by decide) ?_
          refine lv_goto (pc := 75) (tgt := 79) hx hb dX7_arrive_75 (by decide) ?_
          refine M_putT (pc := 79) (v := 0) X P (List.mem_of_getElem? (i := 3) rfl) dX7_arrive_79 (fun H locs (P : Hp D A s (M_W cI m0 as 0 σ) H locs) => ?_)
          refine lv_aload_n (pc := 82) hx hb dX7_arrive_82 rfl (lv_at hl 1 rfl) ?_
          refine M_get (pc := 83) (v := .int 0) X P 0 (Nat.le_of_ble_eq_true rfl) (List.mem_of_getElem? (i := 3) rfl) rfl dX7_arrive_83 ?_
          refine lv_if_le (pc := 86) (tgt := 91) hx hb dX7_arrive_86 (by decide) (fun _ => ?_) (fun h => absurd h (by decide))
          refine lv_aload_n (pc := 91) hx hb dX7_arrive_91 rfl (lv_at hl 1 rfl) ?_
          refine M_get (pc := 92) (v := .ref (as 26)) X P 26 (Nat.le_of_ble_eq_true rfl) (List.mem_of_getElem? (i := 6) rfl) rfl dX7_arrive_92 ?_
          refine lv_iload_n (pc := 95) hx hb dX7_arrive_95 rfl (lv_at hl 2 rfl) ?_
          refine M_ald (pc := 96) (a := as 26) (n := 30) (f := σ.2 26) X P 12 rfl hv_4 dX7_arrive_96 ?_
          refine lv_iload_n (pc := 97) hx hb dX7_arrive_97 rfl (lv_at hl 3 rfl) ?_
          refine lv_aload_n (pc := 98) hx hb dX7_arrive_98 rfl (lv_at hl 1 rfl) ?_
          refine M_get (pc := 99) (v := .ref (as 25)) X P 25 (Nat.le_of_ble_eq_true rfl) (List.mem_of_getElem? (i := 2) rfl) rfl dX7_arrive_99 ?_
          refine lv_iload_n (pc := 102) hx hb dX7_arrive_102 rfl (lv_at hl 2 rfl) ?_
          refine M_ald (pc := 103) (a := as 25) (n := 30) (f := σ.2 25) X P 11 rfl hv_4 dX7_arrive_103 ?_
          refine S_call (pc := 104) (As := [.int (σ.2 26 (ix p0)), .int p1, .int (σ.2 25 (ix p0))]) (rest := []) (r := m_part (σ.2 26 (ix p0)) p1 (σ.2 25 (ix p0))) X.1 hl.1 (kX7_part l (σ.2 26 (ix p0)) p1 (σ.2 25 (ix p0)) hw_3) fnX7_part gX7_arrive_X7_part rfl rfl ⟨Nat.le_of_ble_eq_true rfl, Nat.le_of_ble_eq_true rfl⟩ (Nat.le_of_ble_eq_true rfl) ⟨Nat.le_of_ble_eq_true rfl, Nat.le_of_ble_eq_true rfl⟩ dX7_arrive_104 ?_
          refine lv_istore (pc := 107) (lv' := [(4, .int (m_part (σ.2 26 (ix p0)) p1 (σ.2 25 (ix p0)))), (3, .int (m_in p0 0 ((σ.1 22) - 1))), (0, .ref m0), (1, .int p0), (2, .int p1)]) hx hb dX7_arrive_107 hl (by decide) rfl (fun ls hl => ?_)
          refine lv_aload_n (pc := 109) hx hb dX7_arrive_109 rfl (lv_at hl 2 rfl) ?_
          refine M_get (pc := 110) (v := .ref (as 26)) X P 26 (Nat.le_of_ble_eq_true rfl) (List.mem_of_getElem? (i := 6) rfl) rfl dX7_arrive_110 ?_
          refine lv_iload_n (pc := 113) hx hb dX7_arrive_113 rfl (lv_at hl 3 rfl) ?_
          refine M_ald (pc := 114) (a := as 26) (n := 30) (f := σ.2 26) X P 12 rfl hv_4 dX7_arrive_114 ?_
          refine lv_iload (pc := 115) hx hb dX7_arrive_115 (lv_at hl 0 rfl) ?_
          refine lv_isub (pc := 117) hx hb dX7_arrive_117 ?_
          refine lv_istore (pc := 118) (lv' := [(5, .int ((σ.2 26 (ix p0)) - (m_part (σ.2 26 (ix p0)) p1 (σ.2 25 (ix p0))))), (4, .int (m_part (σ.2 26 (ix p0)) p1 (σ.2 25 (ix p0)))), (3, .int (m_in p0 0 ((σ.1 22) - 1))), (0, .ref m0), (1, .int p0), (2, .int p1)]) hx hb dX7_arrive_118 hl (by decide) rfl (fun ls hl => ?_)
          refine lv_aload_n (pc := 120) hx hb dX7_arrive_120 rfl (lv_at hl 3 rfl) ?_
          refine M_get (pc := 121) (v := .ref (as 23)) X P 23 (Nat.le_of_ble_eq_true rfl) (List.mem_of_getElem? (i := 4) rfl) rfl dX7_arrive_121 ?_
          refine lv_iload_n (pc := 124) hx hb dX7_arrive_124 rfl (lv_at hl 4 rfl) ?_
          refine lv_iconst (pc := 125) (v := 1) hx hb dX7_arrive_125 (by decide) ?_
          refine M_ast (pc := 126) (x := 1) (n := 30) X P 9 23 rfl hv_4 M_a23 dX7_arrive_126 (fun H locs (P : Hp D A s (M_W cI m0 as 0 (bs σ 23 (ix p0) 1)) H locs) => ?_)
          refine lv_aload_n (pc := 127) hx hb dX7_arrive_127 rfl (lv_at hl 3 rfl) ?_
          refine lv_aload_n (pc := 128) hx hb dX7_arrive_128 rfl (lv_at hl 3 rfl) ?_
          refine M_get (pc := 129) (v := .ref (as 24)) X P 24 (Nat.le_of_ble_eq_true rfl) (List.mem_of_getElem? (i := 5) rfl) rfl dX7_arrive_129 ?_
          refine lv_iload_n (pc := 132) hx hb dX7_arrive_132 rfl (lv_at hl 4 rfl) ?_
          refine M_ald (pc := 133) (a := as 24) (n := 30) (f := σ.2 24) X P 10 rfl hv_4 dX7_arrive_133 ?_
          refine lv_iload_n (pc := 134) hx hb dX7_arrive_134 rfl (lv_at hl 5 rfl) ?_
          refine lv_iload (pc := 135) hx hb dX7_arrive_135 (lv_at hl 1 rfl) ?_
          refine M_callv (pc := 137) (As := [.int (σ.2 24 (ix p0)), .int p1, .int (m_part (σ.2 26 (ix p0)) p1 (σ.2 25 (ix p0)))]) (rest := []) (f := (0, 0, m_comes (bs σ 23 (ix p0) 1) (σ.2 24 (ix p0)) p1 (m_part (σ.2 26 (ix p0)) p1 (σ.2 25 (ix p0))))) X P hl.1 (kX7_comes l D cI m0 as 0 (bs σ 23 (ix p0) 1) (σ.2 24 (ix p0)) p1 (m_part (σ.2 26 (ix p0)) p1 (σ.2 25 (ix p0))) hq_2) fnX7_comes rfl gX7_arrive_X7_comes rfl rfl ⟨Nat.le_of_ble_eq_true rfl, Nat.le_of_ble_eq_true rfl⟩ (Nat.le_of_ble_eq_true rfl) ⟨Nat.le_of_ble_eq_true rfl, Nat.le_of_ble_eq_true rfl⟩ dX7_arrive_137 (fun H locs (P : Hp D A s (M_W cI m0 as 0 (m_comes (bs σ 23 (ix p0) 1) (σ.2 24 (ix p0)) p1 (m_part (σ.2 26 (ix p0)) p1 (σ.2 25 (ix p0))))) H locs) => ?_)
          refine lv_iload (pc := 140) hx hb dX7_arrive_140 (lv_at hl 0 rfl) ?_
          refine lv_aload_n (pc := 142) hx hb dX7_arrive_142 rfl (lv_at hl 3 rfl) ?_
          refine M_get (pc := 143) (v := .ref (as 26)) X P 26 (Nat.le_of_ble_eq_true rfl) (List.mem_of_getElem? (i := 6) rfl) rfl dX7_arrive_143 ?_
          refine lv_iload_n (pc := 146) hx hb dX7_arrive_146 rfl (lv_at hl 4 rfl) ?_
          refine M_ald (pc := 147) (a := as 26) (n := 30) (f := σ.2 26) X P 12 rfl hv_4 dX7_arrive_147 ?_
          refine lv_sipush (pc := 148) (v := 200) hx hb dX7_arrive_148 (by decide) ?_
          refine lv_idiv (pc := 151) hx hb dX7_arrive_151 (by decide) ?_
          refine lv_icmp_gt (pc := 152) (tgt := 168) hx hb dX7_arrive_152 (by decide) (fun c_9 : ((σ.2 26 (ix p0)) / 200) < ((σ.2 26 (ix p0)) - (m_part (σ.2 26 (ix p0)) p1 (σ.2 25 (ix p0)))) => ?_) (fun c_9 : ¬ ((σ.2 26 (ix p0)) / 200) < ((σ.2 26 (ix p0)) - (m_part (σ.2 26 (ix p0)) p1 (σ.2 25 (ix p0)))) => ?_)
          · refine lv_aload_n (pc := 168) hx hb dX7_arrive_168 rfl (lv_at hl 3 rfl) ?_
            refine lv_iload (pc := 169) hx hb dX7_arrive_169 (lv_at hl 0 rfl) ?_
            refine M_calli (pc := 171) (As := [.int ((σ.2 26 (ix p0)) - (m_part (σ.2 26 (ix p0)) p1 (σ.2 25 (ix p0))))]) (rest := []) (f := (0, (m_misses (m_comes (bs σ 23 (ix p0) 1) (σ.2 24 (ix p0)) p1 (m_part (σ.2 26 (ix p0)) p1 (σ.2 25 (ix p0)))) ((σ.2 26 (ix p0)) - (m_part (σ.2 26 (ix p0)) p1 (σ.2 25 (ix p0))))).1, (m_misses (m_comes (bs σ 23 (ix p0) 1) (σ.2 24 (ix p0)) p1 (m_part (σ.2 26 (ix p0)) p1 (σ.2 25 (ix p0)))) ((σ.2 26 (ix p0)) - (m_part (σ.2 26 (ix p0)) p1 (σ.2 25 (ix p0))))).2)) X P hl.1 (kX7_misses l D cI m0 as 0 (m_comes (bs σ 23 (ix p0) 1) (σ.2 24 (ix p0)) p1 (m_part (σ.2 26 (ix p0)) p1 (σ.2 25 (ix p0)))) ((σ.2 26 (ix p0)) - (m_part (σ.2 26 (ix p0)) p1 (σ.2 25 (ix p0))))) fnX7_misses rfl gX7_arrive_X7_misses rfl rfl ⟨Nat.le_of_ble_eq_true rfl, Nat.le_of_ble_eq_true rfl⟩ (Nat.le_of_ble_eq_true rfl) ⟨Nat.le_of_ble_eq_true rfl, Nat.le_of_ble_eq_true rfl⟩ dX7_arrive_171 (fun H locs (P : Hp D A s (M_W cI m0 as 0 ((m_misses (m_comes (bs σ 23 (ix p0) 1) (σ.2 24 (ix p0)) p1 (m_part (σ.2 26 (ix p0)) p1 (σ.2 25 (ix p0)))) ((σ.2 26 (ix p0)) - (m_part (σ.2 26 (ix p0)) p1 (σ.2 25 (ix p0))))).2)) H locs) => ?_)
            refine lv_pop (pc := 174) hx hb dX7_arrive_174 rfl ?_
            refine lv_iload (pc := 175) hx hb dX7_arrive_175 (lv_at hl 0 rfl) ?_
            exact M_ret (pc := 177) (v := (σ.2 26 (ix p0)) - (m_part (σ.2 26 (ix p0)) p1 (σ.2 25 (ix p0)))) X P (by rw [m_arrive, if_neg c_1, if_neg c_6, if_pos c_7, if_neg c_8, if_pos c_9]) dX7_arrive_177
          · refine lv_aload_n (pc := 155) hx hb dX7_arrive_155 rfl (lv_at hl 3 rfl) ?_
            refine M_get (pc := 156) (v := .ref (as 10)) X P 10 (Nat.le_of_ble_eq_true rfl) (List.mem_of_getElem? (i := 7) rfl) rfl dX7_arrive_156 ?_
            refine lv_iconst (pc := 159) (v := 4) hx hb dX7_arrive_159 (by decide) ?_
            refine lv_dup2_11 (pc := 160) hx hb dX7_arrive_160 rfl rfl ?_
            refine M_ald (pc := 161) (a := as 10) (n := 8) (f := σ.2 10) X P 6 rfl (vp_dec (by decide)) dX7_arrive_161 ?_
            refine lv_iload (pc := 162) hx hb dX7_arrive_162 (lv_at hl 0 rfl) ?_
            refine lv_iadd (pc := 164) hx hb dX7_arrive_164 ?_
            refine M_ast (pc := 165) (x := (σ.2 10 4) + ((σ.2 26 (ix p0)) - (m_part (σ.2 26 (ix p0)) p1 (σ.2 25 (ix p0))))) (n := 8) X P 6 10 rfl (vp_dec (by decide)) M_a10 dX7_arrive_165 (fun H locs (P : Hp D A s (M_W cI m0 as 0 (bs (m_comes (bs σ 23 (ix p0) 1) (σ.2 24 (ix p0)) p1 (m_part (σ.2 26 (ix p0)) p1 (σ.2 25 (ix p0)))) 10 4 ((σ.2 10 4) + ((σ.2 26 (ix p0)) - (m_part (σ.2 26 (ix p0)) p1 (σ.2 25 (ix p0))))))) H locs) => ?_)
            refine lv_iconst (pc := 166) (v := 0) hx hb dX7_arrive_166 (by decide) ?_
            exact M_ret (pc := 167) (v := 0) X P (by rw [m_arrive, if_neg c_1, if_neg c_6, if_pos c_7, if_neg c_8, if_neg c_9]) dX7_arrive_167
  · refine lv_iconst (pc := 17) (v := 1) hx hb dX7_arrive_17 (by decide) ?_
    refine lv_goto (pc := 18) (tgt := 40) hx hb dX7_arrive_18 (by decide) ?_
    refine M_putT (pc := 40) (v := 1) X P (List.mem_of_getElem? (i := 3) rfl) dX7_arrive_40 (fun H locs (P : Hp D A s (M_W cI m0 as 1 σ) H locs) => ?_)
    refine lv_aload_n (pc := 43) hx hb dX7_arrive_43 rfl (lv_at hl 1 rfl) ?_
    refine M_get (pc := 44) (v := .int 1) X P 0 (Nat.le_of_ble_eq_true rfl) (List.mem_of_getElem? (i := 3) rfl) rfl dX7_arrive_44 ?_
    refine lv_if_ne (pc := 47) (tgt := 82) hx hb dX7_arrive_47 (by decide) (fun _ => ?_) (fun h => absurd h (by decide))
    refine lv_aload_n (pc := 82) hx hb dX7_arrive_82 rfl (lv_at hl 1 rfl) ?_
    refine M_get (pc := 83) (v := .int 1) X P 0 (Nat.le_of_ble_eq_true rfl) (List.mem_of_getElem? (i := 3) rfl) rfl dX7_arrive_83 ?_
    refine lv_if_le (pc := 86) (tgt := 91) hx hb dX7_arrive_86 (by decide) (fun h => absurd h (by decide)) (fun _ => ?_)
    refine lv_iconst (pc := 89) (v := 0) hx hb dX7_arrive_89 (by decide) ?_
    exact M_ret (pc := 90) (v := 0) X P (by rw [m_arrive, if_pos c_1]) dX7_arrive_90
def m_day (σ : Sg) : Int32 × Int32 × Sg := (0, σ.1 1, σ)
abbrev rX7_day : Room := { frames := 0, cells := 0, slots := 0, locals := 0 }
theorem fnX7_day : Fn yX7_day wsX7_day cX7_day 1 (some .int) 0 rX7_day 0 0 := ⟨⟨_, rfl⟩, rfl, rfl, by decide +kernel⟩
theorem inX7_day : ∀ w ∈ wsX70, w ∈ wsX7_day := fun w h => List.mem_cons_of_mem _ (List.mem_append_right _ h)
set_option maxHeartbeats 4000000 in
set_option maxRecDepth 100000 in
theorem kX7_day (l : Launch) (D : va_G) (cI : ClassId) (m0 : Nat) (as : Nat → Nat) (th : Int32) (σ : Sg) : M_Mi l yX7_day wsX7_day rX7_day D cI m0 as th σ [] (m_day σ) := by
  refine M_body (n := 0) (Qc := fun A => M_Qi D cI m0 as (m_day σ) A) rfl fnX7_day inX7_day (Nat.le_of_ble_eq_true rfl) ?_
  intro p e s m args below meth c X A P ls hl
  have hx := X.1.1
  have hb := X.1.2.1
  have hown := X.1.2.2.2.1
  have hts := X.1.2.2.2.2.1
  have hl : lv_has ls 1 [(0, .ref m0)] := hl
  refine lv_aload_n (pc := 0) hx hb dX7_day_0 rfl (lv_at hl 0 rfl) ?_
  refine lv_iconst (pc := 1) (v := 0) hx hb dX7_day_1 (by decide) ?_
  refine M_putT (pc := 2) (v := 0) X P (List.mem_of_getElem? (i := 1) rfl) dX7_day_2 (fun H locs (P : Hp D A s (M_W cI m0 as 0 σ) H locs) => ?_)
  refine lv_aload_n (pc := 5) hx hb dX7_day_5 rfl (lv_at hl 0 rfl) ?_
  refine M_get (pc := 6) (v := .int (σ.1 1)) X P 1 (Nat.le_of_ble_eq_true rfl) (List.mem_of_getElem? (i := 2) rfl) rfl dX7_day_6 ?_
  exact M_ret (pc := 9) (v := σ.1 1) X P (by rw [m_day]) dX7_day_9
def m_ofVessel (σ : Sg) (p0 : Int32) (p1 : Int32) : Int32 × Int32 × Sg := if (m_isVessel σ p0) = 0 then (1, 0, σ) else if (m_in p1 0 4) = 0 then (1, 0, σ) else if p1 = 0 then (0, σ.2 5 (ix p0), σ) else if p1 = 1 then (0, σ.2 6 (ix p0), σ) else if p1 = 2 then (0, m_strengthOf (σ.2 6 (ix p0)) (σ.2 5 (ix p0)), σ) else if p1 = 3 then (0, σ.2 3 (ix p0), σ) else (0, (σ.2 4 (ix p0)) - (σ.2 5 (ix p0)), σ)
abbrev rX7_ofVessel : Room := { frames := 2, cells := 0, slots := 0, locals := 43 }
theorem fnX7_ofVessel : Fn yX7_ofVessel wsX7_ofVessel cX7_ofVessel 3 (some .int) 2 rX7_ofVessel 0 0 := ⟨⟨_, rfl⟩, rfl, rfl, by decide +kernel⟩
theorem inX7_ofVessel : ∀ w ∈ wsX70, w ∈ wsX7_ofVessel := fun w h => List.mem_cons_of_mem _ (List.mem_append_right _ h)
set_option maxHeartbeats 4000000 in
set_option maxRecDepth 100000 in
theorem kX7_ofVessel (l : Launch) (D : va_G) (cI : ClassId) (m0 : Nat) (as : Nat → Nat) (th : Int32) (σ : Sg) (p0 : Int32) (p1 : Int32) (h0 : Cnt σ 2 10) : M_Mi l yX7_ofVessel wsX7_ofVessel rX7_ofVessel D cI m0 as th σ [.int p0, .int p1] (m_ofVessel σ p0 p1) := by
  refine M_body (n := 2) (Qc := fun A => M_Qi D cI m0 as (m_ofVessel σ p0 p1) A) rfl fnX7_ofVessel inX7_ofVessel (Nat.le_of_ble_eq_true rfl) ?_
  intro p e s m args below meth c X A P ls hl
  have hx := X.1.1
  have hb := X.1.2.1
  have hown := X.1.2.2.2.1
  have hts := X.1.2.2.2.2.1
  have hl : lv_has ls 3 [(0, .ref m0), (1, .int p0), (2, .int p1)] := hl
  refine lv_aload_n (pc := 0) hx hb dX7_ofVessel_0 rfl (lv_at hl 0 rfl) ?_
  refine lv_aload_n (pc := 1) hx hb dX7_ofVessel_1 rfl (lv_at hl 0 rfl) ?_
  refine lv_iload_n (pc := 2) hx hb dX7_ofVessel_2 rfl (lv_at hl 1 rfl) ?_
  refine M_calli (pc := 3) (As := [.int p0]) (rest := [.ref m0]) (f := (th, m_isVessel σ p0, σ)) X P hl.1 (kX7_isVessel l D cI m0 as th σ p0) fnX7_isVessel rfl gX7_ofVessel_X7_isVessel rfl rfl ⟨Nat.le_of_ble_eq_true rfl, Nat.le_of_ble_eq_true rfl⟩ (Nat.le_of_ble_eq_true rfl) ⟨Nat.le_of_ble_eq_true rfl, Nat.le_of_ble_eq_true rfl⟩ dX7_ofVessel_3 (fun H locs (P : Hp D A s (M_W cI m0 as th σ) H locs) => ?_)
  refine lv_if_eq (pc := 6) (tgt := 22) hx hb dX7_ofVessel_6 (by decide) (fun c_1 : (m_isVessel σ p0) = 0 => ?_) (fun c_1 : ¬ (m_isVessel σ p0) = 0 => ?_)
  · refine lv_iconst (pc := 22) (v := 1) hx hb dX7_ofVessel_22 (by decide) ?_
    refine M_putT (pc := 23) (v := 1) X P (List.mem_of_getElem? (i := 1) rfl) dX7_ofVessel_23 (fun H locs (P : Hp D A s (M_W cI m0 as 1 σ) H locs) => ?_)
    refine lv_aload_n (pc := 26) hx hb dX7_ofVessel_26 rfl (lv_at hl 0 rfl) ?_
    refine M_get (pc := 27) (v := .int 1) X P 0 (Nat.le_of_ble_eq_true rfl) (List.mem_of_getElem? (i := 1) rfl) rfl dX7_ofVessel_27 ?_
    refine lv_if_le (pc := 30) (tgt := 35) hx hb dX7_ofVessel_30 (by decide) (fun h => absurd h (by decide)) (fun _ => ?_)
    refine lv_iconst (pc := 33) (v := 0) hx hb dX7_ofVessel_33 (by decide) ?_
    exact M_ret (pc := 34) (v := 0) X P (by rw [m_ofVessel, if_pos c_1]) dX7_ofVessel_34
  · have hv_2 : vp_in p0 10 := isV_in h0 c_1
    refine lv_iload_n (pc := 9) hx hb dX7_ofVessel_9 rfl (lv_at hl 2 rfl) ?_
    refine lv_iconst (pc := 10) (v := 0) hx hb dX7_ofVessel_10 (by decide) ?_
    refine lv_iconst (pc := 11) (v := 4) hx hb dX7_ofVessel_11 (by decide) ?_
    refine S_call (pc := 12) (As := [.int p1, .int 0, .int 4]) (rest := [.ref m0]) (r := m_in p1 0 4) X.1 hl.1 (kX7_in l p1 0 4) fnX7_in gX7_ofVessel_X7_in rfl rfl ⟨Nat.le_of_ble_eq_true rfl, Nat.le_of_ble_eq_true rfl⟩ (Nat.le_of_ble_eq_true rfl) ⟨Nat.le_of_ble_eq_true rfl, Nat.le_of_ble_eq_true rfl⟩ dX7_ofVessel_12 ?_
    refine lv_if_eq (pc := 15) (tgt := 22) hx hb dX7_ofVessel_15 (by decide) (fun c_3 : (m_in p1 0 4) = 0 => ?_) (fun c_3 : ¬ (m_in p1 0 4) = 0 => ?_)
    · refine lv_iconst (pc := 22) (v := 1) hx hb dX7_ofVessel_22 (by decide) ?_
      refine M_putT (pc := 23) (v := 1) X P (List.mem_of_getElem? (i := 1) rfl) dX7_ofVessel_23 (fun H locs (P : Hp D A s (M_W cI m0 as 1 σ) H locs) => ?_)
      refine lv_aload_n (pc := 26) hx hb dX7_ofVessel_26 rfl (lv_at hl 0 rfl) ?_
      refine M_get (pc := 27) (v := .int 1) X P 0 (Nat.le_of_ble_eq_true rfl) (List.mem_of_getElem? (i := 1) rfl) rfl dX7_ofVessel_27 ?_
      refine lv_if_le (pc := 30) (tgt := 35) hx hb dX7_ofVessel_30 (by decide) (fun h => absurd h (by decide)) (fun _ => ?_)
      refine lv_iconst (pc := 33) (v := 0) hx hb dX7_ofVessel_33 (by decide) ?_
      exact M_ret (pc := 34) (v := 0) X P (by rw [m_ofVessel, if_neg c_1, if_pos c_3]) dX7_ofVessel_34
    · have hv_4 : vp_in p1 5 := in_vp (by decide) c_3
      refine lv_iconst (pc := 18) (v := 0) hx hb dX7_ofVessel_18 (by decide) ?_
      refine lv_goto (pc := 19) (tgt := 23) hx hb dX7_ofVessel_19 (by decide) ?_
      refine M_putT (pc := 23) (v := 0) X P (List.mem_of_getElem? (i := 1) rfl) dX7_ofVessel_23 (fun H locs (P : Hp D A s (M_W cI m0 as 0 σ) H locs) => ?_)
      refine lv_aload_n (pc := 26) hx hb dX7_ofVessel_26 rfl (lv_at hl 0 rfl) ?_
      refine M_get (pc := 27) (v := .int 0) X P 0 (Nat.le_of_ble_eq_true rfl) (List.mem_of_getElem? (i := 1) rfl) rfl dX7_ofVessel_27 ?_
      refine lv_if_le (pc := 30) (tgt := 35) hx hb dX7_ofVessel_30 (by decide) (fun _ => ?_) (fun h => absurd h (by decide))
      refine lv_iload_n (pc := 35) hx hb dX7_ofVessel_35 rfl (lv_at hl 2 rfl) ?_
      rcases Classical.em (p1 = 0) with c_5 | c_5
      · refine lv_tableIn (pc := 36) (tgt := 68) hx hb dX7_ofVessel_36 (by rw [c_5]; decide) (by rw [c_5]; decide) (by rw [c_5]; rfl) (by decide) ?_
        refine lv_aload_n (pc := 68) hx hb dX7_ofVessel_68 rfl (lv_at hl 0 rfl) ?_
        refine M_get (pc := 69) (v := .ref (as 5)) X P 5 (Nat.le_of_ble_eq_true rfl) (List.mem_of_getElem? (i := 2) rfl) rfl dX7_ofVessel_69 ?_
        refine lv_iload_n (pc := 72) hx hb dX7_ofVessel_72 rfl (lv_at hl 1 rfl) ?_
        refine M_ald (pc := 73) (a := as 5) (n := 10) (f := σ.2 5) X P 3 rfl hv_2 dX7_ofVessel_73 ?_
        exact M_ret (pc := 74) (v := σ.2 5 (ix p0)) X P (by rw [m_ofVessel, if_neg c_1, if_neg c_3, if_pos c_5]) dX7_ofVessel_74
      · rcases Classical.em (p1 = 1) with c_6 | c_6
        · refine lv_tableIn (pc := 36) (tgt := 75) hx hb dX7_ofVessel_36 (by rw [c_6]; decide) (by rw [c_6]; decide) (by rw [c_6]; rfl) (by decide) ?_
          refine lv_aload_n (pc := 75) hx hb dX7_ofVessel_75 rfl (lv_at hl 0 rfl) ?_
          refine M_get (pc := 76) (v := .ref (as 6)) X P 6 (Nat.le_of_ble_eq_true rfl) (List.mem_of_getElem? (i := 3) rfl) rfl dX7_ofVessel_76 ?_
          refine lv_iload_n (pc := 79) hx hb dX7_ofVessel_79 rfl (lv_at hl 1 rfl) ?_
          refine M_ald (pc := 80) (a := as 6) (n := 10) (f := σ.2 6) X P 4 rfl hv_2 dX7_ofVessel_80 ?_
          exact M_ret (pc := 81) (v := σ.2 6 (ix p0)) X P (by rw [m_ofVessel, if_neg c_1, if_neg c_3, if_neg c_5, if_pos c_6]) dX7_ofVessel_81
        · rcases Classical.em (p1 = 2) with c_7 | c_7
          · refine lv_tableIn (pc := 36) (tgt := 82) hx hb dX7_ofVessel_36 (by rw [c_7]; decide) (by rw [c_7]; decide) (by rw [c_7]; rfl) (by decide) ?_
            refine lv_aload_n (pc := 82) hx hb dX7_ofVessel_82 rfl (lv_at hl 0 rfl) ?_
            refine M_get (pc := 83) (v := .ref (as 6)) X P 6 (Nat.le_of_ble_eq_true rfl) (List.mem_of_getElem? (i := 3) rfl) rfl dX7_ofVessel_83 ?_
            refine lv_iload_n (pc := 86) hx hb dX7_ofVessel_86 rfl (lv_at hl 1 rfl) ?_
            refine M_ald (pc := 87) (a := as 6) (n := 10) (f := σ.2 6) X P 4 rfl hv_2 dX7_ofVessel_87 ?_
            refine lv_aload_n (pc := 88) hx hb dX7_ofVessel_88 rfl (lv_at hl 0 rfl) ?_
            refine M_get (pc := 89) (v := .ref (as 5)) X P 5 (Nat.le_of_ble_eq_true rfl) (List.mem_of_getElem? (i := 2) rfl) rfl dX7_ofVessel_89 ?_
            refine lv_iload_n (pc := 92) hx hb dX7_ofVessel_92 rfl (lv_at hl 1 rfl) ?_
            refine M_ald (pc := 93) (a := as 5) (n := 10) (f := σ.2 5) X P 3 rfl hv_2 dX7_ofVessel_93 ?_
            refine S_call (pc := 94) (As := [.int (σ.2 6 (ix p0)), .int (σ.2 5 (ix p0))]) (rest := []) (r := m_strengthOf (σ.2 6 (ix p0)) (σ.2 5 (ix p0))) X.1 hl.1 (kX7_strengthOf l (σ.2 6 (ix p0)) (σ.2 5 (ix p0))) fnX7_strengthOf gX7_ofVessel_X7_strengthOf rfl rfl ⟨Nat.le_of_ble_eq_true rfl, Nat.le_of_ble_eq_true rfl⟩ (Nat.le_of_ble_eq_true rfl) ⟨Nat.le_of_ble_eq_true rfl, Nat.le_of_ble_eq_true rfl⟩ dX7_ofVessel_94 ?_
            exact M_ret (pc := 97) (v := m_strengthOf (σ.2 6 (ix p0)) (σ.2 5 (ix p0))) X P (by rw [m_ofVessel, if_neg c_1, if_neg c_3, if_neg c_5, if_neg c_6, if_pos c_7]) dX7_ofVessel_97
          · rcases Classical.em (p1 = 3) with c_8 | c_8
            · refine lv_tableIn (pc := 36) (tgt := 98) hx hb dX7_ofVessel_36 (by rw [c_8]; decide) (by rw [c_8]; decide) (by rw [c_8]; rfl) (by decide) ?_
              refine lv_aload_n (pc := 98) hx hb dX7_ofVessel_98 rfl (lv_at hl 0 rfl) ?_
              refine M_get (pc := 99) (v := .ref (as 3)) X P 3 (Nat.le_of_ble_eq_true rfl) (List.mem_of_getElem? (i := 4) rfl) rfl dX7_ofVessel_99 ?_
              refine lv_iload_n (pc := 102) hx hb dX7_ofVessel_102 rfl (lv_at hl 1 rfl) ?_
              refine M_ald (pc := 103) (a := as 3) (n := 10) (f := σ.2 3) X P 1 rfl hv_2 dX7_ofVessel_103 ?_
              exact M_ret (pc := 104) (v := σ.2 3 (ix p0)) X P (by rw [m_ofVessel, if_neg c_1, if_neg c_3, if_neg c_5, if_neg c_6, if_neg c_7, if_pos c_8]) dX7_ofVessel_104
            · refine lv_tableOut (pc := 36) (tgt := 105) hx hb dX7_ofVessel_36 (tsw_out 4 p1 (by decide) (by intro k hk; match k, hk with | 0, _ => exact c_5 | 1, _ => exact c_6 | 2, _ => exact c_7 | 3, _ => exact c_8 | n + 4, hk => exact absurd hk (by omega))) (by decide) ?_
              refine lv_aload_n (pc := 105) hx hb dX7_ofVessel_105 rfl (lv_at hl 0 rfl) ?_
              refine M_get (pc := 106) (v := .ref (as 4)) X P 4 (Nat.le_of_ble_eq_true rfl) (List.mem_of_getElem? (i := 5) rfl) rfl dX7_ofVessel_106 ?_
              refine lv_iload_n (pc := 109) hx hb dX7_ofVessel_109 rfl (lv_at hl 1 rfl) ?_
              refine M_ald (pc := 110) (a := as 4) (n := 10) (f := σ.2 4) X P 2 rfl hv_2 dX7_ofVessel_110 ?_
              refine lv_aload_n (pc := 111) hx hb dX7_ofVessel_111 rfl (lv_at hl 0 rfl) ?_
              refine M_get (pc := 112) (v := .ref (as 5)) X P 5 (Nat.le_of_ble_eq_true rfl) (List.mem_of_getElem? (i := 2) rfl) rfl dX7_ofVessel_112 ?_
              refine lv_iload_n (pc := 115) hx hb dX7_ofVessel_115 rfl (lv_at hl 1 rfl) ?_
              refine M_ald (pc := 116) (a := as 5) (n := 10) (f := σ.2 5) X P 3 rfl hv_2 dX7_ofVessel_116 ?_
              refine lv_isub (pc := 117) hx hb dX7_ofVessel_117 ?_
              exact M_ret (pc := 118) (v := (σ.2 4 (ix p0)) - (σ.2 5 (ix p0))) X P (by rw [m_ofVessel, if_neg c_1, if_neg c_3, if_neg c_5, if_neg c_6, if_neg c_7, if_neg c_8]) dX7_ofVessel_118
def m_dropsAnew (σ : Sg) (p0 : Int32) : Int32 × Int32 × Sg := if (m_isVessel σ p0) = 0 then (1, 0, σ) else (0, σ.2 6 (ix p0), σ)
abbrev rX7_dropsAnew : Room := { frames := 2, cells := 0, slots := 0, locals := 43 }
theorem fnX7_dropsAnew : Fn yX7_dropsAnew wsX7_dropsAnew cX7_dropsAnew 2 (some .int) 1 rX7_dropsAnew 0 0 := ⟨⟨_, rfl⟩, rfl, rfl, by decide +kernel⟩
theorem inX7_dropsAnew : ∀ w ∈ wsX70, w ∈ wsX7_dropsAnew := fun w h => List.mem_cons_of_mem _ (List.mem_append_right _ h)
set_option maxHeartbeats 4000000 in
set_option maxRecDepth 100000 in
theorem kX7_dropsAnew (l : Launch) (D : va_G) (cI : ClassId) (m0 : Nat) (as : Nat → Nat) (th : Int32) (σ : Sg) (p0 : Int32) (h0 : Cnt σ 2 10) : M_Mi l yX7_dropsAnew wsX7_dropsAnew rX7_dropsAnew D cI m0 as th σ [.int p0] (m_dropsAnew σ p0) := by
  refine M_body (n := 1) (Qc := fun A => M_Qi D cI m0 as (m_dropsAnew σ p0) A) rfl fnX7_dropsAnew inX7_dropsAnew (Nat.le_of_ble_eq_true rfl) ?_
  intro p e s m args below meth c X A P ls hl
  have hx := X.1.1
  have hb := X.1.2.1
  have hown := X.1.2.2.2.1
  have hts := X.1.2.2.2.2.1
  have hl : lv_has ls 2 [(0, .ref m0), (1, .int p0)] := hl
  refine lv_aload_n (pc := 0) hx hb dX7_dropsAnew_0 rfl (lv_at hl 0 rfl) ?_
  refine lv_aload_n (pc := 1) hx hb dX7_dropsAnew_1 rfl (lv_at hl 0 rfl) ?_
  refine lv_iload_n (pc := 2) hx hb dX7_dropsAnew_2 rfl (lv_at hl 1 rfl) ?_
  refine M_calli (pc := 3) (As := [.int p0]) (rest := [.ref m0]) (f := (th, m_isVessel σ p0, σ)) X P hl.1 (kX7_isVessel l D cI m0 as th σ p0) fnX7_isVessel rfl gX7_dropsAnew_X7_isVessel rfl rfl ⟨Nat.le_of_ble_eq_true rfl, Nat.le_of_ble_eq_true rfl⟩ (Nat.le_of_ble_eq_true rfl) ⟨Nat.le_of_ble_eq_true rfl, Nat.le_of_ble_eq_true rfl⟩ dX7_dropsAnew_3 (fun H locs (P : Hp D A s (M_W cI m0 as th σ) H locs) => ?_)
  refine lv_if_eq (pc := 6) (tgt := 13) hx hb dX7_dropsAnew_6 (by decide) (fun c_1 : (m_isVessel σ p0) = 0 => ?_) (fun c_1 : ¬ (m_isVessel σ p0) = 0 => ?_)
  · refine lv_iconst (pc := 13) (v := 1) hx hb dX7_dropsAnew_13 (by decide) ?_
    refine M_putT (pc := 14) (v := 1) X P (List.mem_of_getElem? (i := 1) rfl) dX7_dropsAnew_14 (fun H locs (P : Hp D A s (M_W cI m0 as 1 σ) H locs) => ?_)
    refine lv_aload_n (pc := 17) hx hb dX7_dropsAnew_17 rfl (lv_at hl 0 rfl) ?_
    refine M_get (pc := 18) (v := .int 1) X P 0 (Nat.le_of_ble_eq_true rfl) (List.mem_of_getElem? (i := 1) rfl) rfl dX7_dropsAnew_18 ?_
    refine lv_if_le (pc := 21) (tgt := 28) hx hb dX7_dropsAnew_21 (by decide) (fun h => absurd h (by decide)) (fun _ => ?_)
    refine lv_iconst (pc := 24) (v := 0) hx hb dX7_dropsAnew_24 (by decide) ?_
    refine lv_goto (pc := 25) (tgt := 34) hx hb dX7_dropsAnew_25 (by decide) ?_
    exact M_ret (pc := 34) (v := 0) X P (by rw [m_dropsAnew, if_pos c_1]) dX7_dropsAnew_34
  · have hv_2 : vp_in p0 10 := isV_in h0 c_1
    refine lv_iconst (pc := 9) (v := 0) hx hb dX7_dropsAnew_9 (by decide) ?_
    refine lv_goto (pc := 10) (tgt := 14) hx hb dX7_dropsAnew_10 (by decide) ?_
    refine M_putT (pc := 14) (v := 0) X P (List.mem_of_getElem? (i := 1) rfl) dX7_dropsAnew_14 (fun H locs (P : Hp D A s (M_W cI m0 as 0 σ) H locs) => ?_)
    refine lv_aload_n (pc := 17) hx hb dX7_dropsAnew_17 rfl (lv_at hl 0 rfl) ?_
    refine M_get (pc := 18) (v := .int 0) X P 0 (Nat.le_of_ble_eq_true rfl) (List.mem_of_getElem? (i := 1) rfl) rfl dX7_dropsAnew_18 ?_
    refine lv_if_le (pc := 21) (tgt := 28) hx hb dX7_dropsAnew_21 (by decide) (fun _ => ?_) (fun h => absurd h (by decide))
    refine lv_aload_n (pc := 28) hx hb dX7_dropsAnew_28 rfl (lv_at hl 0 rfl) ?_
    refine M_get (pc := 29) (v := .ref (as 6)) X P 6 (Nat.le_of_ble_eq_true rfl) (List.mem_of_getElem? (i := 2) rfl) rfl dX7_dropsAnew_29 ?_
    refine lv_iload_n (pc := 32) hx hb dX7_dropsAnew_32 rfl (lv_at hl 1 rfl) ?_
    refine M_ald (pc := 33) (a := as 6) (n := 10) (f := σ.2 6) X P 4 rfl hv_2 dX7_dropsAnew_33 ?_
    exact M_ret (pc := 34) (v := σ.2 6 (ix p0)) X P (by rw [m_dropsAnew, if_neg c_1]) dX7_dropsAnew_34
def m_ofMovement (σ : Sg) (p0 : Int32) (p1 : Int32) : Int32 × Int32 × Sg := if (m_in p0 0 ((σ.1 22) - 1)) = 0 then (1, 0, σ) else if (m_in p1 0 3) = 0 then (1, 0, σ) else if p1 = 0 then (0, σ.2 23 (ix p0), σ) else if p1 = 1 then (0, σ.2 25 (ix p0), σ) else if p1 = 2 then (0, σ.2 26 (ix p0), σ) else (0, σ.2 27 (ix p0), σ)
abbrev rX7_ofMovement : Room := { frames := 1, cells := 0, slots := 0, locals := 22 }
theorem fnX7_ofMovement : Fn yX7_ofMovement wsX7_ofMovement cX7_ofMovement 3 (some .int) 2 rX7_ofMovement 0 0 := ⟨⟨_, rfl⟩, rfl, rfl, by decide +kernel⟩
theorem inX7_ofMovement : ∀ w ∈ wsX70, w ∈ wsX7_ofMovement := fun w h => List.mem_cons_of_mem _ (List.mem_append_right _ h)
set_option maxHeartbeats 4000000 in
set_option maxRecDepth 100000 in
theorem kX7_ofMovement (l : Launch) (D : va_G) (cI : ClassId) (m0 : Nat) (as : Nat → Nat) (th : Int32) (σ : Sg) (p0 : Int32) (p1 : Int32) (h1 : Cnt σ 22 30) : M_Mi l yX7_ofMovement wsX7_ofMovement rX7_ofMovement D cI m0 as th σ [.int p0, .int p1] (m_ofMovement σ p0 p1) := by
  refine M_body (n := 2) (Qc := fun A => M_Qi D cI m0 as (m_ofMovement σ p0 p1) A) rfl fnX7_ofMovement inX7_ofMovement (Nat.le_of_ble_eq_true rfl) ?_
  intro p e s m args below meth c X A P ls hl
  have hx := X.1.1
  have hb := X.1.2.1
  have hown := X.1.2.2.2.1
  have hts := X.1.2.2.2.2.1
  have hl : lv_has ls 3 [(0, .ref m0), (1, .int p0), (2, .int p1)] := hl
  refine lv_aload_n (pc := 0) hx hb dX7_ofMovement_0 rfl (lv_at hl 0 rfl) ?_
  refine lv_iload_n (pc := 1) hx hb dX7_ofMovement_1 rfl (lv_at hl 1 rfl) ?_
  refine lv_iconst (pc := 2) (v := 0) hx hb dX7_ofMovement_2 (by decide) ?_
  refine lv_aload_n (pc := 3) hx hb dX7_ofMovement_3 rfl (lv_at hl 0 rfl) ?_
  refine M_get (pc := 4) (v := .int (σ.1 22)) X P 22 (Nat.le_of_ble_eq_true rfl) (List.mem_of_getElem? (i := 1) rfl) rfl dX7_ofMovement_4 ?_
  refine lv_iconst (pc := 7) (v := 1) hx hb dX7_ofMovement_7 (by decide) ?_
  refine lv_isub (pc := 8) hx hb dX7_ofMovement_8 ?_
  refine S_call (pc := 9) (As := [.int p0, .int 0, .int ((σ.1 22) - 1)]) (rest := [.ref m0]) (r := m_in p0 0 ((σ.1 22) - 1)) X.1 hl.1 (kX7_in l p0 0 ((σ.1 22) - 1)) fnX7_in gX7_ofMovement_X7_in rfl rfl ⟨Nat.le_of_ble_eq_true rfl, Nat.le_of_ble_eq_true rfl⟩ (Nat.le_of_ble_eq_true rfl) ⟨Nat.le_of_ble_eq_true rfl, Nat.le_of_ble_eq_true rfl⟩ dX7_ofMovement_9 ?_
  refine lv_if_eq (pc := 12) (tgt := 28) hx hb dX7_ofMovement_12 (by decide) (fun c_1 : (m_in p0 0 ((σ.1 22) - 1)) = 0 => ?_) (fun c_1 : ¬ (m_in p0 0 ((σ.1 22) - 1)) = 0 => ?_)
  · refine lv_iconst (pc := 28) (v := 1) hx hb dX7_ofMovement_28 (by decide) ?_
    refine M_putT (pc := 29) (v := 1) X P (List.mem_of_getElem? (i := 2) rfl) dX7_ofMovement_29 (fun H locs (P : Hp D A s (M_W cI m0 as 1 σ) H locs) => ?_)
    refine lv_aload_n (pc := 32) hx hb dX7_ofMovement_32 rfl (lv_at hl 0 rfl) ?_
    refine M_get (pc := 33) (v := .int 1) X P 0 (Nat.le_of_ble_eq_true rfl) (List.mem_of_getElem? (i := 2) rfl) rfl dX7_ofMovement_33 ?_
    refine lv_if_le (pc := 36) (tgt := 41) hx hb dX7_ofMovement_36 (by decide) (fun h => absurd h (by decide)) (fun _ => ?_)
    refine lv_iconst (pc := 39) (v := 0) hx hb dX7_ofMovement_39 (by decide) ?_
    exact M_ret (pc := 40) (v := 0) X P (by rw [m_ofMovement, if_pos c_1]) dX7_ofMovement_40
  · have hv_2 : vp_in p0 30 := isM_in h1 c_1
    have hm_3 : p0 = nI (ix p0) ∧ ix p0 < ix (σ.1 22) := isM_lt h1 c_1
    refine lv_iload_n (pc := 15) hx hb dX7_ofMovement_15 rfl (lv_at hl 2 rfl) ?_
    refine lv_iconst (pc := 16) (v := 0) hx hb dX7_ofMovement_16 (by decide) ?_
    refine lv_iconst (pc := 17) (v := 3) hx hb dX7_ofMovement_17 (by decide) ?_
    refine S_call (pc := 18) (As := [.int p1, .int 0, .int 3]) (rest := [.ref m0]) (r := m_in p1 0 3) X.1 hl.1 (kX7_in l p1 0 3) fnX7_in gX7_ofMovement_X7_in rfl rfl ⟨Nat.le_of_ble_eq_true rfl, Nat.le_of_ble_eq_true rfl⟩ (Nat.le_of_ble_eq_true rfl) ⟨Nat.le_of_ble_eq_true rfl, Nat.le_of_ble_eq_true rfl⟩ dX7_ofMovement_18 ?_
    refine lv_if_eq (pc := 21) (tgt := 28) hx hb dX7_ofMovement_21 (by decide) (fun c_4 : (m_in p1 0 3) = 0 => ?_) (fun c_4 : ¬ (m_in p1 0 3) = 0 => ?_)
    · refine lv_iconst (pc := 28) (v := 1) hx hb dX7_ofMovement_28 (by decide) ?_
      refine M_putT (pc := 29) (v := 1) X P (List.mem_of_getElem? (i := 2) rfl) dX7_ofMovement_29 (fun H locs (P : Hp D A s (M_W cI m0 as 1 σ) H locs) => ?_)
      refine lv_aload_n (pc := 32) hx hb dX7_ofMovement_32 rfl (lv_at hl 0 rfl) ?_
      refine M_get (pc := 33) (v := .int 1) X P 0 (Nat.le_of_ble_eq_true rfl) (List.mem_of_getElem? (i := 2) rfl) rfl dX7_ofMovement_33 ?_
      refine lv_if_le (pc := 36) (tgt := 41) hx hb dX7_ofMovement_36 (by decide) (fun h => absurd h (by decide)) (fun _ => ?_)
      refine lv_iconst (pc := 39) (v := 0) hx hb dX7_ofMovement_39 (by decide) ?_
      exact M_ret (pc := 40) (v := 0) X P (by rw [m_ofMovement, if_neg c_1, if_pos c_4]) dX7_ofMovement_40
    · have hv_5 : vp_in p1 4 := in_vp (by decide) c_4
      refine lv_iconst (pc := 24) (v := 0) hx hb dX7_ofMovement_24 (by decide) ?_
      refine lv_goto (pc := 25) (tgt := 29) hx hb dX7_ofMovement_25 (by decide) ?_
      refine M_putT (pc := 29) (v := 0) X P (List.mem_of_getElem? (i := 2) rfl) dX7_ofMovement_29 (fun H locs (P : Hp D A s (M_W cI m0 as 0 σ) H locs) => ?_)
      refine lv_aload_n (pc := 32) hx hb dX7_ofMovement_32 rfl (lv_at hl 0 rfl) ?_
      refine M_get (pc := 33) (v := .int 0) X P 0 (Nat.le_of_ble_eq_true rfl) (List.mem_of_getElem? (i := 2) rfl) rfl dX7_ofMovement_33 ?_
      refine lv_if_le (pc := 36) (tgt := 41) hx hb dX7_ofMovement_36 (by decide) (fun _ => ?_) (fun h => absurd h (by decide))
      refine lv_iload_n (pc := 41) hx hb dX7_ofMovement_41 rfl (lv_at hl 2 rfl) ?_
      refine lv_if_ne (pc := 42) (tgt := 54) hx hb dX7_ofMovement_42 (by decide) (fun c_6 : ¬ p1 = 0 => ?_) (fun c_6 : p1 = 0 => ?_)
      · refine lv_iload_n (pc := 54) hx hb dX7_ofMovement_54 rfl (lv_at hl 2 rfl) ?_
        refine lv_iconst (pc := 55) (v := 1) hx hb dX7_ofMovement_55 (by decide) ?_
        refine lv_icmp_ne (pc := 56) (tgt := 68) hx hb dX7_ofMovement_56 (by decide) (fun c_7 : ¬ p1 = 1 => ?_) (fun c_7 : p1 = 1 => ?_)
        · refine lv_iload_n (pc := 68) hx hb dX7_ofMovement_68 rfl (lv_at hl 2 rfl) ?_
          refine lv_iconst (pc := 69) (v := 2) hx hb dX7_ofMovement_69 (by decide) ?_
          refine lv_icmp_ne (pc := 70) (tgt := 82) hx hb dX7_ofMovement_70 (by decide) (fun c_8 : ¬ p1 = 2 => ?_) (fun c_8 : p1 = 2 => ?_)
          · refine lv_aload_n (pc := 82) hx hb dX7_ofMovement_82 rfl (lv_at hl 0 rfl) ?_
            refine M_get (pc := 83) (v := .ref (as 27)) X P 27 (Nat.le_of_ble_eq_true rfl) (List.mem_of_getElem? (i := 6) rfl) rfl dX7_ofMovement_83 ?_
            refine lv_iload_n (pc := 86) hx hb dX7_ofMovement_86 rfl (lv_at hl 1 rfl) ?_
            refine M_ald (pc := 87) (a := as 27) (n := 30) (f := σ.2 27) X P 13 rfl hv_2 dX7_ofMovement_87 ?_
            exact M_ret (pc := 88) (v := σ.2 27 (ix p0)) X P (by rw [m_ofMovement, if_neg c_1, if_neg c_4, if_neg c_6, if_neg c_7, if_neg c_8]) dX7_ofMovement_88
          · refine lv_aload_n (pc := 73) hx hb dX7_ofMovement_73 rfl (lv_at hl 0 rfl) ?_
            refine M_get (pc := 74) (v := .ref (as 26)) X P 26 (Nat.le_of_ble_eq_true rfl) (List.mem_of_getElem? (i := 5) rfl) rfl dX7_ofMovement_74 ?_
            refine lv_iload_n (pc := 77) hx hb dX7_ofMovement_77 rfl (lv_at hl 1 rfl) ?_
            refine M_ald (pc := 78) (a := as 26) (n := 30) (f := σ.2 26) X P 12 rfl hv_2 dX7_ofMovement_78 ?_
            refine lv_goto (pc := 79) (tgt := 88) hx hb dX7_ofMovement_79 (by decide) ?_
            exact M_ret (pc := 88) (v := σ.2 26 (ix p0)) X P (by rw [m_ofMovement, if_neg c_1, if_neg c_4, if_neg c_6, if_neg c_7, if_pos c_8]) dX7_ofMovement_88
        · refine lv_aload_n (pc := 59) hx hb dX7_ofMovement_59 rfl (lv_at hl 0 rfl) ?_
          refine M_get (pc := 60) (v := .ref (as 25)) X P 25 (Nat.le_of_ble_eq_true rfl) (List.mem_of_getElem? (i := 4) rfl) rfl dX7_ofMovement_60 ?_
          refine lv_iload_n (pc := 63) hx hb dX7_ofMovement_63 rfl (lv_at hl 1 rfl) ?_
          refine M_ald (pc := 64) (a := as 25) (n := 30) (f := σ.2 25) X P 11 rfl hv_2 dX7_ofMovement_64 ?_
          refine lv_goto (pc := 65) (tgt := 88) hx hb dX7_ofMovement_65 (by decide) ?_
          exact M_ret (pc := 88) (v := σ.2 25 (ix p0)) X P (by rw [m_ofMovement, if_neg c_1, if_neg c_4, if_neg c_6, if_pos c_7]) dX7_ofMovement_88
      · refine lv_aload_n (pc := 45) hx hb dX7_ofMovement_45 rfl (lv_at hl 0 rfl) ?_
        refine M_get (pc := 46) (v := .ref (as 23)) X P 23 (Nat.le_of_ble_eq_true rfl) (List.mem_of_getElem? (i := 3) rfl) rfl dX7_ofMovement_46 ?_
        refine lv_iload_n (pc := 49) hx hb dX7_ofMovement_49 rfl (lv_at hl 1 rfl) ?_
        refine M_ald (pc := 50) (a := as 23) (n := 30) (f := σ.2 23) X P 9 rfl hv_2 dX7_ofMovement_50 ?_
        refine lv_goto (pc := 51) (tgt := 88) hx hb dX7_ofMovement_51 (by decide) ?_
        exact M_ret (pc := 88) (v := σ.2 23 (ix p0)) X P (by rw [m_ofMovement, if_neg c_1, if_neg c_4, if_pos c_6]) dX7_ofMovement_88
def m_ledger (σ : Sg) (p0 : Int32) : Int32 × Int32 × Sg := if (m_in p0 0 7) = 0 then (1, 0, σ) else if p0 = 1 then (0, m_inVessels σ, σ) else if p0 = 2 then (0, m_moving σ, σ) else if p0 = 3 then (0, m_inLots σ, σ) else (0, σ.2 10 (ix p0), σ)
abbrev rX7_ledger : Room := { frames := 1, cells := 0, slots := 0, locals := 22 }
theorem fnX7_ledger : Fn yX7_ledger wsX7_ledger cX7_ledger 2 (some .int) 1 rX7_ledger 0 0 := ⟨⟨_, rfl⟩, rfl, rfl, by decide +kernel⟩
theorem inX7_ledger : ∀ w ∈ wsX70, w ∈ wsX7_ledger := fun w h => List.mem_cons_of_mem _ (List.mem_append_right _ h)
set_option maxHeartbeats 4000000 in
set_option maxRecDepth 100000 in
theorem kX7_ledger (l : Launch) (D : va_G) (cI : ClassId) (m0 : Nat) (as : Nat → Nat) (th : Int32) (σ : Sg) (p0 : Int32) (h0 : Cnt σ 2 10) (h1 : Cnt σ 22 30) (h2 : Cnt σ 18 100) : M_Mi l yX7_ledger wsX7_ledger rX7_ledger D cI m0 as th σ [.int p0] (m_ledger σ p0) := by
  refine M_body (n := 1) (Qc := fun A => M_Qi D cI m0 as (m_ledger σ p0) A) rfl fnX7_ledger inX7_ledger (Nat.le_of_ble_eq_true rfl) ?_
  intro p e s m args below meth c X A P ls hl
  have hx := X.1.1
  have hb := X.1.2.1
  have hown := X.1.2.2.2.1
  have hts := X.1.2.2.2.2.1
  have hl : lv_has ls 2 [(0, .ref m0), (1, .int p0)] := hl
  refine lv_aload_n (pc := 0) hx hb dX7_ledger_0 rfl (lv_at hl 0 rfl) ?_
  refine lv_iload_n (pc := 1) hx hb dX7_ledger_1 rfl (lv_at hl 1 rfl) ?_
  refine lv_iconst (pc := 2) (v := 0) hx hb dX7_ledger_2 (by decide) ?_
  refine lv_bipush (pc := 3) (v := 7) hx hb dX7_ledger_3 (by decide) ?_
  refine S_call (pc := 5) (As := [.int p0, .int 0, .int 7]) (rest := [.ref m0]) (r := m_in p0 0 7) X.1 hl.1 (kX7_in l p0 0 7) fnX7_in gX7_ledger_X7_in rfl rfl ⟨Nat.le_of_ble_eq_true rfl, Nat.le_of_ble_eq_true rfl⟩ (Nat.le_of_ble_eq_true rfl) ⟨Nat.le_of_ble_eq_true rfl, Nat.le_of_ble_eq_true rfl⟩ dX7_ledger_5 ?_
  refine lv_if_eq (pc := 8) (tgt := 15) hx hb dX7_ledger_8 (by decide) (fun c_1 : (m_in p0 0 7) = 0 => ?_) (fun c_1 : ¬ (m_in p0 0 7) = 0 => ?_)
  · refine lv_iconst (pc := 15) (v := 1) hx hb dX7_ledger_15 (by decide) ?_
    refine M_putT (pc := 16) (v := 1) X P (List.mem_of_getElem? (i := 1) rfl) dX7_ledger_16 (fun H locs (P : Hp D A s (M_W cI m0 as 1 σ) H locs) => ?_)
    refine lv_aload_n (pc := 19) hx hb dX7_ledger_19 rfl (lv_at hl 0 rfl) ?_
    refine M_get (pc := 20) (v := .int 1) X P 0 (Nat.le_of_ble_eq_true rfl) (List.mem_of_getElem? (i := 1) rfl) rfl dX7_ledger_20 ?_
    refine lv_if_le (pc := 23) (tgt := 28) hx hb dX7_ledger_23 (by decide) (fun h => absurd h (by decide)) (fun _ => ?_)
    refine lv_iconst (pc := 26) (v := 0) hx hb dX7_ledger_26 (by decide) ?_
    exact M_ret (pc := 27) (v := 0) X P (by rw [m_ledger, if_pos c_1]) dX7_ledger_27
  · have hv_2 : vp_in p0 8 := in_vp (by decide) c_1
    refine lv_iconst (pc := 11) (v := 0) hx hb dX7_ledger_11 (by decide) ?_
    refine lv_goto (pc := 12) (tgt := 16) hx hb dX7_ledger_12 (by decide) ?_
    refine M_putT (pc := 16) (v := 0) X P (List.mem_of_getElem? (i := 1) rfl) dX7_ledger_16 (fun H locs (P : Hp D A s (M_W cI m0 as 0 σ) H locs) => ?_)
    refine lv_aload_n (pc := 19) hx hb dX7_ledger_19 rfl (lv_at hl 0 rfl) ?_
    refine M_get (pc := 20) (v := .int 0) X P 0 (Nat.le_of_ble_eq_true rfl) (List.mem_of_getElem? (i := 1) rfl) rfl dX7_ledger_20 ?_
    refine lv_if_le (pc := 23) (tgt := 28) hx hb dX7_ledger_23 (by decide) (fun _ => ?_) (fun h => absurd h (by decide))
    refine lv_iload_n (pc := 28) hx hb dX7_ledger_28 rfl (lv_at hl 1 rfl) ?_
    refine lv_iconst (pc := 29) (v := 1) hx hb dX7_ledger_29 (by decide) ?_
    refine lv_icmp_ne (pc := 30) (tgt := 40) hx hb dX7_ledger_30 (by decide) (fun c_3 : ¬ p0 = 1 => ?_) (fun c_3 : p0 = 1 => ?_)
    · refine lv_iload_n (pc := 40) hx hb dX7_ledger_40 rfl (lv_at hl 1 rfl) ?_
      refine lv_iconst (pc := 41) (v := 2) hx hb dX7_ledger_41 (by decide) ?_
      refine lv_icmp_ne (pc := 42) (tgt := 52) hx hb dX7_ledger_42 (by decide) (fun c_4 : ¬ p0 = 2 => ?_) (fun c_4 : p0 = 2 => ?_)
      · refine lv_iload_n (pc := 52) hx hb dX7_ledger_52 rfl (lv_at hl 1 rfl) ?_
        refine lv_iconst (pc := 53) (v := 3) hx hb dX7_ledger_53 (by decide) ?_
        refine lv_icmp_ne (pc := 54) (tgt := 64) hx hb dX7_ledger_54 (by decide) (fun c_5 : ¬ p0 = 3 => ?_) (fun c_5 : p0 = 3 => ?_)
        · refine lv_aload_n (pc := 64) hx hb dX7_ledger_64 rfl (lv_at hl 0 rfl) ?_
          refine M_get (pc := 65) (v := .ref (as 10)) X P 10 (Nat.le_of_ble_eq_true rfl) (List.mem_of_getElem? (i := 2) rfl) rfl dX7_ledger_65 ?_
          refine lv_iload_n (pc := 68) hx hb dX7_ledger_68 rfl (lv_at hl 1 rfl) ?_
          refine M_ald (pc := 69) (a := as 10) (n := 8) (f := σ.2 10) X P 6 rfl hv_2 dX7_ledger_69 ?_
          exact M_ret (pc := 70) (v := σ.2 10 (ix p0)) X P (by rw [m_ledger, if_neg c_1, if_neg c_3, if_neg c_4, if_neg c_5]) dX7_ledger_70
        · refine lv_aload_n (pc := 57) hx hb dX7_ledger_57 rfl (lv_at hl 0 rfl) ?_
          refine M_calli (pc := 58) (As := []) (rest := []) (f := (0, m_inLots σ, σ)) X P hl.1 (kX7_inLots l D cI m0 as 0 σ h2) fnX7_inLots rfl gX7_ledger_X7_inLots rfl rfl ⟨Nat.le_of_ble_eq_true rfl, Nat.le_of_ble_eq_true rfl⟩ (Nat.le_of_ble_eq_true rfl) ⟨Nat.le_of_ble_eq_true rfl, Nat.le_of_ble_eq_true rfl⟩ dX7_ledger_58 (fun H locs (P : Hp D A s (M_W cI m0 as 0 σ) H locs) => ?_)
          refine lv_goto (pc := 61) (tgt := 70) hx hb dX7_ledger_61 (by decide) ?_
          exact M_ret (pc := 70) (v := m_inLots σ) X P (by rw [m_ledger, if_neg c_1, if_neg c_3, if_neg c_4, if_pos c_5]) dX7_ledger_70
      · refine lv_aload_n (pc := 45) hx hb dX7_ledger_45 rfl (lv_at hl 0 rfl) ?_
        refine M_calli (pc := 46) (As := []) (rest := []) (f := (0, m_moving σ, σ)) X P hl.1 (kX7_moving l D cI m0 as 0 σ h1) fnX7_moving rfl gX7_ledger_X7_moving rfl rfl ⟨Nat.le_of_ble_eq_true rfl, Nat.le_of_ble_eq_true rfl⟩ (Nat.le_of_ble_eq_true rfl) ⟨Nat.le_of_ble_eq_true rfl, Nat.le_of_ble_eq_true rfl⟩ dX7_ledger_46 (fun H locs (P : Hp D A s (M_W cI m0 as 0 σ) H locs) => ?_)
        refine lv_goto (pc := 49) (tgt := 70) hx hb dX7_ledger_49 (by decide) ?_
        exact M_ret (pc := 70) (v := m_moving σ) X P (by rw [m_ledger, if_neg c_1, if_neg c_3, if_pos c_4]) dX7_ledger_70
    · refine lv_aload_n (pc := 33) hx hb dX7_ledger_33 rfl (lv_at hl 0 rfl) ?_
      refine M_calli (pc := 34) (As := []) (rest := []) (f := (0, m_inVessels σ, σ)) X P hl.1 (kX7_inVessels l D cI m0 as 0 σ h0) fnX7_inVessels rfl gX7_ledger_X7_inVessels rfl rfl ⟨Nat.le_of_ble_eq_true rfl, Nat.le_of_ble_eq_true rfl⟩ (Nat.le_of_ble_eq_true rfl) ⟨Nat.le_of_ble_eq_true rfl, Nat.le_of_ble_eq_true rfl⟩ dX7_ledger_34 (fun H locs (P : Hp D A s (M_W cI m0 as 0 σ) H locs) => ?_)
      refine lv_goto (pc := 37) (tgt := 70) hx hb dX7_ledger_37 (by decide) ?_
      exact M_ret (pc := 70) (v := m_inVessels σ) X P (by rw [m_ledger, if_neg c_1, if_pos c_3]) dX7_ledger_70
def m_duty (σ : Sg) (p0 : Int32) : Int32 × Int32 × Sg := if (m_in p0 0 5) = 0 then (1, 0, σ) else if p0 = 0 then (0, σ.1 12, σ) else if p0 = 1 then (0, σ.1 11, σ) else if p0 = 2 then (if (σ.1 13) = (-1) then (0, (-1), σ) else (0, σ.1 15, σ)) else if p0 = 3 then (0, 1000000 - (σ.1 16), σ) else if p0 = 4 then (0, σ.1 17, σ) else (0, (σ.1 21) - (m_dutyFor σ (m_moving σ) (σ.1 11)), σ)
abbrev rX7_duty : Room := { frames := 1, cells := 0, slots := 0, locals := 22 }
theorem fnX7_duty : Fn yX7_duty wsX7_duty cX7_duty 2 (some .int) 1 rX7_duty 0 0 := ⟨⟨_, rfl⟩, rfl, rfl, by decide +kernel⟩
theorem inX7_duty : ∀ w ∈ wsX70, w ∈ wsX7_duty := fun w h => List.mem_cons_of_mem _ (List.mem_append_right _ h)
set_option maxHeartbeats 4000000 in
set_option maxRecDepth 100000 in
theorem kX7_duty (l : Launch) (D : va_G) (cI : ClassId) (m0 : Nat) (as : Nat → Nat) (th : Int32) (σ : Sg) (p0 : Int32) (h1 : Cnt σ 22 30) : M_Mi l yX7_duty wsX7_duty rX7_duty D cI m0 as th σ [.int p0] (m_duty σ p0) := by
  refine M_body (n := 1) (Qc := fun A => M_Qi D cI m0 as (m_duty σ p0) A) rfl fnX7_duty inX7_duty (Nat.le_of_ble_eq_true rfl) ?_
  intro p e s m args below meth c X A P ls hl
  have hx := X.1.1
  have hb := X.1.2.1
  have hown := X.1.2.2.2.1
  have hts := X.1.2.2.2.2.1
  have hl : lv_has ls 2 [(0, .ref m0), (1, .int p0)] := hl
  refine lv_aload_n (pc := 0) hx hb dX7_duty_0 rfl (lv_at hl 0 rfl) ?_
  refine lv_iload_n (pc := 1) hx hb dX7_duty_1 rfl (lv_at hl 1 rfl) ?_
  refine lv_iconst (pc := 2) (v := 0) hx hb dX7_duty_2 (by decide) ?_
  refine lv_iconst (pc := 3) (v := 5) hx hb dX7_duty_3 (by decide) ?_
  refine S_call (pc := 4) (As := [.int p0, .int 0, .int 5]) (rest := [.ref m0]) (r := m_in p0 0 5) X.1 hl.1 (kX7_in l p0 0 5) fnX7_in gX7_duty_X7_in rfl rfl ⟨Nat.le_of_ble_eq_true rfl, Nat.le_of_ble_eq_true rfl⟩ (Nat.le_of_ble_eq_true rfl) ⟨Nat.le_of_ble_eq_true rfl, Nat.le_of_ble_eq_true rfl⟩ dX7_duty_4 ?_
  refine lv_if_eq (pc := 7) (tgt := 14) hx hb dX7_duty_7 (by decide) (fun c_1 : (m_in p0 0 5) = 0 => ?_) (fun c_1 : ¬ (m_in p0 0 5) = 0 => ?_)
  · refine lv_iconst (pc := 14) (v := 1) hx hb dX7_duty_14 (by decide) ?_
    refine M_putT (pc := 15) (v := 1) X P (List.mem_of_getElem? (i := 1) rfl) dX7_duty_15 (fun H locs (P : Hp D A s (M_W cI m0 as 1 σ) H locs) => ?_)
    refine lv_aload_n (pc := 18) hx hb dX7_duty_18 rfl (lv_at hl 0 rfl) ?_
    refine M_get (pc := 19) (v := .int 1) X P 0 (Nat.le_of_ble_eq_true rfl) (List.mem_of_getElem? (i := 1) rfl) rfl dX7_duty_19 ?_
    refine lv_if_le (pc := 22) (tgt := 27) hx hb dX7_duty_22 (by decide) (fun h => absurd h (by decide)) (fun _ => ?_)
    refine lv_iconst (pc := 25) (v := 0) hx hb dX7_duty_25 (by decide) ?_
    exact M_ret (pc := 26) (v := 0) X P (by rw [m_duty, if_pos c_1]) dX7_duty_26
  · have hv_2 : vp_in p0 6 := in_vp (by decide) c_1
    refine lv_iconst (pc := 10) (v := 0) hx hb dX7_duty_10 (by decide) ?_
    refine lv_goto (pc := 11) (tgt := 15) hx hb dX7_duty_11 (by decide) ?_
    refine M_putT (pc := 15) (v := 0) X P (List.mem_of_getElem? (i := 1) rfl) dX7_duty_15 (fun H locs (P : Hp D A s (M_W cI m0 as 0 σ) H locs) => ?_)
    refine lv_aload_n (pc := 18) hx hb dX7_duty_18 rfl (lv_at hl 0 rfl) ?_
    refine M_get (pc := 19) (v := .int 0) X P 0 (Nat.le_of_ble_eq_true rfl) (List.mem_of_getElem? (i := 1) rfl) rfl dX7_duty_19 ?_
    refine lv_if_le (pc := 22) (tgt := 27) hx hb dX7_duty_22 (by decide) (fun _ => ?_) (fun h => absurd h (by decide))
    refine lv_iload_n (pc := 27) hx hb dX7_duty_27 rfl (lv_at hl 1 rfl) ?_
    rcases Classical.em (p0 = 0) with c_3 | c_3
    · refine lv_tableIn (pc := 28) (tgt := 64) hx hb dX7_duty_28 (by rw [c_3]; decide) (by rw [c_3]; decide) (by rw [c_3]; rfl) (by decide) ?_
      refine lv_aload_n (pc := 64) hx hb dX7_duty_64 rfl (lv_at hl 0 rfl) ?_
      refine M_get (pc := 65) (v := .int (σ.1 12)) X P 12 (Nat.le_of_ble_eq_true rfl) (List.mem_of_getElem? (i := 2) rfl) rfl dX7_duty_65 ?_
      exact M_ret (pc := 68) (v := σ.1 12) X P (by rw [m_duty, if_neg c_1, if_pos c_3]) dX7_duty_68
    · rcases Classical.em (p0 = 1) with c_4 | c_4
      · refine lv_tableIn (pc := 28) (tgt := 69) hx hb dX7_duty_28 (by rw [c_4]; decide) (by rw [c_4]; decide) (by rw [c_4]; rfl) (by decide) ?_
        refine lv_aload_n (pc := 69) hx hb dX7_duty_69 rfl (lv_at hl 0 rfl) ?_
        refine M_get (pc := 70) (v := .int (σ.1 11)) X P 11 (Nat.le_of_ble_eq_true rfl) (List.mem_of_getElem? (i := 3) rfl) rfl dX7_duty_70 ?_
        exact M_ret (pc := 73) (v := σ.1 11) X P (by rw [m_duty, if_neg c_1, if_neg c_3, if_pos c_4]) dX7_duty_73
      · rcases Classical.em (p0 = 2) with c_5 | c_5
        · refine lv_tableIn (pc := 28) (tgt := 74) hx hb dX7_duty_28 (by rw [c_5]; decide) (by rw [c_5]; decide) (by rw [c_5]; rfl) (by decide) ?_
          refine lv_aload_n (pc := 74) hx hb dX7_duty_74 rfl (lv_at hl 0 rfl) ?_
          refine M_get (pc := 75) (v := .int (σ.1 13)) X P 13 (Nat.le_of_ble_eq_true rfl) (List.mem_of_getElem? (i := 4) rfl) rfl dX7_duty_75 ?_
          refine lv_iconst (pc := 78) (v := (-1)) hx hb dX7_duty_78 (by decide) ?_
          refine lv_icmp_ne (pc := 79) (tgt := 86) hx hb dX7_duty_79 (by decide) (fun c_6 : ¬ (σ.1 13) = (-1) => ?_) (fun c_6 : (σ.1 13) = (-1) => ?_)
          · refine lv_aload_n (pc := 86) hx hb dX7_duty_86 rfl (lv_at hl 0 rfl) ?_
            refine M_get (pc := 87) (v := .int (σ.1 15)) X P 15 (Nat.le_of_ble_eq_true rfl) (List.mem_of_getElem? (i := 5) rfl) rfl dX7_duty_87 ?_
            exact M_ret (pc := 90) (v := σ.1 15) X P (by rw [m_duty, if_neg c_1, if_neg c_3, if_neg c_4, if_pos c_5, if_neg c_6]) dX7_duty_90
          · refine lv_iconst (pc := 82) (v := (-1)) hx hb dX7_duty_82 (by decide) ?_
            refine lv_goto (pc := 83) (tgt := 90) hx hb dX7_duty_83 (by decide) ?_
            exact M_ret (pc := 90) (v := (-1)) X P (by rw [m_duty, if_neg c_1, if_neg c_3, if_neg c_4, if_pos c_5, if_pos c_6]) dX7_duty_90
        · rcases Classical.em (p0 = 3) with c_7 | c_7
          · refine lv_tableIn (pc := 28) (tgt := 91) hx hb dX7_duty_28 (by rw [c_7]; decide) (by rw [c_7]; decide) (by rw [c_7]; rfl) (by decide) ?_
            refine lv_ldc (pc := 91) (v := 1000000) hx hb hown (hts _ (List.mem_of_getElem? (i := 6) rfl)) dX7_duty_91 ?_
            refine lv_aload_n (pc := 93) hx hb dX7_duty_93 rfl (lv_at hl 0 rfl) ?_
            refine M_get (pc := 94) (v := .int (σ.1 16)) X P 16 (Nat.le_of_ble_eq_true rfl) (List.mem_of_getElem? (i := 7) rfl) rfl dX7_duty_94 ?_
            refine lv_isub (pc := 97) hx hb dX7_duty_97 ?_
            exact M_ret (pc := 98) (v := 1000000 - (σ.1 16)) X P (by rw [m_duty, if_neg c_1, if_neg c_3, if_neg c_4, if_neg c_5, if_pos c_7]) dX7_duty_98
          · rcases Classical.em (p0 = 4) with c_8 | c_8
            · refine lv_tableIn (pc := 28) (tgt := 99) hx hb dX7_duty_28 (by rw [c_8]; decide) (by rw [c_8]; decide) (by rw [c_8]; rfl) (by decide) ?_
              refine lv_aload_n (pc := 99) hx hb dX7_duty_99 rfl (lv_at hl 0 rfl) ?_
              refine M_get (pc := 100) (v := .int (σ.1 17)) X P 17 (Nat.le_of_ble_eq_true rfl) (List.mem_of_getElem? (i := 8) rfl) rfl dX7_duty_100 ?_
              exact M_ret (pc := 103) (v := σ.1 17) X P (by rw [m_duty, if_neg c_1, if_neg c_3, if_neg c_4, if_neg c_5, if_neg c_7, if_pos c_8]) dX7_duty_103
            · refine lv_tableOut (pc := 28) (tgt := 104) hx hb dX7_duty_28 (tsw_out 5 p0 (by decide) (by intro k hk; match k, hk with | 0, _ => exact c_3 | 1, _ => exact c_4 | 2, _ => exact c_5 | 3, _ => exact c_7 | 4, _ => exact c_8 | n + 5, hk => exact absurd hk (by omega))) (by decide) ?_
              refine lv_aload_n (pc := 104) hx hb dX7_duty_104 rfl (lv_at hl 0 rfl) ?_
              refine M_get (pc := 105) (v := .int (σ.1 21)) X P 21 (Nat.le_of_ble_eq_true rfl) (List.mem_of_getElem? (i := 9) rfl) rfl dX7_duty_105 ?_
              refine lv_aload_n (pc := 108) hx hb dX7_duty_108 rfl (lv_at hl 0 rfl) ?_
              refine lv_aload_n (pc := 109) hx hb dX7_duty_109 rfl (lv_at hl 0 rfl) ?_
              refine M_calli (pc := 110) (As := []) (rest := [.ref m0, .int (σ.1 21)]) (f := (0, m_moving σ, σ)) X P hl.1 (kX7_moving l D cI m0 as 0 σ h1) fnX7_moving rfl gX7_duty_X7_moving rfl rfl ⟨Nat.le_of_ble_eq_true rfl, Nat.le_of_ble_eq_true rfl⟩ (Nat.le_of_ble_eq_true rfl) ⟨Nat.le_of_ble_eq_true rfl, Nat.le_of_ble_eq_true rfl⟩ dX7_duty_110 (fun H locs (P : Hp D A s (M_W cI m0 as 0 σ) H locs) => ?_)
              refine lv_aload_n (pc := 113) hx hb dX7_duty_113 rfl (lv_at hl 0 rfl) ?_
              refine M_get (pc := 114) (v := .int (σ.1 11)) X P 11 (Nat.le_of_ble_eq_true rfl) (List.mem_of_getElem? (i := 3) rfl) rfl dX7_duty_114 ?_
              refine M_calli (pc := 117) (As := [.int (m_moving σ), .int (σ.1 11)]) (rest := [.int (σ.1 21)]) (f := (0, m_dutyFor σ (m_moving σ) (σ.1 11), σ)) X P hl.1 (kX7_dutyFor l D cI m0 as 0 σ (m_moving σ) (σ.1 11)) fnX7_dutyFor rfl gX7_duty_X7_dutyFor rfl rfl ⟨Nat.le_of_ble_eq_true rfl, Nat.le_of_ble_eq_true rfl⟩ (Nat.le_of_ble_eq_true rfl) ⟨Nat.le_of_ble_eq_true rfl, Nat.le_of_ble_eq_true rfl⟩ dX7_duty_117 (fun H locs (P : Hp D A s (M_W cI m0 as 0 σ) H locs) => ?_)
              refine lv_isub (pc := 120) hx hb dX7_duty_120 ?_
              exact M_ret (pc := 121) (v := (σ.1 21) - (m_dutyFor σ (m_moving σ) (σ.1 11))) X P (by rw [m_duty, if_neg c_1, if_neg c_3, if_neg c_4, if_neg c_5, if_neg c_7, if_neg c_8]) dX7_duty_121
def ex_some (left : Int32) (σ : Sg) (k : Nat) : Int32 := m_least left (σ.2 19 k)
def ex_its (left : Int32) (σ : Sg) (k : Nat) : Int32 := if m_least left (σ.2 19 k) = 0 then 0 else m_part (σ.2 20 k) (m_least left (σ.2 19 k)) (σ.2 19 k)
def ex_s (left : Int32) (σ : Sg) (k : Nat) : Sg := bs (bs σ 19 k (σ.2 19 k - ex_some left σ k)) 20 k (σ.2 20 k - ex_its left σ k)
def exl : Nat → Nat → Int32 → Int32 → Sg → Int32 × Sg
  | 0, _, _, back, σ => (back, σ)
  | n + 1, k, left, back, σ => if left ≤ 0 then (back, σ) else exl n (k + 1) (left - ex_some left σ k) (back + ex_its left σ k) (ex_s left σ k)
theorem exl_s (n k : Nat) (left back : Int32) (σ : Sg) : exl (n + 1) k left back σ = if left ≤ 0 then (back, σ) else exl n (k + 1) (left - ex_some left σ k) (back + ex_its left σ k) (ex_s left σ k) := rfl
def m_export (σ : Sg) (p0 : Int32) : Int32 × Int32 × Sg := if 1 ≤ p0 then (if p0 ≤ m_inLots σ then (0, (exl (ix (σ.1 18)) 0 p0 0 σ).1, zs (bs (exl (ix (σ.1 18)) 0 p0 0 σ).2 10 6 ((exl (ix (σ.1 18)) 0 p0 0 σ).2.2 10 6 + p0)) 12 ((exl (ix (σ.1 18)) 0 p0 0 σ).2.1 12 - (exl (ix (σ.1 18)) 0 p0 0 σ).1)) else (2, 0, σ)) else (1, 0, σ)
abbrev rX7_export : Room := { frames := 1, cells := 0, slots := 0, locals := 22 }
theorem fnX7_export : Fn yX7_export wsX7_export cX7_export 7 (some .int) 1 rX7_export 0 0 := ⟨⟨_, rfl⟩, rfl, rfl, by decide +kernel⟩
theorem inX7_export : ∀ w ∈ wsX70, w ∈ wsX7_export := fun w h => List.mem_cons_of_mem _ (List.mem_append_right _ h)
set_option maxHeartbeats 4000000 in
set_option maxRecDepth 100000 in
theorem kX7_export (l : Launch) (D : va_G) (cI : ClassId) (m0 : Nat) (as : Nat → Nat) (th : Int32) (σ : Sg) (p0 : Int32) (h2 : Cnt σ 18 100) : M_Mi l yX7_export wsX7_export rX7_export D cI m0 as th σ [.int p0] (m_export σ p0) := by
  refine M_body (n := 1) (Qc := fun A => M_Qi D cI m0 as (m_export σ p0) A) rfl fnX7_export inX7_export (Nat.le_of_ble_eq_true rfl) ?_
  intro p e s m args below meth c X A P ls hl
  have hx := X.1.1
  have hb := X.1.2.1
  have hown := X.1.2.2.2.1
  have hts := X.1.2.2.2.2.1
  have hl : lv_has ls 7 [(0, .ref m0), (1, .int p0)] := hl
  refine lv_aload_n (pc := 0) hx hb dX7_export_0 rfl (lv_at hl 0 rfl) ?_
  refine lv_iload_n (pc := 1) hx hb dX7_export_1 rfl (lv_at hl 1 rfl) ?_
  refine lv_iconst (pc := 2) (v := 1) hx hb dX7_export_2 (by decide) ?_
  refine lv_icmp_ge (pc := 3) (tgt := 10) hx hb dX7_export_3 (by decide) (fun c_1 : 1 ≤ p0 => ?_) (fun c_1 : ¬ 1 ≤ p0 => ?_)
  · refine lv_iload_n (pc := 10) hx hb dX7_export_10 rfl (lv_at hl 1 rfl) ?_
    refine lv_aload_n (pc := 11) hx hb dX7_export_11 rfl (lv_at hl 0 rfl) ?_
    refine M_calli (pc := 12) (As := []) (rest := [.int p0, .ref m0]) (f := (th, m_inLots σ, σ)) X P hl.1 (kX7_inLots l D cI m0 as th σ h2) fnX7_inLots rfl gX7_export_X7_inLots rfl rfl ⟨Nat.le_of_ble_eq_true rfl, Nat.le_of_ble_eq_true rfl⟩ (Nat.le_of_ble_eq_true rfl) ⟨Nat.le_of_ble_eq_true rfl, Nat.le_of_ble_eq_true rfl⟩ dX7_export_12 (fun H locs (P : Hp D A s (M_W cI m0 as th σ) H locs) => ?_)
    refine lv_icmp_le (pc := 15) (tgt := 22) hx hb dX7_export_15 (by decide) (fun c_2 : p0 ≤ (m_inLots σ) => ?_) (fun c_2 : ¬ p0 ≤ (m_inLots σ) => ?_)
    · refine lv_iconst (pc := 22) (v := 0) hx hb dX7_export_22 (by decide) ?_
      refine M_putT (pc := 23) (v := 0) X P (List.mem_of_getElem? (i := 1) rfl) dX7_export_23 (fun H locs (P : Hp D A s (M_W cI m0 as 0 σ) H locs) => ?_)
      refine lv_aload_n (pc := 26) hx hb dX7_export_26 rfl (lv_at hl 0 rfl) ?_
      refine M_get (pc := 27) (v := .int 0) X P 0 (Nat.le_of_ble_eq_true rfl) (List.mem_of_getElem? (i := 1) rfl) rfl dX7_export_27 ?_
      refine lv_if_le (pc := 30) (tgt := 35) hx hb dX7_export_30 (by decide) (fun _ => ?_) (fun h => absurd h (by decide))
      refine lv_iload_n (pc := 35) hx hb dX7_export_35 rfl (lv_at hl 1 rfl) ?_
      refine lv_istore_n (pc := 36) (lv' := [(2, .int p0), (0, .ref m0), (1, .int p0)]) hx hb dX7_export_36 rfl hl (by decide) rfl (fun ls hl => ?_)
      refine lv_iconst (pc := 37) (v := 0) hx hb dX7_export_37 (by decide) ?_
      refine lv_istore_n (pc := 38) (lv' := [(3, .int 0), (2, .int p0), (0, .ref m0), (1, .int p0)]) hx hb dX7_export_38 rfl hl (by decide) rfl (fun ls hl => ?_)
      refine lv_iconst (pc := 39) (v := 0) hx hb dX7_export_39 (by decide) ?_
      refine lv_istore (pc := 40) (lv' := [(4, .int 0), (3, .int 0), (2, .int p0), (0, .ref m0), (1, .int p0)]) hx hb dX7_export_40 hl (by decide) rfl (fun ls hl => ?_)
      have loop : ∀ (n k : Nat) (left back : Int32) (σk : Sg), Cnt σk 18 100 → k ≤ ix (σk.1 18) → ix (σk.1 18) < k + n → exl (ix (σk.1 18) - k) k left back σk = exl (ix (σ.1 18)) 0 p0 0 σ → ∀ (H : Heap) (locs : List Loc) (P : Hp D A s (M_W cI m0 as 0 σk) H locs) (ls : Array Slot), lv_has ls 7 [(4, .int (nI k)), (3, .int back), (2, .int left), (1, .int p0), (0, .ref m0)] → W p l e rX7_export s m args below meth c H locs 0 0 (MQ below (M_Qi D cI m0 as (m_export σ p0) A) args s 0 0 A) (F0 m 42 ls []) := by
        intro n
        induction n with
        | zero => intro k left back σk h0 h1 h3; exact absurd h3 (by omega)
        | succ n ih =>
          intro k left back σk h0 h1 h3 hX H locs P ls hl
          refine lv_iload (pc := 42) hx hb dX7_export_42 (lv_at hl 0 rfl) ?_
          refine lv_aload_n (pc := 44) hx hb dX7_export_44 rfl (lv_at hl 4 rfl) ?_
          refine M_get (pc := 45) (v := .int (σk.1 18)) X P 18 (Nat.le_of_ble_eq_true rfl) (List.mem_of_getElem? (i := 2) rfl) rfl dX7_export_45 ?_
          refine lv_icmp_ge (pc := 48) (tgt := 138) hx hb dX7_export_48 (by decide) (fun c_3 : (σk.1 18) ≤ (nI k) => ?_) (fun c_3 : ¬ (σk.1 18) ≤ (nI k) => ?_)
          · have e_k_4 : k = ix (σk.1 18) := lp_end h0 c_3 h1
            have e_x_5 : exl (ix (σ.1 18)) 0 p0 0 σ = (back, σk) := by rw [← hX, ← e_k_4, Nat.sub_self, exl]
            refine lv_aload_n (pc := 138) hx hb dX7_export_138 rfl (lv_at hl 4 rfl) ?_
            refine M_get (pc := 139) (v := .ref (as 10)) X P 10 (Nat.le_of_ble_eq_true rfl) (List.mem_of_getElem? (i := 5) rfl) rfl dX7_export_139 ?_
            refine lv_bipush (pc := 142) (v := 6) hx hb dX7_export_142 (by decide) ?_
            refine lv_dup2_11 (pc := 144) hx hb dX7_export_144 rfl rfl ?_
            refine M_ald (pc := 145) (a := as 10) (n := 8) (f := σk.2 10) X P 6 rfl (vp_dec (by decide)) dX7_export_145 ?_
            refine lv_iload_n (pc := 146) hx hb dX7_export_146 rfl (lv_at hl 3 rfl) ?_
            refine lv_iadd (pc := 147) hx hb dX7_export_147 ?_
            refine M_ast (pc := 148) (x := (σk.2 10 6) + p0) (n := 8) X P 6 10 rfl (vp_dec (by decide)) M_a10 dX7_export_148 (fun H locs (P : Hp D A s (M_W cI m0 as 0 (bs σk 10 6 ((σk.2 10 6) + p0))) H locs) => ?_)
            refine lv_aload_n (pc := 149) hx hb dX7_export_149 rfl (lv_at hl 4 rfl) ?_
            refine lv_dup (pc := 150) hx hb dX7_export_150 rfl ?_
            refine M_get (pc := 151) (v := .int (σk.1 12)) X P 12 (Nat.le_of_ble_eq_true rfl) (List.mem_of_getElem? (i := 6) rfl) rfl dX7_export_151 ?_
            refine lv_iload_n (pc := 154) hx hb dX7_export_154 rfl (lv_at hl 1 rfl) ?_
            refine lv_isub (pc := 155) hx hb dX7_export_155 ?_
            refine M_putS (pc := 156) (v := (σk.1 12) - back) X P 12 (Nat.le_of_ble_eq_true rfl) (List.mem_of_getElem? (i := 6) rfl) rfl rfl M_s12 dX7_export_156 (fun H locs (P : Hp D A s (M_W cI m0 as 0 (zs (bs σk 10 6 ((σk.2 10 6) + p0)) 12 ((σk.1 12) - back))) H locs) => ?_)
            refine lv_iload_n (pc := 159) hx hb dX7_export_159 rfl (lv_at hl 1 rfl) ?_
            exact M_ret (pc := 160) (v := back) X P (by rw [m_export, if_pos c_1, if_pos c_2, e_x_5]) dX7_export_160
          · have hk_6 : k < ix (σk.1 18) := lp_in h0 c_3 h1
            have hk_7 : k < 100 := Nat.lt_of_lt_of_le (lp_in h0 c_3 h1) h0.2
            have e_n_8 : ix (σk.1 18) - k = (ix (σk.1 18) - (k + 1)) + 1 := by have := lp_in h0 c_3 h1; omega
            refine lv_iload_n (pc := 51) hx hb dX7_export_51 rfl (lv_at hl 2 rfl) ?_
            refine lv_if_le (pc := 52) (tgt := 138) hx hb dX7_export_52 (by decide) (fun c_9 : left ≤ 0 => ?_) (fun c_9 : ¬ left ≤ 0 => ?_)
            · have e_x_10 : exl (ix (σ.1 18)) 0 p0 0 σ = (back, σk) := by rw [← hX, e_n_8, exl_s, if_pos c_9]
              refine lv_aload_n (pc := 138) hx hb dX7_export_138 rfl (lv_at hl 4 rfl) ?_
              refine M_get (pc := 139) (v := .ref (as 10)) X P 10 (Nat.le_of_ble_eq_true rfl) (List.mem_of_getElem? (i := 5) rfl) rfl dX7_export_139 ?_
              refine lv_bipush (pc := 142) (v := 6) hx hb dX7_export_142 (by decide) ?_
              refine lv_dup2_11 (pc := 144) hx hb dX7_export_144 rfl rfl ?_
              refine M_ald (pc := 145) (a := as 10) (n := 8) (f := σk.2 10) X P 6 rfl (vp_dec (by decide)) dX7_export_145 ?_
              refine lv_iload_n (pc := 146) hx hb dX7_export_146 rfl (lv_at hl 3 rfl) ?_
              refine lv_iadd (pc := 147) hx hb dX7_export_147 ?_
              refine M_ast (pc := 148) (x := (σk.2 10 6) + p0) (n := 8) X P 6 10 rfl (vp_dec (by decide)) M_a10 dX7_export_148 (fun H locs (P : Hp D A s (M_W cI m0 as 0 (bs σk 10 6 ((σk.2 10 6) + p0))) H locs) => ?_)
              refine lv_aload_n (pc := 149) hx hb dX7_export_149 rfl (lv_at hl 4 rfl) ?_
              refine lv_dup (pc := 150) hx hb dX7_export_150 rfl ?_
              refine M_get (pc := 151) (v := .int (σk.1 12)) X P 12 (Nat.le_of_ble_eq_true rfl) (List.mem_of_getElem? (i := 6) rfl) rfl dX7_export_151 ?_
              refine lv_iload_n (pc := 154) hx hb dX7_export_154 rfl (lv_at hl 1 rfl) ?_
              refine lv_isub (pc := 155) hx hb dX7_export_155 ?_
              refine M_putS (pc := 156) (v := (σk.1 12) - back) X P 12 (Nat.le_of_ble_eq_true rfl) (List.mem_of_getElem? (i := 6) rfl) rfl rfl M_s12 dX7_export_156 (fun H locs (P : Hp D A s (M_W cI m0 as 0 (zs (bs σk 10 6 ((σk.2 10 6) + p0)) 12 ((σk.1 12) - back))) H locs) => ?_)
              refine lv_iload_n (pc := 159) hx hb dX7_export_159 rfl (lv_at hl 1 rfl) ?_
              exact M_ret (pc := 160) (v := back) X P (by rw [m_export, if_pos c_1, if_pos c_2, e_x_10]) dX7_export_160
            · have hX_11 : exl (ix (σk.1 18) - (k + 1)) (k + 1) (left - ex_some left σk k) (back + ex_its left σk k) (ex_s left σk k) = exl (ix (σ.1 18)) 0 p0 0 σ := by rw [← hX, e_n_8, exl_s, if_neg c_9]
              refine lv_iload_n (pc := 55) hx hb dX7_export_55 rfl (lv_at hl 2 rfl) ?_
              refine lv_aload_n (pc := 56) hx hb dX7_export_56 rfl (lv_at hl 4 rfl) ?_
              refine M_get (pc := 57) (v := .ref (as 19)) X P 19 (Nat.le_of_ble_eq_true rfl) (List.mem_of_getElem? (i := 3) rfl) rfl dX7_export_57 ?_
              refine lv_iload (pc := 60) hx hb dX7_export_60 (lv_at hl 0 rfl) ?_
              refine M_aldN (pc := 62) (a := as 19) (n := 100) (f := σk.2 19) X P 7 rfl (k := k) hk_7 (by decide) dX7_export_62 ?_
              refine S_call (pc := 63) (As := [.int left, .int (σk.2 19 k)]) (rest := []) (r := m_least left (σk.2 19 k)) X.1 hl.1 (kX7_least l left (σk.2 19 k)) fnX7_least gX7_export_X7_least rfl rfl ⟨Nat.le_of_ble_eq_true rfl, Nat.le_of_ble_eq_true rfl⟩ (Nat.le_of_ble_eq_true rfl) ⟨Nat.le_of_ble_eq_true rfl, Nat.le_of_ble_eq_true rfl⟩ dX7_export_63 ?_
              refine lv_istore (pc := 66) (lv' := [(5, .int (m_least left (σk.2 19 k))), (4, .int (nI k)), (3, .int back), (2, .int left), (1, .int p0), (0, .ref m0)]) hx hb dX7_export_66 hl (by decide) rfl (fun ls hl => ?_)
              refine lv_iload (pc := 68) hx hb dX7_export_68 (lv_at hl 0 rfl) ?_
              refine lv_if_ne (pc := 70) (tgt := 77) hx hb dX7_export_70 (by decide) (fun c_12 : ¬ (m_least left (σk.2 19 k)) = 0 => ?_) (fun c_12 : (m_least left (σk.2 19 k)) = 0 => ?_)
              · have hw_13 : ¬ σk.2 19 k = 0 := least_ne c_9 c_12
                refine lv_aload_n (pc := 77) hx hb dX7_export_77 rfl (lv_at hl 5 rfl) ?_
                refine M_get (pc := 78) (v := .ref (as 20)) X P 20 (Nat.le_of_ble_eq_true rfl) (List.mem_of_getElem? (i := 4) rfl) rfl dX7_export_78 ?_
                refine lv_iload (pc := 81) hx hb dX7_export_81 (lv_at hl 1 rfl) ?_
                refine M_aldN (pc := 83) (a := as 20) (n := 100) (f := σk.2 20) X P 8 rfl (k := k) hk_7 (by decide) dX7_export_83 ?_
                refine lv_iload (pc := 84) hx hb dX7_export_84 (lv_at hl 0 rfl) ?_
                refine lv_aload_n (pc := 86) hx hb dX7_export_86 rfl (lv_at hl 5 rfl) ?_
                refine M_get (pc := 87) (v := .ref (as 19)) X P 19 (Nat.le_of_ble_eq_true rfl) (List.mem_of_getElem? (i := 3) rfl) rfl dX7_export_87 ?_
                refine lv_iload (pc := 90) hx hb dX7_export_90 (lv_at hl 1 rfl) ?_
                refine M_aldN (pc := 92) (a := as 19) (n := 100) (f := σk.2 19) X P 7 rfl (k := k) hk_7 (by decide) dX7_export_92 ?_
                refine S_call (pc := 93) (As := [.int (σk.2 20 k), .int (m_least left (σk.2 19 k)), .int (σk.2 19 k)]) (rest := []) (r := m_part (σk.2 20 k) (m_least left (σk.2 19 k)) (σk.2 19 k)) X.1 hl.1 (kX7_part l (σk.2 20 k) (m_least left (σk.2 19 k)) (σk.2 19 k) hw_13) fnX7_part gX7_export_X7_part rfl rfl ⟨Nat.le_of_ble_eq_true rfl, Nat.le_of_ble_eq_true rfl⟩ (Nat.le_of_ble_eq_true rfl) ⟨Nat.le_of_ble_eq_true rfl, Nat.le_of_ble_eq_true rfl⟩ dX7_export_93 ?_
                refine lv_istore (pc := 96) (lv' := [(6, .int (m_part (σk.2 20 k) (m_least left (σk.2 19 k)) (σk.2 19 k))), (5, .int (m_least left (σk.2 19 k))), (4, .int (nI k)), (3, .int back), (2, .int left), (1, .int p0), (0, .ref m0)]) hx hb dX7_export_96 hl (by decide) rfl (fun ls hl => ?_)
                refine lv_aload_n (pc := 98) hx hb dX7_export_98 rfl (lv_at hl 6 rfl) ?_
                refine M_get (pc := 99) (v := .ref (as 19)) X P 19 (Nat.le_of_ble_eq_true rfl) (List.mem_of_getElem? (i := 3) rfl) rfl dX7_export_99 ?_
                refine lv_iload (pc := 102) hx hb dX7_export_102 (lv_at hl 2 rfl) ?_
                refine lv_dup2_11 (pc := 104) hx hb dX7_export_104 rfl rfl ?_
                refine M_aldN (pc := 105) (a := as 19) (n := 100) (f := σk.2 19) X P 7 rfl (k := k) hk_7 (by decide) dX7_export_105 ?_
                refine lv_iload (pc := 106) hx hb dX7_export_106 (lv_at hl 1 rfl) ?_
                refine lv_isub (pc := 108) hx hb dX7_export_108 ?_
                refine M_astN (pc := 109) (x := (σk.2 19 k) - (m_least left (σk.2 19 k))) (n := 100) X P 7 19 rfl (k := k) hk_7 (by decide) M_a19 dX7_export_109 (fun H locs (P : Hp D A s (M_W cI m0 as 0 (bs σk 19 k ((σk.2 19 k) - (m_least left (σk.2 19 k))))) H locs) => ?_)
                refine lv_aload_n (pc := 110) hx hb dX7_export_110 rfl (lv_at hl 6 rfl) ?_
                refine M_get (pc := 111) (v := .ref (as 20)) X P 20 (Nat.le_of_ble_eq_true rfl) (List.mem_of_getElem? (i := 4) rfl) rfl dX7_export_111 ?_
                refine lv_iload (pc := 114) hx hb dX7_export_114 (lv_at hl 2 rfl) ?_
                refine lv_dup2_11 (pc := 116) hx hb dX7_export_116 rfl rfl ?_
                refine M_aldN (pc := 117) (a := as 20) (n := 100) (f := σk.2 20) X P 8 rfl (k := k) hk_7 (by decide) dX7_export_117 ?_
                refine lv_iload (pc := 118) hx hb dX7_export_118 (lv_at hl 0 rfl) ?_
                refine lv_isub (pc := 120) hx hb dX7_export_120 ?_
                refine M_astN (pc := 121) (x := (σk.2 20 k) - (m_part (σk.2 20 k) (m_least left (σk.2 19 k)) (σk.2 19 k))) (n := 100) X P 8 20 rfl (k := k) hk_7 (by decide) M_a20 dX7_export_121 (fun H locs (P : Hp D A s (M_W cI m0 as 0 (bs (bs σk 19 k ((σk.2 19 k) - (m_least left (σk.2 19 k)))) 20 k ((σk.2 20 k) - (m_part (σk.2 20 k) (m_least left (σk.2 19 k)) (σk.2 19 k))))) H locs) => ?_)
                refine lv_iload_n (pc := 122) hx hb dX7_export_122 rfl (lv_at hl 4 rfl) ?_
                refine lv_iload (pc := 123) hx hb dX7_export_123 (lv_at hl 1 rfl) ?_
                refine lv_isub (pc := 125) hx hb dX7_export_125 ?_
                refine lv_istore_n (pc := 126) (lv' := [(2, .int (left - (m_least left (σk.2 19 k)))), (6, .int (m_part (σk.2 20 k) (m_least left (σk.2 19 k)) (σk.2 19 k))), (5, .int (m_least left (σk.2 19 k))), (4, .int (nI k)), (3, .int back), (1, .int p0), (0, .ref m0)]) hx hb dX7_export_126 rfl hl (by decide) rfl (fun ls hl => ?_)
                refine lv_iload_n (pc := 127) hx hb dX7_export_127 rfl (lv_at hl 4 rfl) ?_
                refine lv_iload (pc := 128) hx hb dX7_export_128 (lv_at hl 1 rfl) ?_
                refine lv_iadd (pc := 130) hx hb dX7_export_130 ?_
                refine lv_istore_n (pc := 131) (lv' := [(3, .int (back + (m_part (σk.2 20 k) (m_least left (σk.2 19 k)) (σk.2 19 k)))), (2, .int (left - (m_least left (σk.2 19 k)))), (6, .int (m_part (σk.2 20 k) (m_least left (σk.2 19 k)) (σk.2 19 k))), (5, .int (m_least left (σk.2 19 k))), (4, .int (nI k)), (1, .int p0), (0, .ref m0)]) hx hb dX7_export_131 rfl hl (by decide) rfl (fun ls hl => ?_)
                refine lv_iinc (pc := 132) (v := nI (k + 1)) (lv' := [(4, .int (nI (k + 1))), (3, .int (back + (m_part (σk.2 20 k) (m_least left (σk.2 19 k)) (σk.2 19 k)))), (2, .int (left - (m_least left (σk.2 19 k)))), (6, .int (m_part (σk.2 20 k) (m_least left (σk.2 19 k)) (σk.2 19 k))), (5, .int (m_least left (σk.2 19 k))), (1, .int p0), (0, .ref m0)]) hx hb dX7_export_132 hl (k := 4) rfl ((nI_succ k).symm) (by decide) rfl (fun ls hl => ?_)
                refine lv_goto (pc := 135) (tgt := 42) hx hb dX7_export_135 (by decide) ?_
                have e_i : ex_its left σk k = m_part (σk.2 20 k) (m_least left (σk.2 19 k)) (σk.2 19 k) := by rw [ex_its, if_neg c_12]
                rw [ex_s, e_i] at hX_11
                exact ih (k + 1) (left - (m_least left (σk.2 19 k))) (back + (m_part (σk.2 20 k) (m_least left (σk.2 19 k)) (σk.2 19 k))) (bs (bs σk 19 k ((σk.2 19 k) - (m_least left (σk.2 19 k)))) 20 k ((σk.2 20 k) - (m_part (σk.2 20 k) (m_least left (σk.2 19 k)) (σk.2 19 k)))) h0 hk_6 (by show ix (σk.1 18) < _; omega) hX_11 _ _ P ls (lv_sub hl [0, 1, 2, 5, 6] rfl)
              · refine lv_iconst (pc := 73) (v := 0) hx hb dX7_export_73 (by decide) ?_
                refine lv_goto (pc := 74) (tgt := 96) hx hb dX7_export_74 (by decide) ?_
                refine lv_istore (pc := 96) (lv' := [(6, .int 0), (5, .int (m_least left (σk.2 19 k))), (4, .int (nI k)), (3, .int back), (2, .int left), (1, .int p0), (0, .ref m0)]) hx hb dX7_export_96 hl (by decide) rfl (fun ls hl => ?_)
                refine lv_aload_n (pc := 98) hx hb dX7_export_98 rfl (lv_at hl 6 rfl) ?_
                refine M_get (pc := 99) (v := .ref (as 19)) X P 19 (Nat.le_of_ble_eq_true rfl) (List.mem_of_getElem? (i := 3) rfl) rfl dX7_export_99 ?_
                refine lv_iload (pc := 102) hx hb dX7_export_102 (lv_at hl 2 rfl) ?_
                refine lv_dup2_11 (pc := 104) hx hb dX7_export_104 rfl rfl ?_
                refine M_aldN (pc := 105) (a := as 19) (n := 100) (f := σk.2 19) X P 7 rfl (k := k) hk_7 (by decide) dX7_export_105 ?_
                refine lv_iload (pc := 106) hx hb dX7_export_106 (lv_at hl 1 rfl) ?_
                refine lv_isub (pc := 108) hx hb dX7_export_108 ?_
                refine M_astN (pc := 109) (x := (σk.2 19 k) - (m_least left (σk.2 19 k))) (n := 100) X P 7 19 rfl (k := k) hk_7 (by decide) M_a19 dX7_export_109 (fun H locs (P : Hp D A s (M_W cI m0 as 0 (bs σk 19 k ((σk.2 19 k) - (m_least left (σk.2 19 k))))) H locs) => ?_)
                refine lv_aload_n (pc := 110) hx hb dX7_export_110 rfl (lv_at hl 6 rfl) ?_
                refine M_get (pc := 111) (v := .ref (as 20)) X P 20 (Nat.le_of_ble_eq_true rfl) (List.mem_of_getElem? (i := 4) rfl) rfl dX7_export_111 ?_
                refine lv_iload (pc := 114) hx hb dX7_export_114 (lv_at hl 2 rfl) ?_
                refine lv_dup2_11 (pc := 116) hx hb dX7_export_116 rfl rfl ?_
                refine M_aldN (pc := 117) (a := as 20) (n := 100) (f := σk.2 20) X P 8 rfl (k := k) hk_7 (by decide) dX7_export_117 ?_
                refine lv_iload (pc := 118) hx hb dX7_export_118 (lv_at hl 0 rfl) ?_
                refine lv_isub (pc := 120) hx hb dX7_export_120 ?_
                refine M_astN (pc := 121) (x := (σk.2 20 k) - 0) (n := 100) X P 8 20 rfl (k := k) hk_7 (by decide) M_a20 dX7_export_121 (fun H locs (P : Hp D A s (M_W cI m0 as 0 (bs (bs σk 19 k ((σk.2 19 k) - (m_least left (σk.2 19 k)))) 20 k ((σk.2 20 k) - 0))) H locs) => ?_)
                refine lv_iload_n (pc := 122) hx hb dX7_export_122 rfl (lv_at hl 4 rfl) ?_
                refine lv_iload (pc := 123) hx hb dX7_export_123 (lv_at hl 1 rfl) ?_
                refine lv_isub (pc := 125) hx hb dX7_export_125 ?_
                refine lv_istore_n (pc := 126) (lv' := [(2, .int (left - (m_least left (σk.2 19 k)))), (6, .int 0), (5, .int (m_least left (σk.2 19 k))), (4, .int (nI k)), (3, .int back), (1, .int p0), (0, .ref m0)]) hx hb dX7_export_126 rfl hl (by decide) rfl (fun ls hl => ?_)
                refine lv_iload_n (pc := 127) hx hb dX7_export_127 rfl (lv_at hl 4 rfl) ?_
                refine lv_iload (pc := 128) hx hb dX7_export_128 (lv_at hl 1 rfl) ?_
                refine lv_iadd (pc := 130) hx hb dX7_export_130 ?_
                refine lv_istore_n (pc := 131) (lv' := [(3, .int (back + 0)), (2, .int (left - (m_least left (σk.2 19 k)))), (6, .int 0), (5, .int (m_least left (σk.2 19 k))), (4, .int (nI k)), (1, .int p0), (0, .ref m0)]) hx hb dX7_export_131 rfl hl (by decide) rfl (fun ls hl => ?_)
                refine lv_iinc (pc := 132) (v := nI (k + 1)) (lv' := [(4, .int (nI (k + 1))), (3, .int (back + 0)), (2, .int (left - (m_least left (σk.2 19 k)))), (6, .int 0), (5, .int (m_least left (σk.2 19 k))), (1, .int p0), (0, .ref m0)]) hx hb dX7_export_132 hl (k := 4) rfl ((nI_succ k).symm) (by decide) rfl (fun ls hl => ?_)
                refine lv_goto (pc := 135) (tgt := 42) hx hb dX7_export_135 (by decide) ?_
                have e_i : ex_its left σk k = 0 := by rw [ex_its, if_pos c_12]
                rw [ex_s, e_i] at hX_11
                exact ih (k + 1) (left - (m_least left (σk.2 19 k))) (back + 0) (bs (bs σk 19 k ((σk.2 19 k) - (m_least left (σk.2 19 k)))) 20 k ((σk.2 20 k) - 0)) h0 hk_6 (by show ix (σk.1 18) < _; omega) hX_11 _ _ P ls (lv_sub hl [0, 1, 2, 5, 6] rfl)
      exact loop (ix (σ.1 18) + 1) 0 p0 0 σ h2 (Nat.zero_le _) (by omega) rfl _ _ P ls (lv_sub hl [0, 1, 2, 4, 3] rfl)
    · refine lv_iconst (pc := 18) (v := 2) hx hb dX7_export_18 (by decide) ?_
      refine lv_goto (pc := 19) (tgt := 23) hx hb dX7_export_19 (by decide) ?_
      refine M_putT (pc := 23) (v := 2) X P (List.mem_of_getElem? (i := 1) rfl) dX7_export_23 (fun H locs (P : Hp D A s (M_W cI m0 as 2 σ) H locs) => ?_)
      refine lv_aload_n (pc := 26) hx hb dX7_export_26 rfl (lv_at hl 0 rfl) ?_
      refine M_get (pc := 27) (v := .int 2) X P 0 (Nat.le_of_ble_eq_true rfl) (List.mem_of_getElem? (i := 1) rfl) rfl dX7_export_27 ?_
      refine lv_if_le (pc := 30) (tgt := 35) hx hb dX7_export_30 (by decide) (fun h => absurd h (by decide)) (fun _ => ?_)
      refine lv_iconst (pc := 33) (v := 0) hx hb dX7_export_33 (by decide) ?_
      exact M_ret (pc := 34) (v := 0) X P (by rw [m_export, if_pos c_1, if_neg c_2]) dX7_export_34
  · refine lv_iconst (pc := 6) (v := 1) hx hb dX7_export_6 (by decide) ?_
    refine lv_goto (pc := 7) (tgt := 23) hx hb dX7_export_7 (by decide) ?_
    refine M_putT (pc := 23) (v := 1) X P (List.mem_of_getElem? (i := 1) rfl) dX7_export_23 (fun H locs (P : Hp D A s (M_W cI m0 as 1 σ) H locs) => ?_)
    refine lv_aload_n (pc := 26) hx hb dX7_export_26 rfl (lv_at hl 0 rfl) ?_
    refine M_get (pc := 27) (v := .int 1) X P 0 (Nat.le_of_ble_eq_true rfl) (List.mem_of_getElem? (i := 1) rfl) rfl dX7_export_27 ?_
    refine lv_if_le (pc := 30) (tgt := 35) hx hb dX7_export_30 (by decide) (fun h => absurd h (by decide)) (fun _ => ?_)
    refine lv_iconst (pc := 33) (v := 0) hx hb dX7_export_33 (by decide) ?_
    exact M_ret (pc := 34) (v := 0) X P (by rw [m_export, if_neg c_1]) dX7_export_34
