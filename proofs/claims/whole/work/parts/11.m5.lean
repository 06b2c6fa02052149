def pas : Nat → Sg → Sg
  | 0, S => S
  | n + 1, S => m_passesOne (pas n S)
theorem pas_s (n : Nat) (S : Sg) : pas (n + 1) S = m_passesOne (pas n S) := rfl
theorem pre_z {j : Nat} (h1 : j ≠ 1) (h2 : j ≠ 11) (h3 : j ≠ 13) (h4 : j ≠ 16) (S : Sg) : (m_pre S).1 j = S.1 j := by
  rw [m_pre]
  split <;> split <;> simp only [zs, pk_un h1, pk_un h2, pk_un h3, pk_un h4]
theorem pre_b (S : Sg) : (m_pre S).2 = S.2 := by
  rw [m_pre]
  split <;> split <;> rfl
theorem tail_z {j : Nat} (h1 : j ≠ 12) (S : Sg) : (m_tail S).1 j = S.1 j := by
  rw [m_tail]
  repeat' split
  all_goals simp only [zs, pk_un h1]
theorem tail_b (S : Sg) : (m_tail S).2 = S.2 := by
  rw [m_tail]
  repeat' split
  all_goals rfl
theorem one_z {j : Nat} (h1 : j ≠ 1) (h2 : j ≠ 11) (h3 : j ≠ 13) (h4 : j ≠ 16) (h5 : j ≠ 12) (S : Sg) : (m_passesOne S).1 j = S.1 j := by
  rw [m_passesOne, tail_z h5, shr_z, lat_z h5, pre_z h1 h2 h3 h4]
theorem one_b {j : Nat} (h1 : j ≠ 5) (h2 : j ≠ 6) (h3 : j ≠ 10) (h4 : j ≠ 23) (S : Sg) : (m_passesOne S).2 j = S.2 j := by
  rw [m_passesOne, tail_b, shr_b h1 h2 h3, lat_b h4 h3, pre_b]
theorem in_nat {x : Int32} (c : ¬ m_in x 1 60 = 0) : ∃ d : Nat, d ≤ 60 ∧ x = nI d := by
  rw [m_in] at c
  by_cases c1 : x < 1
  · rw [if_pos c1] at c; exact absurd rfl c
  · rw [if_neg c1] at c
    by_cases c2 : 60 < x
    · rw [if_pos c2] at c; exact absurd rfl c
    · refine nI_of2 (M := 60) (by decide) ?_ (Int32.not_lt.mp c2)
      intro h
      exact c1 (Int32.lt_trans h (by decide))
def m_pass (σ : Sg) (p0 : Int32) : Int32 × Int32 × Sg := if (m_in p0 1 60) = 0 then (1, 0, σ) else if ((σ.1 1) + p0) ≤ 900 then (0, (pas (ix p0) σ).1 12, pas (ix p0) σ) else (2, 0, σ)
abbrev rX7_pass : Room := { frames := 3, cells := 0, slots := 0, locals := 66 }
theorem fnX7_pass : Fn yX7_pass wsX7_pass cX7_pass 3 (some .int) 1 rX7_pass 0 0 := ⟨⟨_, rfl⟩, rfl, rfl, by decide +kernel⟩
theorem inX7_pass : ∀ w ∈ wsX70, w ∈ wsX7_pass := fun w h => List.mem_cons_of_mem _ (List.mem_append_right _ h)
set_option maxHeartbeats 4000000 in
set_option maxRecDepth 100000 in
theorem kX7_pass (l : Launch) (D : va_G) (cI : ClassId) (m0 : Nat) (as : Nat → Nat) (th : Int32) (σ : Sg) (p0 : Int32) (h0 : Cnt σ 2 10) (h1 : Cnt σ 22 30) (h4 : ∀ v, v < ix (σ.1 2) → vp_in (σ.2 3 v) 4) : M_Mi l yX7_pass wsX7_pass rX7_pass D cI m0 as th σ [.int p0] (m_pass σ p0) := by
  refine M_body (n := 1) (Qc := fun A => M_Qi D cI m0 as (m_pass σ p0) A) rfl fnX7_pass inX7_pass (Nat.le_of_ble_eq_true rfl) ?_
  intro p e s m args below meth c X A P ls hl
  have hx := X.1.1
  have hb := X.1.2.1
  have hown := X.1.2.2.2.1
  have hts := X.1.2.2.2.2.1
  have hl : lv_has ls 3 [(0, .ref m0), (1, .int p0)] := hl
  refine lv_aload_n (pc := 0) hx hb dX7_pass_0 rfl (lv_at hl 0 rfl) ?_
  refine lv_iload_n (pc := 1) hx hb dX7_pass_1 rfl (lv_at hl 1 rfl) ?_
  refine lv_iconst (pc := 2) (v := 1) hx hb dX7_pass_2 (by decide) ?_
  refine lv_bipush (pc := 3) (v := 60) hx hb dX7_pass_3 (by decide) ?_
  refine S_call (pc := 5) (As := [.int p0, .int 1, .int 60]) (rest := [.ref m0]) (r := m_in p0 1 60) X.1 hl.1 (kX7_in l p0 1 60) fnX7_in gX7_pass_X7_in rfl rfl ⟨Nat.le_of_ble_eq_true rfl, Nat.le_of_ble_eq_true rfl⟩ (Nat.le_of_ble_eq_true rfl) ⟨Nat.le_of_ble_eq_true rfl, Nat.le_of_ble_eq_true rfl⟩ dX7_pass_5 ?_
  refine lv_if_ne (pc := 8) (tgt := 15) hx hb dX7_pass_8 (by decide) (fun c_1 : ¬ (m_in p0 1 60) = 0 => ?_) (fun c_1 : (m_in p0 1 60) = 0 => ?_)
  · refine lv_aload_n (pc := 15) hx hb dX7_pass_15 rfl (lv_at hl 0 rfl) ?_
    refine M_get (pc := 16) (v := .int (σ.1 1)) X P 1 (Nat.le_of_ble_eq_true rfl) (List.mem_of_getElem? (i := 1) rfl) rfl dX7_pass_16 ?_
    refine lv_iload_n (pc := 19) hx hb dX7_pass_19 rfl (lv_at hl 1 rfl) ?_
    refine lv_iadd (pc := 20) hx hb dX7_pass_20 ?_
    refine lv_sipush (pc := 21) (v := 900) hx hb dX7_pass_21 (by decide) ?_
    refine lv_icmp_le (pc := 24) (tgt := 31) hx hb dX7_pass_24 (by decide) (fun c_2 : ((σ.1 1) + p0) ≤ 900 => ?_) (fun c_2 : ¬ ((σ.1 1) + p0) ≤ 900 => ?_)
    · refine lv_iconst (pc := 31) (v := 0) hx hb dX7_pass_31 (by decide) ?_
      refine M_putT (pc := 32) (v := 0) X P (List.mem_of_getElem? (i := 2) rfl) dX7_pass_32 (fun H locs (P : Hp D A s (M_W cI m0 as 0 σ) H locs) => ?_)
      refine lv_iconst (pc := 35) (v := 0) hx hb dX7_pass_35 (by decide) ?_
      refine lv_istore_n (pc := 36) (lv' := [(2, .int 0), (0, .ref m0), (1, .int p0)]) hx hb dX7_pass_36 rfl hl (by decide) rfl (fun ls hl => ?_)
      obtain ⟨d, hd, rfl⟩ := in_nat c_1
      have hcd : ix (nI d) = d := nI_clamp (by omega)
      have loop : ∀ (n k : Nat) (S1 : Sg), S1 = pas k σ → Cnt S1 2 10 → Cnt S1 22 30 → (∀ v, v < ix (S1.1 2) → vp_in (S1.2 3 v) 4) → k ≤ d → d < k + n → ∀ (H : Heap) (locs : List Loc) (P : Hp D A s (M_W cI m0 as 0 S1) H locs) (ls : Array Slot), lv_has ls 3 [(2, .int (nI k)), (1, .int (nI d)), (0, .ref m0)] → W p l e rX7_pass s m args below meth c H locs 0 0 (MQ below (M_Qi D cI m0 as (m_pass σ (nI d)) A) args s 0 0 A) (F0 m 37 ls []) := by
        intro n
        induction n with
        | zero => intro k S1 e1 h5 h6 h7 h8 h9; exact absurd h9 (by omega)
        | succ n ih =>
          intro k S1 e1 h5 h6 h7 h8 h9 H locs P ls hl
          refine lv_iload_n (pc := 37) hx hb dX7_pass_37 rfl (lv_at hl 0 rfl) ?_
          refine lv_iload_n (pc := 38) hx hb dX7_pass_38 rfl (lv_at hl 1 rfl) ?_
          refine lv_icmp_ge (pc := 39) (tgt := 59) hx hb dX7_pass_39 (by decide) (fun c_3 : (nI d) ≤ (nI k) => ?_) (fun c_3 : ¬ (nI d) ≤ (nI k) => ?_)
          · have e_x_4 : S1 = pas d σ := by rw [e1, show k = d from Nat.le_antisymm h8 ((nI_leI (by omega) (by omega)).mp c_3)]
            refine lv_aload_n (pc := 59) hx hb dX7_pass_59 rfl (lv_at hl 2 rfl) ?_
            refine M_get (pc := 60) (v := .int 0) X P 0 (Nat.le_of_ble_eq_true rfl) (List.mem_of_getElem? (i := 2) rfl) rfl dX7_pass_60 ?_
            refine lv_if_le (pc := 63) (tgt := 70) hx hb dX7_pass_63 (by decide) (fun _ => ?_) (fun h => absurd h (by decide))
            refine lv_aload_n (pc := 70) hx hb dX7_pass_70 rfl (lv_at hl 2 rfl) ?_
            refine M_get (pc := 71) (v := .int (S1.1 12)) X P 12 (Nat.le_of_ble_eq_true rfl) (List.mem_of_getElem? (i := 3) rfl) rfl dX7_pass_71 ?_
            exact M_ret (pc := 74) (v := S1.1 12) X P (by rw [m_pass, if_neg c_1, if_pos c_2, hcd, ← e_x_4]) dX7_pass_74
          · have hk_5 : k < d := by rcases Nat.lt_or_ge k d with q | q; exact q; exact absurd (nI_le q (by omega)) c_3
            refine lv_aload_n (pc := 42) hx hb dX7_pass_42 rfl (lv_at hl 2 rfl) ?_
            refine M_get (pc := 43) (v := .int 0) X P 0 (Nat.le_of_ble_eq_true rfl) (List.mem_of_getElem? (i := 2) rfl) rfl dX7_pass_43 ?_
            refine lv_if_ne (pc := 46) (tgt := 59) hx hb dX7_pass_46 (by decide) (fun h => absurd h (by decide)) (fun _ => ?_)
            refine lv_aload_n (pc := 49) hx hb dX7_pass_49 rfl (lv_at hl 2 rfl) ?_
            refine M_callv (pc := 50) (As := []) (rest := []) (f := (0, 0, m_passesOne S1)) X P hl.1 (kX7_passesOne l D cI m0 as 0 S1 h5 h6 h7) fnX7_passesOne rfl gX7_pass_X7_passesOne rfl rfl ⟨Nat.le_of_ble_eq_true rfl, Nat.le_of_ble_eq_true rfl⟩ (Nat.le_of_ble_eq_true rfl) ⟨Nat.le_of_ble_eq_true rfl, Nat.le_of_ble_eq_true rfl⟩ dX7_pass_50 (fun H locs (P : Hp D A s (M_W cI m0 as 0 (m_passesOne S1)) H locs) => ?_)
            refine lv_iinc (pc := 53) (v := nI (k + 1)) (lv' := [(2, .int (nI (k + 1))), (1, .int (nI d)), (0, .ref m0)]) hx hb dX7_pass_53 hl (k := 0) rfl ((nI_succ k).symm) (by decide) rfl (fun ls hl => ?_)
            refine lv_goto (pc := 56) (tgt := 37) hx hb dX7_pass_56 (by decide) ?_
            exact ih (k + 1) (m_passesOne S1) (by rw [pas_s, ← e1]) (cnt_of h5 (one_z (by decide) (by decide) (by decide) (by decide) (by decide) S1)) (cnt_of h6 (one_z (by decide) (by decide) (by decide) (by decide) (by decide) S1)) (by rw [one_z (by decide) (by decide) (by decide) (by decide) (by decide), one_b (by decide) (by decide) (by decide) (by decide)]; exact h7) hk_5 (by omega) _ _ P ls (lv_sub hl [0, 1, 2] rfl)
      exact loop (d + 1) 0 σ rfl h0 h1 h4 (Nat.zero_le _) (by omega) _ _ P ls (lv_sub hl [0, 2, 1] rfl)
    · refine lv_iconst (pc := 27) (v := 2) hx hb dX7_pass_27 (by decide) ?_
      refine lv_goto (pc := 28) (tgt := 32) hx hb dX7_pass_28 (by decide) ?_
      refine M_putT (pc := 32) (v := 2) X P (List.mem_of_getElem? (i := 2) rfl) dX7_pass_32 (fun H locs (P : Hp D A s (M_W cI m0 as 2 σ) H locs) => ?_)
      refine lv_iconst (pc := 35) (v := 0) hx hb dX7_pass_35 (by decide) ?_
      refine lv_istore_n (pc := 36) (lv' := [(2, .int 0), (0, .ref m0), (1, .int p0)]) hx hb dX7_pass_36 rfl hl (by decide) rfl (fun ls hl => ?_)
      refine lv_iload_n (pc := 37) hx hb dX7_pass_37 rfl (lv_at hl 0 rfl) ?_
      refine lv_iload_n (pc := 38) hx hb dX7_pass_38 rfl (lv_at hl 2 rfl) ?_
      refine lv_icmp_ge (pc := 39) (tgt := 59) hx hb dX7_pass_39 (by decide) (fun c_6 : p0 ≤ 0 => ?_) (fun c_6 : ¬ p0 ≤ 0 => ?_)
      · refine lv_aload_n (pc := 59) hx hb dX7_pass_59 rfl (lv_at hl 1 rfl) ?_
        refine M_get (pc := 60) (v := .int 2) X P 0 (Nat.le_of_ble_eq_true rfl) (List.mem_of_getElem? (i := 2) rfl) rfl dX7_pass_60 ?_
        refine lv_if_le (pc := 63) (tgt := 70) hx hb dX7_pass_63 (by decide) (fun h => absurd h (by decide)) (fun _ => ?_)
        refine lv_iconst (pc := 66) (v := 0) hx hb dX7_pass_66 (by decide) ?_
        refine lv_goto (pc := 67) (tgt := 74) hx hb dX7_pass_67 (by decide) ?_
        exact M_ret (pc := 74) (v := 0) X P (by rw [m_pass, if_neg c_1, if_neg c_2]) dX7_pass_74
      · refine lv_aload_n (pc := 42) hx hb dX7_pass_42 rfl (lv_at hl 1 rfl) ?_
        refine M_get (pc := 43) (v := .int 2) X P 0 (Nat.le_of_ble_eq_true rfl) (List.mem_of_getElem? (i := 2) rfl) rfl dX7_pass_43 ?_
        refine lv_if_ne (pc := 46) (tgt := 59) hx hb dX7_pass_46 (by decide) (fun _ => ?_) (fun h => absurd h (by decide))
        refine lv_aload_n (pc := 59) hx hb dX7_pass_59 rfl (lv_at hl 1 rfl) ?_
        refine M_get (pc := 60) (v := .int 2) X P 0 (Nat.le_of_ble_eq_true rfl) (List.mem_of_getElem? (i := 2) rfl) rfl dX7_pass_60 ?_
        refine lv_if_le (pc := 63) (tgt := 70) hx hb dX7_pass_63 (by decide) (fun h => absurd h (by decide)) (fun _ => ?_)
        refine lv_iconst (pc := 66) (v := 0) hx hb dX7_pass_66 (by decide) ?_
        refine lv_goto (pc := 67) (tgt := 74) hx hb dX7_pass_67 (by decide) ?_
        exact M_ret (pc := 74) (v := 0) X P (by rw [m_pass, if_neg c_1, if_neg c_2]) dX7_pass_74
  · refine lv_iconst (pc := 11) (v := 1) hx hb dX7_pass_11 (by decide) ?_
    refine lv_goto (pc := 12) (tgt := 32) hx hb dX7_pass_12 (by decide) ?_
    refine M_putT (pc := 32) (v := 1) X P (List.mem_of_getElem? (i := 2) rfl) dX7_pass_32 (fun H locs (P : Hp D A s (M_W cI m0 as 1 σ) H locs) => ?_)
    refine lv_iconst (pc := 35) (v := 0) hx hb dX7_pass_35 (by decide) ?_
    refine lv_istore_n (pc := 36) (lv' := [(2, .int 0), (0, .ref m0), (1, .int p0)]) hx hb dX7_pass_36 rfl hl (by decide) rfl (fun ls hl => ?_)
    refine lv_iload_n (pc := 37) hx hb dX7_pass_37 rfl (lv_at hl 0 rfl) ?_
    refine lv_iload_n (pc := 38) hx hb dX7_pass_38 rfl (lv_at hl 2 rfl) ?_
    refine lv_icmp_ge (pc := 39) (tgt := 59) hx hb dX7_pass_39 (by decide) (fun c_7 : p0 ≤ 0 => ?_) (fun c_7 : ¬ p0 ≤ 0 => ?_)
    · refine lv_aload_n (pc := 59) hx hb dX7_pass_59 rfl (lv_at hl 1 rfl) ?_
      refine M_get (pc := 60) (v := .int 1) X P 0 (Nat.le_of_ble_eq_true rfl) (List.mem_of_getElem? (i := 2) rfl) rfl dX7_pass_60 ?_
      refine lv_if_le (pc := 63) (tgt := 70) hx hb dX7_pass_63 (by decide) (fun h => absurd h (by decide)) (fun _ => ?_)
      refine lv_iconst (pc := 66) (v := 0) hx hb dX7_pass_66 (by decide) ?_
      refine lv_goto (pc := 67) (tgt := 74) hx hb dX7_pass_67 (by decide) ?_
      exact M_ret (pc := 74) (v := 0) X P (by rw [m_pass, if_pos c_1]) dX7_pass_74
    · refine lv_aload_n (pc := 42) hx hb dX7_pass_42 rfl (lv_at hl 1 rfl) ?_
      refine M_get (pc := 43) (v := .int 1) X P 0 (Nat.le_of_ble_eq_true rfl) (List.mem_of_getElem? (i := 2) rfl) rfl dX7_pass_43 ?_
      refine lv_if_ne (pc := 46) (tgt := 59) hx hb dX7_pass_46 (by decide) (fun _ => ?_) (fun h => absurd h (by decide))
      refine lv_aload_n (pc := 59) hx hb dX7_pass_59 rfl (lv_at hl 1 rfl) ?_
      refine M_get (pc := 60) (v := .int 1) X P 0 (Nat.le_of_ble_eq_true rfl) (List.mem_of_getElem? (i := 2) rfl) rfl dX7_pass_60 ?_
      refine lv_if_le (pc := 63) (tgt := 70) hx hb dX7_pass_63 (by decide) (fun h => absurd h (by decide)) (fun _ => ?_)
      refine lv_iconst (pc := 66) (v := 0) hx hb dX7_pass_66 (by decide) ?_
      refine lv_goto (pc := 67) (tgt := 74) hx hb dX7_pass_67 (by decide) ?_
      exact M_ret (pc := 74) (v := 0) X P (by rw [m_pass, if_pos c_1]) dX7_pass_74
