theorem vp_dec {i : Int32} {n : Nat} (h : ¬ (i < 0 ∨ n ≤ i.toNatClampNeg)) : vp_in i n := h
def sm (f : Nat → Int32) : Nat → Int32
  | 0 => 0
  | n + 1 => sm f n + f n
theorem sm_s (f : Nat → Int32) (n : Nat) : sm f (n + 1) = sm f n + f n := rfl
def Cnt (σ : Sg) (k n : Nat) : Prop := σ.1 k = nI (ix (σ.1 k)) ∧ ix (σ.1 k) ≤ n
theorem lp_end {σ : Sg} {j n k : Nat} (h : Cnt σ j n) (c : σ.1 j ≤ nI k) (h1 : k ≤ ix (σ.1 j)) (hn : n < 2 ^ 31 := by decide) : k = ix (σ.1 j) := by
  rw [h.1] at c
  have h2 := (nI_leI (Nat.lt_of_le_of_lt h.2 hn) (Nat.lt_of_le_of_lt (Nat.le_trans h1 h.2) hn)).mp c
  omega
theorem lp_in {σ : Sg} {j n k : Nat} (h : Cnt σ j n) (c : ¬ σ.1 j ≤ nI k) (h1 : k ≤ ix (σ.1 j)) : k < ix (σ.1 j) := by
  rcases Nat.lt_or_ge k (ix (σ.1 j)) with q | q
  · exact q
  · exfalso
    apply c
    have e : k = ix (σ.1 j) := by omega
    rw [e, ← h.1]
    exact Int32.le_refl _
section MR2
variable {p : Program} {l : Launch} {e : Env} {R : Room} {s : State} {m : MethodId} {args : Array Value} {below : List Frame} {meth : Method} {c : Code} {H : Heap} {locs : List Loc} {cells slots : Nat} {Q : State → Prop} {cc : ByteArray} {pc : Nat} {ls : Array Slot} {rest st0 : List Value} {Ts : List Cond} {nL : Nat} {D : va_G} {A : Nat → Prop} {ret : Option FieldType} {cI : ClassId} {m0 : Nat} {as : Nat → Nat} {th : Int32} {σ : Sg} {B : Prop}
theorem M_aldN (X : Mx B p s m args meth c cc nL Ts ret D cI) (P : Hp D A s (M_W cI m0 as th σ) H locs) (q0 : Nat) {a n : Nat} {f : Nat → Int32} (ha : (M_W cI m0 as th σ)[q0]? = some (a, .inl (cI, n, .inl f))) {k : Nat} (hk : k < n) (hn : n < 2 ^ 31) (d : decode cc pc = .ok (.iaload, 1))
    (kk : W p l e R s m args below meth c H locs cells slots Q (F0 m (pc + 1) ls (.int (f k) :: rest))) : W p l e R s m args below meth c H locs cells slots Q (F0 m pc ls (.int (nI k) :: .ref a :: rest)) := by
  refine M_ald X P q0 ha (vp_in_nI hk hn) d ?_
  rw [show ix (nI k) = k from nI_clamp (Nat.lt_trans hk hn)]
  exact kk
theorem M_astN (X : Mx B p s m args meth c cc nL Ts ret D cI) (P : Hp D A s (M_W cI m0 as th σ) H locs) (q0 k0 : Nat) {a n : Nat} (ha : (M_W cI m0 as th σ)[q0]? = some (a, .inl (cI, n, .inl (σ.2 k0)))) {k : Nat} {x : Int32} (hk : k < n) (hn : n < 2 ^ 31)
    (he : (M_W cI m0 as th σ).set q0 (a, .inl (cI, n, .inl (upd (σ.2 k0) k x))) = M_W cI m0 as th (bs σ k0 k x)) (d : decode cc pc = .ok (.iastore, 1))
    (kk : ∀ (H : Heap) (locs : List Loc), Hp D A s (M_W cI m0 as th (bs σ k0 k x)) H locs → W p l e R s m args below meth c H locs cells slots Q (F0 m (pc + 1) ls rest)) : W p l e R s m args below meth c H locs cells slots Q (F0 m pc ls (.int x :: .int (nI k) :: .ref a :: rest)) := by
  have e : ix (nI k) = k := nI_clamp (Nat.lt_trans hk hn)
  refine M_ast X P q0 k0 ha (vp_in_nI hk hn) (by rw [e]; exact he) d ?_
  rw [e]
  exact kk
end MR2
theorem t64_ne {x : Int32} (h : ¬ x = 0) : ¬ x.toInt64 = 0 := by
  intro q
  apply h
  have := congrArg Int64.toInt q
  rw [Int32.toInt_toInt64] at this
  exact Int32.toInt_inj.mp this
theorem M_s1 {as : Nat → Nat} {th v : Int32} {σ : Sg} : (M_fs as th σ).set 1 (.int v) = M_fs as th (zs σ 1 v) := rfl
theorem M_s2 {as : Nat → Nat} {th v : Int32} {σ : Sg} : (M_fs as th σ).set 2 (.int v) = M_fs as th (zs σ 2 v) := rfl
theorem M_s8 {as : Nat → Nat} {th v : Int32} {σ : Sg} : (M_fs as th σ).set 8 (.int v) = M_fs as th (zs σ 8 v) := rfl
theorem M_s9 {as : Nat → Nat} {th v : Int32} {σ : Sg} : (M_fs as th σ).set 9 (.int v) = M_fs as th (zs σ 9 v) := rfl
theorem M_s11 {as : Nat → Nat} {th v : Int32} {σ : Sg} : (M_fs as th σ).set 11 (.int v) = M_fs as th (zs σ 11 v) := rfl
theorem M_s12 {as : Nat → Nat} {th v : Int32} {σ : Sg} : (M_fs as th σ).set 12 (.int v) = M_fs as th (zs σ 12 v) := rfl
theorem M_s13 {as : Nat → Nat} {th v : Int32} {σ : Sg} : (M_fs as th σ).set 13 (.int v) = M_fs as th (zs σ 13 v) := rfl
theorem M_s14 {as : Nat → Nat} {th v : Int32} {σ : Sg} : (M_fs as th σ).set 14 (.int v) = M_fs as th (zs σ 14 v) := rfl
theorem M_s15 {as : Nat → Nat} {th v : Int32} {σ : Sg} : (M_fs as th σ).set 15 (.int v) = M_fs as th (zs σ 15 v) := rfl
theorem M_s16 {as : Nat → Nat} {th v : Int32} {σ : Sg} : (M_fs as th σ).set 16 (.int v) = M_fs as th (zs σ 16 v) := rfl
theorem M_s17 {as : Nat → Nat} {th v : Int32} {σ : Sg} : (M_fs as th σ).set 17 (.int v) = M_fs as th (zs σ 17 v) := rfl
theorem M_s18 {as : Nat → Nat} {th v : Int32} {σ : Sg} : (M_fs as th σ).set 18 (.int v) = M_fs as th (zs σ 18 v) := rfl
theorem M_s21 {as : Nat → Nat} {th v : Int32} {σ : Sg} : (M_fs as th σ).set 21 (.int v) = M_fs as th (zs σ 21 v) := rfl
theorem M_s22 {as : Nat → Nat} {th v : Int32} {σ : Sg} : (M_fs as th σ).set 22 (.int v) = M_fs as th (zs σ 22 v) := rfl
theorem M_a3 {cI : ClassId} {m0 : Nat} {as : Nat → Nat} {th x : Int32} {i : Nat} {σ : Sg} : (M_W cI m0 as th σ).set 1 (as 3, .inl (cI, 10, .inl (upd (σ.2 3) i x))) = M_W cI m0 as th (bs σ 3 i x) := rfl
theorem M_a4 {cI : ClassId} {m0 : Nat} {as : Nat → Nat} {th x : Int32} {i : Nat} {σ : Sg} : (M_W cI m0 as th σ).set 2 (as 4, .inl (cI, 10, .inl (upd (σ.2 4) i x))) = M_W cI m0 as th (bs σ 4 i x) := rfl
theorem M_a5 {cI : ClassId} {m0 : Nat} {as : Nat → Nat} {th x : Int32} {i : Nat} {σ : Sg} : (M_W cI m0 as th σ).set 3 (as 5, .inl (cI, 10, .inl (upd (σ.2 5) i x))) = M_W cI m0 as th (bs σ 5 i x) := rfl
theorem M_a6 {cI : ClassId} {m0 : Nat} {as : Nat → Nat} {th x : Int32} {i : Nat} {σ : Sg} : (M_W cI m0 as th σ).set 4 (as 6, .inl (cI, 10, .inl (upd (σ.2 6) i x))) = M_W cI m0 as th (bs σ 6 i x) := rfl
theorem M_a7 {cI : ClassId} {m0 : Nat} {as : Nat → Nat} {th x : Int32} {i : Nat} {σ : Sg} : (M_W cI m0 as th σ).set 5 (as 7, .inl (cI, 4, .inl (upd (σ.2 7) i x))) = M_W cI m0 as th (bs σ 7 i x) := rfl
theorem M_a10 {cI : ClassId} {m0 : Nat} {as : Nat → Nat} {th x : Int32} {i : Nat} {σ : Sg} : (M_W cI m0 as th σ).set 6 (as 10, .inl (cI, 8, .inl (upd (σ.2 10) i x))) = M_W cI m0 as th (bs σ 10 i x) := rfl
theorem M_a19 {cI : ClassId} {m0 : Nat} {as : Nat → Nat} {th x : Int32} {i : Nat} {σ : Sg} : (M_W cI m0 as th σ).set 7 (as 19, .inl (cI, 100, .inl (upd (σ.2 19) i x))) = M_W cI m0 as th (bs σ 19 i x) := rfl
theorem M_a20 {cI : ClassId} {m0 : Nat} {as : Nat → Nat} {th x : Int32} {i : Nat} {σ : Sg} : (M_W cI m0 as th σ).set 8 (as 20, .inl (cI, 100, .inl (upd (σ.2 20) i x))) = M_W cI m0 as th (bs σ 20 i x) := rfl
theorem M_a23 {cI : ClassId} {m0 : Nat} {as : Nat → Nat} {th x : Int32} {i : Nat} {σ : Sg} : (M_W cI m0 as th σ).set 9 (as 23, .inl (cI, 30, .inl (upd (σ.2 23) i x))) = M_W cI m0 as th (bs σ 23 i x) := rfl
theorem M_a24 {cI : ClassId} {m0 : Nat} {as : Nat → Nat} {th x : Int32} {i : Nat} {σ : Sg} : (M_W cI m0 as th σ).set 10 (as 24, .inl (cI, 30, .inl (upd (σ.2 24) i x))) = M_W cI m0 as th (bs σ 24 i x) := rfl
theorem M_a25 {cI : ClassId} {m0 : Nat} {as : Nat → Nat} {th x : Int32} {i : Nat} {σ : Sg} : (M_W cI m0 as th σ).set 11 (as 25, .inl (cI, 30, .inl (upd (σ.2 25) i x))) = M_W cI m0 as th (bs σ 25 i x) := rfl
theorem M_a26 {cI : ClassId} {m0 : Nat} {as : Nat → Nat} {th x : Int32} {i : Nat} {σ : Sg} : (M_W cI m0 as th σ).set 12 (as 26, .inl (cI, 30, .inl (upd (σ.2 26) i x))) = M_W cI m0 as th (bs σ 26 i x) := rfl
theorem M_a27 {cI : ClassId} {m0 : Nat} {as : Nat → Nat} {th x : Int32} {i : Nat} {σ : Sg} : (M_W cI m0 as th σ).set 13 (as 27, .inl (cI, 30, .inl (upd (σ.2 27) i x))) = M_W cI m0 as th (bs σ 27 i x) := rfl
def m_in (p0 : Int32) (p1 : Int32) (p2 : Int32) : Int32 := if p0 < p1 then 0 else if p2 < p0 then 0 else 1
abbrev rX7_in : Room := { frames := 0, cells := 0, slots := 0, locals := 0 }
theorem fnX7_in : Fn yX7_in wsX7_in cX7_in 3 (some .boolean) 3 rX7_in 0 0 := ⟨⟨_, rfl⟩, rfl, rfl, by decide +kernel⟩
set_option maxHeartbeats 4000000 in
set_option maxRecDepth 100000 in
theorem kX7_in (l : Launch) (p0 : Int32) (p1 : Int32) (p2 : Int32) : S_Met l yX7_in wsX7_in rX7_in [.int p0, .int p1, .int p2] (m_in p0 p1 p2) := by
  refine S_of (n := 3) RX7 (by decide) fnX7_in rfl (Nat.le_of_ble_eq_true rfl) ?_
  intro p e s m args below meth c C ls hl
  have X := And.intro C True.intro
  have hx := X.1.1
  have hb := X.1.2.1
  have hown := X.1.2.2.2.1
  have hts := X.1.2.2.2.2.1
  have hl : lv_has ls 3 [(0, .int p0), (1, .int p1), (2, .int p2)] := hl
  refine lv_iload_n (pc := 0) hx hb dX7_in_0 rfl (lv_at hl 0 rfl) ?_
  refine lv_iload_n (pc := 1) hx hb dX7_in_1 rfl (lv_at hl 1 rfl) ?_
  refine lv_icmp_lt (pc := 2) (tgt := 14) hx hb dX7_in_2 (by decide) (fun c_1 : p0 < p1 => ?_) (fun c_1 : ¬ p0 < p1 => ?_)
  · refine lv_iconst (pc := 14) (v := 0) hx hb dX7_in_14 (by decide) ?_
    exact S_retz (pc := 15) (v := 0) X.1 (by rw [m_in, if_pos c_1]) rfl dX7_in_15
  · refine lv_iload_n (pc := 5) hx hb dX7_in_5 rfl (lv_at hl 0 rfl) ?_
    refine lv_iload_n (pc := 6) hx hb dX7_in_6 rfl (lv_at hl 2 rfl) ?_
    refine lv_icmp_gt (pc := 7) (tgt := 14) hx hb dX7_in_7 (by decide) (fun c_2 : p2 < p0 => ?_) (fun c_2 : ¬ p2 < p0 => ?_)
    · refine lv_iconst (pc := 14) (v := 0) hx hb dX7_in_14 (by decide) ?_
      exact S_retz (pc := 15) (v := 0) X.1 (by rw [m_in, if_neg c_1, if_pos c_2]) rfl dX7_in_15
    · refine lv_iconst (pc := 10) (v := 1) hx hb dX7_in_10 (by decide) ?_
      refine lv_goto (pc := 11) (tgt := 15) hx hb dX7_in_11 (by decide) ?_
      exact S_retz (pc := 15) (v := 1) X.1 (by rw [m_in, if_neg c_1, if_neg c_2]) rfl dX7_in_15
theorem nz_01 {x : Int32} (h : x = 0 ∨ x = 1) : narrow .boolean (.int x) = .int x := by rcases h with rfl | rfl <;> rfl
theorem m_in01 (a b c : Int32) : m_in a b c = 0 ∨ m_in a b c = 1 := by
  rw [m_in]
  split
  · exact Or.inl rfl
  · split
    · exact Or.inl rfl
    · exact Or.inr rfl
def m_isPlace (p0 : Int32) : Int32 := (m_in p0 0 3)
abbrev rX7_isPlace : Room := { frames := 1, cells := 0, slots := 0, locals := 22 }
theorem fnX7_isPlace : Fn yX7_isPlace wsX7_isPlace cX7_isPlace 1 (some .boolean) 1 rX7_isPlace 0 0 := ⟨⟨_, rfl⟩, rfl, rfl, by decide +kernel⟩
set_option maxHeartbeats 4000000 in
set_option maxRecDepth 100000 in
theorem kX7_isPlace (l : Launch) (p0 : Int32) : S_Met l yX7_isPlace wsX7_isPlace rX7_isPlace [.int p0] (m_isPlace p0) := by
  refine S_of (n := 1) RX7 (by decide) fnX7_isPlace rfl (Nat.le_of_ble_eq_true rfl) ?_
  intro p e s m args below meth c C ls hl
  have X := And.intro C True.intro
  have hx := X.1.1
  have hb := X.1.2.1
  have hown := X.1.2.2.2.1
  have hts := X.1.2.2.2.2.1
  have hl : lv_has ls 1 [(0, .int p0)] := hl
  refine lv_iload_n (pc := 0) hx hb dX7_isPlace_0 rfl (lv_at hl 0 rfl) ?_
  refine lv_iconst (pc := 1) (v := 0) hx hb dX7_isPlace_1 (by decide) ?_
  refine lv_iconst (pc := 2) (v := 3) hx hb dX7_isPlace_2 (by decide) ?_
  refine S_call (pc := 3) (As := [.int p0, .int 0, .int 3]) (rest := []) (r := m_in p0 0 3) X.1 hl.1 (kX7_in l p0 0 3) fnX7_in gX7_isPlace_X7_in rfl rfl ⟨Nat.le_of_ble_eq_true rfl, Nat.le_of_ble_eq_true rfl⟩ (Nat.le_of_ble_eq_true rfl) ⟨Nat.le_of_ble_eq_true rfl, Nat.le_of_ble_eq_true rfl⟩ dX7_isPlace_3 ?_
  exact S_retz (pc := 6) (v := m_in p0 0 3) X.1 (by rw [m_isPlace]) (nz_01 (m_in01 _ _ _)) dX7_isPlace_6
def m_least (p0 : Int32) (p1 : Int32) : Int32 := if p1 ≤ p0 then p1 else p0
abbrev rX7_least : Room := { frames := 0, cells := 0, slots := 0, locals := 0 }
theorem fnX7_least : Fn yX7_least wsX7_least cX7_least 2 (some .int) 2 rX7_least 0 0 := ⟨⟨_, rfl⟩, rfl, rfl, by decide +kernel⟩
set_option maxHeartbeats 4000000 in
set_option maxRecDepth 100000 in
theorem kX7_least (l : Launch) (p0 : Int32) (p1 : Int32) : S_Met l yX7_least wsX7_least rX7_least [.int p0, .int p1] (m_least p0 p1) := by
  refine S_of (n := 2) RX7 (by decide) fnX7_least rfl (Nat.le_of_ble_eq_true rfl) ?_
  intro p e s m args below meth c C ls hl
  have X := And.intro C True.intro
  have hx := X.1.1
  have hb := X.1.2.1
  have hown := X.1.2.2.2.1
  have hts := X.1.2.2.2.2.1
  have hl : lv_has ls 2 [(0, .int p0), (1, .int p1)] := hl
  refine lv_iload_n (pc := 0) hx hb dX7_least_0 rfl (lv_at hl 0 rfl) ?_
  refine lv_iload_n (pc := 1) hx hb dX7_least_1 rfl (lv_at hl 1 rfl) ?_
  refine lv_icmp_ge (pc := 2) (tgt := 9) hx hb dX7_least_2 (by decide) (fun c_1 : p1 ≤ p0 => ?_) (fun c_1 : ¬ p1 ≤ p0 => ?_)
  · refine lv_iload_n (pc := 9) hx hb dX7_least_9 rfl (lv_at hl 1 rfl) ?_
    exact S_ret (pc := 10) (v := p1) X.1 (by rw [m_least, if_pos c_1]) dX7_least_10
  · refine lv_iload_n (pc := 5) hx hb dX7_least_5 rfl (lv_at hl 0 rfl) ?_
    refine lv_goto (pc := 6) (tgt := 10) hx hb dX7_least_6 (by decide) ?_
    exact S_ret (pc := 10) (v := p0) X.1 (by rw [m_least, if_neg c_1]) dX7_least_10
def m_strengthOf (p0 : Int32) (p1 : Int32) : Int32 := if p1 = 0 then 0 else (p0 / p1)
abbrev rX7_strengthOf : Room := { frames := 0, cells := 0, slots := 0, locals := 0 }
theorem fnX7_strengthOf : Fn yX7_strengthOf wsX7_strengthOf cX7_strengthOf 2 (some .int) 2 rX7_strengthOf 0 0 := ⟨⟨_, rfl⟩, rfl, rfl, by decide +kernel⟩
set_option maxHeartbeats 4000000 in
set_option maxRecDepth 100000 in
theorem kX7_strengthOf (l : Launch) (p0 : Int32) (p1 : Int32) : S_Met l yX7_strengthOf wsX7_strengthOf rX7_strengthOf [.int p0, .int p1] (m_strengthOf p0 p1) := by
  refine S_of (n := 2) RX7 (by decide) fnX7_strengthOf rfl (Nat.le_of_ble_eq_true rfl) ?_
  intro p e s m args below meth c C ls hl
  have X := And.intro C True.intro
  have hx := X.1.1
  have hb := X.1.2.1
  have hown := X.1.2.2.2.1
  have hts := X.1.2.2.2.2.1
  have hl : lv_has ls 2 [(0, .int p0), (1, .int p1)] := hl
  refine lv_iload_n (pc := 0) hx hb dX7_strengthOf_0 rfl (lv_at hl 1 rfl) ?_
  refine lv_if_ne (pc := 1) (tgt := 8) hx hb dX7_strengthOf_1 (by decide) (fun c_1 : ¬ p1 = 0 => ?_) (fun c_1 : p1 = 0 => ?_)
  · refine lv_iload_n (pc := 8) hx hb dX7_strengthOf_8 rfl (lv_at hl 0 rfl) ?_
    refine lv_iload_n (pc := 9) hx hb dX7_strengthOf_9 rfl (lv_at hl 1 rfl) ?_
    refine lv_idiv (pc := 10) hx hb dX7_strengthOf_10 c_1 ?_
    exact S_ret (pc := 11) (v := p0 / p1) X.1 (by rw [m_strengthOf, if_neg c_1]) dX7_strengthOf_11
  · refine lv_iconst (pc := 4) (v := 0) hx hb dX7_strengthOf_4 (by decide) ?_
    refine lv_goto (pc := 5) (tgt := 11) hx hb dX7_strengthOf_5 (by decide) ?_
    exact S_ret (pc := 11) (v := 0) X.1 (by rw [m_strengthOf, if_pos c_1]) dX7_strengthOf_11
def m_part (p0 : Int32) (p1 : Int32) (p2 : Int32) : Int32 := (((p0.toInt64 * p1.toInt64) / p2.toInt64).toInt32)
abbrev rX7_part : Room := { frames := 0, cells := 0, slots := 0, locals := 0 }
theorem fnX7_part : Fn yX7_part wsX7_part cX7_part 3 (some .int) 3 rX7_part 0 0 := ⟨⟨_, rfl⟩, rfl, rfl, by decide +kernel⟩
set_option maxHeartbeats 4000000 in
set_option maxRecDepth 100000 in
theorem kX7_part (l : Launch) (p0 : Int32) (p1 : Int32) (p2 : Int32) (h0 : ¬ p2 = 0) : S_Met l yX7_part wsX7_part rX7_part [.int p0, .int p1, .int p2] (m_part p0 p1 p2) := by
  refine S_of (n := 3) RX7 (by decide) fnX7_part rfl (Nat.le_of_ble_eq_true rfl) ?_
  intro p e s m args below meth c C ls hl
  have X := And.intro C True.intro
  have hx := X.1.1
  have hb := X.1.2.1
  have hown := X.1.2.2.2.1
  have hts := X.1.2.2.2.2.1
  have hl : lv_has ls 3 [(0, .int p0), (1, .int p1), (2, .int p2)] := hl
  refine lv_iload_n (pc := 0) hx hb dX7_part_0 rfl (lv_at hl 0 rfl) ?_
  refine lv_i2l (pc := 1) (v := p0.toInt64) hx hb dX7_part_1 rfl ?_
  refine lv_iload_n (pc := 2) hx hb dX7_part_2 rfl (lv_at hl 1 rfl) ?_
  refine lv_i2l (pc := 3) (v := p1.toInt64) hx hb dX7_part_3 rfl ?_
  refine lv_lmul (pc := 4) hx hb dX7_part_4 ?_
  refine lv_iload_n (pc := 5) hx hb dX7_part_5 rfl (lv_at hl 2 rfl) ?_
  refine lv_i2l (pc := 6) (v := p2.toInt64) hx hb dX7_part_6 rfl ?_
  refine lv_ldiv (pc := 7) hx hb dX7_part_7 (t64_ne h0) ?_
  refine lv_l2i (pc := 8) (v := ((p0.toInt64 * p1.toInt64) / p2.toInt64).toInt32) hx hb dX7_part_8 rfl ?_
  exact S_ret (pc := 9) (v := ((p0.toInt64 * p1.toInt64) / p2.toInt64).toInt32) X.1 (by rw [m_part]) dX7_part_9
def m_isVessel (σ : Sg) (p0 : Int32) : Int32 := (m_in p0 0 ((σ.1 2) - 1))
abbrev rX7_isVessel : Room := { frames := 1, cells := 0, slots := 0, locals := 22 }
theorem fnX7_isVessel : Fn yX7_isVessel wsX7_isVessel cX7_isVessel 2 (some .boolean) 1 rX7_isVessel 0 0 := ⟨⟨_, rfl⟩, rfl, rfl, by decide +kernel⟩
theorem inX7_isVessel : ∀ w ∈ wsX70, w ∈ wsX7_isVessel := fun w h => List.mem_cons_of_mem _ (List.mem_append_right _ h)
set_option maxHeartbeats 4000000 in
set_option maxRecDepth 100000 in
theorem kX7_isVessel (l : Launch) (D : va_G) (cI : ClassId) (m0 : Nat) (as : Nat → Nat) (th : Int32) (σ : Sg) (p0 : Int32) : M_Mi l yX7_isVessel wsX7_isVessel rX7_isVessel D cI m0 as th σ [.int p0] ((th, m_isVessel σ p0, σ)) := by
  refine M_body (n := 1) (Qc := fun A => M_Qi D cI m0 as ((th, m_isVessel σ p0, σ)) A) rfl fnX7_isVessel inX7_isVessel (Nat.le_of_ble_eq_true rfl) ?_
  intro p e s m args below meth c X A P ls hl
  have hx := X.1.1
  have hb := X.1.2.1
  have hown := X.1.2.2.2.1
  have hts := X.1.2.2.2.2.1
  have hl : lv_has ls 2 [(0, .ref m0), (1, .int p0)] := hl
  refine lv_iload_n (pc := 0) hx hb dX7_isVessel_0 rfl (lv_at hl 1 rfl) ?_
  refine lv_iconst (pc := 1) (v := 0) hx hb dX7_isVessel_1 (by decide) ?_
  refine lv_aload_n (pc := 2) hx hb dX7_isVessel_2 rfl (lv_at hl 0 rfl) ?_
  refine M_get (pc := 3) (v := .int (σ.1 2)) X P 2 (Nat.le_of_ble_eq_true rfl) (List.mem_of_getElem? (i := 1) rfl) rfl dX7_isVessel_3 ?_
  refine lv_iconst (pc := 6) (v := 1) hx hb dX7_isVessel_6 (by decide) ?_
  refine lv_isub (pc := 7) hx hb dX7_isVessel_7 ?_
  refine S_call (pc := 8) (As := [.int p0, .int 0, .int ((σ.1 2) - 1)]) (rest := []) (r := m_in p0 0 ((σ.1 2) - 1)) X.1 hl.1 (kX7_in l p0 0 ((σ.1 2) - 1)) fnX7_in gX7_isVessel_X7_in rfl rfl ⟨Nat.le_of_ble_eq_true rfl, Nat.le_of_ble_eq_true rfl⟩ (Nat.le_of_ble_eq_true rfl) ⟨Nat.le_of_ble_eq_true rfl, Nat.le_of_ble_eq_true rfl⟩ dX7_isVessel_8 ?_
  exact M_retz (pc := 11) (v := m_in p0 0 ((σ.1 2) - 1)) X P (by rw [m_isVessel]) (nz_01 (m_in01 _ _ _)) dX7_isVessel_11
theorem in_vp {x hi : Int32} {n : Nat} (hh : hi.toInt = (n : Int)) (c : ¬ m_in x 0 hi = 0) : vp_in x (n + 1) := by
  rw [m_in] at c
  by_cases c1 : x < 0
  · rw [if_pos c1] at c; exact absurd rfl c
  · rw [if_neg c1] at c
    by_cases c2 : hi < x
    · rw [if_pos c2] at c; exact absurd rfl c
    · rw [Int32.lt_iff_toInt_lt] at c1 c2
      rw [hh] at c2
      rw [vp_in_iff]
      have e0 : (0 : Int32).toInt = 0 := by decide
      rw [e0] at c1
      omega
theorem cnt_pred {σ : Sg} {j n : Nat} (h : Cnt σ j n) (hn : n < 2 ^ 31) : (σ.1 j - 1).toInt = (ix (σ.1 j) : Int) - 1 := by
  have h3 : Int32.toInt (σ.1 j) = (ix (σ.1 j) : Int) := by
    have := nI_toInt (Nat.lt_of_le_of_lt h.2 hn)
    rw [← h.1] at this
    exact this
  have h4 := h.2
  rw [Int32.toInt_sub, h3]
  have e1 : (1 : Int32).toInt = 1 := by decide
  rw [e1]
  exact Int.bmod_eq_of_le (by omega) (by omega)
theorem in_cnt {σ : Sg} {j n : Nat} {x : Int32} (h : Cnt σ j n) (hn : n < 2 ^ 31) (c : ¬ m_in x 0 (σ.1 j - 1) = 0) : x = nI (ix x) ∧ ix x < ix (σ.1 j) := by
  rw [m_in] at c
  by_cases c1 : x < 0
  · rw [if_pos c1] at c; exact absurd rfl c
  · rw [if_neg c1] at c
    by_cases c2 : (σ.1 j - 1) < x
    · rw [if_pos c2] at c; exact absurd rfl c
    · rw [Int32.lt_iff_toInt_lt, cnt_pred h hn] at c2
      obtain ⟨i, hi, rfl⟩ := nI_of c1
      have e2 : ix (nI i) = i := nI_clamp hi
      rw [nI_toInt hi] at c2
      rw [e2]
      exact ⟨rfl, by omega⟩
theorem cnt_vp {σ : Sg} {j n : Nat} {x : Int32} (h : Cnt σ j n) (hn : n < 2 ^ 31) (q : x = nI (ix x) ∧ ix x < ix (σ.1 j)) : vp_in x n := by
  rw [q.1]
  exact vp_in_nI (Nat.lt_of_lt_of_le q.2 h.2) hn
theorem isV_lt {σ : Sg} {x : Int32} (h : Cnt σ 2 10) (c : ¬ m_isVessel σ x = 0) : x = nI (ix x) ∧ ix x < ix (σ.1 2) := in_cnt h (by decide) (by rw [m_isVessel] at c; exact c)
theorem isV_in {σ : Sg} {x : Int32} (h : Cnt σ 2 10) (c : ¬ m_isVessel σ x = 0) : vp_in x 10 := cnt_vp h (by decide) (isV_lt h c)
theorem isM_lt {σ : Sg} {x : Int32} (h : Cnt σ 22 30) (c : ¬ m_in x 0 (σ.1 22 - 1) = 0) : x = nI (ix x) ∧ ix x < ix (σ.1 22) := in_cnt h (by decide) c
theorem isM_in {σ : Sg} {x : Int32} (h : Cnt σ 22 30) (c : ¬ m_in x 0 (σ.1 22 - 1) = 0) : vp_in x 30 := cnt_vp h (by decide) (isM_lt h c)
def m_hasPart (σ : Sg) (p0 : Int32) (p1 : Int32) : Int32 := if (σ.2 5 (ix p0)) < p1 then 0 else 1
abbrev rX7_hasPart : Room := { frames := 0, cells := 0, slots := 0, locals := 0 }
theorem fnX7_hasPart : Fn yX7_hasPart wsX7_hasPart cX7_hasPart 3 (some .boolean) 2 rX7_hasPart 0 0 := ⟨⟨_, rfl⟩, rfl, rfl, by decide +kernel⟩
theorem inX7_hasPart : ∀ w ∈ wsX70, w ∈ wsX7_hasPart := fun w h => List.mem_cons_of_mem _ (List.mem_append_right _ h)
set_option maxHeartbeats 4000000 in
set_option maxRecDepth 100000 in
theorem kX7_hasPart (l : Launch) (D : va_G) (cI : ClassId) (m0 : Nat) (as : Nat → Nat) (th : Int32) (σ : Sg) (p0 : Int32) (p1 : Int32) (h0 : vp_in p0 10) : M_Mi l yX7_hasPart wsX7_hasPart rX7_hasPart D cI m0 as th σ [.int p0, .int p1] ((th, m_hasPart σ p0 p1, σ)) := by
  refine M_body (n := 2) (Qc := fun A => M_Qi D cI m0 as ((th, m_hasPart σ p0 p1, σ)) A) rfl fnX7_hasPart inX7_hasPart (Nat.le_of_ble_eq_true rfl) ?_
  intro p e s m args below meth c X A P ls hl
  have hx := X.1.1
  have hb := X.1.2.1
  have hown := X.1.2.2.2.1
  have hts := X.1.2.2.2.2.1
  have hl : lv_has ls 3 [(0, .ref m0), (1, .int p0), (2, .int p1)] := hl
  refine lv_iload_n (pc := 0) hx hb dX7_hasPart_0 rfl (lv_at hl 2 rfl) ?_
  refine lv_aload_n (pc := 1) hx hb dX7_hasPart_1 rfl (lv_at hl 0 rfl) ?_
  refine M_get (pc := 2) (v := .ref (as 5)) X P 5 (Nat.le_of_ble_eq_true rfl) (List.mem_of_getElem? (i := 1) rfl) rfl dX7_hasPart_2 ?_
  refine lv_iload_n (pc := 5) hx hb dX7_hasPart_5 rfl (lv_at hl 1 rfl) ?_
  refine M_ald (pc := 6) (a := as 5) (n := 10) (f := σ.2 5) X P 3 rfl h0 dX7_hasPart_6 ?_
  refine lv_icmp_gt (pc := 7) (tgt := 14) hx hb dX7_hasPart_7 (by decide) (fun c_1 : (σ.2 5 (ix p0)) < p1 => ?_) (fun c_1 : ¬ (σ.2 5 (ix p0)) < p1 => ?_)
  · refine lv_iconst (pc := 14) (v := 0) hx hb dX7_hasPart_14 (by decide) ?_
    exact M_retz (pc := 15) (v := 0) X P (by rw [m_hasPart, if_pos c_1]) rfl dX7_hasPart_15
  · refine lv_iconst (pc := 10) (v := 1) hx hb dX7_hasPart_10 (by decide) ?_
    refine lv_goto (pc := 11) (tgt := 15) hx hb dX7_hasPart_11 (by decide) ?_
    exact M_retz (pc := 15) (v := 1) X P (by rw [m_hasPart, if_neg c_1]) rfl dX7_hasPart_15
def m_hasRoom (σ : Sg) (p0 : Int32) (p1 : Int32) : Int32 := if (σ.2 4 (ix p0)) < ((σ.2 5 (ix p0)) + p1) then 0 else 1
abbrev rX7_hasRoom : Room := { frames := 0, cells := 0, slots := 0, locals := 0 }
theorem fnX7_hasRoom : Fn yX7_hasRoom wsX7_hasRoom cX7_hasRoom 3 (some .boolean) 2 rX7_hasRoom 0 0 := ⟨⟨_, rfl⟩, rfl, rfl, by decide +kernel⟩
theorem inX7_hasRoom : ∀ w ∈ wsX70, w ∈ wsX7_hasRoom := fun w h => List.mem_cons_of_mem _ (List.mem_append_right _ h)
set_option maxHeartbeats 4000000 in
set_option maxRecDepth 100000 in
theorem kX7_hasRoom (l : Launch) (D : va_G) (cI : ClassId) (m0 : Nat) (as : Nat → Nat) (th : Int32) (σ : Sg) (p0 : Int32) (p1 : Int32) (h0 : vp_in p0 10) : M_Mi l yX7_hasRoom wsX7_hasRoom rX7_hasRoom D cI m0 as th σ [.int p0, .int p1] ((th, m_hasRoom σ p0 p1, σ)) := by
  refine M_body (n := 2) (Qc := fun A => M_Qi D cI m0 as ((th, m_hasRoom σ p0 p1, σ)) A) rfl fnX7_hasRoom inX7_hasRoom (Nat.le_of_ble_eq_true rfl) ?_
  intro p e s m args below meth c X A P ls hl
  have hx := X.1.1
  have hb := X.1.2.1
  have hown := X.1.2.2.2.1
  have hts := X.1.2.2.2.2.1
  have hl : lv_has ls 3 [(0, .ref m0), (1, .int p0), (2, .int p1)] := hl
  refine lv_aload_n (pc := 0) hx hb dX7_hasRoom_0 rfl (lv_at hl 0 rfl) ?_
  refine M_get (pc := 1) (v := .ref (as 5)) X P 5 (Nat.le_of_ble_eq_true rfl) (List.mem_of_getElem? (i := 1) rfl) rfl dX7_hasRoom_1 ?_
  refine lv_iload_n (pc := 4) hx hb dX7_hasRoom_4 rfl (lv_at hl 1 rfl) ?_
  refine M_ald (pc := 5) (a := as 5) (n := 10) (f := σ.2 5) X P 3 rfl h0 dX7_hasRoom_5 ?_
  refine lv_iload_n (pc := 6) hx hb dX7_hasRoom_6 rfl (lv_at hl 2 rfl) ?_
  refine lv_iadd (pc := 7) hx hb dX7_hasRoom_7 ?_
  refine lv_aload_n (pc := 8) hx hb dX7_hasRoom_8 rfl (lv_at hl 0 rfl) ?_
  refine M_get (pc := 9) (v := .ref (as 4)) X P 4 (Nat.le_of_ble_eq_true rfl) (List.mem_of_getElem? (i := 2) rfl) rfl dX7_hasRoom_9 ?_
  refine lv_iload_n (pc := 12) hx hb dX7_hasRoom_12 rfl (lv_at hl 1 rfl) ?_
  refine M_ald (pc := 13) (a := as 4) (n := 10) (f := σ.2 4) X P 2 rfl h0 dX7_hasRoom_13 ?_
  refine lv_icmp_gt (pc := 14) (tgt := 21) hx hb dX7_hasRoom_14 (by decide) (fun c_1 : (σ.2 4 (ix p0)) < ((σ.2 5 (ix p0)) + p1) => ?_) (fun c_1 : ¬ (σ.2 4 (ix p0)) < ((σ.2 5 (ix p0)) + p1) => ?_)
  · refine lv_iconst (pc := 21) (v := 0) hx hb dX7_hasRoom_21 (by decide) ?_
    exact M_retz (pc := 22) (v := 0) X P (by rw [m_hasRoom, if_pos c_1]) rfl dX7_hasRoom_22
  · refine lv_iconst (pc := 17) (v := 1) hx hb dX7_hasRoom_17 (by decide) ?_
    refine lv_goto (pc := 18) (tgt := 22) hx hb dX7_hasRoom_18 (by decide) ?_
    exact M_retz (pc := 22) (v := 1) X P (by rw [m_hasRoom, if_neg c_1]) rfl dX7_hasRoom_22
def m_dutyFor (σ : Sg) (p0 : Int32) (p1 : Int32) : Int32 := (((p0.toInt64 * p1.toInt64) / 1000).toInt32)
abbrev rX7_dutyFor : Room := { frames := 0, cells := 0, slots := 0, locals := 0 }
theorem fnX7_dutyFor : Fn yX7_dutyFor wsX7_dutyFor cX7_dutyFor 3 (some .int) 2 rX7_dutyFor 0 0 := ⟨⟨_, rfl⟩, rfl, rfl, by decide +kernel⟩
theorem inX7_dutyFor : True := trivial
set_option maxHeartbeats 4000000 in
set_option maxRecDepth 100000 in
theorem kX7_dutyFor (l : Launch) (D : va_G) (cI : ClassId) (m0 : Nat) (as : Nat → Nat) (th : Int32) (σ : Sg) (p0 : Int32) (p1 : Int32) : M_Mi l yX7_dutyFor wsX7_dutyFor rX7_dutyFor D cI m0 as th σ [.int p0, .int p1] ((th, m_dutyFor σ p0 p1, σ)) := by
  refine M_body (n := 2) (Qc := fun A => M_Qi D cI m0 as ((th, m_dutyFor σ p0 p1, σ)) A) rfl fnX7_dutyFor inX7_dutyFor (Nat.le_of_ble_eq_true rfl) ?_
  intro p e s m args below meth c X A P ls hl
  have hx := X.1.1
  have hb := X.1.2.1
  have hown := X.1.2.2.2.1
  have hts := X.1.2.2.2.2.1
  have hl : lv_has ls 3 [(0, .ref m0), (1, .int p0), (2, .int p1)] := hl
  refine lv_iload_n (pc := 0) hx hb dX7_dutyFor_0 rfl (lv_at hl 1 rfl) ?_
  refine lv_i2l (pc := 1) (v := p0.toInt64) hx hb dX7_dutyFor_1 rfl ?_
  refine lv_iload_n (pc := 2) hx hb dX7_dutyFor_2 rfl (lv_at hl 2 rfl) ?_
  refine lv_i2l (pc := 3) (v := p1.toInt64) hx hb dX7_dutyFor_3 rfl ?_
  refine lv_lmul (pc := 4) hx hb dX7_dutyFor_4 ?_
  refine lv_ldc2 (pc := 5) (v := 1000) hx hb hown (hts _ (List.mem_of_getElem? (i := 1) rfl)) dX7_dutyFor_5 ?_
  refine lv_ldiv (pc := 8) hx hb dX7_dutyFor_8 (by decide) ?_
  refine lv_l2i (pc := 9) (v := ((p0.toInt64 * p1.toInt64) / 1000).toInt32) hx hb dX7_dutyFor_9 rfl ?_
  exact M_ret (pc := 10) (v := ((p0.toInt64 * p1.toInt64) / 1000).toInt32) X P (by rw [m_dutyFor]) dX7_dutyFor_10
def m_with (σ : Sg) (p0 : Int32) (p1 : Int32) (p2 : Int32) : Int32 := if p1 = 0 then ((σ.2 5 (ix p0)) + p1) else if (σ.2 5 (ix p0)) = 0 then ((σ.2 5 (ix p0)) + p1) else if 0 ≤ ((m_strengthOf (σ.2 6 (ix p0)) (σ.2 5 (ix p0))) - (m_strengthOf p2 p1)) then (((σ.2 5 (ix p0)) + p1) - (((m_least (σ.2 5 (ix p0)) p1) * ((m_strengthOf (σ.2 6 (ix p0)) (σ.2 5 (ix p0))) - (m_strengthOf p2 p1))) / 10000)) else (((σ.2 5 (ix p0)) + p1) - (((m_least (σ.2 5 (ix p0)) p1) * (-((m_strengthOf (σ.2 6 (ix p0)) (σ.2 5 (ix p0))) - (m_strengthOf p2 p1)))) / 10000))
abbrev rX7_with : Room := { frames := 1, cells := 0, slots := 0, locals := 21 }
theorem fnX7_with : Fn yX7_with wsX7_with cX7_with 5 (some .int) 3 rX7_with 0 0 := ⟨⟨_, rfl⟩, rfl, rfl, by decide +kernel⟩
theorem inX7_with : ∀ w ∈ wsX70, w ∈ wsX7_with := fun w h => List.mem_cons_of_mem _ (List.mem_append_right _ h)
set_option maxHeartbeats 4000000 in
set_option maxRecDepth 100000 in
theorem kX7_with (l : Launch) (D : va_G) (cI : ClassId) (m0 : Nat) (as : Nat → Nat) (th : Int32) (σ : Sg) (p0 : Int32) (p1 : Int32) (p2 : Int32) (h0 : vp_in p0 10) : M_Mi l yX7_with wsX7_with rX7_with D cI m0 as th σ [.int p0, .int p1, .int p2] ((th, m_with σ p0 p1 p2, σ)) := by
  refine M_body (n := 3) (Qc := fun A => M_Qi D cI m0 as ((th, m_with σ p0 p1 p2, σ)) A) rfl fnX7_with inX7_with (Nat.le_of_ble_eq_true rfl) ?_
  intro p e s m args below meth c X A P ls hl
  have hx := X.1.1
  have hb := X.1.2.1
  have hown := X.1.2.2.2.1
  have hts := X.1.2.2.2.2.1
  have hl : lv_has ls 5 [(0, .ref m0), (1, .int p0), (2, .int p1), (3, .int p2)] := hl
  refine lv_iload_n (pc := 0) hx hb dX7_with_0 rfl (lv_at hl 2 rfl) ?_
  refine lv_if_eq (pc := 1) (tgt := 13) hx hb dX7_with_1 (by decide) (fun c_1 : p1 = 0 => ?_) (fun c_1 : ¬ p1 = 0 => ?_)
  · refine lv_aload_n (pc := 13) hx hb dX7_with_13 rfl (lv_at hl 0 rfl) ?_
    refine M_get (pc := 14) (v := .ref (as 5)) X P 5 (Nat.le_of_ble_eq_true rfl) (List.mem_of_getElem? (i := 1) rfl) rfl dX7_with_14 ?_
    refine lv_iload_n (pc := 17) hx hb dX7_with_17 rfl (lv_at hl 1 rfl) ?_
    refine M_ald (pc := 18) (a := as 5) (n := 10) (f := σ.2 5) X P 3 rfl h0 dX7_with_18 ?_
    refine lv_iload_n (pc := 19) hx hb dX7_with_19 rfl (lv_at hl 2 rfl) ?_
    refine lv_iadd (pc := 20) hx hb dX7_with_20 ?_
    exact M_ret (pc := 21) (v := (σ.2 5 (ix p0)) + p1) X P (by rw [m_with, if_pos c_1]) dX7_with_21
  · refine lv_aload_n (pc := 4) hx hb dX7_with_4 rfl (lv_at hl 0 rfl) ?_
    refine M_get (pc := 5) (v := .ref (as 5)) X P 5 (Nat.le_of_ble_eq_true rfl) (List.mem_of_getElem? (i := 1) rfl) rfl dX7_with_5 ?_
    refine lv_iload_n (pc := 8) hx hb dX7_with_8 rfl (lv_at hl 1 rfl) ?_
    refine M_ald (pc := 9) (a := as 5) (n := 10) (f := σ.2 5) X P 3 rfl h0 dX7_with_9 ?_
    refine lv_if_ne (pc := 10) (tgt := 22) hx hb dX7_with_10 (by decide) (fun c_2 : ¬ (σ.2 5 (ix p0)) = 0 => ?_) (fun c_2 : (σ.2 5 (ix p0)) = 0 => ?_)
    · refine lv_aload_n (pc := 22) hx hb dX7_with_22 rfl (lv_at hl 0 rfl) ?_
      refine M_get (pc := 23) (v := .ref (as 6)) X P 6 (Nat.le_of_ble_eq_true rfl) (List.mem_of_getElem? (i := 2) rfl) rfl dX7_with_23 ?_
      refine lv_iload_n (pc := 26) hx hb dX7_with_26 rfl (lv_at hl 1 rfl) ?_
      refine M_ald (pc := 27) (a := as 6) (n := 10) (f := σ.2 6) X P 4 rfl h0 dX7_with_27 ?_
      refine lv_aload_n (pc := 28) hx hb dX7_with_28 rfl (lv_at hl 0 rfl) ?_
      refine M_get (pc := 29) (v := .ref (as 5)) X P 5 (Nat.le_of_ble_eq_true rfl) (List.mem_of_getElem? (i := 1) rfl) rfl dX7_with_29 ?_
      refine lv_iload_n (pc := 32) hx hb dX7_with_32 rfl (lv_at hl 1 rfl) ?_
      refine M_ald (pc := 33) (a := as 5) (n := 10) (f := σ.2 5) X P 3 rfl h0 dX7_with_33 ?_
      refine S_call (pc := 34) (As := [.int (σ.2 6 (ix p0)), .int (σ.2 5 (ix p0))]) (rest := []) (r := m_strengthOf (σ.2 6 (ix p0)) (σ.2 5 (ix p0))) X.1 hl.1 (kX7_strengthOf l (σ.2 6 (ix p0)) (σ.2 5 (ix p0))) fnX7_strengthOf gX7_with_X7_strengthOf rfl rfl ⟨Nat.le_of_ble_eq_true rfl, Nat.le_of_ble_eq_true rfl⟩ (Nat.le_of_ble_eq_true rfl) ⟨Nat.le_of_ble_eq_true rfl, Nat.le_of_ble_eq_true rfl⟩ dX7_with_34 ?_
      refine lv_iload_n (pc := 37) hx hb dX7_with_37 rfl (lv_at hl 3 rfl) ?_
      refine lv_iload_n (pc := 38) hx hb dX7_with_38 rfl (lv_at hl 2 rfl) ?_
      refine S_call (pc := 39) (As := [.int p2, .int p1]) (rest := [.int (m_strengthOf (σ.2 6 (ix p0)) (σ.2 5 (ix p0)))]) (r := m_strengthOf p2 p1) X.1 hl.1 (kX7_strengthOf l p2 p1) fnX7_strengthOf gX7_with_X7_strengthOf rfl rfl ⟨Nat.le_of_ble_eq_true rfl, Nat.le_of_ble_eq_true rfl⟩ (Nat.le_of_ble_eq_true rfl) ⟨Nat.le_of_ble_eq_true rfl, Nat.le_of_ble_eq_true rfl⟩ dX7_with_39 ?_
      refine lv_isub (pc := 42) hx hb dX7_with_42 ?_
      refine lv_istore (pc := 43) (lv' := [(4, .int ((m_strengthOf (σ.2 6 (ix p0)) (σ.2 5 (ix p0))) - (m_strengthOf p2 p1))), (0, .ref m0), (1, .int p0), (2, .int p1), (3, .int p2)]) hx hb dX7_with_43 hl (by decide) rfl (fun ls hl => ?_)
      refine lv_aload_n (pc := 45) hx hb dX7_with_45 rfl (lv_at hl 1 rfl) ?_
      refine M_get (pc := 46) (v := .ref (as 5)) X P 5 (Nat.le_of_ble_eq_true rfl) (List.mem_of_getElem? (i := 1) rfl) rfl dX7_with_46 ?_
      refine lv_iload_n (pc := 49) hx hb dX7_with_49 rfl (lv_at hl 2 rfl) ?_
      refine M_ald (pc := 50) (a := as 5) (n := 10) (f := σ.2 5) X P 3 rfl h0 dX7_with_50 ?_
      refine lv_iload_n (pc := 51) hx hb dX7_with_51 rfl (lv_at hl 3 rfl) ?_
      refine lv_iadd (pc := 52) hx hb dX7_with_52 ?_
      refine lv_aload_n (pc := 53) hx hb dX7_with_53 rfl (lv_at hl 1 rfl) ?_
      refine M_get (pc := 54) (v := .ref (as 5)) X P 5 (Nat.le_of_ble_eq_true rfl) (List.mem_of_getElem? (i := 1) rfl) rfl dX7_with_54 ?_
      refine lv_iload_n (pc := 57) hx hb dX7_with_57 rfl (lv_at hl 2 rfl) ?_
      refine M_ald (pc := 58) (a := as 5) (n := 10) (f := σ.2 5) X P 3 rfl h0 dX7_with_58 ?_
      refine lv_iload_n (pc := 59) hx hb dX7_with_59 rfl (lv_at hl 3 rfl) ?_
      refine S_call (pc := 60) (As := [.int (σ.2 5 (ix p0)), .int p1]) (rest := [.int ((σ.2 5 (ix p0)) + p1)]) (r := m_least (σ.2 5 (ix p0)) p1) X.1 hl.1 (kX7_least l (σ.2 5 (ix p0)) p1) fnX7_least gX7_with_X7_least rfl rfl ⟨Nat.le_of_ble_eq_true rfl, Nat.le_of_ble_eq_true rfl⟩ (Nat.le_of_ble_eq_true rfl) ⟨Nat.le_of_ble_eq_true rfl, Nat.le_of_ble_eq_true rfl⟩ dX7_with_60 ?_
      refine lv_iload (pc := 63) hx hb dX7_with_63 (lv_at hl 0 rfl) ?_
      refine lv_if_ge (pc := 65) (tgt := 74) hx hb dX7_with_65 (by decide) (fun c_3 : 0 ≤ ((m_strengthOf (σ.2 6 (ix p0)) (σ.2 5 (ix p0))) - (m_strengthOf p2 p1)) => ?_) (fun c_3 : ¬ 0 ≤ ((m_strengthOf (σ.2 6 (ix p0)) (σ.2 5 (ix p0))) - (m_strengthOf p2 p1)) => ?_)
      · refine lv_iload (pc := 74) hx hb dX7_with_74 (lv_at hl 0 rfl) ?_
        refine lv_imul (pc := 76) hx hb dX7_with_76 ?_
        refine lv_sipush (pc := 77) (v := 10000) hx hb dX7_with_77 (by decide) ?_
        refine lv_idiv (pc := 80) hx hb dX7_with_80 (by decide) ?_
        refine lv_isub (pc := 81) hx hb dX7_with_81 ?_
        exact M_ret (pc := 82) (v := ((σ.2 5 (ix p0)) + p1) - (((m_least (σ.2 5 (ix p0)) p1) * ((m_strengthOf (σ.2 6 (ix p0)) (σ.2 5 (ix p0))) - (m_strengthOf p2 p1))) / 10000)) X P (by rw [m_with, if_neg c_1, if_neg c_2, if_pos c_3]) dX7_with_82
      · refine lv_iload (pc := 68) hx hb dX7_with_68 (lv_at hl 0 rfl) ?_
        refine lv_ineg (pc := 70) hx hb dX7_with_70 ?_
        refine lv_goto (pc := 71) (tgt := 76) hx hb dX7_with_71 (by decide) ?_
        refine lv_imul (pc := 76) hx hb dX7_with_76 ?_
        refine lv_sipush (pc := 77) (v := 10000) hx hb dX7_with_77 (by decide) ?_
        refine lv_idiv (pc := 80) hx hb dX7_with_80 (by decide) ?_
        refine lv_isub (pc := 81) hx hb dX7_with_81 ?_
        exact M_ret (pc := 82) (v := ((σ.2 5 (ix p0)) + p1) - (((m_least (σ.2 5 (ix p0)) p1) * (-((m_strengthOf (σ.2 6 (ix p0)) (σ.2 5 (ix p0))) - (m_strengthOf p2 p1)))) / 10000)) X P (by rw [m_with, if_neg c_1, if_neg c_2, if_neg c_3]) dX7_with_82
    · refine lv_aload_n (pc := 13) hx hb dX7_with_13 rfl (lv_at hl 0 rfl) ?_
      refine M_get (pc := 14) (v := .ref (as 5)) X P 5 (Nat.le_of_ble_eq_true rfl) (List.mem_of_getElem? (i := 1) rfl) rfl dX7_with_14 ?_
      refine lv_iload_n (pc := 17) hx hb dX7_with_17 rfl (lv_at hl 1 rfl) ?_
      refine M_ald (pc := 18) (a := as 5) (n := 10) (f := σ.2 5) X P 3 rfl h0 dX7_with_18 ?_
      refine lv_iload_n (pc := 19) hx hb dX7_with_19 rfl (lv_at hl 2 rfl) ?_
      refine lv_iadd (pc := 20) hx hb dX7_with_20 ?_
      exact M_ret (pc := 21) (v := (σ.2 5 (ix p0)) + p1) X P (by rw [m_with, if_neg c_1, if_pos c_2]) dX7_with_21
def m_comes (σ : Sg) (p0 : Int32) (p1 : Int32) (p2 : Int32) : Sg := (bs (bs σ 5 (ix p0) (m_with σ p0 p1 p2)) 6 (ix p0) ((σ.2 6 (ix p0)) + p2))
abbrev rX7_comes : Room := { frames := 2, cells := 0, slots := 0, locals := 45 }
theorem fnX7_comes : Fn yX7_comes wsX7_comes cX7_comes 4 none 3 rX7_comes 0 0 := ⟨⟨_, rfl⟩, rfl, rfl, by decide +kernel⟩
theorem inX7_comes : ∀ w ∈ wsX70, w ∈ wsX7_comes := fun w h => List.mem_cons_of_mem _ (List.mem_append_right _ h)
set_option maxHeartbeats 4000000 in
set_option maxRecDepth 100000 in
theorem kX7_comes (l : Launch) (D : va_G) (cI : ClassId) (m0 : Nat) (as : Nat → Nat) (th : Int32) (σ : Sg) (p0 : Int32) (p1 : Int32) (p2 : Int32) (h0 : vp_in p0 10) : M_Mv l yX7_comes wsX7_comes rX7_comes D cI m0 as th σ [.int p0, .int p1, .int p2] ((th, 0, m_comes σ p0 p1 p2)) := by
  refine M_body (n := 3) (Qc := fun A => M_Qv D cI m0 as ((th, 0, m_comes σ p0 p1 p2)) A) rfl fnX7_comes inX7_comes (Nat.le_of_ble_eq_true rfl) ?_
  intro p e s m args below meth c X A P ls hl
  have hx := X.1.1
  have hb := X.1.2.1
  have hown := X.1.2.2.2.1
  have hts := X.1.2.2.2.2.1
  have hl : lv_has ls 4 [(0, .ref m0), (1, .int p0), (2, .int p1), (3, .int p2)] := hl
  refine lv_aload_n (pc := 0) hx hb dX7_comes_0 rfl (lv_at hl 0 rfl) ?_
  refine M_get (pc := 1) (v := .ref (as 5)) X P 5 (Nat.le_of_ble_eq_true rfl) (List.mem_of_getElem? (i := 1) rfl) rfl dX7_comes_1 ?_
  refine lv_iload_n (pc := 4) hx hb dX7_comes_4 rfl (lv_at hl 1 rfl) ?_
  refine lv_aload_n (pc := 5) hx hb dX7_comes_5 rfl (lv_at hl 0 rfl) ?_
  refine lv_iload_n (pc := 6) hx hb dX7_comes_6 rfl (lv_at hl 1 rfl) ?_
  refine lv_iload_n (pc := 7) hx hb dX7_comes_7 rfl (lv_at hl 2 rfl) ?_
  refine lv_iload_n (pc := 8) hx hb dX7_comes_8 rfl (lv_at hl 3 rfl) ?_
  refine M_calli (pc := 9) (As := [.int p0, .int p1, .int p2]) (rest := [.int p0, .ref (as 5)]) (f := (th, m_with σ p0 p1 p2, σ)) X P hl.1 (kX7_with l D cI m0 as th σ p0 p1 p2 h0) fnX7_with rfl gX7_comes_X7_with rfl rfl ⟨Nat.le_of_ble_eq_true rfl, Nat.le_of_ble_eq_true rfl⟩ (Nat.le_of_ble_eq_true rfl) ⟨Nat.le_of_ble_eq_true rfl, Nat.le_of_ble_eq_true rfl⟩ dX7_comes_9 (fun H locs (P : Hp D A s (M_W cI m0 as th σ) H locs) => ?_)
  refine M_ast (pc := 12) (x := m_with σ p0 p1 p2) (n := 10) X P 3 5 rfl h0 M_a5 dX7_comes_12 (fun H locs (P : Hp D A s (M_W cI m0 as th (bs σ 5 (ix p0) (m_with σ p0 p1 p2))) H locs) => ?_)
  refine lv_aload_n (pc := 13) hx hb dX7_comes_13 rfl (lv_at hl 0 rfl) ?_
  refine M_get (pc := 14) (v := .ref (as 6)) X P 6 (Nat.le_of_ble_eq_true rfl) (List.mem_of_getElem? (i := 2) rfl) rfl dX7_comes_14 ?_
  refine lv_iload_n (pc := 17) hx hb dX7_comes_17 rfl (lv_at hl 1 rfl) ?_
  refine lv_dup2_11 (pc := 18) hx hb dX7_comes_18 rfl rfl ?_
  refine M_ald (pc := 19) (a := as 6) (n := 10) (f := σ.2 6) X P 4 rfl h0 dX7_comes_19 ?_
  refine lv_iload_n (pc := 20) hx hb dX7_comes_20 rfl (lv_at hl 3 rfl) ?_
  refine lv_iadd (pc := 21) hx hb dX7_comes_21 ?_
  refine M_ast (pc := 22) (x := (σ.2 6 (ix p0)) + p2) (n := 10) X P 4 6 rfl h0 M_a6 dX7_comes_22 (fun H locs (P : Hp D A s (M_W cI m0 as th (bs (bs σ 5 (ix p0) (m_with σ p0 p1 p2)) 6 (ix p0) ((σ.2 6 (ix p0)) + p2))) H locs) => ?_)
  exact M_retv (pc := 23) X P (by rw [m_comes]) dX7_comes_23
def m_takes (σ : Sg) (p0 : Int32) (p1 : Int32) : Int32 × Sg := (m_part (σ.2 6 (ix p0)) p1 (σ.2 5 (ix p0)), (bs (bs σ 6 (ix p0) ((σ.2 6 (ix p0)) - (m_part (σ.2 6 (ix p0)) p1 (σ.2 5 (ix p0))))) 5 (ix p0) ((σ.2 5 (ix p0)) - p1)))
abbrev rX7_takes : Room := { frames := 1, cells := 0, slots := 0, locals := 22 }
theorem fnX7_takes : Fn yX7_takes wsX7_takes cX7_takes 4 (some .int) 2 rX7_takes 0 0 := ⟨⟨_, rfl⟩, rfl, rfl, by decide +kernel⟩
theorem inX7_takes : ∀ w ∈ wsX70, w ∈ wsX7_takes := fun w h => List.mem_cons_of_mem _ (List.mem_append_right _ h)
set_option maxHeartbeats 4000000 in
set_option maxRecDepth 100000 in
theorem kX7_takes (l : Launch) (D : va_G) (cI : ClassId) (m0 : Nat) (as : Nat → Nat) (th : Int32) (σ : Sg) (p0 : Int32) (p1 : Int32) (h0 : vp_in p0 10) (h1 : ¬ σ.2 5 (ix p0) = 0) : M_Mi l yX7_takes wsX7_takes rX7_takes D cI m0 as th σ [.int p0, .int p1] ((th, (m_takes σ p0 p1).1, (m_takes σ p0 p1).2)) := by
  refine M_body (n := 2) (Qc := fun A => M_Qi D cI m0 as ((th, (m_takes σ p0 p1).1, (m_takes σ p0 p1).2)) A) rfl fnX7_takes inX7_takes (Nat.le_of_ble_eq_true rfl) ?_
  intro p e s m args below meth c X A P ls hl
  have hx := X.1.1
  have hb := X.1.2.1
  have hown := X.1.2.2.2.1
  have hts := X.1.2.2.2.2.1
  have hl : lv_has ls 4 [(0, .ref m0), (1, .int p0), (2, .int p1)] := hl
  refine lv_aload_n (pc := 0) hx hb dX7_takes_0 rfl (lv_at hl 0 rfl) ?_
  refine M_get (pc := 1) (v := .ref (as 6)) X P 6 (Nat.le_of_ble_eq_true rfl) (List.mem_of_getElem? (i := 1) rfl) rfl dX7_takes_1 ?_
  refine lv_iload_n (pc := 4) hx hb dX7_takes_4 rfl (lv_at hl 1 rfl) ?_
  refine M_ald (pc := 5) (a := as 6) (n := 10) (f := σ.2 6) X P 4 rfl h0 dX7_takes_5 ?_
  refine lv_iload_n (pc := 6) hx hb dX7_takes_6 rfl (lv_at hl 2 rfl) ?_
  refine lv_aload_n (pc := 7) hx hb dX7_takes_7 rfl (lv_at hl 0 rfl) ?_
  refine M_get (pc := 8) (v := .ref (as 5)) X P 5 (Nat.le_of_ble_eq_true rfl) (List.mem_of_getElem? (i := 2) rfl) rfl dX7_takes_8 ?_
  refine lv_iload_n (pc := 11) hx hb dX7_takes_11 rfl (lv_at hl 1 rfl) ?_
  refine M_ald (pc := 12) (a := as 5) (n := 10) (f := σ.2 5) X P 3 rfl h0 dX7_takes_12 ?_
  refine S_call (pc := 13) (As := [.int (σ.2 6 (ix p0)), .int p1, .int (σ.2 5 (ix p0))]) (rest := []) (r := m_part (σ.2 6 (ix p0)) p1 (σ.2 5 (ix p0))) X.1 hl.1 (kX7_part l (σ.2 6 (ix p0)) p1 (σ.2 5 (ix p0)) h1) fnX7_part gX7_takes_X7_part rfl rfl ⟨Nat.le_of_ble_eq_true rfl, Nat.le_of_ble_eq_true rfl⟩ (Nat.le_of_ble_eq_true rfl) ⟨Nat.le_of_ble_eq_true rfl, Nat.le_of_ble_eq_true rfl⟩ dX7_takes_13 ?_
  refine lv_istore_n (pc := 16) (lv' := [(3, .int (m_part (σ.2 6 (ix p0)) p1 (σ.2 5 (ix p0)))), (0, .ref m0), (1, .int p0), (2, .int p1)]) hx hb dX7_takes_16 rfl hl (by decide) rfl (fun ls hl => ?_)
  refine lv_aload_n (pc := 17) hx hb dX7_takes_17 rfl (lv_at hl 1 rfl) ?_
  refine M_get (pc := 18) (v := .ref (as 6)) X P 6 (Nat.le_of_ble_eq_true rfl) (List.mem_of_getElem? (i := 1) rfl) rfl dX7_takes_18 ?_
  refine lv_iload_n (pc := 21) hx hb dX7_takes_21 rfl (lv_at hl 2 rfl) ?_
  refine lv_dup2_11 (pc := 22) hx hb dX7_takes_22 rfl rfl ?_
  refine M_ald (pc := 23) (a := as 6) (n := 10) (f := σ.2 6) X P 4 rfl h0 dX7_takes_23 ?_
  refine lv_iload_n (pc := 24) hx hb dX7_takes_24 rfl (lv_at hl 0 rfl) ?_
  refine lv_isub (pc := 25) hx hb dX7_takes_25 ?_
  refine M_ast (pc := 26) (x := (σ.2 6 (ix p0)) - (m_part (σ.2 6 (ix p0)) p1 (σ.2 5 (ix p0)))) (n := 10) X P 4 6 rfl h0 M_a6 dX7_takes_26 (fun H locs (P : Hp D A s (M_W cI m0 as th (bs σ 6 (ix p0) ((σ.2 6 (ix p0)) - (m_part (σ.2 6 (ix p0)) p1 (σ.2 5 (ix p0)))))) H locs) => ?_)
  refine lv_aload_n (pc := 27) hx hb dX7_takes_27 rfl (lv_at hl 1 rfl) ?_
  refine M_get (pc := 28) (v := .ref (as 5)) X P 5 (Nat.le_of_ble_eq_true rfl) (List.mem_of_getElem? (i := 2) rfl) rfl dX7_takes_28 ?_
  refine lv_iload_n (pc := 31) hx hb dX7_takes_31 rfl (lv_at hl 2 rfl) ?_
  refine lv_dup2_11 (pc := 32) hx hb dX7_takes_32 rfl rfl ?_
  refine M_ald (pc := 33) (a := as 5) (n := 10) (f := σ.2 5) X P 3 rfl h0 dX7_takes_33 ?_
  refine lv_iload_n (pc := 34) hx hb dX7_takes_34 rfl (lv_at hl 3 rfl) ?_
  refine lv_isub (pc := 35) hx hb dX7_takes_35 ?_
  refine M_ast (pc := 36) (x := (σ.2 5 (ix p0)) - p1) (n := 10) X P 3 5 rfl h0 M_a5 dX7_takes_36 (fun H locs (P : Hp D A s (M_W cI m0 as th (bs (bs σ 6 (ix p0) ((σ.2 6 (ix p0)) - (m_part (σ.2 6 (ix p0)) p1 (σ.2 5 (ix p0))))) 5 (ix p0) ((σ.2 5 (ix p0)) - p1))) H locs) => ?_)
  refine lv_iload_n (pc := 37) hx hb dX7_takes_37 rfl (lv_at hl 0 rfl) ?_
  exact M_ret (pc := 38) (v := m_part (σ.2 6 (ix p0)) p1 (σ.2 5 (ix p0))) X P (by rw [m_takes]) dX7_takes_38
def m_misses (σ : Sg) (p0 : Int32) : Int32 × Sg := (m_dutyFor (bs σ 10 5 ((σ.2 10 5) + p0)) p0 (σ.1 11), (zs (bs σ 10 5 ((σ.2 10 5) + p0)) 12 ((σ.1 12) + (m_dutyFor (bs σ 10 5 ((σ.2 10 5) + p0)) p0 (σ.1 11)))))
abbrev rX7_misses : Room := { frames := 1, cells := 0, slots := 0, locals := 22 }
theorem fnX7_misses : Fn yX7_misses wsX7_misses cX7_misses 3 (some .int) 1 rX7_misses 0 0 := ⟨⟨_, rfl⟩, rfl, rfl, by decide +kernel⟩
theorem inX7_misses : ∀ w ∈ wsX70, w ∈ wsX7_misses := fun w h => List.mem_cons_of_mem _ (List.mem_append_right _ h)
set_option maxHeartbeats 4000000 in
set_option maxRecDepth 100000 in
theorem kX7_misses (l : Launch) (D : va_G) (cI : ClassId) (m0 : Nat) (as : Nat → Nat) (th : Int32) (σ : Sg) (p0 : Int32) : M_Mi l yX7_misses wsX7_misses rX7_misses D cI m0 as th σ [.int p0] ((th, (m_misses σ p0).1, (m_misses σ p0).2)) := by
  refine M_body (n := 1) (Qc := fun A => M_Qi D cI m0 as ((th, (m_misses σ p0).1, (m_misses σ p0).2)) A) rfl fnX7_misses inX7_misses (Nat.le_of_ble_eq_true rfl) ?_
  intro p e s m args below meth c X A P ls hl
  have hx := X.1.1
  have hb := X.1.2.1
  have hown := X.1.2.2.2.1
  have hts := X.1.2.2.2.2.1
  have hl : lv_has ls 3 [(0, .ref m0), (1, .int p0)] := hl
  refine lv_aload_n (pc := 0) hx hb dX7_misses_0 rfl (lv_at hl 0 rfl) ?_
  refine M_get (pc := 1) (v := .ref (as 10)) X P 10 (Nat.le_of_ble_eq_true rfl) (List.mem_of_getElem? (i := 1) rfl) rfl dX7_misses_1 ?_
  refine lv_iconst (pc := 4) (v := 5) hx hb dX7_misses_4 (by decide) ?_
  refine lv_dup2_11 (pc := 5) hx hb dX7_misses_5 rfl rfl ?_
  refine M_ald (pc := 6) (a := as 10) (n := 8) (f := σ.2 10) X P 6 rfl (vp_dec (by decide)) dX7_misses_6 ?_
  refine lv_iload_n (pc := 7) hx hb dX7_misses_7 rfl (lv_at hl 1 rfl) ?_
  refine lv_iadd (pc := 8) hx hb dX7_misses_8 ?_
  refine M_ast (pc := 9) (x := (σ.2 10 5) + p0) (n := 8) X P 6 10 rfl (vp_dec (by decide)) M_a10 dX7_misses_9 (fun H locs (P : Hp D A s (M_W cI m0 as th (bs σ 10 5 ((σ.2 10 5) + p0))) H locs) => ?_)
  refine lv_aload_n (pc := 10) hx hb dX7_misses_10 rfl (lv_at hl 0 rfl) ?_
  refine lv_iload_n (pc := 11) hx hb dX7_misses_11 rfl (lv_at hl 1 rfl) ?_
  refine lv_aload_n (pc := 12) hx hb dX7_misses_12 rfl (lv_at hl 0 rfl) ?_
  refine M_get (pc := 13) (v := .int (σ.1 11)) X P 11 (Nat.le_of_ble_eq_true rfl) (List.mem_of_getElem? (i := 2) rfl) rfl dX7_misses_13 ?_
  refine M_calli (pc := 16) (As := [.int p0, .int (σ.1 11)]) (rest := []) (f := (th, m_dutyFor (bs σ 10 5 ((σ.2 10 5) + p0)) p0 (σ.1 11), (bs σ 10 5 ((σ.2 10 5) + p0)))) X P hl.1 (kX7_dutyFor l D cI m0 as th (bs σ 10 5 ((σ.2 10 5) + p0)) p0 (σ.1 11)) fnX7_dutyFor rfl gX7_misses_X7_dutyFor rfl rfl ⟨Nat.le_of_ble_eq_true rfl, Nat.le_of_ble_eq_true rfl⟩ (Nat.le_of_ble_eq_true rfl) ⟨Nat.le_of_ble_eq_true rfl, Nat.le_of_ble_eq_true rfl⟩ dX7_misses_16 (fun H locs (P : Hp D A s (M_W cI m0 as th (bs σ 10 5 ((σ.2 10 5) + p0))) H locs) => ?_)
  refine lv_istore_n (pc := 19) (lv' := [(2, .int (m_dutyFor (bs σ 10 5 ((σ.2 10 5) + p0)) p0 (σ.1 11))), (0, .ref m0), (1, .int p0)]) hx hb dX7_misses_19 rfl hl (by decide) rfl (fun ls hl => ?_)
  refine lv_aload_n (pc := 20) hx hb dX7_misses_20 rfl (lv_at hl 1 rfl) ?_
  refine lv_dup (pc := 21) hx hb dX7_misses_21 rfl ?_
  refine M_get (pc := 22) (v := .int (σ.1 12)) X P 12 (Nat.le_of_ble_eq_true rfl) (List.mem_of_getElem? (i := 3) rfl) rfl dX7_misses_22 ?_
  refine lv_iload_n (pc := 25) hx hb dX7_misses_25 rfl (lv_at hl 0 rfl) ?_
  refine lv_iadd (pc := 26) hx hb dX7_misses_26 ?_
  refine M_putS (pc := 27) (v := (σ.1 12) + (m_dutyFor (bs σ 10 5 ((σ.2 10 5) + p0)) p0 (σ.1 11))) X P 12 (Nat.le_of_ble_eq_true rfl) (List.mem_of_getElem? (i := 3) rfl) rfl rfl M_s12 dX7_misses_27 (fun H locs (P : Hp D A s (M_W cI m0 as th (zs (bs σ 10 5 ((σ.2 10 5) + p0)) 12 ((σ.1 12) + (m_dutyFor (bs σ 10 5 ((σ.2 10 5) + p0)) p0 (σ.1 11))))) H locs) => ?_)
  refine lv_iload_n (pc := 30) hx hb dX7_misses_30 rfl (lv_at hl 0 rfl) ?_
  exact M_ret (pc := 31) (v := m_dutyFor (bs σ 10 5 ((σ.2 10 5) + p0)) p0 (σ.1 11)) X P (by rw [m_misses]) dX7_misses_31
def m_asksPart (σ : Sg) (p0 : Int32) (p1 : Int32) : Int32 × Int32 := if (m_isVessel σ p0) = 0 then (1, 0) else if 1 ≤ p1 then (if (m_hasPart σ p0 p1) = 0 then (3, 0) else (0, 1)) else (2, 0)
abbrev rX7_asksPart : Room := { frames := 2, cells := 0, slots := 0, locals := 43 }
theorem fnX7_asksPart : Fn yX7_asksPart wsX7_asksPart cX7_asksPart 3 (some .boolean) 2 rX7_asksPart 0 0 := ⟨⟨_, rfl⟩, rfl, rfl, by decide +kernel⟩
theorem inX7_asksPart : ∀ w ∈ wsX70, w ∈ wsX7_asksPart := fun w h => List.mem_cons_of_mem _ (List.mem_append_right _ h)
set_option maxHeartbeats 4000000 in
set_option maxRecDepth 100000 in
theorem kX7_asksPart (l : Launch) (D : va_G) (cI : ClassId) (m0 : Nat) (as : Nat → Nat) (th : Int32) (σ : Sg) (p0 : Int32) (p1 : Int32) (h0 : Cnt σ 2 10) : M_Mi l yX7_asksPart wsX7_asksPart rX7_asksPart D cI m0 as th σ [.int p0, .int p1] (((m_asksPart σ p0 p1).1, (m_asksPart σ p0 p1).2, σ)) := by
  refine M_body (n := 2) (Qc := fun A => M_Qi D cI m0 as (((m_asksPart σ p0 p1).1, (m_asksPart σ p0 p1).2, σ)) A) rfl fnX7_asksPart inX7_asksPart (Nat.le_of_ble_eq_true rfl) ?_
  intro p e s m args below meth c X A P ls hl
  have hx := X.1.1
  have hb := X.1.2.1
  have hown := X.1.2.2.2.1
  have hts := X.1.2.2.2.2.1
  have hl : lv_has ls 3 [(0, .ref m0), (1, .int p0), (2, .int p1)] := hl
  refine lv_aload_n (pc := 0) hx hb dX7_asksPart_0 rfl (lv_at hl 0 rfl) ?_
  refine lv_aload_n (pc := 1) hx hb dX7_asksPart_1 rfl (lv_at hl 0 rfl) ?_
  refine lv_iload_n (pc := 2) hx hb dX7_asksPart_2 rfl (lv_at hl 1 rfl) ?_
  refine M_calli (pc := 3) (As := [.int p0]) (rest := [.ref m0]) (f := (th, m_isVessel σ p0, σ)) X P hl.1 (kX7_isVessel l D cI m0 as th σ p0) fnX7_isVessel rfl gX7_asksPart_X7_isVessel rfl rfl ⟨Nat.le_of_ble_eq_true rfl, Nat.le_of_ble_eq_true rfl⟩ (Nat.le_of_ble_eq_true rfl) ⟨Nat.le_of_ble_eq_true rfl, Nat.le_of_ble_eq_true rfl⟩ dX7_asksPart_3 (fun H locs (P : Hp D A s (M_W cI m0 as th σ) H locs) => ?_)
  refine lv_if_ne (pc := 6) (tgt := 13) hx hb dX7_asksPart_6 (by decide) (fun c_1 : ¬ (m_isVessel σ p0) = 0 => ?_) (fun c_1 : (m_isVessel σ p0) = 0 => ?_)
  · have hv_2 : vp_in p0 10 := isV_in h0 c_1
    refine lv_iload_n (pc := 13) hx hb dX7_asksPart_13 rfl (lv_at hl 2 rfl) ?_
    refine lv_iconst (pc := 14) (v := 1) hx hb dX7_asksPart_14 (by decide) ?_
    refine lv_icmp_ge (pc := 15) (tgt := 22) hx hb dX7_asksPart_15 (by decide) (fun c_3 : 1 ≤ p1 => ?_) (fun c_3 : ¬ 1 ≤ p1 => ?_)
    · refine lv_aload_n (pc := 22) hx hb dX7_asksPart_22 rfl (lv_at hl 0 rfl) ?_
      refine lv_iload_n (pc := 23) hx hb dX7_asksPart_23 rfl (lv_at hl 1 rfl) ?_
      refine lv_iload_n (pc := 24) hx hb dX7_asksPart_24 rfl (lv_at hl 2 rfl) ?_
      refine M_calli (pc := 25) (As := [.int p0, .int p1]) (rest := [.ref m0]) (f := (th, m_hasPart σ p0 p1, σ)) X P hl.1 (kX7_hasPart l D cI m0 as th σ p0 p1 hv_2) fnX7_hasPart rfl gX7_asksPart_X7_hasPart rfl rfl ⟨Nat.le_of_ble_eq_true rfl, Nat.le_of_ble_eq_true rfl⟩ (Nat.le_of_ble_eq_true rfl) ⟨Nat.le_of_ble_eq_true rfl, Nat.le_of_ble_eq_true rfl⟩ dX7_asksPart_25 (fun H locs (P : Hp D A s (M_W cI m0 as th σ) H locs) => ?_)
      refine lv_if_eq (pc := 28) (tgt := 35) hx hb dX7_asksPart_28 (by decide) (fun c_4 : (m_hasPart σ p0 p1) = 0 => ?_) (fun c_4 : ¬ (m_hasPart σ p0 p1) = 0 => ?_)
      · refine lv_iconst (pc := 35) (v := 3) hx hb dX7_asksPart_35 (by decide) ?_
        refine M_putT (pc := 36) (v := 3) X P (List.mem_of_getElem? (i := 1) rfl) dX7_asksPart_36 (fun H locs (P : Hp D A s (M_W cI m0 as 3 σ) H locs) => ?_)
        refine lv_aload_n (pc := 39) hx hb dX7_asksPart_39 rfl (lv_at hl 0 rfl) ?_
        refine M_get (pc := 40) (v := .int 3) X P 0 (Nat.le_of_ble_eq_true rfl) (List.mem_of_getElem? (i := 1) rfl) rfl dX7_asksPart_40 ?_
        refine lv_if_ne (pc := 43) (tgt := 50) hx hb dX7_asksPart_43 (by decide) (fun _ => ?_) (fun h => absurd h (by decide))
        refine lv_iconst (pc := 50) (v := 0) hx hb dX7_asksPart_50 (by decide) ?_
        exact M_retz (pc := 51) (v := 0) X P (by rw [m_asksPart, if_neg c_1, if_pos c_3, if_pos c_4]) rfl dX7_asksPart_51
      · refine lv_iconst (pc := 31) (v := 0) hx hb dX7_asksPart_31 (by decide) ?_
        refine lv_goto (pc := 32) (tgt := 36) hx hb dX7_asksPart_32 (by decide) ?_
        refine M_putT (pc := 36) (v := 0) X P (List.mem_of_getElem? (i := 1) rfl) dX7_asksPart_36 (fun H locs (P : Hp D A s (M_W cI m0 as 0 σ) H locs) => ?_)
        refine lv_aload_n (pc := 39) hx hb dX7_asksPart_39 rfl (lv_at hl 0 rfl) ?_
        refine M_get (pc := 40) (v := .int 0) X P 0 (Nat.le_of_ble_eq_true rfl) (List.mem_of_getElem? (i := 1) rfl) rfl dX7_asksPart_40 ?_
        refine lv_if_ne (pc := 43) (tgt := 50) hx hb dX7_asksPart_43 (by decide) (fun h => absurd h (by decide)) (fun _ => ?_)
        refine lv_iconst (pc := 46) (v := 1) hx hb dX7_asksPart_46 (by decide) ?_
        refine lv_goto (pc := 47) (tgt := 51) hx hb dX7_asksPart_47 (by decide) ?_
        exact M_retz (pc := 51) (v := 1) X P (by rw [m_asksPart, if_neg c_1, if_pos c_3, if_neg c_4]) rfl dX7_asksPart_51
    · refine lv_iconst (pc := 18) (v := 2) hx hb dX7_asksPart_18 (by decide) ?_
      refine lv_goto (pc := 19) (tgt := 36) hx hb dX7_asksPart_19 (by decide) ?_
      refine M_putT (pc := 36) (v := 2) X P (List.mem_of_getElem? (i := 1) rfl) dX7_asksPart_36 (fun H locs (P : Hp D A s (M_W cI m0 as 2 σ) H locs) => ?_)
      refine lv_aload_n (pc := 39) hx hb dX7_asksPart_39 rfl (lv_at hl 0 rfl) ?_
      refine M_get (pc := 40) (v := .int 2) X P 0 (Nat.le_of_ble_eq_true rfl) (List.mem_of_getElem? (i := 1) rfl) rfl dX7_asksPart_40 ?_
      refine lv_if_ne (pc := 43) (tgt := 50) hx hb dX7_asksPart_43 (by decide) (fun _ => ?_) (fun h => absurd h (by decide))
      refine lv_iconst (pc := 50) (v := 0) hx hb dX7_asksPart_50 (by decide) ?_
      exact M_retz (pc := 51) (v := 0) X P (by rw [m_asksPart, if_neg c_1, if_neg c_3]) rfl dX7_asksPart_51
  · refine lv_iconst (pc := 9) (v := 1) hx hb dX7_asksPart_9 (by decide) ?_
    refine lv_goto (pc := 10) (tgt := 36) hx hb dX7_asksPart_10 (by decide) ?_
    refine M_putT (pc := 36) (v := 1) X P (List.mem_of_getElem? (i := 1) rfl) dX7_asksPart_36 (fun H locs (P : Hp D A s (M_W cI m0 as 1 σ) H locs) => ?_)
    refine lv_aload_n (pc := 39) hx hb dX7_asksPart_39 rfl (lv_at hl 0 rfl) ?_
    refine M_get (pc := 40) (v := .int 1) X P 0 (Nat.le_of_ble_eq_true rfl) (List.mem_of_getElem? (i := 1) rfl) rfl dX7_asksPart_40 ?_
    refine lv_if_ne (pc := 43) (tgt := 50) hx hb dX7_asksPart_43 (by decide) (fun _ => ?_) (fun h => absurd h (by decide))
    refine lv_iconst (pc := 50) (v := 0) hx hb dX7_asksPart_50 (by decide) ?_
    exact M_retz (pc := 51) (v := 0) X P (by rw [m_asksPart, if_pos c_1]) rfl dX7_asksPart_51
def m_inLots (σ : Sg) : Int32 := sm (σ.2 19) (ix (σ.1 18))
abbrev rX7_inLots : Room := { frames := 0, cells := 0, slots := 0, locals := 0 }
theorem fnX7_inLots : Fn yX7_inLots wsX7_inLots cX7_inLots 3 (some .int) 0 rX7_inLots 0 0 := ⟨⟨_, rfl⟩, rfl, rfl, by decide +kernel⟩
theorem inX7_inLots : ∀ w ∈ wsX70, w ∈ wsX7_inLots := fun w h => List.mem_cons_of_mem _ (List.mem_append_right _ h)
set_option maxHeartbeats 4000000 in
set_option maxRecDepth 100000 in
theorem kX7_inLots (l : Launch) (D : va_G) (cI : ClassId) (m0 : Nat) (as : Nat → Nat) (th : Int32) (σ : Sg) (h0 : Cnt σ 18 100) : M_Mi l yX7_inLots wsX7_inLots rX7_inLots D cI m0 as th σ [] ((th, m_inLots σ, σ)) := by
  refine M_body (n := 0) (Qc := fun A => M_Qi D cI m0 as ((th, m_inLots σ, σ)) A) rfl fnX7_inLots inX7_inLots (Nat.le_of_ble_eq_true rfl) ?_
  intro p e s m args below meth c X A P ls hl
  have hx := X.1.1
  have hb := X.1.2.1
  have hown := X.1.2.2.2.1
  have hts := X.1.2.2.2.2.1
  have hl : lv_has ls 3 [(0, .ref m0)] := hl
  have loop : ∀ (n k : Nat), k ≤ ix (σ.1 18) → ix (σ.1 18) < k + n → ∀ (H : Heap) (locs : List Loc) (P : Hp D A s (M_W cI m0 as th σ) H locs) (ls : Array Slot), lv_has ls 3 [(2, .int (nI k)), (1, .int (sm (σ.2 19) k)), (0, .ref m0)] → W p l e rX7_inLots s m args below meth c H locs 0 0 (MQ below (M_Qi D cI m0 as ((th, m_inLots σ, σ)) A) args s 0 0 A) (F0 m 4 ls []) := by
    intro n
    induction n with
    | zero => intro k h1 h2; exact absurd h2 (by omega)
    | succ n ih =>
      intro k h1 h2 H locs P ls hl
      refine lv_iload_n (pc := 4) hx hb dX7_inLots_4 rfl (lv_at hl 0 rfl) ?_
      refine lv_aload_n (pc := 5) hx hb dX7_inLots_5 rfl (lv_at hl 2 rfl) ?_
      refine M_get (pc := 6) (v := .int (σ.1 18)) X P 18 (Nat.le_of_ble_eq_true rfl) (List.mem_of_getElem? (i := 1) rfl) rfl dX7_inLots_6 ?_
      refine lv_icmp_ge (pc := 9) (tgt := 27) hx hb dX7_inLots_9 (by decide) (fun c_1 : (σ.1 18) ≤ (nI k) => ?_) (fun c_1 : ¬ (σ.1 18) ≤ (nI k) => ?_)
      · have e_k_2 : k = ix (σ.1 18) := lp_end h0 c_1 h1
        refine lv_iload_n (pc := 27) hx hb dX7_inLots_27 rfl (lv_at hl 1 rfl) ?_
        exact M_ret (pc := 28) (v := sm (σ.2 19) k) X P (by rw [m_inLots, e_k_2]) dX7_inLots_28
      · have hk_3 : k < ix (σ.1 18) := lp_in h0 c_1 h1
        have hk_4 : k < 100 := Nat.lt_of_lt_of_le (lp_in h0 c_1 h1) h0.2
        refine lv_iload_n (pc := 12) hx hb dX7_inLots_12 rfl (lv_at hl 1 rfl) ?_
        refine lv_aload_n (pc := 13) hx hb dX7_inLots_13 rfl (lv_at hl 2 rfl) ?_
        refine M_get (pc := 14) (v := .ref (as 19)) X P 19 (Nat.le_of_ble_eq_true rfl) (List.mem_of_getElem? (i := 2) rfl) rfl dX7_inLots_14 ?_
        refine lv_iload_n (pc := 17) hx hb dX7_inLots_17 rfl (lv_at hl 0 rfl) ?_
        refine M_aldN (pc := 18) (a := as 19) (n := 100) (f := σ.2 19) X P 7 rfl (k := k) hk_4 (by decide) dX7_inLots_18 ?_
        refine lv_iadd (pc := 19) hx hb dX7_inLots_19 ?_
        refine lv_istore_n (pc := 20) (lv' := [(1, .int ((sm (σ.2 19) k) + (σ.2 19 k))), (2, .int (nI k)), (0, .ref m0)]) hx hb dX7_inLots_20 rfl hl (by decide) rfl (fun ls hl => ?_)
        refine lv_iinc (pc := 21) (v := nI (k + 1)) (lv' := [(2, .int (nI (k + 1))), (1, .int ((sm (σ.2 19) k) + (σ.2 19 k))), (0, .ref m0)]) hx hb dX7_inLots_21 hl (k := 1) rfl ((nI_succ k).symm) (by decide) rfl (fun ls hl => ?_)
        refine lv_goto (pc := 24) (tgt := 4) hx hb dX7_inLots_24 (by decide) ?_
        have e_s : sm (σ.2 19) (k + 1) = (sm (σ.2 19) k) + (σ.2 19 k) := rfl
        exact ih (k + 1) hk_3 (by omega) _ _ P ls (by rw [e_s]; exact lv_sub hl [0, 1, 2] rfl)
  refine lv_iconst (pc := 0) (v := 0) hx hb dX7_inLots_0 (by decide) ?_
  refine lv_istore_n (pc := 1) (lv' := [(1, .int 0), (0, .ref m0)]) hx hb dX7_inLots_1 rfl hl (by decide) rfl (fun ls hl => ?_)
  refine lv_iconst (pc := 2) (v := 0) hx hb dX7_inLots_2 (by decide) ?_
  refine lv_istore_n (pc := 3) (lv' := [(2, .int 0), (1, .int 0), (0, .ref m0)]) hx hb dX7_inLots_3 rfl hl (by decide) rfl (fun ls hl => ?_)
  exact loop (ix (σ.1 18) + 1) 0 (Nat.zero_le _) (by omega) _ _ P ls (lv_sub hl [0, 1, 2] rfl)
def m_inVessels (σ : Sg) : Int32 := sm (σ.2 6) (ix (σ.1 2))
abbrev rX7_inVessels : Room := { frames := 0, cells := 0, slots := 0, locals := 0 }
theorem fnX7_inVessels : Fn yX7_inVessels wsX7_inVessels cX7_inVessels 3 (some .int) 0 rX7_inVessels 0 0 := ⟨⟨_, rfl⟩, rfl, rfl, by decide +kernel⟩
theorem inX7_inVessels : ∀ w ∈ wsX70, w ∈ wsX7_inVessels := fun w h => List.mem_cons_of_mem _ (List.mem_append_right _ h)
set_option maxHeartbeats 4000000 in
set_option maxRecDepth 100000 in
theorem kX7_inVessels (l : Launch) (D : va_G) (cI : ClassId) (m0 : Nat) (as : Nat → Nat) (th : Int32) (σ : Sg) (h0 : Cnt σ 2 10) : M_Mi l yX7_inVessels wsX7_inVessels rX7_inVessels D cI m0 as th σ [] ((th, m_inVessels σ, σ)) := by
  refine M_body (n := 0) (Qc := fun A => M_Qi D cI m0 as ((th, m_inVessels σ, σ)) A) rfl fnX7_inVessels inX7_inVessels (Nat.le_of_ble_eq_true rfl) ?_
  intro p e s m args below meth c X A P ls hl
  have hx := X.1.1
  have hb := X.1.2.1
  have hown := X.1.2.2.2.1
  have hts := X.1.2.2.2.2.1
  have hl : lv_has ls 3 [(0, .ref m0)] := hl
  have loop : ∀ (n k : Nat), k ≤ ix (σ.1 2) → ix (σ.1 2) < k + n → ∀ (H : Heap) (locs : List Loc) (P : Hp D A s (M_W cI m0 as th σ) H locs) (ls : Array Slot), lv_has ls 3 [(2, .int (nI k)), (1, .int (sm (σ.2 6) k)), (0, .ref m0)] → W p l e rX7_inVessels s m args below meth c H locs 0 0 (MQ below (M_Qi D cI m0 as ((th, m_inVessels σ, σ)) A) args s 0 0 A) (F0 m 4 ls []) := by
    intro n
    induction n with
    | zero => intro k h1 h2; exact absurd h2 (by omega)
    | succ n ih =>
      intro k h1 h2 H locs P ls hl
      refine lv_iload_n (pc := 4) hx hb dX7_inVessels_4 rfl (lv_at hl 0 rfl) ?_
      refine lv_aload_n (pc := 5) hx hb dX7_inVessels_5 rfl (lv_at hl 2 rfl) ?_
      refine M_get (pc := 6) (v := .int (σ.1 2)) X P 2 (Nat.le_of_ble_eq_true rfl) (List.mem_of_getElem? (i := 1) rfl) rfl dX7_inVessels_6 ?_
      refine lv_icmp_ge (pc := 9) (tgt := 27) hx hb dX7_inVessels_9 (by decide) (fun c_1 : (σ.1 2) ≤ (nI k) => ?_) (fun c_1 : ¬ (σ.1 2) ≤ (nI k) => ?_)
      · have e_k_2 : k = ix (σ.1 2) := lp_end h0 c_1 h1
        refine lv_iload_n (pc := 27) hx hb dX7_inVessels_27 rfl (lv_at hl 1 rfl) ?_
        exact M_ret (pc := 28) (v := sm (σ.2 6) k) X P (by rw [m_inVessels, e_k_2]) dX7_inVessels_28
      · have hk_3 : k < ix (σ.1 2) := lp_in h0 c_1 h1
        have hk_4 : k < 10 := Nat.lt_of_lt_of_le (lp_in h0 c_1 h1) h0.2
        refine lv_iload_n (pc := 12) hx hb dX7_inVessels_12 rfl (lv_at hl 1 rfl) ?_
        refine lv_aload_n (pc := 13) hx hb dX7_inVessels_13 rfl (lv_at hl 2 rfl) ?_
        refine M_get (pc := 14) (v := .ref (as 6)) X P 6 (Nat.le_of_ble_eq_true rfl) (List.mem_of_getElem? (i := 2) rfl) rfl dX7_inVessels_14 ?_
        refine lv_iload_n (pc := 17) hx hb dX7_inVessels_17 rfl (lv_at hl 0 rfl) ?_
        refine M_aldN (pc := 18) (a := as 6) (n := 10) (f := σ.2 6) X P 4 rfl (k := k) hk_4 (by decide) dX7_inVessels_18 ?_
        refine lv_iadd (pc := 19) hx hb dX7_inVessels_19 ?_
        refine lv_istore_n (pc := 20) (lv' := [(1, .int ((sm (σ.2 6) k) + (σ.2 6 k))), (2, .int (nI k)), (0, .ref m0)]) hx hb dX7_inVessels_20 rfl hl (by decide) rfl (fun ls hl => ?_)
        refine lv_iinc (pc := 21) (v := nI (k + 1)) (lv' := [(2, .int (nI (k + 1))), (1, .int ((sm (σ.2 6) k) + (σ.2 6 k))), (0, .ref m0)]) hx hb dX7_inVessels_21 hl (k := 1) rfl ((nI_succ k).symm) (by decide) rfl (fun ls hl => ?_)
        refine lv_goto (pc := 24) (tgt := 4) hx hb dX7_inVessels_24 (by decide) ?_
        have e_s : sm (σ.2 6) (k + 1) = (sm (σ.2 6) k) + (σ.2 6 k) := rfl
        exact ih (k + 1) hk_3 (by omega) _ _ P ls (by rw [e_s]; exact lv_sub hl [0, 1, 2] rfl)
  refine lv_iconst (pc := 0) (v := 0) hx hb dX7_inVessels_0 (by decide) ?_
  refine lv_istore_n (pc := 1) (lv' := [(1, .int 0), (0, .ref m0)]) hx hb dX7_inVessels_1 rfl hl (by decide) rfl (fun ls hl => ?_)
  refine lv_iconst (pc := 2) (v := 0) hx hb dX7_inVessels_2 (by decide) ?_
  refine lv_istore_n (pc := 3) (lv' := [(2, .int 0), (1, .int 0), (0, .ref m0)]) hx hb dX7_inVessels_3 rfl hl (by decide) rfl (fun ls hl => ?_)
  exact loop (ix (σ.1 2) + 1) 0 (Nat.zero_le _) (by omega) _ _ P ls (lv_sub hl [0, 1, 2] rfl)
def mvf (σ : Sg) (k : Nat) : Int32 := if σ.2 23 k = 0 then σ.2 26 k else 0
def m_moving (σ : Sg) : Int32 := sm (mvf σ) (ix (σ.1 22))
abbrev rX7_moving : Room := { frames := 0, cells := 0, slots := 0, locals := 0 }
theorem fnX7_moving : Fn yX7_moving wsX7_moving cX7_moving 3 (some .int) 0 rX7_moving 0 0 := ⟨⟨_, rfl⟩, rfl, rfl, by decide +kernel⟩
theorem inX7_moving : ∀ w ∈ wsX70, w ∈ wsX7_moving := fun w h => List.mem_cons_of_mem _ (List.mem_append_right _ h)
set_option maxHeartbeats 4000000 in
set_option maxRecDepth 100000 in
theorem kX7_moving (l : Launch) (D : va_G) (cI : ClassId) (m0 : Nat) (as : Nat → Nat) (th : Int32) (σ : Sg) (h0 : Cnt σ 22 30) : M_Mi l yX7_moving wsX7_moving rX7_moving D cI m0 as th σ [] ((th, m_moving σ, σ)) := by
  refine M_body (n := 0) (Qc := fun A => M_Qi D cI m0 as ((th, m_moving σ, σ)) A) rfl fnX7_moving inX7_moving (Nat.le_of_ble_eq_true rfl) ?_
  intro p e s m args below meth c X A P ls hl
  have hx := X.1.1
  have hb := X.1.2.1
  have hown := X.1.2.2.2.1
  have hts := X.1.2.2.2.2.1
  have hl : lv_has ls 3 [(0, .ref m0)] := hl
  have loop : ∀ (n k : Nat), k ≤ ix (σ.1 22) → ix (σ.1 22) < k + n → ∀ (H : Heap) (locs : List Loc) (P : Hp D A s (M_W cI m0 as th σ) H locs) (ls : Array Slot), lv_has ls 3 [(2, .int (nI k)), (1, .int (sm (mvf σ) k)), (0, .ref m0)] → W p l e rX7_moving s m args below meth c H locs 0 0 (MQ below (M_Qi D cI m0 as ((th, m_moving σ, σ)) A) args s 0 0 A) (F0 m 4 ls []) := by
    intro n
    induction n with
    | zero => intro k h1 h2; exact absurd h2 (by omega)
    | succ n ih =>
      intro k h1 h2 H locs P ls hl
      refine lv_iload_n (pc := 4) hx hb dX7_moving_4 rfl (lv_at hl 0 rfl) ?_
      refine lv_aload_n (pc := 5) hx hb dX7_moving_5 rfl (lv_at hl 2 rfl) ?_
      refine M_get (pc := 6) (v := .int (σ.1 22)) X P 22 (Nat.le_of_ble_eq_true rfl) (List.mem_of_getElem? (i := 1) rfl) rfl dX7_moving_6 ?_
      refine lv_icmp_ge (pc := 9) (tgt := 40) hx hb dX7_moving_9 (by decide) (fun c_1 : (σ.1 22) ≤ (nI k) => ?_) (fun c_1 : ¬ (σ.1 22) ≤ (nI k) => ?_)
      · have e_k_2 : k = ix (σ.1 22) := lp_end h0 c_1 h1
        refine lv_iload_n (pc := 40) hx hb dX7_moving_40 rfl (lv_at hl 1 rfl) ?_
        exact M_ret (pc := 41) (v := sm (mvf σ) k) X P (by rw [m_moving, e_k_2]) dX7_moving_41
      · have hk_3 : k < ix (σ.1 22) := lp_in h0 c_1 h1
        have hk_4 : k < 30 := Nat.lt_of_lt_of_le (lp_in h0 c_1 h1) h0.2
        refine lv_iload_n (pc := 12) hx hb dX7_moving_12 rfl (lv_at hl 1 rfl) ?_
        refine lv_aload_n (pc := 13) hx hb dX7_moving_13 rfl (lv_at hl 2 rfl) ?_
        refine M_get (pc := 14) (v := .ref (as 23)) X P 23 (Nat.le_of_ble_eq_true rfl) (List.mem_of_getElem? (i := 2) rfl) rfl dX7_moving_14 ?_
        refine lv_iload_n (pc := 17) hx hb dX7_moving_17 rfl (lv_at hl 0 rfl) ?_
        refine M_aldN (pc := 18) (a := as 23) (n := 30) (f := σ.2 23) X P 9 rfl (k := k) hk_4 (by decide) dX7_moving_18 ?_
        refine lv_if_ne (pc := 19) (tgt := 31) hx hb dX7_moving_19 (by decide) (fun c_5 : ¬ (σ.2 23 k) = 0 => ?_) (fun c_5 : (σ.2 23 k) = 0 => ?_)
        · refine lv_iconst (pc := 31) (v := 0) hx hb dX7_moving_31 (by decide) ?_
          refine lv_iadd (pc := 32) hx hb dX7_moving_32 ?_
          refine lv_istore_n (pc := 33) (lv' := [(1, .int ((sm (mvf σ) k) + 0)), (2, .int (nI k)), (0, .ref m0)]) hx hb dX7_moving_33 rfl hl (by decide) rfl (fun ls hl => ?_)
          refine lv_iinc (pc := 34) (v := nI (k + 1)) (lv' := [(2, .int (nI (k + 1))), (1, .int ((sm (mvf σ) k) + 0)), (0, .ref m0)]) hx hb dX7_moving_34 hl (k := 1) rfl ((nI_succ k).symm) (by decide) rfl (fun ls hl => ?_)
          refine lv_goto (pc := 37) (tgt := 4) hx hb dX7_moving_37 (by decide) ?_
          have e_s : sm (mvf σ) (k + 1) = (sm (mvf σ) k) + 0 := by rw [sm_s, mvf, if_neg c_5]
          exact ih (k + 1) hk_3 (by omega) _ _ P ls (by rw [e_s]; exact lv_sub hl [0, 1, 2] rfl)
        · refine lv_aload_n (pc := 22) hx hb dX7_moving_22 rfl (lv_at hl 2 rfl) ?_
          refine M_get (pc := 23) (v := .ref (as 26)) X P 26 (Nat.le_of_ble_eq_true rfl) (List.mem_of_getElem? (i := 3) rfl) rfl dX7_moving_23 ?_
          refine lv_iload_n (pc := 26) hx hb dX7_moving_26 rfl (lv_at hl 0 rfl) ?_
          refine M_aldN (pc := 27) (a := as 26) (n := 30) (f := σ.2 26) X P 12 rfl (k := k) hk_4 (by decide) dX7_moving_27 ?_
          refine lv_goto (pc := 28) (tgt := 32) hx hb dX7_moving_28 (by decide) ?_
          refine lv_iadd (pc := 32) hx hb dX7_moving_32 ?_
          refine lv_istore_n (pc := 33) (lv' := [(1, .int ((sm (mvf σ) k) + (σ.2 26 k))), (2, .int (nI k)), (0, .ref m0)]) hx hb dX7_moving_33 rfl hl (by decide) rfl (fun ls hl => ?_)
          refine lv_iinc (pc := 34) (v := nI (k + 1)) (lv' := [(2, .int (nI (k + 1))), (1, .int ((sm (mvf σ) k) + (σ.2 26 k))), (0, .ref m0)]) hx hb dX7_moving_34 hl (k := 1) rfl ((nI_succ k).symm) (by decide) rfl (fun ls hl => ?_)
          refine lv_goto (pc := 37) (tgt := 4) hx hb dX7_moving_37 (by decide) ?_
          have e_s : sm (mvf σ) (k + 1) = (sm (mvf σ) k) + (σ.2 26 k) := by rw [sm_s, mvf, if_pos c_5]
          exact ih (k + 1) hk_3 (by omega) _ _ P ls (by rw [e_s]; exact lv_sub hl [0, 1, 2] rfl)
  refine lv_iconst (pc := 0) (v := 0) hx hb dX7_moving_0 (by decide) ?_
  refine lv_istore_n (pc := 1) (lv' := [(1, .int 0), (0, .ref m0)]) hx hb dX7_moving_1 rfl hl (by decide) rfl (fun ls hl => ?_)
  refine lv_iconst (pc := 2) (v := 0) hx hb dX7_moving_2 (by decide) ?_
  refine lv_istore_n (pc := 3) (lv' := [(2, .int 0), (1, .int 0), (0, .ref m0)]) hx hb dX7_moving_3 rfl hl (by decide) rfl (fun ls hl => ?_)
  exact loop (ix (σ.1 22) + 1) 0 (Nat.zero_le _) (by omega) _ _ P ls (lv_sub hl [0, 1, 2] rfl)
