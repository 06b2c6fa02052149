abbrev rJ7_copyOf_1904c : Room := { frames := 2, cells := 1, slots := 200, locals := 47 }
theorem fnJ7_copyOf_1904c : Fn yJ7_copyOf_1904c wsJ7_copyOf_1904c cJ7_copyOf_1904c 2 (some (.array (.object "java/lang/Object"))) 2 rJ7_copyOf_1904c 1 200 := ⟨⟨_, rfl⟩, rfl, rfl, by decide +kernel⟩
theorem kJ7_copyOf_1904c (l : Launch) (D : va_G) (cI cO : ClassId) (t0 : Nat) (wc : va_W) (pd ed cap N' : Nat) (f : Nat → Option Nat) (hd : wc[pd]? = some (ed, ArO cO cap f)) (hc : cap ≤ N') (hN : N' ≤ 200) (hE : ∀ i, i < cap → ∀ y, f i = some y → El wc y) :
    J_Q (fun _ => True) l yJ7_copyOf_1904c wsJ7_copyOf_1904c rJ7_copyOf_1904c D cI cO t0 wc [.ref ed, .int (nI N')] (fun q => (q, ArO cO N' (va_cpy f (fun _ => none) 0 0 cap)) :: wc) := by
  refine J_bodyQ (n := 2) RJ7 rfl (by decide) fnJ7_copyOf_1904c (Nat.le_of_ble_eq_true rfl) ?_
  intro p e s m args below meth c C V K _ hnm A E9 P ls hl
  have hx := C.1
  have hb := C.2.1
  have hml := C.2.2.1
  have hown := C.2.2.2.1
  have hts := C.2.2.2.2.1
  have hl : lv_has ls 2 [(0, .ref ed), (1, .int (nI N'))] := hl
  obtain ⟨mi, hMi⟩ := V.2.2.2
  refine lv_aload_n (pc := 0) hx hb dJ7_copyOf_1904c_0 rfl (lv_at hl 0 rfl) ?_
  refine lv_iload_n (pc := 1) hx hb dJ7_copyOf_1904c_1 rfl (lv_at hl 1 rfl) ?_
  refine lv_aload_n (pc := 2) hx hb dJ7_copyOf_1904c_2 rfl (lv_at hl 0 rfl) ?_
  refine va_getC (pc := 3) hx hb (hml.trans hl.1.symm) hown (hts _ (List.mem_of_getElem? (i := 1) rfl)) (va_Nw.use rfl (V.1 _ (List.mem_of_getElem? (i := 53) rfl))) (hts _ (List.mem_of_getElem? (i := 2) rfl)) (hts _ (List.mem_of_getElem? (i := 3) rfl)) (hts _ (List.mem_of_getElem? (i := 4) rfl)) hMi ⟨_, P.1 pd _ hd, rfl, nmO K⟩ (Nat.le_of_ble_eq_true rfl) (Nat.le_of_ble_eq_true rfl) dJ7_copyOf_1904c_3 ?_
  refine J_callQS (pc := 6) (X := va_Mi nOb mi) (As := [.ref ed, .int (nI N'), .ref mi]) (rest := []) C V K E9 hl.1 P hMi (fun u U h x => va_Mi.moved h x) (kJ7_copyOf_6403c l D cI cO t0 wc pd ed cap N' mi f hd hc hN hE) fnJ7_copyOf_6403c gJ7_copyOf_1904c_J7_copyOf_6403c rfl rfl ⟨Nat.le_of_ble_eq_true rfl, Nat.le_of_ble_eq_true rfl⟩ (Nat.le_of_ble_eq_true rfl) ⟨Nat.le_of_ble_eq_true rfl, Nat.le_of_ble_eq_true rfl⟩ dJ7_copyOf_1904c_6 (fun q H locs P => ?_)
  exact J_retQ (pc := 9) C (Or.inr ⟨_, rfl⟩) P rfl ⟨Nat.le_of_ble_eq_true rfl, Nat.le_of_ble_eq_true rfl⟩ dJ7_copyOf_1904c_9
abbrev rJ8_newLength_cabcc : Room := { frames := 1, cells := 0, slots := 0, locals := 14 }
theorem fnJ8_newLength_cabcc : Fn yJ8_newLength_cabcc wsJ8_newLength_cabcc cJ8_newLength_cabcc 4 (some .int) 3 rJ8_newLength_cabcc 0 0 := ⟨⟨_, rfl⟩, rfl, rfl, by decide +kernel⟩
theorem kJ8_newLength_cabcc (l : Launch) (o x y r : Int32) (hr : o + (if x < y then y else x) = r) (h1 : ¬ r ≤ 0) (h2 : ¬ (2147483639 : Int32) < r) : S_Met l yJ8_newLength_cabcc wsJ8_newLength_cabcc rJ8_newLength_cabcc [.int o, .int x, .int y] r := by
  refine S_of (n := 3) RJ8 (by decide) fnJ8_newLength_cabcc rfl (Nat.le_of_ble_eq_true rfl) ?_
  intro p e s m args below meth c C ls hl
  have hx := C.1
  have hb := C.2.1
  have hml := C.2.2.1
  have hown := C.2.2.2.1
  have hts := C.2.2.2.2.1
  have hl : lv_has ls 4 [(0, .int o), (1, .int x), (2, .int y)] := hl
  refine lv_iload_n (pc := 0) hx hb dJ8_newLength_cabcc_0 rfl (lv_at hl 0 rfl) ?_
  refine lv_iload_n (pc := 1) hx hb dJ8_newLength_cabcc_1 rfl (lv_at hl 1 rfl) ?_
  refine lv_iload_n (pc := 2) hx hb dJ8_newLength_cabcc_2 rfl (lv_at hl 2 rfl) ?_
  refine va_mmax (pc := 3) hx hb (hml.trans hl.1.symm) hown (hts _ (List.mem_of_getElem? (i := 1) rfl)) (hts _ (List.mem_of_getElem? (i := 2) rfl)) (hts _ (List.mem_of_getElem? (i := 3) rfl)) (hts _ (List.mem_of_getElem? (i := 4) rfl)) (Nat.le_of_ble_eq_true rfl) (Nat.le_of_ble_eq_true rfl) (Nat.le_of_ble_eq_true rfl) (Nat.le_of_ble_eq_true rfl) dJ8_newLength_cabcc_3 ?_
  refine lv_iadd (pc := 6) hx hb dJ8_newLength_cabcc_6 ?_
  rw [hr]
  refine lv_istore_n (pc := 7) (lv' := [(3, .int r), (0, .int o), (1, .int x), (2, .int y)]) hx hb dJ8_newLength_cabcc_7 rfl hl (by decide) rfl (fun ls hl => ?_)
  refine lv_iconst (pc := 8) (v := 0) hx hb dJ8_newLength_cabcc_8 (by decide) ?_
  refine lv_iload_n (pc := 9) hx hb dJ8_newLength_cabcc_9 rfl (lv_at hl 0 rfl) ?_
  refine lv_icmp_ge (pc := 10) (tgt := 21) hx hb dJ8_newLength_cabcc_10 (by decide) (fun g => absurd g h1) (fun _ => ?_)
  refine lv_iload_n (pc := 13) hx hb dJ8_newLength_cabcc_13 rfl (lv_at hl 0 rfl) ?_
  refine lv_ldc (pc := 14) (v := 2147483639) hx hb hown (hts _ (List.mem_of_getElem? (i := 5) rfl)) dJ8_newLength_cabcc_14 ?_
  refine lv_icmp_gt (pc := 16) (tgt := 21) hx hb dJ8_newLength_cabcc_16 (by decide) (fun g => absurd g h2) (fun _ => ?_)
  refine lv_iload_n (pc := 19) hx hb dJ8_newLength_cabcc_19 rfl (lv_at hl 0 rfl) ?_
  exact S_ret (pc := 20) (v := r) C rfl dJ8_newLength_cabcc_20
/-- the row's length when it grows -/
def grw (cap : Nat) : Nat := if cap = 0 then 10 else if cap = 1 then 2 else cap + cap / 2
theorem grw_fin : ∀ k : Fin 101, k.val ≠ 0 → ((nI k.val + (if (nI (k.val + 1) - nI k.val) < (nI k.val >>> ((1 : Int32) &&& 31)) then (nI k.val >>> ((1 : Int32) &&& 31)) else (nI (k.val + 1) - nI k.val))) = nI (grw k.val)) ∧ (¬ nI (grw k.val) ≤ 0) ∧ (¬ (2147483639 : Int32) < nI (grw k.val)) ∧ k.val + 1 ≤ grw k.val ∧ grw k.val ≤ 200 := by decide +kernel
theorem grw_ok {cap : Nat} (h0 : cap ≠ 0) (h : cap ≤ 100) : ((nI cap + (if (nI (cap + 1) - nI cap) < (nI cap >>> ((1 : Int32) &&& 31)) then (nI cap >>> ((1 : Int32) &&& 31)) else (nI (cap + 1) - nI cap))) = nI (grw cap)) ∧ (¬ nI (grw cap) ≤ 0) ∧ (¬ (2147483639 : Int32) < nI (grw cap)) ∧ cap + 1 ≤ grw cap ∧ grw cap ≤ 200 := grw_fin ⟨cap, by omega⟩ h0
theorem grw_le {cap : Nat} (h : cap ≤ 100) : cap + 1 ≤ grw cap ∧ grw cap ≤ 200 := by
  by_cases h0 : cap = 0
  · subst h0; decide
  · exact (grw_ok h0 h).2.2.2
/-- the list's row: what the empty ones share, or a cell -/
def Dk (t0 : Nat) (cO : ClassId) (wd : va_W) (ed cap : Nat) (f : Nat → Option Nat) : Prop := (cap = 0 ∧ ed = t0) ∨ (cap ≠ 0 ∧ ∃ k : Nat, wd[k]? = some (ed, ArO cO cap f))
theorem cpy0 (f : Nat → Option Nat) : va_cpy f (fun _ => none) 0 0 0 = fun _ => none := by
  funext k
  show (if 0 ≤ k ∧ k < 0 + 0 then _ else _) = _
  rw [if_neg (by omega)]
abbrev Lc (mc : Int32) (ed : Nat) (n : Int32) : va_E := .inr (0, [.int mc, .ref ed, .int n])
abbrev rJx4a65c_grow_92f84 : Room := { frames := 3, cells := 1, slots := 200, locals := 68 }
theorem fnJx4a65c_grow_92f84 : Fn yJx4a65c_grow_92f84 wsJx4a65c_grow_92f84 cJx4a65c_grow_92f84 4 (some (.array (.object "java/lang/Object"))) 1 rJx4a65c_grow_92f84 1 200 := ⟨⟨_, rfl⟩, rfl, rfl, by decide +kernel⟩
theorem inJx4a65c_grow_92f84 : ∀ w ∈ wsJx4a65c0, w ∈ wsJx4a65c_grow_92f84 := fun w h => List.mem_cons_of_mem _ (List.mem_append_right _ h)
theorem J_alen {p : Program} {l : Launch} {e : Env} {R : Room} {s : State} {m : MethodId} {args : Array Value} {below : List Frame} {meth : Method} {c : Code} {H : Heap} {locs : List Loc} {cells slots : Nat} {Q : State → Prop} {cc : ByteArray} {pc : Nat} {ls : Array Slot} {rest : List Value} {Ts : List Cond} {nL : Nat} {D : va_G} {A : Nat → Prop} {ret : Option FieldType} {cI cO : ClassId} {t0 : Nat} {own : String} {wd : va_W} {x : Nat × va_E} {ed cap : Nat} {f : Nat → Option Nat}
    (C : Cx own p s m args meth c cc nL Ts ret) (K : va_K D vwCl (tyG cI cO) s) (E9 : EnvH t0 A s s.heap) (P : Hp D A s (x :: wd) H locs) (hk : Dk t0 cO wd ed cap f) (d : decode cc pc = .ok (.arraylength, 1)) (kk : W p l e R s m args below meth c H locs cells slots Q (F0 m (pc + 1) ls (.int (nI cap) :: rest))) : W p l e R s m args below meth c H locs cells slots Q (F0 m pc ls (.ref ed :: rest)) := by
  rcases hk with ⟨rfl, rfl⟩ | ⟨h0, k, hk⟩
  · exact va_tlen C.1 C.2.1 E9.2.2.2 P.2.2.1 rfl d kk
  · exact va_alen (x := (cap, .inr (.inr (.inr (.inr f))))) (v := nI cap) C.1 C.2.1 K P.1 (k + 1) 1 hk rfl rfl d kk
theorem kJx4a65c_grow_92f84 (l : Launch) (D : va_G) (cI cO : ClassId) (t0 : Nat) (wd : va_W) (a ed cap : Nat) (mc n : Int32) (f : Nat → Option Nat) (hk : Dk t0 cO wd ed cap f) (hcap : cap ≤ 100) (hE : ∀ i, i < cap → ∀ y, f i = some y → El wd y) :
    J_Q (fun _ => True) l yJx4a65c_grow_92f84 wsJx4a65c_grow_92f84 rJx4a65c_grow_92f84 D cI cO t0 ((a, Lc mc ed n) :: wd) [.ref a, .int (nI (cap + 1))] (fun q => (q, ArO cO (grw cap) (va_cpy f (fun _ => none) 0 0 cap)) :: (a, Lc mc q n) :: wd) := by
  refine J_bodyQ (n := 1) RJx4a65c rfl (by decide) fnJx4a65c_grow_92f84 (Nat.le_of_ble_eq_true rfl) ?_
  intro p e s m args below meth c C V K _ hnm A E9 P ls hl
  have hx := C.1
  have hb := C.2.1
  have hml := C.2.2.1
  have hown := C.2.2.2.1
  have hts := C.2.2.2.2.1
  have hl : lv_has ls 4 [(0, .ref a), (1, .int (nI (cap + 1)))] := hl
  refine lv_aload_n (pc := 0) hx hb dJx4a65c_grow_92f84_0 rfl (lv_at hl 0 rfl) ?_
  refine x_get (pc := 1) (Cn := RJx4a65c) (T := TJx4a65c) (N := 3) (ci := 0) (fs := [.int mc, .ref ed, .int n]) (v := .ref ed) C K P 0 rfl rfl inJx4a65c_grow_92f84 1 (Nat.le_of_ble_eq_true rfl) (List.mem_of_getElem? (i := 1) rfl) rfl dJx4a65c_grow_92f84_1 ?_
  refine J_alen (pc := 4) C K E9 P hk dJx4a65c_grow_92f84_4 ?_
  refine lv_istore_n (pc := 5) (lv' := [(2, .int (nI cap)), (0, .ref a), (1, .int (nI (cap + 1)))]) hx hb dJx4a65c_grow_92f84_5 rfl hl (by decide) rfl (fun ls hl => ?_)
  refine lv_iload_n (pc := 6) hx hb dJx4a65c_grow_92f84_6 rfl (lv_at hl 0 rfl) ?_
  refine lv_if_gt (pc := 7) (tgt := 20) hx hb dJx4a65c_grow_92f84_7 (by decide) (fun c_1 => ?_) (fun c_1 => ?_)
  · have h0 : cap ≠ 0 := fun e => by rw [e] at c_1; exact absurd c_1 (by decide)
    obtain ⟨g1, g2, g3, g4, g5⟩ := grw_ok h0 hcap
    obtain ⟨k, hk⟩ : ∃ k : Nat, wd[k]? = some (ed, ArO cO cap f) := by
      rcases hk with ⟨e, -⟩ | ⟨-, h⟩
      · exact absurd e h0
      · exact h
    refine lv_iload_n (pc := 20) hx hb dJx4a65c_grow_92f84_20 rfl (lv_at hl 0 rfl) ?_
    refine lv_iload_n (pc := 21) hx hb dJx4a65c_grow_92f84_21 rfl (lv_at hl 2 rfl) ?_
    refine lv_iload_n (pc := 22) hx hb dJx4a65c_grow_92f84_22 rfl (lv_at hl 0 rfl) ?_
    refine lv_isub (pc := 23) hx hb dJx4a65c_grow_92f84_23 ?_
    refine lv_iload_n (pc := 24) hx hb dJx4a65c_grow_92f84_24 rfl (lv_at hl 0 rfl) ?_
    refine lv_iconst (pc := 25) (v := 1) hx hb dJx4a65c_grow_92f84_25 (by decide) ?_
    refine lv_ishr (pc := 26) hx hb dJx4a65c_grow_92f84_26 ?_
    refine S_call (pc := 27) (As := [.int (nI cap), .int (nI (cap + 1) - nI cap), .int (nI cap >>> ((1 : Int32) &&& 31))]) (rest := []) (r := nI (grw cap)) C hl.1 (kJ8_newLength_cabcc l _ _ _ _ g1 g2 g3) fnJ8_newLength_cabcc gJx4a65c_grow_92f84_J8_newLength_cabcc rfl rfl ⟨Nat.le_of_ble_eq_true rfl, Nat.le_of_ble_eq_true rfl⟩ (Nat.le_of_ble_eq_true rfl) ⟨Nat.le_of_ble_eq_true rfl, Nat.le_of_ble_eq_true rfl⟩ dJx4a65c_grow_92f84_27 ?_
    refine lv_istore_n (pc := 30) (lv' := [(3, .int (nI (grw cap))), (2, .int (nI cap)), (0, .ref a), (1, .int (nI (cap + 1)))]) hx hb dJx4a65c_grow_92f84_30 rfl hl (by decide) rfl (fun ls hl => ?_)
    refine lv_aload_n (pc := 31) hx hb dJx4a65c_grow_92f84_31 rfl (lv_at hl 2 rfl) ?_
    refine lv_aload_n (pc := 32) hx hb dJx4a65c_grow_92f84_32 rfl (lv_at hl 2 rfl) ?_
    refine x_get (pc := 33) (Cn := RJx4a65c) (T := TJx4a65c) (N := 3) (ci := 0) (fs := [.int mc, .ref ed, .int n]) (v := .ref ed) C K P 0 rfl rfl inJx4a65c_grow_92f84 1 (Nat.le_of_ble_eq_true rfl) (List.mem_of_getElem? (i := 1) rfl) rfl dJx4a65c_grow_92f84_33 ?_
    refine lv_iload_n (pc := 36) hx hb dJx4a65c_grow_92f84_36 rfl (lv_at hl 0 rfl) ?_
    refine J_callQS (pc := 37) (X := fun _ => True) (As := [.ref ed, .int (nI (grw cap))]) (rest := [.ref a]) C V K E9 hl.1 P trivial (fun _ _ _ _ => trivial) (kJ7_copyOf_1904c l D cI cO t0 ((a, Lc mc ed n) :: wd) (k + 1) ed cap (grw cap) f hk (by omega) g5 (fun i hi y hy => (hE i hi y hy).cons)) fnJ7_copyOf_1904c gJx4a65c_grow_92f84_J7_copyOf_1904c rfl rfl ⟨Nat.le_of_ble_eq_true rfl, Nat.le_of_ble_eq_true rfl⟩ (Nat.le_of_ble_eq_true rfl) ⟨Nat.le_of_ble_eq_true rfl, Nat.le_of_ble_eq_true rfl⟩ dJx4a65c_grow_92f84_37 (fun q H locs P => ?_)
    refine lv_dup_x1 (pc := 40) hx hb dJx4a65c_grow_92f84_40 rfl rfl ?_
    refine x_put (pc := 41) (Cn := RJx4a65c) (T := TJx4a65c) (N := 3) (ci := 0) (fs := [.int mc, .ref ed, .int n]) (v := .ref q) C K P 1 rfl rfl inJx4a65c_grow_92f84 tyJx4a65c_ok nmJx4a65c 1 (Nat.le_of_ble_eq_true rfl) (List.mem_of_getElem? (i := 1) rfl) rfl rfl rfl (Nat.le_of_ble_eq_true rfl) dJx4a65c_grow_92f84_41 (fun H locs P => ?_)
    exact J_retQ (pc := 44) C (Or.inr ⟨_, rfl⟩) P rfl ⟨Nat.le_of_ble_eq_true rfl, Nat.le_of_ble_eq_true rfl⟩ dJx4a65c_grow_92f84_44
  · have h0 : cap = 0 := by
      rcases hk with ⟨e, -⟩ | ⟨h0, -⟩
      · exact e
      · exact absurd (by rw [Int32.lt_iff_toInt_lt, nI_toInt (by omega)]; show (0 : Int) < cap; omega) c_1
    obtain rfl : ed = t0 := by
      rcases hk with ⟨-, e⟩ | ⟨h, -⟩
      · exact e
      · exact absurd h0 h
    subst h0
    refine lv_aload_n (pc := 10) hx hb dJx4a65c_grow_92f84_10 rfl (lv_at hl 1 rfl) ?_
    refine x_get (pc := 11) (Cn := RJx4a65c) (T := TJx4a65c) (N := 3) (ci := 0) (fs := [.int mc, .ref ed, .int n]) (v := .ref ed) C K P 0 rfl rfl inJx4a65c_grow_92f84 1 (Nat.le_of_ble_eq_true rfl) (List.mem_of_getElem? (i := 1) rfl) rfl dJx4a65c_grow_92f84_11 ?_
    refine va_gets (pc := 14) hx hb E9.2.2.1 P.2.2.1 hown (hts _ (List.mem_of_getElem? (i := 2) rfl)) (fun _ h => h) dJx4a65c_grow_92f84_14 ?_
    refine lv_acmp_eq (pc := 17) (tgt := 45) (rx := some ed) (ry := some ed) hx hb dJx4a65c_grow_92f84_17 (by decide) (fun _ => ?_) (fun g => absurd rfl g)
    refine lv_aload_n (pc := 45) hx hb dJx4a65c_grow_92f84_45 rfl (lv_at hl 1 rfl) ?_
    refine lv_bipush (pc := 46) (v := 10) hx hb dJx4a65c_grow_92f84_46 (by decide) ?_
    refine lv_iload_n (pc := 48) hx hb dJx4a65c_grow_92f84_48 rfl (lv_at hl 2 rfl) ?_
    refine va_mmax (pc := 49) hx hb (hml.trans hl.1.symm) hown (hts _ (List.mem_of_getElem? (i := 3) rfl)) (hts _ (List.mem_of_getElem? (i := 4) rfl)) (hts _ (List.mem_of_getElem? (i := 5) rfl)) (hts _ (List.mem_of_getElem? (i := 6) rfl)) (Nat.le_of_ble_eq_true rfl) (Nat.le_of_ble_eq_true rfl) (Nat.le_of_ble_eq_true rfl) (Nat.le_of_ble_eq_true rfl) dJx4a65c_grow_92f84_49 ?_
    refine x_newO (pc := 52) C V K P (List.mem_of_getElem? (i := 7) rfl) 10 (by decide) (by decide) (by decide) (Nat.le_of_ble_eq_true rfl) (Nat.le_of_ble_eq_true rfl) dJx4a65c_grow_92f84_52 (fun q H P => ?_)
    refine lv_dup_x1 (pc := 55) hx hb dJx4a65c_grow_92f84_55 rfl rfl ?_
    refine x_put (pc := 56) (Cn := RJx4a65c) (T := TJx4a65c) (N := 3) (ci := 0) (fs := [.int mc, .ref ed, .int n]) (v := .ref q) C K P 1 rfl rfl inJx4a65c_grow_92f84 tyJx4a65c_ok nmJx4a65c 1 (Nat.le_of_ble_eq_true rfl) (List.mem_of_getElem? (i := 1) rfl) rfl rfl rfl (Nat.le_of_ble_eq_true rfl) dJx4a65c_grow_92f84_56 (fun H locs P => ?_)
    exact J_retQ (pc := 59) C (Or.inr ⟨_, rfl⟩) P (by rw [cpy0]; rfl) ⟨Nat.le_of_ble_eq_true rfl, Nat.le_of_ble_eq_true rfl⟩ dJx4a65c_grow_92f84_59
abbrev rJx4a65c_grow_d5877 : Room := { frames := 4, cells := 1, slots := 200, locals := 91 }
theorem fnJx4a65c_grow_d5877 : Fn yJx4a65c_grow_d5877 wsJx4a65c_grow_d5877 cJx4a65c_grow_d5877 1 (some (.array (.object "java/lang/Object"))) 0 rJx4a65c_grow_d5877 1 200 := ⟨⟨_, rfl⟩, rfl, rfl, by decide +kernel⟩
theorem inJx4a65c_grow_d5877 : ∀ w ∈ wsJx4a65c0, w ∈ wsJx4a65c_grow_d5877 := fun w h => List.mem_cons_of_mem _ (List.mem_append_right _ h)
theorem kJx4a65c_grow_d5877 (l : Launch) (D : va_G) (cI cO : ClassId) (t0 : Nat) (wd : va_W) (a ed cap : Nat) (mc : Int32) (f : Nat → Option Nat) (hk : Dk t0 cO wd ed cap f) (hcap : cap ≤ 100) (hE : ∀ i, i < cap → ∀ y, f i = some y → El wd y) :
    J_Q (fun _ => True) l yJx4a65c_grow_d5877 wsJx4a65c_grow_d5877 rJx4a65c_grow_d5877 D cI cO t0 ((a, Lc mc ed (nI cap)) :: wd) [.ref a] (fun q => (q, ArO cO (grw cap) (va_cpy f (fun _ => none) 0 0 cap)) :: (a, Lc mc q (nI cap)) :: wd) := by
  refine J_bodyQ (n := 0) RJx4a65c rfl (by decide) fnJx4a65c_grow_d5877 (Nat.le_of_ble_eq_true rfl) ?_
  intro p e s m args below meth c C V K _ hnm A E9 P ls hl
  have hx := C.1
  have hb := C.2.1
  have hl : lv_has ls 1 [(0, .ref a)] := hl
  refine lv_aload_n (pc := 0) hx hb dJx4a65c_grow_d5877_0 rfl (lv_at hl 0 rfl) ?_
  refine lv_aload_n (pc := 1) hx hb dJx4a65c_grow_d5877_1 rfl (lv_at hl 0 rfl) ?_
  refine x_get (pc := 2) (Cn := RJx4a65c) (T := TJx4a65c) (N := 3) (ci := 0) (fs := [.int mc, .ref ed, .int (nI cap)]) (v := .int (nI cap)) C K P 0 rfl rfl inJx4a65c_grow_d5877 2 (Nat.le_of_ble_eq_true rfl) (List.mem_of_getElem? (i := 1) rfl) rfl dJx4a65c_grow_d5877_2 ?_
  refine lv_iconst (pc := 5) (v := 1) hx hb dJx4a65c_grow_d5877_5 (by decide) ?_
  refine lv_iadd (pc := 6) hx hb dJx4a65c_grow_d5877_6 ?_
  rw [show nI cap + 1 = nI (cap + 1) from (nI_succ cap).symm]
  refine J_callQ (pc := 7) (As := [.int (nI (cap + 1))]) (rest := []) (rc := RJx4a65c) C V K E9 hl.1 P (va_recv K P.1 (ci := 0) (q0 := 0) rfl rfl) (kJx4a65c_grow_92f84 l D cI cO t0 wd a ed cap mc (nI cap) f hk hcap hE) fnJx4a65c_grow_92f84 rfl gJx4a65c_grow_d5877_Jx4a65c_grow_92f84 rfl rfl ⟨Nat.le_of_ble_eq_true rfl, Nat.le_of_ble_eq_true rfl⟩ (Nat.le_of_ble_eq_true rfl) ⟨Nat.le_of_ble_eq_true rfl, Nat.le_of_ble_eq_true rfl⟩ dJx4a65c_grow_d5877_7 (fun q H locs P => ?_)
  exact J_retQ (pc := 10) C (Or.inr ⟨_, rfl⟩) P rfl ⟨Nat.le_of_ble_eq_true rfl, Nat.le_of_ble_eq_true rfl⟩ dJx4a65c_grow_d5877_10
/-- what an add leaves: full, or not -/
def add_W (cO : ClassId) (wd : va_W) (kd a ed cap k v : Nat) (mc : Int32) (f : Nat → Option Nat) (q : Nat) : va_W :=
  if k = cap then (q, ArO cO (grw cap) (va_up (va_cpy f (fun _ => none) 0 0 cap) k (some v))) :: (a, Lc mc q (nI (k + 1))) :: wd
  else (a, Lc mc ed (nI (k + 1))) :: wd.set kd (ed, ArO cO cap (va_up f k (some v)))
def Dk2 (t0 : Nat) (cO : ClassId) (wd : va_W) (kd ed cap : Nat) (f : Nat → Option Nat) : Prop := (cap = 0 ∧ ed = t0) ∨ (cap ≠ 0 ∧ wd[kd]? = some (ed, ArO cO cap f))
theorem Dk2.to {t0 : Nat} {cO : ClassId} {wd : va_W} {kd ed cap : Nat} {f : Nat → Option Nat} (h : Dk2 t0 cO wd kd ed cap f) : Dk t0 cO wd ed cap f := by
  rcases h with h | ⟨h1, h2⟩
  · exact Or.inl h
  · exact Or.inr ⟨h1, kd, h2⟩
abbrev rJx4a65c_add_72be8 : Room := { frames := 5, cells := 1, slots := 200, locals := 111 }
theorem fnJx4a65c_add_72be8 : Fn yJx4a65c_add_72be8 wsJx4a65c_add_72be8 cJx4a65c_add_72be8 4 none 3 rJx4a65c_add_72be8 1 200 := ⟨⟨_, rfl⟩, rfl, rfl, by decide +kernel⟩
theorem inJx4a65c_add_72be8 : ∀ w ∈ wsJx4a65c0, w ∈ wsJx4a65c_add_72be8 := fun w h => List.mem_cons_of_mem _ (List.mem_append_right _ h)
theorem kJx4a65c_add_72be8 (l : Launch) (D : va_G) (cI cO : ClassId) (t0 : Nat) (wd : va_W) (kd a ed cap k v : Nat) (mc : Int32) (f : Nat → Option Nat) (hk : Dk2 t0 cO wd kd ed cap f) (hle : k ≤ cap) (hk100 : k ≤ 99) (hcap : cap ≤ 200) (hE : ∀ i, i < k → ∀ y, f i = some y → El wd y) (hv : El wd v) :
    J_V l yJx4a65c_add_72be8 wsJx4a65c_add_72be8 rJx4a65c_add_72be8 D cI cO t0 ((a, Lc mc ed (nI k)) :: wd) [.ref a, .ref v, .ref ed, .int (nI k)] (add_W cO wd kd a ed cap k v mc f) := by
  refine J_bodyV (n := 3) RJx4a65c rfl (by decide) fnJx4a65c_add_72be8 (Nat.le_of_ble_eq_true rfl) ?_
  intro p e s m args below meth c C V K _ hnm A E9 P ls hl
  have hx := C.1
  have hb := C.2.1
  have hl : lv_has ls 4 [(0, .ref a), (1, .ref v), (2, .ref ed), (3, .int (nI k))] := hl
  have hkc : (nI k).toNatClampNeg = k := nI_clamp (by omega)
  refine lv_iload_n (pc := 0) hx hb dJx4a65c_add_72be8_0 rfl (lv_at hl 3 rfl) ?_
  refine lv_aload_n (pc := 1) hx hb dJx4a65c_add_72be8_1 rfl (lv_at hl 2 rfl) ?_
  refine J_alen (pc := 2) C K E9 P hk.to dJx4a65c_add_72be8_2 ?_
  refine lv_icmp_ne (pc := 3) (tgt := 11) hx hb dJx4a65c_add_72be8_3 (by decide) (fun c_1 => ?_) (fun c_1 => ?_)
  · have hne : k ≠ cap := fun e => c_1 (by rw [e])
    have hd : wd[kd]? = some (ed, ArO cO cap f) := by
      rcases hk with ⟨e, -⟩ | ⟨-, h⟩
      · omega
      · exact h
    refine lv_aload_n (pc := 11) hx hb dJx4a65c_add_72be8_11 rfl (lv_at hl 2 rfl) ?_
    refine lv_iload_n (pc := 12) hx hb dJx4a65c_add_72be8_12 rfl (lv_at hl 3 rfl) ?_
    refine lv_aload_n (pc := 13) hx hb dJx4a65c_add_72be8_13 rfl (lv_at hl 1 rfl) ?_
    refine va_astqM (pc := 14) hx hb K P.1 P.2.1 P.2.2.1 (kd + 1) 1 (E := "java/lang/Object") hd rfl (hv.cons.any V.1 K P.1) (vp_in_nI (by omega) (by omega)) dJx4a65c_add_72be8_14 (fun H locs h1 h2 h3 => ?_)
    rw [hkc] at h1 h2
    have P : Hp D A s ((a, Lc mc ed (nI k)) :: wd.set kd (ed, ArO cO cap (va_up f k (some v)))) H locs := ⟨h1, h2, h3, P.2.2.2⟩
    refine lv_aload_n (pc := 15) hx hb dJx4a65c_add_72be8_15 rfl (lv_at hl 0 rfl) ?_
    refine lv_iload_n (pc := 16) hx hb dJx4a65c_add_72be8_16 rfl (lv_at hl 3 rfl) ?_
    refine lv_iconst (pc := 17) (v := 1) hx hb dJx4a65c_add_72be8_17 (by decide) ?_
    refine lv_iadd (pc := 18) hx hb dJx4a65c_add_72be8_18 ?_
    rw [show nI k + 1 = nI (k + 1) from (nI_succ k).symm]
    refine x_put (pc := 19) (Cn := RJx4a65c) (T := TJx4a65c) (N := 3) (ci := 0) (fs := [.int mc, .ref ed, .int (nI k)]) (v := .int (nI (k + 1))) C K P 0 rfl rfl inJx4a65c_add_72be8 tyJx4a65c_ok nmJx4a65c 2 (Nat.le_of_ble_eq_true rfl) (List.mem_of_getElem? (i := 1) rfl) rfl rfl rfl (Nat.le_of_ble_eq_true rfl) dJx4a65c_add_72be8_19 (fun H locs P => ?_)
    exact J_retV (pc := 22) (q := 0) C P (by rw [add_W, if_neg hne]; rfl) ⟨Nat.le_of_ble_eq_true rfl, Nat.le_of_ble_eq_true rfl⟩ dJx4a65c_add_72be8_22
  · have he : k = cap := by
      have h1 : (nI k).toNatClampNeg = (nI cap).toNatClampNeg := by rw [c_1]
      rw [hkc, nI_clamp (by omega)] at h1
      exact h1
    subst he
    obtain ⟨g4, g5⟩ := grw_le (cap := k) (by omega)
    refine lv_aload_n (pc := 6) hx hb dJx4a65c_add_72be8_6 rfl (lv_at hl 0 rfl) ?_
    refine J_callQ (pc := 7) (As := []) (rest := []) (rc := RJx4a65c) C V K E9 hl.1 P (va_recv K P.1 (ci := 0) (q0 := 0) rfl rfl) (kJx4a65c_grow_d5877 l D cI cO t0 wd a ed k mc f hk.to (by omega) hE) fnJx4a65c_grow_d5877 rfl gJx4a65c_add_72be8_Jx4a65c_grow_d5877 rfl rfl ⟨Nat.le_of_ble_eq_true rfl, Nat.le_of_ble_eq_true rfl⟩ (Nat.le_of_ble_eq_true rfl) ⟨Nat.le_of_ble_eq_true rfl, Nat.le_of_ble_eq_true rfl⟩ dJx4a65c_add_72be8_7 (fun q H locs P => ?_)
    refine lv_astore_n (pc := 10) (lv' := [(2, .ref q), (0, .ref a), (1, .ref v), (3, .int (nI k))]) hx hb dJx4a65c_add_72be8_10 rfl hl (by decide) rfl (fun ls hl => ?_)
    refine lv_aload_n (pc := 11) hx hb dJx4a65c_add_72be8_11 rfl (lv_at hl 0 rfl) ?_
    refine lv_iload_n (pc := 12) hx hb dJx4a65c_add_72be8_12 rfl (lv_at hl 3 rfl) ?_
    refine lv_aload_n (pc := 13) hx hb dJx4a65c_add_72be8_13 rfl (lv_at hl 2 rfl) ?_
    refine va_astqM (pc := 14) hx hb K P.1 P.2.1 P.2.2.1 0 1 (E := "java/lang/Object") rfl rfl (hv.cons.cons.any V.1 K P.1) (vp_in_nI (by omega) (by omega)) dJx4a65c_add_72be8_14 (fun H locs h1 h2 h3 => ?_)
    rw [hkc] at h1 h2
    have P : Hp D A s ((q, ArO cO (grw k) (va_up (va_cpy f (fun _ => none) 0 0 k) k (some v))) :: (a, Lc mc q (nI k)) :: wd) H locs := ⟨h1, h2, h3, P.2.2.2⟩
    refine lv_aload_n (pc := 15) hx hb dJx4a65c_add_72be8_15 rfl (lv_at hl 1 rfl) ?_
    refine lv_iload_n (pc := 16) hx hb dJx4a65c_add_72be8_16 rfl (lv_at hl 3 rfl) ?_
    refine lv_iconst (pc := 17) (v := 1) hx hb dJx4a65c_add_72be8_17 (by decide) ?_
    refine lv_iadd (pc := 18) hx hb dJx4a65c_add_72be8_18 ?_
    rw [show nI k + 1 = nI (k + 1) from (nI_succ k).symm]
    refine x_put (pc := 19) (Cn := RJx4a65c) (T := TJx4a65c) (N := 3) (ci := 0) (fs := [.int mc, .ref q, .int (nI k)]) (v := .int (nI (k + 1))) C K P 1 rfl rfl inJx4a65c_add_72be8 tyJx4a65c_ok nmJx4a65c 2 (Nat.le_of_ble_eq_true rfl) (List.mem_of_getElem? (i := 1) rfl) rfl rfl rfl (Nat.le_of_ble_eq_true rfl) dJx4a65c_add_72be8_19 (fun H locs P => ?_)
    exact J_retV (pc := 22) (q := q) C P (by rw [add_W, if_pos rfl]; rfl) ⟨Nat.le_of_ble_eq_true rfl, Nat.le_of_ble_eq_true rfl⟩ dJx4a65c_add_72be8_22
abbrev rJx4a65c_add_9ea2d : Room := { frames := 6, cells := 1, slots := 200, locals := 134 }
theorem fnJx4a65c_add_9ea2d : Fn yJx4a65c_add_9ea2d wsJx4a65c_add_9ea2d cJx4a65c_add_9ea2d 2 (some .boolean) 1 rJx4a65c_add_9ea2d 1 200 := ⟨⟨_, rfl⟩, rfl, rfl, by decide +kernel⟩
theorem inJx4a65c_add_9ea2d : ∀ w ∈ wsJx4a65c0, w ∈ wsJx4a65c_add_9ea2d := fun w h => List.mem_cons_of_mem _ (List.mem_append_right _ h)
theorem kJx4a65c_add_9ea2d (l : Launch) (D : va_G) (cI cO : ClassId) (t0 : Nat) (wd : va_W) (kd a ed cap k v : Nat) (mc : Int32) (f : Nat → Option Nat) (hk : Dk2 t0 cO wd kd ed cap f) (hle : k ≤ cap) (hk100 : k ≤ 99) (hcap : cap ≤ 200) (hE : ∀ i, i < k → ∀ y, f i = some y → El wd y) (hv : El wd v) :
    J_I l yJx4a65c_add_9ea2d wsJx4a65c_add_9ea2d rJx4a65c_add_9ea2d D cI cO t0 ((a, Lc mc ed (nI k)) :: wd) [.ref a, .ref v] (add_W cO wd kd a ed cap k v (mc + 1) f) := by
  refine J_bodyI (n := 1) RJx4a65c rfl (by decide) fnJx4a65c_add_9ea2d (Nat.le_of_ble_eq_true rfl) ?_
  intro p e s m args below meth c C V K _ hnm A E9 P ls hl
  have hx := C.1
  have hb := C.2.1
  have hown := C.2.2.2.1
  have hts := C.2.2.2.2.1
  have hl : lv_has ls 2 [(0, .ref a), (1, .ref v)] := hl
  have hsame := u_same (hts (.sameField "java/util/ArrayList" "java/util/AbstractList" "modCount" "I") (List.mem_of_getElem? (i := 2) rfl))
  refine lv_aload_n (pc := 0) hx hb dJx4a65c_add_9ea2d_0 rfl (lv_at hl 0 rfl) ?_
  refine lv_dup (pc := 1) hx hb dJx4a65c_add_9ea2d_1 rfl ?_
  refine va_get (pc := 2) (C := RJx4a65c) (T := TJx4a65c) (N := 3) (ci := 0) (fs := [.int mc, .ref ed, .int (nI k)]) (v := .int mc) hx hb hts inJx4a65c_add_9ea2d hown K P.1 0 rfl rfl 0 (Nat.le_of_ble_eq_true rfl) (hts _ (List.mem_of_getElem? (i := 1) rfl)) (fun x h => hsame x h) rfl dJx4a65c_add_9ea2d_2 ?_
  refine lv_iconst (pc := 5) (v := 1) hx hb dJx4a65c_add_9ea2d_5 (by decide) ?_
  refine lv_iadd (pc := 6) hx hb dJx4a65c_add_9ea2d_6 ?_
  refine va_put (pc := 7) (C := RJx4a65c) (T := TJx4a65c) (N := 3) (ci := 0) (fs := [.int mc, .ref ed, .int (nI k)]) (v := .int (mc + 1)) hx hb hts inJx4a65c_add_9ea2d tyJx4a65c tyJx4a65c_ok nmJx4a65c hown K P.1 P.2.1 P.2.2.1 0 rfl rfl 0 (Nat.le_of_ble_eq_true rfl) (hts _ (List.mem_of_getElem? (i := 1) rfl)) (fun x h => hsame x h) rfl (tyJx4a65c_ok 0 (by decide)) rfl rfl (Nat.le_of_ble_eq_true rfl) dJx4a65c_add_9ea2d_7 (fun H locs h1 h2 h3 => ?_)
  have P : Hp D A s ((a, Lc (mc + 1) ed (nI k)) :: wd) H locs := ⟨h1, h2, h3, P.2.2.2⟩
  refine lv_aload_n (pc := 10) hx hb dJx4a65c_add_9ea2d_10 rfl (lv_at hl 0 rfl) ?_
  refine lv_aload_n (pc := 11) hx hb dJx4a65c_add_9ea2d_11 rfl (lv_at hl 1 rfl) ?_
  refine lv_aload_n (pc := 12) hx hb dJx4a65c_add_9ea2d_12 rfl (lv_at hl 0 rfl) ?_
  refine x_get (pc := 13) (Cn := RJx4a65c) (T := TJx4a65c) (N := 3) (ci := 0) (fs := [.int (mc + 1), .ref ed, .int (nI k)]) (v := .ref ed) C K P 0 rfl rfl inJx4a65c_add_9ea2d 1 (Nat.le_of_ble_eq_true rfl) (List.mem_of_getElem? (i := 3) rfl) rfl dJx4a65c_add_9ea2d_13 ?_
  refine lv_aload_n (pc := 16) hx hb dJx4a65c_add_9ea2d_16 rfl (lv_at hl 0 rfl) ?_
  refine x_get (pc := 17) (Cn := RJx4a65c) (T := TJx4a65c) (N := 3) (ci := 0) (fs := [.int (mc + 1), .ref ed, .int (nI k)]) (v := .int (nI k)) C K P 0 rfl rfl inJx4a65c_add_9ea2d 2 (Nat.le_of_ble_eq_true rfl) (List.mem_of_getElem? (i := 4) rfl) rfl dJx4a65c_add_9ea2d_17 ?_
  refine J_callV (pc := 20) (As := [.ref v, .ref ed, .int (nI k)]) (rest := []) (rc := RJx4a65c) C V K E9 hl.1 P (va_recv K P.1 (ci := 0) (q0 := 0) rfl rfl) (kJx4a65c_add_72be8 l D cI cO t0 wd kd a ed cap k v (mc + 1) f hk hle hk100 hcap hE hv) fnJx4a65c_add_72be8 rfl gJx4a65c_add_9ea2d_Jx4a65c_add_72be8 rfl rfl ⟨Nat.le_of_ble_eq_true rfl, Nat.le_of_ble_eq_true rfl⟩ (Nat.le_of_ble_eq_true rfl) ⟨Nat.le_of_ble_eq_true rfl, Nat.le_of_ble_eq_true rfl⟩ dJx4a65c_add_9ea2d_20 (fun q H locs P => ?_)
  refine lv_iconst (pc := 23) (v := 1) hx hb dJx4a65c_add_9ea2d_23 (by decide) ?_
  exact J_retI (pc := 24) (q := q) C P rfl ⟨Nat.le_of_ble_eq_true rfl, Nat.le_of_ble_eq_true rfl⟩ dJx4a65c_add_9ea2d_24
