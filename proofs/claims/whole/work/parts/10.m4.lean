def latS (k : Nat) (S : Sg) : Sg := if S.2 23 k = 0 then (if S.1 1 ≤ S.2 27 k then S else (m_misses (bs S 23 k 2) (S.2 26 k)).2) else S
def lat : Nat → Sg → Sg
  | 0, S => S
  | n + 1, S => latS n (lat n S)
theorem lat_s (n : Nat) (S : Sg) : lat (n + 1) S = latS n (lat n S) := rfl
def shrI (k : Nat) (S : Sg) : Int32 := m_part (S.2 6 k) (S.2 7 (ix (S.2 3 k))) 100000
def shrS (k : Nat) (S : Sg) : Sg := bs (bs (bs S 10 4 (S.2 10 4 + shrI k S)) 6 k (S.2 6 k - shrI k S)) 5 k (S.2 5 k - m_part (S.2 5 k) (S.2 7 (ix (S.2 3 k))) 100000)
def shr : Nat → Sg → Sg
  | 0, S => S
  | n + 1, S => shrS n (shr n S)
theorem shr_s (n : Nat) (S : Sg) : shr (n + 1) S = shrS n (shr n S) := rfl
theorem latS_z {j : Nat} (hj : j ≠ 12) (k : Nat) (S : Sg) : (latS k S).1 j = S.1 j := by
  rw [latS]
  split
  · split
    · rfl
    · rw [m_misses]
      show (upd S.1 12 _) j = S.1 j
      exact pk_un hj
  · rfl
theorem latS_b {j : Nat} (hj : j ≠ 23) (hj2 : j ≠ 10) (k : Nat) (S : Sg) : (latS k S).2 j = S.2 j := by
  rw [latS]
  split
  · split
    · rfl
    · rw [m_misses]
      show (if j = 10 then _ else (if j = 23 then _ else S.2 j)) = S.2 j
      rw [if_neg hj2, if_neg hj]
  · rfl
theorem lat_z {j : Nat} (hj : j ≠ 12) (k : Nat) (S : Sg) : (lat k S).1 j = S.1 j := by
  induction k with
  | zero => rfl
  | succ k ih => rw [lat_s, latS_z hj, ih]
theorem lat_b {j : Nat} (hj : j ≠ 23) (hj2 : j ≠ 10) (k : Nat) (S : Sg) : (lat k S).2 j = S.2 j := by
  induction k with
  | zero => rfl
  | succ k ih => rw [lat_s, latS_b hj hj2, ih]
theorem shr_z (k : Nat) (S : Sg) : (shr k S).1 = S.1 := by
  induction k with
  | zero => rfl
  | succ k ih => rw [shr_s]; exact ih
theorem shr_b {j : Nat} (h1 : j ≠ 5) (h2 : j ≠ 6) (h3 : j ≠ 10) (k : Nat) (S : Sg) : (shr k S).2 j = S.2 j := by
  induction k with
  | zero => rfl
  | succ k ih =>
    rw [shr_s, shrS]
    show (if j = 5 then _ else (if j = 6 then _ else (if j = 10 then _ else (shr k S).2 j))) = S.2 j
    rw [if_neg h1, if_neg h2, if_neg h3, ih]
theorem cnt_of {σ τ : Sg} {j n : Nat} (h : Cnt σ j n) (e : τ.1 j = σ.1 j) : Cnt τ j n := by unfold Cnt at h ⊢; rw [e]; exact h
def m_pre (σ : Sg) : Sg := if ((σ.1 1) + 1) = (σ.1 13) then (if (((σ.1 1) + 1) - ((σ.1 1) + 1) / 100 * 100) = 0 then (zs (zs (zs (zs σ 1 ((σ.1 1) + 1)) 11 (σ.1 14)) 13 (-1)) 16 0) else (zs (zs (zs (zs σ 1 ((σ.1 1) + 1)) 11 (σ.1 14)) 13 (-1)) 16 (σ.1 16))) else if (((σ.1 1) + 1) - ((σ.1 1) + 1) / 100 * 100) = 0 then (zs (zs σ 1 ((σ.1 1) + 1)) 16 0) else (zs (zs σ 1 ((σ.1 1) + 1)) 16 (σ.1 16))
def m_tail (S2 : Sg) : Sg := if ((S2.1 1) - (S2.1 1) / 30 * 30) = 0 then (if (S2.1 12) ≤ 0 then (zs S2 12 ((S2.1 12) + 0)) else (zs S2 12 ((S2.1 12) + ((S2.1 12) / 100)))) else (zs S2 12 ((S2.1 12) + 0))
def m_passesOne (σ : Sg) : Sg := m_tail (shr (ix (σ.1 2)) (lat (ix (σ.1 22)) (m_pre σ)))
abbrev rX7_passesOne : Room := { frames := 2, cells := 0, slots := 0, locals := 44 }
theorem fnX7_passesOne : Fn yX7_passesOne wsX7_passesOne cX7_passesOne 3 none 0 rX7_passesOne 0 0 := ⟨⟨_, rfl⟩, rfl, rfl, by decide +kernel⟩
theorem inX7_passesOne : ∀ w ∈ wsX70, w ∈ wsX7_passesOne := fun w h => List.mem_cons_of_mem _ (List.mem_append_right _ h)
set_option maxHeartbeats 4000000 in
set_option maxRecDepth 100000 in
theorem kX7_passesOne (l : Launch) (D : va_G) (cI : ClassId) (m0 : Nat) (as : Nat → Nat) (th : Int32) (σ : Sg) (h0 : Cnt σ 2 10) (h1 : Cnt σ 22 30) (h4 : ∀ v, v < ix (σ.1 2) → vp_in (σ.2 3 v) 4) : M_Mv l yX7_passesOne wsX7_passesOne rX7_passesOne D cI m0 as th σ [] ((th, 0, m_passesOne σ)) := by
  refine M_body (n := 0) (Qc := fun A => M_Qv D cI m0 as ((th, 0, m_passesOne σ)) A) rfl fnX7_passesOne inX7_passesOne (Nat.le_of_ble_eq_true rfl) ?_
  intro p e s m args below meth c X A P ls hl
  have hx := X.1.1
  have hb := X.1.2.1
  have hown := X.1.2.2.2.1
  have hts := X.1.2.2.2.2.1
  have hl : lv_has ls 3 [(0, .ref m0)] := hl
  have tail : ∀ (S2 : Sg), m_passesOne σ = m_tail S2 → ∀ (H : Heap) (locs : List Loc) (P : Hp D A s (M_W cI m0 as th S2) H locs) (ls : Array Slot), lv_has ls 3 [(0, .ref m0)] → W p l e rX7_passesOne s m args below meth c H locs 0 0 (MQ below (M_Qv D cI m0 as ((th, 0, m_passesOne σ)) A) args s 0 0 A) (F0 m 202 ls []) := by
    intro S2 hT H locs P ls hl
    refine lv_aload_n (pc := 202) hx hb dX7_passesOne_202 rfl (lv_at hl 0 rfl) ?_
    refine lv_dup (pc := 203) hx hb dX7_passesOne_203 rfl ?_
    refine M_get (pc := 204) (v := .int (S2.1 12)) X P 12 (Nat.le_of_ble_eq_true rfl) (List.mem_of_getElem? (i := 17) rfl) rfl dX7_passesOne_204 ?_
    refine lv_aload_n (pc := 207) hx hb dX7_passesOne_207 rfl (lv_at hl 0 rfl) ?_
    refine M_get (pc := 208) (v := .int (S2.1 1)) X P 1 (Nat.le_of_ble_eq_true rfl) (List.mem_of_getElem? (i := 1) rfl) rfl dX7_passesOne_208 ?_
    refine lv_bipush (pc := 211) (v := 30) hx hb dX7_passesOne_211 (by decide) ?_
    refine lv_irem (pc := 213) hx hb dX7_passesOne_213 (by decide) ?_
    refine lv_if_ne (pc := 214) (tgt := 234) hx hb dX7_passesOne_214 (by decide) (fun c_1 : ¬ ((S2.1 1) - (S2.1 1) / 30 * 30) = 0 => ?_) (fun c_1 : ((S2.1 1) - (S2.1 1) / 30 * 30) = 0 => ?_)
    · refine lv_iconst (pc := 234) (v := 0) hx hb dX7_passesOne_234 (by decide) ?_
      refine lv_iadd (pc := 235) hx hb dX7_passesOne_235 ?_
      refine M_putS (pc := 236) (v := (S2.1 12) + 0) X P 12 (Nat.le_of_ble_eq_true rfl) (List.mem_of_getElem? (i := 17) rfl) rfl rfl M_s12 dX7_passesOne_236 (fun H locs (P : Hp D A s (M_W cI m0 as th (zs S2 12 ((S2.1 12) + 0))) H locs) => ?_)
      exact M_retv (pc := 239) X P (by rw [hT, m_tail, if_neg c_1]) dX7_passesOne_239
    · refine lv_aload_n (pc := 217) hx hb dX7_passesOne_217 rfl (lv_at hl 0 rfl) ?_
      refine M_get (pc := 218) (v := .int (S2.1 12)) X P 12 (Nat.le_of_ble_eq_true rfl) (List.mem_of_getElem? (i := 17) rfl) rfl dX7_passesOne_218 ?_
      refine lv_if_le (pc := 221) (tgt := 234) hx hb dX7_passesOne_221 (by decide) (fun c_2 : (S2.1 12) ≤ 0 => ?_) (fun c_2 : ¬ (S2.1 12) ≤ 0 => ?_)
      · refine lv_iconst (pc := 234) (v := 0) hx hb dX7_passesOne_234 (by decide) ?_
        refine lv_iadd (pc := 235) hx hb dX7_passesOne_235 ?_
        refine M_putS (pc := 236) (v := (S2.1 12) + 0) X P 12 (Nat.le_of_ble_eq_true rfl) (List.mem_of_getElem? (i := 17) rfl) rfl rfl M_s12 dX7_passesOne_236 (fun H locs (P : Hp D A s (M_W cI m0 as th (zs S2 12 ((S2.1 12) + 0))) H locs) => ?_)
        exact M_retv (pc := 239) X P (by rw [hT, m_tail, if_pos c_1, if_pos c_2]) dX7_passesOne_239
      · refine lv_aload_n (pc := 224) hx hb dX7_passesOne_224 rfl (lv_at hl 0 rfl) ?_
        refine M_get (pc := 225) (v := .int (S2.1 12)) X P 12 (Nat.le_of_ble_eq_true rfl) (List.mem_of_getElem? (i := 17) rfl) rfl dX7_passesOne_225 ?_
        refine lv_bipush (pc := 228) (v := 100) hx hb dX7_passesOne_228 (by decide) ?_
        refine lv_idiv (pc := 230) hx hb dX7_passesOne_230 (by decide) ?_
        refine lv_goto (pc := 231) (tgt := 235) hx hb dX7_passesOne_231 (by decide) ?_
        refine lv_iadd (pc := 235) hx hb dX7_passesOne_235 ?_
        refine M_putS (pc := 236) (v := (S2.1 12) + ((S2.1 12) / 100)) X P 12 (Nat.le_of_ble_eq_true rfl) (List.mem_of_getElem? (i := 17) rfl) rfl rfl M_s12 dX7_passesOne_236 (fun H locs (P : Hp D A s (M_W cI m0 as th (zs S2 12 ((S2.1 12) + ((S2.1 12) / 100)))) H locs) => ?_)
        exact M_retv (pc := 239) X P (by rw [hT, m_tail, if_pos c_1, if_neg c_2]) dX7_passesOne_239
  have loop2 : ∀ (n k : Nat) (S0 S1 : Sg), S1 = shr k S0 → Cnt S1 2 10 → S1.1 2 = σ.1 2 → (∀ v, v < ix (σ.1 2) → vp_in (S1.2 3 v) 4) → k ≤ ix (S1.1 2) → ix (S1.1 2) < k + n → m_passesOne σ = m_tail (shr (ix (σ.1 2)) S0) → ∀ (H : Heap) (locs : List Loc) (P : Hp D A s (M_W cI m0 as th S1) H locs) (ls : Array Slot), lv_has ls 3 [(1, .int (nI k)), (0, .ref m0)] → W p l e rX7_passesOne s m args below meth c H locs 0 0 (MQ below (M_Qv D cI m0 as ((th, 0, m_passesOne σ)) A) args s 0 0 A) (F0 m 114 ls []) := by
    intro n
    induction n with
    | zero => intro k S0 S1 e1 h0 hz h4 h1 h3; exact absurd h3 (by omega)
    | succ n ih =>
      intro k S0 S1 e1 h0 hz h4 h1 h3 hT H locs P ls hl
      refine lv_iload_n (pc := 114) hx hb dX7_passesOne_114 rfl (lv_at hl 0 rfl) ?_
      refine lv_aload_n (pc := 115) hx hb dX7_passesOne_115 rfl (lv_at hl 1 rfl) ?_
      refine M_get (pc := 116) (v := .int (S1.1 2)) X P 2 (Nat.le_of_ble_eq_true rfl) (List.mem_of_getElem? (i := 10) rfl) rfl dX7_passesOne_116 ?_
      refine lv_icmp_ge (pc := 119) (tgt := 202) hx hb dX7_passesOne_119 (by decide) (fun c_3 : (S1.1 2) ≤ (nI k) => ?_) (fun c_3 : ¬ (S1.1 2) ≤ (nI k) => ?_)
      · exact tail S1 (by rw [hT, e1]; exact congrArg (fun k => m_tail (shr k S0)) (by rw [lp_end h0 c_3 h1, hz])) _ _ P ls (lv_sub hl [1] rfl)
      · have hk_4 : k < ix (S1.1 2) := lp_in h0 c_3 h1
        have hk_5 : k < 10 := Nat.lt_of_lt_of_le (lp_in h0 c_3 h1) h0.2
        have hp_6 : vp_in (S1.2 3 k) 4 := h4 k (by rw [← hz]; exact lp_in h0 c_3 h1)
        refine lv_aload_n (pc := 122) hx hb dX7_passesOne_122 rfl (lv_at hl 1 rfl) ?_
        refine M_get (pc := 123) (v := .ref (as 6)) X P 6 (Nat.le_of_ble_eq_true rfl) (List.mem_of_getElem? (i := 11) rfl) rfl dX7_passesOne_123 ?_
        refine lv_iload_n (pc := 126) hx hb dX7_passesOne_126 rfl (lv_at hl 0 rfl) ?_
        refine M_aldN (pc := 127) (a := as 6) (n := 10) (f := S1.2 6) X P 4 rfl (k := k) hk_5 (by decide) dX7_passesOne_127 ?_
        refine lv_aload_n (pc := 128) hx hb dX7_passesOne_128 rfl (lv_at hl 1 rfl) ?_
        refine M_get (pc := 129) (v := .ref (as 7)) X P 7 (Nat.le_of_ble_eq_true rfl) (List.mem_of_getElem? (i := 12) rfl) rfl dX7_passesOne_129 ?_
        refine lv_aload_n (pc := 132) hx hb dX7_passesOne_132 rfl (lv_at hl 1 rfl) ?_
        refine M_get (pc := 133) (v := .ref (as 3)) X P 3 (Nat.le_of_ble_eq_true rfl) (List.mem_of_getElem? (i := 13) rfl) rfl dX7_passesOne_133 ?_
        refine lv_iload_n (pc := 136) hx hb dX7_passesOne_136 rfl (lv_at hl 0 rfl) ?_
        refine M_aldN (pc := 137) (a := as 3) (n := 10) (f := S1.2 3) X P 1 rfl (k := k) hk_5 (by decide) dX7_passesOne_137 ?_
        refine M_ald (pc := 138) (a := as 7) (n := 4) (f := S1.2 7) X P 5 rfl hp_6 dX7_passesOne_138 ?_
        refine lv_ldc (pc := 139) (v := 100000) hx hb hown (hts _ (List.mem_of_getElem? (i := 14) rfl)) dX7_passesOne_139 ?_
        refine S_call (pc := 141) (As := [.int (S1.2 6 k), .int (S1.2 7 (ix (S1.2 3 k))), .int 100000]) (rest := []) (r := m_part (S1.2 6 k) (S1.2 7 (ix (S1.2 3 k))) 100000) X.1 hl.1 (kX7_part l (S1.2 6 k) (S1.2 7 (ix (S1.2 3 k))) 100000 (by decide)) fnX7_part gX7_passesOne_X7_part rfl rfl ⟨Nat.le_of_ble_eq_true rfl, Nat.le_of_ble_eq_true rfl⟩ (Nat.le_of_ble_eq_true rfl) ⟨Nat.le_of_ble_eq_true rfl, Nat.le_of_ble_eq_true rfl⟩ dX7_passesOne_141 ?_
        refine lv_istore_n (pc := 144) (lv' := [(2, .int (m_part (S1.2 6 k) (S1.2 7 (ix (S1.2 3 k))) 100000)), (1, .int (nI k)), (0, .ref m0)]) hx hb dX7_passesOne_144 rfl hl (by decide) rfl (fun ls hl => ?_)
        refine lv_aload_n (pc := 145) hx hb dX7_passesOne_145 rfl (lv_at hl 2 rfl) ?_
        refine M_get (pc := 146) (v := .ref (as 10)) X P 10 (Nat.le_of_ble_eq_true rfl) (List.mem_of_getElem? (i := 15) rfl) rfl dX7_passesOne_146 ?_
        refine lv_iconst (pc := 149) (v := 4) hx hb dX7_passesOne_149 (by decide) ?_
        refine lv_dup2_11 (pc := 150) hx hb dX7_passesOne_150 rfl rfl ?_
        refine M_ald (pc := 151) (a := as 10) (n := 8) (f := S1.2 10) X P 6 rfl (vp_dec (by decide)) dX7_passesOne_151 ?_
        refine lv_iload_n (pc := 152) hx hb dX7_passesOne_152 rfl (lv_at hl 0 rfl) ?_
        refine lv_iadd (pc := 153) hx hb dX7_passesOne_153 ?_
        refine M_ast (pc := 154) (x := (S1.2 10 4) + (m_part (S1.2 6 k) (S1.2 7 (ix (S1.2 3 k))) 100000)) (n := 8) X P 6 10 rfl (vp_dec (by decide)) M_a10 dX7_passesOne_154 (fun H locs (P : Hp D A s (M_W cI m0 as th (bs S1 10 4 ((S1.2 10 4) + (m_part (S1.2 6 k) (S1.2 7 (ix (S1.2 3 k))) 100000)))) H locs) => ?_)
        refine lv_aload_n (pc := 155) hx hb dX7_passesOne_155 rfl (lv_at hl 2 rfl) ?_
        refine M_get (pc := 156) (v := .ref (as 6)) X P 6 (Nat.le_of_ble_eq_true rfl) (List.mem_of_getElem? (i := 11) rfl) rfl dX7_passesOne_156 ?_
        refine lv_iload_n (pc := 159) hx hb dX7_passesOne_159 rfl (lv_at hl 1 rfl) ?_
        refine lv_dup2_11 (pc := 160) hx hb dX7_passesOne_160 rfl rfl ?_
        refine M_aldN (pc := 161) (a := as 6) (n := 10) (f := S1.2 6) X P 4 rfl (k := k) hk_5 (by decide) dX7_passesOne_161 ?_
        refine lv_iload_n (pc := 162) hx hb dX7_passesOne_162 rfl (lv_at hl 0 rfl) ?_
        refine lv_isub (pc := 163) hx hb dX7_passesOne_163 ?_
        refine M_astN (pc := 164) (x := (S1.2 6 k) - (m_part (S1.2 6 k) (S1.2 7 (ix (S1.2 3 k))) 100000)) (n := 10) X P 4 6 rfl (k := k) hk_5 (by decide) M_a6 dX7_passesOne_164 (fun H locs (P : Hp D A s (M_W cI m0 as th (bs (bs S1 10 4 ((S1.2 10 4) + (m_part (S1.2 6 k) (S1.2 7 (ix (S1.2 3 k))) 100000))) 6 k ((S1.2 6 k) - (m_part (S1.2 6 k) (S1.2 7 (ix (S1.2 3 k))) 100000)))) H locs) => ?_)
        refine lv_aload_n (pc := 165) hx hb dX7_passesOne_165 rfl (lv_at hl 2 rfl) ?_
        refine M_get (pc := 166) (v := .ref (as 5)) X P 5 (Nat.le_of_ble_eq_true rfl) (List.mem_of_getElem? (i := 16) rfl) rfl dX7_passesOne_166 ?_
        refine lv_iload_n (pc := 169) hx hb dX7_passesOne_169 rfl (lv_at hl 1 rfl) ?_
        refine lv_dup2_11 (pc := 170) hx hb dX7_passesOne_170 rfl rfl ?_
        refine M_aldN (pc := 171) (a := as 5) (n := 10) (f := S1.2 5) X P 3 rfl (k := k) hk_5 (by decide) dX7_passesOne_171 ?_
        refine lv_aload_n (pc := 172) hx hb dX7_passesOne_172 rfl (lv_at hl 2 rfl) ?_
        refine M_get (pc := 173) (v := .ref (as 5)) X P 5 (Nat.le_of_ble_eq_true rfl) (List.mem_of_getElem? (i := 16) rfl) rfl dX7_passesOne_173 ?_
        refine lv_iload_n (pc := 176) hx hb dX7_passesOne_176 rfl (lv_at hl 1 rfl) ?_
        refine M_aldN (pc := 177) (a := as 5) (n := 10) (f := S1.2 5) X P 3 rfl (k := k) hk_5 (by decide) dX7_passesOne_177 ?_
        refine lv_aload_n (pc := 178) hx hb dX7_passesOne_178 rfl (lv_at hl 2 rfl) ?_
        refine M_get (pc := 179) (v := .ref (as 7)) X P 7 (Nat.le_of_ble_eq_true rfl) (List.mem_of_getElem? (i := 12) rfl) rfl dX7_passesOne_179 ?_
        refine lv_aload_n (pc := 182) hx hb dX7_passesOne_182 rfl (lv_at hl 2 rfl) ?_
        refine M_get (pc := 183) (v := .ref (as 3)) X P 3 (Nat.le_of_ble_eq_true rfl) (List.mem_of_getElem? (i := 13) rfl) rfl dX7_passesOne_183 ?_
        refine lv_iload_n (pc := 186) hx hb dX7_passesOne_186 rfl (lv_at hl 1 rfl) ?_
        refine M_aldN (pc := 187) (a := as 3) (n := 10) (f := S1.2 3) X P 1 rfl (k := k) hk_5 (by decide) dX7_passesOne_187 ?_
        refine M_ald (pc := 188) (a := as 7) (n := 4) (f := S1.2 7) X P 5 rfl hp_6 dX7_passesOne_188 ?_
        refine lv_ldc (pc := 189) (v := 100000) hx hb hown (hts _ (List.mem_of_getElem? (i := 14) rfl)) dX7_passesOne_189 ?_
        refine S_call (pc := 191) (As := [.int (S1.2 5 k), .int (S1.2 7 (ix (S1.2 3 k))), .int 100000]) (rest := [.int (S1.2 5 k), .int (nI k), .ref (as 5)]) (r := m_part (S1.2 5 k) (S1.2 7 (ix (S1.2 3 k))) 100000) X.1 hl.1 (kX7_part l (S1.2 5 k) (S1.2 7 (ix (S1.2 3 k))) 100000 (by decide)) fnX7_part gX7_passesOne_X7_part rfl rfl ⟨Nat.le_of_ble_eq_true rfl, Nat.le_of_ble_eq_true rfl⟩ (Nat.le_of_ble_eq_true rfl) ⟨Nat.le_of_ble_eq_true rfl, Nat.le_of_ble_eq_true rfl⟩ dX7_passesOne_191 ?_
        refine lv_isub (pc := 194) hx hb dX7_passesOne_194 ?_
        refine M_astN (pc := 195) (x := (S1.2 5 k) - (m_part (S1.2 5 k) (S1.2 7 (ix (S1.2 3 k))) 100000)) (n := 10) X P 3 5 rfl (k := k) hk_5 (by decide) M_a5 dX7_passesOne_195 (fun H locs (P : Hp D A s (M_W cI m0 as th (bs (bs (bs S1 10 4 ((S1.2 10 4) + (m_part (S1.2 6 k) (S1.2 7 (ix (S1.2 3 k))) 100000))) 6 k ((S1.2 6 k) - (m_part (S1.2 6 k) (S1.2 7 (ix (S1.2 3 k))) 100000))) 5 k ((S1.2 5 k) - (m_part (S1.2 5 k) (S1.2 7 (ix (S1.2 3 k))) 100000)))) H locs) => ?_)
        refine lv_iinc (pc := 196) (v := nI (k + 1)) (lv' := [(1, .int (nI (k + 1))), (2, .int (m_part (S1.2 6 k) (S1.2 7 (ix (S1.2 3 k))) 100000)), (0, .ref m0)]) hx hb dX7_passesOne_196 hl (k := 1) rfl ((nI_succ k).symm) (by decide) rfl (fun ls hl => ?_)
        refine lv_goto (pc := 199) (tgt := 114) hx hb dX7_passesOne_199 (by decide) ?_
        exact ih (k + 1) S0 (bs (bs (bs S1 10 4 ((S1.2 10 4) + (m_part (S1.2 6 k) (S1.2 7 (ix (S1.2 3 k))) 100000))) 6 k ((S1.2 6 k) - (m_part (S1.2 6 k) (S1.2 7 (ix (S1.2 3 k))) 100000))) 5 k ((S1.2 5 k) - (m_part (S1.2 5 k) (S1.2 7 (ix (S1.2 3 k))) 100000))) (by rw [shr_s, ← e1]; rfl) h0 hz (fun v hv => h4 v hv) hk_4 (by show ix (S1.1 2) < _; omega) hT _ _ P ls (lv_sub hl [0, 2] rfl)
  have loop1 : ∀ (n k : Nat) (S0 S1 : Sg), S1 = lat k S0 → Cnt S1 22 30 → S1.1 22 = σ.1 22 → Cnt S1 2 10 → S1.1 2 = σ.1 2 → (∀ v, v < ix (σ.1 2) → vp_in (S1.2 3 v) 4) → k ≤ ix (S1.1 22) → ix (S1.1 22) < k + n → m_passesOne σ = m_tail (shr (ix (σ.1 2)) (lat (ix (σ.1 22)) S0)) → ∀ (H : Heap) (locs : List Loc) (P : Hp D A s (M_W cI m0 as th S1) H locs) (ls : Array Slot), lv_has ls 3 [(1, .int (nI k)), (0, .ref m0)] → W p l e rX7_passesOne s m args below meth c H locs 0 0 (MQ below (M_Qv D cI m0 as ((th, 0, m_passesOne σ)) A) args s 0 0 A) (F0 m 58 ls []) := by
    intro n
    induction n with
    | zero => intro k S0 S1 e1 h0 hz h5 hz5 h4 h1 h3; exact absurd h3 (by omega)
    | succ n ih =>
      intro k S0 S1 e1 h0 hz h5 hz5 h4 h1 h3 hT H locs P ls hl
      refine lv_iload_n (pc := 58) hx hb dX7_passesOne_58 rfl (lv_at hl 0 rfl) ?_
      refine lv_aload_n (pc := 59) hx hb dX7_passesOne_59 rfl (lv_at hl 1 rfl) ?_
      refine M_get (pc := 60) (v := .int (S1.1 22)) X P 22 (Nat.le_of_ble_eq_true rfl) (List.mem_of_getElem? (i := 6) rfl) rfl dX7_passesOne_60 ?_
      refine lv_icmp_ge (pc := 63) (tgt := 112) hx hb dX7_passesOne_63 (by decide) (fun c_7 : (S1.1 22) ≤ (nI k) => ?_) (fun c_7 : ¬ (S1.1 22) ≤ (nI k) => ?_)
      · refine lv_iconst (pc := 112) (v := 0) hx hb dX7_passesOne_112 (by decide) ?_
        refine lv_istore_n (pc := 113) (lv' := [(1, .int 0), (0, .ref m0)]) hx hb dX7_passesOne_113 rfl hl (by decide) rfl (fun ls hl => ?_)
        exact loop2 (ix (S1.1 2) + 1) 0 S1 S1 rfl h5 hz5 h4 (Nat.zero_le _) (by omega) (by rw [hT]; exact congrArg (fun q => m_tail (shr (ix (σ.1 2)) q)) (by rw [e1, lp_end h0 c_7 h1, hz])) _ _ P ls (lv_sub hl [0, 1] rfl)
      · have hk_8 : k < ix (S1.1 22) := lp_in h0 c_7 h1
        have hk_9 : k < 30 := Nat.lt_of_lt_of_le (lp_in h0 c_7 h1) h0.2
        refine lv_aload_n (pc := 66) hx hb dX7_passesOne_66 rfl (lv_at hl 1 rfl) ?_
        refine M_get (pc := 67) (v := .ref (as 23)) X P 23 (Nat.le_of_ble_eq_true rfl) (List.mem_of_getElem? (i := 7) rfl) rfl dX7_passesOne_67 ?_
        refine lv_iload_n (pc := 70) hx hb dX7_passesOne_70 rfl (lv_at hl 0 rfl) ?_
        refine M_aldN (pc := 71) (a := as 23) (n := 30) (f := S1.2 23) X P 9 rfl (k := k) hk_9 (by decide) dX7_passesOne_71 ?_
        refine lv_if_ne (pc := 72) (tgt := 106) hx hb dX7_passesOne_72 (by decide) (fun c_10 : ¬ (S1.2 23 k) = 0 => ?_) (fun c_10 : (S1.2 23 k) = 0 => ?_)
        · refine lv_iinc (pc := 106) (v := nI (k + 1)) (lv' := [(1, .int (nI (k + 1))), (0, .ref m0)]) hx hb dX7_passesOne_106 hl (k := 0) rfl ((nI_succ k).symm) (by decide) rfl (fun ls hl => ?_)
          refine lv_goto (pc := 109) (tgt := 58) hx hb dX7_passesOne_109 (by decide) ?_
          have e_l : latS k S1 = S1 := by rw [latS, if_neg c_10]
          have e_2 : S1 = lat (k + 1) S0 := by rw [lat_s, ← e1, e_l]
          have z22 : (S1).1 22 = S1.1 22 := (congrArg (fun q : Sg => q.1 22) e_l.symm).trans (latS_z (by decide) k S1)
          have z2 : (S1).1 2 = S1.1 2 := (congrArg (fun q : Sg => q.1 2) e_l.symm).trans (latS_z (by decide) k S1)
          have b3 : (S1).2 3 = S1.2 3 := (congrArg (fun q : Sg => q.2 3) e_l.symm).trans (latS_b (by decide) (by decide) k S1)
          exact ih (k + 1) S0 S1 e_2 (cnt_of h0 z22) (by rw [z22, hz]) (cnt_of h5 z2) (by rw [z2, hz5]) (by rw [b3]; exact h4) (by rw [z22]; exact hk_8) (by rw [z22]; omega) hT _ _ P ls (lv_sub hl [0, 1] rfl)
        · refine lv_aload_n (pc := 75) hx hb dX7_passesOne_75 rfl (lv_at hl 1 rfl) ?_
          refine M_get (pc := 76) (v := .int (S1.1 1)) X P 1 (Nat.le_of_ble_eq_true rfl) (List.mem_of_getElem? (i := 1) rfl) rfl dX7_passesOne_76 ?_
          refine lv_aload_n (pc := 79) hx hb dX7_passesOne_79 rfl (lv_at hl 1 rfl) ?_
          refine M_get (pc := 80) (v := .ref (as 27)) X P 27 (Nat.le_of_ble_eq_true rfl) (List.mem_of_getElem? (i := 8) rfl) rfl dX7_passesOne_80 ?_
          refine lv_iload_n (pc := 83) hx hb dX7_passesOne_83 rfl (lv_at hl 0 rfl) ?_
          refine M_aldN (pc := 84) (a := as 27) (n := 30) (f := S1.2 27) X P 13 rfl (k := k) hk_9 (by decide) dX7_passesOne_84 ?_
          refine lv_icmp_le (pc := 85) (tgt := 106) hx hb dX7_passesOne_85 (by decide) (fun c_11 : (S1.1 1) ≤ (S1.2 27 k) => ?_) (fun c_11 : ¬ (S1.1 1) ≤ (S1.2 27 k) => ?_)
          · refine lv_iinc (pc := 106) (v := nI (k + 1)) (lv' := [(1, .int (nI (k + 1))), (0, .ref m0)]) hx hb dX7_passesOne_106 hl (k := 0) rfl ((nI_succ k).symm) (by decide) rfl (fun ls hl => ?_)
            refine lv_goto (pc := 109) (tgt := 58) hx hb dX7_passesOne_109 (by decide) ?_
            have e_l : latS k S1 = S1 := by rw [latS, if_pos c_10, if_pos c_11]
            have e_2 : S1 = lat (k + 1) S0 := by rw [lat_s, ← e1, e_l]
            have z22 : (S1).1 22 = S1.1 22 := (congrArg (fun q : Sg => q.1 22) e_l.symm).trans (latS_z (by decide) k S1)
            have z2 : (S1).1 2 = S1.1 2 := (congrArg (fun q : Sg => q.1 2) e_l.symm).trans (latS_z (by decide) k S1)
            have b3 : (S1).2 3 = S1.2 3 := (congrArg (fun q : Sg => q.2 3) e_l.symm).trans (latS_b (by decide) (by decide) k S1)
            exact ih (k + 1) S0 S1 e_2 (cnt_of h0 z22) (by rw [z22, hz]) (cnt_of h5 z2) (by rw [z2, hz5]) (by rw [b3]; exact h4) (by rw [z22]; exact hk_8) (by rw [z22]; omega) hT _ _ P ls (lv_sub hl [0, 1] rfl)
          · refine lv_aload_n (pc := 88) hx hb dX7_passesOne_88 rfl (lv_at hl 1 rfl) ?_
            refine M_get (pc := 89) (v := .ref (as 23)) X P 23 (Nat.le_of_ble_eq_true rfl) (List.mem_of_getElem? (i := 7) rfl) rfl dX7_passesOne_89 ?_
            refine lv_iload_n (pc := 92) hx hb dX7_passesOne_92 rfl (lv_at hl 0 rfl) ?_
            refine lv_iconst (pc := 93) (v := 2) hx hb dX7_passesOne_93 (by decide) ?_
            refine M_astN (pc := 94) (x := 2) (n := 30) X P 9 23 rfl (k := k) hk_9 (by decide) M_a23 dX7_passesOne_94 (fun H locs (P : Hp D A s (M_W cI m0 as th (bs S1 23 k 2)) H locs) => ?_)
            refine lv_aload_n (pc := 95) hx hb dX7_passesOne_95 rfl (lv_at hl 1 rfl) ?_
            refine lv_aload_n (pc := 96) hx hb dX7_passesOne_96 rfl (lv_at hl 1 rfl) ?_
            refine M_get (pc := 97) (v := .ref (as 26)) X P 26 (Nat.le_of_ble_eq_true rfl) (List.mem_of_getElem? (i := 9) rfl) rfl dX7_passesOne_97 ?_
            refine lv_iload_n (pc := 100) hx hb dX7_passesOne_100 rfl (lv_at hl 0 rfl) ?_
            refine M_aldN (pc := 101) (a := as 26) (n := 30) (f := S1.2 26) X P 12 rfl (k := k) hk_9 (by decide) dX7_passesOne_101 ?_
            refine M_calli (pc := 102) (As := [.int (S1.2 26 k)]) (rest := []) (f := (th, (m_misses (bs S1 23 k 2) (S1.2 26 k)).1, (m_misses (bs S1 23 k 2) (S1.2 26 k)).2)) X P hl.1 (kX7_misses l D cI m0 as th (bs S1 23 k 2) (S1.2 26 k)) fnX7_misses rfl gX7_passesOne_X7_misses rfl rfl ⟨Nat.le_of_ble_eq_true rfl, Nat.le_of_ble_eq_true rfl⟩ (Nat.le_of_ble_eq_true rfl) ⟨Nat.le_of_ble_eq_true rfl, Nat.le_of_ble_eq_true rfl⟩ dX7_passesOne_102 (fun H locs (P : Hp D A s (M_W cI m0 as th ((m_misses (bs S1 23 k 2) (S1.2 26 k)).2)) H locs) => ?_)
            refine lv_pop (pc := 105) hx hb dX7_passesOne_105 rfl ?_
            refine lv_iinc (pc := 106) (v := nI (k + 1)) (lv' := [(1, .int (nI (k + 1))), (0, .ref m0)]) hx hb dX7_passesOne_106 hl (k := 0) rfl ((nI_succ k).symm) (by decide) rfl (fun ls hl => ?_)
            refine lv_goto (pc := 109) (tgt := 58) hx hb dX7_passesOne_109 (by decide) ?_
            have e_l : latS k S1 = (m_misses (bs S1 23 k 2) (S1.2 26 k)).2 := by rw [latS, if_pos c_10, if_neg c_11]
            have e_2 : (m_misses (bs S1 23 k 2) (S1.2 26 k)).2 = lat (k + 1) S0 := by rw [lat_s, ← e1, e_l]
            have z22 : ((m_misses (bs S1 23 k 2) (S1.2 26 k)).2).1 22 = S1.1 22 := (congrArg (fun q : Sg => q.1 22) e_l.symm).trans (latS_z (by decide) k S1)
            have z2 : ((m_misses (bs S1 23 k 2) (S1.2 26 k)).2).1 2 = S1.1 2 := (congrArg (fun q : Sg => q.1 2) e_l.symm).trans (latS_z (by decide) k S1)
            have b3 : ((m_misses (bs S1 23 k 2) (S1.2 26 k)).2).2 3 = S1.2 3 := (congrArg (fun q : Sg => q.2 3) e_l.symm).trans (latS_b (by decide) (by decide) k S1)
            exact ih (k + 1) S0 (m_misses (bs S1 23 k 2) (S1.2 26 k)).2 e_2 (cnt_of h0 z22) (by rw [z22, hz]) (cnt_of h5 z2) (by rw [z2, hz5]) (by rw [b3]; exact h4) (by rw [z22]; exact hk_8) (by rw [z22]; omega) hT _ _ P ls (lv_sub hl [0, 1] rfl)
  refine lv_aload_n (pc := 0) hx hb dX7_passesOne_0 rfl (lv_at hl 0 rfl) ?_
  refine lv_dup (pc := 1) hx hb dX7_passesOne_1 rfl ?_
  refine M_get (pc := 2) (v := .int (σ.1 1)) X P 1 (Nat.le_of_ble_eq_true rfl) (List.mem_of_getElem? (i := 1) rfl) rfl dX7_passesOne_2 ?_
  refine lv_iconst (pc := 5) (v := 1) hx hb dX7_passesOne_5 (by decide) ?_
  refine lv_iadd (pc := 6) hx hb dX7_passesOne_6 ?_
  refine M_putS (pc := 7) (v := (σ.1 1) + 1) X P 1 (Nat.le_of_ble_eq_true rfl) (List.mem_of_getElem? (i := 1) rfl) rfl rfl M_s1 dX7_passesOne_7 (fun H locs (P : Hp D A s (M_W cI m0 as th (zs σ 1 ((σ.1 1) + 1))) H locs) => ?_)
  refine lv_aload_n (pc := 10) hx hb dX7_passesOne_10 rfl (lv_at hl 0 rfl) ?_
  refine M_get (pc := 11) (v := .int ((σ.1 1) + 1)) X P 1 (Nat.le_of_ble_eq_true rfl) (List.mem_of_getElem? (i := 1) rfl) rfl dX7_passesOne_11 ?_
  refine lv_aload_n (pc := 14) hx hb dX7_passesOne_14 rfl (lv_at hl 0 rfl) ?_
  refine M_get (pc := 15) (v := .int (σ.1 13)) X P 13 (Nat.le_of_ble_eq_true rfl) (List.mem_of_getElem? (i := 2) rfl) rfl dX7_passesOne_15 ?_
  refine lv_icmp_ne (pc := 18) (tgt := 34) hx hb dX7_passesOne_18 (by decide) (fun c_12 : ¬ ((σ.1 1) + 1) = (σ.1 13) => ?_) (fun c_12 : ((σ.1 1) + 1) = (σ.1 13) => ?_)
  · refine lv_aload_n (pc := 34) hx hb dX7_passesOne_34 rfl (lv_at hl 0 rfl) ?_
    refine lv_aload_n (pc := 35) hx hb dX7_passesOne_35 rfl (lv_at hl 0 rfl) ?_
    refine M_get (pc := 36) (v := .int ((σ.1 1) + 1)) X P 1 (Nat.le_of_ble_eq_true rfl) (List.mem_of_getElem? (i := 1) rfl) rfl dX7_passesOne_36 ?_
    refine lv_bipush (pc := 39) (v := 100) hx hb dX7_passesOne_39 (by decide) ?_
    refine lv_irem (pc := 41) hx hb dX7_passesOne_41 (by decide) ?_
    refine lv_if_ne (pc := 42) (tgt := 49) hx hb dX7_passesOne_42 (by decide) (fun c_13 : ¬ (((σ.1 1) + 1) - ((σ.1 1) + 1) / 100 * 100) = 0 => ?_) (fun c_13 : (((σ.1 1) + 1) - ((σ.1 1) + 1) / 100 * 100) = 0 => ?_)
    · refine lv_aload_n (pc := 49) hx hb dX7_passesOne_49 rfl (lv_at hl 0 rfl) ?_
      refine M_get (pc := 50) (v := .int (σ.1 16)) X P 16 (Nat.le_of_ble_eq_true rfl) (List.mem_of_getElem? (i := 5) rfl) rfl dX7_passesOne_50 ?_
      refine M_putS (pc := 53) (v := σ.1 16) X P 16 (Nat.le_of_ble_eq_true rfl) (List.mem_of_getElem? (i := 5) rfl) rfl rfl M_s16 dX7_passesOne_53 (fun H locs (P : Hp D A s (M_W cI m0 as th (zs (zs σ 1 ((σ.1 1) + 1)) 16 (σ.1 16))) H locs) => ?_)
      refine lv_iconst (pc := 56) (v := 0) hx hb dX7_passesOne_56 (by decide) ?_
      refine lv_istore_n (pc := 57) (lv' := [(1, .int 0), (0, .ref m0)]) hx hb dX7_passesOne_57 rfl hl (by decide) rfl (fun ls hl => ?_)
      have e_p : m_pre σ = (zs (zs σ 1 ((σ.1 1) + 1)) 16 (σ.1 16)) := by rw [m_pre, if_neg c_12, if_neg c_13]
      exact loop1 (ix (σ.1 22) + 1) 0 (zs (zs σ 1 ((σ.1 1) + 1)) 16 (σ.1 16)) (zs (zs σ 1 ((σ.1 1) + 1)) 16 (σ.1 16)) rfl h1 rfl h0 rfl h4 (Nat.zero_le _) (by show ix (σ.1 22) < _; omega) (by rw [m_passesOne, e_p]) _ _ P ls (lv_sub hl [0, 1] rfl)
    · refine lv_iconst (pc := 45) (v := 0) hx hb dX7_passesOne_45 (by decide) ?_
      refine lv_goto (pc := 46) (tgt := 53) hx hb dX7_passesOne_46 (by decide) ?_
      refine M_putS (pc := 53) (v := 0) X P 16 (Nat.le_of_ble_eq_true rfl) (List.mem_of_getElem? (i := 5) rfl) rfl rfl M_s16 dX7_passesOne_53 (fun H locs (P : Hp D A s (M_W cI m0 as th (zs (zs σ 1 ((σ.1 1) + 1)) 16 0)) H locs) => ?_)
      refine lv_iconst (pc := 56) (v := 0) hx hb dX7_passesOne_56 (by decide) ?_
      refine lv_istore_n (pc := 57) (lv' := [(1, .int 0), (0, .ref m0)]) hx hb dX7_passesOne_57 rfl hl (by decide) rfl (fun ls hl => ?_)
      have e_p : m_pre σ = (zs (zs σ 1 ((σ.1 1) + 1)) 16 0) := by rw [m_pre, if_neg c_12, if_pos c_13]
      exact loop1 (ix (σ.1 22) + 1) 0 (zs (zs σ 1 ((σ.1 1) + 1)) 16 0) (zs (zs σ 1 ((σ.1 1) + 1)) 16 0) rfl h1 rfl h0 rfl h4 (Nat.zero_le _) (by show ix (σ.1 22) < _; omega) (by rw [m_passesOne, e_p]) _ _ P ls (lv_sub hl [0, 1] rfl)
  · refine lv_aload_n (pc := 21) hx hb dX7_passesOne_21 rfl (lv_at hl 0 rfl) ?_
    refine lv_aload_n (pc := 22) hx hb dX7_passesOne_22 rfl (lv_at hl 0 rfl) ?_
    refine M_get (pc := 23) (v := .int (σ.1 14)) X P 14 (Nat.le_of_ble_eq_true rfl) (List.mem_of_getElem? (i := 3) rfl) rfl dX7_passesOne_23 ?_
    refine M_putS (pc := 26) (v := σ.1 14) X P 11 (Nat.le_of_ble_eq_true rfl) (List.mem_of_getElem? (i := 4) rfl) rfl rfl M_s11 dX7_passesOne_26 (fun H locs (P : Hp D A s (M_W cI m0 as th (zs (zs σ 1 ((σ.1 1) + 1)) 11 (σ.1 14))) H locs) => ?_)
    refine lv_aload_n (pc := 29) hx hb dX7_passesOne_29 rfl (lv_at hl 0 rfl) ?_
    refine lv_iconst (pc := 30) (v := (-1)) hx hb dX7_passesOne_30 (by decide) ?_
    refine M_putS (pc := 31) (v := (-1)) X P 13 (Nat.le_of_ble_eq_true rfl) (List.mem_of_getElem? (i := 2) rfl) rfl rfl M_s13 dX7_passesOne_31 (fun H locs (P : Hp D A s (M_W cI m0 as th (zs (zs (zs σ 1 ((σ.1 1) + 1)) 11 (σ.1 14)) 13 (-1))) H locs) => ?_)
    refine lv_aload_n (pc := 34) hx hb dX7_passesOne_34 rfl (lv_at hl 0 rfl) ?_
    refine lv_aload_n (pc := 35) hx hb dX7_passesOne_35 rfl (lv_at hl 0 rfl) ?_
    refine M_get (pc := 36) (v := .int ((σ.1 1) + 1)) X P 1 (Nat.le_of_ble_eq_true rfl) (List.mem_of_getElem? (i := 1) rfl) rfl dX7_passesOne_36 ?_
    refine lv_bipush (pc := 39) (v := 100) hx hb dX7_passesOne_39 (by decide) ?_
    refine lv_irem (pc := 41) hx hb dX7_passesOne_41 (by decide) ?_
    refine lv_if_ne (pc := 42) (tgt := 49) hx hb dX7_passesOne_42 (by decide) (fun c_14 : ¬ (((σ.1 1) + 1) - ((σ.1 1) + 1) / 100 * 100) = 0 => ?_) (fun c_14 : (((σ.1 1) + 1) - ((σ.1 1) + 1) / 100 * 100) = 0 => ?_)
    · refine lv_aload_n (pc := 49) hx hb dX7_passesOne_49 rfl (lv_at hl 0 rfl) ?_
      refine M_get (pc := 50) (v := .int (σ.1 16)) X P 16 (Nat.le_of_ble_eq_true rfl) (List.mem_of_getElem? (i := 5) rfl) rfl dX7_passesOne_50 ?_
      refine M_putS (pc := 53) (v := σ.1 16) X P 16 (Nat.le_of_ble_eq_true rfl) (List.mem_of_getElem? (i := 5) rfl) rfl rfl M_s16 dX7_passesOne_53 (fun H locs (P : Hp D A s (M_W cI m0 as th (zs (zs (zs (zs σ 1 ((σ.1 1) + 1)) 11 (σ.1 14)) 13 (-1)) 16 (σ.1 16))) H locs) => ?_)
      refine lv_iconst (pc := 56) (v := 0) hx hb dX7_passesOne_56 (by decide) ?_
      refine lv_istore_n (pc := 57) (lv' := [(1, .int 0), (0, .ref m0)]) hx hb dX7_passesOne_57 rfl hl (by decide) rfl (fun ls hl => ?_)
      have e_p : m_pre σ = (zs (zs (zs (zs σ 1 ((σ.1 1) + 1)) 11 (σ.1 14)) 13 (-1)) 16 (σ.1 16)) := by rw [m_pre, if_pos c_12, if_neg c_14]
      exact loop1 (ix (σ.1 22) + 1) 0 (zs (zs (zs (zs σ 1 ((σ.1 1) + 1)) 11 (σ.1 14)) 13 (-1)) 16 (σ.1 16)) (zs (zs (zs (zs σ 1 ((σ.1 1) + 1)) 11 (σ.1 14)) 13 (-1)) 16 (σ.1 16)) rfl h1 rfl h0 rfl h4 (Nat.zero_le _) (by show ix (σ.1 22) < _; omega) (by rw [m_passesOne, e_p]) _ _ P ls (lv_sub hl [0, 1] rfl)
    · refine lv_iconst (pc := 45) (v := 0) hx hb dX7_passesOne_45 (by decide) ?_
      refine lv_goto (pc := 46) (tgt := 53) hx hb dX7_passesOne_46 (by decide) ?_
      refine M_putS (pc := 53) (v := 0) X P 16 (Nat.le_of_ble_eq_true rfl) (List.mem_of_getElem? (i := 5) rfl) rfl rfl M_s16 dX7_passesOne_53 (fun H locs (P : Hp D A s (M_W cI m0 as th (zs (zs (zs (zs σ 1 ((σ.1 1) + 1)) 11 (σ.1 14)) 13 (-1)) 16 0)) H locs) => ?_)
      refine lv_iconst (pc := 56) (v := 0) hx hb dX7_passesOne_56 (by decide) ?_
      refine lv_istore_n (pc := 57) (lv' := [(1, .int 0), (0, .ref m0)]) hx hb dX7_passesOne_57 rfl hl (by decide) rfl (fun ls hl => ?_)
      have e_p : m_pre σ = (zs (zs (zs (zs σ 1 ((σ.1 1) + 1)) 11 (σ.1 14)) 13 (-1)) 16 0) := by rw [m_pre, if_pos c_12, if_pos c_14]
      exact loop1 (ix (σ.1 22) + 1) 0 (zs (zs (zs (zs σ 1 ((σ.1 1) + 1)) 11 (σ.1 14)) 13 (-1)) 16 0) (zs (zs (zs (zs σ 1 ((σ.1 1) + 1)) 11 (σ.1 14)) 13 (-1)) 16 0) rfl h1 rfl h0 rfl h4 (Nat.zero_le _) (by show ix (σ.1 22) < _; omega) (by rw [m_passesOne, e_p]) _ _ P ls (lv_sub hl [0, 1] rfl)
