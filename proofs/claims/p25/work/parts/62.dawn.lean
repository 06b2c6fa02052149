/-! ===== dawn: a day begins ===== -/
theorem r3 {k : Nat} (h : k < 5) : nI k - nI k / 3 * 3 = nI (k % 3) := by
  match k, h with
  | 0, _ => decide
  | 1, _ => decide
  | 2, _ => decide
  | 3, _ => decide
  | 4, _ => decide
  | k + 5, h => exact absurd h (by omega)
theorem r3_lt (k : Nat) : (k % 3) < 3 := Nat.mod_lt _ (by decide)
theorem five_le {k : Nat} (hk : k ≤ 5) : (5 : Int32) ≤ nI k ↔ k = 5 := by
  match k, hk with
  | 0, _ => decide
  | 1, _ => decide
  | 2, _ => decide
  | 3, _ => decide
  | 4, _ => decide
  | 5, _ => decide
  | k + 6, h => exact absurd h (by omega)
def z_dp1 (L : Sg) : Sg := if L.2 4 3 = L.2 4 0 + 1 then bs (bs (bs L 4 0 (L.2 4 0 + 1)) 4 1 (L.2 4 4)) 4 3 (-1) else bs L 4 0 (L.2 4 0 + 1)
def z_dpre (L : Sg) : Sg := if L.2 4 0 + 1 - (L.2 4 0 + 1) / 100 * 100 = 0 then bs (z_dp1 L) 4 6 0 else z_dp1 L
def z_latS (k : Nat) (L : Sg) : Sg := if L.2 7 k >>> (17 &&& 31) &&& 7 = 0 then (if L.2 7 k >>> (20 &&& 31) < L.2 4 0 then (z_misses (bs L 7 k (L.2 7 k ||| 262144)) (L.2 8 k)).2 else L) else L
def z_lat : Nat → Sg → Sg
  | 0, L => L
  | n + 1, L => z_latS n (z_lat n L)
theorem z_lat_s (n : Nat) (L : Sg) : z_lat (n + 1) L = z_latS n (z_lat n L) := rfl
def z_shrI (k : Nat) (L : Sg) : Int32 := m_part (L.2 2 k) (L.2 3 (k % 3)) 100000
def z_shrS (k : Nat) (L : Sg) : Sg := bs (bs (bs L 2 k (L.2 2 k - z_shrI k L)) 4 12 (L.2 4 12 + z_shrI k L)) 1 k (L.2 1 k - L.2 1 k * L.2 3 (k % 3) / 100000)
def z_shr : Nat → Sg → Sg
  | 0, L => L
  | n + 1, L => z_shrS n (z_shr n L)
theorem z_shr_s (n : Nat) (L : Sg) : z_shr (n + 1) L = z_shrS n (z_shr n L) := rfl
def z_dtail (L : Sg) : Sg := if L.2 4 0 - L.2 4 0 / 30 * 30 = 0 then (if L.2 4 2 ≤ 99 then L else bs L 4 2 (L.2 4 2 + L.2 4 2 / 100)) else L
def z_dawn (L : Sg) : Int32 × Sg := (0, z_dtail (z_shr 5 (z_lat (ix (L.2 4 10)) (z_dpre L))))
theorem z_dp1_r (L : Sg) {j i : Nat} (h : j ≠ 4 ∨ (i ≠ 0 ∧ i ≠ 1 ∧ i ≠ 3)) : (z_dp1 L).2 j i = L.2 j i := by
  unfold z_dp1
  split
  · rw [bs_2, bs_2, bs_2]
    by_cases e : j = 4
    · subst e
      obtain ⟨a, b, c⟩ := h.resolve_left (fun h => h rfl)
      simp [upd, a, b, c]
    · simp [e, bs_2]
  · rw [bs_2]
    by_cases e : j = 4
    · subst e
      obtain ⟨a, b, c⟩ := h.resolve_left (fun h => h rfl)
      simp [upd, a]
    · simp [e, bs_2]
theorem z_dp1_0 (L : Sg) : (z_dp1 L).2 4 0 = L.2 4 0 + 1 := by
  unfold z_dp1
  split <;> rfl
theorem z_dpre_0 (L : Sg) : (z_dpre L).2 4 0 = L.2 4 0 + 1 := by
  unfold z_dpre
  split
  · exact z_dp1_0 L
  · exact z_dp1_0 L
theorem z_dpre_r (L : Sg) {j i : Nat} (h : j ≠ 4 ∨ (i ≠ 0 ∧ i ≠ 1 ∧ i ≠ 3 ∧ i ≠ 6)) : (z_dpre L).2 j i = L.2 j i := by
  unfold z_dpre
  split
  · rw [bs_2]
    by_cases e : j = 4
    · subst e
      obtain ⟨a, b, c, d⟩ := h.resolve_left (fun h => h rfl)
      rw [if_pos rfl]
      show (if i = 6 then (0 : Int32) else (z_dp1 L).2 4 i) = _
      rw [if_neg d]
      exact z_dp1_r L (Or.inr ⟨a, b, c⟩)
    · rw [if_neg e]
      exact z_dp1_r L (Or.inl e)
  · exact z_dp1_r L (by rcases h with h | ⟨a, b, c, d⟩; exact Or.inl h; exact Or.inr ⟨a, b, c⟩)
theorem z_latS_r (k : Nat) (L : Sg) {j i : Nat} (h7 : j ≠ 7) (h : j ≠ 4 ∨ (i ≠ 2 ∧ i ≠ 13)) : (z_latS k L).2 j i = L.2 j i := by
  unfold z_latS
  split
  · split
    · show (bs (bs (bs L 7 k _) 4 13 _) 4 2 _).2 j i = _
      rw [bs_2, bs_2, bs_2]
      by_cases e : j = 4
      · subst e
        obtain ⟨a, b⟩ := h.resolve_left (fun h => h rfl)
        simp [upd, a, b, bs_2]
      · simp [e, h7, bs_2]
    · rfl
  · rfl
theorem z_lat_r (k : Nat) (L : Sg) {j i : Nat} (h7 : j ≠ 7) (h : j ≠ 4 ∨ (i ≠ 2 ∧ i ≠ 13)) : (z_lat k L).2 j i = L.2 j i := by
  induction k with
  | zero => rfl
  | succ n ih => rw [z_lat_s, z_latS_r _ _ h7 h, ih]
theorem z_shrS_r (k : Nat) (L : Sg) {j i : Nat} (h1 : j ≠ 1) (h2 : j ≠ 2) (h : j ≠ 4 ∨ i ≠ 12) : (z_shrS k L).2 j i = L.2 j i := by
  unfold z_shrS
  rw [bs_2, bs_2, bs_2]
  by_cases e : j = 4
  · subst e
    have a := h.resolve_left (fun h => h rfl)
    simp [upd, a, bs_2]
  · simp [e, h1, h2, bs_2]
theorem z_shr_r (k : Nat) (L : Sg) {j i : Nat} (h1 : j ≠ 1) (h2 : j ≠ 2) (h : j ≠ 4 ∨ i ≠ 12) : (z_shr k L).2 j i = L.2 j i := by
  induction k with
  | zero => rfl
  | succ n ih => rw [z_shr_s, z_shrS_r _ _ h1 h2 h, ih]
abbrev rL_dawn : Room := { frames := 2, cells := 0, slots := 0, locals := 44 }
theorem fnL_dawn : Fn yL_dawn wsL_dawn cL_dawn 8 none 6 rL_dawn 0 0 := ⟨⟨_, rfl⟩, rfl, rfl, by decide +kernel⟩
set_option maxHeartbeats 4000000 in
set_option maxRecDepth 100000 in
theorem kL_dawn (l : Launch) (D : va_G) (cI : ClassId) (ar : Nat → Nat) (L : Sg) (hc : Cz (L.2 4 10) 30) : Z_Mv l yL_dawn wsL_dawn rL_dawn D cI ar L [.ref (ar 1), .ref (ar 2), .ref (ar 3), .ref (ar 4), .ref (ar 7), .ref (ar 8)] (z_dawn L) := by
  refine Z_body (n := 6) (Qc := fun A => Z_Qv D cI ar (z_dawn L) A) rfl fnL_dawn (Nat.le_of_ble_eq_true rfl) ?_
  intro p e s m args below meth c C K A P ls hl
  have hx := C.1
  have hb := C.2.1
  have hown := C.2.2.2.1
  have hts := C.2.2.2.2.1
  have hl : lv_has ls 8 [(0, .ref (ar 1)), (1, .ref (ar 2)), (2, .ref (ar 3)), (3, .ref (ar 4)), (4, .ref (ar 7)), (5, .ref (ar 8))] := hl
  have tail : ∀ (Y : Sg), Y = (z_shr 5 (z_lat (ix (L.2 4 10)) (z_dpre L))) → ∀ (H : Heap) (locs : List Loc) (P : Hp D A s ([] ++ Z_W cI ar Y) H locs) (ls : Array Slot), lv_has ls 8 [(0, .ref (ar 1)), (1, .ref (ar 2)), (2, .ref (ar 3)), (3, .ref (ar 4)), (4, .ref (ar 7)), (5, .ref (ar 8))] → W p l e rL_dawn s m args below meth c H locs 0 0 (MQ below (Z_Qv D cI ar (z_dawn L) A) args s 0 0 A) (F0 m 180 ls []) := by
    intro Y hY H locs P ls hl
    refine lv_aload_n (pc := 180) hx hb dL_dawn_180 rfl (lv_at hl 3 rfl) ?_
    refine lv_iconst (pc := 181) (v := 0) hx hb dL_dawn_181 (by decide) ?_
    refine Z_ald (pc := 182) (j := 4) (v := Y.2 4 0) C K P rfl (vp_dec (by decide)) rfl dL_dawn_182 ?_
    refine lv_bipush (pc := 183) (v := 30) hx hb dL_dawn_183 (by decide) ?_
    refine lv_irem (pc := 185) hx hb dL_dawn_185 (by decide) ?_
    refine lv_if_ne (pc := 186) (tgt := 209) hx hb dL_dawn_186 (by decide) (fun (c186 : ¬ ((Y.2 4 0) - (Y.2 4 0) / 30 * 30) = 0) => ?_) (fun (c186 : ((Y.2 4 0) - (Y.2 4 0) / 30 * 30) = 0) => ?_)
    · exact Z_retv (pc := 209) (v := 0) C K P (by rw [z_dawn, ← hY, z_dtail, if_neg c186]) dL_dawn_209
    · refine lv_aload_n (pc := 189) hx hb dL_dawn_189 rfl (lv_at hl 3 rfl) ?_
      refine lv_iconst (pc := 190) (v := 2) hx hb dL_dawn_190 (by decide) ?_
      refine Z_ald (pc := 191) (j := 4) (v := Y.2 4 2) C K P rfl (vp_dec (by decide)) rfl dL_dawn_191 ?_
      refine lv_bipush (pc := 192) (v := 99) hx hb dL_dawn_192 (by decide) ?_
      refine lv_icmp_le (pc := 194) (tgt := 209) hx hb dL_dawn_194 (by decide) (fun (c194 : (Y.2 4 2) ≤ 99) => ?_) (fun (c194 : ¬ (Y.2 4 2) ≤ 99) => ?_)
      · exact Z_retv (pc := 209) (v := 0) C K P (by rw [z_dawn, ← hY, z_dtail, if_pos c186, if_pos c194]) dL_dawn_209
      · refine lv_aload_n (pc := 197) hx hb dL_dawn_197 rfl (lv_at hl 3 rfl) ?_
        refine lv_iconst (pc := 198) (v := 2) hx hb dL_dawn_198 (by decide) ?_
        refine lv_dup2_11 (pc := 199) hx hb dL_dawn_199 rfl rfl ?_
        refine Z_ald (pc := 200) (j := 4) (v := Y.2 4 2) C K P rfl (vp_dec (by decide)) rfl dL_dawn_200 ?_
        refine lv_aload_n (pc := 201) hx hb dL_dawn_201 rfl (lv_at hl 3 rfl) ?_
        refine lv_iconst (pc := 202) (v := 2) hx hb dL_dawn_202 (by decide) ?_
        refine Z_ald (pc := 203) (j := 4) (v := Y.2 4 2) C K P rfl (vp_dec (by decide)) rfl dL_dawn_203 ?_
        refine lv_bipush (pc := 204) (v := 100) hx hb dL_dawn_204 (by decide) ?_
        refine lv_idiv (pc := 206) hx hb dL_dawn_206 (by decide) ?_
        refine lv_iadd (pc := 207) hx hb dL_dawn_207 ?_
        refine Z_ast (pc := 208) (j := 4) (n := 16) (x := (Y.2 4 2) + ((Y.2 4 2) / 100)) C K P rfl (vp_dec (by decide)) rfl dL_dawn_208 (fun H locs (P : Hp D A s ([] ++ Z_W cI ar (bs Y 4 2 ((Y.2 4 2) + ((Y.2 4 2) / 100)))) H locs) => ?_)
        exact Z_retv (pc := 209) (v := 0) C K P (by rw [z_dawn, ← hY, z_dtail, if_pos c186, if_neg c194]) dL_dawn_209
  have loop3 : ∀ (n k : Nat), k ≤ 5 → 5 < k + n → ∀ (H : Heap) (locs : List Loc) (P : Hp D A s ([] ++ Z_W cI ar (z_shr k (z_lat (ix (L.2 4 10)) (z_dpre L)))) H locs) (ls : Array Slot), lv_has ls 8 [(6, .int (nI k)), (0, .ref (ar 1)), (1, .ref (ar 2)), (2, .ref (ar 3)), (3, .ref (ar 4)), (4, .ref (ar 7)), (5, .ref (ar 8))] → W p l e rL_dawn s m args below meth c H locs 0 0 (MQ below (Z_Qv D cI ar (z_dawn L) A) args s 0 0 A) (F0 m 112 ls []) := by
    intro n
    induction n with
    | zero => intro k h1 h2; exact absurd h2 (by omega)
    | succ n ih =>
      intro k h1 h2 H locs P ls hl
      refine lv_iload (pc := 112) hx hb dL_dawn_112 (lv_at hl 0 rfl) ?_
      refine lv_iconst (pc := 114) (v := 5) hx hb dL_dawn_114 (by decide) ?_
      refine lv_icmp_ge (pc := 115) (tgt := 180) hx hb dL_dawn_115 (by decide) (fun (c115 : 5 ≤ (nI k)) => ?_) (fun (c115 : ¬ 5 ≤ (nI k)) => ?_)
      · have ek : k = 5 := (five_le h1).mp c115
        subst ek
        exact tail _ rfl _ _ P ls (lv_sub hl [1, 2, 3, 4, 5, 6] rfl)
      · have hk5 : k < 5 := Nat.lt_of_le_of_ne h1 (fun e => c115 ((five_le h1).mpr e))
        refine lv_aload_n (pc := 118) hx hb dL_dawn_118 rfl (lv_at hl 2 rfl) ?_
        refine lv_iload (pc := 119) hx hb dL_dawn_119 (lv_at hl 0 rfl) ?_
        refine Z_aldN (pc := 121) (j := 2) (n := 5) (v := (z_shr k (z_lat (ix (L.2 4 10)) (z_dpre L))).2 2 k) C K P rfl (k := k) hk5 (by decide) rfl dL_dawn_121 ?_
        refine lv_aload_n (pc := 122) hx hb dL_dawn_122 rfl (lv_at hl 3 rfl) ?_
        refine lv_iload (pc := 123) hx hb dL_dawn_123 (lv_at hl 0 rfl) ?_
        refine lv_iconst (pc := 125) (v := 3) hx hb dL_dawn_125 (by decide) ?_
        refine lv_irem (pc := 126) hx hb dL_dawn_126 (by decide) ?_
        rw [r3 hk5]
        refine Z_aldN (pc := 127) (j := 3) (n := 3) (v := (z_shr k (z_lat (ix (L.2 4 10)) (z_dpre L))).2 3 (k % 3)) C K P rfl (k := (k % 3)) (r3_lt k) (by decide) rfl dL_dawn_127 ?_
        refine lv_ldc (pc := 128) (v := 100000) hx hb hown (hts _ (List.mem_of_getElem? (i := 2) rfl)) dL_dawn_128 ?_
        refine S_call (pc := 130) (As := [.int ((z_shr k (z_lat (ix (L.2 4 10)) (z_dpre L))).2 2 k), .int ((z_shr k (z_lat (ix (L.2 4 10)) (z_dpre L))).2 3 (k % 3)), .int 100000]) (rest := []) (r := m_part ((z_shr k (z_lat (ix (L.2 4 10)) (z_dpre L))).2 2 k) ((z_shr k (z_lat (ix (L.2 4 10)) (z_dpre L))).2 3 (k % 3)) 100000) C hl.1 (kL_times l ((z_shr k (z_lat (ix (L.2 4 10)) (z_dpre L))).2 2 k) ((z_shr k (z_lat (ix (L.2 4 10)) (z_dpre L))).2 3 (k % 3)) 100000 (by decide)) fnL_times gL_dawn_L_times rfl rfl ⟨Nat.le_of_ble_eq_true rfl, Nat.le_of_ble_eq_true rfl⟩ (Nat.le_of_ble_eq_true rfl) ⟨Nat.le_refl _, Nat.le_refl _⟩ dL_dawn_130 ?_
        refine lv_topi (fun its (hits : its = m_part ((z_shr k (z_lat (ix (L.2 4 10)) (z_dpre L))).2 2 k) ((z_shr k (z_lat (ix (L.2 4 10)) (z_dpre L))).2 3 (k % 3)) 100000) => ?_)
        refine lv_istore (pc := 133) (lv' := [(7, .int its), (6, .int (nI k)), (0, .ref (ar 1)), (1, .ref (ar 2)), (2, .ref (ar 3)), (3, .ref (ar 4)), (4, .ref (ar 7)), (5, .ref (ar 8))]) hx hb dL_dawn_133 hl (by decide) rfl (fun ls hl => ?_)
        refine lv_aload_n (pc := 135) hx hb dL_dawn_135 rfl (lv_at hl 3 rfl) ?_
        refine lv_iload (pc := 136) hx hb dL_dawn_136 (lv_at hl 1 rfl) ?_
        refine lv_dup2_11 (pc := 138) hx hb dL_dawn_138 rfl rfl ?_
        refine Z_aldN (pc := 139) (j := 2) (n := 5) (v := (z_shr k (z_lat (ix (L.2 4 10)) (z_dpre L))).2 2 k) C K P rfl (k := k) hk5 (by decide) rfl dL_dawn_139 ?_
        refine lv_iload (pc := 140) hx hb dL_dawn_140 (lv_at hl 0 rfl) ?_
        refine lv_isub (pc := 142) hx hb dL_dawn_142 ?_
        refine Z_astN (pc := 143) (j := 2) (n := 5) (x := ((z_shr k (z_lat (ix (L.2 4 10)) (z_dpre L))).2 2 k) - its) C K P rfl (k := k) hk5 (by decide) rfl dL_dawn_143 (fun H locs (P : Hp D A s ([] ++ Z_W cI ar (bs (z_shr k (z_lat (ix (L.2 4 10)) (z_dpre L))) 2 k (((z_shr k (z_lat (ix (L.2 4 10)) (z_dpre L))).2 2 k) - its))) H locs) => ?_)
        refine lv_aload_n (pc := 144) hx hb dL_dawn_144 rfl (lv_at hl 5 rfl) ?_
        refine lv_bipush (pc := 145) (v := 12) hx hb dL_dawn_145 (by decide) ?_
        refine lv_dup2_11 (pc := 147) hx hb dL_dawn_147 rfl rfl ?_
        refine Z_ald (pc := 148) (j := 4) (v := (z_shr k (z_lat (ix (L.2 4 10)) (z_dpre L))).2 4 12) C K P rfl (vp_dec (by decide)) rfl dL_dawn_148 ?_
        refine lv_iload (pc := 149) hx hb dL_dawn_149 (lv_at hl 0 rfl) ?_
        refine lv_iadd (pc := 151) hx hb dL_dawn_151 ?_
        refine Z_ast (pc := 152) (j := 4) (n := 16) (x := ((z_shr k (z_lat (ix (L.2 4 10)) (z_dpre L))).2 4 12) + its) C K P rfl (vp_dec (by decide)) rfl dL_dawn_152 (fun H locs (P : Hp D A s ([] ++ Z_W cI ar (bs (bs (z_shr k (z_lat (ix (L.2 4 10)) (z_dpre L))) 2 k (((z_shr k (z_lat (ix (L.2 4 10)) (z_dpre L))).2 2 k) - its)) 4 12 (((z_shr k (z_lat (ix (L.2 4 10)) (z_dpre L))).2 4 12) + its))) H locs) => ?_)
        refine lv_aload_n (pc := 153) hx hb dL_dawn_153 rfl (lv_at hl 2 rfl) ?_
        refine lv_iload (pc := 154) hx hb dL_dawn_154 (lv_at hl 1 rfl) ?_
        refine lv_dup2_11 (pc := 156) hx hb dL_dawn_156 rfl rfl ?_
        refine Z_aldN (pc := 157) (j := 1) (n := 5) (v := (z_shr k (z_lat (ix (L.2 4 10)) (z_dpre L))).2 1 k) C K P rfl (k := k) hk5 (by decide) rfl dL_dawn_157 ?_
        refine lv_aload_n (pc := 158) hx hb dL_dawn_158 rfl (lv_at hl 2 rfl) ?_
        refine lv_iload (pc := 159) hx hb dL_dawn_159 (lv_at hl 1 rfl) ?_
        refine Z_aldN (pc := 161) (j := 1) (n := 5) (v := (z_shr k (z_lat (ix (L.2 4 10)) (z_dpre L))).2 1 k) C K P rfl (k := k) hk5 (by decide) rfl dL_dawn_161 ?_
        refine lv_aload_n (pc := 162) hx hb dL_dawn_162 rfl (lv_at hl 4 rfl) ?_
        refine lv_iload (pc := 163) hx hb dL_dawn_163 (lv_at hl 1 rfl) ?_
        refine lv_iconst (pc := 165) (v := 3) hx hb dL_dawn_165 (by decide) ?_
        refine lv_irem (pc := 166) hx hb dL_dawn_166 (by decide) ?_
        rw [r3 hk5]
        refine Z_aldN (pc := 167) (j := 3) (n := 3) (v := (z_shr k (z_lat (ix (L.2 4 10)) (z_dpre L))).2 3 (k % 3)) C K P rfl (k := (k % 3)) (r3_lt k) (by decide) rfl dL_dawn_167 ?_
        refine lv_imul (pc := 168) hx hb dL_dawn_168 ?_
        refine lv_ldc (pc := 169) (v := 100000) hx hb hown (hts _ (List.mem_of_getElem? (i := 2) rfl)) dL_dawn_169 ?_
        refine lv_idiv (pc := 171) hx hb dL_dawn_171 (by decide) ?_
        refine lv_isub (pc := 172) hx hb dL_dawn_172 ?_
        refine Z_astN (pc := 173) (j := 1) (n := 5) (x := ((z_shr k (z_lat (ix (L.2 4 10)) (z_dpre L))).2 1 k) - ((((z_shr k (z_lat (ix (L.2 4 10)) (z_dpre L))).2 1 k) * ((z_shr k (z_lat (ix (L.2 4 10)) (z_dpre L))).2 3 (k % 3))) / 100000)) C K P rfl (k := k) hk5 (by decide) rfl dL_dawn_173 (fun H locs (P : Hp D A s ([] ++ Z_W cI ar (bs (bs (bs (z_shr k (z_lat (ix (L.2 4 10)) (z_dpre L))) 2 k (((z_shr k (z_lat (ix (L.2 4 10)) (z_dpre L))).2 2 k) - its)) 4 12 (((z_shr k (z_lat (ix (L.2 4 10)) (z_dpre L))).2 4 12) + its)) 1 k (((z_shr k (z_lat (ix (L.2 4 10)) (z_dpre L))).2 1 k) - ((((z_shr k (z_lat (ix (L.2 4 10)) (z_dpre L))).2 1 k) * ((z_shr k (z_lat (ix (L.2 4 10)) (z_dpre L))).2 3 (k % 3))) / 100000)))) H locs) => ?_)
        refine lv_iinc (pc := 174) (v := nI (k + 1)) (lv' := [(6, .int (nI (k + 1))), (7, .int its), (0, .ref (ar 1)), (1, .ref (ar 2)), (2, .ref (ar 3)), (3, .ref (ar 4)), (4, .ref (ar 7)), (5, .ref (ar 8))]) hx hb dL_dawn_174 hl (k := 1) rfl ((nI_succ k).symm) (by decide) rfl (fun ls hl => ?_)
        refine lv_goto (pc := 177) (tgt := 112) hx hb dL_dawn_177 (by decide) ?_
        exact ih (k + 1) (by omega) (by omega) _ _ (P.eq (by subst hits; rfl)) ls (lv_sub hl [0, 2, 3, 4, 5, 6, 7] rfl)
  have mid : ∀ (H : Heap) (locs : List Loc) (P : Hp D A s ([] ++ Z_W cI ar (z_lat (ix (L.2 4 10)) (z_dpre L))) H locs) (ls : Array Slot), lv_has ls 8 [(0, .ref (ar 1)), (1, .ref (ar 2)), (2, .ref (ar 3)), (3, .ref (ar 4)), (4, .ref (ar 7)), (5, .ref (ar 8))] → W p l e rL_dawn s m args below meth c H locs 0 0 (MQ below (Z_Qv D cI ar (z_dawn L) A) args s 0 0 A) (F0 m 109 ls []) := by
    intro H locs P ls hl
    refine lv_iconst (pc := 109) (v := 0) hx hb dL_dawn_109 (by decide) ?_
    refine lv_istore (pc := 110) (lv' := [(6, .int 0), (0, .ref (ar 1)), (1, .ref (ar 2)), (2, .ref (ar 3)), (3, .ref (ar 4)), (4, .ref (ar 7)), (5, .ref (ar 8))]) hx hb dL_dawn_110 hl (by decide) rfl (fun ls hl => ?_)
    exact loop3 6 0 (by decide) (by decide) _ _ P ls (lv_sub hl [0, 1, 2, 3, 4, 5, 6] rfl)
  have loop2 : ∀ (n k : Nat), k ≤ ix (L.2 4 10) → ix (L.2 4 10) < k + n → ∀ (H : Heap) (locs : List Loc) (P : Hp D A s ([] ++ Z_W cI ar (z_lat k (z_dpre L))) H locs) (ls : Array Slot), lv_has ls 8 [(6, .int (nI k)), (0, .ref (ar 1)), (1, .ref (ar 2)), (2, .ref (ar 3)), (3, .ref (ar 4)), (4, .ref (ar 7)), (5, .ref (ar 8))] → W p l e rL_dawn s m args below meth c H locs 0 0 (MQ below (Z_Qv D cI ar (z_dawn L) A) args s 0 0 A) (F0 m 43 ls []) := by
    intro n
    induction n with
    | zero => intro k h1 h2; exact absurd h2 (by omega)
    | succ n ih =>
      intro k h1 h2 H locs P ls hl
      refine lv_iload (pc := 43) hx hb dL_dawn_43 (lv_at hl 0 rfl) ?_
      refine lv_aload_n (pc := 45) hx hb dL_dawn_45 rfl (lv_at hl 4 rfl) ?_
      refine lv_bipush (pc := 46) (v := 10) hx hb dL_dawn_46 (by decide) ?_
      refine Z_ald (pc := 48) (j := 4) (v := L.2 4 10) C K P rfl (vp_dec (by decide)) ((z_lat_r k (z_dpre L) (by decide) (Or.inr (by decide))).trans (z_dpre_r L (Or.inr (by decide)))) dL_dawn_48 ?_
      refine lv_icmp_ge (pc := 49) (tgt := 109) hx hb dL_dawn_49 (by decide) (fun (c49 : (L.2 4 10) ≤ (nI k)) => ?_) (fun (c49 : ¬ (L.2 4 10) ≤ (nI k)) => ?_)
      · have ek : k = ix (L.2 4 10) := lz_end hc c49 h1
        subst ek
        exact mid _ _ P ls (lv_sub hl [1, 2, 3, 4, 5, 6] rfl)
      · have hk : k < ix (L.2 4 10) := lz_in hc c49 h1
        have hk3 : k < 30 := Nat.lt_of_lt_of_le hk hc.2
        refine lv_aload (pc := 52) hx hb dL_dawn_52 (lv_at hl 5 rfl) ?_
        refine lv_iload (pc := 54) hx hb dL_dawn_54 (lv_at hl 0 rfl) ?_
        refine Z_aldN (pc := 56) (j := 7) (n := 30) (v := (z_lat k (z_dpre L)).2 7 k) C K P rfl (k := k) hk3 (by decide) rfl dL_dawn_56 ?_
        refine lv_bipush (pc := 57) (v := 17) hx hb dL_dawn_57 (by decide) ?_
        refine lv_ishr (pc := 59) hx hb dL_dawn_59 ?_
        refine lv_bipush (pc := 60) (v := 7) hx hb dL_dawn_60 (by decide) ?_
        refine lv_iand (pc := 62) hx hb dL_dawn_62 ?_
        refine lv_if_ne (pc := 63) (tgt := 103) hx hb dL_dawn_63 (by decide) (fun (c63 : ¬ ((((z_lat k (z_dpre L)).2 7 k) >>> (17 &&& 31)) &&& 7) = 0) => ?_) (fun (c63 : ((((z_lat k (z_dpre L)).2 7 k) >>> (17 &&& 31)) &&& 7) = 0) => ?_)
        · refine lv_iinc (pc := 103) (v := nI (k + 1)) (lv' := [(6, .int (nI (k + 1))), (0, .ref (ar 1)), (1, .ref (ar 2)), (2, .ref (ar 3)), (3, .ref (ar 4)), (4, .ref (ar 7)), (5, .ref (ar 8))]) hx hb dL_dawn_103 hl (k := 0) rfl ((nI_succ k).symm) (by decide) rfl (fun ls hl => ?_)
          refine lv_goto (pc := 106) (tgt := 43) hx hb dL_dawn_106 (by decide) ?_
          exact ih (k + 1) hk (by omega) _ _ (P.eq (by rw [z_lat_s, z_latS, if_neg c63])) ls (lv_sub hl [0, 1, 2, 3, 4, 5, 6] rfl)
        · refine lv_aload (pc := 66) hx hb dL_dawn_66 (lv_at hl 5 rfl) ?_
          refine lv_iload (pc := 68) hx hb dL_dawn_68 (lv_at hl 0 rfl) ?_
          refine Z_aldN (pc := 70) (j := 7) (n := 30) (v := (z_lat k (z_dpre L)).2 7 k) C K P rfl (k := k) hk3 (by decide) rfl dL_dawn_70 ?_
          refine lv_bipush (pc := 71) (v := 20) hx hb dL_dawn_71 (by decide) ?_
          refine lv_ishr (pc := 73) hx hb dL_dawn_73 ?_
          refine lv_aload_n (pc := 74) hx hb dL_dawn_74 rfl (lv_at hl 4 rfl) ?_
          refine lv_iconst (pc := 75) (v := 0) hx hb dL_dawn_75 (by decide) ?_
          refine Z_ald (pc := 76) (j := 4) (v := (z_lat k (z_dpre L)).2 4 0) C K P rfl (vp_dec (by decide)) rfl dL_dawn_76 ?_
          refine lv_icmp_lt (pc := 77) (tgt := 83) hx hb dL_dawn_77 (by decide) (fun (c77 : (((z_lat k (z_dpre L)).2 7 k) >>> (20 &&& 31)) < ((z_lat k (z_dpre L)).2 4 0)) => ?_) (fun (c77 : ¬ (((z_lat k (z_dpre L)).2 7 k) >>> (20 &&& 31)) < ((z_lat k (z_dpre L)).2 4 0)) => ?_)
          · refine lv_aload (pc := 83) hx hb dL_dawn_83 (lv_at hl 5 rfl) ?_
            refine lv_iload (pc := 85) hx hb dL_dawn_85 (lv_at hl 0 rfl) ?_
            refine lv_dup2_11 (pc := 87) hx hb dL_dawn_87 rfl rfl ?_
            refine Z_aldN (pc := 88) (j := 7) (n := 30) (v := (z_lat k (z_dpre L)).2 7 k) C K P rfl (k := k) hk3 (by decide) rfl dL_dawn_88 ?_
            refine lv_ldc (pc := 89) (v := 262144) hx hb hown (hts _ (List.mem_of_getElem? (i := 1) rfl)) dL_dawn_89 ?_
            refine lv_ior (pc := 91) hx hb dL_dawn_91 ?_
            refine Z_astN (pc := 92) (j := 7) (n := 30) (x := ((z_lat k (z_dpre L)).2 7 k) ||| 262144) C K P rfl (k := k) hk3 (by decide) rfl dL_dawn_92 (fun H locs (P : Hp D A s ([] ++ Z_W cI ar (bs (z_lat k (z_dpre L)) 7 k (((z_lat k (z_dpre L)).2 7 k) ||| 262144))) H locs) => ?_)
            refine lv_aload (pc := 93) hx hb dL_dawn_93 (lv_at hl 6 rfl) ?_
            refine lv_iload (pc := 95) hx hb dL_dawn_95 (lv_at hl 0 rfl) ?_
            refine Z_aldN (pc := 97) (j := 8) (n := 30) (v := (z_lat k (z_dpre L)).2 8 k) C K P rfl (k := k) hk3 (by decide) rfl dL_dawn_97 ?_
            refine lv_aload_n (pc := 98) hx hb dL_dawn_98 rfl (lv_at hl 4 rfl) ?_
            refine Z_calli (pc := 99) (As := [.int ((z_lat k (z_dpre L)).2 8 k), .ref (ar 4)]) (rest := []) C K P hl.1 (kL_misses l D cI ar (bs (z_lat k (z_dpre L)) 7 k (((z_lat k (z_dpre L)).2 7 k) ||| 262144)) ((z_lat k (z_dpre L)).2 8 k)) fnL_misses gL_dawn_L_misses rfl rfl ⟨Nat.le_of_ble_eq_true rfl, Nat.le_of_ble_eq_true rfl⟩ (Nat.le_of_ble_eq_true rfl) ⟨Nat.le_refl _, Nat.le_refl _⟩ dL_dawn_99 (fun H locs (P : Hp D A s ([] ++ Z_W cI ar (z_misses (bs (z_lat k (z_dpre L)) 7 k (((z_lat k (z_dpre L)).2 7 k) ||| 262144)) ((z_lat k (z_dpre L)).2 8 k)).2) H locs) => ?_)
            refine lv_pop (pc := 102) hx hb dL_dawn_102 rfl ?_
            refine lv_iinc (pc := 103) (v := nI (k + 1)) (lv' := [(6, .int (nI (k + 1))), (0, .ref (ar 1)), (1, .ref (ar 2)), (2, .ref (ar 3)), (3, .ref (ar 4)), (4, .ref (ar 7)), (5, .ref (ar 8))]) hx hb dL_dawn_103 hl (k := 0) rfl ((nI_succ k).symm) (by decide) rfl (fun ls hl => ?_)
            refine lv_goto (pc := 106) (tgt := 43) hx hb dL_dawn_106 (by decide) ?_
            exact ih (k + 1) hk (by omega) _ _ (P.eq (by rw [z_lat_s, z_latS, if_pos c63, if_pos c77])) ls (lv_sub hl [0, 1, 2, 3, 4, 5, 6] rfl)
          · refine lv_goto (pc := 80) (tgt := 103) hx hb dL_dawn_80 (by decide) ?_
            refine lv_iinc (pc := 103) (v := nI (k + 1)) (lv' := [(6, .int (nI (k + 1))), (0, .ref (ar 1)), (1, .ref (ar 2)), (2, .ref (ar 3)), (3, .ref (ar 4)), (4, .ref (ar 7)), (5, .ref (ar 8))]) hx hb dL_dawn_103 hl (k := 0) rfl ((nI_succ k).symm) (by decide) rfl (fun ls hl => ?_)
            refine lv_goto (pc := 106) (tgt := 43) hx hb dL_dawn_106 (by decide) ?_
            exact ih (k + 1) hk (by omega) _ _ (P.eq (by rw [z_lat_s, z_latS, if_pos c63, if_neg c77])) ls (lv_sub hl [0, 1, 2, 3, 4, 5, 6] rfl)
  have first_ : ∀ (H : Heap) (locs : List Loc) (P : Hp D A s ([] ++ Z_W cI ar (z_dpre L)) H locs) (ls : Array Slot), lv_has ls 8 [(0, .ref (ar 1)), (1, .ref (ar 2)), (2, .ref (ar 3)), (3, .ref (ar 4)), (4, .ref (ar 7)), (5, .ref (ar 8))] → W p l e rL_dawn s m args below meth c H locs 0 0 (MQ below (Z_Qv D cI ar (z_dawn L) A) args s 0 0 A) (F0 m 40 ls []) := by
    intro H locs P ls hl
    refine lv_iconst (pc := 40) (v := 0) hx hb dL_dawn_40 (by decide) ?_
    refine lv_istore (pc := 41) (lv' := [(6, .int 0), (0, .ref (ar 1)), (1, .ref (ar 2)), (2, .ref (ar 3)), (3, .ref (ar 4)), (4, .ref (ar 7)), (5, .ref (ar 8))]) hx hb dL_dawn_41 hl (by decide) rfl (fun ls hl => ?_)
    exact loop2 (ix (L.2 4 10) + 1) 0 (Nat.zero_le _) (by omega) _ _ P ls (lv_sub hl [0, 1, 2, 3, 4, 5, 6] rfl)
  refine lv_aload_n (pc := 0) hx hb dL_dawn_0 rfl (lv_at hl 3 rfl) ?_
  refine lv_iconst (pc := 1) (v := 0) hx hb dL_dawn_1 (by decide) ?_
  refine lv_dup2_11 (pc := 2) hx hb dL_dawn_2 rfl rfl ?_
  refine Z_ald (pc := 3) (j := 4) (v := L.2 4 0) C K P rfl (vp_dec (by decide)) rfl dL_dawn_3 ?_
  refine lv_iconst (pc := 4) (v := 1) hx hb dL_dawn_4 (by decide) ?_
  refine lv_iadd (pc := 5) hx hb dL_dawn_5 ?_
  refine Z_ast (pc := 6) (j := 4) (n := 16) (x := (L.2 4 0) + 1) C K P rfl (vp_dec (by decide)) rfl dL_dawn_6 (fun H locs (P : Hp D A s ([] ++ Z_W cI ar (bs L 4 0 ((L.2 4 0) + 1))) H locs) => ?_)
  refine lv_aload_n (pc := 7) hx hb dL_dawn_7 rfl (lv_at hl 3 rfl) ?_
  refine lv_iconst (pc := 8) (v := 3) hx hb dL_dawn_8 (by decide) ?_
  refine Z_ald (pc := 9) (j := 4) (v := L.2 4 3) C K P rfl (vp_dec (by decide)) rfl dL_dawn_9 ?_
  refine lv_aload_n (pc := 10) hx hb dL_dawn_10 rfl (lv_at hl 3 rfl) ?_
  refine lv_iconst (pc := 11) (v := 0) hx hb dL_dawn_11 (by decide) ?_
  refine Z_ald (pc := 12) (j := 4) (v := (L.2 4 0) + 1) C K P rfl (vp_dec (by decide)) rfl dL_dawn_12 ?_
  refine lv_icmp_ne (pc := 13) (tgt := 26) hx hb dL_dawn_13 (by decide) (fun (c13 : ¬ (L.2 4 3) = ((L.2 4 0) + 1)) => ?_) (fun (c13 : (L.2 4 3) = ((L.2 4 0) + 1)) => ?_)
  · refine lv_aload_n (pc := 26) hx hb dL_dawn_26 rfl (lv_at hl 3 rfl) ?_
    refine lv_iconst (pc := 27) (v := 0) hx hb dL_dawn_27 (by decide) ?_
    refine Z_ald (pc := 28) (j := 4) (v := (L.2 4 0) + 1) C K P rfl (vp_dec (by decide)) rfl dL_dawn_28 ?_
    refine lv_bipush (pc := 29) (v := 100) hx hb dL_dawn_29 (by decide) ?_
    refine lv_irem (pc := 31) hx hb dL_dawn_31 (by decide) ?_
    refine lv_if_ne (pc := 32) (tgt := 40) hx hb dL_dawn_32 (by decide) (fun (c32 : ¬ (((L.2 4 0) + 1) - ((L.2 4 0) + 1) / 100 * 100) = 0) => ?_) (fun (c32 : (((L.2 4 0) + 1) - ((L.2 4 0) + 1) / 100 * 100) = 0) => ?_)
    · exact first_ _ _ (P.eq (by rw [z_dpre, z_dp1, if_neg c32, if_neg c13])) ls (lv_sub hl [0, 1, 2, 3, 4, 5] rfl)
    · refine lv_aload_n (pc := 35) hx hb dL_dawn_35 rfl (lv_at hl 3 rfl) ?_
      refine lv_bipush (pc := 36) (v := 6) hx hb dL_dawn_36 (by decide) ?_
      refine lv_iconst (pc := 38) (v := 0) hx hb dL_dawn_38 (by decide) ?_
      refine Z_ast (pc := 39) (j := 4) (n := 16) (x := 0) C K P rfl (vp_dec (by decide)) rfl dL_dawn_39 (fun H locs (P : Hp D A s ([] ++ Z_W cI ar (bs (bs L 4 0 ((L.2 4 0) + 1)) 4 6 0)) H locs) => ?_)
      exact first_ _ _ (P.eq (by rw [z_dpre, z_dp1, if_pos c32, if_neg c13])) ls (lv_sub hl [0, 1, 2, 3, 4, 5] rfl)
  · refine lv_aload_n (pc := 16) hx hb dL_dawn_16 rfl (lv_at hl 3 rfl) ?_
    refine lv_iconst (pc := 17) (v := 1) hx hb dL_dawn_17 (by decide) ?_
    refine lv_aload_n (pc := 18) hx hb dL_dawn_18 rfl (lv_at hl 3 rfl) ?_
    refine lv_iconst (pc := 19) (v := 4) hx hb dL_dawn_19 (by decide) ?_
    refine Z_ald (pc := 20) (j := 4) (v := L.2 4 4) C K P rfl (vp_dec (by decide)) rfl dL_dawn_20 ?_
    refine Z_ast (pc := 21) (j := 4) (n := 16) (x := L.2 4 4) C K P rfl (vp_dec (by decide)) rfl dL_dawn_21 (fun H locs (P : Hp D A s ([] ++ Z_W cI ar (bs (bs L 4 0 ((L.2 4 0) + 1)) 4 1 (L.2 4 4))) H locs) => ?_)
    refine lv_aload_n (pc := 22) hx hb dL_dawn_22 rfl (lv_at hl 3 rfl) ?_
    refine lv_iconst (pc := 23) (v := 3) hx hb dL_dawn_23 (by decide) ?_
    refine lv_iconst (pc := 24) (v := (-1)) hx hb dL_dawn_24 (by decide) ?_
    refine Z_ast (pc := 25) (j := 4) (n := 16) (x := (-1)) C K P rfl (vp_dec (by decide)) rfl dL_dawn_25 (fun H locs (P : Hp D A s ([] ++ Z_W cI ar (bs (bs (bs L 4 0 ((L.2 4 0) + 1)) 4 1 (L.2 4 4)) 4 3 (-1))) H locs) => ?_)
    refine lv_aload_n (pc := 26) hx hb dL_dawn_26 rfl (lv_at hl 3 rfl) ?_
    refine lv_iconst (pc := 27) (v := 0) hx hb dL_dawn_27 (by decide) ?_
    refine Z_ald (pc := 28) (j := 4) (v := (L.2 4 0) + 1) C K P rfl (vp_dec (by decide)) rfl dL_dawn_28 ?_
    refine lv_bipush (pc := 29) (v := 100) hx hb dL_dawn_29 (by decide) ?_
    refine lv_irem (pc := 31) hx hb dL_dawn_31 (by decide) ?_
    refine lv_if_ne (pc := 32) (tgt := 40) hx hb dL_dawn_32 (by decide) (fun (c32 : ¬ (((L.2 4 0) + 1) - ((L.2 4 0) + 1) / 100 * 100) = 0) => ?_) (fun (c32 : (((L.2 4 0) + 1) - ((L.2 4 0) + 1) / 100 * 100) = 0) => ?_)
    · exact first_ _ _ (P.eq (by rw [z_dpre, z_dp1, if_neg c32, if_pos c13])) ls (lv_sub hl [0, 1, 2, 3, 4, 5] rfl)
    · refine lv_aload_n (pc := 35) hx hb dL_dawn_35 rfl (lv_at hl 3 rfl) ?_
      refine lv_bipush (pc := 36) (v := 6) hx hb dL_dawn_36 (by decide) ?_
      refine lv_iconst (pc := 38) (v := 0) hx hb dL_dawn_38 (by decide) ?_
      refine Z_ast (pc := 39) (j := 4) (n := 16) (x := 0) C K P rfl (vp_dec (by decide)) rfl dL_dawn_39 (fun H locs (P : Hp D A s ([] ++ Z_W cI ar (bs (bs (bs (bs L 4 0 ((L.2 4 0) + 1)) 4 1 (L.2 4 4)) 4 3 (-1)) 4 6 0)) H locs) => ?_)
      exact first_ _ _ (P.eq (by rw [z_dpre, z_dp1, if_pos c32, if_pos c13])) ls (lv_sub hl [0, 1, 2, 3, 4, 5] rfl)
