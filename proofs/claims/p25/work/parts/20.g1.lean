/-! ===== the class's world: one object, three lists, a row, two books; then what may be there; then the vessels, movements, lots ===== -/
abbrev Eg : Type := (Nat → Nat) × (Nat → Nat → Nat) × (Nat → Nat) × (Nat → Int32) × (Nat → Nat → Option Nat) × Option Nat
abbrev e_ad (η : Eg) : Nat → Nat := η.1
abbrev e_aa (η : Eg) : Nat → Nat → Nat := η.2.1
abbrev e_cp (η : Eg) : Nat → Nat := η.2.2.1
abbrev e_mc (η : Eg) : Nat → Int32 := η.2.2.2.1
abbrev e_rw (η : Eg) : Nat → Nat → Option Nat := η.2.2.2.2.1
abbrev e_bu (η : Eg) : Option Nat := η.2.2.2.2.2
def G_fs (η : Eg) (σ : Sg) : List Value := [.ref (e_ad η 1), .ref (e_ad η 2), .ref (e_ad η 3), .ref (e_ad η 4), .ref (e_ad η 5), .ref (e_ad η 6), va_rf (e_bu η), .int (σ.1 1), .int (σ.1 8), .int (σ.1 9), .int (σ.1 17), .int (σ.1 21)]
def AL_fs (η : Eg) (n : Int32) (j : Nat) : List Value := [.int (e_mc η j), .ref (e_ad η (8 + j)), .int n]
def Ex_fs (σ : Sg) : List Value := [.int (σ.1 11), .int (σ.1 12), .int (1000000 - σ.1 16)]
def Bk_fs (σ : Sg) : List Value := [.int (σ.2 10 0), .int (σ.2 10 4), .int (σ.2 10 5), .int (σ.2 10 6), .int (σ.2 10 7)]
def V_fs (σ : Sg) (i : Nat) : List Value := [.int (σ.2 3 i), .int (σ.2 4 i), .int (σ.2 5 i), .int (σ.2 6 i)]
def Mv_fs (η : Eg) (σ : Sg) (i : Nat) : List Value := [.ref (e_aa η 0 (ix (σ.2 24 i))), .int (σ.2 25 i), .int (σ.2 26 i), .int (σ.2 27 i), .int (σ.2 23 i)]
def L_fs (σ : Sg) (i : Nat) : List Value := [.int (σ.2 19 i), .int (σ.2 20 i)]
def Bu_fs (σ : Sg) : List Value := [.int (σ.1 13), .int (σ.1 14), .int (σ.1 15)]
def G_fix (cI : ClassId) (η : Eg) (σ : Sg) : va_W := [(e_ad η 0, .inr (7, G_fs η σ)), (e_ad η 1, .inr (0, AL_fs η (σ.1 2) 0)), (e_ad η 2, .inr (0, AL_fs η (σ.1 22) 1)), (e_ad η 3, .inr (0, AL_fs η (σ.1 18) 2)), (e_ad η 4, .inl (cI, 4, .inl (σ.2 7))), (e_ad η 5, .inr (2, Ex_fs σ)), (e_ad η 6, .inr (3, Bk_fs σ))]
def d_cell (cO : ClassId) (η : Eg) (j : Nat) : va_W := if e_cp η j = 0 then [] else [(e_ad η (8 + j), .inl (cO, e_cp η j, .inr (.inr (.inr (.inr (e_rw η j))))))]
def b_cell (η : Eg) (σ : Sg) : va_W := match e_bu η with
  | none => []
  | some a => [(a, .inr (1, Bu_fs σ))]
def G_opt (cO : ClassId) (η : Eg) (σ : Sg) : va_W := d_cell cO η 0 ++ (d_cell cO η 1 ++ (d_cell cO η 2 ++ b_cell η σ))
def V_cells (η : Eg) (σ : Sg) : va_W := (List.range (ix (σ.1 2))).map (fun i => (e_aa η 0 i, .inr (6, V_fs σ i)))
def Mv_cells (η : Eg) (σ : Sg) : va_W := (List.range (ix (σ.1 22))).map (fun i => (e_aa η 1 i, .inr (5, Mv_fs η σ i)))
def L_cells (η : Eg) (σ : Sg) : va_W := (List.range (ix (σ.1 18))).map (fun i => (e_aa η 2 i, .inr (4, L_fs σ i)))
def G_W (cI cO : ClassId) (η : Eg) (σ : Sg) : va_W := G_fix cI η σ ++ (G_opt cO η σ ++ (V_cells η σ ++ (Mv_cells η σ ++ L_cells η σ)))
theorem app_get (a b : va_W) (k : Nat) : (a ++ b)[a.length + k]? = b[k]? := by rw [List.getElem?_append_right (Nat.le_add_right _ _), Nat.add_sub_cancel_left]
theorem app_getl (a b : va_W) {k : Nat} (h : k < a.length) : (a ++ b)[k]? = a[k]? := List.getElem?_append_left h
theorem app_set (a b : va_W) (k : Nat) (x : Nat × va_E) : (a ++ b).set (a.length + k) x = a ++ b.set k x := by rw [List.set_append_right _ _ (Nat.le_add_right _ _), Nat.add_sub_cancel_left]
theorem app_setl (a b : va_W) {k : Nat} (h : k < a.length) (x : Nat × va_E) : (a ++ b).set k x = a.set k x ++ b := List.set_append_left _ _ h
theorem mapr_get (n : Nat) (f : Nat → Nat × va_E) {i : Nat} (h : i < n) : ((List.range n).map f)[i]? = some (f i) := by
  rw [List.getElem?_map, List.getElem?_range h]; rfl
theorem mapr_set (n : Nat) (f : Nat → Nat × va_E) (i : Nat) (x : Nat × va_E) : ((List.range n).map f).set i x = (List.range n).map (fun j => if j = i then x else f j) := by
  apply List.ext_getElem?
  intro j
  rw [List.getElem?_set, List.getElem?_map, List.getElem?_map]
  by_cases hj : j < n
  · rw [List.getElem?_range hj]
    by_cases e : i = j
    · subst e; simp [hj]
    · rw [if_neg e]
      simp
      exact fun h => absurd h.symm e
  · have hn : (List.range n)[j]? = none := by rw [List.getElem?_eq_none_iff, List.length_range]; omega
    rw [hn]
    by_cases e : i = j
    · subst e; simp [hj]
    · rw [if_neg e]; rfl
def pV (cO : ClassId) (η : Eg) (σ : Sg) (i : Nat) : Nat := 7 + ((G_opt cO η σ).length + i)
def pM (cO : ClassId) (η : Eg) (σ : Sg) (i : Nat) : Nat := 7 + ((G_opt cO η σ).length + (ix (σ.1 2) + i))
def pL (cO : ClassId) (η : Eg) (σ : Sg) (i : Nat) : Nat := 7 + ((G_opt cO η σ).length + (ix (σ.1 2) + (ix (σ.1 22) + i)))
theorem V_get {cI cO : ClassId} {η : Eg} {σ : Sg} {i : Nat} (h : i < ix (σ.1 2)) : (G_W cI cO η σ)[pV cO η σ i]? = some (e_aa η 0 i, .inr (6, V_fs σ i)) := by
  show (G_fix cI η σ ++ _)[(G_fix cI η σ).length + ((G_opt cO η σ).length + i)]? = _
  rw [app_get, app_get, app_getl _ _ (by rw [V_cells, List.length_map, List.length_range]; exact h)]
  exact mapr_get _ _ h
theorem Mv_get {cI cO : ClassId} {η : Eg} {σ : Sg} {i : Nat} (h : i < ix (σ.1 22)) : (G_W cI cO η σ)[pM cO η σ i]? = some (e_aa η 1 i, .inr (5, Mv_fs η σ i)) := by
  have hl : (V_cells η σ).length = ix (σ.1 2) := by rw [V_cells, List.length_map, List.length_range]
  show (G_fix cI η σ ++ _)[(G_fix cI η σ).length + ((G_opt cO η σ).length + (ix (σ.1 2) + i))]? = _
  rw [app_get, app_get, ← hl, app_get, app_getl _ _ (by rw [Mv_cells, List.length_map, List.length_range]; exact h)]
  exact mapr_get _ _ h
theorem L_get {cI cO : ClassId} {η : Eg} {σ : Sg} {i : Nat} (h : i < ix (σ.1 18)) : (G_W cI cO η σ)[pL cO η σ i]? = some (e_aa η 2 i, .inr (4, L_fs σ i)) := by
  have hl : (V_cells η σ).length = ix (σ.1 2) := by rw [V_cells, List.length_map, List.length_range]
  have hm : (Mv_cells η σ).length = ix (σ.1 22) := by rw [Mv_cells, List.length_map, List.length_range]
  show (G_fix cI η σ ++ _)[(G_fix cI η σ).length + ((G_opt cO η σ).length + (ix (σ.1 2) + (ix (σ.1 22) + i)))]? = _
  rw [app_get, app_get, ← hl, app_get, ← hm, app_get]
  exact mapr_get _ _ h
theorem V_set {cI cO : ClassId} {η : Eg} {σ : Sg} {i : Nat} (h : i < ix (σ.1 2)) (v d : Int32) : (G_W cI cO η σ).set (pV cO η σ i) (e_aa η 0 i, .inr (6, [.int (σ.2 3 i), .int (σ.2 4 i), .int v, .int d])) = G_W cI cO η (bs (bs σ 5 i v) 6 i d) := by
  show (G_fix cI η σ ++ _).set ((G_fix cI η σ).length + ((G_opt cO η σ).length + i)) _ = _
  rw [app_set, app_set, app_setl _ _ (by rw [V_cells, List.length_map, List.length_range]; exact h), V_cells, mapr_set]
  show _ = G_fix cI η σ ++ (G_opt cO η σ ++ (V_cells η (bs (bs σ 5 i v) 6 i d) ++ (Mv_cells η σ ++ L_cells η σ)))
  congr 3
  rw [V_cells]
  show _ = List.map _ (List.range (ix (σ.1 2)))
  congr 1
  funext j
  by_cases e : j = i
  · subst e
    rw [if_pos rfl]
    show (_, Sum.inr (6, [_, _, _, _])) = (_, Sum.inr (6, [Value.int (σ.2 3 j), Value.int (σ.2 4 j), Value.int (upd (σ.2 5) j v j), Value.int (upd (σ.2 6) j d j)]))
    rw [pk_us, pk_us]
  · rw [if_neg e]
    show (_, Sum.inr (6, V_fs σ j)) = (_, Sum.inr (6, [Value.int (σ.2 3 j), Value.int (σ.2 4 j), Value.int (upd (σ.2 5) i v j), Value.int (upd (σ.2 6) i d j)]))
    rw [pk_un e, pk_un e]
    rfl
theorem Mv_set {cI cO : ClassId} {η : Eg} {σ : Sg} {i : Nat} (h : i < ix (σ.1 22)) (v : Int32) : (G_W cI cO η σ).set (pM cO η σ i) (e_aa η 1 i, .inr (5, [.ref (e_aa η 0 (ix (σ.2 24 i))), .int (σ.2 25 i), .int (σ.2 26 i), .int (σ.2 27 i), .int v])) = G_W cI cO η (bs σ 23 i v) := by
  have hl : (V_cells η σ).length = ix (σ.1 2) := by rw [V_cells, List.length_map, List.length_range]
  show (G_fix cI η σ ++ _).set ((G_fix cI η σ).length + ((G_opt cO η σ).length + (ix (σ.1 2) + i))) _ = _
  rw [app_set, app_set, ← hl, app_set, app_setl _ _ (by rw [Mv_cells, List.length_map, List.length_range]; exact h), Mv_cells, mapr_set]
  show _ = G_fix cI η σ ++ (G_opt cO η σ ++ (V_cells η σ ++ (Mv_cells η (bs σ 23 i v) ++ L_cells η σ)))
  congr 4
  rw [Mv_cells]
  show _ = List.map _ (List.range (ix (σ.1 22)))
  congr 1
  funext j
  by_cases e : j = i
  · subst e
    rw [if_pos rfl]
    show (_, Sum.inr (5, [_, _, _, _, _])) = (_, Sum.inr (5, [Value.ref (e_aa η 0 (ix (σ.2 24 j))), Value.int (σ.2 25 j), Value.int (σ.2 26 j), Value.int (σ.2 27 j), Value.int (upd (σ.2 23) j v j)]))
    rw [pk_us]
  · rw [if_neg e]
    show (_, Sum.inr (5, Mv_fs η σ j)) = (_, Sum.inr (5, [Value.ref (e_aa η 0 (ix (σ.2 24 j))), Value.int (σ.2 25 j), Value.int (σ.2 26 j), Value.int (σ.2 27 j), Value.int (upd (σ.2 23) i v j)]))
    rw [pk_un e]
    rfl
theorem L_set {cI cO : ClassId} {η : Eg} {σ : Sg} {i : Nat} (h : i < ix (σ.1 18)) (d m : Int32) : (G_W cI cO η σ).set (pL cO η σ i) (e_aa η 2 i, .inr (4, [.int d, .int m])) = G_W cI cO η (bs (bs σ 19 i d) 20 i m) := by
  have hl : (V_cells η σ).length = ix (σ.1 2) := by rw [V_cells, List.length_map, List.length_range]
  have hm : (Mv_cells η σ).length = ix (σ.1 22) := by rw [Mv_cells, List.length_map, List.length_range]
  show (G_fix cI η σ ++ _).set ((G_fix cI η σ).length + ((G_opt cO η σ).length + (ix (σ.1 2) + (ix (σ.1 22) + i)))) _ = _
  rw [app_set, app_set, ← hl, app_set, ← hm, app_set, L_cells, mapr_set]
  show _ = G_fix cI η σ ++ (G_opt cO η σ ++ (V_cells η σ ++ (Mv_cells η σ ++ L_cells η (bs (bs σ 19 i d) 20 i m))))
  congr 4
  rw [L_cells]
  show _ = List.map _ (List.range (ix (σ.1 18)))
  congr 1
  funext j
  by_cases e : j = i
  · subst e
    rw [if_pos rfl]
    show (_, Sum.inr (4, [_, _])) = (_, Sum.inr (4, [Value.int (upd (σ.2 19) j d j), Value.int (upd (σ.2 20) j m j)]))
    rw [pk_us, pk_us]
  · rw [if_neg e]
    show (_, Sum.inr (4, L_fs σ j)) = (_, Sum.inr (4, [Value.int (upd (σ.2 19) i d j), Value.int (upd (σ.2 20) i m j)]))
    rw [pk_un e, pk_un e]
    rfl
/-! the fixed cells' sets -/
theorem G_s7 {cI cO : ClassId} {η : Eg} {σ : Sg} {v : Int32} : (G_W cI cO η σ).set 0 (e_ad η 0, .inr (7, (G_fs η σ).set 7 (.int v))) = G_W cI cO η (zs σ 1 v) := rfl
theorem G_s8 {cI cO : ClassId} {η : Eg} {σ : Sg} {v : Int32} : (G_W cI cO η σ).set 0 (e_ad η 0, .inr (7, (G_fs η σ).set 8 (.int v))) = G_W cI cO η (zs σ 8 v) := rfl
theorem G_s9 {cI cO : ClassId} {η : Eg} {σ : Sg} {v : Int32} : (G_W cI cO η σ).set 0 (e_ad η 0, .inr (7, (G_fs η σ).set 9 (.int v))) = G_W cI cO η (zs σ 9 v) := rfl
theorem G_s10 {cI cO : ClassId} {η : Eg} {σ : Sg} {v : Int32} : (G_W cI cO η σ).set 0 (e_ad η 0, .inr (7, (G_fs η σ).set 10 (.int v))) = G_W cI cO η (zs σ 17 v) := rfl
theorem G_s11 {cI cO : ClassId} {η : Eg} {σ : Sg} {v : Int32} : (G_W cI cO η σ).set 0 (e_ad η 0, .inr (7, (G_fs η σ).set 11 (.int v))) = G_W cI cO η (zs σ 21 v) := rfl
theorem Sr_set {cI cO : ClassId} {η : Eg} {σ : Sg} {i : Nat} {v : Int32} : (G_W cI cO η σ).set 4 (e_ad η 4, .inl (cI, 4, .inl (upd (σ.2 7) i v))) = G_W cI cO η (bs σ 7 i v) := rfl
theorem Ex_s0 {cI cO : ClassId} {η : Eg} {σ : Sg} {v : Int32} : (G_W cI cO η σ).set 5 (e_ad η 5, .inr (2, (Ex_fs σ).set 0 (.int v))) = G_W cI cO η (zs σ 11 v) := rfl
theorem Ex_s1 {cI cO : ClassId} {η : Eg} {σ : Sg} {v : Int32} : (G_W cI cO η σ).set 5 (e_ad η 5, .inr (2, (Ex_fs σ).set 1 (.int v))) = G_W cI cO η (zs σ 12 v) := rfl
theorem Ex_o {cI cO : ClassId} {η : Eg} {σ : Sg} {v : Int32} : (G_W cI cO η σ).set 5 (e_ad η 5, .inr (2, [.int (σ.1 11), .int v, .int (1000000 - σ.1 16)])) = G_W cI cO η (zs σ 12 v) := rfl
theorem sub_sub_i (a b : Int32) : a - (a - b) = b := by
  apply Int32.toBitVec_inj.mp
  rw [Int32.toBitVec_sub, Int32.toBitVec_sub]
  bv_omega
theorem Ex_ol {cI cO : ClassId} {η : Eg} {σ : Sg} {v w : Int32} : (G_W cI cO η σ).set 5 (e_ad η 5, .inr (2, [.int (σ.1 11), .int v, .int w])) = G_W cI cO η (zs (zs σ 12 v) 16 (1000000 - w)) := by
  have e : w = 1000000 - (zs (zs σ 12 v) 16 (1000000 - w)).1 16 := (sub_sub_i 1000000 w).symm
  conv => lhs; rw [e]
  rfl
theorem Bk_s0 {cI cO : ClassId} {η : Eg} {σ : Sg} {v : Int32} : (G_W cI cO η σ).set 6 (e_ad η 6, .inr (3, (Bk_fs σ).set 0 (.int v))) = G_W cI cO η (bs σ 10 0 v) := rfl
theorem Bk_s1 {cI cO : ClassId} {η : Eg} {σ : Sg} {v : Int32} : (G_W cI cO η σ).set 6 (e_ad η 6, .inr (3, (Bk_fs σ).set 1 (.int v))) = G_W cI cO η (bs σ 10 4 v) := rfl
theorem Bk_s2 {cI cO : ClassId} {η : Eg} {σ : Sg} {v : Int32} : (G_W cI cO η σ).set 6 (e_ad η 6, .inr (3, (Bk_fs σ).set 2 (.int v))) = G_W cI cO η (bs σ 10 5 v) := rfl
theorem Bk_s3 {cI cO : ClassId} {η : Eg} {σ : Sg} {v : Int32} : (G_W cI cO η σ).set 6 (e_ad η 6, .inr (3, (Bk_fs σ).set 3 (.int v))) = G_W cI cO η (bs σ 10 6 v) := rfl
theorem Bk_s4 {cI cO : ClassId} {η : Eg} {σ : Sg} {v : Int32} : (G_W cI cO η σ).set 6 (e_ad η 6, .inr (3, (Bk_fs σ).set 4 (.int v))) = G_W cI cO η (bs σ 10 7 v) := rfl
/-! the lists' rows, the budget -/
def csl (j : Nat) : Nat := if j = 0 then 2 else if j = 1 then 22 else 18
def pD (cO : ClassId) (η : Eg) (j : Nat) : Nat := 7 + (if j = 0 then 0 else if j = 1 then (d_cell cO η 0).length else (d_cell cO η 0).length + (d_cell cO η 1).length)
theorem AL_get {cI cO : ClassId} {η : Eg} {σ : Sg} {j : Nat} (h : j < 3) : (G_W cI cO η σ)[1 + j]? = some (e_ad η (1 + j), .inr (0, AL_fs η (σ.1 (csl j)) j)) := by
  rcases (by omega : j = 0 ∨ j = 1 ∨ j = 2) with rfl | rfl | rfl <;> rfl
theorem D_get {cI cO : ClassId} {η : Eg} {σ : Sg} {j : Nat} (h : j < 3) (hc : ¬ e_cp η j = 0) : (G_W cI cO η σ)[pD cO η j]? = some (e_ad η (8 + j), .inl (cO, e_cp η j, .inr (.inr (.inr (.inr (e_rw η j)))))) := by
  have hd : d_cell cO η j = [(e_ad η (8 + j), .inl (cO, e_cp η j, .inr (.inr (.inr (.inr (e_rw η j))))))] := by rw [d_cell, if_neg hc]
  have h1 : (d_cell cO η j)[0]? = some (e_ad η (8 + j), .inl (cO, e_cp η j, .inr (.inr (.inr (.inr (e_rw η j)))))) := by rw [hd]; rfl
  have h0 : 0 < (d_cell cO η j).length := by rw [hd]; exact Nat.one_pos
  rcases (by omega : j = 0 ∨ j = 1 ∨ j = 2) with rfl | rfl | rfl
  · show (G_fix cI η σ ++ _)[(G_fix cI η σ).length + 0]? = _
    rw [app_get, G_opt, List.append_assoc, app_getl _ _ h0, h1]
  · show (G_fix cI η σ ++ _)[(G_fix cI η σ).length + (d_cell cO η 0).length]? = _
    rw [app_get, G_opt, List.append_assoc, show (d_cell cO η 0).length = (d_cell cO η 0).length + 0 from rfl, app_get, List.append_assoc, app_getl _ _ h0, h1]
  · show (G_fix cI η σ ++ _)[(G_fix cI η σ).length + ((d_cell cO η 0).length + (d_cell cO η 1).length)]? = _
    rw [app_get, G_opt, List.append_assoc, app_get, List.append_assoc, show (d_cell cO η 1).length = (d_cell cO η 1).length + 0 from rfl, app_get, List.append_assoc, app_getl _ _ h0, h1]
def pB (cO : ClassId) (η : Eg) : Nat := 7 + ((d_cell cO η 0).length + ((d_cell cO η 1).length + ((d_cell cO η 2).length + 0)))
theorem B_get {cI cO : ClassId} {η : Eg} {σ : Sg} {a : Nat} (h : e_bu η = some a) : (G_W cI cO η σ)[pB cO η]? = some (a, .inr (1, Bu_fs σ)) := by
  have hb : b_cell η σ = [(a, .inr (1, Bu_fs σ))] := by rw [b_cell, h]
  have h0 : 0 < (b_cell η σ).length := by rw [hb]; exact Nat.one_pos
  show (G_fix cI η σ ++ _)[(G_fix cI η σ).length + ((d_cell cO η 0).length + ((d_cell cO η 1).length + ((d_cell cO η 2).length + 0)))]? = _
  rw [app_get, G_opt, List.append_assoc, app_get, List.append_assoc, app_get, List.append_assoc, app_get, app_getl _ _ h0, hb]
  rfl
theorem B_set {cI cO : ClassId} {η : Eg} {σ : Sg} {a : Nat} {v : Int32} (h : e_bu η = some a) : (G_W cI cO η σ).set (pB cO η) (a, .inr (1, (Bu_fs σ).set 2 (.int v))) = G_W cI cO η (zs σ 15 v) := by
  have hb : b_cell η σ = [(a, .inr (1, Bu_fs σ))] := by rw [b_cell, h]
  have hb2 : b_cell η (zs σ 15 v) = [(a, .inr (1, (Bu_fs σ).set 2 (.int v)))] := by rw [b_cell, h]; rfl
  show (G_fix cI η σ ++ _).set ((G_fix cI η σ).length + ((d_cell cO η 0).length + ((d_cell cO η 1).length + ((d_cell cO η 2).length + 0)))) _ = G_fix cI η σ ++ (G_opt cO η (zs σ 15 v) ++ (V_cells η σ ++ (Mv_cells η σ ++ L_cells η σ)))
  rw [app_set, G_opt, G_opt, List.append_assoc, app_set, List.append_assoc, app_set, List.append_assoc, app_set, hb, hb2]
  simp only [List.append_assoc]
  rfl
