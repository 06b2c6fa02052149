/-! ===== a new object in a list ===== -/
theorem perm_in {α : Type} (x L : α) (A B dj E C F : List α) : (L :: (dj ++ (x :: (A ++ (B ++ (E ++ (C ++ F))))))).Perm (x :: (A ++ L :: (B ++ (dj ++ (E ++ (C ++ F)))))) := by
  classical
  refine List.perm_iff_count.mpr (fun y => ?_)
  simp only [List.count_append, List.count_cons]
  omega
theorem perm_out {α : Type} (x L : α) (A B dj E C F : List α) : (A ++ L :: (B ++ (dj ++ (E ++ ((C ++ [x]) ++ F))))).Perm (L :: (dj ++ (x :: (A ++ (B ++ (E ++ (C ++ F))))))) := by
  classical
  refine List.perm_iff_count.mpr (fun y => ?_)
  simp only [List.count_append, List.count_cons, List.count_nil]
  omega
theorem cnt_s {x : Int32} (h : x = nI (ix x)) : x + 1 = nI (ix x + 1) := by rw [nI_succ, ← h]
def η_up (η : Eg) (j n v ad8 cap : Nat) (rows : Nat → Option Nat) : Eg :=
  (fun i => if i = 8 + j then ad8 else e_ad η i, fun a i => if a = j then (if i = n then v else e_aa η a i) else e_aa η a i, fun a => if a = j then cap else e_cp η a, fun a => if a = j then e_mc η j + 1 else e_mc η a, fun a => if a = j then rows else e_rw η a, e_bu η)
theorem up_aa {η : Eg} {j n v ad8 cap : Nat} {rows : Nat → Option Nat} {i : Nat} (h : i ≠ n) (a : Nat) : e_aa (η_up η j n v ad8 cap rows) a i = e_aa η a i := by
  show (if a = j then (if i = n then v else e_aa η a i) else e_aa η a i) = _
  rw [if_neg h]
  split <;> rfl
theorem up_aan {η : Eg} {j n v ad8 cap : Nat} {rows : Nat → Option Nat} : e_aa (η_up η j n v ad8 cap rows) j n = v := by
  show (if j = j then (if n = n then v else _) else _) = _
  rw [if_pos rfl, if_pos rfl]
theorem d_cell_ne {cO : ClassId} {η : Eg} {j : Nat} (h : e_cp η j ≠ 0) : d_cell cO η j = [(e_ad η (8 + j), ArO cO (e_cp η j) (e_rw η j))] := by rw [d_cell, if_neg h]
theorem d_cell_0 {cO : ClassId} {η : Eg} {j : Nat} (h : e_cp η j = 0) : d_cell cO η j = [] := by rw [d_cell, if_pos h]
theorem up_lok {η : Eg} {σ τ : Sg} {j v ad8 cap : Nat} {rows : Nat → Option Nat} (hL : Lok η σ j) (h99 : ix (σ.1 (csl j)) ≤ 99) (hc : ix (σ.1 (csl j)) + 1 ≤ cap ∧ cap ≤ 200) (hτ : τ.1 (csl j) = σ.1 (csl j) + 1) (hr : ∀ i, i < ix (σ.1 (csl j)) → rows i = e_rw η j i) (hrn : rows (ix (σ.1 (csl j))) = some v) : Lok (η_up η j (ix (σ.1 (csl j))) v ad8 cap rows) τ j := by
  obtain ⟨q1, q2, q3, q4, q5⟩ := hL
  have e : τ.1 (csl j) = nI (ix (σ.1 (csl j)) + 1) := by
    rw [hτ, nI_succ, ← q1]
  have e2 : ix (τ.1 (csl j)) = ix (σ.1 (csl j)) + 1 := by rw [e]; exact nI_clamp (by omega)
  have ec : e_cp (η_up η j (ix (σ.1 (csl j))) v ad8 cap rows) j = cap := if_pos rfl
  have er : e_rw (η_up η j (ix (σ.1 (csl j))) v ad8 cap rows) j = rows := if_pos rfl
  refine ⟨by rw [e2]; exact e, by omega, by rw [e2, ec]; exact hc.1, by rw [ec]; exact hc.2, fun i hi => ?_⟩
  rw [e2] at hi
  rw [er]
  by_cases h : i = ix (σ.1 (csl j))
  · subst h; rw [hrn, up_aan]
  · rw [hr i (by omega), up_aa h, q5 i (by omega)]
theorem up_lokO {η : Eg} {σ τ : Sg} {j j' n v ad8 cap : Nat} {rows : Nat → Option Nat} (hL : Lok η σ j') (hj : j' ≠ j) (hτ : τ.1 (csl j') = σ.1 (csl j')) : Lok (η_up η j n v ad8 cap rows) τ j' := by
  obtain ⟨q1, q2, q3, q4, q5⟩ := hL
  have ec : e_cp (η_up η j n v ad8 cap rows) j' = e_cp η j' := if_neg hj
  have er : e_rw (η_up η j n v ad8 cap rows) j' = e_rw η j' := if_neg hj
  refine ⟨by rw [hτ]; exact q1, by rw [hτ]; exact q2, by rw [hτ, ec]; exact q3, by rw [ec]; exact q4, fun i hi => ?_⟩
  rw [hτ] at hi
  rw [er, q5 i hi]
  show some _ = some (if j' = j then _ else _)
  rw [if_neg hj]
theorem El.of {wc : va_W} {y ci : Nat} {fs : List Value} (h : (y, (.inr (ci, fs) : va_E)) ∈ wc) (hc : ci = 4 ∨ ci = 5 ∨ ci = 6) : El wc y := by
  obtain ⟨k, hk⟩ := List.mem_iff_getElem?.mp h
  exact ⟨k, ci, fs, hk, hc⟩
theorem mapr_succ (n : Nat) (f g : Nat → Nat × va_E) (x : Nat × va_E) (h : ∀ i, i < n → g i = f i) (hx : g n = x) : (List.range (n + 1)).map g = (List.range n).map f ++ [x] := by
  rw [List.range_succ, List.map_append, List.map_singleton, hx]
  congr 1
  exact List.map_congr_left (fun i hi => h i (List.mem_range.mp hi))
section NEW
variable {p : Program} {l : Launch} {e : Env} {R : Room} {s : State} {m : MethodId} {args : Array Value} {below : List Frame} {meth : Method} {c : Code} {H : Heap} {locs : List Loc} {cells slots : Nat} {Q : State → Prop} {cc : ByteArray} {pc : Nat} {ls : Array Slot} {rest : List Value} {Ts : List Cond} {nL : Nat} {D : va_G} {A : Nat → Prop} {ret : Option FieldType} {cI cO : ClassId} {t0 : Nat} {own : String} {wc : va_W} {tys : List (ClassId × FieldType)}
theorem x_newC (C : Cx own p s m args meth c cc nL Ts ret) (K : va_K D vwCl tys s) (P : Hp D A s wc H locs) {Cn : String} {T : u_T} {N ci index : Nat} (hc : vwCl[ci]? = some (Cn, T, N)) (hin : ∀ w ∈ u_ws Cn T N, w ∈ Ts) (ty : Nat → FieldType) (hty : ∀ k, k < N → parseFieldDescriptor (T k).2.2.1 = some (ty k)) (hlink : Cond.classLink own index Cn ∈ Ts) (hinst : Cond.instantiable Cn N ∈ Ts) (hini : Cond.initialized Cn ∈ Ts) (fs : List Value) (hfs : ∀ j, j < N → defaultValue (ty j) = vp_V fs j) (hce : cells + 1 ≤ R.cells) (hsl : slots + N ≤ R.slots) (d : decode cc pc = .ok (.new index, 3))
    (kk : ∀ (q : Nat) (H : Heap), Hp D A s ((q, .inr (ci, fs)) :: wc) H locs → W p l e R s m args below meth c H locs (cells + 1) (slots + N) Q (F0 m (pc + 3) ls (.ref q :: rest))) : W p l e R s m args below meth c H locs cells slots Q (F0 m pc ls rest) := by
  refine va_new C.1 C.2.1 C.2.2.2.2.1 hin ty hty C.2.2.2.1 (C.2.2.2.2.1 _ hlink) (C.2.2.2.2.1 _ hinst) (C.2.2.2.2.1 _ hini) K P.1 P.2.1 P.2.2.1 P.2.2.2 hc hfs hce hsl d (fun q H1 h1 h2 h3 => ?_)
  exact kk q H1 (Hp.perm (⟨h1, h2, h3, P.2.2.2⟩ : Hp D A s _ H1 locs) (List.perm_append_singleton _ _).symm)
end NEW
def S_add0 (σ : Sg) (p c : Int32) : Sg := zs (bs (bs (bs (bs σ 3 (ix (σ.1 2)) p) 4 (ix (σ.1 2)) c) 5 (ix (σ.1 2)) 0) 6 (ix (σ.1 2)) 0) 2 (σ.1 2 + 1)
theorem G_split0 (cI cO : ClassId) (η : Eg) (σ : Sg) : G_W cI cO η σ = [(e_ad η 0, (.inr (7, G_fs η σ) : va_E))] ++ (e_ad η 1, (.inr (0, AL_fs η (σ.1 2) 0) : va_E)) :: ([(e_ad η 2, (.inr (0, AL_fs η (σ.1 22) 1) : va_E)), (e_ad η 3, (.inr (0, AL_fs η (σ.1 18) 2) : va_E)), (e_ad η 4, (.inl (cI, 4, .inl (σ.2 7)) : va_E)), (e_ad η 5, (.inr (2, Ex_fs σ) : va_E)), (e_ad η 6, (.inr (3, Bk_fs σ) : va_E))] ++ (d_cell cO η 0 ++ ((d_cell cO η 1 ++ (d_cell cO η 2 ++ b_cell η σ)) ++ (V_cells η σ ++ (Mv_cells η σ ++ L_cells η σ))))) := by
  simp only [G_W, G_opt, G_fix, List.append_assoc, List.cons_append, List.nil_append, List.append_nil]
theorem up_A0 (cI : ClassId) (η : Eg) (σ : Sg) (p c : Int32) (v ad8 cap : Nat) (rows : Nat → Option Nat) : [(e_ad (η_up η 0 (ix (σ.1 2)) v ad8 cap rows) 0, (.inr (7, G_fs (η_up η 0 (ix (σ.1 2)) v ad8 cap rows) (S_add0 σ p c)) : va_E))] = [(e_ad η 0, (.inr (7, G_fs η σ) : va_E))] := rfl
theorem up_B0 (cI cO : ClassId) (η : Eg) (σ : Sg) (p c : Int32) (v ad8 cap : Nat) (rows : Nat → Option Nat) : [(e_ad (η_up η 0 (ix (σ.1 2)) v ad8 cap rows) 2, (.inr (0, AL_fs (η_up η 0 (ix (σ.1 2)) v ad8 cap rows) ((S_add0 σ p c).1 22) 1) : va_E)), (e_ad (η_up η 0 (ix (σ.1 2)) v ad8 cap rows) 3, (.inr (0, AL_fs (η_up η 0 (ix (σ.1 2)) v ad8 cap rows) ((S_add0 σ p c).1 18) 2) : va_E)), (e_ad (η_up η 0 (ix (σ.1 2)) v ad8 cap rows) 4, (.inl (cI, 4, .inl ((S_add0 σ p c).2 7)) : va_E)), (e_ad (η_up η 0 (ix (σ.1 2)) v ad8 cap rows) 5, (.inr (2, Ex_fs (S_add0 σ p c)) : va_E)), (e_ad (η_up η 0 (ix (σ.1 2)) v ad8 cap rows) 6, (.inr (3, Bk_fs (S_add0 σ p c)) : va_E))] = [(e_ad η 2, (.inr (0, AL_fs η (σ.1 22) 1) : va_E)), (e_ad η 3, (.inr (0, AL_fs η (σ.1 18) 2) : va_E)), (e_ad η 4, (.inl (cI, 4, .inl (σ.2 7)) : va_E)), (e_ad η 5, (.inr (2, Ex_fs σ) : va_E)), (e_ad η 6, (.inr (3, Bk_fs σ) : va_E))] := rfl
theorem up_C0 {t0 : Nat} {η : Eg} {σ : Sg} (p c : Int32) (hG : Gok t0 η σ) (v ad8 cap : Nat) (rows : Nat → Option Nat) : V_cells (η_up η 0 (ix (σ.1 2)) v ad8 cap rows) (S_add0 σ p c) = V_cells η σ ++ [(v, (.inr (6, [.int p, .int c, .int 0, .int 0]) : va_E))] := by
  have hc : Cnt σ 2 10 := hG.1
  have e2 : ix ((S_add0 σ p c).1 2) = ix (σ.1 2) + 1 := by
    show ix (σ.1 2 + 1) = _
    conv => lhs; rw [hc.1]
    rw [← nI_succ]
    exact nI_clamp (by have := hc.2; omega)
  rw [V_cells, V_cells, e2]
  refine mapr_succ _ _ _ _ (fun i hi => ?_) ?_
  · have hne : i ≠ ix (σ.1 2) := Nat.ne_of_lt hi
    show (e_aa _ 0 i, Sum.inr (6, [Value.int (upd (σ.2 3) _ _ i), Value.int (upd (σ.2 4) _ _ i), Value.int (upd (σ.2 5) _ _ i), Value.int (upd (σ.2 6) _ _ i)])) = _
    rw [up_aa hne, pk_un hne, pk_un hne, pk_un hne, pk_un hne]
    rfl
  · show (e_aa _ 0 _, Sum.inr (6, [Value.int (upd (σ.2 3) _ _ _), Value.int (upd (σ.2 4) _ _ _), Value.int (upd (σ.2 5) _ _ _), Value.int (upd (σ.2 6) _ _ _)])) = _
    rw [up_aan, pk_us, pk_us, pk_us, pk_us]
theorem up_F0 {t0 : Nat} {η : Eg} {σ : Sg} (p c : Int32) (hG : Gok t0 η σ) (v ad8 cap : Nat) (rows : Nat → Option Nat) : (Mv_cells (η_up η 0 (ix (σ.1 2)) v ad8 cap rows) (S_add0 σ p c) ++ L_cells (η_up η 0 (ix (σ.1 2)) v ad8 cap rows) (S_add0 σ p c)) = (Mv_cells η σ ++ L_cells η σ) := by
  show List.map _ (List.range (ix (σ.1 22))) ++ _ = List.map _ (List.range (ix (σ.1 22))) ++ _
  congr 1
  refine List.map_congr_left (fun i hi => ?_)
  have h := hG.2.2.2.2.2 i (List.mem_range.mp hi)
  show (e_aa η 1 i, Sum.inr (5, [Value.ref (e_aa (η_up η 0 (ix (σ.1 2)) v ad8 cap rows) 0 (ix (σ.2 24 i))), _, _, _, _])) = _
  rw [up_aa (Nat.ne_of_lt h)]
  rfl
theorem up_E0 (cO : ClassId) (η : Eg) (σ : Sg) (p c : Int32) (v ad8 cap : Nat) (rows : Nat → Option Nat) : (d_cell cO (η_up η 0 (ix (σ.1 2)) v ad8 cap rows) 1 ++ (d_cell cO (η_up η 0 (ix (σ.1 2)) v ad8 cap rows) 2 ++ b_cell (η_up η 0 (ix (σ.1 2)) v ad8 cap rows) (S_add0 σ p c))) = (d_cell cO η 1 ++ (d_cell cO η 2 ++ b_cell η σ)) := rfl
theorem up_W0 {D : va_G} {A : Nat → Prop} {s : State} {H : Heap} {locs : List Loc} {cI cO : ClassId} {t0 : Nat} {η : Eg} {σ : Sg} (p c : Int32) (hG : Gok t0 η σ) (v ad8 cap : Nat) (rows : Nat → Option Nat) (hcap : cap ≠ 0)
    (P : Hp D A s ((e_ad η 1, Lc (e_mc η 0 + 1) ad8 (σ.1 2 + 1)) :: ([(ad8, ArO cO cap rows)] ++ ((v, (.inr (6, [.int p, .int c, .int 0, .int 0]) : va_E)) :: ([(e_ad η 0, (.inr (7, G_fs η σ) : va_E))] ++ ([(e_ad η 2, (.inr (0, AL_fs η (σ.1 22) 1) : va_E)), (e_ad η 3, (.inr (0, AL_fs η (σ.1 18) 2) : va_E)), (e_ad η 4, (.inl (cI, 4, .inl (σ.2 7)) : va_E)), (e_ad η 5, (.inr (2, Ex_fs σ) : va_E)), (e_ad η 6, (.inr (3, Bk_fs σ) : va_E))] ++ ((d_cell cO η 1 ++ (d_cell cO η 2 ++ b_cell η σ)) ++ (V_cells η σ ++ (Mv_cells η σ ++ L_cells η σ)))))))) H locs) : Hp D A s (G_W cI cO (η_up η 0 (ix (σ.1 2)) v ad8 cap rows) (S_add0 σ p c)) H locs := by
  rw [G_split0, up_A0 cI η σ p c v ad8 cap rows, up_B0 cI cO η σ p c v ad8 cap rows, up_E0 cO η σ p c v ad8 cap rows, up_C0 p c hG v ad8 cap rows, up_F0 p c hG v ad8 cap rows, d_cell_ne (η := (η_up η 0 (ix (σ.1 2)) v ad8 cap rows)) (j := 0) hcap]
  exact P.perm (perm_out _ _ _ _ _ _ _ _)
theorem up_G0 {t0 : Nat} {η : Eg} {σ : Sg} (p c : Int32) (hG : Gok t0 η σ) (v ad8 cap : Nat) (rows : Nat → Option Nat) (hn : ix (σ.1 2) < 10) (hc : ix (σ.1 2) + 1 ≤ cap ∧ cap ≤ 200) (hr : ∀ i, i < ix (σ.1 2) → rows i = e_rw η 0 i) (hrn : rows (ix (σ.1 2)) = some v) : Gok t0 (η_up η 0 (ix (σ.1 2)) v ad8 cap rows) (S_add0 σ p c) := by
  obtain ⟨h1, h2, h3, h4, h5, h6⟩ := hG
  have hcn : Cnt σ 2 10 := h1
  have e1 : σ.1 2 + 1 = nI (ix (σ.1 2) + 1) := cnt_s hcn.1
  have e2 : ix ((S_add0 σ p c).1 2) = ix (σ.1 2) + 1 := by
    show ix (σ.1 2 + 1) = _
    rw [e1]
    exact nI_clamp (by omega)
  have hcc : Cnt (S_add0 σ p c) 2 10 := ⟨by rw [e2]; exact e1, by omega⟩
  refine ⟨hcc, h2, h3, h4, fun j hj => ?_, fun k hk => ?_⟩
  · rcases (by omega : j = 0 ∨ j = 1 ∨ j = 2) with rfl | rfl | rfl
    · exact ⟨up_lok (h5 0 (by decide)).1 (by show ix (σ.1 2) ≤ 99; omega) hc rfl hr hrn, fun e => absurd (show cap = 0 from e) (by omega)⟩
    · exact ⟨up_lokO (h5 1 (by decide)).1 (by decide) rfl, fun e => (h5 1 (by decide)).2 e⟩
    · exact ⟨up_lokO (h5 2 (by decide)).1 (by decide) rfl, fun e => (h5 2 (by decide)).2 e⟩
  · rw [e2]; exact Nat.lt_succ_of_lt (h6 k hk)
theorem G_add0 {p0 : Program} {l : Launch} {e : Env} {R : Room} {s : State} {m : MethodId} {args : Array Value} {below : List Frame} {meth : Method} {c0 : Code} {H : Heap} {locs : List Loc} {cells slots : Nat} {Q : State → Prop} {cc : ByteArray} {pc : Nat} {ls : Array Slot} {rest : List Value} {Ts : List Cond} {nL : Nat} {D : va_G} {A : Nat → Prop} {ret : Option FieldType} {cI cO : ClassId} {t0 : Nat} {η : Eg} {σ : Sg} (p c : Int32) {v index : Nat}
    (C : Cx RX6 p0 s m args meth c0 cc nL Ts ret) (V : EnvV s) (K : va_K D vwCl (tyG cI cO) s) (E9 : EnvH t0 A s s.heap) (hl : ls.size = nL) (P : Hp D A s ((v, (.inr (6, [.int p, .int c, .int 0, .int 0]) : va_E)) :: G_W cI cO η σ) H locs) (hG : Gok t0 η σ) (hn : ix (σ.1 2) < 10)
    (g : GoodIn Ts (wsV RX6 index RJx4a65c yJx4a65c_add_9ea2d wsJx4a65c_add_9ea2d)) (hR : 6 + 1 ≤ R.frames ∧ 8 + (2 + 11) + 134 ≤ R.locals) (hcat : (rest.map fun v => v.category).sum ≤ 8) (hz : cells + 1 ≤ R.cells ∧ slots + 200 ≤ R.slots) (d : decode cc pc = .ok (.invokevirtual index, 3))
    (kk : ∀ (η' : Eg) (H : Heap) (locs : List Loc), Hp D A s (G_W cI cO η' (S_add0 σ p c)) H locs → Gok t0 η' (S_add0 σ p c) → e_ad η' 0 = e_ad η 0 → e_ad η' 1 = e_ad η 1 → W p0 l e R s m args below meth c0 H locs (cells + 1) (slots + 200) Q (F0 m (pc + 3) ls (.int 1 :: rest))) : W p0 l e R s m args below meth c0 H locs cells slots Q (F0 m pc ls (.ref v :: .ref (e_ad η 1) :: rest)) := by
  have hcn : Cnt σ 2 10 := hG.1
  obtain ⟨⟨q1, q2, q3, q4, q5⟩, h0⟩ := hG.2.2.2.2.1 0 (by decide)
  have P := P
  rw [G_split0] at P
  have P := P.perm (perm_in _ _ _ _ _ _ _ _)
  have eL : (e_ad η 1, (.inr (0, AL_fs η (σ.1 2) 0) : va_E)) = (e_ad η 1, Lc (e_mc η 0) (e_ad η (8 + 0)) (nI (ix (σ.1 2)))) := by
    rw [← hcn.1]
    rfl
  rw [eL] at P
  have hk : Dk2 t0 cO (d_cell cO η 0 ++ ((v, (.inr (6, [.int p, .int c, .int 0, .int 0]) : va_E)) :: ([(e_ad η 0, (.inr (7, G_fs η σ) : va_E))] ++ ([(e_ad η 2, (.inr (0, AL_fs η (σ.1 22) 1) : va_E)), (e_ad η 3, (.inr (0, AL_fs η (σ.1 18) 2) : va_E)), (e_ad η 4, (.inl (cI, 4, .inl (σ.2 7)) : va_E)), (e_ad η 5, (.inr (2, Ex_fs σ) : va_E)), (e_ad η 6, (.inr (3, Bk_fs σ) : va_E))] ++ ((d_cell cO η 1 ++ (d_cell cO η 2 ++ b_cell η σ)) ++ (V_cells η σ ++ (Mv_cells η σ ++ L_cells η σ))))))) 0 (e_ad η (8 + 0)) (e_cp η 0) (e_rw η 0) := by
    by_cases z : e_cp η 0 = 0
    · exact Or.inl ⟨z, h0 z⟩
    · exact Or.inr ⟨z, by rw [d_cell_ne z]; rfl⟩
  refine J_callI (As := [.ref v]) C V K E9 hl P (va_recv K P.1 (ci := 0) (q0 := 0) rfl rfl) (kJx4a65c_add_9ea2d l D cI cO t0 _ 0 (e_ad η 1) (e_ad η (8 + 0)) (e_cp η 0) (ix (σ.1 2)) v (e_mc η 0) (e_rw η 0) hk q3 (by omega) q4 (fun i hi y hy => ?_) ?_) fnJx4a65c_add_9ea2d rfl g rfl rfl hR hcat hz d (fun q H locs P => ?_)
  · rw [q5 i hi] at hy
    cases hy
    refine El.of (ci := 6) (fs := V_fs σ i) ?_ (by decide)
    have hm : (e_aa η 0 i, (.inr (6, V_fs σ i) : va_E)) ∈ V_cells η σ := List.mem_map.mpr ⟨i, List.mem_range.mpr hi, rfl⟩
    exact List.mem_append_right _ (List.mem_cons_of_mem _ (List.mem_append_right _ (List.mem_append_right _ (List.mem_append_right _ (List.mem_append_left _ hm)))))
  · exact El.of (ci := 6) (fs := [.int p, .int c, .int 0, .int 0]) (List.mem_append_right _ List.mem_cons_self) (by decide)
  · have e1 : σ.1 2 + 1 = nI (ix (σ.1 2) + 1) := cnt_s hcn.1
    rw [add_W] at P
    by_cases z : ix (σ.1 2) = e_cp η 0
    · rw [if_pos z, ← e1] at P
      have gl := grw_le (cap := e_cp η 0) (by omega)
      have P := P.sub (ws' := (q, ArO cO (grw (e_cp η 0)) (va_up (va_cpy (e_rw η 0) (fun _ => none) 0 0 (e_cp η 0)) (ix (σ.1 2)) (some v))) :: (e_ad η 1, Lc (e_mc η 0 + 1) q (σ.1 2 + 1)) :: (v, (.inr (6, [.int p, .int c, .int 0, .int 0]) : va_E)) :: ([(e_ad η 0, (.inr (7, G_fs η σ) : va_E))] ++ ([(e_ad η 2, (.inr (0, AL_fs η (σ.1 22) 1) : va_E)), (e_ad η 3, (.inr (0, AL_fs η (σ.1 18) 2) : va_E)), (e_ad η 4, (.inl (cI, 4, .inl (σ.2 7)) : va_E)), (e_ad η 5, (.inr (2, Ex_fs σ) : va_E)), (e_ad η 6, (.inr (3, Bk_fs σ) : va_E))] ++ ((d_cell cO η 1 ++ (d_cell cO η 2 ++ b_cell η σ)) ++ (V_cells η σ ++ (Mv_cells η σ ++ L_cells η σ)))))) (List.Sublist.cons_cons _ (List.Sublist.cons_cons _ (List.sublist_append_right _ _)))
      have P := P.perm (List.Perm.swap _ _ _)
      refine kk (η_up η 0 (ix (σ.1 2)) v q (grw (e_cp η 0)) (va_up (va_cpy (e_rw η 0) (fun _ => none) 0 0 (e_cp η 0)) (ix (σ.1 2)) (some v))) H locs (up_W0 p c hG v q _ _ (by omega) P) (up_G0 p c hG v q _ _ hn (by omega) (fun i hi => ?_) (if_pos rfl)) rfl rfl
      show (if i = ix (σ.1 2) then some v else (if 0 ≤ i ∧ i < 0 + e_cp η 0 then e_rw η 0 (0 + (i - 0)) else none)) = _
      rw [if_neg (by omega), if_pos (by omega), Nat.sub_zero, Nat.zero_add]
    · rw [if_neg z, ← e1] at P
      have q3 : ix (σ.1 2) ≤ e_cp η 0 := q3
      have hcp : e_cp η 0 ≠ 0 := by omega
      rw [d_cell_ne hcp] at P
      refine kk (η_up η 0 (ix (σ.1 2)) v (e_ad η (8 + 0)) (e_cp η 0) (va_up (e_rw η 0) (ix (σ.1 2)) (some v))) H locs (up_W0 p c hG v _ _ _ hcp P) (up_G0 p c hG v _ _ _ hn (by omega) (fun i hi => if_neg (by omega)) (if_pos rfl)) rfl rfl
def S_add1 (σ : Sg) (w vo dr dy : Int32) : Sg := zs (bs (bs (bs (bs (bs σ 24 (ix (σ.1 22)) w) 25 (ix (σ.1 22)) vo) 26 (ix (σ.1 22)) dr) 27 (ix (σ.1 22)) dy) 23 (ix (σ.1 22)) 0) 22 (σ.1 22 + 1)
theorem G_split1 (cI cO : ClassId) (η : Eg) (σ : Sg) : G_W cI cO η σ = [(e_ad η 0, (.inr (7, G_fs η σ) : va_E)), (e_ad η 1, (.inr (0, AL_fs η (σ.1 2) 0) : va_E))] ++ (e_ad η 2, (.inr (0, AL_fs η (σ.1 22) 1) : va_E)) :: (([(e_ad η 3, (.inr (0, AL_fs η (σ.1 18) 2) : va_E)), (e_ad η 4, (.inl (cI, 4, .inl (σ.2 7)) : va_E)), (e_ad η 5, (.inr (2, Ex_fs σ) : va_E)), (e_ad η 6, (.inr (3, Bk_fs σ) : va_E))] ++ d_cell cO η 0) ++ (d_cell cO η 1 ++ (((d_cell cO η 2 ++ b_cell η σ) ++ V_cells η σ) ++ (Mv_cells η σ ++ L_cells η σ)))) := by
  simp only [G_W, G_opt, G_fix, List.append_assoc, List.cons_append, List.nil_append, List.append_nil]
theorem up_A1 (cI : ClassId) (η : Eg) (σ : Sg) (w vo dr dy : Int32) (v ad8 cap : Nat) (rows : Nat → Option Nat) : [(e_ad (η_up η 1 (ix (σ.1 22)) v ad8 cap rows) 0, (.inr (7, G_fs (η_up η 1 (ix (σ.1 22)) v ad8 cap rows) (S_add1 σ w vo dr dy)) : va_E)), (e_ad (η_up η 1 (ix (σ.1 22)) v ad8 cap rows) 1, (.inr (0, AL_fs (η_up η 1 (ix (σ.1 22)) v ad8 cap rows) ((S_add1 σ w vo dr dy).1 2) 0) : va_E))] = [(e_ad η 0, (.inr (7, G_fs η σ) : va_E)), (e_ad η 1, (.inr (0, AL_fs η (σ.1 2) 0) : va_E))] := rfl
theorem up_B1 (cI cO : ClassId) (η : Eg) (σ : Sg) (w vo dr dy : Int32) (v ad8 cap : Nat) (rows : Nat → Option Nat) : ([(e_ad (η_up η 1 (ix (σ.1 22)) v ad8 cap rows) 3, (.inr (0, AL_fs (η_up η 1 (ix (σ.1 22)) v ad8 cap rows) ((S_add1 σ w vo dr dy).1 18) 2) : va_E)), (e_ad (η_up η 1 (ix (σ.1 22)) v ad8 cap rows) 4, (.inl (cI, 4, .inl ((S_add1 σ w vo dr dy).2 7)) : va_E)), (e_ad (η_up η 1 (ix (σ.1 22)) v ad8 cap rows) 5, (.inr (2, Ex_fs (S_add1 σ w vo dr dy)) : va_E)), (e_ad (η_up η 1 (ix (σ.1 22)) v ad8 cap rows) 6, (.inr (3, Bk_fs (S_add1 σ w vo dr dy)) : va_E))] ++ d_cell cO (η_up η 1 (ix (σ.1 22)) v ad8 cap rows) 0) = ([(e_ad η 3, (.inr (0, AL_fs η (σ.1 18) 2) : va_E)), (e_ad η 4, (.inl (cI, 4, .inl (σ.2 7)) : va_E)), (e_ad η 5, (.inr (2, Ex_fs σ) : va_E)), (e_ad η 6, (.inr (3, Bk_fs σ) : va_E))] ++ d_cell cO η 0) := rfl
theorem up_C1 {t0 : Nat} {η : Eg} {σ : Sg} (w vo dr dy : Int32) (hG : Gok t0 η σ) (hw : ix w < ix (σ.1 2)) (v ad8 cap : Nat) (rows : Nat → Option Nat) : Mv_cells (η_up η 1 (ix (σ.1 22)) v ad8 cap rows) (S_add1 σ w vo dr dy) = Mv_cells η σ ++ [(v, (.inr (5, [.ref (e_aa η 0 (ix w)), .int vo, .int dr, .int dy, .int 0]) : va_E))] := by
  have hc : Cnt σ 22 30 := hG.2.1
  have e2 : ix ((S_add1 σ w vo dr dy).1 22) = ix (σ.1 22) + 1 := by
    show ix (σ.1 22 + 1) = _
    conv => lhs; rw [hc.1]
    rw [← nI_succ]
    exact nI_clamp (by have := hc.2; omega)
  rw [Mv_cells, Mv_cells, e2]
  refine mapr_succ _ _ _ _ (fun i hi => ?_) ?_
  · have hne : i ≠ ix (σ.1 22) := Nat.ne_of_lt hi
    show (e_aa _ 1 i, Sum.inr (5, [Value.ref (e_aa η 0 (ix (upd (σ.2 24) _ _ i))), Value.int (upd (σ.2 25) _ _ i), Value.int (upd (σ.2 26) _ _ i), Value.int (upd (σ.2 27) _ _ i), Value.int (upd (σ.2 23) _ _ i)])) = _
    rw [up_aa hne, pk_un hne, pk_un hne, pk_un hne, pk_un hne, pk_un hne]
    rfl
  · show (e_aa _ 1 _, Sum.inr (5, [Value.ref (e_aa η 0 (ix (upd (σ.2 24) _ _ _))), Value.int (upd (σ.2 25) _ _ _), Value.int (upd (σ.2 26) _ _ _), Value.int (upd (σ.2 27) _ _ _), Value.int (upd (σ.2 23) _ _ _)])) = _
    rw [up_aan, pk_us, pk_us, pk_us, pk_us, pk_us]
theorem up_E1 (cO : ClassId) (η : Eg) (σ : Sg) (w vo dr dy : Int32) (v ad8 cap : Nat) (rows : Nat → Option Nat) : ((d_cell cO (η_up η 1 (ix (σ.1 22)) v ad8 cap rows) 2 ++ b_cell (η_up η 1 (ix (σ.1 22)) v ad8 cap rows) (S_add1 σ w vo dr dy)) ++ V_cells (η_up η 1 (ix (σ.1 22)) v ad8 cap rows) (S_add1 σ w vo dr dy)) = ((d_cell cO η 2 ++ b_cell η σ) ++ V_cells η σ) := rfl
theorem up_F1 (cO : ClassId) (η : Eg) (σ : Sg) (w vo dr dy : Int32) (v ad8 cap : Nat) (rows : Nat → Option Nat) : L_cells (η_up η 1 (ix (σ.1 22)) v ad8 cap rows) (S_add1 σ w vo dr dy) = L_cells η σ := rfl
theorem up_W1 {D : va_G} {A : Nat → Prop} {s : State} {H : Heap} {locs : List Loc} {cI cO : ClassId} {t0 : Nat} {η : Eg} {σ : Sg} (w vo dr dy : Int32) (hG : Gok t0 η σ) (hw : ix w < ix (σ.1 2)) (v ad8 cap : Nat) (rows : Nat → Option Nat) (hcap : cap ≠ 0)
    (P : Hp D A s ((e_ad η 2, Lc (e_mc η 1 + 1) ad8 (σ.1 22 + 1)) :: ([(ad8, ArO cO cap rows)] ++ ((v, (.inr (5, [.ref (e_aa η 0 (ix w)), .int vo, .int dr, .int dy, .int 0]) : va_E)) :: ([(e_ad η 0, (.inr (7, G_fs η σ) : va_E)), (e_ad η 1, (.inr (0, AL_fs η (σ.1 2) 0) : va_E))] ++ (([(e_ad η 3, (.inr (0, AL_fs η (σ.1 18) 2) : va_E)), (e_ad η 4, (.inl (cI, 4, .inl (σ.2 7)) : va_E)), (e_ad η 5, (.inr (2, Ex_fs σ) : va_E)), (e_ad η 6, (.inr (3, Bk_fs σ) : va_E))] ++ d_cell cO η 0) ++ (((d_cell cO η 2 ++ b_cell η σ) ++ V_cells η σ) ++ (Mv_cells η σ ++ L_cells η σ))))))) H locs) : Hp D A s (G_W cI cO (η_up η 1 (ix (σ.1 22)) v ad8 cap rows) (S_add1 σ w vo dr dy)) H locs := by
  rw [G_split1, up_A1 cI η σ w vo dr dy v ad8 cap rows, up_B1 cI cO η σ w vo dr dy v ad8 cap rows, up_E1 cO η σ w vo dr dy v ad8 cap rows, up_C1 w vo dr dy hG hw v ad8 cap rows, up_F1 cO η σ w vo dr dy v ad8 cap rows, d_cell_ne (η := (η_up η 1 (ix (σ.1 22)) v ad8 cap rows)) (j := 1) hcap]
  exact P.perm (perm_out _ _ _ _ _ _ _ _)
theorem up_G1 {t0 : Nat} {η : Eg} {σ : Sg} (w vo dr dy : Int32) (hG : Gok t0 η σ) (hw : ix w < ix (σ.1 2)) (v ad8 cap : Nat) (rows : Nat → Option Nat) (hn : ix (σ.1 22) < 30) (hc : ix (σ.1 22) + 1 ≤ cap ∧ cap ≤ 200) (hr : ∀ i, i < ix (σ.1 22) → rows i = e_rw η 1 i) (hrn : rows (ix (σ.1 22)) = some v) : Gok t0 (η_up η 1 (ix (σ.1 22)) v ad8 cap rows) (S_add1 σ w vo dr dy) := by
  obtain ⟨h1, h2, h3, h4, h5, h6⟩ := hG
  have hcn : Cnt σ 22 30 := h2
  have e1 : σ.1 22 + 1 = nI (ix (σ.1 22) + 1) := cnt_s hcn.1
  have e2 : ix ((S_add1 σ w vo dr dy).1 22) = ix (σ.1 22) + 1 := by
    show ix (σ.1 22 + 1) = _
    rw [e1]
    exact nI_clamp (by omega)
  have hcc : Cnt (S_add1 σ w vo dr dy) 22 30 := ⟨by rw [e2]; exact e1, by omega⟩
  refine ⟨h1, hcc, h3, h4, fun j hj => ?_, fun k hk => ?_⟩
  · rcases (by omega : j = 0 ∨ j = 1 ∨ j = 2) with rfl | rfl | rfl
    · exact ⟨up_lokO (h5 0 (by decide)).1 (by decide) rfl, fun e => (h5 0 (by decide)).2 e⟩
    · exact ⟨up_lok (h5 1 (by decide)).1 (by show ix (σ.1 22) ≤ 99; omega) hc rfl hr hrn, fun e => absurd (show cap = 0 from e) (by omega)⟩
    · exact ⟨up_lokO (h5 2 (by decide)).1 (by decide) rfl, fun e => (h5 2 (by decide)).2 e⟩
  · rw [e2] at hk
    show ix (upd (σ.2 24) (ix (σ.1 22)) w k) < ix (σ.1 2)
    by_cases h : k = ix (σ.1 22)
    · subst h; rw [pk_us]; exact hw
    · rw [pk_un h]; exact h6 k (by omega)
theorem G_add1 {p0 : Program} {l : Launch} {e : Env} {R : Room} {s : State} {m : MethodId} {args : Array Value} {below : List Frame} {meth : Method} {c0 : Code} {H : Heap} {locs : List Loc} {cells slots : Nat} {Q : State → Prop} {cc : ByteArray} {pc : Nat} {ls : Array Slot} {rest : List Value} {Ts : List Cond} {nL : Nat} {D : va_G} {A : Nat → Prop} {ret : Option FieldType} {cI cO : ClassId} {t0 : Nat} {η : Eg} {σ : Sg} (w vo dr dy : Int32) {v index : Nat}
    (C : Cx RX6 p0 s m args meth c0 cc nL Ts ret) (V : EnvV s) (K : va_K D vwCl (tyG cI cO) s) (E9 : EnvH t0 A s s.heap) (hl : ls.size = nL) (P : Hp D A s ((v, (.inr (5, [.ref (e_aa η 0 (ix w)), .int vo, .int dr, .int dy, .int 0]) : va_E)) :: G_W cI cO η σ) H locs) (hG : Gok t0 η σ) (hw : ix w < ix (σ.1 2)) (hn : ix (σ.1 22) < 30)
    (g : GoodIn Ts (wsV RX6 index RJx4a65c yJx4a65c_add_9ea2d wsJx4a65c_add_9ea2d)) (hR : 6 + 1 ≤ R.frames ∧ 8 + (2 + 11) + 134 ≤ R.locals) (hcat : (rest.map fun v => v.category).sum ≤ 8) (hz : cells + 1 ≤ R.cells ∧ slots + 200 ≤ R.slots) (d : decode cc pc = .ok (.invokevirtual index, 3))
    (kk : ∀ (η' : Eg) (H : Heap) (locs : List Loc), Hp D A s (G_W cI cO η' (S_add1 σ w vo dr dy)) H locs → Gok t0 η' (S_add1 σ w vo dr dy) → e_ad η' 0 = e_ad η 0 → e_ad η' 2 = e_ad η 2 → W p0 l e R s m args below meth c0 H locs (cells + 1) (slots + 200) Q (F0 m (pc + 3) ls (.int 1 :: rest))) : W p0 l e R s m args below meth c0 H locs cells slots Q (F0 m pc ls (.ref v :: .ref (e_ad η 2) :: rest)) := by
  have hcn : Cnt σ 22 30 := hG.2.1
  obtain ⟨⟨q1, q2, q3, q4, q5⟩, h0⟩ := hG.2.2.2.2.1 1 (by decide)
  have P := P
  rw [G_split1] at P
  have P := P.perm (perm_in _ _ _ _ _ _ _ _)
  have eL : (e_ad η 2, (.inr (0, AL_fs η (σ.1 22) 1) : va_E)) = (e_ad η 2, Lc (e_mc η 1) (e_ad η (8 + 1)) (nI (ix (σ.1 22)))) := by
    rw [← hcn.1]
    rfl
  rw [eL] at P
  have hk : Dk2 t0 cO (d_cell cO η 1 ++ ((v, (.inr (5, [.ref (e_aa η 0 (ix w)), .int vo, .int dr, .int dy, .int 0]) : va_E)) :: ([(e_ad η 0, (.inr (7, G_fs η σ) : va_E)), (e_ad η 1, (.inr (0, AL_fs η (σ.1 2) 0) : va_E))] ++ (([(e_ad η 3, (.inr (0, AL_fs η (σ.1 18) 2) : va_E)), (e_ad η 4, (.inl (cI, 4, .inl (σ.2 7)) : va_E)), (e_ad η 5, (.inr (2, Ex_fs σ) : va_E)), (e_ad η 6, (.inr (3, Bk_fs σ) : va_E))] ++ d_cell cO η 0) ++ (((d_cell cO η 2 ++ b_cell η σ) ++ V_cells η σ) ++ (Mv_cells η σ ++ L_cells η σ)))))) 0 (e_ad η (8 + 1)) (e_cp η 1) (e_rw η 1) := by
    by_cases z : e_cp η 1 = 0
    · exact Or.inl ⟨z, h0 z⟩
    · exact Or.inr ⟨z, by rw [d_cell_ne z]; rfl⟩
  refine J_callI (As := [.ref v]) C V K E9 hl P (va_recv K P.1 (ci := 0) (q0 := 0) rfl rfl) (kJx4a65c_add_9ea2d l D cI cO t0 _ 0 (e_ad η 2) (e_ad η (8 + 1)) (e_cp η 1) (ix (σ.1 22)) v (e_mc η 1) (e_rw η 1) hk q3 (by omega) q4 (fun i hi y hy => ?_) ?_) fnJx4a65c_add_9ea2d rfl g rfl rfl hR hcat hz d (fun q H locs P => ?_)
  · rw [q5 i hi] at hy
    cases hy
    refine El.of (ci := 5) (fs := Mv_fs η σ i) ?_ (by decide)
    have hm : (e_aa η 1 i, (.inr (5, Mv_fs η σ i) : va_E)) ∈ Mv_cells η σ := List.mem_map.mpr ⟨i, List.mem_range.mpr hi, rfl⟩
    exact List.mem_append_right _ (List.mem_cons_of_mem _ (List.mem_append_right _ (List.mem_append_right _ (List.mem_append_right _ (List.mem_append_left _ hm)))))
  · exact El.of (ci := 5) (fs := [.ref (e_aa η 0 (ix w)), .int vo, .int dr, .int dy, .int 0]) (List.mem_append_right _ List.mem_cons_self) (by decide)
  · have e1 : σ.1 22 + 1 = nI (ix (σ.1 22) + 1) := cnt_s hcn.1
    rw [add_W] at P
    by_cases z : ix (σ.1 22) = e_cp η 1
    · rw [if_pos z, ← e1] at P
      have gl := grw_le (cap := e_cp η 1) (by omega)
      have P := P.sub (ws' := (q, ArO cO (grw (e_cp η 1)) (va_up (va_cpy (e_rw η 1) (fun _ => none) 0 0 (e_cp η 1)) (ix (σ.1 22)) (some v))) :: (e_ad η 2, Lc (e_mc η 1 + 1) q (σ.1 22 + 1)) :: (v, (.inr (5, [.ref (e_aa η 0 (ix w)), .int vo, .int dr, .int dy, .int 0]) : va_E)) :: ([(e_ad η 0, (.inr (7, G_fs η σ) : va_E)), (e_ad η 1, (.inr (0, AL_fs η (σ.1 2) 0) : va_E))] ++ (([(e_ad η 3, (.inr (0, AL_fs η (σ.1 18) 2) : va_E)), (e_ad η 4, (.inl (cI, 4, .inl (σ.2 7)) : va_E)), (e_ad η 5, (.inr (2, Ex_fs σ) : va_E)), (e_ad η 6, (.inr (3, Bk_fs σ) : va_E))] ++ d_cell cO η 0) ++ (((d_cell cO η 2 ++ b_cell η σ) ++ V_cells η σ) ++ (Mv_cells η σ ++ L_cells η σ))))) (List.Sublist.cons_cons _ (List.Sublist.cons_cons _ (List.sublist_append_right _ _)))
      have P := P.perm (List.Perm.swap _ _ _)
      refine kk (η_up η 1 (ix (σ.1 22)) v q (grw (e_cp η 1)) (va_up (va_cpy (e_rw η 1) (fun _ => none) 0 0 (e_cp η 1)) (ix (σ.1 22)) (some v))) H locs (up_W1 w vo dr dy hG hw v q _ _ (by omega) P) (up_G1 w vo dr dy hG hw v q _ _ hn (by omega) (fun i hi => ?_) (if_pos rfl)) rfl rfl
      show (if i = ix (σ.1 22) then some v else (if 0 ≤ i ∧ i < 0 + e_cp η 1 then e_rw η 1 (0 + (i - 0)) else none)) = _
      rw [if_neg (by omega), if_pos (by omega), Nat.sub_zero, Nat.zero_add]
    · rw [if_neg z, ← e1] at P
      have q3 : ix (σ.1 22) ≤ e_cp η 1 := q3
      have hcp : e_cp η 1 ≠ 0 := by omega
      rw [d_cell_ne hcp] at P
      refine kk (η_up η 1 (ix (σ.1 22)) v (e_ad η (8 + 1)) (e_cp η 1) (va_up (e_rw η 1) (ix (σ.1 22)) (some v))) H locs (up_W1 w vo dr dy hG hw v _ _ _ hcp P) (up_G1 w vo dr dy hG hw v _ _ _ hn (by omega) (fun i hi => if_neg (by omega)) (if_pos rfl)) rfl rfl
def S_add2 (σ : Sg) (dr mo : Int32) : Sg := zs (bs (bs σ 19 (ix (σ.1 18)) dr) 20 (ix (σ.1 18)) mo) 18 (σ.1 18 + 1)
theorem G_split2 (cI cO : ClassId) (η : Eg) (σ : Sg) : G_W cI cO η σ = [(e_ad η 0, (.inr (7, G_fs η σ) : va_E)), (e_ad η 1, (.inr (0, AL_fs η (σ.1 2) 0) : va_E)), (e_ad η 2, (.inr (0, AL_fs η (σ.1 22) 1) : va_E))] ++ (e_ad η 3, (.inr (0, AL_fs η (σ.1 18) 2) : va_E)) :: (([(e_ad η 4, (.inl (cI, 4, .inl (σ.2 7)) : va_E)), (e_ad η 5, (.inr (2, Ex_fs σ) : va_E)), (e_ad η 6, (.inr (3, Bk_fs σ) : va_E))] ++ (d_cell cO η 0 ++ d_cell cO η 1)) ++ (d_cell cO η 2 ++ (((b_cell η σ ++ V_cells η σ) ++ Mv_cells η σ) ++ (L_cells η σ ++ [])))) := by
  simp only [G_W, G_opt, G_fix, List.append_assoc, List.cons_append, List.nil_append, List.append_nil]
theorem up_A2 (cI : ClassId) (η : Eg) (σ : Sg) (dr mo : Int32) (v ad8 cap : Nat) (rows : Nat → Option Nat) : [(e_ad (η_up η 2 (ix (σ.1 18)) v ad8 cap rows) 0, (.inr (7, G_fs (η_up η 2 (ix (σ.1 18)) v ad8 cap rows) (S_add2 σ dr mo)) : va_E)), (e_ad (η_up η 2 (ix (σ.1 18)) v ad8 cap rows) 1, (.inr (0, AL_fs (η_up η 2 (ix (σ.1 18)) v ad8 cap rows) ((S_add2 σ dr mo).1 2) 0) : va_E)), (e_ad (η_up η 2 (ix (σ.1 18)) v ad8 cap rows) 2, (.inr (0, AL_fs (η_up η 2 (ix (σ.1 18)) v ad8 cap rows) ((S_add2 σ dr mo).1 22) 1) : va_E))] = [(e_ad η 0, (.inr (7, G_fs η σ) : va_E)), (e_ad η 1, (.inr (0, AL_fs η (σ.1 2) 0) : va_E)), (e_ad η 2, (.inr (0, AL_fs η (σ.1 22) 1) : va_E))] := rfl
theorem up_B2 (cI cO : ClassId) (η : Eg) (σ : Sg) (dr mo : Int32) (v ad8 cap : Nat) (rows : Nat → Option Nat) : ([(e_ad (η_up η 2 (ix (σ.1 18)) v ad8 cap rows) 4, (.inl (cI, 4, .inl ((S_add2 σ dr mo).2 7)) : va_E)), (e_ad (η_up η 2 (ix (σ.1 18)) v ad8 cap rows) 5, (.inr (2, Ex_fs (S_add2 σ dr mo)) : va_E)), (e_ad (η_up η 2 (ix (σ.1 18)) v ad8 cap rows) 6, (.inr (3, Bk_fs (S_add2 σ dr mo)) : va_E))] ++ (d_cell cO (η_up η 2 (ix (σ.1 18)) v ad8 cap rows) 0 ++ d_cell cO (η_up η 2 (ix (σ.1 18)) v ad8 cap rows) 1)) = ([(e_ad η 4, (.inl (cI, 4, .inl (σ.2 7)) : va_E)), (e_ad η 5, (.inr (2, Ex_fs σ) : va_E)), (e_ad η 6, (.inr (3, Bk_fs σ) : va_E))] ++ (d_cell cO η 0 ++ d_cell cO η 1)) := rfl
theorem up_C2 {t0 : Nat} {η : Eg} {σ : Sg} (dr mo : Int32) (hG : Gok t0 η σ) (v ad8 cap : Nat) (rows : Nat → Option Nat) : L_cells (η_up η 2 (ix (σ.1 18)) v ad8 cap rows) (S_add2 σ dr mo) = L_cells η σ ++ [(v, (.inr (4, [.int dr, .int mo]) : va_E))] := by
  have hc : Cnt σ 18 100 := hG.2.2.1
  have e2 : ix ((S_add2 σ dr mo).1 18) = ix (σ.1 18) + 1 := by
    show ix (σ.1 18 + 1) = _
    conv => lhs; rw [hc.1]
    rw [← nI_succ]
    exact nI_clamp (by have := hc.2; omega)
  rw [L_cells, L_cells, e2]
  refine mapr_succ _ _ _ _ (fun i hi => ?_) ?_
  · have hne : i ≠ ix (σ.1 18) := Nat.ne_of_lt hi
    show (e_aa _ 2 i, Sum.inr (4, [Value.int (upd (σ.2 19) _ _ i), Value.int (upd (σ.2 20) _ _ i)])) = _
    rw [up_aa hne, pk_un hne, pk_un hne]
    rfl
  · show (e_aa _ 2 _, Sum.inr (4, [Value.int (upd (σ.2 19) _ _ _), Value.int (upd (σ.2 20) _ _ _)])) = _
    rw [up_aan, pk_us, pk_us]
theorem up_E2 (cO : ClassId) (η : Eg) (σ : Sg) (dr mo : Int32) (v ad8 cap : Nat) (rows : Nat → Option Nat) : ((b_cell (η_up η 2 (ix (σ.1 18)) v ad8 cap rows) (S_add2 σ dr mo) ++ V_cells (η_up η 2 (ix (σ.1 18)) v ad8 cap rows) (S_add2 σ dr mo)) ++ Mv_cells (η_up η 2 (ix (σ.1 18)) v ad8 cap rows) (S_add2 σ dr mo)) = ((b_cell η σ ++ V_cells η σ) ++ Mv_cells η σ) := rfl
theorem up_W2 {D : va_G} {A : Nat → Prop} {s : State} {H : Heap} {locs : List Loc} {cI cO : ClassId} {t0 : Nat} {η : Eg} {σ : Sg} (dr mo : Int32) (hG : Gok t0 η σ) (v ad8 cap : Nat) (rows : Nat → Option Nat) (hcap : cap ≠ 0)
    (P : Hp D A s ((e_ad η 3, Lc (e_mc η 2 + 1) ad8 (σ.1 18 + 1)) :: ([(ad8, ArO cO cap rows)] ++ ((v, (.inr (4, [.int dr, .int mo]) : va_E)) :: ([(e_ad η 0, (.inr (7, G_fs η σ) : va_E)), (e_ad η 1, (.inr (0, AL_fs η (σ.1 2) 0) : va_E)), (e_ad η 2, (.inr (0, AL_fs η (σ.1 22) 1) : va_E))] ++ (([(e_ad η 4, (.inl (cI, 4, .inl (σ.2 7)) : va_E)), (e_ad η 5, (.inr (2, Ex_fs σ) : va_E)), (e_ad η 6, (.inr (3, Bk_fs σ) : va_E))] ++ (d_cell cO η 0 ++ d_cell cO η 1)) ++ (((b_cell η σ ++ V_cells η σ) ++ Mv_cells η σ) ++ (L_cells η σ ++ []))))))) H locs) : Hp D A s (G_W cI cO (η_up η 2 (ix (σ.1 18)) v ad8 cap rows) (S_add2 σ dr mo)) H locs := by
  rw [G_split2, up_A2 cI η σ dr mo v ad8 cap rows, up_B2 cI cO η σ dr mo v ad8 cap rows, up_E2 cO η σ dr mo v ad8 cap rows, up_C2 dr mo hG v ad8 cap rows, d_cell_ne (η := (η_up η 2 (ix (σ.1 18)) v ad8 cap rows)) (j := 2) hcap]
  exact P.perm (perm_out _ _ _ _ _ _ _ _)
theorem up_G2 {t0 : Nat} {η : Eg} {σ : Sg} (dr mo : Int32) (hG : Gok t0 η σ) (v ad8 cap : Nat) (rows : Nat → Option Nat) (hn : ix (σ.1 18) < 100) (hc : ix (σ.1 18) + 1 ≤ cap ∧ cap ≤ 200) (hr : ∀ i, i < ix (σ.1 18) → rows i = e_rw η 2 i) (hrn : rows (ix (σ.1 18)) = some v) : Gok t0 (η_up η 2 (ix (σ.1 18)) v ad8 cap rows) (S_add2 σ dr mo) := by
  obtain ⟨h1, h2, h3, h4, h5, h6⟩ := hG
  have hcn : Cnt σ 18 100 := h3
  have e1 : σ.1 18 + 1 = nI (ix (σ.1 18) + 1) := cnt_s hcn.1
  have e2 : ix ((S_add2 σ dr mo).1 18) = ix (σ.1 18) + 1 := by
    show ix (σ.1 18 + 1) = _
    rw [e1]
    exact nI_clamp (by omega)
  have hcc : Cnt (S_add2 σ dr mo) 18 100 := ⟨by rw [e2]; exact e1, by omega⟩
  refine ⟨h1, h2, hcc, h4, fun j hj => ?_, fun k hk => ?_⟩
  · rcases (by omega : j = 0 ∨ j = 1 ∨ j = 2) with rfl | rfl | rfl
    · exact ⟨up_lokO (h5 0 (by decide)).1 (by decide) rfl, fun e => (h5 0 (by decide)).2 e⟩
    · exact ⟨up_lokO (h5 1 (by decide)).1 (by decide) rfl, fun e => (h5 1 (by decide)).2 e⟩
    · exact ⟨up_lok (h5 2 (by decide)).1 (by show ix (σ.1 18) ≤ 99; omega) hc rfl hr hrn, fun e => absurd (show cap = 0 from e) (by omega)⟩
  · exact h6 k hk
theorem G_add2 {p0 : Program} {l : Launch} {e : Env} {R : Room} {s : State} {m : MethodId} {args : Array Value} {below : List Frame} {meth : Method} {c0 : Code} {H : Heap} {locs : List Loc} {cells slots : Nat} {Q : State → Prop} {cc : ByteArray} {pc : Nat} {ls : Array Slot} {rest : List Value} {Ts : List Cond} {nL : Nat} {D : va_G} {A : Nat → Prop} {ret : Option FieldType} {cI cO : ClassId} {t0 : Nat} {η : Eg} {σ : Sg} (dr mo : Int32) {v index : Nat}
    (C : Cx RX6 p0 s m args meth c0 cc nL Ts ret) (V : EnvV s) (K : va_K D vwCl (tyG cI cO) s) (E9 : EnvH t0 A s s.heap) (hl : ls.size = nL) (P : Hp D A s ((v, (.inr (4, [.int dr, .int mo]) : va_E)) :: G_W cI cO η σ) H locs) (hG : Gok t0 η σ) (hn : ix (σ.1 18) < 100)
    (g : GoodIn Ts (wsV RX6 index RJx4a65c yJx4a65c_add_9ea2d wsJx4a65c_add_9ea2d)) (hR : 6 + 1 ≤ R.frames ∧ 8 + (2 + 11) + 134 ≤ R.locals) (hcat : (rest.map fun v => v.category).sum ≤ 8) (hz : cells + 1 ≤ R.cells ∧ slots + 200 ≤ R.slots) (d : decode cc pc = .ok (.invokevirtual index, 3))
    (kk : ∀ (η' : Eg) (H : Heap) (locs : List Loc), Hp D A s (G_W cI cO η' (S_add2 σ dr mo)) H locs → Gok t0 η' (S_add2 σ dr mo) → e_ad η' 0 = e_ad η 0 → e_ad η' 3 = e_ad η 3 → W p0 l e R s m args below meth c0 H locs (cells + 1) (slots + 200) Q (F0 m (pc + 3) ls (.int 1 :: rest))) : W p0 l e R s m args below meth c0 H locs cells slots Q (F0 m pc ls (.ref v :: .ref (e_ad η 3) :: rest)) := by
  have hcn : Cnt σ 18 100 := hG.2.2.1
  obtain ⟨⟨q1, q2, q3, q4, q5⟩, h0⟩ := hG.2.2.2.2.1 2 (by decide)
  have P := P
  rw [G_split2] at P
  have P := P.perm (perm_in _ _ _ _ _ _ _ _)
  have eL : (e_ad η 3, (.inr (0, AL_fs η (σ.1 18) 2) : va_E)) = (e_ad η 3, Lc (e_mc η 2) (e_ad η (8 + 2)) (nI (ix (σ.1 18)))) := by
    rw [← hcn.1]
    rfl
  rw [eL] at P
  have hk : Dk2 t0 cO (d_cell cO η 2 ++ ((v, (.inr (4, [.int dr, .int mo]) : va_E)) :: ([(e_ad η 0, (.inr (7, G_fs η σ) : va_E)), (e_ad η 1, (.inr (0, AL_fs η (σ.1 2) 0) : va_E)), (e_ad η 2, (.inr (0, AL_fs η (σ.1 22) 1) : va_E))] ++ (([(e_ad η 4, (.inl (cI, 4, .inl (σ.2 7)) : va_E)), (e_ad η 5, (.inr (2, Ex_fs σ) : va_E)), (e_ad η 6, (.inr (3, Bk_fs σ) : va_E))] ++ (d_cell cO η 0 ++ d_cell cO η 1)) ++ (((b_cell η σ ++ V_cells η σ) ++ Mv_cells η σ) ++ (L_cells η σ ++ [])))))) 0 (e_ad η (8 + 2)) (e_cp η 2) (e_rw η 2) := by
    by_cases z : e_cp η 2 = 0
    · exact Or.inl ⟨z, h0 z⟩
    · exact Or.inr ⟨z, by rw [d_cell_ne z]; rfl⟩
  refine J_callI (As := [.ref v]) C V K E9 hl P (va_recv K P.1 (ci := 0) (q0 := 0) rfl rfl) (kJx4a65c_add_9ea2d l D cI cO t0 _ 0 (e_ad η 3) (e_ad η (8 + 2)) (e_cp η 2) (ix (σ.1 18)) v (e_mc η 2) (e_rw η 2) hk q3 (by omega) q4 (fun i hi y hy => ?_) ?_) fnJx4a65c_add_9ea2d rfl g rfl rfl hR hcat hz d (fun q H locs P => ?_)
  · rw [q5 i hi] at hy
    cases hy
    refine El.of (ci := 4) (fs := L_fs σ i) ?_ (by decide)
    have hm : (e_aa η 2 i, (.inr (4, L_fs σ i) : va_E)) ∈ L_cells η σ := List.mem_map.mpr ⟨i, List.mem_range.mpr hi, rfl⟩
    exact List.mem_append_right _ (List.mem_cons_of_mem _ (List.mem_append_right _ (List.mem_append_right _ (List.mem_append_right _ (List.mem_append_left _ hm)))))
  · exact El.of (ci := 4) (fs := [.int dr, .int mo]) (List.mem_append_right _ List.mem_cons_self) (by decide)
  · have e1 : σ.1 18 + 1 = nI (ix (σ.1 18) + 1) := cnt_s hcn.1
    rw [add_W] at P
    by_cases z : ix (σ.1 18) = e_cp η 2
    · rw [if_pos z, ← e1] at P
      have gl := grw_le (cap := e_cp η 2) (by omega)
      have P := P.sub (ws' := (q, ArO cO (grw (e_cp η 2)) (va_up (va_cpy (e_rw η 2) (fun _ => none) 0 0 (e_cp η 2)) (ix (σ.1 18)) (some v))) :: (e_ad η 3, Lc (e_mc η 2 + 1) q (σ.1 18 + 1)) :: (v, (.inr (4, [.int dr, .int mo]) : va_E)) :: ([(e_ad η 0, (.inr (7, G_fs η σ) : va_E)), (e_ad η 1, (.inr (0, AL_fs η (σ.1 2) 0) : va_E)), (e_ad η 2, (.inr (0, AL_fs η (σ.1 22) 1) : va_E))] ++ (([(e_ad η 4, (.inl (cI, 4, .inl (σ.2 7)) : va_E)), (e_ad η 5, (.inr (2, Ex_fs σ) : va_E)), (e_ad η 6, (.inr (3, Bk_fs σ) : va_E))] ++ (d_cell cO η 0 ++ d_cell cO η 1)) ++ (((b_cell η σ ++ V_cells η σ) ++ Mv_cells η σ) ++ (L_cells η σ ++ []))))) (List.Sublist.cons_cons _ (List.Sublist.cons_cons _ (List.sublist_append_right _ _)))
      have P := P.perm (List.Perm.swap _ _ _)
      refine kk (η_up η 2 (ix (σ.1 18)) v q (grw (e_cp η 2)) (va_up (va_cpy (e_rw η 2) (fun _ => none) 0 0 (e_cp η 2)) (ix (σ.1 18)) (some v))) H locs (up_W2 dr mo hG v q _ _ (by omega) P) (up_G2 dr mo hG v q _ _ hn (by omega) (fun i hi => ?_) (if_pos rfl)) rfl rfl
      show (if i = ix (σ.1 18) then some v else (if 0 ≤ i ∧ i < 0 + e_cp η 2 then e_rw η 2 (0 + (i - 0)) else none)) = _
      rw [if_neg (by omega), if_pos (by omega), Nat.sub_zero, Nat.zero_add]
    · rw [if_neg z, ← e1] at P
      have q3 : ix (σ.1 18) ≤ e_cp η 2 := q3
      have hcp : e_cp η 2 ≠ 0 := by omega
      rw [d_cell_ne hcp] at P
      refine kk (η_up η 2 (ix (σ.1 18)) v (e_ad η (8 + 2)) (e_cp η 2) (va_up (e_rw η 2) (ix (σ.1 18)) (some v))) H locs (up_W2 dr mo hG v _ _ _ hcp P) (up_G2 dr mo hG v _ _ _ hn (by omega) (fun i hi => if_neg (by omega)) (if_pos rfl)) rfl rfl
