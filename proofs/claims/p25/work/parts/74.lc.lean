/-! ===== the law's constants ===== -/
theorem lc_119 : Cond.constant RL 119 (1000000) ∈ wsL_law := List.mem_append_left _ (List.mem_append_left _ (List.mem_append_left _ (by decide +kernel)))
theorem lc_152 : Cond.constant RL 152 (1048576) ∈ wsL_law := List.mem_append_left _ (List.mem_append_left _ (List.mem_append_left _ (by decide +kernel)))
theorem lc_158 : Cond.constant RL 158 (3000000) ∈ wsL_law := List.mem_append_left _ (List.mem_append_left _ (List.mem_append_left _ (by decide +kernel)))
theorem lc_16 : Cond.constant RL 16 (-2000000001) ∈ wsL_law := List.mem_append_left _ (List.mem_append_left _ (List.mem_append_left _ (by decide +kernel)))
theorem lc_165 : Cond.constant RL 165 (999999) ∈ wsL_law := List.mem_append_left _ (List.mem_append_left _ (List.mem_append_left _ (by decide +kernel)))
theorem lc_170 : Cond.constant RL 170 (9999999) ∈ wsL_law := List.mem_append_left _ (List.mem_append_left _ (List.mem_append_left _ (by decide +kernel)))
theorem lc_171 : Cond.constant RL 171 (60000) ∈ wsL_law := List.mem_append_left _ (List.mem_append_left _ (List.mem_append_left _ (by decide +kernel)))
theorem lc_179 : Cond.constant RL 179 (131072) ∈ wsL_law := List.mem_append_left _ (List.mem_append_left _ (List.mem_append_left _ (by decide +kernel)))
theorem lc_19 : Cond.constant RL 19 (-2000000002) ∈ wsL_law := List.mem_append_left _ (List.mem_append_left _ (List.mem_append_left _ (by decide +kernel)))
theorem lc_22 : Cond.constant RL 22 (-2000000003) ∈ wsL_law := List.mem_append_left _ (List.mem_append_left _ (List.mem_append_left _ (by decide +kernel)))
theorem lc_150 : Cond.constantLong RL 150 (100) ∈ wsL_law := List.mem_append_left _ (List.mem_append_left _ (List.mem_append_left _ (by decide +kernel)))
theorem lc_180 : Cond.constantLong RL 180 (200) ∈ wsL_law := List.mem_append_left _ (List.mem_append_left _ (List.mem_append_left _ (by decide +kernel)))
theorem zj0 {cI : ClassId} {ar : Nat → Nat} (S : Sg) : (Z_W cI ar S)[0]? = some (ar 0, .inl (cI, 5, .inl (S.2 0))) := rfl
theorem zs0 {cI : ClassId} {ar : Nat → Nat} (S : Sg) (q : Nat) (x : Int32) : (Z_W cI ar S).set 0 (ar 0, .inl (cI, 5, .inl (upd (S.2 0) q x))) = Z_W cI ar (bs S 0 q x) := rfl
theorem zj1 {cI : ClassId} {ar : Nat → Nat} (S : Sg) : (Z_W cI ar S)[1]? = some (ar 1, .inl (cI, 5, .inl (S.2 1))) := rfl
theorem zs1 {cI : ClassId} {ar : Nat → Nat} (S : Sg) (q : Nat) (x : Int32) : (Z_W cI ar S).set 1 (ar 1, .inl (cI, 5, .inl (upd (S.2 1) q x))) = Z_W cI ar (bs S 1 q x) := rfl
theorem zj2 {cI : ClassId} {ar : Nat → Nat} (S : Sg) : (Z_W cI ar S)[2]? = some (ar 2, .inl (cI, 5, .inl (S.2 2))) := rfl
theorem zs2 {cI : ClassId} {ar : Nat → Nat} (S : Sg) (q : Nat) (x : Int32) : (Z_W cI ar S).set 2 (ar 2, .inl (cI, 5, .inl (upd (S.2 2) q x))) = Z_W cI ar (bs S 2 q x) := rfl
theorem zj3 {cI : ClassId} {ar : Nat → Nat} (S : Sg) : (Z_W cI ar S)[3]? = some (ar 3, .inl (cI, 3, .inl (S.2 3))) := rfl
theorem zs3 {cI : ClassId} {ar : Nat → Nat} (S : Sg) (q : Nat) (x : Int32) : (Z_W cI ar S).set 3 (ar 3, .inl (cI, 3, .inl (upd (S.2 3) q x))) = Z_W cI ar (bs S 3 q x) := rfl
theorem zj4 {cI : ClassId} {ar : Nat → Nat} (S : Sg) : (Z_W cI ar S)[4]? = some (ar 4, .inl (cI, 16, .inl (S.2 4))) := rfl
theorem zs4 {cI : ClassId} {ar : Nat → Nat} (S : Sg) (q : Nat) (x : Int32) : (Z_W cI ar S).set 4 (ar 4, .inl (cI, 16, .inl (upd (S.2 4) q x))) = Z_W cI ar (bs S 4 q x) := rfl
theorem zj5 {cI : ClassId} {ar : Nat → Nat} (S : Sg) : (Z_W cI ar S)[5]? = some (ar 5, .inl (cI, 40, .inl (S.2 5))) := rfl
theorem zs5 {cI : ClassId} {ar : Nat → Nat} (S : Sg) (q : Nat) (x : Int32) : (Z_W cI ar S).set 5 (ar 5, .inl (cI, 40, .inl (upd (S.2 5) q x))) = Z_W cI ar (bs S 5 q x) := rfl
theorem zj6 {cI : ClassId} {ar : Nat → Nat} (S : Sg) : (Z_W cI ar S)[6]? = some (ar 6, .inl (cI, 40, .inl (S.2 6))) := rfl
theorem zs6 {cI : ClassId} {ar : Nat → Nat} (S : Sg) (q : Nat) (x : Int32) : (Z_W cI ar S).set 6 (ar 6, .inl (cI, 40, .inl (upd (S.2 6) q x))) = Z_W cI ar (bs S 6 q x) := rfl
theorem zj7 {cI : ClassId} {ar : Nat → Nat} (S : Sg) : (Z_W cI ar S)[7]? = some (ar 7, .inl (cI, 30, .inl (S.2 7))) := rfl
theorem zs7 {cI : ClassId} {ar : Nat → Nat} (S : Sg) (q : Nat) (x : Int32) : (Z_W cI ar S).set 7 (ar 7, .inl (cI, 30, .inl (upd (S.2 7) q x))) = Z_W cI ar (bs S 7 q x) := rfl
theorem zj8 {cI : ClassId} {ar : Nat → Nat} (S : Sg) : (Z_W cI ar S)[8]? = some (ar 8, .inl (cI, 30, .inl (S.2 8))) := rfl
theorem zs8 {cI : ClassId} {ar : Nat → Nat} (S : Sg) (q : Nat) (x : Int32) : (Z_W cI ar S).set 8 (ar 8, .inl (cI, 30, .inl (upd (S.2 8) q x))) = Z_W cI ar (bs S 8 q x) := rfl
