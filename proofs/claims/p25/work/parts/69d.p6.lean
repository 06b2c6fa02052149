/-! ===== what the law's walk asks of its numbers ===== -/
theorem low_n (v n : Int32) (N : Int) (h : n.toInt = N) (h0 : 0 < N) : 0 ≤ (z_low v n).toInt ∧ (z_low v n).toInt < N := by
  have := z_low_i v (n := n) (by omega)
  omega
theorem low_vp (v n : Int32) (N : Nat) (h : n.toInt = N) (h0 : 0 < N) : vp_in (z_low v n) N := by
  obtain ⟨a, b⟩ := low_n v n N h (by omega)
  obtain ⟨-, e⟩ := nat_i a
  intro q
  rcases q with q | q
  · rw [lt_i, ti0] at q; omega
  · have : N ≤ ix (z_low v n) := q
    omega
theorem bs_us {Y : Sg} {k i : Nat} {v : Int32} : (bs Y k i v).2 k i = v := by rw [bs_2, if_pos rfl, pk_us]
theorem bs_o {Y : Sg} {k j i i2 : Nat} {v x : Int32} (h : j ≠ k) (e : Y.2 j i2 = x) : (bs Y k i v).2 j i2 = x := by rw [bs_r _ _ _ h]; exact e
theorem add_b {a b : Int32} {x y : Int} (ha : a.toInt = x) (h0 : 0 ≤ b.toInt) (h1 : b.toInt ≤ y) (hx : 0 ≤ x) (hy : x + y < 2147483648) : (a + b).toInt = x + b.toInt := by
  rw [i_add (by omega) (by omega), ha]
theorem wash_b {u wash : Int32} (h : wash = 1000 + z_low u 8000) : 1000 ≤ wash.toInt ∧ wash.toInt ≤ 8999 := by
  obtain ⟨a, b⟩ := low_n u 8000 8000 (by decide) (by decide)
  rw [h, add_b (x := 1000) (y := 8000) (by decide) a (by omega) (by decide) (by decide)]
  omega
theorem hard_b {u hard : Int32} (h : hard = 1 + z_low u 300) : 1 ≤ hard.toInt ∧ hard.toInt ≤ 300 := by
  obtain ⟨a, b⟩ := low_n u 300 300 (by decide) (by decide)
  rw [h, add_b (x := 1) (y := 300) (by decide) a (by omega) (by decide) (by decide)]
  omega
theorem stre_b {u stre : Int32} (h : stre = 500 + z_low u 461) : 500 ≤ stre.toInt ∧ stre.toInt ≤ 960 := by
  obtain ⟨a, b⟩ := low_n u 461 461 (by decide) (by decide)
  rw [h, add_b (x := 500) (y := 461) (by decide) a (by omega) (by decide) (by decide)]
  omega
theorem stre_n {u stre : Int32} (h : stre = 500 + z_low u 461) : ¬ stre = 0 := fun q => by
  have := stre_b h
  rw [q, ti0] at this
  omega
theorem came_b {u wash hard stre came m : Int32} (hw : 1000 ≤ wash.toInt ∧ wash.toInt ≤ 8999) (hh : 1 ≤ hard.toInt ∧ hard.toInt ≤ 300) (hs : 500 ≤ stre.toInt ∧ stre.toInt ≤ 960) (hc : came = 1 + wash * hard / stre * (85 + z_low u 17) / 100) (hm : m = if came ≤ 9999 then came else 9999) : 1 ≤ m.toInt ∧ m.toInt ≤ 9999 := by
  obtain ⟨a, b⟩ := low_n u 17 17 (by decide) (by decide)
  have p : 0 ≤ wash.toInt * hard.toInt ∧ wash.toInt * hard.toInt ≤ 8999 * 300 := ⟨Int.mul_nonneg (by omega) (by omega), Int.mul_le_mul (by omega) (by omega) (by omega) (by omega)⟩
  have e1 : (wash * hard).toInt = wash.toInt * hard.toInt := i_mul (by omega) (by omega)
  have e2 : (wash * hard / stre).toInt = wash.toInt * hard.toInt / stre.toInt := by rw [i_div (by omega) (by omega), e1]
  have d0 : 0 ≤ wash.toInt * hard.toInt / stre.toInt := Int.ediv_nonneg p.1 (by omega)
  have d1 : wash.toInt * hard.toInt / stre.toInt ≤ wash.toInt * hard.toInt := Int.ediv_le_self _ p.1
  have d2 : wash.toInt * hard.toInt / stre.toInt ≤ 5400 := by
    refine Int.ediv_le_of_le_mul (by omega) ?_
    have : 5400 * 500 ≤ 5400 * stre.toInt := Int.mul_le_mul_of_nonneg_left hs.1 (by decide)
    omega
  have e3 : (85 + z_low u 17).toInt = 85 + (z_low u 17).toInt := add_b (x := 85) (y := 17) (by decide) a (by omega) (by decide) (by decide)
  have p2 : 0 ≤ (wash * hard / stre).toInt * (85 + z_low u 17).toInt ∧ (wash * hard / stre).toInt * (85 + z_low u 17).toInt ≤ 5400 * 102 := ⟨Int.mul_nonneg (by omega) (by omega), Int.mul_le_mul (by omega) (by omega) (by omega) (by omega)⟩
  have e4 : (wash * hard / stre * (85 + z_low u 17)).toInt = (wash * hard / stre).toInt * (85 + z_low u 17).toInt := i_mul (by omega) (by omega)
  have e5 : (wash * hard / stre * (85 + z_low u 17) / 100).toInt = (wash * hard / stre).toInt * (85 + z_low u 17).toInt / 100 := by rw [i_div (by omega) (by decide), e4]; rfl
  have e6 : came.toInt = 1 + (wash * hard / stre).toInt * (85 + z_low u 17).toInt / 100 := by rw [hc, add_b (x := 1) (y := 5508) (by decide) (by omega) (by omega) (by decide) (by decide), e5]
  rw [hm]
  split
  · rename_i q
    rw [le_i, show (9999 : Int32).toInt = 9999 by decide] at q
    omega
  · decide
theorem cap_0 {T : Nat} {σ L : Sg} (h : TI T σ L) {k : Int32} (hk : vp_in k 5) : 0 ≤ (L.2 0 (ix k)).toInt := by
  obtain ⟨v, -, e, -⟩ := ti_v h hk
  rw [e]
  have := v.1
  have := v.2.1
  omega
theorem told_b {x m : Int32} (hm : m = if 0 ≤ x then (if x ≤ 960 then x else 960) else 0) : 0 ≤ m.toInt ∧ m.toInt ≤ 960 := clamp_b (c := 960) (by decide) hm
theorem vp40 {T : Nat} {σ L : Sg} (h : TI T σ L) (c : ¬ L.2 4 9 = 40) : vp_in (L.2 4 9) 40 := by
  have hz := cz9 h
  have h40 := hz.2
  intro q
  rcases q with q | q
  · rw [hz.1] at q; exact absurd q (nI_pos (by omega))
  · have q2 : 40 ≤ ix (L.2 4 9) := q
    have e : ix (L.2 4 9) = 40 := by omega
    exact c (by rw [hz.1, e]; rfl)
theorem vp30 {T : Nat} {σ L : Sg} (h : TI T σ L) (c : ¬ L.2 4 10 = 30) : vp_in (L.2 4 10) 30 := by
  have hz := cz10 h
  have h30 := hz.2
  intro q
  rcases q with q | q
  · rw [hz.1] at q; exact absurd q (nI_pos (by omega))
  · have q2 : 30 ≤ ix (L.2 4 10) := q
    have e : ix (L.2 4 10) = 30 := by omega
    exact c (by rw [hz.1, e]; rfl)
theorem quo_b {v quo : Int32} (h : quo = z_low v 1000 * 1000) : 0 ≤ quo.toInt ∧ quo.toInt ≤ 9999999 := by
  obtain ⟨a, b⟩ := low_n v 1000 1000 (by decide) (by decide)
  rw [h, i_mul (by rw [show (1000 : Int32).toInt = 1000 by decide]; omega) (by rw [show (1000 : Int32).toInt = 1000 by decide]; omega), show (1000 : Int32).toInt = 1000 by decide]
  omega
theorem bail_b {u bail : Int32} (h : bail = if u &&& 1 = 0 then 9999999 else z_low (u >>> (1 &&& 31)) 60000) : 0 ≤ bail.toInt ∧ bail.toInt ≤ 9999999 := by
  rw [h]
  split
  · decide
  · have := low_n (u >>> (1 &&& 31)) 60000 60000 (by decide) (by decide)
    omega
theorem days_b {v days : Int32} (h : days = 1 + z_low v 12) : 1 ≤ days.toInt ∧ days.toInt ≤ 12 := by
  obtain ⟨a, b⟩ := low_n v 12 12 (by decide) (by decide)
  rw [h, add_b (x := 1) (y := 12) (by decide) a (by omega) (by decide) (by decide)]
  omega
theorem ne_1 {x : Int32} (h : 1 ≤ x.toInt) : ¬ x = 0 := fun q => by rw [q, ti0] at h; omega
theorem ne_s {x : Int32} (h : 1 ≤ x.toInt ∧ x.toInt ≤ 9999) : ¬ x + 1 = 0 := fun q => by
  have e := congrArg Int32.toInt q
  rw [i_add (by rw [ti1]; omega) (by rw [ti1]; omega), ti1, ti0] at e
  omega
section ZM
variable {p : Program} {l : Launch} {e : Env} {R : Room} {s : State} {m : MethodId} {args : Array Value} {below : List Frame} {meth : Method} {c : Code} {H : Heap} {locs : List Loc} {cells slots : Nat} {Q : State → Prop} {pc : Nat} {ls : Array Slot} {rest st0 : List Value} {D : va_G} {A : Nat → Prop} {ws : va_W}
theorem lv_mergeH {M : Nat} {T : Int32} (P : Hp D A s ws H locs) (hs : (∀ x : Int32, x = T → ∀ (H : Heap) (locs : List Loc), Hp D A s ws H locs → W p l e R s m args below meth c H locs cells slots Q (F0 m M ls (.int x :: rest))) → W p l e R s m args below meth c H locs cells slots Q (F0 m pc ls st0)) (hm : ∀ x : Int32, x = T → ∀ (H : Heap) (locs : List Loc), Hp D A s ws H locs → W p l e R s m args below meth c H locs cells slots Q (F0 m M ls (.int x :: rest))) : W p l e R s m args below meth c H locs cells slots Q (F0 m pc ls st0) := hs hm
end ZM
