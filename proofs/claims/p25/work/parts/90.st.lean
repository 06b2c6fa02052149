/-! ===== the start: what the words give ===== -/
theorem ka_int {args : Array Value} {s : State} (h : (Cond.arrayClass .int).before args s = true) : ∃ cA, ArrOfT s cA .int ∧ va_RA s cA .int := by
  obtain ⟨cA, kA, comp, h1, h2, h3⟩ := Cond.arrayClass_spec h
  exact ⟨cA, fun n z => ⟨fun k h => (by cases h), kA, h2, comp, h3⟩, h1⟩
theorem ka_obj {s : State} (h : va_AO "java/lang/Object" s) : ∃ cA, ArrOfT s cA (.object "java/lang/Object") ∧ va_RA s cA (.object "java/lang/Object") := by
  obtain ⟨comp, cA, kA, h1, -, h3, h4, h5⟩ := Cond.arrayOver_spec (va_AO.use (A := #[]) h)
  exact ⟨cA, fun n z => ⟨fun k h => (by cases h), kA, h3, comp, h4⟩, kA, comp, h3, h4, h1, h5⟩
theorem k_start {args : Array Value} {s : State} (hts : ∀ w ∈ lw_tbl, w.before args s = true) (hO : va_AO "java/lang/Object" s) : ∃ (D : va_G) (cI cO : ClassId), va_K D vwCl (tyG cI cO) s := by
  obtain ⟨c0, i0, k0⟩ := u_known (T := TJx4a65c) hts inJx4a65c (hts (.instantiable RJx4a65c 3) (by decide +kernel))
  obtain ⟨c1, i1, k1⟩ := u_known (T := TX0) hts inX0 (hts (.instantiable RX0 3) (by decide +kernel))
  obtain ⟨c2, i2, k2⟩ := u_known (T := TX1) hts inX1 (hts (.instantiable RX1 3) (by decide +kernel))
  obtain ⟨c3, i3, k3⟩ := u_known (T := TX2) hts inX2 (hts (.instantiable RX2 5) (by decide +kernel))
  obtain ⟨c4, i4, k4⟩ := u_known (T := TX3) hts inX3 (hts (.instantiable RX3 2) (by decide +kernel))
  obtain ⟨c5, i5, k5⟩ := u_known (T := TX4) hts inX4 (hts (.instantiable RX4 5) (by decide +kernel))
  obtain ⟨c6, i6, k6⟩ := u_known (T := TX5) hts inX5 (hts (.instantiable RX5 4) (by decide +kernel))
  obtain ⟨c7, i7, k7⟩ := u_known (T := TX6) hts inX6 (hts (.instantiable RX6 12) (by decide +kernel))
  obtain ⟨cI, a1, r1⟩ := ka_int (hts (.arrayClass .int) (by decide +kernel))
  obtain ⟨cO, a3, r3⟩ := ka_obj hO
  refine ⟨(fun c => match c with | 0 => c0 | 1 => c1 | 2 => c2 | 3 => c3 | 4 => c4 | 5 => c5 | 6 => c6 | _ => c7, fun c => match c with | 0 => i0 | 1 => i1 | 2 => i2 | 3 => i3 | 4 => i4 | 5 => i5 | 6 => i6 | _ => i7), cI, cO, fun c q hc => ?_, fun k q hk => ?_⟩
  · match c, hc with
    | 0, hc => cases hc; exact k0
    | 1, hc => cases hc; exact k1
    | 2, hc => cases hc; exact k2
    | 3, hc => cases hc; exact k3
    | 4, hc => cases hc; exact k4
    | 5, hc => cases hc; exact k5
    | 6, hc => cases hc; exact k6
    | 7, hc => cases hc; exact k7
    | c + 8, hc => simp [vwCl] at hc
  · match k, hk with
    | 0, hk => cases hk; exact ⟨a1, r1⟩
    | 1, hk => cases hk; exact ⟨a3, r3⟩
    | k + 2, hk => simp at hk
theorem nwl_tbl : ∀ w ∈ NWl, w ∈ lw_tbl := by decide +kernel
theorem envN_start {args : Array Value} {s : State} (hts : ∀ w ∈ lw_tbl, w.before args s = true) : EnvN s := fun w hw => va_Nw.of (nw_tabs (NWl_ok w hw)) (hts w (nwl_tbl w hw))
theorem envC_start {args : Array Value} {s : State} (hts : ∀ w ∈ lw_tbl, w.before args s = true) (hn : (Jvm.Cond.and given_1 narrow_1).before args s = true) : EnvC s := by
  have hs := flat_of_before _ hn
  exact ⟨fun a => va_any rfl (hts (.classLink RL 14 nX1) (by decide +kernel)), fun a => va_any rfl (hts (.classLink RL 17 nX2) (by decide +kernel)), fun a => va_any rfl (hts (.classLink RL 20 nX3) (by decide +kernel)), va_Nc.of (hs (.not (.castable nX2 nX1)) (by decide +kernel)), va_Nc.of (hs (.not (.castable nX3 nX1)) (by decide +kernel)), va_Nc.of (hs (.not (.castable nX3 nX2)) (by decide +kernel))⟩
theorem srl_tbl : ∀ q ∈ SRl, Cond.stringRef RX6 q.1 q.2 ∈ lw_tbl := by decide +kernel
theorem envV_start {args : Array Value} {s : State} (hts : ∀ w ∈ lw_tbl, w.before args s = true) (hn : (Jvm.Cond.and given_1 narrow_1).before args s = true) : EnvV s := by
  have hs := flat_of_before _ hn
  have hN := envN_start hts
  obtain ⟨c3, -, w1, -, -⟩ := Cond.castable_spec (hts (.castable RX6 "java/lang/Object") (by decide +kernel))
  refine ⟨hN, fun q hq => ?_, va_AO.of (hts (.arrayOver (.object "java/lang/Object")) (by decide +kernel)), va_Mi.of (hs (.isRef (.mirror nOb)) (by decide +kernel))⟩
  have h1 := hts _ (srl_tbl q hq)
  obtain ⟨k, cf, i, a, -, -, -, -, -, h2⟩ := Cond.stringRef_spec w1 h1
  exact ⟨a, vk_R.of h1 h2⟩
abbrev tED : Term := .static "java/util/ArrayList" "DEFAULTCAPACITY_EMPTY_ELEMENTDATA" nOb
theorem envH_start {args : Array Value} {s : State} (hts : ∀ w ∈ lw_tbl, w.before args s = true) (hn : (Jvm.Cond.and given_1 narrow_1).before args s = true) : ∃ t0, EnvH t0 (fun q => s.heap.size ≤ q) s s.heap := by
  have hs := flat_of_before _ hn
  have hA : ∀ a : Nat, a < s.heap.size → ¬ (s.heap.size ≤ a) := fun a h1 h2 => by omega
  have h := hs (.eq (.length tED) (.int 0)) (by decide +kernel)
  have hlen : (Term.length tED).eval args s none [] s = some (.int (Int32.ofNat 0)) := by
    simp only [Cond.before, Cond.holds, Cond.value] at h
    cases h2 : (Term.length tED).eval args s none [] s with
    | none => simp [h2] at h
    | some v =>
      obtain ⟨t, cell, ht, hat, hv⟩ := Term.length_spec h2
      have e0 : Term.eval args s none [] s (.int 0) = some (.int 0) := rfl
      rw [h2, hv, e0] at h
      simp at h
      rw [hv, h]
      rfl
  obtain ⟨t0, h3, h4⟩ := va_Tof (N := 0) (f := fun _ => .null) (by decide) (hs (.arrayOf tED (.object "java/lang/Object")) (by decide +kernel)) hlen (fun j hj => absurd hj (Nat.not_lt_zero j)) hA
  exact ⟨t0, vx_Zqof (hts _ (by decide +kernel)) (hts _ (by decide +kernel)) (hs (.isRef (.static Bundle.tN "UNASSIGNED_STACK" Bundle.steD)) (by decide +kernel)) hA, vx_Zqof (hts _ (by decide +kernel)) (hts _ (by decide +kernel)) (hs (.isRef (.static Bundle.tN "SUPPRESSED_SENTINEL" Bundle.listD)) (by decide +kernel)) hA, va_Zof (hts _ (by decide +kernel)) (hts _ (by decide +kernel)) h3 hA, h4⟩
