/-! ===== the start: what the words give ===== -/
theorem ka_int {args : Array Value} {s : State} (h : (Cond.arrayClass .int).before args s = true) : ∃ cA, ArrOfT s cA .int ∧ va_RA s cA .int := by
  obtain ⟨cA, kA, comp, h1, h2, h3⟩ := Cond.arrayClass_spec h
  exact ⟨cA, fun n z => ⟨fun k h => (by cases h), kA, h2, comp, h3⟩, h1⟩
theorem ka_long {args : Array Value} {s : State} (h : (Cond.arrayClass .long).before args s = true) : ∃ cA, ArrOfT s cA .long ∧ va_RA s cA .long := by
  obtain ⟨cA, kA, comp, h1, h2, h3⟩ := Cond.arrayClass_spec h
  exact ⟨cA, fun n z => ⟨fun k h => (by cases h), kA, h2, comp, h3⟩, h1⟩
theorem ka_obj {s : State} (h : va_AO "java/lang/Object" s) : ∃ cA, ArrOfT s cA (.object "java/lang/Object") ∧ va_RA s cA (.object "java/lang/Object") := by
  obtain ⟨comp, cA, kA, h1, -, h3, h4, h5⟩ := Cond.arrayOver_spec (va_AO.use (A := #[]) h)
  exact ⟨cA, fun n z => ⟨fun k h => (by cases h), kA, h3, comp, h4⟩, kA, comp, h3, h4, h1, h5⟩
theorem k_start {args : Array Value} {s : State} (hts : ∀ w ∈ lw_tbl, w.before args s = true) (hO : va_AO "java/lang/Object" s) : ∃ (D : va_G) (cI cO cJ : ClassId), va_K D vwCl (tyL cI cO cJ) s := by
  obtain ⟨c0, i0, k0⟩ := u_known (T := TJx4a65c) hts inJx4a65c (hts (.instantiable RJx4a65c 3) (by decide +kernel))
  obtain ⟨c1, i1, k1⟩ := u_known (T := TX0) hts inX0 (hts (.instantiable RX0 3) (by decide +kernel))
  obtain ⟨c2, i2, k2⟩ := u_known (T := TX1) hts inX1 (hts (.instantiable RX1 3) (by decide +kernel))
  obtain ⟨c3, i3, k3⟩ := u_known (T := TX2) hts inX2 (hts (.instantiable RX2 5) (by decide +kernel))
  obtain ⟨c4, i4, k4⟩ := u_known (T := TX3) hts inX3 (hts (.instantiable RX3 2) (by decide +kernel))
  obtain ⟨c5, i5, k5⟩ := u_known (T := TX4) hts inX4 (hts (.instantiable RX4 5) (by decide +kernel))
  obtain ⟨c6, i6, k6⟩ := u_known (T := TX5) hts inX5 (hts (.instantiable RX5 4) (by decide +kernel))
  obtain ⟨c7, i7, k7⟩ := u_known (T := TX6) hts inX6 (hts (.instantiable RX6 12) (by decide +kernel))
  obtain ⟨c8, i8, k8⟩ := u_known (T := TX7) hts inX7 (hts (.instantiable RX7 28) (by decide +kernel))
  obtain ⟨cI, a1, r1⟩ := ka_int (hts (.arrayClass .int) (by decide +kernel))
  obtain ⟨cJ, a2, r2⟩ := ka_long (hts (.arrayClass .long) (by decide +kernel))
  obtain ⟨cO, a3, r3⟩ := ka_obj hO
  refine ⟨(fun c => match c with | 0 => c0 | 1 => c1 | 2 => c2 | 3 => c3 | 4 => c4 | 5 => c5 | 6 => c6 | 7 => c7 | _ => c8, fun c => match c with | 0 => i0 | 1 => i1 | 2 => i2 | 3 => i3 | 4 => i4 | 5 => i5 | 6 => i6 | 7 => i7 | _ => i8), cI, cO, cJ, fun c q hc => ?_, fun k q hk => ?_⟩
  · match c, hc with
    | 0, hc => cases hc; exact k0
    | 1, hc => cases hc; exact k1
    | 2, hc => cases hc; exact k2
    | 3, hc => cases hc; exact k3
    | 4, hc => cases hc; exact k4
    | 5, hc => cases hc; exact k5
    | 6, hc => cases hc; exact k6
    | 7, hc => cases hc; exact k7
    | 8, hc => cases hc; exact k8
    | c + 9, hc => simp [vwCl] at hc
  · match k, hk with
    | 0, hk => cases hk; exact ⟨a1, r1⟩
    | 1, hk => cases hk; exact ⟨a3, r3⟩
    | 2, hk => cases hk; exact ⟨a2, r2⟩
    | k + 3, hk => simp at hk
