abbrev tED : Term := .static "java/util/ArrayList" "DEFAULTCAPACITY_EMPTY_ELEMENTDATA" nOb
theorem envH_start {args : Array Value} {s : State} (hts : ∀ w ∈ lw_tbl, w.before args s = true) (hn : (Jvm.Cond.and given_1 narrow_1).before args s = true) : ∃ t0, EnvH t0 (fun q => s.heap.size ≤ q) s s.heap := by
  have hs := flat_of_before _ hn
  have hA : ∀ a : Nat, a < s.heap.size → ¬ (s.heap.size ≤ a) := fun a h1 h2 => by omega
  have h := hs (.eq (.length tED) (.int 0)) (by decide +kernel)
  have hlen : (Term.length tED).eval args s none [] s = some (.int (Int32.ofNat 0)) := by
    simp only [Cond.before, Cond.holds, Cond.value] at h
    cases h2 : (Term.length tED).eval args s none [] s with
    | none => simp [h2] at h
    | some v =>
      obtain ⟨t, cell, ht, hat, hv⟩ := Term.length_spec h2
      have e0 : Term.eval args s none [] s (.int 0) = some (.int 0) := rfl
      rw [h2, hv, e0] at h
      simp at h
      rw [hv, h]
      rfl
  obtain ⟨t0, h3, h4⟩ := va_Tof (N := 0) (f := fun _ => .null) (by decide) (hs (.arrayOf tED (.object "java/lang/Object")) (by decide +kernel)) hlen (fun j hj => absurd hj (Nat.not_lt_zero j)) hA
  exact ⟨t0, vx_Zqof (hts _ (by decide +kernel)) (hts _ (by decide +kernel)) (hs (.isRef (.static Bundle.tN "UNASSIGNED_STACK" Bundle.steD)) (by decide +kernel)) hA, vx_Zqof (hts _ (by decide +kernel)) (hts _ (by decide +kernel)) (hs (.isRef (.static Bundle.tN "SUPPRESSED_SENTINEL" Bundle.listD)) (by decide +kernel)) hA, va_Zof (hts _ (by decide +kernel)) (hts _ (by decide +kernel)) h3 hA, h4⟩
