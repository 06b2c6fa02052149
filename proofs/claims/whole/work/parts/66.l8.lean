theorem srl_tbl : ∀ q ∈ SRl, Cond.stringRef RX6 q.1 q.2 ∈ lw_tbl := by decide +kernel
theorem envV_start {args : Array Value} {s : State} (hts : ∀ w ∈ lw_tbl, w.before args s = true) (hn : (Jvm.Cond.and given_1 narrow_1).before args s = true) : EnvV s := by
  have hs := flat_of_before _ hn
  have hN := envN_start hts
  obtain ⟨c3, -, w1, -, -⟩ := Cond.castable_spec (hts (.castable RX6 "java/lang/Object") (by decide +kernel))
  refine ⟨hN, fun q hq => ?_, va_AO.of (hts (.arrayOver (.object "java/lang/Object")) (by decide +kernel)), va_Mi.of (hs (.isRef (.mirror nOb)) (by decide +kernel))⟩
  have h1 := hts _ (srl_tbl q hq)
  obtain ⟨k, cf, i, a, -, -, -, -, -, h2⟩ := Cond.stringRef_spec w1 h1
  exact ⟨a, vk_R.of h1 h2⟩
