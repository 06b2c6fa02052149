theorem nwl_tbl : ∀ w ∈ NWl, w ∈ lw_tbl := by decide +kernel
theorem envN_start {args : Array Value} {s : State} (hts : ∀ w ∈ lw_tbl, w.before args s = true) : EnvN s := fun w hw => va_Nw.of (nw_tabs (NWl_ok w hw)) (hts w (nwl_tbl w hw))
theorem envC_start {args : Array Value} {s : State} (hts : ∀ w ∈ lw_tbl, w.before args s = true) (hn : (Jvm.Cond.and given_1 narrow_1).before args s = true) : EnvC s := by
  have hs := flat_of_before _ hn
  exact ⟨fun a => va_any rfl (hts (.classLink RL 13 nX1) (by decide +kernel)), fun a => va_any rfl (hts (.classLink RL 15 nX2) (by decide +kernel)), fun a => va_any rfl (hts (.classLink RL 17 nX3) (by decide +kernel)), va_Nc.of (hs (.not (.castable nX2 nX1)) (by decide +kernel)), va_Nc.of (hs (.not (.castable nX3 nX1)) (by decide +kernel)), va_Nc.of (hs (.not (.castable nX3 nX2)) (by decide +kernel))⟩
