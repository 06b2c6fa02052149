/-! ===== all methods: alike, kept ===== -/
theorem r_vessel {σ : Sg} (hI : Inv σ) (p0 p1 : Int32) : R3 kc123 (g_vessel σ p0 p1) (m_vessel σ p0 p1) := ⟨e_vessel hI p0 p1, i_vessel hI p0 p1⟩
theorem r_shares {σ : Sg} (hI : Inv σ) (p0 p1 : Int32) : R3 kc12 (g_shares σ p0 p1) (m_shares σ p0 p1) := ⟨e_shares p0 p1, i_shares hI p0 p1⟩
theorem r_permit {σ : Sg} (hI : Inv σ) (p0 : Int32) : R3 kc1 (g_permit σ p0) (m_permit σ p0) := ⟨e_permit p0, i_permit hI p0⟩
theorem r_pay {σ : Sg} (hI : Inv σ) (p0 : Int32) : R3 kc23 (g_pay σ p0) (m_pay σ p0) := ⟨e_pay p0, i_pay hI p0⟩
theorem r_budget {σ : Sg} (hI : Inv σ) (p0 p1 p2 : Int32) : R3 kc23 (g_budget σ p0 p1 p2) (m_budget σ p0 p1 p2) := ⟨e_budget hI p0 p1 p2, i_budget hI p0 p1 p2⟩
theorem r_guarantee {σ : Sg} (hI : Inv σ) (p0 : Int32) : R3 kc23 (g_guarantee σ p0) (m_guarantee σ p0) := ⟨e_guarantee p0, i_guarantee hI p0⟩
theorem r_ofVessel {σ : Sg} (hI : Inv σ) (p0 p1 : Int32) : R3 kc1 (g_ofVessel σ p0 p1) (m_ofVessel σ p0 p1) := ⟨e_ofVessel hI p0 p1, i_ofVessel hI p0 p1⟩
theorem r_dropsAnew {σ : Sg} (hI : Inv σ) (p0 : Int32) : R3 kc1 (g_dropsAnew σ p0) (m_dropsAnew σ p0) := ⟨e_dropsAnew hI p0, i_dropsAnew hI p0⟩
theorem r_ofMovement {σ : Sg} (hI : Inv σ) (p0 p1 : Int32) : R3 kc1 (g_ofMovement σ p0 p1) (m_ofMovement σ p0 p1) := ⟨e_ofMovement hI p0 p1, i_ofMovement hI p0 p1⟩
theorem r_ledger {σ : Sg} (hI : Inv σ) (p0 : Int32) : R3 kc1 (g_ledger σ p0) (m_ledger σ p0) := ⟨e_ledger p0, i_ledger hI p0⟩
theorem r_duty {σ : Sg} (hI : Inv σ) (p0 : Int32) : R3 kc1 (g_duty σ p0) (m_duty σ p0) := ⟨e_duty p0, i_duty hI p0⟩
theorem exl_g : ∀ (n k : Nat) (left back : Int32) (S : Sg), (g_exl n k left back S).2.1 = S.1 ∧ (g_exl n k left back S).2.2 24 = S.2 24 := by
  intro n
  induction n with
  | zero => intro k left back S; exact ⟨rfl, rfl⟩
  | succ n ih =>
    intro k left back S
    rw [g_exl_s]
    split
    · exact ⟨rfl, rfl⟩
    · obtain ⟨h1, h2⟩ := ih (k + 1) (left - (if (S.2 19 k) < left then (S.2 19 k) else left)) (back + (lo_drawBack (S.2 19 k) (S.2 20 k) (if (S.2 19 k) < left then (S.2 19 k) else left))) (bs (bs S 19 k ((S.2 19 k) - (if (S.2 19 k) < left then (S.2 19 k) else left))) 20 k ((S.2 20 k) - (g_part (S.2 20 k) (if (S.2 19 k) < left then (S.2 19 k) else left) (S.2 19 k))))
      exact ⟨h1.trans rfl, h2.trans rfl⟩
theorem gk_shares {t0 : Nat} {η : Eg} {σ : Sg} (hG : Gok t0 η σ) (p0 p1 : Int32) : Gok t0 η (g_shares σ p0 p1).2.2 := by
  unfold g_shares
  repeat' split
  all_goals exact Gok_of hG rfl rfl rfl rfl rfl
theorem gk_run {t0 : Nat} {η : Eg} {σ : Sg} (hG : Gok t0 η σ) (p0 p1 p2 p3 p4 : Int32) : Gok t0 η (g_run σ p0 p1 p2 p3 p4).2.2 := by
  unfold g_run
  repeat' split
  all_goals exact Gok_of hG rfl rfl rfl rfl rfl
theorem gk_move {t0 : Nat} {η : Eg} {σ : Sg} (hG : Gok t0 η σ) (p0 p1 p2 : Int32) : Gok t0 η (g_move σ p0 p1 p2).2.2 := by
  unfold g_move
  repeat' split
  all_goals exact Gok_of hG rfl rfl rfl rfl rfl
theorem gk_dip {t0 : Nat} {η : Eg} {σ : Sg} (hG : Gok t0 η σ) (p0 p1 p2 : Int32) : Gok t0 η (g_dip σ p0 p1 p2).2.2 := by
  unfold g_dip
  repeat' split
  all_goals exact Gok_of hG rfl rfl rfl rfl rfl
theorem gk_lose {t0 : Nat} {η : Eg} {σ : Sg} (hG : Gok t0 η σ) (p0 p1 p2 : Int32) : Gok t0 η (g_lose σ p0 p1 p2).2.2 := by
  unfold g_lose
  repeat' split
  all_goals exact Gok_of hG rfl rfl rfl rfl rfl
theorem gk_permit {t0 : Nat} {η : Eg} {σ : Sg} (hG : Gok t0 η σ) (p0 : Int32) : Gok t0 η (g_permit σ p0).2.2 := by
  unfold g_permit
  repeat' split
  all_goals exact Gok_of hG rfl rfl rfl rfl rfl
theorem gk_denature {t0 : Nat} {η : Eg} {σ : Sg} (hG : Gok t0 η σ) (p0 p1 : Int32) : Gok t0 η (g_denature σ p0 p1).2.2 := by
  unfold g_denature
  repeat' split
  all_goals exact Gok_of hG rfl rfl rfl rfl rfl
theorem gk_export {t0 : Nat} {η : Eg} {σ : Sg} (hG : Gok t0 η σ) (p0 : Int32) : Gok t0 η (g_export σ p0).2.2 := by
  obtain ⟨h1, h2⟩ := exl_g (ix (σ.1 18)) 0 p0 0 σ
  unfold g_export
  repeat' split
  · generalize g_exl (ix (σ.1 18)) 0 p0 0 σ = f at h1 h2 ⊢
    exact Gok_of hG (congrFun h1 2) (congrFun h1 22) (congrFun h1 18) (congrFun h1 13) h2
  · exact hG
  · exact hG
theorem gk_pay {t0 : Nat} {η : Eg} {σ : Sg} (hG : Gok t0 η σ) (p0 : Int32) : Gok t0 η (g_pay σ p0).2.2 := by
  unfold g_pay
  repeat' split
  all_goals exact Gok_of hG rfl rfl rfl rfl rfl
theorem gk_guarantee {t0 : Nat} {η : Eg} {σ : Sg} (hG : Gok t0 η σ) (p0 : Int32) : Gok t0 η (g_guarantee σ p0).2.2 := by
  unfold g_guarantee
  repeat' split
  all_goals exact Gok_of hG rfl rfl rfl rfl rfl
theorem gk_arrive {t0 : Nat} {η : Eg} {σ : Sg} (hG : Gok t0 η σ) (p0 p1 : Int32) : Gok t0 η (g_arrive σ p0 p1).2.2 := by
  unfold g_arrive
  repeat' split
  all_goals exact Gok_of hG rfl rfl rfl rfl rfl
theorem gk_ofVessel {t0 : Nat} {η : Eg} {σ : Sg} (hG : Gok t0 η σ) (p0 p1 : Int32) : Gok t0 η (g_ofVessel σ p0 p1).2.2 := by
  unfold g_ofVessel
  repeat' split
  all_goals exact Gok_of hG rfl rfl rfl rfl rfl
theorem gk_dropsAnew {t0 : Nat} {η : Eg} {σ : Sg} (hG : Gok t0 η σ) (p0 : Int32) : Gok t0 η (g_dropsAnew σ p0).2.2 := by
  unfold g_dropsAnew
  repeat' split
  all_goals exact Gok_of hG rfl rfl rfl rfl rfl
theorem gk_ofMovement {t0 : Nat} {η : Eg} {σ : Sg} (hG : Gok t0 η σ) (p0 p1 : Int32) : Gok t0 η (g_ofMovement σ p0 p1).2.2 := by
  unfold g_ofMovement
  repeat' split
  all_goals exact Gok_of hG rfl rfl rfl rfl rfl
theorem gk_ledger {t0 : Nat} {η : Eg} {σ : Sg} (hG : Gok t0 η σ) (p0 : Int32) : Gok t0 η (g_ledger σ p0).2.2 := by
  unfold g_ledger
  repeat' split
  all_goals exact Gok_of hG rfl rfl rfl rfl rfl
theorem gk_duty {t0 : Nat} {η : Eg} {σ : Sg} (hG : Gok t0 η σ) (p0 : Int32) : Gok t0 η (g_duty σ p0).2.2 := by
  unfold g_duty
  repeat' split
  all_goals exact Gok_of hG rfl rfl rfl rfl rfl
theorem Inv_arr {σ : Sg} (hI : Inv σ) : ∀ k, k < ix (σ.1 22) → vp_in (σ.2 24 k) 10 ∧ ¬ σ.2 25 k = 0 := by
  intro k hk
  obtain ⟨b1, -, -, -, b5, b6⟩ := hI.2.2.2.1 k hk
  refine ⟨?_, fun e => ?_⟩
  · rw [vp_in_iff]
    have := ix_i b5
    have := hI.1.1.2
    omega
  · rw [e, ti0] at b1
    omega
theorem Inv_pl {σ : Sg} (hI : Inv σ) : ∀ v, v < ix (σ.1 2) → vp_in (σ.2 3 v) 4 := by
  intro v hv
  obtain ⟨-, -, -, -, -, b6, b7⟩ := hI.2.1 v hv
  rw [vp_in_iff]
  omega
theorem Inv_0 : Inv M_s0 := by
  have z : ix (0 : Int32) = 0 := by decide
  have n : ∀ k, ¬ k < ix (0 : Int32) := fun k h => by rw [z] at h; omega
  refine ⟨⟨⟨by decide, by decide⟩, ⟨by decide, by decide⟩, ⟨by decide, by decide⟩⟩, fun k hk => absurd hk (n k), fun k _ => ⟨rfl, rfl⟩, fun k hk => absurd hk (n k), fun k _ => rfl, fun k hk => absurd hk (n k), ⟨by decide, by decide⟩, ⟨by decide, by decide⟩, fun j _ => ⟨by show 0 ≤ (0 : Int32).toInt; decide, by show (0 : Int32).toInt ≤ 500; decide⟩⟩
