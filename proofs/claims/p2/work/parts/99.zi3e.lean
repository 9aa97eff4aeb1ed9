/-! M_.bitOf -/
def vw_359 : sx_Wl := ([], [], [])
def vq_359 (l_ : Int) (p_ : Int) (S0_ : sm_S) (u_ : Option sm_V) (S1_ : sm_S) : Prop := S0_ = S1_ ∧ ∃ v_ : Int, u_ = some (.inl v_) ∧ (v_ = 0 ∨ v_ = 1)
set_option maxHeartbeats 400000 in
theorem vc_359 {sc_ : Nat × (Nat → Int)} (l_ : Int) (p_ : Int) (S0_ : sm_S) (hI_ : gi S0_) (hl_ : 0 ≤ l_ ∧ l_ ≤ 2047) (hp_ : 0 ≤ p_ ∧ p_ ≤ 4095) : sm_T (mt_P sc_) 1 359 (0, [some (.inr (.inr (some (13, 0)))), some (.inl l_), some (.inl p_)], [], S0_) (fun ro9_ => ∃ u_ S1_, ro9_ = (.inl u_, S1_, 0) ∧ vq_359 l_ p_ S0_ u_ S1_) := by
  have hF_ : ai_fr (sx_W vw_359) S0_ S0_ := ai_fr_rf
  refine sm_T_go 4 (c1 := (5, [some (.inr (.inr (some (13, 0)))), some (.inl l_), some (.inl p_)], [.inl 6, .inl p_, .inl l_, .inr (.inr (some (13, 0)))], S0_)) rfl ?_
  refine sm_T_bin (w := (p_ / 64)) rfl (bi_shr (k := 6) (by decide) (by omega) (by omega)) ?_
  refine sm_T_cal (d1 := 0) (Q1 := vq_351 l_ (p_ / 64) S0_) rfl rfl (by decide) (vc_351 l_ (p_ / 64) S0_ hI_ (by omega) (by omega)) (fun u_ Sx1_ px4_ => ?_)
  obtain ⟨rfl, vx6_, rfl, px4_⟩ := px4_
  refine sm_T_go 2 (c1 := (12, [some (.inr (.inr (some (13, 0)))), some (.inl l_), some (.inl p_)], [.inl 63, .inl p_, .inr (.inl vx6_)], S0_)) rfl ?_
  refine sm_T_bin (w := (p_ % 64)) rfl (bi_msk (k := 6) (by decide)) ?_
  refine sm_T_go 4 (c1 := (17, [some (.inr (.inr (some (13, 0)))), some (.inl l_), some (.inl p_)], [.inl (l_l2i ((l_3 ((l_s2 vx6_ (p_ % 64))) 1)))], S0_)) rfl ?_
  refine sm_T_ri rfl ⟨_, _, rfl, rfl, _, rfl, ?_⟩
  exact l_bit
