/-! Tester.twoInputs -/
def vw_171 : sx_Wl := ([], [], [])
def vq_171 (a0_ : Int) (y1_ : Int) (y3_ : Int) (S0_ : sm_S) (u_ : Option sm_V) (S1_ : sm_S) : Prop := S0_ = S1_ ∧ ∃ v_ : Int, u_ = some (.inr (.inl v_)) ∧ (True)
set_option maxHeartbeats 400000 in
theorem vc_171 {sc_ : Nat × (Nat → Int)} (a0_ : Int) (y1_ : Int) (y3_ : Int) (S0_ : sm_S) (hI_ : gi S0_) (h0_ : 0 ≤ a0_ ∧ a0_ ≤ 255) : sm_T (mt_P sc_) 1 171 (0, [some (.inl a0_), some (.inr (.inl y1_)), none, some (.inr (.inl y3_)), none], [], S0_) (fun ro9_ => ∃ u_ S1_, ro9_ = (.inl u_, S1_, 0) ∧ vq_171 a0_ y1_ y3_ S0_ u_ S1_) := by
  have hF_ : ai_fr (sx_W vw_171) S0_ S0_ := ai_fr_rf
  refine sm_T_go 1 (c1 := (1, [some (.inl a0_), some (.inr (.inl y1_)), none, some (.inr (.inl y3_)), none], [.inr (.inl y3_)], S0_)) rfl ?_
  refine sm_T_nt (u := some (.inr (.inl (-1)))) (S1 := S0_) rfl rfl rfl ?_
  refine sm_T_go 3 (c1 := (7, [some (.inl a0_), some (.inr (.inl y1_)), none, some (.inr (.inl y3_)), none], [.inr (.inl y1_), .inl a0_, .inr (.inl (l_5 y3_ (-1)))], S0_)) rfl ?_
  refine sm_T_cal (d1 := 0) (Q1 := vq_170 a0_ y1_ S0_) rfl rfl (by decide) (vc_170 a0_ y1_ S0_ hI_ (by omega)) (fun u_ Sx1_ px4_ => ?_)
  obtain ⟨rfl, vx6_, rfl, px4_⟩ := px4_
  refine sm_T_go 4 (c1 := (14, [some (.inl a0_), some (.inr (.inl y1_)), none, some (.inr (.inl y3_)), none], [.inl 2, .inl a0_, .inr (.inl y3_), .inr (.inl (l_3 ((l_5 y3_ (-1))) vx6_))], S0_)) rfl ?_
  refine sm_T_bin (w := (a0_ / 4)) rfl (bi_shr (k := 2) (by decide) (by omega) (by omega)) ?_ -- pc_ 14
  refine sm_T_go 1 (c1 := (16, [some (.inl a0_), some (.inr (.inl y1_)), none, some (.inr (.inl y3_)), none], [.inr (.inl y1_), .inl (a0_ / 4), .inr (.inl y3_), .inr (.inl (l_3 ((l_5 y3_ (-1))) vx6_))], S0_)) rfl ?_
  refine sm_T_cal (d1 := 0) (Q1 := vq_170 (a0_ / 4) y1_ S0_) rfl rfl (by decide) (vc_170 (a0_ / 4) y1_ S0_ hI_ (by omega)) (fun u_ Sx7_ px10_ => ?_)
  obtain ⟨rfl, vx12_, rfl, px10_⟩ := px10_
  refine sm_T_go 2 (c1 := (21, [some (.inl a0_), some (.inr (.inl y1_)), none, some (.inr (.inl y3_)), none], [.inr (.inl (l_4 ((l_3 ((l_5 y3_ (-1))) vx6_)) ((l_3 y3_ vx12_))))], S0_)) rfl ?_
  refine sm_T_rl rfl ⟨_, _, rfl, rfl, _, rfl, ?_⟩
  trivial
