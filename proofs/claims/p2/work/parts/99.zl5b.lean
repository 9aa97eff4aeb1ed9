/-! java/lang/Long.numberOfTrailingZeros -/
def vw_9 : sx_Wl := ([], [], [])
def vq_9 (y0_ : Int) (S0_ : sm_S) (u_ : Option sm_V) (S1_ : sm_S) : Prop := S0_ = S1_ ∧ ∃ v_ : Int, u_ = some (.inl v_) ∧ ((0 ≤ v_ ∧ v_ ≤ 64) ∧ (y0_ ≠ 0 → v_ ≤ 63))
set_option maxHeartbeats 400000 in
theorem vc_9 {sc_ : Nat × (Nat → Int)} (y0_ : Int) (S0_ : sm_S) (hI_ : gi S0_) (h0_ : nl9 y0_) : sm_T (mt_P sc_) 1 9 (0, [some (.inr (.inl y0_)), none, none], [], S0_) (fun ro9_ => ∃ u_ S1_, ro9_ = (.inl u_, S1_, 0) ∧ vq_9 y0_ S0_ u_ S1_) := by
  have hF_ : ai_fr (sx_W vw_9) S0_ S0_ := ai_fr_rf
  have bx1_ := l_l2i_n y0_
  refine sm_T_go 4 (c1 := (4, [some (.inr (.inl y0_)), none, some (.inl (l_l2i y0_))], [.inl (l_l2i y0_)], S0_)) rfl ?_
  refine sm_T_b0 (a := 1) (z := 17) rfl (fun cx2_ => ?_) (fun cx2_ => ?_)
  · have cx2_ : (l_l2i y0_) ≠ 0 := of_decide_eq_true cx2_
    refine sm_T_go 1 (c1 := (22, [some (.inr (.inl y0_)), none, some (.inl (l_l2i y0_))], [.inl (l_l2i y0_)], S0_)) rfl ?_
    refine sm_T_cal (d1 := 0) (Q1 := vq_10 (l_l2i y0_) S0_) rfl rfl (by decide) (vc_10 (l_l2i y0_) S0_ hI_ (by omega)) (fun u_ Sx3_ px6_ => ?_)
    obtain ⟨rfl, vx8_, rfl, px6_⟩ := px6_
    have p9_ := px6_
    refine sm_T_ri rfl ⟨_, _, rfl, rfl, _, rfl, ?_⟩
    first | (refine ⟨by omega, fun q9_ => ?_⟩; have w9_ := p9_.2 (fun u9_ => q9_ (lz9_ u9_)); omega) | (exact ⟨by omega, fun _ => by omega⟩)
  · have cx2_ : ¬ ((l_l2i y0_) ≠ 0) := of_decide_eq_false cx2_
    have lz9_ := fun q9_ => l64z h0_ (by omega) q9_
    have bx9_ := l_l2i_n ((l_s2 y0_ 32))
    refine sm_T_go 5 (c1 := (14, [some (.inr (.inl y0_)), none, some (.inl (l_l2i y0_))], [.inl (l_l2i ((l_s2 y0_ 32))), .inl 32], S0_)) rfl ?_
    refine sm_T_cal (d1 := 0) (Q1 := vq_10 (l_l2i ((l_s2 y0_ 32))) S0_) rfl rfl (by decide) (vc_10 (l_l2i ((l_s2 y0_ 32))) S0_ hI_ (by omega)) (fun u_ Sx10_ px13_ => ?_)
    obtain ⟨rfl, vx15_, rfl, px13_⟩ := px13_
    have p9_ := px13_
    refine sm_T_bin (w := vx15_ + 32) rfl (bi_add (by omega) (by omega) (by omega)) ?_ -- pc_ 17
    refine sm_T_go 1 (c1 := (25, [some (.inr (.inl y0_)), none, some (.inl (l_l2i y0_))], [.inl (vx15_ + 32)], S0_)) rfl ?_
    refine sm_T_ri rfl ⟨_, _, rfl, rfl, _, rfl, ?_⟩
    first | (refine ⟨by omega, fun q9_ => ?_⟩; have w9_ := p9_.2 (fun u9_ => q9_ (lz9_ u9_)); omega) | (exact ⟨by omega, fun _ => by omega⟩)
