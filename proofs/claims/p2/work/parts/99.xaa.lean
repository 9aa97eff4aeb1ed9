/-! the class reader: items; written by wip/p55/gen/vg -/
/-! Reader.readInput -/
def vw_124 : sx_Wl := ([(10, 2), (10, 3), (10, 4), (10, 5), (10, 6), (10, 7), (10, 8)], [77, 78, 79, 80, 81], [])
def vq_124 (b_ : Nat → Int) (n_ : Nat) (A_ : pA) (N_ : Nat → Nat) (M_ : Nat) (c_ : List Int) (p_ : Nat) (S0_ : sm_S) (u_ : Option sm_V) (S1_ : sm_S) : Prop := u_ = none ∧ gi S1_ ∧ ai_fr (sx_W vw_124) S0_ S1_ ∧ (∃ r_, p_in b_ n_ A_ M_ c_ p_ = .inr r_ ∧ ct b_ n_ r_.2.2 S1_ ∧ dr b_ n_ r_.1 N_ M_ r_.2.1 S1_ ∧ r_.2.1.length ≤ 3 * r_.2.2 ∧ p_ < r_.2.2)
def vx_124 (b_ : Nat → Int) (n_ : Nat) (A_ : pA) (N_ : Nat → Nat) (M_ : Nat) (c_ : List Int) (p_ : Nat) (S0_ : sm_S) (S1_ : sm_S) : Prop := gi S1_ ∧ ai_fr (sx_W vw_124) S0_ S1_ ∧ (∃ e_, p_in b_ n_ A_ M_ c_ p_ = .inl e_ ∧ ter S1_ e_)
set_option maxHeartbeats 400000 in
theorem vc_124 {sc_ : Nat × (Nat → Int)} (b_ : Nat → Int) (n_ : Nat) (A_ : pA) (N_ : Nat → Nat) (M_ : Nat) (c_ : List Int) (p_ : Nat) (S0_ : sm_S) (hI_ : gi S0_) (hc_ : ct b_ n_ p_ S0_) (hd_ : dr b_ n_ A_ N_ M_ c_ S0_) (hl_ : c_.length ≤ 3 * p_) (hk0_ : lx_kd b_ n_ p_ ≠ 0) : sm_T (mt_P sc_) 3 124 (0, [some (.inr (.inr (some (7, 0)))), none, none], [], S0_) (fun r_ => (∃ u_ S1_, r_ = (.inl u_, S1_, 0) ∧ vq_124 b_ n_ A_ N_ M_ c_ p_ S0_ u_ S1_) ∨ ∃ S1_, r_ = (.inr 2, S1_, 1) ∧ vx_124 b_ n_ A_ N_ M_ c_ p_ S0_ S1_) := by
  have hF_ : ai_fr (sx_W vw_124) S0_ S0_ := ai_fr_rf
  have st0_ := hc_.2.2.2.2.2.1
  have kd0_ := hc_.2.2.2.2.2.2.2.1
  have hp0_ := hc_.2.2.2.1
  have hn1_ := hc_.2.2.1
  have hM1_ := hd_.1.2.1.1
  have hA1_ := (hd_.1.2.1.2 M_ (Nat.le_refl _)).1
  refine sm_T_go 2 (c1 := (4, [some (.inr (.inr (some (7, 0)))), none, none], [.inr (.inr (some (10, 0)))], S0_)) rfl ?_
  refine sm_T_calx (d1 := 1) (Q1 := vq_191 b_ n_ (lx_en b_ n_ p_) S0_) (Q2 := vx_191 b_ n_ (lx_en b_ n_ p_) S0_) rfl rfl (by decide) (vc_191 b_ n_ (lx_en b_ n_ p_) S0_ hI_ (by exact hc_.1) (by exact hc_.2.1) (by exact hc_.2.2.1) (by exact hc_.2.2.2.2.2.2.1) (by exact (lx_en_le (b := b_) hc_.2.2.2.1).2)) rfl (fun Sx1_ px4_ => ?_) (fun u_ Sx1_ px4_ => ?_)
  · obtain ⟨hIx2_, hFx3_, px4_⟩ := px4_
    refine Or.inr ⟨_, rfl, hIx2_, ai_fr_tr hF_ (fr_le hFx3_ rfl), ?_⟩
    refine ⟨(1, (lx_nx b_ n_ p_)), ?_, px4_.2⟩
    unfold p_in; rw [pb_l (p_ad_x px4_.1)]
  obtain ⟨rfl, hIx2_, hFx3_, px4_⟩ := px4_
  have hFx5_ : ai_fr (sx_W vw_124) S0_ Sx1_ := ai_fr_tr hF_ (fr_le hFx3_ rfl)
  have c1_ : ct b_ n_ (lx_nx b_ n_ p_) _ := px4_
  have a1_ := p_ad_c px4_
  have d1_ := dr_fr hd_ hFx3_ rfl rfl rfl rfl rfl rfl rfl rfl rfl rfl
  have k1_ := p_ad_ok hc_.2.2.2.1 (by omega) a1_
  have st1_ := c1_.2.2.2.2.2.1
  have kd1_ := c1_.2.2.2.2.2.2.2.1
  have hp1_ := c1_.2.2.2.1
  have bx6_ : 0 ≤ Sx1_.1 7 0 3 ∧ Sx1_.1 7 0 3 ≤ 16 := hIx2_.1 7 0 3 rfl
  refine sm_T_go 4 (c1 := (14, [some (.inr (.inr (some (7, 0)))), none, none], [.inl 40, .inl (Sx1_.1 7 0 3), .inr (.inr (some (7, 0)))], Sx1_)) rfl ?_
  refine sm_T_calx (d1 := 2) (Q1 := vq_120 (Sx1_.1 7 0 3) 40 b_ n_ (lx_nx b_ n_ p_) M_ (A_.1 M_) (fun s_ => A_.2.1 (40 * M_ + s_)) Sx1_) (Q2 := vx_120 (Sx1_.1 7 0 3) 40 b_ n_ (lx_nx b_ n_ p_) M_ (A_.1 M_) (fun s_ => A_.2.1 (40 * M_ + s_)) Sx1_) rfl rfl (by decide) (vc_120 (Sx1_.1 7 0 3) 40 b_ n_ (lx_nx b_ n_ p_) M_ (A_.1 M_) (fun s_ => A_.2.1 (40 * M_ + s_)) Sx1_ hIx2_ (by exact c1_) (by exact d1_.1.1) (by exact er_nmr d1_.1 (Nat.le_refl _))) rfl (fun Sx7_ px10_ => ?_) (fun u_ Sx7_ px10_ => ?_)
  · obtain ⟨hIx8_, hFx9_, px10_⟩ := px10_
    refine Or.inr ⟨_, rfl, hIx8_, ai_fr_tr hFx5_ (fr_le hFx9_ rfl), ?_⟩
    obtain ⟨e_, w1_, w2_⟩ := px10_
    refine ⟨e_, ?_, w2_⟩
    unfold p_in; rw [pb_r a1_, pb_l (show p_nw b_ n_ A_ M_ (lx_nx b_ n_ p_) = .inl e_ from w1_)]
  obtain ⟨vx12_, rfl, hIx8_, hFx9_, px10_⟩ := px10_
  have hFx11_ : ai_fr (sx_W vw_124) S0_ Sx7_ := ai_fr_tr hFx5_ (fr_le hFx9_ rfl)
  have ex13_ : Sx7_.1 7 0 3 = Sx1_.1 7 0 3 := hFx9_.1 7 0 3 rfl
  obtain ⟨nv_, nk_, r2_, a2_, c2_⟩ := px10_
  have a2_ : p_nw b_ n_ A_ M_ (lx_nx b_ n_ p_) = .inr r2_ := a2_
  have d2_ := dr_fr d1_ hFx9_ rfl rfl rfl rfl rfl rfl rfl rfl rfl rfl
  have nn_ := p_nn_ok a2_
  have nm_ : nmp b_ n_ (lx_nx b_ n_ p_) := ⟨c1_.2.2.2.1, nk_⟩
  have k2_ := p_ad_ok c1_.2.2.2.1 (by omega) nn_.2.2
  have nK_ : A_.1 M_ < 40 := by omega
  have st2_ := c2_.2.2.2.2.2.1
  have kd2_ := c2_.2.2.2.2.2.2.2.1
  have hp2_ := c2_.2.2.2.1
  refine sm_T_go 2 (c1 := (19, [some (.inr (.inr (some (7, 0)))), some (.inl vx12_), none], [.inr (.inr (some (7, 0)))], Sx7_)) rfl ?_
  refine sm_T_calx (d1 := 2) (Q1 := vq_123 b_ n_ r2_ Sx7_) (Q2 := vx_123 b_ n_ r2_ Sx7_) rfl rfl (by decide) (vc_123 b_ n_ r2_ Sx7_ hIx8_ (by exact c2_)) rfl (fun Sx14_ px17_ => ?_) (fun u_ Sx14_ px17_ => ?_)
  · obtain ⟨hIx15_, hFx16_, px17_⟩ := px17_
    refine Or.inr ⟨_, rfl, hIx15_, ai_fr_tr hFx11_ (fr_le hFx16_ rfl), ?_⟩
    obtain ⟨e_, w1_, w2_⟩ := px17_
    refine ⟨e_, ?_, w2_⟩
    unfold p_in; rw [pb_r a1_, pb_r a2_, pb_l w1_]
  obtain ⟨vx19_, rfl, hIx15_, hFx16_, px17_⟩ := px17_
  have hFx18_ : ai_fr (sx_W vw_124) S0_ Sx14_ := ai_fr_tr hFx11_ (fr_le hFx16_ rfl)
  obtain ⟨r3_, a3_, c3_⟩ := px17_
  have d3_ := dr_fr d2_ hFx16_ rfl rfl rfl rfl rfl rfl rfl rfl rfl rfl
  have k3_ := p_wi_ok c2_.2.2.2.1 c2_.2.2.2.2.1 a3_
  have k3a : r2_ ≤ r3_ := k3_.1
  have k3b : 1 ≤ vx19_ ∧ vx19_ ≤ 8 := k3_.2.2.2
  have st3_ := c3_.2.2.2.2.2.1
  have kd3_ := c3_.2.2.2.2.2.2.2.1
  have hp3_ := c3_.2.2.2.1
  refine sm_T_go 4 (c1 := (29, [some (.inr (.inr (some (7, 0)))), some (.inl vx12_), some (.inl vx19_)], [.inl 59, .inr (.inr (some (10, 0)))], Sx14_)) rfl ?_
  refine sm_T_calx (d1 := 2) (Q1 := vq_188 59 b_ n_ r3_ Sx14_) (Q2 := vx_188 59 b_ n_ r3_ Sx14_) rfl rfl (by decide) (vc_188 59 b_ n_ r3_ Sx14_ hIx15_ (by exact c3_)) rfl (fun Sx20_ px23_ => ?_) (fun u_ Sx20_ px23_ => ?_)
  · obtain ⟨hIx21_, hFx22_, px23_⟩ := px23_
    refine Or.inr ⟨_, rfl, hIx21_, ai_fr_tr hFx18_ (fr_le hFx22_ rfl), ?_⟩
    obtain ⟨e_, w1_, w2_⟩ := px23_
    refine ⟨e_, ?_, w2_⟩
    unfold p_in; rw [pb_r a1_, pb_r a2_, pb_r a3_, pb_l w1_]
  obtain ⟨rfl, hIx21_, hFx22_, px23_⟩ := px23_
  have hFx24_ : ai_fr (sx_W vw_124) S0_ Sx20_ := ai_fr_tr hFx18_ (fr_le hFx22_ rfl)
  obtain ⟨r4_, a4_, c4_⟩ := px23_
  have k4_ := p_nd_ok (by decide) c3_.2.2.2.1 a4_
  have d4_ := dr_fr d3_ hFx22_ rfl rfl rfl rfl rfl rfl rfl rfl rfl rfl
  have st4_ := c4_.2.2.2.2.2.1
  have kd4_ := c4_.2.2.2.2.2.2.2.1
  have hp4_ := c4_.2.2.2.1
  refine sm_T_go 5 (c1 := (37, [some (.inr (.inr (some (7, 0)))), some (.inl vx12_), some (.inl vx19_)], [.inl 0, .inl vx19_, .inl 0, .inl vx12_, .inr (.inr (some (7, 0)))], Sx20_)) rfl ?_
  refine sm_T_cal (d1 := 0) (Q1 := vq_121 vx12_ 0 vx19_ 0 b_ n_ A_ N_ M_ c_ (lx_nx b_ n_ p_) Sx20_) rfl rfl (by decide) (vc_121 vx12_ 0 vx19_ 0 b_ n_ A_ N_ M_ c_ (lx_nx b_ n_ p_) Sx20_ hIx21_ (by exact d4_) (by exact nv_) (by exact nm_) (by exact hn1_) (by exact nK_) (by omega) (by omega) (by intro _; omega) (by intro z_; omega) (by omega)) (fun u_ Sx25_ px28_ => ?_)
  obtain ⟨rfl, hIx26_, hFx27_, px28_⟩ := px28_
  have hFx29_ : ai_fr (sx_W vw_124) S0_ Sx25_ := ai_fr_tr hFx24_ (fr_le hFx27_ rfl)
  have dt_ := px28_
  have FT_ := hFx27_
  refine sm_T_rv rfl (Or.inl ⟨_, _, rfl, rfl, hIx26_, hFx29_, ?_⟩)
  exact ⟨_, by unfold p_in; rw [pb_r a1_, pb_r a2_, pb_r a3_, pb_r a4_], ct_fr c4_ FT_ rfl rfl rfl rfl rfl rfl rfl, dt_, by show c_.length ≤ 3 * r4_; omega, by show p_ < r4_; omega⟩
