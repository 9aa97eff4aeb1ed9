/-! Reader.readWidth -/
def vw_123 : sx_Wl := ([(10, 2), (10, 3), (10, 4), (10, 5), (10, 6), (10, 7), (10, 8)], [], [])
def vq_123 (b_ : Nat → Int) (n_ : Nat) (p_ : Nat) (S0_ : sm_S) (u_ : Option sm_V) (S1_ : sm_S) : Prop := ∃ v_ : Int, u_ = some (.inl v_) ∧ gi S1_ ∧ ai_fr (sx_W vw_123) S0_ S1_ ∧ (∃ r_, p_wi b_ n_ p_ = .inr (r_, v_) ∧ ct b_ n_ r_ S1_)
def vx_123 (b_ : Nat → Int) (n_ : Nat) (p_ : Nat) (S0_ : sm_S) (S1_ : sm_S) : Prop := gi S1_ ∧ ai_fr (sx_W vw_123) S0_ S1_ ∧ (∃ e_, p_wi b_ n_ p_ = .inl e_ ∧ ter S1_ e_)
set_option maxHeartbeats 400000 in
theorem vc_123 {sc_ : Nat × (Nat → Int)} (b_ : Nat → Int) (n_ : Nat) (p_ : Nat) (S0_ : sm_S) (hI_ : gi S0_) (hc_ : ct b_ n_ p_ S0_) : sm_T (mt_P sc_) 2 123 (0, [some (.inr (.inr (some (7, 0)))), none], [], S0_) (fun r_ => (∃ u_ S1_, r_ = (.inl u_, S1_, 0) ∧ vq_123 b_ n_ p_ S0_ u_ S1_) ∨ ∃ S1_, r_ = (.inr 2, S1_, 1) ∧ vx_123 b_ n_ p_ S0_ S1_) := by
  have hF_ : ai_fr (sx_W vw_123) S0_ S0_ := ai_fr_rf
  have st0_ := hc_.2.2.2.2.2.1
  have kd0_ := hc_.2.2.2.2.2.2.2.1
  have hp0_ := hc_.2.2.2.1
  have bx1_ : (-128) ≤ S0_.1 10 0 2 ∧ S0_.1 10 0 2 ≤ 257 := hI_.1 10 0 2 rfl
  refine sm_T_go 4 (c1 := (9, [some (.inr (.inr (some (7, 0)))), none], [.inl 58, .inl (S0_.1 10 0 2)], S0_)) rfl ?_
  refine sm_T_br (a := 0) (z := 5) rfl (fun cx2_ => ?_) (fun cx2_ => ?_)
  · have cx2_ : (S0_.1 10 0 2) = 58 := of_decide_eq_true cx2_
    refine sm_T_go 2 (c1 := (18, [some (.inr (.inr (some (7, 0)))), none], [.inr (.inr (some (10, 0)))], S0_)) rfl ?_
    refine sm_T_calx (d1 := 1) (Q1 := vq_191 b_ n_ (lx_en b_ n_ p_) S0_) (Q2 := vx_191 b_ n_ (lx_en b_ n_ p_) S0_) rfl rfl (by decide) (vc_191 b_ n_ (lx_en b_ n_ p_) S0_ hI_ (by exact hc_.1) (by exact hc_.2.1) (by exact hc_.2.2.1) (by exact hc_.2.2.2.2.2.2.1) (by exact (lx_en_le (b := b_) hc_.2.2.2.1).2)) rfl (fun Sx3_ px6_ => ?_) (fun u_ Sx3_ px6_ => ?_)
    · obtain ⟨hIx4_, hFx5_, px6_⟩ := px6_
      refine Or.inr ⟨_, rfl, hIx4_, ai_fr_tr hF_ (fr_le hFx5_ rfl), ?_⟩
      refine ⟨(1, (lx_nx b_ n_ p_)), ?_, px6_.2⟩
      unfold p_wi; rw [if_pos (by omega), pb_l (p_ad_x px6_.1)]
    obtain ⟨rfl, hIx4_, hFx5_, px6_⟩ := px6_
    have hFx7_ : ai_fr (sx_W vw_123) S0_ Sx3_ := ai_fr_tr hF_ (fr_le hFx5_ rfl)
    have c1_ : ct b_ n_ (lx_nx b_ n_ p_) _ := px6_
    have a1_ := p_ad_c px6_
    refine sm_T_go 3 (c1 := (25, [some (.inr (.inr (some (7, 0)))), none], [.inl 8, .inl 1, .inr (.inr (some (7, 0)))], Sx3_)) rfl ?_
    refine sm_T_calx (d1 := 1) (Q1 := vq_122 1 8 b_ n_ (lx_nx b_ n_ p_) Sx3_) (Q2 := vx_122 1 8 b_ n_ (lx_nx b_ n_ p_) Sx3_) rfl rfl (by decide) (vc_122 1 8 b_ n_ (lx_nx b_ n_ p_) Sx3_ hIx4_ (by exact c1_)) rfl (fun Sx8_ px11_ => ?_) (fun u_ Sx8_ px11_ => ?_)
    · obtain ⟨hIx9_, hFx10_, px11_⟩ := px11_
      refine Or.inr ⟨_, rfl, hIx9_, ai_fr_tr hFx7_ (fr_le hFx10_ rfl), ?_⟩
      obtain ⟨e_, w1_, w2_⟩ := px11_
      refine ⟨e_, ?_, w2_⟩
      unfold p_wi; rw [if_pos (by omega), pb_r a1_, pb_l w1_]
    obtain ⟨vx13_, rfl, hIx9_, hFx10_, px11_⟩ := px11_
    have hFx12_ : ai_fr (sx_W vw_123) S0_ Sx8_ := ai_fr_tr hFx7_ (fr_le hFx10_ rfl)
    have a2_ := px11_
    have c2_ := ct_fr c1_ hFx10_ rfl rfl rfl rfl rfl rfl rfl
    refine sm_T_go 3 (c1 := (33, [some (.inr (.inr (some (7, 0)))), some (.inl vx13_)], [.inr (.inr (some (10, 0)))], Sx8_)) rfl ?_
    refine sm_T_calx (d1 := 1) (Q1 := vq_191 b_ n_ (lx_en b_ n_ (lx_nx b_ n_ p_)) Sx8_) (Q2 := vx_191 b_ n_ (lx_en b_ n_ (lx_nx b_ n_ p_)) Sx8_) rfl rfl (by decide) (vc_191 b_ n_ (lx_en b_ n_ (lx_nx b_ n_ p_)) Sx8_ hIx9_ (by exact c2_.1) (by exact c2_.2.1) (by exact c2_.2.2.1) (by exact c2_.2.2.2.2.2.2.1) (by exact (lx_en_le (b := b_) c2_.2.2.2.1).2)) rfl (fun Sx14_ px17_ => ?_) (fun u_ Sx14_ px17_ => ?_)
    · obtain ⟨hIx15_, hFx16_, px17_⟩ := px17_
      refine Or.inr ⟨_, rfl, hIx15_, ai_fr_tr hFx12_ (fr_le hFx16_ rfl), ?_⟩
      refine ⟨(1, (lx_nx b_ n_ (lx_nx b_ n_ p_))), ?_, px17_.2⟩
      unfold p_wi; rw [if_pos (by omega), pb_r a1_, pb_r a2_, pb_l (p_ad_x px17_.1)]
    obtain ⟨rfl, hIx15_, hFx16_, px17_⟩ := px17_
    have hFx18_ : ai_fr (sx_W vw_123) S0_ Sx14_ := ai_fr_tr hFx12_ (fr_le hFx16_ rfl)
    have c3_ : ct b_ n_ (lx_nx b_ n_ (lx_nx b_ n_ p_)) _ := px17_
    have a3_ := p_ad_c px17_
    refine sm_T_go 1 (c1 := (37, [some (.inr (.inr (some (7, 0)))), some (.inl vx13_)], [.inl vx13_], Sx14_)) rfl ?_
    refine sm_T_ri rfl (Or.inl ⟨_, _, rfl, _, rfl, hIx15_, hFx18_, ?_⟩)
    exact ⟨(lx_nx b_ n_ (lx_nx b_ n_ p_)), by unfold p_wi; rw [if_pos (by omega), pb_r a1_, pb_r a2_, pb_r a3_], c3_⟩
  · have cx2_ : ¬ ((S0_.1 10 0 2) = 58) := of_decide_eq_false cx2_
    refine sm_T_go 1 (c1 := (13, [some (.inr (.inr (some (7, 0)))), none], [.inl 1], S0_)) rfl ?_
    refine sm_T_ri rfl (Or.inl ⟨_, _, rfl, _, rfl, hI_, hF_, ?_⟩)
    exact ⟨p_, by unfold p_wi; rw [if_neg (by omega)], hc_⟩
