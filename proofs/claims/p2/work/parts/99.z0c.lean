/-! Reader.readMeasure -/
def vw_133 : sx_Wl := ([(10, 2), (10, 3), (10, 4), (10, 5), (10, 6), (10, 7), (10, 8)], [], [])
def vq_133 (mo_ : Int) (b_ : Nat → Int) (n_ : Nat) (p_ : Nat) (S0_ : sm_S) (u_ : Option sm_V) (S1_ : sm_S) : Prop := ∃ v_ : Int, u_ = some (.inl v_) ∧ gi S1_ ∧ ai_fr (sx_W vw_133) S0_ S1_ ∧ (∃ q_, p_ms b_ n_ mo_ p_ = .inr (q_, v_) ∧ ct b_ n_ q_ S1_ ∧ p_ < q_ ∧ 1 ≤ v_ ∧ v_ ≤ mo_)
def vx_133 (mo_ : Int) (b_ : Nat → Int) (n_ : Nat) (p_ : Nat) (S0_ : sm_S) (S1_ : sm_S) : Prop := gi S1_ ∧ ai_fr (sx_W vw_133) S0_ S1_ ∧ (∃ e_, p_ms b_ n_ mo_ p_ = .inl e_ ∧ ter S1_ e_)
set_option maxHeartbeats 400000 in
theorem vc_133 {sc_ : Nat × (Nat → Int)} (mo_ : Int) (b_ : Nat → Int) (n_ : Nat) (p_ : Nat) (S0_ : sm_S) (hI_ : gi S0_) (hc_ : ct b_ n_ p_ S0_) : sm_T (mt_P sc_) 2 133 (0, [some (.inr (.inr (some (7, 0)))), some (.inl mo_), none], [], S0_) (fun r_ => (∃ u_ S1_, r_ = (.inl u_, S1_, 0) ∧ vq_133 mo_ b_ n_ p_ S0_ u_ S1_) ∨ ∃ S1_, r_ = (.inr 2, S1_, 1) ∧ vx_133 mo_ b_ n_ p_ S0_ S1_) := by
  have hF_ : ai_fr (sx_W vw_133) S0_ S0_ := ai_fr_rf
  have hn1_ := hc_.2.2.1
  refine sm_T_go 3 (c1 := (3, [some (.inr (.inr (some (7, 0)))), some (.inl mo_), none], [.inl mo_, .inl 1, .inr (.inr (some (7, 0)))], S0_)) rfl ?_
  refine sm_T_calx (d1 := 1) (Q1 := vq_122 1 mo_ b_ n_ p_ S0_) (Q2 := vx_122 1 mo_ b_ n_ p_ S0_) rfl rfl (by decide) (vc_122 1 mo_ b_ n_ p_ S0_ hI_ (by exact hc_)) rfl (fun Sx1_ px4_ => ?_) (fun u_ Sx1_ px4_ => ?_)
  · obtain ⟨hIx2_, hFx3_, px4_⟩ := px4_
    refine Or.inr ⟨_, rfl, hIx2_, ai_fr_tr hF_ (fr_le hFx3_ rfl), ?_⟩
    obtain ⟨e_, w1_, w2_⟩ := px4_
    exact ⟨e_, ms_x w1_, w2_⟩
  obtain ⟨vx6_, rfl, hIx2_, hFx3_, px4_⟩ := px4_
  have hFx5_ : ai_fr (sx_W vw_133) S0_ Sx1_ := ai_fr_tr hF_ (fr_le hFx3_ rfl)
  have a3_ := px4_
  have k3_ := p_nu_ok a3_
  have c3_ := ct_fr hc_ hFx3_ rfl rfl rfl rfl rfl rfl rfl
  refine sm_T_go 3 (c1 := (11, [some (.inr (.inr (some (7, 0)))), some (.inl mo_), some (.inl vx6_)], [.inr (.inr (some (10, 0)))], Sx1_)) rfl ?_
  refine sm_T_calx (d1 := 1) (Q1 := vq_191 b_ n_ (lx_en b_ n_ p_) Sx1_) (Q2 := vx_191 b_ n_ (lx_en b_ n_ p_) Sx1_) rfl rfl (by decide) (vc_191 b_ n_ (lx_en b_ n_ p_) Sx1_ hIx2_ (by exact c3_.1) (by exact c3_.2.1) (by exact c3_.2.2.1) (by exact c3_.2.2.2.2.2.2.1) (by exact (lx_en_le (b := b_) c3_.2.2.2.1).2)) rfl (fun Sx7_ px10_ => ?_) (fun u_ Sx7_ px10_ => ?_)
  · obtain ⟨hIx8_, hFx9_, px10_⟩ := px10_
    refine Or.inr ⟨_, rfl, hIx8_, ai_fr_tr hFx5_ (fr_le hFx9_ rfl), ?_⟩
    refine ⟨(1, (lx_nx b_ n_ p_)), ?_, px10_.2⟩
    unfold p_ms; rw [pb_r a3_, p_ad_x px10_.1]; rfl
  obtain ⟨rfl, hIx8_, hFx9_, px10_⟩ := px10_
  have hFx11_ : ai_fr (sx_W vw_133) S0_ Sx7_ := ai_fr_tr hFx5_ (fr_le hFx9_ rfl)
  have c11_ := px10_
  have a11_ := p_ad_c px10_
  have k11_ := p_ad_ok hc_.2.2.2.1 (by omega) a11_
  refine sm_T_go 1 (c1 := (15, [some (.inr (.inr (some (7, 0)))), some (.inl mo_), some (.inl vx6_)], [.inl vx6_], Sx7_)) rfl ?_
  refine sm_T_ri rfl (Or.inl ⟨_, _, rfl, _, rfl, hIx8_, hFx11_, ?_⟩)
  exact ⟨(lx_nx b_ n_ p_), by unfold p_ms; rw [pb_r a3_, a11_]; rfl, c11_, k11_.2.1, k3_.2.2.1, k3_.2.2.2⟩
