/-! M_.readNext -/
def vw_298 : sx_Wl := ([(13, 10), (13, 11)], [], [])
def vq_298  (S0_ : sm_S) (u_ : Option sm_V) (S1_ : sm_S) : Prop := u_ = none ∧ gi S1_ ∧ ai_fr (sx_W vw_298) S0_ S1_ ∧ (((S0_.1 13 0 10) ≠ 0 → (S1_.1 13 0 10) = (S0_.1 13 0 10) ∧ (S1_.1 13 0 11) = (S0_.1 13 0 11)) ∧ ((S0_.1 13 0 10) = 0 → ((S0_.2.2.1 119 0 (((S0_.1 13 0 9)).toNat)) = 4 ∧ (S1_.1 13 0 10) = 1 ∧ (S1_.1 13 0 11) = (S0_.2.2.1 120 0 (((S0_.1 13 0 9)).toNat))) ∨ ((S0_.2.2.1 119 0 (((S0_.1 13 0 9)).toNat)) ≠ 4 ∧ (S1_.1 13 0 10) = 0)))
set_option maxHeartbeats 400000 in
theorem vc_298 {sc_ : Nat × (Nat → Int)}  (S0_ : sm_S) (hI_ : gi S0_)  : sm_T (mt_P sc_) 1 298 (0, [some (.inr (.inr (some (13, 0))))], [], S0_) (fun r_ => ∃ u_ S1_, r_ = (.inl u_, S1_, 0) ∧ vq_298  S0_ u_ S1_) := by
  have hF_ : ai_fr (sx_W vw_298) S0_ S0_ := ai_fr_rf
  have bx1_ : 0 ≤ S0_.1 13 0 9 ∧ S0_.1 13 0 9 ≤ 1280 := hI_.1 13 0 9 rfl
  refine sm_T_go 4 (c1 := (8, [some (.inr (.inr (some (13, 0))))], [.inl (S0_.1 13 0 9), .inr (.inr (some (119, 0)))], S0_)) rfl ?_
  refine sm_T_bald (n := 65537) rfl rfl (by omega) (by omega) ?_
  have bx2_ : (-128) ≤ S0_.2.2.1 119 0 (S0_.1 13 0 9).toNat ∧ S0_.2.2.1 119 0 (S0_.1 13 0 9).toNat ≤ 127 := hI_.2 119 0 _
  refine sm_T_go 1 (c1 := (10, [some (.inr (.inr (some (13, 0))))], [.inl 4, .inl (S0_.2.2.1 119 0 (S0_.1 13 0 9).toNat)], S0_)) rfl ?_
  refine sm_T_br (a := 1) (z := 12) rfl (fun cx3_ => ?_) (fun cx3_ => ?_)
  · have cx3_ : (S0_.2.2.1 119 0 (S0_.1 13 0 9).toNat) ≠ 4 := of_decide_eq_true cx3_
    refine sm_T_rv rfl ⟨_, _, rfl, rfl, hI_, hF_, ?_⟩
    first | (refine ⟨fun _ => ⟨rfl, rfl⟩, fun z_ => Or.inr ⟨by omega, z_⟩⟩) | (refine ⟨fun z_ => ?_, fun z_ => Or.inl ⟨by omega, ?_, ?_⟩⟩; (rcases e19_ with w_ | w_; exact w_.2; exact absurd w_.1 z_); (rcases e19_ with w_ | w_; exact absurd z_ w_.1; (rw [w_.2.1]; rw [if_pos (by omega)])); (rcases e19_ with w_ | w_; exact absurd z_ w_.1; exact w_.2.2))
  · have cx3_ : ¬ ((S0_.2.2.1 119 0 (S0_.1 13 0 9).toNat) ≠ 4) := of_decide_eq_false cx3_
    refine sm_T_go 4 (c1 := (19, [some (.inr (.inr (some (13, 0))))], [.inl (S0_.1 13 0 9), .inl 1, .inr (.inr (some (13, 0)))], S0_)) rfl ?_
    refine sm_T_cal (d1 := 0) (Q1 := vq_293 1 (S0_.1 13 0 9) S0_) rfl rfl (by decide) (vc_293 1 (S0_.1 13 0 9) S0_ hI_ (by omega) (by omega)) (fun u_ Sx4_ px7_ => ?_)
    obtain ⟨rfl, hIx5_, hFx6_, px7_⟩ := px7_
    have hFx8_ : ai_fr (sx_W vw_298) S0_ Sx4_ := ai_fr_tr hF_ (fr_le hFx6_ rfl)
    have ex9_ : Sx4_.1 13 0 9 = S0_.1 13 0 9 := hFx6_.1 13 0 9 rfl
    have e19_ := px7_
    refine sm_T_rv rfl ⟨_, _, rfl, rfl, hIx5_, hFx8_, ?_⟩
    first | (refine ⟨fun _ => ⟨rfl, rfl⟩, fun z_ => Or.inr ⟨by omega, z_⟩⟩) | (refine ⟨fun z_ => ?_, fun z_ => Or.inl ⟨by omega, ?_, ?_⟩⟩; (rcases e19_ with w_ | w_; exact w_.2; exact absurd w_.1 z_); (rcases e19_ with w_ | w_; exact absurd z_ w_.1; (rw [w_.2.1]; rw [if_pos (by omega)])); (rcases e19_ with w_ | w_; exact absurd z_ w_.1; exact w_.2.2))
