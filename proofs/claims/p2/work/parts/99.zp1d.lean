/-! ChipFlow.reset -/
def vw_236 : sx_Wl := ([(2, 5)], [], [])
def vq_236 (kk_ : Int) (S0_ : sm_S) (u_ : Option sm_V) (S1_ : sm_S) : Prop := ∃ v_ : Int, u_ = some (.inl v_) ∧ gi S1_ ∧ ai_fr (sx_W vw_236) S0_ S1_ ∧ (jC S1_)
def vx_236 (kk_ : Int) (S0_ : sm_S) (S1_ : sm_S) : Prop := gi S1_ ∧ ai_fr (sx_W vw_236) S0_ S1_ ∧ (S1_ = S0_)
set_option maxHeartbeats 400000 in
theorem vc_236 {sc_ : Nat × (Nat → Int)} (kk_ : Int) (S0_ : sm_S) (hI_ : gi S0_) (hJ_ : jC S0_) : sm_T (mt_P sc_) 2 236 (0, [some (.inr (.inr (some (12, 0)))), some (.inl kk_), none, none], [], S0_) (fun ro9_ => (∃ u_ S1_, ro9_ = (.inl u_, S1_, 0) ∧ vq_236 kk_ S0_ u_ S1_) ∨ ∃ ex_ S1_, ro9_ = (.inr ex_, S1_, 1) ∧ ex_ ∈ ([0] : List Nat) ∧ vx_236 kk_ S0_ S1_) := by
  have hF_ : ai_fr (sx_W vw_236) S0_ S0_ := ai_fr_rf
  refine sm_T_go 2 (c1 := (2, [some (.inr (.inr (some (12, 0)))), some (.inl kk_), none, none], [.inl kk_, .inr (.inr (some (12, 0)))], S0_)) rfl ?_
  refine sm_T_cale (d1_ := 1) (Q1_ := vq_272 kk_ S0_) (Q2_ := (fun ex_ S1_ => ex_ ∈ ([0] : List Nat) ∧ vx_272 kk_ S0_ S1_)) rfl rfl (by decide) (vc_272 kk_ S0_ hI_ ) rfl (fun xx6_ Sx1_ px4_ => ?_) (fun u_ Sx1_ px4_ => ?_)
  · obtain ⟨px4m, hIx2_, hFx3_, px4_⟩ := px4_
    refine Or.inr ⟨_, _, rfl, by first | exact px4m | (simp only [List.mem_cons, List.not_mem_nil, or_false] at px4m ⊢; omega), hIx2_, ai_fr_tr hF_ (fr_le hFx3_ rfl), ?_⟩
    first | exact px4_.2 | exact px4_ | rfl
  obtain ⟨rfl, -, -, rfl, px4_⟩ := px4_
  have a9_ := px4_
  have J9_ := hJ_.2.1 kk_.toNat (by omega) a9_.2
  have J1_ := J9_.1
  have q9_ := a9_.2
  have c8_ : 0 ≤ S0_.1 2 (kk_.toNat) 8 ∧ S0_.1 2 (kk_.toNat) 8 ≤ 150 := hI_.1 2 (kk_.toNat) 8 rfl
  have bx7_ : 0 ≤ S0_.1 2 kk_.toNat 5 ∧ S0_.1 2 kk_.toNat 5 ≤ 63 := hI_.1 2 kk_.toNat 5 rfl
  have bx8_ : 0 ≤ S0_.1 2 kk_.toNat 4 ∧ S0_.1 2 kk_.toNat 4 ≤ 63 := hI_.1 2 kk_.toNat 4 rfl
  have hIx9_ : gi (sm_pI S0_ 2 kk_.toNat 5 (S0_.1 2 kk_.toNat 4)) := gi_pI hI_ (show 0 ≤ (S0_.1 2 kk_.toNat 4) ∧ (S0_.1 2 kk_.toNat 4) ≤ 63 from ⟨by omega, by omega⟩)
  have hFx10_ : ai_fr (sx_W vw_236) S0_ (sm_pI S0_ 2 kk_.toNat 5 (S0_.1 2 kk_.toNat 4)) := ai_fr_tr hF_ (ai_fr_pI rfl)
  refine sm_T_go 9 (c1 := (20, [some (.inr (.inr (some (12, 0)))), some (.inl kk_), some (.inr (.inr (some (2, kk_.toNat)))), some (.inl (S0_.1 2 kk_.toNat 5))], [.inl (S0_.1 2 kk_.toNat 5)], sm_pI S0_ 2 kk_.toNat 5 (S0_.1 2 kk_.toNat 4))) rfl ?_
  refine sm_T_ri rfl (Or.inl ⟨_, _, rfl, _, rfl, hIx9_, hFx10_, ?_⟩)
  exact jC_st hJ_ ⟨a9_.2, by omega⟩ J9_.2.1
