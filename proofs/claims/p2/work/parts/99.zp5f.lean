/-! ChipFlow.tests -/
def vw_260 : sx_Wl := ([(2, 15), (9, 1), (9, 2), (9, 3)], [40, 41, 92, 93, 94, 95, 96, 97], [(9, 0)])
def vq_260 (kk_ : Int) (S0_ : sm_S) (u_ : Option sm_V) (S1_ : sm_S) : Prop := ∃ v_ : Int, u_ = some (.inl v_) ∧ gi S1_ ∧ ai_fr (sx_W vw_260) S0_ S1_ ∧ (jC S1_)
def vx_260 (kk_ : Int) (S0_ : sm_S) (S1_ : sm_S) : Prop := gi S1_ ∧ ai_fr (sx_W vw_260) S0_ S1_ ∧ (S1_ = S0_)
set_option maxHeartbeats 400000 in
theorem vc_260 {sc_ : Nat × (Nat → Int)} (kk_ : Int) (S0_ : sm_S) (hI_ : gi S0_) (hJ_ : jC S0_) : sm_T (mt_P sc_) 7 260 (0, [some (.inr (.inr (some (12, 0)))), some (.inl kk_), none], [], S0_) (fun ro9_ => (∃ u_ S1_, ro9_ = (.inl u_, S1_, 0) ∧ vq_260 kk_ S0_ u_ S1_) ∨ ∃ ex_ S1_, ro9_ = (.inr ex_, S1_, 1) ∧ ex_ ∈ ([0] : List Nat) ∧ vx_260 kk_ S0_ S1_) := by
  have hF_ : ai_fr (sx_W vw_260) S0_ S0_ := ai_fr_rf
  refine sm_T_go 2 (c1 := (2, [some (.inr (.inr (some (12, 0)))), some (.inl kk_), none], [.inl kk_, .inr (.inr (some (12, 0)))], S0_)) rfl ?_
  refine sm_T_cale (d1_ := 1) (Q1_ := vq_272 kk_ S0_) (Q2_ := (fun ex_ S1_ => ex_ ∈ ([0] : List Nat) ∧ vx_272 kk_ S0_ S1_)) rfl rfl (by decide) (vc_272 kk_ S0_ hI_ ) rfl (fun xx6_ Sx1_ px4_ => ?_) (fun u_ Sx1_ px4_ => ?_)
  · obtain ⟨px4m, hIx2_, hFx3_, px4_⟩ := px4_
    refine Or.inr ⟨_, _, rfl, by first | exact px4m | (simp only [List.mem_cons, List.not_mem_nil, or_false] at px4m ⊢; omega), hIx2_, ai_fr_tr hF_ (fr_le hFx3_ rfl), ?_⟩
    first | exact px4_.2 | exact px4_ | rfl
  obtain ⟨rfl, -, -, rfl, px4_⟩ := px4_
  have a9_ := px4_
  have J9_ := hJ_.2.1 kk_.toNat (by omega) a9_.2
  have J1_ := J9_.1
  have q9_ := a9_.2
  have c8_ : 0 ≤ S0_.1 2 (kk_.toNat) 8 ∧ S0_.1 2 (kk_.toNat) 8 ≤ 150 := hI_.1 2 (kk_.toNat) 8 rfl
  have c1_ : 0 ≤ S0_.1 2 (kk_.toNat) 1 ∧ S0_.1 2 (kk_.toNat) 1 ≤ 12 := hI_.1 2 (kk_.toNat) 1 rfl
  have c2_ : 0 ≤ S0_.1 2 (kk_.toNat) 2 ∧ S0_.1 2 (kk_.toNat) 2 ≤ 6 := hI_.1 2 (kk_.toNat) 2 rfl
  refine sm_T_go 4 (c1 := (11, [some (.inr (.inr (some (12, 0)))), some (.inl kk_), some (.inr (.inr (some (2, kk_.toNat))))], [.inr (.inr (some (2, kk_.toNat))), .inr (.inr (some (9, 0)))], S0_)) rfl ?_
  refine sm_T_cal (d1 := 6) (Q1 := vq_179 kk_.toNat S0_) rfl rfl (by decide) (vc_179 kk_.toNat S0_ hI_ (by omega) (by exact hJ_.2.2.2)) (fun u_ Sx7_ px10_ => ?_)
  obtain ⟨rfl, hIx8_, hFx9_, px10_⟩ := px10_
  have hFx11_ : ai_fr (sx_W vw_260) S0_ Sx7_ := ai_fr_tr hF_ (fr_le hFx9_ rfl)
  obtain ⟨dx12_, px10_⟩ := px10_
  have p11_ := px10_
  have bx13_ : (-1) ≤ Sx7_.1 2 kk_.toNat 15 ∧ Sx7_.1 2 kk_.toNat 15 ≤ 1224 := hIx8_.1 2 kk_.toNat 15 rfl
  refine sm_T_go 2 (c1 := (18, [some (.inr (.inr (some (12, 0)))), some (.inl kk_), some (.inr (.inr (some (2, kk_.toNat))))], [.inl (Sx7_.1 2 kk_.toNat 15)], Sx7_)) rfl ?_
  refine sm_T_ri rfl (Or.inl ⟨_, _, rfl, _, rfl, hIx8_, hFx11_, ?_⟩)
  exact jC_mk hJ_ hFx11_ (tpo_fr hJ_.2.2.1 hFx11_) p11_ (by decide) (by decide) (by decide) (by decide) (by decide)
