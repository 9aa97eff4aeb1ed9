/-! ChipFlow.pattern -/
def vw_261 : sx_Wl := ([], [], [])
def vq_261 (kk_ : Int) (k_ : Int) (S0_ : sm_S) (u_ : Option sm_V) (S1_ : sm_S) : Prop := ∃ v_ : Int, u_ = some (.inl v_) ∧ gi S1_ ∧ ai_fr (sx_W vw_261) S0_ S1_ ∧ (True)
def vx_261 (kk_ : Int) (k_ : Int) (S0_ : sm_S) (S1_ : sm_S) : Prop := gi S1_ ∧ ai_fr (sx_W vw_261) S0_ S1_ ∧ (S1_ = S0_)
set_option maxHeartbeats 400000 in
theorem vc_261 {sc_ : Nat × (Nat → Int)} (kk_ : Int) (k_ : Int) (S0_ : sm_S) (hI_ : gi S0_) (hJ_ : jC S0_) : sm_T (mt_P sc_) 2 261 (0, [some (.inr (.inr (some (12, 0)))), some (.inl kk_), some (.inl k_), none], [], S0_) (fun ro9_ => (∃ u_ S1_, ro9_ = (.inl u_, S1_, 0) ∧ vq_261 kk_ k_ S0_ u_ S1_) ∨ ∃ ex_ S1_, ro9_ = (.inr ex_, S1_, 1) ∧ ex_ ∈ ([0, 2] : List Nat) ∧ vx_261 kk_ k_ S0_ S1_) := by
  have hF_ : ai_fr (sx_W vw_261) S0_ S0_ := ai_fr_rf
  refine sm_T_go 2 (c1 := (2, [some (.inr (.inr (some (12, 0)))), some (.inl kk_), some (.inl k_), none], [.inl kk_, .inr (.inr (some (12, 0)))], S0_)) rfl ?_
  refine sm_T_cale (d1_ := 1) (Q1_ := vq_272 kk_ S0_) (Q2_ := (fun ex_ S1_ => ex_ ∈ ([0] : List Nat) ∧ vx_272 kk_ S0_ S1_)) rfl rfl (by decide) (vc_272 kk_ S0_ hI_ ) rfl (fun xx6_ Sx1_ px4_ => ?_) (fun u_ Sx1_ px4_ => ?_)
  · obtain ⟨px4m, hIx2_, hFx3_, px4_⟩ := px4_
    refine Or.inr ⟨_, _, rfl, by first | exact px4m | (simp only [List.mem_cons, List.not_mem_nil, or_false] at px4m ⊢; omega), hIx2_, ai_fr_tr hF_ (fr_le hFx3_ rfl), ?_⟩
    first | exact px4_.2 | exact px4_ | rfl
  obtain ⟨rfl, -, -, rfl, px4_⟩ := px4_
  have a9_ := px4_
  have J9_ := hJ_.2.1 kk_.toNat (by omega) a9_.2
  have J1_ := J9_.1
  have q9_ := a9_.2
  have c8_ : 0 ≤ S0_.1 2 (kk_.toNat) 8 ∧ S0_.1 2 (kk_.toNat) 8 ≤ 150 := hI_.1 2 (kk_.toNat) 8 rfl
  have c1_ : 0 ≤ S0_.1 2 (kk_.toNat) 1 ∧ S0_.1 2 (kk_.toNat) 1 ≤ 12 := hI_.1 2 (kk_.toNat) 1 rfl
  have c2_ : 0 ≤ S0_.1 2 (kk_.toNat) 2 ∧ S0_.1 2 (kk_.toNat) 2 ≤ 6 := hI_.1 2 (kk_.toNat) 2 rfl
  refine sm_T_go 3 (c1 := (8, [some (.inr (.inr (some (12, 0)))), some (.inl kk_), some (.inl k_), some (.inr (.inr (some (2, kk_.toNat))))], [.inl k_, .inr (.inr (some (2, kk_.toNat)))], S0_)) rfl ?_
  refine sm_T_cale (d1_ := 1) (Q1_ := vq_269 k_ kk_.toNat S0_) (Q2_ := (fun ex_ S1_ => ex_ ∈ ([0, 2] : List Nat) ∧ vx_269 k_ kk_.toNat S0_ S1_)) rfl rfl (by decide) (vc_269 k_ kk_.toNat S0_ hI_ ) rfl (fun xx12_ Sx7_ px10_ => ?_) (fun u_ Sx7_ px10_ => ?_)
  · obtain ⟨px10m, hIx8_, hFx9_, px10_⟩ := px10_
    refine Or.inr ⟨_, _, rfl, by first | exact px10m | (simp only [List.mem_cons, List.not_mem_nil, or_false] at px10m ⊢; omega), hIx8_, ai_fr_tr hF_ (fr_le hFx9_ rfl), ?_⟩
    first | exact px10_.2 | exact px10_ | rfl
  obtain ⟨rfl, -, -, rfl, px10_⟩ := px10_
  have n8_ := px10_
  have c15_ : (-1) ≤ S0_.1 2 (kk_.toNat) 15 ∧ S0_.1 2 (kk_.toNat) 15 ≤ 1224 := hI_.1 2 (kk_.toNat) 15 rfl
  refine sm_T_go 3 (c1 := (16, [some (.inr (.inr (some (12, 0)))), some (.inl kk_), some (.inl k_), some (.inr (.inr (some (2, kk_.toNat))))], [.inl k_, .inr (.inr (some (40, (0 + kk_.toNat))))], S0_)) rfl ?_
  refine sm_T_iald (n := 1224) rfl rfl (by omega) (by omega) ?_
  have bx13_ : 0 ≤ S0_.2.2.1 40 (0 + kk_.toNat) k_.toNat ∧ S0_.2.2.1 40 (0 + kk_.toNat) k_.toNat ≤ 4095 := hI_.2 40 (0 + kk_.toNat) _
  refine sm_T_ri rfl (Or.inl ⟨_, _, rfl, _, rfl, hI_, hF_, ?_⟩)
  trivial
