/-! ChipFlow.chipAt -/
def vw_272 : sx_Wl := ([], [], [])
def vq_272 (k_ : Int) (S0_ : sm_S) (u_ : Option sm_V) (S1_ : sm_S) : Prop := u_ = some (.inr (.inr (some (2, k_.toNat)))) ∧ gi S1_ ∧ ai_fr (sx_W vw_272) S0_ S1_ ∧ (S0_ = S1_ ∧ (0 ≤ k_ ∧ k_ < 4) ∧ S0_.1 2 k_.toNat 0 = 1)
def vx_272 (k_ : Int) (S0_ : sm_S) (S1_ : sm_S) : Prop := gi S1_ ∧ ai_fr (sx_W vw_272) S0_ S1_ ∧ (S1_ = S0_)
set_option maxHeartbeats 400000 in
theorem vc_272 {sc_ : Nat × (Nat → Int)} (k_ : Int) (S0_ : sm_S) (hI_ : gi S0_)  : sm_T (mt_P sc_) 1 272 (0, [some (.inr (.inr (some (12, 0)))), some (.inl k_)], [], S0_) (fun ro9_ => (∃ u_ S1_, ro9_ = (.inl u_, S1_, 0) ∧ vq_272 k_ S0_ u_ S1_) ∨ ∃ ex_ S1_, ro9_ = (.inr ex_, S1_, 1) ∧ ex_ ∈ ([0] : List Nat) ∧ vx_272 k_ S0_ S1_) := by
  have hF_ : ai_fr (sx_W vw_272) S0_ S0_ := ai_fr_rf
  refine sm_T_go 1 (c1 := (1, [some (.inr (.inr (some (12, 0)))), some (.inl k_)], [.inl k_], S0_)) rfl ?_
  refine sm_T_b0 (a := 2) (z := 24) rfl (fun cx1_ => ?_) (fun cx1_ => ?_)
  · have cx1_ : k_ < 0 := of_decide_eq_true cx1_
    refine sm_T_go 1 (c1 := (26, [some (.inr (.inr (some (12, 0)))), some (.inl k_)], [.inl 0], S0_)) rfl ?_
    refine sm_T_cale (d1_ := 0) (Q1_ := vq_265e 0 S0_) (Q2_ := (fun ex_ S1_ => ex_ ∈ ([0] : List Nat) ∧ vx_265e 0 S0_ S1_)) rfl rfl (by decide) (vc_265e 0 S0_ hI_ ) rfl (fun xx7_ Sx2_ px5_ => ?_) (fun u_ Sx2_ px5_ => ?_)
    · obtain ⟨px5m, hIx3_, hFx4_, px5_⟩ := px5_
      refine Or.inr ⟨_, _, rfl, by first | exact px5m | (simp only [List.mem_cons, List.not_mem_nil, or_false] at px5m ⊢; omega), hIx3_, ai_fr_tr hF_ (fr_le hFx4_ rfl), ?_⟩
      exact px5_.2
    · exact absurd rfl px5_.2.2.2.1
  · have cx1_ : ¬ (k_ < 0) := of_decide_eq_false cx1_
    refine sm_T_go 2 (c1 := (6, [some (.inr (.inr (some (12, 0)))), some (.inl k_)], [.inl 4, .inl k_], S0_)) rfl ?_
    refine sm_T_br (a := 3) (z := 19) rfl (fun cx8_ => ?_) (fun cx8_ => ?_)
    · have cx8_ : 4 ≤ k_ := of_decide_eq_true cx8_
      refine sm_T_go 1 (c1 := (26, [some (.inr (.inr (some (12, 0)))), some (.inl k_)], [.inl 0], S0_)) rfl ?_
      refine sm_T_cale (d1_ := 0) (Q1_ := vq_265e 0 S0_) (Q2_ := (fun ex_ S1_ => ex_ ∈ ([0] : List Nat) ∧ vx_265e 0 S0_ S1_)) rfl rfl (by decide) (vc_265e 0 S0_ hI_ ) rfl (fun xx14_ Sx9_ px12_ => ?_) (fun u_ Sx9_ px12_ => ?_)
      · obtain ⟨px12m, hIx10_, hFx11_, px12_⟩ := px12_
        refine Or.inr ⟨_, _, rfl, by first | exact px12m | (simp only [List.mem_cons, List.not_mem_nil, or_false] at px12m ⊢; omega), hIx10_, ai_fr_tr hF_ (fr_le hFx11_ rfl), ?_⟩
        exact px12_.2
      · exact absurd rfl px12_.2.2.2.1
    · have cx8_ : ¬ (4 ≤ k_) := of_decide_eq_false cx8_
      refine sm_T_go 3 (c1 := (14, [some (.inr (.inr (some (12, 0)))), some (.inl k_)], [.inl k_, .inr (.inr (some (112, 0)))], S0_)) rfl ?_
      refine sm_T_aald (t0 := 6) (n := 4) rfl rfl (by omega) (by omega) ?_
      have bx15_ : 0 ≤ S0_.1 2 k_.toNat 0 ∧ S0_.1 2 k_.toNat 0 ≤ 1 := hI_.1 2 k_.toNat 0 rfl
      refine sm_T_go 1 (c1 := (18, [some (.inr (.inr (some (12, 0)))), some (.inl k_)], [.inl (S0_.1 2 k_.toNat 0)], S0_)) rfl ?_
      refine sm_T_b0 (a := 0) (z := 7) rfl (fun cx16_ => ?_) (fun cx16_ => ?_)
      · have cx16_ : (S0_.1 2 k_.toNat 0) = 0 := of_decide_eq_true cx16_
        refine sm_T_go 1 (c1 := (26, [some (.inr (.inr (some (12, 0)))), some (.inl k_)], [.inl 0], S0_)) rfl ?_
        refine sm_T_cale (d1_ := 0) (Q1_ := vq_265e 0 S0_) (Q2_ := (fun ex_ S1_ => ex_ ∈ ([0] : List Nat) ∧ vx_265e 0 S0_ S1_)) rfl rfl (by decide) (vc_265e 0 S0_ hI_ ) rfl (fun xx22_ Sx17_ px20_ => ?_) (fun u_ Sx17_ px20_ => ?_)
        · obtain ⟨px20m, hIx18_, hFx19_, px20_⟩ := px20_
          refine Or.inr ⟨_, _, rfl, by first | exact px20m | (simp only [List.mem_cons, List.not_mem_nil, or_false] at px20m ⊢; omega), hIx18_, ai_fr_tr hF_ (fr_le hFx19_ rfl), ?_⟩
          exact px20_.2
        · exact absurd rfl px20_.2.2.2.1
      · have cx16_ : ¬ ((S0_.1 2 k_.toNat 0) = 0) := of_decide_eq_false cx16_
        refine sm_T_go 2 (c1 := (26, [some (.inr (.inr (some (12, 0)))), some (.inl k_)], [.inl 1], S0_)) rfl ?_
        refine sm_T_cale (d1_ := 0) (Q1_ := vq_265e 1 S0_) (Q2_ := (fun ex_ S1_ => ex_ ∈ ([0] : List Nat) ∧ vx_265e 1 S0_ S1_)) rfl rfl (by decide) (vc_265e 1 S0_ hI_ ) rfl (fun xx28_ Sx23_ px26_ => ?_) (fun u_ Sx23_ px26_ => ?_)
        · exact absurd px26_.2.2.2.1 (by decide)
        obtain ⟨rfl, -, -, px26_, rfl⟩ := px26_
        refine sm_T_go 3 (c1 := (34, [some (.inr (.inr (some (12, 0)))), some (.inl k_)], [.inl k_, .inr (.inr (some (112, 0)))], S0_)) rfl ?_
        refine sm_T_aald (t0 := 6) (n := 4) rfl rfl (by omega) (by omega) ?_
        refine sm_T_ra rfl (Or.inl ⟨_, _, rfl, rfl, hI_, hF_, ?_⟩)
        exact ⟨rfl, by omega, by omega⟩
