/-! ChipFlow.needPattern -/
def vw_269 : sx_Wl := ([], [], [])
def vq_269 (k_ : Int) (cc_ : Nat) (S0_ : sm_S) (u_ : Option sm_V) (S1_ : sm_S) : Prop := u_ = none ∧ gi S1_ ∧ ai_fr (sx_W vw_269) S0_ S1_ ∧ (S0_ = S1_ ∧ 0 ≤ k_ ∧ k_ < S0_.1 2 cc_ 15)
def vx_269 (k_ : Int) (cc_ : Nat) (S0_ : sm_S) (S1_ : sm_S) : Prop := gi S1_ ∧ ai_fr (sx_W vw_269) S0_ S1_ ∧ (S1_ = S0_)
set_option maxHeartbeats 400000 in
theorem vc_269 {sc_ : Nat × (Nat → Int)} (k_ : Int) (cc_ : Nat) (S0_ : sm_S) (hI_ : gi S0_)  : sm_T (mt_P sc_) 1 269 (0, [some (.inr (.inr (some (2, cc_)))), some (.inl k_)], [], S0_) (fun ro9_ => (∃ u_ S1_, ro9_ = (.inl u_, S1_, 0) ∧ vq_269 k_ cc_ S0_ u_ S1_) ∨ ∃ ex_ S1_, ro9_ = (.inr ex_, S1_, 1) ∧ ex_ ∈ ([0, 2] : List Nat) ∧ vx_269 k_ cc_ S0_ S1_) := by
  have hF_ : ai_fr (sx_W vw_269) S0_ S0_ := ai_fr_rf
  refine sm_T_go 1 (c1 := (1, [some (.inr (.inr (some (2, cc_)))), some (.inl k_)], [.inl k_], S0_)) rfl ?_
  refine sm_T_b0 (a := 2) (z := 23) rfl (fun cx1_ => ?_) (fun cx1_ => ?_)
  · have cx1_ : k_ < 0 := of_decide_eq_true cx1_
    refine sm_T_go 1 (c1 := (25, [some (.inr (.inr (some (2, cc_)))), some (.inl k_)], [.inl 0], S0_)) rfl ?_
    refine sm_T_cale (d1_ := 0) (Q1_ := vq_265e 0 S0_) (Q2_ := (fun ex_ S1_ => ex_ ∈ ([0] : List Nat) ∧ vx_265e 0 S0_ S1_)) rfl rfl (by decide) (vc_265e 0 S0_ hI_ ) rfl (fun xx7_ Sx2_ px5_ => ?_) (fun u_ Sx2_ px5_ => ?_)
    · obtain ⟨px5m, hIx3_, hFx4_, px5_⟩ := px5_
      refine Or.inr ⟨_, _, rfl, by first | exact px5m | (simp only [List.mem_cons, List.not_mem_nil, or_false] at px5m ⊢; omega), hIx3_, ai_fr_tr hF_ (fr_le hFx4_ rfl), ?_⟩
      exact px5_.2
    · exact absurd rfl px5_.2.2.2.1
  · have cx1_ : ¬ (k_ < 0) := of_decide_eq_false cx1_
    have bx8_ : (-1) ≤ S0_.1 2 cc_ 15 ∧ S0_.1 2 cc_ 15 ≤ 1224 := hI_.1 2 cc_ 15 rfl
    refine sm_T_go 3 (c1 := (9, [some (.inr (.inr (some (2, cc_)))), some (.inl k_)], [.inl (-1), .inl (S0_.1 2 cc_ 15)], S0_)) rfl ?_
    refine sm_T_br (a := 0) (z := 11) rfl (fun cx9_ => ?_) (fun cx9_ => ?_)
    · have cx9_ : (S0_.1 2 cc_ 15) = (-1) := of_decide_eq_true cx9_
      refine sm_T_go 2 (c1 := (25, [some (.inr (.inr (some (2, cc_)))), some (.inl k_)], [.inl 1], S0_)) rfl ?_
      refine sm_T_cale (d1_ := 0) (Q1_ := vq_265e 1 S0_) (Q2_ := (fun ex_ S1_ => ex_ ∈ ([0] : List Nat) ∧ vx_265e 1 S0_ S1_)) rfl rfl (by decide) (vc_265e 1 S0_ hI_ ) rfl (fun xx15_ Sx10_ px13_ => ?_) (fun u_ Sx10_ px13_ => ?_)
      · exact absurd px13_.2.2.2.1 (by decide)
      obtain ⟨rfl, -, -, px13_, rfl⟩ := px13_
      refine sm_T_go 3 (c1 := (33, [some (.inr (.inr (some (2, cc_)))), some (.inl k_)], [.inl (-1), .inl (S0_.1 2 cc_ 15)], S0_)) rfl ?_
      refine sm_T_br (a := 0) (z := 7) rfl (fun cx16_ => ?_) (fun cx16_ => ?_)
      · have cx16_ : (S0_.1 2 cc_ 15) = (-1) := of_decide_eq_true cx16_
        refine sm_T_go 1 (c1 := (41, [some (.inr (.inr (some (2, cc_)))), some (.inl k_)], [.inl 0], S0_)) rfl ?_
        refine sm_T_cale (d1_ := 0) (Q1_ := vq_267e 0 S0_) (Q2_ := (fun ex_ S1_ => ex_ ∈ ([2] : List Nat) ∧ vx_267e 0 S0_ S1_)) rfl rfl (by decide) (vc_267e 0 S0_ hI_ ) rfl (fun xx22_ Sx17_ px20_ => ?_) (fun u_ Sx17_ px20_ => ?_)
        · obtain ⟨px20m, hIx18_, hFx19_, px20_⟩ := px20_
          refine Or.inr ⟨_, _, rfl, by first | exact px20m | (simp only [List.mem_cons, List.not_mem_nil, or_false] at px20m ⊢; omega), hIx18_, ai_fr_tr hF_ (fr_le hFx19_ rfl), ?_⟩
          exact px20_.2
        · exact absurd rfl px20_.2.2.2.1
      · have cx16_ : ¬ ((S0_.1 2 cc_ 15) = (-1)) := of_decide_eq_false cx16_
        exfalso; omega
    · have cx9_ : ¬ ((S0_.1 2 cc_ 15) = (-1)) := of_decide_eq_false cx9_
      refine sm_T_go 3 (c1 := (17, [some (.inr (.inr (some (2, cc_)))), some (.inl k_)], [.inl (S0_.1 2 cc_ 15), .inl k_], S0_)) rfl ?_
      refine sm_T_br (a := 3) (z := 7) rfl (fun cx23_ => ?_) (fun cx23_ => ?_)
      · have cx23_ : (S0_.1 2 cc_ 15) ≤ k_ := of_decide_eq_true cx23_
        refine sm_T_go 1 (c1 := (25, [some (.inr (.inr (some (2, cc_)))), some (.inl k_)], [.inl 0], S0_)) rfl ?_
        refine sm_T_cale (d1_ := 0) (Q1_ := vq_265e 0 S0_) (Q2_ := (fun ex_ S1_ => ex_ ∈ ([0] : List Nat) ∧ vx_265e 0 S0_ S1_)) rfl rfl (by decide) (vc_265e 0 S0_ hI_ ) rfl (fun xx29_ Sx24_ px27_ => ?_) (fun u_ Sx24_ px27_ => ?_)
        · obtain ⟨px27m, hIx25_, hFx26_, px27_⟩ := px27_
          refine Or.inr ⟨_, _, rfl, by first | exact px27m | (simp only [List.mem_cons, List.not_mem_nil, or_false] at px27m ⊢; omega), hIx25_, ai_fr_tr hF_ (fr_le hFx26_ rfl), ?_⟩
          exact px27_.2
        · exact absurd rfl px27_.2.2.2.1
      · have cx23_ : ¬ ((S0_.1 2 cc_ 15) ≤ k_) := of_decide_eq_false cx23_
        refine sm_T_go 2 (c1 := (25, [some (.inr (.inr (some (2, cc_)))), some (.inl k_)], [.inl 1], S0_)) rfl ?_
        refine sm_T_cale (d1_ := 0) (Q1_ := vq_265e 1 S0_) (Q2_ := (fun ex_ S1_ => ex_ ∈ ([0] : List Nat) ∧ vx_265e 1 S0_ S1_)) rfl rfl (by decide) (vc_265e 1 S0_ hI_ ) rfl (fun xx35_ Sx30_ px33_ => ?_) (fun u_ Sx30_ px33_ => ?_)
        · exact absurd px33_.2.2.2.1 (by decide)
        obtain ⟨rfl, -, -, px33_, rfl⟩ := px33_
        refine sm_T_go 3 (c1 := (33, [some (.inr (.inr (some (2, cc_)))), some (.inl k_)], [.inl (-1), .inl (S0_.1 2 cc_ 15)], S0_)) rfl ?_
        refine sm_T_br (a := 0) (z := 7) rfl (fun cx36_ => ?_) (fun cx36_ => ?_)
        · have cx36_ : (S0_.1 2 cc_ 15) = (-1) := of_decide_eq_true cx36_
          refine sm_T_go 1 (c1 := (41, [some (.inr (.inr (some (2, cc_)))), some (.inl k_)], [.inl 0], S0_)) rfl ?_
          refine sm_T_cale (d1_ := 0) (Q1_ := vq_267e 0 S0_) (Q2_ := (fun ex_ S1_ => ex_ ∈ ([2] : List Nat) ∧ vx_267e 0 S0_ S1_)) rfl rfl (by decide) (vc_267e 0 S0_ hI_ ) rfl (fun xx42_ Sx37_ px40_ => ?_) (fun u_ Sx37_ px40_ => ?_)
          · obtain ⟨px40m, hIx38_, hFx39_, px40_⟩ := px40_
            refine Or.inr ⟨_, _, rfl, by first | exact px40m | (simp only [List.mem_cons, List.not_mem_nil, or_false] at px40m ⊢; omega), hIx38_, ai_fr_tr hF_ (fr_le hFx39_ rfl), ?_⟩
            exact px40_.2
          · exact absurd rfl px40_.2.2.2.1
        · have cx36_ : ¬ ((S0_.1 2 cc_ 15) = (-1)) := of_decide_eq_false cx36_
          refine sm_T_go 2 (c1 := (41, [some (.inr (.inr (some (2, cc_)))), some (.inl k_)], [.inl 1], S0_)) rfl ?_
          refine sm_T_cale (d1_ := 0) (Q1_ := vq_267e 1 S0_) (Q2_ := (fun ex_ S1_ => ex_ ∈ ([2] : List Nat) ∧ vx_267e 1 S0_ S1_)) rfl rfl (by decide) (vc_267e 1 S0_ hI_ ) rfl (fun xx48_ Sx43_ px46_ => ?_) (fun u_ Sx43_ px46_ => ?_)
          · exact absurd px46_.2.2.2.1 (by decide)
          obtain ⟨rfl, -, -, px46_, rfl⟩ := px46_
          refine sm_T_go 0 (c1 := (44, [some (.inr (.inr (some (2, cc_)))), some (.inl k_)], [], S0_)) rfl ?_
          refine sm_T_rv rfl (Or.inl ⟨_, _, rfl, rfl, hI_, hF_, ?_⟩)
          exact ⟨rfl, by omega, by omega⟩
