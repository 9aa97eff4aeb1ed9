/-! ChipFlow.end -/
def vw_212 : sx_Wl := ([(10, 1)], [], [])
def vq_212 (n_ : Int) (S0_ : sm_S) (u_ : Option sm_V) (S1_ : sm_S) : Prop := u_ = none ∧ gi S1_ ∧ ai_fr (sx_W vw_212) S0_ S1_ ∧ (0 ≤ n_ ∧ n_ ≤ (S0_.1 10 0 1) ∧ (S1_.1 10 0 1) = n_)
def vx_212 (n_ : Int) (S0_ : sm_S) (S1_ : sm_S) : Prop := gi S1_ ∧ ai_fr (sx_W vw_212) S0_ S1_ ∧ (S1_ = S0_)
set_option maxHeartbeats 400000 in
theorem vc_212 {sc_ : Nat × (Nat → Int)} (n_ : Int) (S0_ : sm_S) (hI_ : gi S0_)  : sm_T (mt_P sc_) 1 212 (0, [some (.inr (.inr (some (12, 0)))), some (.inl n_)], [], S0_) (fun ro9_ => (∃ u_ S1_, ro9_ = (.inl u_, S1_, 0) ∧ vq_212 n_ S0_ u_ S1_) ∨ ∃ ex_ S1_, ro9_ = (.inr ex_, S1_, 1) ∧ ex_ ∈ ([1] : List Nat) ∧ vx_212 n_ S0_ S1_) := by
  have hF_ : ai_fr (sx_W vw_212) S0_ S0_ := ai_fr_rf
  refine sm_T_go 1 (c1 := (1, [some (.inr (.inr (some (12, 0)))), some (.inl n_)], [.inl n_], S0_)) rfl ?_
  refine sm_T_b0 (a := 2) (z := 18) rfl (fun cx1_ => ?_) (fun cx1_ => ?_)
  · have cx1_ : n_ < 0 := of_decide_eq_true cx1_
    refine sm_T_go 1 (c1 := (20, [some (.inr (.inr (some (12, 0)))), some (.inl n_)], [.inl 0], S0_)) rfl ?_
    refine sm_T_cale (d1_ := 0) (Q1_ := vq_266e 0 S0_) (Q2_ := (fun ex_ S1_ => ex_ ∈ ([1] : List Nat) ∧ vx_266e 0 S0_ S1_)) rfl rfl (by decide) (vc_266e 0 S0_ hI_ ) rfl (fun xx7_ Sx2_ px5_ => ?_) (fun u_ Sx2_ px5_ => ?_)
    · obtain ⟨px5m, hIx3_, hFx4_, px5_⟩ := px5_
      refine Or.inr ⟨_, _, rfl, by first | exact px5m | (simp only [List.mem_cons, List.not_mem_nil, or_false] at px5m ⊢; omega), hIx3_, ai_fr_tr hF_ (fr_le hFx4_ rfl), ?_⟩
      first | exact px5_.2 | exact px5_ | rfl
    · exact absurd rfl px5_.2.2.2.1
  · have cx1_ : ¬ (n_ < 0) := of_decide_eq_false cx1_
    have bx8_ : 0 ≤ S0_.1 10 0 1 ∧ S0_.1 10 0 1 ≤ 1280 := hI_.1 10 0 1 rfl
    refine sm_T_go 4 (c1 := (12, [some (.inr (.inr (some (12, 0)))), some (.inl n_)], [.inl (S0_.1 10 0 1), .inl n_], S0_)) rfl ?_
    refine sm_T_br (a := 4) (z := 7) rfl (fun cx9_ => ?_) (fun cx9_ => ?_)
    · have cx9_ : (S0_.1 10 0 1) < n_ := of_decide_eq_true cx9_
      refine sm_T_go 1 (c1 := (20, [some (.inr (.inr (some (12, 0)))), some (.inl n_)], [.inl 0], S0_)) rfl ?_
      refine sm_T_cale (d1_ := 0) (Q1_ := vq_266e 0 S0_) (Q2_ := (fun ex_ S1_ => ex_ ∈ ([1] : List Nat) ∧ vx_266e 0 S0_ S1_)) rfl rfl (by decide) (vc_266e 0 S0_ hI_ ) rfl (fun xx15_ Sx10_ px13_ => ?_) (fun u_ Sx10_ px13_ => ?_)
      · obtain ⟨px13m, hIx11_, hFx12_, px13_⟩ := px13_
        refine Or.inr ⟨_, _, rfl, by first | exact px13m | (simp only [List.mem_cons, List.not_mem_nil, or_false] at px13m ⊢; omega), hIx11_, ai_fr_tr hF_ (fr_le hFx12_ rfl), ?_⟩
        first | exact px13_.2 | exact px13_ | rfl
      · exact absurd rfl px13_.2.2.2.1
    · have cx9_ : ¬ ((S0_.1 10 0 1) < n_) := of_decide_eq_false cx9_
      refine sm_T_go 2 (c1 := (20, [some (.inr (.inr (some (12, 0)))), some (.inl n_)], [.inl 1], S0_)) rfl ?_
      refine sm_T_cale (d1_ := 0) (Q1_ := vq_266e 1 S0_) (Q2_ := (fun ex_ S1_ => ex_ ∈ ([1] : List Nat) ∧ vx_266e 1 S0_ S1_)) rfl rfl (by decide) (vc_266e 1 S0_ hI_ ) rfl (fun xx21_ Sx16_ px19_ => ?_) (fun u_ Sx16_ px19_ => ?_)
      · exact absurd px19_.2.2.2.1 (by decide)
      obtain ⟨rfl, -, -, px19_, rfl⟩ := px19_
      have hIx22_ : gi (sm_pI S0_ 10 0 1 n_) := gi_pI hI_ (show 0 ≤ n_ ∧ n_ ≤ 1280 from ⟨by omega, by omega⟩)
      have hFx23_ : ai_fr (sx_W vw_212) S0_ (sm_pI S0_ 10 0 1 n_) := ai_fr_tr hF_ (ai_fr_pI rfl)
      refine sm_T_go 4 (c1 := (31, [some (.inr (.inr (some (12, 0)))), some (.inl n_)], [], sm_pI S0_ 10 0 1 n_)) rfl ?_
      refine sm_T_rv rfl (Or.inl ⟨_, _, rfl, rfl, hIx22_, hFx23_, ?_⟩)
      exact ⟨by omega, by omega, rf_eq⟩
