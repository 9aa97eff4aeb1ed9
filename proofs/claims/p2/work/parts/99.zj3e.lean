/-! ChipFlow.state -/
def vw_225 : sx_Wl := ([], [], [])
def vq_225 (kk_ : Int) (S0_ : sm_S) (u_ : Option sm_V) (S1_ : sm_S) : Prop := ∃ v_ : Int, u_ = some (.inl v_) ∧ gi S1_ ∧ ai_fr (sx_W vw_225) S0_ S1_ ∧ (True)
def vx_225 (kk_ : Int) (S0_ : sm_S) (S1_ : sm_S) : Prop := gi S1_ ∧ ai_fr (sx_W vw_225) S0_ S1_ ∧ (S1_ = S0_)
set_option maxHeartbeats 400000 in
theorem vc_225 {sc_ : Nat × (Nat → Int)} (kk_ : Int) (S0_ : sm_S) (hI_ : gi S0_) (hJ_ : dAll S0_) : sm_T (mt_P sc_) 2 225 (0, [some (.inr (.inr (some (12, 0)))), some (.inl kk_)], [], S0_) (fun ro9_ => (∃ u_ S1_, ro9_ = (.inl u_, S1_, 0) ∧ vq_225 kk_ S0_ u_ S1_) ∨ ∃ ex_ S1_, ro9_ = (.inr ex_, S1_, 1) ∧ ex_ ∈ ([0] : List Nat) ∧ vx_225 kk_ S0_ S1_) := by
  have hF_ : ai_fr (sx_W vw_225) S0_ S0_ := ai_fr_rf
  refine sm_T_go 2 (c1 := (2, [some (.inr (.inr (some (12, 0)))), some (.inl kk_)], [.inl kk_, .inr (.inr (some (12, 0)))], S0_)) rfl ?_
  refine sm_T_cale (d1_ := 1) (Q1_ := vq_270 kk_ S0_) (Q2_ := (fun ex_ S1_ => ex_ ∈ ([0] : List Nat) ∧ vx_270 kk_ S0_ S1_)) rfl rfl (by decide) (vc_270 kk_ S0_ hI_ ) rfl (fun xx6_ Sx1_ px4_ => ?_) (fun u_ Sx1_ px4_ => ?_)
  · obtain ⟨px4m, hIx2_, hFx3_, px4_⟩ := px4_
    refine Or.inr ⟨_, _, rfl, by first | exact px4m | (simp only [List.mem_cons, List.not_mem_nil, or_false] at px4m ⊢; omega), hIx2_, ai_fr_tr hF_ (fr_le hFx3_ rfl), ?_⟩
    first | exact px4_.2 | exact px4_ | rfl
  obtain ⟨rfl, -, -, rfl, px4_⟩ := px4_
  have a9_ := px4_
  have J9_ := dOk_b (hJ_ kk_.toNat (by omega) a9_.2)
  have J9a := J9_.1
  have J9b := J9_.2.1
  have bx7_ : 0 ≤ S0_.1 3 kk_.toNat 6 ∧ S0_.1 3 kk_.toNat 6 ≤ 63 := hI_.1 3 kk_.toNat 6 rfl
  refine sm_T_go 1 (c1 := (8, [some (.inr (.inr (some (12, 0)))), some (.inl kk_)], [.inl (S0_.1 3 kk_.toNat 6)], S0_)) rfl ?_
  refine sm_T_ri rfl (Or.inl ⟨_, _, rfl, _, rfl, hI_, hF_, ?_⟩)
  trivial
