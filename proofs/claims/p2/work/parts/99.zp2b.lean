/-! ChipFlow.place -/
def vw_238 : sx_Wl := ([(0, 0), (0, 1), (0, 2), (0, 11), (0, 16), (4, 0)], [14, 15, 21], [])
def vq_238 (kk_ : Int) (a2_ : Int) (S0_ : sm_S) (u_ : Option sm_V) (S1_ : sm_S) : Prop := ∃ v_ : Int, u_ = some (.inl v_) ∧ gi S1_ ∧ ai_fr (sx_W vw_238) S0_ S1_ ∧ (jC S1_)
def vx_238 (kk_ : Int) (a2_ : Int) (S0_ : sm_S) (S1_ : sm_S) : Prop := gi S1_ ∧ ai_fr (sx_W vw_238) S0_ S1_ ∧ (S1_ = S0_)
set_option maxHeartbeats 400000 in
theorem vc_238 {sc_ : Nat × (Nat → Int)} (kk_ : Int) (a2_ : Int) (S0_ : sm_S) (hI_ : gi S0_) (hJ_ : jC S0_) : sm_T (mt_P sc_) 4 238 (0, [some (.inr (.inr (some (12, 0)))), some (.inl kk_), some (.inl a2_), none], [], S0_) (fun ro9_ => (∃ u_ S1_, ro9_ = (.inl u_, S1_, 0) ∧ vq_238 kk_ a2_ S0_ u_ S1_) ∨ ∃ ex_ S1_, ro9_ = (.inr ex_, S1_, 1) ∧ ex_ ∈ ([0, 1] : List Nat) ∧ vx_238 kk_ a2_ S0_ S1_) := by
  have hF_ : ai_fr (sx_W vw_238) S0_ S0_ := ai_fr_rf
  refine sm_T_go 2 (c1 := (2, [some (.inr (.inr (some (12, 0)))), some (.inl kk_), some (.inl a2_), none], [.inl kk_, .inr (.inr (some (12, 0)))], S0_)) rfl ?_
  refine sm_T_cale (d1_ := 1) (Q1_ := vq_272 kk_ S0_) (Q2_ := (fun ex_ S1_ => ex_ ∈ ([0] : List Nat) ∧ vx_272 kk_ S0_ S1_)) rfl rfl (by decide) (vc_272 kk_ S0_ hI_ ) rfl (fun xx6_ Sx1_ px4_ => ?_) (fun u_ Sx1_ px4_ => ?_)
  · obtain ⟨px4m, hIx2_, hFx3_, px4_⟩ := px4_
    refine Or.inr ⟨_, _, rfl, by first | exact px4m | (simp only [List.mem_cons, List.not_mem_nil, or_false] at px4m ⊢; omega), hIx2_, ai_fr_tr hF_ (fr_le hFx3_ rfl), ?_⟩
    first | exact px4_.2 | exact px4_ | rfl
  obtain ⟨rfl, -, -, rfl, px4_⟩ := px4_
  have a9_ := px4_
  have J9_ := hJ_.2.1 kk_.toNat (by omega) a9_.2
  have J1_ := J9_.1
  have q9_ := a9_.2
  have c8_ : 0 ≤ S0_.1 2 (kk_.toNat) 8 ∧ S0_.1 2 (kk_.toNat) 8 ≤ 150 := hI_.1 2 (kk_.toNat) 8 rfl
  have c1_ : 0 ≤ S0_.1 2 (kk_.toNat) 1 ∧ S0_.1 2 (kk_.toNat) 1 ≤ 12 := hI_.1 2 (kk_.toNat) 1 rfl
  have c2_ : 0 ≤ S0_.1 2 (kk_.toNat) 2 ∧ S0_.1 2 (kk_.toNat) 2 ≤ 6 := hI_.1 2 (kk_.toNat) 2 rfl
  refine sm_T_go 3 (c1 := (8, [some (.inr (.inr (some (12, 0)))), some (.inl kk_), some (.inl a2_), some (.inr (.inr (some (2, kk_.toNat))))], [.inl 4, .inl a2_], S0_)) rfl ?_
  refine sm_T_br (a := 2) (z := 13) rfl (fun cx7_ => ?_) (fun cx7_ => ?_)
  · have cx7_ : a2_ < 4 := of_decide_eq_true cx7_
    refine sm_T_go 1 (c1 := (22, [some (.inr (.inr (some (12, 0)))), some (.inl kk_), some (.inl a2_), some (.inr (.inr (some (2, kk_.toNat))))], [.inl 0], S0_)) rfl ?_
    refine sm_T_cale (d1_ := 0) (Q1_ := vq_266e 0 S0_) (Q2_ := (fun ex_ S1_ => ex_ ∈ ([1] : List Nat) ∧ vx_266e 0 S0_ S1_)) rfl rfl (by decide) (vc_266e 0 S0_ hI_ ) rfl (fun xx13_ Sx8_ px11_ => ?_) (fun u_ Sx8_ px11_ => ?_)
    · obtain ⟨px11m, hIx9_, hFx10_, px11_⟩ := px11_
      refine Or.inr ⟨_, _, rfl, by first | exact px11m | (simp only [List.mem_cons, List.not_mem_nil, or_false] at px11m ⊢; omega), hIx9_, ai_fr_tr hF_ (fr_le hFx10_ rfl), ?_⟩
      first | exact px11_.2 | exact px11_ | rfl
    · exact absurd rfl px11_.2.2.2.1
  · have cx7_ : ¬ (a2_ < 4) := of_decide_eq_false cx7_
    refine sm_T_go 2 (c1 := (14, [some (.inr (.inr (some (12, 0)))), some (.inl kk_), some (.inl a2_), some (.inr (.inr (some (2, kk_.toNat))))], [.inl 60, .inl a2_], S0_)) rfl ?_
    refine sm_T_br (a := 4) (z := 7) rfl (fun cx14_ => ?_) (fun cx14_ => ?_)
    · have cx14_ : 60 < a2_ := of_decide_eq_true cx14_
      refine sm_T_go 1 (c1 := (22, [some (.inr (.inr (some (12, 0)))), some (.inl kk_), some (.inl a2_), some (.inr (.inr (some (2, kk_.toNat))))], [.inl 0], S0_)) rfl ?_
      refine sm_T_cale (d1_ := 0) (Q1_ := vq_266e 0 S0_) (Q2_ := (fun ex_ S1_ => ex_ ∈ ([1] : List Nat) ∧ vx_266e 0 S0_ S1_)) rfl rfl (by decide) (vc_266e 0 S0_ hI_ ) rfl (fun xx20_ Sx15_ px18_ => ?_) (fun u_ Sx15_ px18_ => ?_)
      · obtain ⟨px18m, hIx16_, hFx17_, px18_⟩ := px18_
        refine Or.inr ⟨_, _, rfl, by first | exact px18m | (simp only [List.mem_cons, List.not_mem_nil, or_false] at px18m ⊢; omega), hIx16_, ai_fr_tr hF_ (fr_le hFx17_ rfl), ?_⟩
        first | exact px18_.2 | exact px18_ | rfl
      · exact absurd rfl px18_.2.2.2.1
    · have cx14_ : ¬ (60 < a2_) := of_decide_eq_false cx14_
      refine sm_T_go 2 (c1 := (22, [some (.inr (.inr (some (12, 0)))), some (.inl kk_), some (.inl a2_), some (.inr (.inr (some (2, kk_.toNat))))], [.inl 1], S0_)) rfl ?_
      refine sm_T_cale (d1_ := 0) (Q1_ := vq_266e 1 S0_) (Q2_ := (fun ex_ S1_ => ex_ ∈ ([1] : List Nat) ∧ vx_266e 1 S0_ S1_)) rfl rfl (by decide) (vc_266e 1 S0_ hI_ ) rfl (fun xx26_ Sx21_ px24_ => ?_) (fun u_ Sx21_ px24_ => ?_)
      · exact absurd px24_.2.2.2.1 (by decide)
      obtain ⟨rfl, -, -, px24_, rfl⟩ := px24_
      refine sm_T_go 4 (c1 := (31, [some (.inr (.inr (some (12, 0)))), some (.inl kk_), some (.inl a2_), some (.inr (.inr (some (2, kk_.toNat))))], [.inl a2_, .inr (.inr (some (2, kk_.toNat))), .inr (.inr (some (0, (0 + kk_.toNat))))], S0_)) rfl ?_
      refine sm_T_cal (d1 := 3) (Q1 := vq_20 a2_ (0 + kk_.toNat) kk_.toNat S0_) rfl rfl (by decide) (vc_20 a2_ (0 + kk_.toNat) kk_.toNat S0_ hI_ (by omega) (by exact J9_.2.2.2.2.1.1) (by omega) (by exact J9_.2.2.2.2.1.2.2)) (fun u_ Sx27_ px30_ => ?_)
      obtain ⟨vx32_, rfl, hIx28_, hFx29_, px30_⟩ := px30_
      have hFx31_ : ai_fr (sx_W vw_238) S0_ Sx27_ := ai_fr_tr hF_ (fr_le hFx29_ rfl)
      obtain ⟨dx33_, px30_⟩ := px30_
      have c31_ := dx33_
      have p31_ := px30_
      refine sm_T_ri rfl (Or.inl ⟨_, _, rfl, _, rfl, hIx28_, hFx31_, ?_⟩)
      exact jC_bd hJ_ ⟨a9_.2, by omega⟩ hFx31_ c31_ p31_.2.1 (p31_.2.2.elim (fun e_ => Or.inr (by rw [e_])) (fun e_ => Or.inl e_.1)) (by decide) (by decide) (by decide) (by decide)
