/-! ChipFlow.path -/
def vw_255 : sx_Wl := ([(11, 4), (11, 5), (11, 11)], [99, 101, 102, 103, 104, 105, 106], [(11, 3)])
def vq_255 (kk_ : Int) (k_ : Int) (wh_ : Int) (S0_ : sm_S) (u_ : Option sm_V) (S1_ : sm_S) : Prop := ∃ v_ : Int, u_ = some (.inl v_) ∧ gi S1_ ∧ ai_fr (sx_W vw_255) S0_ S1_ ∧ (jC S1_)
def vx_255 (kk_ : Int) (k_ : Int) (wh_ : Int) (S0_ : sm_S) (S1_ : sm_S) : Prop := gi S1_ ∧ ai_fr (sx_W vw_255) S0_ S1_ ∧ (S1_ = S0_)
set_option maxHeartbeats 400000 in
theorem vc_255 {sc_ : Nat × (Nat → Int)} (kk_ : Int) (k_ : Int) (wh_ : Int) (S0_ : sm_S) (hI_ : gi S0_) (hJ_ : jC S0_) : sm_T (mt_P sc_) 4 255 (0, [some (.inr (.inr (some (12, 0)))), some (.inl kk_), some (.inl k_), some (.inl wh_), none], [], S0_) (fun ro9_ => (∃ u_ S1_, ro9_ = (.inl u_, S1_, 0) ∧ vq_255 kk_ k_ wh_ S0_ u_ S1_) ∨ ∃ ex_ S1_, ro9_ = (.inr ex_, S1_, 1) ∧ ex_ ∈ ([0] : List Nat) ∧ vx_255 kk_ k_ wh_ S0_ S1_) := by
  have hF_ : ai_fr (sx_W vw_255) S0_ S0_ := ai_fr_rf
  refine sm_T_go 2 (c1 := (2, [some (.inr (.inr (some (12, 0)))), some (.inl kk_), some (.inl k_), some (.inl wh_), none], [.inl kk_, .inr (.inr (some (12, 0)))], S0_)) rfl ?_
  refine sm_T_cale (d1_ := 1) (Q1_ := vq_272 kk_ S0_) (Q2_ := (fun ex_ S1_ => ex_ ∈ ([0] : List Nat) ∧ vx_272 kk_ S0_ S1_)) rfl rfl (by decide) (vc_272 kk_ S0_ hI_ ) rfl (fun xx6_ Sx1_ px4_ => ?_) (fun u_ Sx1_ px4_ => ?_)
  · obtain ⟨px4m, hIx2_, hFx3_, px4_⟩ := px4_
    refine Or.inr ⟨_, _, rfl, by first | exact px4m | (simp only [List.mem_cons, List.not_mem_nil, or_false] at px4m ⊢; omega), hIx2_, ai_fr_tr hF_ (fr_le hFx3_ rfl), ?_⟩
    first | exact px4_.2 | exact px4_ | rfl
  obtain ⟨rfl, -, -, rfl, px4_⟩ := px4_
  have a9_ := px4_
  have J9_ := hJ_.2.1 kk_.toNat (by omega) a9_.2
  have J1_ := J9_.1
  have q9_ := a9_.2
  have c8_ : 0 ≤ S0_.1 2 (kk_.toNat) 8 ∧ S0_.1 2 (kk_.toNat) 8 ≤ 150 := hI_.1 2 (kk_.toNat) 8 rfl
  have c1_ : 0 ≤ S0_.1 2 (kk_.toNat) 1 ∧ S0_.1 2 (kk_.toNat) 1 ≤ 12 := hI_.1 2 (kk_.toNat) 1 rfl
  have c2_ : 0 ≤ S0_.1 2 (kk_.toNat) 2 ∧ S0_.1 2 (kk_.toNat) 2 ≤ 6 := hI_.1 2 (kk_.toNat) 2 rfl
  refine sm_T_go 2 (c1 := (8, [some (.inr (.inr (some (12, 0)))), some (.inl kk_), some (.inl k_), some (.inl wh_), some (.inr (.inr (some (2, kk_.toNat))))], [.inl k_], S0_)) rfl ?_
  refine sm_T_b0 (a := 2) (z := 13) rfl (fun cx7_ => ?_) (fun cx7_ => ?_)
  · have cx7_ : k_ < 0 := of_decide_eq_true cx7_
    refine sm_T_go 1 (c1 := (22, [some (.inr (.inr (some (12, 0)))), some (.inl kk_), some (.inl k_), some (.inl wh_), some (.inr (.inr (some (2, kk_.toNat))))], [.inl 0], S0_)) rfl ?_
    refine sm_T_cale (d1_ := 0) (Q1_ := vq_265e 0 S0_) (Q2_ := (fun ex_ S1_ => ex_ ∈ ([0] : List Nat) ∧ vx_265e 0 S0_ S1_)) rfl rfl (by decide) (vc_265e 0 S0_ hI_ ) rfl (fun xx13_ Sx8_ px11_ => ?_) (fun u_ Sx8_ px11_ => ?_)
    · obtain ⟨px11m, hIx9_, hFx10_, px11_⟩ := px11_
      refine Or.inr ⟨_, _, rfl, by first | exact px11m | (simp only [List.mem_cons, List.not_mem_nil, or_false] at px11m ⊢; omega), hIx9_, ai_fr_tr hF_ (fr_le hFx10_ rfl), ?_⟩
      first | exact px11_.2 | exact px11_ | rfl
    · exact absurd rfl px11_.2.2.2.1
  · have cx7_ : ¬ (k_ < 0) := of_decide_eq_false cx7_
    refine sm_T_go 2 (c1 := (14, [some (.inr (.inr (some (12, 0)))), some (.inl kk_), some (.inl k_), some (.inl wh_), some (.inr (.inr (some (2, kk_.toNat))))], [.inl 40, .inl k_], S0_)) rfl ?_
    refine sm_T_br (a := 3) (z := 7) rfl (fun cx14_ => ?_) (fun cx14_ => ?_)
    · have cx14_ : 40 ≤ k_ := of_decide_eq_true cx14_
      refine sm_T_go 1 (c1 := (22, [some (.inr (.inr (some (12, 0)))), some (.inl kk_), some (.inl k_), some (.inl wh_), some (.inr (.inr (some (2, kk_.toNat))))], [.inl 0], S0_)) rfl ?_
      refine sm_T_cale (d1_ := 0) (Q1_ := vq_265e 0 S0_) (Q2_ := (fun ex_ S1_ => ex_ ∈ ([0] : List Nat) ∧ vx_265e 0 S0_ S1_)) rfl rfl (by decide) (vc_265e 0 S0_ hI_ ) rfl (fun xx20_ Sx15_ px18_ => ?_) (fun u_ Sx15_ px18_ => ?_)
      · obtain ⟨px18m, hIx16_, hFx17_, px18_⟩ := px18_
        refine Or.inr ⟨_, _, rfl, by first | exact px18m | (simp only [List.mem_cons, List.not_mem_nil, or_false] at px18m ⊢; omega), hIx16_, ai_fr_tr hF_ (fr_le hFx17_ rfl), ?_⟩
        first | exact px18_.2 | exact px18_ | rfl
      · exact absurd rfl px18_.2.2.2.1
    · have cx14_ : ¬ (40 ≤ k_) := of_decide_eq_false cx14_
      refine sm_T_go 2 (c1 := (22, [some (.inr (.inr (some (12, 0)))), some (.inl kk_), some (.inl k_), some (.inl wh_), some (.inr (.inr (some (2, kk_.toNat))))], [.inl 1], S0_)) rfl ?_
      refine sm_T_cale (d1_ := 0) (Q1_ := vq_265e 1 S0_) (Q2_ := (fun ex_ S1_ => ex_ ∈ ([0] : List Nat) ∧ vx_265e 1 S0_ S1_)) rfl rfl (by decide) (vc_265e 1 S0_ hI_ ) rfl (fun xx26_ Sx21_ px24_ => ?_) (fun u_ Sx21_ px24_ => ?_)
      · exact absurd px24_.2.2.2.1 (by decide)
      obtain ⟨rfl, -, -, px24_, rfl⟩ := px24_
      refine sm_T_go 2 (c1 := (28, [some (.inr (.inr (some (12, 0)))), some (.inl kk_), some (.inl k_), some (.inl wh_), some (.inr (.inr (some (2, kk_.toNat))))], [.inl (-3), .inl wh_], S0_)) rfl ?_
      refine sm_T_br (a := 2) (z := 7) rfl (fun cx27_ => ?_) (fun cx27_ => ?_)
      · have cx27_ : wh_ < (-3) := of_decide_eq_true cx27_
        refine sm_T_go 1 (c1 := (36, [some (.inr (.inr (some (12, 0)))), some (.inl kk_), some (.inl k_), some (.inl wh_), some (.inr (.inr (some (2, kk_.toNat))))], [.inl 0], S0_)) rfl ?_
        refine sm_T_cale (d1_ := 0) (Q1_ := vq_265e 0 S0_) (Q2_ := (fun ex_ S1_ => ex_ ∈ ([0] : List Nat) ∧ vx_265e 0 S0_ S1_)) rfl rfl (by decide) (vc_265e 0 S0_ hI_ ) rfl (fun xx33_ Sx28_ px31_ => ?_) (fun u_ Sx28_ px31_ => ?_)
        · obtain ⟨px31m, hIx29_, hFx30_, px31_⟩ := px31_
          refine Or.inr ⟨_, _, rfl, by first | exact px31m | (simp only [List.mem_cons, List.not_mem_nil, or_false] at px31m ⊢; omega), hIx29_, ai_fr_tr hF_ (fr_le hFx30_ rfl), ?_⟩
          first | exact px31_.2 | exact px31_ | rfl
        · exact absurd rfl px31_.2.2.2.1
      · have cx27_ : ¬ (wh_ < (-3)) := of_decide_eq_false cx27_
        refine sm_T_go 2 (c1 := (36, [some (.inr (.inr (some (12, 0)))), some (.inl kk_), some (.inl k_), some (.inl wh_), some (.inr (.inr (some (2, kk_.toNat))))], [.inl 1], S0_)) rfl ?_
        refine sm_T_cale (d1_ := 0) (Q1_ := vq_265e 1 S0_) (Q2_ := (fun ex_ S1_ => ex_ ∈ ([0] : List Nat) ∧ vx_265e 1 S0_ S1_)) rfl rfl (by decide) (vc_265e 1 S0_ hI_ ) rfl (fun xx39_ Sx34_ px37_ => ?_) (fun u_ Sx34_ px37_ => ?_)
        · exact absurd px37_.2.2.2.1 (by decide)
        obtain ⟨rfl, -, -, px37_, rfl⟩ := px37_
        refine sm_T_go 3 (c1 := (45, [some (.inr (.inr (some (12, 0)))), some (.inl kk_), some (.inl k_), some (.inl wh_), some (.inr (.inr (some (2, kk_.toNat))))], [.inr (.inr (some (2, kk_.toNat))), .inr (.inr (some (11, 0)))], S0_)) rfl ?_
        refine sm_T_cal (d1 := 3) (Q1 := vq_199 kk_.toNat S0_) rfl rfl (by decide) (vc_199 kk_.toNat S0_ hI_ (by omega) (by exact hJ_.2.2.1)) (fun u_ Sx40_ px43_ => ?_)
        obtain ⟨rfl, hIx41_, hFx42_, px43_⟩ := px43_
        have hFx44_ : ai_fr (sx_W vw_255) S0_ Sx40_ := ai_fr_tr hF_ (fr_le hFx42_ rfl)
        have p45_ := px43_
        refine sm_T_go 4 (c1 := (54, [some (.inr (.inr (some (12, 0)))), some (.inl kk_), some (.inl k_), some (.inl wh_), some (.inr (.inr (some (2, kk_.toNat))))], [.inl wh_, .inl k_, .inr (.inr (some (11, 0)))], Sx40_)) rfl ?_
        refine sm_T_cal (d1 := 0) (Q1 := vq_198 k_ wh_ Sx40_) rfl rfl (by decide) (vc_198 k_ wh_ Sx40_ hIx41_ (by omega) (by exact p45_)) (fun u_ Sx45_ px48_ => ?_)
        obtain ⟨rfl, vx50_, rfl, px48_⟩ := px48_
        refine sm_T_ri rfl (Or.inl ⟨_, _, rfl, _, rfl, hIx41_, hFx44_, ?_⟩)
        exact jC_mk hJ_ hFx44_ p45_ (shn_fr hJ_.2.2.2 hFx44_) (by decide) (by decide) (by decide) (by decide) (by decide)
