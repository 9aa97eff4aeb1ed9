/-! ChipFlow.faults -/
def vw_264 : sx_Wl := ([(9, 1), (9, 2), (9, 3)], [92, 93, 94, 95, 96], [(9, 0)])
def vq_264 (kk_ : Int) (wh_ : Int) (S0_ : sm_S) (u_ : Option sm_V) (S1_ : sm_S) : Prop := ∃ v_ : Int, u_ = some (.inl v_) ∧ gi S1_ ∧ ai_fr (sx_W vw_264) S0_ S1_ ∧ (jC S1_)
def vx_264 (kk_ : Int) (wh_ : Int) (S0_ : sm_S) (S1_ : sm_S) : Prop := gi S1_ ∧ ai_fr (sx_W vw_264) S0_ S1_ ∧ (S1_ = S0_)
set_option maxHeartbeats 400000 in
theorem vc_264 {sc_ : Nat × (Nat → Int)} (kk_ : Int) (wh_ : Int) (S0_ : sm_S) (hI_ : gi S0_) (hJ_ : jC S0_) : sm_T (mt_P sc_) 7 264 (0, [some (.inr (.inr (some (12, 0)))), some (.inl kk_), some (.inl wh_), none], [], S0_) (fun ro9_ => (∃ u_ S1_, ro9_ = (.inl u_, S1_, 0) ∧ vq_264 kk_ wh_ S0_ u_ S1_) ∨ ∃ ex_ S1_, ro9_ = (.inr ex_, S1_, 1) ∧ ex_ ∈ ([0, 1] : List Nat) ∧ vx_264 kk_ wh_ S0_ S1_) := by
  have hF_ : ai_fr (sx_W vw_264) S0_ S0_ := ai_fr_rf
  refine sm_T_go 2 (c1 := (2, [some (.inr (.inr (some (12, 0)))), some (.inl kk_), some (.inl wh_), none], [.inl kk_, .inr (.inr (some (12, 0)))], S0_)) rfl ?_
  refine sm_T_cale (d1_ := 1) (Q1_ := vq_272 kk_ S0_) (Q2_ := (fun ex_ S1_ => ex_ ∈ ([0] : List Nat) ∧ vx_272 kk_ S0_ S1_)) rfl rfl (by decide) (vc_272 kk_ S0_ hI_ ) rfl (fun xx6_ Sx1_ px4_ => ?_) (fun u_ Sx1_ px4_ => ?_)
  · obtain ⟨px4m, hIx2_, hFx3_, px4_⟩ := px4_
    refine Or.inr ⟨_, _, rfl, by first | exact px4m | (simp only [List.mem_cons, List.not_mem_nil, or_false] at px4m ⊢; omega), hIx2_, ai_fr_tr hF_ (fr_le hFx3_ rfl), ?_⟩
    first | exact px4_.2 | exact px4_ | rfl
  obtain ⟨rfl, -, -, rfl, px4_⟩ := px4_
  have a9_ := px4_
  have J9_ := hJ_.2.1 kk_.toNat (by omega) a9_.2
  have J1_ := J9_.1
  have q9_ := a9_.2
  have c8_ : 0 ≤ S0_.1 2 (kk_.toNat) 8 ∧ S0_.1 2 (kk_.toNat) 8 ≤ 150 := hI_.1 2 (kk_.toNat) 8 rfl
  have c1_ : 0 ≤ S0_.1 2 (kk_.toNat) 1 ∧ S0_.1 2 (kk_.toNat) 1 ≤ 12 := hI_.1 2 (kk_.toNat) 1 rfl
  have c2_ : 0 ≤ S0_.1 2 (kk_.toNat) 2 ∧ S0_.1 2 (kk_.toNat) 2 ≤ 6 := hI_.1 2 (kk_.toNat) 2 rfl
  refine sm_T_go 2 (c1 := (7, [some (.inr (.inr (some (12, 0)))), some (.inl kk_), some (.inl wh_), some (.inr (.inr (some (2, kk_.toNat))))], [.inl wh_], S0_)) rfl ?_
  refine sm_T_b0 (a := 2) (z := 12) rfl (fun cx7_ => ?_) (fun cx7_ => ?_)
  · have cx7_ : wh_ < 0 := of_decide_eq_true cx7_
    refine sm_T_go 1 (c1 := (20, [some (.inr (.inr (some (12, 0)))), some (.inl kk_), some (.inl wh_), some (.inr (.inr (some (2, kk_.toNat))))], [.inl 0], S0_)) rfl ?_
    refine sm_T_cale (d1_ := 0) (Q1_ := vq_266e 0 S0_) (Q2_ := (fun ex_ S1_ => ex_ ∈ ([1] : List Nat) ∧ vx_266e 0 S0_ S1_)) rfl rfl (by decide) (vc_266e 0 S0_ hI_ ) rfl (fun xx13_ Sx8_ px11_ => ?_) (fun u_ Sx8_ px11_ => ?_)
    · obtain ⟨px11m, hIx9_, hFx10_, px11_⟩ := px11_
      refine Or.inr ⟨_, _, rfl, by first | exact px11m | (simp only [List.mem_cons, List.not_mem_nil, or_false] at px11m ⊢; omega), hIx9_, ai_fr_tr hF_ (fr_le hFx10_ rfl), ?_⟩
      first | exact px11_.2 | exact px11_ | rfl
    · exact absurd rfl px11_.2.2.2.1
  · have cx7_ : ¬ (wh_ < 0) := of_decide_eq_false cx7_
    refine sm_T_go 2 (c1 := (12, [some (.inr (.inr (some (12, 0)))), some (.inl kk_), some (.inl wh_), some (.inr (.inr (some (2, kk_.toNat))))], [.inl 2, .inl wh_], S0_)) rfl ?_
    refine sm_T_br (a := 4) (z := 7) rfl (fun cx14_ => ?_) (fun cx14_ => ?_)
    · have cx14_ : 2 < wh_ := of_decide_eq_true cx14_
      refine sm_T_go 1 (c1 := (20, [some (.inr (.inr (some (12, 0)))), some (.inl kk_), some (.inl wh_), some (.inr (.inr (some (2, kk_.toNat))))], [.inl 0], S0_)) rfl ?_
      refine sm_T_cale (d1_ := 0) (Q1_ := vq_266e 0 S0_) (Q2_ := (fun ex_ S1_ => ex_ ∈ ([1] : List Nat) ∧ vx_266e 0 S0_ S1_)) rfl rfl (by decide) (vc_266e 0 S0_ hI_ ) rfl (fun xx20_ Sx15_ px18_ => ?_) (fun u_ Sx15_ px18_ => ?_)
      · obtain ⟨px18m, hIx16_, hFx17_, px18_⟩ := px18_
        refine Or.inr ⟨_, _, rfl, by first | exact px18m | (simp only [List.mem_cons, List.not_mem_nil, or_false] at px18m ⊢; omega), hIx16_, ai_fr_tr hF_ (fr_le hFx17_ rfl), ?_⟩
        first | exact px18_.2 | exact px18_ | rfl
      · exact absurd rfl px18_.2.2.2.1
    · have cx14_ : ¬ (2 < wh_) := of_decide_eq_false cx14_
      refine sm_T_go 2 (c1 := (20, [some (.inr (.inr (some (12, 0)))), some (.inl kk_), some (.inl wh_), some (.inr (.inr (some (2, kk_.toNat))))], [.inl 1], S0_)) rfl ?_
      refine sm_T_cale (d1_ := 0) (Q1_ := vq_266e 1 S0_) (Q2_ := (fun ex_ S1_ => ex_ ∈ ([1] : List Nat) ∧ vx_266e 1 S0_ S1_)) rfl rfl (by decide) (vc_266e 1 S0_ hI_ ) rfl (fun xx26_ Sx21_ px24_ => ?_) (fun u_ Sx21_ px24_ => ?_)
      · exact absurd px24_.2.2.2.1 (by decide)
      obtain ⟨rfl, -, -, px24_, rfl⟩ := px24_
      refine sm_T_go 1 (c1 := (24, [some (.inr (.inr (some (12, 0)))), some (.inl kk_), some (.inl wh_), some (.inr (.inr (some (2, kk_.toNat))))], [.inl wh_], S0_)) rfl ?_
      refine sm_T_b0 (a := 1) (z := 8) rfl (fun cx27_ => ?_) (fun cx27_ => ?_)
      · have cx27_ : wh_ ≠ 0 := of_decide_eq_true cx27_
        refine sm_T_go 2 (c1 := (34, [some (.inr (.inr (some (12, 0)))), some (.inl kk_), some (.inl wh_), some (.inr (.inr (some (2, kk_.toNat))))], [.inl 1, .inl wh_], S0_)) rfl ?_
        refine sm_T_br (a := 1) (z := 12) rfl (fun cx28_ => ?_) (fun cx28_ => ?_)
        · have cx28_ : wh_ ≠ 1 := of_decide_eq_true cx28_
          have bx29_ : (-1) ≤ S0_.1 2 kk_.toNat 15 ∧ S0_.1 2 kk_.toNat 15 ≤ 1224 := hI_.1 2 kk_.toNat 15 rfl
          refine sm_T_go 3 (c1 := (51, [some (.inr (.inr (some (12, 0)))), some (.inl kk_), some (.inl wh_), some (.inr (.inr (some (2, kk_.toNat))))], [.inl (-1), .inl (S0_.1 2 kk_.toNat 15)], S0_)) rfl ?_
          refine sm_T_br (a := 1) (z := 7) rfl (fun cx30_ => ?_) (fun cx30_ => ?_)
          · have cx30_ : (S0_.1 2 kk_.toNat 15) ≠ (-1) := of_decide_eq_true cx30_
            refine sm_T_go 3 (c1 := (63, [some (.inr (.inr (some (12, 0)))), some (.inl kk_), some (.inl wh_), some (.inr (.inr (some (2, kk_.toNat))))], [.inr (.inr (some (2, kk_.toNat))), .inr (.inr (some (9, 0)))], S0_)) rfl ?_
            refine sm_T_cal (d1 := 5) (Q1 := vq_183 kk_.toNat S0_) rfl rfl (by decide) (vc_183 kk_.toNat S0_ hI_ (by omega) (by exact hJ_.2.2.2)) (fun u_ Sx31_ px34_ => ?_)
            obtain ⟨vx36_, rfl, hIx32_, hFx33_, px34_⟩ := px34_
            have hFx35_ : ai_fr (sx_W vw_264) S0_ Sx31_ := ai_fr_tr hF_ (fr_le hFx33_ rfl)
            have ex37_ : Sx31_.1 2 kk_.toNat 15 = S0_.1 2 kk_.toNat 15 := hFx33_.1 2 kk_.toNat 15 rfl
            have p63_ := px34_
            refine sm_T_ri rfl (Or.inl ⟨_, _, rfl, _, rfl, hIx32_, hFx35_, ?_⟩)
            first | exact hJ_ | exact jC_mk hJ_ hFx35_ (tpo_fr hJ_.2.2.1 hFx35_) p42_ (by decide) (by decide) (by decide) (by decide) (by decide) | exact jC_mk hJ_ hFx35_ (tpo_fr hJ_.2.2.1 hFx35_) p63_ (by decide) (by decide) (by decide) (by decide) (by decide)
          · have cx30_ : ¬ ((S0_.1 2 kk_.toNat 15) ≠ (-1)) := of_decide_eq_false cx30_
            refine sm_T_go 2 (c1 := (66, [some (.inr (.inr (some (12, 0)))), some (.inl kk_), some (.inl wh_), some (.inr (.inr (some (2, kk_.toNat))))], [.inl (-1)], S0_)) rfl ?_
            refine sm_T_ri rfl (Or.inl ⟨_, _, rfl, _, rfl, hI_, hF_, ?_⟩)
            first | exact hJ_ | exact jC_mk hJ_ hF_ (tpo_fr hJ_.2.2.1 hF_) p42_ (by decide) (by decide) (by decide) (by decide) (by decide) | exact jC_mk hJ_ hF_ (tpo_fr hJ_.2.2.1 hF_) p63_ (by decide) (by decide) (by decide) (by decide) (by decide)
        · have cx28_ : ¬ (wh_ ≠ 1) := of_decide_eq_false cx28_
          refine sm_T_go 3 (c1 := (42, [some (.inr (.inr (some (12, 0)))), some (.inl kk_), some (.inl wh_), some (.inr (.inr (some (2, kk_.toNat))))], [.inr (.inr (some (2, kk_.toNat))), .inr (.inr (some (9, 0)))], S0_)) rfl ?_
          refine sm_T_cal (d1 := 6) (Q1 := vq_178 kk_.toNat S0_) rfl rfl (by decide) (vc_178 kk_.toNat S0_ hI_ (by omega) (by exact hJ_.2.2.2)) (fun u_ Sx38_ px41_ => ?_)
          obtain ⟨vx43_, rfl, hIx39_, hFx40_, px41_⟩ := px41_
          have hFx42_ : ai_fr (sx_W vw_264) S0_ Sx38_ := ai_fr_tr hF_ (fr_le hFx40_ rfl)
          have p42_ := px41_
          refine sm_T_ri rfl (Or.inl ⟨_, _, rfl, _, rfl, hIx39_, hFx42_, ?_⟩)
          first | exact hJ_ | exact jC_mk hJ_ hFx42_ (tpo_fr hJ_.2.2.1 hFx42_) p42_ (by decide) (by decide) (by decide) (by decide) (by decide) | exact jC_mk hJ_ hFx42_ (tpo_fr hJ_.2.2.1 hFx42_) p63_ (by decide) (by decide) (by decide) (by decide) (by decide)
      · have cx27_ : ¬ (wh_ ≠ 0) := of_decide_eq_false cx27_
        refine sm_T_go 1 (c1 := (28, [some (.inr (.inr (some (12, 0)))), some (.inl kk_), some (.inl wh_), some (.inr (.inr (some (2, kk_.toNat))))], [.inr (.inr (some (2, kk_.toNat)))], S0_)) rfl ?_
        refine sm_T_cal (d1 := 1) (Q1 := vq_62 kk_.toNat S0_) rfl rfl (by decide) (vc_62 kk_.toNat S0_ hI_ (by omega)) (fun u_ Sx44_ px47_ => ?_)
        obtain ⟨rfl, vx49_, rfl, px47_⟩ := px47_
        refine sm_T_ri rfl (Or.inl ⟨_, _, rfl, _, rfl, hI_, hF_, ?_⟩)
        first | exact hJ_ | exact jC_mk hJ_ hF_ (tpo_fr hJ_.2.2.1 hF_) p42_ (by decide) (by decide) (by decide) (by decide) (by decide) | exact jC_mk hJ_ hF_ (tpo_fr hJ_.2.2.1 hF_) p63_ (by decide) (by decide) (by decide) (by decide) (by decide)
