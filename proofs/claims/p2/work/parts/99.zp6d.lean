/-! ChipFlow.found -/
def vw_252 : sx_Wl := ([(4, 4), (4, 5), (4, 6), (4, 7), (4, 10)], [51, 52, 53, 54], [])
def vq_252 (kk_ : Int) (wh_ : Int) (S0_ : sm_S) (u_ : Option sm_V) (S1_ : sm_S) : Prop := ∃ v_ : Int, u_ = some (.inl v_) ∧ gi S1_ ∧ ai_fr (sx_W vw_252) S0_ S1_ ∧ (jC S1_)
def vx_252 (kk_ : Int) (wh_ : Int) (S0_ : sm_S) (S1_ : sm_S) : Prop := gi S1_ ∧ ai_fr (sx_W vw_252) S0_ S1_ ∧ (S1_ = S0_)
set_option maxHeartbeats 400000 in
theorem vc_252 {sc_ : Nat × (Nat → Int)} (kk_ : Int) (wh_ : Int) (S0_ : sm_S) (hI_ : gi S0_) (hJ_ : jC S0_) : sm_T (mt_P sc_) 4 252 (0, [some (.inr (.inr (some (12, 0)))), some (.inl kk_), some (.inl wh_), none, none], [], S0_) (fun ro9_ => (∃ u_ S1_, ro9_ = (.inl u_, S1_, 0) ∧ vq_252 kk_ wh_ S0_ u_ S1_) ∨ ∃ ex_ S1_, ro9_ = (.inr ex_, S1_, 1) ∧ ex_ ∈ ([0, 1, 2] : List Nat) ∧ vx_252 kk_ wh_ S0_ S1_) := by
  have hF_ : ai_fr (sx_W vw_252) S0_ S0_ := ai_fr_rf
  refine sm_T_go 2 (c1 := (2, [some (.inr (.inr (some (12, 0)))), some (.inl kk_), some (.inl wh_), none, none], [.inl kk_, .inr (.inr (some (12, 0)))], S0_)) rfl ?_
  refine sm_T_cale (d1_ := 1) (Q1_ := vq_272 kk_ S0_) (Q2_ := (fun ex_ S1_ => ex_ ∈ ([0] : List Nat) ∧ vx_272 kk_ S0_ S1_)) rfl rfl (by decide) (vc_272 kk_ S0_ hI_ ) rfl (fun xx6_ Sx1_ px4_ => ?_) (fun u_ Sx1_ px4_ => ?_)
  · obtain ⟨px4m, hIx2_, hFx3_, px4_⟩ := px4_
    refine Or.inr ⟨_, _, rfl, by first | exact px4m | (simp only [List.mem_cons, List.not_mem_nil, or_false] at px4m ⊢; omega), hIx2_, ai_fr_tr hF_ (fr_le hFx3_ rfl), ?_⟩
    first | exact px4_.2 | exact px4_ | rfl
  obtain ⟨rfl, -, -, rfl, px4_⟩ := px4_
  have a9_ := px4_
  have J9_ := hJ_.2.1 kk_.toNat (by omega) a9_.2
  have J1_ := J9_.1
  have q9_ := a9_.2
  have c8_ : 0 ≤ S0_.1 2 (kk_.toNat) 8 ∧ S0_.1 2 (kk_.toNat) 8 ≤ 150 := hI_.1 2 (kk_.toNat) 8 rfl
  have c1_ : 0 ≤ S0_.1 2 (kk_.toNat) 1 ∧ S0_.1 2 (kk_.toNat) 1 ≤ 12 := hI_.1 2 (kk_.toNat) 1 rfl
  have c2_ : 0 ≤ S0_.1 2 (kk_.toNat) 2 ∧ S0_.1 2 (kk_.toNat) 2 ≤ 6 := hI_.1 2 (kk_.toNat) 2 rfl
  refine sm_T_go 6 (c1 := (16, [some (.inr (.inr (some (12, 0)))), some (.inl kk_), some (.inl wh_), some (.inr (.inr (some (2, kk_.toNat)))), some (.inr (.inr (some (4, (0 + (0 + kk_.toNat))))))], [.inl wh_], S0_)) rfl ?_
  refine sm_T_b0 (a := 2) (z := 12) rfl (fun cx7_ => ?_) (fun cx7_ => ?_)
  · have cx7_ : wh_ < 0 := of_decide_eq_true cx7_
    refine sm_T_go 1 (c1 := (29, [some (.inr (.inr (some (12, 0)))), some (.inl kk_), some (.inl wh_), some (.inr (.inr (some (2, kk_.toNat)))), some (.inr (.inr (some (4, (0 + (0 + kk_.toNat))))))], [.inl 0], S0_)) rfl ?_
    refine sm_T_cale (d1_ := 0) (Q1_ := vq_266e 0 S0_) (Q2_ := (fun ex_ S1_ => ex_ ∈ ([1] : List Nat) ∧ vx_266e 0 S0_ S1_)) rfl rfl (by decide) (vc_266e 0 S0_ hI_ ) rfl (fun xx13_ Sx8_ px11_ => ?_) (fun u_ Sx8_ px11_ => ?_)
    · obtain ⟨px11m, hIx9_, hFx10_, px11_⟩ := px11_
      refine Or.inr ⟨_, _, rfl, by first | exact px11m | (simp only [List.mem_cons, List.not_mem_nil, or_false] at px11m ⊢; omega), hIx9_, ai_fr_tr hF_ (fr_le hFx10_ rfl), ?_⟩
      first | exact px11_.2 | exact px11_ | rfl
    · exact absurd rfl px11_.2.2.2.1
  · have cx7_ : ¬ (wh_ < 0) := of_decide_eq_false cx7_
    refine sm_T_go 2 (c1 := (21, [some (.inr (.inr (some (12, 0)))), some (.inl kk_), some (.inl wh_), some (.inr (.inr (some (2, kk_.toNat)))), some (.inr (.inr (some (4, (0 + (0 + kk_.toNat))))))], [.inl 4, .inl wh_], S0_)) rfl ?_
    refine sm_T_br (a := 4) (z := 7) rfl (fun cx14_ => ?_) (fun cx14_ => ?_)
    · have cx14_ : 4 < wh_ := of_decide_eq_true cx14_
      refine sm_T_go 1 (c1 := (29, [some (.inr (.inr (some (12, 0)))), some (.inl kk_), some (.inl wh_), some (.inr (.inr (some (2, kk_.toNat)))), some (.inr (.inr (some (4, (0 + (0 + kk_.toNat))))))], [.inl 0], S0_)) rfl ?_
      refine sm_T_cale (d1_ := 0) (Q1_ := vq_266e 0 S0_) (Q2_ := (fun ex_ S1_ => ex_ ∈ ([1] : List Nat) ∧ vx_266e 0 S0_ S1_)) rfl rfl (by decide) (vc_266e 0 S0_ hI_ ) rfl (fun xx20_ Sx15_ px18_ => ?_) (fun u_ Sx15_ px18_ => ?_)
      · obtain ⟨px18m, hIx16_, hFx17_, px18_⟩ := px18_
        refine Or.inr ⟨_, _, rfl, by first | exact px18m | (simp only [List.mem_cons, List.not_mem_nil, or_false] at px18m ⊢; omega), hIx16_, ai_fr_tr hF_ (fr_le hFx17_ rfl), ?_⟩
        first | exact px18_.2 | exact px18_ | rfl
      · exact absurd rfl px18_.2.2.2.1
    · have cx14_ : ¬ (4 < wh_) := of_decide_eq_false cx14_
      refine sm_T_go 2 (c1 := (29, [some (.inr (.inr (some (12, 0)))), some (.inl kk_), some (.inl wh_), some (.inr (.inr (some (2, kk_.toNat)))), some (.inr (.inr (some (4, (0 + (0 + kk_.toNat))))))], [.inl 1], S0_)) rfl ?_
      refine sm_T_cale (d1_ := 0) (Q1_ := vq_266e 1 S0_) (Q2_ := (fun ex_ S1_ => ex_ ∈ ([1] : List Nat) ∧ vx_266e 1 S0_ S1_)) rfl rfl (by decide) (vc_266e 1 S0_ hI_ ) rfl (fun xx26_ Sx21_ px24_ => ?_) (fun u_ Sx21_ px24_ => ?_)
      · exact absurd px24_.2.2.2.1 (by decide)
      obtain ⟨rfl, -, -, px24_, rfl⟩ := px24_
      have bx27_ : 0 ≤ S0_.1 4 (0 + (0 + kk_.toNat)) 0 ∧ S0_.1 4 (0 + (0 + kk_.toNat)) 0 ≤ 1 := hI_.1 4 (0 + (0 + kk_.toNat)) 0 rfl
      refine sm_T_go 2 (c1 := (37, [some (.inr (.inr (some (12, 0)))), some (.inl kk_), some (.inl wh_), some (.inr (.inr (some (2, kk_.toNat)))), some (.inr (.inr (some (4, (0 + (0 + kk_.toNat))))))], [.inl (S0_.1 4 (0 + (0 + kk_.toNat)) 0)], S0_)) rfl ?_
      refine sm_T_cale (d1_ := 0) (Q1_ := vq_267e (S0_.1 4 (0 + (0 + kk_.toNat)) 0) S0_) (Q2_ := (fun ex_ S1_ => ex_ ∈ ([2] : List Nat) ∧ vx_267e (S0_.1 4 (0 + (0 + kk_.toNat)) 0) S0_ S1_)) rfl rfl (by decide) (vc_267e (S0_.1 4 (0 + (0 + kk_.toNat)) 0) S0_ hI_ ) rfl (fun xx33_ Sx28_ px31_ => ?_) (fun u_ Sx28_ px31_ => ?_)
      · obtain ⟨px31m, hIx29_, hFx30_, px31_⟩ := px31_
        refine Or.inr ⟨_, _, rfl, by first | exact px31m | (simp only [List.mem_cons, List.not_mem_nil, or_false] at px31m ⊢; omega), hIx29_, ai_fr_tr hF_ (fr_le hFx30_ rfl), ?_⟩
        first | exact px31_.2 | exact px31_ | rfl
      obtain ⟨rfl, -, -, px31_, rfl⟩ := px31_
      have bx34_ : 0 ≤ S0_.1 2 kk_.toNat 2 ∧ S0_.1 2 kk_.toNat 2 ≤ 6 := hI_.1 2 kk_.toNat 2 rfl
      refine sm_T_go 5 (c1 := (50, [some (.inr (.inr (some (12, 0)))), some (.inl kk_), some (.inl wh_), some (.inr (.inr (some (2, kk_.toNat)))), some (.inr (.inr (some (4, (0 + (0 + kk_.toNat))))))], [.inl (S0_.1 2 kk_.toNat 2), .inr (.inr (some (0, (0 + kk_.toNat)))), .inr (.inr (some (4, (0 + (0 + kk_.toNat)))))], S0_)) rfl ?_
      refine sm_T_cal (d1 := 3) (Q1 := vq_82 (S0_.1 2 kk_.toNat 2) (0 + (0 + kk_.toNat)) (0 + kk_.toNat) S0_) rfl rfl (by decide) (vc_82 (S0_.1 2 kk_.toNat 2) (0 + (0 + kk_.toNat)) (0 + kk_.toNat) S0_ hI_ (by exact J9_.2.2.2.2.1.1) (by omega)) (fun u_ Sx35_ px38_ => ?_)
      obtain ⟨rfl, hIx36_, hFx37_, px38_⟩ := px38_
      have hFx39_ : ai_fr (sx_W vw_252) S0_ Sx35_ := ai_fr_tr hF_ (fr_le hFx37_ rfl)
      obtain ⟨dx40_, px38_⟩ := px38_
      have ex41_ : Sx35_.1 2 kk_.toNat 2 = S0_.1 2 kk_.toNat 2 := hFx37_.1 2 kk_.toNat 2 rfl
      refine sm_T_go 1 (c1 := (54, [some (.inr (.inr (some (12, 0)))), some (.inl kk_), some (.inl wh_), some (.inr (.inr (some (2, kk_.toNat)))), some (.inr (.inr (some (4, (0 + (0 + kk_.toNat))))))], [.inl wh_], Sx35_)) rfl ?_
      by_cases cx42_ : wh_ = 0
      · refine sm_T_sw (t := 84) rfl rfl (by rw [cx42_]; rfl) ?_
        have bx43_ : 0 ≤ Sx35_.1 4 (0 + (0 + kk_.toNat)) 4 ∧ Sx35_.1 4 (0 + (0 + kk_.toNat)) 4 ≤ 1073741823 := hIx36_.1 4 (0 + (0 + kk_.toNat)) 4 rfl
        refine sm_T_go 2 (c1 := (89, [some (.inr (.inr (some (12, 0)))), some (.inl kk_), some (.inl wh_), some (.inr (.inr (some (2, kk_.toNat)))), some (.inr (.inr (some (4, (0 + (0 + kk_.toNat))))))], [.inl (Sx35_.1 4 (0 + (0 + kk_.toNat)) 4)], Sx35_)) rfl ?_
        refine sm_T_b0 (a := 1) (z := 15) rfl (fun cx44_ => ?_) (fun cx44_ => ?_)
        · have cx44_ : (Sx35_.1 4 (0 + (0 + kk_.toNat)) 4) ≠ 0 := of_decide_eq_true cx44_
          refine sm_T_go 1 (c1 := (105, [some (.inr (.inr (some (12, 0)))), some (.inl kk_), some (.inl wh_), some (.inr (.inr (some (2, kk_.toNat)))), some (.inr (.inr (some (4, (0 + (0 + kk_.toNat))))))], [.inl 0], Sx35_)) rfl ?_
          refine sm_T_ri rfl (Or.inl ⟨_, _, rfl, _, rfl, hIx36_, hFx39_, ?_⟩)
          exact jC_fr hJ_ hFx39_ (by decide) (by decide) (by decide) (by decide) (by decide) rfl rfl rfl rfl rfl rfl
        · have cx44_ : ¬ ((Sx35_.1 4 (0 + (0 + kk_.toNat)) 4) ≠ 0) := of_decide_eq_false cx44_
          have bx45_ : 0 ≤ Sx35_.1 4 (0 + (0 + kk_.toNat)) 5 ∧ Sx35_.1 4 (0 + (0 + kk_.toNat)) 5 ≤ 100000 := hIx36_.1 4 (0 + (0 + kk_.toNat)) 5 rfl
          refine sm_T_go 2 (c1 := (97, [some (.inr (.inr (some (12, 0)))), some (.inl kk_), some (.inl wh_), some (.inr (.inr (some (2, kk_.toNat)))), some (.inr (.inr (some (4, (0 + (0 + kk_.toNat))))))], [.inl (Sx35_.1 4 (0 + (0 + kk_.toNat)) 5)], Sx35_)) rfl ?_
          refine sm_T_b0 (a := 1) (z := 7) rfl (fun cx46_ => ?_) (fun cx46_ => ?_)
          · have cx46_ : (Sx35_.1 4 (0 + (0 + kk_.toNat)) 5) ≠ 0 := of_decide_eq_true cx46_
            refine sm_T_go 1 (c1 := (105, [some (.inr (.inr (some (12, 0)))), some (.inl kk_), some (.inl wh_), some (.inr (.inr (some (2, kk_.toNat)))), some (.inr (.inr (some (4, (0 + (0 + kk_.toNat))))))], [.inl 0], Sx35_)) rfl ?_
            refine sm_T_ri rfl (Or.inl ⟨_, _, rfl, _, rfl, hIx36_, hFx39_, ?_⟩)
            exact jC_fr hJ_ hFx39_ (by decide) (by decide) (by decide) (by decide) (by decide) rfl rfl rfl rfl rfl rfl
          · have cx46_ : ¬ ((Sx35_.1 4 (0 + (0 + kk_.toNat)) 5) ≠ 0) := of_decide_eq_false cx46_
            refine sm_T_go 2 (c1 := (105, [some (.inr (.inr (some (12, 0)))), some (.inl kk_), some (.inl wh_), some (.inr (.inr (some (2, kk_.toNat)))), some (.inr (.inr (some (4, (0 + (0 + kk_.toNat))))))], [.inl 1], Sx35_)) rfl ?_
            refine sm_T_ri rfl (Or.inl ⟨_, _, rfl, _, rfl, hIx36_, hFx39_, ?_⟩)
            exact jC_fr hJ_ hFx39_ (by decide) (by decide) (by decide) (by decide) (by decide) rfl rfl rfl rfl rfl rfl
      by_cases cx47_ : wh_ = 1
      · refine sm_T_sw (t := 106) rfl rfl (by rw [cx47_]; rfl) ?_
        have bx48_ : 0 ≤ Sx35_.1 4 (0 + (0 + kk_.toNat)) 4 ∧ Sx35_.1 4 (0 + (0 + kk_.toNat)) 4 ≤ 1073741823 := hIx36_.1 4 (0 + (0 + kk_.toNat)) 4 rfl
        refine sm_T_go 2 (c1 := (111, [some (.inr (.inr (some (12, 0)))), some (.inl kk_), some (.inl wh_), some (.inr (.inr (some (2, kk_.toNat)))), some (.inr (.inr (some (4, (0 + (0 + kk_.toNat))))))], [.inl (Sx35_.1 4 (0 + (0 + kk_.toNat)) 4)], Sx35_)) rfl ?_
        refine sm_T_ri rfl (Or.inl ⟨_, _, rfl, _, rfl, hIx36_, hFx39_, ?_⟩)
        exact jC_fr hJ_ hFx39_ (by decide) (by decide) (by decide) (by decide) (by decide) rfl rfl rfl rfl rfl rfl
      by_cases cx49_ : wh_ = 2
      · refine sm_T_sw (t := 112) rfl rfl (by rw [cx49_]; rfl) ?_
        have bx50_ : 0 ≤ Sx35_.1 4 (0 + (0 + kk_.toNat)) 5 ∧ Sx35_.1 4 (0 + (0 + kk_.toNat)) 5 ≤ 100000 := hIx36_.1 4 (0 + (0 + kk_.toNat)) 5 rfl
        refine sm_T_go 2 (c1 := (117, [some (.inr (.inr (some (12, 0)))), some (.inl kk_), some (.inl wh_), some (.inr (.inr (some (2, kk_.toNat)))), some (.inr (.inr (some (4, (0 + (0 + kk_.toNat))))))], [.inl (Sx35_.1 4 (0 + (0 + kk_.toNat)) 5)], Sx35_)) rfl ?_
        refine sm_T_ri rfl (Or.inl ⟨_, _, rfl, _, rfl, hIx36_, hFx39_, ?_⟩)
        exact jC_fr hJ_ hFx39_ (by decide) (by decide) (by decide) (by decide) (by decide) rfl rfl rfl rfl rfl rfl
      by_cases cx51_ : wh_ = 3
      · refine sm_T_sw (t := 118) rfl rfl (by rw [cx51_]; rfl) ?_
        have bx52_ : 0 ≤ Sx35_.1 4 (0 + (0 + kk_.toNat)) 6 ∧ Sx35_.1 4 (0 + (0 + kk_.toNat)) 6 ≤ 2652 := hIx36_.1 4 (0 + (0 + kk_.toNat)) 6 rfl
        refine sm_T_go 2 (c1 := (123, [some (.inr (.inr (some (12, 0)))), some (.inl kk_), some (.inl wh_), some (.inr (.inr (some (2, kk_.toNat)))), some (.inr (.inr (some (4, (0 + (0 + kk_.toNat))))))], [.inl (Sx35_.1 4 (0 + (0 + kk_.toNat)) 6)], Sx35_)) rfl ?_
        refine sm_T_ri rfl (Or.inl ⟨_, _, rfl, _, rfl, hIx36_, hFx39_, ?_⟩)
        exact jC_fr hJ_ hFx39_ (by decide) (by decide) (by decide) (by decide) (by decide) rfl rfl rfl rfl rfl rfl
      refine sm_T_sw (t := 124) rfl rfl (by (have hh_ : wh_ < 0 ∨ 4 ≤ wh_ := by omega); rcases hh_ with hh_ | hh_; (exact sm_swd (Or.inl hh_)); (exact sm_swd (Or.inr (by simp only [List.length_cons, List.length_nil]; omega)))) ?_
      have bx53_ : (-700) ≤ Sx35_.1 4 (0 + (0 + kk_.toNat)) 7 ∧ Sx35_.1 4 (0 + (0 + kk_.toNat)) 7 ≤ 2000 := hIx36_.1 4 (0 + (0 + kk_.toNat)) 7 rfl
      refine sm_T_go 2 (c1 := (129, [some (.inr (.inr (some (12, 0)))), some (.inl kk_), some (.inl wh_), some (.inr (.inr (some (2, kk_.toNat)))), some (.inr (.inr (some (4, (0 + (0 + kk_.toNat))))))], [.inl (Sx35_.1 4 (0 + (0 + kk_.toNat)) 7)], Sx35_)) rfl ?_
      refine sm_T_ri rfl (Or.inl ⟨_, _, rfl, _, rfl, hIx36_, hFx39_, ?_⟩)
      exact jC_fr hJ_ hFx39_ (by decide) (by decide) (by decide) (by decide) (by decide) rfl rfl rfl rfl rfl rfl
