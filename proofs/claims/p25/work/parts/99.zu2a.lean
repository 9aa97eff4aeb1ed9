/-! what the class answers where it is asked; written by wip/p55/gen/vg -/
/-! ChipFlow.fault -/
def vw_215t : sx_Wl := ([], [], [])
def vq_215t  (S0_ : sm_S) (u_ : Option sm_V) (S1_ : sm_S) : Prop := ∃ v_ : Int, u_ = some (.inl v_) ∧ gi S1_ ∧ ai_fr (sx_W vw_215t) S0_ S1_ ∧ (v_ = S1_.1 12 0 10 ∧ S1_ = S0_)
set_option maxHeartbeats 400000 in
theorem vc_215t {sc_ : Nat × (Nat → Int)}  (S0_ : sm_S) (hI_ : gi S0_)  : sm_T (mt_P sc_) 0 215 (0, [some (.inr (.inr (some (12, 0))))], [], S0_) (fun ro9_ => ∃ u_ S1_, ro9_ = (.inl u_, S1_, 0) ∧ vq_215t  S0_ u_ S1_) := by
  have hF_ : ai_fr (sx_W vw_215t) S0_ S0_ := ai_fr_rf
  have bx1_ : 0 ≤ S0_.1 12 0 10 ∧ S0_.1 12 0 10 ≤ 23 := hI_.1 12 0 10 rfl
  refine sm_T_go 2 (c1 := (4, [some (.inr (.inr (some (12, 0))))], [.inl (S0_.1 12 0 10)], S0_)) rfl ?_
  refine sm_T_ri rfl ⟨_, _, rfl, _, rfl, hI_, hF_, ?_⟩
  exact ⟨rfl, rfl⟩
def okc_literal (kk_ nd_ sd_ : Int) (S_ : sm_S) : Prop := (0 ≤ kk_ ∧ kk_ < 6 ∧ S_.1 3 kk_.toNat 0 = 1) ∧ (1 + S_.1 3 kk_.toNat 1 + S_.1 3 kk_.toNat 2 ≤ nd_ ∧ nd_ < S_.1 3 kk_.toNat 4) ∧ (sd_ = 0 ∨ sd_ = 1)
def vac_literal (kk_ nd_ sd_ : Int) (S_ : sm_S) : Int := if sd_ = 0 then S_.2.2.1 42 (0 + kk_.toNat) nd_.toNat else S_.2.2.1 43 (0 + kk_.toNat) nd_.toNat
/-! ChipFlow.literal -/
def vw_220t : sx_Wl := ([], [], [])
def vq_220t (kk_ : Int) (nd_ : Int) (sd_ : Int) (S0_ : sm_S) (u_ : Option sm_V) (S1_ : sm_S) : Prop := ∃ v_ : Int, u_ = some (.inl v_) ∧ gi S1_ ∧ ai_fr (sx_W vw_220t) S0_ S1_ ∧ (S1_ = S0_ ∧ okc_literal kk_ nd_ sd_ S0_ ∧ v_ = vac_literal kk_ nd_ sd_ S0_)
def vx_220t (kk_ : Int) (nd_ : Int) (sd_ : Int) (S0_ : sm_S) (S1_ : sm_S) : Prop := gi S1_ ∧ ai_fr (sx_W vw_220t) S0_ S1_ ∧ (S1_ = S0_ ∧ ¬ okc_literal kk_ nd_ sd_ S0_)
set_option maxHeartbeats 400000 in
theorem vc_220t {sc_ : Nat × (Nat → Int)} (kk_ : Int) (nd_ : Int) (sd_ : Int) (S0_ : sm_S) (hI_ : gi S0_) (hJ_ : dAll S0_) : sm_T (mt_P sc_) 2 220 (0, [some (.inr (.inr (some (12, 0)))), some (.inl kk_), some (.inl nd_), some (.inl sd_), none], [], S0_) (fun ro9_ => (∃ u_ S1_, ro9_ = (.inl u_, S1_, 0) ∧ vq_220t kk_ nd_ sd_ S0_ u_ S1_) ∨ ∃ ex_ S1_, ro9_ = (.inr ex_, S1_, 1) ∧ ex_ ∈ ([0] : List Nat) ∧ vx_220t kk_ nd_ sd_ S0_ S1_) := by
  have hF_ : ai_fr (sx_W vw_220t) S0_ S0_ := ai_fr_rf
  refine sm_T_go 2 (c1 := (2, [some (.inr (.inr (some (12, 0)))), some (.inl kk_), some (.inl nd_), some (.inl sd_), none], [.inl kk_, .inr (.inr (some (12, 0)))], S0_)) rfl ?_
  refine sm_T_cale (d1_ := 1) (Q1_ := vq_270t kk_ S0_) (Q2_ := (fun ex_ S1_ => ex_ ∈ ([0] : List Nat) ∧ vx_270t kk_ S0_ S1_)) rfl rfl (by decide) (vc_270t kk_ S0_ hI_ ) rfl (fun xx6_ Sx1_ px4_ => ?_) (fun u_ Sx1_ px4_ => ?_)
  · obtain ⟨px4m, hIx2_, hFx3_, px4_⟩ := px4_
    refine Or.inr ⟨_, _, rfl, by first | exact px4m | (simp only [List.mem_cons, List.not_mem_nil, or_false] at px4m ⊢; omega), hIx2_, ai_fr_tr hF_ (fr_le hFx3_ rfl), ?_⟩
    exact ⟨px4_.1, fun y9_ => px4_.2 y9_.1⟩
  obtain ⟨rfl, -, -, rfl, px4_⟩ := px4_
  have a9_ := px4_
  have J9_ := dOk_b (hJ_ kk_.toNat (by omega) a9_.2)
  have J9a := J9_.1
  have J9b := J9_.2.1
  refine sm_T_go 3 (c1 := (10, [some (.inr (.inr (some (12, 0)))), some (.inl kk_), some (.inl nd_), some (.inl sd_), some (.inr (.inr (some (3, kk_.toNat))))], [.inr (.inr (some (3, kk_.toNat))), .inl nd_], S0_)) rfl ?_
  refine sm_T_cal (d1 := 0) (Q1 := vq_63 kk_.toNat S0_) rfl rfl (by decide) (vc_63 kk_.toNat S0_ hI_ (by omega)) (fun u_ Sx7_ px10_ => ?_)
  obtain ⟨rfl, vx12_, rfl, px10_⟩ := px10_
  have f10_ := px10_
  refine sm_T_br (a := 2) (z := 16) rfl (fun cx13_ => ?_) (fun cx13_ => ?_)
  · have cx13_ : nd_ < vx12_ := of_decide_eq_true cx13_
    refine sm_T_go 1 (c1 := (30, [some (.inr (.inr (some (12, 0)))), some (.inl kk_), some (.inl nd_), some (.inl sd_), some (.inr (.inr (some (3, kk_.toNat))))], [.inl 0], S0_)) rfl ?_
    refine sm_T_cale (d1_ := 0) (Q1_ := vq_265e 0 S0_) (Q2_ := (fun ex_ S1_ => ex_ ∈ ([0] : List Nat) ∧ vx_265e 0 S0_ S1_)) rfl rfl (by decide) (vc_265e 0 S0_ hI_ ) rfl (fun xx19_ Sx14_ px17_ => ?_) (fun u_ Sx14_ px17_ => ?_)
    · obtain ⟨px17m, hIx15_, hFx16_, px17_⟩ := px17_
      refine Or.inr ⟨_, _, rfl, by first | exact px17m | (simp only [List.mem_cons, List.not_mem_nil, or_false] at px17m ⊢; omega), hIx15_, ai_fr_tr hF_ (fr_le hFx16_ rfl), ?_⟩
      exact ⟨px17_.2, by (have y9_ := px17_.1; unfold okc_literal; omega)⟩
    · exact absurd rfl px17_.2.2.2.1
  · have cx13_ : ¬ (nd_ < vx12_) := of_decide_eq_false cx13_
    have bx20_ : 0 ≤ S0_.1 3 kk_.toNat 4 ∧ S0_.1 3 kk_.toNat 4 ≤ 1013 := hI_.1 3 kk_.toNat 4 rfl
    refine sm_T_go 3 (c1 := (22, [some (.inr (.inr (some (12, 0)))), some (.inl kk_), some (.inl nd_), some (.inl sd_), some (.inr (.inr (some (3, kk_.toNat))))], [.inl (S0_.1 3 kk_.toNat 4), .inl nd_], S0_)) rfl ?_
    refine sm_T_br (a := 3) (z := 7) rfl (fun cx21_ => ?_) (fun cx21_ => ?_)
    · have cx21_ : (S0_.1 3 kk_.toNat 4) ≤ nd_ := of_decide_eq_true cx21_
      refine sm_T_go 1 (c1 := (30, [some (.inr (.inr (some (12, 0)))), some (.inl kk_), some (.inl nd_), some (.inl sd_), some (.inr (.inr (some (3, kk_.toNat))))], [.inl 0], S0_)) rfl ?_
      refine sm_T_cale (d1_ := 0) (Q1_ := vq_265e 0 S0_) (Q2_ := (fun ex_ S1_ => ex_ ∈ ([0] : List Nat) ∧ vx_265e 0 S0_ S1_)) rfl rfl (by decide) (vc_265e 0 S0_ hI_ ) rfl (fun xx27_ Sx22_ px25_ => ?_) (fun u_ Sx22_ px25_ => ?_)
      · obtain ⟨px25m, hIx23_, hFx24_, px25_⟩ := px25_
        refine Or.inr ⟨_, _, rfl, by first | exact px25m | (simp only [List.mem_cons, List.not_mem_nil, or_false] at px25m ⊢; omega), hIx23_, ai_fr_tr hF_ (fr_le hFx24_ rfl), ?_⟩
        exact ⟨px25_.2, by (have y9_ := px25_.1; unfold okc_literal; omega)⟩
      · exact absurd rfl px25_.2.2.2.1
    · have cx21_ : ¬ ((S0_.1 3 kk_.toNat 4) ≤ nd_) := of_decide_eq_false cx21_
      refine sm_T_go 2 (c1 := (30, [some (.inr (.inr (some (12, 0)))), some (.inl kk_), some (.inl nd_), some (.inl sd_), some (.inr (.inr (some (3, kk_.toNat))))], [.inl 1], S0_)) rfl ?_
      refine sm_T_cale (d1_ := 0) (Q1_ := vq_265e 1 S0_) (Q2_ := (fun ex_ S1_ => ex_ ∈ ([0] : List Nat) ∧ vx_265e 1 S0_ S1_)) rfl rfl (by decide) (vc_265e 1 S0_ hI_ ) rfl (fun xx33_ Sx28_ px31_ => ?_) (fun u_ Sx28_ px31_ => ?_)
      · exact absurd px31_.2.2.2.1 (by decide)
      obtain ⟨rfl, -, -, px31_, rfl⟩ := px31_
      refine sm_T_go 1 (c1 := (34, [some (.inr (.inr (some (12, 0)))), some (.inl kk_), some (.inl nd_), some (.inl sd_), some (.inr (.inr (some (3, kk_.toNat))))], [.inl sd_], S0_)) rfl ?_
      refine sm_T_b0 (a := 0) (z := 8) rfl (fun cx34_ => ?_) (fun cx34_ => ?_)
      · have cx34_ : sd_ = 0 := of_decide_eq_true cx34_
        refine sm_T_go 2 (c1 := (47, [some (.inr (.inr (some (12, 0)))), some (.inl kk_), some (.inl nd_), some (.inl sd_), some (.inr (.inr (some (3, kk_.toNat))))], [.inl 1], S0_)) rfl ?_
        refine sm_T_cale (d1_ := 0) (Q1_ := vq_265e 1 S0_) (Q2_ := (fun ex_ S1_ => ex_ ∈ ([0] : List Nat) ∧ vx_265e 1 S0_ S1_)) rfl rfl (by decide) (vc_265e 1 S0_ hI_ ) rfl (fun xx40_ Sx35_ px38_ => ?_) (fun u_ Sx35_ px38_ => ?_)
        · exact absurd px38_.2.2.2.1 (by decide)
        obtain ⟨rfl, -, -, px38_, rfl⟩ := px38_
        refine sm_T_go 1 (c1 := (51, [some (.inr (.inr (some (12, 0)))), some (.inl kk_), some (.inl nd_), some (.inl sd_), some (.inr (.inr (some (3, kk_.toNat))))], [.inl sd_], S0_)) rfl ?_
        refine sm_T_b0 (a := 1) (z := 13) rfl (fun cx41_ => ?_) (fun cx41_ => ?_)
        · have cx41_ : sd_ ≠ 0 := of_decide_eq_true cx41_
          exfalso; omega
        · have cx41_ : ¬ (sd_ ≠ 0) := of_decide_eq_false cx41_
          refine sm_T_go 3 (c1 := (60, [some (.inr (.inr (some (12, 0)))), some (.inl kk_), some (.inl nd_), some (.inl sd_), some (.inr (.inr (some (3, kk_.toNat))))], [.inl nd_, .inr (.inr (some (42, (0 + kk_.toNat))))], S0_)) rfl ?_
          refine sm_T_iald (n := 1013) rfl rfl (by omega) (by omega) ?_
          have bx42_ : 0 ≤ S0_.2.2.1 42 (0 + kk_.toNat) nd_.toNat ∧ S0_.2.2.1 42 (0 + kk_.toNat) nd_.toNat ≤ 2025 := hI_.2 42 (0 + kk_.toNat) _
          refine sm_T_go 1 (c1 := (71, [some (.inr (.inr (some (12, 0)))), some (.inl kk_), some (.inl nd_), some (.inl sd_), some (.inr (.inr (some (3, kk_.toNat))))], [.inl (S0_.2.2.1 42 (0 + kk_.toNat) nd_.toNat)], S0_)) rfl ?_
          refine sm_T_ri rfl (Or.inl ⟨_, _, rfl, _, rfl, hI_, hF_, ?_⟩)
          refine ⟨rfl, by (unfold okc_literal; omega), ?_⟩; unfold vac_literal; first | exact (if_pos (by omega)).symm | exact (if_neg (by omega)).symm
      · have cx34_ : ¬ (sd_ = 0) := of_decide_eq_false cx34_
        refine sm_T_go 2 (c1 := (39, [some (.inr (.inr (some (12, 0)))), some (.inl kk_), some (.inl nd_), some (.inl sd_), some (.inr (.inr (some (3, kk_.toNat))))], [.inl 1, .inl sd_], S0_)) rfl ?_
        refine sm_T_br (a := 1) (z := 7) rfl (fun cx43_ => ?_) (fun cx43_ => ?_)
        · have cx43_ : sd_ ≠ 1 := of_decide_eq_true cx43_
          refine sm_T_go 1 (c1 := (47, [some (.inr (.inr (some (12, 0)))), some (.inl kk_), some (.inl nd_), some (.inl sd_), some (.inr (.inr (some (3, kk_.toNat))))], [.inl 0], S0_)) rfl ?_
          refine sm_T_cale (d1_ := 0) (Q1_ := vq_265e 0 S0_) (Q2_ := (fun ex_ S1_ => ex_ ∈ ([0] : List Nat) ∧ vx_265e 0 S0_ S1_)) rfl rfl (by decide) (vc_265e 0 S0_ hI_ ) rfl (fun xx49_ Sx44_ px47_ => ?_) (fun u_ Sx44_ px47_ => ?_)
          · obtain ⟨px47m, hIx45_, hFx46_, px47_⟩ := px47_
            refine Or.inr ⟨_, _, rfl, by first | exact px47m | (simp only [List.mem_cons, List.not_mem_nil, or_false] at px47m ⊢; omega), hIx45_, ai_fr_tr hF_ (fr_le hFx46_ rfl), ?_⟩
            exact ⟨px47_.2, by (have y9_ := px47_.1; unfold okc_literal; omega)⟩
          · exact absurd rfl px47_.2.2.2.1
        · have cx43_ : ¬ (sd_ ≠ 1) := of_decide_eq_false cx43_
          refine sm_T_go 2 (c1 := (47, [some (.inr (.inr (some (12, 0)))), some (.inl kk_), some (.inl nd_), some (.inl sd_), some (.inr (.inr (some (3, kk_.toNat))))], [.inl 1], S0_)) rfl ?_
          refine sm_T_cale (d1_ := 0) (Q1_ := vq_265e 1 S0_) (Q2_ := (fun ex_ S1_ => ex_ ∈ ([0] : List Nat) ∧ vx_265e 1 S0_ S1_)) rfl rfl (by decide) (vc_265e 1 S0_ hI_ ) rfl (fun xx55_ Sx50_ px53_ => ?_) (fun u_ Sx50_ px53_ => ?_)
          · exact absurd px53_.2.2.2.1 (by decide)
          obtain ⟨rfl, -, -, px53_, rfl⟩ := px53_
          refine sm_T_go 1 (c1 := (51, [some (.inr (.inr (some (12, 0)))), some (.inl kk_), some (.inl nd_), some (.inl sd_), some (.inr (.inr (some (3, kk_.toNat))))], [.inl sd_], S0_)) rfl ?_
          refine sm_T_b0 (a := 1) (z := 13) rfl (fun cx56_ => ?_) (fun cx56_ => ?_)
          · have cx56_ : sd_ ≠ 0 := of_decide_eq_true cx56_
            refine sm_T_go 3 (c1 := (70, [some (.inr (.inr (some (12, 0)))), some (.inl kk_), some (.inl nd_), some (.inl sd_), some (.inr (.inr (some (3, kk_.toNat))))], [.inl nd_, .inr (.inr (some (43, (0 + kk_.toNat))))], S0_)) rfl ?_
            refine sm_T_iald (n := 1013) rfl rfl (by omega) (by omega) ?_
            have bx57_ : 0 ≤ S0_.2.2.1 43 (0 + kk_.toNat) nd_.toNat ∧ S0_.2.2.1 43 (0 + kk_.toNat) nd_.toNat ≤ 2025 := hI_.2 43 (0 + kk_.toNat) _
            refine sm_T_ri rfl (Or.inl ⟨_, _, rfl, _, rfl, hI_, hF_, ?_⟩)
            refine ⟨rfl, by (unfold okc_literal; omega), ?_⟩; unfold vac_literal; first | exact (if_pos (by omega)).symm | exact (if_neg (by omega)).symm
          · have cx56_ : ¬ (sd_ ≠ 0) := of_decide_eq_false cx56_
            exfalso; omega
