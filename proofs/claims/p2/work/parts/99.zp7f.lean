/-! ChipFlow.shows -/
def vw_259 : sx_Wl := ([(9, 1), (9, 2), (9, 3)], [92, 93, 94, 95, 96], [(9, 0)])
def vq_259 (kk_ : Int) (p_ : Int) (f_ : Int) (S0_ : sm_S) (u_ : Option sm_V) (S1_ : sm_S) : Prop := ∃ v_ : Int, u_ = some (.inl v_) ∧ gi S1_ ∧ ai_fr (sx_W vw_259) S0_ S1_ ∧ (jC S1_)
def vx_259 (kk_ : Int) (p_ : Int) (f_ : Int) (S0_ : sm_S) (S1_ : sm_S) : Prop := gi S1_ ∧ ai_fr (sx_W vw_259) S0_ S1_ ∧ (S1_ = S0_)
set_option maxHeartbeats 400000 in
theorem vc_259 {sc_ : Nat × (Nat → Int)} (kk_ : Int) (p_ : Int) (f_ : Int) (S0_ : sm_S) (hI_ : gi S0_) (hJ_ : jC S0_) : sm_T (mt_P sc_) 6 259 (0, [some (.inr (.inr (some (12, 0)))), some (.inl kk_), some (.inl p_), some (.inl f_), none], [], S0_) (fun ro9_ => (∃ u_ S1_, ro9_ = (.inl u_, S1_, 0) ∧ vq_259 kk_ p_ f_ S0_ u_ S1_) ∨ ∃ ex_ S1_, ro9_ = (.inr ex_, S1_, 1) ∧ ex_ ∈ ([0, 1] : List Nat) ∧ vx_259 kk_ p_ f_ S0_ S1_) := by
  have hF_ : ai_fr (sx_W vw_259) S0_ S0_ := ai_fr_rf
  refine sm_T_go 2 (c1 := (2, [some (.inr (.inr (some (12, 0)))), some (.inl kk_), some (.inl p_), some (.inl f_), none], [.inl kk_, .inr (.inr (some (12, 0)))], S0_)) rfl ?_
  refine sm_T_cale (d1_ := 1) (Q1_ := vq_272 kk_ S0_) (Q2_ := (fun ex_ S1_ => ex_ ∈ ([0] : List Nat) ∧ vx_272 kk_ S0_ S1_)) rfl rfl (by decide) (vc_272 kk_ S0_ hI_ ) rfl (fun xx6_ Sx1_ px4_ => ?_) (fun u_ Sx1_ px4_ => ?_)
  · obtain ⟨px4m, hIx2_, hFx3_, px4_⟩ := px4_
    refine Or.inr ⟨_, _, rfl, by first | exact px4m | (simp only [List.mem_cons, List.not_mem_nil, or_false] at px4m ⊢; omega), hIx2_, ai_fr_tr hF_ (fr_le hFx3_ rfl), ?_⟩
    first | exact px4_.2 | exact px4_ | rfl
  obtain ⟨rfl, -, -, rfl, px4_⟩ := px4_
  have a9_ := px4_
  have J9_ := hJ_.2.1 kk_.toNat (by omega) a9_.2
  have J1_ := J9_.1
  have q9_ := a9_.2
  have c8_ : 0 ≤ S0_.1 2 (kk_.toNat) 8 ∧ S0_.1 2 (kk_.toNat) 8 ≤ 150 := hI_.1 2 (kk_.toNat) 8 rfl
  have c1_ : 0 ≤ S0_.1 2 (kk_.toNat) 1 ∧ S0_.1 2 (kk_.toNat) 1 ≤ 12 := hI_.1 2 (kk_.toNat) 1 rfl
  have c2_ : 0 ≤ S0_.1 2 (kk_.toNat) 2 ∧ S0_.1 2 (kk_.toNat) 2 ≤ 6 := hI_.1 2 (kk_.toNat) 2 rfl
  refine sm_T_go 2 (c1 := (8, [some (.inr (.inr (some (12, 0)))), some (.inl kk_), some (.inl p_), some (.inl f_), some (.inr (.inr (some (2, kk_.toNat))))], [.inl f_], S0_)) rfl ?_
  refine sm_T_b0 (a := 2) (z := 16) rfl (fun cx7_ => ?_) (fun cx7_ => ?_)
  · have cx7_ : f_ < 0 := of_decide_eq_true cx7_
    refine sm_T_go 1 (c1 := (25, [some (.inr (.inr (some (12, 0)))), some (.inl kk_), some (.inl p_), some (.inl f_), some (.inr (.inr (some (2, kk_.toNat))))], [.inl 0], S0_)) rfl ?_
    refine sm_T_cale (d1_ := 0) (Q1_ := vq_265e 0 S0_) (Q2_ := (fun ex_ S1_ => ex_ ∈ ([0] : List Nat) ∧ vx_265e 0 S0_ S1_)) rfl rfl (by decide) (vc_265e 0 S0_ hI_ ) rfl (fun xx13_ Sx8_ px11_ => ?_) (fun u_ Sx8_ px11_ => ?_)
    · obtain ⟨px11m, hIx9_, hFx10_, px11_⟩ := px11_
      refine Or.inr ⟨_, _, rfl, by first | exact px11m | (simp only [List.mem_cons, List.not_mem_nil, or_false] at px11m ⊢; omega), hIx9_, ai_fr_tr hF_ (fr_le hFx10_ rfl), ?_⟩
      first | exact px11_.2 | exact px11_ | rfl
    · exact absurd rfl px11_.2.2.2.1
  · have cx7_ : ¬ (f_ < 0) := of_decide_eq_false cx7_
    refine sm_T_go 2 (c1 := (14, [some (.inr (.inr (some (12, 0)))), some (.inl kk_), some (.inl p_), some (.inl f_), some (.inr (.inr (some (2, kk_.toNat))))], [.inr (.inr (some (2, kk_.toNat))), .inl f_], S0_)) rfl ?_
    refine sm_T_cal (d1 := 1) (Q1 := vq_62 kk_.toNat S0_) rfl rfl (by decide) (vc_62 kk_.toNat S0_ hI_ (by omega)) (fun u_ Sx14_ px17_ => ?_)
    obtain ⟨rfl, vx19_, rfl, px17_⟩ := px17_
    refine sm_T_br (a := 3) (z := 7) rfl (fun cx20_ => ?_) (fun cx20_ => ?_)
    · have cx20_ : vx19_ ≤ f_ := of_decide_eq_true cx20_
      refine sm_T_go 1 (c1 := (25, [some (.inr (.inr (some (12, 0)))), some (.inl kk_), some (.inl p_), some (.inl f_), some (.inr (.inr (some (2, kk_.toNat))))], [.inl 0], S0_)) rfl ?_
      refine sm_T_cale (d1_ := 0) (Q1_ := vq_265e 0 S0_) (Q2_ := (fun ex_ S1_ => ex_ ∈ ([0] : List Nat) ∧ vx_265e 0 S0_ S1_)) rfl rfl (by decide) (vc_265e 0 S0_ hI_ ) rfl (fun xx26_ Sx21_ px24_ => ?_) (fun u_ Sx21_ px24_ => ?_)
      · obtain ⟨px24m, hIx22_, hFx23_, px24_⟩ := px24_
        refine Or.inr ⟨_, _, rfl, by first | exact px24m | (simp only [List.mem_cons, List.not_mem_nil, or_false] at px24m ⊢; omega), hIx22_, ai_fr_tr hF_ (fr_le hFx23_ rfl), ?_⟩
        first | exact px24_.2 | exact px24_ | rfl
      · exact absurd rfl px24_.2.2.2.1
    · have cx20_ : ¬ (vx19_ ≤ f_) := of_decide_eq_false cx20_
      refine sm_T_go 2 (c1 := (25, [some (.inr (.inr (some (12, 0)))), some (.inl kk_), some (.inl p_), some (.inl f_), some (.inr (.inr (some (2, kk_.toNat))))], [.inl 1], S0_)) rfl ?_
      refine sm_T_cale (d1_ := 0) (Q1_ := vq_265e 1 S0_) (Q2_ := (fun ex_ S1_ => ex_ ∈ ([0] : List Nat) ∧ vx_265e 1 S0_ S1_)) rfl rfl (by decide) (vc_265e 1 S0_ hI_ ) rfl (fun xx32_ Sx27_ px30_ => ?_) (fun u_ Sx27_ px30_ => ?_)
      · exact absurd px30_.2.2.2.1 (by decide)
      obtain ⟨rfl, -, -, px30_, rfl⟩ := px30_
      refine sm_T_go 2 (c1 := (31, [some (.inr (.inr (some (12, 0)))), some (.inl kk_), some (.inl p_), some (.inl f_), some (.inr (.inr (some (2, kk_.toNat))))], [.inl p_, .inr (.inr (some (2, kk_.toNat)))], S0_)) rfl ?_
      refine sm_T_cal (d1 := 0) (Q1 := vq_61p p_ kk_.toNat S0_) rfl rfl (by decide) (vc_61p p_ kk_.toNat S0_ hI_ (by omega)) (fun u_ Sx33_ px36_ => ?_)
      obtain ⟨rfl, vx38_, rfl, px36_⟩ := px36_
      have n31_ := px36_.1
      have m31_ := px36_.2
      refine sm_T_cale (d1_ := 0) (Q1_ := vq_266e vx38_ S0_) (Q2_ := (fun ex_ S1_ => ex_ ∈ ([1] : List Nat) ∧ vx_266e vx38_ S0_ S1_)) rfl rfl (by decide) (vc_266e vx38_ S0_ hI_ ) rfl (fun xx44_ Sx39_ px42_ => ?_) (fun u_ Sx39_ px42_ => ?_)
      · obtain ⟨px42m, hIx40_, hFx41_, px42_⟩ := px42_
        refine Or.inr ⟨_, _, rfl, by first | exact px42m | (simp only [List.mem_cons, List.not_mem_nil, or_false] at px42m ⊢; omega), hIx40_, ai_fr_tr hF_ (fr_le hFx41_ rfl), ?_⟩
        first | exact px42_.2 | exact px42_ | rfl
      obtain ⟨rfl, -, -, px42_, rfl⟩ := px42_
      have o34_ := m31_ (by omega)
      refine sm_T_go 4 (c1 := (44, [some (.inr (.inr (some (12, 0)))), some (.inl kk_), some (.inl p_), some (.inl f_), some (.inr (.inr (some (2, kk_.toNat))))], [.inl f_, .inr (.inr (some (2, kk_.toNat))), .inr (.inr (some (9, 0)))], S0_)) rfl ?_
      refine sm_T_cal (d1 := 4) (Q1 := vq_174 f_ kk_.toNat S0_) rfl rfl (by decide) (vc_174 f_ kk_.toNat S0_ hI_ (by omega) (by omega) (by exact hJ_.2.2.2)) (fun u_ Sx45_ px48_ => ?_)
      obtain ⟨rfl, hIx46_, hFx47_, px48_⟩ := px48_
      have hFx49_ : ai_fr (sx_W vw_259) S0_ Sx45_ := ai_fr_tr hF_ (fr_le hFx47_ rfl)
      have p44_ := px48_
      refine sm_T_go 4 (c1 := (53, [some (.inr (.inr (some (12, 0)))), some (.inl kk_), some (.inl p_), some (.inl f_), some (.inr (.inr (some (2, kk_.toNat))))], [.inl f_, .inl p_, .inr (.inr (some (9, 0)))], Sx45_)) rfl ?_
      refine sm_T_cal (d1 := 0) (Q1 := vq_176 p_ f_ Sx45_) rfl rfl (by decide) (vc_176 p_ f_ Sx45_ hIx46_ (by omega) (by omega)) (fun u_ Sx50_ px53_ => ?_)
      obtain ⟨rfl, vx55_, rfl, px53_⟩ := px53_
      refine sm_T_rz rfl (by omega) (Or.inl ⟨_, _, rfl, _, rfl, hIx46_, hFx49_, ?_⟩)
      exact jC_mk hJ_ hFx49_ (tpo_fr hJ_.2.2.1 hFx49_) p44_.2 (by decide) (by decide) (by decide) (by decide) (by decide)
