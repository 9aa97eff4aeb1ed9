/-! 99.zp6d -/
section
/-! ChipFlow.found -/
def vw_252 : sx_Wl := ([(4, 4), (4, 5), (4, 6), (4, 7), (4, 10)], [51, 52, 53, 54], [])
def vq_252 (kk_ : Int) (wh_ : Int) (S0_ : sm_S) (u_ : Option sm_V) (S1_ : sm_S) : Prop := ∃ v_ : Int, u_ = some (.inl v_) ∧ gi S1_ ∧ ai_fr (sx_W vw_252) S0_ S1_ ∧ (jC S1_)
def vx_252 (kk_ : Int) (wh_ : Int) (S0_ : sm_S) (S1_ : sm_S) : Prop := gi S1_ ∧ ai_fr (sx_W vw_252) S0_ S1_ ∧ (S1_ = S0_)
set_option maxHeartbeats 400000 in
theorem vc_252 {sc_ : Nat × (Nat → Int)} (kk_ : Int) (wh_ : Int) (S0_ : sm_S) (hI_ : gi S0_) (hJ_ : jC S0_) : sm_T (mt_P sc_) 4 252 (0, [some (.inr (.inr (some (12, 0)))), some (.inl kk_), some (.inl wh_), none, none], [], S0_) (fun ro9_ => (∃ u_ S1_, ro9_ = (.inl u_, S1_, 0) ∧ vq_252 kk_ wh_ S0_ u_ S1_) ∨ ∃ ex_ S1_, ro9_ = (.inr ex_, S1_, 1) ∧ ex_ ∈ ([0, 1, 2] : List Nat) ∧ vx_252 kk_ wh_ S0_ S1_) := by
  have hF_ : ai_fr (sx_W vw_252) S0_ S0_ := ai_fr_rf
  refine sm_T_go 2 (c1 := (2, [some (.inr (.inr (some (12, 0)))), some (.inl kk_), some (.inl wh_), none, none], [.inl kk_, .inr (.inr (some (12, 0)))], S0_)) rfl ?_
  refine sm_T_cale (d1_ := 1) (Q1_ := vq_272 kk_ S0_) (Q2_ := (fun ex_ S1_ => ex_ ∈ ([0] : List Nat) ∧ vx_272 kk_ S0_ S1_)) rfl rfl (by decide) (vc_272 kk_ S0_ hI_ ) rfl (fun xx6_ Sx1_ px4_ => ?_) (fun u_ Sx1_ px4_ => ?_)
  · obtain ⟨px4m, hIx2_, hFx3_, px4_⟩ := px4_
    refine Or.inr ⟨_, _, rfl, by first | exact px4m | (simp only [List.mem_cons, List.not_mem_nil, or_false] at px4m ⊢; omega), hIx2_, ai_fr_tr hF_ (fr_le hFx3_ rfl), ?_⟩
    first | exact px4_.2 | exact px4_ | rfl
  obtain ⟨rfl, -, -, rfl, px4_⟩ := px4_
  have a9_ := px4_
  have J9_ := hJ_.2.1 kk_.toNat (by omega) a9_.2
  have J1_ := J9_.1
  have q9_ := a9_.2
  have c8_ : 0 ≤ S0_.1 2 (kk_.toNat) 8 ∧ S0_.1 2 (kk_.toNat) 8 ≤ 150 := hI_.1 2 (kk_.toNat) 8 rfl
  have c1_ : 0 ≤ S0_.1 2 (kk_.toNat) 1 ∧ S0_.1 2 (kk_.toNat) 1 ≤ 12 := hI_.1 2 (kk_.toNat) 1 rfl
  have c2_ : 0 ≤ S0_.1 2 (kk_.toNat) 2 ∧ S0_.1 2 (kk_.toNat) 2 ≤ 6 := hI_.1 2 (kk_.toNat) 2 rfl
  refine sm_T_go 6 (c1 := (16, [some (.inr (.inr (some (12, 0)))), some (.inl kk_), some (.inl wh_), some (.inr (.inr (some (2, kk_.toNat)))), some (.inr (.inr (some (4, (0 + (0 + kk_.toNat))))))], [.inl wh_], S0_)) rfl ?_
  refine sm_T_b0 (a := 2) (z := 12) rfl (fun cx7_ => ?_) (fun cx7_ => ?_)
  · have cx7_ : wh_ < 0 := of_decide_eq_true cx7_
    refine sm_T_go 1 (c1 := (29, [some (.inr (.inr (some (12, 0)))), some (.inl kk_), some (.inl wh_), some (.inr (.inr (some (2, kk_.toNat)))), some (.inr (.inr (some (4, (0 + (0 + kk_.toNat))))))], [.inl 0], S0_)) rfl ?_
    refine sm_T_cale (d1_ := 0) (Q1_ := vq_266e 0 S0_) (Q2_ := (fun ex_ S1_ => ex_ ∈ ([1] : List Nat) ∧ vx_266e 0 S0_ S1_)) rfl rfl (by decide) (vc_266e 0 S0_ hI_ ) rfl (fun xx13_ Sx8_ px11_ => ?_) (fun u_ Sx8_ px11_ => ?_)
    · obtain ⟨px11m, hIx9_, hFx10_, px11_⟩ := px11_
      refine Or.inr ⟨_, _, rfl, by first | exact px11m | (simp only [List.mem_cons, List.not_mem_nil, or_false] at px11m ⊢; omega), hIx9_, ai_fr_tr hF_ (fr_le hFx10_ rfl), ?_⟩
      first | exact px11_.2 | exact px11_ | rfl
    · exact absurd rfl px11_.2.2.2.1
  · have cx7_ : ¬ (wh_ < 0) := of_decide_eq_false cx7_
    refine sm_T_go 2 (c1 := (21, [some (.inr (.inr (some (12, 0)))), some (.inl kk_), some (.inl wh_), some (.inr (.inr (some (2, kk_.toNat)))), some (.inr (.inr (some (4, (0 + (0 + kk_.toNat))))))], [.inl 4, .inl wh_], S0_)) rfl ?_
    refine sm_T_br (a := 4) (z := 7) rfl (fun cx14_ => ?_) (fun cx14_ => ?_)
    · have cx14_ : 4 < wh_ := of_decide_eq_true cx14_
      refine sm_T_go 1 (c1 := (29, [some (.inr (.inr (some (12, 0)))), some (.inl kk_), some (.inl wh_), some (.inr (.inr (some (2, kk_.toNat)))), some (.inr (.inr (some (4, (0 + (0 + kk_.toNat))))))], [.inl 0], S0_)) rfl ?_
      refine sm_T_cale (d1_ := 0) (Q1_ := vq_266e 0 S0_) (Q2_ := (fun ex_ S1_ => ex_ ∈ ([1] : List Nat) ∧ vx_266e 0 S0_ S1_)) rfl rfl (by decide) (vc_266e 0 S0_ hI_ ) rfl (fun xx20_ Sx15_ px18_ => ?_) (fun u_ Sx15_ px18_ => ?_)
      · obtain ⟨px18m, hIx16_, hFx17_, px18_⟩ := px18_
        refine Or.inr ⟨_, _, rfl, by first | exact px18m | (simp only [List.mem_cons, List.not_mem_nil, or_false] at px18m ⊢; omega), hIx16_, ai_fr_tr hF_ (fr_le hFx17_ rfl), ?_⟩
        first | exact px18_.2 | exact px18_ | rfl
      · exact absurd rfl px18_.2.2.2.1
    · have cx14_ : ¬ (4 < wh_) := of_decide_eq_false cx14_
      refine sm_T_go 2 (c1 := (29, [some (.inr (.inr (some (12, 0)))), some (.inl kk_), some (.inl wh_), some (.inr (.inr (some (2, kk_.toNat)))), some (.inr (.inr (some (4, (0 + (0 + kk_.toNat))))))], [.inl 1], S0_)) rfl ?_
      refine sm_T_cale (d1_ := 0) (Q1_ := vq_266e 1 S0_) (Q2_ := (fun ex_ S1_ => ex_ ∈ ([1] : List Nat) ∧ vx_266e 1 S0_ S1_)) rfl rfl (by decide) (vc_266e 1 S0_ hI_ ) rfl (fun xx26_ Sx21_ px24_ => ?_) (fun u_ Sx21_ px24_ => ?_)
      · exact absurd px24_.2.2.2.1 (by decide)
      obtain ⟨rfl, -, -, px24_, rfl⟩ := px24_
      have bx27_ : 0 ≤ S0_.1 4 (0 + (0 + kk_.toNat)) 0 ∧ S0_.1 4 (0 + (0 + kk_.toNat)) 0 ≤ 1 := hI_.1 4 (0 + (0 + kk_.toNat)) 0 rfl
      refine sm_T_go 2 (c1 := (37, [some (.inr (.inr (some (12, 0)))), some (.inl kk_), some (.inl wh_), some (.inr (.inr (some (2, kk_.toNat)))), some (.inr (.inr (some (4, (0 + (0 + kk_.toNat))))))], [.inl (S0_.1 4 (0 + (0 + kk_.toNat)) 0)], S0_)) rfl ?_
      refine sm_T_cale (d1_ := 0) (Q1_ := vq_267e (S0_.1 4 (0 + (0 + kk_.toNat)) 0) S0_) (Q2_ := (fun ex_ S1_ => ex_ ∈ ([2] : List Nat) ∧ vx_267e (S0_.1 4 (0 + (0 + kk_.toNat)) 0) S0_ S1_)) rfl rfl (by decide) (vc_267e (S0_.1 4 (0 + (0 + kk_.toNat)) 0) S0_ hI_ ) rfl (fun xx33_ Sx28_ px31_ => ?_) (fun u_ Sx28_ px31_ => ?_)
      · obtain ⟨px31m, hIx29_, hFx30_, px31_⟩ := px31_
        refine Or.inr ⟨_, _, rfl, by first | exact px31m | (simp only [List.mem_cons, List.not_mem_nil, or_false] at px31m ⊢; omega), hIx29_, ai_fr_tr hF_ (fr_le hFx30_ rfl), ?_⟩
        first | exact px31_.2 | exact px31_ | rfl
      obtain ⟨rfl, -, -, px31_, rfl⟩ := px31_
      have bx34_ : 0 ≤ S0_.1 2 kk_.toNat 2 ∧ S0_.1 2 kk_.toNat 2 ≤ 6 := hI_.1 2 kk_.toNat 2 rfl
      refine sm_T_go 5 (c1 := (50, [some (.inr (.inr (some (12, 0)))), some (.inl kk_), some (.inl wh_), some (.inr (.inr (some (2, kk_.toNat)))), some (.inr (.inr (some (4, (0 + (0 + kk_.toNat))))))], [.inl (S0_.1 2 kk_.toNat 2), .inr (.inr (some (0, (0 + kk_.toNat)))), .inr (.inr (some (4, (0 + (0 + kk_.toNat)))))], S0_)) rfl ?_
      refine sm_T_cal (d1 := 3) (Q1 := vq_82 (S0_.1 2 kk_.toNat 2) (0 + (0 + kk_.toNat)) (0 + kk_.toNat) S0_) rfl rfl (by decide) (vc_82 (S0_.1 2 kk_.toNat 2) (0 + (0 + kk_.toNat)) (0 + kk_.toNat) S0_ hI_ (by exact J9_.2.2.2.2.1.1) (by omega)) (fun u_ Sx35_ px38_ => ?_)
      obtain ⟨rfl, hIx36_, hFx37_, px38_⟩ := px38_
      have hFx39_ : ai_fr (sx_W vw_252) S0_ Sx35_ := ai_fr_tr hF_ (fr_le hFx37_ rfl)
      obtain ⟨dx40_, px38_⟩ := px38_
      have ex41_ : Sx35_.1 2 kk_.toNat 2 = S0_.1 2 kk_.toNat 2 := hFx37_.1 2 kk_.toNat 2 rfl
      refine sm_T_go 1 (c1 := (54, [some (.inr (.inr (some (12, 0)))), some (.inl kk_), some (.inl wh_), some (.inr (.inr (some (2, kk_.toNat)))), some (.inr (.inr (some (4, (0 + (0 + kk_.toNat))))))], [.inl wh_], Sx35_)) rfl ?_
      by_cases cx42_ : wh_ = 0
      · refine sm_T_sw (t := 84) rfl rfl (by rw [cx42_]; rfl) ?_
        have bx43_ : 0 ≤ Sx35_.1 4 (0 + (0 + kk_.toNat)) 4 ∧ Sx35_.1 4 (0 + (0 + kk_.toNat)) 4 ≤ 1073741823 := hIx36_.1 4 (0 + (0 + kk_.toNat)) 4 rfl
        refine sm_T_go 2 (c1 := (89, [some (.inr (.inr (some (12, 0)))), some (.inl kk_), some (.inl wh_), some (.inr (.inr (some (2, kk_.toNat)))), some (.inr (.inr (some (4, (0 + (0 + kk_.toNat))))))], [.inl (Sx35_.1 4 (0 + (0 + kk_.toNat)) 4)], Sx35_)) rfl ?_
        refine sm_T_b0 (a := 1) (z := 15) rfl (fun cx44_ => ?_) (fun cx44_ => ?_)
        · have cx44_ : (Sx35_.1 4 (0 + (0 + kk_.toNat)) 4) ≠ 0 := of_decide_eq_true cx44_
          refine sm_T_go 1 (c1 := (105, [some (.inr (.inr (some (12, 0)))), some (.inl kk_), some (.inl wh_), some (.inr (.inr (some (2, kk_.toNat)))), some (.inr (.inr (some (4, (0 + (0 + kk_.toNat))))))], [.inl 0], Sx35_)) rfl ?_
          refine sm_T_ri rfl (Or.inl ⟨_, _, rfl, _, rfl, hIx36_, hFx39_, ?_⟩)
          exact jC_fr hJ_ hFx39_ (by decide) (by decide) (by decide) (by decide) (by decide) rfl rfl rfl rfl rfl rfl
        · have cx44_ : ¬ ((Sx35_.1 4 (0 + (0 + kk_.toNat)) 4) ≠ 0) := of_decide_eq_false cx44_
          have bx45_ : 0 ≤ Sx35_.1 4 (0 + (0 + kk_.toNat)) 5 ∧ Sx35_.1 4 (0 + (0 + kk_.toNat)) 5 ≤ 100000 := hIx36_.1 4 (0 + (0 + kk_.toNat)) 5 rfl
          refine sm_T_go 2 (c1 := (97, [some (.inr (.inr (some (12, 0)))), some (.inl kk_), some (.inl wh_), some (.inr (.inr (some (2, kk_.toNat)))), some (.inr (.inr (some (4, (0 + (0 + kk_.toNat))))))], [.inl (Sx35_.1 4 (0 + (0 + kk_.toNat)) 5)], Sx35_)) rfl ?_
          refine sm_T_b0 (a := 1) (z := 7) rfl (fun cx46_ => ?_) (fun cx46_ => ?_)
          · have cx46_ : (Sx35_.1 4 (0 + (0 + kk_.toNat)) 5) ≠ 0 := of_decide_eq_true cx46_
            refine sm_T_go 1 (c1 := (105, [some (.inr (.inr (some (12, 0)))), some (.inl kk_), some (.inl wh_), some (.inr (.inr (some (2, kk_.toNat)))), some (.inr (.inr (some (4, (0 + (0 + kk_.toNat))))))], [.inl 0], Sx35_)) rfl ?_
            refine sm_T_ri rfl (Or.inl ⟨_, _, rfl, _, rfl, hIx36_, hFx39_, ?_⟩)
            exact jC_fr hJ_ hFx39_ (by decide) (by decide) (by decide) (by decide) (by decide) rfl rfl rfl rfl rfl rfl
          · have cx46_ : ¬ ((Sx35_.1 4 (0 + (0 + kk_.toNat)) 5) ≠ 0) := of_decide_eq_false cx46_
            refine sm_T_go 2 (c1 := (105, [some (.inr (.inr (some (12, 0)))), some (.inl kk_), some (.inl wh_), some (.inr (.inr (some (2, kk_.toNat)))), some (.inr (.inr (some (4, (0 + (0 + kk_.toNat))))))], [.inl 1], Sx35_)) rfl ?_
            refine sm_T_ri rfl (Or.inl ⟨_, _, rfl, _, rfl, hIx36_, hFx39_, ?_⟩)
            exact jC_fr hJ_ hFx39_ (by decide) (by decide) (by decide) (by decide) (by decide) rfl rfl rfl rfl rfl rfl
      by_cases cx47_ : wh_ = 1
      · refine sm_T_sw (t := 106) rfl rfl (by rw [cx47_]; rfl) ?_
        have bx48_ : 0 ≤ Sx35_.1 4 (0 + (0 + kk_.toNat)) 4 ∧ Sx35_.1 4 (0 + (0 + kk_.toNat)) 4 ≤ 1073741823 := hIx36_.1 4 (0 + (0 + kk_.toNat)) 4 rfl
        refine sm_T_go 2 (c1 := (111, [some (.inr (.inr (some (12, 0)))), some (.inl kk_), some (.inl wh_), some (.inr (.inr (some (2, kk_.toNat)))), some (.inr (.inr (some (4, (0 + (0 + kk_.toNat))))))], [.inl (Sx35_.1 4 (0 + (0 + kk_.toNat)) 4)], Sx35_)) rfl ?_
        refine sm_T_ri rfl (Or.inl ⟨_, _, rfl, _, rfl, hIx36_, hFx39_, ?_⟩)
        exact jC_fr hJ_ hFx39_ (by decide) (by decide) (by decide) (by decide) (by decide) rfl rfl rfl rfl rfl rfl
      by_cases cx49_ : wh_ = 2
      · refine sm_T_sw (t := 112) rfl rfl (by rw [cx49_]; rfl) ?_
        have bx50_ : 0 ≤ Sx35_.1 4 (0 + (0 + kk_.toNat)) 5 ∧ Sx35_.1 4 (0 + (0 + kk_.toNat)) 5 ≤ 100000 := hIx36_.1 4 (0 + (0 + kk_.toNat)) 5 rfl
        refine sm_T_go 2 (c1 := (117, [some (.inr (.inr (some (12, 0)))), some (.inl kk_), some (.inl wh_), some (.inr (.inr (some (2, kk_.toNat)))), some (.inr (.inr (some (4, (0 + (0 + kk_.toNat))))))], [.inl (Sx35_.1 4 (0 + (0 + kk_.toNat)) 5)], Sx35_)) rfl ?_
        refine sm_T_ri rfl (Or.inl ⟨_, _, rfl, _, rfl, hIx36_, hFx39_, ?_⟩)
        exact jC_fr hJ_ hFx39_ (by decide) (by decide) (by decide) (by decide) (by decide) rfl rfl rfl rfl rfl rfl
      by_cases cx51_ : wh_ = 3
      · refine sm_T_sw (t := 118) rfl rfl (by rw [cx51_]; rfl) ?_
        have bx52_ : 0 ≤ Sx35_.1 4 (0 + (0 + kk_.toNat)) 6 ∧ Sx35_.1 4 (0 + (0 + kk_.toNat)) 6 ≤ 2652 := hIx36_.1 4 (0 + (0 + kk_.toNat)) 6 rfl
        refine sm_T_go 2 (c1 := (123, [some (.inr (.inr (some (12, 0)))), some (.inl kk_), some (.inl wh_), some (.inr (.inr (some (2, kk_.toNat)))), some (.inr (.inr (some (4, (0 + (0 + kk_.toNat))))))], [.inl (Sx35_.1 4 (0 + (0 + kk_.toNat)) 6)], Sx35_)) rfl ?_
        refine sm_T_ri rfl (Or.inl ⟨_, _, rfl, _, rfl, hIx36_, hFx39_, ?_⟩)
        exact jC_fr hJ_ hFx39_ (by decide) (by decide) (by decide) (by decide) (by decide) rfl rfl rfl rfl rfl rfl
      refine sm_T_sw (t := 124) rfl rfl (by (have hh_ : wh_ < 0 ∨ 4 ≤ wh_ := by omega); rcases hh_ with hh_ | hh_; (exact sm_swd (Or.inl hh_)); (exact sm_swd (Or.inr (by simp only [List.length_cons, List.length_nil]; omega)))) ?_
      have bx53_ : (-700) ≤ Sx35_.1 4 (0 + (0 + kk_.toNat)) 7 ∧ Sx35_.1 4 (0 + (0 + kk_.toNat)) 7 ≤ 2000 := hIx36_.1 4 (0 + (0 + kk_.toNat)) 7 rfl
      refine sm_T_go 2 (c1 := (129, [some (.inr (.inr (some (12, 0)))), some (.inl kk_), some (.inl wh_), some (.inr (.inr (some (2, kk_.toNat)))), some (.inr (.inr (some (4, (0 + (0 + kk_.toNat))))))], [.inl (Sx35_.1 4 (0 + (0 + kk_.toNat)) 7)], Sx35_)) rfl ?_
      refine sm_T_ri rfl (Or.inl ⟨_, _, rfl, _, rfl, hIx36_, hFx39_, ?_⟩)
      exact jC_fr hJ_ hFx39_ (by decide) (by decide) (by decide) (by decide) (by decide) rfl rfl rfl rfl rfl rfl
end
/-! 99.zp6e -/
section
/-! ChipFlow.add -/
def vw_248 : sx_Wl := ([(4, 1), (4, 9), (4, 10)], [48], [])
def vq_248 (kk_ : Int) (ly_ : Int) (x0_ : Int) (y0_ : Int) (x1_ : Int) (y1_ : Int) (S0_ : sm_S) (u_ : Option sm_V) (S1_ : sm_S) : Prop := ∃ v_ : Int, u_ = some (.inl v_) ∧ gi S1_ ∧ ai_fr (sx_W vw_248) S0_ S1_ ∧ (jC S1_)
def vx_248 (kk_ : Int) (ly_ : Int) (x0_ : Int) (y0_ : Int) (x1_ : Int) (y1_ : Int) (S0_ : sm_S) (S1_ : sm_S) : Prop := gi S1_ ∧ ai_fr (sx_W vw_248) S0_ S1_ ∧ (S1_ = S0_)
set_option maxHeartbeats 400000 in
theorem vc_248 {sc_ : Nat × (Nat → Int)} (kk_ : Int) (ly_ : Int) (x0_ : Int) (y0_ : Int) (x1_ : Int) (y1_ : Int) (S0_ : sm_S) (hI_ : gi S0_) (hJ_ : jC S0_) : sm_T (mt_P sc_) 2 248 (0, [some (.inr (.inr (some (12, 0)))), some (.inl kk_), some (.inl ly_), some (.inl x0_), some (.inl y0_), some (.inl x1_), some (.inl y1_), none], [], S0_) (fun ro9_ => (∃ u_ S1_, ro9_ = (.inl u_, S1_, 0) ∧ vq_248 kk_ ly_ x0_ y0_ x1_ y1_ S0_ u_ S1_) ∨ ∃ ex_ S1_, ro9_ = (.inr ex_, S1_, 1) ∧ ex_ ∈ ([0, 1, 2, 3] : List Nat) ∧ vx_248 kk_ ly_ x0_ y0_ x1_ y1_ S0_ S1_) := by
  have hF_ : ai_fr (sx_W vw_248) S0_ S0_ := ai_fr_rf
  refine sm_T_go 2 (c1 := (2, [some (.inr (.inr (some (12, 0)))), some (.inl kk_), some (.inl ly_), some (.inl x0_), some (.inl y0_), some (.inl x1_), some (.inl y1_), none], [.inl kk_, .inr (.inr (some (12, 0)))], S0_)) rfl ?_
  refine sm_T_cale (d1_ := 1) (Q1_ := vq_272 kk_ S0_) (Q2_ := (fun ex_ S1_ => ex_ ∈ ([0] : List Nat) ∧ vx_272 kk_ S0_ S1_)) rfl rfl (by decide) (vc_272 kk_ S0_ hI_ ) rfl (fun xx6_ Sx1_ px4_ => ?_) (fun u_ Sx1_ px4_ => ?_)
  · obtain ⟨px4m, hIx2_, hFx3_, px4_⟩ := px4_
    refine Or.inr ⟨_, _, rfl, by first | exact px4m | (simp only [List.mem_cons, List.not_mem_nil, or_false] at px4m ⊢; omega), hIx2_, ai_fr_tr hF_ (fr_le hFx3_ rfl), ?_⟩
    first | exact px4_.2 | exact px4_ | rfl
  obtain ⟨rfl, -, -, rfl, px4_⟩ := px4_
  have a9_ := px4_
  have J9_ := hJ_.2.1 kk_.toNat (by omega) a9_.2
  have J1_ := J9_.1
  have q9_ := a9_.2
  have c8_ : 0 ≤ S0_.1 2 (kk_.toNat) 8 ∧ S0_.1 2 (kk_.toNat) 8 ≤ 150 := hI_.1 2 (kk_.toNat) 8 rfl
  have c1_ : 0 ≤ S0_.1 2 (kk_.toNat) 1 ∧ S0_.1 2 (kk_.toNat) 1 ≤ 12 := hI_.1 2 (kk_.toNat) 1 rfl
  have c2_ : 0 ≤ S0_.1 2 (kk_.toNat) 2 ∧ S0_.1 2 (kk_.toNat) 2 ≤ 6 := hI_.1 2 (kk_.toNat) 2 rfl
  refine sm_T_go 4 (c1 := (14, [some (.inr (.inr (some (12, 0)))), some (.inl kk_), some (.inl ly_), some (.inl x0_), some (.inl y0_), some (.inl x1_), some (.inl y1_), some (.inr (.inr (some (4, (0 + (0 + kk_.toNat))))))], [.inl ly_], S0_)) rfl ?_
  refine sm_T_b0 (a := 2) (z := 12) rfl (fun cx7_ => ?_) (fun cx7_ => ?_)
  · have cx7_ : ly_ < 0 := of_decide_eq_true cx7_
    refine sm_T_go 1 (c1 := (27, [some (.inr (.inr (some (12, 0)))), some (.inl kk_), some (.inl ly_), some (.inl x0_), some (.inl y0_), some (.inl x1_), some (.inl y1_), some (.inr (.inr (some (4, (0 + (0 + kk_.toNat))))))], [.inl 0], S0_)) rfl ?_
    refine sm_T_cale (d1_ := 0) (Q1_ := vq_266e 0 S0_) (Q2_ := (fun ex_ S1_ => ex_ ∈ ([1] : List Nat) ∧ vx_266e 0 S0_ S1_)) rfl rfl (by decide) (vc_266e 0 S0_ hI_ ) rfl (fun xx13_ Sx8_ px11_ => ?_) (fun u_ Sx8_ px11_ => ?_)
    · obtain ⟨px11m, hIx9_, hFx10_, px11_⟩ := px11_
      refine Or.inr ⟨_, _, rfl, by first | exact px11m | (simp only [List.mem_cons, List.not_mem_nil, or_false] at px11m ⊢; omega), hIx9_, ai_fr_tr hF_ (fr_le hFx10_ rfl), ?_⟩
      first | exact px11_.2 | exact px11_ | rfl
    · exact absurd rfl px11_.2.2.2.1
  · have cx7_ : ¬ (ly_ < 0) := of_decide_eq_false cx7_
    refine sm_T_go 2 (c1 := (19, [some (.inr (.inr (some (12, 0)))), some (.inl kk_), some (.inl ly_), some (.inl x0_), some (.inl y0_), some (.inl x1_), some (.inl y1_), some (.inr (.inr (some (4, (0 + (0 + kk_.toNat))))))], [.inl 2, .inl ly_], S0_)) rfl ?_
    refine sm_T_br (a := 4) (z := 7) rfl (fun cx14_ => ?_) (fun cx14_ => ?_)
    · have cx14_ : 2 < ly_ := of_decide_eq_true cx14_
      refine sm_T_go 1 (c1 := (27, [some (.inr (.inr (some (12, 0)))), some (.inl kk_), some (.inl ly_), some (.inl x0_), some (.inl y0_), some (.inl x1_), some (.inl y1_), some (.inr (.inr (some (4, (0 + (0 + kk_.toNat))))))], [.inl 0], S0_)) rfl ?_
      refine sm_T_cale (d1_ := 0) (Q1_ := vq_266e 0 S0_) (Q2_ := (fun ex_ S1_ => ex_ ∈ ([1] : List Nat) ∧ vx_266e 0 S0_ S1_)) rfl rfl (by decide) (vc_266e 0 S0_ hI_ ) rfl (fun xx20_ Sx15_ px18_ => ?_) (fun u_ Sx15_ px18_ => ?_)
      · obtain ⟨px18m, hIx16_, hFx17_, px18_⟩ := px18_
        refine Or.inr ⟨_, _, rfl, by first | exact px18m | (simp only [List.mem_cons, List.not_mem_nil, or_false] at px18m ⊢; omega), hIx16_, ai_fr_tr hF_ (fr_le hFx17_ rfl), ?_⟩
        first | exact px18_.2 | exact px18_ | rfl
      · exact absurd rfl px18_.2.2.2.1
    · have cx14_ : ¬ (2 < ly_) := of_decide_eq_false cx14_
      refine sm_T_go 2 (c1 := (27, [some (.inr (.inr (some (12, 0)))), some (.inl kk_), some (.inl ly_), some (.inl x0_), some (.inl y0_), some (.inl x1_), some (.inl y1_), some (.inr (.inr (some (4, (0 + (0 + kk_.toNat))))))], [.inl 1], S0_)) rfl ?_
      refine sm_T_cale (d1_ := 0) (Q1_ := vq_266e 1 S0_) (Q2_ := (fun ex_ S1_ => ex_ ∈ ([1] : List Nat) ∧ vx_266e 1 S0_ S1_)) rfl rfl (by decide) (vc_266e 1 S0_ hI_ ) rfl (fun xx26_ Sx21_ px24_ => ?_) (fun u_ Sx21_ px24_ => ?_)
      · exact absurd px24_.2.2.2.1 (by decide)
      obtain ⟨rfl, -, -, px24_, rfl⟩ := px24_
      refine sm_T_go 2 (c1 := (34, [some (.inr (.inr (some (12, 0)))), some (.inl kk_), some (.inl ly_), some (.inl x0_), some (.inl y0_), some (.inl x1_), some (.inl y1_), some (.inr (.inr (some (4, (0 + (0 + kk_.toNat))))))], [.inl (-1000), .inl x0_], S0_)) rfl ?_
      refine sm_T_br (a := 2) (z := 21) rfl (fun cx27_ => ?_) (fun cx27_ => ?_)
      · have cx27_ : x0_ < (-1000) := of_decide_eq_true cx27_
        refine sm_T_go 1 (c1 := (56, [some (.inr (.inr (some (12, 0)))), some (.inl kk_), some (.inl ly_), some (.inl x0_), some (.inl y0_), some (.inl x1_), some (.inl y1_), some (.inr (.inr (some (4, (0 + (0 + kk_.toNat))))))], [.inl 0], S0_)) rfl ?_
        refine sm_T_cale (d1_ := 0) (Q1_ := vq_266e 0 S0_) (Q2_ := (fun ex_ S1_ => ex_ ∈ ([1] : List Nat) ∧ vx_266e 0 S0_ S1_)) rfl rfl (by decide) (vc_266e 0 S0_ hI_ ) rfl (fun xx33_ Sx28_ px31_ => ?_) (fun u_ Sx28_ px31_ => ?_)
        · obtain ⟨px31m, hIx29_, hFx30_, px31_⟩ := px31_
          refine Or.inr ⟨_, _, rfl, by first | exact px31m | (simp only [List.mem_cons, List.not_mem_nil, or_false] at px31m ⊢; omega), hIx29_, ai_fr_tr hF_ (fr_le hFx30_ rfl), ?_⟩
          first | exact px31_.2 | exact px31_ | rfl
        · exact absurd rfl px31_.2.2.2.1
      · have cx27_ : ¬ (x0_ < (-1000)) := of_decide_eq_false cx27_
        refine sm_T_go 2 (c1 := (40, [some (.inr (.inr (some (12, 0)))), some (.inl kk_), some (.inl ly_), some (.inl x0_), some (.inl y0_), some (.inl x1_), some (.inl y1_), some (.inr (.inr (some (4, (0 + (0 + kk_.toNat))))))], [.inl x1_, .inl x0_], S0_)) rfl ?_
        refine sm_T_br (a := 3) (z := 15) rfl (fun cx34_ => ?_) (fun cx34_ => ?_)
        · have cx34_ : x1_ ≤ x0_ := of_decide_eq_true cx34_
          refine sm_T_go 1 (c1 := (56, [some (.inr (.inr (some (12, 0)))), some (.inl kk_), some (.inl ly_), some (.inl x0_), some (.inl y0_), some (.inl x1_), some (.inl y1_), some (.inr (.inr (some (4, (0 + (0 + kk_.toNat))))))], [.inl 0], S0_)) rfl ?_
          refine sm_T_cale (d1_ := 0) (Q1_ := vq_266e 0 S0_) (Q2_ := (fun ex_ S1_ => ex_ ∈ ([1] : List Nat) ∧ vx_266e 0 S0_ S1_)) rfl rfl (by decide) (vc_266e 0 S0_ hI_ ) rfl (fun xx40_ Sx35_ px38_ => ?_) (fun u_ Sx35_ px38_ => ?_)
          · obtain ⟨px38m, hIx36_, hFx37_, px38_⟩ := px38_
            refine Or.inr ⟨_, _, rfl, by first | exact px38m | (simp only [List.mem_cons, List.not_mem_nil, or_false] at px38m ⊢; omega), hIx36_, ai_fr_tr hF_ (fr_le hFx37_ rfl), ?_⟩
            first | exact px38_.2 | exact px38_ | rfl
          · exact absurd rfl px38_.2.2.2.1
        · have cx34_ : ¬ (x1_ ≤ x0_) := of_decide_eq_false cx34_
          refine sm_T_go 2 (c1 := (48, [some (.inr (.inr (some (12, 0)))), some (.inl kk_), some (.inl ly_), some (.inl x0_), some (.inl y0_), some (.inl x1_), some (.inl y1_), some (.inr (.inr (some (4, (0 + (0 + kk_.toNat))))))], [.inl 1000, .inl x1_], S0_)) rfl ?_
          refine sm_T_br (a := 4) (z := 7) rfl (fun cx41_ => ?_) (fun cx41_ => ?_)
          · have cx41_ : 1000 < x1_ := of_decide_eq_true cx41_
            refine sm_T_go 1 (c1 := (56, [some (.inr (.inr (some (12, 0)))), some (.inl kk_), some (.inl ly_), some (.inl x0_), some (.inl y0_), some (.inl x1_), some (.inl y1_), some (.inr (.inr (some (4, (0 + (0 + kk_.toNat))))))], [.inl 0], S0_)) rfl ?_
            refine sm_T_cale (d1_ := 0) (Q1_ := vq_266e 0 S0_) (Q2_ := (fun ex_ S1_ => ex_ ∈ ([1] : List Nat) ∧ vx_266e 0 S0_ S1_)) rfl rfl (by decide) (vc_266e 0 S0_ hI_ ) rfl (fun xx47_ Sx42_ px45_ => ?_) (fun u_ Sx42_ px45_ => ?_)
            · obtain ⟨px45m, hIx43_, hFx44_, px45_⟩ := px45_
              refine Or.inr ⟨_, _, rfl, by first | exact px45m | (simp only [List.mem_cons, List.not_mem_nil, or_false] at px45m ⊢; omega), hIx43_, ai_fr_tr hF_ (fr_le hFx44_ rfl), ?_⟩
              first | exact px45_.2 | exact px45_ | rfl
            · exact absurd rfl px45_.2.2.2.1
          · have cx41_ : ¬ (1000 < x1_) := of_decide_eq_false cx41_
            refine sm_T_go 2 (c1 := (56, [some (.inr (.inr (some (12, 0)))), some (.inl kk_), some (.inl ly_), some (.inl x0_), some (.inl y0_), some (.inl x1_), some (.inl y1_), some (.inr (.inr (some (4, (0 + (0 + kk_.toNat))))))], [.inl 1], S0_)) rfl ?_
            refine sm_T_cale (d1_ := 0) (Q1_ := vq_266e 1 S0_) (Q2_ := (fun ex_ S1_ => ex_ ∈ ([1] : List Nat) ∧ vx_266e 1 S0_ S1_)) rfl rfl (by decide) (vc_266e 1 S0_ hI_ ) rfl (fun xx53_ Sx48_ px51_ => ?_) (fun u_ Sx48_ px51_ => ?_)
            · exact absurd px51_.2.2.2.1 (by decide)
            obtain ⟨rfl, -, -, px51_, rfl⟩ := px51_
            refine sm_T_go 2 (c1 := (64, [some (.inr (.inr (some (12, 0)))), some (.inl kk_), some (.inl ly_), some (.inl x0_), some (.inl y0_), some (.inl x1_), some (.inl y1_), some (.inr (.inr (some (4, (0 + (0 + kk_.toNat))))))], [.inl (-1000), .inl y0_], S0_)) rfl ?_
            refine sm_T_br (a := 2) (z := 22) rfl (fun cx54_ => ?_) (fun cx54_ => ?_)
            · have cx54_ : y0_ < (-1000) := of_decide_eq_true cx54_
              refine sm_T_go 1 (c1 := (87, [some (.inr (.inr (some (12, 0)))), some (.inl kk_), some (.inl ly_), some (.inl x0_), some (.inl y0_), some (.inl x1_), some (.inl y1_), some (.inr (.inr (some (4, (0 + (0 + kk_.toNat))))))], [.inl 0], S0_)) rfl ?_
              refine sm_T_cale (d1_ := 0) (Q1_ := vq_266e 0 S0_) (Q2_ := (fun ex_ S1_ => ex_ ∈ ([1] : List Nat) ∧ vx_266e 0 S0_ S1_)) rfl rfl (by decide) (vc_266e 0 S0_ hI_ ) rfl (fun xx60_ Sx55_ px58_ => ?_) (fun u_ Sx55_ px58_ => ?_)
              · obtain ⟨px58m, hIx56_, hFx57_, px58_⟩ := px58_
                refine Or.inr ⟨_, _, rfl, by first | exact px58m | (simp only [List.mem_cons, List.not_mem_nil, or_false] at px58m ⊢; omega), hIx56_, ai_fr_tr hF_ (fr_le hFx57_ rfl), ?_⟩
                first | exact px58_.2 | exact px58_ | rfl
              · exact absurd rfl px58_.2.2.2.1
            · have cx54_ : ¬ (y0_ < (-1000)) := of_decide_eq_false cx54_
              refine sm_T_go 2 (c1 := (71, [some (.inr (.inr (some (12, 0)))), some (.inl kk_), some (.inl ly_), some (.inl x0_), some (.inl y0_), some (.inl x1_), some (.inl y1_), some (.inr (.inr (some (4, (0 + (0 + kk_.toNat))))))], [.inl y1_, .inl y0_], S0_)) rfl ?_
              refine sm_T_br (a := 3) (z := 15) rfl (fun cx61_ => ?_) (fun cx61_ => ?_)
              · have cx61_ : y1_ ≤ y0_ := of_decide_eq_true cx61_
                refine sm_T_go 1 (c1 := (87, [some (.inr (.inr (some (12, 0)))), some (.inl kk_), some (.inl ly_), some (.inl x0_), some (.inl y0_), some (.inl x1_), some (.inl y1_), some (.inr (.inr (some (4, (0 + (0 + kk_.toNat))))))], [.inl 0], S0_)) rfl ?_
                refine sm_T_cale (d1_ := 0) (Q1_ := vq_266e 0 S0_) (Q2_ := (fun ex_ S1_ => ex_ ∈ ([1] : List Nat) ∧ vx_266e 0 S0_ S1_)) rfl rfl (by decide) (vc_266e 0 S0_ hI_ ) rfl (fun xx67_ Sx62_ px65_ => ?_) (fun u_ Sx62_ px65_ => ?_)
                · obtain ⟨px65m, hIx63_, hFx64_, px65_⟩ := px65_
                  refine Or.inr ⟨_, _, rfl, by first | exact px65m | (simp only [List.mem_cons, List.not_mem_nil, or_false] at px65m ⊢; omega), hIx63_, ai_fr_tr hF_ (fr_le hFx64_ rfl), ?_⟩
                  first | exact px65_.2 | exact px65_ | rfl
                · exact absurd rfl px65_.2.2.2.1
              · have cx61_ : ¬ (y1_ ≤ y0_) := of_decide_eq_false cx61_
                refine sm_T_go 2 (c1 := (79, [some (.inr (.inr (some (12, 0)))), some (.inl kk_), some (.inl ly_), some (.inl x0_), some (.inl y0_), some (.inl x1_), some (.inl y1_), some (.inr (.inr (some (4, (0 + (0 + kk_.toNat))))))], [.inl 1000, .inl y1_], S0_)) rfl ?_
                refine sm_T_br (a := 4) (z := 7) rfl (fun cx68_ => ?_) (fun cx68_ => ?_)
                · have cx68_ : 1000 < y1_ := of_decide_eq_true cx68_
                  refine sm_T_go 1 (c1 := (87, [some (.inr (.inr (some (12, 0)))), some (.inl kk_), some (.inl ly_), some (.inl x0_), some (.inl y0_), some (.inl x1_), some (.inl y1_), some (.inr (.inr (some (4, (0 + (0 + kk_.toNat))))))], [.inl 0], S0_)) rfl ?_
                  refine sm_T_cale (d1_ := 0) (Q1_ := vq_266e 0 S0_) (Q2_ := (fun ex_ S1_ => ex_ ∈ ([1] : List Nat) ∧ vx_266e 0 S0_ S1_)) rfl rfl (by decide) (vc_266e 0 S0_ hI_ ) rfl (fun xx74_ Sx69_ px72_ => ?_) (fun u_ Sx69_ px72_ => ?_)
                  · obtain ⟨px72m, hIx70_, hFx71_, px72_⟩ := px72_
                    refine Or.inr ⟨_, _, rfl, by first | exact px72m | (simp only [List.mem_cons, List.not_mem_nil, or_false] at px72m ⊢; omega), hIx70_, ai_fr_tr hF_ (fr_le hFx71_ rfl), ?_⟩
                    first | exact px72_.2 | exact px72_ | rfl
                  · exact absurd rfl px72_.2.2.2.1
                · have cx68_ : ¬ (1000 < y1_) := of_decide_eq_false cx68_
                  refine sm_T_go 2 (c1 := (87, [some (.inr (.inr (some (12, 0)))), some (.inl kk_), some (.inl ly_), some (.inl x0_), some (.inl y0_), some (.inl x1_), some (.inl y1_), some (.inr (.inr (some (4, (0 + (0 + kk_.toNat))))))], [.inl 1], S0_)) rfl ?_
                  refine sm_T_cale (d1_ := 0) (Q1_ := vq_266e 1 S0_) (Q2_ := (fun ex_ S1_ => ex_ ∈ ([1] : List Nat) ∧ vx_266e 1 S0_ S1_)) rfl rfl (by decide) (vc_266e 1 S0_ hI_ ) rfl (fun xx80_ Sx75_ px78_ => ?_) (fun u_ Sx75_ px78_ => ?_)
                  · exact absurd px78_.2.2.2.1 (by decide)
                  obtain ⟨rfl, -, -, px78_, rfl⟩ := px78_
                  have bx81_ : 0 ≤ S0_.1 4 (0 + (0 + kk_.toNat)) 0 ∧ S0_.1 4 (0 + (0 + kk_.toNat)) 0 ≤ 1 := hI_.1 4 (0 + (0 + kk_.toNat)) 0 rfl
                  refine sm_T_go 2 (c1 := (95, [some (.inr (.inr (some (12, 0)))), some (.inl kk_), some (.inl ly_), some (.inl x0_), some (.inl y0_), some (.inl x1_), some (.inl y1_), some (.inr (.inr (some (4, (0 + (0 + kk_.toNat))))))], [.inl (S0_.1 4 (0 + (0 + kk_.toNat)) 0)], S0_)) rfl ?_
                  refine sm_T_cale (d1_ := 0) (Q1_ := vq_267e (S0_.1 4 (0 + (0 + kk_.toNat)) 0) S0_) (Q2_ := (fun ex_ S1_ => ex_ ∈ ([2] : List Nat) ∧ vx_267e (S0_.1 4 (0 + (0 + kk_.toNat)) 0) S0_ S1_)) rfl rfl (by decide) (vc_267e (S0_.1 4 (0 + (0 + kk_.toNat)) 0) S0_ hI_ ) rfl (fun xx87_ Sx82_ px85_ => ?_) (fun u_ Sx82_ px85_ => ?_)
                  · obtain ⟨px85m, hIx83_, hFx84_, px85_⟩ := px85_
                    refine Or.inr ⟨_, _, rfl, by first | exact px85m | (simp only [List.mem_cons, List.not_mem_nil, or_false] at px85m ⊢; omega), hIx83_, ai_fr_tr hF_ (fr_le hFx84_ rfl), ?_⟩
                    first | exact px85_.2 | exact px85_ | rfl
                  obtain ⟨rfl, -, -, px85_, rfl⟩ := px85_
                  have bx88_ : 0 ≤ S0_.1 4 (0 + (0 + kk_.toNat)) 1 ∧ S0_.1 4 (0 + (0 + kk_.toNat)) 1 ≤ 2000 := hI_.1 4 (0 + (0 + kk_.toNat)) 1 rfl
                  refine sm_T_go 3 (c1 := (106, [some (.inr (.inr (some (12, 0)))), some (.inl kk_), some (.inl ly_), some (.inl x0_), some (.inl y0_), some (.inl x1_), some (.inl y1_), some (.inr (.inr (some (4, (0 + (0 + kk_.toNat))))))], [.inl 2000, .inl (S0_.1 4 (0 + (0 + kk_.toNat)) 1)], S0_)) rfl ?_
                  refine sm_T_br (a := 3) (z := 7) rfl (fun cx89_ => ?_) (fun cx89_ => ?_)
                  · have cx89_ : 2000 ≤ (S0_.1 4 (0 + (0 + kk_.toNat)) 1) := of_decide_eq_true cx89_
                    refine sm_T_go 1 (c1 := (114, [some (.inr (.inr (some (12, 0)))), some (.inl kk_), some (.inl ly_), some (.inl x0_), some (.inl y0_), some (.inl x1_), some (.inl y1_), some (.inr (.inr (some (4, (0 + (0 + kk_.toNat))))))], [.inl 0], S0_)) rfl ?_
                    refine sm_T_cale (d1_ := 0) (Q1_ := vq_268e 0 S0_) (Q2_ := (fun ex_ S1_ => ex_ ∈ ([3] : List Nat) ∧ vx_268e 0 S0_ S1_)) rfl rfl (by decide) (vc_268e 0 S0_ hI_ ) rfl (fun xx95_ Sx90_ px93_ => ?_) (fun u_ Sx90_ px93_ => ?_)
                    · obtain ⟨px93m, hIx91_, hFx92_, px93_⟩ := px93_
                      refine Or.inr ⟨_, _, rfl, by first | exact px93m | (simp only [List.mem_cons, List.not_mem_nil, or_false] at px93m ⊢; omega), hIx91_, ai_fr_tr hF_ (fr_le hFx92_ rfl), ?_⟩
                      first | exact px93_.2 | exact px93_ | rfl
                    · exact absurd rfl px93_.2.2.2.1
                  · have cx89_ : ¬ (2000 ≤ (S0_.1 4 (0 + (0 + kk_.toNat)) 1)) := of_decide_eq_false cx89_
                    refine sm_T_go 2 (c1 := (114, [some (.inr (.inr (some (12, 0)))), some (.inl kk_), some (.inl ly_), some (.inl x0_), some (.inl y0_), some (.inl x1_), some (.inl y1_), some (.inr (.inr (some (4, (0 + (0 + kk_.toNat))))))], [.inl 1], S0_)) rfl ?_
                    refine sm_T_cale (d1_ := 0) (Q1_ := vq_268e 1 S0_) (Q2_ := (fun ex_ S1_ => ex_ ∈ ([3] : List Nat) ∧ vx_268e 1 S0_ S1_)) rfl rfl (by decide) (vc_268e 1 S0_ hI_ ) rfl (fun xx101_ Sx96_ px99_ => ?_) (fun u_ Sx96_ px99_ => ?_)
                    · exact absurd px99_.2.2.2.1 (by decide)
                    obtain ⟨rfl, -, -, px99_, rfl⟩ := px99_
                    refine sm_T_go 8 (c1 := (132, [some (.inr (.inr (some (12, 0)))), some (.inl kk_), some (.inl ly_), some (.inl x0_), some (.inl y0_), some (.inl x1_), some (.inl y1_), some (.inr (.inr (some (4, (0 + (0 + kk_.toNat))))))], [.inl y1_, .inl x1_, .inl y0_, .inl x0_, .inl ly_, .inl (S0_.1 4 (0 + (0 + kk_.toNat)) 1), .inr (.inr (some (4, (0 + (0 + kk_.toNat)))))], S0_)) rfl ?_
                    refine sm_T_cal (d1 := 0) (Q1 := vq_69 (S0_.1 4 (0 + (0 + kk_.toNat)) 1) ly_ x0_ y0_ x1_ y1_ (0 + (0 + kk_.toNat)) S0_) rfl rfl (by decide) (vc_69 (S0_.1 4 (0 + (0 + kk_.toNat)) 1) ly_ x0_ y0_ x1_ y1_ (0 + (0 + kk_.toNat)) S0_ hI_ (by omega) (by omega) (by omega) (by omega) (by omega) (by omega)) (fun u_ Sx102_ px105_ => ?_)
                    obtain ⟨rfl, hIx103_, hFx104_, px105_⟩ := px105_
                    have hFx106_ : ai_fr (sx_W vw_248) S0_ Sx102_ := ai_fr_tr hF_ (fr_le hFx104_ rfl)
                    obtain ⟨dx107_, px105_⟩ := px105_
                    have y132_ := hFx104_.1 4 (0 + (0 + kk_.toNat)) 1 rfl
                    have bx108_ : 0 ≤ Sx102_.1 4 (0 + (0 + kk_.toNat)) 1 ∧ Sx102_.1 4 (0 + (0 + kk_.toNat)) 1 ≤ 2000 := hIx103_.1 4 (0 + (0 + kk_.toNat)) 1 rfl
                    refine sm_T_go 4 (c1 := (142, [some (.inr (.inr (some (12, 0)))), some (.inl kk_), some (.inl ly_), some (.inl x0_), some (.inl y0_), some (.inl x1_), some (.inl y1_), some (.inr (.inr (some (4, (0 + (0 + kk_.toNat))))))], [.inl 1, .inl (Sx102_.1 4 (0 + (0 + kk_.toNat)) 1), .inr (.inr (some (4, (0 + (0 + kk_.toNat)))))], Sx102_)) rfl ?_
                    refine sm_T_bin (w := (Sx102_.1 4 (0 + (0 + kk_.toNat)) 1) + 1) rfl (bi_add (by omega) (by omega) (by omega)) ?_ -- pc_ 142
                    have hIx109_ : gi (sm_pI Sx102_ 4 (0 + (0 + kk_.toNat)) 1 ((Sx102_.1 4 (0 + (0 + kk_.toNat)) 1) + 1)) := gi_pI hIx103_ (show 0 ≤ (Sx102_.1 4 (0 + (0 + kk_.toNat)) 1) + 1 ∧ (Sx102_.1 4 (0 + (0 + kk_.toNat)) 1) + 1 ≤ 2000 from ⟨by omega, by omega⟩)
                    have hFx110_ : ai_fr (sx_W vw_248) S0_ (sm_pI Sx102_ 4 (0 + (0 + kk_.toNat)) 1 ((Sx102_.1 4 (0 + (0 + kk_.toNat)) 1) + 1)) := ai_fr_tr hFx106_ (ai_fr_pI rfl)
                    refine sm_T_go 2 (c1 := (148, [some (.inr (.inr (some (12, 0)))), some (.inl kk_), some (.inl ly_), some (.inl x0_), some (.inl y0_), some (.inl x1_), some (.inl y1_), some (.inr (.inr (some (4, (0 + (0 + kk_.toNat))))))], [.inr (.inr (some (4, (0 + (0 + kk_.toNat)))))], sm_pI Sx102_ 4 (0 + (0 + kk_.toNat)) 1 ((Sx102_.1 4 (0 + (0 + kk_.toNat)) 1) + 1))) rfl ?_
                    refine sm_T_cal (d1 := 0) (Q1 := vq_68 (0 + (0 + kk_.toNat)) (sm_pI Sx102_ 4 (0 + (0 + kk_.toNat)) 1 ((Sx102_.1 4 (0 + (0 + kk_.toNat)) 1) + 1))) rfl rfl (by decide) (vc_68 (0 + (0 + kk_.toNat)) (sm_pI Sx102_ 4 (0 + (0 + kk_.toNat)) 1 ((Sx102_.1 4 (0 + (0 + kk_.toNat)) 1) + 1)) hIx109_ ) (fun u_ Sx111_ px114_ => ?_)
                    obtain ⟨rfl, hIx112_, hFx113_, px114_⟩ := px114_
                    have hFx115_ : ai_fr (sx_W vw_248) S0_ Sx111_ := ai_fr_tr hFx110_ (fr_le hFx113_ rfl)
                    obtain ⟨dx116_, px114_⟩ := px114_
                    have bx117_ : 0 ≤ Sx111_.1 4 (0 + (0 + kk_.toNat)) 1 ∧ Sx111_.1 4 (0 + (0 + kk_.toNat)) 1 ≤ 2000 := hIx112_.1 4 (0 + (0 + kk_.toNat)) 1 rfl
                    refine sm_T_go 3 (c1 := (157, [some (.inr (.inr (some (12, 0)))), some (.inl kk_), some (.inl ly_), some (.inl x0_), some (.inl y0_), some (.inl x1_), some (.inl y1_), some (.inr (.inr (some (4, (0 + (0 + kk_.toNat))))))], [.inl 1, .inl (Sx111_.1 4 (0 + (0 + kk_.toNat)) 1)], Sx111_)) rfl ?_
                    refine sm_T_bin (w := (Sx111_.1 4 (0 + (0 + kk_.toNat)) 1) - 1) rfl (bi_sub (by omega) (by omega) (by omega)) ?_ -- pc_ 157
                    refine sm_T_ri rfl (Or.inl ⟨_, _, rfl, _, rfl, hIx112_, hFx115_, ?_⟩)
                    exact jC_fr hJ_ hFx115_ (by decide) (by decide) (by decide) (by decide) (by decide) rfl rfl rfl rfl rfl rfl
end
/-! 99.zp7a -/
section
/-! the face of the class: tests; written by wip/p55/gen/vg -/
/-! Chip.isPattern -/
def vw_61p : sx_Wl := ([], [], [])
def vq_61p (a1_ : Int) (ii_ : Nat) (S0_ : sm_S) (u_ : Option sm_V) (S1_ : sm_S) : Prop := S0_ = S1_ ∧ ∃ v_ : Int, u_ = some (.inl v_) ∧ ((v_ = 0 ∨ v_ = 1) ∧ imq (v_ = 1) (0 ≤ a1_ ∧ a1_ ≤ 4095))
set_option maxHeartbeats 400000 in
theorem vc_61p {sc_ : Nat × (Nat → Int)} (a1_ : Int) (ii_ : Nat) (S0_ : sm_S) (hI_ : gi S0_) (hs_ : S0_.1 2 ii_ 1 + S0_.1 2 ii_ 2 ≤ 12) : sm_T (mt_P sc_) 0 61 (0, [some (.inr (.inr (some (2, ii_)))), some (.inl a1_)], [], S0_) (fun ro9_ => ∃ u_ S1_, ro9_ = (.inl u_, S1_, 0) ∧ vq_61p a1_ ii_ S0_ u_ S1_) := by
  have hF_ : ai_fr (sx_W vw_61p) S0_ S0_ := ai_fr_rf
  have c1_ : 0 ≤ S0_.1 2 ii_ 1 ∧ S0_.1 2 ii_ 1 ≤ 12 := hI_.1 2 ii_ 1 rfl
  have c2_ : 0 ≤ S0_.1 2 ii_ 2 ∧ S0_.1 2 ii_ 2 ≤ 6 := hI_.1 2 ii_ 2 rfl
  refine sm_T_go 1 (c1 := (1, [some (.inr (.inr (some (2, ii_)))), some (.inl a1_)], [.inl a1_], S0_)) rfl ?_
  refine sm_T_b0 (a := 2) (z := 22) rfl (fun cx1_ => ?_) (fun cx1_ => ?_)
  · have cx1_ : a1_ < 0 := of_decide_eq_true cx1_
    refine sm_T_go 1 (c1 := (24, [some (.inr (.inr (some (2, ii_)))), some (.inl a1_)], [.inl 0], S0_)) rfl ?_
    refine sm_T_rz rfl (by omega) ⟨_, _, rfl, rfl, _, rfl, ?_⟩
    first | exact ⟨Or.inr rfl, fun _ => ⟨by omega, by omega⟩⟩ | exact ⟨Or.inl rfl, fun q9_ => absurd q9_ (by decide)⟩
  · have cx1_ : ¬ (a1_ < 0) := of_decide_eq_false cx1_
    have bx2_ : 0 ≤ S0_.1 2 ii_ 1 ∧ S0_.1 2 ii_ 1 ≤ 12 := hI_.1 2 ii_ 1 rfl
    have bx3_ : 0 ≤ S0_.1 2 ii_ 2 ∧ S0_.1 2 ii_ 2 ≤ 6 := hI_.1 2 ii_ 2 rfl
    refine sm_T_go 6 (c1 := (14, [some (.inr (.inr (some (2, ii_)))), some (.inl a1_)], [.inl (S0_.1 2 ii_ 2), .inl (S0_.1 2 ii_ 1), .inl 1, .inl a1_], S0_)) rfl ?_
    refine sm_T_bin (w := (S0_.1 2 ii_ 1) + (S0_.1 2 ii_ 2)) rfl (bi_add (by omega) (by omega) (by omega)) ?_ -- pc_ 14
    refine sm_T_bin (w := (i_shl 1 ((S0_.1 2 ii_ 1) + (S0_.1 2 ii_ 2)))) rfl rfl ?_ -- pc_ 15
    have bx4_ := i_shl1 (e := ((S0_.1 2 ii_ 1) + (S0_.1 2 ii_ 2))) (by omega) (by omega)
    have hp8_ := pw_le (n := (((S0_.1 2 ii_ 1) + (S0_.1 2 ii_ 2))).toNat) (m := 12) (by omega)
    refine sm_T_br (a := 3) (z := 7) rfl (fun cx6_ => ?_) (fun cx6_ => ?_)
    · have cx6_ : (i_shl 1 ((S0_.1 2 ii_ 1) + (S0_.1 2 ii_ 2))) ≤ a1_ := of_decide_eq_true cx6_
      refine sm_T_go 1 (c1 := (24, [some (.inr (.inr (some (2, ii_)))), some (.inl a1_)], [.inl 0], S0_)) rfl ?_
      refine sm_T_rz rfl (by omega) ⟨_, _, rfl, rfl, _, rfl, ?_⟩
      first | exact ⟨Or.inr rfl, fun _ => ⟨by omega, by omega⟩⟩ | exact ⟨Or.inl rfl, fun q9_ => absurd q9_ (by decide)⟩
    · have cx6_ : ¬ ((i_shl 1 ((S0_.1 2 ii_ 1) + (S0_.1 2 ii_ 2))) ≤ a1_) := of_decide_eq_false cx6_
      refine sm_T_go 2 (c1 := (24, [some (.inr (.inr (some (2, ii_)))), some (.inl a1_)], [.inl 1], S0_)) rfl ?_
      refine sm_T_rz rfl (by omega) ⟨_, _, rfl, rfl, _, rfl, ?_⟩
      first | exact ⟨Or.inr rfl, fun _ => ⟨by omega, by omega⟩⟩ | exact ⟨Or.inl rfl, fun q9_ => absurd q9_ (by decide)⟩
end
/-! 99.zp7b -/
section
/-! ChipFlow.needPattern -/
def vw_269 : sx_Wl := ([], [], [])
def vq_269 (k_ : Int) (cc_ : Nat) (S0_ : sm_S) (u_ : Option sm_V) (S1_ : sm_S) : Prop := u_ = none ∧ gi S1_ ∧ ai_fr (sx_W vw_269) S0_ S1_ ∧ (S0_ = S1_ ∧ 0 ≤ k_ ∧ k_ < S0_.1 2 cc_ 15)
def vx_269 (k_ : Int) (cc_ : Nat) (S0_ : sm_S) (S1_ : sm_S) : Prop := gi S1_ ∧ ai_fr (sx_W vw_269) S0_ S1_ ∧ (S1_ = S0_)
set_option maxHeartbeats 400000 in
theorem vc_269 {sc_ : Nat × (Nat → Int)} (k_ : Int) (cc_ : Nat) (S0_ : sm_S) (hI_ : gi S0_)  : sm_T (mt_P sc_) 1 269 (0, [some (.inr (.inr (some (2, cc_)))), some (.inl k_)], [], S0_) (fun ro9_ => (∃ u_ S1_, ro9_ = (.inl u_, S1_, 0) ∧ vq_269 k_ cc_ S0_ u_ S1_) ∨ ∃ ex_ S1_, ro9_ = (.inr ex_, S1_, 1) ∧ ex_ ∈ ([0, 2] : List Nat) ∧ vx_269 k_ cc_ S0_ S1_) := by
  have hF_ : ai_fr (sx_W vw_269) S0_ S0_ := ai_fr_rf
  refine sm_T_go 1 (c1 := (1, [some (.inr (.inr (some (2, cc_)))), some (.inl k_)], [.inl k_], S0_)) rfl ?_
  refine sm_T_b0 (a := 2) (z := 23) rfl (fun cx1_ => ?_) (fun cx1_ => ?_)
  · have cx1_ : k_ < 0 := of_decide_eq_true cx1_
    refine sm_T_go 1 (c1 := (25, [some (.inr (.inr (some (2, cc_)))), some (.inl k_)], [.inl 0], S0_)) rfl ?_
    refine sm_T_cale (d1_ := 0) (Q1_ := vq_265e 0 S0_) (Q2_ := (fun ex_ S1_ => ex_ ∈ ([0] : List Nat) ∧ vx_265e 0 S0_ S1_)) rfl rfl (by decide) (vc_265e 0 S0_ hI_ ) rfl (fun xx7_ Sx2_ px5_ => ?_) (fun u_ Sx2_ px5_ => ?_)
    · obtain ⟨px5m, hIx3_, hFx4_, px5_⟩ := px5_
      refine Or.inr ⟨_, _, rfl, by first | exact px5m | (simp only [List.mem_cons, List.not_mem_nil, or_false] at px5m ⊢; omega), hIx3_, ai_fr_tr hF_ (fr_le hFx4_ rfl), ?_⟩
      exact px5_.2
    · exact absurd rfl px5_.2.2.2.1
  · have cx1_ : ¬ (k_ < 0) := of_decide_eq_false cx1_
    have bx8_ : (-1) ≤ S0_.1 2 cc_ 15 ∧ S0_.1 2 cc_ 15 ≤ 1224 := hI_.1 2 cc_ 15 rfl
    refine sm_T_go 3 (c1 := (9, [some (.inr (.inr (some (2, cc_)))), some (.inl k_)], [.inl (-1), .inl (S0_.1 2 cc_ 15)], S0_)) rfl ?_
    refine sm_T_br (a := 0) (z := 11) rfl (fun cx9_ => ?_) (fun cx9_ => ?_)
    · have cx9_ : (S0_.1 2 cc_ 15) = (-1) := of_decide_eq_true cx9_
      refine sm_T_go 2 (c1 := (25, [some (.inr (.inr (some (2, cc_)))), some (.inl k_)], [.inl 1], S0_)) rfl ?_
      refine sm_T_cale (d1_ := 0) (Q1_ := vq_265e 1 S0_) (Q2_ := (fun ex_ S1_ => ex_ ∈ ([0] : List Nat) ∧ vx_265e 1 S0_ S1_)) rfl rfl (by decide) (vc_265e 1 S0_ hI_ ) rfl (fun xx15_ Sx10_ px13_ => ?_) (fun u_ Sx10_ px13_ => ?_)
      · exact absurd px13_.2.2.2.1 (by decide)
      obtain ⟨rfl, -, -, px13_, rfl⟩ := px13_
      refine sm_T_go 3 (c1 := (33, [some (.inr (.inr (some (2, cc_)))), some (.inl k_)], [.inl (-1), .inl (S0_.1 2 cc_ 15)], S0_)) rfl ?_
      refine sm_T_br (a := 0) (z := 7) rfl (fun cx16_ => ?_) (fun cx16_ => ?_)
      · have cx16_ : (S0_.1 2 cc_ 15) = (-1) := of_decide_eq_true cx16_
        refine sm_T_go 1 (c1 := (41, [some (.inr (.inr (some (2, cc_)))), some (.inl k_)], [.inl 0], S0_)) rfl ?_
        refine sm_T_cale (d1_ := 0) (Q1_ := vq_267e 0 S0_) (Q2_ := (fun ex_ S1_ => ex_ ∈ ([2] : List Nat) ∧ vx_267e 0 S0_ S1_)) rfl rfl (by decide) (vc_267e 0 S0_ hI_ ) rfl (fun xx22_ Sx17_ px20_ => ?_) (fun u_ Sx17_ px20_ => ?_)
        · obtain ⟨px20m, hIx18_, hFx19_, px20_⟩ := px20_
          refine Or.inr ⟨_, _, rfl, by first | exact px20m | (simp only [List.mem_cons, List.not_mem_nil, or_false] at px20m ⊢; omega), hIx18_, ai_fr_tr hF_ (fr_le hFx19_ rfl), ?_⟩
          exact px20_.2
        · exact absurd rfl px20_.2.2.2.1
      · have cx16_ : ¬ ((S0_.1 2 cc_ 15) = (-1)) := of_decide_eq_false cx16_
        exfalso; omega
    · have cx9_ : ¬ ((S0_.1 2 cc_ 15) = (-1)) := of_decide_eq_false cx9_
      refine sm_T_go 3 (c1 := (17, [some (.inr (.inr (some (2, cc_)))), some (.inl k_)], [.inl (S0_.1 2 cc_ 15), .inl k_], S0_)) rfl ?_
      refine sm_T_br (a := 3) (z := 7) rfl (fun cx23_ => ?_) (fun cx23_ => ?_)
      · have cx23_ : (S0_.1 2 cc_ 15) ≤ k_ := of_decide_eq_true cx23_
        refine sm_T_go 1 (c1 := (25, [some (.inr (.inr (some (2, cc_)))), some (.inl k_)], [.inl 0], S0_)) rfl ?_
        refine sm_T_cale (d1_ := 0) (Q1_ := vq_265e 0 S0_) (Q2_ := (fun ex_ S1_ => ex_ ∈ ([0] : List Nat) ∧ vx_265e 0 S0_ S1_)) rfl rfl (by decide) (vc_265e 0 S0_ hI_ ) rfl (fun xx29_ Sx24_ px27_ => ?_) (fun u_ Sx24_ px27_ => ?_)
        · obtain ⟨px27m, hIx25_, hFx26_, px27_⟩ := px27_
          refine Or.inr ⟨_, _, rfl, by first | exact px27m | (simp only [List.mem_cons, List.not_mem_nil, or_false] at px27m ⊢; omega), hIx25_, ai_fr_tr hF_ (fr_le hFx26_ rfl), ?_⟩
          exact px27_.2
        · exact absurd rfl px27_.2.2.2.1
      · have cx23_ : ¬ ((S0_.1 2 cc_ 15) ≤ k_) := of_decide_eq_false cx23_
        refine sm_T_go 2 (c1 := (25, [some (.inr (.inr (some (2, cc_)))), some (.inl k_)], [.inl 1], S0_)) rfl ?_
        refine sm_T_cale (d1_ := 0) (Q1_ := vq_265e 1 S0_) (Q2_ := (fun ex_ S1_ => ex_ ∈ ([0] : List Nat) ∧ vx_265e 1 S0_ S1_)) rfl rfl (by decide) (vc_265e 1 S0_ hI_ ) rfl (fun xx35_ Sx30_ px33_ => ?_) (fun u_ Sx30_ px33_ => ?_)
        · exact absurd px33_.2.2.2.1 (by decide)
        obtain ⟨rfl, -, -, px33_, rfl⟩ := px33_
        refine sm_T_go 3 (c1 := (33, [some (.inr (.inr (some (2, cc_)))), some (.inl k_)], [.inl (-1), .inl (S0_.1 2 cc_ 15)], S0_)) rfl ?_
        refine sm_T_br (a := 0) (z := 7) rfl (fun cx36_ => ?_) (fun cx36_ => ?_)
        · have cx36_ : (S0_.1 2 cc_ 15) = (-1) := of_decide_eq_true cx36_
          refine sm_T_go 1 (c1 := (41, [some (.inr (.inr (some (2, cc_)))), some (.inl k_)], [.inl 0], S0_)) rfl ?_
          refine sm_T_cale (d1_ := 0) (Q1_ := vq_267e 0 S0_) (Q2_ := (fun ex_ S1_ => ex_ ∈ ([2] : List Nat) ∧ vx_267e 0 S0_ S1_)) rfl rfl (by decide) (vc_267e 0 S0_ hI_ ) rfl (fun xx42_ Sx37_ px40_ => ?_) (fun u_ Sx37_ px40_ => ?_)
          · obtain ⟨px40m, hIx38_, hFx39_, px40_⟩ := px40_
            refine Or.inr ⟨_, _, rfl, by first | exact px40m | (simp only [List.mem_cons, List.not_mem_nil, or_false] at px40m ⊢; omega), hIx38_, ai_fr_tr hF_ (fr_le hFx39_ rfl), ?_⟩
            exact px40_.2
          · exact absurd rfl px40_.2.2.2.1
        · have cx36_ : ¬ ((S0_.1 2 cc_ 15) = (-1)) := of_decide_eq_false cx36_
          refine sm_T_go 2 (c1 := (41, [some (.inr (.inr (some (2, cc_)))), some (.inl k_)], [.inl 1], S0_)) rfl ?_
          refine sm_T_cale (d1_ := 0) (Q1_ := vq_267e 1 S0_) (Q2_ := (fun ex_ S1_ => ex_ ∈ ([2] : List Nat) ∧ vx_267e 1 S0_ S1_)) rfl rfl (by decide) (vc_267e 1 S0_ hI_ ) rfl (fun xx48_ Sx43_ px46_ => ?_) (fun u_ Sx43_ px46_ => ?_)
          · exact absurd px46_.2.2.2.1 (by decide)
          obtain ⟨rfl, -, -, px46_, rfl⟩ := px46_
          refine sm_T_go 0 (c1 := (44, [some (.inr (.inr (some (2, cc_)))), some (.inl k_)], [], S0_)) rfl ?_
          refine sm_T_rv rfl (Or.inl ⟨_, _, rfl, rfl, hI_, hF_, ?_⟩)
          exact ⟨rfl, by omega, by omega⟩
end
/-! 99.zp7c -/
section
/-! ChipFlow.falsify -/
def vw_254 : sx_Wl := ([(0, 16), (2, 14)], [39], [])
def vq_254 (kk_ : Int) (n_ : Int) (e_ : Int) (S0_ : sm_S) (u_ : Option sm_V) (S1_ : sm_S) : Prop := ∃ v_ : Int, u_ = some (.inl v_) ∧ gi S1_ ∧ ai_fr (sx_W vw_254) S0_ S1_ ∧ (jC S1_)
def vx_254 (kk_ : Int) (n_ : Int) (e_ : Int) (S0_ : sm_S) (S1_ : sm_S) : Prop := gi S1_ ∧ ai_fr (sx_W vw_254) S0_ S1_ ∧ (S1_ = S0_)
set_option maxHeartbeats 400000 in
theorem vc_254 {sc_ : Nat × (Nat → Int)} (kk_ : Int) (n_ : Int) (e_ : Int) (S0_ : sm_S) (hI_ : gi S0_) (hJ_ : jC S0_) : sm_T (mt_P sc_) 2 254 (0, [some (.inr (.inr (some (12, 0)))), some (.inl kk_), some (.inl n_), some (.inl e_), none], [], S0_) (fun ro9_ => (∃ u_ S1_, ro9_ = (.inl u_, S1_, 0) ∧ vq_254 kk_ n_ e_ S0_ u_ S1_) ∨ ∃ ex_ S1_, ro9_ = (.inr ex_, S1_, 1) ∧ ex_ ∈ ([0, 3] : List Nat) ∧ vx_254 kk_ n_ e_ S0_ S1_) := by
  have hF_ : ai_fr (sx_W vw_254) S0_ S0_ := ai_fr_rf
  refine sm_T_go 2 (c1 := (2, [some (.inr (.inr (some (12, 0)))), some (.inl kk_), some (.inl n_), some (.inl e_), none], [.inl kk_, .inr (.inr (some (12, 0)))], S0_)) rfl ?_
  refine sm_T_cale (d1_ := 1) (Q1_ := vq_272 kk_ S0_) (Q2_ := (fun ex_ S1_ => ex_ ∈ ([0] : List Nat) ∧ vx_272 kk_ S0_ S1_)) rfl rfl (by decide) (vc_272 kk_ S0_ hI_ ) rfl (fun xx6_ Sx1_ px4_ => ?_) (fun u_ Sx1_ px4_ => ?_)
  · obtain ⟨px4m, hIx2_, hFx3_, px4_⟩ := px4_
    refine Or.inr ⟨_, _, rfl, by first | exact px4m | (simp only [List.mem_cons, List.not_mem_nil, or_false] at px4m ⊢; omega), hIx2_, ai_fr_tr hF_ (fr_le hFx3_ rfl), ?_⟩
    first | exact px4_.2 | exact px4_ | rfl
  obtain ⟨rfl, -, -, rfl, px4_⟩ := px4_
  have a9_ := px4_
  have J9_ := hJ_.2.1 kk_.toNat (by omega) a9_.2
  have J1_ := J9_.1
  have q9_ := a9_.2
  have c8_ : 0 ≤ S0_.1 2 (kk_.toNat) 8 ∧ S0_.1 2 (kk_.toNat) 8 ≤ 150 := hI_.1 2 (kk_.toNat) 8 rfl
  have c1_ : 0 ≤ S0_.1 2 (kk_.toNat) 1 ∧ S0_.1 2 (kk_.toNat) 1 ≤ 12 := hI_.1 2 (kk_.toNat) 1 rfl
  have c2_ : 0 ≤ S0_.1 2 (kk_.toNat) 2 ∧ S0_.1 2 (kk_.toNat) 2 ≤ 6 := hI_.1 2 (kk_.toNat) 2 rfl
  refine sm_T_go 2 (c1 := (8, [some (.inr (.inr (some (12, 0)))), some (.inl kk_), some (.inl n_), some (.inl e_), some (.inr (.inr (some (2, kk_.toNat))))], [.inl n_], S0_)) rfl ?_
  refine sm_T_b0 (a := 2) (z := 16) rfl (fun cx7_ => ?_) (fun cx7_ => ?_)
  · have cx7_ : n_ < 0 := of_decide_eq_true cx7_
    refine sm_T_go 1 (c1 := (25, [some (.inr (.inr (some (12, 0)))), some (.inl kk_), some (.inl n_), some (.inl e_), some (.inr (.inr (some (2, kk_.toNat))))], [.inl 0], S0_)) rfl ?_
    refine sm_T_cale (d1_ := 0) (Q1_ := vq_265e 0 S0_) (Q2_ := (fun ex_ S1_ => ex_ ∈ ([0] : List Nat) ∧ vx_265e 0 S0_ S1_)) rfl rfl (by decide) (vc_265e 0 S0_ hI_ ) rfl (fun xx13_ Sx8_ px11_ => ?_) (fun u_ Sx8_ px11_ => ?_)
    · obtain ⟨px11m, hIx9_, hFx10_, px11_⟩ := px11_
      refine Or.inr ⟨_, _, rfl, by first | exact px11m | (simp only [List.mem_cons, List.not_mem_nil, or_false] at px11m ⊢; omega), hIx9_, ai_fr_tr hF_ (fr_le hFx10_ rfl), ?_⟩
      first | exact px11_.2 | exact px11_ | rfl
    · exact absurd rfl px11_.2.2.2.1
  · have cx7_ : ¬ (n_ < 0) := of_decide_eq_false cx7_
    refine sm_T_go 2 (c1 := (14, [some (.inr (.inr (some (12, 0)))), some (.inl kk_), some (.inl n_), some (.inl e_), some (.inr (.inr (some (2, kk_.toNat))))], [.inr (.inr (some (2, kk_.toNat))), .inl n_], S0_)) rfl ?_
    refine sm_T_cal (d1 := 0) (Q1 := vq_54 kk_.toNat S0_) rfl rfl (by decide) (vc_54 kk_.toNat S0_ hI_ ) (fun u_ Sx14_ px17_ => ?_)
    obtain ⟨rfl, vx19_, rfl, px17_⟩ := px17_
    refine sm_T_br (a := 3) (z := 7) rfl (fun cx20_ => ?_) (fun cx20_ => ?_)
    · have cx20_ : vx19_ ≤ n_ := of_decide_eq_true cx20_
      refine sm_T_go 1 (c1 := (25, [some (.inr (.inr (some (12, 0)))), some (.inl kk_), some (.inl n_), some (.inl e_), some (.inr (.inr (some (2, kk_.toNat))))], [.inl 0], S0_)) rfl ?_
      refine sm_T_cale (d1_ := 0) (Q1_ := vq_265e 0 S0_) (Q2_ := (fun ex_ S1_ => ex_ ∈ ([0] : List Nat) ∧ vx_265e 0 S0_ S1_)) rfl rfl (by decide) (vc_265e 0 S0_ hI_ ) rfl (fun xx26_ Sx21_ px24_ => ?_) (fun u_ Sx21_ px24_ => ?_)
      · obtain ⟨px24m, hIx22_, hFx23_, px24_⟩ := px24_
        refine Or.inr ⟨_, _, rfl, by first | exact px24m | (simp only [List.mem_cons, List.not_mem_nil, or_false] at px24m ⊢; omega), hIx22_, ai_fr_tr hF_ (fr_le hFx23_ rfl), ?_⟩
        first | exact px24_.2 | exact px24_ | rfl
      · exact absurd rfl px24_.2.2.2.1
    · have cx20_ : ¬ (vx19_ ≤ n_) := of_decide_eq_false cx20_
      refine sm_T_go 2 (c1 := (25, [some (.inr (.inr (some (12, 0)))), some (.inl kk_), some (.inl n_), some (.inl e_), some (.inr (.inr (some (2, kk_.toNat))))], [.inl 1], S0_)) rfl ?_
      refine sm_T_cale (d1_ := 0) (Q1_ := vq_265e 1 S0_) (Q2_ := (fun ex_ S1_ => ex_ ∈ ([0] : List Nat) ∧ vx_265e 1 S0_ S1_)) rfl rfl (by decide) (vc_265e 1 S0_ hI_ ) rfl (fun xx32_ Sx27_ px30_ => ?_) (fun u_ Sx27_ px30_ => ?_)
      · exact absurd px30_.2.2.2.1 (by decide)
      obtain ⟨rfl, -, -, px30_, rfl⟩ := px30_
      refine sm_T_go 1 (c1 := (29, [some (.inr (.inr (some (12, 0)))), some (.inl kk_), some (.inl n_), some (.inl e_), some (.inr (.inr (some (2, kk_.toNat))))], [.inl e_], S0_)) rfl ?_
      refine sm_T_b0 (a := 2) (z := 25) rfl (fun cx33_ => ?_) (fun cx33_ => ?_)
      · have cx33_ : e_ < 0 := of_decide_eq_true cx33_
        refine sm_T_go 1 (c1 := (55, [some (.inr (.inr (some (12, 0)))), some (.inl kk_), some (.inl n_), some (.inl e_), some (.inr (.inr (some (2, kk_.toNat))))], [.inl 0], S0_)) rfl ?_
        refine sm_T_cale (d1_ := 0) (Q1_ := vq_265e 0 S0_) (Q2_ := (fun ex_ S1_ => ex_ ∈ ([0] : List Nat) ∧ vx_265e 0 S0_ S1_)) rfl rfl (by decide) (vc_265e 0 S0_ hI_ ) rfl (fun xx39_ Sx34_ px37_ => ?_) (fun u_ Sx34_ px37_ => ?_)
        · obtain ⟨px37m, hIx35_, hFx36_, px37_⟩ := px37_
          refine Or.inr ⟨_, _, rfl, by first | exact px37m | (simp only [List.mem_cons, List.not_mem_nil, or_false] at px37m ⊢; omega), hIx35_, ai_fr_tr hF_ (fr_le hFx36_ rfl), ?_⟩
          first | exact px37_.2 | exact px37_ | rfl
        · exact absurd rfl px37_.2.2.2.1
      · have cx33_ : ¬ (e_ < 0) := of_decide_eq_false cx33_
        refine sm_T_go 2 (c1 := (35, [some (.inr (.inr (some (12, 0)))), some (.inl kk_), some (.inl n_), some (.inl e_), some (.inr (.inr (some (2, kk_.toNat))))], [.inr (.inr (some (2, kk_.toNat))), .inl e_], S0_)) rfl ?_
        refine sm_T_cal (d1 := 0) (Q1 := vq_57 kk_.toNat S0_) rfl rfl (by decide) (vc_57 kk_.toNat S0_ hI_ ) (fun u_ Sx40_ px43_ => ?_)
        obtain ⟨rfl, vx45_, rfl, px43_⟩ := px43_
        refine sm_T_br (a := 3) (z := 16) rfl (fun cx46_ => ?_) (fun cx46_ => ?_)
        · have cx46_ : vx45_ ≤ e_ := of_decide_eq_true cx46_
          refine sm_T_go 1 (c1 := (55, [some (.inr (.inr (some (12, 0)))), some (.inl kk_), some (.inl n_), some (.inl e_), some (.inr (.inr (some (2, kk_.toNat))))], [.inl 0], S0_)) rfl ?_
          refine sm_T_cale (d1_ := 0) (Q1_ := vq_265e 0 S0_) (Q2_ := (fun ex_ S1_ => ex_ ∈ ([0] : List Nat) ∧ vx_265e 0 S0_ S1_)) rfl rfl (by decide) (vc_265e 0 S0_ hI_ ) rfl (fun xx52_ Sx47_ px50_ => ?_) (fun u_ Sx47_ px50_ => ?_)
          · obtain ⟨px50m, hIx48_, hFx49_, px50_⟩ := px50_
            refine Or.inr ⟨_, _, rfl, by first | exact px50m | (simp only [List.mem_cons, List.not_mem_nil, or_false] at px50m ⊢; omega), hIx48_, ai_fr_tr hF_ (fr_le hFx49_ rfl), ?_⟩
            first | exact px50_.2 | exact px50_ | rfl
          · exact absurd rfl px50_.2.2.2.1
        · have cx46_ : ¬ (vx45_ ≤ e_) := of_decide_eq_false cx46_
          refine sm_T_go 2 (c1 := (44, [some (.inr (.inr (some (12, 0)))), some (.inl kk_), some (.inl n_), some (.inl e_), some (.inr (.inr (some (2, kk_.toNat))))], [.inl e_, .inr (.inr (some (2, kk_.toNat)))], S0_)) rfl ?_
          refine sm_T_cal (d1 := 0) (Q1 := vq_58 e_ kk_.toNat S0_) rfl rfl (by decide) (vc_58 e_ kk_.toNat S0_ hI_ (by omega)) (fun u_ Sx53_ px56_ => ?_)
          obtain ⟨rfl, vx58_, rfl, px56_⟩ := px56_
          refine sm_T_b0 (a := 2) (z := 7) rfl (fun cx59_ => ?_) (fun cx59_ => ?_)
          · have cx59_ : vx58_ < 0 := of_decide_eq_true cx59_
            refine sm_T_go 1 (c1 := (55, [some (.inr (.inr (some (12, 0)))), some (.inl kk_), some (.inl n_), some (.inl e_), some (.inr (.inr (some (2, kk_.toNat))))], [.inl 0], S0_)) rfl ?_
            refine sm_T_cale (d1_ := 0) (Q1_ := vq_265e 0 S0_) (Q2_ := (fun ex_ S1_ => ex_ ∈ ([0] : List Nat) ∧ vx_265e 0 S0_ S1_)) rfl rfl (by decide) (vc_265e 0 S0_ hI_ ) rfl (fun xx65_ Sx60_ px63_ => ?_) (fun u_ Sx60_ px63_ => ?_)
            · obtain ⟨px63m, hIx61_, hFx62_, px63_⟩ := px63_
              refine Or.inr ⟨_, _, rfl, by first | exact px63m | (simp only [List.mem_cons, List.not_mem_nil, or_false] at px63m ⊢; omega), hIx61_, ai_fr_tr hF_ (fr_le hFx62_ rfl), ?_⟩
              first | exact px63_.2 | exact px63_ | rfl
            · exact absurd rfl px63_.2.2.2.1
          · have cx59_ : ¬ (vx58_ < 0) := of_decide_eq_false cx59_
            refine sm_T_go 2 (c1 := (55, [some (.inr (.inr (some (12, 0)))), some (.inl kk_), some (.inl n_), some (.inl e_), some (.inr (.inr (some (2, kk_.toNat))))], [.inl 1], S0_)) rfl ?_
            refine sm_T_cale (d1_ := 0) (Q1_ := vq_265e 1 S0_) (Q2_ := (fun ex_ S1_ => ex_ ∈ ([0] : List Nat) ∧ vx_265e 1 S0_ S1_)) rfl rfl (by decide) (vc_265e 1 S0_ hI_ ) rfl (fun xx71_ Sx66_ px69_ => ?_) (fun u_ Sx66_ px69_ => ?_)
            · exact absurd px69_.2.2.2.1 (by decide)
            obtain ⟨rfl, -, -, px69_, rfl⟩ := px69_
            refine sm_T_go 3 (c1 := (64, [some (.inr (.inr (some (12, 0)))), some (.inl kk_), some (.inl n_), some (.inl e_), some (.inr (.inr (some (2, kk_.toNat))))], [.inl n_, .inr (.inr (some (39, (0 + kk_.toNat))))], S0_)) rfl ?_
            refine sm_T_iald (n := 12) rfl rfl (by omega) (by omega) ?_
            have bx72_ : 0 ≤ S0_.2.2.1 39 (0 + kk_.toNat) n_.toNat ∧ S0_.2.2.1 39 (0 + kk_.toNat) n_.toNat ≤ 4194303 := hI_.2 39 (0 + kk_.toNat) _
            refine sm_T_go 1 (c1 := (66, [some (.inr (.inr (some (12, 0)))), some (.inl kk_), some (.inl n_), some (.inl e_), some (.inr (.inr (some (2, kk_.toNat))))], [.inl e_, .inl (S0_.2.2.1 39 (0 + kk_.toNat) n_.toNat)], S0_)) rfl ?_
            refine sm_T_bin (w := (i_shr (S0_.2.2.1 39 (0 + kk_.toNat) n_.toNat) e_)) rfl rfl ?_ -- pc_ 66
            have bx73_ := i_shr_p (x_ := (S0_.2.2.1 39 (0 + kk_.toNat) n_.toNat)) (e_ := e_) (by omega) (by omega) (by omega)
            refine sm_T_go 1 (c1 := (68, [some (.inr (.inr (some (12, 0)))), some (.inl kk_), some (.inl n_), some (.inl e_), some (.inr (.inr (some (2, kk_.toNat))))], [.inl 1, .inl (i_shr (S0_.2.2.1 39 (0 + kk_.toNat) n_.toNat) e_)], S0_)) rfl ?_
            refine sm_T_bin (w := ((i_shr (S0_.2.2.1 39 (0 + kk_.toNat) n_.toNat) e_) % 2)) rfl (bi_msk (k := 1) (by decide)) ?_ -- pc_ 68
            refine sm_T_b0 (a := 0) (z := 5) rfl (fun cx74_ => ?_) (fun cx74_ => ?_)
            · have cx74_ : ((i_shr (S0_.2.2.1 39 (0 + kk_.toNat) n_.toNat) e_) % 2) = 0 := of_decide_eq_true cx74_
              have bx75_ : 0 ≤ S0_.1 2 kk_.toNat 14 ∧ S0_.1 2 kk_.toNat 14 ≤ 40 := hI_.1 2 kk_.toNat 14 rfl
              refine sm_T_go 3 (c1 := (81, [some (.inr (.inr (some (12, 0)))), some (.inl kk_), some (.inl n_), some (.inl e_), some (.inr (.inr (some (2, kk_.toNat))))], [.inl 40, .inl (S0_.1 2 kk_.toNat 14)], S0_)) rfl ?_
              refine sm_T_br (a := 3) (z := 7) rfl (fun cx76_ => ?_) (fun cx76_ => ?_)
              · have cx76_ : 40 ≤ (S0_.1 2 kk_.toNat 14) := of_decide_eq_true cx76_
                refine sm_T_go 1 (c1 := (89, [some (.inr (.inr (some (12, 0)))), some (.inl kk_), some (.inl n_), some (.inl e_), some (.inr (.inr (some (2, kk_.toNat))))], [.inl 0], S0_)) rfl ?_
                refine sm_T_cale (d1_ := 0) (Q1_ := vq_268e 0 S0_) (Q2_ := (fun ex_ S1_ => ex_ ∈ ([3] : List Nat) ∧ vx_268e 0 S0_ S1_)) rfl rfl (by decide) (vc_268e 0 S0_ hI_ ) rfl (fun xx82_ Sx77_ px80_ => ?_) (fun u_ Sx77_ px80_ => ?_)
                · obtain ⟨px80m, hIx78_, hFx79_, px80_⟩ := px80_
                  refine Or.inr ⟨_, _, rfl, by first | exact px80m | (simp only [List.mem_cons, List.not_mem_nil, or_false] at px80m ⊢; omega), hIx78_, ai_fr_tr hF_ (fr_le hFx79_ rfl), ?_⟩
                  first | exact px80_.2 | exact px80_ | rfl
                · exact absurd rfl px80_.2.2.2.1
              · have cx76_ : ¬ (40 ≤ (S0_.1 2 kk_.toNat 14)) := of_decide_eq_false cx76_
                refine sm_T_go 2 (c1 := (89, [some (.inr (.inr (some (12, 0)))), some (.inl kk_), some (.inl n_), some (.inl e_), some (.inr (.inr (some (2, kk_.toNat))))], [.inl 1], S0_)) rfl ?_
                refine sm_T_cale (d1_ := 0) (Q1_ := vq_268e 1 S0_) (Q2_ := (fun ex_ S1_ => ex_ ∈ ([3] : List Nat) ∧ vx_268e 1 S0_ S1_)) rfl rfl (by decide) (vc_268e 1 S0_ hI_ ) rfl (fun xx88_ Sx83_ px86_ => ?_) (fun u_ Sx83_ px86_ => ?_)
                · exact absurd px86_.2.2.2.1 (by decide)
                obtain ⟨rfl, -, -, px86_, rfl⟩ := px86_
                refine sm_T_go 4 (c1 := (99, [some (.inr (.inr (some (12, 0)))), some (.inl kk_), some (.inl n_), some (.inl e_), some (.inr (.inr (some (2, kk_.toNat))))], [.inl n_, .inr (.inr (some (39, (0 + kk_.toNat)))), .inl n_, .inr (.inr (some (39, (0 + kk_.toNat))))], S0_)) rfl ?_
                refine sm_T_iald (n := 12) rfl rfl (by omega) (by omega) ?_
                refine sm_T_go 2 (c1 := (102, [some (.inr (.inr (some (12, 0)))), some (.inl kk_), some (.inl n_), some (.inl e_), some (.inr (.inr (some (2, kk_.toNat))))], [.inl e_, .inl 1, .inl (S0_.2.2.1 39 (0 + kk_.toNat) n_.toNat), .inl n_, .inr (.inr (some (39, (0 + kk_.toNat))))], S0_)) rfl ?_
                refine sm_T_bin (w := (i_shl 1 e_)) rfl rfl ?_ -- pc_ 102
                have bx89_ := bsh (x_ := 1) (e_ := e_) (k_ := 22) (by omega) (by omega) (by omega) (by decide)
                refine sm_T_bin (w := (i_or (S0_.2.2.1 39 (0 + kk_.toNat) n_.toNat) (i_shl 1 e_))) rfl rfl ?_ -- pc_ 103
                have bx90_ := i_orp (x_ := (S0_.2.2.1 39 (0 + kk_.toNat) n_.toNat)) (y_ := (i_shl 1 e_)) (k_ := 22) (by decide) (by omega) (by omega)
                refine sm_T_iast (n := 12) rfl rfl (by omega) (by omega) ?_
                have hIx91_ : gi (sm_aI S0_ 39 (0 + kk_.toNat) n_.toNat (i_or (S0_.2.2.1 39 (0 + kk_.toNat) n_.toNat) (i_shl 1 e_))) := gi_aI hI_ (show 0 ≤ (i_or (S0_.2.2.1 39 (0 + kk_.toNat) n_.toNat) (i_shl 1 e_)) ∧ (i_or (S0_.2.2.1 39 (0 + kk_.toNat) n_.toNat) (i_shl 1 e_)) ≤ 4194303 from ⟨by omega, by omega⟩)
                have hFx92_ : ai_fr (sx_W vw_254) S0_ (sm_aI S0_ 39 (0 + kk_.toNat) n_.toNat (i_or (S0_.2.2.1 39 (0 + kk_.toNat) n_.toNat) (i_shl 1 e_))) := ai_fr_tr hF_ (ai_fr_aI rfl)
                refine sm_T_go 4 (c1 := (112, [some (.inr (.inr (some (12, 0)))), some (.inl kk_), some (.inl n_), some (.inl e_), some (.inr (.inr (some (2, kk_.toNat))))], [.inl 1, .inl (S0_.1 2 kk_.toNat 14), .inr (.inr (some (2, kk_.toNat)))], sm_aI S0_ 39 (0 + kk_.toNat) n_.toNat (i_or (S0_.2.2.1 39 (0 + kk_.toNat) n_.toNat) (i_shl 1 e_)))) rfl ?_
                refine sm_T_bin (w := (S0_.1 2 kk_.toNat 14) + 1) rfl (bi_add (by omega) (by omega) (by omega)) ?_ -- pc_ 112
                have hIx93_ : gi (sm_pI (sm_aI S0_ 39 (0 + kk_.toNat) n_.toNat (i_or (S0_.2.2.1 39 (0 + kk_.toNat) n_.toNat) (i_shl 1 e_))) 2 kk_.toNat 14 ((S0_.1 2 kk_.toNat 14) + 1)) := gi_pI hIx91_ (show 0 ≤ (S0_.1 2 kk_.toNat 14) + 1 ∧ (S0_.1 2 kk_.toNat 14) + 1 ≤ 40 from ⟨by omega, by omega⟩)
                have hFx94_ : ai_fr (sx_W vw_254) S0_ (sm_pI (sm_aI S0_ 39 (0 + kk_.toNat) n_.toNat (i_or (S0_.2.2.1 39 (0 + kk_.toNat) n_.toNat) (i_shl 1 e_))) 2 kk_.toNat 14 ((S0_.1 2 kk_.toNat 14) + 1)) := ai_fr_tr hFx92_ (ai_fr_pI rfl)
                have bx95_ : (-2147483648) ≤ S0_.1 0 (0 + kk_.toNat) 16 ∧ S0_.1 0 (0 + kk_.toNat) 16 ≤ 2147483647 := hI_.1 0 (0 + kk_.toNat) 16 rfl
                refine sm_T_go 6 (c1 := (126, [some (.inr (.inr (some (12, 0)))), some (.inl kk_), some (.inl n_), some (.inl e_), some (.inr (.inr (some (2, kk_.toNat))))], [.inl 1, .inl (S0_.1 0 (0 + kk_.toNat) 16), .inr (.inr (some (0, (0 + kk_.toNat))))], sm_pI (sm_aI S0_ 39 (0 + kk_.toNat) n_.toNat (i_or (S0_.2.2.1 39 (0 + kk_.toNat) n_.toNat) (i_shl 1 e_))) 2 kk_.toNat 14 ((S0_.1 2 kk_.toNat 14) + 1))) rfl ?_
                refine sm_T_bin (w := (i_add (S0_.1 0 (0 + kk_.toNat) 16) 1)) rfl rfl ?_ -- pc_ 126
                have bx96_ := i_add_r (S0_.1 0 (0 + kk_.toNat) 16) 1
                have hIx97_ : gi (sm_pI (sm_pI (sm_aI S0_ 39 (0 + kk_.toNat) n_.toNat (i_or (S0_.2.2.1 39 (0 + kk_.toNat) n_.toNat) (i_shl 1 e_))) 2 kk_.toNat 14 ((S0_.1 2 kk_.toNat 14) + 1)) 0 (0 + kk_.toNat) 16 (i_add (S0_.1 0 (0 + kk_.toNat) 16) 1)) := gi_pI hIx93_ (show (-2147483648) ≤ (i_add (S0_.1 0 (0 + kk_.toNat) 16) 1) ∧ (i_add (S0_.1 0 (0 + kk_.toNat) 16) 1) ≤ 2147483647 from ⟨by omega, by omega⟩)
                have hFx98_ : ai_fr (sx_W vw_254) S0_ (sm_pI (sm_pI (sm_aI S0_ 39 (0 + kk_.toNat) n_.toNat (i_or (S0_.2.2.1 39 (0 + kk_.toNat) n_.toNat) (i_shl 1 e_))) 2 kk_.toNat 14 ((S0_.1 2 kk_.toNat 14) + 1)) 0 (0 + kk_.toNat) 16 (i_add (S0_.1 0 (0 + kk_.toNat) 16) 1)) := ai_fr_tr hFx94_ (ai_fr_pI rfl)
                refine sm_T_go 2 (c1 := (131, [some (.inr (.inr (some (12, 0)))), some (.inl kk_), some (.inl n_), some (.inl e_), some (.inr (.inr (some (2, kk_.toNat))))], [.inl 1], sm_pI (sm_pI (sm_aI S0_ 39 (0 + kk_.toNat) n_.toNat (i_or (S0_.2.2.1 39 (0 + kk_.toNat) n_.toNat) (i_shl 1 e_))) 2 kk_.toNat 14 ((S0_.1 2 kk_.toNat 14) + 1)) 0 (0 + kk_.toNat) 16 (i_add (S0_.1 0 (0 + kk_.toNat) 16) 1))) rfl ?_
                refine sm_T_rz rfl (by omega) (Or.inl ⟨_, _, rfl, _, rfl, hIx97_, hFx98_, ?_⟩)
                first | exact hJ_ | exact jC_fr hJ_ hFx98_ (by decide) (by decide) (by decide) (by decide) (by decide) rfl rfl rfl rfl rfl rfl
            · have cx74_ : ¬ (((i_shr (S0_.2.2.1 39 (0 + kk_.toNat) n_.toNat) e_) % 2) = 0) := of_decide_eq_false cx74_
              refine sm_T_go 1 (c1 := (73, [some (.inr (.inr (some (12, 0)))), some (.inl kk_), some (.inl n_), some (.inl e_), some (.inr (.inr (some (2, kk_.toNat))))], [.inl 0], S0_)) rfl ?_
              refine sm_T_rz rfl (by omega) (Or.inl ⟨_, _, rfl, _, rfl, hI_, hF_, ?_⟩)
              first | exact hJ_ | exact jC_fr hJ_ hF_ (by decide) (by decide) (by decide) (by decide) (by decide) rfl rfl rfl rfl rfl rfl
end
/-! 99.zp7d -/
section
/-! ChipFlow.pattern -/
def vw_261 : sx_Wl := ([], [], [])
def vq_261 (kk_ : Int) (k_ : Int) (S0_ : sm_S) (u_ : Option sm_V) (S1_ : sm_S) : Prop := ∃ v_ : Int, u_ = some (.inl v_) ∧ gi S1_ ∧ ai_fr (sx_W vw_261) S0_ S1_ ∧ (True)
def vx_261 (kk_ : Int) (k_ : Int) (S0_ : sm_S) (S1_ : sm_S) : Prop := gi S1_ ∧ ai_fr (sx_W vw_261) S0_ S1_ ∧ (S1_ = S0_)
set_option maxHeartbeats 400000 in
theorem vc_261 {sc_ : Nat × (Nat → Int)} (kk_ : Int) (k_ : Int) (S0_ : sm_S) (hI_ : gi S0_) (hJ_ : jC S0_) : sm_T (mt_P sc_) 2 261 (0, [some (.inr (.inr (some (12, 0)))), some (.inl kk_), some (.inl k_), none], [], S0_) (fun ro9_ => (∃ u_ S1_, ro9_ = (.inl u_, S1_, 0) ∧ vq_261 kk_ k_ S0_ u_ S1_) ∨ ∃ ex_ S1_, ro9_ = (.inr ex_, S1_, 1) ∧ ex_ ∈ ([0, 2] : List Nat) ∧ vx_261 kk_ k_ S0_ S1_) := by
  have hF_ : ai_fr (sx_W vw_261) S0_ S0_ := ai_fr_rf
  refine sm_T_go 2 (c1 := (2, [some (.inr (.inr (some (12, 0)))), some (.inl kk_), some (.inl k_), none], [.inl kk_, .inr (.inr (some (12, 0)))], S0_)) rfl ?_
  refine sm_T_cale (d1_ := 1) (Q1_ := vq_272 kk_ S0_) (Q2_ := (fun ex_ S1_ => ex_ ∈ ([0] : List Nat) ∧ vx_272 kk_ S0_ S1_)) rfl rfl (by decide) (vc_272 kk_ S0_ hI_ ) rfl (fun xx6_ Sx1_ px4_ => ?_) (fun u_ Sx1_ px4_ => ?_)
  · obtain ⟨px4m, hIx2_, hFx3_, px4_⟩ := px4_
    refine Or.inr ⟨_, _, rfl, by first | exact px4m | (simp only [List.mem_cons, List.not_mem_nil, or_false] at px4m ⊢; omega), hIx2_, ai_fr_tr hF_ (fr_le hFx3_ rfl), ?_⟩
    first | exact px4_.2 | exact px4_ | rfl
  obtain ⟨rfl, -, -, rfl, px4_⟩ := px4_
  have a9_ := px4_
  have J9_ := hJ_.2.1 kk_.toNat (by omega) a9_.2
  have J1_ := J9_.1
  have q9_ := a9_.2
  have c8_ : 0 ≤ S0_.1 2 (kk_.toNat) 8 ∧ S0_.1 2 (kk_.toNat) 8 ≤ 150 := hI_.1 2 (kk_.toNat) 8 rfl
  have c1_ : 0 ≤ S0_.1 2 (kk_.toNat) 1 ∧ S0_.1 2 (kk_.toNat) 1 ≤ 12 := hI_.1 2 (kk_.toNat) 1 rfl
  have c2_ : 0 ≤ S0_.1 2 (kk_.toNat) 2 ∧ S0_.1 2 (kk_.toNat) 2 ≤ 6 := hI_.1 2 (kk_.toNat) 2 rfl
  refine sm_T_go 3 (c1 := (8, [some (.inr (.inr (some (12, 0)))), some (.inl kk_), some (.inl k_), some (.inr (.inr (some (2, kk_.toNat))))], [.inl k_, .inr (.inr (some (2, kk_.toNat)))], S0_)) rfl ?_
  refine sm_T_cale (d1_ := 1) (Q1_ := vq_269 k_ kk_.toNat S0_) (Q2_ := (fun ex_ S1_ => ex_ ∈ ([0, 2] : List Nat) ∧ vx_269 k_ kk_.toNat S0_ S1_)) rfl rfl (by decide) (vc_269 k_ kk_.toNat S0_ hI_ ) rfl (fun xx12_ Sx7_ px10_ => ?_) (fun u_ Sx7_ px10_ => ?_)
  · obtain ⟨px10m, hIx8_, hFx9_, px10_⟩ := px10_
    refine Or.inr ⟨_, _, rfl, by first | exact px10m | (simp only [List.mem_cons, List.not_mem_nil, or_false] at px10m ⊢; omega), hIx8_, ai_fr_tr hF_ (fr_le hFx9_ rfl), ?_⟩
    first | exact px10_.2 | exact px10_ | rfl
  obtain ⟨rfl, -, -, rfl, px10_⟩ := px10_
  have n8_ := px10_
  have c15_ : (-1) ≤ S0_.1 2 (kk_.toNat) 15 ∧ S0_.1 2 (kk_.toNat) 15 ≤ 1224 := hI_.1 2 (kk_.toNat) 15 rfl
  refine sm_T_go 3 (c1 := (16, [some (.inr (.inr (some (12, 0)))), some (.inl kk_), some (.inl k_), some (.inr (.inr (some (2, kk_.toNat))))], [.inl k_, .inr (.inr (some (40, (0 + kk_.toNat))))], S0_)) rfl ?_
  refine sm_T_iald (n := 1224) rfl rfl (by omega) (by omega) ?_
  have bx13_ : 0 ≤ S0_.2.2.1 40 (0 + kk_.toNat) k_.toNat ∧ S0_.2.2.1 40 (0 + kk_.toNat) k_.toNat ≤ 4095 := hI_.2 40 (0 + kk_.toNat) _
  refine sm_T_ri rfl (Or.inl ⟨_, _, rfl, _, rfl, hI_, hF_, ?_⟩)
  trivial
end
/-! 99.zp7e -/
section
/-! ChipFlow.fails -/
def vw_262 : sx_Wl := ([], [41], [])
def vq_262 (kk_ : Int) (k_ : Int) (is_ : Int) (S0_ : sm_S) (u_ : Option sm_V) (S1_ : sm_S) : Prop := ∃ v_ : Int, u_ = some (.inl v_) ∧ gi S1_ ∧ ai_fr (sx_W vw_262) S0_ S1_ ∧ (jC S1_)
def vx_262 (kk_ : Int) (k_ : Int) (is_ : Int) (S0_ : sm_S) (S1_ : sm_S) : Prop := gi S1_ ∧ ai_fr (sx_W vw_262) S0_ S1_ ∧ (S1_ = S0_)
set_option maxHeartbeats 400000 in
theorem vc_262 {sc_ : Nat × (Nat → Int)} (kk_ : Int) (k_ : Int) (is_ : Int) (S0_ : sm_S) (hI_ : gi S0_) (hJ_ : jC S0_) : sm_T (mt_P sc_) 2 262 (0, [some (.inr (.inr (some (12, 0)))), some (.inl kk_), some (.inl k_), some (.inl is_), none, none], [], S0_) (fun ro9_ => (∃ u_ S1_, ro9_ = (.inl u_, S1_, 0) ∧ vq_262 kk_ k_ is_ S0_ u_ S1_) ∨ ∃ ex_ S1_, ro9_ = (.inr ex_, S1_, 1) ∧ ex_ ∈ ([0, 2] : List Nat) ∧ vx_262 kk_ k_ is_ S0_ S1_) := by
  have hF_ : ai_fr (sx_W vw_262) S0_ S0_ := ai_fr_rf
  refine sm_T_go 2 (c1 := (2, [some (.inr (.inr (some (12, 0)))), some (.inl kk_), some (.inl k_), some (.inl is_), none, none], [.inl kk_, .inr (.inr (some (12, 0)))], S0_)) rfl ?_
  refine sm_T_cale (d1_ := 1) (Q1_ := vq_272 kk_ S0_) (Q2_ := (fun ex_ S1_ => ex_ ∈ ([0] : List Nat) ∧ vx_272 kk_ S0_ S1_)) rfl rfl (by decide) (vc_272 kk_ S0_ hI_ ) rfl (fun xx6_ Sx1_ px4_ => ?_) (fun u_ Sx1_ px4_ => ?_)
  · obtain ⟨px4m, hIx2_, hFx3_, px4_⟩ := px4_
    refine Or.inr ⟨_, _, rfl, by first | exact px4m | (simp only [List.mem_cons, List.not_mem_nil, or_false] at px4m ⊢; omega), hIx2_, ai_fr_tr hF_ (fr_le hFx3_ rfl), ?_⟩
    first | exact px4_.2 | exact px4_ | rfl
  obtain ⟨rfl, -, -, rfl, px4_⟩ := px4_
  have a9_ := px4_
  have J9_ := hJ_.2.1 kk_.toNat (by omega) a9_.2
  have J1_ := J9_.1
  have q9_ := a9_.2
  have c8_ : 0 ≤ S0_.1 2 (kk_.toNat) 8 ∧ S0_.1 2 (kk_.toNat) 8 ≤ 150 := hI_.1 2 (kk_.toNat) 8 rfl
  have c1_ : 0 ≤ S0_.1 2 (kk_.toNat) 1 ∧ S0_.1 2 (kk_.toNat) 1 ≤ 12 := hI_.1 2 (kk_.toNat) 1 rfl
  have c2_ : 0 ≤ S0_.1 2 (kk_.toNat) 2 ∧ S0_.1 2 (kk_.toNat) 2 ≤ 6 := hI_.1 2 (kk_.toNat) 2 rfl
  refine sm_T_go 3 (c1 := (10, [some (.inr (.inr (some (12, 0)))), some (.inl kk_), some (.inl k_), some (.inl is_), some (.inr (.inr (some (2, kk_.toNat)))), none], [.inl k_, .inr (.inr (some (2, kk_.toNat)))], S0_)) rfl ?_
  refine sm_T_cale (d1_ := 1) (Q1_ := vq_269 k_ kk_.toNat S0_) (Q2_ := (fun ex_ S1_ => ex_ ∈ ([0, 2] : List Nat) ∧ vx_269 k_ kk_.toNat S0_ S1_)) rfl rfl (by decide) (vc_269 k_ kk_.toNat S0_ hI_ ) rfl (fun xx12_ Sx7_ px10_ => ?_) (fun u_ Sx7_ px10_ => ?_)
  · obtain ⟨px10m, hIx8_, hFx9_, px10_⟩ := px10_
    refine Or.inr ⟨_, _, rfl, by first | exact px10m | (simp only [List.mem_cons, List.not_mem_nil, or_false] at px10m ⊢; omega), hIx8_, ai_fr_tr hF_ (fr_le hFx9_ rfl), ?_⟩
    first | exact px10_.2 | exact px10_ | rfl
  obtain ⟨rfl, -, -, rfl, px10_⟩ := px10_
  have n10_ := px10_
  have c15_ : (-1) ≤ S0_.1 2 (kk_.toNat) 15 ∧ S0_.1 2 (kk_.toNat) 15 ≤ 1224 := hI_.1 2 (kk_.toNat) 15 rfl
  refine sm_T_go 3 (c1 := (19, [some (.inr (.inr (some (12, 0)))), some (.inl kk_), some (.inl k_), some (.inl is_), some (.inr (.inr (some (2, kk_.toNat)))), none], [.inl k_, .inr (.inr (some (41, (0 + kk_.toNat))))], S0_)) rfl ?_
  refine sm_T_iald (n := 1224) rfl rfl (by omega) (by omega) ?_
  have bx13_ : 0 ≤ S0_.2.2.1 41 (0 + kk_.toNat) k_.toNat ∧ S0_.2.2.1 41 (0 + kk_.toNat) k_.toNat ≤ 1 := hI_.2 41 (0 + kk_.toNat) _
  refine sm_T_b0 (a := 0) (z := 7) rfl (fun cx14_ => ?_) (fun cx14_ => ?_)
  · have cx14_ : (S0_.2.2.1 41 (0 + kk_.toNat) k_.toNat) = 0 := of_decide_eq_true cx14_
    refine sm_T_go 6 (c1 := (37, [some (.inr (.inr (some (12, 0)))), some (.inl kk_), some (.inl k_), some (.inl is_), some (.inr (.inr (some (2, kk_.toNat)))), some (.inl 0)], [.inl is_, .inl k_, .inr (.inr (some (41, (0 + kk_.toNat))))], S0_)) rfl ?_
    refine sm_T_b0 (a := 0) (z := 7) rfl (fun cx15_ => ?_) (fun cx15_ => ?_)
    · have cx15_ : is_ = 0 := of_decide_eq_true cx15_
      refine sm_T_go 1 (c1 := (45, [some (.inr (.inr (some (12, 0)))), some (.inl kk_), some (.inl k_), some (.inl is_), some (.inr (.inr (some (2, kk_.toNat)))), some (.inl 0)], [.inl 0, .inl k_, .inr (.inr (some (41, (0 + kk_.toNat))))], S0_)) rfl ?_
      refine sm_T_iast (n := 1224) rfl rfl (by omega) (by omega) ?_
      have hIx16_ : gi (sm_aI S0_ 41 (0 + kk_.toNat) k_.toNat 0) := gi_aI hI_ (show 0 ≤ 0 ∧ 0 ≤ 1 from ⟨by omega, by omega⟩)
      have hFx17_ : ai_fr (sx_W vw_262) S0_ (sm_aI S0_ 41 (0 + kk_.toNat) k_.toNat 0) := ai_fr_tr hF_ (ai_fr_aI rfl)
      refine sm_T_go 1 (c1 := (48, [some (.inr (.inr (some (12, 0)))), some (.inl kk_), some (.inl k_), some (.inl is_), some (.inr (.inr (some (2, kk_.toNat)))), some (.inl 0)], [.inl 0], sm_aI S0_ 41 (0 + kk_.toNat) k_.toNat 0)) rfl ?_
      refine sm_T_rz rfl (by omega) (Or.inl ⟨_, _, rfl, _, rfl, hIx16_, hFx17_, ?_⟩)
      exact jC_fr hJ_ hFx17_ (by decide) (by decide) (by decide) (by decide) (by decide) rfl rfl rfl rfl rfl rfl
    · have cx15_ : ¬ (is_ = 0) := of_decide_eq_false cx15_
      refine sm_T_go 2 (c1 := (45, [some (.inr (.inr (some (12, 0)))), some (.inl kk_), some (.inl k_), some (.inl is_), some (.inr (.inr (some (2, kk_.toNat)))), some (.inl 0)], [.inl 1, .inl k_, .inr (.inr (some (41, (0 + kk_.toNat))))], S0_)) rfl ?_
      refine sm_T_iast (n := 1224) rfl rfl (by omega) (by omega) ?_
      have hIx18_ : gi (sm_aI S0_ 41 (0 + kk_.toNat) k_.toNat 1) := gi_aI hI_ (show 0 ≤ 1 ∧ 1 ≤ 1 from ⟨by omega, by omega⟩)
      have hFx19_ : ai_fr (sx_W vw_262) S0_ (sm_aI S0_ 41 (0 + kk_.toNat) k_.toNat 1) := ai_fr_tr hF_ (ai_fr_aI rfl)
      refine sm_T_go 1 (c1 := (48, [some (.inr (.inr (some (12, 0)))), some (.inl kk_), some (.inl k_), some (.inl is_), some (.inr (.inr (some (2, kk_.toNat)))), some (.inl 0)], [.inl 0], sm_aI S0_ 41 (0 + kk_.toNat) k_.toNat 1)) rfl ?_
      refine sm_T_rz rfl (by omega) (Or.inl ⟨_, _, rfl, _, rfl, hIx18_, hFx19_, ?_⟩)
      exact jC_fr hJ_ hFx19_ (by decide) (by decide) (by decide) (by decide) (by decide) rfl rfl rfl rfl rfl rfl
  · have cx14_ : ¬ ((S0_.2.2.1 41 (0 + kk_.toNat) k_.toNat) = 0) := of_decide_eq_false cx14_
    refine sm_T_go 7 (c1 := (37, [some (.inr (.inr (some (12, 0)))), some (.inl kk_), some (.inl k_), some (.inl is_), some (.inr (.inr (some (2, kk_.toNat)))), some (.inl 1)], [.inl is_, .inl k_, .inr (.inr (some (41, (0 + kk_.toNat))))], S0_)) rfl ?_
    refine sm_T_b0 (a := 0) (z := 7) rfl (fun cx20_ => ?_) (fun cx20_ => ?_)
    · have cx20_ : is_ = 0 := of_decide_eq_true cx20_
      refine sm_T_go 1 (c1 := (45, [some (.inr (.inr (some (12, 0)))), some (.inl kk_), some (.inl k_), some (.inl is_), some (.inr (.inr (some (2, kk_.toNat)))), some (.inl 1)], [.inl 0, .inl k_, .inr (.inr (some (41, (0 + kk_.toNat))))], S0_)) rfl ?_
      refine sm_T_iast (n := 1224) rfl rfl (by omega) (by omega) ?_
      have hIx21_ : gi (sm_aI S0_ 41 (0 + kk_.toNat) k_.toNat 0) := gi_aI hI_ (show 0 ≤ 0 ∧ 0 ≤ 1 from ⟨by omega, by omega⟩)
      have hFx22_ : ai_fr (sx_W vw_262) S0_ (sm_aI S0_ 41 (0 + kk_.toNat) k_.toNat 0) := ai_fr_tr hF_ (ai_fr_aI rfl)
      refine sm_T_go 1 (c1 := (48, [some (.inr (.inr (some (12, 0)))), some (.inl kk_), some (.inl k_), some (.inl is_), some (.inr (.inr (some (2, kk_.toNat)))), some (.inl 1)], [.inl 1], sm_aI S0_ 41 (0 + kk_.toNat) k_.toNat 0)) rfl ?_
      refine sm_T_rz rfl (by omega) (Or.inl ⟨_, _, rfl, _, rfl, hIx21_, hFx22_, ?_⟩)
      exact jC_fr hJ_ hFx22_ (by decide) (by decide) (by decide) (by decide) (by decide) rfl rfl rfl rfl rfl rfl
    · have cx20_ : ¬ (is_ = 0) := of_decide_eq_false cx20_
      refine sm_T_go 2 (c1 := (45, [some (.inr (.inr (some (12, 0)))), some (.inl kk_), some (.inl k_), some (.inl is_), some (.inr (.inr (some (2, kk_.toNat)))), some (.inl 1)], [.inl 1, .inl k_, .inr (.inr (some (41, (0 + kk_.toNat))))], S0_)) rfl ?_
      refine sm_T_iast (n := 1224) rfl rfl (by omega) (by omega) ?_
      have hIx23_ : gi (sm_aI S0_ 41 (0 + kk_.toNat) k_.toNat 1) := gi_aI hI_ (show 0 ≤ 1 ∧ 1 ≤ 1 from ⟨by omega, by omega⟩)
      have hFx24_ : ai_fr (sx_W vw_262) S0_ (sm_aI S0_ 41 (0 + kk_.toNat) k_.toNat 1) := ai_fr_tr hF_ (ai_fr_aI rfl)
      refine sm_T_go 1 (c1 := (48, [some (.inr (.inr (some (12, 0)))), some (.inl kk_), some (.inl k_), some (.inl is_), some (.inr (.inr (some (2, kk_.toNat)))), some (.inl 1)], [.inl 1], sm_aI S0_ 41 (0 + kk_.toNat) k_.toNat 1)) rfl ?_
      refine sm_T_rz rfl (by omega) (Or.inl ⟨_, _, rfl, _, rfl, hIx23_, hFx24_, ?_⟩)
      exact jC_fr hJ_ hFx24_ (by decide) (by decide) (by decide) (by decide) (by decide) rfl rfl rfl rfl rfl rfl
end
/-! 99.zp8a -/
section
/-! the face of the class: waves; written by wip/p55/gen/vg -/
/-! ChipFlow.wave -/
def vw_256 : sx_Wl := ([(11, 13), (11, 14), (11, 15), (11, 16)], [99, 107, 108, 109], [(11, 12)])
def vq_256 (kk_ : Int) (a_ : Int) (b_ : Int) (n_ : Int) (t_ : Int) (S0_ : sm_S) (u_ : Option sm_V) (S1_ : sm_S) : Prop := ∃ v_ : Int, u_ = some (.inl v_) ∧ gi S1_ ∧ ai_fr (sx_W vw_256) S0_ S1_ ∧ (jC S1_)
def vx_256 (kk_ : Int) (a_ : Int) (b_ : Int) (n_ : Int) (t_ : Int) (S0_ : sm_S) (S1_ : sm_S) : Prop := gi S1_ ∧ ai_fr (sx_W vw_256) S0_ S1_ ∧ (jC S1_)
set_option maxHeartbeats 400000 in
theorem vc_256 {sc_ : Nat × (Nat → Int)} (kk_ : Int) (a_ : Int) (b_ : Int) (n_ : Int) (t_ : Int) (S0_ : sm_S) (hI_ : gi S0_) (hJ_ : jC S0_) : sm_T (mt_P sc_) 3 256 (0, [some (.inr (.inr (some (12, 0)))), some (.inl kk_), some (.inl a_), some (.inl b_), some (.inl n_), some (.inl t_), none], [], S0_) (fun ro9_ => (∃ u_ S1_, ro9_ = (.inl u_, S1_, 0) ∧ vq_256 kk_ a_ b_ n_ t_ S0_ u_ S1_) ∨ ∃ ex_ S1_, ro9_ = (.inr ex_, S1_, 1) ∧ ex_ ∈ ([0, 1, 3] : List Nat) ∧ vx_256 kk_ a_ b_ n_ t_ S0_ S1_) := by
  have hF_ : ai_fr (sx_W vw_256) S0_ S0_ := ai_fr_rf
  refine sm_T_go 2 (c1 := (2, [some (.inr (.inr (some (12, 0)))), some (.inl kk_), some (.inl a_), some (.inl b_), some (.inl n_), some (.inl t_), none], [.inl kk_, .inr (.inr (some (12, 0)))], S0_)) rfl ?_
  refine sm_T_cale (d1_ := 1) (Q1_ := vq_272 kk_ S0_) (Q2_ := (fun ex_ S1_ => ex_ ∈ ([0] : List Nat) ∧ vx_272 kk_ S0_ S1_)) rfl rfl (by decide) (vc_272 kk_ S0_ hI_ ) rfl (fun xx6_ Sx1_ px4_ => ?_) (fun u_ Sx1_ px4_ => ?_)
  · obtain ⟨px4m, hIx2_, hFx3_, px4_⟩ := px4_
    refine Or.inr ⟨_, _, rfl, by first | exact px4m | (simp only [List.mem_cons, List.not_mem_nil, or_false] at px4m ⊢; omega), hIx2_, ai_fr_tr hF_ (fr_le hFx3_ rfl), ?_⟩
    first | (rw [px4_.2]; exact hJ_) | (rw [px4_]; exact hJ_)
  obtain ⟨rfl, -, -, rfl, px4_⟩ := px4_
  have a9_ := px4_
  have J9_ := hJ_.2.1 kk_.toNat (by omega) a9_.2
  have J1_ := J9_.1
  have q9_ := a9_.2
  have c8_ : 0 ≤ S0_.1 2 (kk_.toNat) 8 ∧ S0_.1 2 (kk_.toNat) 8 ≤ 150 := hI_.1 2 (kk_.toNat) 8 rfl
  have c1_ : 0 ≤ S0_.1 2 (kk_.toNat) 1 ∧ S0_.1 2 (kk_.toNat) 1 ≤ 12 := hI_.1 2 (kk_.toNat) 1 rfl
  have c2_ : 0 ≤ S0_.1 2 (kk_.toNat) 2 ∧ S0_.1 2 (kk_.toNat) 2 ≤ 6 := hI_.1 2 (kk_.toNat) 2 rfl
  refine sm_T_go 2 (c1 := (9, [some (.inr (.inr (some (12, 0)))), some (.inl kk_), some (.inl a_), some (.inl b_), some (.inl n_), some (.inl t_), some (.inr (.inr (some (2, kk_.toNat))))], [.inl n_], S0_)) rfl ?_
  refine sm_T_b0 (a := 2) (z := 17) rfl (fun cx7_ => ?_) (fun cx7_ => ?_)
  · have cx7_ : n_ < 0 := of_decide_eq_true cx7_
    refine sm_T_go 1 (c1 := (27, [some (.inr (.inr (some (12, 0)))), some (.inl kk_), some (.inl a_), some (.inl b_), some (.inl n_), some (.inl t_), some (.inr (.inr (some (2, kk_.toNat))))], [.inl 0], S0_)) rfl ?_
    refine sm_T_cale (d1_ := 0) (Q1_ := vq_265e 0 S0_) (Q2_ := (fun ex_ S1_ => ex_ ∈ ([0] : List Nat) ∧ vx_265e 0 S0_ S1_)) rfl rfl (by decide) (vc_265e 0 S0_ hI_ ) rfl (fun xx13_ Sx8_ px11_ => ?_) (fun u_ Sx8_ px11_ => ?_)
    · obtain ⟨px11m, hIx9_, hFx10_, px11_⟩ := px11_
      refine Or.inr ⟨_, _, rfl, by first | exact px11m | (simp only [List.mem_cons, List.not_mem_nil, or_false] at px11m ⊢; omega), hIx9_, ai_fr_tr hF_ (fr_le hFx10_ rfl), ?_⟩
      first | (rw [px11_.2]; exact hJ_) | (rw [px11_]; exact hJ_)
    · exact absurd rfl px11_.2.2.2.1
  · have cx7_ : ¬ (n_ < 0) := of_decide_eq_false cx7_
    refine sm_T_go 2 (c1 := (16, [some (.inr (.inr (some (12, 0)))), some (.inl kk_), some (.inl a_), some (.inl b_), some (.inl n_), some (.inl t_), some (.inr (.inr (some (2, kk_.toNat))))], [.inr (.inr (some (2, kk_.toNat))), .inl n_], S0_)) rfl ?_
    refine sm_T_cal (d1 := 0) (Q1 := vq_55 kk_.toNat S0_) rfl rfl (by decide) (vc_55 kk_.toNat S0_ hI_ ) (fun u_ Sx14_ px17_ => ?_)
    obtain ⟨rfl, vx19_, rfl, px17_⟩ := px17_
    refine sm_T_br (a := 3) (z := 7) rfl (fun cx20_ => ?_) (fun cx20_ => ?_)
    · have cx20_ : vx19_ ≤ n_ := of_decide_eq_true cx20_
      refine sm_T_go 1 (c1 := (27, [some (.inr (.inr (some (12, 0)))), some (.inl kk_), some (.inl a_), some (.inl b_), some (.inl n_), some (.inl t_), some (.inr (.inr (some (2, kk_.toNat))))], [.inl 0], S0_)) rfl ?_
      refine sm_T_cale (d1_ := 0) (Q1_ := vq_265e 0 S0_) (Q2_ := (fun ex_ S1_ => ex_ ∈ ([0] : List Nat) ∧ vx_265e 0 S0_ S1_)) rfl rfl (by decide) (vc_265e 0 S0_ hI_ ) rfl (fun xx26_ Sx21_ px24_ => ?_) (fun u_ Sx21_ px24_ => ?_)
      · obtain ⟨px24m, hIx22_, hFx23_, px24_⟩ := px24_
        refine Or.inr ⟨_, _, rfl, by first | exact px24m | (simp only [List.mem_cons, List.not_mem_nil, or_false] at px24m ⊢; omega), hIx22_, ai_fr_tr hF_ (fr_le hFx23_ rfl), ?_⟩
        first | (rw [px24_.2]; exact hJ_) | (rw [px24_]; exact hJ_)
      · exact absurd rfl px24_.2.2.2.1
    · have cx20_ : ¬ (vx19_ ≤ n_) := of_decide_eq_false cx20_
      refine sm_T_go 2 (c1 := (27, [some (.inr (.inr (some (12, 0)))), some (.inl kk_), some (.inl a_), some (.inl b_), some (.inl n_), some (.inl t_), some (.inr (.inr (some (2, kk_.toNat))))], [.inl 1], S0_)) rfl ?_
      refine sm_T_cale (d1_ := 0) (Q1_ := vq_265e 1 S0_) (Q2_ := (fun ex_ S1_ => ex_ ∈ ([0] : List Nat) ∧ vx_265e 1 S0_ S1_)) rfl rfl (by decide) (vc_265e 1 S0_ hI_ ) rfl (fun xx32_ Sx27_ px30_ => ?_) (fun u_ Sx27_ px30_ => ?_)
      · exact absurd px30_.2.2.2.1 (by decide)
      obtain ⟨rfl, -, -, px30_, rfl⟩ := px30_
      refine sm_T_go 2 (c1 := (33, [some (.inr (.inr (some (12, 0)))), some (.inl kk_), some (.inl a_), some (.inl b_), some (.inl n_), some (.inl t_), some (.inr (.inr (some (2, kk_.toNat))))], [.inl a_, .inr (.inr (some (2, kk_.toNat)))], S0_)) rfl ?_
      refine sm_T_cal (d1 := 0) (Q1 := vq_61p a_ kk_.toNat S0_) rfl rfl (by decide) (vc_61p a_ kk_.toNat S0_ hI_ (by omega)) (fun u_ Sx33_ px36_ => ?_)
      obtain ⟨rfl, vx38_, rfl, px36_⟩ := px36_
      have m33_ := px36_.2
      have n33_ := px36_.1
      refine sm_T_b0 (a := 0) (z := 16) rfl (fun cx39_ => ?_) (fun cx39_ => ?_)
      · have cx39_ : vx38_ = 0 := of_decide_eq_true cx39_
        refine sm_T_go 1 (c1 := (53, [some (.inr (.inr (some (12, 0)))), some (.inl kk_), some (.inl a_), some (.inl b_), some (.inl n_), some (.inl t_), some (.inr (.inr (some (2, kk_.toNat))))], [.inl 0], S0_)) rfl ?_
        refine sm_T_cale (d1_ := 0) (Q1_ := vq_266e 0 S0_) (Q2_ := (fun ex_ S1_ => ex_ ∈ ([1] : List Nat) ∧ vx_266e 0 S0_ S1_)) rfl rfl (by decide) (vc_266e 0 S0_ hI_ ) rfl (fun xx45_ Sx40_ px43_ => ?_) (fun u_ Sx40_ px43_ => ?_)
        · obtain ⟨px43m, hIx41_, hFx42_, px43_⟩ := px43_
          refine Or.inr ⟨_, _, rfl, by first | exact px43m | (simp only [List.mem_cons, List.not_mem_nil, or_false] at px43m ⊢; omega), hIx41_, ai_fr_tr hF_ (fr_le hFx42_ rfl), ?_⟩
          first | (rw [px43_.2]; exact hJ_) | (rw [px43_]; exact hJ_)
        · exact absurd rfl px43_.2.2.2.1
      · have cx39_ : ¬ (vx38_ = 0) := of_decide_eq_false cx39_
        have o33_ := m33_ (by omega)
        refine sm_T_go 2 (c1 := (42, [some (.inr (.inr (some (12, 0)))), some (.inl kk_), some (.inl a_), some (.inl b_), some (.inl n_), some (.inl t_), some (.inr (.inr (some (2, kk_.toNat))))], [.inl b_, .inr (.inr (some (2, kk_.toNat)))], S0_)) rfl ?_
        refine sm_T_cal (d1 := 0) (Q1 := vq_61p b_ kk_.toNat S0_) rfl rfl (by decide) (vc_61p b_ kk_.toNat S0_ hI_ (by omega)) (fun u_ Sx46_ px49_ => ?_)
        obtain ⟨rfl, vx51_, rfl, px49_⟩ := px49_
        have m42_ := px49_.2
        have n42_ := px49_.1
        refine sm_T_b0 (a := 0) (z := 7) rfl (fun cx52_ => ?_) (fun cx52_ => ?_)
        · have cx52_ : vx51_ = 0 := of_decide_eq_true cx52_
          refine sm_T_go 1 (c1 := (53, [some (.inr (.inr (some (12, 0)))), some (.inl kk_), some (.inl a_), some (.inl b_), some (.inl n_), some (.inl t_), some (.inr (.inr (some (2, kk_.toNat))))], [.inl 0], S0_)) rfl ?_
          refine sm_T_cale (d1_ := 0) (Q1_ := vq_266e 0 S0_) (Q2_ := (fun ex_ S1_ => ex_ ∈ ([1] : List Nat) ∧ vx_266e 0 S0_ S1_)) rfl rfl (by decide) (vc_266e 0 S0_ hI_ ) rfl (fun xx58_ Sx53_ px56_ => ?_) (fun u_ Sx53_ px56_ => ?_)
          · obtain ⟨px56m, hIx54_, hFx55_, px56_⟩ := px56_
            refine Or.inr ⟨_, _, rfl, by first | exact px56m | (simp only [List.mem_cons, List.not_mem_nil, or_false] at px56m ⊢; omega), hIx54_, ai_fr_tr hF_ (fr_le hFx55_ rfl), ?_⟩
            first | (rw [px56_.2]; exact hJ_) | (rw [px56_]; exact hJ_)
          · exact absurd rfl px56_.2.2.2.1
        · have cx52_ : ¬ (vx51_ = 0) := of_decide_eq_false cx52_
          have o42_ := m42_ (by omega)
          refine sm_T_go 2 (c1 := (53, [some (.inr (.inr (some (12, 0)))), some (.inl kk_), some (.inl a_), some (.inl b_), some (.inl n_), some (.inl t_), some (.inr (.inr (some (2, kk_.toNat))))], [.inl 1], S0_)) rfl ?_
          refine sm_T_cale (d1_ := 0) (Q1_ := vq_266e 1 S0_) (Q2_ := (fun ex_ S1_ => ex_ ∈ ([1] : List Nat) ∧ vx_266e 1 S0_ S1_)) rfl rfl (by decide) (vc_266e 1 S0_ hI_ ) rfl (fun xx64_ Sx59_ px62_ => ?_) (fun u_ Sx59_ px62_ => ?_)
          · exact absurd px62_.2.2.2.1 (by decide)
          obtain ⟨rfl, -, -, px62_, rfl⟩ := px62_
          refine sm_T_go 2 (c1 := (59, [some (.inr (.inr (some (12, 0)))), some (.inl kk_), some (.inl a_), some (.inl b_), some (.inl n_), some (.inl t_), some (.inr (.inr (some (2, kk_.toNat))))], [.inl (-1), .inl t_], S0_)) rfl ?_
          refine sm_T_br (a := 2) (z := 15) rfl (fun cx65_ => ?_) (fun cx65_ => ?_)
          · have cx65_ : t_ < (-1) := of_decide_eq_true cx65_
            refine sm_T_go 1 (c1 := (75, [some (.inr (.inr (some (12, 0)))), some (.inl kk_), some (.inl a_), some (.inl b_), some (.inl n_), some (.inl t_), some (.inr (.inr (some (2, kk_.toNat))))], [.inl 0], S0_)) rfl ?_
            refine sm_T_cale (d1_ := 0) (Q1_ := vq_266e 0 S0_) (Q2_ := (fun ex_ S1_ => ex_ ∈ ([1] : List Nat) ∧ vx_266e 0 S0_ S1_)) rfl rfl (by decide) (vc_266e 0 S0_ hI_ ) rfl (fun xx71_ Sx66_ px69_ => ?_) (fun u_ Sx66_ px69_ => ?_)
            · obtain ⟨px69m, hIx67_, hFx68_, px69_⟩ := px69_
              refine Or.inr ⟨_, _, rfl, by first | exact px69m | (simp only [List.mem_cons, List.not_mem_nil, or_false] at px69m ⊢; omega), hIx67_, ai_fr_tr hF_ (fr_le hFx68_ rfl), ?_⟩
              first | (rw [px69_.2]; exact hJ_) | (rw [px69_]; exact hJ_)
            · exact absurd rfl px69_.2.2.2.1
          · have cx65_ : ¬ (t_ < (-1)) := of_decide_eq_false cx65_
            refine sm_T_go 1 (c1 := (64, [some (.inr (.inr (some (12, 0)))), some (.inl kk_), some (.inl a_), some (.inl b_), some (.inl n_), some (.inl t_), some (.inr (.inr (some (2, kk_.toNat))))], [.inl t_], S0_)) rfl ?_
            refine sm_T_nt (u := some (.inl 100000)) (S1 := S0_) rfl rfl rfl ?_
            refine sm_T_br (a := 4) (z := 7) rfl (fun cx72_ => ?_) (fun cx72_ => ?_)
            · have cx72_ : 100000 < t_ := of_decide_eq_true cx72_
              refine sm_T_go 1 (c1 := (75, [some (.inr (.inr (some (12, 0)))), some (.inl kk_), some (.inl a_), some (.inl b_), some (.inl n_), some (.inl t_), some (.inr (.inr (some (2, kk_.toNat))))], [.inl 0], S0_)) rfl ?_
              refine sm_T_cale (d1_ := 0) (Q1_ := vq_266e 0 S0_) (Q2_ := (fun ex_ S1_ => ex_ ∈ ([1] : List Nat) ∧ vx_266e 0 S0_ S1_)) rfl rfl (by decide) (vc_266e 0 S0_ hI_ ) rfl (fun xx78_ Sx73_ px76_ => ?_) (fun u_ Sx73_ px76_ => ?_)
              · obtain ⟨px76m, hIx74_, hFx75_, px76_⟩ := px76_
                refine Or.inr ⟨_, _, rfl, by first | exact px76m | (simp only [List.mem_cons, List.not_mem_nil, or_false] at px76m ⊢; omega), hIx74_, ai_fr_tr hF_ (fr_le hFx75_ rfl), ?_⟩
                first | (rw [px76_.2]; exact hJ_) | (rw [px76_]; exact hJ_)
              · exact absurd rfl px76_.2.2.2.1
            · have cx72_ : ¬ (100000 < t_) := of_decide_eq_false cx72_
              refine sm_T_go 2 (c1 := (75, [some (.inr (.inr (some (12, 0)))), some (.inl kk_), some (.inl a_), some (.inl b_), some (.inl n_), some (.inl t_), some (.inr (.inr (some (2, kk_.toNat))))], [.inl 1], S0_)) rfl ?_
              refine sm_T_cale (d1_ := 0) (Q1_ := vq_266e 1 S0_) (Q2_ := (fun ex_ S1_ => ex_ ∈ ([1] : List Nat) ∧ vx_266e 1 S0_ S1_)) rfl rfl (by decide) (vc_266e 1 S0_ hI_ ) rfl (fun xx84_ Sx79_ px82_ => ?_) (fun u_ Sx79_ px82_ => ?_)
              · exact absurd px82_.2.2.2.1 (by decide)
              obtain ⟨rfl, -, -, px82_, rfl⟩ := px82_
              refine sm_T_go 5 (c1 := (86, [some (.inr (.inr (some (12, 0)))), some (.inl kk_), some (.inl a_), some (.inl b_), some (.inl n_), some (.inl t_), some (.inr (.inr (some (2, kk_.toNat))))], [.inl b_, .inl a_, .inr (.inr (some (2, kk_.toNat))), .inr (.inr (some (11, 0)))], S0_)) rfl ?_
              refine sm_T_cal (d1 := 2) (Q1 := vq_205 a_ b_ kk_.toNat S0_) rfl rfl (by decide) (vc_205 a_ b_ kk_.toNat S0_ hI_ (by omega) (by omega) (by omega)) (fun u_ Sx85_ px88_ => ?_)
              obtain ⟨rfl, hIx86_, hFx87_, px88_⟩ := px88_
              have hFx89_ : ai_fr (sx_W vw_256) S0_ Sx85_ := ai_fr_tr hF_ (fr_le hFx87_ rfl)
              have J8_ := jC_fr hJ_ hFx89_ (by decide) (by decide) (by decide) (by decide) (by decide) rfl rfl rfl rfl rfl rfl
              have y1_ := hFx87_.1 2 kk_.toNat 1 rfl
              have y2_ := hFx87_.1 2 kk_.toNat 2 rfl
              have y8_ := hFx87_.1 2 kk_.toNat 8 rfl
              have bx90_ : 0 ≤ Sx85_.1 11 0 16 ∧ Sx85_.1 11 0 16 ≤ 1 := hIx86_.1 11 0 16 rfl
              refine sm_T_go 3 (c1 := (96, [some (.inr (.inr (some (12, 0)))), some (.inl kk_), some (.inl a_), some (.inl b_), some (.inl n_), some (.inl t_), some (.inr (.inr (some (2, kk_.toNat))))], [.inl (Sx85_.1 11 0 16)], Sx85_)) rfl ?_
              refine sm_T_b0 (a := 1) (z := 7) rfl (fun cx91_ => ?_) (fun cx91_ => ?_)
              · have cx91_ : (Sx85_.1 11 0 16) ≠ 0 := of_decide_eq_true cx91_
                refine sm_T_go 1 (c1 := (104, [some (.inr (.inr (some (12, 0)))), some (.inl kk_), some (.inl a_), some (.inl b_), some (.inl n_), some (.inl t_), some (.inr (.inr (some (2, kk_.toNat))))], [.inl 0], Sx85_)) rfl ?_
                refine sm_T_cale (d1_ := 0) (Q1_ := vq_268e 0 Sx85_) (Q2_ := (fun ex_ S1_ => ex_ ∈ ([3] : List Nat) ∧ vx_268e 0 Sx85_ S1_)) rfl rfl (by decide) (vc_268e 0 Sx85_ hIx86_ ) rfl (fun xx97_ Sx92_ px95_ => ?_) (fun u_ Sx92_ px95_ => ?_)
                · obtain ⟨px95m, hIx93_, hFx94_, px95_⟩ := px95_
                  refine Or.inr ⟨_, _, rfl, by first | exact px95m | (simp only [List.mem_cons, List.not_mem_nil, or_false] at px95m ⊢; omega), hIx93_, ai_fr_tr hFx89_ (fr_le hFx94_ rfl), ?_⟩
                  rw [px95_.2]; exact J8_
                · exact absurd rfl px95_.2.2.2.1
              · have cx91_ : ¬ ((Sx85_.1 11 0 16) ≠ 0) := of_decide_eq_false cx91_
                refine sm_T_go 2 (c1 := (104, [some (.inr (.inr (some (12, 0)))), some (.inl kk_), some (.inl a_), some (.inl b_), some (.inl n_), some (.inl t_), some (.inr (.inr (some (2, kk_.toNat))))], [.inl 1], Sx85_)) rfl ?_
                refine sm_T_cale (d1_ := 0) (Q1_ := vq_268e 1 Sx85_) (Q2_ := (fun ex_ S1_ => ex_ ∈ ([3] : List Nat) ∧ vx_268e 1 Sx85_ S1_)) rfl rfl (by decide) (vc_268e 1 Sx85_ hIx86_ ) rfl (fun xx103_ Sx98_ px101_ => ?_) (fun u_ Sx98_ px101_ => ?_)
                · exact absurd px101_.2.2.2.1 (by decide)
                obtain ⟨rfl, -, -, px101_, rfl⟩ := px101_
                refine sm_T_go 4 (c1 := (115, [some (.inr (.inr (some (12, 0)))), some (.inl kk_), some (.inl a_), some (.inl b_), some (.inl n_), some (.inl t_), some (.inr (.inr (some (2, kk_.toNat))))], [.inl t_, .inl n_, .inr (.inr (some (11, 0)))], Sx85_)) rfl ?_
                refine sm_T_cal (d1 := 0) (Q1 := vq_209 n_ t_ Sx85_) rfl rfl (by decide) (vc_209 n_ t_ Sx85_ hIx86_ (by omega)) (fun u_ Sx104_ px107_ => ?_)
                obtain ⟨rfl, vx109_, rfl, px107_⟩ := px107_
                refine sm_T_ri rfl (Or.inl ⟨_, _, rfl, _, rfl, hIx86_, hFx89_, ?_⟩)
                exact J8_
end
/-! 99.zp8b -/
section
/-! ChipFlow.changes -/
def vw_257 : sx_Wl := ([(11, 13), (11, 14), (11, 15), (11, 16)], [99, 107, 108, 109], [(11, 12)])
def vq_257 (kk_ : Int) (a_ : Int) (b_ : Int) (n_ : Int) (S0_ : sm_S) (u_ : Option sm_V) (S1_ : sm_S) : Prop := ∃ v_ : Int, u_ = some (.inl v_) ∧ gi S1_ ∧ ai_fr (sx_W vw_257) S0_ S1_ ∧ (jC S1_)
def vx_257 (kk_ : Int) (a_ : Int) (b_ : Int) (n_ : Int) (S0_ : sm_S) (S1_ : sm_S) : Prop := gi S1_ ∧ ai_fr (sx_W vw_257) S0_ S1_ ∧ (jC S1_)
set_option maxHeartbeats 400000 in
theorem vc_257 {sc_ : Nat × (Nat → Int)} (kk_ : Int) (a_ : Int) (b_ : Int) (n_ : Int) (S0_ : sm_S) (hI_ : gi S0_) (hJ_ : jC S0_) : sm_T (mt_P sc_) 3 257 (0, [some (.inr (.inr (some (12, 0)))), some (.inl kk_), some (.inl a_), some (.inl b_), some (.inl n_), none], [], S0_) (fun ro9_ => (∃ u_ S1_, ro9_ = (.inl u_, S1_, 0) ∧ vq_257 kk_ a_ b_ n_ S0_ u_ S1_) ∨ ∃ ex_ S1_, ro9_ = (.inr ex_, S1_, 1) ∧ ex_ ∈ ([0, 1, 3] : List Nat) ∧ vx_257 kk_ a_ b_ n_ S0_ S1_) := by
  have hF_ : ai_fr (sx_W vw_257) S0_ S0_ := ai_fr_rf
  refine sm_T_go 2 (c1 := (2, [some (.inr (.inr (some (12, 0)))), some (.inl kk_), some (.inl a_), some (.inl b_), some (.inl n_), none], [.inl kk_, .inr (.inr (some (12, 0)))], S0_)) rfl ?_
  refine sm_T_cale (d1_ := 1) (Q1_ := vq_272 kk_ S0_) (Q2_ := (fun ex_ S1_ => ex_ ∈ ([0] : List Nat) ∧ vx_272 kk_ S0_ S1_)) rfl rfl (by decide) (vc_272 kk_ S0_ hI_ ) rfl (fun xx6_ Sx1_ px4_ => ?_) (fun u_ Sx1_ px4_ => ?_)
  · obtain ⟨px4m, hIx2_, hFx3_, px4_⟩ := px4_
    refine Or.inr ⟨_, _, rfl, by first | exact px4m | (simp only [List.mem_cons, List.not_mem_nil, or_false] at px4m ⊢; omega), hIx2_, ai_fr_tr hF_ (fr_le hFx3_ rfl), ?_⟩
    first | (rw [px4_.2]; exact hJ_) | (rw [px4_]; exact hJ_)
  obtain ⟨rfl, -, -, rfl, px4_⟩ := px4_
  have a9_ := px4_
  have J9_ := hJ_.2.1 kk_.toNat (by omega) a9_.2
  have J1_ := J9_.1
  have q9_ := a9_.2
  have c8_ : 0 ≤ S0_.1 2 (kk_.toNat) 8 ∧ S0_.1 2 (kk_.toNat) 8 ≤ 150 := hI_.1 2 (kk_.toNat) 8 rfl
  have c1_ : 0 ≤ S0_.1 2 (kk_.toNat) 1 ∧ S0_.1 2 (kk_.toNat) 1 ≤ 12 := hI_.1 2 (kk_.toNat) 1 rfl
  have c2_ : 0 ≤ S0_.1 2 (kk_.toNat) 2 ∧ S0_.1 2 (kk_.toNat) 2 ≤ 6 := hI_.1 2 (kk_.toNat) 2 rfl
  refine sm_T_go 3 (c1 := (10, [some (.inr (.inr (some (12, 0)))), some (.inl kk_), some (.inl a_), some (.inl b_), some (.inl n_), some (.inr (.inr (some (2, kk_.toNat))))], [.inl (-1), .inl n_], S0_)) rfl ?_
  refine sm_T_br (a := 2) (z := 17) rfl (fun cx7_ => ?_) (fun cx7_ => ?_)
  · have cx7_ : n_ < (-1) := of_decide_eq_true cx7_
    refine sm_T_go 1 (c1 := (28, [some (.inr (.inr (some (12, 0)))), some (.inl kk_), some (.inl a_), some (.inl b_), some (.inl n_), some (.inr (.inr (some (2, kk_.toNat))))], [.inl 0], S0_)) rfl ?_
    refine sm_T_cale (d1_ := 0) (Q1_ := vq_265e 0 S0_) (Q2_ := (fun ex_ S1_ => ex_ ∈ ([0] : List Nat) ∧ vx_265e 0 S0_ S1_)) rfl rfl (by decide) (vc_265e 0 S0_ hI_ ) rfl (fun xx13_ Sx8_ px11_ => ?_) (fun u_ Sx8_ px11_ => ?_)
    · obtain ⟨px11m, hIx9_, hFx10_, px11_⟩ := px11_
      refine Or.inr ⟨_, _, rfl, by first | exact px11m | (simp only [List.mem_cons, List.not_mem_nil, or_false] at px11m ⊢; omega), hIx9_, ai_fr_tr hF_ (fr_le hFx10_ rfl), ?_⟩
      first | (rw [px11_.2]; exact hJ_) | (rw [px11_]; exact hJ_)
    · exact absurd rfl px11_.2.2.2.1
  · have cx7_ : ¬ (n_ < (-1)) := of_decide_eq_false cx7_
    refine sm_T_go 2 (c1 := (17, [some (.inr (.inr (some (12, 0)))), some (.inl kk_), some (.inl a_), some (.inl b_), some (.inl n_), some (.inr (.inr (some (2, kk_.toNat))))], [.inr (.inr (some (2, kk_.toNat))), .inl n_], S0_)) rfl ?_
    refine sm_T_cal (d1 := 0) (Q1 := vq_55 kk_.toNat S0_) rfl rfl (by decide) (vc_55 kk_.toNat S0_ hI_ ) (fun u_ Sx14_ px17_ => ?_)
    obtain ⟨rfl, vx19_, rfl, px17_⟩ := px17_
    refine sm_T_br (a := 3) (z := 7) rfl (fun cx20_ => ?_) (fun cx20_ => ?_)
    · have cx20_ : vx19_ ≤ n_ := of_decide_eq_true cx20_
      refine sm_T_go 1 (c1 := (28, [some (.inr (.inr (some (12, 0)))), some (.inl kk_), some (.inl a_), some (.inl b_), some (.inl n_), some (.inr (.inr (some (2, kk_.toNat))))], [.inl 0], S0_)) rfl ?_
      refine sm_T_cale (d1_ := 0) (Q1_ := vq_265e 0 S0_) (Q2_ := (fun ex_ S1_ => ex_ ∈ ([0] : List Nat) ∧ vx_265e 0 S0_ S1_)) rfl rfl (by decide) (vc_265e 0 S0_ hI_ ) rfl (fun xx26_ Sx21_ px24_ => ?_) (fun u_ Sx21_ px24_ => ?_)
      · obtain ⟨px24m, hIx22_, hFx23_, px24_⟩ := px24_
        refine Or.inr ⟨_, _, rfl, by first | exact px24m | (simp only [List.mem_cons, List.not_mem_nil, or_false] at px24m ⊢; omega), hIx22_, ai_fr_tr hF_ (fr_le hFx23_ rfl), ?_⟩
        first | (rw [px24_.2]; exact hJ_) | (rw [px24_]; exact hJ_)
      · exact absurd rfl px24_.2.2.2.1
    · have cx20_ : ¬ (vx19_ ≤ n_) := of_decide_eq_false cx20_
      refine sm_T_go 2 (c1 := (28, [some (.inr (.inr (some (12, 0)))), some (.inl kk_), some (.inl a_), some (.inl b_), some (.inl n_), some (.inr (.inr (some (2, kk_.toNat))))], [.inl 1], S0_)) rfl ?_
      refine sm_T_cale (d1_ := 0) (Q1_ := vq_265e 1 S0_) (Q2_ := (fun ex_ S1_ => ex_ ∈ ([0] : List Nat) ∧ vx_265e 1 S0_ S1_)) rfl rfl (by decide) (vc_265e 1 S0_ hI_ ) rfl (fun xx32_ Sx27_ px30_ => ?_) (fun u_ Sx27_ px30_ => ?_)
      · exact absurd px30_.2.2.2.1 (by decide)
      obtain ⟨rfl, -, -, px30_, rfl⟩ := px30_
      refine sm_T_go 2 (c1 := (34, [some (.inr (.inr (some (12, 0)))), some (.inl kk_), some (.inl a_), some (.inl b_), some (.inl n_), some (.inr (.inr (some (2, kk_.toNat))))], [.inl a_, .inr (.inr (some (2, kk_.toNat)))], S0_)) rfl ?_
      refine sm_T_cal (d1 := 0) (Q1 := vq_61p a_ kk_.toNat S0_) rfl rfl (by decide) (vc_61p a_ kk_.toNat S0_ hI_ (by omega)) (fun u_ Sx33_ px36_ => ?_)
      obtain ⟨rfl, vx38_, rfl, px36_⟩ := px36_
      have m34_ := px36_.2
      have n34_ := px36_.1
      refine sm_T_b0 (a := 0) (z := 16) rfl (fun cx39_ => ?_) (fun cx39_ => ?_)
      · have cx39_ : vx38_ = 0 := of_decide_eq_true cx39_
        refine sm_T_go 1 (c1 := (54, [some (.inr (.inr (some (12, 0)))), some (.inl kk_), some (.inl a_), some (.inl b_), some (.inl n_), some (.inr (.inr (some (2, kk_.toNat))))], [.inl 0], S0_)) rfl ?_
        refine sm_T_cale (d1_ := 0) (Q1_ := vq_266e 0 S0_) (Q2_ := (fun ex_ S1_ => ex_ ∈ ([1] : List Nat) ∧ vx_266e 0 S0_ S1_)) rfl rfl (by decide) (vc_266e 0 S0_ hI_ ) rfl (fun xx45_ Sx40_ px43_ => ?_) (fun u_ Sx40_ px43_ => ?_)
        · obtain ⟨px43m, hIx41_, hFx42_, px43_⟩ := px43_
          refine Or.inr ⟨_, _, rfl, by first | exact px43m | (simp only [List.mem_cons, List.not_mem_nil, or_false] at px43m ⊢; omega), hIx41_, ai_fr_tr hF_ (fr_le hFx42_ rfl), ?_⟩
          first | (rw [px43_.2]; exact hJ_) | (rw [px43_]; exact hJ_)
        · exact absurd rfl px43_.2.2.2.1
      · have cx39_ : ¬ (vx38_ = 0) := of_decide_eq_false cx39_
        have o34_ := m34_ (by omega)
        refine sm_T_go 2 (c1 := (43, [some (.inr (.inr (some (12, 0)))), some (.inl kk_), some (.inl a_), some (.inl b_), some (.inl n_), some (.inr (.inr (some (2, kk_.toNat))))], [.inl b_, .inr (.inr (some (2, kk_.toNat)))], S0_)) rfl ?_
        refine sm_T_cal (d1 := 0) (Q1 := vq_61p b_ kk_.toNat S0_) rfl rfl (by decide) (vc_61p b_ kk_.toNat S0_ hI_ (by omega)) (fun u_ Sx46_ px49_ => ?_)
        obtain ⟨rfl, vx51_, rfl, px49_⟩ := px49_
        have m43_ := px49_.2
        have n43_ := px49_.1
        refine sm_T_b0 (a := 0) (z := 7) rfl (fun cx52_ => ?_) (fun cx52_ => ?_)
        · have cx52_ : vx51_ = 0 := of_decide_eq_true cx52_
          refine sm_T_go 1 (c1 := (54, [some (.inr (.inr (some (12, 0)))), some (.inl kk_), some (.inl a_), some (.inl b_), some (.inl n_), some (.inr (.inr (some (2, kk_.toNat))))], [.inl 0], S0_)) rfl ?_
          refine sm_T_cale (d1_ := 0) (Q1_ := vq_266e 0 S0_) (Q2_ := (fun ex_ S1_ => ex_ ∈ ([1] : List Nat) ∧ vx_266e 0 S0_ S1_)) rfl rfl (by decide) (vc_266e 0 S0_ hI_ ) rfl (fun xx58_ Sx53_ px56_ => ?_) (fun u_ Sx53_ px56_ => ?_)
          · obtain ⟨px56m, hIx54_, hFx55_, px56_⟩ := px56_
            refine Or.inr ⟨_, _, rfl, by first | exact px56m | (simp only [List.mem_cons, List.not_mem_nil, or_false] at px56m ⊢; omega), hIx54_, ai_fr_tr hF_ (fr_le hFx55_ rfl), ?_⟩
            first | (rw [px56_.2]; exact hJ_) | (rw [px56_]; exact hJ_)
          · exact absurd rfl px56_.2.2.2.1
        · have cx52_ : ¬ (vx51_ = 0) := of_decide_eq_false cx52_
          have o43_ := m43_ (by omega)
          refine sm_T_go 2 (c1 := (54, [some (.inr (.inr (some (12, 0)))), some (.inl kk_), some (.inl a_), some (.inl b_), some (.inl n_), some (.inr (.inr (some (2, kk_.toNat))))], [.inl 1], S0_)) rfl ?_
          refine sm_T_cale (d1_ := 0) (Q1_ := vq_266e 1 S0_) (Q2_ := (fun ex_ S1_ => ex_ ∈ ([1] : List Nat) ∧ vx_266e 1 S0_ S1_)) rfl rfl (by decide) (vc_266e 1 S0_ hI_ ) rfl (fun xx64_ Sx59_ px62_ => ?_) (fun u_ Sx59_ px62_ => ?_)
          · exact absurd px62_.2.2.2.1 (by decide)
          obtain ⟨rfl, -, -, px62_, rfl⟩ := px62_
          refine sm_T_go 5 (c1 := (65, [some (.inr (.inr (some (12, 0)))), some (.inl kk_), some (.inl a_), some (.inl b_), some (.inl n_), some (.inr (.inr (some (2, kk_.toNat))))], [.inl b_, .inl a_, .inr (.inr (some (2, kk_.toNat))), .inr (.inr (some (11, 0)))], S0_)) rfl ?_
          refine sm_T_cal (d1 := 2) (Q1 := vq_205 a_ b_ kk_.toNat S0_) rfl rfl (by decide) (vc_205 a_ b_ kk_.toNat S0_ hI_ (by omega) (by omega) (by omega)) (fun u_ Sx65_ px68_ => ?_)
          obtain ⟨rfl, hIx66_, hFx67_, px68_⟩ := px68_
          have hFx69_ : ai_fr (sx_W vw_257) S0_ Sx65_ := ai_fr_tr hF_ (fr_le hFx67_ rfl)
          have J8_ := jC_fr hJ_ hFx69_ (by decide) (by decide) (by decide) (by decide) (by decide) rfl rfl rfl rfl rfl rfl
          have y1_ := hFx67_.1 2 kk_.toNat 1 rfl
          have y2_ := hFx67_.1 2 kk_.toNat 2 rfl
          have y8_ := hFx67_.1 2 kk_.toNat 8 rfl
          have bx70_ : 0 ≤ Sx65_.1 11 0 16 ∧ Sx65_.1 11 0 16 ≤ 1 := hIx66_.1 11 0 16 rfl
          refine sm_T_go 3 (c1 := (75, [some (.inr (.inr (some (12, 0)))), some (.inl kk_), some (.inl a_), some (.inl b_), some (.inl n_), some (.inr (.inr (some (2, kk_.toNat))))], [.inl (Sx65_.1 11 0 16)], Sx65_)) rfl ?_
          refine sm_T_b0 (a := 1) (z := 7) rfl (fun cx71_ => ?_) (fun cx71_ => ?_)
          · have cx71_ : (Sx65_.1 11 0 16) ≠ 0 := of_decide_eq_true cx71_
            refine sm_T_go 1 (c1 := (83, [some (.inr (.inr (some (12, 0)))), some (.inl kk_), some (.inl a_), some (.inl b_), some (.inl n_), some (.inr (.inr (some (2, kk_.toNat))))], [.inl 0], Sx65_)) rfl ?_
            refine sm_T_cale (d1_ := 0) (Q1_ := vq_268e 0 Sx65_) (Q2_ := (fun ex_ S1_ => ex_ ∈ ([3] : List Nat) ∧ vx_268e 0 Sx65_ S1_)) rfl rfl (by decide) (vc_268e 0 Sx65_ hIx66_ ) rfl (fun xx77_ Sx72_ px75_ => ?_) (fun u_ Sx72_ px75_ => ?_)
            · obtain ⟨px75m, hIx73_, hFx74_, px75_⟩ := px75_
              refine Or.inr ⟨_, _, rfl, by first | exact px75m | (simp only [List.mem_cons, List.not_mem_nil, or_false] at px75m ⊢; omega), hIx73_, ai_fr_tr hFx69_ (fr_le hFx74_ rfl), ?_⟩
              rw [px75_.2]; exact J8_
            · exact absurd rfl px75_.2.2.2.1
          · have cx71_ : ¬ ((Sx65_.1 11 0 16) ≠ 0) := of_decide_eq_false cx71_
            refine sm_T_go 2 (c1 := (83, [some (.inr (.inr (some (12, 0)))), some (.inl kk_), some (.inl a_), some (.inl b_), some (.inl n_), some (.inr (.inr (some (2, kk_.toNat))))], [.inl 1], Sx65_)) rfl ?_
            refine sm_T_cale (d1_ := 0) (Q1_ := vq_268e 1 Sx65_) (Q2_ := (fun ex_ S1_ => ex_ ∈ ([3] : List Nat) ∧ vx_268e 1 Sx65_ S1_)) rfl rfl (by decide) (vc_268e 1 Sx65_ hIx66_ ) rfl (fun xx83_ Sx78_ px81_ => ?_) (fun u_ Sx78_ px81_ => ?_)
            · exact absurd px81_.2.2.2.1 (by decide)
            obtain ⟨rfl, -, -, px81_, rfl⟩ := px81_
            refine sm_T_go 2 (c1 := (89, [some (.inr (.inr (some (12, 0)))), some (.inl kk_), some (.inl a_), some (.inl b_), some (.inl n_), some (.inr (.inr (some (2, kk_.toNat))))], [.inl (-1), .inl n_], Sx65_)) rfl ?_
            refine sm_T_br (a := 1) (z := 18) rfl (fun cx84_ => ?_) (fun cx84_ => ?_)
            · have cx84_ : n_ ≠ (-1) := of_decide_eq_true cx84_
              refine sm_T_go 3 (c1 := (113, [some (.inr (.inr (some (12, 0)))), some (.inl kk_), some (.inl a_), some (.inl b_), some (.inl n_), some (.inr (.inr (some (2, kk_.toNat))))], [.inl n_, .inr (.inr (some (11, 0)))], Sx65_)) rfl ?_
              refine sm_T_cal (d1 := 0) (Q1 := vq_208 n_ Sx65_) rfl rfl (by decide) (vc_208 n_ Sx65_ hIx66_ (by omega)) (fun u_ Sx85_ px88_ => ?_)
              obtain ⟨rfl, vx90_, rfl, px88_⟩ := px88_
              refine sm_T_ri rfl (Or.inl ⟨_, _, rfl, _, rfl, hIx66_, hFx69_, ?_⟩)
              exact J8_
            · have cx84_ : ¬ (n_ ≠ (-1)) := of_decide_eq_false cx84_
              refine sm_T_go 3 (c1 := (98, [some (.inr (.inr (some (12, 0)))), some (.inl kk_), some (.inl a_), some (.inl b_), some (.inl n_), some (.inr (.inr (some (2, kk_.toNat))))], [.inr (.inr (some (2, kk_.toNat))), .inr (.inr (some (11, 0)))], Sx65_)) rfl ?_
              refine sm_T_cal (d1 := 0) (Q1 := vq_55 kk_.toNat Sx65_) rfl rfl (by decide) (vc_55 kk_.toNat Sx65_ hIx66_ ) (fun u_ Sx91_ px94_ => ?_)
              obtain ⟨rfl, vx96_, rfl, px94_⟩ := px94_
              refine sm_T_cal (d1 := 0) (Q1 := vq_210 vx96_ Sx65_) rfl rfl (by decide) (vc_210 vx96_ Sx65_ hIx66_ (by omega)) (fun u_ Sx97_ px100_ => ?_)
              obtain ⟨rfl, vx102_, rfl, px100_⟩ := px100_
              refine sm_T_go 1 (c1 := (116, [some (.inr (.inr (some (12, 0)))), some (.inl kk_), some (.inl a_), some (.inl b_), some (.inl n_), some (.inr (.inr (some (2, kk_.toNat))))], [.inl vx102_], Sx65_)) rfl ?_
              refine sm_T_ri rfl (Or.inl ⟨_, _, rfl, _, rfl, hIx66_, hFx69_, ?_⟩)
              exact J8_
end
/-! 99.zp8c -/
section
/-! ChipFlow.violation -/
def vw_251 : sx_Wl := ([(4, 3), (4, 8), (4, 9)], [50], [])
def vq_251 (kk_ : Int) (k_ : Int) (sd_ : Int) (S0_ : sm_S) (u_ : Option sm_V) (S1_ : sm_S) : Prop := ∃ v_ : Int, u_ = some (.inl v_) ∧ gi S1_ ∧ ai_fr (sx_W vw_251) S0_ S1_ ∧ (jC S1_)
def vx_251 (kk_ : Int) (k_ : Int) (sd_ : Int) (S0_ : sm_S) (S1_ : sm_S) : Prop := gi S1_ ∧ ai_fr (sx_W vw_251) S0_ S1_ ∧ (jC S1_)
set_option maxHeartbeats 400000 in
theorem vc_251 {sc_ : Nat × (Nat → Int)} (kk_ : Int) (k_ : Int) (sd_ : Int) (S0_ : sm_S) (hI_ : gi S0_) (hJ_ : jC S0_) (hk9_ : -2147483648 ≤ k_ ∧ k_ ≤ 2147483647) : sm_T (mt_P sc_) 3 251 (0, [some (.inr (.inr (some (12, 0)))), some (.inl kk_), some (.inl k_), some (.inl sd_), none], [], S0_) (fun ro9_ => (∃ u_ S1_, ro9_ = (.inl u_, S1_, 0) ∧ vq_251 kk_ k_ sd_ S0_ u_ S1_) ∨ ∃ ex_ S1_, ro9_ = (.inr ex_, S1_, 1) ∧ ex_ ∈ ([0, 2] : List Nat) ∧ vx_251 kk_ k_ sd_ S0_ S1_) := by
  have hF_ : ai_fr (sx_W vw_251) S0_ S0_ := ai_fr_rf
  refine sm_T_go 2 (c1 := (2, [some (.inr (.inr (some (12, 0)))), some (.inl kk_), some (.inl k_), some (.inl sd_), none], [.inl kk_, .inr (.inr (some (12, 0)))], S0_)) rfl ?_
  refine sm_T_cale (d1_ := 1) (Q1_ := vq_272 kk_ S0_) (Q2_ := (fun ex_ S1_ => ex_ ∈ ([0] : List Nat) ∧ vx_272 kk_ S0_ S1_)) rfl rfl (by decide) (vc_272 kk_ S0_ hI_ ) rfl (fun xx6_ Sx1_ px4_ => ?_) (fun u_ Sx1_ px4_ => ?_)
  · obtain ⟨px4m, hIx2_, hFx3_, px4_⟩ := px4_
    refine Or.inr ⟨_, _, rfl, by first | exact px4m | (simp only [List.mem_cons, List.not_mem_nil, or_false] at px4m ⊢; omega), hIx2_, ai_fr_tr hF_ (fr_le hFx3_ rfl), ?_⟩
    first | (rw [px4_.2]; exact hJ_) | (rw [px4_]; exact hJ_)
  obtain ⟨rfl, -, -, rfl, px4_⟩ := px4_
  have a9_ := px4_
  have J9_ := hJ_.2.1 kk_.toNat (by omega) a9_.2
  have J1_ := J9_.1
  have q9_ := a9_.2
  have c8_ : 0 ≤ S0_.1 2 (kk_.toNat) 8 ∧ S0_.1 2 (kk_.toNat) 8 ≤ 150 := hI_.1 2 (kk_.toNat) 8 rfl
  have c1_ : 0 ≤ S0_.1 2 (kk_.toNat) 1 ∧ S0_.1 2 (kk_.toNat) 1 ≤ 12 := hI_.1 2 (kk_.toNat) 1 rfl
  have c2_ : 0 ≤ S0_.1 2 (kk_.toNat) 2 ∧ S0_.1 2 (kk_.toNat) 2 ≤ 6 := hI_.1 2 (kk_.toNat) 2 rfl
  refine sm_T_go 4 (c1 := (14, [some (.inr (.inr (some (12, 0)))), some (.inl kk_), some (.inl k_), some (.inl sd_), some (.inr (.inr (some (4, (0 + (0 + kk_.toNat))))))], [.inl k_], S0_)) rfl ?_
  refine sm_T_b0 (a := 2) (z := 16) rfl (fun cx7_ => ?_) (fun cx7_ => ?_)
  · have cx7_ : k_ < 0 := of_decide_eq_true cx7_
    refine sm_T_go 1 (c1 := (31, [some (.inr (.inr (some (12, 0)))), some (.inl kk_), some (.inl k_), some (.inl sd_), some (.inr (.inr (some (4, (0 + (0 + kk_.toNat))))))], [.inl 0], S0_)) rfl ?_
    refine sm_T_cale (d1_ := 0) (Q1_ := vq_265e 0 S0_) (Q2_ := (fun ex_ S1_ => ex_ ∈ ([0] : List Nat) ∧ vx_265e 0 S0_ S1_)) rfl rfl (by decide) (vc_265e 0 S0_ hI_ ) rfl (fun xx13_ Sx8_ px11_ => ?_) (fun u_ Sx8_ px11_ => ?_)
    · obtain ⟨px11m, hIx9_, hFx10_, px11_⟩ := px11_
      refine Or.inr ⟨_, _, rfl, by first | exact px11m | (simp only [List.mem_cons, List.not_mem_nil, or_false] at px11m ⊢; omega), hIx9_, ai_fr_tr hF_ (fr_le hFx10_ rfl), ?_⟩
      first | (rw [px11_.2]; exact hJ_) | (rw [px11_]; exact hJ_)
    · exact absurd rfl px11_.2.2.2.1
  · have cx7_ : ¬ (k_ < 0) := of_decide_eq_false cx7_
    refine sm_T_go 1 (c1 := (18, [some (.inr (.inr (some (12, 0)))), some (.inl kk_), some (.inl k_), some (.inl sd_), some (.inr (.inr (some (4, (0 + (0 + kk_.toNat))))))], [.inl sd_], S0_)) rfl ?_
    refine sm_T_b0 (a := 0) (z := 8) rfl (fun cx14_ => ?_) (fun cx14_ => ?_)
    · have cx14_ : sd_ = 0 := of_decide_eq_true cx14_
      refine sm_T_go 2 (c1 := (31, [some (.inr (.inr (some (12, 0)))), some (.inl kk_), some (.inl k_), some (.inl sd_), some (.inr (.inr (some (4, (0 + (0 + kk_.toNat))))))], [.inl 1], S0_)) rfl ?_
      refine sm_T_cale (d1_ := 0) (Q1_ := vq_265e 1 S0_) (Q2_ := (fun ex_ S1_ => ex_ ∈ ([0] : List Nat) ∧ vx_265e 1 S0_ S1_)) rfl rfl (by decide) (vc_265e 1 S0_ hI_ ) rfl (fun xx20_ Sx15_ px18_ => ?_) (fun u_ Sx15_ px18_ => ?_)
      · exact absurd px18_.2.2.2.1 (by decide)
      obtain ⟨rfl, -, -, px18_, rfl⟩ := px18_
      have bx21_ : 0 ≤ S0_.1 4 (0 + (0 + kk_.toNat)) 0 ∧ S0_.1 4 (0 + (0 + kk_.toNat)) 0 ≤ 1 := hI_.1 4 (0 + (0 + kk_.toNat)) 0 rfl
      refine sm_T_go 2 (c1 := (39, [some (.inr (.inr (some (12, 0)))), some (.inl kk_), some (.inl k_), some (.inl sd_), some (.inr (.inr (some (4, (0 + (0 + kk_.toNat))))))], [.inl (S0_.1 4 (0 + (0 + kk_.toNat)) 0)], S0_)) rfl ?_
      refine sm_T_cale (d1_ := 0) (Q1_ := vq_267e (S0_.1 4 (0 + (0 + kk_.toNat)) 0) S0_) (Q2_ := (fun ex_ S1_ => ex_ ∈ ([2] : List Nat) ∧ vx_267e (S0_.1 4 (0 + (0 + kk_.toNat)) 0) S0_ S1_)) rfl rfl (by decide) (vc_267e (S0_.1 4 (0 + (0 + kk_.toNat)) 0) S0_ hI_ ) rfl (fun xx27_ Sx22_ px25_ => ?_) (fun u_ Sx22_ px25_ => ?_)
      · obtain ⟨px25m, hIx23_, hFx24_, px25_⟩ := px25_
        refine Or.inr ⟨_, _, rfl, by first | exact px25m | (simp only [List.mem_cons, List.not_mem_nil, or_false] at px25m ⊢; omega), hIx23_, ai_fr_tr hF_ (fr_le hFx24_ rfl), ?_⟩
        first | (rw [px25_.2]; exact hJ_) | (rw [px25_]; exact hJ_)
      obtain ⟨rfl, -, -, px25_, rfl⟩ := px25_
      refine sm_T_go 1 (c1 := (44, [some (.inr (.inr (some (12, 0)))), some (.inl kk_), some (.inl k_), some (.inl sd_), some (.inr (.inr (some (4, (0 + (0 + kk_.toNat))))))], [.inr (.inr (some (4, (0 + (0 + kk_.toNat)))))], S0_)) rfl ?_
      refine sm_T_cal (d1 := 1) (Q1 := vq_79 (0 + (0 + kk_.toNat)) S0_) rfl rfl (by decide) (vc_79 (0 + (0 + kk_.toNat)) S0_ hI_ ) (fun u_ Sx28_ px31_ => ?_)
      obtain ⟨rfl, hIx29_, hFx30_, px31_⟩ := px31_
      have hFx32_ : ai_fr (sx_W vw_251) S0_ Sx28_ := ai_fr_tr hF_ (fr_le hFx30_ rfl)
      obtain ⟨dx33_, px31_⟩ := px31_
      have J8_ := jC_fr hJ_ hFx32_ (by decide) (by decide) (by decide) (by decide) (by decide) rfl rfl rfl rfl rfl rfl
      have bx34_ : 0 ≤ Sx28_.1 4 (0 + (0 + kk_.toNat)) 3 ∧ Sx28_.1 4 (0 + (0 + kk_.toNat)) 3 ≤ 1073741823 := hIx29_.1 4 (0 + (0 + kk_.toNat)) 3 rfl
      refine sm_T_go 3 (c1 := (53, [some (.inr (.inr (some (12, 0)))), some (.inl kk_), some (.inl k_), some (.inl sd_), some (.inr (.inr (some (4, (0 + (0 + kk_.toNat))))))], [.inl (Sx28_.1 4 (0 + (0 + kk_.toNat)) 3), .inl k_], Sx28_)) rfl ?_
      refine sm_T_br (a := 3) (z := 7) rfl (fun cx35_ => ?_) (fun cx35_ => ?_)
      · have cx35_ : (Sx28_.1 4 (0 + (0 + kk_.toNat)) 3) ≤ k_ := of_decide_eq_true cx35_
        refine sm_T_go 1 (c1 := (61, [some (.inr (.inr (some (12, 0)))), some (.inl kk_), some (.inl k_), some (.inl sd_), some (.inr (.inr (some (4, (0 + (0 + kk_.toNat))))))], [.inl 0], Sx28_)) rfl ?_
        refine sm_T_cale (d1_ := 0) (Q1_ := vq_265e 0 Sx28_) (Q2_ := (fun ex_ S1_ => ex_ ∈ ([0] : List Nat) ∧ vx_265e 0 Sx28_ S1_)) rfl rfl (by decide) (vc_265e 0 Sx28_ hIx29_ ) rfl (fun xx41_ Sx36_ px39_ => ?_) (fun u_ Sx36_ px39_ => ?_)
        · obtain ⟨px39m, hIx37_, hFx38_, px39_⟩ := px39_
          refine Or.inr ⟨_, _, rfl, by first | exact px39m | (simp only [List.mem_cons, List.not_mem_nil, or_false] at px39m ⊢; omega), hIx37_, ai_fr_tr hFx32_ (fr_le hFx38_ rfl), ?_⟩
          rw [px39_.2]; exact J8_
        · exact absurd rfl px39_.2.2.2.1
      · have cx35_ : ¬ ((Sx28_.1 4 (0 + (0 + kk_.toNat)) 3) ≤ k_) := of_decide_eq_false cx35_
        refine sm_T_go 2 (c1 := (61, [some (.inr (.inr (some (12, 0)))), some (.inl kk_), some (.inl k_), some (.inl sd_), some (.inr (.inr (some (4, (0 + (0 + kk_.toNat))))))], [.inl 1], Sx28_)) rfl ?_
        refine sm_T_cale (d1_ := 0) (Q1_ := vq_265e 1 Sx28_) (Q2_ := (fun ex_ S1_ => ex_ ∈ ([0] : List Nat) ∧ vx_265e 1 Sx28_ S1_)) rfl rfl (by decide) (vc_265e 1 Sx28_ hIx29_ ) rfl (fun xx47_ Sx42_ px45_ => ?_) (fun u_ Sx42_ px45_ => ?_)
        · exact absurd px45_.2.2.2.1 (by decide)
        obtain ⟨rfl, -, -, px45_, rfl⟩ := px45_
        refine sm_T_go 3 (c1 := (68, [some (.inr (.inr (some (12, 0)))), some (.inl kk_), some (.inl k_), some (.inl sd_), some (.inr (.inr (some (4, (0 + (0 + kk_.toNat))))))], [.inl sd_, .inl k_, .inr (.inr (some (4, (0 + (0 + kk_.toNat)))))], Sx28_)) rfl ?_
        refine sm_T_cal (d1 := 2) (Q1 := vq_80 k_ sd_ (0 + (0 + kk_.toNat)) Sx28_) rfl rfl (by decide) (vc_80 k_ sd_ (0 + (0 + kk_.toNat)) Sx28_ hIx29_ (by omega)) (fun u_ Sx48_ px51_ => ?_)
        obtain ⟨rfl, vx53_, rfl, px51_⟩ := px51_
        refine sm_T_ri rfl (Or.inl ⟨_, _, rfl, _, rfl, hIx29_, hFx32_, ?_⟩)
        exact J8_
    · have cx14_ : ¬ (sd_ = 0) := of_decide_eq_false cx14_
      refine sm_T_go 2 (c1 := (23, [some (.inr (.inr (some (12, 0)))), some (.inl kk_), some (.inl k_), some (.inl sd_), some (.inr (.inr (some (4, (0 + (0 + kk_.toNat))))))], [.inl 1, .inl sd_], S0_)) rfl ?_
      refine sm_T_br (a := 1) (z := 7) rfl (fun cx54_ => ?_) (fun cx54_ => ?_)
      · have cx54_ : sd_ ≠ 1 := of_decide_eq_true cx54_
        refine sm_T_go 1 (c1 := (31, [some (.inr (.inr (some (12, 0)))), some (.inl kk_), some (.inl k_), some (.inl sd_), some (.inr (.inr (some (4, (0 + (0 + kk_.toNat))))))], [.inl 0], S0_)) rfl ?_
        refine sm_T_cale (d1_ := 0) (Q1_ := vq_265e 0 S0_) (Q2_ := (fun ex_ S1_ => ex_ ∈ ([0] : List Nat) ∧ vx_265e 0 S0_ S1_)) rfl rfl (by decide) (vc_265e 0 S0_ hI_ ) rfl (fun xx60_ Sx55_ px58_ => ?_) (fun u_ Sx55_ px58_ => ?_)
        · obtain ⟨px58m, hIx56_, hFx57_, px58_⟩ := px58_
          refine Or.inr ⟨_, _, rfl, by first | exact px58m | (simp only [List.mem_cons, List.not_mem_nil, or_false] at px58m ⊢; omega), hIx56_, ai_fr_tr hF_ (fr_le hFx57_ rfl), ?_⟩
          first | (rw [px58_.2]; exact hJ_) | (rw [px58_]; exact hJ_)
        · exact absurd rfl px58_.2.2.2.1
      · have cx54_ : ¬ (sd_ ≠ 1) := of_decide_eq_false cx54_
        refine sm_T_go 2 (c1 := (31, [some (.inr (.inr (some (12, 0)))), some (.inl kk_), some (.inl k_), some (.inl sd_), some (.inr (.inr (some (4, (0 + (0 + kk_.toNat))))))], [.inl 1], S0_)) rfl ?_
        refine sm_T_cale (d1_ := 0) (Q1_ := vq_265e 1 S0_) (Q2_ := (fun ex_ S1_ => ex_ ∈ ([0] : List Nat) ∧ vx_265e 1 S0_ S1_)) rfl rfl (by decide) (vc_265e 1 S0_ hI_ ) rfl (fun xx66_ Sx61_ px64_ => ?_) (fun u_ Sx61_ px64_ => ?_)
        · exact absurd px64_.2.2.2.1 (by decide)
        obtain ⟨rfl, -, -, px64_, rfl⟩ := px64_
        have bx67_ : 0 ≤ S0_.1 4 (0 + (0 + kk_.toNat)) 0 ∧ S0_.1 4 (0 + (0 + kk_.toNat)) 0 ≤ 1 := hI_.1 4 (0 + (0 + kk_.toNat)) 0 rfl
        refine sm_T_go 2 (c1 := (39, [some (.inr (.inr (some (12, 0)))), some (.inl kk_), some (.inl k_), some (.inl sd_), some (.inr (.inr (some (4, (0 + (0 + kk_.toNat))))))], [.inl (S0_.1 4 (0 + (0 + kk_.toNat)) 0)], S0_)) rfl ?_
        refine sm_T_cale (d1_ := 0) (Q1_ := vq_267e (S0_.1 4 (0 + (0 + kk_.toNat)) 0) S0_) (Q2_ := (fun ex_ S1_ => ex_ ∈ ([2] : List Nat) ∧ vx_267e (S0_.1 4 (0 + (0 + kk_.toNat)) 0) S0_ S1_)) rfl rfl (by decide) (vc_267e (S0_.1 4 (0 + (0 + kk_.toNat)) 0) S0_ hI_ ) rfl (fun xx73_ Sx68_ px71_ => ?_) (fun u_ Sx68_ px71_ => ?_)
        · obtain ⟨px71m, hIx69_, hFx70_, px71_⟩ := px71_
          refine Or.inr ⟨_, _, rfl, by first | exact px71m | (simp only [List.mem_cons, List.not_mem_nil, or_false] at px71m ⊢; omega), hIx69_, ai_fr_tr hF_ (fr_le hFx70_ rfl), ?_⟩
          first | (rw [px71_.2]; exact hJ_) | (rw [px71_]; exact hJ_)
        obtain ⟨rfl, -, -, px71_, rfl⟩ := px71_
        refine sm_T_go 1 (c1 := (44, [some (.inr (.inr (some (12, 0)))), some (.inl kk_), some (.inl k_), some (.inl sd_), some (.inr (.inr (some (4, (0 + (0 + kk_.toNat))))))], [.inr (.inr (some (4, (0 + (0 + kk_.toNat)))))], S0_)) rfl ?_
        refine sm_T_cal (d1 := 1) (Q1 := vq_79 (0 + (0 + kk_.toNat)) S0_) rfl rfl (by decide) (vc_79 (0 + (0 + kk_.toNat)) S0_ hI_ ) (fun u_ Sx74_ px77_ => ?_)
        obtain ⟨rfl, hIx75_, hFx76_, px77_⟩ := px77_
        have hFx78_ : ai_fr (sx_W vw_251) S0_ Sx74_ := ai_fr_tr hF_ (fr_le hFx76_ rfl)
        obtain ⟨dx79_, px77_⟩ := px77_
        have J8_ := jC_fr hJ_ hFx78_ (by decide) (by decide) (by decide) (by decide) (by decide) rfl rfl rfl rfl rfl rfl
        have bx80_ : 0 ≤ Sx74_.1 4 (0 + (0 + kk_.toNat)) 3 ∧ Sx74_.1 4 (0 + (0 + kk_.toNat)) 3 ≤ 1073741823 := hIx75_.1 4 (0 + (0 + kk_.toNat)) 3 rfl
        refine sm_T_go 3 (c1 := (53, [some (.inr (.inr (some (12, 0)))), some (.inl kk_), some (.inl k_), some (.inl sd_), some (.inr (.inr (some (4, (0 + (0 + kk_.toNat))))))], [.inl (Sx74_.1 4 (0 + (0 + kk_.toNat)) 3), .inl k_], Sx74_)) rfl ?_
        refine sm_T_br (a := 3) (z := 7) rfl (fun cx81_ => ?_) (fun cx81_ => ?_)
        · have cx81_ : (Sx74_.1 4 (0 + (0 + kk_.toNat)) 3) ≤ k_ := of_decide_eq_true cx81_
          refine sm_T_go 1 (c1 := (61, [some (.inr (.inr (some (12, 0)))), some (.inl kk_), some (.inl k_), some (.inl sd_), some (.inr (.inr (some (4, (0 + (0 + kk_.toNat))))))], [.inl 0], Sx74_)) rfl ?_
          refine sm_T_cale (d1_ := 0) (Q1_ := vq_265e 0 Sx74_) (Q2_ := (fun ex_ S1_ => ex_ ∈ ([0] : List Nat) ∧ vx_265e 0 Sx74_ S1_)) rfl rfl (by decide) (vc_265e 0 Sx74_ hIx75_ ) rfl (fun xx87_ Sx82_ px85_ => ?_) (fun u_ Sx82_ px85_ => ?_)
          · obtain ⟨px85m, hIx83_, hFx84_, px85_⟩ := px85_
            refine Or.inr ⟨_, _, rfl, by first | exact px85m | (simp only [List.mem_cons, List.not_mem_nil, or_false] at px85m ⊢; omega), hIx83_, ai_fr_tr hFx78_ (fr_le hFx84_ rfl), ?_⟩
            rw [px85_.2]; exact J8_
          · exact absurd rfl px85_.2.2.2.1
        · have cx81_ : ¬ ((Sx74_.1 4 (0 + (0 + kk_.toNat)) 3) ≤ k_) := of_decide_eq_false cx81_
          refine sm_T_go 2 (c1 := (61, [some (.inr (.inr (some (12, 0)))), some (.inl kk_), some (.inl k_), some (.inl sd_), some (.inr (.inr (some (4, (0 + (0 + kk_.toNat))))))], [.inl 1], Sx74_)) rfl ?_
          refine sm_T_cale (d1_ := 0) (Q1_ := vq_265e 1 Sx74_) (Q2_ := (fun ex_ S1_ => ex_ ∈ ([0] : List Nat) ∧ vx_265e 1 Sx74_ S1_)) rfl rfl (by decide) (vc_265e 1 Sx74_ hIx75_ ) rfl (fun xx93_ Sx88_ px91_ => ?_) (fun u_ Sx88_ px91_ => ?_)
          · exact absurd px91_.2.2.2.1 (by decide)
          obtain ⟨rfl, -, -, px91_, rfl⟩ := px91_
          refine sm_T_go 3 (c1 := (68, [some (.inr (.inr (some (12, 0)))), some (.inl kk_), some (.inl k_), some (.inl sd_), some (.inr (.inr (some (4, (0 + (0 + kk_.toNat))))))], [.inl sd_, .inl k_, .inr (.inr (some (4, (0 + (0 + kk_.toNat)))))], Sx74_)) rfl ?_
          refine sm_T_cal (d1 := 2) (Q1 := vq_80 k_ sd_ (0 + (0 + kk_.toNat)) Sx74_) rfl rfl (by decide) (vc_80 k_ sd_ (0 + (0 + kk_.toNat)) Sx74_ hIx75_ (by omega)) (fun u_ Sx94_ px97_ => ?_)
          obtain ⟨rfl, vx99_, rfl, px97_⟩ := px97_
          refine sm_T_ri rfl (Or.inl ⟨_, _, rfl, _, rfl, hIx75_, hFx78_, ?_⟩)
          exact J8_
end
/-! 99.zp9a -/
section
/-! the face of the class: draw; written by wip/p55/gen/vg -/

/-! the_ face: draw -/
theorem idx_b {y_ W_ x_ : Int} (hy_ : 0 ≤ y_ ∧ y_ ≤ 75) (hW_ : 0 ≤ W_ ∧ W_ ≤ 62) (hx_ : 0 ≤ x_ ∧ x_ < W_) : (y_ * W_ + x_).toNat < 4712 := by
  have a_ : y_ * W_ ≤ 75 * W_ := Int.mul_le_mul_of_nonneg_right hy_.2 hW_.1
  have b_ : 0 ≤ y_ * W_ := Int.mul_nonneg hy_.1 hW_.1
  omega
theorem cg_zb {g_ : Nat → Nat → Int} {c_ : Int} {w_ : Nat} : ∀ {h_ : Nat}, (∀ y_ x_, y_ < h_ → x_ < w_ → g_ y_ x_ ≠ c_) → cg g_ c_ w_ h_ = 0
  | 0, _ => rfl
  | h_ + 1, q_ => by rw [cg_s, cg_zb (h_ := h_) (fun y_ x_ a_ b_ => q_ y_ x_ (by omega) b_), cne_0 (fun x_ hx_ => q_ h_ x_ (by omega) hx_)]
theorem btot_zb {bb_ : Nat} {S_ : sm_S} {c_ : Int} (hc_ : 0 ≤ c_) (hw_ : 0 ≤ S_.1 0 bb_ 0 ∧ S_.1 0 bb_ 0 ≤ 60) (hh_ : 0 ≤ S_.1 0 bb_ 2 ∧ S_.1 0 bb_ 2 ≤ 38) (h_ : ∀ k_, k_ < 4712 → S_.2.2.1 22 (0 + bb_) k_ ≠ c_) : btot bb_ S_ c_ = 0 := by
  have n_ : (-1 : Int) ≠ c_ := by omega
  unfold btot gtw gth
  rw [cg_zb, cg_zb, cg_zb]
  · intro y_ x_ hy_ hx_
    unfold gt2 tk2
    split
    · exact n_
    · exact h_ _ (idx_b (by omega) (by omega) (by omega))
  · intro x_ y_ hx_ hy_
    unfold gt1 tk1
    split
    · exact n_
    · split
      · exact n_
      · exact h_ _ (idx_b (by omega) (by omega) (by omega))
  · intro y_ x_ hy_ hx_
    unfold gt0 tk0
    split
    · exact n_
    · split
      · exact n_
      · exact h_ _ (idx_b (by omega) (by omega) (by omega))
/-! ChipFlow.draw -/
def vw_246 : sx_Wl := ([(4, 0), (4, 1), (4, 9), (4, 10), (4, 11)], [48, 49], [])
def vq_246 (kk_ : Int) (S0_ : sm_S) (u_ : Option sm_V) (S1_ : sm_S) : Prop := ∃ v_ : Int, u_ = some (.inl v_) ∧ gi S1_ ∧ ai_fr (sx_W vw_246) S0_ S1_ ∧ (jC S1_)
def vx_246 (kk_ : Int) (S0_ : sm_S) (S1_ : sm_S) : Prop := gi S1_ ∧ ai_fr (sx_W vw_246) S0_ S1_ ∧ (jC S1_)
set_option maxHeartbeats 400000 in
theorem vc_246 {sc_ : Nat × (Nat → Int)} (kk_ : Int) (S0_ : sm_S) (hI_ : gi S0_) (hJ_ : jC S0_) : sm_T (mt_P sc_) 5 246 (0, [some (.inr (.inr (some (12, 0)))), some (.inl kk_), none, none], [], S0_) (fun ro9_ => (∃ u_ S1_, ro9_ = (.inl u_, S1_, 0) ∧ vq_246 kk_ S0_ u_ S1_) ∨ ∃ ex_ S1_, ro9_ = (.inr ex_, S1_, 1) ∧ ex_ ∈ ([0, 2, 3] : List Nat) ∧ vx_246 kk_ S0_ S1_) := by
  have hF_ : ai_fr (sx_W vw_246) S0_ S0_ := ai_fr_rf
  refine sm_T_go 2 (c1 := (2, [some (.inr (.inr (some (12, 0)))), some (.inl kk_), none, none], [.inl kk_, .inr (.inr (some (12, 0)))], S0_)) rfl ?_
  refine sm_T_cale (d1_ := 1) (Q1_ := vq_272 kk_ S0_) (Q2_ := (fun ex_ S1_ => ex_ ∈ ([0] : List Nat) ∧ vx_272 kk_ S0_ S1_)) rfl rfl (by decide) (vc_272 kk_ S0_ hI_ ) rfl (fun xx6_ Sx1_ px4_ => ?_) (fun u_ Sx1_ px4_ => ?_)
  · obtain ⟨px4m, hIx2_, hFx3_, px4_⟩ := px4_
    refine Or.inr ⟨_, _, rfl, by first | exact px4m | (simp only [List.mem_cons, List.not_mem_nil, or_false] at px4m ⊢; omega), hIx2_, ai_fr_tr hF_ (fr_le hFx3_ rfl), ?_⟩
    first | (rw [px4_.2]; exact hJ_) | (rw [px4_]; exact hJ_)
  obtain ⟨rfl, -, -, rfl, px4_⟩ := px4_
  have a9_ := px4_
  have J9_ := hJ_.2.1 kk_.toNat (by omega) a9_.2
  have J1_ := J9_.1
  have q9_ := a9_.2
  have c8_ : 0 ≤ S0_.1 2 (kk_.toNat) 8 ∧ S0_.1 2 (kk_.toNat) 8 ≤ 150 := hI_.1 2 (kk_.toNat) 8 rfl
  have c1_ : 0 ≤ S0_.1 2 (kk_.toNat) 1 ∧ S0_.1 2 (kk_.toNat) 1 ≤ 12 := hI_.1 2 (kk_.toNat) 1 rfl
  have c2_ : 0 ≤ S0_.1 2 (kk_.toNat) 2 ∧ S0_.1 2 (kk_.toNat) 2 ≤ 6 := hI_.1 2 (kk_.toNat) 2 rfl
  have bx7_ : 0 ≤ S0_.1 0 (0 + kk_.toNat) 11 ∧ S0_.1 0 (0 + kk_.toNat) 11 ≤ 1 := hI_.1 0 (0 + kk_.toNat) 11 rfl
  refine sm_T_go 4 (c1 := (13, [some (.inr (.inr (some (12, 0)))), some (.inl kk_), some (.inr (.inr (some (2, kk_.toNat)))), none], [.inl (S0_.1 0 (0 + kk_.toNat) 11)], S0_)) rfl ?_
  refine sm_T_cale (d1_ := 0) (Q1_ := vq_267e (S0_.1 0 (0 + kk_.toNat) 11) S0_) (Q2_ := (fun ex_ S1_ => ex_ ∈ ([2] : List Nat) ∧ vx_267e (S0_.1 0 (0 + kk_.toNat) 11) S0_ S1_)) rfl rfl (by decide) (vc_267e (S0_.1 0 (0 + kk_.toNat) 11) S0_ hI_ ) rfl (fun xx13_ Sx8_ px11_ => ?_) (fun u_ Sx8_ px11_ => ?_)
  · obtain ⟨px11m, hIx9_, hFx10_, px11_⟩ := px11_
    refine Or.inr ⟨_, _, rfl, by first | exact px11m | (simp only [List.mem_cons, List.not_mem_nil, or_false] at px11m ⊢; omega), hIx9_, ai_fr_tr hF_ (fr_le hFx10_ rfl), ?_⟩
    first | (rw [px11_.2]; exact hJ_) | (rw [px11_]; exact hJ_)
  obtain ⟨rfl, -, -, px11_, rfl⟩ := px11_
  have n13_ := px11_
  have cr : 0 ≤ S0_.1 0 (0 + kk_.toNat) 11 ∧ S0_.1 0 (0 + kk_.toNat) 11 ≤ 1 := hI_.1 0 (0 + kk_.toNat) 11 rfl
  have cs_ : 0 ≤ S0_.1 0 (0 + kk_.toNat) 0 ∧ S0_.1 0 (0 + kk_.toNat) 0 ≤ 60 := hI_.1 0 (0 + kk_.toNat) 0 rfl
  have ch_ : 0 ≤ S0_.1 0 (0 + kk_.toNat) 2 ∧ S0_.1 0 (0 + kk_.toNat) 2 ≤ 38 := hI_.1 0 (0 + kk_.toNat) 2 rfl
  have R9_ := J9_.2.2.2.2.2 (by omega)
  refine sm_T_go 6 (c1 := (28, [some (.inr (.inr (some (12, 0)))), some (.inl kk_), some (.inr (.inr (some (2, kk_.toNat)))), none], [.inr (.inr (some (2, kk_.toNat))), .inr (.inr (some (0, (0 + kk_.toNat)))), .inr (.inr (some (4, (0 + (0 + kk_.toNat)))))], S0_)) rfl ?_
  refine sm_T_cal (d1 := 0) (Q1 := vq_55 kk_.toNat S0_) rfl rfl (by decide) (vc_55 kk_.toNat S0_ hI_ ) (fun u_ Sx14_ px17_ => ?_)
  obtain ⟨rfl, vx19_, rfl, px17_⟩ := px17_
  have n28_ := px17_
  obtain ⟨N9_, hN9_⟩ : ∃ N9_, N9_ = vx19_ := ⟨_, rfl⟩
  refine sm_T_cal (d1 := 4) (Q1 := vq_71 vx19_ (0 + (0 + kk_.toNat)) (0 + kk_.toNat) S0_) rfl rfl (by decide) (vc_71 vx19_ (0 + (0 + kk_.toNat)) (0 + kk_.toNat) S0_ hI_ (by omega) (by exact R9_.1)) (fun u_ Sx20_ px23_ => ?_)
  obtain ⟨vx25_, rfl, hIx21_, hFx22_, px23_⟩ := px23_
  have hFx24_ : ai_fr (sx_W vw_246) S0_ Sx20_ := ai_fr_tr hF_ (fr_le hFx22_ rfl)
  obtain ⟨dx26_, px23_⟩ := px23_
  have p31_ := px23_
  rw [← hN9_] at p31_
  have g31_ := hFx22_
  have J8_ := jC_fr hJ_ hFx24_ (by decide) (by decide) (by decide) (by decide) (by decide) rfl rfl rfl rfl rfl rfl
  have y1_ := hFx22_.1 2 kk_.toNat 1 rfl
  have y2_ := hFx22_.1 2 kk_.toNat 2 rfl
  have y8_ := hFx22_.1 2 kk_.toNat 8 rfl
  refine sm_T_go 3 (c1 := (39, [some (.inr (.inr (some (12, 0)))), some (.inl kk_), some (.inr (.inr (some (2, kk_.toNat)))), some (.inl vx25_)], [.inl 2000, .inl vx25_], Sx20_)) rfl ?_
  refine sm_T_br (a := 4) (z := 7) rfl (fun cx27_ => ?_) (fun cx27_ => ?_)
  · have cx27_ : 2000 < vx25_ := of_decide_eq_true cx27_
    refine sm_T_go 1 (c1 := (47, [some (.inr (.inr (some (12, 0)))), some (.inl kk_), some (.inr (.inr (some (2, kk_.toNat)))), some (.inl vx25_)], [.inl 0], Sx20_)) rfl ?_
    refine sm_T_cale (d1_ := 0) (Q1_ := vq_268e 0 Sx20_) (Q2_ := (fun ex_ S1_ => ex_ ∈ ([3] : List Nat) ∧ vx_268e 0 Sx20_ S1_)) rfl rfl (by decide) (vc_268e 0 Sx20_ hIx21_ ) rfl (fun xx33_ Sx28_ px31_ => ?_) (fun u_ Sx28_ px31_ => ?_)
    · obtain ⟨px31m, hIx29_, hFx30_, px31_⟩ := px31_
      refine Or.inr ⟨_, _, rfl, by first | exact px31m | (simp only [List.mem_cons, List.not_mem_nil, or_false] at px31m ⊢; omega), hIx29_, ai_fr_tr hFx24_ (fr_le hFx30_ rfl), ?_⟩
      rw [px31_.2]; exact J8_
    · exact absurd rfl px31_.2.2.2.1
  · have cx27_ : ¬ (2000 < vx25_) := of_decide_eq_false cx27_
    refine sm_T_go 2 (c1 := (47, [some (.inr (.inr (some (12, 0)))), some (.inl kk_), some (.inr (.inr (some (2, kk_.toNat)))), some (.inl vx25_)], [.inl 1], Sx20_)) rfl ?_
    refine sm_T_cale (d1_ := 0) (Q1_ := vq_268e 1 Sx20_) (Q2_ := (fun ex_ S1_ => ex_ ∈ ([3] : List Nat) ∧ vx_268e 1 Sx20_ S1_)) rfl rfl (by decide) (vc_268e 1 Sx20_ hIx21_ ) rfl (fun xx39_ Sx34_ px37_ => ?_) (fun u_ Sx34_ px37_ => ?_)
    · exact absurd px37_.2.2.2.1 (by decide)
    obtain ⟨rfl, -, -, px37_, rfl⟩ := px37_
    refine sm_T_go 6 (c1 := (62, [some (.inr (.inr (some (12, 0)))), some (.inl kk_), some (.inr (.inr (some (2, kk_.toNat)))), some (.inl vx25_)], [.inr (.inr (some (2, kk_.toNat))), .inr (.inr (some (0, (0 + kk_.toNat)))), .inr (.inr (some (4, (0 + (0 + kk_.toNat)))))], Sx20_)) rfl ?_
    refine sm_T_cal (d1 := 0) (Q1 := vq_55 kk_.toNat Sx20_) rfl rfl (by decide) (vc_55 kk_.toNat Sx20_ hIx21_ ) (fun u_ Sx40_ px43_ => ?_)
    obtain ⟨rfl, vx45_, rfl, px43_⟩ := px43_
    have n62_ := px43_
    have q62_ : vx45_ = N9_ := by omega
    refine sm_T_cal (d1 := 4) (Q1 := vq_72 vx45_ (0 + (0 + kk_.toNat)) (0 + kk_.toNat) Sx20_) rfl rfl (by decide) (vc_72 vx45_ (0 + (0 + kk_.toNat)) (0 + kk_.toNat) Sx20_ hIx21_ (by omega) (by (unfold bst; rw [fr_arr (t := 22) (i := 0 + (0 + kk_.toNat)) g31_ rfl, fr_arr (t := 23) (i := 0 + (0 + kk_.toNat)) g31_ rfl]; exact R9_.1)) (by (intro p9_ h9_; rw [fr_arr (t := 22) (i := 0 + (0 + kk_.toNat)) g31_ rfl]; have z9_ := R9_.2 p9_ h9_; omega)) (by (intro c9_ h9_; rw [p31_.2 c9_ h9_]; unfold btf; rw [btot_cg (fr_arr g31_ rfl) (fr_arr g31_ rfl) (g31_.1 0 (0 + kk_.toNat) 0 rfl) (g31_.1 0 (0 + kk_.toNat) 2 rfl)])) (by (rw [q62_, ssm_cg (g_ := btf (0 + kk_.toNat) S0_) (fun k9_ _ => by (unfold btf; rw [btot_cg (fr_arr g31_ rfl) (fr_arr g31_ rfl) (g31_.1 0 (0 + kk_.toNat) 0 rfl) (g31_.1 0 (0 + kk_.toNat) 2 rfl)]))]; omega)) (by (intro c9_ h9_; unfold btf; rw [btot_cg (fr_arr g31_ rfl) (fr_arr g31_ rfl) (g31_.1 0 (0 + kk_.toNat) 0 rfl) (g31_.1 0 (0 + kk_.toNat) 2 rfl), btot_zb (by omega) (by omega) (by omega) (fun k9_ h8_ => by (have z9_ := R9_.2 k9_ h8_; omega))]; rfl))) (fun u_ Sx46_ px49_ => ?_)
    obtain ⟨rfl, hIx47_, hFx48_, px49_⟩ := px49_
    have hFx50_ : ai_fr (sx_W vw_246) S0_ Sx46_ := ai_fr_tr hFx24_ (fr_le hFx48_ rfl)
    obtain ⟨dx51_, px49_⟩ := px49_
    refine sm_T_go 1 (c1 := (69, [some (.inr (.inr (some (12, 0)))), some (.inl kk_), some (.inr (.inr (some (2, kk_.toNat)))), some (.inl vx25_)], [.inl vx25_], Sx46_)) rfl ?_
    refine sm_T_ri rfl (Or.inl ⟨_, _, rfl, _, rfl, hIx47_, hFx50_, ?_⟩)
    exact jC_fr hJ_ hFx50_ (by decide) (by decide) (by decide) (by decide) (by decide) rfl rfl rfl rfl rfl rfl
end
/-! 99.zq1a -/
section
/-! bytes fed; written by wip/p55/gen/vg -/

/-! bytes fed -/
def fby (x_ e_ : Int) : Int := (vp_nar .byte (Int32.ofInt (i_i2b (i_shr x_ e_)))).toInt
def fdw (a_ b_ c_ d_ e_ : Int) (j_ : Nat) : Int := fby (if j_ < 4 then a_ else if j_ < 8 then b_ else if j_ < 12 then c_ else if j_ < 16 then d_ else e_) (24 - 8 * ((j_ % 4 : Nat) : Int))
def fed (f_ : Nat → Int) (n_ : Nat) (a_ b_ c_ d_ e_ : Int) : Nat → Int := fun k_ => if n_ ≤ k_ ∧ k_ < n_ + 20 then fdw a_ b_ c_ d_ e_ (k_ - n_) else f_ k_
def fd4 (f_ : Nat → Int) (n_ : Nat) (x_ : Int) : Nat → Int := fun k_ => if n_ ≤ k_ ∧ k_ < n_ + 4 then fby x_ (24 - 8 * ((k_ - n_ : Nat) : Int)) else f_ k_
theorem fd4_5 {f_ : Nat → Int} {n_ : Nat} {a_ b_ c_ d_ e_ : Int} : fd4 (fd4 (fd4 (fd4 (fd4 f_ n_ a_) (n_ + 4) b_) (n_ + 8) c_) (n_ + 12) d_) (n_ + 16) e_ = fed f_ n_ a_ b_ c_ d_ e_ := by
  funext k_
  unfold fd4 fed fdw
  by_cases h_ : n_ ≤ k_ ∧ k_ < n_ + 20
  · rw [if_pos h_]
    have hh_ : k_ < n_ + 4 ∨ (n_ + 4 ≤ k_ ∧ k_ < n_ + 8) ∨ (n_ + 8 ≤ k_ ∧ k_ < n_ + 12) ∨ (n_ + 12 ≤ k_ ∧ k_ < n_ + 16) ∨ n_ + 16 ≤ k_ := by omega
    rcases hh_ with z_ | z_ | z_ | z_ | z_
    · rw [if_neg (by omega), if_neg (by omega), if_neg (by omega), if_neg (by omega), if_pos (by omega), if_pos (by omega), show (k_ - n_) % 4 = k_ - n_ by omega]
    · rw [if_neg (by omega), if_neg (by omega), if_neg (by omega), if_pos (by omega), if_neg (by omega), if_pos (by omega), show (k_ - n_) % 4 = k_ - (n_ + 4) by omega]
    · rw [if_neg (by omega), if_neg (by omega), if_pos (by omega), if_neg (by omega), if_neg (by omega), if_pos (by omega), show (k_ - n_) % 4 = k_ - (n_ + 8) by omega]
    · rw [if_neg (by omega), if_pos (by omega), if_neg (by omega), if_neg (by omega), if_neg (by omega), if_pos (by omega), show (k_ - n_) % 4 = k_ - (n_ + 12) by omega]
    · rw [if_pos (by omega), if_neg (by omega), if_neg (by omega), if_neg (by omega), if_neg (by omega), show (k_ - n_) % 4 = k_ - (n_ + 16) by omega]
  · rw [if_neg h_, if_neg (by omega), if_neg (by omega), if_neg (by omega), if_neg (by omega), if_neg (by omega)]
/-! Text.append -/
def vw_185 : sx_Wl := ([(10, 1)], [98], [])
def vq_185 (a1_ : Int) (S0_ : sm_S) (u_ : Option sm_V) (S1_ : sm_S) : Prop := u_ = none ∧ gi S1_ ∧ ai_fr (sx_W vw_185) S0_ S1_ ∧ (S1_.1 10 0 1 = S0_.1 10 0 1 + 4 ∧ S1_.2.2.1 98 0 = fd4 (S0_.2.2.1 98 0) (S0_.1 10 0 1).toNat a1_)
set_option maxHeartbeats 2000000 in
theorem vl_185 {sc_ : Nat × (Nat → Int)} (a1_ : Int) (S0_ : sm_S) (h1_ : S0_.1 10 0 1 ≤ 1276) : ∀ nn_ : Nat, (∀ (i9_ : Int) (S_ : sm_S), gi S_ → ai_fr (sx_W vw_185) S0_ S_ → ((i9_ = 24 - 8 * (S_.1 10 0 1 - S0_.1 10 0 1) ∧ 0 ≤ S_.1 10 0 1 - S0_.1 10 0 1 ∧ S_.1 10 0 1 - S0_.1 10 0 1 ≤ 4) ∧ (∀ k_ : Nat, S_.2.2.1 98 0 k_ = if (S0_.1 10 0 1).toNat ≤ k_ ∧ (k_ : Int) < S_.1 10 0 1 then fby a1_ (24 - 8 * ((k_ - (S0_.1 10 0 1).toNat : Nat) : Int)) else S0_.2.2.1 98 0 k_) ∧ (0 ≤ S0_.1 10 0 1) ∧ True) → ((i9_ + 100).toNat) < nn_ → sm_T (mt_P sc_) 0 185 (3, [some (.inr (.inr (some (10, 0)))), some (.inl a1_), some (.inl i9_)], [], S_) (fun ro9_ => ∃ u_ S1_, ro9_ = (.inl u_, S1_, 0) ∧ vq_185 a1_ S0_ u_ S1_)) := by
  intro nn_
  induction nn_ with
  | zero => exact fun _ _ _ _ _ h_ => absurd h_ (Nat.not_lt_zero _)
  | succ nn_ ih_ =>
    rintro i9_ S_ hI_ hF_ ⟨h0_, hb_, hc0_, -⟩ hm_
    refine sm_T_go 1 (c1 := (4, [some (.inr (.inr (some (10, 0)))), some (.inl a1_), some (.inl i9_)], [.inl i9_], S_)) rfl ?_
    refine sm_T_b0 (a := 2) (z := 41) rfl (fun cx1_ => ?_) (fun cx1_ => ?_)
    · have cx1_ : i9_ < 0 := of_decide_eq_true cx1_
      refine sm_T_rv rfl ⟨_, _, rfl, rfl, hI_, hF_, ?_⟩
      refine ⟨by omega, funext fun k_ => ?_⟩
      rw [hb_ k_]
      unfold fd4
      by_cases y_ : (S0_.1 10 0 1).toNat ≤ k_ ∧ k_ < (S0_.1 10 0 1).toNat + 4
      · rw [if_pos y_, if_pos (by omega)]
      · rw [if_neg y_, if_neg (by omega)]
    · have cx1_ : ¬ (i9_ < 0) := of_decide_eq_false cx1_
      have bx2_ : 0 ≤ S_.1 10 0 1 ∧ S_.1 10 0 1 ≤ 1280 := hI_.1 10 0 1 rfl
      refine sm_T_go 2 (c1 := (11, [some (.inr (.inr (some (10, 0)))), some (.inl a1_), some (.inl i9_)], [.inl (S_.1 10 0 1)], S_)) rfl ?_
      refine sm_T_nt (u := some (.inl 65536)) (S1 := S_) rfl rfl rfl ?_
      refine sm_T_br (a := 3) (z := 26) rfl (fun cx3_ => ?_) (fun cx3_ => ?_)
      · have cx3_ : 65536 ≤ (S_.1 10 0 1) := of_decide_eq_true cx3_
        exfalso; omega
      · have cx3_ : ¬ (65536 ≤ (S_.1 10 0 1)) := of_decide_eq_false cx3_
        refine sm_T_go 6 (c1 := (26, [some (.inr (.inr (some (10, 0)))), some (.inl a1_), some (.inl i9_)], [.inl i9_, .inl a1_, .inl (S_.1 10 0 1), .inr (.inr (some (98, 0)))], S_)) rfl ?_
        refine sm_T_bin (w := (i_shr a1_ i9_)) rfl rfl ?_ -- pc_ 26
        refine sm_T_go 1 (c1 := (28, [some (.inr (.inr (some (10, 0)))), some (.inl a1_), some (.inl i9_)], [.inl (i_i2b (i_shr a1_ i9_)), .inl (S_.1 10 0 1), .inr (.inr (some (98, 0)))], S_)) rfl ?_
        refine sm_T_bast (n := 65536) rfl rfl (by omega) (by omega) ?_
        have bx4_ := ai_nar_b (Int32.ofInt (i_i2b (i_shr a1_ i9_)))
        have hIx5_ : gi (sm_aI S_ 98 0 (S_.1 10 0 1).toNat ((vp_nar .byte (Int32.ofInt (i_i2b (i_shr a1_ i9_)))).toInt)) := gi_aI hI_ (show (-128) ≤ ((vp_nar .byte (Int32.ofInt (i_i2b (i_shr a1_ i9_)))).toInt) ∧ ((vp_nar .byte (Int32.ofInt (i_i2b (i_shr a1_ i9_)))).toInt) ≤ 127 from ⟨by omega, by omega⟩)
        have hFx6_ : ai_fr (sx_W vw_185) S0_ (sm_aI S_ 98 0 (S_.1 10 0 1).toNat ((vp_nar .byte (Int32.ofInt (i_i2b (i_shr a1_ i9_)))).toInt)) := ai_fr_tr hF_ (ai_fr_aI rfl)
        refine sm_T_go 4 (c1 := (35, [some (.inr (.inr (some (10, 0)))), some (.inl a1_), some (.inl i9_)], [.inl 1, .inl (S_.1 10 0 1), .inr (.inr (some (10, 0)))], sm_aI S_ 98 0 (S_.1 10 0 1).toNat ((vp_nar .byte (Int32.ofInt (i_i2b (i_shr a1_ i9_)))).toInt))) rfl ?_
        refine sm_T_bin (w := (S_.1 10 0 1) + 1) rfl (bi_add (by omega) (by omega) (by omega)) ?_ -- pc_ 35
        have hIx7_ : gi (sm_pI (sm_aI S_ 98 0 (S_.1 10 0 1).toNat ((vp_nar .byte (Int32.ofInt (i_i2b (i_shr a1_ i9_)))).toInt)) 10 0 1 ((S_.1 10 0 1) + 1)) := gi_pI hIx5_ (show 0 ≤ (S_.1 10 0 1) + 1 ∧ (S_.1 10 0 1) + 1 ≤ 1280 from ⟨by omega, by omega⟩)
        have hFx8_ : ai_fr (sx_W vw_185) S0_ (sm_pI (sm_aI S_ 98 0 (S_.1 10 0 1).toNat ((vp_nar .byte (Int32.ofInt (i_i2b (i_shr a1_ i9_)))).toInt)) 10 0 1 ((S_.1 10 0 1) + 1)) := ai_fr_tr hFx6_ (ai_fr_pI rfl)
        refine sm_T_go 1 (c1 := (39, [some (.inr (.inr (some (10, 0)))), some (.inl a1_), some (.inl i9_)], [], sm_pI (sm_aI S_ 98 0 (S_.1 10 0 1).toNat ((vp_nar .byte (Int32.ofInt (i_i2b (i_shr a1_ i9_)))).toInt)) 10 0 1 ((S_.1 10 0 1) + 1))) rfl ?_
        refine sm_T_inc (a := 2) (z := (-8)) (v := i9_) (w := i9_ - 8) rfl rfl (by omega) (by omega) (by omega) ?_ -- pc_ 39
        refine sm_T_go 1 (c1 := (3, [some (.inr (.inr (some (10, 0)))), some (.inl a1_), some (.inl (i9_ - 8))], [], sm_pI (sm_aI S_ 98 0 (S_.1 10 0 1).toNat ((vp_nar .byte (Int32.ofInt (i_i2b (i_shr a1_ i9_)))).toInt)) 10 0 1 ((S_.1 10 0 1) + 1))) rfl ?_
        refine ih_ (i9_ - 8) (sm_pI (sm_aI S_ 98 0 (S_.1 10 0 1).toNat ((vp_nar .byte (Int32.ofInt (i_i2b (i_shr a1_ i9_)))).toInt)) 10 0 1 ((S_.1 10 0 1) + 1)) hIx7_ hFx8_ ⟨?_, ?_, ?_, trivial⟩ ?_
        · (rw [rf_eq]; omega)
        · intro k_
          have w9_ := hb_ k_
          rw [rd_fa, rd_eq, rf_eq]
          by_cases y_ : k_ = (S_.1 10 0 1).toNat
          · rw [if_pos y_, if_pos (by omega)]
            unfold fby
            rw [show 24 - 8 * ((k_ - (S0_.1 10 0 1).toNat : Nat) : Int) = i9_ by omega]
          · rw [if_neg y_, w9_]
            by_cases z_ : (S0_.1 10 0 1).toNat ≤ k_ ∧ (k_ : Int) < S_.1 10 0 1
            · rw [if_pos z_, if_pos (by omega)]
            · rw [if_neg z_, if_neg (by omega)]
        · omega
        · omega
set_option maxHeartbeats 2000000 in
theorem vc_185 {sc_ : Nat × (Nat → Int)} (a1_ : Int) (S0_ : sm_S) (hI_ : gi S0_) (h1_ : S0_.1 10 0 1 ≤ 1276) : sm_T (mt_P sc_) 0 185 (0, [some (.inr (.inr (some (10, 0)))), some (.inl a1_), none], [], S0_) (fun ro9_ => ∃ u_ S1_, ro9_ = (.inl u_, S1_, 0) ∧ vq_185 a1_ S0_ u_ S1_) := by
  have hF_ : ai_fr (sx_W vw_185) S0_ S0_ := ai_fr_rf
  have cl_ : 0 ≤ S0_.1 10 0 1 ∧ S0_.1 10 0 1 ≤ 1280 := hI_.1 10 0 1 rfl
  refine sm_T_go 2 (c1 := (3, [some (.inr (.inr (some (10, 0)))), some (.inl a1_), some (.inl 24)], [], S0_)) rfl ?_
  refine (vl_185 a1_ S0_ h1_ _) 24 S0_ hI_ hF_ ⟨?_, ?_, ?_, trivial⟩ (Nat.lt_succ_self _)
  · omega
  · (intro k_; rw [if_neg (by omega)])
  · omega
end
/-! 99.zq2a -/
section
/-! bytes fed to the reference; written by wip/p55/gen/vg -/
/-! M_.feed -/
def vw_279 : sx_Wl := ([(13, 0), (13, 2)], [118], [])
def vq_279 (a1_ : Int) (a2_ : Int) (a3_ : Int) (a4_ : Int) (a5_ : Int) (S0_ : sm_S) (u_ : Option sm_V) (S1_ : sm_S) : Prop := ∃ v_ : Int, u_ = some (.inl v_) ∧ gi S1_ ∧ ai_fr (sx_W vw_279) S0_ S1_ ∧ (v_ = S1_.1 13 0 2 ∧ S1_.1 13 0 2 = S0_.1 13 0 2 + 20 ∧ S1_.1 13 0 0 = 0 ∧ S1_.2.2.1 118 0 = fed (S0_.2.2.1 118 0) (S0_.1 13 0 2).toNat a1_ a2_ a3_ a4_ a5_)
set_option maxHeartbeats 2000000 in
theorem vl_279 {sc_ : Nat × (Nat → Int)} (a1_ : Int) (a2_ : Int) (a3_ : Int) (a4_ : Int) (a5_ : Int) (S0_ : sm_S) (h1_ : S0_.1 13 0 2 ≤ 1260) : ∀ nn_ : Nat, (∀ (k_ : Int) (S_ : sm_S), gi S_ → ai_fr (sx_W vw_279) S0_ S_ → ((0 ≤ k_ ∧ k_ ≤ 20 ∧ S_.1 13 0 2 = S0_.1 13 0 2 + k_ ∧ 0 ≤ S0_.1 13 0 2) ∧ (S_.1 13 0 0 = 0) ∧ (∀ j_ : Nat, S_.2.2.1 118 0 j_ = if (S0_.1 13 0 2).toNat ≤ j_ ∧ (j_ : Int) < S0_.1 13 0 2 + k_ then fdw a1_ a2_ a3_ a4_ a5_ (j_ - (S0_.1 13 0 2).toNat) else S0_.2.2.1 118 0 j_) ∧ True) → ((100 - k_).toNat) < nn_ → sm_T (mt_P sc_) 0 279 (33, [some (.inr (.inr (some (13, 0)))), some (.inl a1_), some (.inl a2_), some (.inl a3_), some (.inl a4_), some (.inl a5_), some (.inl k_), none], [], S_) (fun ro9_ => ∃ u_ S1_, ro9_ = (.inl u_, S1_, 0) ∧ vq_279 a1_ a2_ a3_ a4_ a5_ S0_ u_ S1_)) := by
  intro nn_
  induction nn_ with
  | zero => exact fun _ _ _ _ _ h_ => absurd h_ (Nat.not_lt_zero _)
  | succ nn_ ih_ =>
    rintro k_ S_ hI_ hF_ ⟨h0_, hz_, hb_, -⟩ hm_
    refine sm_T_go 2 (c1 := (37, [some (.inr (.inr (some (13, 0)))), some (.inl a1_), some (.inl a2_), some (.inl a3_), some (.inl a4_), some (.inl a5_), some (.inl k_), none], [.inl 20, .inl k_], S_)) rfl ?_
    refine sm_T_br (a := 3) (z := 90) rfl (fun cx1_ => ?_) (fun cx1_ => ?_)
    · have cx1_ : 20 ≤ k_ := of_decide_eq_true cx1_
      have bx2_ : 0 ≤ S_.1 13 0 2 ∧ S_.1 13 0 2 ≤ 1280 := hI_.1 13 0 2 rfl
      refine sm_T_go 2 (c1 := (131, [some (.inr (.inr (some (13, 0)))), some (.inl a1_), some (.inl a2_), some (.inl a3_), some (.inl a4_), some (.inl a5_), some (.inl k_), none], [.inl (S_.1 13 0 2)], S_)) rfl ?_
      refine sm_T_ri rfl ⟨_, _, rfl, _, rfl, hI_, hF_, ?_⟩
      refine ⟨rfl, by omega, hz_, funext fun j_ => ?_⟩
      rw [hb_ j_]
      unfold fed
      by_cases y_ : (S0_.1 13 0 2).toNat ≤ j_ ∧ j_ < (S0_.1 13 0 2).toNat + 20
      · rw [if_pos y_, if_pos (by omega)]
      · rw [if_neg y_, if_neg (by omega)]
    · have cx1_ : ¬ (20 ≤ k_) := of_decide_eq_false cx1_
      refine sm_T_go 2 (c1 := (43, [some (.inr (.inr (some (13, 0)))), some (.inl a1_), some (.inl a2_), some (.inl a3_), some (.inl a4_), some (.inl a5_), some (.inl k_), none], [.inl 4, .inl k_], S_)) rfl ?_
      refine sm_T_br (a := 3) (z := 7) rfl (fun cx3_ => ?_) (fun cx3_ => ?_)
      · have cx3_ : 4 ≤ k_ := of_decide_eq_true cx3_
        refine sm_T_go 2 (c1 := (54, [some (.inr (.inr (some (13, 0)))), some (.inl a1_), some (.inl a2_), some (.inl a3_), some (.inl a4_), some (.inl a5_), some (.inl k_), none], [.inl 8, .inl k_], S_)) rfl ?_
        refine sm_T_br (a := 3) (z := 7) rfl (fun cx4_ => ?_) (fun cx4_ => ?_)
        · have cx4_ : 8 ≤ k_ := of_decide_eq_true cx4_
          refine sm_T_go 2 (c1 := (65, [some (.inr (.inr (some (13, 0)))), some (.inl a1_), some (.inl a2_), some (.inl a3_), some (.inl a4_), some (.inl a5_), some (.inl k_), none], [.inl 12, .inl k_], S_)) rfl ?_
          refine sm_T_br (a := 3) (z := 7) rfl (fun cx5_ => ?_) (fun cx5_ => ?_)
          · have cx5_ : 12 ≤ k_ := of_decide_eq_true cx5_
            refine sm_T_go 2 (c1 := (76, [some (.inr (.inr (some (13, 0)))), some (.inl a1_), some (.inl a2_), some (.inl a3_), some (.inl a4_), some (.inl a5_), some (.inl k_), none], [.inl 16, .inl k_], S_)) rfl ?_
            refine sm_T_br (a := 3) (z := 8) rfl (fun cx6_ => ?_) (fun cx6_ => ?_)
            · have cx6_ : 16 ≤ k_ := of_decide_eq_true cx6_
              have bx7_ : 0 ≤ S_.1 13 0 2 ∧ S_.1 13 0 2 ≤ 1280 := hI_.1 13 0 2 rfl
              refine sm_T_go 11 (c1 := (105, [some (.inr (.inr (some (13, 0)))), some (.inl a1_), some (.inl a2_), some (.inl a3_), some (.inl a4_), some (.inl a5_), some (.inl k_), some (.inl a5_)], [.inl 3, .inl k_, .inl 8, .inl 24, .inl a5_, .inl (S_.1 13 0 2), .inr (.inr (some (118, 0)))], S_)) rfl ?_
              refine sm_T_bin (w := (k_ % 4)) rfl (bi_msk (k := 2) (by decide)) ?_ -- pc_ 105
              refine sm_T_bin (w := 8 * (k_ % 4)) rfl (bi_mul (by omega) (by omega) (by omega)) ?_ -- pc_ 106
              refine sm_T_bin (w := -(8 * (k_ % 4)) + 24) rfl (bi_sub (by omega) (by omega) (by omega)) ?_ -- pc_ 107
              refine sm_T_bin (w := (i_shr a5_ (-(8 * (k_ % 4)) + 24))) rfl rfl ?_ -- pc_ 108
              refine sm_T_go 1 (c1 := (110, [some (.inr (.inr (some (13, 0)))), some (.inl a1_), some (.inl a2_), some (.inl a3_), some (.inl a4_), some (.inl a5_), some (.inl k_), some (.inl a5_)], [.inl (i_i2b (i_shr a5_ (-(8 * (k_ % 4)) + 24))), .inl (S_.1 13 0 2), .inr (.inr (some (118, 0)))], S_)) rfl ?_
              refine sm_T_bast (n := 65536) rfl rfl (by omega) (by omega) ?_
              have bx8_ := ai_nar_b (Int32.ofInt (i_i2b (i_shr a5_ (-(8 * (k_ % 4)) + 24))))
              have hIx9_ : gi (sm_aI S_ 118 0 (S_.1 13 0 2).toNat ((vp_nar .byte (Int32.ofInt (i_i2b (i_shr a5_ (-(8 * (k_ % 4)) + 24))))).toInt)) := gi_aI hI_ (show (-128) ≤ ((vp_nar .byte (Int32.ofInt (i_i2b (i_shr a5_ (-(8 * (k_ % 4)) + 24))))).toInt) ∧ ((vp_nar .byte (Int32.ofInt (i_i2b (i_shr a5_ (-(8 * (k_ % 4)) + 24))))).toInt) ≤ 127 from ⟨by omega, by omega⟩)
              have hFx10_ : ai_fr (sx_W vw_279) S0_ (sm_aI S_ 118 0 (S_.1 13 0 2).toNat ((vp_nar .byte (Int32.ofInt (i_i2b (i_shr a5_ (-(8 * (k_ % 4)) + 24))))).toInt)) := ai_fr_tr hF_ (ai_fr_aI rfl)
              refine sm_T_go 4 (c1 := (117, [some (.inr (.inr (some (13, 0)))), some (.inl a1_), some (.inl a2_), some (.inl a3_), some (.inl a4_), some (.inl a5_), some (.inl k_), some (.inl a5_)], [.inl 1, .inl (S_.1 13 0 2), .inr (.inr (some (13, 0)))], sm_aI S_ 118 0 (S_.1 13 0 2).toNat ((vp_nar .byte (Int32.ofInt (i_i2b (i_shr a5_ (-(8 * (k_ % 4)) + 24))))).toInt))) rfl ?_
              refine sm_T_bin (w := (S_.1 13 0 2) + 1) rfl (bi_add (by omega) (by omega) (by omega)) ?_ -- pc_ 117
              have hIx11_ : gi (sm_pI (sm_aI S_ 118 0 (S_.1 13 0 2).toNat ((vp_nar .byte (Int32.ofInt (i_i2b (i_shr a5_ (-(8 * (k_ % 4)) + 24))))).toInt)) 13 0 2 ((S_.1 13 0 2) + 1)) := gi_pI hIx9_ (show 0 ≤ (S_.1 13 0 2) + 1 ∧ (S_.1 13 0 2) + 1 ≤ 1280 from ⟨by omega, by omega⟩)
              have hFx12_ : ai_fr (sx_W vw_279) S0_ (sm_pI (sm_aI S_ 118 0 (S_.1 13 0 2).toNat ((vp_nar .byte (Int32.ofInt (i_i2b (i_shr a5_ (-(8 * (k_ % 4)) + 24))))).toInt)) 13 0 2 ((S_.1 13 0 2) + 1)) := ai_fr_tr hFx10_ (ai_fr_pI rfl)
              refine sm_T_go 1 (c1 := (121, [some (.inr (.inr (some (13, 0)))), some (.inl a1_), some (.inl a2_), some (.inl a3_), some (.inl a4_), some (.inl a5_), some (.inl k_), some (.inl a5_)], [], sm_pI (sm_aI S_ 118 0 (S_.1 13 0 2).toNat ((vp_nar .byte (Int32.ofInt (i_i2b (i_shr a5_ (-(8 * (k_ % 4)) + 24))))).toInt)) 13 0 2 ((S_.1 13 0 2) + 1))) rfl ?_
              refine sm_T_inc (a := 6) (z := 1) (v := k_) (w := k_ + 1) rfl rfl (by omega) (by omega) (by omega) ?_ -- pc_ 121
              refine sm_T_go 1 (c1 := (33, [some (.inr (.inr (some (13, 0)))), some (.inl a1_), some (.inl a2_), some (.inl a3_), some (.inl a4_), some (.inl a5_), some (.inl (k_ + 1)), some (.inl a5_)], [], sm_pI (sm_aI S_ 118 0 (S_.1 13 0 2).toNat ((vp_nar .byte (Int32.ofInt (i_i2b (i_shr a5_ (-(8 * (k_ % 4)) + 24))))).toInt)) 13 0 2 ((S_.1 13 0 2) + 1))) rfl ?_
              refine sm_T_wk [some (.inr (.inr (some (13, 0)))), some (.inl a1_), some (.inl a2_), some (.inl a3_), some (.inl a4_), some (.inl a5_), some (.inl (k_ + 1)), none] (by exact ⟨rfl, rfl, rfl, rfl, rfl, rfl, rfl, trivial⟩) ?_
              refine ih_ (k_ + 1) (sm_pI (sm_aI S_ 118 0 (S_.1 13 0 2).toNat ((vp_nar .byte (Int32.ofInt (i_i2b (i_shr a5_ (-(8 * (k_ % 4)) + 24))))).toInt)) 13 0 2 ((S_.1 13 0 2) + 1)) hIx11_ hFx12_ ⟨?_, ?_, ?_, trivial⟩ ?_
              · (rw [rf_eq]; omega)
              · (rw [rf_nk (by decide)]; exact hz_)
              · intro j_
                have w9_ := hb_ j_
                rw [rd_fa, rd_eq]
                by_cases y_ : j_ = (S_.1 13 0 2).toNat
                · rw [if_pos y_, if_pos (by omega)]
                  unfold fdw fby
                  rw [show j_ - (S0_.1 13 0 2).toNat = k_.toNat by omega]
                  rw [show 24 - 8 * ((k_.toNat % 4 : Nat) : Int) = -(8 * (k_ % 4)) + 24 by omega]
                  first | rw [if_pos (by omega)] | rw [if_neg (by omega), if_pos (by omega)] | rw [if_neg (by omega), if_neg (by omega), if_pos (by omega)] | rw [if_neg (by omega), if_neg (by omega), if_neg (by omega), if_pos (by omega)] | rw [if_neg (by omega), if_neg (by omega), if_neg (by omega), if_neg (by omega)]
                · rw [if_neg y_, w9_]
                  by_cases z_ : (S0_.1 13 0 2).toNat ≤ j_ ∧ (j_ : Int) < S0_.1 13 0 2 + k_
                  · rw [if_pos z_, if_pos (by omega)]
                  · rw [if_neg z_, if_neg (by omega)]
              · omega
            · have cx6_ : ¬ (16 ≤ k_) := of_decide_eq_false cx6_
              have bx13_ : 0 ≤ S_.1 13 0 2 ∧ S_.1 13 0 2 ≤ 1280 := hI_.1 13 0 2 rfl
              refine sm_T_go 12 (c1 := (105, [some (.inr (.inr (some (13, 0)))), some (.inl a1_), some (.inl a2_), some (.inl a3_), some (.inl a4_), some (.inl a5_), some (.inl k_), some (.inl a4_)], [.inl 3, .inl k_, .inl 8, .inl 24, .inl a4_, .inl (S_.1 13 0 2), .inr (.inr (some (118, 0)))], S_)) rfl ?_
              refine sm_T_bin (w := (k_ % 4)) rfl (bi_msk (k := 2) (by decide)) ?_ -- pc_ 105
              refine sm_T_bin (w := 8 * (k_ % 4)) rfl (bi_mul (by omega) (by omega) (by omega)) ?_ -- pc_ 106
              refine sm_T_bin (w := -(8 * (k_ % 4)) + 24) rfl (bi_sub (by omega) (by omega) (by omega)) ?_ -- pc_ 107
              refine sm_T_bin (w := (i_shr a4_ (-(8 * (k_ % 4)) + 24))) rfl rfl ?_ -- pc_ 108
              refine sm_T_go 1 (c1 := (110, [some (.inr (.inr (some (13, 0)))), some (.inl a1_), some (.inl a2_), some (.inl a3_), some (.inl a4_), some (.inl a5_), some (.inl k_), some (.inl a4_)], [.inl (i_i2b (i_shr a4_ (-(8 * (k_ % 4)) + 24))), .inl (S_.1 13 0 2), .inr (.inr (some (118, 0)))], S_)) rfl ?_
              refine sm_T_bast (n := 65536) rfl rfl (by omega) (by omega) ?_
              have bx14_ := ai_nar_b (Int32.ofInt (i_i2b (i_shr a4_ (-(8 * (k_ % 4)) + 24))))
              have hIx15_ : gi (sm_aI S_ 118 0 (S_.1 13 0 2).toNat ((vp_nar .byte (Int32.ofInt (i_i2b (i_shr a4_ (-(8 * (k_ % 4)) + 24))))).toInt)) := gi_aI hI_ (show (-128) ≤ ((vp_nar .byte (Int32.ofInt (i_i2b (i_shr a4_ (-(8 * (k_ % 4)) + 24))))).toInt) ∧ ((vp_nar .byte (Int32.ofInt (i_i2b (i_shr a4_ (-(8 * (k_ % 4)) + 24))))).toInt) ≤ 127 from ⟨by omega, by omega⟩)
              have hFx16_ : ai_fr (sx_W vw_279) S0_ (sm_aI S_ 118 0 (S_.1 13 0 2).toNat ((vp_nar .byte (Int32.ofInt (i_i2b (i_shr a4_ (-(8 * (k_ % 4)) + 24))))).toInt)) := ai_fr_tr hF_ (ai_fr_aI rfl)
              refine sm_T_go 4 (c1 := (117, [some (.inr (.inr (some (13, 0)))), some (.inl a1_), some (.inl a2_), some (.inl a3_), some (.inl a4_), some (.inl a5_), some (.inl k_), some (.inl a4_)], [.inl 1, .inl (S_.1 13 0 2), .inr (.inr (some (13, 0)))], sm_aI S_ 118 0 (S_.1 13 0 2).toNat ((vp_nar .byte (Int32.ofInt (i_i2b (i_shr a4_ (-(8 * (k_ % 4)) + 24))))).toInt))) rfl ?_
              refine sm_T_bin (w := (S_.1 13 0 2) + 1) rfl (bi_add (by omega) (by omega) (by omega)) ?_ -- pc_ 117
              have hIx17_ : gi (sm_pI (sm_aI S_ 118 0 (S_.1 13 0 2).toNat ((vp_nar .byte (Int32.ofInt (i_i2b (i_shr a4_ (-(8 * (k_ % 4)) + 24))))).toInt)) 13 0 2 ((S_.1 13 0 2) + 1)) := gi_pI hIx15_ (show 0 ≤ (S_.1 13 0 2) + 1 ∧ (S_.1 13 0 2) + 1 ≤ 1280 from ⟨by omega, by omega⟩)
              have hFx18_ : ai_fr (sx_W vw_279) S0_ (sm_pI (sm_aI S_ 118 0 (S_.1 13 0 2).toNat ((vp_nar .byte (Int32.ofInt (i_i2b (i_shr a4_ (-(8 * (k_ % 4)) + 24))))).toInt)) 13 0 2 ((S_.1 13 0 2) + 1)) := ai_fr_tr hFx16_ (ai_fr_pI rfl)
              refine sm_T_go 1 (c1 := (121, [some (.inr (.inr (some (13, 0)))), some (.inl a1_), some (.inl a2_), some (.inl a3_), some (.inl a4_), some (.inl a5_), some (.inl k_), some (.inl a4_)], [], sm_pI (sm_aI S_ 118 0 (S_.1 13 0 2).toNat ((vp_nar .byte (Int32.ofInt (i_i2b (i_shr a4_ (-(8 * (k_ % 4)) + 24))))).toInt)) 13 0 2 ((S_.1 13 0 2) + 1))) rfl ?_
              refine sm_T_inc (a := 6) (z := 1) (v := k_) (w := k_ + 1) rfl rfl (by omega) (by omega) (by omega) ?_ -- pc_ 121
              refine sm_T_go 1 (c1 := (33, [some (.inr (.inr (some (13, 0)))), some (.inl a1_), some (.inl a2_), some (.inl a3_), some (.inl a4_), some (.inl a5_), some (.inl (k_ + 1)), some (.inl a4_)], [], sm_pI (sm_aI S_ 118 0 (S_.1 13 0 2).toNat ((vp_nar .byte (Int32.ofInt (i_i2b (i_shr a4_ (-(8 * (k_ % 4)) + 24))))).toInt)) 13 0 2 ((S_.1 13 0 2) + 1))) rfl ?_
              refine sm_T_wk [some (.inr (.inr (some (13, 0)))), some (.inl a1_), some (.inl a2_), some (.inl a3_), some (.inl a4_), some (.inl a5_), some (.inl (k_ + 1)), none] (by exact ⟨rfl, rfl, rfl, rfl, rfl, rfl, rfl, trivial⟩) ?_
              refine ih_ (k_ + 1) (sm_pI (sm_aI S_ 118 0 (S_.1 13 0 2).toNat ((vp_nar .byte (Int32.ofInt (i_i2b (i_shr a4_ (-(8 * (k_ % 4)) + 24))))).toInt)) 13 0 2 ((S_.1 13 0 2) + 1)) hIx17_ hFx18_ ⟨?_, ?_, ?_, trivial⟩ ?_
              · (rw [rf_eq]; omega)
              · (rw [rf_nk (by decide)]; exact hz_)
              · intro j_
                have w9_ := hb_ j_
                rw [rd_fa, rd_eq]
                by_cases y_ : j_ = (S_.1 13 0 2).toNat
                · rw [if_pos y_, if_pos (by omega)]
                  unfold fdw fby
                  rw [show j_ - (S0_.1 13 0 2).toNat = k_.toNat by omega]
                  rw [show 24 - 8 * ((k_.toNat % 4 : Nat) : Int) = -(8 * (k_ % 4)) + 24 by omega]
                  first | rw [if_pos (by omega)] | rw [if_neg (by omega), if_pos (by omega)] | rw [if_neg (by omega), if_neg (by omega), if_pos (by omega)] | rw [if_neg (by omega), if_neg (by omega), if_neg (by omega), if_pos (by omega)] | rw [if_neg (by omega), if_neg (by omega), if_neg (by omega), if_neg (by omega)]
                · rw [if_neg y_, w9_]
                  by_cases z_ : (S0_.1 13 0 2).toNat ≤ j_ ∧ (j_ : Int) < S0_.1 13 0 2 + k_
                  · rw [if_pos z_, if_pos (by omega)]
                  · rw [if_neg z_, if_neg (by omega)]
              · omega
          · have cx5_ : ¬ (12 ≤ k_) := of_decide_eq_false cx5_
            have bx19_ : 0 ≤ S_.1 13 0 2 ∧ S_.1 13 0 2 ≤ 1280 := hI_.1 13 0 2 rfl
            refine sm_T_go 12 (c1 := (105, [some (.inr (.inr (some (13, 0)))), some (.inl a1_), some (.inl a2_), some (.inl a3_), some (.inl a4_), some (.inl a5_), some (.inl k_), some (.inl a3_)], [.inl 3, .inl k_, .inl 8, .inl 24, .inl a3_, .inl (S_.1 13 0 2), .inr (.inr (some (118, 0)))], S_)) rfl ?_
            refine sm_T_bin (w := (k_ % 4)) rfl (bi_msk (k := 2) (by decide)) ?_ -- pc_ 105
            refine sm_T_bin (w := 8 * (k_ % 4)) rfl (bi_mul (by omega) (by omega) (by omega)) ?_ -- pc_ 106
            refine sm_T_bin (w := -(8 * (k_ % 4)) + 24) rfl (bi_sub (by omega) (by omega) (by omega)) ?_ -- pc_ 107
            refine sm_T_bin (w := (i_shr a3_ (-(8 * (k_ % 4)) + 24))) rfl rfl ?_ -- pc_ 108
            refine sm_T_go 1 (c1 := (110, [some (.inr (.inr (some (13, 0)))), some (.inl a1_), some (.inl a2_), some (.inl a3_), some (.inl a4_), some (.inl a5_), some (.inl k_), some (.inl a3_)], [.inl (i_i2b (i_shr a3_ (-(8 * (k_ % 4)) + 24))), .inl (S_.1 13 0 2), .inr (.inr (some (118, 0)))], S_)) rfl ?_
            refine sm_T_bast (n := 65536) rfl rfl (by omega) (by omega) ?_
            have bx20_ := ai_nar_b (Int32.ofInt (i_i2b (i_shr a3_ (-(8 * (k_ % 4)) + 24))))
            have hIx21_ : gi (sm_aI S_ 118 0 (S_.1 13 0 2).toNat ((vp_nar .byte (Int32.ofInt (i_i2b (i_shr a3_ (-(8 * (k_ % 4)) + 24))))).toInt)) := gi_aI hI_ (show (-128) ≤ ((vp_nar .byte (Int32.ofInt (i_i2b (i_shr a3_ (-(8 * (k_ % 4)) + 24))))).toInt) ∧ ((vp_nar .byte (Int32.ofInt (i_i2b (i_shr a3_ (-(8 * (k_ % 4)) + 24))))).toInt) ≤ 127 from ⟨by omega, by omega⟩)
            have hFx22_ : ai_fr (sx_W vw_279) S0_ (sm_aI S_ 118 0 (S_.1 13 0 2).toNat ((vp_nar .byte (Int32.ofInt (i_i2b (i_shr a3_ (-(8 * (k_ % 4)) + 24))))).toInt)) := ai_fr_tr hF_ (ai_fr_aI rfl)
            refine sm_T_go 4 (c1 := (117, [some (.inr (.inr (some (13, 0)))), some (.inl a1_), some (.inl a2_), some (.inl a3_), some (.inl a4_), some (.inl a5_), some (.inl k_), some (.inl a3_)], [.inl 1, .inl (S_.1 13 0 2), .inr (.inr (some (13, 0)))], sm_aI S_ 118 0 (S_.1 13 0 2).toNat ((vp_nar .byte (Int32.ofInt (i_i2b (i_shr a3_ (-(8 * (k_ % 4)) + 24))))).toInt))) rfl ?_
            refine sm_T_bin (w := (S_.1 13 0 2) + 1) rfl (bi_add (by omega) (by omega) (by omega)) ?_ -- pc_ 117
            have hIx23_ : gi (sm_pI (sm_aI S_ 118 0 (S_.1 13 0 2).toNat ((vp_nar .byte (Int32.ofInt (i_i2b (i_shr a3_ (-(8 * (k_ % 4)) + 24))))).toInt)) 13 0 2 ((S_.1 13 0 2) + 1)) := gi_pI hIx21_ (show 0 ≤ (S_.1 13 0 2) + 1 ∧ (S_.1 13 0 2) + 1 ≤ 1280 from ⟨by omega, by omega⟩)
            have hFx24_ : ai_fr (sx_W vw_279) S0_ (sm_pI (sm_aI S_ 118 0 (S_.1 13 0 2).toNat ((vp_nar .byte (Int32.ofInt (i_i2b (i_shr a3_ (-(8 * (k_ % 4)) + 24))))).toInt)) 13 0 2 ((S_.1 13 0 2) + 1)) := ai_fr_tr hFx22_ (ai_fr_pI rfl)
            refine sm_T_go 1 (c1 := (121, [some (.inr (.inr (some (13, 0)))), some (.inl a1_), some (.inl a2_), some (.inl a3_), some (.inl a4_), some (.inl a5_), some (.inl k_), some (.inl a3_)], [], sm_pI (sm_aI S_ 118 0 (S_.1 13 0 2).toNat ((vp_nar .byte (Int32.ofInt (i_i2b (i_shr a3_ (-(8 * (k_ % 4)) + 24))))).toInt)) 13 0 2 ((S_.1 13 0 2) + 1))) rfl ?_
            refine sm_T_inc (a := 6) (z := 1) (v := k_) (w := k_ + 1) rfl rfl (by omega) (by omega) (by omega) ?_ -- pc_ 121
            refine sm_T_go 1 (c1 := (33, [some (.inr (.inr (some (13, 0)))), some (.inl a1_), some (.inl a2_), some (.inl a3_), some (.inl a4_), some (.inl a5_), some (.inl (k_ + 1)), some (.inl a3_)], [], sm_pI (sm_aI S_ 118 0 (S_.1 13 0 2).toNat ((vp_nar .byte (Int32.ofInt (i_i2b (i_shr a3_ (-(8 * (k_ % 4)) + 24))))).toInt)) 13 0 2 ((S_.1 13 0 2) + 1))) rfl ?_
            refine sm_T_wk [some (.inr (.inr (some (13, 0)))), some (.inl a1_), some (.inl a2_), some (.inl a3_), some (.inl a4_), some (.inl a5_), some (.inl (k_ + 1)), none] (by exact ⟨rfl, rfl, rfl, rfl, rfl, rfl, rfl, trivial⟩) ?_
            refine ih_ (k_ + 1) (sm_pI (sm_aI S_ 118 0 (S_.1 13 0 2).toNat ((vp_nar .byte (Int32.ofInt (i_i2b (i_shr a3_ (-(8 * (k_ % 4)) + 24))))).toInt)) 13 0 2 ((S_.1 13 0 2) + 1)) hIx23_ hFx24_ ⟨?_, ?_, ?_, trivial⟩ ?_
            · (rw [rf_eq]; omega)
            · (rw [rf_nk (by decide)]; exact hz_)
            · intro j_
              have w9_ := hb_ j_
              rw [rd_fa, rd_eq]
              by_cases y_ : j_ = (S_.1 13 0 2).toNat
              · rw [if_pos y_, if_pos (by omega)]
                unfold fdw fby
                rw [show j_ - (S0_.1 13 0 2).toNat = k_.toNat by omega]
                rw [show 24 - 8 * ((k_.toNat % 4 : Nat) : Int) = -(8 * (k_ % 4)) + 24 by omega]
                first | rw [if_pos (by omega)] | rw [if_neg (by omega), if_pos (by omega)] | rw [if_neg (by omega), if_neg (by omega), if_pos (by omega)] | rw [if_neg (by omega), if_neg (by omega), if_neg (by omega), if_pos (by omega)] | rw [if_neg (by omega), if_neg (by omega), if_neg (by omega), if_neg (by omega)]
              · rw [if_neg y_, w9_]
                by_cases z_ : (S0_.1 13 0 2).toNat ≤ j_ ∧ (j_ : Int) < S0_.1 13 0 2 + k_
                · rw [if_pos z_, if_pos (by omega)]
                · rw [if_neg z_, if_neg (by omega)]
            · omega
        · have cx4_ : ¬ (8 ≤ k_) := of_decide_eq_false cx4_
          have bx25_ : 0 ≤ S_.1 13 0 2 ∧ S_.1 13 0 2 ≤ 1280 := hI_.1 13 0 2 rfl
          refine sm_T_go 12 (c1 := (105, [some (.inr (.inr (some (13, 0)))), some (.inl a1_), some (.inl a2_), some (.inl a3_), some (.inl a4_), some (.inl a5_), some (.inl k_), some (.inl a2_)], [.inl 3, .inl k_, .inl 8, .inl 24, .inl a2_, .inl (S_.1 13 0 2), .inr (.inr (some (118, 0)))], S_)) rfl ?_
          refine sm_T_bin (w := (k_ % 4)) rfl (bi_msk (k := 2) (by decide)) ?_ -- pc_ 105
          refine sm_T_bin (w := 8 * (k_ % 4)) rfl (bi_mul (by omega) (by omega) (by omega)) ?_ -- pc_ 106
          refine sm_T_bin (w := -(8 * (k_ % 4)) + 24) rfl (bi_sub (by omega) (by omega) (by omega)) ?_ -- pc_ 107
          refine sm_T_bin (w := (i_shr a2_ (-(8 * (k_ % 4)) + 24))) rfl rfl ?_ -- pc_ 108
          refine sm_T_go 1 (c1 := (110, [some (.inr (.inr (some (13, 0)))), some (.inl a1_), some (.inl a2_), some (.inl a3_), some (.inl a4_), some (.inl a5_), some (.inl k_), some (.inl a2_)], [.inl (i_i2b (i_shr a2_ (-(8 * (k_ % 4)) + 24))), .inl (S_.1 13 0 2), .inr (.inr (some (118, 0)))], S_)) rfl ?_
          refine sm_T_bast (n := 65536) rfl rfl (by omega) (by omega) ?_
          have bx26_ := ai_nar_b (Int32.ofInt (i_i2b (i_shr a2_ (-(8 * (k_ % 4)) + 24))))
          have hIx27_ : gi (sm_aI S_ 118 0 (S_.1 13 0 2).toNat ((vp_nar .byte (Int32.ofInt (i_i2b (i_shr a2_ (-(8 * (k_ % 4)) + 24))))).toInt)) := gi_aI hI_ (show (-128) ≤ ((vp_nar .byte (Int32.ofInt (i_i2b (i_shr a2_ (-(8 * (k_ % 4)) + 24))))).toInt) ∧ ((vp_nar .byte (Int32.ofInt (i_i2b (i_shr a2_ (-(8 * (k_ % 4)) + 24))))).toInt) ≤ 127 from ⟨by omega, by omega⟩)
          have hFx28_ : ai_fr (sx_W vw_279) S0_ (sm_aI S_ 118 0 (S_.1 13 0 2).toNat ((vp_nar .byte (Int32.ofInt (i_i2b (i_shr a2_ (-(8 * (k_ % 4)) + 24))))).toInt)) := ai_fr_tr hF_ (ai_fr_aI rfl)
          refine sm_T_go 4 (c1 := (117, [some (.inr (.inr (some (13, 0)))), some (.inl a1_), some (.inl a2_), some (.inl a3_), some (.inl a4_), some (.inl a5_), some (.inl k_), some (.inl a2_)], [.inl 1, .inl (S_.1 13 0 2), .inr (.inr (some (13, 0)))], sm_aI S_ 118 0 (S_.1 13 0 2).toNat ((vp_nar .byte (Int32.ofInt (i_i2b (i_shr a2_ (-(8 * (k_ % 4)) + 24))))).toInt))) rfl ?_
          refine sm_T_bin (w := (S_.1 13 0 2) + 1) rfl (bi_add (by omega) (by omega) (by omega)) ?_ -- pc_ 117
          have hIx29_ : gi (sm_pI (sm_aI S_ 118 0 (S_.1 13 0 2).toNat ((vp_nar .byte (Int32.ofInt (i_i2b (i_shr a2_ (-(8 * (k_ % 4)) + 24))))).toInt)) 13 0 2 ((S_.1 13 0 2) + 1)) := gi_pI hIx27_ (show 0 ≤ (S_.1 13 0 2) + 1 ∧ (S_.1 13 0 2) + 1 ≤ 1280 from ⟨by omega, by omega⟩)
          have hFx30_ : ai_fr (sx_W vw_279) S0_ (sm_pI (sm_aI S_ 118 0 (S_.1 13 0 2).toNat ((vp_nar .byte (Int32.ofInt (i_i2b (i_shr a2_ (-(8 * (k_ % 4)) + 24))))).toInt)) 13 0 2 ((S_.1 13 0 2) + 1)) := ai_fr_tr hFx28_ (ai_fr_pI rfl)
          refine sm_T_go 1 (c1 := (121, [some (.inr (.inr (some (13, 0)))), some (.inl a1_), some (.inl a2_), some (.inl a3_), some (.inl a4_), some (.inl a5_), some (.inl k_), some (.inl a2_)], [], sm_pI (sm_aI S_ 118 0 (S_.1 13 0 2).toNat ((vp_nar .byte (Int32.ofInt (i_i2b (i_shr a2_ (-(8 * (k_ % 4)) + 24))))).toInt)) 13 0 2 ((S_.1 13 0 2) + 1))) rfl ?_
          refine sm_T_inc (a := 6) (z := 1) (v := k_) (w := k_ + 1) rfl rfl (by omega) (by omega) (by omega) ?_ -- pc_ 121
          refine sm_T_go 1 (c1 := (33, [some (.inr (.inr (some (13, 0)))), some (.inl a1_), some (.inl a2_), some (.inl a3_), some (.inl a4_), some (.inl a5_), some (.inl (k_ + 1)), some (.inl a2_)], [], sm_pI (sm_aI S_ 118 0 (S_.1 13 0 2).toNat ((vp_nar .byte (Int32.ofInt (i_i2b (i_shr a2_ (-(8 * (k_ % 4)) + 24))))).toInt)) 13 0 2 ((S_.1 13 0 2) + 1))) rfl ?_
          refine sm_T_wk [some (.inr (.inr (some (13, 0)))), some (.inl a1_), some (.inl a2_), some (.inl a3_), some (.inl a4_), some (.inl a5_), some (.inl (k_ + 1)), none] (by exact ⟨rfl, rfl, rfl, rfl, rfl, rfl, rfl, trivial⟩) ?_
          refine ih_ (k_ + 1) (sm_pI (sm_aI S_ 118 0 (S_.1 13 0 2).toNat ((vp_nar .byte (Int32.ofInt (i_i2b (i_shr a2_ (-(8 * (k_ % 4)) + 24))))).toInt)) 13 0 2 ((S_.1 13 0 2) + 1)) hIx29_ hFx30_ ⟨?_, ?_, ?_, trivial⟩ ?_
          · (rw [rf_eq]; omega)
          · (rw [rf_nk (by decide)]; exact hz_)
          · intro j_
            have w9_ := hb_ j_
            rw [rd_fa, rd_eq]
            by_cases y_ : j_ = (S_.1 13 0 2).toNat
            · rw [if_pos y_, if_pos (by omega)]
              unfold fdw fby
              rw [show j_ - (S0_.1 13 0 2).toNat = k_.toNat by omega]
              rw [show 24 - 8 * ((k_.toNat % 4 : Nat) : Int) = -(8 * (k_ % 4)) + 24 by omega]
              first | rw [if_pos (by omega)] | rw [if_neg (by omega), if_pos (by omega)] | rw [if_neg (by omega), if_neg (by omega), if_pos (by omega)] | rw [if_neg (by omega), if_neg (by omega), if_neg (by omega), if_pos (by omega)] | rw [if_neg (by omega), if_neg (by omega), if_neg (by omega), if_neg (by omega)]
            · rw [if_neg y_, w9_]
              by_cases z_ : (S0_.1 13 0 2).toNat ≤ j_ ∧ (j_ : Int) < S0_.1 13 0 2 + k_
              · rw [if_pos z_, if_pos (by omega)]
              · rw [if_neg z_, if_neg (by omega)]
          · omega
      · have cx3_ : ¬ (4 ≤ k_) := of_decide_eq_false cx3_
        have bx31_ : 0 ≤ S_.1 13 0 2 ∧ S_.1 13 0 2 ≤ 1280 := hI_.1 13 0 2 rfl
        refine sm_T_go 12 (c1 := (105, [some (.inr (.inr (some (13, 0)))), some (.inl a1_), some (.inl a2_), some (.inl a3_), some (.inl a4_), some (.inl a5_), some (.inl k_), some (.inl a1_)], [.inl 3, .inl k_, .inl 8, .inl 24, .inl a1_, .inl (S_.1 13 0 2), .inr (.inr (some (118, 0)))], S_)) rfl ?_
        refine sm_T_bin (w := (k_ % 4)) rfl (bi_msk (k := 2) (by decide)) ?_ -- pc_ 105
        refine sm_T_bin (w := 8 * (k_ % 4)) rfl (bi_mul (by omega) (by omega) (by omega)) ?_ -- pc_ 106
        refine sm_T_bin (w := -(8 * (k_ % 4)) + 24) rfl (bi_sub (by omega) (by omega) (by omega)) ?_ -- pc_ 107
        refine sm_T_bin (w := (i_shr a1_ (-(8 * (k_ % 4)) + 24))) rfl rfl ?_ -- pc_ 108
        refine sm_T_go 1 (c1 := (110, [some (.inr (.inr (some (13, 0)))), some (.inl a1_), some (.inl a2_), some (.inl a3_), some (.inl a4_), some (.inl a5_), some (.inl k_), some (.inl a1_)], [.inl (i_i2b (i_shr a1_ (-(8 * (k_ % 4)) + 24))), .inl (S_.1 13 0 2), .inr (.inr (some (118, 0)))], S_)) rfl ?_
        refine sm_T_bast (n := 65536) rfl rfl (by omega) (by omega) ?_
        have bx32_ := ai_nar_b (Int32.ofInt (i_i2b (i_shr a1_ (-(8 * (k_ % 4)) + 24))))
        have hIx33_ : gi (sm_aI S_ 118 0 (S_.1 13 0 2).toNat ((vp_nar .byte (Int32.ofInt (i_i2b (i_shr a1_ (-(8 * (k_ % 4)) + 24))))).toInt)) := gi_aI hI_ (show (-128) ≤ ((vp_nar .byte (Int32.ofInt (i_i2b (i_shr a1_ (-(8 * (k_ % 4)) + 24))))).toInt) ∧ ((vp_nar .byte (Int32.ofInt (i_i2b (i_shr a1_ (-(8 * (k_ % 4)) + 24))))).toInt) ≤ 127 from ⟨by omega, by omega⟩)
        have hFx34_ : ai_fr (sx_W vw_279) S0_ (sm_aI S_ 118 0 (S_.1 13 0 2).toNat ((vp_nar .byte (Int32.ofInt (i_i2b (i_shr a1_ (-(8 * (k_ % 4)) + 24))))).toInt)) := ai_fr_tr hF_ (ai_fr_aI rfl)
        refine sm_T_go 4 (c1 := (117, [some (.inr (.inr (some (13, 0)))), some (.inl a1_), some (.inl a2_), some (.inl a3_), some (.inl a4_), some (.inl a5_), some (.inl k_), some (.inl a1_)], [.inl 1, .inl (S_.1 13 0 2), .inr (.inr (some (13, 0)))], sm_aI S_ 118 0 (S_.1 13 0 2).toNat ((vp_nar .byte (Int32.ofInt (i_i2b (i_shr a1_ (-(8 * (k_ % 4)) + 24))))).toInt))) rfl ?_
        refine sm_T_bin (w := (S_.1 13 0 2) + 1) rfl (bi_add (by omega) (by omega) (by omega)) ?_ -- pc_ 117
        have hIx35_ : gi (sm_pI (sm_aI S_ 118 0 (S_.1 13 0 2).toNat ((vp_nar .byte (Int32.ofInt (i_i2b (i_shr a1_ (-(8 * (k_ % 4)) + 24))))).toInt)) 13 0 2 ((S_.1 13 0 2) + 1)) := gi_pI hIx33_ (show 0 ≤ (S_.1 13 0 2) + 1 ∧ (S_.1 13 0 2) + 1 ≤ 1280 from ⟨by omega, by omega⟩)
        have hFx36_ : ai_fr (sx_W vw_279) S0_ (sm_pI (sm_aI S_ 118 0 (S_.1 13 0 2).toNat ((vp_nar .byte (Int32.ofInt (i_i2b (i_shr a1_ (-(8 * (k_ % 4)) + 24))))).toInt)) 13 0 2 ((S_.1 13 0 2) + 1)) := ai_fr_tr hFx34_ (ai_fr_pI rfl)
        refine sm_T_go 1 (c1 := (121, [some (.inr (.inr (some (13, 0)))), some (.inl a1_), some (.inl a2_), some (.inl a3_), some (.inl a4_), some (.inl a5_), some (.inl k_), some (.inl a1_)], [], sm_pI (sm_aI S_ 118 0 (S_.1 13 0 2).toNat ((vp_nar .byte (Int32.ofInt (i_i2b (i_shr a1_ (-(8 * (k_ % 4)) + 24))))).toInt)) 13 0 2 ((S_.1 13 0 2) + 1))) rfl ?_
        refine sm_T_inc (a := 6) (z := 1) (v := k_) (w := k_ + 1) rfl rfl (by omega) (by omega) (by omega) ?_ -- pc_ 121
        refine sm_T_go 1 (c1 := (33, [some (.inr (.inr (some (13, 0)))), some (.inl a1_), some (.inl a2_), some (.inl a3_), some (.inl a4_), some (.inl a5_), some (.inl (k_ + 1)), some (.inl a1_)], [], sm_pI (sm_aI S_ 118 0 (S_.1 13 0 2).toNat ((vp_nar .byte (Int32.ofInt (i_i2b (i_shr a1_ (-(8 * (k_ % 4)) + 24))))).toInt)) 13 0 2 ((S_.1 13 0 2) + 1))) rfl ?_
        refine sm_T_wk [some (.inr (.inr (some (13, 0)))), some (.inl a1_), some (.inl a2_), some (.inl a3_), some (.inl a4_), some (.inl a5_), some (.inl (k_ + 1)), none] (by exact ⟨rfl, rfl, rfl, rfl, rfl, rfl, rfl, trivial⟩) ?_
        refine ih_ (k_ + 1) (sm_pI (sm_aI S_ 118 0 (S_.1 13 0 2).toNat ((vp_nar .byte (Int32.ofInt (i_i2b (i_shr a1_ (-(8 * (k_ % 4)) + 24))))).toInt)) 13 0 2 ((S_.1 13 0 2) + 1)) hIx35_ hFx36_ ⟨?_, ?_, ?_, trivial⟩ ?_
        · (rw [rf_eq]; omega)
        · (rw [rf_nk (by decide)]; exact hz_)
        · intro j_
          have w9_ := hb_ j_
          rw [rd_fa, rd_eq]
          by_cases y_ : j_ = (S_.1 13 0 2).toNat
          · rw [if_pos y_, if_pos (by omega)]
            unfold fdw fby
            rw [show j_ - (S0_.1 13 0 2).toNat = k_.toNat by omega]
            rw [show 24 - 8 * ((k_.toNat % 4 : Nat) : Int) = -(8 * (k_ % 4)) + 24 by omega]
            first | rw [if_pos (by omega)] | rw [if_neg (by omega), if_pos (by omega)] | rw [if_neg (by omega), if_neg (by omega), if_pos (by omega)] | rw [if_neg (by omega), if_neg (by omega), if_neg (by omega), if_pos (by omega)] | rw [if_neg (by omega), if_neg (by omega), if_neg (by omega), if_neg (by omega)]
          · rw [if_neg y_, w9_]
            by_cases z_ : (S0_.1 13 0 2).toNat ≤ j_ ∧ (j_ : Int) < S0_.1 13 0 2 + k_
            · rw [if_pos z_, if_pos (by omega)]
            · rw [if_neg z_, if_neg (by omega)]
        · omega
set_option maxHeartbeats 2000000 in
theorem vc_279 {sc_ : Nat × (Nat → Int)} (a1_ : Int) (a2_ : Int) (a3_ : Int) (a4_ : Int) (a5_ : Int) (S0_ : sm_S) (hI_ : gi S0_) (h1_ : S0_.1 13 0 2 ≤ 1260) : sm_T (mt_P sc_) 0 279 (0, [some (.inr (.inr (some (13, 0)))), some (.inl a1_), some (.inl a2_), some (.inl a3_), some (.inl a4_), some (.inl a5_), none, none], [], S0_) (fun ro9_ => ∃ u_ S1_, ro9_ = (.inl u_, S1_, 0) ∧ vq_279 a1_ a2_ a3_ a4_ a5_ S0_ u_ S1_) := by
  have hF_ : ai_fr (sx_W vw_279) S0_ S0_ := ai_fr_rf
  have cl_ : 0 ≤ S0_.1 13 0 2 ∧ S0_.1 13 0 2 ≤ 1280 := hI_.1 13 0 2 rfl
  have bx1_ : 0 ≤ S0_.1 13 0 2 ∧ S0_.1 13 0 2 ≤ 1280 := hI_.1 13 0 2 rfl
  refine sm_T_go 4 (c1 := (7, [some (.inr (.inr (some (13, 0)))), some (.inl a1_), some (.inl a2_), some (.inl a3_), some (.inl a4_), some (.inl a5_), none, none], [.inl 20, .inl (S0_.1 13 0 2), .inr (.inr (some (13, 0)))], S0_)) rfl ?_
  refine sm_T_bin (w := (S0_.1 13 0 2) + 20) rfl (bi_add (by omega) (by omega) (by omega)) ?_ -- pc_ 7
  refine sm_T_nt (u := some (.inl 65536)) (S1 := S0_) rfl rfl rfl ?_
  refine sm_T_br (a := 5) (z := 7) rfl (fun cx2_ => ?_) (fun cx2_ => ?_)
  · have cx2_ : (S0_.1 13 0 2) + 20 ≤ 65536 := of_decide_eq_true cx2_
    have hIx3_ : gi (sm_pI S0_ 13 0 0 0) := gi_pI hI_ (show 0 ≤ 0 ∧ 0 ≤ 4 from ⟨by omega, by omega⟩)
    have hFx4_ : ai_fr (sx_W vw_279) S0_ (sm_pI S0_ 13 0 0 0) := ai_fr_tr hF_ (ai_fr_pI rfl)
    refine sm_T_go 7 (c1 := (33, [some (.inr (.inr (some (13, 0)))), some (.inl a1_), some (.inl a2_), some (.inl a3_), some (.inl a4_), some (.inl a5_), some (.inl 0), none], [], sm_pI S0_ 13 0 0 0)) rfl ?_
    refine (vl_279 a1_ a2_ a3_ a4_ a5_ S0_ h1_ _) 0 (sm_pI S0_ 13 0 0 0) hIx3_ hFx4_ ⟨?_, ?_, ?_, trivial⟩ (Nat.lt_succ_self _)
    · (first | omega | (rw [rf_nk (by decide)]; omega))
    · first | exact rf_eq | rfl
    · (intro j_; rw [if_neg (by omega)]; first | rfl | rw [rd_fa])
  · have cx2_ : ¬ ((S0_.1 13 0 2) + 20 ≤ 65536) := of_decide_eq_false cx2_
    exfalso; omega
end
/-! 99.zq3a -/
section
/-! drop; written by wip/p55/gen/vg -/

/-! drop, play, restart: all_ that holds -/
theorem jC_d {w_ : sx_Wl} {S_ S'_ : sm_S} (h_ : jC S_) (g_ : ai_fr (sx_W w_) S_ S'_) (d_ : dAll S'_) (h2_ : ∀ k_, k_ < 9 → (sx_W w_).1 2 k_ = false) (h0_ : ∀ k_, k_ < 12 → (sx_W w_).1 0 k_ = false) (ha_ : ∀ t_, t_ < 24 → 14 ≤ t_ → t_ ≠ 21 → (sx_W w_).2.1 t_ = false) (hb_ : (sx_W w_).2.1 34 = false) (t1_ : (sx_W w_).1 11 5 = false) (t2_ : (sx_W w_).2.1 102 = false) (t3_ : (sx_W w_).2.1 104 = false) (t4_ : (sx_W w_).2.1 105 = false) (t5_ : (sx_W w_).2.1 95 = false) : jC S'_ :=
  ⟨d_, cAll_fr h_.2.1 g_ h2_ h0_ ha_ hb_, tpo_fr h_.2.2.1 g_ t1_ t2_ t3_ t4_, shn_fr h_.2.2.2 g_ t5_⟩
theorem jC_dr {i_ : Nat} {S_ : sm_S} (h_ : jC S_) : jC (sm_pI S_ 2 i_ 0 0) := by
  have fx : ai_fr (sx_W ([(2, 0)], [], [])) S_ (sm_pI S_ 2 i_ 0 0) := ai_fr_pI rfl
  refine ⟨dAll_fr h_.1 fx (by decide) (by decide), fun j_ hj_ q_ => ?_, tpo_fr h_.2.2.1 fx, shn_fr h_.2.2.2 fx⟩
  by_cases z_ : j_ = i_
  · rw [z_, rf_eq] at q_
    exact absurd q_ (by decide)
  · rw [rd_ff, if_neg (fun q_ => z_ q_.2.1)] at q_
    exact cOk_q (h_.2.1 j_ hj_ q_) (fun k_ a_ _ => rf_nk (by omega)) (fun k_ _ => rf_nt (by decide)) (fun t_ _ _ _ => rfl) rfl
/-! ChipFlow.drop -/
end
/-! 99.zr1 -/
section
/-! chips of the reference; written by wip/p55/gen/vg -/

/-! chips of_ the_ reference -/
def rct (t_ : Nat) : Bool := (decide (222 ≤ t_) && decide (t_ < 238)) || (decide (239 ≤ t_) && decide (t_ < 243)) || t_ == 251
def rcs (t_ : Nat) : Nat := if t_ = 229 then 150 else if t_ = 230 then 450 else if t_ = 231 then 16 else if t_ = 232 then 6 else if 234 ≤ t_ ∧ t_ ≤ 237 then 12 else if t_ = 241 ∨ t_ = 242 then 156 else 1
/-- the_ other chips stay as_ they were -/
def rcf (c_ : Nat) (S_ S'_ : sm_S) : Prop := ∀ t_, rct t_ = true → ∀ j_, (j_ < rcs t_ * c_ ∨ rcs t_ * c_ + rcs t_ ≤ j_) → S'_.2.2.1 t_ 0 j_ = S_.2.2.1 t_ 0 j_
theorem rcf_rf {c_ : Nat} {S_ : sm_S} : rcf c_ S_ S_ := fun _ _ _ _ => rfl
theorem rcf_tr {c_ : Nat} {S_ S'_ S2_ : sm_S} (h_ : rcf c_ S_ S'_) (g_ : rcf c_ S'_ S2_) : rcf c_ S_ S2_ := fun t_ h1_ j_ hj_ => (g_ t_ h1_ j_ hj_).trans (h_ t_ h1_ j_ hj_)
theorem rcf_cg {a_ b_ : Nat} {S_ S'_ : sm_S} (e_ : a_ = b_) (h_ : rcf a_ S_ S'_) : rcf b_ S_ S'_ := e_ ▸ h_
def rwf (w_ : sx_Wl) : Bool := w_.2.1.all (fun t_ => !rct t_)
theorem rwf_0 {w_ : sx_Wl} (h_ : rwf w_ = true) {t_ : Nat} (ht_ : rct t_ = true) : (sx_W w_).2.1 t_ = false := by
  unfold rwf at h_
  unfold sx_W
  rw [List.any_eq_false]
  intro q_ hq_ z_
  have u_ := List.all_eq_true.mp h_ q_ hq_
  have e_ : q_ = t_ := of_decide_eq_true z_
  rw [e_, ht_] at u_
  exact absurd u_ (by decide)
theorem rcf_fr {w_ : sx_Wl} {c_ : Nat} {S_ S'_ : sm_S} (g_ : ai_fr (sx_W w_) S_ S'_) (h_ : rwf w_ = true) : rcf c_ S_ S'_ := fun t_ ht_ j_ _ => congrFun (fr_arr g_ (rwf_0 h_ ht_)) j_
theorem rcf_aI {c_ t_ k_ : Nat} {S_ S'_ : sm_S} {v_ : Int} (h_ : rcf c_ S_ S'_) (g_ : rct t_ = false ∨ (rcs t_ * c_ ≤ k_ ∧ k_ < rcs t_ * c_ + rcs t_)) : rcf c_ S_ (sm_aI S'_ t_ 0 k_ v_) := fun t1_ h1_ j_ hj_ => by
  rw [rd_aa, if_neg (by
    rintro ⟨q1_, -, q3_⟩
    rcases g_ with g_ | g_
    · rw [q1_, g_] at h1_; exact absurd h1_ (by decide)
    · rw [q1_] at hj_; omega)]
  exact h_ t1_ h1_ j_ hj_
/-- gates take nets from below -/
def cgt (c_ : Int) (S_ : sm_S) : Prop := ∀ g_ : Int, 0 ≤ g_ → g_ < S_.2.2.1 228 0 c_.toNat → ∀ k_ : Int, 0 ≤ k_ → k_ < 3 → (k_ = 0 ∨ k_ < S_.2.2.1 234 0 (12 * c_ + S_.2.2.1 229 0 (150 * c_ + g_).toNat).toNat) → 0 ≤ S_.2.2.1 230 0 (450 * c_ + 3 * g_ + k_).toNat ∧ S_.2.2.1 230 0 (450 * c_ + 3 * g_ + k_).toNat < S_.2.2.1 223 0 c_.toNat + S_.2.2.1 224 0 c_.toNat + g_
def con (c_ : Int) (S_ : sm_S) : Prop := (∀ k_ : Int, 0 ≤ k_ → k_ < S_.2.2.1 225 0 c_.toNat → S_.2.2.1 231 0 (16 * c_ + k_).toNat < S_.2.2.1 223 0 c_.toNat + S_.2.2.1 224 0 c_.toNat + S_.2.2.1 228 0 c_.toNat) ∧ ∀ k_ : Int, 0 ≤ k_ → k_ < S_.2.2.1 224 0 c_.toNat → S_.2.2.1 232 0 (6 * c_ + k_).toNat < S_.2.2.1 223 0 c_.toNat + S_.2.2.1 224 0 c_.toNat + S_.2.2.1 228 0 c_.toNat
def csz (c_ : Int) (S_ : sm_S) (e_ : Int) : Int := if e_ < S_.2.2.1 224 0 c_.toNat then 2 else 1 + S_.2.2.1 234 0 (12 * c_ + S_.2.2.1 229 0 (150 * c_ + (e_ - S_.2.2.1 224 0 c_.toNat)).toNat).toNat
def cpl (c_ : Int) (S_ : sm_S) : Prop := imq (1 ≤ S_.2.2.1 240 0 c_.toNat) (4 ≤ S_.2.2.1 239 0 c_.toNat ∧ ∀ e_ : Int, 0 ≤ e_ → e_ < S_.2.2.1 224 0 c_.toNat + S_.2.2.1 228 0 c_.toNat → S_.2.2.1 241 0 (156 * c_ + e_).toNat + csz c_ S_ e_ ≤ S_.2.2.1 239 0 c_.toNat ∧ S_.2.2.1 242 0 (156 * c_ + e_).toNat < S_.2.2.1 240 0 c_.toNat)
def cRk (c_ : Int) (S_ : sm_S) : Prop := S_.2.2.1 223 0 c_.toNat + S_.2.2.1 224 0 c_.toNat ≤ 12 ∧ S_.2.2.1 226 0 c_.toNat < 2 ^ (S_.2.2.1 224 0 c_.toNat).toNat ∧ S_.2.2.1 227 0 c_.toNat < 2 ^ (S_.2.2.1 224 0 c_.toNat).toNat ∧ cgt c_ S_ ∧ con c_ S_ ∧ cpl c_ S_ ∧ imq (S_.2.2.1 251 0 c_.toNat = 1) (1 ≤ S_.2.2.1 240 0 c_.toNat)
/-- a_ slice that stays -/
def sle (c_ : Int) (S_ S'_ : sm_S) : Prop := ∀ t_, rct t_ = true → ∀ j_, rcs t_ * c_.toNat ≤ j_ → j_ < rcs t_ * c_.toNat + rcs t_ → S'_.2.2.1 t_ 0 j_ = S_.2.2.1 t_ 0 j_
theorem sle_fr {w_ : sx_Wl} {c_ : Int} {S_ S'_ : sm_S} (g_ : ai_fr (sx_W w_) S_ S'_) (h_ : rwf w_ = true) : sle c_ S_ S'_ := fun t_ ht_ j_ _ _ => congrFun (fr_arr g_ (rwf_0 h_ ht_)) j_
theorem sle_cf {a_ : Nat} {c_ : Int} {S_ S'_ : sm_S} (g_ : rcf a_ S_ S'_) (h_ : c_.toNat ≠ a_) : sle c_ S_ S'_ := fun t_ ht_ j_ h1_ h2_ => g_ t_ ht_ j_ (by
  rcases Nat.lt_or_gt_of_ne h_ with z_ | z_
  · left
    have := Nat.mul_le_mul_left (rcs t_) (show c_.toNat + 1 ≤ a_ by omega)
    rw [Nat.mul_add] at this
    omega
  · right
    have := Nat.mul_le_mul_left (rcs t_) (show a_ + 1 ≤ c_.toNat by omega)
    rw [Nat.mul_add] at this
    omega)
theorem sle_1 {c_ : Int} {S_ S'_ : sm_S} (q_ : sle c_ S_ S'_) (t_ : Nat) (a_ : rct t_ = true) (b_ : rcs t_ = 1) : S'_.2.2.1 t_ 0 c_.toNat = S_.2.2.1 t_ 0 c_.toNat := q_ t_ a_ _ (by rw [b_]; omega) (by rw [b_]; omega)
/-- bounds of_ a_ slice -/
def scp (c_ : Int) (S_ : sm_S) : Prop := (0 ≤ S_.2.2.1 228 0 c_.toNat ∧ S_.2.2.1 228 0 c_.toNat ≤ 150) ∧ (0 ≤ S_.2.2.1 224 0 c_.toNat ∧ S_.2.2.1 224 0 c_.toNat ≤ 6) ∧ (0 ≤ S_.2.2.1 225 0 c_.toNat ∧ S_.2.2.1 225 0 c_.toNat ≤ 16) ∧ ∀ g_ : Int, 0 ≤ g_ → g_ < 150 → 0 ≤ S_.2.2.1 229 0 (150 * c_ + g_).toNat ∧ S_.2.2.1 229 0 (150 * c_ + g_).toNat ≤ 11
theorem scp_g {c_ : Int} {S_ : sm_S} (h_ : gi S_) : scp c_ S_ := ⟨h_.2 228 0 _, h_.2 224 0 _, h_.2 225 0 _, fun g_ _ _ => h_.2 229 0 _⟩
theorem scp_q {c_ : Int} {S_ S'_ : sm_S} (hc_ : 0 ≤ c_) (h_ : gi S'_) (q_ : sle c_ S_ S'_) : scp c_ S_ := by
  have z_ : scp c_ S'_ := scp_g h_
  obtain ⟨z1_, z2_, z3_, z4_⟩ := z_
  rw [sle_1 q_ 228 rfl rfl] at z1_
  rw [sle_1 q_ 224 rfl rfl] at z2_
  rw [sle_1 q_ 225 rfl rfl] at z3_
  refine ⟨z1_, z2_, z3_, fun g_ h0_ h1_ => ?_⟩
  have y_ := z4_ g_ h0_ h1_
  rw [q_ 229 rfl _ (by rw [show rcs 229 = 150 from rfl]; omega) (by rw [show rcs 229 = 150 from rfl]; omega)] at y_
  exact y_
theorem sle_cl {c_ g_ : Int} {S_ S'_ : sm_S} (q_ : sle c_ S_ S'_) (hc_ : 0 ≤ c_) (hI_ : scp c_ S_) (hg_ : 0 ≤ g_ ∧ g_ < 150) : S'_.2.2.1 229 0 (150 * c_ + g_).toNat = S_.2.2.1 229 0 (150 * c_ + g_).toNat ∧ S'_.2.2.1 234 0 (12 * c_ + S_.2.2.1 229 0 (150 * c_ + g_).toNat).toNat = S_.2.2.1 234 0 (12 * c_ + S_.2.2.1 229 0 (150 * c_ + g_).toNat).toNat := by
  have k_ : 0 ≤ S_.2.2.1 229 0 (150 * c_ + g_).toNat ∧ S_.2.2.1 229 0 (150 * c_ + g_).toNat ≤ 11 := hI_.2.2.2 g_ hg_.1 hg_.2
  exact ⟨q_ 229 rfl _ (by rw [show rcs 229 = 150 from rfl]; omega) (by rw [show rcs 229 = 150 from rfl]; omega), q_ 234 rfl _ (by rw [show rcs 234 = 12 from rfl]; omega) (by rw [show rcs 234 = 12 from rfl]; omega)⟩
theorem cgt_sl {c_ : Int} {S_ S'_ : sm_S} (hc_ : 0 ≤ c_) (hI_ : scp c_ S_) (h_ : cgt c_ S_) (q_ : sle c_ S_ S'_) : cgt c_ S'_ := by
  intro g_ h0_ h1_ k_ k0_ k1_ k2_
  have b_ : 0 ≤ S_.2.2.1 228 0 c_.toNat ∧ S_.2.2.1 228 0 c_.toNat ≤ 150 := hI_.1
  rw [sle_1 q_ 228 rfl rfl] at h1_
  have e_ := sle_cl q_ hc_ hI_ (g_ := g_) (by omega)
  rw [e_.1, e_.2] at k2_
  rw [sle_1 q_ 223 rfl rfl, sle_1 q_ 224 rfl rfl, q_ 230 rfl _ (by rw [show rcs 230 = 450 from rfl]; omega) (by rw [show rcs 230 = 450 from rfl]; omega)]
  exact h_ g_ h0_ h1_ k_ k0_ k1_ k2_
theorem con_sl {c_ : Int} {S_ S'_ : sm_S} (hc_ : 0 ≤ c_) (hI_ : scp c_ S_) (h_ : con c_ S_) (q_ : sle c_ S_ S'_) : con c_ S'_ := by
  have b_ : 0 ≤ S_.2.2.1 225 0 c_.toNat ∧ S_.2.2.1 225 0 c_.toNat ≤ 16 := hI_.2.2.1
  have b2_ : 0 ≤ S_.2.2.1 224 0 c_.toNat ∧ S_.2.2.1 224 0 c_.toNat ≤ 6 := hI_.2.1
  unfold con
  rw [sle_1 q_ 223 rfl rfl, sle_1 q_ 224 rfl rfl, sle_1 q_ 225 rfl rfl, sle_1 q_ 228 rfl rfl]
  refine ⟨fun k_ h0_ h1_ => ?_, fun k_ h0_ h1_ => ?_⟩
  · rw [q_ 231 rfl _ (by rw [show rcs 231 = 16 from rfl]; omega) (by rw [show rcs 231 = 16 from rfl]; omega)]
    exact h_.1 k_ h0_ h1_
  · rw [q_ 232 rfl _ (by rw [show rcs 232 = 6 from rfl]; omega) (by rw [show rcs 232 = 6 from rfl]; omega)]
    exact h_.2 k_ h0_ h1_
theorem csz_sl {c_ e_ : Int} {S_ S'_ : sm_S} (hc_ : 0 ≤ c_) (hI_ : scp c_ S_) (q_ : sle c_ S_ S'_) (h_ : 0 ≤ e_ ∧ e_ < S_.2.2.1 224 0 c_.toNat + S_.2.2.1 228 0 c_.toNat) : csz c_ S'_ e_ = csz c_ S_ e_ := by
  have b_ : 0 ≤ S_.2.2.1 228 0 c_.toNat ∧ S_.2.2.1 228 0 c_.toNat ≤ 150 := hI_.1
  have b2_ : 0 ≤ S_.2.2.1 224 0 c_.toNat ∧ S_.2.2.1 224 0 c_.toNat ≤ 6 := hI_.2.1
  unfold csz
  rw [sle_1 q_ 224 rfl rfl]
  split
  · rfl
  · have z_ := sle_cl q_ hc_ hI_ (g_ := e_ - S_.2.2.1 224 0 c_.toNat) (by omega)
    rw [z_.1, z_.2]
theorem cpl_sl {c_ : Int} {S_ S'_ : sm_S} (hc_ : 0 ≤ c_) (hI_ : scp c_ S_) (h_ : cpl c_ S_) (q_ : sle c_ S_ S'_) : cpl c_ S'_ := by
  have b_ : 0 ≤ S_.2.2.1 228 0 c_.toNat ∧ S_.2.2.1 228 0 c_.toNat ≤ 150 := hI_.1
  have b2_ : 0 ≤ S_.2.2.1 224 0 c_.toNat ∧ S_.2.2.1 224 0 c_.toNat ≤ 6 := hI_.2.1
  unfold cpl
  rw [sle_1 q_ 224 rfl rfl, sle_1 q_ 228 rfl rfl, sle_1 q_ 239 rfl rfl, sle_1 q_ 240 rfl rfl]
  intro p_
  have z_ := h_ p_
  refine ⟨z_.1, fun e_ h0_ h1_ => ?_⟩
  rw [csz_sl hc_ hI_ q_ ⟨h0_, h1_⟩, q_ 241 rfl _ (by rw [show rcs 241 = 156 from rfl]; omega) (by rw [show rcs 241 = 156 from rfl]; omega), q_ 242 rfl _ (by rw [show rcs 242 = 156 from rfl]; omega) (by rw [show rcs 242 = 156 from rfl]; omega)]
  exact z_.2 e_ h0_ h1_
theorem cRk_sl {c_ : Int} {S_ S'_ : sm_S} (hc_ : 0 ≤ c_) (hI_ : scp c_ S_) (h_ : cRk c_ S_) (q_ : sle c_ S_ S'_) : cRk c_ S'_ := by
  obtain ⟨h1_, h2_, h3_, h4_, h5_, h6_, h7_⟩ := h_
  refine ⟨?_, ?_, ?_, cgt_sl hc_ hI_ h4_ q_, con_sl hc_ hI_ h5_ q_, cpl_sl hc_ hI_ h6_ q_, ?_⟩
  · rw [sle_1 q_ 223 rfl rfl, sle_1 q_ 224 rfl rfl]; exact h1_
  · rw [sle_1 q_ 226 rfl rfl, sle_1 q_ 224 rfl rfl]; exact h2_
  · rw [sle_1 q_ 227 rfl rfl, sle_1 q_ 224 rfl rfl]; exact h3_
  · rw [sle_1 q_ 251 rfl rfl, sle_1 q_ 240 rfl rfl]; exact h7_
theorem cRk_fr {w_ : sx_Wl} {c_ : Int} {S_ S'_ : sm_S} (hc_ : 0 ≤ c_) (hI_ : gi S'_) (h_ : cRk c_ S_) (g_ : ai_fr (sx_W w_) S_ S'_) (r_ : rwf w_ = true := by rfl) : cRk c_ S'_ := cRk_sl hc_ (scp_q hc_ hI_ (sle_fr g_ r_)) h_ (sle_fr g_ r_)
/-- what holds between the_ calls of_ the_ reference -/
def drAll (S_ : sm_S) : Prop := ∀ d_ : Nat, d_ < 6 → S_.2.2.1 153 0 d_ = 1 → dRk d_ S_
def rcAll (S_ : sm_S) : Prop := ∀ c_ : Int, 0 ≤ c_ → c_ < 4 → S_.2.2.1 222 0 c_.toNat = 1 → cRk c_ S_
def jR (S_ : sm_S) : Prop := drAll S_ ∧ rcAll S_
def dwf (w_ : sx_Wl) : Bool := w_.2.1.all (fun t_ => !(decide (153 ≤ t_) && decide (t_ < 171)))
theorem dwf_0 {w_ : sx_Wl} (h_ : dwf w_ = true) {t_ : Nat} (h1_ : 153 ≤ t_) (h2_ : t_ < 171) : (sx_W w_).2.1 t_ = false := by
  unfold dwf at h_
  unfold sx_W
  rw [List.any_eq_false]
  intro q_ hq_ z_
  have u_ := List.all_eq_true.mp h_ q_ hq_
  have e_ : q_ = t_ := of_decide_eq_true z_
  rw [e_, decide_eq_true h1_, decide_eq_true h2_] at u_
  exact absurd u_ (by decide)
theorem drAll_fr {w_ : sx_Wl} {S_ S'_ : sm_S} (h_ : drAll S_) (g_ : ai_fr (sx_W w_) S_ S'_) (q_ : dwf w_ = true := by rfl) : drAll S'_ := fun d_ hd_ z_ => by
  rw [fr_arr g_ (dwf_0 q_ (by decide) (by decide))] at z_
  exact dRk_fr (h_ d_ hd_ z_) g_ (fun t_ a_ b_ => dwf_0 q_ (by omega) a_)
theorem rcAll_fr {w_ : sx_Wl} {S_ S'_ : sm_S} (h_ : rcAll S_) (hI_ : gi S'_) (g_ : ai_fr (sx_W w_) S_ S'_) (q_ : rwf w_ = true := by rfl) : rcAll S'_ := fun c_ h0_ h1_ z_ => by
  rw [fr_arr g_ (rwf_0 q_ rfl)] at z_
  exact cRk_fr h0_ hI_ (h_ c_ h0_ h1_ z_) g_ q_
theorem jR_fr {w_ : sx_Wl} {S_ S'_ : sm_S} (h_ : jR S_) (hI_ : gi S'_) (g_ : ai_fr (sx_W w_) S_ S'_) (q_ : dwf w_ = true := by rfl) (r_ : rwf w_ = true := by rfl) : jR S'_ := ⟨drAll_fr h_.1 g_ q_, rcAll_fr h_.2 hI_ g_ r_⟩
/-- one_ chip changes -/
theorem rcAll_cf {a_ : Nat} {S_ S'_ : sm_S} (h_ : rcAll S_) (hI_ : gi S'_) (g_ : rcf a_ S_ S'_) (k_ : S'_.2.2.1 222 0 a_ = 1 → cRk (a_ : Int) S'_) : rcAll S'_ := fun c_ h0_ h1_ z_ => by
  by_cases e_ : c_.toNat = a_
  · have e2_ : c_ = (a_ : Int) := by omega
    rw [e_] at z_
    rw [e2_]
    exact k_ z_
  · rw [sle_1 (sle_cf g_ e_) 222 rfl rfl] at z_
    exact cRk_sl h0_ (scp_q h0_ hI_ (sle_cf g_ e_)) (h_ c_ h0_ h1_ z_) (sle_cf g_ e_)
theorem jR_cf {w_ : sx_Wl} {a_ : Nat} {S_ S'_ : sm_S} (h_ : jR S_) (hI_ : gi S'_) (f_ : ai_fr (sx_W w_) S_ S'_) (q_ : dwf w_ = true) (g_ : rcf a_ S_ S'_) (k_ : S'_.2.2.1 222 0 a_ = 1 → cRk (a_ : Int) S'_) : jR S'_ := ⟨drAll_fr h_.1 f_ q_, rcAll_cf h_.2 hI_ g_ k_⟩
end
/-! 99.zr2 -/
section
/-! the reference: designs asked; written by wip/p55/gen/vg -/

/-! the_ reference: designs and libraries asked -/
theorem dRk_nw {d_ e_ : Nat} {S_ : sm_S} {v_ : Int} (h_ : dRk d_ S_) (hv_ : d_ = e_ → 0 ≤ v_ ∧ v_ < 2 ^ (S_.2.2.1 155 0 d_).toNat) : dRk d_ (sm_aI S_ 158 0 e_ v_) := by
  have fx : ai_fr (sx_W ([], [158], [])) S_ (sm_aI S_ 158 0 e_ v_) := ai_fr_aI rfl
  obtain ⟨F_, I_, R_, N_, h1_, h2_, h3_, h4_, h5_, h6_, h7_, h8_⟩ := h_
  unfold dRk
  rw [fr_arr (t := 154) fx rfl, fr_arr (t := 155) fx rfl, fr_arr (t := 156) fx rfl, fr_arr (t := 157) fx rfl, fr_arr (t := 159) fx rfl, fr_arr (t := 160) fx rfl, fr_arr (t := 164) fx rfl, fr_arr (t := 165) fx rfl, fr_arr (t := 166) fx rfl, fr_arr (t := 167) fx rfl, fr_arr (t := 168) fx rfl, fr_arr (t := 170) fx rfl]
  refine ⟨F_, I_, R_, N_, h1_, h2_, h3_, h4_, h5_, h6_, ?_, h8_⟩
  rw [rd_eq]
  split
  · rename_i q_
    have z_ := hv_ q_
    rw [h1_.2.1, Int.toNat_natCast] at z_
    exact z_
  · exact h7_
theorem jR_nw {e_ : Nat} {S_ : sm_S} {v_ : Int} (h_ : jR S_) (hI_ : gi (sm_aI S_ 158 0 e_ v_)) (hv_ : 0 ≤ v_ ∧ v_ < 2 ^ (S_.2.2.1 155 0 e_).toNat) : jR (sm_aI S_ 158 0 e_ v_) := by
  have fx : ai_fr (sx_W ([], [158], [])) S_ (sm_aI S_ 158 0 e_ v_) := ai_fr_aI rfl
  refine ⟨fun d_ hd_ z_ => dRk_nw (h_.1 d_ hd_ (by rw [rd_ne (by decide)] at z_; exact z_)) (fun q_ => by rw [q_]; exact hv_), rcAll_fr h_.2 hI_ fx⟩
/-- what is_ known of_ a_ design that is_ there -/
theorem dRk_b {d_ : Nat} {S_ : sm_S} (h_ : dRk d_ S_) : (0 ≤ S_.2.2.1 154 0 d_ ∧ 0 ≤ S_.2.2.1 155 0 d_ ∧ S_.2.2.1 154 0 d_ + S_.2.2.1 155 0 d_ ≤ 12 ∧ S_.2.2.1 155 0 d_ ≤ 6 ∧ 1 ≤ S_.2.2.1 156 0 d_ ∧ S_.2.2.1 156 0 d_ ≤ 16) ∧ (0 ≤ S_.2.2.1 157 0 d_ ∧ S_.2.2.1 157 0 d_ < 2 ^ (S_.2.2.1 155 0 d_).toNat) ∧ (0 ≤ S_.2.2.1 158 0 d_ ∧ S_.2.2.1 158 0 d_ < 2 ^ (S_.2.2.1 155 0 d_).toNat) ∧ ∀ p_, p_ < 2 ^ ((S_.2.2.1 154 0 d_).toNat + (S_.2.2.1 155 0 d_).toNat) → 0 ≤ S_.2.2.1 170 0 (4096 * d_ + p_) ∧ S_.2.2.1 170 0 (4096 * d_ + p_) < 2 ^ (S_.2.2.1 155 0 d_).toNat := by
  obtain ⟨F_, I_, R_, N_, h1_, h2_, h3_, h4_, h5_, h6_, h7_, h8_⟩ := h_
  rw [h1_.1, h1_.2.1, Int.toNat_natCast, Int.toNat_natCast]
  exact ⟨by omega, h6_, h7_, h8_⟩
theorem pn_lt {x_ : Int} {n_ : Nat} (h0_ : 0 ≤ x_) (h_ : x_ < (2 : Int) ^ n_) : x_.toNat < 2 ^ n_ := by
  have c_ : ((x_.toNat : Nat) : Int) < ((2 ^ n_ : Nat) : Int) := by
    push_cast
    omega
  exact Int.ofNat_lt.mp c_
theorem pat_c {s_ i_ : Int} {R_ I_ : Nat} (hs_ : 0 ≤ s_ ∧ s_ < 2 ^ R_) (hi_ : 0 ≤ i_ ∧ i_ < 2 ^ I_) (h_ : R_ + I_ ≤ 12) : 0 ≤ i_shl s_ (I_ : Int) ∧ 0 ≤ i_or i_ (i_shl s_ (I_ : Int)) ∧ i_or i_ (i_shl s_ (I_ : Int)) < 2 ^ (R_ + I_) := by
  rw [i_or_c]
  exact pat_b hs_ hi_ h_
theorem drp_0 {S_ : sm_S} {k_ : Nat} (h_ : jR S_) (hI_ : gi (sm_aI S_ 153 0 k_ 0)) : jR (sm_aI S_ 153 0 k_ 0) := by
  have fx : ai_fr (sx_W ([], [153], [])) S_ (sm_aI S_ 153 0 k_ 0) := ai_fr_aI rfl
  refine ⟨fun d_ hd_ z_ => ?_, rcAll_fr h_.2 hI_ fx⟩
  rw [rd_eq] at z_
  split at z_
  · exact absurd z_ (by decide)
  · exact dRk_fr (h_.1 d_ hd_ z_) fx (fun t_ a_ b_ => by show (decide (153 = t_) || false) = false; rw [decide_eq_false (by omega)]; rfl)
theorem drp_2 {S_ : sm_S} {k_ : Nat} (h_ : jR S_) (hI_ : gi (sm_aI S_ 222 0 k_ 0)) : jR (sm_aI S_ 222 0 k_ 0) :=
  jR_cf (w_ := ([], [222], [])) h_ hI_ (ai_fr_aI rfl) rfl (rcf_aI (c_ := k_) rcf_rf (Or.inr (by rw [show rcs 222 = 1 from rfl]; omega))) (fun z_ => by rw [rd_eq, if_pos rfl] at z_; exact absurd z_ (by decide))
/-! M_.isDesign -/
def vw_369 : sx_Wl := ([], [], [])
def vq_369 (a1_ : Int) (S0_ : sm_S) (u_ : Option sm_V) (S1_ : sm_S) : Prop := S0_ = S1_ ∧ ∃ v_ : Int, u_ = some (.inl v_) ∧ (((-2147483648) ≤ v_ ∧ v_ ≤ 2147483647) ∧ ((v_ = 1 ∧ 0 ≤ a1_ ∧ a1_ < 6 ∧ S0_.2.2.1 153 0 a1_.toNat = 1) ∨ (v_ = 0 ∧ (a1_ < 0 ∨ 6 ≤ a1_ ∨ S0_.2.2.1 153 0 a1_.toNat = 0))))
set_option maxHeartbeats 400000 in
set_option maxRecDepth 20000 in
theorem vc_369 {sc_ : Nat × (Nat → Int)} (a1_ : Int) (S0_ : sm_S) (hI_ : gi S0_) (ha1_ : (-2147483648) ≤ a1_ ∧ a1_ ≤ 2147483647) : sm_T (mt_P sc_) 0 369 (0, [some (.inr (.inr (some (13, 0)))), some (.inl a1_)], [], S0_) (fun ro9_ => ∃ u_ S1_, ro9_ = (.inl u_, S1_, 0) ∧ vq_369 a1_ S0_ u_ S1_) := by
  have hF_ : ai_fr (sx_W vw_369) S0_ S0_ := ai_fr_rf
  refine sm_T_go 1 (c1 := (1, [some (.inr (.inr (some (13, 0)))), some (.inl a1_)], [.inl a1_], S0_)) rfl ?_
  refine sm_T_b0 (a := 2) (z := 22) rfl (fun cx1_ => ?_) (fun cx1_ => ?_)
  · have cx1_ : a1_ < 0 := of_decide_eq_true cx1_
    refine sm_T_go 1 (c1 := (24, [some (.inr (.inr (some (13, 0)))), some (.inl a1_)], [.inl 0], S0_)) rfl ?_
    refine sm_T_rz rfl (by omega) ⟨_, _, rfl, rfl, _, rfl, ?_⟩
    omega
  · have cx1_ : ¬ (a1_ < 0) := of_decide_eq_false cx1_
    refine sm_T_go 2 (c1 := (7, [some (.inr (.inr (some (13, 0)))), some (.inl a1_)], [.inl 6, .inl a1_], S0_)) rfl ?_
    refine sm_T_br (a := 3) (z := 16) rfl (fun cx2_ => ?_) (fun cx2_ => ?_)
    · have cx2_ : 6 ≤ a1_ := of_decide_eq_true cx2_
      refine sm_T_go 1 (c1 := (24, [some (.inr (.inr (some (13, 0)))), some (.inl a1_)], [.inl 0], S0_)) rfl ?_
      refine sm_T_rz rfl (by omega) ⟨_, _, rfl, rfl, _, rfl, ?_⟩
      omega
    · have cx2_ : ¬ (6 ≤ a1_) := of_decide_eq_false cx2_
      refine sm_T_go 3 (c1 := (15, [some (.inr (.inr (some (13, 0)))), some (.inl a1_)], [.inl a1_, .inr (.inr (some (153, 0)))], S0_)) rfl ?_
      refine sm_T_zald (n := 6) rfl rfl (by omega) (by omega) ?_
      have bx3_ : 0 ≤ S0_.2.2.1 153 0 a1_.toNat ∧ S0_.2.2.1 153 0 a1_.toNat ≤ 1 := hI_.2 153 0 _
      refine sm_T_b0 (a := 0) (z := 7) rfl (fun cx4_ => ?_) (fun cx4_ => ?_)
      · have cx4_ : (S0_.2.2.1 153 0 a1_.toNat) = 0 := of_decide_eq_true cx4_
        refine sm_T_go 1 (c1 := (24, [some (.inr (.inr (some (13, 0)))), some (.inl a1_)], [.inl 0], S0_)) rfl ?_
        refine sm_T_rz rfl (by omega) ⟨_, _, rfl, rfl, _, rfl, ?_⟩
        omega
      · have cx4_ : ¬ ((S0_.2.2.1 153 0 a1_.toNat) = 0) := of_decide_eq_false cx4_
        refine sm_T_go 2 (c1 := (24, [some (.inr (.inr (some (13, 0)))), some (.inl a1_)], [.inl 1], S0_)) rfl ?_
        refine sm_T_rz rfl (by omega) ⟨_, _, rfl, rfl, _, rfl, ?_⟩
        omega
/-! M_.isLibrary -/
def vw_370 : sx_Wl := ([], [], [])
def vq_370 (a1_ : Int) (S0_ : sm_S) (u_ : Option sm_V) (S1_ : sm_S) : Prop := S0_ = S1_ ∧ ∃ v_ : Int, u_ = some (.inl v_) ∧ (((-2147483648) ≤ v_ ∧ v_ ≤ 2147483647) ∧ ((v_ = 1 ∧ 0 ≤ a1_ ∧ a1_ < 3 ∧ S0_.2.2.1 183 0 a1_.toNat = 1) ∨ (v_ = 0 ∧ (a1_ < 0 ∨ 3 ≤ a1_ ∨ S0_.2.2.1 183 0 a1_.toNat = 0))))
set_option maxHeartbeats 400000 in
set_option maxRecDepth 20000 in
theorem vc_370 {sc_ : Nat × (Nat → Int)} (a1_ : Int) (S0_ : sm_S) (hI_ : gi S0_) (ha1_ : (-2147483648) ≤ a1_ ∧ a1_ ≤ 2147483647) : sm_T (mt_P sc_) 0 370 (0, [some (.inr (.inr (some (13, 0)))), some (.inl a1_)], [], S0_) (fun ro9_ => ∃ u_ S1_, ro9_ = (.inl u_, S1_, 0) ∧ vq_370 a1_ S0_ u_ S1_) := by
  have hF_ : ai_fr (sx_W vw_370) S0_ S0_ := ai_fr_rf
  refine sm_T_go 1 (c1 := (1, [some (.inr (.inr (some (13, 0)))), some (.inl a1_)], [.inl a1_], S0_)) rfl ?_
  refine sm_T_b0 (a := 2) (z := 21) rfl (fun cx1_ => ?_) (fun cx1_ => ?_)
  · have cx1_ : a1_ < 0 := of_decide_eq_true cx1_
    refine sm_T_go 1 (c1 := (23, [some (.inr (.inr (some (13, 0)))), some (.inl a1_)], [.inl 0], S0_)) rfl ?_
    refine sm_T_rz rfl (by omega) ⟨_, _, rfl, rfl, _, rfl, ?_⟩
    omega
  · have cx1_ : ¬ (a1_ < 0) := of_decide_eq_false cx1_
    refine sm_T_go 2 (c1 := (6, [some (.inr (.inr (some (13, 0)))), some (.inl a1_)], [.inl 3, .inl a1_], S0_)) rfl ?_
    refine sm_T_br (a := 3) (z := 16) rfl (fun cx2_ => ?_) (fun cx2_ => ?_)
    · have cx2_ : 3 ≤ a1_ := of_decide_eq_true cx2_
      refine sm_T_go 1 (c1 := (23, [some (.inr (.inr (some (13, 0)))), some (.inl a1_)], [.inl 0], S0_)) rfl ?_
      refine sm_T_rz rfl (by omega) ⟨_, _, rfl, rfl, _, rfl, ?_⟩
      omega
    · have cx2_ : ¬ (3 ≤ a1_) := of_decide_eq_false cx2_
      refine sm_T_go 3 (c1 := (14, [some (.inr (.inr (some (13, 0)))), some (.inl a1_)], [.inl a1_, .inr (.inr (some (183, 0)))], S0_)) rfl ?_
      refine sm_T_zald (n := 3) rfl rfl (by omega) (by omega) ?_
      have bx3_ : 0 ≤ S0_.2.2.1 183 0 a1_.toNat ∧ S0_.2.2.1 183 0 a1_.toNat ≤ 1 := hI_.2 183 0 _
      refine sm_T_b0 (a := 0) (z := 7) rfl (fun cx4_ => ?_) (fun cx4_ => ?_)
      · have cx4_ : (S0_.2.2.1 183 0 a1_.toNat) = 0 := of_decide_eq_true cx4_
        refine sm_T_go 1 (c1 := (23, [some (.inr (.inr (some (13, 0)))), some (.inl a1_)], [.inl 0], S0_)) rfl ?_
        refine sm_T_rz rfl (by omega) ⟨_, _, rfl, rfl, _, rfl, ?_⟩
        omega
      · have cx4_ : ¬ ((S0_.2.2.1 183 0 a1_.toNat) = 0) := of_decide_eq_false cx4_
        refine sm_T_go 2 (c1 := (23, [some (.inr (.inr (some (13, 0)))), some (.inl a1_)], [.inl 1], S0_)) rfl ?_
        refine sm_T_rz rfl (by omega) ⟨_, _, rfl, rfl, _, rfl, ?_⟩
        omega
/-! M_.isChip -/
def vw_371 : sx_Wl := ([], [], [])
def vq_371 (a1_ : Int) (S0_ : sm_S) (u_ : Option sm_V) (S1_ : sm_S) : Prop := S0_ = S1_ ∧ ∃ v_ : Int, u_ = some (.inl v_) ∧ (((-2147483648) ≤ v_ ∧ v_ ≤ 2147483647) ∧ ((v_ = 1 ∧ 0 ≤ a1_ ∧ a1_ < 4 ∧ S0_.2.2.1 222 0 a1_.toNat = 1) ∨ (v_ = 0 ∧ (a1_ < 0 ∨ 4 ≤ a1_ ∨ S0_.2.2.1 222 0 a1_.toNat = 0))))
set_option maxHeartbeats 400000 in
set_option maxRecDepth 20000 in
theorem vc_371 {sc_ : Nat × (Nat → Int)} (a1_ : Int) (S0_ : sm_S) (hI_ : gi S0_) (ha1_ : (-2147483648) ≤ a1_ ∧ a1_ ≤ 2147483647) : sm_T (mt_P sc_) 0 371 (0, [some (.inr (.inr (some (13, 0)))), some (.inl a1_)], [], S0_) (fun ro9_ => ∃ u_ S1_, ro9_ = (.inl u_, S1_, 0) ∧ vq_371 a1_ S0_ u_ S1_) := by
  have hF_ : ai_fr (sx_W vw_371) S0_ S0_ := ai_fr_rf
  refine sm_T_go 1 (c1 := (1, [some (.inr (.inr (some (13, 0)))), some (.inl a1_)], [.inl a1_], S0_)) rfl ?_
  refine sm_T_b0 (a := 2) (z := 21) rfl (fun cx1_ => ?_) (fun cx1_ => ?_)
  · have cx1_ : a1_ < 0 := of_decide_eq_true cx1_
    refine sm_T_go 1 (c1 := (23, [some (.inr (.inr (some (13, 0)))), some (.inl a1_)], [.inl 0], S0_)) rfl ?_
    refine sm_T_rz rfl (by omega) ⟨_, _, rfl, rfl, _, rfl, ?_⟩
    omega
  · have cx1_ : ¬ (a1_ < 0) := of_decide_eq_false cx1_
    refine sm_T_go 2 (c1 := (6, [some (.inr (.inr (some (13, 0)))), some (.inl a1_)], [.inl 4, .inl a1_], S0_)) rfl ?_
    refine sm_T_br (a := 3) (z := 16) rfl (fun cx2_ => ?_) (fun cx2_ => ?_)
    · have cx2_ : 4 ≤ a1_ := of_decide_eq_true cx2_
      refine sm_T_go 1 (c1 := (23, [some (.inr (.inr (some (13, 0)))), some (.inl a1_)], [.inl 0], S0_)) rfl ?_
      refine sm_T_rz rfl (by omega) ⟨_, _, rfl, rfl, _, rfl, ?_⟩
      omega
    · have cx2_ : ¬ (4 ≤ a1_) := of_decide_eq_false cx2_
      refine sm_T_go 3 (c1 := (14, [some (.inr (.inr (some (13, 0)))), some (.inl a1_)], [.inl a1_, .inr (.inr (some (222, 0)))], S0_)) rfl ?_
      refine sm_T_zald (n := 4) rfl rfl (by omega) (by omega) ?_
      have bx3_ : 0 ≤ S0_.2.2.1 222 0 a1_.toNat ∧ S0_.2.2.1 222 0 a1_.toNat ≤ 1 := hI_.2 222 0 _
      refine sm_T_b0 (a := 0) (z := 7) rfl (fun cx4_ => ?_) (fun cx4_ => ?_)
      · have cx4_ : (S0_.2.2.1 222 0 a1_.toNat) = 0 := of_decide_eq_true cx4_
        refine sm_T_go 1 (c1 := (23, [some (.inr (.inr (some (13, 0)))), some (.inl a1_)], [.inl 0], S0_)) rfl ?_
        refine sm_T_rz rfl (by omega) ⟨_, _, rfl, rfl, _, rfl, ?_⟩
        omega
      · have cx4_ : ¬ ((S0_.2.2.1 222 0 a1_.toNat) = 0) := of_decide_eq_false cx4_
        refine sm_T_go 2 (c1 := (23, [some (.inr (.inr (some (13, 0)))), some (.inl a1_)], [.inl 1], S0_)) rfl ?_
        refine sm_T_rz rfl (by omega) ⟨_, _, rfl, rfl, _, rfl, ?_⟩
        omega
/-! M_.isOne -/
def vw_372 : sx_Wl := ([], [], [])
def vq_372 (a1_ : Int) (a2_ : Int) (S0_ : sm_S) (u_ : Option sm_V) (S1_ : sm_S) : Prop := S0_ = S1_ ∧ ∃ v_ : Int, u_ = some (.inl v_) ∧ (((-2147483648) ≤ v_ ∧ v_ ≤ 2147483647) ∧ ((a1_ = 0 ∧ ((v_ = 1 ∧ 0 ≤ a2_ ∧ a2_ < 6 ∧ S0_.2.2.1 153 0 a2_.toNat = 1) ∨ (v_ = 0 ∧ (a2_ < 0 ∨ 6 ≤ a2_ ∨ S0_.2.2.1 153 0 a2_.toNat = 0)))) ∨ (a1_ = 1 ∧ ((v_ = 1 ∧ 0 ≤ a2_ ∧ a2_ < 3 ∧ S0_.2.2.1 183 0 a2_.toNat = 1) ∨ (v_ = 0 ∧ (a2_ < 0 ∨ 3 ≤ a2_ ∨ S0_.2.2.1 183 0 a2_.toNat = 0)))) ∨ (a1_ ≠ 0 ∧ a1_ ≠ 1 ∧ ((v_ = 1 ∧ 0 ≤ a2_ ∧ a2_ < 4 ∧ S0_.2.2.1 222 0 a2_.toNat = 1) ∨ (v_ = 0 ∧ (a2_ < 0 ∨ 4 ≤ a2_ ∨ S0_.2.2.1 222 0 a2_.toNat = 0))))))
set_option maxHeartbeats 400000 in
set_option maxRecDepth 20000 in
theorem vc_372 {sc_ : Nat × (Nat → Int)} (a1_ : Int) (a2_ : Int) (S0_ : sm_S) (hI_ : gi S0_) (ha1_ : (-2147483648) ≤ a1_ ∧ a1_ ≤ 2147483647) (ha2_ : (-2147483648) ≤ a2_ ∧ a2_ ≤ 2147483647) : sm_T (mt_P sc_) 1 372 (0, [some (.inr (.inr (some (13, 0)))), some (.inl a1_), some (.inl a2_)], [], S0_) (fun ro9_ => ∃ u_ S1_, ro9_ = (.inl u_, S1_, 0) ∧ vq_372 a1_ a2_ S0_ u_ S1_) := by
  have hF_ : ai_fr (sx_W vw_372) S0_ S0_ := ai_fr_rf
  refine sm_T_go 1 (c1 := (1, [some (.inr (.inr (some (13, 0)))), some (.inl a1_), some (.inl a2_)], [.inl a1_], S0_)) rfl ?_
  refine sm_T_b0 (a := 1) (z := 11) rfl (fun cx1_ => ?_) (fun cx1_ => ?_)
  · have cx1_ : a1_ ≠ 0 := of_decide_eq_true cx1_
    refine sm_T_go 2 (c1 := (14, [some (.inr (.inr (some (13, 0)))), some (.inl a1_), some (.inl a2_)], [.inl 1, .inl a1_], S0_)) rfl ?_
    refine sm_T_br (a := 1) (z := 11) rfl (fun cx2_ => ?_) (fun cx2_ => ?_)
    · have cx2_ : a1_ ≠ 1 := of_decide_eq_true cx2_
      refine sm_T_go 2 (c1 := (27, [some (.inr (.inr (some (13, 0)))), some (.inl a1_), some (.inl a2_)], [.inl a2_, .inr (.inr (some (13, 0)))], S0_)) rfl ?_
      refine sm_T_cal (d1 := 0) (Q1 := vq_371 a2_ S0_) rfl rfl (by decide) (vc_371 a2_ S0_ hI_ (by omega)) (fun u_ Sx3_ px6_ => ?_)
      obtain ⟨rfl, vx8_, rfl, px6_⟩ := px6_
      refine sm_T_rz rfl (by omega) ⟨_, _, rfl, rfl, _, rfl, ?_⟩
      omega
    · have cx2_ : ¬ (a1_ ≠ 1) := of_decide_eq_false cx2_
      refine sm_T_go 2 (c1 := (19, [some (.inr (.inr (some (13, 0)))), some (.inl a1_), some (.inl a2_)], [.inl a2_, .inr (.inr (some (13, 0)))], S0_)) rfl ?_
      refine sm_T_cal (d1 := 0) (Q1 := vq_370 a2_ S0_) rfl rfl (by decide) (vc_370 a2_ S0_ hI_ (by omega)) (fun u_ Sx9_ px12_ => ?_)
      obtain ⟨rfl, vx14_, rfl, px12_⟩ := px12_
      refine sm_T_go 1 (c1 := (30, [some (.inr (.inr (some (13, 0)))), some (.inl a1_), some (.inl a2_)], [.inl vx14_], S0_)) rfl ?_
      refine sm_T_rz rfl (by omega) ⟨_, _, rfl, rfl, _, rfl, ?_⟩
      omega
  · have cx1_ : ¬ (a1_ ≠ 0) := of_decide_eq_false cx1_
    refine sm_T_go 2 (c1 := (6, [some (.inr (.inr (some (13, 0)))), some (.inl a1_), some (.inl a2_)], [.inl a2_, .inr (.inr (some (13, 0)))], S0_)) rfl ?_
    refine sm_T_cal (d1 := 0) (Q1 := vq_369 a2_ S0_) rfl rfl (by decide) (vc_369 a2_ S0_ hI_ (by omega)) (fun u_ Sx15_ px18_ => ?_)
    obtain ⟨rfl, vx20_, rfl, px18_⟩ := px18_
    refine sm_T_go 1 (c1 := (30, [some (.inr (.inr (some (13, 0)))), some (.inl a1_), some (.inl a2_)], [.inl vx20_], S0_)) rfl ?_
    refine sm_T_rz rfl (by omega) ⟨_, _, rfl, rfl, _, rfl, ?_⟩
    omega
/-! M_.isBelow -/
def vw_381 : sx_Wl := ([], [], [])
def vq_381 (a0_ : Int) (a1_ : Int) (S0_ : sm_S) (u_ : Option sm_V) (S1_ : sm_S) : Prop := S0_ = S1_ ∧ ∃ v_ : Int, u_ = some (.inl v_) ∧ (((-2147483648) ≤ v_ ∧ v_ ≤ 2147483647) ∧ ((v_ = 0 ∨ v_ = 1) ∧ (v_ = 1 ↔ 0 ≤ a0_ ∧ a0_ < 2 ^ a1_.toNat)))
set_option maxHeartbeats 400000 in
set_option maxRecDepth 20000 in
theorem vc_381 {sc_ : Nat × (Nat → Int)} (a0_ : Int) (a1_ : Int) (S0_ : sm_S) (hI_ : gi S0_) (ha0_ : (-2147483648) ≤ a0_ ∧ a0_ ≤ 2147483647) (ha1_ : 0 ≤ a1_ ∧ a1_ ≤ 12) : sm_T (mt_P sc_) 0 381 (0, [some (.inl a0_), some (.inl a1_)], [], S0_) (fun ro9_ => ∃ u_ S1_, ro9_ = (.inl u_, S1_, 0) ∧ vq_381 a0_ a1_ S0_ u_ S1_) := by
  have hF_ : ai_fr (sx_W vw_381) S0_ S0_ := ai_fr_rf
  refine sm_T_go 1 (c1 := (1, [some (.inl a0_), some (.inl a1_)], [.inl a0_], S0_)) rfl ?_
  refine sm_T_b0 (a := 2) (z := 14) rfl (fun cx1_ => ?_) (fun cx1_ => ?_)
  · have cx1_ : a0_ < 0 := of_decide_eq_true cx1_
    refine sm_T_go 1 (c1 := (16, [some (.inl a0_), some (.inl a1_)], [.inl 0], S0_)) rfl ?_
    refine sm_T_rz rfl (by omega) ⟨_, _, rfl, rfl, _, rfl, ?_⟩
    have sh9_ := i_shl1 (e := a1_) (by omega) (by omega)
    rw [← sh9_]
    omega
  · have cx1_ : ¬ (a0_ < 0) := of_decide_eq_false cx1_
    refine sm_T_go 3 (c1 := (7, [some (.inl a0_), some (.inl a1_)], [.inl a1_, .inl 1, .inl a0_], S0_)) rfl ?_
    refine sm_T_bin (w := (i_shl 1 a1_)) rfl rfl ?_ -- pc_ 7
    first | have bx2_ := i_shl_1 (x_ := 1) (e_ := a1_) (by omega) (by omega) | have bx2_ := i_shl_n 1 a1_
    refine sm_T_br (a := 3) (z := 7) rfl (fun cx3_ => ?_) (fun cx3_ => ?_)
    · have cx3_ : (i_shl 1 a1_) ≤ a0_ := of_decide_eq_true cx3_
      refine sm_T_go 1 (c1 := (16, [some (.inl a0_), some (.inl a1_)], [.inl 0], S0_)) rfl ?_
      refine sm_T_rz rfl (by omega) ⟨_, _, rfl, rfl, _, rfl, ?_⟩
      have sh9_ := i_shl1 (e := a1_) (by omega) (by omega)
      rw [← sh9_]
      omega
    · have cx3_ : ¬ ((i_shl 1 a1_) ≤ a0_) := of_decide_eq_false cx3_
      refine sm_T_go 2 (c1 := (16, [some (.inl a0_), some (.inl a1_)], [.inl 1], S0_)) rfl ?_
      refine sm_T_rz rfl (by omega) ⟨_, _, rfl, rfl, _, rfl, ?_⟩
      have sh9_ := i_shl1 (e := a1_) (by omega) (by omega)
      rw [← sh9_]
      omega
/-! M_.end -/
def vw_280 : sx_Wl := ([(13, 0), (13, 2)], [], [])
def vq_280 (n_ : Int) (S0_ : sm_S) (u_ : Option sm_V) (S1_ : sm_S) : Prop := u_ = none ∧ gi S1_ ∧ ai_fr (sx_W vw_280) S0_ S1_ ∧ (jR S1_ ∧ S1_.1 13 0 2 = if 0 ≤ n_ ∧ n_ ≤ S0_.1 13 0 2 then n_ else S0_.1 13 0 2)
set_option maxHeartbeats 400000 in
set_option maxRecDepth 20000 in
theorem vc_280 {sc_ : Nat × (Nat → Int)} (n_ : Int) (S0_ : sm_S) (hI_ : gi S0_) (hJ_ : jR S0_) : sm_T (mt_P sc_) 0 280 (0, [some (.inr (.inr (some (13, 0)))), some (.inl n_)], [], S0_) (fun ro9_ => ∃ u_ S1_, ro9_ = (.inl u_, S1_, 0) ∧ vq_280 n_ S0_ u_ S1_) := by
  have hF_ : ai_fr (sx_W vw_280) S0_ S0_ := ai_fr_rf
  refine sm_T_go 2 (c1 := (2, [some (.inr (.inr (some (13, 0)))), some (.inl n_)], [.inl n_, .inr (.inr (some (13, 0)))], S0_)) rfl ?_
  refine sm_T_b0 (a := 2) (z := 11) rfl (fun cx1_ => ?_) (fun cx1_ => ?_)
  · have cx1_ : n_ < 0 := of_decide_eq_true cx1_
    have hIx2_ : gi (sm_pI S0_ 13 0 0 1) := gi_pI hI_ (show 0 ≤ 1 ∧ 1 ≤ 4 from ⟨by omega, by omega⟩)
    have hFx3_ : ai_fr (sx_W vw_280) S0_ (sm_pI S0_ 13 0 0 1) := ai_fr_tr hF_ (ai_fr_pI rfl)
    have bx4_ : 0 ≤ S0_.1 13 0 2 ∧ S0_.1 13 0 2 ≤ 1280 := hI_.1 13 0 2 rfl
    have hIx5_ : gi (sm_pI (sm_pI S0_ 13 0 0 1) 13 0 2 (S0_.1 13 0 2)) := gi_pI hIx2_ (show 0 ≤ (S0_.1 13 0 2) ∧ (S0_.1 13 0 2) ≤ 1280 from ⟨by omega, by omega⟩)
    have hFx6_ : ai_fr (sx_W vw_280) S0_ (sm_pI (sm_pI S0_ 13 0 0 1) 13 0 2 (S0_.1 13 0 2)) := ai_fr_tr hFx3_ (ai_fr_pI rfl)
    refine sm_T_go 11 (c1 := (40, [some (.inr (.inr (some (13, 0)))), some (.inl n_)], [], sm_pI (sm_pI S0_ 13 0 0 1) 13 0 2 (S0_.1 13 0 2))) rfl ?_
    refine sm_T_rv rfl ⟨_, _, rfl, rfl, hIx5_, hFx6_, ?_⟩
    refine ⟨hJ_, ?_⟩
    first | rw [if_pos (by omega)] | rw [if_neg (by omega)]
    first | exact rf_eq | (rw [rf_nk (by decide)])
  · have cx1_ : ¬ (n_ < 0) := of_decide_eq_false cx1_
    have bx7_ : 0 ≤ S0_.1 13 0 2 ∧ S0_.1 13 0 2 ≤ 1280 := hI_.1 13 0 2 rfl
    refine sm_T_go 3 (c1 := (10, [some (.inr (.inr (some (13, 0)))), some (.inl n_)], [.inl (S0_.1 13 0 2), .inl n_, .inr (.inr (some (13, 0)))], S0_)) rfl ?_
    refine sm_T_br (a := 5) (z := 7) rfl (fun cx8_ => ?_) (fun cx8_ => ?_)
    · have cx8_ : n_ ≤ (S0_.1 13 0 2) := of_decide_eq_true cx8_
      have hIx9_ : gi (sm_pI S0_ 13 0 0 0) := gi_pI hI_ (show 0 ≤ 0 ∧ 0 ≤ 4 from ⟨by omega, by omega⟩)
      have hFx10_ : ai_fr (sx_W vw_280) S0_ (sm_pI S0_ 13 0 0 0) := ai_fr_tr hF_ (ai_fr_pI rfl)
      have hIx11_ : gi (sm_pI (sm_pI S0_ 13 0 0 0) 13 0 2 n_) := gi_pI hIx9_ (show 0 ≤ n_ ∧ n_ ≤ 1280 from ⟨by omega, by omega⟩)
      have hFx12_ : ai_fr (sx_W vw_280) S0_ (sm_pI (sm_pI S0_ 13 0 0 0) 13 0 2 n_) := ai_fr_tr hFx10_ (ai_fr_pI rfl)
      refine sm_T_go 8 (c1 := (40, [some (.inr (.inr (some (13, 0)))), some (.inl n_)], [], sm_pI (sm_pI S0_ 13 0 0 0) 13 0 2 n_)) rfl ?_
      refine sm_T_rv rfl ⟨_, _, rfl, rfl, hIx11_, hFx12_, ?_⟩
      refine ⟨hJ_, ?_⟩
      first | rw [if_pos (by omega)] | rw [if_neg (by omega)]
      first | exact rf_eq | (rw [rf_nk (by decide)])
    · have cx8_ : ¬ (n_ ≤ (S0_.1 13 0 2)) := of_decide_eq_false cx8_
      have hIx13_ : gi (sm_pI S0_ 13 0 0 1) := gi_pI hI_ (show 0 ≤ 1 ∧ 1 ≤ 4 from ⟨by omega, by omega⟩)
      have hFx14_ : ai_fr (sx_W vw_280) S0_ (sm_pI S0_ 13 0 0 1) := ai_fr_tr hF_ (ai_fr_pI rfl)
      have hIx15_ : gi (sm_pI (sm_pI S0_ 13 0 0 1) 13 0 2 (S0_.1 13 0 2)) := gi_pI hIx13_ (show 0 ≤ (S0_.1 13 0 2) ∧ (S0_.1 13 0 2) ≤ 1280 from ⟨by omega, by omega⟩)
      have hFx16_ : ai_fr (sx_W vw_280) S0_ (sm_pI (sm_pI S0_ 13 0 0 1) 13 0 2 (S0_.1 13 0 2)) := ai_fr_tr hFx14_ (ai_fr_pI rfl)
      refine sm_T_go 11 (c1 := (40, [some (.inr (.inr (some (13, 0)))), some (.inl n_)], [], sm_pI (sm_pI S0_ 13 0 0 1) 13 0 2 (S0_.1 13 0 2))) rfl ?_
      refine sm_T_rv rfl ⟨_, _, rfl, rfl, hIx15_, hFx16_, ?_⟩
      refine ⟨hJ_, ?_⟩
      first | rw [if_pos (by omega)] | rw [if_neg (by omega)]
      first | exact rf_eq | (rw [rf_nk (by decide)])
/-! M_.fault -/
def vw_368 : sx_Wl := ([(13, 0)], [], [])
def vq_368  (S0_ : sm_S) (u_ : Option sm_V) (S1_ : sm_S) : Prop := ∃ v_ : Int, u_ = some (.inl v_) ∧ gi S1_ ∧ ai_fr (sx_W vw_368) S0_ S1_ ∧ (((-2147483648) ≤ v_ ∧ v_ ≤ 2147483647) ∧ (jR S1_))
set_option maxHeartbeats 400000 in
set_option maxRecDepth 20000 in
theorem vc_368 {sc_ : Nat × (Nat → Int)}  (S0_ : sm_S) (hI_ : gi S0_) (hJ_ : jR S0_) : sm_T (mt_P sc_) 0 368 (0, [some (.inr (.inr (some (13, 0))))], [], S0_) (fun ro9_ => ∃ u_ S1_, ro9_ = (.inl u_, S1_, 0) ∧ vq_368  S0_ u_ S1_) := by
  have hF_ : ai_fr (sx_W vw_368) S0_ S0_ := ai_fr_rf
  have hIx1_ : gi (sm_pI S0_ 13 0 0 0) := gi_pI hI_ (show 0 ≤ 0 ∧ 0 ≤ 4 from ⟨by omega, by omega⟩)
  have hFx2_ : ai_fr (sx_W vw_368) S0_ (sm_pI S0_ 13 0 0 0) := ai_fr_tr hF_ (ai_fr_pI rfl)
  have bx3_ : 0 ≤ S0_.1 13 0 79 ∧ S0_.1 13 0 79 ≤ 23 := hI_.1 13 0 79 rfl
  refine sm_T_go 5 (c1 := (9, [some (.inr (.inr (some (13, 0))))], [.inl (S0_.1 13 0 79)], sm_pI S0_ 13 0 0 0)) rfl ?_
  refine sm_T_ri rfl ⟨_, _, rfl, _, rfl, hIx1_, hFx2_, ?_⟩
  refine ⟨⟨by omega, by omega⟩, jR_fr hJ_ hIx1_ hFx2_⟩
/-! M_.tape -/
def vw_281 : sx_Wl := ([(13, 0)], [], [])
def vq_281  (S0_ : sm_S) (u_ : Option sm_V) (S1_ : sm_S) : Prop := ∃ v_ : Int, u_ = some (.inl v_) ∧ gi S1_ ∧ ai_fr (sx_W vw_281) S0_ S1_ ∧ (((-2147483648) ≤ v_ ∧ v_ ≤ 2147483647) ∧ (jR S1_ ∧ v_ = S0_.1 13 0 2))
set_option maxHeartbeats 400000 in
set_option maxRecDepth 20000 in
theorem vc_281 {sc_ : Nat × (Nat → Int)}  (S0_ : sm_S) (hI_ : gi S0_) (hJ_ : jR S0_) : sm_T (mt_P sc_) 0 281 (0, [some (.inr (.inr (some (13, 0))))], [], S0_) (fun ro9_ => ∃ u_ S1_, ro9_ = (.inl u_, S1_, 0) ∧ vq_281  S0_ u_ S1_) := by
  have hF_ : ai_fr (sx_W vw_281) S0_ S0_ := ai_fr_rf
  have hIx1_ : gi (sm_pI S0_ 13 0 0 0) := gi_pI hI_ (show 0 ≤ 0 ∧ 0 ≤ 4 from ⟨by omega, by omega⟩)
  have hFx2_ : ai_fr (sx_W vw_281) S0_ (sm_pI S0_ 13 0 0 0) := ai_fr_tr hF_ (ai_fr_pI rfl)
  have bx3_ : 0 ≤ S0_.1 13 0 2 ∧ S0_.1 13 0 2 ≤ 1280 := hI_.1 13 0 2 rfl
  refine sm_T_go 5 (c1 := (9, [some (.inr (.inr (some (13, 0))))], [.inl (S0_.1 13 0 2)], sm_pI S0_ 13 0 0 0)) rfl ?_
  refine sm_T_ri rfl ⟨_, _, rfl, _, rfl, hIx1_, hFx2_, ?_⟩
  refine ⟨⟨by omega, by omega⟩, hJ_, ?_⟩
  first | rfl | exact rf_nk (by decide)
/-! M_.isThere -/
def vw_374 : sx_Wl := ([(13, 0)], [], [])
def vq_374 (a1_ : Int) (a2_ : Int) (S0_ : sm_S) (u_ : Option sm_V) (S1_ : sm_S) : Prop := ∃ v_ : Int, u_ = some (.inl v_) ∧ gi S1_ ∧ ai_fr (sx_W vw_374) S0_ S1_ ∧ (((-2147483648) ≤ v_ ∧ v_ ≤ 2147483647) ∧ (jR S1_))
set_option maxHeartbeats 400000 in
set_option maxRecDepth 20000 in
theorem vc_374 {sc_ : Nat × (Nat → Int)} (a1_ : Int) (a2_ : Int) (S0_ : sm_S) (hI_ : gi S0_) (ha1_ : (-2147483648) ≤ a1_ ∧ a1_ ≤ 2147483647) (ha2_ : (-2147483648) ≤ a2_ ∧ a2_ ≤ 2147483647) (hJ_ : jR S0_) : sm_T (mt_P sc_) 2 374 (0, [some (.inr (.inr (some (13, 0)))), some (.inl a1_), some (.inl a2_)], [], S0_) (fun ro9_ => ∃ u_ S1_, ro9_ = (.inl u_, S1_, 0) ∧ vq_374 a1_ a2_ S0_ u_ S1_) := by
  have hF_ : ai_fr (sx_W vw_374) S0_ S0_ := ai_fr_rf
  refine sm_T_go 4 (c1 := (4, [some (.inr (.inr (some (13, 0)))), some (.inl a1_), some (.inl a2_)], [.inl 2, .inl 0, .inl a1_, .inr (.inr (some (13, 0)))], S0_)) rfl ?_
  refine sm_T_cal (d1 := 0) (Q1 := vq_278 a1_ 0 2 S0_) rfl rfl (by decide) (vc_278 a1_ 0 2 S0_ hI_ ) (fun u_ Sx1_ px4_ => ?_)
  obtain ⟨rfl, vx6_, rfl, px4_⟩ := px4_
  refine sm_T_b0 (a := 0) (z := 7) rfl (fun cx7_ => ?_) (fun cx7_ => ?_)
  · have cx7_ : vx6_ = 0 := of_decide_eq_true cx7_
    have hIx8_ : gi (sm_pI S0_ 13 0 0 1) := gi_pI hI_ (show 0 ≤ 1 ∧ 1 ≤ 4 from ⟨by omega, by omega⟩)
    have hFx9_ : ai_fr (sx_W vw_374) S0_ (sm_pI S0_ 13 0 0 1) := ai_fr_tr hF_ (ai_fr_pI rfl)
    refine sm_T_go 6 (c1 := (39, [some (.inr (.inr (some (13, 0)))), some (.inl a1_), some (.inl a2_)], [.inl 0], sm_pI S0_ 13 0 0 1)) rfl ?_
    refine sm_T_rz rfl (by omega) ⟨_, _, rfl, _, rfl, hIx8_, hFx9_, ?_⟩
    refine ⟨⟨by omega, by omega⟩, jR_fr hJ_ hIx8_ hFx9_⟩
  · have cx7_ : ¬ (vx6_ = 0) := of_decide_eq_false cx7_
    have hIx10_ : gi (sm_pI S0_ 13 0 0 0) := gi_pI hI_ (show 0 ≤ 0 ∧ 0 ≤ 4 from ⟨by omega, by omega⟩)
    have hFx11_ : ai_fr (sx_W vw_374) S0_ (sm_pI S0_ 13 0 0 0) := ai_fr_tr hF_ (ai_fr_pI rfl)
    refine sm_T_go 9 (c1 := (28, [some (.inr (.inr (some (13, 0)))), some (.inl a1_), some (.inl a2_)], [.inl a2_, .inl a1_, .inr (.inr (some (13, 0)))], sm_pI S0_ 13 0 0 0)) rfl ?_
    refine sm_T_cal (d1 := 1) (Q1 := vq_372 a1_ a2_ (sm_pI S0_ 13 0 0 0)) rfl rfl (by decide) (vc_372 a1_ a2_ (sm_pI S0_ 13 0 0 0) hIx10_ (by omega) (by omega)) (fun u_ Sx12_ px15_ => ?_)
    obtain ⟨rfl, vx17_, rfl, px15_⟩ := px15_
    refine sm_T_b0 (a := 0) (z := 7) rfl (fun cx18_ => ?_) (fun cx18_ => ?_)
    · have cx18_ : vx17_ = 0 := of_decide_eq_true cx18_
      refine sm_T_go 1 (c1 := (39, [some (.inr (.inr (some (13, 0)))), some (.inl a1_), some (.inl a2_)], [.inl 0], sm_pI S0_ 13 0 0 0)) rfl ?_
      refine sm_T_rz rfl (by omega) ⟨_, _, rfl, _, rfl, hIx10_, hFx11_, ?_⟩
      refine ⟨⟨by omega, by omega⟩, jR_fr hJ_ hIx10_ hFx11_⟩
    · have cx18_ : ¬ (vx17_ = 0) := of_decide_eq_false cx18_
      refine sm_T_go 2 (c1 := (39, [some (.inr (.inr (some (13, 0)))), some (.inl a1_), some (.inl a2_)], [.inl 1], sm_pI S0_ 13 0 0 0)) rfl ?_
      refine sm_T_rz rfl (by omega) ⟨_, _, rfl, _, rfl, hIx10_, hFx11_, ?_⟩
      refine ⟨⟨by omega, by omega⟩, jR_fr hJ_ hIx10_ hFx11_⟩
/-! M_.graph -/
def vw_375 : sx_Wl := ([(13, 0)], [], [])
def vq_375 (a1_ : Int) (a2_ : Int) (S0_ : sm_S) (u_ : Option sm_V) (S1_ : sm_S) : Prop := ∃ v_ : Int, u_ = some (.inl v_) ∧ gi S1_ ∧ ai_fr (sx_W vw_375) S0_ S1_ ∧ (((-2147483648) ≤ v_ ∧ v_ ≤ 2147483647) ∧ (jR S1_))
set_option maxHeartbeats 400000 in
set_option maxRecDepth 20000 in
theorem vc_375 {sc_ : Nat × (Nat → Int)} (a1_ : Int) (a2_ : Int) (S0_ : sm_S) (hI_ : gi S0_) (ha1_ : (-2147483648) ≤ a1_ ∧ a1_ ≤ 2147483647) (ha2_ : (-2147483648) ≤ a2_ ∧ a2_ ≤ 2147483647) (hJ_ : jR S0_) : sm_T (mt_P sc_) 1 375 (0, [some (.inr (.inr (some (13, 0)))), some (.inl a1_), some (.inl a2_)], [], S0_) (fun ro9_ => ∃ u_ S1_, ro9_ = (.inl u_, S1_, 0) ∧ vq_375 a1_ a2_ S0_ u_ S1_) := by
  have hF_ : ai_fr (sx_W vw_375) S0_ S0_ := ai_fr_rf
  refine sm_T_go 3 (c1 := (3, [some (.inr (.inr (some (13, 0)))), some (.inl a1_), some (.inl a2_)], [.inl a1_, .inr (.inr (some (13, 0))), .inr (.inr (some (13, 0)))], S0_)) rfl ?_
  refine sm_T_cal (d1 := 0) (Q1 := vq_369 a1_ S0_) rfl rfl (by decide) (vc_369 a1_ S0_ hI_ (by omega)) (fun u_ Sx1_ px4_ => ?_)
  obtain ⟨rfl, vx6_, rfl, px4_⟩ := px4_
  refine sm_T_b0 (a := 1) (z := 7) rfl (fun cx7_ => ?_) (fun cx7_ => ?_)
  · have cx7_ : vx6_ ≠ 0 := of_decide_eq_true cx7_
    refine sm_T_go 3 (c1 := (17, [some (.inr (.inr (some (13, 0)))), some (.inl a1_), some (.inl a2_)], [.inl 7, .inl 0, .inl a2_, .inr (.inr (some (13, 0)))], S0_)) rfl ?_
    refine sm_T_cal (d1 := 0) (Q1 := vq_278 a2_ 0 7 S0_) rfl rfl (by decide) (vc_278 a2_ 0 7 S0_ hI_ ) (fun u_ Sx8_ px11_ => ?_)
    obtain ⟨rfl, vx13_, rfl, px11_⟩ := px11_
    refine sm_T_b0 (a := 1) (z := 7) rfl (fun cx14_ => ?_) (fun cx14_ => ?_)
    · have cx14_ : vx13_ ≠ 0 := of_decide_eq_true cx14_
      have hIx15_ : gi (sm_pI S0_ 13 0 0 0) := gi_pI hI_ (show 0 ≤ 0 ∧ 0 ≤ 4 from ⟨by omega, by omega⟩)
      have hFx16_ : ai_fr (sx_W vw_375) S0_ (sm_pI S0_ 13 0 0 0) := ai_fr_tr hF_ (ai_fr_pI rfl)
      refine sm_T_go 6 (c1 := (41, [some (.inr (.inr (some (13, 0)))), some (.inl a1_), some (.inl a2_)], [.inl a2_], sm_pI S0_ 13 0 0 0)) rfl ?_
      by_cases cx17_ : a2_ = 0
      · refine sm_T_sw (t := 84) rfl rfl (by rw [cx17_]; rfl) ?_
        refine sm_T_go 3 (c1 := (89, [some (.inr (.inr (some (13, 0)))), some (.inl a1_), some (.inl a2_)], [.inl a1_, .inr (.inr (some (154, 0)))], sm_pI S0_ 13 0 0 0)) rfl ?_
        refine sm_T_iald (n := 6) rfl rfl (by omega) (by omega) ?_
        have bx18_ : 0 ≤ S0_.2.2.1 154 0 a1_.toNat ∧ S0_.2.2.1 154 0 a1_.toNat ≤ 12 := hI_.2 154 0 _
        refine sm_T_go 0 (c1 := (90, [some (.inr (.inr (some (13, 0)))), some (.inl a1_), some (.inl a2_)], [.inl (S0_.2.2.1 154 0 a1_.toNat)], sm_pI S0_ 13 0 0 0)) rfl ?_
        refine sm_T_ri rfl ⟨_, _, rfl, _, rfl, hIx15_, hFx16_, ?_⟩
        refine ⟨⟨by omega, by omega⟩, jR_fr hJ_ hIx15_ hFx16_⟩
      by_cases cx19_ : a2_ = 1
      · refine sm_T_sw (t := 91) rfl rfl (by rw [cx19_]; rfl) ?_
        refine sm_T_go 3 (c1 := (96, [some (.inr (.inr (some (13, 0)))), some (.inl a1_), some (.inl a2_)], [.inl a1_, .inr (.inr (some (155, 0)))], sm_pI S0_ 13 0 0 0)) rfl ?_
        refine sm_T_iald (n := 6) rfl rfl (by omega) (by omega) ?_
        have bx20_ : 0 ≤ S0_.2.2.1 155 0 a1_.toNat ∧ S0_.2.2.1 155 0 a1_.toNat ≤ 6 := hI_.2 155 0 _
        refine sm_T_go 0 (c1 := (97, [some (.inr (.inr (some (13, 0)))), some (.inl a1_), some (.inl a2_)], [.inl (S0_.2.2.1 155 0 a1_.toNat)], sm_pI S0_ 13 0 0 0)) rfl ?_
        refine sm_T_ri rfl ⟨_, _, rfl, _, rfl, hIx15_, hFx16_, ?_⟩
        refine ⟨⟨by omega, by omega⟩, jR_fr hJ_ hIx15_ hFx16_⟩
      by_cases cx21_ : a2_ = 2
      · refine sm_T_sw (t := 98) rfl rfl (by rw [cx21_]; rfl) ?_
        refine sm_T_go 3 (c1 := (103, [some (.inr (.inr (some (13, 0)))), some (.inl a1_), some (.inl a2_)], [.inl a1_, .inr (.inr (some (156, 0)))], sm_pI S0_ 13 0 0 0)) rfl ?_
        refine sm_T_iald (n := 6) rfl rfl (by omega) (by omega) ?_
        have bx22_ : 0 ≤ S0_.2.2.1 156 0 a1_.toNat ∧ S0_.2.2.1 156 0 a1_.toNat ≤ 16 := hI_.2 156 0 _
        refine sm_T_go 0 (c1 := (104, [some (.inr (.inr (some (13, 0)))), some (.inl a1_), some (.inl a2_)], [.inl (S0_.2.2.1 156 0 a1_.toNat)], sm_pI S0_ 13 0 0 0)) rfl ?_
        refine sm_T_ri rfl ⟨_, _, rfl, _, rfl, hIx15_, hFx16_, ?_⟩
        refine ⟨⟨by omega, by omega⟩, jR_fr hJ_ hIx15_ hFx16_⟩
      by_cases cx23_ : a2_ = 3
      · refine sm_T_sw (t := 105) rfl rfl (by rw [cx23_]; rfl) ?_
        refine sm_T_go 3 (c1 := (110, [some (.inr (.inr (some (13, 0)))), some (.inl a1_), some (.inl a2_)], [.inl a1_, .inr (.inr (some (159, 0)))], sm_pI S0_ 13 0 0 0)) rfl ?_
        refine sm_T_iald (n := 6) rfl rfl (by omega) (by omega) ?_
        have bx24_ : 0 ≤ S0_.2.2.1 159 0 a1_.toNat ∧ S0_.2.2.1 159 0 a1_.toNat ≤ 1013 := hI_.2 159 0 _
        refine sm_T_go 3 (c1 := (116, [some (.inr (.inr (some (13, 0)))), some (.inl a1_), some (.inl a2_)], [.inl a1_, .inr (.inr (some (160, 0))), .inl (S0_.2.2.1 159 0 a1_.toNat)], sm_pI S0_ 13 0 0 0)) rfl ?_
        refine sm_T_iald (n := 6) rfl rfl (by omega) (by omega) ?_
        have bx25_ : 0 ≤ S0_.2.2.1 160 0 a1_.toNat ∧ S0_.2.2.1 160 0 a1_.toNat ≤ 19 := hI_.2 160 0 _
        refine sm_T_go 0 (c1 := (117, [some (.inr (.inr (some (13, 0)))), some (.inl a1_), some (.inl a2_)], [.inl (S0_.2.2.1 160 0 a1_.toNat), .inl (S0_.2.2.1 159 0 a1_.toNat)], sm_pI S0_ 13 0 0 0)) rfl ?_
        refine sm_T_bin (w := (S0_.2.2.1 159 0 a1_.toNat) - (S0_.2.2.1 160 0 a1_.toNat)) rfl (bi_sub (by omega) (by omega) (by omega)) ?_ -- pc_ 117
        refine sm_T_ri rfl ⟨_, _, rfl, _, rfl, hIx15_, hFx16_, ?_⟩
        refine ⟨⟨by omega, by omega⟩, jR_fr hJ_ hIx15_ hFx16_⟩
      by_cases cx26_ : a2_ = 4
      · refine sm_T_sw (t := 119) rfl rfl (by rw [cx26_]; rfl) ?_
        refine sm_T_go 3 (c1 := (124, [some (.inr (.inr (some (13, 0)))), some (.inl a1_), some (.inl a2_)], [.inl a1_, .inr (.inr (some (161, 0)))], sm_pI S0_ 13 0 0 0)) rfl ?_
        refine sm_T_iald (n := 6) rfl rfl (by omega) (by omega) ?_
        have bx27_ : 0 ≤ S0_.2.2.1 161 0 a1_.toNat ∧ S0_.2.2.1 161 0 a1_.toNat ≤ 1000 := hI_.2 161 0 _
        refine sm_T_go 0 (c1 := (125, [some (.inr (.inr (some (13, 0)))), some (.inl a1_), some (.inl a2_)], [.inl (S0_.2.2.1 161 0 a1_.toNat)], sm_pI S0_ 13 0 0 0)) rfl ?_
        refine sm_T_ri rfl ⟨_, _, rfl, _, rfl, hIx15_, hFx16_, ?_⟩
        refine ⟨⟨by omega, by omega⟩, jR_fr hJ_ hIx15_ hFx16_⟩
      by_cases cx28_ : a2_ = 5
      · refine sm_T_sw (t := 126) rfl rfl (by rw [cx28_]; rfl) ?_
        refine sm_T_go 3 (c1 := (131, [some (.inr (.inr (some (13, 0)))), some (.inl a1_), some (.inl a2_)], [.inl a1_, .inr (.inr (some (162, 0)))], sm_pI S0_ 13 0 0 0)) rfl ?_
        refine sm_T_iald (n := 6) rfl rfl (by omega) (by omega) ?_
        have bx29_ : 0 ≤ S0_.2.2.1 162 0 a1_.toNat ∧ S0_.2.2.1 162 0 a1_.toNat ≤ 1000 := hI_.2 162 0 _
        refine sm_T_go 0 (c1 := (132, [some (.inr (.inr (some (13, 0)))), some (.inl a1_), some (.inl a2_)], [.inl (S0_.2.2.1 162 0 a1_.toNat)], sm_pI S0_ 13 0 0 0)) rfl ?_
        refine sm_T_ri rfl ⟨_, _, rfl, _, rfl, hIx15_, hFx16_, ?_⟩
        refine ⟨⟨by omega, by omega⟩, jR_fr hJ_ hIx15_ hFx16_⟩
      by_cases cx30_ : a2_ = 6
      · refine sm_T_sw (t := 133) rfl rfl (by rw [cx30_]; rfl) ?_
        refine sm_T_go 3 (c1 := (138, [some (.inr (.inr (some (13, 0)))), some (.inl a1_), some (.inl a2_)], [.inl a1_, .inr (.inr (some (163, 0)))], sm_pI S0_ 13 0 0 0)) rfl ?_
        refine sm_T_iald (n := 6) rfl rfl (by omega) (by omega) ?_
        have bx31_ : 0 ≤ S0_.2.2.1 163 0 a1_.toNat ∧ S0_.2.2.1 163 0 a1_.toNat ≤ 64 := hI_.2 163 0 _
        refine sm_T_go 0 (c1 := (139, [some (.inr (.inr (some (13, 0)))), some (.inl a1_), some (.inl a2_)], [.inl (S0_.2.2.1 163 0 a1_.toNat)], sm_pI S0_ 13 0 0 0)) rfl ?_
        refine sm_T_ri rfl ⟨_, _, rfl, _, rfl, hIx15_, hFx16_, ?_⟩
        refine ⟨⟨by omega, by omega⟩, jR_fr hJ_ hIx15_ hFx16_⟩
      refine sm_T_sw (t := 140) rfl rfl (by (have hh_ : a2_ < 0 ∨ 7 ≤ a2_ := by omega); rcases hh_ with hh_ | hh_; (exact sm_swd (Or.inl hh_)); (exact sm_swd (Or.inr (by simp only [List.length_cons, List.length_nil]; omega)))) ?_
      refine sm_T_go 3 (c1 := (145, [some (.inr (.inr (some (13, 0)))), some (.inl a1_), some (.inl a2_)], [.inl a1_, .inr (.inr (some (157, 0)))], sm_pI S0_ 13 0 0 0)) rfl ?_
      refine sm_T_iald (n := 6) rfl rfl (by omega) (by omega) ?_
      have bx32_ : 0 ≤ S0_.2.2.1 157 0 a1_.toNat ∧ S0_.2.2.1 157 0 a1_.toNat ≤ 63 := hI_.2 157 0 _
      refine sm_T_go 0 (c1 := (146, [some (.inr (.inr (some (13, 0)))), some (.inl a1_), some (.inl a2_)], [.inl (S0_.2.2.1 157 0 a1_.toNat)], sm_pI S0_ 13 0 0 0)) rfl ?_
      refine sm_T_ri rfl ⟨_, _, rfl, _, rfl, hIx15_, hFx16_, ?_⟩
      refine ⟨⟨by omega, by omega⟩, jR_fr hJ_ hIx15_ hFx16_⟩
    · have cx14_ : ¬ (vx13_ ≠ 0) := of_decide_eq_false cx14_
      have hIx33_ : gi (sm_pI S0_ 13 0 0 2) := gi_pI hI_ (show 0 ≤ 2 ∧ 2 ≤ 4 from ⟨by omega, by omega⟩)
      have hFx34_ : ai_fr (sx_W vw_375) S0_ (sm_pI S0_ 13 0 0 2) := ai_fr_tr hF_ (ai_fr_pI rfl)
      refine sm_T_go 7 (c1 := (39, [some (.inr (.inr (some (13, 0)))), some (.inl a1_), some (.inl a2_)], [.inl 0], sm_pI S0_ 13 0 0 2)) rfl ?_
      refine sm_T_ri rfl ⟨_, _, rfl, _, rfl, hIx33_, hFx34_, ?_⟩
      refine ⟨⟨by omega, by omega⟩, jR_fr hJ_ hIx33_ hFx34_⟩
  · have cx7_ : ¬ (vx6_ ≠ 0) := of_decide_eq_false cx7_
    have hIx35_ : gi (sm_pI S0_ 13 0 0 1) := gi_pI hI_ (show 0 ≤ 1 ∧ 1 ≤ 4 from ⟨by omega, by omega⟩)
    have hFx36_ : ai_fr (sx_W vw_375) S0_ (sm_pI S0_ 13 0 0 1) := ai_fr_tr hF_ (ai_fr_pI rfl)
    refine sm_T_go 7 (c1 := (39, [some (.inr (.inr (some (13, 0)))), some (.inl a1_), some (.inl a2_)], [.inl 0], sm_pI S0_ 13 0 0 1)) rfl ?_
    refine sm_T_ri rfl ⟨_, _, rfl, _, rfl, hIx35_, hFx36_, ?_⟩
    refine ⟨⟨by omega, by omega⟩, jR_fr hJ_ hIx35_ hFx36_⟩
/-! M_.literal -/
def vw_376 : sx_Wl := ([(13, 0)], [], [])
def vq_376 (a1_ : Int) (a2_ : Int) (a3_ : Int) (S0_ : sm_S) (u_ : Option sm_V) (S1_ : sm_S) : Prop := ∃ v_ : Int, u_ = some (.inl v_) ∧ gi S1_ ∧ ai_fr (sx_W vw_376) S0_ S1_ ∧ (((-2147483648) ≤ v_ ∧ v_ ≤ 2147483647) ∧ (jR S1_))
set_option maxHeartbeats 400000 in
set_option maxRecDepth 20000 in
theorem vc_376 {sc_ : Nat × (Nat → Int)} (a1_ : Int) (a2_ : Int) (a3_ : Int) (S0_ : sm_S) (hI_ : gi S0_) (ha1_ : (-2147483648) ≤ a1_ ∧ a1_ ≤ 2147483647) (ha2_ : (-2147483648) ≤ a2_ ∧ a2_ ≤ 2147483647) (ha3_ : (-2147483648) ≤ a3_ ∧ a3_ ≤ 2147483647) (hJ_ : jR S0_) : sm_T (mt_P sc_) 1 376 (0, [some (.inr (.inr (some (13, 0)))), some (.inl a1_), some (.inl a2_), some (.inl a3_)], [], S0_) (fun ro9_ => ∃ u_ S1_, ro9_ = (.inl u_, S1_, 0) ∧ vq_376 a1_ a2_ a3_ S0_ u_ S1_) := by
  have hF_ : ai_fr (sx_W vw_376) S0_ S0_ := ai_fr_rf
  refine sm_T_go 3 (c1 := (3, [some (.inr (.inr (some (13, 0)))), some (.inl a1_), some (.inl a2_), some (.inl a3_)], [.inl a1_, .inr (.inr (some (13, 0))), .inr (.inr (some (13, 0)))], S0_)) rfl ?_
  refine sm_T_cal (d1 := 0) (Q1 := vq_369 a1_ S0_) rfl rfl (by decide) (vc_369 a1_ S0_ hI_ (by omega)) (fun u_ Sx1_ px4_ => ?_)
  obtain ⟨rfl, vx6_, rfl, px4_⟩ := px4_
  refine sm_T_b0 (a := 0) (z := 32) rfl (fun cx7_ => ?_) (fun cx7_ => ?_)
  · have cx7_ : vx6_ = 0 := of_decide_eq_true cx7_
    have hIx8_ : gi (sm_pI S0_ 13 0 0 1) := gi_pI hI_ (show 0 ≤ 1 ∧ 1 ≤ 4 from ⟨by omega, by omega⟩)
    have hFx9_ : ai_fr (sx_W vw_376) S0_ (sm_pI S0_ 13 0 0 1) := ai_fr_tr hF_ (ai_fr_pI rfl)
    refine sm_T_go 7 (c1 := (54, [some (.inr (.inr (some (13, 0)))), some (.inl a1_), some (.inl a2_), some (.inl a3_)], [.inl 0], sm_pI S0_ 13 0 0 1)) rfl ?_
    refine sm_T_ri rfl ⟨_, _, rfl, _, rfl, hIx8_, hFx9_, ?_⟩
    refine ⟨⟨by omega, by omega⟩, jR_fr hJ_ hIx8_ hFx9_⟩
  · have cx7_ : ¬ (vx6_ = 0) := of_decide_eq_false cx7_
    refine sm_T_go 4 (c1 := (15, [some (.inr (.inr (some (13, 0)))), some (.inl a1_), some (.inl a2_), some (.inl a3_)], [.inl a1_, .inr (.inr (some (160, 0))), .inl a2_, .inr (.inr (some (13, 0)))], S0_)) rfl ?_
    refine sm_T_iald (n := 6) rfl rfl (by omega) (by omega) ?_
    have bx10_ : 0 ≤ S0_.2.2.1 160 0 a1_.toNat ∧ S0_.2.2.1 160 0 a1_.toNat ≤ 19 := hI_.2 160 0 _
    refine sm_T_br (a := 2) (z := 22) rfl (fun cx11_ => ?_) (fun cx11_ => ?_)
    · have cx11_ : a2_ < (S0_.2.2.1 160 0 a1_.toNat) := of_decide_eq_true cx11_
      have hIx12_ : gi (sm_pI S0_ 13 0 0 1) := gi_pI hI_ (show 0 ≤ 1 ∧ 1 ≤ 4 from ⟨by omega, by omega⟩)
      have hFx13_ : ai_fr (sx_W vw_376) S0_ (sm_pI S0_ 13 0 0 1) := ai_fr_tr hF_ (ai_fr_pI rfl)
      refine sm_T_go 7 (c1 := (54, [some (.inr (.inr (some (13, 0)))), some (.inl a1_), some (.inl a2_), some (.inl a3_)], [.inl 0], sm_pI S0_ 13 0 0 1)) rfl ?_
      refine sm_T_ri rfl ⟨_, _, rfl, _, rfl, hIx12_, hFx13_, ?_⟩
      refine ⟨⟨by omega, by omega⟩, jR_fr hJ_ hIx12_ hFx13_⟩
    · have cx11_ : ¬ (a2_ < (S0_.2.2.1 160 0 a1_.toNat)) := of_decide_eq_false cx11_
      refine sm_T_go 4 (c1 := (25, [some (.inr (.inr (some (13, 0)))), some (.inl a1_), some (.inl a2_), some (.inl a3_)], [.inl a1_, .inr (.inr (some (159, 0))), .inl a2_, .inr (.inr (some (13, 0)))], S0_)) rfl ?_
      refine sm_T_iald (n := 6) rfl rfl (by omega) (by omega) ?_
      have bx14_ : 0 ≤ S0_.2.2.1 159 0 a1_.toNat ∧ S0_.2.2.1 159 0 a1_.toNat ≤ 1013 := hI_.2 159 0 _
      refine sm_T_br (a := 3) (z := 12) rfl (fun cx15_ => ?_) (fun cx15_ => ?_)
      · have cx15_ : (S0_.2.2.1 159 0 a1_.toNat) ≤ a2_ := of_decide_eq_true cx15_
        have hIx16_ : gi (sm_pI S0_ 13 0 0 1) := gi_pI hI_ (show 0 ≤ 1 ∧ 1 ≤ 4 from ⟨by omega, by omega⟩)
        have hFx17_ : ai_fr (sx_W vw_376) S0_ (sm_pI S0_ 13 0 0 1) := ai_fr_tr hF_ (ai_fr_pI rfl)
        refine sm_T_go 7 (c1 := (54, [some (.inr (.inr (some (13, 0)))), some (.inl a1_), some (.inl a2_), some (.inl a3_)], [.inl 0], sm_pI S0_ 13 0 0 1)) rfl ?_
        refine sm_T_ri rfl ⟨_, _, rfl, _, rfl, hIx16_, hFx17_, ?_⟩
        refine ⟨⟨by omega, by omega⟩, jR_fr hJ_ hIx16_ hFx17_⟩
      · have cx15_ : ¬ ((S0_.2.2.1 159 0 a1_.toNat) ≤ a2_) := of_decide_eq_false cx15_
        refine sm_T_go 3 (c1 := (32, [some (.inr (.inr (some (13, 0)))), some (.inl a1_), some (.inl a2_), some (.inl a3_)], [.inl 1, .inl 0, .inl a3_, .inr (.inr (some (13, 0)))], S0_)) rfl ?_
        refine sm_T_cal (d1 := 0) (Q1 := vq_278 a3_ 0 1 S0_) rfl rfl (by decide) (vc_278 a3_ 0 1 S0_ hI_ ) (fun u_ Sx18_ px21_ => ?_)
        obtain ⟨rfl, vx23_, rfl, px21_⟩ := px21_
        refine sm_T_b0 (a := 1) (z := 7) rfl (fun cx24_ => ?_) (fun cx24_ => ?_)
        · have cx24_ : vx23_ ≠ 0 := of_decide_eq_true cx24_
          have hIx25_ : gi (sm_pI S0_ 13 0 0 0) := gi_pI hI_ (show 0 ≤ 0 ∧ 0 ≤ 4 from ⟨by omega, by omega⟩)
          have hFx26_ : ai_fr (sx_W vw_376) S0_ (sm_pI S0_ 13 0 0 0) := ai_fr_tr hF_ (ai_fr_pI rfl)
          refine sm_T_go 6 (c1 := (56, [some (.inr (.inr (some (13, 0)))), some (.inl a1_), some (.inl a2_), some (.inl a3_)], [.inl a3_], sm_pI S0_ 13 0 0 0)) rfl ?_
          refine sm_T_b0 (a := 1) (z := 18) rfl (fun cx27_ => ?_) (fun cx27_ => ?_)
          · have cx27_ : a3_ ≠ 0 := of_decide_eq_true cx27_
            refine sm_T_go 4 (c1 := (82, [some (.inr (.inr (some (13, 0)))), some (.inl a1_), some (.inl a2_), some (.inl a3_)], [.inl a1_, .inl 2048, .inr (.inr (some (165, 0)))], sm_pI S0_ 13 0 0 0)) rfl ?_
            refine sm_T_bin (w := 2048 * a1_) rfl (bi_mul (by omega) (by omega) (by omega)) ?_ -- pc_ 82
            refine sm_T_go 1 (c1 := (84, [some (.inr (.inr (some (13, 0)))), some (.inl a1_), some (.inl a2_), some (.inl a3_)], [.inl a2_, .inl (2048 * a1_), .inr (.inr (some (165, 0)))], sm_pI S0_ 13 0 0 0)) rfl ?_
            refine sm_T_bin (w := 2048 * a1_ + a2_) rfl (bi_add (by omega) (by omega) (by omega)) ?_ -- pc_ 84
            refine sm_T_iald (n := 12288) rfl rfl (by omega) (by omega) ?_
            have bx28_ : 0 ≤ S0_.2.2.1 165 0 (2048 * a1_ + a2_).toNat ∧ S0_.2.2.1 165 0 (2048 * a1_ + a2_).toNat ≤ 2047 := hI_.2 165 0 _
            refine sm_T_go 0 (c1 := (86, [some (.inr (.inr (some (13, 0)))), some (.inl a1_), some (.inl a2_), some (.inl a3_)], [.inl (S0_.2.2.1 165 0 (2048 * a1_ + a2_).toNat)], sm_pI S0_ 13 0 0 0)) rfl ?_
            refine sm_T_ri rfl ⟨_, _, rfl, _, rfl, hIx25_, hFx26_, ?_⟩
            refine ⟨⟨by omega, by omega⟩, jR_fr hJ_ hIx25_ hFx26_⟩
          · have cx27_ : ¬ (a3_ ≠ 0) := of_decide_eq_false cx27_
            refine sm_T_go 4 (c1 := (67, [some (.inr (.inr (some (13, 0)))), some (.inl a1_), some (.inl a2_), some (.inl a3_)], [.inl a1_, .inl 2048, .inr (.inr (some (164, 0)))], sm_pI S0_ 13 0 0 0)) rfl ?_
            refine sm_T_bin (w := 2048 * a1_) rfl (bi_mul (by omega) (by omega) (by omega)) ?_ -- pc_ 67
            refine sm_T_go 1 (c1 := (69, [some (.inr (.inr (some (13, 0)))), some (.inl a1_), some (.inl a2_), some (.inl a3_)], [.inl a2_, .inl (2048 * a1_), .inr (.inr (some (164, 0)))], sm_pI S0_ 13 0 0 0)) rfl ?_
            refine sm_T_bin (w := 2048 * a1_ + a2_) rfl (bi_add (by omega) (by omega) (by omega)) ?_ -- pc_ 69
            refine sm_T_iald (n := 12288) rfl rfl (by omega) (by omega) ?_
            have bx29_ : 0 ≤ S0_.2.2.1 164 0 (2048 * a1_ + a2_).toNat ∧ S0_.2.2.1 164 0 (2048 * a1_ + a2_).toNat ≤ 2047 := hI_.2 164 0 _
            refine sm_T_go 1 (c1 := (86, [some (.inr (.inr (some (13, 0)))), some (.inl a1_), some (.inl a2_), some (.inl a3_)], [.inl (S0_.2.2.1 164 0 (2048 * a1_ + a2_).toNat)], sm_pI S0_ 13 0 0 0)) rfl ?_
            refine sm_T_ri rfl ⟨_, _, rfl, _, rfl, hIx25_, hFx26_, ?_⟩
            refine ⟨⟨by omega, by omega⟩, jR_fr hJ_ hIx25_ hFx26_⟩
        · have cx24_ : ¬ (vx23_ ≠ 0) := of_decide_eq_false cx24_
          have hIx30_ : gi (sm_pI S0_ 13 0 0 1) := gi_pI hI_ (show 0 ≤ 1 ∧ 1 ≤ 4 from ⟨by omega, by omega⟩)
          have hFx31_ : ai_fr (sx_W vw_376) S0_ (sm_pI S0_ 13 0 0 1) := ai_fr_tr hF_ (ai_fr_pI rfl)
          refine sm_T_go 7 (c1 := (54, [some (.inr (.inr (some (13, 0)))), some (.inl a1_), some (.inl a2_), some (.inl a3_)], [.inl 0], sm_pI S0_ 13 0 0 1)) rfl ?_
          refine sm_T_ri rfl ⟨_, _, rfl, _, rfl, hIx30_, hFx31_, ?_⟩
          refine ⟨⟨by omega, by omega⟩, jR_fr hJ_ hIx30_ hFx31_⟩
/-! M_.swept -/
def vw_377 : sx_Wl := ([(13, 0)], [], [])
def vq_377 (a1_ : Int) (a2_ : Int) (S0_ : sm_S) (u_ : Option sm_V) (S1_ : sm_S) : Prop := ∃ v_ : Int, u_ = some (.inl v_) ∧ gi S1_ ∧ ai_fr (sx_W vw_377) S0_ S1_ ∧ (((-2147483648) ≤ v_ ∧ v_ ≤ 2147483647) ∧ (jR S1_))
set_option maxHeartbeats 400000 in
set_option maxRecDepth 20000 in
theorem vc_377 {sc_ : Nat × (Nat → Int)} (a1_ : Int) (a2_ : Int) (S0_ : sm_S) (hI_ : gi S0_) (ha1_ : (-2147483648) ≤ a1_ ∧ a1_ ≤ 2147483647) (ha2_ : (-2147483648) ≤ a2_ ∧ a2_ ≤ 2147483647) (hJ_ : jR S0_) : sm_T (mt_P sc_) 1 377 (0, [some (.inr (.inr (some (13, 0)))), some (.inl a1_), some (.inl a2_)], [], S0_) (fun ro9_ => ∃ u_ S1_, ro9_ = (.inl u_, S1_, 0) ∧ vq_377 a1_ a2_ S0_ u_ S1_) := by
  have hF_ : ai_fr (sx_W vw_377) S0_ S0_ := ai_fr_rf
  refine sm_T_go 3 (c1 := (3, [some (.inr (.inr (some (13, 0)))), some (.inl a1_), some (.inl a2_)], [.inl a1_, .inr (.inr (some (13, 0))), .inr (.inr (some (13, 0)))], S0_)) rfl ?_
  refine sm_T_cal (d1 := 0) (Q1 := vq_369 a1_ S0_) rfl rfl (by decide) (vc_369 a1_ S0_ hI_ (by omega)) (fun u_ Sx1_ px4_ => ?_)
  obtain ⟨rfl, vx6_, rfl, px4_⟩ := px4_
  refine sm_T_b0 (a := 0) (z := 17) rfl (fun cx7_ => ?_) (fun cx7_ => ?_)
  · have cx7_ : vx6_ = 0 := of_decide_eq_true cx7_
    have hIx8_ : gi (sm_pI S0_ 13 0 0 1) := gi_pI hI_ (show 0 ≤ 1 ∧ 1 ≤ 4 from ⟨by omega, by omega⟩)
    have hFx9_ : ai_fr (sx_W vw_377) S0_ (sm_pI S0_ 13 0 0 1) := ai_fr_tr hF_ (ai_fr_pI rfl)
    refine sm_T_go 8 (c1 := (54, [some (.inr (.inr (some (13, 0)))), some (.inl a1_), some (.inl a2_)], [.inl 0], sm_pI S0_ 13 0 0 1)) rfl ?_
    refine sm_T_ri rfl ⟨_, _, rfl, _, rfl, hIx8_, hFx9_, ?_⟩
    refine ⟨⟨by omega, by omega⟩, jR_fr hJ_ hIx8_ hFx9_⟩
  · have cx7_ : ¬ (vx6_ = 0) := of_decide_eq_false cx7_
    refine sm_T_go 1 (c1 := (10, [some (.inr (.inr (some (13, 0)))), some (.inl a1_), some (.inl a2_)], [.inl a2_, .inr (.inr (some (13, 0)))], S0_)) rfl ?_
    refine sm_T_b0 (a := 2) (z := 13) rfl (fun cx10_ => ?_) (fun cx10_ => ?_)
    · have cx10_ : a2_ < 0 := of_decide_eq_true cx10_
      have hIx11_ : gi (sm_pI S0_ 13 0 0 1) := gi_pI hI_ (show 0 ≤ 1 ∧ 1 ≤ 4 from ⟨by omega, by omega⟩)
      have hFx12_ : ai_fr (sx_W vw_377) S0_ (sm_pI S0_ 13 0 0 1) := ai_fr_tr hF_ (ai_fr_pI rfl)
      refine sm_T_go 8 (c1 := (54, [some (.inr (.inr (some (13, 0)))), some (.inl a1_), some (.inl a2_)], [.inl 0], sm_pI S0_ 13 0 0 1)) rfl ?_
      refine sm_T_ri rfl ⟨_, _, rfl, _, rfl, hIx11_, hFx12_, ?_⟩
      refine ⟨⟨by omega, by omega⟩, jR_fr hJ_ hIx11_ hFx12_⟩
    · have cx10_ : ¬ (a2_ < 0) := of_decide_eq_false cx10_
      refine sm_T_go 4 (c1 := (19, [some (.inr (.inr (some (13, 0)))), some (.inl a1_), some (.inl a2_)], [.inl a1_, .inr (.inr (some (159, 0))), .inl a2_, .inr (.inr (some (13, 0)))], S0_)) rfl ?_
      refine sm_T_iald (n := 6) rfl rfl (by omega) (by omega) ?_
      have bx13_ : 0 ≤ S0_.2.2.1 159 0 a1_.toNat ∧ S0_.2.2.1 159 0 a1_.toNat ≤ 1013 := hI_.2 159 0 _
      refine sm_T_br (a := 2) (z := 7) rfl (fun cx14_ => ?_) (fun cx14_ => ?_)
      · have cx14_ : a2_ < (S0_.2.2.1 159 0 a1_.toNat) := of_decide_eq_true cx14_
        have hIx15_ : gi (sm_pI S0_ 13 0 0 0) := gi_pI hI_ (show 0 ≤ 0 ∧ 0 ≤ 4 from ⟨by omega, by omega⟩)
        have hFx16_ : ai_fr (sx_W vw_377) S0_ (sm_pI S0_ 13 0 0 0) := ai_fr_tr hF_ (ai_fr_pI rfl)
        refine sm_T_go 9 (c1 := (50, [some (.inr (.inr (some (13, 0)))), some (.inl a1_), some (.inl a2_)], [.inl a1_, .inl 2048, .inr (.inr (some (166, 0)))], sm_pI S0_ 13 0 0 0)) rfl ?_
        refine sm_T_bin (w := 2048 * a1_) rfl (bi_mul (by omega) (by omega) (by omega)) ?_ -- pc_ 50
        refine sm_T_go 1 (c1 := (52, [some (.inr (.inr (some (13, 0)))), some (.inl a1_), some (.inl a2_)], [.inl a2_, .inl (2048 * a1_), .inr (.inr (some (166, 0)))], sm_pI S0_ 13 0 0 0)) rfl ?_
        refine sm_T_bin (w := 2048 * a1_ + a2_) rfl (bi_add (by omega) (by omega) (by omega)) ?_ -- pc_ 52
        refine sm_T_iald (n := 12288) rfl rfl (by omega) (by omega) ?_
        have bx17_ : 0 ≤ S0_.2.2.1 166 0 (2048 * a1_ + a2_).toNat ∧ S0_.2.2.1 166 0 (2048 * a1_ + a2_).toNat ≤ 2025 := hI_.2 166 0 _
        refine sm_T_go 0 (c1 := (54, [some (.inr (.inr (some (13, 0)))), some (.inl a1_), some (.inl a2_)], [.inl (S0_.2.2.1 166 0 (2048 * a1_ + a2_).toNat)], sm_pI S0_ 13 0 0 0)) rfl ?_
        refine sm_T_ri rfl ⟨_, _, rfl, _, rfl, hIx15_, hFx16_, ?_⟩
        refine ⟨⟨by omega, by omega⟩, jR_fr hJ_ hIx15_ hFx16_⟩
      · have cx14_ : ¬ (a2_ < (S0_.2.2.1 159 0 a1_.toNat)) := of_decide_eq_false cx14_
        have hIx18_ : gi (sm_pI S0_ 13 0 0 1) := gi_pI hI_ (show 0 ≤ 1 ∧ 1 ≤ 4 from ⟨by omega, by omega⟩)
        have hFx19_ : ai_fr (sx_W vw_377) S0_ (sm_pI S0_ 13 0 0 1) := ai_fr_tr hF_ (ai_fr_pI rfl)
        refine sm_T_go 8 (c1 := (54, [some (.inr (.inr (some (13, 0)))), some (.inl a1_), some (.inl a2_)], [.inl 0], sm_pI S0_ 13 0 0 1)) rfl ?_
        refine sm_T_ri rfl ⟨_, _, rfl, _, rfl, hIx18_, hFx19_, ?_⟩
        refine ⟨⟨by omega, by omega⟩, jR_fr hJ_ hIx18_ hFx19_⟩
/-! M_.root -/
def vw_378 : sx_Wl := ([(13, 0)], [], [])
def vq_378 (a1_ : Int) (a2_ : Int) (a3_ : Int) (S0_ : sm_S) (u_ : Option sm_V) (S1_ : sm_S) : Prop := ∃ v_ : Int, u_ = some (.inl v_) ∧ gi S1_ ∧ ai_fr (sx_W vw_378) S0_ S1_ ∧ (((-2147483648) ≤ v_ ∧ v_ ≤ 2147483647) ∧ (jR S1_))
set_option maxHeartbeats 400000 in
set_option maxRecDepth 20000 in
theorem vc_378 {sc_ : Nat × (Nat → Int)} (a1_ : Int) (a2_ : Int) (a3_ : Int) (S0_ : sm_S) (hI_ : gi S0_) (ha1_ : (-2147483648) ≤ a1_ ∧ a1_ ≤ 2147483647) (ha2_ : (-2147483648) ≤ a2_ ∧ a2_ ≤ 2147483647) (ha3_ : (-2147483648) ≤ a3_ ∧ a3_ ≤ 2147483647) (hJ_ : jR S0_) : sm_T (mt_P sc_) 1 378 (0, [some (.inr (.inr (some (13, 0)))), some (.inl a1_), some (.inl a2_), some (.inl a3_)], [], S0_) (fun ro9_ => ∃ u_ S1_, ro9_ = (.inl u_, S1_, 0) ∧ vq_378 a1_ a2_ a3_ S0_ u_ S1_) := by
  have hF_ : ai_fr (sx_W vw_378) S0_ S0_ := ai_fr_rf
  refine sm_T_go 3 (c1 := (3, [some (.inr (.inr (some (13, 0)))), some (.inl a1_), some (.inl a2_), some (.inl a3_)], [.inl a1_, .inr (.inr (some (13, 0))), .inr (.inr (some (13, 0)))], S0_)) rfl ?_
  refine sm_T_cal (d1 := 0) (Q1 := vq_369 a1_ S0_) rfl rfl (by decide) (vc_369 a1_ S0_ hI_ (by omega)) (fun u_ Sx1_ px4_ => ?_)
  obtain ⟨rfl, vx6_, rfl, px4_⟩ := px4_
  refine sm_T_b0 (a := 0) (z := 30) rfl (fun cx7_ => ?_) (fun cx7_ => ?_)
  · have cx7_ : vx6_ = 0 := of_decide_eq_true cx7_
    have hIx8_ : gi (sm_pI S0_ 13 0 0 1) := gi_pI hI_ (show 0 ≤ 1 ∧ 1 ≤ 4 from ⟨by omega, by omega⟩)
    have hFx9_ : ai_fr (sx_W vw_378) S0_ (sm_pI S0_ 13 0 0 1) := ai_fr_tr hF_ (ai_fr_pI rfl)
    refine sm_T_go 7 (c1 := (52, [some (.inr (.inr (some (13, 0)))), some (.inl a1_), some (.inl a2_), some (.inl a3_)], [.inl 0], sm_pI S0_ 13 0 0 1)) rfl ?_
    refine sm_T_ri rfl ⟨_, _, rfl, _, rfl, hIx8_, hFx9_, ?_⟩
    refine ⟨⟨by omega, by omega⟩, jR_fr hJ_ hIx8_ hFx9_⟩
  · have cx7_ : ¬ (vx6_ = 0) := of_decide_eq_false cx7_
    refine sm_T_go 1 (c1 := (10, [some (.inr (.inr (some (13, 0)))), some (.inl a1_), some (.inl a2_), some (.inl a3_)], [.inl a2_, .inr (.inr (some (13, 0)))], S0_)) rfl ?_
    refine sm_T_b0 (a := 2) (z := 26) rfl (fun cx10_ => ?_) (fun cx10_ => ?_)
    · have cx10_ : a2_ < 0 := of_decide_eq_true cx10_
      have hIx11_ : gi (sm_pI S0_ 13 0 0 1) := gi_pI hI_ (show 0 ≤ 1 ∧ 1 ≤ 4 from ⟨by omega, by omega⟩)
      have hFx12_ : ai_fr (sx_W vw_378) S0_ (sm_pI S0_ 13 0 0 1) := ai_fr_tr hF_ (ai_fr_pI rfl)
      refine sm_T_go 7 (c1 := (52, [some (.inr (.inr (some (13, 0)))), some (.inl a1_), some (.inl a2_), some (.inl a3_)], [.inl 0], sm_pI S0_ 13 0 0 1)) rfl ?_
      refine sm_T_ri rfl ⟨_, _, rfl, _, rfl, hIx11_, hFx12_, ?_⟩
      refine ⟨⟨by omega, by omega⟩, jR_fr hJ_ hIx11_ hFx12_⟩
    · have cx10_ : ¬ (a2_ < 0) := of_decide_eq_false cx10_
      refine sm_T_go 2 (c1 := (15, [some (.inr (.inr (some (13, 0)))), some (.inl a1_), some (.inl a2_), some (.inl a3_)], [.inl a3_, .inl a2_, .inr (.inr (some (13, 0)))], S0_)) rfl ?_
      refine sm_T_b0 (a := 0) (z := 12) rfl (fun cx13_ => ?_) (fun cx13_ => ?_)
      · have cx13_ : a3_ = 0 := of_decide_eq_true cx13_
        refine sm_T_go 3 (c1 := (32, [some (.inr (.inr (some (13, 0)))), some (.inl a1_), some (.inl a2_), some (.inl a3_)], [.inl a1_, .inr (.inr (some (156, 0))), .inl a2_, .inr (.inr (some (13, 0)))], S0_)) rfl ?_
        refine sm_T_iald (n := 6) rfl rfl (by omega) (by omega) ?_
        have bx14_ : 0 ≤ S0_.2.2.1 156 0 a1_.toNat ∧ S0_.2.2.1 156 0 a1_.toNat ≤ 16 := hI_.2 156 0 _
        refine sm_T_br (a := 2) (z := 7) rfl (fun cx15_ => ?_) (fun cx15_ => ?_)
        · have cx15_ : a2_ < (S0_.2.2.1 156 0 a1_.toNat) := of_decide_eq_true cx15_
          have hIx16_ : gi (sm_pI S0_ 13 0 0 0) := gi_pI hI_ (show 0 ≤ 0 ∧ 0 ≤ 4 from ⟨by omega, by omega⟩)
          have hFx17_ : ai_fr (sx_W vw_378) S0_ (sm_pI S0_ 13 0 0 0) := ai_fr_tr hF_ (ai_fr_pI rfl)
          refine sm_T_go 6 (c1 := (54, [some (.inr (.inr (some (13, 0)))), some (.inl a1_), some (.inl a2_), some (.inl a3_)], [.inl a3_], sm_pI S0_ 13 0 0 0)) rfl ?_
          refine sm_T_b0 (a := 0) (z := 17) rfl (fun cx18_ => ?_) (fun cx18_ => ?_)
          · have cx18_ : a3_ = 0 := of_decide_eq_true cx18_
            refine sm_T_go 4 (c1 := (78, [some (.inr (.inr (some (13, 0)))), some (.inl a1_), some (.inl a2_), some (.inl a3_)], [.inl a1_, .inl 16, .inr (.inr (some (167, 0)))], sm_pI S0_ 13 0 0 0)) rfl ?_
            refine sm_T_bin (w := 16 * a1_) rfl (bi_mul (by omega) (by omega) (by omega)) ?_ -- pc_ 78
            refine sm_T_go 1 (c1 := (80, [some (.inr (.inr (some (13, 0)))), some (.inl a1_), some (.inl a2_), some (.inl a3_)], [.inl a2_, .inl (16 * a1_), .inr (.inr (some (167, 0)))], sm_pI S0_ 13 0 0 0)) rfl ?_
            refine sm_T_bin (w := 16 * a1_ + a2_) rfl (bi_add (by omega) (by omega) (by omega)) ?_ -- pc_ 80
            refine sm_T_iald (n := 96) rfl rfl (by omega) (by omega) ?_
            have bx19_ : 0 ≤ S0_.2.2.1 167 0 (16 * a1_ + a2_).toNat ∧ S0_.2.2.1 167 0 (16 * a1_ + a2_).toNat ≤ 2047 := hI_.2 167 0 _
            refine sm_T_go 0 (c1 := (82, [some (.inr (.inr (some (13, 0)))), some (.inl a1_), some (.inl a2_), some (.inl a3_)], [.inl (S0_.2.2.1 167 0 (16 * a1_ + a2_).toNat)], sm_pI S0_ 13 0 0 0)) rfl ?_
            refine sm_T_ri rfl ⟨_, _, rfl, _, rfl, hIx16_, hFx17_, ?_⟩
            refine ⟨⟨by omega, by omega⟩, jR_fr hJ_ hIx16_ hFx17_⟩
          · have cx18_ : ¬ (a3_ = 0) := of_decide_eq_false cx18_
            exfalso; omega
        · have cx15_ : ¬ (a2_ < (S0_.2.2.1 156 0 a1_.toNat)) := of_decide_eq_false cx15_
          have hIx20_ : gi (sm_pI S0_ 13 0 0 1) := gi_pI hI_ (show 0 ≤ 1 ∧ 1 ≤ 4 from ⟨by omega, by omega⟩)
          have hFx21_ : ai_fr (sx_W vw_378) S0_ (sm_pI S0_ 13 0 0 1) := ai_fr_tr hF_ (ai_fr_pI rfl)
          refine sm_T_go 7 (c1 := (52, [some (.inr (.inr (some (13, 0)))), some (.inl a1_), some (.inl a2_), some (.inl a3_)], [.inl 0], sm_pI S0_ 13 0 0 1)) rfl ?_
          refine sm_T_ri rfl ⟨_, _, rfl, _, rfl, hIx20_, hFx21_, ?_⟩
          refine ⟨⟨by omega, by omega⟩, jR_fr hJ_ hIx20_ hFx21_⟩
      · have cx13_ : ¬ (a3_ = 0) := of_decide_eq_false cx13_
        refine sm_T_go 3 (c1 := (23, [some (.inr (.inr (some (13, 0)))), some (.inl a1_), some (.inl a2_), some (.inl a3_)], [.inl a1_, .inr (.inr (some (155, 0))), .inl a2_, .inr (.inr (some (13, 0)))], S0_)) rfl ?_
        refine sm_T_iald (n := 6) rfl rfl (by omega) (by omega) ?_
        have bx22_ : 0 ≤ S0_.2.2.1 155 0 a1_.toNat ∧ S0_.2.2.1 155 0 a1_.toNat ≤ 6 := hI_.2 155 0 _
        refine sm_T_go 1 (c1 := (33, [some (.inr (.inr (some (13, 0)))), some (.inl a1_), some (.inl a2_), some (.inl a3_)], [.inl (S0_.2.2.1 155 0 a1_.toNat), .inl a2_, .inr (.inr (some (13, 0)))], S0_)) rfl ?_
        refine sm_T_br (a := 2) (z := 7) rfl (fun cx23_ => ?_) (fun cx23_ => ?_)
        · have cx23_ : a2_ < (S0_.2.2.1 155 0 a1_.toNat) := of_decide_eq_true cx23_
          have hIx24_ : gi (sm_pI S0_ 13 0 0 0) := gi_pI hI_ (show 0 ≤ 0 ∧ 0 ≤ 4 from ⟨by omega, by omega⟩)
          have hFx25_ : ai_fr (sx_W vw_378) S0_ (sm_pI S0_ 13 0 0 0) := ai_fr_tr hF_ (ai_fr_pI rfl)
          refine sm_T_go 6 (c1 := (54, [some (.inr (.inr (some (13, 0)))), some (.inl a1_), some (.inl a2_), some (.inl a3_)], [.inl a3_], sm_pI S0_ 13 0 0 0)) rfl ?_
          refine sm_T_b0 (a := 0) (z := 17) rfl (fun cx26_ => ?_) (fun cx26_ => ?_)
          · have cx26_ : a3_ = 0 := of_decide_eq_true cx26_
            refine sm_T_go 4 (c1 := (78, [some (.inr (.inr (some (13, 0)))), some (.inl a1_), some (.inl a2_), some (.inl a3_)], [.inl a1_, .inl 16, .inr (.inr (some (167, 0)))], sm_pI S0_ 13 0 0 0)) rfl ?_
            refine sm_T_bin (w := 16 * a1_) rfl (bi_mul (by omega) (by omega) (by omega)) ?_ -- pc_ 78
            refine sm_T_go 1 (c1 := (80, [some (.inr (.inr (some (13, 0)))), some (.inl a1_), some (.inl a2_), some (.inl a3_)], [.inl a2_, .inl (16 * a1_), .inr (.inr (some (167, 0)))], sm_pI S0_ 13 0 0 0)) rfl ?_
            refine sm_T_bin (w := 16 * a1_ + a2_) rfl (bi_add (by omega) (by omega) (by omega)) ?_ -- pc_ 80
            refine sm_T_iald (n := 96) rfl rfl (by omega) (by omega) ?_
            have bx27_ : 0 ≤ S0_.2.2.1 167 0 (16 * a1_ + a2_).toNat ∧ S0_.2.2.1 167 0 (16 * a1_ + a2_).toNat ≤ 2047 := hI_.2 167 0 _
            refine sm_T_go 0 (c1 := (82, [some (.inr (.inr (some (13, 0)))), some (.inl a1_), some (.inl a2_), some (.inl a3_)], [.inl (S0_.2.2.1 167 0 (16 * a1_ + a2_).toNat)], sm_pI S0_ 13 0 0 0)) rfl ?_
            refine sm_T_ri rfl ⟨_, _, rfl, _, rfl, hIx24_, hFx25_, ?_⟩
            refine ⟨⟨by omega, by omega⟩, jR_fr hJ_ hIx24_ hFx25_⟩
          · have cx26_ : ¬ (a3_ = 0) := of_decide_eq_false cx26_
            refine sm_T_go 4 (c1 := (64, [some (.inr (.inr (some (13, 0)))), some (.inl a1_), some (.inl a2_), some (.inl a3_)], [.inl a1_, .inl 6, .inr (.inr (some (168, 0)))], sm_pI S0_ 13 0 0 0)) rfl ?_
            refine sm_T_bin (w := 6 * a1_) rfl (bi_mul (by omega) (by omega) (by omega)) ?_ -- pc_ 64
            refine sm_T_go 1 (c1 := (66, [some (.inr (.inr (some (13, 0)))), some (.inl a1_), some (.inl a2_), some (.inl a3_)], [.inl a2_, .inl (6 * a1_), .inr (.inr (some (168, 0)))], sm_pI S0_ 13 0 0 0)) rfl ?_
            refine sm_T_bin (w := 6 * a1_ + a2_) rfl (bi_add (by omega) (by omega) (by omega)) ?_ -- pc_ 66
            refine sm_T_iald (n := 36) rfl rfl (by omega) (by omega) ?_
            have bx28_ : 0 ≤ S0_.2.2.1 168 0 (6 * a1_ + a2_).toNat ∧ S0_.2.2.1 168 0 (6 * a1_ + a2_).toNat ≤ 2047 := hI_.2 168 0 _
            refine sm_T_go 1 (c1 := (82, [some (.inr (.inr (some (13, 0)))), some (.inl a1_), some (.inl a2_), some (.inl a3_)], [.inl (S0_.2.2.1 168 0 (6 * a1_ + a2_).toNat)], sm_pI S0_ 13 0 0 0)) rfl ?_
            refine sm_T_ri rfl ⟨_, _, rfl, _, rfl, hIx24_, hFx25_, ?_⟩
            refine ⟨⟨by omega, by omega⟩, jR_fr hJ_ hIx24_ hFx25_⟩
        · have cx23_ : ¬ (a2_ < (S0_.2.2.1 155 0 a1_.toNat)) := of_decide_eq_false cx23_
          have hIx29_ : gi (sm_pI S0_ 13 0 0 1) := gi_pI hI_ (show 0 ≤ 1 ∧ 1 ≤ 4 from ⟨by omega, by omega⟩)
          have hFx30_ : ai_fr (sx_W vw_378) S0_ (sm_pI S0_ 13 0 0 1) := ai_fr_tr hF_ (ai_fr_pI rfl)
          refine sm_T_go 7 (c1 := (52, [some (.inr (.inr (some (13, 0)))), some (.inl a1_), some (.inl a2_), some (.inl a3_)], [.inl 0], sm_pI S0_ 13 0 0 1)) rfl ?_
          refine sm_T_ri rfl ⟨_, _, rfl, _, rfl, hIx29_, hFx30_, ?_⟩
          refine ⟨⟨by omega, by omega⟩, jR_fr hJ_ hIx29_ hFx30_⟩
/-! M_.inverterOf -/
def vw_379 : sx_Wl := ([], [], [])
def vq_379 (a1_ : Int) (S0_ : sm_S) (u_ : Option sm_V) (S1_ : sm_S) : Prop := S0_ = S1_ ∧ ∃ v_ : Int, u_ = some (.inl v_) ∧ ((-1 ≤ v_ ∧ v_ ≤ 11) ∧ (v_ = -1 ∨ (0 ≤ v_ ∧ v_ < S0_.2.2.1 184 0 a1_.toNat ∧ S0_.2.2.1 185 0 (12 * a1_ + v_).toNat = 1)))
set_option maxHeartbeats 400000 in
set_option maxRecDepth 20000 in
theorem vl_379 {sc_ : Nat × (Nat → Int)} (a1_ : Int) (S0_ : sm_S) (ha_ : 0 ≤ a1_ ∧ a1_ ≤ 2) : ∀ nn_ : Nat, (∀ (b_ : Int) (c_ : Int) (S_ : sm_S), gi S_ → ai_fr (sx_W vw_379) S0_ S_ → ((0 ≤ c_ ∧ c_ ≤ 12) ∧ (b_ = -1 ∨ (0 ≤ b_ ∧ b_ < S0_.2.2.1 184 0 a1_.toNat ∧ S0_.2.2.1 185 0 (12 * a1_ + b_).toNat = 1)) ∧ (-1 ≤ b_ ∧ b_ ≤ 11) ∧ (S_ = S0_) ∧ True) → ((20 - c_).toNat) < nn_ → sm_T (mt_P sc_) 0 379 (4, [some (.inr (.inr (some (13, 0)))), some (.inl a1_), some (.inl b_), some (.inl c_), none], [], S_) (fun ro9_ => ∃ u_ S1_, ro9_ = (.inl u_, S1_, 0) ∧ vq_379 a1_ S0_ u_ S1_)) := by
  intro nn_
  induction nn_ with
  | zero => exact fun _ _ _ _ _ _ h_ => absurd h_ (Nat.not_lt_zero _)
  | succ nn_ ih_ =>
    rintro b_ c_ S_ hI_ hF_ ⟨h0_, h1_, h2_, hS_, -⟩ hm_
    subst hS_
    refine sm_T_go 4 (c1 := (10, [some (.inr (.inr (some (13, 0)))), some (.inl a1_), some (.inl b_), some (.inl c_), none], [.inl a1_, .inr (.inr (some (184, 0))), .inl c_], S_)) rfl ?_
    refine sm_T_iald (n := 3) rfl rfl (by omega) (by omega) ?_
    have bx1_ : 0 ≤ S_.2.2.1 184 0 a1_.toNat ∧ S_.2.2.1 184 0 a1_.toNat ≤ 12 := hI_.2 184 0 _
    refine sm_T_br (a := 3) (z := 87) rfl (fun cx2_ => ?_) (fun cx2_ => ?_)
    · have cx2_ : (S_.2.2.1 184 0 a1_.toNat) ≤ c_ := of_decide_eq_true cx2_
      refine sm_T_go 1 (c1 := (99, [some (.inr (.inr (some (13, 0)))), some (.inl a1_), some (.inl b_), some (.inl c_), none], [.inl b_], S_)) rfl ?_
      refine sm_T_ri rfl ⟨_, _, rfl, (by first | rfl | exact hS_.symm), _, rfl, ?_⟩
      omega
    · have cx2_ : ¬ ((S_.2.2.1 184 0 a1_.toNat) ≤ c_) := of_decide_eq_false cx2_
      refine sm_T_go 4 (c1 := (21, [some (.inr (.inr (some (13, 0)))), some (.inl a1_), some (.inl b_), some (.inl c_), none], [.inl a1_, .inl 12, .inr (.inr (some (185, 0)))], S_)) rfl ?_
      refine sm_T_bin (w := 12 * a1_) rfl (bi_mul (by omega) (by omega) (by omega)) ?_ -- pc_ 21
      refine sm_T_go 1 (c1 := (23, [some (.inr (.inr (some (13, 0)))), some (.inl a1_), some (.inl b_), some (.inl c_), none], [.inl c_, .inl (12 * a1_), .inr (.inr (some (185, 0)))], S_)) rfl ?_
      refine sm_T_bin (w := 12 * a1_ + c_) rfl (bi_add (by omega) (by omega) (by omega)) ?_ -- pc_ 23
      refine sm_T_iald (n := 36) rfl rfl (by omega) (by omega) ?_
      have bx3_ : 0 ≤ S_.2.2.1 185 0 (12 * a1_ + c_).toNat ∧ S_.2.2.1 185 0 (12 * a1_ + c_).toNat ≤ 3 := hI_.2 185 0 _
      refine sm_T_go 1 (c1 := (26, [some (.inr (.inr (some (13, 0)))), some (.inl a1_), some (.inl b_), some (.inl c_), none], [.inl 1, .inl (S_.2.2.1 185 0 (12 * a1_ + c_).toNat)], S_)) rfl ?_
      refine sm_T_br (a := 1) (z := 22) rfl (fun cx4_ => ?_) (fun cx4_ => ?_)
      · have cx4_ : (S_.2.2.1 185 0 (12 * a1_ + c_).toNat) ≠ 1 := of_decide_eq_true cx4_
        refine sm_T_go 6 (c1 := (92, [some (.inr (.inr (some (13, 0)))), some (.inl a1_), some (.inl b_), some (.inl c_), some (.inl 0)], [], S_)) rfl ?_
        refine sm_T_inc (a := 3) (z := 1) (v := c_) (w := c_ + 1) rfl rfl (by omega) (by omega) (by omega) ?_ -- pc_ 92
        refine sm_T_go 1 (c1 := (4, [some (.inr (.inr (some (13, 0)))), some (.inl a1_), some (.inl b_), some (.inl (c_ + 1)), some (.inl 0)], [], S_)) rfl ?_
        refine sm_T_wk [some (.inr (.inr (some (13, 0)))), some (.inl a1_), some (.inl b_), some (.inl (c_ + 1)), none] (by exact ⟨rfl, rfl, rfl, rfl, trivial⟩) ?_
        refine ih_ b_ (c_ + 1) S_ hI_ hF_ ⟨?_, ?_, ?_, ?_, trivial⟩ ?_
        · omega
        · omega
        · omega
        · rfl
        · omega
      · have cx4_ : ¬ ((S_.2.2.1 185 0 (12 * a1_ + c_).toNat) ≠ 1) := of_decide_eq_false cx4_
        refine sm_T_go 4 (c1 := (36, [some (.inr (.inr (some (13, 0)))), some (.inl a1_), some (.inl b_), some (.inl c_), none], [.inl a1_, .inl 12, .inr (.inr (some (186, 0)))], S_)) rfl ?_
        refine sm_T_bin (w := 12 * a1_) rfl (bi_mul (by omega) (by omega) (by omega)) ?_ -- pc_ 36
        refine sm_T_go 1 (c1 := (38, [some (.inr (.inr (some (13, 0)))), some (.inl a1_), some (.inl b_), some (.inl c_), none], [.inl c_, .inl (12 * a1_), .inr (.inr (some (186, 0)))], S_)) rfl ?_
        refine sm_T_bin (w := 12 * a1_ + c_) rfl (bi_add (by omega) (by omega) (by omega)) ?_ -- pc_ 38
        refine sm_T_iald (n := 36) rfl rfl (by omega) (by omega) ?_
        have bx5_ : 0 ≤ S_.2.2.1 186 0 (12 * a1_ + c_).toNat ∧ S_.2.2.1 186 0 (12 * a1_ + c_).toNat ≤ 255 := hI_.2 186 0 _
        refine sm_T_go 1 (c1 := (41, [some (.inr (.inr (some (13, 0)))), some (.inl a1_), some (.inl b_), some (.inl c_), none], [.inl 1, .inl (S_.2.2.1 186 0 (12 * a1_ + c_).toNat)], S_)) rfl ?_
        refine sm_T_br (a := 1) (z := 7) rfl (fun cx6_ => ?_) (fun cx6_ => ?_)
        · have cx6_ : (S_.2.2.1 186 0 (12 * a1_ + c_).toNat) ≠ 1 := of_decide_eq_true cx6_
          refine sm_T_go 6 (c1 := (92, [some (.inr (.inr (some (13, 0)))), some (.inl a1_), some (.inl b_), some (.inl c_), some (.inl 0)], [], S_)) rfl ?_
          refine sm_T_inc (a := 3) (z := 1) (v := c_) (w := c_ + 1) rfl rfl (by omega) (by omega) (by omega) ?_ -- pc_ 92
          refine sm_T_go 1 (c1 := (4, [some (.inr (.inr (some (13, 0)))), some (.inl a1_), some (.inl b_), some (.inl (c_ + 1)), some (.inl 0)], [], S_)) rfl ?_
          refine sm_T_wk [some (.inr (.inr (some (13, 0)))), some (.inl a1_), some (.inl b_), some (.inl (c_ + 1)), none] (by exact ⟨rfl, rfl, rfl, rfl, trivial⟩) ?_
          refine ih_ b_ (c_ + 1) S_ hI_ hF_ ⟨?_, ?_, ?_, ?_, trivial⟩ ?_
          · omega
          · omega
          · omega
          · rfl
          · omega
        · have cx6_ : ¬ ((S_.2.2.1 186 0 (12 * a1_ + c_).toNat) ≠ 1) := of_decide_eq_false cx6_
          refine sm_T_go 7 (c1 := (58, [some (.inr (.inr (some (13, 0)))), some (.inl a1_), some (.inl b_), some (.inl c_), some (.inl 1)], [.inl (-1), .inl b_], S_)) rfl ?_
          refine sm_T_br (a := 0) (z := 28) rfl (fun cx7_ => ?_) (fun cx7_ => ?_)
          · have cx7_ : b_ = (-1) := of_decide_eq_true cx7_
            refine sm_T_go 3 (c1 := (92, [some (.inr (.inr (some (13, 0)))), some (.inl a1_), some (.inl c_), some (.inl c_), some (.inl 1)], [], S_)) rfl ?_
            refine sm_T_inc (a := 3) (z := 1) (v := c_) (w := c_ + 1) rfl rfl (by omega) (by omega) (by omega) ?_ -- pc_ 92
            refine sm_T_go 1 (c1 := (4, [some (.inr (.inr (some (13, 0)))), some (.inl a1_), some (.inl c_), some (.inl (c_ + 1)), some (.inl 1)], [], S_)) rfl ?_
            refine sm_T_wk [some (.inr (.inr (some (13, 0)))), some (.inl a1_), some (.inl c_), some (.inl (c_ + 1)), none] (by exact ⟨rfl, rfl, rfl, rfl, trivial⟩) ?_
            refine ih_ c_ (c_ + 1) S_ hI_ hF_ ⟨?_, ?_, ?_, ?_, trivial⟩ ?_
            · omega
            · omega
            · omega
            · rfl
            · omega
          · have cx7_ : ¬ (b_ = (-1)) := of_decide_eq_false cx7_
            refine sm_T_go 4 (c1 := (68, [some (.inr (.inr (some (13, 0)))), some (.inl a1_), some (.inl b_), some (.inl c_), some (.inl 1)], [.inl a1_, .inl 12, .inr (.inr (some (187, 0)))], S_)) rfl ?_
            refine sm_T_bin (w := 12 * a1_) rfl (bi_mul (by omega) (by omega) (by omega)) ?_ -- pc_ 68
            refine sm_T_go 1 (c1 := (70, [some (.inr (.inr (some (13, 0)))), some (.inl a1_), some (.inl b_), some (.inl c_), some (.inl 1)], [.inl c_, .inl (12 * a1_), .inr (.inr (some (187, 0)))], S_)) rfl ?_
            refine sm_T_bin (w := 12 * a1_ + c_) rfl (bi_add (by omega) (by omega) (by omega)) ?_ -- pc_ 70
            refine sm_T_iald (n := 36) rfl rfl (by omega) (by omega) ?_
            have bx8_ : 0 ≤ S_.2.2.1 187 0 (12 * a1_ + c_).toNat ∧ S_.2.2.1 187 0 (12 * a1_ + c_).toNat ≤ 1000 := hI_.2 187 0 _
            refine sm_T_go 4 (c1 := (79, [some (.inr (.inr (some (13, 0)))), some (.inl a1_), some (.inl b_), some (.inl c_), some (.inl 1)], [.inl a1_, .inl 12, .inr (.inr (some (187, 0))), .inl (S_.2.2.1 187 0 (12 * a1_ + c_).toNat)], S_)) rfl ?_
            refine sm_T_bin (w := 12 * a1_) rfl (bi_mul (by omega) (by omega) (by omega)) ?_ -- pc_ 79
            refine sm_T_go 1 (c1 := (81, [some (.inr (.inr (some (13, 0)))), some (.inl a1_), some (.inl b_), some (.inl c_), some (.inl 1)], [.inl b_, .inl (12 * a1_), .inr (.inr (some (187, 0))), .inl (S_.2.2.1 187 0 (12 * a1_ + c_).toNat)], S_)) rfl ?_
            refine sm_T_bin (w := 12 * a1_ + b_) rfl (bi_add (by omega) (by omega) (by omega)) ?_ -- pc_ 81
            refine sm_T_iald (n := 36) rfl rfl (by omega) (by omega) ?_
            have bx9_ : 0 ≤ S_.2.2.1 187 0 (12 * a1_ + b_).toNat ∧ S_.2.2.1 187 0 (12 * a1_ + b_).toNat ≤ 1000 := hI_.2 187 0 _
            refine sm_T_br (a := 3) (z := 7) rfl (fun cx10_ => ?_) (fun cx10_ => ?_)
            · have cx10_ : (S_.2.2.1 187 0 (12 * a1_ + b_).toNat) ≤ (S_.2.2.1 187 0 (12 * a1_ + c_).toNat) := of_decide_eq_true cx10_
              refine sm_T_go 2 (c1 := (92, [some (.inr (.inr (some (13, 0)))), some (.inl a1_), some (.inl b_), some (.inl c_), some (.inl 1)], [], S_)) rfl ?_
              refine sm_T_inc (a := 3) (z := 1) (v := c_) (w := c_ + 1) rfl rfl (by omega) (by omega) (by omega) ?_ -- pc_ 92
              refine sm_T_go 1 (c1 := (4, [some (.inr (.inr (some (13, 0)))), some (.inl a1_), some (.inl b_), some (.inl (c_ + 1)), some (.inl 1)], [], S_)) rfl ?_
              refine sm_T_wk [some (.inr (.inr (some (13, 0)))), some (.inl a1_), some (.inl b_), some (.inl (c_ + 1)), none] (by exact ⟨rfl, rfl, rfl, rfl, trivial⟩) ?_
              refine ih_ b_ (c_ + 1) S_ hI_ hF_ ⟨?_, ?_, ?_, ?_, trivial⟩ ?_
              · omega
              · omega
              · omega
              · rfl
              · omega
            · have cx10_ : ¬ ((S_.2.2.1 187 0 (12 * a1_ + b_).toNat) ≤ (S_.2.2.1 187 0 (12 * a1_ + c_).toNat)) := of_decide_eq_false cx10_
              refine sm_T_go 3 (c1 := (92, [some (.inr (.inr (some (13, 0)))), some (.inl a1_), some (.inl c_), some (.inl c_), some (.inl 1)], [], S_)) rfl ?_
              refine sm_T_inc (a := 3) (z := 1) (v := c_) (w := c_ + 1) rfl rfl (by omega) (by omega) (by omega) ?_ -- pc_ 92
              refine sm_T_go 1 (c1 := (4, [some (.inr (.inr (some (13, 0)))), some (.inl a1_), some (.inl c_), some (.inl (c_ + 1)), some (.inl 1)], [], S_)) rfl ?_
              refine sm_T_wk [some (.inr (.inr (some (13, 0)))), some (.inl a1_), some (.inl c_), some (.inl (c_ + 1)), none] (by exact ⟨rfl, rfl, rfl, rfl, trivial⟩) ?_
              refine ih_ c_ (c_ + 1) S_ hI_ hF_ ⟨?_, ?_, ?_, ?_, trivial⟩ ?_
              · omega
              · omega
              · omega
              · rfl
              · omega
set_option maxHeartbeats 400000 in
set_option maxRecDepth 20000 in
theorem vc_379 {sc_ : Nat × (Nat → Int)} (a1_ : Int) (S0_ : sm_S) (hI_ : gi S0_) (ha_ : 0 ≤ a1_ ∧ a1_ ≤ 2) : sm_T (mt_P sc_) 0 379 (0, [some (.inr (.inr (some (13, 0)))), some (.inl a1_), none, none, none], [], S0_) (fun ro9_ => ∃ u_ S1_, ro9_ = (.inl u_, S1_, 0) ∧ vq_379 a1_ S0_ u_ S1_) := by
  have hF_ : ai_fr (sx_W vw_379) S0_ S0_ := ai_fr_rf
  refine sm_T_go 4 (c1 := (4, [some (.inr (.inr (some (13, 0)))), some (.inl a1_), some (.inl (-1)), some (.inl 0), none], [], S0_)) rfl ?_
  refine (vl_379 a1_ S0_ ha_ _) (-1) 0 S0_ hI_ hF_ ⟨?_, ?_, ?_, ?_, trivial⟩ (Nat.lt_succ_self _)
  · omega
  · omega
  · omega
  · rfl
/-! M_.cell -/
def vw_380 : sx_Wl := ([(13, 0)], [], [])
def vq_380 (a1_ : Int) (a2_ : Int) (a3_ : Int) (S0_ : sm_S) (u_ : Option sm_V) (S1_ : sm_S) : Prop := ∃ v_ : Int, u_ = some (.inl v_) ∧ gi S1_ ∧ ai_fr (sx_W vw_380) S0_ S1_ ∧ (((-2147483648) ≤ v_ ∧ v_ ≤ 2147483647) ∧ (jR S1_))
set_option maxHeartbeats 400000 in
set_option maxRecDepth 20000 in
theorem vc_380 {sc_ : Nat × (Nat → Int)} (a1_ : Int) (a2_ : Int) (a3_ : Int) (S0_ : sm_S) (hI_ : gi S0_) (ha1_ : (-2147483648) ≤ a1_ ∧ a1_ ≤ 2147483647) (ha2_ : (-2147483648) ≤ a2_ ∧ a2_ ≤ 2147483647) (ha3_ : (-2147483648) ≤ a3_ ∧ a3_ ≤ 2147483647) (hJ_ : jR S0_) : sm_T (mt_P sc_) 1 380 (0, [some (.inr (.inr (some (13, 0)))), some (.inl a1_), some (.inl a2_), some (.inl a3_), none], [], S0_) (fun ro9_ => ∃ u_ S1_, ro9_ = (.inl u_, S1_, 0) ∧ vq_380 a1_ a2_ a3_ S0_ u_ S1_) := by
  have hF_ : ai_fr (sx_W vw_380) S0_ S0_ := ai_fr_rf
  refine sm_T_go 3 (c1 := (3, [some (.inr (.inr (some (13, 0)))), some (.inl a1_), some (.inl a2_), some (.inl a3_), none], [.inl a1_, .inr (.inr (some (13, 0))), .inr (.inr (some (13, 0)))], S0_)) rfl ?_
  refine sm_T_cal (d1 := 0) (Q1 := vq_370 a1_ S0_) rfl rfl (by decide) (vc_370 a1_ S0_ hI_ (by omega)) (fun u_ Sx1_ px4_ => ?_)
  obtain ⟨rfl, vx6_, rfl, px4_⟩ := px4_
  refine sm_T_b0 (a := 0) (z := 18) rfl (fun cx7_ => ?_) (fun cx7_ => ?_)
  · have cx7_ : vx6_ = 0 := of_decide_eq_true cx7_
    have hIx8_ : gi (sm_pI S0_ 13 0 0 1) := gi_pI hI_ (show 0 ≤ 1 ∧ 1 ≤ 4 from ⟨by omega, by omega⟩)
    have hFx9_ : ai_fr (sx_W vw_380) S0_ (sm_pI S0_ 13 0 0 1) := ai_fr_tr hF_ (ai_fr_pI rfl)
    refine sm_T_go 7 (c1 := (53, [some (.inr (.inr (some (13, 0)))), some (.inl a1_), some (.inl a2_), some (.inl a3_), none], [.inl 0], sm_pI S0_ 13 0 0 1)) rfl ?_
    refine sm_T_ri rfl ⟨_, _, rfl, _, rfl, hIx8_, hFx9_, ?_⟩
    refine ⟨⟨by omega, by omega⟩, jR_fr hJ_ hIx8_ hFx9_⟩
  · have cx7_ : ¬ (vx6_ = 0) := of_decide_eq_false cx7_
    refine sm_T_go 2 (c1 := (11, [some (.inr (.inr (some (13, 0)))), some (.inl a1_), some (.inl a2_), some (.inl a3_), none], [.inl (-1), .inl a2_, .inr (.inr (some (13, 0)))], S0_)) rfl ?_
    refine sm_T_br (a := 2) (z := 13) rfl (fun cx10_ => ?_) (fun cx10_ => ?_)
    · have cx10_ : a2_ < (-1) := of_decide_eq_true cx10_
      have hIx11_ : gi (sm_pI S0_ 13 0 0 1) := gi_pI hI_ (show 0 ≤ 1 ∧ 1 ≤ 4 from ⟨by omega, by omega⟩)
      have hFx12_ : ai_fr (sx_W vw_380) S0_ (sm_pI S0_ 13 0 0 1) := ai_fr_tr hF_ (ai_fr_pI rfl)
      refine sm_T_go 7 (c1 := (53, [some (.inr (.inr (some (13, 0)))), some (.inl a1_), some (.inl a2_), some (.inl a3_), none], [.inl 0], sm_pI S0_ 13 0 0 1)) rfl ?_
      refine sm_T_ri rfl ⟨_, _, rfl, _, rfl, hIx11_, hFx12_, ?_⟩
      refine ⟨⟨by omega, by omega⟩, jR_fr hJ_ hIx11_ hFx12_⟩
    · have cx10_ : ¬ (a2_ < (-1)) := of_decide_eq_false cx10_
      refine sm_T_go 4 (c1 := (20, [some (.inr (.inr (some (13, 0)))), some (.inl a1_), some (.inl a2_), some (.inl a3_), none], [.inl a1_, .inr (.inr (some (184, 0))), .inl a2_, .inr (.inr (some (13, 0)))], S0_)) rfl ?_
      refine sm_T_iald (n := 3) rfl rfl (by omega) (by omega) ?_
      have bx13_ : 0 ≤ S0_.2.2.1 184 0 a1_.toNat ∧ S0_.2.2.1 184 0 a1_.toNat ≤ 12 := hI_.2 184 0 _
      refine sm_T_br (a := 2) (z := 7) rfl (fun cx14_ => ?_) (fun cx14_ => ?_)
      · have cx14_ : a2_ < (S0_.2.2.1 184 0 a1_.toNat) := of_decide_eq_true cx14_
        refine sm_T_go 3 (c1 := (31, [some (.inr (.inr (some (13, 0)))), some (.inl a1_), some (.inl a2_), some (.inl a3_), none], [.inl 3, .inl 0, .inl a3_, .inr (.inr (some (13, 0)))], S0_)) rfl ?_
        refine sm_T_cal (d1 := 0) (Q1 := vq_278 a3_ 0 3 S0_) rfl rfl (by decide) (vc_278 a3_ 0 3 S0_ hI_ ) (fun u_ Sx15_ px18_ => ?_)
        obtain ⟨rfl, vx20_, rfl, px18_⟩ := px18_
        refine sm_T_b0 (a := 1) (z := 7) rfl (fun cx21_ => ?_) (fun cx21_ => ?_)
        · have cx21_ : vx20_ ≠ 0 := of_decide_eq_true cx21_
          have hIx22_ : gi (sm_pI S0_ 13 0 0 0) := gi_pI hI_ (show 0 ≤ 0 ∧ 0 ≤ 4 from ⟨by omega, by omega⟩)
          have hFx23_ : ai_fr (sx_W vw_380) S0_ (sm_pI S0_ 13 0 0 0) := ai_fr_tr hF_ (ai_fr_pI rfl)
          refine sm_T_go 7 (c1 := (56, [some (.inr (.inr (some (13, 0)))), some (.inl a1_), some (.inl a2_), some (.inl a3_), none], [.inl (-1), .inl a2_], sm_pI S0_ 13 0 0 0)) rfl ?_
          refine sm_T_br (a := 1) (z := 31) rfl (fun cx24_ => ?_) (fun cx24_ => ?_)
          · have cx24_ : a2_ ≠ (-1) := of_decide_eq_true cx24_
            refine sm_T_go 2 (c1 := (90, [some (.inr (.inr (some (13, 0)))), some (.inl a1_), some (.inl a2_), some (.inl a3_), none], [.inl a1_, .inl 12], sm_pI S0_ 13 0 0 0)) rfl ?_
            refine sm_T_bin (w := 12 * a1_) rfl (bi_mul (by omega) (by omega) (by omega)) ?_ -- pc_ 90
            refine sm_T_go 1 (c1 := (92, [some (.inr (.inr (some (13, 0)))), some (.inl a1_), some (.inl a2_), some (.inl a3_), none], [.inl a2_, .inl (12 * a1_)], sm_pI S0_ 13 0 0 0)) rfl ?_
            refine sm_T_bin (w := 12 * a1_ + a2_) rfl (bi_add (by omega) (by omega) (by omega)) ?_ -- pc_ 92
            refine sm_T_go 2 (c1 := (96, [some (.inr (.inr (some (13, 0)))), some (.inl a1_), some (.inl a2_), some (.inl a3_), some (.inl (12 * a1_ + a2_))], [.inl a3_], sm_pI S0_ 13 0 0 0)) rfl ?_
            refine sm_T_b0 (a := 1) (z := 13) rfl (fun cx25_ => ?_) (fun cx25_ => ?_)
            · have cx25_ : a3_ ≠ 0 := of_decide_eq_true cx25_
              refine sm_T_go 2 (c1 := (111, [some (.inr (.inr (some (13, 0)))), some (.inl a1_), some (.inl a2_), some (.inl a3_), some (.inl (12 * a1_ + a2_))], [.inl 1, .inl a3_], sm_pI S0_ 13 0 0 0)) rfl ?_
              refine sm_T_br (a := 1) (z := 13) rfl (fun cx26_ => ?_) (fun cx26_ => ?_)
              · have cx26_ : a3_ ≠ 1 := of_decide_eq_true cx26_
                refine sm_T_go 2 (c1 := (126, [some (.inr (.inr (some (13, 0)))), some (.inl a1_), some (.inl a2_), some (.inl a3_), some (.inl (12 * a1_ + a2_))], [.inl 2, .inl a3_], sm_pI S0_ 13 0 0 0)) rfl ?_
                refine sm_T_br (a := 1) (z := 13) rfl (fun cx27_ => ?_) (fun cx27_ => ?_)
                · have cx27_ : a3_ ≠ 2 := of_decide_eq_true cx27_
                  refine sm_T_go 3 (c1 := (145, [some (.inr (.inr (some (13, 0)))), some (.inl a1_), some (.inl a2_), some (.inl a3_), some (.inl (12 * a1_ + a2_))], [.inl (12 * a1_ + a2_), .inr (.inr (some (188, 0)))], sm_pI S0_ 13 0 0 0)) rfl ?_
                  refine sm_T_iald (n := 36) rfl rfl (by omega) (by omega) ?_
                  have bx28_ : 0 ≤ S0_.2.2.1 188 0 (12 * a1_ + a2_).toNat ∧ S0_.2.2.1 188 0 (12 * a1_ + a2_).toNat ≤ 100 := hI_.2 188 0 _
                  refine sm_T_go 0 (c1 := (146, [some (.inr (.inr (some (13, 0)))), some (.inl a1_), some (.inl a2_), some (.inl a3_), some (.inl (12 * a1_ + a2_))], [.inl (S0_.2.2.1 188 0 (12 * a1_ + a2_).toNat)], sm_pI S0_ 13 0 0 0)) rfl ?_
                  refine sm_T_ri rfl ⟨_, _, rfl, _, rfl, hIx22_, hFx23_, ?_⟩
                  refine ⟨⟨by omega, by omega⟩, jR_fr hJ_ hIx22_ hFx23_⟩
                · have cx27_ : ¬ (a3_ ≠ 2) := of_decide_eq_false cx27_
                  refine sm_T_go 3 (c1 := (135, [some (.inr (.inr (some (13, 0)))), some (.inl a1_), some (.inl a2_), some (.inl a3_), some (.inl (12 * a1_ + a2_))], [.inl (12 * a1_ + a2_), .inr (.inr (some (187, 0)))], sm_pI S0_ 13 0 0 0)) rfl ?_
                  refine sm_T_iald (n := 36) rfl rfl (by omega) (by omega) ?_
                  have bx29_ : 0 ≤ S0_.2.2.1 187 0 (12 * a1_ + a2_).toNat ∧ S0_.2.2.1 187 0 (12 * a1_ + a2_).toNat ≤ 1000 := hI_.2 187 0 _
                  refine sm_T_go 1 (c1 := (146, [some (.inr (.inr (some (13, 0)))), some (.inl a1_), some (.inl a2_), some (.inl a3_), some (.inl (12 * a1_ + a2_))], [.inl (S0_.2.2.1 187 0 (12 * a1_ + a2_).toNat)], sm_pI S0_ 13 0 0 0)) rfl ?_
                  refine sm_T_ri rfl ⟨_, _, rfl, _, rfl, hIx22_, hFx23_, ?_⟩
                  refine ⟨⟨by omega, by omega⟩, jR_fr hJ_ hIx22_ hFx23_⟩
              · have cx26_ : ¬ (a3_ ≠ 1) := of_decide_eq_false cx26_
                refine sm_T_go 3 (c1 := (120, [some (.inr (.inr (some (13, 0)))), some (.inl a1_), some (.inl a2_), some (.inl a3_), some (.inl (12 * a1_ + a2_))], [.inl (12 * a1_ + a2_), .inr (.inr (some (186, 0)))], sm_pI S0_ 13 0 0 0)) rfl ?_
                refine sm_T_iald (n := 36) rfl rfl (by omega) (by omega) ?_
                have bx30_ : 0 ≤ S0_.2.2.1 186 0 (12 * a1_ + a2_).toNat ∧ S0_.2.2.1 186 0 (12 * a1_ + a2_).toNat ≤ 255 := hI_.2 186 0 _
                refine sm_T_go 1 (c1 := (146, [some (.inr (.inr (some (13, 0)))), some (.inl a1_), some (.inl a2_), some (.inl a3_), some (.inl (12 * a1_ + a2_))], [.inl (S0_.2.2.1 186 0 (12 * a1_ + a2_).toNat)], sm_pI S0_ 13 0 0 0)) rfl ?_
                refine sm_T_ri rfl ⟨_, _, rfl, _, rfl, hIx22_, hFx23_, ?_⟩
                refine ⟨⟨by omega, by omega⟩, jR_fr hJ_ hIx22_ hFx23_⟩
            · have cx25_ : ¬ (a3_ ≠ 0) := of_decide_eq_false cx25_
              refine sm_T_go 3 (c1 := (105, [some (.inr (.inr (some (13, 0)))), some (.inl a1_), some (.inl a2_), some (.inl a3_), some (.inl (12 * a1_ + a2_))], [.inl (12 * a1_ + a2_), .inr (.inr (some (185, 0)))], sm_pI S0_ 13 0 0 0)) rfl ?_
              refine sm_T_iald (n := 36) rfl rfl (by omega) (by omega) ?_
              have bx31_ : 0 ≤ S0_.2.2.1 185 0 (12 * a1_ + a2_).toNat ∧ S0_.2.2.1 185 0 (12 * a1_ + a2_).toNat ≤ 3 := hI_.2 185 0 _
              refine sm_T_go 1 (c1 := (146, [some (.inr (.inr (some (13, 0)))), some (.inl a1_), some (.inl a2_), some (.inl a3_), some (.inl (12 * a1_ + a2_))], [.inl (S0_.2.2.1 185 0 (12 * a1_ + a2_).toNat)], sm_pI S0_ 13 0 0 0)) rfl ?_
              refine sm_T_ri rfl ⟨_, _, rfl, _, rfl, hIx22_, hFx23_, ?_⟩
              refine ⟨⟨by omega, by omega⟩, jR_fr hJ_ hIx22_ hFx23_⟩
          · have cx24_ : ¬ (a2_ ≠ (-1)) := of_decide_eq_false cx24_
            refine sm_T_go 1 (c1 := (60, [some (.inr (.inr (some (13, 0)))), some (.inl a1_), some (.inl a2_), some (.inl a3_), none], [.inl a3_], sm_pI S0_ 13 0 0 0)) rfl ?_
            refine sm_T_b0 (a := 1) (z := 12) rfl (fun cx32_ => ?_) (fun cx32_ => ?_)
            · have cx32_ : a3_ ≠ 0 := of_decide_eq_true cx32_
              refine sm_T_go 2 (c1 := (74, [some (.inr (.inr (some (13, 0)))), some (.inl a1_), some (.inl a2_), some (.inl a3_), none], [.inl 1, .inl a3_], sm_pI S0_ 13 0 0 0)) rfl ?_
              refine sm_T_br (a := 1) (z := 11) rfl (fun cx33_ => ?_) (fun cx33_ => ?_)
              · have cx33_ : a3_ ≠ 1 := of_decide_eq_true cx33_
                refine sm_T_go 1 (c1 := (86, [some (.inr (.inr (some (13, 0)))), some (.inl a1_), some (.inl a2_), some (.inl a3_), none], [.inl 0], sm_pI S0_ 13 0 0 0)) rfl ?_
                refine sm_T_ri rfl ⟨_, _, rfl, _, rfl, hIx22_, hFx23_, ?_⟩
                refine ⟨⟨by omega, by omega⟩, jR_fr hJ_ hIx22_ hFx23_⟩
              · have cx33_ : ¬ (a3_ ≠ 1) := of_decide_eq_false cx33_
                refine sm_T_go 2 (c1 := (79, [some (.inr (.inr (some (13, 0)))), some (.inl a1_), some (.inl a2_), some (.inl a3_), none], [.inl a1_, .inr (.inr (some (13, 0)))], sm_pI S0_ 13 0 0 0)) rfl ?_
                refine sm_T_cal (d1 := 0) (Q1 := vq_379 a1_ (sm_pI S0_ 13 0 0 0)) rfl rfl (by decide) (vc_379 a1_ (sm_pI S0_ 13 0 0 0) hIx22_ (by omega)) (fun u_ Sx34_ px37_ => ?_)
                obtain ⟨rfl, vx39_, rfl, px37_⟩ := px37_
                refine sm_T_go 1 (c1 := (86, [some (.inr (.inr (some (13, 0)))), some (.inl a1_), some (.inl a2_), some (.inl a3_), none], [.inl vx39_], sm_pI S0_ 13 0 0 0)) rfl ?_
                refine sm_T_ri rfl ⟨_, _, rfl, _, rfl, hIx22_, hFx23_, ?_⟩
                refine ⟨⟨by omega, by omega⟩, jR_fr hJ_ hIx22_ hFx23_⟩
            · have cx32_ : ¬ (a3_ ≠ 0) := of_decide_eq_false cx32_
              refine sm_T_go 3 (c1 := (68, [some (.inr (.inr (some (13, 0)))), some (.inl a1_), some (.inl a2_), some (.inl a3_), none], [.inl a1_, .inr (.inr (some (184, 0)))], sm_pI S0_ 13 0 0 0)) rfl ?_
              refine sm_T_iald (n := 3) rfl rfl (by omega) (by omega) ?_
              refine sm_T_go 1 (c1 := (86, [some (.inr (.inr (some (13, 0)))), some (.inl a1_), some (.inl a2_), some (.inl a3_), none], [.inl (S0_.2.2.1 184 0 a1_.toNat)], sm_pI S0_ 13 0 0 0)) rfl ?_
              refine sm_T_ri rfl ⟨_, _, rfl, _, rfl, hIx22_, hFx23_, ?_⟩
              refine ⟨⟨by omega, by omega⟩, jR_fr hJ_ hIx22_ hFx23_⟩
        · have cx21_ : ¬ (vx20_ ≠ 0) := of_decide_eq_false cx21_
          have hIx40_ : gi (sm_pI S0_ 13 0 0 2) := gi_pI hI_ (show 0 ≤ 2 ∧ 2 ≤ 4 from ⟨by omega, by omega⟩)
          have hFx41_ : ai_fr (sx_W vw_380) S0_ (sm_pI S0_ 13 0 0 2) := ai_fr_tr hF_ (ai_fr_pI rfl)
          refine sm_T_go 7 (c1 := (53, [some (.inr (.inr (some (13, 0)))), some (.inl a1_), some (.inl a2_), some (.inl a3_), none], [.inl 0], sm_pI S0_ 13 0 0 2)) rfl ?_
          refine sm_T_ri rfl ⟨_, _, rfl, _, rfl, hIx40_, hFx41_, ?_⟩
          refine ⟨⟨by omega, by omega⟩, jR_fr hJ_ hIx40_ hFx41_⟩
      · have cx14_ : ¬ (a2_ < (S0_.2.2.1 184 0 a1_.toNat)) := of_decide_eq_false cx14_
        have hIx42_ : gi (sm_pI S0_ 13 0 0 1) := gi_pI hI_ (show 0 ≤ 1 ∧ 1 ≤ 4 from ⟨by omega, by omega⟩)
        have hFx43_ : ai_fr (sx_W vw_380) S0_ (sm_pI S0_ 13 0 0 1) := ai_fr_tr hF_ (ai_fr_pI rfl)
        refine sm_T_go 7 (c1 := (53, [some (.inr (.inr (some (13, 0)))), some (.inl a1_), some (.inl a2_), some (.inl a3_), none], [.inl 0], sm_pI S0_ 13 0 0 1)) rfl ?_
        refine sm_T_ri rfl ⟨_, _, rfl, _, rfl, hIx42_, hFx43_, ?_⟩
        refine ⟨⟨by omega, by omega⟩, jR_fr hJ_ hIx42_ hFx43_⟩
/-! M_.witness -/
def vw_391 : sx_Wl := ([(13, 0)], [], [])
def vq_391 (a1_ : Int) (S0_ : sm_S) (u_ : Option sm_V) (S1_ : sm_S) : Prop := ∃ v_ : Int, u_ = some (.inl v_) ∧ gi S1_ ∧ ai_fr (sx_W vw_391) S0_ S1_ ∧ (((-2147483648) ≤ v_ ∧ v_ ≤ 2147483647) ∧ (jR S1_))
set_option maxHeartbeats 400000 in
set_option maxRecDepth 20000 in
theorem vc_391 {sc_ : Nat × (Nat → Int)} (a1_ : Int) (S0_ : sm_S) (hI_ : gi S0_) (ha1_ : (-2147483648) ≤ a1_ ∧ a1_ ≤ 2147483647) (hJ_ : jR S0_) : sm_T (mt_P sc_) 0 391 (0, [some (.inr (.inr (some (13, 0)))), some (.inl a1_)], [], S0_) (fun ro9_ => ∃ u_ S1_, ro9_ = (.inl u_, S1_, 0) ∧ vq_391 a1_ S0_ u_ S1_) := by
  have hF_ : ai_fr (sx_W vw_391) S0_ S0_ := ai_fr_rf
  refine sm_T_go 2 (c1 := (2, [some (.inr (.inr (some (13, 0)))), some (.inl a1_)], [.inl a1_, .inr (.inr (some (13, 0)))], S0_)) rfl ?_
  refine sm_T_b0 (a := 2) (z := 11) rfl (fun cx1_ => ?_) (fun cx1_ => ?_)
  · have cx1_ : a1_ < 0 := of_decide_eq_true cx1_
    have hIx2_ : gi (sm_pI S0_ 13 0 0 1) := gi_pI hI_ (show 0 ≤ 1 ∧ 1 ≤ 4 from ⟨by omega, by omega⟩)
    have hFx3_ : ai_fr (sx_W vw_391) S0_ (sm_pI S0_ 13 0 0 1) := ai_fr_tr hF_ (ai_fr_pI rfl)
    refine sm_T_go 8 (c1 := (38, [some (.inr (.inr (some (13, 0)))), some (.inl a1_)], [.inl 0], sm_pI S0_ 13 0 0 1)) rfl ?_
    refine sm_T_ri rfl ⟨_, _, rfl, _, rfl, hIx2_, hFx3_, ?_⟩
    refine ⟨⟨by omega, by omega⟩, jR_fr hJ_ hIx2_ hFx3_⟩
  · have cx1_ : ¬ (a1_ < 0) := of_decide_eq_false cx1_
    have bx4_ : 0 ≤ S0_.1 13 0 95 ∧ S0_.1 13 0 95 ≤ 4097 := hI_.1 13 0 95 rfl
    refine sm_T_go 3 (c1 := (10, [some (.inr (.inr (some (13, 0)))), some (.inl a1_)], [.inl (S0_.1 13 0 95), .inl a1_, .inr (.inr (some (13, 0)))], S0_)) rfl ?_
    refine sm_T_br (a := 2) (z := 7) rfl (fun cx5_ => ?_) (fun cx5_ => ?_)
    · have cx5_ : a1_ < (S0_.1 13 0 95) := of_decide_eq_true cx5_
      have hIx6_ : gi (sm_pI S0_ 13 0 0 0) := gi_pI hI_ (show 0 ≤ 0 ∧ 0 ≤ 4 from ⟨by omega, by omega⟩)
      have hFx7_ : ai_fr (sx_W vw_391) S0_ (sm_pI S0_ 13 0 0 0) := ai_fr_tr hF_ (ai_fr_pI rfl)
      refine sm_T_go 8 (c1 := (37, [some (.inr (.inr (some (13, 0)))), some (.inl a1_)], [.inl a1_, .inr (.inr (some (189, 0)))], sm_pI S0_ 13 0 0 0)) rfl ?_
      refine sm_T_iald (n := 4200) rfl rfl (by omega) (by omega) ?_
      have bx8_ : 0 ≤ S0_.2.2.1 189 0 a1_.toNat ∧ S0_.2.2.1 189 0 a1_.toNat ≤ 4095 := hI_.2 189 0 _
      refine sm_T_go 0 (c1 := (38, [some (.inr (.inr (some (13, 0)))), some (.inl a1_)], [.inl (S0_.2.2.1 189 0 a1_.toNat)], sm_pI S0_ 13 0 0 0)) rfl ?_
      refine sm_T_ri rfl ⟨_, _, rfl, _, rfl, hIx6_, hFx7_, ?_⟩
      refine ⟨⟨by omega, by omega⟩, jR_fr hJ_ hIx6_ hFx7_⟩
    · have cx5_ : ¬ (a1_ < (S0_.1 13 0 95)) := of_decide_eq_false cx5_
      have hIx9_ : gi (sm_pI S0_ 13 0 0 1) := gi_pI hI_ (show 0 ≤ 1 ∧ 1 ≤ 4 from ⟨by omega, by omega⟩)
      have hFx10_ : ai_fr (sx_W vw_391) S0_ (sm_pI S0_ 13 0 0 1) := ai_fr_tr hF_ (ai_fr_pI rfl)
      refine sm_T_go 8 (c1 := (38, [some (.inr (.inr (some (13, 0)))), some (.inl a1_)], [.inl 0], sm_pI S0_ 13 0 0 1)) rfl ?_
      refine sm_T_ri rfl ⟨_, _, rfl, _, rfl, hIx9_, hFx10_, ?_⟩
      refine ⟨⟨by omega, by omega⟩, jR_fr hJ_ hIx9_ hFx10_⟩
/-! M_.state -/
def vw_383 : sx_Wl := ([(13, 0)], [], [])
def vq_383 (a1_ : Int) (S0_ : sm_S) (u_ : Option sm_V) (S1_ : sm_S) : Prop := ∃ v_ : Int, u_ = some (.inl v_) ∧ gi S1_ ∧ ai_fr (sx_W vw_383) S0_ S1_ ∧ (((-2147483648) ≤ v_ ∧ v_ ≤ 2147483647) ∧ (jR S1_))
set_option maxHeartbeats 400000 in
set_option maxRecDepth 20000 in
theorem vc_383 {sc_ : Nat × (Nat → Int)} (a1_ : Int) (S0_ : sm_S) (hI_ : gi S0_) (ha1_ : (-2147483648) ≤ a1_ ∧ a1_ ≤ 2147483647) (hJ_ : jR S0_) : sm_T (mt_P sc_) 1 383 (0, [some (.inr (.inr (some (13, 0)))), some (.inl a1_)], [], S0_) (fun ro9_ => ∃ u_ S1_, ro9_ = (.inl u_, S1_, 0) ∧ vq_383 a1_ S0_ u_ S1_) := by
  have hF_ : ai_fr (sx_W vw_383) S0_ S0_ := ai_fr_rf
  refine sm_T_go 3 (c1 := (3, [some (.inr (.inr (some (13, 0)))), some (.inl a1_)], [.inl a1_, .inr (.inr (some (13, 0))), .inr (.inr (some (13, 0)))], S0_)) rfl ?_
  refine sm_T_cal (d1 := 0) (Q1 := vq_369 a1_ S0_) rfl rfl (by decide) (vc_369 a1_ S0_ hI_ (by omega)) (fun u_ Sx1_ px4_ => ?_)
  obtain ⟨rfl, vx6_, rfl, px4_⟩ := px4_
  refine sm_T_b0 (a := 0) (z := 7) rfl (fun cx7_ => ?_) (fun cx7_ => ?_)
  · have cx7_ : vx6_ = 0 := of_decide_eq_true cx7_
    have hIx8_ : gi (sm_pI S0_ 13 0 0 1) := gi_pI hI_ (show 0 ≤ 1 ∧ 1 ≤ 4 from ⟨by omega, by omega⟩)
    have hFx9_ : ai_fr (sx_W vw_383) S0_ (sm_pI S0_ 13 0 0 1) := ai_fr_tr hF_ (ai_fr_pI rfl)
    refine sm_T_go 7 (c1 := (34, [some (.inr (.inr (some (13, 0)))), some (.inl a1_)], [.inl 0], sm_pI S0_ 13 0 0 1)) rfl ?_
    refine sm_T_ri rfl ⟨_, _, rfl, _, rfl, hIx8_, hFx9_, ?_⟩
    refine ⟨⟨by omega, by omega⟩, jR_fr hJ_ hIx8_ hFx9_⟩
  · have cx7_ : ¬ (vx6_ = 0) := of_decide_eq_false cx7_
    have hIx10_ : gi (sm_pI S0_ 13 0 0 0) := gi_pI hI_ (show 0 ≤ 0 ∧ 0 ≤ 4 from ⟨by omega, by omega⟩)
    have hFx11_ : ai_fr (sx_W vw_383) S0_ (sm_pI S0_ 13 0 0 0) := ai_fr_tr hF_ (ai_fr_pI rfl)
    refine sm_T_go 9 (c1 := (33, [some (.inr (.inr (some (13, 0)))), some (.inl a1_)], [.inl a1_, .inr (.inr (some (158, 0)))], sm_pI S0_ 13 0 0 0)) rfl ?_
    refine sm_T_iald (n := 6) rfl rfl (by omega) (by omega) ?_
    have bx12_ : 0 ≤ S0_.2.2.1 158 0 a1_.toNat ∧ S0_.2.2.1 158 0 a1_.toNat ≤ 63 := hI_.2 158 0 _
    refine sm_T_go 0 (c1 := (34, [some (.inr (.inr (some (13, 0)))), some (.inl a1_)], [.inl (S0_.2.2.1 158 0 a1_.toNat)], sm_pI S0_ 13 0 0 0)) rfl ?_
    refine sm_T_ri rfl ⟨_, _, rfl, _, rfl, hIx10_, hFx11_, ?_⟩
    refine ⟨⟨by omega, by omega⟩, jR_fr hJ_ hIx10_ hFx11_⟩
/-! M_.play -/
/-! M_.restart -/
/-! M_.drop -/
def vw_373 : sx_Wl := ([(13, 0)], [153, 183, 222], [])
end
