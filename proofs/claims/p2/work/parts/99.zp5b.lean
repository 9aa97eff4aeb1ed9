/-! ChipFlow.routed -/
def vw_245 : sx_Wl := ([], [], [])
def vq_245 (kk_ : Int) (n_ : Int) (wh_ : Int) (S0_ : sm_S) (u_ : Option sm_V) (S1_ : sm_S) : Prop := ∃ v_ : Int, u_ = some (.inl v_) ∧ gi S1_ ∧ ai_fr (sx_W vw_245) S0_ S1_ ∧ (True)
def vx_245 (kk_ : Int) (n_ : Int) (wh_ : Int) (S0_ : sm_S) (S1_ : sm_S) : Prop := gi S1_ ∧ ai_fr (sx_W vw_245) S0_ S1_ ∧ (S1_ = S0_)
set_option maxHeartbeats 400000 in
theorem vc_245 {sc_ : Nat × (Nat → Int)} (kk_ : Int) (n_ : Int) (wh_ : Int) (S0_ : sm_S) (hI_ : gi S0_) (hJ_ : jC S0_) : sm_T (mt_P sc_) 2 245 (0, [some (.inr (.inr (some (12, 0)))), some (.inl kk_), some (.inl n_), some (.inl wh_), none], [], S0_) (fun ro9_ => (∃ u_ S1_, ro9_ = (.inl u_, S1_, 0) ∧ vq_245 kk_ n_ wh_ S0_ u_ S1_) ∨ ∃ ex_ S1_, ro9_ = (.inr ex_, S1_, 1) ∧ ex_ ∈ ([0, 1, 2] : List Nat) ∧ vx_245 kk_ n_ wh_ S0_ S1_) := by
  have hF_ : ai_fr (sx_W vw_245) S0_ S0_ := ai_fr_rf
  refine sm_T_go 2 (c1 := (2, [some (.inr (.inr (some (12, 0)))), some (.inl kk_), some (.inl n_), some (.inl wh_), none], [.inl kk_, .inr (.inr (some (12, 0)))], S0_)) rfl ?_
  refine sm_T_cale (d1_ := 1) (Q1_ := vq_272 kk_ S0_) (Q2_ := (fun ex_ S1_ => ex_ ∈ ([0] : List Nat) ∧ vx_272 kk_ S0_ S1_)) rfl rfl (by decide) (vc_272 kk_ S0_ hI_ ) rfl (fun xx6_ Sx1_ px4_ => ?_) (fun u_ Sx1_ px4_ => ?_)
  · obtain ⟨px4m, hIx2_, hFx3_, px4_⟩ := px4_
    refine Or.inr ⟨_, _, rfl, by first | exact px4m | (simp only [List.mem_cons, List.not_mem_nil, or_false] at px4m ⊢; omega), hIx2_, ai_fr_tr hF_ (fr_le hFx3_ rfl), ?_⟩
    first | exact px4_.2 | exact px4_ | rfl
  obtain ⟨rfl, -, -, rfl, px4_⟩ := px4_
  have a9_ := px4_
  have J9_ := hJ_.2.1 kk_.toNat (by omega) a9_.2
  have J1_ := J9_.1
  have q9_ := a9_.2
  have c8_ : 0 ≤ S0_.1 2 (kk_.toNat) 8 ∧ S0_.1 2 (kk_.toNat) 8 ≤ 150 := hI_.1 2 (kk_.toNat) 8 rfl
  have c1_ : 0 ≤ S0_.1 2 (kk_.toNat) 1 ∧ S0_.1 2 (kk_.toNat) 1 ≤ 12 := hI_.1 2 (kk_.toNat) 1 rfl
  have c2_ : 0 ≤ S0_.1 2 (kk_.toNat) 2 ∧ S0_.1 2 (kk_.toNat) 2 ≤ 6 := hI_.1 2 (kk_.toNat) 2 rfl
  refine sm_T_go 2 (c1 := (8, [some (.inr (.inr (some (12, 0)))), some (.inl kk_), some (.inl n_), some (.inl wh_), some (.inr (.inr (some (2, kk_.toNat))))], [.inl n_], S0_)) rfl ?_
  refine sm_T_b0 (a := 2) (z := 16) rfl (fun cx7_ => ?_) (fun cx7_ => ?_)
  · have cx7_ : n_ < 0 := of_decide_eq_true cx7_
    refine sm_T_go 1 (c1 := (25, [some (.inr (.inr (some (12, 0)))), some (.inl kk_), some (.inl n_), some (.inl wh_), some (.inr (.inr (some (2, kk_.toNat))))], [.inl 0], S0_)) rfl ?_
    refine sm_T_cale (d1_ := 0) (Q1_ := vq_265e 0 S0_) (Q2_ := (fun ex_ S1_ => ex_ ∈ ([0] : List Nat) ∧ vx_265e 0 S0_ S1_)) rfl rfl (by decide) (vc_265e 0 S0_ hI_ ) rfl (fun xx13_ Sx8_ px11_ => ?_) (fun u_ Sx8_ px11_ => ?_)
    · obtain ⟨px11m, hIx9_, hFx10_, px11_⟩ := px11_
      refine Or.inr ⟨_, _, rfl, by first | exact px11m | (simp only [List.mem_cons, List.not_mem_nil, or_false] at px11m ⊢; omega), hIx9_, ai_fr_tr hF_ (fr_le hFx10_ rfl), ?_⟩
      first | exact px11_.2 | exact px11_ | rfl
    · exact absurd rfl px11_.2.2.2.1
  · have cx7_ : ¬ (n_ < 0) := of_decide_eq_false cx7_
    refine sm_T_go 2 (c1 := (14, [some (.inr (.inr (some (12, 0)))), some (.inl kk_), some (.inl n_), some (.inl wh_), some (.inr (.inr (some (2, kk_.toNat))))], [.inr (.inr (some (2, kk_.toNat))), .inl n_], S0_)) rfl ?_
    refine sm_T_cal (d1 := 0) (Q1 := vq_55 kk_.toNat S0_) rfl rfl (by decide) (vc_55 kk_.toNat S0_ hI_ ) (fun u_ Sx14_ px17_ => ?_)
    obtain ⟨rfl, vx19_, rfl, px17_⟩ := px17_
    refine sm_T_br (a := 3) (z := 7) rfl (fun cx20_ => ?_) (fun cx20_ => ?_)
    · have cx20_ : vx19_ ≤ n_ := of_decide_eq_true cx20_
      refine sm_T_go 1 (c1 := (25, [some (.inr (.inr (some (12, 0)))), some (.inl kk_), some (.inl n_), some (.inl wh_), some (.inr (.inr (some (2, kk_.toNat))))], [.inl 0], S0_)) rfl ?_
      refine sm_T_cale (d1_ := 0) (Q1_ := vq_265e 0 S0_) (Q2_ := (fun ex_ S1_ => ex_ ∈ ([0] : List Nat) ∧ vx_265e 0 S0_ S1_)) rfl rfl (by decide) (vc_265e 0 S0_ hI_ ) rfl (fun xx26_ Sx21_ px24_ => ?_) (fun u_ Sx21_ px24_ => ?_)
      · obtain ⟨px24m, hIx22_, hFx23_, px24_⟩ := px24_
        refine Or.inr ⟨_, _, rfl, by first | exact px24m | (simp only [List.mem_cons, List.not_mem_nil, or_false] at px24m ⊢; omega), hIx22_, ai_fr_tr hF_ (fr_le hFx23_ rfl), ?_⟩
        first | exact px24_.2 | exact px24_ | rfl
      · exact absurd rfl px24_.2.2.2.1
    · have cx20_ : ¬ (vx19_ ≤ n_) := of_decide_eq_false cx20_
      refine sm_T_go 2 (c1 := (25, [some (.inr (.inr (some (12, 0)))), some (.inl kk_), some (.inl n_), some (.inl wh_), some (.inr (.inr (some (2, kk_.toNat))))], [.inl 1], S0_)) rfl ?_
      refine sm_T_cale (d1_ := 0) (Q1_ := vq_265e 1 S0_) (Q2_ := (fun ex_ S1_ => ex_ ∈ ([0] : List Nat) ∧ vx_265e 1 S0_ S1_)) rfl rfl (by decide) (vc_265e 1 S0_ hI_ ) rfl (fun xx32_ Sx27_ px30_ => ?_) (fun u_ Sx27_ px30_ => ?_)
      · exact absurd px30_.2.2.2.1 (by decide)
      obtain ⟨rfl, -, -, px30_, rfl⟩ := px30_
      refine sm_T_go 1 (c1 := (29, [some (.inr (.inr (some (12, 0)))), some (.inl kk_), some (.inl n_), some (.inl wh_), some (.inr (.inr (some (2, kk_.toNat))))], [.inl wh_], S0_)) rfl ?_
      refine sm_T_b0 (a := 2) (z := 12) rfl (fun cx33_ => ?_) (fun cx33_ => ?_)
      · have cx33_ : wh_ < 0 := of_decide_eq_true cx33_
        refine sm_T_go 1 (c1 := (42, [some (.inr (.inr (some (12, 0)))), some (.inl kk_), some (.inl n_), some (.inl wh_), some (.inr (.inr (some (2, kk_.toNat))))], [.inl 0], S0_)) rfl ?_
        refine sm_T_cale (d1_ := 0) (Q1_ := vq_266e 0 S0_) (Q2_ := (fun ex_ S1_ => ex_ ∈ ([1] : List Nat) ∧ vx_266e 0 S0_ S1_)) rfl rfl (by decide) (vc_266e 0 S0_ hI_ ) rfl (fun xx39_ Sx34_ px37_ => ?_) (fun u_ Sx34_ px37_ => ?_)
        · obtain ⟨px37m, hIx35_, hFx36_, px37_⟩ := px37_
          refine Or.inr ⟨_, _, rfl, by first | exact px37m | (simp only [List.mem_cons, List.not_mem_nil, or_false] at px37m ⊢; omega), hIx35_, ai_fr_tr hF_ (fr_le hFx36_ rfl), ?_⟩
          first | exact px37_.2 | exact px37_ | rfl
        · exact absurd rfl px37_.2.2.2.1
      · have cx33_ : ¬ (wh_ < 0) := of_decide_eq_false cx33_
        refine sm_T_go 2 (c1 := (34, [some (.inr (.inr (some (12, 0)))), some (.inl kk_), some (.inl n_), some (.inl wh_), some (.inr (.inr (some (2, kk_.toNat))))], [.inl 4, .inl wh_], S0_)) rfl ?_
        refine sm_T_br (a := 4) (z := 7) rfl (fun cx40_ => ?_) (fun cx40_ => ?_)
        · have cx40_ : 4 < wh_ := of_decide_eq_true cx40_
          refine sm_T_go 1 (c1 := (42, [some (.inr (.inr (some (12, 0)))), some (.inl kk_), some (.inl n_), some (.inl wh_), some (.inr (.inr (some (2, kk_.toNat))))], [.inl 0], S0_)) rfl ?_
          refine sm_T_cale (d1_ := 0) (Q1_ := vq_266e 0 S0_) (Q2_ := (fun ex_ S1_ => ex_ ∈ ([1] : List Nat) ∧ vx_266e 0 S0_ S1_)) rfl rfl (by decide) (vc_266e 0 S0_ hI_ ) rfl (fun xx46_ Sx41_ px44_ => ?_) (fun u_ Sx41_ px44_ => ?_)
          · obtain ⟨px44m, hIx42_, hFx43_, px44_⟩ := px44_
            refine Or.inr ⟨_, _, rfl, by first | exact px44m | (simp only [List.mem_cons, List.not_mem_nil, or_false] at px44m ⊢; omega), hIx42_, ai_fr_tr hF_ (fr_le hFx43_ rfl), ?_⟩
            first | exact px44_.2 | exact px44_ | rfl
          · exact absurd rfl px44_.2.2.2.1
        · have cx40_ : ¬ (4 < wh_) := of_decide_eq_false cx40_
          refine sm_T_go 2 (c1 := (42, [some (.inr (.inr (some (12, 0)))), some (.inl kk_), some (.inl n_), some (.inl wh_), some (.inr (.inr (some (2, kk_.toNat))))], [.inl 1], S0_)) rfl ?_
          refine sm_T_cale (d1_ := 0) (Q1_ := vq_266e 1 S0_) (Q2_ := (fun ex_ S1_ => ex_ ∈ ([1] : List Nat) ∧ vx_266e 1 S0_ S1_)) rfl rfl (by decide) (vc_266e 1 S0_ hI_ ) rfl (fun xx52_ Sx47_ px50_ => ?_) (fun u_ Sx47_ px50_ => ?_)
          · exact absurd px50_.2.2.2.1 (by decide)
          obtain ⟨rfl, -, -, px50_, rfl⟩ := px50_
          have bx53_ : 0 ≤ S0_.1 0 (0 + kk_.toNat) 11 ∧ S0_.1 0 (0 + kk_.toNat) 11 ≤ 1 := hI_.1 0 (0 + kk_.toNat) 11 rfl
          refine sm_T_go 3 (c1 := (53, [some (.inr (.inr (some (12, 0)))), some (.inl kk_), some (.inl n_), some (.inl wh_), some (.inr (.inr (some (2, kk_.toNat))))], [.inl (S0_.1 0 (0 + kk_.toNat) 11)], S0_)) rfl ?_
          refine sm_T_cale (d1_ := 0) (Q1_ := vq_267e (S0_.1 0 (0 + kk_.toNat) 11) S0_) (Q2_ := (fun ex_ S1_ => ex_ ∈ ([2] : List Nat) ∧ vx_267e (S0_.1 0 (0 + kk_.toNat) 11) S0_ S1_)) rfl rfl (by decide) (vc_267e (S0_.1 0 (0 + kk_.toNat) 11) S0_ hI_ ) rfl (fun xx59_ Sx54_ px57_ => ?_) (fun u_ Sx54_ px57_ => ?_)
          · obtain ⟨px57m, hIx55_, hFx56_, px57_⟩ := px57_
            refine Or.inr ⟨_, _, rfl, by first | exact px57m | (simp only [List.mem_cons, List.not_mem_nil, or_false] at px57m ⊢; omega), hIx55_, ai_fr_tr hF_ (fr_le hFx56_ rfl), ?_⟩
            first | exact px57_.2 | exact px57_ | rfl
          obtain ⟨rfl, -, -, px57_, rfl⟩ := px57_
          refine sm_T_go 2 (c1 := (58, [some (.inr (.inr (some (12, 0)))), some (.inl kk_), some (.inl n_), some (.inl wh_), some (.inr (.inr (some (2, kk_.toNat))))], [.inl 3, .inl wh_], S0_)) rfl ?_
          refine sm_T_br (a := 1) (z := 14) rfl (fun cx60_ => ?_) (fun cx60_ => ?_)
          · have cx60_ : wh_ ≠ 3 := of_decide_eq_true cx60_
            refine sm_T_go 2 (c1 := (74, [some (.inr (.inr (some (12, 0)))), some (.inl kk_), some (.inl n_), some (.inl wh_), some (.inr (.inr (some (2, kk_.toNat))))], [.inl 4, .inl wh_], S0_)) rfl ?_
            refine sm_T_br (a := 1) (z := 16) rfl (fun cx61_ => ?_) (fun cx61_ => ?_)
            · have cx61_ : wh_ ≠ 4 := of_decide_eq_true cx61_
              refine sm_T_go 4 (c1 := (97, [some (.inr (.inr (some (12, 0)))), some (.inl kk_), some (.inl n_), some (.inl wh_), some (.inr (.inr (some (2, kk_.toNat))))], [.inl wh_, .inl n_, .inr (.inr (some (0, (0 + kk_.toNat))))], S0_)) rfl ?_
              refine sm_T_cal (d1 := 1) (Q1 := vq_30 n_ wh_ (0 + kk_.toNat) S0_) rfl rfl (by decide) (vc_30 n_ wh_ (0 + kk_.toNat) S0_ hI_ (by omega)) (fun u_ Sx62_ px65_ => ?_)
              obtain ⟨rfl, vx67_, rfl, px65_⟩ := px65_
              refine sm_T_ri rfl (Or.inl ⟨_, _, rfl, _, rfl, hI_, hF_, ?_⟩)
              trivial
            · have cx61_ : ¬ (wh_ ≠ 4) := of_decide_eq_false cx61_
              refine sm_T_go 4 (c1 := (86, [some (.inr (.inr (some (12, 0)))), some (.inl kk_), some (.inl n_), some (.inl wh_), some (.inr (.inr (some (2, kk_.toNat))))], [.inl n_, .inr (.inr (some (20, (0 + (0 + kk_.toNat)))))], S0_)) rfl ?_
              refine sm_T_iald (n := 162) rfl rfl (by omega) (by omega) ?_
              have bx68_ : 0 ≤ S0_.2.2.1 20 (0 + (0 + kk_.toNat)) n_.toNat ∧ S0_.2.2.1 20 (0 + (0 + kk_.toNat)) n_.toNat ≤ 652 := hI_.2 20 (0 + (0 + kk_.toNat)) _
              refine sm_T_go 1 (c1 := (100, [some (.inr (.inr (some (12, 0)))), some (.inl kk_), some (.inl n_), some (.inl wh_), some (.inr (.inr (some (2, kk_.toNat))))], [.inl (S0_.2.2.1 20 (0 + (0 + kk_.toNat)) n_.toNat)], S0_)) rfl ?_
              refine sm_T_ri rfl (Or.inl ⟨_, _, rfl, _, rfl, hI_, hF_, ?_⟩)
              trivial
          · have cx60_ : ¬ (wh_ ≠ 3) := of_decide_eq_false cx60_
            refine sm_T_go 4 (c1 := (70, [some (.inr (.inr (some (12, 0)))), some (.inl kk_), some (.inl n_), some (.inl wh_), some (.inr (.inr (some (2, kk_.toNat))))], [.inl n_, .inr (.inr (some (24, (0 + (0 + kk_.toNat)))))], S0_)) rfl ?_
            refine sm_T_iald (n := 162) rfl rfl (by omega) (by omega) ?_
            have bx69_ : 0 ≤ S0_.2.2.1 24 (0 + (0 + kk_.toNat)) n_.toNat ∧ S0_.2.2.1 24 (0 + (0 + kk_.toNat)) n_.toNat ≤ 1 := hI_.2 24 (0 + (0 + kk_.toNat)) _
            refine sm_T_ri rfl (Or.inl ⟨_, _, rfl, _, rfl, hI_, hF_, ?_⟩)
            trivial
