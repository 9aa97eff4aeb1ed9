/-! ChipFlow.at -/
def vw_239 : sx_Wl := ([], [], [])
def vq_239 (kk_ : Int) (e_ : Int) (wh_ : Int) (S0_ : sm_S) (u_ : Option sm_V) (S1_ : sm_S) : Prop := ∃ v_ : Int, u_ = some (.inl v_) ∧ gi S1_ ∧ ai_fr (sx_W vw_239) S0_ S1_ ∧ (True)
def vx_239 (kk_ : Int) (e_ : Int) (wh_ : Int) (S0_ : sm_S) (S1_ : sm_S) : Prop := gi S1_ ∧ ai_fr (sx_W vw_239) S0_ S1_ ∧ (S1_ = S0_)
set_option maxHeartbeats 400000 in
theorem vc_239 {sc_ : Nat × (Nat → Int)} (kk_ : Int) (e_ : Int) (wh_ : Int) (S0_ : sm_S) (hI_ : gi S0_) (hJ_ : jC S0_) : sm_T (mt_P sc_) 2 239 (0, [some (.inr (.inr (some (12, 0)))), some (.inl kk_), some (.inl e_), some (.inl wh_), none], [], S0_) (fun ro9_ => (∃ u_ S1_, ro9_ = (.inl u_, S1_, 0) ∧ vq_239 kk_ e_ wh_ S0_ u_ S1_) ∨ ∃ ex_ S1_, ro9_ = (.inr ex_, S1_, 1) ∧ ex_ ∈ ([0, 1, 2] : List Nat) ∧ vx_239 kk_ e_ wh_ S0_ S1_) := by
  have hF_ : ai_fr (sx_W vw_239) S0_ S0_ := ai_fr_rf
  refine sm_T_go 2 (c1 := (2, [some (.inr (.inr (some (12, 0)))), some (.inl kk_), some (.inl e_), some (.inl wh_), none], [.inl kk_, .inr (.inr (some (12, 0)))], S0_)) rfl ?_
  refine sm_T_cale (d1_ := 1) (Q1_ := vq_272 kk_ S0_) (Q2_ := (fun ex_ S1_ => ex_ ∈ ([0] : List Nat) ∧ vx_272 kk_ S0_ S1_)) rfl rfl (by decide) (vc_272 kk_ S0_ hI_ ) rfl (fun xx6_ Sx1_ px4_ => ?_) (fun u_ Sx1_ px4_ => ?_)
  · obtain ⟨px4m, hIx2_, hFx3_, px4_⟩ := px4_
    refine Or.inr ⟨_, _, rfl, by first | exact px4m | (simp only [List.mem_cons, List.not_mem_nil, or_false] at px4m ⊢; omega), hIx2_, ai_fr_tr hF_ (fr_le hFx3_ rfl), ?_⟩
    first | exact px4_.2 | exact px4_ | rfl
  obtain ⟨rfl, -, -, rfl, px4_⟩ := px4_
  have a9_ := px4_
  have J9_ := hJ_.2.1 kk_.toNat (by omega) a9_.2
  have J1_ := J9_.1
  have q9_ := a9_.2
  have c8_ : 0 ≤ S0_.1 2 (kk_.toNat) 8 ∧ S0_.1 2 (kk_.toNat) 8 ≤ 150 := hI_.1 2 (kk_.toNat) 8 rfl
  refine sm_T_go 2 (c1 := (8, [some (.inr (.inr (some (12, 0)))), some (.inl kk_), some (.inl e_), some (.inl wh_), some (.inr (.inr (some (2, kk_.toNat))))], [.inl e_], S0_)) rfl ?_
  refine sm_T_b0 (a := 2) (z := 16) rfl (fun cx7_ => ?_) (fun cx7_ => ?_)
  · have cx7_ : e_ < 0 := of_decide_eq_true cx7_
    refine sm_T_go 1 (c1 := (25, [some (.inr (.inr (some (12, 0)))), some (.inl kk_), some (.inl e_), some (.inl wh_), some (.inr (.inr (some (2, kk_.toNat))))], [.inl 0], S0_)) rfl ?_
    refine sm_T_cale (d1_ := 0) (Q1_ := vq_265e 0 S0_) (Q2_ := (fun ex_ S1_ => ex_ ∈ ([0] : List Nat) ∧ vx_265e 0 S0_ S1_)) rfl rfl (by decide) (vc_265e 0 S0_ hI_ ) rfl (fun xx13_ Sx8_ px11_ => ?_) (fun u_ Sx8_ px11_ => ?_)
    · obtain ⟨px11m, hIx9_, hFx10_, px11_⟩ := px11_
      refine Or.inr ⟨_, _, rfl, by first | exact px11m | (simp only [List.mem_cons, List.not_mem_nil, or_false] at px11m ⊢; omega), hIx9_, ai_fr_tr hF_ (fr_le hFx10_ rfl), ?_⟩
      first | exact px11_.2 | exact px11_ | rfl
    · exact absurd rfl px11_.2.2.2.1
  · have cx7_ : ¬ (e_ < 0) := of_decide_eq_false cx7_
    refine sm_T_go 2 (c1 := (14, [some (.inr (.inr (some (12, 0)))), some (.inl kk_), some (.inl e_), some (.inl wh_), some (.inr (.inr (some (2, kk_.toNat))))], [.inr (.inr (some (2, kk_.toNat))), .inl e_], S0_)) rfl ?_
    refine sm_T_cal (d1 := 0) (Q1 := vq_56 kk_.toNat S0_) rfl rfl (by decide) (vc_56 kk_.toNat S0_ hI_ ) (fun u_ Sx14_ px17_ => ?_)
    obtain ⟨rfl, vx19_, rfl, px17_⟩ := px17_
    refine sm_T_br (a := 3) (z := 7) rfl (fun cx20_ => ?_) (fun cx20_ => ?_)
    · have cx20_ : vx19_ ≤ e_ := of_decide_eq_true cx20_
      refine sm_T_go 1 (c1 := (25, [some (.inr (.inr (some (12, 0)))), some (.inl kk_), some (.inl e_), some (.inl wh_), some (.inr (.inr (some (2, kk_.toNat))))], [.inl 0], S0_)) rfl ?_
      refine sm_T_cale (d1_ := 0) (Q1_ := vq_265e 0 S0_) (Q2_ := (fun ex_ S1_ => ex_ ∈ ([0] : List Nat) ∧ vx_265e 0 S0_ S1_)) rfl rfl (by decide) (vc_265e 0 S0_ hI_ ) rfl (fun xx26_ Sx21_ px24_ => ?_) (fun u_ Sx21_ px24_ => ?_)
      · obtain ⟨px24m, hIx22_, hFx23_, px24_⟩ := px24_
        refine Or.inr ⟨_, _, rfl, by first | exact px24m | (simp only [List.mem_cons, List.not_mem_nil, or_false] at px24m ⊢; omega), hIx22_, ai_fr_tr hF_ (fr_le hFx23_ rfl), ?_⟩
        first | exact px24_.2 | exact px24_ | rfl
      · exact absurd rfl px24_.2.2.2.1
    · have cx20_ : ¬ (vx19_ ≤ e_) := of_decide_eq_false cx20_
      refine sm_T_go 2 (c1 := (25, [some (.inr (.inr (some (12, 0)))), some (.inl kk_), some (.inl e_), some (.inl wh_), some (.inr (.inr (some (2, kk_.toNat))))], [.inl 1], S0_)) rfl ?_
      refine sm_T_cale (d1_ := 0) (Q1_ := vq_265e 1 S0_) (Q2_ := (fun ex_ S1_ => ex_ ∈ ([0] : List Nat) ∧ vx_265e 1 S0_ S1_)) rfl rfl (by decide) (vc_265e 1 S0_ hI_ ) rfl (fun xx32_ Sx27_ px30_ => ?_) (fun u_ Sx27_ px30_ => ?_)
      · exact absurd px30_.2.2.2.1 (by decide)
      obtain ⟨rfl, -, -, px30_, rfl⟩ := px30_
      refine sm_T_go 1 (c1 := (29, [some (.inr (.inr (some (12, 0)))), some (.inl kk_), some (.inl e_), some (.inl wh_), some (.inr (.inr (some (2, kk_.toNat))))], [.inl wh_], S0_)) rfl ?_
      refine sm_T_b0 (a := 0) (z := 8) rfl (fun cx33_ => ?_) (fun cx33_ => ?_)
      · have cx33_ : wh_ = 0 := of_decide_eq_true cx33_
        refine sm_T_go 2 (c1 := (42, [some (.inr (.inr (some (12, 0)))), some (.inl kk_), some (.inl e_), some (.inl wh_), some (.inr (.inr (some (2, kk_.toNat))))], [.inl 1], S0_)) rfl ?_
        refine sm_T_cale (d1_ := 0) (Q1_ := vq_266e 1 S0_) (Q2_ := (fun ex_ S1_ => ex_ ∈ ([1] : List Nat) ∧ vx_266e 1 S0_ S1_)) rfl rfl (by decide) (vc_266e 1 S0_ hI_ ) rfl (fun xx39_ Sx34_ px37_ => ?_) (fun u_ Sx34_ px37_ => ?_)
        · exact absurd px37_.2.2.2.1 (by decide)
        obtain ⟨rfl, -, -, px37_, rfl⟩ := px37_
        have bx40_ : 0 ≤ S0_.1 0 (0 + kk_.toNat) 1 ∧ S0_.1 0 (0 + kk_.toNat) 1 ≤ 12 := hI_.1 0 (0 + kk_.toNat) 1 rfl
        refine sm_T_go 3 (c1 := (53, [some (.inr (.inr (some (12, 0)))), some (.inl kk_), some (.inl e_), some (.inl wh_), some (.inr (.inr (some (2, kk_.toNat))))], [.inl (S0_.1 0 (0 + kk_.toNat) 1)], S0_)) rfl ?_
        refine sm_T_b0 (a := 5) (z := 7) rfl (fun cx41_ => ?_) (fun cx41_ => ?_)
        · have cx41_ : (S0_.1 0 (0 + kk_.toNat) 1) ≤ 0 := of_decide_eq_true cx41_
          refine sm_T_go 1 (c1 := (61, [some (.inr (.inr (some (12, 0)))), some (.inl kk_), some (.inl e_), some (.inl wh_), some (.inr (.inr (some (2, kk_.toNat))))], [.inl 0], S0_)) rfl ?_
          refine sm_T_cale (d1_ := 0) (Q1_ := vq_267e 0 S0_) (Q2_ := (fun ex_ S1_ => ex_ ∈ ([2] : List Nat) ∧ vx_267e 0 S0_ S1_)) rfl rfl (by decide) (vc_267e 0 S0_ hI_ ) rfl (fun xx47_ Sx42_ px45_ => ?_) (fun u_ Sx42_ px45_ => ?_)
          · obtain ⟨px45m, hIx43_, hFx44_, px45_⟩ := px45_
            refine Or.inr ⟨_, _, rfl, by first | exact px45m | (simp only [List.mem_cons, List.not_mem_nil, or_false] at px45m ⊢; omega), hIx43_, ai_fr_tr hF_ (fr_le hFx44_ rfl), ?_⟩
            first | exact px45_.2 | exact px45_ | rfl
          · exact absurd rfl px45_.2.2.2.1
        · have cx41_ : ¬ ((S0_.1 0 (0 + kk_.toNat) 1) ≤ 0) := of_decide_eq_false cx41_
          refine sm_T_go 2 (c1 := (61, [some (.inr (.inr (some (12, 0)))), some (.inl kk_), some (.inl e_), some (.inl wh_), some (.inr (.inr (some (2, kk_.toNat))))], [.inl 1], S0_)) rfl ?_
          refine sm_T_cale (d1_ := 0) (Q1_ := vq_267e 1 S0_) (Q2_ := (fun ex_ S1_ => ex_ ∈ ([2] : List Nat) ∧ vx_267e 1 S0_ S1_)) rfl rfl (by decide) (vc_267e 1 S0_ hI_ ) rfl (fun xx53_ Sx48_ px51_ => ?_) (fun u_ Sx48_ px51_ => ?_)
          · exact absurd px51_.2.2.2.1 (by decide)
          obtain ⟨rfl, -, -, px51_, rfl⟩ := px51_
          refine sm_T_go 1 (c1 := (65, [some (.inr (.inr (some (12, 0)))), some (.inl kk_), some (.inl e_), some (.inl wh_), some (.inr (.inr (some (2, kk_.toNat))))], [.inl wh_], S0_)) rfl ?_
          refine sm_T_b0 (a := 1) (z := 16) rfl (fun cx54_ => ?_) (fun cx54_ => ?_)
          · have cx54_ : wh_ ≠ 0 := of_decide_eq_true cx54_
            exfalso; omega
          · have cx54_ : ¬ (wh_ ≠ 0) := of_decide_eq_false cx54_
            refine sm_T_go 4 (c1 := (77, [some (.inr (.inr (some (12, 0)))), some (.inl kk_), some (.inl e_), some (.inl wh_), some (.inr (.inr (some (2, kk_.toNat))))], [.inl e_, .inr (.inr (some (14, (0 + (0 + kk_.toNat)))))], S0_)) rfl ?_
            refine sm_T_iald (n := 156) rfl rfl (by omega) (by omega) ?_
            have bx55_ : 0 ≤ S0_.2.2.1 14 (0 + (0 + kk_.toNat)) e_.toNat ∧ S0_.2.2.1 14 (0 + (0 + kk_.toNat)) e_.toNat ≤ 60 := hI_.2 14 (0 + (0 + kk_.toNat)) _
            refine sm_T_go 1 (c1 := (91, [some (.inr (.inr (some (12, 0)))), some (.inl kk_), some (.inl e_), some (.inl wh_), some (.inr (.inr (some (2, kk_.toNat))))], [.inl (S0_.2.2.1 14 (0 + (0 + kk_.toNat)) e_.toNat)], S0_)) rfl ?_
            refine sm_T_ri rfl (Or.inl ⟨_, _, rfl, _, rfl, hI_, hF_, ?_⟩)
            trivial
      · have cx33_ : ¬ (wh_ = 0) := of_decide_eq_false cx33_
        refine sm_T_go 2 (c1 := (34, [some (.inr (.inr (some (12, 0)))), some (.inl kk_), some (.inl e_), some (.inl wh_), some (.inr (.inr (some (2, kk_.toNat))))], [.inl 1, .inl wh_], S0_)) rfl ?_
        refine sm_T_br (a := 1) (z := 7) rfl (fun cx56_ => ?_) (fun cx56_ => ?_)
        · have cx56_ : wh_ ≠ 1 := of_decide_eq_true cx56_
          refine sm_T_go 1 (c1 := (42, [some (.inr (.inr (some (12, 0)))), some (.inl kk_), some (.inl e_), some (.inl wh_), some (.inr (.inr (some (2, kk_.toNat))))], [.inl 0], S0_)) rfl ?_
          refine sm_T_cale (d1_ := 0) (Q1_ := vq_266e 0 S0_) (Q2_ := (fun ex_ S1_ => ex_ ∈ ([1] : List Nat) ∧ vx_266e 0 S0_ S1_)) rfl rfl (by decide) (vc_266e 0 S0_ hI_ ) rfl (fun xx62_ Sx57_ px60_ => ?_) (fun u_ Sx57_ px60_ => ?_)
          · obtain ⟨px60m, hIx58_, hFx59_, px60_⟩ := px60_
            refine Or.inr ⟨_, _, rfl, by first | exact px60m | (simp only [List.mem_cons, List.not_mem_nil, or_false] at px60m ⊢; omega), hIx58_, ai_fr_tr hF_ (fr_le hFx59_ rfl), ?_⟩
            first | exact px60_.2 | exact px60_ | rfl
          · exact absurd rfl px60_.2.2.2.1
        · have cx56_ : ¬ (wh_ ≠ 1) := of_decide_eq_false cx56_
          refine sm_T_go 2 (c1 := (42, [some (.inr (.inr (some (12, 0)))), some (.inl kk_), some (.inl e_), some (.inl wh_), some (.inr (.inr (some (2, kk_.toNat))))], [.inl 1], S0_)) rfl ?_
          refine sm_T_cale (d1_ := 0) (Q1_ := vq_266e 1 S0_) (Q2_ := (fun ex_ S1_ => ex_ ∈ ([1] : List Nat) ∧ vx_266e 1 S0_ S1_)) rfl rfl (by decide) (vc_266e 1 S0_ hI_ ) rfl (fun xx68_ Sx63_ px66_ => ?_) (fun u_ Sx63_ px66_ => ?_)
          · exact absurd px66_.2.2.2.1 (by decide)
          obtain ⟨rfl, -, -, px66_, rfl⟩ := px66_
          have bx69_ : 0 ≤ S0_.1 0 (0 + kk_.toNat) 1 ∧ S0_.1 0 (0 + kk_.toNat) 1 ≤ 12 := hI_.1 0 (0 + kk_.toNat) 1 rfl
          refine sm_T_go 3 (c1 := (53, [some (.inr (.inr (some (12, 0)))), some (.inl kk_), some (.inl e_), some (.inl wh_), some (.inr (.inr (some (2, kk_.toNat))))], [.inl (S0_.1 0 (0 + kk_.toNat) 1)], S0_)) rfl ?_
          refine sm_T_b0 (a := 5) (z := 7) rfl (fun cx70_ => ?_) (fun cx70_ => ?_)
          · have cx70_ : (S0_.1 0 (0 + kk_.toNat) 1) ≤ 0 := of_decide_eq_true cx70_
            refine sm_T_go 1 (c1 := (61, [some (.inr (.inr (some (12, 0)))), some (.inl kk_), some (.inl e_), some (.inl wh_), some (.inr (.inr (some (2, kk_.toNat))))], [.inl 0], S0_)) rfl ?_
            refine sm_T_cale (d1_ := 0) (Q1_ := vq_267e 0 S0_) (Q2_ := (fun ex_ S1_ => ex_ ∈ ([2] : List Nat) ∧ vx_267e 0 S0_ S1_)) rfl rfl (by decide) (vc_267e 0 S0_ hI_ ) rfl (fun xx76_ Sx71_ px74_ => ?_) (fun u_ Sx71_ px74_ => ?_)
            · obtain ⟨px74m, hIx72_, hFx73_, px74_⟩ := px74_
              refine Or.inr ⟨_, _, rfl, by first | exact px74m | (simp only [List.mem_cons, List.not_mem_nil, or_false] at px74m ⊢; omega), hIx72_, ai_fr_tr hF_ (fr_le hFx73_ rfl), ?_⟩
              first | exact px74_.2 | exact px74_ | rfl
            · exact absurd rfl px74_.2.2.2.1
          · have cx70_ : ¬ ((S0_.1 0 (0 + kk_.toNat) 1) ≤ 0) := of_decide_eq_false cx70_
            refine sm_T_go 2 (c1 := (61, [some (.inr (.inr (some (12, 0)))), some (.inl kk_), some (.inl e_), some (.inl wh_), some (.inr (.inr (some (2, kk_.toNat))))], [.inl 1], S0_)) rfl ?_
            refine sm_T_cale (d1_ := 0) (Q1_ := vq_267e 1 S0_) (Q2_ := (fun ex_ S1_ => ex_ ∈ ([2] : List Nat) ∧ vx_267e 1 S0_ S1_)) rfl rfl (by decide) (vc_267e 1 S0_ hI_ ) rfl (fun xx82_ Sx77_ px80_ => ?_) (fun u_ Sx77_ px80_ => ?_)
            · exact absurd px80_.2.2.2.1 (by decide)
            obtain ⟨rfl, -, -, px80_, rfl⟩ := px80_
            refine sm_T_go 1 (c1 := (65, [some (.inr (.inr (some (12, 0)))), some (.inl kk_), some (.inl e_), some (.inl wh_), some (.inr (.inr (some (2, kk_.toNat))))], [.inl wh_], S0_)) rfl ?_
            refine sm_T_b0 (a := 1) (z := 16) rfl (fun cx83_ => ?_) (fun cx83_ => ?_)
            · have cx83_ : wh_ ≠ 0 := of_decide_eq_true cx83_
              refine sm_T_go 4 (c1 := (90, [some (.inr (.inr (some (12, 0)))), some (.inl kk_), some (.inl e_), some (.inl wh_), some (.inr (.inr (some (2, kk_.toNat))))], [.inl e_, .inr (.inr (some (15, (0 + (0 + kk_.toNat)))))], S0_)) rfl ?_
              refine sm_T_iald (n := 156) rfl rfl (by omega) (by omega) ?_
              have bx84_ : 0 ≤ S0_.2.2.1 15 (0 + (0 + kk_.toNat)) e_.toNat ∧ S0_.2.2.1 15 (0 + (0 + kk_.toNat)) e_.toNat ≤ 12 := hI_.2 15 (0 + (0 + kk_.toNat)) _
              refine sm_T_ri rfl (Or.inl ⟨_, _, rfl, _, rfl, hI_, hF_, ?_⟩)
              trivial
            · have cx83_ : ¬ (wh_ ≠ 0) := of_decide_eq_false cx83_
              exfalso; omega
