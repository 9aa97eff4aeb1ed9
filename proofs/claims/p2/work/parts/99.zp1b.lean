/-! ChipFlow.gate -/
def vw_232 : sx_Wl := ([], [], [])
def vq_232 (kk_ : Int) (g_ : Int) (wh_ : Int) (S0_ : sm_S) (u_ : Option sm_V) (S1_ : sm_S) : Prop := ∃ v_ : Int, u_ = some (.inl v_) ∧ gi S1_ ∧ ai_fr (sx_W vw_232) S0_ S1_ ∧ (True)
def vx_232 (kk_ : Int) (g_ : Int) (wh_ : Int) (S0_ : sm_S) (S1_ : sm_S) : Prop := gi S1_ ∧ ai_fr (sx_W vw_232) S0_ S1_ ∧ (S1_ = S0_)
set_option maxHeartbeats 400000 in
theorem vc_232 {sc_ : Nat × (Nat → Int)} (kk_ : Int) (g_ : Int) (wh_ : Int) (S0_ : sm_S) (hI_ : gi S0_) (hJ_ : jC S0_) : sm_T (mt_P sc_) 2 232 (0, [some (.inr (.inr (some (12, 0)))), some (.inl kk_), some (.inl g_), some (.inl wh_), none], [], S0_) (fun ro9_ => (∃ u_ S1_, ro9_ = (.inl u_, S1_, 0) ∧ vq_232 kk_ g_ wh_ S0_ u_ S1_) ∨ ∃ ex_ S1_, ro9_ = (.inr ex_, S1_, 1) ∧ ex_ ∈ ([0, 1] : List Nat) ∧ vx_232 kk_ g_ wh_ S0_ S1_) := by
  have hF_ : ai_fr (sx_W vw_232) S0_ S0_ := ai_fr_rf
  refine sm_T_go 2 (c1 := (2, [some (.inr (.inr (some (12, 0)))), some (.inl kk_), some (.inl g_), some (.inl wh_), none], [.inl kk_, .inr (.inr (some (12, 0)))], S0_)) rfl ?_
  refine sm_T_cale (d1_ := 1) (Q1_ := vq_272 kk_ S0_) (Q2_ := (fun ex_ S1_ => ex_ ∈ ([0] : List Nat) ∧ vx_272 kk_ S0_ S1_)) rfl rfl (by decide) (vc_272 kk_ S0_ hI_ ) rfl (fun xx6_ Sx1_ px4_ => ?_) (fun u_ Sx1_ px4_ => ?_)
  · obtain ⟨px4m, hIx2_, hFx3_, px4_⟩ := px4_
    refine Or.inr ⟨_, _, rfl, by first | exact px4m | (simp only [List.mem_cons, List.not_mem_nil, or_false] at px4m ⊢; omega), hIx2_, ai_fr_tr hF_ (fr_le hFx3_ rfl), ?_⟩
    first | exact px4_.2 | exact px4_ | rfl
  obtain ⟨rfl, -, -, rfl, px4_⟩ := px4_
  have a9_ := px4_
  have J9_ := hJ_.2.1 kk_.toNat (by omega) a9_.2
  have J1_ := J9_.1
  have q9_ := a9_.2
  have c8_ : 0 ≤ S0_.1 2 (kk_.toNat) 8 ∧ S0_.1 2 (kk_.toNat) 8 ≤ 150 := hI_.1 2 (kk_.toNat) 8 rfl
  refine sm_T_go 2 (c1 := (8, [some (.inr (.inr (some (12, 0)))), some (.inl kk_), some (.inl g_), some (.inl wh_), some (.inr (.inr (some (2, kk_.toNat))))], [.inl g_], S0_)) rfl ?_
  refine sm_T_b0 (a := 2) (z := 16) rfl (fun cx7_ => ?_) (fun cx7_ => ?_)
  · have cx7_ : g_ < 0 := of_decide_eq_true cx7_
    refine sm_T_go 1 (c1 := (25, [some (.inr (.inr (some (12, 0)))), some (.inl kk_), some (.inl g_), some (.inl wh_), some (.inr (.inr (some (2, kk_.toNat))))], [.inl 0], S0_)) rfl ?_
    refine sm_T_cale (d1_ := 0) (Q1_ := vq_265e 0 S0_) (Q2_ := (fun ex_ S1_ => ex_ ∈ ([0] : List Nat) ∧ vx_265e 0 S0_ S1_)) rfl rfl (by decide) (vc_265e 0 S0_ hI_ ) rfl (fun xx13_ Sx8_ px11_ => ?_) (fun u_ Sx8_ px11_ => ?_)
    · obtain ⟨px11m, hIx9_, hFx10_, px11_⟩ := px11_
      refine Or.inr ⟨_, _, rfl, by first | exact px11m | (simp only [List.mem_cons, List.not_mem_nil, or_false] at px11m ⊢; omega), hIx9_, ai_fr_tr hF_ (fr_le hFx10_ rfl), ?_⟩
      first | exact px11_.2 | exact px11_ | rfl
    · exact absurd rfl px11_.2.2.2.1
  · have cx7_ : ¬ (g_ < 0) := of_decide_eq_false cx7_
    have bx14_ : 0 ≤ S0_.1 2 kk_.toNat 8 ∧ S0_.1 2 kk_.toNat 8 ≤ 150 := hI_.1 2 kk_.toNat 8 rfl
    refine sm_T_go 3 (c1 := (17, [some (.inr (.inr (some (12, 0)))), some (.inl kk_), some (.inl g_), some (.inl wh_), some (.inr (.inr (some (2, kk_.toNat))))], [.inl (S0_.1 2 kk_.toNat 8), .inl g_], S0_)) rfl ?_
    refine sm_T_br (a := 3) (z := 7) rfl (fun cx15_ => ?_) (fun cx15_ => ?_)
    · have cx15_ : (S0_.1 2 kk_.toNat 8) ≤ g_ := of_decide_eq_true cx15_
      refine sm_T_go 1 (c1 := (25, [some (.inr (.inr (some (12, 0)))), some (.inl kk_), some (.inl g_), some (.inl wh_), some (.inr (.inr (some (2, kk_.toNat))))], [.inl 0], S0_)) rfl ?_
      refine sm_T_cale (d1_ := 0) (Q1_ := vq_265e 0 S0_) (Q2_ := (fun ex_ S1_ => ex_ ∈ ([0] : List Nat) ∧ vx_265e 0 S0_ S1_)) rfl rfl (by decide) (vc_265e 0 S0_ hI_ ) rfl (fun xx21_ Sx16_ px19_ => ?_) (fun u_ Sx16_ px19_ => ?_)
      · obtain ⟨px19m, hIx17_, hFx18_, px19_⟩ := px19_
        refine Or.inr ⟨_, _, rfl, by first | exact px19m | (simp only [List.mem_cons, List.not_mem_nil, or_false] at px19m ⊢; omega), hIx17_, ai_fr_tr hF_ (fr_le hFx18_ rfl), ?_⟩
        first | exact px19_.2 | exact px19_ | rfl
      · exact absurd rfl px19_.2.2.2.1
    · have cx15_ : ¬ ((S0_.1 2 kk_.toNat 8) ≤ g_) := of_decide_eq_false cx15_
      refine sm_T_go 2 (c1 := (25, [some (.inr (.inr (some (12, 0)))), some (.inl kk_), some (.inl g_), some (.inl wh_), some (.inr (.inr (some (2, kk_.toNat))))], [.inl 1], S0_)) rfl ?_
      refine sm_T_cale (d1_ := 0) (Q1_ := vq_265e 1 S0_) (Q2_ := (fun ex_ S1_ => ex_ ∈ ([0] : List Nat) ∧ vx_265e 1 S0_ S1_)) rfl rfl (by decide) (vc_265e 1 S0_ hI_ ) rfl (fun xx27_ Sx22_ px25_ => ?_) (fun u_ Sx22_ px25_ => ?_)
      · exact absurd px25_.2.2.2.1 (by decide)
      obtain ⟨rfl, -, -, px25_, rfl⟩ := px25_
      refine sm_T_go 1 (c1 := (29, [some (.inr (.inr (some (12, 0)))), some (.inl kk_), some (.inl g_), some (.inl wh_), some (.inr (.inr (some (2, kk_.toNat))))], [.inl wh_], S0_)) rfl ?_
      refine sm_T_b0 (a := 2) (z := 12) rfl (fun cx28_ => ?_) (fun cx28_ => ?_)
      · have cx28_ : wh_ < 0 := of_decide_eq_true cx28_
        refine sm_T_go 1 (c1 := (42, [some (.inr (.inr (some (12, 0)))), some (.inl kk_), some (.inl g_), some (.inl wh_), some (.inr (.inr (some (2, kk_.toNat))))], [.inl 0], S0_)) rfl ?_
        refine sm_T_cale (d1_ := 0) (Q1_ := vq_266e 0 S0_) (Q2_ := (fun ex_ S1_ => ex_ ∈ ([1] : List Nat) ∧ vx_266e 0 S0_ S1_)) rfl rfl (by decide) (vc_266e 0 S0_ hI_ ) rfl (fun xx34_ Sx29_ px32_ => ?_) (fun u_ Sx29_ px32_ => ?_)
        · obtain ⟨px32m, hIx30_, hFx31_, px32_⟩ := px32_
          refine Or.inr ⟨_, _, rfl, by first | exact px32m | (simp only [List.mem_cons, List.not_mem_nil, or_false] at px32m ⊢; omega), hIx30_, ai_fr_tr hF_ (fr_le hFx31_ rfl), ?_⟩
          first | exact px32_.2 | exact px32_ | rfl
        · exact absurd rfl px32_.2.2.2.1
      · have cx28_ : ¬ (wh_ < 0) := of_decide_eq_false cx28_
        refine sm_T_go 2 (c1 := (34, [some (.inr (.inr (some (12, 0)))), some (.inl kk_), some (.inl g_), some (.inl wh_), some (.inr (.inr (some (2, kk_.toNat))))], [.inl 4, .inl wh_], S0_)) rfl ?_
        refine sm_T_br (a := 4) (z := 7) rfl (fun cx35_ => ?_) (fun cx35_ => ?_)
        · have cx35_ : 4 < wh_ := of_decide_eq_true cx35_
          refine sm_T_go 1 (c1 := (42, [some (.inr (.inr (some (12, 0)))), some (.inl kk_), some (.inl g_), some (.inl wh_), some (.inr (.inr (some (2, kk_.toNat))))], [.inl 0], S0_)) rfl ?_
          refine sm_T_cale (d1_ := 0) (Q1_ := vq_266e 0 S0_) (Q2_ := (fun ex_ S1_ => ex_ ∈ ([1] : List Nat) ∧ vx_266e 0 S0_ S1_)) rfl rfl (by decide) (vc_266e 0 S0_ hI_ ) rfl (fun xx41_ Sx36_ px39_ => ?_) (fun u_ Sx36_ px39_ => ?_)
          · obtain ⟨px39m, hIx37_, hFx38_, px39_⟩ := px39_
            refine Or.inr ⟨_, _, rfl, by first | exact px39m | (simp only [List.mem_cons, List.not_mem_nil, or_false] at px39m ⊢; omega), hIx37_, ai_fr_tr hF_ (fr_le hFx38_ rfl), ?_⟩
            first | exact px39_.2 | exact px39_ | rfl
          · exact absurd rfl px39_.2.2.2.1
        · have cx35_ : ¬ (4 < wh_) := of_decide_eq_false cx35_
          refine sm_T_go 2 (c1 := (42, [some (.inr (.inr (some (12, 0)))), some (.inl kk_), some (.inl g_), some (.inl wh_), some (.inr (.inr (some (2, kk_.toNat))))], [.inl 1], S0_)) rfl ?_
          refine sm_T_cale (d1_ := 0) (Q1_ := vq_266e 1 S0_) (Q2_ := (fun ex_ S1_ => ex_ ∈ ([1] : List Nat) ∧ vx_266e 1 S0_ S1_)) rfl rfl (by decide) (vc_266e 1 S0_ hI_ ) rfl (fun xx47_ Sx42_ px45_ => ?_) (fun u_ Sx42_ px45_ => ?_)
          · exact absurd px45_.2.2.2.1 (by decide)
          obtain ⟨rfl, -, -, px45_, rfl⟩ := px45_
          refine sm_T_go 1 (c1 := (46, [some (.inr (.inr (some (12, 0)))), some (.inl kk_), some (.inl g_), some (.inl wh_), some (.inr (.inr (some (2, kk_.toNat))))], [.inl wh_], S0_)) rfl ?_
          refine sm_T_b0 (a := 1) (z := 11) rfl (fun cx48_ => ?_) (fun cx48_ => ?_)
          · have cx48_ : wh_ ≠ 0 := of_decide_eq_true cx48_
            refine sm_T_go 2 (c1 := (59, [some (.inr (.inr (some (12, 0)))), some (.inl kk_), some (.inl g_), some (.inl wh_), some (.inr (.inr (some (2, kk_.toNat))))], [.inl 4, .inl wh_], S0_)) rfl ?_
            refine sm_T_br (a := 1) (z := 11) rfl (fun cx49_ => ?_) (fun cx49_ => ?_)
            · have cx49_ : wh_ ≠ 4 := of_decide_eq_true cx49_
              refine sm_T_go 3 (c1 := (74, [some (.inr (.inr (some (12, 0)))), some (.inl kk_), some (.inl g_), some (.inl wh_), some (.inr (.inr (some (2, kk_.toNat))))], [.inl g_, .inr (.inr (some (2, kk_.toNat))), .inl wh_], S0_)) rfl ?_
              refine sm_T_cal (d1 := 0) (Q1 := vq_59 g_ kk_.toNat S0_) rfl rfl (by decide) (vc_59 g_ kk_.toNat S0_ hI_ (by omega)) (fun u_ Sx50_ px53_ => ?_)
              obtain ⟨rfl, vx55_, rfl, px53_⟩ := px53_
              refine sm_T_br (a := 4) (z := 19) rfl (fun cx56_ => ?_) (fun cx56_ => ?_)
              · have cx56_ : vx55_ < wh_ := of_decide_eq_true cx56_
                refine sm_T_go 1 (c1 := (97, [some (.inr (.inr (some (12, 0)))), some (.inl kk_), some (.inl g_), some (.inl wh_), some (.inr (.inr (some (2, kk_.toNat))))], [.inl (-1)], S0_)) rfl ?_
                refine sm_T_ri rfl (Or.inl ⟨_, _, rfl, _, rfl, hI_, hF_, ?_⟩)
                trivial
              · have cx56_ : ¬ (vx55_ < wh_) := of_decide_eq_false cx56_
                refine sm_T_go 4 (c1 := (87, [some (.inr (.inr (some (12, 0)))), some (.inl kk_), some (.inl g_), some (.inl wh_), some (.inr (.inr (some (2, kk_.toNat))))], [.inl g_, .inl 3, .inr (.inr (some (36, (0 + kk_.toNat))))], S0_)) rfl ?_
                refine sm_T_bin (w := 3 * g_) rfl (bi_mul (by omega) (by omega) (by omega)) ?_ -- pc_ 87
                refine sm_T_go 1 (c1 := (89, [some (.inr (.inr (some (12, 0)))), some (.inl kk_), some (.inl g_), some (.inl wh_), some (.inr (.inr (some (2, kk_.toNat))))], [.inl wh_, .inl (3 * g_), .inr (.inr (some (36, (0 + kk_.toNat))))], S0_)) rfl ?_
                refine sm_T_bin (w := 3 * g_ + wh_) rfl (bi_add (by omega) (by omega) (by omega)) ?_ -- pc_ 89
                refine sm_T_go 1 (c1 := (91, [some (.inr (.inr (some (12, 0)))), some (.inl kk_), some (.inl g_), some (.inl wh_), some (.inr (.inr (some (2, kk_.toNat))))], [.inl 1, .inl (3 * g_ + wh_), .inr (.inr (some (36, (0 + kk_.toNat))))], S0_)) rfl ?_
                refine sm_T_bin (w := 3 * g_ + wh_ - 1) rfl (bi_sub (by omega) (by omega) (by omega)) ?_ -- pc_ 91
                refine sm_T_iald (n := 450) rfl rfl (by omega) (by omega) ?_
                have bx57_ : 0 ≤ S0_.2.2.1 36 (0 + kk_.toNat) (3 * g_ + wh_ - 1).toNat ∧ S0_.2.2.1 36 (0 + kk_.toNat) (3 * g_ + wh_ - 1).toNat ≤ 161 := hI_.2 36 (0 + kk_.toNat) _
                refine sm_T_go 1 (c1 := (97, [some (.inr (.inr (some (12, 0)))), some (.inl kk_), some (.inl g_), some (.inl wh_), some (.inr (.inr (some (2, kk_.toNat))))], [.inl (S0_.2.2.1 36 (0 + kk_.toNat) (3 * g_ + wh_ - 1).toNat)], S0_)) rfl ?_
                refine sm_T_ri rfl (Or.inl ⟨_, _, rfl, _, rfl, hI_, hF_, ?_⟩)
                trivial
            · have cx49_ : ¬ (wh_ ≠ 4) := of_decide_eq_false cx49_
              refine sm_T_go 1 (c1 := (64, [some (.inr (.inr (some (12, 0)))), some (.inl kk_), some (.inl g_), some (.inl wh_), some (.inr (.inr (some (2, kk_.toNat))))], [.inr (.inr (some (2, kk_.toNat)))], S0_)) rfl ?_
              refine sm_T_cal (d1 := 0) (Q1 := vq_54 kk_.toNat S0_) rfl rfl (by decide) (vc_54 kk_.toNat S0_ hI_ ) (fun u_ Sx58_ px61_ => ?_)
              obtain ⟨rfl, vx63_, rfl, px61_⟩ := px61_
              refine sm_T_go 1 (c1 := (68, [some (.inr (.inr (some (12, 0)))), some (.inl kk_), some (.inl g_), some (.inl wh_), some (.inr (.inr (some (2, kk_.toNat))))], [.inl g_, .inl vx63_], S0_)) rfl ?_
              refine sm_T_bin (w := vx63_ + g_) rfl (bi_add (by omega) (by omega) (by omega)) ?_ -- pc_ 68
              refine sm_T_ri rfl (Or.inl ⟨_, _, rfl, _, rfl, hI_, hF_, ?_⟩)
              trivial
          · have cx48_ : ¬ (wh_ ≠ 0) := of_decide_eq_false cx48_
            refine sm_T_go 3 (c1 := (55, [some (.inr (.inr (some (12, 0)))), some (.inl kk_), some (.inl g_), some (.inl wh_), some (.inr (.inr (some (2, kk_.toNat))))], [.inl g_, .inr (.inr (some (35, (0 + kk_.toNat))))], S0_)) rfl ?_
            refine sm_T_iald (n := 150) rfl rfl (by omega) (by omega) ?_
            have bx64_ : 0 ≤ S0_.2.2.1 35 (0 + kk_.toNat) g_.toNat ∧ S0_.2.2.1 35 (0 + kk_.toNat) g_.toNat ≤ 11 := hI_.2 35 (0 + kk_.toNat) _
            refine sm_T_ri rfl (Or.inl ⟨_, _, rfl, _, rfl, hI_, hF_, ?_⟩)
            trivial
