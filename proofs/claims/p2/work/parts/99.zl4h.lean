/-! Layout.joinBoxes -/
def vw_83 : sx_Wl := ([], [51], [])
def vq_83 (ii_ : Nat) (S0_ : sm_S) (u_ : Option sm_V) (S1_ : sm_S) : Prop := u_ = none ∧ gi S1_ ∧ ai_fr (sx_W vw_83) S0_ S1_ ∧ (cdf ii_ S0_ S1_ ∧ (True))
set_option maxHeartbeats 400000 in
theorem vl_83 {sc_ : Nat × (Nat → Int)} (ii_ : Nat) (S0_ : sm_S)  : ∀ nn_ : Nat, (∀ (x1_ : Int) (S_ : sm_S), gi S_ → ai_fr (sx_W vw_83) S0_ S_ → ((0 ≤ x1_ ∧ x1_ ≤ 2000) ∧ (cdf ii_ S0_ S_) ∧ True) → ((30000000 - x1_).toNat) < nn_ → sm_T (mt_P sc_) 1 83 (2, [some (.inr (.inr (some (4, ii_)))), some (.inl x1_), none, none, none, none], [], S_) (fun ro9_ => ∃ u_ S1_, ro9_ = (.inl u_, S1_, 0) ∧ vq_83 ii_ S0_ u_ S1_)) ∧ (∀ (x1_ : Int) (S_ : sm_S), gi S_ → ai_fr (sx_W vw_83) S0_ S_ → ((0 ≤ x1_ ∧ x1_ ≤ 2000) ∧ (cdf ii_ S0_ S_) ∧ True) → ((10000 * (2010 - x1_) + 9000).toNat) < nn_ → sm_T (mt_P sc_) 1 83 (25, [some (.inr (.inr (some (4, ii_)))), some (.inl x1_), none, none, none, none], [], S_) (fun ro9_ => ∃ u_ S1_, ro9_ = (.inl u_, S1_, 0) ∧ vq_83 ii_ S0_ u_ S1_)) ∧ (∀ (x1_ : Int) (x2_ : Int) (x3_ : Int) (S_ : sm_S), gi S_ → ai_fr (sx_W vw_83) S0_ S_ → ((0 ≤ x1_ ∧ x1_ < 2000 ∧ x1_ < x3_ ∧ x3_ ≤ 2000) ∧ (cdf ii_ S0_ S_) ∧ True) → ((10000 * (2010 - x1_) + 8000 - x3_).toNat) < nn_ → sm_T (mt_P sc_) 1 83 (46, [some (.inr (.inr (some (4, ii_)))), some (.inl x1_), some (.inl x2_), some (.inl x3_), none, none], [], S_) (fun ro9_ => ∃ u_ S1_, ro9_ = (.inl u_, S1_, 0) ∧ vq_83 ii_ S0_ u_ S1_)) := by
  intro nn_
  induction nn_ with
  | zero => exact ⟨fun _ _ _ _ _ h_ => absurd h_ (Nat.not_lt_zero _), fun _ _ _ _ _ h_ => absurd h_ (Nat.not_lt_zero _), fun _ _ _ _ _ _ _ h_ => absurd h_ (Nat.not_lt_zero _)⟩
  | succ nn_ ih_ =>
    refine ⟨?_, ?_, ?_⟩
    · rintro x1_ S_ hI_ hF_ ⟨h0_, hC_, -⟩ hm_
      have cn_ : 0 ≤ S_.1 4 ii_ 1 ∧ S_.1 4 ii_ 1 ≤ 2000 := hI_.1 4 ii_ 1 rfl
      have bx1_ : 0 ≤ S_.1 4 ii_ 1 ∧ S_.1 4 ii_ 1 ≤ 2000 := hI_.1 4 ii_ 1 rfl
      refine sm_T_go 3 (c1 := (7, [some (.inr (.inr (some (4, ii_)))), some (.inl x1_), none, none, none, none], [.inl (S_.1 4 ii_ 1), .inl x1_], S_)) rfl ?_
      refine sm_T_br (a := 3) (z := 16) rfl (fun cx2_ => ?_) (fun cx2_ => ?_)
      · have cx2_ : (S_.1 4 ii_ 1) ≤ x1_ := of_decide_eq_true cx2_
        refine sm_T_go 2 (c1 := (25, [some (.inr (.inr (some (4, ii_)))), some (.inl 0), none, none, none, none], [], S_)) rfl ?_
        refine ih_.2.1 0 S_ hI_ hF_ ⟨?_, ?_, trivial⟩ ?_
        · omega
        · exact hC_
        · omega
      · have cx2_ : ¬ ((S_.1 4 ii_ 1) ≤ x1_) := of_decide_eq_false cx2_
        refine sm_T_go 4 (c1 := (16, [some (.inr (.inr (some (4, ii_)))), some (.inl x1_), none, none, none, none], [.inl x1_, .inl x1_, .inr (.inr (some (51, (0 + ii_))))], S_)) rfl ?_
        refine sm_T_iast (n := 2000) rfl rfl (by omega) (by omega) ?_
        have hIx3_ : gi (sm_aI S_ 51 (0 + ii_) x1_.toNat x1_) := gi_aI hI_ (show 0 ≤ x1_ ∧ x1_ ≤ 1999 from ⟨by omega, by omega⟩)
        have hFx4_ : ai_fr (sx_W vw_83) S0_ (sm_aI S_ 51 (0 + ii_) x1_.toNat x1_) := ai_fr_tr hF_ (ai_fr_aI rfl)
        have hCx5_ : cdf ii_ S0_ (sm_aI S_ 51 (0 + ii_) x1_.toNat x1_) := cdf_aI hC_ (Or.inr (by rw [show cof 51 = 0 from rfl] <;> omega))
        refine sm_T_inc (a := 1) (z := 1) (v := x1_) (w := x1_ + 1) rfl rfl (by omega) (by omega) (by omega) ?_ -- pc_ 17
        refine sm_T_go 1 (c1 := (2, [some (.inr (.inr (some (4, ii_)))), some (.inl (x1_ + 1)), none, none, none, none], [], sm_aI S_ 51 (0 + ii_) x1_.toNat x1_)) rfl ?_
        refine ih_.1 (x1_ + 1) (sm_aI S_ 51 (0 + ii_) x1_.toNat x1_) hIx3_ hFx4_ ⟨?_, ?_, trivial⟩ ?_
        · omega
        · exact hCx5_
        · omega
    · rintro x1_ S_ hI_ hF_ ⟨h0_, hC_, -⟩ hm_
      have cn_ : 0 ≤ S_.1 4 ii_ 1 ∧ S_.1 4 ii_ 1 ≤ 2000 := hI_.1 4 ii_ 1 rfl
      have bx1_ : 0 ≤ S_.1 4 ii_ 1 ∧ S_.1 4 ii_ 1 ≤ 2000 := hI_.1 4 ii_ 1 rfl
      refine sm_T_go 3 (c1 := (30, [some (.inr (.inr (some (4, ii_)))), some (.inl x1_), none, none, none, none], [.inl (S_.1 4 ii_ 1), .inl x1_], S_)) rfl ?_
      refine sm_T_br (a := 3) (z := 112) rfl (fun cx2_ => ?_) (fun cx2_ => ?_)
      · have cx2_ : (S_.1 4 ii_ 1) ≤ x1_ := of_decide_eq_true cx2_
        refine sm_T_rv rfl ⟨_, _, rfl, rfl, hI_, hF_, ?_⟩
        refine ⟨hC_, ?_⟩
        trivial
      · have cx2_ : ¬ ((S_.1 4 ii_ 1) ≤ x1_) := of_decide_eq_false cx2_
        refine sm_T_go 4 (c1 := (39, [some (.inr (.inr (some (4, ii_)))), some (.inl x1_), none, none, none, none], [.inl x1_, .inl 5, .inr (.inr (some (48, (0 + ii_))))], S_)) rfl ?_
        refine sm_T_bin (w := 5 * x1_) rfl (bi_mul (by omega) (by omega) (by omega)) ?_ -- pc_ 39
        refine sm_T_iald (n := 10000) rfl rfl (by omega) (by omega) ?_
        have bx3_ : (-1000) ≤ S_.2.2.1 48 (0 + ii_) (5 * x1_).toNat ∧ S_.2.2.1 48 (0 + ii_) (5 * x1_).toNat ≤ 1000 := hI_.2 48 (0 + ii_) _
        refine sm_T_go 3 (c1 := (44, [some (.inr (.inr (some (4, ii_)))), some (.inl x1_), some (.inl (S_.2.2.1 48 (0 + ii_) (5 * x1_).toNat)), none, none, none], [.inl 1, .inl x1_], S_)) rfl ?_
        refine sm_T_bin (w := x1_ + 1) rfl (bi_add (by omega) (by omega) (by omega)) ?_ -- pc_ 44
        refine sm_T_go 1 (c1 := (46, [some (.inr (.inr (some (4, ii_)))), some (.inl x1_), some (.inl (S_.2.2.1 48 (0 + ii_) (5 * x1_).toNat)), some (.inl (x1_ + 1)), none, none], [], S_)) rfl ?_
        refine ih_.2.2 x1_ (S_.2.2.1 48 (0 + ii_) (5 * x1_).toNat) (x1_ + 1) S_ hI_ hF_ ⟨?_, ?_, trivial⟩ ?_
        · omega
        · exact hC_
        · omega
    · rintro x1_ x2_ x3_ S_ hI_ hF_ ⟨h0_, hC_, -⟩ hm_
      have cn_ : 0 ≤ S_.1 4 ii_ 1 ∧ S_.1 4 ii_ 1 ≤ 2000 := hI_.1 4 ii_ 1 rfl
      have bx1_ : 0 ≤ S_.1 4 ii_ 1 ∧ S_.1 4 ii_ 1 ≤ 2000 := hI_.1 4 ii_ 1 rfl
      refine sm_T_go 3 (c1 := (51, [some (.inr (.inr (some (4, ii_)))), some (.inl x1_), some (.inl x2_), some (.inl x3_), none, none], [.inl (S_.1 4 ii_ 1), .inl x3_], S_)) rfl ?_
      refine sm_T_br (a := 3) (z := 85) rfl (fun cx2_ => ?_) (fun cx2_ => ?_)
      · have cx2_ : (S_.1 4 ii_ 1) ≤ x3_ := of_decide_eq_true cx2_
        refine sm_T_inc (a := 1) (z := 1) (v := x1_) (w := x1_ + 1) rfl rfl (by omega) (by omega) (by omega) ?_ -- pc_ 136
        refine sm_T_go 1 (c1 := (25, [some (.inr (.inr (some (4, ii_)))), some (.inl (x1_ + 1)), some (.inl x2_), some (.inl x3_), none, none], [], S_)) rfl ?_
        refine sm_T_wk [some (.inr (.inr (some (4, ii_)))), some (.inl (x1_ + 1)), none, none, none, none] (by exact ⟨rfl, rfl, trivial⟩) ?_
        refine ih_.2.1 (x1_ + 1) S_ hI_ hF_ ⟨?_, ?_, trivial⟩ ?_
        · omega
        · exact hC_
        · omega
      · have cx2_ : ¬ ((S_.1 4 ii_ 1) ≤ x3_) := of_decide_eq_false cx2_
        refine sm_T_go 4 (c1 := (60, [some (.inr (.inr (some (4, ii_)))), some (.inl x1_), some (.inl x2_), some (.inl x3_), none, none], [.inl x3_, .inl 5, .inr (.inr (some (48, (0 + ii_))))], S_)) rfl ?_
        refine sm_T_bin (w := 5 * x3_) rfl (bi_mul (by omega) (by omega) (by omega)) ?_ -- pc_ 60
        refine sm_T_iald (n := 10000) rfl rfl (by omega) (by omega) ?_
        have bx3_ : (-1000) ≤ S_.2.2.1 48 (0 + ii_) (5 * x3_).toNat ∧ S_.2.2.1 48 (0 + ii_) (5 * x3_).toNat ≤ 1000 := hI_.2 48 (0 + ii_) _
        refine sm_T_go 3 (c1 := (67, [some (.inr (.inr (some (4, ii_)))), some (.inl x1_), some (.inl x2_), some (.inl x3_), some (.inl (S_.2.2.1 48 (0 + ii_) (5 * x3_).toNat)), none], [.inl (S_.2.2.1 48 (0 + ii_) (5 * x3_).toNat), .inl x2_], S_)) rfl ?_
        refine sm_T_br (a := 1) (z := 16) rfl (fun cx4_ => ?_) (fun cx4_ => ?_)
        · have cx4_ : x2_ ≠ (S_.2.2.1 48 (0 + ii_) (5 * x3_).toNat) := of_decide_eq_true cx4_
          refine sm_T_go 2 (c1 := (85, [some (.inr (.inr (some (4, ii_)))), some (.inl x1_), some (.inl x2_), some (.inl x3_), some (.inl (S_.2.2.1 48 (0 + ii_) (5 * x3_).toNat)), none], [.inl 2, .inl x2_], S_)) rfl ?_
          refine sm_T_br (a := 0) (z := 9) rfl (fun cx5_ => ?_) (fun cx5_ => ?_)
          · have cx5_ : x2_ = 2 := of_decide_eq_true cx5_
            refine sm_T_go 8 (c1 := (109, [some (.inr (.inr (some (4, ii_)))), some (.inl x1_), some (.inl x2_), some (.inl x3_), some (.inl (S_.2.2.1 48 (0 + ii_) (5 * x3_).toNat)), some (.inl 1)], [.inl x3_, .inl x1_, .inr (.inr (some (4, ii_)))], S_)) rfl ?_
            refine sm_T_cal (d1 := 0) (Q1 := vq_78 x1_ x3_ ii_ S_) rfl rfl (by decide) (vc_78 x1_ x3_ ii_ S_ hI_ (by omega) (by omega)) (fun u_ Sx6_ px9_ => ?_)
            obtain ⟨rfl, vx11_, rfl, px9_⟩ := px9_
            refine sm_T_b0 (a := 0) (z := 18) rfl (fun cx12_ => ?_) (fun cx12_ => ?_)
            · have cx12_ : vx11_ = 0 := of_decide_eq_true cx12_
              refine sm_T_inc (a := 3) (z := 1) (v := x3_) (w := x3_ + 1) rfl rfl (by omega) (by omega) (by omega) ?_ -- pc_ 130
              refine sm_T_go 1 (c1 := (46, [some (.inr (.inr (some (4, ii_)))), some (.inl x1_), some (.inl x2_), some (.inl (x3_ + 1)), some (.inl (S_.2.2.1 48 (0 + ii_) (5 * x3_).toNat)), some (.inl 1)], [], S_)) rfl ?_
              refine sm_T_wk [some (.inr (.inr (some (4, ii_)))), some (.inl x1_), some (.inl x2_), some (.inl (x3_ + 1)), none, none] (by exact ⟨rfl, rfl, rfl, rfl, trivial⟩) ?_
              refine ih_.2.2 x1_ x2_ (x3_ + 1) S_ hI_ hF_ ⟨?_, ?_, trivial⟩ ?_
              · omega
              · exact hC_
              · omega
            · have cx12_ : ¬ (vx11_ = 0) := of_decide_eq_false cx12_
              refine sm_T_go 4 (c1 := (121, [some (.inr (.inr (some (4, ii_)))), some (.inl x1_), some (.inl x2_), some (.inl x3_), some (.inl (S_.2.2.1 48 (0 + ii_) (5 * x3_).toNat)), some (.inl 1)], [.inl x1_, .inr (.inr (some (4, ii_))), .inr (.inr (some (51, (0 + ii_))))], S_)) rfl ?_
              refine sm_T_cal (d1 := 0) (Q1 := vq_84 x1_ ii_ S_) rfl rfl (by decide) (vc_84 x1_ ii_ S_ hI_ (by omega)) (fun u_ Sx13_ px16_ => ?_)
              obtain ⟨vx18_, rfl, hIx14_, hFx15_, px16_⟩ := px16_
              have hFx17_ : ai_fr (sx_W vw_83) S0_ Sx13_ := ai_fr_tr hF_ (fr_le hFx15_ rfl)
              obtain ⟨dx20_, px16_⟩ := px16_
              have hCx19_ : cdf ii_ S0_ Sx13_ := cdf_tr hC_ (cdf_cg (by omega) dx20_)
              have ex21_ : Sx13_.1 4 ii_ 1 = S_.1 4 ii_ 1 := hFx15_.1 4 ii_ 1 rfl
              have t1_ := px16_
              refine sm_T_go 2 (c1 := (126, [some (.inr (.inr (some (4, ii_)))), some (.inl x1_), some (.inl x2_), some (.inl x3_), some (.inl (S_.2.2.1 48 (0 + ii_) (5 * x3_).toNat)), some (.inl 1)], [.inl x3_, .inr (.inr (some (4, ii_))), .inl vx18_, .inr (.inr (some (51, (0 + ii_))))], Sx13_)) rfl ?_
              refine sm_T_cal (d1 := 0) (Q1 := vq_84 x3_ ii_ Sx13_) rfl rfl (by decide) (vc_84 x3_ ii_ Sx13_ hIx14_ (by omega)) (fun u_ Sx22_ px25_ => ?_)
              obtain ⟨vx27_, rfl, hIx23_, hFx24_, px25_⟩ := px25_
              have hFx26_ : ai_fr (sx_W vw_83) S0_ Sx22_ := ai_fr_tr hFx17_ (fr_le hFx24_ rfl)
              obtain ⟨dx29_, px25_⟩ := px25_
              have hCx28_ : cdf ii_ S0_ Sx22_ := cdf_tr hCx19_ (cdf_cg (by omega) dx29_)
              have t2_ := px25_
              refine sm_T_iast (n := 2000) rfl rfl (by omega) (by omega) ?_
              have hIx30_ : gi (sm_aI Sx22_ 51 (0 + ii_) vx18_.toNat vx27_) := gi_aI hIx23_ (show 0 ≤ vx27_ ∧ vx27_ ≤ 1999 from ⟨by omega, by omega⟩)
              have hFx31_ : ai_fr (sx_W vw_83) S0_ (sm_aI Sx22_ 51 (0 + ii_) vx18_.toNat vx27_) := ai_fr_tr hFx26_ (ai_fr_aI rfl)
              have hCx32_ : cdf ii_ S0_ (sm_aI Sx22_ 51 (0 + ii_) vx18_.toNat vx27_) := cdf_aI hCx28_ (Or.inr (by rw [show cof 51 = 0 from rfl] <;> omega))
              refine sm_T_inc (a := 3) (z := 1) (v := x3_) (w := x3_ + 1) rfl rfl (by omega) (by omega) (by omega) ?_ -- pc_ 130
              refine sm_T_go 1 (c1 := (46, [some (.inr (.inr (some (4, ii_)))), some (.inl x1_), some (.inl x2_), some (.inl (x3_ + 1)), some (.inl (S_.2.2.1 48 (0 + ii_) (5 * x3_).toNat)), some (.inl 1)], [], sm_aI Sx22_ 51 (0 + ii_) vx18_.toNat vx27_)) rfl ?_
              refine sm_T_wk [some (.inr (.inr (some (4, ii_)))), some (.inl x1_), some (.inl x2_), some (.inl (x3_ + 1)), none, none] (by exact ⟨rfl, rfl, rfl, rfl, trivial⟩) ?_
              refine ih_.2.2 x1_ x2_ (x3_ + 1) (sm_aI Sx22_ 51 (0 + ii_) vx18_.toNat vx27_) hIx30_ hFx31_ ⟨?_, ?_, trivial⟩ ?_
              · omega
              · exact hCx32_
              · omega
          · have cx5_ : ¬ (x2_ = 2) := of_decide_eq_false cx5_
            refine sm_T_go 2 (c1 := (91, [some (.inr (.inr (some (4, ii_)))), some (.inl x1_), some (.inl x2_), some (.inl x3_), some (.inl (S_.2.2.1 48 (0 + ii_) (5 * x3_).toNat)), none], [.inl 2, .inl (S_.2.2.1 48 (0 + ii_) (5 * x3_).toNat)], S_)) rfl ?_
            refine sm_T_br (a := 1) (z := 7) rfl (fun cx33_ => ?_) (fun cx33_ => ?_)
            · have cx33_ : (S_.2.2.1 48 (0 + ii_) (5 * x3_).toNat) ≠ 2 := of_decide_eq_true cx33_
              refine sm_T_go 4 (c1 := (130, [some (.inr (.inr (some (4, ii_)))), some (.inl x1_), some (.inl x2_), some (.inl x3_), some (.inl (S_.2.2.1 48 (0 + ii_) (5 * x3_).toNat)), some (.inl 0)], [], S_)) rfl ?_
              refine sm_T_inc (a := 3) (z := 1) (v := x3_) (w := x3_ + 1) rfl rfl (by omega) (by omega) (by omega) ?_ -- pc_ 130
              refine sm_T_go 1 (c1 := (46, [some (.inr (.inr (some (4, ii_)))), some (.inl x1_), some (.inl x2_), some (.inl (x3_ + 1)), some (.inl (S_.2.2.1 48 (0 + ii_) (5 * x3_).toNat)), some (.inl 0)], [], S_)) rfl ?_
              refine sm_T_wk [some (.inr (.inr (some (4, ii_)))), some (.inl x1_), some (.inl x2_), some (.inl (x3_ + 1)), none, none] (by exact ⟨rfl, rfl, rfl, rfl, trivial⟩) ?_
              refine ih_.2.2 x1_ x2_ (x3_ + 1) S_ hI_ hF_ ⟨?_, ?_, trivial⟩ ?_
              · omega
              · exact hC_
              · omega
            · have cx33_ : ¬ ((S_.2.2.1 48 (0 + ii_) (5 * x3_).toNat) ≠ 2) := of_decide_eq_false cx33_
              refine sm_T_go 8 (c1 := (109, [some (.inr (.inr (some (4, ii_)))), some (.inl x1_), some (.inl x2_), some (.inl x3_), some (.inl (S_.2.2.1 48 (0 + ii_) (5 * x3_).toNat)), some (.inl 1)], [.inl x3_, .inl x1_, .inr (.inr (some (4, ii_)))], S_)) rfl ?_
              refine sm_T_cal (d1 := 0) (Q1 := vq_78 x1_ x3_ ii_ S_) rfl rfl (by decide) (vc_78 x1_ x3_ ii_ S_ hI_ (by omega) (by omega)) (fun u_ Sx34_ px37_ => ?_)
              obtain ⟨rfl, vx39_, rfl, px37_⟩ := px37_
              refine sm_T_b0 (a := 0) (z := 18) rfl (fun cx40_ => ?_) (fun cx40_ => ?_)
              · have cx40_ : vx39_ = 0 := of_decide_eq_true cx40_
                refine sm_T_inc (a := 3) (z := 1) (v := x3_) (w := x3_ + 1) rfl rfl (by omega) (by omega) (by omega) ?_ -- pc_ 130
                refine sm_T_go 1 (c1 := (46, [some (.inr (.inr (some (4, ii_)))), some (.inl x1_), some (.inl x2_), some (.inl (x3_ + 1)), some (.inl (S_.2.2.1 48 (0 + ii_) (5 * x3_).toNat)), some (.inl 1)], [], S_)) rfl ?_
                refine sm_T_wk [some (.inr (.inr (some (4, ii_)))), some (.inl x1_), some (.inl x2_), some (.inl (x3_ + 1)), none, none] (by exact ⟨rfl, rfl, rfl, rfl, trivial⟩) ?_
                refine ih_.2.2 x1_ x2_ (x3_ + 1) S_ hI_ hF_ ⟨?_, ?_, trivial⟩ ?_
                · omega
                · exact hC_
                · omega
              · have cx40_ : ¬ (vx39_ = 0) := of_decide_eq_false cx40_
                refine sm_T_go 4 (c1 := (121, [some (.inr (.inr (some (4, ii_)))), some (.inl x1_), some (.inl x2_), some (.inl x3_), some (.inl (S_.2.2.1 48 (0 + ii_) (5 * x3_).toNat)), some (.inl 1)], [.inl x1_, .inr (.inr (some (4, ii_))), .inr (.inr (some (51, (0 + ii_))))], S_)) rfl ?_
                refine sm_T_cal (d1 := 0) (Q1 := vq_84 x1_ ii_ S_) rfl rfl (by decide) (vc_84 x1_ ii_ S_ hI_ (by omega)) (fun u_ Sx41_ px44_ => ?_)
                obtain ⟨vx46_, rfl, hIx42_, hFx43_, px44_⟩ := px44_
                have hFx45_ : ai_fr (sx_W vw_83) S0_ Sx41_ := ai_fr_tr hF_ (fr_le hFx43_ rfl)
                obtain ⟨dx48_, px44_⟩ := px44_
                have hCx47_ : cdf ii_ S0_ Sx41_ := cdf_tr hC_ (cdf_cg (by omega) dx48_)
                have ex49_ : Sx41_.1 4 ii_ 1 = S_.1 4 ii_ 1 := hFx43_.1 4 ii_ 1 rfl
                have t1_ := px44_
                refine sm_T_go 2 (c1 := (126, [some (.inr (.inr (some (4, ii_)))), some (.inl x1_), some (.inl x2_), some (.inl x3_), some (.inl (S_.2.2.1 48 (0 + ii_) (5 * x3_).toNat)), some (.inl 1)], [.inl x3_, .inr (.inr (some (4, ii_))), .inl vx46_, .inr (.inr (some (51, (0 + ii_))))], Sx41_)) rfl ?_
                refine sm_T_cal (d1 := 0) (Q1 := vq_84 x3_ ii_ Sx41_) rfl rfl (by decide) (vc_84 x3_ ii_ Sx41_ hIx42_ (by omega)) (fun u_ Sx50_ px53_ => ?_)
                obtain ⟨vx55_, rfl, hIx51_, hFx52_, px53_⟩ := px53_
                have hFx54_ : ai_fr (sx_W vw_83) S0_ Sx50_ := ai_fr_tr hFx45_ (fr_le hFx52_ rfl)
                obtain ⟨dx57_, px53_⟩ := px53_
                have hCx56_ : cdf ii_ S0_ Sx50_ := cdf_tr hCx47_ (cdf_cg (by omega) dx57_)
                have t2_ := px53_
                refine sm_T_iast (n := 2000) rfl rfl (by omega) (by omega) ?_
                have hIx58_ : gi (sm_aI Sx50_ 51 (0 + ii_) vx46_.toNat vx55_) := gi_aI hIx51_ (show 0 ≤ vx55_ ∧ vx55_ ≤ 1999 from ⟨by omega, by omega⟩)
                have hFx59_ : ai_fr (sx_W vw_83) S0_ (sm_aI Sx50_ 51 (0 + ii_) vx46_.toNat vx55_) := ai_fr_tr hFx54_ (ai_fr_aI rfl)
                have hCx60_ : cdf ii_ S0_ (sm_aI Sx50_ 51 (0 + ii_) vx46_.toNat vx55_) := cdf_aI hCx56_ (Or.inr (by rw [show cof 51 = 0 from rfl] <;> omega))
                refine sm_T_inc (a := 3) (z := 1) (v := x3_) (w := x3_ + 1) rfl rfl (by omega) (by omega) (by omega) ?_ -- pc_ 130
                refine sm_T_go 1 (c1 := (46, [some (.inr (.inr (some (4, ii_)))), some (.inl x1_), some (.inl x2_), some (.inl (x3_ + 1)), some (.inl (S_.2.2.1 48 (0 + ii_) (5 * x3_).toNat)), some (.inl 1)], [], sm_aI Sx50_ 51 (0 + ii_) vx46_.toNat vx55_)) rfl ?_
                refine sm_T_wk [some (.inr (.inr (some (4, ii_)))), some (.inl x1_), some (.inl x2_), some (.inl (x3_ + 1)), none, none] (by exact ⟨rfl, rfl, rfl, rfl, trivial⟩) ?_
                refine ih_.2.2 x1_ x2_ (x3_ + 1) (sm_aI Sx50_ 51 (0 + ii_) vx46_.toNat vx55_) hIx58_ hFx59_ ⟨?_, ?_, trivial⟩ ?_
                · omega
                · exact hCx60_
                · omega
        · have cx4_ : ¬ (x2_ ≠ (S_.2.2.1 48 (0 + ii_) (5 * x3_).toNat)) := of_decide_eq_false cx4_
          refine sm_T_go 2 (c1 := (72, [some (.inr (.inr (some (4, ii_)))), some (.inl x1_), some (.inl x2_), some (.inl x3_), some (.inl (S_.2.2.1 48 (0 + ii_) (5 * x3_).toNat)), none], [.inl 2, .inl x2_], S_)) rfl ?_
          refine sm_T_br (a := 3) (z := 7) rfl (fun cx61_ => ?_) (fun cx61_ => ?_)
          · have cx61_ : 2 ≤ x2_ := of_decide_eq_true cx61_
            refine sm_T_go 5 (c1 := (130, [some (.inr (.inr (some (4, ii_)))), some (.inl x1_), some (.inl x2_), some (.inl x3_), some (.inl (S_.2.2.1 48 (0 + ii_) (5 * x3_).toNat)), some (.inl 0)], [], S_)) rfl ?_
            refine sm_T_inc (a := 3) (z := 1) (v := x3_) (w := x3_ + 1) rfl rfl (by omega) (by omega) (by omega) ?_ -- pc_ 130
            refine sm_T_go 1 (c1 := (46, [some (.inr (.inr (some (4, ii_)))), some (.inl x1_), some (.inl x2_), some (.inl (x3_ + 1)), some (.inl (S_.2.2.1 48 (0 + ii_) (5 * x3_).toNat)), some (.inl 0)], [], S_)) rfl ?_
            refine sm_T_wk [some (.inr (.inr (some (4, ii_)))), some (.inl x1_), some (.inl x2_), some (.inl (x3_ + 1)), none, none] (by exact ⟨rfl, rfl, rfl, rfl, trivial⟩) ?_
            refine ih_.2.2 x1_ x2_ (x3_ + 1) S_ hI_ hF_ ⟨?_, ?_, trivial⟩ ?_
            · omega
            · exact hC_
            · omega
          · have cx61_ : ¬ (2 ≤ x2_) := of_decide_eq_false cx61_
            refine sm_T_go 8 (c1 := (109, [some (.inr (.inr (some (4, ii_)))), some (.inl x1_), some (.inl x2_), some (.inl x3_), some (.inl (S_.2.2.1 48 (0 + ii_) (5 * x3_).toNat)), some (.inl 1)], [.inl x3_, .inl x1_, .inr (.inr (some (4, ii_)))], S_)) rfl ?_
            refine sm_T_cal (d1 := 0) (Q1 := vq_78 x1_ x3_ ii_ S_) rfl rfl (by decide) (vc_78 x1_ x3_ ii_ S_ hI_ (by omega) (by omega)) (fun u_ Sx62_ px65_ => ?_)
            obtain ⟨rfl, vx67_, rfl, px65_⟩ := px65_
            refine sm_T_b0 (a := 0) (z := 18) rfl (fun cx68_ => ?_) (fun cx68_ => ?_)
            · have cx68_ : vx67_ = 0 := of_decide_eq_true cx68_
              refine sm_T_inc (a := 3) (z := 1) (v := x3_) (w := x3_ + 1) rfl rfl (by omega) (by omega) (by omega) ?_ -- pc_ 130
              refine sm_T_go 1 (c1 := (46, [some (.inr (.inr (some (4, ii_)))), some (.inl x1_), some (.inl x2_), some (.inl (x3_ + 1)), some (.inl (S_.2.2.1 48 (0 + ii_) (5 * x3_).toNat)), some (.inl 1)], [], S_)) rfl ?_
              refine sm_T_wk [some (.inr (.inr (some (4, ii_)))), some (.inl x1_), some (.inl x2_), some (.inl (x3_ + 1)), none, none] (by exact ⟨rfl, rfl, rfl, rfl, trivial⟩) ?_
              refine ih_.2.2 x1_ x2_ (x3_ + 1) S_ hI_ hF_ ⟨?_, ?_, trivial⟩ ?_
              · omega
              · exact hC_
              · omega
            · have cx68_ : ¬ (vx67_ = 0) := of_decide_eq_false cx68_
              refine sm_T_go 4 (c1 := (121, [some (.inr (.inr (some (4, ii_)))), some (.inl x1_), some (.inl x2_), some (.inl x3_), some (.inl (S_.2.2.1 48 (0 + ii_) (5 * x3_).toNat)), some (.inl 1)], [.inl x1_, .inr (.inr (some (4, ii_))), .inr (.inr (some (51, (0 + ii_))))], S_)) rfl ?_
              refine sm_T_cal (d1 := 0) (Q1 := vq_84 x1_ ii_ S_) rfl rfl (by decide) (vc_84 x1_ ii_ S_ hI_ (by omega)) (fun u_ Sx69_ px72_ => ?_)
              obtain ⟨vx74_, rfl, hIx70_, hFx71_, px72_⟩ := px72_
              have hFx73_ : ai_fr (sx_W vw_83) S0_ Sx69_ := ai_fr_tr hF_ (fr_le hFx71_ rfl)
              obtain ⟨dx76_, px72_⟩ := px72_
              have hCx75_ : cdf ii_ S0_ Sx69_ := cdf_tr hC_ (cdf_cg (by omega) dx76_)
              have ex77_ : Sx69_.1 4 ii_ 1 = S_.1 4 ii_ 1 := hFx71_.1 4 ii_ 1 rfl
              have t1_ := px72_
              refine sm_T_go 2 (c1 := (126, [some (.inr (.inr (some (4, ii_)))), some (.inl x1_), some (.inl x2_), some (.inl x3_), some (.inl (S_.2.2.1 48 (0 + ii_) (5 * x3_).toNat)), some (.inl 1)], [.inl x3_, .inr (.inr (some (4, ii_))), .inl vx74_, .inr (.inr (some (51, (0 + ii_))))], Sx69_)) rfl ?_
              refine sm_T_cal (d1 := 0) (Q1 := vq_84 x3_ ii_ Sx69_) rfl rfl (by decide) (vc_84 x3_ ii_ Sx69_ hIx70_ (by omega)) (fun u_ Sx78_ px81_ => ?_)
              obtain ⟨vx83_, rfl, hIx79_, hFx80_, px81_⟩ := px81_
              have hFx82_ : ai_fr (sx_W vw_83) S0_ Sx78_ := ai_fr_tr hFx73_ (fr_le hFx80_ rfl)
              obtain ⟨dx85_, px81_⟩ := px81_
              have hCx84_ : cdf ii_ S0_ Sx78_ := cdf_tr hCx75_ (cdf_cg (by omega) dx85_)
              have t2_ := px81_
              refine sm_T_iast (n := 2000) rfl rfl (by omega) (by omega) ?_
              have hIx86_ : gi (sm_aI Sx78_ 51 (0 + ii_) vx74_.toNat vx83_) := gi_aI hIx79_ (show 0 ≤ vx83_ ∧ vx83_ ≤ 1999 from ⟨by omega, by omega⟩)
              have hFx87_ : ai_fr (sx_W vw_83) S0_ (sm_aI Sx78_ 51 (0 + ii_) vx74_.toNat vx83_) := ai_fr_tr hFx82_ (ai_fr_aI rfl)
              have hCx88_ : cdf ii_ S0_ (sm_aI Sx78_ 51 (0 + ii_) vx74_.toNat vx83_) := cdf_aI hCx84_ (Or.inr (by rw [show cof 51 = 0 from rfl] <;> omega))
              refine sm_T_inc (a := 3) (z := 1) (v := x3_) (w := x3_ + 1) rfl rfl (by omega) (by omega) (by omega) ?_ -- pc_ 130
              refine sm_T_go 1 (c1 := (46, [some (.inr (.inr (some (4, ii_)))), some (.inl x1_), some (.inl x2_), some (.inl (x3_ + 1)), some (.inl (S_.2.2.1 48 (0 + ii_) (5 * x3_).toNat)), some (.inl 1)], [], sm_aI Sx78_ 51 (0 + ii_) vx74_.toNat vx83_)) rfl ?_
              refine sm_T_wk [some (.inr (.inr (some (4, ii_)))), some (.inl x1_), some (.inl x2_), some (.inl (x3_ + 1)), none, none] (by exact ⟨rfl, rfl, rfl, rfl, trivial⟩) ?_
              refine ih_.2.2 x1_ x2_ (x3_ + 1) (sm_aI Sx78_ 51 (0 + ii_) vx74_.toNat vx83_) hIx86_ hFx87_ ⟨?_, ?_, trivial⟩ ?_
              · omega
              · exact hCx88_
              · omega
set_option maxHeartbeats 400000 in
theorem vc_83 {sc_ : Nat × (Nat → Int)} (ii_ : Nat) (S0_ : sm_S) (hI_ : gi S0_)  : sm_T (mt_P sc_) 1 83 (0, [some (.inr (.inr (some (4, ii_)))), none, none, none, none, none], [], S0_) (fun ro9_ => ∃ u_ S1_, ro9_ = (.inl u_, S1_, 0) ∧ vq_83 ii_ S0_ u_ S1_) := by
  have hF_ : ai_fr (sx_W vw_83) S0_ S0_ := ai_fr_rf
  have hC_ : cdf ii_ S0_ S0_ := cdf_rf
  refine sm_T_go 2 (c1 := (2, [some (.inr (.inr (some (4, ii_)))), some (.inl 0), none, none, none, none], [], S0_)) rfl ?_
  refine (vl_83 ii_ S0_ _).1 0 S0_ hI_ hF_ ⟨?_, ?_, trivial⟩ (Nat.lt_succ_self _)
  · omega
  · exact hC_
