/-! ChipFlow.isThere -/
def vw_218 : sx_Wl := ([], [], [])
def vq_218 (kd_ : Int) (k_ : Int) (S0_ : sm_S) (u_ : Option sm_V) (S1_ : sm_S) : Prop := ∃ v_ : Int, u_ = some (.inl v_) ∧ gi S1_ ∧ ai_fr (sx_W vw_218) S0_ S1_ ∧ (S1_ = S0_)
def vx_218 (kd_ : Int) (k_ : Int) (S0_ : sm_S) (S1_ : sm_S) : Prop := gi S1_ ∧ ai_fr (sx_W vw_218) S0_ S1_ ∧ (S1_ = S0_)
set_option maxHeartbeats 400000 in
theorem vc_218 {sc_ : Nat × (Nat → Int)} (kd_ : Int) (k_ : Int) (S0_ : sm_S) (hI_ : gi S0_)  : sm_T (mt_P sc_) 1 218 (0, [some (.inr (.inr (some (12, 0)))), some (.inl kd_), some (.inl k_)], [], S0_) (fun ro9_ => (∃ u_ S1_, ro9_ = (.inl u_, S1_, 0) ∧ vq_218 kd_ k_ S0_ u_ S1_) ∨ ∃ ex_ S1_, ro9_ = (.inr ex_, S1_, 1) ∧ ex_ ∈ ([1] : List Nat) ∧ vx_218 kd_ k_ S0_ S1_) := by
  have hF_ : ai_fr (sx_W vw_218) S0_ S0_ := ai_fr_rf
  refine sm_T_go 1 (c1 := (1, [some (.inr (.inr (some (12, 0)))), some (.inl kd_), some (.inl k_)], [.inl kd_], S0_)) rfl ?_
  refine sm_T_b0 (a := 2) (z := 12) rfl (fun cx1_ => ?_) (fun cx1_ => ?_)
  · have cx1_ : kd_ < 0 := of_decide_eq_true cx1_
    refine sm_T_go 1 (c1 := (14, [some (.inr (.inr (some (12, 0)))), some (.inl kd_), some (.inl k_)], [.inl 0], S0_)) rfl ?_
    refine sm_T_cale (d1_ := 0) (Q1_ := vq_266e 0 S0_) (Q2_ := (fun ex_ S1_ => ex_ ∈ ([1] : List Nat) ∧ vx_266e 0 S0_ S1_)) rfl rfl (by decide) (vc_266e 0 S0_ hI_ ) rfl (fun xx7_ Sx2_ px5_ => ?_) (fun u_ Sx2_ px5_ => ?_)
    · obtain ⟨px5m, hIx3_, hFx4_, px5_⟩ := px5_
      refine Or.inr ⟨_, _, rfl, by first | exact px5m | (simp only [List.mem_cons, List.not_mem_nil, or_false] at px5m ⊢; omega), hIx3_, ai_fr_tr hF_ (fr_le hFx4_ rfl), ?_⟩
      first | exact px5_.2 | exact px5_ | rfl
    · exact absurd rfl px5_.2.2.2.1
  · have cx1_ : ¬ (kd_ < 0) := of_decide_eq_false cx1_
    refine sm_T_go 2 (c1 := (6, [some (.inr (.inr (some (12, 0)))), some (.inl kd_), some (.inl k_)], [.inl 2, .inl kd_], S0_)) rfl ?_
    refine sm_T_br (a := 4) (z := 7) rfl (fun cx8_ => ?_) (fun cx8_ => ?_)
    · have cx8_ : 2 < kd_ := of_decide_eq_true cx8_
      refine sm_T_go 1 (c1 := (14, [some (.inr (.inr (some (12, 0)))), some (.inl kd_), some (.inl k_)], [.inl 0], S0_)) rfl ?_
      refine sm_T_cale (d1_ := 0) (Q1_ := vq_266e 0 S0_) (Q2_ := (fun ex_ S1_ => ex_ ∈ ([1] : List Nat) ∧ vx_266e 0 S0_ S1_)) rfl rfl (by decide) (vc_266e 0 S0_ hI_ ) rfl (fun xx14_ Sx9_ px12_ => ?_) (fun u_ Sx9_ px12_ => ?_)
      · obtain ⟨px12m, hIx10_, hFx11_, px12_⟩ := px12_
        refine Or.inr ⟨_, _, rfl, by first | exact px12m | (simp only [List.mem_cons, List.not_mem_nil, or_false] at px12m ⊢; omega), hIx10_, ai_fr_tr hF_ (fr_le hFx11_ rfl), ?_⟩
        first | exact px12_.2 | exact px12_ | rfl
      · exact absurd rfl px12_.2.2.2.1
    · have cx8_ : ¬ (2 < kd_) := of_decide_eq_false cx8_
      refine sm_T_go 2 (c1 := (14, [some (.inr (.inr (some (12, 0)))), some (.inl kd_), some (.inl k_)], [.inl 1], S0_)) rfl ?_
      refine sm_T_cale (d1_ := 0) (Q1_ := vq_266e 1 S0_) (Q2_ := (fun ex_ S1_ => ex_ ∈ ([1] : List Nat) ∧ vx_266e 1 S0_ S1_)) rfl rfl (by decide) (vc_266e 1 S0_ hI_ ) rfl (fun xx20_ Sx15_ px18_ => ?_) (fun u_ Sx15_ px18_ => ?_)
      · exact absurd px18_.2.2.2.1 (by decide)
      obtain ⟨rfl, -, -, px18_, rfl⟩ := px18_
      refine sm_T_go 1 (c1 := (18, [some (.inr (.inr (some (12, 0)))), some (.inl kd_), some (.inl k_)], [.inl kd_], S0_)) rfl ?_
      refine sm_T_b0 (a := 1) (z := 31) rfl (fun cx21_ => ?_) (fun cx21_ => ?_)
      · have cx21_ : kd_ ≠ 0 := of_decide_eq_true cx21_
        refine sm_T_go 2 (c1 := (51, [some (.inr (.inr (some (12, 0)))), some (.inl kd_), some (.inl k_)], [.inl 1, .inl kd_], S0_)) rfl ?_
        refine sm_T_br (a := 1) (z := 30) rfl (fun cx22_ => ?_) (fun cx22_ => ?_)
        · have cx22_ : kd_ ≠ 1 := of_decide_eq_true cx22_
          refine sm_T_go 1 (c1 := (82, [some (.inr (.inr (some (12, 0)))), some (.inl kd_), some (.inl k_)], [.inl k_], S0_)) rfl ?_
          refine sm_T_b0 (a := 2) (z := 24) rfl (fun cx23_ => ?_) (fun cx23_ => ?_)
          · have cx23_ : k_ < 0 := of_decide_eq_true cx23_
            refine sm_T_go 1 (c1 := (107, [some (.inr (.inr (some (12, 0)))), some (.inl kd_), some (.inl k_)], [.inl 0], S0_)) rfl ?_
            refine sm_T_rz rfl (by omega) (Or.inl ⟨_, _, rfl, _, rfl, hI_, hF_, ?_⟩)
            rfl
          · have cx23_ : ¬ (k_ < 0) := of_decide_eq_false cx23_
            refine sm_T_go 2 (c1 := (87, [some (.inr (.inr (some (12, 0)))), some (.inl kd_), some (.inl k_)], [.inl 4, .inl k_], S0_)) rfl ?_
            refine sm_T_br (a := 3) (z := 19) rfl (fun cx24_ => ?_) (fun cx24_ => ?_)
            · have cx24_ : 4 ≤ k_ := of_decide_eq_true cx24_
              refine sm_T_go 1 (c1 := (107, [some (.inr (.inr (some (12, 0)))), some (.inl kd_), some (.inl k_)], [.inl 0], S0_)) rfl ?_
              refine sm_T_rz rfl (by omega) (Or.inl ⟨_, _, rfl, _, rfl, hI_, hF_, ?_⟩)
              rfl
            · have cx24_ : ¬ (4 ≤ k_) := of_decide_eq_false cx24_
              refine sm_T_go 3 (c1 := (95, [some (.inr (.inr (some (12, 0)))), some (.inl kd_), some (.inl k_)], [.inl k_, .inr (.inr (some (112, 0)))], S0_)) rfl ?_
              refine sm_T_aald (t0 := 6) (n := 4) rfl rfl (by omega) (by omega) ?_
              have bx25_ : 0 ≤ S0_.1 2 k_.toNat 0 ∧ S0_.1 2 k_.toNat 0 ≤ 1 := hI_.1 2 k_.toNat 0 rfl
              refine sm_T_go 1 (c1 := (99, [some (.inr (.inr (some (12, 0)))), some (.inl kd_), some (.inl k_)], [.inl (S0_.1 2 k_.toNat 0)], S0_)) rfl ?_
              refine sm_T_b0 (a := 0) (z := 7) rfl (fun cx26_ => ?_) (fun cx26_ => ?_)
              · have cx26_ : (S0_.1 2 k_.toNat 0) = 0 := of_decide_eq_true cx26_
                refine sm_T_go 1 (c1 := (107, [some (.inr (.inr (some (12, 0)))), some (.inl kd_), some (.inl k_)], [.inl 0], S0_)) rfl ?_
                refine sm_T_rz rfl (by omega) (Or.inl ⟨_, _, rfl, _, rfl, hI_, hF_, ?_⟩)
                rfl
              · have cx26_ : ¬ ((S0_.1 2 k_.toNat 0) = 0) := of_decide_eq_false cx26_
                refine sm_T_go 2 (c1 := (107, [some (.inr (.inr (some (12, 0)))), some (.inl kd_), some (.inl k_)], [.inl 1], S0_)) rfl ?_
                refine sm_T_rz rfl (by omega) (Or.inl ⟨_, _, rfl, _, rfl, hI_, hF_, ?_⟩)
                rfl
        · have cx22_ : ¬ (kd_ ≠ 1) := of_decide_eq_false cx22_
          refine sm_T_go 1 (c1 := (55, [some (.inr (.inr (some (12, 0)))), some (.inl kd_), some (.inl k_)], [.inl k_], S0_)) rfl ?_
          refine sm_T_b0 (a := 2) (z := 24) rfl (fun cx27_ => ?_) (fun cx27_ => ?_)
          · have cx27_ : k_ < 0 := of_decide_eq_true cx27_
            refine sm_T_go 1 (c1 := (80, [some (.inr (.inr (some (12, 0)))), some (.inl kd_), some (.inl k_)], [.inl 0], S0_)) rfl ?_
            refine sm_T_rz rfl (by omega) (Or.inl ⟨_, _, rfl, _, rfl, hI_, hF_, ?_⟩)
            rfl
          · have cx27_ : ¬ (k_ < 0) := of_decide_eq_false cx27_
            refine sm_T_go 2 (c1 := (60, [some (.inr (.inr (some (12, 0)))), some (.inl kd_), some (.inl k_)], [.inl 3, .inl k_], S0_)) rfl ?_
            refine sm_T_br (a := 3) (z := 19) rfl (fun cx28_ => ?_) (fun cx28_ => ?_)
            · have cx28_ : 3 ≤ k_ := of_decide_eq_true cx28_
              refine sm_T_go 1 (c1 := (80, [some (.inr (.inr (some (12, 0)))), some (.inl kd_), some (.inl k_)], [.inl 0], S0_)) rfl ?_
              refine sm_T_rz rfl (by omega) (Or.inl ⟨_, _, rfl, _, rfl, hI_, hF_, ?_⟩)
              rfl
            · have cx28_ : ¬ (3 ≤ k_) := of_decide_eq_false cx28_
              refine sm_T_go 3 (c1 := (68, [some (.inr (.inr (some (12, 0)))), some (.inl kd_), some (.inl k_)], [.inl k_, .inr (.inr (some (111, 0)))], S0_)) rfl ?_
              refine sm_T_aald (t0 := 5) (n := 3) rfl rfl (by omega) (by omega) ?_
              have bx29_ : 0 ≤ S0_.1 5 k_.toNat 0 ∧ S0_.1 5 k_.toNat 0 ≤ 1 := hI_.1 5 k_.toNat 0 rfl
              refine sm_T_go 1 (c1 := (72, [some (.inr (.inr (some (12, 0)))), some (.inl kd_), some (.inl k_)], [.inl (S0_.1 5 k_.toNat 0)], S0_)) rfl ?_
              refine sm_T_b0 (a := 0) (z := 7) rfl (fun cx30_ => ?_) (fun cx30_ => ?_)
              · have cx30_ : (S0_.1 5 k_.toNat 0) = 0 := of_decide_eq_true cx30_
                refine sm_T_go 1 (c1 := (80, [some (.inr (.inr (some (12, 0)))), some (.inl kd_), some (.inl k_)], [.inl 0], S0_)) rfl ?_
                refine sm_T_rz rfl (by omega) (Or.inl ⟨_, _, rfl, _, rfl, hI_, hF_, ?_⟩)
                rfl
              · have cx30_ : ¬ ((S0_.1 5 k_.toNat 0) = 0) := of_decide_eq_false cx30_
                refine sm_T_go 2 (c1 := (80, [some (.inr (.inr (some (12, 0)))), some (.inl kd_), some (.inl k_)], [.inl 1], S0_)) rfl ?_
                refine sm_T_rz rfl (by omega) (Or.inl ⟨_, _, rfl, _, rfl, hI_, hF_, ?_⟩)
                rfl
      · have cx21_ : ¬ (kd_ ≠ 0) := of_decide_eq_false cx21_
        refine sm_T_go 1 (c1 := (22, [some (.inr (.inr (some (12, 0)))), some (.inl kd_), some (.inl k_)], [.inl k_], S0_)) rfl ?_
        refine sm_T_b0 (a := 2) (z := 25) rfl (fun cx31_ => ?_) (fun cx31_ => ?_)
        · have cx31_ : k_ < 0 := of_decide_eq_true cx31_
          refine sm_T_go 1 (c1 := (48, [some (.inr (.inr (some (12, 0)))), some (.inl kd_), some (.inl k_)], [.inl 0], S0_)) rfl ?_
          refine sm_T_rz rfl (by omega) (Or.inl ⟨_, _, rfl, _, rfl, hI_, hF_, ?_⟩)
          rfl
        · have cx31_ : ¬ (k_ < 0) := of_decide_eq_false cx31_
          refine sm_T_go 2 (c1 := (28, [some (.inr (.inr (some (12, 0)))), some (.inl kd_), some (.inl k_)], [.inl 6, .inl k_], S0_)) rfl ?_
          refine sm_T_br (a := 3) (z := 19) rfl (fun cx32_ => ?_) (fun cx32_ => ?_)
          · have cx32_ : 6 ≤ k_ := of_decide_eq_true cx32_
            refine sm_T_go 1 (c1 := (48, [some (.inr (.inr (some (12, 0)))), some (.inl kd_), some (.inl k_)], [.inl 0], S0_)) rfl ?_
            refine sm_T_rz rfl (by omega) (Or.inl ⟨_, _, rfl, _, rfl, hI_, hF_, ?_⟩)
            rfl
          · have cx32_ : ¬ (6 ≤ k_) := of_decide_eq_false cx32_
            refine sm_T_go 3 (c1 := (36, [some (.inr (.inr (some (12, 0)))), some (.inl kd_), some (.inl k_)], [.inl k_, .inr (.inr (some (110, 0)))], S0_)) rfl ?_
            refine sm_T_aald (t0 := 4) (n := 6) rfl rfl (by omega) (by omega) ?_
            have bx33_ : 0 ≤ S0_.1 3 k_.toNat 0 ∧ S0_.1 3 k_.toNat 0 ≤ 1 := hI_.1 3 k_.toNat 0 rfl
            refine sm_T_go 1 (c1 := (40, [some (.inr (.inr (some (12, 0)))), some (.inl kd_), some (.inl k_)], [.inl (S0_.1 3 k_.toNat 0)], S0_)) rfl ?_
            refine sm_T_b0 (a := 0) (z := 7) rfl (fun cx34_ => ?_) (fun cx34_ => ?_)
            · have cx34_ : (S0_.1 3 k_.toNat 0) = 0 := of_decide_eq_true cx34_
              refine sm_T_go 1 (c1 := (48, [some (.inr (.inr (some (12, 0)))), some (.inl kd_), some (.inl k_)], [.inl 0], S0_)) rfl ?_
              refine sm_T_rz rfl (by omega) (Or.inl ⟨_, _, rfl, _, rfl, hI_, hF_, ?_⟩)
              rfl
            · have cx34_ : ¬ ((S0_.1 3 k_.toNat 0) = 0) := of_decide_eq_false cx34_
              refine sm_T_go 2 (c1 := (48, [some (.inr (.inr (some (12, 0)))), some (.inl kd_), some (.inl k_)], [.inl 1], S0_)) rfl ?_
              refine sm_T_rz rfl (by omega) (Or.inl ⟨_, _, rfl, _, rfl, hI_, hF_, ?_⟩)
              rfl
