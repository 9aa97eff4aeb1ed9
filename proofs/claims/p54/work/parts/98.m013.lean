/-! 99.zj2d -/
section
/-! ChipFlow.isThere -/
def vw_218 : sx_Wl := ([], [], [])
def vq_218 (kd_ : Int) (k_ : Int) (S0_ : sm_S) (u_ : Option sm_V) (S1_ : sm_S) : Prop := ∃ v_ : Int, u_ = some (.inl v_) ∧ gi S1_ ∧ ai_fr (sx_W vw_218) S0_ S1_ ∧ (S1_ = S0_)
def vx_218 (kd_ : Int) (k_ : Int) (S0_ : sm_S) (S1_ : sm_S) : Prop := gi S1_ ∧ ai_fr (sx_W vw_218) S0_ S1_ ∧ (S1_ = S0_)
set_option maxHeartbeats 400000 in
theorem vc_218 {sc_ : Nat × (Nat → Int)} (kd_ : Int) (k_ : Int) (S0_ : sm_S) (hI_ : gi S0_)  : sm_T (mt_P sc_) 1 218 (0, [some (.inr (.inr (some (12, 0)))), some (.inl kd_), some (.inl k_)], [], S0_) (fun ro9_ => (∃ u_ S1_, ro9_ = (.inl u_, S1_, 0) ∧ vq_218 kd_ k_ S0_ u_ S1_) ∨ ∃ ex_ S1_, ro9_ = (.inr ex_, S1_, 1) ∧ ex_ ∈ ([1] : List Nat) ∧ vx_218 kd_ k_ S0_ S1_) := by
  have hF_ : ai_fr (sx_W vw_218) S0_ S0_ := ai_fr_rf
  refine sm_T_go 1 (c1 := (1, [some (.inr (.inr (some (12, 0)))), some (.inl kd_), some (.inl k_)], [.inl kd_], S0_)) rfl ?_
  refine sm_T_b0 (a := 2) (z := 12) rfl (fun cx1_ => ?_) (fun cx1_ => ?_)
  · have cx1_ : kd_ < 0 := of_decide_eq_true cx1_
    refine sm_T_go 1 (c1 := (14, [some (.inr (.inr (some (12, 0)))), some (.inl kd_), some (.inl k_)], [.inl 0], S0_)) rfl ?_
    refine sm_T_cale (d1_ := 0) (Q1_ := vq_266e 0 S0_) (Q2_ := (fun ex_ S1_ => ex_ ∈ ([1] : List Nat) ∧ vx_266e 0 S0_ S1_)) rfl rfl (by decide) (vc_266e 0 S0_ hI_ ) rfl (fun xx7_ Sx2_ px5_ => ?_) (fun u_ Sx2_ px5_ => ?_)
    · obtain ⟨px5m, hIx3_, hFx4_, px5_⟩ := px5_
      refine Or.inr ⟨_, _, rfl, by first | exact px5m | (simp only [List.mem_cons, List.not_mem_nil, or_false] at px5m ⊢; omega), hIx3_, ai_fr_tr hF_ (fr_le hFx4_ rfl), ?_⟩
      first | exact px5_.2 | exact px5_ | rfl
    · exact absurd rfl px5_.2.2.2.1
  · have cx1_ : ¬ (kd_ < 0) := of_decide_eq_false cx1_
    refine sm_T_go 2 (c1 := (6, [some (.inr (.inr (some (12, 0)))), some (.inl kd_), some (.inl k_)], [.inl 2, .inl kd_], S0_)) rfl ?_
    refine sm_T_br (a := 4) (z := 7) rfl (fun cx8_ => ?_) (fun cx8_ => ?_)
    · have cx8_ : 2 < kd_ := of_decide_eq_true cx8_
      refine sm_T_go 1 (c1 := (14, [some (.inr (.inr (some (12, 0)))), some (.inl kd_), some (.inl k_)], [.inl 0], S0_)) rfl ?_
      refine sm_T_cale (d1_ := 0) (Q1_ := vq_266e 0 S0_) (Q2_ := (fun ex_ S1_ => ex_ ∈ ([1] : List Nat) ∧ vx_266e 0 S0_ S1_)) rfl rfl (by decide) (vc_266e 0 S0_ hI_ ) rfl (fun xx14_ Sx9_ px12_ => ?_) (fun u_ Sx9_ px12_ => ?_)
      · obtain ⟨px12m, hIx10_, hFx11_, px12_⟩ := px12_
        refine Or.inr ⟨_, _, rfl, by first | exact px12m | (simp only [List.mem_cons, List.not_mem_nil, or_false] at px12m ⊢; omega), hIx10_, ai_fr_tr hF_ (fr_le hFx11_ rfl), ?_⟩
        first | exact px12_.2 | exact px12_ | rfl
      · exact absurd rfl px12_.2.2.2.1
    · have cx8_ : ¬ (2 < kd_) := of_decide_eq_false cx8_
      refine sm_T_go 2 (c1 := (14, [some (.inr (.inr (some (12, 0)))), some (.inl kd_), some (.inl k_)], [.inl 1], S0_)) rfl ?_
      refine sm_T_cale (d1_ := 0) (Q1_ := vq_266e 1 S0_) (Q2_ := (fun ex_ S1_ => ex_ ∈ ([1] : List Nat) ∧ vx_266e 1 S0_ S1_)) rfl rfl (by decide) (vc_266e 1 S0_ hI_ ) rfl (fun xx20_ Sx15_ px18_ => ?_) (fun u_ Sx15_ px18_ => ?_)
      · exact absurd px18_.2.2.2.1 (by decide)
      obtain ⟨rfl, -, -, px18_, rfl⟩ := px18_
      refine sm_T_go 1 (c1 := (18, [some (.inr (.inr (some (12, 0)))), some (.inl kd_), some (.inl k_)], [.inl kd_], S0_)) rfl ?_
      refine sm_T_b0 (a := 1) (z := 31) rfl (fun cx21_ => ?_) (fun cx21_ => ?_)
      · have cx21_ : kd_ ≠ 0 := of_decide_eq_true cx21_
        refine sm_T_go 2 (c1 := (51, [some (.inr (.inr (some (12, 0)))), some (.inl kd_), some (.inl k_)], [.inl 1, .inl kd_], S0_)) rfl ?_
        refine sm_T_br (a := 1) (z := 30) rfl (fun cx22_ => ?_) (fun cx22_ => ?_)
        · have cx22_ : kd_ ≠ 1 := of_decide_eq_true cx22_
          refine sm_T_go 1 (c1 := (82, [some (.inr (.inr (some (12, 0)))), some (.inl kd_), some (.inl k_)], [.inl k_], S0_)) rfl ?_
          refine sm_T_b0 (a := 2) (z := 24) rfl (fun cx23_ => ?_) (fun cx23_ => ?_)
          · have cx23_ : k_ < 0 := of_decide_eq_true cx23_
            refine sm_T_go 1 (c1 := (107, [some (.inr (.inr (some (12, 0)))), some (.inl kd_), some (.inl k_)], [.inl 0], S0_)) rfl ?_
            refine sm_T_rz rfl (by omega) (Or.inl ⟨_, _, rfl, _, rfl, hI_, hF_, ?_⟩)
            rfl
          · have cx23_ : ¬ (k_ < 0) := of_decide_eq_false cx23_
            refine sm_T_go 2 (c1 := (87, [some (.inr (.inr (some (12, 0)))), some (.inl kd_), some (.inl k_)], [.inl 4, .inl k_], S0_)) rfl ?_
            refine sm_T_br (a := 3) (z := 19) rfl (fun cx24_ => ?_) (fun cx24_ => ?_)
            · have cx24_ : 4 ≤ k_ := of_decide_eq_true cx24_
              refine sm_T_go 1 (c1 := (107, [some (.inr (.inr (some (12, 0)))), some (.inl kd_), some (.inl k_)], [.inl 0], S0_)) rfl ?_
              refine sm_T_rz rfl (by omega) (Or.inl ⟨_, _, rfl, _, rfl, hI_, hF_, ?_⟩)
              rfl
            · have cx24_ : ¬ (4 ≤ k_) := of_decide_eq_false cx24_
              refine sm_T_go 3 (c1 := (95, [some (.inr (.inr (some (12, 0)))), some (.inl kd_), some (.inl k_)], [.inl k_, .inr (.inr (some (112, 0)))], S0_)) rfl ?_
              refine sm_T_aald (t0 := 6) (n := 4) rfl rfl (by omega) (by omega) ?_
              have bx25_ : 0 ≤ S0_.1 2 k_.toNat 0 ∧ S0_.1 2 k_.toNat 0 ≤ 1 := hI_.1 2 k_.toNat 0 rfl
              refine sm_T_go 1 (c1 := (99, [some (.inr (.inr (some (12, 0)))), some (.inl kd_), some (.inl k_)], [.inl (S0_.1 2 k_.toNat 0)], S0_)) rfl ?_
              refine sm_T_b0 (a := 0) (z := 7) rfl (fun cx26_ => ?_) (fun cx26_ => ?_)
              · have cx26_ : (S0_.1 2 k_.toNat 0) = 0 := of_decide_eq_true cx26_
                refine sm_T_go 1 (c1 := (107, [some (.inr (.inr (some (12, 0)))), some (.inl kd_), some (.inl k_)], [.inl 0], S0_)) rfl ?_
                refine sm_T_rz rfl (by omega) (Or.inl ⟨_, _, rfl, _, rfl, hI_, hF_, ?_⟩)
                rfl
              · have cx26_ : ¬ ((S0_.1 2 k_.toNat 0) = 0) := of_decide_eq_false cx26_
                refine sm_T_go 2 (c1 := (107, [some (.inr (.inr (some (12, 0)))), some (.inl kd_), some (.inl k_)], [.inl 1], S0_)) rfl ?_
                refine sm_T_rz rfl (by omega) (Or.inl ⟨_, _, rfl, _, rfl, hI_, hF_, ?_⟩)
                rfl
        · have cx22_ : ¬ (kd_ ≠ 1) := of_decide_eq_false cx22_
          refine sm_T_go 1 (c1 := (55, [some (.inr (.inr (some (12, 0)))), some (.inl kd_), some (.inl k_)], [.inl k_], S0_)) rfl ?_
          refine sm_T_b0 (a := 2) (z := 24) rfl (fun cx27_ => ?_) (fun cx27_ => ?_)
          · have cx27_ : k_ < 0 := of_decide_eq_true cx27_
            refine sm_T_go 1 (c1 := (80, [some (.inr (.inr (some (12, 0)))), some (.inl kd_), some (.inl k_)], [.inl 0], S0_)) rfl ?_
            refine sm_T_rz rfl (by omega) (Or.inl ⟨_, _, rfl, _, rfl, hI_, hF_, ?_⟩)
            rfl
          · have cx27_ : ¬ (k_ < 0) := of_decide_eq_false cx27_
            refine sm_T_go 2 (c1 := (60, [some (.inr (.inr (some (12, 0)))), some (.inl kd_), some (.inl k_)], [.inl 3, .inl k_], S0_)) rfl ?_
            refine sm_T_br (a := 3) (z := 19) rfl (fun cx28_ => ?_) (fun cx28_ => ?_)
            · have cx28_ : 3 ≤ k_ := of_decide_eq_true cx28_
              refine sm_T_go 1 (c1 := (80, [some (.inr (.inr (some (12, 0)))), some (.inl kd_), some (.inl k_)], [.inl 0], S0_)) rfl ?_
              refine sm_T_rz rfl (by omega) (Or.inl ⟨_, _, rfl, _, rfl, hI_, hF_, ?_⟩)
              rfl
            · have cx28_ : ¬ (3 ≤ k_) := of_decide_eq_false cx28_
              refine sm_T_go 3 (c1 := (68, [some (.inr (.inr (some (12, 0)))), some (.inl kd_), some (.inl k_)], [.inl k_, .inr (.inr (some (111, 0)))], S0_)) rfl ?_
              refine sm_T_aald (t0 := 5) (n := 3) rfl rfl (by omega) (by omega) ?_
              have bx29_ : 0 ≤ S0_.1 5 k_.toNat 0 ∧ S0_.1 5 k_.toNat 0 ≤ 1 := hI_.1 5 k_.toNat 0 rfl
              refine sm_T_go 1 (c1 := (72, [some (.inr (.inr (some (12, 0)))), some (.inl kd_), some (.inl k_)], [.inl (S0_.1 5 k_.toNat 0)], S0_)) rfl ?_
              refine sm_T_b0 (a := 0) (z := 7) rfl (fun cx30_ => ?_) (fun cx30_ => ?_)
              · have cx30_ : (S0_.1 5 k_.toNat 0) = 0 := of_decide_eq_true cx30_
                refine sm_T_go 1 (c1 := (80, [some (.inr (.inr (some (12, 0)))), some (.inl kd_), some (.inl k_)], [.inl 0], S0_)) rfl ?_
                refine sm_T_rz rfl (by omega) (Or.inl ⟨_, _, rfl, _, rfl, hI_, hF_, ?_⟩)
                rfl
              · have cx30_ : ¬ ((S0_.1 5 k_.toNat 0) = 0) := of_decide_eq_false cx30_
                refine sm_T_go 2 (c1 := (80, [some (.inr (.inr (some (12, 0)))), some (.inl kd_), some (.inl k_)], [.inl 1], S0_)) rfl ?_
                refine sm_T_rz rfl (by omega) (Or.inl ⟨_, _, rfl, _, rfl, hI_, hF_, ?_⟩)
                rfl
      · have cx21_ : ¬ (kd_ ≠ 0) := of_decide_eq_false cx21_
        refine sm_T_go 1 (c1 := (22, [some (.inr (.inr (some (12, 0)))), some (.inl kd_), some (.inl k_)], [.inl k_], S0_)) rfl ?_
        refine sm_T_b0 (a := 2) (z := 25) rfl (fun cx31_ => ?_) (fun cx31_ => ?_)
        · have cx31_ : k_ < 0 := of_decide_eq_true cx31_
          refine sm_T_go 1 (c1 := (48, [some (.inr (.inr (some (12, 0)))), some (.inl kd_), some (.inl k_)], [.inl 0], S0_)) rfl ?_
          refine sm_T_rz rfl (by omega) (Or.inl ⟨_, _, rfl, _, rfl, hI_, hF_, ?_⟩)
          rfl
        · have cx31_ : ¬ (k_ < 0) := of_decide_eq_false cx31_
          refine sm_T_go 2 (c1 := (28, [some (.inr (.inr (some (12, 0)))), some (.inl kd_), some (.inl k_)], [.inl 6, .inl k_], S0_)) rfl ?_
          refine sm_T_br (a := 3) (z := 19) rfl (fun cx32_ => ?_) (fun cx32_ => ?_)
          · have cx32_ : 6 ≤ k_ := of_decide_eq_true cx32_
            refine sm_T_go 1 (c1 := (48, [some (.inr (.inr (some (12, 0)))), some (.inl kd_), some (.inl k_)], [.inl 0], S0_)) rfl ?_
            refine sm_T_rz rfl (by omega) (Or.inl ⟨_, _, rfl, _, rfl, hI_, hF_, ?_⟩)
            rfl
          · have cx32_ : ¬ (6 ≤ k_) := of_decide_eq_false cx32_
            refine sm_T_go 3 (c1 := (36, [some (.inr (.inr (some (12, 0)))), some (.inl kd_), some (.inl k_)], [.inl k_, .inr (.inr (some (110, 0)))], S0_)) rfl ?_
            refine sm_T_aald (t0 := 4) (n := 6) rfl rfl (by omega) (by omega) ?_
            have bx33_ : 0 ≤ S0_.1 3 k_.toNat 0 ∧ S0_.1 3 k_.toNat 0 ≤ 1 := hI_.1 3 k_.toNat 0 rfl
            refine sm_T_go 1 (c1 := (40, [some (.inr (.inr (some (12, 0)))), some (.inl kd_), some (.inl k_)], [.inl (S0_.1 3 k_.toNat 0)], S0_)) rfl ?_
            refine sm_T_b0 (a := 0) (z := 7) rfl (fun cx34_ => ?_) (fun cx34_ => ?_)
            · have cx34_ : (S0_.1 3 k_.toNat 0) = 0 := of_decide_eq_true cx34_
              refine sm_T_go 1 (c1 := (48, [some (.inr (.inr (some (12, 0)))), some (.inl kd_), some (.inl k_)], [.inl 0], S0_)) rfl ?_
              refine sm_T_rz rfl (by omega) (Or.inl ⟨_, _, rfl, _, rfl, hI_, hF_, ?_⟩)
              rfl
            · have cx34_ : ¬ ((S0_.1 3 k_.toNat 0) = 0) := of_decide_eq_false cx34_
              refine sm_T_go 2 (c1 := (48, [some (.inr (.inr (some (12, 0)))), some (.inl kd_), some (.inl k_)], [.inl 1], S0_)) rfl ?_
              refine sm_T_rz rfl (by omega) (Or.inl ⟨_, _, rfl, _, rfl, hI_, hF_, ?_⟩)
              rfl
end
/-! 99.zj2e -/
section
/-! ChipFlow.witness -/
def vw_229 : sx_Wl := ([], [], [])
def vq_229 (k_ : Int) (S0_ : sm_S) (u_ : Option sm_V) (S1_ : sm_S) : Prop := ∃ v_ : Int, u_ = some (.inl v_) ∧ gi S1_ ∧ ai_fr (sx_W vw_229) S0_ S1_ ∧ (True)
def vx_229 (k_ : Int) (S0_ : sm_S) (S1_ : sm_S) : Prop := gi S1_ ∧ ai_fr (sx_W vw_229) S0_ S1_ ∧ (S1_ = S0_)
set_option maxHeartbeats 400000 in
theorem vc_229 {sc_ : Nat × (Nat → Int)} (k_ : Int) (S0_ : sm_S) (hI_ : gi S0_)  : sm_T (mt_P sc_) 1 229 (0, [some (.inr (.inr (some (12, 0)))), some (.inl k_)], [], S0_) (fun ro9_ => (∃ u_ S1_, ro9_ = (.inl u_, S1_, 0) ∧ vq_229 k_ S0_ u_ S1_) ∨ ∃ ex_ S1_, ro9_ = (.inr ex_, S1_, 1) ∧ ex_ ∈ ([0] : List Nat) ∧ vx_229 k_ S0_ S1_) := by
  have hF_ : ai_fr (sx_W vw_229) S0_ S0_ := ai_fr_rf
  refine sm_T_go 1 (c1 := (1, [some (.inr (.inr (some (12, 0)))), some (.inl k_)], [.inl k_], S0_)) rfl ?_
  refine sm_T_b0 (a := 2) (z := 15) rfl (fun cx1_ => ?_) (fun cx1_ => ?_)
  · have cx1_ : k_ < 0 := of_decide_eq_true cx1_
    refine sm_T_go 1 (c1 := (17, [some (.inr (.inr (some (12, 0)))), some (.inl k_)], [.inl 0], S0_)) rfl ?_
    refine sm_T_cale (d1_ := 0) (Q1_ := vq_265e 0 S0_) (Q2_ := (fun ex_ S1_ => ex_ ∈ ([0] : List Nat) ∧ vx_265e 0 S0_ S1_)) rfl rfl (by decide) (vc_265e 0 S0_ hI_ ) rfl (fun xx7_ Sx2_ px5_ => ?_) (fun u_ Sx2_ px5_ => ?_)
    · obtain ⟨px5m, hIx3_, hFx4_, px5_⟩ := px5_
      refine Or.inr ⟨_, _, rfl, by first | exact px5m | (simp only [List.mem_cons, List.not_mem_nil, or_false] at px5m ⊢; omega), hIx3_, ai_fr_tr hF_ (fr_le hFx4_ rfl), ?_⟩
      first | exact px5_.2 | exact px5_ | rfl
    · exact absurd rfl px5_.2.2.2.1
  · have cx1_ : ¬ (k_ < 0) := of_decide_eq_false cx1_
    have bx8_ : 0 ≤ S0_.1 12 0 16 ∧ S0_.1 12 0 16 ≤ 4096 := hI_.1 12 0 16 rfl
    refine sm_T_go 3 (c1 := (9, [some (.inr (.inr (some (12, 0)))), some (.inl k_)], [.inl (S0_.1 12 0 16), .inl k_], S0_)) rfl ?_
    refine sm_T_br (a := 3) (z := 7) rfl (fun cx9_ => ?_) (fun cx9_ => ?_)
    · have cx9_ : (S0_.1 12 0 16) ≤ k_ := of_decide_eq_true cx9_
      refine sm_T_go 1 (c1 := (17, [some (.inr (.inr (some (12, 0)))), some (.inl k_)], [.inl 0], S0_)) rfl ?_
      refine sm_T_cale (d1_ := 0) (Q1_ := vq_265e 0 S0_) (Q2_ := (fun ex_ S1_ => ex_ ∈ ([0] : List Nat) ∧ vx_265e 0 S0_ S1_)) rfl rfl (by decide) (vc_265e 0 S0_ hI_ ) rfl (fun xx15_ Sx10_ px13_ => ?_) (fun u_ Sx10_ px13_ => ?_)
      · obtain ⟨px13m, hIx11_, hFx12_, px13_⟩ := px13_
        refine Or.inr ⟨_, _, rfl, by first | exact px13m | (simp only [List.mem_cons, List.not_mem_nil, or_false] at px13m ⊢; omega), hIx11_, ai_fr_tr hF_ (fr_le hFx12_ rfl), ?_⟩
        first | exact px13_.2 | exact px13_ | rfl
      · exact absurd rfl px13_.2.2.2.1
    · have cx9_ : ¬ ((S0_.1 12 0 16) ≤ k_) := of_decide_eq_false cx9_
      refine sm_T_go 2 (c1 := (17, [some (.inr (.inr (some (12, 0)))), some (.inl k_)], [.inl 1], S0_)) rfl ?_
      refine sm_T_cale (d1_ := 0) (Q1_ := vq_265e 1 S0_) (Q2_ := (fun ex_ S1_ => ex_ ∈ ([0] : List Nat) ∧ vx_265e 1 S0_ S1_)) rfl rfl (by decide) (vc_265e 1 S0_ hI_ ) rfl (fun xx21_ Sx16_ px19_ => ?_) (fun u_ Sx16_ px19_ => ?_)
      · exact absurd px19_.2.2.2.1 (by decide)
      obtain ⟨rfl, -, -, px19_, rfl⟩ := px19_
      refine sm_T_go 3 (c1 := (25, [some (.inr (.inr (some (12, 0)))), some (.inl k_)], [.inl k_, .inr (.inr (some (117, 0)))], S0_)) rfl ?_
      refine sm_T_iald (n := 4096) rfl rfl (by omega) (by omega) ?_
      have bx22_ : 0 ≤ S0_.2.2.1 117 0 k_.toNat ∧ S0_.2.2.1 117 0 k_.toNat ≤ 4095 := hI_.2 117 0 _
      refine sm_T_ri rfl (Or.inl ⟨_, _, rfl, _, rfl, hI_, hF_, ?_⟩)
      trivial
end
/-! 99.zj3a -/
section
/-! the face of the class: designs; written by wip/p55/gen/vg -/

/-! designs and the_ calls that ask_ for_ them -/
theorem dOk_b {i_ : Nat} {S_ : sm_S} (h_ : dOk i_ S_) : (0 ≤ S_.1 3 i_ 1 ∧ 0 ≤ S_.1 3 i_ 2 ∧ S_.1 3 i_ 1 + S_.1 3 i_ 2 ≤ 12) ∧ (1 ≤ S_.1 3 i_ 3 ∧ S_.1 3 i_ 3 ≤ 16 ∧ S_.1 3 i_ 2 ≤ 6) ∧ (0 ≤ S_.1 3 i_ 5 ∧ S_.1 3 i_ 5 < 2 ^ (S_.1 3 i_ 2).toNat) ∧ (0 ≤ S_.1 3 i_ 6 ∧ S_.1 3 i_ 6 < 2 ^ (S_.1 3 i_ 2).toNat) ∧ dtb i_ S_ := by
  obtain ⟨F_, h1_, h2_, h3_, h4_, h5_, h6_⟩ := h_
  have a_ := h1_.1
  have b_ := h2_.1
  exact ⟨by omega, by omega, h5_, h6_, h4_⟩
theorem dOk_fr {w_ : sx_Wl} {i_ : Nat} {S_ S'_ : sm_S} (h_ : dOk i_ S_) (g_ : ai_fr (sx_W w_) S_ S'_) (h1_ : ∀ k_, k_ < 7 → (0 < k_) → (sx_W w_).1 3 k_ = false) (h2_ : ∀ t_, t_ < 48 → 42 ≤ t_ → (sx_W w_).2.1 t_ = false) : dOk i_ S'_ := by
  obtain ⟨F_, a1_, a2_, a3_, a4_, a5_, a6_⟩ := h_
  refine ⟨F_, dgr_fr a1_ g_ (h1_ _ (by decide) (by decide)) (h1_ _ (by decide) (by decide)) (h1_ _ (by decide) (by decide)) (h2_ _ (by decide) (by decide)) (h2_ _ (by decide) (by decide)), drt_fr a2_ g_ (h1_ _ (by decide) (by decide)) (h1_ _ (by decide) (by decide)) (h1_ _ (by decide) (by decide)) (h2_ _ (by decide) (by decide)) (h2_ _ (by decide) (by decide)), swp_fr a3_ g_ (h1_ _ (by decide) (by decide)) (h2_ _ (by decide) (by decide)) (h2_ _ (by decide) (by decide)) (h2_ _ (by decide) (by decide)), dtb_fr a4_ g_ (h1_ _ (by decide) (by decide)) (h2_ _ (by decide) (by decide)), ?_⟩
  rw [g_.1 3 i_ 5 (h1_ _ (by decide) (by decide)), g_.1 3 i_ 6 (h1_ _ (by decide) (by decide)), g_.1 3 i_ 2 (h1_ _ (by decide) (by decide))]
  exact ⟨a5_, a6_⟩
theorem dAll_fr {w_ : sx_Wl} {S_ S'_ : sm_S} (h_ : dAll S_) (g_ : ai_fr (sx_W w_) S_ S'_) (h1_ : ∀ k_, k_ < 7 → (sx_W w_).1 3 k_ = false) (h2_ : ∀ t_, t_ < 48 → 42 ≤ t_ → (sx_W w_).2.1 t_ = false) : dAll S'_ := by
  intro j_ hj_ q_
  rw [g_.1 3 j_ 0 (h1_ _ (by decide))] at q_
  exact dOk_fr (h_ j_ hj_ q_) g_ (fun k_ hk_ _ => h1_ k_ hk_) h2_
/-- a_ design's state changes -/
theorem dAll_st {i_ : Nat} {S_ : sm_S} {v_ : Int} (h_ : dAll S_) (hv_ : 0 ≤ v_ ∧ v_ < 2 ^ (S_.1 3 i_ 2).toNat) : dAll (sm_pI S_ 3 i_ 6 v_) := by
  intro j_ hj_ q_
  rw [rf_nk (by decide)] at q_
  obtain ⟨F_, h1_, h2_, h3_, h4_, h5_, h6_⟩ := h_ j_ hj_ q_
  have fx : ai_fr (sx_W ([(3, 6)], [], [])) S_ (sm_pI S_ 3 i_ 6 v_) := ai_fr_pI rfl
  refine ⟨F_, dgr_fr h1_ fx rfl rfl rfl rfl rfl, drt_fr h2_ fx rfl rfl rfl rfl rfl, swp_fr h3_ fx rfl rfl rfl rfl, dtb_fr h4_ fx rfl rfl, ?_, ?_⟩
  · rw [fx.1 3 j_ 5 rfl, fx.1 3 j_ 2 rfl]; exact h5_
  · rw [fx.1 3 j_ 2 rfl, rd_ff]
    by_cases z_ : j_ = i_
    · rw [z_, if_pos ⟨rfl, rfl, rfl⟩]; exact hv_
    · rw [if_neg (fun q_ => z_ q_.2.1)]; exact h6_
theorem dAll_dr {i_ : Nat} {S_ : sm_S} (h_ : dAll S_) : dAll (sm_pI S_ 3 i_ 0 0) := by
  intro j_ hj_ q_
  have fx : ai_fr (sx_W ([(3, 0)], [], [])) S_ (sm_pI S_ 3 i_ 0 0) := ai_fr_pI rfl
  by_cases z_ : j_ = i_
  · rw [z_, rf_eq] at q_
    exact absurd q_ (by decide)
  · rw [rd_ff, if_neg (fun q_ => z_ q_.2.1)] at q_
    exact dOk_fr (h_ j_ hj_ q_) fx (by decide) (by decide)
theorem i_or_c {x_ y_ : Int} : i_or x_ y_ = i_or y_ x_ := by
  unfold i_or
  rw [Int32.or_comm]
/-! ChipFlow.graph -/
def vw_219 : sx_Wl := ([], [], [])
def vq_219 (kk_ : Int) (wh_ : Int) (S0_ : sm_S) (u_ : Option sm_V) (S1_ : sm_S) : Prop := ∃ v_ : Int, u_ = some (.inl v_) ∧ gi S1_ ∧ ai_fr (sx_W vw_219) S0_ S1_ ∧ (True)
def vx_219 (kk_ : Int) (wh_ : Int) (S0_ : sm_S) (S1_ : sm_S) : Prop := gi S1_ ∧ ai_fr (sx_W vw_219) S0_ S1_ ∧ (S1_ = S0_)
set_option maxHeartbeats 400000 in
theorem vc_219 {sc_ : Nat × (Nat → Int)} (kk_ : Int) (wh_ : Int) (S0_ : sm_S) (hI_ : gi S0_) (hJ_ : dAll S0_) : sm_T (mt_P sc_) 2 219 (0, [some (.inr (.inr (some (12, 0)))), some (.inl kk_), some (.inl wh_), none], [], S0_) (fun ro9_ => (∃ u_ S1_, ro9_ = (.inl u_, S1_, 0) ∧ vq_219 kk_ wh_ S0_ u_ S1_) ∨ ∃ ex_ S1_, ro9_ = (.inr ex_, S1_, 1) ∧ ex_ ∈ ([0, 1] : List Nat) ∧ vx_219 kk_ wh_ S0_ S1_) := by
  have hF_ : ai_fr (sx_W vw_219) S0_ S0_ := ai_fr_rf
  refine sm_T_go 2 (c1 := (2, [some (.inr (.inr (some (12, 0)))), some (.inl kk_), some (.inl wh_), none], [.inl kk_, .inr (.inr (some (12, 0)))], S0_)) rfl ?_
  refine sm_T_cale (d1_ := 1) (Q1_ := vq_270 kk_ S0_) (Q2_ := (fun ex_ S1_ => ex_ ∈ ([0] : List Nat) ∧ vx_270 kk_ S0_ S1_)) rfl rfl (by decide) (vc_270 kk_ S0_ hI_ ) rfl (fun xx6_ Sx1_ px4_ => ?_) (fun u_ Sx1_ px4_ => ?_)
  · obtain ⟨px4m, hIx2_, hFx3_, px4_⟩ := px4_
    refine Or.inr ⟨_, _, rfl, by first | exact px4m | (simp only [List.mem_cons, List.not_mem_nil, or_false] at px4m ⊢; omega), hIx2_, ai_fr_tr hF_ (fr_le hFx3_ rfl), ?_⟩
    first | exact px4_.2 | exact px4_ | rfl
  obtain ⟨rfl, -, -, rfl, px4_⟩ := px4_
  have a9_ := px4_
  have J9_ := dOk_b (hJ_ kk_.toNat (by omega) a9_.2)
  have J9a := J9_.1
  have J9b := J9_.2.1
  refine sm_T_go 2 (c1 := (7, [some (.inr (.inr (some (12, 0)))), some (.inl kk_), some (.inl wh_), some (.inr (.inr (some (3, kk_.toNat))))], [.inl wh_], S0_)) rfl ?_
  refine sm_T_b0 (a := 2) (z := 13) rfl (fun cx7_ => ?_) (fun cx7_ => ?_)
  · have cx7_ : wh_ < 0 := of_decide_eq_true cx7_
    refine sm_T_go 1 (c1 := (21, [some (.inr (.inr (some (12, 0)))), some (.inl kk_), some (.inl wh_), some (.inr (.inr (some (3, kk_.toNat))))], [.inl 0], S0_)) rfl ?_
    refine sm_T_cale (d1_ := 0) (Q1_ := vq_266e 0 S0_) (Q2_ := (fun ex_ S1_ => ex_ ∈ ([1] : List Nat) ∧ vx_266e 0 S0_ S1_)) rfl rfl (by decide) (vc_266e 0 S0_ hI_ ) rfl (fun xx13_ Sx8_ px11_ => ?_) (fun u_ Sx8_ px11_ => ?_)
    · obtain ⟨px11m, hIx9_, hFx10_, px11_⟩ := px11_
      refine Or.inr ⟨_, _, rfl, by first | exact px11m | (simp only [List.mem_cons, List.not_mem_nil, or_false] at px11m ⊢; omega), hIx9_, ai_fr_tr hF_ (fr_le hFx10_ rfl), ?_⟩
      first | exact px11_.2 | exact px11_ | rfl
    · exact absurd rfl px11_.2.2.2.1
  · have cx7_ : ¬ (wh_ < 0) := of_decide_eq_false cx7_
    refine sm_T_go 2 (c1 := (13, [some (.inr (.inr (some (12, 0)))), some (.inl kk_), some (.inl wh_), some (.inr (.inr (some (3, kk_.toNat))))], [.inl 7, .inl wh_], S0_)) rfl ?_
    refine sm_T_br (a := 4) (z := 7) rfl (fun cx14_ => ?_) (fun cx14_ => ?_)
    · have cx14_ : 7 < wh_ := of_decide_eq_true cx14_
      refine sm_T_go 1 (c1 := (21, [some (.inr (.inr (some (12, 0)))), some (.inl kk_), some (.inl wh_), some (.inr (.inr (some (3, kk_.toNat))))], [.inl 0], S0_)) rfl ?_
      refine sm_T_cale (d1_ := 0) (Q1_ := vq_266e 0 S0_) (Q2_ := (fun ex_ S1_ => ex_ ∈ ([1] : List Nat) ∧ vx_266e 0 S0_ S1_)) rfl rfl (by decide) (vc_266e 0 S0_ hI_ ) rfl (fun xx20_ Sx15_ px18_ => ?_) (fun u_ Sx15_ px18_ => ?_)
      · obtain ⟨px18m, hIx16_, hFx17_, px18_⟩ := px18_
        refine Or.inr ⟨_, _, rfl, by first | exact px18m | (simp only [List.mem_cons, List.not_mem_nil, or_false] at px18m ⊢; omega), hIx16_, ai_fr_tr hF_ (fr_le hFx17_ rfl), ?_⟩
        first | exact px18_.2 | exact px18_ | rfl
      · exact absurd rfl px18_.2.2.2.1
    · have cx14_ : ¬ (7 < wh_) := of_decide_eq_false cx14_
      refine sm_T_go 2 (c1 := (21, [some (.inr (.inr (some (12, 0)))), some (.inl kk_), some (.inl wh_), some (.inr (.inr (some (3, kk_.toNat))))], [.inl 1], S0_)) rfl ?_
      refine sm_T_cale (d1_ := 0) (Q1_ := vq_266e 1 S0_) (Q2_ := (fun ex_ S1_ => ex_ ∈ ([1] : List Nat) ∧ vx_266e 1 S0_ S1_)) rfl rfl (by decide) (vc_266e 1 S0_ hI_ ) rfl (fun xx26_ Sx21_ px24_ => ?_) (fun u_ Sx21_ px24_ => ?_)
      · exact absurd px24_.2.2.2.1 (by decide)
      obtain ⟨rfl, -, -, px24_, rfl⟩ := px24_
      refine sm_T_go 1 (c1 := (25, [some (.inr (.inr (some (12, 0)))), some (.inl kk_), some (.inl wh_), some (.inr (.inr (some (3, kk_.toNat))))], [.inl wh_], S0_)) rfl ?_
      by_cases cx27_ : wh_ = 0
      · refine sm_T_sw (t := 68) rfl rfl (by rw [cx27_]; rfl) ?_
        have bx28_ : 0 ≤ S0_.1 3 kk_.toNat 1 ∧ S0_.1 3 kk_.toNat 1 ≤ 320 := hI_.1 3 kk_.toNat 1 rfl
        refine sm_T_go 2 (c1 := (72, [some (.inr (.inr (some (12, 0)))), some (.inl kk_), some (.inl wh_), some (.inr (.inr (some (3, kk_.toNat))))], [.inl (S0_.1 3 kk_.toNat 1)], S0_)) rfl ?_
        refine sm_T_ri rfl (Or.inl ⟨_, _, rfl, _, rfl, hI_, hF_, ?_⟩)
        trivial
      by_cases cx29_ : wh_ = 1
      · refine sm_T_sw (t := 73) rfl rfl (by rw [cx29_]; rfl) ?_
        have bx30_ : 0 ≤ S0_.1 3 kk_.toNat 2 ∧ S0_.1 3 kk_.toNat 2 ≤ 100000 := hI_.1 3 kk_.toNat 2 rfl
        refine sm_T_go 2 (c1 := (77, [some (.inr (.inr (some (12, 0)))), some (.inl kk_), some (.inl wh_), some (.inr (.inr (some (3, kk_.toNat))))], [.inl (S0_.1 3 kk_.toNat 2)], S0_)) rfl ?_
        refine sm_T_ri rfl (Or.inl ⟨_, _, rfl, _, rfl, hI_, hF_, ?_⟩)
        trivial
      by_cases cx31_ : wh_ = 2
      · refine sm_T_sw (t := 78) rfl rfl (by rw [cx31_]; rfl) ?_
        have bx32_ : 0 ≤ S0_.1 3 kk_.toNat 3 ∧ S0_.1 3 kk_.toNat 3 ≤ 320 := hI_.1 3 kk_.toNat 3 rfl
        refine sm_T_go 2 (c1 := (82, [some (.inr (.inr (some (12, 0)))), some (.inl kk_), some (.inl wh_), some (.inr (.inr (some (3, kk_.toNat))))], [.inl (S0_.1 3 kk_.toNat 3)], S0_)) rfl ?_
        refine sm_T_ri rfl (Or.inl ⟨_, _, rfl, _, rfl, hI_, hF_, ?_⟩)
        trivial
      by_cases cx33_ : wh_ = 3
      · refine sm_T_sw (t := 83) rfl rfl (by rw [cx33_]; rfl) ?_
        have bx34_ : 0 ≤ S0_.1 3 kk_.toNat 4 ∧ S0_.1 3 kk_.toNat 4 ≤ 1013 := hI_.1 3 kk_.toNat 4 rfl
        refine sm_T_go 3 (c1 := (88, [some (.inr (.inr (some (12, 0)))), some (.inl kk_), some (.inl wh_), some (.inr (.inr (some (3, kk_.toNat))))], [.inr (.inr (some (3, kk_.toNat))), .inl (S0_.1 3 kk_.toNat 4)], S0_)) rfl ?_
        refine sm_T_cal (d1 := 0) (Q1 := vq_63 kk_.toNat S0_) rfl rfl (by decide) (vc_63 kk_.toNat S0_ hI_ (by omega)) (fun u_ Sx35_ px38_ => ?_)
        obtain ⟨rfl, vx40_, rfl, px38_⟩ := px38_
        have f88_ := px38_
        refine sm_T_bin (w := (S0_.1 3 kk_.toNat 4) - vx40_) rfl (bi_sub (by omega) (by omega) (by omega)) ?_
        refine sm_T_ri rfl (Or.inl ⟨_, _, rfl, _, rfl, hI_, hF_, ?_⟩)
        trivial
      by_cases cx41_ : wh_ = 4
      · refine sm_T_sw (t := 93) rfl rfl (by rw [cx41_]; rfl) ?_
        have bx42_ : 0 ≤ S0_.1 3 kk_.toNat 7 ∧ S0_.1 3 kk_.toNat 7 ≤ 1000 := hI_.1 3 kk_.toNat 7 rfl
        refine sm_T_go 2 (c1 := (97, [some (.inr (.inr (some (12, 0)))), some (.inl kk_), some (.inl wh_), some (.inr (.inr (some (3, kk_.toNat))))], [.inl (S0_.1 3 kk_.toNat 7)], S0_)) rfl ?_
        refine sm_T_ri rfl (Or.inl ⟨_, _, rfl, _, rfl, hI_, hF_, ?_⟩)
        trivial
      by_cases cx43_ : wh_ = 5
      · refine sm_T_sw (t := 98) rfl rfl (by rw [cx43_]; rfl) ?_
        have bx44_ : 0 ≤ S0_.1 3 kk_.toNat 8 ∧ S0_.1 3 kk_.toNat 8 ≤ 1000 := hI_.1 3 kk_.toNat 8 rfl
        refine sm_T_go 2 (c1 := (102, [some (.inr (.inr (some (12, 0)))), some (.inl kk_), some (.inl wh_), some (.inr (.inr (some (3, kk_.toNat))))], [.inl (S0_.1 3 kk_.toNat 8)], S0_)) rfl ?_
        refine sm_T_ri rfl (Or.inl ⟨_, _, rfl, _, rfl, hI_, hF_, ?_⟩)
        trivial
      by_cases cx45_ : wh_ = 6
      · refine sm_T_sw (t := 103) rfl rfl (by rw [cx45_]; rfl) ?_
        have bx46_ : 0 ≤ S0_.1 3 kk_.toNat 9 ∧ S0_.1 3 kk_.toNat 9 ≤ 64 := hI_.1 3 kk_.toNat 9 rfl
        refine sm_T_go 2 (c1 := (107, [some (.inr (.inr (some (12, 0)))), some (.inl kk_), some (.inl wh_), some (.inr (.inr (some (3, kk_.toNat))))], [.inl (S0_.1 3 kk_.toNat 9)], S0_)) rfl ?_
        refine sm_T_ri rfl (Or.inl ⟨_, _, rfl, _, rfl, hI_, hF_, ?_⟩)
        trivial
      refine sm_T_sw (t := 108) rfl rfl (by (have hh_ : wh_ < 0 ∨ 7 ≤ wh_ := by omega); rcases hh_ with hh_ | hh_; (exact sm_swd (Or.inl hh_)); (exact sm_swd (Or.inr (by simp only [List.length_cons, List.length_nil]; omega)))) ?_
      have bx47_ : 0 ≤ S0_.1 3 kk_.toNat 5 ∧ S0_.1 3 kk_.toNat 5 ≤ 63 := hI_.1 3 kk_.toNat 5 rfl
      refine sm_T_go 2 (c1 := (112, [some (.inr (.inr (some (12, 0)))), some (.inl kk_), some (.inl wh_), some (.inr (.inr (some (3, kk_.toNat))))], [.inl (S0_.1 3 kk_.toNat 5)], S0_)) rfl ?_
      refine sm_T_ri rfl (Or.inl ⟨_, _, rfl, _, rfl, hI_, hF_, ?_⟩)
      trivial
end
/-! 99.zj3b -/
section
/-! ChipFlow.literal -/
def vw_220 : sx_Wl := ([], [], [])
def vq_220 (kk_ : Int) (nd_ : Int) (sd_ : Int) (S0_ : sm_S) (u_ : Option sm_V) (S1_ : sm_S) : Prop := ∃ v_ : Int, u_ = some (.inl v_) ∧ gi S1_ ∧ ai_fr (sx_W vw_220) S0_ S1_ ∧ (True)
def vx_220 (kk_ : Int) (nd_ : Int) (sd_ : Int) (S0_ : sm_S) (S1_ : sm_S) : Prop := gi S1_ ∧ ai_fr (sx_W vw_220) S0_ S1_ ∧ (S1_ = S0_)
set_option maxHeartbeats 400000 in
theorem vc_220 {sc_ : Nat × (Nat → Int)} (kk_ : Int) (nd_ : Int) (sd_ : Int) (S0_ : sm_S) (hI_ : gi S0_) (hJ_ : dAll S0_) : sm_T (mt_P sc_) 2 220 (0, [some (.inr (.inr (some (12, 0)))), some (.inl kk_), some (.inl nd_), some (.inl sd_), none], [], S0_) (fun ro9_ => (∃ u_ S1_, ro9_ = (.inl u_, S1_, 0) ∧ vq_220 kk_ nd_ sd_ S0_ u_ S1_) ∨ ∃ ex_ S1_, ro9_ = (.inr ex_, S1_, 1) ∧ ex_ ∈ ([0] : List Nat) ∧ vx_220 kk_ nd_ sd_ S0_ S1_) := by
  have hF_ : ai_fr (sx_W vw_220) S0_ S0_ := ai_fr_rf
  refine sm_T_go 2 (c1 := (2, [some (.inr (.inr (some (12, 0)))), some (.inl kk_), some (.inl nd_), some (.inl sd_), none], [.inl kk_, .inr (.inr (some (12, 0)))], S0_)) rfl ?_
  refine sm_T_cale (d1_ := 1) (Q1_ := vq_270 kk_ S0_) (Q2_ := (fun ex_ S1_ => ex_ ∈ ([0] : List Nat) ∧ vx_270 kk_ S0_ S1_)) rfl rfl (by decide) (vc_270 kk_ S0_ hI_ ) rfl (fun xx6_ Sx1_ px4_ => ?_) (fun u_ Sx1_ px4_ => ?_)
  · obtain ⟨px4m, hIx2_, hFx3_, px4_⟩ := px4_
    refine Or.inr ⟨_, _, rfl, by first | exact px4m | (simp only [List.mem_cons, List.not_mem_nil, or_false] at px4m ⊢; omega), hIx2_, ai_fr_tr hF_ (fr_le hFx3_ rfl), ?_⟩
    first | exact px4_.2 | exact px4_ | rfl
  obtain ⟨rfl, -, -, rfl, px4_⟩ := px4_
  have a9_ := px4_
  have J9_ := dOk_b (hJ_ kk_.toNat (by omega) a9_.2)
  have J9a := J9_.1
  have J9b := J9_.2.1
  refine sm_T_go 3 (c1 := (10, [some (.inr (.inr (some (12, 0)))), some (.inl kk_), some (.inl nd_), some (.inl sd_), some (.inr (.inr (some (3, kk_.toNat))))], [.inr (.inr (some (3, kk_.toNat))), .inl nd_], S0_)) rfl ?_
  refine sm_T_cal (d1 := 0) (Q1 := vq_63 kk_.toNat S0_) rfl rfl (by decide) (vc_63 kk_.toNat S0_ hI_ (by omega)) (fun u_ Sx7_ px10_ => ?_)
  obtain ⟨rfl, vx12_, rfl, px10_⟩ := px10_
  have f10_ := px10_
  refine sm_T_br (a := 2) (z := 16) rfl (fun cx13_ => ?_) (fun cx13_ => ?_)
  · have cx13_ : nd_ < vx12_ := of_decide_eq_true cx13_
    refine sm_T_go 1 (c1 := (30, [some (.inr (.inr (some (12, 0)))), some (.inl kk_), some (.inl nd_), some (.inl sd_), some (.inr (.inr (some (3, kk_.toNat))))], [.inl 0], S0_)) rfl ?_
    refine sm_T_cale (d1_ := 0) (Q1_ := vq_265e 0 S0_) (Q2_ := (fun ex_ S1_ => ex_ ∈ ([0] : List Nat) ∧ vx_265e 0 S0_ S1_)) rfl rfl (by decide) (vc_265e 0 S0_ hI_ ) rfl (fun xx19_ Sx14_ px17_ => ?_) (fun u_ Sx14_ px17_ => ?_)
    · obtain ⟨px17m, hIx15_, hFx16_, px17_⟩ := px17_
      refine Or.inr ⟨_, _, rfl, by first | exact px17m | (simp only [List.mem_cons, List.not_mem_nil, or_false] at px17m ⊢; omega), hIx15_, ai_fr_tr hF_ (fr_le hFx16_ rfl), ?_⟩
      first | exact px17_.2 | exact px17_ | rfl
    · exact absurd rfl px17_.2.2.2.1
  · have cx13_ : ¬ (nd_ < vx12_) := of_decide_eq_false cx13_
    have bx20_ : 0 ≤ S0_.1 3 kk_.toNat 4 ∧ S0_.1 3 kk_.toNat 4 ≤ 1013 := hI_.1 3 kk_.toNat 4 rfl
    refine sm_T_go 3 (c1 := (22, [some (.inr (.inr (some (12, 0)))), some (.inl kk_), some (.inl nd_), some (.inl sd_), some (.inr (.inr (some (3, kk_.toNat))))], [.inl (S0_.1 3 kk_.toNat 4), .inl nd_], S0_)) rfl ?_
    refine sm_T_br (a := 3) (z := 7) rfl (fun cx21_ => ?_) (fun cx21_ => ?_)
    · have cx21_ : (S0_.1 3 kk_.toNat 4) ≤ nd_ := of_decide_eq_true cx21_
      refine sm_T_go 1 (c1 := (30, [some (.inr (.inr (some (12, 0)))), some (.inl kk_), some (.inl nd_), some (.inl sd_), some (.inr (.inr (some (3, kk_.toNat))))], [.inl 0], S0_)) rfl ?_
      refine sm_T_cale (d1_ := 0) (Q1_ := vq_265e 0 S0_) (Q2_ := (fun ex_ S1_ => ex_ ∈ ([0] : List Nat) ∧ vx_265e 0 S0_ S1_)) rfl rfl (by decide) (vc_265e 0 S0_ hI_ ) rfl (fun xx27_ Sx22_ px25_ => ?_) (fun u_ Sx22_ px25_ => ?_)
      · obtain ⟨px25m, hIx23_, hFx24_, px25_⟩ := px25_
        refine Or.inr ⟨_, _, rfl, by first | exact px25m | (simp only [List.mem_cons, List.not_mem_nil, or_false] at px25m ⊢; omega), hIx23_, ai_fr_tr hF_ (fr_le hFx24_ rfl), ?_⟩
        first | exact px25_.2 | exact px25_ | rfl
      · exact absurd rfl px25_.2.2.2.1
    · have cx21_ : ¬ ((S0_.1 3 kk_.toNat 4) ≤ nd_) := of_decide_eq_false cx21_
      refine sm_T_go 2 (c1 := (30, [some (.inr (.inr (some (12, 0)))), some (.inl kk_), some (.inl nd_), some (.inl sd_), some (.inr (.inr (some (3, kk_.toNat))))], [.inl 1], S0_)) rfl ?_
      refine sm_T_cale (d1_ := 0) (Q1_ := vq_265e 1 S0_) (Q2_ := (fun ex_ S1_ => ex_ ∈ ([0] : List Nat) ∧ vx_265e 1 S0_ S1_)) rfl rfl (by decide) (vc_265e 1 S0_ hI_ ) rfl (fun xx33_ Sx28_ px31_ => ?_) (fun u_ Sx28_ px31_ => ?_)
      · exact absurd px31_.2.2.2.1 (by decide)
      obtain ⟨rfl, -, -, px31_, rfl⟩ := px31_
      refine sm_T_go 1 (c1 := (34, [some (.inr (.inr (some (12, 0)))), some (.inl kk_), some (.inl nd_), some (.inl sd_), some (.inr (.inr (some (3, kk_.toNat))))], [.inl sd_], S0_)) rfl ?_
      refine sm_T_b0 (a := 0) (z := 8) rfl (fun cx34_ => ?_) (fun cx34_ => ?_)
      · have cx34_ : sd_ = 0 := of_decide_eq_true cx34_
        refine sm_T_go 2 (c1 := (47, [some (.inr (.inr (some (12, 0)))), some (.inl kk_), some (.inl nd_), some (.inl sd_), some (.inr (.inr (some (3, kk_.toNat))))], [.inl 1], S0_)) rfl ?_
        refine sm_T_cale (d1_ := 0) (Q1_ := vq_265e 1 S0_) (Q2_ := (fun ex_ S1_ => ex_ ∈ ([0] : List Nat) ∧ vx_265e 1 S0_ S1_)) rfl rfl (by decide) (vc_265e 1 S0_ hI_ ) rfl (fun xx40_ Sx35_ px38_ => ?_) (fun u_ Sx35_ px38_ => ?_)
        · exact absurd px38_.2.2.2.1 (by decide)
        obtain ⟨rfl, -, -, px38_, rfl⟩ := px38_
        refine sm_T_go 1 (c1 := (51, [some (.inr (.inr (some (12, 0)))), some (.inl kk_), some (.inl nd_), some (.inl sd_), some (.inr (.inr (some (3, kk_.toNat))))], [.inl sd_], S0_)) rfl ?_
        refine sm_T_b0 (a := 1) (z := 13) rfl (fun cx41_ => ?_) (fun cx41_ => ?_)
        · have cx41_ : sd_ ≠ 0 := of_decide_eq_true cx41_
          exfalso; omega
        · have cx41_ : ¬ (sd_ ≠ 0) := of_decide_eq_false cx41_
          refine sm_T_go 3 (c1 := (60, [some (.inr (.inr (some (12, 0)))), some (.inl kk_), some (.inl nd_), some (.inl sd_), some (.inr (.inr (some (3, kk_.toNat))))], [.inl nd_, .inr (.inr (some (42, (0 + kk_.toNat))))], S0_)) rfl ?_
          refine sm_T_iald (n := 1013) rfl rfl (by omega) (by omega) ?_
          have bx42_ : 0 ≤ S0_.2.2.1 42 (0 + kk_.toNat) nd_.toNat ∧ S0_.2.2.1 42 (0 + kk_.toNat) nd_.toNat ≤ 2025 := hI_.2 42 (0 + kk_.toNat) _
          refine sm_T_go 1 (c1 := (71, [some (.inr (.inr (some (12, 0)))), some (.inl kk_), some (.inl nd_), some (.inl sd_), some (.inr (.inr (some (3, kk_.toNat))))], [.inl (S0_.2.2.1 42 (0 + kk_.toNat) nd_.toNat)], S0_)) rfl ?_
          refine sm_T_ri rfl (Or.inl ⟨_, _, rfl, _, rfl, hI_, hF_, ?_⟩)
          trivial
      · have cx34_ : ¬ (sd_ = 0) := of_decide_eq_false cx34_
        refine sm_T_go 2 (c1 := (39, [some (.inr (.inr (some (12, 0)))), some (.inl kk_), some (.inl nd_), some (.inl sd_), some (.inr (.inr (some (3, kk_.toNat))))], [.inl 1, .inl sd_], S0_)) rfl ?_
        refine sm_T_br (a := 1) (z := 7) rfl (fun cx43_ => ?_) (fun cx43_ => ?_)
        · have cx43_ : sd_ ≠ 1 := of_decide_eq_true cx43_
          refine sm_T_go 1 (c1 := (47, [some (.inr (.inr (some (12, 0)))), some (.inl kk_), some (.inl nd_), some (.inl sd_), some (.inr (.inr (some (3, kk_.toNat))))], [.inl 0], S0_)) rfl ?_
          refine sm_T_cale (d1_ := 0) (Q1_ := vq_265e 0 S0_) (Q2_ := (fun ex_ S1_ => ex_ ∈ ([0] : List Nat) ∧ vx_265e 0 S0_ S1_)) rfl rfl (by decide) (vc_265e 0 S0_ hI_ ) rfl (fun xx49_ Sx44_ px47_ => ?_) (fun u_ Sx44_ px47_ => ?_)
          · obtain ⟨px47m, hIx45_, hFx46_, px47_⟩ := px47_
            refine Or.inr ⟨_, _, rfl, by first | exact px47m | (simp only [List.mem_cons, List.not_mem_nil, or_false] at px47m ⊢; omega), hIx45_, ai_fr_tr hF_ (fr_le hFx46_ rfl), ?_⟩
            first | exact px47_.2 | exact px47_ | rfl
          · exact absurd rfl px47_.2.2.2.1
        · have cx43_ : ¬ (sd_ ≠ 1) := of_decide_eq_false cx43_
          refine sm_T_go 2 (c1 := (47, [some (.inr (.inr (some (12, 0)))), some (.inl kk_), some (.inl nd_), some (.inl sd_), some (.inr (.inr (some (3, kk_.toNat))))], [.inl 1], S0_)) rfl ?_
          refine sm_T_cale (d1_ := 0) (Q1_ := vq_265e 1 S0_) (Q2_ := (fun ex_ S1_ => ex_ ∈ ([0] : List Nat) ∧ vx_265e 1 S0_ S1_)) rfl rfl (by decide) (vc_265e 1 S0_ hI_ ) rfl (fun xx55_ Sx50_ px53_ => ?_) (fun u_ Sx50_ px53_ => ?_)
          · exact absurd px53_.2.2.2.1 (by decide)
          obtain ⟨rfl, -, -, px53_, rfl⟩ := px53_
          refine sm_T_go 1 (c1 := (51, [some (.inr (.inr (some (12, 0)))), some (.inl kk_), some (.inl nd_), some (.inl sd_), some (.inr (.inr (some (3, kk_.toNat))))], [.inl sd_], S0_)) rfl ?_
          refine sm_T_b0 (a := 1) (z := 13) rfl (fun cx56_ => ?_) (fun cx56_ => ?_)
          · have cx56_ : sd_ ≠ 0 := of_decide_eq_true cx56_
            refine sm_T_go 3 (c1 := (70, [some (.inr (.inr (some (12, 0)))), some (.inl kk_), some (.inl nd_), some (.inl sd_), some (.inr (.inr (some (3, kk_.toNat))))], [.inl nd_, .inr (.inr (some (43, (0 + kk_.toNat))))], S0_)) rfl ?_
            refine sm_T_iald (n := 1013) rfl rfl (by omega) (by omega) ?_
            have bx57_ : 0 ≤ S0_.2.2.1 43 (0 + kk_.toNat) nd_.toNat ∧ S0_.2.2.1 43 (0 + kk_.toNat) nd_.toNat ≤ 2025 := hI_.2 43 (0 + kk_.toNat) _
            refine sm_T_ri rfl (Or.inl ⟨_, _, rfl, _, rfl, hI_, hF_, ?_⟩)
            trivial
          · have cx56_ : ¬ (sd_ ≠ 0) := of_decide_eq_false cx56_
            exfalso; omega
end
/-! 99.zj3c -/
section
/-! ChipFlow.swept -/
def vw_221 : sx_Wl := ([], [], [])
def vq_221 (kk_ : Int) (nd_ : Int) (S0_ : sm_S) (u_ : Option sm_V) (S1_ : sm_S) : Prop := ∃ v_ : Int, u_ = some (.inl v_) ∧ gi S1_ ∧ ai_fr (sx_W vw_221) S0_ S1_ ∧ (True)
def vx_221 (kk_ : Int) (nd_ : Int) (S0_ : sm_S) (S1_ : sm_S) : Prop := gi S1_ ∧ ai_fr (sx_W vw_221) S0_ S1_ ∧ (S1_ = S0_)
set_option maxHeartbeats 400000 in
theorem vc_221 {sc_ : Nat × (Nat → Int)} (kk_ : Int) (nd_ : Int) (S0_ : sm_S) (hI_ : gi S0_) (hJ_ : dAll S0_) : sm_T (mt_P sc_) 2 221 (0, [some (.inr (.inr (some (12, 0)))), some (.inl kk_), some (.inl nd_), none], [], S0_) (fun ro9_ => (∃ u_ S1_, ro9_ = (.inl u_, S1_, 0) ∧ vq_221 kk_ nd_ S0_ u_ S1_) ∨ ∃ ex_ S1_, ro9_ = (.inr ex_, S1_, 1) ∧ ex_ ∈ ([0] : List Nat) ∧ vx_221 kk_ nd_ S0_ S1_) := by
  have hF_ : ai_fr (sx_W vw_221) S0_ S0_ := ai_fr_rf
  refine sm_T_go 2 (c1 := (2, [some (.inr (.inr (some (12, 0)))), some (.inl kk_), some (.inl nd_), none], [.inl kk_, .inr (.inr (some (12, 0)))], S0_)) rfl ?_
  refine sm_T_cale (d1_ := 1) (Q1_ := vq_270 kk_ S0_) (Q2_ := (fun ex_ S1_ => ex_ ∈ ([0] : List Nat) ∧ vx_270 kk_ S0_ S1_)) rfl rfl (by decide) (vc_270 kk_ S0_ hI_ ) rfl (fun xx6_ Sx1_ px4_ => ?_) (fun u_ Sx1_ px4_ => ?_)
  · obtain ⟨px4m, hIx2_, hFx3_, px4_⟩ := px4_
    refine Or.inr ⟨_, _, rfl, by first | exact px4m | (simp only [List.mem_cons, List.not_mem_nil, or_false] at px4m ⊢; omega), hIx2_, ai_fr_tr hF_ (fr_le hFx3_ rfl), ?_⟩
    first | exact px4_.2 | exact px4_ | rfl
  obtain ⟨rfl, -, -, rfl, px4_⟩ := px4_
  have a9_ := px4_
  have J9_ := dOk_b (hJ_ kk_.toNat (by omega) a9_.2)
  have J9a := J9_.1
  have J9b := J9_.2.1
  refine sm_T_go 2 (c1 := (7, [some (.inr (.inr (some (12, 0)))), some (.inl kk_), some (.inl nd_), some (.inr (.inr (some (3, kk_.toNat))))], [.inl nd_], S0_)) rfl ?_
  refine sm_T_b0 (a := 2) (z := 15) rfl (fun cx7_ => ?_) (fun cx7_ => ?_)
  · have cx7_ : nd_ < 0 := of_decide_eq_true cx7_
    refine sm_T_go 1 (c1 := (23, [some (.inr (.inr (some (12, 0)))), some (.inl kk_), some (.inl nd_), some (.inr (.inr (some (3, kk_.toNat))))], [.inl 0], S0_)) rfl ?_
    refine sm_T_cale (d1_ := 0) (Q1_ := vq_265e 0 S0_) (Q2_ := (fun ex_ S1_ => ex_ ∈ ([0] : List Nat) ∧ vx_265e 0 S0_ S1_)) rfl rfl (by decide) (vc_265e 0 S0_ hI_ ) rfl (fun xx13_ Sx8_ px11_ => ?_) (fun u_ Sx8_ px11_ => ?_)
    · obtain ⟨px11m, hIx9_, hFx10_, px11_⟩ := px11_
      refine Or.inr ⟨_, _, rfl, by first | exact px11m | (simp only [List.mem_cons, List.not_mem_nil, or_false] at px11m ⊢; omega), hIx9_, ai_fr_tr hF_ (fr_le hFx10_ rfl), ?_⟩
      first | exact px11_.2 | exact px11_ | rfl
    · exact absurd rfl px11_.2.2.2.1
  · have cx7_ : ¬ (nd_ < 0) := of_decide_eq_false cx7_
    have bx14_ : 0 ≤ S0_.1 3 kk_.toNat 4 ∧ S0_.1 3 kk_.toNat 4 ≤ 1013 := hI_.1 3 kk_.toNat 4 rfl
    refine sm_T_go 3 (c1 := (15, [some (.inr (.inr (some (12, 0)))), some (.inl kk_), some (.inl nd_), some (.inr (.inr (some (3, kk_.toNat))))], [.inl (S0_.1 3 kk_.toNat 4), .inl nd_], S0_)) rfl ?_
    refine sm_T_br (a := 3) (z := 7) rfl (fun cx15_ => ?_) (fun cx15_ => ?_)
    · have cx15_ : (S0_.1 3 kk_.toNat 4) ≤ nd_ := of_decide_eq_true cx15_
      refine sm_T_go 1 (c1 := (23, [some (.inr (.inr (some (12, 0)))), some (.inl kk_), some (.inl nd_), some (.inr (.inr (some (3, kk_.toNat))))], [.inl 0], S0_)) rfl ?_
      refine sm_T_cale (d1_ := 0) (Q1_ := vq_265e 0 S0_) (Q2_ := (fun ex_ S1_ => ex_ ∈ ([0] : List Nat) ∧ vx_265e 0 S0_ S1_)) rfl rfl (by decide) (vc_265e 0 S0_ hI_ ) rfl (fun xx21_ Sx16_ px19_ => ?_) (fun u_ Sx16_ px19_ => ?_)
      · obtain ⟨px19m, hIx17_, hFx18_, px19_⟩ := px19_
        refine Or.inr ⟨_, _, rfl, by first | exact px19m | (simp only [List.mem_cons, List.not_mem_nil, or_false] at px19m ⊢; omega), hIx17_, ai_fr_tr hF_ (fr_le hFx18_ rfl), ?_⟩
        first | exact px19_.2 | exact px19_ | rfl
      · exact absurd rfl px19_.2.2.2.1
    · have cx15_ : ¬ ((S0_.1 3 kk_.toNat 4) ≤ nd_) := of_decide_eq_false cx15_
      refine sm_T_go 2 (c1 := (23, [some (.inr (.inr (some (12, 0)))), some (.inl kk_), some (.inl nd_), some (.inr (.inr (some (3, kk_.toNat))))], [.inl 1], S0_)) rfl ?_
      refine sm_T_cale (d1_ := 0) (Q1_ := vq_265e 1 S0_) (Q2_ := (fun ex_ S1_ => ex_ ∈ ([0] : List Nat) ∧ vx_265e 1 S0_ S1_)) rfl rfl (by decide) (vc_265e 1 S0_ hI_ ) rfl (fun xx27_ Sx22_ px25_ => ?_) (fun u_ Sx22_ px25_ => ?_)
      · exact absurd px25_.2.2.2.1 (by decide)
      obtain ⟨rfl, -, -, px25_, rfl⟩ := px25_
      refine sm_T_go 3 (c1 := (31, [some (.inr (.inr (some (12, 0)))), some (.inl kk_), some (.inl nd_), some (.inr (.inr (some (3, kk_.toNat))))], [.inl nd_, .inr (.inr (some (44, (0 + kk_.toNat))))], S0_)) rfl ?_
      refine sm_T_iald (n := 1013) rfl rfl (by omega) (by omega) ?_
      have bx28_ : 0 ≤ S0_.2.2.1 44 (0 + kk_.toNat) nd_.toNat ∧ S0_.2.2.1 44 (0 + kk_.toNat) nd_.toNat ≤ 2025 := hI_.2 44 (0 + kk_.toNat) _
      refine sm_T_ri rfl (Or.inl ⟨_, _, rfl, _, rfl, hI_, hF_, ?_⟩)
      trivial
end
/-! 99.zj3d -/
section
/-! ChipFlow.root -/
def vw_222 : sx_Wl := ([], [], [])
def vq_222 (kk_ : Int) (k_ : Int) (nx_ : Int) (S0_ : sm_S) (u_ : Option sm_V) (S1_ : sm_S) : Prop := ∃ v_ : Int, u_ = some (.inl v_) ∧ gi S1_ ∧ ai_fr (sx_W vw_222) S0_ S1_ ∧ (True)
def vx_222 (kk_ : Int) (k_ : Int) (nx_ : Int) (S0_ : sm_S) (S1_ : sm_S) : Prop := gi S1_ ∧ ai_fr (sx_W vw_222) S0_ S1_ ∧ (S1_ = S0_)
set_option maxHeartbeats 400000 in
theorem vc_222 {sc_ : Nat × (Nat → Int)} (kk_ : Int) (k_ : Int) (nx_ : Int) (S0_ : sm_S) (hI_ : gi S0_) (hJ_ : dAll S0_) : sm_T (mt_P sc_) 2 222 (0, [some (.inr (.inr (some (12, 0)))), some (.inl kk_), some (.inl k_), some (.inl nx_), none], [], S0_) (fun ro9_ => (∃ u_ S1_, ro9_ = (.inl u_, S1_, 0) ∧ vq_222 kk_ k_ nx_ S0_ u_ S1_) ∨ ∃ ex_ S1_, ro9_ = (.inr ex_, S1_, 1) ∧ ex_ ∈ ([0] : List Nat) ∧ vx_222 kk_ k_ nx_ S0_ S1_) := by
  have hF_ : ai_fr (sx_W vw_222) S0_ S0_ := ai_fr_rf
  refine sm_T_go 2 (c1 := (2, [some (.inr (.inr (some (12, 0)))), some (.inl kk_), some (.inl k_), some (.inl nx_), none], [.inl kk_, .inr (.inr (some (12, 0)))], S0_)) rfl ?_
  refine sm_T_cale (d1_ := 1) (Q1_ := vq_270 kk_ S0_) (Q2_ := (fun ex_ S1_ => ex_ ∈ ([0] : List Nat) ∧ vx_270 kk_ S0_ S1_)) rfl rfl (by decide) (vc_270 kk_ S0_ hI_ ) rfl (fun xx6_ Sx1_ px4_ => ?_) (fun u_ Sx1_ px4_ => ?_)
  · obtain ⟨px4m, hIx2_, hFx3_, px4_⟩ := px4_
    refine Or.inr ⟨_, _, rfl, by first | exact px4m | (simp only [List.mem_cons, List.not_mem_nil, or_false] at px4m ⊢; omega), hIx2_, ai_fr_tr hF_ (fr_le hFx3_ rfl), ?_⟩
    first | exact px4_.2 | exact px4_ | rfl
  obtain ⟨rfl, -, -, rfl, px4_⟩ := px4_
  have a9_ := px4_
  have J9_ := dOk_b (hJ_ kk_.toNat (by omega) a9_.2)
  have J9a := J9_.1
  have J9b := J9_.2.1
  refine sm_T_go 2 (c1 := (8, [some (.inr (.inr (some (12, 0)))), some (.inl kk_), some (.inl k_), some (.inl nx_), some (.inr (.inr (some (3, kk_.toNat))))], [.inl k_], S0_)) rfl ?_
  refine sm_T_b0 (a := 2) (z := 28) rfl (fun cx7_ => ?_) (fun cx7_ => ?_)
  · have cx7_ : k_ < 0 := of_decide_eq_true cx7_
    refine sm_T_go 1 (c1 := (37, [some (.inr (.inr (some (12, 0)))), some (.inl kk_), some (.inl k_), some (.inl nx_), some (.inr (.inr (some (3, kk_.toNat))))], [.inl 0], S0_)) rfl ?_
    refine sm_T_cale (d1_ := 0) (Q1_ := vq_265e 0 S0_) (Q2_ := (fun ex_ S1_ => ex_ ∈ ([0] : List Nat) ∧ vx_265e 0 S0_ S1_)) rfl rfl (by decide) (vc_265e 0 S0_ hI_ ) rfl (fun xx13_ Sx8_ px11_ => ?_) (fun u_ Sx8_ px11_ => ?_)
    · obtain ⟨px11m, hIx9_, hFx10_, px11_⟩ := px11_
      refine Or.inr ⟨_, _, rfl, by first | exact px11m | (simp only [List.mem_cons, List.not_mem_nil, or_false] at px11m ⊢; omega), hIx9_, ai_fr_tr hF_ (fr_le hFx10_ rfl), ?_⟩
      first | exact px11_.2 | exact px11_ | rfl
    · exact absurd rfl px11_.2.2.2.1
  · have cx7_ : ¬ (k_ < 0) := of_decide_eq_false cx7_
    refine sm_T_go 2 (c1 := (13, [some (.inr (.inr (some (12, 0)))), some (.inl kk_), some (.inl k_), some (.inl nx_), some (.inr (.inr (some (3, kk_.toNat))))], [.inl nx_, .inl k_], S0_)) rfl ?_
    refine sm_T_b0 (a := 0) (z := 11) rfl (fun cx14_ => ?_) (fun cx14_ => ?_)
    · have cx14_ : nx_ = 0 := of_decide_eq_true cx14_
      have bx15_ : 0 ≤ S0_.1 3 kk_.toNat 3 ∧ S0_.1 3 kk_.toNat 3 ≤ 320 := hI_.1 3 kk_.toNat 3 rfl
      refine sm_T_go 2 (c1 := (29, [some (.inr (.inr (some (12, 0)))), some (.inl kk_), some (.inl k_), some (.inl nx_), some (.inr (.inr (some (3, kk_.toNat))))], [.inl (S0_.1 3 kk_.toNat 3), .inl k_], S0_)) rfl ?_
      refine sm_T_br (a := 3) (z := 7) rfl (fun cx16_ => ?_) (fun cx16_ => ?_)
      · have cx16_ : (S0_.1 3 kk_.toNat 3) ≤ k_ := of_decide_eq_true cx16_
        refine sm_T_go 1 (c1 := (37, [some (.inr (.inr (some (12, 0)))), some (.inl kk_), some (.inl k_), some (.inl nx_), some (.inr (.inr (some (3, kk_.toNat))))], [.inl 0], S0_)) rfl ?_
        refine sm_T_cale (d1_ := 0) (Q1_ := vq_265e 0 S0_) (Q2_ := (fun ex_ S1_ => ex_ ∈ ([0] : List Nat) ∧ vx_265e 0 S0_ S1_)) rfl rfl (by decide) (vc_265e 0 S0_ hI_ ) rfl (fun xx22_ Sx17_ px20_ => ?_) (fun u_ Sx17_ px20_ => ?_)
        · obtain ⟨px20m, hIx18_, hFx19_, px20_⟩ := px20_
          refine Or.inr ⟨_, _, rfl, by first | exact px20m | (simp only [List.mem_cons, List.not_mem_nil, or_false] at px20m ⊢; omega), hIx18_, ai_fr_tr hF_ (fr_le hFx19_ rfl), ?_⟩
          first | exact px20_.2 | exact px20_ | rfl
        · exact absurd rfl px20_.2.2.2.1
      · have cx16_ : ¬ ((S0_.1 3 kk_.toNat 3) ≤ k_) := of_decide_eq_false cx16_
        refine sm_T_go 2 (c1 := (37, [some (.inr (.inr (some (12, 0)))), some (.inl kk_), some (.inl k_), some (.inl nx_), some (.inr (.inr (some (3, kk_.toNat))))], [.inl 1], S0_)) rfl ?_
        refine sm_T_cale (d1_ := 0) (Q1_ := vq_265e 1 S0_) (Q2_ := (fun ex_ S1_ => ex_ ∈ ([0] : List Nat) ∧ vx_265e 1 S0_ S1_)) rfl rfl (by decide) (vc_265e 1 S0_ hI_ ) rfl (fun xx28_ Sx23_ px26_ => ?_) (fun u_ Sx23_ px26_ => ?_)
        · exact absurd px26_.2.2.2.1 (by decide)
        obtain ⟨rfl, -, -, px26_, rfl⟩ := px26_
        refine sm_T_go 1 (c1 := (41, [some (.inr (.inr (some (12, 0)))), some (.inl kk_), some (.inl k_), some (.inl nx_), some (.inr (.inr (some (3, kk_.toNat))))], [.inl nx_], S0_)) rfl ?_
        refine sm_T_b0 (a := 0) (z := 13) rfl (fun cx29_ => ?_) (fun cx29_ => ?_)
        · have cx29_ : nx_ = 0 := of_decide_eq_true cx29_
          refine sm_T_go 3 (c1 := (60, [some (.inr (.inr (some (12, 0)))), some (.inl kk_), some (.inl k_), some (.inl nx_), some (.inr (.inr (some (3, kk_.toNat))))], [.inl k_, .inr (.inr (some (45, (0 + kk_.toNat))))], S0_)) rfl ?_
          refine sm_T_iald (n := 16) rfl rfl (by omega) (by omega) ?_
          have bx30_ : 0 ≤ S0_.2.2.1 45 (0 + kk_.toNat) k_.toNat ∧ S0_.2.2.1 45 (0 + kk_.toNat) k_.toNat ≤ 2025 := hI_.2 45 (0 + kk_.toNat) _
          refine sm_T_ri rfl (Or.inl ⟨_, _, rfl, _, rfl, hI_, hF_, ?_⟩)
          trivial
        · have cx29_ : ¬ (nx_ = 0) := of_decide_eq_false cx29_
          exfalso; omega
    · have cx14_ : ¬ (nx_ = 0) := of_decide_eq_false cx14_
      have bx31_ : 0 ≤ S0_.1 3 kk_.toNat 2 ∧ S0_.1 3 kk_.toNat 2 ≤ 100000 := hI_.1 3 kk_.toNat 2 rfl
      refine sm_T_go 3 (c1 := (29, [some (.inr (.inr (some (12, 0)))), some (.inl kk_), some (.inl k_), some (.inl nx_), some (.inr (.inr (some (3, kk_.toNat))))], [.inl (S0_.1 3 kk_.toNat 2), .inl k_], S0_)) rfl ?_
      refine sm_T_br (a := 3) (z := 7) rfl (fun cx32_ => ?_) (fun cx32_ => ?_)
      · have cx32_ : (S0_.1 3 kk_.toNat 2) ≤ k_ := of_decide_eq_true cx32_
        refine sm_T_go 1 (c1 := (37, [some (.inr (.inr (some (12, 0)))), some (.inl kk_), some (.inl k_), some (.inl nx_), some (.inr (.inr (some (3, kk_.toNat))))], [.inl 0], S0_)) rfl ?_
        refine sm_T_cale (d1_ := 0) (Q1_ := vq_265e 0 S0_) (Q2_ := (fun ex_ S1_ => ex_ ∈ ([0] : List Nat) ∧ vx_265e 0 S0_ S1_)) rfl rfl (by decide) (vc_265e 0 S0_ hI_ ) rfl (fun xx38_ Sx33_ px36_ => ?_) (fun u_ Sx33_ px36_ => ?_)
        · obtain ⟨px36m, hIx34_, hFx35_, px36_⟩ := px36_
          refine Or.inr ⟨_, _, rfl, by first | exact px36m | (simp only [List.mem_cons, List.not_mem_nil, or_false] at px36m ⊢; omega), hIx34_, ai_fr_tr hF_ (fr_le hFx35_ rfl), ?_⟩
          first | exact px36_.2 | exact px36_ | rfl
        · exact absurd rfl px36_.2.2.2.1
      · have cx32_ : ¬ ((S0_.1 3 kk_.toNat 2) ≤ k_) := of_decide_eq_false cx32_
        refine sm_T_go 2 (c1 := (37, [some (.inr (.inr (some (12, 0)))), some (.inl kk_), some (.inl k_), some (.inl nx_), some (.inr (.inr (some (3, kk_.toNat))))], [.inl 1], S0_)) rfl ?_
        refine sm_T_cale (d1_ := 0) (Q1_ := vq_265e 1 S0_) (Q2_ := (fun ex_ S1_ => ex_ ∈ ([0] : List Nat) ∧ vx_265e 1 S0_ S1_)) rfl rfl (by decide) (vc_265e 1 S0_ hI_ ) rfl (fun xx44_ Sx39_ px42_ => ?_) (fun u_ Sx39_ px42_ => ?_)
        · exact absurd px42_.2.2.2.1 (by decide)
        obtain ⟨rfl, -, -, px42_, rfl⟩ := px42_
        refine sm_T_go 1 (c1 := (41, [some (.inr (.inr (some (12, 0)))), some (.inl kk_), some (.inl k_), some (.inl nx_), some (.inr (.inr (some (3, kk_.toNat))))], [.inl nx_], S0_)) rfl ?_
        refine sm_T_b0 (a := 0) (z := 13) rfl (fun cx45_ => ?_) (fun cx45_ => ?_)
        · have cx45_ : nx_ = 0 := of_decide_eq_true cx45_
          refine sm_T_go 3 (c1 := (60, [some (.inr (.inr (some (12, 0)))), some (.inl kk_), some (.inl k_), some (.inl nx_), some (.inr (.inr (some (3, kk_.toNat))))], [.inl k_, .inr (.inr (some (45, (0 + kk_.toNat))))], S0_)) rfl ?_
          refine sm_T_iald (n := 16) rfl rfl (by omega) (by omega) ?_
          have bx46_ : 0 ≤ S0_.2.2.1 45 (0 + kk_.toNat) k_.toNat ∧ S0_.2.2.1 45 (0 + kk_.toNat) k_.toNat ≤ 2025 := hI_.2 45 (0 + kk_.toNat) _
          refine sm_T_ri rfl (Or.inl ⟨_, _, rfl, _, rfl, hI_, hF_, ?_⟩)
          trivial
        · have cx45_ : ¬ (nx_ = 0) := of_decide_eq_false cx45_
          refine sm_T_go 3 (c1 := (50, [some (.inr (.inr (some (12, 0)))), some (.inl kk_), some (.inl k_), some (.inl nx_), some (.inr (.inr (some (3, kk_.toNat))))], [.inl k_, .inr (.inr (some (46, (0 + kk_.toNat))))], S0_)) rfl ?_
          refine sm_T_iald (n := 6) rfl rfl (by omega) (by omega) ?_
          have bx47_ : 0 ≤ S0_.2.2.1 46 (0 + kk_.toNat) k_.toNat ∧ S0_.2.2.1 46 (0 + kk_.toNat) k_.toNat ≤ 2025 := hI_.2 46 (0 + kk_.toNat) _
          refine sm_T_go 1 (c1 := (61, [some (.inr (.inr (some (12, 0)))), some (.inl kk_), some (.inl k_), some (.inl nx_), some (.inr (.inr (some (3, kk_.toNat))))], [.inl (S0_.2.2.1 46 (0 + kk_.toNat) k_.toNat)], S0_)) rfl ?_
          refine sm_T_ri rfl (Or.inl ⟨_, _, rfl, _, rfl, hI_, hF_, ?_⟩)
          trivial
end
/-! 99.zj3e -/
section
/-! ChipFlow.state -/
def vw_225 : sx_Wl := ([], [], [])
def vq_225 (kk_ : Int) (S0_ : sm_S) (u_ : Option sm_V) (S1_ : sm_S) : Prop := ∃ v_ : Int, u_ = some (.inl v_) ∧ gi S1_ ∧ ai_fr (sx_W vw_225) S0_ S1_ ∧ (True)
def vx_225 (kk_ : Int) (S0_ : sm_S) (S1_ : sm_S) : Prop := gi S1_ ∧ ai_fr (sx_W vw_225) S0_ S1_ ∧ (S1_ = S0_)
set_option maxHeartbeats 400000 in
theorem vc_225 {sc_ : Nat × (Nat → Int)} (kk_ : Int) (S0_ : sm_S) (hI_ : gi S0_) (hJ_ : dAll S0_) : sm_T (mt_P sc_) 2 225 (0, [some (.inr (.inr (some (12, 0)))), some (.inl kk_)], [], S0_) (fun ro9_ => (∃ u_ S1_, ro9_ = (.inl u_, S1_, 0) ∧ vq_225 kk_ S0_ u_ S1_) ∨ ∃ ex_ S1_, ro9_ = (.inr ex_, S1_, 1) ∧ ex_ ∈ ([0] : List Nat) ∧ vx_225 kk_ S0_ S1_) := by
  have hF_ : ai_fr (sx_W vw_225) S0_ S0_ := ai_fr_rf
  refine sm_T_go 2 (c1 := (2, [some (.inr (.inr (some (12, 0)))), some (.inl kk_)], [.inl kk_, .inr (.inr (some (12, 0)))], S0_)) rfl ?_
  refine sm_T_cale (d1_ := 1) (Q1_ := vq_270 kk_ S0_) (Q2_ := (fun ex_ S1_ => ex_ ∈ ([0] : List Nat) ∧ vx_270 kk_ S0_ S1_)) rfl rfl (by decide) (vc_270 kk_ S0_ hI_ ) rfl (fun xx6_ Sx1_ px4_ => ?_) (fun u_ Sx1_ px4_ => ?_)
  · obtain ⟨px4m, hIx2_, hFx3_, px4_⟩ := px4_
    refine Or.inr ⟨_, _, rfl, by first | exact px4m | (simp only [List.mem_cons, List.not_mem_nil, or_false] at px4m ⊢; omega), hIx2_, ai_fr_tr hF_ (fr_le hFx3_ rfl), ?_⟩
    first | exact px4_.2 | exact px4_ | rfl
  obtain ⟨rfl, -, -, rfl, px4_⟩ := px4_
  have a9_ := px4_
  have J9_ := dOk_b (hJ_ kk_.toNat (by omega) a9_.2)
  have J9a := J9_.1
  have J9b := J9_.2.1
  have bx7_ : 0 ≤ S0_.1 3 kk_.toNat 6 ∧ S0_.1 3 kk_.toNat 6 ≤ 63 := hI_.1 3 kk_.toNat 6 rfl
  refine sm_T_go 1 (c1 := (8, [some (.inr (.inr (some (12, 0)))), some (.inl kk_)], [.inl (S0_.1 3 kk_.toNat 6)], S0_)) rfl ?_
  refine sm_T_ri rfl (Or.inl ⟨_, _, rfl, _, rfl, hI_, hF_, ?_⟩)
  trivial
end
/-! 99.zj3g -/
section
/-! ChipFlow.cell -/
def vw_223 : sx_Wl := ([], [], [])
def vq_223 (lb_ : Int) (k_ : Int) (wh_ : Int) (S0_ : sm_S) (u_ : Option sm_V) (S1_ : sm_S) : Prop := ∃ v_ : Int, u_ = some (.inl v_) ∧ gi S1_ ∧ ai_fr (sx_W vw_223) S0_ S1_ ∧ (True)
def vx_223 (lb_ : Int) (k_ : Int) (wh_ : Int) (S0_ : sm_S) (S1_ : sm_S) : Prop := gi S1_ ∧ ai_fr (sx_W vw_223) S0_ S1_ ∧ (S1_ = S0_)
set_option maxHeartbeats 400000 in
theorem vc_223 {sc_ : Nat × (Nat → Int)} (lb_ : Int) (k_ : Int) (wh_ : Int) (S0_ : sm_S) (hI_ : gi S0_)  : sm_T (mt_P sc_) 2 223 (0, [some (.inr (.inr (some (12, 0)))), some (.inl lb_), some (.inl k_), some (.inl wh_), none], [], S0_) (fun ro9_ => (∃ u_ S1_, ro9_ = (.inl u_, S1_, 0) ∧ vq_223 lb_ k_ wh_ S0_ u_ S1_) ∨ ∃ ex_ S1_, ro9_ = (.inr ex_, S1_, 1) ∧ ex_ ∈ ([0, 1] : List Nat) ∧ vx_223 lb_ k_ wh_ S0_ S1_) := by
  have hF_ : ai_fr (sx_W vw_223) S0_ S0_ := ai_fr_rf
  refine sm_T_go 2 (c1 := (2, [some (.inr (.inr (some (12, 0)))), some (.inl lb_), some (.inl k_), some (.inl wh_), none], [.inl lb_, .inr (.inr (some (12, 0)))], S0_)) rfl ?_
  refine sm_T_cale (d1_ := 1) (Q1_ := vq_271 lb_ S0_) (Q2_ := (fun ex_ S1_ => ex_ ∈ ([0] : List Nat) ∧ vx_271 lb_ S0_ S1_)) rfl rfl (by decide) (vc_271 lb_ S0_ hI_ ) rfl (fun xx6_ Sx1_ px4_ => ?_) (fun u_ Sx1_ px4_ => ?_)
  · obtain ⟨px4m, hIx2_, hFx3_, px4_⟩ := px4_
    refine Or.inr ⟨_, _, rfl, by first | exact px4m | (simp only [List.mem_cons, List.not_mem_nil, or_false] at px4m ⊢; omega), hIx2_, ai_fr_tr hF_ (fr_le hFx3_ rfl), ?_⟩
    first | exact px4_.2 | exact px4_ | rfl
  obtain ⟨rfl, -, -, rfl, px4_⟩ := px4_
  have a9_ := px4_
  refine sm_T_go 3 (c1 := (9, [some (.inr (.inr (some (12, 0)))), some (.inl lb_), some (.inl k_), some (.inl wh_), some (.inr (.inr (some (5, lb_.toNat))))], [.inl (-1), .inl k_], S0_)) rfl ?_
  refine sm_T_br (a := 2) (z := 16) rfl (fun cx7_ => ?_) (fun cx7_ => ?_)
  · have cx7_ : k_ < (-1) := of_decide_eq_true cx7_
    refine sm_T_go 1 (c1 := (26, [some (.inr (.inr (some (12, 0)))), some (.inl lb_), some (.inl k_), some (.inl wh_), some (.inr (.inr (some (5, lb_.toNat))))], [.inl 0], S0_)) rfl ?_
    refine sm_T_cale (d1_ := 0) (Q1_ := vq_265e 0 S0_) (Q2_ := (fun ex_ S1_ => ex_ ∈ ([0] : List Nat) ∧ vx_265e 0 S0_ S1_)) rfl rfl (by decide) (vc_265e 0 S0_ hI_ ) rfl (fun xx13_ Sx8_ px11_ => ?_) (fun u_ Sx8_ px11_ => ?_)
    · obtain ⟨px11m, hIx9_, hFx10_, px11_⟩ := px11_
      refine Or.inr ⟨_, _, rfl, by first | exact px11m | (simp only [List.mem_cons, List.not_mem_nil, or_false] at px11m ⊢; omega), hIx9_, ai_fr_tr hF_ (fr_le hFx10_ rfl), ?_⟩
      first | exact px11_.2 | exact px11_ | rfl
    · exact absurd rfl px11_.2.2.2.1
  · have cx7_ : ¬ (k_ < (-1)) := of_decide_eq_false cx7_
    have bx14_ : 0 ≤ S0_.1 5 lb_.toNat 1 ∧ S0_.1 5 lb_.toNat 1 ≤ 12 := hI_.1 5 lb_.toNat 1 rfl
    refine sm_T_go 3 (c1 := (18, [some (.inr (.inr (some (12, 0)))), some (.inl lb_), some (.inl k_), some (.inl wh_), some (.inr (.inr (some (5, lb_.toNat))))], [.inl (S0_.1 5 lb_.toNat 1), .inl k_], S0_)) rfl ?_
    refine sm_T_br (a := 3) (z := 7) rfl (fun cx15_ => ?_) (fun cx15_ => ?_)
    · have cx15_ : (S0_.1 5 lb_.toNat 1) ≤ k_ := of_decide_eq_true cx15_
      refine sm_T_go 1 (c1 := (26, [some (.inr (.inr (some (12, 0)))), some (.inl lb_), some (.inl k_), some (.inl wh_), some (.inr (.inr (some (5, lb_.toNat))))], [.inl 0], S0_)) rfl ?_
      refine sm_T_cale (d1_ := 0) (Q1_ := vq_265e 0 S0_) (Q2_ := (fun ex_ S1_ => ex_ ∈ ([0] : List Nat) ∧ vx_265e 0 S0_ S1_)) rfl rfl (by decide) (vc_265e 0 S0_ hI_ ) rfl (fun xx21_ Sx16_ px19_ => ?_) (fun u_ Sx16_ px19_ => ?_)
      · obtain ⟨px19m, hIx17_, hFx18_, px19_⟩ := px19_
        refine Or.inr ⟨_, _, rfl, by first | exact px19m | (simp only [List.mem_cons, List.not_mem_nil, or_false] at px19m ⊢; omega), hIx17_, ai_fr_tr hF_ (fr_le hFx18_ rfl), ?_⟩
        first | exact px19_.2 | exact px19_ | rfl
      · exact absurd rfl px19_.2.2.2.1
    · have cx15_ : ¬ ((S0_.1 5 lb_.toNat 1) ≤ k_) := of_decide_eq_false cx15_
      refine sm_T_go 2 (c1 := (26, [some (.inr (.inr (some (12, 0)))), some (.inl lb_), some (.inl k_), some (.inl wh_), some (.inr (.inr (some (5, lb_.toNat))))], [.inl 1], S0_)) rfl ?_
      refine sm_T_cale (d1_ := 0) (Q1_ := vq_265e 1 S0_) (Q2_ := (fun ex_ S1_ => ex_ ∈ ([0] : List Nat) ∧ vx_265e 1 S0_ S1_)) rfl rfl (by decide) (vc_265e 1 S0_ hI_ ) rfl (fun xx27_ Sx22_ px25_ => ?_) (fun u_ Sx22_ px25_ => ?_)
      · exact absurd px25_.2.2.2.1 (by decide)
      obtain ⟨rfl, -, -, px25_, rfl⟩ := px25_
      refine sm_T_go 1 (c1 := (30, [some (.inr (.inr (some (12, 0)))), some (.inl lb_), some (.inl k_), some (.inl wh_), some (.inr (.inr (some (5, lb_.toNat))))], [.inl wh_], S0_)) rfl ?_
      refine sm_T_b0 (a := 2) (z := 12) rfl (fun cx28_ => ?_) (fun cx28_ => ?_)
      · have cx28_ : wh_ < 0 := of_decide_eq_true cx28_
        refine sm_T_go 1 (c1 := (43, [some (.inr (.inr (some (12, 0)))), some (.inl lb_), some (.inl k_), some (.inl wh_), some (.inr (.inr (some (5, lb_.toNat))))], [.inl 0], S0_)) rfl ?_
        refine sm_T_cale (d1_ := 0) (Q1_ := vq_266e 0 S0_) (Q2_ := (fun ex_ S1_ => ex_ ∈ ([1] : List Nat) ∧ vx_266e 0 S0_ S1_)) rfl rfl (by decide) (vc_266e 0 S0_ hI_ ) rfl (fun xx34_ Sx29_ px32_ => ?_) (fun u_ Sx29_ px32_ => ?_)
        · obtain ⟨px32m, hIx30_, hFx31_, px32_⟩ := px32_
          refine Or.inr ⟨_, _, rfl, by first | exact px32m | (simp only [List.mem_cons, List.not_mem_nil, or_false] at px32m ⊢; omega), hIx30_, ai_fr_tr hF_ (fr_le hFx31_ rfl), ?_⟩
          first | exact px32_.2 | exact px32_ | rfl
        · exact absurd rfl px32_.2.2.2.1
      · have cx28_ : ¬ (wh_ < 0) := of_decide_eq_false cx28_
        refine sm_T_go 2 (c1 := (35, [some (.inr (.inr (some (12, 0)))), some (.inl lb_), some (.inl k_), some (.inl wh_), some (.inr (.inr (some (5, lb_.toNat))))], [.inl 3, .inl wh_], S0_)) rfl ?_
        refine sm_T_br (a := 4) (z := 7) rfl (fun cx35_ => ?_) (fun cx35_ => ?_)
        · have cx35_ : 3 < wh_ := of_decide_eq_true cx35_
          refine sm_T_go 1 (c1 := (43, [some (.inr (.inr (some (12, 0)))), some (.inl lb_), some (.inl k_), some (.inl wh_), some (.inr (.inr (some (5, lb_.toNat))))], [.inl 0], S0_)) rfl ?_
          refine sm_T_cale (d1_ := 0) (Q1_ := vq_266e 0 S0_) (Q2_ := (fun ex_ S1_ => ex_ ∈ ([1] : List Nat) ∧ vx_266e 0 S0_ S1_)) rfl rfl (by decide) (vc_266e 0 S0_ hI_ ) rfl (fun xx41_ Sx36_ px39_ => ?_) (fun u_ Sx36_ px39_ => ?_)
          · obtain ⟨px39m, hIx37_, hFx38_, px39_⟩ := px39_
            refine Or.inr ⟨_, _, rfl, by first | exact px39m | (simp only [List.mem_cons, List.not_mem_nil, or_false] at px39m ⊢; omega), hIx37_, ai_fr_tr hF_ (fr_le hFx38_ rfl), ?_⟩
            first | exact px39_.2 | exact px39_ | rfl
          · exact absurd rfl px39_.2.2.2.1
        · have cx35_ : ¬ (3 < wh_) := of_decide_eq_false cx35_
          refine sm_T_go 2 (c1 := (43, [some (.inr (.inr (some (12, 0)))), some (.inl lb_), some (.inl k_), some (.inl wh_), some (.inr (.inr (some (5, lb_.toNat))))], [.inl 1], S0_)) rfl ?_
          refine sm_T_cale (d1_ := 0) (Q1_ := vq_266e 1 S0_) (Q2_ := (fun ex_ S1_ => ex_ ∈ ([1] : List Nat) ∧ vx_266e 1 S0_ S1_)) rfl rfl (by decide) (vc_266e 1 S0_ hI_ ) rfl (fun xx47_ Sx42_ px45_ => ?_) (fun u_ Sx42_ px45_ => ?_)
          · exact absurd px45_.2.2.2.1 (by decide)
          obtain ⟨rfl, -, -, px45_, rfl⟩ := px45_
          refine sm_T_go 2 (c1 := (48, [some (.inr (.inr (some (12, 0)))), some (.inl lb_), some (.inl k_), some (.inl wh_), some (.inr (.inr (some (5, lb_.toNat))))], [.inl (-1), .inl k_], S0_)) rfl ?_
          refine sm_T_br (a := 1) (z := 30) rfl (fun cx48_ => ?_) (fun cx48_ => ?_)
          · have cx48_ : k_ ≠ (-1) := of_decide_eq_true cx48_
            refine sm_T_go 1 (c1 := (79, [some (.inr (.inr (some (12, 0)))), some (.inl lb_), some (.inl k_), some (.inl wh_), some (.inr (.inr (some (5, lb_.toNat))))], [.inl wh_], S0_)) rfl ?_
            by_cases cx49_ : wh_ = 0
            · refine sm_T_sw (t := 104) rfl rfl (by rw [cx49_]; rfl) ?_
              refine sm_T_go 3 (c1 := (110, [some (.inr (.inr (some (12, 0)))), some (.inl lb_), some (.inl k_), some (.inl wh_), some (.inr (.inr (some (5, lb_.toNat))))], [.inl k_, .inr (.inr (some (55, (0 + lb_.toNat))))], S0_)) rfl ?_
              refine sm_T_iald (n := 12) rfl rfl (by omega) (by omega) ?_
              have bx50_ : 0 ≤ S0_.2.2.1 55 (0 + lb_.toNat) k_.toNat ∧ S0_.2.2.1 55 (0 + lb_.toNat) k_.toNat ≤ 3 := hI_.2 55 (0 + lb_.toNat) _
              refine sm_T_ri rfl (Or.inl ⟨_, _, rfl, _, rfl, hI_, hF_, ?_⟩)
              trivial
            by_cases cx51_ : wh_ = 1
            · refine sm_T_sw (t := 112) rfl rfl (by rw [cx51_]; rfl) ?_
              refine sm_T_go 3 (c1 := (118, [some (.inr (.inr (some (12, 0)))), some (.inl lb_), some (.inl k_), some (.inl wh_), some (.inr (.inr (some (5, lb_.toNat))))], [.inl k_, .inr (.inr (some (56, (0 + lb_.toNat))))], S0_)) rfl ?_
              refine sm_T_iald (n := 12) rfl rfl (by omega) (by omega) ?_
              have bx52_ : 0 ≤ S0_.2.2.1 56 (0 + lb_.toNat) k_.toNat ∧ S0_.2.2.1 56 (0 + lb_.toNat) k_.toNat ≤ 255 := hI_.2 56 (0 + lb_.toNat) _
              refine sm_T_ri rfl (Or.inl ⟨_, _, rfl, _, rfl, hI_, hF_, ?_⟩)
              trivial
            by_cases cx53_ : wh_ = 2
            · refine sm_T_sw (t := 120) rfl rfl (by rw [cx53_]; rfl) ?_
              refine sm_T_go 3 (c1 := (126, [some (.inr (.inr (some (12, 0)))), some (.inl lb_), some (.inl k_), some (.inl wh_), some (.inr (.inr (some (5, lb_.toNat))))], [.inl k_, .inr (.inr (some (57, (0 + lb_.toNat))))], S0_)) rfl ?_
              refine sm_T_iald (n := 12) rfl rfl (by omega) (by omega) ?_
              have bx54_ : 0 ≤ S0_.2.2.1 57 (0 + lb_.toNat) k_.toNat ∧ S0_.2.2.1 57 (0 + lb_.toNat) k_.toNat ≤ 1000 := hI_.2 57 (0 + lb_.toNat) _
              refine sm_T_ri rfl (Or.inl ⟨_, _, rfl, _, rfl, hI_, hF_, ?_⟩)
              trivial
            refine sm_T_sw (t := 128) rfl rfl (by (have hh_ : wh_ < 0 ∨ 3 ≤ wh_ := by omega); rcases hh_ with hh_ | hh_; (exact sm_swd (Or.inl hh_)); (exact sm_swd (Or.inr (by simp only [List.length_cons, List.length_nil]; omega)))) ?_
            refine sm_T_go 3 (c1 := (134, [some (.inr (.inr (some (12, 0)))), some (.inl lb_), some (.inl k_), some (.inl wh_), some (.inr (.inr (some (5, lb_.toNat))))], [.inl k_, .inr (.inr (some (58, (0 + lb_.toNat))))], S0_)) rfl ?_
            refine sm_T_iald (n := 12) rfl rfl (by omega) (by omega) ?_
            have bx55_ : 0 ≤ S0_.2.2.1 58 (0 + lb_.toNat) k_.toNat ∧ S0_.2.2.1 58 (0 + lb_.toNat) k_.toNat ≤ 100 := hI_.2 58 (0 + lb_.toNat) _
            refine sm_T_ri rfl (Or.inl ⟨_, _, rfl, _, rfl, hI_, hF_, ?_⟩)
            trivial
          · have cx48_ : ¬ (k_ ≠ (-1)) := of_decide_eq_false cx48_
            refine sm_T_go 1 (c1 := (52, [some (.inr (.inr (some (12, 0)))), some (.inl lb_), some (.inl k_), some (.inl wh_), some (.inr (.inr (some (5, lb_.toNat))))], [.inl wh_], S0_)) rfl ?_
            refine sm_T_b0 (a := 1) (z := 11) rfl (fun cx56_ => ?_) (fun cx56_ => ?_)
            · have cx56_ : wh_ ≠ 0 := of_decide_eq_true cx56_
              refine sm_T_go 2 (c1 := (65, [some (.inr (.inr (some (12, 0)))), some (.inl lb_), some (.inl k_), some (.inl wh_), some (.inr (.inr (some (5, lb_.toNat))))], [.inl 1, .inl wh_], S0_)) rfl ?_
              refine sm_T_br (a := 1) (z := 11) rfl (fun cx57_ => ?_) (fun cx57_ => ?_)
              · have cx57_ : wh_ ≠ 1 := of_decide_eq_true cx57_
                refine sm_T_go 1 (c1 := (77, [some (.inr (.inr (some (12, 0)))), some (.inl lb_), some (.inl k_), some (.inl wh_), some (.inr (.inr (some (5, lb_.toNat))))], [.inl 0], S0_)) rfl ?_
                refine sm_T_ri rfl (Or.inl ⟨_, _, rfl, _, rfl, hI_, hF_, ?_⟩)
                trivial
              · have cx57_ : ¬ (wh_ ≠ 1) := of_decide_eq_false cx57_
                have bx58_ : (-1) ≤ S0_.1 5 lb_.toNat 2 ∧ S0_.1 5 lb_.toNat 2 ≤ 11 := hI_.1 5 lb_.toNat 2 rfl
                refine sm_T_go 3 (c1 := (77, [some (.inr (.inr (some (12, 0)))), some (.inl lb_), some (.inl k_), some (.inl wh_), some (.inr (.inr (some (5, lb_.toNat))))], [.inl (S0_.1 5 lb_.toNat 2)], S0_)) rfl ?_
                refine sm_T_ri rfl (Or.inl ⟨_, _, rfl, _, rfl, hI_, hF_, ?_⟩)
                trivial
            · have cx56_ : ¬ (wh_ ≠ 0) := of_decide_eq_false cx56_
              refine sm_T_go 3 (c1 := (77, [some (.inr (.inr (some (12, 0)))), some (.inl lb_), some (.inl k_), some (.inl wh_), some (.inr (.inr (some (5, lb_.toNat))))], [.inl (S0_.1 5 lb_.toNat 1)], S0_)) rfl ?_
              refine sm_T_ri rfl (Or.inl ⟨_, _, rfl, _, rfl, hI_, hF_, ?_⟩)
              trivial
end
/-! 99.zj4 -/
section
/-! bits; other chips; written by wip/p55/gen/vg -/

/-! bits of_ numbers, roughly -/
theorem i_and_n (x_ y_ : Int) : -2147483648 ≤ i_and x_ y_ ∧ i_and x_ y_ ≤ 2147483647 := sm_ni_toInt _
theorem i_xor_n (x_ y_ : Int) : -2147483648 ≤ i_xor x_ y_ ∧ i_xor x_ y_ ≤ 2147483647 := sm_ni_toInt _
theorem i_shl_n (x_ y_ : Int) : -2147483648 ≤ i_shl x_ y_ ∧ i_shl x_ y_ ≤ 2147483647 := sm_ni_toInt _
theorem i_shr_n (x_ y_ : Int) : -2147483648 ≤ i_shr x_ y_ ∧ i_shr x_ y_ ≤ 2147483647 := sm_ni_toInt _
theorem i_ushr_n (x_ y_ : Int) : -2147483648 ≤ i_ushr x_ y_ ∧ i_ushr x_ y_ ≤ 2147483647 := sm_ni_toInt _
theorem l_l2i_n (x_ : Int) : -2147483648 ≤ l_l2i x_ ∧ l_l2i x_ ≤ 2147483647 := sm_ni_toInt _
theorem i_and_p {x_ y_ : Int} (hx_ : 0 ≤ x_ ∧ x_ ≤ 2147483647) (hy_ : 0 ≤ y_ ∧ y_ ≤ 2147483647) : 0 ≤ i_and x_ y_ ∧ i_and x_ y_ ≤ x_ ∧ i_and x_ y_ ≤ y_ := by
  have e_ : i_and x_ y_ = ((x_.toNat &&& y_.toNat : Nat) : Int) := bt_and_nat hx_.1 (by omega) hy_.1 (by omega)
  have h_ : (x_.toNat &&& y_.toNat) ≤ y_.toNat := Nat.and_le_right
  have g_ : (x_.toNat &&& y_.toNat) ≤ x_.toNat := Nat.and_le_left
  rw [e_]
  omega
theorem sm_T_incw {P_ : sm_P} {d_ mid_ pc_ n0_ a_ b_ e_ : Nat} {z_ v_ : Int} {L_ : sm_L} {st_ : List sm_V} {S_ : sm_S} {Q_ : sm_R → Prop} (hx_ : P_.1 mid_ pc_ = some (8, n0_, a_, b_, e_, z_)) (hL_ : L_.getD a_ none = some (.inl v_)) (k_ : sm_T P_ d_ mid_ (pc_ + n0_, sm_s1 L_ a_ (.inl (i_add v_ z_)), st_, S_) Q_) : sm_T P_ d_ mid_ (pc_, L_, st_, S_) Q_ := by
  refine sm_T_stp hx_ (Nat.le_of_ble_eq_true rfl) ?_ k_
  simp only [sm_stp, hL_]
  rfl
theorem mul_b {x_ y_ X_ Y_ Z_ : Int} (hx_ : 0 ≤ x_ ∧ x_ ≤ X_) (hy_ : 0 ≤ y_ ∧ y_ ≤ Y_) (hz_ : X_ * Y_ = Z_) : 0 ≤ x_ * y_ ∧ x_ * y_ ≤ Z_ := by
  refine ⟨Int.mul_nonneg hx_.1 hy_.1, ?_⟩
  rw [← hz_]
  exact Int.mul_le_mul hx_.2 hy_.2 hy_.1 (by omega)
theorem i_and_y (x_ : Int) {y_ : Int} (hy_ : 0 ≤ y_ ∧ y_ ≤ 2147483647) : 0 ≤ i_and x_ y_ ∧ i_and x_ y_ ≤ y_ := by
  have e_ : (Int32.ofInt y_).toInt = y_ := Int32.toInt_ofInt_of_le (by omega) (by omega)
  unfold i_and
  generalize Int32.ofInt x_ = a_ at *
  generalize Int32.ofInt y_ = b_ at *
  have e1_ : (a_ &&& b_).toInt = (a_.toBitVec &&& b_.toBitVec).toInt := rfl
  have e2_ : b_.toInt = b_.toBitVec.toInt := rfl
  rw [e1_]
  rw [e2_] at e_
  generalize a_.toBitVec = u_ at *
  generalize b_.toBitVec = w_ at *
  have l_ : (u_ &&& w_).toNat ≤ w_.toNat := by rw [BitVec.toNat_and]; exact Nat.and_le_right
  have n0_ := w_.isLt
  rw [BitVec.toInt_eq_toNat_cond] at e_ ⊢
  split at e_ <;> split <;> omega
theorem i_and_x {x_ : Int} (y_ : Int) (hx_ : 0 ≤ x_ ∧ x_ ≤ 2147483647) : 0 ≤ i_and x_ y_ ∧ i_and x_ y_ ≤ x_ := by
  have e_ : i_and x_ y_ = i_and y_ x_ := by
    unfold i_and
    rw [Int32.and_comm]
  rw [e_]
  exact i_and_y y_ hx_
theorem i_shr_p {x_ e_ : Int} (h0_ : 0 ≤ e_) (h1_ : e_ ≤ 31) (hx_ : 0 ≤ x_ ∧ x_ ≤ 2147483647) : 0 ≤ i_shr x_ e_ ∧ i_shr x_ e_ ≤ x_ := by
  rw [i_shrv h0_ h1_ (by omega)]
  have p_ := pw_pos e_.toNat
  exact ⟨Int.ediv_nonneg hx_.1 (by omega), Int.ediv_le_self _ hx_.1⟩
theorem i_shl_1 {x_ e_ : Int} (hx_ : x_ = 1) (h_ : 0 ≤ e_ ∧ e_ ≤ 12) : 1 ≤ i_shl x_ e_ ∧ i_shl x_ e_ ≤ 4096 := by
  rw [hx_, i_shl1 h_.1 (by omega)]
  have p_ := pw_pos e_.toNat
  have q_ := pw_le (n := e_.toNat) (m := 12) (by omega)
  omega
theorem rd_ne_ {S_ : sm_S} {t'_ i'_ t_ i_ k_ : Nat} {z_ : Int} (h_ : t'_ ≠ t_) : (sm_aI S_ t_ i_ k_ z_).2.2.1 t'_ i'_ = S_.2.2.1 t'_ i'_ := funext fun _ => rd_ne h_
/-! other chips stay as_ they were -/
def ckn (t_ : Nat) : Bool := t_ == 0 || t_ == 2 || t_ == 4 || t_ == 5 || (decide (14 ≤ t_) && decide (t_ < 26)) || (decide (34 ≤ t_) && decide (t_ < 42)) || (decide (48 ≤ t_) && decide (t_ < 59))
def cof (t_ : Nat) : Nat := if t_ = 5 ∨ (55 ≤ t_ ∧ t_ < 59) then 3 else 0
def cdf (ii_ : Nat) (S_ S'_ : sm_S) : Prop := ∀ t_, ckn t_ = true → ∀ i_, i_ ≠ cof t_ + ii_ → (∀ k_, S'_.1 t_ i_ k_ = S_.1 t_ i_ k_) ∧ S'_.2.2.1 t_ i_ = S_.2.2.1 t_ i_
theorem cdf_rf {ii_ : Nat} {S_ : sm_S} : cdf ii_ S_ S_ := fun _ _ _ _ => ⟨fun _ => rfl, rfl⟩
theorem cdf_tr {ii_ : Nat} {S_ S'_ S2_ : sm_S} (h_ : cdf ii_ S_ S'_) (g_ : cdf ii_ S'_ S2_) : cdf ii_ S_ S2_ := fun t_ ht_ i_ hi_ => ⟨fun k_ => ((g_ t_ ht_ i_ hi_).1 k_).trans ((h_ t_ ht_ i_ hi_).1 k_), (g_ t_ ht_ i_ hi_).2.trans (h_ t_ ht_ i_ hi_).2⟩
theorem cdf_cg {ii_ jj_ : Nat} {S_ S'_ : sm_S} (e_ : ii_ = jj_) (h_ : cdf ii_ S_ S'_) : cdf jj_ S_ S'_ := e_ ▸ h_
def cwf (w_ : sx_Wl) : Bool := w_.1.all (fun q_ => !ckn q_.1) && w_.2.1.all (fun t_ => !ckn t_)
theorem cdf_fr {w_ : sx_Wl} {ii_ : Nat} {S_ S'_ : sm_S} (g_ : ai_fr (sx_W w_) S_ S'_) (h_ : cwf w_ = true) : cdf ii_ S_ S'_ := fun t_ ht_ i_ _ => by
  unfold cwf at h_
  rw [Bool.and_eq_true] at h_
  refine ⟨fun k_ => g_.1 t_ i_ k_ ?_, fr_arr g_ ?_⟩
  · unfold sx_W
    rw [List.any_eq_false]
    intro q_ hq_ z_
    have u_ := List.all_eq_true.mp h_.1 q_ hq_
    rw [Bool.and_eq_true] at z_
    have e_ : q_.1 = t_ := of_decide_eq_true z_.1
    rw [e_, ht_] at u_
    exact absurd u_ (by decide)
  · unfold sx_W
    rw [List.any_eq_false]
    intro q_ hq_ z_
    have u_ := List.all_eq_true.mp h_.2 q_ hq_
    have e_ : q_ = t_ := of_decide_eq_true z_
    rw [e_, ht_] at u_
    exact absurd u_ (by decide)
theorem cdf_pI {ii_ t_ i_ k_ : Nat} {S_ S'_ : sm_S} {v_ : Int} (h_ : cdf ii_ S_ S'_) (g_ : ckn t_ = false ∨ i_ = cof t_ + ii_) : cdf ii_ S_ (sm_pI S'_ t_ i_ k_ v_) := fun t1_ ht_ j_ hj_ => ⟨fun k1_ => by
  rw [← (h_ t1_ ht_ j_ hj_).1 k1_]
  exact sm_up_ne (fun z_ => by
    have z1_ := z_.1
    subst z1_
    rcases g_ with g_ | g_
    · rw [ht_] at g_; exact absurd g_ (by decide)
    · exact hj_ (z_.2.1.trans g_)), (h_ t1_ ht_ j_ hj_).2⟩
theorem cdf_aI {ii_ t_ i_ k_ : Nat} {S_ S'_ : sm_S} {v_ : Int} (h_ : cdf ii_ S_ S'_) (g_ : ckn t_ = false ∨ i_ = cof t_ + ii_) : cdf ii_ S_ (sm_aI S'_ t_ i_ k_ v_) := fun t1_ ht_ j_ hj_ => ⟨(h_ t1_ ht_ j_ hj_).1, by
  rw [← (h_ t1_ ht_ j_ hj_).2]
  funext k1_
  exact sm_up_ne (fun z_ => by
    have z1_ := z_.1
    subst z1_
    rcases g_ with g_ | g_
    · rw [ht_] at g_; exact absurd g_ (by decide)
    · exact hj_ (z_.2.1.trans g_))⟩
theorem cdf_aL {ii_ t_ i_ k_ : Nat} {S_ S'_ : sm_S} {v_ : Int} (h_ : cdf ii_ S_ S'_) : cdf ii_ S_ (sm_aL S'_ t_ i_ k_ v_) := h_
theorem cdf_pR {ii_ t_ i_ k_ : Nat} {S_ S'_ : sm_S} {v_ : Option Nat} (h_ : cdf ii_ S_ S'_) : cdf ii_ S_ (sm_pR S'_ t_ i_ k_ v_) := h_
theorem cdf_ac {ii_ t_ i_ t1_ i1_ a_ c_ k_ : Nat} {S_ S'_ : sm_S} (h_ : cdf ii_ S_ S'_) (g_ : ckn t1_ = false ∨ i1_ = cof t1_ + ii_) : cdf ii_ S_ (sm_acI S'_ t_ i_ t1_ i1_ a_ c_ k_) := fun t2_ ht_ j_ hj_ => ⟨(h_ t2_ ht_ j_ hj_).1, by
  rw [← (h_ t2_ ht_ j_ hj_).2]
  exact sm_acI_ne (fun z_ => by
    have z1_ := z_.1
    subst z1_
    rcases g_ with g_ | g_
    · rw [ht_] at g_; exact absurd g_ (by decide)
    · exact hj_ (z_.2.trans g_))⟩
end
/-! 99.zj5a -/
section
/-! machines compared; written by wip/p55/gen/vg -/

/-! machines compared -/
/-- pairs of_ states met_: each has_ one_ before it_, or is_ the_ first -/
def prf (S_ : sm_S) : Prop := ∀ j_ : Nat, j_ < 4096 → S_.2.2.1 113 0 j_ ≠ -2 → S_.2.2.1 113 0 j_ = -1 ∨ (0 ≤ S_.2.2.1 113 0 j_ ∧ S_.2.2.1 113 0 (S_.2.2.1 113 0 j_).toNat ≠ -2)
def pit (S_ : sm_S) (p_ : Int) : Nat → Int
  | 0 => p_
  | n_ + 1 => S_.2.2.1 113 0 (pit S_ p_ n_).toNat
def pn2 (f_ : Nat → Int) (k_ : Nat) : Int := if f_ k_ = -2 then 0 else 1
theorem pn2_1 {f_ : Nat → Int} {k_ : Nat} : pn2 f_ k_ = 1 ↔ f_ k_ ≠ -2 := by
  unfold pn2
  split
  · rename_i h_
    exact ⟨fun z_ => absurd z_ (by decide), fun z_ => absurd h_ z_⟩
  · rename_i h_
    exact ⟨fun _ => h_, fun _ => rfl⟩
theorem or64 {a_ b_ : Int} (ha_ : 0 ≤ a_ ∧ a_ < 64) (hb_ : 0 ≤ b_ ∧ b_ < 64) : i_or (64 * a_) b_ = 64 * a_ + b_ := by
  have e_ : i_or (64 * a_) b_ = (((64 * a_).toNat ||| b_.toNat : Nat) : Int) := bt_or_nat (by omega) (by omega) hb_.1 (by omega)
  rw [e_]
  have q_ : a_.toNat <<< 6 + b_.toNat = a_.toNat <<< 6 ||| b_.toNat := Nat.shiftLeft_add_eq_or_of_lt (by omega) _
  have z_ : (64 * a_).toNat = a_.toNat <<< 6 := by rw [Nat.shiftLeft_eq]; omega
  rw [z_, ← q_, Nat.shiftLeft_eq]
  omega
/-! java/util/Arrays.fill -/
def vw_2p : sx_Wl := ([], [113], [])
def vq_2p (v0_ : Int) (S0_ : sm_S) (u_ : Option sm_V) (S1_ : sm_S) : Prop := u_ = none ∧ gi S1_ ∧ ai_fr (sx_W vw_2p) S0_ S1_ ∧ (∀ j_, j_ < 4096 → S1_.2.2.1 113 0 j_ = v0_)
set_option maxHeartbeats 400000 in
theorem vl_2p {sc_ : Nat × (Nat → Int)} (v0_ : Int) (S0_ : sm_S) (hv_ : (-2) ≤ v0_ ∧ v0_ ≤ 4095) : ∀ nn_ : Nat, (∀ (k_ : Int) (S_ : sm_S), gi S_ → ai_fr (sx_W vw_2p) S0_ S_ → ((0 ≤ k_ ∧ k_ ≤ 4096) ∧ (∀ j_, j_ < k_.toNat → S_.2.2.1 113 0 j_ = v0_) ∧ True) → ((4096 - k_).toNat) < nn_ → sm_T (mt_P sc_) 0 2 (5, [some (.inr (.inr (some (113, 0)))), some (.inl v0_), some (.inl k_), some (.inl 4096)], [], S_) (fun ro9_ => ∃ u_ S1_, ro9_ = (.inl u_, S1_, 0) ∧ vq_2p v0_ S0_ u_ S1_)) := by
  intro nn_
  induction nn_ with
  | zero => exact fun _ _ _ _ _ h_ => absurd h_ (Nat.not_lt_zero _)
  | succ nn_ ih_ =>
    rintro k_ S_ hI_ hF_ ⟨h0_, h1_, -⟩ hm_
    refine sm_T_go 2 (c1 := (7, [some (.inr (.inr (some (113, 0)))), some (.inl v0_), some (.inl k_), some (.inl 4096)], [.inl 4096, .inl k_], S_)) rfl ?_
    refine sm_T_br (a := 3) (z := 13) rfl (fun cx1_ => ?_) (fun cx1_ => ?_)
    · have cx1_ : 4096 ≤ k_ := of_decide_eq_true cx1_
      refine sm_T_rv rfl ⟨_, _, rfl, rfl, hI_, hF_, ?_⟩
      exact fun j_ hj_ => h1_ j_ (by omega)
    · have cx1_ : ¬ (4096 ≤ k_) := of_decide_eq_false cx1_
      refine sm_T_go 3 (c1 := (13, [some (.inr (.inr (some (113, 0)))), some (.inl v0_), some (.inl k_), some (.inl 4096)], [.inl v0_, .inl k_, .inr (.inr (some (113, 0)))], S_)) rfl ?_
      refine sm_T_iast (n := 4096) rfl rfl (by omega) (by omega) ?_
      have hIx2_ : gi (sm_aI S_ 113 0 k_.toNat v0_) := gi_aI hI_ (show (-2) ≤ v0_ ∧ v0_ ≤ 4095 from ⟨by omega, by omega⟩)
      have hFx3_ : ai_fr (sx_W vw_2p) S0_ (sm_aI S_ 113 0 k_.toNat v0_) := ai_fr_tr hF_ (ai_fr_aI rfl)
      refine sm_T_inc (a := 2) (z := 1) (v := k_) (w := k_ + 1) rfl rfl (by omega) (by omega) (by omega) ?_ -- pc_ 14
      refine sm_T_go 1 (c1 := (5, [some (.inr (.inr (some (113, 0)))), some (.inl v0_), some (.inl (k_ + 1)), some (.inl 4096)], [], sm_aI S_ 113 0 k_.toNat v0_)) rfl ?_
      refine ih_ (k_ + 1) (sm_aI S_ 113 0 k_.toNat v0_) hIx2_ hFx3_ ⟨?_, ?_, trivial⟩ ?_
      · omega
      · intro j_ hj_
        rw [rd_eq]
        by_cases z_ : j_ = k_.toNat
        · rw [if_pos z_]
        · rw [if_neg z_]; exact h1_ j_ (by omega)
      · omega
set_option maxHeartbeats 400000 in
theorem vc_2p {sc_ : Nat × (Nat → Int)} (v0_ : Int) (S0_ : sm_S) (hI_ : gi S0_) (hv_ : (-2) ≤ v0_ ∧ v0_ ≤ 4095) : sm_T (mt_P sc_) 0 2 (0, [some (.inr (.inr (some (113, 0)))), some (.inl v0_), none, none], [], S0_) (fun ro9_ => ∃ u_ S1_, ro9_ = (.inl u_, S1_, 0) ∧ vq_2p v0_ S0_ u_ S1_) := by
  have hF_ : ai_fr (sx_W vw_2p) S0_ S0_ := ai_fr_rf
  refine sm_T_go 5 (c1 := (5, [some (.inr (.inr (some (113, 0)))), some (.inl v0_), some (.inl 0), some (.inl 4096)], [], S0_)) rfl ?_
  refine (vl_2p v0_ S0_ hv_ _) 0 S0_ hI_ hF_ ⟨?_, ?_, trivial⟩ (Nat.lt_succ_self _)
  · omega
  · (intro j_ hj_; exact absurd hj_ (Nat.not_lt_zero _))
end
/-! 99.zj5b -/
section
/-! ChipFlow.keepWitness -/
def vw_277 : sx_Wl := ([(12, 16)], [117], [])
def vq_277 (lp_ : Int) (li_ : Int) (S0_ : sm_S) (u_ : Option sm_V) (S1_ : sm_S) : Prop := u_ = none ∧ gi S1_ ∧ ai_fr (sx_W vw_277) S0_ S1_ ∧ (0 ≤ (S1_.1 12 0 16))
set_option maxHeartbeats 400000 in
theorem vl_277 {sc_ : Nat × (Nat → Int)} (lp_ : Int) (li_ : Int) (S0_ : sm_S) (hp_ : prf S0_) (h1_ : 0 ≤ lp_ ∧ lp_ ≤ 4095) (h2_ : 0 ≤ li_ ∧ li_ ≤ 4095) (h3_ : S0_.2.2.1 113 0 lp_.toNat ≠ -2) : ∀ nn_ : Nat, (∀ (ck_ : Int) (pr_ : Int) (S_ : sm_S), gi S_ → ai_fr (sx_W vw_277) S0_ S_ → ((1 ≤ ck_ ∧ ck_ ≤ 4096 ∧ 0 ≤ pr_ ∧ pr_ ≤ 4095) ∧ (S0_.2.2.1 113 0 pr_.toNat ≠ -2) ∧ (pr_ = pit S0_ lp_ (ck_ - 1).toNat) ∧ (∀ i9_ : Nat, (i9_ : Int) < ck_ → 0 ≤ pit S0_ lp_ i9_ ∧ pit S0_ lp_ i9_ ≤ 4095) ∧ True) → ((9000 - ck_).toNat) < nn_ → sm_T (mt_P sc_) 0 277 (5, [some (.inr (.inr (some (12, 0)))), some (.inl lp_), some (.inl li_), some (.inl ck_), some (.inl pr_), none], [], S_) (fun ro9_ => ∃ u_ S1_, ro9_ = (.inl u_, S1_, 0) ∧ vq_277 lp_ li_ S0_ u_ S1_)) ∧ (∀ (ck_ : Int) (pr_ : Int) (kx_ : Int) (S_ : sm_S), gi S_ → ai_fr (sx_W vw_277) S0_ S_ → ((1 ≤ ck_ ∧ ck_ ≤ 4096 ∧ -1 ≤ kx_ ∧ kx_ ≤ ck_ - 2 ∧ 0 ≤ (S_.1 12 0 16)) ∧ (pr_ = pit S0_ lp_ (ck_ - 2 - kx_).toNat) ∧ (∀ i9_ : Nat, (i9_ : Int) < ck_ → 0 ≤ pit S0_ lp_ i9_ ∧ pit S0_ lp_ i9_ ≤ 4095) ∧ True) → ((kx_ + 2).toNat) < nn_ → sm_T (mt_P sc_) 0 277 (60, [some (.inr (.inr (some (12, 0)))), some (.inl lp_), some (.inl li_), some (.inl ck_), some (.inl pr_), some (.inl kx_)], [], S_) (fun ro9_ => ∃ u_ S1_, ro9_ = (.inl u_, S1_, 0) ∧ vq_277 lp_ li_ S0_ u_ S1_)) := by
  intro nn_
  induction nn_ with
  | zero => exact ⟨fun _ _ _ _ _ _ h_ => absurd h_ (Nat.not_lt_zero _), fun _ _ _ _ _ _ _ h_ => absurd h_ (Nat.not_lt_zero _)⟩
  | succ nn_ ih_ =>
    refine ⟨?_, ?_⟩
    · rintro ck_ pr_ S_ hI_ hF_ ⟨h0_, ha_, hb_, hc_, -⟩ hm_
      have f113_ : S_.2.2.1 113 0 = S0_.2.2.1 113 0 := fr_arr hF_ rfl
      refine sm_T_go 3 (c1 := (11, [some (.inr (.inr (some (12, 0)))), some (.inl lp_), some (.inl li_), some (.inl ck_), some (.inl pr_), none], [.inl pr_, .inr (.inr (some (113, 0)))], S_)) rfl ?_
      refine sm_T_iald (n := 4096) rfl rfl (by omega) (by omega) ?_
      have bx1_ : (-2) ≤ S_.2.2.1 113 0 pr_.toNat ∧ S_.2.2.1 113 0 pr_.toNat ≤ 4095 := hI_.2 113 0 _
      refine sm_T_go 1 (c1 := (13, [some (.inr (.inr (some (12, 0)))), some (.inl lp_), some (.inl li_), some (.inl ck_), some (.inl pr_), none], [.inl (-1), .inl (S_.2.2.1 113 0 pr_.toNat)], S_)) rfl ?_
      refine sm_T_br (a := 0) (z := 25) rfl (fun cx2_ => ?_) (fun cx2_ => ?_)
      · have cx2_ : (S_.2.2.1 113 0 pr_.toNat) = (-1) := of_decide_eq_true cx2_
        have hIx3_ : gi (sm_pI S_ 12 0 16 ck_) := gi_pI hI_ (show 0 ≤ ck_ ∧ ck_ ≤ 4096 from ⟨by omega, by omega⟩)
        have hFx4_ : ai_fr (sx_W vw_277) S0_ (sm_pI S_ 12 0 16 ck_) := ai_fr_tr hF_ (ai_fr_pI rfl)
        refine sm_T_go 7 (c1 := (49, [some (.inr (.inr (some (12, 0)))), some (.inl lp_), some (.inl li_), some (.inl ck_), some (.inl pr_), none], [.inl 1, .inl ck_, .inr (.inr (some (117, 0)))], sm_pI S_ 12 0 16 ck_)) rfl ?_
        refine sm_T_bin (w := ck_ - 1) rfl (bi_sub (by omega) (by omega) (by omega)) ?_ -- pc_ 49
        refine sm_T_go 1 (c1 := (51, [some (.inr (.inr (some (12, 0)))), some (.inl lp_), some (.inl li_), some (.inl ck_), some (.inl pr_), none], [.inl li_, .inl (ck_ - 1), .inr (.inr (some (117, 0)))], sm_pI S_ 12 0 16 ck_)) rfl ?_
        refine sm_T_iast (n := 4096) rfl rfl (by omega) (by omega) ?_
        have hIx5_ : gi (sm_aI (sm_pI S_ 12 0 16 ck_) 117 0 (ck_ - 1).toNat li_) := gi_aI hIx3_ (show 0 ≤ li_ ∧ li_ ≤ 4095 from ⟨by omega, by omega⟩)
        have hFx6_ : ai_fr (sx_W vw_277) S0_ (sm_aI (sm_pI S_ 12 0 16 ck_) 117 0 (ck_ - 1).toNat li_) := ai_fr_tr hFx4_ (ai_fr_aI rfl)
        refine sm_T_go 4 (c1 := (57, [some (.inr (.inr (some (12, 0)))), some (.inl lp_), some (.inl li_), some (.inl ck_), some (.inl lp_), none], [.inl 2, .inl ck_], sm_aI (sm_pI S_ 12 0 16 ck_) 117 0 (ck_ - 1).toNat li_)) rfl ?_
        refine sm_T_bin (w := ck_ - 2) rfl (bi_sub (by omega) (by omega) (by omega)) ?_ -- pc_ 57
        refine sm_T_go 1 (c1 := (60, [some (.inr (.inr (some (12, 0)))), some (.inl lp_), some (.inl li_), some (.inl ck_), some (.inl lp_), some (.inl (ck_ - 2))], [], sm_aI (sm_pI S_ 12 0 16 ck_) 117 0 (ck_ - 1).toNat li_)) rfl ?_
        refine ih_.2 ck_ lp_ (ck_ - 2) (sm_aI (sm_pI S_ 12 0 16 ck_) 117 0 (ck_ - 1).toNat li_) hIx5_ hFx6_ ⟨?_, ?_, ?_, trivial⟩ ?_
        · (simp only [rf_eq, rd_fa, rd_af]; omega)
        · (rw [show (ck_ - 2 - (ck_ - 2)).toNat = 0 by omega]; rfl)
        · exact hc_
        · omega
      · have cx2_ : ¬ ((S_.2.2.1 113 0 pr_.toNat) = (-1)) := of_decide_eq_false cx2_
        have pq9_ := hp_ pr_.toNat (by omega) ha_
        rw [f113_] at cx2_
        have pz9_ : 0 ≤ S0_.2.2.1 113 0 pr_.toNat ∧ S0_.2.2.1 113 0 pr_.toNat ≤ 4095 := ⟨by rcases pq9_ with z_ | z_; exact absurd z_ cx2_; exact z_.1, by have w_ := (hI_.2 113 0 pr_.toNat).2; rw [f113_] at w_; exact w_⟩
        refine sm_T_go 2 (c1 := (20, [some (.inr (.inr (some (12, 0)))), some (.inl lp_), some (.inl li_), some (.inl ck_), some (.inl pr_), none], [.inl 4096, .inl ck_], S_)) rfl ?_
        refine sm_T_br (a := 3) (z := 18) rfl (fun cx7_ => ?_) (fun cx7_ => ?_)
        · have cx7_ : 4096 ≤ ck_ := of_decide_eq_true cx7_
          have hIx8_ : gi (sm_pI S_ 12 0 16 ck_) := gi_pI hI_ (show 0 ≤ ck_ ∧ ck_ ≤ 4096 from ⟨by omega, by omega⟩)
          have hFx9_ : ai_fr (sx_W vw_277) S0_ (sm_pI S_ 12 0 16 ck_) := ai_fr_tr hF_ (ai_fr_pI rfl)
          refine sm_T_go 7 (c1 := (49, [some (.inr (.inr (some (12, 0)))), some (.inl lp_), some (.inl li_), some (.inl ck_), some (.inl pr_), none], [.inl 1, .inl ck_, .inr (.inr (some (117, 0)))], sm_pI S_ 12 0 16 ck_)) rfl ?_
          refine sm_T_bin (w := ck_ - 1) rfl (bi_sub (by omega) (by omega) (by omega)) ?_ -- pc_ 49
          refine sm_T_go 1 (c1 := (51, [some (.inr (.inr (some (12, 0)))), some (.inl lp_), some (.inl li_), some (.inl ck_), some (.inl pr_), none], [.inl li_, .inl (ck_ - 1), .inr (.inr (some (117, 0)))], sm_pI S_ 12 0 16 ck_)) rfl ?_
          refine sm_T_iast (n := 4096) rfl rfl (by omega) (by omega) ?_
          have hIx10_ : gi (sm_aI (sm_pI S_ 12 0 16 ck_) 117 0 (ck_ - 1).toNat li_) := gi_aI hIx8_ (show 0 ≤ li_ ∧ li_ ≤ 4095 from ⟨by omega, by omega⟩)
          have hFx11_ : ai_fr (sx_W vw_277) S0_ (sm_aI (sm_pI S_ 12 0 16 ck_) 117 0 (ck_ - 1).toNat li_) := ai_fr_tr hFx9_ (ai_fr_aI rfl)
          refine sm_T_go 4 (c1 := (57, [some (.inr (.inr (some (12, 0)))), some (.inl lp_), some (.inl li_), some (.inl ck_), some (.inl lp_), none], [.inl 2, .inl ck_], sm_aI (sm_pI S_ 12 0 16 ck_) 117 0 (ck_ - 1).toNat li_)) rfl ?_
          refine sm_T_bin (w := ck_ - 2) rfl (bi_sub (by omega) (by omega) (by omega)) ?_ -- pc_ 57
          refine sm_T_go 1 (c1 := (60, [some (.inr (.inr (some (12, 0)))), some (.inl lp_), some (.inl li_), some (.inl ck_), some (.inl lp_), some (.inl (ck_ - 2))], [], sm_aI (sm_pI S_ 12 0 16 ck_) 117 0 (ck_ - 1).toNat li_)) rfl ?_
          refine ih_.2 ck_ lp_ (ck_ - 2) (sm_aI (sm_pI S_ 12 0 16 ck_) 117 0 (ck_ - 1).toNat li_) hIx10_ hFx11_ ⟨?_, ?_, ?_, trivial⟩ ?_
          · (simp only [rf_eq, rd_fa, rd_af]; omega)
          · (rw [show (ck_ - 2 - (ck_ - 2)).toNat = 0 by omega]; rfl)
          · exact hc_
          · omega
        · have cx7_ : ¬ (4096 ≤ ck_) := of_decide_eq_false cx7_
          refine sm_T_inc (a := 3) (z := 1) (v := ck_) (w := ck_ + 1) rfl rfl (by omega) (by omega) (by omega) ?_ -- pc_ 23
          refine sm_T_go 3 (c1 := (32, [some (.inr (.inr (some (12, 0)))), some (.inl lp_), some (.inl li_), some (.inl (ck_ + 1)), some (.inl pr_), none], [.inl pr_, .inr (.inr (some (113, 0)))], S_)) rfl ?_
          refine sm_T_iald (n := 4096) rfl rfl (by omega) (by omega) ?_
          refine sm_T_go 2 (c1 := (5, [some (.inr (.inr (some (12, 0)))), some (.inl lp_), some (.inl li_), some (.inl (ck_ + 1)), some (.inl (S_.2.2.1 113 0 pr_.toNat)), none], [], S_)) rfl ?_
          refine ih_.1 (ck_ + 1) (S_.2.2.1 113 0 pr_.toNat) S_ hI_ hF_ ⟨?_, ?_, ?_, ?_, trivial⟩ ?_
          · (rw [f113_]; omega)
          · (rw [f113_]; rcases pq9_ with z_ | z_; (exfalso; omega); exact z_.2)
          · (rw [f113_, show (ck_ + 1 - 1).toNat = (ck_ - 1).toNat + 1 by omega]; show _ = S0_.2.2.1 113 0 (pit S0_ lp_ (ck_ - 1).toNat).toNat; rw [← hb_])
          · intro i9_ hi9_
            by_cases z_ : (i9_ : Int) < ck_
            · exact hc_ i9_ z_
            · rw [show i9_ = (ck_ - 1).toNat + 1 by omega]
              show 0 ≤ S0_.2.2.1 113 0 (pit S0_ lp_ (ck_ - 1).toNat).toNat ∧ S0_.2.2.1 113 0 (pit S0_ lp_ (ck_ - 1).toNat).toNat ≤ 4095
              rw [← hb_]
              exact pz9_
          · omega
    · rintro ck_ pr_ kx_ S_ hI_ hF_ ⟨h0_, hb_, hc_, -⟩ hm_
      have f113_ : S_.2.2.1 113 0 = S0_.2.2.1 113 0 := fr_arr hF_ rfl
      have hq9_ := hc_ (ck_ - 2 - kx_).toNat (by omega)
      rw [← hb_] at hq9_
      refine sm_T_go 1 (c1 := (62, [some (.inr (.inr (some (12, 0)))), some (.inl lp_), some (.inl li_), some (.inl ck_), some (.inl pr_), some (.inl kx_)], [.inl kx_], S_)) rfl ?_
      refine sm_T_b0 (a := 2) (z := 32) rfl (fun cx1_ => ?_) (fun cx1_ => ?_)
      · have cx1_ : kx_ < 0 := of_decide_eq_true cx1_
        refine sm_T_rv rfl ⟨_, _, rfl, rfl, hI_, hF_, ?_⟩
        omega
      · have cx1_ : ¬ (kx_ < 0) := of_decide_eq_false cx1_
        have f2_ : S_.2.2.1 113 0 pr_.toNat = S0_.2.2.1 113 0 pr_.toNat := by rw [f113_]
        refine sm_T_go 6 (c1 := (77, [some (.inr (.inr (some (12, 0)))), some (.inl lp_), some (.inl li_), some (.inl ck_), some (.inl pr_), some (.inl kx_)], [.inl pr_, .inr (.inr (some (114, 0))), .inl kx_, .inr (.inr (some (117, 0)))], S_)) rfl ?_
        refine sm_T_iald (n := 4096) rfl rfl (by omega) (by omega) ?_
        have bx2_ : 0 ≤ S_.2.2.1 114 0 pr_.toNat ∧ S_.2.2.1 114 0 pr_.toNat ≤ 4095 := hI_.2 114 0 _
        refine sm_T_iast (n := 4096) rfl rfl (by omega) (by omega) ?_
        have hIx3_ : gi (sm_aI S_ 117 0 kx_.toNat (S_.2.2.1 114 0 pr_.toNat)) := gi_aI hI_ (show 0 ≤ (S_.2.2.1 114 0 pr_.toNat) ∧ (S_.2.2.1 114 0 pr_.toNat) ≤ 4095 from ⟨by omega, by omega⟩)
        have hFx4_ : ai_fr (sx_W vw_277) S0_ (sm_aI S_ 117 0 kx_.toNat (S_.2.2.1 114 0 pr_.toNat)) := ai_fr_tr hF_ (ai_fr_aI rfl)
        refine sm_T_go 3 (c1 := (85, [some (.inr (.inr (some (12, 0)))), some (.inl lp_), some (.inl li_), some (.inl ck_), some (.inl pr_), some (.inl kx_)], [.inl pr_, .inr (.inr (some (113, 0)))], sm_aI S_ 117 0 kx_.toNat (S_.2.2.1 114 0 pr_.toNat))) rfl ?_
        refine sm_T_iald (n := 4096) rfl rfl (by omega) (by omega) ?_
        have bx5_ : (-2) ≤ S_.2.2.1 113 0 pr_.toNat ∧ S_.2.2.1 113 0 pr_.toNat ≤ 4095 := hI_.2 113 0 _
        refine sm_T_go 1 (c1 := (88, [some (.inr (.inr (some (12, 0)))), some (.inl lp_), some (.inl li_), some (.inl ck_), some (.inl (S_.2.2.1 113 0 pr_.toNat)), some (.inl kx_)], [], sm_aI S_ 117 0 kx_.toNat (S_.2.2.1 114 0 pr_.toNat))) rfl ?_
        refine sm_T_inc (a := 5) (z := (-1)) (v := kx_) (w := kx_ - 1) rfl rfl (by omega) (by omega) (by omega) ?_ -- pc_ 88
        refine sm_T_go 1 (c1 := (60, [some (.inr (.inr (some (12, 0)))), some (.inl lp_), some (.inl li_), some (.inl ck_), some (.inl (S_.2.2.1 113 0 pr_.toNat)), some (.inl (kx_ - 1))], [], sm_aI S_ 117 0 kx_.toNat (S_.2.2.1 114 0 pr_.toNat))) rfl ?_
        refine ih_.2 ck_ (S_.2.2.1 113 0 pr_.toNat) (kx_ - 1) (sm_aI S_ 117 0 kx_.toNat (S_.2.2.1 114 0 pr_.toNat)) hIx3_ hFx4_ ⟨?_, ?_, ?_, trivial⟩ ?_
        · (simp only [rf_eq, rd_fa, rd_af]; omega)
        · (rw [f113_, show (ck_ - 2 - (kx_ - 1)).toNat = (ck_ - 2 - kx_).toNat + 1 by omega]; show _ = S0_.2.2.1 113 0 (pit S0_ lp_ (ck_ - 2 - kx_).toNat).toNat; rw [← hb_])
        · exact hc_
        · omega
set_option maxHeartbeats 400000 in
theorem vc_277 {sc_ : Nat × (Nat → Int)} (lp_ : Int) (li_ : Int) (S0_ : sm_S) (hI_ : gi S0_) (hp_ : prf S0_) (h1_ : 0 ≤ lp_ ∧ lp_ ≤ 4095) (h2_ : 0 ≤ li_ ∧ li_ ≤ 4095) (h3_ : S0_.2.2.1 113 0 lp_.toNat ≠ -2) : sm_T (mt_P sc_) 0 277 (0, [some (.inr (.inr (some (12, 0)))), some (.inl lp_), some (.inl li_), none, none, none], [], S0_) (fun ro9_ => ∃ u_ S1_, ro9_ = (.inl u_, S1_, 0) ∧ vq_277 lp_ li_ S0_ u_ S1_) := by
  have hF_ : ai_fr (sx_W vw_277) S0_ S0_ := ai_fr_rf
  refine sm_T_go 4 (c1 := (5, [some (.inr (.inr (some (12, 0)))), some (.inl lp_), some (.inl li_), some (.inl 1), some (.inl lp_), none], [], S0_)) rfl ?_
  refine (vl_277 lp_ li_ S0_ hp_ h1_ h2_ h3_ _).1 1 lp_ S0_ hI_ hF_ ⟨?_, ?_, ?_, ?_, trivial⟩ (Nat.lt_succ_self _)
  · omega
  · exact h3_
  · rfl
  · intro i9_ hi9_
    have z_ : i9_ = 0 := by omega
    rw [z_]; exact h1_
end
/-! 99.zj5c -/
section
/-! ChipFlow.compare -/
def vw_276d : sx_Wl := ([(12, 16)], [113, 114, 115, 117], [])
def vq_276d (bg_ : Int) (mk_ : Int) (d1_ : Nat) (dd_ : Nat) (R1_ : Nat) (S0_ : sm_S) (u_ : Option sm_V) (S1_ : sm_S) : Prop := ∃ v_ : Int, u_ = some (.inl v_) ∧ gi S1_ ∧ ai_fr (sx_W vw_276d) S0_ S1_ ∧ (True)
set_option maxHeartbeats 2000000 in
set_option maxRecDepth 20000 in
theorem vl_276d {sc_ : Nat × (Nat → Int)} (bg_ : Int) (mk_ : Int) (d1_ : Nat) (dd_ : Nat) (R1_ : Nat) (S0_ : sm_S) (hd_ : dOk dd_ S0_) (hb_ : 0 ≤ bg_ ∧ bg_ < 2 ^ R1_) (hr_ : R1_ ≤ 6 ∧ (R1_ : Int) + S0_.1 3 dd_ 1 ≤ 12) (ht_ : ∀ p9_ : Nat, p9_ < 4096 → 0 ≤ S0_.2.2.1 47 (0 + d1_) p9_ ∧ S0_.2.2.1 47 (0 + d1_) p9_ < 2 ^ (16 + R1_)) : ∀ nn_ : Nat, (∀ (ip9_ : Int) (tl_ : Int) (hd9_ : Int) (S_ : sm_S), gi S_ → ai_fr (sx_W vw_276d) S0_ S_ → ((prf S_) ∧ (∀ j9_ : Nat, (j9_ : Int) < tl_ → S_.2.2.1 113 0 (S_.2.2.1 115 0 j9_).toNat ≠ -2 ∧ S_.2.2.1 115 0 j9_ / 64 < 2 ^ R1_ ∧ S_.2.2.1 115 0 j9_ % 64 < 2 ^ (S0_.1 3 dd_ 2).toNat) ∧ (tl_ = (cn1 (pn2 (S_.2.2.1 113 0)) 4096 : Int)) ∧ (1 ≤ tl_ ∧ 0 ≤ hd9_ ∧ hd9_ ≤ 4096 ∧ ip9_ = S0_.1 3 dd_ 1) ∧ True) → ((10000 * (5000 - hd9_) + 5000).toNat) < nn_ → sm_T (mt_P sc_) 1 276 (53, [some (.inr (.inr (some (12, 0)))), some (.inr (.inr (some (47, (0 + d1_))))), some (.inl bg_), some (.inr (.inr (some (3, dd_)))), some (.inl mk_), some (.inl ip9_), none, some (.inl tl_), some (.inl hd9_), none, none, none, none, none, none, none], [], S_) (fun ro9_ => ∃ u_ S1_, ro9_ = (.inl u_, S1_, 0) ∧ vq_276d bg_ mk_ d1_ dd_ R1_ S0_ u_ S1_)) ∧ (∀ (ip9_ : Int) (tl_ : Int) (hd9_ : Int) (pr_ : Int) (he_ : Int) (te_ : Int) (ip_ : Int) (S_ : sm_S), gi S_ → ai_fr (sx_W vw_276d) S0_ S_ → ((prf S_) ∧ (∀ j9_ : Nat, (j9_ : Int) < tl_ → S_.2.2.1 113 0 (S_.2.2.1 115 0 j9_).toNat ≠ -2 ∧ S_.2.2.1 115 0 j9_ / 64 < 2 ^ R1_ ∧ S_.2.2.1 115 0 j9_ % 64 < 2 ^ (S0_.1 3 dd_ 2).toNat) ∧ (tl_ = (cn1 (pn2 (S_.2.2.1 113 0)) 4096 : Int)) ∧ (1 ≤ tl_ ∧ 0 ≤ hd9_ ∧ hd9_ < 4096 ∧ ip9_ = S0_.1 3 dd_ 1 ∧ 0 ≤ ip_ ∧ ip_ ≤ 4096 ∧ 0 ≤ pr_ ∧ pr_ ≤ 4095) ∧ (he_ = i_shl (pr_ / 64) ip9_ ∧ te_ = i_shl (pr_ % 64) ip9_) ∧ (S_.2.2.1 113 0 pr_.toNat ≠ -2 ∧ pr_ / 64 < 2 ^ R1_ ∧ pr_ % 64 < 2 ^ (S0_.1 3 dd_ 2).toNat) ∧ True) → ((10000 * (5000 - hd9_) + 4500 - ip_).toNat) < nn_ → sm_T (mt_P sc_) 1 276 (100, [some (.inr (.inr (some (12, 0)))), some (.inr (.inr (some (47, (0 + d1_))))), some (.inl bg_), some (.inr (.inr (some (3, dd_)))), some (.inl mk_), some (.inl ip9_), none, some (.inl tl_), some (.inl hd9_), some (.inl pr_), some (.inl he_), some (.inl te_), some (.inl ip_), none, none, none], [], S_) (fun ro9_ => ∃ u_ S1_, ro9_ = (.inl u_, S1_, 0) ∧ vq_276d bg_ mk_ d1_ dd_ R1_ S0_ u_ S1_)) := by
  intro nn_
  induction nn_ with
  | zero => exact ⟨fun _ _ _ _ _ _ _ h_ => absurd h_ (Nat.not_lt_zero _), fun _ _ _ _ _ _ _ _ _ _ _ h_ => absurd h_ (Nat.not_lt_zero _)⟩
  | succ nn_ ih_ =>
    refine ⟨?_, ?_⟩
    · rintro ip9_ tl_ hd9_ S_ hI_ hF_ ⟨hp_, hq_, hc_, h0_, -⟩ hm_
      have J9_ := dOk_b hd_
      have J9a := J9_.1
      have J9b := J9_.2.1
      have J9c := J9_.2.2.1
      have J9t := J9_.2.2.2.2
      have wa_ := pw_le (n := R1_) (m := 6) (by omega)
      have wb_ := pw_le (n := (S0_.1 3 dd_ 2).toNat) (m := 6) (by omega)
      have wc_ := pw_pos R1_
      have wd_ := pw_pos (S0_.1 3 dd_ 2).toNat
      have fT_ : S_.2.2.1 47 (0 + d1_) = S0_.2.2.1 47 (0 + d1_) := fr_arr hF_ rfl
      have f47_ : S_.2.2.1 47 (0 + dd_) = S0_.2.2.1 47 (0 + dd_) := fr_arr hF_ rfl
      have cl9_ := cn1_le (pn2 (S_.2.2.1 113 0)) 4096
      refine sm_T_go 2 (c1 := (57, [some (.inr (.inr (some (12, 0)))), some (.inr (.inr (some (47, (0 + d1_))))), some (.inl bg_), some (.inr (.inr (some (3, dd_)))), some (.inl mk_), some (.inl ip9_), none, some (.inl tl_), some (.inl hd9_), none, none, none, none, none, none, none], [.inl tl_, .inl hd9_], S_)) rfl ?_
      refine sm_T_br (a := 3) (z := 167) rfl (fun cx1_ => ?_) (fun cx1_ => ?_)
      · have cx1_ : tl_ ≤ hd9_ := of_decide_eq_true cx1_
        refine sm_T_go 1 (c1 := (225, [some (.inr (.inr (some (12, 0)))), some (.inr (.inr (some (47, (0 + d1_))))), some (.inl bg_), some (.inr (.inr (some (3, dd_)))), some (.inl mk_), some (.inl ip9_), none, some (.inl tl_), some (.inl hd9_), none, none, none, none, none, none, none], [.inl 0], S_)) rfl ?_
        refine sm_T_ri rfl ⟨_, _, rfl, _, rfl, hI_, hF_, ?_⟩
        trivial
      · have cx1_ : ¬ (tl_ ≤ hd9_) := of_decide_eq_false cx1_
        refine sm_T_go 2 (c1 := (65, [some (.inr (.inr (some (12, 0)))), some (.inr (.inr (some (47, (0 + d1_))))), some (.inl bg_), some (.inr (.inr (some (3, dd_)))), some (.inl mk_), some (.inl ip9_), none, some (.inl tl_), some (.inl hd9_), none, none, none, none, none, none, none], [.inl 4096, .inl hd9_], S_)) rfl ?_
        refine sm_T_br (a := 3) (z := 159) rfl (fun cx2_ => ?_) (fun cx2_ => ?_)
        · have cx2_ : 4096 ≤ hd9_ := of_decide_eq_true cx2_
          refine sm_T_go 1 (c1 := (225, [some (.inr (.inr (some (12, 0)))), some (.inr (.inr (some (47, (0 + d1_))))), some (.inl bg_), some (.inr (.inr (some (3, dd_)))), some (.inl mk_), some (.inl ip9_), none, some (.inl tl_), some (.inl hd9_), none, none, none, none, none, none, none], [.inl 0], S_)) rfl ?_
          refine sm_T_ri rfl ⟨_, _, rfl, _, rfl, hI_, hF_, ?_⟩
          trivial
        · have cx2_ : ¬ (4096 ≤ hd9_) := of_decide_eq_false cx2_
          have hq9_ := hq_ hd9_.toNat (by omega)
          have qc9_ := hI_.2 115 0 hd9_.toNat
          refine sm_T_go 3 (c1 := (74, [some (.inr (.inr (some (12, 0)))), some (.inr (.inr (some (47, (0 + d1_))))), some (.inl bg_), some (.inr (.inr (some (3, dd_)))), some (.inl mk_), some (.inl ip9_), none, some (.inl tl_), some (.inl hd9_), none, none, none, none, none, none, none], [.inl hd9_, .inr (.inr (some (115, 0)))], S_)) rfl ?_
          refine sm_T_iald (n := 4096) rfl rfl (by omega) (by omega) ?_
          have bx3_ : 0 ≤ S_.2.2.1 115 0 hd9_.toNat ∧ S_.2.2.1 115 0 hd9_.toNat ≤ 4095 := hI_.2 115 0 _
          refine sm_T_go 3 (c1 := (81, [some (.inr (.inr (some (12, 0)))), some (.inr (.inr (some (47, (0 + d1_))))), some (.inl bg_), some (.inr (.inr (some (3, dd_)))), some (.inl mk_), some (.inl ip9_), none, some (.inl tl_), some (.inl hd9_), some (.inl (S_.2.2.1 115 0 hd9_.toNat)), none, none, none, none, none, none], [.inl 6, .inl (S_.2.2.1 115 0 hd9_.toNat)], S_)) rfl ?_
          refine sm_T_bin (w := ((S_.2.2.1 115 0 hd9_.toNat) / 64)) rfl (bi_shr (k := 6) (by decide) (by omega) (by omega)) ?_ -- pc_ 81
          refine sm_T_go 1 (c1 := (84, [some (.inr (.inr (some (12, 0)))), some (.inr (.inr (some (47, (0 + d1_))))), some (.inl bg_), some (.inr (.inr (some (3, dd_)))), some (.inl mk_), some (.inl ip9_), none, some (.inl tl_), some (.inl hd9_), some (.inl (S_.2.2.1 115 0 hd9_.toNat)), none, none, none, none, none, none], [.inl ip9_, .inl ((S_.2.2.1 115 0 hd9_.toNat) / 64)], S_)) rfl ?_
          refine sm_T_bin (w := (i_shl ((S_.2.2.1 115 0 hd9_.toNat) / 64) ip9_)) rfl rfl ?_ -- pc_ 84
          refine sm_T_go 3 (c1 := (91, [some (.inr (.inr (some (12, 0)))), some (.inr (.inr (some (47, (0 + d1_))))), some (.inl bg_), some (.inr (.inr (some (3, dd_)))), some (.inl mk_), some (.inl ip9_), none, some (.inl tl_), some (.inl hd9_), some (.inl (S_.2.2.1 115 0 hd9_.toNat)), some (.inl (i_shl ((S_.2.2.1 115 0 hd9_.toNat) / 64) ip9_)), none, none, none, none, none], [.inl 63, .inl (S_.2.2.1 115 0 hd9_.toNat)], S_)) rfl ?_
          refine sm_T_bin (w := ((S_.2.2.1 115 0 hd9_.toNat) % 64)) rfl (bi_msk (k := 6) (by decide)) ?_ -- pc_ 91
          refine sm_T_go 1 (c1 := (94, [some (.inr (.inr (some (12, 0)))), some (.inr (.inr (some (47, (0 + d1_))))), some (.inl bg_), some (.inr (.inr (some (3, dd_)))), some (.inl mk_), some (.inl ip9_), none, some (.inl tl_), some (.inl hd9_), some (.inl (S_.2.2.1 115 0 hd9_.toNat)), some (.inl (i_shl ((S_.2.2.1 115 0 hd9_.toNat) / 64) ip9_)), none, none, none, none, none], [.inl ip9_, .inl ((S_.2.2.1 115 0 hd9_.toNat) % 64)], S_)) rfl ?_
          refine sm_T_bin (w := (i_shl ((S_.2.2.1 115 0 hd9_.toNat) % 64) ip9_)) rfl rfl ?_ -- pc_ 94
          refine sm_T_go 3 (c1 := (100, [some (.inr (.inr (some (12, 0)))), some (.inr (.inr (some (47, (0 + d1_))))), some (.inl bg_), some (.inr (.inr (some (3, dd_)))), some (.inl mk_), some (.inl ip9_), none, some (.inl tl_), some (.inl hd9_), some (.inl (S_.2.2.1 115 0 hd9_.toNat)), some (.inl (i_shl ((S_.2.2.1 115 0 hd9_.toNat) / 64) ip9_)), some (.inl (i_shl ((S_.2.2.1 115 0 hd9_.toNat) % 64) ip9_)), some (.inl 0), none, none, none], [], S_)) rfl ?_
          refine ih_.2 ip9_ tl_ hd9_ (S_.2.2.1 115 0 hd9_.toNat) (i_shl ((S_.2.2.1 115 0 hd9_.toNat) / 64) ip9_) (i_shl ((S_.2.2.1 115 0 hd9_.toNat) % 64) ip9_) 0 S_ hI_ hF_ ⟨?_, ?_, ?_, ?_, ?_, ?_, trivial⟩ ?_
          · exact hp_
          · exact hq_
          · exact hc_
          · omega
          · exact ⟨rfl, rfl⟩
          · exact hq9_
          · omega
    · rintro ip9_ tl_ hd9_ pr_ he_ te_ ip_ S_ hI_ hF_ ⟨hp_, hq_, hc_, h0_, hh_, hz_, -⟩ hm_
      have J9_ := dOk_b hd_
      have J9a := J9_.1
      have J9b := J9_.2.1
      have J9c := J9_.2.2.1
      have J9t := J9_.2.2.2.2
      have wa_ := pw_le (n := R1_) (m := 6) (by omega)
      have wb_ := pw_le (n := (S0_.1 3 dd_ 2).toNat) (m := 6) (by omega)
      have wc_ := pw_pos R1_
      have wd_ := pw_pos (S0_.1 3 dd_ 2).toNat
      have fT_ : S_.2.2.1 47 (0 + d1_) = S0_.2.2.1 47 (0 + d1_) := fr_arr hF_ rfl
      have f47_ : S_.2.2.1 47 (0 + dd_) = S0_.2.2.1 47 (0 + dd_) := fr_arr hF_ rfl
      have cl9_ := cn1_le (pn2 (S_.2.2.1 113 0)) 4096
      refine sm_T_go 3 (c1 := (105, [some (.inr (.inr (some (12, 0)))), some (.inr (.inr (some (47, (0 + d1_))))), some (.inl bg_), some (.inr (.inr (some (3, dd_)))), some (.inl mk_), some (.inl ip9_), none, some (.inl tl_), some (.inl hd9_), some (.inl pr_), some (.inl he_), some (.inl te_), some (.inl ip_), none, none, none], [.inl ip9_, .inl 1, .inl ip_], S_)) rfl ?_
      refine sm_T_bin (w := (i_shl 1 ip9_)) rfl rfl ?_ -- pc_ 105
      have bx1_ := i_shl1 (e := ip9_) (by omega) (by omega)
      have wp_ := pw_le (n := (ip9_).toNat) (m := 12) (by omega)
      have wp0_ := pw_pos (ip9_).toNat
      have wp1_ : (2 : Int) ^ (ip9_).toNat = 2 ^ (S0_.1 3 dd_ 1).toNat := by rw [show ip9_ = S0_.1 3 dd_ 1 by omega]
      refine sm_T_br (a := 3) (z := 112) rfl (fun cx5_ => ?_) (fun cx5_ => ?_)
      · have cx5_ : (i_shl 1 ip9_) ≤ ip_ := of_decide_eq_true cx5_
        refine sm_T_inc (a := 8) (z := 1) (v := hd9_) (w := hd9_ + 1) rfl rfl (by omega) (by omega) (by omega) ?_ -- pc_ 218
        refine sm_T_go 1 (c1 := (53, [some (.inr (.inr (some (12, 0)))), some (.inr (.inr (some (47, (0 + d1_))))), some (.inl bg_), some (.inr (.inr (some (3, dd_)))), some (.inl mk_), some (.inl ip9_), none, some (.inl tl_), some (.inl (hd9_ + 1)), some (.inl pr_), some (.inl he_), some (.inl te_), some (.inl ip_), none, none, none], [], S_)) rfl ?_
        refine sm_T_wk [some (.inr (.inr (some (12, 0)))), some (.inr (.inr (some (47, (0 + d1_))))), some (.inl bg_), some (.inr (.inr (some (3, dd_)))), some (.inl mk_), some (.inl ip9_), none, some (.inl tl_), some (.inl (hd9_ + 1)), none, none, none, none, none, none, none] (by exact ⟨rfl, rfl, rfl, rfl, rfl, rfl, rfl, rfl, trivial⟩) ?_
        refine ih_.1 ip9_ tl_ (hd9_ + 1) S_ hI_ hF_ ⟨?_, ?_, ?_, ?_, trivial⟩ ?_
        · exact hp_
        · exact hq_
        · exact hc_
        · omega
        · omega
      · have cx5_ : ¬ ((i_shl 1 ip9_) ≤ ip_) := of_decide_eq_false cx5_
        have p1_ := pat_b (s_ := pr_ / 64) (i_ := ip_) (R_ := R1_) (I_ := (S0_.1 3 dd_ 1).toNat) (by omega) (by omega) (by omega)
        have p2_ := pat_b (s_ := pr_ % 64) (i_ := ip_) (R_ := (S0_.1 3 dd_ 2).toNat) (I_ := (S0_.1 3 dd_ 1).toNat) (by omega) (by omega) (by omega)
        have p3_ := pw_le (n := R1_ + (S0_.1 3 dd_ 1).toNat) (m := 12) (by omega)
        have p4_ := pw_le (n := (S0_.1 3 dd_ 2).toNat + (S0_.1 3 dd_ 1).toNat) (m := 12) (by omega)
        rw [show (((S0_.1 3 dd_ 1).toNat : Nat) : Int) = ip9_ by omega, ← hh_.1] at p1_
        rw [show (((S0_.1 3 dd_ 1).toNat : Nat) : Int) = ip9_ by omega, ← hh_.2] at p2_
        have t1_ := ht_ (i_or he_ ip_).toNat (by omega)
        have t2_ := J9t (i_or te_ ip_).toNat (by omega)
        rw [← fT_] at t1_
        rw [← f47_] at t2_
        have n1_ := shr16 t1_
        have n2_ := shr16 t2_
        have o9_ := or64 (a_ := S_.2.2.1 47 (0 + d1_) (i_or he_ ip_).toNat / 65536) (b_ := S_.2.2.1 47 (0 + dd_) (i_or te_ ip_).toNat / 65536) (by omega) (by omega)
        refine sm_T_go 3 (c1 := (114, [some (.inr (.inr (some (12, 0)))), some (.inr (.inr (some (47, (0 + d1_))))), some (.inl bg_), some (.inr (.inr (some (3, dd_)))), some (.inl mk_), some (.inl ip9_), none, some (.inl tl_), some (.inl hd9_), some (.inl pr_), some (.inl he_), some (.inl te_), some (.inl ip_), none, none, none], [.inl ip_, .inl he_, .inr (.inr (some (47, (0 + d1_))))], S_)) rfl ?_
        refine sm_T_bin (w := (i_or he_ ip_)) rfl rfl ?_ -- pc_ 114
        refine sm_T_iald (n := 4096) rfl rfl (by omega) (by omega) ?_
        have bx6_ : 0 ≤ S_.2.2.1 47 (0 + d1_) (i_or he_ ip_).toNat ∧ S_.2.2.1 47 (0 + d1_) (i_or he_ ip_).toNat ≤ 4194303 := hI_.2 47 (0 + d1_) _
        refine sm_T_go 5 (c1 := (126, [some (.inr (.inr (some (12, 0)))), some (.inr (.inr (some (47, (0 + d1_))))), some (.inl bg_), some (.inr (.inr (some (3, dd_)))), some (.inl mk_), some (.inl ip9_), none, some (.inl tl_), some (.inl hd9_), some (.inl pr_), some (.inl he_), some (.inl te_), some (.inl ip_), some (.inl (S_.2.2.1 47 (0 + d1_) (i_or he_ ip_).toNat)), none, none], [.inl ip_, .inl te_, .inr (.inr (some (47, (0 + dd_))))], S_)) rfl ?_
        refine sm_T_bin (w := (i_or te_ ip_)) rfl rfl ?_ -- pc_ 126
        refine sm_T_iald (n := 4096) rfl rfl (by omega) (by omega) ?_
        have bx7_ : 0 ≤ S_.2.2.1 47 (0 + dd_) (i_or te_ ip_).toNat ∧ S_.2.2.1 47 (0 + dd_) (i_or te_ ip_).toNat ≤ 4194303 := hI_.2 47 (0 + dd_) _
        refine sm_T_go 3 (c1 := (134, [some (.inr (.inr (some (12, 0)))), some (.inr (.inr (some (47, (0 + d1_))))), some (.inl bg_), some (.inr (.inr (some (3, dd_)))), some (.inl mk_), some (.inl ip9_), none, some (.inl tl_), some (.inl hd9_), some (.inl pr_), some (.inl he_), some (.inl te_), some (.inl ip_), some (.inl (S_.2.2.1 47 (0 + d1_) (i_or he_ ip_).toNat)), some (.inl (S_.2.2.1 47 (0 + dd_) (i_or te_ ip_).toNat)), none], [.inl (S_.2.2.1 47 (0 + dd_) (i_or te_ ip_).toNat), .inl (S_.2.2.1 47 (0 + d1_) (i_or he_ ip_).toNat)], S_)) rfl ?_
        refine sm_T_bin (w := (i_xor (S_.2.2.1 47 (0 + d1_) (i_or he_ ip_).toNat) (S_.2.2.1 47 (0 + dd_) (i_or te_ ip_).toNat))) rfl rfl ?_ -- pc_ 134
        refine sm_T_go 1 (c1 := (137, [some (.inr (.inr (some (12, 0)))), some (.inr (.inr (some (47, (0 + d1_))))), some (.inl bg_), some (.inr (.inr (some (3, dd_)))), some (.inl mk_), some (.inl ip9_), none, some (.inl tl_), some (.inl hd9_), some (.inl pr_), some (.inl he_), some (.inl te_), some (.inl ip_), some (.inl (S_.2.2.1 47 (0 + d1_) (i_or he_ ip_).toNat)), some (.inl (S_.2.2.1 47 (0 + dd_) (i_or te_ ip_).toNat)), none], [.inl mk_, .inl (i_xor (S_.2.2.1 47 (0 + d1_) (i_or he_ ip_).toNat) (S_.2.2.1 47 (0 + dd_) (i_or te_ ip_).toNat))], S_)) rfl ?_
        refine sm_T_bin (w := (i_and (i_xor (S_.2.2.1 47 (0 + d1_) (i_or he_ ip_).toNat) (S_.2.2.1 47 (0 + dd_) (i_or te_ ip_).toNat)) mk_)) rfl rfl ?_ -- pc_ 137
        refine sm_T_b0 (a := 0) (z := 16) rfl (fun cx8_ => ?_) (fun cx8_ => ?_)
        · have cx8_ : (i_and (i_xor (S_.2.2.1 47 (0 + d1_) (i_or he_ ip_).toNat) (S_.2.2.1 47 (0 + dd_) (i_or te_ ip_).toNat)) mk_) = 0 := of_decide_eq_true cx8_
          refine sm_T_go 2 (c1 := (158, [some (.inr (.inr (some (12, 0)))), some (.inr (.inr (some (47, (0 + d1_))))), some (.inl bg_), some (.inr (.inr (some (3, dd_)))), some (.inl mk_), some (.inl ip9_), none, some (.inl tl_), some (.inl hd9_), some (.inl pr_), some (.inl he_), some (.inl te_), some (.inl ip_), some (.inl (S_.2.2.1 47 (0 + d1_) (i_or he_ ip_).toNat)), some (.inl (S_.2.2.1 47 (0 + dd_) (i_or te_ ip_).toNat)), none], [.inl 16, .inl (S_.2.2.1 47 (0 + d1_) (i_or he_ ip_).toNat)], S_)) rfl ?_
          refine sm_T_bin (w := ((S_.2.2.1 47 (0 + d1_) (i_or he_ ip_).toNat) / 65536)) rfl (bi_shr (k := 16) (by decide) (by omega) (by omega)) ?_ -- pc_ 158
          refine sm_T_go 1 (c1 := (161, [some (.inr (.inr (some (12, 0)))), some (.inr (.inr (some (47, (0 + d1_))))), some (.inl bg_), some (.inr (.inr (some (3, dd_)))), some (.inl mk_), some (.inl ip9_), none, some (.inl tl_), some (.inl hd9_), some (.inl pr_), some (.inl he_), some (.inl te_), some (.inl ip_), some (.inl (S_.2.2.1 47 (0 + d1_) (i_or he_ ip_).toNat)), some (.inl (S_.2.2.1 47 (0 + dd_) (i_or te_ ip_).toNat)), none], [.inl 6, .inl ((S_.2.2.1 47 (0 + d1_) (i_or he_ ip_).toNat) / 65536)], S_)) rfl ?_
          refine sm_T_bin (w := 64 * ((S_.2.2.1 47 (0 + d1_) (i_or he_ ip_).toNat) / 65536)) rfl (bi_shl (k := 6) (by decide) (by omega) (by omega) (by omega)) ?_ -- pc_ 161
          refine sm_T_go 2 (c1 := (166, [some (.inr (.inr (some (12, 0)))), some (.inr (.inr (some (47, (0 + d1_))))), some (.inl bg_), some (.inr (.inr (some (3, dd_)))), some (.inl mk_), some (.inl ip9_), none, some (.inl tl_), some (.inl hd9_), some (.inl pr_), some (.inl he_), some (.inl te_), some (.inl ip_), some (.inl (S_.2.2.1 47 (0 + d1_) (i_or he_ ip_).toNat)), some (.inl (S_.2.2.1 47 (0 + dd_) (i_or te_ ip_).toNat)), none], [.inl 16, .inl (S_.2.2.1 47 (0 + dd_) (i_or te_ ip_).toNat), .inl (64 * ((S_.2.2.1 47 (0 + d1_) (i_or he_ ip_).toNat) / 65536))], S_)) rfl ?_
          refine sm_T_bin (w := ((S_.2.2.1 47 (0 + dd_) (i_or te_ ip_).toNat) / 65536)) rfl (bi_shr (k := 16) (by decide) (by omega) (by omega)) ?_ -- pc_ 166
          refine sm_T_bin (w := (i_or (64 * ((S_.2.2.1 47 (0 + d1_) (i_or he_ ip_).toNat) / 65536)) ((S_.2.2.1 47 (0 + dd_) (i_or te_ ip_).toNat) / 65536))) rfl rfl ?_ -- pc_ 167
          refine sm_T_go 4 (c1 := (176, [some (.inr (.inr (some (12, 0)))), some (.inr (.inr (some (47, (0 + d1_))))), some (.inl bg_), some (.inr (.inr (some (3, dd_)))), some (.inl mk_), some (.inl ip9_), none, some (.inl tl_), some (.inl hd9_), some (.inl pr_), some (.inl he_), some (.inl te_), some (.inl ip_), some (.inl (S_.2.2.1 47 (0 + d1_) (i_or he_ ip_).toNat)), some (.inl (S_.2.2.1 47 (0 + dd_) (i_or te_ ip_).toNat)), some (.inl (i_or (64 * ((S_.2.2.1 47 (0 + d1_) (i_or he_ ip_).toNat) / 65536)) ((S_.2.2.1 47 (0 + dd_) (i_or te_ ip_).toNat) / 65536)))], [.inl (i_or (64 * ((S_.2.2.1 47 (0 + d1_) (i_or he_ ip_).toNat) / 65536)) ((S_.2.2.1 47 (0 + dd_) (i_or te_ ip_).toNat) / 65536)), .inr (.inr (some (113, 0)))], S_)) rfl ?_
          refine sm_T_iald (n := 4096) rfl rfl (by omega) (by omega) ?_
          have bx9_ : (-2) ≤ S_.2.2.1 113 0 (i_or (64 * ((S_.2.2.1 47 (0 + d1_) (i_or he_ ip_).toNat) / 65536)) ((S_.2.2.1 47 (0 + dd_) (i_or te_ ip_).toNat) / 65536)).toNat ∧ S_.2.2.1 113 0 (i_or (64 * ((S_.2.2.1 47 (0 + d1_) (i_or he_ ip_).toNat) / 65536)) ((S_.2.2.1 47 (0 + dd_) (i_or te_ ip_).toNat) / 65536)).toNat ≤ 4095 := hI_.2 113 0 _
          refine sm_T_go 1 (c1 := (179, [some (.inr (.inr (some (12, 0)))), some (.inr (.inr (some (47, (0 + d1_))))), some (.inl bg_), some (.inr (.inr (some (3, dd_)))), some (.inl mk_), some (.inl ip9_), none, some (.inl tl_), some (.inl hd9_), some (.inl pr_), some (.inl he_), some (.inl te_), some (.inl ip_), some (.inl (S_.2.2.1 47 (0 + d1_) (i_or he_ ip_).toNat)), some (.inl (S_.2.2.1 47 (0 + dd_) (i_or te_ ip_).toNat)), some (.inl (i_or (64 * ((S_.2.2.1 47 (0 + d1_) (i_or he_ ip_).toNat) / 65536)) ((S_.2.2.1 47 (0 + dd_) (i_or te_ ip_).toNat) / 65536)))], [.inl (-2), .inl (S_.2.2.1 113 0 (i_or (64 * ((S_.2.2.1 47 (0 + d1_) (i_or he_ ip_).toNat) / 65536)) ((S_.2.2.1 47 (0 + dd_) (i_or te_ ip_).toNat) / 65536)).toNat)], S_)) rfl ?_
          refine sm_T_br (a := 1) (z := 33) rfl (fun cx10_ => ?_) (fun cx10_ => ?_)
          · have cx10_ : (S_.2.2.1 113 0 (i_or (64 * ((S_.2.2.1 47 (0 + d1_) (i_or he_ ip_).toNat) / 65536)) ((S_.2.2.1 47 (0 + dd_) (i_or te_ ip_).toNat) / 65536)).toNat) ≠ (-2) := of_decide_eq_true cx10_
            refine sm_T_inc (a := 12) (z := 1) (v := ip_) (w := ip_ + 1) rfl rfl (by omega) (by omega) (by omega) ?_ -- pc_ 212
            refine sm_T_go 1 (c1 := (100, [some (.inr (.inr (some (12, 0)))), some (.inr (.inr (some (47, (0 + d1_))))), some (.inl bg_), some (.inr (.inr (some (3, dd_)))), some (.inl mk_), some (.inl ip9_), none, some (.inl tl_), some (.inl hd9_), some (.inl pr_), some (.inl he_), some (.inl te_), some (.inl (ip_ + 1)), some (.inl (S_.2.2.1 47 (0 + d1_) (i_or he_ ip_).toNat)), some (.inl (S_.2.2.1 47 (0 + dd_) (i_or te_ ip_).toNat)), some (.inl (i_or (64 * ((S_.2.2.1 47 (0 + d1_) (i_or he_ ip_).toNat) / 65536)) ((S_.2.2.1 47 (0 + dd_) (i_or te_ ip_).toNat) / 65536)))], [], S_)) rfl ?_
            refine sm_T_wk [some (.inr (.inr (some (12, 0)))), some (.inr (.inr (some (47, (0 + d1_))))), some (.inl bg_), some (.inr (.inr (some (3, dd_)))), some (.inl mk_), some (.inl ip9_), none, some (.inl tl_), some (.inl hd9_), some (.inl pr_), some (.inl he_), some (.inl te_), some (.inl (ip_ + 1)), none, none, none] (by exact ⟨rfl, rfl, rfl, rfl, rfl, rfl, rfl, rfl, rfl, rfl, rfl, rfl, trivial⟩) ?_
            refine ih_.2 ip9_ tl_ hd9_ pr_ he_ te_ (ip_ + 1) S_ hI_ hF_ ⟨?_, ?_, ?_, ?_, ?_, ?_, trivial⟩ ?_
            · exact hp_
            · exact hq_
            · exact hc_
            · omega
            · exact hh_
            · exact hz_
            · omega
          · have cx10_ : ¬ ((S_.2.2.1 113 0 (i_or (64 * ((S_.2.2.1 47 (0 + d1_) (i_or he_ ip_).toNat) / 65536)) ((S_.2.2.1 47 (0 + dd_) (i_or te_ ip_).toNat) / 65536)).toNat) ≠ (-2)) := of_decide_eq_false cx10_
            have lt9_ := cn1_lt (f := pn2 (S_.2.2.1 113 0)) (j := (i_or (64 * (S_.2.2.1 47 (0 + d1_) (i_or he_ ip_).toNat / 65536)) (S_.2.2.1 47 (0 + dd_) (i_or te_ ip_).toNat / 65536)).toNat) (fun y9_ => absurd (pn2_1.mp y9_) cx10_) (n := 4096) (by omega)
            refine sm_T_go 4 (c1 := (190, [some (.inr (.inr (some (12, 0)))), some (.inr (.inr (some (47, (0 + d1_))))), some (.inl bg_), some (.inr (.inr (some (3, dd_)))), some (.inl mk_), some (.inl ip9_), none, some (.inl tl_), some (.inl hd9_), some (.inl pr_), some (.inl he_), some (.inl te_), some (.inl ip_), some (.inl (S_.2.2.1 47 (0 + d1_) (i_or he_ ip_).toNat)), some (.inl (S_.2.2.1 47 (0 + dd_) (i_or te_ ip_).toNat)), some (.inl (i_or (64 * ((S_.2.2.1 47 (0 + d1_) (i_or he_ ip_).toNat) / 65536)) ((S_.2.2.1 47 (0 + dd_) (i_or te_ ip_).toNat) / 65536)))], [.inl pr_, .inl (i_or (64 * ((S_.2.2.1 47 (0 + d1_) (i_or he_ ip_).toNat) / 65536)) ((S_.2.2.1 47 (0 + dd_) (i_or te_ ip_).toNat) / 65536)), .inr (.inr (some (113, 0)))], S_)) rfl ?_
            refine sm_T_iast (n := 4096) rfl rfl (by omega) (by omega) ?_
            have hIx11_ : gi (sm_aI S_ 113 0 (i_or (64 * ((S_.2.2.1 47 (0 + d1_) (i_or he_ ip_).toNat) / 65536)) ((S_.2.2.1 47 (0 + dd_) (i_or te_ ip_).toNat) / 65536)).toNat pr_) := gi_aI hI_ (show (-2) ≤ pr_ ∧ pr_ ≤ 4095 from ⟨by omega, by omega⟩)
            have hFx12_ : ai_fr (sx_W vw_276d) S0_ (sm_aI S_ 113 0 (i_or (64 * ((S_.2.2.1 47 (0 + d1_) (i_or he_ ip_).toNat) / 65536)) ((S_.2.2.1 47 (0 + dd_) (i_or te_ ip_).toNat) / 65536)).toNat pr_) := ai_fr_tr hF_ (ai_fr_aI rfl)
            refine sm_T_go 4 (c1 := (199, [some (.inr (.inr (some (12, 0)))), some (.inr (.inr (some (47, (0 + d1_))))), some (.inl bg_), some (.inr (.inr (some (3, dd_)))), some (.inl mk_), some (.inl ip9_), none, some (.inl tl_), some (.inl hd9_), some (.inl pr_), some (.inl he_), some (.inl te_), some (.inl ip_), some (.inl (S_.2.2.1 47 (0 + d1_) (i_or he_ ip_).toNat)), some (.inl (S_.2.2.1 47 (0 + dd_) (i_or te_ ip_).toNat)), some (.inl (i_or (64 * ((S_.2.2.1 47 (0 + d1_) (i_or he_ ip_).toNat) / 65536)) ((S_.2.2.1 47 (0 + dd_) (i_or te_ ip_).toNat) / 65536)))], [.inl ip_, .inl (i_or (64 * ((S_.2.2.1 47 (0 + d1_) (i_or he_ ip_).toNat) / 65536)) ((S_.2.2.1 47 (0 + dd_) (i_or te_ ip_).toNat) / 65536)), .inr (.inr (some (114, 0)))], sm_aI S_ 113 0 (i_or (64 * ((S_.2.2.1 47 (0 + d1_) (i_or he_ ip_).toNat) / 65536)) ((S_.2.2.1 47 (0 + dd_) (i_or te_ ip_).toNat) / 65536)).toNat pr_)) rfl ?_
            refine sm_T_iast (n := 4096) rfl rfl (by omega) (by omega) ?_
            have hIx13_ : gi (sm_aI (sm_aI S_ 113 0 (i_or (64 * ((S_.2.2.1 47 (0 + d1_) (i_or he_ ip_).toNat) / 65536)) ((S_.2.2.1 47 (0 + dd_) (i_or te_ ip_).toNat) / 65536)).toNat pr_) 114 0 (i_or (64 * ((S_.2.2.1 47 (0 + d1_) (i_or he_ ip_).toNat) / 65536)) ((S_.2.2.1 47 (0 + dd_) (i_or te_ ip_).toNat) / 65536)).toNat ip_) := gi_aI hIx11_ (show 0 ≤ ip_ ∧ ip_ ≤ 4095 from ⟨by omega, by omega⟩)
            have hFx14_ : ai_fr (sx_W vw_276d) S0_ (sm_aI (sm_aI S_ 113 0 (i_or (64 * ((S_.2.2.1 47 (0 + d1_) (i_or he_ ip_).toNat) / 65536)) ((S_.2.2.1 47 (0 + dd_) (i_or te_ ip_).toNat) / 65536)).toNat pr_) 114 0 (i_or (64 * ((S_.2.2.1 47 (0 + d1_) (i_or he_ ip_).toNat) / 65536)) ((S_.2.2.1 47 (0 + dd_) (i_or te_ ip_).toNat) / 65536)).toNat ip_) := ai_fr_tr hFx12_ (ai_fr_aI rfl)
            refine sm_T_go 4 (c1 := (208, [some (.inr (.inr (some (12, 0)))), some (.inr (.inr (some (47, (0 + d1_))))), some (.inl bg_), some (.inr (.inr (some (3, dd_)))), some (.inl mk_), some (.inl ip9_), none, some (.inl tl_), some (.inl hd9_), some (.inl pr_), some (.inl he_), some (.inl te_), some (.inl ip_), some (.inl (S_.2.2.1 47 (0 + d1_) (i_or he_ ip_).toNat)), some (.inl (S_.2.2.1 47 (0 + dd_) (i_or te_ ip_).toNat)), some (.inl (i_or (64 * ((S_.2.2.1 47 (0 + d1_) (i_or he_ ip_).toNat) / 65536)) ((S_.2.2.1 47 (0 + dd_) (i_or te_ ip_).toNat) / 65536)))], [.inl (i_or (64 * ((S_.2.2.1 47 (0 + d1_) (i_or he_ ip_).toNat) / 65536)) ((S_.2.2.1 47 (0 + dd_) (i_or te_ ip_).toNat) / 65536)), .inl tl_, .inr (.inr (some (115, 0)))], sm_aI (sm_aI S_ 113 0 (i_or (64 * ((S_.2.2.1 47 (0 + d1_) (i_or he_ ip_).toNat) / 65536)) ((S_.2.2.1 47 (0 + dd_) (i_or te_ ip_).toNat) / 65536)).toNat pr_) 114 0 (i_or (64 * ((S_.2.2.1 47 (0 + d1_) (i_or he_ ip_).toNat) / 65536)) ((S_.2.2.1 47 (0 + dd_) (i_or te_ ip_).toNat) / 65536)).toNat ip_)) rfl ?_
            refine sm_T_iast (n := 4096) rfl rfl (by omega) (by omega) ?_
            have hIx15_ : gi (sm_aI (sm_aI (sm_aI S_ 113 0 (i_or (64 * ((S_.2.2.1 47 (0 + d1_) (i_or he_ ip_).toNat) / 65536)) ((S_.2.2.1 47 (0 + dd_) (i_or te_ ip_).toNat) / 65536)).toNat pr_) 114 0 (i_or (64 * ((S_.2.2.1 47 (0 + d1_) (i_or he_ ip_).toNat) / 65536)) ((S_.2.2.1 47 (0 + dd_) (i_or te_ ip_).toNat) / 65536)).toNat ip_) 115 0 tl_.toNat (i_or (64 * ((S_.2.2.1 47 (0 + d1_) (i_or he_ ip_).toNat) / 65536)) ((S_.2.2.1 47 (0 + dd_) (i_or te_ ip_).toNat) / 65536))) := gi_aI hIx13_ (show 0 ≤ (i_or (64 * ((S_.2.2.1 47 (0 + d1_) (i_or he_ ip_).toNat) / 65536)) ((S_.2.2.1 47 (0 + dd_) (i_or te_ ip_).toNat) / 65536)) ∧ (i_or (64 * ((S_.2.2.1 47 (0 + d1_) (i_or he_ ip_).toNat) / 65536)) ((S_.2.2.1 47 (0 + dd_) (i_or te_ ip_).toNat) / 65536)) ≤ 4095 from ⟨by omega, by omega⟩)
            have hFx16_ : ai_fr (sx_W vw_276d) S0_ (sm_aI (sm_aI (sm_aI S_ 113 0 (i_or (64 * ((S_.2.2.1 47 (0 + d1_) (i_or he_ ip_).toNat) / 65536)) ((S_.2.2.1 47 (0 + dd_) (i_or te_ ip_).toNat) / 65536)).toNat pr_) 114 0 (i_or (64 * ((S_.2.2.1 47 (0 + d1_) (i_or he_ ip_).toNat) / 65536)) ((S_.2.2.1 47 (0 + dd_) (i_or te_ ip_).toNat) / 65536)).toNat ip_) 115 0 tl_.toNat (i_or (64 * ((S_.2.2.1 47 (0 + d1_) (i_or he_ ip_).toNat) / 65536)) ((S_.2.2.1 47 (0 + dd_) (i_or te_ ip_).toNat) / 65536))) := ai_fr_tr hFx14_ (ai_fr_aI rfl)
            refine sm_T_inc (a := 7) (z := 1) (v := tl_) (w := tl_ + 1) rfl rfl (by omega) (by omega) (by omega) ?_ -- pc_ 209
            refine sm_T_inc (a := 12) (z := 1) (v := ip_) (w := ip_ + 1) rfl rfl (by omega) (by omega) (by omega) ?_ -- pc_ 212
            refine sm_T_go 1 (c1 := (100, [some (.inr (.inr (some (12, 0)))), some (.inr (.inr (some (47, (0 + d1_))))), some (.inl bg_), some (.inr (.inr (some (3, dd_)))), some (.inl mk_), some (.inl ip9_), none, some (.inl (tl_ + 1)), some (.inl hd9_), some (.inl pr_), some (.inl he_), some (.inl te_), some (.inl (ip_ + 1)), some (.inl (S_.2.2.1 47 (0 + d1_) (i_or he_ ip_).toNat)), some (.inl (S_.2.2.1 47 (0 + dd_) (i_or te_ ip_).toNat)), some (.inl (i_or (64 * ((S_.2.2.1 47 (0 + d1_) (i_or he_ ip_).toNat) / 65536)) ((S_.2.2.1 47 (0 + dd_) (i_or te_ ip_).toNat) / 65536)))], [], sm_aI (sm_aI (sm_aI S_ 113 0 (i_or (64 * ((S_.2.2.1 47 (0 + d1_) (i_or he_ ip_).toNat) / 65536)) ((S_.2.2.1 47 (0 + dd_) (i_or te_ ip_).toNat) / 65536)).toNat pr_) 114 0 (i_or (64 * ((S_.2.2.1 47 (0 + d1_) (i_or he_ ip_).toNat) / 65536)) ((S_.2.2.1 47 (0 + dd_) (i_or te_ ip_).toNat) / 65536)).toNat ip_) 115 0 tl_.toNat (i_or (64 * ((S_.2.2.1 47 (0 + d1_) (i_or he_ ip_).toNat) / 65536)) ((S_.2.2.1 47 (0 + dd_) (i_or te_ ip_).toNat) / 65536)))) rfl ?_
            refine sm_T_wk [some (.inr (.inr (some (12, 0)))), some (.inr (.inr (some (47, (0 + d1_))))), some (.inl bg_), some (.inr (.inr (some (3, dd_)))), some (.inl mk_), some (.inl ip9_), none, some (.inl (tl_ + 1)), some (.inl hd9_), some (.inl pr_), some (.inl he_), some (.inl te_), some (.inl (ip_ + 1)), none, none, none] (by exact ⟨rfl, rfl, rfl, rfl, rfl, rfl, rfl, rfl, rfl, rfl, rfl, rfl, trivial⟩) ?_
            refine ih_.2 ip9_ (tl_ + 1) hd9_ pr_ he_ te_ (ip_ + 1) (sm_aI (sm_aI (sm_aI S_ 113 0 (i_or (64 * ((S_.2.2.1 47 (0 + d1_) (i_or he_ ip_).toNat) / 65536)) ((S_.2.2.1 47 (0 + dd_) (i_or te_ ip_).toNat) / 65536)).toNat pr_) 114 0 (i_or (64 * ((S_.2.2.1 47 (0 + d1_) (i_or he_ ip_).toNat) / 65536)) ((S_.2.2.1 47 (0 + dd_) (i_or te_ ip_).toNat) / 65536)).toNat ip_) 115 0 tl_.toNat (i_or (64 * ((S_.2.2.1 47 (0 + d1_) (i_or he_ ip_).toNat) / 65536)) ((S_.2.2.1 47 (0 + dd_) (i_or te_ ip_).toNat) / 65536))) hIx15_ hFx16_ ⟨?_, ?_, ?_, ?_, ?_, ?_, trivial⟩ ?_
            · obtain ⟨NN_, hNN_⟩ : ∃ NN_, NN_ = i_or (64 * (S_.2.2.1 47 (0 + d1_) (i_or he_ ip_).toNat / 65536)) (S_.2.2.1 47 (0 + dd_) (i_or te_ ip_).toNat / 65536) := ⟨_, rfl⟩
              have cx9_ : ¬ (S_.2.2.1 113 0 NN_.toNat ≠ -2) := by (rw [hNN_]; exact cx10_)
              have r1_ : ∀ j9_, ((sm_aI (sm_aI (sm_aI S_ 113 0 (i_or (64 * ((S_.2.2.1 47 (0 + d1_) (i_or he_ ip_).toNat) / 65536)) ((S_.2.2.1 47 (0 + dd_) (i_or te_ ip_).toNat) / 65536)).toNat pr_) 114 0 (i_or (64 * ((S_.2.2.1 47 (0 + d1_) (i_or he_ ip_).toNat) / 65536)) ((S_.2.2.1 47 (0 + dd_) (i_or te_ ip_).toNat) / 65536)).toNat ip_) 115 0 tl_.toNat (i_or (64 * ((S_.2.2.1 47 (0 + d1_) (i_or he_ ip_).toNat) / 65536)) ((S_.2.2.1 47 (0 + dd_) (i_or te_ ip_).toNat) / 65536)))).2.2.1 115 0 j9_ = if j9_ = tl_.toNat then NN_ else S_.2.2.1 115 0 j9_ := fun j9_ => by rw [rd_eq, rd_ne (by decide), rd_ne (by decide), hNN_]
              have r2_ : ∀ j9_, ((sm_aI (sm_aI (sm_aI S_ 113 0 (i_or (64 * ((S_.2.2.1 47 (0 + d1_) (i_or he_ ip_).toNat) / 65536)) ((S_.2.2.1 47 (0 + dd_) (i_or te_ ip_).toNat) / 65536)).toNat pr_) 114 0 (i_or (64 * ((S_.2.2.1 47 (0 + d1_) (i_or he_ ip_).toNat) / 65536)) ((S_.2.2.1 47 (0 + dd_) (i_or te_ ip_).toNat) / 65536)).toNat ip_) 115 0 tl_.toNat (i_or (64 * ((S_.2.2.1 47 (0 + d1_) (i_or he_ ip_).toNat) / 65536)) ((S_.2.2.1 47 (0 + dd_) (i_or te_ ip_).toNat) / 65536)))).2.2.1 113 0 j9_ = if j9_ = NN_.toNat then pr_ else S_.2.2.1 113 0 j9_ := fun j9_ => by rw [rd_ne (by decide), rd_ne (by decide), rd_eq, hNN_]
              intro j9_ hj9_ w9_
              rw [r2_] at w9_ ⊢
              by_cases z9_ : j9_ = NN_.toNat
              · rw [if_pos z9_]; right; rw [r2_]; refine ⟨by omega, ?_⟩; split; omega; exact hz_.1
              · rw [if_neg z9_] at w9_ ⊢; rcases hp_ j9_ hj9_ w9_ with q9_ | q9_
                · left; exact q9_
                · right; refine ⟨q9_.1, ?_⟩; rw [r2_]; split; omega; exact q9_.2
            · obtain ⟨NN_, hNN_⟩ : ∃ NN_, NN_ = i_or (64 * (S_.2.2.1 47 (0 + d1_) (i_or he_ ip_).toNat / 65536)) (S_.2.2.1 47 (0 + dd_) (i_or te_ ip_).toNat / 65536) := ⟨_, rfl⟩
              have cx9_ : ¬ (S_.2.2.1 113 0 NN_.toNat ≠ -2) := by (rw [hNN_]; exact cx10_)
              have r1_ : ∀ j9_, ((sm_aI (sm_aI (sm_aI S_ 113 0 (i_or (64 * ((S_.2.2.1 47 (0 + d1_) (i_or he_ ip_).toNat) / 65536)) ((S_.2.2.1 47 (0 + dd_) (i_or te_ ip_).toNat) / 65536)).toNat pr_) 114 0 (i_or (64 * ((S_.2.2.1 47 (0 + d1_) (i_or he_ ip_).toNat) / 65536)) ((S_.2.2.1 47 (0 + dd_) (i_or te_ ip_).toNat) / 65536)).toNat ip_) 115 0 tl_.toNat (i_or (64 * ((S_.2.2.1 47 (0 + d1_) (i_or he_ ip_).toNat) / 65536)) ((S_.2.2.1 47 (0 + dd_) (i_or te_ ip_).toNat) / 65536)))).2.2.1 115 0 j9_ = if j9_ = tl_.toNat then NN_ else S_.2.2.1 115 0 j9_ := fun j9_ => by rw [rd_eq, rd_ne (by decide), rd_ne (by decide), hNN_]
              have r2_ : ∀ j9_, ((sm_aI (sm_aI (sm_aI S_ 113 0 (i_or (64 * ((S_.2.2.1 47 (0 + d1_) (i_or he_ ip_).toNat) / 65536)) ((S_.2.2.1 47 (0 + dd_) (i_or te_ ip_).toNat) / 65536)).toNat pr_) 114 0 (i_or (64 * ((S_.2.2.1 47 (0 + d1_) (i_or he_ ip_).toNat) / 65536)) ((S_.2.2.1 47 (0 + dd_) (i_or te_ ip_).toNat) / 65536)).toNat ip_) 115 0 tl_.toNat (i_or (64 * ((S_.2.2.1 47 (0 + d1_) (i_or he_ ip_).toNat) / 65536)) ((S_.2.2.1 47 (0 + dd_) (i_or te_ ip_).toNat) / 65536)))).2.2.1 113 0 j9_ = if j9_ = NN_.toNat then pr_ else S_.2.2.1 113 0 j9_ := fun j9_ => by rw [rd_ne (by decide), rd_ne (by decide), rd_eq, hNN_]
              intro j9_ hj9_
              by_cases z9_ : (j9_ : Int) = tl_
              · rw [r1_, if_pos (by omega), r2_, if_pos rfl]; exact ⟨by omega, by omega, by omega⟩
              · have q9_ := hq_ j9_ (by omega)
                rw [r1_, if_neg (by omega), r2_]; refine ⟨?_, q9_.2⟩; split; omega; exact q9_.1
            · obtain ⟨NN_, hNN_⟩ : ∃ NN_, NN_ = i_or (64 * (S_.2.2.1 47 (0 + d1_) (i_or he_ ip_).toNat / 65536)) (S_.2.2.1 47 (0 + dd_) (i_or te_ ip_).toNat / 65536) := ⟨_, rfl⟩
              have cx9_ : ¬ (S_.2.2.1 113 0 NN_.toNat ≠ -2) := by (rw [hNN_]; exact cx10_)
              have r1_ : ∀ j9_, ((sm_aI (sm_aI (sm_aI S_ 113 0 (i_or (64 * ((S_.2.2.1 47 (0 + d1_) (i_or he_ ip_).toNat) / 65536)) ((S_.2.2.1 47 (0 + dd_) (i_or te_ ip_).toNat) / 65536)).toNat pr_) 114 0 (i_or (64 * ((S_.2.2.1 47 (0 + d1_) (i_or he_ ip_).toNat) / 65536)) ((S_.2.2.1 47 (0 + dd_) (i_or te_ ip_).toNat) / 65536)).toNat ip_) 115 0 tl_.toNat (i_or (64 * ((S_.2.2.1 47 (0 + d1_) (i_or he_ ip_).toNat) / 65536)) ((S_.2.2.1 47 (0 + dd_) (i_or te_ ip_).toNat) / 65536)))).2.2.1 115 0 j9_ = if j9_ = tl_.toNat then NN_ else S_.2.2.1 115 0 j9_ := fun j9_ => by rw [rd_eq, rd_ne (by decide), rd_ne (by decide), hNN_]
              have r2_ : ∀ j9_, ((sm_aI (sm_aI (sm_aI S_ 113 0 (i_or (64 * ((S_.2.2.1 47 (0 + d1_) (i_or he_ ip_).toNat) / 65536)) ((S_.2.2.1 47 (0 + dd_) (i_or te_ ip_).toNat) / 65536)).toNat pr_) 114 0 (i_or (64 * ((S_.2.2.1 47 (0 + d1_) (i_or he_ ip_).toNat) / 65536)) ((S_.2.2.1 47 (0 + dd_) (i_or te_ ip_).toNat) / 65536)).toNat ip_) 115 0 tl_.toNat (i_or (64 * ((S_.2.2.1 47 (0 + d1_) (i_or he_ ip_).toNat) / 65536)) ((S_.2.2.1 47 (0 + dd_) (i_or te_ ip_).toNat) / 65536)))).2.2.1 113 0 j9_ = if j9_ = NN_.toNat then pr_ else S_.2.2.1 113 0 j9_ := fun j9_ => by rw [rd_ne (by decide), rd_ne (by decide), rd_eq, hNN_]
              have u9_ := cn1_up (f := pn2 (S_.2.2.1 113 0)) (g := pn2 (((sm_aI (sm_aI (sm_aI S_ 113 0 (i_or (64 * ((S_.2.2.1 47 (0 + d1_) (i_or he_ ip_).toNat) / 65536)) ((S_.2.2.1 47 (0 + dd_) (i_or te_ ip_).toNat) / 65536)).toNat pr_) 114 0 (i_or (64 * ((S_.2.2.1 47 (0 + d1_) (i_or he_ ip_).toNat) / 65536)) ((S_.2.2.1 47 (0 + dd_) (i_or te_ ip_).toNat) / 65536)).toNat ip_) 115 0 tl_.toNat (i_or (64 * ((S_.2.2.1 47 (0 + d1_) (i_or he_ ip_).toNat) / 65536)) ((S_.2.2.1 47 (0 + dd_) (i_or te_ ip_).toNat) / 65536)))).2.2.1 113 0)) (j := NN_.toNat) (fun y9_ => absurd (pn2_1.mp y9_) cx9_) (pn2_1.mpr (by rw [r2_, if_pos rfl]; omega)) (fun k9_ hk9_ => by unfold pn2; rw [r2_, if_neg hk9_]) (n := 4096) (by omega)
              rw [u9_]
              push_cast
              omega
            · omega
            · exact hh_
            · obtain ⟨NN_, hNN_⟩ : ∃ NN_, NN_ = i_or (64 * (S_.2.2.1 47 (0 + d1_) (i_or he_ ip_).toNat / 65536)) (S_.2.2.1 47 (0 + dd_) (i_or te_ ip_).toNat / 65536) := ⟨_, rfl⟩
              have cx9_ : ¬ (S_.2.2.1 113 0 NN_.toNat ≠ -2) := by (rw [hNN_]; exact cx10_)
              have r1_ : ∀ j9_, ((sm_aI (sm_aI (sm_aI S_ 113 0 (i_or (64 * ((S_.2.2.1 47 (0 + d1_) (i_or he_ ip_).toNat) / 65536)) ((S_.2.2.1 47 (0 + dd_) (i_or te_ ip_).toNat) / 65536)).toNat pr_) 114 0 (i_or (64 * ((S_.2.2.1 47 (0 + d1_) (i_or he_ ip_).toNat) / 65536)) ((S_.2.2.1 47 (0 + dd_) (i_or te_ ip_).toNat) / 65536)).toNat ip_) 115 0 tl_.toNat (i_or (64 * ((S_.2.2.1 47 (0 + d1_) (i_or he_ ip_).toNat) / 65536)) ((S_.2.2.1 47 (0 + dd_) (i_or te_ ip_).toNat) / 65536)))).2.2.1 115 0 j9_ = if j9_ = tl_.toNat then NN_ else S_.2.2.1 115 0 j9_ := fun j9_ => by rw [rd_eq, rd_ne (by decide), rd_ne (by decide), hNN_]
              have r2_ : ∀ j9_, ((sm_aI (sm_aI (sm_aI S_ 113 0 (i_or (64 * ((S_.2.2.1 47 (0 + d1_) (i_or he_ ip_).toNat) / 65536)) ((S_.2.2.1 47 (0 + dd_) (i_or te_ ip_).toNat) / 65536)).toNat pr_) 114 0 (i_or (64 * ((S_.2.2.1 47 (0 + d1_) (i_or he_ ip_).toNat) / 65536)) ((S_.2.2.1 47 (0 + dd_) (i_or te_ ip_).toNat) / 65536)).toNat ip_) 115 0 tl_.toNat (i_or (64 * ((S_.2.2.1 47 (0 + d1_) (i_or he_ ip_).toNat) / 65536)) ((S_.2.2.1 47 (0 + dd_) (i_or te_ ip_).toNat) / 65536)))).2.2.1 113 0 j9_ = if j9_ = NN_.toNat then pr_ else S_.2.2.1 113 0 j9_ := fun j9_ => by rw [rd_ne (by decide), rd_ne (by decide), rd_eq, hNN_]
              rw [r2_]
              refine ⟨?_, hz_.2⟩
              split
              · omega
              · exact hz_.1
            · omega
        · have cx8_ : ¬ ((i_and (i_xor (S_.2.2.1 47 (0 + d1_) (i_or he_ ip_).toNat) (S_.2.2.1 47 (0 + dd_) (i_or te_ ip_).toNat)) mk_) = 0) := of_decide_eq_false cx8_
          refine sm_T_go 3 (c1 := (146, [some (.inr (.inr (some (12, 0)))), some (.inr (.inr (some (47, (0 + d1_))))), some (.inl bg_), some (.inr (.inr (some (3, dd_)))), some (.inl mk_), some (.inl ip9_), none, some (.inl tl_), some (.inl hd9_), some (.inl pr_), some (.inl he_), some (.inl te_), some (.inl ip_), some (.inl (S_.2.2.1 47 (0 + d1_) (i_or he_ ip_).toNat)), some (.inl (S_.2.2.1 47 (0 + dd_) (i_or te_ ip_).toNat)), none], [.inl ip_, .inl pr_, .inr (.inr (some (12, 0)))], S_)) rfl ?_
          refine sm_T_cal (d1 := 0) (Q1 := vq_277 pr_ ip_ S_) rfl rfl (by decide) (vc_277 pr_ ip_ S_ hI_ (by exact hp_) (by omega) (by omega) (by exact hz_.1)) (fun u_ Sx17_ px20_ => ?_)
          obtain ⟨rfl, hIx18_, hFx19_, px20_⟩ := px20_
          have hFx21_ : ai_fr (sx_W vw_276d) S0_ Sx17_ := ai_fr_tr hF_ (fr_le hFx19_ rfl)
          have bx22_ : 0 ≤ Sx17_.1 12 0 16 ∧ Sx17_.1 12 0 16 ≤ 4096 := hIx18_.1 12 0 16 rfl
          refine sm_T_go 2 (c1 := (153, [some (.inr (.inr (some (12, 0)))), some (.inr (.inr (some (47, (0 + d1_))))), some (.inl bg_), some (.inr (.inr (some (3, dd_)))), some (.inl mk_), some (.inl ip9_), none, some (.inl tl_), some (.inl hd9_), some (.inl pr_), some (.inl he_), some (.inl te_), some (.inl ip_), some (.inl (S_.2.2.1 47 (0 + d1_) (i_or he_ ip_).toNat)), some (.inl (S_.2.2.1 47 (0 + dd_) (i_or te_ ip_).toNat)), none], [.inl (Sx17_.1 12 0 16)], Sx17_)) rfl ?_
          refine sm_T_ri rfl ⟨_, _, rfl, _, rfl, hIx18_, hFx21_, ?_⟩
          trivial
set_option maxHeartbeats 2000000 in
set_option maxRecDepth 20000 in
theorem vc_276d {sc_ : Nat × (Nat → Int)} (bg_ : Int) (mk_ : Int) (d1_ : Nat) (dd_ : Nat) (R1_ : Nat) (S0_ : sm_S) (hI_ : gi S0_) (hd_ : dOk dd_ S0_) (hb_ : 0 ≤ bg_ ∧ bg_ < 2 ^ R1_) (hr_ : R1_ ≤ 6 ∧ (R1_ : Int) + S0_.1 3 dd_ 1 ≤ 12) (ht_ : ∀ p9_ : Nat, p9_ < 4096 → 0 ≤ S0_.2.2.1 47 (0 + d1_) p9_ ∧ S0_.2.2.1 47 (0 + d1_) p9_ < 2 ^ (16 + R1_)) : sm_T (mt_P sc_) 1 276 (0, [some (.inr (.inr (some (12, 0)))), some (.inr (.inr (some (47, (0 + d1_))))), some (.inl bg_), some (.inr (.inr (some (3, dd_)))), some (.inl mk_), none, none, none, none, none, none, none, none, none, none, none], [], S0_) (fun ro9_ => ∃ u_ S1_, ro9_ = (.inl u_, S1_, 0) ∧ vq_276d bg_ mk_ d1_ dd_ R1_ S0_ u_ S1_) := by
  have hF_ : ai_fr (sx_W vw_276d) S0_ S0_ := ai_fr_rf
  have J9_ := dOk_b hd_
  have J9a := J9_.1
  have J9b := J9_.2.1
  have J9c := J9_.2.2.1
  have J9t := J9_.2.2.2.2
  have wa_ := pw_le (n := R1_) (m := 6) (by omega)
  have wb_ := pw_le (n := (S0_.1 3 dd_ 2).toNat) (m := 6) (by omega)
  have wc_ := pw_pos R1_
  have wd_ := pw_pos (S0_.1 3 dd_ 2).toNat
  have hIx1_ : gi (sm_pI S0_ 12 0 16 0) := gi_pI hI_ (show 0 ≤ 0 ∧ 0 ≤ 4096 from ⟨by omega, by omega⟩)
  have hFx2_ : ai_fr (sx_W vw_276d) S0_ (sm_pI S0_ 12 0 16 0) := ai_fr_tr hF_ (ai_fr_pI rfl)
  have bx3_ : 0 ≤ S0_.1 3 dd_ 1 ∧ S0_.1 3 dd_ 1 ≤ 320 := hI_.1 3 dd_ 1 rfl
  refine sm_T_go 9 (c1 := (17, [some (.inr (.inr (some (12, 0)))), some (.inr (.inr (some (47, (0 + d1_))))), some (.inl bg_), some (.inr (.inr (some (3, dd_)))), some (.inl mk_), some (.inl (S0_.1 3 dd_ 1)), none, none, none, none, none, none, none, none, none, none], [.inl (-2), .inr (.inr (some (113, 0)))], sm_pI S0_ 12 0 16 0)) rfl ?_
  refine sm_T_cal (d1 := 0) (Q1 := vq_2p (-2) (sm_pI S0_ 12 0 16 0)) rfl rfl (by decide) (vc_2p (-2) (sm_pI S0_ 12 0 16 0) hIx1_ (by decide)) (fun u_ Sx4_ px7_ => ?_)
  obtain ⟨rfl, hIx5_, hFx6_, px7_⟩ := px7_
  have hFx8_ : ai_fr (sx_W vw_276d) S0_ Sx4_ := ai_fr_tr hFx2_ (fr_le hFx6_ rfl)
  have e17_ := px7_
  have q5_ := hFx6_.1 3 dd_ 5 rfl
  have q1_ := hFx6_.1 3 dd_ 1 rfl
  simp only [rf_nt, rf_nk, ne_eq, Nat.reduceEqDiff, not_false_eq_true] at q5_ q1_
  refine sm_T_go 2 (c1 := (23, [some (.inr (.inr (some (12, 0)))), some (.inr (.inr (some (47, (0 + d1_))))), some (.inl bg_), some (.inr (.inr (some (3, dd_)))), some (.inl mk_), some (.inl (S0_.1 3 dd_ 1)), none, none, none, none, none, none, none, none, none, none], [.inl 6, .inl bg_], Sx4_)) rfl ?_
  refine sm_T_bin (w := 64 * bg_) rfl (bi_shl (k := 6) (by decide) (by omega) (by omega) (by omega)) ?_ -- pc_ 23
  have bx9_ : 0 ≤ Sx4_.1 3 dd_ 5 ∧ Sx4_.1 3 dd_ 5 ≤ 63 := hIx5_.1 3 dd_ 5 rfl
  refine sm_T_go 2 (c1 := (28, [some (.inr (.inr (some (12, 0)))), some (.inr (.inr (some (47, (0 + d1_))))), some (.inl bg_), some (.inr (.inr (some (3, dd_)))), some (.inl mk_), some (.inl (S0_.1 3 dd_ 1)), none, none, none, none, none, none, none, none, none, none], [.inl (Sx4_.1 3 dd_ 5), .inl (64 * bg_)], Sx4_)) rfl ?_
  refine sm_T_bin (w := (i_or (64 * bg_) (Sx4_.1 3 dd_ 5))) rfl rfl ?_ -- pc_ 28
  have bx10_ := or64 (a_ := bg_) (b_ := (Sx4_.1 3 dd_ 5)) (by omega) (by omega)
  refine sm_T_go 5 (c1 := (38, [some (.inr (.inr (some (12, 0)))), some (.inr (.inr (some (47, (0 + d1_))))), some (.inl bg_), some (.inr (.inr (some (3, dd_)))), some (.inl mk_), some (.inl (S0_.1 3 dd_ 1)), some (.inl (i_or (64 * bg_) (Sx4_.1 3 dd_ 5))), none, none, none, none, none, none, none, none, none], [.inl (-1), .inl (i_or (64 * bg_) (Sx4_.1 3 dd_ 5)), .inr (.inr (some (113, 0)))], Sx4_)) rfl ?_
  refine sm_T_iast (n := 4096) rfl rfl (by omega) (by omega) ?_
  have hIx11_ : gi (sm_aI Sx4_ 113 0 (i_or (64 * bg_) (Sx4_.1 3 dd_ 5)).toNat (-1)) := gi_aI hIx5_ (show (-2) ≤ (-1) ∧ (-1) ≤ 4095 from ⟨by omega, by omega⟩)
  have hFx12_ : ai_fr (sx_W vw_276d) S0_ (sm_aI Sx4_ 113 0 (i_or (64 * bg_) (Sx4_.1 3 dd_ 5)).toNat (-1)) := ai_fr_tr hFx8_ (ai_fr_aI rfl)
  refine sm_T_go 4 (c1 := (46, [some (.inr (.inr (some (12, 0)))), some (.inr (.inr (some (47, (0 + d1_))))), some (.inl bg_), some (.inr (.inr (some (3, dd_)))), some (.inl mk_), some (.inl (S0_.1 3 dd_ 1)), some (.inl (i_or (64 * bg_) (Sx4_.1 3 dd_ 5))), none, none, none, none, none, none, none, none, none], [.inl (i_or (64 * bg_) (Sx4_.1 3 dd_ 5)), .inl 0, .inr (.inr (some (115, 0)))], sm_aI Sx4_ 113 0 (i_or (64 * bg_) (Sx4_.1 3 dd_ 5)).toNat (-1))) rfl ?_
  refine sm_T_iast (n := 4096) rfl rfl (by omega) (by omega) ?_
  have hIx13_ : gi (sm_aI (sm_aI Sx4_ 113 0 (i_or (64 * bg_) (Sx4_.1 3 dd_ 5)).toNat (-1)) 115 0 (0 : Int).toNat (i_or (64 * bg_) (Sx4_.1 3 dd_ 5))) := gi_aI hIx11_ (show 0 ≤ (i_or (64 * bg_) (Sx4_.1 3 dd_ 5)) ∧ (i_or (64 * bg_) (Sx4_.1 3 dd_ 5)) ≤ 4095 from ⟨by omega, by omega⟩)
  have hFx14_ : ai_fr (sx_W vw_276d) S0_ (sm_aI (sm_aI Sx4_ 113 0 (i_or (64 * bg_) (Sx4_.1 3 dd_ 5)).toNat (-1)) 115 0 (0 : Int).toNat (i_or (64 * bg_) (Sx4_.1 3 dd_ 5))) := ai_fr_tr hFx12_ (ai_fr_aI rfl)
  refine sm_T_go 4 (c1 := (53, [some (.inr (.inr (some (12, 0)))), some (.inr (.inr (some (47, (0 + d1_))))), some (.inl bg_), some (.inr (.inr (some (3, dd_)))), some (.inl mk_), some (.inl (S0_.1 3 dd_ 1)), some (.inl (i_or (64 * bg_) (Sx4_.1 3 dd_ 5))), some (.inl 1), some (.inl 0), none, none, none, none, none, none, none], [], sm_aI (sm_aI Sx4_ 113 0 (i_or (64 * bg_) (Sx4_.1 3 dd_ 5)).toNat (-1)) 115 0 (0 : Int).toNat (i_or (64 * bg_) (Sx4_.1 3 dd_ 5)))) rfl ?_
  refine sm_T_wk [some (.inr (.inr (some (12, 0)))), some (.inr (.inr (some (47, (0 + d1_))))), some (.inl bg_), some (.inr (.inr (some (3, dd_)))), some (.inl mk_), some (.inl (S0_.1 3 dd_ 1)), none, some (.inl 1), some (.inl 0), none, none, none, none, none, none, none] (by exact ⟨rfl, rfl, rfl, rfl, rfl, rfl, rfl, rfl, trivial⟩) ?_
  refine (vl_276d bg_ mk_ d1_ dd_ R1_ S0_ hd_ hb_ hr_ ht_ _).1 (S0_.1 3 dd_ 1) 1 0 (sm_aI (sm_aI Sx4_ 113 0 (i_or (64 * bg_) (Sx4_.1 3 dd_ 5)).toNat (-1)) 115 0 (0 : Int).toNat (i_or (64 * bg_) (Sx4_.1 3 dd_ 5))) hIx13_ hFx14_ ⟨?_, ?_, ?_, ?_, trivial⟩ (Nat.lt_succ_self _)
  · obtain ⟨FF_, hFF_⟩ : ∃ FF_, FF_ = i_or (64 * bg_) (Sx4_.1 3 dd_ 5) := ⟨_, rfl⟩
    have r1_ : ((sm_aI (sm_aI Sx4_ 113 0 (i_or (64 * bg_) (Sx4_.1 3 dd_ 5)).toNat (-1)) 115 0 (0 : Int).toNat (i_or (64 * bg_) (Sx4_.1 3 dd_ 5)))).2.2.1 115 0 0 = FF_ := by (rw [rd_eq, if_pos (by decide)]; exact hFF_.symm)
    have r2_ : ∀ j9_, ((sm_aI (sm_aI Sx4_ 113 0 (i_or (64 * bg_) (Sx4_.1 3 dd_ 5)).toNat (-1)) 115 0 (0 : Int).toNat (i_or (64 * bg_) (Sx4_.1 3 dd_ 5)))).2.2.1 113 0 j9_ = if j9_ = FF_.toNat then (-1) else Sx4_.2.2.1 113 0 j9_ := fun j9_ => by rw [rd_ne (by decide), rd_eq, hFF_]
    intro j9_ hj9_ w9_
    rw [r2_] at w9_ ⊢
    left
    by_cases z9_ : j9_ = FF_.toNat
    · rw [if_pos z9_]
    · rw [if_neg z9_, e17_ j9_ hj9_] at w9_
      exact absurd rfl w9_
  · obtain ⟨FF_, hFF_⟩ : ∃ FF_, FF_ = i_or (64 * bg_) (Sx4_.1 3 dd_ 5) := ⟨_, rfl⟩
    have r1_ : ((sm_aI (sm_aI Sx4_ 113 0 (i_or (64 * bg_) (Sx4_.1 3 dd_ 5)).toNat (-1)) 115 0 (0 : Int).toNat (i_or (64 * bg_) (Sx4_.1 3 dd_ 5)))).2.2.1 115 0 0 = FF_ := by (rw [rd_eq, if_pos (by decide)]; exact hFF_.symm)
    have r2_ : ∀ j9_, ((sm_aI (sm_aI Sx4_ 113 0 (i_or (64 * bg_) (Sx4_.1 3 dd_ 5)).toNat (-1)) 115 0 (0 : Int).toNat (i_or (64 * bg_) (Sx4_.1 3 dd_ 5)))).2.2.1 113 0 j9_ = if j9_ = FF_.toNat then (-1) else Sx4_.2.2.1 113 0 j9_ := fun j9_ => by rw [rd_ne (by decide), rd_eq, hFF_]
    intro j9_ hj9_
    have z9_ : j9_ = 0 := by omega
    rw [z9_, r1_, r2_, if_pos rfl]
    exact ⟨by decide, by omega, by omega⟩
  · obtain ⟨FF_, hFF_⟩ : ∃ FF_, FF_ = i_or (64 * bg_) (Sx4_.1 3 dd_ 5) := ⟨_, rfl⟩
    have r1_ : ((sm_aI (sm_aI Sx4_ 113 0 (i_or (64 * bg_) (Sx4_.1 3 dd_ 5)).toNat (-1)) 115 0 (0 : Int).toNat (i_or (64 * bg_) (Sx4_.1 3 dd_ 5)))).2.2.1 115 0 0 = FF_ := by (rw [rd_eq, if_pos (by decide)]; exact hFF_.symm)
    have r2_ : ∀ j9_, ((sm_aI (sm_aI Sx4_ 113 0 (i_or (64 * bg_) (Sx4_.1 3 dd_ 5)).toNat (-1)) 115 0 (0 : Int).toNat (i_or (64 * bg_) (Sx4_.1 3 dd_ 5)))).2.2.1 113 0 j9_ = if j9_ = FF_.toNat then (-1) else Sx4_.2.2.1 113 0 j9_ := fun j9_ => by rw [rd_ne (by decide), rd_eq, hFF_]
    rw [cn1_cg (g := fun k9_ : Nat => if k9_ = FF_.toNat then (1 : Int) else 0) (fun k9_ hk9_ => ?_), cn1_one (j := FF_.toNat) (fun k9_ => ?_) 4096, if_pos (by omega)]
    · rfl
    · constructor
      · intro y9_; by_cases y8_ : k9_ = FF_.toNat; exact y8_; (rw [if_neg y8_] at y9_; exact absurd y9_ (by decide))
      · intro y9_; exact if_pos y9_
    · unfold pn2
      rw [r2_]
      by_cases y9_ : k9_ = FF_.toNat
      · rw [if_pos y9_, if_pos y9_]; rfl
      · rw [if_neg y9_, if_neg y9_, e17_ k9_ hk9_]; rfl
  · omega
end
/-! 99.zj6 -/
section
/-! how many places of a row hold a value -/
def cne (f : Nat → Int) (c : Int) : Nat → Nat
  | 0 => 0
  | n + 1 => cne f c n + if f n = c then 1 else 0
theorem cne_s (f : Nat → Int) (c : Int) (n : Nat) : cne f c (n + 1) = cne f c n + if f n = c then 1 else 0 := rfl
theorem cne_le (f : Nat → Int) (c : Int) : ∀ n, cne f c n ≤ n
  | 0 => Nat.le_refl _
  | n + 1 => by
    have := cne_le f c n
    rw [cne_s]
    split <;> omega
theorem cne_mo {f : Nat → Int} {c : Int} {n : Nat} : ∀ {m : Nat}, n ≤ m → cne f c n ≤ cne f c m
  | 0, h => by rw [show n = 0 by omega]; exact Nat.le_refl _
  | m + 1, h => by
    by_cases z : n = m + 1
    · rw [z]; exact Nat.le_refl _
    · have := cne_mo (f := f) (c := c) (n := n) (m := m) (by omega)
      rw [cne_s]
      exact Nat.le_trans this (Nat.le_add_right _ _)
theorem cne_cg {f g : Nat → Int} {c : Int} : ∀ {n : Nat}, (∀ k, k < n → f k = g k) → cne f c n = cne g c n
  | 0, _ => rfl
  | n + 1, h => by
    rw [cne_s, cne_s, cne_cg (fun k hk => h k (by omega)), h n (by omega)]
theorem cne_up {f g : Nat → Int} {c : Int} {j : Nat} (h0 : f j ≠ c) (h1 : g j = c) (hg : ∀ k, k ≠ j → g k = f k) : ∀ {n : Nat}, j < n → cne g c n = cne f c n + 1
  | 0, h => absurd h (Nat.not_lt_zero _)
  | n + 1, h => by
    rw [cne_s, cne_s]
    by_cases z : j = n
    · subst z
      rw [cne_cg (g := f) (fun k hk => hg k (by omega)), if_pos h1, if_neg h0]
    · rw [cne_up h0 h1 hg (n := n) (by omega), hg n (fun e => z e.symm)]
      omega
theorem cne_ot {f g : Nat → Int} {c : Int} {j : Nat} (h0 : f j ≠ c) (h1 : g j ≠ c) (hg : ∀ k, k ≠ j → g k = f k) : ∀ {n : Nat}, cne g c n = cne f c n
  | 0 => rfl
  | n + 1 => by
    rw [cne_s, cne_s, cne_ot h0 h1 hg (n := n)]
    by_cases z : n = j
    · rw [z, if_neg h1, if_neg h0]
    · rw [hg n z]
theorem cne_lt {f : Nat → Int} {c : Int} {j : Nat} (h0 : f j ≠ c) : ∀ {n : Nat}, j < n → cne f c n < n
  | 0, h => absurd h (Nat.not_lt_zero _)
  | n + 1, h => by
    rw [cne_s]
    by_cases z : j = n
    · subst z
      have := cne_le f c j
      rw [if_neg h0]
      omega
    · have := cne_lt h0 (n := n) (by omega)
      split <;> omega
theorem cne_st {f : Nat → Int} {c : Int} {j : Nat} (h1 : f j = c) {n : Nat} (h : j < n) : cne f c j < cne f c n := by
  have q := cne_mo (f := f) (c := c) (n := j + 1) (m := n) h
  rw [cne_s] at q
  rw [if_pos h1] at q
  omega
theorem cne_0 {f : Nat → Int} {c : Int} : ∀ {n : Nat}, (∀ k, k < n → f k ≠ c) → cne f c n = 0
  | 0, _ => rfl
  | n + 1, h => by
    rw [cne_s, cne_0 (fun k hk => h k (by omega)), if_neg (h n (by omega))]
/-- the places of all values below m -/
def scn (f : Nat → Int) (n : Nat) : Nat → Nat
  | 0 => 0
  | m + 1 => scn f n m + cne f (m : Int) n
theorem scn_s {f : Nat → Int} {n : Nat} : ∀ (m : Nat), scn f (n + 1) m = scn f n m + if 0 ≤ f n ∧ f n < (m : Int) then 1 else 0
  | 0 => by
    show 0 = 0 + _
    rw [if_neg (by omega)]
  | m + 1 => by
    show scn f (n + 1) m + cne f (m : Int) (n + 1) = scn f n m + cne f (m : Int) n + _
    rw [scn_s m]
    rw [cne_s]
    by_cases z : f n = (m : Int)
    · rw [if_pos z, if_neg (by omega), if_pos (by omega)]
      omega
    · rw [if_neg z]
      by_cases y : 0 ≤ f n ∧ f n < (m : Int)
      · rw [if_pos y, if_pos (by omega)]; omega
      · rw [if_neg y, if_neg (by omega)]; omega
theorem scn_0 {f : Nat → Int} : ∀ (m : Nat), scn f 0 m = 0
  | 0 => rfl
  | m + 1 => by
    show scn f 0 m + 0 = 0
    rw [scn_0 m]
theorem scn_le {f : Nat → Int} (m : Nat) : ∀ (n : Nat), scn f n m ≤ n
  | 0 => by rw [scn_0]; exact Nat.le_refl _
  | n + 1 => by
    have := scn_le (f := f) m n
    rw [scn_s]
    split <;> omega
theorem scn_mo {f : Nat → Int} {n a : Nat} : ∀ {b : Nat}, a < b → scn f n a + cne f (a : Int) n ≤ scn f n b
  | 0, h => absurd h (Nat.not_lt_zero _)
  | b + 1, h => by
    show _ ≤ scn f n b + cne f (b : Int) n
    by_cases z : a = b
    · rw [z]; exact Nat.le_refl _
    · have := scn_mo (f := f) (n := n) (a := a) (b := b) (by omega)
      omega
end
/-! 99.zj7a -/
section
/-! pins of a board; written by wip/p55/gen/vg -/

/-! pins of_ a_ board -/
/-- each net's pins are_ counted -/
def bcn (ii_ : Nat) (S_ : sm_S) : Prop := ∀ c_ : Nat, c_ < 162 → S_.2.2.1 20 (0 + ii_) c_ = (cne (S_.2.2.1 17 (0 + ii_)) (c_ : Int) 652 : Int)
/-- the_ pins stand by their nets -/
def bpn (ii_ : Nat) (S_ : sm_S) : Prop := ∀ c_ : Nat, c_ < 162 → S_.2.2.1 19 (0 + ii_) c_ + S_.2.2.1 20 (0 + ii_) c_ ≤ 652 ∧ ∀ k_ : Nat, (k_ : Int) < S_.2.2.1 20 (0 + ii_) c_ → S_.2.2.1 17 (0 + ii_) (S_.2.2.1 18 (0 + ii_) ((S_.2.2.1 19 (0 + ii_) c_).toNat + k_)).toNat = (c_ : Int)
theorem bcn_set {ii_ : Nat} {S_ : sm_S} {x_ v_ : Int} (h_ : bcn ii_ S_) (h1_ : 0 ≤ x_ ∧ x_ ≤ 651) (h2_ : 0 ≤ v_ ∧ v_ ≤ 161) (hf_ : S_.2.2.1 17 (0 + ii_) x_.toNat = -1) : bcn ii_ (sm_aI (sm_aI S_ 17 (0 + ii_) x_.toNat v_) 20 (0 + ii_) v_.toNat (S_.2.2.1 20 (0 + ii_) v_.toNat + 1)) ∧ ∀ j_, (sm_aI (sm_aI S_ 17 (0 + ii_) x_.toNat v_) 20 (0 + ii_) v_.toNat (S_.2.2.1 20 (0 + ii_) v_.toNat + 1)).2.2.1 17 (0 + ii_) j_ = if 0 ≤ v_ ∧ j_ = x_.toNat then v_ else S_.2.2.1 17 (0 + ii_) j_ := by
  have r1_ : ∀ j_, (sm_aI (sm_aI S_ 17 (0 + ii_) x_.toNat v_) 20 (0 + ii_) v_.toNat (S_.2.2.1 20 (0 + ii_) v_.toNat + 1)).2.2.1 17 (0 + ii_) j_ = if 0 ≤ v_ ∧ j_ = x_.toNat then v_ else S_.2.2.1 17 (0 + ii_) j_ := by
    intro j_
    rw [rd_ne (by decide), rd_eq]
    by_cases z_ : j_ = x_.toNat
    · rw [if_pos z_, if_pos ⟨h2_.1, z_⟩]
    · rw [if_neg z_, if_neg (fun q_ => z_ q_.2)]
  refine ⟨fun c_ hc_ => ?_, r1_⟩
  rw [rd_eq]
  by_cases z_ : c_ = v_.toNat
  · rw [if_pos z_, cne_up (f := S_.2.2.1 17 (0 + ii_)) (j := x_.toNat) (by omega) (by rw [r1_, if_pos ⟨h2_.1, rfl⟩]; omega) (fun k_ hk_ => by rw [r1_, if_neg (fun q_ => hk_ q_.2)]) (n := 652) (by omega)]
    have w_ := h_ c_ hc_
    rw [z_] at w_ ⊢
    push_cast
    omega
  · rw [if_neg z_, rd_ne (by decide), h_ c_ hc_]
    exact congrArg _ (cne_ot (f := S_.2.2.1 17 (0 + ii_)) (g := (sm_aI (sm_aI S_ 17 (0 + ii_) x_.toNat v_) 20 (0 + ii_) v_.toNat (S_.2.2.1 20 (0 + ii_) v_.toNat + 1)).2.2.1 17 (0 + ii_)) (j := x_.toNat) (by omega) (by rw [r1_, if_pos ⟨h2_.1, rfl⟩]; omega) (fun k_ hk_ => by rw [r1_, if_neg (fun q_ => hk_ q_.2)]) (n := 652)).symm
/-! Board.setPin -/
def vw_12 : sx_Wl := ([], [17, 20], [])
def vq_12 (a1_ : Int) (a2_ : Int) (ii_ : Nat) (S0_ : sm_S) (u_ : Option sm_V) (S1_ : sm_S) : Prop := u_ = none ∧ gi S1_ ∧ ai_fr (sx_W vw_12) S0_ S1_ ∧ (cdf ii_ S0_ S1_ ∧ (bcn ii_ S1_ ∧ ∀ j_, S1_.2.2.1 17 (0 + ii_) j_ = if 0 ≤ a2_ ∧ j_ = a1_.toNat then a2_ else S0_.2.2.1 17 (0 + ii_) j_))
set_option maxHeartbeats 400000 in
theorem vc_12 {sc_ : Nat × (Nat → Int)} (a1_ : Int) (a2_ : Int) (ii_ : Nat) (S0_ : sm_S) (hI_ : gi S0_) (h1_ : 0 ≤ a1_ ∧ a1_ ≤ 651) (h2_ : -2 ≤ a2_ ∧ a2_ ≤ 161) (hcn_ : bcn ii_ S0_) (hf_ : S0_.2.2.1 17 (0 + ii_) a1_.toNat = -1) : sm_T (mt_P sc_) 0 12 (0, [some (.inr (.inr (some (0, ii_)))), some (.inl a1_), some (.inl a2_)], [], S0_) (fun ro9_ => ∃ u_ S1_, ro9_ = (.inl u_, S1_, 0) ∧ vq_12 a1_ a2_ ii_ S0_ u_ S1_) := by
  have hF_ : ai_fr (sx_W vw_12) S0_ S0_ := ai_fr_rf
  have hC_ : cdf ii_ S0_ S0_ := cdf_rf
  refine sm_T_go 1 (c1 := (1, [some (.inr (.inr (some (0, ii_)))), some (.inl a1_), some (.inl a2_)], [.inl a2_], S0_)) rfl ?_
  refine sm_T_b0 (a := 2) (z := 20) rfl (fun cx1_ => ?_) (fun cx1_ => ?_)
  · have cx1_ : a2_ < 0 := of_decide_eq_true cx1_
    refine sm_T_rv rfl ⟨_, _, rfl, rfl, hI_, hF_, ?_⟩
    refine ⟨hC_, ?_⟩
    first | exact ⟨hcn_, fun j_ => by rw [if_neg (by omega)]⟩ | exact bcn_set hcn_ (by omega) (by omega) hf_
  · have cx1_ : ¬ (a2_ < 0) := of_decide_eq_false cx1_
    have ct : (cne (S0_.2.2.1 17 (0 + ii_)) a2_ 652 : Int) < 652 := by have z_ := cne_lt (f := S0_.2.2.1 17 (0 + ii_)) (c := a2_) (j := a1_.toNat) (by omega) (n := 652) (by omega); omega
    have ce_ := hcn_ a2_.toNat (by omega)
    rw [show ((a2_.toNat : Nat) : Int) = a2_ by omega] at ce_
    refine sm_T_go 4 (c1 := (10, [some (.inr (.inr (some (0, ii_)))), some (.inl a1_), some (.inl a2_)], [.inl a2_, .inl a1_, .inr (.inr (some (17, (0 + ii_))))], S0_)) rfl ?_
    refine sm_T_iast (n := 652) rfl rfl (by omega) (by omega) ?_
    have hIx2_ : gi (sm_aI S0_ 17 (0 + ii_) a1_.toNat a2_) := gi_aI hI_ (show (-1) ≤ a2_ ∧ a2_ ≤ 161 from ⟨by omega, by omega⟩)
    have hFx3_ : ai_fr (sx_W vw_12) S0_ (sm_aI S0_ 17 (0 + ii_) a1_.toNat a2_) := ai_fr_tr hF_ (ai_fr_aI rfl)
    have hCx4_ : cdf ii_ S0_ (sm_aI S0_ 17 (0 + ii_) a1_.toNat a2_) := cdf_aI hC_ (Or.inr (by rw [show cof 17 = 0 from rfl] <;> omega))
    refine sm_T_go 4 (c1 := (17, [some (.inr (.inr (some (0, ii_)))), some (.inl a1_), some (.inl a2_)], [.inl a2_, .inr (.inr (some (20, (0 + ii_)))), .inl a2_, .inr (.inr (some (20, (0 + ii_))))], sm_aI S0_ 17 (0 + ii_) a1_.toNat a2_)) rfl ?_
    refine sm_T_iald (n := 162) rfl rfl (by omega) (by omega) ?_
    have bx5_ : 0 ≤ S0_.2.2.1 20 (0 + ii_) a2_.toNat ∧ S0_.2.2.1 20 (0 + ii_) a2_.toNat ≤ 652 := hI_.2 20 (0 + ii_) _
    refine sm_T_go 1 (c1 := (19, [some (.inr (.inr (some (0, ii_)))), some (.inl a1_), some (.inl a2_)], [.inl 1, .inl (S0_.2.2.1 20 (0 + ii_) a2_.toNat), .inl a2_, .inr (.inr (some (20, (0 + ii_))))], sm_aI S0_ 17 (0 + ii_) a1_.toNat a2_)) rfl ?_
    refine sm_T_bin (w := (S0_.2.2.1 20 (0 + ii_) a2_.toNat) + 1) rfl (bi_add (by omega) (by omega) (by omega)) ?_ -- pc_ 19
    refine sm_T_iast (n := 162) rfl rfl (by omega) (by omega) ?_
    have hIx6_ : gi (sm_aI (sm_aI S0_ 17 (0 + ii_) a1_.toNat a2_) 20 (0 + ii_) a2_.toNat ((S0_.2.2.1 20 (0 + ii_) a2_.toNat) + 1)) := gi_aI hIx2_ (show 0 ≤ (S0_.2.2.1 20 (0 + ii_) a2_.toNat) + 1 ∧ (S0_.2.2.1 20 (0 + ii_) a2_.toNat) + 1 ≤ 652 from ⟨by omega, by omega⟩)
    have hFx7_ : ai_fr (sx_W vw_12) S0_ (sm_aI (sm_aI S0_ 17 (0 + ii_) a1_.toNat a2_) 20 (0 + ii_) a2_.toNat ((S0_.2.2.1 20 (0 + ii_) a2_.toNat) + 1)) := ai_fr_tr hFx3_ (ai_fr_aI rfl)
    have hCx8_ : cdf ii_ S0_ (sm_aI (sm_aI S0_ 17 (0 + ii_) a1_.toNat a2_) 20 (0 + ii_) a2_.toNat ((S0_.2.2.1 20 (0 + ii_) a2_.toNat) + 1)) := cdf_aI hCx4_ (Or.inr (by rw [show cof 20 = 0 from rfl] <;> omega))
    refine sm_T_rv rfl ⟨_, _, rfl, rfl, hIx6_, hFx7_, ?_⟩
    refine ⟨hCx8_, ?_⟩
    first | exact ⟨hcn_, fun j_ => by rw [if_neg (by omega)]⟩ | exact bcn_set hcn_ (by omega) (by omega) hf_
end
/-! 99.zj7b -/
section
/-! Board.listPins -/
def vw_13 : sx_Wl := ([], [18, 19, 20], [])
def vq_13 (ii_ : Nat) (S0_ : sm_S) (u_ : Option sm_V) (S1_ : sm_S) : Prop := u_ = none ∧ gi S1_ ∧ ai_fr (sx_W vw_13) S0_ S1_ ∧ (cdf ii_ S0_ S1_ ∧ (bpn ii_ S1_))
set_option maxHeartbeats 400000 in
theorem vl_13 {sc_ : Nat × (Nat → Int)} (ii_ : Nat) (S0_ : sm_S) (hcn_ : bcn ii_ S0_) : ∀ nn_ : Nat, (∀ (bh_ : Int) (nt_ : Int) (S_ : sm_S), gi S_ → ai_fr (sx_W vw_13) S0_ S_ → ((0 ≤ bh_ ∧ 0 ≤ nt_ ∧ nt_ ≤ 162) ∧ (bh_ = (scn (S0_.2.2.1 17 (0 + ii_)) 652 nt_.toNat : Int)) ∧ (∀ c_ : Nat, (c_ : Int) < nt_ → S_.2.2.1 19 (0 + ii_) c_ = (scn (S0_.2.2.1 17 (0 + ii_)) 652 c_ : Int) ∧ S_.2.2.1 20 (0 + ii_) c_ = 0) ∧ (∀ c_ : Nat, nt_ ≤ (c_ : Int) → c_ < 162 → S_.2.2.1 20 (0 + ii_) c_ = (cne (S0_.2.2.1 17 (0 + ii_)) (c_ : Int) 652 : Int)) ∧ (cdf ii_ S0_ S_) ∧ True) → ((2000 - nt_).toNat) < nn_ → sm_T (mt_P sc_) 0 13 (4, [some (.inr (.inr (some (0, ii_)))), some (.inl bh_), some (.inl nt_), none], [], S_) (fun ro9_ => ∃ u_ S1_, ro9_ = (.inl u_, S1_, 0) ∧ vq_13 ii_ S0_ u_ S1_)) ∧ (∀ (pn_ : Int) (S_ : sm_S), gi S_ → ai_fr (sx_W vw_13) S0_ S_ → ((0 ≤ pn_ ∧ pn_ ≤ 652) ∧ (∀ c_ : Nat, c_ < 162 → S_.2.2.1 19 (0 + ii_) c_ = (scn (S0_.2.2.1 17 (0 + ii_)) 652 c_ : Int) ∧ S_.2.2.1 20 (0 + ii_) c_ = (cne (S0_.2.2.1 17 (0 + ii_)) (c_ : Int) pn_.toNat : Int)) ∧ (∀ c_ : Nat, c_ < 162 → ∀ k_ : Nat, (k_ : Int) < S_.2.2.1 20 (0 + ii_) c_ → (S0_.2.2.1 17 (0 + ii_)) (S_.2.2.1 18 (0 + ii_) ((S_.2.2.1 19 (0 + ii_) c_).toNat + k_)).toNat = (c_ : Int)) ∧ (cdf ii_ S0_ S_) ∧ True) → ((1000 - pn_).toNat) < nn_ → sm_T (mt_P sc_) 0 13 (42, [some (.inr (.inr (some (0, ii_)))), none, some (.inl pn_), none], [], S_) (fun ro9_ => ∃ u_ S1_, ro9_ = (.inl u_, S1_, 0) ∧ vq_13 ii_ S0_ u_ S1_)) := by
  intro nn_
  induction nn_ with
  | zero => exact ⟨fun _ _ _ _ _ _ h_ => absurd h_ (Nat.not_lt_zero _), fun _ _ _ _ _ h_ => absurd h_ (Nat.not_lt_zero _)⟩
  | succ nn_ ih_ =>
    refine ⟨?_, ?_⟩
    · rintro bh_ nt_ S_ hI_ hF_ ⟨h0_, h1_, h2_, h3_, hC_, -⟩ hm_
      have sl9_ := scn_le (f := (S0_.2.2.1 17 (0 + ii_))) nt_.toNat 652
      refine sm_T_go 2 (c1 := (8, [some (.inr (.inr (some (0, ii_)))), some (.inl bh_), some (.inl nt_), none], [.inl 162, .inl nt_], S_)) rfl ?_
      refine sm_T_br (a := 3) (z := 32) rfl (fun cx1_ => ?_) (fun cx1_ => ?_)
      · have cx1_ : 162 ≤ nt_ := of_decide_eq_true cx1_
        refine sm_T_go 2 (c1 := (42, [some (.inr (.inr (some (0, ii_)))), some (.inl bh_), some (.inl 0), none], [], S_)) rfl ?_
        refine sm_T_wk [some (.inr (.inr (some (0, ii_)))), none, some (.inl 0), none] (by exact ⟨rfl, rfl, trivial⟩) ?_
        refine ih_.2 0 S_ hI_ hF_ ⟨?_, ?_, ?_, ?_, trivial⟩ ?_
        · omega
        · intro c_ hc_
          have z_ := h2_ c_ (by omega)
          exact ⟨z_.1, z_.2.trans rfl⟩
        · intro c_ hc_ k_ hk_
          have z_ := h2_ c_ (by omega)
          exfalso; omega
        · exact hC_
        · omega
      · have cx1_ : ¬ (162 ≤ nt_) := of_decide_eq_false cx1_
        have c9_ := h3_ nt_.toNat (by omega) (by omega)
        have m9_ := scn_mo (f := (S0_.2.2.1 17 (0 + ii_))) (n := 652) (a := nt_.toNat) (b := 162) (by omega)
        have q9_ := scn_le (f := (S0_.2.2.1 17 (0 + ii_))) 162 652
        refine sm_T_go 4 (c1 := (17, [some (.inr (.inr (some (0, ii_)))), some (.inl bh_), some (.inl nt_), none], [.inl bh_, .inl nt_, .inr (.inr (some (19, (0 + ii_))))], S_)) rfl ?_
        refine sm_T_iast (n := 162) rfl rfl (by omega) (by omega) ?_
        have hIx2_ : gi (sm_aI S_ 19 (0 + ii_) nt_.toNat bh_) := gi_aI hI_ (show 0 ≤ bh_ ∧ bh_ ≤ 652 from ⟨by omega, by omega⟩)
        have hFx3_ : ai_fr (sx_W vw_13) S0_ (sm_aI S_ 19 (0 + ii_) nt_.toNat bh_) := ai_fr_tr hF_ (ai_fr_aI rfl)
        have hCx4_ : cdf ii_ S0_ (sm_aI S_ 19 (0 + ii_) nt_.toNat bh_) := cdf_aI hC_ (Or.inr (by rw [show cof 19 = 0 from rfl] <;> omega))
        refine sm_T_go 4 (c1 := (24, [some (.inr (.inr (some (0, ii_)))), some (.inl bh_), some (.inl nt_), none], [.inl nt_, .inr (.inr (some (20, (0 + ii_)))), .inl bh_], sm_aI S_ 19 (0 + ii_) nt_.toNat bh_)) rfl ?_
        refine sm_T_iald (n := 162) rfl rfl (by omega) (by omega) ?_
        have bx5_ : 0 ≤ S_.2.2.1 20 (0 + ii_) nt_.toNat ∧ S_.2.2.1 20 (0 + ii_) nt_.toNat ≤ 652 := hI_.2 20 (0 + ii_) _
        refine sm_T_go 0 (c1 := (25, [some (.inr (.inr (some (0, ii_)))), some (.inl bh_), some (.inl nt_), none], [.inl (S_.2.2.1 20 (0 + ii_) nt_.toNat), .inl bh_], sm_aI S_ 19 (0 + ii_) nt_.toNat bh_)) rfl ?_
        refine sm_T_bin (w := bh_ + (S_.2.2.1 20 (0 + ii_) nt_.toNat)) rfl (bi_add (by omega) (by omega) (by omega)) ?_ -- pc_ 25
        refine sm_T_go 5 (c1 := (33, [some (.inr (.inr (some (0, ii_)))), some (.inl (bh_ + (S_.2.2.1 20 (0 + ii_) nt_.toNat))), some (.inl nt_), none], [.inl 0, .inl nt_, .inr (.inr (some (20, (0 + ii_))))], sm_aI S_ 19 (0 + ii_) nt_.toNat bh_)) rfl ?_
        refine sm_T_iast (n := 162) rfl rfl (by omega) (by omega) ?_
        have hIx6_ : gi (sm_aI (sm_aI S_ 19 (0 + ii_) nt_.toNat bh_) 20 (0 + ii_) nt_.toNat 0) := gi_aI hIx2_ (show 0 ≤ 0 ∧ 0 ≤ 652 from ⟨by omega, by omega⟩)
        have hFx7_ : ai_fr (sx_W vw_13) S0_ (sm_aI (sm_aI S_ 19 (0 + ii_) nt_.toNat bh_) 20 (0 + ii_) nt_.toNat 0) := ai_fr_tr hFx3_ (ai_fr_aI rfl)
        have hCx8_ : cdf ii_ S0_ (sm_aI (sm_aI S_ 19 (0 + ii_) nt_.toNat bh_) 20 (0 + ii_) nt_.toNat 0) := cdf_aI hCx4_ (Or.inr (by rw [show cof 20 = 0 from rfl] <;> omega))
        refine sm_T_inc (a := 2) (z := 1) (v := nt_) (w := nt_ + 1) rfl rfl (by omega) (by omega) (by omega) ?_ -- pc_ 34
        refine sm_T_go 1 (c1 := (4, [some (.inr (.inr (some (0, ii_)))), some (.inl (bh_ + (S_.2.2.1 20 (0 + ii_) nt_.toNat))), some (.inl (nt_ + 1)), none], [], sm_aI (sm_aI S_ 19 (0 + ii_) nt_.toNat bh_) 20 (0 + ii_) nt_.toNat 0)) rfl ?_
        refine ih_.1 (bh_ + (S_.2.2.1 20 (0 + ii_) nt_.toNat)) (nt_ + 1) (sm_aI (sm_aI S_ 19 (0 + ii_) nt_.toNat bh_) 20 (0 + ii_) nt_.toNat 0) hIx6_ hFx7_ ⟨?_, ?_, ?_, ?_, ?_, trivial⟩ ?_
        · omega
        · (rw [show (nt_ + 1).toNat = nt_.toNat + 1 by omega]; show _ = ((scn (S0_.2.2.1 17 (0 + ii_)) 652 nt_.toNat + cne (S0_.2.2.1 17 (0 + ii_)) (nt_.toNat : Int) 652 : Nat) : Int); push_cast; omega)
        · intro c_ hc_
          (try simp only [rd_eq, rd_ne, rf_eq, rf_nk, rf_nt, rd_fa, rd_af, rd_fl, rd_al, rd_lf, rd_la, rd_leq, rd_lne, rd_fr, rd_ar, ne_eq, Nat.reduceEqDiff, not_false_eq_true])
          by_cases z_ : c_ = nt_.toNat
          · rw [if_pos z_, if_pos z_, z_]; exact ⟨h1_, rfl⟩
          · rw [if_neg z_, if_neg z_]; exact h2_ c_ (by omega)
        · intro c_ hc_ h_
          (try simp only [rd_eq, rd_ne, rf_eq, rf_nk, rf_nt, rd_fa, rd_af, rd_fl, rd_al, rd_lf, rd_la, rd_leq, rd_lne, rd_fr, rd_ar, ne_eq, Nat.reduceEqDiff, not_false_eq_true])
          rw [if_neg (by omega)]
          exact h3_ c_ (by omega) h_
        · exact hCx8_
        · omega
    · rintro pn_ S_ hI_ hF_ ⟨h0_, h2_, h4_, hC_, -⟩ hm_
      have f17_ : S_.2.2.1 17 (0 + ii_) = (S0_.2.2.1 17 (0 + ii_)) := fr_arr hF_ rfl
      refine sm_T_go 2 (c1 := (46, [some (.inr (.inr (some (0, ii_)))), none, some (.inl pn_), none], [.inl 652, .inl pn_], S_)) rfl ?_
      refine sm_T_br (a := 3) (z := 50) rfl (fun cx1_ => ?_) (fun cx1_ => ?_)
      · have cx1_ : 652 ≤ pn_ := of_decide_eq_true cx1_
        refine sm_T_rv rfl ⟨_, _, rfl, rfl, hI_, hF_, ?_⟩
        refine ⟨hC_, ?_⟩
        intro c_ hc_
        have z9_ : pn_.toNat = 652 := by omega
        have g9_ := h2_ c_ hc_
        rw [z9_] at g9_
        have m9_ := scn_mo (f := (S0_.2.2.1 17 (0 + ii_))) (n := 652) (a := c_) (b := 162) hc_
        have q9_ := scn_le (f := (S0_.2.2.1 17 (0 + ii_))) 162 652
        refine ⟨by omega, fun k_ hk_ => ?_⟩
        rw [f17_]
        exact h4_ c_ hc_ k_ hk_
      · have cx1_ : ¬ (652 ≤ pn_) := of_decide_eq_false cx1_
        refine sm_T_go 3 (c1 := (54, [some (.inr (.inr (some (0, ii_)))), none, some (.inl pn_), none], [.inl pn_, .inr (.inr (some (17, (0 + ii_))))], S_)) rfl ?_
        refine sm_T_iald (n := 652) rfl rfl (by omega) (by omega) ?_
        have bx2_ : (-1) ≤ S_.2.2.1 17 (0 + ii_) pn_.toNat ∧ S_.2.2.1 17 (0 + ii_) pn_.toNat ≤ 161 := hI_.2 17 (0 + ii_) _
        refine sm_T_go 3 (c1 := (58, [some (.inr (.inr (some (0, ii_)))), none, some (.inl pn_), some (.inl (S_.2.2.1 17 (0 + ii_) pn_.toNat))], [.inl (-1), .inl (S_.2.2.1 17 (0 + ii_) pn_.toNat)], S_)) rfl ?_
        refine sm_T_br (a := 0) (z := 32) rfl (fun cx3_ => ?_) (fun cx3_ => ?_)
        · have cx3_ : (S_.2.2.1 17 (0 + ii_) pn_.toNat) = (-1) := of_decide_eq_true cx3_
          refine sm_T_inc (a := 2) (z := 1) (v := pn_) (w := pn_ + 1) rfl rfl (by omega) (by omega) (by omega) ?_ -- pc_ 90
          refine sm_T_go 1 (c1 := (42, [some (.inr (.inr (some (0, ii_)))), none, some (.inl (pn_ + 1)), some (.inl (S_.2.2.1 17 (0 + ii_) pn_.toNat))], [], S_)) rfl ?_
          refine sm_T_wk [some (.inr (.inr (some (0, ii_)))), none, some (.inl (pn_ + 1)), none] (by exact ⟨rfl, rfl, trivial⟩) ?_
          refine ih_.2 (pn_ + 1) S_ hI_ hF_ ⟨?_, ?_, ?_, ?_, trivial⟩ ?_
          · omega
          · intro c_ hc_
            have z_ := h2_ c_ hc_
            refine ⟨z_.1, z_.2.trans ?_⟩
            rw [show (pn_ + 1).toNat = pn_.toNat + 1 by omega, cne_s, if_neg (by rw [← f17_]; omega)]; rfl
          · exact h4_
          · exact hC_
          · omega
        · have cx3_ : ¬ ((S_.2.2.1 17 (0 + ii_) pn_.toNat) = (-1)) := of_decide_eq_false cx3_
          have g9_ := h2_ (S_.2.2.1 17 (0 + ii_) pn_.toNat).toNat (by omega)
          have m9_ := scn_mo (f := (S0_.2.2.1 17 (0 + ii_))) (n := 652) (a := (S_.2.2.1 17 (0 + ii_) pn_.toNat).toNat) (b := 162) (by omega)
          have q9_ := scn_le (f := (S0_.2.2.1 17 (0 + ii_))) 162 652
          rw [show (((S_.2.2.1 17 (0 + ii_) pn_.toNat).toNat : Nat) : Int) = (S_.2.2.1 17 (0 + ii_) pn_.toNat) by omega] at m9_ g9_
          have s9_ := cne_st (f := (S0_.2.2.1 17 (0 + ii_))) (c := (S_.2.2.1 17 (0 + ii_) pn_.toNat)) (j := pn_.toNat) (by rw [f17_]) (n := 652) (by omega)
          refine sm_T_go 5 (c1 := (70, [some (.inr (.inr (some (0, ii_)))), none, some (.inl pn_), some (.inl (S_.2.2.1 17 (0 + ii_) pn_.toNat))], [.inl (S_.2.2.1 17 (0 + ii_) pn_.toNat), .inr (.inr (some (19, (0 + ii_)))), .inr (.inr (some (18, (0 + ii_))))], S_)) rfl ?_
          refine sm_T_iald (n := 162) rfl rfl (by omega) (by omega) ?_
          have bx4_ : 0 ≤ S_.2.2.1 19 (0 + ii_) (S_.2.2.1 17 (0 + ii_) pn_.toNat).toNat ∧ S_.2.2.1 19 (0 + ii_) (S_.2.2.1 17 (0 + ii_) pn_.toNat).toNat ≤ 652 := hI_.2 19 (0 + ii_) _
          refine sm_T_go 3 (c1 := (76, [some (.inr (.inr (some (0, ii_)))), none, some (.inl pn_), some (.inl (S_.2.2.1 17 (0 + ii_) pn_.toNat))], [.inl (S_.2.2.1 17 (0 + ii_) pn_.toNat), .inr (.inr (some (20, (0 + ii_)))), .inl (S_.2.2.1 19 (0 + ii_) (S_.2.2.1 17 (0 + ii_) pn_.toNat).toNat), .inr (.inr (some (18, (0 + ii_))))], S_)) rfl ?_
          refine sm_T_iald (n := 162) rfl rfl (by omega) (by omega) ?_
          have bx5_ : 0 ≤ S_.2.2.1 20 (0 + ii_) (S_.2.2.1 17 (0 + ii_) pn_.toNat).toNat ∧ S_.2.2.1 20 (0 + ii_) (S_.2.2.1 17 (0 + ii_) pn_.toNat).toNat ≤ 652 := hI_.2 20 (0 + ii_) _
          refine sm_T_bin (w := (S_.2.2.1 19 (0 + ii_) (S_.2.2.1 17 (0 + ii_) pn_.toNat).toNat) + (S_.2.2.1 20 (0 + ii_) (S_.2.2.1 17 (0 + ii_) pn_.toNat).toNat)) rfl (bi_add (by omega) (by omega) (by omega)) ?_ -- pc_ 77
          refine sm_T_go 1 (c1 := (79, [some (.inr (.inr (some (0, ii_)))), none, some (.inl pn_), some (.inl (S_.2.2.1 17 (0 + ii_) pn_.toNat))], [.inl pn_, .inl ((S_.2.2.1 19 (0 + ii_) (S_.2.2.1 17 (0 + ii_) pn_.toNat).toNat) + (S_.2.2.1 20 (0 + ii_) (S_.2.2.1 17 (0 + ii_) pn_.toNat).toNat)), .inr (.inr (some (18, (0 + ii_))))], S_)) rfl ?_
          refine sm_T_iast (n := 652) rfl rfl (by omega) (by omega) ?_
          have hIx6_ : gi (sm_aI S_ 18 (0 + ii_) ((S_.2.2.1 19 (0 + ii_) (S_.2.2.1 17 (0 + ii_) pn_.toNat).toNat) + (S_.2.2.1 20 (0 + ii_) (S_.2.2.1 17 (0 + ii_) pn_.toNat).toNat)).toNat pn_) := gi_aI hI_ (show 0 ≤ pn_ ∧ pn_ ≤ 651 from ⟨by omega, by omega⟩)
          have hFx7_ : ai_fr (sx_W vw_13) S0_ (sm_aI S_ 18 (0 + ii_) ((S_.2.2.1 19 (0 + ii_) (S_.2.2.1 17 (0 + ii_) pn_.toNat).toNat) + (S_.2.2.1 20 (0 + ii_) (S_.2.2.1 17 (0 + ii_) pn_.toNat).toNat)).toNat pn_) := ai_fr_tr hF_ (ai_fr_aI rfl)
          have hCx8_ : cdf ii_ S0_ (sm_aI S_ 18 (0 + ii_) ((S_.2.2.1 19 (0 + ii_) (S_.2.2.1 17 (0 + ii_) pn_.toNat).toNat) + (S_.2.2.1 20 (0 + ii_) (S_.2.2.1 17 (0 + ii_) pn_.toNat).toNat)).toNat pn_) := cdf_aI hC_ (Or.inr (by rw [show cof 18 = 0 from rfl] <;> omega))
          refine sm_T_go 4 (c1 := (86, [some (.inr (.inr (some (0, ii_)))), none, some (.inl pn_), some (.inl (S_.2.2.1 17 (0 + ii_) pn_.toNat))], [.inl (S_.2.2.1 17 (0 + ii_) pn_.toNat), .inr (.inr (some (20, (0 + ii_)))), .inl (S_.2.2.1 17 (0 + ii_) pn_.toNat), .inr (.inr (some (20, (0 + ii_))))], sm_aI S_ 18 (0 + ii_) ((S_.2.2.1 19 (0 + ii_) (S_.2.2.1 17 (0 + ii_) pn_.toNat).toNat) + (S_.2.2.1 20 (0 + ii_) (S_.2.2.1 17 (0 + ii_) pn_.toNat).toNat)).toNat pn_)) rfl ?_
          refine sm_T_iald (n := 162) rfl rfl (by omega) (by omega) ?_
          refine sm_T_go 1 (c1 := (88, [some (.inr (.inr (some (0, ii_)))), none, some (.inl pn_), some (.inl (S_.2.2.1 17 (0 + ii_) pn_.toNat))], [.inl 1, .inl (S_.2.2.1 20 (0 + ii_) (S_.2.2.1 17 (0 + ii_) pn_.toNat).toNat), .inl (S_.2.2.1 17 (0 + ii_) pn_.toNat), .inr (.inr (some (20, (0 + ii_))))], sm_aI S_ 18 (0 + ii_) ((S_.2.2.1 19 (0 + ii_) (S_.2.2.1 17 (0 + ii_) pn_.toNat).toNat) + (S_.2.2.1 20 (0 + ii_) (S_.2.2.1 17 (0 + ii_) pn_.toNat).toNat)).toNat pn_)) rfl ?_
          refine sm_T_bin (w := (S_.2.2.1 20 (0 + ii_) (S_.2.2.1 17 (0 + ii_) pn_.toNat).toNat) + 1) rfl (bi_add (by omega) (by omega) (by omega)) ?_ -- pc_ 88
          refine sm_T_iast (n := 162) rfl rfl (by omega) (by omega) ?_
          have hIx9_ : gi (sm_aI (sm_aI S_ 18 (0 + ii_) ((S_.2.2.1 19 (0 + ii_) (S_.2.2.1 17 (0 + ii_) pn_.toNat).toNat) + (S_.2.2.1 20 (0 + ii_) (S_.2.2.1 17 (0 + ii_) pn_.toNat).toNat)).toNat pn_) 20 (0 + ii_) (S_.2.2.1 17 (0 + ii_) pn_.toNat).toNat ((S_.2.2.1 20 (0 + ii_) (S_.2.2.1 17 (0 + ii_) pn_.toNat).toNat) + 1)) := gi_aI hIx6_ (show 0 ≤ (S_.2.2.1 20 (0 + ii_) (S_.2.2.1 17 (0 + ii_) pn_.toNat).toNat) + 1 ∧ (S_.2.2.1 20 (0 + ii_) (S_.2.2.1 17 (0 + ii_) pn_.toNat).toNat) + 1 ≤ 652 from ⟨by omega, by omega⟩)
          have hFx10_ : ai_fr (sx_W vw_13) S0_ (sm_aI (sm_aI S_ 18 (0 + ii_) ((S_.2.2.1 19 (0 + ii_) (S_.2.2.1 17 (0 + ii_) pn_.toNat).toNat) + (S_.2.2.1 20 (0 + ii_) (S_.2.2.1 17 (0 + ii_) pn_.toNat).toNat)).toNat pn_) 20 (0 + ii_) (S_.2.2.1 17 (0 + ii_) pn_.toNat).toNat ((S_.2.2.1 20 (0 + ii_) (S_.2.2.1 17 (0 + ii_) pn_.toNat).toNat) + 1)) := ai_fr_tr hFx7_ (ai_fr_aI rfl)
          have hCx11_ : cdf ii_ S0_ (sm_aI (sm_aI S_ 18 (0 + ii_) ((S_.2.2.1 19 (0 + ii_) (S_.2.2.1 17 (0 + ii_) pn_.toNat).toNat) + (S_.2.2.1 20 (0 + ii_) (S_.2.2.1 17 (0 + ii_) pn_.toNat).toNat)).toNat pn_) 20 (0 + ii_) (S_.2.2.1 17 (0 + ii_) pn_.toNat).toNat ((S_.2.2.1 20 (0 + ii_) (S_.2.2.1 17 (0 + ii_) pn_.toNat).toNat) + 1)) := cdf_aI hCx8_ (Or.inr (by rw [show cof 20 = 0 from rfl] <;> omega))
          refine sm_T_inc (a := 2) (z := 1) (v := pn_) (w := pn_ + 1) rfl rfl (by omega) (by omega) (by omega) ?_ -- pc_ 90
          refine sm_T_go 1 (c1 := (42, [some (.inr (.inr (some (0, ii_)))), none, some (.inl (pn_ + 1)), some (.inl (S_.2.2.1 17 (0 + ii_) pn_.toNat))], [], sm_aI (sm_aI S_ 18 (0 + ii_) ((S_.2.2.1 19 (0 + ii_) (S_.2.2.1 17 (0 + ii_) pn_.toNat).toNat) + (S_.2.2.1 20 (0 + ii_) (S_.2.2.1 17 (0 + ii_) pn_.toNat).toNat)).toNat pn_) 20 (0 + ii_) (S_.2.2.1 17 (0 + ii_) pn_.toNat).toNat ((S_.2.2.1 20 (0 + ii_) (S_.2.2.1 17 (0 + ii_) pn_.toNat).toNat) + 1))) rfl ?_
          refine sm_T_wk [some (.inr (.inr (some (0, ii_)))), none, some (.inl (pn_ + 1)), none] (by exact ⟨rfl, rfl, trivial⟩) ?_
          refine ih_.2 (pn_ + 1) (sm_aI (sm_aI S_ 18 (0 + ii_) ((S_.2.2.1 19 (0 + ii_) (S_.2.2.1 17 (0 + ii_) pn_.toNat).toNat) + (S_.2.2.1 20 (0 + ii_) (S_.2.2.1 17 (0 + ii_) pn_.toNat).toNat)).toNat pn_) 20 (0 + ii_) (S_.2.2.1 17 (0 + ii_) pn_.toNat).toNat ((S_.2.2.1 20 (0 + ii_) (S_.2.2.1 17 (0 + ii_) pn_.toNat).toNat) + 1)) hIx9_ hFx10_ ⟨?_, ?_, ?_, ?_, trivial⟩ ?_
          · omega
          · intro c_ hc_
            have z_ := h2_ c_ hc_
            (try simp only [rd_eq, rd_ne, rf_eq, rf_nk, rf_nt, rd_fa, rd_af, rd_fl, rd_al, rd_lf, rd_la, rd_leq, rd_lne, rd_fr, rd_ar, ne_eq, Nat.reduceEqDiff, not_false_eq_true])
            refine ⟨z_.1, ?_⟩
            rw [show (pn_ + 1).toNat = pn_.toNat + 1 by omega, cne_s]
            by_cases y_ : c_ = (S_.2.2.1 17 (0 + ii_) pn_.toNat).toNat
            · rw [if_pos y_, if_pos (by rw [← f17_]; omega), y_, show (((S_.2.2.1 17 (0 + ii_) pn_.toNat).toNat : Nat) : Int) = (S_.2.2.1 17 (0 + ii_) pn_.toNat) by omega, g9_.2]; push_cast; rfl
            · rw [if_neg y_, if_neg (by rw [← f17_]; omega), z_.2]; push_cast; omega
          · intro c_ hc_ k_ hk_
            (try simp only [rd_eq, rd_ne, rf_eq, rf_nk, rf_nt, rd_fa, rd_af, rd_fl, rd_al, rd_lf, rd_la, rd_leq, rd_lne, rd_fr, rd_ar, ne_eq, Nat.reduceEqDiff, not_false_eq_true] at hk_ ⊢)
            have z_ := h2_ c_ hc_
            have w_ := h2_ (S_.2.2.1 17 (0 + ii_) pn_.toNat).toNat (by omega)
            by_cases y_ : c_ = (S_.2.2.1 17 (0 + ii_) pn_.toNat).toNat
            · rw [if_pos y_] at hk_
              by_cases x_ : (k_ : Int) = S_.2.2.1 20 (0 + ii_) (S_.2.2.1 17 (0 + ii_) pn_.toNat).toNat
              · rw [if_pos (by rw [y_]; omega), ← f17_, y_]; omega
              · rw [if_neg (by rw [y_]; omega)]; exact h4_ c_ hc_ k_ (by rw [y_]; omega)
            · rw [if_neg y_] at hk_
              have o1_ := cne_mo (f := (S0_.2.2.1 17 (0 + ii_))) (c := (c_ : Int)) (n := pn_.toNat) (m := 652) (by omega)
              have o2_ : c_ < (S_.2.2.1 17 (0 + ii_) pn_.toNat).toNat → (scn (S0_.2.2.1 17 (0 + ii_)) 652 c_ + cne (S0_.2.2.1 17 (0 + ii_)) (c_ : Int) 652 ≤ scn (S0_.2.2.1 17 (0 + ii_)) 652 (S_.2.2.1 17 (0 + ii_) pn_.toNat).toNat) := fun u_ => scn_mo u_
              have o3_ : (S_.2.2.1 17 (0 + ii_) pn_.toNat).toNat < c_ → (scn (S0_.2.2.1 17 (0 + ii_)) 652 (S_.2.2.1 17 (0 + ii_) pn_.toNat).toNat + cne (S0_.2.2.1 17 (0 + ii_)) (S_.2.2.1 17 (0 + ii_) pn_.toNat) 652 ≤ scn (S0_.2.2.1 17 (0 + ii_)) 652 c_) := fun u_ => by have v_ := scn_mo (f := (S0_.2.2.1 17 (0 + ii_))) (n := 652) u_; rw [show (((S_.2.2.1 17 (0 + ii_) pn_.toNat).toNat : Nat) : Int) = (S_.2.2.1 17 (0 + ii_) pn_.toNat) by omega] at v_; exact v_
              have o4_ : c_ < (S_.2.2.1 17 (0 + ii_) pn_.toNat).toNat ∨ (S_.2.2.1 17 (0 + ii_) pn_.toNat).toNat < c_ := by omega
              have o5_ : (S_.2.2.1 19 (0 + ii_) c_).toNat + k_ ≠ (S_.2.2.1 19 (0 + ii_) (S_.2.2.1 17 (0 + ii_) pn_.toNat).toNat + S_.2.2.1 20 (0 + ii_) (S_.2.2.1 17 (0 + ii_) pn_.toNat).toNat).toNat := by rcases o4_ with u_ | u_; (have v_ := o2_ u_; omega); (have v_ := o3_ u_; omega)
              rw [if_neg o5_]
              exact h4_ c_ hc_ k_ hk_
          · exact hCx11_
          · omega
set_option maxHeartbeats 400000 in
theorem vc_13 {sc_ : Nat × (Nat → Int)} (ii_ : Nat) (S0_ : sm_S) (hI_ : gi S0_) (hcn_ : bcn ii_ S0_) : sm_T (mt_P sc_) 0 13 (0, [some (.inr (.inr (some (0, ii_)))), none, none, none], [], S0_) (fun ro9_ => ∃ u_ S1_, ro9_ = (.inl u_, S1_, 0) ∧ vq_13 ii_ S0_ u_ S1_) := by
  have hF_ : ai_fr (sx_W vw_13) S0_ S0_ := ai_fr_rf
  have hC_ : cdf ii_ S0_ S0_ := cdf_rf
  refine sm_T_go 4 (c1 := (4, [some (.inr (.inr (some (0, ii_)))), some (.inl 0), some (.inl 0), none], [], S0_)) rfl ?_
  refine (vl_13 ii_ S0_ hcn_ _).1 0 0 S0_ hI_ hF_ ⟨?_, ?_, ?_, ?_, ?_, trivial⟩ (Nat.lt_succ_self _)
  · omega
  · rfl
  · (intro c_ hc_; exfalso; omega)
  · (intro c_ hc_ h_; exact hcn_ c_ h_)
  · exact hC_
end
/-! 99.zj8a -/
section
/-! places of pins; written by wip/p55/gen/vg -/

/-! places of_ pins -/
def ppx (ii_ : Nat) (S_ : sm_S) (p_ : Int) : Int := if p_ < 624 then 1 + S_.2.2.1 14 (0 + ii_) (p_ / 4).toNat + p_ % 4 else if p_ < 636 then 0 else S_.1 0 ii_ 0 + 1
def ppy (ii_ : Nat) (S_ : sm_S) (p_ : Int) : Int := if p_ < 624 then 3 * S_.2.2.1 15 (0 + ii_) (p_ / 4).toNat + 1 else if p_ < 636 then p_ - 624 else p_ - 636
def ppt (ii_ : Nat) (S_ : sm_S) (p_ : Int) : Int := ppy ii_ S_ p_ * (S_.1 0 ii_ 0 + 2) + ppx ii_ S_ p_
/-! Chip.firstGateNet -/
def vw_54 : sx_Wl := ([], [], [])
def vq_54 (ii_ : Nat) (S0_ : sm_S) (u_ : Option sm_V) (S1_ : sm_S) : Prop := S0_ = S1_ ∧ ∃ v_ : Int, u_ = some (.inl v_) ∧ ((0 ≤ v_ ∧ v_ ≤ 18) ∧ (v_ = (S0_.1 2 ii_ 1) + (S0_.1 2 ii_ 2)))
set_option maxHeartbeats 400000 in
theorem vc_54 {sc_ : Nat × (Nat → Int)} (ii_ : Nat) (S0_ : sm_S) (hI_ : gi S0_)  : sm_T (mt_P sc_) 0 54 (0, [some (.inr (.inr (some (2, ii_))))], [], S0_) (fun ro9_ => ∃ u_ S1_, ro9_ = (.inl u_, S1_, 0) ∧ vq_54 ii_ S0_ u_ S1_) := by
  have hF_ : ai_fr (sx_W vw_54) S0_ S0_ := ai_fr_rf
  have bx1_ : 0 ≤ S0_.1 2 ii_ 1 ∧ S0_.1 2 ii_ 1 ≤ 12 := hI_.1 2 ii_ 1 rfl
  have bx2_ : 0 ≤ S0_.1 2 ii_ 2 ∧ S0_.1 2 ii_ 2 ≤ 6 := hI_.1 2 ii_ 2 rfl
  refine sm_T_go 4 (c1 := (8, [some (.inr (.inr (some (2, ii_))))], [.inl (S0_.1 2 ii_ 2), .inl (S0_.1 2 ii_ 1)], S0_)) rfl ?_
  refine sm_T_bin (w := (S0_.1 2 ii_ 1) + (S0_.1 2 ii_ 2)) rfl (bi_add (by omega) (by omega) (by omega)) ?_ -- pc_ 8
  refine sm_T_ri rfl ⟨_, _, rfl, rfl, _, rfl, ?_⟩
  first | (refine ⟨⟨?_, ?_⟩, rfl⟩ <;> omega) | omega | (refine ⟨by omega, ?_⟩; omega)
end
/-! 99.zj8b -/
section
/-! Chip.nets -/
def vw_55 : sx_Wl := ([], [], [])
def vq_55 (ii_ : Nat) (S0_ : sm_S) (u_ : Option sm_V) (S1_ : sm_S) : Prop := S0_ = S1_ ∧ ∃ v_ : Int, u_ = some (.inl v_) ∧ ((0 ≤ v_ ∧ v_ ≤ 168) ∧ (v_ = (S0_.1 2 ii_ 1) + (S0_.1 2 ii_ 2) + (S0_.1 2 ii_ 8)))
set_option maxHeartbeats 400000 in
theorem vc_55 {sc_ : Nat × (Nat → Int)} (ii_ : Nat) (S0_ : sm_S) (hI_ : gi S0_)  : sm_T (mt_P sc_) 0 55 (0, [some (.inr (.inr (some (2, ii_))))], [], S0_) (fun ro9_ => ∃ u_ S1_, ro9_ = (.inl u_, S1_, 0) ∧ vq_55 ii_ S0_ u_ S1_) := by
  have hF_ : ai_fr (sx_W vw_55) S0_ S0_ := ai_fr_rf
  have bx1_ : 0 ≤ S0_.1 2 ii_ 1 ∧ S0_.1 2 ii_ 1 ≤ 12 := hI_.1 2 ii_ 1 rfl
  have bx2_ : 0 ≤ S0_.1 2 ii_ 2 ∧ S0_.1 2 ii_ 2 ≤ 6 := hI_.1 2 ii_ 2 rfl
  refine sm_T_go 4 (c1 := (8, [some (.inr (.inr (some (2, ii_))))], [.inl (S0_.1 2 ii_ 2), .inl (S0_.1 2 ii_ 1)], S0_)) rfl ?_
  refine sm_T_bin (w := (S0_.1 2 ii_ 1) + (S0_.1 2 ii_ 2)) rfl (bi_add (by omega) (by omega) (by omega)) ?_ -- pc_ 8
  have bx3_ : 0 ≤ S0_.1 2 ii_ 8 ∧ S0_.1 2 ii_ 8 ≤ 150 := hI_.1 2 ii_ 8 rfl
  refine sm_T_go 2 (c1 := (13, [some (.inr (.inr (some (2, ii_))))], [.inl (S0_.1 2 ii_ 8), .inl ((S0_.1 2 ii_ 1) + (S0_.1 2 ii_ 2))], S0_)) rfl ?_
  refine sm_T_bin (w := (S0_.1 2 ii_ 1) + (S0_.1 2 ii_ 2) + (S0_.1 2 ii_ 8)) rfl (bi_add (by omega) (by omega) (by omega)) ?_ -- pc_ 13
  refine sm_T_ri rfl ⟨_, _, rfl, rfl, _, rfl, ?_⟩
  first | (refine ⟨⟨?_, ?_⟩, rfl⟩ <;> omega) | omega | (refine ⟨by omega, ?_⟩; omega)
end
/-! 99.zj8c -/
section
/-! Chip.elements -/
def vw_56 : sx_Wl := ([], [], [])
def vq_56 (ii_ : Nat) (S0_ : sm_S) (u_ : Option sm_V) (S1_ : sm_S) : Prop := S0_ = S1_ ∧ ∃ v_ : Int, u_ = some (.inl v_) ∧ ((0 ≤ v_ ∧ v_ ≤ 156) ∧ (v_ = (S0_.1 2 ii_ 2) + (S0_.1 2 ii_ 8)))
set_option maxHeartbeats 400000 in
theorem vc_56 {sc_ : Nat × (Nat → Int)} (ii_ : Nat) (S0_ : sm_S) (hI_ : gi S0_)  : sm_T (mt_P sc_) 0 56 (0, [some (.inr (.inr (some (2, ii_))))], [], S0_) (fun ro9_ => ∃ u_ S1_, ro9_ = (.inl u_, S1_, 0) ∧ vq_56 ii_ S0_ u_ S1_) := by
  have hF_ : ai_fr (sx_W vw_56) S0_ S0_ := ai_fr_rf
  have bx1_ : 0 ≤ S0_.1 2 ii_ 2 ∧ S0_.1 2 ii_ 2 ≤ 6 := hI_.1 2 ii_ 2 rfl
  have bx2_ : 0 ≤ S0_.1 2 ii_ 8 ∧ S0_.1 2 ii_ 8 ≤ 150 := hI_.1 2 ii_ 8 rfl
  refine sm_T_go 4 (c1 := (8, [some (.inr (.inr (some (2, ii_))))], [.inl (S0_.1 2 ii_ 8), .inl (S0_.1 2 ii_ 2)], S0_)) rfl ?_
  refine sm_T_bin (w := (S0_.1 2 ii_ 2) + (S0_.1 2 ii_ 8)) rfl (bi_add (by omega) (by omega) (by omega)) ?_ -- pc_ 8
  refine sm_T_ri rfl ⟨_, _, rfl, rfl, _, rfl, ?_⟩
  first | (refine ⟨⟨?_, ?_⟩, rfl⟩ <;> omega) | omega | (refine ⟨by omega, ?_⟩; omega)
end
/-! 99.zj8d -/
section
/-! Chip.ends -/
def vw_57 : sx_Wl := ([], [], [])
def vq_57 (ii_ : Nat) (S0_ : sm_S) (u_ : Option sm_V) (S1_ : sm_S) : Prop := S0_ = S1_ ∧ ∃ v_ : Int, u_ = some (.inl v_) ∧ ((0 ≤ v_ ∧ v_ ≤ 22) ∧ (v_ = (S0_.1 2 ii_ 3) + (S0_.1 2 ii_ 2)))
set_option maxHeartbeats 400000 in
theorem vc_57 {sc_ : Nat × (Nat → Int)} (ii_ : Nat) (S0_ : sm_S) (hI_ : gi S0_)  : sm_T (mt_P sc_) 0 57 (0, [some (.inr (.inr (some (2, ii_))))], [], S0_) (fun ro9_ => ∃ u_ S1_, ro9_ = (.inl u_, S1_, 0) ∧ vq_57 ii_ S0_ u_ S1_) := by
  have hF_ : ai_fr (sx_W vw_57) S0_ S0_ := ai_fr_rf
  have bx1_ : 0 ≤ S0_.1 2 ii_ 3 ∧ S0_.1 2 ii_ 3 ≤ 16 := hI_.1 2 ii_ 3 rfl
  have bx2_ : 0 ≤ S0_.1 2 ii_ 2 ∧ S0_.1 2 ii_ 2 ≤ 6 := hI_.1 2 ii_ 2 rfl
  refine sm_T_go 4 (c1 := (8, [some (.inr (.inr (some (2, ii_))))], [.inl (S0_.1 2 ii_ 2), .inl (S0_.1 2 ii_ 3)], S0_)) rfl ?_
  refine sm_T_bin (w := (S0_.1 2 ii_ 3) + (S0_.1 2 ii_ 2)) rfl (bi_add (by omega) (by omega) (by omega)) ?_ -- pc_ 8
  refine sm_T_ri rfl ⟨_, _, rfl, rfl, _, rfl, ?_⟩
  first | (refine ⟨⟨?_, ?_⟩, rfl⟩ <;> omega) | omega | (refine ⟨by omega, ?_⟩; omega)
end
/-! 99.zj8e -/
section
/-! Chip.gateInputs -/
def vw_59 : sx_Wl := ([], [], [])
def vq_59 (a1_ : Int) (ii_ : Nat) (S0_ : sm_S) (u_ : Option sm_V) (S1_ : sm_S) : Prop := S0_ = S1_ ∧ ∃ v_ : Int, u_ = some (.inl v_) ∧ ((0 ≤ v_ ∧ v_ ≤ 3) ∧ (v_ = (S0_.2.2.1 55 (0 + (3 + ii_)) (S0_.2.2.1 35 (0 + ii_) a1_.toNat).toNat)))
set_option maxHeartbeats 400000 in
theorem vc_59 {sc_ : Nat × (Nat → Int)} (a1_ : Int) (ii_ : Nat) (S0_ : sm_S) (hI_ : gi S0_) (ha1_ : 0 ≤ a1_ ∧ a1_ ≤ 149) : sm_T (mt_P sc_) 0 59 (0, [some (.inr (.inr (some (2, ii_)))), some (.inl a1_)], [], S0_) (fun ro9_ => ∃ u_ S1_, ro9_ = (.inl u_, S1_, 0) ∧ vq_59 a1_ ii_ S0_ u_ S1_) := by
  have hF_ : ai_fr (sx_W vw_59) S0_ S0_ := ai_fr_rf
  refine sm_T_go 6 (c1 := (12, [some (.inr (.inr (some (2, ii_)))), some (.inl a1_)], [.inl a1_, .inr (.inr (some (35, (0 + ii_)))), .inr (.inr (some (55, (0 + (3 + ii_)))))], S0_)) rfl ?_
  refine sm_T_iald (n := 150) rfl rfl (by omega) (by omega) ?_
  have bx1_ : 0 ≤ S0_.2.2.1 35 (0 + ii_) a1_.toNat ∧ S0_.2.2.1 35 (0 + ii_) a1_.toNat ≤ 11 := hI_.2 35 (0 + ii_) _
  refine sm_T_iald (n := 12) rfl rfl (by omega) (by omega) ?_
  have bx2_ : 0 ≤ S0_.2.2.1 55 (0 + (3 + ii_)) (S0_.2.2.1 35 (0 + ii_) a1_.toNat).toNat ∧ S0_.2.2.1 55 (0 + (3 + ii_)) (S0_.2.2.1 35 (0 + ii_) a1_.toNat).toNat ≤ 3 := hI_.2 55 (0 + (3 + ii_)) _
  refine sm_T_ri rfl ⟨_, _, rfl, rfl, _, rfl, ?_⟩
  first | (refine ⟨⟨?_, ?_⟩, rfl⟩ <;> omega) | omega | (refine ⟨by omega, ?_⟩; omega)
end
/-! 99.zj8f -/
section
/-! Chip.endNet -/
def vw_58 : sx_Wl := ([], [], [])
def vq_58 (a1_ : Int) (ii_ : Nat) (S0_ : sm_S) (u_ : Option sm_V) (S1_ : sm_S) : Prop := S0_ = S1_ ∧ ∃ v_ : Int, u_ = some (.inl v_) ∧ (-2 ≤ v_ ∧ v_ ≤ 161)
set_option maxHeartbeats 400000 in
theorem vc_58 {sc_ : Nat × (Nat → Int)} (a1_ : Int) (ii_ : Nat) (S0_ : sm_S) (hI_ : gi S0_) (h1_ : 0 ≤ a1_ ∧ a1_ ≤ 21 ∧ a1_ < S0_.1 2 ii_ 3 + S0_.1 2 ii_ 2) : sm_T (mt_P sc_) 0 58 (0, [some (.inr (.inr (some (2, ii_)))), some (.inl a1_)], [], S0_) (fun ro9_ => ∃ u_ S1_, ro9_ = (.inl u_, S1_, 0) ∧ vq_58 a1_ ii_ S0_ u_ S1_) := by
  have hF_ : ai_fr (sx_W vw_58) S0_ S0_ := ai_fr_rf
  have c2_ : 0 ≤ S0_.1 2 ii_ 2 ∧ S0_.1 2 ii_ 2 ≤ 6 := hI_.1 2 ii_ 2 rfl
  have bx1_ : 0 ≤ S0_.1 2 ii_ 3 ∧ S0_.1 2 ii_ 3 ≤ 16 := hI_.1 2 ii_ 3 rfl
  refine sm_T_go 3 (c1 := (5, [some (.inr (.inr (some (2, ii_)))), some (.inl a1_)], [.inl (S0_.1 2 ii_ 3), .inl a1_], S0_)) rfl ?_
  refine sm_T_br (a := 3) (z := 12) rfl (fun cx2_ => ?_) (fun cx2_ => ?_)
  · have cx2_ : (S0_.1 2 ii_ 3) ≤ a1_ := of_decide_eq_true cx2_
    refine sm_T_go 5 (c1 := (26, [some (.inr (.inr (some (2, ii_)))), some (.inl a1_)], [.inl (S0_.1 2 ii_ 3), .inl a1_, .inr (.inr (some (38, (0 + ii_))))], S0_)) rfl ?_
    refine sm_T_bin (w := a1_ - (S0_.1 2 ii_ 3)) rfl (bi_sub (by omega) (by omega) (by omega)) ?_ -- pc_ 26
    refine sm_T_iald (n := 6) rfl rfl (by omega) (by omega) ?_
    have bx3_ : (-2) ≤ S0_.2.2.1 38 (0 + ii_) (a1_ - (S0_.1 2 ii_ 3)).toNat ∧ S0_.2.2.1 38 (0 + ii_) (a1_ - (S0_.1 2 ii_ 3)).toNat ≤ 161 := hI_.2 38 (0 + ii_) _
    refine sm_T_ri rfl ⟨_, _, rfl, rfl, _, rfl, ?_⟩
    omega
  · have cx2_ : ¬ ((S0_.1 2 ii_ 3) ≤ a1_) := of_decide_eq_false cx2_
    refine sm_T_go 3 (c1 := (13, [some (.inr (.inr (some (2, ii_)))), some (.inl a1_)], [.inl a1_, .inr (.inr (some (37, (0 + ii_))))], S0_)) rfl ?_
    refine sm_T_iald (n := 16) rfl rfl (by omega) (by omega) ?_
    have bx4_ : (-2) ≤ S0_.2.2.1 37 (0 + ii_) a1_.toNat ∧ S0_.2.2.1 37 (0 + ii_) a1_.toNat ≤ 161 := hI_.2 37 (0 + ii_) _
    refine sm_T_go 1 (c1 := (28, [some (.inr (.inr (some (2, ii_)))), some (.inl a1_)], [.inl (S0_.2.2.1 37 (0 + ii_) a1_.toNat)], S0_)) rfl ?_
    refine sm_T_ri rfl ⟨_, _, rfl, rfl, _, rfl, ?_⟩
    omega
end
/-! 99.zj8g -/
section
/-! Board.pinX -/
def vw_17 : sx_Wl := ([], [], [])
def vq_17 (a1_ : Int) (ii_ : Nat) (S0_ : sm_S) (u_ : Option sm_V) (S1_ : sm_S) : Prop := S0_ = S1_ ∧ ∃ v_ : Int, u_ = some (.inl v_) ∧ ((0 ≤ v_ ∧ v_ ≤ 64) ∧ v_ = ppx ii_ S0_ a1_)
set_option maxHeartbeats 400000 in
theorem vc_17 {sc_ : Nat × (Nat → Int)} (a1_ : Int) (ii_ : Nat) (S0_ : sm_S) (hI_ : gi S0_) (h1_ : 0 ≤ a1_ ∧ a1_ ≤ 651) : sm_T (mt_P sc_) 0 17 (0, [some (.inr (.inr (some (0, ii_)))), some (.inl a1_)], [], S0_) (fun ro9_ => ∃ u_ S1_, ro9_ = (.inl u_, S1_, 0) ∧ vq_17 a1_ ii_ S0_ u_ S1_) := by
  have hF_ : ai_fr (sx_W vw_17) S0_ S0_ := ai_fr_rf
  refine sm_T_go 2 (c1 := (4, [some (.inr (.inr (some (0, ii_)))), some (.inl a1_)], [.inl 624, .inl a1_], S0_)) rfl ?_
  refine sm_T_br (a := 3) (z := 18) rfl (fun cx1_ => ?_) (fun cx1_ => ?_)
  · have cx1_ : 624 ≤ a1_ := of_decide_eq_true cx1_
    refine sm_T_go 2 (c1 := (26, [some (.inr (.inr (some (0, ii_)))), some (.inl a1_)], [.inl 636, .inl a1_], S0_)) rfl ?_
    refine sm_T_br (a := 3) (z := 7) rfl (fun cx2_ => ?_) (fun cx2_ => ?_)
    · have cx2_ : 636 ≤ a1_ := of_decide_eq_true cx2_
      have bx3_ : 0 ≤ S0_.1 0 ii_ 0 ∧ S0_.1 0 ii_ 0 ≤ 60 := hI_.1 0 ii_ 0 rfl
      refine sm_T_go 3 (c1 := (38, [some (.inr (.inr (some (0, ii_)))), some (.inl a1_)], [.inl 1, .inl (S0_.1 0 ii_ 0)], S0_)) rfl ?_
      refine sm_T_bin (w := (S0_.1 0 ii_ 0) + 1) rfl (bi_add (by omega) (by omega) (by omega)) ?_ -- pc_ 38
      refine sm_T_ri rfl ⟨_, _, rfl, rfl, _, rfl, ?_⟩
      refine ⟨by omega, ?_⟩
      unfold ppx
      first | (rw [if_pos (by omega)] <;> omega) | (rw [if_neg (by omega), if_pos (by omega)] <;> omega) | (rw [if_neg (by omega), if_neg (by omega)] <;> omega)
    · have cx2_ : ¬ (636 ≤ a1_) := of_decide_eq_false cx2_
      refine sm_T_go 2 (c1 := (39, [some (.inr (.inr (some (0, ii_)))), some (.inl a1_)], [.inl 0], S0_)) rfl ?_
      refine sm_T_ri rfl ⟨_, _, rfl, rfl, _, rfl, ?_⟩
      refine ⟨by omega, ?_⟩
      unfold ppx
      first | (rw [if_pos (by omega)] <;> omega) | (rw [if_neg (by omega), if_pos (by omega)] <;> omega) | (rw [if_neg (by omega), if_neg (by omega)] <;> omega)
  · have cx1_ : ¬ (624 ≤ a1_) := of_decide_eq_false cx1_
    refine sm_T_go 5 (c1 := (14, [some (.inr (.inr (some (0, ii_)))), some (.inl a1_)], [.inl 2, .inl a1_, .inr (.inr (some (14, (0 + ii_)))), .inl 1], S0_)) rfl ?_
    refine sm_T_bin (w := (a1_ / 4)) rfl (bi_shr (k := 2) (by decide) (by omega) (by omega)) ?_ -- pc_ 14
    refine sm_T_iald (n := 156) rfl rfl (by omega) (by omega) ?_
    have bx4_ : 0 ≤ S0_.2.2.1 14 (0 + ii_) (a1_ / 4).toNat ∧ S0_.2.2.1 14 (0 + ii_) (a1_ / 4).toNat ≤ 60 := hI_.2 14 (0 + ii_) _
    refine sm_T_bin (w := (S0_.2.2.1 14 (0 + ii_) (a1_ / 4).toNat) + 1) rfl (bi_add (by omega) (by omega) (by omega)) ?_ -- pc_ 16
    refine sm_T_go 2 (c1 := (19, [some (.inr (.inr (some (0, ii_)))), some (.inl a1_)], [.inl 3, .inl a1_, .inl ((S0_.2.2.1 14 (0 + ii_) (a1_ / 4).toNat) + 1)], S0_)) rfl ?_
    refine sm_T_bin (w := (a1_ % 4)) rfl (bi_msk (k := 2) (by decide)) ?_ -- pc_ 19
    refine sm_T_bin (w := (S0_.2.2.1 14 (0 + ii_) (a1_ / 4).toNat) + (a1_ % 4) + 1) rfl (bi_add (by omega) (by omega) (by omega)) ?_ -- pc_ 20
    refine sm_T_ri rfl ⟨_, _, rfl, rfl, _, rfl, ?_⟩
    refine ⟨by omega, ?_⟩
    unfold ppx
    first | (rw [if_pos (by omega)] <;> omega) | (rw [if_neg (by omega), if_pos (by omega)] <;> omega) | (rw [if_neg (by omega), if_neg (by omega)] <;> omega)
end
/-! 99.zj8h -/
section
/-! Board.pinY -/
def vw_18 : sx_Wl := ([], [], [])
def vq_18 (a1_ : Int) (ii_ : Nat) (S0_ : sm_S) (u_ : Option sm_V) (S1_ : sm_S) : Prop := S0_ = S1_ ∧ ∃ v_ : Int, u_ = some (.inl v_) ∧ ((0 ≤ v_ ∧ v_ ≤ 37) ∧ v_ = ppy ii_ S0_ a1_)
set_option maxHeartbeats 400000 in
theorem vc_18 {sc_ : Nat × (Nat → Int)} (a1_ : Int) (ii_ : Nat) (S0_ : sm_S) (hI_ : gi S0_) (h1_ : 0 ≤ a1_ ∧ a1_ ≤ 651) : sm_T (mt_P sc_) 0 18 (0, [some (.inr (.inr (some (0, ii_)))), some (.inl a1_)], [], S0_) (fun ro9_ => ∃ u_ S1_, ro9_ = (.inl u_, S1_, 0) ∧ vq_18 a1_ ii_ S0_ u_ S1_) := by
  have hF_ : ai_fr (sx_W vw_18) S0_ S0_ := ai_fr_rf
  refine sm_T_go 2 (c1 := (4, [some (.inr (.inr (some (0, ii_)))), some (.inl a1_)], [.inl 624, .inl a1_], S0_)) rfl ?_
  refine sm_T_br (a := 3) (z := 16) rfl (fun cx1_ => ?_) (fun cx1_ => ?_)
  · have cx1_ : 624 ≤ a1_ := of_decide_eq_true cx1_
    refine sm_T_go 2 (c1 := (24, [some (.inr (.inr (some (0, ii_)))), some (.inl a1_)], [.inl 636, .inl a1_], S0_)) rfl ?_
    refine sm_T_br (a := 3) (z := 11) rfl (fun cx2_ => ?_) (fun cx2_ => ?_)
    · have cx2_ : 636 ≤ a1_ := of_decide_eq_true cx2_
      refine sm_T_go 2 (c1 := (39, [some (.inr (.inr (some (0, ii_)))), some (.inl a1_)], [.inl 636, .inl a1_], S0_)) rfl ?_
      refine sm_T_bin (w := a1_ - 636) rfl (bi_sub (by omega) (by omega) (by omega)) ?_ -- pc_ 39
      refine sm_T_ri rfl ⟨_, _, rfl, rfl, _, rfl, ?_⟩
      refine ⟨by omega, ?_⟩
      unfold ppy
      first | (rw [if_pos (by omega)] <;> omega) | (rw [if_neg (by omega), if_pos (by omega)] <;> omega) | (rw [if_neg (by omega), if_neg (by omega)] <;> omega)
    · have cx2_ : ¬ (636 ≤ a1_) := of_decide_eq_false cx2_
      refine sm_T_go 2 (c1 := (31, [some (.inr (.inr (some (0, ii_)))), some (.inl a1_)], [.inl 624, .inl a1_], S0_)) rfl ?_
      refine sm_T_bin (w := a1_ - 624) rfl (bi_sub (by omega) (by omega) (by omega)) ?_ -- pc_ 31
      refine sm_T_go 1 (c1 := (40, [some (.inr (.inr (some (0, ii_)))), some (.inl a1_)], [.inl (a1_ - 624)], S0_)) rfl ?_
      refine sm_T_ri rfl ⟨_, _, rfl, rfl, _, rfl, ?_⟩
      refine ⟨by omega, ?_⟩
      unfold ppy
      first | (rw [if_pos (by omega)] <;> omega) | (rw [if_neg (by omega), if_pos (by omega)] <;> omega) | (rw [if_neg (by omega), if_neg (by omega)] <;> omega)
  · have cx1_ : ¬ (624 ≤ a1_) := of_decide_eq_false cx1_
    refine sm_T_go 5 (c1 := (14, [some (.inr (.inr (some (0, ii_)))), some (.inl a1_)], [.inl 2, .inl a1_, .inr (.inr (some (15, (0 + ii_)))), .inl 3], S0_)) rfl ?_
    refine sm_T_bin (w := (a1_ / 4)) rfl (bi_shr (k := 2) (by decide) (by omega) (by omega)) ?_ -- pc_ 14
    refine sm_T_iald (n := 156) rfl rfl (by omega) (by omega) ?_
    have bx3_ : 0 ≤ S0_.2.2.1 15 (0 + ii_) (a1_ / 4).toNat ∧ S0_.2.2.1 15 (0 + ii_) (a1_ / 4).toNat ≤ 12 := hI_.2 15 (0 + ii_) _
    refine sm_T_bin (w := 3 * (S0_.2.2.1 15 (0 + ii_) (a1_ / 4).toNat)) rfl (bi_mul (by omega) (by omega) (by omega)) ?_ -- pc_ 16
    refine sm_T_go 1 (c1 := (18, [some (.inr (.inr (some (0, ii_)))), some (.inl a1_)], [.inl 1, .inl (3 * (S0_.2.2.1 15 (0 + ii_) (a1_ / 4).toNat))], S0_)) rfl ?_
    refine sm_T_bin (w := 3 * (S0_.2.2.1 15 (0 + ii_) (a1_ / 4).toNat) + 1) rfl (bi_add (by omega) (by omega) (by omega)) ?_ -- pc_ 18
    refine sm_T_ri rfl ⟨_, _, rfl, rfl, _, rfl, ?_⟩
    refine ⟨by omega, ?_⟩
    unfold ppy
    first | (rw [if_pos (by omega)] <;> omega) | (rw [if_neg (by omega), if_pos (by omega)] <;> omega) | (rw [if_neg (by omega), if_neg (by omega)] <;> omega)
end
/-! 99.zj8i -/
section
/-! Board.pinPoint -/
def vw_19 : sx_Wl := ([], [], [])
def vq_19 (a1_ : Int) (ii_ : Nat) (S0_ : sm_S) (u_ : Option sm_V) (S1_ : sm_S) : Prop := S0_ = S1_ ∧ ∃ v_ : Int, u_ = some (.inl v_) ∧ ((0 ≤ v_ ∧ v_ ≤ 2358) ∧ v_ = ppt ii_ S0_ a1_)
set_option maxHeartbeats 400000 in
theorem vc_19 {sc_ : Nat × (Nat → Int)} (a1_ : Int) (ii_ : Nat) (S0_ : sm_S) (hI_ : gi S0_) (h1_ : 0 ≤ a1_ ∧ a1_ ≤ 651) : sm_T (mt_P sc_) 1 19 (0, [some (.inr (.inr (some (0, ii_)))), some (.inl a1_)], [], S0_) (fun ro9_ => ∃ u_ S1_, ro9_ = (.inl u_, S1_, 0) ∧ vq_19 a1_ ii_ S0_ u_ S1_) := by
  have hF_ : ai_fr (sx_W vw_19) S0_ S0_ := ai_fr_rf
  refine sm_T_go 2 (c1 := (2, [some (.inr (.inr (some (0, ii_)))), some (.inl a1_)], [.inl a1_, .inr (.inr (some (0, ii_)))], S0_)) rfl ?_
  refine sm_T_cal (d1 := 0) (Q1 := vq_18 a1_ ii_ S0_) rfl rfl (by decide) (vc_18 a1_ ii_ S0_ hI_ (by omega)) (fun u_ Sx1_ px4_ => ?_)
  obtain ⟨rfl, vx6_, rfl, px4_⟩ := px4_
  have y9_ := px4_
  have bx7_ : 0 ≤ S0_.1 0 ii_ 0 ∧ S0_.1 0 ii_ 0 ≤ 60 := hI_.1 0 ii_ 0 rfl
  refine sm_T_go 3 (c1 := (10, [some (.inr (.inr (some (0, ii_)))), some (.inl a1_)], [.inl 2, .inl (S0_.1 0 ii_ 0), .inl vx6_], S0_)) rfl ?_
  refine sm_T_bin (w := (S0_.1 0 ii_ 0) + 2) rfl (bi_add (by omega) (by omega) (by omega)) ?_ -- pc_ 10
  have bx8_ := mul_b (x_ := vx6_) (y_ := ((S0_.1 0 ii_ 0) + 2)) (X_ := 37) (Y_ := 62) (Z_ := 2294) (by omega) (by omega) (by decide)
  refine sm_T_bin (w := (vx6_ * ((S0_.1 0 ii_ 0) + 2))) rfl (bi_mul rfl (by omega) (by omega)) ?_ -- pc_ 11
  refine sm_T_go 2 (c1 := (14, [some (.inr (.inr (some (0, ii_)))), some (.inl a1_)], [.inl a1_, .inr (.inr (some (0, ii_))), .inl (vx6_ * ((S0_.1 0 ii_ 0) + 2))], S0_)) rfl ?_
  refine sm_T_cal (d1 := 0) (Q1 := vq_17 a1_ ii_ S0_) rfl rfl (by decide) (vc_17 a1_ ii_ S0_ hI_ (by omega)) (fun u_ Sx9_ px12_ => ?_)
  obtain ⟨rfl, vx14_, rfl, px12_⟩ := px12_
  have x9_ := px12_
  refine sm_T_bin (w := (vx6_ * ((S0_.1 0 ii_ 0) + 2)) + vx14_) rfl (bi_add (by omega) (by omega) (by omega)) ?_ -- pc_ 17
  refine sm_T_ri rfl ⟨_, _, rfl, rfl, _, rfl, ?_⟩
  refine ⟨by omega, ?_⟩
  unfold ppt
  rw [← y9_.2, ← x9_.2]
end
/-! 99.zj8j -/
section
/-! Board.points -/
def vw_16 : sx_Wl := ([], [], [])
def vq_16 (ii_ : Nat) (S0_ : sm_S) (u_ : Option sm_V) (S1_ : sm_S) : Prop := S0_ = S1_ ∧ ∃ v_ : Int, u_ = some (.inl v_) ∧ ((0 ≤ v_ ∧ v_ ≤ 4712) ∧ (v_ = ((2 * (S0_.1 0 ii_ 2)) * ((S0_.1 0 ii_ 0) + 2))))
set_option maxHeartbeats 400000 in
theorem vc_16 {sc_ : Nat × (Nat → Int)} (ii_ : Nat) (S0_ : sm_S) (hI_ : gi S0_)  : sm_T (mt_P sc_) 0 16 (0, [some (.inr (.inr (some (0, ii_))))], [], S0_) (fun ro9_ => ∃ u_ S1_, ro9_ = (.inl u_, S1_, 0) ∧ vq_16 ii_ S0_ u_ S1_) := by
  have hF_ : ai_fr (sx_W vw_16) S0_ S0_ := ai_fr_rf
  have bx1_ : 0 ≤ S0_.1 0 ii_ 2 ∧ S0_.1 0 ii_ 2 ≤ 38 := hI_.1 0 ii_ 2 rfl
  refine sm_T_go 3 (c1 := (5, [some (.inr (.inr (some (0, ii_))))], [.inl (S0_.1 0 ii_ 2), .inl 2], S0_)) rfl ?_
  refine sm_T_bin (w := 2 * (S0_.1 0 ii_ 2)) rfl (bi_mul (by omega) (by omega) (by omega)) ?_ -- pc_ 5
  have bx2_ : 0 ≤ S0_.1 0 ii_ 0 ∧ S0_.1 0 ii_ 0 ≤ 60 := hI_.1 0 ii_ 0 rfl
  refine sm_T_go 3 (c1 := (11, [some (.inr (.inr (some (0, ii_))))], [.inl 2, .inl (S0_.1 0 ii_ 0), .inl (2 * (S0_.1 0 ii_ 2))], S0_)) rfl ?_
  refine sm_T_bin (w := (S0_.1 0 ii_ 0) + 2) rfl (bi_add (by omega) (by omega) (by omega)) ?_ -- pc_ 11
  have bx3_ := mul_b (x_ := (2 * (S0_.1 0 ii_ 2))) (y_ := ((S0_.1 0 ii_ 0) + 2)) (X_ := 76) (Y_ := 62) (Z_ := 4712) (by omega) (by omega) (by decide)
  refine sm_T_bin (w := ((2 * (S0_.1 0 ii_ 2)) * ((S0_.1 0 ii_ 0) + 2))) rfl (bi_mul rfl (by omega) (by omega)) ?_ -- pc_ 12
  refine sm_T_ri rfl ⟨_, _, rfl, rfl, _, rfl, ?_⟩
  first | (refine ⟨⟨?_, ?_⟩, rfl⟩ <;> omega) | omega | (refine ⟨by omega, ?_⟩; omega)
end
/-! 99.zj8k -/
section
/-! Board.pinAt -/
def vw_14 : sx_Wl := ([], [], [])
def vq_14 (a1_ : Int) (a2_ : Int) (ii_ : Nat) (S0_ : sm_S) (u_ : Option sm_V) (S1_ : sm_S) : Prop := S0_ = S1_ ∧ ∃ v_ : Int, u_ = some (.inl v_) ∧ ((0 ≤ v_ ∧ v_ ≤ 651) ∧ v_ = S0_.2.2.1 18 (0 + ii_) ((S0_.2.2.1 19 (0 + ii_) a1_.toNat).toNat + a2_.toNat) ∧ S0_.2.2.1 17 (0 + ii_) v_.toNat = a1_)
set_option maxHeartbeats 400000 in
theorem vc_14 {sc_ : Nat × (Nat → Int)} (a1_ : Int) (a2_ : Int) (ii_ : Nat) (S0_ : sm_S) (hI_ : gi S0_) (h1_ : 0 ≤ a1_ ∧ a1_ ≤ 161) (h2_ : 0 ≤ a2_ ∧ a2_ < S0_.2.2.1 20 (0 + ii_) a1_.toNat) (hb_ : bpn ii_ S0_) : sm_T (mt_P sc_) 0 14 (0, [some (.inr (.inr (some (0, ii_)))), some (.inl a1_), some (.inl a2_)], [], S0_) (fun ro9_ => ∃ u_ S1_, ro9_ = (.inl u_, S1_, 0) ∧ vq_14 a1_ a2_ ii_ S0_ u_ S1_) := by
  have hF_ : ai_fr (sx_W vw_14) S0_ S0_ := ai_fr_rf
  have b9_ := hb_ a1_.toNat (by omega)
  have b8_ := b9_.1
  have b7_ := b9_.2 a2_.toNat (by omega)
  have c9_ : 0 ≤ S0_.2.2.1 19 (0 + ii_) a1_.toNat ∧ S0_.2.2.1 19 (0 + ii_) a1_.toNat ≤ 652 := hI_.2 19 (0 + ii_) _
  rw [show ((a1_.toNat : Nat) : Int) = a1_ by omega] at b7_
  have c8_ : 0 ≤ S0_.2.2.1 19 (0 + ii_) a1_.toNat := c9_.1
  have t9_ : (S0_.2.2.1 19 (0 + ii_) a1_.toNat + a2_).toNat = (S0_.2.2.1 19 (0 + ii_) a1_.toNat).toNat + a2_.toNat := by omega
  refine sm_T_go 5 (c1 := (9, [some (.inr (.inr (some (0, ii_)))), some (.inl a1_), some (.inl a2_)], [.inl a1_, .inr (.inr (some (19, (0 + ii_)))), .inr (.inr (some (18, (0 + ii_))))], S0_)) rfl ?_
  refine sm_T_iald (n := 162) rfl rfl (by omega) (by omega) ?_
  have bx1_ : 0 ≤ S0_.2.2.1 19 (0 + ii_) a1_.toNat ∧ S0_.2.2.1 19 (0 + ii_) a1_.toNat ≤ 652 := hI_.2 19 (0 + ii_) _
  refine sm_T_go 1 (c1 := (11, [some (.inr (.inr (some (0, ii_)))), some (.inl a1_), some (.inl a2_)], [.inl a2_, .inl (S0_.2.2.1 19 (0 + ii_) a1_.toNat), .inr (.inr (some (18, (0 + ii_))))], S0_)) rfl ?_
  refine sm_T_bin (w := (S0_.2.2.1 19 (0 + ii_) a1_.toNat) + a2_) rfl (bi_add (by omega) (by omega) (by omega)) ?_ -- pc_ 11
  refine sm_T_iald (n := 652) rfl rfl (by omega) (by omega) ?_
  have bx2_ : 0 ≤ S0_.2.2.1 18 (0 + ii_) ((S0_.2.2.1 19 (0 + ii_) a1_.toNat) + a2_).toNat ∧ S0_.2.2.1 18 (0 + ii_) ((S0_.2.2.1 19 (0 + ii_) a1_.toNat) + a2_).toNat ≤ 651 := hI_.2 18 (0 + ii_) _
  refine sm_T_ri rfl ⟨_, _, rfl, rfl, _, rfl, ?_⟩
  have v9_ := hI_.2 18 (0 + ii_) ((S0_.2.2.1 19 (0 + ii_) a1_.toNat).toNat + a2_.toNat)
  rw [t9_]
  exact ⟨⟨v9_.1, v9_.2⟩, rfl, b7_⟩
end
/-! 99.zj8l -/
section
/-! Board.loseWires -/
def vw_15 : sx_Wl := ([(0, 11), (4, 0)], [], [])
def vq_15 (ii_ : Nat) (S0_ : sm_S) (u_ : Option sm_V) (S1_ : sm_S) : Prop := u_ = none ∧ gi S1_ ∧ ai_fr (sx_W vw_15) S0_ S1_ ∧ (cdf ii_ S0_ S1_ ∧ ((S1_.1 0 ii_ 11 = 0 ∧ S1_.1 4 (0 + ii_) 0 = 0)))
set_option maxHeartbeats 400000 in
theorem vc_15 {sc_ : Nat × (Nat → Int)} (ii_ : Nat) (S0_ : sm_S) (hI_ : gi S0_)  : sm_T (mt_P sc_) 0 15 (0, [some (.inr (.inr (some (0, ii_))))], [], S0_) (fun ro9_ => ∃ u_ S1_, ro9_ = (.inl u_, S1_, 0) ∧ vq_15 ii_ S0_ u_ S1_) := by
  have hF_ : ai_fr (sx_W vw_15) S0_ S0_ := ai_fr_rf
  have hC_ : cdf ii_ S0_ S0_ := cdf_rf
  have hIx1_ : gi (sm_pI S0_ 0 ii_ 11 0) := gi_pI hI_ (show 0 ≤ 0 ∧ 0 ≤ 1 from ⟨by omega, by omega⟩)
  have hFx2_ : ai_fr (sx_W vw_15) S0_ (sm_pI S0_ 0 ii_ 11 0) := ai_fr_tr hF_ (ai_fr_pI rfl)
  have hCx3_ : cdf ii_ S0_ (sm_pI S0_ 0 ii_ 11 0) := cdf_pI hC_ (Or.inr (by rw [show cof 0 = 0 from rfl] <;> omega))
  have hIx4_ : gi (sm_pI (sm_pI S0_ 0 ii_ 11 0) 4 (0 + ii_) 0 0) := gi_pI hIx1_ (show 0 ≤ 0 ∧ 0 ≤ 1 from ⟨by omega, by omega⟩)
  have hFx5_ : ai_fr (sx_W vw_15) S0_ (sm_pI (sm_pI S0_ 0 ii_ 11 0) 4 (0 + ii_) 0 0) := ai_fr_tr hFx2_ (ai_fr_pI rfl)
  have hCx6_ : cdf ii_ S0_ (sm_pI (sm_pI S0_ 0 ii_ 11 0) 4 (0 + ii_) 0 0) := cdf_pI hCx3_ (Or.inr (by rw [show cof 4 = 0 from rfl] <;> omega))
  refine sm_T_go 7 (c1 := (13, [some (.inr (.inr (some (0, ii_))))], [], sm_pI (sm_pI S0_ 0 ii_ 11 0) 4 (0 + ii_) 0 0)) rfl ?_
  refine sm_T_rv rfl ⟨_, _, rfl, rfl, hIx4_, hFx5_, ?_⟩
  refine ⟨hCx6_, ?_⟩
  constructor
  · rw [rf_nt (by decide), rf_eq]
  · rw [rf_eq]
end
/-! 99.zj8m -/
section
/-! Board.wireOf -/
def vw_23 : sx_Wl := ([], [], [])
def vq_23 (a1_ : Int) (ii_ : Nat) (S0_ : sm_S) (u_ : Option sm_V) (S1_ : sm_S) : Prop := S0_ = S1_ ∧ ∃ v_ : Int, u_ = some (.inl v_) ∧ (-9424 ≤ v_ ∧ v_ ≤ 101)
set_option maxHeartbeats 3000000 in
theorem vl_23 {sc_ : Nat × (Nat → Int)} (a1_ : Int) (ii_ : Nat) (S0_ : sm_S) (h1_ : 0 ≤ a1_ ∧ a1_ ≤ 161) (hb_ : bpn ii_ S0_) : ∀ nn_ : Nat, (∀ (wt : Int) (et_ : Int) (nr : Int) (sh_ : Int) (k_ : Int) (S_ : sm_S), gi S_ → ai_fr (sx_W vw_23) S0_ S_ → ((0 ≤ wt ∧ wt ≤ 4712 ∧ 0 ≤ et_ ∧ et_ ≤ 64 ∧ 0 ≤ nr ∧ nr ≤ 4712 ∧ 0 ≤ sh_ ∧ sh_ ≤ 37 ∧ 0 ≤ k_ ∧ k_ ≤ 652) ∧ (S_ = S0_) ∧ True) → ((1000 - k_).toNat) < nn_ → sm_T (mt_P sc_) 1 23 (29, [some (.inr (.inr (some (0, ii_)))), some (.inl a1_), some (.inl wt), some (.inl et_), some (.inl nr), some (.inl sh_), some (.inl k_), none, none], [], S_) (fun ro9_ => ∃ u_ S1_, ro9_ = (.inl u_, S1_, 0) ∧ vq_23 a1_ ii_ S0_ u_ S1_)) := by
  intro nn_
  induction nn_ with
  | zero => exact fun _ _ _ _ _ _ _ _ _ h_ => absurd h_ (Nat.not_lt_zero _)
  | succ nn_ ih_ =>
    rintro wt et_ nr sh_ k_ S_ hI_ hF_ ⟨h0_, hS_, -⟩ hm_
    refine sm_T_go 4 (c1 := (36, [some (.inr (.inr (some (0, ii_)))), some (.inl a1_), some (.inl wt), some (.inl et_), some (.inl nr), some (.inl sh_), some (.inl k_), none, none], [.inl a1_, .inr (.inr (some (20, (0 + ii_)))), .inl k_], S_)) rfl ?_
    refine sm_T_iald (n := 162) rfl rfl (by omega) (by omega) ?_
    have bx1_ : 0 ≤ S_.2.2.1 20 (0 + ii_) a1_.toNat ∧ S_.2.2.1 20 (0 + ii_) a1_.toNat ≤ 652 := hI_.2 20 (0 + ii_) _
    refine sm_T_br (a := 3) (z := 67) rfl (fun cx2_ => ?_) (fun cx2_ => ?_)
    · have cx2_ : (S_.2.2.1 20 (0 + ii_) a1_.toNat) ≤ k_ := of_decide_eq_true cx2_
      refine sm_T_go 2 (c1 := (106, [some (.inr (.inr (some (0, ii_)))), some (.inl a1_), some (.inl wt), some (.inl et_), some (.inl nr), some (.inl sh_), some (.inl k_), none, none], [.inl wt, .inl et_], S_)) rfl ?_
      refine sm_T_bin (w := et_ - wt) rfl (bi_sub (by omega) (by omega) (by omega)) ?_ -- pc_ 106
      refine sm_T_go 1 (c1 := (109, [some (.inr (.inr (some (0, ii_)))), some (.inl a1_), some (.inl wt), some (.inl et_), some (.inl nr), some (.inl sh_), some (.inl k_), none, none], [.inl sh_, .inl (et_ - wt)], S_)) rfl ?_
      refine sm_T_bin (w := et_ - wt + sh_) rfl (bi_add (by omega) (by omega) (by omega)) ?_ -- pc_ 109
      refine sm_T_go 1 (c1 := (112, [some (.inr (.inr (some (0, ii_)))), some (.inl a1_), some (.inl wt), some (.inl et_), some (.inl nr), some (.inl sh_), some (.inl k_), none, none], [.inl nr, .inl (et_ - wt + sh_)], S_)) rfl ?_
      refine sm_T_bin (w := et_ - wt + sh_ - nr) rfl (bi_sub (by omega) (by omega) (by omega)) ?_ -- pc_ 112
      refine sm_T_ri rfl ⟨_, _, rfl, (by first | rfl | exact hS_.symm), _, rfl, ?_⟩
      omega
    · have cx2_ : ¬ ((S_.2.2.1 20 (0 + ii_) a1_.toNat) ≤ k_) := of_decide_eq_false cx2_
      refine sm_T_go 4 (c1 := (45, [some (.inr (.inr (some (0, ii_)))), some (.inl a1_), some (.inl wt), some (.inl et_), some (.inl nr), some (.inl sh_), some (.inl k_), none, none], [.inl k_, .inl a1_, .inr (.inr (some (0, ii_))), .inr (.inr (some (0, ii_)))], S_)) rfl ?_
      refine sm_T_cal (d1 := 0) (Q1 := vq_14 a1_ k_ ii_ S_) rfl rfl (by decide) (vc_14 a1_ k_ ii_ S_ hI_ (by omega) (by omega) (by (rw [hS_]; exact hb_))) (fun u_ Sx3_ px6_ => ?_)
      obtain ⟨rfl, vx8_, rfl, px6_⟩ := px6_
      have q1_ := px6_.1
      refine sm_T_cal (d1 := 0) (Q1 := vq_17 vx8_ ii_ S_) rfl rfl (by decide) (vc_17 vx8_ ii_ S_ hI_ (by omega)) (fun u_ Sx9_ px12_ => ?_)
      obtain ⟨rfl, vx14_, rfl, px12_⟩ := px12_
      have q3_ := px12_.1
      refine sm_T_go 5 (c1 := (58, [some (.inr (.inr (some (0, ii_)))), some (.inl a1_), some (.inl wt), some (.inl et_), some (.inl nr), some (.inl sh_), some (.inl k_), some (.inl vx14_), none], [.inl k_, .inl a1_, .inr (.inr (some (0, ii_))), .inr (.inr (some (0, ii_)))], S_)) rfl ?_
      refine sm_T_cal (d1 := 0) (Q1 := vq_14 a1_ k_ ii_ S_) rfl rfl (by decide) (vc_14 a1_ k_ ii_ S_ hI_ (by omega) (by omega) (by (rw [hS_]; exact hb_))) (fun u_ Sx15_ px18_ => ?_)
      obtain ⟨rfl, vx20_, rfl, px18_⟩ := px18_
      have q2_ := px18_.1
      refine sm_T_cal (d1 := 0) (Q1 := vq_18 vx20_ ii_ S_) rfl rfl (by decide) (vc_18 vx20_ ii_ S_ hI_ (by omega)) (fun u_ Sx21_ px24_ => ?_)
      obtain ⟨rfl, vx26_, rfl, px24_⟩ := px24_
      have q4_ := px24_.1
      refine sm_T_go 3 (c1 := (69, [some (.inr (.inr (some (0, ii_)))), some (.inl a1_), some (.inl wt), some (.inl et_), some (.inl nr), some (.inl sh_), some (.inl k_), some (.inl vx14_), some (.inl vx26_)], [.inl vx14_, .inl wt], S_)) rfl ?_
      refine sm_T_nt (u := some (.inl (sm_mn wt vx14_))) (S1 := S_) rfl rfl rfl ?_
      have bx27_ := sm_mn_d wt vx14_
      refine sm_T_go 3 (c1 := (76, [some (.inr (.inr (some (0, ii_)))), some (.inl a1_), some (.inl (sm_mn wt vx14_)), some (.inl et_), some (.inl nr), some (.inl sh_), some (.inl k_), some (.inl vx14_), some (.inl vx26_)], [.inl vx14_, .inl et_], S_)) rfl ?_
      refine sm_T_nt (u := some (.inl (sm_mx et_ vx14_))) (S1 := S_) rfl rfl rfl ?_
      have bx28_ := sm_mx_d et_ vx14_
      refine sm_T_go 3 (c1 := (84, [some (.inr (.inr (some (0, ii_)))), some (.inl a1_), some (.inl (sm_mn wt vx14_)), some (.inl (sm_mx et_ vx14_)), some (.inl nr), some (.inl sh_), some (.inl k_), some (.inl vx14_), some (.inl vx26_)], [.inl vx26_, .inl nr], S_)) rfl ?_
      refine sm_T_nt (u := some (.inl (sm_mn nr vx26_))) (S1 := S_) rfl rfl rfl ?_
      have bx29_ := sm_mn_d nr vx26_
      refine sm_T_go 3 (c1 := (93, [some (.inr (.inr (some (0, ii_)))), some (.inl a1_), some (.inl (sm_mn wt vx14_)), some (.inl (sm_mx et_ vx14_)), some (.inl (sm_mn nr vx26_)), some (.inl sh_), some (.inl k_), some (.inl vx14_), some (.inl vx26_)], [.inl vx26_, .inl sh_], S_)) rfl ?_
      refine sm_T_nt (u := some (.inl (sm_mx sh_ vx26_))) (S1 := S_) rfl rfl rfl ?_
      have bx30_ := sm_mx_d sh_ vx26_
      refine sm_T_go 1 (c1 := (98, [some (.inr (.inr (some (0, ii_)))), some (.inl a1_), some (.inl (sm_mn wt vx14_)), some (.inl (sm_mx et_ vx14_)), some (.inl (sm_mn nr vx26_)), some (.inl (sm_mx sh_ vx26_)), some (.inl k_), some (.inl vx14_), some (.inl vx26_)], [], S_)) rfl ?_
      refine sm_T_inc (a := 6) (z := 1) (v := k_) (w := k_ + 1) rfl rfl (by omega) (by omega) (by omega) ?_ -- pc_ 98
      refine sm_T_go 1 (c1 := (29, [some (.inr (.inr (some (0, ii_)))), some (.inl a1_), some (.inl (sm_mn wt vx14_)), some (.inl (sm_mx et_ vx14_)), some (.inl (sm_mn nr vx26_)), some (.inl (sm_mx sh_ vx26_)), some (.inl (k_ + 1)), some (.inl vx14_), some (.inl vx26_)], [], S_)) rfl ?_
      refine sm_T_wk [some (.inr (.inr (some (0, ii_)))), some (.inl a1_), some (.inl (sm_mn wt vx14_)), some (.inl (sm_mx et_ vx14_)), some (.inl (sm_mn nr vx26_)), some (.inl (sm_mx sh_ vx26_)), some (.inl (k_ + 1)), none, none] (by exact ⟨rfl, rfl, rfl, rfl, rfl, rfl, rfl, trivial⟩) ?_
      refine ih_ (sm_mn wt vx14_) (sm_mx et_ vx14_) (sm_mn nr vx26_) (sm_mx sh_ vx26_) (k_ + 1) S_ hI_ hF_ ⟨?_, ?_, trivial⟩ ?_
      · omega
      · first | rfl | exact hS_
      · omega
set_option maxHeartbeats 3000000 in
theorem vc_23 {sc_ : Nat × (Nat → Int)} (a1_ : Int) (ii_ : Nat) (S0_ : sm_S) (hI_ : gi S0_) (h1_ : 0 ≤ a1_ ∧ a1_ ≤ 161) (hb_ : bpn ii_ S0_) : sm_T (mt_P sc_) 1 23 (0, [some (.inr (.inr (some (0, ii_)))), some (.inl a1_), none, none, none, none, none, none, none], [], S0_) (fun ro9_ => ∃ u_ S1_, ro9_ = (.inl u_, S1_, 0) ∧ vq_23 a1_ ii_ S0_ u_ S1_) := by
  have hF_ : ai_fr (sx_W vw_23) S0_ S0_ := ai_fr_rf
  refine sm_T_go 3 (c1 := (5, [some (.inr (.inr (some (0, ii_)))), some (.inl a1_), none, none, none, none, none, none, none], [.inl a1_, .inr (.inr (some (20, (0 + ii_))))], S0_)) rfl ?_
  refine sm_T_iald (n := 162) rfl rfl (by omega) (by omega) ?_
  have bx1_ : 0 ≤ S0_.2.2.1 20 (0 + ii_) a1_.toNat ∧ S0_.2.2.1 20 (0 + ii_) a1_.toNat ≤ 652 := hI_.2 20 (0 + ii_) _
  refine sm_T_go 1 (c1 := (7, [some (.inr (.inr (some (0, ii_)))), some (.inl a1_), none, none, none, none, none, none, none], [.inl 2, .inl (S0_.2.2.1 20 (0 + ii_) a1_.toNat)], S0_)) rfl ?_
  refine sm_T_br (a := 3) (z := 5) rfl (fun cx2_ => ?_) (fun cx2_ => ?_)
  · have cx2_ : 2 ≤ (S0_.2.2.1 20 (0 + ii_) a1_.toNat) := of_decide_eq_true cx2_
    refine sm_T_go 10 (c1 := (29, [some (.inr (.inr (some (0, ii_)))), some (.inl a1_), some (.inl 4712), some (.inl 0), some (.inl 4712), some (.inl 0), some (.inl 0), none, none], [], S0_)) rfl ?_
    refine (vl_23 a1_ ii_ S0_ h1_ hb_ _) 4712 0 4712 0 0 S0_ hI_ hF_ ⟨?_, ?_, trivial⟩ (Nat.lt_succ_self _)
    · omega
    · first | rfl | exact hS_
  · have cx2_ : ¬ (2 ≤ (S0_.2.2.1 20 (0 + ii_) a1_.toNat)) := of_decide_eq_false cx2_
    refine sm_T_go 1 (c1 := (11, [some (.inr (.inr (some (0, ii_)))), some (.inl a1_), none, none, none, none, none, none, none], [.inl 0], S0_)) rfl ?_
    refine sm_T_ri rfl ⟨_, _, rfl, (by first | rfl | exact hS_.symm), _, rfl, ?_⟩
    omega
end
/-! 99.zj9a -/
section
/-! elements in rows; written by wip/p55/gen/vg -/

/-! elements in rows -/
def lo9 (f_ : Nat → Int) (w_ : Int) : Nat → Int × Int
  | 0 => (0, 0)
  | n_ + 1 => if w_ < (lo9 f_ w_ n_).2 + f_ n_ then ((lo9 f_ w_ n_).1 + 1, f_ n_) else ((lo9 f_ w_ n_).1, (lo9 f_ w_ n_).2 + f_ n_)
theorem lo9_s (f_ : Nat → Int) (w_ : Int) (n_ : Nat) : lo9 f_ w_ (n_ + 1) = if w_ < (lo9 f_ w_ n_).2 + f_ n_ then ((lo9 f_ w_ n_).1 + 1, f_ n_) else ((lo9 f_ w_ n_).1, (lo9 f_ w_ n_).2 + f_ n_) := rfl
theorem lo9_b {f_ : Nat → Int} {w_ : Int} (hf_ : ∀ k_, 0 ≤ f_ k_ ∧ f_ k_ ≤ 4) (hw_ : 4 ≤ w_) : ∀ n_ : Nat, (0 ≤ (lo9 f_ w_ n_).1 ∧ (lo9 f_ w_ n_).1 ≤ n_) ∧ 0 ≤ (lo9 f_ w_ n_).2 ∧ (lo9 f_ w_ n_).2 ≤ w_
  | 0 => by
    show ((0 : Int) ≤ 0 ∧ (0 : Int) ≤ _) ∧ (0 : Int) ≤ 0 ∧ (0 : Int) ≤ w_
    omega
  | n_ + 1 => by
    have a_ := lo9_b hf_ hw_ n_
    have b_ := hf_ n_
    rw [lo9_s]
    split <;> (dsimp only; omega)
theorem lo9_mo {f_ : Nat → Int} {w_ : Int} {n_ : Nat} : ∀ {m_ : Nat}, n_ ≤ m_ → (lo9 f_ w_ n_).1 ≤ (lo9 f_ w_ m_).1
  | 0, h_ => by rw [show n_ = 0 by omega]; exact Int.le_refl _
  | m_ + 1, h_ => by
    by_cases z_ : n_ = m_ + 1
    · rw [z_]; exact Int.le_refl _
    · have a_ := lo9_mo (f_ := f_) (w_ := w_) (n_ := n_) (m_ := m_) (by omega)
      rw [lo9_s]
      split <;> (dsimp only; omega)
/-- a_ placed board's elements stand within it_ -/
def bpl (bi_ ci_ : Nat) (S_ : sm_S) : Prop := 0 < S_.1 0 bi_ 1 → (4 ≤ S_.1 0 bi_ 0 ∧ 3 * S_.1 0 bi_ 1 + 2 ≤ S_.1 0 bi_ 2 ∧ S_.1 2 ci_ 1 ≤ S_.1 0 bi_ 2 ∧ S_.1 2 ci_ 3 ≤ S_.1 0 bi_ 2) ∧ ∀ e_ : Nat, (e_ : Int) < S_.1 2 ci_ 2 + S_.1 2 ci_ 8 → S_.2.2.1 14 (0 + bi_) e_ + S_.2.2.1 16 (0 + bi_) e_ ≤ S_.1 0 bi_ 0 ∧ S_.2.2.1 15 (0 + bi_) e_ < S_.1 0 bi_ 1
def bpp (bi_ ci_ : Nat) (S_ : sm_S) : Prop := ∀ p_ : Nat, p_ < 652 → S_.2.2.1 17 (0 + bi_) p_ ≠ -1 → (p_ < 624 → ((p_ / 4 : Nat) : Int) < S_.1 2 ci_ 2 + S_.1 2 ci_ 8 ∧ ((p_ % 4 : Nat) : Int) < S_.2.2.1 16 (0 + bi_) (p_ / 4)) ∧ (624 ≤ p_ → p_ < 636 → (p_ : Int) - 624 < S_.1 2 ci_ 1) ∧ (636 ≤ p_ → (p_ : Int) - 636 < S_.1 2 ci_ 3)
/-- two_ elements have changed places -/
def xch (ii_ a_ b_ : Nat) (S_ S'_ : sm_S) : Prop := ∀ e_, S'_.2.2.1 14 (0 + ii_) e_ = (if e_ = b_ then S_.2.2.1 14 (0 + ii_) a_ else if e_ = a_ then S_.2.2.1 14 (0 + ii_) b_ else S_.2.2.1 14 (0 + ii_) e_) ∧ S'_.2.2.1 15 (0 + ii_) e_ = (if e_ = b_ then S_.2.2.1 15 (0 + ii_) a_ else if e_ = a_ then S_.2.2.1 15 (0 + ii_) b_ else S_.2.2.1 15 (0 + ii_) e_)
theorem xch_2 {ii_ a_ b_ : Nat} {S_ S'_ S2_ : sm_S} (h_ : xch ii_ a_ b_ S_ S'_) (g_ : xch ii_ a_ b_ S'_ S2_) (e_ : Nat) : S2_.2.2.1 14 (0 + ii_) e_ = S_.2.2.1 14 (0 + ii_) e_ ∧ S2_.2.2.1 15 (0 + ii_) e_ = S_.2.2.1 15 (0 + ii_) e_ := by
  have x_ := g_ e_
  have ha_ := h_ a_
  have hb_ := h_ b_
  have he_ := h_ e_
  rw [if_pos rfl, if_pos rfl] at hb_
  by_cases y_ : e_ = b_
  · rw [if_pos y_, if_pos y_] at x_
    rw [x_.1, x_.2, ha_.1, ha_.2, y_]
    by_cases z_ : a_ = b_
    · rw [if_pos z_, if_pos z_, z_]; exact ⟨rfl, rfl⟩
    · rw [if_neg z_, if_neg z_, if_pos rfl, if_pos rfl]; exact ⟨rfl, rfl⟩
  · rw [if_neg y_, if_neg y_] at x_ he_
    by_cases z_ : e_ = a_
    · rw [if_pos z_, if_pos z_] at x_
      rw [x_.1, x_.2, hb_.1, hb_.2, z_]; exact ⟨rfl, rfl⟩
    · rw [if_neg z_, if_neg z_] at x_ he_
      rw [x_.1, x_.2]; exact he_
theorem bpn_fr {w_ : sx_Wl} {ii_ : Nat} {S_ S'_ : sm_S} (h_ : bpn ii_ S_) (g_ : ai_fr (sx_W w_) S_ S'_) (h1_ : (sx_W w_).2.1 17 = false) (h2_ : (sx_W w_).2.1 18 = false) (h3_ : (sx_W w_).2.1 19 = false) (h4_ : (sx_W w_).2.1 20 = false) : bpn ii_ S'_ := by
  unfold bpn
  rw [fr_arr g_ h1_, fr_arr g_ h2_, fr_arr g_ h3_, fr_arr g_ h4_]
  exact h_
theorem bpl_sw {bi_ ci_ : Nat} {S_ S'_ : sm_S} (h_ : bpl bi_ ci_ S_) (f0_ : S'_.1 0 bi_ 0 = S_.1 0 bi_ 0) (f1_ : S'_.1 0 bi_ 1 = S_.1 0 bi_ 1) (f2_ : S'_.1 0 bi_ 2 = S_.1 0 bi_ 2) (g1_ : S'_.1 2 ci_ 1 = S_.1 2 ci_ 1) (g2_ : S'_.1 2 ci_ 2 = S_.1 2 ci_ 2) (g3_ : S'_.1 2 ci_ 3 = S_.1 2 ci_ 3) (g8_ : S'_.1 2 ci_ 8 = S_.1 2 ci_ 8) (z_ : S'_.2.2.1 16 (0 + bi_) = S_.2.2.1 16 (0 + bi_))
    (q_ : ∀ e_ : Nat, (e_ : Int) < S_.1 2 ci_ 2 + S_.1 2 ci_ 8 → ∃ e'_ : Nat, (e'_ : Int) < S_.1 2 ci_ 2 + S_.1 2 ci_ 8 ∧ S_.2.2.1 16 (0 + bi_) e'_ = S_.2.2.1 16 (0 + bi_) e_ ∧ S'_.2.2.1 14 (0 + bi_) e_ = S_.2.2.1 14 (0 + bi_) e'_ ∧ S'_.2.2.1 15 (0 + bi_) e_ = S_.2.2.1 15 (0 + bi_) e'_) : bpl bi_ ci_ S'_ := by
  intro r_
  rw [f1_] at r_
  obtain ⟨a_, b_⟩ := h_ r_
  rw [f0_, f1_, f2_, g1_, g2_, g3_, g8_, z_]
  refine ⟨a_, fun e_ he_ => ?_⟩
  obtain ⟨e'_, x1_, x2_, x3_, x4_⟩ := q_ e_ he_
  have y_ := b_ e'_ x1_
  rw [x3_, x4_, ← x2_]
  exact y_
theorem bpl_xch {bi_ ci_ a_ b_ : Nat} {S_ S'_ : sm_S} (h_ : bpl bi_ ci_ S_) (x_ : xch bi_ a_ b_ S_ S'_) (ha_ : (a_ : Int) < S_.1 2 ci_ 2 + S_.1 2 ci_ 8) (hb_ : (b_ : Int) < S_.1 2 ci_ 2 + S_.1 2 ci_ 8) (hz_ : S_.2.2.1 16 (0 + bi_) a_ = S_.2.2.1 16 (0 + bi_) b_) (f0_ : S'_.1 0 bi_ 0 = S_.1 0 bi_ 0) (f1_ : S'_.1 0 bi_ 1 = S_.1 0 bi_ 1) (f2_ : S'_.1 0 bi_ 2 = S_.1 0 bi_ 2) (g1_ : S'_.1 2 ci_ 1 = S_.1 2 ci_ 1) (g2_ : S'_.1 2 ci_ 2 = S_.1 2 ci_ 2) (g3_ : S'_.1 2 ci_ 3 = S_.1 2 ci_ 3) (g8_ : S'_.1 2 ci_ 8 = S_.1 2 ci_ 8) (z_ : S'_.2.2.1 16 (0 + bi_) = S_.2.2.1 16 (0 + bi_)) : bpl bi_ ci_ S'_ := by
  refine bpl_sw h_ f0_ f1_ f2_ g1_ g2_ g3_ g8_ z_ (fun e_ he_ => ?_)
  have y_ := x_ e_
  by_cases p_ : e_ = b_
  · rw [if_pos p_, if_pos p_] at y_
    exact ⟨a_, ha_, by rw [p_]; exact hz_, y_⟩
  · rw [if_neg p_, if_neg p_] at y_
    by_cases q_ : e_ = a_
    · rw [if_pos q_, if_pos q_] at y_
      exact ⟨b_, hb_, by rw [q_]; exact hz_.symm, y_⟩
    · rw [if_neg q_, if_neg q_] at y_
      exact ⟨e_, he_, rfl, y_⟩
theorem bpl_fr {w_ : sx_Wl} {bi_ ci_ : Nat} {S_ S'_ : sm_S} (h_ : bpl bi_ ci_ S_) (g_ : ai_fr (sx_W w_) S_ S'_) (h0_ : (sx_W w_).1 0 0 = false) (h1_ : (sx_W w_).1 0 1 = false) (h2_ : (sx_W w_).1 0 2 = false) (k1_ : (sx_W w_).1 2 1 = false) (k2_ : (sx_W w_).1 2 2 = false) (k3_ : (sx_W w_).1 2 3 = false) (k8_ : (sx_W w_).1 2 8 = false) (a1_ : (sx_W w_).2.1 14 = false) (a2_ : (sx_W w_).2.1 15 = false) (a3_ : (sx_W w_).2.1 16 = false) : bpl bi_ ci_ S'_ :=
  bpl_sw h_ (g_.1 _ _ _ h0_) (g_.1 _ _ _ h1_) (g_.1 _ _ _ h2_) (g_.1 _ _ _ k1_) (g_.1 _ _ _ k2_) (g_.1 _ _ _ k3_) (g_.1 _ _ _ k8_) (fr_arr g_ a3_) (fun e_ he_ => ⟨e_, he_, rfl, by rw [fr_arr g_ a1_], by rw [fr_arr g_ a2_]⟩)
/-! Board.wholeWire -/
def vw_24 : sx_Wl := ([], [], [])
def vq_24 (a1_ : Int) (ii_ : Nat) (S0_ : sm_S) (u_ : Option sm_V) (S1_ : sm_S) : Prop := S0_ = S1_ ∧ ∃ v_ : Int, u_ = some (.inl v_) ∧ (-9999 * a1_ ≤ v_ ∧ v_ ≤ 20000 * a1_)
set_option maxHeartbeats 400000 in
theorem vl_24 {sc_ : Nat × (Nat → Int)} (a1_ : Int) (ii_ : Nat) (S0_ : sm_S) (h1_ : 0 ≤ a1_ ∧ a1_ ≤ 162) : ∀ nn_ : Nat, (∀ (al_ : Int) (k_ : Int) (S_ : sm_S), gi S_ → ai_fr (sx_W vw_24) S0_ S_ → ((0 ≤ k_ ∧ k_ ≤ a1_ ∧ -9999 * k_ ≤ al_ ∧ al_ ≤ 20000 * k_) ∧ (S_ = S0_) ∧ True) → ((1000 - k_).toNat) < nn_ → sm_T (mt_P sc_) 0 24 (4, [some (.inr (.inr (some (0, ii_)))), some (.inl a1_), some (.inl al_), some (.inl k_)], [], S_) (fun ro9_ => ∃ u_ S1_, ro9_ = (.inl u_, S1_, 0) ∧ vq_24 a1_ ii_ S0_ u_ S1_)) := by
  intro nn_
  induction nn_ with
  | zero => exact fun _ _ _ _ _ _ h_ => absurd h_ (Nat.not_lt_zero _)
  | succ nn_ ih_ =>
    rintro al_ k_ S_ hI_ hF_ ⟨h0_, hS_, -⟩ hm_
    refine sm_T_go 2 (c1 := (6, [some (.inr (.inr (some (0, ii_)))), some (.inl a1_), some (.inl al_), some (.inl k_)], [.inl a1_, .inl k_], S_)) rfl ?_
    refine sm_T_br (a := 3) (z := 18) rfl (fun cx1_ => ?_) (fun cx1_ => ?_)
    · have cx1_ : a1_ ≤ k_ := of_decide_eq_true cx1_
      refine sm_T_go 1 (c1 := (25, [some (.inr (.inr (some (0, ii_)))), some (.inl a1_), some (.inl al_), some (.inl k_)], [.inl al_], S_)) rfl ?_
      refine sm_T_ri rfl ⟨_, _, rfl, (by first | rfl | exact hS_.symm), _, rfl, ?_⟩
      omega
    · have cx1_ : ¬ (a1_ ≤ k_) := of_decide_eq_false cx1_
      refine sm_T_go 4 (c1 := (15, [some (.inr (.inr (some (0, ii_)))), some (.inl a1_), some (.inl al_), some (.inl k_)], [.inl k_, .inr (.inr (some (21, (0 + ii_)))), .inl al_], S_)) rfl ?_
      refine sm_T_iald (n := 162) rfl rfl (by omega) (by omega) ?_
      have bx2_ : (-9999) ≤ S_.2.2.1 21 (0 + ii_) k_.toNat ∧ S_.2.2.1 21 (0 + ii_) k_.toNat ≤ 20000 := hI_.2 21 (0 + ii_) _
      refine sm_T_bin (w := al_ + (S_.2.2.1 21 (0 + ii_) k_.toNat)) rfl (bi_add (by omega) (by omega) (by omega)) ?_ -- pc_ 16
      refine sm_T_go 1 (c1 := (18, [some (.inr (.inr (some (0, ii_)))), some (.inl a1_), some (.inl (al_ + (S_.2.2.1 21 (0 + ii_) k_.toNat))), some (.inl k_)], [], S_)) rfl ?_
      refine sm_T_inc (a := 3) (z := 1) (v := k_) (w := k_ + 1) rfl rfl (by omega) (by omega) (by omega) ?_ -- pc_ 18
      refine sm_T_go 1 (c1 := (4, [some (.inr (.inr (some (0, ii_)))), some (.inl a1_), some (.inl (al_ + (S_.2.2.1 21 (0 + ii_) k_.toNat))), some (.inl (k_ + 1))], [], S_)) rfl ?_
      refine ih_ (al_ + (S_.2.2.1 21 (0 + ii_) k_.toNat)) (k_ + 1) S_ hI_ hF_ ⟨?_, ?_, trivial⟩ ?_
      · omega
      · first | rfl | exact hS_
      · omega
set_option maxHeartbeats 400000 in
theorem vc_24 {sc_ : Nat × (Nat → Int)} (a1_ : Int) (ii_ : Nat) (S0_ : sm_S) (hI_ : gi S0_) (h1_ : 0 ≤ a1_ ∧ a1_ ≤ 162) : sm_T (mt_P sc_) 0 24 (0, [some (.inr (.inr (some (0, ii_)))), some (.inl a1_), none, none], [], S0_) (fun ro9_ => ∃ u_ S1_, ro9_ = (.inl u_, S1_, 0) ∧ vq_24 a1_ ii_ S0_ u_ S1_) := by
  have hF_ : ai_fr (sx_W vw_24) S0_ S0_ := ai_fr_rf
  refine sm_T_go 4 (c1 := (4, [some (.inr (.inr (some (0, ii_)))), some (.inl a1_), some (.inl 0), some (.inl 0)], [], S0_)) rfl ?_
  refine (vl_24 a1_ ii_ S0_ h1_ _) 0 0 S0_ hI_ hF_ ⟨?_, ?_, trivial⟩ (Nat.lt_succ_self _)
  · omega
  · first | rfl | exact hS_
end
/-! 99.zj9b -/
section
/-! Board.layOut -/
def vw_21 : sx_Wl := ([], [14, 15], [])
def vq_21 (a2_ : Int) (a3_ : Int) (ii_ : Nat) (cc_ : Nat) (S0_ : sm_S) (u_ : Option sm_V) (S1_ : sm_S) : Prop := ∃ v_ : Int, u_ = some (.inl v_) ∧ gi S1_ ∧ ai_fr (sx_W vw_21) S0_ S1_ ∧ (cdf ii_ S0_ S1_ ∧ (v_ = (lo9 (S0_.2.2.1 16 (0 + ii_)) a2_ (S0_.1 2 cc_ 2 + S0_.1 2 cc_ 8).toNat).1 + 1 ∧ (a3_ = 0 → S1_ = S0_) ∧ (a3_ ≠ 0 → ∀ j_ : Nat, (j_ : Int) < (S0_.1 2 cc_ 2 + S0_.1 2 cc_ 8) → S1_.2.2.1 14 (0 + ii_) j_ + (S0_.2.2.1 16 (0 + ii_)) j_ ≤ a2_ ∧ S1_.2.2.1 15 (0 + ii_) j_ < v_)))
set_option maxHeartbeats 400000 in
theorem vl_21 {sc_ : Nat × (Nat → Int)} (a2_ : Int) (a3_ : Int) (ii_ : Nat) (cc_ : Nat) (S0_ : sm_S) (hI0_ : gi S0_) (h1_ : 4 ≤ a2_ ∧ a2_ ≤ 60) (h3_ : 0 ≤ a3_ ∧ a3_ ≤ 1) (hk_ : a3_ ≠ 0 → (lo9 (S0_.2.2.1 16 (0 + ii_)) a2_ (S0_.1 2 cc_ 2 + S0_.1 2 cc_ 8).toNat).1 ≤ 11) : ∀ nn_ : Nat, (∀ (rr_ : Int) (st_ : Int) (e9_ : Int) (S_ : sm_S), gi S_ → ai_fr (sx_W vw_21) S0_ S_ → ((0 ≤ e9_ ∧ e9_ ≤ (S0_.1 2 cc_ 2 + S0_.1 2 cc_ 8)) ∧ (rr_ = (lo9 (S0_.2.2.1 16 (0 + ii_)) a2_ e9_.toNat).1) ∧ (st_ = (lo9 (S0_.2.2.1 16 (0 + ii_)) a2_ e9_.toNat).2) ∧ (a3_ = 0 → S_ = S0_) ∧ (a3_ ≠ 0 → ∀ j_ : Nat, (j_ : Int) < e9_ → S_.2.2.1 14 (0 + ii_) j_ + (S0_.2.2.1 16 (0 + ii_)) j_ ≤ a2_ ∧ S_.2.2.1 15 (0 + ii_) j_ ≤ rr_) ∧ (cdf ii_ S0_ S_) ∧ True) → ((1000 - e9_).toNat) < nn_ → sm_T (mt_P sc_) 1 21 (9, [some (.inr (.inr (some (0, ii_)))), some (.inr (.inr (some (2, cc_)))), some (.inl a2_), some (.inl a3_), some (.inl rr_), some (.inl st_), some (.inl e9_)], [], S_) (fun ro9_ => ∃ u_ S1_, ro9_ = (.inl u_, S1_, 0) ∧ vq_21 a2_ a3_ ii_ cc_ S0_ u_ S1_)) := by
  intro nn_
  induction nn_ with
  | zero => exact fun _ _ _ _ _ _ _ h_ => absurd h_ (Nat.not_lt_zero _)
  | succ nn_ ih_ =>
    rintro rr_ st_ e9_ S_ hI_ hF_ ⟨h0_, hrr_, hst_, hz_, hj_, hC_, -⟩ hm_
    have z9_ : S_.2.2.1 16 (0 + ii_) = (S0_.2.2.1 16 (0 + ii_)) := fr_arr hF_ rfl
    have l9_ := lo9_b (f_ := (S0_.2.2.1 16 (0 + ii_))) (w_ := a2_) (fun k_ => hI0_.2 16 (0 + ii_) k_) h1_.1 e9_.toNat
    have e2_ : S_.1 2 cc_ 2 = S0_.1 2 cc_ 2 := hF_.1 2 cc_ 2 rfl
    have e8_ : S_.1 2 cc_ 8 = S0_.1 2 cc_ 8 := hF_.1 2 cc_ 8 rfl
    have c2_ : 0 ≤ S0_.1 2 cc_ 2 ∧ S0_.1 2 cc_ 2 ≤ 6 := hI0_.1 2 cc_ 2 rfl
    have c8_ : 0 ≤ S0_.1 2 cc_ 8 ∧ S0_.1 2 cc_ 8 ≤ 150 := hI0_.1 2 cc_ 8 rfl
    refine sm_T_go 2 (c1 := (12, [some (.inr (.inr (some (0, ii_)))), some (.inr (.inr (some (2, cc_)))), some (.inl a2_), some (.inl a3_), some (.inl rr_), some (.inl st_), some (.inl e9_)], [.inr (.inr (some (2, cc_))), .inl e9_], S_)) rfl ?_
    refine sm_T_cal (d1 := 0) (Q1 := vq_56 cc_ S_) rfl rfl (by decide) (vc_56 cc_ S_ hI_ ) (fun u_ Sx1_ px4_ => ?_)
    obtain ⟨rfl, vx6_, rfl, px4_⟩ := px4_
    have n9_ := px4_
    refine sm_T_br (a := 3) (z := 63) rfl (fun cx7_ => ?_) (fun cx7_ => ?_)
    · have cx7_ : vx6_ ≤ e9_ := of_decide_eq_true cx7_
      refine sm_T_go 2 (c1 := (81, [some (.inr (.inr (some (0, ii_)))), some (.inr (.inr (some (2, cc_)))), some (.inl a2_), some (.inl a3_), some (.inl rr_), some (.inl st_), some (.inl e9_)], [.inl 1, .inl rr_], S_)) rfl ?_
      refine sm_T_bin (w := rr_ + 1) rfl (bi_add (by omega) (by omega) (by omega)) ?_ -- pc_ 81
      refine sm_T_ri rfl ⟨_, _, rfl, _, rfl, hI_, hF_, ?_⟩
      refine ⟨hC_, ?_⟩
      have q9_ : e9_ = (S0_.1 2 cc_ 2 + S0_.1 2 cc_ 8) := by omega
      rw [q9_] at hrr_
      refine ⟨by omega, hz_, fun u_ j_ hj9_ => ?_⟩
      have w9_ := hj_ u_ j_ (by omega)
      omega
    · have cx7_ : ¬ (vx6_ ≤ e9_) := of_decide_eq_false cx7_
      have s9_ := lo9_s (S0_.2.2.1 16 (0 + ii_)) a2_ e9_.toNat
      have g9_ : 0 ≤ S0_.2.2.1 16 (0 + ii_) e9_.toNat ∧ S0_.2.2.1 16 (0 + ii_) e9_.toNat ≤ 4 := hI0_.2 16 (0 + ii_) _
      have m9_ := lo9_mo (f_ := (S0_.2.2.1 16 (0 + ii_))) (w_ := a2_) (n_ := e9_.toNat + 1) (m_ := (S0_.1 2 cc_ 2 + S0_.1 2 cc_ 8).toNat) (by omega)
      have y9_ : S_.2.2.1 16 (0 + ii_) e9_.toNat = (S0_.2.2.1 16 (0 + ii_)) e9_.toNat := by rw [z9_]
      refine sm_T_go 4 (c1 := (26, [some (.inr (.inr (some (0, ii_)))), some (.inr (.inr (some (2, cc_)))), some (.inl a2_), some (.inl a3_), some (.inl rr_), some (.inl st_), some (.inl e9_)], [.inl e9_, .inr (.inr (some (16, (0 + ii_)))), .inl st_], S_)) rfl ?_
      refine sm_T_iald (n := 156) rfl rfl (by omega) (by omega) ?_
      have bx8_ : 0 ≤ S_.2.2.1 16 (0 + ii_) e9_.toNat ∧ S_.2.2.1 16 (0 + ii_) e9_.toNat ≤ 4 := hI_.2 16 (0 + ii_) _
      refine sm_T_bin (w := st_ + (S_.2.2.1 16 (0 + ii_) e9_.toNat)) rfl (bi_add (by omega) (by omega) (by omega)) ?_ -- pc_ 27
      refine sm_T_go 1 (c1 := (29, [some (.inr (.inr (some (0, ii_)))), some (.inr (.inr (some (2, cc_)))), some (.inl a2_), some (.inl a3_), some (.inl rr_), some (.inl st_), some (.inl e9_)], [.inl a2_, .inl (st_ + (S_.2.2.1 16 (0 + ii_) e9_.toNat))], S_)) rfl ?_
      refine sm_T_br (a := 5) (z := 9) rfl (fun cx9_ => ?_) (fun cx9_ => ?_)
      · have cx9_ : st_ + (S_.2.2.1 16 (0 + ii_) e9_.toNat) ≤ a2_ := of_decide_eq_true cx9_
        rw [← hst_, if_neg (by omega)] at s9_
        rw [s9_] at m9_
        dsimp only at m9_
        refine sm_T_go 1 (c1 := (39, [some (.inr (.inr (some (0, ii_)))), some (.inr (.inr (some (2, cc_)))), some (.inl a2_), some (.inl a3_), some (.inl rr_), some (.inl st_), some (.inl e9_)], [.inl a3_], S_)) rfl ?_
        refine sm_T_b0 (a := 0) (z := 21) rfl (fun cx10_ => ?_) (fun cx10_ => ?_)
        · have cx10_ : a3_ = 0 := of_decide_eq_true cx10_
          refine sm_T_go 4 (c1 := (68, [some (.inr (.inr (some (0, ii_)))), some (.inr (.inr (some (2, cc_)))), some (.inl a2_), some (.inl a3_), some (.inl rr_), some (.inl st_), some (.inl e9_)], [.inl e9_, .inr (.inr (some (16, (0 + ii_)))), .inl st_], S_)) rfl ?_
          refine sm_T_iald (n := 156) rfl rfl (by omega) (by omega) ?_
          refine sm_T_bin (w := st_ + (S_.2.2.1 16 (0 + ii_) e9_.toNat)) rfl (bi_add (by omega) (by omega) (by omega)) ?_ -- pc_ 69
          refine sm_T_go 1 (c1 := (72, [some (.inr (.inr (some (0, ii_)))), some (.inr (.inr (some (2, cc_)))), some (.inl a2_), some (.inl a3_), some (.inl rr_), some (.inl (st_ + (S_.2.2.1 16 (0 + ii_) e9_.toNat))), some (.inl e9_)], [], S_)) rfl ?_
          refine sm_T_inc (a := 6) (z := 1) (v := e9_) (w := e9_ + 1) rfl rfl (by omega) (by omega) (by omega) ?_ -- pc_ 72
          refine sm_T_go 1 (c1 := (9, [some (.inr (.inr (some (0, ii_)))), some (.inr (.inr (some (2, cc_)))), some (.inl a2_), some (.inl a3_), some (.inl rr_), some (.inl (st_ + (S_.2.2.1 16 (0 + ii_) e9_.toNat))), some (.inl (e9_ + 1))], [], S_)) rfl ?_
          refine ih_ rr_ (st_ + (S_.2.2.1 16 (0 + ii_) e9_.toNat)) (e9_ + 1) S_ hI_ hF_ ⟨?_, ?_, ?_, ?_, ?_, ?_, trivial⟩ ?_
          · omega
          · (rw [show (e9_ + 1).toNat = e9_.toNat + 1 by omega, s9_]; try dsimp only; omega)
          · (rw [show (e9_ + 1).toNat = e9_.toNat + 1 by omega, s9_]; try dsimp only; omega)
          · exact hz_
          · (intro u_; exfalso; omega)
          · exact hC_
          · omega
        · have cx10_ : ¬ (a3_ = 0) := of_decide_eq_false cx10_
          have k9_ := hk_ (by omega)
          refine sm_T_go 4 (c1 := (50, [some (.inr (.inr (some (0, ii_)))), some (.inr (.inr (some (2, cc_)))), some (.inl a2_), some (.inl a3_), some (.inl rr_), some (.inl st_), some (.inl e9_)], [.inl st_, .inl e9_, .inr (.inr (some (14, (0 + ii_))))], S_)) rfl ?_
          refine sm_T_iast (n := 156) rfl rfl (by omega) (by omega) ?_
          have hIx11_ : gi (sm_aI S_ 14 (0 + ii_) e9_.toNat st_) := gi_aI hI_ (show 0 ≤ st_ ∧ st_ ≤ 60 from ⟨by omega, by omega⟩)
          have hFx12_ : ai_fr (sx_W vw_21) S0_ (sm_aI S_ 14 (0 + ii_) e9_.toNat st_) := ai_fr_tr hF_ (ai_fr_aI rfl)
          have hCx13_ : cdf ii_ S0_ (sm_aI S_ 14 (0 + ii_) e9_.toNat st_) := cdf_aI hC_ (Or.inr (by rw [show cof 14 = 0 from rfl] <;> omega))
          refine sm_T_go 4 (c1 := (59, [some (.inr (.inr (some (0, ii_)))), some (.inr (.inr (some (2, cc_)))), some (.inl a2_), some (.inl a3_), some (.inl rr_), some (.inl st_), some (.inl e9_)], [.inl rr_, .inl e9_, .inr (.inr (some (15, (0 + ii_))))], sm_aI S_ 14 (0 + ii_) e9_.toNat st_)) rfl ?_
          refine sm_T_iast (n := 156) rfl rfl (by omega) (by omega) ?_
          have hIx14_ : gi (sm_aI (sm_aI S_ 14 (0 + ii_) e9_.toNat st_) 15 (0 + ii_) e9_.toNat rr_) := gi_aI hIx11_ (show 0 ≤ rr_ ∧ rr_ ≤ 12 from ⟨by omega, by omega⟩)
          have hFx15_ : ai_fr (sx_W vw_21) S0_ (sm_aI (sm_aI S_ 14 (0 + ii_) e9_.toNat st_) 15 (0 + ii_) e9_.toNat rr_) := ai_fr_tr hFx12_ (ai_fr_aI rfl)
          have hCx16_ : cdf ii_ S0_ (sm_aI (sm_aI S_ 14 (0 + ii_) e9_.toNat st_) 15 (0 + ii_) e9_.toNat rr_) := cdf_aI hCx13_ (Or.inr (by rw [show cof 15 = 0 from rfl] <;> omega))
          refine sm_T_go 4 (c1 := (68, [some (.inr (.inr (some (0, ii_)))), some (.inr (.inr (some (2, cc_)))), some (.inl a2_), some (.inl a3_), some (.inl rr_), some (.inl st_), some (.inl e9_)], [.inl e9_, .inr (.inr (some (16, (0 + ii_)))), .inl st_], sm_aI (sm_aI S_ 14 (0 + ii_) e9_.toNat st_) 15 (0 + ii_) e9_.toNat rr_)) rfl ?_
          refine sm_T_iald (n := 156) rfl rfl (by omega) (by omega) ?_
          refine sm_T_go 0 (c1 := (69, [some (.inr (.inr (some (0, ii_)))), some (.inr (.inr (some (2, cc_)))), some (.inl a2_), some (.inl a3_), some (.inl rr_), some (.inl st_), some (.inl e9_)], [.inl (S_.2.2.1 16 (0 + ii_) e9_.toNat), .inl st_], sm_aI (sm_aI S_ 14 (0 + ii_) e9_.toNat st_) 15 (0 + ii_) e9_.toNat rr_)) rfl ?_
          refine sm_T_bin (w := st_ + (S_.2.2.1 16 (0 + ii_) e9_.toNat)) rfl (bi_add (by omega) (by omega) (by omega)) ?_ -- pc_ 69
          refine sm_T_go 1 (c1 := (72, [some (.inr (.inr (some (0, ii_)))), some (.inr (.inr (some (2, cc_)))), some (.inl a2_), some (.inl a3_), some (.inl rr_), some (.inl (st_ + (S_.2.2.1 16 (0 + ii_) e9_.toNat))), some (.inl e9_)], [], sm_aI (sm_aI S_ 14 (0 + ii_) e9_.toNat st_) 15 (0 + ii_) e9_.toNat rr_)) rfl ?_
          refine sm_T_inc (a := 6) (z := 1) (v := e9_) (w := e9_ + 1) rfl rfl (by omega) (by omega) (by omega) ?_ -- pc_ 72
          refine sm_T_go 1 (c1 := (9, [some (.inr (.inr (some (0, ii_)))), some (.inr (.inr (some (2, cc_)))), some (.inl a2_), some (.inl a3_), some (.inl rr_), some (.inl (st_ + (S_.2.2.1 16 (0 + ii_) e9_.toNat))), some (.inl (e9_ + 1))], [], sm_aI (sm_aI S_ 14 (0 + ii_) e9_.toNat st_) 15 (0 + ii_) e9_.toNat rr_)) rfl ?_
          refine ih_ rr_ (st_ + (S_.2.2.1 16 (0 + ii_) e9_.toNat)) (e9_ + 1) (sm_aI (sm_aI S_ 14 (0 + ii_) e9_.toNat st_) 15 (0 + ii_) e9_.toNat rr_) hIx14_ hFx15_ ⟨?_, ?_, ?_, ?_, ?_, ?_, trivial⟩ ?_
          · omega
          · (rw [show (e9_ + 1).toNat = e9_.toNat + 1 by omega, s9_]; try dsimp only; omega)
          · (rw [show (e9_ + 1).toNat = e9_.toNat + 1 by omega, s9_]; try dsimp only; omega)
          · (intro u_; exfalso; omega)
          · intro u_ j_ hj9_
            rw [rd_eq, rd_ne (by decide), rd_eq, rd_ne (by decide)]
            by_cases z_ : j_ = e9_.toNat
            · rw [if_pos z_, if_pos z_, z_]; omega
            · rw [if_neg z_, if_neg z_]; have w9_ := hj_ u_ j_ (by omega); omega
          · exact hCx16_
          · omega
      · have cx9_ : ¬ (st_ + (S_.2.2.1 16 (0 + ii_) e9_.toNat) ≤ a2_) := of_decide_eq_false cx9_
        rw [← hst_, if_pos (by omega)] at s9_
        rw [s9_] at m9_
        dsimp only at m9_
        refine sm_T_inc (a := 4) (z := 1) (v := rr_) (w := rr_ + 1) rfl rfl (by omega) (by omega) (by omega) ?_ -- pc_ 32
        refine sm_T_go 3 (c1 := (39, [some (.inr (.inr (some (0, ii_)))), some (.inr (.inr (some (2, cc_)))), some (.inl a2_), some (.inl a3_), some (.inl (rr_ + 1)), some (.inl 0), some (.inl e9_)], [.inl a3_], S_)) rfl ?_
        refine sm_T_b0 (a := 0) (z := 21) rfl (fun cx17_ => ?_) (fun cx17_ => ?_)
        · have cx17_ : a3_ = 0 := of_decide_eq_true cx17_
          refine sm_T_go 4 (c1 := (68, [some (.inr (.inr (some (0, ii_)))), some (.inr (.inr (some (2, cc_)))), some (.inl a2_), some (.inl a3_), some (.inl (rr_ + 1)), some (.inl 0), some (.inl e9_)], [.inl e9_, .inr (.inr (some (16, (0 + ii_)))), .inl 0], S_)) rfl ?_
          refine sm_T_iald (n := 156) rfl rfl (by omega) (by omega) ?_
          refine sm_T_bin (w := (S_.2.2.1 16 (0 + ii_) e9_.toNat)) rfl (bi_add (by omega) (by omega) (by omega)) ?_ -- pc_ 69
          refine sm_T_go 1 (c1 := (72, [some (.inr (.inr (some (0, ii_)))), some (.inr (.inr (some (2, cc_)))), some (.inl a2_), some (.inl a3_), some (.inl (rr_ + 1)), some (.inl (S_.2.2.1 16 (0 + ii_) e9_.toNat)), some (.inl e9_)], [], S_)) rfl ?_
          refine sm_T_inc (a := 6) (z := 1) (v := e9_) (w := e9_ + 1) rfl rfl (by omega) (by omega) (by omega) ?_ -- pc_ 72
          refine sm_T_go 1 (c1 := (9, [some (.inr (.inr (some (0, ii_)))), some (.inr (.inr (some (2, cc_)))), some (.inl a2_), some (.inl a3_), some (.inl (rr_ + 1)), some (.inl (S_.2.2.1 16 (0 + ii_) e9_.toNat)), some (.inl (e9_ + 1))], [], S_)) rfl ?_
          refine ih_ (rr_ + 1) (S_.2.2.1 16 (0 + ii_) e9_.toNat) (e9_ + 1) S_ hI_ hF_ ⟨?_, ?_, ?_, ?_, ?_, ?_, trivial⟩ ?_
          · omega
          · (rw [show (e9_ + 1).toNat = e9_.toNat + 1 by omega, s9_]; try dsimp only; omega)
          · (rw [show (e9_ + 1).toNat = e9_.toNat + 1 by omega, s9_]; try dsimp only; omega)
          · exact hz_
          · (intro u_; exfalso; omega)
          · exact hC_
          · omega
        · have cx17_ : ¬ (a3_ = 0) := of_decide_eq_false cx17_
          have k9_ := hk_ (by omega)
          refine sm_T_go 4 (c1 := (50, [some (.inr (.inr (some (0, ii_)))), some (.inr (.inr (some (2, cc_)))), some (.inl a2_), some (.inl a3_), some (.inl (rr_ + 1)), some (.inl 0), some (.inl e9_)], [.inl 0, .inl e9_, .inr (.inr (some (14, (0 + ii_))))], S_)) rfl ?_
          refine sm_T_iast (n := 156) rfl rfl (by omega) (by omega) ?_
          have hIx18_ : gi (sm_aI S_ 14 (0 + ii_) e9_.toNat 0) := gi_aI hI_ (show 0 ≤ 0 ∧ 0 ≤ 60 from ⟨by omega, by omega⟩)
          have hFx19_ : ai_fr (sx_W vw_21) S0_ (sm_aI S_ 14 (0 + ii_) e9_.toNat 0) := ai_fr_tr hF_ (ai_fr_aI rfl)
          have hCx20_ : cdf ii_ S0_ (sm_aI S_ 14 (0 + ii_) e9_.toNat 0) := cdf_aI hC_ (Or.inr (by rw [show cof 14 = 0 from rfl] <;> omega))
          refine sm_T_go 4 (c1 := (59, [some (.inr (.inr (some (0, ii_)))), some (.inr (.inr (some (2, cc_)))), some (.inl a2_), some (.inl a3_), some (.inl (rr_ + 1)), some (.inl 0), some (.inl e9_)], [.inl (rr_ + 1), .inl e9_, .inr (.inr (some (15, (0 + ii_))))], sm_aI S_ 14 (0 + ii_) e9_.toNat 0)) rfl ?_
          refine sm_T_iast (n := 156) rfl rfl (by omega) (by omega) ?_
          have hIx21_ : gi (sm_aI (sm_aI S_ 14 (0 + ii_) e9_.toNat 0) 15 (0 + ii_) e9_.toNat (rr_ + 1)) := gi_aI hIx18_ (show 0 ≤ rr_ + 1 ∧ rr_ + 1 ≤ 12 from ⟨by omega, by omega⟩)
          have hFx22_ : ai_fr (sx_W vw_21) S0_ (sm_aI (sm_aI S_ 14 (0 + ii_) e9_.toNat 0) 15 (0 + ii_) e9_.toNat (rr_ + 1)) := ai_fr_tr hFx19_ (ai_fr_aI rfl)
          have hCx23_ : cdf ii_ S0_ (sm_aI (sm_aI S_ 14 (0 + ii_) e9_.toNat 0) 15 (0 + ii_) e9_.toNat (rr_ + 1)) := cdf_aI hCx20_ (Or.inr (by rw [show cof 15 = 0 from rfl] <;> omega))
          refine sm_T_go 4 (c1 := (68, [some (.inr (.inr (some (0, ii_)))), some (.inr (.inr (some (2, cc_)))), some (.inl a2_), some (.inl a3_), some (.inl (rr_ + 1)), some (.inl 0), some (.inl e9_)], [.inl e9_, .inr (.inr (some (16, (0 + ii_)))), .inl 0], sm_aI (sm_aI S_ 14 (0 + ii_) e9_.toNat 0) 15 (0 + ii_) e9_.toNat (rr_ + 1))) rfl ?_
          refine sm_T_iald (n := 156) rfl rfl (by omega) (by omega) ?_
          refine sm_T_go 0 (c1 := (69, [some (.inr (.inr (some (0, ii_)))), some (.inr (.inr (some (2, cc_)))), some (.inl a2_), some (.inl a3_), some (.inl (rr_ + 1)), some (.inl 0), some (.inl e9_)], [.inl (S_.2.2.1 16 (0 + ii_) e9_.toNat), .inl 0], sm_aI (sm_aI S_ 14 (0 + ii_) e9_.toNat 0) 15 (0 + ii_) e9_.toNat (rr_ + 1))) rfl ?_
          refine sm_T_bin (w := (S_.2.2.1 16 (0 + ii_) e9_.toNat)) rfl (bi_add (by omega) (by omega) (by omega)) ?_ -- pc_ 69
          refine sm_T_go 1 (c1 := (72, [some (.inr (.inr (some (0, ii_)))), some (.inr (.inr (some (2, cc_)))), some (.inl a2_), some (.inl a3_), some (.inl (rr_ + 1)), some (.inl (S_.2.2.1 16 (0 + ii_) e9_.toNat)), some (.inl e9_)], [], sm_aI (sm_aI S_ 14 (0 + ii_) e9_.toNat 0) 15 (0 + ii_) e9_.toNat (rr_ + 1))) rfl ?_
          refine sm_T_inc (a := 6) (z := 1) (v := e9_) (w := e9_ + 1) rfl rfl (by omega) (by omega) (by omega) ?_ -- pc_ 72
          refine sm_T_go 1 (c1 := (9, [some (.inr (.inr (some (0, ii_)))), some (.inr (.inr (some (2, cc_)))), some (.inl a2_), some (.inl a3_), some (.inl (rr_ + 1)), some (.inl (S_.2.2.1 16 (0 + ii_) e9_.toNat)), some (.inl (e9_ + 1))], [], sm_aI (sm_aI S_ 14 (0 + ii_) e9_.toNat 0) 15 (0 + ii_) e9_.toNat (rr_ + 1))) rfl ?_
          refine ih_ (rr_ + 1) (S_.2.2.1 16 (0 + ii_) e9_.toNat) (e9_ + 1) (sm_aI (sm_aI S_ 14 (0 + ii_) e9_.toNat 0) 15 (0 + ii_) e9_.toNat (rr_ + 1)) hIx21_ hFx22_ ⟨?_, ?_, ?_, ?_, ?_, ?_, trivial⟩ ?_
          · omega
          · (rw [show (e9_ + 1).toNat = e9_.toNat + 1 by omega, s9_]; try dsimp only; omega)
          · (rw [show (e9_ + 1).toNat = e9_.toNat + 1 by omega, s9_]; try dsimp only; omega)
          · (intro u_; exfalso; omega)
          · intro u_ j_ hj9_
            rw [rd_eq, rd_ne (by decide), rd_eq, rd_ne (by decide)]
            by_cases z_ : j_ = e9_.toNat
            · rw [if_pos z_, if_pos z_, z_]; omega
            · rw [if_neg z_, if_neg z_]; have w9_ := hj_ u_ j_ (by omega); omega
          · exact hCx23_
          · omega
set_option maxHeartbeats 400000 in
theorem vc_21 {sc_ : Nat × (Nat → Int)} (a2_ : Int) (a3_ : Int) (ii_ : Nat) (cc_ : Nat) (S0_ : sm_S) (hI_ : gi S0_) (hI0_ : gi S0_) (h1_ : 4 ≤ a2_ ∧ a2_ ≤ 60) (h3_ : 0 ≤ a3_ ∧ a3_ ≤ 1) (hk_ : a3_ ≠ 0 → (lo9 (S0_.2.2.1 16 (0 + ii_)) a2_ (S0_.1 2 cc_ 2 + S0_.1 2 cc_ 8).toNat).1 ≤ 11) : sm_T (mt_P sc_) 1 21 (0, [some (.inr (.inr (some (0, ii_)))), some (.inr (.inr (some (2, cc_)))), some (.inl a2_), some (.inl a3_), none, none, none], [], S0_) (fun ro9_ => ∃ u_ S1_, ro9_ = (.inl u_, S1_, 0) ∧ vq_21 a2_ a3_ ii_ cc_ S0_ u_ S1_) := by
  have hF_ : ai_fr (sx_W vw_21) S0_ S0_ := ai_fr_rf
  have hC_ : cdf ii_ S0_ S0_ := cdf_rf
  refine sm_T_go 6 (c1 := (9, [some (.inr (.inr (some (0, ii_)))), some (.inr (.inr (some (2, cc_)))), some (.inl a2_), some (.inl a3_), some (.inl 0), some (.inl 0), some (.inl 0)], [], S0_)) rfl ?_
  refine (vl_21 a2_ a3_ ii_ cc_ S0_ hI0_ h1_ h3_ hk_ _) 0 0 0 S0_ hI_ hF_ ⟨?_, ?_, ?_, ?_, ?_, ?_, trivial⟩ (Nat.lt_succ_self _)
  · (have c2_ : 0 ≤ S0_.1 2 cc_ 2 ∧ S0_.1 2 cc_ 2 ≤ 6 := hI0_.1 2 cc_ 2 rfl; have c8_ : 0 ≤ S0_.1 2 cc_ 8 ∧ S0_.1 2 cc_ 8 ≤ 150 := hI0_.1 2 cc_ 8 rfl; omega)
  · rfl
  · rfl
  · (intro _; rfl)
  · (intro _ j_ hj9_; exfalso; omega)
  · exact hC_
end
/-! 99.zj9c -/
section
/-! Board.measureAll -/
def vw_22 : sx_Wl := ([(0, 11), (0, 16), (4, 0)], [21], [])
def vq_22 (ii_ : Nat) (cc_ : Nat) (S0_ : sm_S) (u_ : Option sm_V) (S1_ : sm_S) : Prop := u_ = none ∧ gi S1_ ∧ ai_fr (sx_W vw_22) S0_ S1_ ∧ (cdf ii_ S0_ S1_ ∧ (S1_.1 0 ii_ 11 = 0 ∧ S1_.1 4 (0 + ii_) 0 = 0))
set_option maxHeartbeats 400000 in
theorem vl_22 {sc_ : Nat × (Nat → Int)} (ii_ : Nat) (cc_ : Nat) (S0_ : sm_S) (hb_ : bpn ii_ S0_) (hs_ : S0_.1 2 cc_ 1 + S0_.1 2 cc_ 2 ≤ 12) : ∀ nn_ : Nat, (∀ (k_ : Int) (S_ : sm_S), gi S_ → ai_fr (sx_W vw_22) S0_ S_ → ((0 ≤ k_ ∧ k_ ≤ 162) ∧ (cdf ii_ S0_ S_) ∧ True) → ((1000 - k_).toNat) < nn_ → sm_T (mt_P sc_) 2 22 (2, [some (.inr (.inr (some (0, ii_)))), some (.inr (.inr (some (2, cc_)))), some (.inl k_)], [], S_) (fun ro9_ => ∃ u_ S1_, ro9_ = (.inl u_, S1_, 0) ∧ vq_22 ii_ cc_ S0_ u_ S1_)) := by
  intro nn_
  induction nn_ with
  | zero => exact fun _ _ _ _ _ h_ => absurd h_ (Nat.not_lt_zero _)
  | succ nn_ ih_ =>
    rintro k_ S_ hI_ hF_ ⟨h0_, hC_, -⟩ hm_
    have e1_ : S_.1 2 cc_ 1 = S0_.1 2 cc_ 1 := hF_.1 2 cc_ 1 rfl
    have e2_ : S_.1 2 cc_ 2 = S0_.1 2 cc_ 2 := hF_.1 2 cc_ 2 rfl
    have c8_ : 0 ≤ S_.1 2 cc_ 8 ∧ S_.1 2 cc_ 8 ≤ 150 := hI_.1 2 cc_ 8 rfl
    refine sm_T_go 2 (c1 := (4, [some (.inr (.inr (some (0, ii_)))), some (.inr (.inr (some (2, cc_)))), some (.inl k_)], [.inr (.inr (some (2, cc_))), .inl k_], S_)) rfl ?_
    refine sm_T_cal (d1 := 0) (Q1 := vq_55 cc_ S_) rfl rfl (by decide) (vc_55 cc_ S_ hI_ ) (fun u_ Sx1_ px4_ => ?_)
    obtain ⟨rfl, vx6_, rfl, px4_⟩ := px4_
    have n9_ := px4_
    refine sm_T_br (a := 3) (z := 20) rfl (fun cx7_ => ?_) (fun cx7_ => ?_)
    · have cx7_ : vx6_ ≤ k_ := of_decide_eq_true cx7_
      refine sm_T_go 1 (c1 := (28, [some (.inr (.inr (some (0, ii_)))), some (.inr (.inr (some (2, cc_)))), some (.inl k_)], [.inr (.inr (some (0, ii_)))], S_)) rfl ?_
      refine sm_T_cal (d1 := 0) (Q1 := vq_15 ii_ S_) rfl rfl (by decide) (vc_15 ii_ S_ hI_ ) (fun u_ Sx8_ px11_ => ?_)
      obtain ⟨rfl, hIx9_, hFx10_, px11_⟩ := px11_
      have hFx12_ : ai_fr (sx_W vw_22) S0_ Sx8_ := ai_fr_tr hF_ (fr_le hFx10_ rfl)
      obtain ⟨dx14_, px11_⟩ := px11_
      have hCx13_ : cdf ii_ S0_ Sx8_ := cdf_tr hC_ (cdf_cg (by omega) dx14_)
      have l9_ := px11_
      have bx15_ : (-2147483648) ≤ Sx8_.1 0 ii_ 16 ∧ Sx8_.1 0 ii_ 16 ≤ 2147483647 := hIx9_.1 0 ii_ 16 rfl
      refine sm_T_go 4 (c1 := (37, [some (.inr (.inr (some (0, ii_)))), some (.inr (.inr (some (2, cc_)))), some (.inl k_)], [.inl 1, .inl (Sx8_.1 0 ii_ 16), .inr (.inr (some (0, ii_)))], Sx8_)) rfl ?_
      refine sm_T_bin (w := (i_add (Sx8_.1 0 ii_ 16) 1)) rfl rfl ?_ -- pc_ 37
      have bx16_ := i_add_r (Sx8_.1 0 ii_ 16) 1
      have hIx17_ : gi (sm_pI Sx8_ 0 ii_ 16 (i_add (Sx8_.1 0 ii_ 16) 1)) := gi_pI hIx9_ (show (-2147483648) ≤ (i_add (Sx8_.1 0 ii_ 16) 1) ∧ (i_add (Sx8_.1 0 ii_ 16) 1) ≤ 2147483647 from ⟨by omega, by omega⟩)
      have hFx18_ : ai_fr (sx_W vw_22) S0_ (sm_pI Sx8_ 0 ii_ 16 (i_add (Sx8_.1 0 ii_ 16) 1)) := ai_fr_tr hFx12_ (ai_fr_pI rfl)
      have hCx19_ : cdf ii_ S0_ (sm_pI Sx8_ 0 ii_ 16 (i_add (Sx8_.1 0 ii_ 16) 1)) := cdf_pI hCx13_ (Or.inr (by rw [show cof 0 = 0 from rfl] <;> omega))
      refine sm_T_go 1 (c1 := (41, [some (.inr (.inr (some (0, ii_)))), some (.inr (.inr (some (2, cc_)))), some (.inl k_)], [], sm_pI Sx8_ 0 ii_ 16 (i_add (Sx8_.1 0 ii_ 16) 1))) rfl ?_
      refine sm_T_rv rfl ⟨_, _, rfl, rfl, hIx17_, hFx18_, ?_⟩
      refine ⟨hCx19_, ?_⟩
      constructor
      · rw [rf_nk (by decide)]; exact l9_.1
      · rw [rf_nt (by decide)]; exact l9_.2
    · have cx7_ : ¬ (vx6_ ≤ k_) := of_decide_eq_false cx7_
      refine sm_T_go 5 (c1 := (17, [some (.inr (.inr (some (0, ii_)))), some (.inr (.inr (some (2, cc_)))), some (.inl k_)], [.inl k_, .inr (.inr (some (0, ii_))), .inl k_, .inr (.inr (some (21, (0 + ii_))))], S_)) rfl ?_
      refine sm_T_cal (d1 := 1) (Q1 := vq_23 k_ ii_ S_) rfl rfl (by decide) (vc_23 k_ ii_ S_ hI_ (by omega) (by exact bpn_fr hb_ hF_ rfl rfl rfl rfl)) (fun u_ Sx20_ px23_ => ?_)
      obtain ⟨rfl, vx25_, rfl, px23_⟩ := px23_
      have w9_ := px23_
      refine sm_T_iast (n := 162) rfl rfl (by omega) (by omega) ?_
      have hIx26_ : gi (sm_aI S_ 21 (0 + ii_) k_.toNat vx25_) := gi_aI hI_ (show (-9999) ≤ vx25_ ∧ vx25_ ≤ 20000 from ⟨by omega, by omega⟩)
      have hFx27_ : ai_fr (sx_W vw_22) S0_ (sm_aI S_ 21 (0 + ii_) k_.toNat vx25_) := ai_fr_tr hF_ (ai_fr_aI rfl)
      have hCx28_ : cdf ii_ S0_ (sm_aI S_ 21 (0 + ii_) k_.toNat vx25_) := cdf_aI hC_ (Or.inr (by rw [show cof 21 = 0 from rfl] <;> omega))
      refine sm_T_inc (a := 2) (z := 1) (v := k_) (w := k_ + 1) rfl rfl (by omega) (by omega) (by omega) ?_ -- pc_ 21
      refine sm_T_go 1 (c1 := (2, [some (.inr (.inr (some (0, ii_)))), some (.inr (.inr (some (2, cc_)))), some (.inl (k_ + 1))], [], sm_aI S_ 21 (0 + ii_) k_.toNat vx25_)) rfl ?_
      refine ih_ (k_ + 1) (sm_aI S_ 21 (0 + ii_) k_.toNat vx25_) hIx26_ hFx27_ ⟨?_, ?_, trivial⟩ ?_
      · omega
      · exact hCx28_
      · omega
set_option maxHeartbeats 400000 in
theorem vc_22 {sc_ : Nat × (Nat → Int)} (ii_ : Nat) (cc_ : Nat) (S0_ : sm_S) (hI_ : gi S0_) (hb_ : bpn ii_ S0_) (hs_ : S0_.1 2 cc_ 1 + S0_.1 2 cc_ 2 ≤ 12) : sm_T (mt_P sc_) 2 22 (0, [some (.inr (.inr (some (0, ii_)))), some (.inr (.inr (some (2, cc_)))), none], [], S0_) (fun ro9_ => ∃ u_ S1_, ro9_ = (.inl u_, S1_, 0) ∧ vq_22 ii_ cc_ S0_ u_ S1_) := by
  have hF_ : ai_fr (sx_W vw_22) S0_ S0_ := ai_fr_rf
  have hC_ : cdf ii_ S0_ S0_ := cdf_rf
  refine sm_T_go 2 (c1 := (2, [some (.inr (.inr (some (0, ii_)))), some (.inr (.inr (some (2, cc_)))), some (.inl 0)], [], S0_)) rfl ?_
  refine (vl_22 ii_ cc_ S0_ hb_ hs_ _) 0 S0_ hI_ hF_ ⟨?_, ?_, trivial⟩ (Nat.lt_succ_self _)
  · omega
  · exact hC_
end
/-! 99.zj9d -/
section
/-! Board.exchange -/
def vw_29 : sx_Wl := ([], [14, 15], [])
def vq_29 (a1_ : Int) (a2_ : Int) (ii_ : Nat) (S0_ : sm_S) (u_ : Option sm_V) (S1_ : sm_S) : Prop := u_ = none ∧ gi S1_ ∧ ai_fr (sx_W vw_29) S0_ S1_ ∧ (cdf ii_ S0_ S1_ ∧ ((xch ii_ a1_.toNat a2_.toNat S0_ S1_)))
set_option maxHeartbeats 400000 in
theorem vc_29 {sc_ : Nat × (Nat → Int)} (a1_ : Int) (a2_ : Int) (ii_ : Nat) (S0_ : sm_S) (hI_ : gi S0_) (ha1_ : 0 ≤ a1_ ∧ a1_ ≤ 155) (ha2_ : 0 ≤ a2_ ∧ a2_ ≤ 155) : sm_T (mt_P sc_) 0 29 (0, [some (.inr (.inr (some (0, ii_)))), some (.inl a1_), some (.inl a2_), none, none], [], S0_) (fun ro9_ => ∃ u_ S1_, ro9_ = (.inl u_, S1_, 0) ∧ vq_29 a1_ a2_ ii_ S0_ u_ S1_) := by
  have hF_ : ai_fr (sx_W vw_29) S0_ S0_ := ai_fr_rf
  have hC_ : cdf ii_ S0_ S0_ := cdf_rf
  refine sm_T_go 3 (c1 := (5, [some (.inr (.inr (some (0, ii_)))), some (.inl a1_), some (.inl a2_), none, none], [.inl a1_, .inr (.inr (some (14, (0 + ii_))))], S0_)) rfl ?_
  refine sm_T_iald (n := 156) rfl rfl (by omega) (by omega) ?_
  have bx1_ : 0 ≤ S0_.2.2.1 14 (0 + ii_) a1_.toNat ∧ S0_.2.2.1 14 (0 + ii_) a1_.toNat ≤ 60 := hI_.2 14 (0 + ii_) _
  refine sm_T_go 7 (c1 := (17, [some (.inr (.inr (some (0, ii_)))), some (.inl a1_), some (.inl a2_), some (.inl (S0_.2.2.1 14 (0 + ii_) a1_.toNat)), none], [.inl a2_, .inr (.inr (some (14, (0 + ii_)))), .inl a1_, .inr (.inr (some (14, (0 + ii_))))], S0_)) rfl ?_
  refine sm_T_iald (n := 156) rfl rfl (by omega) (by omega) ?_
  have bx2_ : 0 ≤ S0_.2.2.1 14 (0 + ii_) a2_.toNat ∧ S0_.2.2.1 14 (0 + ii_) a2_.toNat ≤ 60 := hI_.2 14 (0 + ii_) _
  refine sm_T_iast (n := 156) rfl rfl (by omega) (by omega) ?_
  have hIx3_ : gi (sm_aI S0_ 14 (0 + ii_) a1_.toNat (S0_.2.2.1 14 (0 + ii_) a2_.toNat)) := gi_aI hI_ (show 0 ≤ (S0_.2.2.1 14 (0 + ii_) a2_.toNat) ∧ (S0_.2.2.1 14 (0 + ii_) a2_.toNat) ≤ 60 from ⟨by omega, by omega⟩)
  have hFx4_ : ai_fr (sx_W vw_29) S0_ (sm_aI S0_ 14 (0 + ii_) a1_.toNat (S0_.2.2.1 14 (0 + ii_) a2_.toNat)) := ai_fr_tr hF_ (ai_fr_aI rfl)
  have hCx5_ : cdf ii_ S0_ (sm_aI S0_ 14 (0 + ii_) a1_.toNat (S0_.2.2.1 14 (0 + ii_) a2_.toNat)) := cdf_aI hC_ (Or.inr (by rw [show cof 14 = 0 from rfl] <;> omega))
  refine sm_T_go 4 (c1 := (25, [some (.inr (.inr (some (0, ii_)))), some (.inl a1_), some (.inl a2_), some (.inl (S0_.2.2.1 14 (0 + ii_) a1_.toNat)), none], [.inl (S0_.2.2.1 14 (0 + ii_) a1_.toNat), .inl a2_, .inr (.inr (some (14, (0 + ii_))))], sm_aI S0_ 14 (0 + ii_) a1_.toNat (S0_.2.2.1 14 (0 + ii_) a2_.toNat))) rfl ?_
  refine sm_T_iast (n := 156) rfl rfl (by omega) (by omega) ?_
  have hIx6_ : gi (sm_aI (sm_aI S0_ 14 (0 + ii_) a1_.toNat (S0_.2.2.1 14 (0 + ii_) a2_.toNat)) 14 (0 + ii_) a2_.toNat (S0_.2.2.1 14 (0 + ii_) a1_.toNat)) := gi_aI hIx3_ (show 0 ≤ (S0_.2.2.1 14 (0 + ii_) a1_.toNat) ∧ (S0_.2.2.1 14 (0 + ii_) a1_.toNat) ≤ 60 from ⟨by omega, by omega⟩)
  have hFx7_ : ai_fr (sx_W vw_29) S0_ (sm_aI (sm_aI S0_ 14 (0 + ii_) a1_.toNat (S0_.2.2.1 14 (0 + ii_) a2_.toNat)) 14 (0 + ii_) a2_.toNat (S0_.2.2.1 14 (0 + ii_) a1_.toNat)) := ai_fr_tr hFx4_ (ai_fr_aI rfl)
  have hCx8_ : cdf ii_ S0_ (sm_aI (sm_aI S0_ 14 (0 + ii_) a1_.toNat (S0_.2.2.1 14 (0 + ii_) a2_.toNat)) 14 (0 + ii_) a2_.toNat (S0_.2.2.1 14 (0 + ii_) a1_.toNat)) := cdf_aI hCx5_ (Or.inr (by rw [show cof 14 = 0 from rfl] <;> omega))
  refine sm_T_go 3 (c1 := (31, [some (.inr (.inr (some (0, ii_)))), some (.inl a1_), some (.inl a2_), some (.inl (S0_.2.2.1 14 (0 + ii_) a1_.toNat)), none], [.inl a1_, .inr (.inr (some (15, (0 + ii_))))], sm_aI (sm_aI S0_ 14 (0 + ii_) a1_.toNat (S0_.2.2.1 14 (0 + ii_) a2_.toNat)) 14 (0 + ii_) a2_.toNat (S0_.2.2.1 14 (0 + ii_) a1_.toNat))) rfl ?_
  refine sm_T_iald (n := 156) rfl rfl (by omega) (by omega) ?_
  have bx9_ : 0 ≤ S0_.2.2.1 15 (0 + ii_) a1_.toNat ∧ S0_.2.2.1 15 (0 + ii_) a1_.toNat ≤ 12 := hI_.2 15 (0 + ii_) _
  refine sm_T_go 7 (c1 := (44, [some (.inr (.inr (some (0, ii_)))), some (.inl a1_), some (.inl a2_), some (.inl (S0_.2.2.1 14 (0 + ii_) a1_.toNat)), some (.inl (S0_.2.2.1 15 (0 + ii_) a1_.toNat))], [.inl a2_, .inr (.inr (some (15, (0 + ii_)))), .inl a1_, .inr (.inr (some (15, (0 + ii_))))], sm_aI (sm_aI S0_ 14 (0 + ii_) a1_.toNat (S0_.2.2.1 14 (0 + ii_) a2_.toNat)) 14 (0 + ii_) a2_.toNat (S0_.2.2.1 14 (0 + ii_) a1_.toNat))) rfl ?_
  refine sm_T_iald (n := 156) rfl rfl (by omega) (by omega) ?_
  have bx10_ : 0 ≤ S0_.2.2.1 15 (0 + ii_) a2_.toNat ∧ S0_.2.2.1 15 (0 + ii_) a2_.toNat ≤ 12 := hI_.2 15 (0 + ii_) _
  refine sm_T_go 0 (c1 := (45, [some (.inr (.inr (some (0, ii_)))), some (.inl a1_), some (.inl a2_), some (.inl (S0_.2.2.1 14 (0 + ii_) a1_.toNat)), some (.inl (S0_.2.2.1 15 (0 + ii_) a1_.toNat))], [.inl (S0_.2.2.1 15 (0 + ii_) a2_.toNat), .inl a1_, .inr (.inr (some (15, (0 + ii_))))], sm_aI (sm_aI S0_ 14 (0 + ii_) a1_.toNat (S0_.2.2.1 14 (0 + ii_) a2_.toNat)) 14 (0 + ii_) a2_.toNat (S0_.2.2.1 14 (0 + ii_) a1_.toNat))) rfl ?_
  refine sm_T_iast (n := 156) rfl rfl (by omega) (by omega) ?_
  have hIx11_ : gi (sm_aI (sm_aI (sm_aI S0_ 14 (0 + ii_) a1_.toNat (S0_.2.2.1 14 (0 + ii_) a2_.toNat)) 14 (0 + ii_) a2_.toNat (S0_.2.2.1 14 (0 + ii_) a1_.toNat)) 15 (0 + ii_) a1_.toNat (S0_.2.2.1 15 (0 + ii_) a2_.toNat)) := gi_aI hIx6_ (show 0 ≤ (S0_.2.2.1 15 (0 + ii_) a2_.toNat) ∧ (S0_.2.2.1 15 (0 + ii_) a2_.toNat) ≤ 12 from ⟨by omega, by omega⟩)
  have hFx12_ : ai_fr (sx_W vw_29) S0_ (sm_aI (sm_aI (sm_aI S0_ 14 (0 + ii_) a1_.toNat (S0_.2.2.1 14 (0 + ii_) a2_.toNat)) 14 (0 + ii_) a2_.toNat (S0_.2.2.1 14 (0 + ii_) a1_.toNat)) 15 (0 + ii_) a1_.toNat (S0_.2.2.1 15 (0 + ii_) a2_.toNat)) := ai_fr_tr hFx7_ (ai_fr_aI rfl)
  have hCx13_ : cdf ii_ S0_ (sm_aI (sm_aI (sm_aI S0_ 14 (0 + ii_) a1_.toNat (S0_.2.2.1 14 (0 + ii_) a2_.toNat)) 14 (0 + ii_) a2_.toNat (S0_.2.2.1 14 (0 + ii_) a1_.toNat)) 15 (0 + ii_) a1_.toNat (S0_.2.2.1 15 (0 + ii_) a2_.toNat)) := cdf_aI hCx8_ (Or.inr (by rw [show cof 15 = 0 from rfl] <;> omega))
  refine sm_T_go 4 (c1 := (53, [some (.inr (.inr (some (0, ii_)))), some (.inl a1_), some (.inl a2_), some (.inl (S0_.2.2.1 14 (0 + ii_) a1_.toNat)), some (.inl (S0_.2.2.1 15 (0 + ii_) a1_.toNat))], [.inl (S0_.2.2.1 15 (0 + ii_) a1_.toNat), .inl a2_, .inr (.inr (some (15, (0 + ii_))))], sm_aI (sm_aI (sm_aI S0_ 14 (0 + ii_) a1_.toNat (S0_.2.2.1 14 (0 + ii_) a2_.toNat)) 14 (0 + ii_) a2_.toNat (S0_.2.2.1 14 (0 + ii_) a1_.toNat)) 15 (0 + ii_) a1_.toNat (S0_.2.2.1 15 (0 + ii_) a2_.toNat))) rfl ?_
  refine sm_T_iast (n := 156) rfl rfl (by omega) (by omega) ?_
  have hIx14_ : gi (sm_aI (sm_aI (sm_aI (sm_aI S0_ 14 (0 + ii_) a1_.toNat (S0_.2.2.1 14 (0 + ii_) a2_.toNat)) 14 (0 + ii_) a2_.toNat (S0_.2.2.1 14 (0 + ii_) a1_.toNat)) 15 (0 + ii_) a1_.toNat (S0_.2.2.1 15 (0 + ii_) a2_.toNat)) 15 (0 + ii_) a2_.toNat (S0_.2.2.1 15 (0 + ii_) a1_.toNat)) := gi_aI hIx11_ (show 0 ≤ (S0_.2.2.1 15 (0 + ii_) a1_.toNat) ∧ (S0_.2.2.1 15 (0 + ii_) a1_.toNat) ≤ 12 from ⟨by omega, by omega⟩)
  have hFx15_ : ai_fr (sx_W vw_29) S0_ (sm_aI (sm_aI (sm_aI (sm_aI S0_ 14 (0 + ii_) a1_.toNat (S0_.2.2.1 14 (0 + ii_) a2_.toNat)) 14 (0 + ii_) a2_.toNat (S0_.2.2.1 14 (0 + ii_) a1_.toNat)) 15 (0 + ii_) a1_.toNat (S0_.2.2.1 15 (0 + ii_) a2_.toNat)) 15 (0 + ii_) a2_.toNat (S0_.2.2.1 15 (0 + ii_) a1_.toNat)) := ai_fr_tr hFx12_ (ai_fr_aI rfl)
  have hCx16_ : cdf ii_ S0_ (sm_aI (sm_aI (sm_aI (sm_aI S0_ 14 (0 + ii_) a1_.toNat (S0_.2.2.1 14 (0 + ii_) a2_.toNat)) 14 (0 + ii_) a2_.toNat (S0_.2.2.1 14 (0 + ii_) a1_.toNat)) 15 (0 + ii_) a1_.toNat (S0_.2.2.1 15 (0 + ii_) a2_.toNat)) 15 (0 + ii_) a2_.toNat (S0_.2.2.1 15 (0 + ii_) a1_.toNat)) := cdf_aI hCx13_ (Or.inr (by rw [show cof 15 = 0 from rfl] <;> omega))
  refine sm_T_rv rfl ⟨_, _, rfl, rfl, hIx14_, hFx15_, ?_⟩
  refine ⟨hCx16_, ?_⟩
  intro e_
  constructor
  · rw [rd_ne (by decide), rd_ne (by decide), rd_eq, rd_eq]
  · rw [rd_eq, rd_eq]; simp only [rd_ne, ne_eq, Nat.reduceEqDiff, not_false_eq_true]
end
/-! 99.zk0 -/
section
/-! points and their neighbours -/
def nb (w L p d : Int) : Int := if p < L then (if d = 0 then (if 0 < p % w then p - 1 else -1) else if d = 1 then (if p % w < w - 1 then p + 1 else -1) else if d = 2 ∨ d = 3 then -1 else p + L) else (if d = 0 ∨ d = 1 then -1 else if d = 2 then (if w ≤ p - L then p - w else -1) else if d = 3 then (if p - L < L - w then p + w else -1) else p - L)
theorem em_up {p w : Int} (hw : 0 < w) (h : p % w < w - 1) : (p + 1) % w = p % w + 1 := by
  have e := Int.mul_ediv_add_emod p w
  have q := Int.emod_nonneg p (show w ≠ 0 by omega)
  have z : p + 1 = (p % w + 1) + w * (p / w) := by omega
  rw [z, Int.add_mul_emod_self_left, Int.emod_eq_of_lt (by omega) (by omega)]
theorem em_dn {p w : Int} (hw : 0 < w) (h : 0 < p % w) : (p - 1) % w = p % w - 1 := by
  have e := Int.mul_ediv_add_emod p w
  have q := Int.emod_lt_of_pos p hw
  have z : p - 1 = (p % w - 1) + w * (p / w) := by omega
  rw [z, Int.add_mul_emod_self_left, Int.emod_eq_of_lt (by omega) (by omega)]
theorem nb_0 {w L p : Int} (hp : p < L) (h : 0 < p % w) : nb w L p 0 = p - 1 := by
  unfold nb; rw [if_pos hp, if_pos rfl, if_pos h]
theorem nb_1 {w L p : Int} (hp : p < L) (h : p % w < w - 1) : nb w L p 1 = p + 1 := by
  unfold nb; rw [if_pos hp, if_neg (by decide), if_pos rfl, if_pos h]
theorem nb_4 {w L p : Int} (hp : p < L) : nb w L p 4 = p + L := by
  unfold nb; rw [if_pos hp, if_neg (by decide), if_neg (by decide), if_neg (by decide)]
theorem nb_2 {w L p : Int} (hp : L ≤ p) (h : w ≤ p - L) : nb w L p 2 = p - w := by
  unfold nb; rw [if_neg (by omega), if_neg (by decide), if_pos rfl, if_pos h]
theorem nb_3 {w L p : Int} (hp : L ≤ p) (h : p - L < L - w) : nb w L p 3 = p + w := by
  unfold nb; rw [if_neg (by omega), if_neg (by decide), if_neg (by decide), if_pos rfl, if_pos h]
theorem nb_5 {w L p : Int} (hp : L ≤ p) : nb w L p 4 = p - L := by
  unfold nb; rw [if_neg (by omega), if_neg (by decide), if_neg (by decide), if_neg (by decide)]
theorem em_p {p w : Int} (hp : 0 ≤ p) (h : 0 < p % w) : 1 ≤ p := by
  by_cases z : p = 0
  · rw [z, Int.zero_emod] at h
    exact absurd h (by decide)
  · omega
/-- a neighbour is a point -/
theorem nb_r {w L p d : Int} (hw : 0 < w) (hL : 0 < L) (hp : 0 ≤ p ∧ p < 2 * L) : nb w L p d = -1 ∨ (0 ≤ nb w L p d ∧ nb w L p d < 2 * L) := by
  unfold nb
  by_cases a : p < L
  · rw [if_pos a]
    by_cases b : d = 0
    · rw [if_pos b]
      by_cases c : 0 < p % w
      · rw [if_pos c]
        have := em_p hp.1 c
        right; omega
      · rw [if_neg c]; left; rfl
    · rw [if_neg b]
      by_cases e : d = 1
      · rw [if_pos e]
        split
        · right; omega
        · left; rfl
      · rw [if_neg e]
        split
        · left; rfl
        · right; omega
  · rw [if_neg a]
    by_cases b : d = 0 ∨ d = 1
    · rw [if_pos b]; left; rfl
    · rw [if_neg b]
      by_cases e : d = 2
      · rw [if_pos e]
        split
        · right; omega
        · left; rfl
      · rw [if_neg e]
        by_cases g : d = 3
        · rw [if_pos g]
          split
          · right; omega
          · left; rfl
        · rw [if_neg g]; right; omega
/-- the ways back -/
theorem nb_b0 {w L p : Int} (hw : 0 < w) (hp : p < L) (h : 0 < p % w) : nb w L (p - 1) 1 = p := by
  have q := Int.emod_lt_of_pos p hw
  rw [nb_1 (by omega) (by rw [em_dn hw h]; omega)]
  omega
theorem nb_b1 {w L p k : Int} (hw : 0 < w) (hp : p < L) (hk : L = k * w) (h : p % w < w - 1) : p + 1 < L ∧ nb w L (p + 1) 0 = p := by
  have q := Int.emod_nonneg p (show w ≠ 0 by omega)
  have e := em_up hw h
  have l : p + 1 < L := by
    by_cases z : p + 1 = L
    · rw [z, hk, Int.mul_emod_left] at e
      omega
    · omega
  refine ⟨l, ?_⟩
  rw [nb_0 l (by omega)]
  omega
def prc (o : Nat → Int) (t : Int) (p : Nat) : Int := if o p = -1 ∨ o p = t then 1 else 11
theorem prc_p (o : Nat → Int) (t : Int) (p : Nat) : 1 ≤ prc o t p := by
  unfold prc
  split <;> decide
/-- what has spread: distances f from the points of net t (owners o), rows nr, fr of points -/
def rsf (w L t : Int) (o f nr fr : Nat → Int) (nt ft : Int) : Prop :=
  (∀ p : Nat, (p : Int) < 2 * L → (f p = 0 ↔ o p = t)) ∧
  (∀ p : Nat, (p : Int) < 2 * L → 0 < f p → prc o t p ≤ f p ∧ ∃ d, (0 ≤ d ∧ d < 5) ∧ (0 ≤ nb w L p d ∧ nb w L p d < 2 * L) ∧ f (nb w L p d).toNat = f p - prc o t p) ∧
  nt + ft + (cne f (-1) (2 * L).toNat : Int) = 2 * L ∧
  (∀ i : Nat, (i : Int) < nt → (0 ≤ nr i ∧ nr i < 2 * L) ∧ 0 ≤ f (nr i).toNat) ∧
  (∀ i : Nat, (i : Int) < ft → (0 ≤ fr i ∧ fr i < 2 * L) ∧ 0 ≤ f (fr i).toNat) ∧
  ∀ p : Nat, (p : Int) < 2 * L → -1 ≤ f p ∧ f p ≤ 11 * (nt + ft)
theorem rsf_a {w L t q s b nt ft nt' ft' : Int} {o f nr fr f' nr' fr' : Nat → Int} (h : rsf w L t o f nr fr nt ft) (ht : 0 ≤ t) (hq : 0 ≤ q ∧ q < 2 * L) (hs : 0 ≤ s ∧ s < 2 * L) (hf : f q.toNat = -1) (hb : f s.toNat = b) (hb0 : 0 ≤ b) (hn : ∃ d, (0 ≤ d ∧ d < 5) ∧ nb w L q d = s) (hf' : ∀ k, f' k = if k = q.toNat then b + prc o t q.toNat else f k) (hx : nt' + ft' = nt + ft + 1)
    (h1 : ∀ i : Nat, (i : Int) < nt' → nr' i = q ∨ ((i : Int) < nt ∧ nr' i = nr i)) (h2 : ∀ i : Nat, (i : Int) < ft' → fr' i = q ∨ ((i : Int) < ft ∧ fr' i = fr i)) : rsf w L t o f' nr' fr' nt' ft' := by
  obtain ⟨A, B, C, D, E, G⟩ := h
  have pq := prc_p o t q.toNat
  have pq' : prc o t q.toNat ≤ 11 := by unfold prc; split <;> decide
  have fq : f' q.toNat = b + prc o t q.toNat := by rw [hf', if_pos rfl]
  have fo : ∀ k, f k ≠ -1 → f' k = f k := fun k hk => by
    rw [hf', if_neg (fun z => hk (by rw [z]; exact hf))]
  refine ⟨fun p hp => ?_, fun p hp h0 => ?_, ?_, fun i hi => ?_, fun i hi => ?_, fun p hp => ?_⟩
  · by_cases z : p = q.toNat
    · rw [z, fq, ← A q.toNat (by omega), hf]
      constructor
      · intro y; omega
      · intro y; omega
    · rw [hf', if_neg z]
      exact A p hp
  · by_cases z : p = q.toNat
    · rw [z, fq]
      refine ⟨by omega, ?_⟩
      obtain ⟨d, hd, e⟩ := hn
      refine ⟨d, hd, ?_⟩
      rw [show ((q.toNat : Nat) : Int) = q by omega, e]
      refine ⟨hs, ?_⟩
      rw [fo _ (by rw [hb]; omega), hb]
      omega
    · rw [hf', if_neg z] at h0 ⊢
      obtain ⟨x, d, hd, y, e⟩ := B p hp h0
      refine ⟨x, d, hd, y, ?_⟩
      rw [fo _ (by rw [e]; omega), e]
  · have u := cne_up (f := f') (g := f) (c := -1) (j := q.toNat) (by rw [fq]; omega) hf (fun k hk => by rw [hf', if_neg hk]) (n := (2 * L).toNat) (by omega)
    rw [u] at C
    push_cast at C
    omega
  · rcases h1 i hi with z | ⟨z, y⟩
    · rw [z, fq]; omega
    · have x := D i z
      rw [y, fo _ (by omega)]
      exact x
  · rcases h2 i hi with z | ⟨z, y⟩
    · rw [z, fq]; omega
    · have x := E i z
      rw [y, fo _ (by omega)]
      exact x
  · have g := G p hp
    rw [hf']
    split
    · have g2 := G s.toNat (by omega)
      rw [hb] at g2
      omega
    · omega
/-- points nearer than d -/
def cnd (f : Nat → Int) (d : Int) : Nat → Nat
  | 0 => 0
  | n + 1 => cnd f d n + if 0 ≤ f n ∧ f n < d then 1 else 0
theorem cnd_le (f : Nat → Int) (d : Int) : ∀ n, cnd f d n ≤ n
  | 0 => Nat.le_refl _
  | n + 1 => by
    have := cnd_le f d n
    show cnd f d n + _ ≤ _
    split <;> omega
theorem cnd_mo {f : Nat → Int} {d e : Int} (h : d ≤ e) : ∀ n, cnd f d n ≤ cnd f e n
  | 0 => Nat.le_refl _
  | n + 1 => by
    have := cnd_mo (f := f) h n
    show cnd f d n + _ ≤ cnd f e n + _
    by_cases a : 0 ≤ f n ∧ f n < d
    · rw [if_pos a, if_pos (by omega)]; omega
    · rw [if_neg a]; omega
theorem cnd_lt {f : Nat → Int} {d e : Int} {j : Nat} (h : d ≤ e) (h0 : 0 ≤ f j) (h1 : d ≤ f j) (h2 : f j < e) : ∀ {n : Nat}, j < n → cnd f d n < cnd f e n
  | 0, hj => absurd hj (Nat.not_lt_zero _)
  | n + 1, hj => by
    show cnd f d n + _ < cnd f e n + _
    by_cases z : j = n
    · subst z
      have := cnd_mo (f := f) h j
      rw [if_neg (by omega), if_pos ⟨h0, h2⟩]; omega
    · have := cnd_lt h h0 h1 h2 (n := n) (by omega)
      by_cases a : 0 ≤ f n ∧ f n < d
      · rw [if_pos a, if_pos (by omega)]; omega
      · rw [if_neg a]; omega
/-- a row and its rest -/
theorem cne_cp {f g : Nat → Int} {c d : Int} : ∀ {n : Nat}, (∀ k, k < n → (f k = c ↔ ¬ g k = d)) → cne f c n + cne g d n = n
  | 0, _ => rfl
  | n + 1, h => by
    have u := cne_cp (f := f) (g := g) (c := c) (d := d) (n := n) (fun k hk => h k (by omega))
    have v := h n (by omega)
    rw [cne_s, cne_s]
    by_cases z : g n = d
    · rw [if_pos z, if_neg (fun y => v.mp y z)]; omega
    · rw [if_neg z, if_pos (v.mpr z)]; omega
end
/-! 99.zkaa -/
section
/-! boards placed; written by wip/p55/gen/vg -/
/-! Board.placeAll -/
def vw_20 : sx_Wl := ([(0, 0), (0, 1), (0, 2), (0, 11), (0, 16), (4, 0)], [14, 15, 21], [])
def vq_20 (a2_ : Int) (ii_ : Nat) (cc_ : Nat) (S0_ : sm_S) (u_ : Option sm_V) (S1_ : sm_S) : Prop := ∃ v_ : Int, u_ = some (.inl v_) ∧ gi S1_ ∧ ai_fr (sx_W vw_20) S0_ S1_ ∧ (cdf ii_ S0_ S1_ ∧ ((-1 ≤ v_ ∧ v_ ≤ 12) ∧ bpl ii_ cc_ S1_ ∧ (S1_ = S0_ ∨ (S1_.1 0 ii_ 11 = 0 ∧ S1_.1 4 (0 + ii_) 0 = 0))))
set_option maxHeartbeats 400000 in
theorem vc_20 {sc_ : Nat × (Nat → Int)} (a2_ : Int) (ii_ : Nat) (cc_ : Nat) (S0_ : sm_S) (hI_ : gi S0_) (h1_ : 4 ≤ a2_ ∧ a2_ ≤ 60) (hb_ : bpn ii_ S0_) (hs_ : S0_.1 2 cc_ 1 + S0_.1 2 cc_ 2 ≤ 12) (hp_ : bpl ii_ cc_ S0_) : sm_T (mt_P sc_) 3 20 (0, [some (.inr (.inr (some (0, ii_)))), some (.inr (.inr (some (2, cc_)))), some (.inl a2_), none], [], S0_) (fun ro9_ => ∃ u_ S1_, ro9_ = (.inl u_, S1_, 0) ∧ vq_20 a2_ ii_ cc_ S0_ u_ S1_) := by
  have hF_ : ai_fr (sx_W vw_20) S0_ S0_ := ai_fr_rf
  have hC_ : cdf ii_ S0_ S0_ := cdf_rf
  have lb9_ := lo9_b (f_ := (S0_.2.2.1 16 (0 + ii_))) (w_ := a2_) (fun k_ => hI_.2 16 (0 + ii_) k_) h1_.1 (S0_.1 2 cc_ 2 + S0_.1 2 cc_ 8).toNat
  refine sm_T_go 4 (c1 := (4, [some (.inr (.inr (some (0, ii_)))), some (.inr (.inr (some (2, cc_)))), some (.inl a2_), none], [.inl 0, .inl a2_, .inr (.inr (some (2, cc_))), .inr (.inr (some (0, ii_)))], S0_)) rfl ?_
  refine sm_T_cal (d1 := 1) (Q1 := vq_21 a2_ 0 ii_ cc_ S0_) rfl rfl (by decide) (vc_21 a2_ 0 ii_ cc_ S0_ hI_ (by exact hI_) (by omega) (by decide) (by (intro u_; exact absurd rfl u_))) (fun u_ Sx1_ px4_ => ?_)
  obtain ⟨vx6_, rfl, hIx2_, hFx3_, px4_⟩ := px4_
  have hFx5_ : ai_fr (sx_W vw_20) S0_ Sx1_ := ai_fr_tr hF_ (fr_le hFx3_ rfl)
  obtain ⟨dx8_, px4_⟩ := px4_
  have hCx7_ : cdf ii_ S0_ Sx1_ := cdf_tr hC_ (cdf_cg (by omega) dx8_)
  have p4_ := px4_.1
  have p4z := px4_.2.1 rfl
  have p4e : (Sx1_.2.2.1 16 (0 + ii_)) = (S0_.2.2.1 16 (0 + ii_)) := by rw [p4z]
  refine sm_T_go 3 (c1 := (11, [some (.inr (.inr (some (0, ii_)))), some (.inr (.inr (some (2, cc_)))), some (.inl a2_), some (.inl vx6_)], [.inl 12, .inl vx6_], Sx1_)) rfl ?_
  refine sm_T_br (a := 5) (z := 5) rfl (fun cx9_ => ?_) (fun cx9_ => ?_)
  · have cx9_ : vx6_ ≤ 12 := of_decide_eq_true cx9_
    refine sm_T_go 4 (c1 := (20, [some (.inr (.inr (some (0, ii_)))), some (.inr (.inr (some (2, cc_)))), some (.inl a2_), some (.inl vx6_)], [.inl 1, .inl a2_, .inr (.inr (some (2, cc_))), .inr (.inr (some (0, ii_)))], Sx1_)) rfl ?_
    refine sm_T_cal (d1 := 1) (Q1 := vq_21 a2_ 1 ii_ cc_ Sx1_) rfl rfl (by decide) (vc_21 a2_ 1 ii_ cc_ Sx1_ hIx2_ (by exact hIx2_) (by omega) (by decide) (by (intro u_; rw [p4z]; omega))) (fun u_ Sx10_ px13_ => ?_)
    obtain ⟨vx15_, rfl, hIx11_, hFx12_, px13_⟩ := px13_
    have hFx14_ : ai_fr (sx_W vw_20) S0_ Sx10_ := ai_fr_tr hFx5_ (fr_le hFx12_ rfl)
    obtain ⟨dx17_, px13_⟩ := px13_
    have hCx16_ : cdf ii_ S0_ Sx10_ := cdf_tr hCx7_ (cdf_cg (by omega) dx17_)
    have p20_ := px13_.1
    have p20j := px13_.2.2 (by decide)
    have s20_ := hFx12_.2.2 16 rfl (0 + ii_)
    have i1_ := hFx12_.1 2 cc_ 1 rfl
    have i2_ := hFx12_.1 2 cc_ 2 rfl
    have i3_ := hFx12_.1 2 cc_ 3 rfl
    have i8_ := hFx12_.1 2 cc_ 8 rfl
    rw [p4z] at p20_ p20j s20_ i1_ i2_ i3_ i8_
    have hIx18_ : gi (sm_pI Sx10_ 0 ii_ 0 a2_) := gi_pI hIx11_ (show 0 ≤ a2_ ∧ a2_ ≤ 60 from ⟨by omega, by omega⟩)
    have hFx19_ : ai_fr (sx_W vw_20) S0_ (sm_pI Sx10_ 0 ii_ 0 a2_) := ai_fr_tr hFx14_ (ai_fr_pI rfl)
    have hCx20_ : cdf ii_ S0_ (sm_pI Sx10_ 0 ii_ 0 a2_) := cdf_pI hCx16_ (Or.inr (by rw [show cof 0 = 0 from rfl] <;> omega))
    have hIx21_ : gi (sm_pI (sm_pI Sx10_ 0 ii_ 0 a2_) 0 ii_ 1 vx6_) := gi_pI hIx18_ (show 0 ≤ vx6_ ∧ vx6_ ≤ 12 from ⟨by omega, by omega⟩)
    have hFx22_ : ai_fr (sx_W vw_20) S0_ (sm_pI (sm_pI Sx10_ 0 ii_ 0 a2_) 0 ii_ 1 vx6_) := ai_fr_tr hFx19_ (ai_fr_pI rfl)
    have hCx23_ : cdf ii_ S0_ (sm_pI (sm_pI Sx10_ 0 ii_ 0 a2_) 0 ii_ 1 vx6_) := cdf_pI hCx20_ (Or.inr (by rw [show cof 0 = 0 from rfl] <;> omega))
    have ex24_ : (sm_pI (sm_pI Sx10_ 0 ii_ 0 a2_) 0 ii_ 1 vx6_).1 0 ii_ 1 = vx6_ := by (try simp only [rf_eq, rf_nk, rf_nt, rd_fa, rd_af, ne_eq, Nat.reduceEqDiff, not_false_eq_true])
    refine sm_T_go 11 (c1 := (40, [some (.inr (.inr (some (0, ii_)))), some (.inr (.inr (some (2, cc_)))), some (.inl a2_), some (.inl vx6_)], [.inl ((sm_pI (sm_pI Sx10_ 0 ii_ 0 a2_) 0 ii_ 1 vx6_).1 0 ii_ 1), .inl 3, .inr (.inr (some (0, ii_)))], sm_pI (sm_pI Sx10_ 0 ii_ 0 a2_) 0 ii_ 1 vx6_)) rfl ?_
    refine sm_T_bin (w := 3 * ((sm_pI (sm_pI Sx10_ 0 ii_ 0 a2_) 0 ii_ 1 vx6_).1 0 ii_ 1)) rfl (bi_mul (by omega) (by omega) (by omega)) ?_ -- pc_ 40
    refine sm_T_go 1 (c1 := (42, [some (.inr (.inr (some (0, ii_)))), some (.inr (.inr (some (2, cc_)))), some (.inl a2_), some (.inl vx6_)], [.inl 2, .inl (3 * ((sm_pI (sm_pI Sx10_ 0 ii_ 0 a2_) 0 ii_ 1 vx6_).1 0 ii_ 1)), .inr (.inr (some (0, ii_)))], sm_pI (sm_pI Sx10_ 0 ii_ 0 a2_) 0 ii_ 1 vx6_)) rfl ?_
    refine sm_T_bin (w := 3 * ((sm_pI (sm_pI Sx10_ 0 ii_ 0 a2_) 0 ii_ 1 vx6_).1 0 ii_ 1) + 2) rfl (bi_add (by omega) (by omega) (by omega)) ?_ -- pc_ 42
    have bx25_ : 0 ≤ Sx10_.1 2 cc_ 1 ∧ Sx10_.1 2 cc_ 1 ≤ 12 := hIx11_.1 2 cc_ 1 rfl
    have bx26_ : 0 ≤ Sx10_.1 2 cc_ 3 ∧ Sx10_.1 2 cc_ 3 ≤ 16 := hIx11_.1 2 cc_ 3 rfl
    refine sm_T_go 4 (c1 := (51, [some (.inr (.inr (some (0, ii_)))), some (.inr (.inr (some (2, cc_)))), some (.inl a2_), some (.inl vx6_)], [.inl (Sx10_.1 2 cc_ 3), .inl (Sx10_.1 2 cc_ 1), .inl (3 * ((sm_pI (sm_pI Sx10_ 0 ii_ 0 a2_) 0 ii_ 1 vx6_).1 0 ii_ 1) + 2), .inr (.inr (some (0, ii_)))], sm_pI (sm_pI Sx10_ 0 ii_ 0 a2_) 0 ii_ 1 vx6_)) rfl ?_
    refine sm_T_nt (u := some (.inl (sm_mx (Sx10_.1 2 cc_ 1) (Sx10_.1 2 cc_ 3)))) (S1 := sm_pI (sm_pI Sx10_ 0 ii_ 0 a2_) 0 ii_ 1 vx6_) rfl rfl rfl ?_
    have bx27_ := sm_mx_d (Sx10_.1 2 cc_ 1) (Sx10_.1 2 cc_ 3)
    refine sm_T_nt (u := some (.inl (sm_mx (3 * ((sm_pI (sm_pI Sx10_ 0 ii_ 0 a2_) 0 ii_ 1 vx6_).1 0 ii_ 1) + 2) (sm_mx (Sx10_.1 2 cc_ 1) (Sx10_.1 2 cc_ 3))))) (S1 := sm_pI (sm_pI Sx10_ 0 ii_ 0 a2_) 0 ii_ 1 vx6_) rfl rfl rfl ?_
    have bx28_ := sm_mx_d (3 * ((sm_pI (sm_pI Sx10_ 0 ii_ 0 a2_) 0 ii_ 1 vx6_).1 0 ii_ 1) + 2) (sm_mx (Sx10_.1 2 cc_ 1) (Sx10_.1 2 cc_ 3))
    have hIx29_ : gi (sm_pI (sm_pI (sm_pI Sx10_ 0 ii_ 0 a2_) 0 ii_ 1 vx6_) 0 ii_ 2 (sm_mx (3 * ((sm_pI (sm_pI Sx10_ 0 ii_ 0 a2_) 0 ii_ 1 vx6_).1 0 ii_ 1) + 2) (sm_mx (Sx10_.1 2 cc_ 1) (Sx10_.1 2 cc_ 3)))) := gi_pI hIx21_ (show 0 ≤ (sm_mx (3 * ((sm_pI (sm_pI Sx10_ 0 ii_ 0 a2_) 0 ii_ 1 vx6_).1 0 ii_ 1) + 2) (sm_mx (Sx10_.1 2 cc_ 1) (Sx10_.1 2 cc_ 3))) ∧ (sm_mx (3 * ((sm_pI (sm_pI Sx10_ 0 ii_ 0 a2_) 0 ii_ 1 vx6_).1 0 ii_ 1) + 2) (sm_mx (Sx10_.1 2 cc_ 1) (Sx10_.1 2 cc_ 3))) ≤ 38 from ⟨by omega, by omega⟩)
    have hFx30_ : ai_fr (sx_W vw_20) S0_ (sm_pI (sm_pI (sm_pI Sx10_ 0 ii_ 0 a2_) 0 ii_ 1 vx6_) 0 ii_ 2 (sm_mx (3 * ((sm_pI (sm_pI Sx10_ 0 ii_ 0 a2_) 0 ii_ 1 vx6_).1 0 ii_ 1) + 2) (sm_mx (Sx10_.1 2 cc_ 1) (Sx10_.1 2 cc_ 3)))) := ai_fr_tr hFx22_ (ai_fr_pI rfl)
    have hCx31_ : cdf ii_ S0_ (sm_pI (sm_pI (sm_pI Sx10_ 0 ii_ 0 a2_) 0 ii_ 1 vx6_) 0 ii_ 2 (sm_mx (3 * ((sm_pI (sm_pI Sx10_ 0 ii_ 0 a2_) 0 ii_ 1 vx6_).1 0 ii_ 1) + 2) (sm_mx (Sx10_.1 2 cc_ 1) (Sx10_.1 2 cc_ 3)))) := cdf_pI hCx23_ (Or.inr (by rw [show cof 0 = 0 from rfl] <;> omega))
    refine sm_T_go 3 (c1 := (62, [some (.inr (.inr (some (0, ii_)))), some (.inr (.inr (some (2, cc_)))), some (.inl a2_), some (.inl vx6_)], [.inr (.inr (some (2, cc_))), .inr (.inr (some (0, ii_)))], sm_pI (sm_pI (sm_pI Sx10_ 0 ii_ 0 a2_) 0 ii_ 1 vx6_) 0 ii_ 2 (sm_mx (3 * ((sm_pI (sm_pI Sx10_ 0 ii_ 0 a2_) 0 ii_ 1 vx6_).1 0 ii_ 1) + 2) (sm_mx (Sx10_.1 2 cc_ 1) (Sx10_.1 2 cc_ 3))))) rfl ?_
    refine sm_T_cal (d1 := 2) (Q1 := vq_22 ii_ cc_ (sm_pI (sm_pI (sm_pI Sx10_ 0 ii_ 0 a2_) 0 ii_ 1 vx6_) 0 ii_ 2 (sm_mx (3 * ((sm_pI (sm_pI Sx10_ 0 ii_ 0 a2_) 0 ii_ 1 vx6_).1 0 ii_ 1) + 2) (sm_mx (Sx10_.1 2 cc_ 1) (Sx10_.1 2 cc_ 3))))) rfl rfl (by decide) (vc_22 ii_ cc_ (sm_pI (sm_pI (sm_pI Sx10_ 0 ii_ 0 a2_) 0 ii_ 1 vx6_) 0 ii_ 2 (sm_mx (3 * ((sm_pI (sm_pI Sx10_ 0 ii_ 0 a2_) 0 ii_ 1 vx6_).1 0 ii_ 1) + 2) (sm_mx (Sx10_.1 2 cc_ 1) (Sx10_.1 2 cc_ 3)))) hIx29_ (by exact bpn_fr hb_ hFx30_ rfl rfl rfl rfl) (by (simp only [rf_nt, rf_nk, ne_eq, Nat.reduceEqDiff, not_false_eq_true]; omega))) (fun u_ Sx32_ px35_ => ?_)
    obtain ⟨rfl, hIx33_, hFx34_, px35_⟩ := px35_
    have hFx36_ : ai_fr (sx_W vw_20) S0_ Sx32_ := ai_fr_tr hFx30_ (fr_le hFx34_ rfl)
    obtain ⟨dx38_, px35_⟩ := px35_
    have hCx37_ : cdf ii_ S0_ Sx32_ := cdf_tr hCx31_ (cdf_cg (by omega) dx38_)
    have m62_ := px35_
    have x0_ := hFx34_.1 0 ii_ 0 rfl
    have x1_ := hFx34_.1 0 ii_ 1 rfl
    have x2_ := hFx34_.1 0 ii_ 2 rfl
    have y1_ := hFx34_.1 2 cc_ 1 rfl
    have y2_ := hFx34_.1 2 cc_ 2 rfl
    have y3_ := hFx34_.1 2 cc_ 3 rfl
    have y8_ := hFx34_.1 2 cc_ 8 rfl
    simp only [rf_eq, rf_nt, rf_nk, ne_eq, Nat.reduceEqDiff, not_false_eq_true] at x0_ x1_ x2_ y1_ y2_ y3_ y8_ bx28_
    have z14_ := hFx34_.2.2 14 rfl (0 + ii_)
    have z15_ := hFx34_.2.2 15 rfl (0 + ii_)
    have z16_ := hFx34_.2.2 16 rfl (0 + ii_)
    have bx39_ : 0 ≤ Sx32_.1 0 ii_ 1 ∧ Sx32_.1 0 ii_ 1 ≤ 12 := hIx33_.1 0 ii_ 1 rfl
    refine sm_T_go 2 (c1 := (69, [some (.inr (.inr (some (0, ii_)))), some (.inr (.inr (some (2, cc_)))), some (.inl a2_), some (.inl vx6_)], [.inl (Sx32_.1 0 ii_ 1)], Sx32_)) rfl ?_
    refine sm_T_ri rfl ⟨_, _, rfl, _, rfl, hIx33_, hFx36_, ?_⟩
    refine ⟨hCx37_, ?_⟩
    refine ⟨by omega, ?_, Or.inr m62_⟩
    intro _
    rw [x0_, x1_, x2_, y1_, y2_, y3_, y8_]
    refine ⟨by omega, fun e_ he_ => ?_⟩
    have j9_ := p20j e_ (by omega)
    have k14_ := (z14_ e_).1
    have k15_ := (z15_ e_).1
    have k16_ := (z16_ e_).1
    simp only [rd_fa] at k14_ k15_ k16_
    have k20_ := (s20_ e_).1
    rw [k14_, k15_, k16_, k20_]
    omega
  · have cx9_ : ¬ (vx6_ ≤ 12) := of_decide_eq_false cx9_
    refine sm_T_go 1 (c1 := (15, [some (.inr (.inr (some (0, ii_)))), some (.inr (.inr (some (2, cc_)))), some (.inl a2_), some (.inl vx6_)], [.inl (-1)], Sx1_)) rfl ?_
    refine sm_T_ri rfl ⟨_, _, rfl, _, rfl, hIx2_, hFx5_, ?_⟩
    refine ⟨hCx7_, ?_⟩
    exact ⟨by omega, by rw [p4z]; exact hp_, Or.inl p4z⟩
end
/-! 99.zkab -/
section
/-! Board.moveOne -/
def vw_25 : sx_Wl := ([(0, 11), (0, 16), (4, 0)], [14, 15, 21], [])
def vq_25 (a2_ : Int) (a3_ : Int) (a4_ : Int) (ii_ : Nat) (cc_ : Nat) (S0_ : sm_S) (u_ : Option sm_V) (S1_ : sm_S) : Prop := ∃ v_ : Int, u_ = some (.inl v_) ∧ gi S1_ ∧ ai_fr (sx_W vw_25) S0_ S1_ ∧ (cdf ii_ S0_ S1_ ∧ ((0 ≤ v_ ∧ v_ ≤ 1) ∧ bpl ii_ cc_ S1_ ∧ (S1_ = S0_ ∨ (S1_.1 0 ii_ 11 = 0 ∧ S1_.1 4 (0 + ii_) 0 = 0))))
set_option maxHeartbeats 400000 in
theorem vl_25 {sc_ : Nat × (Nat → Int)} (a2_ : Int) (a3_ : Int) (a4_ : Int) (ii_ : Nat) (cc_ : Nat) (S0_ : sm_S) (h2_ : 0 ≤ a2_ ∧ a2_ < (S0_.1 2 cc_ 2 + S0_.1 2 cc_ 8)) (hb_ : bpn ii_ S0_) (hs_ : S0_.1 2 cc_ 1 + S0_.1 2 cc_ 2 ≤ 12) (hp_ : bpl ii_ cc_ S0_) (hr_ : 0 < S0_.1 0 ii_ 1) : ∀ nn_ : Nat, (∀ (sz_ : Int) (k_ : Int) (S_ : sm_S), gi S_ → ai_fr (sx_W vw_25) S0_ S_ → ((0 ≤ k_ ∧ k_ ≤ 156 ∧ 0 ≤ sz_ ∧ sz_ ≤ 4 ∧ 0 ≤ a3_ ∧ a3_ ≤ S0_.1 0 ii_ 0 - sz_ ∧ 0 ≤ a4_ ∧ a4_ < S0_.1 0 ii_ 1) ∧ (sz_ = S0_.2.2.1 16 (0 + ii_) a2_.toNat) ∧ (S_ = S0_) ∧ (cdf ii_ S0_ S_) ∧ True) → ((1000 - k_).toNat) < nn_ → sm_T (mt_P sc_) 3 25 (42, [some (.inr (.inr (some (0, ii_)))), some (.inr (.inr (some (2, cc_)))), some (.inl a2_), some (.inl a3_), some (.inl a4_), some (.inl sz_), some (.inl k_), none], [], S_) (fun ro9_ => ∃ u_ S1_, ro9_ = (.inl u_, S1_, 0) ∧ vq_25 a2_ a3_ a4_ ii_ cc_ S0_ u_ S1_)) := by
  intro nn_
  induction nn_ with
  | zero => exact fun _ _ _ _ _ _ h_ => absurd h_ (Nat.not_lt_zero _)
  | succ nn_ ih_ =>
    rintro sz_ k_ S_ hI_ hF_ ⟨h0_, hz_, hS_, hC_, -⟩ hm_
    have c2_ : 0 ≤ S_.1 2 cc_ 2 ∧ S_.1 2 cc_ 2 ≤ 6 := hI_.1 2 cc_ 2 rfl
    have c8_ : 0 ≤ S_.1 2 cc_ 8 ∧ S_.1 2 cc_ 8 ≤ 150 := hI_.1 2 cc_ 8 rfl
    have c0_ : 0 ≤ S_.1 0 ii_ 0 ∧ S_.1 0 ii_ 0 ≤ 60 := hI_.1 0 ii_ 0 rfl
    have c1_ : 0 ≤ S_.1 0 ii_ 1 ∧ S_.1 0 ii_ 1 ≤ 12 := hI_.1 0 ii_ 1 rfl
    rw [hS_] at c2_ c8_ c0_ c1_
    refine sm_T_go 2 (c1 := (45, [some (.inr (.inr (some (0, ii_)))), some (.inr (.inr (some (2, cc_)))), some (.inl a2_), some (.inl a3_), some (.inl a4_), some (.inl sz_), some (.inl k_), none], [.inr (.inr (some (2, cc_))), .inl k_], S_)) rfl ?_
    refine sm_T_cal (d1 := 0) (Q1 := vq_56 cc_ S_) rfl rfl (by decide) (vc_56 cc_ S_ hI_ ) (fun u_ Sx1_ px4_ => ?_)
    obtain ⟨rfl, vx6_, rfl, px4_⟩ := px4_
    have n9_ := px4_
    rw [hS_] at n9_
    refine sm_T_br (a := 3) (z := 74) rfl (fun cx7_ => ?_) (fun cx7_ => ?_)
    · have cx7_ : vx6_ ≤ k_ := of_decide_eq_true cx7_
      refine sm_T_go 4 (c1 := (128, [some (.inr (.inr (some (0, ii_)))), some (.inr (.inr (some (2, cc_)))), some (.inl a2_), some (.inl a3_), some (.inl a4_), some (.inl sz_), some (.inl k_), none], [.inl a3_, .inl a2_, .inr (.inr (some (14, (0 + ii_))))], S_)) rfl ?_
      refine sm_T_iast (n := 156) rfl rfl (by omega) (by omega) ?_
      have hIx8_ : gi (sm_aI S_ 14 (0 + ii_) a2_.toNat a3_) := gi_aI hI_ (show 0 ≤ a3_ ∧ a3_ ≤ 60 from ⟨by omega, by omega⟩)
      have hFx9_ : ai_fr (sx_W vw_25) S0_ (sm_aI S_ 14 (0 + ii_) a2_.toNat a3_) := ai_fr_tr hF_ (ai_fr_aI rfl)
      have hCx10_ : cdf ii_ S0_ (sm_aI S_ 14 (0 + ii_) a2_.toNat a3_) := cdf_aI hC_ (Or.inr (by rw [show cof 14 = 0 from rfl] <;> omega))
      refine sm_T_go 4 (c1 := (136, [some (.inr (.inr (some (0, ii_)))), some (.inr (.inr (some (2, cc_)))), some (.inl a2_), some (.inl a3_), some (.inl a4_), some (.inl sz_), some (.inl k_), none], [.inl a4_, .inl a2_, .inr (.inr (some (15, (0 + ii_))))], sm_aI S_ 14 (0 + ii_) a2_.toNat a3_)) rfl ?_
      refine sm_T_iast (n := 156) rfl rfl (by omega) (by omega) ?_
      have hIx11_ : gi (sm_aI (sm_aI S_ 14 (0 + ii_) a2_.toNat a3_) 15 (0 + ii_) a2_.toNat a4_) := gi_aI hIx8_ (show 0 ≤ a4_ ∧ a4_ ≤ 12 from ⟨by omega, by omega⟩)
      have hFx12_ : ai_fr (sx_W vw_25) S0_ (sm_aI (sm_aI S_ 14 (0 + ii_) a2_.toNat a3_) 15 (0 + ii_) a2_.toNat a4_) := ai_fr_tr hFx9_ (ai_fr_aI rfl)
      have hCx13_ : cdf ii_ S0_ (sm_aI (sm_aI S_ 14 (0 + ii_) a2_.toNat a3_) 15 (0 + ii_) a2_.toNat a4_) := cdf_aI hCx10_ (Or.inr (by rw [show cof 15 = 0 from rfl] <;> omega))
      refine sm_T_go 2 (c1 := (139, [some (.inr (.inr (some (0, ii_)))), some (.inr (.inr (some (2, cc_)))), some (.inl a2_), some (.inl a3_), some (.inl a4_), some (.inl sz_), some (.inl k_), none], [.inr (.inr (some (2, cc_))), .inr (.inr (some (0, ii_)))], sm_aI (sm_aI S_ 14 (0 + ii_) a2_.toNat a3_) 15 (0 + ii_) a2_.toNat a4_)) rfl ?_
      refine sm_T_cal (d1 := 2) (Q1 := vq_22 ii_ cc_ (sm_aI (sm_aI S_ 14 (0 + ii_) a2_.toNat a3_) 15 (0 + ii_) a2_.toNat a4_)) rfl rfl (by decide) (vc_22 ii_ cc_ (sm_aI (sm_aI S_ 14 (0 + ii_) a2_.toNat a3_) 15 (0 + ii_) a2_.toNat a4_) hIx11_ (by exact bpn_fr hb_ hFx12_ rfl rfl rfl rfl) (by (simp only [rd_af]; rw [hS_]; exact hs_))) (fun u_ Sx14_ px17_ => ?_)
      obtain ⟨rfl, hIx15_, hFx16_, px17_⟩ := px17_
      have hFx18_ : ai_fr (sx_W vw_25) S0_ Sx14_ := ai_fr_tr hFx12_ (fr_le hFx16_ rfl)
      obtain ⟨dx20_, px17_⟩ := px17_
      have hCx19_ : cdf ii_ S0_ Sx14_ := cdf_tr hCx13_ (cdf_cg (by omega) dx20_)
      have m9_ := px17_
      have f0_ := hFx16_.1 0 ii_ 0 rfl
      have f1_ := hFx16_.1 0 ii_ 1 rfl
      have f2_ := hFx16_.1 0 ii_ 2 rfl
      have f3_ := hFx16_.1 2 cc_ 1 rfl
      have f4_ := hFx16_.1 2 cc_ 2 rfl
      have f5_ := hFx16_.1 2 cc_ 3 rfl
      have f6_ := hFx16_.1 2 cc_ 8 rfl
      simp only [rd_af] at f0_ f1_ f2_ f3_ f4_ f5_ f6_
      rw [hS_] at f0_ f1_ f2_ f3_ f4_ f5_ f6_
      have z14_ := hFx16_.2.2 14 rfl (0 + ii_)
      have z15_ := hFx16_.2.2 15 rfl (0 + ii_)
      have z16_ : Sx14_.2.2.1 16 (0 + ii_) = S0_.2.2.1 16 (0 + ii_) := by (rw [← hS_]; exact funext fun e_ => ((hFx16_.2.2 16 rfl (0 + ii_) e_).1.trans (by rw [rd_ne (by decide), rd_ne (by decide)])))
      refine sm_T_go 1 (c1 := (143, [some (.inr (.inr (some (0, ii_)))), some (.inr (.inr (some (2, cc_)))), some (.inl a2_), some (.inl a3_), some (.inl a4_), some (.inl sz_), some (.inl k_), none], [.inl 1], Sx14_)) rfl ?_
      refine sm_T_rz rfl (by omega) ⟨_, _, rfl, _, rfl, hIx15_, hFx18_, ?_⟩
      refine ⟨hCx19_, ?_⟩
      refine ⟨by omega, ?_, Or.inr m9_⟩
      intro _
      obtain ⟨q1_, q2_⟩ := hp_ hr_
      rw [f0_, f1_, f2_, f3_, f4_, f5_, f6_, z16_]
      refine ⟨q1_, fun e_ he_ => ?_⟩
      have k14_ := (z14_ e_).1
      have k15_ := (z15_ e_).1
      rw [rd_ne (by decide), rd_eq] at k14_
      rw [rd_eq, rd_ne (by decide)] at k15_
      rw [k14_, k15_]
      by_cases y_ : e_ = a2_.toNat
      · rw [if_pos y_, if_pos y_, y_]; omega
      · rw [if_neg y_, if_neg y_, hS_]; exact q2_ e_ he_
    · have cx7_ : ¬ (vx6_ ≤ k_) := of_decide_eq_false cx7_
      refine sm_T_go 2 (c1 := (54, [some (.inr (.inr (some (0, ii_)))), some (.inr (.inr (some (2, cc_)))), some (.inl a2_), some (.inl a3_), some (.inl a4_), some (.inl sz_), some (.inl k_), none], [.inl a2_, .inl k_], S_)) rfl ?_
      refine sm_T_br (a := 0) (z := 48) rfl (fun cx21_ => ?_) (fun cx21_ => ?_)
      · have cx21_ : k_ = a2_ := of_decide_eq_true cx21_
        refine sm_T_go 5 (c1 := (116, [some (.inr (.inr (some (0, ii_)))), some (.inr (.inr (some (2, cc_)))), some (.inl a2_), some (.inl a3_), some (.inl a4_), some (.inl sz_), some (.inl k_), some (.inl 1)], [], S_)) rfl ?_
        refine sm_T_inc (a := 6) (z := 1) (v := k_) (w := k_ + 1) rfl rfl (by omega) (by omega) (by omega) ?_ -- pc_ 116
        refine sm_T_go 1 (c1 := (42, [some (.inr (.inr (some (0, ii_)))), some (.inr (.inr (some (2, cc_)))), some (.inl a2_), some (.inl a3_), some (.inl a4_), some (.inl sz_), some (.inl (k_ + 1)), some (.inl 1)], [], S_)) rfl ?_
        refine sm_T_wk [some (.inr (.inr (some (0, ii_)))), some (.inr (.inr (some (2, cc_)))), some (.inl a2_), some (.inl a3_), some (.inl a4_), some (.inl sz_), some (.inl (k_ + 1)), none] (by exact ⟨rfl, rfl, rfl, rfl, rfl, rfl, rfl, trivial⟩) ?_
        refine ih_ sz_ (k_ + 1) S_ hI_ hF_ ⟨?_, ?_, ?_, ?_, trivial⟩ ?_
        · omega
        · exact hz_
        · exact hS_
        · exact hC_
        · omega
      · have cx21_ : ¬ (k_ = a2_) := of_decide_eq_false cx21_
        refine sm_T_go 3 (c1 := (63, [some (.inr (.inr (some (0, ii_)))), some (.inr (.inr (some (2, cc_)))), some (.inl a2_), some (.inl a3_), some (.inl a4_), some (.inl sz_), some (.inl k_), none], [.inl k_, .inr (.inr (some (15, (0 + ii_))))], S_)) rfl ?_
        refine sm_T_iald (n := 156) rfl rfl (by omega) (by omega) ?_
        have bx22_ : 0 ≤ S_.2.2.1 15 (0 + ii_) k_.toNat ∧ S_.2.2.1 15 (0 + ii_) k_.toNat ≤ 12 := hI_.2 15 (0 + ii_) _
        refine sm_T_go 1 (c1 := (66, [some (.inr (.inr (some (0, ii_)))), some (.inr (.inr (some (2, cc_)))), some (.inl a2_), some (.inl a3_), some (.inl a4_), some (.inl sz_), some (.inl k_), none], [.inl a4_, .inl (S_.2.2.1 15 (0 + ii_) k_.toNat)], S_)) rfl ?_
        refine sm_T_br (a := 1) (z := 36) rfl (fun cx23_ => ?_) (fun cx23_ => ?_)
        · have cx23_ : (S_.2.2.1 15 (0 + ii_) k_.toNat) ≠ a4_ := of_decide_eq_true cx23_
          refine sm_T_go 5 (c1 := (116, [some (.inr (.inr (some (0, ii_)))), some (.inr (.inr (some (2, cc_)))), some (.inl a2_), some (.inl a3_), some (.inl a4_), some (.inl sz_), some (.inl k_), some (.inl 1)], [], S_)) rfl ?_
          refine sm_T_inc (a := 6) (z := 1) (v := k_) (w := k_ + 1) rfl rfl (by omega) (by omega) (by omega) ?_ -- pc_ 116
          refine sm_T_go 1 (c1 := (42, [some (.inr (.inr (some (0, ii_)))), some (.inr (.inr (some (2, cc_)))), some (.inl a2_), some (.inl a3_), some (.inl a4_), some (.inl sz_), some (.inl (k_ + 1)), some (.inl 1)], [], S_)) rfl ?_
          refine sm_T_wk [some (.inr (.inr (some (0, ii_)))), some (.inr (.inr (some (2, cc_)))), some (.inl a2_), some (.inl a3_), some (.inl a4_), some (.inl sz_), some (.inl (k_ + 1)), none] (by exact ⟨rfl, rfl, rfl, rfl, rfl, rfl, rfl, trivial⟩) ?_
          refine ih_ sz_ (k_ + 1) S_ hI_ hF_ ⟨?_, ?_, ?_, ?_, trivial⟩ ?_
          · omega
          · exact hz_
          · exact hS_
          · exact hC_
          · omega
        · have cx23_ : ¬ ((S_.2.2.1 15 (0 + ii_) k_.toNat) ≠ a4_) := of_decide_eq_false cx23_
          refine sm_T_go 3 (c1 := (75, [some (.inr (.inr (some (0, ii_)))), some (.inr (.inr (some (2, cc_)))), some (.inl a2_), some (.inl a3_), some (.inl a4_), some (.inl sz_), some (.inl k_), none], [.inl k_, .inr (.inr (some (14, (0 + ii_))))], S_)) rfl ?_
          refine sm_T_iald (n := 156) rfl rfl (by omega) (by omega) ?_
          have bx24_ : 0 ≤ S_.2.2.1 14 (0 + ii_) k_.toNat ∧ S_.2.2.1 14 (0 + ii_) k_.toNat ≤ 60 := hI_.2 14 (0 + ii_) _
          refine sm_T_go 3 (c1 := (82, [some (.inr (.inr (some (0, ii_)))), some (.inr (.inr (some (2, cc_)))), some (.inl a2_), some (.inl a3_), some (.inl a4_), some (.inl sz_), some (.inl k_), none], [.inl k_, .inr (.inr (some (16, (0 + ii_)))), .inl (S_.2.2.1 14 (0 + ii_) k_.toNat)], S_)) rfl ?_
          refine sm_T_iald (n := 156) rfl rfl (by omega) (by omega) ?_
          have bx25_ : 0 ≤ S_.2.2.1 16 (0 + ii_) k_.toNat ∧ S_.2.2.1 16 (0 + ii_) k_.toNat ≤ 4 := hI_.2 16 (0 + ii_) _
          refine sm_T_bin (w := (S_.2.2.1 14 (0 + ii_) k_.toNat) + (S_.2.2.1 16 (0 + ii_) k_.toNat)) rfl (bi_add (by omega) (by omega) (by omega)) ?_ -- pc_ 83
          refine sm_T_go 1 (c1 := (85, [some (.inr (.inr (some (0, ii_)))), some (.inr (.inr (some (2, cc_)))), some (.inl a2_), some (.inl a3_), some (.inl a4_), some (.inl sz_), some (.inl k_), none], [.inl a3_, .inl ((S_.2.2.1 14 (0 + ii_) k_.toNat) + (S_.2.2.1 16 (0 + ii_) k_.toNat))], S_)) rfl ?_
          refine sm_T_br (a := 5) (z := 17) rfl (fun cx26_ => ?_) (fun cx26_ => ?_)
          · have cx26_ : (S_.2.2.1 14 (0 + ii_) k_.toNat) + (S_.2.2.1 16 (0 + ii_) k_.toNat) ≤ a3_ := of_decide_eq_true cx26_
            refine sm_T_go 5 (c1 := (116, [some (.inr (.inr (some (0, ii_)))), some (.inr (.inr (some (2, cc_)))), some (.inl a2_), some (.inl a3_), some (.inl a4_), some (.inl sz_), some (.inl k_), some (.inl 1)], [], S_)) rfl ?_
            refine sm_T_inc (a := 6) (z := 1) (v := k_) (w := k_ + 1) rfl rfl (by omega) (by omega) (by omega) ?_ -- pc_ 116
            refine sm_T_go 1 (c1 := (42, [some (.inr (.inr (some (0, ii_)))), some (.inr (.inr (some (2, cc_)))), some (.inl a2_), some (.inl a3_), some (.inl a4_), some (.inl sz_), some (.inl (k_ + 1)), some (.inl 1)], [], S_)) rfl ?_
            refine sm_T_wk [some (.inr (.inr (some (0, ii_)))), some (.inr (.inr (some (2, cc_)))), some (.inl a2_), some (.inl a3_), some (.inl a4_), some (.inl sz_), some (.inl (k_ + 1)), none] (by exact ⟨rfl, rfl, rfl, rfl, rfl, rfl, rfl, trivial⟩) ?_
            refine ih_ sz_ (k_ + 1) S_ hI_ hF_ ⟨?_, ?_, ?_, ?_, trivial⟩ ?_
            · omega
            · exact hz_
            · exact hS_
            · exact hC_
            · omega
          · have cx26_ : ¬ ((S_.2.2.1 14 (0 + ii_) k_.toNat) + (S_.2.2.1 16 (0 + ii_) k_.toNat) ≤ a3_) := of_decide_eq_false cx26_
            refine sm_T_go 2 (c1 := (91, [some (.inr (.inr (some (0, ii_)))), some (.inr (.inr (some (2, cc_)))), some (.inl a2_), some (.inl a3_), some (.inl a4_), some (.inl sz_), some (.inl k_), none], [.inl sz_, .inl a3_], S_)) rfl ?_
            refine sm_T_bin (w := a3_ + sz_) rfl (bi_add (by omega) (by omega) (by omega)) ?_ -- pc_ 91
            refine sm_T_go 3 (c1 := (98, [some (.inr (.inr (some (0, ii_)))), some (.inr (.inr (some (2, cc_)))), some (.inl a2_), some (.inl a3_), some (.inl a4_), some (.inl sz_), some (.inl k_), none], [.inl k_, .inr (.inr (some (14, (0 + ii_)))), .inl (a3_ + sz_)], S_)) rfl ?_
            refine sm_T_iald (n := 156) rfl rfl (by omega) (by omega) ?_
            refine sm_T_br (a := 4) (z := 7) rfl (fun cx27_ => ?_) (fun cx27_ => ?_)
            · have cx27_ : (S_.2.2.1 14 (0 + ii_) k_.toNat) < a3_ + sz_ := of_decide_eq_true cx27_
              refine sm_T_go 5 (c1 := (115, [some (.inr (.inr (some (0, ii_)))), some (.inr (.inr (some (2, cc_)))), some (.inl a2_), some (.inl a3_), some (.inl a4_), some (.inl sz_), some (.inl k_), some (.inl 0)], [.inl 0], S_)) rfl ?_
              refine sm_T_rz rfl (by omega) ⟨_, _, rfl, _, rfl, hI_, hF_, ?_⟩
              refine ⟨hC_, ?_⟩
              rw [hS_]
              exact ⟨by omega, hp_, Or.inl rfl⟩
            · have cx27_ : ¬ ((S_.2.2.1 14 (0 + ii_) k_.toNat) < a3_ + sz_) := of_decide_eq_false cx27_
              refine sm_T_go 5 (c1 := (116, [some (.inr (.inr (some (0, ii_)))), some (.inr (.inr (some (2, cc_)))), some (.inl a2_), some (.inl a3_), some (.inl a4_), some (.inl sz_), some (.inl k_), some (.inl 1)], [], S_)) rfl ?_
              refine sm_T_inc (a := 6) (z := 1) (v := k_) (w := k_ + 1) rfl rfl (by omega) (by omega) (by omega) ?_ -- pc_ 116
              refine sm_T_go 1 (c1 := (42, [some (.inr (.inr (some (0, ii_)))), some (.inr (.inr (some (2, cc_)))), some (.inl a2_), some (.inl a3_), some (.inl a4_), some (.inl sz_), some (.inl (k_ + 1)), some (.inl 1)], [], S_)) rfl ?_
              refine sm_T_wk [some (.inr (.inr (some (0, ii_)))), some (.inr (.inr (some (2, cc_)))), some (.inl a2_), some (.inl a3_), some (.inl a4_), some (.inl sz_), some (.inl (k_ + 1)), none] (by exact ⟨rfl, rfl, rfl, rfl, rfl, rfl, rfl, trivial⟩) ?_
              refine ih_ sz_ (k_ + 1) S_ hI_ hF_ ⟨?_, ?_, ?_, ?_, trivial⟩ ?_
              · omega
              · exact hz_
              · exact hS_
              · exact hC_
              · omega
set_option maxHeartbeats 400000 in
theorem vc_25 {sc_ : Nat × (Nat → Int)} (a2_ : Int) (a3_ : Int) (a4_ : Int) (ii_ : Nat) (cc_ : Nat) (S0_ : sm_S) (hI_ : gi S0_) (h2_ : 0 ≤ a2_ ∧ a2_ < (S0_.1 2 cc_ 2 + S0_.1 2 cc_ 8)) (hb_ : bpn ii_ S0_) (hs_ : S0_.1 2 cc_ 1 + S0_.1 2 cc_ 2 ≤ 12) (hp_ : bpl ii_ cc_ S0_) (hr_ : 0 < S0_.1 0 ii_ 1) : sm_T (mt_P sc_) 3 25 (0, [some (.inr (.inr (some (0, ii_)))), some (.inr (.inr (some (2, cc_)))), some (.inl a2_), some (.inl a3_), some (.inl a4_), none, none, none], [], S0_) (fun ro9_ => ∃ u_ S1_, ro9_ = (.inl u_, S1_, 0) ∧ vq_25 a2_ a3_ a4_ ii_ cc_ S0_ u_ S1_) := by
  have hF_ : ai_fr (sx_W vw_25) S0_ S0_ := ai_fr_rf
  have hC_ : cdf ii_ S0_ S0_ := cdf_rf
  have c2_ : 0 ≤ S0_.1 2 cc_ 2 ∧ S0_.1 2 cc_ 2 ≤ 6 := hI_.1 2 cc_ 2 rfl
  have c8_ : 0 ≤ S0_.1 2 cc_ 8 ∧ S0_.1 2 cc_ 8 ≤ 150 := hI_.1 2 cc_ 8 rfl
  refine sm_T_go 3 (c1 := (5, [some (.inr (.inr (some (0, ii_)))), some (.inr (.inr (some (2, cc_)))), some (.inl a2_), some (.inl a3_), some (.inl a4_), none, none, none], [.inl a2_, .inr (.inr (some (16, (0 + ii_))))], S0_)) rfl ?_
  refine sm_T_iald (n := 156) rfl rfl (by omega) (by omega) ?_
  have bx1_ : 0 ≤ S0_.2.2.1 16 (0 + ii_) a2_.toNat ∧ S0_.2.2.1 16 (0 + ii_) a2_.toNat ≤ 4 := hI_.2 16 (0 + ii_) _
  refine sm_T_go 2 (c1 := (10, [some (.inr (.inr (some (0, ii_)))), some (.inr (.inr (some (2, cc_)))), some (.inl a2_), some (.inl a3_), some (.inl a4_), some (.inl (S0_.2.2.1 16 (0 + ii_) a2_.toNat)), none, none], [.inl a4_], S0_)) rfl ?_
  refine sm_T_b0 (a := 2) (z := 27) rfl (fun cx2_ => ?_) (fun cx2_ => ?_)
  · have cx2_ : a4_ < 0 := of_decide_eq_true cx2_
    refine sm_T_go 1 (c1 := (38, [some (.inr (.inr (some (0, ii_)))), some (.inr (.inr (some (2, cc_)))), some (.inl a2_), some (.inl a3_), some (.inl a4_), some (.inl (S0_.2.2.1 16 (0 + ii_) a2_.toNat)), none, none], [.inl 0], S0_)) rfl ?_
    refine sm_T_rz rfl (by omega) ⟨_, _, rfl, _, rfl, hI_, hF_, ?_⟩
    refine ⟨hC_, ?_⟩
    exact ⟨by omega, hp_, Or.inl rfl⟩
  · have cx2_ : ¬ (a4_ < 0) := of_decide_eq_false cx2_
    have bx3_ : 0 ≤ S0_.1 0 ii_ 1 ∧ S0_.1 0 ii_ 1 ≤ 12 := hI_.1 0 ii_ 1 rfl
    refine sm_T_go 3 (c1 := (19, [some (.inr (.inr (some (0, ii_)))), some (.inr (.inr (some (2, cc_)))), some (.inl a2_), some (.inl a3_), some (.inl a4_), some (.inl (S0_.2.2.1 16 (0 + ii_) a2_.toNat)), none, none], [.inl (S0_.1 0 ii_ 1), .inl a4_], S0_)) rfl ?_
    refine sm_T_br (a := 3) (z := 18) rfl (fun cx4_ => ?_) (fun cx4_ => ?_)
    · have cx4_ : (S0_.1 0 ii_ 1) ≤ a4_ := of_decide_eq_true cx4_
      refine sm_T_go 1 (c1 := (38, [some (.inr (.inr (some (0, ii_)))), some (.inr (.inr (some (2, cc_)))), some (.inl a2_), some (.inl a3_), some (.inl a4_), some (.inl (S0_.2.2.1 16 (0 + ii_) a2_.toNat)), none, none], [.inl 0], S0_)) rfl ?_
      refine sm_T_rz rfl (by omega) ⟨_, _, rfl, _, rfl, hI_, hF_, ?_⟩
      refine ⟨hC_, ?_⟩
      exact ⟨by omega, hp_, Or.inl rfl⟩
    · have cx4_ : ¬ ((S0_.1 0 ii_ 1) ≤ a4_) := of_decide_eq_false cx4_
      refine sm_T_go 1 (c1 := (23, [some (.inr (.inr (some (0, ii_)))), some (.inr (.inr (some (2, cc_)))), some (.inl a2_), some (.inl a3_), some (.inl a4_), some (.inl (S0_.2.2.1 16 (0 + ii_) a2_.toNat)), none, none], [.inl a3_], S0_)) rfl ?_
      refine sm_T_b0 (a := 2) (z := 14) rfl (fun cx5_ => ?_) (fun cx5_ => ?_)
      · have cx5_ : a3_ < 0 := of_decide_eq_true cx5_
        refine sm_T_go 1 (c1 := (38, [some (.inr (.inr (some (0, ii_)))), some (.inr (.inr (some (2, cc_)))), some (.inl a2_), some (.inl a3_), some (.inl a4_), some (.inl (S0_.2.2.1 16 (0 + ii_) a2_.toNat)), none, none], [.inl 0], S0_)) rfl ?_
        refine sm_T_rz rfl (by omega) ⟨_, _, rfl, _, rfl, hI_, hF_, ?_⟩
        refine ⟨hC_, ?_⟩
        exact ⟨by omega, hp_, Or.inl rfl⟩
      · have cx5_ : ¬ (a3_ < 0) := of_decide_eq_false cx5_
        have bx6_ : 0 ≤ S0_.1 0 ii_ 0 ∧ S0_.1 0 ii_ 0 ≤ 60 := hI_.1 0 ii_ 0 rfl
        refine sm_T_go 4 (c1 := (33, [some (.inr (.inr (some (0, ii_)))), some (.inr (.inr (some (2, cc_)))), some (.inl a2_), some (.inl a3_), some (.inl a4_), some (.inl (S0_.2.2.1 16 (0 + ii_) a2_.toNat)), none, none], [.inl (S0_.2.2.1 16 (0 + ii_) a2_.toNat), .inl (S0_.1 0 ii_ 0), .inl a3_], S0_)) rfl ?_
        refine sm_T_bin (w := (S0_.1 0 ii_ 0) - (S0_.2.2.1 16 (0 + ii_) a2_.toNat)) rfl (bi_sub (by omega) (by omega) (by omega)) ?_ -- pc_ 33
        refine sm_T_br (a := 5) (z := 5) rfl (fun cx7_ => ?_) (fun cx7_ => ?_)
        · have cx7_ : a3_ ≤ (S0_.1 0 ii_ 0) - (S0_.2.2.1 16 (0 + ii_) a2_.toNat) := of_decide_eq_true cx7_
          refine sm_T_go 2 (c1 := (42, [some (.inr (.inr (some (0, ii_)))), some (.inr (.inr (some (2, cc_)))), some (.inl a2_), some (.inl a3_), some (.inl a4_), some (.inl (S0_.2.2.1 16 (0 + ii_) a2_.toNat)), some (.inl 0), none], [], S0_)) rfl ?_
          refine (vl_25 a2_ a3_ a4_ ii_ cc_ S0_ h2_ hb_ hs_ hp_ hr_ _) (S0_.2.2.1 16 (0 + ii_) a2_.toNat) 0 S0_ hI_ hF_ ⟨?_, ?_, ?_, ?_, trivial⟩ (Nat.lt_succ_self _)
          · omega
          · rfl
          · rfl
          · exact hC_
        · have cx7_ : ¬ (a3_ ≤ (S0_.1 0 ii_ 0) - (S0_.2.2.1 16 (0 + ii_) a2_.toNat)) := of_decide_eq_false cx7_
          refine sm_T_go 1 (c1 := (38, [some (.inr (.inr (some (0, ii_)))), some (.inr (.inr (some (2, cc_)))), some (.inl a2_), some (.inl a3_), some (.inl a4_), some (.inl (S0_.2.2.1 16 (0 + ii_) a2_.toNat)), none, none], [.inl 0], S0_)) rfl ?_
          refine sm_T_rz rfl (by omega) ⟨_, _, rfl, _, rfl, hI_, hF_, ?_⟩
          refine ⟨hC_, ?_⟩
          exact ⟨by omega, hp_, Or.inl rfl⟩
end
/-! 99.zkac -/
section
/-! Board.touchNets -/
def vw_28 : sx_Wl := ([(0, 18)], [25], [])
def vq_28 (a1_ : Int) (ii_ : Nat) (S0_ : sm_S) (u_ : Option sm_V) (S1_ : sm_S) : Prop := u_ = none ∧ gi S1_ ∧ ai_fr (sx_W vw_28) S0_ S1_ ∧ (cdf ii_ S0_ S1_ ∧ (S1_.1 0 ii_ 18 ≤ S0_.1 0 ii_ 18 + 4 ∧ ∀ j_ : Nat, (j_ : Int) < S1_.1 0 ii_ 18 → 0 ≤ S1_.2.2.1 25 (0 + ii_) j_))
set_option maxHeartbeats 400000 in
theorem vl_28 {sc_ : Nat × (Nat → Int)} (a1_ : Int) (ii_ : Nat) (S0_ : sm_S) (h1_ : 0 ≤ a1_ ∧ a1_ ≤ 155) (ht_ : S0_.1 0 ii_ 18 ≤ 4) (hn_ : ∀ j_ : Nat, (j_ : Int) < S0_.1 0 ii_ 18 → 0 ≤ S0_.2.2.1 25 (0 + ii_) j_) : ∀ nn_ : Nat, (∀ (k_ : Int) (S_ : sm_S), gi S_ → ai_fr (sx_W vw_28) S0_ S_ → ((0 ≤ k_ ∧ k_ ≤ 4 ∧ S_.1 0 ii_ 18 ≤ S0_.1 0 ii_ 18 + k_) ∧ (∀ j_ : Nat, (j_ : Int) < S_.1 0 ii_ 18 → 0 ≤ S_.2.2.1 25 (0 + ii_) j_) ∧ (cdf ii_ S0_ S_) ∧ True) → ((100 * (10 - k_) + 50).toNat) < nn_ → sm_T (mt_P sc_) 0 28 (2, [some (.inr (.inr (some (0, ii_)))), some (.inl a1_), some (.inl k_), none, none, none], [], S_) (fun ro9_ => ∃ u_ S1_, ro9_ = (.inl u_, S1_, 0) ∧ vq_28 a1_ ii_ S0_ u_ S1_)) ∧ (∀ (k_ : Int) (nt_ : Int) (fs_ : Int) (i_ : Int) (S_ : sm_S), gi S_ → ai_fr (sx_W vw_28) S0_ S_ → ((0 ≤ k_ ∧ k_ < 4 ∧ S_.1 0 ii_ 18 ≤ S0_.1 0 ii_ 18 + k_ ∧ 0 ≤ i_ ∧ i_ ≤ 8 ∧ -1 ≤ nt_ ∧ nt_ ≤ 161 ∧ 0 ≤ fs_ ∧ fs_ ≤ 1) ∧ (fs_ ≠ 0 → 0 ≤ nt_) ∧ (∀ j_ : Nat, (j_ : Int) < S_.1 0 ii_ 18 → 0 ≤ S_.2.2.1 25 (0 + ii_) j_) ∧ (cdf ii_ S0_ S_) ∧ True) → ((100 * (10 - k_) + 40 - i_).toNat) < nn_ → sm_T (mt_P sc_) 0 28 (38, [some (.inr (.inr (some (0, ii_)))), some (.inl a1_), some (.inl k_), some (.inl nt_), some (.inl fs_), some (.inl i_)], [], S_) (fun ro9_ => ∃ u_ S1_, ro9_ = (.inl u_, S1_, 0) ∧ vq_28 a1_ ii_ S0_ u_ S1_)) := by
  intro nn_
  induction nn_ with
  | zero => exact ⟨fun _ _ _ _ _ h_ => absurd h_ (Nat.not_lt_zero _), fun _ _ _ _ _ _ _ _ h_ => absurd h_ (Nat.not_lt_zero _)⟩
  | succ nn_ ih_ =>
    refine ⟨?_, ?_⟩
    · rintro k_ S_ hI_ hF_ ⟨h0_, hj_, hC_, -⟩ hm_
      refine sm_T_go 4 (c1 := (8, [some (.inr (.inr (some (0, ii_)))), some (.inl a1_), some (.inl k_), none, none, none], [.inl a1_, .inr (.inr (some (16, (0 + ii_)))), .inl k_], S_)) rfl ?_
      refine sm_T_iald (n := 156) rfl rfl (by omega) (by omega) ?_
      have bx1_ : 0 ≤ S_.2.2.1 16 (0 + ii_) a1_.toNat ∧ S_.2.2.1 16 (0 + ii_) a1_.toNat ≤ 4 := hI_.2 16 (0 + ii_) _
      refine sm_T_br (a := 3) (z := 98) rfl (fun cx2_ => ?_) (fun cx2_ => ?_)
      · have cx2_ : (S_.2.2.1 16 (0 + ii_) a1_.toNat) ≤ k_ := of_decide_eq_true cx2_
        refine sm_T_rv rfl ⟨_, _, rfl, rfl, hI_, hF_, ?_⟩
        refine ⟨hC_, ?_⟩
        exact ⟨by omega, hj_⟩
      · have cx2_ : ¬ ((S_.2.2.1 16 (0 + ii_) a1_.toNat) ≤ k_) := of_decide_eq_false cx2_
        refine sm_T_go 4 (c1 := (18, [some (.inr (.inr (some (0, ii_)))), some (.inl a1_), some (.inl k_), none, none, none], [.inl a1_, .inl 4, .inr (.inr (some (17, (0 + ii_))))], S_)) rfl ?_
        refine sm_T_bin (w := 4 * a1_) rfl (bi_mul (by omega) (by omega) (by omega)) ?_ -- pc_ 18
        refine sm_T_go 1 (c1 := (20, [some (.inr (.inr (some (0, ii_)))), some (.inl a1_), some (.inl k_), none, none, none], [.inl k_, .inl (4 * a1_), .inr (.inr (some (17, (0 + ii_))))], S_)) rfl ?_
        refine sm_T_bin (w := 4 * a1_ + k_) rfl (bi_add (by omega) (by omega) (by omega)) ?_ -- pc_ 20
        refine sm_T_iald (n := 652) rfl rfl (by omega) (by omega) ?_
        have bx3_ : (-1) ≤ S_.2.2.1 17 (0 + ii_) (4 * a1_ + k_).toNat ∧ S_.2.2.1 17 (0 + ii_) (4 * a1_ + k_).toNat ≤ 161 := hI_.2 17 (0 + ii_) _
        refine sm_T_go 3 (c1 := (25, [some (.inr (.inr (some (0, ii_)))), some (.inl a1_), some (.inl k_), some (.inl (S_.2.2.1 17 (0 + ii_) (4 * a1_ + k_).toNat)), none, none], [.inl (-1), .inl (S_.2.2.1 17 (0 + ii_) (4 * a1_ + k_).toNat)], S_)) rfl ?_
        refine sm_T_br (a := 0) (z := 7) rfl (fun cx4_ => ?_) (fun cx4_ => ?_)
        · have cx4_ : (S_.2.2.1 17 (0 + ii_) (4 * a1_ + k_).toNat) = (-1) := of_decide_eq_true cx4_
          refine sm_T_go 4 (c1 := (38, [some (.inr (.inr (some (0, ii_)))), some (.inl a1_), some (.inl k_), some (.inl (S_.2.2.1 17 (0 + ii_) (4 * a1_ + k_).toNat)), some (.inl 0), some (.inl 0)], [], S_)) rfl ?_
          refine ih_.2 k_ (S_.2.2.1 17 (0 + ii_) (4 * a1_ + k_).toNat) 0 0 S_ hI_ hF_ ⟨?_, ?_, ?_, ?_, trivial⟩ ?_
          · omega
          · (intro u_; omega)
          · exact hj_
          · exact hC_
          · omega
        · have cx4_ : ¬ ((S_.2.2.1 17 (0 + ii_) (4 * a1_ + k_).toNat) = (-1)) := of_decide_eq_false cx4_
          refine sm_T_go 5 (c1 := (38, [some (.inr (.inr (some (0, ii_)))), some (.inl a1_), some (.inl k_), some (.inl (S_.2.2.1 17 (0 + ii_) (4 * a1_ + k_).toNat)), some (.inl 1), some (.inl 0)], [], S_)) rfl ?_
          refine ih_.2 k_ (S_.2.2.1 17 (0 + ii_) (4 * a1_ + k_).toNat) 1 0 S_ hI_ hF_ ⟨?_, ?_, ?_, ?_, trivial⟩ ?_
          · omega
          · (intro u_; omega)
          · exact hj_
          · exact hC_
          · omega
    · rintro k_ nt_ fs_ i_ S_ hI_ hF_ ⟨h0_, hf_, hj_, hC_, -⟩ hm_
      have bx1_ : 0 ≤ S_.1 0 ii_ 18 ∧ S_.1 0 ii_ 18 ≤ 8 := hI_.1 0 ii_ 18 rfl
      refine sm_T_go 3 (c1 := (44, [some (.inr (.inr (some (0, ii_)))), some (.inl a1_), some (.inl k_), some (.inl nt_), some (.inl fs_), some (.inl i_)], [.inl (S_.1 0 ii_ 18), .inl i_], S_)) rfl ?_
      refine sm_T_br (a := 3) (z := 32) rfl (fun cx2_ => ?_) (fun cx2_ => ?_)
      · have cx2_ : (S_.1 0 ii_ 18) ≤ i_ := of_decide_eq_true cx2_
        refine sm_T_go 1 (c1 := (78, [some (.inr (.inr (some (0, ii_)))), some (.inl a1_), some (.inl k_), some (.inl nt_), some (.inl fs_), some (.inl i_)], [.inl fs_], S_)) rfl ?_
        refine sm_T_b0 (a := 0) (z := 23) rfl (fun cx3_ => ?_) (fun cx3_ => ?_)
        · have cx3_ : fs_ = 0 := of_decide_eq_true cx3_
          refine sm_T_inc (a := 2) (z := 1) (v := k_) (w := k_ + 1) rfl rfl (by omega) (by omega) (by omega) ?_ -- pc_ 101
          refine sm_T_go 1 (c1 := (2, [some (.inr (.inr (some (0, ii_)))), some (.inl a1_), some (.inl (k_ + 1)), some (.inl nt_), some (.inl fs_), some (.inl i_)], [], S_)) rfl ?_
          refine sm_T_wk [some (.inr (.inr (some (0, ii_)))), some (.inl a1_), some (.inl (k_ + 1)), none, none, none] (by exact ⟨rfl, rfl, rfl, trivial⟩) ?_
          refine ih_.1 (k_ + 1) S_ hI_ hF_ ⟨?_, ?_, ?_, trivial⟩ ?_
          · omega
          · exact hj_
          · exact hC_
          · omega
        · have cx3_ : ¬ (fs_ = 0) := of_decide_eq_false cx3_
          have f9_ := hf_ (by omega)
          refine sm_T_go 5 (c1 := (90, [some (.inr (.inr (some (0, ii_)))), some (.inl a1_), some (.inl k_), some (.inl nt_), some (.inl fs_), some (.inl i_)], [.inl nt_, .inl (S_.1 0 ii_ 18), .inr (.inr (some (25, (0 + ii_))))], S_)) rfl ?_
          refine sm_T_iast (n := 8) rfl rfl (by omega) (by omega) ?_
          have hIx4_ : gi (sm_aI S_ 25 (0 + ii_) (S_.1 0 ii_ 18).toNat nt_) := gi_aI hI_ (show (-1) ≤ nt_ ∧ nt_ ≤ 161 from ⟨by omega, by omega⟩)
          have hFx5_ : ai_fr (sx_W vw_28) S0_ (sm_aI S_ 25 (0 + ii_) (S_.1 0 ii_ 18).toNat nt_) := ai_fr_tr hF_ (ai_fr_aI rfl)
          have hCx6_ : cdf ii_ S0_ (sm_aI S_ 25 (0 + ii_) (S_.1 0 ii_ 18).toNat nt_) := cdf_aI hC_ (Or.inr (by rw [show cof 25 = 0 from rfl] <;> omega))
          refine sm_T_go 4 (c1 := (97, [some (.inr (.inr (some (0, ii_)))), some (.inl a1_), some (.inl k_), some (.inl nt_), some (.inl fs_), some (.inl i_)], [.inl 1, .inl (S_.1 0 ii_ 18), .inr (.inr (some (0, ii_)))], sm_aI S_ 25 (0 + ii_) (S_.1 0 ii_ 18).toNat nt_)) rfl ?_
          refine sm_T_bin (w := (S_.1 0 ii_ 18) + 1) rfl (bi_add (by omega) (by omega) (by omega)) ?_ -- pc_ 97
          have hIx7_ : gi (sm_pI (sm_aI S_ 25 (0 + ii_) (S_.1 0 ii_ 18).toNat nt_) 0 ii_ 18 ((S_.1 0 ii_ 18) + 1)) := gi_pI hIx4_ (show 0 ≤ (S_.1 0 ii_ 18) + 1 ∧ (S_.1 0 ii_ 18) + 1 ≤ 8 from ⟨by omega, by omega⟩)
          have hFx8_ : ai_fr (sx_W vw_28) S0_ (sm_pI (sm_aI S_ 25 (0 + ii_) (S_.1 0 ii_ 18).toNat nt_) 0 ii_ 18 ((S_.1 0 ii_ 18) + 1)) := ai_fr_tr hFx5_ (ai_fr_pI rfl)
          have hCx9_ : cdf ii_ S0_ (sm_pI (sm_aI S_ 25 (0 + ii_) (S_.1 0 ii_ 18).toNat nt_) 0 ii_ 18 ((S_.1 0 ii_ 18) + 1)) := cdf_pI hCx6_ (Or.inr (by rw [show cof 0 = 0 from rfl] <;> omega))
          refine sm_T_go 1 (c1 := (101, [some (.inr (.inr (some (0, ii_)))), some (.inl a1_), some (.inl k_), some (.inl nt_), some (.inl fs_), some (.inl i_)], [], sm_pI (sm_aI S_ 25 (0 + ii_) (S_.1 0 ii_ 18).toNat nt_) 0 ii_ 18 ((S_.1 0 ii_ 18) + 1))) rfl ?_
          refine sm_T_inc (a := 2) (z := 1) (v := k_) (w := k_ + 1) rfl rfl (by omega) (by omega) (by omega) ?_ -- pc_ 101
          refine sm_T_go 1 (c1 := (2, [some (.inr (.inr (some (0, ii_)))), some (.inl a1_), some (.inl (k_ + 1)), some (.inl nt_), some (.inl fs_), some (.inl i_)], [], sm_pI (sm_aI S_ 25 (0 + ii_) (S_.1 0 ii_ 18).toNat nt_) 0 ii_ 18 ((S_.1 0 ii_ 18) + 1))) rfl ?_
          refine sm_T_wk [some (.inr (.inr (some (0, ii_)))), some (.inl a1_), some (.inl (k_ + 1)), none, none, none] (by exact ⟨rfl, rfl, rfl, trivial⟩) ?_
          refine ih_.1 (k_ + 1) (sm_pI (sm_aI S_ 25 (0 + ii_) (S_.1 0 ii_ 18).toNat nt_) 0 ii_ 18 ((S_.1 0 ii_ 18) + 1)) hIx7_ hFx8_ ⟨?_, ?_, ?_, trivial⟩ ?_
          · (simp only [rf_eq]; omega)
          · intro j_ hj9_
            simp only [rf_eq, rd_fa, rd_af, rd_eq] at hj9_ ⊢
            by_cases z_ : j_ = (S_.1 0 ii_ 18).toNat
            · rw [if_pos z_]; exact f9_
            · rw [if_neg z_]; exact hj_ j_ (by omega)
          · exact hCx9_
          · omega
      · have cx2_ : ¬ ((S_.1 0 ii_ 18) ≤ i_) := of_decide_eq_false cx2_
        refine sm_T_go 1 (c1 := (49, [some (.inr (.inr (some (0, ii_)))), some (.inl a1_), some (.inl k_), some (.inl nt_), some (.inl fs_), some (.inl i_)], [.inl fs_], S_)) rfl ?_
        refine sm_T_b0 (a := 0) (z := 18) rfl (fun cx10_ => ?_) (fun cx10_ => ?_)
        · have cx10_ : fs_ = 0 := of_decide_eq_true cx10_
          refine sm_T_go 2 (c1 := (70, [some (.inr (.inr (some (0, ii_)))), some (.inl a1_), some (.inl k_), some (.inl nt_), some (.inl 0), some (.inl i_)], [], S_)) rfl ?_
          refine sm_T_inc (a := 5) (z := 1) (v := i_) (w := i_ + 1) rfl rfl (by omega) (by omega) (by omega) ?_ -- pc_ 70
          refine sm_T_go 1 (c1 := (38, [some (.inr (.inr (some (0, ii_)))), some (.inl a1_), some (.inl k_), some (.inl nt_), some (.inl 0), some (.inl (i_ + 1))], [], S_)) rfl ?_
          refine ih_.2 k_ nt_ 0 (i_ + 1) S_ hI_ hF_ ⟨?_, ?_, ?_, ?_, trivial⟩ ?_
          · omega
          · (intro u_; first | exact hf_ (by omega) | omega)
          · exact hj_
          · exact hC_
          · omega
        · have cx10_ : ¬ (fs_ = 0) := of_decide_eq_false cx10_
          refine sm_T_go 3 (c1 := (58, [some (.inr (.inr (some (0, ii_)))), some (.inl a1_), some (.inl k_), some (.inl nt_), some (.inl fs_), some (.inl i_)], [.inl i_, .inr (.inr (some (25, (0 + ii_))))], S_)) rfl ?_
          refine sm_T_iald (n := 8) rfl rfl (by omega) (by omega) ?_
          have bx11_ : (-1) ≤ S_.2.2.1 25 (0 + ii_) i_.toNat ∧ S_.2.2.1 25 (0 + ii_) i_.toNat ≤ 161 := hI_.2 25 (0 + ii_) _
          refine sm_T_go 1 (c1 := (60, [some (.inr (.inr (some (0, ii_)))), some (.inl a1_), some (.inl k_), some (.inl nt_), some (.inl fs_), some (.inl i_)], [.inl nt_, .inl (S_.2.2.1 25 (0 + ii_) i_.toNat)], S_)) rfl ?_
          refine sm_T_br (a := 0) (z := 7) rfl (fun cx12_ => ?_) (fun cx12_ => ?_)
          · have cx12_ : (S_.2.2.1 25 (0 + ii_) i_.toNat) = nt_ := of_decide_eq_true cx12_
            refine sm_T_go 2 (c1 := (70, [some (.inr (.inr (some (0, ii_)))), some (.inl a1_), some (.inl k_), some (.inl nt_), some (.inl 0), some (.inl i_)], [], S_)) rfl ?_
            refine sm_T_inc (a := 5) (z := 1) (v := i_) (w := i_ + 1) rfl rfl (by omega) (by omega) (by omega) ?_ -- pc_ 70
            refine sm_T_go 1 (c1 := (38, [some (.inr (.inr (some (0, ii_)))), some (.inl a1_), some (.inl k_), some (.inl nt_), some (.inl 0), some (.inl (i_ + 1))], [], S_)) rfl ?_
            refine ih_.2 k_ nt_ 0 (i_ + 1) S_ hI_ hF_ ⟨?_, ?_, ?_, ?_, trivial⟩ ?_
            · omega
            · (intro u_; first | exact hf_ (by omega) | omega)
            · exact hj_
            · exact hC_
            · omega
          · have cx12_ : ¬ ((S_.2.2.1 25 (0 + ii_) i_.toNat) = nt_) := of_decide_eq_false cx12_
            refine sm_T_go 3 (c1 := (70, [some (.inr (.inr (some (0, ii_)))), some (.inl a1_), some (.inl k_), some (.inl nt_), some (.inl 1), some (.inl i_)], [], S_)) rfl ?_
            refine sm_T_inc (a := 5) (z := 1) (v := i_) (w := i_ + 1) rfl rfl (by omega) (by omega) (by omega) ?_ -- pc_ 70
            refine sm_T_go 1 (c1 := (38, [some (.inr (.inr (some (0, ii_)))), some (.inl a1_), some (.inl k_), some (.inl nt_), some (.inl 1), some (.inl (i_ + 1))], [], S_)) rfl ?_
            refine ih_.2 k_ nt_ 1 (i_ + 1) S_ hI_ hF_ ⟨?_, ?_, ?_, ?_, trivial⟩ ?_
            · omega
            · (intro u_; first | exact hf_ (by omega) | omega)
            · exact hj_
            · exact hC_
            · omega
set_option maxHeartbeats 400000 in
theorem vc_28 {sc_ : Nat × (Nat → Int)} (a1_ : Int) (ii_ : Nat) (S0_ : sm_S) (hI_ : gi S0_) (h1_ : 0 ≤ a1_ ∧ a1_ ≤ 155) (ht_ : S0_.1 0 ii_ 18 ≤ 4) (hn_ : ∀ j_ : Nat, (j_ : Int) < S0_.1 0 ii_ 18 → 0 ≤ S0_.2.2.1 25 (0 + ii_) j_) : sm_T (mt_P sc_) 0 28 (0, [some (.inr (.inr (some (0, ii_)))), some (.inl a1_), none, none, none, none], [], S0_) (fun ro9_ => ∃ u_ S1_, ro9_ = (.inl u_, S1_, 0) ∧ vq_28 a1_ ii_ S0_ u_ S1_) := by
  have hF_ : ai_fr (sx_W vw_28) S0_ S0_ := ai_fr_rf
  have hC_ : cdf ii_ S0_ S0_ := cdf_rf
  refine sm_T_go 2 (c1 := (2, [some (.inr (.inr (some (0, ii_)))), some (.inl a1_), some (.inl 0), none, none, none], [], S0_)) rfl ?_
  refine (vl_28 a1_ ii_ S0_ h1_ ht_ hn_ _).1 0 S0_ hI_ hF_ ⟨?_, ?_, ?_, trivial⟩ (Nat.lt_succ_self _)
  · omega
  · exact hn_
  · exact hC_
end
