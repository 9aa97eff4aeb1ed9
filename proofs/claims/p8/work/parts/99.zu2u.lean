/-! the class: chips asked; written by wip/p55/gen/vg -/
/-! Chip.gateInputs -/
def vw_59n : sx_Wl := ([], [], [])
def vq_59n (a1_ : Int) (ii_ : Nat) (S0_ : sm_S) (u_ : Option sm_V) (S1_ : sm_S) : Prop := S0_ = S1_ ∧ ∃ v_ : Int, u_ = some (.inl v_) ∧ (v_ = S1_.2.2.1 55 (0 + (3 + ii_)) (S1_.2.2.1 35 (0 + ii_) a1_.toNat).toNat)
set_option maxHeartbeats 400000 in
theorem vc_59n {sc_ : Nat × (Nat → Int)} (a1_ : Int) (ii_ : Nat) (S0_ : sm_S) (hI_ : gi S0_) (ha1_ : 0 ≤ a1_ ∧ a1_ ≤ 149) : sm_T (mt_P sc_) 0 59 (0, [some (.inr (.inr (some (2, ii_)))), some (.inl a1_)], [], S0_) (fun ro9_ => ∃ u_ S1_, ro9_ = (.inl u_, S1_, 0) ∧ vq_59n a1_ ii_ S0_ u_ S1_) := by
  have hF_ : ai_fr (sx_W vw_59n) S0_ S0_ := ai_fr_rf
  refine sm_T_go 6 (c1 := (12, [some (.inr (.inr (some (2, ii_)))), some (.inl a1_)], [.inl a1_, .inr (.inr (some (35, (0 + ii_)))), .inr (.inr (some (55, (0 + (3 + ii_)))))], S0_)) rfl ?_
  refine sm_T_iald (n := 150) rfl rfl (by omega) (by omega) ?_
  have bx1_ : 0 ≤ S0_.2.2.1 35 (0 + ii_) a1_.toNat ∧ S0_.2.2.1 35 (0 + ii_) a1_.toNat ≤ 11 := hI_.2 35 (0 + ii_) _
  refine sm_T_iald (n := 12) rfl rfl (by omega) (by omega) ?_
  have bx2_ : 0 ≤ S0_.2.2.1 55 (0 + (3 + ii_)) (S0_.2.2.1 35 (0 + ii_) a1_.toNat).toNat ∧ S0_.2.2.1 55 (0 + (3 + ii_)) (S0_.2.2.1 35 (0 + ii_) a1_.toNat).toNat ≤ 3 := hI_.2 55 (0 + (3 + ii_)) _
  refine sm_T_ri rfl ⟨_, _, rfl, rfl, _, rfl, ?_⟩
  rfl
/-! ChipFlow.netOf -/
/-! ChipFlow.gate -/
def okc_isThere (kd_ k_ : Int) (S_ : sm_S) : Prop := 0 ≤ kd_ ∧ kd_ ≤ 2
def vac_isThere (kd_ k_ : Int) (S_ : sm_S) : Int := if (kd_ = 0 ∧ 0 ≤ k_ ∧ k_ < 6 ∧ S_.1 3 k_.toNat 0 = 1) ∨ (kd_ = 1 ∧ 0 ≤ k_ ∧ k_ < 3 ∧ S_.1 5 k_.toNat 0 = 1) ∨ (kd_ = 2 ∧ 0 ≤ k_ ∧ k_ < 4 ∧ S_.1 2 k_.toNat 0 = 1) then 1 else 0
/-! ChipFlow.isThere -/
def vw_218t : sx_Wl := ([], [], [])
def vq_218t (kd_ : Int) (k_ : Int) (S0_ : sm_S) (u_ : Option sm_V) (S1_ : sm_S) : Prop := ∃ v_ : Int, u_ = some (.inl v_) ∧ gi S1_ ∧ ai_fr (sx_W vw_218t) S0_ S1_ ∧ (S1_ = S0_ ∧ okc_isThere kd_ k_ S0_ ∧ v_ = vac_isThere kd_ k_ S0_)
def vx_218t (kd_ : Int) (k_ : Int) (S0_ : sm_S) (S1_ : sm_S) : Prop := gi S1_ ∧ ai_fr (sx_W vw_218t) S0_ S1_ ∧ (S1_ = S0_ ∧ ¬ okc_isThere kd_ k_ S0_)
set_option maxHeartbeats 400000 in
theorem vc_218t {sc_ : Nat × (Nat → Int)} (kd_ : Int) (k_ : Int) (S0_ : sm_S) (hI_ : gi S0_)  : sm_T (mt_P sc_) 1 218 (0, [some (.inr (.inr (some (12, 0)))), some (.inl kd_), some (.inl k_)], [], S0_) (fun ro9_ => (∃ u_ S1_, ro9_ = (.inl u_, S1_, 0) ∧ vq_218t kd_ k_ S0_ u_ S1_) ∨ ∃ ex_ S1_, ro9_ = (.inr ex_, S1_, 1) ∧ ex_ ∈ ([1] : List Nat) ∧ vx_218t kd_ k_ S0_ S1_) := by
  have hF_ : ai_fr (sx_W vw_218t) S0_ S0_ := ai_fr_rf
  refine sm_T_go 1 (c1 := (1, [some (.inr (.inr (some (12, 0)))), some (.inl kd_), some (.inl k_)], [.inl kd_], S0_)) rfl ?_
  refine sm_T_b0 (a := 2) (z := 12) rfl (fun cx1_ => ?_) (fun cx1_ => ?_)
  · have cx1_ : kd_ < 0 := of_decide_eq_true cx1_
    refine sm_T_go 1 (c1 := (14, [some (.inr (.inr (some (12, 0)))), some (.inl kd_), some (.inl k_)], [.inl 0], S0_)) rfl ?_
    refine sm_T_cale (d1_ := 0) (Q1_ := vq_266e 0 S0_) (Q2_ := (fun ex_ S1_ => ex_ ∈ ([1] : List Nat) ∧ vx_266e 0 S0_ S1_)) rfl rfl (by decide) (vc_266e 0 S0_ hI_ ) rfl (fun xx7_ Sx2_ px5_ => ?_) (fun u_ Sx2_ px5_ => ?_)
    · obtain ⟨px5m, hIx3_, hFx4_, px5_⟩ := px5_
      refine Or.inr ⟨_, _, rfl, by first | exact px5m | (simp only [List.mem_cons, List.not_mem_nil, or_false] at px5m ⊢; omega), hIx3_, ai_fr_tr hF_ (fr_le hFx4_ rfl), ?_⟩
      exact ⟨px5_.2, by (have y9_ := px5_.1; unfold okc_isThere; omega)⟩
    · exact absurd rfl px5_.2.2.2.1
  · have cx1_ : ¬ (kd_ < 0) := of_decide_eq_false cx1_
    refine sm_T_go 2 (c1 := (6, [some (.inr (.inr (some (12, 0)))), some (.inl kd_), some (.inl k_)], [.inl 2, .inl kd_], S0_)) rfl ?_
    refine sm_T_br (a := 4) (z := 7) rfl (fun cx8_ => ?_) (fun cx8_ => ?_)
    · have cx8_ : 2 < kd_ := of_decide_eq_true cx8_
      refine sm_T_go 1 (c1 := (14, [some (.inr (.inr (some (12, 0)))), some (.inl kd_), some (.inl k_)], [.inl 0], S0_)) rfl ?_
      refine sm_T_cale (d1_ := 0) (Q1_ := vq_266e 0 S0_) (Q2_ := (fun ex_ S1_ => ex_ ∈ ([1] : List Nat) ∧ vx_266e 0 S0_ S1_)) rfl rfl (by decide) (vc_266e 0 S0_ hI_ ) rfl (fun xx14_ Sx9_ px12_ => ?_) (fun u_ Sx9_ px12_ => ?_)
      · obtain ⟨px12m, hIx10_, hFx11_, px12_⟩ := px12_
        refine Or.inr ⟨_, _, rfl, by first | exact px12m | (simp only [List.mem_cons, List.not_mem_nil, or_false] at px12m ⊢; omega), hIx10_, ai_fr_tr hF_ (fr_le hFx11_ rfl), ?_⟩
        exact ⟨px12_.2, by (have y9_ := px12_.1; unfold okc_isThere; omega)⟩
      · exact absurd rfl px12_.2.2.2.1
    · have cx8_ : ¬ (2 < kd_) := of_decide_eq_false cx8_
      refine sm_T_go 2 (c1 := (14, [some (.inr (.inr (some (12, 0)))), some (.inl kd_), some (.inl k_)], [.inl 1], S0_)) rfl ?_
      refine sm_T_cale (d1_ := 0) (Q1_ := vq_266e 1 S0_) (Q2_ := (fun ex_ S1_ => ex_ ∈ ([1] : List Nat) ∧ vx_266e 1 S0_ S1_)) rfl rfl (by decide) (vc_266e 1 S0_ hI_ ) rfl (fun xx20_ Sx15_ px18_ => ?_) (fun u_ Sx15_ px18_ => ?_)
      · exact absurd px18_.2.2.2.1 (by decide)
      obtain ⟨rfl, -, -, px18_, rfl⟩ := px18_
      refine sm_T_go 1 (c1 := (18, [some (.inr (.inr (some (12, 0)))), some (.inl kd_), some (.inl k_)], [.inl kd_], S0_)) rfl ?_
      refine sm_T_b0 (a := 1) (z := 31) rfl (fun cx21_ => ?_) (fun cx21_ => ?_)
      · have cx21_ : kd_ ≠ 0 := of_decide_eq_true cx21_
        refine sm_T_go 2 (c1 := (51, [some (.inr (.inr (some (12, 0)))), some (.inl kd_), some (.inl k_)], [.inl 1, .inl kd_], S0_)) rfl ?_
        refine sm_T_br (a := 1) (z := 30) rfl (fun cx22_ => ?_) (fun cx22_ => ?_)
        · have cx22_ : kd_ ≠ 1 := of_decide_eq_true cx22_
          refine sm_T_go 1 (c1 := (82, [some (.inr (.inr (some (12, 0)))), some (.inl kd_), some (.inl k_)], [.inl k_], S0_)) rfl ?_
          refine sm_T_b0 (a := 2) (z := 24) rfl (fun cx23_ => ?_) (fun cx23_ => ?_)
          · have cx23_ : k_ < 0 := of_decide_eq_true cx23_
            refine sm_T_go 1 (c1 := (107, [some (.inr (.inr (some (12, 0)))), some (.inl kd_), some (.inl k_)], [.inl 0], S0_)) rfl ?_
            refine sm_T_rz rfl (by omega) (Or.inl ⟨_, _, rfl, _, rfl, hI_, hF_, ?_⟩)
            refine ⟨rfl, by (unfold okc_isThere; omega), ?_⟩; unfold vac_isThere; first | (rw [if_pos (by omega)]; done) | (rw [if_neg (by omega)]; done) | (rw [if_pos (by omega)]; omega) | (rw [if_neg (by omega)]; omega)
          · have cx23_ : ¬ (k_ < 0) := of_decide_eq_false cx23_
            refine sm_T_go 2 (c1 := (87, [some (.inr (.inr (some (12, 0)))), some (.inl kd_), some (.inl k_)], [.inl 4, .inl k_], S0_)) rfl ?_
            refine sm_T_br (a := 3) (z := 19) rfl (fun cx24_ => ?_) (fun cx24_ => ?_)
            · have cx24_ : 4 ≤ k_ := of_decide_eq_true cx24_
              refine sm_T_go 1 (c1 := (107, [some (.inr (.inr (some (12, 0)))), some (.inl kd_), some (.inl k_)], [.inl 0], S0_)) rfl ?_
              refine sm_T_rz rfl (by omega) (Or.inl ⟨_, _, rfl, _, rfl, hI_, hF_, ?_⟩)
              refine ⟨rfl, by (unfold okc_isThere; omega), ?_⟩; unfold vac_isThere; first | (rw [if_pos (by omega)]; done) | (rw [if_neg (by omega)]; done) | (rw [if_pos (by omega)]; omega) | (rw [if_neg (by omega)]; omega)
            · have cx24_ : ¬ (4 ≤ k_) := of_decide_eq_false cx24_
              refine sm_T_go 3 (c1 := (95, [some (.inr (.inr (some (12, 0)))), some (.inl kd_), some (.inl k_)], [.inl k_, .inr (.inr (some (112, 0)))], S0_)) rfl ?_
              refine sm_T_aald (t0 := 6) (n := 4) rfl rfl (by omega) (by omega) ?_
              have bx25_ : 0 ≤ S0_.1 2 k_.toNat 0 ∧ S0_.1 2 k_.toNat 0 ≤ 1 := hI_.1 2 k_.toNat 0 rfl
              refine sm_T_go 1 (c1 := (99, [some (.inr (.inr (some (12, 0)))), some (.inl kd_), some (.inl k_)], [.inl (S0_.1 2 k_.toNat 0)], S0_)) rfl ?_
              refine sm_T_b0 (a := 0) (z := 7) rfl (fun cx26_ => ?_) (fun cx26_ => ?_)
              · have cx26_ : (S0_.1 2 k_.toNat 0) = 0 := of_decide_eq_true cx26_
                refine sm_T_go 1 (c1 := (107, [some (.inr (.inr (some (12, 0)))), some (.inl kd_), some (.inl k_)], [.inl 0], S0_)) rfl ?_
                refine sm_T_rz rfl (by omega) (Or.inl ⟨_, _, rfl, _, rfl, hI_, hF_, ?_⟩)
                refine ⟨rfl, by (unfold okc_isThere; omega), ?_⟩; unfold vac_isThere; first | (rw [if_pos (by omega)]; done) | (rw [if_neg (by omega)]; done) | (rw [if_pos (by omega)]; omega) | (rw [if_neg (by omega)]; omega)
              · have cx26_ : ¬ ((S0_.1 2 k_.toNat 0) = 0) := of_decide_eq_false cx26_
                refine sm_T_go 2 (c1 := (107, [some (.inr (.inr (some (12, 0)))), some (.inl kd_), some (.inl k_)], [.inl 1], S0_)) rfl ?_
                refine sm_T_rz rfl (by omega) (Or.inl ⟨_, _, rfl, _, rfl, hI_, hF_, ?_⟩)
                refine ⟨rfl, by (unfold okc_isThere; omega), ?_⟩; unfold vac_isThere; first | (rw [if_pos (by omega)]; done) | (rw [if_neg (by omega)]; done) | (rw [if_pos (by omega)]; omega) | (rw [if_neg (by omega)]; omega)
        · have cx22_ : ¬ (kd_ ≠ 1) := of_decide_eq_false cx22_
          refine sm_T_go 1 (c1 := (55, [some (.inr (.inr (some (12, 0)))), some (.inl kd_), some (.inl k_)], [.inl k_], S0_)) rfl ?_
          refine sm_T_b0 (a := 2) (z := 24) rfl (fun cx27_ => ?_) (fun cx27_ => ?_)
          · have cx27_ : k_ < 0 := of_decide_eq_true cx27_
            refine sm_T_go 1 (c1 := (80, [some (.inr (.inr (some (12, 0)))), some (.inl kd_), some (.inl k_)], [.inl 0], S0_)) rfl ?_
            refine sm_T_rz rfl (by omega) (Or.inl ⟨_, _, rfl, _, rfl, hI_, hF_, ?_⟩)
            refine ⟨rfl, by (unfold okc_isThere; omega), ?_⟩; unfold vac_isThere; first | (rw [if_pos (by omega)]; done) | (rw [if_neg (by omega)]; done) | (rw [if_pos (by omega)]; omega) | (rw [if_neg (by omega)]; omega)
          · have cx27_ : ¬ (k_ < 0) := of_decide_eq_false cx27_
            refine sm_T_go 2 (c1 := (60, [some (.inr (.inr (some (12, 0)))), some (.inl kd_), some (.inl k_)], [.inl 3, .inl k_], S0_)) rfl ?_
            refine sm_T_br (a := 3) (z := 19) rfl (fun cx28_ => ?_) (fun cx28_ => ?_)
            · have cx28_ : 3 ≤ k_ := of_decide_eq_true cx28_
              refine sm_T_go 1 (c1 := (80, [some (.inr (.inr (some (12, 0)))), some (.inl kd_), some (.inl k_)], [.inl 0], S0_)) rfl ?_
              refine sm_T_rz rfl (by omega) (Or.inl ⟨_, _, rfl, _, rfl, hI_, hF_, ?_⟩)
              refine ⟨rfl, by (unfold okc_isThere; omega), ?_⟩; unfold vac_isThere; first | (rw [if_pos (by omega)]; done) | (rw [if_neg (by omega)]; done) | (rw [if_pos (by omega)]; omega) | (rw [if_neg (by omega)]; omega)
            · have cx28_ : ¬ (3 ≤ k_) := of_decide_eq_false cx28_
              refine sm_T_go 3 (c1 := (68, [some (.inr (.inr (some (12, 0)))), some (.inl kd_), some (.inl k_)], [.inl k_, .inr (.inr (some (111, 0)))], S0_)) rfl ?_
              refine sm_T_aald (t0 := 5) (n := 3) rfl rfl (by omega) (by omega) ?_
              have bx29_ : 0 ≤ S0_.1 5 k_.toNat 0 ∧ S0_.1 5 k_.toNat 0 ≤ 1 := hI_.1 5 k_.toNat 0 rfl
              refine sm_T_go 1 (c1 := (72, [some (.inr (.inr (some (12, 0)))), some (.inl kd_), some (.inl k_)], [.inl (S0_.1 5 k_.toNat 0)], S0_)) rfl ?_
              refine sm_T_b0 (a := 0) (z := 7) rfl (fun cx30_ => ?_) (fun cx30_ => ?_)
              · have cx30_ : (S0_.1 5 k_.toNat 0) = 0 := of_decide_eq_true cx30_
                refine sm_T_go 1 (c1 := (80, [some (.inr (.inr (some (12, 0)))), some (.inl kd_), some (.inl k_)], [.inl 0], S0_)) rfl ?_
                refine sm_T_rz rfl (by omega) (Or.inl ⟨_, _, rfl, _, rfl, hI_, hF_, ?_⟩)
                refine ⟨rfl, by (unfold okc_isThere; omega), ?_⟩; unfold vac_isThere; first | (rw [if_pos (by omega)]; done) | (rw [if_neg (by omega)]; done) | (rw [if_pos (by omega)]; omega) | (rw [if_neg (by omega)]; omega)
              · have cx30_ : ¬ ((S0_.1 5 k_.toNat 0) = 0) := of_decide_eq_false cx30_
                refine sm_T_go 2 (c1 := (80, [some (.inr (.inr (some (12, 0)))), some (.inl kd_), some (.inl k_)], [.inl 1], S0_)) rfl ?_
                refine sm_T_rz rfl (by omega) (Or.inl ⟨_, _, rfl, _, rfl, hI_, hF_, ?_⟩)
                refine ⟨rfl, by (unfold okc_isThere; omega), ?_⟩; unfold vac_isThere; first | (rw [if_pos (by omega)]; done) | (rw [if_neg (by omega)]; done) | (rw [if_pos (by omega)]; omega) | (rw [if_neg (by omega)]; omega)
      · have cx21_ : ¬ (kd_ ≠ 0) := of_decide_eq_false cx21_
        refine sm_T_go 1 (c1 := (22, [some (.inr (.inr (some (12, 0)))), some (.inl kd_), some (.inl k_)], [.inl k_], S0_)) rfl ?_
        refine sm_T_b0 (a := 2) (z := 25) rfl (fun cx31_ => ?_) (fun cx31_ => ?_)
        · have cx31_ : k_ < 0 := of_decide_eq_true cx31_
          refine sm_T_go 1 (c1 := (48, [some (.inr (.inr (some (12, 0)))), some (.inl kd_), some (.inl k_)], [.inl 0], S0_)) rfl ?_
          refine sm_T_rz rfl (by omega) (Or.inl ⟨_, _, rfl, _, rfl, hI_, hF_, ?_⟩)
          refine ⟨rfl, by (unfold okc_isThere; omega), ?_⟩; unfold vac_isThere; first | (rw [if_pos (by omega)]; done) | (rw [if_neg (by omega)]; done) | (rw [if_pos (by omega)]; omega) | (rw [if_neg (by omega)]; omega)
        · have cx31_ : ¬ (k_ < 0) := of_decide_eq_false cx31_
          refine sm_T_go 2 (c1 := (28, [some (.inr (.inr (some (12, 0)))), some (.inl kd_), some (.inl k_)], [.inl 6, .inl k_], S0_)) rfl ?_
          refine sm_T_br (a := 3) (z := 19) rfl (fun cx32_ => ?_) (fun cx32_ => ?_)
          · have cx32_ : 6 ≤ k_ := of_decide_eq_true cx32_
            refine sm_T_go 1 (c1 := (48, [some (.inr (.inr (some (12, 0)))), some (.inl kd_), some (.inl k_)], [.inl 0], S0_)) rfl ?_
            refine sm_T_rz rfl (by omega) (Or.inl ⟨_, _, rfl, _, rfl, hI_, hF_, ?_⟩)
            refine ⟨rfl, by (unfold okc_isThere; omega), ?_⟩; unfold vac_isThere; first | (rw [if_pos (by omega)]; done) | (rw [if_neg (by omega)]; done) | (rw [if_pos (by omega)]; omega) | (rw [if_neg (by omega)]; omega)
          · have cx32_ : ¬ (6 ≤ k_) := of_decide_eq_false cx32_
            refine sm_T_go 3 (c1 := (36, [some (.inr (.inr (some (12, 0)))), some (.inl kd_), some (.inl k_)], [.inl k_, .inr (.inr (some (110, 0)))], S0_)) rfl ?_
            refine sm_T_aald (t0 := 4) (n := 6) rfl rfl (by omega) (by omega) ?_
            have bx33_ : 0 ≤ S0_.1 3 k_.toNat 0 ∧ S0_.1 3 k_.toNat 0 ≤ 1 := hI_.1 3 k_.toNat 0 rfl
            refine sm_T_go 1 (c1 := (40, [some (.inr (.inr (some (12, 0)))), some (.inl kd_), some (.inl k_)], [.inl (S0_.1 3 k_.toNat 0)], S0_)) rfl ?_
            refine sm_T_b0 (a := 0) (z := 7) rfl (fun cx34_ => ?_) (fun cx34_ => ?_)
            · have cx34_ : (S0_.1 3 k_.toNat 0) = 0 := of_decide_eq_true cx34_
              refine sm_T_go 1 (c1 := (48, [some (.inr (.inr (some (12, 0)))), some (.inl kd_), some (.inl k_)], [.inl 0], S0_)) rfl ?_
              refine sm_T_rz rfl (by omega) (Or.inl ⟨_, _, rfl, _, rfl, hI_, hF_, ?_⟩)
              refine ⟨rfl, by (unfold okc_isThere; omega), ?_⟩; unfold vac_isThere; first | (rw [if_pos (by omega)]; done) | (rw [if_neg (by omega)]; done) | (rw [if_pos (by omega)]; omega) | (rw [if_neg (by omega)]; omega)
            · have cx34_ : ¬ ((S0_.1 3 k_.toNat 0) = 0) := of_decide_eq_false cx34_
              refine sm_T_go 2 (c1 := (48, [some (.inr (.inr (some (12, 0)))), some (.inl kd_), some (.inl k_)], [.inl 1], S0_)) rfl ?_
              refine sm_T_rz rfl (by omega) (Or.inl ⟨_, _, rfl, _, rfl, hI_, hF_, ?_⟩)
              refine ⟨rfl, by (unfold okc_isThere; omega), ?_⟩; unfold vac_isThere; first | (rw [if_pos (by omega)]; done) | (rw [if_neg (by omega)]; done) | (rw [if_pos (by omega)]; omega) | (rw [if_neg (by omega)]; omega)
def oka_alter (kk_ g_ cl_ : Int) (S_ : sm_S) : Prop := (0 ≤ kk_ ∧ kk_ < 4 ∧ S_.1 2 kk_.toNat 0 = 1) ∧ (0 ≤ g_ ∧ g_ < S_.1 2 kk_.toNat 8) ∧ (0 ≤ cl_ ∧ cl_ < S_.1 5 (3 + kk_.toNat) 1)
def okc_alter (kk_ g_ cl_ : Int) (S_ : sm_S) : Prop := oka_alter kk_ g_ cl_ S_ ∧ S_.2.2.1 55 (0 + (3 + kk_.toNat)) cl_.toNat = S_.2.2.1 55 (0 + (3 + kk_.toNat)) (S_.2.2.1 35 (0 + kk_.toNat) g_.toNat).toNat
/-! ChipFlow.alter -/
def vw_234n : sx_Wl := ([(0, 16), (2, 15), (2, 19), (9, 1), (9, 2), (9, 3)], [34, 35, 92, 93, 94, 96], [(9, 0)])
def vq_234n (kk_ : Int) (g_ : Int) (cl_ : Int) (S0_ : sm_S) (u_ : Option sm_V) (S1_ : sm_S) : Prop := ∃ v_ : Int, u_ = some (.inl v_) ∧ gi S1_ ∧ ai_fr (sx_W vw_234n) S0_ S1_ ∧ (cdf kk_.toNat S0_ S1_ ∧ (jC S1_ ∧ okc_alter kk_ g_ cl_ S0_ ∧ v_ = S0_.2.2.1 35 (0 + kk_.toNat) g_.toNat ∧ ∀ j_, S1_.2.2.1 35 (0 + kk_.toNat) j_ = if j_ = g_.toNat then cl_ else S0_.2.2.1 35 (0 + kk_.toNat) j_))
def vx_234n (kk_ : Int) (g_ : Int) (cl_ : Int) (S0_ : sm_S) (ex_ : Nat) (S1_ : sm_S) : Prop := gi S1_ ∧ ai_fr (sx_W vw_234n) S0_ S1_ ∧ (S1_ = S0_ ∧ ((ex_ = 0 ∧ ¬ oka_alter kk_ g_ cl_ S0_) ∨ (ex_ = 1 ∧ oka_alter kk_ g_ cl_ S0_ ∧ ¬ okc_alter kk_ g_ cl_ S0_)))
set_option maxHeartbeats 400000 in
theorem vc_234n {sc_ : Nat × (Nat → Int)} (kk_ : Int) (g_ : Int) (cl_ : Int) (S0_ : sm_S) (hI_ : gi S0_) (hJ_ : jC S0_) : sm_T (mt_P sc_) 5 234 (0, [some (.inr (.inr (some (12, 0)))), some (.inl kk_), some (.inl g_), some (.inl cl_), none, none], [], S0_) (fun ro9_ => (∃ u_ S1_, ro9_ = (.inl u_, S1_, 0) ∧ vq_234n kk_ g_ cl_ S0_ u_ S1_) ∨ ∃ ex_ S1_, ro9_ = (.inr ex_, S1_, 1) ∧ ex_ ∈ ([0, 1] : List Nat) ∧ vx_234n kk_ g_ cl_ S0_ ex_ S1_) := by
  have hF_ : ai_fr (sx_W vw_234n) S0_ S0_ := ai_fr_rf
  have hC_ : cdf kk_.toNat S0_ S0_ := cdf_rf
  refine sm_T_go 2 (c1 := (2, [some (.inr (.inr (some (12, 0)))), some (.inl kk_), some (.inl g_), some (.inl cl_), none, none], [.inl kk_, .inr (.inr (some (12, 0)))], S0_)) rfl ?_
  refine sm_T_cale (d1_ := 1) (Q1_ := vq_272t kk_ S0_) (Q2_ := (fun ex_ S1_ => ex_ ∈ ([0] : List Nat) ∧ vx_272t kk_ S0_ S1_)) rfl rfl (by decide) (vc_272t kk_ S0_ hI_ ) rfl (fun xx6_ Sx1_ px4_ => ?_) (fun u_ Sx1_ px4_ => ?_)
  · obtain ⟨px4m, hIx2_, hFx3_, px4_⟩ := px4_
    refine Or.inr ⟨_, _, rfl, by first | exact px4m | (simp only [List.mem_cons, List.not_mem_nil, or_false] at px4m ⊢; omega), hIx2_, ai_fr_tr hF_ (fr_le hFx3_ rfl), ?_⟩
    exact ⟨px4_.1, Or.inl ⟨List.mem_singleton.mp px4m, fun y9_ => px4_.2 y9_.1⟩⟩
  obtain ⟨rfl, -, -, rfl, px4_⟩ := px4_
  have a9_ := px4_
  have J9_ := hJ_.2.1 kk_.toNat (by omega) a9_.2
  have J1_ := J9_.1
  have q9_ := a9_.2
  have c8_ : 0 ≤ S0_.1 2 (kk_.toNat) 8 ∧ S0_.1 2 (kk_.toNat) 8 ≤ 150 := hI_.1 2 (kk_.toNat) 8 rfl
  have c1_ : 0 ≤ S0_.1 2 (kk_.toNat) 1 ∧ S0_.1 2 (kk_.toNat) 1 ≤ 12 := hI_.1 2 (kk_.toNat) 1 rfl
  have c2_ : 0 ≤ S0_.1 2 (kk_.toNat) 2 ∧ S0_.1 2 (kk_.toNat) 2 ≤ 6 := hI_.1 2 (kk_.toNat) 2 rfl
  refine sm_T_go 2 (c1 := (8, [some (.inr (.inr (some (12, 0)))), some (.inl kk_), some (.inl g_), some (.inl cl_), some (.inr (.inr (some (2, kk_.toNat)))), none], [.inl g_], S0_)) rfl ?_
  refine sm_T_b0 (a := 2) (z := 16) rfl (fun cx7_ => ?_) (fun cx7_ => ?_)
  · have cx7_ : g_ < 0 := of_decide_eq_true cx7_
    refine sm_T_go 1 (c1 := (25, [some (.inr (.inr (some (12, 0)))), some (.inl kk_), some (.inl g_), some (.inl cl_), some (.inr (.inr (some (2, kk_.toNat)))), none], [.inl 0], S0_)) rfl ?_
    refine sm_T_cale (d1_ := 0) (Q1_ := vq_265e 0 S0_) (Q2_ := (fun ex_ S1_ => ex_ ∈ ([0] : List Nat) ∧ vx_265e 0 S0_ S1_)) rfl rfl (by decide) (vc_265e 0 S0_ hI_ ) rfl (fun xx13_ Sx8_ px11_ => ?_) (fun u_ Sx8_ px11_ => ?_)
    · obtain ⟨px11m, hIx9_, hFx10_, px11_⟩ := px11_
      refine Or.inr ⟨_, _, rfl, by first | exact px11m | (simp only [List.mem_cons, List.not_mem_nil, or_false] at px11m ⊢; omega), hIx9_, ai_fr_tr hF_ (fr_le hFx10_ rfl), ?_⟩
      first | exact ⟨px11_.2, Or.inl ⟨List.mem_singleton.mp px11m, by (have y9_ := px11_.1; unfold oka_alter; omega)⟩⟩ | exact ⟨px11_.2, Or.inr ⟨List.mem_singleton.mp px11m, by (unfold oka_alter; omega), by (have y9_ := px11_.1; unfold okc_alter oka_alter; omega)⟩⟩
    · exact absurd rfl px11_.2.2.2.1
  · have cx7_ : ¬ (g_ < 0) := of_decide_eq_false cx7_
    have bx14_ : 0 ≤ S0_.1 2 kk_.toNat 8 ∧ S0_.1 2 kk_.toNat 8 ≤ 150 := hI_.1 2 kk_.toNat 8 rfl
    refine sm_T_go 3 (c1 := (17, [some (.inr (.inr (some (12, 0)))), some (.inl kk_), some (.inl g_), some (.inl cl_), some (.inr (.inr (some (2, kk_.toNat)))), none], [.inl (S0_.1 2 kk_.toNat 8), .inl g_], S0_)) rfl ?_
    refine sm_T_br (a := 3) (z := 7) rfl (fun cx15_ => ?_) (fun cx15_ => ?_)
    · have cx15_ : (S0_.1 2 kk_.toNat 8) ≤ g_ := of_decide_eq_true cx15_
      refine sm_T_go 1 (c1 := (25, [some (.inr (.inr (some (12, 0)))), some (.inl kk_), some (.inl g_), some (.inl cl_), some (.inr (.inr (some (2, kk_.toNat)))), none], [.inl 0], S0_)) rfl ?_
      refine sm_T_cale (d1_ := 0) (Q1_ := vq_265e 0 S0_) (Q2_ := (fun ex_ S1_ => ex_ ∈ ([0] : List Nat) ∧ vx_265e 0 S0_ S1_)) rfl rfl (by decide) (vc_265e 0 S0_ hI_ ) rfl (fun xx21_ Sx16_ px19_ => ?_) (fun u_ Sx16_ px19_ => ?_)
      · obtain ⟨px19m, hIx17_, hFx18_, px19_⟩ := px19_
        refine Or.inr ⟨_, _, rfl, by first | exact px19m | (simp only [List.mem_cons, List.not_mem_nil, or_false] at px19m ⊢; omega), hIx17_, ai_fr_tr hF_ (fr_le hFx18_ rfl), ?_⟩
        first | exact ⟨px19_.2, Or.inl ⟨List.mem_singleton.mp px19m, by (have y9_ := px19_.1; unfold oka_alter; omega)⟩⟩ | exact ⟨px19_.2, Or.inr ⟨List.mem_singleton.mp px19m, by (unfold oka_alter; omega), by (have y9_ := px19_.1; unfold okc_alter oka_alter; omega)⟩⟩
      · exact absurd rfl px19_.2.2.2.1
    · have cx15_ : ¬ ((S0_.1 2 kk_.toNat 8) ≤ g_) := of_decide_eq_false cx15_
      refine sm_T_go 2 (c1 := (25, [some (.inr (.inr (some (12, 0)))), some (.inl kk_), some (.inl g_), some (.inl cl_), some (.inr (.inr (some (2, kk_.toNat)))), none], [.inl 1], S0_)) rfl ?_
      refine sm_T_cale (d1_ := 0) (Q1_ := vq_265e 1 S0_) (Q2_ := (fun ex_ S1_ => ex_ ∈ ([0] : List Nat) ∧ vx_265e 1 S0_ S1_)) rfl rfl (by decide) (vc_265e 1 S0_ hI_ ) rfl (fun xx27_ Sx22_ px25_ => ?_) (fun u_ Sx22_ px25_ => ?_)
      · exact absurd px25_.2.2.2.1 (by decide)
      obtain ⟨rfl, -, -, px25_, rfl⟩ := px25_
      refine sm_T_go 1 (c1 := (29, [some (.inr (.inr (some (12, 0)))), some (.inl kk_), some (.inl g_), some (.inl cl_), some (.inr (.inr (some (2, kk_.toNat)))), none], [.inl cl_], S0_)) rfl ?_
      refine sm_T_b0 (a := 2) (z := 19) rfl (fun cx28_ => ?_) (fun cx28_ => ?_)
      · have cx28_ : cl_ < 0 := of_decide_eq_true cx28_
        refine sm_T_go 1 (c1 := (49, [some (.inr (.inr (some (12, 0)))), some (.inl kk_), some (.inl g_), some (.inl cl_), some (.inr (.inr (some (2, kk_.toNat)))), none], [.inl 0], S0_)) rfl ?_
        refine sm_T_cale (d1_ := 0) (Q1_ := vq_265e 0 S0_) (Q2_ := (fun ex_ S1_ => ex_ ∈ ([0] : List Nat) ∧ vx_265e 0 S0_ S1_)) rfl rfl (by decide) (vc_265e 0 S0_ hI_ ) rfl (fun xx34_ Sx29_ px32_ => ?_) (fun u_ Sx29_ px32_ => ?_)
        · obtain ⟨px32m, hIx30_, hFx31_, px32_⟩ := px32_
          refine Or.inr ⟨_, _, rfl, by first | exact px32m | (simp only [List.mem_cons, List.not_mem_nil, or_false] at px32m ⊢; omega), hIx30_, ai_fr_tr hF_ (fr_le hFx31_ rfl), ?_⟩
          first | exact ⟨px32_.2, Or.inl ⟨List.mem_singleton.mp px32m, by (have y9_ := px32_.1; unfold oka_alter; omega)⟩⟩ | exact ⟨px32_.2, Or.inr ⟨List.mem_singleton.mp px32m, by (unfold oka_alter; omega), by (have y9_ := px32_.1; unfold okc_alter oka_alter; omega)⟩⟩
        · exact absurd rfl px32_.2.2.2.1
      · have cx28_ : ¬ (cl_ < 0) := of_decide_eq_false cx28_
        have bx35_ : 0 ≤ S0_.1 5 (3 + kk_.toNat) 1 ∧ S0_.1 5 (3 + kk_.toNat) 1 ≤ 12 := hI_.1 5 (3 + kk_.toNat) 1 rfl
        refine sm_T_go 4 (c1 := (41, [some (.inr (.inr (some (12, 0)))), some (.inl kk_), some (.inl g_), some (.inl cl_), some (.inr (.inr (some (2, kk_.toNat)))), none], [.inl (S0_.1 5 (3 + kk_.toNat) 1), .inl cl_], S0_)) rfl ?_
        refine sm_T_br (a := 3) (z := 7) rfl (fun cx36_ => ?_) (fun cx36_ => ?_)
        · have cx36_ : (S0_.1 5 (3 + kk_.toNat) 1) ≤ cl_ := of_decide_eq_true cx36_
          refine sm_T_go 1 (c1 := (49, [some (.inr (.inr (some (12, 0)))), some (.inl kk_), some (.inl g_), some (.inl cl_), some (.inr (.inr (some (2, kk_.toNat)))), none], [.inl 0], S0_)) rfl ?_
          refine sm_T_cale (d1_ := 0) (Q1_ := vq_265e 0 S0_) (Q2_ := (fun ex_ S1_ => ex_ ∈ ([0] : List Nat) ∧ vx_265e 0 S0_ S1_)) rfl rfl (by decide) (vc_265e 0 S0_ hI_ ) rfl (fun xx42_ Sx37_ px40_ => ?_) (fun u_ Sx37_ px40_ => ?_)
          · obtain ⟨px40m, hIx38_, hFx39_, px40_⟩ := px40_
            refine Or.inr ⟨_, _, rfl, by first | exact px40m | (simp only [List.mem_cons, List.not_mem_nil, or_false] at px40m ⊢; omega), hIx38_, ai_fr_tr hF_ (fr_le hFx39_ rfl), ?_⟩
            first | exact ⟨px40_.2, Or.inl ⟨List.mem_singleton.mp px40m, by (have y9_ := px40_.1; unfold oka_alter; omega)⟩⟩ | exact ⟨px40_.2, Or.inr ⟨List.mem_singleton.mp px40m, by (unfold oka_alter; omega), by (have y9_ := px40_.1; unfold okc_alter oka_alter; omega)⟩⟩
          · exact absurd rfl px40_.2.2.2.1
        · have cx36_ : ¬ ((S0_.1 5 (3 + kk_.toNat) 1) ≤ cl_) := of_decide_eq_false cx36_
          refine sm_T_go 2 (c1 := (49, [some (.inr (.inr (some (12, 0)))), some (.inl kk_), some (.inl g_), some (.inl cl_), some (.inr (.inr (some (2, kk_.toNat)))), none], [.inl 1], S0_)) rfl ?_
          refine sm_T_cale (d1_ := 0) (Q1_ := vq_265e 1 S0_) (Q2_ := (fun ex_ S1_ => ex_ ∈ ([0] : List Nat) ∧ vx_265e 1 S0_ S1_)) rfl rfl (by decide) (vc_265e 1 S0_ hI_ ) rfl (fun xx48_ Sx43_ px46_ => ?_) (fun u_ Sx43_ px46_ => ?_)
          · exact absurd px46_.2.2.2.1 (by decide)
          obtain ⟨rfl, -, -, px46_, rfl⟩ := px46_
          refine sm_T_go 4 (c1 := (61, [some (.inr (.inr (some (12, 0)))), some (.inl kk_), some (.inl g_), some (.inl cl_), some (.inr (.inr (some (2, kk_.toNat)))), none], [.inl cl_, .inr (.inr (some (55, (0 + (3 + kk_.toNat)))))], S0_)) rfl ?_
          refine sm_T_iald (n := 12) rfl rfl (by omega) (by omega) ?_
          have bx49_ : 0 ≤ S0_.2.2.1 55 (0 + (3 + kk_.toNat)) cl_.toNat ∧ S0_.2.2.1 55 (0 + (3 + kk_.toNat)) cl_.toNat ≤ 3 := hI_.2 55 (0 + (3 + kk_.toNat)) _
          refine sm_T_go 2 (c1 := (65, [some (.inr (.inr (some (12, 0)))), some (.inl kk_), some (.inl g_), some (.inl cl_), some (.inr (.inr (some (2, kk_.toNat)))), none], [.inl g_, .inr (.inr (some (2, kk_.toNat))), .inl (S0_.2.2.1 55 (0 + (3 + kk_.toNat)) cl_.toNat)], S0_)) rfl ?_
          refine sm_T_cal (d1 := 0) (Q1 := vq_59n g_ kk_.toNat S0_) rfl rfl (by decide) (vc_59n g_ kk_.toNat S0_ hI_ (by omega)) (fun u_ Sx50_ px53_ => ?_)
          obtain ⟨rfl, vx55_, rfl, px53_⟩ := px53_
          have g65_ := px53_
          refine sm_T_br (a := 1) (z := 7) rfl (fun cx56_ => ?_) (fun cx56_ => ?_)
          · have cx56_ : (S0_.2.2.1 55 (0 + (3 + kk_.toNat)) cl_.toNat) ≠ vx55_ := of_decide_eq_true cx56_
            refine sm_T_go 1 (c1 := (76, [some (.inr (.inr (some (12, 0)))), some (.inl kk_), some (.inl g_), some (.inl cl_), some (.inr (.inr (some (2, kk_.toNat)))), none], [.inl 0], S0_)) rfl ?_
            refine sm_T_cale (d1_ := 0) (Q1_ := vq_266e 0 S0_) (Q2_ := (fun ex_ S1_ => ex_ ∈ ([1] : List Nat) ∧ vx_266e 0 S0_ S1_)) rfl rfl (by decide) (vc_266e 0 S0_ hI_ ) rfl (fun xx62_ Sx57_ px60_ => ?_) (fun u_ Sx57_ px60_ => ?_)
            · obtain ⟨px60m, hIx58_, hFx59_, px60_⟩ := px60_
              refine Or.inr ⟨_, _, rfl, by first | exact px60m | (simp only [List.mem_cons, List.not_mem_nil, or_false] at px60m ⊢; omega), hIx58_, ai_fr_tr hF_ (fr_le hFx59_ rfl), ?_⟩
              first | exact ⟨px60_.2, Or.inl ⟨List.mem_singleton.mp px60m, by (have y9_ := px60_.1; unfold oka_alter; omega)⟩⟩ | exact ⟨px60_.2, Or.inr ⟨List.mem_singleton.mp px60m, by (unfold oka_alter; omega), by (have y9_ := px60_.1; unfold okc_alter oka_alter; omega)⟩⟩
            · exact absurd rfl px60_.2.2.2.1
          · have cx56_ : ¬ ((S0_.2.2.1 55 (0 + (3 + kk_.toNat)) cl_.toNat) ≠ vx55_) := of_decide_eq_false cx56_
            refine sm_T_go 2 (c1 := (76, [some (.inr (.inr (some (12, 0)))), some (.inl kk_), some (.inl g_), some (.inl cl_), some (.inr (.inr (some (2, kk_.toNat)))), none], [.inl 1], S0_)) rfl ?_
            refine sm_T_cale (d1_ := 0) (Q1_ := vq_266e 1 S0_) (Q2_ := (fun ex_ S1_ => ex_ ∈ ([1] : List Nat) ∧ vx_266e 1 S0_ S1_)) rfl rfl (by decide) (vc_266e 1 S0_ hI_ ) rfl (fun xx68_ Sx63_ px66_ => ?_) (fun u_ Sx63_ px66_ => ?_)
            · exact absurd px66_.2.2.2.1 (by decide)
            obtain ⟨rfl, -, -, px66_, rfl⟩ := px66_
            refine sm_T_go 3 (c1 := (85, [some (.inr (.inr (some (12, 0)))), some (.inl kk_), some (.inl g_), some (.inl cl_), some (.inr (.inr (some (2, kk_.toNat)))), none], [.inl g_, .inr (.inr (some (35, (0 + kk_.toNat))))], S0_)) rfl ?_
            refine sm_T_iald (n := 150) rfl rfl (by omega) (by omega) ?_
            have bx69_ : 0 ≤ S0_.2.2.1 35 (0 + kk_.toNat) g_.toNat ∧ S0_.2.2.1 35 (0 + kk_.toNat) g_.toNat ≤ 11 := hI_.2 35 (0 + kk_.toNat) _
            refine sm_T_go 5 (c1 := (95, [some (.inr (.inr (some (12, 0)))), some (.inl kk_), some (.inl g_), some (.inl cl_), some (.inr (.inr (some (2, kk_.toNat)))), some (.inl (S0_.2.2.1 35 (0 + kk_.toNat) g_.toNat))], [.inl cl_, .inl g_, .inr (.inr (some (35, (0 + kk_.toNat))))], S0_)) rfl ?_
            refine sm_T_iast (n := 150) rfl rfl (by omega) (by omega) ?_
            have hIx70_ : gi (sm_aI S0_ 35 (0 + kk_.toNat) g_.toNat cl_) := gi_aI hI_ (show 0 ≤ cl_ ∧ cl_ ≤ 11 from ⟨by omega, by omega⟩)
            have hFx71_ : ai_fr (sx_W vw_234n) S0_ (sm_aI S0_ 35 (0 + kk_.toNat) g_.toNat cl_) := ai_fr_tr hF_ (ai_fr_aI rfl)
            have hCx72_ : cdf kk_.toNat S0_ (sm_aI S0_ 35 (0 + kk_.toNat) g_.toNat cl_) := cdf_aI hC_ (Or.inr (by rw [show cof 35 = 0 from rfl] <;> omega))
            have hIx73_ : gi (sm_pI (sm_aI S0_ 35 (0 + kk_.toNat) g_.toNat cl_) 2 kk_.toNat 15 (-1)) := gi_pI hIx70_ (show (-1) ≤ (-1) ∧ (-1) ≤ 1224 from ⟨by omega, by omega⟩)
            have hFx74_ : ai_fr (sx_W vw_234n) S0_ (sm_pI (sm_aI S0_ 35 (0 + kk_.toNat) g_.toNat cl_) 2 kk_.toNat 15 (-1)) := ai_fr_tr hFx71_ (ai_fr_pI rfl)
            have hCx75_ : cdf kk_.toNat S0_ (sm_pI (sm_aI S0_ 35 (0 + kk_.toNat) g_.toNat cl_) 2 kk_.toNat 15 (-1)) := cdf_pI hCx72_ (Or.inr (by rw [show cof 2 = 0 from rfl] <;> omega))
            have bx76_ : (-2147483648) ≤ S0_.1 2 kk_.toNat 19 ∧ S0_.1 2 kk_.toNat 19 ≤ 2147483647 := hI_.1 2 kk_.toNat 19 rfl
            have ex77_ : (sm_pI (sm_aI S0_ 35 (0 + kk_.toNat) g_.toNat cl_) 2 kk_.toNat 15 (-1)).1 2 kk_.toNat 19 = (S0_.1 2 kk_.toNat 19) := by (try simp only [rf_eq, rf_nk, rf_nt, rd_fa, rd_af, ne_eq, Nat.reduceEqDiff, not_false_eq_true])
            refine sm_T_go 7 (c1 := (109, [some (.inr (.inr (some (12, 0)))), some (.inl kk_), some (.inl g_), some (.inl cl_), some (.inr (.inr (some (2, kk_.toNat)))), some (.inl (S0_.2.2.1 35 (0 + kk_.toNat) g_.toNat))], [.inl 1, .inl ((sm_pI (sm_aI S0_ 35 (0 + kk_.toNat) g_.toNat cl_) 2 kk_.toNat 15 (-1)).1 2 kk_.toNat 19), .inr (.inr (some (2, kk_.toNat)))], sm_pI (sm_aI S0_ 35 (0 + kk_.toNat) g_.toNat cl_) 2 kk_.toNat 15 (-1))) rfl ?_
            refine sm_T_bin (w := (i_add ((sm_pI (sm_aI S0_ 35 (0 + kk_.toNat) g_.toNat cl_) 2 kk_.toNat 15 (-1)).1 2 kk_.toNat 19) 1)) rfl rfl ?_ -- pc_ 109
            have bx78_ := i_add_r ((sm_pI (sm_aI S0_ 35 (0 + kk_.toNat) g_.toNat cl_) 2 kk_.toNat 15 (-1)).1 2 kk_.toNat 19) 1
            have hIx79_ : gi (sm_pI (sm_pI (sm_aI S0_ 35 (0 + kk_.toNat) g_.toNat cl_) 2 kk_.toNat 15 (-1)) 2 kk_.toNat 19 (i_add ((sm_pI (sm_aI S0_ 35 (0 + kk_.toNat) g_.toNat cl_) 2 kk_.toNat 15 (-1)).1 2 kk_.toNat 19) 1)) := gi_pI hIx73_ (show (-2147483648) ≤ (i_add ((sm_pI (sm_aI S0_ 35 (0 + kk_.toNat) g_.toNat cl_) 2 kk_.toNat 15 (-1)).1 2 kk_.toNat 19) 1) ∧ (i_add ((sm_pI (sm_aI S0_ 35 (0 + kk_.toNat) g_.toNat cl_) 2 kk_.toNat 15 (-1)).1 2 kk_.toNat 19) 1) ≤ 2147483647 from ⟨by omega, by omega⟩)
            have hFx80_ : ai_fr (sx_W vw_234n) S0_ (sm_pI (sm_pI (sm_aI S0_ 35 (0 + kk_.toNat) g_.toNat cl_) 2 kk_.toNat 15 (-1)) 2 kk_.toNat 19 (i_add ((sm_pI (sm_aI S0_ 35 (0 + kk_.toNat) g_.toNat cl_) 2 kk_.toNat 15 (-1)).1 2 kk_.toNat 19) 1)) := ai_fr_tr hFx74_ (ai_fr_pI rfl)
            have hCx81_ : cdf kk_.toNat S0_ (sm_pI (sm_pI (sm_aI S0_ 35 (0 + kk_.toNat) g_.toNat cl_) 2 kk_.toNat 15 (-1)) 2 kk_.toNat 19 (i_add ((sm_pI (sm_aI S0_ 35 (0 + kk_.toNat) g_.toNat cl_) 2 kk_.toNat 15 (-1)).1 2 kk_.toNat 19) 1)) := cdf_pI hCx75_ (Or.inr (by rw [show cof 2 = 0 from rfl] <;> omega))
            have bx82_ : (-2147483648) ≤ S0_.1 0 (0 + kk_.toNat) 16 ∧ S0_.1 0 (0 + kk_.toNat) 16 ≤ 2147483647 := hI_.1 0 (0 + kk_.toNat) 16 rfl
            refine sm_T_go 6 (c1 := (123, [some (.inr (.inr (some (12, 0)))), some (.inl kk_), some (.inl g_), some (.inl cl_), some (.inr (.inr (some (2, kk_.toNat)))), some (.inl (S0_.2.2.1 35 (0 + kk_.toNat) g_.toNat))], [.inl 1, .inl (S0_.1 0 (0 + kk_.toNat) 16), .inr (.inr (some (0, (0 + kk_.toNat))))], sm_pI (sm_pI (sm_aI S0_ 35 (0 + kk_.toNat) g_.toNat cl_) 2 kk_.toNat 15 (-1)) 2 kk_.toNat 19 (i_add ((sm_pI (sm_aI S0_ 35 (0 + kk_.toNat) g_.toNat cl_) 2 kk_.toNat 15 (-1)).1 2 kk_.toNat 19) 1))) rfl ?_
            refine sm_T_bin (w := (i_add (S0_.1 0 (0 + kk_.toNat) 16) 1)) rfl rfl ?_ -- pc_ 123
            have bx83_ := i_add_r (S0_.1 0 (0 + kk_.toNat) 16) 1
            have hIx84_ : gi (sm_pI (sm_pI (sm_pI (sm_aI S0_ 35 (0 + kk_.toNat) g_.toNat cl_) 2 kk_.toNat 15 (-1)) 2 kk_.toNat 19 (i_add ((sm_pI (sm_aI S0_ 35 (0 + kk_.toNat) g_.toNat cl_) 2 kk_.toNat 15 (-1)).1 2 kk_.toNat 19) 1)) 0 (0 + kk_.toNat) 16 (i_add (S0_.1 0 (0 + kk_.toNat) 16) 1)) := gi_pI hIx79_ (show (-2147483648) ≤ (i_add (S0_.1 0 (0 + kk_.toNat) 16) 1) ∧ (i_add (S0_.1 0 (0 + kk_.toNat) 16) 1) ≤ 2147483647 from ⟨by omega, by omega⟩)
            have hFx85_ : ai_fr (sx_W vw_234n) S0_ (sm_pI (sm_pI (sm_pI (sm_aI S0_ 35 (0 + kk_.toNat) g_.toNat cl_) 2 kk_.toNat 15 (-1)) 2 kk_.toNat 19 (i_add ((sm_pI (sm_aI S0_ 35 (0 + kk_.toNat) g_.toNat cl_) 2 kk_.toNat 15 (-1)).1 2 kk_.toNat 19) 1)) 0 (0 + kk_.toNat) 16 (i_add (S0_.1 0 (0 + kk_.toNat) 16) 1)) := ai_fr_tr hFx80_ (ai_fr_pI rfl)
            have hCx86_ : cdf kk_.toNat S0_ (sm_pI (sm_pI (sm_pI (sm_aI S0_ 35 (0 + kk_.toNat) g_.toNat cl_) 2 kk_.toNat 15 (-1)) 2 kk_.toNat 19 (i_add ((sm_pI (sm_aI S0_ 35 (0 + kk_.toNat) g_.toNat cl_) 2 kk_.toNat 15 (-1)).1 2 kk_.toNat 19) 1)) 0 (0 + kk_.toNat) 16 (i_add (S0_.1 0 (0 + kk_.toNat) 16) 1)) := cdf_pI hCx81_ (Or.inr (by rw [show cof 0 = 0 from rfl] <;> omega))
            refine sm_T_go 4 (c1 := (133, [some (.inr (.inr (some (12, 0)))), some (.inl kk_), some (.inl g_), some (.inl cl_), some (.inr (.inr (some (2, kk_.toNat)))), some (.inl (S0_.2.2.1 35 (0 + kk_.toNat) g_.toNat))], [.inr (.inr (some (2, kk_.toNat))), .inr (.inr (some (9, 0)))], sm_pI (sm_pI (sm_pI (sm_aI S0_ 35 (0 + kk_.toNat) g_.toNat cl_) 2 kk_.toNat 15 (-1)) 2 kk_.toNat 19 (i_add ((sm_pI (sm_aI S0_ 35 (0 + kk_.toNat) g_.toNat cl_) 2 kk_.toNat 15 (-1)).1 2 kk_.toNat 19) 1)) 0 (0 + kk_.toNat) 16 (i_add (S0_.1 0 (0 + kk_.toNat) 16) 1))) rfl ?_
            refine sm_T_cal (d1 := 4) (Q1 := vq_169 kk_.toNat (sm_pI (sm_pI (sm_pI (sm_aI S0_ 35 (0 + kk_.toNat) g_.toNat cl_) 2 kk_.toNat 15 (-1)) 2 kk_.toNat 19 (i_add ((sm_pI (sm_aI S0_ 35 (0 + kk_.toNat) g_.toNat cl_) 2 kk_.toNat 15 (-1)).1 2 kk_.toNat 19) 1)) 0 (0 + kk_.toNat) 16 (i_add (S0_.1 0 (0 + kk_.toNat) 16) 1))) rfl rfl (by decide) (vc_169 kk_.toNat (sm_pI (sm_pI (sm_pI (sm_aI S0_ 35 (0 + kk_.toNat) g_.toNat cl_) 2 kk_.toNat 15 (-1)) 2 kk_.toNat 19 (i_add ((sm_pI (sm_aI S0_ 35 (0 + kk_.toNat) g_.toNat cl_) 2 kk_.toNat 15 (-1)).1 2 kk_.toNat 19) 1)) 0 (0 + kk_.toNat) 16 (i_add (S0_.1 0 (0 + kk_.toNat) 16) 1)) hIx84_ (by (simp only [rf_nk, rf_nt, rd_af, ne_eq, Nat.reduceEqDiff, not_false_eq_true]; omega))) (fun u_ Sx87_ px90_ => ?_)
            obtain ⟨rfl, hIx88_, hFx89_, px90_⟩ := px90_
            have hFx91_ : ai_fr (sx_W vw_234n) S0_ Sx87_ := ai_fr_tr hFx85_ (fr_le hFx89_ rfl)
            obtain ⟨dx93_, px90_⟩ := px90_
            have hCx92_ : cdf kk_.toNat S0_ Sx87_ := cdf_tr hCx86_ (cdf_cg (by omega) dx93_)
            have p133_ := px90_
            have r133_ : Sx87_.2.2.1 35 (0 + kk_.toNat) = ((sm_pI (sm_pI (sm_pI (sm_aI S0_ 35 (0 + kk_.toNat) g_.toNat cl_) 2 kk_.toNat 15 (-1)) 2 kk_.toNat 19 (i_add ((sm_pI (sm_aI S0_ 35 (0 + kk_.toNat) g_.toNat cl_) 2 kk_.toNat 15 (-1)).1 2 kk_.toNat 19) 1)) 0 (0 + kk_.toNat) 16 (i_add (S0_.1 0 (0 + kk_.toNat) 16) 1))).2.2.1 35 (0 + kk_.toNat) := fr_arr (t := 35) (i := 0 + kk_.toNat) hFx89_ rfl
            refine sm_T_go 1 (c1 := (138, [some (.inr (.inr (some (12, 0)))), some (.inl kk_), some (.inl g_), some (.inl cl_), some (.inr (.inr (some (2, kk_.toNat)))), some (.inl (S0_.2.2.1 35 (0 + kk_.toNat) g_.toNat))], [.inl (S0_.2.2.1 35 (0 + kk_.toNat) g_.toNat)], Sx87_)) rfl ?_
            refine sm_T_ri rfl (Or.inl ⟨_, _, rfl, _, rfl, hIx88_, hFx91_, ?_⟩)
            refine ⟨hCx92_, ?_⟩
            refine ⟨?_, by (unfold okc_alter oka_alter; omega), rfl, fun j_ => by (rw [r133_]; (try simp only [rd_eq, rd_ne, rf_eq, rf_nk, rf_nt, rd_fa, rd_af, ne_eq, Nat.reduceEqDiff, not_false_eq_true]); try rfl)⟩; exact ⟨dAll_fr hJ_.1 hFx91_ (by decide) (by decide), cAll_cd hJ_.2.1 hCx92_ (fun _ => cOk_tb J9_ hFx91_ (by decide) (by decide) (by decide) p133_), tpo_fr hJ_.2.2.1 hFx91_, shn_fr hJ_.2.2.2 hFx91_⟩
