/-! what the reference answers where it is asked; written by wip/p55/gen/vg -/
/-! M_.fault -/
def vw_368t : sx_Wl := ([(13, 0)], [], [])
def vq_368t  (S0_ : sm_S) (u_ : Option sm_V) (S1_ : sm_S) : Prop := ∃ v_ : Int, u_ = some (.inl v_) ∧ gi S1_ ∧ ai_fr (sx_W vw_368t) S0_ S1_ ∧ (((-2147483648) ≤ v_ ∧ v_ ≤ 2147483647) ∧ (jR S1_ ∧ v_ = S0_.1 13 0 79))
set_option maxHeartbeats 400000 in
set_option maxRecDepth 20000 in
theorem vc_368t {sc_ : Nat × (Nat → Int)}  (S0_ : sm_S) (hI_ : gi S0_) (hJ_ : jR S0_) : sm_T (mt_P sc_) 0 368 (0, [some (.inr (.inr (some (13, 0))))], [], S0_) (fun ro9_ => ∃ u_ S1_, ro9_ = (.inl u_, S1_, 0) ∧ vq_368t  S0_ u_ S1_) := by
  have hF_ : ai_fr (sx_W vw_368t) S0_ S0_ := ai_fr_rf
  have hIx1_ : gi (sm_pI S0_ 13 0 0 0) := gi_pI hI_ (show 0 ≤ 0 ∧ 0 ≤ 4 from ⟨by omega, by omega⟩)
  have hFx2_ : ai_fr (sx_W vw_368t) S0_ (sm_pI S0_ 13 0 0 0) := ai_fr_tr hF_ (ai_fr_pI rfl)
  have bx3_ : 0 ≤ S0_.1 13 0 79 ∧ S0_.1 13 0 79 ≤ 23 := hI_.1 13 0 79 rfl
  refine sm_T_go 5 (c1 := (9, [some (.inr (.inr (some (13, 0))))], [.inl (S0_.1 13 0 79)], sm_pI S0_ 13 0 0 0)) rfl ?_
  refine sm_T_ri rfl ⟨_, _, rfl, _, rfl, hIx1_, hFx2_, ?_⟩
  refine ⟨⟨by omega, by omega⟩, hJ_, ?_⟩
  first | rfl | exact rf_nk (by decide)
def okr_literal (a1_ a2_ a3_ : Int) (S_ : sm_S) : Prop := (0 ≤ a1_ ∧ a1_ < 6 ∧ S_.2.2.1 153 0 a1_.toNat = 1) ∧ (S_.2.2.1 160 0 a1_.toNat ≤ a2_ ∧ a2_ < S_.2.2.1 159 0 a1_.toNat) ∧ (a3_ = 0 ∨ a3_ = 1)
def var_literal (a1_ a2_ a3_ : Int) (S_ : sm_S) : Int := if a3_ = 0 then S_.2.2.1 164 0 (2048 * a1_ + a2_).toNat else S_.2.2.1 165 0 (2048 * a1_ + a2_).toNat
/-! M_.literal -/
def vw_376t : sx_Wl := ([(13, 0)], [], [])
def vq_376t (a1_ : Int) (a2_ : Int) (a3_ : Int) (S0_ : sm_S) (u_ : Option sm_V) (S1_ : sm_S) : Prop := ∃ v_ : Int, u_ = some (.inl v_) ∧ gi S1_ ∧ ai_fr (sx_W vw_376t) S0_ S1_ ∧ (((-2147483648) ≤ v_ ∧ v_ ≤ 2147483647) ∧ (jR S1_ ∧ ((S1_.1 13 0 0 = 1 ∧ ¬ okr_literal a1_ a2_ a3_ S0_) ∨ (S1_.1 13 0 0 = 0 ∧ okr_literal a1_ a2_ a3_ S0_ ∧ v_ = var_literal a1_ a2_ a3_ S0_))))
set_option maxHeartbeats 400000 in
set_option maxRecDepth 20000 in
theorem vc_376t {sc_ : Nat × (Nat → Int)} (a1_ : Int) (a2_ : Int) (a3_ : Int) (S0_ : sm_S) (hI_ : gi S0_) (ha1_ : (-2147483648) ≤ a1_ ∧ a1_ ≤ 2147483647) (ha2_ : (-2147483648) ≤ a2_ ∧ a2_ ≤ 2147483647) (ha3_ : (-2147483648) ≤ a3_ ∧ a3_ ≤ 2147483647) (hJ_ : jR S0_) : sm_T (mt_P sc_) 1 376 (0, [some (.inr (.inr (some (13, 0)))), some (.inl a1_), some (.inl a2_), some (.inl a3_)], [], S0_) (fun ro9_ => ∃ u_ S1_, ro9_ = (.inl u_, S1_, 0) ∧ vq_376t a1_ a2_ a3_ S0_ u_ S1_) := by
  have hF_ : ai_fr (sx_W vw_376t) S0_ S0_ := ai_fr_rf
  refine sm_T_go 3 (c1 := (3, [some (.inr (.inr (some (13, 0)))), some (.inl a1_), some (.inl a2_), some (.inl a3_)], [.inl a1_, .inr (.inr (some (13, 0))), .inr (.inr (some (13, 0)))], S0_)) rfl ?_
  refine sm_T_cal (d1 := 0) (Q1 := vq_369 a1_ S0_) rfl rfl (by decide) (vc_369 a1_ S0_ hI_ (by omega)) (fun u_ Sx1_ px4_ => ?_)
  obtain ⟨rfl, vx6_, rfl, px4_⟩ := px4_
  refine sm_T_b0 (a := 0) (z := 32) rfl (fun cx7_ => ?_) (fun cx7_ => ?_)
  · have cx7_ : vx6_ = 0 := of_decide_eq_true cx7_
    have hIx8_ : gi (sm_pI S0_ 13 0 0 1) := gi_pI hI_ (show 0 ≤ 1 ∧ 1 ≤ 4 from ⟨by omega, by omega⟩)
    have hFx9_ : ai_fr (sx_W vw_376t) S0_ (sm_pI S0_ 13 0 0 1) := ai_fr_tr hF_ (ai_fr_pI rfl)
    refine sm_T_go 7 (c1 := (54, [some (.inr (.inr (some (13, 0)))), some (.inl a1_), some (.inl a2_), some (.inl a3_)], [.inl 0], sm_pI S0_ 13 0 0 1)) rfl ?_
    refine sm_T_ri rfl ⟨_, _, rfl, _, rfl, hIx8_, hFx9_, ?_⟩
    refine ⟨⟨by omega, by omega⟩, jR_fr hJ_ hIx8_ hFx9_, ?_⟩
    unfold okr_literal var_literal
    first | exact Or.inl ⟨rf_eq, by omega⟩ | exact Or.inr ⟨rf_eq, by omega, (if_pos (by omega)).symm⟩ | exact Or.inr ⟨rf_eq, by omega, (if_neg (by omega)).symm⟩
  · have cx7_ : ¬ (vx6_ = 0) := of_decide_eq_false cx7_
    refine sm_T_go 4 (c1 := (15, [some (.inr (.inr (some (13, 0)))), some (.inl a1_), some (.inl a2_), some (.inl a3_)], [.inl a1_, .inr (.inr (some (160, 0))), .inl a2_, .inr (.inr (some (13, 0)))], S0_)) rfl ?_
    refine sm_T_iald (n := 6) rfl rfl (by omega) (by omega) ?_
    have bx10_ : 0 ≤ S0_.2.2.1 160 0 a1_.toNat ∧ S0_.2.2.1 160 0 a1_.toNat ≤ 19 := hI_.2 160 0 _
    refine sm_T_br (a := 2) (z := 22) rfl (fun cx11_ => ?_) (fun cx11_ => ?_)
    · have cx11_ : a2_ < (S0_.2.2.1 160 0 a1_.toNat) := of_decide_eq_true cx11_
      have hIx12_ : gi (sm_pI S0_ 13 0 0 1) := gi_pI hI_ (show 0 ≤ 1 ∧ 1 ≤ 4 from ⟨by omega, by omega⟩)
      have hFx13_ : ai_fr (sx_W vw_376t) S0_ (sm_pI S0_ 13 0 0 1) := ai_fr_tr hF_ (ai_fr_pI rfl)
      refine sm_T_go 7 (c1 := (54, [some (.inr (.inr (some (13, 0)))), some (.inl a1_), some (.inl a2_), some (.inl a3_)], [.inl 0], sm_pI S0_ 13 0 0 1)) rfl ?_
      refine sm_T_ri rfl ⟨_, _, rfl, _, rfl, hIx12_, hFx13_, ?_⟩
      refine ⟨⟨by omega, by omega⟩, jR_fr hJ_ hIx12_ hFx13_, ?_⟩
      unfold okr_literal var_literal
      first | exact Or.inl ⟨rf_eq, by omega⟩ | exact Or.inr ⟨rf_eq, by omega, (if_pos (by omega)).symm⟩ | exact Or.inr ⟨rf_eq, by omega, (if_neg (by omega)).symm⟩
    · have cx11_ : ¬ (a2_ < (S0_.2.2.1 160 0 a1_.toNat)) := of_decide_eq_false cx11_
      refine sm_T_go 4 (c1 := (25, [some (.inr (.inr (some (13, 0)))), some (.inl a1_), some (.inl a2_), some (.inl a3_)], [.inl a1_, .inr (.inr (some (159, 0))), .inl a2_, .inr (.inr (some (13, 0)))], S0_)) rfl ?_
      refine sm_T_iald (n := 6) rfl rfl (by omega) (by omega) ?_
      have bx14_ : 0 ≤ S0_.2.2.1 159 0 a1_.toNat ∧ S0_.2.2.1 159 0 a1_.toNat ≤ 1013 := hI_.2 159 0 _
      refine sm_T_br (a := 3) (z := 12) rfl (fun cx15_ => ?_) (fun cx15_ => ?_)
      · have cx15_ : (S0_.2.2.1 159 0 a1_.toNat) ≤ a2_ := of_decide_eq_true cx15_
        have hIx16_ : gi (sm_pI S0_ 13 0 0 1) := gi_pI hI_ (show 0 ≤ 1 ∧ 1 ≤ 4 from ⟨by omega, by omega⟩)
        have hFx17_ : ai_fr (sx_W vw_376t) S0_ (sm_pI S0_ 13 0 0 1) := ai_fr_tr hF_ (ai_fr_pI rfl)
        refine sm_T_go 7 (c1 := (54, [some (.inr (.inr (some (13, 0)))), some (.inl a1_), some (.inl a2_), some (.inl a3_)], [.inl 0], sm_pI S0_ 13 0 0 1)) rfl ?_
        refine sm_T_ri rfl ⟨_, _, rfl, _, rfl, hIx16_, hFx17_, ?_⟩
        refine ⟨⟨by omega, by omega⟩, jR_fr hJ_ hIx16_ hFx17_, ?_⟩
        unfold okr_literal var_literal
        first | exact Or.inl ⟨rf_eq, by omega⟩ | exact Or.inr ⟨rf_eq, by omega, (if_pos (by omega)).symm⟩ | exact Or.inr ⟨rf_eq, by omega, (if_neg (by omega)).symm⟩
      · have cx15_ : ¬ ((S0_.2.2.1 159 0 a1_.toNat) ≤ a2_) := of_decide_eq_false cx15_
        refine sm_T_go 3 (c1 := (32, [some (.inr (.inr (some (13, 0)))), some (.inl a1_), some (.inl a2_), some (.inl a3_)], [.inl 1, .inl 0, .inl a3_, .inr (.inr (some (13, 0)))], S0_)) rfl ?_
        refine sm_T_cal (d1 := 0) (Q1 := vq_278 a3_ 0 1 S0_) rfl rfl (by decide) (vc_278 a3_ 0 1 S0_ hI_ ) (fun u_ Sx18_ px21_ => ?_)
        obtain ⟨rfl, vx23_, rfl, px21_⟩ := px21_
        refine sm_T_b0 (a := 1) (z := 7) rfl (fun cx24_ => ?_) (fun cx24_ => ?_)
        · have cx24_ : vx23_ ≠ 0 := of_decide_eq_true cx24_
          have hIx25_ : gi (sm_pI S0_ 13 0 0 0) := gi_pI hI_ (show 0 ≤ 0 ∧ 0 ≤ 4 from ⟨by omega, by omega⟩)
          have hFx26_ : ai_fr (sx_W vw_376t) S0_ (sm_pI S0_ 13 0 0 0) := ai_fr_tr hF_ (ai_fr_pI rfl)
          refine sm_T_go 6 (c1 := (56, [some (.inr (.inr (some (13, 0)))), some (.inl a1_), some (.inl a2_), some (.inl a3_)], [.inl a3_], sm_pI S0_ 13 0 0 0)) rfl ?_
          refine sm_T_b0 (a := 1) (z := 18) rfl (fun cx27_ => ?_) (fun cx27_ => ?_)
          · have cx27_ : a3_ ≠ 0 := of_decide_eq_true cx27_
            refine sm_T_go 4 (c1 := (82, [some (.inr (.inr (some (13, 0)))), some (.inl a1_), some (.inl a2_), some (.inl a3_)], [.inl a1_, .inl 2048, .inr (.inr (some (165, 0)))], sm_pI S0_ 13 0 0 0)) rfl ?_
            refine sm_T_bin (w := 2048 * a1_) rfl (bi_mul (by omega) (by omega) (by omega)) ?_ -- pc_ 82
            refine sm_T_go 1 (c1 := (84, [some (.inr (.inr (some (13, 0)))), some (.inl a1_), some (.inl a2_), some (.inl a3_)], [.inl a2_, .inl (2048 * a1_), .inr (.inr (some (165, 0)))], sm_pI S0_ 13 0 0 0)) rfl ?_
            refine sm_T_bin (w := 2048 * a1_ + a2_) rfl (bi_add (by omega) (by omega) (by omega)) ?_ -- pc_ 84
            refine sm_T_iald (n := 12288) rfl rfl (by omega) (by omega) ?_
            have bx28_ : 0 ≤ S0_.2.2.1 165 0 (2048 * a1_ + a2_).toNat ∧ S0_.2.2.1 165 0 (2048 * a1_ + a2_).toNat ≤ 2047 := hI_.2 165 0 _
            refine sm_T_go 0 (c1 := (86, [some (.inr (.inr (some (13, 0)))), some (.inl a1_), some (.inl a2_), some (.inl a3_)], [.inl (S0_.2.2.1 165 0 (2048 * a1_ + a2_).toNat)], sm_pI S0_ 13 0 0 0)) rfl ?_
            refine sm_T_ri rfl ⟨_, _, rfl, _, rfl, hIx25_, hFx26_, ?_⟩
            refine ⟨⟨by omega, by omega⟩, jR_fr hJ_ hIx25_ hFx26_, ?_⟩
            unfold okr_literal var_literal
            first | exact Or.inl ⟨rf_eq, by omega⟩ | exact Or.inr ⟨rf_eq, by omega, (if_pos (by omega)).symm⟩ | exact Or.inr ⟨rf_eq, by omega, (if_neg (by omega)).symm⟩
          · have cx27_ : ¬ (a3_ ≠ 0) := of_decide_eq_false cx27_
            refine sm_T_go 4 (c1 := (67, [some (.inr (.inr (some (13, 0)))), some (.inl a1_), some (.inl a2_), some (.inl a3_)], [.inl a1_, .inl 2048, .inr (.inr (some (164, 0)))], sm_pI S0_ 13 0 0 0)) rfl ?_
            refine sm_T_bin (w := 2048 * a1_) rfl (bi_mul (by omega) (by omega) (by omega)) ?_ -- pc_ 67
            refine sm_T_go 1 (c1 := (69, [some (.inr (.inr (some (13, 0)))), some (.inl a1_), some (.inl a2_), some (.inl a3_)], [.inl a2_, .inl (2048 * a1_), .inr (.inr (some (164, 0)))], sm_pI S0_ 13 0 0 0)) rfl ?_
            refine sm_T_bin (w := 2048 * a1_ + a2_) rfl (bi_add (by omega) (by omega) (by omega)) ?_ -- pc_ 69
            refine sm_T_iald (n := 12288) rfl rfl (by omega) (by omega) ?_
            have bx29_ : 0 ≤ S0_.2.2.1 164 0 (2048 * a1_ + a2_).toNat ∧ S0_.2.2.1 164 0 (2048 * a1_ + a2_).toNat ≤ 2047 := hI_.2 164 0 _
            refine sm_T_go 1 (c1 := (86, [some (.inr (.inr (some (13, 0)))), some (.inl a1_), some (.inl a2_), some (.inl a3_)], [.inl (S0_.2.2.1 164 0 (2048 * a1_ + a2_).toNat)], sm_pI S0_ 13 0 0 0)) rfl ?_
            refine sm_T_ri rfl ⟨_, _, rfl, _, rfl, hIx25_, hFx26_, ?_⟩
            refine ⟨⟨by omega, by omega⟩, jR_fr hJ_ hIx25_ hFx26_, ?_⟩
            unfold okr_literal var_literal
            first | exact Or.inl ⟨rf_eq, by omega⟩ | exact Or.inr ⟨rf_eq, by omega, (if_pos (by omega)).symm⟩ | exact Or.inr ⟨rf_eq, by omega, (if_neg (by omega)).symm⟩
        · have cx24_ : ¬ (vx23_ ≠ 0) := of_decide_eq_false cx24_
          have hIx30_ : gi (sm_pI S0_ 13 0 0 1) := gi_pI hI_ (show 0 ≤ 1 ∧ 1 ≤ 4 from ⟨by omega, by omega⟩)
          have hFx31_ : ai_fr (sx_W vw_376t) S0_ (sm_pI S0_ 13 0 0 1) := ai_fr_tr hF_ (ai_fr_pI rfl)
          refine sm_T_go 7 (c1 := (54, [some (.inr (.inr (some (13, 0)))), some (.inl a1_), some (.inl a2_), some (.inl a3_)], [.inl 0], sm_pI S0_ 13 0 0 1)) rfl ?_
          refine sm_T_ri rfl ⟨_, _, rfl, _, rfl, hIx30_, hFx31_, ?_⟩
          refine ⟨⟨by omega, by omega⟩, jR_fr hJ_ hIx30_ hFx31_, ?_⟩
          unfold okr_literal var_literal
          first | exact Or.inl ⟨rf_eq, by omega⟩ | exact Or.inr ⟨rf_eq, by omega, (if_pos (by omega)).symm⟩ | exact Or.inr ⟨rf_eq, by omega, (if_neg (by omega)).symm⟩
