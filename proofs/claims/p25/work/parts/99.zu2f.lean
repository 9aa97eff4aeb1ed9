/-! what the reference answers where it is asked for a root; written by wip/p55/gen/vg -/
def okr_root (a1_ a2_ a3_ : Int) (S_ : sm_S) : Prop := (0 ≤ a1_ ∧ a1_ < 6 ∧ S_.2.2.1 153 0 a1_.toNat = 1) ∧ ((a3_ = 0 ∧ 0 ≤ a2_ ∧ a2_ < S_.2.2.1 156 0 a1_.toNat) ∨ (a3_ ≠ 0 ∧ 0 ≤ a2_ ∧ a2_ < S_.2.2.1 155 0 a1_.toNat))
def var_root (a1_ a2_ a3_ : Int) (S_ : sm_S) : Int := if a3_ = 0 then S_.2.2.1 167 0 (16 * a1_ + a2_).toNat else S_.2.2.1 168 0 (6 * a1_ + a2_).toNat
/-! M_.root -/
def vw_378t : sx_Wl := ([(13, 0)], [], [])
def vq_378t (a1_ : Int) (a2_ : Int) (a3_ : Int) (S0_ : sm_S) (u_ : Option sm_V) (S1_ : sm_S) : Prop := ∃ v_ : Int, u_ = some (.inl v_) ∧ gi S1_ ∧ ai_fr (sx_W vw_378t) S0_ S1_ ∧ (((-2147483648) ≤ v_ ∧ v_ ≤ 2147483647) ∧ (jR S1_ ∧ ((S1_.1 13 0 0 = 1 ∧ ¬ okr_root a1_ a2_ a3_ S0_) ∨ (S1_.1 13 0 0 = 0 ∧ okr_root a1_ a2_ a3_ S0_ ∧ v_ = var_root a1_ a2_ a3_ S0_))))
set_option maxHeartbeats 400000 in
set_option maxRecDepth 20000 in
theorem vc_378t {sc_ : Nat × (Nat → Int)} (a1_ : Int) (a2_ : Int) (a3_ : Int) (S0_ : sm_S) (hI_ : gi S0_) (ha1_ : (-2147483648) ≤ a1_ ∧ a1_ ≤ 2147483647) (ha2_ : (-2147483648) ≤ a2_ ∧ a2_ ≤ 2147483647) (ha3_ : (-2147483648) ≤ a3_ ∧ a3_ ≤ 2147483647) (hJ_ : jR S0_) : sm_T (mt_P sc_) 1 378 (0, [some (.inr (.inr (some (13, 0)))), some (.inl a1_), some (.inl a2_), some (.inl a3_)], [], S0_) (fun ro9_ => ∃ u_ S1_, ro9_ = (.inl u_, S1_, 0) ∧ vq_378t a1_ a2_ a3_ S0_ u_ S1_) := by
  have hF_ : ai_fr (sx_W vw_378t) S0_ S0_ := ai_fr_rf
  refine sm_T_go 3 (c1 := (3, [some (.inr (.inr (some (13, 0)))), some (.inl a1_), some (.inl a2_), some (.inl a3_)], [.inl a1_, .inr (.inr (some (13, 0))), .inr (.inr (some (13, 0)))], S0_)) rfl ?_
  refine sm_T_cal (d1 := 0) (Q1 := vq_369 a1_ S0_) rfl rfl (by decide) (vc_369 a1_ S0_ hI_ (by omega)) (fun u_ Sx1_ px4_ => ?_)
  obtain ⟨rfl, vx6_, rfl, px4_⟩ := px4_
  refine sm_T_b0 (a := 0) (z := 30) rfl (fun cx7_ => ?_) (fun cx7_ => ?_)
  · have cx7_ : vx6_ = 0 := of_decide_eq_true cx7_
    have hIx8_ : gi (sm_pI S0_ 13 0 0 1) := gi_pI hI_ (show 0 ≤ 1 ∧ 1 ≤ 4 from ⟨by omega, by omega⟩)
    have hFx9_ : ai_fr (sx_W vw_378t) S0_ (sm_pI S0_ 13 0 0 1) := ai_fr_tr hF_ (ai_fr_pI rfl)
    refine sm_T_go 7 (c1 := (52, [some (.inr (.inr (some (13, 0)))), some (.inl a1_), some (.inl a2_), some (.inl a3_)], [.inl 0], sm_pI S0_ 13 0 0 1)) rfl ?_
    refine sm_T_ri rfl ⟨_, _, rfl, _, rfl, hIx8_, hFx9_, ?_⟩
    refine ⟨⟨by omega, by omega⟩, jR_fr hJ_ hIx8_ hFx9_, ?_⟩
    unfold okr_root var_root
    first | exact Or.inl ⟨rf_eq, by omega⟩ | exact Or.inr ⟨rf_eq, by omega, (if_pos (by omega)).symm⟩ | exact Or.inr ⟨rf_eq, by omega, (if_neg (by omega)).symm⟩
  · have cx7_ : ¬ (vx6_ = 0) := of_decide_eq_false cx7_
    refine sm_T_go 1 (c1 := (10, [some (.inr (.inr (some (13, 0)))), some (.inl a1_), some (.inl a2_), some (.inl a3_)], [.inl a2_, .inr (.inr (some (13, 0)))], S0_)) rfl ?_
    refine sm_T_b0 (a := 2) (z := 26) rfl (fun cx10_ => ?_) (fun cx10_ => ?_)
    · have cx10_ : a2_ < 0 := of_decide_eq_true cx10_
      have hIx11_ : gi (sm_pI S0_ 13 0 0 1) := gi_pI hI_ (show 0 ≤ 1 ∧ 1 ≤ 4 from ⟨by omega, by omega⟩)
      have hFx12_ : ai_fr (sx_W vw_378t) S0_ (sm_pI S0_ 13 0 0 1) := ai_fr_tr hF_ (ai_fr_pI rfl)
      refine sm_T_go 7 (c1 := (52, [some (.inr (.inr (some (13, 0)))), some (.inl a1_), some (.inl a2_), some (.inl a3_)], [.inl 0], sm_pI S0_ 13 0 0 1)) rfl ?_
      refine sm_T_ri rfl ⟨_, _, rfl, _, rfl, hIx11_, hFx12_, ?_⟩
      refine ⟨⟨by omega, by omega⟩, jR_fr hJ_ hIx11_ hFx12_, ?_⟩
      unfold okr_root var_root
      first | exact Or.inl ⟨rf_eq, by omega⟩ | exact Or.inr ⟨rf_eq, by omega, (if_pos (by omega)).symm⟩ | exact Or.inr ⟨rf_eq, by omega, (if_neg (by omega)).symm⟩
    · have cx10_ : ¬ (a2_ < 0) := of_decide_eq_false cx10_
      refine sm_T_go 2 (c1 := (15, [some (.inr (.inr (some (13, 0)))), some (.inl a1_), some (.inl a2_), some (.inl a3_)], [.inl a3_, .inl a2_, .inr (.inr (some (13, 0)))], S0_)) rfl ?_
      refine sm_T_b0 (a := 0) (z := 12) rfl (fun cx13_ => ?_) (fun cx13_ => ?_)
      · have cx13_ : a3_ = 0 := of_decide_eq_true cx13_
        refine sm_T_go 3 (c1 := (32, [some (.inr (.inr (some (13, 0)))), some (.inl a1_), some (.inl a2_), some (.inl a3_)], [.inl a1_, .inr (.inr (some (156, 0))), .inl a2_, .inr (.inr (some (13, 0)))], S0_)) rfl ?_
        refine sm_T_iald (n := 6) rfl rfl (by omega) (by omega) ?_
        have bx14_ : 0 ≤ S0_.2.2.1 156 0 a1_.toNat ∧ S0_.2.2.1 156 0 a1_.toNat ≤ 16 := hI_.2 156 0 _
        refine sm_T_br (a := 2) (z := 7) rfl (fun cx15_ => ?_) (fun cx15_ => ?_)
        · have cx15_ : a2_ < (S0_.2.2.1 156 0 a1_.toNat) := of_decide_eq_true cx15_
          have hIx16_ : gi (sm_pI S0_ 13 0 0 0) := gi_pI hI_ (show 0 ≤ 0 ∧ 0 ≤ 4 from ⟨by omega, by omega⟩)
          have hFx17_ : ai_fr (sx_W vw_378t) S0_ (sm_pI S0_ 13 0 0 0) := ai_fr_tr hF_ (ai_fr_pI rfl)
          refine sm_T_go 6 (c1 := (54, [some (.inr (.inr (some (13, 0)))), some (.inl a1_), some (.inl a2_), some (.inl a3_)], [.inl a3_], sm_pI S0_ 13 0 0 0)) rfl ?_
          refine sm_T_b0 (a := 0) (z := 17) rfl (fun cx18_ => ?_) (fun cx18_ => ?_)
          · have cx18_ : a3_ = 0 := of_decide_eq_true cx18_
            refine sm_T_go 4 (c1 := (78, [some (.inr (.inr (some (13, 0)))), some (.inl a1_), some (.inl a2_), some (.inl a3_)], [.inl a1_, .inl 16, .inr (.inr (some (167, 0)))], sm_pI S0_ 13 0 0 0)) rfl ?_
            refine sm_T_bin (w := 16 * a1_) rfl (bi_mul (by omega) (by omega) (by omega)) ?_ -- pc_ 78
            refine sm_T_go 1 (c1 := (80, [some (.inr (.inr (some (13, 0)))), some (.inl a1_), some (.inl a2_), some (.inl a3_)], [.inl a2_, .inl (16 * a1_), .inr (.inr (some (167, 0)))], sm_pI S0_ 13 0 0 0)) rfl ?_
            refine sm_T_bin (w := 16 * a1_ + a2_) rfl (bi_add (by omega) (by omega) (by omega)) ?_ -- pc_ 80
            refine sm_T_iald (n := 96) rfl rfl (by omega) (by omega) ?_
            have bx19_ : 0 ≤ S0_.2.2.1 167 0 (16 * a1_ + a2_).toNat ∧ S0_.2.2.1 167 0 (16 * a1_ + a2_).toNat ≤ 2047 := hI_.2 167 0 _
            refine sm_T_go 0 (c1 := (82, [some (.inr (.inr (some (13, 0)))), some (.inl a1_), some (.inl a2_), some (.inl a3_)], [.inl (S0_.2.2.1 167 0 (16 * a1_ + a2_).toNat)], sm_pI S0_ 13 0 0 0)) rfl ?_
            refine sm_T_ri rfl ⟨_, _, rfl, _, rfl, hIx16_, hFx17_, ?_⟩
            refine ⟨⟨by omega, by omega⟩, jR_fr hJ_ hIx16_ hFx17_, ?_⟩
            unfold okr_root var_root
            first | exact Or.inl ⟨rf_eq, by omega⟩ | exact Or.inr ⟨rf_eq, by omega, (if_pos (by omega)).symm⟩ | exact Or.inr ⟨rf_eq, by omega, (if_neg (by omega)).symm⟩
          · have cx18_ : ¬ (a3_ = 0) := of_decide_eq_false cx18_
            exfalso; omega
        · have cx15_ : ¬ (a2_ < (S0_.2.2.1 156 0 a1_.toNat)) := of_decide_eq_false cx15_
          have hIx20_ : gi (sm_pI S0_ 13 0 0 1) := gi_pI hI_ (show 0 ≤ 1 ∧ 1 ≤ 4 from ⟨by omega, by omega⟩)
          have hFx21_ : ai_fr (sx_W vw_378t) S0_ (sm_pI S0_ 13 0 0 1) := ai_fr_tr hF_ (ai_fr_pI rfl)
          refine sm_T_go 7 (c1 := (52, [some (.inr (.inr (some (13, 0)))), some (.inl a1_), some (.inl a2_), some (.inl a3_)], [.inl 0], sm_pI S0_ 13 0 0 1)) rfl ?_
          refine sm_T_ri rfl ⟨_, _, rfl, _, rfl, hIx20_, hFx21_, ?_⟩
          refine ⟨⟨by omega, by omega⟩, jR_fr hJ_ hIx20_ hFx21_, ?_⟩
          unfold okr_root var_root
          first | exact Or.inl ⟨rf_eq, by omega⟩ | exact Or.inr ⟨rf_eq, by omega, (if_pos (by omega)).symm⟩ | exact Or.inr ⟨rf_eq, by omega, (if_neg (by omega)).symm⟩
      · have cx13_ : ¬ (a3_ = 0) := of_decide_eq_false cx13_
        refine sm_T_go 3 (c1 := (23, [some (.inr (.inr (some (13, 0)))), some (.inl a1_), some (.inl a2_), some (.inl a3_)], [.inl a1_, .inr (.inr (some (155, 0))), .inl a2_, .inr (.inr (some (13, 0)))], S0_)) rfl ?_
        refine sm_T_iald (n := 6) rfl rfl (by omega) (by omega) ?_
        have bx22_ : 0 ≤ S0_.2.2.1 155 0 a1_.toNat ∧ S0_.2.2.1 155 0 a1_.toNat ≤ 6 := hI_.2 155 0 _
        refine sm_T_go 1 (c1 := (33, [some (.inr (.inr (some (13, 0)))), some (.inl a1_), some (.inl a2_), some (.inl a3_)], [.inl (S0_.2.2.1 155 0 a1_.toNat), .inl a2_, .inr (.inr (some (13, 0)))], S0_)) rfl ?_
        refine sm_T_br (a := 2) (z := 7) rfl (fun cx23_ => ?_) (fun cx23_ => ?_)
        · have cx23_ : a2_ < (S0_.2.2.1 155 0 a1_.toNat) := of_decide_eq_true cx23_
          have hIx24_ : gi (sm_pI S0_ 13 0 0 0) := gi_pI hI_ (show 0 ≤ 0 ∧ 0 ≤ 4 from ⟨by omega, by omega⟩)
          have hFx25_ : ai_fr (sx_W vw_378t) S0_ (sm_pI S0_ 13 0 0 0) := ai_fr_tr hF_ (ai_fr_pI rfl)
          refine sm_T_go 6 (c1 := (54, [some (.inr (.inr (some (13, 0)))), some (.inl a1_), some (.inl a2_), some (.inl a3_)], [.inl a3_], sm_pI S0_ 13 0 0 0)) rfl ?_
          refine sm_T_b0 (a := 0) (z := 17) rfl (fun cx26_ => ?_) (fun cx26_ => ?_)
          · have cx26_ : a3_ = 0 := of_decide_eq_true cx26_
            refine sm_T_go 4 (c1 := (78, [some (.inr (.inr (some (13, 0)))), some (.inl a1_), some (.inl a2_), some (.inl a3_)], [.inl a1_, .inl 16, .inr (.inr (some (167, 0)))], sm_pI S0_ 13 0 0 0)) rfl ?_
            refine sm_T_bin (w := 16 * a1_) rfl (bi_mul (by omega) (by omega) (by omega)) ?_ -- pc_ 78
            refine sm_T_go 1 (c1 := (80, [some (.inr (.inr (some (13, 0)))), some (.inl a1_), some (.inl a2_), some (.inl a3_)], [.inl a2_, .inl (16 * a1_), .inr (.inr (some (167, 0)))], sm_pI S0_ 13 0 0 0)) rfl ?_
            refine sm_T_bin (w := 16 * a1_ + a2_) rfl (bi_add (by omega) (by omega) (by omega)) ?_ -- pc_ 80
            refine sm_T_iald (n := 96) rfl rfl (by omega) (by omega) ?_
            have bx27_ : 0 ≤ S0_.2.2.1 167 0 (16 * a1_ + a2_).toNat ∧ S0_.2.2.1 167 0 (16 * a1_ + a2_).toNat ≤ 2047 := hI_.2 167 0 _
            refine sm_T_go 0 (c1 := (82, [some (.inr (.inr (some (13, 0)))), some (.inl a1_), some (.inl a2_), some (.inl a3_)], [.inl (S0_.2.2.1 167 0 (16 * a1_ + a2_).toNat)], sm_pI S0_ 13 0 0 0)) rfl ?_
            refine sm_T_ri rfl ⟨_, _, rfl, _, rfl, hIx24_, hFx25_, ?_⟩
            refine ⟨⟨by omega, by omega⟩, jR_fr hJ_ hIx24_ hFx25_, ?_⟩
            unfold okr_root var_root
            first | exact Or.inl ⟨rf_eq, by omega⟩ | exact Or.inr ⟨rf_eq, by omega, (if_pos (by omega)).symm⟩ | exact Or.inr ⟨rf_eq, by omega, (if_neg (by omega)).symm⟩
          · have cx26_ : ¬ (a3_ = 0) := of_decide_eq_false cx26_
            refine sm_T_go 4 (c1 := (64, [some (.inr (.inr (some (13, 0)))), some (.inl a1_), some (.inl a2_), some (.inl a3_)], [.inl a1_, .inl 6, .inr (.inr (some (168, 0)))], sm_pI S0_ 13 0 0 0)) rfl ?_
            refine sm_T_bin (w := 6 * a1_) rfl (bi_mul (by omega) (by omega) (by omega)) ?_ -- pc_ 64
            refine sm_T_go 1 (c1 := (66, [some (.inr (.inr (some (13, 0)))), some (.inl a1_), some (.inl a2_), some (.inl a3_)], [.inl a2_, .inl (6 * a1_), .inr (.inr (some (168, 0)))], sm_pI S0_ 13 0 0 0)) rfl ?_
            refine sm_T_bin (w := 6 * a1_ + a2_) rfl (bi_add (by omega) (by omega) (by omega)) ?_ -- pc_ 66
            refine sm_T_iald (n := 36) rfl rfl (by omega) (by omega) ?_
            have bx28_ : 0 ≤ S0_.2.2.1 168 0 (6 * a1_ + a2_).toNat ∧ S0_.2.2.1 168 0 (6 * a1_ + a2_).toNat ≤ 2047 := hI_.2 168 0 _
            refine sm_T_go 1 (c1 := (82, [some (.inr (.inr (some (13, 0)))), some (.inl a1_), some (.inl a2_), some (.inl a3_)], [.inl (S0_.2.2.1 168 0 (6 * a1_ + a2_).toNat)], sm_pI S0_ 13 0 0 0)) rfl ?_
            refine sm_T_ri rfl ⟨_, _, rfl, _, rfl, hIx24_, hFx25_, ?_⟩
            refine ⟨⟨by omega, by omega⟩, jR_fr hJ_ hIx24_ hFx25_, ?_⟩
            unfold okr_root var_root
            first | exact Or.inl ⟨rf_eq, by omega⟩ | exact Or.inr ⟨rf_eq, by omega, (if_pos (by omega)).symm⟩ | exact Or.inr ⟨rf_eq, by omega, (if_neg (by omega)).symm⟩
        · have cx23_ : ¬ (a2_ < (S0_.2.2.1 155 0 a1_.toNat)) := of_decide_eq_false cx23_
          have hIx29_ : gi (sm_pI S0_ 13 0 0 1) := gi_pI hI_ (show 0 ≤ 1 ∧ 1 ≤ 4 from ⟨by omega, by omega⟩)
          have hFx30_ : ai_fr (sx_W vw_378t) S0_ (sm_pI S0_ 13 0 0 1) := ai_fr_tr hF_ (ai_fr_pI rfl)
          refine sm_T_go 7 (c1 := (52, [some (.inr (.inr (some (13, 0)))), some (.inl a1_), some (.inl a2_), some (.inl a3_)], [.inl 0], sm_pI S0_ 13 0 0 1)) rfl ?_
          refine sm_T_ri rfl ⟨_, _, rfl, _, rfl, hIx29_, hFx30_, ?_⟩
          refine ⟨⟨by omega, by omega⟩, jR_fr hJ_ hIx29_ hFx30_, ?_⟩
          unfold okr_root var_root
          first | exact Or.inl ⟨rf_eq, by omega⟩ | exact Or.inr ⟨rf_eq, by omega, (if_pos (by omega)).symm⟩ | exact Or.inr ⟨rf_eq, by omega, (if_neg (by omega)).symm⟩
def okr_swept (a1_ a2_ : Int) (S_ : sm_S) : Prop := (0 ≤ a1_ ∧ a1_ < 6 ∧ S_.2.2.1 153 0 a1_.toNat = 1) ∧ (0 ≤ a2_ ∧ a2_ < S_.2.2.1 159 0 a1_.toNat)
def var_swept (a1_ a2_ : Int) (S_ : sm_S) : Int := S_.2.2.1 166 0 (2048 * a1_ + a2_).toNat
/-! M_.swept -/
def vw_377t : sx_Wl := ([(13, 0)], [], [])
def vq_377t (a1_ : Int) (a2_ : Int) (S0_ : sm_S) (u_ : Option sm_V) (S1_ : sm_S) : Prop := ∃ v_ : Int, u_ = some (.inl v_) ∧ gi S1_ ∧ ai_fr (sx_W vw_377t) S0_ S1_ ∧ (((-2147483648) ≤ v_ ∧ v_ ≤ 2147483647) ∧ (jR S1_ ∧ ((S1_.1 13 0 0 = 1 ∧ ¬ okr_swept a1_ a2_ S0_) ∨ (S1_.1 13 0 0 = 0 ∧ okr_swept a1_ a2_ S0_ ∧ v_ = var_swept a1_ a2_ S0_))))
set_option maxHeartbeats 400000 in
set_option maxRecDepth 20000 in
theorem vc_377t {sc_ : Nat × (Nat → Int)} (a1_ : Int) (a2_ : Int) (S0_ : sm_S) (hI_ : gi S0_) (ha1_ : (-2147483648) ≤ a1_ ∧ a1_ ≤ 2147483647) (ha2_ : (-2147483648) ≤ a2_ ∧ a2_ ≤ 2147483647) (hJ_ : jR S0_) : sm_T (mt_P sc_) 1 377 (0, [some (.inr (.inr (some (13, 0)))), some (.inl a1_), some (.inl a2_)], [], S0_) (fun ro9_ => ∃ u_ S1_, ro9_ = (.inl u_, S1_, 0) ∧ vq_377t a1_ a2_ S0_ u_ S1_) := by
  have hF_ : ai_fr (sx_W vw_377t) S0_ S0_ := ai_fr_rf
  refine sm_T_go 3 (c1 := (3, [some (.inr (.inr (some (13, 0)))), some (.inl a1_), some (.inl a2_)], [.inl a1_, .inr (.inr (some (13, 0))), .inr (.inr (some (13, 0)))], S0_)) rfl ?_
  refine sm_T_cal (d1 := 0) (Q1 := vq_369 a1_ S0_) rfl rfl (by decide) (vc_369 a1_ S0_ hI_ (by omega)) (fun u_ Sx1_ px4_ => ?_)
  obtain ⟨rfl, vx6_, rfl, px4_⟩ := px4_
  refine sm_T_b0 (a := 0) (z := 17) rfl (fun cx7_ => ?_) (fun cx7_ => ?_)
  · have cx7_ : vx6_ = 0 := of_decide_eq_true cx7_
    have hIx8_ : gi (sm_pI S0_ 13 0 0 1) := gi_pI hI_ (show 0 ≤ 1 ∧ 1 ≤ 4 from ⟨by omega, by omega⟩)
    have hFx9_ : ai_fr (sx_W vw_377t) S0_ (sm_pI S0_ 13 0 0 1) := ai_fr_tr hF_ (ai_fr_pI rfl)
    refine sm_T_go 8 (c1 := (54, [some (.inr (.inr (some (13, 0)))), some (.inl a1_), some (.inl a2_)], [.inl 0], sm_pI S0_ 13 0 0 1)) rfl ?_
    refine sm_T_ri rfl ⟨_, _, rfl, _, rfl, hIx8_, hFx9_, ?_⟩
    refine ⟨⟨by omega, by omega⟩, jR_fr hJ_ hIx8_ hFx9_, ?_⟩
    unfold okr_swept var_swept
    first | exact Or.inl ⟨rf_eq, by omega⟩ | exact Or.inr ⟨rf_eq, by omega, rfl⟩
  · have cx7_ : ¬ (vx6_ = 0) := of_decide_eq_false cx7_
    refine sm_T_go 1 (c1 := (10, [some (.inr (.inr (some (13, 0)))), some (.inl a1_), some (.inl a2_)], [.inl a2_, .inr (.inr (some (13, 0)))], S0_)) rfl ?_
    refine sm_T_b0 (a := 2) (z := 13) rfl (fun cx10_ => ?_) (fun cx10_ => ?_)
    · have cx10_ : a2_ < 0 := of_decide_eq_true cx10_
      have hIx11_ : gi (sm_pI S0_ 13 0 0 1) := gi_pI hI_ (show 0 ≤ 1 ∧ 1 ≤ 4 from ⟨by omega, by omega⟩)
      have hFx12_ : ai_fr (sx_W vw_377t) S0_ (sm_pI S0_ 13 0 0 1) := ai_fr_tr hF_ (ai_fr_pI rfl)
      refine sm_T_go 8 (c1 := (54, [some (.inr (.inr (some (13, 0)))), some (.inl a1_), some (.inl a2_)], [.inl 0], sm_pI S0_ 13 0 0 1)) rfl ?_
      refine sm_T_ri rfl ⟨_, _, rfl, _, rfl, hIx11_, hFx12_, ?_⟩
      refine ⟨⟨by omega, by omega⟩, jR_fr hJ_ hIx11_ hFx12_, ?_⟩
      unfold okr_swept var_swept
      first | exact Or.inl ⟨rf_eq, by omega⟩ | exact Or.inr ⟨rf_eq, by omega, rfl⟩
    · have cx10_ : ¬ (a2_ < 0) := of_decide_eq_false cx10_
      refine sm_T_go 4 (c1 := (19, [some (.inr (.inr (some (13, 0)))), some (.inl a1_), some (.inl a2_)], [.inl a1_, .inr (.inr (some (159, 0))), .inl a2_, .inr (.inr (some (13, 0)))], S0_)) rfl ?_
      refine sm_T_iald (n := 6) rfl rfl (by omega) (by omega) ?_
      have bx13_ : 0 ≤ S0_.2.2.1 159 0 a1_.toNat ∧ S0_.2.2.1 159 0 a1_.toNat ≤ 1013 := hI_.2 159 0 _
      refine sm_T_br (a := 2) (z := 7) rfl (fun cx14_ => ?_) (fun cx14_ => ?_)
      · have cx14_ : a2_ < (S0_.2.2.1 159 0 a1_.toNat) := of_decide_eq_true cx14_
        have hIx15_ : gi (sm_pI S0_ 13 0 0 0) := gi_pI hI_ (show 0 ≤ 0 ∧ 0 ≤ 4 from ⟨by omega, by omega⟩)
        have hFx16_ : ai_fr (sx_W vw_377t) S0_ (sm_pI S0_ 13 0 0 0) := ai_fr_tr hF_ (ai_fr_pI rfl)
        refine sm_T_go 9 (c1 := (50, [some (.inr (.inr (some (13, 0)))), some (.inl a1_), some (.inl a2_)], [.inl a1_, .inl 2048, .inr (.inr (some (166, 0)))], sm_pI S0_ 13 0 0 0)) rfl ?_
        refine sm_T_bin (w := 2048 * a1_) rfl (bi_mul (by omega) (by omega) (by omega)) ?_ -- pc_ 50
        refine sm_T_go 1 (c1 := (52, [some (.inr (.inr (some (13, 0)))), some (.inl a1_), some (.inl a2_)], [.inl a2_, .inl (2048 * a1_), .inr (.inr (some (166, 0)))], sm_pI S0_ 13 0 0 0)) rfl ?_
        refine sm_T_bin (w := 2048 * a1_ + a2_) rfl (bi_add (by omega) (by omega) (by omega)) ?_ -- pc_ 52
        refine sm_T_iald (n := 12288) rfl rfl (by omega) (by omega) ?_
        have bx17_ : 0 ≤ S0_.2.2.1 166 0 (2048 * a1_ + a2_).toNat ∧ S0_.2.2.1 166 0 (2048 * a1_ + a2_).toNat ≤ 2025 := hI_.2 166 0 _
        refine sm_T_go 0 (c1 := (54, [some (.inr (.inr (some (13, 0)))), some (.inl a1_), some (.inl a2_)], [.inl (S0_.2.2.1 166 0 (2048 * a1_ + a2_).toNat)], sm_pI S0_ 13 0 0 0)) rfl ?_
        refine sm_T_ri rfl ⟨_, _, rfl, _, rfl, hIx15_, hFx16_, ?_⟩
        refine ⟨⟨by omega, by omega⟩, jR_fr hJ_ hIx15_ hFx16_, ?_⟩
        unfold okr_swept var_swept
        first | exact Or.inl ⟨rf_eq, by omega⟩ | exact Or.inr ⟨rf_eq, by omega, rfl⟩
      · have cx14_ : ¬ (a2_ < (S0_.2.2.1 159 0 a1_.toNat)) := of_decide_eq_false cx14_
        have hIx18_ : gi (sm_pI S0_ 13 0 0 1) := gi_pI hI_ (show 0 ≤ 1 ∧ 1 ≤ 4 from ⟨by omega, by omega⟩)
        have hFx19_ : ai_fr (sx_W vw_377t) S0_ (sm_pI S0_ 13 0 0 1) := ai_fr_tr hF_ (ai_fr_pI rfl)
        refine sm_T_go 8 (c1 := (54, [some (.inr (.inr (some (13, 0)))), some (.inl a1_), some (.inl a2_)], [.inl 0], sm_pI S0_ 13 0 0 1)) rfl ?_
        refine sm_T_ri rfl ⟨_, _, rfl, _, rfl, hIx18_, hFx19_, ?_⟩
        refine ⟨⟨by omega, by omega⟩, jR_fr hJ_ hIx18_ hFx19_, ?_⟩
        unfold okr_swept var_swept
        first | exact Or.inl ⟨rf_eq, by omega⟩ | exact Or.inr ⟨rf_eq, by omega, rfl⟩
