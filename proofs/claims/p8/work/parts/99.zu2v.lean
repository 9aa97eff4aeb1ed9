/-! the reference: chips asked; written by wip/p55/gen/vg -/
/-! M_.netOf -/
/-! M_.gate -/
def okr_isThere (a1_ a2_ : Int) (S_ : sm_S) : Prop := 0 ≤ a1_ ∧ a1_ ≤ 2
def var_isThere (a1_ a2_ : Int) (S_ : sm_S) : Int := if (a1_ = 0 ∧ 0 ≤ a2_ ∧ a2_ < 6 ∧ S_.2.2.1 153 0 a2_.toNat = 1) ∨ (a1_ = 1 ∧ 0 ≤ a2_ ∧ a2_ < 3 ∧ S_.2.2.1 183 0 a2_.toNat = 1) ∨ (a1_ = 2 ∧ 0 ≤ a2_ ∧ a2_ < 4 ∧ S_.2.2.1 222 0 a2_.toNat = 1) then 1 else 0
/-! M_.isThere -/
def vw_374t : sx_Wl := ([(13, 0)], [], [])
def vq_374t (a1_ : Int) (a2_ : Int) (S0_ : sm_S) (u_ : Option sm_V) (S1_ : sm_S) : Prop := ∃ v_ : Int, u_ = some (.inl v_) ∧ gi S1_ ∧ ai_fr (sx_W vw_374t) S0_ S1_ ∧ (((-2147483648) ≤ v_ ∧ v_ ≤ 2147483647) ∧ (jR S1_ ∧ ((S1_.1 13 0 0 = 1 ∧ ¬ okr_isThere a1_ a2_ S0_) ∨ (S1_.1 13 0 0 = 0 ∧ okr_isThere a1_ a2_ S0_ ∧ v_ = var_isThere a1_ a2_ S0_))))
set_option maxHeartbeats 400000 in
set_option maxRecDepth 20000 in
theorem vc_374t {sc_ : Nat × (Nat → Int)} (a1_ : Int) (a2_ : Int) (S0_ : sm_S) (hI_ : gi S0_) (ha1_ : (-2147483648) ≤ a1_ ∧ a1_ ≤ 2147483647) (ha2_ : (-2147483648) ≤ a2_ ∧ a2_ ≤ 2147483647) (hJ_ : jR S0_) : sm_T (mt_P sc_) 2 374 (0, [some (.inr (.inr (some (13, 0)))), some (.inl a1_), some (.inl a2_)], [], S0_) (fun ro9_ => ∃ u_ S1_, ro9_ = (.inl u_, S1_, 0) ∧ vq_374t a1_ a2_ S0_ u_ S1_) := by
  have hF_ : ai_fr (sx_W vw_374t) S0_ S0_ := ai_fr_rf
  refine sm_T_go 4 (c1 := (4, [some (.inr (.inr (some (13, 0)))), some (.inl a1_), some (.inl a2_)], [.inl 2, .inl 0, .inl a1_, .inr (.inr (some (13, 0)))], S0_)) rfl ?_
  refine sm_T_cal (d1 := 0) (Q1 := vq_278 a1_ 0 2 S0_) rfl rfl (by decide) (vc_278 a1_ 0 2 S0_ hI_ ) (fun u_ Sx1_ px4_ => ?_)
  obtain ⟨rfl, vx6_, rfl, px4_⟩ := px4_
  refine sm_T_b0 (a := 0) (z := 7) rfl (fun cx7_ => ?_) (fun cx7_ => ?_)
  · have cx7_ : vx6_ = 0 := of_decide_eq_true cx7_
    have hIx8_ : gi (sm_pI S0_ 13 0 0 1) := gi_pI hI_ (show 0 ≤ 1 ∧ 1 ≤ 4 from ⟨by omega, by omega⟩)
    have hFx9_ : ai_fr (sx_W vw_374t) S0_ (sm_pI S0_ 13 0 0 1) := ai_fr_tr hF_ (ai_fr_pI rfl)
    refine sm_T_go 6 (c1 := (39, [some (.inr (.inr (some (13, 0)))), some (.inl a1_), some (.inl a2_)], [.inl 0], sm_pI S0_ 13 0 0 1)) rfl ?_
    refine sm_T_rz rfl (by omega) ⟨_, _, rfl, _, rfl, hIx8_, hFx9_, ?_⟩
    refine ⟨⟨by omega, by omega⟩, jR_fr hJ_ hIx8_ hFx9_, ?_⟩
    unfold okr_isThere var_isThere
    first | exact Or.inl ⟨rf_eq, by omega⟩ | exact Or.inr ⟨rf_eq, by omega, by (rw [if_pos (by omega)]; omega)⟩ | exact Or.inr ⟨rf_eq, by omega, by (rw [if_neg (by omega)]; omega)⟩ | exact Or.inr ⟨rf_eq, by omega, by (rw [if_pos (by omega)])⟩ | exact Or.inr ⟨rf_eq, by omega, by (rw [if_neg (by omega)])⟩
  · have cx7_ : ¬ (vx6_ = 0) := of_decide_eq_false cx7_
    have hIx10_ : gi (sm_pI S0_ 13 0 0 0) := gi_pI hI_ (show 0 ≤ 0 ∧ 0 ≤ 4 from ⟨by omega, by omega⟩)
    have hFx11_ : ai_fr (sx_W vw_374t) S0_ (sm_pI S0_ 13 0 0 0) := ai_fr_tr hF_ (ai_fr_pI rfl)
    refine sm_T_go 9 (c1 := (28, [some (.inr (.inr (some (13, 0)))), some (.inl a1_), some (.inl a2_)], [.inl a2_, .inl a1_, .inr (.inr (some (13, 0)))], sm_pI S0_ 13 0 0 0)) rfl ?_
    refine sm_T_cal (d1 := 1) (Q1 := vq_372 a1_ a2_ (sm_pI S0_ 13 0 0 0)) rfl rfl (by decide) (vc_372 a1_ a2_ (sm_pI S0_ 13 0 0 0) hIx10_ (by omega) (by omega)) (fun u_ Sx12_ px15_ => ?_)
    obtain ⟨rfl, vx17_, rfl, px15_⟩ := px15_
    have i28_ := px15_
    (try simp only [rd_eq, rd_ne, rf_eq, rf_nk, rf_nt, rd_fa, rd_af, rd_fl, rd_al, rd_lf, rd_la, rd_leq, rd_lne, rd_fr, rd_ar, ne_eq, Nat.reduceEqDiff, not_false_eq_true] at i28_)
    refine sm_T_b0 (a := 0) (z := 7) rfl (fun cx18_ => ?_) (fun cx18_ => ?_)
    · have cx18_ : vx17_ = 0 := of_decide_eq_true cx18_
      refine sm_T_go 1 (c1 := (39, [some (.inr (.inr (some (13, 0)))), some (.inl a1_), some (.inl a2_)], [.inl 0], sm_pI S0_ 13 0 0 0)) rfl ?_
      refine sm_T_rz rfl (by omega) ⟨_, _, rfl, _, rfl, hIx10_, hFx11_, ?_⟩
      refine ⟨⟨by omega, by omega⟩, jR_fr hJ_ hIx10_ hFx11_, ?_⟩
      unfold okr_isThere var_isThere
      first | exact Or.inl ⟨rf_eq, by omega⟩ | exact Or.inr ⟨rf_eq, by omega, by (rw [if_pos (by omega)]; omega)⟩ | exact Or.inr ⟨rf_eq, by omega, by (rw [if_neg (by omega)]; omega)⟩ | exact Or.inr ⟨rf_eq, by omega, by (rw [if_pos (by omega)])⟩ | exact Or.inr ⟨rf_eq, by omega, by (rw [if_neg (by omega)])⟩
    · have cx18_ : ¬ (vx17_ = 0) := of_decide_eq_false cx18_
      refine sm_T_go 2 (c1 := (39, [some (.inr (.inr (some (13, 0)))), some (.inl a1_), some (.inl a2_)], [.inl 1], sm_pI S0_ 13 0 0 0)) rfl ?_
      refine sm_T_rz rfl (by omega) ⟨_, _, rfl, _, rfl, hIx10_, hFx11_, ?_⟩
      refine ⟨⟨by omega, by omega⟩, jR_fr hJ_ hIx10_ hFx11_, ?_⟩
      unfold okr_isThere var_isThere
      first | exact Or.inl ⟨rf_eq, by omega⟩ | exact Or.inr ⟨rf_eq, by omega, by (rw [if_pos (by omega)]; omega)⟩ | exact Or.inr ⟨rf_eq, by omega, by (rw [if_neg (by omega)]; omega)⟩ | exact Or.inr ⟨rf_eq, by omega, by (rw [if_pos (by omega)])⟩ | exact Or.inr ⟨rf_eq, by omega, by (rw [if_neg (by omega)])⟩
def ora_alter (a1_ a2_ a3_ : Int) (S_ : sm_S) : Prop := (0 ≤ a1_ ∧ a1_ < 4 ∧ S_.2.2.1 222 0 a1_.toNat = 1) ∧ (0 ≤ a2_ ∧ a2_ < S_.2.2.1 228 0 a1_.toNat) ∧ (0 ≤ a3_ ∧ a3_ < S_.2.2.1 233 0 a1_.toNat)
def okr_alter (a1_ a2_ a3_ : Int) (S_ : sm_S) : Prop := ora_alter a1_ a2_ a3_ S_ ∧ S_.2.2.1 234 0 (12 * a1_ + a3_).toNat = S_.2.2.1 234 0 (12 * a1_ + S_.2.2.1 229 0 (150 * a1_ + a2_).toNat).toNat
/-! M_.alter -/
def vw_428n : sx_Wl := ([(13, 0)], [229, 289, 294], [])
def vq_428n (a1_ : Int) (a2_ : Int) (a3_ : Int) (S0_ : sm_S) (u_ : Option sm_V) (S1_ : sm_S) : Prop := ∃ v_ : Int, u_ = some (.inl v_) ∧ gi S1_ ∧ ai_fr (sx_W vw_428n) S0_ S1_ ∧ (((-2147483648) ≤ v_ ∧ v_ ≤ 2147483647) ∧ (jR S1_ ∧ ((S1_.1 13 0 0 = 1 ∧ ¬ ora_alter a1_ a2_ a3_ S0_ ∧ S1_.2.2.1 229 0 = S0_.2.2.1 229 0) ∨ (S1_.1 13 0 0 = 2 ∧ ora_alter a1_ a2_ a3_ S0_ ∧ ¬ okr_alter a1_ a2_ a3_ S0_ ∧ S1_.2.2.1 229 0 = S0_.2.2.1 229 0) ∨ (S1_.1 13 0 0 = 0 ∧ okr_alter a1_ a2_ a3_ S0_ ∧ v_ = S0_.2.2.1 229 0 (150 * a1_ + a2_).toNat ∧ ∀ j_, S1_.2.2.1 229 0 j_ = if j_ = (150 * a1_ + a2_).toNat then a3_ else S0_.2.2.1 229 0 j_))))
set_option maxHeartbeats 400000 in
set_option maxRecDepth 20000 in
theorem vc_428n {sc_ : Nat × (Nat → Int)} (a1_ : Int) (a2_ : Int) (a3_ : Int) (S0_ : sm_S) (hI_ : gi S0_) (ha1_ : (-2147483648) ≤ a1_ ∧ a1_ ≤ 2147483647) (ha2_ : (-2147483648) ≤ a2_ ∧ a2_ ≤ 2147483647) (ha3_ : (-2147483648) ≤ a3_ ∧ a3_ ≤ 2147483647) (hJ_ : jR S0_) : sm_T (mt_P sc_) 1 428 (0, [some (.inr (.inr (some (13, 0)))), some (.inl a1_), some (.inl a2_), some (.inl a3_), none], [], S0_) (fun ro9_ => ∃ u_ S1_, ro9_ = (.inl u_, S1_, 0) ∧ vq_428n a1_ a2_ a3_ S0_ u_ S1_) := by
  have hF_ : ai_fr (sx_W vw_428n) S0_ S0_ := ai_fr_rf
  refine sm_T_go 3 (c1 := (3, [some (.inr (.inr (some (13, 0)))), some (.inl a1_), some (.inl a2_), some (.inl a3_), none], [.inl a1_, .inr (.inr (some (13, 0))), .inr (.inr (some (13, 0)))], S0_)) rfl ?_
  refine sm_T_cal (d1 := 0) (Q1 := vq_371 a1_ S0_) rfl rfl (by decide) (vc_371 a1_ S0_ hI_ (by omega)) (fun u_ Sx1_ px4_ => ?_)
  obtain ⟨rfl, vx6_, rfl, px4_⟩ := px4_
  have d3_ := px4_
  refine sm_T_b0 (a := 0) (z := 31) rfl (fun cx7_ => ?_) (fun cx7_ => ?_)
  · have cx7_ : vx6_ = 0 := of_decide_eq_true cx7_
    have hIx8_ : gi (sm_pI S0_ 13 0 0 1) := gi_pI hI_ (show 0 ≤ 1 ∧ 1 ≤ 4 from ⟨by omega, by omega⟩)
    have hFx9_ : ai_fr (sx_W vw_428n) S0_ (sm_pI S0_ 13 0 0 1) := ai_fr_tr hF_ (ai_fr_pI rfl)
    refine sm_T_go 7 (c1 := (82, [some (.inr (.inr (some (13, 0)))), some (.inl a1_), some (.inl a2_), some (.inl a3_), none], [.inl 0], sm_pI S0_ 13 0 0 1)) rfl ?_
    refine sm_T_ri rfl ⟨_, _, rfl, _, rfl, hIx8_, hFx9_, ?_⟩
    first | exact ⟨⟨by omega, by omega⟩, hJ_, Or.inl ⟨rf_eq, by (unfold ora_alter; omega), rfl⟩⟩ | exact ⟨⟨by omega, by omega⟩, hJ_, Or.inr (Or.inl ⟨rf_eq, by (unfold ora_alter; omega), by (unfold okr_alter ora_alter; omega), rfl⟩)⟩ | exact ⟨⟨by omega, by omega⟩, j119_, Or.inr (Or.inr ⟨by (rw [k119_]; (try simp only [rd_eq, rd_ne, rf_eq, rf_nk, rf_nt, rd_fa, rd_af, ne_eq, Nat.reduceEqDiff, not_false_eq_true])), by (unfold okr_alter ora_alter; omega), by first | rfl | omega, fun j_ => by (rw [r119_]; (try simp only [rd_eq, rd_ne, rf_eq, rf_nk, rf_nt, rd_fa, rd_af, ne_eq, Nat.reduceEqDiff, not_false_eq_true]); try rfl)⟩)⟩
  · have cx7_ : ¬ (vx6_ = 0) := of_decide_eq_false cx7_
    refine sm_T_go 1 (c1 := (10, [some (.inr (.inr (some (13, 0)))), some (.inl a1_), some (.inl a2_), some (.inl a3_), none], [.inl a2_, .inr (.inr (some (13, 0)))], S0_)) rfl ?_
    refine sm_T_b0 (a := 2) (z := 27) rfl (fun cx10_ => ?_) (fun cx10_ => ?_)
    · have cx10_ : a2_ < 0 := of_decide_eq_true cx10_
      have hIx11_ : gi (sm_pI S0_ 13 0 0 1) := gi_pI hI_ (show 0 ≤ 1 ∧ 1 ≤ 4 from ⟨by omega, by omega⟩)
      have hFx12_ : ai_fr (sx_W vw_428n) S0_ (sm_pI S0_ 13 0 0 1) := ai_fr_tr hF_ (ai_fr_pI rfl)
      refine sm_T_go 7 (c1 := (82, [some (.inr (.inr (some (13, 0)))), some (.inl a1_), some (.inl a2_), some (.inl a3_), none], [.inl 0], sm_pI S0_ 13 0 0 1)) rfl ?_
      refine sm_T_ri rfl ⟨_, _, rfl, _, rfl, hIx11_, hFx12_, ?_⟩
      first | exact ⟨⟨by omega, by omega⟩, hJ_, Or.inl ⟨rf_eq, by (unfold ora_alter; omega), rfl⟩⟩ | exact ⟨⟨by omega, by omega⟩, hJ_, Or.inr (Or.inl ⟨rf_eq, by (unfold ora_alter; omega), by (unfold okr_alter ora_alter; omega), rfl⟩)⟩ | exact ⟨⟨by omega, by omega⟩, j119_, Or.inr (Or.inr ⟨by (rw [k119_]; (try simp only [rd_eq, rd_ne, rf_eq, rf_nk, rf_nt, rd_fa, rd_af, ne_eq, Nat.reduceEqDiff, not_false_eq_true])), by (unfold okr_alter ora_alter; omega), by first | rfl | omega, fun j_ => by (rw [r119_]; (try simp only [rd_eq, rd_ne, rf_eq, rf_nk, rf_nt, rd_fa, rd_af, ne_eq, Nat.reduceEqDiff, not_false_eq_true]); try rfl)⟩)⟩
    · have cx10_ : ¬ (a2_ < 0) := of_decide_eq_false cx10_
      refine sm_T_go 4 (c1 := (19, [some (.inr (.inr (some (13, 0)))), some (.inl a1_), some (.inl a2_), some (.inl a3_), none], [.inl a1_, .inr (.inr (some (228, 0))), .inl a2_, .inr (.inr (some (13, 0)))], S0_)) rfl ?_
      refine sm_T_iald (n := 4) rfl rfl (by omega) (by omega) ?_
      have bx13_ : 0 ≤ S0_.2.2.1 228 0 a1_.toNat ∧ S0_.2.2.1 228 0 a1_.toNat ≤ 150 := hI_.2 228 0 _
      refine sm_T_br (a := 3) (z := 17) rfl (fun cx14_ => ?_) (fun cx14_ => ?_)
      · have cx14_ : (S0_.2.2.1 228 0 a1_.toNat) ≤ a2_ := of_decide_eq_true cx14_
        have hIx15_ : gi (sm_pI S0_ 13 0 0 1) := gi_pI hI_ (show 0 ≤ 1 ∧ 1 ≤ 4 from ⟨by omega, by omega⟩)
        have hFx16_ : ai_fr (sx_W vw_428n) S0_ (sm_pI S0_ 13 0 0 1) := ai_fr_tr hF_ (ai_fr_pI rfl)
        refine sm_T_go 7 (c1 := (82, [some (.inr (.inr (some (13, 0)))), some (.inl a1_), some (.inl a2_), some (.inl a3_), none], [.inl 0], sm_pI S0_ 13 0 0 1)) rfl ?_
        refine sm_T_ri rfl ⟨_, _, rfl, _, rfl, hIx15_, hFx16_, ?_⟩
        first | exact ⟨⟨by omega, by omega⟩, hJ_, Or.inl ⟨rf_eq, by (unfold ora_alter; omega), rfl⟩⟩ | exact ⟨⟨by omega, by omega⟩, hJ_, Or.inr (Or.inl ⟨rf_eq, by (unfold ora_alter; omega), by (unfold okr_alter ora_alter; omega), rfl⟩)⟩ | exact ⟨⟨by omega, by omega⟩, j119_, Or.inr (Or.inr ⟨by (rw [k119_]; (try simp only [rd_eq, rd_ne, rf_eq, rf_nk, rf_nt, rd_fa, rd_af, ne_eq, Nat.reduceEqDiff, not_false_eq_true])), by (unfold okr_alter ora_alter; omega), by first | rfl | omega, fun j_ => by (rw [r119_]; (try simp only [rd_eq, rd_ne, rf_eq, rf_nk, rf_nt, rd_fa, rd_af, ne_eq, Nat.reduceEqDiff, not_false_eq_true]); try rfl)⟩)⟩
      · have cx14_ : ¬ ((S0_.2.2.1 228 0 a1_.toNat) ≤ a2_) := of_decide_eq_false cx14_
        refine sm_T_go 1 (c1 := (24, [some (.inr (.inr (some (13, 0)))), some (.inl a1_), some (.inl a2_), some (.inl a3_), none], [.inl a3_, .inr (.inr (some (13, 0)))], S0_)) rfl ?_
        refine sm_T_b0 (a := 2) (z := 13) rfl (fun cx17_ => ?_) (fun cx17_ => ?_)
        · have cx17_ : a3_ < 0 := of_decide_eq_true cx17_
          have hIx18_ : gi (sm_pI S0_ 13 0 0 1) := gi_pI hI_ (show 0 ≤ 1 ∧ 1 ≤ 4 from ⟨by omega, by omega⟩)
          have hFx19_ : ai_fr (sx_W vw_428n) S0_ (sm_pI S0_ 13 0 0 1) := ai_fr_tr hF_ (ai_fr_pI rfl)
          refine sm_T_go 7 (c1 := (82, [some (.inr (.inr (some (13, 0)))), some (.inl a1_), some (.inl a2_), some (.inl a3_), none], [.inl 0], sm_pI S0_ 13 0 0 1)) rfl ?_
          refine sm_T_ri rfl ⟨_, _, rfl, _, rfl, hIx18_, hFx19_, ?_⟩
          first | exact ⟨⟨by omega, by omega⟩, hJ_, Or.inl ⟨rf_eq, by (unfold ora_alter; omega), rfl⟩⟩ | exact ⟨⟨by omega, by omega⟩, hJ_, Or.inr (Or.inl ⟨rf_eq, by (unfold ora_alter; omega), by (unfold okr_alter ora_alter; omega), rfl⟩)⟩ | exact ⟨⟨by omega, by omega⟩, j119_, Or.inr (Or.inr ⟨by (rw [k119_]; (try simp only [rd_eq, rd_ne, rf_eq, rf_nk, rf_nt, rd_fa, rd_af, ne_eq, Nat.reduceEqDiff, not_false_eq_true])), by (unfold okr_alter ora_alter; omega), by first | rfl | omega, fun j_ => by (rw [r119_]; (try simp only [rd_eq, rd_ne, rf_eq, rf_nk, rf_nt, rd_fa, rd_af, ne_eq, Nat.reduceEqDiff, not_false_eq_true]); try rfl)⟩)⟩
        · have cx17_ : ¬ (a3_ < 0) := of_decide_eq_false cx17_
          refine sm_T_go 4 (c1 := (33, [some (.inr (.inr (some (13, 0)))), some (.inl a1_), some (.inl a2_), some (.inl a3_), none], [.inl a1_, .inr (.inr (some (233, 0))), .inl a3_, .inr (.inr (some (13, 0)))], S0_)) rfl ?_
          refine sm_T_iald (n := 4) rfl rfl (by omega) (by omega) ?_
          have bx20_ : 0 ≤ S0_.2.2.1 233 0 a1_.toNat ∧ S0_.2.2.1 233 0 a1_.toNat ≤ 12 := hI_.2 233 0 _
          refine sm_T_br (a := 2) (z := 7) rfl (fun cx21_ => ?_) (fun cx21_ => ?_)
          · have cx21_ : a3_ < (S0_.2.2.1 233 0 a1_.toNat) := of_decide_eq_true cx21_
            refine sm_T_go 4 (c1 := (48, [some (.inr (.inr (some (13, 0)))), some (.inl a1_), some (.inl a2_), some (.inl a3_), none], [.inl a1_, .inl 12, .inr (.inr (some (234, 0))), .inr (.inr (some (13, 0)))], S0_)) rfl ?_
            refine sm_T_bin (w := 12 * a1_) rfl (bi_mul (by omega) (by omega) (by omega)) ?_ -- pc_ 48
            refine sm_T_go 1 (c1 := (50, [some (.inr (.inr (some (13, 0)))), some (.inl a1_), some (.inl a2_), some (.inl a3_), none], [.inl a3_, .inl (12 * a1_), .inr (.inr (some (234, 0))), .inr (.inr (some (13, 0)))], S0_)) rfl ?_
            refine sm_T_bin (w := 12 * a1_ + a3_) rfl (bi_add (by omega) (by omega) (by omega)) ?_ -- pc_ 50
            refine sm_T_iald (n := 48) rfl rfl (by omega) (by omega) ?_
            have bx22_ : 0 ≤ S0_.2.2.1 234 0 (12 * a1_ + a3_).toNat ∧ S0_.2.2.1 234 0 (12 * a1_ + a3_).toNat ≤ 3 := hI_.2 234 0 _
            refine sm_T_go 5 (c1 := (59, [some (.inr (.inr (some (13, 0)))), some (.inl a1_), some (.inl a2_), some (.inl a3_), none], [.inl a2_, .inl a1_, .inr (.inr (some (13, 0))), .inr (.inr (some (234, 0))), .inl (S0_.2.2.1 234 0 (12 * a1_ + a3_).toNat), .inr (.inr (some (13, 0)))], S0_)) rfl ?_
            refine sm_T_cal (d1 := 0) (Q1 := vq_421 a1_ a2_ S0_) rfl rfl (by decide) (vc_421 a1_ a2_ S0_ hI_ (by omega) (by omega)) (fun u_ Sx23_ px26_ => ?_)
            obtain ⟨rfl, vx28_, rfl, px26_⟩ := px26_
            have e59_ := px26_
            have c59_ : S0_.2.2.1 234 0 (vx28_).toNat = S0_.2.2.1 234 0 (12 * a1_ + S0_.2.2.1 229 0 (150 * a1_ + a2_).toNat).toNat := by rw [e59_.2]
            refine sm_T_iald (n := 48) rfl rfl (by omega) (by omega) ?_
            have bx29_ : 0 ≤ S0_.2.2.1 234 0 vx28_.toNat ∧ S0_.2.2.1 234 0 vx28_.toNat ≤ 3 := hI_.2 234 0 _
            refine sm_T_br (a := 0) (z := 7) rfl (fun cx30_ => ?_) (fun cx30_ => ?_)
            · have cx30_ : (S0_.2.2.1 234 0 (12 * a1_ + a3_).toNat) = (S0_.2.2.1 234 0 vx28_.toNat) := of_decide_eq_true cx30_
              have K9_ : cRk a1_ S0_ := hJ_.2 a1_ (by omega) (by omega) (by omega)
              obtain ⟨K1_, K2_, K3_, K4_, K5_, K6_, K7_⟩ := K9_
              have hIx31_ : gi (sm_pI S0_ 13 0 0 0) := gi_pI hI_ (show 0 ≤ 0 ∧ 0 ≤ 4 from ⟨by omega, by omega⟩)
              have hFx32_ : ai_fr (sx_W vw_428n) S0_ (sm_pI S0_ 13 0 0 0) := ai_fr_tr hF_ (ai_fr_pI rfl)
              refine sm_T_go 9 (c1 := (91, [some (.inr (.inr (some (13, 0)))), some (.inl a1_), some (.inl a2_), some (.inl a3_), none], [.inl a1_, .inl 150, .inr (.inr (some (229, 0)))], sm_pI S0_ 13 0 0 0)) rfl ?_
              refine sm_T_bin (w := 150 * a1_) rfl (bi_mul (by omega) (by omega) (by omega)) ?_ -- pc_ 91
              refine sm_T_go 1 (c1 := (93, [some (.inr (.inr (some (13, 0)))), some (.inl a1_), some (.inl a2_), some (.inl a3_), none], [.inl a2_, .inl (150 * a1_), .inr (.inr (some (229, 0)))], sm_pI S0_ 13 0 0 0)) rfl ?_
              refine sm_T_bin (w := 150 * a1_ + a2_) rfl (bi_add (by omega) (by omega) (by omega)) ?_ -- pc_ 93
              refine sm_T_iald (n := 600) rfl rfl (by omega) (by omega) ?_
              have bx33_ : 0 ≤ S0_.2.2.1 229 0 (150 * a1_ + a2_).toNat ∧ S0_.2.2.1 229 0 (150 * a1_ + a2_).toNat ≤ 11 := hI_.2 229 0 _
              refine sm_T_go 5 (c1 := (105, [some (.inr (.inr (some (13, 0)))), some (.inl a1_), some (.inl a2_), some (.inl a3_), some (.inl (S0_.2.2.1 229 0 (150 * a1_ + a2_).toNat))], [.inl a1_, .inl 150, .inr (.inr (some (229, 0)))], sm_pI S0_ 13 0 0 0)) rfl ?_
              refine sm_T_bin (w := 150 * a1_) rfl (bi_mul (by omega) (by omega) (by omega)) ?_ -- pc_ 105
              refine sm_T_go 1 (c1 := (107, [some (.inr (.inr (some (13, 0)))), some (.inl a1_), some (.inl a2_), some (.inl a3_), some (.inl (S0_.2.2.1 229 0 (150 * a1_ + a2_).toNat))], [.inl a2_, .inl (150 * a1_), .inr (.inr (some (229, 0)))], sm_pI S0_ 13 0 0 0)) rfl ?_
              refine sm_T_bin (w := 150 * a1_ + a2_) rfl (bi_add (by omega) (by omega) (by omega)) ?_ -- pc_ 107
              refine sm_T_go 1 (c1 := (109, [some (.inr (.inr (some (13, 0)))), some (.inl a1_), some (.inl a2_), some (.inl a3_), some (.inl (S0_.2.2.1 229 0 (150 * a1_ + a2_).toNat))], [.inl a3_, .inl (150 * a1_ + a2_), .inr (.inr (some (229, 0)))], sm_pI S0_ 13 0 0 0)) rfl ?_
              refine sm_T_iast (n := 600) rfl rfl (by omega) (by omega) ?_
              have hIx34_ : gi (sm_aI (sm_pI S0_ 13 0 0 0) 229 0 (150 * a1_ + a2_).toNat a3_) := gi_aI hIx31_ (show 0 ≤ a3_ ∧ a3_ ≤ 11 from ⟨by omega, by omega⟩)
              have hFx35_ : ai_fr (sx_W vw_428n) S0_ (sm_aI (sm_pI S0_ 13 0 0 0) 229 0 (150 * a1_ + a2_).toNat a3_) := ai_fr_tr hFx32_ (ai_fr_aI rfl)
              refine sm_T_go 4 (c1 := (116, [some (.inr (.inr (some (13, 0)))), some (.inl a1_), some (.inl a2_), some (.inl a3_), some (.inl (S0_.2.2.1 229 0 (150 * a1_ + a2_).toNat))], [.inl (-1), .inl a1_, .inr (.inr (some (289, 0)))], sm_aI (sm_pI S0_ 13 0 0 0) 229 0 (150 * a1_ + a2_).toNat a3_)) rfl ?_
              refine sm_T_iast (n := 4) rfl rfl (by omega) (by omega) ?_
              have hIx36_ : gi (sm_aI (sm_aI (sm_pI S0_ 13 0 0 0) 229 0 (150 * a1_ + a2_).toNat a3_) 289 0 a1_.toNat (-1)) := gi_aI hIx34_ (show (-1) ≤ (-1) ∧ (-1) ≤ 1224 from ⟨by omega, by omega⟩)
              have hFx37_ : ai_fr (sx_W vw_428n) S0_ (sm_aI (sm_aI (sm_pI S0_ 13 0 0 0) 229 0 (150 * a1_ + a2_).toNat a3_) 289 0 a1_.toNat (-1)) := ai_fr_tr hFx35_ (ai_fr_aI rfl)
              refine sm_T_go 2 (c1 := (119, [some (.inr (.inr (some (13, 0)))), some (.inl a1_), some (.inl a2_), some (.inl a3_), some (.inl (S0_.2.2.1 229 0 (150 * a1_ + a2_).toNat))], [.inl a1_, .inr (.inr (some (13, 0)))], sm_aI (sm_aI (sm_pI S0_ 13 0 0 0) 229 0 (150 * a1_ + a2_).toNat a3_) 289 0 a1_.toNat (-1))) rfl ?_
              refine sm_T_cal (d1 := 0) (Q1 := vq_519 a1_ (sm_aI (sm_aI (sm_pI S0_ 13 0 0 0) 229 0 (150 * a1_ + a2_).toNat a3_) 289 0 a1_.toNat (-1))) rfl rfl (by decide) (vc_519 a1_ (sm_aI (sm_aI (sm_pI S0_ 13 0 0 0) 229 0 (150 * a1_ + a2_).toNat a3_) 289 0 a1_.toNat (-1)) hIx36_ (by omega)) (fun u_ Sx38_ px41_ => ?_)
              obtain ⟨rfl, hIx39_, hFx40_, px41_⟩ := px41_
              have hFx42_ : ai_fr (sx_W vw_428n) S0_ Sx38_ := ai_fr_tr hFx37_ (fr_le hFx40_ rfl)
              have r119_ : Sx38_.2.2.1 229 0 = ((sm_aI (sm_aI (sm_pI S0_ 13 0 0 0) 229 0 (150 * a1_ + a2_).toNat a3_) 289 0 a1_.toNat (-1))).2.2.1 229 0 := fr_arr (t := 229) (i := 0) hFx40_ rfl
              have k119_ : Sx38_.1 13 0 0 = ((sm_aI (sm_aI (sm_pI S0_ 13 0 0 0) 229 0 (150 * a1_ + a2_).toNat a3_) 289 0 a1_.toNat (-1))).1 13 0 0 := hFx40_.1 13 0 0 rfl
              have j119_ : jR Sx38_ := jR_fr (S_ := (sm_aI (sm_aI (sm_pI S0_ 13 0 0 0) 229 0 (150 * a1_ + a2_).toNat a3_) 289 0 a1_.toNat (-1))) (jR_fr (S_ := sm_aI (sm_pI S0_ 13 0 0 0) 229 0 (150 * a1_ + a2_).toNat a3_) (w_ := ([], [289], [])) (jR_al (S_ := sm_pI S0_ 13 0 0 0) hJ_ ⟨by omega, by omega⟩ ⟨by omega, by omega⟩ (gi_aI (gi_pI hI_ (by decide)) (show 0 ≤ a3_ ∧ a3_ ≤ 11 by omega)) (by rw [show 12 * a1_ + (sm_pI S0_ 13 0 0 0).2.2.1 229 0 (150 * a1_ + a2_).toNat = 12 * a1_ + S0_.2.2.1 229 0 (150 * a1_ + a2_).toNat from rfl, ← e59_.2]; show S0_.2.2.1 234 0 _ = S0_.2.2.1 234 0 _; omega)) (by assumption) (ai_fr_aI rfl)) hIx39_ hFx40_
              refine sm_T_go 1 (c1 := (124, [some (.inr (.inr (some (13, 0)))), some (.inl a1_), some (.inl a2_), some (.inl a3_), some (.inl (S0_.2.2.1 229 0 (150 * a1_ + a2_).toNat))], [.inl (S0_.2.2.1 229 0 (150 * a1_ + a2_).toNat)], Sx38_)) rfl ?_
              refine sm_T_ri rfl ⟨_, _, rfl, _, rfl, hIx39_, hFx42_, ?_⟩
              first | exact ⟨⟨by omega, by omega⟩, hJ_, Or.inl ⟨rf_eq, by (unfold ora_alter; omega), rfl⟩⟩ | exact ⟨⟨by omega, by omega⟩, hJ_, Or.inr (Or.inl ⟨rf_eq, by (unfold ora_alter; omega), by (unfold okr_alter ora_alter; omega), rfl⟩)⟩ | exact ⟨⟨by omega, by omega⟩, j119_, Or.inr (Or.inr ⟨by (rw [k119_]; (try simp only [rd_eq, rd_ne, rf_eq, rf_nk, rf_nt, rd_fa, rd_af, ne_eq, Nat.reduceEqDiff, not_false_eq_true])), by (unfold okr_alter ora_alter; omega), by first | rfl | omega, fun j_ => by (rw [r119_]; (try simp only [rd_eq, rd_ne, rf_eq, rf_nk, rf_nt, rd_fa, rd_af, ne_eq, Nat.reduceEqDiff, not_false_eq_true]); try rfl)⟩)⟩
            · have cx30_ : ¬ ((S0_.2.2.1 234 0 (12 * a1_ + a3_).toNat) = (S0_.2.2.1 234 0 vx28_.toNat)) := of_decide_eq_false cx30_
              have hIx43_ : gi (sm_pI S0_ 13 0 0 2) := gi_pI hI_ (show 0 ≤ 2 ∧ 2 ≤ 4 from ⟨by omega, by omega⟩)
              have hFx44_ : ai_fr (sx_W vw_428n) S0_ (sm_pI S0_ 13 0 0 2) := ai_fr_tr hF_ (ai_fr_pI rfl)
              refine sm_T_go 7 (c1 := (82, [some (.inr (.inr (some (13, 0)))), some (.inl a1_), some (.inl a2_), some (.inl a3_), none], [.inl 0], sm_pI S0_ 13 0 0 2)) rfl ?_
              refine sm_T_ri rfl ⟨_, _, rfl, _, rfl, hIx43_, hFx44_, ?_⟩
              first | exact ⟨⟨by omega, by omega⟩, hJ_, Or.inl ⟨rf_eq, by (unfold ora_alter; omega), rfl⟩⟩ | exact ⟨⟨by omega, by omega⟩, hJ_, Or.inr (Or.inl ⟨rf_eq, by (unfold ora_alter; omega), by (unfold okr_alter ora_alter; omega), rfl⟩)⟩ | exact ⟨⟨by omega, by omega⟩, j119_, Or.inr (Or.inr ⟨by (rw [k119_]; (try simp only [rd_eq, rd_ne, rf_eq, rf_nk, rf_nt, rd_fa, rd_af, ne_eq, Nat.reduceEqDiff, not_false_eq_true])), by (unfold okr_alter ora_alter; omega), by first | rfl | omega, fun j_ => by (rw [r119_]; (try simp only [rd_eq, rd_ne, rf_eq, rf_nk, rf_nt, rd_fa, rd_af, ne_eq, Nat.reduceEqDiff, not_false_eq_true]); try rfl)⟩)⟩
          · have cx21_ : ¬ (a3_ < (S0_.2.2.1 233 0 a1_.toNat)) := of_decide_eq_false cx21_
            have hIx45_ : gi (sm_pI S0_ 13 0 0 1) := gi_pI hI_ (show 0 ≤ 1 ∧ 1 ≤ 4 from ⟨by omega, by omega⟩)
            have hFx46_ : ai_fr (sx_W vw_428n) S0_ (sm_pI S0_ 13 0 0 1) := ai_fr_tr hF_ (ai_fr_pI rfl)
            refine sm_T_go 7 (c1 := (82, [some (.inr (.inr (some (13, 0)))), some (.inl a1_), some (.inl a2_), some (.inl a3_), none], [.inl 0], sm_pI S0_ 13 0 0 1)) rfl ?_
            refine sm_T_ri rfl ⟨_, _, rfl, _, rfl, hIx45_, hFx46_, ?_⟩
            first | exact ⟨⟨by omega, by omega⟩, hJ_, Or.inl ⟨rf_eq, by (unfold ora_alter; omega), rfl⟩⟩ | exact ⟨⟨by omega, by omega⟩, hJ_, Or.inr (Or.inl ⟨rf_eq, by (unfold ora_alter; omega), by (unfold okr_alter ora_alter; omega), rfl⟩)⟩ | exact ⟨⟨by omega, by omega⟩, j119_, Or.inr (Or.inr ⟨by (rw [k119_]; (try simp only [rd_eq, rd_ne, rf_eq, rf_nk, rf_nt, rd_fa, rd_af, ne_eq, Nat.reduceEqDiff, not_false_eq_true])), by (unfold okr_alter ora_alter; omega), by first | rfl | omega, fun j_ => by (rw [r119_]; (try simp only [rd_eq, rd_ne, rf_eq, rf_nk, rf_nt, rd_fa, rd_af, ne_eq, Nat.reduceEqDiff, not_false_eq_true]); try rfl)⟩)⟩
