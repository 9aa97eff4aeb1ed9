/-! Layout.takeBox -/
def vw_75 : sx_Wl := ([], [48, 49], [])
def vq_75 (a1_ : Int) (a2_ : Int) (a3_ : Int) (a4_ : Int) (a5_ : Int) (a6_ : Int) (ii_ : Nat) (S0_ : sm_S) (u_ : Option sm_V) (S1_ : sm_S) : Prop := u_ = none ∧ gi S1_ ∧ ai_fr (sx_W vw_75) S0_ S1_ ∧ (cdf ii_ S0_ S1_ ∧ (nxb9 ii_ a1_ S0_ S1_))
set_option maxHeartbeats 400000 in
theorem vc_75 {sc_ : Nat × (Nat → Int)} (a1_ : Int) (a2_ : Int) (a3_ : Int) (a4_ : Int) (a5_ : Int) (a6_ : Int) (ii_ : Nat) (S0_ : sm_S) (hI_ : gi S0_) (h1_ : 0 ≤ a1_ ∧ a1_ ≤ 161) (h2_ : 0 ≤ a2_ ∧ a2_ ≤ 2) (h3_ : 0 ≤ a3_ ∧ a3_ ≤ 61 ∧ 0 ≤ a4_ ∧ a4_ ≤ 61 ∧ 0 ≤ a5_ ∧ a5_ ≤ 61 ∧ 0 ≤ a6_ ∧ a6_ ≤ 61) (hw_ : S0_.1 4 ii_ 11 ≠ 0 → S0_.2.2.1 49 (0 + ii_) a1_.toNat ≤ 1999) (hx_ : S0_.2.2.1 49 (0 + ii_) a1_.toNat ≤ 19999) : sm_T (mt_P sc_) 1 75 (0, [some (.inr (.inr (some (4, ii_)))), some (.inl a1_), some (.inl a2_), some (.inl a3_), some (.inl a4_), some (.inl a5_), some (.inl a6_)], [], S0_) (fun ro9_ => ∃ u_ S1_, ro9_ = (.inl u_, S1_, 0) ∧ vq_75 a1_ a2_ a3_ a4_ a5_ a6_ ii_ S0_ u_ S1_) := by
  have hF_ : ai_fr (sx_W vw_75) S0_ S0_ := ai_fr_rf
  have hC_ : cdf ii_ S0_ S0_ := cdf_rf
  have bx1_ : 0 ≤ S0_.1 4 ii_ 11 ∧ S0_.1 4 ii_ 11 ≤ 1 := hI_.1 4 ii_ 11 rfl
  refine sm_T_go 2 (c1 := (4, [some (.inr (.inr (some (4, ii_)))), some (.inl a1_), some (.inl a2_), some (.inl a3_), some (.inl a4_), some (.inl a5_), some (.inl a6_)], [.inl (S0_.1 4 ii_ 11)], S0_)) rfl ?_
  refine sm_T_b0 (a := 0) (z := 37) rfl (fun cx2_ => ?_) (fun cx2_ => ?_)
  · have cx2_ : (S0_.1 4 ii_ 11) = 0 := of_decide_eq_true cx2_
    refine sm_T_go 4 (c1 := (47, [some (.inr (.inr (some (4, ii_)))), some (.inl a1_), some (.inl a2_), some (.inl a3_), some (.inl a4_), some (.inl a5_), some (.inl a6_)], [.inl a1_, .inr (.inr (some (49, (0 + ii_)))), .inl a1_, .inr (.inr (some (49, (0 + ii_))))], S0_)) rfl ?_
    refine sm_T_iald (n := 162) rfl rfl (by omega) (by omega) ?_
    have bx3_ : 0 ≤ S0_.2.2.1 49 (0 + ii_) a1_.toNat ∧ S0_.2.2.1 49 (0 + ii_) a1_.toNat ≤ 20000 := hI_.2 49 (0 + ii_) _
    refine sm_T_go 1 (c1 := (49, [some (.inr (.inr (some (4, ii_)))), some (.inl a1_), some (.inl a2_), some (.inl a3_), some (.inl a4_), some (.inl a5_), some (.inl a6_)], [.inl 1, .inl (S0_.2.2.1 49 (0 + ii_) a1_.toNat), .inl a1_, .inr (.inr (some (49, (0 + ii_))))], S0_)) rfl ?_
    refine sm_T_bin (w := (S0_.2.2.1 49 (0 + ii_) a1_.toNat) + 1) rfl (bi_add (by omega) (by omega) (by omega)) ?_ -- pc_ 49
    refine sm_T_iast (n := 162) rfl rfl (by omega) (by omega) ?_
    have hIx4_ : gi (sm_aI S0_ 49 (0 + ii_) a1_.toNat ((S0_.2.2.1 49 (0 + ii_) a1_.toNat) + 1)) := gi_aI hI_ (show 0 ≤ (S0_.2.2.1 49 (0 + ii_) a1_.toNat) + 1 ∧ (S0_.2.2.1 49 (0 + ii_) a1_.toNat) + 1 ≤ 20000 from ⟨by omega, by omega⟩)
    have hFx5_ : ai_fr (sx_W vw_75) S0_ (sm_aI S0_ 49 (0 + ii_) a1_.toNat ((S0_.2.2.1 49 (0 + ii_) a1_.toNat) + 1)) := ai_fr_tr hF_ (ai_fr_aI rfl)
    have hCx6_ : cdf ii_ S0_ (sm_aI S0_ 49 (0 + ii_) a1_.toNat ((S0_.2.2.1 49 (0 + ii_) a1_.toNat) + 1)) := cdf_aI hC_ (Or.inr (by rw [show cof 49 = 0 from rfl] <;> omega))
    refine sm_T_rv rfl ⟨_, _, rfl, rfl, hIx4_, hFx5_, ?_⟩
    refine ⟨hCx6_, ?_⟩
    intro c_
    rw [rd_eq]
    by_cases z_ : c_ = a1_.toNat
    · rw [if_pos z_, if_pos (by omega), z_] <;> first | rfl | (rw [f49_])
    · rw [if_neg z_, if_neg (by omega)] <;> first | omega | (rw [f49_]; omega)
  · have cx2_ : ¬ ((S0_.1 4 ii_ 11) = 0) := of_decide_eq_false cx2_
    have hw9_ := hw_ (by omega)
    refine sm_T_go 4 (c1 := (13, [some (.inr (.inr (some (4, ii_)))), some (.inl a1_), some (.inl a2_), some (.inl a3_), some (.inl a4_), some (.inl a5_), some (.inl a6_)], [.inl a1_, .inr (.inr (some (49, (0 + ii_)))), .inr (.inr (some (4, ii_)))], S0_)) rfl ?_
    refine sm_T_iald (n := 162) rfl rfl (by omega) (by omega) ?_
    have bx7_ : 0 ≤ S0_.2.2.1 49 (0 + ii_) a1_.toNat ∧ S0_.2.2.1 49 (0 + ii_) a1_.toNat ≤ 20000 := hI_.2 49 (0 + ii_) _
    refine sm_T_go 3 (c1 := (17, [some (.inr (.inr (some (4, ii_)))), some (.inl a1_), some (.inl a2_), some (.inl a3_), some (.inl a4_), some (.inl a5_), some (.inl a6_)], [.inl a3_, .inl 4, .inl a2_, .inl (S0_.2.2.1 49 (0 + ii_) a1_.toNat), .inr (.inr (some (4, ii_)))], S0_)) rfl ?_
    refine sm_T_bin (w := 4 * a3_) rfl (bi_mul (by omega) (by omega) (by omega)) ?_ -- pc_ 17
    refine sm_T_go 1 (c1 := (19, [some (.inr (.inr (some (4, ii_)))), some (.inl a1_), some (.inl a2_), some (.inl a3_), some (.inl a4_), some (.inl a5_), some (.inl a6_)], [.inl 1, .inl (4 * a3_), .inl a2_, .inl (S0_.2.2.1 49 (0 + ii_) a1_.toNat), .inr (.inr (some (4, ii_)))], S0_)) rfl ?_
    refine sm_T_bin (w := 4 * a3_ - 1) rfl (bi_sub (by omega) (by omega) (by omega)) ?_ -- pc_ 19
    refine sm_T_go 2 (c1 := (23, [some (.inr (.inr (some (4, ii_)))), some (.inl a1_), some (.inl a2_), some (.inl a3_), some (.inl a4_), some (.inl a5_), some (.inl a6_)], [.inl a4_, .inl 4, .inl (4 * a3_ - 1), .inl a2_, .inl (S0_.2.2.1 49 (0 + ii_) a1_.toNat), .inr (.inr (some (4, ii_)))], S0_)) rfl ?_
    refine sm_T_bin (w := 4 * a4_) rfl (bi_mul (by omega) (by omega) (by omega)) ?_ -- pc_ 23
    refine sm_T_go 1 (c1 := (25, [some (.inr (.inr (some (4, ii_)))), some (.inl a1_), some (.inl a2_), some (.inl a3_), some (.inl a4_), some (.inl a5_), some (.inl a6_)], [.inl 1, .inl (4 * a4_), .inl (4 * a3_ - 1), .inl a2_, .inl (S0_.2.2.1 49 (0 + ii_) a1_.toNat), .inr (.inr (some (4, ii_)))], S0_)) rfl ?_
    refine sm_T_bin (w := 4 * a4_ - 1) rfl (bi_sub (by omega) (by omega) (by omega)) ?_ -- pc_ 25
    refine sm_T_go 2 (c1 := (29, [some (.inr (.inr (some (4, ii_)))), some (.inl a1_), some (.inl a2_), some (.inl a3_), some (.inl a4_), some (.inl a5_), some (.inl a6_)], [.inl a5_, .inl 4, .inl (4 * a4_ - 1), .inl (4 * a3_ - 1), .inl a2_, .inl (S0_.2.2.1 49 (0 + ii_) a1_.toNat), .inr (.inr (some (4, ii_)))], S0_)) rfl ?_
    refine sm_T_bin (w := 4 * a5_) rfl (bi_mul (by omega) (by omega) (by omega)) ?_ -- pc_ 29
    refine sm_T_go 1 (c1 := (31, [some (.inr (.inr (some (4, ii_)))), some (.inl a1_), some (.inl a2_), some (.inl a3_), some (.inl a4_), some (.inl a5_), some (.inl a6_)], [.inl 1, .inl (4 * a5_), .inl (4 * a4_ - 1), .inl (4 * a3_ - 1), .inl a2_, .inl (S0_.2.2.1 49 (0 + ii_) a1_.toNat), .inr (.inr (some (4, ii_)))], S0_)) rfl ?_
    refine sm_T_bin (w := 4 * a5_ + 1) rfl (bi_add (by omega) (by omega) (by omega)) ?_ -- pc_ 31
    refine sm_T_go 2 (c1 := (35, [some (.inr (.inr (some (4, ii_)))), some (.inl a1_), some (.inl a2_), some (.inl a3_), some (.inl a4_), some (.inl a5_), some (.inl a6_)], [.inl a6_, .inl 4, .inl (4 * a5_ + 1), .inl (4 * a4_ - 1), .inl (4 * a3_ - 1), .inl a2_, .inl (S0_.2.2.1 49 (0 + ii_) a1_.toNat), .inr (.inr (some (4, ii_)))], S0_)) rfl ?_
    refine sm_T_bin (w := 4 * a6_) rfl (bi_mul (by omega) (by omega) (by omega)) ?_ -- pc_ 35
    refine sm_T_go 1 (c1 := (37, [some (.inr (.inr (some (4, ii_)))), some (.inl a1_), some (.inl a2_), some (.inl a3_), some (.inl a4_), some (.inl a5_), some (.inl a6_)], [.inl 1, .inl (4 * a6_), .inl (4 * a5_ + 1), .inl (4 * a4_ - 1), .inl (4 * a3_ - 1), .inl a2_, .inl (S0_.2.2.1 49 (0 + ii_) a1_.toNat), .inr (.inr (some (4, ii_)))], S0_)) rfl ?_
    refine sm_T_bin (w := 4 * a6_ + 1) rfl (bi_add (by omega) (by omega) (by omega)) ?_ -- pc_ 37
    refine sm_T_cal (d1 := 0) (Q1 := vq_69 (S0_.2.2.1 49 (0 + ii_) a1_.toNat) a2_ (4 * a3_ - 1) (4 * a4_ - 1) (4 * a5_ + 1) (4 * a6_ + 1) ii_ S0_) rfl rfl (by decide) (vc_69 (S0_.2.2.1 49 (0 + ii_) a1_.toNat) a2_ (4 * a3_ - 1) (4 * a4_ - 1) (4 * a5_ + 1) (4 * a6_ + 1) ii_ S0_ hI_ (by omega) (by omega) (by omega) (by omega) (by omega) (by omega)) (fun u_ Sx8_ px11_ => ?_)
    obtain ⟨rfl, hIx9_, hFx10_, px11_⟩ := px11_
    have hFx12_ : ai_fr (sx_W vw_75) S0_ Sx8_ := ai_fr_tr hF_ (fr_le hFx10_ rfl)
    obtain ⟨dx14_, px11_⟩ := px11_
    have hCx13_ : cdf ii_ S0_ Sx8_ := cdf_tr hC_ (cdf_cg (by omega) dx14_)
    have ex15_ : Sx8_.1 4 ii_ 11 = S0_.1 4 ii_ 11 := hFx10_.1 4 ii_ 11 rfl
    have f49_ : Sx8_.2.2.1 49 (0 + ii_) = S0_.2.2.1 49 (0 + ii_) := fr_arr hFx10_ rfl
    have f48_ : Sx8_.2.2.1 49 (0 + ii_) a1_.toNat = S0_.2.2.1 49 (0 + ii_) a1_.toNat := by rw [f49_]
    refine sm_T_go 4 (c1 := (47, [some (.inr (.inr (some (4, ii_)))), some (.inl a1_), some (.inl a2_), some (.inl a3_), some (.inl a4_), some (.inl a5_), some (.inl a6_)], [.inl a1_, .inr (.inr (some (49, (0 + ii_)))), .inl a1_, .inr (.inr (some (49, (0 + ii_))))], Sx8_)) rfl ?_
    refine sm_T_iald (n := 162) rfl rfl (by omega) (by omega) ?_
    have bx16_ : 0 ≤ Sx8_.2.2.1 49 (0 + ii_) a1_.toNat ∧ Sx8_.2.2.1 49 (0 + ii_) a1_.toNat ≤ 20000 := hIx9_.2 49 (0 + ii_) _
    refine sm_T_go 1 (c1 := (49, [some (.inr (.inr (some (4, ii_)))), some (.inl a1_), some (.inl a2_), some (.inl a3_), some (.inl a4_), some (.inl a5_), some (.inl a6_)], [.inl 1, .inl (Sx8_.2.2.1 49 (0 + ii_) a1_.toNat), .inl a1_, .inr (.inr (some (49, (0 + ii_))))], Sx8_)) rfl ?_
    refine sm_T_bin (w := (Sx8_.2.2.1 49 (0 + ii_) a1_.toNat) + 1) rfl (bi_add (by omega) (by omega) (by omega)) ?_ -- pc_ 49
    refine sm_T_iast (n := 162) rfl rfl (by omega) (by omega) ?_
    have hIx17_ : gi (sm_aI Sx8_ 49 (0 + ii_) a1_.toNat ((Sx8_.2.2.1 49 (0 + ii_) a1_.toNat) + 1)) := gi_aI hIx9_ (show 0 ≤ (Sx8_.2.2.1 49 (0 + ii_) a1_.toNat) + 1 ∧ (Sx8_.2.2.1 49 (0 + ii_) a1_.toNat) + 1 ≤ 20000 from ⟨by omega, by omega⟩)
    have hFx18_ : ai_fr (sx_W vw_75) S0_ (sm_aI Sx8_ 49 (0 + ii_) a1_.toNat ((Sx8_.2.2.1 49 (0 + ii_) a1_.toNat) + 1)) := ai_fr_tr hFx12_ (ai_fr_aI rfl)
    have hCx19_ : cdf ii_ S0_ (sm_aI Sx8_ 49 (0 + ii_) a1_.toNat ((Sx8_.2.2.1 49 (0 + ii_) a1_.toNat) + 1)) := cdf_aI hCx13_ (Or.inr (by rw [show cof 49 = 0 from rfl] <;> omega))
    refine sm_T_rv rfl ⟨_, _, rfl, rfl, hIx17_, hFx18_, ?_⟩
    refine ⟨hCx19_, ?_⟩
    intro c_
    rw [rd_eq]
    by_cases z_ : c_ = a1_.toNat
    · rw [if_pos z_, if_pos (by omega), z_] <;> first | rfl | (rw [f49_])
    · rw [if_neg z_, if_neg (by omega)] <;> first | omega | (rw [f49_]; omega)
