/-! Layout.scanRow -/
def vw_74r : sx_Wl := ([], [48, 49], [])
def vq_74r (a3_ : Int) (a4_ : Int) (ii_ : Nat) (bb_ : Nat) (S0_ : sm_S) (u_ : Option sm_V) (S1_ : sm_S) : Prop := u_ = none ∧ gi S1_ ∧ ai_fr (sx_W vw_74r) S0_ S1_ ∧ (cdf ii_ S0_ S1_ ∧ (nxb9 ii_ (tk0 (S0_.2.2.1 22 (0 + bb_)) (S0_.2.2.1 23 (0 + bb_)) (S0_.1 0 bb_ 0 + 2) a4_ a3_) S0_ S1_))
set_option maxHeartbeats 400000 in
set_option maxRecDepth 20000 in
theorem vl_74r {sc_ : Nat × (Nat → Int)} (a3_ : Int) (a4_ : Int) (ii_ : Nat) (bb_ : Nat) (S0_ : sm_S) (h3_ : 0 ≤ a3_ ∧ a3_ < S0_.1 0 bb_ 0 + 2) (h4_ : 0 ≤ a4_ ∧ a4_ < S0_.1 0 bb_ 2) (hw_ : S0_.1 4 ii_ 11 ≠ 0 → 0 ≤ (tk0 (S0_.2.2.1 22 (0 + bb_)) (S0_.2.2.1 23 (0 + bb_)) (S0_.1 0 bb_ 0 + 2) a4_ a3_) → S0_.2.2.1 49 (0 + ii_) (tk0 (S0_.2.2.1 22 (0 + bb_)) (S0_.2.2.1 23 (0 + bb_)) (S0_.1 0 bb_ 0 + 2) a4_ a3_).toNat ≤ 1999) (hx_ : 0 ≤ (tk0 (S0_.2.2.1 22 (0 + bb_)) (S0_.2.2.1 23 (0 + bb_)) (S0_.1 0 bb_ 0 + 2) a4_ a3_) → S0_.2.2.1 49 (0 + ii_) (tk0 (S0_.2.2.1 22 (0 + bb_)) (S0_.2.2.1 23 (0 + bb_)) (S0_.1 0 bb_ 0 + 2) a4_ a3_).toNat ≤ 19999) : ∀ nn_ : Nat, (∀ (w9_ : Int) (p9_ : Int) (rm : Int) (ln_ : Int) (S_ : sm_S), gi S_ → ai_fr (sx_W vw_74r) S0_ S_ → ((w9_ = S0_.1 0 bb_ 0 + 2 ∧ p9_ = a4_ * (S0_.1 0 bb_ 0 + 2) + a3_ ∧ 0 ≤ p9_ ∧ p9_ ≤ 2294 + a3_ ∧ rm = w9_ - 1 - a3_ ∧ 0 ≤ ln_ ∧ ln_ ≤ rm) ∧ (0 ≤ S0_.2.2.1 22 (0 + bb_) p9_.toNat) ∧ (S_ = S0_) ∧ ((tk0 (S0_.2.2.1 22 (0 + bb_)) (S0_.2.2.1 23 (0 + bb_)) (S0_.1 0 bb_ 0 + 2) a4_ a3_) = S0_.2.2.1 22 (0 + bb_) p9_.toNat) ∧ (cdf ii_ S0_ S_) ∧ True) → ((100 - ln_).toNat) < nn_ → sm_T (mt_P sc_) 2 74 (128, [some (.inr (.inr (some (4, ii_)))), some (.inr (.inr (some (0, bb_)))), some (.inl 0), some (.inl a3_), some (.inl a4_), some (.inl w9_), some (.inl p9_), some (.inl 1), some (.inl 1), some (.inl 0), some (.inl rm), some (.inl ln_)], [], S_) (fun ro9_ => ∃ u_ S1_, ro9_ = (.inl u_, S1_, 0) ∧ vq_74r a3_ a4_ ii_ bb_ S0_ u_ S1_)) := by
  intro nn_
  induction nn_ with
  | zero => exact fun _ _ _ _ _ _ _ _ h_ => absurd h_ (Nat.not_lt_zero _)
  | succ nn_ ih_ =>
    rintro w9_ p9_ rm ln_ S_ hI_ hF_ ⟨h0_, ho_, hS_, hT_, hC_, -⟩ hm_
    have cs_ : 0 ≤ S_.1 0 bb_ 0 ∧ S_.1 0 bb_ 0 ≤ 60 := hI_.1 0 bb_ 0 rfl
    have ch_ : 0 ≤ S_.1 0 bb_ 2 ∧ S_.1 0 bb_ 2 ≤ 38 := hI_.1 0 bb_ 2 rfl
    rw [hS_] at cs_ ch_
    rw [hT_] at hw_ hx_
    refine sm_T_go 2 (c1 := (132, [some (.inr (.inr (some (4, ii_)))), some (.inr (.inr (some (0, bb_)))), some (.inl 0), some (.inl a3_), some (.inl a4_), some (.inl w9_), some (.inl p9_), some (.inl 1), some (.inl 1), some (.inl 0), some (.inl rm), some (.inl ln_)], [.inl rm, .inl ln_], S_)) rfl ?_
    refine sm_T_br (a := 3) (z := 28) rfl (fun cx1_ => ?_) (fun cx1_ => ?_)
    · have cx1_ : rm ≤ ln_ := of_decide_eq_true cx1_
      refine sm_T_go 4 (c1 := (167, [some (.inr (.inr (some (4, ii_)))), some (.inr (.inr (some (0, bb_)))), some (.inl 0), some (.inl a3_), some (.inl a4_), some (.inl w9_), some (.inl p9_), some (.inl 1), some (.inl 1), some (.inl 0), some (.inl rm), some (.inl ln_)], [.inl p9_, .inr (.inr (some (22, (0 + bb_)))), .inr (.inr (some (4, ii_)))], S_)) rfl ?_
      refine sm_T_iald (n := 4712) rfl rfl (by omega) (by omega) ?_
      have bx2_ : (-1) ≤ S_.2.2.1 22 (0 + bb_) p9_.toNat ∧ S_.2.2.1 22 (0 + bb_) p9_.toNat ≤ 161 := hI_.2 22 (0 + bb_) _
      refine sm_T_go 7 (c1 := (179, [some (.inr (.inr (some (4, ii_)))), some (.inr (.inr (some (0, bb_)))), some (.inl 0), some (.inl a3_), some (.inl a4_), some (.inl w9_), some (.inl p9_), some (.inl 1), some (.inl 1), some (.inl 0), some (.inl rm), some (.inl ln_)], [.inl ln_, .inl a3_, .inl a4_, .inl a3_, .inl 0, .inl (S_.2.2.1 22 (0 + bb_) p9_.toNat), .inr (.inr (some (4, ii_)))], S_)) rfl ?_
      refine sm_T_bin (w := a3_ + ln_) rfl (bi_add (by omega) (by omega) (by omega)) ?_ -- pc_ 179
      refine sm_T_go 5 (c1 := (198, [some (.inr (.inr (some (4, ii_)))), some (.inr (.inr (some (0, bb_)))), some (.inl 0), some (.inl a3_), some (.inl a4_), some (.inl w9_), some (.inl p9_), some (.inl 1), some (.inl 1), some (.inl 0), some (.inl rm), some (.inl ln_)], [.inl a4_, .inl (a3_ + ln_), .inl a4_, .inl a3_, .inl 0, .inl (S_.2.2.1 22 (0 + bb_) p9_.toNat), .inr (.inr (some (4, ii_)))], S_)) rfl ?_
      refine sm_T_cal (d1 := 1) (Q1 := vq_75 (S_.2.2.1 22 (0 + bb_) p9_.toNat) 0 a3_ a4_ (a3_ + ln_) a4_ ii_ S_) rfl rfl (by decide) (vc_75 (S_.2.2.1 22 (0 + bb_) p9_.toNat) 0 a3_ a4_ (a3_ + ln_) a4_ ii_ S_ hI_ (by (rw [hS_] at *; omega)) (by decide) (by omega) (by (rw [hS_]; exact fun u_ => hw_ u_ ho_)) (by (rw [hS_]; exact hx_ ho_))) (fun u_ Sx3_ px6_ => ?_)
      obtain ⟨rfl, hIx4_, hFx5_, px6_⟩ := px6_
      have hFx7_ : ai_fr (sx_W vw_74r) S0_ Sx3_ := ai_fr_tr hF_ (fr_le hFx5_ rfl)
      obtain ⟨dx9_, px6_⟩ := px6_
      have hCx8_ : cdf ii_ S0_ Sx3_ := cdf_tr hC_ (cdf_cg (by omega) dx9_)
      have b9_ := px6_
      rw [hS_] at b9_
      refine sm_T_rv rfl ⟨_, _, rfl, rfl, hIx4_, hFx7_, ?_⟩
      refine ⟨hCx8_, ?_⟩
      rw [hT_]
      exact b9_
    · have cx1_ : ¬ (rm ≤ ln_) := of_decide_eq_false cx1_
      refine sm_T_go 5 (c1 := (145, [some (.inr (.inr (some (4, ii_)))), some (.inr (.inr (some (0, bb_)))), some (.inl 0), some (.inl a3_), some (.inl a4_), some (.inl w9_), some (.inl p9_), some (.inl 1), some (.inl 1), some (.inl 0), some (.inl rm), some (.inl ln_)], [.inl 1, .inl ln_, .inl p9_, .inr (.inr (some (23, (0 + bb_))))], S_)) rfl ?_
      refine sm_T_bin (w := ln_) rfl (bi_mul (by omega) (by omega) (by omega)) ?_ -- pc_ 145
      refine sm_T_bin (w := p9_ + ln_) rfl (bi_add (by omega) (by omega) (by omega)) ?_ -- pc_ 146
      refine sm_T_iald (n := 4712) rfl rfl (by omega) (by omega) ?_
      have bx10_ : 0 ≤ S_.2.2.1 23 (0 + bb_) (p9_ + ln_).toNat ∧ S_.2.2.1 23 (0 + bb_) (p9_ + ln_).toNat ≤ 7 := hI_.2 23 (0 + bb_) _
      refine sm_T_go 1 (c1 := (150, [some (.inr (.inr (some (4, ii_)))), some (.inr (.inr (some (0, bb_)))), some (.inl 0), some (.inl a3_), some (.inl a4_), some (.inl w9_), some (.inl p9_), some (.inl 1), some (.inl 1), some (.inl 0), some (.inl rm), some (.inl ln_)], [.inl 1, .inl (S_.2.2.1 23 (0 + bb_) (p9_ + ln_).toNat)], S_)) rfl ?_
      refine sm_T_bin (w := ((S_.2.2.1 23 (0 + bb_) (p9_ + ln_).toNat) % 2)) rfl (bi_msk (k := 1) (by decide)) ?_ -- pc_ 150
      refine sm_T_b0 (a := 0) (z := 9) rfl (fun cx11_ => ?_) (fun cx11_ => ?_)
      · have cx11_ : ((S_.2.2.1 23 (0 + bb_) (p9_ + ln_).toNat) % 2) = 0 := of_decide_eq_true cx11_
        refine sm_T_go 4 (c1 := (167, [some (.inr (.inr (some (4, ii_)))), some (.inr (.inr (some (0, bb_)))), some (.inl 0), some (.inl a3_), some (.inl a4_), some (.inl w9_), some (.inl p9_), some (.inl 1), some (.inl 1), some (.inl 0), some (.inl rm), some (.inl ln_)], [.inl p9_, .inr (.inr (some (22, (0 + bb_)))), .inr (.inr (some (4, ii_)))], S_)) rfl ?_
        refine sm_T_iald (n := 4712) rfl rfl (by omega) (by omega) ?_
        have bx12_ : (-1) ≤ S_.2.2.1 22 (0 + bb_) p9_.toNat ∧ S_.2.2.1 22 (0 + bb_) p9_.toNat ≤ 161 := hI_.2 22 (0 + bb_) _
        refine sm_T_go 7 (c1 := (179, [some (.inr (.inr (some (4, ii_)))), some (.inr (.inr (some (0, bb_)))), some (.inl 0), some (.inl a3_), some (.inl a4_), some (.inl w9_), some (.inl p9_), some (.inl 1), some (.inl 1), some (.inl 0), some (.inl rm), some (.inl ln_)], [.inl ln_, .inl a3_, .inl a4_, .inl a3_, .inl 0, .inl (S_.2.2.1 22 (0 + bb_) p9_.toNat), .inr (.inr (some (4, ii_)))], S_)) rfl ?_
        refine sm_T_bin (w := a3_ + ln_) rfl (bi_add (by omega) (by omega) (by omega)) ?_ -- pc_ 179
        refine sm_T_go 5 (c1 := (198, [some (.inr (.inr (some (4, ii_)))), some (.inr (.inr (some (0, bb_)))), some (.inl 0), some (.inl a3_), some (.inl a4_), some (.inl w9_), some (.inl p9_), some (.inl 1), some (.inl 1), some (.inl 0), some (.inl rm), some (.inl ln_)], [.inl a4_, .inl (a3_ + ln_), .inl a4_, .inl a3_, .inl 0, .inl (S_.2.2.1 22 (0 + bb_) p9_.toNat), .inr (.inr (some (4, ii_)))], S_)) rfl ?_
        refine sm_T_cal (d1 := 1) (Q1 := vq_75 (S_.2.2.1 22 (0 + bb_) p9_.toNat) 0 a3_ a4_ (a3_ + ln_) a4_ ii_ S_) rfl rfl (by decide) (vc_75 (S_.2.2.1 22 (0 + bb_) p9_.toNat) 0 a3_ a4_ (a3_ + ln_) a4_ ii_ S_ hI_ (by (rw [hS_] at *; omega)) (by decide) (by omega) (by (rw [hS_]; exact fun u_ => hw_ u_ ho_)) (by (rw [hS_]; exact hx_ ho_))) (fun u_ Sx13_ px16_ => ?_)
        obtain ⟨rfl, hIx14_, hFx15_, px16_⟩ := px16_
        have hFx17_ : ai_fr (sx_W vw_74r) S0_ Sx13_ := ai_fr_tr hF_ (fr_le hFx15_ rfl)
        obtain ⟨dx19_, px16_⟩ := px16_
        have hCx18_ : cdf ii_ S0_ Sx13_ := cdf_tr hC_ (cdf_cg (by omega) dx19_)
        have b9_ := px16_
        rw [hS_] at b9_
        refine sm_T_rv rfl ⟨_, _, rfl, rfl, hIx14_, hFx17_, ?_⟩
        refine ⟨hCx18_, ?_⟩
        rw [hT_]
        exact b9_
      · have cx11_ : ¬ (((S_.2.2.1 23 (0 + bb_) (p9_ + ln_).toNat) % 2) = 0) := of_decide_eq_false cx11_
        refine sm_T_inc (a := 11) (z := 1) (v := ln_) (w := ln_ + 1) rfl rfl (by omega) (by omega) (by omega) ?_ -- pc_ 154
        refine sm_T_go 1 (c1 := (128, [some (.inr (.inr (some (4, ii_)))), some (.inr (.inr (some (0, bb_)))), some (.inl 0), some (.inl a3_), some (.inl a4_), some (.inl w9_), some (.inl p9_), some (.inl 1), some (.inl 1), some (.inl 0), some (.inl rm), some (.inl (ln_ + 1))], [], S_)) rfl ?_
        refine ih_ w9_ p9_ rm (ln_ + 1) S_ hI_ hF_ ⟨?_, ?_, ?_, ?_, ?_, trivial⟩ ?_
        · omega
        · exact ho_
        · exact hS_
        · exact hT_
        · exact hC_
        · omega
set_option maxHeartbeats 400000 in
set_option maxRecDepth 20000 in
theorem vc_74r {sc_ : Nat × (Nat → Int)} (a3_ : Int) (a4_ : Int) (ii_ : Nat) (bb_ : Nat) (S0_ : sm_S) (hI_ : gi S0_) (h3_ : 0 ≤ a3_ ∧ a3_ < S0_.1 0 bb_ 0 + 2) (h4_ : 0 ≤ a4_ ∧ a4_ < S0_.1 0 bb_ 2) (hw_ : S0_.1 4 ii_ 11 ≠ 0 → 0 ≤ (tk0 (S0_.2.2.1 22 (0 + bb_)) (S0_.2.2.1 23 (0 + bb_)) (S0_.1 0 bb_ 0 + 2) a4_ a3_) → S0_.2.2.1 49 (0 + ii_) (tk0 (S0_.2.2.1 22 (0 + bb_)) (S0_.2.2.1 23 (0 + bb_)) (S0_.1 0 bb_ 0 + 2) a4_ a3_).toNat ≤ 1999) (hx_ : 0 ≤ (tk0 (S0_.2.2.1 22 (0 + bb_)) (S0_.2.2.1 23 (0 + bb_)) (S0_.1 0 bb_ 0 + 2) a4_ a3_) → S0_.2.2.1 49 (0 + ii_) (tk0 (S0_.2.2.1 22 (0 + bb_)) (S0_.2.2.1 23 (0 + bb_)) (S0_.1 0 bb_ 0 + 2) a4_ a3_).toNat ≤ 19999) : sm_T (mt_P sc_) 2 74 (0, [some (.inr (.inr (some (4, ii_)))), some (.inr (.inr (some (0, bb_)))), some (.inl 0), some (.inl a3_), some (.inl a4_), none, none, none, none, none, none, none], [], S0_) (fun ro9_ => ∃ u_ S1_, ro9_ = (.inl u_, S1_, 0) ∧ vq_74r a3_ a4_ ii_ bb_ S0_ u_ S1_) := by
  have hF_ : ai_fr (sx_W vw_74r) S0_ S0_ := ai_fr_rf
  have hC_ : cdf ii_ S0_ S0_ := cdf_rf
  have cs_ : 0 ≤ S0_.1 0 bb_ 0 ∧ S0_.1 0 bb_ 0 ≤ 60 := hI_.1 0 bb_ 0 rfl
  have ch_ : 0 ≤ S0_.1 0 bb_ 2 ∧ S0_.1 0 bb_ 2 ≤ 38 := hI_.1 0 bb_ 2 rfl
  have bx1_ : 0 ≤ S0_.1 0 bb_ 0 ∧ S0_.1 0 bb_ 0 ≤ 60 := hI_.1 0 bb_ 0 rfl
  refine sm_T_go 3 (c1 := (5, [some (.inr (.inr (some (4, ii_)))), some (.inr (.inr (some (0, bb_)))), some (.inl 0), some (.inl a3_), some (.inl a4_), none, none, none, none, none, none, none], [.inl 2, .inl (S0_.1 0 bb_ 0)], S0_)) rfl ?_
  refine sm_T_bin (w := (S0_.1 0 bb_ 0) + 2) rfl (bi_add (by omega) (by omega) (by omega)) ?_ -- pc_ 5
  have bx2_ : 0 ≤ S0_.1 0 bb_ 2 ∧ S0_.1 0 bb_ 2 ≤ 38 := hI_.1 0 bb_ 2 rfl
  refine sm_T_go 4 (c1 := (13, [some (.inr (.inr (some (4, ii_)))), some (.inr (.inr (some (0, bb_)))), some (.inl 0), some (.inl a3_), some (.inl a4_), some (.inl ((S0_.1 0 bb_ 0) + 2)), none, none, none, none, none, none], [.inl (S0_.1 0 bb_ 2), .inl 0], S0_)) rfl ?_
  refine sm_T_bin (w := 0) rfl (bi_mul (by omega) (by omega) (by omega)) ?_ -- pc_ 13
  refine sm_T_go 1 (c1 := (16, [some (.inr (.inr (some (4, ii_)))), some (.inr (.inr (some (0, bb_)))), some (.inl 0), some (.inl a3_), some (.inl a4_), some (.inl ((S0_.1 0 bb_ 0) + 2)), none, none, none, none, none, none], [.inl a4_, .inl 0], S0_)) rfl ?_
  refine sm_T_bin (w := a4_) rfl (bi_add (by omega) (by omega) (by omega)) ?_ -- pc_ 16
  refine sm_T_go 1 (c1 := (19, [some (.inr (.inr (some (4, ii_)))), some (.inr (.inr (some (0, bb_)))), some (.inl 0), some (.inl a3_), some (.inl a4_), some (.inl ((S0_.1 0 bb_ 0) + 2)), none, none, none, none, none, none], [.inl ((S0_.1 0 bb_ 0) + 2), .inl a4_], S0_)) rfl ?_
  have bx3_ := mul_b (x_ := a4_) (y_ := ((S0_.1 0 bb_ 0) + 2)) (X_ := 37) (Y_ := 62) (Z_ := 2294) (by omega) (by omega) (by decide)
  refine sm_T_bin (w := (a4_ * ((S0_.1 0 bb_ 0) + 2))) rfl (bi_mul rfl (by omega) (by omega)) ?_ -- pc_ 19
  refine sm_T_go 1 (c1 := (21, [some (.inr (.inr (some (4, ii_)))), some (.inr (.inr (some (0, bb_)))), some (.inl 0), some (.inl a3_), some (.inl a4_), some (.inl ((S0_.1 0 bb_ 0) + 2)), none, none, none, none, none, none], [.inl a3_, .inl (a4_ * ((S0_.1 0 bb_ 0) + 2))], S0_)) rfl ?_
  refine sm_T_bin (w := (a4_ * ((S0_.1 0 bb_ 0) + 2)) + a3_) rfl (bi_add (by omega) (by omega) (by omega)) ?_ -- pc_ 21
  refine sm_T_go 4 (c1 := (30, [some (.inr (.inr (some (4, ii_)))), some (.inr (.inr (some (0, bb_)))), some (.inl 0), some (.inl a3_), some (.inl a4_), some (.inl ((S0_.1 0 bb_ 0) + 2)), some (.inl ((a4_ * ((S0_.1 0 bb_ 0) + 2)) + a3_)), none, none, none, none, none], [.inl ((a4_ * ((S0_.1 0 bb_ 0) + 2)) + a3_), .inr (.inr (some (22, (0 + bb_))))], S0_)) rfl ?_
  refine sm_T_iald (n := 4712) rfl rfl (by omega) (by omega) ?_
  have bx4_ : (-1) ≤ S0_.2.2.1 22 (0 + bb_) ((a4_ * ((S0_.1 0 bb_ 0) + 2)) + a3_).toNat ∧ S0_.2.2.1 22 (0 + bb_) ((a4_ * ((S0_.1 0 bb_ 0) + 2)) + a3_).toNat ≤ 161 := hI_.2 22 (0 + bb_) _
  refine sm_T_go 1 (c1 := (32, [some (.inr (.inr (some (4, ii_)))), some (.inr (.inr (some (0, bb_)))), some (.inl 0), some (.inl a3_), some (.inl a4_), some (.inl ((S0_.1 0 bb_ 0) + 2)), some (.inl ((a4_ * ((S0_.1 0 bb_ 0) + 2)) + a3_)), none, none, none, none, none], [.inl (-1), .inl (S0_.2.2.1 22 (0 + bb_) ((a4_ * ((S0_.1 0 bb_ 0) + 2)) + a3_).toNat)], S0_)) rfl ?_
  refine sm_T_br (a := 1) (z := 4) rfl (fun cx5_ => ?_) (fun cx5_ => ?_)
  · have cx5_ : (S0_.2.2.1 22 (0 + bb_) ((a4_ * ((S0_.1 0 bb_ 0) + 2)) + a3_).toNat) ≠ (-1) := of_decide_eq_true cx5_
    refine sm_T_go 14 (c1 := (69, [some (.inr (.inr (some (4, ii_)))), some (.inr (.inr (some (0, bb_)))), some (.inl 0), some (.inl a3_), some (.inl a4_), some (.inl ((S0_.1 0 bb_ 0) + 2)), some (.inl ((a4_ * ((S0_.1 0 bb_ 0) + 2)) + a3_)), some (.inl 1), some (.inl 1), none, none, none], [.inl a3_], S0_)) rfl ?_
    refine sm_T_b0 (a := 5) (z := 23) rfl (fun cx6_ => ?_) (fun cx6_ => ?_)
    · have cx6_ : a3_ ≤ 0 := of_decide_eq_true cx6_
      refine sm_T_go 8 (c1 := (108, [some (.inr (.inr (some (4, ii_)))), some (.inr (.inr (some (0, bb_)))), some (.inl 0), some (.inl a3_), some (.inl a4_), some (.inl ((S0_.1 0 bb_ 0) + 2)), some (.inl ((a4_ * ((S0_.1 0 bb_ 0) + 2)) + a3_)), some (.inl 1), some (.inl 1), some (.inl 0), none, none], [.inl 1, .inl ((S0_.1 0 bb_ 0) + 2)], S0_)) rfl ?_
      refine sm_T_bin (w := (S0_.1 0 bb_ 0) + 1) rfl (bi_sub (by omega) (by omega) (by omega)) ?_ -- pc_ 108
      refine sm_T_go 1 (c1 := (110, [some (.inr (.inr (some (4, ii_)))), some (.inr (.inr (some (0, bb_)))), some (.inl 0), some (.inl a3_), some (.inl a4_), some (.inl ((S0_.1 0 bb_ 0) + 2)), some (.inl ((a4_ * ((S0_.1 0 bb_ 0) + 2)) + a3_)), some (.inl 1), some (.inl 1), some (.inl 0), none, none], [.inl a3_, .inl ((S0_.1 0 bb_ 0) + 1)], S0_)) rfl ?_
      refine sm_T_bin (w := (S0_.1 0 bb_ 0) - a3_ + 1) rfl (bi_sub (by omega) (by omega) (by omega)) ?_ -- pc_ 110
      refine sm_T_go 4 (c1 := (128, [some (.inr (.inr (some (4, ii_)))), some (.inr (.inr (some (0, bb_)))), some (.inl 0), some (.inl a3_), some (.inl a4_), some (.inl ((S0_.1 0 bb_ 0) + 2)), some (.inl ((a4_ * ((S0_.1 0 bb_ 0) + 2)) + a3_)), some (.inl 1), some (.inl 1), some (.inl 0), some (.inl ((S0_.1 0 bb_ 0) - a3_ + 1)), some (.inl 0)], [], S0_)) rfl ?_
      refine (vl_74r a3_ a4_ ii_ bb_ S0_ h3_ h4_ hw_ hx_ _) ((S0_.1 0 bb_ 0) + 2) ((a4_ * ((S0_.1 0 bb_ 0) + 2)) + a3_) ((S0_.1 0 bb_ 0) - a3_ + 1) 0 S0_ hI_ hF_ ⟨?_, ?_, ?_, ?_, ?_, trivial⟩ (Nat.lt_succ_self _)
      · omega
      · omega
      · rfl
      · (unfold tk0; rw [if_neg (by omega), if_neg (by rintro ⟨q1_, q2_⟩; omega)])
      · exact hC_
    · have cx6_ : ¬ (a3_ ≤ 0) := of_decide_eq_false cx6_
      refine sm_T_go 4 (c1 := (80, [some (.inr (.inr (some (4, ii_)))), some (.inr (.inr (some (0, bb_)))), some (.inl 0), some (.inl a3_), some (.inl a4_), some (.inl ((S0_.1 0 bb_ 0) + 2)), some (.inl ((a4_ * ((S0_.1 0 bb_ 0) + 2)) + a3_)), some (.inl 1), some (.inl 1), none, none, none], [.inl 1, .inl ((a4_ * ((S0_.1 0 bb_ 0) + 2)) + a3_), .inr (.inr (some (23, (0 + bb_))))], S0_)) rfl ?_
      refine sm_T_bin (w := (a4_ * ((S0_.1 0 bb_ 0) + 2)) + a3_ - 1) rfl (bi_sub (by omega) (by omega) (by omega)) ?_ -- pc_ 80
      refine sm_T_iald (n := 4712) rfl rfl (by omega) (by omega) ?_
      have bx7_ : 0 ≤ S0_.2.2.1 23 (0 + bb_) ((a4_ * ((S0_.1 0 bb_ 0) + 2)) + a3_ - 1).toNat ∧ S0_.2.2.1 23 (0 + bb_) ((a4_ * ((S0_.1 0 bb_ 0) + 2)) + a3_ - 1).toNat ≤ 7 := hI_.2 23 (0 + bb_) _
      refine sm_T_go 1 (c1 := (84, [some (.inr (.inr (some (4, ii_)))), some (.inr (.inr (some (0, bb_)))), some (.inl 0), some (.inl a3_), some (.inl a4_), some (.inl ((S0_.1 0 bb_ 0) + 2)), some (.inl ((a4_ * ((S0_.1 0 bb_ 0) + 2)) + a3_)), some (.inl 1), some (.inl 1), none, none, none], [.inl 1, .inl (S0_.2.2.1 23 (0 + bb_) ((a4_ * ((S0_.1 0 bb_ 0) + 2)) + a3_ - 1).toNat)], S0_)) rfl ?_
      refine sm_T_bin (w := ((S0_.2.2.1 23 (0 + bb_) ((a4_ * ((S0_.1 0 bb_ 0) + 2)) + a3_ - 1).toNat) % 2)) rfl (bi_msk (k := 1) (by decide)) ?_ -- pc_ 84
      refine sm_T_b0 (a := 0) (z := 7) rfl (fun cx8_ => ?_) (fun cx8_ => ?_)
      · have cx8_ : ((S0_.2.2.1 23 (0 + bb_) ((a4_ * ((S0_.1 0 bb_ 0) + 2)) + a3_ - 1).toNat) % 2) = 0 := of_decide_eq_true cx8_
        refine sm_T_go 8 (c1 := (108, [some (.inr (.inr (some (4, ii_)))), some (.inr (.inr (some (0, bb_)))), some (.inl 0), some (.inl a3_), some (.inl a4_), some (.inl ((S0_.1 0 bb_ 0) + 2)), some (.inl ((a4_ * ((S0_.1 0 bb_ 0) + 2)) + a3_)), some (.inl 1), some (.inl 1), some (.inl 0), none, none], [.inl 1, .inl ((S0_.1 0 bb_ 0) + 2)], S0_)) rfl ?_
        refine sm_T_bin (w := (S0_.1 0 bb_ 0) + 1) rfl (bi_sub (by omega) (by omega) (by omega)) ?_ -- pc_ 108
        refine sm_T_go 1 (c1 := (110, [some (.inr (.inr (some (4, ii_)))), some (.inr (.inr (some (0, bb_)))), some (.inl 0), some (.inl a3_), some (.inl a4_), some (.inl ((S0_.1 0 bb_ 0) + 2)), some (.inl ((a4_ * ((S0_.1 0 bb_ 0) + 2)) + a3_)), some (.inl 1), some (.inl 1), some (.inl 0), none, none], [.inl a3_, .inl ((S0_.1 0 bb_ 0) + 1)], S0_)) rfl ?_
        refine sm_T_bin (w := (S0_.1 0 bb_ 0) - a3_ + 1) rfl (bi_sub (by omega) (by omega) (by omega)) ?_ -- pc_ 110
        refine sm_T_go 4 (c1 := (128, [some (.inr (.inr (some (4, ii_)))), some (.inr (.inr (some (0, bb_)))), some (.inl 0), some (.inl a3_), some (.inl a4_), some (.inl ((S0_.1 0 bb_ 0) + 2)), some (.inl ((a4_ * ((S0_.1 0 bb_ 0) + 2)) + a3_)), some (.inl 1), some (.inl 1), some (.inl 0), some (.inl ((S0_.1 0 bb_ 0) - a3_ + 1)), some (.inl 0)], [], S0_)) rfl ?_
        refine (vl_74r a3_ a4_ ii_ bb_ S0_ h3_ h4_ hw_ hx_ _) ((S0_.1 0 bb_ 0) + 2) ((a4_ * ((S0_.1 0 bb_ 0) + 2)) + a3_) ((S0_.1 0 bb_ 0) - a3_ + 1) 0 S0_ hI_ hF_ ⟨?_, ?_, ?_, ?_, ?_, trivial⟩ (Nat.lt_succ_self _)
        · omega
        · omega
        · rfl
        · (unfold tk0; rw [if_neg (by omega), if_neg (by rintro ⟨q1_, q2_⟩; omega)])
        · exact hC_
      · have cx8_ : ¬ (((S0_.2.2.1 23 (0 + bb_) ((a4_ * ((S0_.1 0 bb_ 0) + 2)) + a3_ - 1).toNat) % 2) = 0) := of_decide_eq_false cx8_
        refine sm_T_go 5 (c1 := (100, [some (.inr (.inr (some (4, ii_)))), some (.inr (.inr (some (0, bb_)))), some (.inl 0), some (.inl a3_), some (.inl a4_), some (.inl ((S0_.1 0 bb_ 0) + 2)), some (.inl ((a4_ * ((S0_.1 0 bb_ 0) + 2)) + a3_)), some (.inl 1), some (.inl 1), some (.inl 1), none, none], [], S0_)) rfl ?_
        refine sm_T_rv rfl ⟨_, _, rfl, rfl, hI_, hF_, ?_⟩
        refine ⟨hC_, ?_⟩
        exact nxb9_n (by unfold tk0; rw [if_neg (by omega), if_pos ⟨by omega, by omega⟩]; decide)
  · have cx5_ : ¬ ((S0_.2.2.1 22 (0 + bb_) ((a4_ * ((S0_.1 0 bb_ 0) + 2)) + a3_).toNat) ≠ (-1)) := of_decide_eq_false cx5_
    refine sm_T_rv rfl ⟨_, _, rfl, rfl, hI_, hF_, ?_⟩
    refine ⟨hC_, ?_⟩
    exact nxb9_n (by unfold tk0; rw [if_pos (by omega)]; decide)
