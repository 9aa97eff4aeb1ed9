/-! the reference: constants, second pass; written by wip/p55/gen/vg -/

/-! what stands between operators, second pass -/
def rowat (gl_ : Nat) (w_ : Int) (f_ : Nat → Int) (S0_ S1_ : sm_S) : Prop := (∀ j_, S1_.2.2.1 138 0 j_ = if j_ = gl_ then w_ else S0_.2.2.1 138 0 j_) ∧ (∀ j_, j_ < 8 → S1_.2.2.1 139 0 (8 * gl_ + j_) = f_ j_) ∧ (∀ j_, j_ < 8 * gl_ ∨ 8 * gl_ + 8 ≤ j_ → S1_.2.2.1 139 0 j_ = S0_.2.2.1 139 0 j_)
theorem co_r {b_ : Nat → Int} {n_ p_ : Nat} {r_ : Nat × Int × List Int} (h_ : p_co b_ n_ p_ = .inr r_) : ∃ q_ r3_ u_, p_ad b_ n_ p_ = .inr q_ ∧ lx_kd b_ n_ q_ = 64 ∧ p_ad b_ n_ q_ = .inr r3_ ∧ lx_kd b_ n_ r3_ = 2 ∧ (1 ≤ lx_vl b_ n_ r3_ ∧ lx_vl b_ n_ r3_ ≤ 8) ∧ p_ad b_ n_ r3_ = .inr u_ ∧ lx_vl b_ n_ p_ / 2 ^ (lx_vl b_ n_ r3_).toNat = 0 ∧ r_ = (u_, lx_vl b_ n_ r3_, [cw 8 (lx_vl b_ n_ r3_) (lx_vl b_ n_ p_)]) := by
  unfold p_co at h_
  obtain ⟨q_, h1_, h2_⟩ := pb_inr h_
  split at h2_
  · rename_i g_
    obtain ⟨r3_, h3_, h4_⟩ := pb_inr h2_
    obtain ⟨w_, h5_, h6_⟩ := pb_inr h4_
    obtain ⟨u_, h7_, h8_⟩ := pb_inr h6_
    unfold p_nu at h5_
    split at h5_
    · rename_i g2_
      split at h5_
      · cases h5_
      · rename_i g3_
        cases h5_
        split at h8_
        · rename_i g4_
          cases h8_
          exact ⟨q_, r3_, u_, h1_, g_, h3_, g2_, by omega, h7_, g4_, rfl⟩
        · cases h8_
    · cases h5_
  · cases h2_
theorem bp_rr {b_ : Nat → Int} {n_ p_ r_ : Nat} {wd_ : Int} (h_ : p_bp b_ n_ wd_ p_ = .inr r_) : lx_kd b_ n_ p_ = 2 ∧ (0 ≤ lx_vl b_ n_ p_ ∧ lx_vl b_ n_ p_ < wd_) ∧ p_ad b_ n_ p_ = .inr r_ := by
  unfold p_bp at h_
  obtain ⟨v_, h1_, h2_⟩ := pb_inr h_
  unfold p_nu at h1_
  split at h1_
  · rename_i g_
    split at h1_
    · cases h1_
    · exact ⟨g_, by omega, h2_⟩
  · cases h1_
/-! M_.copyValue -/
def vw_333g : sx_Wl := ([], [138, 139], [])
def vq_333g (wd_ : Int) (oi_ : Int) (fm_ : Int) (gl_ : Nat) (S0_ : sm_S) (u_ : Option sm_V) (S1_ : sm_S) : Prop := u_ = none ∧ gi S1_ ∧ ai_fr (sx_W vw_333g) S0_ S1_ ∧ (rowat gl_ wd_ (fun j_ => if oi_ = 1 then S0_.2.2.1 145 0 (fm_.toNat + j_) else S0_.2.2.1 144 0 (fm_.toNat + j_)) S0_ S1_)
set_option maxHeartbeats 400000 in
theorem vl_333g {sc_ : Nat × (Nat → Int)} (wd_ : Int) (oi_ : Int) (fm_ : Int) (gl_ : Nat) (S0_ : sm_S) (hv_ : (S0_.1 13 0 34) = (gl_ : Int) ∧ gl_ ≤ 1000) (hmo_ : (S0_.1 13 0 27) = 1) (hwd_ : 0 ≤ wd_ ∧ wd_ ≤ 8) (ho_ : (oi_ = 0 ∧ 0 ≤ fm_ ∧ fm_ + 8 ≤ 5120) ∨ (oi_ = 1 ∧ 0 ≤ fm_ ∧ fm_ + 8 ≤ 204800)) : ∀ nn_ : Nat, (∀ (k_ : Int) (S_ : sm_S), gi S_ → ai_fr (sx_W vw_333g) S0_ S_ → ((0 ≤ k_ ∧ k_ ≤ 8) ∧ (∀ j_, S_.2.2.1 138 0 j_ = if j_ = gl_ then wd_ else S0_.2.2.1 138 0 j_) ∧ (∀ j_, j_ < k_.toNat → S_.2.2.1 139 0 (8 * gl_ + j_) = if oi_ = 1 then S0_.2.2.1 145 0 (fm_.toNat + j_) else S0_.2.2.1 144 0 (fm_.toNat + j_)) ∧ (∀ j_, j_ < 8 * gl_ ∨ 8 * gl_ + 8 ≤ j_ → S_.2.2.1 139 0 j_ = S0_.2.2.1 139 0 j_) ∧ True) → ((8 - k_).toNat) < nn_ → sm_T (mt_P sc_) 0 333 (13, [some (.inr (.inr (some (13, 0)))), some (.inl wd_), some (.inl oi_), some (.inl fm_), some (.inl k_)], [], S_) (fun ro9_ => ∃ u_ S1_, ro9_ = (.inl u_, S1_, 0) ∧ vq_333g wd_ oi_ fm_ gl_ S0_ u_ S1_)) := by
  intro nn_
  induction nn_ with
  | zero => exact fun _ _ _ _ _ h_ => absurd h_ (Nat.not_lt_zero _)
  | succ nn_ ih_ =>
    rintro k_ S_ hI_ hF_ ⟨h0_, h1_, h2_, h3_, -⟩ hm_
    have v1_ : S_.1 13 0 34 = (gl_ : Int) := (hF_.1 13 0 34 rfl).trans hv_.1
    have m1_ : S_.1 13 0 27 = 1 := (hF_.1 13 0 27 rfl).trans hmo_
    have f44_ := fr_arr (t := 144) (i := 0) hF_ rfl
    have f45_ := fr_arr (t := 145) (i := 0) hF_ rfl
    refine sm_T_go 2 (c1 := (17, [some (.inr (.inr (some (13, 0)))), some (.inl wd_), some (.inl oi_), some (.inl fm_), some (.inl k_)], [.inl 8, .inl k_], S_)) rfl ?_
    refine sm_T_br (a := 3) (z := 57) rfl (fun cx1_ => ?_) (fun cx1_ => ?_)
    · have cx1_ : 8 ≤ k_ := of_decide_eq_true cx1_
      refine sm_T_rv rfl ⟨_, _, rfl, rfl, hI_, hF_, ?_⟩
      exact ⟨h1_, fun j_ hj_ => h2_ j_ (by omega), h3_⟩
    · have cx1_ : ¬ (8 ≤ k_) := of_decide_eq_false cx1_
      have bx2_ : 0 ≤ S_.1 13 0 27 ∧ S_.1 13 0 27 ≤ 2 := hI_.1 13 0 27 rfl
      refine sm_T_go 3 (c1 := (25, [some (.inr (.inr (some (13, 0)))), some (.inl wd_), some (.inl oi_), some (.inl fm_), some (.inl k_)], [.inl 1, .inl (S_.1 13 0 27)], S_)) rfl ?_
      refine sm_T_br (a := 1) (z := 49) rfl (fun cx3_ => ?_) (fun cx3_ => ?_)
      · have cx3_ : (S_.1 13 0 27) ≠ 1 := of_decide_eq_true cx3_
        exfalso; omega
      · have cx3_ : ¬ ((S_.1 13 0 27) ≠ 1) := of_decide_eq_false cx3_
        have bx4_ : 0 ≤ S_.1 13 0 34 ∧ S_.1 13 0 34 ≤ 1023 := hI_.1 13 0 34 rfl
        refine sm_T_go 5 (c1 := (38, [some (.inr (.inr (some (13, 0)))), some (.inl wd_), some (.inl oi_), some (.inl fm_), some (.inl k_)], [.inl (S_.1 13 0 34), .inl 8, .inr (.inr (some (139, 0)))], S_)) rfl ?_
        refine sm_T_bin (w := 8 * (S_.1 13 0 34)) rfl (bi_mul (by omega) (by omega) (by omega)) ?_
        refine sm_T_go 1 (c1 := (41, [some (.inr (.inr (some (13, 0)))), some (.inl wd_), some (.inl oi_), some (.inl fm_), some (.inl k_)], [.inl k_, .inl (8 * (S_.1 13 0 34)), .inr (.inr (some (139, 0)))], S_)) rfl ?_
        refine sm_T_bin (w := 8 * (S_.1 13 0 34) + k_) rfl (bi_add (by omega) (by omega) (by omega)) ?_
        refine sm_T_go 1 (c1 := (43, [some (.inr (.inr (some (13, 0)))), some (.inl wd_), some (.inl oi_), some (.inl fm_), some (.inl k_)], [.inl oi_, .inl (8 * (S_.1 13 0 34) + k_), .inr (.inr (some (139, 0)))], S_)) rfl ?_
        refine sm_T_b0 (a := 0) (z := 15) rfl (fun cx5_ => ?_) (fun cx5_ => ?_)
        · have cx5_ : oi_ = 0 := of_decide_eq_true cx5_
          refine sm_T_go 4 (c1 := (65, [some (.inr (.inr (some (13, 0)))), some (.inl wd_), some (.inl oi_), some (.inl fm_), some (.inl k_)], [.inl k_, .inl fm_, .inr (.inr (some (144, 0))), .inl (8 * (S_.1 13 0 34) + k_), .inr (.inr (some (139, 0)))], S_)) rfl ?_
          refine sm_T_bin (w := fm_ + k_) rfl (bi_add (by omega) (by omega) (by omega)) ?_
          refine sm_T_iald (n := 5120) rfl rfl (by omega) (by omega) ?_
          have bx6_ : 0 ≤ S_.2.2.1 144 0 (fm_ + k_).toNat ∧ S_.2.2.1 144 0 (fm_ + k_).toNat ≤ 2047 := hI_.2 144 0 _
          refine sm_T_iast (n := 8192) rfl rfl (by omega) (by omega) ?_
          have hIx7_ : gi (sm_aI S_ 139 0 (8 * (S_.1 13 0 34) + k_).toNat (S_.2.2.1 144 0 (fm_ + k_).toNat)) := gi_aI hI_ (show 0 ≤ (S_.2.2.1 144 0 (fm_ + k_).toNat) ∧ (S_.2.2.1 144 0 (fm_ + k_).toNat) ≤ 2047 from ⟨by omega, by omega⟩)
          have hFx8_ : ai_fr (sx_W vw_333g) S0_ (sm_aI S_ 139 0 (8 * (S_.1 13 0 34) + k_).toNat (S_.2.2.1 144 0 (fm_ + k_).toNat)) := ai_fr_tr hF_ (ai_fr_aI rfl)
          refine sm_T_inc (a := 4) (z := 1) (v := k_) (w := k_ + 1) rfl rfl (by omega) (by omega) (by omega) ?_
          refine sm_T_go 1 (c1 := (13, [some (.inr (.inr (some (13, 0)))), some (.inl wd_), some (.inl oi_), some (.inl fm_), some (.inl (k_ + 1))], [], sm_aI S_ 139 0 (8 * (S_.1 13 0 34) + k_).toNat (S_.2.2.1 144 0 (fm_ + k_).toNat))) rfl ?_
          refine ih_ (k_ + 1) (sm_aI S_ 139 0 (8 * (S_.1 13 0 34) + k_).toNat (S_.2.2.1 144 0 (fm_ + k_).toNat)) hIx7_ hFx8_ ⟨?_, ?_, ?_, ?_, trivial⟩ ?_
          · omega
          · (intro j_; rw [rd_ne (by decide)]; exact h1_ j_)
          · intro j_ hj_
            by_cases z_ : j_ < k_.toNat
            · rw [rd_eq, if_neg (by omega)]; exact h2_ j_ z_
            · have zj_ : j_ = k_.toNat := by omega
              rw [rd_eq, if_pos (by omega), zj_]
              first | (rw [if_pos (by omega), f45_, show (fm_ + k_).toNat = fm_.toNat + k_.toNat by omega]; done) | (rw [if_neg (by omega), f44_, show (fm_ + k_).toNat = fm_.toNat + k_.toNat by omega])
          · (intro j_ hj_; rw [rd_eq, if_neg (by omega)]; exact h3_ j_ hj_)
          · omega
        · have cx5_ : ¬ (oi_ = 0) := of_decide_eq_false cx5_
          refine sm_T_go 4 (c1 := (53, [some (.inr (.inr (some (13, 0)))), some (.inl wd_), some (.inl oi_), some (.inl fm_), some (.inl k_)], [.inl k_, .inl fm_, .inr (.inr (some (145, 0))), .inl (8 * (S_.1 13 0 34) + k_), .inr (.inr (some (139, 0)))], S_)) rfl ?_
          refine sm_T_bin (w := fm_ + k_) rfl (bi_add (by omega) (by omega) (by omega)) ?_
          refine sm_T_iald (n := 204800) rfl rfl (by omega) (by omega) ?_
          have bx9_ : 0 ≤ S_.2.2.1 145 0 (fm_ + k_).toNat ∧ S_.2.2.1 145 0 (fm_ + k_).toNat ≤ 2047 := hI_.2 145 0 _
          refine sm_T_go 1 (c1 := (67, [some (.inr (.inr (some (13, 0)))), some (.inl wd_), some (.inl oi_), some (.inl fm_), some (.inl k_)], [.inl (S_.2.2.1 145 0 (fm_ + k_).toNat), .inl (8 * (S_.1 13 0 34) + k_), .inr (.inr (some (139, 0)))], S_)) rfl ?_
          refine sm_T_iast (n := 8192) rfl rfl (by omega) (by omega) ?_
          have hIx10_ : gi (sm_aI S_ 139 0 (8 * (S_.1 13 0 34) + k_).toNat (S_.2.2.1 145 0 (fm_ + k_).toNat)) := gi_aI hI_ (show 0 ≤ (S_.2.2.1 145 0 (fm_ + k_).toNat) ∧ (S_.2.2.1 145 0 (fm_ + k_).toNat) ≤ 2047 from ⟨by omega, by omega⟩)
          have hFx11_ : ai_fr (sx_W vw_333g) S0_ (sm_aI S_ 139 0 (8 * (S_.1 13 0 34) + k_).toNat (S_.2.2.1 145 0 (fm_ + k_).toNat)) := ai_fr_tr hF_ (ai_fr_aI rfl)
          refine sm_T_inc (a := 4) (z := 1) (v := k_) (w := k_ + 1) rfl rfl (by omega) (by omega) (by omega) ?_
          refine sm_T_go 1 (c1 := (13, [some (.inr (.inr (some (13, 0)))), some (.inl wd_), some (.inl oi_), some (.inl fm_), some (.inl (k_ + 1))], [], sm_aI S_ 139 0 (8 * (S_.1 13 0 34) + k_).toNat (S_.2.2.1 145 0 (fm_ + k_).toNat))) rfl ?_
          refine ih_ (k_ + 1) (sm_aI S_ 139 0 (8 * (S_.1 13 0 34) + k_).toNat (S_.2.2.1 145 0 (fm_ + k_).toNat)) hIx10_ hFx11_ ⟨?_, ?_, ?_, ?_, trivial⟩ ?_
          · omega
          · (intro j_; rw [rd_ne (by decide)]; exact h1_ j_)
          · intro j_ hj_
            by_cases z_ : j_ < k_.toNat
            · rw [rd_eq, if_neg (by omega)]; exact h2_ j_ z_
            · have zj_ : j_ = k_.toNat := by omega
              rw [rd_eq, if_pos (by omega), zj_]
              first | (rw [if_pos (by omega), f45_, show (fm_ + k_).toNat = fm_.toNat + k_.toNat by omega]; done) | (rw [if_neg (by omega), f44_, show (fm_ + k_).toNat = fm_.toNat + k_.toNat by omega])
          · (intro j_ hj_; rw [rd_eq, if_neg (by omega)]; exact h3_ j_ hj_)
          · omega
set_option maxHeartbeats 400000 in
theorem vc_333g {sc_ : Nat × (Nat → Int)} (wd_ : Int) (oi_ : Int) (fm_ : Int) (gl_ : Nat) (S0_ : sm_S) (hI_ : gi S0_) (hv_ : (S0_.1 13 0 34) = (gl_ : Int) ∧ gl_ ≤ 1000) (hmo_ : (S0_.1 13 0 27) = 1) (hwd_ : 0 ≤ wd_ ∧ wd_ ≤ 8) (ho_ : (oi_ = 0 ∧ 0 ≤ fm_ ∧ fm_ + 8 ≤ 5120) ∨ (oi_ = 1 ∧ 0 ≤ fm_ ∧ fm_ + 8 ≤ 204800)) : sm_T (mt_P sc_) 0 333 (0, [some (.inr (.inr (some (13, 0)))), some (.inl wd_), some (.inl oi_), some (.inl fm_), none], [], S0_) (fun ro9_ => ∃ u_ S1_, ro9_ = (.inl u_, S1_, 0) ∧ vq_333g wd_ oi_ fm_ gl_ S0_ u_ S1_) := by
  have hF_ : ai_fr (sx_W vw_333g) S0_ S0_ := ai_fr_rf
  have bx1_ : 0 ≤ S0_.1 13 0 34 ∧ S0_.1 13 0 34 ≤ 1023 := hI_.1 13 0 34 rfl
  refine sm_T_go 5 (c1 := (9, [some (.inr (.inr (some (13, 0)))), some (.inl wd_), some (.inl oi_), some (.inl fm_), none], [.inl wd_, .inl (S0_.1 13 0 34), .inr (.inr (some (138, 0)))], S0_)) rfl ?_
  refine sm_T_iast (n := 1024) rfl rfl (by omega) (by omega) ?_
  have hIx2_ : gi (sm_aI S0_ 138 0 (S0_.1 13 0 34).toNat wd_) := gi_aI hI_ (show (-2147483648) ≤ wd_ ∧ wd_ ≤ 2147483647 from ⟨by omega, by omega⟩)
  have hFx3_ : ai_fr (sx_W vw_333g) S0_ (sm_aI S0_ 138 0 (S0_.1 13 0 34).toNat wd_) := ai_fr_tr hF_ (ai_fr_aI rfl)
  refine sm_T_go 2 (c1 := (13, [some (.inr (.inr (some (13, 0)))), some (.inl wd_), some (.inl oi_), some (.inl fm_), some (.inl 0)], [], sm_aI S0_ 138 0 (S0_.1 13 0 34).toNat wd_)) rfl ?_
  refine (vl_333g wd_ oi_ fm_ gl_ S0_ hv_ hmo_ hwd_ ho_ _) 0 (sm_aI S0_ 138 0 (S0_.1 13 0 34).toNat wd_) hIx2_ hFx3_ ⟨?_, ?_, ?_, ?_, trivial⟩ (Nat.lt_succ_self _)
  · omega
  · (intro j_; rw [rd_eq, show (S0_.1 13 0 34).toNat = gl_ by omega])
  · (intro j_ hj_; exact absurd hj_ (Nat.not_lt_zero _))
  · (intro j_ hj_; exact rd_ne (by decide))
