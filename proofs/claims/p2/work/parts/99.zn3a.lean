/-! cuts; written by wip/p55/gen/vg -/
/-! Mapper.collectCuts -/
def vw_100 : sx_Wl := ([(6, 11), (6, 13)], [65, 68], [])
def vq_100 (a1_ : Int) (dd_ : Nat) (F_ : Nat) (S0_ : sm_S) (u_ : Option sm_V) (S1_ : sm_S) : Prop := u_ = none ∧ gi S1_ ∧ ai_fr (sx_W vw_100) S0_ S1_ ∧ (mcs (npd a1_ (S0_.2.2.1 59 0)) S1_)
set_option maxHeartbeats 3000000 in
theorem vl_100 {sc_ : Nat × (Nat → Int)} (a1_ : Int) (dd_ : Nat) (F_ : Nat) (S0_ : sm_S) (hd_ : S0_.2.1 6 0 0 = some dd_) (hg_ : dgr dd_ F_ S0_) (hs_ : swp dd_ F_ S0_) (hk_ : mkd dd_ F_ S0_ (S0_.2.2.1 59 0)) (h1_ : (F_ : Int) ≤ a1_ ∧ a1_ < S0_.1 3 dd_ 4) (hn_ : S0_.2.2.1 59 0 a1_.toNat = 1) : ∀ nn_ : Nat, (∀ (i9_ : Int) (S_ : sm_S), gi S_ → ai_fr (sx_W vw_100) S0_ S_ → ((0 ≤ i9_ ∧ i9_ ≤ 1024) ∧ (mcs (npd a1_ (S0_.2.2.1 59 0)) S_) ∧ True) → ((10 * (2000 - i9_) + 9).toNat) < nn_ → sm_T (mt_P sc_) 2 100 (34, [some (.inr (.inr (some (6, 0)))), some (.inl a1_), some (.inl i9_), none, none], [], S_) (fun ro9_ => ∃ u_ S1_, ro9_ = (.inl u_, S1_, 0) ∧ vq_100 a1_ dd_ F_ S0_ u_ S1_)) ∧ (∀ (i9_ : Int) (k_ : Int) (S_ : sm_S), gi S_ → ai_fr (sx_W vw_100) S0_ S_ → ((0 ≤ i9_ ∧ i9_ < 1024 ∧ 0 ≤ k_ ∧ k_ ≤ 3 ∧ i9_ < S_.1 6 0 11) ∧ (mcs (npd a1_ (S0_.2.2.1 59 0)) S_) ∧ True) → ((10 * (2000 - i9_) + 8 - k_).toNat) < nn_ → sm_T (mt_P sc_) 2 100 (51, [some (.inr (.inr (some (6, 0)))), some (.inl a1_), some (.inl i9_), some (.inl k_), none], [], S_) (fun ro9_ => ∃ u_ S1_, ro9_ = (.inl u_, S1_, 0) ∧ vq_100 a1_ dd_ F_ S0_ u_ S1_)) := by
  intro nn_
  induction nn_ with
  | zero => exact ⟨fun _ _ _ _ _ h_ => absurd h_ (Nat.not_lt_zero _), fun _ _ _ _ _ _ h_ => absurd h_ (Nat.not_lt_zero _)⟩
  | succ nn_ ih_ =>
    refine ⟨?_, ?_⟩
    · rintro i9_ S_ hI_ hF_ ⟨h0_, hcs_, -⟩ hm_
      have f59_ : S_.2.2.1 59 0 = S0_.2.2.1 59 0 := fr_arr hF_ rfl
      have f42_ : S_.2.2.1 42 (0 + dd_) = S0_.2.2.1 42 (0 + dd_) := fr_arr hF_ rfl
      have f43_ : S_.2.2.1 43 (0 + dd_) = S0_.2.2.1 43 (0 + dd_) := fr_arr hF_ rfl
      have f44_ : S_.2.2.1 44 (0 + dd_) = S0_.2.2.1 44 (0 + dd_) := fr_arr hF_ rfl
      have f4_ : S_.1 3 dd_ 4 = S0_.1 3 dd_ 4 := hF_.1 3 dd_ 4 rfl
      have f1_ : S_.1 3 dd_ 1 = S0_.1 3 dd_ 1 := hF_.1 3 dd_ 1 rfl
      have f2_ : S_.1 3 dd_ 2 = S0_.1 3 dd_ 2 := hF_.1 3 dd_ 2 rfl
      have ck_ : 0 ≤ S_.1 6 0 11 ∧ S_.1 6 0 11 ≤ 1024 := hI_.1 6 0 11 rfl
      have g1_ := hg_.1
      have g2_ := hg_.2.1
      have n13_ : 0 ≤ S_.1 3 dd_ 4 ∧ S_.1 3 dd_ 4 ≤ 1013 := hI_.1 3 dd_ 4 rfl
      have bx1_ : 0 ≤ S_.1 6 0 11 ∧ S_.1 6 0 11 ≤ 1024 := hI_.1 6 0 11 rfl
      refine sm_T_go 3 (c1 := (39, [some (.inr (.inr (some (6, 0)))), some (.inl a1_), some (.inl i9_), none, none], [.inl (S_.1 6 0 11), .inl i9_], S_)) rfl ?_
      refine sm_T_br (a := 3) (z := 121) rfl (fun cx2_ => ?_) (fun cx2_ => ?_)
      · have cx2_ : (S_.1 6 0 11) ≤ i9_ := of_decide_eq_true cx2_
        refine sm_T_rv rfl ⟨_, _, rfl, rfl, hI_, hF_, ?_⟩
        exact hcs_
      · have cx2_ : ¬ ((S_.1 6 0 11) ≤ i9_) := of_decide_eq_false cx2_
        refine sm_T_go 2 (c1 := (46, [some (.inr (.inr (some (6, 0)))), some (.inl a1_), some (.inl i9_), none, none], [.inl 1024, .inl i9_], S_)) rfl ?_
        refine sm_T_br (a := 3) (z := 114) rfl (fun cx3_ => ?_) (fun cx3_ => ?_)
        · have cx3_ : 1024 ≤ i9_ := of_decide_eq_true cx3_
          refine sm_T_rv rfl ⟨_, _, rfl, rfl, hI_, hF_, ?_⟩
          exact hcs_
        · have cx3_ : ¬ (1024 ≤ i9_) := of_decide_eq_false cx3_
          refine sm_T_go 2 (c1 := (51, [some (.inr (.inr (some (6, 0)))), some (.inl a1_), some (.inl i9_), some (.inl 0), none], [], S_)) rfl ?_
          refine ih_.2 i9_ 0 S_ hI_ hF_ ⟨?_, ?_, trivial⟩ ?_
          · omega
          · exact hcs_
          · omega
    · rintro i9_ k_ S_ hI_ hF_ ⟨h0_, hcs_, -⟩ hm_
      have f59_ : S_.2.2.1 59 0 = S0_.2.2.1 59 0 := fr_arr hF_ rfl
      have f42_ : S_.2.2.1 42 (0 + dd_) = S0_.2.2.1 42 (0 + dd_) := fr_arr hF_ rfl
      have f43_ : S_.2.2.1 43 (0 + dd_) = S0_.2.2.1 43 (0 + dd_) := fr_arr hF_ rfl
      have f44_ : S_.2.2.1 44 (0 + dd_) = S0_.2.2.1 44 (0 + dd_) := fr_arr hF_ rfl
      have f4_ : S_.1 3 dd_ 4 = S0_.1 3 dd_ 4 := hF_.1 3 dd_ 4 rfl
      have f1_ : S_.1 3 dd_ 1 = S0_.1 3 dd_ 1 := hF_.1 3 dd_ 1 rfl
      have f2_ : S_.1 3 dd_ 2 = S0_.1 3 dd_ 2 := hF_.1 3 dd_ 2 rfl
      have ck_ : 0 ≤ S_.1 6 0 11 ∧ S_.1 6 0 11 ≤ 1024 := hI_.1 6 0 11 rfl
      have g1_ := hg_.1
      have g2_ := hg_.2.1
      have n13_ : 0 ≤ S_.1 3 dd_ 4 ∧ S_.1 3 dd_ 4 ≤ 1013 := hI_.1 3 dd_ 4 rfl
      refine sm_T_go 2 (c1 := (53, [some (.inr (.inr (some (6, 0)))), some (.inl a1_), some (.inl i9_), some (.inl k_), none], [.inl 3, .inl k_], S_)) rfl ?_
      refine sm_T_br (a := 3) (z := 101) rfl (fun cx1_ => ?_) (fun cx1_ => ?_)
      · have cx1_ : 3 ≤ k_ := of_decide_eq_true cx1_
        refine sm_T_inc (a := 2) (z := 1) (v := i9_) (w := i9_ + 1) rfl rfl (by omega) (by omega) (by omega) ?_ -- pc_ 154
        refine sm_T_go 1 (c1 := (34, [some (.inr (.inr (some (6, 0)))), some (.inl a1_), some (.inl (i9_ + 1)), some (.inl k_), none], [], S_)) rfl ?_
        refine sm_T_wk [some (.inr (.inr (some (6, 0)))), some (.inl a1_), some (.inl (i9_ + 1)), none, none] (by exact ⟨rfl, rfl, rfl, trivial⟩) ?_
        refine ih_.1 (i9_ + 1) S_ hI_ hF_ ⟨?_, ?_, trivial⟩ ?_
        · omega
        · exact hcs_
        · omega
      · have cx1_ : ¬ (3 ≤ k_) := of_decide_eq_false cx1_
        refine sm_T_go 4 (c1 := (62, [some (.inr (.inr (some (6, 0)))), some (.inl a1_), some (.inl i9_), some (.inl k_), none], [.inl i9_, .inl 3, .inr (.inr (some (65, 0)))], S_)) rfl ?_
        refine sm_T_bin (w := 3 * i9_) rfl (bi_mul (by omega) (by omega) (by omega)) ?_ -- pc_ 62
        refine sm_T_go 1 (c1 := (64, [some (.inr (.inr (some (6, 0)))), some (.inl a1_), some (.inl i9_), some (.inl k_), none], [.inl k_, .inl (3 * i9_), .inr (.inr (some (65, 0)))], S_)) rfl ?_
        refine sm_T_bin (w := 3 * i9_ + k_) rfl (bi_add (by omega) (by omega) (by omega)) ?_ -- pc_ 64
        refine sm_T_iald (n := 3072) rfl rfl (by omega) (by omega) ?_
        have bx2_ : (-1) ≤ S_.2.2.1 65 0 (3 * i9_ + k_).toNat ∧ S_.2.2.1 65 0 (3 * i9_ + k_).toNat ≤ 1012 := hI_.2 65 0 _
        refine sm_T_go 3 (c1 := (71, [some (.inr (.inr (some (6, 0)))), some (.inl a1_), some (.inl i9_), some (.inl k_), some (.inl (S_.2.2.1 65 0 (3 * i9_ + k_).toNat))], [.inl (-1), .inl (S_.2.2.1 65 0 (3 * i9_ + k_).toNat)], S_)) rfl ?_
        refine sm_T_br (a := 0) (z := 77) rfl (fun cx3_ => ?_) (fun cx3_ => ?_)
        · have cx3_ : (S_.2.2.1 65 0 (3 * i9_ + k_).toNat) = (-1) := of_decide_eq_true cx3_
          refine sm_T_inc (a := 3) (z := 1) (v := k_) (w := k_ + 1) rfl rfl (by omega) (by omega) (by omega) ?_ -- pc_ 148
          refine sm_T_go 1 (c1 := (51, [some (.inr (.inr (some (6, 0)))), some (.inl a1_), some (.inl i9_), some (.inl (k_ + 1)), some (.inl (S_.2.2.1 65 0 (3 * i9_ + k_).toNat))], [], S_)) rfl ?_
          refine sm_T_wk [some (.inr (.inr (some (6, 0)))), some (.inl a1_), some (.inl i9_), some (.inl (k_ + 1)), none] (by exact ⟨rfl, rfl, rfl, rfl, trivial⟩) ?_
          refine ih_.2 i9_ (k_ + 1) S_ hI_ hF_ ⟨?_, ?_, trivial⟩ ?_
          · first | omega | (have q9_ := a145_.2; omega)
          · first | exact hcs_ | exact a145_.1
          · omega
        · have cx3_ : ¬ ((S_.2.2.1 65 0 (3 * i9_ + k_).toNat) = (-1)) := of_decide_eq_false cx3_
          have pn9_ := mcs_a hcs_ (i_ := i9_) (k_ := k_) (by omega) (by omega) (by omega)
          have pn8_ := pn9_.1
          have pn7_ := pn9_.2.1
          have pn6_ := pn9_.2.2
          refine sm_T_go 2 (c1 := (77, [some (.inr (.inr (some (6, 0)))), some (.inl a1_), some (.inl i9_), some (.inl k_), some (.inl (S_.2.2.1 65 0 (3 * i9_ + k_).toNat))], [.inl (S_.2.2.1 65 0 (3 * i9_ + k_).toNat), .inr (.inr (some (6, 0)))], S_)) rfl ?_
          refine sm_T_cal (d1 := 1) (Q1 := vq_94 (S_.2.2.1 65 0 (3 * i9_ + k_).toNat) dd_ S_) rfl rfl (by decide) (vc_94 (S_.2.2.1 65 0 (3 * i9_ + k_).toNat) dd_ S_ hI_ (by exact (hF_.2.1 6 0 0 rfl).trans hd_) (by omega)) (fun u_ Sx4_ px7_ => ?_)
          obtain ⟨rfl, vx9_, rfl, px7_⟩ := px7_
          have lf9_ := px7_
          rw [f1_, f2_] at lf9_
          refine sm_T_b0 (a := 1) (z := 68) rfl (fun cx10_ => ?_) (fun cx10_ => ?_)
          · have cx10_ : vx9_ ≠ 0 := of_decide_eq_true cx10_
            refine sm_T_inc (a := 3) (z := 1) (v := k_) (w := k_ + 1) rfl rfl (by omega) (by omega) (by omega) ?_ -- pc_ 148
            refine sm_T_go 1 (c1 := (51, [some (.inr (.inr (some (6, 0)))), some (.inl a1_), some (.inl i9_), some (.inl (k_ + 1)), some (.inl (S_.2.2.1 65 0 (3 * i9_ + k_).toNat))], [], S_)) rfl ?_
            refine sm_T_wk [some (.inr (.inr (some (6, 0)))), some (.inl a1_), some (.inl i9_), some (.inl (k_ + 1)), none] (by exact ⟨rfl, rfl, rfl, rfl, trivial⟩) ?_
            refine ih_.2 i9_ (k_ + 1) S_ hI_ hF_ ⟨?_, ?_, trivial⟩ ?_
            · first | omega | (have q9_ := a145_.2; omega)
            · first | exact hcs_ | exact a145_.1
            · omega
          · have cx10_ : ¬ (vx9_ ≠ 0) := of_decide_eq_false cx10_
            have nd9_ := nd_p hg_ hs_ hk_ (by omega) (x_ := (S_.2.2.1 65 0 (3 * i9_ + k_).toNat).toNat) (by omega) (by omega) pn6_
            have hIx11_ : gi (sm_pI S_ 6 0 13 0) := gi_pI hI_ (show 0 ≤ 0 ∧ 0 ≤ 4 from ⟨by omega, by omega⟩)
            have hFx12_ : ai_fr (sx_W vw_100) S0_ (sm_pI S_ 6 0 13 0) := ai_fr_tr hF_ (ai_fr_pI rfl)
            refine sm_T_go 6 (c1 := (92, [some (.inr (.inr (some (6, 0)))), some (.inl a1_), some (.inl i9_), some (.inl k_), some (.inl (S_.2.2.1 65 0 (3 * i9_ + k_).toNat))], [.inl (S_.2.2.1 65 0 (3 * i9_ + k_).toNat), .inr (.inr (some (6, 0))), .inr (.inr (some (6, 0)))], sm_pI S_ 6 0 13 0)) rfl ?_
            refine sm_T_cal (d1 := 1) (Q1 := vq_92 (S_.2.2.1 65 0 (3 * i9_ + k_).toNat) dd_ (sm_pI S_ 6 0 13 0)) rfl rfl (by decide) (vc_92 (S_.2.2.1 65 0 (3 * i9_ + k_).toNat) dd_ (sm_pI S_ 6 0 13 0) hIx11_ (by exact (hFx12_.2.1 6 0 0 rfl).trans hd_) (by omega)) (fun u_ Sx13_ px16_ => ?_)
            obtain ⟨rfl, vx18_, rfl, px16_⟩ := px16_
            have l92_ := px16_.1
            have v92_ : vx18_ = (srp dd_ S0_ (S0_.2.2.1 42 (0 + dd_) (S_.2.2.1 65 0 (3 * i9_ + k_).toNat).toNat) : Int) := by (have q9_ := px16_.2 F_ (dgr_fr hg_ hFx12_ rfl rfl rfl rfl rfl) (swp_fr hs_ hFx12_ rfl rfl rfl rfl) (by omega) (by rw [hFx12_.1 3 dd_ 4 rfl]; omega); unfold srp at q9_ ⊢; rw [fr_arr (t := 44) (i := 0 + dd_) hFx12_ rfl, fr_arr (t := 42) (i := 0 + dd_) hFx12_ rfl] at q9_; exact q9_)
            have w92_ : (npd a1_ (S0_.2.2.1 59 0)) vx18_ := ⟨by omega, by omega, by (rw [show (vx18_).toNat = srp dd_ S0_ (S0_.2.2.1 42 (0 + dd_) (S_.2.2.1 65 0 (3 * i9_ + k_).toNat).toNat) by omega]; exact nd9_.1.2.2)⟩
            refine sm_T_cal (d1 := 0) (Q1 := vq_101 vx18_ (npd a1_ (S0_.2.2.1 59 0)) (sm_pI S_ 6 0 13 0)) rfl rfl (by decide) (vc_101 vx18_ (npd a1_ (S0_.2.2.1 59 0)) (sm_pI S_ 6 0 13 0) hIx11_ (by omega) (by (rw [rf_eq]; decide)) (by (rw [rf_eq]; exact mms_0)) (by (intro _; exact w92_))) (fun u_ Sx19_ px22_ => ?_)
            obtain ⟨rfl, hIx20_, hFx21_, px22_⟩ := px22_
            have hFx23_ : ai_fr (sx_W vw_100) S0_ Sx19_ := ai_fr_tr hFx12_ (fr_le hFx21_ rfl)
            have a95_ := px22_
            have s95_ : Sx19_.1 6 0 13 = 1 := by (have q9_ := a95_.1; have q8_ := a95_.2.1; have q7_ := a95_.2.2.2.1 (by omega); rw [rf_eq] at q9_ q8_; omega)
            have z95_ := a95_.2.2.2.2.1 ⟨by omega, by rw [rf_eq]⟩
            have k95_ : Sx19_.1 6 0 11 = S_.1 6 0 11 := hFx21_.1 6 0 11 rfl
            have j95_ : Sx19_.2.2.1 65 0 = S_.2.2.1 65 0 := funext fun q9_ => (hFx21_.2.2 65 rfl 0 q9_).1
            refine sm_T_go 3 (c1 := (102, [some (.inr (.inr (some (6, 0)))), some (.inl a1_), some (.inl i9_), some (.inl k_), some (.inl (S_.2.2.1 65 0 (3 * i9_ + k_).toNat))], [.inl (S_.2.2.1 65 0 (3 * i9_ + k_).toNat), .inr (.inr (some (6, 0))), .inr (.inr (some (6, 0)))], Sx19_)) rfl ?_
            refine sm_T_cal (d1 := 1) (Q1 := vq_93 (S_.2.2.1 65 0 (3 * i9_ + k_).toNat) dd_ Sx19_) rfl rfl (by decide) (vc_93 (S_.2.2.1 65 0 (3 * i9_ + k_).toNat) dd_ Sx19_ hIx20_ (by exact (hFx23_.2.1 6 0 0 rfl).trans hd_) (by omega)) (fun u_ Sx24_ px27_ => ?_)
            obtain ⟨rfl, vx29_, rfl, px27_⟩ := px27_
            have l102_ := px27_.1
            have v102_ : vx29_ = (srp dd_ S0_ (S0_.2.2.1 43 (0 + dd_) (S_.2.2.1 65 0 (3 * i9_ + k_).toNat).toNat) : Int) := by (have q9_ := px27_.2 F_ (dgr_fr hg_ hFx23_ rfl rfl rfl rfl rfl) (swp_fr hs_ hFx23_ rfl rfl rfl rfl) (by omega) (by rw [hFx23_.1 3 dd_ 4 rfl]; omega); unfold srp at q9_ ⊢; rw [fr_arr (t := 44) (i := 0 + dd_) hFx23_ rfl, fr_arr (t := 43) (i := 0 + dd_) hFx23_ rfl] at q9_; exact q9_)
            have w102_ : (npd a1_ (S0_.2.2.1 59 0)) vx29_ := ⟨by omega, by omega, by (rw [show (vx29_).toNat = srp dd_ S0_ (S0_.2.2.1 43 (0 + dd_) (S_.2.2.1 65 0 (3 * i9_ + k_).toNat).toNat) by omega]; exact nd9_.2.1.2.2)⟩
            refine sm_T_cal (d1 := 0) (Q1 := vq_101 vx29_ (npd a1_ (S0_.2.2.1 59 0)) Sx19_) rfl rfl (by decide) (vc_101 vx29_ (npd a1_ (S0_.2.2.1 59 0)) Sx19_ hIx20_ (by omega) (by omega) (by exact a95_.2.2.1) (by (intro _; exact w102_))) (fun u_ Sx30_ px33_ => ?_)
            obtain ⟨rfl, hIx31_, hFx32_, px33_⟩ := px33_
            have hFx34_ : ai_fr (sx_W vw_100) S0_ Sx30_ := ai_fr_tr hFx23_ (fr_le hFx32_ rfl)
            have a105_ := px33_
            have s105_ : Sx30_.1 6 0 13 = 2 := a105_.2.2.2.2.2 ⟨by omega, s95_, by rw [z95_]; omega⟩
            have k105_ : Sx30_.1 6 0 11 = S_.1 6 0 11 := (hFx32_.1 6 0 11 rfl).trans k95_
            have j105_ : Sx30_.2.2.1 65 0 = S_.2.2.1 65 0 := (fr_arr hFx32_ rfl).trans j95_
            refine sm_T_go 5 (c1 := (115, [some (.inr (.inr (some (6, 0)))), some (.inl a1_), some (.inl i9_), some (.inl k_), some (.inl (S_.2.2.1 65 0 (3 * i9_ + k_).toNat))], [.inl i9_, .inl 3, .inr (.inr (some (65, 0))), .inr (.inr (some (6, 0)))], Sx30_)) rfl ?_
            refine sm_T_bin (w := 3 * i9_) rfl (bi_mul (by omega) (by omega) (by omega)) ?_ -- pc_ 115
            refine sm_T_go 2 (c1 := (118, [some (.inr (.inr (some (6, 0)))), some (.inl a1_), some (.inl i9_), some (.inl k_), some (.inl (S_.2.2.1 65 0 (3 * i9_ + k_).toNat))], [.inl 1, .inl k_, .inl (3 * i9_), .inr (.inr (some (65, 0))), .inr (.inr (some (6, 0)))], Sx30_)) rfl ?_
            refine sm_T_bin (w := k_ + 1) rfl (bi_add (by omega) (by omega) (by omega)) ?_ -- pc_ 118
            refine sm_T_go 1 (c1 := (120, [some (.inr (.inr (some (6, 0)))), some (.inl a1_), some (.inl i9_), some (.inl k_), some (.inl (S_.2.2.1 65 0 (3 * i9_ + k_).toNat))], [.inl 3, .inl (k_ + 1), .inl (3 * i9_), .inr (.inr (some (65, 0))), .inr (.inr (some (6, 0)))], Sx30_)) rfl ?_
            refine sm_T_bin (w := ((k_ + 1) % 3)) rfl (bi_rem (by omega) (by omega) (by omega) (by omega)) ?_ -- pc_ 120
            refine sm_T_bin (w := 3 * i9_ + ((k_ + 1) % 3)) rfl (bi_add (by omega) (by omega) (by omega)) ?_ -- pc_ 121
            refine sm_T_iald (n := 3072) rfl rfl (by omega) (by omega) ?_
            have bx35_ : (-1) ≤ Sx30_.2.2.1 65 0 (3 * i9_ + ((k_ + 1) % 3)).toNat ∧ Sx30_.2.2.1 65 0 (3 * i9_ + ((k_ + 1) % 3)).toNat ≤ 1012 := hIx31_.2 65 0 _
            refine sm_T_cal (d1 := 0) (Q1 := vq_101 (Sx30_.2.2.1 65 0 (3 * i9_ + ((k_ + 1) % 3)).toNat) (npd a1_ (S0_.2.2.1 59 0)) Sx30_) rfl rfl (by decide) (vc_101 (Sx30_.2.2.1 65 0 (3 * i9_ + ((k_ + 1) % 3)).toNat) (npd a1_ (S0_.2.2.1 59 0)) Sx30_ hIx31_ (by omega) (by omega) (by exact a105_.2.2.1) (by (rw [j105_]; intro u9_; exact mcs_a hcs_ (i_ := i9_) (k_ := (k_ + 1) % 3) (by omega) (by omega) u9_))) (fun u_ Sx36_ px39_ => ?_)
            obtain ⟨rfl, hIx37_, hFx38_, px39_⟩ := px39_
            have hFx40_ : ai_fr (sx_W vw_100) S0_ Sx36_ := ai_fr_tr hFx34_ (fr_le hFx38_ rfl)
            have a123_ := px39_
            have k123_ : Sx36_.1 6 0 11 = S_.1 6 0 11 := (hFx38_.1 6 0 11 rfl).trans k105_
            have j123_ : Sx36_.2.2.1 65 0 = S_.2.2.1 65 0 := (fr_arr hFx38_ rfl).trans j105_
            refine sm_T_go 5 (c1 := (133, [some (.inr (.inr (some (6, 0)))), some (.inl a1_), some (.inl i9_), some (.inl k_), some (.inl (S_.2.2.1 65 0 (3 * i9_ + k_).toNat))], [.inl i9_, .inl 3, .inr (.inr (some (65, 0))), .inr (.inr (some (6, 0)))], Sx36_)) rfl ?_
            refine sm_T_bin (w := 3 * i9_) rfl (bi_mul (by omega) (by omega) (by omega)) ?_ -- pc_ 133
            refine sm_T_go 2 (c1 := (136, [some (.inr (.inr (some (6, 0)))), some (.inl a1_), some (.inl i9_), some (.inl k_), some (.inl (S_.2.2.1 65 0 (3 * i9_ + k_).toNat))], [.inl 2, .inl k_, .inl (3 * i9_), .inr (.inr (some (65, 0))), .inr (.inr (some (6, 0)))], Sx36_)) rfl ?_
            refine sm_T_bin (w := k_ + 2) rfl (bi_add (by omega) (by omega) (by omega)) ?_ -- pc_ 136
            refine sm_T_go 1 (c1 := (138, [some (.inr (.inr (some (6, 0)))), some (.inl a1_), some (.inl i9_), some (.inl k_), some (.inl (S_.2.2.1 65 0 (3 * i9_ + k_).toNat))], [.inl 3, .inl (k_ + 2), .inl (3 * i9_), .inr (.inr (some (65, 0))), .inr (.inr (some (6, 0)))], Sx36_)) rfl ?_
            refine sm_T_bin (w := ((k_ + 2) % 3)) rfl (bi_rem (by omega) (by omega) (by omega) (by omega)) ?_ -- pc_ 138
            refine sm_T_bin (w := 3 * i9_ + ((k_ + 2) % 3)) rfl (bi_add (by omega) (by omega) (by omega)) ?_ -- pc_ 139
            refine sm_T_iald (n := 3072) rfl rfl (by omega) (by omega) ?_
            have bx41_ : (-1) ≤ Sx36_.2.2.1 65 0 (3 * i9_ + ((k_ + 2) % 3)).toNat ∧ Sx36_.2.2.1 65 0 (3 * i9_ + ((k_ + 2) % 3)).toNat ≤ 1012 := hIx37_.2 65 0 _
            refine sm_T_cal (d1 := 0) (Q1 := vq_101 (Sx36_.2.2.1 65 0 (3 * i9_ + ((k_ + 2) % 3)).toNat) (npd a1_ (S0_.2.2.1 59 0)) Sx36_) rfl rfl (by decide) (vc_101 (Sx36_.2.2.1 65 0 (3 * i9_ + ((k_ + 2) % 3)).toNat) (npd a1_ (S0_.2.2.1 59 0)) Sx36_ hIx37_ (by omega) (by omega) (by exact a123_.2.2.1) (by (rw [j123_]; intro u9_; exact mcs_a hcs_ (i_ := i9_) (k_ := (k_ + 2) % 3) (by omega) (by omega) u9_))) (fun u_ Sx42_ px45_ => ?_)
            obtain ⟨rfl, hIx43_, hFx44_, px45_⟩ := px45_
            have hFx46_ : ai_fr (sx_W vw_100) S0_ Sx42_ := ai_fr_tr hFx40_ (fr_le hFx44_ rfl)
            have a141_ := px45_
            have k141_ : Sx42_.1 6 0 11 = S_.1 6 0 11 := (hFx44_.1 6 0 11 rfl).trans k123_
            have j141_ : Sx42_.2.2.1 65 0 = S_.2.2.1 65 0 := (fr_arr hFx44_ rfl).trans j123_
            have m141_ : mcs (npd a1_ (S0_.2.2.1 59 0)) Sx42_ := by (intro c_ hc_; rw [k141_] at hc_; rw [j141_]; exact hcs_ c_ hc_)
            refine sm_T_go 1 (c1 := (145, [some (.inr (.inr (some (6, 0)))), some (.inl a1_), some (.inl i9_), some (.inl k_), some (.inl (S_.2.2.1 65 0 (3 * i9_ + k_).toNat))], [.inr (.inr (some (6, 0)))], Sx42_)) rfl ?_
            refine sm_T_cal (d1 := 0) (Q1 := vq_102 (npd a1_ (S0_.2.2.1 59 0)) Sx42_) rfl rfl (by decide) (vc_102 (npd a1_ (S0_.2.2.1 59 0)) Sx42_ hIx43_ (by omega) (by exact a141_.2.2.1) (by exact m141_)) (fun u_ Sx47_ px50_ => ?_)
            obtain ⟨rfl, hIx48_, hFx49_, px50_⟩ := px50_
            have hFx51_ : ai_fr (sx_W vw_100) S0_ Sx47_ := ai_fr_tr hFx46_ (fr_le hFx49_ rfl)
            have a145_ := px50_
            refine sm_T_inc (a := 3) (z := 1) (v := k_) (w := k_ + 1) rfl rfl (by omega) (by omega) (by omega) ?_ -- pc_ 148
            refine sm_T_go 1 (c1 := (51, [some (.inr (.inr (some (6, 0)))), some (.inl a1_), some (.inl i9_), some (.inl (k_ + 1)), some (.inl (S_.2.2.1 65 0 (3 * i9_ + k_).toNat))], [], Sx47_)) rfl ?_
            refine sm_T_wk [some (.inr (.inr (some (6, 0)))), some (.inl a1_), some (.inl i9_), some (.inl (k_ + 1)), none] (by exact ⟨rfl, rfl, rfl, rfl, trivial⟩) ?_
            refine ih_.2 i9_ (k_ + 1) Sx47_ hIx48_ hFx51_ ⟨?_, ?_, trivial⟩ ?_
            · first | omega | (have q9_ := a145_.2; omega)
            · first | exact hcs_ | exact a145_.1
            · omega
set_option maxHeartbeats 3000000 in
theorem vc_100 {sc_ : Nat × (Nat → Int)} (a1_ : Int) (dd_ : Nat) (F_ : Nat) (S0_ : sm_S) (hI_ : gi S0_) (hd_ : S0_.2.1 6 0 0 = some dd_) (hg_ : dgr dd_ F_ S0_) (hs_ : swp dd_ F_ S0_) (hk_ : mkd dd_ F_ S0_ (S0_.2.2.1 59 0)) (h1_ : (F_ : Int) ≤ a1_ ∧ a1_ < S0_.1 3 dd_ 4) (hn_ : S0_.2.2.1 59 0 a1_.toNat = 1) : sm_T (mt_P sc_) 2 100 (0, [some (.inr (.inr (some (6, 0)))), some (.inl a1_), none, none, none], [], S0_) (fun ro9_ => ∃ u_ S1_, ro9_ = (.inl u_, S1_, 0) ∧ vq_100 a1_ dd_ F_ S0_ u_ S1_) := by
  have hF_ : ai_fr (sx_W vw_100) S0_ S0_ := ai_fr_rf
  have g1_ := hg_.1
  have g2_ := hg_.2.1
  have n13_ : 0 ≤ S0_.1 3 dd_ 4 ∧ S0_.1 3 dd_ 4 ≤ 1013 := hI_.1 3 dd_ 4 rfl
  have nd0_ := nd_p hg_ hs_ hk_ n13_.2 (x_ := a1_.toNat) (by omega) (by omega) hn_
  have hIx1_ : gi (sm_pI S0_ 6 0 11 0) := gi_pI hI_ (show 0 ≤ 0 ∧ 0 ≤ 1024 from ⟨by omega, by omega⟩)
  have hFx2_ : ai_fr (sx_W vw_100) S0_ (sm_pI S0_ 6 0 11 0) := ai_fr_tr hF_ (ai_fr_pI rfl)
  have hIx3_ : gi (sm_pI (sm_pI S0_ 6 0 11 0) 6 0 13 0) := gi_pI hIx1_ (show 0 ≤ 0 ∧ 0 ≤ 4 from ⟨by omega, by omega⟩)
  have hFx4_ : ai_fr (sx_W vw_100) S0_ (sm_pI (sm_pI S0_ 6 0 11 0) 6 0 13 0) := ai_fr_tr hFx2_ (ai_fr_pI rfl)
  refine sm_T_go 9 (c1 := (13, [some (.inr (.inr (some (6, 0)))), some (.inl a1_), none, none, none], [.inl a1_, .inr (.inr (some (6, 0))), .inr (.inr (some (6, 0)))], sm_pI (sm_pI S0_ 6 0 11 0) 6 0 13 0)) rfl ?_
  refine sm_T_cal (d1 := 1) (Q1 := vq_92 a1_ dd_ (sm_pI (sm_pI S0_ 6 0 11 0) 6 0 13 0)) rfl rfl (by decide) (vc_92 a1_ dd_ (sm_pI (sm_pI S0_ 6 0 11 0) 6 0 13 0) hIx3_ (by exact (hFx4_.2.1 6 0 0 rfl).trans hd_) (by omega)) (fun u_ Sx5_ px8_ => ?_)
  obtain ⟨rfl, vx10_, rfl, px8_⟩ := px8_
  have l13_ := px8_.1
  have v13_ : vx10_ = (srp dd_ S0_ (S0_.2.2.1 42 (0 + dd_) a1_.toNat) : Int) := by (have q9_ := px8_.2 F_ (dgr_fr hg_ hFx4_ rfl rfl rfl rfl rfl) (swp_fr hs_ hFx4_ rfl rfl rfl rfl) (by omega) (by rw [hFx4_.1 3 dd_ 4 rfl]; omega); unfold srp at q9_ ⊢; rw [fr_arr (t := 44) (i := 0 + dd_) hFx4_ rfl, fr_arr (t := 42) (i := 0 + dd_) hFx4_ rfl] at q9_; exact q9_)
  have w13_ : (npd a1_ (S0_.2.2.1 59 0)) vx10_ := ⟨by omega, by omega, by (rw [show (vx10_).toNat = srp dd_ S0_ (S0_.2.2.1 42 (0 + dd_) a1_.toNat) by omega]; exact nd0_.1.2.2)⟩
  refine sm_T_cal (d1 := 0) (Q1 := vq_101 vx10_ (npd a1_ (S0_.2.2.1 59 0)) (sm_pI (sm_pI S0_ 6 0 11 0) 6 0 13 0)) rfl rfl (by decide) (vc_101 vx10_ (npd a1_ (S0_.2.2.1 59 0)) (sm_pI (sm_pI S0_ 6 0 11 0) 6 0 13 0) hIx3_ (by omega) (by (rw [rf_eq]; decide)) (by (rw [rf_eq]; exact mms_0)) (by (intro _; exact w13_))) (fun u_ Sx11_ px14_ => ?_)
  obtain ⟨rfl, hIx12_, hFx13_, px14_⟩ := px14_
  have hFx15_ : ai_fr (sx_W vw_100) S0_ Sx11_ := ai_fr_tr hFx4_ (fr_le hFx13_ rfl)
  have a16_ := px14_
  have s16_ : Sx11_.1 6 0 13 = 1 := by (have q9_ := a16_.1; have q8_ := a16_.2.1; have q7_ := a16_.2.2.2.1 (by omega); rw [rf_eq] at q9_ q8_; omega)
  have z16_ := a16_.2.2.2.2.1 ⟨by omega, by rw [rf_eq]⟩
  have k16_ : Sx11_.1 6 0 11 = 0 := hFx13_.1 6 0 11 rfl
  refine sm_T_go 3 (c1 := (22, [some (.inr (.inr (some (6, 0)))), some (.inl a1_), none, none, none], [.inl a1_, .inr (.inr (some (6, 0))), .inr (.inr (some (6, 0)))], Sx11_)) rfl ?_
  refine sm_T_cal (d1 := 1) (Q1 := vq_93 a1_ dd_ Sx11_) rfl rfl (by decide) (vc_93 a1_ dd_ Sx11_ hIx12_ (by exact (hFx15_.2.1 6 0 0 rfl).trans hd_) (by omega)) (fun u_ Sx16_ px19_ => ?_)
  obtain ⟨rfl, vx21_, rfl, px19_⟩ := px19_
  have l22_ := px19_.1
  have v22_ : vx21_ = (srp dd_ S0_ (S0_.2.2.1 43 (0 + dd_) a1_.toNat) : Int) := by (have q9_ := px19_.2 F_ (dgr_fr hg_ hFx15_ rfl rfl rfl rfl rfl) (swp_fr hs_ hFx15_ rfl rfl rfl rfl) (by omega) (by rw [hFx15_.1 3 dd_ 4 rfl]; omega); unfold srp at q9_ ⊢; rw [fr_arr (t := 44) (i := 0 + dd_) hFx15_ rfl, fr_arr (t := 43) (i := 0 + dd_) hFx15_ rfl] at q9_; exact q9_)
  have w22_ : (npd a1_ (S0_.2.2.1 59 0)) vx21_ := ⟨by omega, by omega, by (rw [show (vx21_).toNat = srp dd_ S0_ (S0_.2.2.1 43 (0 + dd_) a1_.toNat) by omega]; exact nd0_.2.1.2.2)⟩
  refine sm_T_cal (d1 := 0) (Q1 := vq_101 vx21_ (npd a1_ (S0_.2.2.1 59 0)) Sx11_) rfl rfl (by decide) (vc_101 vx21_ (npd a1_ (S0_.2.2.1 59 0)) Sx11_ hIx12_ (by omega) (by omega) (by exact a16_.2.2.1) (by (intro _; exact w22_))) (fun u_ Sx22_ px25_ => ?_)
  obtain ⟨rfl, hIx23_, hFx24_, px25_⟩ := px25_
  have hFx26_ : ai_fr (sx_W vw_100) S0_ Sx22_ := ai_fr_tr hFx15_ (fr_le hFx24_ rfl)
  have a25_ := px25_
  have s25_ : Sx22_.1 6 0 13 = 2 := a25_.2.2.2.2.2 ⟨by omega, s16_, by rw [z16_]; omega⟩
  have k25_ : Sx22_.1 6 0 11 = 0 := (hFx24_.1 6 0 11 rfl).trans k16_
  refine sm_T_go 1 (c1 := (29, [some (.inr (.inr (some (6, 0)))), some (.inl a1_), none, none, none], [.inr (.inr (some (6, 0)))], Sx22_)) rfl ?_
  refine sm_T_cal (d1 := 0) (Q1 := vq_102 (npd a1_ (S0_.2.2.1 59 0)) Sx22_) rfl rfl (by decide) (vc_102 (npd a1_ (S0_.2.2.1 59 0)) Sx22_ hIx23_ (by omega) (by exact a25_.2.2.1) (by (intro c_ hc_; exfalso; omega))) (fun u_ Sx27_ px30_ => ?_)
  obtain ⟨rfl, hIx28_, hFx29_, px30_⟩ := px30_
  have hFx31_ : ai_fr (sx_W vw_100) S0_ Sx27_ := ai_fr_tr hFx26_ (fr_le hFx29_ rfl)
  have a29_ := px30_.1
  refine sm_T_go 2 (c1 := (34, [some (.inr (.inr (some (6, 0)))), some (.inl a1_), some (.inl 0), none, none], [], Sx27_)) rfl ?_
  refine (vl_100 a1_ dd_ F_ S0_ hd_ hg_ hs_ hk_ h1_ hn_ _).1 0 Sx27_ hIx28_ hFx31_ ⟨?_, ?_, trivial⟩ (Nat.lt_succ_self _)
  · omega
  · exact a29_
