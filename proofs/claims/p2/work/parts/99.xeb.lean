/-! Reader.beginModule -/
def vw_116 : sx_Wl := ([(10, 2), (10, 3), (10, 4), (10, 5), (10, 6), (10, 7), (10, 8)], [75, 77], [])
def vq_116 (b_ : Nat → Int) (n_ : Nat) (A_ : pA) (N_ : Nat → Nat) (M_ : Nat) (c_ : List Int) (p_ : Nat) (S0_ : sm_S) (u_ : Option sm_V) (S1_ : sm_S) : Prop := u_ = none ∧ gi S1_ ∧ ai_fr (sx_W vw_116) S0_ S1_ ∧ (∃ x_, p_bm b_ n_ A_ N_ M_ p_ = .inr x_ ∧ ct b_ n_ x_.2.2 S1_ ∧ dr b_ n_ x_.1 x_.2.1 M_ c_ S1_ ∧ nc b_ n_ x_.2.1 M_ S1_ ∧ p_ < x_.2.2)
def vx_116 (b_ : Nat → Int) (n_ : Nat) (A_ : pA) (N_ : Nat → Nat) (M_ : Nat) (c_ : List Int) (p_ : Nat) (S0_ : sm_S) (S1_ : sm_S) : Prop := gi S1_ ∧ ai_fr (sx_W vw_116) S0_ S1_ ∧ (∃ e_, p_bm b_ n_ A_ N_ M_ p_ = .inl e_ ∧ ter S1_ e_)
set_option maxHeartbeats 400000 in
theorem vc_116 {sc_ : Nat × (Nat → Int)} (b_ : Nat → Int) (n_ : Nat) (A_ : pA) (N_ : Nat → Nat) (M_ : Nat) (c_ : List Int) (p_ : Nat) (S0_ : sm_S) (hI_ : gi S0_) (hc_ : ct b_ n_ p_ S0_) (hb_ : br b_ n_ A_ N_ M_ c_ S0_) : sm_T (mt_P sc_) 3 116 (0, [some (.inr (.inr (some (7, 0)))), none], [], S0_) (fun r_ => (∃ u_ S1_, r_ = (.inl u_, S1_, 0) ∧ vq_116 b_ n_ A_ N_ M_ c_ p_ S0_ u_ S1_) ∨ ∃ S1_, r_ = (.inr 2, S1_, 1) ∧ vx_116 b_ n_ A_ N_ M_ c_ p_ S0_ S1_) := by
  have hF_ : ai_fr (sx_W vw_116) S0_ S0_ := ai_fr_rf
  have st0_ := hc_.2.2.2.2.2.1
  have kd0_ := hc_.2.2.2.2.2.2.2.1
  have hp0_ := hc_.2.2.2.1
  have hn1_ := hc_.2.2.1
  refine sm_T_go 3 (c1 := (5, [some (.inr (.inr (some (7, 0)))), none], [.inl 3, .inr (.inr (some (10, 0)))], S0_)) rfl ?_
  refine sm_T_calx (d1 := 2) (Q1 := vq_188 3 b_ n_ p_ S0_) (Q2 := vx_188 3 b_ n_ p_ S0_) rfl rfl (by decide) (vc_188 3 b_ n_ p_ S0_ hI_ (by exact hc_)) rfl (fun Sx1_ px4_ => ?_) (fun u_ Sx1_ px4_ => ?_)
  · obtain ⟨hIx2_, hFx3_, px4_⟩ := px4_
    refine Or.inr ⟨_, rfl, hIx2_, ai_fr_tr hF_ (fr_le hFx3_ rfl), ?_⟩
    obtain ⟨e_, w1_, w2_⟩ := px4_
    refine ⟨e_, ?_, w2_⟩
    unfold p_bm; rw [pb_l w1_]
  obtain ⟨rfl, hIx2_, hFx3_, px4_⟩ := px4_
  have hFx5_ : ai_fr (sx_W vw_116) S0_ Sx1_ := ai_fr_tr hF_ (fr_le hFx3_ rfl)
  obtain ⟨r1_, a1_, c1_⟩ := px4_
  have k1_ := p_nd_ok (by decide) hc_.2.2.2.1 a1_
  have st1_ := c1_.2.2.2.2.2.1
  have kd1_ := c1_.2.2.2.2.2.2.2.1
  have hp1_ := c1_.2.2.2.1
  have b1_ := br_fr hb_ hFx3_ rfl rfl rfl rfl rfl rfl rfl rfl rfl rfl
  have hM1_ := b1_.1
  have hM2_ := b1_.2.1
  have hMn_ : (Sx1_.1 7 0 3).toNat = M_ := by omega
  have dn_ : M_ ≠ 16 → ∀ x_ : Int, nmp b_ n_ r1_ → x_ = (16 * r1_ + lx_sz b_ n_ r1_ : Nat) → ct b_ n_ r1_ (sm_aI (sm_aI Sx1_ 75 0 (Sx1_.1 7 0 3).toNat x_) 77 0 (Sx1_.1 7 0 3).toNat 0) ∧ dr b_ n_ (a_bm A_ M_) (n_up N_ M_ r1_) M_ c_ (sm_aI (sm_aI Sx1_ 75 0 (Sx1_.1 7 0 3).toNat x_) 77 0 (Sx1_.1 7 0 3).toNat 0) ∧ nc b_ n_ (n_up N_ M_ r1_) M_ (sm_aI (sm_aI Sx1_ 75 0 (Sx1_.1 7 0 3).toNat x_) 77 0 (Sx1_.1 7 0 3).toNat 0) := fun h1_ x_ h2_ h3_ => bm_st b1_ c1_ h1_ h2_ h3_ hMn_
  have bx6_ : (-128) ≤ Sx1_.1 10 0 2 ∧ Sx1_.1 10 0 2 ≤ 257 := hIx2_.1 10 0 2 rfl
  refine sm_T_go 4 (c1 := (16, [some (.inr (.inr (some (7, 0)))), none], [.inl 1, .inl (Sx1_.1 10 0 2)], Sx1_)) rfl ?_
  refine sm_T_br (a := 0) (z := 18) rfl (fun cx7_ => ?_) (fun cx7_ => ?_)
  · have cx7_ : (Sx1_.1 10 0 2) = 1 := of_decide_eq_true cx7_
    refine sm_T_go 2 (c1 := (38, [some (.inr (.inr (some (7, 0)))), none], [.inr (.inr (some (10, 0)))], Sx1_)) rfl ?_
    refine sm_T_cal (d1 := 0) (Q1 := vq_189 b_ n_ r1_ Sx1_) rfl rfl (by decide) (vc_189 b_ n_ r1_ Sx1_ hIx2_ (by exact c1_) (by omega)) (fun u_ Sx8_ px11_ => ?_)
    obtain ⟨rfl, vx13_, rfl, px11_⟩ := px11_
    have e38_ := px11_
    have kk1_ : lx_kd b_ n_ r1_ = 1 := by omega
    have nm1_ : nmp b_ n_ r1_ := ⟨c1_.2.2.2.1, kk1_⟩
    have nz1_ := nmp_sz nm1_
    refine sm_T_go 3 (c1 := (44, [some (.inr (.inr (some (7, 0)))), some (.inl vx13_)], [.inl vx13_, .inr (.inr (some (7, 0)))], Sx1_)) rfl ?_
    refine sm_T_cal (d1 := 1) (Q1 := vq_118 vx13_ b_ n_ N_ M_ r1_ Sx1_) rfl rfl (by decide) (vc_118 vx13_ b_ n_ N_ M_ r1_ Sx1_ hIx2_ (by exact c1_.1) (by exact hn1_) (by exact b1_.1) (by exact b1_.2.2.2.1) (by exact e38_) (by exact nm1_)) (fun u_ Sx14_ px17_ => ?_)
    obtain ⟨rfl, vx19_, rfl, px17_⟩ := px17_
    have e44_ := px17_
    refine sm_T_go 1 (c1 := (48, [some (.inr (.inr (some (7, 0)))), some (.inl vx13_)], [.inl (-1), .inl vx19_], Sx1_)) rfl ?_
    refine sm_T_br (a := 0) (z := 19) rfl (fun cx20_ => ?_) (fun cx20_ => ?_)
    · have cx20_ : vx19_ = (-1) := of_decide_eq_true cx20_
      have bx21_ : 0 ≤ Sx1_.1 7 0 3 ∧ Sx1_.1 7 0 3 ≤ 16 := hIx2_.1 7 0 3 rfl
      refine sm_T_go 3 (c1 := (73, [some (.inr (.inr (some (7, 0)))), some (.inl vx13_)], [.inl 16, .inl (Sx1_.1 7 0 3)], Sx1_)) rfl ?_
      refine sm_T_br (a := 1) (z := 19) rfl (fun cx22_ => ?_) (fun cx22_ => ?_)
      · have cx22_ : (Sx1_.1 7 0 3) ≠ 16 := of_decide_eq_true cx22_
        refine sm_T_go 5 (c1 := (101, [some (.inr (.inr (some (7, 0)))), some (.inl vx13_)], [.inl vx13_, .inl (Sx1_.1 7 0 3), .inr (.inr (some (75, 0)))], Sx1_)) rfl ?_
        refine sm_T_iast (n := 16) rfl rfl (by omega) (by omega) ?_
        have hIx23_ : gi (sm_aI Sx1_ 75 0 (Sx1_.1 7 0 3).toNat vx13_) := gi_aI hIx2_ (show 0 ≤ vx13_ ∧ vx13_ ≤ 65535 from ⟨by omega, by omega⟩)
        have hFx24_ : ai_fr (sx_W vw_116) S0_ (sm_aI Sx1_ 75 0 (Sx1_.1 7 0 3).toNat vx13_) := ai_fr_tr hFx5_ (ai_fr_aI rfl)
        refine sm_T_go 5 (c1 := (111, [some (.inr (.inr (some (7, 0)))), some (.inl vx13_)], [.inl 0, .inl (Sx1_.1 7 0 3), .inr (.inr (some (77, 0)))], sm_aI Sx1_ 75 0 (Sx1_.1 7 0 3).toNat vx13_)) rfl ?_
        refine sm_T_iast (n := 17) rfl rfl (by omega) (by omega) ?_
        have hIx25_ : gi (sm_aI (sm_aI Sx1_ 75 0 (Sx1_.1 7 0 3).toNat vx13_) 77 0 (Sx1_.1 7 0 3).toNat 0) := gi_aI hIx23_ (show 0 ≤ 0 ∧ 0 ≤ 40 from ⟨by omega, by omega⟩)
        have hFx26_ : ai_fr (sx_W vw_116) S0_ (sm_aI (sm_aI Sx1_ 75 0 (Sx1_.1 7 0 3).toNat vx13_) 77 0 (Sx1_.1 7 0 3).toNat 0) := ai_fr_tr hFx24_ (ai_fr_aI rfl)
        refine sm_T_go 2 (c1 := (116, [some (.inr (.inr (some (7, 0)))), some (.inl vx13_)], [.inr (.inr (some (10, 0)))], sm_aI (sm_aI Sx1_ 75 0 (Sx1_.1 7 0 3).toNat vx13_) 77 0 (Sx1_.1 7 0 3).toNat 0)) rfl ?_
        refine sm_T_calx (d1 := 1) (Q1 := vq_191 b_ n_ (lx_en b_ n_ r1_) (sm_aI (sm_aI Sx1_ 75 0 (Sx1_.1 7 0 3).toNat vx13_) 77 0 (Sx1_.1 7 0 3).toNat 0)) (Q2 := vx_191 b_ n_ (lx_en b_ n_ r1_) (sm_aI (sm_aI Sx1_ 75 0 (Sx1_.1 7 0 3).toNat vx13_) 77 0 (Sx1_.1 7 0 3).toNat 0)) rfl rfl (by decide) (vc_191 b_ n_ (lx_en b_ n_ r1_) (sm_aI (sm_aI Sx1_ 75 0 (Sx1_.1 7 0 3).toNat vx13_) 77 0 (Sx1_.1 7 0 3).toNat 0) hIx25_ (by exact (dn_ (by omega) _ nm1_ e38_).1.1) (by exact (dn_ (by omega) _ nm1_ e38_).1.2.1) (by exact hn1_) (by exact (dn_ (by omega) _ nm1_ e38_).1.2.2.2.2.2.2.1) (by exact (lx_en_le (b := b_) c1_.2.2.2.1).2)) rfl (fun Sx27_ px30_ => ?_) (fun u_ Sx27_ px30_ => ?_)
        · obtain ⟨hIx28_, hFx29_, px30_⟩ := px30_
          refine Or.inr ⟨_, rfl, hIx28_, ai_fr_tr hFx26_ (fr_le hFx29_ rfl), ?_⟩
          refine ⟨(1, (lx_nx b_ n_ r1_)), ?_, px30_.2⟩
          unfold p_bm; rw [pb_r a1_, if_pos kk1_, if_pos (show p_fm b_ n_ N_ M_ r1_ = -1 by omega), if_neg (show ¬ M_ = 16 by omega), pb_l (p_ad_x px30_.1)]
        obtain ⟨rfl, hIx28_, hFx29_, px30_⟩ := px30_
        have hFx31_ : ai_fr (sx_W vw_116) S0_ Sx27_ := ai_fr_tr hFx26_ (fr_le hFx29_ rfl)
        have dn2_ := dn_ (by omega) _ nm1_ e38_
        have c2_ : ct b_ n_ (lx_nx b_ n_ r1_) _ := px30_
        have a2_ := p_ad_c px30_
        have k2_ := p_ad_ok c1_.2.2.2.1 (by omega) a2_
        have d2_ := dr_fr dn2_.2.1 hFx29_ rfl rfl rfl rfl rfl rfl rfl rfl rfl rfl
        have n2_ := nc_fr dn2_.2.2 hFx29_ rfl
        refine sm_T_go 3 (c1 := (125, [some (.inr (.inr (some (7, 0)))), some (.inl vx13_)], [.inl 123, .inr (.inr (some (10, 0)))], Sx27_)) rfl ?_
        refine sm_T_calx (d1 := 2) (Q1 := vq_188 123 b_ n_ (lx_nx b_ n_ r1_) Sx27_) (Q2 := vx_188 123 b_ n_ (lx_nx b_ n_ r1_) Sx27_) rfl rfl (by decide) (vc_188 123 b_ n_ (lx_nx b_ n_ r1_) Sx27_ hIx28_ (by exact c2_)) rfl (fun Sx32_ px35_ => ?_) (fun u_ Sx32_ px35_ => ?_)
        · obtain ⟨hIx33_, hFx34_, px35_⟩ := px35_
          refine Or.inr ⟨_, rfl, hIx33_, ai_fr_tr hFx31_ (fr_le hFx34_ rfl), ?_⟩
          obtain ⟨e_, w1_, w2_⟩ := px35_
          refine ⟨e_, ?_, w2_⟩
          unfold p_bm; rw [pb_r a1_, if_pos kk1_, if_pos (show p_fm b_ n_ N_ M_ r1_ = -1 by omega), if_neg (show ¬ M_ = 16 by omega), pb_r a2_, pb_l w1_]
        obtain ⟨rfl, hIx33_, hFx34_, px35_⟩ := px35_
        have hFx36_ : ai_fr (sx_W vw_116) S0_ Sx32_ := ai_fr_tr hFx31_ (fr_le hFx34_ rfl)
        obtain ⟨r3_, a3_, c3_⟩ := px35_
        have k3_ := p_nd_ok (by decide) c2_.2.2.2.1 a3_
        have d3_ := dr_fr d2_ hFx34_ rfl rfl rfl rfl rfl rfl rfl rfl rfl rfl
        have st3_ := c3_.2.2.2.2.2.1
        have kd3_ := c3_.2.2.2.2.2.2.2.1
        have hp3_ := c3_.2.2.2.1
        have n3_ := nc_fr n2_ hFx34_ rfl
        refine sm_T_rv rfl (Or.inl ⟨_, _, rfl, rfl, hIx33_, hFx36_, ?_⟩)
        exact ⟨_, by unfold p_bm; rw [pb_r a1_, if_pos kk1_, if_pos (show p_fm b_ n_ N_ M_ r1_ = -1 by omega), if_neg (show ¬ M_ = 16 by omega), pb_r a2_, pb_r a3_], c3_, d3_, n3_, by show p_ < r3_; omega⟩
      · have cx22_ : ¬ ((Sx1_.1 7 0 3) ≠ 16) := of_decide_eq_false cx22_
        have bx37_ : 0 ≤ Sx1_.1 10 0 3 ∧ Sx1_.1 10 0 3 ≤ 1280 := hIx2_.1 10 0 3 rfl
        refine sm_T_go 6 (c1 := (89, [some (.inr (.inr (some (7, 0)))), some (.inl vx13_)], [.inl (Sx1_.1 10 0 3), .inl 15, .inr (.inr (some (10, 0)))], Sx1_)) rfl ?_
        refine sm_T_calx (d1 := 0) (Q1 := vq_187 15 (Sx1_.1 10 0 3) Sx1_) (Q2 := vx_187 15 (Sx1_.1 10 0 3) Sx1_) rfl rfl (by decide) (vc_187 15 (Sx1_.1 10 0 3) Sx1_ hIx2_ (by decide) (by omega)) rfl (fun Sx38_ px41_ => ?_) (fun u_ Sx38_ px41_ => ?_)
        · obtain ⟨hIx39_, hFx40_, px41_⟩ := px41_
          refine Or.inr ⟨_, rfl, hIx39_, ai_fr_tr hFx5_ (fr_le hFx40_ rfl), ?_⟩
          refine ⟨(15, r1_), ?_, px41_.1, px41_.2.trans st1_⟩
          unfold p_bm; rw [pb_r a1_, if_pos kk1_, if_pos (by omega), if_pos (by omega)]
        · exact (px41_.2.2.2).elim
    · have cx20_ : ¬ (vx19_ = (-1)) := of_decide_eq_false cx20_
      have bx43_ : 0 ≤ Sx1_.1 10 0 3 ∧ Sx1_.1 10 0 3 ≤ 1280 := hIx2_.1 10 0 3 rfl
      refine sm_T_go 6 (c1 := (64, [some (.inr (.inr (some (7, 0)))), some (.inl vx13_)], [.inl (Sx1_.1 10 0 3), .inl 10, .inr (.inr (some (10, 0)))], Sx1_)) rfl ?_
      refine sm_T_calx (d1 := 0) (Q1 := vq_187 10 (Sx1_.1 10 0 3) Sx1_) (Q2 := vx_187 10 (Sx1_.1 10 0 3) Sx1_) rfl rfl (by decide) (vc_187 10 (Sx1_.1 10 0 3) Sx1_ hIx2_ (by decide) (by omega)) rfl (fun Sx44_ px47_ => ?_) (fun u_ Sx44_ px47_ => ?_)
      · obtain ⟨hIx45_, hFx46_, px47_⟩ := px47_
        refine Or.inr ⟨_, rfl, hIx45_, ai_fr_tr hFx5_ (fr_le hFx46_ rfl), ?_⟩
        refine ⟨(10, r1_), ?_, px47_.1, px47_.2.trans st1_⟩
        unfold p_bm; rw [pb_r a1_, if_pos kk1_, if_neg (by omega)]
      · exact (px47_.2.2.2).elim
  · have cx7_ : ¬ ((Sx1_.1 10 0 2) = 1) := of_decide_eq_false cx7_
    have bx49_ : 0 ≤ Sx1_.1 10 0 3 ∧ Sx1_.1 10 0 3 ≤ 1280 := hIx2_.1 10 0 3 rfl
    refine sm_T_go 6 (c1 := (31, [some (.inr (.inr (some (7, 0)))), none], [.inl (Sx1_.1 10 0 3), .inl 2, .inr (.inr (some (10, 0)))], Sx1_)) rfl ?_
    refine sm_T_calx (d1 := 0) (Q1 := vq_187 2 (Sx1_.1 10 0 3) Sx1_) (Q2 := vx_187 2 (Sx1_.1 10 0 3) Sx1_) rfl rfl (by decide) (vc_187 2 (Sx1_.1 10 0 3) Sx1_ hIx2_ (by decide) (by omega)) rfl (fun Sx50_ px53_ => ?_) (fun u_ Sx50_ px53_ => ?_)
    · obtain ⟨hIx51_, hFx52_, px53_⟩ := px53_
      refine Or.inr ⟨_, rfl, hIx51_, ai_fr_tr hFx5_ (fr_le hFx52_ rfl), ?_⟩
      refine ⟨(2, r1_), ?_, px53_.1, px53_.2.trans st1_⟩
      unfold p_bm; rw [pb_r a1_, if_neg (by omega)]
    · exact (px53_.2.2.2).elim
