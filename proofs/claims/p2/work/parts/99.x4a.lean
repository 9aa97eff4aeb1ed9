/-! the class reader: constants, parts; written by wip/p55/gen/vg -/
/-! Reader.readConstant -/
def vw_142 : sx_Wl := ([(7, 2), (7, 16), (10, 2), (10, 3), (10, 4), (10, 5), (10, 6), (10, 7), (10, 8)], [74, 84], [])
def vq_142 (o_ : List (Int × Nat)) (g_ : List Int) (c_ : List Int) (b_ : Nat → Int) (n_ : Nat) (p_ : Nat) (S0_ : sm_S) (u_ : Option sm_V) (S1_ : sm_S) : Prop := u_ = none ∧ gi S1_ ∧ ai_fr (sx_W vw_142) S0_ S1_ ∧ (∃ r_, p_co b_ n_ p_ = .inr r_ ∧ xr false o_ (r_.2.1 :: g_) (r_.2.2 ++ c_) S1_ ∧ ct b_ n_ r_.1 S1_)
def vx_142 (o_ : List (Int × Nat)) (g_ : List Int) (c_ : List Int) (b_ : Nat → Int) (n_ : Nat) (p_ : Nat) (S0_ : sm_S) (S1_ : sm_S) : Prop := gi S1_ ∧ ai_fr (sx_W vw_142) S0_ S1_ ∧ (∃ e_, p_co b_ n_ p_ = .inl e_ ∧ ter S1_ e_)
set_option maxHeartbeats 400000 in
theorem vc_142 {sc_ : Nat × (Nat → Int)} (o_ : List (Int × Nat)) (g_ : List Int) (c_ : List Int) (b_ : Nat → Int) (n_ : Nat) (p_ : Nat) (S0_ : sm_S) (hI_ : gi S0_) (hx_ : xr false o_ g_ c_ S0_) (hc_ : ct b_ n_ p_ S0_) (hk_ : lx_kd b_ n_ p_ = 2) (ho_ : g_.length ≤ 487) (hl_ : c_.length ≤ 65535) : sm_T (mt_P sc_) 2 142 (0, [some (.inr (.inr (some (7, 0)))), none, none, none], [], S0_) (fun r_ => (∃ u_ S1_, r_ = (.inl u_, S1_, 0) ∧ vq_142 o_ g_ c_ b_ n_ p_ S0_ u_ S1_) ∨ ∃ S1_, r_ = (.inr 2, S1_, 1) ∧ vx_142 o_ g_ c_ b_ n_ p_ S0_ S1_) := by
  have hF_ : ai_fr (sx_W vw_142) S0_ S0_ := ai_fr_rf
  have st0_ := hc_.2.2.2.2.2.1
  have kd0_ := hc_.2.2.2.2.2.2.2.1
  have hp0_ := hc_.2.2.2.1
  have hn1_ := hc_.2.2.1
  have hv0_ := hc_.2.2.2.2.2.2.2.2.2 hk_
  have bx1_ : 0 ≤ S0_.1 10 0 3 ∧ S0_.1 10 0 3 ≤ 1280 := hI_.1 10 0 3 rfl
  have bx2_ : 0 ≤ S0_.1 10 0 5 ∧ S0_.1 10 0 5 ≤ 999999 := hI_.1 10 0 5 rfl
  refine sm_T_go 10 (c1 := (20, [some (.inr (.inr (some (7, 0)))), some (.inl (S0_.1 10 0 3)), some (.inl (S0_.1 10 0 5)), none], [.inr (.inr (some (10, 0)))], S0_)) rfl ?_
  refine sm_T_calx (d1 := 1) (Q1 := vq_191 b_ n_ (lx_en b_ n_ p_) S0_) (Q2 := vx_191 b_ n_ (lx_en b_ n_ p_) S0_) rfl rfl (by decide) (vc_191 b_ n_ (lx_en b_ n_ p_) S0_ hI_ (by exact hc_.1) (by exact hc_.2.1) (by exact hc_.2.2.1) (by exact hc_.2.2.2.2.2.2.1) (by exact (lx_en_le (b := b_) hc_.2.2.2.1).2)) rfl (fun Sx3_ px6_ => ?_) (fun u_ Sx3_ px6_ => ?_)
  · obtain ⟨hIx4_, hFx5_, px6_⟩ := px6_
    refine Or.inr ⟨_, rfl, hIx4_, ai_fr_tr hF_ (fr_le hFx5_ rfl), ?_⟩
    refine ⟨(1, (lx_nx b_ n_ p_)), ?_, px6_.2⟩
    unfold p_co; rw [p_ad_x px6_.1]; rfl
  obtain ⟨rfl, hIx4_, hFx5_, px6_⟩ := px6_
  have hFx7_ : ai_fr (sx_W vw_142) S0_ Sx3_ := ai_fr_tr hF_ (fr_le hFx5_ rfl)
  have c1_ : ct b_ n_ (lx_nx b_ n_ p_) _ := px6_
  have a1_ := p_ad_c px6_
  have x1_ := xr_fr hx_ hFx5_ rfl rfl rfl rfl rfl rfl rfl rfl rfl
  have st1_ := c1_.2.2.2.2.2.1
  have kd1_ := c1_.2.2.2.2.2.2.2.1
  have hp1_ := c1_.2.2.2.1
  have bx8_ : (-128) ≤ Sx3_.1 10 0 2 ∧ Sx3_.1 10 0 2 ≤ 257 := hIx4_.1 10 0 2 rfl
  refine sm_T_go 4 (c1 := (32, [some (.inr (.inr (some (7, 0)))), some (.inl (S0_.1 10 0 3)), some (.inl (S0_.1 10 0 5)), none], [.inl 64, .inl (Sx3_.1 10 0 2)], Sx3_)) rfl ?_
  refine sm_T_br (a := 0) (z := 18) rfl (fun cx9_ => ?_) (fun cx9_ => ?_)
  · have cx9_ : (Sx3_.1 10 0 2) = 64 := of_decide_eq_true cx9_
    refine sm_T_go 2 (c1 := (54, [some (.inr (.inr (some (7, 0)))), some (.inl (S0_.1 10 0 3)), some (.inl (S0_.1 10 0 5)), none], [.inr (.inr (some (10, 0)))], Sx3_)) rfl ?_
    refine sm_T_calx (d1 := 1) (Q1 := vq_191 b_ n_ (lx_en b_ n_ (lx_nx b_ n_ p_)) Sx3_) (Q2 := vx_191 b_ n_ (lx_en b_ n_ (lx_nx b_ n_ p_)) Sx3_) rfl rfl (by decide) (vc_191 b_ n_ (lx_en b_ n_ (lx_nx b_ n_ p_)) Sx3_ hIx4_ (by exact c1_.1) (by exact c1_.2.1) (by exact c1_.2.2.1) (by exact c1_.2.2.2.2.2.2.1) (by exact (lx_en_le (b := b_) c1_.2.2.2.1).2)) rfl (fun Sx10_ px13_ => ?_) (fun u_ Sx10_ px13_ => ?_)
    · obtain ⟨hIx11_, hFx12_, px13_⟩ := px13_
      refine Or.inr ⟨_, rfl, hIx11_, ai_fr_tr hFx7_ (fr_le hFx12_ rfl), ?_⟩
      refine ⟨(1, (lx_nx b_ n_ (lx_nx b_ n_ p_))), ?_, px13_.2⟩
      unfold p_co; rw [a1_]; show (if _ then _ else _) = _; rw [if_pos (by omega), p_ad_x px13_.1]; rfl
    obtain ⟨rfl, hIx11_, hFx12_, px13_⟩ := px13_
    have hFx14_ : ai_fr (sx_W vw_142) S0_ Sx10_ := ai_fr_tr hFx7_ (fr_le hFx12_ rfl)
    have c2_ : ct b_ n_ (lx_nx b_ n_ (lx_nx b_ n_ p_)) _ := px13_
    have a2_ := p_ad_c px13_
    have x2_ := xr_fr x1_ hFx12_ rfl rfl rfl rfl rfl rfl rfl rfl rfl
    have st2_ := c2_.2.2.2.2.2.1
    have kd2_ := c2_.2.2.2.2.2.2.2.1
    have hp2_ := c2_.2.2.2.1
    refine sm_T_go 3 (c1 := (61, [some (.inr (.inr (some (7, 0)))), some (.inl (S0_.1 10 0 3)), some (.inl (S0_.1 10 0 5)), none], [.inl 8, .inl 1, .inr (.inr (some (7, 0)))], Sx10_)) rfl ?_
    refine sm_T_calx (d1 := 1) (Q1 := vq_122 1 8 b_ n_ (lx_nx b_ n_ (lx_nx b_ n_ p_)) Sx10_) (Q2 := vx_122 1 8 b_ n_ (lx_nx b_ n_ (lx_nx b_ n_ p_)) Sx10_) rfl rfl (by decide) (vc_122 1 8 b_ n_ (lx_nx b_ n_ (lx_nx b_ n_ p_)) Sx10_ hIx11_ (by exact c2_)) rfl (fun Sx15_ px18_ => ?_) (fun u_ Sx15_ px18_ => ?_)
    · obtain ⟨hIx16_, hFx17_, px18_⟩ := px18_
      refine Or.inr ⟨_, rfl, hIx16_, ai_fr_tr hFx14_ (fr_le hFx17_ rfl), ?_⟩
      obtain ⟨e_, w1_, w2_⟩ := px18_
      refine ⟨e_, ?_, w2_⟩
      unfold p_co; rw [a1_]; show (if _ then _ else _) = _; rw [if_pos (by omega), a2_]; show pb (p_nu b_ n_ 1 8 _) _ = _; rw [w1_]; rfl
    obtain ⟨vx20_, rfl, hIx16_, hFx17_, px18_⟩ := px18_
    have hFx19_ : ai_fr (sx_W vw_142) S0_ Sx15_ := ai_fr_tr hFx14_ (fr_le hFx17_ rfl)
    have w3_ := px18_
    have w4_ := p_nu_ok w3_
    have c3_ := ct_fr c2_ hFx17_ rfl rfl rfl rfl rfl rfl rfl
    have x3_ := xr_fr x2_ hFx17_ rfl rfl rfl rfl rfl rfl rfl rfl rfl
    refine sm_T_go 3 (c1 := (69, [some (.inr (.inr (some (7, 0)))), some (.inl (S0_.1 10 0 3)), some (.inl (S0_.1 10 0 5)), some (.inl vx20_)], [.inr (.inr (some (10, 0)))], Sx15_)) rfl ?_
    refine sm_T_calx (d1 := 1) (Q1 := vq_191 b_ n_ (lx_en b_ n_ (lx_nx b_ n_ (lx_nx b_ n_ p_))) Sx15_) (Q2 := vx_191 b_ n_ (lx_en b_ n_ (lx_nx b_ n_ (lx_nx b_ n_ p_))) Sx15_) rfl rfl (by decide) (vc_191 b_ n_ (lx_en b_ n_ (lx_nx b_ n_ (lx_nx b_ n_ p_))) Sx15_ hIx16_ (by exact c3_.1) (by exact c3_.2.1) (by exact c3_.2.2.1) (by exact c3_.2.2.2.2.2.2.1) (by exact (lx_en_le (b := b_) c3_.2.2.2.1).2)) rfl (fun Sx21_ px24_ => ?_) (fun u_ Sx21_ px24_ => ?_)
    · obtain ⟨hIx22_, hFx23_, px24_⟩ := px24_
      refine Or.inr ⟨_, rfl, hIx22_, ai_fr_tr hFx19_ (fr_le hFx23_ rfl), ?_⟩
      refine ⟨(1, (lx_nx b_ n_ (lx_nx b_ n_ (lx_nx b_ n_ p_)))), ?_, px24_.2⟩
      unfold p_co; rw [a1_]; show (if _ then _ else _) = _; rw [if_pos (by omega), a2_]; show pb (p_nu b_ n_ 1 8 _) _ = _; rw [w3_]; show pb (p_ad b_ n_ _) _ = _; rw [p_ad_x px24_.1]; rfl
    obtain ⟨rfl, hIx22_, hFx23_, px24_⟩ := px24_
    have hFx25_ : ai_fr (sx_W vw_142) S0_ Sx21_ := ai_fr_tr hFx19_ (fr_le hFx23_ rfl)
    have c4_ : ct b_ n_ (lx_nx b_ n_ (lx_nx b_ n_ (lx_nx b_ n_ p_))) _ := px24_
    have a4_ := p_ad_c px24_
    have x4_ := xr_fr x3_ hFx23_ rfl rfl rfl rfl rfl rfl rfl rfl rfl
    have st4_ := c4_.2.2.2.2.2.1
    have kd4_ := c4_.2.2.2.2.2.2.2.1
    have hp4_ := c4_.2.2.2.1
    refine sm_T_go 2 (c1 := (74, [some (.inr (.inr (some (7, 0)))), some (.inl (S0_.1 10 0 3)), some (.inl (S0_.1 10 0 5)), some (.inl vx20_)], [.inl vx20_, .inl (S0_.1 10 0 5)], Sx21_)) rfl ?_
    refine sm_T_bin (w := (i_shr (S0_.1 10 0 5) vx20_)) rfl rfl ?_
    have bx26_ : (i_shr (S0_.1 10 0 5) vx20_) = (S0_.1 10 0 5) / 2 ^ (vx20_).toNat := i_shrv (by omega) (by omega) (by omega)
    refine sm_T_b0 (a := 0) (z := 13) rfl (fun cx27_ => ?_) (fun cx27_ => ?_)
    · have cx27_ : (i_shr (S0_.1 10 0 5) vx20_) = 0 := of_decide_eq_true cx27_
      refine sm_T_go 4 (c1 := (93, [some (.inr (.inr (some (7, 0)))), some (.inl (S0_.1 10 0 3)), some (.inl (S0_.1 10 0 5)), some (.inl vx20_)], [.inl (S0_.1 10 0 5), .inl vx20_, .inl 8, .inr (.inr (some (7, 0)))], Sx21_)) rfl ?_
      refine sm_T_cal (d1 := 0) (Q1 := vq_140 8 vx20_ (S0_.1 10 0 5) o_ g_ c_ Sx21_) rfl rfl (by decide) (vc_140 8 vx20_ (S0_.1 10 0 5) o_ g_ c_ Sx21_ hIx22_ (by exact x4_.1) (by decide) (by omega) (by omega) (by exact hl_)) (fun u_ Sx28_ px31_ => ?_)
      obtain ⟨rfl, hIx29_, hFx30_, px31_⟩ := px31_
      have hFx32_ : ai_fr (sx_W vw_142) S0_ Sx28_ := ai_fr_tr hFx25_ (fr_le hFx30_ rfl)
      have e93_ := px31_
      have f93_ := hFx30_.1 7 0 17 rfl
      have c93_ := ct_fr c4_ hFx30_ rfl rfl rfl rfl rfl rfl rfl
      refine sm_T_go 2 (c1 := (98, [some (.inr (.inr (some (7, 0)))), some (.inl (S0_.1 10 0 3)), some (.inl (S0_.1 10 0 5)), some (.inl vx20_)], [.inl vx20_, .inr (.inr (some (7, 0)))], Sx28_)) rfl ?_
      refine sm_T_cal (d1 := 0) (Q1 := vq_138 vx20_ false o_ g_ (cw 8 (lx_vl b_ n_ (lx_nx b_ n_ (lx_nx b_ n_ p_))) (lx_vl b_ n_ p_) :: c_) Sx28_) rfl rfl (by decide) (vc_138 vx20_ false o_ g_ (cw 8 (lx_vl b_ n_ (lx_nx b_ n_ (lx_nx b_ n_ p_))) (lx_vl b_ n_ p_) :: c_) Sx28_ hIx29_ (by rw [← hv0_, ← w4_.2.1]; exact e93_) (by omega) (by exact ho_)) (fun u_ Sx33_ px36_ => ?_)
      obtain ⟨rfl, hIx34_, hFx35_, px36_⟩ := px36_
      have hFx37_ : ai_fr (sx_W vw_142) S0_ Sx33_ := ai_fr_tr hFx32_ (fr_le hFx35_ rfl)
      have e98_ := px36_
      have f98_ := hFx35_.1 7 0 17 rfl
      have c98_ := ct_fr c93_ hFx35_ rfl rfl rfl rfl rfl rfl rfl
      refine sm_T_rv rfl (Or.inl ⟨_, _, rfl, rfl, hIx34_, hFx37_, ?_⟩)
      refine ⟨((lx_nx b_ n_ (lx_nx b_ n_ (lx_nx b_ n_ p_))), lx_vl b_ n_ (lx_nx b_ n_ (lx_nx b_ n_ p_)), [cw 8 (lx_vl b_ n_ (lx_nx b_ n_ (lx_nx b_ n_ p_))) (lx_vl b_ n_ p_)]), ?_, ⟨?_, ?_⟩, c98_⟩
      · unfold p_co; rw [a1_]; show (if _ then _ else _) = _; rw [if_pos (by omega), a2_]; show pb (p_nu b_ n_ 1 8 _) _ = _; rw [w3_]; show pb (p_ad b_ n_ _) _ = _; rw [a4_]; show (if _ then _ else _) = _; rw [if_pos (by rw [← hv0_]; omega), w4_.2.1]
      · rw [w4_.2.1] at e98_; exact e98_
      · rw [f98_, f93_]; exact x4_.2
    · have cx27_ : ¬ ((i_shr (S0_.1 10 0 5) vx20_) = 0) := of_decide_eq_false cx27_
      refine sm_T_go 4 (c1 := (85, [some (.inr (.inr (some (7, 0)))), some (.inl (S0_.1 10 0 3)), some (.inl (S0_.1 10 0 5)), some (.inl vx20_)], [.inl (S0_.1 10 0 3), .inl 12, .inr (.inr (some (10, 0)))], Sx21_)) rfl ?_
      refine sm_T_calx (d1 := 0) (Q1 := vq_187 12 (S0_.1 10 0 3) Sx21_) (Q2 := vx_187 12 (S0_.1 10 0 3) Sx21_) rfl rfl (by decide) (vc_187 12 (S0_.1 10 0 3) Sx21_ hIx22_ (by decide) (by omega)) rfl (fun Sx38_ px41_ => ?_) (fun u_ Sx38_ px41_ => ?_)
      · obtain ⟨hIx39_, hFx40_, px41_⟩ := px41_
        refine Or.inr ⟨_, rfl, hIx39_, ai_fr_tr hFx25_ (fr_le hFx40_ rfl), ?_⟩
        refine ⟨(12, p_), ?_, px41_.1, px41_.2.trans st0_⟩
        unfold p_co; rw [a1_]; show (if _ then _ else _) = _; rw [if_pos (by omega), a2_]; show pb (p_nu b_ n_ 1 8 _) _ = _; rw [w3_]; show pb (p_ad b_ n_ _) _ = _; rw [a4_]; show (if _ then _ else _) = _; rw [if_neg (by rw [← hv0_]; omega)]
      · exact (px41_.2.2.2).elim
  · have cx9_ : ¬ ((Sx3_.1 10 0 2) = 64) := of_decide_eq_false cx9_
    have bx43_ : 0 ≤ Sx3_.1 10 0 3 ∧ Sx3_.1 10 0 3 ≤ 1280 := hIx4_.1 10 0 3 rfl
    refine sm_T_go 6 (c1 := (47, [some (.inr (.inr (some (7, 0)))), some (.inl (S0_.1 10 0 3)), some (.inl (S0_.1 10 0 5)), none], [.inl (Sx3_.1 10 0 3), .inl 2, .inr (.inr (some (10, 0)))], Sx3_)) rfl ?_
    refine sm_T_calx (d1 := 0) (Q1 := vq_187 2 (Sx3_.1 10 0 3) Sx3_) (Q2 := vx_187 2 (Sx3_.1 10 0 3) Sx3_) rfl rfl (by decide) (vc_187 2 (Sx3_.1 10 0 3) Sx3_ hIx4_ (by decide) (by omega)) rfl (fun Sx44_ px47_ => ?_) (fun u_ Sx44_ px47_ => ?_)
    · obtain ⟨hIx45_, hFx46_, px47_⟩ := px47_
      refine Or.inr ⟨_, rfl, hIx45_, ai_fr_tr hFx7_ (fr_le hFx46_ rfl), ?_⟩
      refine ⟨(2, (lx_nx b_ n_ p_)), ?_, px47_.1, px47_.2.trans st1_⟩
      unfold p_co; rw [a1_]; show (if _ then _ else _) = _; rw [if_neg (by omega)]
    · exact (px47_.2.2.2).elim
