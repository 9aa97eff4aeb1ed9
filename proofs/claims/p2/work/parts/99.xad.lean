/-! Reader.readRegister -/
def vw_126 : sx_Wl := ([(7, 2), (10, 2), (10, 3), (10, 4), (10, 5), (10, 6), (10, 7), (10, 8)], [74, 77, 78, 79, 80, 81], [])
def vq_126 (b_ : Nat → Int) (n_ : Nat) (A_ : pA) (N_ : Nat → Nat) (M_ : Nat) (c_ : List Int) (p_ : Nat) (S0_ : sm_S) (u_ : Option sm_V) (S1_ : sm_S) : Prop := u_ = none ∧ gi S1_ ∧ ai_fr (sx_W vw_126) S0_ S1_ ∧ (∃ r_, p_re b_ n_ A_ M_ c_ p_ = .inr r_ ∧ ct b_ n_ r_.2.2 S1_ ∧ dr b_ n_ r_.1 N_ M_ r_.2.1 S1_ ∧ r_.2.1.length ≤ 3 * r_.2.2 ∧ p_ < r_.2.2)
def vx_126 (b_ : Nat → Int) (n_ : Nat) (A_ : pA) (N_ : Nat → Nat) (M_ : Nat) (c_ : List Int) (p_ : Nat) (S0_ : sm_S) (S1_ : sm_S) : Prop := gi S1_ ∧ ai_fr (sx_W vw_126) S0_ S1_ ∧ (∃ e_, p_re b_ n_ A_ M_ c_ p_ = .inl e_ ∧ ter S1_ e_)
set_option maxHeartbeats 400000 in
theorem vc_126 {sc_ : Nat × (Nat → Int)} (b_ : Nat → Int) (n_ : Nat) (A_ : pA) (N_ : Nat → Nat) (M_ : Nat) (c_ : List Int) (p_ : Nat) (S0_ : sm_S) (hI_ : gi S0_) (hc_ : ct b_ n_ p_ S0_) (hd_ : dr b_ n_ A_ N_ M_ c_ S0_) (hl_ : c_.length ≤ 3 * p_) (hk0_ : lx_kd b_ n_ p_ ≠ 0) : sm_T (mt_P sc_) 3 126 (0, [some (.inr (.inr (some (7, 0)))), none, none, none], [], S0_) (fun r_ => (∃ u_ S1_, r_ = (.inl u_, S1_, 0) ∧ vq_126 b_ n_ A_ N_ M_ c_ p_ S0_ u_ S1_) ∨ ∃ S1_, r_ = (.inr 2, S1_, 1) ∧ vx_126 b_ n_ A_ N_ M_ c_ p_ S0_ S1_) := by
  have hF_ : ai_fr (sx_W vw_126) S0_ S0_ := ai_fr_rf
  have st0_ := hc_.2.2.2.2.2.1
  have kd0_ := hc_.2.2.2.2.2.2.2.1
  have hp0_ := hc_.2.2.2.1
  have hn1_ := hc_.2.2.1
  have hM1_ := hd_.1.2.1.1
  have hA1_ := (hd_.1.2.1.2 M_ (Nat.le_refl _)).1
  refine sm_T_go 2 (c1 := (4, [some (.inr (.inr (some (7, 0)))), none, none, none], [.inr (.inr (some (10, 0)))], S0_)) rfl ?_
  refine sm_T_calx (d1 := 1) (Q1 := vq_191 b_ n_ (lx_en b_ n_ p_) S0_) (Q2 := vx_191 b_ n_ (lx_en b_ n_ p_) S0_) rfl rfl (by decide) (vc_191 b_ n_ (lx_en b_ n_ p_) S0_ hI_ (by exact hc_.1) (by exact hc_.2.1) (by exact hc_.2.2.1) (by exact hc_.2.2.2.2.2.2.1) (by exact (lx_en_le (b := b_) hc_.2.2.2.1).2)) rfl (fun Sx1_ px4_ => ?_) (fun u_ Sx1_ px4_ => ?_)
  · obtain ⟨hIx2_, hFx3_, px4_⟩ := px4_
    refine Or.inr ⟨_, rfl, hIx2_, ai_fr_tr hF_ (fr_le hFx3_ rfl), ?_⟩
    refine ⟨(1, (lx_nx b_ n_ p_)), ?_, px4_.2⟩
    unfold p_re; rw [pb_l (p_ad_x px4_.1)]
  obtain ⟨rfl, hIx2_, hFx3_, px4_⟩ := px4_
  have hFx5_ : ai_fr (sx_W vw_126) S0_ Sx1_ := ai_fr_tr hF_ (fr_le hFx3_ rfl)
  have c1_ : ct b_ n_ (lx_nx b_ n_ p_) _ := px4_
  have a1_ := p_ad_c px4_
  have d1_ := dr_fr hd_ hFx3_ rfl rfl rfl rfl rfl rfl rfl rfl rfl rfl
  have k1_ := p_ad_ok hc_.2.2.2.1 (by omega) a1_
  have st1_ := c1_.2.2.2.2.2.1
  have kd1_ := c1_.2.2.2.2.2.2.2.1
  have hp1_ := c1_.2.2.2.1
  have bx6_ : 0 ≤ Sx1_.1 7 0 3 ∧ Sx1_.1 7 0 3 ≤ 16 := hIx2_.1 7 0 3 rfl
  refine sm_T_go 4 (c1 := (14, [some (.inr (.inr (some (7, 0)))), none, none, none], [.inl 40, .inl (Sx1_.1 7 0 3), .inr (.inr (some (7, 0)))], Sx1_)) rfl ?_
  refine sm_T_calx (d1 := 2) (Q1 := vq_120 (Sx1_.1 7 0 3) 40 b_ n_ (lx_nx b_ n_ p_) M_ (A_.1 M_) (fun s_ => A_.2.1 (40 * M_ + s_)) Sx1_) (Q2 := vx_120 (Sx1_.1 7 0 3) 40 b_ n_ (lx_nx b_ n_ p_) M_ (A_.1 M_) (fun s_ => A_.2.1 (40 * M_ + s_)) Sx1_) rfl rfl (by decide) (vc_120 (Sx1_.1 7 0 3) 40 b_ n_ (lx_nx b_ n_ p_) M_ (A_.1 M_) (fun s_ => A_.2.1 (40 * M_ + s_)) Sx1_ hIx2_ (by exact c1_) (by exact d1_.1.1) (by exact er_nmr d1_.1 (Nat.le_refl _))) rfl (fun Sx7_ px10_ => ?_) (fun u_ Sx7_ px10_ => ?_)
  · obtain ⟨hIx8_, hFx9_, px10_⟩ := px10_
    refine Or.inr ⟨_, rfl, hIx8_, ai_fr_tr hFx5_ (fr_le hFx9_ rfl), ?_⟩
    obtain ⟨e_, w1_, w2_⟩ := px10_
    refine ⟨e_, ?_, w2_⟩
    unfold p_re; rw [pb_r a1_, pb_l (show p_nw b_ n_ A_ M_ (lx_nx b_ n_ p_) = .inl e_ from w1_)]
  obtain ⟨vx12_, rfl, hIx8_, hFx9_, px10_⟩ := px10_
  have hFx11_ : ai_fr (sx_W vw_126) S0_ Sx7_ := ai_fr_tr hFx5_ (fr_le hFx9_ rfl)
  have ex13_ : Sx7_.1 7 0 3 = Sx1_.1 7 0 3 := hFx9_.1 7 0 3 rfl
  obtain ⟨nv_, nk_, r2_, a2_, c2_⟩ := px10_
  have a2_ : p_nw b_ n_ A_ M_ (lx_nx b_ n_ p_) = .inr r2_ := a2_
  have d2_ := dr_fr d1_ hFx9_ rfl rfl rfl rfl rfl rfl rfl rfl rfl rfl
  have nn_ := p_nn_ok a2_
  have nm_ : nmp b_ n_ (lx_nx b_ n_ p_) := ⟨c1_.2.2.2.1, nk_⟩
  have k2_ := p_ad_ok c1_.2.2.2.1 (by omega) nn_.2.2
  have nK_ : A_.1 M_ < 40 := by omega
  have st2_ := c2_.2.2.2.2.2.1
  have kd2_ := c2_.2.2.2.2.2.2.2.1
  have hp2_ := c2_.2.2.2.1
  refine sm_T_go 2 (c1 := (19, [some (.inr (.inr (some (7, 0)))), some (.inl vx12_), none, none], [.inr (.inr (some (7, 0)))], Sx7_)) rfl ?_
  refine sm_T_calx (d1 := 2) (Q1 := vq_123 b_ n_ r2_ Sx7_) (Q2 := vx_123 b_ n_ r2_ Sx7_) rfl rfl (by decide) (vc_123 b_ n_ r2_ Sx7_ hIx8_ (by exact c2_)) rfl (fun Sx14_ px17_ => ?_) (fun u_ Sx14_ px17_ => ?_)
  · obtain ⟨hIx15_, hFx16_, px17_⟩ := px17_
    refine Or.inr ⟨_, rfl, hIx15_, ai_fr_tr hFx11_ (fr_le hFx16_ rfl), ?_⟩
    obtain ⟨e_, w1_, w2_⟩ := px17_
    refine ⟨e_, ?_, w2_⟩
    unfold p_re; rw [pb_r a1_, pb_r a2_, pb_l w1_]
  obtain ⟨vx19_, rfl, hIx15_, hFx16_, px17_⟩ := px17_
  have hFx18_ : ai_fr (sx_W vw_126) S0_ Sx14_ := ai_fr_tr hFx11_ (fr_le hFx16_ rfl)
  obtain ⟨r3_, a3_, c3_⟩ := px17_
  have d3_ := dr_fr d2_ hFx16_ rfl rfl rfl rfl rfl rfl rfl rfl rfl rfl
  have k3_ := p_wi_ok c2_.2.2.2.1 c2_.2.2.2.2.1 a3_
  have k3a : r2_ ≤ r3_ := k3_.1
  have k3b : 1 ≤ vx19_ ∧ vx19_ ≤ 8 := k3_.2.2.2
  have st3_ := c3_.2.2.2.2.2.1
  have kd3_ := c3_.2.2.2.2.2.2.2.1
  have hp3_ := c3_.2.2.2.1
  have sh_ := i_shl1 (e := vx19_) (by omega) (by omega)
  have sp_ := pw_8 vx19_.toNat (by omega)
  have c9_ := c3_
  have d9_ := d3_
  obtain ⟨o9_, h9_, xs9_⟩ := xs_ex hIx15_ d3_.2.2.1 d3_.2.2.2.1 d3_.2.2.2.2
  have m9_ : Sx14_.2.2.1 77 0 (Sx14_.1 7 0 3).toNat = (A_.1 M_ : Int) := by rw [d3_.1.1, Int.toNat_natCast]; exact (d3_.1.2.2 M_ (Nat.le_refl _)).1
  have b9_ : lx_kd b_ n_ r3_ ≠ 61 → p_rb b_ n_ vx19_ r3_ = .inr (r3_, 0) := fun z_ => by unfold p_rb; rw [if_neg z_]
  have z9_ : r3_ ≤ r3_ := Nat.le_refl _
  have bx20_ : (-128) ≤ Sx14_.1 10 0 2 ∧ Sx14_.1 10 0 2 ≤ 257 := hIx15_.1 10 0 2 rfl
  refine sm_T_go 7 (c1 := (34, [some (.inr (.inr (some (7, 0)))), some (.inl vx12_), some (.inl vx19_), some (.inl 0)], [.inl 61, .inl (Sx14_.1 10 0 2)], Sx14_)) rfl ?_
  refine sm_T_br (a := 1) (z := 28) rfl (fun cx21_ => ?_) (fun cx21_ => ?_)
  · have cx21_ : (Sx14_.1 10 0 2) ≠ 61 := of_decide_eq_true cx21_
    have bx22_ : 0 ≤ Sx14_.1 7 0 3 ∧ Sx14_.1 7 0 3 ≤ 16 := hIx15_.1 7 0 3 rfl
    refine sm_T_go 6 (c1 := (73, [some (.inr (.inr (some (7, 0)))), some (.inl vx12_), some (.inl vx19_), some (.inl 0)], [.inl (Sx14_.1 7 0 3), .inr (.inr (some (77, 0))), .inl 13, .inr (.inr (some (7, 0)))], Sx14_)) rfl ?_
    refine sm_T_iald (n := 17) rfl rfl (by omega) (by omega) ?_
    have bx23_ : 0 ≤ Sx14_.2.2.1 77 0 (Sx14_.1 7 0 3).toNat ∧ Sx14_.2.2.1 77 0 (Sx14_.1 7 0 3).toNat ≤ 40 := hIx15_.2 77 0 _
    refine sm_T_go 1 (c1 := (75, [some (.inr (.inr (some (7, 0)))), some (.inl vx12_), some (.inl vx19_), some (.inl 0)], [.inl 0, .inl (Sx14_.2.2.1 77 0 (Sx14_.1 7 0 3).toNat), .inl 13, .inr (.inr (some (7, 0)))], Sx14_)) rfl ?_
    refine sm_T_cal (d1 := 0) (Q1 := vq_140 13 (Sx14_.2.2.1 77 0 (Sx14_.1 7 0 3).toNat) 0 o9_ h9_ c_ Sx14_) rfl rfl (by decide) (vc_140 13 (Sx14_.2.2.1 77 0 (Sx14_.1 7 0 3).toNat) 0 o9_ h9_ c_ Sx14_ hIx15_ (by exact xs9_) (by decide) (by omega) (by first | decide | omega) (by omega)) (fun u_ Sx24_ px27_ => ?_)
    obtain ⟨rfl, hIx25_, hFx26_, px27_⟩ := px27_
    have hFx28_ : ai_fr (sx_W vw_126) S0_ Sx24_ := ai_fr_tr hFx18_ (fr_le hFx26_ rfl)
    have ex29_ : Sx24_.1 7 0 3 = Sx14_.1 7 0 3 := hFx26_.1 7 0 3 rfl
    have ex30_ : Sx24_.1 10 0 2 = Sx14_.1 10 0 2 := hFx26_.1 10 0 2 rfl
    have z6_ := px27_
    rw [m9_] at z6_
    have d6_ : dr b_ n_ A_ N_ M_ (cw 13 (A_.1 M_) 0 :: c_) Sx24_ := ⟨er_fr d9_.1 hFx26_ rfl rfl rfl rfl rfl rfl, nr_fr d9_.2.1 hFx26_ rfl, (hFx26_.2.1 7 0 11 rfl).trans d9_.2.2.1, z6_.2.2.2.2.2.2 rfl⟩
    have c6_ := ct_fr c9_ hFx26_ rfl rfl rfl rfl rfl rfl rfl
    have st6_ := c6_.2.2.2.2.2.1
    have kd6_ := c6_.2.2.2.2.2.2.2.1
    have hp6_ := c6_.2.2.2.1
    refine sm_T_go 3 (c1 := (84, [some (.inr (.inr (some (7, 0)))), some (.inl vx12_), some (.inl vx19_), some (.inl 0)], [.inl 59, .inr (.inr (some (10, 0)))], Sx24_)) rfl ?_
    refine sm_T_calx (d1 := 2) (Q1 := vq_188 59 b_ n_ _ Sx24_) (Q2 := vx_188 59 b_ n_ _ Sx24_) rfl rfl (by decide) (vc_188 59 b_ n_ _ Sx24_ hIx25_ (by exact c6_)) rfl (fun Sx31_ px34_ => ?_) (fun u_ Sx31_ px34_ => ?_)
    · obtain ⟨hIx32_, hFx33_, px34_⟩ := px34_
      refine Or.inr ⟨_, rfl, hIx32_, ai_fr_tr hFx28_ (fr_le hFx33_ rfl), ?_⟩
      obtain ⟨e_, w1_, w2_⟩ := px34_
      refine ⟨e_, ?_, w2_⟩
      unfold p_re; rw [pb_r a1_, pb_r a2_, pb_r a3_]; first | rw [pb_r (b9_ (by omega)), pb_l w1_] | rw [pb_r (show p_rb b_ n_ _ r3_ = .inr _ by unfold p_rb; rw [if_pos (by omega), pb_r a4_, pb_r a5_, pb_r a9_]), pb_l w1_]
    obtain ⟨rfl, hIx32_, hFx33_, px34_⟩ := px34_
    have hFx35_ : ai_fr (sx_W vw_126) S0_ Sx31_ := ai_fr_tr hFx28_ (fr_le hFx33_ rfl)
    obtain ⟨r7_, a7_, c7_⟩ := px34_
    have k7_ := p_nd_ok (by decide) c6_.2.2.2.1 a7_
    have d7_ := dr_fr d6_ hFx33_ rfl rfl rfl rfl rfl rfl rfl rfl rfl rfl
    have st7_ := c7_.2.2.2.2.2.1
    have kd7_ := c7_.2.2.2.2.2.2.2.1
    have hp7_ := c7_.2.2.2.1
    refine sm_T_go 5 (c1 := (92, [some (.inr (.inr (some (7, 0)))), some (.inl vx12_), some (.inl vx19_), some (.inl 0)], [.inl 0, .inl vx19_, .inl 3, .inl vx12_, .inr (.inr (some (7, 0)))], Sx31_)) rfl ?_
    refine sm_T_cal (d1 := 0) (Q1 := vq_121 vx12_ 3 vx19_ 0 b_ n_ A_ N_ M_ (cw 13 (A_.1 M_) 0 :: c_) (lx_nx b_ n_ p_) Sx31_) rfl rfl (by decide) (vc_121 vx12_ 3 vx19_ 0 b_ n_ A_ N_ M_ (cw 13 (A_.1 M_) 0 :: c_) (lx_nx b_ n_ p_) Sx31_ hIx32_ (by exact d7_) (by exact nv_) (by exact nm_) (by exact hn1_) (by exact nK_) (by omega) (by omega) (by intro _; omega) (by intro z_; omega) (by omega)) (fun u_ Sx36_ px39_ => ?_)
    obtain ⟨rfl, hIx37_, hFx38_, px39_⟩ := px39_
    have hFx40_ : ai_fr (sx_W vw_126) S0_ Sx36_ := ai_fr_tr hFx35_ (fr_le hFx38_ rfl)
    have dt_ := px39_
    have FT_ := hFx38_
    refine sm_T_rv rfl (Or.inl ⟨_, _, rfl, rfl, hIx37_, hFx40_, ?_⟩)
    first | (refine ⟨(_, _, r7_), by unfold p_re; rw [pb_r a1_, pb_r a2_, pb_r a3_]; rw [pb_r (b9_ (by omega)), pb_r a7_]; try rfl, ct_fr c7_ FT_ rfl rfl rfl rfl rfl rfl rfl, dt_, by show c_.length + 1 ≤ 3 * r7_; omega, by show p_ < r7_; omega⟩) | (refine ⟨(_, _, r7_), by unfold p_re; rw [pb_r a1_, pb_r a2_, pb_r a3_]; rw [pb_r (show p_rb b_ n_ _ r3_ = .inr _ by unfold p_rb; rw [if_pos (by omega), pb_r a4_, pb_r a5_, pb_r a9_]), pb_r a7_]; try rfl, ct_fr c7_ FT_ rfl rfl rfl rfl rfl rfl rfl, dt_, by show c_.length + 1 ≤ 3 * r7_; omega, by show p_ < r7_; omega⟩)
  · have cx21_ : ¬ ((Sx14_.1 10 0 2) ≠ 61) := of_decide_eq_false cx21_
    refine sm_T_go 2 (c1 := (41, [some (.inr (.inr (some (7, 0)))), some (.inl vx12_), some (.inl vx19_), some (.inl 0)], [.inr (.inr (some (10, 0)))], Sx14_)) rfl ?_
    refine sm_T_calx (d1 := 1) (Q1 := vq_191 b_ n_ (lx_en b_ n_ r3_) Sx14_) (Q2 := vx_191 b_ n_ (lx_en b_ n_ r3_) Sx14_) rfl rfl (by decide) (vc_191 b_ n_ (lx_en b_ n_ r3_) Sx14_ hIx15_ (by exact c3_.1) (by exact c3_.2.1) (by exact c3_.2.2.1) (by exact c3_.2.2.2.2.2.2.1) (by exact (lx_en_le (b := b_) c3_.2.2.2.1).2)) rfl (fun Sx41_ px44_ => ?_) (fun u_ Sx41_ px44_ => ?_)
    · obtain ⟨hIx42_, hFx43_, px44_⟩ := px44_
      refine Or.inr ⟨_, rfl, hIx42_, ai_fr_tr hFx18_ (fr_le hFx43_ rfl), ?_⟩
      refine ⟨(1, (lx_nx b_ n_ r3_)), ?_, px44_.2⟩
      unfold p_re; rw [pb_r a1_, pb_r a2_, pb_r a3_]; show pb (p_rb b_ n_ _ r3_) _ = _; unfold p_rb; rw [if_pos (by omega), pb_l (p_ad_x px44_.1)]; rfl
    obtain ⟨rfl, hIx42_, hFx43_, px44_⟩ := px44_
    have hFx45_ : ai_fr (sx_W vw_126) S0_ Sx41_ := ai_fr_tr hFx18_ (fr_le hFx43_ rfl)
    have c4_ : ct b_ n_ (lx_nx b_ n_ r3_) _ := px44_
    have a4_ := p_ad_c px44_
    have d4_ := dr_fr d3_ hFx43_ rfl rfl rfl rfl rfl rfl rfl rfl rfl rfl
    have k4_ := p_ad_ok c3_.2.2.2.1 (by omega) a4_
    have st4_ := c4_.2.2.2.2.2.1
    have kd4_ := c4_.2.2.2.2.2.2.2.1
    have hp4_ := c4_.2.2.2.1
    refine sm_T_go 4 (c1 := (48, [some (.inr (.inr (some (7, 0)))), some (.inl vx12_), some (.inl vx19_), some (.inl 0)], [.inl vx19_, .inl 1, .inl 0, .inr (.inr (some (7, 0)))], Sx41_)) rfl ?_
    refine sm_T_bin (w := (i_shl 1 vx19_)) rfl rfl ?_
    refine sm_T_go 1 (c1 := (50, [some (.inr (.inr (some (7, 0)))), some (.inl vx12_), some (.inl vx19_), some (.inl 0)], [.inl 1, .inl (i_shl 1 vx19_), .inl 0, .inr (.inr (some (7, 0)))], Sx41_)) rfl ?_
    refine sm_T_bin (w := (i_shl 1 vx19_) - 1) rfl (bi_sub (by omega) (by omega) (by omega)) ?_
    refine sm_T_calx (d1 := 1) (Q1 := vq_122 0 ((i_shl 1 vx19_) - 1) b_ n_ (lx_nx b_ n_ r3_) Sx41_) (Q2 := vx_122 0 ((i_shl 1 vx19_) - 1) b_ n_ (lx_nx b_ n_ r3_) Sx41_) rfl rfl (by decide) (vc_122 0 ((i_shl 1 vx19_) - 1) b_ n_ (lx_nx b_ n_ r3_) Sx41_ hIx42_ (by exact c4_)) rfl (fun Sx46_ px49_ => ?_) (fun u_ Sx46_ px49_ => ?_)
    · obtain ⟨hIx47_, hFx48_, px49_⟩ := px49_
      refine Or.inr ⟨_, rfl, hIx47_, ai_fr_tr hFx45_ (fr_le hFx48_ rfl), ?_⟩
      obtain ⟨e_, w1_, w2_⟩ := px49_
      refine ⟨e_, ?_, w2_⟩
      rw [sh_] at w1_
      unfold p_re; rw [pb_r a1_, pb_r a2_, pb_r a3_]; show pb (p_rb b_ n_ _ r3_) _ = _; unfold p_rb; rw [if_pos (by omega), pb_r a4_, pb_l w1_]; rfl
    obtain ⟨vx51_, rfl, hIx47_, hFx48_, px49_⟩ := px49_
    have hFx50_ : ai_fr (sx_W vw_126) S0_ Sx46_ := ai_fr_tr hFx45_ (fr_le hFx48_ rfl)
    have a5_ := px49_
    rw [sh_] at a5_
    have k5_ := p_nu_ok a5_
    have c5_ := ct_fr c4_ hFx48_ rfl rfl rfl rfl rfl rfl rfl
    have d5_ := dr_fr d4_ hFx48_ rfl rfl rfl rfl rfl rfl rfl rfl rfl rfl
    have v5_ : vx51_ = vx51_ := rfl
    refine sm_T_go 3 (c1 := (59, [some (.inr (.inr (some (7, 0)))), some (.inl vx12_), some (.inl vx19_), some (.inl vx51_)], [.inr (.inr (some (10, 0)))], Sx46_)) rfl ?_
    refine sm_T_calx (d1 := 1) (Q1 := vq_191 b_ n_ (lx_en b_ n_ (lx_nx b_ n_ r3_)) Sx46_) (Q2 := vx_191 b_ n_ (lx_en b_ n_ (lx_nx b_ n_ r3_)) Sx46_) rfl rfl (by decide) (vc_191 b_ n_ (lx_en b_ n_ (lx_nx b_ n_ r3_)) Sx46_ hIx47_ (by exact c5_.1) (by exact c5_.2.1) (by exact c5_.2.2.1) (by exact c5_.2.2.2.2.2.2.1) (by exact (lx_en_le (b := b_) c5_.2.2.2.1).2)) rfl (fun Sx52_ px55_ => ?_) (fun u_ Sx52_ px55_ => ?_)
    · obtain ⟨hIx53_, hFx54_, px55_⟩ := px55_
      refine Or.inr ⟨_, rfl, hIx53_, ai_fr_tr hFx50_ (fr_le hFx54_ rfl), ?_⟩
      refine ⟨(1, (lx_nx b_ n_ (lx_nx b_ n_ r3_))), ?_, px55_.2⟩
      unfold p_re; rw [pb_r a1_, pb_r a2_, pb_r a3_]; show pb (p_rb b_ n_ _ r3_) _ = _; unfold p_rb; rw [if_pos (by omega), pb_r a4_, pb_r a5_, pb_l (p_ad_x px55_.1)]; rfl
    obtain ⟨rfl, hIx53_, hFx54_, px55_⟩ := px55_
    have hFx56_ : ai_fr (sx_W vw_126) S0_ Sx52_ := ai_fr_tr hFx50_ (fr_le hFx54_ rfl)
    have c9_ : ct b_ n_ (lx_nx b_ n_ (lx_nx b_ n_ r3_)) _ := px55_
    have a9_ := p_ad_c px55_
    have d9_ := dr_fr d5_ hFx54_ rfl rfl rfl rfl rfl rfl rfl rfl rfl rfl
    have k9_ := p_ad_ok c5_.2.2.2.1 (by omega) a9_
    have z9_ : r3_ ≤ (lx_nx b_ n_ (lx_nx b_ n_ r3_)) := by omega
    obtain ⟨o9_, h9_, xs9_⟩ := xs_ex hIx53_ d9_.2.2.1 d9_.2.2.2.1 d9_.2.2.2.2
    have m9_ : Sx52_.2.2.1 77 0 (Sx52_.1 7 0 3).toNat = (A_.1 M_ : Int) := by rw [d9_.1.1, Int.toNat_natCast]; exact (d9_.1.2.2 M_ (Nat.le_refl _)).1
    have bx57_ : 0 ≤ Sx52_.1 7 0 3 ∧ Sx52_.1 7 0 3 ≤ 16 := hIx53_.1 7 0 3 rfl
    refine sm_T_go 6 (c1 := (73, [some (.inr (.inr (some (7, 0)))), some (.inl vx12_), some (.inl vx19_), some (.inl vx51_)], [.inl (Sx52_.1 7 0 3), .inr (.inr (some (77, 0))), .inl 13, .inr (.inr (some (7, 0)))], Sx52_)) rfl ?_
    refine sm_T_iald (n := 17) rfl rfl (by omega) (by omega) ?_
    have bx58_ : 0 ≤ Sx52_.2.2.1 77 0 (Sx52_.1 7 0 3).toNat ∧ Sx52_.2.2.1 77 0 (Sx52_.1 7 0 3).toNat ≤ 40 := hIx53_.2 77 0 _
    refine sm_T_go 1 (c1 := (75, [some (.inr (.inr (some (7, 0)))), some (.inl vx12_), some (.inl vx19_), some (.inl vx51_)], [.inl 0, .inl (Sx52_.2.2.1 77 0 (Sx52_.1 7 0 3).toNat), .inl 13, .inr (.inr (some (7, 0)))], Sx52_)) rfl ?_
    refine sm_T_cal (d1 := 0) (Q1 := vq_140 13 (Sx52_.2.2.1 77 0 (Sx52_.1 7 0 3).toNat) 0 o9_ h9_ c_ Sx52_) rfl rfl (by decide) (vc_140 13 (Sx52_.2.2.1 77 0 (Sx52_.1 7 0 3).toNat) 0 o9_ h9_ c_ Sx52_ hIx53_ (by exact xs9_) (by decide) (by omega) (by first | decide | omega) (by omega)) (fun u_ Sx59_ px62_ => ?_)
    obtain ⟨rfl, hIx60_, hFx61_, px62_⟩ := px62_
    have hFx63_ : ai_fr (sx_W vw_126) S0_ Sx59_ := ai_fr_tr hFx56_ (fr_le hFx61_ rfl)
    have ex64_ : Sx59_.1 7 0 3 = Sx52_.1 7 0 3 := hFx61_.1 7 0 3 rfl
    have z6_ := px62_
    rw [m9_] at z6_
    have d6_ : dr b_ n_ A_ N_ M_ (cw 13 (A_.1 M_) 0 :: c_) Sx59_ := ⟨er_fr d9_.1 hFx61_ rfl rfl rfl rfl rfl rfl, nr_fr d9_.2.1 hFx61_ rfl, (hFx61_.2.1 7 0 11 rfl).trans d9_.2.2.1, z6_.2.2.2.2.2.2 rfl⟩
    have c6_ := ct_fr c9_ hFx61_ rfl rfl rfl rfl rfl rfl rfl
    have st6_ := c6_.2.2.2.2.2.1
    have kd6_ := c6_.2.2.2.2.2.2.2.1
    have hp6_ := c6_.2.2.2.1
    refine sm_T_go 3 (c1 := (84, [some (.inr (.inr (some (7, 0)))), some (.inl vx12_), some (.inl vx19_), some (.inl vx51_)], [.inl 59, .inr (.inr (some (10, 0)))], Sx59_)) rfl ?_
    refine sm_T_calx (d1 := 2) (Q1 := vq_188 59 b_ n_ _ Sx59_) (Q2 := vx_188 59 b_ n_ _ Sx59_) rfl rfl (by decide) (vc_188 59 b_ n_ _ Sx59_ hIx60_ (by exact c6_)) rfl (fun Sx65_ px68_ => ?_) (fun u_ Sx65_ px68_ => ?_)
    · obtain ⟨hIx66_, hFx67_, px68_⟩ := px68_
      refine Or.inr ⟨_, rfl, hIx66_, ai_fr_tr hFx63_ (fr_le hFx67_ rfl), ?_⟩
      obtain ⟨e_, w1_, w2_⟩ := px68_
      refine ⟨e_, ?_, w2_⟩
      unfold p_re; rw [pb_r a1_, pb_r a2_, pb_r a3_]; first | rw [pb_r (b9_ (by omega)), pb_l w1_] | rw [pb_r (show p_rb b_ n_ _ r3_ = .inr _ by unfold p_rb; rw [if_pos (by omega), pb_r a4_, pb_r a5_, pb_r a9_]), pb_l w1_]
    obtain ⟨rfl, hIx66_, hFx67_, px68_⟩ := px68_
    have hFx69_ : ai_fr (sx_W vw_126) S0_ Sx65_ := ai_fr_tr hFx63_ (fr_le hFx67_ rfl)
    obtain ⟨r7_, a7_, c7_⟩ := px68_
    have k7_ := p_nd_ok (by decide) c6_.2.2.2.1 a7_
    have d7_ := dr_fr d6_ hFx67_ rfl rfl rfl rfl rfl rfl rfl rfl rfl rfl
    have st7_ := c7_.2.2.2.2.2.1
    have kd7_ := c7_.2.2.2.2.2.2.2.1
    have hp7_ := c7_.2.2.2.1
    refine sm_T_go 5 (c1 := (92, [some (.inr (.inr (some (7, 0)))), some (.inl vx12_), some (.inl vx19_), some (.inl vx51_)], [.inl vx51_, .inl vx19_, .inl 3, .inl vx12_, .inr (.inr (some (7, 0)))], Sx65_)) rfl ?_
    refine sm_T_cal (d1 := 0) (Q1 := vq_121 vx12_ 3 vx19_ vx51_ b_ n_ A_ N_ M_ (cw 13 (A_.1 M_) 0 :: c_) (lx_nx b_ n_ p_) Sx65_) rfl rfl (by decide) (vc_121 vx12_ 3 vx19_ vx51_ b_ n_ A_ N_ M_ (cw 13 (A_.1 M_) 0 :: c_) (lx_nx b_ n_ p_) Sx65_ hIx66_ (by exact d7_) (by exact nv_) (by exact nm_) (by exact hn1_) (by exact nK_) (by omega) (by omega) (by intro _; omega) (by intro z_; omega) (by omega)) (fun u_ Sx70_ px73_ => ?_)
    obtain ⟨rfl, hIx71_, hFx72_, px73_⟩ := px73_
    have hFx74_ : ai_fr (sx_W vw_126) S0_ Sx70_ := ai_fr_tr hFx69_ (fr_le hFx72_ rfl)
    have dt_ := px73_
    have FT_ := hFx72_
    refine sm_T_rv rfl (Or.inl ⟨_, _, rfl, rfl, hIx71_, hFx74_, ?_⟩)
    first | (refine ⟨(_, _, r7_), by unfold p_re; rw [pb_r a1_, pb_r a2_, pb_r a3_]; rw [pb_r (b9_ (by omega)), pb_r a7_]; try rfl, ct_fr c7_ FT_ rfl rfl rfl rfl rfl rfl rfl, dt_, by show c_.length + 1 ≤ 3 * r7_; omega, by show p_ < r7_; omega⟩) | (refine ⟨(_, _, r7_), by unfold p_re; rw [pb_r a1_, pb_r a2_, pb_r a3_]; rw [pb_r (show p_rb b_ n_ _ r3_ = .inr _ by unfold p_rb; rw [if_pos (by omega), pb_r a4_, pb_r a5_, pb_r a9_]), pb_r a7_]; try rfl, ct_fr c7_ FT_ rfl rfl rfl rfl rfl rfl rfl, dt_, by show c_.length + 1 ≤ 3 * r7_; omega, by show p_ < r7_; omega⟩)
