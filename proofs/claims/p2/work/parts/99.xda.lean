/-! the class reader: instances; written by wip/p55/gen/vg -/
/-! Reader.readUse -/
def vw_128 : sx_Wl := ([(7, 2), (7, 14), (7, 16), (7, 17), (10, 2), (10, 3), (10, 4), (10, 5), (10, 6), (10, 7), (10, 8)], [74, 77, 78, 79, 80, 81, 82, 83, 84], [])
def vq_128 (b_ : Nat → Int) (n_ : Nat) (A_ : pA) (N_ : Nat → Nat) (M_ : Nat) (c_ : List Int) (p_ : Nat) (S0_ : sm_S) (u_ : Option sm_V) (S1_ : sm_S) : Prop := u_ = none ∧ gi S1_ ∧ ai_fr (sx_W vw_128) S0_ S1_ ∧ (∃ r_, p_us b_ n_ A_ N_ M_ c_ p_ = .inr r_ ∧ ct b_ n_ r_.2.2 S1_ ∧ dr b_ n_ r_.1 N_ M_ r_.2.1 S1_ ∧ r_.2.1.length ≤ 3 * r_.2.2 ∧ p_ < r_.2.2)
def vx_128 (b_ : Nat → Int) (n_ : Nat) (A_ : pA) (N_ : Nat → Nat) (M_ : Nat) (c_ : List Int) (p_ : Nat) (S0_ : sm_S) (S1_ : sm_S) : Prop := gi S1_ ∧ ai_fr (sx_W vw_128) S0_ S1_ ∧ (∃ e_, p_us b_ n_ A_ N_ M_ c_ p_ = .inl e_ ∧ ter S1_ e_)
set_option maxHeartbeats 400000 in
theorem vc_128 {sc_ : Nat × (Nat → Int)} (b_ : Nat → Int) (n_ : Nat) (A_ : pA) (N_ : Nat → Nat) (M_ : Nat) (c_ : List Int) (p_ : Nat) (S0_ : sm_S) (hI_ : gi S0_) (hc_ : ct b_ n_ p_ S0_) (hd_ : dr b_ n_ A_ N_ M_ c_ S0_) (hl_ : c_.length ≤ 3 * p_) (hk0_ : lx_kd b_ n_ p_ ≠ 0) : sm_T (mt_P sc_) 6 128 (0, [some (.inr (.inr (some (7, 0)))), none, none, none, none], [], S0_) (fun r_ => (∃ u_ S1_, r_ = (.inl u_, S1_, 0) ∧ vq_128 b_ n_ A_ N_ M_ c_ p_ S0_ u_ S1_) ∨ ∃ S1_, r_ = (.inr 2, S1_, 1) ∧ vx_128 b_ n_ A_ N_ M_ c_ p_ S0_ S1_) := by
  have hF_ : ai_fr (sx_W vw_128) S0_ S0_ := ai_fr_rf
  have st0_ := hc_.2.2.2.2.2.1
  have kd0_ := hc_.2.2.2.2.2.2.2.1
  have hp0_ := hc_.2.2.2.1
  have hn1_ := hc_.2.2.1
  have hM1_ := hd_.1.2.1.1
  have hA1_ := (hd_.1.2.1.2 M_ (Nat.le_refl _)).1
  refine sm_T_go 2 (c1 := (4, [some (.inr (.inr (some (7, 0)))), none, none, none, none], [.inr (.inr (some (10, 0)))], S0_)) rfl ?_
  refine sm_T_calx (d1 := 1) (Q1 := vq_191 b_ n_ (lx_en b_ n_ p_) S0_) (Q2 := vx_191 b_ n_ (lx_en b_ n_ p_) S0_) rfl rfl (by decide) (vc_191 b_ n_ (lx_en b_ n_ p_) S0_ hI_ (by exact hc_.1) (by exact hc_.2.1) (by exact hc_.2.2.1) (by exact hc_.2.2.2.2.2.2.1) (by exact (lx_en_le (b := b_) hc_.2.2.2.1).2)) rfl (fun Sx1_ px4_ => ?_) (fun u_ Sx1_ px4_ => ?_)
  · obtain ⟨hIx2_, hFx3_, px4_⟩ := px4_
    refine Or.inr ⟨_, rfl, hIx2_, ai_fr_tr hF_ (fr_le hFx3_ rfl), ?_⟩
    refine ⟨(1, (lx_nx b_ n_ p_)), ?_, px4_.2⟩
    unfold p_us; rw [pb_l (p_ad_x px4_.1)]
  obtain ⟨rfl, hIx2_, hFx3_, px4_⟩ := px4_
  have hFx5_ : ai_fr (sx_W vw_128) S0_ Sx1_ := ai_fr_tr hF_ (fr_le hFx3_ rfl)
  have c1_ : ct b_ n_ (lx_nx b_ n_ p_) _ := px4_
  have a1_ := p_ad_c px4_
  have d1_ := dr_fr hd_ hFx3_ rfl rfl rfl rfl rfl rfl rfl rfl rfl rfl
  have k1_ := p_ad_ok hc_.2.2.2.1 (by omega) a1_
  have st1_ := c1_.2.2.2.2.2.1
  have kd1_ := c1_.2.2.2.2.2.2.2.1
  have hp1_ := c1_.2.2.2.1
  have bx6_ : 0 ≤ Sx1_.1 10 0 3 ∧ Sx1_.1 10 0 3 ≤ 1280 := hIx2_.1 10 0 3 rfl
  have bx7_ : 0 ≤ Sx1_.1 7 0 3 ∧ Sx1_.1 7 0 3 ≤ 16 := hIx2_.1 7 0 3 rfl
  refine sm_T_go 8 (c1 := (22, [some (.inr (.inr (some (7, 0)))), some (.inl (Sx1_.1 10 0 3)), none, none, none], [.inl 40, .inl (Sx1_.1 7 0 3), .inr (.inr (some (7, 0)))], Sx1_)) rfl ?_
  refine sm_T_calx (d1 := 2) (Q1 := vq_120 (Sx1_.1 7 0 3) 40 b_ n_ (lx_nx b_ n_ p_) M_ (A_.1 M_) (fun s_ => A_.2.1 (40 * M_ + s_)) Sx1_) (Q2 := vx_120 (Sx1_.1 7 0 3) 40 b_ n_ (lx_nx b_ n_ p_) M_ (A_.1 M_) (fun s_ => A_.2.1 (40 * M_ + s_)) Sx1_) rfl rfl (by decide) (vc_120 (Sx1_.1 7 0 3) 40 b_ n_ (lx_nx b_ n_ p_) M_ (A_.1 M_) (fun s_ => A_.2.1 (40 * M_ + s_)) Sx1_ hIx2_ (by exact c1_) (by exact d1_.1.1) (by exact er_nmr d1_.1 (Nat.le_refl _))) rfl (fun Sx8_ px11_ => ?_) (fun u_ Sx8_ px11_ => ?_)
  · obtain ⟨hIx9_, hFx10_, px11_⟩ := px11_
    refine Or.inr ⟨_, rfl, hIx9_, ai_fr_tr hFx5_ (fr_le hFx10_ rfl), ?_⟩
    obtain ⟨e_, w1_, w2_⟩ := px11_
    refine ⟨e_, ?_, w2_⟩
    unfold p_us; rw [pb_r a1_, pb_l (show p_nw b_ n_ A_ M_ (lx_nx b_ n_ p_) = .inl e_ from w1_)]
  obtain ⟨vx13_, rfl, hIx9_, hFx10_, px11_⟩ := px11_
  have hFx12_ : ai_fr (sx_W vw_128) S0_ Sx8_ := ai_fr_tr hFx5_ (fr_le hFx10_ rfl)
  have ex14_ : Sx8_.1 7 0 3 = Sx1_.1 7 0 3 := hFx10_.1 7 0 3 rfl
  obtain ⟨nv_, nk_, r2_, a2_, c2_⟩ := px11_
  have a2_ : p_nw b_ n_ A_ M_ (lx_nx b_ n_ p_) = .inr r2_ := a2_
  have d2_ := dr_fr d1_ hFx10_ rfl rfl rfl rfl rfl rfl rfl rfl rfl rfl
  have nn_ := p_nn_ok a2_
  have nm_ : nmp b_ n_ (lx_nx b_ n_ p_) := ⟨c1_.2.2.2.1, nk_⟩
  have k2_ := p_ad_ok c1_.2.2.2.1 (by omega) nn_.2.2
  have nK_ : A_.1 M_ < 40 := by omega
  have st2_ := c2_.2.2.2.2.2.1
  have kd2_ := c2_.2.2.2.2.2.2.2.1
  have hp2_ := c2_.2.2.2.1
  have bx15_ : (-128) ≤ Sx8_.1 10 0 2 ∧ Sx8_.1 10 0 2 ≤ 257 := hIx9_.1 10 0 2 rfl
  refine sm_T_go 5 (c1 := (34, [some (.inr (.inr (some (7, 0)))), some (.inl (Sx1_.1 10 0 3)), some (.inl vx13_), none, none], [.inl 1, .inl (Sx8_.1 10 0 2)], Sx8_)) rfl ?_
  refine sm_T_br (a := 0) (z := 18) rfl (fun cx16_ => ?_) (fun cx16_ => ?_)
  · have cx16_ : (Sx8_.1 10 0 2) = 1 := of_decide_eq_true cx16_
    refine sm_T_go 3 (c1 := (57, [some (.inr (.inr (some (7, 0)))), some (.inl (Sx1_.1 10 0 3)), some (.inl vx13_), none, none], [.inr (.inr (some (10, 0))), .inr (.inr (some (7, 0)))], Sx8_)) rfl ?_
    refine sm_T_cal (d1 := 0) (Q1 := vq_189 b_ n_ r2_ Sx8_) rfl rfl (by decide) (vc_189 b_ n_ r2_ Sx8_ hIx9_ (by exact c2_) (by omega)) (fun u_ Sx17_ px20_ => ?_)
    obtain ⟨rfl, vx22_, rfl, px20_⟩ := px20_
    have e57_ := px20_
    have kk2_ : lx_kd b_ n_ r2_ = 1 := by omega
    refine sm_T_cal (d1 := 1) (Q1 := vq_118 vx22_ b_ n_ N_ M_ r2_ Sx8_) rfl rfl (by decide) (vc_118 vx22_ b_ n_ N_ M_ r2_ Sx8_ hIx9_ (by exact c2_.1) (by exact hn1_) (by exact d2_.1.1) (by exact d2_.2.1) (by exact e57_) (by exact ⟨c2_.2.2.2.1, kk2_⟩)) (fun u_ Sx23_ px26_ => ?_)
    obtain ⟨rfl, vx28_, rfl, px26_⟩ := px26_
    have e60_ := px26_
    have hfb_ := p_fd_b (f_ := fun m_ => nm_q b_ n_ (N_ m_) r2_) M_
    have hf0_ : p_fm b_ n_ N_ M_ r2_ = p_fd (fun m_ => nm_q b_ n_ (N_ m_) r2_) M_ := rfl
    refine sm_T_go 3 (c1 := (66, [some (.inr (.inr (some (7, 0)))), some (.inl (Sx1_.1 10 0 3)), some (.inl vx13_), some (.inl vx28_), none], [.inl (-1), .inl vx28_], Sx8_)) rfl ?_
    refine sm_T_br (a := 1) (z := 19) rfl (fun cx29_ => ?_) (fun cx29_ => ?_)
    · have cx29_ : vx28_ ≠ (-1) := of_decide_eq_true cx29_
      refine sm_T_go 2 (c1 := (89, [some (.inr (.inr (some (7, 0)))), some (.inl (Sx1_.1 10 0 3)), some (.inl vx13_), some (.inl vx28_), none], [.inr (.inr (some (10, 0)))], Sx8_)) rfl ?_
      refine sm_T_calx (d1 := 1) (Q1 := vq_191 b_ n_ (lx_en b_ n_ r2_) Sx8_) (Q2 := vx_191 b_ n_ (lx_en b_ n_ r2_) Sx8_) rfl rfl (by decide) (vc_191 b_ n_ (lx_en b_ n_ r2_) Sx8_ hIx9_ (by exact c2_.1) (by exact c2_.2.1) (by exact c2_.2.2.1) (by exact c2_.2.2.2.2.2.2.1) (by exact (lx_en_le (b := b_) c2_.2.2.2.1).2)) rfl (fun Sx30_ px33_ => ?_) (fun u_ Sx30_ px33_ => ?_)
      · obtain ⟨hIx31_, hFx32_, px33_⟩ := px33_
        refine Or.inr ⟨_, rfl, hIx31_, ai_fr_tr hFx12_ (fr_le hFx32_ rfl), ?_⟩
        refine ⟨(1, (lx_nx b_ n_ r2_)), ?_, px33_.2⟩
        unfold p_us; rw [pb_r a1_, pb_r a2_, if_pos kk2_, if_neg (show ¬ p_fm b_ n_ N_ M_ r2_ = -1 by omega), pb_l (p_ad_x px33_.1)]
      obtain ⟨rfl, hIx31_, hFx32_, px33_⟩ := px33_
      have hFx34_ : ai_fr (sx_W vw_128) S0_ Sx30_ := ai_fr_tr hFx12_ (fr_le hFx32_ rfl)
      have c3_ : ct b_ n_ (lx_nx b_ n_ r2_) _ := px33_
      have a3_ := p_ad_c px33_
      have d3_ := dr_fr d2_ hFx32_ rfl rfl rfl rfl rfl rfl rfl rfl rfl rfl
      have k3_ := p_ad_ok c2_.2.2.2.1 (by omega) a3_
      have st3_ := c3_.2.2.2.2.2.1
      have kd3_ := c3_.2.2.2.2.2.2.2.1
      have hp3_ := c3_.2.2.2.1
      refine sm_T_go 3 (c1 := (98, [some (.inr (.inr (some (7, 0)))), some (.inl (Sx1_.1 10 0 3)), some (.inl vx13_), some (.inl vx28_), none], [.inl 40, .inr (.inr (some (10, 0)))], Sx30_)) rfl ?_
      refine sm_T_calx (d1 := 2) (Q1 := vq_188 40 b_ n_ (lx_nx b_ n_ r2_) Sx30_) (Q2 := vx_188 40 b_ n_ (lx_nx b_ n_ r2_) Sx30_) rfl rfl (by decide) (vc_188 40 b_ n_ (lx_nx b_ n_ r2_) Sx30_ hIx31_ (by exact c3_)) rfl (fun Sx35_ px38_ => ?_) (fun u_ Sx35_ px38_ => ?_)
      · obtain ⟨hIx36_, hFx37_, px38_⟩ := px38_
        refine Or.inr ⟨_, rfl, hIx36_, ai_fr_tr hFx34_ (fr_le hFx37_ rfl), ?_⟩
        obtain ⟨e_, w1_, w2_⟩ := px38_
        refine ⟨e_, ?_, w2_⟩
        unfold p_us; rw [pb_r a1_, pb_r a2_, if_pos kk2_, if_neg (show ¬ p_fm b_ n_ N_ M_ r2_ = -1 by omega), pb_r a3_, pb_l w1_]
      obtain ⟨rfl, hIx36_, hFx37_, px38_⟩ := px38_
      have hFx39_ : ai_fr (sx_W vw_128) S0_ Sx35_ := ai_fr_tr hFx34_ (fr_le hFx37_ rfl)
      obtain ⟨r4_, a4_, c4_⟩ := px38_
      have k4_ := p_nd_ok (by decide) c3_.2.2.2.1 a4_
      have d4_ := dr_fr d3_ hFx37_ rfl rfl rfl rfl rfl rfl rfl rfl rfl rfl
      have st4_ := c4_.2.2.2.2.2.1
      have kd4_ := c4_.2.2.2.2.2.2.2.1
      have hp4_ := c4_.2.2.2.1
      obtain ⟨o4_, h4_, xs4_⟩ := xs_ex hIx36_ d4_.2.2.1 d4_.2.2.2.1 d4_.2.2.2.2
      have m4_ : Sx35_.2.2.1 77 0 (Sx35_.1 7 0 3).toNat = (A_.1 M_ : Int) := by rw [d4_.1.1, Int.toNat_natCast]; exact (d4_.1.2.2 M_ (Nat.le_refl _)).1
      have bx40_ : 0 ≤ Sx35_.1 7 0 3 ∧ Sx35_.1 7 0 3 ≤ 16 := hIx36_.1 7 0 3 rfl
      refine sm_T_go 4 (c1 := (109, [some (.inr (.inr (some (7, 0)))), some (.inl (Sx1_.1 10 0 3)), some (.inl vx13_), some (.inl vx28_), none], [.inl (Sx35_.1 7 0 3), .inr (.inr (some (77, 0)))], Sx35_)) rfl ?_
      refine sm_T_iald (n := 17) rfl rfl (by omega) (by omega) ?_
      have bx41_ : 0 ≤ Sx35_.2.2.1 77 0 (Sx35_.1 7 0 3).toNat ∧ Sx35_.2.2.1 77 0 (Sx35_.1 7 0 3).toNat ≤ 40 := hIx36_.2 77 0 _
      refine sm_T_go 5 (c1 := (118, [some (.inr (.inr (some (7, 0)))), some (.inl (Sx1_.1 10 0 3)), some (.inl vx13_), some (.inl vx28_), some (.inl (Sx35_.2.2.1 77 0 (Sx35_.1 7 0 3).toNat))], [.inl 0, .inl (Sx35_.2.2.1 77 0 (Sx35_.1 7 0 3).toNat), .inl 15, .inr (.inr (some (7, 0)))], Sx35_)) rfl ?_
      refine sm_T_cal (d1 := 0) (Q1 := vq_140 15 (Sx35_.2.2.1 77 0 (Sx35_.1 7 0 3).toNat) 0 o4_ h4_ c_ Sx35_) rfl rfl (by decide) (vc_140 15 (Sx35_.2.2.1 77 0 (Sx35_.1 7 0 3).toNat) 0 o4_ h4_ c_ Sx35_ hIx36_ (by exact xs4_) (by decide) (by omega) (by first | decide | omega) (by omega)) (fun u_ Sx42_ px45_ => ?_)
      obtain ⟨rfl, hIx43_, hFx44_, px45_⟩ := px45_
      have hFx46_ : ai_fr (sx_W vw_128) S0_ Sx42_ := ai_fr_tr hFx39_ (fr_le hFx44_ rfl)
      have ex47_ : Sx42_.1 7 0 3 = Sx35_.1 7 0 3 := hFx44_.1 7 0 3 rfl
      have z5_ := px45_
      rw [m4_] at z5_
      have d5_ : dr b_ n_ A_ N_ M_ (cw 15 (A_.1 M_) 0 :: c_) Sx42_ := ⟨er_fr d4_.1 hFx44_ rfl rfl rfl rfl rfl rfl, nr_fr d4_.2.1 hFx44_ rfl, (hFx44_.2.1 7 0 11 rfl).trans d4_.2.2.1, z5_.2.2.2.2.2.2 rfl⟩
      have c5_ := ct_fr c4_ hFx44_ rfl rfl rfl rfl rfl rfl rfl
      have st5_ := c5_.2.2.2.2.2.1
      have kd5_ := c5_.2.2.2.2.2.2.2.1
      have hp5_ := c5_.2.2.2.1
      refine sm_T_go 4 (c1 := (126, [some (.inr (.inr (some (7, 0)))), some (.inl (Sx1_.1 10 0 3)), some (.inl vx13_), some (.inl vx28_), some (.inl (Sx35_.2.2.1 77 0 (Sx35_.1 7 0 3).toNat))], [.inl (Sx1_.1 10 0 3), .inl (Sx35_.2.2.1 77 0 (Sx35_.1 7 0 3).toNat), .inl vx28_, .inr (.inr (some (7, 0)))], Sx42_)) rfl ?_
      refine sm_T_calx (d1 := 5) (Q1 := vq_129 vx28_ (Sx35_.2.2.1 77 0 (Sx35_.1 7 0 3).toNat) (Sx1_.1 10 0 3) b_ n_ A_ N_ M_ (cw 15 (A_.1 M_) 0 :: c_) r4_ (p_fm b_ n_ N_ M_ r2_).toNat (A_.1 M_) (lx_nx b_ n_ p_) Sx42_) (Q2 := vx_129 vx28_ (Sx35_.2.2.1 77 0 (Sx35_.1 7 0 3).toNat) (Sx1_.1 10 0 3) b_ n_ A_ N_ M_ (cw 15 (A_.1 M_) 0 :: c_) r4_ (p_fm b_ n_ N_ M_ r2_).toNat (A_.1 M_) (lx_nx b_ n_ p_) Sx42_) rfl rfl (by decide) (vc_129 vx28_ (Sx35_.2.2.1 77 0 (Sx35_.1 7 0 3).toNat) (Sx1_.1 10 0 3) b_ n_ A_ N_ M_ (cw 15 (A_.1 M_) 0 :: c_) r4_ (p_fm b_ n_ N_ M_ r2_).toNat (A_.1 M_) (lx_nx b_ n_ p_) Sx42_ hIx43_ (by exact c5_) (by exact d5_) (by (show c_.length + 1 ≤ 3 * r4_; omega)) (by omega) (by omega) (by exact m4_) (by exact nK_) (by exact st1_) (by omega)) rfl (fun Sx48_ px51_ => ?_) (fun u_ Sx48_ px51_ => ?_)
      · obtain ⟨hIx49_, hFx50_, px51_⟩ := px51_
        refine Or.inr ⟨_, rfl, hIx49_, ai_fr_tr hFx46_ (fr_le hFx50_ rfl), ?_⟩
        obtain ⟨e_, w1_, w2_⟩ := px51_
        refine ⟨e_, ?_, w2_⟩
        unfold p_us; rw [pb_r a1_, pb_r a2_, if_pos kk2_, if_neg (show ¬ p_fm b_ n_ N_ M_ r2_ = -1 by omega), pb_r a3_, pb_r a4_, pb_l w1_]
      obtain ⟨rfl, hIx49_, hFx50_, px51_⟩ := px51_
      have hFx52_ : ai_fr (sx_W vw_128) S0_ Sx48_ := ai_fr_tr hFx46_ (fr_le hFx50_ rfl)
      obtain ⟨x6_, a6_, c6_, d6_, l6_, lt6_⟩ := px51_
      obtain ⟨o6_, h6_, xs6_⟩ := xs_ex hIx49_ d6_.2.2.1 d6_.2.2.2.1 d6_.2.2.2.2
      have st6_ := c6_.2.2.2.2.2.1
      have kd6_ := c6_.2.2.2.2.2.2.2.1
      have hp6_ := c6_.2.2.2.1
      refine sm_T_go 4 (c1 := (135, [some (.inr (.inr (some (7, 0)))), some (.inl (Sx1_.1 10 0 3)), some (.inl vx13_), some (.inl vx28_), some (.inl (Sx35_.2.2.1 77 0 (Sx35_.1 7 0 3).toNat))], [.inl vx28_, .inl (Sx35_.2.2.1 77 0 (Sx35_.1 7 0 3).toNat), .inl 17, .inr (.inr (some (7, 0)))], Sx48_)) rfl ?_
      refine sm_T_cal (d1 := 0) (Q1 := vq_140 17 (Sx35_.2.2.1 77 0 (Sx35_.1 7 0 3).toNat) vx28_ o6_ h6_ x6_.1 Sx48_) rfl rfl (by decide) (vc_140 17 (Sx35_.2.2.1 77 0 (Sx35_.1 7 0 3).toNat) vx28_ o6_ h6_ x6_.1 Sx48_ hIx49_ (by exact xs6_) (by decide) (by omega) (by first | decide | omega) (by omega)) (fun u_ Sx53_ px56_ => ?_)
      obtain ⟨rfl, hIx54_, hFx55_, px56_⟩ := px56_
      have hFx57_ : ai_fr (sx_W vw_128) S0_ Sx53_ := ai_fr_tr hFx52_ (fr_le hFx55_ rfl)
      have z7_ := px56_
      rw [m4_, e60_] at z7_
      have d7_ : dr b_ n_ A_ N_ M_ (cw 17 (A_.1 M_) (p_fm b_ n_ N_ M_ r2_) :: x6_.1) Sx53_ := ⟨er_fr d6_.1 hFx55_ rfl rfl rfl rfl rfl rfl, nr_fr d6_.2.1 hFx55_ rfl, (hFx55_.2.1 7 0 11 rfl).trans d6_.2.2.1, z7_.2.2.2.2.2.2 rfl⟩
      have c7_ := ct_fr c6_ hFx55_ rfl rfl rfl rfl rfl rfl rfl
      have st7_ := c7_.2.2.2.2.2.1
      have kd7_ := c7_.2.2.2.2.2.2.2.1
      have hp7_ := c7_.2.2.2.1
      refine sm_T_go 3 (c1 := (144, [some (.inr (.inr (some (7, 0)))), some (.inl (Sx1_.1 10 0 3)), some (.inl vx13_), some (.inl vx28_), some (.inl (Sx35_.2.2.1 77 0 (Sx35_.1 7 0 3).toNat))], [.inl 59, .inr (.inr (some (10, 0)))], Sx53_)) rfl ?_
      refine sm_T_calx (d1 := 2) (Q1 := vq_188 59 b_ n_ x6_.2 Sx53_) (Q2 := vx_188 59 b_ n_ x6_.2 Sx53_) rfl rfl (by decide) (vc_188 59 b_ n_ x6_.2 Sx53_ hIx54_ (by exact c7_)) rfl (fun Sx58_ px61_ => ?_) (fun u_ Sx58_ px61_ => ?_)
      · obtain ⟨hIx59_, hFx60_, px61_⟩ := px61_
        refine Or.inr ⟨_, rfl, hIx59_, ai_fr_tr hFx57_ (fr_le hFx60_ rfl), ?_⟩
        obtain ⟨e_, w1_, w2_⟩ := px61_
        refine ⟨e_, ?_, w2_⟩
        unfold p_us; rw [pb_r a1_, pb_r a2_, if_pos kk2_, if_neg (show ¬ p_fm b_ n_ N_ M_ r2_ = -1 by omega), pb_r a3_, pb_r a4_, pb_r a6_, pb_l w1_]
      obtain ⟨rfl, hIx59_, hFx60_, px61_⟩ := px61_
      have hFx62_ : ai_fr (sx_W vw_128) S0_ Sx58_ := ai_fr_tr hFx57_ (fr_le hFx60_ rfl)
      obtain ⟨r8_, a8_, c8_⟩ := px61_
      have k8_ := p_nd_ok (by decide) c7_.2.2.2.1 a8_
      have d8_ := dr_fr d7_ hFx60_ rfl rfl rfl rfl rfl rfl rfl rfl rfl rfl
      have st8_ := c8_.2.2.2.2.2.1
      have kd8_ := c8_.2.2.2.2.2.2.2.1
      have hp8_ := c8_.2.2.2.1
      refine sm_T_go 5 (c1 := (152, [some (.inr (.inr (some (7, 0)))), some (.inl (Sx1_.1 10 0 3)), some (.inl vx13_), some (.inl vx28_), some (.inl (Sx35_.2.2.1 77 0 (Sx35_.1 7 0 3).toNat))], [.inl vx28_, .inl 0, .inl 5, .inl vx13_, .inr (.inr (some (7, 0)))], Sx58_)) rfl ?_
      refine sm_T_cal (d1 := 0) (Q1 := vq_121 vx13_ 5 0 vx28_ b_ n_ A_ N_ M_ (cw 17 (A_.1 M_) (p_fm b_ n_ N_ M_ r2_) :: x6_.1) (lx_nx b_ n_ p_) Sx58_) rfl rfl (by decide) (vc_121 vx13_ 5 0 vx28_ b_ n_ A_ N_ M_ (cw 17 (A_.1 M_) (p_fm b_ n_ N_ M_ r2_) :: x6_.1) (lx_nx b_ n_ p_) Sx58_ hIx59_ (by exact d8_) (by exact nv_) (by exact nm_) (by exact hn1_) (by exact nK_) (by omega) (by omega) (by intro z_; exact absurd rfl z_) (by intro _; omega) (by omega)) (fun u_ Sx63_ px66_ => ?_)
      obtain ⟨rfl, hIx64_, hFx65_, px66_⟩ := px66_
      have hFx67_ : ai_fr (sx_W vw_128) S0_ Sx63_ := ai_fr_tr hFx62_ (fr_le hFx65_ rfl)
      have dt_ := px66_
      have FT_ := hFx65_
      refine sm_T_rv rfl (Or.inl ⟨_, _, rfl, rfl, hIx64_, hFx67_, ?_⟩)
      rw [e60_] at dt_
      exact ⟨_, by unfold p_us; rw [pb_r a1_, pb_r a2_, if_pos kk2_, if_neg (show ¬ p_fm b_ n_ N_ M_ r2_ = -1 by omega), pb_r a3_, pb_r a4_, pb_r a6_, pb_r a8_], ct_fr c8_ FT_ rfl rfl rfl rfl rfl rfl rfl, dt_, by show x6_.1.length + 1 ≤ 3 * r8_; omega, by show p_ < r8_; omega⟩
    · have cx29_ : ¬ (vx28_ ≠ (-1)) := of_decide_eq_false cx29_
      have bx68_ : 0 ≤ Sx8_.1 10 0 3 ∧ Sx8_.1 10 0 3 ≤ 1280 := hIx9_.1 10 0 3 rfl
      refine sm_T_go 6 (c1 := (82, [some (.inr (.inr (some (7, 0)))), some (.inl (Sx1_.1 10 0 3)), some (.inl vx13_), some (.inl vx28_), none], [.inl (Sx8_.1 10 0 3), .inl 11, .inr (.inr (some (10, 0)))], Sx8_)) rfl ?_
      refine sm_T_calx (d1 := 0) (Q1 := vq_187 11 (Sx8_.1 10 0 3) Sx8_) (Q2 := vx_187 11 (Sx8_.1 10 0 3) Sx8_) rfl rfl (by decide) (vc_187 11 (Sx8_.1 10 0 3) Sx8_ hIx9_ (by decide) (by omega)) rfl (fun Sx69_ px72_ => ?_) (fun u_ Sx69_ px72_ => ?_)
      · obtain ⟨hIx70_, hFx71_, px72_⟩ := px72_
        refine Or.inr ⟨_, rfl, hIx70_, ai_fr_tr hFx12_ (fr_le hFx71_ rfl), ?_⟩
        refine ⟨(11, r2_), ?_, px72_.1, px72_.2.trans st2_⟩
        unfold p_us; rw [pb_r a1_, pb_r a2_, if_pos kk2_, if_pos (by omega)]
      · exact (px72_.2.2.2).elim
  · have cx16_ : ¬ ((Sx8_.1 10 0 2) = 1) := of_decide_eq_false cx16_
    have bx74_ : 0 ≤ Sx8_.1 10 0 3 ∧ Sx8_.1 10 0 3 ≤ 1280 := hIx9_.1 10 0 3 rfl
    refine sm_T_go 6 (c1 := (49, [some (.inr (.inr (some (7, 0)))), some (.inl (Sx1_.1 10 0 3)), some (.inl vx13_), none, none], [.inl (Sx8_.1 10 0 3), .inl 2, .inr (.inr (some (10, 0)))], Sx8_)) rfl ?_
    refine sm_T_calx (d1 := 0) (Q1 := vq_187 2 (Sx8_.1 10 0 3) Sx8_) (Q2 := vx_187 2 (Sx8_.1 10 0 3) Sx8_) rfl rfl (by decide) (vc_187 2 (Sx8_.1 10 0 3) Sx8_ hIx9_ (by decide) (by omega)) rfl (fun Sx75_ px78_ => ?_) (fun u_ Sx75_ px78_ => ?_)
    · obtain ⟨hIx76_, hFx77_, px78_⟩ := px78_
      refine Or.inr ⟨_, rfl, hIx76_, ai_fr_tr hFx12_ (fr_le hFx77_ rfl), ?_⟩
      refine ⟨(2, r2_), ?_, px78_.1, px78_.2.trans st2_⟩
      unfold p_us; rw [pb_r a1_, pb_r a2_, if_neg (by omega)]
    · exact (px78_.2.2.2).elim
