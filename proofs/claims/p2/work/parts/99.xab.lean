/-! Reader.readValue -/
def vw_125 : sx_Wl := ([(7, 2), (7, 14), (7, 16), (7, 17), (10, 2), (10, 3), (10, 4), (10, 5), (10, 6), (10, 7), (10, 8)], [74, 77, 78, 79, 80, 81, 82, 83, 84], [])
def vq_125 (so_ : Int) (b_ : Nat → Int) (n_ : Nat) (A_ : pA) (N_ : Nat → Nat) (M_ : Nat) (c_ : List Int) (p_ : Nat) (S0_ : sm_S) (u_ : Option sm_V) (S1_ : sm_S) : Prop := u_ = none ∧ gi S1_ ∧ ai_fr (sx_W vw_125) S0_ S1_ ∧ (∃ r_, p_va b_ n_ A_ M_ so_ c_ p_ = .inr r_ ∧ ct b_ n_ r_.2.2 S1_ ∧ dr b_ n_ r_.1 N_ M_ r_.2.1 S1_ ∧ r_.2.1.length ≤ 3 * r_.2.2 ∧ p_ < r_.2.2)
def vx_125 (so_ : Int) (b_ : Nat → Int) (n_ : Nat) (A_ : pA) (N_ : Nat → Nat) (M_ : Nat) (c_ : List Int) (p_ : Nat) (S0_ : sm_S) (S1_ : sm_S) : Prop := gi S1_ ∧ ai_fr (sx_W vw_125) S0_ S1_ ∧ (∃ e_, p_va b_ n_ A_ M_ so_ c_ p_ = .inl e_ ∧ ter S1_ e_)
set_option maxHeartbeats 400000 in
theorem vc_125 {sc_ : Nat × (Nat → Int)} (so_ : Int) (b_ : Nat → Int) (n_ : Nat) (A_ : pA) (N_ : Nat → Nat) (M_ : Nat) (c_ : List Int) (p_ : Nat) (S0_ : sm_S) (hI_ : gi S0_) (hc_ : ct b_ n_ p_ S0_) (hd_ : dr b_ n_ A_ N_ M_ c_ S0_) (hl_ : c_.length ≤ 3 * p_) (hk0_ : lx_kd b_ n_ p_ ≠ 0) (hso_ : so_ = 1 ∨ so_ = 2) : sm_T (mt_P sc_) 5 125 (0, [some (.inr (.inr (some (7, 0)))), some (.inl so_), none, none, none], [], S0_) (fun r_ => (∃ u_ S1_, r_ = (.inl u_, S1_, 0) ∧ vq_125 so_ b_ n_ A_ N_ M_ c_ p_ S0_ u_ S1_) ∨ ∃ S1_, r_ = (.inr 2, S1_, 1) ∧ vx_125 so_ b_ n_ A_ N_ M_ c_ p_ S0_ S1_) := by
  have hF_ : ai_fr (sx_W vw_125) S0_ S0_ := ai_fr_rf
  have st0_ := hc_.2.2.2.2.2.1
  have kd0_ := hc_.2.2.2.2.2.2.2.1
  have hp0_ := hc_.2.2.2.1
  have hn1_ := hc_.2.2.1
  have hM1_ := hd_.1.2.1.1
  have hA1_ := (hd_.1.2.1.2 M_ (Nat.le_refl _)).1
  refine sm_T_go 2 (c1 := (4, [some (.inr (.inr (some (7, 0)))), some (.inl so_), none, none, none], [.inr (.inr (some (10, 0)))], S0_)) rfl ?_
  refine sm_T_calx (d1 := 1) (Q1 := vq_191 b_ n_ (lx_en b_ n_ p_) S0_) (Q2 := vx_191 b_ n_ (lx_en b_ n_ p_) S0_) rfl rfl (by decide) (vc_191 b_ n_ (lx_en b_ n_ p_) S0_ hI_ (by exact hc_.1) (by exact hc_.2.1) (by exact hc_.2.2.1) (by exact hc_.2.2.2.2.2.2.1) (by exact (lx_en_le (b := b_) hc_.2.2.2.1).2)) rfl (fun Sx1_ px4_ => ?_) (fun u_ Sx1_ px4_ => ?_)
  · obtain ⟨hIx2_, hFx3_, px4_⟩ := px4_
    refine Or.inr ⟨_, rfl, hIx2_, ai_fr_tr hF_ (fr_le hFx3_ rfl), ?_⟩
    refine ⟨(1, (lx_nx b_ n_ p_)), ?_, px4_.2⟩
    unfold p_va; rw [pb_l (p_ad_x px4_.1)]
  obtain ⟨rfl, hIx2_, hFx3_, px4_⟩ := px4_
  have hFx5_ : ai_fr (sx_W vw_125) S0_ Sx1_ := ai_fr_tr hF_ (fr_le hFx3_ rfl)
  have c1_ : ct b_ n_ (lx_nx b_ n_ p_) _ := px4_
  have a1_ := p_ad_c px4_
  have d1_ := dr_fr hd_ hFx3_ rfl rfl rfl rfl rfl rfl rfl rfl rfl rfl
  have k1_ := p_ad_ok hc_.2.2.2.1 (by omega) a1_
  have st1_ := c1_.2.2.2.2.2.1
  have kd1_ := c1_.2.2.2.2.2.2.2.1
  have hp1_ := c1_.2.2.2.1
  have bx6_ : 0 ≤ Sx1_.1 7 0 3 ∧ Sx1_.1 7 0 3 ≤ 16 := hIx2_.1 7 0 3 rfl
  refine sm_T_go 4 (c1 := (14, [some (.inr (.inr (some (7, 0)))), some (.inl so_), none, none, none], [.inl 40, .inl (Sx1_.1 7 0 3), .inr (.inr (some (7, 0)))], Sx1_)) rfl ?_
  refine sm_T_calx (d1 := 2) (Q1 := vq_120 (Sx1_.1 7 0 3) 40 b_ n_ (lx_nx b_ n_ p_) M_ (A_.1 M_) (fun s_ => A_.2.1 (40 * M_ + s_)) Sx1_) (Q2 := vx_120 (Sx1_.1 7 0 3) 40 b_ n_ (lx_nx b_ n_ p_) M_ (A_.1 M_) (fun s_ => A_.2.1 (40 * M_ + s_)) Sx1_) rfl rfl (by decide) (vc_120 (Sx1_.1 7 0 3) 40 b_ n_ (lx_nx b_ n_ p_) M_ (A_.1 M_) (fun s_ => A_.2.1 (40 * M_ + s_)) Sx1_ hIx2_ (by exact c1_) (by exact d1_.1.1) (by exact er_nmr d1_.1 (Nat.le_refl _))) rfl (fun Sx7_ px10_ => ?_) (fun u_ Sx7_ px10_ => ?_)
  · obtain ⟨hIx8_, hFx9_, px10_⟩ := px10_
    refine Or.inr ⟨_, rfl, hIx8_, ai_fr_tr hFx5_ (fr_le hFx9_ rfl), ?_⟩
    obtain ⟨e_, w1_, w2_⟩ := px10_
    refine ⟨e_, ?_, w2_⟩
    unfold p_va; rw [pb_r a1_, pb_l (show p_nw b_ n_ A_ M_ (lx_nx b_ n_ p_) = .inl e_ from w1_)]
  obtain ⟨vx12_, rfl, hIx8_, hFx9_, px10_⟩ := px10_
  have hFx11_ : ai_fr (sx_W vw_125) S0_ Sx7_ := ai_fr_tr hFx5_ (fr_le hFx9_ rfl)
  have ex13_ : Sx7_.1 7 0 3 = Sx1_.1 7 0 3 := hFx9_.1 7 0 3 rfl
  obtain ⟨nv_, nk_, r2_, a2_, c2_⟩ := px10_
  have a2_ : p_nw b_ n_ A_ M_ (lx_nx b_ n_ p_) = .inr r2_ := a2_
  have d2_ := dr_fr d1_ hFx9_ rfl rfl rfl rfl rfl rfl rfl rfl rfl rfl
  have nn_ := p_nn_ok a2_
  have nm_ : nmp b_ n_ (lx_nx b_ n_ p_) := ⟨c1_.2.2.2.1, nk_⟩
  have k2_ := p_ad_ok c1_.2.2.2.1 (by omega) nn_.2.2
  have nK_ : A_.1 M_ < 40 := by omega
  have st2_ := c2_.2.2.2.2.2.1
  have kd2_ := c2_.2.2.2.2.2.2.2.1
  have hp2_ := c2_.2.2.2.1
  refine sm_T_go 2 (c1 := (19, [some (.inr (.inr (some (7, 0)))), some (.inl so_), some (.inl vx12_), none, none], [.inr (.inr (some (7, 0)))], Sx7_)) rfl ?_
  refine sm_T_calx (d1 := 2) (Q1 := vq_123 b_ n_ r2_ Sx7_) (Q2 := vx_123 b_ n_ r2_ Sx7_) rfl rfl (by decide) (vc_123 b_ n_ r2_ Sx7_ hIx8_ (by exact c2_)) rfl (fun Sx14_ px17_ => ?_) (fun u_ Sx14_ px17_ => ?_)
  · obtain ⟨hIx15_, hFx16_, px17_⟩ := px17_
    refine Or.inr ⟨_, rfl, hIx15_, ai_fr_tr hFx11_ (fr_le hFx16_ rfl), ?_⟩
    obtain ⟨e_, w1_, w2_⟩ := px17_
    refine ⟨e_, ?_, w2_⟩
    unfold p_va; rw [pb_r a1_, pb_r a2_, pb_l w1_]
  obtain ⟨vx19_, rfl, hIx15_, hFx16_, px17_⟩ := px17_
  have hFx18_ : ai_fr (sx_W vw_125) S0_ Sx14_ := ai_fr_tr hFx11_ (fr_le hFx16_ rfl)
  obtain ⟨r3_, a3_, c3_⟩ := px17_
  have d3_ := dr_fr d2_ hFx16_ rfl rfl rfl rfl rfl rfl rfl rfl rfl rfl
  have k3_ := p_wi_ok c2_.2.2.2.1 c2_.2.2.2.2.1 a3_
  have k3a : r2_ ≤ r3_ := k3_.1
  have k3b : 1 ≤ vx19_ ∧ vx19_ ≤ 8 := k3_.2.2.2
  have st3_ := c3_.2.2.2.2.2.1
  have kd3_ := c3_.2.2.2.2.2.2.2.1
  have hp3_ := c3_.2.2.2.1
  have bx20_ : 0 ≤ Sx14_.1 10 0 3 ∧ Sx14_.1 10 0 3 ≤ 1280 := hIx15_.1 10 0 3 rfl
  refine sm_T_go 8 (c1 := (38, [some (.inr (.inr (some (7, 0)))), some (.inl so_), some (.inl vx12_), some (.inl vx19_), some (.inl (Sx14_.1 10 0 3))], [.inl 61, .inr (.inr (some (10, 0)))], Sx14_)) rfl ?_
  refine sm_T_calx (d1 := 2) (Q1 := vq_188 61 b_ n_ r3_ Sx14_) (Q2 := vx_188 61 b_ n_ r3_ Sx14_) rfl rfl (by decide) (vc_188 61 b_ n_ r3_ Sx14_ hIx15_ (by exact c3_)) rfl (fun Sx21_ px24_ => ?_) (fun u_ Sx21_ px24_ => ?_)
  · obtain ⟨hIx22_, hFx23_, px24_⟩ := px24_
    refine Or.inr ⟨_, rfl, hIx22_, ai_fr_tr hFx18_ (fr_le hFx23_ rfl), ?_⟩
    obtain ⟨e_, w1_, w2_⟩ := px24_
    refine ⟨e_, ?_, w2_⟩
    unfold p_va; rw [pb_r a1_, pb_r a2_, pb_r a3_, pb_l w1_]
  obtain ⟨rfl, hIx22_, hFx23_, px24_⟩ := px24_
  have hFx25_ : ai_fr (sx_W vw_125) S0_ Sx21_ := ai_fr_tr hFx18_ (fr_le hFx23_ rfl)
  obtain ⟨r4_, a4_, c4_⟩ := px24_
  have k4_ := p_nd_ok (by decide) c3_.2.2.2.1 a4_
  have d4_ := dr_fr d3_ hFx23_ rfl rfl rfl rfl rfl rfl rfl rfl rfl rfl
  have st4_ := c4_.2.2.2.2.2.1
  have kd4_ := c4_.2.2.2.2.2.2.2.1
  have hp4_ := c4_.2.2.2.1
  refine sm_T_go 1 (c1 := (42, [some (.inr (.inr (some (7, 0)))), some (.inl so_), some (.inl vx12_), some (.inl vx19_), some (.inl (Sx14_.1 10 0 3))], [.inr (.inr (some (7, 0)))], Sx21_)) rfl ?_
  refine sm_T_calx (d1 := 4) (Q1 := vq_134 b_ n_ false A_ M_ 0 (fun _ => 0) (p_xd b_ n_ A_ M_ c_ r4_) c_ r4_ Sx21_) (Q2 := vx_134 b_ n_ false A_ M_ 0 (fun _ => 0) (p_xd b_ n_ A_ M_ c_ r4_) c_ r4_ Sx21_) rfl rfl (by decide) (vc_134 b_ n_ false A_ M_ 0 (fun _ => 0) (p_xd b_ n_ A_ M_ c_ r4_) c_ r4_ Sx21_ hIx22_ (by exact c4_) (by exact ⟨fun _ => rfl, fun _ => d4_.2.2.1⟩) (by exact fun _ => d4_.2.2.2) (by omega) (by exact fun _ => d4_.1) (by exact fun z_ => absurd z_ (by decide)) (by exact p_ex_x hn1_ (pd_ok d4_.1.2.1) c4_.2.2.2.1 c4_.2.2.2.2.1 (by omega))) rfl (fun Sx26_ px29_ => ?_) (fun u_ Sx26_ px29_ => ?_)
  · obtain ⟨hIx27_, hFx28_, px29_⟩ := px29_
    refine Or.inr ⟨_, rfl, hIx27_, ai_fr_tr hFx25_ (fr_le hFx28_ rfl), ?_⟩
    obtain ⟨e_, w1_, w2_⟩ := px29_
    refine ⟨e_, ?_, w2_⟩
    unfold p_va; rw [pb_r a1_, pb_r a2_, pb_r a3_, pb_r a4_, pb_l w1_]
  obtain ⟨vx31_, rfl, hIx27_, hFx28_, px29_⟩ := px29_
  have hFx30_ : ai_fr (sx_W vw_125) S0_ Sx26_ := ai_fr_tr hFx25_ (fr_le hFx28_ rfl)
  obtain ⟨x5_, w5_, a5_, g5_, v5_, vb5_, c5_, lt5_, cd5_, l5_⟩ := px29_
  have d5_ : dr b_ n_ A_ N_ M_ x5_.2.2 Sx26_ := ⟨er_fr d4_.1 hFx28_ rfl rfl rfl rfl rfl rfl, nr_fr d4_.2.1 hFx28_ rfl, (hFx28_.2.1 7 0 11 rfl).trans d4_.2.2.1, cd5_ rfl⟩
  have t5_ : h_tp x5_.2.1 = vx31_ := by rw [g5_, v5_]; rfl
  obtain ⟨o5_, h5_, xs5_⟩ := xs_ex hIx27_ d5_.2.2.1 d5_.2.2.2.1 d5_.2.2.2.2
  have m5_ : Sx26_.2.2.1 77 0 (Sx26_.1 7 0 3).toNat = (A_.1 M_ : Int) := by rw [d5_.1.1, Int.toNat_natCast]; exact (d5_.1.2.2 M_ (Nat.le_refl _)).1
  have st5_ := c5_.2.2.2.2.2.1
  have kd5_ := c5_.2.2.2.2.2.2.2.1
  have hp5_ := c5_.2.2.2.1
  refine sm_T_go 1 (c1 := (46, [some (.inr (.inr (some (7, 0)))), some (.inl so_), some (.inl vx12_), some (.inl vx19_), some (.inl (Sx14_.1 10 0 3))], [.inl vx19_, .inl vx31_], Sx26_)) rfl ?_
  refine sm_T_br (a := 0) (z := 14) rfl (fun cx32_ => ?_) (fun cx32_ => ?_)
  · have cx32_ : vx31_ = vx19_ := of_decide_eq_true cx32_
    have bx33_ : 0 ≤ Sx26_.1 7 0 3 ∧ Sx26_.1 7 0 3 ≤ 16 := hIx27_.1 7 0 3 rfl
    refine sm_T_go 6 (c1 := (71, [some (.inr (.inr (some (7, 0)))), some (.inl so_), some (.inl vx12_), some (.inl vx19_), some (.inl (Sx14_.1 10 0 3))], [.inl (Sx26_.1 7 0 3), .inr (.inr (some (77, 0))), .inl 12, .inr (.inr (some (7, 0)))], Sx26_)) rfl ?_
    refine sm_T_iald (n := 17) rfl rfl (by omega) (by omega) ?_
    have bx34_ : 0 ≤ Sx26_.2.2.1 77 0 (Sx26_.1 7 0 3).toNat ∧ Sx26_.2.2.1 77 0 (Sx26_.1 7 0 3).toNat ≤ 40 := hIx27_.2 77 0 _
    refine sm_T_go 1 (c1 := (73, [some (.inr (.inr (some (7, 0)))), some (.inl so_), some (.inl vx12_), some (.inl vx19_), some (.inl (Sx14_.1 10 0 3))], [.inl 0, .inl (Sx26_.2.2.1 77 0 (Sx26_.1 7 0 3).toNat), .inl 12, .inr (.inr (some (7, 0)))], Sx26_)) rfl ?_
    refine sm_T_cal (d1 := 0) (Q1 := vq_140 12 (Sx26_.2.2.1 77 0 (Sx26_.1 7 0 3).toNat) 0 o5_ h5_ x5_.2.2 Sx26_) rfl rfl (by decide) (vc_140 12 (Sx26_.2.2.1 77 0 (Sx26_.1 7 0 3).toNat) 0 o5_ h5_ x5_.2.2 Sx26_ hIx27_ (by exact xs5_) (by decide) (by omega) (by first | decide | omega) (by omega)) (fun u_ Sx35_ px38_ => ?_)
    obtain ⟨rfl, hIx36_, hFx37_, px38_⟩ := px38_
    have hFx39_ : ai_fr (sx_W vw_125) S0_ Sx35_ := ai_fr_tr hFx30_ (fr_le hFx37_ rfl)
    have ex40_ : Sx35_.1 7 0 3 = Sx26_.1 7 0 3 := hFx37_.1 7 0 3 rfl
    have z6_ := px38_
    rw [m5_] at z6_
    have d6_ : dr b_ n_ A_ N_ M_ (cw 12 (A_.1 M_) 0 :: x5_.2.2) Sx35_ := ⟨er_fr d5_.1 hFx37_ rfl rfl rfl rfl rfl rfl, nr_fr d5_.2.1 hFx37_ rfl, (hFx37_.2.1 7 0 11 rfl).trans d5_.2.2.1, z6_.2.2.2.2.2.2 rfl⟩
    have c6_ := ct_fr c5_ hFx37_ rfl rfl rfl rfl rfl rfl rfl
    have st6_ := c6_.2.2.2.2.2.1
    have kd6_ := c6_.2.2.2.2.2.2.2.1
    have hp6_ := c6_.2.2.2.1
    refine sm_T_go 3 (c1 := (82, [some (.inr (.inr (some (7, 0)))), some (.inl so_), some (.inl vx12_), some (.inl vx19_), some (.inl (Sx14_.1 10 0 3))], [.inl 59, .inr (.inr (some (10, 0)))], Sx35_)) rfl ?_
    refine sm_T_calx (d1 := 2) (Q1 := vq_188 59 b_ n_ x5_.1 Sx35_) (Q2 := vx_188 59 b_ n_ x5_.1 Sx35_) rfl rfl (by decide) (vc_188 59 b_ n_ x5_.1 Sx35_ hIx36_ (by exact c6_)) rfl (fun Sx41_ px44_ => ?_) (fun u_ Sx41_ px44_ => ?_)
    · obtain ⟨hIx42_, hFx43_, px44_⟩ := px44_
      refine Or.inr ⟨_, rfl, hIx42_, ai_fr_tr hFx39_ (fr_le hFx43_ rfl), ?_⟩
      obtain ⟨e_, w1_, w2_⟩ := px44_
      refine ⟨e_, ?_, w2_⟩
      unfold p_va; rw [pb_r a1_, pb_r a2_, pb_r a3_, pb_r a4_, pb_r a5_, if_pos (by rw [t5_]; assumption), pb_l w1_]
    obtain ⟨rfl, hIx42_, hFx43_, px44_⟩ := px44_
    have hFx45_ : ai_fr (sx_W vw_125) S0_ Sx41_ := ai_fr_tr hFx39_ (fr_le hFx43_ rfl)
    obtain ⟨r7_, a7_, c7_⟩ := px44_
    have k7_ := p_nd_ok (by decide) c6_.2.2.2.1 a7_
    have d7_ := dr_fr d6_ hFx43_ rfl rfl rfl rfl rfl rfl rfl rfl rfl rfl
    have st7_ := c7_.2.2.2.2.2.1
    have kd7_ := c7_.2.2.2.2.2.2.2.1
    have hp7_ := c7_.2.2.2.1
    refine sm_T_go 5 (c1 := (90, [some (.inr (.inr (some (7, 0)))), some (.inl so_), some (.inl vx12_), some (.inl vx19_), some (.inl (Sx14_.1 10 0 3))], [.inl 0, .inl vx19_, .inl so_, .inl vx12_, .inr (.inr (some (7, 0)))], Sx41_)) rfl ?_
    refine sm_T_cal (d1 := 0) (Q1 := vq_121 vx12_ so_ vx19_ 0 b_ n_ A_ N_ M_ (cw 12 (A_.1 M_) 0 :: x5_.2.2) (lx_nx b_ n_ p_) Sx41_) rfl rfl (by decide) (vc_121 vx12_ so_ vx19_ 0 b_ n_ A_ N_ M_ (cw 12 (A_.1 M_) 0 :: x5_.2.2) (lx_nx b_ n_ p_) Sx41_ hIx42_ (by exact d7_) (by exact nv_) (by exact nm_) (by exact hn1_) (by exact nK_) (by omega) (by omega) (by intro _; omega) (by intro z_; omega) (by omega)) (fun u_ Sx46_ px49_ => ?_)
    obtain ⟨rfl, hIx47_, hFx48_, px49_⟩ := px49_
    have hFx50_ : ai_fr (sx_W vw_125) S0_ Sx46_ := ai_fr_tr hFx45_ (fr_le hFx48_ rfl)
    have dt_ := px49_
    have FT_ := hFx48_
    refine sm_T_rv rfl (Or.inl ⟨_, _, rfl, rfl, hIx47_, hFx50_, ?_⟩)
    exact ⟨_, by unfold p_va; rw [pb_r a1_, pb_r a2_, pb_r a3_, pb_r a4_, pb_r a5_, if_pos (by rw [t5_]; assumption), pb_r a7_], ct_fr c7_ FT_ rfl rfl rfl rfl rfl rfl rfl, dt_, by show x5_.2.2.length + 1 ≤ 3 * r7_; omega, by show p_ < r7_; omega⟩
  · have cx32_ : ¬ (vx31_ = vx19_) := of_decide_eq_false cx32_
    refine sm_T_go 4 (c1 := (57, [some (.inr (.inr (some (7, 0)))), some (.inl so_), some (.inl vx12_), some (.inl vx19_), some (.inl (Sx14_.1 10 0 3))], [.inl (Sx14_.1 10 0 3), .inl 13, .inr (.inr (some (10, 0)))], Sx26_)) rfl ?_
    refine sm_T_calx (d1 := 0) (Q1 := vq_187 13 (Sx14_.1 10 0 3) Sx26_) (Q2 := vx_187 13 (Sx14_.1 10 0 3) Sx26_) rfl rfl (by decide) (vc_187 13 (Sx14_.1 10 0 3) Sx26_ hIx27_ (by decide) (by omega)) rfl (fun Sx51_ px54_ => ?_) (fun u_ Sx51_ px54_ => ?_)
    · obtain ⟨hIx52_, hFx53_, px54_⟩ := px54_
      refine Or.inr ⟨_, rfl, hIx52_, ai_fr_tr hFx30_ (fr_le hFx53_ rfl), ?_⟩
      refine ⟨(13, r3_), ?_, px54_.1, px54_.2.trans st3_⟩
      unfold p_va; rw [pb_r a1_, pb_r a2_, pb_r a3_, pb_r a4_, pb_r a5_]; rw [if_neg (by rw [t5_]; assumption)]
    · exact (px54_.2.2.2).elim

