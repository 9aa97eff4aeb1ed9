/-! Reader.readCellInput -/
def vw_141 : sx_Wl := ([(7, 16), (10, 2), (10, 3), (10, 4), (10, 5), (10, 6), (10, 7), (10, 8)], [84], [])
def vq_141 (o_ : List (Int × Nat)) (g_ : List Int) (c_ : List Int) (b_ : Nat → Int) (n_ : Nat) (p_ : Nat) (K_ : Nat) (f_ : Nat → Nat) (S0_ : sm_S) (u_ : Option sm_V) (S1_ : sm_S) : Prop := u_ = none ∧ gi S1_ ∧ ai_fr (sx_W vw_141) S0_ S1_ ∧ (∃ r_, p_pl b_ n_ K_ f_ p_ = .inr r_ ∧ xr true o_ (r_.2.1 :: g_) (r_.2.2 ++ c_) S1_ ∧ ct b_ n_ r_.1 S1_)
def vx_141 (o_ : List (Int × Nat)) (g_ : List Int) (c_ : List Int) (b_ : Nat → Int) (n_ : Nat) (p_ : Nat) (K_ : Nat) (f_ : Nat → Nat) (S0_ : sm_S) (S1_ : sm_S) : Prop := gi S1_ ∧ ai_fr (sx_W vw_141) S0_ S1_ ∧ (∃ e_, p_pl b_ n_ K_ f_ p_ = .inl e_ ∧ ter S1_ e_)
set_option maxHeartbeats 400000 in
theorem vc_141 {sc_ : Nat × (Nat → Int)} (o_ : List (Int × Nat)) (g_ : List Int) (c_ : List Int) (b_ : Nat → Int) (n_ : Nat) (p_ : Nat) (K_ : Nat) (f_ : Nat → Nat) (S0_ : sm_S) (hI_ : gi S0_) (hx_ : xr true o_ g_ c_ S0_) (hc_ : ct b_ n_ p_ S0_) (hk_ : lx_kd b_ n_ p_ = 1) (hr_ : nmr b_ n_ 1 K_ f_ S0_) (hK_ : K_ ≤ 3) (ho_ : g_.length ≤ 487) : sm_T (mt_P sc_) 2 141 (0, [some (.inr (.inr (some (7, 0)))), none], [], S0_) (fun r_ => (∃ u_ S1_, r_ = (.inl u_, S1_, 0) ∧ vq_141 o_ g_ c_ b_ n_ p_ K_ f_ S0_ u_ S1_) ∨ ∃ S1_, r_ = (.inr 2, S1_, 1) ∧ vx_141 o_ g_ c_ b_ n_ p_ K_ f_ S0_ S1_) := by
  have hF_ : ai_fr (sx_W vw_141) S0_ S0_ := ai_fr_rf
  have st0_ := hc_.2.2.2.2.2.1
  have kd0_ := hc_.2.2.2.2.2.2.2.1
  have hp0_ := hc_.2.2.2.1
  have hn1_ := hc_.2.2.1
  have hfb_ := p_fd_b (f_ := fun s_ => nm_q b_ n_ (f_ s_) p_) K_
  refine sm_T_go 4 (c1 := (6, [some (.inr (.inr (some (7, 0)))), none], [.inr (.inr (some (10, 0))), .inl 1, .inr (.inr (some (7, 0)))], S0_)) rfl ?_
  refine sm_T_cal (d1 := 0) (Q1 := vq_189 b_ n_ p_ S0_) rfl rfl (by decide) (vc_189 b_ n_ p_ S0_ hI_ (by exact hc_) (by exact hk_)) (fun u_ Sx1_ px4_ => ?_)
  obtain ⟨rfl, vx6_, rfl, px4_⟩ := px4_
  have e6_ := px4_
  refine sm_T_cal (d1 := 1) (Q1 := vq_119 1 vx6_ b_ n_ 1 K_ f_ p_ S0_) rfl rfl (by decide) (vc_119 1 vx6_ b_ n_ 1 K_ f_ p_ S0_ hI_ (by exact hc_.1) (by exact hn1_) (by rfl) (by exact hr_) (by exact e6_) (by exact ⟨hc_.2.2.2.1, hk_⟩)) (fun u_ Sx7_ px10_ => ?_)
  obtain ⟨rfl, vx12_, rfl, px10_⟩ := px10_
  have e9_ := px10_
  refine sm_T_go 3 (c1 := (15, [some (.inr (.inr (some (7, 0)))), some (.inl vx12_)], [.inl (-1), .inl vx12_], S0_)) rfl ?_
  refine sm_T_br (a := 1) (z := 19) rfl (fun cx13_ => ?_) (fun cx13_ => ?_)
  · have cx13_ : vx12_ ≠ (-1) := of_decide_eq_true cx13_
    have tb_ := st_tb (p_fd (fun s_ => nm_q b_ n_ (f_ s_) p_) K_).toNat (by omega)
    rw [show (((p_fd (fun s_ => nm_q b_ n_ (f_ s_) p_) K_).toNat : Nat) : Int) = p_fd (fun s_ => nm_q b_ n_ (f_ s_) p_) K_ by omega, ← e9_] at tb_
    refine sm_T_go 1 (c1 := (35, [some (.inr (.inr (some (7, 0)))), some (.inl vx12_)], [.inr (.inr (some (7, 0)))], S0_)) rfl ?_
    refine sm_T_nt (u := some (.inr (.inr (some (297, 0))))) (S1 := S0_) rfl rfl rfl ?_
    refine sm_T_go 1 (c1 := (39, [some (.inr (.inr (some (7, 0)))), some (.inl vx12_)], [.inl vx12_, .inr (.inr (some (297, 0))), .inr (.inr (some (7, 0)))], S0_)) rfl ?_
    refine sm_T_nt (u := some (.inl (st_at 1 vx12_))) (S1 := S0_) rfl rfl (nt_st (sc := sc_) (j := 1) (n := 3) (by decide) rfl rfl (by omega) (by omega)) ?_
    refine sm_T_cal (d1 := 0) (Q1 := vq_138 (st_at 1 vx12_) true o_ g_ c_ S0_) rfl rfl (by decide) (vc_138 (st_at 1 vx12_) true o_ g_ c_ S0_ hI_ (by exact hx_.1) (by (rw [tb_]; split; decide; split <;> decide)) (by exact ho_)) (fun u_ Sx14_ px17_ => ?_)
    obtain ⟨rfl, hIx15_, hFx16_, px17_⟩ := px17_
    have hFx18_ : ai_fr (sx_W vw_141) S0_ Sx14_ := ai_fr_tr hF_ (fr_le hFx16_ rfl)
    have e40_ := px17_
    have f40_ := hFx16_.1 7 0 17 rfl
    have c40_ := ct_fr hc_ hFx16_ rfl rfl rfl rfl rfl rfl rfl
    have x40_ : xr true o_ _ c_ _ := ⟨e40_, f40_.trans hx_.2⟩
    refine sm_T_go 2 (c1 := (47, [some (.inr (.inr (some (7, 0)))), some (.inl vx12_)], [.inr (.inr (some (10, 0)))], Sx14_)) rfl ?_
    refine sm_T_calx (d1 := 1) (Q1 := vq_191 b_ n_ (lx_en b_ n_ p_) Sx14_) (Q2 := vx_191 b_ n_ (lx_en b_ n_ p_) Sx14_) rfl rfl (by decide) (vc_191 b_ n_ (lx_en b_ n_ p_) Sx14_ hIx15_ (by exact c40_.1) (by exact c40_.2.1) (by exact c40_.2.2.1) (by exact c40_.2.2.2.2.2.2.1) (by exact (lx_en_le (b := b_) c40_.2.2.2.1).2)) rfl (fun Sx19_ px22_ => ?_) (fun u_ Sx19_ px22_ => ?_)
    · obtain ⟨hIx20_, hFx21_, px22_⟩ := px22_
      refine Or.inr ⟨_, rfl, hIx20_, ai_fr_tr hFx18_ (fr_le hFx21_ rfl), ?_⟩
      refine ⟨(1, (lx_nx b_ n_ p_)), ?_, px22_.2⟩
      unfold p_pl; rw [if_pos hk_, if_neg (by omega), p_ad_x px22_.1]; rfl
    obtain ⟨rfl, hIx20_, hFx21_, px22_⟩ := px22_
    have hFx23_ : ai_fr (sx_W vw_141) S0_ Sx19_ := ai_fr_tr hFx18_ (fr_le hFx21_ rfl)
    have c1_ : ct b_ n_ (lx_nx b_ n_ p_) _ := px22_
    have a1_ := p_ad_c px22_
    have x1_ := xr_fr x40_ hFx21_ rfl rfl rfl rfl rfl rfl rfl rfl rfl
    have st1_ := c1_.2.2.2.2.2.1
    have kd1_ := c1_.2.2.2.2.2.2.2.1
    have hp1_ := c1_.2.2.2.1
    refine sm_T_rv rfl (Or.inl ⟨_, _, rfl, rfl, hIx20_, hFx23_, ?_⟩)
    refine ⟨((lx_nx b_ n_ p_), if p_fd (fun s_ => nm_q b_ n_ (f_ s_) p_) K_ = 0 then 170 else if p_fd (fun s_ => nm_q b_ n_ (f_ s_) p_) K_ = 1 then 204 else 240, []), ?_, ?_, c1_⟩
    · unfold p_pl; rw [if_pos hk_, if_neg (by omega), a1_]; rfl
    · rw [tb_, e9_] at x1_; exact x1_
  · have cx13_ : ¬ (vx12_ ≠ (-1)) := of_decide_eq_false cx13_
    have bx24_ : 0 ≤ S0_.1 10 0 3 ∧ S0_.1 10 0 3 ≤ 1280 := hI_.1 10 0 3 rfl
    refine sm_T_go 6 (c1 := (31, [some (.inr (.inr (some (7, 0)))), some (.inl vx12_)], [.inl (S0_.1 10 0 3), .inl 11, .inr (.inr (some (10, 0)))], S0_)) rfl ?_
    refine sm_T_calx (d1 := 0) (Q1 := vq_187 11 (S0_.1 10 0 3) S0_) (Q2 := vx_187 11 (S0_.1 10 0 3) S0_) rfl rfl (by decide) (vc_187 11 (S0_.1 10 0 3) S0_ hI_ (by decide) (by omega)) rfl (fun Sx25_ px28_ => ?_) (fun u_ Sx25_ px28_ => ?_)
    · obtain ⟨hIx26_, hFx27_, px28_⟩ := px28_
      refine Or.inr ⟨_, rfl, hIx26_, ai_fr_tr hF_ (fr_le hFx27_ rfl), ?_⟩
      refine ⟨(11, p_), ?_, px28_.1, px28_.2.trans st0_⟩
      unfold p_pl; rw [if_pos hk_, if_pos (by omega)]
    · exact (px28_.2.2.2).elim
