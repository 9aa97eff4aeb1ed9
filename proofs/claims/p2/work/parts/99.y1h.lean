/-! M_.due -/
def vw_299 : sx_Wl := ([(13, 10), (13, 11)], [], [])
def vq_299 (s_ : Int) (b_ : Nat → Int) (n_ : Nat) (T_ : Nat) (x_ : pE Nat) (S0_ : sm_S) (u_ : Option sm_V) (S1_ : sm_S) : Prop := ∃ v_ : Int, u_ = some (.inl v_) ∧ gi S1_ ∧ ai_fr (sx_W vw_299) S0_ S1_ ∧ (v_ = (S0_.1 13 0 9) ∧ rg b_ n_ T_ (pb x_ (p_du b_ n_ s_)) S1_)
set_option maxHeartbeats 400000 in
theorem vc_299 {sc_ : Nat × (Nat → Int)} (s_ : Int) (b_ : Nat → Int) (n_ : Nat) (T_ : Nat) (x_ : pE Nat) (S0_ : sm_S) (hI_ : gi S0_) (ht_ : rtab b_ n_ T_ S0_) (hx_ : rg b_ n_ T_ x_ S0_) (hs_ : s_ = 1 ∨ s_ = 2) : sm_T (mt_P sc_) 1 299 (0, [some (.inr (.inr (some (13, 0)))), some (.inl s_)], [], S0_) (fun r_ => ∃ u_ S1_, r_ = (.inl u_, S1_, 0) ∧ vq_299 s_ b_ n_ T_ x_ S0_ u_ S1_) := by
  have hF_ : ai_fr (sx_W vw_299) S0_ S0_ := ai_fr_rf
  have hat_ : ∀ p_ : Nat, x_ = .inr p_ → S0_.2.2.1 119 0 (S0_.1 13 0 9).toNat = r_st (lx_kd b_ n_ p_) ∧ S0_.2.2.1 121 0 (S0_.1 13 0 9).toNat = r_nb (lx_kd b_ n_ p_) (lx_vl b_ n_ p_) ∧ (0 ≤ lx_kd b_ n_ p_ ∧ (lx_kd b_ n_ p_ ≤ 9 ∨ 33 ≤ lx_kd b_ n_ p_)) := by intro p_ e_; rw [e_] at hx_; obtain ⟨i_, h1_, h2_⟩ := hx_.2; have h3_ := rp_at ht_ h2_; rw [show (S0_.1 13 0 9).toNat = i_ by omega]; exact ⟨h3_.1, h3_.2.2.1, lx_kd_r h2_.2.2.1⟩
  have bx1_ : 0 ≤ S0_.1 13 0 9 ∧ S0_.1 13 0 9 ≤ 1280 := hI_.1 13 0 9 rfl
  refine sm_T_go 4 (c1 := (8, [some (.inr (.inr (some (13, 0)))), some (.inl s_)], [.inl (S0_.1 13 0 9), .inr (.inr (some (119, 0)))], S0_)) rfl ?_
  refine sm_T_bald (n := 65537) rfl rfl (by omega) (by omega) ?_
  have bx2_ : (-128) ≤ S0_.2.2.1 119 0 (S0_.1 13 0 9).toNat ∧ S0_.2.2.1 119 0 (S0_.1 13 0 9).toNat ≤ 127 := hI_.2 119 0 _
  refine sm_T_go 1 (c1 := (10, [some (.inr (.inr (some (13, 0)))), some (.inl s_)], [.inl s_, .inl (S0_.2.2.1 119 0 (S0_.1 13 0 9).toNat)], S0_)) rfl ?_
  refine sm_T_br (a := 0) (z := 12) rfl (fun cx3_ => ?_) (fun cx3_ => ?_)
  · have cx3_ : (S0_.2.2.1 119 0 (S0_.1 13 0 9).toNat) = s_ := of_decide_eq_true cx3_
    refine sm_T_go 2 (c1 := (26, [some (.inr (.inr (some (13, 0)))), some (.inl s_)], [.inl (S0_.1 13 0 9)], S0_)) rfl ?_
    refine sm_T_ri rfl ⟨_, _, rfl, _, rfl, hI_, hF_, ?_⟩
    by_cases z_ : S0_.1 13 0 10 = 0
    · obtain ⟨p_, i_, rfl, e1_, e2_⟩ := rg_r hx_ z_
      obtain ⟨q1_, q2_, q3_⟩ := hat_ p_ rfl
      have q4_ := r_st_3 q3_
      have q5_ := rp_at ht_ e2_
      first | (refine ⟨rfl, ?_⟩; rw [pb_r rfl, show p_du b_ n_ s_ p_ = .inr p_ from if_pos (by omega)]; exact hx_) | (refine ⟨f19_, ?_⟩; rw [pb_r rfl, show p_du b_ n_ s_ p_ = .inl (2, p_) from if_neg (by omega)]; rcases e19_ with w_ | w_; (exact absurd z_ w_.1); (refine ⟨?_, ?_, by show (2 : Int) ≠ 0; decide⟩; (rw [w_.2.1, if_neg (by omega)]); (rw [w_.2.2, show (S0_.1 13 0 9).toNat = i_ by omega]; exact q5_.2.1)))
    · obtain ⟨e_, rfl⟩ := rg_w hx_ z_
      first | (exact ⟨rfl, rg_e hx_ rfl rfl⟩) | (rcases e19_ with w_ | w_; (exact ⟨f19_, rg_e hx_ w_.2.1 w_.2.2⟩); (exact absurd w_.1 z_))
  · have cx3_ : ¬ ((S0_.2.2.1 119 0 (S0_.1 13 0 9).toNat) = s_) := of_decide_eq_false cx3_
    refine sm_T_go 4 (c1 := (19, [some (.inr (.inr (some (13, 0)))), some (.inl s_)], [.inl (S0_.1 13 0 9), .inl 2, .inr (.inr (some (13, 0)))], S0_)) rfl ?_
    refine sm_T_cal (d1 := 0) (Q1 := vq_293 2 (S0_.1 13 0 9) S0_) rfl rfl (by decide) (vc_293 2 (S0_.1 13 0 9) S0_ hI_ (by omega) (by omega)) (fun u_ Sx4_ px7_ => ?_)
    obtain ⟨rfl, hIx5_, hFx6_, px7_⟩ := px7_
    have hFx8_ : ai_fr (sx_W vw_299) S0_ Sx4_ := ai_fr_tr hF_ (fr_le hFx6_ rfl)
    have ex9_ : Sx4_.1 13 0 9 = S0_.1 13 0 9 := hFx6_.1 13 0 9 rfl
    have e19_ := px7_
    have f19_ := hFx6_.1 13 0 9 rfl
    have bx10_ : 0 ≤ Sx4_.1 13 0 9 ∧ Sx4_.1 13 0 9 ≤ 1280 := hIx5_.1 13 0 9 rfl
    refine sm_T_go 2 (c1 := (26, [some (.inr (.inr (some (13, 0)))), some (.inl s_)], [.inl (Sx4_.1 13 0 9)], Sx4_)) rfl ?_
    refine sm_T_ri rfl ⟨_, _, rfl, _, rfl, hIx5_, hFx8_, ?_⟩
    by_cases z_ : S0_.1 13 0 10 = 0
    · obtain ⟨p_, i_, rfl, e1_, e2_⟩ := rg_r hx_ z_
      obtain ⟨q1_, q2_, q3_⟩ := hat_ p_ rfl
      have q4_ := r_st_3 q3_
      have q5_ := rp_at ht_ e2_
      first | (refine ⟨rfl, ?_⟩; rw [pb_r rfl, show p_du b_ n_ s_ p_ = .inr p_ from if_pos (by omega)]; exact hx_) | (refine ⟨f19_, ?_⟩; rw [pb_r rfl, show p_du b_ n_ s_ p_ = .inl (2, p_) from if_neg (by omega)]; rcases e19_ with w_ | w_; (exact absurd z_ w_.1); (refine ⟨?_, ?_, by show (2 : Int) ≠ 0; decide⟩; (rw [w_.2.1, if_neg (by omega)]); (rw [w_.2.2, show (S0_.1 13 0 9).toNat = i_ by omega]; exact q5_.2.1)))
    · obtain ⟨e_, rfl⟩ := rg_w hx_ z_
      first | (exact ⟨rfl, rg_e hx_ rfl rfl⟩) | (rcases e19_ with w_ | w_; (exact ⟨f19_, rg_e hx_ w_.2.1 w_.2.2⟩); (exact absurd w_.1 z_))
