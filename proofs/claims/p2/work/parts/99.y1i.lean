/-! M_.sign -/
def vw_300 : sx_Wl := ([(13, 9), (13, 10), (13, 11)], [], [])
def vq_300 (s_ : Int) (b_ : Nat → Int) (n_ : Nat) (T_ : Nat) (x_ : pE Nat) (S0_ : sm_S) (u_ : Option sm_V) (S1_ : sm_S) : Prop := u_ = none ∧ gi S1_ ∧ ai_fr (sx_W vw_300) S0_ S1_ ∧ (rg b_ n_ T_ (pb x_ (p_nd b_ n_ s_)) S1_)
set_option maxHeartbeats 400000 in
theorem vc_300 {sc_ : Nat × (Nat → Int)} (s_ : Int) (b_ : Nat → Int) (n_ : Nat) (T_ : Nat) (x_ : pE Nat) (S0_ : sm_S) (hI_ : gi S0_) (ht_ : rtab b_ n_ T_ S0_) (hx_ : rg b_ n_ T_ x_ S0_) (hs_ : 33 ≤ s_) : sm_T (mt_P sc_) 3 300 (0, [some (.inr (.inr (some (13, 0)))), some (.inl s_)], [], S0_) (fun r_ => ∃ u_ S1_, r_ = (.inl u_, S1_, 0) ∧ vq_300 s_ b_ n_ T_ x_ S0_ u_ S1_) := by
  have hF_ : ai_fr (sx_W vw_300) S0_ S0_ := ai_fr_rf
  have hat_ : ∀ p_ : Nat, x_ = .inr p_ → S0_.2.2.1 119 0 (S0_.1 13 0 9).toNat = r_st (lx_kd b_ n_ p_) ∧ S0_.2.2.1 121 0 (S0_.1 13 0 9).toNat = r_nb (lx_kd b_ n_ p_) (lx_vl b_ n_ p_) ∧ (0 ≤ lx_kd b_ n_ p_ ∧ (lx_kd b_ n_ p_ ≤ 9 ∨ 33 ≤ lx_kd b_ n_ p_)) := by intro p_ e_; rw [e_] at hx_; obtain ⟨i_, h1_, h2_⟩ := hx_.2; have h3_ := rp_at ht_ h2_; rw [show (S0_.1 13 0 9).toNat = i_ by omega]; exact ⟨h3_.1, h3_.2.2.1, lx_kd_r h2_.2.2.1⟩
  refine sm_T_go 2 (c1 := (2, [some (.inr (.inr (some (13, 0)))), some (.inl s_)], [.inl s_, .inr (.inr (some (13, 0)))], S0_)) rfl ?_
  refine sm_T_cal (d1 := 0) (Q1 := vq_295 s_ b_ n_ T_ x_ S0_) rfl rfl (by decide) (vc_295 s_ b_ n_ T_ x_ S0_ hI_ (by exact ht_) (by exact hx_) (by exact hs_)) (fun u_ Sx1_ px4_ => ?_)
  obtain ⟨rfl, vx6_, rfl, px4_⟩ := px4_
  have e2_ := px4_
  refine sm_T_b0 (a := 0) (z := 10) rfl (fun cx7_ => ?_) (fun cx7_ => ?_)
  · have cx7_ : vx6_ = 0 := of_decide_eq_true cx7_
    have bx8_ : 0 ≤ S0_.1 13 0 9 ∧ S0_.1 13 0 9 ≤ 1280 := hI_.1 13 0 9 rfl
    refine sm_T_go 4 (c1 := (21, [some (.inr (.inr (some (13, 0)))), some (.inl s_)], [.inl (S0_.1 13 0 9), .inl 2, .inr (.inr (some (13, 0)))], S0_)) rfl ?_
    refine sm_T_cal (d1 := 0) (Q1 := vq_293 2 (S0_.1 13 0 9) S0_) rfl rfl (by decide) (vc_293 2 (S0_.1 13 0 9) S0_ hI_ (by omega) (by omega)) (fun u_ Sx9_ px12_ => ?_)
    obtain ⟨rfl, hIx10_, hFx11_, px12_⟩ := px12_
    have hFx13_ : ai_fr (sx_W vw_300) S0_ Sx9_ := ai_fr_tr hF_ (fr_le hFx11_ rfl)
    have ex14_ : Sx9_.1 13 0 9 = S0_.1 13 0 9 := hFx11_.1 13 0 9 rfl
    have e19_ := px12_
    refine sm_T_rv rfl ⟨_, _, rfl, rfl, hIx10_, hFx13_, ?_⟩
    cases x_ with
    | inl e_ => first | exact e9_ | (rcases e19_ with w_ | w_; (exact rg_e hx_ w_.2.1 w_.2.2); (exact absurd (hx_.1.symm.trans w_.1) hx_.2.2))
    | inr p_ =>
      have q0_ := e2_.2 p_ rfl
      first | (rw [pb_r rfl, show p_nd b_ n_ s_ p_ = p_ad b_ n_ p_ from if_pos (q0_.mp (by omega))]; exact e9_) | (rw [pb_r rfl, show p_nd b_ n_ s_ p_ = .inl (2, p_) from if_neg (fun z_ => by have := q0_.mpr z_; omega)]; obtain ⟨i_, e1_, e3_⟩ := hx_.2; have q5_ := rp_at ht_ e3_; obtain ⟨q1_, q2_, q3_⟩ := hat_ p_ rfl; have q4_ := (r_st_3 q3_).2.2.2.2.2; rcases e19_ with w_ | w_; (exact absurd hx_.1 w_.1); (refine ⟨?_, ?_, by show (2 : Int) ≠ 0; decide⟩; (rw [w_.2.1, if_neg (by omega)]); (rw [w_.2.2, show (S0_.1 13 0 9).toNat = i_ by omega]; exact q5_.2.1)))
  · have cx7_ : ¬ (vx6_ = 0) := of_decide_eq_false cx7_
    refine sm_T_go 1 (c1 := (9, [some (.inr (.inr (some (13, 0)))), some (.inl s_)], [.inr (.inr (some (13, 0)))], S0_)) rfl ?_
    refine sm_T_cal (d1 := 2) (Q1 := vq_297 b_ n_ T_ x_ S0_) rfl rfl (by decide) (vc_297 b_ n_ T_ x_ S0_ hI_ (by exact ht_) (by exact hx_) (by (intro p_ e_; have := (e2_.2 p_ e_).mp (by omega); omega))) (fun u_ Sx15_ px18_ => ?_)
    obtain ⟨rfl, hIx16_, hFx17_, px18_⟩ := px18_
    have hFx19_ : ai_fr (sx_W vw_300) S0_ Sx15_ := ai_fr_tr hF_ (fr_le hFx17_ rfl)
    have e9_ := px18_.1
    refine sm_T_go 1 (c1 := (24, [some (.inr (.inr (some (13, 0)))), some (.inl s_)], [], Sx15_)) rfl ?_
    refine sm_T_rv rfl ⟨_, _, rfl, rfl, hIx16_, hFx19_, ?_⟩
    cases x_ with
    | inl e_ => first | exact e9_ | (rcases e19_ with w_ | w_; (exact rg_e hx_ w_.2.1 w_.2.2); (exact absurd (hx_.1.symm.trans w_.1) hx_.2.2))
    | inr p_ =>
      have q0_ := e2_.2 p_ rfl
      first | (rw [pb_r rfl, show p_nd b_ n_ s_ p_ = p_ad b_ n_ p_ from if_pos (q0_.mp (by omega))]; exact e9_) | (rw [pb_r rfl, show p_nd b_ n_ s_ p_ = .inl (2, p_) from if_neg (fun z_ => by have := q0_.mpr z_; omega)]; obtain ⟨i_, e1_, e3_⟩ := hx_.2; have q5_ := rp_at ht_ e3_; obtain ⟨q1_, q2_, q3_⟩ := hat_ p_ rfl; have q4_ := (r_st_3 q3_).2.2.2.2.2; rcases e19_ with w_ | w_; (exact absurd hx_.1 w_.1); (refine ⟨?_, ?_, by show (2 : Int) ≠ 0; decide⟩; (rw [w_.2.1, if_neg (by omega)]); (rw [w_.2.2, show (S0_.1 13 0 9).toNat = i_ by omega]; exact q5_.2.1)))
