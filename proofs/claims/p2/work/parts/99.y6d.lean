/-! M_.settleAll -/
def vw_316 : sx_Wl := ([(13, 10), (13, 11), (13, 32), (13, 33), (13, 34)], [138, 139], [])
def vq_316 (b_ : Nat → Int) (n_ : Nat) (T_ : Nat) (mo_ : Int) (p_ : Nat) (y_ : pE pO) (S0_ : sm_S) (u_ : Option sm_V) (S1_ : sm_S) : Prop := u_ = none ∧ gi S1_ ∧ ai_fr (sx_W vw_316) S0_ S1_ ∧ (ry b_ n_ T_ mo_ p_ (pb y_ (p_sa2 mo_)) S1_)
set_option maxHeartbeats 400000 in
theorem vl_316 {sc_ : Nat × (Nat → Int)} (b_ : Nat → Int) (n_ : Nat) (T_ : Nat) (mo_ : Int) (p_ : Nat) (y_ : pE pO) (S0_ : sm_S) (ht_ : rtab b_ n_ T_ S0_) (hy_ : ry b_ n_ T_ mo_ p_ y_ S0_) (hmo_ : mo_ = 0 ∨ mo_ = 2) : ∀ nn_ : Nat, (∀  (S_ : sm_S), gi S_ → ai_fr (sx_W vw_316) S0_ S_ → ((∃ y1_, ry b_ n_ T_ mo_ p_ y1_ S_ ∧ pb y_ (p_sa2 mo_) = pb y1_ (p_sa2 mo_) ∧ ∀ s_, y1_ = .inr s_ → o_tp s_.1 < 1) ∧ True) → (((S_.1 13 0 32)).toNat) < nn_ → sm_T (mt_P sc_) 3 316 (5, [some (.inr (.inr (some (13, 0))))], [], S_) (fun r_ => ∃ u_ S1_, r_ = (.inl u_, S1_, 0) ∧ vq_316 b_ n_ T_ mo_ p_ y_ S0_ u_ S1_)) := by
  intro nn_
  induction nn_ with
  | zero => exact fun  _ _ _ _ h_ => absurd h_ (Nat.not_lt_zero _)
  | succ nn_ ih_ =>
    rintro  S_ hI_ hF_ ⟨h1_, -⟩ hm_
    obtain ⟨y1_, z1_, z2_, z3_⟩ := h1_
    have ht1_ := rtab_fr ht_ hF_ rfl rfl rfl rfl rfl
    refine sm_T_go 1 (c1 := (6, [some (.inr (.inr (some (13, 0))))], [.inr (.inr (some (13, 0)))], S_)) rfl ?_
    refine sm_T_cal (d1 := 0) (Q1 := vq_292  S_) rfl rfl (by decide) (vc_292  S_ hI_ ) (fun u_ Sx1_ px4_ => ?_)
    obtain ⟨rfl, vx6_, rfl, px4_⟩ := px4_
    have e1x := px4_
    refine sm_T_b0 (a := 0) (z := 24) rfl (fun cx7_ => ?_) (fun cx7_ => ?_)
    · have cx7_ : vx6_ = 0 := of_decide_eq_true cx7_
      refine sm_T_rv rfl ⟨_, _, rfl, rfl, hI_, hF_, ?_⟩
      rw [z2_]
      first | (rw [pb_r rfl, show p_sa2 mo_ s_ = .inr s_ from p_sa_st otp1_ (fun z_ => by have := wtp_.mpr z_; omega)]; exact z1_) | (obtain ⟨e_, rfl⟩ := ry_w z1_ (fun z_ => by rw [if_pos z_] at e1x; omega); exact z1_)
    · have cx7_ : ¬ (vx6_ = 0) := of_decide_eq_false cx7_
      have hf0_ : S_.1 13 0 10 = 0 := by by_cases z_ : S_.1 13 0 10 = 0; exact z_; (rw [if_neg z_] at e1x; omega)
      obtain ⟨s_, rfl⟩ := ry_r z1_ hf0_
      obtain ⟨⟨hg_, ⟨w0_, hw_, hwl_⟩, hop_, hv_, hmo1_⟩, hs_⟩ := id z1_
      have hwl_ : wl b_ n_ T_ s_.1 w0_ := by rcases hwl_ with z_ | z_; (exact absurd z_.1 (by decide)); (exact z_.2)
      have wtp_ := (wl_tp hwl_ hs_.1).2.2.2.1
      have hwx_ := hw_.1
      have otp1_ := z3_ s_ rfl
      refine sm_T_go 1 (c1 := (13, [some (.inr (.inr (some (13, 0))))], [.inr (.inr (some (13, 0)))], S_)) rfl ?_
      refine sm_T_cal (d1 := 0) (Q1 := vq_312 w0_ S_) rfl rfl (by decide) (vc_312 w0_ S_ hI_ (by exact hw_)) (fun u_ Sx8_ px11_ => ?_)
      obtain ⟨rfl, vx13_, rfl, px11_⟩ := px11_
      have e13_ := px11_
      refine sm_T_go 1 (c1 := (18, [some (.inr (.inr (some (13, 0))))], [.inl 58, .inl vx13_], S_)) rfl ?_
      refine sm_T_br (a := 1) (z := 15) rfl (fun cx14_ => ?_) (fun cx14_ => ?_)
      · have cx14_ : vx13_ ≠ 58 := of_decide_eq_true cx14_
        refine sm_T_rv rfl ⟨_, _, rfl, rfl, hI_, hF_, ?_⟩
        rw [z2_]
        first | (rw [pb_r rfl, show p_sa2 mo_ s_ = .inr s_ from p_sa_st otp1_ (fun z_ => by have := wtp_.mpr z_; omega)]; exact z1_) | (obtain ⟨e_, rfl⟩ := ry_w z1_ (fun z_ => by rw [if_pos z_] at e1x; omega); exact z1_)
      · have cx14_ : ¬ (vx13_ ≠ 58) := of_decide_eq_false cx14_
        have otp_ : o_tp s_.1 = -4 := wtp_.mp (by omega)
        obtain ⟨so_, sg_, sc_⟩ := s_
        obtain ⟨k1_, q1_, o2_, ho2_, hk2_⟩ := o_tp_c (o_ := so_) (by intro z_; have z2_ : o_tp so_ = -4 := otp_; omega)
        subst ho2_
        have hk3_ : k1_ = -4 := otp_
        subst hk3_
        obtain ⟨x1_, x2_, x3_, g2_, hg2_⟩ := s_ok_3 hs_
        subst hg2_
        have wlen : 1 ≤ S_.1 13 0 32 := by have := (wl_len hwl_).2; simp only [List.length_cons] at this; omega
        refine sm_T_go 1 (c1 := (22, [some (.inr (.inr (some (13, 0))))], [.inr (.inr (some (13, 0)))], S_)) rfl ?_
        refine sm_T_cal (d1 := 1) (Q1 := vq_314 b_ n_ T_ mo_ p_ q1_ o2_ x1_ x2_ x3_ g2_ sc_ S_) rfl rfl (by decide) (vc_314 b_ n_ T_ mo_ p_ q1_ o2_ x1_ x2_ x3_ g2_ sc_ S_ hI_ (by exact ht1_) (by exact z1_) (by exact hmo_)) (fun u_ Sx15_ px18_ => ?_)
        obtain ⟨rfl, hIx16_, hFx17_, px18_⟩ := px18_
        have hFx19_ : ai_fr (sx_W vw_316) S0_ Sx15_ := ai_fr_tr hF_ (fr_le hFx17_ rfl)
        have e22_ := px18_
        have ht2_ := rtab_fr ht1_ hFx17_ rfl rfl rfl rfl rfl
        refine sm_T_go 2 (c1 := (27, [some (.inr (.inr (some (13, 0))))], [.inl 1, .inr (.inr (some (13, 0)))], Sx15_)) rfl ?_
        refine sm_T_cal (d1 := 2) (Q1 := vq_315 1 b_ n_ T_ mo_ p_ (p_ch2 q1_ o2_ (x1_ :: x2_ :: x3_ :: g2_) sc_) Sx15_) rfl rfl (by decide) (vc_315 1 b_ n_ T_ mo_ p_ (p_ch2 q1_ o2_ (x1_ :: x2_ :: x3_ :: g2_) sc_) Sx15_ hIx16_ (by exact ht2_) (by exact e22_.1) (by decide) (by exact hmo_)) (fun u_ Sx20_ px23_ => ?_)
        obtain ⟨rfl, hIx21_, hFx22_, px23_⟩ := px23_
        have hFx24_ : ai_fr (sx_W vw_316) S0_ Sx20_ := ai_fr_tr hFx19_ (fr_le hFx22_ rfl)
        have e27_ := px23_
        refine sm_T_go 1 (c1 := (5, [some (.inr (.inr (some (13, 0))))], [], Sx20_)) rfl ?_
        refine ih_  Sx20_ hIx21_ hFx24_ ⟨?_, trivial⟩ ?_
        · exact ⟨_, e27_.1, by rw [z2_, pb_r rfl, sa2_ch, sa2_se], fun s_ hs_ => se2_lt e22_.1 hs_⟩
        · (have := e22_.2); (have := e27_.2); omega
set_option maxHeartbeats 400000 in
theorem vc_316 {sc_ : Nat × (Nat → Int)} (b_ : Nat → Int) (n_ : Nat) (T_ : Nat) (mo_ : Int) (p_ : Nat) (y_ : pE pO) (S0_ : sm_S) (hI_ : gi S0_) (ht_ : rtab b_ n_ T_ S0_) (hy_ : ry b_ n_ T_ mo_ p_ y_ S0_) (hmo_ : mo_ = 0 ∨ mo_ = 2) : sm_T (mt_P sc_) 3 316 (0, [some (.inr (.inr (some (13, 0))))], [], S0_) (fun r_ => ∃ u_ S1_, r_ = (.inl u_, S1_, 0) ∧ vq_316 b_ n_ T_ mo_ p_ y_ S0_ u_ S1_) := by
  have hF_ : ai_fr (sx_W vw_316) S0_ S0_ := ai_fr_rf
  refine sm_T_go 2 (c1 := (2, [some (.inr (.inr (some (13, 0))))], [.inl 1, .inr (.inr (some (13, 0)))], S0_)) rfl ?_
  refine sm_T_cal (d1 := 2) (Q1 := vq_315 1 b_ n_ T_ mo_ p_ y_ S0_) rfl rfl (by decide) (vc_315 1 b_ n_ T_ mo_ p_ y_ S0_ hI_ (by exact ht_) (by exact hy_) (by decide) (by exact hmo_)) (fun u_ Sx1_ px4_ => ?_)
  obtain ⟨rfl, hIx2_, hFx3_, px4_⟩ := px4_
  have hFx5_ : ai_fr (sx_W vw_316) S0_ Sx1_ := ai_fr_tr hF_ (fr_le hFx3_ rfl)
  have e2_ := px4_
  refine sm_T_go 0 (c1 := (5, [some (.inr (.inr (some (13, 0))))], [], Sx1_)) rfl ?_
  refine (vl_316 b_ n_ T_ mo_ p_ y_ S0_ ht_ hy_ hmo_ _)  Sx1_ hIx2_ hFx5_ ⟨?_, trivial⟩ (Nat.lt_succ_self _)
  · exact ⟨_, e2_.1, sa2_se, fun s_ hs_ => se2_lt hy_ hs_⟩
