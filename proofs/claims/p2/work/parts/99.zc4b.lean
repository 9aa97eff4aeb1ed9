/-! M_.settleAll -/
def vw_316g : sx_Wl := ([(13, 32), (13, 33), (13, 34), (13, 37)], [138, 139, 140, 141, 142, 143], [])
def vq_316g (b_ : Nat → Int) (n_ : Nat) (T_ : Nat) (p_ : Nat) (F_ : Nat) (I_ : Nat) (A_ : pA) (X_ : Nat → gQ → gE → Option (gQ × gE)) (m_ : Nat) (s0_ : gS) (s_ : pO) (s1_ : pO) (S0_ : sm_S) (u_ : Option sm_V) (S1_ : sm_S) : Prop := u_ = none ∧ gi S1_ ∧ ai_fr (sx_W vw_316g) S0_ S1_ ∧ (rz b_ n_ T_ p_ F_ I_ A_ X_ m_ s0_ s1_ S1_)
set_option maxHeartbeats 400000 in
theorem vl_316g {sc_ : Nat × (Nat → Int)} (b_ : Nat → Int) (n_ : Nat) (T_ : Nat) (p_ : Nat) (F_ : Nat) (I_ : Nat) (A_ : pA) (X_ : Nat → gQ → gE → Option (gQ × gE)) (m_ : Nat) (s0_ : gS) (s_ : pO) (s1_ : pO) (S0_ : sm_S) (ht_ : rtab b_ n_ T_ S0_) (hz_ : rz b_ n_ T_ p_ F_ I_ A_ X_ m_ s0_ s_ S0_) (hr_ : p_sa2 1 s_ = .inr s1_) : ∀ nn_ : Nat, (∀  (S_ : sm_S), gi S_ → ai_fr (sx_W vw_316g) S0_ S_ → ((∃ s2_, rz b_ n_ T_ p_ F_ I_ A_ X_ m_ s0_ s2_ S_ ∧ p_sa2 1 s2_ = .inr s1_ ∧ o_tp s2_.1 < 1) ∧ True) → (((S_.1 13 0 32)).toNat) < nn_ → sm_T (mt_P sc_) 6 316 (5, [some (.inr (.inr (some (13, 0))))], [], S_) (fun ro9_ => ∃ u_ S1_, ro9_ = (.inl u_, S1_, 0) ∧ vq_316g b_ n_ T_ p_ F_ I_ A_ X_ m_ s0_ s_ s1_ S0_ u_ S1_)) := by
  intro nn_
  induction nn_ with
  | zero => exact fun  _ _ _ _ h_ => absurd h_ (Nat.not_lt_zero _)
  | succ nn_ ih_ =>
    rintro  S_ hI_ hF_ ⟨h1_, -⟩ hm_
    obtain ⟨s2_, z1_, z2_, z3_⟩ := h1_
    have ht1_ := rtab_fr ht_ hF_ rfl rfl rfl rfl rfl
    have hf0_ := rz_f z1_
    obtain ⟨⟨⟨hg_, ⟨w0_, hw_, hwl_⟩, hop_, hv_, hmo1_⟩, hs_⟩, -, -⟩ := id z1_
    have hwl_ : wl b_ n_ T_ s2_.1 w0_ := by rcases hwl_ with z_ | z_; (exact absurd z_.1 (by decide)); (exact z_.2)
    have hwx_ := hw_.1
    have tp5_ := o_tp5 hs_.1
    have hwtp := wl_tp hwl_ hs_.1
    refine sm_T_go 1 (c1 := (6, [some (.inr (.inr (some (13, 0))))], [.inr (.inr (some (13, 0)))], S_)) rfl ?_
    refine sm_T_cal (d1 := 0) (Q1 := vq_292  S_) rfl rfl (by decide) (vc_292  S_ hI_ ) (fun u_ Sx1_ px4_ => ?_)
    obtain ⟨rfl, vx6_, rfl, px4_⟩ := px4_
    have e1x := px4_
    refine sm_T_b0 (a := 0) (z := 24) rfl (fun cx7_ => ?_) (fun cx7_ => ?_)
    · have cx7_ : vx6_ = 0 := of_decide_eq_true cx7_
      exfalso; (rw [if_pos hf0_] at e1x; omega)
    · have cx7_ : ¬ (vx6_ = 0) := of_decide_eq_false cx7_
      have wtp_ := hwtp.2.2.2.1
      refine sm_T_go 1 (c1 := (13, [some (.inr (.inr (some (13, 0))))], [.inr (.inr (some (13, 0)))], S_)) rfl ?_
      refine sm_T_cal (d1 := 0) (Q1 := vq_312 w0_ S_) rfl rfl (by decide) (vc_312 w0_ S_ hI_ (by exact hw_)) (fun u_ Sx8_ px11_ => ?_)
      obtain ⟨rfl, vx13_, rfl, px11_⟩ := px11_
      have e13_ := px11_
      refine sm_T_go 1 (c1 := (18, [some (.inr (.inr (some (13, 0))))], [.inl 58, .inl vx13_], S_)) rfl ?_
      refine sm_T_br (a := 1) (z := 15) rfl (fun cx14_ => ?_) (fun cx14_ => ?_)
      · have cx14_ : vx13_ ≠ 58 := of_decide_eq_true cx14_
        refine sm_T_rv rfl ⟨_, _, rfl, rfl, hI_, hF_, ?_⟩
        have q9_ : p_sa2 1 s2_ = .inr s2_ := p_sa_st z3_ (fun z_ => by have := wtp_.mpr z_; omega)
        rw [q9_] at z2_
        cases z2_
        exact z1_
      · have cx14_ : ¬ (vx13_ ≠ 58) := of_decide_eq_false cx14_
        have otp_ : o_tp s2_.1 = -4 := wtp_.mp (by omega)
        obtain ⟨so_, sg_, sc_⟩ := s2_
        obtain ⟨k1_, q1_, o2_, ho2_, hk2_⟩ := o_tp_c (o_ := so_) (by intro z_; have z2_ : o_tp so_ = -4 := otp_; omega)
        subst ho2_
        have hk3_ : k1_ = -4 := otp_
        subst hk3_
        obtain ⟨x1_, x2_, x3_, g2_, hg2_⟩ := s_ok_3 hs_
        subst hg2_
        have wlen : 1 ≤ S_.1 13 0 32 := by have := (wl_len hwl_).2; simp only [List.length_cons] at this; omega
        have sac_ := sa1_ch z2_
        obtain ⟨sn_, hn1_, hn2_⟩ := sa1_se sac_.2
        refine sm_T_go 1 (c1 := (22, [some (.inr (.inr (some (13, 0))))], [.inr (.inr (some (13, 0)))], S_)) rfl ?_
        refine sm_T_cal (d1 := 4) (Q1 := vq_314g b_ n_ T_ p_ F_ I_ A_ X_ m_ s0_ q1_ o2_ x1_ x2_ x3_ g2_ sc_ S_) rfl rfl (by decide) (vc_314g b_ n_ T_ p_ F_ I_ A_ X_ m_ s0_ q1_ o2_ x1_ x2_ x3_ g2_ sc_ S_ hI_ (by exact ht1_) (by exact z1_) (by exact sac_.1)) (fun u_ Sx15_ px18_ => ?_)
        obtain ⟨rfl, hIx16_, hFx17_, px18_⟩ := px18_
        have hFx19_ : ai_fr (sx_W vw_316g) S0_ Sx15_ := ai_fr_tr hF_ (fr_le hFx17_ rfl)
        have e22_ := px18_
        have ht2_ := rtab_fr ht1_ hFx17_ rfl rfl rfl rfl rfl
        refine sm_T_go 2 (c1 := (27, [some (.inr (.inr (some (13, 0))))], [.inl 1, .inr (.inr (some (13, 0)))], Sx15_)) rfl ?_
        refine sm_T_cal (d1 := 5) (Q1 := vq_315g 1 b_ n_ T_ p_ F_ I_ A_ X_ m_ s0_ (o2_, x2_ :: g2_, 7 :: sc_) sn_ Sx15_) rfl rfl (by decide) (vc_315g 1 b_ n_ T_ p_ F_ I_ A_ X_ m_ s0_ (o2_, x2_ :: g2_, 7 :: sc_) sn_ Sx15_ hIx16_ (by exact ht2_) (by exact e22_.1) (by decide) (by exact hn1_)) (fun u_ Sx20_ px23_ => ?_)
        obtain ⟨rfl, hIx21_, hFx22_, px23_⟩ := px23_
        have hFx24_ : ai_fr (sx_W vw_316g) S0_ Sx20_ := ai_fr_tr hFx19_ (fr_le hFx22_ rfl)
        have e27_ := px23_
        refine sm_T_go 1 (c1 := (5, [some (.inr (.inr (some (13, 0))))], [], Sx20_)) rfl ?_
        refine ih_  Sx20_ hIx21_ hFx24_ ⟨?_, trivial⟩ ?_
        · exact ⟨_, e27_.1, hn2_, se1_lt e22_.1 hn1_⟩
        · (have := e22_.2); (have := e27_.2); omega
set_option maxHeartbeats 400000 in
theorem vc_316g {sc_ : Nat × (Nat → Int)} (b_ : Nat → Int) (n_ : Nat) (T_ : Nat) (p_ : Nat) (F_ : Nat) (I_ : Nat) (A_ : pA) (X_ : Nat → gQ → gE → Option (gQ × gE)) (m_ : Nat) (s0_ : gS) (s_ : pO) (s1_ : pO) (S0_ : sm_S) (hI_ : gi S0_) (ht_ : rtab b_ n_ T_ S0_) (hz_ : rz b_ n_ T_ p_ F_ I_ A_ X_ m_ s0_ s_ S0_) (hr_ : p_sa2 1 s_ = .inr s1_) : sm_T (mt_P sc_) 6 316 (0, [some (.inr (.inr (some (13, 0))))], [], S0_) (fun ro9_ => ∃ u_ S1_, ro9_ = (.inl u_, S1_, 0) ∧ vq_316g b_ n_ T_ p_ F_ I_ A_ X_ m_ s0_ s_ s1_ S0_ u_ S1_) := by
  have hF_ : ai_fr (sx_W vw_316g) S0_ S0_ := ai_fr_rf
  obtain ⟨sm_, hm1_, hm2_⟩ := sa1_se hr_
  refine sm_T_go 2 (c1 := (2, [some (.inr (.inr (some (13, 0))))], [.inl 1, .inr (.inr (some (13, 0)))], S0_)) rfl ?_
  refine sm_T_cal (d1 := 5) (Q1 := vq_315g 1 b_ n_ T_ p_ F_ I_ A_ X_ m_ s0_ s_ sm_ S0_) rfl rfl (by decide) (vc_315g 1 b_ n_ T_ p_ F_ I_ A_ X_ m_ s0_ s_ sm_ S0_ hI_ (by exact ht_) (by exact hz_) (by decide) (by exact hm1_)) (fun u_ Sx1_ px4_ => ?_)
  obtain ⟨rfl, hIx2_, hFx3_, px4_⟩ := px4_
  have hFx5_ : ai_fr (sx_W vw_316g) S0_ Sx1_ := ai_fr_tr hF_ (fr_le hFx3_ rfl)
  have e2_ := px4_
  refine sm_T_go 0 (c1 := (5, [some (.inr (.inr (some (13, 0))))], [], Sx1_)) rfl ?_
  refine (vl_316g b_ n_ T_ p_ F_ I_ A_ X_ m_ s0_ s_ s1_ S0_ ht_ hz_ hr_ _)  Sx1_ hIx2_ hFx5_ ⟨?_, trivial⟩ (Nat.lt_succ_self _)
  · exact ⟨_, e2_.1, hm2_, se1_lt hz_ hm1_⟩

/-! turning, second pass -/
theorem ti2 {t_ : Bool} {h_ c_ : List Int} : p_ti false t_ h_ c_ = (h_, if t_ = true then 6 :: c_ else c_) := by
  cases t_ <;> rfl
theorem rwv_gt {st_ st'_ : Nat → Int} {p_ q_ : Nat} {v_ : List Int} {z_ : Int} (h_ : rwv st_ p_ v_) (hq_ : p_ + v_.length ≤ q_) (hs_ : ∀ k_, st'_ k_ = if k_ = q_ then z_ else st_ k_) : rwv st'_ p_ v_ := rwv_cg h_ (fun k_ hk_ => by rw [hs_, if_neg (by omega)])
