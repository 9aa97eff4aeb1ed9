/-! M_.isWord -/
def vw_296 : sx_Wl := ([], [], [])
def vq_296 (s_ : Int) (b_ : Nat → Int) (n_ : Nat) (T_ : Nat) (x_ : pE Nat) (S0_ : sm_S) (u_ : Option sm_V) (S1_ : sm_S) : Prop := S0_ = S1_ ∧ ∃ v_ : Int, u_ = some (.inl v_) ∧ ((v_ = 0 ∨ v_ = 1) ∧ ∀ p_ : Nat, x_ = .inr p_ → (v_ = 1 ↔ lx_kd b_ n_ p_ = s_ + 2))
set_option maxHeartbeats 400000 in
theorem vc_296 {sc_ : Nat × (Nat → Int)} (s_ : Int) (b_ : Nat → Int) (n_ : Nat) (T_ : Nat) (x_ : pE Nat) (S0_ : sm_S) (hI_ : gi S0_) (ht_ : rtab b_ n_ T_ S0_) (hx_ : rg b_ n_ T_ x_ S0_) (hs_ : 1 ≤ s_ ∧ s_ ≤ 7) : sm_T (mt_P sc_) 0 296 (0, [some (.inr (.inr (some (13, 0)))), some (.inl s_)], [], S0_) (fun r_ => ∃ u_ S1_, r_ = (.inl u_, S1_, 0) ∧ vq_296 s_ b_ n_ T_ x_ S0_ u_ S1_) := by
  have hF_ : ai_fr (sx_W vw_296) S0_ S0_ := ai_fr_rf
  have hat_ : ∀ p_ : Nat, x_ = .inr p_ → S0_.2.2.1 119 0 (S0_.1 13 0 9).toNat = r_st (lx_kd b_ n_ p_) ∧ S0_.2.2.1 121 0 (S0_.1 13 0 9).toNat = r_nb (lx_kd b_ n_ p_) (lx_vl b_ n_ p_) ∧ (0 ≤ lx_kd b_ n_ p_ ∧ (lx_kd b_ n_ p_ ≤ 9 ∨ 33 ≤ lx_kd b_ n_ p_)) := by intro p_ e_; rw [e_] at hx_; obtain ⟨i_, h1_, h2_⟩ := hx_.2; have h3_ := rp_at ht_ h2_; rw [show (S0_.1 13 0 9).toNat = i_ by omega]; exact ⟨h3_.1, h3_.2.2.1, lx_kd_r h2_.2.2.1⟩
  have bx1_ : 0 ≤ S0_.1 13 0 9 ∧ S0_.1 13 0 9 ≤ 1280 := hI_.1 13 0 9 rfl
  refine sm_T_go 4 (c1 := (8, [some (.inr (.inr (some (13, 0)))), some (.inl s_)], [.inl (S0_.1 13 0 9), .inr (.inr (some (119, 0)))], S0_)) rfl ?_
  refine sm_T_bald (n := 65537) rfl rfl (by omega) (by omega) ?_
  have bx2_ : (-128) ≤ S0_.2.2.1 119 0 (S0_.1 13 0 9).toNat ∧ S0_.2.2.1 119 0 (S0_.1 13 0 9).toNat ≤ 127 := hI_.2 119 0 _
  refine sm_T_go 1 (c1 := (11, [some (.inr (.inr (some (13, 0)))), some (.inl s_)], [.inl 6, .inl (S0_.2.2.1 119 0 (S0_.1 13 0 9).toNat)], S0_)) rfl ?_
  refine sm_T_br (a := 1) (z := 20) rfl (fun cx3_ => ?_) (fun cx3_ => ?_)
  · have cx3_ : (S0_.2.2.1 119 0 (S0_.1 13 0 9).toNat) ≠ 6 := of_decide_eq_true cx3_
    refine sm_T_go 1 (c1 := (32, [some (.inr (.inr (some (13, 0)))), some (.inl s_)], [.inl 0], S0_)) rfl ?_
    refine sm_T_rz rfl (by omega) ⟨_, _, rfl, rfl, _, rfl, ?_⟩
    refine ⟨by omega, fun p_ e_ => ?_⟩
    obtain ⟨q1_, q2_, q3_⟩ := hat_ p_ e_
    have q4_ := (r_st_3 q3_).2.2.2.1
    by_cases g_ : 3 ≤ lx_kd b_ n_ p_ ∧ lx_kd b_ n_ p_ ≤ 9
    · have q5_ := r_nb_w (v_ := lx_vl b_ n_ p_) g_
      omega
    · omega
  · have cx3_ : ¬ ((S0_.2.2.1 119 0 (S0_.1 13 0 9).toNat) ≠ 6) := of_decide_eq_false cx3_
    refine sm_T_go 4 (c1 := (22, [some (.inr (.inr (some (13, 0)))), some (.inl s_)], [.inl (S0_.1 13 0 9), .inr (.inr (some (121, 0)))], S0_)) rfl ?_
    refine sm_T_iald (n := 65537) rfl rfl (by omega) (by omega) ?_
    have bx4_ : (-2147483648) ≤ S0_.2.2.1 121 0 (S0_.1 13 0 9).toNat ∧ S0_.2.2.1 121 0 (S0_.1 13 0 9).toNat ≤ 2147483647 := hI_.2 121 0 _
    refine sm_T_go 1 (c1 := (24, [some (.inr (.inr (some (13, 0)))), some (.inl s_)], [.inl s_, .inl (S0_.2.2.1 121 0 (S0_.1 13 0 9).toNat)], S0_)) rfl ?_
    refine sm_T_br (a := 1) (z := 7) rfl (fun cx5_ => ?_) (fun cx5_ => ?_)
    · have cx5_ : (S0_.2.2.1 121 0 (S0_.1 13 0 9).toNat) ≠ s_ := of_decide_eq_true cx5_
      refine sm_T_go 1 (c1 := (32, [some (.inr (.inr (some (13, 0)))), some (.inl s_)], [.inl 0], S0_)) rfl ?_
      refine sm_T_rz rfl (by omega) ⟨_, _, rfl, rfl, _, rfl, ?_⟩
      refine ⟨by omega, fun p_ e_ => ?_⟩
      obtain ⟨q1_, q2_, q3_⟩ := hat_ p_ e_
      have q4_ := (r_st_3 q3_).2.2.2.1
      by_cases g_ : 3 ≤ lx_kd b_ n_ p_ ∧ lx_kd b_ n_ p_ ≤ 9
      · have q5_ := r_nb_w (v_ := lx_vl b_ n_ p_) g_
        omega
      · omega
    · have cx5_ : ¬ ((S0_.2.2.1 121 0 (S0_.1 13 0 9).toNat) ≠ s_) := of_decide_eq_false cx5_
      refine sm_T_go 2 (c1 := (32, [some (.inr (.inr (some (13, 0)))), some (.inl s_)], [.inl 1], S0_)) rfl ?_
      refine sm_T_rz rfl (by omega) ⟨_, _, rfl, rfl, _, rfl, ?_⟩
      refine ⟨by omega, fun p_ e_ => ?_⟩
      obtain ⟨q1_, q2_, q3_⟩ := hat_ p_ e_
      have q4_ := (r_st_3 q3_).2.2.2.1
      by_cases g_ : 3 ≤ lx_kd b_ n_ p_ ∧ lx_kd b_ n_ p_ ≤ 9
      · have q5_ := r_nb_w (v_ := lx_vl b_ n_ p_) g_
        omega
      · omega
