/-! M_.isOperator -/
def vw_310 : sx_Wl := ([], [], [])
def vq_310 (b_ : Nat → Int) (n_ : Nat) (T_ : Nat) (x_ : pE Nat) (mo_ : Int) (S0_ : sm_S) (u_ : Option sm_V) (S1_ : sm_S) : Prop := S0_ = S1_ ∧ ∃ v_ : Int, u_ = some (.inl v_) ∧ ((v_ = 0 ∨ v_ = 1) ∧ ∀ p_ : Nat, x_ = .inr p_ → (v_ = 1 ↔ 0 < p_lv (mdo mo_) (lx_kd b_ n_ p_)) ∧ (v_ = 1 → (S1_.2.2.1 119 0 (((S1_.1 13 0 9)).toNat)) = 3 ∧ (S1_.2.2.1 121 0 (((S1_.1 13 0 9)).toNat)) = lx_kd b_ n_ p_ ∧ p_lv (mdo mo_) (lx_kd b_ n_ p_) = p_lv false (lx_kd b_ n_ p_)))
set_option maxHeartbeats 400000 in
theorem vc_310 {sc_ : Nat × (Nat → Int)} (b_ : Nat → Int) (n_ : Nat) (T_ : Nat) (x_ : pE Nat) (mo_ : Int) (S0_ : sm_S) (hI_ : gi S0_) (ht_ : rtab b_ n_ T_ S0_) (hx_ : rg b_ n_ T_ x_ S0_) (hmo_ : (S0_.1 13 0 27) = mo_ ∧ (0 ≤ mo_ ∧ mo_ ≤ 2)) : sm_T (mt_P sc_) 1 310 (0, [some (.inr (.inr (some (13, 0)))), none], [], S0_) (fun r_ => ∃ u_ S1_, r_ = (.inl u_, S1_, 0) ∧ vq_310 b_ n_ T_ x_ mo_ S0_ u_ S1_) := by
  have hF_ : ai_fr (sx_W vw_310) S0_ S0_ := ai_fr_rf
  have hat_ : ∀ p_ : Nat, x_ = .inr p_ → S0_.2.2.1 119 0 (S0_.1 13 0 9).toNat = r_st (lx_kd b_ n_ p_) ∧ S0_.2.2.1 121 0 (S0_.1 13 0 9).toNat = r_nb (lx_kd b_ n_ p_) (lx_vl b_ n_ p_) ∧ (0 ≤ lx_kd b_ n_ p_ ∧ (lx_kd b_ n_ p_ ≤ 9 ∨ 33 ≤ lx_kd b_ n_ p_)) := by intro p_ e_; rw [e_] at hx_; obtain ⟨i_, h1_, h2_⟩ := hx_.2; have h3_ := rp_at ht_ h2_; rw [show (S0_.1 13 0 9).toNat = i_ by omega]; exact ⟨h3_.1, h3_.2.2.1, lx_kd_r h2_.2.2.1⟩
  have bx1_ : 0 ≤ S0_.1 13 0 9 ∧ S0_.1 13 0 9 ≤ 1280 := hI_.1 13 0 9 rfl
  refine sm_T_go 4 (c1 := (8, [some (.inr (.inr (some (13, 0)))), none], [.inl (S0_.1 13 0 9), .inr (.inr (some (119, 0)))], S0_)) rfl ?_
  refine sm_T_bald (n := 65537) rfl rfl (by omega) (by omega) ?_
  have bx2_ : (-128) ≤ S0_.2.2.1 119 0 (S0_.1 13 0 9).toNat ∧ S0_.2.2.1 119 0 (S0_.1 13 0 9).toNat ≤ 127 := hI_.2 119 0 _
  refine sm_T_go 1 (c1 := (10, [some (.inr (.inr (some (13, 0)))), none], [.inl 3, .inl (S0_.2.2.1 119 0 (S0_.1 13 0 9).toNat)], S0_)) rfl ?_
  refine sm_T_br (a := 1) (z := 18) rfl (fun cx3_ => ?_) (fun cx3_ => ?_)
  · have cx3_ : (S0_.2.2.1 119 0 (S0_.1 13 0 9).toNat) ≠ 3 := of_decide_eq_true cx3_
    refine sm_T_go 5 (c1 := (52, [some (.inr (.inr (some (13, 0)))), some (.inl 0)], [.inl 0], S0_)) rfl ?_
    refine sm_T_rz rfl (by omega) ⟨_, _, rfl, rfl, _, rfl, ?_⟩
    refine ⟨by omega, fun p_ e_ => ?_⟩
    obtain ⟨q1_, q2_, q3_⟩ := hat_ p_ e_
    have q4_ := (r_st_3 q3_).1
    have q8_ := p_lv_b (md_ := false) (k_ := lx_kd b_ n_ p_)
    have q9_ : p_lv (mdo mo_) (lx_kd b_ n_ p_) = if mo_ = 2 ∧ 4 ≤ p_lv false (lx_kd b_ n_ p_) then 0 else p_lv false (lx_kd b_ n_ p_) := by unfold mdo; by_cases z_ : mo_ = 2; (rw [decide_eq_true z_, p_lv_md]; by_cases y_ : p_lv false (lx_kd b_ n_ p_) < 4; (rw [if_pos y_, if_neg (by omega)]); (rw [if_neg y_, if_pos (by omega)])); (rw [decide_eq_false z_, if_neg (by omega)])
    rw [q9_]
    by_cases g_ : 33 ≤ lx_kd b_ n_ p_
    · have q5_ := r_nb_s (v_ := lx_vl b_ n_ p_) g_
      have q6_ : p_lv false (S0_.2.2.1 121 0 (S0_.1 13 0 9).toNat) = p_lv false (lx_kd b_ n_ p_) := by rw [q2_, q5_]
      by_cases y_ : mo_ = 2 ∧ 4 ≤ p_lv false (lx_kd b_ n_ p_)
      · rw [if_pos y_]; refine ⟨by omega, fun z_ => ⟨by omega, by omega, ?_⟩⟩; omega
      · rw [if_neg y_]; refine ⟨by omega, fun z_ => ⟨by omega, by omega, rfl⟩⟩
    · have q6_ := p_lv_lo (md_ := false) (k_ := lx_kd b_ n_ p_) (by omega)
      by_cases y_ : mo_ = 2 ∧ 4 ≤ p_lv false (lx_kd b_ n_ p_)
      · omega
      · rw [if_neg y_]; refine ⟨by omega, fun z_ => ⟨by omega, by omega, rfl⟩⟩
  · have cx3_ : ¬ ((S0_.2.2.1 119 0 (S0_.1 13 0 9).toNat) ≠ 3) := of_decide_eq_false cx3_
    refine sm_T_go 4 (c1 := (21, [some (.inr (.inr (some (13, 0)))), none], [.inl (S0_.1 13 0 9), .inr (.inr (some (121, 0)))], S0_)) rfl ?_
    refine sm_T_iald (n := 65537) rfl rfl (by omega) (by omega) ?_
    have bx4_ : (-2147483648) ≤ S0_.2.2.1 121 0 (S0_.1 13 0 9).toNat ∧ S0_.2.2.1 121 0 (S0_.1 13 0 9).toNat ≤ 2147483647 := hI_.2 121 0 _
    refine sm_T_cal (d1 := 0) (Q1 := vq_309 (S0_.2.2.1 121 0 (S0_.1 13 0 9).toNat) S0_) rfl rfl (by decide) (vc_309 (S0_.2.2.1 121 0 (S0_.1 13 0 9).toNat) S0_ hI_ ) (fun u_ Sx5_ px8_ => ?_)
    obtain ⟨rfl, vx10_, rfl, px8_⟩ := px8_
    have e22_ := px8_
    refine sm_T_go 3 (c1 := (31, [some (.inr (.inr (some (13, 0)))), some (.inl vx10_)], [.inl vx10_], S0_)) rfl ?_
    refine sm_T_b0 (a := 5) (z := 20) rfl (fun cx11_ => ?_) (fun cx11_ => ?_)
    · have cx11_ : vx10_ ≤ 0 := of_decide_eq_true cx11_
      refine sm_T_go 1 (c1 := (52, [some (.inr (.inr (some (13, 0)))), some (.inl vx10_)], [.inl 0], S0_)) rfl ?_
      refine sm_T_rz rfl (by omega) ⟨_, _, rfl, rfl, _, rfl, ?_⟩
      refine ⟨by omega, fun p_ e_ => ?_⟩
      obtain ⟨q1_, q2_, q3_⟩ := hat_ p_ e_
      have q4_ := (r_st_3 q3_).1
      have q8_ := p_lv_b (md_ := false) (k_ := lx_kd b_ n_ p_)
      have q9_ : p_lv (mdo mo_) (lx_kd b_ n_ p_) = if mo_ = 2 ∧ 4 ≤ p_lv false (lx_kd b_ n_ p_) then 0 else p_lv false (lx_kd b_ n_ p_) := by unfold mdo; by_cases z_ : mo_ = 2; (rw [decide_eq_true z_, p_lv_md]; by_cases y_ : p_lv false (lx_kd b_ n_ p_) < 4; (rw [if_pos y_, if_neg (by omega)]); (rw [if_neg y_, if_pos (by omega)])); (rw [decide_eq_false z_, if_neg (by omega)])
      rw [q9_]
      by_cases g_ : 33 ≤ lx_kd b_ n_ p_
      · have q5_ := r_nb_s (v_ := lx_vl b_ n_ p_) g_
        have q6_ : p_lv false (S0_.2.2.1 121 0 (S0_.1 13 0 9).toNat) = p_lv false (lx_kd b_ n_ p_) := by rw [q2_, q5_]
        by_cases y_ : mo_ = 2 ∧ 4 ≤ p_lv false (lx_kd b_ n_ p_)
        · rw [if_pos y_]; refine ⟨by omega, fun z_ => ⟨by omega, by omega, ?_⟩⟩; omega
        · rw [if_neg y_]; refine ⟨by omega, fun z_ => ⟨by omega, by omega, rfl⟩⟩
      · have q6_ := p_lv_lo (md_ := false) (k_ := lx_kd b_ n_ p_) (by omega)
        by_cases y_ : mo_ = 2 ∧ 4 ≤ p_lv false (lx_kd b_ n_ p_)
        · omega
        · rw [if_neg y_]; refine ⟨by omega, fun z_ => ⟨by omega, by omega, rfl⟩⟩
    · have cx11_ : ¬ (vx10_ ≤ 0) := of_decide_eq_false cx11_
      have bx12_ : 0 ≤ S0_.1 13 0 27 ∧ S0_.1 13 0 27 ≤ 2 := hI_.1 13 0 27 rfl
      refine sm_T_go 3 (c1 := (39, [some (.inr (.inr (some (13, 0)))), some (.inl vx10_)], [.inl 2, .inl (S0_.1 13 0 27)], S0_)) rfl ?_
      refine sm_T_br (a := 2) (z := 8) rfl (fun cx13_ => ?_) (fun cx13_ => ?_)
      · have cx13_ : (S0_.1 13 0 27) < 2 := of_decide_eq_true cx13_
        refine sm_T_go 2 (c1 := (52, [some (.inr (.inr (some (13, 0)))), some (.inl vx10_)], [.inl 1], S0_)) rfl ?_
        refine sm_T_rz rfl (by omega) ⟨_, _, rfl, rfl, _, rfl, ?_⟩
        refine ⟨by omega, fun p_ e_ => ?_⟩
        obtain ⟨q1_, q2_, q3_⟩ := hat_ p_ e_
        have q4_ := (r_st_3 q3_).1
        have q8_ := p_lv_b (md_ := false) (k_ := lx_kd b_ n_ p_)
        have q9_ : p_lv (mdo mo_) (lx_kd b_ n_ p_) = if mo_ = 2 ∧ 4 ≤ p_lv false (lx_kd b_ n_ p_) then 0 else p_lv false (lx_kd b_ n_ p_) := by unfold mdo; by_cases z_ : mo_ = 2; (rw [decide_eq_true z_, p_lv_md]; by_cases y_ : p_lv false (lx_kd b_ n_ p_) < 4; (rw [if_pos y_, if_neg (by omega)]); (rw [if_neg y_, if_pos (by omega)])); (rw [decide_eq_false z_, if_neg (by omega)])
        rw [q9_]
        by_cases g_ : 33 ≤ lx_kd b_ n_ p_
        · have q5_ := r_nb_s (v_ := lx_vl b_ n_ p_) g_
          have q6_ : p_lv false (S0_.2.2.1 121 0 (S0_.1 13 0 9).toNat) = p_lv false (lx_kd b_ n_ p_) := by rw [q2_, q5_]
          by_cases y_ : mo_ = 2 ∧ 4 ≤ p_lv false (lx_kd b_ n_ p_)
          · rw [if_pos y_]; refine ⟨by omega, fun z_ => ⟨by omega, by omega, ?_⟩⟩; omega
          · rw [if_neg y_]; refine ⟨by omega, fun z_ => ⟨by omega, by omega, rfl⟩⟩
        · have q6_ := p_lv_lo (md_ := false) (k_ := lx_kd b_ n_ p_) (by omega)
          by_cases y_ : mo_ = 2 ∧ 4 ≤ p_lv false (lx_kd b_ n_ p_)
          · omega
          · rw [if_neg y_]; refine ⟨by omega, fun z_ => ⟨by omega, by omega, rfl⟩⟩
      · have cx13_ : ¬ ((S0_.1 13 0 27) < 2) := of_decide_eq_false cx13_
        refine sm_T_go 2 (c1 := (44, [some (.inr (.inr (some (13, 0)))), some (.inl vx10_)], [.inl 4, .inl vx10_], S0_)) rfl ?_
        refine sm_T_br (a := 3) (z := 7) rfl (fun cx14_ => ?_) (fun cx14_ => ?_)
        · have cx14_ : 4 ≤ vx10_ := of_decide_eq_true cx14_
          refine sm_T_go 1 (c1 := (52, [some (.inr (.inr (some (13, 0)))), some (.inl vx10_)], [.inl 0], S0_)) rfl ?_
          refine sm_T_rz rfl (by omega) ⟨_, _, rfl, rfl, _, rfl, ?_⟩
          refine ⟨by omega, fun p_ e_ => ?_⟩
          obtain ⟨q1_, q2_, q3_⟩ := hat_ p_ e_
          have q4_ := (r_st_3 q3_).1
          have q8_ := p_lv_b (md_ := false) (k_ := lx_kd b_ n_ p_)
          have q9_ : p_lv (mdo mo_) (lx_kd b_ n_ p_) = if mo_ = 2 ∧ 4 ≤ p_lv false (lx_kd b_ n_ p_) then 0 else p_lv false (lx_kd b_ n_ p_) := by unfold mdo; by_cases z_ : mo_ = 2; (rw [decide_eq_true z_, p_lv_md]; by_cases y_ : p_lv false (lx_kd b_ n_ p_) < 4; (rw [if_pos y_, if_neg (by omega)]); (rw [if_neg y_, if_pos (by omega)])); (rw [decide_eq_false z_, if_neg (by omega)])
          rw [q9_]
          by_cases g_ : 33 ≤ lx_kd b_ n_ p_
          · have q5_ := r_nb_s (v_ := lx_vl b_ n_ p_) g_
            have q6_ : p_lv false (S0_.2.2.1 121 0 (S0_.1 13 0 9).toNat) = p_lv false (lx_kd b_ n_ p_) := by rw [q2_, q5_]
            by_cases y_ : mo_ = 2 ∧ 4 ≤ p_lv false (lx_kd b_ n_ p_)
            · rw [if_pos y_]; refine ⟨by omega, fun z_ => ⟨by omega, by omega, ?_⟩⟩; omega
            · rw [if_neg y_]; refine ⟨by omega, fun z_ => ⟨by omega, by omega, rfl⟩⟩
          · have q6_ := p_lv_lo (md_ := false) (k_ := lx_kd b_ n_ p_) (by omega)
            by_cases y_ : mo_ = 2 ∧ 4 ≤ p_lv false (lx_kd b_ n_ p_)
            · omega
            · rw [if_neg y_]; refine ⟨by omega, fun z_ => ⟨by omega, by omega, rfl⟩⟩
        · have cx14_ : ¬ (4 ≤ vx10_) := of_decide_eq_false cx14_
          refine sm_T_go 2 (c1 := (52, [some (.inr (.inr (some (13, 0)))), some (.inl vx10_)], [.inl 1], S0_)) rfl ?_
          refine sm_T_rz rfl (by omega) ⟨_, _, rfl, rfl, _, rfl, ?_⟩
          refine ⟨by omega, fun p_ e_ => ?_⟩
          obtain ⟨q1_, q2_, q3_⟩ := hat_ p_ e_
          have q4_ := (r_st_3 q3_).1
          have q8_ := p_lv_b (md_ := false) (k_ := lx_kd b_ n_ p_)
          have q9_ : p_lv (mdo mo_) (lx_kd b_ n_ p_) = if mo_ = 2 ∧ 4 ≤ p_lv false (lx_kd b_ n_ p_) then 0 else p_lv false (lx_kd b_ n_ p_) := by unfold mdo; by_cases z_ : mo_ = 2; (rw [decide_eq_true z_, p_lv_md]; by_cases y_ : p_lv false (lx_kd b_ n_ p_) < 4; (rw [if_pos y_, if_neg (by omega)]); (rw [if_neg y_, if_pos (by omega)])); (rw [decide_eq_false z_, if_neg (by omega)])
          rw [q9_]
          by_cases g_ : 33 ≤ lx_kd b_ n_ p_
          · have q5_ := r_nb_s (v_ := lx_vl b_ n_ p_) g_
            have q6_ : p_lv false (S0_.2.2.1 121 0 (S0_.1 13 0 9).toNat) = p_lv false (lx_kd b_ n_ p_) := by rw [q2_, q5_]
            by_cases y_ : mo_ = 2 ∧ 4 ≤ p_lv false (lx_kd b_ n_ p_)
            · rw [if_pos y_]; refine ⟨by omega, fun z_ => ⟨by omega, by omega, ?_⟩⟩; omega
            · rw [if_neg y_]; refine ⟨by omega, fun z_ => ⟨by omega, by omega, rfl⟩⟩
          · have q6_ := p_lv_lo (md_ := false) (k_ := lx_kd b_ n_ p_) (by omega)
            by_cases y_ : mo_ = 2 ∧ 4 ≤ p_lv false (lx_kd b_ n_ p_)
            · omega
            · rw [if_neg y_]; refine ⟨by omega, fun z_ => ⟨by omega, by omega, rfl⟩⟩
