/-! the reference: state, restart, play; written by wip/p55/gen/vg -/
/-! M_.state -/
def okr_restart (a1_ : Int) (S_ : sm_S) : Prop := (0 ≤ a1_ ∧ a1_ < 6 ∧ S_.2.2.1 153 0 a1_.toNat = 1)
def var_restart (a1_ : Int) (S_ : sm_S) : Int := S_.2.2.1 158 0 a1_.toNat
def nwr_restart (a1_ : Int) (S_ : sm_S) : Int := S_.2.2.1 157 0 a1_.toNat
/-! M_.restart -/
def vw_384t : sx_Wl := ([(13, 0)], [158], [])
def vq_384t (a1_ : Int) (S0_ : sm_S) (u_ : Option sm_V) (S1_ : sm_S) : Prop := ∃ v_ : Int, u_ = some (.inl v_) ∧ gi S1_ ∧ ai_fr (sx_W vw_384t) S0_ S1_ ∧ (((-2147483648) ≤ v_ ∧ v_ ≤ 2147483647) ∧ (jR S1_ ∧ ((S1_.1 13 0 0 = 1 ∧ ¬ okr_restart a1_ S0_ ∧ (∀ j_, S1_.2.2.1 158 0 j_ = S0_.2.2.1 158 0 j_)) ∨ (S1_.1 13 0 0 = 0 ∧ okr_restart a1_ S0_ ∧ v_ = var_restart a1_ S0_ ∧ (S1_.2.2.1 158 0 a1_.toNat = nwr_restart a1_ S0_ ∧ ∀ j_, j_ ≠ a1_.toNat → S1_.2.2.1 158 0 j_ = S0_.2.2.1 158 0 j_)))))
set_option maxHeartbeats 400000 in
set_option maxRecDepth 20000 in
theorem vc_384t {sc_ : Nat × (Nat → Int)} (a1_ : Int) (S0_ : sm_S) (hI_ : gi S0_) (ha1_ : (-2147483648) ≤ a1_ ∧ a1_ ≤ 2147483647) (hJ_ : jR S0_) : sm_T (mt_P sc_) 1 384 (0, [some (.inr (.inr (some (13, 0)))), some (.inl a1_), none], [], S0_) (fun ro9_ => ∃ u_ S1_, ro9_ = (.inl u_, S1_, 0) ∧ vq_384t a1_ S0_ u_ S1_) := by
  have hF_ : ai_fr (sx_W vw_384t) S0_ S0_ := ai_fr_rf
  refine sm_T_go 3 (c1 := (3, [some (.inr (.inr (some (13, 0)))), some (.inl a1_), none], [.inl a1_, .inr (.inr (some (13, 0))), .inr (.inr (some (13, 0)))], S0_)) rfl ?_
  refine sm_T_cal (d1 := 0) (Q1 := vq_369 a1_ S0_) rfl rfl (by decide) (vc_369 a1_ S0_ hI_ (by omega)) (fun u_ Sx1_ px4_ => ?_)
  obtain ⟨rfl, vx6_, rfl, px4_⟩ := px4_
  have d3_ := px4_
  refine sm_T_b0 (a := 0) (z := 7) rfl (fun cx7_ => ?_) (fun cx7_ => ?_)
  · have cx7_ : vx6_ = 0 := of_decide_eq_true cx7_
    have hIx8_ : gi (sm_pI S0_ 13 0 0 1) := gi_pI hI_ (show 0 ≤ 1 ∧ 1 ≤ 4 from ⟨by omega, by omega⟩)
    have hFx9_ : ai_fr (sx_W vw_384t) S0_ (sm_pI S0_ 13 0 0 1) := ai_fr_tr hF_ (ai_fr_pI rfl)
    refine sm_T_go 6 (c1 := (25, [some (.inr (.inr (some (13, 0)))), some (.inl a1_), none], [.inl 0], sm_pI S0_ 13 0 0 1)) rfl ?_
    refine sm_T_ri rfl ⟨_, _, rfl, _, rfl, hIx8_, hFx9_, ?_⟩
    first | exact ⟨⟨by omega, by omega⟩, hJ_, Or.inl ⟨rf_eq, by (unfold okr_restart; omega), fun j_ => rfl⟩⟩ | exact ⟨⟨by omega, by omega⟩, jR_nw (S_ := sm_pI S0_ 13 0 0 0) hJ_ hIx8_ J2_, Or.inr ⟨(show (sm_pI S0_ 13 0 0 0).1 13 0 0 = 0 from rf_eq), by (unfold okr_restart; omega), rfl, ⟨rd_eq.trans (if_pos rfl), fun j_ hj_ => rd_eq.trans (if_neg hj_)⟩⟩⟩
  · have cx7_ : ¬ (vx6_ = 0) := of_decide_eq_false cx7_
    obtain ⟨J1_, J2_, J3_, J4_⟩ := dRk_b (hJ_.1 a1_.toNat (by omega) (by omega))
    have hIx10_ : gi (sm_pI S0_ 13 0 0 0) := gi_pI hI_ (show 0 ≤ 0 ∧ 0 ≤ 4 from ⟨by omega, by omega⟩)
    have hFx11_ : ai_fr (sx_W vw_384t) S0_ (sm_pI S0_ 13 0 0 0) := ai_fr_tr hF_ (ai_fr_pI rfl)
    refine sm_T_go 9 (c1 := (31, [some (.inr (.inr (some (13, 0)))), some (.inl a1_), none], [.inl a1_, .inr (.inr (some (158, 0)))], sm_pI S0_ 13 0 0 0)) rfl ?_
    refine sm_T_iald (n := 6) rfl rfl (by omega) (by omega) ?_
    have bx12_ : 0 ≤ S0_.2.2.1 158 0 a1_.toNat ∧ S0_.2.2.1 158 0 a1_.toNat ≤ 63 := hI_.2 158 0 _
    refine sm_T_go 7 (c1 := (43, [some (.inr (.inr (some (13, 0)))), some (.inl a1_), some (.inl (S0_.2.2.1 158 0 a1_.toNat))], [.inl a1_, .inr (.inr (some (157, 0))), .inl a1_, .inr (.inr (some (158, 0)))], sm_pI S0_ 13 0 0 0)) rfl ?_
    refine sm_T_iald (n := 6) rfl rfl (by omega) (by omega) ?_
    have bx13_ : 0 ≤ S0_.2.2.1 157 0 a1_.toNat ∧ S0_.2.2.1 157 0 a1_.toNat ≤ 63 := hI_.2 157 0 _
    refine sm_T_go 0 (c1 := (44, [some (.inr (.inr (some (13, 0)))), some (.inl a1_), some (.inl (S0_.2.2.1 158 0 a1_.toNat))], [.inl (S0_.2.2.1 157 0 a1_.toNat), .inl a1_, .inr (.inr (some (158, 0)))], sm_pI S0_ 13 0 0 0)) rfl ?_
    refine sm_T_iast (n := 6) rfl rfl (by omega) (by omega) ?_
    have hIx14_ : gi (sm_aI (sm_pI S0_ 13 0 0 0) 158 0 a1_.toNat (S0_.2.2.1 157 0 a1_.toNat)) := gi_aI hIx10_ (show 0 ≤ (S0_.2.2.1 157 0 a1_.toNat) ∧ (S0_.2.2.1 157 0 a1_.toNat) ≤ 63 from ⟨by omega, by omega⟩)
    have hFx15_ : ai_fr (sx_W vw_384t) S0_ (sm_aI (sm_pI S0_ 13 0 0 0) 158 0 a1_.toNat (S0_.2.2.1 157 0 a1_.toNat)) := ai_fr_tr hFx11_ (ai_fr_aI rfl)
    refine sm_T_go 1 (c1 := (46, [some (.inr (.inr (some (13, 0)))), some (.inl a1_), some (.inl (S0_.2.2.1 158 0 a1_.toNat))], [.inl (S0_.2.2.1 158 0 a1_.toNat)], sm_aI (sm_pI S0_ 13 0 0 0) 158 0 a1_.toNat (S0_.2.2.1 157 0 a1_.toNat))) rfl ?_
    refine sm_T_ri rfl ⟨_, _, rfl, _, rfl, hIx14_, hFx15_, ?_⟩
    first | exact ⟨⟨by omega, by omega⟩, hJ_, Or.inl ⟨rf_eq, by (unfold okr_restart; omega), fun j_ => rfl⟩⟩ | exact ⟨⟨by omega, by omega⟩, jR_nw (S_ := sm_pI S0_ 13 0 0 0) hJ_ hIx14_ J2_, Or.inr ⟨(show (sm_pI S0_ 13 0 0 0).1 13 0 0 = 0 from rf_eq), by (unfold okr_restart; omega), rfl, ⟨rd_eq.trans (if_pos rfl), fun j_ hj_ => rd_eq.trans (if_neg hj_)⟩⟩⟩
def pri (a1_ a2_ : Int) (S_ : sm_S) : Nat := (4096 * a1_ + i_or a2_ (i_shl (S_.2.2.1 158 0 a1_.toNat) (S_.2.2.1 154 0 a1_.toNat))).toNat
def ora_play (a1_ a2_ : Int) (S_ : sm_S) : Prop := (0 ≤ a1_ ∧ a1_ < 6 ∧ S_.2.2.1 153 0 a1_.toNat = 1)
def okr_play (a1_ a2_ : Int) (S_ : sm_S) : Prop := ora_play a1_ a2_ S_ ∧ (0 ≤ a2_ ∧ a2_ < 2 ^ (S_.2.2.1 154 0 a1_.toNat).toNat)
def var_play (a1_ a2_ : Int) (S_ : sm_S) : Int := S_.2.2.1 169 0 (pri a1_ a2_ S_)
def nwr_play (a1_ a2_ : Int) (S_ : sm_S) : Int := S_.2.2.1 170 0 (pri a1_ a2_ S_)
/-! M_.play -/
def vw_382t : sx_Wl := ([(13, 0)], [158], [])
def vq_382t (a1_ : Int) (a2_ : Int) (S0_ : sm_S) (u_ : Option sm_V) (S1_ : sm_S) : Prop := ∃ v_ : Int, u_ = some (.inl v_) ∧ gi S1_ ∧ ai_fr (sx_W vw_382t) S0_ S1_ ∧ (((-2147483648) ≤ v_ ∧ v_ ≤ 2147483647) ∧ (jR S1_ ∧ ((S1_.1 13 0 0 = 1 ∧ ¬ ora_play a1_ a2_ S0_ ∧ (∀ j_, S1_.2.2.1 158 0 j_ = S0_.2.2.1 158 0 j_)) ∨ (S1_.1 13 0 0 = 2 ∧ ora_play a1_ a2_ S0_ ∧ ¬ okr_play a1_ a2_ S0_ ∧ (∀ j_, S1_.2.2.1 158 0 j_ = S0_.2.2.1 158 0 j_)) ∨ (S1_.1 13 0 0 = 0 ∧ okr_play a1_ a2_ S0_ ∧ v_ = var_play a1_ a2_ S0_ ∧ (S1_.2.2.1 158 0 a1_.toNat = nwr_play a1_ a2_ S0_ ∧ ∀ j_, j_ ≠ a1_.toNat → S1_.2.2.1 158 0 j_ = S0_.2.2.1 158 0 j_)))))
set_option maxHeartbeats 400000 in
set_option maxRecDepth 20000 in
theorem vc_382t {sc_ : Nat × (Nat → Int)} (a1_ : Int) (a2_ : Int) (S0_ : sm_S) (hI_ : gi S0_) (ha1_ : (-2147483648) ≤ a1_ ∧ a1_ ≤ 2147483647) (ha2_ : (-2147483648) ≤ a2_ ∧ a2_ ≤ 2147483647) (hJ_ : jR S0_) : sm_T (mt_P sc_) 1 382 (0, [some (.inr (.inr (some (13, 0)))), some (.inl a1_), some (.inl a2_), none], [], S0_) (fun ro9_ => ∃ u_ S1_, ro9_ = (.inl u_, S1_, 0) ∧ vq_382t a1_ a2_ S0_ u_ S1_) := by
  have hF_ : ai_fr (sx_W vw_382t) S0_ S0_ := ai_fr_rf
  refine sm_T_go 3 (c1 := (3, [some (.inr (.inr (some (13, 0)))), some (.inl a1_), some (.inl a2_), none], [.inl a1_, .inr (.inr (some (13, 0))), .inr (.inr (some (13, 0)))], S0_)) rfl ?_
  refine sm_T_cal (d1 := 0) (Q1 := vq_369 a1_ S0_) rfl rfl (by decide) (vc_369 a1_ S0_ hI_ (by omega)) (fun u_ Sx1_ px4_ => ?_)
  obtain ⟨rfl, vx6_, rfl, px4_⟩ := px4_
  have d3_ := px4_
  refine sm_T_b0 (a := 1) (z := 7) rfl (fun cx7_ => ?_) (fun cx7_ => ?_)
  · have cx7_ : vx6_ ≠ 0 := of_decide_eq_true cx7_
    refine sm_T_go 4 (c1 := (19, [some (.inr (.inr (some (13, 0)))), some (.inl a1_), some (.inl a2_), none], [.inl a1_, .inr (.inr (some (154, 0))), .inl a2_, .inr (.inr (some (13, 0)))], S0_)) rfl ?_
    refine sm_T_iald (n := 6) rfl rfl (by omega) (by omega) ?_
    have bx8_ : 0 ≤ S0_.2.2.1 154 0 a1_.toNat ∧ S0_.2.2.1 154 0 a1_.toNat ≤ 12 := hI_.2 154 0 _
    refine sm_T_cal (d1 := 0) (Q1 := vq_381 a2_ (S0_.2.2.1 154 0 a1_.toNat) S0_) rfl rfl (by decide) (vc_381 a2_ (S0_.2.2.1 154 0 a1_.toNat) S0_ hI_ (by omega) (by omega)) (fun u_ Sx9_ px12_ => ?_)
    obtain ⟨rfl, vx14_, rfl, px12_⟩ := px12_
    refine sm_T_b0 (a := 1) (z := 7) rfl (fun cx15_ => ?_) (fun cx15_ => ?_)
    · have cx15_ : vx14_ ≠ 0 := of_decide_eq_true cx15_
      have D9_ : dRk a1_.toNat S0_ := hJ_.1 a1_.toNat (by omega) (by omega)
      obtain ⟨J1_, J2_, J3_, J4_⟩ := dRk_b D9_
      have q9_ := pat_c (s_ := S0_.2.2.1 158 0 a1_.toNat) (i_ := a2_) (R_ := (S0_.2.2.1 155 0 a1_.toNat).toNat) (I_ := (S0_.2.2.1 154 0 a1_.toNat).toNat) (by omega) (by omega) (by omega)
      rw [show (((S0_.2.2.1 154 0 a1_.toNat).toNat : Nat) : Int) = S0_.2.2.1 154 0 a1_.toNat by omega] at q9_
      have w9_ := pw_le (n := (S0_.2.2.1 155 0 a1_.toNat).toNat + (S0_.2.2.1 154 0 a1_.toNat).toNat) (m := 12) (by omega)
      have t9_ := J4_ (i_or a2_ (i_shl (S0_.2.2.1 158 0 a1_.toNat) (S0_.2.2.1 154 0 a1_.toNat))).toNat (pn_lt (by omega) (by rw [Nat.add_comm]; omega))
      rw [show 4096 * a1_.toNat + (i_or a2_ (i_shl (S0_.2.2.1 158 0 a1_.toNat) (S0_.2.2.1 154 0 a1_.toNat))).toNat = (4096 * a1_ + i_or a2_ (i_shl (S0_.2.2.1 158 0 a1_.toNat) (S0_.2.2.1 154 0 a1_.toNat))).toNat by omega] at t9_
      have hIx16_ : gi (sm_pI S0_ 13 0 0 0) := gi_pI hI_ (show 0 ≤ 0 ∧ 0 ≤ 4 from ⟨by omega, by omega⟩)
      have hFx17_ : ai_fr (sx_W vw_382t) S0_ (sm_pI S0_ 13 0 0 0) := ai_fr_tr hF_ (ai_fr_pI rfl)
      refine sm_T_go 7 (c1 := (47, [some (.inr (.inr (some (13, 0)))), some (.inl a1_), some (.inl a2_), none], [.inl a1_, .inl 4096], sm_pI S0_ 13 0 0 0)) rfl ?_
      refine sm_T_bin (w := 4096 * a1_) rfl (bi_mul (by omega) (by omega) (by omega)) ?_ -- pc_ 47
      refine sm_T_go 4 (c1 := (54, [some (.inr (.inr (some (13, 0)))), some (.inl a1_), some (.inl a2_), none], [.inl a1_, .inr (.inr (some (158, 0))), .inl a2_, .inl (4096 * a1_)], sm_pI S0_ 13 0 0 0)) rfl ?_
      refine sm_T_iald (n := 6) rfl rfl (by omega) (by omega) ?_
      have bx18_ : 0 ≤ S0_.2.2.1 158 0 a1_.toNat ∧ S0_.2.2.1 158 0 a1_.toNat ≤ 63 := hI_.2 158 0 _
      refine sm_T_go 3 (c1 := (60, [some (.inr (.inr (some (13, 0)))), some (.inl a1_), some (.inl a2_), none], [.inl a1_, .inr (.inr (some (154, 0))), .inl (S0_.2.2.1 158 0 a1_.toNat), .inl a2_, .inl (4096 * a1_)], sm_pI S0_ 13 0 0 0)) rfl ?_
      refine sm_T_iald (n := 6) rfl rfl (by omega) (by omega) ?_
      refine sm_T_go 0 (c1 := (61, [some (.inr (.inr (some (13, 0)))), some (.inl a1_), some (.inl a2_), none], [.inl (S0_.2.2.1 154 0 a1_.toNat), .inl (S0_.2.2.1 158 0 a1_.toNat), .inl a2_, .inl (4096 * a1_)], sm_pI S0_ 13 0 0 0)) rfl ?_
      refine sm_T_bin (w := (i_shl (S0_.2.2.1 158 0 a1_.toNat) (S0_.2.2.1 154 0 a1_.toNat))) rfl rfl ?_ -- pc_ 61
      first | have bx19_ := i_shl_1 (x_ := (S0_.2.2.1 158 0 a1_.toNat)) (e_ := (S0_.2.2.1 154 0 a1_.toNat)) (by omega) (by omega) | have bx19_ := i_shl_n (S0_.2.2.1 158 0 a1_.toNat) (S0_.2.2.1 154 0 a1_.toNat)
      refine sm_T_bin (w := (i_or a2_ (i_shl (S0_.2.2.1 158 0 a1_.toNat) (S0_.2.2.1 154 0 a1_.toNat)))) rfl rfl ?_ -- pc_ 62
      first | have bx20_ := i_orp (x_ := a2_) (y_ := (i_shl (S0_.2.2.1 158 0 a1_.toNat) (S0_.2.2.1 154 0 a1_.toNat))) (k_ := 1) (by decide) (by omega) (by omega) | have bx20_ := i_orp (x_ := a2_) (y_ := (i_shl (S0_.2.2.1 158 0 a1_.toNat) (S0_.2.2.1 154 0 a1_.toNat))) (k_ := 3) (by decide) (by omega) (by omega) | have bx20_ := i_orp (x_ := a2_) (y_ := (i_shl (S0_.2.2.1 158 0 a1_.toNat) (S0_.2.2.1 154 0 a1_.toNat))) (k_ := 4) (by decide) (by omega) (by omega) | have bx20_ := i_orp (x_ := a2_) (y_ := (i_shl (S0_.2.2.1 158 0 a1_.toNat) (S0_.2.2.1 154 0 a1_.toNat))) (k_ := 6) (by decide) (by omega) (by omega) | have bx20_ := i_orp (x_ := a2_) (y_ := (i_shl (S0_.2.2.1 158 0 a1_.toNat) (S0_.2.2.1 154 0 a1_.toNat))) (k_ := 8) (by decide) (by omega) (by omega) | have bx20_ := i_orp (x_ := a2_) (y_ := (i_shl (S0_.2.2.1 158 0 a1_.toNat) (S0_.2.2.1 154 0 a1_.toNat))) (k_ := 12) (by decide) (by omega) (by omega) | have bx20_ := i_orp (x_ := a2_) (y_ := (i_shl (S0_.2.2.1 158 0 a1_.toNat) (S0_.2.2.1 154 0 a1_.toNat))) (k_ := 16) (by decide) (by omega) (by omega) | have bx20_ := i_orp (x_ := a2_) (y_ := (i_shl (S0_.2.2.1 158 0 a1_.toNat) (S0_.2.2.1 154 0 a1_.toNat))) (k_ := 22) (by decide) (by omega) (by omega) | have bx20_ := i_orp (x_ := a2_) (y_ := (i_shl (S0_.2.2.1 158 0 a1_.toNat) (S0_.2.2.1 154 0 a1_.toNat))) (k_ := 31) (by decide) (by omega) (by omega) | have bx20_ := i_or_n a2_ (i_shl (S0_.2.2.1 158 0 a1_.toNat) (S0_.2.2.1 154 0 a1_.toNat))
      refine sm_T_bin (w := 4096 * a1_ + (i_or a2_ (i_shl (S0_.2.2.1 158 0 a1_.toNat) (S0_.2.2.1 154 0 a1_.toNat)))) rfl (bi_add (by omega) (by omega) (by omega)) ?_ -- pc_ 63
      refine sm_T_go 7 (c1 := (75, [some (.inr (.inr (some (13, 0)))), some (.inl a1_), some (.inl a2_), some (.inl (4096 * a1_ + (i_or a2_ (i_shl (S0_.2.2.1 158 0 a1_.toNat) (S0_.2.2.1 154 0 a1_.toNat)))))], [.inl (4096 * a1_ + (i_or a2_ (i_shl (S0_.2.2.1 158 0 a1_.toNat) (S0_.2.2.1 154 0 a1_.toNat)))), .inr (.inr (some (170, 0))), .inl a1_, .inr (.inr (some (158, 0)))], sm_pI S0_ 13 0 0 0)) rfl ?_
      refine sm_T_iald (n := 24576) rfl rfl (by omega) (by omega) ?_
      have bx21_ : 0 ≤ S0_.2.2.1 170 0 (4096 * a1_ + (i_or a2_ (i_shl (S0_.2.2.1 158 0 a1_.toNat) (S0_.2.2.1 154 0 a1_.toNat)))).toNat ∧ S0_.2.2.1 170 0 (4096 * a1_ + (i_or a2_ (i_shl (S0_.2.2.1 158 0 a1_.toNat) (S0_.2.2.1 154 0 a1_.toNat)))).toNat ≤ 63 := hI_.2 170 0 _
      refine sm_T_go 0 (c1 := (76, [some (.inr (.inr (some (13, 0)))), some (.inl a1_), some (.inl a2_), some (.inl (4096 * a1_ + (i_or a2_ (i_shl (S0_.2.2.1 158 0 a1_.toNat) (S0_.2.2.1 154 0 a1_.toNat)))))], [.inl (S0_.2.2.1 170 0 (4096 * a1_ + (i_or a2_ (i_shl (S0_.2.2.1 158 0 a1_.toNat) (S0_.2.2.1 154 0 a1_.toNat)))).toNat), .inl a1_, .inr (.inr (some (158, 0)))], sm_pI S0_ 13 0 0 0)) rfl ?_
      refine sm_T_iast (n := 6) rfl rfl (by omega) (by omega) ?_
      have hIx22_ : gi (sm_aI (sm_pI S0_ 13 0 0 0) 158 0 a1_.toNat (S0_.2.2.1 170 0 (4096 * a1_ + (i_or a2_ (i_shl (S0_.2.2.1 158 0 a1_.toNat) (S0_.2.2.1 154 0 a1_.toNat)))).toNat)) := gi_aI hIx16_ (show 0 ≤ (S0_.2.2.1 170 0 (4096 * a1_ + (i_or a2_ (i_shl (S0_.2.2.1 158 0 a1_.toNat) (S0_.2.2.1 154 0 a1_.toNat)))).toNat) ∧ (S0_.2.2.1 170 0 (4096 * a1_ + (i_or a2_ (i_shl (S0_.2.2.1 158 0 a1_.toNat) (S0_.2.2.1 154 0 a1_.toNat)))).toNat) ≤ 63 from ⟨by omega, by omega⟩)
      have hFx23_ : ai_fr (sx_W vw_382t) S0_ (sm_aI (sm_pI S0_ 13 0 0 0) 158 0 a1_.toNat (S0_.2.2.1 170 0 (4096 * a1_ + (i_or a2_ (i_shl (S0_.2.2.1 158 0 a1_.toNat) (S0_.2.2.1 154 0 a1_.toNat)))).toNat)) := ai_fr_tr hFx17_ (ai_fr_aI rfl)
      refine sm_T_go 3 (c1 := (82, [some (.inr (.inr (some (13, 0)))), some (.inl a1_), some (.inl a2_), some (.inl (4096 * a1_ + (i_or a2_ (i_shl (S0_.2.2.1 158 0 a1_.toNat) (S0_.2.2.1 154 0 a1_.toNat)))))], [.inl (4096 * a1_ + (i_or a2_ (i_shl (S0_.2.2.1 158 0 a1_.toNat) (S0_.2.2.1 154 0 a1_.toNat)))), .inr (.inr (some (169, 0)))], sm_aI (sm_pI S0_ 13 0 0 0) 158 0 a1_.toNat (S0_.2.2.1 170 0 (4096 * a1_ + (i_or a2_ (i_shl (S0_.2.2.1 158 0 a1_.toNat) (S0_.2.2.1 154 0 a1_.toNat)))).toNat))) rfl ?_
      refine sm_T_iald (n := 24576) rfl rfl (by omega) (by omega) ?_
      have bx24_ : 0 ≤ S0_.2.2.1 169 0 (4096 * a1_ + (i_or a2_ (i_shl (S0_.2.2.1 158 0 a1_.toNat) (S0_.2.2.1 154 0 a1_.toNat)))).toNat ∧ S0_.2.2.1 169 0 (4096 * a1_ + (i_or a2_ (i_shl (S0_.2.2.1 158 0 a1_.toNat) (S0_.2.2.1 154 0 a1_.toNat)))).toNat ≤ 65535 := hI_.2 169 0 _
      refine sm_T_go 0 (c1 := (83, [some (.inr (.inr (some (13, 0)))), some (.inl a1_), some (.inl a2_), some (.inl (4096 * a1_ + (i_or a2_ (i_shl (S0_.2.2.1 158 0 a1_.toNat) (S0_.2.2.1 154 0 a1_.toNat)))))], [.inl (S0_.2.2.1 169 0 (4096 * a1_ + (i_or a2_ (i_shl (S0_.2.2.1 158 0 a1_.toNat) (S0_.2.2.1 154 0 a1_.toNat)))).toNat)], sm_aI (sm_pI S0_ 13 0 0 0) 158 0 a1_.toNat (S0_.2.2.1 170 0 (4096 * a1_ + (i_or a2_ (i_shl (S0_.2.2.1 158 0 a1_.toNat) (S0_.2.2.1 154 0 a1_.toNat)))).toNat))) rfl ?_
      refine sm_T_ri rfl ⟨_, _, rfl, _, rfl, hIx22_, hFx23_, ?_⟩
      first | exact ⟨⟨by omega, by omega⟩, hJ_, Or.inl ⟨rf_eq, by (unfold ora_play; omega), fun j_ => rfl⟩⟩ | exact ⟨⟨by omega, by omega⟩, hJ_, Or.inr (Or.inl ⟨rf_eq, by (unfold ora_play; omega), by (unfold okr_play ora_play; omega), fun j_ => rfl⟩)⟩ | exact ⟨⟨by omega, by omega⟩, jR_nw (S_ := sm_pI S0_ 13 0 0 0) hJ_ hIx22_ t9_, Or.inr (Or.inr ⟨(show (sm_pI S0_ 13 0 0 0).1 13 0 0 = 0 from rf_eq), by (unfold okr_play ora_play; omega), rfl, ⟨rd_eq.trans (if_pos rfl), fun j_ hj_ => rd_eq.trans (if_neg hj_)⟩⟩)⟩
    · have cx15_ : ¬ (vx14_ ≠ 0) := of_decide_eq_false cx15_
      have hIx25_ : gi (sm_pI S0_ 13 0 0 2) := gi_pI hI_ (show 0 ≤ 2 ∧ 2 ≤ 4 from ⟨by omega, by omega⟩)
      have hFx26_ : ai_fr (sx_W vw_382t) S0_ (sm_pI S0_ 13 0 0 2) := ai_fr_tr hF_ (ai_fr_pI rfl)
      refine sm_T_go 7 (c1 := (42, [some (.inr (.inr (some (13, 0)))), some (.inl a1_), some (.inl a2_), none], [.inl 0], sm_pI S0_ 13 0 0 2)) rfl ?_
      refine sm_T_ri rfl ⟨_, _, rfl, _, rfl, hIx25_, hFx26_, ?_⟩
      first | exact ⟨⟨by omega, by omega⟩, hJ_, Or.inl ⟨rf_eq, by (unfold ora_play; omega), fun j_ => rfl⟩⟩ | exact ⟨⟨by omega, by omega⟩, hJ_, Or.inr (Or.inl ⟨rf_eq, by (unfold ora_play; omega), by (unfold okr_play ora_play; omega), fun j_ => rfl⟩)⟩ | exact ⟨⟨by omega, by omega⟩, jR_nw (S_ := sm_pI S0_ 13 0 0 0) hJ_ hIx25_ t9_, Or.inr (Or.inr ⟨(show (sm_pI S0_ 13 0 0 0).1 13 0 0 = 0 from rf_eq), by (unfold okr_play ora_play; omega), rfl, ⟨rd_eq.trans (if_pos rfl), fun j_ hj_ => rd_eq.trans (if_neg hj_)⟩⟩)⟩
  · have cx7_ : ¬ (vx6_ ≠ 0) := of_decide_eq_false cx7_
    have hIx27_ : gi (sm_pI S0_ 13 0 0 1) := gi_pI hI_ (show 0 ≤ 1 ∧ 1 ≤ 4 from ⟨by omega, by omega⟩)
    have hFx28_ : ai_fr (sx_W vw_382t) S0_ (sm_pI S0_ 13 0 0 1) := ai_fr_tr hF_ (ai_fr_pI rfl)
    refine sm_T_go 7 (c1 := (42, [some (.inr (.inr (some (13, 0)))), some (.inl a1_), some (.inl a2_), none], [.inl 0], sm_pI S0_ 13 0 0 1)) rfl ?_
    refine sm_T_ri rfl ⟨_, _, rfl, _, rfl, hIx27_, hFx28_, ?_⟩
    first | exact ⟨⟨by omega, by omega⟩, hJ_, Or.inl ⟨rf_eq, by (unfold ora_play; omega), fun j_ => rfl⟩⟩ | exact ⟨⟨by omega, by omega⟩, hJ_, Or.inr (Or.inl ⟨rf_eq, by (unfold ora_play; omega), by (unfold okr_play ora_play; omega), fun j_ => rfl⟩)⟩ | exact ⟨⟨by omega, by omega⟩, jR_nw (S_ := sm_pI S0_ 13 0 0 0) hJ_ hIx27_ t9_, Or.inr (Or.inr ⟨(show (sm_pI S0_ 13 0 0 0).1 13 0 0 = 0 from rf_eq), by (unfold okr_play ora_play; omega), rfl, ⟨rd_eq.trans (if_pos rfl), fun j_ hj_ => rd_eq.trans (if_neg hj_)⟩⟩)⟩
