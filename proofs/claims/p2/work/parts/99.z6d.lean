/-! ChipFlow.library -/
def vw_214 : sx_Wl := ([(5, 0), (5, 1), (5, 2), (7, 2), (7, 14), (7, 16), (7, 17), (10, 1), (10, 2), (10, 3), (10, 4), (10, 5), (10, 6), (10, 7), (10, 8), (12, 10)], [55, 56, 57, 58, 74, 77, 78, 82, 83, 84], [(7, 11)])
def vq_214 (b_ : Nat → Int) (n_ : Nat) (S0_ : sm_S) (u_ : Option sm_V) (S1_ : sm_S) : Prop := ∃ v_ : Int, u_ = some (.inl v_) ∧ gi S1_ ∧ ai_fr (sx_W vw_214) S0_ S1_ ∧ (∃ sl_ : Nat, sl_ < 3 ∧ S0_.1 5 sl_ 0 = 0 ∧ (∀ j_ : Nat, j_ < sl_ → S0_.1 5 j_ 0 = 1) ∧ (S1_.1 10 0 1) = 0 ∧ ((∃ e_, p_li b_ n_ = .inl e_ ∧ v_ = -1 - (e_.2 : Int) ∧ (S1_.1 12 0 10) = e_.1 ∧ ∀ j_ : Nat, S1_.1 5 j_ 0 = S0_.1 5 j_ 0) ∨ ((∃ r_, p_li b_ n_ = .inr r_) ∧ v_ = (sl_ : Int) ∧ (S1_.1 12 0 10) = 0 ∧ ∀ j_ : Nat, S1_.1 5 j_ 0 = if j_ = sl_ then 1 else S0_.1 5 j_ 0)))
def vx_214 (b_ : Nat → Int) (n_ : Nat) (S0_ : sm_S) (S1_ : sm_S) : Prop := gi S1_ ∧ ai_fr (sx_W vw_214) S0_ S1_ ∧ ((∀ j_ : Nat, j_ < 3 → S0_.1 5 j_ 0 = 1) ∧ (S1_.1 10 0 1) = (S0_.1 10 0 1) ∧ ∀ j_ : Nat, S1_.1 5 j_ 0 = S0_.1 5 j_ 0)
set_option maxHeartbeats 1000000 in
theorem vc_214 {sc_ : Nat × (Nat → Int)} (b_ : Nat → Int) (n_ : Nat) (S0_ : sm_S) (hI_ : gi S0_) (hb_ : S0_.2.2.1 98 0 = b_) (hn_ : (S0_.1 10 0 1) = (n_ : Int)) (hn1_ : n_ ≤ 1280) : sm_T (mt_P sc_) 6 214 (0, [some (.inr (.inr (some (12, 0)))), none, none, none], [], S0_) (fun r_ => (∃ u_ S1_ k9_, r_ = (.inl u_, S1_, k9_) ∧ k9_ ≤ 1 ∧ vq_214 b_ n_ S0_ u_ S1_) ∨ ∃ S1_, r_ = (.inr 3, S1_, 1) ∧ vx_214 b_ n_ S0_ S1_) := by
  have hF_ : ai_fr (sx_W vw_214) S0_ S0_ := ai_fr_rf
  refine sm_T_go 1 (c1 := (1, [some (.inr (.inr (some (12, 0)))), none, none, none], [.inr (.inr (some (12, 0)))], S0_)) rfl ?_
  refine sm_T_cal (d1 := 0) (Q1 := vq_274  S0_) rfl rfl (by decide) (vc_274  S0_ hI_ ) (fun u_ Sx1_ px4_ => ?_)
  obtain ⟨rfl, vx6_, rfl, px4_⟩ := px4_
  obtain ⟨sl_, hsl_⟩ : ∃ sl_ : Nat, (vx6_ = -1 ∧ ∀ j_ : Nat, j_ < 3 → S0_.1 5 j_ 0 = 1) ∨ (vx6_ = (sl_ : Int) ∧ sl_ < 3 ∧ S0_.1 5 sl_ 0 = 0 ∧ ∀ j_ : Nat, j_ < sl_ → S0_.1 5 j_ 0 = 1) := by rcases px4_ with z_ | ⟨u_, z_⟩; exact ⟨0, Or.inl z_⟩; exact ⟨u_, Or.inr z_⟩
  clear px4_
  refine sm_T_go 3 (c1 := (7, [some (.inr (.inr (some (12, 0)))), some (.inl vx6_), none, none], [.inl (-1), .inl vx6_], S0_)) rfl ?_
  refine sm_T_br (a := 0) (z := 7) rfl (fun cx7_ => ?_) (fun cx7_ => ?_)
  · have cx7_ : vx6_ = (-1) := of_decide_eq_true cx7_
    have ha0_ : ∀ j_ : Nat, j_ < 3 → S0_.1 5 j_ 0 = 1 := by rcases hsl_ with z_ | z_; exact z_.2; (exfalso; have := z_.1; omega)
    clear hsl_
    refine sm_T_go 1 (c1 := (15, [some (.inr (.inr (some (12, 0)))), some (.inl vx6_), none, none], [.inl 0], S0_)) rfl ?_
    refine sm_T_calg (d1_ := 0) (ex_ := 3) (Q1_ := vq_268 0 S0_) (Q2_ := vx_268 0 S0_) rfl rfl (by decide) (vc_268 0 S0_ hI_ ) rfl rfl (fun Sx8_ px11_ => ?_) (fun u_ Sx8_ px11_ => ?_)
    · obtain ⟨hIx9_, hFx10_, px11_⟩ := px11_
      refine Or.inr ⟨_, rfl, hIx9_, ai_fr_tr hF_ (fr_le hFx10_ rfl), ?_⟩
      obtain ⟨z1_, rfl⟩ := px11_
      first | (exact absurd z1_ (by decide)) | (exact ⟨ha0_, rfl, fun j_ => rfl⟩)
    obtain ⟨rfl, hIx9_, hFx10_, px11_⟩ := px11_
    have hFx12_ : ai_fr (sx_W vw_214) S0_ Sx8_ := ai_fr_tr hF_ (fr_le hFx10_ rfl)
    have e15_ := px11_
    have hb15_ := (fr_arr (t := 98) (i := 0) hFx10_ rfl).trans hb_
    have hn15_ := (hFx10_.1 10 0 1 rfl).trans hn_
    have us15_ : ∀ j_ : Nat, Sx8_.1 5 j_ 0 = S0_.1 5 j_ 0 := fun j_ => hFx10_.1 5 j_ 0 rfl
    have hIx13_ : gi (sm_pI Sx8_ 12 0 10 0) := gi_pI hIx9_ (show 0 ≤ 0 ∧ 0 ≤ 23 from ⟨by omega, by omega⟩)
    have hFx14_ : ai_fr (sx_W vw_214) S0_ (sm_pI Sx8_ 12 0 10 0) := ai_fr_tr hFx12_ (ai_fr_pI rfl)
    refine sm_T_go 10 (c1 := (34, [some (.inr (.inr (some (12, 0)))), some (.inl vx6_), some (.inl vx6_), none], [.inl vx6_, .inr (.inr (some (111, 0))), .inr (.inr (some (7, 0)))], sm_pI Sx8_ 12 0 10 0)) rfl ?_
    refine sm_T_aald (t0 := 5) (n := 3) rfl rfl (by omega) (by omega) ?_
    refine sm_T_calh (d1_ := 5) (ex_ := 2) (Q1_ := vq_131 b_ n_ vx6_.toNat (sm_pI Sx8_ 12 0 10 0)) (Q2_ := vx_131 b_ n_ vx6_.toNat (sm_pI Sx8_ 12 0 10 0)) rfl rfl (by decide) (vc_131 b_ n_ vx6_.toNat (sm_pI Sx8_ 12 0 10 0) hIx13_ (by exact hb15_) (by exact hn15_) (by exact hn1_)) rfl rfl (Nat.le_of_ble_eq_true rfl) (fun Sx15_ px18_ => ?_) (fun u_ Sx15_ px18_ => ?_)
    · obtain ⟨hIx16_, hFx17_, px18_⟩ := px18_
      have hFx19_ : ai_fr (sx_W vw_214) S0_ Sx15_ := ai_fr_tr hFx14_ (fr_le hFx17_ rfl)
      obtain ⟨e9_, w1_, w2_, w3_⟩ := px18_
      have ee_ := w2_
      refine sm_T_go 0 (c1 := (42, [some (.inr (.inr (some (12, 0)))), some (.inl vx6_), some (.inl vx6_), none], [], Sx15_)) rfl ?_
      have bx20_ : 0 ≤ Sx15_.1 10 0 6 ∧ Sx15_.1 10 0 6 ≤ 23 := hIx16_.1 10 0 6 rfl
      have hIx21_ : gi (sm_pI Sx15_ 12 0 10 (Sx15_.1 10 0 6)) := gi_pI hIx16_ (show 0 ≤ (Sx15_.1 10 0 6) ∧ (Sx15_.1 10 0 6) ≤ 23 from ⟨by omega, by omega⟩)
      have hFx22_ : ai_fr (sx_W vw_214) S0_ (sm_pI Sx15_ 12 0 10 (Sx15_.1 10 0 6)) := ai_fr_tr hFx19_ (ai_fr_pI rfl)
      have bx23_ : 0 ≤ Sx15_.1 10 0 7 ∧ Sx15_.1 10 0 7 ≤ 4095 := hIx16_.1 10 0 7 rfl
      refine sm_T_go 9 (c1 := (61, [some (.inr (.inr (some (12, 0)))), some (.inl vx6_), some (.inl vx6_), none], [.inl (Sx15_.1 10 0 7), .inl (-1)], sm_pI Sx15_ 12 0 10 (Sx15_.1 10 0 6))) rfl ?_
      refine sm_T_bin (w := -(Sx15_.1 10 0 7) - 1) rfl (bi_sub (by omega) (by omega) (by omega)) ?_
      have hIx24_ : gi (sm_pI (sm_pI Sx15_ 12 0 10 (Sx15_.1 10 0 6)) 10 0 1 0) := gi_pI hIx21_ (show 0 ≤ 0 ∧ 0 ≤ 1280 from ⟨by omega, by omega⟩)
      have hFx25_ : ai_fr (sx_W vw_214) S0_ (sm_pI (sm_pI Sx15_ 12 0 10 (Sx15_.1 10 0 6)) 10 0 1 0) := ai_fr_tr hFx22_ (ai_fr_pI rfl)
      refine sm_T_go 6 (c1 := (72, [some (.inr (.inr (some (12, 0)))), some (.inl vx6_), some (.inl (-(Sx15_.1 10 0 7) - 1)), none], [.inl (-(Sx15_.1 10 0 7) - 1)], sm_pI (sm_pI Sx15_ 12 0 10 (Sx15_.1 10 0 6)) 10 0 1 0)) rfl ?_
      refine sm_T_ri rfl (Or.inl ⟨_, _, _, rfl, Nat.le_of_ble_eq_true rfl, _, rfl, hIx24_, hFx25_, ?_⟩)
      first | (exact absurd rfl e15_) | (refine ⟨sl_, hs2_, hs3_, hs4_, rf_eq, Or.inr ⟨⟨r9_, w1_⟩, hs1_, ?_, fun j_ => ?_⟩⟩; (exact (rf_nt (by decide)).trans (lf35_.trans rf_eq)); (refine (rf_nt (by decide)).trans ((w3_ j_).trans ?_); rw [hs1_, Int.toNat_natCast]; by_cases z_ : j_ = sl_; (rw [if_pos z_, if_pos z_]); (rw [if_neg z_, if_neg z_]; exact (rf_nt (by decide)).trans (us15_ j_)))) | (refine ⟨sl_, hs2_, hs3_, hs4_, rf_eq, Or.inl ⟨e9_, w1_, ?_, ?_, fun j_ => ?_⟩⟩; (rw [← ee_.2]; omega); (refine (rf_nt (by decide)).trans (rf_eq.trans ee_.1)); (refine (rf_nt (by decide)).trans ((rf_nt (by decide)).trans ((w3_ j_).trans ((rf_nt (by decide)).trans (us15_ j_))))))
    obtain ⟨rfl, hIx16_, hFx17_, px18_⟩ := px18_
    have hFx19_ : ai_fr (sx_W vw_214) S0_ Sx15_ := ai_fr_tr hFx14_ (fr_le hFx17_ rfl)
    obtain ⟨r9_, w1_, w3_⟩ := px18_
    have lf35_ := hFx17_.1 12 0 10 rfl
    have hIx26_ : gi (sm_pI Sx15_ 10 0 1 0) := gi_pI hIx16_ (show 0 ≤ 0 ∧ 0 ≤ 1280 from ⟨by omega, by omega⟩)
    have hFx27_ : ai_fr (sx_W vw_214) S0_ (sm_pI Sx15_ 10 0 1 0) := ai_fr_tr hFx19_ (ai_fr_pI rfl)
    refine sm_T_go 6 (c1 := (72, [some (.inr (.inr (some (12, 0)))), some (.inl vx6_), some (.inl vx6_), none], [.inl vx6_], sm_pI Sx15_ 10 0 1 0)) rfl ?_
    refine sm_T_ri rfl (Or.inl ⟨_, _, _, rfl, Nat.le_of_ble_eq_true rfl, _, rfl, hIx26_, hFx27_, ?_⟩)
    first | (exact absurd rfl e15_) | (refine ⟨sl_, hs2_, hs3_, hs4_, rf_eq, Or.inr ⟨⟨r9_, w1_⟩, hs1_, ?_, fun j_ => ?_⟩⟩; (exact (rf_nt (by decide)).trans (lf35_.trans rf_eq)); (refine (rf_nt (by decide)).trans ((w3_ j_).trans ?_); rw [hs1_, Int.toNat_natCast]; by_cases z_ : j_ = sl_; (rw [if_pos z_, if_pos z_]); (rw [if_neg z_, if_neg z_]; exact (rf_nt (by decide)).trans (us15_ j_)))) | (refine ⟨sl_, hs2_, hs3_, hs4_, rf_eq, Or.inl ⟨e9_, w1_, ?_, ?_, fun j_ => ?_⟩⟩; (rw [← ee_.2]; omega); (refine (rf_nt (by decide)).trans (rf_eq.trans ee_.1)); (refine (rf_nt (by decide)).trans ((rf_nt (by decide)).trans ((w3_ j_).trans ((rf_nt (by decide)).trans (us15_ j_))))))
  · have cx7_ : ¬ (vx6_ = (-1)) := of_decide_eq_false cx7_
    obtain ⟨hs1_, hs2_, hs3_, hs4_⟩ : _ = (sl_ : Int) ∧ sl_ < 3 ∧ S0_.1 5 sl_ 0 = 0 ∧ ∀ j_ : Nat, j_ < sl_ → S0_.1 5 j_ 0 = 1 := by rcases hsl_ with z_ | z_; (exact absurd z_.1 cx7_); exact z_
    clear hsl_
    refine sm_T_go 2 (c1 := (15, [some (.inr (.inr (some (12, 0)))), some (.inl vx6_), none, none], [.inl 1], S0_)) rfl ?_
    refine sm_T_calg (d1_ := 0) (ex_ := 3) (Q1_ := vq_268 1 S0_) (Q2_ := vx_268 1 S0_) rfl rfl (by decide) (vc_268 1 S0_ hI_ ) rfl rfl (fun Sx28_ px31_ => ?_) (fun u_ Sx28_ px31_ => ?_)
    · obtain ⟨hIx29_, hFx30_, px31_⟩ := px31_
      refine Or.inr ⟨_, rfl, hIx29_, ai_fr_tr hF_ (fr_le hFx30_ rfl), ?_⟩
      obtain ⟨z1_, rfl⟩ := px31_
      first | (exact absurd z1_ (by decide)) | (exact ⟨ha0_, rfl, fun j_ => rfl⟩)
    obtain ⟨rfl, hIx29_, hFx30_, px31_⟩ := px31_
    have hFx32_ : ai_fr (sx_W vw_214) S0_ Sx28_ := ai_fr_tr hF_ (fr_le hFx30_ rfl)
    have e15_ := px31_
    have hb15_ := (fr_arr (t := 98) (i := 0) hFx30_ rfl).trans hb_
    have hn15_ := (hFx30_.1 10 0 1 rfl).trans hn_
    have us15_ : ∀ j_ : Nat, Sx28_.1 5 j_ 0 = S0_.1 5 j_ 0 := fun j_ => hFx30_.1 5 j_ 0 rfl
    have hIx33_ : gi (sm_pI Sx28_ 12 0 10 0) := gi_pI hIx29_ (show 0 ≤ 0 ∧ 0 ≤ 23 from ⟨by omega, by omega⟩)
    have hFx34_ : ai_fr (sx_W vw_214) S0_ (sm_pI Sx28_ 12 0 10 0) := ai_fr_tr hFx32_ (ai_fr_pI rfl)
    refine sm_T_go 10 (c1 := (34, [some (.inr (.inr (some (12, 0)))), some (.inl vx6_), some (.inl vx6_), none], [.inl vx6_, .inr (.inr (some (111, 0))), .inr (.inr (some (7, 0)))], sm_pI Sx28_ 12 0 10 0)) rfl ?_
    refine sm_T_aald (t0 := 5) (n := 3) rfl rfl (by omega) (by omega) ?_
    refine sm_T_calh (d1_ := 5) (ex_ := 2) (Q1_ := vq_131 b_ n_ vx6_.toNat (sm_pI Sx28_ 12 0 10 0)) (Q2_ := vx_131 b_ n_ vx6_.toNat (sm_pI Sx28_ 12 0 10 0)) rfl rfl (by decide) (vc_131 b_ n_ vx6_.toNat (sm_pI Sx28_ 12 0 10 0) hIx33_ (by exact hb15_) (by exact hn15_) (by exact hn1_)) rfl rfl (Nat.le_of_ble_eq_true rfl) (fun Sx35_ px38_ => ?_) (fun u_ Sx35_ px38_ => ?_)
    · obtain ⟨hIx36_, hFx37_, px38_⟩ := px38_
      have hFx39_ : ai_fr (sx_W vw_214) S0_ Sx35_ := ai_fr_tr hFx34_ (fr_le hFx37_ rfl)
      obtain ⟨e9_, w1_, w2_, w3_⟩ := px38_
      have ee_ := w2_
      refine sm_T_go 0 (c1 := (42, [some (.inr (.inr (some (12, 0)))), some (.inl vx6_), some (.inl vx6_), none], [], Sx35_)) rfl ?_
      have bx40_ : 0 ≤ Sx35_.1 10 0 6 ∧ Sx35_.1 10 0 6 ≤ 23 := hIx36_.1 10 0 6 rfl
      have hIx41_ : gi (sm_pI Sx35_ 12 0 10 (Sx35_.1 10 0 6)) := gi_pI hIx36_ (show 0 ≤ (Sx35_.1 10 0 6) ∧ (Sx35_.1 10 0 6) ≤ 23 from ⟨by omega, by omega⟩)
      have hFx42_ : ai_fr (sx_W vw_214) S0_ (sm_pI Sx35_ 12 0 10 (Sx35_.1 10 0 6)) := ai_fr_tr hFx39_ (ai_fr_pI rfl)
      have bx43_ : 0 ≤ Sx35_.1 10 0 7 ∧ Sx35_.1 10 0 7 ≤ 4095 := hIx36_.1 10 0 7 rfl
      refine sm_T_go 9 (c1 := (61, [some (.inr (.inr (some (12, 0)))), some (.inl vx6_), some (.inl vx6_), none], [.inl (Sx35_.1 10 0 7), .inl (-1)], sm_pI Sx35_ 12 0 10 (Sx35_.1 10 0 6))) rfl ?_
      refine sm_T_bin (w := -(Sx35_.1 10 0 7) - 1) rfl (bi_sub (by omega) (by omega) (by omega)) ?_
      have hIx44_ : gi (sm_pI (sm_pI Sx35_ 12 0 10 (Sx35_.1 10 0 6)) 10 0 1 0) := gi_pI hIx41_ (show 0 ≤ 0 ∧ 0 ≤ 1280 from ⟨by omega, by omega⟩)
      have hFx45_ : ai_fr (sx_W vw_214) S0_ (sm_pI (sm_pI Sx35_ 12 0 10 (Sx35_.1 10 0 6)) 10 0 1 0) := ai_fr_tr hFx42_ (ai_fr_pI rfl)
      refine sm_T_go 6 (c1 := (72, [some (.inr (.inr (some (12, 0)))), some (.inl vx6_), some (.inl (-(Sx35_.1 10 0 7) - 1)), none], [.inl (-(Sx35_.1 10 0 7) - 1)], sm_pI (sm_pI Sx35_ 12 0 10 (Sx35_.1 10 0 6)) 10 0 1 0)) rfl ?_
      refine sm_T_ri rfl (Or.inl ⟨_, _, _, rfl, Nat.le_of_ble_eq_true rfl, _, rfl, hIx44_, hFx45_, ?_⟩)
      first | (exact absurd rfl e15_) | (refine ⟨sl_, hs2_, hs3_, hs4_, rf_eq, Or.inr ⟨⟨r9_, w1_⟩, hs1_, ?_, fun j_ => ?_⟩⟩; (exact (rf_nt (by decide)).trans (lf35_.trans rf_eq)); (refine (rf_nt (by decide)).trans ((w3_ j_).trans ?_); rw [hs1_, Int.toNat_natCast]; by_cases z_ : j_ = sl_; (rw [if_pos z_, if_pos z_]); (rw [if_neg z_, if_neg z_]; exact (rf_nt (by decide)).trans (us15_ j_)))) | (refine ⟨sl_, hs2_, hs3_, hs4_, rf_eq, Or.inl ⟨e9_, w1_, ?_, ?_, fun j_ => ?_⟩⟩; (rw [← ee_.2]; omega); (refine (rf_nt (by decide)).trans (rf_eq.trans ee_.1)); (refine (rf_nt (by decide)).trans ((rf_nt (by decide)).trans ((w3_ j_).trans ((rf_nt (by decide)).trans (us15_ j_))))))
    obtain ⟨rfl, hIx36_, hFx37_, px38_⟩ := px38_
    have hFx39_ : ai_fr (sx_W vw_214) S0_ Sx35_ := ai_fr_tr hFx34_ (fr_le hFx37_ rfl)
    obtain ⟨r9_, w1_, w3_⟩ := px38_
    have lf35_ := hFx37_.1 12 0 10 rfl
    have hIx46_ : gi (sm_pI Sx35_ 10 0 1 0) := gi_pI hIx36_ (show 0 ≤ 0 ∧ 0 ≤ 1280 from ⟨by omega, by omega⟩)
    have hFx47_ : ai_fr (sx_W vw_214) S0_ (sm_pI Sx35_ 10 0 1 0) := ai_fr_tr hFx39_ (ai_fr_pI rfl)
    refine sm_T_go 6 (c1 := (72, [some (.inr (.inr (some (12, 0)))), some (.inl vx6_), some (.inl vx6_), none], [.inl vx6_], sm_pI Sx35_ 10 0 1 0)) rfl ?_
    refine sm_T_ri rfl (Or.inl ⟨_, _, _, rfl, Nat.le_of_ble_eq_true rfl, _, rfl, hIx46_, hFx47_, ?_⟩)
    first | (exact absurd rfl e15_) | (refine ⟨sl_, hs2_, hs3_, hs4_, rf_eq, Or.inr ⟨⟨r9_, w1_⟩, hs1_, ?_, fun j_ => ?_⟩⟩; (exact (rf_nt (by decide)).trans (lf35_.trans rf_eq)); (refine (rf_nt (by decide)).trans ((w3_ j_).trans ?_); rw [hs1_, Int.toNat_natCast]; by_cases z_ : j_ = sl_; (rw [if_pos z_, if_pos z_]); (rw [if_neg z_, if_neg z_]; exact (rf_nt (by decide)).trans (us15_ j_)))) | (refine ⟨sl_, hs2_, hs3_, hs4_, rf_eq, Or.inl ⟨e9_, w1_, ?_, ?_, fun j_ => ?_⟩⟩; (rw [← ee_.2]; omega); (refine (rf_nt (by decide)).trans (rf_eq.trans ee_.1)); (refine (rf_nt (by decide)).trans ((rf_nt (by decide)).trans ((w3_ j_).trans ((rf_nt (by decide)).trans (us15_ j_))))))
