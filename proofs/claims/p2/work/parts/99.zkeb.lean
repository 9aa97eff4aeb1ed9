/-! Router.joinPoints -/
def vw_167 : sx_Wl := ([], [23], [])
def vq_167 (a1_ : Int) (a2_ : Int) (bb_ : Nat) (S0_ : sm_S) (u_ : Option sm_V) (S1_ : sm_S) : Prop := u_ = none ∧ gi S1_ ∧ ai_fr (sx_W vw_167) S0_ S1_ ∧ (cdf bb_ S0_ S1_ ∧ (∃ s9_, ∀ j_, S1_.2.2.1 23 (0 + bb_) j_ = if j_ = (sm_mn a1_ a2_).toNat then s9_ else S0_.2.2.1 23 (0 + bb_) j_))
set_option maxHeartbeats 400000 in
theorem vc_167 {sc_ : Nat × (Nat → Int)} (a1_ : Int) (a2_ : Int) (bb_ : Nat) (S0_ : sm_S) (hI_ : gi S0_) (hb_ : S0_.2.1 8 0 0 = some bb_) (h1_ : 0 ≤ a1_ ∧ a1_ ≤ 4711) (h2_ : 0 ≤ a2_ ∧ a2_ ≤ 4711) : sm_T (mt_P sc_) 0 167 (0, [some (.inr (.inr (some (8, 0)))), some (.inl a1_), some (.inl a2_), none, none, none], [], S0_) (fun ro9_ => ∃ u_ S1_, ro9_ = (.inl u_, S1_, 0) ∧ vq_167 a1_ a2_ bb_ S0_ u_ S1_) := by
  have hF_ : ai_fr (sx_W vw_167) S0_ S0_ := ai_fr_rf
  have hC_ : cdf bb_ S0_ S0_ := cdf_rf
  refine sm_T_go 2 (c1 := (2, [some (.inr (.inr (some (8, 0)))), some (.inl a1_), some (.inl a2_), none, none, none], [.inl a2_, .inl a1_], S0_)) rfl ?_
  refine sm_T_nt (u := some (.inl (sm_mn a1_ a2_))) (S1 := S0_) rfl rfl rfl ?_
  have bx1_ := sm_mn_d a1_ a2_
  refine sm_T_go 3 (c1 := (8, [some (.inr (.inr (some (8, 0)))), some (.inl a1_), some (.inl a2_), some (.inl (sm_mn a1_ a2_)), none, none], [.inl a2_, .inl a1_], S0_)) rfl ?_
  refine sm_T_nt (u := some (.inl (sm_mx a1_ a2_))) (S1 := S0_) rfl rfl rfl ?_
  have bx2_ := sm_mx_d a1_ a2_
  refine sm_T_go 1 (c1 := (12, [some (.inr (.inr (some (8, 0)))), some (.inl a1_), some (.inl a2_), some (.inl (sm_mn a1_ a2_)), none, none], [.inl (sm_mn a1_ a2_), .inl (sm_mx a1_ a2_)], S0_)) rfl ?_
  refine sm_T_bin (w := (sm_mx a1_ a2_) - (sm_mn a1_ a2_)) rfl (bi_sub (by omega) (by omega) (by omega)) ?_ -- pc_ 12
  have bx3_ : 0 ≤ S0_.1 8 0 2 ∧ S0_.1 8 0 2 ≤ 2356 := hI_.1 8 0 2 rfl
  refine sm_T_go 4 (c1 := (21, [some (.inr (.inr (some (8, 0)))), some (.inl a1_), some (.inl a2_), some (.inl (sm_mn a1_ a2_)), some (.inl ((sm_mx a1_ a2_) - (sm_mn a1_ a2_))), none], [.inl (S0_.1 8 0 2), .inl ((sm_mx a1_ a2_) - (sm_mn a1_ a2_))], S0_)) rfl ?_
  refine sm_T_br (a := 1) (z := 7) rfl (fun cx4_ => ?_) (fun cx4_ => ?_)
  · have cx4_ : (sm_mx a1_ a2_) - (sm_mn a1_ a2_) ≠ (S0_.1 8 0 2) := of_decide_eq_true cx4_
    refine sm_T_go 2 (c1 := (31, [some (.inr (.inr (some (8, 0)))), some (.inl a1_), some (.inl a2_), some (.inl (sm_mn a1_ a2_)), some (.inl ((sm_mx a1_ a2_) - (sm_mn a1_ a2_))), none], [.inl 1, .inl ((sm_mx a1_ a2_) - (sm_mn a1_ a2_))], S0_)) rfl ?_
    refine sm_T_br (a := 1) (z := 7) rfl (fun cx5_ => ?_) (fun cx5_ => ?_)
    · have cx5_ : (sm_mx a1_ a2_) - (sm_mn a1_ a2_) ≠ 1 := of_decide_eq_true cx5_
      refine sm_T_go 3 (c1 := (42, [some (.inr (.inr (some (8, 0)))), some (.inl a1_), some (.inl a2_), some (.inl (sm_mn a1_ a2_)), some (.inl ((sm_mx a1_ a2_) - (sm_mn a1_ a2_))), some (.inl 2)], [.inr (.inr (some (8, 0)))], S0_)) rfl ?_
      refine sm_T_gr rfl rfl ((hF_.2.1 8 0 0 rfl).trans hb_) ?_
      refine sm_T_go 3 (c1 := (50, [some (.inr (.inr (some (8, 0)))), some (.inl a1_), some (.inl a2_), some (.inl (sm_mn a1_ a2_)), some (.inl ((sm_mx a1_ a2_) - (sm_mn a1_ a2_))), some (.inl 2)], [.inl (sm_mn a1_ a2_), .inr (.inr (some (23, (0 + bb_)))), .inl (sm_mn a1_ a2_), .inr (.inr (some (23, (0 + bb_))))], S0_)) rfl ?_
      refine sm_T_iald (n := 4712) rfl rfl (by omega) (by omega) ?_
      have bx6_ : 0 ≤ S0_.2.2.1 23 (0 + bb_) (sm_mn a1_ a2_).toNat ∧ S0_.2.2.1 23 (0 + bb_) (sm_mn a1_ a2_).toNat ≤ 7 := hI_.2 23 (0 + bb_) _
      refine sm_T_go 1 (c1 := (53, [some (.inr (.inr (some (8, 0)))), some (.inl a1_), some (.inl a2_), some (.inl (sm_mn a1_ a2_)), some (.inl ((sm_mx a1_ a2_) - (sm_mn a1_ a2_))), some (.inl 2)], [.inl 2, .inl (S0_.2.2.1 23 (0 + bb_) (sm_mn a1_ a2_).toNat), .inl (sm_mn a1_ a2_), .inr (.inr (some (23, (0 + bb_))))], S0_)) rfl ?_
      refine sm_T_bin (w := (i_or (S0_.2.2.1 23 (0 + bb_) (sm_mn a1_ a2_).toNat) 2)) rfl rfl ?_ -- pc_ 53
      have bx7_ := i_orp (x_ := (S0_.2.2.1 23 (0 + bb_) (sm_mn a1_ a2_).toNat)) (y_ := 2) (k_ := 3) (by decide) (by omega) (by omega)
      refine sm_T_iast (n := 4712) rfl rfl (by omega) (by omega) ?_
      have hIx8_ : gi (sm_aI S0_ 23 (0 + bb_) (sm_mn a1_ a2_).toNat (i_or (S0_.2.2.1 23 (0 + bb_) (sm_mn a1_ a2_).toNat) 2)) := gi_aI hI_ (show 0 ≤ (i_or (S0_.2.2.1 23 (0 + bb_) (sm_mn a1_ a2_).toNat) 2) ∧ (i_or (S0_.2.2.1 23 (0 + bb_) (sm_mn a1_ a2_).toNat) 2) ≤ 7 from ⟨by omega, by omega⟩)
      have hFx9_ : ai_fr (sx_W vw_167) S0_ (sm_aI S0_ 23 (0 + bb_) (sm_mn a1_ a2_).toNat (i_or (S0_.2.2.1 23 (0 + bb_) (sm_mn a1_ a2_).toNat) 2)) := ai_fr_tr hF_ (ai_fr_aI rfl)
      have hCx10_ : cdf bb_ S0_ (sm_aI S0_ 23 (0 + bb_) (sm_mn a1_ a2_).toNat (i_or (S0_.2.2.1 23 (0 + bb_) (sm_mn a1_ a2_).toNat) 2)) := cdf_aI hC_ (Or.inr (by rw [show cof 23 = 0 from rfl] <;> omega))
      refine sm_T_rv rfl ⟨_, _, rfl, rfl, hIx8_, hFx9_, ?_⟩
      refine ⟨hCx10_, ?_⟩
      exact ⟨_, fun j_ => rd_eq⟩
    · have cx5_ : ¬ ((sm_mx a1_ a2_) - (sm_mn a1_ a2_) ≠ 1) := of_decide_eq_false cx5_
      refine sm_T_go 4 (c1 := (42, [some (.inr (.inr (some (8, 0)))), some (.inl a1_), some (.inl a2_), some (.inl (sm_mn a1_ a2_)), some (.inl ((sm_mx a1_ a2_) - (sm_mn a1_ a2_))), some (.inl 1)], [.inr (.inr (some (8, 0)))], S0_)) rfl ?_
      refine sm_T_gr rfl rfl ((hF_.2.1 8 0 0 rfl).trans hb_) ?_
      refine sm_T_go 3 (c1 := (50, [some (.inr (.inr (some (8, 0)))), some (.inl a1_), some (.inl a2_), some (.inl (sm_mn a1_ a2_)), some (.inl ((sm_mx a1_ a2_) - (sm_mn a1_ a2_))), some (.inl 1)], [.inl (sm_mn a1_ a2_), .inr (.inr (some (23, (0 + bb_)))), .inl (sm_mn a1_ a2_), .inr (.inr (some (23, (0 + bb_))))], S0_)) rfl ?_
      refine sm_T_iald (n := 4712) rfl rfl (by omega) (by omega) ?_
      have bx11_ : 0 ≤ S0_.2.2.1 23 (0 + bb_) (sm_mn a1_ a2_).toNat ∧ S0_.2.2.1 23 (0 + bb_) (sm_mn a1_ a2_).toNat ≤ 7 := hI_.2 23 (0 + bb_) _
      refine sm_T_go 1 (c1 := (53, [some (.inr (.inr (some (8, 0)))), some (.inl a1_), some (.inl a2_), some (.inl (sm_mn a1_ a2_)), some (.inl ((sm_mx a1_ a2_) - (sm_mn a1_ a2_))), some (.inl 1)], [.inl 1, .inl (S0_.2.2.1 23 (0 + bb_) (sm_mn a1_ a2_).toNat), .inl (sm_mn a1_ a2_), .inr (.inr (some (23, (0 + bb_))))], S0_)) rfl ?_
      refine sm_T_bin (w := (i_or (S0_.2.2.1 23 (0 + bb_) (sm_mn a1_ a2_).toNat) 1)) rfl rfl ?_ -- pc_ 53
      have bx12_ := i_orp (x_ := (S0_.2.2.1 23 (0 + bb_) (sm_mn a1_ a2_).toNat)) (y_ := 1) (k_ := 3) (by decide) (by omega) (by omega)
      refine sm_T_iast (n := 4712) rfl rfl (by omega) (by omega) ?_
      have hIx13_ : gi (sm_aI S0_ 23 (0 + bb_) (sm_mn a1_ a2_).toNat (i_or (S0_.2.2.1 23 (0 + bb_) (sm_mn a1_ a2_).toNat) 1)) := gi_aI hI_ (show 0 ≤ (i_or (S0_.2.2.1 23 (0 + bb_) (sm_mn a1_ a2_).toNat) 1) ∧ (i_or (S0_.2.2.1 23 (0 + bb_) (sm_mn a1_ a2_).toNat) 1) ≤ 7 from ⟨by omega, by omega⟩)
      have hFx14_ : ai_fr (sx_W vw_167) S0_ (sm_aI S0_ 23 (0 + bb_) (sm_mn a1_ a2_).toNat (i_or (S0_.2.2.1 23 (0 + bb_) (sm_mn a1_ a2_).toNat) 1)) := ai_fr_tr hF_ (ai_fr_aI rfl)
      have hCx15_ : cdf bb_ S0_ (sm_aI S0_ 23 (0 + bb_) (sm_mn a1_ a2_).toNat (i_or (S0_.2.2.1 23 (0 + bb_) (sm_mn a1_ a2_).toNat) 1)) := cdf_aI hC_ (Or.inr (by rw [show cof 23 = 0 from rfl] <;> omega))
      refine sm_T_rv rfl ⟨_, _, rfl, rfl, hIx13_, hFx14_, ?_⟩
      refine ⟨hCx15_, ?_⟩
      exact ⟨_, fun j_ => rd_eq⟩
  · have cx4_ : ¬ ((sm_mx a1_ a2_) - (sm_mn a1_ a2_) ≠ (S0_.1 8 0 2)) := of_decide_eq_false cx4_
    refine sm_T_go 4 (c1 := (42, [some (.inr (.inr (some (8, 0)))), some (.inl a1_), some (.inl a2_), some (.inl (sm_mn a1_ a2_)), some (.inl ((sm_mx a1_ a2_) - (sm_mn a1_ a2_))), some (.inl 4)], [.inr (.inr (some (8, 0)))], S0_)) rfl ?_
    refine sm_T_gr rfl rfl ((hF_.2.1 8 0 0 rfl).trans hb_) ?_
    refine sm_T_go 3 (c1 := (50, [some (.inr (.inr (some (8, 0)))), some (.inl a1_), some (.inl a2_), some (.inl (sm_mn a1_ a2_)), some (.inl ((sm_mx a1_ a2_) - (sm_mn a1_ a2_))), some (.inl 4)], [.inl (sm_mn a1_ a2_), .inr (.inr (some (23, (0 + bb_)))), .inl (sm_mn a1_ a2_), .inr (.inr (some (23, (0 + bb_))))], S0_)) rfl ?_
    refine sm_T_iald (n := 4712) rfl rfl (by omega) (by omega) ?_
    have bx16_ : 0 ≤ S0_.2.2.1 23 (0 + bb_) (sm_mn a1_ a2_).toNat ∧ S0_.2.2.1 23 (0 + bb_) (sm_mn a1_ a2_).toNat ≤ 7 := hI_.2 23 (0 + bb_) _
    refine sm_T_go 1 (c1 := (53, [some (.inr (.inr (some (8, 0)))), some (.inl a1_), some (.inl a2_), some (.inl (sm_mn a1_ a2_)), some (.inl ((sm_mx a1_ a2_) - (sm_mn a1_ a2_))), some (.inl 4)], [.inl 4, .inl (S0_.2.2.1 23 (0 + bb_) (sm_mn a1_ a2_).toNat), .inl (sm_mn a1_ a2_), .inr (.inr (some (23, (0 + bb_))))], S0_)) rfl ?_
    refine sm_T_bin (w := (i_or (S0_.2.2.1 23 (0 + bb_) (sm_mn a1_ a2_).toNat) 4)) rfl rfl ?_ -- pc_ 53
    have bx17_ := i_orp (x_ := (S0_.2.2.1 23 (0 + bb_) (sm_mn a1_ a2_).toNat)) (y_ := 4) (k_ := 3) (by decide) (by omega) (by omega)
    refine sm_T_iast (n := 4712) rfl rfl (by omega) (by omega) ?_
    have hIx18_ : gi (sm_aI S0_ 23 (0 + bb_) (sm_mn a1_ a2_).toNat (i_or (S0_.2.2.1 23 (0 + bb_) (sm_mn a1_ a2_).toNat) 4)) := gi_aI hI_ (show 0 ≤ (i_or (S0_.2.2.1 23 (0 + bb_) (sm_mn a1_ a2_).toNat) 4) ∧ (i_or (S0_.2.2.1 23 (0 + bb_) (sm_mn a1_ a2_).toNat) 4) ≤ 7 from ⟨by omega, by omega⟩)
    have hFx19_ : ai_fr (sx_W vw_167) S0_ (sm_aI S0_ 23 (0 + bb_) (sm_mn a1_ a2_).toNat (i_or (S0_.2.2.1 23 (0 + bb_) (sm_mn a1_ a2_).toNat) 4)) := ai_fr_tr hF_ (ai_fr_aI rfl)
    have hCx20_ : cdf bb_ S0_ (sm_aI S0_ 23 (0 + bb_) (sm_mn a1_ a2_).toNat (i_or (S0_.2.2.1 23 (0 + bb_) (sm_mn a1_ a2_).toNat) 4)) := cdf_aI hC_ (Or.inr (by rw [show cof 23 = 0 from rfl] <;> omega))
    refine sm_T_rv rfl ⟨_, _, rfl, rfl, hIx18_, hFx19_, ?_⟩
    refine ⟨hCx20_, ?_⟩
    exact ⟨_, fun j_ => rd_eq⟩
