/-! Router.keepPins -/
def vw_154 : sx_Wl := ([], [85], [])
def vq_154 (a1_ : Int) (bb_ : Nat) (S0_ : sm_S) (u_ : Option sm_V) (S1_ : sm_S) : Prop := u_ = none ∧ gi S1_ ∧ ai_fr (sx_W vw_154) S0_ S1_ ∧ (True)
set_option maxHeartbeats 400000 in
theorem vl_154 {sc_ : Nat × (Nat → Int)} (a1_ : Int) (bb_ : Nat) (S0_ : sm_S) (hb_ : S0_.2.1 8 0 0 = some bb_) (h1_ : 0 ≤ a1_ ∧ a1_ ≤ 162) (hn_ : bpn bb_ S0_) : ∀ nn_ : Nat, (∀ (k_ : Int) (S_ : sm_S), gi S_ → ai_fr (sx_W vw_154) S0_ S_ → ((0 ≤ k_ ∧ k_ ≤ a1_) ∧ True) → ((10000 * (200 - k_) + 5000).toNat) < nn_ → sm_T (mt_P sc_) 2 154 (10, [some (.inr (.inr (some (8, 0)))), some (.inl a1_), some (.inl k_), none], [], S_) (fun ro9_ => ∃ u_ S1_, ro9_ = (.inl u_, S1_, 0) ∧ vq_154 a1_ bb_ S0_ u_ S1_)) ∧ (∀ (k_ : Int) (j_ : Int) (S_ : sm_S), gi S_ → ai_fr (sx_W vw_154) S0_ S_ → ((0 ≤ k_ ∧ k_ < a1_ ∧ 0 ≤ j_ ∧ j_ ≤ 652) ∧ True) → ((10000 * (200 - k_) + 4000 - j_).toNat) < nn_ → sm_T (mt_P sc_) 2 154 (17, [some (.inr (.inr (some (8, 0)))), some (.inl a1_), some (.inl k_), some (.inl j_)], [], S_) (fun ro9_ => ∃ u_ S1_, ro9_ = (.inl u_, S1_, 0) ∧ vq_154 a1_ bb_ S0_ u_ S1_)) := by
  intro nn_
  induction nn_ with
  | zero => exact ⟨fun _ _ _ _ _ h_ => absurd h_ (Nat.not_lt_zero _), fun _ _ _ _ _ _ h_ => absurd h_ (Nat.not_lt_zero _)⟩
  | succ nn_ ih_ =>
    refine ⟨?_, ?_⟩
    · rintro k_ S_ hI_ hF_ ⟨h0_, -⟩ hm_
      refine sm_T_go 2 (c1 := (12, [some (.inr (.inr (some (8, 0)))), some (.inl a1_), some (.inl k_), none], [.inl a1_, .inl k_], S_)) rfl ?_
      refine sm_T_br (a := 3) (z := 52) rfl (fun cx1_ => ?_) (fun cx1_ => ?_)
      · have cx1_ : a1_ ≤ k_ := of_decide_eq_true cx1_
        refine sm_T_rv rfl ⟨_, _, rfl, rfl, hI_, hF_, ?_⟩
        trivial
      · have cx1_ : ¬ (a1_ ≤ k_) := of_decide_eq_false cx1_
        refine sm_T_go 2 (c1 := (17, [some (.inr (.inr (some (8, 0)))), some (.inl a1_), some (.inl k_), some (.inl 0)], [], S_)) rfl ?_
        refine ih_.2 k_ 0 S_ hI_ hF_ ⟨?_, trivial⟩ ?_
        · omega
        · omega
    · rintro k_ j_ S_ hI_ hF_ ⟨h0_, -⟩ hm_
      refine sm_T_go 2 (c1 := (19, [some (.inr (.inr (some (8, 0)))), some (.inl a1_), some (.inl k_), some (.inl j_)], [.inr (.inr (some (8, 0))), .inl j_], S_)) rfl ?_
      refine sm_T_gr rfl rfl ((hF_.2.1 8 0 0 rfl).trans hb_) ?_
      refine sm_T_go 2 (c1 := (26, [some (.inr (.inr (some (8, 0)))), some (.inl a1_), some (.inl k_), some (.inl j_)], [.inl k_, .inr (.inr (some (20, (0 + bb_)))), .inl j_], S_)) rfl ?_
      refine sm_T_iald (n := 162) rfl rfl (by omega) (by omega) ?_
      have bx1_ : 0 ≤ S_.2.2.1 20 (0 + bb_) k_.toNat ∧ S_.2.2.1 20 (0 + bb_) k_.toNat ≤ 652 := hI_.2 20 (0 + bb_) _
      refine sm_T_br (a := 3) (z := 31) rfl (fun cx2_ => ?_) (fun cx2_ => ?_)
      · have cx2_ : (S_.2.2.1 20 (0 + bb_) k_.toNat) ≤ j_ := of_decide_eq_true cx2_
        refine sm_T_inc (a := 2) (z := 1) (v := k_) (w := k_ + 1) rfl rfl (by omega) (by omega) (by omega) ?_ -- pc_ 58
        refine sm_T_go 1 (c1 := (10, [some (.inr (.inr (some (8, 0)))), some (.inl a1_), some (.inl (k_ + 1)), some (.inl j_)], [], S_)) rfl ?_
        refine sm_T_wk [some (.inr (.inr (some (8, 0)))), some (.inl a1_), some (.inl (k_ + 1)), none] (by exact ⟨rfl, rfl, rfl, trivial⟩) ?_
        refine ih_.1 (k_ + 1) S_ hI_ hF_ ⟨?_, trivial⟩ ?_
        · omega
        · omega
      · have cx2_ : ¬ ((S_.2.2.1 20 (0 + bb_) k_.toNat) ≤ j_) := of_decide_eq_false cx2_
        refine sm_T_go 3 (c1 := (35, [some (.inr (.inr (some (8, 0)))), some (.inl a1_), some (.inl k_), some (.inl j_)], [.inr (.inr (some (8, 0))), .inr (.inr (some (85, 0)))], S_)) rfl ?_
        refine sm_T_gr rfl rfl ((hF_.2.1 8 0 0 rfl).trans hb_) ?_
        refine sm_T_go 1 (c1 := (39, [some (.inr (.inr (some (8, 0)))), some (.inl a1_), some (.inl k_), some (.inl j_)], [.inr (.inr (some (8, 0))), .inr (.inr (some (0, bb_))), .inr (.inr (some (85, 0)))], S_)) rfl ?_
        refine sm_T_gr rfl rfl ((hF_.2.1 8 0 0 rfl).trans hb_) ?_
        refine sm_T_go 2 (c1 := (44, [some (.inr (.inr (some (8, 0)))), some (.inl a1_), some (.inl k_), some (.inl j_)], [.inl j_, .inl k_, .inr (.inr (some (0, bb_))), .inr (.inr (some (0, bb_))), .inr (.inr (some (85, 0)))], S_)) rfl ?_
        refine sm_T_cal (d1 := 0) (Q1 := vq_14 k_ j_ bb_ S_) rfl rfl (by decide) (vc_14 k_ j_ bb_ S_ hI_ (by omega) (by omega) (by exact bpn_fr hn_ hF_ rfl rfl rfl rfl)) (fun u_ Sx3_ px6_ => ?_)
        obtain ⟨rfl, vx8_, rfl, px6_⟩ := px6_
        have p9_ := px6_.1
        refine sm_T_cal (d1 := 1) (Q1 := vq_19 vx8_ bb_ S_) rfl rfl (by decide) (vc_19 vx8_ bb_ S_ hI_ (by omega)) (fun u_ Sx9_ px12_ => ?_)
        obtain ⟨rfl, vx14_, rfl, px12_⟩ := px12_
        have q9_ := px12_.1
        refine sm_T_go 1 (c1 := (51, [some (.inr (.inr (some (8, 0)))), some (.inl a1_), some (.inl k_), some (.inl j_)], [.inl k_, .inl vx14_, .inr (.inr (some (85, 0)))], S_)) rfl ?_
        refine sm_T_iast (n := 4712) rfl rfl (by omega) (by omega) ?_
        have hIx15_ : gi (sm_aI S_ 85 0 vx14_.toNat k_) := gi_aI hI_ (show (-1) ≤ k_ ∧ k_ ≤ 161 from ⟨by omega, by omega⟩)
        have hFx16_ : ai_fr (sx_W vw_154) S0_ (sm_aI S_ 85 0 vx14_.toNat k_) := ai_fr_tr hF_ (ai_fr_aI rfl)
        refine sm_T_inc (a := 3) (z := 1) (v := j_) (w := j_ + 1) rfl rfl (by omega) (by omega) (by omega) ?_ -- pc_ 52
        refine sm_T_go 1 (c1 := (17, [some (.inr (.inr (some (8, 0)))), some (.inl a1_), some (.inl k_), some (.inl (j_ + 1))], [], sm_aI S_ 85 0 vx14_.toNat k_)) rfl ?_
        refine ih_.2 k_ (j_ + 1) (sm_aI S_ 85 0 vx14_.toNat k_) hIx15_ hFx16_ ⟨?_, trivial⟩ ?_
        · omega
        · omega
set_option maxHeartbeats 400000 in
theorem vc_154 {sc_ : Nat × (Nat → Int)} (a1_ : Int) (bb_ : Nat) (S0_ : sm_S) (hI_ : gi S0_) (hb_ : S0_.2.1 8 0 0 = some bb_) (h1_ : 0 ≤ a1_ ∧ a1_ ≤ 162) (hn_ : bpn bb_ S0_) : sm_T (mt_P sc_) 2 154 (0, [some (.inr (.inr (some (8, 0)))), some (.inl a1_), none, none], [], S0_) (fun ro9_ => ∃ u_ S1_, ro9_ = (.inl u_, S1_, 0) ∧ vq_154 a1_ bb_ S0_ u_ S1_) := by
  have hF_ : ai_fr (sx_W vw_154) S0_ S0_ := ai_fr_rf
  refine sm_T_go 3 (c1 := (5, [some (.inr (.inr (some (8, 0)))), some (.inl a1_), none, none], [.inl (-1), .inr (.inr (some (85, 0)))], S0_)) rfl ?_
  refine sm_T_cal (d1 := 0) (Q1 := vq_2k5 (-1) S0_) rfl rfl (by decide) (vc_2k5 (-1) S0_ hI_ (by decide)) (fun u_ Sx1_ px4_ => ?_)
  obtain ⟨rfl, hIx2_, hFx3_, px4_⟩ := px4_
  have hFx5_ : ai_fr (sx_W vw_154) S0_ Sx1_ := ai_fr_tr hF_ (fr_le hFx3_ rfl)
  refine sm_T_go 2 (c1 := (10, [some (.inr (.inr (some (8, 0)))), some (.inl a1_), some (.inl 0), none], [], Sx1_)) rfl ?_
  refine (vl_154 a1_ bb_ S0_ hb_ h1_ hn_ _).1 0 Sx1_ hIx2_ hFx5_ ⟨?_, trivial⟩ (Nat.lt_succ_self _)
  · omega
