/-! Tester.leastPattern -/
def vw_177 : sx_Wl := ([(9, 1), (9, 2), (9, 3)], [92, 93, 94, 95, 96], [(9, 0)])
def vq_177 (a2_ : Int) (cc_ : Nat) (S0_ : sm_S) (u_ : Option sm_V) (S1_ : sm_S) : Prop := ∃ v_ : Int, u_ = some (.inl v_) ∧ gi S1_ ∧ ai_fr (sx_W vw_177) S0_ S1_ ∧ ((-1 ≤ v_ ∧ v_ ≤ 4095) ∧ shn S1_)
set_option maxHeartbeats 400000 in
theorem vl_177 {sc_ : Nat × (Nat → Int)} (a2_ : Int) (cc_ : Nat) (S0_ : sm_S) (hs_ : S0_.1 2 cc_ 1 + S0_.1 2 cc_ 2 ≤ 12) (h2_ : 0 ≤ a2_ ∧ a2_ ≤ 1223) (hn_ : shn S0_) : ∀ nn_ : Nat, (∀ (w_ : Int) (S_ : sm_S), gi S_ → ai_fr (sx_W vw_177) S0_ S_ → ((0 ≤ w_ ∧ w_ ≤ 64) ∧ (shn S_) ∧ True) → ((100 - w_).toNat) < nn_ → sm_T (mt_P sc_) 5 177 (8, [some (.inr (.inr (some (9, 0)))), some (.inr (.inr (some (2, cc_)))), some (.inl a2_), some (.inl w_), none, none], [], S_) (fun ro9_ => ∃ u_ S1_, ro9_ = (.inl u_, S1_, 0) ∧ vq_177 a2_ cc_ S0_ u_ S1_)) := by
  intro nn_
  induction nn_ with
  | zero => exact fun _ _ _ _ _ h_ => absurd h_ (Nat.not_lt_zero _)
  | succ nn_ ih_ =>
    rintro w_ S_ hI_ hF_ ⟨h0_, hn1_, -⟩ hm_
    have cw : 0 ≤ S_.1 9 0 2 ∧ S_.1 9 0 2 ≤ 64 := hI_.1 9 0 2 rfl
    have bx1_ : 0 ≤ S_.1 9 0 2 ∧ S_.1 9 0 2 ≤ 64 := hI_.1 9 0 2 rfl
    refine sm_T_go 3 (c1 := (13, [some (.inr (.inr (some (9, 0)))), some (.inr (.inr (some (2, cc_)))), some (.inl a2_), some (.inl w_), none, none], [.inl (S_.1 9 0 2), .inl w_], S_)) rfl ?_
    refine sm_T_br (a := 3) (z := 40) rfl (fun cx2_ => ?_) (fun cx2_ => ?_)
    · have cx2_ : (S_.1 9 0 2) ≤ w_ := of_decide_eq_true cx2_
      refine sm_T_go 1 (c1 := (54, [some (.inr (.inr (some (9, 0)))), some (.inr (.inr (some (2, cc_)))), some (.inl a2_), some (.inl w_), none, none], [.inl (-1)], S_)) rfl ?_
      refine sm_T_ri rfl ⟨_, _, rfl, _, rfl, hI_, hF_, ?_⟩
      exact ⟨by omega, hn1_⟩
    · have cx2_ : ¬ ((S_.1 9 0 2) ≤ w_) := of_decide_eq_false cx2_
      refine sm_T_go 4 (c1 := (23, [some (.inr (.inr (some (9, 0)))), some (.inr (.inr (some (2, cc_)))), some (.inl a2_), some (.inl w_), none, none], [.inl 64, .inl a2_, .inr (.inr (some (95, 0)))], S_)) rfl ?_
      refine sm_T_bin (w := 64 * a2_) rfl (bi_mul (by omega) (by omega) (by omega)) ?_ -- pc_ 23
      refine sm_T_go 1 (c1 := (25, [some (.inr (.inr (some (9, 0)))), some (.inr (.inr (some (2, cc_)))), some (.inl a2_), some (.inl w_), none, none], [.inl w_, .inl (64 * a2_), .inr (.inr (some (95, 0)))], S_)) rfl ?_
      refine sm_T_bin (w := 64 * a2_ + w_) rfl (bi_add (by omega) (by omega) (by omega)) ?_ -- pc_ 25
      refine sm_T_lald (n := 78336) rfl rfl (by omega) (by omega) ?_
      refine sm_T_go 4 (c1 := (33, [some (.inr (.inr (some (9, 0)))), some (.inr (.inr (some (2, cc_)))), some (.inl a2_), some (.inl w_), some (.inr (.inl (S_.2.2.2 95 0 (64 * a2_ + w_).toNat))), none], [.inl (sm_lcmp ((S_.2.2.2 95 0 (64 * a2_ + w_).toNat)) 0)], S_)) rfl ?_
      refine sm_T_b0 (a := 0) (z := 14) rfl (fun cx3_ => ?_) (fun cx3_ => ?_)
      · have cx3_ : (sm_lcmp ((S_.2.2.2 95 0 (64 * a2_ + w_).toNat)) 0) = 0 := of_decide_eq_true cx3_
        refine sm_T_inc (a := 3) (z := 1) (v := w_) (w := w_ + 1) rfl rfl (by omega) (by omega) (by omega) ?_ -- pc_ 47
        refine sm_T_go 1 (c1 := (8, [some (.inr (.inr (some (9, 0)))), some (.inr (.inr (some (2, cc_)))), some (.inl a2_), some (.inl (w_ + 1)), some (.inr (.inl (S_.2.2.2 95 0 (64 * a2_ + w_).toNat))), none], [], S_)) rfl ?_
        refine sm_T_wk [some (.inr (.inr (some (9, 0)))), some (.inr (.inr (some (2, cc_)))), some (.inl a2_), some (.inl (w_ + 1)), none, none] (by exact ⟨rfl, rfl, rfl, rfl, trivial⟩) ?_
        refine ih_ (w_ + 1) S_ hI_ hF_ ⟨?_, ?_, trivial⟩ ?_
        · omega
        · exact hn1_
        · omega
      · have cx3_ : ¬ ((sm_lcmp ((S_.2.2.2 95 0 (64 * a2_ + w_).toNat)) 0) = 0) := of_decide_eq_false cx3_
        have lq9_ : S_.2.2.2 95 0 (64 * a2_ + w_).toNat ≠ 0 := by (intro q9_; apply cx3_; rw [q9_]; decide)
        refine sm_T_go 2 (c1 := (39, [some (.inr (.inr (some (9, 0)))), some (.inr (.inr (some (2, cc_)))), some (.inl a2_), some (.inl w_), some (.inr (.inl (S_.2.2.2 95 0 (64 * a2_ + w_).toNat))), none], [.inl w_, .inl 64], S_)) rfl ?_
        refine sm_T_bin (w := 64 * w_) rfl (bi_mul (by omega) (by omega) (by omega)) ?_ -- pc_ 39
        refine sm_T_go 1 (c1 := (42, [some (.inr (.inr (some (9, 0)))), some (.inr (.inr (some (2, cc_)))), some (.inl a2_), some (.inl w_), some (.inr (.inl (S_.2.2.2 95 0 (64 * a2_ + w_).toNat))), none], [.inr (.inl (S_.2.2.2 95 0 (64 * a2_ + w_).toNat)), .inl (64 * w_)], S_)) rfl ?_
        refine sm_T_cal (d1 := 1) (Q1 := vq_9 ((S_.2.2.2 95 0 (64 * a2_ + w_).toNat)) S_) rfl rfl (by decide) (vc_9 ((S_.2.2.2 95 0 (64 * a2_ + w_).toNat)) S_ hI_ (by exact hn1_ _)) (fun u_ Sx4_ px7_ => ?_)
        obtain ⟨rfl, vx9_, rfl, px7_⟩ := px7_
        have t9_ := px7_
        refine sm_T_bin (w := 64 * w_ + vx9_) rfl (bi_add (by omega) (by omega) (by omega)) ?_ -- pc_ 45
        refine sm_T_ri rfl ⟨_, _, rfl, _, rfl, hI_, hF_, ?_⟩
        have t8_ := t9_.2 lq9_
        exact ⟨by omega, hn1_⟩
set_option maxHeartbeats 400000 in
theorem vc_177 {sc_ : Nat × (Nat → Int)} (a2_ : Int) (cc_ : Nat) (S0_ : sm_S) (hI_ : gi S0_) (hs_ : S0_.1 2 cc_ 1 + S0_.1 2 cc_ 2 ≤ 12) (h2_ : 0 ≤ a2_ ∧ a2_ ≤ 1223) (hn_ : shn S0_) : sm_T (mt_P sc_) 5 177 (0, [some (.inr (.inr (some (9, 0)))), some (.inr (.inr (some (2, cc_)))), some (.inl a2_), none, none, none], [], S0_) (fun ro9_ => ∃ u_ S1_, ro9_ = (.inl u_, S1_, 0) ∧ vq_177 a2_ cc_ S0_ u_ S1_) := by
  have hF_ : ai_fr (sx_W vw_177) S0_ S0_ := ai_fr_rf
  refine sm_T_go 3 (c1 := (3, [some (.inr (.inr (some (9, 0)))), some (.inr (.inr (some (2, cc_)))), some (.inl a2_), none, none, none], [.inl a2_, .inr (.inr (some (2, cc_))), .inr (.inr (some (9, 0)))], S0_)) rfl ?_
  refine sm_T_cal (d1 := 4) (Q1 := vq_174 a2_ cc_ S0_) rfl rfl (by decide) (vc_174 a2_ cc_ S0_ hI_ (by omega) (by omega) (by omega)) (fun u_ Sx1_ px4_ => ?_)
  obtain ⟨rfl, hIx2_, hFx3_, px4_⟩ := px4_
  have hFx5_ : ai_fr (sx_W vw_177) S0_ Sx1_ := ai_fr_tr hF_ (fr_le hFx3_ rfl)
  have f3_ := px4_
  refine sm_T_go 2 (c1 := (8, [some (.inr (.inr (some (9, 0)))), some (.inr (.inr (some (2, cc_)))), some (.inl a2_), some (.inl 0), none, none], [], Sx1_)) rfl ?_
  refine (vl_177 a2_ cc_ S0_ hs_ h2_ hn_ _) 0 Sx1_ hIx2_ hFx5_ ⟨?_, ?_, trivial⟩ (Nat.lt_succ_self _)
  · omega
  · exact f3_.2
