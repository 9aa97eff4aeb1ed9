/-! Tester.keepShown -/
def vw_175 : sx_Wl := ([], [95], [])
def vq_175 (a1_ : Int) (cc_ : Nat) (S0_ : sm_S) (u_ : Option sm_V) (S1_ : sm_S) : Prop := u_ = none ∧ gi S1_ ∧ ai_fr (sx_W vw_175) S0_ S1_ ∧ (shn S1_)
set_option maxHeartbeats 400000 in
theorem vl_175 {sc_ : Nat × (Nat → Int)} (a1_ : Int) (cc_ : Nat) (S0_ : sm_S) (hb_ : S0_.2.1 9 0 0 = some cc_) (h1_ : 0 ≤ a1_ ∧ a1_ ≤ 1223) (hn_ : shn S0_) : ∀ nn_ : Nat, (∀ (to_ : Int) (e_ : Int) (S_ : sm_S), gi S_ → ai_fr (sx_W vw_175) S0_ S_ → ((to_ = 64 * a1_ ∧ 0 ≤ e_ ∧ e_ ≤ 22) ∧ (shn S_) ∧ True) → ((100 * (100 - e_) + 90).toNat) < nn_ → sm_T (mt_P sc_) 2 175 (20, [some (.inr (.inr (some (9, 0)))), some (.inl a1_), some (.inl to_), some (.inl e_), none, none], [], S_) (fun ro9_ => ∃ u_ S1_, ro9_ = (.inl u_, S1_, 0) ∧ vq_175 a1_ cc_ S0_ u_ S1_)) ∧ (∀ (to_ : Int) (e_ : Int) (nt_ : Int) (w_ : Int) (S_ : sm_S), gi S_ → ai_fr (sx_W vw_175) S0_ S_ → ((to_ = 64 * a1_ ∧ 0 ≤ e_ ∧ e_ < 22 ∧ 0 ≤ nt_ ∧ nt_ ≤ 161 ∧ 0 ≤ w_ ∧ w_ ≤ 64) ∧ (shn S_) ∧ True) → ((100 * (100 - e_) + 80 - w_).toNat) < nn_ → sm_T (mt_P sc_) 2 175 (59, [some (.inr (.inr (some (9, 0)))), some (.inl a1_), some (.inl to_), some (.inl e_), some (.inl nt_), some (.inl w_)], [], S_) (fun ro9_ => ∃ u_ S1_, ro9_ = (.inl u_, S1_, 0) ∧ vq_175 a1_ cc_ S0_ u_ S1_)) := by
  intro nn_
  induction nn_ with
  | zero => exact ⟨fun _ _ _ _ _ _ h_ => absurd h_ (Nat.not_lt_zero _), fun _ _ _ _ _ _ _ _ h_ => absurd h_ (Nat.not_lt_zero _)⟩
  | succ nn_ ih_ =>
    refine ⟨?_, ?_⟩
    · rintro to_ e_ S_ hI_ hF_ ⟨h0_, hn1_, -⟩ hm_
      have z1_ : S_.1 2 cc_ 1 = S0_.1 2 cc_ 1 := hF_.1 2 cc_ 1 rfl
      have z2_ : S_.1 2 cc_ 2 = S0_.1 2 cc_ 2 := hF_.1 2 cc_ 2 rfl
      have co_ : 0 ≤ S_.1 2 cc_ 3 ∧ S_.1 2 cc_ 3 ≤ 16 := hI_.1 2 cc_ 3 rfl
      have cr : 0 ≤ S_.1 2 cc_ 2 ∧ S_.1 2 cc_ 2 ≤ 6 := hI_.1 2 cc_ 2 rfl
      have cw : 0 ≤ S_.1 9 0 2 ∧ S_.1 9 0 2 ≤ 64 := hI_.1 9 0 2 rfl
      refine sm_T_go 2 (c1 := (22, [some (.inr (.inr (some (9, 0)))), some (.inl a1_), some (.inl to_), some (.inl e_), none, none], [.inr (.inr (some (9, 0))), .inl e_], S_)) rfl ?_
      refine sm_T_gr rfl rfl ((hF_.2.1 9 0 0 rfl).trans hb_) ?_
      refine sm_T_cal (d1 := 0) (Q1 := vq_57 cc_ S_) rfl rfl (by decide) (vc_57 cc_ S_ hI_ ) (fun u_ Sx1_ px4_ => ?_)
      obtain ⟨rfl, vx6_, rfl, px4_⟩ := px4_
      have g25_ := px4_
      refine sm_T_br (a := 3) (z := 96) rfl (fun cx7_ => ?_) (fun cx7_ => ?_)
      · have cx7_ : vx6_ ≤ e_ := of_decide_eq_true cx7_
        refine sm_T_rv rfl ⟨_, _, rfl, rfl, hI_, hF_, ?_⟩
        exact hn1_
      · have cx7_ : ¬ (vx6_ ≤ e_) := of_decide_eq_false cx7_
        refine sm_T_go 1 (c1 := (32, [some (.inr (.inr (some (9, 0)))), some (.inl a1_), some (.inl to_), some (.inl e_), none, none], [.inr (.inr (some (9, 0)))], S_)) rfl ?_
        refine sm_T_gr rfl rfl ((hF_.2.1 9 0 0 rfl).trans hb_) ?_
        refine sm_T_go 1 (c1 := (36, [some (.inr (.inr (some (9, 0)))), some (.inl a1_), some (.inl to_), some (.inl e_), none, none], [.inl e_, .inr (.inr (some (2, cc_)))], S_)) rfl ?_
        refine sm_T_cal (d1 := 0) (Q1 := vq_58 e_ cc_ S_) rfl rfl (by decide) (vc_58 e_ cc_ S_ hI_ (by omega)) (fun u_ Sx8_ px11_ => ?_)
        obtain ⟨rfl, vx13_, rfl, px11_⟩ := px11_
        have g36_ := px11_
        refine sm_T_go 2 (c1 := (43, [some (.inr (.inr (some (9, 0)))), some (.inl a1_), some (.inl to_), some (.inl e_), some (.inl vx13_), none], [.inl vx13_], S_)) rfl ?_
        refine sm_T_b0 (a := 2) (z := 75) rfl (fun cx14_ => ?_) (fun cx14_ => ?_)
        · have cx14_ : vx13_ < 0 := of_decide_eq_true cx14_
          refine sm_T_inc (a := 3) (z := 1) (v := e_) (w := e_ + 1) rfl rfl (by omega) (by omega) (by omega) ?_ -- pc_ 118
          refine sm_T_go 1 (c1 := (20, [some (.inr (.inr (some (9, 0)))), some (.inl a1_), some (.inl to_), some (.inl (e_ + 1)), some (.inl vx13_), none], [], S_)) rfl ?_
          refine sm_T_wk [some (.inr (.inr (some (9, 0)))), some (.inl a1_), some (.inl to_), some (.inl (e_ + 1)), none, none] (by exact ⟨rfl, rfl, rfl, rfl, trivial⟩) ?_
          refine ih_.1 to_ (e_ + 1) S_ hI_ hF_ ⟨?_, ?_, trivial⟩ ?_
          · omega
          · exact hn1_
          · omega
        · have cx14_ : ¬ (vx13_ < 0) := of_decide_eq_false cx14_
          refine sm_T_go 3 (c1 := (52, [some (.inr (.inr (some (9, 0)))), some (.inl a1_), some (.inl to_), some (.inl e_), some (.inl vx13_), none], [.inl vx13_, .inr (.inr (some (94, 0)))], S_)) rfl ?_
          refine sm_T_iald (n := 162) rfl rfl (by omega) (by omega) ?_
          have bx15_ : 0 ≤ S_.2.2.1 94 0 vx13_.toNat ∧ S_.2.2.1 94 0 vx13_.toNat ≤ 1 := hI_.2 94 0 _
          refine sm_T_b0 (a := 0) (z := 65) rfl (fun cx16_ => ?_) (fun cx16_ => ?_)
          · have cx16_ : (S_.2.2.1 94 0 vx13_.toNat) = 0 := of_decide_eq_true cx16_
            refine sm_T_inc (a := 3) (z := 1) (v := e_) (w := e_ + 1) rfl rfl (by omega) (by omega) (by omega) ?_ -- pc_ 118
            refine sm_T_go 1 (c1 := (20, [some (.inr (.inr (some (9, 0)))), some (.inl a1_), some (.inl to_), some (.inl (e_ + 1)), some (.inl vx13_), none], [], S_)) rfl ?_
            refine sm_T_wk [some (.inr (.inr (some (9, 0)))), some (.inl a1_), some (.inl to_), some (.inl (e_ + 1)), none, none] (by exact ⟨rfl, rfl, rfl, rfl, trivial⟩) ?_
            refine ih_.1 to_ (e_ + 1) S_ hI_ hF_ ⟨?_, ?_, trivial⟩ ?_
            · omega
            · exact hn1_
            · omega
          · have cx16_ : ¬ ((S_.2.2.1 94 0 vx13_.toNat) = 0) := of_decide_eq_false cx16_
            refine sm_T_go 2 (c1 := (59, [some (.inr (.inr (some (9, 0)))), some (.inl a1_), some (.inl to_), some (.inl e_), some (.inl vx13_), some (.inl 0)], [], S_)) rfl ?_
            refine ih_.2 to_ e_ vx13_ 0 S_ hI_ hF_ ⟨?_, ?_, trivial⟩ ?_
            · omega
            · exact hn1_
            · omega
    · rintro to_ e_ nt_ w_ S_ hI_ hF_ ⟨h0_, hn1_, -⟩ hm_
      have z1_ : S_.1 2 cc_ 1 = S0_.1 2 cc_ 1 := hF_.1 2 cc_ 1 rfl
      have z2_ : S_.1 2 cc_ 2 = S0_.1 2 cc_ 2 := hF_.1 2 cc_ 2 rfl
      have co_ : 0 ≤ S_.1 2 cc_ 3 ∧ S_.1 2 cc_ 3 ≤ 16 := hI_.1 2 cc_ 3 rfl
      have cr : 0 ≤ S_.1 2 cc_ 2 ∧ S_.1 2 cc_ 2 ≤ 6 := hI_.1 2 cc_ 2 rfl
      have cw : 0 ≤ S_.1 9 0 2 ∧ S_.1 9 0 2 ≤ 64 := hI_.1 9 0 2 rfl
      have bx1_ : 0 ≤ S_.1 9 0 2 ∧ S_.1 9 0 2 ≤ 64 := hI_.1 9 0 2 rfl
      refine sm_T_go 3 (c1 := (65, [some (.inr (.inr (some (9, 0)))), some (.inl a1_), some (.inl to_), some (.inl e_), some (.inl nt_), some (.inl w_)], [.inl (S_.1 9 0 2), .inl w_], S_)) rfl ?_
      refine sm_T_br (a := 3) (z := 53) rfl (fun cx2_ => ?_) (fun cx2_ => ?_)
      · have cx2_ : (S_.1 9 0 2) ≤ w_ := of_decide_eq_true cx2_
        refine sm_T_inc (a := 3) (z := 1) (v := e_) (w := e_ + 1) rfl rfl (by omega) (by omega) (by omega) ?_ -- pc_ 118
        refine sm_T_go 1 (c1 := (20, [some (.inr (.inr (some (9, 0)))), some (.inl a1_), some (.inl to_), some (.inl (e_ + 1)), some (.inl nt_), some (.inl w_)], [], S_)) rfl ?_
        refine sm_T_wk [some (.inr (.inr (some (9, 0)))), some (.inl a1_), some (.inl to_), some (.inl (e_ + 1)), none, none] (by exact ⟨rfl, rfl, rfl, rfl, trivial⟩) ?_
        refine ih_.1 to_ (e_ + 1) S_ hI_ hF_ ⟨?_, ?_, trivial⟩ ?_
        · omega
        · exact hn1_
        · omega
      · have cx2_ : ¬ ((S_.1 9 0 2) ≤ w_) := of_decide_eq_false cx2_
        refine sm_T_go 4 (c1 := (75, [some (.inr (.inr (some (9, 0)))), some (.inl a1_), some (.inl to_), some (.inl e_), some (.inl nt_), some (.inl w_)], [.inl w_, .inl to_, .inr (.inr (some (95, 0)))], S_)) rfl ?_
        refine sm_T_bin (w := to_ + w_) rfl (bi_add (by omega) (by omega) (by omega)) ?_ -- pc_ 75
        refine sm_T_go 1 (c1 := (77, [some (.inr (.inr (some (9, 0)))), some (.inl a1_), some (.inl to_), some (.inl e_), some (.inl nt_), some (.inl w_)], [.inl (to_ + w_), .inr (.inr (some (95, 0))), .inl (to_ + w_), .inr (.inr (some (95, 0)))], S_)) rfl ?_
        refine sm_T_lald (n := 78336) rfl rfl (by omega) (by omega) ?_
        refine sm_T_go 4 (c1 := (86, [some (.inr (.inr (some (9, 0)))), some (.inl a1_), some (.inl to_), some (.inl e_), some (.inl nt_), some (.inl w_)], [.inl 64, .inl nt_, .inr (.inr (some (92, 0))), .inr (.inl (S_.2.2.2 95 0 (to_ + w_).toNat)), .inl (to_ + w_), .inr (.inr (some (95, 0)))], S_)) rfl ?_
        refine sm_T_bin (w := 64 * nt_) rfl (bi_mul (by omega) (by omega) (by omega)) ?_ -- pc_ 86
        refine sm_T_go 1 (c1 := (89, [some (.inr (.inr (some (9, 0)))), some (.inl a1_), some (.inl to_), some (.inl e_), some (.inl nt_), some (.inl w_)], [.inl w_, .inl (64 * nt_), .inr (.inr (some (92, 0))), .inr (.inl (S_.2.2.2 95 0 (to_ + w_).toNat)), .inl (to_ + w_), .inr (.inr (some (95, 0)))], S_)) rfl ?_
        refine sm_T_bin (w := 64 * nt_ + w_) rfl (bi_add (by omega) (by omega) (by omega)) ?_ -- pc_ 89
        refine sm_T_lald (n := 10368) rfl rfl (by omega) (by omega) ?_
        refine sm_T_go 4 (c1 := (99, [some (.inr (.inr (some (9, 0)))), some (.inl a1_), some (.inl to_), some (.inl e_), some (.inl nt_), some (.inl w_)], [.inl 64, .inl nt_, .inr (.inr (some (93, 0))), .inr (.inl (S_.2.2.2 92 0 (64 * nt_ + w_).toNat)), .inr (.inl (S_.2.2.2 95 0 (to_ + w_).toNat)), .inl (to_ + w_), .inr (.inr (some (95, 0)))], S_)) rfl ?_
        refine sm_T_bin (w := 64 * nt_) rfl (bi_mul (by omega) (by omega) (by omega)) ?_ -- pc_ 99
        refine sm_T_go 1 (c1 := (102, [some (.inr (.inr (some (9, 0)))), some (.inl a1_), some (.inl to_), some (.inl e_), some (.inl nt_), some (.inl w_)], [.inl w_, .inl (64 * nt_), .inr (.inr (some (93, 0))), .inr (.inl (S_.2.2.2 92 0 (64 * nt_ + w_).toNat)), .inr (.inl (S_.2.2.2 95 0 (to_ + w_).toNat)), .inl (to_ + w_), .inr (.inr (some (95, 0)))], S_)) rfl ?_
        refine sm_T_bin (w := 64 * nt_ + w_) rfl (bi_add (by omega) (by omega) (by omega)) ?_ -- pc_ 102
        refine sm_T_lald (n := 10368) rfl rfl (by omega) (by omega) ?_
        refine sm_T_go 5 (c1 := (111, [some (.inr (.inr (some (9, 0)))), some (.inl a1_), some (.inl to_), some (.inl e_), some (.inl nt_), some (.inl w_)], [.inr (.inl (l_4 ((S_.2.2.2 95 0 (to_ + w_).toNat)) ((l_3 ((l_5 ((S_.2.2.2 92 0 (64 * nt_ + w_).toNat)) ((S_.2.2.2 93 0 (64 * nt_ + w_).toNat)))) (S_.1 9 0 3))))), .inl (to_ + w_), .inr (.inr (some (95, 0)))], S_)) rfl ?_
        refine sm_T_last (n := 78336) rfl rfl (by omega) (by omega) ?_
        have hIx3_ : gi (sm_aL S_ 95 0 (to_ + w_).toNat ((l_4 ((S_.2.2.2 95 0 (to_ + w_).toNat)) ((l_3 ((l_5 ((S_.2.2.2 92 0 (64 * nt_ + w_).toNat)) ((S_.2.2.2 93 0 (64 * nt_ + w_).toNat)))) (S_.1 9 0 3)))))) := gi_aL hI_
        have hFx4_ : ai_fr (sx_W vw_175) S0_ (sm_aL S_ 95 0 (to_ + w_).toNat ((l_4 ((S_.2.2.2 95 0 (to_ + w_).toNat)) ((l_3 ((l_5 ((S_.2.2.2 92 0 (64 * nt_ + w_).toNat)) ((S_.2.2.2 93 0 (64 * nt_ + w_).toNat)))) (S_.1 9 0 3)))))) := ai_fr_tr hF_ (ai_fr_aL rfl)
        refine sm_T_inc (a := 5) (z := 1) (v := w_) (w := w_ + 1) rfl rfl (by omega) (by omega) (by omega) ?_ -- pc_ 112
        refine sm_T_go 1 (c1 := (59, [some (.inr (.inr (some (9, 0)))), some (.inl a1_), some (.inl to_), some (.inl e_), some (.inl nt_), some (.inl (w_ + 1))], [], sm_aL S_ 95 0 (to_ + w_).toNat ((l_4 ((S_.2.2.2 95 0 (to_ + w_).toNat)) ((l_3 ((l_5 ((S_.2.2.2 92 0 (64 * nt_ + w_).toNat)) ((S_.2.2.2 93 0 (64 * nt_ + w_).toNat)))) (S_.1 9 0 3))))))) rfl ?_
        refine ih_.2 to_ e_ nt_ (w_ + 1) (sm_aL S_ 95 0 (to_ + w_).toNat ((l_4 ((S_.2.2.2 95 0 (to_ + w_).toNat)) ((l_3 ((l_5 ((S_.2.2.2 92 0 (64 * nt_ + w_).toNat)) ((S_.2.2.2 93 0 (64 * nt_ + w_).toNat)))) (S_.1 9 0 3)))))) hIx3_ hFx4_ ⟨?_, ?_, trivial⟩ ?_
        · omega
        · intro k_
          rw [rd_leq]
          split
          · exact nl9_4 _ _
          · exact hn1_ k_
        · omega
set_option maxHeartbeats 400000 in
theorem vc_175 {sc_ : Nat × (Nat → Int)} (a1_ : Int) (cc_ : Nat) (S0_ : sm_S) (hI_ : gi S0_) (hb_ : S0_.2.1 9 0 0 = some cc_) (h1_ : 0 ≤ a1_ ∧ a1_ ≤ 1223) (hn_ : shn S0_) : sm_T (mt_P sc_) 2 175 (0, [some (.inr (.inr (some (9, 0)))), some (.inl a1_), none, none, none, none], [], S0_) (fun ro9_ => ∃ u_ S1_, ro9_ = (.inl u_, S1_, 0) ∧ vq_175 a1_ cc_ S0_ u_ S1_) := by
  have hF_ : ai_fr (sx_W vw_175) S0_ S0_ := ai_fr_rf
  refine sm_T_go 2 (c1 := (3, [some (.inr (.inr (some (9, 0)))), some (.inl a1_), none, none, none, none], [.inl 64, .inl a1_], S0_)) rfl ?_
  refine sm_T_bin (w := 64 * a1_) rfl (bi_mul (by omega) (by omega) (by omega)) ?_ -- pc_ 3
  refine sm_T_go 6 (c1 := (13, [some (.inr (.inr (some (9, 0)))), some (.inl a1_), some (.inl (64 * a1_)), none, none, none], [.inl 64, .inl (64 * a1_), .inl (64 * a1_), .inr (.inr (some (95, 0)))], S0_)) rfl ?_
  refine sm_T_bin (w := 64 * a1_ + 64) rfl (bi_add (by omega) (by omega) (by omega)) ?_ -- pc_ 13
  refine sm_T_go 1 (c1 := (15, [some (.inr (.inr (some (9, 0)))), some (.inl a1_), some (.inl (64 * a1_)), none, none, none], [.inr (.inl 0), .inl (64 * a1_ + 64), .inl (64 * a1_), .inr (.inr (some (95, 0)))], S0_)) rfl ?_
  refine sm_T_cal (d1 := 1) (Q1 := vq_5h5 (64 * a1_) (64 * a1_ + 64) 0 S0_) rfl rfl (by decide) (vc_5h5 (64 * a1_) (64 * a1_ + 64) 0 S0_ hI_ (by omega)) (fun u_ Sx1_ px4_ => ?_)
  obtain ⟨rfl, hIx2_, hFx3_, px4_⟩ := px4_
  have hFx5_ : ai_fr (sx_W vw_175) S0_ Sx1_ := ai_fr_tr hF_ (fr_le hFx3_ rfl)
  have f15_ := px4_
  refine sm_T_go 2 (c1 := (20, [some (.inr (.inr (some (9, 0)))), some (.inl a1_), some (.inl (64 * a1_)), some (.inl 0), none, none], [], Sx1_)) rfl ?_
  refine (vl_175 a1_ cc_ S0_ hb_ h1_ hn_ _).1 (64 * a1_) 0 Sx1_ hIx2_ hFx5_ ⟨?_, ?_, trivial⟩ (Nat.lt_succ_self _)
  · omega
  · (intro k_; rcases f15_ k_ with z_ | z_; (rw [z_]; exact hn_ k_); (rw [z_]; exact nl9_0))
