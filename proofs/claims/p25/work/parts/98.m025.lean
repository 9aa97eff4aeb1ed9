/-! 99.zl7c -/
section
/-! Tester.keepShown -/
def vw_175 : sx_Wl := ([], [95], [])
def vq_175 (a1_ : Int) (cc_ : Nat) (S0_ : sm_S) (u_ : Option sm_V) (S1_ : sm_S) : Prop := u_ = none ∧ gi S1_ ∧ ai_fr (sx_W vw_175) S0_ S1_ ∧ (shn S1_)
set_option maxHeartbeats 400000 in
theorem vl_175 {sc_ : Nat × (Nat → Int)} (a1_ : Int) (cc_ : Nat) (S0_ : sm_S) (hb_ : S0_.2.1 9 0 0 = some cc_) (h1_ : 0 ≤ a1_ ∧ a1_ ≤ 1223) (hn_ : shn S0_) : ∀ nn_ : Nat, (∀ (to_ : Int) (e_ : Int) (S_ : sm_S), gi S_ → ai_fr (sx_W vw_175) S0_ S_ → ((to_ = 64 * a1_ ∧ 0 ≤ e_ ∧ e_ ≤ 22) ∧ (shn S_) ∧ True) → ((100 * (100 - e_) + 90).toNat) < nn_ → sm_T (mt_P sc_) 2 175 (20, [some (.inr (.inr (some (9, 0)))), some (.inl a1_), some (.inl to_), some (.inl e_), none, none], [], S_) (fun ro9_ => ∃ u_ S1_, ro9_ = (.inl u_, S1_, 0) ∧ vq_175 a1_ cc_ S0_ u_ S1_)) ∧ (∀ (to_ : Int) (e_ : Int) (nt_ : Int) (w_ : Int) (S_ : sm_S), gi S_ → ai_fr (sx_W vw_175) S0_ S_ → ((to_ = 64 * a1_ ∧ 0 ≤ e_ ∧ e_ < 22 ∧ 0 ≤ nt_ ∧ nt_ ≤ 161 ∧ 0 ≤ w_ ∧ w_ ≤ 64) ∧ (shn S_) ∧ True) → ((100 * (100 - e_) + 80 - w_).toNat) < nn_ → sm_T (mt_P sc_) 2 175 (59, [some (.inr (.inr (some (9, 0)))), some (.inl a1_), some (.inl to_), some (.inl e_), some (.inl nt_), some (.inl w_)], [], S_) (fun ro9_ => ∃ u_ S1_, ro9_ = (.inl u_, S1_, 0) ∧ vq_175 a1_ cc_ S0_ u_ S1_)) := by
  intro nn_
  induction nn_ with
  | zero => exact ⟨fun _ _ _ _ _ _ h_ => absurd h_ (Nat.not_lt_zero _), fun _ _ _ _ _ _ _ _ h_ => absurd h_ (Nat.not_lt_zero _)⟩
  | succ nn_ ih_ =>
    refine ⟨?_, ?_⟩
    · rintro to_ e_ S_ hI_ hF_ ⟨h0_, hn1_, -⟩ hm_
      have z1_ : S_.1 2 cc_ 1 = S0_.1 2 cc_ 1 := hF_.1 2 cc_ 1 rfl
      have z2_ : S_.1 2 cc_ 2 = S0_.1 2 cc_ 2 := hF_.1 2 cc_ 2 rfl
      have co_ : 0 ≤ S_.1 2 cc_ 3 ∧ S_.1 2 cc_ 3 ≤ 16 := hI_.1 2 cc_ 3 rfl
      have cr : 0 ≤ S_.1 2 cc_ 2 ∧ S_.1 2 cc_ 2 ≤ 6 := hI_.1 2 cc_ 2 rfl
      have cw : 0 ≤ S_.1 9 0 2 ∧ S_.1 9 0 2 ≤ 64 := hI_.1 9 0 2 rfl
      refine sm_T_go 2 (c1 := (22, [some (.inr (.inr (some (9, 0)))), some (.inl a1_), some (.inl to_), some (.inl e_), none, none], [.inr (.inr (some (9, 0))), .inl e_], S_)) rfl ?_
      refine sm_T_gr rfl rfl ((hF_.2.1 9 0 0 rfl).trans hb_) ?_
      refine sm_T_cal (d1 := 0) (Q1 := vq_57 cc_ S_) rfl rfl (by decide) (vc_57 cc_ S_ hI_ ) (fun u_ Sx1_ px4_ => ?_)
      obtain ⟨rfl, vx6_, rfl, px4_⟩ := px4_
      have g25_ := px4_
      refine sm_T_br (a := 3) (z := 96) rfl (fun cx7_ => ?_) (fun cx7_ => ?_)
      · have cx7_ : vx6_ ≤ e_ := of_decide_eq_true cx7_
        refine sm_T_rv rfl ⟨_, _, rfl, rfl, hI_, hF_, ?_⟩
        exact hn1_
      · have cx7_ : ¬ (vx6_ ≤ e_) := of_decide_eq_false cx7_
        refine sm_T_go 1 (c1 := (32, [some (.inr (.inr (some (9, 0)))), some (.inl a1_), some (.inl to_), some (.inl e_), none, none], [.inr (.inr (some (9, 0)))], S_)) rfl ?_
        refine sm_T_gr rfl rfl ((hF_.2.1 9 0 0 rfl).trans hb_) ?_
        refine sm_T_go 1 (c1 := (36, [some (.inr (.inr (some (9, 0)))), some (.inl a1_), some (.inl to_), some (.inl e_), none, none], [.inl e_, .inr (.inr (some (2, cc_)))], S_)) rfl ?_
        refine sm_T_cal (d1 := 0) (Q1 := vq_58 e_ cc_ S_) rfl rfl (by decide) (vc_58 e_ cc_ S_ hI_ (by omega)) (fun u_ Sx8_ px11_ => ?_)
        obtain ⟨rfl, vx13_, rfl, px11_⟩ := px11_
        have g36_ := px11_
        refine sm_T_go 2 (c1 := (43, [some (.inr (.inr (some (9, 0)))), some (.inl a1_), some (.inl to_), some (.inl e_), some (.inl vx13_), none], [.inl vx13_], S_)) rfl ?_
        refine sm_T_b0 (a := 2) (z := 75) rfl (fun cx14_ => ?_) (fun cx14_ => ?_)
        · have cx14_ : vx13_ < 0 := of_decide_eq_true cx14_
          refine sm_T_inc (a := 3) (z := 1) (v := e_) (w := e_ + 1) rfl rfl (by omega) (by omega) (by omega) ?_ -- pc_ 118
          refine sm_T_go 1 (c1 := (20, [some (.inr (.inr (some (9, 0)))), some (.inl a1_), some (.inl to_), some (.inl (e_ + 1)), some (.inl vx13_), none], [], S_)) rfl ?_
          refine sm_T_wk [some (.inr (.inr (some (9, 0)))), some (.inl a1_), some (.inl to_), some (.inl (e_ + 1)), none, none] (by exact ⟨rfl, rfl, rfl, rfl, trivial⟩) ?_
          refine ih_.1 to_ (e_ + 1) S_ hI_ hF_ ⟨?_, ?_, trivial⟩ ?_
          · omega
          · exact hn1_
          · omega
        · have cx14_ : ¬ (vx13_ < 0) := of_decide_eq_false cx14_
          refine sm_T_go 3 (c1 := (52, [some (.inr (.inr (some (9, 0)))), some (.inl a1_), some (.inl to_), some (.inl e_), some (.inl vx13_), none], [.inl vx13_, .inr (.inr (some (94, 0)))], S_)) rfl ?_
          refine sm_T_iald (n := 162) rfl rfl (by omega) (by omega) ?_
          have bx15_ : 0 ≤ S_.2.2.1 94 0 vx13_.toNat ∧ S_.2.2.1 94 0 vx13_.toNat ≤ 1 := hI_.2 94 0 _
          refine sm_T_b0 (a := 0) (z := 65) rfl (fun cx16_ => ?_) (fun cx16_ => ?_)
          · have cx16_ : (S_.2.2.1 94 0 vx13_.toNat) = 0 := of_decide_eq_true cx16_
            refine sm_T_inc (a := 3) (z := 1) (v := e_) (w := e_ + 1) rfl rfl (by omega) (by omega) (by omega) ?_ -- pc_ 118
            refine sm_T_go 1 (c1 := (20, [some (.inr (.inr (some (9, 0)))), some (.inl a1_), some (.inl to_), some (.inl (e_ + 1)), some (.inl vx13_), none], [], S_)) rfl ?_
            refine sm_T_wk [some (.inr (.inr (some (9, 0)))), some (.inl a1_), some (.inl to_), some (.inl (e_ + 1)), none, none] (by exact ⟨rfl, rfl, rfl, rfl, trivial⟩) ?_
            refine ih_.1 to_ (e_ + 1) S_ hI_ hF_ ⟨?_, ?_, trivial⟩ ?_
            · omega
            · exact hn1_
            · omega
          · have cx16_ : ¬ ((S_.2.2.1 94 0 vx13_.toNat) = 0) := of_decide_eq_false cx16_
            refine sm_T_go 2 (c1 := (59, [some (.inr (.inr (some (9, 0)))), some (.inl a1_), some (.inl to_), some (.inl e_), some (.inl vx13_), some (.inl 0)], [], S_)) rfl ?_
            refine ih_.2 to_ e_ vx13_ 0 S_ hI_ hF_ ⟨?_, ?_, trivial⟩ ?_
            · omega
            · exact hn1_
            · omega
    · rintro to_ e_ nt_ w_ S_ hI_ hF_ ⟨h0_, hn1_, -⟩ hm_
      have z1_ : S_.1 2 cc_ 1 = S0_.1 2 cc_ 1 := hF_.1 2 cc_ 1 rfl
      have z2_ : S_.1 2 cc_ 2 = S0_.1 2 cc_ 2 := hF_.1 2 cc_ 2 rfl
      have co_ : 0 ≤ S_.1 2 cc_ 3 ∧ S_.1 2 cc_ 3 ≤ 16 := hI_.1 2 cc_ 3 rfl
      have cr : 0 ≤ S_.1 2 cc_ 2 ∧ S_.1 2 cc_ 2 ≤ 6 := hI_.1 2 cc_ 2 rfl
      have cw : 0 ≤ S_.1 9 0 2 ∧ S_.1 9 0 2 ≤ 64 := hI_.1 9 0 2 rfl
      have bx1_ : 0 ≤ S_.1 9 0 2 ∧ S_.1 9 0 2 ≤ 64 := hI_.1 9 0 2 rfl
      refine sm_T_go 3 (c1 := (65, [some (.inr (.inr (some (9, 0)))), some (.inl a1_), some (.inl to_), some (.inl e_), some (.inl nt_), some (.inl w_)], [.inl (S_.1 9 0 2), .inl w_], S_)) rfl ?_
      refine sm_T_br (a := 3) (z := 53) rfl (fun cx2_ => ?_) (fun cx2_ => ?_)
      · have cx2_ : (S_.1 9 0 2) ≤ w_ := of_decide_eq_true cx2_
        refine sm_T_inc (a := 3) (z := 1) (v := e_) (w := e_ + 1) rfl rfl (by omega) (by omega) (by omega) ?_ -- pc_ 118
        refine sm_T_go 1 (c1 := (20, [some (.inr (.inr (some (9, 0)))), some (.inl a1_), some (.inl to_), some (.inl (e_ + 1)), some (.inl nt_), some (.inl w_)], [], S_)) rfl ?_
        refine sm_T_wk [some (.inr (.inr (some (9, 0)))), some (.inl a1_), some (.inl to_), some (.inl (e_ + 1)), none, none] (by exact ⟨rfl, rfl, rfl, rfl, trivial⟩) ?_
        refine ih_.1 to_ (e_ + 1) S_ hI_ hF_ ⟨?_, ?_, trivial⟩ ?_
        · omega
        · exact hn1_
        · omega
      · have cx2_ : ¬ ((S_.1 9 0 2) ≤ w_) := of_decide_eq_false cx2_
        refine sm_T_go 4 (c1 := (75, [some (.inr (.inr (some (9, 0)))), some (.inl a1_), some (.inl to_), some (.inl e_), some (.inl nt_), some (.inl w_)], [.inl w_, .inl to_, .inr (.inr (some (95, 0)))], S_)) rfl ?_
        refine sm_T_bin (w := to_ + w_) rfl (bi_add (by omega) (by omega) (by omega)) ?_ -- pc_ 75
        refine sm_T_go 1 (c1 := (77, [some (.inr (.inr (some (9, 0)))), some (.inl a1_), some (.inl to_), some (.inl e_), some (.inl nt_), some (.inl w_)], [.inl (to_ + w_), .inr (.inr (some (95, 0))), .inl (to_ + w_), .inr (.inr (some (95, 0)))], S_)) rfl ?_
        refine sm_T_lald (n := 78336) rfl rfl (by omega) (by omega) ?_
        refine sm_T_go 4 (c1 := (86, [some (.inr (.inr (some (9, 0)))), some (.inl a1_), some (.inl to_), some (.inl e_), some (.inl nt_), some (.inl w_)], [.inl 64, .inl nt_, .inr (.inr (some (92, 0))), .inr (.inl (S_.2.2.2 95 0 (to_ + w_).toNat)), .inl (to_ + w_), .inr (.inr (some (95, 0)))], S_)) rfl ?_
        refine sm_T_bin (w := 64 * nt_) rfl (bi_mul (by omega) (by omega) (by omega)) ?_ -- pc_ 86
        refine sm_T_go 1 (c1 := (89, [some (.inr (.inr (some (9, 0)))), some (.inl a1_), some (.inl to_), some (.inl e_), some (.inl nt_), some (.inl w_)], [.inl w_, .inl (64 * nt_), .inr (.inr (some (92, 0))), .inr (.inl (S_.2.2.2 95 0 (to_ + w_).toNat)), .inl (to_ + w_), .inr (.inr (some (95, 0)))], S_)) rfl ?_
        refine sm_T_bin (w := 64 * nt_ + w_) rfl (bi_add (by omega) (by omega) (by omega)) ?_ -- pc_ 89
        refine sm_T_lald (n := 10368) rfl rfl (by omega) (by omega) ?_
        refine sm_T_go 4 (c1 := (99, [some (.inr (.inr (some (9, 0)))), some (.inl a1_), some (.inl to_), some (.inl e_), some (.inl nt_), some (.inl w_)], [.inl 64, .inl nt_, .inr (.inr (some (93, 0))), .inr (.inl (S_.2.2.2 92 0 (64 * nt_ + w_).toNat)), .inr (.inl (S_.2.2.2 95 0 (to_ + w_).toNat)), .inl (to_ + w_), .inr (.inr (some (95, 0)))], S_)) rfl ?_
        refine sm_T_bin (w := 64 * nt_) rfl (bi_mul (by omega) (by omega) (by omega)) ?_ -- pc_ 99
        refine sm_T_go 1 (c1 := (102, [some (.inr (.inr (some (9, 0)))), some (.inl a1_), some (.inl to_), some (.inl e_), some (.inl nt_), some (.inl w_)], [.inl w_, .inl (64 * nt_), .inr (.inr (some (93, 0))), .inr (.inl (S_.2.2.2 92 0 (64 * nt_ + w_).toNat)), .inr (.inl (S_.2.2.2 95 0 (to_ + w_).toNat)), .inl (to_ + w_), .inr (.inr (some (95, 0)))], S_)) rfl ?_
        refine sm_T_bin (w := 64 * nt_ + w_) rfl (bi_add (by omega) (by omega) (by omega)) ?_ -- pc_ 102
        refine sm_T_lald (n := 10368) rfl rfl (by omega) (by omega) ?_
        refine sm_T_go 5 (c1 := (111, [some (.inr (.inr (some (9, 0)))), some (.inl a1_), some (.inl to_), some (.inl e_), some (.inl nt_), some (.inl w_)], [.inr (.inl (l_4 ((S_.2.2.2 95 0 (to_ + w_).toNat)) ((l_3 ((l_5 ((S_.2.2.2 92 0 (64 * nt_ + w_).toNat)) ((S_.2.2.2 93 0 (64 * nt_ + w_).toNat)))) (S_.1 9 0 3))))), .inl (to_ + w_), .inr (.inr (some (95, 0)))], S_)) rfl ?_
        refine sm_T_last (n := 78336) rfl rfl (by omega) (by omega) ?_
        have hIx3_ : gi (sm_aL S_ 95 0 (to_ + w_).toNat ((l_4 ((S_.2.2.2 95 0 (to_ + w_).toNat)) ((l_3 ((l_5 ((S_.2.2.2 92 0 (64 * nt_ + w_).toNat)) ((S_.2.2.2 93 0 (64 * nt_ + w_).toNat)))) (S_.1 9 0 3)))))) := gi_aL hI_
        have hFx4_ : ai_fr (sx_W vw_175) S0_ (sm_aL S_ 95 0 (to_ + w_).toNat ((l_4 ((S_.2.2.2 95 0 (to_ + w_).toNat)) ((l_3 ((l_5 ((S_.2.2.2 92 0 (64 * nt_ + w_).toNat)) ((S_.2.2.2 93 0 (64 * nt_ + w_).toNat)))) (S_.1 9 0 3)))))) := ai_fr_tr hF_ (ai_fr_aL rfl)
        refine sm_T_inc (a := 5) (z := 1) (v := w_) (w := w_ + 1) rfl rfl (by omega) (by omega) (by omega) ?_ -- pc_ 112
        refine sm_T_go 1 (c1 := (59, [some (.inr (.inr (some (9, 0)))), some (.inl a1_), some (.inl to_), some (.inl e_), some (.inl nt_), some (.inl (w_ + 1))], [], sm_aL S_ 95 0 (to_ + w_).toNat ((l_4 ((S_.2.2.2 95 0 (to_ + w_).toNat)) ((l_3 ((l_5 ((S_.2.2.2 92 0 (64 * nt_ + w_).toNat)) ((S_.2.2.2 93 0 (64 * nt_ + w_).toNat)))) (S_.1 9 0 3))))))) rfl ?_
        refine ih_.2 to_ e_ nt_ (w_ + 1) (sm_aL S_ 95 0 (to_ + w_).toNat ((l_4 ((S_.2.2.2 95 0 (to_ + w_).toNat)) ((l_3 ((l_5 ((S_.2.2.2 92 0 (64 * nt_ + w_).toNat)) ((S_.2.2.2 93 0 (64 * nt_ + w_).toNat)))) (S_.1 9 0 3)))))) hIx3_ hFx4_ ⟨?_, ?_, trivial⟩ ?_
        · omega
        · intro k_
          rw [rd_leq]
          split
          · exact nl9_4 _ _
          · exact hn1_ k_
        · omega
set_option maxHeartbeats 400000 in
theorem vc_175 {sc_ : Nat × (Nat → Int)} (a1_ : Int) (cc_ : Nat) (S0_ : sm_S) (hI_ : gi S0_) (hb_ : S0_.2.1 9 0 0 = some cc_) (h1_ : 0 ≤ a1_ ∧ a1_ ≤ 1223) (hn_ : shn S0_) : sm_T (mt_P sc_) 2 175 (0, [some (.inr (.inr (some (9, 0)))), some (.inl a1_), none, none, none, none], [], S0_) (fun ro9_ => ∃ u_ S1_, ro9_ = (.inl u_, S1_, 0) ∧ vq_175 a1_ cc_ S0_ u_ S1_) := by
  have hF_ : ai_fr (sx_W vw_175) S0_ S0_ := ai_fr_rf
  refine sm_T_go 2 (c1 := (3, [some (.inr (.inr (some (9, 0)))), some (.inl a1_), none, none, none, none], [.inl 64, .inl a1_], S0_)) rfl ?_
  refine sm_T_bin (w := 64 * a1_) rfl (bi_mul (by omega) (by omega) (by omega)) ?_ -- pc_ 3
  refine sm_T_go 6 (c1 := (13, [some (.inr (.inr (some (9, 0)))), some (.inl a1_), some (.inl (64 * a1_)), none, none, none], [.inl 64, .inl (64 * a1_), .inl (64 * a1_), .inr (.inr (some (95, 0)))], S0_)) rfl ?_
  refine sm_T_bin (w := 64 * a1_ + 64) rfl (bi_add (by omega) (by omega) (by omega)) ?_ -- pc_ 13
  refine sm_T_go 1 (c1 := (15, [some (.inr (.inr (some (9, 0)))), some (.inl a1_), some (.inl (64 * a1_)), none, none, none], [.inr (.inl 0), .inl (64 * a1_ + 64), .inl (64 * a1_), .inr (.inr (some (95, 0)))], S0_)) rfl ?_
  refine sm_T_cal (d1 := 1) (Q1 := vq_5h5 (64 * a1_) (64 * a1_ + 64) 0 S0_) rfl rfl (by decide) (vc_5h5 (64 * a1_) (64 * a1_ + 64) 0 S0_ hI_ (by omega)) (fun u_ Sx1_ px4_ => ?_)
  obtain ⟨rfl, hIx2_, hFx3_, px4_⟩ := px4_
  have hFx5_ : ai_fr (sx_W vw_175) S0_ Sx1_ := ai_fr_tr hF_ (fr_le hFx3_ rfl)
  have f15_ := px4_
  refine sm_T_go 2 (c1 := (20, [some (.inr (.inr (some (9, 0)))), some (.inl a1_), some (.inl (64 * a1_)), some (.inl 0), none, none], [], Sx1_)) rfl ?_
  refine (vl_175 a1_ cc_ S0_ hb_ h1_ hn_ _).1 (64 * a1_) 0 Sx1_ hIx2_ hFx5_ ⟨?_, ?_, trivial⟩ (Nat.lt_succ_self _)
  · omega
  · (intro k_; rcases f15_ k_ with z_ | z_; (rw [z_]; exact hn_ k_); (rw [z_]; exact nl9_0))
end
/-! 99.zl7d -/
section
/-! Tester.workFault -/
def vw_174 : sx_Wl := ([(9, 1), (9, 2), (9, 3)], [92, 93, 94, 95, 96], [(9, 0)])
def vq_174 (a2_ : Int) (cc_ : Nat) (S0_ : sm_S) (u_ : Option sm_V) (S1_ : sm_S) : Prop := u_ = none ∧ gi S1_ ∧ ai_fr (sx_W vw_174) S0_ S1_ ∧ (S1_.2.1 9 0 0 = some cc_ ∧ shn S1_)
set_option maxHeartbeats 2000000 in
set_option maxRecDepth 20000 in
theorem vl_174 {sc_ : Nat × (Nat → Int)} (a2_ : Int) (cc_ : Nat) (S0_ : sm_S) (hs_ : S0_.1 2 cc_ 1 + S0_.1 2 cc_ 2 ≤ 12) (h2_ : 0 ≤ a2_ ∧ a2_ ≤ 1223) (hn_ : shn S0_) : ∀ nn_ : Nat, (∀ (y3_ : Int) (ip_ : Int) (g_ : Int) (S_ : sm_S), gi S_ → ai_fr (sx_W vw_174) S0_ S_ → ((0 ≤ g_ ∧ g_ ≤ 149 ∧ -2147483000 + 3 * (150 - g_) ≤ ip_ ∧ ip_ ≤ 2000) ∧ (S_.2.1 9 0 0 = some cc_) ∧ (shn S_) ∧ True) → ((90000 - g_).toNat) < nn_ → sm_T (mt_P sc_) 4 174 (121, [some (.inr (.inr (some (9, 0)))), some (.inr (.inr (some (2, cc_)))), some (.inl a2_), some (.inr (.inl y3_)), none, none, some (.inl ip_), some (.inl g_), none], [], S_) (fun ro9_ => ∃ u_ S1_, ro9_ = (.inl u_, S1_, 0) ∧ vq_174 a2_ cc_ S0_ u_ S1_)) ∧ (∀ (y3_ : Int) (fm_ : Int) (g_ : Int) (S_ : sm_S), gi S_ → ai_fr (sx_W vw_174) S0_ S_ → ((0 ≤ g_ ∧ g_ ≤ 151) ∧ (S_.2.1 9 0 0 = some cc_) ∧ (shn S_) ∧ True) → ((100 * (200 - g_) + 90).toNat) < nn_ → sm_T (mt_P sc_) 4 174 (199, [some (.inr (.inr (some (9, 0)))), some (.inr (.inr (some (2, cc_)))), some (.inl a2_), some (.inr (.inl y3_)), none, some (.inl fm_), some (.inl g_), none, none], [], S_) (fun ro9_ => ∃ u_ S1_, ro9_ = (.inl u_, S1_, 0) ∧ vq_174 a2_ cc_ S0_ u_ S1_)) ∧ (∀ (y3_ : Int) (fm_ : Int) (g_ : Int) (rc_ : Int) (k_ : Int) (S_ : sm_S), gi S_ → ai_fr (sx_W vw_174) S0_ S_ → ((0 ≤ g_ ∧ g_ < 150 ∧ 0 ≤ rc_ ∧ rc_ ≤ 1 ∧ 0 ≤ k_ ∧ k_ ≤ 3) ∧ (S_.2.1 9 0 0 = some cc_) ∧ (shn S_) ∧ True) → ((100 * (200 - g_) + 80 - k_).toNat) < nn_ → sm_T (mt_P sc_) 4 174 (214, [some (.inr (.inr (some (9, 0)))), some (.inr (.inr (some (2, cc_)))), some (.inl a2_), some (.inr (.inl y3_)), none, some (.inl fm_), some (.inl g_), some (.inl rc_), some (.inl k_)], [], S_) (fun ro9_ => ∃ u_ S1_, ro9_ = (.inl u_, S1_, 0) ∧ vq_174 a2_ cc_ S0_ u_ S1_)) := by
  intro nn_
  induction nn_ with
  | zero => exact ⟨fun _ _ _ _ _ _ _ h_ => absurd h_ (Nat.not_lt_zero _), fun _ _ _ _ _ _ _ h_ => absurd h_ (Nat.not_lt_zero _), fun _ _ _ _ _ _ _ _ _ h_ => absurd h_ (Nat.not_lt_zero _)⟩
  | succ nn_ ih_ =>
    refine ⟨?_, ?_, ?_⟩
    · rintro y3_ ip_ g_ S_ hI_ hF_ ⟨h0_, hck_, hn1_, -⟩ hm_
      have z1_ : S_.1 2 cc_ 1 = S0_.1 2 cc_ 1 := hF_.1 2 cc_ 1 rfl
      have z2_ : S_.1 2 cc_ 2 = S0_.1 2 cc_ 2 := hF_.1 2 cc_ 2 rfl
      have cw : 0 ≤ S_.1 9 0 2 ∧ S_.1 9 0 2 ≤ 64 := hI_.1 9 0 2 rfl
      have cg9_ : 0 ≤ S_.1 2 cc_ 8 ∧ S_.1 2 cc_ 8 ≤ 150 := hI_.1 2 cc_ 8 rfl
      have cq1_ : 0 ≤ S_.1 2 cc_ 1 ∧ S_.1 2 cc_ 1 ≤ 12 := hI_.1 2 cc_ 1 rfl
      have cq2_ : 0 ≤ S_.1 2 cc_ 2 ∧ S_.1 2 cc_ 2 ≤ 6 := hI_.1 2 cc_ 2 rfl
      have bx1_ : 0 ≤ S_.1 2 cc_ 8 ∧ S_.1 2 cc_ 8 ≤ 150 := hI_.1 2 cc_ 8 rfl
      refine sm_T_go 4 (c1 := (128, [some (.inr (.inr (some (9, 0)))), some (.inr (.inr (some (2, cc_)))), some (.inl a2_), some (.inr (.inl y3_)), none, none, some (.inl ip_), some (.inl g_), none], [.inl 1, .inl (S_.1 2 cc_ 8), .inl g_], S_)) rfl ?_
      refine sm_T_bin (w := (S_.1 2 cc_ 8) - 1) rfl (bi_sub (by omega) (by omega) (by omega)) ?_ -- pc_ 128
      refine sm_T_br (a := 3) (z := 31) rfl (fun cx2_ => ?_) (fun cx2_ => ?_)
      · have cx2_ : (S_.1 2 cc_ 8) - 1 ≤ g_ := of_decide_eq_true cx2_
        refine sm_T_go 3 (c1 := (165, [some (.inr (.inr (some (9, 0)))), some (.inr (.inr (some (2, cc_)))), some (.inl a2_), some (.inr (.inl y3_)), none, none, some (.inl ip_), some (.inl g_), none], [.inr (.inr (some (2, cc_))), .inr (.inr (some (94, 0)))], S_)) rfl ?_
        refine sm_T_cal (d1 := 0) (Q1 := vq_54 cc_ S_) rfl rfl (by decide) (vc_54 cc_ S_ hI_ ) (fun u_ Sx3_ px6_ => ?_)
        obtain ⟨rfl, vx8_, rfl, px6_⟩ := px6_
        have m165_ := px6_
        refine sm_T_go 1 (c1 := (170, [some (.inr (.inr (some (9, 0)))), some (.inr (.inr (some (2, cc_)))), some (.inl a2_), some (.inr (.inl y3_)), none, none, some (.inl ip_), some (.inl g_), none], [.inl g_, .inl vx8_, .inr (.inr (some (94, 0)))], S_)) rfl ?_
        refine sm_T_bin (w := vx8_ + g_) rfl (bi_add (by omega) (by omega) (by omega)) ?_ -- pc_ 170
        refine sm_T_go 4 (c1 := (177, [some (.inr (.inr (some (9, 0)))), some (.inr (.inr (some (2, cc_)))), some (.inl a2_), some (.inr (.inl y3_)), none, none, some (.inl ip_), some (.inl g_), none], [.inr (.inl y3_), .inl ip_, .inl g_, .inr (.inr (some (9, 0))), .inl (vx8_ + g_), .inr (.inr (some (94, 0)))], S_)) rfl ?_
        refine sm_T_cal (d1 := 2) (Q1 := vq_173 g_ ip_ y3_ cc_ S_) rfl rfl (by decide) (vc_173 g_ ip_ y3_ cc_ S_ hI_ (by exact hck_) (by omega) (by omega)) (fun u_ Sx9_ px12_ => ?_)
        obtain ⟨vx14_, rfl, hIx10_, hFx11_, px12_⟩ := px12_
        have hFx13_ : ai_fr (sx_W vw_174) S0_ Sx9_ := ai_fr_tr hF_ (fr_le hFx11_ rfl)
        have ex15_ : Sx9_.1 2 cc_ 8 = S_.1 2 cc_ 8 := hFx11_.1 2 cc_ 8 rfl
        have w177_ := px12_
        have n177_ := shn_fr hn1_ hFx11_
        have tk177_ := (hFx11_.2.1 9 0 0 rfl).trans hck_
        refine sm_T_b0 (a := 0) (z := 7) rfl (fun cx16_ => ?_) (fun cx16_ => ?_)
        · have cx16_ : vx14_ = 0 := of_decide_eq_true cx16_
          refine sm_T_go 1 (c1 := (188, [some (.inr (.inr (some (9, 0)))), some (.inr (.inr (some (2, cc_)))), some (.inl a2_), some (.inr (.inl y3_)), none, none, some (.inl ip_), some (.inl g_), none], [.inl 0, .inl (vx8_ + g_), .inr (.inr (some (94, 0)))], Sx9_)) rfl ?_
          refine sm_T_iast (n := 162) rfl rfl (by omega) (by omega) ?_
          have hIx17_ : gi (sm_aI Sx9_ 94 0 (vx8_ + g_).toNat 0) := gi_aI hIx10_ (show 0 ≤ 0 ∧ 0 ≤ 1 from ⟨by omega, by omega⟩)
          have hFx18_ : ai_fr (sx_W vw_174) S0_ (sm_aI Sx9_ 94 0 (vx8_ + g_).toNat 0) := ai_fr_tr hFx13_ (ai_fr_aI rfl)
          refine sm_T_go 2 (c1 := (192, [some (.inr (.inr (some (9, 0)))), some (.inr (.inr (some (2, cc_)))), some (.inl a2_), some (.inr (.inl y3_)), none, none, some (.inl ip_), some (.inl g_), none], [.inl 1, .inl g_], sm_aI Sx9_ 94 0 (vx8_ + g_).toNat 0)) rfl ?_
          refine sm_T_bin (w := g_ + 1) rfl (bi_add (by omega) (by omega) (by omega)) ?_ -- pc_ 192
          refine sm_T_go 3 (c1 := (199, [some (.inr (.inr (some (9, 0)))), some (.inr (.inr (some (2, cc_)))), some (.inl a2_), some (.inr (.inl y3_)), none, some (.inl (g_ + 1)), some (.inl (g_ + 1)), some (.inl g_), none], [], sm_aI Sx9_ 94 0 (vx8_ + g_).toNat 0)) rfl ?_
          refine sm_T_wk [some (.inr (.inr (some (9, 0)))), some (.inr (.inr (some (2, cc_)))), some (.inl a2_), some (.inr (.inl y3_)), none, some (.inl (g_ + 1)), some (.inl (g_ + 1)), none, none] (by exact ⟨rfl, rfl, rfl, rfl, rfl, rfl, trivial⟩) ?_
          refine ih_.2.1 y3_ (g_ + 1) (g_ + 1) (sm_aI Sx9_ 94 0 (vx8_ + g_).toNat 0) hIx17_ hFx18_ ⟨?_, ?_, ?_, trivial⟩ ?_
          · omega
          · exact tk177_
          · exact n177_
          · omega
        · have cx16_ : ¬ (vx14_ = 0) := of_decide_eq_false cx16_
          refine sm_T_go 2 (c1 := (188, [some (.inr (.inr (some (9, 0)))), some (.inr (.inr (some (2, cc_)))), some (.inl a2_), some (.inr (.inl y3_)), none, none, some (.inl ip_), some (.inl g_), none], [.inl 1, .inl (vx8_ + g_), .inr (.inr (some (94, 0)))], Sx9_)) rfl ?_
          refine sm_T_iast (n := 162) rfl rfl (by omega) (by omega) ?_
          have hIx19_ : gi (sm_aI Sx9_ 94 0 (vx8_ + g_).toNat 1) := gi_aI hIx10_ (show 0 ≤ 1 ∧ 1 ≤ 1 from ⟨by omega, by omega⟩)
          have hFx20_ : ai_fr (sx_W vw_174) S0_ (sm_aI Sx9_ 94 0 (vx8_ + g_).toNat 1) := ai_fr_tr hFx13_ (ai_fr_aI rfl)
          refine sm_T_go 2 (c1 := (192, [some (.inr (.inr (some (9, 0)))), some (.inr (.inr (some (2, cc_)))), some (.inl a2_), some (.inr (.inl y3_)), none, none, some (.inl ip_), some (.inl g_), none], [.inl 1, .inl g_], sm_aI Sx9_ 94 0 (vx8_ + g_).toNat 1)) rfl ?_
          refine sm_T_bin (w := g_ + 1) rfl (bi_add (by omega) (by omega) (by omega)) ?_ -- pc_ 192
          refine sm_T_go 3 (c1 := (199, [some (.inr (.inr (some (9, 0)))), some (.inr (.inr (some (2, cc_)))), some (.inl a2_), some (.inr (.inl y3_)), none, some (.inl (g_ + 1)), some (.inl (g_ + 1)), some (.inl g_), none], [], sm_aI Sx9_ 94 0 (vx8_ + g_).toNat 1)) rfl ?_
          refine sm_T_wk [some (.inr (.inr (some (9, 0)))), some (.inr (.inr (some (2, cc_)))), some (.inl a2_), some (.inr (.inl y3_)), none, some (.inl (g_ + 1)), some (.inl (g_ + 1)), none, none] (by exact ⟨rfl, rfl, rfl, rfl, rfl, rfl, trivial⟩) ?_
          refine ih_.2.1 y3_ (g_ + 1) (g_ + 1) (sm_aI Sx9_ 94 0 (vx8_ + g_).toNat 1) hIx19_ hFx20_ ⟨?_, ?_, ?_, trivial⟩ ?_
          · omega
          · exact tk177_
          · exact n177_
          · omega
      · have cx2_ : ¬ ((S_.1 2 cc_ 8) - 1 ≤ g_) := of_decide_eq_false cx2_
        refine sm_T_go 3 (c1 := (137, [some (.inr (.inr (some (9, 0)))), some (.inr (.inr (some (2, cc_)))), some (.inl a2_), some (.inr (.inl y3_)), none, none, some (.inl ip_), some (.inl g_), none], [.inl g_, .inr (.inr (some (2, cc_))), .inl ip_], S_)) rfl ?_
        refine sm_T_cal (d1 := 0) (Q1 := vq_59 g_ cc_ S_) rfl rfl (by decide) (vc_59 g_ cc_ S_ hI_ (by omega)) (fun u_ Sx21_ px24_ => ?_)
        obtain ⟨rfl, vx26_, rfl, px24_⟩ := px24_
        have g137_ := px24_.1
        refine sm_T_br (a := 2) (z := 20) rfl (fun cx27_ => ?_) (fun cx27_ => ?_)
        · have cx27_ : ip_ < vx26_ := of_decide_eq_true cx27_
          refine sm_T_go 3 (c1 := (165, [some (.inr (.inr (some (9, 0)))), some (.inr (.inr (some (2, cc_)))), some (.inl a2_), some (.inr (.inl y3_)), none, none, some (.inl ip_), some (.inl g_), none], [.inr (.inr (some (2, cc_))), .inr (.inr (some (94, 0)))], S_)) rfl ?_
          refine sm_T_cal (d1 := 0) (Q1 := vq_54 cc_ S_) rfl rfl (by decide) (vc_54 cc_ S_ hI_ ) (fun u_ Sx28_ px31_ => ?_)
          obtain ⟨rfl, vx33_, rfl, px31_⟩ := px31_
          have m165_ := px31_
          refine sm_T_go 1 (c1 := (170, [some (.inr (.inr (some (9, 0)))), some (.inr (.inr (some (2, cc_)))), some (.inl a2_), some (.inr (.inl y3_)), none, none, some (.inl ip_), some (.inl g_), none], [.inl g_, .inl vx33_, .inr (.inr (some (94, 0)))], S_)) rfl ?_
          refine sm_T_bin (w := vx33_ + g_) rfl (bi_add (by omega) (by omega) (by omega)) ?_ -- pc_ 170
          refine sm_T_go 4 (c1 := (177, [some (.inr (.inr (some (9, 0)))), some (.inr (.inr (some (2, cc_)))), some (.inl a2_), some (.inr (.inl y3_)), none, none, some (.inl ip_), some (.inl g_), none], [.inr (.inl y3_), .inl ip_, .inl g_, .inr (.inr (some (9, 0))), .inl (vx33_ + g_), .inr (.inr (some (94, 0)))], S_)) rfl ?_
          refine sm_T_cal (d1 := 2) (Q1 := vq_173 g_ ip_ y3_ cc_ S_) rfl rfl (by decide) (vc_173 g_ ip_ y3_ cc_ S_ hI_ (by exact hck_) (by omega) (by omega)) (fun u_ Sx34_ px37_ => ?_)
          obtain ⟨vx39_, rfl, hIx35_, hFx36_, px37_⟩ := px37_
          have hFx38_ : ai_fr (sx_W vw_174) S0_ Sx34_ := ai_fr_tr hF_ (fr_le hFx36_ rfl)
          have ex40_ : Sx34_.1 2 cc_ 8 = S_.1 2 cc_ 8 := hFx36_.1 2 cc_ 8 rfl
          have w177_ := px37_
          have n177_ := shn_fr hn1_ hFx36_
          have tk177_ := (hFx36_.2.1 9 0 0 rfl).trans hck_
          refine sm_T_b0 (a := 0) (z := 7) rfl (fun cx41_ => ?_) (fun cx41_ => ?_)
          · have cx41_ : vx39_ = 0 := of_decide_eq_true cx41_
            refine sm_T_go 1 (c1 := (188, [some (.inr (.inr (some (9, 0)))), some (.inr (.inr (some (2, cc_)))), some (.inl a2_), some (.inr (.inl y3_)), none, none, some (.inl ip_), some (.inl g_), none], [.inl 0, .inl (vx33_ + g_), .inr (.inr (some (94, 0)))], Sx34_)) rfl ?_
            refine sm_T_iast (n := 162) rfl rfl (by omega) (by omega) ?_
            have hIx42_ : gi (sm_aI Sx34_ 94 0 (vx33_ + g_).toNat 0) := gi_aI hIx35_ (show 0 ≤ 0 ∧ 0 ≤ 1 from ⟨by omega, by omega⟩)
            have hFx43_ : ai_fr (sx_W vw_174) S0_ (sm_aI Sx34_ 94 0 (vx33_ + g_).toNat 0) := ai_fr_tr hFx38_ (ai_fr_aI rfl)
            refine sm_T_go 2 (c1 := (192, [some (.inr (.inr (some (9, 0)))), some (.inr (.inr (some (2, cc_)))), some (.inl a2_), some (.inr (.inl y3_)), none, none, some (.inl ip_), some (.inl g_), none], [.inl 1, .inl g_], sm_aI Sx34_ 94 0 (vx33_ + g_).toNat 0)) rfl ?_
            refine sm_T_bin (w := g_ + 1) rfl (bi_add (by omega) (by omega) (by omega)) ?_ -- pc_ 192
            refine sm_T_go 3 (c1 := (199, [some (.inr (.inr (some (9, 0)))), some (.inr (.inr (some (2, cc_)))), some (.inl a2_), some (.inr (.inl y3_)), none, some (.inl (g_ + 1)), some (.inl (g_ + 1)), some (.inl g_), none], [], sm_aI Sx34_ 94 0 (vx33_ + g_).toNat 0)) rfl ?_
            refine sm_T_wk [some (.inr (.inr (some (9, 0)))), some (.inr (.inr (some (2, cc_)))), some (.inl a2_), some (.inr (.inl y3_)), none, some (.inl (g_ + 1)), some (.inl (g_ + 1)), none, none] (by exact ⟨rfl, rfl, rfl, rfl, rfl, rfl, trivial⟩) ?_
            refine ih_.2.1 y3_ (g_ + 1) (g_ + 1) (sm_aI Sx34_ 94 0 (vx33_ + g_).toNat 0) hIx42_ hFx43_ ⟨?_, ?_, ?_, trivial⟩ ?_
            · omega
            · exact tk177_
            · exact n177_
            · omega
          · have cx41_ : ¬ (vx39_ = 0) := of_decide_eq_false cx41_
            refine sm_T_go 2 (c1 := (188, [some (.inr (.inr (some (9, 0)))), some (.inr (.inr (some (2, cc_)))), some (.inl a2_), some (.inr (.inl y3_)), none, none, some (.inl ip_), some (.inl g_), none], [.inl 1, .inl (vx33_ + g_), .inr (.inr (some (94, 0)))], Sx34_)) rfl ?_
            refine sm_T_iast (n := 162) rfl rfl (by omega) (by omega) ?_
            have hIx44_ : gi (sm_aI Sx34_ 94 0 (vx33_ + g_).toNat 1) := gi_aI hIx35_ (show 0 ≤ 1 ∧ 1 ≤ 1 from ⟨by omega, by omega⟩)
            have hFx45_ : ai_fr (sx_W vw_174) S0_ (sm_aI Sx34_ 94 0 (vx33_ + g_).toNat 1) := ai_fr_tr hFx38_ (ai_fr_aI rfl)
            refine sm_T_go 2 (c1 := (192, [some (.inr (.inr (some (9, 0)))), some (.inr (.inr (some (2, cc_)))), some (.inl a2_), some (.inr (.inl y3_)), none, none, some (.inl ip_), some (.inl g_), none], [.inl 1, .inl g_], sm_aI Sx34_ 94 0 (vx33_ + g_).toNat 1)) rfl ?_
            refine sm_T_bin (w := g_ + 1) rfl (bi_add (by omega) (by omega) (by omega)) ?_ -- pc_ 192
            refine sm_T_go 3 (c1 := (199, [some (.inr (.inr (some (9, 0)))), some (.inr (.inr (some (2, cc_)))), some (.inl a2_), some (.inr (.inl y3_)), none, some (.inl (g_ + 1)), some (.inl (g_ + 1)), some (.inl g_), none], [], sm_aI Sx34_ 94 0 (vx33_ + g_).toNat 1)) rfl ?_
            refine sm_T_wk [some (.inr (.inr (some (9, 0)))), some (.inr (.inr (some (2, cc_)))), some (.inl a2_), some (.inr (.inl y3_)), none, some (.inl (g_ + 1)), some (.inl (g_ + 1)), none, none] (by exact ⟨rfl, rfl, rfl, rfl, rfl, rfl, trivial⟩) ?_
            refine ih_.2.1 y3_ (g_ + 1) (g_ + 1) (sm_aI Sx34_ 94 0 (vx33_ + g_).toNat 1) hIx44_ hFx45_ ⟨?_, ?_, ?_, trivial⟩ ?_
            · omega
            · exact tk177_
            · exact n177_
            · omega
        · have cx27_ : ¬ (ip_ < vx26_) := of_decide_eq_false cx27_
          refine sm_T_go 3 (c1 := (148, [some (.inr (.inr (some (9, 0)))), some (.inr (.inr (some (2, cc_)))), some (.inl a2_), some (.inr (.inl y3_)), none, none, some (.inl ip_), some (.inl g_), none], [.inl g_, .inr (.inr (some (2, cc_))), .inl ip_], S_)) rfl ?_
          refine sm_T_cal (d1 := 0) (Q1 := vq_59 g_ cc_ S_) rfl rfl (by decide) (vc_59 g_ cc_ S_ hI_ (by omega)) (fun u_ Sx46_ px49_ => ?_)
          obtain ⟨rfl, vx51_, rfl, px49_⟩ := px49_
          have g148_ := px49_.1
          refine sm_T_bin (w := ip_ - vx51_) rfl (bi_sub (by omega) (by omega) (by omega)) ?_ -- pc_ 151
          refine sm_T_go 1 (c1 := (154, [some (.inr (.inr (some (9, 0)))), some (.inr (.inr (some (2, cc_)))), some (.inl a2_), some (.inr (.inl y3_)), none, none, some (.inl (ip_ - vx51_)), some (.inl g_), none], [], S_)) rfl ?_
          refine sm_T_inc (a := 7) (z := 1) (v := g_) (w := g_ + 1) rfl rfl (by omega) (by omega) (by omega) ?_ -- pc_ 154
          refine sm_T_go 1 (c1 := (121, [some (.inr (.inr (some (9, 0)))), some (.inr (.inr (some (2, cc_)))), some (.inl a2_), some (.inr (.inl y3_)), none, none, some (.inl (ip_ - vx51_)), some (.inl (g_ + 1)), none], [], S_)) rfl ?_
          refine ih_.1 y3_ (ip_ - vx51_) (g_ + 1) S_ hI_ hF_ ⟨?_, ?_, ?_, trivial⟩ ?_
          · omega
          · exact hck_
          · exact hn1_
          · omega
    · rintro y3_ fm_ g_ S_ hI_ hF_ ⟨h0_, hck_, hn1_, -⟩ hm_
      have z1_ : S_.1 2 cc_ 1 = S0_.1 2 cc_ 1 := hF_.1 2 cc_ 1 rfl
      have z2_ : S_.1 2 cc_ 2 = S0_.1 2 cc_ 2 := hF_.1 2 cc_ 2 rfl
      have cw : 0 ≤ S_.1 9 0 2 ∧ S_.1 9 0 2 ≤ 64 := hI_.1 9 0 2 rfl
      have cg9_ : 0 ≤ S_.1 2 cc_ 8 ∧ S_.1 2 cc_ 8 ≤ 150 := hI_.1 2 cc_ 8 rfl
      have cq1_ : 0 ≤ S_.1 2 cc_ 1 ∧ S_.1 2 cc_ 1 ≤ 12 := hI_.1 2 cc_ 1 rfl
      have cq2_ : 0 ≤ S_.1 2 cc_ 2 ∧ S_.1 2 cc_ 2 ≤ 6 := hI_.1 2 cc_ 2 rfl
      have bx1_ : 0 ≤ S_.1 2 cc_ 8 ∧ S_.1 2 cc_ 8 ≤ 150 := hI_.1 2 cc_ 8 rfl
      refine sm_T_go 3 (c1 := (205, [some (.inr (.inr (some (9, 0)))), some (.inr (.inr (some (2, cc_)))), some (.inl a2_), some (.inr (.inl y3_)), none, some (.inl fm_), some (.inl g_), none, none], [.inl (S_.1 2 cc_ 8), .inl g_], S_)) rfl ?_
      refine sm_T_br (a := 3) (z := 93) rfl (fun cx2_ => ?_) (fun cx2_ => ?_)
      · have cx2_ : (S_.1 2 cc_ 8) ≤ g_ := of_decide_eq_true cx2_
        refine sm_T_go 2 (c1 := (300, [some (.inr (.inr (some (9, 0)))), some (.inr (.inr (some (2, cc_)))), some (.inl a2_), some (.inr (.inl y3_)), none, some (.inl fm_), some (.inl g_), none, none], [.inl a2_, .inr (.inr (some (9, 0)))], S_)) rfl ?_
        refine sm_T_cal (d1 := 2) (Q1 := vq_175 a2_ cc_ S_) rfl rfl (by decide) (vc_175 a2_ cc_ S_ hI_ (by exact hck_) (by omega) (by exact hn1_)) (fun u_ Sx3_ px6_ => ?_)
        obtain ⟨rfl, hIx4_, hFx5_, px6_⟩ := px6_
        have hFx7_ : ai_fr (sx_W vw_174) S0_ Sx3_ := ai_fr_tr hF_ (fr_le hFx5_ rfl)
        have ex8_ : Sx3_.1 2 cc_ 8 = S_.1 2 cc_ 8 := hFx5_.1 2 cc_ 8 rfl
        have k300_ := px6_
        have tk300_ := (hFx5_.2.1 9 0 0 rfl).trans hck_
        refine sm_T_rv rfl ⟨_, _, rfl, rfl, hIx4_, hFx7_, ?_⟩
        exact ⟨tk300_, k300_⟩
      · have cx2_ : ¬ ((S_.1 2 cc_ 8) ≤ g_) := of_decide_eq_false cx2_
        refine sm_T_go 4 (c1 := (214, [some (.inr (.inr (some (9, 0)))), some (.inr (.inr (some (2, cc_)))), some (.inl a2_), some (.inr (.inl y3_)), none, some (.inl fm_), some (.inl g_), some (.inl 0), some (.inl 0)], [], S_)) rfl ?_
        refine ih_.2.2 y3_ fm_ g_ 0 0 S_ hI_ hF_ ⟨?_, ?_, ?_, trivial⟩ ?_
        · omega
        · exact hck_
        · exact hn1_
        · omega
    · rintro y3_ fm_ g_ rc_ k_ S_ hI_ hF_ ⟨h0_, hck_, hn1_, -⟩ hm_
      have z1_ : S_.1 2 cc_ 1 = S0_.1 2 cc_ 1 := hF_.1 2 cc_ 1 rfl
      have z2_ : S_.1 2 cc_ 2 = S0_.1 2 cc_ 2 := hF_.1 2 cc_ 2 rfl
      have cw : 0 ≤ S_.1 9 0 2 ∧ S_.1 9 0 2 ≤ 64 := hI_.1 9 0 2 rfl
      have cg9_ : 0 ≤ S_.1 2 cc_ 8 ∧ S_.1 2 cc_ 8 ≤ 150 := hI_.1 2 cc_ 8 rfl
      have cq1_ : 0 ≤ S_.1 2 cc_ 1 ∧ S_.1 2 cc_ 1 ≤ 12 := hI_.1 2 cc_ 1 rfl
      have cq2_ : 0 ≤ S_.1 2 cc_ 2 ∧ S_.1 2 cc_ 2 ≤ 6 := hI_.1 2 cc_ 2 rfl
      refine sm_T_go 3 (c1 := (219, [some (.inr (.inr (some (9, 0)))), some (.inr (.inr (some (2, cc_)))), some (.inl a2_), some (.inr (.inl y3_)), none, some (.inl fm_), some (.inl g_), some (.inl rc_), some (.inl k_)], [.inl g_, .inr (.inr (some (2, cc_))), .inl k_], S_)) rfl ?_
      refine sm_T_cal (d1 := 0) (Q1 := vq_59 g_ cc_ S_) rfl rfl (by decide) (vc_59 g_ cc_ S_ hI_ (by omega)) (fun u_ Sx1_ px4_ => ?_)
      obtain ⟨rfl, vx6_, rfl, px4_⟩ := px4_
      have g219_ := px4_.1
      refine sm_T_br (a := 3) (z := 41) rfl (fun cx7_ => ?_) (fun cx7_ => ?_)
      · have cx7_ : vx6_ ≤ k_ := of_decide_eq_true cx7_
        refine sm_T_go 1 (c1 := (265, [some (.inr (.inr (some (9, 0)))), some (.inr (.inr (some (2, cc_)))), some (.inl a2_), some (.inr (.inl y3_)), none, some (.inl fm_), some (.inl g_), some (.inl rc_), some (.inl k_)], [.inl rc_], S_)) rfl ?_
        refine sm_T_b0 (a := 0) (z := 27) rfl (fun cx8_ => ?_) (fun cx8_ => ?_)
        · have cx8_ : rc_ = 0 := of_decide_eq_true cx8_
          refine sm_T_inc (a := 6) (z := 1) (v := g_) (w := g_ + 1) rfl rfl (by omega) (by omega) (by omega) ?_ -- pc_ 292
          refine sm_T_go 1 (c1 := (199, [some (.inr (.inr (some (9, 0)))), some (.inr (.inr (some (2, cc_)))), some (.inl a2_), some (.inr (.inl y3_)), none, some (.inl fm_), some (.inl (g_ + 1)), some (.inl rc_), some (.inl k_)], [], S_)) rfl ?_
          refine sm_T_wk [some (.inr (.inr (some (9, 0)))), some (.inr (.inr (some (2, cc_)))), some (.inl a2_), some (.inr (.inl y3_)), none, some (.inl fm_), some (.inl (g_ + 1)), none, none] (by exact ⟨rfl, rfl, rfl, rfl, rfl, rfl, trivial⟩) ?_
          refine ih_.2.1 y3_ fm_ (g_ + 1) S_ hI_ hF_ ⟨?_, ?_, ?_, trivial⟩ ?_
          · omega
          · first | exact hck_ | exact tk273_
          · first | exact hn1_ | exact n273_
          · omega
        · have cx8_ : ¬ (rc_ = 0) := of_decide_eq_false cx8_
          refine sm_T_go 4 (c1 := (273, [some (.inr (.inr (some (9, 0)))), some (.inr (.inr (some (2, cc_)))), some (.inl a2_), some (.inr (.inl y3_)), none, some (.inl fm_), some (.inl g_), some (.inl rc_), some (.inl k_)], [.inr (.inl 0), .inl (-1), .inl g_, .inr (.inr (some (9, 0)))], S_)) rfl ?_
          refine sm_T_cal (d1 := 2) (Q1 := vq_173 g_ (-1) 0 cc_ S_) rfl rfl (by decide) (vc_173 g_ (-1) 0 cc_ S_ hI_ (by exact hck_) (by omega) (by omega)) (fun u_ Sx9_ px12_ => ?_)
          obtain ⟨vx14_, rfl, hIx10_, hFx11_, px12_⟩ := px12_
          have hFx13_ : ai_fr (sx_W vw_174) S0_ Sx9_ := ai_fr_tr hF_ (fr_le hFx11_ rfl)
          have w273_ := px12_
          have u1_ := hFx11_.1 2 cc_ 1 rfl
          have u2_ := hFx11_.1 2 cc_ 2 rfl
          have n273_ := shn_fr hn1_ hFx11_
          have tk273_ := (hFx11_.2.1 9 0 0 rfl).trans hck_
          refine sm_T_b0 (a := 0) (z := 16) rfl (fun cx15_ => ?_) (fun cx15_ => ?_)
          · have cx15_ : vx14_ = 0 := of_decide_eq_true cx15_
            refine sm_T_inc (a := 6) (z := 1) (v := g_) (w := g_ + 1) rfl rfl (by omega) (by omega) (by omega) ?_ -- pc_ 292
            refine sm_T_go 1 (c1 := (199, [some (.inr (.inr (some (9, 0)))), some (.inr (.inr (some (2, cc_)))), some (.inl a2_), some (.inr (.inl y3_)), none, some (.inl fm_), some (.inl (g_ + 1)), some (.inl rc_), some (.inl k_)], [], Sx9_)) rfl ?_
            refine sm_T_wk [some (.inr (.inr (some (9, 0)))), some (.inr (.inr (some (2, cc_)))), some (.inl a2_), some (.inr (.inl y3_)), none, some (.inl fm_), some (.inl (g_ + 1)), none, none] (by exact ⟨rfl, rfl, rfl, rfl, rfl, rfl, trivial⟩) ?_
            refine ih_.2.1 y3_ fm_ (g_ + 1) Sx9_ hIx10_ hFx13_ ⟨?_, ?_, ?_, trivial⟩ ?_
            · omega
            · first | exact hck_ | exact tk273_
            · first | exact hn1_ | exact n273_
            · omega
          · have cx15_ : ¬ (vx14_ = 0) := of_decide_eq_false cx15_
            refine sm_T_go 3 (c1 := (284, [some (.inr (.inr (some (9, 0)))), some (.inr (.inr (some (2, cc_)))), some (.inl a2_), some (.inr (.inl y3_)), none, some (.inl fm_), some (.inl g_), some (.inl rc_), some (.inl k_)], [.inr (.inr (some (2, cc_))), .inr (.inr (some (94, 0)))], Sx9_)) rfl ?_
            refine sm_T_cal (d1 := 0) (Q1 := vq_54 cc_ Sx9_) rfl rfl (by decide) (vc_54 cc_ Sx9_ hIx10_ ) (fun u_ Sx16_ px19_ => ?_)
            obtain ⟨rfl, vx21_, rfl, px19_⟩ := px19_
            have m284_ := px19_
            refine sm_T_go 1 (c1 := (289, [some (.inr (.inr (some (9, 0)))), some (.inr (.inr (some (2, cc_)))), some (.inl a2_), some (.inr (.inl y3_)), none, some (.inl fm_), some (.inl g_), some (.inl rc_), some (.inl k_)], [.inl g_, .inl vx21_, .inr (.inr (some (94, 0)))], Sx9_)) rfl ?_
            refine sm_T_bin (w := vx21_ + g_) rfl (bi_add (by omega) (by omega) (by omega)) ?_ -- pc_ 289
            refine sm_T_go 1 (c1 := (291, [some (.inr (.inr (some (9, 0)))), some (.inr (.inr (some (2, cc_)))), some (.inl a2_), some (.inr (.inl y3_)), none, some (.inl fm_), some (.inl g_), some (.inl rc_), some (.inl k_)], [.inl 1, .inl (vx21_ + g_), .inr (.inr (some (94, 0)))], Sx9_)) rfl ?_
            refine sm_T_iast (n := 162) rfl rfl (by omega) (by omega) ?_
            have hIx22_ : gi (sm_aI Sx9_ 94 0 (vx21_ + g_).toNat 1) := gi_aI hIx10_ (show 0 ≤ 1 ∧ 1 ≤ 1 from ⟨by omega, by omega⟩)
            have hFx23_ : ai_fr (sx_W vw_174) S0_ (sm_aI Sx9_ 94 0 (vx21_ + g_).toNat 1) := ai_fr_tr hFx13_ (ai_fr_aI rfl)
            refine sm_T_inc (a := 6) (z := 1) (v := g_) (w := g_ + 1) rfl rfl (by omega) (by omega) (by omega) ?_ -- pc_ 292
            refine sm_T_go 1 (c1 := (199, [some (.inr (.inr (some (9, 0)))), some (.inr (.inr (some (2, cc_)))), some (.inl a2_), some (.inr (.inl y3_)), none, some (.inl fm_), some (.inl (g_ + 1)), some (.inl rc_), some (.inl k_)], [], sm_aI Sx9_ 94 0 (vx21_ + g_).toNat 1)) rfl ?_
            refine sm_T_wk [some (.inr (.inr (some (9, 0)))), some (.inr (.inr (some (2, cc_)))), some (.inl a2_), some (.inr (.inl y3_)), none, some (.inl fm_), some (.inl (g_ + 1)), none, none] (by exact ⟨rfl, rfl, rfl, rfl, rfl, rfl, trivial⟩) ?_
            refine ih_.2.1 y3_ fm_ (g_ + 1) (sm_aI Sx9_ 94 0 (vx21_ + g_).toNat 1) hIx22_ hFx23_ ⟨?_, ?_, ?_, trivial⟩ ?_
            · omega
            · first | exact hck_ | exact tk273_
            · first | exact hn1_ | exact n273_
            · omega
      · have cx7_ : ¬ (vx6_ ≤ k_) := of_decide_eq_false cx7_
        refine sm_T_go 1 (c1 := (227, [some (.inr (.inr (some (9, 0)))), some (.inr (.inr (some (2, cc_)))), some (.inl a2_), some (.inr (.inl y3_)), none, some (.inl fm_), some (.inl g_), some (.inl rc_), some (.inl k_)], [.inl rc_], S_)) rfl ?_
        refine sm_T_b0 (a := 1) (z := 23) rfl (fun cx24_ => ?_) (fun cx24_ => ?_)
        · have cx24_ : rc_ ≠ 0 := of_decide_eq_true cx24_
          refine sm_T_go 3 (c1 := (257, [some (.inr (.inr (some (9, 0)))), some (.inr (.inr (some (2, cc_)))), some (.inl a2_), some (.inr (.inl y3_)), none, some (.inl fm_), some (.inl g_), some (.inl 1), some (.inl k_)], [], S_)) rfl ?_
          refine sm_T_inc (a := 8) (z := 1) (v := k_) (w := k_ + 1) rfl rfl (by omega) (by omega) (by omega) ?_ -- pc_ 257
          refine sm_T_go 1 (c1 := (214, [some (.inr (.inr (some (9, 0)))), some (.inr (.inr (some (2, cc_)))), some (.inl a2_), some (.inr (.inl y3_)), none, some (.inl fm_), some (.inl g_), some (.inl 1), some (.inl (k_ + 1))], [], S_)) rfl ?_
          refine ih_.2.2 y3_ fm_ g_ 1 (k_ + 1) S_ hI_ hF_ ⟨?_, ?_, ?_, trivial⟩ ?_
          · omega
          · exact hck_
          · exact hn1_
          · omega
        · have cx24_ : ¬ (rc_ ≠ 0) := of_decide_eq_false cx24_
          refine sm_T_go 6 (c1 := (241, [some (.inr (.inr (some (9, 0)))), some (.inr (.inr (some (2, cc_)))), some (.inl a2_), some (.inr (.inl y3_)), none, some (.inl fm_), some (.inl g_), some (.inl rc_), some (.inl k_)], [.inl g_, .inl 3, .inr (.inr (some (36, (0 + cc_)))), .inr (.inr (some (94, 0)))], S_)) rfl ?_
          refine sm_T_bin (w := 3 * g_) rfl (bi_mul (by omega) (by omega) (by omega)) ?_ -- pc_ 241
          refine sm_T_go 1 (c1 := (244, [some (.inr (.inr (some (9, 0)))), some (.inr (.inr (some (2, cc_)))), some (.inl a2_), some (.inr (.inl y3_)), none, some (.inl fm_), some (.inl g_), some (.inl rc_), some (.inl k_)], [.inl k_, .inl (3 * g_), .inr (.inr (some (36, (0 + cc_)))), .inr (.inr (some (94, 0)))], S_)) rfl ?_
          refine sm_T_bin (w := 3 * g_ + k_) rfl (bi_add (by omega) (by omega) (by omega)) ?_ -- pc_ 244
          refine sm_T_iald (n := 450) rfl rfl (by omega) (by omega) ?_
          have bx25_ : 0 ≤ S_.2.2.1 36 (0 + cc_) (3 * g_ + k_).toNat ∧ S_.2.2.1 36 (0 + cc_) (3 * g_ + k_).toNat ≤ 161 := hI_.2 36 (0 + cc_) _
          refine sm_T_iald (n := 162) rfl rfl (by omega) (by omega) ?_
          have bx26_ : 0 ≤ S_.2.2.1 94 0 (S_.2.2.1 36 (0 + cc_) (3 * g_ + k_).toNat).toNat ∧ S_.2.2.1 94 0 (S_.2.2.1 36 (0 + cc_) (3 * g_ + k_).toNat).toNat ≤ 1 := hI_.2 94 0 _
          refine sm_T_b0 (a := 0) (z := 7) rfl (fun cx27_ => ?_) (fun cx27_ => ?_)
          · have cx27_ : (S_.2.2.1 94 0 (S_.2.2.1 36 (0 + cc_) (3 * g_ + k_).toNat).toNat) = 0 := of_decide_eq_true cx27_
            refine sm_T_go 2 (c1 := (257, [some (.inr (.inr (some (9, 0)))), some (.inr (.inr (some (2, cc_)))), some (.inl a2_), some (.inr (.inl y3_)), none, some (.inl fm_), some (.inl g_), some (.inl 0), some (.inl k_)], [], S_)) rfl ?_
            refine sm_T_inc (a := 8) (z := 1) (v := k_) (w := k_ + 1) rfl rfl (by omega) (by omega) (by omega) ?_ -- pc_ 257
            refine sm_T_go 1 (c1 := (214, [some (.inr (.inr (some (9, 0)))), some (.inr (.inr (some (2, cc_)))), some (.inl a2_), some (.inr (.inl y3_)), none, some (.inl fm_), some (.inl g_), some (.inl 0), some (.inl (k_ + 1))], [], S_)) rfl ?_
            refine ih_.2.2 y3_ fm_ g_ 0 (k_ + 1) S_ hI_ hF_ ⟨?_, ?_, ?_, trivial⟩ ?_
            · omega
            · exact hck_
            · exact hn1_
            · omega
          · have cx27_ : ¬ ((S_.2.2.1 94 0 (S_.2.2.1 36 (0 + cc_) (3 * g_ + k_).toNat).toNat) = 0) := of_decide_eq_false cx27_
            refine sm_T_go 3 (c1 := (257, [some (.inr (.inr (some (9, 0)))), some (.inr (.inr (some (2, cc_)))), some (.inl a2_), some (.inr (.inl y3_)), none, some (.inl fm_), some (.inl g_), some (.inl 1), some (.inl k_)], [], S_)) rfl ?_
            refine sm_T_inc (a := 8) (z := 1) (v := k_) (w := k_ + 1) rfl rfl (by omega) (by omega) (by omega) ?_ -- pc_ 257
            refine sm_T_go 1 (c1 := (214, [some (.inr (.inr (some (9, 0)))), some (.inr (.inr (some (2, cc_)))), some (.inl a2_), some (.inr (.inl y3_)), none, some (.inl fm_), some (.inl g_), some (.inl 1), some (.inl (k_ + 1))], [], S_)) rfl ?_
            refine ih_.2.2 y3_ fm_ g_ 1 (k_ + 1) S_ hI_ hF_ ⟨?_, ?_, ?_, trivial⟩ ?_
            · omega
            · exact hck_
            · exact hn1_
            · omega
set_option maxHeartbeats 2000000 in
set_option maxRecDepth 20000 in
theorem vc_174 {sc_ : Nat × (Nat → Int)} (a2_ : Int) (cc_ : Nat) (S0_ : sm_S) (hI_ : gi S0_) (hs_ : S0_.1 2 cc_ 1 + S0_.1 2 cc_ 2 ≤ 12) (h2_ : 0 ≤ a2_ ∧ a2_ ≤ 1223) (hn_ : shn S0_) : sm_T (mt_P sc_) 4 174 (0, [some (.inr (.inr (some (9, 0)))), some (.inr (.inr (some (2, cc_)))), some (.inl a2_), none, none, none, none, none, none], [], S0_) (fun ro9_ => ∃ u_ S1_, ro9_ = (.inl u_, S1_, 0) ∧ vq_174 a2_ cc_ S0_ u_ S1_) := by
  have hF_ : ai_fr (sx_W vw_174) S0_ S0_ := ai_fr_rf
  refine sm_T_go 2 (c1 := (2, [some (.inr (.inr (some (9, 0)))), some (.inr (.inr (some (2, cc_)))), some (.inl a2_), none, none, none, none, none, none], [.inr (.inr (some (2, cc_))), .inr (.inr (some (9, 0)))], S0_)) rfl ?_
  refine sm_T_cal (d1 := 3) (Q1 := vq_168 cc_ S0_) rfl rfl (by decide) (vc_168 cc_ S0_ hI_ (by omega)) (fun u_ Sx1_ px4_ => ?_)
  obtain ⟨rfl, hIx2_, hFx3_, px4_⟩ := px4_
  have hFx5_ : ai_fr (sx_W vw_174) S0_ Sx1_ := ai_fr_tr hF_ (fr_le hFx3_ rfl)
  have tk2 := px4_
  have n2_ := shn_fr hn_ hFx3_
  have y1_ := hFx3_.1 2 cc_ 1 rfl
  have y2_ := hFx3_.1 2 cc_ 2 rfl
  have cw2_ : 0 ≤ Sx1_.1 9 0 2 ∧ Sx1_.1 9 0 2 ≤ 64 := hIx2_.1 9 0 2 rfl
  have cg2_ : 0 ≤ Sx1_.1 2 cc_ 8 ∧ Sx1_.1 2 cc_ 8 ≤ 150 := hIx2_.1 2 cc_ 8 rfl
  refine sm_T_go 3 (c1 := (10, [some (.inr (.inr (some (9, 0)))), some (.inr (.inr (some (2, cc_)))), some (.inl a2_), none, none, none, none, none, none], [.inl a2_, .inr (.inr (some (96, 0)))], Sx1_)) rfl ?_
  refine sm_T_iald (n := 1224) rfl rfl (by omega) (by omega) ?_
  have bx6_ : (-2147483648) ≤ Sx1_.2.2.1 96 0 a2_.toNat ∧ Sx1_.2.2.1 96 0 a2_.toNat ≤ 2147483647 := hIx2_.2 96 0 _
  refine sm_T_b0 (a := 0) (z := 4) rfl (fun cx7_ => ?_) (fun cx7_ => ?_)
  · have cx7_ : (Sx1_.2.2.1 96 0 a2_.toNat) = 0 := of_decide_eq_true cx7_
    refine sm_T_go 4 (c1 := (21, [some (.inr (.inr (some (9, 0)))), some (.inr (.inr (some (2, cc_)))), some (.inl a2_), none, none, none, none, none, none], [.inl 1, .inl a2_, .inr (.inr (some (96, 0)))], Sx1_)) rfl ?_
    refine sm_T_iast (n := 1224) rfl rfl (by omega) (by omega) ?_
    have hIx8_ : gi (sm_aI Sx1_ 96 0 a2_.toNat 1) := gi_aI hIx2_ (show (-2147483648) ≤ 1 ∧ 1 ≤ 2147483647 from ⟨by omega, by omega⟩)
    have hFx9_ : ai_fr (sx_W vw_174) S0_ (sm_aI Sx1_ 96 0 a2_.toNat 1) := ai_fr_tr hFx5_ (ai_fr_aI rfl)
    refine sm_T_go 3 (c1 := (27, [some (.inr (.inr (some (9, 0)))), some (.inr (.inr (some (2, cc_)))), some (.inl a2_), none, none, none, none, none, none], [.inl 0, .inr (.inr (some (94, 0)))], sm_aI Sx1_ 96 0 a2_.toNat 1)) rfl ?_
    refine sm_T_cal (d1 := 0) (Q1 := vq_2t4 0 (sm_aI Sx1_ 96 0 a2_.toNat 1)) rfl rfl (by decide) (vc_2t4 0 (sm_aI Sx1_ 96 0 a2_.toNat 1) hIx8_ (by decide)) (fun u_ Sx10_ px13_ => ?_)
    obtain ⟨rfl, hIx11_, hFx12_, px13_⟩ := px13_
    have hFx14_ : ai_fr (sx_W vw_174) S0_ Sx10_ := ai_fr_tr hFx9_ (fr_le hFx12_ rfl)
    have tk27_ := (hFx12_.2.1 9 0 0 rfl).trans tk2
    have n27_ := shn_fr (show shn (sm_aI Sx1_ 96 0 a2_.toNat 1) from n2_) hFx12_
    have x1_ : Sx10_.1 2 cc_ 1 = S0_.1 2 cc_ 1 := hFx14_.1 2 cc_ 1 rfl
    have x2_ : Sx10_.1 2 cc_ 2 = S0_.1 2 cc_ 2 := hFx14_.1 2 cc_ 2 rfl
    have cw3_ : 0 ≤ Sx10_.1 9 0 2 ∧ Sx10_.1 9 0 2 ≤ 64 := hIx11_.1 9 0 2 rfl
    have cg3_ : 0 ≤ Sx10_.1 2 cc_ 8 ∧ Sx10_.1 2 cc_ 8 ≤ 150 := hIx11_.1 2 cc_ 8 rfl
    refine sm_T_go 2 (c1 := (32, [some (.inr (.inr (some (9, 0)))), some (.inr (.inr (some (2, cc_)))), some (.inl a2_), none, none, none, none, none, none], [.inl 1, .inl a2_], Sx10_)) rfl ?_
    refine sm_T_bin (w := (a2_ % 2)) rfl (bi_msk (k := 1) (by decide)) ?_ -- pc_ 32
    refine sm_T_b0 (a := 1) (z := 7) rfl (fun cx15_ => ?_) (fun cx15_ => ?_)
    · have cx15_ : (a2_ % 2) ≠ 0 := of_decide_eq_true cx15_
      refine sm_T_nt (u := some (.inr (.inl (-1)))) (S1 := Sx10_) rfl rfl rfl ?_
      refine sm_T_go 4 (c1 := (47, [some (.inr (.inr (some (9, 0)))), some (.inr (.inr (some (2, cc_)))), some (.inl a2_), some (.inr (.inl (-1))), none, none, none, none, none], [.inr (.inr (some (2, cc_))), .inl 2, .inl a2_], Sx10_)) rfl ?_
      refine sm_T_cal (d1 := 0) (Q1 := vq_55 cc_ Sx10_) rfl rfl (by decide) (vc_55 cc_ Sx10_ hIx11_ ) (fun u_ Sx16_ px19_ => ?_)
      obtain ⟨rfl, vx21_, rfl, px19_⟩ := px19_
      have m47_ := px19_
      refine sm_T_bin (w := 2 * vx21_) rfl (bi_mul (by omega) (by omega) (by omega)) ?_ -- pc_ 50
      refine sm_T_br (a := 3) (z := 57) rfl (fun cx22_ => ?_) (fun cx22_ => ?_)
      · have cx22_ : 2 * vx21_ ≤ a2_ := of_decide_eq_true cx22_
        refine sm_T_go 2 (c1 := (110, [some (.inr (.inr (some (9, 0)))), some (.inr (.inr (some (2, cc_)))), some (.inl a2_), some (.inr (.inl (-1))), none, none, none, none, none], [.inl 2, .inl a2_], Sx10_)) rfl ?_
        refine sm_T_bin (w := (a2_ / 2)) rfl (bi_div (by omega) (by omega) (by omega) (by omega)) ?_ -- pc_ 110
        refine sm_T_go 1 (c1 := (112, [some (.inr (.inr (some (9, 0)))), some (.inr (.inr (some (2, cc_)))), some (.inl a2_), some (.inr (.inl (-1))), none, none, none, none, none], [.inr (.inr (some (2, cc_))), .inl (a2_ / 2)], Sx10_)) rfl ?_
        refine sm_T_cal (d1 := 0) (Q1 := vq_55 cc_ Sx10_) rfl rfl (by decide) (vc_55 cc_ Sx10_ hIx11_ ) (fun u_ Sx23_ px26_ => ?_)
        obtain ⟨rfl, vx28_, rfl, px26_⟩ := px26_
        have m112_ := px26_
        refine sm_T_bin (w := (a2_ / 2) - vx28_) rfl (bi_sub (by omega) (by omega) (by omega)) ?_ -- pc_ 115
        refine sm_T_go 3 (c1 := (121, [some (.inr (.inr (some (9, 0)))), some (.inr (.inr (some (2, cc_)))), some (.inl a2_), some (.inr (.inl (-1))), none, none, some (.inl ((a2_ / 2) - vx28_)), some (.inl 0), none], [], Sx10_)) rfl ?_
        refine (vl_174 a2_ cc_ S0_ hs_ h2_ hn_ _).1 (-1) ((a2_ / 2) - vx28_) 0 Sx10_ hIx11_ hFx14_ ⟨?_, ?_, ?_, trivial⟩ (Nat.lt_succ_self _)
        · omega
        · exact tk27_
        · exact n27_
      · have cx22_ : ¬ (2 * vx21_ ≤ a2_) := of_decide_eq_false cx22_
        refine sm_T_go 2 (c1 := (56, [some (.inr (.inr (some (9, 0)))), some (.inr (.inr (some (2, cc_)))), some (.inl a2_), some (.inr (.inl (-1))), none, none, none, none, none], [.inl 1, .inl a2_], Sx10_)) rfl ?_
        refine sm_T_bin (w := (a2_ / 2)) rfl (bi_shr (k := 1) (by decide) (by omega) (by omega)) ?_ -- pc_ 56
        refine sm_T_go 5 (c1 := (66, [some (.inr (.inr (some (9, 0)))), some (.inr (.inr (some (2, cc_)))), some (.inl a2_), some (.inr (.inl (-1))), none, none, some (.inl (a2_ / 2)), none, none], [.inl 1, .inl (a2_ / 2), .inr (.inr (some (94, 0)))], Sx10_)) rfl ?_
        refine sm_T_iast (n := 162) rfl rfl (by omega) (by omega) ?_
        have hIx29_ : gi (sm_aI Sx10_ 94 0 (a2_ / 2).toNat 1) := gi_aI hIx11_ (show 0 ≤ 1 ∧ 1 ≤ 1 from ⟨by omega, by omega⟩)
        have hFx30_ : ai_fr (sx_W vw_174) S0_ (sm_aI Sx10_ 94 0 (a2_ / 2).toNat 1) := ai_fr_tr hFx14_ (ai_fr_aI rfl)
        refine sm_T_go 4 (c1 := (75, [some (.inr (.inr (some (9, 0)))), some (.inr (.inr (some (2, cc_)))), some (.inl a2_), some (.inr (.inl (-1))), none, none, some (.inl (a2_ / 2)), none, none], [.inl 64, .inl (a2_ / 2), .inr (.inr (some (93, 0)))], sm_aI Sx10_ 94 0 (a2_ / 2).toNat 1)) rfl ?_
        refine sm_T_bin (w := 64 * (a2_ / 2)) rfl (bi_mul (by omega) (by omega) (by omega)) ?_ -- pc_ 75
        refine sm_T_go 2 (c1 := (80, [some (.inr (.inr (some (9, 0)))), some (.inr (.inr (some (2, cc_)))), some (.inl a2_), some (.inr (.inl (-1))), none, none, some (.inl (a2_ / 2)), none, none], [.inl 64, .inl (a2_ / 2), .inl (64 * (a2_ / 2)), .inr (.inr (some (93, 0)))], sm_aI Sx10_ 94 0 (a2_ / 2).toNat 1)) rfl ?_
        refine sm_T_bin (w := 64 * (a2_ / 2)) rfl (bi_mul (by omega) (by omega) (by omega)) ?_ -- pc_ 80
        have bx31_ : 0 ≤ Sx10_.1 9 0 2 ∧ Sx10_.1 9 0 2 ≤ 64 := hIx11_.1 9 0 2 rfl
        refine sm_T_go 2 (c1 := (85, [some (.inr (.inr (some (9, 0)))), some (.inr (.inr (some (2, cc_)))), some (.inl a2_), some (.inr (.inl (-1))), none, none, some (.inl (a2_ / 2)), none, none], [.inl (Sx10_.1 9 0 2), .inl (64 * (a2_ / 2)), .inl (64 * (a2_ / 2)), .inr (.inr (some (93, 0)))], sm_aI Sx10_ 94 0 (a2_ / 2).toNat 1)) rfl ?_
        refine sm_T_bin (w := 64 * (a2_ / 2) + (Sx10_.1 9 0 2)) rfl (bi_add (by omega) (by omega) (by omega)) ?_ -- pc_ 85
        refine sm_T_go 1 (c1 := (87, [some (.inr (.inr (some (9, 0)))), some (.inr (.inr (some (2, cc_)))), some (.inl a2_), some (.inr (.inl (-1))), none, none, some (.inl (a2_ / 2)), none, none], [.inr (.inl (-1)), .inl (64 * (a2_ / 2) + (Sx10_.1 9 0 2)), .inl (64 * (a2_ / 2)), .inr (.inr (some (93, 0)))], sm_aI Sx10_ 94 0 (a2_ / 2).toNat 1)) rfl ?_
        refine sm_T_cal (d1 := 1) (Q1 := vq_5b3 (64 * (a2_ / 2)) (64 * (a2_ / 2) + (Sx10_.1 9 0 2)) (-1) (sm_aI Sx10_ 94 0 (a2_ / 2).toNat 1)) rfl rfl (by decide) (vc_5b3 (64 * (a2_ / 2)) (64 * (a2_ / 2) + (Sx10_.1 9 0 2)) (-1) (sm_aI Sx10_ 94 0 (a2_ / 2).toNat 1) hIx29_ (by omega)) (fun u_ Sx32_ px35_ => ?_)
        obtain ⟨rfl, hIx33_, hFx34_, px35_⟩ := px35_
        have hFx36_ : ai_fr (sx_W vw_174) S0_ Sx32_ := ai_fr_tr hFx30_ (fr_le hFx34_ rfl)
        have tk87_ := (hFx34_.2.1 9 0 0 rfl).trans tk27_
        have n87_ := shn_fr (show shn (sm_aI Sx10_ 94 0 (a2_ / 2).toNat 1) from n27_) hFx34_
        have v1_ : Sx32_.1 2 cc_ 1 = S0_.1 2 cc_ 1 := hFx36_.1 2 cc_ 1 rfl
        have v2_ : Sx32_.1 2 cc_ 2 = S0_.1 2 cc_ 2 := hFx36_.1 2 cc_ 2 rfl
        refine sm_T_go 3 (c1 := (94, [some (.inr (.inr (some (9, 0)))), some (.inr (.inr (some (2, cc_)))), some (.inl a2_), some (.inr (.inl (-1))), none, none, some (.inl (a2_ / 2)), none, none], [.inr (.inr (some (2, cc_))), .inl (a2_ / 2), .inl 0], Sx32_)) rfl ?_
        refine sm_T_cal (d1 := 0) (Q1 := vq_54 cc_ Sx32_) rfl rfl (by decide) (vc_54 cc_ Sx32_ hIx33_ ) (fun u_ Sx37_ px40_ => ?_)
        obtain ⟨rfl, vx42_, rfl, px40_⟩ := px40_
        have m94_ := px40_
        refine sm_T_bin (w := (a2_ / 2) - vx42_) rfl (bi_sub (by omega) (by omega) (by omega)) ?_ -- pc_ 97
        refine sm_T_go 1 (c1 := (99, [some (.inr (.inr (some (9, 0)))), some (.inr (.inr (some (2, cc_)))), some (.inl a2_), some (.inr (.inl (-1))), none, none, some (.inl (a2_ / 2)), none, none], [.inl 1, .inl ((a2_ / 2) - vx42_), .inl 0], Sx32_)) rfl ?_
        refine sm_T_bin (w := (a2_ / 2) - vx42_ + 1) rfl (bi_add (by omega) (by omega) (by omega)) ?_ -- pc_ 99
        refine sm_T_nt (u := some (.inl (sm_mx 0 ((a2_ / 2) - vx42_ + 1)))) (S1 := Sx32_) rfl rfl rfl ?_
        have bx43_ := sm_mx_d 0 ((a2_ / 2) - vx42_ + 1)
        refine sm_T_go 4 (c1 := (199, [some (.inr (.inr (some (9, 0)))), some (.inr (.inr (some (2, cc_)))), some (.inl a2_), some (.inr (.inl (-1))), none, some (.inl (sm_mx 0 ((a2_ / 2) - vx42_ + 1))), some (.inl (sm_mx 0 ((a2_ / 2) - vx42_ + 1))), none, none], [], Sx32_)) rfl ?_
        refine (vl_174 a2_ cc_ S0_ hs_ h2_ hn_ _).2.1 (-1) (sm_mx 0 ((a2_ / 2) - vx42_ + 1)) (sm_mx 0 ((a2_ / 2) - vx42_ + 1)) Sx32_ hIx33_ hFx36_ ⟨?_, ?_, ?_, trivial⟩ (Nat.lt_succ_self _)
        · omega
        · exact tk87_
        · exact n87_
    · have cx15_ : ¬ ((a2_ % 2) ≠ 0) := of_decide_eq_false cx15_
      refine sm_T_go 6 (c1 := (47, [some (.inr (.inr (some (9, 0)))), some (.inr (.inr (some (2, cc_)))), some (.inl a2_), some (.inr (.inl 0)), none, none, none, none, none], [.inr (.inr (some (2, cc_))), .inl 2, .inl a2_], Sx10_)) rfl ?_
      refine sm_T_cal (d1 := 0) (Q1 := vq_55 cc_ Sx10_) rfl rfl (by decide) (vc_55 cc_ Sx10_ hIx11_ ) (fun u_ Sx44_ px47_ => ?_)
      obtain ⟨rfl, vx49_, rfl, px47_⟩ := px47_
      have m47_ := px47_
      refine sm_T_bin (w := 2 * vx49_) rfl (bi_mul (by omega) (by omega) (by omega)) ?_ -- pc_ 50
      refine sm_T_br (a := 3) (z := 57) rfl (fun cx50_ => ?_) (fun cx50_ => ?_)
      · have cx50_ : 2 * vx49_ ≤ a2_ := of_decide_eq_true cx50_
        refine sm_T_go 2 (c1 := (110, [some (.inr (.inr (some (9, 0)))), some (.inr (.inr (some (2, cc_)))), some (.inl a2_), some (.inr (.inl 0)), none, none, none, none, none], [.inl 2, .inl a2_], Sx10_)) rfl ?_
        refine sm_T_bin (w := (a2_ / 2)) rfl (bi_div (by omega) (by omega) (by omega) (by omega)) ?_ -- pc_ 110
        refine sm_T_go 1 (c1 := (112, [some (.inr (.inr (some (9, 0)))), some (.inr (.inr (some (2, cc_)))), some (.inl a2_), some (.inr (.inl 0)), none, none, none, none, none], [.inr (.inr (some (2, cc_))), .inl (a2_ / 2)], Sx10_)) rfl ?_
        refine sm_T_cal (d1 := 0) (Q1 := vq_55 cc_ Sx10_) rfl rfl (by decide) (vc_55 cc_ Sx10_ hIx11_ ) (fun u_ Sx51_ px54_ => ?_)
        obtain ⟨rfl, vx56_, rfl, px54_⟩ := px54_
        have m112_ := px54_
        refine sm_T_bin (w := (a2_ / 2) - vx56_) rfl (bi_sub (by omega) (by omega) (by omega)) ?_ -- pc_ 115
        refine sm_T_go 3 (c1 := (121, [some (.inr (.inr (some (9, 0)))), some (.inr (.inr (some (2, cc_)))), some (.inl a2_), some (.inr (.inl 0)), none, none, some (.inl ((a2_ / 2) - vx56_)), some (.inl 0), none], [], Sx10_)) rfl ?_
        refine (vl_174 a2_ cc_ S0_ hs_ h2_ hn_ _).1 0 ((a2_ / 2) - vx56_) 0 Sx10_ hIx11_ hFx14_ ⟨?_, ?_, ?_, trivial⟩ (Nat.lt_succ_self _)
        · omega
        · exact tk27_
        · exact n27_
      · have cx50_ : ¬ (2 * vx49_ ≤ a2_) := of_decide_eq_false cx50_
        refine sm_T_go 2 (c1 := (56, [some (.inr (.inr (some (9, 0)))), some (.inr (.inr (some (2, cc_)))), some (.inl a2_), some (.inr (.inl 0)), none, none, none, none, none], [.inl 1, .inl a2_], Sx10_)) rfl ?_
        refine sm_T_bin (w := (a2_ / 2)) rfl (bi_shr (k := 1) (by decide) (by omega) (by omega)) ?_ -- pc_ 56
        refine sm_T_go 5 (c1 := (66, [some (.inr (.inr (some (9, 0)))), some (.inr (.inr (some (2, cc_)))), some (.inl a2_), some (.inr (.inl 0)), none, none, some (.inl (a2_ / 2)), none, none], [.inl 1, .inl (a2_ / 2), .inr (.inr (some (94, 0)))], Sx10_)) rfl ?_
        refine sm_T_iast (n := 162) rfl rfl (by omega) (by omega) ?_
        have hIx57_ : gi (sm_aI Sx10_ 94 0 (a2_ / 2).toNat 1) := gi_aI hIx11_ (show 0 ≤ 1 ∧ 1 ≤ 1 from ⟨by omega, by omega⟩)
        have hFx58_ : ai_fr (sx_W vw_174) S0_ (sm_aI Sx10_ 94 0 (a2_ / 2).toNat 1) := ai_fr_tr hFx14_ (ai_fr_aI rfl)
        refine sm_T_go 4 (c1 := (75, [some (.inr (.inr (some (9, 0)))), some (.inr (.inr (some (2, cc_)))), some (.inl a2_), some (.inr (.inl 0)), none, none, some (.inl (a2_ / 2)), none, none], [.inl 64, .inl (a2_ / 2), .inr (.inr (some (93, 0)))], sm_aI Sx10_ 94 0 (a2_ / 2).toNat 1)) rfl ?_
        refine sm_T_bin (w := 64 * (a2_ / 2)) rfl (bi_mul (by omega) (by omega) (by omega)) ?_ -- pc_ 75
        refine sm_T_go 2 (c1 := (80, [some (.inr (.inr (some (9, 0)))), some (.inr (.inr (some (2, cc_)))), some (.inl a2_), some (.inr (.inl 0)), none, none, some (.inl (a2_ / 2)), none, none], [.inl 64, .inl (a2_ / 2), .inl (64 * (a2_ / 2)), .inr (.inr (some (93, 0)))], sm_aI Sx10_ 94 0 (a2_ / 2).toNat 1)) rfl ?_
        refine sm_T_bin (w := 64 * (a2_ / 2)) rfl (bi_mul (by omega) (by omega) (by omega)) ?_ -- pc_ 80
        have bx59_ : 0 ≤ Sx10_.1 9 0 2 ∧ Sx10_.1 9 0 2 ≤ 64 := hIx11_.1 9 0 2 rfl
        refine sm_T_go 2 (c1 := (85, [some (.inr (.inr (some (9, 0)))), some (.inr (.inr (some (2, cc_)))), some (.inl a2_), some (.inr (.inl 0)), none, none, some (.inl (a2_ / 2)), none, none], [.inl (Sx10_.1 9 0 2), .inl (64 * (a2_ / 2)), .inl (64 * (a2_ / 2)), .inr (.inr (some (93, 0)))], sm_aI Sx10_ 94 0 (a2_ / 2).toNat 1)) rfl ?_
        refine sm_T_bin (w := 64 * (a2_ / 2) + (Sx10_.1 9 0 2)) rfl (bi_add (by omega) (by omega) (by omega)) ?_ -- pc_ 85
        refine sm_T_go 1 (c1 := (87, [some (.inr (.inr (some (9, 0)))), some (.inr (.inr (some (2, cc_)))), some (.inl a2_), some (.inr (.inl 0)), none, none, some (.inl (a2_ / 2)), none, none], [.inr (.inl 0), .inl (64 * (a2_ / 2) + (Sx10_.1 9 0 2)), .inl (64 * (a2_ / 2)), .inr (.inr (some (93, 0)))], sm_aI Sx10_ 94 0 (a2_ / 2).toNat 1)) rfl ?_
        refine sm_T_cal (d1 := 1) (Q1 := vq_5b3 (64 * (a2_ / 2)) (64 * (a2_ / 2) + (Sx10_.1 9 0 2)) 0 (sm_aI Sx10_ 94 0 (a2_ / 2).toNat 1)) rfl rfl (by decide) (vc_5b3 (64 * (a2_ / 2)) (64 * (a2_ / 2) + (Sx10_.1 9 0 2)) 0 (sm_aI Sx10_ 94 0 (a2_ / 2).toNat 1) hIx57_ (by omega)) (fun u_ Sx60_ px63_ => ?_)
        obtain ⟨rfl, hIx61_, hFx62_, px63_⟩ := px63_
        have hFx64_ : ai_fr (sx_W vw_174) S0_ Sx60_ := ai_fr_tr hFx58_ (fr_le hFx62_ rfl)
        have tk87_ := (hFx62_.2.1 9 0 0 rfl).trans tk27_
        have n87_ := shn_fr (show shn (sm_aI Sx10_ 94 0 (a2_ / 2).toNat 1) from n27_) hFx62_
        have v1_ : Sx60_.1 2 cc_ 1 = S0_.1 2 cc_ 1 := hFx64_.1 2 cc_ 1 rfl
        have v2_ : Sx60_.1 2 cc_ 2 = S0_.1 2 cc_ 2 := hFx64_.1 2 cc_ 2 rfl
        refine sm_T_go 3 (c1 := (94, [some (.inr (.inr (some (9, 0)))), some (.inr (.inr (some (2, cc_)))), some (.inl a2_), some (.inr (.inl 0)), none, none, some (.inl (a2_ / 2)), none, none], [.inr (.inr (some (2, cc_))), .inl (a2_ / 2), .inl 0], Sx60_)) rfl ?_
        refine sm_T_cal (d1 := 0) (Q1 := vq_54 cc_ Sx60_) rfl rfl (by decide) (vc_54 cc_ Sx60_ hIx61_ ) (fun u_ Sx65_ px68_ => ?_)
        obtain ⟨rfl, vx70_, rfl, px68_⟩ := px68_
        have m94_ := px68_
        refine sm_T_bin (w := (a2_ / 2) - vx70_) rfl (bi_sub (by omega) (by omega) (by omega)) ?_ -- pc_ 97
        refine sm_T_go 1 (c1 := (99, [some (.inr (.inr (some (9, 0)))), some (.inr (.inr (some (2, cc_)))), some (.inl a2_), some (.inr (.inl 0)), none, none, some (.inl (a2_ / 2)), none, none], [.inl 1, .inl ((a2_ / 2) - vx70_), .inl 0], Sx60_)) rfl ?_
        refine sm_T_bin (w := (a2_ / 2) - vx70_ + 1) rfl (bi_add (by omega) (by omega) (by omega)) ?_ -- pc_ 99
        refine sm_T_nt (u := some (.inl (sm_mx 0 ((a2_ / 2) - vx70_ + 1)))) (S1 := Sx60_) rfl rfl rfl ?_
        have bx71_ := sm_mx_d 0 ((a2_ / 2) - vx70_ + 1)
        refine sm_T_go 4 (c1 := (199, [some (.inr (.inr (some (9, 0)))), some (.inr (.inr (some (2, cc_)))), some (.inl a2_), some (.inr (.inl 0)), none, some (.inl (sm_mx 0 ((a2_ / 2) - vx70_ + 1))), some (.inl (sm_mx 0 ((a2_ / 2) - vx70_ + 1))), none, none], [], Sx60_)) rfl ?_
        refine (vl_174 a2_ cc_ S0_ hs_ h2_ hn_ _).2.1 0 (sm_mx 0 ((a2_ / 2) - vx70_ + 1)) (sm_mx 0 ((a2_ / 2) - vx70_ + 1)) Sx60_ hIx61_ hFx64_ ⟨?_, ?_, ?_, trivial⟩ (Nat.lt_succ_self _)
        · omega
        · exact tk87_
        · exact n87_
  · have cx7_ : ¬ ((Sx1_.2.2.1 96 0 a2_.toNat) = 0) := of_decide_eq_false cx7_
    refine sm_T_rv rfl ⟨_, _, rfl, rfl, hIx2_, hFx5_, ?_⟩
    exact ⟨tk2, n2_⟩
end
/-! 99.zl8a -/
section
/-! tests: patterns; written by wip/p55/gen/vg -/
/-! Tester.isShown -/
def vw_176 : sx_Wl := ([], [], [])
def vq_176 (a1_ : Int) (a2_ : Int) (S0_ : sm_S) (u_ : Option sm_V) (S1_ : sm_S) : Prop := S0_ = S1_ ∧ ∃ v_ : Int, u_ = some (.inl v_) ∧ (0 ≤ v_ ∧ v_ ≤ 1)
set_option maxHeartbeats 400000 in
theorem vc_176 {sc_ : Nat × (Nat → Int)} (a1_ : Int) (a2_ : Int) (S0_ : sm_S) (hI_ : gi S0_) (h1_ : 0 ≤ a1_ ∧ a1_ ≤ 4095) (h2_ : 0 ≤ a2_ ∧ a2_ ≤ 1223) : sm_T (mt_P sc_) 0 176 (0, [some (.inr (.inr (some (9, 0)))), some (.inl a1_), some (.inl a2_)], [], S0_) (fun ro9_ => ∃ u_ S1_, ro9_ = (.inl u_, S1_, 0) ∧ vq_176 a1_ a2_ S0_ u_ S1_) := by
  have hF_ : ai_fr (sx_W vw_176) S0_ S0_ := ai_fr_rf
  refine sm_T_go 4 (c1 := (7, [some (.inr (.inr (some (9, 0)))), some (.inl a1_), some (.inl a2_)], [.inl 64, .inl a2_, .inr (.inr (some (95, 0)))], S0_)) rfl ?_
  refine sm_T_bin (w := 64 * a2_) rfl (bi_mul (by omega) (by omega) (by omega)) ?_ -- pc_ 7
  refine sm_T_go 2 (c1 := (11, [some (.inr (.inr (some (9, 0)))), some (.inl a1_), some (.inl a2_)], [.inl 6, .inl a1_, .inl (64 * a2_), .inr (.inr (some (95, 0)))], S0_)) rfl ?_
  refine sm_T_bin (w := (a1_ / 64)) rfl (bi_shr (k := 6) (by decide) (by omega) (by omega)) ?_ -- pc_ 11
  refine sm_T_bin (w := 64 * a2_ + (a1_ / 64)) rfl (bi_add (by omega) (by omega) (by omega)) ?_ -- pc_ 12
  refine sm_T_lald (n := 78336) rfl rfl (by omega) (by omega) ?_
  refine sm_T_go 2 (c1 := (17, [some (.inr (.inr (some (9, 0)))), some (.inl a1_), some (.inl a2_)], [.inl 63, .inl a1_, .inr (.inl (S0_.2.2.2 95 0 (64 * a2_ + (a1_ / 64)).toNat))], S0_)) rfl ?_
  refine sm_T_bin (w := (a1_ % 64)) rfl (bi_msk (k := 6) (by decide)) ?_ -- pc_ 17
  refine sm_T_go 5 (c1 := (23, [some (.inr (.inr (some (9, 0)))), some (.inl a1_), some (.inl a2_)], [.inl (sm_lcmp ((l_3 ((l_s1 ((S0_.2.2.2 95 0 (64 * a2_ + (a1_ / 64)).toNat)) (a1_ % 64))) 1)) 0)], S0_)) rfl ?_
  refine sm_T_b0 (a := 0) (z := 7) rfl (fun cx1_ => ?_) (fun cx1_ => ?_)
  · have cx1_ : (sm_lcmp ((l_3 ((l_s1 ((S0_.2.2.2 95 0 (64 * a2_ + (a1_ / 64)).toNat)) (a1_ % 64))) 1)) 0) = 0 := of_decide_eq_true cx1_
    refine sm_T_go 1 (c1 := (31, [some (.inr (.inr (some (9, 0)))), some (.inl a1_), some (.inl a2_)], [.inl 0], S0_)) rfl ?_
    refine sm_T_rz rfl (by omega) ⟨_, _, rfl, rfl, _, rfl, ?_⟩
    omega
  · have cx1_ : ¬ ((sm_lcmp ((l_3 ((l_s1 ((S0_.2.2.2 95 0 (64 * a2_ + (a1_ / 64)).toNat)) (a1_ % 64))) 1)) 0) = 0) := of_decide_eq_false cx1_
    refine sm_T_go 2 (c1 := (31, [some (.inr (.inr (some (9, 0)))), some (.inl a1_), some (.inl a2_)], [.inl 1], S0_)) rfl ?_
    refine sm_T_rz rfl (by omega) ⟨_, _, rfl, rfl, _, rfl, ?_⟩
    omega
end
/-! 99.zl8b -/
section
/-! Tester.leastPattern -/
def vw_177 : sx_Wl := ([(9, 1), (9, 2), (9, 3)], [92, 93, 94, 95, 96], [(9, 0)])
def vq_177 (a2_ : Int) (cc_ : Nat) (S0_ : sm_S) (u_ : Option sm_V) (S1_ : sm_S) : Prop := ∃ v_ : Int, u_ = some (.inl v_) ∧ gi S1_ ∧ ai_fr (sx_W vw_177) S0_ S1_ ∧ ((-1 ≤ v_ ∧ v_ ≤ 4095) ∧ shn S1_)
set_option maxHeartbeats 400000 in
theorem vl_177 {sc_ : Nat × (Nat → Int)} (a2_ : Int) (cc_ : Nat) (S0_ : sm_S) (hs_ : S0_.1 2 cc_ 1 + S0_.1 2 cc_ 2 ≤ 12) (h2_ : 0 ≤ a2_ ∧ a2_ ≤ 1223) (hn_ : shn S0_) : ∀ nn_ : Nat, (∀ (w_ : Int) (S_ : sm_S), gi S_ → ai_fr (sx_W vw_177) S0_ S_ → ((0 ≤ w_ ∧ w_ ≤ 64) ∧ (shn S_) ∧ True) → ((100 - w_).toNat) < nn_ → sm_T (mt_P sc_) 5 177 (8, [some (.inr (.inr (some (9, 0)))), some (.inr (.inr (some (2, cc_)))), some (.inl a2_), some (.inl w_), none, none], [], S_) (fun ro9_ => ∃ u_ S1_, ro9_ = (.inl u_, S1_, 0) ∧ vq_177 a2_ cc_ S0_ u_ S1_)) := by
  intro nn_
  induction nn_ with
  | zero => exact fun _ _ _ _ _ h_ => absurd h_ (Nat.not_lt_zero _)
  | succ nn_ ih_ =>
    rintro w_ S_ hI_ hF_ ⟨h0_, hn1_, -⟩ hm_
    have cw : 0 ≤ S_.1 9 0 2 ∧ S_.1 9 0 2 ≤ 64 := hI_.1 9 0 2 rfl
    have bx1_ : 0 ≤ S_.1 9 0 2 ∧ S_.1 9 0 2 ≤ 64 := hI_.1 9 0 2 rfl
    refine sm_T_go 3 (c1 := (13, [some (.inr (.inr (some (9, 0)))), some (.inr (.inr (some (2, cc_)))), some (.inl a2_), some (.inl w_), none, none], [.inl (S_.1 9 0 2), .inl w_], S_)) rfl ?_
    refine sm_T_br (a := 3) (z := 40) rfl (fun cx2_ => ?_) (fun cx2_ => ?_)
    · have cx2_ : (S_.1 9 0 2) ≤ w_ := of_decide_eq_true cx2_
      refine sm_T_go 1 (c1 := (54, [some (.inr (.inr (some (9, 0)))), some (.inr (.inr (some (2, cc_)))), some (.inl a2_), some (.inl w_), none, none], [.inl (-1)], S_)) rfl ?_
      refine sm_T_ri rfl ⟨_, _, rfl, _, rfl, hI_, hF_, ?_⟩
      exact ⟨by omega, hn1_⟩
    · have cx2_ : ¬ ((S_.1 9 0 2) ≤ w_) := of_decide_eq_false cx2_
      refine sm_T_go 4 (c1 := (23, [some (.inr (.inr (some (9, 0)))), some (.inr (.inr (some (2, cc_)))), some (.inl a2_), some (.inl w_), none, none], [.inl 64, .inl a2_, .inr (.inr (some (95, 0)))], S_)) rfl ?_
      refine sm_T_bin (w := 64 * a2_) rfl (bi_mul (by omega) (by omega) (by omega)) ?_ -- pc_ 23
      refine sm_T_go 1 (c1 := (25, [some (.inr (.inr (some (9, 0)))), some (.inr (.inr (some (2, cc_)))), some (.inl a2_), some (.inl w_), none, none], [.inl w_, .inl (64 * a2_), .inr (.inr (some (95, 0)))], S_)) rfl ?_
      refine sm_T_bin (w := 64 * a2_ + w_) rfl (bi_add (by omega) (by omega) (by omega)) ?_ -- pc_ 25
      refine sm_T_lald (n := 78336) rfl rfl (by omega) (by omega) ?_
      refine sm_T_go 4 (c1 := (33, [some (.inr (.inr (some (9, 0)))), some (.inr (.inr (some (2, cc_)))), some (.inl a2_), some (.inl w_), some (.inr (.inl (S_.2.2.2 95 0 (64 * a2_ + w_).toNat))), none], [.inl (sm_lcmp ((S_.2.2.2 95 0 (64 * a2_ + w_).toNat)) 0)], S_)) rfl ?_
      refine sm_T_b0 (a := 0) (z := 14) rfl (fun cx3_ => ?_) (fun cx3_ => ?_)
      · have cx3_ : (sm_lcmp ((S_.2.2.2 95 0 (64 * a2_ + w_).toNat)) 0) = 0 := of_decide_eq_true cx3_
        refine sm_T_inc (a := 3) (z := 1) (v := w_) (w := w_ + 1) rfl rfl (by omega) (by omega) (by omega) ?_ -- pc_ 47
        refine sm_T_go 1 (c1 := (8, [some (.inr (.inr (some (9, 0)))), some (.inr (.inr (some (2, cc_)))), some (.inl a2_), some (.inl (w_ + 1)), some (.inr (.inl (S_.2.2.2 95 0 (64 * a2_ + w_).toNat))), none], [], S_)) rfl ?_
        refine sm_T_wk [some (.inr (.inr (some (9, 0)))), some (.inr (.inr (some (2, cc_)))), some (.inl a2_), some (.inl (w_ + 1)), none, none] (by exact ⟨rfl, rfl, rfl, rfl, trivial⟩) ?_
        refine ih_ (w_ + 1) S_ hI_ hF_ ⟨?_, ?_, trivial⟩ ?_
        · omega
        · exact hn1_
        · omega
      · have cx3_ : ¬ ((sm_lcmp ((S_.2.2.2 95 0 (64 * a2_ + w_).toNat)) 0) = 0) := of_decide_eq_false cx3_
        have lq9_ : S_.2.2.2 95 0 (64 * a2_ + w_).toNat ≠ 0 := by (intro q9_; apply cx3_; rw [q9_]; decide)
        refine sm_T_go 2 (c1 := (39, [some (.inr (.inr (some (9, 0)))), some (.inr (.inr (some (2, cc_)))), some (.inl a2_), some (.inl w_), some (.inr (.inl (S_.2.2.2 95 0 (64 * a2_ + w_).toNat))), none], [.inl w_, .inl 64], S_)) rfl ?_
        refine sm_T_bin (w := 64 * w_) rfl (bi_mul (by omega) (by omega) (by omega)) ?_ -- pc_ 39
        refine sm_T_go 1 (c1 := (42, [some (.inr (.inr (some (9, 0)))), some (.inr (.inr (some (2, cc_)))), some (.inl a2_), some (.inl w_), some (.inr (.inl (S_.2.2.2 95 0 (64 * a2_ + w_).toNat))), none], [.inr (.inl (S_.2.2.2 95 0 (64 * a2_ + w_).toNat)), .inl (64 * w_)], S_)) rfl ?_
        refine sm_T_cal (d1 := 1) (Q1 := vq_9 ((S_.2.2.2 95 0 (64 * a2_ + w_).toNat)) S_) rfl rfl (by decide) (vc_9 ((S_.2.2.2 95 0 (64 * a2_ + w_).toNat)) S_ hI_ (by exact hn1_ _)) (fun u_ Sx4_ px7_ => ?_)
        obtain ⟨rfl, vx9_, rfl, px7_⟩ := px7_
        have t9_ := px7_
        refine sm_T_bin (w := 64 * w_ + vx9_) rfl (bi_add (by omega) (by omega) (by omega)) ?_ -- pc_ 45
        refine sm_T_ri rfl ⟨_, _, rfl, _, rfl, hI_, hF_, ?_⟩
        have t8_ := t9_.2 lq9_
        exact ⟨by omega, hn1_⟩
set_option maxHeartbeats 400000 in
theorem vc_177 {sc_ : Nat × (Nat → Int)} (a2_ : Int) (cc_ : Nat) (S0_ : sm_S) (hI_ : gi S0_) (hs_ : S0_.1 2 cc_ 1 + S0_.1 2 cc_ 2 ≤ 12) (h2_ : 0 ≤ a2_ ∧ a2_ ≤ 1223) (hn_ : shn S0_) : sm_T (mt_P sc_) 5 177 (0, [some (.inr (.inr (some (9, 0)))), some (.inr (.inr (some (2, cc_)))), some (.inl a2_), none, none, none], [], S0_) (fun ro9_ => ∃ u_ S1_, ro9_ = (.inl u_, S1_, 0) ∧ vq_177 a2_ cc_ S0_ u_ S1_) := by
  have hF_ : ai_fr (sx_W vw_177) S0_ S0_ := ai_fr_rf
  refine sm_T_go 3 (c1 := (3, [some (.inr (.inr (some (9, 0)))), some (.inr (.inr (some (2, cc_)))), some (.inl a2_), none, none, none], [.inl a2_, .inr (.inr (some (2, cc_))), .inr (.inr (some (9, 0)))], S0_)) rfl ?_
  refine sm_T_cal (d1 := 4) (Q1 := vq_174 a2_ cc_ S0_) rfl rfl (by decide) (vc_174 a2_ cc_ S0_ hI_ (by omega) (by omega) (by omega)) (fun u_ Sx1_ px4_ => ?_)
  obtain ⟨rfl, hIx2_, hFx3_, px4_⟩ := px4_
  have hFx5_ : ai_fr (sx_W vw_177) S0_ Sx1_ := ai_fr_tr hF_ (fr_le hFx3_ rfl)
  have f3_ := px4_
  refine sm_T_go 2 (c1 := (8, [some (.inr (.inr (some (9, 0)))), some (.inr (.inr (some (2, cc_)))), some (.inl a2_), some (.inl 0), none, none], [], Sx1_)) rfl ?_
  refine (vl_177 a2_ cc_ S0_ hs_ h2_ hn_ _) 0 Sx1_ hIx2_ hFx5_ ⟨?_, ?_, trivial⟩ (Nat.lt_succ_self _)
  · omega
  · exact f3_.2
end
/-! 99.zl8c -/
section
/-! Tester.countHidden -/
def vw_178 : sx_Wl := ([(9, 1), (9, 2), (9, 3)], [92, 93, 94, 95, 96], [(9, 0)])
def vq_178 (cc_ : Nat) (S0_ : sm_S) (u_ : Option sm_V) (S1_ : sm_S) : Prop := ∃ v_ : Int, u_ = some (.inl v_) ∧ gi S1_ ∧ ai_fr (sx_W vw_178) S0_ S1_ ∧ (shn S1_)
set_option maxHeartbeats 400000 in
theorem vl_178 {sc_ : Nat × (Nat → Int)} (cc_ : Nat) (S0_ : sm_S) (hs_ : S0_.1 2 cc_ 1 + S0_.1 2 cc_ 2 ≤ 12) (hn_ : shn S0_) : ∀ nn_ : Nat, (∀ (hd_ : Int) (f_ : Int) (S_ : sm_S), gi S_ → ai_fr (sx_W vw_178) S0_ S_ → ((0 ≤ f_ ∧ f_ ≤ 1224 ∧ 0 ≤ hd_ ∧ hd_ ≤ f_) ∧ (shn S_) ∧ True) → ((2000 - f_).toNat) < nn_ → sm_T (mt_P sc_) 6 178 (4, [some (.inr (.inr (some (9, 0)))), some (.inr (.inr (some (2, cc_)))), some (.inl hd_), some (.inl f_)], [], S_) (fun ro9_ => ∃ u_ S1_, ro9_ = (.inl u_, S1_, 0) ∧ vq_178 cc_ S0_ u_ S1_)) := by
  intro nn_
  induction nn_ with
  | zero => exact fun _ _ _ _ _ _ h_ => absurd h_ (Nat.not_lt_zero _)
  | succ nn_ ih_ =>
    rintro hd_ f_ S_ hI_ hF_ ⟨h0_, hn1_, -⟩ hm_
    have z1_ : S_.1 2 cc_ 1 = S0_.1 2 cc_ 1 := hF_.1 2 cc_ 1 rfl
    have z2_ : S_.1 2 cc_ 2 = S0_.1 2 cc_ 2 := hF_.1 2 cc_ 2 rfl
    refine sm_T_go 2 (c1 := (6, [some (.inr (.inr (some (9, 0)))), some (.inr (.inr (some (2, cc_)))), some (.inl hd_), some (.inl f_)], [.inr (.inr (some (2, cc_))), .inl f_], S_)) rfl ?_
    refine sm_T_cal (d1 := 1) (Q1 := vq_62 cc_ S_) rfl rfl (by decide) (vc_62 cc_ S_ hI_ (by omega)) (fun u_ Sx1_ px4_ => ?_)
    obtain ⟨rfl, vx6_, rfl, px4_⟩ := px4_
    have fc6_ := px4_
    refine sm_T_br (a := 3) (z := 27) rfl (fun cx7_ => ?_) (fun cx7_ => ?_)
    · have cx7_ : vx6_ ≤ f_ := of_decide_eq_true cx7_
      refine sm_T_go 1 (c1 := (37, [some (.inr (.inr (some (9, 0)))), some (.inr (.inr (some (2, cc_)))), some (.inl hd_), some (.inl f_)], [.inl hd_], S_)) rfl ?_
      refine sm_T_ri rfl ⟨_, _, rfl, _, rfl, hI_, hF_, ?_⟩
      exact hn1_
    · have cx7_ : ¬ (vx6_ ≤ f_) := of_decide_eq_false cx7_
      refine sm_T_go 4 (c1 := (16, [some (.inr (.inr (some (9, 0)))), some (.inr (.inr (some (2, cc_)))), some (.inl hd_), some (.inl f_)], [.inl f_, .inr (.inr (some (2, cc_))), .inr (.inr (some (9, 0))), .inl hd_], S_)) rfl ?_
      refine sm_T_cal (d1 := 5) (Q1 := vq_177 f_ cc_ S_) rfl rfl (by decide) (vc_177 f_ cc_ S_ hI_ (by omega) (by omega) (by first | exact hn1_ | exact hn_)) (fun u_ Sx8_ px11_ => ?_)
      obtain ⟨vx13_, rfl, hIx9_, hFx10_, px11_⟩ := px11_
      have hFx12_ : ai_fr (sx_W vw_178) S0_ Sx8_ := ai_fr_tr hF_ (fr_le hFx10_ rfl)
      have p16_ := px11_
      refine sm_T_go 1 (c1 := (20, [some (.inr (.inr (some (9, 0)))), some (.inr (.inr (some (2, cc_)))), some (.inl hd_), some (.inl f_)], [.inl (-1), .inl vx13_, .inl hd_], Sx8_)) rfl ?_
      refine sm_T_br (a := 1) (z := 7) rfl (fun cx14_ => ?_) (fun cx14_ => ?_)
      · have cx14_ : vx13_ ≠ (-1) := of_decide_eq_true cx14_
        refine sm_T_go 1 (c1 := (28, [some (.inr (.inr (some (9, 0)))), some (.inr (.inr (some (2, cc_)))), some (.inl hd_), some (.inl f_)], [.inl 0, .inl hd_], Sx8_)) rfl ?_
        refine sm_T_bin (w := hd_) rfl (bi_add (by omega) (by omega) (by omega)) ?_ -- pc_ 28
        refine sm_T_go 1 (c1 := (30, [some (.inr (.inr (some (9, 0)))), some (.inr (.inr (some (2, cc_)))), some (.inl hd_), some (.inl f_)], [], Sx8_)) rfl ?_
        refine sm_T_inc (a := 3) (z := 1) (v := f_) (w := f_ + 1) rfl rfl (by omega) (by omega) (by omega) ?_ -- pc_ 30
        refine sm_T_go 1 (c1 := (4, [some (.inr (.inr (some (9, 0)))), some (.inr (.inr (some (2, cc_)))), some (.inl hd_), some (.inl (f_ + 1))], [], Sx8_)) rfl ?_
        refine ih_ hd_ (f_ + 1) Sx8_ hIx9_ hFx12_ ⟨?_, ?_, trivial⟩ ?_
        · omega
        · exact p16_.2
        · omega
      · have cx14_ : ¬ (vx13_ ≠ (-1)) := of_decide_eq_false cx14_
        refine sm_T_go 2 (c1 := (28, [some (.inr (.inr (some (9, 0)))), some (.inr (.inr (some (2, cc_)))), some (.inl hd_), some (.inl f_)], [.inl 1, .inl hd_], Sx8_)) rfl ?_
        refine sm_T_bin (w := hd_ + 1) rfl (bi_add (by omega) (by omega) (by omega)) ?_ -- pc_ 28
        refine sm_T_go 1 (c1 := (30, [some (.inr (.inr (some (9, 0)))), some (.inr (.inr (some (2, cc_)))), some (.inl (hd_ + 1)), some (.inl f_)], [], Sx8_)) rfl ?_
        refine sm_T_inc (a := 3) (z := 1) (v := f_) (w := f_ + 1) rfl rfl (by omega) (by omega) (by omega) ?_ -- pc_ 30
        refine sm_T_go 1 (c1 := (4, [some (.inr (.inr (some (9, 0)))), some (.inr (.inr (some (2, cc_)))), some (.inl (hd_ + 1)), some (.inl (f_ + 1))], [], Sx8_)) rfl ?_
        refine ih_ (hd_ + 1) (f_ + 1) Sx8_ hIx9_ hFx12_ ⟨?_, ?_, trivial⟩ ?_
        · omega
        · exact p16_.2
        · omega
set_option maxHeartbeats 400000 in
theorem vc_178 {sc_ : Nat × (Nat → Int)} (cc_ : Nat) (S0_ : sm_S) (hI_ : gi S0_) (hs_ : S0_.1 2 cc_ 1 + S0_.1 2 cc_ 2 ≤ 12) (hn_ : shn S0_) : sm_T (mt_P sc_) 6 178 (0, [some (.inr (.inr (some (9, 0)))), some (.inr (.inr (some (2, cc_)))), none, none], [], S0_) (fun ro9_ => ∃ u_ S1_, ro9_ = (.inl u_, S1_, 0) ∧ vq_178 cc_ S0_ u_ S1_) := by
  have hF_ : ai_fr (sx_W vw_178) S0_ S0_ := ai_fr_rf
  refine sm_T_go 4 (c1 := (4, [some (.inr (.inr (some (9, 0)))), some (.inr (.inr (some (2, cc_)))), some (.inl 0), some (.inl 0)], [], S0_)) rfl ?_
  refine (vl_178 cc_ S0_ hs_ hn_ _) 0 0 S0_ hI_ hF_ ⟨?_, ?_, trivial⟩ (Nat.lt_succ_self _)
  · omega
  · exact hn_
end
/-! 99.zl8d -/
section
/-! Tester.showing -/
def vw_180 : sx_Wl := ([], [], [])
def vq_180 (a2_ : Int) (cc_ : Nat) (S0_ : sm_S) (u_ : Option sm_V) (S1_ : sm_S) : Prop := S0_ = S1_ ∧ ∃ v_ : Int, u_ = some (.inl v_) ∧ (0 ≤ v_ ∧ v_ ≤ 1224)
set_option maxHeartbeats 400000 in
theorem vl_180 {sc_ : Nat × (Nat → Int)} (a2_ : Int) (cc_ : Nat) (S0_ : sm_S) (h2_ : 0 ≤ a2_ ∧ a2_ ≤ 1223) : ∀ nn_ : Nat, (∀ (ct : Int) (k_ : Int) (S_ : sm_S), gi S_ → ai_fr (sx_W vw_180) S0_ S_ → ((0 ≤ k_ ∧ k_ ≤ 1224 ∧ 0 ≤ ct ∧ ct ≤ k_) ∧ (S_ = S0_) ∧ True) → ((2000 - k_).toNat) < nn_ → sm_T (mt_P sc_) 1 180 (5, [some (.inr (.inr (some (9, 0)))), some (.inr (.inr (some (2, cc_)))), some (.inl a2_), some (.inl ct), some (.inl k_)], [], S_) (fun ro9_ => ∃ u_ S1_, ro9_ = (.inl u_, S1_, 0) ∧ vq_180 a2_ cc_ S0_ u_ S1_)) := by
  intro nn_
  induction nn_ with
  | zero => exact fun _ _ _ _ _ _ h_ => absurd h_ (Nat.not_lt_zero _)
  | succ nn_ ih_ =>
    rintro ct k_ S_ hI_ hF_ ⟨h0_, hS_, -⟩ hm_
    have cz_ : (-1) ≤ S_.1 2 cc_ 15 ∧ S_.1 2 cc_ 15 ≤ 1224 := hI_.1 2 cc_ 15 rfl
    have bx1_ : (-1) ≤ S_.1 2 cc_ 15 ∧ S_.1 2 cc_ 15 ≤ 1224 := hI_.1 2 cc_ 15 rfl
    refine sm_T_go 3 (c1 := (11, [some (.inr (.inr (some (9, 0)))), some (.inr (.inr (some (2, cc_)))), some (.inl a2_), some (.inl ct), some (.inl k_)], [.inl (S_.1 2 cc_ 15), .inl k_], S_)) rfl ?_
    refine sm_T_br (a := 3) (z := 32) rfl (fun cx2_ => ?_) (fun cx2_ => ?_)
    · have cx2_ : (S_.1 2 cc_ 15) ≤ k_ := of_decide_eq_true cx2_
      refine sm_T_go 1 (c1 := (44, [some (.inr (.inr (some (9, 0)))), some (.inr (.inr (some (2, cc_)))), some (.inl a2_), some (.inl ct), some (.inl k_)], [.inl ct], S_)) rfl ?_
      refine sm_T_ri rfl ⟨_, _, rfl, (by first | rfl | exact hS_.symm), _, rfl, ?_⟩
      omega
    · have cx2_ : ¬ ((S_.1 2 cc_ 15) ≤ k_) := of_decide_eq_false cx2_
      refine sm_T_go 5 (c1 := (22, [some (.inr (.inr (some (9, 0)))), some (.inr (.inr (some (2, cc_)))), some (.inl a2_), some (.inl ct), some (.inl k_)], [.inl k_, .inr (.inr (some (40, (0 + cc_)))), .inr (.inr (some (9, 0))), .inl ct], S_)) rfl ?_
      refine sm_T_iald (n := 1224) rfl rfl (by omega) (by omega) ?_
      have bx3_ : 0 ≤ S_.2.2.1 40 (0 + cc_) k_.toNat ∧ S_.2.2.1 40 (0 + cc_) k_.toNat ≤ 4095 := hI_.2 40 (0 + cc_) _
      refine sm_T_go 1 (c1 := (24, [some (.inr (.inr (some (9, 0)))), some (.inr (.inr (some (2, cc_)))), some (.inl a2_), some (.inl ct), some (.inl k_)], [.inl a2_, .inl (S_.2.2.1 40 (0 + cc_) k_.toNat), .inr (.inr (some (9, 0))), .inl ct], S_)) rfl ?_
      refine sm_T_cal (d1 := 0) (Q1 := vq_176 (S_.2.2.1 40 (0 + cc_) k_.toNat) a2_ S_) rfl rfl (by decide) (vc_176 (S_.2.2.1 40 (0 + cc_) k_.toNat) a2_ S_ hI_ (by omega) (by omega)) (fun u_ Sx4_ px7_ => ?_)
      obtain ⟨rfl, vx9_, rfl, px7_⟩ := px7_
      have i24_ := px7_
      refine sm_T_b0 (a := 0) (z := 7) rfl (fun cx10_ => ?_) (fun cx10_ => ?_)
      · have cx10_ : vx9_ = 0 := of_decide_eq_true cx10_
        refine sm_T_go 1 (c1 := (35, [some (.inr (.inr (some (9, 0)))), some (.inr (.inr (some (2, cc_)))), some (.inl a2_), some (.inl ct), some (.inl k_)], [.inl 0, .inl ct], S_)) rfl ?_
        refine sm_T_bin (w := ct) rfl (bi_add (by omega) (by omega) (by omega)) ?_ -- pc_ 35
        refine sm_T_go 1 (c1 := (37, [some (.inr (.inr (some (9, 0)))), some (.inr (.inr (some (2, cc_)))), some (.inl a2_), some (.inl ct), some (.inl k_)], [], S_)) rfl ?_
        refine sm_T_inc (a := 4) (z := 1) (v := k_) (w := k_ + 1) rfl rfl (by omega) (by omega) (by omega) ?_ -- pc_ 37
        refine sm_T_go 1 (c1 := (5, [some (.inr (.inr (some (9, 0)))), some (.inr (.inr (some (2, cc_)))), some (.inl a2_), some (.inl ct), some (.inl (k_ + 1))], [], S_)) rfl ?_
        refine ih_ ct (k_ + 1) S_ hI_ hF_ ⟨?_, ?_, trivial⟩ ?_
        · omega
        · first | rfl | exact hS_
        · omega
      · have cx10_ : ¬ (vx9_ = 0) := of_decide_eq_false cx10_
        refine sm_T_go 2 (c1 := (35, [some (.inr (.inr (some (9, 0)))), some (.inr (.inr (some (2, cc_)))), some (.inl a2_), some (.inl ct), some (.inl k_)], [.inl 1, .inl ct], S_)) rfl ?_
        refine sm_T_bin (w := ct + 1) rfl (bi_add (by omega) (by omega) (by omega)) ?_ -- pc_ 35
        refine sm_T_go 1 (c1 := (37, [some (.inr (.inr (some (9, 0)))), some (.inr (.inr (some (2, cc_)))), some (.inl a2_), some (.inl (ct + 1)), some (.inl k_)], [], S_)) rfl ?_
        refine sm_T_inc (a := 4) (z := 1) (v := k_) (w := k_ + 1) rfl rfl (by omega) (by omega) (by omega) ?_ -- pc_ 37
        refine sm_T_go 1 (c1 := (5, [some (.inr (.inr (some (9, 0)))), some (.inr (.inr (some (2, cc_)))), some (.inl a2_), some (.inl (ct + 1)), some (.inl (k_ + 1))], [], S_)) rfl ?_
        refine ih_ (ct + 1) (k_ + 1) S_ hI_ hF_ ⟨?_, ?_, trivial⟩ ?_
        · omega
        · first | rfl | exact hS_
        · omega
set_option maxHeartbeats 400000 in
theorem vc_180 {sc_ : Nat × (Nat → Int)} (a2_ : Int) (cc_ : Nat) (S0_ : sm_S) (hI_ : gi S0_) (h2_ : 0 ≤ a2_ ∧ a2_ ≤ 1223) : sm_T (mt_P sc_) 1 180 (0, [some (.inr (.inr (some (9, 0)))), some (.inr (.inr (some (2, cc_)))), some (.inl a2_), none, none], [], S0_) (fun ro9_ => ∃ u_ S1_, ro9_ = (.inl u_, S1_, 0) ∧ vq_180 a2_ cc_ S0_ u_ S1_) := by
  have hF_ : ai_fr (sx_W vw_180) S0_ S0_ := ai_fr_rf
  refine sm_T_go 4 (c1 := (5, [some (.inr (.inr (some (9, 0)))), some (.inr (.inr (some (2, cc_)))), some (.inl a2_), some (.inl 0), some (.inl 0)], [], S0_)) rfl ?_
  refine (vl_180 a2_ cc_ S0_ h2_ _) 0 0 S0_ hI_ hF_ ⟨?_, ?_, trivial⟩ (Nat.lt_succ_self _)
  · omega
  · first | rfl | exact hS_
end
/-! 99.zl8e -/
section
/-! Tester.isSpare -/
def vw_181 : sx_Wl := ([], [], [])
def vq_181 (a1_ : Int) (a2_ : Int) (S0_ : sm_S) (u_ : Option sm_V) (S1_ : sm_S) : Prop := S0_ = S1_ ∧ ∃ v_ : Int, u_ = some (.inl v_) ∧ (0 ≤ v_ ∧ v_ ≤ 1)
set_option maxHeartbeats 400000 in
theorem vl_181 {sc_ : Nat × (Nat → Int)} (a1_ : Int) (a2_ : Int) (S0_ : sm_S) (h1_ : 0 ≤ a1_ ∧ a1_ ≤ 4095) (h2_ : 0 ≤ a2_ ∧ a2_ ≤ 1224) : ∀ nn_ : Nat, (∀ (f_ : Int) (S_ : sm_S), gi S_ → ai_fr (sx_W vw_181) S0_ S_ → ((0 ≤ f_ ∧ f_ ≤ a2_) ∧ (S_ = S0_) ∧ True) → ((2000 - f_).toNat) < nn_ → sm_T (mt_P sc_) 1 181 (2, [some (.inr (.inr (some (9, 0)))), some (.inl a1_), some (.inl a2_), some (.inl f_)], [], S_) (fun ro9_ => ∃ u_ S1_, ro9_ = (.inl u_, S1_, 0) ∧ vq_181 a1_ a2_ S0_ u_ S1_)) := by
  intro nn_
  induction nn_ with
  | zero => exact fun _ _ _ _ _ h_ => absurd h_ (Nat.not_lt_zero _)
  | succ nn_ ih_ =>
    rintro f_ S_ hI_ hF_ ⟨h0_, hS_, -⟩ hm_
    refine sm_T_go 2 (c1 := (4, [some (.inr (.inr (some (9, 0)))), some (.inl a1_), some (.inl a2_), some (.inl f_)], [.inl a2_, .inl f_], S_)) rfl ?_
    refine sm_T_br (a := 3) (z := 30) rfl (fun cx1_ => ?_) (fun cx1_ => ?_)
    · have cx1_ : a2_ ≤ f_ := of_decide_eq_true cx1_
      refine sm_T_go 1 (c1 := (35, [some (.inr (.inr (some (9, 0)))), some (.inl a1_), some (.inl a2_), some (.inl f_)], [.inl 1], S_)) rfl ?_
      refine sm_T_rz rfl (by omega) ⟨_, _, rfl, (by first | rfl | exact hS_.symm), _, rfl, ?_⟩
      omega
    · have cx1_ : ¬ (a2_ ≤ f_) := of_decide_eq_false cx1_
      refine sm_T_go 3 (c1 := (12, [some (.inr (.inr (some (9, 0)))), some (.inl a1_), some (.inl a2_), some (.inl f_)], [.inl f_, .inr (.inr (some (97, 0)))], S_)) rfl ?_
      refine sm_T_iald (n := 1224) rfl rfl (by omega) (by omega) ?_
      have bx2_ : (-2147483648) ≤ S_.2.2.1 97 0 f_.toNat ∧ S_.2.2.1 97 0 f_.toNat ≤ 2147483647 := hI_.2 97 0 _
      refine sm_T_go 1 (c1 := (14, [some (.inr (.inr (some (9, 0)))), some (.inl a1_), some (.inl a2_), some (.inl f_)], [.inl 1, .inl (S_.2.2.1 97 0 f_.toNat)], S_)) rfl ?_
      refine sm_T_br (a := 1) (z := 14) rfl (fun cx3_ => ?_) (fun cx3_ => ?_)
      · have cx3_ : (S_.2.2.1 97 0 f_.toNat) ≠ 1 := of_decide_eq_true cx3_
        refine sm_T_inc (a := 3) (z := 1) (v := f_) (w := f_ + 1) rfl rfl (by omega) (by omega) (by omega) ?_ -- pc_ 28
        refine sm_T_go 1 (c1 := (2, [some (.inr (.inr (some (9, 0)))), some (.inl a1_), some (.inl a2_), some (.inl (f_ + 1))], [], S_)) rfl ?_
        refine ih_ (f_ + 1) S_ hI_ hF_ ⟨?_, ?_, trivial⟩ ?_
        · omega
        · first | rfl | exact hS_
        · omega
      · have cx3_ : ¬ ((S_.2.2.1 97 0 f_.toNat) ≠ 1) := of_decide_eq_false cx3_
        refine sm_T_go 3 (c1 := (20, [some (.inr (.inr (some (9, 0)))), some (.inl a1_), some (.inl a2_), some (.inl f_)], [.inl f_, .inl a1_, .inr (.inr (some (9, 0)))], S_)) rfl ?_
        refine sm_T_cal (d1 := 0) (Q1 := vq_176 a1_ f_ S_) rfl rfl (by decide) (vc_176 a1_ f_ S_ hI_ (by omega) (by omega)) (fun u_ Sx4_ px7_ => ?_)
        obtain ⟨rfl, vx9_, rfl, px7_⟩ := px7_
        have i20_ := px7_
        refine sm_T_b0 (a := 0) (z := 5) rfl (fun cx10_ => ?_) (fun cx10_ => ?_)
        · have cx10_ : vx9_ = 0 := of_decide_eq_true cx10_
          refine sm_T_inc (a := 3) (z := 1) (v := f_) (w := f_ + 1) rfl rfl (by omega) (by omega) (by omega) ?_ -- pc_ 28
          refine sm_T_go 1 (c1 := (2, [some (.inr (.inr (some (9, 0)))), some (.inl a1_), some (.inl a2_), some (.inl (f_ + 1))], [], S_)) rfl ?_
          refine ih_ (f_ + 1) S_ hI_ hF_ ⟨?_, ?_, trivial⟩ ?_
          · omega
          · first | rfl | exact hS_
          · omega
        · have cx10_ : ¬ (vx9_ = 0) := of_decide_eq_false cx10_
          refine sm_T_go 1 (c1 := (27, [some (.inr (.inr (some (9, 0)))), some (.inl a1_), some (.inl a2_), some (.inl f_)], [.inl 0], S_)) rfl ?_
          refine sm_T_rz rfl (by omega) ⟨_, _, rfl, (by first | rfl | exact hS_.symm), _, rfl, ?_⟩
          omega
set_option maxHeartbeats 400000 in
theorem vc_181 {sc_ : Nat × (Nat → Int)} (a1_ : Int) (a2_ : Int) (S0_ : sm_S) (hI_ : gi S0_) (h1_ : 0 ≤ a1_ ∧ a1_ ≤ 4095) (h2_ : 0 ≤ a2_ ∧ a2_ ≤ 1224) : sm_T (mt_P sc_) 1 181 (0, [some (.inr (.inr (some (9, 0)))), some (.inl a1_), some (.inl a2_), none], [], S0_) (fun ro9_ => ∃ u_ S1_, ro9_ = (.inl u_, S1_, 0) ∧ vq_181 a1_ a2_ S0_ u_ S1_) := by
  have hF_ : ai_fr (sx_W vw_181) S0_ S0_ := ai_fr_rf
  refine sm_T_go 2 (c1 := (2, [some (.inr (.inr (some (9, 0)))), some (.inl a1_), some (.inl a2_), some (.inl 0)], [], S0_)) rfl ?_
  refine (vl_181 a1_ a2_ S0_ h1_ h2_ _) 0 S0_ hI_ hF_ ⟨?_, ?_, trivial⟩ (Nat.lt_succ_self _)
  · omega
  · first | rfl | exact hS_
end
/-! 99.zl8f -/
section
/-! Tester.countShownBySet -/
def vw_183 : sx_Wl := ([(9, 1), (9, 2), (9, 3)], [92, 93, 94, 95, 96], [(9, 0)])
def vq_183 (cc_ : Nat) (S0_ : sm_S) (u_ : Option sm_V) (S1_ : sm_S) : Prop := ∃ v_ : Int, u_ = some (.inl v_) ∧ gi S1_ ∧ ai_fr (sx_W vw_183) S0_ S1_ ∧ (shn S1_)
set_option maxHeartbeats 400000 in
theorem vl_183 {sc_ : Nat × (Nat → Int)} (cc_ : Nat) (S0_ : sm_S) (hs_ : S0_.1 2 cc_ 1 + S0_.1 2 cc_ 2 ≤ 12) (hn_ : shn S0_) : ∀ nn_ : Nat, (∀ (hd_ : Int) (f_ : Int) (S_ : sm_S), gi S_ → ai_fr (sx_W vw_183) S0_ S_ → ((0 ≤ f_ ∧ f_ ≤ 1224 ∧ 0 ≤ hd_ ∧ hd_ ≤ f_) ∧ (shn S_) ∧ True) → ((2000 - f_).toNat) < nn_ → sm_T (mt_P sc_) 5 183 (4, [some (.inr (.inr (some (9, 0)))), some (.inr (.inr (some (2, cc_)))), some (.inl hd_), some (.inl f_)], [], S_) (fun ro9_ => ∃ u_ S1_, ro9_ = (.inl u_, S1_, 0) ∧ vq_183 cc_ S0_ u_ S1_)) := by
  intro nn_
  induction nn_ with
  | zero => exact fun _ _ _ _ _ _ h_ => absurd h_ (Nat.not_lt_zero _)
  | succ nn_ ih_ =>
    rintro hd_ f_ S_ hI_ hF_ ⟨h0_, hn1_, -⟩ hm_
    have z1_ : S_.1 2 cc_ 1 = S0_.1 2 cc_ 1 := hF_.1 2 cc_ 1 rfl
    have z2_ : S_.1 2 cc_ 2 = S0_.1 2 cc_ 2 := hF_.1 2 cc_ 2 rfl
    refine sm_T_go 2 (c1 := (6, [some (.inr (.inr (some (9, 0)))), some (.inr (.inr (some (2, cc_)))), some (.inl hd_), some (.inl f_)], [.inr (.inr (some (2, cc_))), .inl f_], S_)) rfl ?_
    refine sm_T_cal (d1 := 1) (Q1 := vq_62 cc_ S_) rfl rfl (by decide) (vc_62 cc_ S_ hI_ (by omega)) (fun u_ Sx1_ px4_ => ?_)
    obtain ⟨rfl, vx6_, rfl, px4_⟩ := px4_
    have fc6_ := px4_
    refine sm_T_br (a := 3) (z := 32) rfl (fun cx7_ => ?_) (fun cx7_ => ?_)
    · have cx7_ : vx6_ ≤ f_ := of_decide_eq_true cx7_
      refine sm_T_go 1 (c1 := (42, [some (.inr (.inr (some (9, 0)))), some (.inr (.inr (some (2, cc_)))), some (.inl hd_), some (.inl f_)], [.inl hd_], S_)) rfl ?_
      refine sm_T_ri rfl ⟨_, _, rfl, _, rfl, hI_, hF_, ?_⟩
      exact hn1_
    · have cx7_ : ¬ (vx6_ ≤ f_) := of_decide_eq_false cx7_
      refine sm_T_go 3 (c1 := (15, [some (.inr (.inr (some (9, 0)))), some (.inr (.inr (some (2, cc_)))), some (.inl hd_), some (.inl f_)], [.inl f_, .inr (.inr (some (2, cc_))), .inr (.inr (some (9, 0)))], S_)) rfl ?_
      refine sm_T_cal (d1 := 4) (Q1 := vq_174 f_ cc_ S_) rfl rfl (by decide) (vc_174 f_ cc_ S_ hI_ (by omega) (by omega) (by first | exact hn1_ | exact hn_)) (fun u_ Sx8_ px11_ => ?_)
      obtain ⟨rfl, hIx9_, hFx10_, px11_⟩ := px11_
      have hFx12_ : ai_fr (sx_W vw_183) S0_ Sx8_ := ai_fr_tr hF_ (fr_le hFx10_ rfl)
      have p15_ := px11_
      refine sm_T_go 4 (c1 := (22, [some (.inr (.inr (some (9, 0)))), some (.inr (.inr (some (2, cc_)))), some (.inl hd_), some (.inl f_)], [.inl f_, .inr (.inr (some (2, cc_))), .inr (.inr (some (9, 0))), .inl hd_], Sx8_)) rfl ?_
      refine sm_T_cal (d1 := 1) (Q1 := vq_180 f_ cc_ Sx8_) rfl rfl (by decide) (vc_180 f_ cc_ Sx8_ hIx9_ (by omega)) (fun u_ Sx13_ px16_ => ?_)
      obtain ⟨rfl, vx18_, rfl, px16_⟩ := px16_
      refine sm_T_b0 (a := 5) (z := 7) rfl (fun cx19_ => ?_) (fun cx19_ => ?_)
      · have cx19_ : vx18_ ≤ 0 := of_decide_eq_true cx19_
        refine sm_T_go 1 (c1 := (33, [some (.inr (.inr (some (9, 0)))), some (.inr (.inr (some (2, cc_)))), some (.inl hd_), some (.inl f_)], [.inl 0, .inl hd_], Sx8_)) rfl ?_
        refine sm_T_bin (w := hd_) rfl (bi_add (by omega) (by omega) (by omega)) ?_ -- pc_ 33
        refine sm_T_go 1 (c1 := (35, [some (.inr (.inr (some (9, 0)))), some (.inr (.inr (some (2, cc_)))), some (.inl hd_), some (.inl f_)], [], Sx8_)) rfl ?_
        refine sm_T_inc (a := 3) (z := 1) (v := f_) (w := f_ + 1) rfl rfl (by omega) (by omega) (by omega) ?_ -- pc_ 35
        refine sm_T_go 1 (c1 := (4, [some (.inr (.inr (some (9, 0)))), some (.inr (.inr (some (2, cc_)))), some (.inl hd_), some (.inl (f_ + 1))], [], Sx8_)) rfl ?_
        refine ih_ hd_ (f_ + 1) Sx8_ hIx9_ hFx12_ ⟨?_, ?_, trivial⟩ ?_
        · omega
        · exact p15_.2
        · omega
      · have cx19_ : ¬ (vx18_ ≤ 0) := of_decide_eq_false cx19_
        refine sm_T_go 2 (c1 := (33, [some (.inr (.inr (some (9, 0)))), some (.inr (.inr (some (2, cc_)))), some (.inl hd_), some (.inl f_)], [.inl 1, .inl hd_], Sx8_)) rfl ?_
        refine sm_T_bin (w := hd_ + 1) rfl (bi_add (by omega) (by omega) (by omega)) ?_ -- pc_ 33
        refine sm_T_go 1 (c1 := (35, [some (.inr (.inr (some (9, 0)))), some (.inr (.inr (some (2, cc_)))), some (.inl (hd_ + 1)), some (.inl f_)], [], Sx8_)) rfl ?_
        refine sm_T_inc (a := 3) (z := 1) (v := f_) (w := f_ + 1) rfl rfl (by omega) (by omega) (by omega) ?_ -- pc_ 35
        refine sm_T_go 1 (c1 := (4, [some (.inr (.inr (some (9, 0)))), some (.inr (.inr (some (2, cc_)))), some (.inl (hd_ + 1)), some (.inl (f_ + 1))], [], Sx8_)) rfl ?_
        refine ih_ (hd_ + 1) (f_ + 1) Sx8_ hIx9_ hFx12_ ⟨?_, ?_, trivial⟩ ?_
        · omega
        · exact p15_.2
        · omega
set_option maxHeartbeats 400000 in
theorem vc_183 {sc_ : Nat × (Nat → Int)} (cc_ : Nat) (S0_ : sm_S) (hI_ : gi S0_) (hs_ : S0_.1 2 cc_ 1 + S0_.1 2 cc_ 2 ≤ 12) (hn_ : shn S0_) : sm_T (mt_P sc_) 5 183 (0, [some (.inr (.inr (some (9, 0)))), some (.inr (.inr (some (2, cc_)))), none, none], [], S0_) (fun ro9_ => ∃ u_ S1_, ro9_ = (.inl u_, S1_, 0) ∧ vq_183 cc_ S0_ u_ S1_) := by
  have hF_ : ai_fr (sx_W vw_183) S0_ S0_ := ai_fr_rf
  refine sm_T_go 4 (c1 := (4, [some (.inr (.inr (some (9, 0)))), some (.inr (.inr (some (2, cc_)))), some (.inl 0), some (.inl 0)], [], S0_)) rfl ?_
  refine (vl_183 cc_ S0_ hs_ hn_ _) 0 0 S0_ hI_ hF_ ⟨?_, ?_, trivial⟩ (Nat.lt_succ_self _)
  · omega
  · exact hn_
end
/-! 99.zl8g -/
section
/-! Tester.suspectOf -/
def vw_184 : sx_Wl := ([(9, 1), (9, 2), (9, 3)], [92, 93, 94, 95, 96], [(9, 0)])
def vq_184 (a2_ : Int) (cc_ : Nat) (S0_ : sm_S) (u_ : Option sm_V) (S1_ : sm_S) : Prop := ∃ v_ : Int, u_ = some (.inl v_) ∧ gi S1_ ∧ ai_fr (sx_W vw_184) S0_ S1_ ∧ (shn S1_)
set_option maxHeartbeats 400000 in
theorem vl_184 {sc_ : Nat × (Nat → Int)} (a2_ : Int) (cc_ : Nat) (S0_ : sm_S) (hs_ : S0_.1 2 cc_ 1 + S0_.1 2 cc_ 2 ≤ 12) (h2_ : -2147483648 ≤ a2_ ∧ a2_ ≤ 2147483647) (hn_ : shn S0_) : ∀ nn_ : Nat, (∀ (rs_ : Int) (f_ : Int) (S_ : sm_S), gi S_ → ai_fr (sx_W vw_184) S0_ S_ → ((0 ≤ f_ ∧ f_ ≤ 1224) ∧ (shn S_) ∧ True) → ((10000 * (2000 - f_) + 9000).toNat) < nn_ → sm_T (mt_P sc_) 5 184 (5, [some (.inr (.inr (some (9, 0)))), some (.inr (.inr (some (2, cc_)))), some (.inl a2_), some (.inl rs_), some (.inl f_), none, none], [], S_) (fun ro9_ => ∃ u_ S1_, ro9_ = (.inl u_, S1_, 0) ∧ vq_184 a2_ cc_ S0_ u_ S1_)) ∧ (∀ (rs_ : Int) (f_ : Int) (sp_ : Int) (k_ : Int) (S_ : sm_S), gi S_ → ai_fr (sx_W vw_184) S0_ S_ → ((0 ≤ f_ ∧ f_ < 1224 ∧ 0 ≤ k_ ∧ k_ ≤ 1224 ∧ 0 ≤ sp_ ∧ sp_ ≤ 1) ∧ (shn S_) ∧ True) → ((10000 * (2000 - f_) + 8000 - k_).toNat) < nn_ → sm_T (mt_P sc_) 5 184 (41, [some (.inr (.inr (some (9, 0)))), some (.inr (.inr (some (2, cc_)))), some (.inl a2_), some (.inl rs_), some (.inl f_), some (.inl sp_), some (.inl k_)], [], S_) (fun ro9_ => ∃ u_ S1_, ro9_ = (.inl u_, S1_, 0) ∧ vq_184 a2_ cc_ S0_ u_ S1_)) := by
  intro nn_
  induction nn_ with
  | zero => exact ⟨fun _ _ _ _ _ _ h_ => absurd h_ (Nat.not_lt_zero _), fun _ _ _ _ _ _ _ _ h_ => absurd h_ (Nat.not_lt_zero _)⟩
  | succ nn_ ih_ =>
    refine ⟨?_, ?_⟩
    · rintro rs_ f_ S_ hI_ hF_ ⟨h0_, hn1_, -⟩ hm_
      have z1_ : S_.1 2 cc_ 1 = S0_.1 2 cc_ 1 := hF_.1 2 cc_ 1 rfl
      have z2_ : S_.1 2 cc_ 2 = S0_.1 2 cc_ 2 := hF_.1 2 cc_ 2 rfl
      have cz_ : (-1) ≤ S_.1 2 cc_ 15 ∧ S_.1 2 cc_ 15 ≤ 1224 := hI_.1 2 cc_ 15 rfl
      refine sm_T_go 2 (c1 := (8, [some (.inr (.inr (some (9, 0)))), some (.inr (.inr (some (2, cc_)))), some (.inl a2_), some (.inl rs_), some (.inl f_), none, none], [.inr (.inr (some (2, cc_))), .inl f_], S_)) rfl ?_
      refine sm_T_cal (d1 := 1) (Q1 := vq_62 cc_ S_) rfl rfl (by decide) (vc_62 cc_ S_ hI_ (by omega)) (fun u_ Sx1_ px4_ => ?_)
      obtain ⟨rfl, vx6_, rfl, px4_⟩ := px4_
      have fc8_ := px4_
      refine sm_T_br (a := 3) (z := 109) rfl (fun cx7_ => ?_) (fun cx7_ => ?_)
      · have cx7_ : vx6_ ≤ f_ := of_decide_eq_true cx7_
        refine sm_T_go 1 (c1 := (121, [some (.inr (.inr (some (9, 0)))), some (.inr (.inr (some (2, cc_)))), some (.inl a2_), some (.inl rs_), some (.inl f_), none, none], [.inl (-1)], S_)) rfl ?_
        refine sm_T_ri rfl ⟨_, _, rfl, _, rfl, hI_, hF_, ?_⟩
        exact hn1_
      · have cx7_ : ¬ (vx6_ ≤ f_) := of_decide_eq_false cx7_
        refine sm_T_go 3 (c1 := (18, [some (.inr (.inr (some (9, 0)))), some (.inr (.inr (some (2, cc_)))), some (.inl a2_), some (.inl rs_), some (.inl f_), none, none], [.inl f_, .inr (.inr (some (2, cc_))), .inr (.inr (some (9, 0)))], S_)) rfl ?_
        refine sm_T_cal (d1 := 4) (Q1 := vq_174 f_ cc_ S_) rfl rfl (by decide) (vc_174 f_ cc_ S_ hI_ (by omega) (by omega) (by first | exact hn1_ | exact hn_)) (fun u_ Sx8_ px11_ => ?_)
        obtain ⟨rfl, hIx9_, hFx10_, px11_⟩ := px11_
        have hFx12_ : ai_fr (sx_W vw_184) S0_ Sx8_ := ai_fr_tr hF_ (fr_le hFx10_ rfl)
        have p18_ := px11_
        refine sm_T_go 3 (c1 := (25, [some (.inr (.inr (some (9, 0)))), some (.inr (.inr (some (2, cc_)))), some (.inl a2_), some (.inl rs_), some (.inl f_), none, none], [.inl f_, .inr (.inr (some (2, cc_))), .inr (.inr (some (9, 0)))], Sx8_)) rfl ?_
        refine sm_T_cal (d1 := 1) (Q1 := vq_180 f_ cc_ Sx8_) rfl rfl (by decide) (vc_180 f_ cc_ Sx8_ hIx9_ (by omega)) (fun u_ Sx13_ px16_ => ?_)
        obtain ⟨rfl, vx18_, rfl, px16_⟩ := px16_
        refine sm_T_b0 (a := 5) (z := 7) rfl (fun cx19_ => ?_) (fun cx19_ => ?_)
        · have cx19_ : vx18_ ≤ 0 := of_decide_eq_true cx19_
          refine sm_T_go 4 (c1 := (41, [some (.inr (.inr (some (9, 0)))), some (.inr (.inr (some (2, cc_)))), some (.inl a2_), some (.inl rs_), some (.inl f_), some (.inl 0), some (.inl 0)], [], Sx8_)) rfl ?_
          refine ih_.2 rs_ f_ 0 0 Sx8_ hIx9_ hFx12_ ⟨?_, ?_, trivial⟩ ?_
          · omega
          · exact p18_.2
          · omega
        · have cx19_ : ¬ (vx18_ ≤ 0) := of_decide_eq_false cx19_
          refine sm_T_go 5 (c1 := (41, [some (.inr (.inr (some (9, 0)))), some (.inr (.inr (some (2, cc_)))), some (.inl a2_), some (.inl rs_), some (.inl f_), some (.inl 1), some (.inl 0)], [], Sx8_)) rfl ?_
          refine ih_.2 rs_ f_ 1 0 Sx8_ hIx9_ hFx12_ ⟨?_, ?_, trivial⟩ ?_
          · omega
          · exact p18_.2
          · omega
    · rintro rs_ f_ sp_ k_ S_ hI_ hF_ ⟨h0_, hn1_, -⟩ hm_
      have z1_ : S_.1 2 cc_ 1 = S0_.1 2 cc_ 1 := hF_.1 2 cc_ 1 rfl
      have z2_ : S_.1 2 cc_ 2 = S0_.1 2 cc_ 2 := hF_.1 2 cc_ 2 rfl
      have cz_ : (-1) ≤ S_.1 2 cc_ 15 ∧ S_.1 2 cc_ 15 ≤ 1224 := hI_.1 2 cc_ 15 rfl
      have bx1_ : (-1) ≤ S_.1 2 cc_ 15 ∧ S_.1 2 cc_ 15 ≤ 1224 := hI_.1 2 cc_ 15 rfl
      refine sm_T_go 3 (c1 := (47, [some (.inr (.inr (some (9, 0)))), some (.inr (.inr (some (2, cc_)))), some (.inl a2_), some (.inl rs_), some (.inl f_), some (.inl sp_), some (.inl k_)], [.inl (S_.1 2 cc_ 15), .inl k_], S_)) rfl ?_
      refine sm_T_br (a := 3) (z := 52) rfl (fun cx2_ => ?_) (fun cx2_ => ?_)
      · have cx2_ : (S_.1 2 cc_ 15) ≤ k_ := of_decide_eq_true cx2_
        refine sm_T_go 1 (c1 := (101, [some (.inr (.inr (some (9, 0)))), some (.inr (.inr (some (2, cc_)))), some (.inl a2_), some (.inl rs_), some (.inl f_), some (.inl sp_), some (.inl k_)], [.inl sp_], S_)) rfl ?_
        refine sm_T_b0 (a := 0) (z := 13) rfl (fun cx3_ => ?_) (fun cx3_ => ?_)
        · have cx3_ : sp_ = 0 := of_decide_eq_true cx3_
          refine sm_T_inc (a := 4) (z := 1) (v := f_) (w := f_ + 1) rfl rfl (by omega) (by omega) (by omega) ?_ -- pc_ 114
          refine sm_T_go 1 (c1 := (5, [some (.inr (.inr (some (9, 0)))), some (.inr (.inr (some (2, cc_)))), some (.inl a2_), some (.inl rs_), some (.inl (f_ + 1)), some (.inl sp_), some (.inl k_)], [], S_)) rfl ?_
          refine sm_T_wk [some (.inr (.inr (some (9, 0)))), some (.inr (.inr (some (2, cc_)))), some (.inl a2_), some (.inl rs_), some (.inl (f_ + 1)), none, none] (by exact ⟨rfl, rfl, rfl, rfl, rfl, trivial⟩) ?_
          refine ih_.1 rs_ (f_ + 1) S_ hI_ hF_ ⟨?_, ?_, trivial⟩ ?_
          · omega
          · exact hn1_
          · omega
        · have cx3_ : ¬ (sp_ = 0) := of_decide_eq_false cx3_
          refine sm_T_go 1 (c1 := (105, [some (.inr (.inr (some (9, 0)))), some (.inr (.inr (some (2, cc_)))), some (.inl a2_), some (.inl rs_), some (.inl f_), some (.inl sp_), some (.inl k_)], [.inl rs_], S_)) rfl ?_
          refine sm_T_b0 (a := 1) (z := 6) rfl (fun cx4_ => ?_) (fun cx4_ => ?_)
          · have cx4_ : rs_ ≠ 0 := of_decide_eq_true cx4_
            refine sm_T_incw (a_ := 3) (z_ := (-1)) (v_ := rs_) rfl rfl ?_ -- pc_ 111
            have bx5_ := i_add_r rs_ (-1)
            refine sm_T_inc (a := 4) (z := 1) (v := f_) (w := f_ + 1) rfl rfl (by omega) (by omega) (by omega) ?_ -- pc_ 114
            refine sm_T_go 1 (c1 := (5, [some (.inr (.inr (some (9, 0)))), some (.inr (.inr (some (2, cc_)))), some (.inl a2_), some (.inl (i_add rs_ (-1))), some (.inl (f_ + 1)), some (.inl sp_), some (.inl k_)], [], S_)) rfl ?_
            refine sm_T_wk [some (.inr (.inr (some (9, 0)))), some (.inr (.inr (some (2, cc_)))), some (.inl a2_), some (.inl (i_add rs_ (-1))), some (.inl (f_ + 1)), none, none] (by exact ⟨rfl, rfl, rfl, rfl, rfl, trivial⟩) ?_
            refine ih_.1 (i_add rs_ (-1)) (f_ + 1) S_ hI_ hF_ ⟨?_, ?_, trivial⟩ ?_
            · omega
            · exact hn1_
            · omega
          · have cx4_ : ¬ (rs_ ≠ 0) := of_decide_eq_false cx4_
            refine sm_T_go 1 (c1 := (110, [some (.inr (.inr (some (9, 0)))), some (.inr (.inr (some (2, cc_)))), some (.inl a2_), some (.inl rs_), some (.inl f_), some (.inl sp_), some (.inl k_)], [.inl f_], S_)) rfl ?_
            refine sm_T_ri rfl ⟨_, _, rfl, _, rfl, hI_, hF_, ?_⟩
            exact hn1_
      · have cx2_ : ¬ ((S_.1 2 cc_ 15) ≤ k_) := of_decide_eq_false cx2_
        refine sm_T_go 1 (c1 := (52, [some (.inr (.inr (some (9, 0)))), some (.inr (.inr (some (2, cc_)))), some (.inl a2_), some (.inl rs_), some (.inl f_), some (.inl sp_), some (.inl k_)], [.inl sp_], S_)) rfl ?_
        refine sm_T_b0 (a := 0) (z := 47) rfl (fun cx6_ => ?_) (fun cx6_ => ?_)
        · have cx6_ : sp_ = 0 := of_decide_eq_true cx6_
          refine sm_T_go 1 (c1 := (101, [some (.inr (.inr (some (9, 0)))), some (.inr (.inr (some (2, cc_)))), some (.inl a2_), some (.inl rs_), some (.inl f_), some (.inl sp_), some (.inl k_)], [.inl sp_], S_)) rfl ?_
          refine sm_T_b0 (a := 0) (z := 13) rfl (fun cx7_ => ?_) (fun cx7_ => ?_)
          · have cx7_ : sp_ = 0 := of_decide_eq_true cx7_
            refine sm_T_inc (a := 4) (z := 1) (v := f_) (w := f_ + 1) rfl rfl (by omega) (by omega) (by omega) ?_ -- pc_ 114
            refine sm_T_go 1 (c1 := (5, [some (.inr (.inr (some (9, 0)))), some (.inr (.inr (some (2, cc_)))), some (.inl a2_), some (.inl rs_), some (.inl (f_ + 1)), some (.inl sp_), some (.inl k_)], [], S_)) rfl ?_
            refine sm_T_wk [some (.inr (.inr (some (9, 0)))), some (.inr (.inr (some (2, cc_)))), some (.inl a2_), some (.inl rs_), some (.inl (f_ + 1)), none, none] (by exact ⟨rfl, rfl, rfl, rfl, rfl, trivial⟩) ?_
            refine ih_.1 rs_ (f_ + 1) S_ hI_ hF_ ⟨?_, ?_, trivial⟩ ?_
            · omega
            · exact hn1_
            · omega
          · have cx7_ : ¬ (sp_ = 0) := of_decide_eq_false cx7_
            exfalso; omega
        · have cx6_ : ¬ (sp_ = 0) := of_decide_eq_false cx6_
          refine sm_T_go 4 (c1 := (62, [some (.inr (.inr (some (9, 0)))), some (.inr (.inr (some (2, cc_)))), some (.inl a2_), some (.inl rs_), some (.inl f_), some (.inl sp_), some (.inl k_)], [.inl k_, .inr (.inr (some (40, (0 + cc_)))), .inr (.inr (some (9, 0)))], S_)) rfl ?_
          refine sm_T_iald (n := 1224) rfl rfl (by omega) (by omega) ?_
          have bx8_ : 0 ≤ S_.2.2.1 40 (0 + cc_) k_.toNat ∧ S_.2.2.1 40 (0 + cc_) k_.toNat ≤ 4095 := hI_.2 40 (0 + cc_) _
          refine sm_T_go 1 (c1 := (65, [some (.inr (.inr (some (9, 0)))), some (.inr (.inr (some (2, cc_)))), some (.inl a2_), some (.inl rs_), some (.inl f_), some (.inl sp_), some (.inl k_)], [.inl f_, .inl (S_.2.2.1 40 (0 + cc_) k_.toNat), .inr (.inr (some (9, 0)))], S_)) rfl ?_
          refine sm_T_cal (d1 := 0) (Q1 := vq_176 (S_.2.2.1 40 (0 + cc_) k_.toNat) f_ S_) rfl rfl (by decide) (vc_176 (S_.2.2.1 40 (0 + cc_) k_.toNat) f_ S_ hI_ (by omega) (by omega)) (fun u_ Sx9_ px12_ => ?_)
          obtain ⟨rfl, vx14_, rfl, px12_⟩ := px12_
          have i65_ := px12_
          refine sm_T_go 3 (c1 := (74, [some (.inr (.inr (some (9, 0)))), some (.inr (.inr (some (2, cc_)))), some (.inl a2_), some (.inl rs_), some (.inl f_), some (.inl sp_), some (.inl k_)], [.inl k_, .inr (.inr (some (41, (0 + cc_)))), .inl vx14_], S_)) rfl ?_
          refine sm_T_iald (n := 1224) rfl rfl (by omega) (by omega) ?_
          have bx15_ : 0 ≤ S_.2.2.1 41 (0 + cc_) k_.toNat ∧ S_.2.2.1 41 (0 + cc_) k_.toNat ≤ 1 := hI_.2 41 (0 + cc_) _
          refine sm_T_b0 (a := 0) (z := 7) rfl (fun cx16_ => ?_) (fun cx16_ => ?_)
          · have cx16_ : (S_.2.2.1 41 (0 + cc_) k_.toNat) = 0 := of_decide_eq_true cx16_
            refine sm_T_go 1 (c1 := (83, [some (.inr (.inr (some (9, 0)))), some (.inr (.inr (some (2, cc_)))), some (.inl a2_), some (.inl rs_), some (.inl f_), some (.inl sp_), some (.inl k_)], [.inl 0, .inl vx14_], S_)) rfl ?_
            refine sm_T_br (a := 1) (z := 7) rfl (fun cx17_ => ?_) (fun cx17_ => ?_)
            · have cx17_ : vx14_ ≠ 0 := of_decide_eq_true cx17_
              refine sm_T_go 2 (c1 := (93, [some (.inr (.inr (some (9, 0)))), some (.inr (.inr (some (2, cc_)))), some (.inl a2_), some (.inl rs_), some (.inl f_), some (.inl 0), some (.inl k_)], [], S_)) rfl ?_
              refine sm_T_inc (a := 6) (z := 1) (v := k_) (w := k_ + 1) rfl rfl (by omega) (by omega) (by omega) ?_ -- pc_ 93
              refine sm_T_go 1 (c1 := (41, [some (.inr (.inr (some (9, 0)))), some (.inr (.inr (some (2, cc_)))), some (.inl a2_), some (.inl rs_), some (.inl f_), some (.inl 0), some (.inl (k_ + 1))], [], S_)) rfl ?_
              refine ih_.2 rs_ f_ 0 (k_ + 1) S_ hI_ hF_ ⟨?_, ?_, trivial⟩ ?_
              · omega
              · exact hn1_
              · omega
            · have cx17_ : ¬ (vx14_ ≠ 0) := of_decide_eq_false cx17_
              refine sm_T_go 3 (c1 := (93, [some (.inr (.inr (some (9, 0)))), some (.inr (.inr (some (2, cc_)))), some (.inl a2_), some (.inl rs_), some (.inl f_), some (.inl 1), some (.inl k_)], [], S_)) rfl ?_
              refine sm_T_inc (a := 6) (z := 1) (v := k_) (w := k_ + 1) rfl rfl (by omega) (by omega) (by omega) ?_ -- pc_ 93
              refine sm_T_go 1 (c1 := (41, [some (.inr (.inr (some (9, 0)))), some (.inr (.inr (some (2, cc_)))), some (.inl a2_), some (.inl rs_), some (.inl f_), some (.inl 1), some (.inl (k_ + 1))], [], S_)) rfl ?_
              refine ih_.2 rs_ f_ 1 (k_ + 1) S_ hI_ hF_ ⟨?_, ?_, trivial⟩ ?_
              · omega
              · exact hn1_
              · omega
          · have cx16_ : ¬ ((S_.2.2.1 41 (0 + cc_) k_.toNat) = 0) := of_decide_eq_false cx16_
            refine sm_T_go 2 (c1 := (83, [some (.inr (.inr (some (9, 0)))), some (.inr (.inr (some (2, cc_)))), some (.inl a2_), some (.inl rs_), some (.inl f_), some (.inl sp_), some (.inl k_)], [.inl 1, .inl vx14_], S_)) rfl ?_
            refine sm_T_br (a := 1) (z := 7) rfl (fun cx18_ => ?_) (fun cx18_ => ?_)
            · have cx18_ : vx14_ ≠ 1 := of_decide_eq_true cx18_
              refine sm_T_go 2 (c1 := (93, [some (.inr (.inr (some (9, 0)))), some (.inr (.inr (some (2, cc_)))), some (.inl a2_), some (.inl rs_), some (.inl f_), some (.inl 0), some (.inl k_)], [], S_)) rfl ?_
              refine sm_T_inc (a := 6) (z := 1) (v := k_) (w := k_ + 1) rfl rfl (by omega) (by omega) (by omega) ?_ -- pc_ 93
              refine sm_T_go 1 (c1 := (41, [some (.inr (.inr (some (9, 0)))), some (.inr (.inr (some (2, cc_)))), some (.inl a2_), some (.inl rs_), some (.inl f_), some (.inl 0), some (.inl (k_ + 1))], [], S_)) rfl ?_
              refine ih_.2 rs_ f_ 0 (k_ + 1) S_ hI_ hF_ ⟨?_, ?_, trivial⟩ ?_
              · omega
              · exact hn1_
              · omega
            · have cx18_ : ¬ (vx14_ ≠ 1) := of_decide_eq_false cx18_
              refine sm_T_go 3 (c1 := (93, [some (.inr (.inr (some (9, 0)))), some (.inr (.inr (some (2, cc_)))), some (.inl a2_), some (.inl rs_), some (.inl f_), some (.inl 1), some (.inl k_)], [], S_)) rfl ?_
              refine sm_T_inc (a := 6) (z := 1) (v := k_) (w := k_ + 1) rfl rfl (by omega) (by omega) (by omega) ?_ -- pc_ 93
              refine sm_T_go 1 (c1 := (41, [some (.inr (.inr (some (9, 0)))), some (.inr (.inr (some (2, cc_)))), some (.inl a2_), some (.inl rs_), some (.inl f_), some (.inl 1), some (.inl (k_ + 1))], [], S_)) rfl ?_
              refine ih_.2 rs_ f_ 1 (k_ + 1) S_ hI_ hF_ ⟨?_, ?_, trivial⟩ ?_
              · omega
              · exact hn1_
              · omega
set_option maxHeartbeats 400000 in
theorem vc_184 {sc_ : Nat × (Nat → Int)} (a2_ : Int) (cc_ : Nat) (S0_ : sm_S) (hI_ : gi S0_) (hs_ : S0_.1 2 cc_ 1 + S0_.1 2 cc_ 2 ≤ 12) (h2_ : -2147483648 ≤ a2_ ∧ a2_ ≤ 2147483647) (hn_ : shn S0_) : sm_T (mt_P sc_) 5 184 (0, [some (.inr (.inr (some (9, 0)))), some (.inr (.inr (some (2, cc_)))), some (.inl a2_), none, none, none, none], [], S0_) (fun ro9_ => ∃ u_ S1_, ro9_ = (.inl u_, S1_, 0) ∧ vq_184 a2_ cc_ S0_ u_ S1_) := by
  have hF_ : ai_fr (sx_W vw_184) S0_ S0_ := ai_fr_rf
  refine sm_T_go 4 (c1 := (5, [some (.inr (.inr (some (9, 0)))), some (.inr (.inr (some (2, cc_)))), some (.inl a2_), some (.inl a2_), some (.inl 0), none, none], [], S0_)) rfl ?_
  refine (vl_184 a2_ cc_ S0_ hs_ h2_ hn_ _).1 a2_ 0 S0_ hI_ hF_ ⟨?_, ?_, trivial⟩ (Nat.lt_succ_self _)
  · omega
  · exact hn_
end
/-! 99.zl8h -/
section
/-! Tester.removePattern -/
def vw_182 : sx_Wl := ([(2, 15)], [40, 97], [])
def vq_182 (a2_ : Int) (a3_ : Int) (cc_ : Nat) (S0_ : sm_S) (u_ : Option sm_V) (S1_ : sm_S) : Prop := u_ = none ∧ gi S1_ ∧ ai_fr (sx_W vw_182) S0_ S1_ ∧ (cdf cc_ S0_ S1_ ∧ (S1_.1 2 cc_ 15 = S0_.1 2 cc_ 15 - 1))
set_option maxHeartbeats 400000 in
theorem vl_182 {sc_ : Nat × (Nat → Int)} (a2_ : Int) (a3_ : Int) (cc_ : Nat) (S0_ : sm_S) (h3_ : 0 ≤ a3_ ∧ a3_ ≤ 1224) (h2_ : 0 ≤ a2_ ∧ a2_ < S0_.1 2 cc_ 15) : ∀ nn_ : Nat, (∀ (f_ : Int) (S_ : sm_S), gi S_ → ai_fr (sx_W vw_182) S0_ S_ → ((0 ≤ f_ ∧ f_ ≤ a3_) ∧ (S_.1 2 cc_ 15 = S0_.1 2 cc_ 15) ∧ (cdf cc_ S0_ S_) ∧ True) → ((2000 - f_).toNat) < nn_ → sm_T (mt_P sc_) 1 182 (3, [some (.inr (.inr (some (9, 0)))), some (.inr (.inr (some (2, cc_)))), some (.inl a2_), some (.inl a3_), some (.inl f_)], [], S_) (fun ro9_ => ∃ u_ S1_, ro9_ = (.inl u_, S1_, 0) ∧ vq_182 a2_ a3_ cc_ S0_ u_ S1_)) := by
  intro nn_
  induction nn_ with
  | zero => exact fun _ _ _ _ _ h_ => absurd h_ (Nat.not_lt_zero _)
  | succ nn_ ih_ =>
    rintro f_ S_ hI_ hF_ ⟨h0_, h5_, hC_, -⟩ hm_
    have cz_ : (-1) ≤ S_.1 2 cc_ 15 ∧ S_.1 2 cc_ 15 ≤ 1224 := hI_.1 2 cc_ 15 rfl
    refine sm_T_go 2 (c1 := (6, [some (.inr (.inr (some (9, 0)))), some (.inr (.inr (some (2, cc_)))), some (.inl a2_), some (.inl a3_), some (.inl f_)], [.inl a3_, .inl f_], S_)) rfl ?_
    refine sm_T_br (a := 3) (z := 39) rfl (fun cx1_ => ?_) (fun cx1_ => ?_)
    · have cx1_ : a3_ ≤ f_ := of_decide_eq_true cx1_
      refine sm_T_go 4 (c1 := (51, [some (.inr (.inr (some (9, 0)))), some (.inr (.inr (some (2, cc_)))), some (.inl a2_), some (.inl a3_), some (.inl f_)], [.inl 1, .inl a2_, .inr (.inr (some (40, (0 + cc_))))], S_)) rfl ?_
      refine sm_T_bin (w := a2_ + 1) rfl (bi_add (by omega) (by omega) (by omega)) ?_ -- pc_ 51
      have bx2_ : (-1) ≤ S_.1 2 cc_ 15 ∧ S_.1 2 cc_ 15 ≤ 1224 := hI_.1 2 cc_ 15 rfl
      refine sm_T_go 6 (c1 := (62, [some (.inr (.inr (some (9, 0)))), some (.inr (.inr (some (2, cc_)))), some (.inl a2_), some (.inl a3_), some (.inl f_)], [.inl 1, .inl (S_.1 2 cc_ 15), .inl a2_, .inr (.inr (some (40, (0 + cc_)))), .inl (a2_ + 1), .inr (.inr (some (40, (0 + cc_))))], S_)) rfl ?_
      refine sm_T_bin (w := (S_.1 2 cc_ 15) - 1) rfl (bi_sub (by omega) (by omega) (by omega)) ?_ -- pc_ 62
      refine sm_T_go 1 (c1 := (64, [some (.inr (.inr (some (9, 0)))), some (.inr (.inr (some (2, cc_)))), some (.inl a2_), some (.inl a3_), some (.inl f_)], [.inl a2_, .inl ((S_.1 2 cc_ 15) - 1), .inl a2_, .inr (.inr (some (40, (0 + cc_)))), .inl (a2_ + 1), .inr (.inr (some (40, (0 + cc_))))], S_)) rfl ?_
      refine sm_T_bin (w := (S_.1 2 cc_ 15) - a2_ - 1) rfl (bi_sub (by omega) (by omega) (by omega)) ?_ -- pc_ 64
      refine sm_T_nt (u := none) (S1 := sm_acI S_ 40 (0 + cc_) 40 (0 + cc_) (a2_ + 1).toNat a2_.toNat ((S_.1 2 cc_ 15) - a2_ - 1).toNat) rfl rfl (nt_acI (sc := sc_) (t := 40) (i := (0 + cc_)) (t' := 40) (i' := (0 + cc_)) (x := a2_ + 1) (y := a2_) (m := (S_.1 2 cc_ 15) - a2_ - 1) (n := 1224) (n1 := 1224) rfl rfl (by omega) (by omega) (by omega) (by omega) (by omega)) ?_
      have hIx3_ : gi (sm_acI S_ 40 (0 + cc_) 40 (0 + cc_) (a2_ + 1).toNat a2_.toNat ((S_.1 2 cc_ 15) - a2_ - 1).toNat) := gi_ac hI_ (by decide) (by decide)
      have hFx4_ : ai_fr (sx_W vw_182) S0_ (sm_acI S_ 40 (0 + cc_) 40 (0 + cc_) (a2_ + 1).toNat a2_.toNat ((S_.1 2 cc_ 15) - a2_ - 1).toNat) := ai_fr_tr hF_ (fr_ac rfl)
      have hCx5_ : cdf cc_ S0_ (sm_acI S_ 40 (0 + cc_) 40 (0 + cc_) (a2_ + 1).toNat a2_.toNat ((S_.1 2 cc_ 15) - a2_ - 1).toNat) := cdf_ac hC_ (Or.inr (by rw [show cof 40 = 0 from rfl] <;> omega))
      refine sm_T_go 4 (c1 := (74, [some (.inr (.inr (some (9, 0)))), some (.inr (.inr (some (2, cc_)))), some (.inl a2_), some (.inl a3_), some (.inl f_)], [.inl 1, .inl (S_.1 2 cc_ 15), .inr (.inr (some (2, cc_)))], sm_acI S_ 40 (0 + cc_) 40 (0 + cc_) (a2_ + 1).toNat a2_.toNat ((S_.1 2 cc_ 15) - a2_ - 1).toNat)) rfl ?_
      refine sm_T_bin (w := (S_.1 2 cc_ 15) - 1) rfl (bi_sub (by omega) (by omega) (by omega)) ?_ -- pc_ 74
      have hIx6_ : gi (sm_pI (sm_acI S_ 40 (0 + cc_) 40 (0 + cc_) (a2_ + 1).toNat a2_.toNat ((S_.1 2 cc_ 15) - a2_ - 1).toNat) 2 cc_ 15 ((S_.1 2 cc_ 15) - 1)) := gi_pI hIx3_ (show (-1) ≤ (S_.1 2 cc_ 15) - 1 ∧ (S_.1 2 cc_ 15) - 1 ≤ 1224 from ⟨by omega, by omega⟩)
      have hFx7_ : ai_fr (sx_W vw_182) S0_ (sm_pI (sm_acI S_ 40 (0 + cc_) 40 (0 + cc_) (a2_ + 1).toNat a2_.toNat ((S_.1 2 cc_ 15) - a2_ - 1).toNat) 2 cc_ 15 ((S_.1 2 cc_ 15) - 1)) := ai_fr_tr hFx4_ (ai_fr_pI rfl)
      have hCx8_ : cdf cc_ S0_ (sm_pI (sm_acI S_ 40 (0 + cc_) 40 (0 + cc_) (a2_ + 1).toNat a2_.toNat ((S_.1 2 cc_ 15) - a2_ - 1).toNat) 2 cc_ 15 ((S_.1 2 cc_ 15) - 1)) := cdf_pI hCx5_ (Or.inr (by rw [show cof 2 = 0 from rfl] <;> omega))
      refine sm_T_go 1 (c1 := (78, [some (.inr (.inr (some (9, 0)))), some (.inr (.inr (some (2, cc_)))), some (.inl a2_), some (.inl a3_), some (.inl f_)], [], sm_pI (sm_acI S_ 40 (0 + cc_) 40 (0 + cc_) (a2_ + 1).toNat a2_.toNat ((S_.1 2 cc_ 15) - a2_ - 1).toNat) 2 cc_ 15 ((S_.1 2 cc_ 15) - 1))) rfl ?_
      refine sm_T_rv rfl ⟨_, _, rfl, rfl, hIx6_, hFx7_, ?_⟩
      refine ⟨hCx8_, ?_⟩
      (rw [rf_eq]; omega)
    · have cx1_ : ¬ (a3_ ≤ f_) := of_decide_eq_false cx1_
      refine sm_T_go 4 (c1 := (16, [some (.inr (.inr (some (9, 0)))), some (.inr (.inr (some (2, cc_)))), some (.inl a2_), some (.inl a3_), some (.inl f_)], [.inl f_, .inr (.inr (some (97, 0))), .inl f_, .inr (.inr (some (97, 0)))], S_)) rfl ?_
      refine sm_T_iald (n := 1224) rfl rfl (by omega) (by omega) ?_
      have bx9_ : (-2147483648) ≤ S_.2.2.1 97 0 f_.toNat ∧ S_.2.2.1 97 0 f_.toNat ≤ 2147483647 := hI_.2 97 0 _
      refine sm_T_go 4 (c1 := (23, [some (.inr (.inr (some (9, 0)))), some (.inr (.inr (some (2, cc_)))), some (.inl a2_), some (.inl a3_), some (.inl f_)], [.inl a2_, .inr (.inr (some (40, (0 + cc_)))), .inr (.inr (some (9, 0))), .inl (S_.2.2.1 97 0 f_.toNat), .inl f_, .inr (.inr (some (97, 0)))], S_)) rfl ?_
      refine sm_T_iald (n := 1224) rfl rfl (by omega) (by omega) ?_
      have bx10_ : 0 ≤ S_.2.2.1 40 (0 + cc_) a2_.toNat ∧ S_.2.2.1 40 (0 + cc_) a2_.toNat ≤ 4095 := hI_.2 40 (0 + cc_) _
      refine sm_T_go 1 (c1 := (26, [some (.inr (.inr (some (9, 0)))), some (.inr (.inr (some (2, cc_)))), some (.inl a2_), some (.inl a3_), some (.inl f_)], [.inl f_, .inl (S_.2.2.1 40 (0 + cc_) a2_.toNat), .inr (.inr (some (9, 0))), .inl (S_.2.2.1 97 0 f_.toNat), .inl f_, .inr (.inr (some (97, 0)))], S_)) rfl ?_
      refine sm_T_cal (d1 := 0) (Q1 := vq_176 (S_.2.2.1 40 (0 + cc_) a2_.toNat) f_ S_) rfl rfl (by decide) (vc_176 (S_.2.2.1 40 (0 + cc_) a2_.toNat) f_ S_ hI_ (by omega) (by omega)) (fun u_ Sx11_ px14_ => ?_)
      obtain ⟨rfl, vx16_, rfl, px14_⟩ := px14_
      have i26_ := px14_
      refine sm_T_b0 (a := 0) (z := 7) rfl (fun cx17_ => ?_) (fun cx17_ => ?_)
      · have cx17_ : vx16_ = 0 := of_decide_eq_true cx17_
        refine sm_T_go 1 (c1 := (37, [some (.inr (.inr (some (9, 0)))), some (.inr (.inr (some (2, cc_)))), some (.inl a2_), some (.inl a3_), some (.inl f_)], [.inl 0, .inl (S_.2.2.1 97 0 f_.toNat), .inl f_, .inr (.inr (some (97, 0)))], S_)) rfl ?_
        refine sm_T_bin (w := (i_sub (S_.2.2.1 97 0 f_.toNat) 0)) rfl rfl ?_ -- pc_ 37
        have bx18_ := i_sub_r (S_.2.2.1 97 0 f_.toNat) 0
        refine sm_T_iast (n := 1224) rfl rfl (by omega) (by omega) ?_
        have hIx19_ : gi (sm_aI S_ 97 0 f_.toNat (i_sub (S_.2.2.1 97 0 f_.toNat) 0)) := gi_aI hI_ (show (-2147483648) ≤ (i_sub (S_.2.2.1 97 0 f_.toNat) 0) ∧ (i_sub (S_.2.2.1 97 0 f_.toNat) 0) ≤ 2147483647 from ⟨by omega, by omega⟩)
        have hFx20_ : ai_fr (sx_W vw_182) S0_ (sm_aI S_ 97 0 f_.toNat (i_sub (S_.2.2.1 97 0 f_.toNat) 0)) := ai_fr_tr hF_ (ai_fr_aI rfl)
        have hCx21_ : cdf cc_ S0_ (sm_aI S_ 97 0 f_.toNat (i_sub (S_.2.2.1 97 0 f_.toNat) 0)) := cdf_aI hC_ (Or.inl rfl)
        refine sm_T_inc (a := 4) (z := 1) (v := f_) (w := f_ + 1) rfl rfl (by omega) (by omega) (by omega) ?_ -- pc_ 39
        refine sm_T_go 1 (c1 := (3, [some (.inr (.inr (some (9, 0)))), some (.inr (.inr (some (2, cc_)))), some (.inl a2_), some (.inl a3_), some (.inl (f_ + 1))], [], sm_aI S_ 97 0 f_.toNat (i_sub (S_.2.2.1 97 0 f_.toNat) 0))) rfl ?_
        refine ih_ (f_ + 1) (sm_aI S_ 97 0 f_.toNat (i_sub (S_.2.2.1 97 0 f_.toNat) 0)) hIx19_ hFx20_ ⟨?_, ?_, ?_, trivial⟩ ?_
        · omega
        · exact h5_
        · exact hCx21_
        · omega
      · have cx17_ : ¬ (vx16_ = 0) := of_decide_eq_false cx17_
        refine sm_T_go 2 (c1 := (37, [some (.inr (.inr (some (9, 0)))), some (.inr (.inr (some (2, cc_)))), some (.inl a2_), some (.inl a3_), some (.inl f_)], [.inl 1, .inl (S_.2.2.1 97 0 f_.toNat), .inl f_, .inr (.inr (some (97, 0)))], S_)) rfl ?_
        refine sm_T_bin (w := (i_sub (S_.2.2.1 97 0 f_.toNat) 1)) rfl rfl ?_ -- pc_ 37
        have bx22_ := i_sub_r (S_.2.2.1 97 0 f_.toNat) 1
        refine sm_T_iast (n := 1224) rfl rfl (by omega) (by omega) ?_
        have hIx23_ : gi (sm_aI S_ 97 0 f_.toNat (i_sub (S_.2.2.1 97 0 f_.toNat) 1)) := gi_aI hI_ (show (-2147483648) ≤ (i_sub (S_.2.2.1 97 0 f_.toNat) 1) ∧ (i_sub (S_.2.2.1 97 0 f_.toNat) 1) ≤ 2147483647 from ⟨by omega, by omega⟩)
        have hFx24_ : ai_fr (sx_W vw_182) S0_ (sm_aI S_ 97 0 f_.toNat (i_sub (S_.2.2.1 97 0 f_.toNat) 1)) := ai_fr_tr hF_ (ai_fr_aI rfl)
        have hCx25_ : cdf cc_ S0_ (sm_aI S_ 97 0 f_.toNat (i_sub (S_.2.2.1 97 0 f_.toNat) 1)) := cdf_aI hC_ (Or.inl rfl)
        refine sm_T_inc (a := 4) (z := 1) (v := f_) (w := f_ + 1) rfl rfl (by omega) (by omega) (by omega) ?_ -- pc_ 39
        refine sm_T_go 1 (c1 := (3, [some (.inr (.inr (some (9, 0)))), some (.inr (.inr (some (2, cc_)))), some (.inl a2_), some (.inl a3_), some (.inl (f_ + 1))], [], sm_aI S_ 97 0 f_.toNat (i_sub (S_.2.2.1 97 0 f_.toNat) 1))) rfl ?_
        refine ih_ (f_ + 1) (sm_aI S_ 97 0 f_.toNat (i_sub (S_.2.2.1 97 0 f_.toNat) 1)) hIx23_ hFx24_ ⟨?_, ?_, ?_, trivial⟩ ?_
        · omega
        · exact h5_
        · exact hCx25_
        · omega
set_option maxHeartbeats 400000 in
theorem vc_182 {sc_ : Nat × (Nat → Int)} (a2_ : Int) (a3_ : Int) (cc_ : Nat) (S0_ : sm_S) (hI_ : gi S0_) (h3_ : 0 ≤ a3_ ∧ a3_ ≤ 1224) (h2_ : 0 ≤ a2_ ∧ a2_ < S0_.1 2 cc_ 15) : sm_T (mt_P sc_) 1 182 (0, [some (.inr (.inr (some (9, 0)))), some (.inr (.inr (some (2, cc_)))), some (.inl a2_), some (.inl a3_), none], [], S0_) (fun ro9_ => ∃ u_ S1_, ro9_ = (.inl u_, S1_, 0) ∧ vq_182 a2_ a3_ cc_ S0_ u_ S1_) := by
  have hF_ : ai_fr (sx_W vw_182) S0_ S0_ := ai_fr_rf
  have hC_ : cdf cc_ S0_ S0_ := cdf_rf
  have cz_ : (-1) ≤ S0_.1 2 cc_ 15 ∧ S0_.1 2 cc_ 15 ≤ 1224 := hI_.1 2 cc_ 15 rfl
  refine sm_T_go 2 (c1 := (3, [some (.inr (.inr (some (9, 0)))), some (.inr (.inr (some (2, cc_)))), some (.inl a2_), some (.inl a3_), some (.inl 0)], [], S0_)) rfl ?_
  refine (vl_182 a2_ a3_ cc_ S0_ h3_ h2_ _) 0 S0_ hI_ hF_ ⟨?_, ?_, ?_, trivial⟩ (Nat.lt_succ_self _)
  · omega
  · rfl
  · exact hC_
end
/-! 99.zl8i -/
section
/-! java/util/Arrays.fill -/
def vw_2f1 : sx_Wl := ([], [41], [])
def vq_2f1 (v0_ : Int) (cc_ : Nat) (S0_ : sm_S) (u_ : Option sm_V) (S1_ : sm_S) : Prop := u_ = none ∧ gi S1_ ∧ ai_fr (sx_W vw_2f1) S0_ S1_ ∧ (cdf cc_ S0_ S1_ ∧ (∀ j_, j_ < 1224 → S1_.2.2.1 41 (0 + cc_) j_ = v0_))
set_option maxHeartbeats 400000 in
theorem vl_2f1 {sc_ : Nat × (Nat → Int)} (v0_ : Int) (cc_ : Nat) (S0_ : sm_S) (hv_ : 0 ≤ v0_ ∧ v0_ ≤ 1) : ∀ nn_ : Nat, (∀ (k_ : Int) (S_ : sm_S), gi S_ → ai_fr (sx_W vw_2f1) S0_ S_ → ((0 ≤ k_ ∧ k_ ≤ 1224) ∧ (∀ j_, j_ < k_.toNat → S_.2.2.1 41 (0 + cc_) j_ = v0_) ∧ (cdf cc_ S0_ S_) ∧ True) → ((1224 - k_).toNat) < nn_ → sm_T (mt_P sc_) 0 2 (5, [some (.inr (.inr (some (41, (0 + cc_))))), some (.inl v0_), some (.inl k_), some (.inl 1224)], [], S_) (fun ro9_ => ∃ u_ S1_, ro9_ = (.inl u_, S1_, 0) ∧ vq_2f1 v0_ cc_ S0_ u_ S1_)) := by
  intro nn_
  induction nn_ with
  | zero => exact fun _ _ _ _ _ h_ => absurd h_ (Nat.not_lt_zero _)
  | succ nn_ ih_ =>
    rintro k_ S_ hI_ hF_ ⟨h0_, h1_, hC_, -⟩ hm_
    refine sm_T_go 2 (c1 := (7, [some (.inr (.inr (some (41, (0 + cc_))))), some (.inl v0_), some (.inl k_), some (.inl 1224)], [.inl 1224, .inl k_], S_)) rfl ?_
    refine sm_T_br (a := 3) (z := 13) rfl (fun cx1_ => ?_) (fun cx1_ => ?_)
    · have cx1_ : 1224 ≤ k_ := of_decide_eq_true cx1_
      refine sm_T_rv rfl ⟨_, _, rfl, rfl, hI_, hF_, ?_⟩
      refine ⟨hC_, ?_⟩
      exact fun j_ hj_ => h1_ j_ (by omega)
    · have cx1_ : ¬ (1224 ≤ k_) := of_decide_eq_false cx1_
      refine sm_T_go 3 (c1 := (13, [some (.inr (.inr (some (41, (0 + cc_))))), some (.inl v0_), some (.inl k_), some (.inl 1224)], [.inl v0_, .inl k_, .inr (.inr (some (41, (0 + cc_))))], S_)) rfl ?_
      refine sm_T_iast (n := 1224) rfl rfl (by omega) (by omega) ?_
      have hIx2_ : gi (sm_aI S_ 41 (0 + cc_) k_.toNat v0_) := gi_aI hI_ (show 0 ≤ v0_ ∧ v0_ ≤ 1 from ⟨by omega, by omega⟩)
      have hFx3_ : ai_fr (sx_W vw_2f1) S0_ (sm_aI S_ 41 (0 + cc_) k_.toNat v0_) := ai_fr_tr hF_ (ai_fr_aI rfl)
      have hCx4_ : cdf cc_ S0_ (sm_aI S_ 41 (0 + cc_) k_.toNat v0_) := cdf_aI hC_ (Or.inr (by rw [show cof 41 = 0 from rfl] <;> omega))
      refine sm_T_inc (a := 2) (z := 1) (v := k_) (w := k_ + 1) rfl rfl (by omega) (by omega) (by omega) ?_ -- pc_ 14
      refine sm_T_go 1 (c1 := (5, [some (.inr (.inr (some (41, (0 + cc_))))), some (.inl v0_), some (.inl (k_ + 1)), some (.inl 1224)], [], sm_aI S_ 41 (0 + cc_) k_.toNat v0_)) rfl ?_
      refine ih_ (k_ + 1) (sm_aI S_ 41 (0 + cc_) k_.toNat v0_) hIx2_ hFx3_ ⟨?_, ?_, ?_, trivial⟩ ?_
      · omega
      · intro j_ hj_
        rw [rd_eq]
        by_cases z_ : j_ = k_.toNat
        · rw [if_pos z_]
        · rw [if_neg z_]; exact h1_ j_ (by omega)
      · exact hCx4_
      · omega
set_option maxHeartbeats 400000 in
theorem vc_2f1 {sc_ : Nat × (Nat → Int)} (v0_ : Int) (cc_ : Nat) (S0_ : sm_S) (hI_ : gi S0_) (hv_ : 0 ≤ v0_ ∧ v0_ ≤ 1) : sm_T (mt_P sc_) 0 2 (0, [some (.inr (.inr (some (41, (0 + cc_))))), some (.inl v0_), none, none], [], S0_) (fun ro9_ => ∃ u_ S1_, ro9_ = (.inl u_, S1_, 0) ∧ vq_2f1 v0_ cc_ S0_ u_ S1_) := by
  have hF_ : ai_fr (sx_W vw_2f1) S0_ S0_ := ai_fr_rf
  have hC_ : cdf cc_ S0_ S0_ := cdf_rf
  refine sm_T_go 5 (c1 := (5, [some (.inr (.inr (some (41, (0 + cc_))))), some (.inl v0_), some (.inl 0), some (.inl 1224)], [], S0_)) rfl ?_
  refine (vl_2f1 v0_ cc_ S0_ hv_ _) 0 S0_ hI_ hF_ ⟨?_, ?_, ?_, trivial⟩ (Nat.lt_succ_self _)
  · omega
  · (intro j_ hj_; exact absurd hj_ (Nat.not_lt_zero _))
  · exact hC_
end
/-! 99.zl8j -/
section
/-! Tester.makeSet -/
def vw_179 : sx_Wl := ([(2, 15), (9, 1), (9, 2), (9, 3)], [40, 41, 92, 93, 94, 95, 96, 97], [(9, 0)])
def vq_179 (cc_ : Nat) (S0_ : sm_S) (u_ : Option sm_V) (S1_ : sm_S) : Prop := u_ = none ∧ gi S1_ ∧ ai_fr (sx_W vw_179) S0_ S1_ ∧ (cdf cc_ S0_ S1_ ∧ (shn S1_))
set_option maxHeartbeats 400000 in
theorem vl_179 {sc_ : Nat × (Nat → Int)} (cc_ : Nat) (S0_ : sm_S) (hs_ : S0_.1 2 cc_ 1 + S0_.1 2 cc_ 2 ≤ 12) (hn_ : shn S0_) : ∀ nn_ : Nat, (∀ (al_ : Int) (f_ : Int) (S_ : sm_S), gi S_ → ai_fr (sx_W vw_179) S0_ S_ → ((0 ≤ al_ ∧ al_ ≤ 1224 ∧ 0 ≤ f_ ∧ f_ ≤ al_) ∧ (0 ≤ S_.1 2 cc_ 15 ∧ S_.1 2 cc_ 15 ≤ f_) ∧ (shn S_) ∧ (cdf cc_ S0_ S_) ∧ True) → ((90000 - f_).toNat) < nn_ → sm_T (mt_P sc_) 6 179 (12, [some (.inr (.inr (some (9, 0)))), some (.inr (.inr (some (2, cc_)))), some (.inl al_), some (.inl f_), none], [], S_) (fun ro9_ => ∃ u_ S1_, ro9_ = (.inl u_, S1_, 0) ∧ vq_179 cc_ S0_ u_ S1_)) ∧ (∀ (al_ : Int) (f_ : Int) (S_ : sm_S), gi S_ → ai_fr (sx_W vw_179) S0_ S_ → ((0 ≤ al_ ∧ al_ ≤ 1224 ∧ 0 ≤ f_ ∧ f_ ≤ al_) ∧ (0 ≤ S_.1 2 cc_ 15 ∧ S_.1 2 cc_ 15 ≤ 1224) ∧ (shn S_) ∧ (cdf cc_ S0_ S_) ∧ True) → ((60000 - f_).toNat) < nn_ → sm_T (mt_P sc_) 6 179 (69, [some (.inr (.inr (some (9, 0)))), some (.inr (.inr (some (2, cc_)))), some (.inl al_), some (.inl f_), none], [], S_) (fun ro9_ => ∃ u_ S1_, ro9_ = (.inl u_, S1_, 0) ∧ vq_179 cc_ S0_ u_ S1_)) ∧ (∀ (al_ : Int) (k_ : Int) (S_ : sm_S), gi S_ → ai_fr (sx_W vw_179) S0_ S_ → ((0 ≤ al_ ∧ al_ ≤ 1224 ∧ -1 ≤ k_ ∧ k_ < S_.1 2 cc_ 15 ∧ S_.1 2 cc_ 15 ≤ 1224) ∧ (shn S_) ∧ (cdf cc_ S0_ S_) ∧ True) → ((k_ + 5).toNat) < nn_ → sm_T (mt_P sc_) 6 179 (99, [some (.inr (.inr (some (9, 0)))), some (.inr (.inr (some (2, cc_)))), some (.inl al_), some (.inl k_), none], [], S_) (fun ro9_ => ∃ u_ S1_, ro9_ = (.inl u_, S1_, 0) ∧ vq_179 cc_ S0_ u_ S1_)) := by
  intro nn_
  induction nn_ with
  | zero => exact ⟨fun _ _ _ _ _ _ h_ => absurd h_ (Nat.not_lt_zero _), fun _ _ _ _ _ _ h_ => absurd h_ (Nat.not_lt_zero _), fun _ _ _ _ _ _ h_ => absurd h_ (Nat.not_lt_zero _)⟩
  | succ nn_ ih_ =>
    refine ⟨?_, ?_, ?_⟩
    · rintro al_ f_ S_ hI_ hF_ ⟨h0_, h5_, hn1_, hC_, -⟩ hm_
      have z1_ : S_.1 2 cc_ 1 = S0_.1 2 cc_ 1 := hF_.1 2 cc_ 1 rfl
      have z2_ : S_.1 2 cc_ 2 = S0_.1 2 cc_ 2 := hF_.1 2 cc_ 2 rfl
      refine sm_T_go 2 (c1 := (14, [some (.inr (.inr (some (9, 0)))), some (.inr (.inr (some (2, cc_)))), some (.inl al_), some (.inl f_), none], [.inl al_, .inl f_], S_)) rfl ?_
      refine sm_T_br (a := 3) (z := 53) rfl (fun cx1_ => ?_) (fun cx1_ => ?_)
      · have cx1_ : al_ ≤ f_ := of_decide_eq_true cx1_
        refine sm_T_go 2 (c1 := (69, [some (.inr (.inr (some (9, 0)))), some (.inr (.inr (some (2, cc_)))), some (.inl al_), some (.inl 0), none], [], S_)) rfl ?_
        refine ih_.2.1 al_ 0 S_ hI_ hF_ ⟨?_, ?_, ?_, ?_, trivial⟩ ?_
        · omega
        · omega
        · exact hn1_
        · exact hC_
        · omega
      · have cx1_ : ¬ (al_ ≤ f_) := of_decide_eq_false cx1_
        refine sm_T_go 3 (c1 := (20, [some (.inr (.inr (some (9, 0)))), some (.inr (.inr (some (2, cc_)))), some (.inl al_), some (.inl f_), none], [.inl f_, .inr (.inr (some (2, cc_))), .inr (.inr (some (9, 0)))], S_)) rfl ?_
        refine sm_T_cal (d1 := 5) (Q1 := vq_177 f_ cc_ S_) rfl rfl (by decide) (vc_177 f_ cc_ S_ hI_ (by omega) (by omega) (by first | exact hn1_ | exact hn_)) (fun u_ Sx2_ px5_ => ?_)
        obtain ⟨vx7_, rfl, hIx3_, hFx4_, px5_⟩ := px5_
        have hFx6_ : ai_fr (sx_W vw_179) S0_ Sx2_ := ai_fr_tr hF_ (fr_le hFx4_ rfl)
        have hCx8_ : cdf cc_ S0_ Sx2_ := cdf_tr hC_ (cdf_fr hFx4_ rfl)
        have p20_ := px5_
        have s20_ := hFx4_.1 2 cc_ 15 rfl
        refine sm_T_go 3 (c1 := (28, [some (.inr (.inr (some (9, 0)))), some (.inr (.inr (some (2, cc_)))), some (.inl al_), some (.inl f_), some (.inl vx7_)], [.inl (-1), .inl vx7_], Sx2_)) rfl ?_
        refine sm_T_br (a := 0) (z := 33) rfl (fun cx9_ => ?_) (fun cx9_ => ?_)
        · have cx9_ : vx7_ = (-1) := of_decide_eq_true cx9_
          refine sm_T_inc (a := 3) (z := 1) (v := f_) (w := f_ + 1) rfl rfl (by omega) (by omega) (by omega) ?_ -- pc_ 61
          refine sm_T_go 1 (c1 := (12, [some (.inr (.inr (some (9, 0)))), some (.inr (.inr (some (2, cc_)))), some (.inl al_), some (.inl (f_ + 1)), some (.inl vx7_)], [], Sx2_)) rfl ?_
          refine sm_T_wk [some (.inr (.inr (some (9, 0)))), some (.inr (.inr (some (2, cc_)))), some (.inl al_), some (.inl (f_ + 1)), none] (by exact ⟨rfl, rfl, rfl, rfl, trivial⟩) ?_
          refine ih_.1 al_ (f_ + 1) Sx2_ hIx3_ hFx6_ ⟨?_, ?_, ?_, ?_, trivial⟩ ?_
          · omega
          · (first | omega | (rw [rf_eq]; omega))
          · exact p20_.2
          · exact hCx8_
          · omega
        · have cx9_ : ¬ (vx7_ = (-1)) := of_decide_eq_false cx9_
          refine sm_T_go 3 (c1 := (34, [some (.inr (.inr (some (9, 0)))), some (.inr (.inr (some (2, cc_)))), some (.inl al_), some (.inl f_), some (.inl vx7_)], [.inl f_, .inr (.inr (some (2, cc_))), .inr (.inr (some (9, 0)))], Sx2_)) rfl ?_
          refine sm_T_cal (d1 := 1) (Q1 := vq_180 f_ cc_ Sx2_) rfl rfl (by decide) (vc_180 f_ cc_ Sx2_ hIx3_ (by omega)) (fun u_ Sx10_ px13_ => ?_)
          obtain ⟨rfl, vx15_, rfl, px13_⟩ := px13_
          have q34_ := px13_
          refine sm_T_b0 (a := 1) (z := 24) rfl (fun cx16_ => ?_) (fun cx16_ => ?_)
          · have cx16_ : vx15_ ≠ 0 := of_decide_eq_true cx16_
            refine sm_T_inc (a := 3) (z := 1) (v := f_) (w := f_ + 1) rfl rfl (by omega) (by omega) (by omega) ?_ -- pc_ 61
            refine sm_T_go 1 (c1 := (12, [some (.inr (.inr (some (9, 0)))), some (.inr (.inr (some (2, cc_)))), some (.inl al_), some (.inl (f_ + 1)), some (.inl vx7_)], [], Sx2_)) rfl ?_
            refine sm_T_wk [some (.inr (.inr (some (9, 0)))), some (.inr (.inr (some (2, cc_)))), some (.inl al_), some (.inl (f_ + 1)), none] (by exact ⟨rfl, rfl, rfl, rfl, trivial⟩) ?_
            refine ih_.1 al_ (f_ + 1) Sx2_ hIx3_ hFx6_ ⟨?_, ?_, ?_, ?_, trivial⟩ ?_
            · omega
            · (first | omega | (rw [rf_eq]; omega))
            · exact p20_.2
            · exact hCx8_
            · omega
          · have cx16_ : ¬ (vx15_ ≠ 0) := of_decide_eq_false cx16_
            have bx17_ : (-1) ≤ Sx2_.1 2 cc_ 15 ∧ Sx2_.1 2 cc_ 15 ≤ 1224 := hIx3_.1 2 cc_ 15 rfl
            refine sm_T_go 5 (c1 := (50, [some (.inr (.inr (some (9, 0)))), some (.inr (.inr (some (2, cc_)))), some (.inl al_), some (.inl f_), some (.inl vx7_)], [.inl vx7_, .inl (Sx2_.1 2 cc_ 15), .inr (.inr (some (40, (0 + cc_))))], Sx2_)) rfl ?_
            refine sm_T_iast (n := 1224) rfl rfl (by omega) (by omega) ?_
            have hIx18_ : gi (sm_aI Sx2_ 40 (0 + cc_) (Sx2_.1 2 cc_ 15).toNat vx7_) := gi_aI hIx3_ (show 0 ≤ vx7_ ∧ vx7_ ≤ 4095 from ⟨by omega, by omega⟩)
            have hFx19_ : ai_fr (sx_W vw_179) S0_ (sm_aI Sx2_ 40 (0 + cc_) (Sx2_.1 2 cc_ 15).toNat vx7_) := ai_fr_tr hFx6_ (ai_fr_aI rfl)
            have hCx20_ : cdf cc_ S0_ (sm_aI Sx2_ 40 (0 + cc_) (Sx2_.1 2 cc_ 15).toNat vx7_) := cdf_aI hCx8_ (Or.inr (by rw [show cof 40 = 0 from rfl] <;> omega))
            refine sm_T_go 4 (c1 := (57, [some (.inr (.inr (some (9, 0)))), some (.inr (.inr (some (2, cc_)))), some (.inl al_), some (.inl f_), some (.inl vx7_)], [.inl 1, .inl (Sx2_.1 2 cc_ 15), .inr (.inr (some (2, cc_)))], sm_aI Sx2_ 40 (0 + cc_) (Sx2_.1 2 cc_ 15).toNat vx7_)) rfl ?_
            refine sm_T_bin (w := (Sx2_.1 2 cc_ 15) + 1) rfl (bi_add (by omega) (by omega) (by omega)) ?_ -- pc_ 57
            have hIx21_ : gi (sm_pI (sm_aI Sx2_ 40 (0 + cc_) (Sx2_.1 2 cc_ 15).toNat vx7_) 2 cc_ 15 ((Sx2_.1 2 cc_ 15) + 1)) := gi_pI hIx18_ (show (-1) ≤ (Sx2_.1 2 cc_ 15) + 1 ∧ (Sx2_.1 2 cc_ 15) + 1 ≤ 1224 from ⟨by omega, by omega⟩)
            have hFx22_ : ai_fr (sx_W vw_179) S0_ (sm_pI (sm_aI Sx2_ 40 (0 + cc_) (Sx2_.1 2 cc_ 15).toNat vx7_) 2 cc_ 15 ((Sx2_.1 2 cc_ 15) + 1)) := ai_fr_tr hFx19_ (ai_fr_pI rfl)
            have hCx23_ : cdf cc_ S0_ (sm_pI (sm_aI Sx2_ 40 (0 + cc_) (Sx2_.1 2 cc_ 15).toNat vx7_) 2 cc_ 15 ((Sx2_.1 2 cc_ 15) + 1)) := cdf_pI hCx20_ (Or.inr (by rw [show cof 2 = 0 from rfl] <;> omega))
            refine sm_T_go 1 (c1 := (61, [some (.inr (.inr (some (9, 0)))), some (.inr (.inr (some (2, cc_)))), some (.inl al_), some (.inl f_), some (.inl vx7_)], [], sm_pI (sm_aI Sx2_ 40 (0 + cc_) (Sx2_.1 2 cc_ 15).toNat vx7_) 2 cc_ 15 ((Sx2_.1 2 cc_ 15) + 1))) rfl ?_
            refine sm_T_inc (a := 3) (z := 1) (v := f_) (w := f_ + 1) rfl rfl (by omega) (by omega) (by omega) ?_ -- pc_ 61
            refine sm_T_go 1 (c1 := (12, [some (.inr (.inr (some (9, 0)))), some (.inr (.inr (some (2, cc_)))), some (.inl al_), some (.inl (f_ + 1)), some (.inl vx7_)], [], sm_pI (sm_aI Sx2_ 40 (0 + cc_) (Sx2_.1 2 cc_ 15).toNat vx7_) 2 cc_ 15 ((Sx2_.1 2 cc_ 15) + 1))) rfl ?_
            refine sm_T_wk [some (.inr (.inr (some (9, 0)))), some (.inr (.inr (some (2, cc_)))), some (.inl al_), some (.inl (f_ + 1)), none] (by exact ⟨rfl, rfl, rfl, rfl, trivial⟩) ?_
            refine ih_.1 al_ (f_ + 1) (sm_pI (sm_aI Sx2_ 40 (0 + cc_) (Sx2_.1 2 cc_ 15).toNat vx7_) 2 cc_ 15 ((Sx2_.1 2 cc_ 15) + 1)) hIx21_ hFx22_ ⟨?_, ?_, ?_, ?_, trivial⟩ ?_
            · omega
            · (first | omega | (rw [rf_eq]; omega))
            · exact p20_.2
            · exact hCx23_
            · omega
    · rintro al_ f_ S_ hI_ hF_ ⟨h0_, h5_, hn1_, hC_, -⟩ hm_
      have z1_ : S_.1 2 cc_ 1 = S0_.1 2 cc_ 1 := hF_.1 2 cc_ 1 rfl
      have z2_ : S_.1 2 cc_ 2 = S0_.1 2 cc_ 2 := hF_.1 2 cc_ 2 rfl
      refine sm_T_go 2 (c1 := (71, [some (.inr (.inr (some (9, 0)))), some (.inr (.inr (some (2, cc_)))), some (.inl al_), some (.inl f_), none], [.inl al_, .inl f_], S_)) rfl ?_
      refine sm_T_br (a := 3) (z := 21) rfl (fun cx1_ => ?_) (fun cx1_ => ?_)
      · have cx1_ : al_ ≤ f_ := of_decide_eq_true cx1_
        have bx2_ : (-1) ≤ S_.1 2 cc_ 15 ∧ S_.1 2 cc_ 15 ≤ 1224 := hI_.1 2 cc_ 15 rfl
        refine sm_T_go 3 (c1 := (97, [some (.inr (.inr (some (9, 0)))), some (.inr (.inr (some (2, cc_)))), some (.inl al_), some (.inl f_), none], [.inl 1, .inl (S_.1 2 cc_ 15)], S_)) rfl ?_
        refine sm_T_bin (w := (S_.1 2 cc_ 15) - 1) rfl (bi_sub (by omega) (by omega) (by omega)) ?_ -- pc_ 97
        refine sm_T_go 1 (c1 := (99, [some (.inr (.inr (some (9, 0)))), some (.inr (.inr (some (2, cc_)))), some (.inl al_), some (.inl ((S_.1 2 cc_ 15) - 1)), none], [], S_)) rfl ?_
        refine ih_.2.2 al_ ((S_.1 2 cc_ 15) - 1) S_ hI_ hF_ ⟨?_, ?_, ?_, trivial⟩ ?_
        · omega
        · exact hn1_
        · exact hC_
        · omega
      · have cx1_ : ¬ (al_ ≤ f_) := of_decide_eq_false cx1_
        refine sm_T_go 6 (c1 := (82, [some (.inr (.inr (some (9, 0)))), some (.inr (.inr (some (2, cc_)))), some (.inl al_), some (.inl f_), none], [.inl f_, .inr (.inr (some (2, cc_))), .inr (.inr (some (9, 0))), .inl f_, .inr (.inr (some (97, 0)))], S_)) rfl ?_
        refine sm_T_cal (d1 := 1) (Q1 := vq_180 f_ cc_ S_) rfl rfl (by decide) (vc_180 f_ cc_ S_ hI_ (by omega)) (fun u_ Sx3_ px6_ => ?_)
        obtain ⟨rfl, vx8_, rfl, px6_⟩ := px6_
        have q82_ := px6_
        refine sm_T_iast (n := 1224) rfl rfl (by omega) (by omega) ?_
        have hIx9_ : gi (sm_aI S_ 97 0 f_.toNat vx8_) := gi_aI hI_ (show (-2147483648) ≤ vx8_ ∧ vx8_ ≤ 2147483647 from ⟨by omega, by omega⟩)
        have hFx10_ : ai_fr (sx_W vw_179) S0_ (sm_aI S_ 97 0 f_.toNat vx8_) := ai_fr_tr hF_ (ai_fr_aI rfl)
        have hCx11_ : cdf cc_ S0_ (sm_aI S_ 97 0 f_.toNat vx8_) := cdf_aI hC_ (Or.inl rfl)
        refine sm_T_inc (a := 3) (z := 1) (v := f_) (w := f_ + 1) rfl rfl (by omega) (by omega) (by omega) ?_ -- pc_ 86
        refine sm_T_go 1 (c1 := (69, [some (.inr (.inr (some (9, 0)))), some (.inr (.inr (some (2, cc_)))), some (.inl al_), some (.inl (f_ + 1)), none], [], sm_aI S_ 97 0 f_.toNat vx8_)) rfl ?_
        refine ih_.2.1 al_ (f_ + 1) (sm_aI S_ 97 0 f_.toNat vx8_) hIx9_ hFx10_ ⟨?_, ?_, ?_, ?_, trivial⟩ ?_
        · omega
        · (simp only [rd_af]; omega)
        · exact hn1_
        · exact hCx11_
        · omega
    · rintro al_ k_ S_ hI_ hF_ ⟨h0_, hn1_, hC_, -⟩ hm_
      have z1_ : S_.1 2 cc_ 1 = S0_.1 2 cc_ 1 := hF_.1 2 cc_ 1 rfl
      have z2_ : S_.1 2 cc_ 2 = S0_.1 2 cc_ 2 := hF_.1 2 cc_ 2 rfl
      refine sm_T_go 1 (c1 := (100, [some (.inr (.inr (some (9, 0)))), some (.inr (.inr (some (2, cc_)))), some (.inl al_), some (.inl k_), none], [.inl k_], S_)) rfl ?_
      refine sm_T_b0 (a := 2) (z := 30) rfl (fun cx1_ => ?_) (fun cx1_ => ?_)
      · have cx1_ : k_ < 0 := of_decide_eq_true cx1_
        refine sm_T_go 3 (c1 := (135, [some (.inr (.inr (some (9, 0)))), some (.inr (.inr (some (2, cc_)))), some (.inl al_), some (.inl k_), none], [.inl 0, .inr (.inr (some (41, (0 + cc_))))], S_)) rfl ?_
        refine sm_T_cal (d1 := 0) (Q1 := vq_2f1 0 cc_ S_) rfl rfl (by decide) (vc_2f1 0 cc_ S_ hI_ (by decide)) (fun u_ Sx2_ px5_ => ?_)
        obtain ⟨rfl, hIx3_, hFx4_, px5_⟩ := px5_
        have hFx6_ : ai_fr (sx_W vw_179) S0_ Sx2_ := ai_fr_tr hF_ (fr_le hFx4_ rfl)
        obtain ⟨dx8_, px5_⟩ := px5_
        have hCx7_ : cdf cc_ S0_ Sx2_ := cdf_tr hC_ (cdf_cg (by omega) dx8_)
        have n135_ := shn_fr hn1_ hFx4_
        refine sm_T_rv rfl ⟨_, _, rfl, rfl, hIx3_, hFx6_, ?_⟩
        refine ⟨hCx7_, ?_⟩
        exact n135_
      · have cx1_ : ¬ (k_ < 0) := of_decide_eq_false cx1_
        refine sm_T_go 4 (c1 := (109, [some (.inr (.inr (some (9, 0)))), some (.inr (.inr (some (2, cc_)))), some (.inl al_), some (.inl k_), none], [.inl k_, .inr (.inr (some (40, (0 + cc_)))), .inr (.inr (some (9, 0)))], S_)) rfl ?_
        refine sm_T_iald (n := 1224) rfl rfl (by omega) (by omega) ?_
        have bx9_ : 0 ≤ S_.2.2.1 40 (0 + cc_) k_.toNat ∧ S_.2.2.1 40 (0 + cc_) k_.toNat ≤ 4095 := hI_.2 40 (0 + cc_) _
        refine sm_T_go 1 (c1 := (111, [some (.inr (.inr (some (9, 0)))), some (.inr (.inr (some (2, cc_)))), some (.inl al_), some (.inl k_), none], [.inl al_, .inl (S_.2.2.1 40 (0 + cc_) k_.toNat), .inr (.inr (some (9, 0)))], S_)) rfl ?_
        refine sm_T_cal (d1 := 1) (Q1 := vq_181 (S_.2.2.1 40 (0 + cc_) k_.toNat) al_ S_) rfl rfl (by decide) (vc_181 (S_.2.2.1 40 (0 + cc_) k_.toNat) al_ S_ hI_ (by omega) (by omega)) (fun u_ Sx10_ px13_ => ?_)
        obtain ⟨rfl, vx15_, rfl, px13_⟩ := px13_
        have i111_ := px13_
        refine sm_T_b0 (a := 0) (z := 10) rfl (fun cx16_ => ?_) (fun cx16_ => ?_)
        · have cx16_ : vx15_ = 0 := of_decide_eq_true cx16_
          refine sm_T_inc (a := 3) (z := (-1)) (v := k_) (w := k_ - 1) rfl rfl (by omega) (by omega) (by omega) ?_ -- pc_ 124
          refine sm_T_go 1 (c1 := (99, [some (.inr (.inr (some (9, 0)))), some (.inr (.inr (some (2, cc_)))), some (.inl al_), some (.inl (k_ - 1)), none], [], S_)) rfl ?_
          refine ih_.2.2 al_ (k_ - 1) S_ hI_ hF_ ⟨?_, ?_, ?_, trivial⟩ ?_
          · omega
          · first | exact hn1_ | exact n121_
          · exact hC_
          · omega
        · have cx16_ : ¬ (vx15_ = 0) := of_decide_eq_false cx16_
          refine sm_T_go 4 (c1 := (121, [some (.inr (.inr (some (9, 0)))), some (.inr (.inr (some (2, cc_)))), some (.inl al_), some (.inl k_), none], [.inl al_, .inl k_, .inr (.inr (some (2, cc_))), .inr (.inr (some (9, 0)))], S_)) rfl ?_
          refine sm_T_cal (d1 := 1) (Q1 := vq_182 k_ al_ cc_ S_) rfl rfl (by decide) (vc_182 k_ al_ cc_ S_ hI_ (by omega) (by omega)) (fun u_ Sx17_ px20_ => ?_)
          obtain ⟨rfl, hIx18_, hFx19_, px20_⟩ := px20_
          have hFx21_ : ai_fr (sx_W vw_179) S0_ Sx17_ := ai_fr_tr hF_ (fr_le hFx19_ rfl)
          obtain ⟨dx23_, px20_⟩ := px20_
          have hCx22_ : cdf cc_ S0_ Sx17_ := cdf_tr hC_ (cdf_cg (by omega) dx23_)
          have r121_ := px20_
          have n121_ := shn_fr hn1_ hFx19_
          refine sm_T_inc (a := 3) (z := (-1)) (v := k_) (w := k_ - 1) rfl rfl (by omega) (by omega) (by omega) ?_ -- pc_ 124
          refine sm_T_go 1 (c1 := (99, [some (.inr (.inr (some (9, 0)))), some (.inr (.inr (some (2, cc_)))), some (.inl al_), some (.inl (k_ - 1)), none], [], Sx17_)) rfl ?_
          refine ih_.2.2 al_ (k_ - 1) Sx17_ hIx18_ hFx21_ ⟨?_, ?_, ?_, trivial⟩ ?_
          · omega
          · first | exact hn1_ | exact n121_
          · exact hCx22_
          · omega
set_option maxHeartbeats 400000 in
theorem vc_179 {sc_ : Nat × (Nat → Int)} (cc_ : Nat) (S0_ : sm_S) (hI_ : gi S0_) (hs_ : S0_.1 2 cc_ 1 + S0_.1 2 cc_ 2 ≤ 12) (hn_ : shn S0_) : sm_T (mt_P sc_) 6 179 (0, [some (.inr (.inr (some (9, 0)))), some (.inr (.inr (some (2, cc_)))), none, none, none], [], S0_) (fun ro9_ => ∃ u_ S1_, ro9_ = (.inl u_, S1_, 0) ∧ vq_179 cc_ S0_ u_ S1_) := by
  have hF_ : ai_fr (sx_W vw_179) S0_ S0_ := ai_fr_rf
  have hC_ : cdf cc_ S0_ S0_ := cdf_rf
  have hIx1_ : gi (sm_pI S0_ 2 cc_ 15 0) := gi_pI hI_ (show (-1) ≤ 0 ∧ 0 ≤ 1224 from ⟨by omega, by omega⟩)
  have hFx2_ : ai_fr (sx_W vw_179) S0_ (sm_pI S0_ 2 cc_ 15 0) := ai_fr_tr hF_ (ai_fr_pI rfl)
  have hCx3_ : cdf cc_ S0_ (sm_pI S0_ 2 cc_ 15 0) := cdf_pI hC_ (Or.inr (by rw [show cof 2 = 0 from rfl] <;> omega))
  refine sm_T_go 4 (c1 := (6, [some (.inr (.inr (some (9, 0)))), some (.inr (.inr (some (2, cc_)))), none, none, none], [.inr (.inr (some (2, cc_)))], sm_pI S0_ 2 cc_ 15 0)) rfl ?_
  refine sm_T_cal (d1 := 1) (Q1 := vq_62 cc_ (sm_pI S0_ 2 cc_ 15 0)) rfl rfl (by decide) (vc_62 cc_ (sm_pI S0_ 2 cc_ 15 0) hIx1_ (by (simp only [rf_nk, ne_eq, Nat.reduceEqDiff, not_false_eq_true]; exact hs_))) (fun u_ Sx4_ px7_ => ?_)
  obtain ⟨rfl, vx9_, rfl, px7_⟩ := px7_
  have fc6_ := px7_
  refine sm_T_go 3 (c1 := (12, [some (.inr (.inr (some (9, 0)))), some (.inr (.inr (some (2, cc_)))), some (.inl vx9_), some (.inl 0), none], [], sm_pI S0_ 2 cc_ 15 0)) rfl ?_
  refine (vl_179 cc_ S0_ hs_ hn_ _).1 vx9_ 0 (sm_pI S0_ 2 cc_ 15 0) hIx1_ hFx2_ ⟨?_, ?_, ?_, ?_, trivial⟩ (Nat.lt_succ_self _)
  · omega
  · (rw [rf_eq]; omega)
  · exact hn_
  · exact hCx3_
end
/-! 99.zl9a -/
section
/-! a chip plays; written by wip/p55/gen/vg -/

/-! a_ chip's table -/
def ctb (cc_ : Nat) (S_ : sm_S) : Prop := ∀ p_ : Nat, p_ < 4096 → 0 ≤ S_.2.2.1 34 (0 + cc_) p_ ∧ S_.2.2.1 34 (0 + cc_) p_ < 2 ^ (16 + (S_.1 2 cc_ 2).toNat)
/-! java/util/Arrays.fill -/
def vw_2c4 : sx_Wl := ([], [34], [])
def vq_2c4 (v0_ : Int) (cc_ : Nat) (S0_ : sm_S) (u_ : Option sm_V) (S1_ : sm_S) : Prop := u_ = none ∧ gi S1_ ∧ ai_fr (sx_W vw_2c4) S0_ S1_ ∧ (cdf cc_ S0_ S1_ ∧ (∀ j_, j_ < 4096 → S1_.2.2.1 34 (0 + cc_) j_ = v0_))
set_option maxHeartbeats 400000 in
theorem vl_2c4 {sc_ : Nat × (Nat → Int)} (v0_ : Int) (cc_ : Nat) (S0_ : sm_S) (hv_ : 0 ≤ v0_ ∧ v0_ ≤ 4194303) : ∀ nn_ : Nat, (∀ (k_ : Int) (S_ : sm_S), gi S_ → ai_fr (sx_W vw_2c4) S0_ S_ → ((0 ≤ k_ ∧ k_ ≤ 4096) ∧ (∀ j_, j_ < k_.toNat → S_.2.2.1 34 (0 + cc_) j_ = v0_) ∧ (cdf cc_ S0_ S_) ∧ True) → ((4096 - k_).toNat) < nn_ → sm_T (mt_P sc_) 0 2 (5, [some (.inr (.inr (some (34, (0 + cc_))))), some (.inl v0_), some (.inl k_), some (.inl 4096)], [], S_) (fun ro9_ => ∃ u_ S1_, ro9_ = (.inl u_, S1_, 0) ∧ vq_2c4 v0_ cc_ S0_ u_ S1_)) := by
  intro nn_
  induction nn_ with
  | zero => exact fun _ _ _ _ _ h_ => absurd h_ (Nat.not_lt_zero _)
  | succ nn_ ih_ =>
    rintro k_ S_ hI_ hF_ ⟨h0_, h1_, hC_, -⟩ hm_
    refine sm_T_go 2 (c1 := (7, [some (.inr (.inr (some (34, (0 + cc_))))), some (.inl v0_), some (.inl k_), some (.inl 4096)], [.inl 4096, .inl k_], S_)) rfl ?_
    refine sm_T_br (a := 3) (z := 13) rfl (fun cx1_ => ?_) (fun cx1_ => ?_)
    · have cx1_ : 4096 ≤ k_ := of_decide_eq_true cx1_
      refine sm_T_rv rfl ⟨_, _, rfl, rfl, hI_, hF_, ?_⟩
      refine ⟨hC_, ?_⟩
      exact fun j_ hj_ => h1_ j_ (by omega)
    · have cx1_ : ¬ (4096 ≤ k_) := of_decide_eq_false cx1_
      refine sm_T_go 3 (c1 := (13, [some (.inr (.inr (some (34, (0 + cc_))))), some (.inl v0_), some (.inl k_), some (.inl 4096)], [.inl v0_, .inl k_, .inr (.inr (some (34, (0 + cc_))))], S_)) rfl ?_
      refine sm_T_iast (n := 4096) rfl rfl (by omega) (by omega) ?_
      have hIx2_ : gi (sm_aI S_ 34 (0 + cc_) k_.toNat v0_) := gi_aI hI_ (show 0 ≤ v0_ ∧ v0_ ≤ 4194303 from ⟨by omega, by omega⟩)
      have hFx3_ : ai_fr (sx_W vw_2c4) S0_ (sm_aI S_ 34 (0 + cc_) k_.toNat v0_) := ai_fr_tr hF_ (ai_fr_aI rfl)
      have hCx4_ : cdf cc_ S0_ (sm_aI S_ 34 (0 + cc_) k_.toNat v0_) := cdf_aI hC_ (Or.inr (by rw [show cof 34 = 0 from rfl] <;> omega))
      refine sm_T_inc (a := 2) (z := 1) (v := k_) (w := k_ + 1) rfl rfl (by omega) (by omega) (by omega) ?_ -- pc_ 14
      refine sm_T_go 1 (c1 := (5, [some (.inr (.inr (some (34, (0 + cc_))))), some (.inl v0_), some (.inl (k_ + 1)), some (.inl 4096)], [], sm_aI S_ 34 (0 + cc_) k_.toNat v0_)) rfl ?_
      refine ih_ (k_ + 1) (sm_aI S_ 34 (0 + cc_) k_.toNat v0_) hIx2_ hFx3_ ⟨?_, ?_, ?_, trivial⟩ ?_
      · omega
      · intro j_ hj_
        rw [rd_eq]
        by_cases z_ : j_ = k_.toNat
        · rw [if_pos z_]
        · rw [if_neg z_]; exact h1_ j_ (by omega)
      · exact hCx4_
      · omega
set_option maxHeartbeats 400000 in
theorem vc_2c4 {sc_ : Nat × (Nat → Int)} (v0_ : Int) (cc_ : Nat) (S0_ : sm_S) (hI_ : gi S0_) (hv_ : 0 ≤ v0_ ∧ v0_ ≤ 4194303) : sm_T (mt_P sc_) 0 2 (0, [some (.inr (.inr (some (34, (0 + cc_))))), some (.inl v0_), none, none], [], S0_) (fun ro9_ => ∃ u_ S1_, ro9_ = (.inl u_, S1_, 0) ∧ vq_2c4 v0_ cc_ S0_ u_ S1_) := by
  have hF_ : ai_fr (sx_W vw_2c4) S0_ S0_ := ai_fr_rf
  have hC_ : cdf cc_ S0_ S0_ := cdf_rf
  refine sm_T_go 5 (c1 := (5, [some (.inr (.inr (some (34, (0 + cc_))))), some (.inl v0_), some (.inl 0), some (.inl 4096)], [], S0_)) rfl ?_
  refine (vl_2c4 v0_ cc_ S0_ hv_ _) 0 S0_ hI_ hF_ ⟨?_, ?_, ?_, trivial⟩ (Nat.lt_succ_self _)
  · omega
  · (intro j_ hj_; exact absurd hj_ (Nat.not_lt_zero _))
  · exact hC_
end
/-! 99.zl9b -/
section
/-! Tester.fillTable -/
def vw_169 : sx_Wl := ([(9, 1), (9, 2), (9, 3)], [34, 92, 93, 94, 96], [(9, 0)])
def vq_169 (cc_ : Nat) (S0_ : sm_S) (u_ : Option sm_V) (S1_ : sm_S) : Prop := u_ = none ∧ gi S1_ ∧ ai_fr (sx_W vw_169) S0_ S1_ ∧ (cdf cc_ S0_ S1_ ∧ (ctb cc_ S1_))
set_option maxHeartbeats 2000000 in
theorem vl_169 {sc_ : Nat × (Nat → Int)} (cc_ : Nat) (S0_ : sm_S) (hs_ : S0_.1 2 cc_ 1 + S0_.1 2 cc_ 2 ≤ 12) : ∀ nn_ : Nat, (∀ (pt_ : Int) (e_ : Int) (S_ : sm_S), gi S_ → ai_fr (sx_W vw_169) S0_ S_ → ((0 ≤ e_ ∧ e_ ≤ 22 ∧ 0 ≤ pt_ ∧ pt_ ≤ 4096) ∧ (∀ p9_ : Nat, p9_ < 4096 → 0 ≤ S_.2.2.1 34 (0 + cc_) p9_ ∧ S_.2.2.1 34 (0 + cc_) p9_ < 2 ^ (16 + (S0_.1 2 cc_ 2).toNat)) ∧ (cdf cc_ S0_ S_) ∧ True) → ((10000 * (100 - e_) + 9000).toNat) < nn_ → sm_T (mt_P sc_) 4 169 (22, [some (.inr (.inr (some (9, 0)))), some (.inr (.inr (some (2, cc_)))), some (.inl pt_), some (.inl e_), none, none, none, none], [], S_) (fun ro9_ => ∃ u_ S1_, ro9_ = (.inl u_, S1_, 0) ∧ vq_169 cc_ S0_ u_ S1_)) ∧ (∀ (pt_ : Int) (e_ : Int) (nt_ : Int) (sh_ : Int) (p_ : Int) (S_ : sm_S), gi S_ → ai_fr (sx_W vw_169) S0_ S_ → ((0 ≤ e_ ∧ e_ < 22 ∧ 0 ≤ pt_ ∧ pt_ ≤ 4096 ∧ 0 ≤ p_ ∧ p_ ≤ pt_ ∧ -2 ≤ nt_ ∧ nt_ ≤ 161 ∧ 0 ≤ sh_ ∧ sh_ < 16 + S0_.1 2 cc_ 2) ∧ (∀ p9_ : Nat, p9_ < 4096 → 0 ≤ S_.2.2.1 34 (0 + cc_) p9_ ∧ S_.2.2.1 34 (0 + cc_) p9_ < 2 ^ (16 + (S0_.1 2 cc_ 2).toNat)) ∧ (cdf cc_ S0_ S_) ∧ True) → ((10000 * (100 - e_) + 8000 - p_).toNat) < nn_ → sm_T (mt_P sc_) 4 169 (63, [some (.inr (.inr (some (9, 0)))), some (.inr (.inr (some (2, cc_)))), some (.inl pt_), some (.inl e_), some (.inl nt_), some (.inl sh_), some (.inl p_), none], [], S_) (fun ro9_ => ∃ u_ S1_, ro9_ = (.inl u_, S1_, 0) ∧ vq_169 cc_ S0_ u_ S1_)) := by
  intro nn_
  induction nn_ with
  | zero => exact ⟨fun _ _ _ _ _ _ h_ => absurd h_ (Nat.not_lt_zero _), fun _ _ _ _ _ _ _ _ _ h_ => absurd h_ (Nat.not_lt_zero _)⟩
  | succ nn_ ih_ =>
    refine ⟨?_, ?_⟩
    · rintro pt_ e_ S_ hI_ hF_ ⟨h0_, ht_, hC_, -⟩ hm_
      have z1_ : S_.1 2 cc_ 1 = S0_.1 2 cc_ 1 := hF_.1 2 cc_ 1 rfl
      have z2_ : S_.1 2 cc_ 2 = S0_.1 2 cc_ 2 := hF_.1 2 cc_ 2 rfl
      have z3_ : S_.1 2 cc_ 3 = S0_.1 2 cc_ 3 := hF_.1 2 cc_ 3 rfl
      have co_ : 0 ≤ S_.1 2 cc_ 3 ∧ S_.1 2 cc_ 3 ≤ 16 := hI_.1 2 cc_ 3 rfl
      have cr : 0 ≤ S_.1 2 cc_ 2 ∧ S_.1 2 cc_ 2 ≤ 6 := hI_.1 2 cc_ 2 rfl
      have ci_ : 0 ≤ S_.1 2 cc_ 1 ∧ S_.1 2 cc_ 1 ≤ 12 := hI_.1 2 cc_ 1 rfl
      have pw9_ := pw_le (n := 16 + (S0_.1 2 cc_ 2).toNat) (m := 22) (by omega)
      refine sm_T_go 2 (c1 := (24, [some (.inr (.inr (some (9, 0)))), some (.inr (.inr (some (2, cc_)))), some (.inl pt_), some (.inl e_), none, none, none, none], [.inr (.inr (some (2, cc_))), .inl e_], S_)) rfl ?_
      refine sm_T_cal (d1 := 0) (Q1 := vq_57 cc_ S_) rfl rfl (by decide) (vc_57 cc_ S_ hI_ ) (fun u_ Sx1_ px4_ => ?_)
      obtain ⟨rfl, vx6_, rfl, px4_⟩ := px4_
      have g24_ := px4_
      refine sm_T_br (a := 3) (z := 108) rfl (fun cx7_ => ?_) (fun cx7_ => ?_)
      · have cx7_ : vx6_ ≤ e_ := of_decide_eq_true cx7_
        refine sm_T_rv rfl ⟨_, _, rfl, rfl, hI_, hF_, ?_⟩
        refine ⟨hC_, ?_⟩
        intro p9_ hp9_
        rw [z2_]
        exact ht_ p9_ hp9_
      · have cx7_ : ¬ (vx6_ ≤ e_) := of_decide_eq_false cx7_
        refine sm_T_go 2 (c1 := (32, [some (.inr (.inr (some (9, 0)))), some (.inr (.inr (some (2, cc_)))), some (.inl pt_), some (.inl e_), none, none, none, none], [.inl e_, .inr (.inr (some (2, cc_)))], S_)) rfl ?_
        refine sm_T_cal (d1 := 0) (Q1 := vq_58 e_ cc_ S_) rfl rfl (by decide) (vc_58 e_ cc_ S_ hI_ (by omega)) (fun u_ Sx8_ px11_ => ?_)
        obtain ⟨rfl, vx13_, rfl, px11_⟩ := px11_
        have g32_ := px11_
        have bx14_ : 0 ≤ S_.1 2 cc_ 3 ∧ S_.1 2 cc_ 3 ≤ 16 := hI_.1 2 cc_ 3 rfl
        refine sm_T_go 4 (c1 := (42, [some (.inr (.inr (some (9, 0)))), some (.inr (.inr (some (2, cc_)))), some (.inl pt_), some (.inl e_), some (.inl vx13_), none, none, none], [.inl (S_.1 2 cc_ 3), .inl e_], S_)) rfl ?_
        refine sm_T_br (a := 3) (z := 7) rfl (fun cx15_ => ?_) (fun cx15_ => ?_)
        · have cx15_ : (S_.1 2 cc_ 3) ≤ e_ := of_decide_eq_true cx15_
          refine sm_T_go 2 (c1 := (52, [some (.inr (.inr (some (9, 0)))), some (.inr (.inr (some (2, cc_)))), some (.inl pt_), some (.inl e_), some (.inl vx13_), none, none, none], [.inl e_, .inl 16], S_)) rfl ?_
          refine sm_T_bin (w := e_ + 16) rfl (bi_add (by omega) (by omega) (by omega)) ?_ -- pc_ 52
          refine sm_T_go 2 (c1 := (57, [some (.inr (.inr (some (9, 0)))), some (.inr (.inr (some (2, cc_)))), some (.inl pt_), some (.inl e_), some (.inl vx13_), none, none, none], [.inl (S_.1 2 cc_ 3), .inl (e_ + 16)], S_)) rfl ?_
          refine sm_T_bin (w := e_ - (S_.1 2 cc_ 3) + 16) rfl (bi_sub (by omega) (by omega) (by omega)) ?_ -- pc_ 57
          refine sm_T_go 3 (c1 := (63, [some (.inr (.inr (some (9, 0)))), some (.inr (.inr (some (2, cc_)))), some (.inl pt_), some (.inl e_), some (.inl vx13_), some (.inl (e_ - (S_.1 2 cc_ 3) + 16)), some (.inl 0), none], [], S_)) rfl ?_
          refine ih_.2 pt_ e_ vx13_ (e_ - (S_.1 2 cc_ 3) + 16) 0 S_ hI_ hF_ ⟨?_, ?_, ?_, trivial⟩ ?_
          · omega
          · exact ht_
          · exact hC_
          · omega
        · have cx15_ : ¬ ((S_.1 2 cc_ 3) ≤ e_) := of_decide_eq_false cx15_
          refine sm_T_go 5 (c1 := (63, [some (.inr (.inr (some (9, 0)))), some (.inr (.inr (some (2, cc_)))), some (.inl pt_), some (.inl e_), some (.inl vx13_), some (.inl e_), some (.inl 0), none], [], S_)) rfl ?_
          refine ih_.2 pt_ e_ vx13_ e_ 0 S_ hI_ hF_ ⟨?_, ?_, ?_, trivial⟩ ?_
          · omega
          · exact ht_
          · exact hC_
          · omega
    · rintro pt_ e_ nt_ sh_ p_ S_ hI_ hF_ ⟨h0_, ht_, hC_, -⟩ hm_
      have z1_ : S_.1 2 cc_ 1 = S0_.1 2 cc_ 1 := hF_.1 2 cc_ 1 rfl
      have z2_ : S_.1 2 cc_ 2 = S0_.1 2 cc_ 2 := hF_.1 2 cc_ 2 rfl
      have z3_ : S_.1 2 cc_ 3 = S0_.1 2 cc_ 3 := hF_.1 2 cc_ 3 rfl
      have co_ : 0 ≤ S_.1 2 cc_ 3 ∧ S_.1 2 cc_ 3 ≤ 16 := hI_.1 2 cc_ 3 rfl
      have cr : 0 ≤ S_.1 2 cc_ 2 ∧ S_.1 2 cc_ 2 ≤ 6 := hI_.1 2 cc_ 2 rfl
      have ci_ : 0 ≤ S_.1 2 cc_ 1 ∧ S_.1 2 cc_ 1 ≤ 12 := hI_.1 2 cc_ 1 rfl
      have pw9_ := pw_le (n := 16 + (S0_.1 2 cc_ 2).toNat) (m := 22) (by omega)
      refine sm_T_go 2 (c1 := (66, [some (.inr (.inr (some (9, 0)))), some (.inr (.inr (some (2, cc_)))), some (.inl pt_), some (.inl e_), some (.inl nt_), some (.inl sh_), some (.inl p_), none], [.inl pt_, .inl p_], S_)) rfl ?_
      refine sm_T_br (a := 3) (z := 63) rfl (fun cx1_ => ?_) (fun cx1_ => ?_)
      · have cx1_ : pt_ ≤ p_ := of_decide_eq_true cx1_
        refine sm_T_inc (a := 3) (z := 1) (v := e_) (w := e_ + 1) rfl rfl (by omega) (by omega) (by omega) ?_ -- pc_ 129
        refine sm_T_go 1 (c1 := (22, [some (.inr (.inr (some (9, 0)))), some (.inr (.inr (some (2, cc_)))), some (.inl pt_), some (.inl (e_ + 1)), some (.inl nt_), some (.inl sh_), some (.inl p_), none], [], S_)) rfl ?_
        refine sm_T_wk [some (.inr (.inr (some (9, 0)))), some (.inr (.inr (some (2, cc_)))), some (.inl pt_), some (.inl (e_ + 1)), none, none, none, none] (by exact ⟨rfl, rfl, rfl, rfl, trivial⟩) ?_
        refine ih_.1 pt_ (e_ + 1) S_ hI_ hF_ ⟨?_, ?_, ?_, trivial⟩ ?_
        · omega
        · exact ht_
        · exact hC_
        · omega
      · have cx1_ : ¬ (pt_ ≤ p_) := of_decide_eq_false cx1_
        refine sm_T_go 1 (c1 := (71, [some (.inr (.inr (some (9, 0)))), some (.inr (.inr (some (2, cc_)))), some (.inl pt_), some (.inl e_), some (.inl nt_), some (.inl sh_), some (.inl p_), none], [.inl nt_], S_)) rfl ?_
        refine sm_T_b0 (a := 3) (z := 10) rfl (fun cx2_ => ?_) (fun cx2_ => ?_)
        · have cx2_ : 0 ≤ nt_ := of_decide_eq_true cx2_
          have bt9_ := l_bit (x_ := l_s1 (S_.2.2.2 92 0 (64 * nt_ + p_ / 64).toNat) (p_ % 64))
          have bs9_ := bsh (k_ := 16 + (S0_.1 2 cc_ 2).toNat) bt9_ (show 0 ≤ sh_ by omega) (by omega) (by omega)
          have or9_ := i_orp (x_ := S_.2.2.1 34 (0 + cc_) p_.toNat) (k_ := 16 + (S0_.1 2 cc_ 2).toNat) (by omega) (ht_ p_.toNat (by omega)) bs9_
          refine sm_T_go 4 (c1 := (89, [some (.inr (.inr (some (9, 0)))), some (.inr (.inr (some (2, cc_)))), some (.inl pt_), some (.inl e_), some (.inl nt_), some (.inl sh_), some (.inl p_), none], [.inl 64, .inl nt_, .inr (.inr (some (92, 0)))], S_)) rfl ?_
          refine sm_T_bin (w := 64 * nt_) rfl (bi_mul (by omega) (by omega) (by omega)) ?_ -- pc_ 89
          refine sm_T_go 2 (c1 := (94, [some (.inr (.inr (some (9, 0)))), some (.inr (.inr (some (2, cc_)))), some (.inl pt_), some (.inl e_), some (.inl nt_), some (.inl sh_), some (.inl p_), none], [.inl 6, .inl p_, .inl (64 * nt_), .inr (.inr (some (92, 0)))], S_)) rfl ?_
          refine sm_T_bin (w := (p_ / 64)) rfl (bi_shr (k := 6) (by decide) (by omega) (by omega)) ?_ -- pc_ 94
          refine sm_T_bin (w := 64 * nt_ + (p_ / 64)) rfl (bi_add (by omega) (by omega) (by omega)) ?_ -- pc_ 95
          refine sm_T_lald (n := 10368) rfl rfl (by omega) (by omega) ?_
          refine sm_T_go 2 (c1 := (101, [some (.inr (.inr (some (9, 0)))), some (.inr (.inr (some (2, cc_)))), some (.inl pt_), some (.inl e_), some (.inl nt_), some (.inl sh_), some (.inl p_), none], [.inl 63, .inl p_, .inr (.inl (S_.2.2.2 92 0 (64 * nt_ + (p_ / 64)).toNat))], S_)) rfl ?_
          refine sm_T_bin (w := (p_ % 64)) rfl (bi_msk (k := 6) (by decide)) ?_ -- pc_ 101
          have bx3_ := l_l2i_n ((l_3 ((l_s1 ((S_.2.2.2 92 0 (64 * nt_ + (p_ / 64)).toNat)) (p_ % 64))) 1))
          refine sm_T_go 9 (c1 := (115, [some (.inr (.inr (some (9, 0)))), some (.inr (.inr (some (2, cc_)))), some (.inl pt_), some (.inl e_), some (.inl nt_), some (.inl sh_), some (.inl p_), some (.inl (l_l2i ((l_3 ((l_s1 ((S_.2.2.2 92 0 (64 * nt_ + (p_ / 64)).toNat)) (p_ % 64))) 1))))], [.inl p_, .inr (.inr (some (34, (0 + cc_)))), .inl p_, .inr (.inr (some (34, (0 + cc_))))], S_)) rfl ?_
          refine sm_T_iald (n := 4096) rfl rfl (by omega) (by omega) ?_
          have bx4_ : 0 ≤ S_.2.2.1 34 (0 + cc_) p_.toNat ∧ S_.2.2.1 34 (0 + cc_) p_.toNat ≤ 4194303 := hI_.2 34 (0 + cc_) _
          refine sm_T_go 2 (c1 := (120, [some (.inr (.inr (some (9, 0)))), some (.inr (.inr (some (2, cc_)))), some (.inl pt_), some (.inl e_), some (.inl nt_), some (.inl sh_), some (.inl p_), some (.inl (l_l2i ((l_3 ((l_s1 ((S_.2.2.2 92 0 (64 * nt_ + (p_ / 64)).toNat)) (p_ % 64))) 1))))], [.inl sh_, .inl (l_l2i ((l_3 ((l_s1 ((S_.2.2.2 92 0 (64 * nt_ + (p_ / 64)).toNat)) (p_ % 64))) 1))), .inl (S_.2.2.1 34 (0 + cc_) p_.toNat), .inl p_, .inr (.inr (some (34, (0 + cc_))))], S_)) rfl ?_
          refine sm_T_bin (w := (i_shl (l_l2i ((l_3 ((l_s1 ((S_.2.2.2 92 0 (64 * nt_ + (p_ / 64)).toNat)) (p_ % 64))) 1))) sh_)) rfl rfl ?_ -- pc_ 120
          refine sm_T_bin (w := (i_or (S_.2.2.1 34 (0 + cc_) p_.toNat) (i_shl (l_l2i ((l_3 ((l_s1 ((S_.2.2.2 92 0 (64 * nt_ + (p_ / 64)).toNat)) (p_ % 64))) 1))) sh_))) rfl rfl ?_ -- pc_ 121
          refine sm_T_iast (n := 4096) rfl rfl (by omega) (by omega) ?_
          have hIx5_ : gi (sm_aI S_ 34 (0 + cc_) p_.toNat (i_or (S_.2.2.1 34 (0 + cc_) p_.toNat) (i_shl (l_l2i ((l_3 ((l_s1 ((S_.2.2.2 92 0 (64 * nt_ + (p_ / 64)).toNat)) (p_ % 64))) 1))) sh_))) := gi_aI hI_ (show 0 ≤ (i_or (S_.2.2.1 34 (0 + cc_) p_.toNat) (i_shl (l_l2i ((l_3 ((l_s1 ((S_.2.2.2 92 0 (64 * nt_ + (p_ / 64)).toNat)) (p_ % 64))) 1))) sh_)) ∧ (i_or (S_.2.2.1 34 (0 + cc_) p_.toNat) (i_shl (l_l2i ((l_3 ((l_s1 ((S_.2.2.2 92 0 (64 * nt_ + (p_ / 64)).toNat)) (p_ % 64))) 1))) sh_)) ≤ 4194303 from ⟨by omega, by omega⟩)
          have hFx6_ : ai_fr (sx_W vw_169) S0_ (sm_aI S_ 34 (0 + cc_) p_.toNat (i_or (S_.2.2.1 34 (0 + cc_) p_.toNat) (i_shl (l_l2i ((l_3 ((l_s1 ((S_.2.2.2 92 0 (64 * nt_ + (p_ / 64)).toNat)) (p_ % 64))) 1))) sh_))) := ai_fr_tr hF_ (ai_fr_aI rfl)
          have hCx7_ : cdf cc_ S0_ (sm_aI S_ 34 (0 + cc_) p_.toNat (i_or (S_.2.2.1 34 (0 + cc_) p_.toNat) (i_shl (l_l2i ((l_3 ((l_s1 ((S_.2.2.2 92 0 (64 * nt_ + (p_ / 64)).toNat)) (p_ % 64))) 1))) sh_))) := cdf_aI hC_ (Or.inr (by rw [show cof 34 = 0 from rfl] <;> omega))
          refine sm_T_inc (a := 6) (z := 1) (v := p_) (w := p_ + 1) rfl rfl (by omega) (by omega) (by omega) ?_ -- pc_ 123
          refine sm_T_go 1 (c1 := (63, [some (.inr (.inr (some (9, 0)))), some (.inr (.inr (some (2, cc_)))), some (.inl pt_), some (.inl e_), some (.inl nt_), some (.inl sh_), some (.inl (p_ + 1)), some (.inl (l_l2i ((l_3 ((l_s1 ((S_.2.2.2 92 0 (64 * nt_ + (p_ / 64)).toNat)) (p_ % 64))) 1))))], [], sm_aI S_ 34 (0 + cc_) p_.toNat (i_or (S_.2.2.1 34 (0 + cc_) p_.toNat) (i_shl (l_l2i ((l_3 ((l_s1 ((S_.2.2.2 92 0 (64 * nt_ + (p_ / 64)).toNat)) (p_ % 64))) 1))) sh_)))) rfl ?_
          refine sm_T_wk [some (.inr (.inr (some (9, 0)))), some (.inr (.inr (some (2, cc_)))), some (.inl pt_), some (.inl e_), some (.inl nt_), some (.inl sh_), some (.inl (p_ + 1)), none] (by exact ⟨rfl, rfl, rfl, rfl, rfl, rfl, rfl, trivial⟩) ?_
          refine ih_.2 pt_ e_ nt_ sh_ (p_ + 1) (sm_aI S_ 34 (0 + cc_) p_.toNat (i_or (S_.2.2.1 34 (0 + cc_) p_.toNat) (i_shl (l_l2i ((l_3 ((l_s1 ((S_.2.2.2 92 0 (64 * nt_ + (p_ / 64)).toNat)) (p_ % 64))) 1))) sh_))) hIx5_ hFx6_ ⟨?_, ?_, ?_, trivial⟩ ?_
          · omega
          · intro p9_ hp9_
            rw [rd_eq]
            by_cases z9_ : p9_ = p_.toNat
            · rw [if_pos z9_]; first | exact or9_ | exact or8_
            · rw [if_neg z9_]; exact ht_ p9_ hp9_
          · exact hCx7_
          · omega
        · have cx2_ : ¬ (0 ≤ nt_) := of_decide_eq_false cx2_
          have bt8_ : -nt_ - 1 = 0 ∨ -nt_ - 1 = 1 := by omega
          have bs8_ := bsh (k_ := 16 + (S0_.1 2 cc_ 2).toNat) bt8_ (show 0 ≤ sh_ by omega) (by omega) (by omega)
          have or8_ := i_orp (x_ := S_.2.2.1 34 (0 + cc_) p_.toNat) (k_ := 16 + (S0_.1 2 cc_ 2).toNat) (by omega) (ht_ p_.toNat (by omega)) bs8_
          refine sm_T_go 2 (c1 := (77, [some (.inr (.inr (some (9, 0)))), some (.inr (.inr (some (2, cc_)))), some (.inl pt_), some (.inl e_), some (.inl nt_), some (.inl sh_), some (.inl p_), none], [.inl nt_, .inl (-1)], S_)) rfl ?_
          refine sm_T_bin (w := -nt_ - 1) rfl (bi_sub (by omega) (by omega) (by omega)) ?_ -- pc_ 77
          refine sm_T_go 6 (c1 := (115, [some (.inr (.inr (some (9, 0)))), some (.inr (.inr (some (2, cc_)))), some (.inl pt_), some (.inl e_), some (.inl nt_), some (.inl sh_), some (.inl p_), some (.inl (-nt_ - 1))], [.inl p_, .inr (.inr (some (34, (0 + cc_)))), .inl p_, .inr (.inr (some (34, (0 + cc_))))], S_)) rfl ?_
          refine sm_T_iald (n := 4096) rfl rfl (by omega) (by omega) ?_
          have bx8_ : 0 ≤ S_.2.2.1 34 (0 + cc_) p_.toNat ∧ S_.2.2.1 34 (0 + cc_) p_.toNat ≤ 4194303 := hI_.2 34 (0 + cc_) _
          refine sm_T_go 2 (c1 := (120, [some (.inr (.inr (some (9, 0)))), some (.inr (.inr (some (2, cc_)))), some (.inl pt_), some (.inl e_), some (.inl nt_), some (.inl sh_), some (.inl p_), some (.inl (-nt_ - 1))], [.inl sh_, .inl (-nt_ - 1), .inl (S_.2.2.1 34 (0 + cc_) p_.toNat), .inl p_, .inr (.inr (some (34, (0 + cc_))))], S_)) rfl ?_
          refine sm_T_bin (w := (i_shl (-nt_ - 1) sh_)) rfl rfl ?_ -- pc_ 120
          refine sm_T_bin (w := (i_or (S_.2.2.1 34 (0 + cc_) p_.toNat) (i_shl (-nt_ - 1) sh_))) rfl rfl ?_ -- pc_ 121
          refine sm_T_iast (n := 4096) rfl rfl (by omega) (by omega) ?_
          have hIx9_ : gi (sm_aI S_ 34 (0 + cc_) p_.toNat (i_or (S_.2.2.1 34 (0 + cc_) p_.toNat) (i_shl (-nt_ - 1) sh_))) := gi_aI hI_ (show 0 ≤ (i_or (S_.2.2.1 34 (0 + cc_) p_.toNat) (i_shl (-nt_ - 1) sh_)) ∧ (i_or (S_.2.2.1 34 (0 + cc_) p_.toNat) (i_shl (-nt_ - 1) sh_)) ≤ 4194303 from ⟨by omega, by omega⟩)
          have hFx10_ : ai_fr (sx_W vw_169) S0_ (sm_aI S_ 34 (0 + cc_) p_.toNat (i_or (S_.2.2.1 34 (0 + cc_) p_.toNat) (i_shl (-nt_ - 1) sh_))) := ai_fr_tr hF_ (ai_fr_aI rfl)
          have hCx11_ : cdf cc_ S0_ (sm_aI S_ 34 (0 + cc_) p_.toNat (i_or (S_.2.2.1 34 (0 + cc_) p_.toNat) (i_shl (-nt_ - 1) sh_))) := cdf_aI hC_ (Or.inr (by rw [show cof 34 = 0 from rfl] <;> omega))
          refine sm_T_inc (a := 6) (z := 1) (v := p_) (w := p_ + 1) rfl rfl (by omega) (by omega) (by omega) ?_ -- pc_ 123
          refine sm_T_go 1 (c1 := (63, [some (.inr (.inr (some (9, 0)))), some (.inr (.inr (some (2, cc_)))), some (.inl pt_), some (.inl e_), some (.inl nt_), some (.inl sh_), some (.inl (p_ + 1)), some (.inl (-nt_ - 1))], [], sm_aI S_ 34 (0 + cc_) p_.toNat (i_or (S_.2.2.1 34 (0 + cc_) p_.toNat) (i_shl (-nt_ - 1) sh_)))) rfl ?_
          refine sm_T_wk [some (.inr (.inr (some (9, 0)))), some (.inr (.inr (some (2, cc_)))), some (.inl pt_), some (.inl e_), some (.inl nt_), some (.inl sh_), some (.inl (p_ + 1)), none] (by exact ⟨rfl, rfl, rfl, rfl, rfl, rfl, rfl, trivial⟩) ?_
          refine ih_.2 pt_ e_ nt_ sh_ (p_ + 1) (sm_aI S_ 34 (0 + cc_) p_.toNat (i_or (S_.2.2.1 34 (0 + cc_) p_.toNat) (i_shl (-nt_ - 1) sh_))) hIx9_ hFx10_ ⟨?_, ?_, ?_, trivial⟩ ?_
          · omega
          · intro p9_ hp9_
            rw [rd_eq]
            by_cases z9_ : p9_ = p_.toNat
            · rw [if_pos z9_]; first | exact or9_ | exact or8_
            · rw [if_neg z9_]; exact ht_ p9_ hp9_
          · exact hCx11_
          · omega
set_option maxHeartbeats 2000000 in
theorem vc_169 {sc_ : Nat × (Nat → Int)} (cc_ : Nat) (S0_ : sm_S) (hI_ : gi S0_) (hs_ : S0_.1 2 cc_ 1 + S0_.1 2 cc_ 2 ≤ 12) : sm_T (mt_P sc_) 4 169 (0, [some (.inr (.inr (some (9, 0)))), some (.inr (.inr (some (2, cc_)))), none, none, none, none, none, none], [], S0_) (fun ro9_ => ∃ u_ S1_, ro9_ = (.inl u_, S1_, 0) ∧ vq_169 cc_ S0_ u_ S1_) := by
  have hF_ : ai_fr (sx_W vw_169) S0_ S0_ := ai_fr_rf
  have hC_ : cdf cc_ S0_ S0_ := cdf_rf
  refine sm_T_go 2 (c1 := (2, [some (.inr (.inr (some (9, 0)))), some (.inr (.inr (some (2, cc_)))), none, none, none, none, none, none], [.inr (.inr (some (2, cc_))), .inr (.inr (some (9, 0)))], S0_)) rfl ?_
  refine sm_T_cal (d1 := 3) (Q1 := vq_168 cc_ S0_) rfl rfl (by decide) (vc_168 cc_ S0_ hI_ (by omega)) (fun u_ Sx1_ px4_ => ?_)
  obtain ⟨rfl, hIx2_, hFx3_, px4_⟩ := px4_
  have hFx5_ : ai_fr (sx_W vw_169) S0_ Sx1_ := ai_fr_tr hF_ (fr_le hFx3_ rfl)
  have hCx6_ : cdf cc_ S0_ Sx1_ := cdf_tr hC_ (cdf_fr hFx3_ rfl)
  have q1_ := hFx3_.1 2 cc_ 1 rfl
  have q2_ := hFx3_.1 2 cc_ 2 rfl
  refine sm_T_go 3 (c1 := (10, [some (.inr (.inr (some (9, 0)))), some (.inr (.inr (some (2, cc_)))), none, none, none, none, none, none], [.inl 0, .inr (.inr (some (34, (0 + cc_))))], Sx1_)) rfl ?_
  refine sm_T_cal (d1 := 0) (Q1 := vq_2c4 0 cc_ Sx1_) rfl rfl (by decide) (vc_2c4 0 cc_ Sx1_ hIx2_ (by decide)) (fun u_ Sx7_ px10_ => ?_)
  obtain ⟨rfl, hIx8_, hFx9_, px10_⟩ := px10_
  have hFx11_ : ai_fr (sx_W vw_169) S0_ Sx7_ := ai_fr_tr hFx5_ (fr_le hFx9_ rfl)
  obtain ⟨dx13_, px10_⟩ := px10_
  have hCx12_ : cdf cc_ S0_ Sx7_ := cdf_tr hCx6_ (cdf_cg (by omega) dx13_)
  have e10 := px10_
  have q1b := hFx9_.1 2 cc_ 1 rfl
  have q2b := hFx9_.1 2 cc_ 2 rfl
  refine sm_T_go 2 (c1 := (15, [some (.inr (.inr (some (9, 0)))), some (.inr (.inr (some (2, cc_)))), none, none, none, none, none, none], [.inr (.inr (some (2, cc_))), .inl 1], Sx7_)) rfl ?_
  refine sm_T_cal (d1 := 0) (Q1 := vq_54 cc_ Sx7_) rfl rfl (by decide) (vc_54 cc_ Sx7_ hIx8_ ) (fun u_ Sx14_ px17_ => ?_)
  obtain ⟨rfl, vx19_, rfl, px17_⟩ := px17_
  have g15_ := px17_
  refine sm_T_bin (w := (i_shl 1 vx19_)) rfl rfl ?_ -- pc_ 18
  have bx20_ := i_shl1 (e := vx19_) (by omega) (by omega)
  have p5_ := pw_le (n := (vx19_).toNat) (m := 12) (by omega)
  have p6_ := pw_pos (vx19_).toNat
  refine sm_T_go 3 (c1 := (22, [some (.inr (.inr (some (9, 0)))), some (.inr (.inr (some (2, cc_)))), some (.inl (i_shl 1 vx19_)), some (.inl 0), none, none, none, none], [], Sx7_)) rfl ?_
  refine (vl_169 cc_ S0_ hs_ _).1 (i_shl 1 vx19_) 0 Sx7_ hIx8_ hFx11_ ⟨?_, ?_, ?_, trivial⟩ (Nat.lt_succ_self _)
  · omega
  · (intro p9_ hp9_; rw [e10 p9_ hp9_]; exact ⟨Int.le_refl _, pw_pos _⟩)
  · exact hCx12_
end
/-! 99.zm1a -/
section
/-! times and waves; written by wip/p55/gen/vg -/

/-! times and waves -/
theorem dvt {x_ y_ : Int} (hx_ : -2147483648 < x_ ∧ x_ ≤ 2147483647) (hy_ : 0 < y_ ∧ y_ ≤ 2147483647) : (Int32.ofInt x_ / Int32.ofInt y_).toInt = Int.tdiv x_ y_ := by
  have e1_ : (Int32.ofInt x_).toInt = x_ := Int32.toInt_ofInt_of_le (by omega) (by omega)
  have e2_ : (Int32.ofInt y_).toInt = y_ := Int32.toInt_ofInt_of_le (by omega) (by omega)
  rw [Int32.toInt_div, e1_, e2_]
  apply Int.bmod_eq_of_le
  · have : (Int.tdiv x_ y_).natAbs ≤ x_.natAbs := Int.natAbs_tdiv_le_natAbs x_ y_
    omega
  · have : (Int.tdiv x_ y_).natAbs ≤ x_.natAbs := Int.natAbs_tdiv_le_natAbs x_ y_
    omega
theorem tdv_b {x_ y_ M_ : Int} (hx_ : -M_ ≤ x_ ∧ x_ ≤ M_) (_hy : 0 < y_) : -M_ ≤ Int.tdiv x_ y_ ∧ Int.tdiv x_ y_ ≤ M_ := by
  have : (Int.tdiv x_ y_).natAbs ≤ x_.natAbs := Int.natAbs_tdiv_le_natAbs x_ y_
  omega
theorem bi_dvt {x_ y_ : Int} (hx_ : -2147483648 < x_ ∧ x_ ≤ 2147483647) (hy_ : 0 < y_ ∧ y_ ≤ 2147483647) : sm_bin 8 x_ y_ = some (Int.tdiv x_ y_) := by
  show (if Int32.ofInt y_ = 0 then none else some _) = some _
  rw [if_neg (bi_n0 hy_.1 hy_.2), dvt hx_ hy_]
/-! Times.measure -/
def vw_196 : sx_Wl := ([], [99], [])
def vq_196 (cc_ : Nat) (S0_ : sm_S) (u_ : Option sm_V) (S1_ : sm_S) : Prop := u_ = none ∧ gi S1_ ∧ ai_fr (sx_W vw_196) S0_ S1_ ∧ (True)
set_option maxHeartbeats 400000 in
theorem vl_196 {sc_ : Nat × (Nat → Int)} (cc_ : Nat) (S0_ : sm_S) (hs_ : S0_.1 2 cc_ 1 + S0_.1 2 cc_ 2 ≤ 12) : ∀ nn_ : Nat, (∀ (n_ : Int) (S_ : sm_S), gi S_ → ai_fr (sx_W vw_196) S0_ S_ → ((0 ≤ n_ ∧ n_ ≤ 162) ∧ True) → ((500 - n_).toNat) < nn_ → sm_T (mt_P sc_) 1 196 (2, [some (.inr (.inr (some (11, 0)))), some (.inr (.inr (some (2, cc_)))), some (.inl n_), none, none], [], S_) (fun ro9_ => ∃ u_ S1_, ro9_ = (.inl u_, S1_, 0) ∧ vq_196 cc_ S0_ u_ S1_)) := by
  intro nn_
  induction nn_ with
  | zero => exact fun _ _ _ _ _ h_ => absurd h_ (Nat.not_lt_zero _)
  | succ nn_ ih_ =>
    rintro n_ S_ hI_ hF_ ⟨h0_, -⟩ hm_
    have z1_ : S_.1 2 cc_ 1 = S0_.1 2 cc_ 1 := hF_.1 2 cc_ 1 rfl
    have z2_ : S_.1 2 cc_ 2 = S0_.1 2 cc_ 2 := hF_.1 2 cc_ 2 rfl
    have cg9_ : 0 ≤ S_.1 2 cc_ 8 ∧ S_.1 2 cc_ 8 ≤ 150 := hI_.1 2 cc_ 8 rfl
    have ci_ : 0 ≤ S_.1 2 cc_ 1 ∧ S_.1 2 cc_ 1 ≤ 12 := hI_.1 2 cc_ 1 rfl
    have cr : 0 ≤ S_.1 2 cc_ 2 ∧ S_.1 2 cc_ 2 ≤ 6 := hI_.1 2 cc_ 2 rfl
    refine sm_T_go 2 (c1 := (4, [some (.inr (.inr (some (11, 0)))), some (.inr (.inr (some (2, cc_)))), some (.inl n_), none, none], [.inr (.inr (some (2, cc_))), .inl n_], S_)) rfl ?_
    refine sm_T_cal (d1 := 0) (Q1 := vq_55 cc_ S_) rfl rfl (by decide) (vc_55 cc_ S_ hI_ ) (fun u_ Sx1_ px4_ => ?_)
    obtain ⟨rfl, vx6_, rfl, px4_⟩ := px4_
    have nt4_ := px4_.2
    refine sm_T_br (a := 3) (z := 88) rfl (fun cx7_ => ?_) (fun cx7_ => ?_)
    · have cx7_ : vx6_ ≤ n_ := of_decide_eq_true cx7_
      refine sm_T_rv rfl ⟨_, _, rfl, rfl, hI_, hF_, ?_⟩
      trivial
    · have cx7_ : ¬ (vx6_ ≤ n_) := of_decide_eq_false cx7_
      refine sm_T_go 2 (c1 := (12, [some (.inr (.inr (some (11, 0)))), some (.inr (.inr (some (2, cc_)))), some (.inl n_), none, none], [.inr (.inr (some (2, cc_))), .inl n_], S_)) rfl ?_
      refine sm_T_cal (d1 := 0) (Q1 := vq_54 cc_ S_) rfl rfl (by decide) (vc_54 cc_ S_ hI_ ) (fun u_ Sx8_ px11_ => ?_)
      obtain ⟨rfl, vx13_, rfl, px11_⟩ := px11_
      have fg12_ := px11_.2
      refine sm_T_br (a := 3) (z := 7) rfl (fun cx14_ => ?_) (fun cx14_ => ?_)
      · have cx14_ : vx13_ ≤ n_ := of_decide_eq_true cx14_
        refine sm_T_go 7 (c1 := (35, [some (.inr (.inr (some (11, 0)))), some (.inr (.inr (some (2, cc_)))), some (.inl n_), none, none], [.inr (.inr (some (2, cc_))), .inl n_, .inr (.inr (some (35, (0 + cc_)))), .inr (.inr (some (58, (0 + (3 + cc_)))))], S_)) rfl ?_
        refine sm_T_cal (d1 := 0) (Q1 := vq_54 cc_ S_) rfl rfl (by decide) (vc_54 cc_ S_ hI_ ) (fun u_ Sx15_ px18_ => ?_)
        obtain ⟨rfl, vx20_, rfl, px18_⟩ := px18_
        have fg35_ := px18_.2
        refine sm_T_bin (w := n_ - vx20_) rfl (bi_sub (by omega) (by omega) (by omega)) ?_ -- pc_ 38
        refine sm_T_iald (n := 150) rfl rfl (by omega) (by omega) ?_
        have bx21_ : 0 ≤ S_.2.2.1 35 (0 + cc_) (n_ - vx20_).toNat ∧ S_.2.2.1 35 (0 + cc_) (n_ - vx20_).toNat ≤ 11 := hI_.2 35 (0 + cc_) _
        refine sm_T_iald (n := 12) rfl rfl (by omega) (by omega) ?_
        have bx22_ : 0 ≤ S_.2.2.1 58 (0 + (3 + cc_)) (S_.2.2.1 35 (0 + cc_) (n_ - vx20_).toNat).toNat ∧ S_.2.2.1 58 (0 + (3 + cc_)) (S_.2.2.1 35 (0 + cc_) (n_ - vx20_).toNat).toNat ≤ 100 := hI_.2 58 (0 + (3 + cc_)) _
        refine sm_T_go 5 (c1 := (50, [some (.inr (.inr (some (11, 0)))), some (.inr (.inr (some (2, cc_)))), some (.inl n_), some (.inl (S_.2.2.1 58 (0 + (3 + cc_)) (S_.2.2.1 35 (0 + cc_) (n_ - vx20_).toNat).toNat)), none], [.inl n_, .inr (.inr (some (21, (0 + (0 + cc_)))))], S_)) rfl ?_
        refine sm_T_iald (n := 162) rfl rfl (by omega) (by omega) ?_
        have bx23_ : (-9999) ≤ S_.2.2.1 21 (0 + (0 + cc_)) n_.toNat ∧ S_.2.2.1 21 (0 + (0 + cc_)) n_.toNat ≤ 20000 := hI_.2 21 (0 + (0 + cc_)) _
        refine sm_T_go 1 (c1 := (52, [some (.inr (.inr (some (11, 0)))), some (.inr (.inr (some (2, cc_)))), some (.inl n_), some (.inl (S_.2.2.1 58 (0 + (3 + cc_)) (S_.2.2.1 35 (0 + cc_) (n_ - vx20_).toNat).toNat)), none], [.inl 4, .inl (S_.2.2.1 21 (0 + (0 + cc_)) n_.toNat)], S_)) rfl ?_
        refine sm_T_bin (w := (Int.tdiv (S_.2.2.1 21 (0 + (0 + cc_)) n_.toNat) 4)) rfl (bi_dvt (by omega) (by omega)) ?_ -- pc_ 52
        have bx24_ := tdv_b (x_ := (S_.2.2.1 21 (0 + (0 + cc_)) n_.toNat)) (y_ := 4) (M_ := 20000) (by omega) (by omega)
        have bx25_ : 0 ≤ S_.1 2 cc_ 1 ∧ S_.1 2 cc_ 1 ≤ 12 := hI_.1 2 cc_ 1 rfl
        refine sm_T_go 7 (c1 := (65, [some (.inr (.inr (some (11, 0)))), some (.inr (.inr (some (2, cc_)))), some (.inl n_), some (.inl (S_.2.2.1 58 (0 + (3 + cc_)) (S_.2.2.1 35 (0 + cc_) (n_ - vx20_).toNat).toNat)), some (.inl (Int.tdiv (S_.2.2.1 21 (0 + (0 + cc_)) n_.toNat) 4))], [.inl (S_.1 2 cc_ 1), .inl n_, .inl n_, .inr (.inr (some (99, 0)))], S_)) rfl ?_
        refine sm_T_br (a := 3) (z := 7) rfl (fun cx26_ => ?_) (fun cx26_ => ?_)
        · have cx26_ : (S_.1 2 cc_ 1) ≤ n_ := of_decide_eq_true cx26_
          refine sm_T_go 5 (c1 := (81, [some (.inr (.inr (some (11, 0)))), some (.inr (.inr (some (2, cc_)))), some (.inl n_), some (.inl (S_.2.2.1 58 (0 + (3 + cc_)) (S_.2.2.1 35 (0 + cc_) (n_ - vx20_).toNat).toNat)), some (.inl (Int.tdiv (S_.2.2.1 21 (0 + (0 + cc_)) n_.toNat) 4))], [.inl n_, .inr (.inr (some (20, (0 + (0 + cc_))))), .inl (S_.2.2.1 58 (0 + (3 + cc_)) (S_.2.2.1 35 (0 + cc_) (n_ - vx20_).toNat).toNat), .inl n_, .inr (.inr (some (99, 0)))], S_)) rfl ?_
          refine sm_T_iald (n := 162) rfl rfl (by omega) (by omega) ?_
          have bx27_ : 0 ≤ S_.2.2.1 20 (0 + (0 + cc_)) n_.toNat ∧ S_.2.2.1 20 (0 + (0 + cc_)) n_.toNat ≤ 652 := hI_.2 20 (0 + (0 + cc_)) _
          refine sm_T_bin (w := (S_.2.2.1 58 (0 + (3 + cc_)) (S_.2.2.1 35 (0 + cc_) (n_ - vx20_).toNat).toNat) + (S_.2.2.1 20 (0 + (0 + cc_)) n_.toNat)) rfl (bi_add (by omega) (by omega) (by omega)) ?_ -- pc_ 82
          refine sm_T_go 1 (c1 := (84, [some (.inr (.inr (some (11, 0)))), some (.inr (.inr (some (2, cc_)))), some (.inl n_), some (.inl (S_.2.2.1 58 (0 + (3 + cc_)) (S_.2.2.1 35 (0 + cc_) (n_ - vx20_).toNat).toNat)), some (.inl (Int.tdiv (S_.2.2.1 21 (0 + (0 + cc_)) n_.toNat) 4))], [.inl 1, .inl ((S_.2.2.1 58 (0 + (3 + cc_)) (S_.2.2.1 35 (0 + cc_) (n_ - vx20_).toNat).toNat) + (S_.2.2.1 20 (0 + (0 + cc_)) n_.toNat)), .inl n_, .inr (.inr (some (99, 0)))], S_)) rfl ?_
          refine sm_T_bin (w := (S_.2.2.1 58 (0 + (3 + cc_)) (S_.2.2.1 35 (0 + cc_) (n_ - vx20_).toNat).toNat) + (S_.2.2.1 20 (0 + (0 + cc_)) n_.toNat) - 1) rfl (bi_sub (by omega) (by omega) (by omega)) ?_ -- pc_ 84
          refine sm_T_go 1 (c1 := (87, [some (.inr (.inr (some (11, 0)))), some (.inr (.inr (some (2, cc_)))), some (.inl n_), some (.inl (S_.2.2.1 58 (0 + (3 + cc_)) (S_.2.2.1 35 (0 + cc_) (n_ - vx20_).toNat).toNat)), some (.inl (Int.tdiv (S_.2.2.1 21 (0 + (0 + cc_)) n_.toNat) 4))], [.inl (Int.tdiv (S_.2.2.1 21 (0 + (0 + cc_)) n_.toNat) 4), .inl ((S_.2.2.1 58 (0 + (3 + cc_)) (S_.2.2.1 35 (0 + cc_) (n_ - vx20_).toNat).toNat) + (S_.2.2.1 20 (0 + (0 + cc_)) n_.toNat) - 1), .inl n_, .inr (.inr (some (99, 0)))], S_)) rfl ?_
          refine sm_T_bin (w := (S_.2.2.1 58 (0 + (3 + cc_)) (S_.2.2.1 35 (0 + cc_) (n_ - vx20_).toNat).toNat) + (S_.2.2.1 20 (0 + (0 + cc_)) n_.toNat) + (Int.tdiv (S_.2.2.1 21 (0 + (0 + cc_)) n_.toNat) 4) - 1) rfl (bi_add (by omega) (by omega) (by omega)) ?_ -- pc_ 87
          refine sm_T_iast (n := 162) rfl rfl (by omega) (by omega) ?_
          have hIx28_ : gi (sm_aI S_ 99 0 n_.toNat ((S_.2.2.1 58 (0 + (3 + cc_)) (S_.2.2.1 35 (0 + cc_) (n_ - vx20_).toNat).toNat) + (S_.2.2.1 20 (0 + (0 + cc_)) n_.toNat) + (Int.tdiv (S_.2.2.1 21 (0 + (0 + cc_)) n_.toNat) 4) - 1)) := gi_aI hI_ (show (-2147483648) ≤ (S_.2.2.1 58 (0 + (3 + cc_)) (S_.2.2.1 35 (0 + cc_) (n_ - vx20_).toNat).toNat) + (S_.2.2.1 20 (0 + (0 + cc_)) n_.toNat) + (Int.tdiv (S_.2.2.1 21 (0 + (0 + cc_)) n_.toNat) 4) - 1 ∧ (S_.2.2.1 58 (0 + (3 + cc_)) (S_.2.2.1 35 (0 + cc_) (n_ - vx20_).toNat).toNat) + (S_.2.2.1 20 (0 + (0 + cc_)) n_.toNat) + (Int.tdiv (S_.2.2.1 21 (0 + (0 + cc_)) n_.toNat) 4) - 1 ≤ 2147483647 from ⟨by omega, by omega⟩)
          have hFx29_ : ai_fr (sx_W vw_196) S0_ (sm_aI S_ 99 0 n_.toNat ((S_.2.2.1 58 (0 + (3 + cc_)) (S_.2.2.1 35 (0 + cc_) (n_ - vx20_).toNat).toNat) + (S_.2.2.1 20 (0 + (0 + cc_)) n_.toNat) + (Int.tdiv (S_.2.2.1 21 (0 + (0 + cc_)) n_.toNat) 4) - 1)) := ai_fr_tr hF_ (ai_fr_aI rfl)
          refine sm_T_inc (a := 2) (z := 1) (v := n_) (w := n_ + 1) rfl rfl (by omega) (by omega) (by omega) ?_ -- pc_ 89
          refine sm_T_go 1 (c1 := (2, [some (.inr (.inr (some (11, 0)))), some (.inr (.inr (some (2, cc_)))), some (.inl (n_ + 1)), some (.inl (S_.2.2.1 58 (0 + (3 + cc_)) (S_.2.2.1 35 (0 + cc_) (n_ - vx20_).toNat).toNat)), some (.inl (Int.tdiv (S_.2.2.1 21 (0 + (0 + cc_)) n_.toNat) 4))], [], sm_aI S_ 99 0 n_.toNat ((S_.2.2.1 58 (0 + (3 + cc_)) (S_.2.2.1 35 (0 + cc_) (n_ - vx20_).toNat).toNat) + (S_.2.2.1 20 (0 + (0 + cc_)) n_.toNat) + (Int.tdiv (S_.2.2.1 21 (0 + (0 + cc_)) n_.toNat) 4) - 1))) rfl ?_
          refine sm_T_wk [some (.inr (.inr (some (11, 0)))), some (.inr (.inr (some (2, cc_)))), some (.inl (n_ + 1)), none, none] (by exact ⟨rfl, rfl, rfl, trivial⟩) ?_
          refine ih_ (n_ + 1) (sm_aI S_ 99 0 n_.toNat ((S_.2.2.1 58 (0 + (3 + cc_)) (S_.2.2.1 35 (0 + cc_) (n_ - vx20_).toNat).toNat) + (S_.2.2.1 20 (0 + (0 + cc_)) n_.toNat) + (Int.tdiv (S_.2.2.1 21 (0 + (0 + cc_)) n_.toNat) 4) - 1)) hIx28_ hFx29_ ⟨?_, trivial⟩ ?_
          · omega
          · omega
        · have cx26_ : ¬ ((S_.1 2 cc_ 1) ≤ n_) := of_decide_eq_false cx26_
          refine sm_T_go 2 (c1 := (88, [some (.inr (.inr (some (11, 0)))), some (.inr (.inr (some (2, cc_)))), some (.inl n_), some (.inl (S_.2.2.1 58 (0 + (3 + cc_)) (S_.2.2.1 35 (0 + cc_) (n_ - vx20_).toNat).toNat)), some (.inl (Int.tdiv (S_.2.2.1 21 (0 + (0 + cc_)) n_.toNat) 4))], [.inl 0, .inl n_, .inr (.inr (some (99, 0)))], S_)) rfl ?_
          refine sm_T_iast (n := 162) rfl rfl (by omega) (by omega) ?_
          have hIx30_ : gi (sm_aI S_ 99 0 n_.toNat 0) := gi_aI hI_ (show (-2147483648) ≤ 0 ∧ 0 ≤ 2147483647 from ⟨by omega, by omega⟩)
          have hFx31_ : ai_fr (sx_W vw_196) S0_ (sm_aI S_ 99 0 n_.toNat 0) := ai_fr_tr hF_ (ai_fr_aI rfl)
          refine sm_T_inc (a := 2) (z := 1) (v := n_) (w := n_ + 1) rfl rfl (by omega) (by omega) (by omega) ?_ -- pc_ 89
          refine sm_T_go 1 (c1 := (2, [some (.inr (.inr (some (11, 0)))), some (.inr (.inr (some (2, cc_)))), some (.inl (n_ + 1)), some (.inl (S_.2.2.1 58 (0 + (3 + cc_)) (S_.2.2.1 35 (0 + cc_) (n_ - vx20_).toNat).toNat)), some (.inl (Int.tdiv (S_.2.2.1 21 (0 + (0 + cc_)) n_.toNat) 4))], [], sm_aI S_ 99 0 n_.toNat 0)) rfl ?_
          refine sm_T_wk [some (.inr (.inr (some (11, 0)))), some (.inr (.inr (some (2, cc_)))), some (.inl (n_ + 1)), none, none] (by exact ⟨rfl, rfl, rfl, trivial⟩) ?_
          refine ih_ (n_ + 1) (sm_aI S_ 99 0 n_.toNat 0) hIx30_ hFx31_ ⟨?_, trivial⟩ ?_
          · omega
          · omega
      · have cx14_ : ¬ (vx13_ ≤ n_) := of_decide_eq_false cx14_
        refine sm_T_go 7 (c1 := (50, [some (.inr (.inr (some (11, 0)))), some (.inr (.inr (some (2, cc_)))), some (.inl n_), some (.inl 3), none], [.inl n_, .inr (.inr (some (21, (0 + (0 + cc_)))))], S_)) rfl ?_
        refine sm_T_iald (n := 162) rfl rfl (by omega) (by omega) ?_
        have bx32_ : (-9999) ≤ S_.2.2.1 21 (0 + (0 + cc_)) n_.toNat ∧ S_.2.2.1 21 (0 + (0 + cc_)) n_.toNat ≤ 20000 := hI_.2 21 (0 + (0 + cc_)) _
        refine sm_T_go 1 (c1 := (52, [some (.inr (.inr (some (11, 0)))), some (.inr (.inr (some (2, cc_)))), some (.inl n_), some (.inl 3), none], [.inl 4, .inl (S_.2.2.1 21 (0 + (0 + cc_)) n_.toNat)], S_)) rfl ?_
        refine sm_T_bin (w := (Int.tdiv (S_.2.2.1 21 (0 + (0 + cc_)) n_.toNat) 4)) rfl (bi_dvt (by omega) (by omega)) ?_ -- pc_ 52
        have bx33_ := tdv_b (x_ := (S_.2.2.1 21 (0 + (0 + cc_)) n_.toNat)) (y_ := 4) (M_ := 20000) (by omega) (by omega)
        have bx34_ : 0 ≤ S_.1 2 cc_ 1 ∧ S_.1 2 cc_ 1 ≤ 12 := hI_.1 2 cc_ 1 rfl
        refine sm_T_go 7 (c1 := (65, [some (.inr (.inr (some (11, 0)))), some (.inr (.inr (some (2, cc_)))), some (.inl n_), some (.inl 3), some (.inl (Int.tdiv (S_.2.2.1 21 (0 + (0 + cc_)) n_.toNat) 4))], [.inl (S_.1 2 cc_ 1), .inl n_, .inl n_, .inr (.inr (some (99, 0)))], S_)) rfl ?_
        refine sm_T_br (a := 3) (z := 7) rfl (fun cx35_ => ?_) (fun cx35_ => ?_)
        · have cx35_ : (S_.1 2 cc_ 1) ≤ n_ := of_decide_eq_true cx35_
          refine sm_T_go 5 (c1 := (81, [some (.inr (.inr (some (11, 0)))), some (.inr (.inr (some (2, cc_)))), some (.inl n_), some (.inl 3), some (.inl (Int.tdiv (S_.2.2.1 21 (0 + (0 + cc_)) n_.toNat) 4))], [.inl n_, .inr (.inr (some (20, (0 + (0 + cc_))))), .inl 3, .inl n_, .inr (.inr (some (99, 0)))], S_)) rfl ?_
          refine sm_T_iald (n := 162) rfl rfl (by omega) (by omega) ?_
          have bx36_ : 0 ≤ S_.2.2.1 20 (0 + (0 + cc_)) n_.toNat ∧ S_.2.2.1 20 (0 + (0 + cc_)) n_.toNat ≤ 652 := hI_.2 20 (0 + (0 + cc_)) _
          refine sm_T_bin (w := (S_.2.2.1 20 (0 + (0 + cc_)) n_.toNat) + 3) rfl (bi_add (by omega) (by omega) (by omega)) ?_ -- pc_ 82
          refine sm_T_go 1 (c1 := (84, [some (.inr (.inr (some (11, 0)))), some (.inr (.inr (some (2, cc_)))), some (.inl n_), some (.inl 3), some (.inl (Int.tdiv (S_.2.2.1 21 (0 + (0 + cc_)) n_.toNat) 4))], [.inl 1, .inl ((S_.2.2.1 20 (0 + (0 + cc_)) n_.toNat) + 3), .inl n_, .inr (.inr (some (99, 0)))], S_)) rfl ?_
          refine sm_T_bin (w := (S_.2.2.1 20 (0 + (0 + cc_)) n_.toNat) + 2) rfl (bi_sub (by omega) (by omega) (by omega)) ?_ -- pc_ 84
          refine sm_T_go 1 (c1 := (87, [some (.inr (.inr (some (11, 0)))), some (.inr (.inr (some (2, cc_)))), some (.inl n_), some (.inl 3), some (.inl (Int.tdiv (S_.2.2.1 21 (0 + (0 + cc_)) n_.toNat) 4))], [.inl (Int.tdiv (S_.2.2.1 21 (0 + (0 + cc_)) n_.toNat) 4), .inl ((S_.2.2.1 20 (0 + (0 + cc_)) n_.toNat) + 2), .inl n_, .inr (.inr (some (99, 0)))], S_)) rfl ?_
          refine sm_T_bin (w := (S_.2.2.1 20 (0 + (0 + cc_)) n_.toNat) + (Int.tdiv (S_.2.2.1 21 (0 + (0 + cc_)) n_.toNat) 4) + 2) rfl (bi_add (by omega) (by omega) (by omega)) ?_ -- pc_ 87
          refine sm_T_iast (n := 162) rfl rfl (by omega) (by omega) ?_
          have hIx37_ : gi (sm_aI S_ 99 0 n_.toNat ((S_.2.2.1 20 (0 + (0 + cc_)) n_.toNat) + (Int.tdiv (S_.2.2.1 21 (0 + (0 + cc_)) n_.toNat) 4) + 2)) := gi_aI hI_ (show (-2147483648) ≤ (S_.2.2.1 20 (0 + (0 + cc_)) n_.toNat) + (Int.tdiv (S_.2.2.1 21 (0 + (0 + cc_)) n_.toNat) 4) + 2 ∧ (S_.2.2.1 20 (0 + (0 + cc_)) n_.toNat) + (Int.tdiv (S_.2.2.1 21 (0 + (0 + cc_)) n_.toNat) 4) + 2 ≤ 2147483647 from ⟨by omega, by omega⟩)
          have hFx38_ : ai_fr (sx_W vw_196) S0_ (sm_aI S_ 99 0 n_.toNat ((S_.2.2.1 20 (0 + (0 + cc_)) n_.toNat) + (Int.tdiv (S_.2.2.1 21 (0 + (0 + cc_)) n_.toNat) 4) + 2)) := ai_fr_tr hF_ (ai_fr_aI rfl)
          refine sm_T_inc (a := 2) (z := 1) (v := n_) (w := n_ + 1) rfl rfl (by omega) (by omega) (by omega) ?_ -- pc_ 89
          refine sm_T_go 1 (c1 := (2, [some (.inr (.inr (some (11, 0)))), some (.inr (.inr (some (2, cc_)))), some (.inl (n_ + 1)), some (.inl 3), some (.inl (Int.tdiv (S_.2.2.1 21 (0 + (0 + cc_)) n_.toNat) 4))], [], sm_aI S_ 99 0 n_.toNat ((S_.2.2.1 20 (0 + (0 + cc_)) n_.toNat) + (Int.tdiv (S_.2.2.1 21 (0 + (0 + cc_)) n_.toNat) 4) + 2))) rfl ?_
          refine sm_T_wk [some (.inr (.inr (some (11, 0)))), some (.inr (.inr (some (2, cc_)))), some (.inl (n_ + 1)), none, none] (by exact ⟨rfl, rfl, rfl, trivial⟩) ?_
          refine ih_ (n_ + 1) (sm_aI S_ 99 0 n_.toNat ((S_.2.2.1 20 (0 + (0 + cc_)) n_.toNat) + (Int.tdiv (S_.2.2.1 21 (0 + (0 + cc_)) n_.toNat) 4) + 2)) hIx37_ hFx38_ ⟨?_, trivial⟩ ?_
          · omega
          · omega
        · have cx35_ : ¬ ((S_.1 2 cc_ 1) ≤ n_) := of_decide_eq_false cx35_
          refine sm_T_go 2 (c1 := (88, [some (.inr (.inr (some (11, 0)))), some (.inr (.inr (some (2, cc_)))), some (.inl n_), some (.inl 3), some (.inl (Int.tdiv (S_.2.2.1 21 (0 + (0 + cc_)) n_.toNat) 4))], [.inl 0, .inl n_, .inr (.inr (some (99, 0)))], S_)) rfl ?_
          refine sm_T_iast (n := 162) rfl rfl (by omega) (by omega) ?_
          have hIx39_ : gi (sm_aI S_ 99 0 n_.toNat 0) := gi_aI hI_ (show (-2147483648) ≤ 0 ∧ 0 ≤ 2147483647 from ⟨by omega, by omega⟩)
          have hFx40_ : ai_fr (sx_W vw_196) S0_ (sm_aI S_ 99 0 n_.toNat 0) := ai_fr_tr hF_ (ai_fr_aI rfl)
          refine sm_T_inc (a := 2) (z := 1) (v := n_) (w := n_ + 1) rfl rfl (by omega) (by omega) (by omega) ?_ -- pc_ 89
          refine sm_T_go 1 (c1 := (2, [some (.inr (.inr (some (11, 0)))), some (.inr (.inr (some (2, cc_)))), some (.inl (n_ + 1)), some (.inl 3), some (.inl (Int.tdiv (S_.2.2.1 21 (0 + (0 + cc_)) n_.toNat) 4))], [], sm_aI S_ 99 0 n_.toNat 0)) rfl ?_
          refine sm_T_wk [some (.inr (.inr (some (11, 0)))), some (.inr (.inr (some (2, cc_)))), some (.inl (n_ + 1)), none, none] (by exact ⟨rfl, rfl, rfl, trivial⟩) ?_
          refine ih_ (n_ + 1) (sm_aI S_ 99 0 n_.toNat 0) hIx39_ hFx40_ ⟨?_, trivial⟩ ?_
          · omega
          · omega
set_option maxHeartbeats 400000 in
theorem vc_196 {sc_ : Nat × (Nat → Int)} (cc_ : Nat) (S0_ : sm_S) (hI_ : gi S0_) (hs_ : S0_.1 2 cc_ 1 + S0_.1 2 cc_ 2 ≤ 12) : sm_T (mt_P sc_) 1 196 (0, [some (.inr (.inr (some (11, 0)))), some (.inr (.inr (some (2, cc_)))), none, none, none], [], S0_) (fun ro9_ => ∃ u_ S1_, ro9_ = (.inl u_, S1_, 0) ∧ vq_196 cc_ S0_ u_ S1_) := by
  have hF_ : ai_fr (sx_W vw_196) S0_ S0_ := ai_fr_rf
  refine sm_T_go 2 (c1 := (2, [some (.inr (.inr (some (11, 0)))), some (.inr (.inr (some (2, cc_)))), some (.inl 0), none, none], [], S0_)) rfl ?_
  refine (vl_196 cc_ S0_ hs_ _) 0 S0_ hI_ hF_ ⟨?_, trivial⟩ (Nat.lt_succ_self _)
  · omega
end
/-! 99.zm1b -/
section
/-! Times.arrivalOf -/
def vw_197 : sx_Wl := ([], [99, 100], [])
def vq_197 (a2_ : Int) (a3_ : Int) (cc_ : Nat) (S0_ : sm_S) (u_ : Option sm_V) (S1_ : sm_S) : Prop := ∃ v_ : Int, u_ = some (.inl v_) ∧ gi S1_ ∧ ai_fr (sx_W vw_197) S0_ S1_ ∧ (True)
set_option maxHeartbeats 400000 in
theorem vl_197 {sc_ : Nat × (Nat → Int)} (a2_ : Int) (a3_ : Int) (cc_ : Nat) (S0_ : sm_S) (hs_ : S0_.1 2 cc_ 1 + S0_.1 2 cc_ 2 ≤ 12) (h2_ : 0 ≤ a2_ ∧ a2_ < S0_.1 2 cc_ 1 + S0_.1 2 cc_ 2 + S0_.1 2 cc_ 8) : ∀ nn_ : Nat, (∀ (n_ : Int) (S_ : sm_S), gi S_ → ai_fr (sx_W vw_197) S0_ S_ → ((0 ≤ n_ ∧ n_ ≤ a2_ + 1) ∧ True) → ((100 * (500 - n_) + 90).toNat) < nn_ → sm_T (mt_P sc_) 2 197 (8, [some (.inr (.inr (some (11, 0)))), some (.inr (.inr (some (2, cc_)))), some (.inl a2_), some (.inl a3_), some (.inl n_), none, none, none, none], [], S_) (fun ro9_ => ∃ u_ S1_, ro9_ = (.inl u_, S1_, 0) ∧ vq_197 a2_ a3_ cc_ S0_ u_ S1_)) ∧ (∀ (n_ : Int) (g_ : Int) (ms_ : Int) (k_ : Int) (S_ : sm_S), gi S_ → ai_fr (sx_W vw_197) S0_ S_ → ((0 ≤ n_ ∧ n_ ≤ a2_ ∧ 0 ≤ g_ ∧ g_ ≤ 149 ∧ 1 ≤ k_ ∧ k_ ≤ 3) ∧ True) → ((100 * (500 - n_) + 80 - k_).toNat) < nn_ → sm_T (mt_P sc_) 2 197 (61, [some (.inr (.inr (some (11, 0)))), some (.inr (.inr (some (2, cc_)))), some (.inl a2_), some (.inl a3_), some (.inl n_), some (.inl g_), some (.inl ms_), some (.inl k_), none], [], S_) (fun ro9_ => ∃ u_ S1_, ro9_ = (.inl u_, S1_, 0) ∧ vq_197 a2_ a3_ cc_ S0_ u_ S1_)) := by
  intro nn_
  induction nn_ with
  | zero => exact ⟨fun _ _ _ _ _ h_ => absurd h_ (Nat.not_lt_zero _), fun _ _ _ _ _ _ _ _ h_ => absurd h_ (Nat.not_lt_zero _)⟩
  | succ nn_ ih_ =>
    refine ⟨?_, ?_⟩
    · rintro n_ S_ hI_ hF_ ⟨h0_, -⟩ hm_
      have z1_ : S_.1 2 cc_ 1 = S0_.1 2 cc_ 1 := hF_.1 2 cc_ 1 rfl
      have z2_ : S_.1 2 cc_ 2 = S0_.1 2 cc_ 2 := hF_.1 2 cc_ 2 rfl
      have cg9_ : 0 ≤ S_.1 2 cc_ 8 ∧ S_.1 2 cc_ 8 ≤ 150 := hI_.1 2 cc_ 8 rfl
      have ci_ : 0 ≤ S_.1 2 cc_ 1 ∧ S_.1 2 cc_ 1 ≤ 12 := hI_.1 2 cc_ 1 rfl
      have cr : 0 ≤ S_.1 2 cc_ 2 ∧ S_.1 2 cc_ 2 ≤ 6 := hI_.1 2 cc_ 2 rfl
      have z8_ : S_.1 2 cc_ 8 = S0_.1 2 cc_ 8 := hF_.1 2 cc_ 8 rfl
      refine sm_T_go 2 (c1 := (11, [some (.inr (.inr (some (11, 0)))), some (.inr (.inr (some (2, cc_)))), some (.inl a2_), some (.inl a3_), some (.inl n_), none, none, none, none], [.inl a2_, .inl n_], S_)) rfl ?_
      refine sm_T_br (a := 4) (z := 127) rfl (fun cx1_ => ?_) (fun cx1_ => ?_)
      · have cx1_ : a2_ < n_ := of_decide_eq_true cx1_
        refine sm_T_go 3 (c1 := (143, [some (.inr (.inr (some (11, 0)))), some (.inr (.inr (some (2, cc_)))), some (.inl a2_), some (.inl a3_), some (.inl n_), none, none, none, none], [.inl a2_, .inr (.inr (some (100, 0)))], S_)) rfl ?_
        refine sm_T_iald (n := 162) rfl rfl (by omega) (by omega) ?_
        have bx2_ : (-2147483648) ≤ S_.2.2.1 100 0 a2_.toNat ∧ S_.2.2.1 100 0 a2_.toNat ≤ 2147483647 := hI_.2 100 0 _
        refine sm_T_ri rfl ⟨_, _, rfl, _, rfl, hI_, hF_, ?_⟩
        trivial
      · have cx1_ : ¬ (a2_ < n_) := of_decide_eq_false cx1_
        refine sm_T_go 6 (c1 := (26, [some (.inr (.inr (some (11, 0)))), some (.inr (.inr (some (2, cc_)))), some (.inl a2_), some (.inl a3_), some (.inl n_), none, none, none, none], [.inl n_, .inr (.inr (some (99, 0))), .inl n_, .inr (.inr (some (100, 0)))], S_)) rfl ?_
        refine sm_T_iald (n := 162) rfl rfl (by omega) (by omega) ?_
        have bx3_ : (-2147483648) ≤ S_.2.2.1 99 0 n_.toNat ∧ S_.2.2.1 99 0 n_.toNat ≤ 2147483647 := hI_.2 99 0 _
        refine sm_T_iast (n := 162) rfl rfl (by omega) (by omega) ?_
        have hIx4_ : gi (sm_aI S_ 100 0 n_.toNat (S_.2.2.1 99 0 n_.toNat)) := gi_aI hI_ (show (-2147483648) ≤ (S_.2.2.1 99 0 n_.toNat) ∧ (S_.2.2.1 99 0 n_.toNat) ≤ 2147483647 from ⟨by omega, by omega⟩)
        have hFx5_ : ai_fr (sx_W vw_197) S0_ (sm_aI S_ 100 0 n_.toNat (S_.2.2.1 99 0 n_.toNat)) := ai_fr_tr hF_ (ai_fr_aI rfl)
        refine sm_T_go 2 (c1 := (31, [some (.inr (.inr (some (11, 0)))), some (.inr (.inr (some (2, cc_)))), some (.inl a2_), some (.inl a3_), some (.inl n_), none, none, none, none], [.inr (.inr (some (2, cc_))), .inl n_], sm_aI S_ 100 0 n_.toNat (S_.2.2.1 99 0 n_.toNat))) rfl ?_
        refine sm_T_cal (d1 := 0) (Q1 := vq_54 cc_ (sm_aI S_ 100 0 n_.toNat (S_.2.2.1 99 0 n_.toNat))) rfl rfl (by decide) (vc_54 cc_ (sm_aI S_ 100 0 n_.toNat (S_.2.2.1 99 0 n_.toNat)) hIx4_ ) (fun u_ Sx6_ px9_ => ?_)
        obtain ⟨rfl, vx11_, rfl, px9_⟩ := px9_
        have fg31_ := px9_.2
        simp only [rd_af] at fg31_
        refine sm_T_bin (w := n_ - vx11_) rfl (bi_sub (by omega) (by omega) (by omega)) ?_ -- pc_ 34
        refine sm_T_go 2 (c1 := (39, [some (.inr (.inr (some (11, 0)))), some (.inr (.inr (some (2, cc_)))), some (.inl a2_), some (.inl a3_), some (.inl n_), some (.inl (n_ - vx11_)), none, none, none], [.inl (n_ - vx11_)], sm_aI S_ 100 0 n_.toNat (S_.2.2.1 99 0 n_.toNat))) rfl ?_
        refine sm_T_b0 (a := 2) (z := 93) rfl (fun cx12_ => ?_) (fun cx12_ => ?_)
        · have cx12_ : n_ - vx11_ < 0 := of_decide_eq_true cx12_
          refine sm_T_inc (a := 4) (z := 1) (v := n_) (w := n_ + 1) rfl rfl (by omega) (by omega) (by omega) ?_ -- pc_ 132
          refine sm_T_go 1 (c1 := (8, [some (.inr (.inr (some (11, 0)))), some (.inr (.inr (some (2, cc_)))), some (.inl a2_), some (.inl a3_), some (.inl (n_ + 1)), some (.inl (n_ - vx11_)), none, none, none], [], sm_aI S_ 100 0 n_.toNat (S_.2.2.1 99 0 n_.toNat))) rfl ?_
          refine sm_T_wk [some (.inr (.inr (some (11, 0)))), some (.inr (.inr (some (2, cc_)))), some (.inl a2_), some (.inl a3_), some (.inl (n_ + 1)), none, none, none, none] (by exact ⟨rfl, rfl, rfl, rfl, rfl, trivial⟩) ?_
          refine ih_.1 (n_ + 1) (sm_aI S_ 100 0 n_.toNat (S_.2.2.1 99 0 n_.toNat)) hIx4_ hFx5_ ⟨?_, trivial⟩ ?_
          · omega
          · omega
        · have cx12_ : ¬ (n_ - vx11_ < 0) := of_decide_eq_false cx12_
          refine sm_T_go 6 (c1 := (53, [some (.inr (.inr (some (11, 0)))), some (.inr (.inr (some (2, cc_)))), some (.inl a2_), some (.inl a3_), some (.inl n_), some (.inl (n_ - vx11_)), none, none, none], [.inl (n_ - vx11_), .inl 3, .inr (.inr (some (36, (0 + cc_)))), .inr (.inr (some (100, 0)))], sm_aI S_ 100 0 n_.toNat (S_.2.2.1 99 0 n_.toNat))) rfl ?_
          refine sm_T_bin (w := 3 * n_ - 3 * vx11_) rfl (bi_mul (by omega) (by omega) (by omega)) ?_ -- pc_ 53
          refine sm_T_iald (n := 450) rfl rfl (by omega) (by omega) ?_
          have bx13_ : 0 ≤ S_.2.2.1 36 (0 + cc_) (3 * n_ - 3 * vx11_).toNat ∧ S_.2.2.1 36 (0 + cc_) (3 * n_ - 3 * vx11_).toNat ≤ 161 := hI_.2 36 (0 + cc_) _
          refine sm_T_go 0 (c1 := (55, [some (.inr (.inr (some (11, 0)))), some (.inr (.inr (some (2, cc_)))), some (.inl a2_), some (.inl a3_), some (.inl n_), some (.inl (n_ - vx11_)), none, none, none], [.inl (S_.2.2.1 36 (0 + cc_) (3 * n_ - 3 * vx11_).toNat), .inr (.inr (some (100, 0)))], sm_aI S_ 100 0 n_.toNat (S_.2.2.1 99 0 n_.toNat))) rfl ?_
          refine sm_T_iald (n := 162) rfl rfl (by omega) (by omega) ?_
          have bx14_ : (-2147483648) ≤ (sm_aI S_ 100 0 n_.toNat (S_.2.2.1 99 0 n_.toNat)).2.2.1 100 0 (S_.2.2.1 36 (0 + cc_) (3 * n_ - 3 * vx11_).toNat).toNat ∧ (sm_aI S_ 100 0 n_.toNat (S_.2.2.1 99 0 n_.toNat)).2.2.1 100 0 (S_.2.2.1 36 (0 + cc_) (3 * n_ - 3 * vx11_).toNat).toNat ≤ 2147483647 := hIx4_.2 100 0 _
          refine sm_T_go 3 (c1 := (61, [some (.inr (.inr (some (11, 0)))), some (.inr (.inr (some (2, cc_)))), some (.inl a2_), some (.inl a3_), some (.inl n_), some (.inl (n_ - vx11_)), some (.inl ((sm_aI S_ 100 0 n_.toNat (S_.2.2.1 99 0 n_.toNat)).2.2.1 100 0 (S_.2.2.1 36 (0 + cc_) (3 * n_ - 3 * vx11_).toNat).toNat)), some (.inl 1), none], [], sm_aI S_ 100 0 n_.toNat (S_.2.2.1 99 0 n_.toNat))) rfl ?_
          refine ih_.2 n_ (n_ - vx11_) ((sm_aI S_ 100 0 n_.toNat (S_.2.2.1 99 0 n_.toNat)).2.2.1 100 0 (S_.2.2.1 36 (0 + cc_) (3 * n_ - 3 * vx11_).toNat).toNat) 1 (sm_aI S_ 100 0 n_.toNat (S_.2.2.1 99 0 n_.toNat)) hIx4_ hFx5_ ⟨?_, trivial⟩ ?_
          · omega
          · omega
    · rintro n_ g_ ms_ k_ S_ hI_ hF_ ⟨h0_, -⟩ hm_
      have z1_ : S_.1 2 cc_ 1 = S0_.1 2 cc_ 1 := hF_.1 2 cc_ 1 rfl
      have z2_ : S_.1 2 cc_ 2 = S0_.1 2 cc_ 2 := hF_.1 2 cc_ 2 rfl
      have cg9_ : 0 ≤ S_.1 2 cc_ 8 ∧ S_.1 2 cc_ 8 ≤ 150 := hI_.1 2 cc_ 8 rfl
      have ci_ : 0 ≤ S_.1 2 cc_ 1 ∧ S_.1 2 cc_ 1 ≤ 12 := hI_.1 2 cc_ 1 rfl
      have cr : 0 ≤ S_.1 2 cc_ 2 ∧ S_.1 2 cc_ 2 ≤ 6 := hI_.1 2 cc_ 2 rfl
      have z8_ : S_.1 2 cc_ 8 = S0_.1 2 cc_ 8 := hF_.1 2 cc_ 8 rfl
      refine sm_T_go 3 (c1 := (66, [some (.inr (.inr (some (11, 0)))), some (.inr (.inr (some (2, cc_)))), some (.inl a2_), some (.inl a3_), some (.inl n_), some (.inl g_), some (.inl ms_), some (.inl k_), none], [.inl g_, .inr (.inr (some (2, cc_))), .inl k_], S_)) rfl ?_
      refine sm_T_cal (d1 := 0) (Q1 := vq_59 g_ cc_ S_) rfl rfl (by decide) (vc_59 g_ cc_ S_ hI_ (by omega)) (fun u_ Sx1_ px4_ => ?_)
      obtain ⟨rfl, vx6_, rfl, px4_⟩ := px4_
      have gi66_ := px4_.1
      refine sm_T_br (a := 3) (z := 51) rfl (fun cx7_ => ?_) (fun cx7_ => ?_)
      · have cx7_ : vx6_ ≤ k_ := of_decide_eq_true cx7_
        refine sm_T_go 4 (c1 := (127, [some (.inr (.inr (some (11, 0)))), some (.inr (.inr (some (2, cc_)))), some (.inl a2_), some (.inl a3_), some (.inl n_), some (.inl g_), some (.inl ms_), some (.inl k_), none], [.inl n_, .inr (.inr (some (100, 0))), .inl n_, .inr (.inr (some (100, 0)))], S_)) rfl ?_
        refine sm_T_iald (n := 162) rfl rfl (by omega) (by omega) ?_
        have bx8_ : (-2147483648) ≤ S_.2.2.1 100 0 n_.toNat ∧ S_.2.2.1 100 0 n_.toNat ≤ 2147483647 := hI_.2 100 0 _
        refine sm_T_go 1 (c1 := (130, [some (.inr (.inr (some (11, 0)))), some (.inr (.inr (some (2, cc_)))), some (.inl a2_), some (.inl a3_), some (.inl n_), some (.inl g_), some (.inl ms_), some (.inl k_), none], [.inl ms_, .inl (S_.2.2.1 100 0 n_.toNat), .inl n_, .inr (.inr (some (100, 0)))], S_)) rfl ?_
        refine sm_T_bin (w := (i_add (S_.2.2.1 100 0 n_.toNat) ms_)) rfl rfl ?_ -- pc_ 130
        have bx9_ := i_add_r (S_.2.2.1 100 0 n_.toNat) ms_
        refine sm_T_iast (n := 162) rfl rfl (by omega) (by omega) ?_
        have hIx10_ : gi (sm_aI S_ 100 0 n_.toNat (i_add (S_.2.2.1 100 0 n_.toNat) ms_)) := gi_aI hI_ (show (-2147483648) ≤ (i_add (S_.2.2.1 100 0 n_.toNat) ms_) ∧ (i_add (S_.2.2.1 100 0 n_.toNat) ms_) ≤ 2147483647 from ⟨by omega, by omega⟩)
        have hFx11_ : ai_fr (sx_W vw_197) S0_ (sm_aI S_ 100 0 n_.toNat (i_add (S_.2.2.1 100 0 n_.toNat) ms_)) := ai_fr_tr hF_ (ai_fr_aI rfl)
        refine sm_T_inc (a := 4) (z := 1) (v := n_) (w := n_ + 1) rfl rfl (by omega) (by omega) (by omega) ?_ -- pc_ 132
        refine sm_T_go 1 (c1 := (8, [some (.inr (.inr (some (11, 0)))), some (.inr (.inr (some (2, cc_)))), some (.inl a2_), some (.inl a3_), some (.inl (n_ + 1)), some (.inl g_), some (.inl ms_), some (.inl k_), none], [], sm_aI S_ 100 0 n_.toNat (i_add (S_.2.2.1 100 0 n_.toNat) ms_))) rfl ?_
        refine sm_T_wk [some (.inr (.inr (some (11, 0)))), some (.inr (.inr (some (2, cc_)))), some (.inl a2_), some (.inl a3_), some (.inl (n_ + 1)), none, none, none, none] (by exact ⟨rfl, rfl, rfl, rfl, rfl, trivial⟩) ?_
        refine ih_.1 (n_ + 1) (sm_aI S_ 100 0 n_.toNat (i_add (S_.2.2.1 100 0 n_.toNat) ms_)) hIx10_ hFx11_ ⟨?_, trivial⟩ ?_
        · omega
        · omega
      · have cx7_ : ¬ (vx6_ ≤ k_) := of_decide_eq_false cx7_
        refine sm_T_go 6 (c1 := (83, [some (.inr (.inr (some (11, 0)))), some (.inr (.inr (some (2, cc_)))), some (.inl a2_), some (.inl a3_), some (.inl n_), some (.inl g_), some (.inl ms_), some (.inl k_), none], [.inl g_, .inl 3, .inr (.inr (some (36, (0 + cc_)))), .inr (.inr (some (100, 0)))], S_)) rfl ?_
        refine sm_T_bin (w := 3 * g_) rfl (bi_mul (by omega) (by omega) (by omega)) ?_ -- pc_ 83
        refine sm_T_go 1 (c1 := (86, [some (.inr (.inr (some (11, 0)))), some (.inr (.inr (some (2, cc_)))), some (.inl a2_), some (.inl a3_), some (.inl n_), some (.inl g_), some (.inl ms_), some (.inl k_), none], [.inl k_, .inl (3 * g_), .inr (.inr (some (36, (0 + cc_)))), .inr (.inr (some (100, 0)))], S_)) rfl ?_
        refine sm_T_bin (w := 3 * g_ + k_) rfl (bi_add (by omega) (by omega) (by omega)) ?_ -- pc_ 86
        refine sm_T_iald (n := 450) rfl rfl (by omega) (by omega) ?_
        have bx12_ : 0 ≤ S_.2.2.1 36 (0 + cc_) (3 * g_ + k_).toNat ∧ S_.2.2.1 36 (0 + cc_) (3 * g_ + k_).toNat ≤ 161 := hI_.2 36 (0 + cc_) _
        refine sm_T_iald (n := 162) rfl rfl (by omega) (by omega) ?_
        have bx13_ : (-2147483648) ≤ S_.2.2.1 100 0 (S_.2.2.1 36 (0 + cc_) (3 * g_ + k_).toNat).toNat ∧ S_.2.2.1 100 0 (S_.2.2.1 36 (0 + cc_) (3 * g_ + k_).toNat).toNat ≤ 2147483647 := hI_.2 100 0 _
        refine sm_T_go 2 (c1 := (92, [some (.inr (.inr (some (11, 0)))), some (.inr (.inr (some (2, cc_)))), some (.inl a2_), some (.inl a3_), some (.inl n_), some (.inl g_), some (.inl ms_), some (.inl k_), some (.inl (S_.2.2.1 100 0 (S_.2.2.1 36 (0 + cc_) (3 * g_ + k_).toNat).toNat))], [.inl a3_], S_)) rfl ?_
        refine sm_T_b0 (a := 0) (z := 13) rfl (fun cx14_ => ?_) (fun cx14_ => ?_)
        · have cx14_ : a3_ = 0 := of_decide_eq_true cx14_
          refine sm_T_go 2 (c1 := (109, [some (.inr (.inr (some (11, 0)))), some (.inr (.inr (some (2, cc_)))), some (.inl a2_), some (.inl a3_), some (.inl n_), some (.inl g_), some (.inl ms_), some (.inl k_), some (.inl (S_.2.2.1 100 0 (S_.2.2.1 36 (0 + cc_) (3 * g_ + k_).toNat).toNat))], [.inl (S_.2.2.1 100 0 (S_.2.2.1 36 (0 + cc_) (3 * g_ + k_).toNat).toNat), .inl ms_], S_)) rfl ?_
          refine sm_T_nt (u := some (.inl (sm_mn ms_ (S_.2.2.1 100 0 (S_.2.2.1 36 (0 + cc_) (3 * g_ + k_).toNat).toNat)))) (S1 := S_) rfl rfl rfl ?_
          have bx15_ := sm_mn_d ms_ (S_.2.2.1 100 0 (S_.2.2.1 36 (0 + cc_) (3 * g_ + k_).toNat).toNat)
          refine sm_T_go 1 (c1 := (114, [some (.inr (.inr (some (11, 0)))), some (.inr (.inr (some (2, cc_)))), some (.inl a2_), some (.inl a3_), some (.inl n_), some (.inl g_), some (.inl (sm_mn ms_ (S_.2.2.1 100 0 (S_.2.2.1 36 (0 + cc_) (3 * g_ + k_).toNat).toNat))), some (.inl k_), some (.inl (S_.2.2.1 100 0 (S_.2.2.1 36 (0 + cc_) (3 * g_ + k_).toNat).toNat))], [], S_)) rfl ?_
          refine sm_T_inc (a := 7) (z := 1) (v := k_) (w := k_ + 1) rfl rfl (by omega) (by omega) (by omega) ?_ -- pc_ 114
          refine sm_T_go 1 (c1 := (61, [some (.inr (.inr (some (11, 0)))), some (.inr (.inr (some (2, cc_)))), some (.inl a2_), some (.inl a3_), some (.inl n_), some (.inl g_), some (.inl (sm_mn ms_ (S_.2.2.1 100 0 (S_.2.2.1 36 (0 + cc_) (3 * g_ + k_).toNat).toNat))), some (.inl (k_ + 1)), some (.inl (S_.2.2.1 100 0 (S_.2.2.1 36 (0 + cc_) (3 * g_ + k_).toNat).toNat))], [], S_)) rfl ?_
          refine sm_T_wk [some (.inr (.inr (some (11, 0)))), some (.inr (.inr (some (2, cc_)))), some (.inl a2_), some (.inl a3_), some (.inl n_), some (.inl g_), some (.inl (sm_mn ms_ (S_.2.2.1 100 0 (S_.2.2.1 36 (0 + cc_) (3 * g_ + k_).toNat).toNat))), some (.inl (k_ + 1)), none] (by exact ⟨rfl, rfl, rfl, rfl, rfl, rfl, rfl, rfl, trivial⟩) ?_
          refine ih_.2 n_ g_ (sm_mn ms_ (S_.2.2.1 100 0 (S_.2.2.1 36 (0 + cc_) (3 * g_ + k_).toNat).toNat)) (k_ + 1) S_ hI_ hF_ ⟨?_, trivial⟩ ?_
          · omega
          · omega
        · have cx14_ : ¬ (a3_ = 0) := of_decide_eq_false cx14_
          refine sm_T_go 2 (c1 := (99, [some (.inr (.inr (some (11, 0)))), some (.inr (.inr (some (2, cc_)))), some (.inl a2_), some (.inl a3_), some (.inl n_), some (.inl g_), some (.inl ms_), some (.inl k_), some (.inl (S_.2.2.1 100 0 (S_.2.2.1 36 (0 + cc_) (3 * g_ + k_).toNat).toNat))], [.inl (S_.2.2.1 100 0 (S_.2.2.1 36 (0 + cc_) (3 * g_ + k_).toNat).toNat), .inl ms_], S_)) rfl ?_
          refine sm_T_nt (u := some (.inl (sm_mx ms_ (S_.2.2.1 100 0 (S_.2.2.1 36 (0 + cc_) (3 * g_ + k_).toNat).toNat)))) (S1 := S_) rfl rfl rfl ?_
          have bx16_ := sm_mx_d ms_ (S_.2.2.1 100 0 (S_.2.2.1 36 (0 + cc_) (3 * g_ + k_).toNat).toNat)
          refine sm_T_go 2 (c1 := (114, [some (.inr (.inr (some (11, 0)))), some (.inr (.inr (some (2, cc_)))), some (.inl a2_), some (.inl a3_), some (.inl n_), some (.inl g_), some (.inl (sm_mx ms_ (S_.2.2.1 100 0 (S_.2.2.1 36 (0 + cc_) (3 * g_ + k_).toNat).toNat))), some (.inl k_), some (.inl (S_.2.2.1 100 0 (S_.2.2.1 36 (0 + cc_) (3 * g_ + k_).toNat).toNat))], [], S_)) rfl ?_
          refine sm_T_inc (a := 7) (z := 1) (v := k_) (w := k_ + 1) rfl rfl (by omega) (by omega) (by omega) ?_ -- pc_ 114
          refine sm_T_go 1 (c1 := (61, [some (.inr (.inr (some (11, 0)))), some (.inr (.inr (some (2, cc_)))), some (.inl a2_), some (.inl a3_), some (.inl n_), some (.inl g_), some (.inl (sm_mx ms_ (S_.2.2.1 100 0 (S_.2.2.1 36 (0 + cc_) (3 * g_ + k_).toNat).toNat))), some (.inl (k_ + 1)), some (.inl (S_.2.2.1 100 0 (S_.2.2.1 36 (0 + cc_) (3 * g_ + k_).toNat).toNat))], [], S_)) rfl ?_
          refine sm_T_wk [some (.inr (.inr (some (11, 0)))), some (.inr (.inr (some (2, cc_)))), some (.inl a2_), some (.inl a3_), some (.inl n_), some (.inl g_), some (.inl (sm_mx ms_ (S_.2.2.1 100 0 (S_.2.2.1 36 (0 + cc_) (3 * g_ + k_).toNat).toNat))), some (.inl (k_ + 1)), none] (by exact ⟨rfl, rfl, rfl, rfl, rfl, rfl, rfl, rfl, trivial⟩) ?_
          refine ih_.2 n_ g_ (sm_mx ms_ (S_.2.2.1 100 0 (S_.2.2.1 36 (0 + cc_) (3 * g_ + k_).toNat).toNat)) (k_ + 1) S_ hI_ hF_ ⟨?_, trivial⟩ ?_
          · omega
          · omega
set_option maxHeartbeats 400000 in
theorem vc_197 {sc_ : Nat × (Nat → Int)} (a2_ : Int) (a3_ : Int) (cc_ : Nat) (S0_ : sm_S) (hI_ : gi S0_) (hs_ : S0_.1 2 cc_ 1 + S0_.1 2 cc_ 2 ≤ 12) (h2_ : 0 ≤ a2_ ∧ a2_ < S0_.1 2 cc_ 1 + S0_.1 2 cc_ 2 + S0_.1 2 cc_ 8) : sm_T (mt_P sc_) 2 197 (0, [some (.inr (.inr (some (11, 0)))), some (.inr (.inr (some (2, cc_)))), some (.inl a2_), some (.inl a3_), none, none, none, none, none], [], S0_) (fun ro9_ => ∃ u_ S1_, ro9_ = (.inl u_, S1_, 0) ∧ vq_197 a2_ a3_ cc_ S0_ u_ S1_) := by
  have hF_ : ai_fr (sx_W vw_197) S0_ S0_ := ai_fr_rf
  have ki_ : 0 ≤ S0_.1 2 cc_ 1 ∧ S0_.1 2 cc_ 1 ≤ 12 := hI_.1 2 cc_ 1 rfl
  have kr_ : 0 ≤ S0_.1 2 cc_ 2 ∧ S0_.1 2 cc_ 2 ≤ 6 := hI_.1 2 cc_ 2 rfl
  have kg_ : 0 ≤ S0_.1 2 cc_ 8 ∧ S0_.1 2 cc_ 8 ≤ 150 := hI_.1 2 cc_ 8 rfl
  refine sm_T_go 2 (c1 := (2, [some (.inr (.inr (some (11, 0)))), some (.inr (.inr (some (2, cc_)))), some (.inl a2_), some (.inl a3_), none, none, none, none, none], [.inr (.inr (some (2, cc_))), .inr (.inr (some (11, 0)))], S0_)) rfl ?_
  refine sm_T_cal (d1 := 1) (Q1 := vq_196 cc_ S0_) rfl rfl (by decide) (vc_196 cc_ S0_ hI_ (by omega)) (fun u_ Sx1_ px4_ => ?_)
  obtain ⟨rfl, hIx2_, hFx3_, px4_⟩ := px4_
  have hFx5_ : ai_fr (sx_W vw_197) S0_ Sx1_ := ai_fr_tr hF_ (fr_le hFx3_ rfl)
  refine sm_T_go 2 (c1 := (8, [some (.inr (.inr (some (11, 0)))), some (.inr (.inr (some (2, cc_)))), some (.inl a2_), some (.inl a3_), some (.inl 0), none, none, none, none], [], Sx1_)) rfl ?_
  refine (vl_197 a2_ a3_ cc_ S0_ hs_ h2_ _).1 0 Sx1_ hIx2_ hFx5_ ⟨?_, trivial⟩ (Nat.lt_succ_self _)
  · omega
end
/-! 99.zm1c -/
section
/-! java/util/Arrays.fill -/
def vw_2r1 : sx_Wl := ([], [101], [])
def vq_2r1 (v0_ : Int) (S0_ : sm_S) (u_ : Option sm_V) (S1_ : sm_S) : Prop := u_ = none ∧ gi S1_ ∧ ai_fr (sx_W vw_2r1) S0_ S1_ ∧ (∀ j_, j_ < 1944 → S1_.2.2.1 101 0 j_ = v0_)
set_option maxHeartbeats 400000 in
theorem vl_2r1 {sc_ : Nat × (Nat → Int)} (v0_ : Int) (S0_ : sm_S) (hv_ : (-2147483648) ≤ v0_ ∧ v0_ ≤ 2147483647) : ∀ nn_ : Nat, (∀ (k_ : Int) (S_ : sm_S), gi S_ → ai_fr (sx_W vw_2r1) S0_ S_ → ((0 ≤ k_ ∧ k_ ≤ 1944) ∧ (∀ j_, j_ < k_.toNat → S_.2.2.1 101 0 j_ = v0_) ∧ True) → ((1944 - k_).toNat) < nn_ → sm_T (mt_P sc_) 0 2 (5, [some (.inr (.inr (some (101, 0)))), some (.inl v0_), some (.inl k_), some (.inl 1944)], [], S_) (fun ro9_ => ∃ u_ S1_, ro9_ = (.inl u_, S1_, 0) ∧ vq_2r1 v0_ S0_ u_ S1_)) := by
  intro nn_
  induction nn_ with
  | zero => exact fun _ _ _ _ _ h_ => absurd h_ (Nat.not_lt_zero _)
  | succ nn_ ih_ =>
    rintro k_ S_ hI_ hF_ ⟨h0_, h1_, -⟩ hm_
    refine sm_T_go 2 (c1 := (7, [some (.inr (.inr (some (101, 0)))), some (.inl v0_), some (.inl k_), some (.inl 1944)], [.inl 1944, .inl k_], S_)) rfl ?_
    refine sm_T_br (a := 3) (z := 13) rfl (fun cx1_ => ?_) (fun cx1_ => ?_)
    · have cx1_ : 1944 ≤ k_ := of_decide_eq_true cx1_
      refine sm_T_rv rfl ⟨_, _, rfl, rfl, hI_, hF_, ?_⟩
      exact fun j_ hj_ => h1_ j_ (by omega)
    · have cx1_ : ¬ (1944 ≤ k_) := of_decide_eq_false cx1_
      refine sm_T_go 3 (c1 := (13, [some (.inr (.inr (some (101, 0)))), some (.inl v0_), some (.inl k_), some (.inl 1944)], [.inl v0_, .inl k_, .inr (.inr (some (101, 0)))], S_)) rfl ?_
      refine sm_T_iast (n := 1944) rfl rfl (by omega) (by omega) ?_
      have hIx2_ : gi (sm_aI S_ 101 0 k_.toNat v0_) := gi_aI hI_ (show (-2147483648) ≤ v0_ ∧ v0_ ≤ 2147483647 from ⟨by omega, by omega⟩)
      have hFx3_ : ai_fr (sx_W vw_2r1) S0_ (sm_aI S_ 101 0 k_.toNat v0_) := ai_fr_tr hF_ (ai_fr_aI rfl)
      refine sm_T_inc (a := 2) (z := 1) (v := k_) (w := k_ + 1) rfl rfl (by omega) (by omega) (by omega) ?_ -- pc_ 14
      refine sm_T_go 1 (c1 := (5, [some (.inr (.inr (some (101, 0)))), some (.inl v0_), some (.inl (k_ + 1)), some (.inl 1944)], [], sm_aI S_ 101 0 k_.toNat v0_)) rfl ?_
      refine ih_ (k_ + 1) (sm_aI S_ 101 0 k_.toNat v0_) hIx2_ hFx3_ ⟨?_, ?_, trivial⟩ ?_
      · omega
      · intro j_ hj_
        rw [rd_eq]
        by_cases z_ : j_ = k_.toNat
        · rw [if_pos z_]
        · rw [if_neg z_]; exact h1_ j_ (by omega)
      · omega
set_option maxHeartbeats 400000 in
theorem vc_2r1 {sc_ : Nat × (Nat → Int)} (v0_ : Int) (S0_ : sm_S) (hI_ : gi S0_) (hv_ : (-2147483648) ≤ v0_ ∧ v0_ ≤ 2147483647) : sm_T (mt_P sc_) 0 2 (0, [some (.inr (.inr (some (101, 0)))), some (.inl v0_), none, none], [], S0_) (fun ro9_ => ∃ u_ S1_, ro9_ = (.inl u_, S1_, 0) ∧ vq_2r1 v0_ S0_ u_ S1_) := by
  have hF_ : ai_fr (sx_W vw_2r1) S0_ S0_ := ai_fr_rf
  refine sm_T_go 5 (c1 := (5, [some (.inr (.inr (some (101, 0)))), some (.inl v0_), some (.inl 0), some (.inl 1944)], [], S0_)) rfl ?_
  refine (vl_2r1 v0_ S0_ hv_ _) 0 S0_ hI_ hF_ ⟨?_, ?_, trivial⟩ (Nat.lt_succ_self _)
  · omega
  · (intro j_ hj_; exact absurd hj_ (Nat.not_lt_zero _))
end
/-! 99.zm1d -/
section
/-! Times.findRest -/
def vw_200 : sx_Wl := ([], [101], [])
def vq_200 (cc_ : Nat) (S0_ : sm_S) (u_ : Option sm_V) (S1_ : sm_S) : Prop := u_ = none ∧ gi S1_ ∧ ai_fr (sx_W vw_200) S0_ S1_ ∧ (True)
set_option maxHeartbeats 400000 in
set_option maxRecDepth 20000 in
theorem vl_200 {sc_ : Nat × (Nat → Int)} (cc_ : Nat) (S0_ : sm_S) (hs_ : S0_.1 2 cc_ 1 + S0_.1 2 cc_ 2 ≤ 12) : ∀ nn_ : Nat, (∀ (n_ : Int) (S_ : sm_S), gi S_ → ai_fr (sx_W vw_200) S0_ S_ → ((0 ≤ n_ ∧ n_ ≤ 12) ∧ True) → ((100000 * (20 - n_) + 90000).toNat) < nn_ → sm_T (mt_P sc_) 1 200 (10, [some (.inr (.inr (some (11, 0)))), some (.inr (.inr (some (2, cc_)))), some (.inl n_), none, none, none, none, none], [], S_) (fun ro9_ => ∃ u_ S1_, ro9_ = (.inl u_, S1_, 0) ∧ vq_200 cc_ S0_ u_ S1_)) ∧ (∀ (n_ : Int) (bs_ : Int) (e_ : Int) (S_ : sm_S), gi S_ → ai_fr (sx_W vw_200) S0_ S_ → ((0 ≤ n_ ∧ n_ < 12 ∧ bs_ = 162 * n_ ∧ 0 ≤ e_ ∧ e_ ≤ 22) ∧ True) → ((100000 * (20 - n_) + 80000 - e_).toNat) < nn_ → sm_T (mt_P sc_) 1 200 (27, [some (.inr (.inr (some (11, 0)))), some (.inr (.inr (some (2, cc_)))), some (.inl n_), some (.inl bs_), some (.inl e_), none, none, none], [], S_) (fun ro9_ => ∃ u_ S1_, ro9_ = (.inl u_, S1_, 0) ∧ vq_200 cc_ S0_ u_ S1_)) ∧ (∀ (n_ : Int) (bs_ : Int) (g_ : Int) (S_ : sm_S), gi S_ → ai_fr (sx_W vw_200) S0_ S_ → ((0 ≤ n_ ∧ n_ < 12 ∧ bs_ = 162 * n_ ∧ -1 ≤ g_ ∧ g_ ≤ 149) ∧ True) → ((100000 * (20 - n_) + 10 * g_ + 20).toNat) < nn_ → sm_T (mt_P sc_) 1 200 (112, [some (.inr (.inr (some (11, 0)))), some (.inr (.inr (some (2, cc_)))), some (.inl n_), some (.inl bs_), some (.inl g_), none, none, none], [], S_) (fun ro9_ => ∃ u_ S1_, ro9_ = (.inl u_, S1_, 0) ∧ vq_200 cc_ S0_ u_ S1_)) ∧ (∀ (n_ : Int) (bs_ : Int) (g_ : Int) (nt_ : Int) (k_ : Int) (S_ : sm_S), gi S_ → ai_fr (sx_W vw_200) S0_ S_ → ((0 ≤ n_ ∧ n_ < 12 ∧ bs_ = 162 * n_ ∧ 0 ≤ g_ ∧ g_ ≤ 149 ∧ 0 ≤ nt_ ∧ nt_ ≤ 161 ∧ 0 ≤ k_ ∧ k_ ≤ 3) ∧ True) → ((100000 * (20 - n_) + 10 * g_ + 19 - k_).toNat) < nn_ → sm_T (mt_P sc_) 1 200 (129, [some (.inr (.inr (some (11, 0)))), some (.inr (.inr (some (2, cc_)))), some (.inl n_), some (.inl bs_), some (.inl g_), some (.inl nt_), some (.inl k_), none], [], S_) (fun ro9_ => ∃ u_ S1_, ro9_ = (.inl u_, S1_, 0) ∧ vq_200 cc_ S0_ u_ S1_)) := by
  intro nn_
  induction nn_ with
  | zero => exact ⟨fun _ _ _ _ _ h_ => absurd h_ (Nat.not_lt_zero _), fun _ _ _ _ _ _ _ h_ => absurd h_ (Nat.not_lt_zero _), fun _ _ _ _ _ _ _ h_ => absurd h_ (Nat.not_lt_zero _), fun _ _ _ _ _ _ _ _ _ h_ => absurd h_ (Nat.not_lt_zero _)⟩
  | succ nn_ ih_ =>
    refine ⟨?_, ?_, ?_, ?_⟩
    · rintro n_ S_ hI_ hF_ ⟨h0_, -⟩ hm_
      have z1_ : S_.1 2 cc_ 1 = S0_.1 2 cc_ 1 := hF_.1 2 cc_ 1 rfl
      have z2_ : S_.1 2 cc_ 2 = S0_.1 2 cc_ 2 := hF_.1 2 cc_ 2 rfl
      have cg9_ : 0 ≤ S_.1 2 cc_ 8 ∧ S_.1 2 cc_ 8 ≤ 150 := hI_.1 2 cc_ 8 rfl
      have ci_ : 0 ≤ S_.1 2 cc_ 1 ∧ S_.1 2 cc_ 1 ≤ 12 := hI_.1 2 cc_ 1 rfl
      have cr : 0 ≤ S_.1 2 cc_ 2 ∧ S_.1 2 cc_ 2 ≤ 6 := hI_.1 2 cc_ 2 rfl
      have co_ : 0 ≤ S_.1 2 cc_ 3 ∧ S_.1 2 cc_ 3 ≤ 16 := hI_.1 2 cc_ 3 rfl
      refine sm_T_go 2 (c1 := (12, [some (.inr (.inr (some (11, 0)))), some (.inr (.inr (some (2, cc_)))), some (.inl n_), none, none, none, none, none], [.inr (.inr (some (2, cc_))), .inl n_], S_)) rfl ?_
      refine sm_T_cal (d1 := 0) (Q1 := vq_54 cc_ S_) rfl rfl (by decide) (vc_54 cc_ S_ hI_ ) (fun u_ Sx1_ px4_ => ?_)
      obtain ⟨rfl, vx6_, rfl, px4_⟩ := px4_
      have fg12_ := px4_.2
      refine sm_T_br (a := 3) (z := 206) rfl (fun cx7_ => ?_) (fun cx7_ => ?_)
      · have cx7_ : vx6_ ≤ n_ := of_decide_eq_true cx7_
        refine sm_T_rv rfl ⟨_, _, rfl, rfl, hI_, hF_, ?_⟩
        trivial
      · have cx7_ : ¬ (vx6_ ≤ n_) := of_decide_eq_false cx7_
        refine sm_T_go 2 (c1 := (22, [some (.inr (.inr (some (11, 0)))), some (.inr (.inr (some (2, cc_)))), some (.inl n_), none, none, none, none, none], [.inl 162, .inl n_], S_)) rfl ?_
        refine sm_T_bin (w := 162 * n_) rfl (bi_mul (by omega) (by omega) (by omega)) ?_ -- pc_ 22
        refine sm_T_go 3 (c1 := (27, [some (.inr (.inr (some (11, 0)))), some (.inr (.inr (some (2, cc_)))), some (.inl n_), some (.inl (162 * n_)), some (.inl 0), none, none, none], [], S_)) rfl ?_
        refine ih_.2.1 n_ (162 * n_) 0 S_ hI_ hF_ ⟨?_, trivial⟩ ?_
        · omega
        · omega
    · rintro n_ bs_ e_ S_ hI_ hF_ ⟨h0_, -⟩ hm_
      have z1_ : S_.1 2 cc_ 1 = S0_.1 2 cc_ 1 := hF_.1 2 cc_ 1 rfl
      have z2_ : S_.1 2 cc_ 2 = S0_.1 2 cc_ 2 := hF_.1 2 cc_ 2 rfl
      have cg9_ : 0 ≤ S_.1 2 cc_ 8 ∧ S_.1 2 cc_ 8 ≤ 150 := hI_.1 2 cc_ 8 rfl
      have ci_ : 0 ≤ S_.1 2 cc_ 1 ∧ S_.1 2 cc_ 1 ≤ 12 := hI_.1 2 cc_ 1 rfl
      have cr : 0 ≤ S_.1 2 cc_ 2 ∧ S_.1 2 cc_ 2 ≤ 6 := hI_.1 2 cc_ 2 rfl
      have co_ : 0 ≤ S_.1 2 cc_ 3 ∧ S_.1 2 cc_ 3 ≤ 16 := hI_.1 2 cc_ 3 rfl
      refine sm_T_go 2 (c1 := (30, [some (.inr (.inr (some (11, 0)))), some (.inr (.inr (some (2, cc_)))), some (.inl n_), some (.inl bs_), some (.inl e_), none, none, none], [.inr (.inr (some (2, cc_))), .inl e_], S_)) rfl ?_
      refine sm_T_cal (d1 := 0) (Q1 := vq_57 cc_ S_) rfl rfl (by decide) (vc_57 cc_ S_ hI_ ) (fun u_ Sx1_ px4_ => ?_)
      obtain ⟨rfl, vx6_, rfl, px4_⟩ := px4_
      have nt30_ := px4_.2
      refine sm_T_br (a := 3) (z := 71) rfl (fun cx7_ => ?_) (fun cx7_ => ?_)
      · have cx7_ : vx6_ ≤ e_ := of_decide_eq_true cx7_
        have bx8_ : 0 ≤ S_.1 2 cc_ 8 ∧ S_.1 2 cc_ 8 ≤ 150 := hI_.1 2 cc_ 8 rfl
        refine sm_T_go 3 (c1 := (109, [some (.inr (.inr (some (11, 0)))), some (.inr (.inr (some (2, cc_)))), some (.inl n_), some (.inl bs_), some (.inl e_), none, none, none], [.inl 1, .inl (S_.1 2 cc_ 8)], S_)) rfl ?_
        refine sm_T_bin (w := (S_.1 2 cc_ 8) - 1) rfl (bi_sub (by omega) (by omega) (by omega)) ?_ -- pc_ 109
        refine sm_T_go 1 (c1 := (112, [some (.inr (.inr (some (11, 0)))), some (.inr (.inr (some (2, cc_)))), some (.inl n_), some (.inl bs_), some (.inl ((S_.1 2 cc_ 8) - 1)), none, none, none], [], S_)) rfl ?_
        refine ih_.2.2.1 n_ bs_ ((S_.1 2 cc_ 8) - 1) S_ hI_ hF_ ⟨?_, trivial⟩ ?_
        · omega
        · omega
      · have cx7_ : ¬ (vx6_ ≤ e_) := of_decide_eq_false cx7_
        refine sm_T_go 2 (c1 := (39, [some (.inr (.inr (some (11, 0)))), some (.inr (.inr (some (2, cc_)))), some (.inl n_), some (.inl bs_), some (.inl e_), none, none, none], [.inl e_, .inr (.inr (some (2, cc_)))], S_)) rfl ?_
        refine sm_T_cal (d1 := 0) (Q1 := vq_58 e_ cc_ S_) rfl rfl (by decide) (vc_58 e_ cc_ S_ hI_ (by omega)) (fun u_ Sx9_ px12_ => ?_)
        obtain ⟨rfl, vx14_, rfl, px12_⟩ := px12_
        have en39_ := px12_
        refine sm_T_go 2 (c1 := (46, [some (.inr (.inr (some (11, 0)))), some (.inr (.inr (some (2, cc_)))), some (.inl n_), some (.inl bs_), some (.inl e_), some (.inl vx14_), none, none], [.inl vx14_], S_)) rfl ?_
        refine sm_T_b0 (a := 2) (z := 52) rfl (fun cx15_ => ?_) (fun cx15_ => ?_)
        · have cx15_ : vx14_ < 0 := of_decide_eq_true cx15_
          refine sm_T_inc (a := 4) (z := 1) (v := e_) (w := e_ + 1) rfl rfl (by omega) (by omega) (by omega) ?_ -- pc_ 98
          refine sm_T_go 1 (c1 := (27, [some (.inr (.inr (some (11, 0)))), some (.inr (.inr (some (2, cc_)))), some (.inl n_), some (.inl bs_), some (.inl (e_ + 1)), some (.inl vx14_), none, none], [], S_)) rfl ?_
          refine sm_T_wk [some (.inr (.inr (some (11, 0)))), some (.inr (.inr (some (2, cc_)))), some (.inl n_), some (.inl bs_), some (.inl (e_ + 1)), none, none, none] (by exact ⟨rfl, rfl, rfl, rfl, rfl, trivial⟩) ?_
          refine ih_.2.1 n_ bs_ (e_ + 1) S_ hI_ hF_ ⟨?_, trivial⟩ ?_
          · omega
          · omega
        · have cx15_ : ¬ (vx14_ < 0) := of_decide_eq_false cx15_
          refine sm_T_go 3 (c1 := (54, [some (.inr (.inr (some (11, 0)))), some (.inr (.inr (some (2, cc_)))), some (.inl n_), some (.inl bs_), some (.inl e_), some (.inl vx14_), none, none], [.inl n_, .inr (.inr (some (39, (0 + cc_))))], S_)) rfl ?_
          refine sm_T_iald (n := 12) rfl rfl (by omega) (by omega) ?_
          have bx16_ : 0 ≤ S_.2.2.1 39 (0 + cc_) n_.toNat ∧ S_.2.2.1 39 (0 + cc_) n_.toNat ≤ 4194303 := hI_.2 39 (0 + cc_) _
          refine sm_T_go 1 (c1 := (57, [some (.inr (.inr (some (11, 0)))), some (.inr (.inr (some (2, cc_)))), some (.inl n_), some (.inl bs_), some (.inl e_), some (.inl vx14_), none, none], [.inl e_, .inl (S_.2.2.1 39 (0 + cc_) n_.toNat)], S_)) rfl ?_
          refine sm_T_bin (w := (i_shr (S_.2.2.1 39 (0 + cc_) n_.toNat) e_)) rfl rfl ?_ -- pc_ 57
          first | have bx17_ := i_shr_p (x_ := (S_.2.2.1 39 (0 + cc_) n_.toNat)) (e_ := e_) (by omega) (by omega) (by omega) | have bx17_ := i_shr_n (S_.2.2.1 39 (0 + cc_) n_.toNat) e_
          refine sm_T_go 1 (c1 := (59, [some (.inr (.inr (some (11, 0)))), some (.inr (.inr (some (2, cc_)))), some (.inl n_), some (.inl bs_), some (.inl e_), some (.inl vx14_), none, none], [.inl 1, .inl (i_shr (S_.2.2.1 39 (0 + cc_) n_.toNat) e_)], S_)) rfl ?_
          refine sm_T_bin (w := ((i_shr (S_.2.2.1 39 (0 + cc_) n_.toNat) e_) % 2)) rfl (bi_msk (k := 1) (by decide)) ?_ -- pc_ 59
          refine sm_T_b0 (a := 1) (z := 38) rfl (fun cx18_ => ?_) (fun cx18_ => ?_)
          · have cx18_ : ((i_shr (S_.2.2.1 39 (0 + cc_) n_.toNat) e_) % 2) ≠ 0 := of_decide_eq_true cx18_
            refine sm_T_inc (a := 4) (z := 1) (v := e_) (w := e_ + 1) rfl rfl (by omega) (by omega) (by omega) ?_ -- pc_ 98
            refine sm_T_go 1 (c1 := (27, [some (.inr (.inr (some (11, 0)))), some (.inr (.inr (some (2, cc_)))), some (.inl n_), some (.inl bs_), some (.inl (e_ + 1)), some (.inl vx14_), none, none], [], S_)) rfl ?_
            refine sm_T_wk [some (.inr (.inr (some (11, 0)))), some (.inr (.inr (some (2, cc_)))), some (.inl n_), some (.inl bs_), some (.inl (e_ + 1)), none, none, none] (by exact ⟨rfl, rfl, rfl, rfl, rfl, trivial⟩) ?_
            refine ih_.2.1 n_ bs_ (e_ + 1) S_ hI_ hF_ ⟨?_, trivial⟩ ?_
            · omega
            · omega
          · have cx18_ : ¬ (((i_shr (S_.2.2.1 39 (0 + cc_) n_.toNat) e_) % 2) ≠ 0) := of_decide_eq_false cx18_
            refine sm_T_go 4 (c1 := (70, [some (.inr (.inr (some (11, 0)))), some (.inr (.inr (some (2, cc_)))), some (.inl n_), some (.inl bs_), some (.inl e_), some (.inl vx14_), none, none], [.inl vx14_, .inl bs_, .inr (.inr (some (101, 0)))], S_)) rfl ?_
            refine sm_T_bin (w := bs_ + vx14_) rfl (bi_add (by omega) (by omega) (by omega)) ?_ -- pc_ 70
            refine sm_T_go 4 (c1 := (78, [some (.inr (.inr (some (11, 0)))), some (.inr (.inr (some (2, cc_)))), some (.inl n_), some (.inl bs_), some (.inl e_), some (.inl vx14_), none, none], [.inl vx14_, .inl bs_, .inr (.inr (some (101, 0))), .inl (bs_ + vx14_), .inr (.inr (some (101, 0)))], S_)) rfl ?_
            refine sm_T_bin (w := bs_ + vx14_) rfl (bi_add (by omega) (by omega) (by omega)) ?_ -- pc_ 78
            refine sm_T_iald (n := 1944) rfl rfl (by omega) (by omega) ?_
            have bx19_ : (-2147483648) ≤ S_.2.2.1 101 0 (bs_ + vx14_).toNat ∧ S_.2.2.1 101 0 (bs_ + vx14_).toNat ≤ 2147483647 := hI_.2 101 0 _
            have bx20_ : 0 ≤ S_.1 2 cc_ 3 ∧ S_.1 2 cc_ 3 ≤ 16 := hI_.1 2 cc_ 3 rfl
            refine sm_T_go 3 (c1 := (86, [some (.inr (.inr (some (11, 0)))), some (.inr (.inr (some (2, cc_)))), some (.inl n_), some (.inl bs_), some (.inl e_), some (.inl vx14_), none, none], [.inl (S_.1 2 cc_ 3), .inl e_, .inl (S_.2.2.1 101 0 (bs_ + vx14_).toNat), .inl (bs_ + vx14_), .inr (.inr (some (101, 0)))], S_)) rfl ?_
            refine sm_T_br (a := 3) (z := 7) rfl (fun cx21_ => ?_) (fun cx21_ => ?_)
            · have cx21_ : (S_.1 2 cc_ 3) ≤ e_ := of_decide_eq_true cx21_
              refine sm_T_go 1 (c1 := (94, [some (.inr (.inr (some (11, 0)))), some (.inr (.inr (some (2, cc_)))), some (.inl n_), some (.inl bs_), some (.inl e_), some (.inl vx14_), none, none], [.inl 2, .inl (S_.2.2.1 101 0 (bs_ + vx14_).toNat), .inl (bs_ + vx14_), .inr (.inr (some (101, 0)))], S_)) rfl ?_
              refine sm_T_nt (u := some (.inl (sm_mx (S_.2.2.1 101 0 (bs_ + vx14_).toNat) 2))) (S1 := S_) rfl rfl rfl ?_
              have bx22_ := sm_mx_d (S_.2.2.1 101 0 (bs_ + vx14_).toNat) 2
              refine sm_T_iast (n := 1944) rfl rfl (by omega) (by omega) ?_
              have hIx23_ : gi (sm_aI S_ 101 0 (bs_ + vx14_).toNat (sm_mx (S_.2.2.1 101 0 (bs_ + vx14_).toNat) 2)) := gi_aI hI_ (show (-2147483648) ≤ (sm_mx (S_.2.2.1 101 0 (bs_ + vx14_).toNat) 2) ∧ (sm_mx (S_.2.2.1 101 0 (bs_ + vx14_).toNat) 2) ≤ 2147483647 from ⟨by omega, by omega⟩)
              have hFx24_ : ai_fr (sx_W vw_200) S0_ (sm_aI S_ 101 0 (bs_ + vx14_).toNat (sm_mx (S_.2.2.1 101 0 (bs_ + vx14_).toNat) 2)) := ai_fr_tr hF_ (ai_fr_aI rfl)
              refine sm_T_inc (a := 4) (z := 1) (v := e_) (w := e_ + 1) rfl rfl (by omega) (by omega) (by omega) ?_ -- pc_ 98
              refine sm_T_go 1 (c1 := (27, [some (.inr (.inr (some (11, 0)))), some (.inr (.inr (some (2, cc_)))), some (.inl n_), some (.inl bs_), some (.inl (e_ + 1)), some (.inl vx14_), none, none], [], sm_aI S_ 101 0 (bs_ + vx14_).toNat (sm_mx (S_.2.2.1 101 0 (bs_ + vx14_).toNat) 2))) rfl ?_
              refine sm_T_wk [some (.inr (.inr (some (11, 0)))), some (.inr (.inr (some (2, cc_)))), some (.inl n_), some (.inl bs_), some (.inl (e_ + 1)), none, none, none] (by exact ⟨rfl, rfl, rfl, rfl, rfl, trivial⟩) ?_
              refine ih_.2.1 n_ bs_ (e_ + 1) (sm_aI S_ 101 0 (bs_ + vx14_).toNat (sm_mx (S_.2.2.1 101 0 (bs_ + vx14_).toNat) 2)) hIx23_ hFx24_ ⟨?_, trivial⟩ ?_
              · omega
              · omega
            · have cx21_ : ¬ ((S_.1 2 cc_ 3) ≤ e_) := of_decide_eq_false cx21_
              refine sm_T_go 2 (c1 := (94, [some (.inr (.inr (some (11, 0)))), some (.inr (.inr (some (2, cc_)))), some (.inl n_), some (.inl bs_), some (.inl e_), some (.inl vx14_), none, none], [.inl 0, .inl (S_.2.2.1 101 0 (bs_ + vx14_).toNat), .inl (bs_ + vx14_), .inr (.inr (some (101, 0)))], S_)) rfl ?_
              refine sm_T_nt (u := some (.inl (sm_mx (S_.2.2.1 101 0 (bs_ + vx14_).toNat) 0))) (S1 := S_) rfl rfl rfl ?_
              have bx25_ := sm_mx_d (S_.2.2.1 101 0 (bs_ + vx14_).toNat) 0
              refine sm_T_iast (n := 1944) rfl rfl (by omega) (by omega) ?_
              have hIx26_ : gi (sm_aI S_ 101 0 (bs_ + vx14_).toNat (sm_mx (S_.2.2.1 101 0 (bs_ + vx14_).toNat) 0)) := gi_aI hI_ (show (-2147483648) ≤ (sm_mx (S_.2.2.1 101 0 (bs_ + vx14_).toNat) 0) ∧ (sm_mx (S_.2.2.1 101 0 (bs_ + vx14_).toNat) 0) ≤ 2147483647 from ⟨by omega, by omega⟩)
              have hFx27_ : ai_fr (sx_W vw_200) S0_ (sm_aI S_ 101 0 (bs_ + vx14_).toNat (sm_mx (S_.2.2.1 101 0 (bs_ + vx14_).toNat) 0)) := ai_fr_tr hF_ (ai_fr_aI rfl)
              refine sm_T_inc (a := 4) (z := 1) (v := e_) (w := e_ + 1) rfl rfl (by omega) (by omega) (by omega) ?_ -- pc_ 98
              refine sm_T_go 1 (c1 := (27, [some (.inr (.inr (some (11, 0)))), some (.inr (.inr (some (2, cc_)))), some (.inl n_), some (.inl bs_), some (.inl (e_ + 1)), some (.inl vx14_), none, none], [], sm_aI S_ 101 0 (bs_ + vx14_).toNat (sm_mx (S_.2.2.1 101 0 (bs_ + vx14_).toNat) 0))) rfl ?_
              refine sm_T_wk [some (.inr (.inr (some (11, 0)))), some (.inr (.inr (some (2, cc_)))), some (.inl n_), some (.inl bs_), some (.inl (e_ + 1)), none, none, none] (by exact ⟨rfl, rfl, rfl, rfl, rfl, trivial⟩) ?_
              refine ih_.2.1 n_ bs_ (e_ + 1) (sm_aI S_ 101 0 (bs_ + vx14_).toNat (sm_mx (S_.2.2.1 101 0 (bs_ + vx14_).toNat) 0)) hIx26_ hFx27_ ⟨?_, trivial⟩ ?_
              · omega
              · omega
    · rintro n_ bs_ g_ S_ hI_ hF_ ⟨h0_, -⟩ hm_
      have z1_ : S_.1 2 cc_ 1 = S0_.1 2 cc_ 1 := hF_.1 2 cc_ 1 rfl
      have z2_ : S_.1 2 cc_ 2 = S0_.1 2 cc_ 2 := hF_.1 2 cc_ 2 rfl
      have cg9_ : 0 ≤ S_.1 2 cc_ 8 ∧ S_.1 2 cc_ 8 ≤ 150 := hI_.1 2 cc_ 8 rfl
      have ci_ : 0 ≤ S_.1 2 cc_ 1 ∧ S_.1 2 cc_ 1 ≤ 12 := hI_.1 2 cc_ 1 rfl
      have cr : 0 ≤ S_.1 2 cc_ 2 ∧ S_.1 2 cc_ 2 ≤ 6 := hI_.1 2 cc_ 2 rfl
      have co_ : 0 ≤ S_.1 2 cc_ 3 ∧ S_.1 2 cc_ 3 ≤ 16 := hI_.1 2 cc_ 3 rfl
      refine sm_T_go 1 (c1 := (114, [some (.inr (.inr (some (11, 0)))), some (.inr (.inr (some (2, cc_)))), some (.inl n_), some (.inl bs_), some (.inl g_), none, none, none], [.inl g_], S_)) rfl ?_
      refine sm_T_b0 (a := 2) (z := 101) rfl (fun cx1_ => ?_) (fun cx1_ => ?_)
      · have cx1_ : g_ < 0 := of_decide_eq_true cx1_
        refine sm_T_inc (a := 2) (z := 1) (v := n_) (w := n_ + 1) rfl rfl (by omega) (by omega) (by omega) ?_ -- pc_ 215
        refine sm_T_go 1 (c1 := (10, [some (.inr (.inr (some (11, 0)))), some (.inr (.inr (some (2, cc_)))), some (.inl (n_ + 1)), some (.inl bs_), some (.inl g_), none, none, none], [], S_)) rfl ?_
        refine sm_T_wk [some (.inr (.inr (some (11, 0)))), some (.inr (.inr (some (2, cc_)))), some (.inl (n_ + 1)), none, none, none, none, none] (by exact ⟨rfl, rfl, rfl, trivial⟩) ?_
        refine ih_.1 (n_ + 1) S_ hI_ hF_ ⟨?_, trivial⟩ ?_
        · omega
        · omega
      · have cx1_ : ¬ (g_ < 0) := of_decide_eq_false cx1_
        refine sm_T_go 1 (c1 := (118, [some (.inr (.inr (some (11, 0)))), some (.inr (.inr (some (2, cc_)))), some (.inl n_), some (.inl bs_), some (.inl g_), none, none, none], [.inr (.inr (some (2, cc_)))], S_)) rfl ?_
        refine sm_T_cal (d1 := 0) (Q1 := vq_54 cc_ S_) rfl rfl (by decide) (vc_54 cc_ S_ hI_ ) (fun u_ Sx2_ px5_ => ?_)
        obtain ⟨rfl, vx7_, rfl, px5_⟩ := px5_
        have fg118_ := px5_.2
        refine sm_T_go 1 (c1 := (123, [some (.inr (.inr (some (11, 0)))), some (.inr (.inr (some (2, cc_)))), some (.inl n_), some (.inl bs_), some (.inl g_), none, none, none], [.inl g_, .inl vx7_], S_)) rfl ?_
        refine sm_T_bin (w := vx7_ + g_) rfl (bi_add (by omega) (by omega) (by omega)) ?_ -- pc_ 123
        refine sm_T_go 3 (c1 := (129, [some (.inr (.inr (some (11, 0)))), some (.inr (.inr (some (2, cc_)))), some (.inl n_), some (.inl bs_), some (.inl g_), some (.inl (vx7_ + g_)), some (.inl 0), none], [], S_)) rfl ?_
        refine ih_.2.2.2 n_ bs_ g_ (vx7_ + g_) 0 S_ hI_ hF_ ⟨?_, trivial⟩ ?_
        · omega
        · omega
    · rintro n_ bs_ g_ nt_ k_ S_ hI_ hF_ ⟨h0_, -⟩ hm_
      have z1_ : S_.1 2 cc_ 1 = S0_.1 2 cc_ 1 := hF_.1 2 cc_ 1 rfl
      have z2_ : S_.1 2 cc_ 2 = S0_.1 2 cc_ 2 := hF_.1 2 cc_ 2 rfl
      have cg9_ : 0 ≤ S_.1 2 cc_ 8 ∧ S_.1 2 cc_ 8 ≤ 150 := hI_.1 2 cc_ 8 rfl
      have ci_ : 0 ≤ S_.1 2 cc_ 1 ∧ S_.1 2 cc_ 1 ≤ 12 := hI_.1 2 cc_ 1 rfl
      have cr : 0 ≤ S_.1 2 cc_ 2 ∧ S_.1 2 cc_ 2 ≤ 6 := hI_.1 2 cc_ 2 rfl
      have co_ : 0 ≤ S_.1 2 cc_ 3 ∧ S_.1 2 cc_ 3 ≤ 16 := hI_.1 2 cc_ 3 rfl
      refine sm_T_go 4 (c1 := (136, [some (.inr (.inr (some (11, 0)))), some (.inr (.inr (some (2, cc_)))), some (.inl n_), some (.inl bs_), some (.inl g_), some (.inl nt_), some (.inl k_), none], [.inl nt_, .inl bs_, .inr (.inr (some (101, 0)))], S_)) rfl ?_
      refine sm_T_bin (w := bs_ + nt_) rfl (bi_add (by omega) (by omega) (by omega)) ?_ -- pc_ 136
      refine sm_T_iald (n := 1944) rfl rfl (by omega) (by omega) ?_
      have bx1_ : (-2147483648) ≤ S_.2.2.1 101 0 (bs_ + nt_).toNat ∧ S_.2.2.1 101 0 (bs_ + nt_).toNat ≤ 2147483647 := hI_.2 101 0 _
      refine sm_T_go 1 (c1 := (139, [some (.inr (.inr (some (11, 0)))), some (.inr (.inr (some (2, cc_)))), some (.inl n_), some (.inl bs_), some (.inl g_), some (.inl nt_), some (.inl k_), none], [.inl (-1), .inl (S_.2.2.1 101 0 (bs_ + nt_).toNat)], S_)) rfl ?_
      refine sm_T_br (a := 0) (z := 70) rfl (fun cx2_ => ?_) (fun cx2_ => ?_)
      · have cx2_ : (S_.2.2.1 101 0 (bs_ + nt_).toNat) = (-1) := of_decide_eq_true cx2_
        refine sm_T_inc (a := 4) (z := (-1)) (v := g_) (w := g_ - 1) rfl rfl (by omega) (by omega) (by omega) ?_ -- pc_ 209
        refine sm_T_go 1 (c1 := (112, [some (.inr (.inr (some (11, 0)))), some (.inr (.inr (some (2, cc_)))), some (.inl n_), some (.inl bs_), some (.inl (g_ - 1)), some (.inl nt_), some (.inl k_), none], [], S_)) rfl ?_
        refine sm_T_wk [some (.inr (.inr (some (11, 0)))), some (.inr (.inr (some (2, cc_)))), some (.inl n_), some (.inl bs_), some (.inl (g_ - 1)), none, none, none] (by exact ⟨rfl, rfl, rfl, rfl, rfl, trivial⟩) ?_
        refine ih_.2.2.1 n_ bs_ (g_ - 1) S_ hI_ hF_ ⟨?_, trivial⟩ ?_
        · omega
        · omega
      · have cx2_ : ¬ ((S_.2.2.1 101 0 (bs_ + nt_).toNat) = (-1)) := of_decide_eq_false cx2_
        refine sm_T_go 3 (c1 := (147, [some (.inr (.inr (some (11, 0)))), some (.inr (.inr (some (2, cc_)))), some (.inl n_), some (.inl bs_), some (.inl g_), some (.inl nt_), some (.inl k_), none], [.inl g_, .inr (.inr (some (2, cc_))), .inl k_], S_)) rfl ?_
        refine sm_T_cal (d1 := 0) (Q1 := vq_59 g_ cc_ S_) rfl rfl (by decide) (vc_59 g_ cc_ S_ hI_ (by omega)) (fun u_ Sx3_ px6_ => ?_)
        obtain ⟨rfl, vx8_, rfl, px6_⟩ := px6_
        have gi147_ := px6_.1
        refine sm_T_br (a := 3) (z := 59) rfl (fun cx9_ => ?_) (fun cx9_ => ?_)
        · have cx9_ : vx8_ ≤ k_ := of_decide_eq_true cx9_
          refine sm_T_inc (a := 4) (z := (-1)) (v := g_) (w := g_ - 1) rfl rfl (by omega) (by omega) (by omega) ?_ -- pc_ 209
          refine sm_T_go 1 (c1 := (112, [some (.inr (.inr (some (11, 0)))), some (.inr (.inr (some (2, cc_)))), some (.inl n_), some (.inl bs_), some (.inl (g_ - 1)), some (.inl nt_), some (.inl k_), none], [], S_)) rfl ?_
          refine sm_T_wk [some (.inr (.inr (some (11, 0)))), some (.inr (.inr (some (2, cc_)))), some (.inl n_), some (.inl bs_), some (.inl (g_ - 1)), none, none, none] (by exact ⟨rfl, rfl, rfl, rfl, rfl, trivial⟩) ?_
          refine ih_.2.2.1 n_ bs_ (g_ - 1) S_ hI_ hF_ ⟨?_, trivial⟩ ?_
          · omega
          · omega
        · have cx9_ : ¬ (vx8_ ≤ k_) := of_decide_eq_false cx9_
          refine sm_T_go 5 (c1 := (161, [some (.inr (.inr (some (11, 0)))), some (.inr (.inr (some (2, cc_)))), some (.inl n_), some (.inl bs_), some (.inl g_), some (.inl nt_), some (.inl k_), none], [.inl g_, .inl 3, .inr (.inr (some (36, (0 + cc_)))), .inl bs_], S_)) rfl ?_
          refine sm_T_bin (w := 3 * g_) rfl (bi_mul (by omega) (by omega) (by omega)) ?_ -- pc_ 161
          refine sm_T_go 1 (c1 := (164, [some (.inr (.inr (some (11, 0)))), some (.inr (.inr (some (2, cc_)))), some (.inl n_), some (.inl bs_), some (.inl g_), some (.inl nt_), some (.inl k_), none], [.inl k_, .inl (3 * g_), .inr (.inr (some (36, (0 + cc_)))), .inl bs_], S_)) rfl ?_
          refine sm_T_bin (w := 3 * g_ + k_) rfl (bi_add (by omega) (by omega) (by omega)) ?_ -- pc_ 164
          refine sm_T_iald (n := 450) rfl rfl (by omega) (by omega) ?_
          have bx10_ : 0 ≤ S_.2.2.1 36 (0 + cc_) (3 * g_ + k_).toNat ∧ S_.2.2.1 36 (0 + cc_) (3 * g_ + k_).toNat ≤ 161 := hI_.2 36 (0 + cc_) _
          refine sm_T_bin (w := bs_ + (S_.2.2.1 36 (0 + cc_) (3 * g_ + k_).toNat)) rfl (bi_add (by omega) (by omega) (by omega)) ?_ -- pc_ 166
          refine sm_T_go 7 (c1 := (181, [some (.inr (.inr (some (11, 0)))), some (.inr (.inr (some (2, cc_)))), some (.inl n_), some (.inl bs_), some (.inl g_), some (.inl nt_), some (.inl k_), some (.inl (bs_ + (S_.2.2.1 36 (0 + cc_) (3 * g_ + k_).toNat)))], [.inl (bs_ + (S_.2.2.1 36 (0 + cc_) (3 * g_ + k_).toNat)), .inr (.inr (some (101, 0))), .inl (bs_ + (S_.2.2.1 36 (0 + cc_) (3 * g_ + k_).toNat)), .inr (.inr (some (101, 0)))], S_)) rfl ?_
          refine sm_T_iald (n := 1944) rfl rfl (by omega) (by omega) ?_
          have bx11_ : (-2147483648) ≤ S_.2.2.1 101 0 (bs_ + (S_.2.2.1 36 (0 + cc_) (3 * g_ + k_).toNat)).toNat ∧ S_.2.2.1 101 0 (bs_ + (S_.2.2.1 36 (0 + cc_) (3 * g_ + k_).toNat)).toNat ≤ 2147483647 := hI_.2 101 0 _
          refine sm_T_go 3 (c1 := (188, [some (.inr (.inr (some (11, 0)))), some (.inr (.inr (some (2, cc_)))), some (.inl n_), some (.inl bs_), some (.inl g_), some (.inl nt_), some (.inl k_), some (.inl (bs_ + (S_.2.2.1 36 (0 + cc_) (3 * g_ + k_).toNat)))], [.inl nt_, .inr (.inr (some (99, 0))), .inl (S_.2.2.1 101 0 (bs_ + (S_.2.2.1 36 (0 + cc_) (3 * g_ + k_).toNat)).toNat), .inl (bs_ + (S_.2.2.1 36 (0 + cc_) (3 * g_ + k_).toNat)), .inr (.inr (some (101, 0)))], S_)) rfl ?_
          refine sm_T_iald (n := 162) rfl rfl (by omega) (by omega) ?_
          have bx12_ : (-2147483648) ≤ S_.2.2.1 99 0 nt_.toNat ∧ S_.2.2.1 99 0 nt_.toNat ≤ 2147483647 := hI_.2 99 0 _
          refine sm_T_go 4 (c1 := (196, [some (.inr (.inr (some (11, 0)))), some (.inr (.inr (some (2, cc_)))), some (.inl n_), some (.inl bs_), some (.inl g_), some (.inl nt_), some (.inl k_), some (.inl (bs_ + (S_.2.2.1 36 (0 + cc_) (3 * g_ + k_).toNat)))], [.inl nt_, .inl bs_, .inr (.inr (some (101, 0))), .inl (S_.2.2.1 99 0 nt_.toNat), .inl (S_.2.2.1 101 0 (bs_ + (S_.2.2.1 36 (0 + cc_) (3 * g_ + k_).toNat)).toNat), .inl (bs_ + (S_.2.2.1 36 (0 + cc_) (3 * g_ + k_).toNat)), .inr (.inr (some (101, 0)))], S_)) rfl ?_
          refine sm_T_bin (w := bs_ + nt_) rfl (bi_add (by omega) (by omega) (by omega)) ?_ -- pc_ 196
          refine sm_T_iald (n := 1944) rfl rfl (by omega) (by omega) ?_
          refine sm_T_bin (w := (i_add (S_.2.2.1 99 0 nt_.toNat) (S_.2.2.1 101 0 (bs_ + nt_).toNat))) rfl rfl ?_ -- pc_ 198
          have bx13_ := i_add_r (S_.2.2.1 99 0 nt_.toNat) (S_.2.2.1 101 0 (bs_ + nt_).toNat)
          refine sm_T_nt (u := some (.inl (sm_mx (S_.2.2.1 101 0 (bs_ + (S_.2.2.1 36 (0 + cc_) (3 * g_ + k_).toNat)).toNat) (i_add (S_.2.2.1 99 0 nt_.toNat) (S_.2.2.1 101 0 (bs_ + nt_).toNat))))) (S1 := S_) rfl rfl rfl ?_
          have bx14_ := sm_mx_d (S_.2.2.1 101 0 (bs_ + (S_.2.2.1 36 (0 + cc_) (3 * g_ + k_).toNat)).toNat) (i_add (S_.2.2.1 99 0 nt_.toNat) (S_.2.2.1 101 0 (bs_ + nt_).toNat))
          refine sm_T_iast (n := 1944) rfl rfl (by omega) (by omega) ?_
          have hIx15_ : gi (sm_aI S_ 101 0 (bs_ + (S_.2.2.1 36 (0 + cc_) (3 * g_ + k_).toNat)).toNat (sm_mx (S_.2.2.1 101 0 (bs_ + (S_.2.2.1 36 (0 + cc_) (3 * g_ + k_).toNat)).toNat) (i_add (S_.2.2.1 99 0 nt_.toNat) (S_.2.2.1 101 0 (bs_ + nt_).toNat)))) := gi_aI hI_ (show (-2147483648) ≤ (sm_mx (S_.2.2.1 101 0 (bs_ + (S_.2.2.1 36 (0 + cc_) (3 * g_ + k_).toNat)).toNat) (i_add (S_.2.2.1 99 0 nt_.toNat) (S_.2.2.1 101 0 (bs_ + nt_).toNat))) ∧ (sm_mx (S_.2.2.1 101 0 (bs_ + (S_.2.2.1 36 (0 + cc_) (3 * g_ + k_).toNat)).toNat) (i_add (S_.2.2.1 99 0 nt_.toNat) (S_.2.2.1 101 0 (bs_ + nt_).toNat))) ≤ 2147483647 from ⟨by omega, by omega⟩)
          have hFx16_ : ai_fr (sx_W vw_200) S0_ (sm_aI S_ 101 0 (bs_ + (S_.2.2.1 36 (0 + cc_) (3 * g_ + k_).toNat)).toNat (sm_mx (S_.2.2.1 101 0 (bs_ + (S_.2.2.1 36 (0 + cc_) (3 * g_ + k_).toNat)).toNat) (i_add (S_.2.2.1 99 0 nt_.toNat) (S_.2.2.1 101 0 (bs_ + nt_).toNat)))) := ai_fr_tr hF_ (ai_fr_aI rfl)
          refine sm_T_inc (a := 6) (z := 1) (v := k_) (w := k_ + 1) rfl rfl (by omega) (by omega) (by omega) ?_ -- pc_ 203
          refine sm_T_go 1 (c1 := (129, [some (.inr (.inr (some (11, 0)))), some (.inr (.inr (some (2, cc_)))), some (.inl n_), some (.inl bs_), some (.inl g_), some (.inl nt_), some (.inl (k_ + 1)), some (.inl (bs_ + (S_.2.2.1 36 (0 + cc_) (3 * g_ + k_).toNat)))], [], sm_aI S_ 101 0 (bs_ + (S_.2.2.1 36 (0 + cc_) (3 * g_ + k_).toNat)).toNat (sm_mx (S_.2.2.1 101 0 (bs_ + (S_.2.2.1 36 (0 + cc_) (3 * g_ + k_).toNat)).toNat) (i_add (S_.2.2.1 99 0 nt_.toNat) (S_.2.2.1 101 0 (bs_ + nt_).toNat))))) rfl ?_
          refine sm_T_wk [some (.inr (.inr (some (11, 0)))), some (.inr (.inr (some (2, cc_)))), some (.inl n_), some (.inl bs_), some (.inl g_), some (.inl nt_), some (.inl (k_ + 1)), none] (by exact ⟨rfl, rfl, rfl, rfl, rfl, rfl, rfl, trivial⟩) ?_
          refine ih_.2.2.2 n_ bs_ g_ nt_ (k_ + 1) (sm_aI S_ 101 0 (bs_ + (S_.2.2.1 36 (0 + cc_) (3 * g_ + k_).toNat)).toNat (sm_mx (S_.2.2.1 101 0 (bs_ + (S_.2.2.1 36 (0 + cc_) (3 * g_ + k_).toNat)).toNat) (i_add (S_.2.2.1 99 0 nt_.toNat) (S_.2.2.1 101 0 (bs_ + nt_).toNat)))) hIx15_ hFx16_ ⟨?_, trivial⟩ ?_
          · omega
          · omega
set_option maxHeartbeats 400000 in
set_option maxRecDepth 20000 in
theorem vc_200 {sc_ : Nat × (Nat → Int)} (cc_ : Nat) (S0_ : sm_S) (hI_ : gi S0_) (hs_ : S0_.1 2 cc_ 1 + S0_.1 2 cc_ 2 ≤ 12) : sm_T (mt_P sc_) 1 200 (0, [some (.inr (.inr (some (11, 0)))), some (.inr (.inr (some (2, cc_)))), none, none, none, none, none, none], [], S0_) (fun ro9_ => ∃ u_ S1_, ro9_ = (.inl u_, S1_, 0) ∧ vq_200 cc_ S0_ u_ S1_) := by
  have hF_ : ai_fr (sx_W vw_200) S0_ S0_ := ai_fr_rf
  refine sm_T_go 3 (c1 := (5, [some (.inr (.inr (some (11, 0)))), some (.inr (.inr (some (2, cc_)))), none, none, none, none, none, none], [.inl (-1), .inr (.inr (some (101, 0)))], S0_)) rfl ?_
  refine sm_T_cal (d1 := 0) (Q1 := vq_2r1 (-1) S0_) rfl rfl (by decide) (vc_2r1 (-1) S0_ hI_ (by decide)) (fun u_ Sx1_ px4_ => ?_)
  obtain ⟨rfl, hIx2_, hFx3_, px4_⟩ := px4_
  have hFx5_ : ai_fr (sx_W vw_200) S0_ Sx1_ := ai_fr_tr hF_ (fr_le hFx3_ rfl)
  refine sm_T_go 2 (c1 := (10, [some (.inr (.inr (some (11, 0)))), some (.inr (.inr (some (2, cc_)))), some (.inl 0), none, none, none, none, none], [], Sx1_)) rfl ?_
  refine (vl_200 cc_ S0_ hs_ _).1 0 Sx1_ hIx2_ hFx5_ ⟨?_, trivial⟩ (Nat.lt_succ_self _)
  · omega
end
/-! 99.zm1e -/
section
/-! Times.putChange -/
def vw_206 : sx_Wl := ([(11, 16)], [108, 109], [])
def vq_206 (a1_ : Int) (a2_ : Int) (S0_ : sm_S) (u_ : Option sm_V) (S1_ : sm_S) : Prop := u_ = none ∧ gi S1_ ∧ ai_fr (sx_W vw_206) S0_ S1_ ∧ (True)
set_option maxHeartbeats 400000 in
theorem vc_206 {sc_ : Nat × (Nat → Int)} (a1_ : Int) (a2_ : Int) (S0_ : sm_S) (hI_ : gi S0_) (h1_ : 0 ≤ a1_ ∧ a1_ ≤ 161) (h2_ : -2147483648 ≤ a2_ ∧ a2_ ≤ 2147483647) : sm_T (mt_P sc_) 0 206 (0, [some (.inr (.inr (some (11, 0)))), some (.inl a1_), some (.inl a2_), none], [], S0_) (fun ro9_ => ∃ u_ S1_, ro9_ = (.inl u_, S1_, 0) ∧ vq_206 a1_ a2_ S0_ u_ S1_) := by
  have hF_ : ai_fr (sx_W vw_206) S0_ S0_ := ai_fr_rf
  refine sm_T_go 4 (c1 := (6, [some (.inr (.inr (some (11, 0)))), some (.inl a1_), some (.inl a2_), none], [.inl 1, .inl a1_, .inr (.inr (some (108, 0)))], S0_)) rfl ?_
  refine sm_T_bin (w := a1_ + 1) rfl (bi_add (by omega) (by omega) (by omega)) ?_ -- pc_ 6
  refine sm_T_iald (n := 163) rfl rfl (by omega) (by omega) ?_
  have bx1_ : 0 ≤ S0_.2.2.1 108 0 (a1_ + 1).toNat ∧ S0_.2.2.1 108 0 (a1_ + 1).toNat ≤ 20000 := hI_.2 108 0 _
  refine sm_T_go 3 (c1 := (13, [some (.inr (.inr (some (11, 0)))), some (.inl a1_), some (.inl a2_), some (.inl (S0_.2.2.1 108 0 (a1_ + 1).toNat))], [.inl 20000, .inl (S0_.2.2.1 108 0 (a1_ + 1).toNat)], S0_)) rfl ?_
  refine sm_T_br (a := 1) (z := 11) rfl (fun cx2_ => ?_) (fun cx2_ => ?_)
  · have cx2_ : (S0_.2.2.1 108 0 (a1_ + 1).toNat) ≠ 20000 := of_decide_eq_true cx2_
    refine sm_T_go 4 (c1 := (30, [some (.inr (.inr (some (11, 0)))), some (.inl a1_), some (.inl a2_), some (.inl (S0_.2.2.1 108 0 (a1_ + 1).toNat))], [.inl a2_, .inl (S0_.2.2.1 108 0 (a1_ + 1).toNat), .inr (.inr (some (109, 0)))], S0_)) rfl ?_
    refine sm_T_iast (n := 20000) rfl rfl (by omega) (by omega) ?_
    have hIx3_ : gi (sm_aI S0_ 109 0 (S0_.2.2.1 108 0 (a1_ + 1).toNat).toNat a2_) := gi_aI hI_ (show (-2147483648) ≤ a2_ ∧ a2_ ≤ 2147483647 from ⟨by omega, by omega⟩)
    have hFx4_ : ai_fr (sx_W vw_206) S0_ (sm_aI S0_ 109 0 (S0_.2.2.1 108 0 (a1_ + 1).toNat).toNat a2_) := ai_fr_tr hF_ (ai_fr_aI rfl)
    refine sm_T_go 4 (c1 := (37, [some (.inr (.inr (some (11, 0)))), some (.inl a1_), some (.inl a2_), some (.inl (S0_.2.2.1 108 0 (a1_ + 1).toNat))], [.inl 1, .inl a1_, .inr (.inr (some (108, 0)))], sm_aI S0_ 109 0 (S0_.2.2.1 108 0 (a1_ + 1).toNat).toNat a2_)) rfl ?_
    refine sm_T_bin (w := a1_ + 1) rfl (bi_add (by omega) (by omega) (by omega)) ?_ -- pc_ 37
    refine sm_T_go 1 (c1 := (39, [some (.inr (.inr (some (11, 0)))), some (.inl a1_), some (.inl a2_), some (.inl (S0_.2.2.1 108 0 (a1_ + 1).toNat))], [.inl (a1_ + 1), .inr (.inr (some (108, 0))), .inl (a1_ + 1), .inr (.inr (some (108, 0)))], sm_aI S0_ 109 0 (S0_.2.2.1 108 0 (a1_ + 1).toNat).toNat a2_)) rfl ?_
    refine sm_T_iald (n := 163) rfl rfl (by omega) (by omega) ?_
    refine sm_T_go 1 (c1 := (41, [some (.inr (.inr (some (11, 0)))), some (.inl a1_), some (.inl a2_), some (.inl (S0_.2.2.1 108 0 (a1_ + 1).toNat))], [.inl 1, .inl (S0_.2.2.1 108 0 (a1_ + 1).toNat), .inl (a1_ + 1), .inr (.inr (some (108, 0)))], sm_aI S0_ 109 0 (S0_.2.2.1 108 0 (a1_ + 1).toNat).toNat a2_)) rfl ?_
    refine sm_T_bin (w := (S0_.2.2.1 108 0 (a1_ + 1).toNat) + 1) rfl (bi_add (by omega) (by omega) (by omega)) ?_ -- pc_ 41
    refine sm_T_iast (n := 163) rfl rfl (by omega) (by omega) ?_
    have hIx5_ : gi (sm_aI (sm_aI S0_ 109 0 (S0_.2.2.1 108 0 (a1_ + 1).toNat).toNat a2_) 108 0 (a1_ + 1).toNat ((S0_.2.2.1 108 0 (a1_ + 1).toNat) + 1)) := gi_aI hIx3_ (show 0 ≤ (S0_.2.2.1 108 0 (a1_ + 1).toNat) + 1 ∧ (S0_.2.2.1 108 0 (a1_ + 1).toNat) + 1 ≤ 20000 from ⟨by omega, by omega⟩)
    have hFx6_ : ai_fr (sx_W vw_206) S0_ (sm_aI (sm_aI S0_ 109 0 (S0_.2.2.1 108 0 (a1_ + 1).toNat).toNat a2_) 108 0 (a1_ + 1).toNat ((S0_.2.2.1 108 0 (a1_ + 1).toNat) + 1)) := ai_fr_tr hFx4_ (ai_fr_aI rfl)
    refine sm_T_rv rfl ⟨_, _, rfl, rfl, hIx5_, hFx6_, ?_⟩
    trivial
  · have cx2_ : ¬ ((S0_.2.2.1 108 0 (a1_ + 1).toNat) ≠ 20000) := of_decide_eq_false cx2_
    have hIx7_ : gi (sm_pI S0_ 11 0 16 1) := gi_pI hI_ (show 0 ≤ 1 ∧ 1 ≤ 1 from ⟨by omega, by omega⟩)
    have hFx8_ : ai_fr (sx_W vw_206) S0_ (sm_pI S0_ 11 0 16 1) := ai_fr_tr hF_ (ai_fr_pI rfl)
    refine sm_T_go 4 (c1 := (43, [some (.inr (.inr (some (11, 0)))), some (.inl a1_), some (.inl a2_), some (.inl (S0_.2.2.1 108 0 (a1_ + 1).toNat))], [], sm_pI S0_ 11 0 16 1)) rfl ?_
    refine sm_T_rv rfl ⟨_, _, rfl, rfl, hIx7_, hFx8_, ?_⟩
    trivial
end
