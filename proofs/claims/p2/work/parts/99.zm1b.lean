/-! Times.arrivalOf -/
def vw_197 : sx_Wl := ([], [99, 100], [])
def vq_197 (a2_ : Int) (a3_ : Int) (cc_ : Nat) (S0_ : sm_S) (u_ : Option sm_V) (S1_ : sm_S) : Prop := ∃ v_ : Int, u_ = some (.inl v_) ∧ gi S1_ ∧ ai_fr (sx_W vw_197) S0_ S1_ ∧ (True)
set_option maxHeartbeats 400000 in
theorem vl_197 {sc_ : Nat × (Nat → Int)} (a2_ : Int) (a3_ : Int) (cc_ : Nat) (S0_ : sm_S) (hs_ : S0_.1 2 cc_ 1 + S0_.1 2 cc_ 2 ≤ 12) (h2_ : 0 ≤ a2_ ∧ a2_ < S0_.1 2 cc_ 1 + S0_.1 2 cc_ 2 + S0_.1 2 cc_ 8) : ∀ nn_ : Nat, (∀ (n_ : Int) (S_ : sm_S), gi S_ → ai_fr (sx_W vw_197) S0_ S_ → ((0 ≤ n_ ∧ n_ ≤ a2_ + 1) ∧ True) → ((100 * (500 - n_) + 90).toNat) < nn_ → sm_T (mt_P sc_) 2 197 (8, [some (.inr (.inr (some (11, 0)))), some (.inr (.inr (some (2, cc_)))), some (.inl a2_), some (.inl a3_), some (.inl n_), none, none, none, none], [], S_) (fun ro9_ => ∃ u_ S1_, ro9_ = (.inl u_, S1_, 0) ∧ vq_197 a2_ a3_ cc_ S0_ u_ S1_)) ∧ (∀ (n_ : Int) (g_ : Int) (ms_ : Int) (k_ : Int) (S_ : sm_S), gi S_ → ai_fr (sx_W vw_197) S0_ S_ → ((0 ≤ n_ ∧ n_ ≤ a2_ ∧ 0 ≤ g_ ∧ g_ ≤ 149 ∧ 1 ≤ k_ ∧ k_ ≤ 3) ∧ True) → ((100 * (500 - n_) + 80 - k_).toNat) < nn_ → sm_T (mt_P sc_) 2 197 (61, [some (.inr (.inr (some (11, 0)))), some (.inr (.inr (some (2, cc_)))), some (.inl a2_), some (.inl a3_), some (.inl n_), some (.inl g_), some (.inl ms_), some (.inl k_), none], [], S_) (fun ro9_ => ∃ u_ S1_, ro9_ = (.inl u_, S1_, 0) ∧ vq_197 a2_ a3_ cc_ S0_ u_ S1_)) := by
  intro nn_
  induction nn_ with
  | zero => exact ⟨fun _ _ _ _ _ h_ => absurd h_ (Nat.not_lt_zero _), fun _ _ _ _ _ _ _ _ h_ => absurd h_ (Nat.not_lt_zero _)⟩
  | succ nn_ ih_ =>
    refine ⟨?_, ?_⟩
    · rintro n_ S_ hI_ hF_ ⟨h0_, -⟩ hm_
      have z1_ : S_.1 2 cc_ 1 = S0_.1 2 cc_ 1 := hF_.1 2 cc_ 1 rfl
      have z2_ : S_.1 2 cc_ 2 = S0_.1 2 cc_ 2 := hF_.1 2 cc_ 2 rfl
      have cg9_ : 0 ≤ S_.1 2 cc_ 8 ∧ S_.1 2 cc_ 8 ≤ 150 := hI_.1 2 cc_ 8 rfl
      have ci_ : 0 ≤ S_.1 2 cc_ 1 ∧ S_.1 2 cc_ 1 ≤ 12 := hI_.1 2 cc_ 1 rfl
      have cr : 0 ≤ S_.1 2 cc_ 2 ∧ S_.1 2 cc_ 2 ≤ 6 := hI_.1 2 cc_ 2 rfl
      have z8_ : S_.1 2 cc_ 8 = S0_.1 2 cc_ 8 := hF_.1 2 cc_ 8 rfl
      refine sm_T_go 2 (c1 := (11, [some (.inr (.inr (some (11, 0)))), some (.inr (.inr (some (2, cc_)))), some (.inl a2_), some (.inl a3_), some (.inl n_), none, none, none, none], [.inl a2_, .inl n_], S_)) rfl ?_
      refine sm_T_br (a := 4) (z := 127) rfl (fun cx1_ => ?_) (fun cx1_ => ?_)
      · have cx1_ : a2_ < n_ := of_decide_eq_true cx1_
        refine sm_T_go 3 (c1 := (143, [some (.inr (.inr (some (11, 0)))), some (.inr (.inr (some (2, cc_)))), some (.inl a2_), some (.inl a3_), some (.inl n_), none, none, none, none], [.inl a2_, .inr (.inr (some (100, 0)))], S_)) rfl ?_
        refine sm_T_iald (n := 162) rfl rfl (by omega) (by omega) ?_
        have bx2_ : (-2147483648) ≤ S_.2.2.1 100 0 a2_.toNat ∧ S_.2.2.1 100 0 a2_.toNat ≤ 2147483647 := hI_.2 100 0 _
        refine sm_T_ri rfl ⟨_, _, rfl, _, rfl, hI_, hF_, ?_⟩
        trivial
      · have cx1_ : ¬ (a2_ < n_) := of_decide_eq_false cx1_
        refine sm_T_go 6 (c1 := (26, [some (.inr (.inr (some (11, 0)))), some (.inr (.inr (some (2, cc_)))), some (.inl a2_), some (.inl a3_), some (.inl n_), none, none, none, none], [.inl n_, .inr (.inr (some (99, 0))), .inl n_, .inr (.inr (some (100, 0)))], S_)) rfl ?_
        refine sm_T_iald (n := 162) rfl rfl (by omega) (by omega) ?_
        have bx3_ : (-2147483648) ≤ S_.2.2.1 99 0 n_.toNat ∧ S_.2.2.1 99 0 n_.toNat ≤ 2147483647 := hI_.2 99 0 _
        refine sm_T_iast (n := 162) rfl rfl (by omega) (by omega) ?_
        have hIx4_ : gi (sm_aI S_ 100 0 n_.toNat (S_.2.2.1 99 0 n_.toNat)) := gi_aI hI_ (show (-2147483648) ≤ (S_.2.2.1 99 0 n_.toNat) ∧ (S_.2.2.1 99 0 n_.toNat) ≤ 2147483647 from ⟨by omega, by omega⟩)
        have hFx5_ : ai_fr (sx_W vw_197) S0_ (sm_aI S_ 100 0 n_.toNat (S_.2.2.1 99 0 n_.toNat)) := ai_fr_tr hF_ (ai_fr_aI rfl)
        refine sm_T_go 2 (c1 := (31, [some (.inr (.inr (some (11, 0)))), some (.inr (.inr (some (2, cc_)))), some (.inl a2_), some (.inl a3_), some (.inl n_), none, none, none, none], [.inr (.inr (some (2, cc_))), .inl n_], sm_aI S_ 100 0 n_.toNat (S_.2.2.1 99 0 n_.toNat))) rfl ?_
        refine sm_T_cal (d1 := 0) (Q1 := vq_54 cc_ (sm_aI S_ 100 0 n_.toNat (S_.2.2.1 99 0 n_.toNat))) rfl rfl (by decide) (vc_54 cc_ (sm_aI S_ 100 0 n_.toNat (S_.2.2.1 99 0 n_.toNat)) hIx4_ ) (fun u_ Sx6_ px9_ => ?_)
        obtain ⟨rfl, vx11_, rfl, px9_⟩ := px9_
        have fg31_ := px9_.2
        simp only [rd_af] at fg31_
        refine sm_T_bin (w := n_ - vx11_) rfl (bi_sub (by omega) (by omega) (by omega)) ?_ -- pc_ 34
        refine sm_T_go 2 (c1 := (39, [some (.inr (.inr (some (11, 0)))), some (.inr (.inr (some (2, cc_)))), some (.inl a2_), some (.inl a3_), some (.inl n_), some (.inl (n_ - vx11_)), none, none, none], [.inl (n_ - vx11_)], sm_aI S_ 100 0 n_.toNat (S_.2.2.1 99 0 n_.toNat))) rfl ?_
        refine sm_T_b0 (a := 2) (z := 93) rfl (fun cx12_ => ?_) (fun cx12_ => ?_)
        · have cx12_ : n_ - vx11_ < 0 := of_decide_eq_true cx12_
          refine sm_T_inc (a := 4) (z := 1) (v := n_) (w := n_ + 1) rfl rfl (by omega) (by omega) (by omega) ?_ -- pc_ 132
          refine sm_T_go 1 (c1 := (8, [some (.inr (.inr (some (11, 0)))), some (.inr (.inr (some (2, cc_)))), some (.inl a2_), some (.inl a3_), some (.inl (n_ + 1)), some (.inl (n_ - vx11_)), none, none, none], [], sm_aI S_ 100 0 n_.toNat (S_.2.2.1 99 0 n_.toNat))) rfl ?_
          refine sm_T_wk [some (.inr (.inr (some (11, 0)))), some (.inr (.inr (some (2, cc_)))), some (.inl a2_), some (.inl a3_), some (.inl (n_ + 1)), none, none, none, none] (by exact ⟨rfl, rfl, rfl, rfl, rfl, trivial⟩) ?_
          refine ih_.1 (n_ + 1) (sm_aI S_ 100 0 n_.toNat (S_.2.2.1 99 0 n_.toNat)) hIx4_ hFx5_ ⟨?_, trivial⟩ ?_
          · omega
          · omega
        · have cx12_ : ¬ (n_ - vx11_ < 0) := of_decide_eq_false cx12_
          refine sm_T_go 6 (c1 := (53, [some (.inr (.inr (some (11, 0)))), some (.inr (.inr (some (2, cc_)))), some (.inl a2_), some (.inl a3_), some (.inl n_), some (.inl (n_ - vx11_)), none, none, none], [.inl (n_ - vx11_), .inl 3, .inr (.inr (some (36, (0 + cc_)))), .inr (.inr (some (100, 0)))], sm_aI S_ 100 0 n_.toNat (S_.2.2.1 99 0 n_.toNat))) rfl ?_
          refine sm_T_bin (w := 3 * n_ - 3 * vx11_) rfl (bi_mul (by omega) (by omega) (by omega)) ?_ -- pc_ 53
          refine sm_T_iald (n := 450) rfl rfl (by omega) (by omega) ?_
          have bx13_ : 0 ≤ S_.2.2.1 36 (0 + cc_) (3 * n_ - 3 * vx11_).toNat ∧ S_.2.2.1 36 (0 + cc_) (3 * n_ - 3 * vx11_).toNat ≤ 161 := hI_.2 36 (0 + cc_) _
          refine sm_T_go 0 (c1 := (55, [some (.inr (.inr (some (11, 0)))), some (.inr (.inr (some (2, cc_)))), some (.inl a2_), some (.inl a3_), some (.inl n_), some (.inl (n_ - vx11_)), none, none, none], [.inl (S_.2.2.1 36 (0 + cc_) (3 * n_ - 3 * vx11_).toNat), .inr (.inr (some (100, 0)))], sm_aI S_ 100 0 n_.toNat (S_.2.2.1 99 0 n_.toNat))) rfl ?_
          refine sm_T_iald (n := 162) rfl rfl (by omega) (by omega) ?_
          have bx14_ : (-2147483648) ≤ (sm_aI S_ 100 0 n_.toNat (S_.2.2.1 99 0 n_.toNat)).2.2.1 100 0 (S_.2.2.1 36 (0 + cc_) (3 * n_ - 3 * vx11_).toNat).toNat ∧ (sm_aI S_ 100 0 n_.toNat (S_.2.2.1 99 0 n_.toNat)).2.2.1 100 0 (S_.2.2.1 36 (0 + cc_) (3 * n_ - 3 * vx11_).toNat).toNat ≤ 2147483647 := hIx4_.2 100 0 _
          refine sm_T_go 3 (c1 := (61, [some (.inr (.inr (some (11, 0)))), some (.inr (.inr (some (2, cc_)))), some (.inl a2_), some (.inl a3_), some (.inl n_), some (.inl (n_ - vx11_)), some (.inl ((sm_aI S_ 100 0 n_.toNat (S_.2.2.1 99 0 n_.toNat)).2.2.1 100 0 (S_.2.2.1 36 (0 + cc_) (3 * n_ - 3 * vx11_).toNat).toNat)), some (.inl 1), none], [], sm_aI S_ 100 0 n_.toNat (S_.2.2.1 99 0 n_.toNat))) rfl ?_
          refine ih_.2 n_ (n_ - vx11_) ((sm_aI S_ 100 0 n_.toNat (S_.2.2.1 99 0 n_.toNat)).2.2.1 100 0 (S_.2.2.1 36 (0 + cc_) (3 * n_ - 3 * vx11_).toNat).toNat) 1 (sm_aI S_ 100 0 n_.toNat (S_.2.2.1 99 0 n_.toNat)) hIx4_ hFx5_ ⟨?_, trivial⟩ ?_
          · omega
          · omega
    · rintro n_ g_ ms_ k_ S_ hI_ hF_ ⟨h0_, -⟩ hm_
      have z1_ : S_.1 2 cc_ 1 = S0_.1 2 cc_ 1 := hF_.1 2 cc_ 1 rfl
      have z2_ : S_.1 2 cc_ 2 = S0_.1 2 cc_ 2 := hF_.1 2 cc_ 2 rfl
      have cg9_ : 0 ≤ S_.1 2 cc_ 8 ∧ S_.1 2 cc_ 8 ≤ 150 := hI_.1 2 cc_ 8 rfl
      have ci_ : 0 ≤ S_.1 2 cc_ 1 ∧ S_.1 2 cc_ 1 ≤ 12 := hI_.1 2 cc_ 1 rfl
      have cr : 0 ≤ S_.1 2 cc_ 2 ∧ S_.1 2 cc_ 2 ≤ 6 := hI_.1 2 cc_ 2 rfl
      have z8_ : S_.1 2 cc_ 8 = S0_.1 2 cc_ 8 := hF_.1 2 cc_ 8 rfl
      refine sm_T_go 3 (c1 := (66, [some (.inr (.inr (some (11, 0)))), some (.inr (.inr (some (2, cc_)))), some (.inl a2_), some (.inl a3_), some (.inl n_), some (.inl g_), some (.inl ms_), some (.inl k_), none], [.inl g_, .inr (.inr (some (2, cc_))), .inl k_], S_)) rfl ?_
      refine sm_T_cal (d1 := 0) (Q1 := vq_59 g_ cc_ S_) rfl rfl (by decide) (vc_59 g_ cc_ S_ hI_ (by omega)) (fun u_ Sx1_ px4_ => ?_)
      obtain ⟨rfl, vx6_, rfl, px4_⟩ := px4_
      have gi66_ := px4_.1
      refine sm_T_br (a := 3) (z := 51) rfl (fun cx7_ => ?_) (fun cx7_ => ?_)
      · have cx7_ : vx6_ ≤ k_ := of_decide_eq_true cx7_
        refine sm_T_go 4 (c1 := (127, [some (.inr (.inr (some (11, 0)))), some (.inr (.inr (some (2, cc_)))), some (.inl a2_), some (.inl a3_), some (.inl n_), some (.inl g_), some (.inl ms_), some (.inl k_), none], [.inl n_, .inr (.inr (some (100, 0))), .inl n_, .inr (.inr (some (100, 0)))], S_)) rfl ?_
        refine sm_T_iald (n := 162) rfl rfl (by omega) (by omega) ?_
        have bx8_ : (-2147483648) ≤ S_.2.2.1 100 0 n_.toNat ∧ S_.2.2.1 100 0 n_.toNat ≤ 2147483647 := hI_.2 100 0 _
        refine sm_T_go 1 (c1 := (130, [some (.inr (.inr (some (11, 0)))), some (.inr (.inr (some (2, cc_)))), some (.inl a2_), some (.inl a3_), some (.inl n_), some (.inl g_), some (.inl ms_), some (.inl k_), none], [.inl ms_, .inl (S_.2.2.1 100 0 n_.toNat), .inl n_, .inr (.inr (some (100, 0)))], S_)) rfl ?_
        refine sm_T_bin (w := (i_add (S_.2.2.1 100 0 n_.toNat) ms_)) rfl rfl ?_ -- pc_ 130
        have bx9_ := i_add_r (S_.2.2.1 100 0 n_.toNat) ms_
        refine sm_T_iast (n := 162) rfl rfl (by omega) (by omega) ?_
        have hIx10_ : gi (sm_aI S_ 100 0 n_.toNat (i_add (S_.2.2.1 100 0 n_.toNat) ms_)) := gi_aI hI_ (show (-2147483648) ≤ (i_add (S_.2.2.1 100 0 n_.toNat) ms_) ∧ (i_add (S_.2.2.1 100 0 n_.toNat) ms_) ≤ 2147483647 from ⟨by omega, by omega⟩)
        have hFx11_ : ai_fr (sx_W vw_197) S0_ (sm_aI S_ 100 0 n_.toNat (i_add (S_.2.2.1 100 0 n_.toNat) ms_)) := ai_fr_tr hF_ (ai_fr_aI rfl)
        refine sm_T_inc (a := 4) (z := 1) (v := n_) (w := n_ + 1) rfl rfl (by omega) (by omega) (by omega) ?_ -- pc_ 132
        refine sm_T_go 1 (c1 := (8, [some (.inr (.inr (some (11, 0)))), some (.inr (.inr (some (2, cc_)))), some (.inl a2_), some (.inl a3_), some (.inl (n_ + 1)), some (.inl g_), some (.inl ms_), some (.inl k_), none], [], sm_aI S_ 100 0 n_.toNat (i_add (S_.2.2.1 100 0 n_.toNat) ms_))) rfl ?_
        refine sm_T_wk [some (.inr (.inr (some (11, 0)))), some (.inr (.inr (some (2, cc_)))), some (.inl a2_), some (.inl a3_), some (.inl (n_ + 1)), none, none, none, none] (by exact ⟨rfl, rfl, rfl, rfl, rfl, trivial⟩) ?_
        refine ih_.1 (n_ + 1) (sm_aI S_ 100 0 n_.toNat (i_add (S_.2.2.1 100 0 n_.toNat) ms_)) hIx10_ hFx11_ ⟨?_, trivial⟩ ?_
        · omega
        · omega
      · have cx7_ : ¬ (vx6_ ≤ k_) := of_decide_eq_false cx7_
        refine sm_T_go 6 (c1 := (83, [some (.inr (.inr (some (11, 0)))), some (.inr (.inr (some (2, cc_)))), some (.inl a2_), some (.inl a3_), some (.inl n_), some (.inl g_), some (.inl ms_), some (.inl k_), none], [.inl g_, .inl 3, .inr (.inr (some (36, (0 + cc_)))), .inr (.inr (some (100, 0)))], S_)) rfl ?_
        refine sm_T_bin (w := 3 * g_) rfl (bi_mul (by omega) (by omega) (by omega)) ?_ -- pc_ 83
        refine sm_T_go 1 (c1 := (86, [some (.inr (.inr (some (11, 0)))), some (.inr (.inr (some (2, cc_)))), some (.inl a2_), some (.inl a3_), some (.inl n_), some (.inl g_), some (.inl ms_), some (.inl k_), none], [.inl k_, .inl (3 * g_), .inr (.inr (some (36, (0 + cc_)))), .inr (.inr (some (100, 0)))], S_)) rfl ?_
        refine sm_T_bin (w := 3 * g_ + k_) rfl (bi_add (by omega) (by omega) (by omega)) ?_ -- pc_ 86
        refine sm_T_iald (n := 450) rfl rfl (by omega) (by omega) ?_
        have bx12_ : 0 ≤ S_.2.2.1 36 (0 + cc_) (3 * g_ + k_).toNat ∧ S_.2.2.1 36 (0 + cc_) (3 * g_ + k_).toNat ≤ 161 := hI_.2 36 (0 + cc_) _
        refine sm_T_iald (n := 162) rfl rfl (by omega) (by omega) ?_
        have bx13_ : (-2147483648) ≤ S_.2.2.1 100 0 (S_.2.2.1 36 (0 + cc_) (3 * g_ + k_).toNat).toNat ∧ S_.2.2.1 100 0 (S_.2.2.1 36 (0 + cc_) (3 * g_ + k_).toNat).toNat ≤ 2147483647 := hI_.2 100 0 _
        refine sm_T_go 2 (c1 := (92, [some (.inr (.inr (some (11, 0)))), some (.inr (.inr (some (2, cc_)))), some (.inl a2_), some (.inl a3_), some (.inl n_), some (.inl g_), some (.inl ms_), some (.inl k_), some (.inl (S_.2.2.1 100 0 (S_.2.2.1 36 (0 + cc_) (3 * g_ + k_).toNat).toNat))], [.inl a3_], S_)) rfl ?_
        refine sm_T_b0 (a := 0) (z := 13) rfl (fun cx14_ => ?_) (fun cx14_ => ?_)
        · have cx14_ : a3_ = 0 := of_decide_eq_true cx14_
          refine sm_T_go 2 (c1 := (109, [some (.inr (.inr (some (11, 0)))), some (.inr (.inr (some (2, cc_)))), some (.inl a2_), some (.inl a3_), some (.inl n_), some (.inl g_), some (.inl ms_), some (.inl k_), some (.inl (S_.2.2.1 100 0 (S_.2.2.1 36 (0 + cc_) (3 * g_ + k_).toNat).toNat))], [.inl (S_.2.2.1 100 0 (S_.2.2.1 36 (0 + cc_) (3 * g_ + k_).toNat).toNat), .inl ms_], S_)) rfl ?_
          refine sm_T_nt (u := some (.inl (sm_mn ms_ (S_.2.2.1 100 0 (S_.2.2.1 36 (0 + cc_) (3 * g_ + k_).toNat).toNat)))) (S1 := S_) rfl rfl rfl ?_
          have bx15_ := sm_mn_d ms_ (S_.2.2.1 100 0 (S_.2.2.1 36 (0 + cc_) (3 * g_ + k_).toNat).toNat)
          refine sm_T_go 1 (c1 := (114, [some (.inr (.inr (some (11, 0)))), some (.inr (.inr (some (2, cc_)))), some (.inl a2_), some (.inl a3_), some (.inl n_), some (.inl g_), some (.inl (sm_mn ms_ (S_.2.2.1 100 0 (S_.2.2.1 36 (0 + cc_) (3 * g_ + k_).toNat).toNat))), some (.inl k_), some (.inl (S_.2.2.1 100 0 (S_.2.2.1 36 (0 + cc_) (3 * g_ + k_).toNat).toNat))], [], S_)) rfl ?_
          refine sm_T_inc (a := 7) (z := 1) (v := k_) (w := k_ + 1) rfl rfl (by omega) (by omega) (by omega) ?_ -- pc_ 114
          refine sm_T_go 1 (c1 := (61, [some (.inr (.inr (some (11, 0)))), some (.inr (.inr (some (2, cc_)))), some (.inl a2_), some (.inl a3_), some (.inl n_), some (.inl g_), some (.inl (sm_mn ms_ (S_.2.2.1 100 0 (S_.2.2.1 36 (0 + cc_) (3 * g_ + k_).toNat).toNat))), some (.inl (k_ + 1)), some (.inl (S_.2.2.1 100 0 (S_.2.2.1 36 (0 + cc_) (3 * g_ + k_).toNat).toNat))], [], S_)) rfl ?_
          refine sm_T_wk [some (.inr (.inr (some (11, 0)))), some (.inr (.inr (some (2, cc_)))), some (.inl a2_), some (.inl a3_), some (.inl n_), some (.inl g_), some (.inl (sm_mn ms_ (S_.2.2.1 100 0 (S_.2.2.1 36 (0 + cc_) (3 * g_ + k_).toNat).toNat))), some (.inl (k_ + 1)), none] (by exact ⟨rfl, rfl, rfl, rfl, rfl, rfl, rfl, rfl, trivial⟩) ?_
          refine ih_.2 n_ g_ (sm_mn ms_ (S_.2.2.1 100 0 (S_.2.2.1 36 (0 + cc_) (3 * g_ + k_).toNat).toNat)) (k_ + 1) S_ hI_ hF_ ⟨?_, trivial⟩ ?_
          · omega
          · omega
        · have cx14_ : ¬ (a3_ = 0) := of_decide_eq_false cx14_
          refine sm_T_go 2 (c1 := (99, [some (.inr (.inr (some (11, 0)))), some (.inr (.inr (some (2, cc_)))), some (.inl a2_), some (.inl a3_), some (.inl n_), some (.inl g_), some (.inl ms_), some (.inl k_), some (.inl (S_.2.2.1 100 0 (S_.2.2.1 36 (0 + cc_) (3 * g_ + k_).toNat).toNat))], [.inl (S_.2.2.1 100 0 (S_.2.2.1 36 (0 + cc_) (3 * g_ + k_).toNat).toNat), .inl ms_], S_)) rfl ?_
          refine sm_T_nt (u := some (.inl (sm_mx ms_ (S_.2.2.1 100 0 (S_.2.2.1 36 (0 + cc_) (3 * g_ + k_).toNat).toNat)))) (S1 := S_) rfl rfl rfl ?_
          have bx16_ := sm_mx_d ms_ (S_.2.2.1 100 0 (S_.2.2.1 36 (0 + cc_) (3 * g_ + k_).toNat).toNat)
          refine sm_T_go 2 (c1 := (114, [some (.inr (.inr (some (11, 0)))), some (.inr (.inr (some (2, cc_)))), some (.inl a2_), some (.inl a3_), some (.inl n_), some (.inl g_), some (.inl (sm_mx ms_ (S_.2.2.1 100 0 (S_.2.2.1 36 (0 + cc_) (3 * g_ + k_).toNat).toNat))), some (.inl k_), some (.inl (S_.2.2.1 100 0 (S_.2.2.1 36 (0 + cc_) (3 * g_ + k_).toNat).toNat))], [], S_)) rfl ?_
          refine sm_T_inc (a := 7) (z := 1) (v := k_) (w := k_ + 1) rfl rfl (by omega) (by omega) (by omega) ?_ -- pc_ 114
          refine sm_T_go 1 (c1 := (61, [some (.inr (.inr (some (11, 0)))), some (.inr (.inr (some (2, cc_)))), some (.inl a2_), some (.inl a3_), some (.inl n_), some (.inl g_), some (.inl (sm_mx ms_ (S_.2.2.1 100 0 (S_.2.2.1 36 (0 + cc_) (3 * g_ + k_).toNat).toNat))), some (.inl (k_ + 1)), some (.inl (S_.2.2.1 100 0 (S_.2.2.1 36 (0 + cc_) (3 * g_ + k_).toNat).toNat))], [], S_)) rfl ?_
          refine sm_T_wk [some (.inr (.inr (some (11, 0)))), some (.inr (.inr (some (2, cc_)))), some (.inl a2_), some (.inl a3_), some (.inl n_), some (.inl g_), some (.inl (sm_mx ms_ (S_.2.2.1 100 0 (S_.2.2.1 36 (0 + cc_) (3 * g_ + k_).toNat).toNat))), some (.inl (k_ + 1)), none] (by exact ⟨rfl, rfl, rfl, rfl, rfl, rfl, rfl, rfl, trivial⟩) ?_
          refine ih_.2 n_ g_ (sm_mx ms_ (S_.2.2.1 100 0 (S_.2.2.1 36 (0 + cc_) (3 * g_ + k_).toNat).toNat)) (k_ + 1) S_ hI_ hF_ ⟨?_, trivial⟩ ?_
          · omega
          · omega
set_option maxHeartbeats 400000 in
theorem vc_197 {sc_ : Nat × (Nat → Int)} (a2_ : Int) (a3_ : Int) (cc_ : Nat) (S0_ : sm_S) (hI_ : gi S0_) (hs_ : S0_.1 2 cc_ 1 + S0_.1 2 cc_ 2 ≤ 12) (h2_ : 0 ≤ a2_ ∧ a2_ < S0_.1 2 cc_ 1 + S0_.1 2 cc_ 2 + S0_.1 2 cc_ 8) : sm_T (mt_P sc_) 2 197 (0, [some (.inr (.inr (some (11, 0)))), some (.inr (.inr (some (2, cc_)))), some (.inl a2_), some (.inl a3_), none, none, none, none, none], [], S0_) (fun ro9_ => ∃ u_ S1_, ro9_ = (.inl u_, S1_, 0) ∧ vq_197 a2_ a3_ cc_ S0_ u_ S1_) := by
  have hF_ : ai_fr (sx_W vw_197) S0_ S0_ := ai_fr_rf
  have ki_ : 0 ≤ S0_.1 2 cc_ 1 ∧ S0_.1 2 cc_ 1 ≤ 12 := hI_.1 2 cc_ 1 rfl
  have kr_ : 0 ≤ S0_.1 2 cc_ 2 ∧ S0_.1 2 cc_ 2 ≤ 6 := hI_.1 2 cc_ 2 rfl
  have kg_ : 0 ≤ S0_.1 2 cc_ 8 ∧ S0_.1 2 cc_ 8 ≤ 150 := hI_.1 2 cc_ 8 rfl
  refine sm_T_go 2 (c1 := (2, [some (.inr (.inr (some (11, 0)))), some (.inr (.inr (some (2, cc_)))), some (.inl a2_), some (.inl a3_), none, none, none, none, none], [.inr (.inr (some (2, cc_))), .inr (.inr (some (11, 0)))], S0_)) rfl ?_
  refine sm_T_cal (d1 := 1) (Q1 := vq_196 cc_ S0_) rfl rfl (by decide) (vc_196 cc_ S0_ hI_ (by omega)) (fun u_ Sx1_ px4_ => ?_)
  obtain ⟨rfl, hIx2_, hFx3_, px4_⟩ := px4_
  have hFx5_ : ai_fr (sx_W vw_197) S0_ Sx1_ := ai_fr_tr hF_ (fr_le hFx3_ rfl)
  refine sm_T_go 2 (c1 := (8, [some (.inr (.inr (some (11, 0)))), some (.inr (.inr (some (2, cc_)))), some (.inl a2_), some (.inl a3_), some (.inl 0), none, none, none, none], [], Sx1_)) rfl ?_
  refine (vl_197 a2_ a3_ cc_ S0_ hs_ h2_ _).1 0 Sx1_ hIx2_ hFx5_ ⟨?_, trivial⟩ (Nat.lt_succ_self _)
  · omega
