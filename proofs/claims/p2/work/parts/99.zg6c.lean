/-! Builder.findLike -/
def vw_50 : sx_Wl := ([], [29], [])
def vq_50 (n_ : Int) (hs_ : Int) (mk_ : Int) (P_ : Nat → Prop) (K_ : Nat) (W_ : Nat) (nd_ : Nat) (S0_ : sm_S) (u_ : Option sm_V) (S1_ : sm_S) : Prop := ∃ v_ : Int, u_ = some (.inl v_) ∧ gi S1_ ∧ ai_fr (sx_W vw_50) S0_ S1_ ∧ ((∃ m9_ t_, P_ m9_ ∧ tmk mk_ t_ ∧ lik W_ (S0_.2.2.2 32 0) nd_ m9_ t_ ∧ v_ = 2 * (m9_ : Int) + (if t_ = 0 then 0 else 1) ∧ S1_.2.2.1 29 0 = S0_.2.2.1 29 0) ∨ (v_ = 2 * (nd_ : Int) ∧ bks (fun m9_ => P_ m9_ ∨ m9_ = nd_) (K_ + 1) (hrw W_ mk_ (S0_.2.2.2 32 0)) (S1_.2.2.1 29 0) ∧ ∀ m9_, P_ m9_ → ∀ t_, tmk mk_ t_ → ¬ lik W_ (S0_.2.2.2 32 0) nd_ m9_ t_))
set_option maxHeartbeats 2000000 in
set_option maxRecDepth 20000 in
theorem vl_50 {sc_ : Nat × (Nat → Int)} (n_ : Int) (hs_ : Int) (mk_ : Int) (P_ : Nat → Prop) (K_ : Nat) (W_ : Nat) (nd_ : Nat) (S0_ : sm_S) (hn_ : n_ = (nd_ : Int) ∧ nd_ ≤ 1012) (hW_ : (S0_.1 1 0 13) = (W_ : Int) ∧ 1 ≤ W_ ∧ W_ ≤ 64) (hb_ : bks P_ K_ (hrw W_ mk_ (S0_.2.2.2 32 0)) (S0_.2.2.1 29 0) ∧ K_ ≤ 1013) (hP_ : ∀ m9_, P_ m9_ → m9_ < nd_) (hmk_ : lcn mk_ ∧ l_3 mk_ 1 = 1 ∧ mk_ ≠ 0) (hh_ : hs_ = hsw (nrw mk_ (S0_.2.2.2 32 0) nd_) W_) (hr_ : ∀ m9_, (P_ m9_ ∨ m9_ = nd_) → rok W_ mk_ (S0_.2.2.2 32 0) m9_) : ∀ nn_ : Nat, (∀ (pl_ : Int) (qb_ : Int) (S_ : sm_S), gi S_ → ai_fr (sx_W vw_50) S0_ S_ → ((S_ = S0_) ∧ (0 ≤ qb_ ∧ qb_ ≤ 4096 ∧ pl_ = (((hrw W_ mk_ (S0_.2.2.2 32 0) nd_ + qb_.toNat) % 4096 : Nat) : Int)) ∧ (∀ i9_, i9_ < qb_.toNat → S0_.2.2.1 29 0 ((hrw W_ mk_ (S0_.2.2.2 32 0) nd_ + i9_) % 4096) ≠ -1 ∧ ∀ m9_ : Nat, S0_.2.2.1 29 0 ((hrw W_ mk_ (S0_.2.2.2 32 0) nd_ + i9_) % 4096) = (m9_ : Int) → ∀ t_, tmk mk_ t_ → ¬ lik W_ (S0_.2.2.2 32 0) nd_ m9_ t_) ∧ True) → ((100 * (4097 - qb_) + 99).toNat) < nn_ → sm_T (mt_P sc_) 0 50 (16, [some (.inr (.inr (some (1, 0)))), some (.inl n_), some (.inr (.inl hs_)), none, some (.inr (.inl mk_)), none, some (.inl pl_), some (.inl qb_), none, none, none, none, none], [], S_) (fun ro9_ => ∃ u_ S1_, ro9_ = (.inl u_, S1_, 0) ∧ vq_50 n_ hs_ mk_ P_ K_ W_ nd_ S0_ u_ S1_)) ∧ (∀ (pl_ : Int) (qb_ : Int) (od_ : Int) (tu_ : Int) (lk_ : Int) (w_ : Int) (S_ : sm_S), gi S_ → ai_fr (sx_W vw_50) S0_ S_ → ((S_ = S0_) ∧ (0 ≤ qb_ ∧ qb_ < 4096 ∧ pl_ = (((hrw W_ mk_ (S0_.2.2.2 32 0) nd_ + qb_.toNat) % 4096 : Nat) : Int)) ∧ (∀ i9_, i9_ < qb_.toNat → S0_.2.2.1 29 0 ((hrw W_ mk_ (S0_.2.2.2 32 0) nd_ + i9_) % 4096) ≠ -1 ∧ ∀ m9_ : Nat, S0_.2.2.1 29 0 ((hrw W_ mk_ (S0_.2.2.2 32 0) nd_ + i9_) % 4096) = (m9_ : Int) → ∀ t_, tmk mk_ t_ → ¬ lik W_ (S0_.2.2.2 32 0) nd_ m9_ t_) ∧ (flk P_ W_ nd_ mk_ (S0_.2.2.1 29 0) (S0_.2.2.2 32 0) pl_ od_ tu_ lk_ w_) ∧ (0 ≤ w_ ∧ w_ ≤ (W_ : Int) ∧ (lk_ = 0 ∨ lk_ = 1) ∧ 0 ≤ od_ ∧ od_ ≤ 1012) ∧ True) → ((100 * (4097 - qb_) + 65 - w_).toNat) < nn_ → sm_T (mt_P sc_) 0 50 (85, [some (.inr (.inr (some (1, 0)))), some (.inl n_), some (.inr (.inl hs_)), none, some (.inr (.inl mk_)), none, some (.inl pl_), some (.inl qb_), some (.inl od_), some (.inr (.inl tu_)), none, some (.inl lk_), some (.inl w_)], [], S_) (fun ro9_ => ∃ u_ S1_, ro9_ = (.inl u_, S1_, 0) ∧ vq_50 n_ hs_ mk_ P_ K_ W_ nd_ S0_ u_ S1_)) := by
  intro nn_
  induction nn_ with
  | zero => exact ⟨fun _ _ _ _ _ _ h_ => absurd h_ (Nat.not_lt_zero _), fun _ _ _ _ _ _ _ _ _ _ h_ => absurd h_ (Nat.not_lt_zero _)⟩
  | succ nn_ ih_ =>
    refine ⟨?_, ?_⟩
    · rintro pl_ qb_ S_ hI_ hF_ ⟨hS_, h0_, h1_, -⟩ hm_
      refine sm_T_go 2 (c1 := (21, [some (.inr (.inr (some (1, 0)))), some (.inl n_), some (.inr (.inl hs_)), none, some (.inr (.inl mk_)), none, some (.inl pl_), some (.inl qb_), none, none, none, none, none], [.inl 4096, .inl qb_], S_)) rfl ?_
      refine sm_T_br (a := 3) (z := 162) rfl (fun cx1_ => ?_) (fun cx1_ => ?_)
      · have cx1_ : 4096 ≤ qb_ := of_decide_eq_true cx1_
        refine sm_T_go 4 (c1 := (190, [some (.inr (.inr (some (1, 0)))), some (.inl n_), some (.inr (.inl hs_)), none, some (.inr (.inl mk_)), none, some (.inl pl_), some (.inl qb_), none, none, none, none, none], [.inl n_, .inl pl_, .inr (.inr (some (29, 0)))], S_)) rfl ?_
        refine sm_T_iast (n := 4096) rfl rfl (by omega) (by omega) ?_
        have hIx2_ : gi (sm_aI S_ 29 0 pl_.toNat n_) := gi_aI hI_ (show (-1) ≤ n_ ∧ n_ ≤ 1012 from ⟨by omega, by omega⟩)
        have hFx3_ : ai_fr (sx_W vw_50) S0_ (sm_aI S_ 29 0 pl_.toNat n_) := ai_fr_tr hF_ (ai_fr_aI rfl)
        refine sm_T_go 2 (c1 := (193, [some (.inr (.inr (some (1, 0)))), some (.inl n_), some (.inr (.inl hs_)), none, some (.inr (.inl mk_)), none, some (.inl pl_), some (.inl qb_), none, none, none, none, none], [.inl n_, .inl 2], sm_aI S_ 29 0 pl_.toNat n_)) rfl ?_
        refine sm_T_bin (w := 2 * n_) rfl (bi_mul (by omega) (by omega) (by omega)) ?_
        refine sm_T_ri rfl ⟨_, _, rfl, _, rfl, hIx2_, hFx3_, ?_⟩
        have at9_ : pl_.toNat = (hrw W_ mk_ (S0_.2.2.2 32 0) nd_ + qb_.toNat) % 4096 := by omega
        have em_ : S0_.2.2.1 29 0 ((hrw W_ mk_ (S0_.2.2.2 32 0) nd_ + qb_.toNat) % 4096) = -1 ∧ qb_ < 4096 := by first | (refine ⟨?_, by omega⟩; rw [← at9_, ← hS_]; omega) | (exfalso; exact bks_end (h_ := hrw W_ mk_ (S0_.2.2.2 32 0) nd_) hb_.1 (by omega) (fun i9_ hi9_ => (h1_ i9_ (by omega)).1))
        have no_ := bks_nl (nd_ := nd_) (j_ := qb_.toNat) hb_.1 (by omega) hmk_.2.1 (fun m9_ p9_ => hr_ m9_ (Or.inl p9_)) (fun i9_ hi9_ m9_ hm9_ => (h1_ i9_ hi9_).2 m9_ hm9_) em_.1
        refine Or.inr ⟨by omega, ?_, no_⟩
        refine bks_put (j_ := qb_.toNat) hb_.1 (by omega) (fun i9_ hi9_ => (h1_ i9_ hi9_).1) em_.1 (fun k9_ => ?_)
        rw [rd_eq, at9_, hS_, hn_.1]
      · have cx1_ : ¬ (4096 ≤ qb_) := of_decide_eq_false cx1_
        refine sm_T_go 3 (c1 := (30, [some (.inr (.inr (some (1, 0)))), some (.inl n_), some (.inr (.inl hs_)), none, some (.inr (.inl mk_)), none, some (.inl pl_), some (.inl qb_), none, none, none, none, none], [.inl pl_, .inr (.inr (some (29, 0)))], S_)) rfl ?_
        refine sm_T_iald (n := 4096) rfl rfl (by omega) (by omega) ?_
        have bx4_ : (-1) ≤ S_.2.2.1 29 0 pl_.toNat ∧ S_.2.2.1 29 0 pl_.toNat ≤ 1012 := hI_.2 29 0 _
        refine sm_T_go 1 (c1 := (32, [some (.inr (.inr (some (1, 0)))), some (.inl n_), some (.inr (.inl hs_)), none, some (.inr (.inl mk_)), none, some (.inl pl_), some (.inl qb_), none, none, none, none, none], [.inl (-1), .inl (S_.2.2.1 29 0 pl_.toNat)], S_)) rfl ?_
        refine sm_T_br (a := 0) (z := 151) rfl (fun cx5_ => ?_) (fun cx5_ => ?_)
        · have cx5_ : (S_.2.2.1 29 0 pl_.toNat) = (-1) := of_decide_eq_true cx5_
          refine sm_T_go 4 (c1 := (190, [some (.inr (.inr (some (1, 0)))), some (.inl n_), some (.inr (.inl hs_)), none, some (.inr (.inl mk_)), none, some (.inl pl_), some (.inl qb_), none, none, none, none, none], [.inl n_, .inl pl_, .inr (.inr (some (29, 0)))], S_)) rfl ?_
          refine sm_T_iast (n := 4096) rfl rfl (by omega) (by omega) ?_
          have hIx6_ : gi (sm_aI S_ 29 0 pl_.toNat n_) := gi_aI hI_ (show (-1) ≤ n_ ∧ n_ ≤ 1012 from ⟨by omega, by omega⟩)
          have hFx7_ : ai_fr (sx_W vw_50) S0_ (sm_aI S_ 29 0 pl_.toNat n_) := ai_fr_tr hF_ (ai_fr_aI rfl)
          refine sm_T_go 2 (c1 := (193, [some (.inr (.inr (some (1, 0)))), some (.inl n_), some (.inr (.inl hs_)), none, some (.inr (.inl mk_)), none, some (.inl pl_), some (.inl qb_), none, none, none, none, none], [.inl n_, .inl 2], sm_aI S_ 29 0 pl_.toNat n_)) rfl ?_
          refine sm_T_bin (w := 2 * n_) rfl (bi_mul (by omega) (by omega) (by omega)) ?_
          refine sm_T_ri rfl ⟨_, _, rfl, _, rfl, hIx6_, hFx7_, ?_⟩
          have at9_ : pl_.toNat = (hrw W_ mk_ (S0_.2.2.2 32 0) nd_ + qb_.toNat) % 4096 := by omega
          have em_ : S0_.2.2.1 29 0 ((hrw W_ mk_ (S0_.2.2.2 32 0) nd_ + qb_.toNat) % 4096) = -1 ∧ qb_ < 4096 := by first | (refine ⟨?_, by omega⟩; rw [← at9_, ← hS_]; omega) | (exfalso; exact bks_end (h_ := hrw W_ mk_ (S0_.2.2.2 32 0) nd_) hb_.1 (by omega) (fun i9_ hi9_ => (h1_ i9_ (by omega)).1))
          have no_ := bks_nl (nd_ := nd_) (j_ := qb_.toNat) hb_.1 (by omega) hmk_.2.1 (fun m9_ p9_ => hr_ m9_ (Or.inl p9_)) (fun i9_ hi9_ m9_ hm9_ => (h1_ i9_ hi9_).2 m9_ hm9_) em_.1
          refine Or.inr ⟨by omega, ?_, no_⟩
          refine bks_put (j_ := qb_.toNat) hb_.1 (by omega) (fun i9_ hi9_ => (h1_ i9_ hi9_).1) em_.1 (fun k9_ => ?_)
          rw [rd_eq, at9_, hS_, hn_.1]
        · have cx5_ : ¬ ((S_.2.2.1 29 0 pl_.toNat) = (-1)) := of_decide_eq_false cx5_
          have bm_ := hb_.1.1 pl_.toNat (by omega)
          have u9_ : S_.2.2.1 29 0 pl_.toNat = S0_.2.2.1 29 0 pl_.toNat := by rw [hS_]
          obtain ⟨m8_, p8, o8_⟩ : ∃ m8_, P_ m8_ ∧ S0_.2.2.1 29 0 pl_.toNat = (m8_ : Int) := by rcases bm_ with q9_ | q9_; (exfalso; omega); (exact q9_)
          clear bm_
          have m8n := hP_ m8_ p8
          refine sm_T_go 3 (c1 := (41, [some (.inr (.inr (some (1, 0)))), some (.inl n_), some (.inr (.inl hs_)), none, some (.inr (.inl mk_)), none, some (.inl pl_), some (.inl qb_), none, none, none, none, none], [.inl pl_, .inr (.inr (some (29, 0)))], S_)) rfl ?_
          refine sm_T_iald (n := 4096) rfl rfl (by omega) (by omega) ?_
          refine sm_T_go 5 (c1 := (51, [some (.inr (.inr (some (1, 0)))), some (.inl n_), some (.inr (.inl hs_)), none, some (.inr (.inl mk_)), none, some (.inl pl_), some (.inl qb_), some (.inl (S_.2.2.1 29 0 pl_.toNat)), none, none, none, none], [.inl 64, .inl n_, .inr (.inr (some (32, 0)))], S_)) rfl ?_
          refine sm_T_bin (w := 64 * n_) rfl (bi_mul (by omega) (by omega) (by omega)) ?_
          refine sm_T_lald (n := 64832) rfl rfl (by omega) (by omega) ?_
          refine sm_T_go 4 (c1 := (61, [some (.inr (.inr (some (1, 0)))), some (.inl n_), some (.inr (.inl hs_)), none, some (.inr (.inl mk_)), none, some (.inl pl_), some (.inl qb_), some (.inl (S_.2.2.1 29 0 pl_.toNat)), none, none, none, none], [.inl 64, .inl (S_.2.2.1 29 0 pl_.toNat), .inr (.inr (some (32, 0))), .inr (.inl (S_.2.2.2 32 0 (64 * n_).toNat))], S_)) rfl ?_
          refine sm_T_bin (w := 64 * (S_.2.2.1 29 0 pl_.toNat)) rfl (bi_mul (by omega) (by omega) (by omega)) ?_
          refine sm_T_lald (n := 64832) rfl rfl (by omega) (by omega) ?_
          refine sm_T_go 5 (c1 := (68, [some (.inr (.inr (some (1, 0)))), some (.inl n_), some (.inr (.inl hs_)), none, some (.inr (.inl mk_)), none, some (.inl pl_), some (.inl qb_), some (.inl (S_.2.2.1 29 0 pl_.toNat)), none, none, none, none], [.inl (sm_lcmp ((l_3 ((l_5 ((S_.2.2.2 32 0 (64 * n_).toNat)) ((S_.2.2.2 32 0 (64 * (S_.2.2.1 29 0 pl_.toNat)).toNat)))) 1)) 0)], S_)) rfl ?_
          refine sm_T_b0 (a := 1) (z := 7) rfl (fun cx8_ => ?_) (fun cx8_ => ?_)
          · have cx8_ : (sm_lcmp ((l_3 ((l_5 ((S_.2.2.2 32 0 (64 * n_).toNat)) ((S_.2.2.2 32 0 (64 * (S_.2.2.1 29 0 pl_.toNat)).toNat)))) 1)) 0) ≠ 0 := of_decide_eq_true cx8_
            refine sm_T_go 6 (c1 := (85, [some (.inr (.inr (some (1, 0)))), some (.inl n_), some (.inr (.inl hs_)), none, some (.inr (.inl mk_)), none, some (.inl pl_), some (.inl qb_), some (.inl (S_.2.2.1 29 0 pl_.toNat)), some (.inr (.inl mk_)), none, some (.inl 1), some (.inl 0)], [], S_)) rfl ?_
            refine ih_.2 pl_ qb_ (S_.2.2.1 29 0 pl_.toNat) mk_ 1 0 S_ hI_ hF_ ⟨?_, ?_, ?_, ?_, ?_, trivial⟩ ?_
            · exact hS_
            · omega
            · exact h1_
            · refine ⟨m8_, p8, by omega, by omega, ?_, fun _ j9_ hj9_ => absurd hj9_ (Nat.not_lt_zero _), fun z9_ => absurd z9_ (by decide)⟩
              have i1_ : 64 * nd_ = (64 * n_).toNat := by omega
              have i2_ : 64 * m8_ = (64 * S_.2.2.1 29 0 pl_.toNat).toNat := by omega
              rw [i1_, i2_, ← hS_]
              first | exact Or.inl ⟨rfl, lc_0.mp (by omega)⟩ | exact Or.inr ⟨rfl, fun q9_ => by have := lc_0.mpr q9_; omega⟩
            · omega
            · omega
          · have cx8_ : ¬ ((sm_lcmp ((l_3 ((l_5 ((S_.2.2.2 32 0 (64 * n_).toNat)) ((S_.2.2.2 32 0 (64 * (S_.2.2.1 29 0 pl_.toNat)).toNat)))) 1)) 0) ≠ 0) := of_decide_eq_false cx8_
            refine sm_T_go 7 (c1 := (85, [some (.inr (.inr (some (1, 0)))), some (.inl n_), some (.inr (.inl hs_)), none, some (.inr (.inl mk_)), none, some (.inl pl_), some (.inl qb_), some (.inl (S_.2.2.1 29 0 pl_.toNat)), some (.inr (.inl 0)), none, some (.inl 1), some (.inl 0)], [], S_)) rfl ?_
            refine ih_.2 pl_ qb_ (S_.2.2.1 29 0 pl_.toNat) 0 1 0 S_ hI_ hF_ ⟨?_, ?_, ?_, ?_, ?_, trivial⟩ ?_
            · exact hS_
            · omega
            · exact h1_
            · refine ⟨m8_, p8, by omega, by omega, ?_, fun _ j9_ hj9_ => absurd hj9_ (Nat.not_lt_zero _), fun z9_ => absurd z9_ (by decide)⟩
              have i1_ : 64 * nd_ = (64 * n_).toNat := by omega
              have i2_ : 64 * m8_ = (64 * S_.2.2.1 29 0 pl_.toNat).toNat := by omega
              rw [i1_, i2_, ← hS_]
              first | exact Or.inl ⟨rfl, lc_0.mp (by omega)⟩ | exact Or.inr ⟨rfl, fun q9_ => by have := lc_0.mpr q9_; omega⟩
            · omega
            · omega
    · rintro pl_ qb_ od_ tu_ lk_ w_ S_ hI_ hF_ ⟨hS_, h0_, h1_, h2_, h3_, -⟩ hm_
      have w9_ : S_.1 1 0 13 = (W_ : Int) := by rw [hS_]; exact hW_.1
      have bx1_ : 0 ≤ S_.1 1 0 13 ∧ S_.1 1 0 13 ≤ 64 := hI_.1 1 0 13 rfl
      refine sm_T_go 3 (c1 := (91, [some (.inr (.inr (some (1, 0)))), some (.inl n_), some (.inr (.inl hs_)), none, some (.inr (.inl mk_)), none, some (.inl pl_), some (.inl qb_), some (.inl od_), some (.inr (.inl tu_)), none, some (.inl lk_), some (.inl w_)], [.inl (S_.1 1 0 13), .inl w_], S_)) rfl ?_
      refine sm_T_br (a := 3) (z := 53) rfl (fun cx2_ => ?_) (fun cx2_ => ?_)
      · have cx2_ : (S_.1 1 0 13) ≤ w_ := of_decide_eq_true cx2_
        refine sm_T_go 1 (c1 := (146, [some (.inr (.inr (some (1, 0)))), some (.inl n_), some (.inr (.inl hs_)), none, some (.inr (.inl mk_)), none, some (.inl pl_), some (.inl qb_), some (.inl od_), some (.inr (.inl tu_)), none, some (.inl lk_), some (.inl w_)], [.inl lk_], S_)) rfl ?_
        refine sm_T_b0 (a := 0) (z := 21) rfl (fun cx3_ => ?_) (fun cx3_ => ?_)
        · have cx3_ : lk_ = 0 := of_decide_eq_true cx3_
          refine sm_T_go 2 (c1 := (170, [some (.inr (.inr (some (1, 0)))), some (.inl n_), some (.inr (.inl hs_)), none, some (.inr (.inl mk_)), none, some (.inl pl_), some (.inl qb_), some (.inl od_), some (.inr (.inl tu_)), none, some (.inl lk_), some (.inl w_)], [.inl 1, .inl pl_], S_)) rfl ?_
          refine sm_T_bin (w := pl_ + 1) rfl (bi_add (by omega) (by omega) (by omega)) ?_
          refine sm_T_go 1 (c1 := (174, [some (.inr (.inr (some (1, 0)))), some (.inl n_), some (.inr (.inl hs_)), none, some (.inr (.inl mk_)), none, some (.inl pl_), some (.inl qb_), some (.inl od_), some (.inr (.inl tu_)), none, some (.inl lk_), some (.inl w_)], [.inl 4095, .inl (pl_ + 1)], S_)) rfl ?_
          refine sm_T_bin (w := ((pl_ + 1) % 4096)) rfl (bi_msk (k := 12) (by decide)) ?_
          refine sm_T_go 1 (c1 := (177, [some (.inr (.inr (some (1, 0)))), some (.inl n_), some (.inr (.inl hs_)), none, some (.inr (.inl mk_)), none, some (.inl ((pl_ + 1) % 4096)), some (.inl qb_), some (.inl od_), some (.inr (.inl tu_)), none, some (.inl lk_), some (.inl w_)], [], S_)) rfl ?_
          refine sm_T_inc (a := 7) (z := 1) (v := qb_) (w := qb_ + 1) rfl rfl (by omega) (by omega) (by omega) ?_
          refine sm_T_go 1 (c1 := (16, [some (.inr (.inr (some (1, 0)))), some (.inl n_), some (.inr (.inl hs_)), none, some (.inr (.inl mk_)), none, some (.inl ((pl_ + 1) % 4096)), some (.inl (qb_ + 1)), some (.inl od_), some (.inr (.inl tu_)), none, some (.inl lk_), some (.inl w_)], [], S_)) rfl ?_
          refine sm_T_wk [some (.inr (.inr (some (1, 0)))), some (.inl n_), some (.inr (.inl hs_)), none, some (.inr (.inl mk_)), none, some (.inl ((pl_ + 1) % 4096)), some (.inl (qb_ + 1)), none, none, none, none, none] (by exact ⟨rfl, rfl, rfl, rfl, rfl, rfl, trivial⟩) ?_
          refine ih_.1 ((pl_ + 1) % 4096) (qb_ + 1) S_ hI_ hF_ ⟨?_, ?_, ?_, trivial⟩ ?_
          · exact hS_
          · omega
          · obtain ⟨m8_, p8, o8_, o9_, tr_, l1_, l0_⟩ := h2_
            obtain ⟨j8_, j9_, j10_⟩ := l0_ (by omega)
            intro i9_ hi9_
            by_cases q9_ : i9_ < qb_.toNat
            · exact h1_ i9_ q9_
            · have q8_ : i9_ = qb_.toNat := by omega
              rw [q8_, show (hrw W_ mk_ (S0_.2.2.2 32 0) nd_ + qb_.toNat) % 4096 = pl_.toNat by omega, o9_, o8_]
              refine ⟨by omega, fun m9_ hm9_ t9_ k9_ k8_ => ?_⟩
              have mm9_ : m9_ = m8_ := by omega
              rw [mm9_] at k8_
              have e9_ := trn (by omega) hmk_.2.1 hmk_.1 (hr_ m8_ (Or.inl p8)) k9_ k8_ tr_
              rw [← e9_] at j10_
              exact j10_ (k8_ j8_ j9_)
          · omega
        · have cx3_ : ¬ (lk_ = 0) := of_decide_eq_false cx3_
          refine sm_T_go 2 (c1 := (152, [some (.inr (.inr (some (1, 0)))), some (.inl n_), some (.inr (.inl hs_)), none, some (.inr (.inl mk_)), none, some (.inl pl_), some (.inl qb_), some (.inl od_), some (.inr (.inl tu_)), none, some (.inl lk_), some (.inl w_)], [.inl od_, .inl 2], S_)) rfl ?_
          refine sm_T_bin (w := 2 * od_) rfl (bi_mul (by omega) (by omega) (by omega)) ?_
          refine sm_T_go 3 (c1 := (157, [some (.inr (.inr (some (1, 0)))), some (.inl n_), some (.inr (.inl hs_)), none, some (.inr (.inl mk_)), none, some (.inl pl_), some (.inl qb_), some (.inl od_), some (.inr (.inl tu_)), none, some (.inl lk_), some (.inl w_)], [.inl (sm_lcmp tu_ 0), .inl (2 * od_)], S_)) rfl ?_
          refine sm_T_b0 (a := 1) (z := 7) rfl (fun cx4_ => ?_) (fun cx4_ => ?_)
          · have cx4_ : (sm_lcmp tu_ 0) ≠ 0 := of_decide_eq_true cx4_
            refine sm_T_go 1 (c1 := (165, [some (.inr (.inr (some (1, 0)))), some (.inl n_), some (.inr (.inl hs_)), none, some (.inr (.inl mk_)), none, some (.inl pl_), some (.inl qb_), some (.inl od_), some (.inr (.inl tu_)), none, some (.inl lk_), some (.inl w_)], [.inl 1, .inl (2 * od_)], S_)) rfl ?_
            refine sm_T_bin (w := 2 * od_ + 1) rfl (bi_add (by omega) (by omega) (by omega)) ?_
            refine sm_T_ri rfl ⟨_, _, rfl, _, rfl, hI_, hF_, ?_⟩
            obtain ⟨m8_, p8, o8_, o9_, tr_, l1_, l0_⟩ := h2_
            have ll_ : lik W_ (S0_.2.2.2 32 0) nd_ m8_ tu_ := fun w9_ hw9_ => l1_ (by omega) w9_ (by omega)
            refine Or.inl ⟨m8_, tu_, p8, ?_, ll_, ?_, by rw [hS_]⟩
            · rcases tr_ with q9_ | q9_; exact Or.inl q9_.1; exact Or.inr q9_.1
            · first | (have z9_ := lc_0.mp (of_decide_eq_true rfl |> fun _ => cx4_); skip) | skip
              first | (rw [if_pos (lc_0.mp (by omega))]; omega) | (rw [if_neg (fun q9_ => by have := lc_0.mpr q9_; omega)]; omega)
          · have cx4_ : ¬ ((sm_lcmp tu_ 0) ≠ 0) := of_decide_eq_false cx4_
            refine sm_T_go 2 (c1 := (165, [some (.inr (.inr (some (1, 0)))), some (.inl n_), some (.inr (.inl hs_)), none, some (.inr (.inl mk_)), none, some (.inl pl_), some (.inl qb_), some (.inl od_), some (.inr (.inl tu_)), none, some (.inl lk_), some (.inl w_)], [.inl 0, .inl (2 * od_)], S_)) rfl ?_
            refine sm_T_bin (w := 2 * od_) rfl (bi_add (by omega) (by omega) (by omega)) ?_
            refine sm_T_ri rfl ⟨_, _, rfl, _, rfl, hI_, hF_, ?_⟩
            obtain ⟨m8_, p8, o8_, o9_, tr_, l1_, l0_⟩ := h2_
            have ll_ : lik W_ (S0_.2.2.2 32 0) nd_ m8_ tu_ := fun w9_ hw9_ => l1_ (by omega) w9_ (by omega)
            refine Or.inl ⟨m8_, tu_, p8, ?_, ll_, ?_, by rw [hS_]⟩
            · rcases tr_ with q9_ | q9_; exact Or.inl q9_.1; exact Or.inr q9_.1
            · first | (have z9_ := lc_0.mp (of_decide_eq_true rfl |> fun _ => cx4_); skip) | skip
              first | (rw [if_pos (lc_0.mp (by omega))]; omega) | (rw [if_neg (fun q9_ => by have := lc_0.mpr q9_; omega)]; omega)
      · have cx2_ : ¬ ((S_.1 1 0 13) ≤ w_) := of_decide_eq_false cx2_
        refine sm_T_go 1 (c1 := (96, [some (.inr (.inr (some (1, 0)))), some (.inl n_), some (.inr (.inl hs_)), none, some (.inr (.inl mk_)), none, some (.inl pl_), some (.inl qb_), some (.inl od_), some (.inr (.inl tu_)), none, some (.inl lk_), some (.inl w_)], [.inl lk_], S_)) rfl ?_
        refine sm_T_b0 (a := 0) (z := 48) rfl (fun cx5_ => ?_) (fun cx5_ => ?_)
        · have cx5_ : lk_ = 0 := of_decide_eq_true cx5_
          refine sm_T_go 1 (c1 := (146, [some (.inr (.inr (some (1, 0)))), some (.inl n_), some (.inr (.inl hs_)), none, some (.inr (.inl mk_)), none, some (.inl pl_), some (.inl qb_), some (.inl od_), some (.inr (.inl tu_)), none, some (.inl lk_), some (.inl w_)], [.inl lk_], S_)) rfl ?_
          refine sm_T_b0 (a := 0) (z := 21) rfl (fun cx6_ => ?_) (fun cx6_ => ?_)
          · have cx6_ : lk_ = 0 := of_decide_eq_true cx6_
            refine sm_T_go 2 (c1 := (170, [some (.inr (.inr (some (1, 0)))), some (.inl n_), some (.inr (.inl hs_)), none, some (.inr (.inl mk_)), none, some (.inl pl_), some (.inl qb_), some (.inl od_), some (.inr (.inl tu_)), none, some (.inl lk_), some (.inl w_)], [.inl 1, .inl pl_], S_)) rfl ?_
            refine sm_T_bin (w := pl_ + 1) rfl (bi_add (by omega) (by omega) (by omega)) ?_
            refine sm_T_go 1 (c1 := (174, [some (.inr (.inr (some (1, 0)))), some (.inl n_), some (.inr (.inl hs_)), none, some (.inr (.inl mk_)), none, some (.inl pl_), some (.inl qb_), some (.inl od_), some (.inr (.inl tu_)), none, some (.inl lk_), some (.inl w_)], [.inl 4095, .inl (pl_ + 1)], S_)) rfl ?_
            refine sm_T_bin (w := ((pl_ + 1) % 4096)) rfl (bi_msk (k := 12) (by decide)) ?_
            refine sm_T_go 1 (c1 := (177, [some (.inr (.inr (some (1, 0)))), some (.inl n_), some (.inr (.inl hs_)), none, some (.inr (.inl mk_)), none, some (.inl ((pl_ + 1) % 4096)), some (.inl qb_), some (.inl od_), some (.inr (.inl tu_)), none, some (.inl lk_), some (.inl w_)], [], S_)) rfl ?_
            refine sm_T_inc (a := 7) (z := 1) (v := qb_) (w := qb_ + 1) rfl rfl (by omega) (by omega) (by omega) ?_
            refine sm_T_go 1 (c1 := (16, [some (.inr (.inr (some (1, 0)))), some (.inl n_), some (.inr (.inl hs_)), none, some (.inr (.inl mk_)), none, some (.inl ((pl_ + 1) % 4096)), some (.inl (qb_ + 1)), some (.inl od_), some (.inr (.inl tu_)), none, some (.inl lk_), some (.inl w_)], [], S_)) rfl ?_
            refine sm_T_wk [some (.inr (.inr (some (1, 0)))), some (.inl n_), some (.inr (.inl hs_)), none, some (.inr (.inl mk_)), none, some (.inl ((pl_ + 1) % 4096)), some (.inl (qb_ + 1)), none, none, none, none, none] (by exact ⟨rfl, rfl, rfl, rfl, rfl, rfl, trivial⟩) ?_
            refine ih_.1 ((pl_ + 1) % 4096) (qb_ + 1) S_ hI_ hF_ ⟨?_, ?_, ?_, trivial⟩ ?_
            · exact hS_
            · omega
            · obtain ⟨m8_, p8, o8_, o9_, tr_, l1_, l0_⟩ := h2_
              obtain ⟨j8_, j9_, j10_⟩ := l0_ (by omega)
              intro i9_ hi9_
              by_cases q9_ : i9_ < qb_.toNat
              · exact h1_ i9_ q9_
              · have q8_ : i9_ = qb_.toNat := by omega
                rw [q8_, show (hrw W_ mk_ (S0_.2.2.2 32 0) nd_ + qb_.toNat) % 4096 = pl_.toNat by omega, o9_, o8_]
                refine ⟨by omega, fun m9_ hm9_ t9_ k9_ k8_ => ?_⟩
                have mm9_ : m9_ = m8_ := by omega
                rw [mm9_] at k8_
                have e9_ := trn (by omega) hmk_.2.1 hmk_.1 (hr_ m8_ (Or.inl p8)) k9_ k8_ tr_
                rw [← e9_] at j10_
                exact j10_ (k8_ j8_ j9_)
            · omega
          · have cx6_ : ¬ (lk_ = 0) := of_decide_eq_false cx6_
            exfalso; omega
        · have cx5_ : ¬ (lk_ = 0) := of_decide_eq_false cx5_
          refine sm_T_go 4 (c1 := (106, [some (.inr (.inr (some (1, 0)))), some (.inl n_), some (.inr (.inl hs_)), none, some (.inr (.inl mk_)), none, some (.inl pl_), some (.inl qb_), some (.inl od_), some (.inr (.inl tu_)), none, some (.inl lk_), some (.inl w_)], [.inl 64, .inl n_, .inr (.inr (some (32, 0)))], S_)) rfl ?_
          refine sm_T_bin (w := 64 * n_) rfl (bi_mul (by omega) (by omega) (by omega)) ?_
          refine sm_T_go 1 (c1 := (109, [some (.inr (.inr (some (1, 0)))), some (.inl n_), some (.inr (.inl hs_)), none, some (.inr (.inl mk_)), none, some (.inl pl_), some (.inl qb_), some (.inl od_), some (.inr (.inl tu_)), none, some (.inl lk_), some (.inl w_)], [.inl w_, .inl (64 * n_), .inr (.inr (some (32, 0)))], S_)) rfl ?_
          refine sm_T_bin (w := 64 * n_ + w_) rfl (bi_add (by omega) (by omega) (by omega)) ?_
          refine sm_T_lald (n := 64832) rfl rfl (by omega) (by omega) ?_
          refine sm_T_go 4 (c1 := (119, [some (.inr (.inr (some (1, 0)))), some (.inl n_), some (.inr (.inl hs_)), none, some (.inr (.inl mk_)), none, some (.inl pl_), some (.inl qb_), some (.inl od_), some (.inr (.inl tu_)), none, some (.inl lk_), some (.inl w_)], [.inl 64, .inl od_, .inr (.inr (some (32, 0))), .inr (.inl (S_.2.2.2 32 0 (64 * n_ + w_).toNat))], S_)) rfl ?_
          refine sm_T_bin (w := 64 * od_) rfl (bi_mul (by omega) (by omega) (by omega)) ?_
          refine sm_T_go 1 (c1 := (122, [some (.inr (.inr (some (1, 0)))), some (.inl n_), some (.inr (.inl hs_)), none, some (.inr (.inl mk_)), none, some (.inl pl_), some (.inl qb_), some (.inl od_), some (.inr (.inl tu_)), none, some (.inl lk_), some (.inl w_)], [.inl w_, .inl (64 * od_), .inr (.inr (some (32, 0))), .inr (.inl (S_.2.2.2 32 0 (64 * n_ + w_).toNat))], S_)) rfl ?_
          refine sm_T_bin (w := 64 * od_ + w_) rfl (bi_add (by omega) (by omega) (by omega)) ?_
          refine sm_T_lald (n := 64832) rfl rfl (by omega) (by omega) ?_
          refine sm_T_go 3 (c1 := (128, [some (.inr (.inr (some (1, 0)))), some (.inl n_), some (.inr (.inl hs_)), none, some (.inr (.inl mk_)), none, some (.inl pl_), some (.inl qb_), some (.inl od_), some (.inr (.inl tu_)), none, some (.inl lk_), some (.inl w_)], [.inl (sm_lcmp ((S_.2.2.2 32 0 (64 * n_ + w_).toNat)) ((l_5 ((S_.2.2.2 32 0 (64 * od_ + w_).toNat)) tu_)))], S_)) rfl ?_
          refine sm_T_b0 (a := 1) (z := 7) rfl (fun cx7_ => ?_) (fun cx7_ => ?_)
          · have cx7_ : (sm_lcmp ((S_.2.2.2 32 0 (64 * n_ + w_).toNat)) ((l_5 ((S_.2.2.2 32 0 (64 * od_ + w_).toNat)) tu_))) ≠ 0 := of_decide_eq_true cx7_
            refine sm_T_go 2 (c1 := (138, [some (.inr (.inr (some (1, 0)))), some (.inl n_), some (.inr (.inl hs_)), none, some (.inr (.inl mk_)), none, some (.inl pl_), some (.inl qb_), some (.inl od_), some (.inr (.inl tu_)), none, some (.inl 0), some (.inl w_)], [], S_)) rfl ?_
            refine sm_T_inc (a := 12) (z := 1) (v := w_) (w := w_ + 1) rfl rfl (by omega) (by omega) (by omega) ?_
            refine sm_T_go 1 (c1 := (85, [some (.inr (.inr (some (1, 0)))), some (.inl n_), some (.inr (.inl hs_)), none, some (.inr (.inl mk_)), none, some (.inl pl_), some (.inl qb_), some (.inl od_), some (.inr (.inl tu_)), none, some (.inl 0), some (.inl (w_ + 1))], [], S_)) rfl ?_
            refine ih_.2 pl_ qb_ od_ tu_ 0 (w_ + 1) S_ hI_ hF_ ⟨?_, ?_, ?_, ?_, ?_, trivial⟩ ?_
            · exact hS_
            · omega
            · exact h1_
            · obtain ⟨m8_, p8, o8_, o9_, tr_, l1_, l0_⟩ := h2_
              have m8n := hP_ m8_ p8
              have i1_ : (64 * n_ + w_).toNat = 64 * nd_ + w_.toNat := by omega
              have i2_ : (64 * od_ + w_).toNat = 64 * m8_ + w_.toNat := by omega
              have l1b := l1_ (by omega)
              rw [i1_, i2_, hS_] at cx7_
              first | (refine ⟨m8_, p8, o8_, o9_, tr_, fun _ j9_ hj9_ => ?_, fun z9_ => absurd z9_ (by decide)⟩; have z9_ := lc_0.mp (Classical.not_not.mp cx7_); by_cases q9_ : j9_ < w_.toNat; (exact l1b j9_ q9_); (rw [show j9_ = w_.toNat by omega]; exact z9_)) | (refine ⟨m8_, p8, o8_, o9_, tr_, fun z9_ => absurd z9_ (by decide), fun _ => ⟨w_.toNat, by omega, fun q9_ => cx7_ (lc_0.mpr q9_)⟩⟩)
            · omega
            · omega
          · have cx7_ : ¬ ((sm_lcmp ((S_.2.2.2 32 0 (64 * n_ + w_).toNat)) ((l_5 ((S_.2.2.2 32 0 (64 * od_ + w_).toNat)) tu_))) ≠ 0) := of_decide_eq_false cx7_
            refine sm_T_go 3 (c1 := (138, [some (.inr (.inr (some (1, 0)))), some (.inl n_), some (.inr (.inl hs_)), none, some (.inr (.inl mk_)), none, some (.inl pl_), some (.inl qb_), some (.inl od_), some (.inr (.inl tu_)), none, some (.inl 1), some (.inl w_)], [], S_)) rfl ?_
            refine sm_T_inc (a := 12) (z := 1) (v := w_) (w := w_ + 1) rfl rfl (by omega) (by omega) (by omega) ?_
            refine sm_T_go 1 (c1 := (85, [some (.inr (.inr (some (1, 0)))), some (.inl n_), some (.inr (.inl hs_)), none, some (.inr (.inl mk_)), none, some (.inl pl_), some (.inl qb_), some (.inl od_), some (.inr (.inl tu_)), none, some (.inl 1), some (.inl (w_ + 1))], [], S_)) rfl ?_
            refine ih_.2 pl_ qb_ od_ tu_ 1 (w_ + 1) S_ hI_ hF_ ⟨?_, ?_, ?_, ?_, ?_, trivial⟩ ?_
            · exact hS_
            · omega
            · exact h1_
            · obtain ⟨m8_, p8, o8_, o9_, tr_, l1_, l0_⟩ := h2_
              have m8n := hP_ m8_ p8
              have i1_ : (64 * n_ + w_).toNat = 64 * nd_ + w_.toNat := by omega
              have i2_ : (64 * od_ + w_).toNat = 64 * m8_ + w_.toNat := by omega
              have l1b := l1_ (by omega)
              rw [i1_, i2_, hS_] at cx7_
              first | (refine ⟨m8_, p8, o8_, o9_, tr_, fun _ j9_ hj9_ => ?_, fun z9_ => absurd z9_ (by decide)⟩; have z9_ := lc_0.mp (Classical.not_not.mp cx7_); by_cases q9_ : j9_ < w_.toNat; (exact l1b j9_ q9_); (rw [show j9_ = w_.toNat by omega]; exact z9_)) | (refine ⟨m8_, p8, o8_, o9_, tr_, fun z9_ => absurd z9_ (by decide), fun _ => ⟨w_.toNat, by omega, fun q9_ => cx7_ (lc_0.mpr q9_)⟩⟩)
            · omega
            · omega
set_option maxHeartbeats 2000000 in
set_option maxRecDepth 20000 in
theorem vc_50 {sc_ : Nat × (Nat → Int)} (n_ : Int) (hs_ : Int) (mk_ : Int) (P_ : Nat → Prop) (K_ : Nat) (W_ : Nat) (nd_ : Nat) (S0_ : sm_S) (hI_ : gi S0_) (hn_ : n_ = (nd_ : Int) ∧ nd_ ≤ 1012) (hW_ : (S0_.1 1 0 13) = (W_ : Int) ∧ 1 ≤ W_ ∧ W_ ≤ 64) (hb_ : bks P_ K_ (hrw W_ mk_ (S0_.2.2.2 32 0)) (S0_.2.2.1 29 0) ∧ K_ ≤ 1013) (hP_ : ∀ m9_, P_ m9_ → m9_ < nd_) (hmk_ : lcn mk_ ∧ l_3 mk_ 1 = 1 ∧ mk_ ≠ 0) (hh_ : hs_ = hsw (nrw mk_ (S0_.2.2.2 32 0) nd_) W_) (hr_ : ∀ m9_, (P_ m9_ ∨ m9_ = nd_) → rok W_ mk_ (S0_.2.2.2 32 0) m9_) : sm_T (mt_P sc_) 0 50 (0, [some (.inr (.inr (some (1, 0)))), some (.inl n_), some (.inr (.inl hs_)), none, some (.inr (.inl mk_)), none, none, none, none, none, none, none, none], [], S0_) (fun ro9_ => ∃ u_ S1_, ro9_ = (.inl u_, S1_, 0) ∧ vq_50 n_ hs_ mk_ P_ K_ W_ nd_ S0_ u_ S1_) := by
  have hF_ : ai_fr (sx_W vw_50) S0_ S0_ := ai_fr_rf
  refine sm_T_go 7 (c1 := (10, [some (.inr (.inr (some (1, 0)))), some (.inl n_), some (.inr (.inl hs_)), none, some (.inr (.inl mk_)), none, none, none, none, none, none, none, none], [.inl 4095, .inl (l_l2i ((l_5 hs_ ((l_s2 hs_ 32)))))], S0_)) rfl ?_
  refine sm_T_bin (w := ((l_l2i ((l_5 hs_ ((l_s2 hs_ 32))))) % 4096)) rfl (bi_msk (k := 12) (by decide)) ?_
  refine sm_T_go 3 (c1 := (16, [some (.inr (.inr (some (1, 0)))), some (.inl n_), some (.inr (.inl hs_)), none, some (.inr (.inl mk_)), none, some (.inl ((l_l2i ((l_5 hs_ ((l_s2 hs_ 32))))) % 4096)), some (.inl 0), none, none, none, none, none], [], S0_)) rfl ?_
  refine (vl_50 n_ hs_ mk_ P_ K_ W_ nd_ S0_ hn_ hW_ hb_ hP_ hmk_ hh_ hr_ _).1 ((l_l2i ((l_5 hs_ ((l_s2 hs_ 32))))) % 4096) 0 S0_ hI_ hF_ ⟨?_, ?_, ?_, trivial⟩ (Nat.lt_succ_self _)
  · rfl
  · (refine ⟨by decide, by decide, ?_⟩; rw [hh_]; show _ = ((_ : Nat) : Int); unfold hrw hps; simp only [Int.toNat_zero, Nat.add_zero]; omega)
  · (intro i9_ hi9_; exact absurd hi9_ (Nat.not_lt_zero _))
