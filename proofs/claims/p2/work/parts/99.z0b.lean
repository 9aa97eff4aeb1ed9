/-! Reader.readCellInputs -/
def vw_132 : sx_Wl := ([(10, 2), (10, 3), (10, 4), (10, 5), (10, 6), (10, 7), (10, 8)], [77, 78], [])
def vq_132 (b_ : Nat → Int) (n_ : Nat) (p_ : Nat) (KC_ : Nat) (fC_ : Nat → Nat) (S0_ : sm_S) (u_ : Option sm_V) (S1_ : sm_S) : Prop := u_ = none ∧ gi S1_ ∧ ai_fr (sx_W vw_132) S0_ S1_ ∧ (∃ K_ f_ q_ r_, (p_ci b_ n_ 4 0 f_0 p_) = .inr (K_, f_, q_) ∧ p_nd b_ n_ 41 q_ = .inr r_ ∧ ct b_ n_ r_ S1_ ∧ nmr b_ n_ 1 K_ f_ S1_ ∧ nmr b_ n_ 0 KC_ fC_ S1_ ∧ (1 ≤ K_ ∧ K_ ≤ 3) ∧ p_ < r_)
def vx_132 (b_ : Nat → Int) (n_ : Nat) (p_ : Nat) (KC_ : Nat) (fC_ : Nat → Nat) (S0_ : sm_S) (S1_ : sm_S) : Prop := gi S1_ ∧ ai_fr (sx_W vw_132) S0_ S1_ ∧ (∃ e_, (pb (p_ci b_ n_ 4 0 f_0 p_) fun i_ => p_nd b_ n_ 41 i_.2.2) = .inl e_ ∧ ter S1_ e_)
set_option maxHeartbeats 1000000 in
theorem vl_132 {sc_ : Nat × (Nat → Int)} (b_ : Nat → Int) (n_ : Nat) (p_ : Nat) (KC_ : Nat) (fC_ : Nat → Nat) (S0_ : sm_S) (hc_ : ct b_ n_ p_ S0_) (hKC_ : nmr b_ n_ 0 KC_ fC_ S0_ ∧ KC_ ≤ 12) : ∀ nn_ : Nat, (∀ (mr_ : Int) (g_ : Int) (S_ : sm_S), gi S_ → ai_fr (sx_W vw_132) S0_ S_ → ((0 ≤ g_ ∧ g_ ≤ 4) ∧ ((mr_ = 1 ∧ g_ ≤ 3 ∧ ∃ f1_ p1_, ct b_ n_ p1_ S_ ∧ nmr b_ n_ 1 g_.toNat f1_ S_ ∧ (p_ci b_ n_ 4 0 f_0 p_) = p_ci b_ n_ (4 - g_.toNat) g_.toNat f1_ p1_ ∧ p_ ≤ p1_ ∧ nmr b_ n_ 0 KC_ fC_ S_) ∨ (mr_ = 0 ∧ ∃ K1_ f1_ p1_, ct b_ n_ p1_ S_ ∧ nmr b_ n_ 1 K1_ f1_ S_ ∧ (p_ci b_ n_ 4 0 f_0 p_) = .inr (K1_, f1_, p1_) ∧ p_ < p1_ ∧ nmr b_ n_ 0 KC_ fC_ S_ ∧ 1 ≤ K1_ ∧ K1_ ≤ 3)) ∧ True) → ((10 - g_).toNat) < nn_ → sm_T (mt_P sc_) 3 132 (11, [some (.inr (.inr (some (7, 0)))), some (.inl mr_), some (.inl g_), none], [], S_) (fun r_ => (∃ u_ S1_, r_ = (.inl u_, S1_, 0) ∧ vq_132 b_ n_ p_ KC_ fC_ S0_ u_ S1_) ∨ ∃ S1_, r_ = (.inr 2, S1_, 1) ∧ vx_132 b_ n_ p_ KC_ fC_ S0_ S1_)) := by
  intro nn_
  induction nn_ with
  | zero => exact fun _ _ _ _ _ _ h_ => absurd h_ (Nat.not_lt_zero _)
  | succ nn_ ih_ =>
    rintro mr_ g_ S_ hI_ hF_ ⟨h0_, h1_, -⟩ hm_
    have hn1_ := hc_.2.2.1
    refine sm_T_go 2 (c1 := (13, [some (.inr (.inr (some (7, 0)))), some (.inl mr_), some (.inl g_), none], [.inl 3, .inl g_], S_)) rfl ?_
    refine sm_T_br (a := 4) (z := 74) rfl (fun cx1_ => ?_) (fun cx1_ => ?_)
    · have cx1_ : 3 < g_ := of_decide_eq_true cx1_
      obtain ⟨K1_, f1_, p1_, y1_, y2_, y3_, y4_, y5_, kb1_, kb2_⟩ : ∃ K1_ f1_ p1_, ct b_ n_ p1_ S_ ∧ nmr b_ n_ 1 K1_ f1_ S_ ∧ (p_ci b_ n_ 4 0 f_0 p_) = .inr (K1_, f1_, p1_) ∧ p_ < p1_ ∧ nmr b_ n_ 0 KC_ fC_ S_ ∧ 1 ≤ K1_ ∧ K1_ ≤ 3 := by rcases h1_ with z_ | z_; (exfalso; have z1_ := z_.1; have z2_ := z_.2.1; omega); exact z_.2
      refine sm_T_go 3 (c1 := (93, [some (.inr (.inr (some (7, 0)))), some (.inl mr_), some (.inl g_), none], [.inl 41, .inr (.inr (some (10, 0)))], S_)) rfl ?_
      refine sm_T_calx (d1 := 2) (Q1 := vq_188 41 b_ n_ p1_ S_) (Q2 := vx_188 41 b_ n_ p1_ S_) rfl rfl (by decide) (vc_188 41 b_ n_ p1_ S_ hI_ (by exact y1_)) rfl (fun Sx2_ px5_ => ?_) (fun u_ Sx2_ px5_ => ?_)
      · obtain ⟨hIx3_, hFx4_, px5_⟩ := px5_
        refine Or.inr ⟨_, rfl, hIx3_, ai_fr_tr hF_ (fr_le hFx4_ rfl), ?_⟩
        obtain ⟨e9_, w1_, w2_⟩ := px5_
        refine ⟨e9_, ?_, w2_⟩
        rw [y3_]; exact w1_
      obtain ⟨rfl, hIx3_, hFx4_, px5_⟩ := px5_
      have hFx6_ : ai_fr (sx_W vw_132) S0_ Sx2_ := ai_fr_tr hF_ (fr_le hFx4_ rfl)
      obtain ⟨r9_, a9_, c9_⟩ := px5_
      have k9_ := p_nd_ok (by decide) y1_.2.2.2.1 a9_
      have f93_ := hFx4_
      refine sm_T_rv rfl (Or.inl ⟨_, _, rfl, rfl, hIx3_, hFx6_, ?_⟩)
      refine ⟨K1_, f1_, p1_, r9_, y3_, a9_, c9_, nmr_fr y2_ f93_ rfl rfl, nmr_fr y5_ f93_ rfl rfl, by omega, ?_⟩
      omega
    · have cx1_ : ¬ (3 < g_) := of_decide_eq_false cx1_
      refine sm_T_go 1 (c1 := (17, [some (.inr (.inr (some (7, 0)))), some (.inl mr_), some (.inl g_), none], [.inl mr_], S_)) rfl ?_
      refine sm_T_b0 (a := 0) (z := 70) rfl (fun cx7_ => ?_) (fun cx7_ => ?_)
      · have cx7_ : mr_ = 0 := of_decide_eq_true cx7_
        obtain ⟨K1_, f1_, p1_, y1_, y2_, y3_, y4_, y5_, kb1_, kb2_⟩ : ∃ K1_ f1_ p1_, ct b_ n_ p1_ S_ ∧ nmr b_ n_ 1 K1_ f1_ S_ ∧ (p_ci b_ n_ 4 0 f_0 p_) = .inr (K1_, f1_, p1_) ∧ p_ < p1_ ∧ nmr b_ n_ 0 KC_ fC_ S_ ∧ 1 ≤ K1_ ∧ K1_ ≤ 3 := by rcases h1_ with z_ | z_; (exfalso; have z1_ := z_.1; have z2_ := z_.2.1; omega); exact z_.2
        refine sm_T_go 3 (c1 := (93, [some (.inr (.inr (some (7, 0)))), some (.inl mr_), some (.inl g_), none], [.inl 41, .inr (.inr (some (10, 0)))], S_)) rfl ?_
        refine sm_T_calx (d1 := 2) (Q1 := vq_188 41 b_ n_ p1_ S_) (Q2 := vx_188 41 b_ n_ p1_ S_) rfl rfl (by decide) (vc_188 41 b_ n_ p1_ S_ hI_ (by exact y1_)) rfl (fun Sx8_ px11_ => ?_) (fun u_ Sx8_ px11_ => ?_)
        · obtain ⟨hIx9_, hFx10_, px11_⟩ := px11_
          refine Or.inr ⟨_, rfl, hIx9_, ai_fr_tr hF_ (fr_le hFx10_ rfl), ?_⟩
          obtain ⟨e9_, w1_, w2_⟩ := px11_
          refine ⟨e9_, ?_, w2_⟩
          rw [y3_]; exact w1_
        obtain ⟨rfl, hIx9_, hFx10_, px11_⟩ := px11_
        have hFx12_ : ai_fr (sx_W vw_132) S0_ Sx8_ := ai_fr_tr hF_ (fr_le hFx10_ rfl)
        obtain ⟨r9_, a9_, c9_⟩ := px11_
        have k9_ := p_nd_ok (by decide) y1_.2.2.2.1 a9_
        have f93_ := hFx10_
        refine sm_T_rv rfl (Or.inl ⟨_, _, rfl, rfl, hIx9_, hFx12_, ?_⟩)
        refine ⟨K1_, f1_, p1_, r9_, y3_, a9_, c9_, nmr_fr y2_ f93_ rfl rfl, nmr_fr y5_ f93_ rfl rfl, by omega, ?_⟩
        omega
      · have cx7_ : ¬ (mr_ = 0) := of_decide_eq_false cx7_
        obtain ⟨f1_, p1_, y1_, y2_, y3_, y4_, y5_⟩ : ∃ f1_ p1_, ct b_ n_ p1_ S_ ∧ nmr b_ n_ 1 g_.toNat f1_ S_ ∧ (p_ci b_ n_ 4 0 f_0 p_) = p_ci b_ n_ (4 - g_.toNat) g_.toNat f1_ p1_ ∧ p_ ≤ p1_ ∧ nmr b_ n_ 0 KC_ fC_ S_ := by rcases h1_ with z_ | z_; (exact z_.2.2); (exfalso; have z1_ := z_.1; omega)
        clear h1_
        refine sm_T_go 3 (c1 := (23, [some (.inr (.inr (some (7, 0)))), some (.inl mr_), some (.inl g_), none], [.inl 3, .inl 1, .inr (.inr (some (7, 0)))], S_)) rfl ?_
        refine sm_T_calx (d1 := 2) (Q1 := vq_120 1 3 b_ n_ p1_ 1 g_.toNat f1_ S_) (Q2 := vx_120 1 3 b_ n_ p1_ 1 g_.toNat f1_ S_) rfl rfl (by decide) (vc_120 1 3 b_ n_ p1_ 1 g_.toNat f1_ S_ hI_ (by exact y1_) (by rfl) (by exact y2_)) rfl (fun Sx13_ px16_ => ?_) (fun u_ Sx13_ px16_ => ?_)
        · obtain ⟨hIx14_, hFx15_, px16_⟩ := px16_
          refine Or.inr ⟨_, rfl, hIx14_, ai_fr_tr hF_ (fr_le hFx15_ rfl), ?_⟩
          obtain ⟨e9_, w1_, w2_⟩ := px16_
          refine ⟨e9_, ?_, w2_⟩
          rw [y3_, show 4 - g_.toNat = (3 - g_.toNat) + 1 by omega, p_ci, pb_l w1_]; rfl
        obtain ⟨vx18_, rfl, hIx14_, hFx15_, px16_⟩ := px16_
        have hFx17_ : ai_fr (sx_W vw_132) S0_ Sx13_ := ai_fr_tr hF_ (fr_le hFx15_ rfl)
        obtain ⟨nv_, nk_, r9_, a9_, c9_⟩ := px16_
        have nn9_ := nn_lt y1_.2.2.2.1 a9_
        have gl_ : g_ ≤ 2 := by have := nn9_.1; omega
        have rw9_ := nmr_fr y2_ hFx15_ rfl rfl
        have kc9_ := nmr_fr y5_ hFx15_ rfl rfl
        have kd9_ := c9_.2.2.2.2.2.2.2.1
        have hp9_ := c9_.2.2.2.1
        have cn9_ := rw9_.1
        have cn8_ : Sx13_.2.2.1 77 0 (1 : Int).toNat = g_ := by have z_ : Sx13_.2.2.1 77 0 1 = (g_.toNat : Int) := cn9_; show Sx13_.2.2.1 77 0 1 = g_; omega
        have sz9_ := nmp_sz nn9_.2.1
        have P9_ : (p_ci b_ n_ 4 0 f_0 p_) = if lx_kd b_ n_ r9_ = 44 then pb (p_ad b_ n_ r9_) fun q_ => p_ci b_ n_ (3 - g_.toNat) (g_.toNat + 1) (n_up f1_ g_.toNat p1_) q_ else .inr (g_.toNat + 1, n_up f1_ g_.toNat p1_, r9_) := by rw [y3_, show 4 - g_.toNat = (3 - g_.toNat) + 1 by omega, p_ci, pb_r a9_]
        have KCl_ := kc9_.2.1
        refine sm_T_go 7 (c1 := (38, [some (.inr (.inr (some (7, 0)))), some (.inl mr_), some (.inl g_), some (.inl vx18_)], [.inl 1, .inr (.inr (some (77, 0))), .inl 40, .inr (.inr (some (78, 0)))], Sx13_)) rfl ?_
        refine sm_T_iald (n := 17) rfl rfl (by omega) (by omega) ?_
        have bx19_ : 0 ≤ Sx13_.2.2.1 77 0 (1 : Int).toNat ∧ Sx13_.2.2.1 77 0 (1 : Int).toNat ≤ 40 := hIx14_.2 77 0 _
        refine sm_T_bin (w := (Sx13_.2.2.1 77 0 (1 : Int).toNat) + 40) rfl (bi_add (by omega) (by omega) (by omega)) ?_
        refine sm_T_go 1 (c1 := (41, [some (.inr (.inr (some (7, 0)))), some (.inl mr_), some (.inl g_), some (.inl vx18_)], [.inl vx18_, .inl ((Sx13_.2.2.1 77 0 (1 : Int).toNat) + 40), .inr (.inr (some (78, 0)))], Sx13_)) rfl ?_
        refine sm_T_iast (n := 640) rfl rfl (by omega) (by omega) ?_
        have hIx20_ : gi (sm_aI Sx13_ 78 0 ((Sx13_.2.2.1 77 0 (1 : Int).toNat) + 40).toNat vx18_) := gi_aI hIx14_ (show 0 ≤ vx18_ ∧ vx18_ ≤ 65535 from ⟨by omega, by omega⟩)
        have hFx21_ : ai_fr (sx_W vw_132) S0_ (sm_aI Sx13_ 78 0 ((Sx13_.2.2.1 77 0 (1 : Int).toNat) + 40).toNat vx18_) := ai_fr_tr hFx17_ (ai_fr_aI rfl)
        refine sm_T_go 4 (c1 := (48, [some (.inr (.inr (some (7, 0)))), some (.inl mr_), some (.inl g_), some (.inl vx18_)], [.inl 1, .inr (.inr (some (77, 0))), .inl 1, .inr (.inr (some (77, 0)))], sm_aI Sx13_ 78 0 ((Sx13_.2.2.1 77 0 (1 : Int).toNat) + 40).toNat vx18_)) rfl ?_
        refine sm_T_iald (n := 17) rfl rfl (by omega) (by omega) ?_
        refine sm_T_go 1 (c1 := (50, [some (.inr (.inr (some (7, 0)))), some (.inl mr_), some (.inl g_), some (.inl vx18_)], [.inl 1, .inl (Sx13_.2.2.1 77 0 (1 : Int).toNat), .inl 1, .inr (.inr (some (77, 0)))], sm_aI Sx13_ 78 0 ((Sx13_.2.2.1 77 0 (1 : Int).toNat) + 40).toNat vx18_)) rfl ?_
        refine sm_T_bin (w := (Sx13_.2.2.1 77 0 (1 : Int).toNat) + 1) rfl (bi_add (by omega) (by omega) (by omega)) ?_
        refine sm_T_iast (n := 17) rfl rfl (by omega) (by omega) ?_
        have hIx22_ : gi (sm_aI (sm_aI Sx13_ 78 0 ((Sx13_.2.2.1 77 0 (1 : Int).toNat) + 40).toNat vx18_) 77 0 (1 : Int).toNat ((Sx13_.2.2.1 77 0 (1 : Int).toNat) + 1)) := gi_aI hIx20_ (show 0 ≤ (Sx13_.2.2.1 77 0 (1 : Int).toNat) + 1 ∧ (Sx13_.2.2.1 77 0 (1 : Int).toNat) + 1 ≤ 40 from ⟨by omega, by omega⟩)
        have hFx23_ : ai_fr (sx_W vw_132) S0_ (sm_aI (sm_aI Sx13_ 78 0 ((Sx13_.2.2.1 77 0 (1 : Int).toNat) + 40).toNat vx18_) 77 0 (1 : Int).toNat ((Sx13_.2.2.1 77 0 (1 : Int).toNat) + 1)) := ai_fr_tr hFx21_ (ai_fr_aI rfl)
        have bx24_ : (-128) ≤ Sx13_.1 10 0 2 ∧ Sx13_.1 10 0 2 ≤ 257 := hIx14_.1 10 0 2 rfl
        refine sm_T_go 4 (c1 := (61, [some (.inr (.inr (some (7, 0)))), some (.inl mr_), some (.inl g_), some (.inl vx18_)], [.inl 44, .inl (Sx13_.1 10 0 2)], sm_aI (sm_aI Sx13_ 78 0 ((Sx13_.2.2.1 77 0 (1 : Int).toNat) + 40).toNat vx18_) 77 0 (1 : Int).toNat ((Sx13_.2.2.1 77 0 (1 : Int).toNat) + 1))) rfl ?_
        refine sm_T_br (a := 1) (z := 7) rfl (fun cx25_ => ?_) (fun cx25_ => ?_)
        · have cx25_ : (Sx13_.1 10 0 2) ≠ 44 := of_decide_eq_true cx25_
          refine sm_T_go 4 (c1 := (81, [some (.inr (.inr (some (7, 0)))), some (.inl 0), some (.inl g_), some (.inl vx18_)], [], sm_aI (sm_aI Sx13_ 78 0 ((Sx13_.2.2.1 77 0 (1 : Int).toNat) + 40).toNat vx18_) 77 0 (1 : Int).toNat ((Sx13_.2.2.1 77 0 (1 : Int).toNat) + 1))) rfl ?_
          refine sm_T_inc (a := 2) (z := 1) (v := g_) (w := g_ + 1) rfl rfl (by omega) (by omega) (by omega) ?_
          refine sm_T_go 1 (c1 := (11, [some (.inr (.inr (some (7, 0)))), some (.inl 0), some (.inl (g_ + 1)), some (.inl vx18_)], [], sm_aI (sm_aI Sx13_ 78 0 ((Sx13_.2.2.1 77 0 (1 : Int).toNat) + 40).toNat vx18_) 77 0 (1 : Int).toNat ((Sx13_.2.2.1 77 0 (1 : Int).toNat) + 1))) rfl ?_
          refine sm_T_wk [some (.inr (.inr (some (7, 0)))), some (.inl 0), some (.inl (g_ + 1)), none] (by exact ⟨rfl, rfl, rfl, trivial⟩) ?_
          refine ih_ 0 (g_ + 1) (sm_aI (sm_aI Sx13_ 78 0 ((Sx13_.2.2.1 77 0 (1 : Int).toNat) + 40).toNat vx18_) 77 0 (1 : Int).toNat ((Sx13_.2.2.1 77 0 (1 : Int).toNat) + 1)) hIx22_ hFx23_ ⟨?_, ?_, trivial⟩ ?_
          · omega
          · first | (left; refine ⟨rfl, by omega, n_up f1_ g_.toNat p1_, (lx_nx b_ n_ r9_), c78_, ?_, ?_, by omega, ?_⟩; (rw [show (g_ + 1).toNat = g_.toNat + 1 by omega]; exact nmr_fr (nmr_up (p_ := p1_) rw9_ nn9_.2.1 (by omega) (by (try simp only [rd_eq, rd_ne, rf_eq, rf_nk, rf_nt, rd_fa, rd_af, ne_eq, Nat.reduceEqDiff, not_false_eq_true]); (try rw [if_pos rfl]); (try rw [if_pos (show (1 : Nat) = (1 : Int).toNat from rfl)]); omega) (fun j_ => by (try simp only [rd_eq, rd_ne, rf_eq, rf_nk, rf_nt, rd_fa, rd_af, ne_eq, Nat.reduceEqDiff, not_false_eq_true]); rw [cn8_]; by_cases z_ : j_ = 40 * 1 + g_.toNat; (rw [if_pos (by omega), if_pos z_]; exact nv_); (rw [if_neg (by omega), if_neg z_]))) f78_ rfl rfl); (rw [P9_, if_pos (by omega), a78_, show 4 - (g_ + 1).toNat = 3 - g_.toNat by omega, show (g_ + 1).toNat = g_.toNat + 1 by omega]; rfl); (exact nmr_fr (nmr_ot kc9_ (by (try simp only [rd_eq, rd_ne, rf_eq, rf_nk, rf_nt, rd_fa, rd_af, ne_eq, Nat.reduceEqDiff, not_false_eq_true]); rw [if_neg (by decide)]) (fun s_ hs_ => by (try simp only [rd_eq, rd_ne, rf_eq, rf_nk, rf_nt, rd_fa, rd_af, ne_eq, Nat.reduceEqDiff, not_false_eq_true]); rw [cn8_, if_neg (by omega)])) f78_ rfl rfl)) | (right; refine ⟨rfl, g_.toNat + 1, n_up f1_ g_.toNat p1_, r9_, ct_fr (w_ := ([], [77, 78], [])) c9_ (ai_fr_tr (ai_fr_aI rfl) (ai_fr_aI rfl)) rfl rfl rfl rfl rfl rfl rfl, (nmr_up (p_ := p1_) rw9_ nn9_.2.1 (by omega) (by (try simp only [rd_eq, rd_ne, rf_eq, rf_nk, rf_nt, rd_fa, rd_af, ne_eq, Nat.reduceEqDiff, not_false_eq_true]); (try rw [if_pos rfl]); (try rw [if_pos (show (1 : Nat) = (1 : Int).toNat from rfl)]); omega) (fun j_ => by (try simp only [rd_eq, rd_ne, rf_eq, rf_nk, rf_nt, rd_fa, rd_af, ne_eq, Nat.reduceEqDiff, not_false_eq_true]); rw [cn8_]; by_cases z_ : j_ = 40 * 1 + g_.toNat; (rw [if_pos (by omega), if_pos z_]; exact nv_); (rw [if_neg (by omega), if_neg z_]))), ?_, by omega, (nmr_ot kc9_ (by (try simp only [rd_eq, rd_ne, rf_eq, rf_nk, rf_nt, rd_fa, rd_af, ne_eq, Nat.reduceEqDiff, not_false_eq_true]); rw [if_neg (by decide)]) (fun s_ hs_ => by (try simp only [rd_eq, rd_ne, rf_eq, rf_nk, rf_nt, rd_fa, rd_af, ne_eq, Nat.reduceEqDiff, not_false_eq_true]); rw [cn8_, if_neg (by omega)])), by omega, by omega⟩; rw [P9_, if_neg (by omega)])
          · omega
        · have cx25_ : ¬ ((Sx13_.1 10 0 2) ≠ 44) := of_decide_eq_false cx25_
          refine sm_T_go 7 (c1 := (78, [some (.inr (.inr (some (7, 0)))), some (.inl 1), some (.inl g_), some (.inl vx18_)], [.inr (.inr (some (10, 0)))], sm_aI (sm_aI Sx13_ 78 0 ((Sx13_.2.2.1 77 0 (1 : Int).toNat) + 40).toNat vx18_) 77 0 (1 : Int).toNat ((Sx13_.2.2.1 77 0 (1 : Int).toNat) + 1))) rfl ?_
          refine sm_T_calx (d1 := 1) (Q1 := vq_191 b_ n_ (lx_en b_ n_ r9_) (sm_aI (sm_aI Sx13_ 78 0 ((Sx13_.2.2.1 77 0 (1 : Int).toNat) + 40).toNat vx18_) 77 0 (1 : Int).toNat ((Sx13_.2.2.1 77 0 (1 : Int).toNat) + 1))) (Q2 := vx_191 b_ n_ (lx_en b_ n_ r9_) (sm_aI (sm_aI Sx13_ 78 0 ((Sx13_.2.2.1 77 0 (1 : Int).toNat) + 40).toNat vx18_) 77 0 (1 : Int).toNat ((Sx13_.2.2.1 77 0 (1 : Int).toNat) + 1))) rfl rfl (by decide) (vc_191 b_ n_ (lx_en b_ n_ r9_) (sm_aI (sm_aI Sx13_ 78 0 ((Sx13_.2.2.1 77 0 (1 : Int).toNat) + 40).toNat vx18_) 77 0 (1 : Int).toNat ((Sx13_.2.2.1 77 0 (1 : Int).toNat) + 1)) hIx22_ (by exact c9_.1) (by exact c9_.2.1) (by exact hn1_) (by exact c9_.2.2.2.2.2.2.1) (by exact (lx_en_le (b := b_) hp9_).2)) rfl (fun Sx26_ px29_ => ?_) (fun u_ Sx26_ px29_ => ?_)
          · obtain ⟨hIx27_, hFx28_, px29_⟩ := px29_
            refine Or.inr ⟨_, rfl, hIx27_, ai_fr_tr hFx23_ (fr_le hFx28_ rfl), ?_⟩
            refine ⟨(1, (lx_nx b_ n_ r9_)), ?_, px29_.2⟩
            rw [P9_, if_pos (by omega), p_ad_x px29_.1]; rfl
          obtain ⟨rfl, hIx27_, hFx28_, px29_⟩ := px29_
          have hFx30_ : ai_fr (sx_W vw_132) S0_ Sx26_ := ai_fr_tr hFx23_ (fr_le hFx28_ rfl)
          have c78_ := px29_
          have a78_ := p_ad_c px29_
          have k78_ := p_ad_ok hp9_ (by omega) a78_
          have f78_ := hFx28_
          refine sm_T_inc (a := 2) (z := 1) (v := g_) (w := g_ + 1) rfl rfl (by omega) (by omega) (by omega) ?_
          refine sm_T_go 1 (c1 := (11, [some (.inr (.inr (some (7, 0)))), some (.inl 1), some (.inl (g_ + 1)), some (.inl vx18_)], [], Sx26_)) rfl ?_
          refine sm_T_wk [some (.inr (.inr (some (7, 0)))), some (.inl 1), some (.inl (g_ + 1)), none] (by exact ⟨rfl, rfl, rfl, trivial⟩) ?_
          refine ih_ 1 (g_ + 1) Sx26_ hIx27_ hFx30_ ⟨?_, ?_, trivial⟩ ?_
          · omega
          · first | (left; refine ⟨rfl, by omega, n_up f1_ g_.toNat p1_, (lx_nx b_ n_ r9_), c78_, ?_, ?_, by omega, ?_⟩; (rw [show (g_ + 1).toNat = g_.toNat + 1 by omega]; exact nmr_fr (nmr_up (p_ := p1_) rw9_ nn9_.2.1 (by omega) (by (try simp only [rd_eq, rd_ne, rf_eq, rf_nk, rf_nt, rd_fa, rd_af, ne_eq, Nat.reduceEqDiff, not_false_eq_true]); (try rw [if_pos rfl]); (try rw [if_pos (show (1 : Nat) = (1 : Int).toNat from rfl)]); omega) (fun j_ => by (try simp only [rd_eq, rd_ne, rf_eq, rf_nk, rf_nt, rd_fa, rd_af, ne_eq, Nat.reduceEqDiff, not_false_eq_true]); rw [cn8_]; by_cases z_ : j_ = 40 * 1 + g_.toNat; (rw [if_pos (by omega), if_pos z_]; exact nv_); (rw [if_neg (by omega), if_neg z_]))) f78_ rfl rfl); (rw [P9_, if_pos (by omega), a78_, show 4 - (g_ + 1).toNat = 3 - g_.toNat by omega, show (g_ + 1).toNat = g_.toNat + 1 by omega]; rfl); (exact nmr_fr (nmr_ot kc9_ (by (try simp only [rd_eq, rd_ne, rf_eq, rf_nk, rf_nt, rd_fa, rd_af, ne_eq, Nat.reduceEqDiff, not_false_eq_true]); rw [if_neg (by decide)]) (fun s_ hs_ => by (try simp only [rd_eq, rd_ne, rf_eq, rf_nk, rf_nt, rd_fa, rd_af, ne_eq, Nat.reduceEqDiff, not_false_eq_true]); rw [cn8_, if_neg (by omega)])) f78_ rfl rfl)) | (right; refine ⟨rfl, g_.toNat + 1, n_up f1_ g_.toNat p1_, r9_, ct_fr (w_ := ([], [77, 78], [])) c9_ (ai_fr_tr (ai_fr_aI rfl) (ai_fr_aI rfl)) rfl rfl rfl rfl rfl rfl rfl, (nmr_up (p_ := p1_) rw9_ nn9_.2.1 (by omega) (by (try simp only [rd_eq, rd_ne, rf_eq, rf_nk, rf_nt, rd_fa, rd_af, ne_eq, Nat.reduceEqDiff, not_false_eq_true]); (try rw [if_pos rfl]); (try rw [if_pos (show (1 : Nat) = (1 : Int).toNat from rfl)]); omega) (fun j_ => by (try simp only [rd_eq, rd_ne, rf_eq, rf_nk, rf_nt, rd_fa, rd_af, ne_eq, Nat.reduceEqDiff, not_false_eq_true]); rw [cn8_]; by_cases z_ : j_ = 40 * 1 + g_.toNat; (rw [if_pos (by omega), if_pos z_]; exact nv_); (rw [if_neg (by omega), if_neg z_]))), ?_, by omega, (nmr_ot kc9_ (by (try simp only [rd_eq, rd_ne, rf_eq, rf_nk, rf_nt, rd_fa, rd_af, ne_eq, Nat.reduceEqDiff, not_false_eq_true]); rw [if_neg (by decide)]) (fun s_ hs_ => by (try simp only [rd_eq, rd_ne, rf_eq, rf_nk, rf_nt, rd_fa, rd_af, ne_eq, Nat.reduceEqDiff, not_false_eq_true]); rw [cn8_, if_neg (by omega)])), by omega, by omega⟩; rw [P9_, if_neg (by omega)])
          · omega
set_option maxHeartbeats 1000000 in
theorem vc_132 {sc_ : Nat × (Nat → Int)} (b_ : Nat → Int) (n_ : Nat) (p_ : Nat) (KC_ : Nat) (fC_ : Nat → Nat) (S0_ : sm_S) (hI_ : gi S0_) (hc_ : ct b_ n_ p_ S0_) (hKC_ : nmr b_ n_ 0 KC_ fC_ S0_ ∧ KC_ ≤ 12) : sm_T (mt_P sc_) 3 132 (0, [some (.inr (.inr (some (7, 0)))), none, none, none], [], S0_) (fun r_ => (∃ u_ S1_, r_ = (.inl u_, S1_, 0) ∧ vq_132 b_ n_ p_ KC_ fC_ S0_ u_ S1_) ∨ ∃ S1_, r_ = (.inr 2, S1_, 1) ∧ vx_132 b_ n_ p_ KC_ fC_ S0_ S1_) := by
  have hF_ : ai_fr (sx_W vw_132) S0_ S0_ := ai_fr_rf
  have hn1_ := hc_.2.2.1
  refine sm_T_go 4 (c1 := (6, [some (.inr (.inr (some (7, 0)))), none, none, none], [.inl 0, .inl 1, .inr (.inr (some (77, 0)))], S0_)) rfl ?_
  refine sm_T_iast (n := 17) rfl rfl (by omega) (by omega) ?_
  have hIx1_ : gi (sm_aI S0_ 77 0 (1 : Int).toNat 0) := gi_aI hI_ (show 0 ≤ 0 ∧ 0 ≤ 40 from ⟨by omega, by omega⟩)
  have hFx2_ : ai_fr (sx_W vw_132) S0_ (sm_aI S0_ 77 0 (1 : Int).toNat 0) := ai_fr_tr hF_ (ai_fr_aI rfl)
  refine sm_T_go 4 (c1 := (11, [some (.inr (.inr (some (7, 0)))), some (.inl 1), some (.inl 0), none], [], sm_aI S0_ 77 0 (1 : Int).toNat 0)) rfl ?_
  refine (vl_132 b_ n_ p_ KC_ fC_ S0_ hc_ hKC_ _) 1 0 (sm_aI S0_ 77 0 (1 : Int).toNat 0) hIx1_ hFx2_ ⟨?_, ?_, trivial⟩ (Nat.lt_succ_self _)
  · omega
  · left
    refine ⟨rfl, by decide, f_0, p_, ct_fr (w_ := ([], [77], [])) hc_ (ai_fr_aI rfl) rfl rfl rfl rfl rfl rfl rfl, ⟨by rw [rd_eq, if_pos (show (1 : Nat) = (1 : Int).toNat from rfl)]; rfl, by decide, by decide, fun s_ hs_ => absurd hs_ (Nat.not_lt_zero _)⟩, rfl, Nat.le_refl _, ?_⟩
    exact nmr_ot hKC_.1 (by rw [rd_eq, if_neg (by decide)]) (fun s_ hs_ => rd_ne (by decide))
