/-! Builder.both -/
def vw_44 : sx_Wl := ([(1, 8), (3, 4)], [29, 42, 43], [])
def vq_44 (x_ : Int) (y_ : Int) (dd_ : Nat) (F_ : Nat) (G_ : pGr) (A_ : Int) (B_ : Int) (S0_ : sm_S) (u_ : Option sm_V) (S1_ : sm_S) : Prop := ∃ v_ : Int, u_ = some (.inl v_) ∧ gi S1_ ∧ ai_fr (sx_W vw_44) S0_ S1_ ∧ (idf dd_ S0_ S1_ ∧ (cgl dd_ F_ (g_an F_ G_ A_ B_).2 S1_ ∧ (imq ((g_an F_ G_ A_ B_).2.length ≤ 1000) (v_ = (g_an F_ G_ A_ B_).1)) ∧ (0 ≤ v_ ∧ v_ ≤ 2025)))
set_option maxHeartbeats 2000000 in
set_option maxRecDepth 20000 in
theorem vl_44 {sc_ : Nat × (Nat → Int)} (x_ : Int) (y_ : Int) (dd_ : Nat) (F_ : Nat) (G_ : pGr) (A_ : Int) (B_ : Int) (S0_ : sm_S) (hd_ : S0_.2.1 1 0 1 = some dd_) (hg_ : cgl dd_ F_ G_ S0_) (hx_ : 0 ≤ x_ ∧ x_ ≤ 2025) (hy_ : 0 ≤ y_ ∧ y_ ≤ 2025) (hab_ : imq (G_.length ≤ 1000) (x_ = A_ ∧ y_ = B_)) : ∀ nn_ : Nat, (∀ (a_ : Int) (b_ : Int) (ap_ : Int) (pr_ : Int) (S_ : sm_S), gi S_ → ai_fr (sx_W vw_44) S0_ S_ → ((S_ = S0_) ∧ (0 ≤ pr_ ∧ pr_ ≤ 4096 ∧ ap_ = (2027 * a_ + 31 * b_ + pr_) % 4096) ∧ ((0 ≤ a_ ∧ a_ ≤ 2025) ∧ 0 ≤ b_ ∧ b_ ≤ 2025) ∧ ((x_ < y_ ∧ a_ = x_ ∧ b_ = y_) ∨ (y_ ≤ x_ ∧ a_ = y_ ∧ b_ = x_)) ∧ (¬ (a_ = 0 ∨ a_ = i_xor b_ 1)) ∧ (¬ (a_ = 1 ∨ a_ = b_)) ∧ (∀ i_, i_ < pr_.toNat → S_.2.2.1 29 0 (hpl a_ b_ i_) ≠ 0 ∧ ¬ (S_.2.2.1 42 (0 + dd_) (S_.2.2.1 29 0 (hpl a_ b_ i_)).toNat = a_ ∧ S_.2.2.1 43 (0 + dd_) (S_.2.2.1 29 0 (hpl a_ b_ i_)).toNat = b_)) ∧ (idf dd_ S0_ S_) ∧ True) → ((4096 - pr_).toNat) < nn_ → sm_T (mt_P sc_) 1 44 (61, [some (.inr (.inr (some (1, 0)))), some (.inl x_), some (.inl y_), some (.inl a_), some (.inl b_), some (.inl ap_), some (.inl pr_), none], [], S_) (fun ro9_ => ∃ u_ S1_, ro9_ = (.inl u_, S1_, 0) ∧ vq_44 x_ y_ dd_ F_ G_ A_ B_ S0_ u_ S1_)) := by
  intro nn_
  induction nn_ with
  | zero => exact fun _ _ _ _ _ _ _ _ h_ => absurd h_ (Nat.not_lt_zero _)
  | succ nn_ ih_ =>
    rintro a_ b_ ap_ pr_ S_ hI_ hF_ ⟨hS_, h0_, hbd_, hmn_, hn0_, hn1_, h2_, hD_, -⟩ hm_
    have hgS_ : cgl dd_ F_ G_ S_ := by rw [hS_]; exact hg_
    obtain ⟨G1_, hG1_, hG2_⟩ := id hgS_
    obtain ⟨x1_, x2_, x3_, x4_, x5_, x6_, x7_, x8_⟩ := id hG1_
    have h2b : ∀ i_, i_ < pr_.toNat → S_.2.2.1 29 0 (hpl a_ b_ i_) ≠ 0 ∧ ∀ k_ : Nat, S_.2.2.1 29 0 (hpl a_ b_ i_) = ((F_ + k_ : Nat) : Int) → G1_[k_]? ≠ some (a_, b_) := fun i_ hi_ => ⟨(h2_ i_ hi_).1, fun k_ e_ q_ => (h2_ i_ hi_).2 (by rw [e_, Int.toNat_natCast]; exact x6_ k_ a_ b_ q_)⟩
    refine sm_T_go 2 (c1 := (66, [some (.inr (.inr (some (1, 0)))), some (.inl x_), some (.inl y_), some (.inl a_), some (.inl b_), some (.inl ap_), some (.inl pr_), none], [.inl 4096, .inl pr_], S_)) rfl ?_
    refine sm_T_br (a := 3) (z := 72) rfl (fun cx1_ => ?_) (fun cx1_ => ?_)
    · have cx1_ : 4096 ≤ pr_ := of_decide_eq_true cx1_
      have fd_ := bk_fd (j_ := pr_.toNat) (a_ := a_) (b_ := b_) x8_ x5_ x3_.1 (by omega) h2b (by have q9_ : hpl a_ b_ pr_.toNat = ap_.toNat := (by unfold hpl; omega); rw [q9_]; omega)
      have ap9_ : hpl a_ b_ pr_.toNat = ap_.toNat := by unfold hpl; omega
      refine sm_T_go 1 (c1 := (139, [some (.inr (.inr (some (1, 0)))), some (.inl x_), some (.inl y_), some (.inl a_), some (.inl b_), some (.inl ap_), some (.inl pr_), none], [.inr (.inr (some (1, 0)))], S_)) rfl ?_
      refine sm_T_gr rfl rfl ((hF_.2.1 1 0 1 rfl).trans hd_) ?_
      have bx2_ : 0 ≤ S_.1 3 dd_ 4 ∧ S_.1 3 dd_ 4 ≤ 1013 := hI_.1 3 dd_ 4 rfl
      refine sm_T_go 2 (c1 := (146, [some (.inr (.inr (some (1, 0)))), some (.inl x_), some (.inl y_), some (.inl a_), some (.inl b_), some (.inl ap_), some (.inl pr_), none], [.inr (.inr (some (1, 0))), .inl (S_.1 3 dd_ 4)], S_)) rfl ?_
      refine sm_T_gr rfl rfl ((hF_.2.1 1 0 1 rfl).trans hd_) ?_
      refine sm_T_cal (d1 := 0) (Q1 := vq_63 dd_ S_) rfl rfl (by decide) (vc_63 dd_ S_ hI_ (by omega)) (fun u_ Sx3_ px6_ => ?_)
      obtain ⟨rfl, vx8_, rfl, px6_⟩ := px6_
      have e149_ := px6_
      refine sm_T_bin (w := (S_.1 3 dd_ 4) - vx8_) rfl (bi_sub (by omega) (by omega) (by omega)) ?_
      refine sm_T_go 1 (c1 := (156, [some (.inr (.inr (some (1, 0)))), some (.inl x_), some (.inl y_), some (.inl a_), some (.inl b_), some (.inl ap_), some (.inl pr_), none], [.inl 1000, .inl ((S_.1 3 dd_ 4) - vx8_)], S_)) rfl ?_
      refine sm_T_br (a := 2) (z := 10) rfl (fun cx9_ => ?_) (fun cx9_ => ?_)
      · have cx9_ : (S_.1 3 dd_ 4) - vx8_ < 1000 := of_decide_eq_true cx9_
        refine sm_T_go 1 (c1 := (167, [some (.inr (.inr (some (1, 0)))), some (.inl x_), some (.inl y_), some (.inl a_), some (.inl b_), some (.inl ap_), some (.inl pr_), none], [.inr (.inr (some (1, 0)))], S_)) rfl ?_
        refine sm_T_gr rfl rfl ((hF_.2.1 1 0 1 rfl).trans hd_) ?_
        refine sm_T_go 6 (c1 := (183, [some (.inr (.inr (some (1, 0)))), some (.inl x_), some (.inl y_), some (.inl a_), some (.inl b_), some (.inl ap_), some (.inl (S_.1 3 dd_ 4)), none], [.inl (S_.1 3 dd_ 4), .inl ap_, .inr (.inr (some (29, 0)))], S_)) rfl ?_
        refine sm_T_iast (n := 4096) rfl rfl (by omega) (by omega) ?_
        have hIx10_ : gi (sm_aI S_ 29 0 ap_.toNat (S_.1 3 dd_ 4)) := gi_aI hI_ (show (-1) ≤ (S_.1 3 dd_ 4) ∧ (S_.1 3 dd_ 4) ≤ 1012 from ⟨by omega, by omega⟩)
        have hFx11_ : ai_fr (sx_W vw_44) S0_ (sm_aI S_ 29 0 ap_.toNat (S_.1 3 dd_ 4)) := ai_fr_tr hF_ (ai_fr_aI rfl)
        have hDx12_ : idf dd_ S0_ (sm_aI S_ 29 0 ap_.toNat (S_.1 3 dd_ 4)) := idf_aI hD_ (Or.inl (by decide))
        refine sm_T_go 1 (c1 := (185, [some (.inr (.inr (some (1, 0)))), some (.inl x_), some (.inl y_), some (.inl a_), some (.inl b_), some (.inl ap_), some (.inl (S_.1 3 dd_ 4)), none], [.inr (.inr (some (1, 0)))], sm_aI S_ 29 0 ap_.toNat (S_.1 3 dd_ 4))) rfl ?_
        refine sm_T_gr rfl rfl ((hFx11_.2.1 1 0 1 rfl).trans hd_) ?_
        refine sm_T_go 3 (c1 := (194, [some (.inr (.inr (some (1, 0)))), some (.inl x_), some (.inl y_), some (.inl a_), some (.inl b_), some (.inl ap_), some (.inl (S_.1 3 dd_ 4)), none], [.inl a_, .inl (S_.1 3 dd_ 4), .inr (.inr (some (42, (0 + dd_))))], sm_aI S_ 29 0 ap_.toNat (S_.1 3 dd_ 4))) rfl ?_
        refine sm_T_iast (n := 1013) rfl rfl (by omega) (by omega) ?_
        have hIx13_ : gi (sm_aI (sm_aI S_ 29 0 ap_.toNat (S_.1 3 dd_ 4)) 42 (0 + dd_) (S_.1 3 dd_ 4).toNat a_) := gi_aI hIx10_ (show 0 ≤ a_ ∧ a_ ≤ 2025 from ⟨by omega, by omega⟩)
        have hFx14_ : ai_fr (sx_W vw_44) S0_ (sm_aI (sm_aI S_ 29 0 ap_.toNat (S_.1 3 dd_ 4)) 42 (0 + dd_) (S_.1 3 dd_ 4).toNat a_) := ai_fr_tr hFx11_ (ai_fr_aI rfl)
        have hDx15_ : idf dd_ S0_ (sm_aI (sm_aI S_ 29 0 ap_.toNat (S_.1 3 dd_ 4)) 42 (0 + dd_) (S_.1 3 dd_ 4).toNat a_) := idf_aI hDx12_ (Or.inr rfl)
        refine sm_T_go 1 (c1 := (196, [some (.inr (.inr (some (1, 0)))), some (.inl x_), some (.inl y_), some (.inl a_), some (.inl b_), some (.inl ap_), some (.inl (S_.1 3 dd_ 4)), none], [.inr (.inr (some (1, 0)))], sm_aI (sm_aI S_ 29 0 ap_.toNat (S_.1 3 dd_ 4)) 42 (0 + dd_) (S_.1 3 dd_ 4).toNat a_)) rfl ?_
        refine sm_T_gr rfl rfl ((hFx14_.2.1 1 0 1 rfl).trans hd_) ?_
        refine sm_T_go 3 (c1 := (206, [some (.inr (.inr (some (1, 0)))), some (.inl x_), some (.inl y_), some (.inl a_), some (.inl b_), some (.inl ap_), some (.inl (S_.1 3 dd_ 4)), none], [.inl b_, .inl (S_.1 3 dd_ 4), .inr (.inr (some (43, (0 + dd_))))], sm_aI (sm_aI S_ 29 0 ap_.toNat (S_.1 3 dd_ 4)) 42 (0 + dd_) (S_.1 3 dd_ 4).toNat a_)) rfl ?_
        refine sm_T_iast (n := 1013) rfl rfl (by omega) (by omega) ?_
        have hIx16_ : gi (sm_aI (sm_aI (sm_aI S_ 29 0 ap_.toNat (S_.1 3 dd_ 4)) 42 (0 + dd_) (S_.1 3 dd_ 4).toNat a_) 43 (0 + dd_) (S_.1 3 dd_ 4).toNat b_) := gi_aI hIx13_ (show 0 ≤ b_ ∧ b_ ≤ 2025 from ⟨by omega, by omega⟩)
        have hFx17_ : ai_fr (sx_W vw_44) S0_ (sm_aI (sm_aI (sm_aI S_ 29 0 ap_.toNat (S_.1 3 dd_ 4)) 42 (0 + dd_) (S_.1 3 dd_ 4).toNat a_) 43 (0 + dd_) (S_.1 3 dd_ 4).toNat b_) := ai_fr_tr hFx14_ (ai_fr_aI rfl)
        have hDx18_ : idf dd_ S0_ (sm_aI (sm_aI (sm_aI S_ 29 0 ap_.toNat (S_.1 3 dd_ 4)) 42 (0 + dd_) (S_.1 3 dd_ 4).toNat a_) 43 (0 + dd_) (S_.1 3 dd_ 4).toNat b_) := idf_aI hDx15_ (Or.inr rfl)
        refine sm_T_go 1 (c1 := (208, [some (.inr (.inr (some (1, 0)))), some (.inl x_), some (.inl y_), some (.inl a_), some (.inl b_), some (.inl ap_), some (.inl (S_.1 3 dd_ 4)), none], [.inr (.inr (some (1, 0)))], sm_aI (sm_aI (sm_aI S_ 29 0 ap_.toNat (S_.1 3 dd_ 4)) 42 (0 + dd_) (S_.1 3 dd_ 4).toNat a_) 43 (0 + dd_) (S_.1 3 dd_ 4).toNat b_)) rfl ?_
        refine sm_T_gr rfl rfl ((hFx17_.2.1 1 0 1 rfl).trans hd_) ?_
        refine sm_T_go 3 (c1 := (216, [some (.inr (.inr (some (1, 0)))), some (.inl x_), some (.inl y_), some (.inl a_), some (.inl b_), some (.inl ap_), some (.inl (S_.1 3 dd_ 4)), none], [.inl 1, .inl (S_.1 3 dd_ 4), .inr (.inr (some (3, dd_)))], sm_aI (sm_aI (sm_aI S_ 29 0 ap_.toNat (S_.1 3 dd_ 4)) 42 (0 + dd_) (S_.1 3 dd_ 4).toNat a_) 43 (0 + dd_) (S_.1 3 dd_ 4).toNat b_)) rfl ?_
        refine sm_T_bin (w := (S_.1 3 dd_ 4) + 1) rfl (bi_add (by omega) (by omega) (by omega)) ?_
        have hIx19_ : gi (sm_pI (sm_aI (sm_aI (sm_aI S_ 29 0 ap_.toNat (S_.1 3 dd_ 4)) 42 (0 + dd_) (S_.1 3 dd_ 4).toNat a_) 43 (0 + dd_) (S_.1 3 dd_ 4).toNat b_) 3 dd_ 4 ((S_.1 3 dd_ 4) + 1)) := gi_pI hIx16_ (show 0 ≤ (S_.1 3 dd_ 4) + 1 ∧ (S_.1 3 dd_ 4) + 1 ≤ 1013 from ⟨by omega, by omega⟩)
        have hFx20_ : ai_fr (sx_W vw_44) S0_ (sm_pI (sm_aI (sm_aI (sm_aI S_ 29 0 ap_.toNat (S_.1 3 dd_ 4)) 42 (0 + dd_) (S_.1 3 dd_ 4).toNat a_) 43 (0 + dd_) (S_.1 3 dd_ 4).toNat b_) 3 dd_ 4 ((S_.1 3 dd_ 4) + 1)) := ai_fr_tr hFx17_ (ai_fr_pI rfl)
        have hDx21_ : idf dd_ S0_ (sm_pI (sm_aI (sm_aI (sm_aI S_ 29 0 ap_.toNat (S_.1 3 dd_ 4)) 42 (0 + dd_) (S_.1 3 dd_ 4).toNat a_) 43 (0 + dd_) (S_.1 3 dd_ 4).toNat b_) 3 dd_ 4 ((S_.1 3 dd_ 4) + 1)) := idf_pI hDx18_ (Or.inr rfl)
        refine sm_T_go 3 (c1 := (223, [some (.inr (.inr (some (1, 0)))), some (.inl x_), some (.inl y_), some (.inl a_), some (.inl b_), some (.inl ap_), some (.inl (S_.1 3 dd_ 4)), none], [.inl (S_.1 3 dd_ 4), .inl 2], sm_pI (sm_aI (sm_aI (sm_aI S_ 29 0 ap_.toNat (S_.1 3 dd_ 4)) 42 (0 + dd_) (S_.1 3 dd_ 4).toNat a_) 43 (0 + dd_) (S_.1 3 dd_ 4).toNat b_) 3 dd_ 4 ((S_.1 3 dd_ 4) + 1))) rfl ?_
        refine sm_T_bin (w := 2 * (S_.1 3 dd_ 4)) rfl (bi_mul (by omega) (by omega) (by omega)) ?_
        refine sm_T_ri rfl ⟨_, _, rfl, _, rfl, hIx19_, hFx20_, ?_⟩
        refine ⟨hDx21_, ?_⟩
        have ea_ : g_an F_ G1_ x_ y_ = (2 * ((F_ + G1_.length : Nat) : Int), G1_ ++ [(a_, b_)]) := by rw [g_an_mn hmn_, g_a2_n hn0_ hn1_ fd_.2.2]
        have nn9_ : (S_.1 3 dd_ 4).toNat = F_ + G1_.length := by omega
        have hr_ := an_go (v_ := 2 * S_.1 3 dd_ 4) (S1_ := (sm_pI (sm_aI (sm_aI (sm_aI S_ 29 0 ap_.toNat (S_.1 3 dd_ 4)) 42 (0 + dd_) (S_.1 3 dd_ 4).toNat a_) 43 (0 + dd_) (S_.1 3 dd_ 4).toNat b_) 3 dd_ 4 ((S_.1 3 dd_ 4) + 1))) hG1_ hG2_ hab_ (Or.inl ⟨by rw [ea_]; exact cgx_up (j_ := pr_.toNat) hG1_ (by omega) (by omega) (fun i_ hi_ => (h2_ i_ hi_).1) fd_.1 fd_.2.2 rfl (by (try simp only [rd_eq, rd_ne, rf_eq, rf_nk, rf_nt, rd_fa, rd_af, rd_fl, rd_al, rd_lf, rd_la, rd_leq, rd_lne, rd_fr, rd_ar, ne_eq, Nat.reduceEqDiff, not_false_eq_true])) (by (try simp only [rd_eq, rd_ne, rf_eq, rf_nk, rf_nt, rd_fa, rd_af, rd_fl, rd_al, rd_lf, rd_la, rd_leq, rd_lne, rd_fr, rd_ar, ne_eq, Nat.reduceEqDiff, not_false_eq_true])) (by (try simp only [rd_eq, rd_ne, rf_eq, rf_nk, rf_nt, rd_fa, rd_af, rd_fl, rd_al, rd_lf, rd_la, rd_leq, rd_lne, rd_fr, rd_ar, ne_eq, Nat.reduceEqDiff, not_false_eq_true])) (fun k_ => by (try simp only [rd_eq, rd_ne, rf_eq, rf_nk, rf_nt, rd_fa, rd_af, rd_fl, rd_al, rd_lf, rd_la, rd_leq, rd_lne, rd_fr, rd_ar, ne_eq, Nat.reduceEqDiff, not_false_eq_true]); rw [ap9_, x4_]) (fun k_ => by (try simp only [rd_eq, rd_ne, rf_eq, rf_nk, rf_nt, rd_fa, rd_af, rd_fl, rd_al, rd_lf, rd_la, rd_leq, rd_lne, rd_fr, rd_ar, ne_eq, Nat.reduceEqDiff, not_false_eq_true]); rw [nn9_]) (fun k_ => by (try simp only [rd_eq, rd_ne, rf_eq, rf_nk, rf_nt, rd_fa, rd_af, rd_fl, rd_al, rd_lf, rd_la, rd_leq, rd_lne, rd_fr, rd_ar, ne_eq, Nat.reduceEqDiff, not_false_eq_true]); rw [nn9_]), by rw [ea_]; omega, by (try simp only [rd_eq, rd_ne, rf_eq, rf_nk, rf_nt, rd_fa, rd_af, rd_fl, rd_al, rd_lf, rd_la, rd_leq, rd_lne, rd_fr, rd_ar, ne_eq, Nat.reduceEqDiff, not_false_eq_true])⟩)
        exact ⟨hr_.1, hr_.2, by omega⟩
      · have cx9_ : ¬ ((S_.1 3 dd_ 4) - vx8_ < 1000) := of_decide_eq_false cx9_
        have hIx22_ : gi (sm_pI S_ 1 0 8 1) := gi_pI hI_ (show 0 ≤ 1 ∧ 1 ≤ 1 from ⟨by omega, by omega⟩)
        have hFx23_ : ai_fr (sx_W vw_44) S0_ (sm_pI S_ 1 0 8 1) := ai_fr_tr hF_ (ai_fr_pI rfl)
        have hDx24_ : idf dd_ S0_ (sm_pI S_ 1 0 8 1) := idf_pI hD_ (Or.inl (by decide))
        refine sm_T_go 4 (c1 := (165, [some (.inr (.inr (some (1, 0)))), some (.inl x_), some (.inl y_), some (.inl a_), some (.inl b_), some (.inl ap_), some (.inl pr_), none], [.inl 0], sm_pI S_ 1 0 8 1)) rfl ?_
        refine sm_T_ri rfl ⟨_, _, rfl, _, rfl, hIx22_, hFx23_, ?_⟩
        refine ⟨hDx24_, ?_⟩
        have ea_ : g_an F_ G1_ x_ y_ = (2 * ((F_ + G1_.length : Nat) : Int), G1_ ++ [(a_, b_)]) := by rw [g_an_mn hmn_, g_a2_n hn0_ hn1_ fd_.2.2]
        have hr_ := an_go (v_ := 0) (S1_ := (sm_pI S_ 1 0 8 1)) hG1_ hG2_ hab_ (Or.inr ⟨by omega, by rw [ea_]; simp only [List.length_append, List.length_cons, List.length_nil]; omega, cgx_cg hG1_ rfl rfl rfl rfl rfl rfl rfl, rfl⟩)
        exact ⟨hr_.1, hr_.2, by omega⟩
    · have cx1_ : ¬ (4096 ≤ pr_) := of_decide_eq_false cx1_
      refine sm_T_go 3 (c1 := (75, [some (.inr (.inr (some (1, 0)))), some (.inl x_), some (.inl y_), some (.inl a_), some (.inl b_), some (.inl ap_), some (.inl pr_), none], [.inl ap_, .inr (.inr (some (29, 0)))], S_)) rfl ?_
      refine sm_T_iald (n := 4096) rfl rfl (by omega) (by omega) ?_
      have bx25_ : (-1) ≤ S_.2.2.1 29 0 ap_.toNat ∧ S_.2.2.1 29 0 ap_.toNat ≤ 1012 := hI_.2 29 0 _
      refine sm_T_b0 (a := 0) (z := 62) rfl (fun cx26_ => ?_) (fun cx26_ => ?_)
      · have cx26_ : (S_.2.2.1 29 0 ap_.toNat) = 0 := of_decide_eq_true cx26_
        have fd_ := bk_fd (j_ := pr_.toNat) (a_ := a_) (b_ := b_) x8_ x5_ x3_.1 (by omega) h2b (by have q9_ : hpl a_ b_ pr_.toNat = ap_.toNat := (by unfold hpl; omega); rw [q9_]; omega)
        have ap9_ : hpl a_ b_ pr_.toNat = ap_.toNat := by unfold hpl; omega
        refine sm_T_go 1 (c1 := (139, [some (.inr (.inr (some (1, 0)))), some (.inl x_), some (.inl y_), some (.inl a_), some (.inl b_), some (.inl ap_), some (.inl pr_), none], [.inr (.inr (some (1, 0)))], S_)) rfl ?_
        refine sm_T_gr rfl rfl ((hF_.2.1 1 0 1 rfl).trans hd_) ?_
        have bx27_ : 0 ≤ S_.1 3 dd_ 4 ∧ S_.1 3 dd_ 4 ≤ 1013 := hI_.1 3 dd_ 4 rfl
        refine sm_T_go 2 (c1 := (146, [some (.inr (.inr (some (1, 0)))), some (.inl x_), some (.inl y_), some (.inl a_), some (.inl b_), some (.inl ap_), some (.inl pr_), none], [.inr (.inr (some (1, 0))), .inl (S_.1 3 dd_ 4)], S_)) rfl ?_
        refine sm_T_gr rfl rfl ((hF_.2.1 1 0 1 rfl).trans hd_) ?_
        refine sm_T_cal (d1 := 0) (Q1 := vq_63 dd_ S_) rfl rfl (by decide) (vc_63 dd_ S_ hI_ (by omega)) (fun u_ Sx28_ px31_ => ?_)
        obtain ⟨rfl, vx33_, rfl, px31_⟩ := px31_
        have e149_ := px31_
        refine sm_T_bin (w := (S_.1 3 dd_ 4) - vx33_) rfl (bi_sub (by omega) (by omega) (by omega)) ?_
        refine sm_T_go 1 (c1 := (156, [some (.inr (.inr (some (1, 0)))), some (.inl x_), some (.inl y_), some (.inl a_), some (.inl b_), some (.inl ap_), some (.inl pr_), none], [.inl 1000, .inl ((S_.1 3 dd_ 4) - vx33_)], S_)) rfl ?_
        refine sm_T_br (a := 2) (z := 10) rfl (fun cx34_ => ?_) (fun cx34_ => ?_)
        · have cx34_ : (S_.1 3 dd_ 4) - vx33_ < 1000 := of_decide_eq_true cx34_
          refine sm_T_go 1 (c1 := (167, [some (.inr (.inr (some (1, 0)))), some (.inl x_), some (.inl y_), some (.inl a_), some (.inl b_), some (.inl ap_), some (.inl pr_), none], [.inr (.inr (some (1, 0)))], S_)) rfl ?_
          refine sm_T_gr rfl rfl ((hF_.2.1 1 0 1 rfl).trans hd_) ?_
          refine sm_T_go 6 (c1 := (183, [some (.inr (.inr (some (1, 0)))), some (.inl x_), some (.inl y_), some (.inl a_), some (.inl b_), some (.inl ap_), some (.inl (S_.1 3 dd_ 4)), none], [.inl (S_.1 3 dd_ 4), .inl ap_, .inr (.inr (some (29, 0)))], S_)) rfl ?_
          refine sm_T_iast (n := 4096) rfl rfl (by omega) (by omega) ?_
          have hIx35_ : gi (sm_aI S_ 29 0 ap_.toNat (S_.1 3 dd_ 4)) := gi_aI hI_ (show (-1) ≤ (S_.1 3 dd_ 4) ∧ (S_.1 3 dd_ 4) ≤ 1012 from ⟨by omega, by omega⟩)
          have hFx36_ : ai_fr (sx_W vw_44) S0_ (sm_aI S_ 29 0 ap_.toNat (S_.1 3 dd_ 4)) := ai_fr_tr hF_ (ai_fr_aI rfl)
          have hDx37_ : idf dd_ S0_ (sm_aI S_ 29 0 ap_.toNat (S_.1 3 dd_ 4)) := idf_aI hD_ (Or.inl (by decide))
          refine sm_T_go 1 (c1 := (185, [some (.inr (.inr (some (1, 0)))), some (.inl x_), some (.inl y_), some (.inl a_), some (.inl b_), some (.inl ap_), some (.inl (S_.1 3 dd_ 4)), none], [.inr (.inr (some (1, 0)))], sm_aI S_ 29 0 ap_.toNat (S_.1 3 dd_ 4))) rfl ?_
          refine sm_T_gr rfl rfl ((hFx36_.2.1 1 0 1 rfl).trans hd_) ?_
          refine sm_T_go 3 (c1 := (194, [some (.inr (.inr (some (1, 0)))), some (.inl x_), some (.inl y_), some (.inl a_), some (.inl b_), some (.inl ap_), some (.inl (S_.1 3 dd_ 4)), none], [.inl a_, .inl (S_.1 3 dd_ 4), .inr (.inr (some (42, (0 + dd_))))], sm_aI S_ 29 0 ap_.toNat (S_.1 3 dd_ 4))) rfl ?_
          refine sm_T_iast (n := 1013) rfl rfl (by omega) (by omega) ?_
          have hIx38_ : gi (sm_aI (sm_aI S_ 29 0 ap_.toNat (S_.1 3 dd_ 4)) 42 (0 + dd_) (S_.1 3 dd_ 4).toNat a_) := gi_aI hIx35_ (show 0 ≤ a_ ∧ a_ ≤ 2025 from ⟨by omega, by omega⟩)
          have hFx39_ : ai_fr (sx_W vw_44) S0_ (sm_aI (sm_aI S_ 29 0 ap_.toNat (S_.1 3 dd_ 4)) 42 (0 + dd_) (S_.1 3 dd_ 4).toNat a_) := ai_fr_tr hFx36_ (ai_fr_aI rfl)
          have hDx40_ : idf dd_ S0_ (sm_aI (sm_aI S_ 29 0 ap_.toNat (S_.1 3 dd_ 4)) 42 (0 + dd_) (S_.1 3 dd_ 4).toNat a_) := idf_aI hDx37_ (Or.inr rfl)
          refine sm_T_go 1 (c1 := (196, [some (.inr (.inr (some (1, 0)))), some (.inl x_), some (.inl y_), some (.inl a_), some (.inl b_), some (.inl ap_), some (.inl (S_.1 3 dd_ 4)), none], [.inr (.inr (some (1, 0)))], sm_aI (sm_aI S_ 29 0 ap_.toNat (S_.1 3 dd_ 4)) 42 (0 + dd_) (S_.1 3 dd_ 4).toNat a_)) rfl ?_
          refine sm_T_gr rfl rfl ((hFx39_.2.1 1 0 1 rfl).trans hd_) ?_
          refine sm_T_go 3 (c1 := (206, [some (.inr (.inr (some (1, 0)))), some (.inl x_), some (.inl y_), some (.inl a_), some (.inl b_), some (.inl ap_), some (.inl (S_.1 3 dd_ 4)), none], [.inl b_, .inl (S_.1 3 dd_ 4), .inr (.inr (some (43, (0 + dd_))))], sm_aI (sm_aI S_ 29 0 ap_.toNat (S_.1 3 dd_ 4)) 42 (0 + dd_) (S_.1 3 dd_ 4).toNat a_)) rfl ?_
          refine sm_T_iast (n := 1013) rfl rfl (by omega) (by omega) ?_
          have hIx41_ : gi (sm_aI (sm_aI (sm_aI S_ 29 0 ap_.toNat (S_.1 3 dd_ 4)) 42 (0 + dd_) (S_.1 3 dd_ 4).toNat a_) 43 (0 + dd_) (S_.1 3 dd_ 4).toNat b_) := gi_aI hIx38_ (show 0 ≤ b_ ∧ b_ ≤ 2025 from ⟨by omega, by omega⟩)
          have hFx42_ : ai_fr (sx_W vw_44) S0_ (sm_aI (sm_aI (sm_aI S_ 29 0 ap_.toNat (S_.1 3 dd_ 4)) 42 (0 + dd_) (S_.1 3 dd_ 4).toNat a_) 43 (0 + dd_) (S_.1 3 dd_ 4).toNat b_) := ai_fr_tr hFx39_ (ai_fr_aI rfl)
          have hDx43_ : idf dd_ S0_ (sm_aI (sm_aI (sm_aI S_ 29 0 ap_.toNat (S_.1 3 dd_ 4)) 42 (0 + dd_) (S_.1 3 dd_ 4).toNat a_) 43 (0 + dd_) (S_.1 3 dd_ 4).toNat b_) := idf_aI hDx40_ (Or.inr rfl)
          refine sm_T_go 1 (c1 := (208, [some (.inr (.inr (some (1, 0)))), some (.inl x_), some (.inl y_), some (.inl a_), some (.inl b_), some (.inl ap_), some (.inl (S_.1 3 dd_ 4)), none], [.inr (.inr (some (1, 0)))], sm_aI (sm_aI (sm_aI S_ 29 0 ap_.toNat (S_.1 3 dd_ 4)) 42 (0 + dd_) (S_.1 3 dd_ 4).toNat a_) 43 (0 + dd_) (S_.1 3 dd_ 4).toNat b_)) rfl ?_
          refine sm_T_gr rfl rfl ((hFx42_.2.1 1 0 1 rfl).trans hd_) ?_
          refine sm_T_go 3 (c1 := (216, [some (.inr (.inr (some (1, 0)))), some (.inl x_), some (.inl y_), some (.inl a_), some (.inl b_), some (.inl ap_), some (.inl (S_.1 3 dd_ 4)), none], [.inl 1, .inl (S_.1 3 dd_ 4), .inr (.inr (some (3, dd_)))], sm_aI (sm_aI (sm_aI S_ 29 0 ap_.toNat (S_.1 3 dd_ 4)) 42 (0 + dd_) (S_.1 3 dd_ 4).toNat a_) 43 (0 + dd_) (S_.1 3 dd_ 4).toNat b_)) rfl ?_
          refine sm_T_bin (w := (S_.1 3 dd_ 4) + 1) rfl (bi_add (by omega) (by omega) (by omega)) ?_
          have hIx44_ : gi (sm_pI (sm_aI (sm_aI (sm_aI S_ 29 0 ap_.toNat (S_.1 3 dd_ 4)) 42 (0 + dd_) (S_.1 3 dd_ 4).toNat a_) 43 (0 + dd_) (S_.1 3 dd_ 4).toNat b_) 3 dd_ 4 ((S_.1 3 dd_ 4) + 1)) := gi_pI hIx41_ (show 0 ≤ (S_.1 3 dd_ 4) + 1 ∧ (S_.1 3 dd_ 4) + 1 ≤ 1013 from ⟨by omega, by omega⟩)
          have hFx45_ : ai_fr (sx_W vw_44) S0_ (sm_pI (sm_aI (sm_aI (sm_aI S_ 29 0 ap_.toNat (S_.1 3 dd_ 4)) 42 (0 + dd_) (S_.1 3 dd_ 4).toNat a_) 43 (0 + dd_) (S_.1 3 dd_ 4).toNat b_) 3 dd_ 4 ((S_.1 3 dd_ 4) + 1)) := ai_fr_tr hFx42_ (ai_fr_pI rfl)
          have hDx46_ : idf dd_ S0_ (sm_pI (sm_aI (sm_aI (sm_aI S_ 29 0 ap_.toNat (S_.1 3 dd_ 4)) 42 (0 + dd_) (S_.1 3 dd_ 4).toNat a_) 43 (0 + dd_) (S_.1 3 dd_ 4).toNat b_) 3 dd_ 4 ((S_.1 3 dd_ 4) + 1)) := idf_pI hDx43_ (Or.inr rfl)
          refine sm_T_go 3 (c1 := (223, [some (.inr (.inr (some (1, 0)))), some (.inl x_), some (.inl y_), some (.inl a_), some (.inl b_), some (.inl ap_), some (.inl (S_.1 3 dd_ 4)), none], [.inl (S_.1 3 dd_ 4), .inl 2], sm_pI (sm_aI (sm_aI (sm_aI S_ 29 0 ap_.toNat (S_.1 3 dd_ 4)) 42 (0 + dd_) (S_.1 3 dd_ 4).toNat a_) 43 (0 + dd_) (S_.1 3 dd_ 4).toNat b_) 3 dd_ 4 ((S_.1 3 dd_ 4) + 1))) rfl ?_
          refine sm_T_bin (w := 2 * (S_.1 3 dd_ 4)) rfl (bi_mul (by omega) (by omega) (by omega)) ?_
          refine sm_T_ri rfl ⟨_, _, rfl, _, rfl, hIx44_, hFx45_, ?_⟩
          refine ⟨hDx46_, ?_⟩
          have ea_ : g_an F_ G1_ x_ y_ = (2 * ((F_ + G1_.length : Nat) : Int), G1_ ++ [(a_, b_)]) := by rw [g_an_mn hmn_, g_a2_n hn0_ hn1_ fd_.2.2]
          have nn9_ : (S_.1 3 dd_ 4).toNat = F_ + G1_.length := by omega
          have hr_ := an_go (v_ := 2 * S_.1 3 dd_ 4) (S1_ := (sm_pI (sm_aI (sm_aI (sm_aI S_ 29 0 ap_.toNat (S_.1 3 dd_ 4)) 42 (0 + dd_) (S_.1 3 dd_ 4).toNat a_) 43 (0 + dd_) (S_.1 3 dd_ 4).toNat b_) 3 dd_ 4 ((S_.1 3 dd_ 4) + 1))) hG1_ hG2_ hab_ (Or.inl ⟨by rw [ea_]; exact cgx_up (j_ := pr_.toNat) hG1_ (by omega) (by omega) (fun i_ hi_ => (h2_ i_ hi_).1) fd_.1 fd_.2.2 rfl (by (try simp only [rd_eq, rd_ne, rf_eq, rf_nk, rf_nt, rd_fa, rd_af, rd_fl, rd_al, rd_lf, rd_la, rd_leq, rd_lne, rd_fr, rd_ar, ne_eq, Nat.reduceEqDiff, not_false_eq_true])) (by (try simp only [rd_eq, rd_ne, rf_eq, rf_nk, rf_nt, rd_fa, rd_af, rd_fl, rd_al, rd_lf, rd_la, rd_leq, rd_lne, rd_fr, rd_ar, ne_eq, Nat.reduceEqDiff, not_false_eq_true])) (by (try simp only [rd_eq, rd_ne, rf_eq, rf_nk, rf_nt, rd_fa, rd_af, rd_fl, rd_al, rd_lf, rd_la, rd_leq, rd_lne, rd_fr, rd_ar, ne_eq, Nat.reduceEqDiff, not_false_eq_true])) (fun k_ => by (try simp only [rd_eq, rd_ne, rf_eq, rf_nk, rf_nt, rd_fa, rd_af, rd_fl, rd_al, rd_lf, rd_la, rd_leq, rd_lne, rd_fr, rd_ar, ne_eq, Nat.reduceEqDiff, not_false_eq_true]); rw [ap9_, x4_]) (fun k_ => by (try simp only [rd_eq, rd_ne, rf_eq, rf_nk, rf_nt, rd_fa, rd_af, rd_fl, rd_al, rd_lf, rd_la, rd_leq, rd_lne, rd_fr, rd_ar, ne_eq, Nat.reduceEqDiff, not_false_eq_true]); rw [nn9_]) (fun k_ => by (try simp only [rd_eq, rd_ne, rf_eq, rf_nk, rf_nt, rd_fa, rd_af, rd_fl, rd_al, rd_lf, rd_la, rd_leq, rd_lne, rd_fr, rd_ar, ne_eq, Nat.reduceEqDiff, not_false_eq_true]); rw [nn9_]), by rw [ea_]; omega, by (try simp only [rd_eq, rd_ne, rf_eq, rf_nk, rf_nt, rd_fa, rd_af, rd_fl, rd_al, rd_lf, rd_la, rd_leq, rd_lne, rd_fr, rd_ar, ne_eq, Nat.reduceEqDiff, not_false_eq_true])⟩)
          exact ⟨hr_.1, hr_.2, by omega⟩
        · have cx34_ : ¬ ((S_.1 3 dd_ 4) - vx33_ < 1000) := of_decide_eq_false cx34_
          have hIx47_ : gi (sm_pI S_ 1 0 8 1) := gi_pI hI_ (show 0 ≤ 1 ∧ 1 ≤ 1 from ⟨by omega, by omega⟩)
          have hFx48_ : ai_fr (sx_W vw_44) S0_ (sm_pI S_ 1 0 8 1) := ai_fr_tr hF_ (ai_fr_pI rfl)
          have hDx49_ : idf dd_ S0_ (sm_pI S_ 1 0 8 1) := idf_pI hD_ (Or.inl (by decide))
          refine sm_T_go 4 (c1 := (165, [some (.inr (.inr (some (1, 0)))), some (.inl x_), some (.inl y_), some (.inl a_), some (.inl b_), some (.inl ap_), some (.inl pr_), none], [.inl 0], sm_pI S_ 1 0 8 1)) rfl ?_
          refine sm_T_ri rfl ⟨_, _, rfl, _, rfl, hIx47_, hFx48_, ?_⟩
          refine ⟨hDx49_, ?_⟩
          have ea_ : g_an F_ G1_ x_ y_ = (2 * ((F_ + G1_.length : Nat) : Int), G1_ ++ [(a_, b_)]) := by rw [g_an_mn hmn_, g_a2_n hn0_ hn1_ fd_.2.2]
          have hr_ := an_go (v_ := 0) (S1_ := (sm_pI S_ 1 0 8 1)) hG1_ hG2_ hab_ (Or.inr ⟨by omega, by rw [ea_]; simp only [List.length_append, List.length_cons, List.length_nil]; omega, cgx_cg hG1_ rfl rfl rfl rfl rfl rfl rfl, rfl⟩)
          exact ⟨hr_.1, hr_.2, by omega⟩
      · have cx26_ : ¬ ((S_.2.2.1 29 0 ap_.toNat) = 0) := of_decide_eq_false cx26_
        obtain ⟨k9_, hk9_, ek9_⟩ : ∃ k_, k_ < G1_.length ∧ S_.2.2.1 29 0 ap_.toNat = ((F_ + k_ : Nat) : Int) := by rcases x8_.1 ap_.toNat (by omega) with z_ | z_; (exact absurd z_ (by omega)); (exact z_)
        obtain ⟨⟨px_, py_⟩, ep_⟩ : ∃ p_, G1_[k9_]? = some p_ := ⟨_, List.getElem?_eq_getElem hk9_⟩
        have ep2_ := x6_ k9_ px_ py_ ep_
        rw [show F_ + k9_ = (S_.2.2.1 29 0 ap_.toNat).toNat by omega] at ep2_
        refine sm_T_go 3 (c1 := (85, [some (.inr (.inr (some (1, 0)))), some (.inl x_), some (.inl y_), some (.inl a_), some (.inl b_), some (.inl ap_), some (.inl pr_), none], [.inl ap_, .inr (.inr (some (29, 0)))], S_)) rfl ?_
        refine sm_T_iald (n := 4096) rfl rfl (by omega) (by omega) ?_
        refine sm_T_go 2 (c1 := (89, [some (.inr (.inr (some (1, 0)))), some (.inl x_), some (.inl y_), some (.inl a_), some (.inl b_), some (.inl ap_), some (.inl pr_), some (.inl (S_.2.2.1 29 0 ap_.toNat))], [.inr (.inr (some (1, 0)))], S_)) rfl ?_
        refine sm_T_gr rfl rfl ((hF_.2.1 1 0 1 rfl).trans hd_) ?_
        refine sm_T_go 2 (c1 := (97, [some (.inr (.inr (some (1, 0)))), some (.inl x_), some (.inl y_), some (.inl a_), some (.inl b_), some (.inl ap_), some (.inl pr_), some (.inl (S_.2.2.1 29 0 ap_.toNat))], [.inl (S_.2.2.1 29 0 ap_.toNat), .inr (.inr (some (42, (0 + dd_))))], S_)) rfl ?_
        refine sm_T_iald (n := 1013) rfl rfl (by omega) (by omega) ?_
        have bx50_ : 0 ≤ S_.2.2.1 42 (0 + dd_) (S_.2.2.1 29 0 ap_.toNat).toNat ∧ S_.2.2.1 42 (0 + dd_) (S_.2.2.1 29 0 ap_.toNat).toNat ≤ 2025 := hI_.2 42 (0 + dd_) _
        refine sm_T_go 1 (c1 := (99, [some (.inr (.inr (some (1, 0)))), some (.inl x_), some (.inl y_), some (.inl a_), some (.inl b_), some (.inl ap_), some (.inl pr_), some (.inl (S_.2.2.1 29 0 ap_.toNat))], [.inl a_, .inl (S_.2.2.1 42 (0 + dd_) (S_.2.2.1 29 0 ap_.toNat).toNat)], S_)) rfl ?_
        refine sm_T_br (a := 1) (z := 23) rfl (fun cx51_ => ?_) (fun cx51_ => ?_)
        · have cx51_ : (S_.2.2.1 42 (0 + dd_) (S_.2.2.1 29 0 ap_.toNat).toNat) ≠ a_ := of_decide_eq_true cx51_
          refine sm_T_go 2 (c1 := (125, [some (.inr (.inr (some (1, 0)))), some (.inl x_), some (.inl y_), some (.inl a_), some (.inl b_), some (.inl ap_), some (.inl pr_), some (.inl (S_.2.2.1 29 0 ap_.toNat))], [.inl 1, .inl ap_], S_)) rfl ?_
          refine sm_T_bin (w := ap_ + 1) rfl (bi_add (by omega) (by omega) (by omega)) ?_
          refine sm_T_go 1 (c1 := (129, [some (.inr (.inr (some (1, 0)))), some (.inl x_), some (.inl y_), some (.inl a_), some (.inl b_), some (.inl ap_), some (.inl pr_), some (.inl (S_.2.2.1 29 0 ap_.toNat))], [.inl 4095, .inl (ap_ + 1)], S_)) rfl ?_
          refine sm_T_bin (w := ((ap_ + 1) % 4096)) rfl (bi_msk (k := 12) (by decide)) ?_
          refine sm_T_go 1 (c1 := (132, [some (.inr (.inr (some (1, 0)))), some (.inl x_), some (.inl y_), some (.inl a_), some (.inl b_), some (.inl ((ap_ + 1) % 4096)), some (.inl pr_), some (.inl (S_.2.2.1 29 0 ap_.toNat))], [], S_)) rfl ?_
          refine sm_T_inc (a := 6) (z := 1) (v := pr_) (w := pr_ + 1) rfl rfl (by omega) (by omega) (by omega) ?_
          refine sm_T_go 1 (c1 := (61, [some (.inr (.inr (some (1, 0)))), some (.inl x_), some (.inl y_), some (.inl a_), some (.inl b_), some (.inl ((ap_ + 1) % 4096)), some (.inl (pr_ + 1)), some (.inl (S_.2.2.1 29 0 ap_.toNat))], [], S_)) rfl ?_
          refine sm_T_wk [some (.inr (.inr (some (1, 0)))), some (.inl x_), some (.inl y_), some (.inl a_), some (.inl b_), some (.inl ((ap_ + 1) % 4096)), some (.inl (pr_ + 1)), none] (by exact ⟨rfl, rfl, rfl, rfl, rfl, rfl, rfl, trivial⟩) ?_
          refine ih_ a_ b_ ((ap_ + 1) % 4096) (pr_ + 1) S_ hI_ hF_ ⟨?_, ?_, ?_, ?_, ?_, ?_, ?_, ?_, trivial⟩ ?_
          · exact hS_
          · omega
          · exact hbd_
          · exact hmn_
          · exact hn0_
          · exact hn1_
          · intro i_ hi_
            by_cases z_ : i_ < pr_.toNat
            · exact h2_ i_ z_
            · have zi_ : i_ = pr_.toNat := by omega
              have q9_ : hpl a_ b_ i_ = ap_.toNat := by rw [zi_]; unfold hpl; omega
              rw [q9_]
              exact ⟨by omega, fun w9_ => by omega⟩
          · exact hD_
          · omega
        · have cx51_ : ¬ ((S_.2.2.1 42 (0 + dd_) (S_.2.2.1 29 0 ap_.toNat).toNat) ≠ a_) := of_decide_eq_false cx51_
          refine sm_T_go 1 (c1 := (103, [some (.inr (.inr (some (1, 0)))), some (.inl x_), some (.inl y_), some (.inl a_), some (.inl b_), some (.inl ap_), some (.inl pr_), some (.inl (S_.2.2.1 29 0 ap_.toNat))], [.inr (.inr (some (1, 0)))], S_)) rfl ?_
          refine sm_T_gr rfl rfl ((hF_.2.1 1 0 1 rfl).trans hd_) ?_
          refine sm_T_go 2 (c1 := (111, [some (.inr (.inr (some (1, 0)))), some (.inl x_), some (.inl y_), some (.inl a_), some (.inl b_), some (.inl ap_), some (.inl pr_), some (.inl (S_.2.2.1 29 0 ap_.toNat))], [.inl (S_.2.2.1 29 0 ap_.toNat), .inr (.inr (some (43, (0 + dd_))))], S_)) rfl ?_
          refine sm_T_iald (n := 1013) rfl rfl (by omega) (by omega) ?_
          have bx52_ : 0 ≤ S_.2.2.1 43 (0 + dd_) (S_.2.2.1 29 0 ap_.toNat).toNat ∧ S_.2.2.1 43 (0 + dd_) (S_.2.2.1 29 0 ap_.toNat).toNat ≤ 2025 := hI_.2 43 (0 + dd_) _
          refine sm_T_go 1 (c1 := (114, [some (.inr (.inr (some (1, 0)))), some (.inl x_), some (.inl y_), some (.inl a_), some (.inl b_), some (.inl ap_), some (.inl pr_), some (.inl (S_.2.2.1 29 0 ap_.toNat))], [.inl b_, .inl (S_.2.2.1 43 (0 + dd_) (S_.2.2.1 29 0 ap_.toNat).toNat)], S_)) rfl ?_
          refine sm_T_br (a := 1) (z := 8) rfl (fun cx53_ => ?_) (fun cx53_ => ?_)
          · have cx53_ : (S_.2.2.1 43 (0 + dd_) (S_.2.2.1 29 0 ap_.toNat).toNat) ≠ b_ := of_decide_eq_true cx53_
            refine sm_T_go 2 (c1 := (125, [some (.inr (.inr (some (1, 0)))), some (.inl x_), some (.inl y_), some (.inl a_), some (.inl b_), some (.inl ap_), some (.inl pr_), some (.inl (S_.2.2.1 29 0 ap_.toNat))], [.inl 1, .inl ap_], S_)) rfl ?_
            refine sm_T_bin (w := ap_ + 1) rfl (bi_add (by omega) (by omega) (by omega)) ?_
            refine sm_T_go 1 (c1 := (129, [some (.inr (.inr (some (1, 0)))), some (.inl x_), some (.inl y_), some (.inl a_), some (.inl b_), some (.inl ap_), some (.inl pr_), some (.inl (S_.2.2.1 29 0 ap_.toNat))], [.inl 4095, .inl (ap_ + 1)], S_)) rfl ?_
            refine sm_T_bin (w := ((ap_ + 1) % 4096)) rfl (bi_msk (k := 12) (by decide)) ?_
            refine sm_T_go 1 (c1 := (132, [some (.inr (.inr (some (1, 0)))), some (.inl x_), some (.inl y_), some (.inl a_), some (.inl b_), some (.inl ((ap_ + 1) % 4096)), some (.inl pr_), some (.inl (S_.2.2.1 29 0 ap_.toNat))], [], S_)) rfl ?_
            refine sm_T_inc (a := 6) (z := 1) (v := pr_) (w := pr_ + 1) rfl rfl (by omega) (by omega) (by omega) ?_
            refine sm_T_go 1 (c1 := (61, [some (.inr (.inr (some (1, 0)))), some (.inl x_), some (.inl y_), some (.inl a_), some (.inl b_), some (.inl ((ap_ + 1) % 4096)), some (.inl (pr_ + 1)), some (.inl (S_.2.2.1 29 0 ap_.toNat))], [], S_)) rfl ?_
            refine sm_T_wk [some (.inr (.inr (some (1, 0)))), some (.inl x_), some (.inl y_), some (.inl a_), some (.inl b_), some (.inl ((ap_ + 1) % 4096)), some (.inl (pr_ + 1)), none] (by exact ⟨rfl, rfl, rfl, rfl, rfl, rfl, rfl, trivial⟩) ?_
            refine ih_ a_ b_ ((ap_ + 1) % 4096) (pr_ + 1) S_ hI_ hF_ ⟨?_, ?_, ?_, ?_, ?_, ?_, ?_, ?_, trivial⟩ ?_
            · exact hS_
            · omega
            · exact hbd_
            · exact hmn_
            · exact hn0_
            · exact hn1_
            · intro i_ hi_
              by_cases z_ : i_ < pr_.toNat
              · exact h2_ i_ z_
              · have zi_ : i_ = pr_.toNat := by omega
                have q9_ : hpl a_ b_ i_ = ap_.toNat := by rw [zi_]; unfold hpl; omega
                rw [q9_]
                exact ⟨by omega, fun w9_ => by omega⟩
            · exact hD_
            · omega
          · have cx53_ : ¬ ((S_.2.2.1 43 (0 + dd_) (S_.2.2.1 29 0 ap_.toNat).toNat) ≠ b_) := of_decide_eq_false cx53_
            refine sm_T_go 2 (c1 := (120, [some (.inr (.inr (some (1, 0)))), some (.inl x_), some (.inl y_), some (.inl a_), some (.inl b_), some (.inl ap_), some (.inl pr_), some (.inl (S_.2.2.1 29 0 ap_.toNat))], [.inl (S_.2.2.1 29 0 ap_.toNat), .inl 2], S_)) rfl ?_
            refine sm_T_bin (w := 2 * (S_.2.2.1 29 0 ap_.toNat)) rfl (bi_mul (by omega) (by omega) (by omega)) ?_
            refine sm_T_ri rfl ⟨_, _, rfl, _, rfl, hI_, hF_, ?_⟩
            refine ⟨hD_, ?_⟩
            have epp_ : G1_[k9_]? = some (a_, b_) := by rw [ep_]; have q1_ : px_ = a_ := (by rw [← ep2_.1]; omega); have q2_ : py_ = b_ := (by rw [← ep2_.2]; omega); rw [q1_, q2_]
            have ea_ : g_an F_ G1_ x_ y_ = (2 * ((F_ + k9_ : Nat) : Int), G1_) := by rw [g_an_mn hmn_, g_a2_f hn0_ hn1_ (g_fd_s x7_ epp_)]
            have hr_ := an_go (v_ := 2 * S_.2.2.1 29 0 ap_.toNat) (S1_ := S_) hG1_ hG2_ hab_ (Or.inl ⟨by rw [ea_]; exact hG1_, by rw [ea_, ek9_], rfl⟩)
            exact ⟨hr_.1, hr_.2, by omega⟩
set_option maxHeartbeats 2000000 in
set_option maxRecDepth 20000 in
theorem vc_44 {sc_ : Nat × (Nat → Int)} (x_ : Int) (y_ : Int) (dd_ : Nat) (F_ : Nat) (G_ : pGr) (A_ : Int) (B_ : Int) (S0_ : sm_S) (hI_ : gi S0_) (hd_ : S0_.2.1 1 0 1 = some dd_) (hg_ : cgl dd_ F_ G_ S0_) (hx_ : 0 ≤ x_ ∧ x_ ≤ 2025) (hy_ : 0 ≤ y_ ∧ y_ ≤ 2025) (hab_ : imq (G_.length ≤ 1000) (x_ = A_ ∧ y_ = B_)) : sm_T (mt_P sc_) 1 44 (0, [some (.inr (.inr (some (1, 0)))), some (.inl x_), some (.inl y_), none, none, none, none, none], [], S0_) (fun ro9_ => ∃ u_ S1_, ro9_ = (.inl u_, S1_, 0) ∧ vq_44 x_ y_ dd_ F_ G_ A_ B_ S0_ u_ S1_) := by
  have hF_ : ai_fr (sx_W vw_44) S0_ S0_ := ai_fr_rf
  have hD_ : idf dd_ S0_ S0_ := idf_rf
  obtain ⟨G1_, hG1_, hG2_⟩ := id hg_
  obtain ⟨x1_, x2_, x3_, x4_, x5_, x6_, x7_, x8_⟩ := id hG1_
  refine sm_T_go 2 (c1 := (2, [some (.inr (.inr (some (1, 0)))), some (.inl x_), some (.inl y_), none, none, none, none, none], [.inl y_, .inl x_], S0_)) rfl ?_
  refine sm_T_nt (u := some (.inl (sm_mn x_ y_))) (S1 := S0_) rfl rfl rfl ?_
  have bx1_ := sm_mn_d x_ y_
  refine sm_T_go 3 (c1 := (8, [some (.inr (.inr (some (1, 0)))), some (.inl x_), some (.inl y_), some (.inl (sm_mn x_ y_)), none, none, none, none], [.inl y_, .inl x_], S0_)) rfl ?_
  refine sm_T_nt (u := some (.inl (sm_mx x_ y_))) (S1 := S0_) rfl rfl rfl ?_
  have bx2_ := sm_mx_d x_ y_
  refine sm_T_go 2 (c1 := (14, [some (.inr (.inr (some (1, 0)))), some (.inl x_), some (.inl y_), some (.inl (sm_mn x_ y_)), some (.inl (sm_mx x_ y_)), none, none, none], [.inl (sm_mn x_ y_)], S0_)) rfl ?_
  refine sm_T_b0 (a := 0) (z := 11) rfl (fun cx3_ => ?_) (fun cx3_ => ?_)
  · have cx3_ : (sm_mn x_ y_) = 0 := of_decide_eq_true cx3_
    refine sm_T_go 1 (c1 := (26, [some (.inr (.inr (some (1, 0)))), some (.inl x_), some (.inl y_), some (.inl (sm_mn x_ y_)), some (.inl (sm_mx x_ y_)), none, none, none], [.inl 0], S0_)) rfl ?_
    refine sm_T_ri rfl ⟨_, _, rfl, _, rfl, hI_, hF_, ?_⟩
    refine ⟨hD_, ?_⟩
    have ea_ : g_an F_ G1_ x_ y_ = (0, G1_) := by rw [g_an_mn (a_ := sm_mn x_ y_) (b_ := sm_mx x_ y_) (by omega)]; unfold g_a2; rw [if_pos (by omega)]
    have hr_ := an_go (v_ := 0) hG1_ hG2_ hab_ (Or.inl ⟨by rw [ea_]; exact hG1_, by rw [ea_], rfl⟩)
    exact ⟨hr_.1, hr_.2, by omega⟩
  · have cx3_ : ¬ ((sm_mn x_ y_) = 0) := of_decide_eq_false cx3_
    refine sm_T_go 3 (c1 := (21, [some (.inr (.inr (some (1, 0)))), some (.inl x_), some (.inl y_), some (.inl (sm_mn x_ y_)), some (.inl (sm_mx x_ y_)), none, none, none], [.inl 1, .inl (sm_mx x_ y_), .inl (sm_mn x_ y_)], S0_)) rfl ?_
    refine sm_T_bin (w := (i_xor (sm_mx x_ y_) 1)) rfl rfl ?_
    have bx4_ := i_x1 (x_ := (sm_mx x_ y_)) (by omega)
    refine sm_T_br (a := 1) (z := 5) rfl (fun cx5_ => ?_) (fun cx5_ => ?_)
    · have cx5_ : (sm_mn x_ y_) ≠ (i_xor (sm_mx x_ y_) 1) := of_decide_eq_true cx5_
      refine sm_T_go 2 (c1 := (29, [some (.inr (.inr (some (1, 0)))), some (.inl x_), some (.inl y_), some (.inl (sm_mn x_ y_)), some (.inl (sm_mx x_ y_)), none, none, none], [.inl 1, .inl (sm_mn x_ y_)], S0_)) rfl ?_
      refine sm_T_br (a := 0) (z := 9) rfl (fun cx6_ => ?_) (fun cx6_ => ?_)
      · have cx6_ : (sm_mn x_ y_) = 1 := of_decide_eq_true cx6_
        refine sm_T_go 1 (c1 := (40, [some (.inr (.inr (some (1, 0)))), some (.inl x_), some (.inl y_), some (.inl (sm_mn x_ y_)), some (.inl (sm_mx x_ y_)), none, none, none], [.inl (sm_mx x_ y_)], S0_)) rfl ?_
        refine sm_T_ri rfl ⟨_, _, rfl, _, rfl, hI_, hF_, ?_⟩
        refine ⟨hD_, ?_⟩
        have ea_ : g_an F_ G1_ x_ y_ = (sm_mx x_ y_, G1_) := by rw [g_an_mn (a_ := sm_mn x_ y_) (b_ := sm_mx x_ y_) (by omega)]; unfold g_a2; rw [if_neg (by omega), if_pos (by omega)]
        have hr_ := an_go (v_ := sm_mx x_ y_) hG1_ hG2_ hab_ (Or.inl ⟨by rw [ea_]; exact hG1_, by rw [ea_], rfl⟩)
        exact ⟨hr_.1, hr_.2, by omega⟩
      · have cx6_ : ¬ ((sm_mn x_ y_) = 1) := of_decide_eq_false cx6_
        refine sm_T_go 2 (c1 := (35, [some (.inr (.inr (some (1, 0)))), some (.inl x_), some (.inl y_), some (.inl (sm_mn x_ y_)), some (.inl (sm_mx x_ y_)), none, none, none], [.inl (sm_mx x_ y_), .inl (sm_mn x_ y_)], S0_)) rfl ?_
        refine sm_T_br (a := 1) (z := 6) rfl (fun cx7_ => ?_) (fun cx7_ => ?_)
        · have cx7_ : (sm_mn x_ y_) ≠ (sm_mx x_ y_) := of_decide_eq_true cx7_
          refine sm_T_go 2 (c1 := (45, [some (.inr (.inr (some (1, 0)))), some (.inl x_), some (.inl y_), some (.inl (sm_mn x_ y_)), some (.inl (sm_mx x_ y_)), none, none, none], [.inl 2027, .inl (sm_mn x_ y_)], S0_)) rfl ?_
          refine sm_T_bin (w := 2027 * (sm_mn x_ y_)) rfl (bi_mul (by omega) (by omega) (by omega)) ?_
          refine sm_T_go 2 (c1 := (50, [some (.inr (.inr (some (1, 0)))), some (.inl x_), some (.inl y_), some (.inl (sm_mn x_ y_)), some (.inl (sm_mx x_ y_)), none, none, none], [.inl 31, .inl (sm_mx x_ y_), .inl (2027 * (sm_mn x_ y_))], S0_)) rfl ?_
          refine sm_T_bin (w := 31 * (sm_mx x_ y_)) rfl (bi_mul (by omega) (by omega) (by omega)) ?_
          refine sm_T_bin (w := 2027 * (sm_mn x_ y_) + 31 * (sm_mx x_ y_)) rfl (bi_add (by omega) (by omega) (by omega)) ?_
          refine sm_T_go 1 (c1 := (55, [some (.inr (.inr (some (1, 0)))), some (.inl x_), some (.inl y_), some (.inl (sm_mn x_ y_)), some (.inl (sm_mx x_ y_)), none, none, none], [.inl 4095, .inl (2027 * (sm_mn x_ y_) + 31 * (sm_mx x_ y_))], S0_)) rfl ?_
          refine sm_T_bin (w := ((2027 * (sm_mn x_ y_) + 31 * (sm_mx x_ y_)) % 4096)) rfl (bi_msk (k := 12) (by decide)) ?_
          refine sm_T_go 3 (c1 := (61, [some (.inr (.inr (some (1, 0)))), some (.inl x_), some (.inl y_), some (.inl (sm_mn x_ y_)), some (.inl (sm_mx x_ y_)), some (.inl ((2027 * (sm_mn x_ y_) + 31 * (sm_mx x_ y_)) % 4096)), some (.inl 0), none], [], S0_)) rfl ?_
          refine (vl_44 x_ y_ dd_ F_ G_ A_ B_ S0_ hd_ hg_ hx_ hy_ hab_ _) (sm_mn x_ y_) (sm_mx x_ y_) ((2027 * (sm_mn x_ y_) + 31 * (sm_mx x_ y_)) % 4096) 0 S0_ hI_ hF_ ⟨?_, ?_, ?_, ?_, ?_, ?_, ?_, ?_, trivial⟩ (Nat.lt_succ_self _)
          · rfl
          · omega
          · omega
          · omega
          · omega
          · omega
          · (intro i_ hi_; exact absurd hi_ (Nat.not_lt_zero _))
          · exact hD_
        · have cx7_ : ¬ ((sm_mn x_ y_) ≠ (sm_mx x_ y_)) := of_decide_eq_false cx7_
          refine sm_T_go 1 (c1 := (40, [some (.inr (.inr (some (1, 0)))), some (.inl x_), some (.inl y_), some (.inl (sm_mn x_ y_)), some (.inl (sm_mx x_ y_)), none, none, none], [.inl (sm_mx x_ y_)], S0_)) rfl ?_
          refine sm_T_ri rfl ⟨_, _, rfl, _, rfl, hI_, hF_, ?_⟩
          refine ⟨hD_, ?_⟩
          have ea_ : g_an F_ G1_ x_ y_ = (sm_mx x_ y_, G1_) := by rw [g_an_mn (a_ := sm_mn x_ y_) (b_ := sm_mx x_ y_) (by omega)]; unfold g_a2; rw [if_neg (by omega), if_pos (by omega)]
          have hr_ := an_go (v_ := sm_mx x_ y_) hG1_ hG2_ hab_ (Or.inl ⟨by rw [ea_]; exact hG1_, by rw [ea_], rfl⟩)
          exact ⟨hr_.1, hr_.2, by omega⟩
    · have cx5_ : ¬ ((sm_mn x_ y_) ≠ (i_xor (sm_mx x_ y_) 1)) := of_decide_eq_false cx5_
      refine sm_T_go 1 (c1 := (26, [some (.inr (.inr (some (1, 0)))), some (.inl x_), some (.inl y_), some (.inl (sm_mn x_ y_)), some (.inl (sm_mx x_ y_)), none, none, none], [.inl 0], S0_)) rfl ?_
      refine sm_T_ri rfl ⟨_, _, rfl, _, rfl, hI_, hF_, ?_⟩
      refine ⟨hD_, ?_⟩
      have ea_ : g_an F_ G1_ x_ y_ = (0, G1_) := by rw [g_an_mn (a_ := sm_mn x_ y_) (b_ := sm_mx x_ y_) (by omega)]; unfold g_a2; rw [if_pos (by omega)]
      have hr_ := an_go (v_ := 0) hG1_ hG2_ hab_ (Or.inl ⟨by rw [ea_]; exact hG1_, by rw [ea_], rfl⟩)
      exact ⟨hr_.1, hr_.2, by omega⟩
