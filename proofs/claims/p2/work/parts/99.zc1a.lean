/-! the reference: AND, OR, XOR; written by wip/p55/gen/vg -/
/-! M_.and -/
def vw_328 : sx_Wl := ([(13, 37)], [140, 141, 142, 143], [])
def vq_328 (x_ : Int) (y_ : Int) (F_ : Nat) (G_ : pGr) (A_ : Int) (B_ : Int) (S0_ : sm_S) (u_ : Option sm_V) (S1_ : sm_S) : Prop := ∃ v_ : Int, u_ = some (.inl v_) ∧ gi S1_ ∧ ai_fr (sx_W vw_328) S0_ S1_ ∧ (rgl F_ (g_an F_ G_ A_ B_).2 S1_ ∧ (imq ((g_an F_ G_ A_ B_).2.length ≤ 1001) (v_ = (g_an F_ G_ A_ B_).1)) ∧ (0 ≤ v_ ∧ v_ ≤ 2047))
set_option maxHeartbeats 400000 in
set_option maxRecDepth 20000 in
theorem vl_328 {sc_ : Nat × (Nat → Int)} (x_ : Int) (y_ : Int) (F_ : Nat) (G_ : pGr) (A_ : Int) (B_ : Int) (S0_ : sm_S) (hg_ : rgl F_ G_ S0_) (hx_ : 0 ≤ x_ ∧ x_ ≤ 2047) (hy_ : 0 ≤ y_ ∧ y_ ≤ 2047) (hab_ : imq (G_.length ≤ 1001) (x_ = A_ ∧ y_ = B_)) : ∀ nn_ : Nat, (∀ (a_ : Int) (b_ : Int) (c_ : Int) (n_ : Int) (S_ : sm_S), gi S_ → ai_fr (sx_W vw_328) S0_ S_ → ((S_ = S0_) ∧ (rcb F_ (F_ + ((S_.1 13 0 37) - (S_.1 13 0 38)).toNat) n_) ∧ (c_ = (1021 * a_ + b_) % 4096) ∧ ((0 ≤ a_ ∧ a_ ≤ 2047) ∧ 0 ≤ b_ ∧ b_ ≤ 2047) ∧ ((x_ < y_ ∧ a_ = x_ ∧ b_ = y_) ∨ (y_ ≤ x_ ∧ a_ = y_ ∧ b_ = x_)) ∧ (¬ (a_ = 0 ∨ a_ = i_xor b_ 1)) ∧ (¬ (a_ = 1 ∨ a_ = b_)) ∧ (∀ t_ : Int, (S_.2.2.1 140 0 t_.toNat = a_ ∧ S_.2.2.1 141 0 t_.toNat = b_ ∧ (F_ : Int) ≤ t_ ∧ t_ < (S_.1 13 0 37)) → ∃ f_, rch (S_.2.2.1 143 0) f_ n_ t_) ∧ True) → (n_.toNat) < nn_ → sm_T (mt_P sc_) 0 328 (74, [some (.inr (.inr (some (13, 0)))), some (.inl x_), some (.inl y_), some (.inl a_), some (.inl b_), some (.inl c_), some (.inl n_)], [], S_) (fun ro9_ => ∃ u_ S1_, ro9_ = (.inl u_, S1_, 0) ∧ vq_328 x_ y_ F_ G_ A_ B_ S0_ u_ S1_)) := by
  intro nn_
  induction nn_ with
  | zero => exact fun _ _ _ _ _ _ _ _ h_ => absurd h_ (Nat.not_lt_zero _)
  | succ nn_ ih_ =>
    rintro a_ b_ c_ n_ S_ hI_ hF_ ⟨hS_, hn2_, hc_, hbd_, hmn_, hn0_, hn1_, h2_, -⟩ hm_
    have hgS_ : rgl F_ G_ S_ := by rw [hS_]; exact hg_
    obtain ⟨G1_, hG1_, hG2_⟩ := id hgS_
    obtain ⟨x1_, x2_, x4_, x5_, x6_, x7_, x8_⟩ := id hG1_
    refine sm_T_go 1 (c1 := (76, [some (.inr (.inr (some (13, 0)))), some (.inl x_), some (.inl y_), some (.inl a_), some (.inl b_), some (.inl c_), some (.inl n_)], [.inl n_], S_)) rfl ?_
    refine sm_T_b0 (a := 5) (z := 43) rfl (fun cx1_ => ?_) (fun cx1_ => ?_)
    · have cx1_ : n_ ≤ 0 := of_decide_eq_true cx1_
      have n0_ : n_ = 0 := by rcases hn2_ with z_ | z_; exact z_; omega
      have fd_ : g_fd a_ b_ G1_ 0 = none := by cases e9_ : g_fd a_ b_ G1_ 0 with | none => rfl | some k9_ => (exfalso; have q9_ := g_fd_b e9_; have q8_ := q9_.2.2; rw [Nat.sub_zero] at q8_; have q7_ := x6_ k9_ a_ b_ q8_; obtain ⟨f9_, q6_⟩ := h2_ ((F_ + k9_ : Nat) : Int) (by rw [Int.toNat_natCast]; exact ⟨q7_.1, q7_.2, by omega, by have := q9_.2.1; omega⟩); rw [n0_] at q6_; have := rch_0 q6_; omega)
      have bx2_ : 0 ≤ S_.1 13 0 37 ∧ S_.1 13 0 37 ≤ 1014 := hI_.1 13 0 37 rfl
      have bx3_ : 0 ≤ S_.1 13 0 38 ∧ S_.1 13 0 38 ≤ 19 := hI_.1 13 0 38 rfl
      refine sm_T_go 4 (c1 := (127, [some (.inr (.inr (some (13, 0)))), some (.inl x_), some (.inl y_), some (.inl a_), some (.inl b_), some (.inl c_), some (.inl n_)], [.inl (S_.1 13 0 38), .inl (S_.1 13 0 37)], S_)) rfl ?_
      refine sm_T_bin (w := (S_.1 13 0 37) - (S_.1 13 0 38)) rfl (bi_sub (by omega) (by omega) (by omega)) ?_
      refine sm_T_go 1 (c1 := (131, [some (.inr (.inr (some (13, 0)))), some (.inl x_), some (.inl y_), some (.inl a_), some (.inl b_), some (.inl c_), some (.inl n_)], [.inl 1000, .inl ((S_.1 13 0 37) - (S_.1 13 0 38))], S_)) rfl ?_
      refine sm_T_br (a := 5) (z := 5) rfl (fun cx4_ => ?_) (fun cx4_ => ?_)
      · have cx4_ : (S_.1 13 0 37) - (S_.1 13 0 38) ≤ 1000 := of_decide_eq_true cx4_
        refine sm_T_go 5 (c1 := (145, [some (.inr (.inr (some (13, 0)))), some (.inl x_), some (.inl y_), some (.inl a_), some (.inl b_), some (.inl c_), some (.inl n_)], [.inl a_, .inl (S_.1 13 0 37), .inr (.inr (some (140, 0)))], S_)) rfl ?_
        refine sm_T_iast (n := 2048) rfl rfl (by omega) (by omega) ?_
        have hIx5_ : gi (sm_aI S_ 140 0 (S_.1 13 0 37).toNat a_) := gi_aI hI_ (show 0 ≤ a_ ∧ a_ ≤ 2047 from ⟨by omega, by omega⟩)
        have hFx6_ : ai_fr (sx_W vw_328) S0_ (sm_aI S_ 140 0 (S_.1 13 0 37).toNat a_) := ai_fr_tr hF_ (ai_fr_aI rfl)
        refine sm_T_go 5 (c1 := (156, [some (.inr (.inr (some (13, 0)))), some (.inl x_), some (.inl y_), some (.inl a_), some (.inl b_), some (.inl c_), some (.inl n_)], [.inl b_, .inl (S_.1 13 0 37), .inr (.inr (some (141, 0)))], sm_aI S_ 140 0 (S_.1 13 0 37).toNat a_)) rfl ?_
        refine sm_T_iast (n := 2048) rfl rfl (by omega) (by omega) ?_
        have hIx7_ : gi (sm_aI (sm_aI S_ 140 0 (S_.1 13 0 37).toNat a_) 141 0 (S_.1 13 0 37).toNat b_) := gi_aI hIx5_ (show 0 ≤ b_ ∧ b_ ≤ 2047 from ⟨by omega, by omega⟩)
        have hFx8_ : ai_fr (sx_W vw_328) S0_ (sm_aI (sm_aI S_ 140 0 (S_.1 13 0 37).toNat a_) 141 0 (S_.1 13 0 37).toNat b_) := ai_fr_tr hFx6_ (ai_fr_aI rfl)
        refine sm_T_go 7 (c1 := (171, [some (.inr (.inr (some (13, 0)))), some (.inl x_), some (.inl y_), some (.inl a_), some (.inl b_), some (.inl c_), some (.inl n_)], [.inl c_, .inr (.inr (some (142, 0))), .inl (S_.1 13 0 37), .inr (.inr (some (143, 0)))], sm_aI (sm_aI S_ 140 0 (S_.1 13 0 37).toNat a_) 141 0 (S_.1 13 0 37).toNat b_)) rfl ?_
        refine sm_T_iald (n := 4096) rfl rfl (by omega) (by omega) ?_
        have bx9_ : 0 ≤ S_.2.2.1 142 0 c_.toNat ∧ S_.2.2.1 142 0 c_.toNat ≤ 1023 := hI_.2 142 0 _
        refine sm_T_go 0 (c1 := (172, [some (.inr (.inr (some (13, 0)))), some (.inl x_), some (.inl y_), some (.inl a_), some (.inl b_), some (.inl c_), some (.inl n_)], [.inl (S_.2.2.1 142 0 c_.toNat), .inl (S_.1 13 0 37), .inr (.inr (some (143, 0)))], sm_aI (sm_aI S_ 140 0 (S_.1 13 0 37).toNat a_) 141 0 (S_.1 13 0 37).toNat b_)) rfl ?_
        refine sm_T_iast (n := 2048) rfl rfl (by omega) (by omega) ?_
        have hIx10_ : gi (sm_aI (sm_aI (sm_aI S_ 140 0 (S_.1 13 0 37).toNat a_) 141 0 (S_.1 13 0 37).toNat b_) 143 0 (S_.1 13 0 37).toNat (S_.2.2.1 142 0 c_.toNat)) := gi_aI hIx7_ (show 0 ≤ (S_.2.2.1 142 0 c_.toNat) ∧ (S_.2.2.1 142 0 c_.toNat) ≤ 1023 from ⟨by omega, by omega⟩)
        have hFx11_ : ai_fr (sx_W vw_328) S0_ (sm_aI (sm_aI (sm_aI S_ 140 0 (S_.1 13 0 37).toNat a_) 141 0 (S_.1 13 0 37).toNat b_) 143 0 (S_.1 13 0 37).toNat (S_.2.2.1 142 0 c_.toNat)) := ai_fr_tr hFx8_ (ai_fr_aI rfl)
        refine sm_T_go 5 (c1 := (183, [some (.inr (.inr (some (13, 0)))), some (.inl x_), some (.inl y_), some (.inl a_), some (.inl b_), some (.inl c_), some (.inl n_)], [.inl (S_.1 13 0 37), .inl c_, .inr (.inr (some (142, 0)))], sm_aI (sm_aI (sm_aI S_ 140 0 (S_.1 13 0 37).toNat a_) 141 0 (S_.1 13 0 37).toNat b_) 143 0 (S_.1 13 0 37).toNat (S_.2.2.1 142 0 c_.toNat))) rfl ?_
        refine sm_T_iast (n := 4096) rfl rfl (by omega) (by omega) ?_
        have hIx12_ : gi (sm_aI (sm_aI (sm_aI (sm_aI S_ 140 0 (S_.1 13 0 37).toNat a_) 141 0 (S_.1 13 0 37).toNat b_) 143 0 (S_.1 13 0 37).toNat (S_.2.2.1 142 0 c_.toNat)) 142 0 c_.toNat (S_.1 13 0 37)) := gi_aI hIx10_ (show 0 ≤ (S_.1 13 0 37) ∧ (S_.1 13 0 37) ≤ 1023 from ⟨by omega, by omega⟩)
        have hFx13_ : ai_fr (sx_W vw_328) S0_ (sm_aI (sm_aI (sm_aI (sm_aI S_ 140 0 (S_.1 13 0 37).toNat a_) 141 0 (S_.1 13 0 37).toNat b_) 143 0 (S_.1 13 0 37).toNat (S_.2.2.1 142 0 c_.toNat)) 142 0 c_.toNat (S_.1 13 0 37)) := ai_fr_tr hFx11_ (ai_fr_aI rfl)
        refine sm_T_go 4 (c1 := (190, [some (.inr (.inr (some (13, 0)))), some (.inl x_), some (.inl y_), some (.inl a_), some (.inl b_), some (.inl c_), some (.inl n_)], [.inl 1, .inl (S_.1 13 0 37), .inr (.inr (some (13, 0)))], sm_aI (sm_aI (sm_aI (sm_aI S_ 140 0 (S_.1 13 0 37).toNat a_) 141 0 (S_.1 13 0 37).toNat b_) 143 0 (S_.1 13 0 37).toNat (S_.2.2.1 142 0 c_.toNat)) 142 0 c_.toNat (S_.1 13 0 37))) rfl ?_
        refine sm_T_bin (w := (S_.1 13 0 37) + 1) rfl (bi_add (by omega) (by omega) (by omega)) ?_
        have hIx14_ : gi (sm_pI (sm_aI (sm_aI (sm_aI (sm_aI S_ 140 0 (S_.1 13 0 37).toNat a_) 141 0 (S_.1 13 0 37).toNat b_) 143 0 (S_.1 13 0 37).toNat (S_.2.2.1 142 0 c_.toNat)) 142 0 c_.toNat (S_.1 13 0 37)) 13 0 37 ((S_.1 13 0 37) + 1)) := gi_pI hIx12_ (show 0 ≤ (S_.1 13 0 37) + 1 ∧ (S_.1 13 0 37) + 1 ≤ 1014 from ⟨by omega, by omega⟩)
        have hFx15_ : ai_fr (sx_W vw_328) S0_ (sm_pI (sm_aI (sm_aI (sm_aI (sm_aI S_ 140 0 (S_.1 13 0 37).toNat a_) 141 0 (S_.1 13 0 37).toNat b_) 143 0 (S_.1 13 0 37).toNat (S_.2.2.1 142 0 c_.toNat)) 142 0 c_.toNat (S_.1 13 0 37)) 13 0 37 ((S_.1 13 0 37) + 1)) := ai_fr_tr hFx13_ (ai_fr_pI rfl)
        refine sm_T_go 4 (c1 := (199, [some (.inr (.inr (some (13, 0)))), some (.inl x_), some (.inl y_), some (.inl a_), some (.inl b_), some (.inl c_), some (.inl n_)], [.inl ((S_.1 13 0 37) + 1), .inl 2], sm_pI (sm_aI (sm_aI (sm_aI (sm_aI S_ 140 0 (S_.1 13 0 37).toNat a_) 141 0 (S_.1 13 0 37).toNat b_) 143 0 (S_.1 13 0 37).toNat (S_.2.2.1 142 0 c_.toNat)) 142 0 c_.toNat (S_.1 13 0 37)) 13 0 37 ((S_.1 13 0 37) + 1))) rfl ?_
        refine sm_T_bin (w := 2 * (S_.1 13 0 37) + 2) rfl (bi_mul (by omega) (by omega) (by omega)) ?_
        refine sm_T_go 1 (c1 := (201, [some (.inr (.inr (some (13, 0)))), some (.inl x_), some (.inl y_), some (.inl a_), some (.inl b_), some (.inl c_), some (.inl n_)], [.inl 2, .inl (2 * (S_.1 13 0 37) + 2)], sm_pI (sm_aI (sm_aI (sm_aI (sm_aI S_ 140 0 (S_.1 13 0 37).toNat a_) 141 0 (S_.1 13 0 37).toNat b_) 143 0 (S_.1 13 0 37).toNat (S_.2.2.1 142 0 c_.toNat)) 142 0 c_.toNat (S_.1 13 0 37)) 13 0 37 ((S_.1 13 0 37) + 1))) rfl ?_
        refine sm_T_bin (w := 2 * (S_.1 13 0 37)) rfl (bi_sub (by omega) (by omega) (by omega)) ?_
        refine sm_T_ri rfl ⟨_, _, rfl, _, rfl, hIx14_, hFx15_, ?_⟩
        have ea_ : g_an F_ G1_ x_ y_ = (2 * ((F_ + G1_.length : Nat) : Int), G1_ ++ [(a_, b_)]) := by rw [g_an_mn hmn_, g_a2_n hn0_ hn1_ fd_]
        have nn9_ : (S_.1 13 0 37).toNat = F_ + G1_.length := by omega
        have hc9_ : hsr a_ b_ = c_.toNat := by unfold hsr; omega
        have hr_ := ar_go (v_ := 2 * S_.1 13 0 37) (S1_ := (sm_pI (sm_aI (sm_aI (sm_aI (sm_aI S_ 140 0 (S_.1 13 0 37).toNat a_) 141 0 (S_.1 13 0 37).toNat b_) 143 0 (S_.1 13 0 37).toNat (S_.2.2.1 142 0 c_.toNat)) 142 0 c_.toNat (S_.1 13 0 37)) 13 0 37 ((S_.1 13 0 37) + 1))) hG1_ hG2_ hab_ (Or.inl ⟨by rw [ea_]; exact rgx_up hG1_ (by omega) fd_ (by (try simp only [rd_eq, rd_ne, rf_eq, rf_nk, rf_nt, rd_fa, rd_af, rd_fl, rd_al, rd_lf, rd_la, rd_leq, rd_lne, rd_fr, rd_ar, ne_eq, Nat.reduceEqDiff, not_false_eq_true])) (by (try simp only [rd_eq, rd_ne, rf_eq, rf_nk, rf_nt, rd_fa, rd_af, rd_fl, rd_al, rd_lf, rd_la, rd_leq, rd_lne, rd_fr, rd_ar, ne_eq, Nat.reduceEqDiff, not_false_eq_true])) (fun k_ => by (try simp only [rd_eq, rd_ne, rf_eq, rf_nk, rf_nt, rd_fa, rd_af, rd_fl, rd_al, rd_lf, rd_la, rd_leq, rd_lne, rd_fr, rd_ar, ne_eq, Nat.reduceEqDiff, not_false_eq_true]); rw [hc9_, x4_]) (fun k_ => by (try simp only [rd_eq, rd_ne, rf_eq, rf_nk, rf_nt, rd_fa, rd_af, rd_fl, rd_al, rd_lf, rd_la, rd_leq, rd_lne, rd_fr, rd_ar, ne_eq, Nat.reduceEqDiff, not_false_eq_true]); rw [hc9_, nn9_]) (fun k_ => by (try simp only [rd_eq, rd_ne, rf_eq, rf_nk, rf_nt, rd_fa, rd_af, rd_fl, rd_al, rd_lf, rd_la, rd_leq, rd_lne, rd_fr, rd_ar, ne_eq, Nat.reduceEqDiff, not_false_eq_true]); rw [nn9_]) (fun k_ => by (try simp only [rd_eq, rd_ne, rf_eq, rf_nk, rf_nt, rd_fa, rd_af, rd_fl, rd_al, rd_lf, rd_la, rd_leq, rd_lne, rd_fr, rd_ar, ne_eq, Nat.reduceEqDiff, not_false_eq_true]); rw [nn9_]), by rw [ea_]; omega⟩)
        first | exact ⟨hr_.1, hr_.2, by omega⟩ | (refine ⟨hr_.1, fun z_ => ?_, by omega⟩; rw [← hr_.2 z_]; omega)
      · have cx4_ : ¬ ((S_.1 13 0 37) - (S_.1 13 0 38) ≤ 1000) := of_decide_eq_false cx4_
        refine sm_T_go 1 (c1 := (135, [some (.inr (.inr (some (13, 0)))), some (.inl x_), some (.inl y_), some (.inl a_), some (.inl b_), some (.inl c_), some (.inl n_)], [.inl 0], S_)) rfl ?_
        refine sm_T_ri rfl ⟨_, _, rfl, _, rfl, hI_, hF_, ?_⟩
        have ea_ : g_an F_ G1_ x_ y_ = (2 * ((F_ + G1_.length : Nat) : Int), G1_ ++ [(a_, b_)]) := by rw [g_an_mn hmn_, g_a2_n hn0_ hn1_ fd_]
        have hr_ := ar_go (v_ := 0) (S1_ := S_) hG1_ hG2_ hab_ (Or.inr ⟨by omega, by rw [ea_]; simp only [List.length_append, List.length_cons, List.length_nil]; omega, hG1_⟩)
        exact ⟨hr_.1, hr_.2, by omega⟩
    · have cx1_ : ¬ (n_ ≤ 0) := of_decide_eq_false cx1_
      have hn3_ : (F_ : Int) ≤ n_ ∧ n_ < S_.1 13 0 37 := by rcases hn2_ with z_ | z_; omega; omega
      obtain ⟨⟨px_, py_⟩, ep_⟩ : ∃ p_, G1_[(n_ - F_).toNat]? = some p_ := ⟨_, List.getElem?_eq_getElem (by omega)⟩
      have ep2_ := x6_ _ px_ py_ ep_
      rw [show F_ + (n_ - F_).toNat = n_.toNat by omega] at ep2_
      refine sm_T_go 3 (c1 := (85, [some (.inr (.inr (some (13, 0)))), some (.inl x_), some (.inl y_), some (.inl a_), some (.inl b_), some (.inl c_), some (.inl n_)], [.inl n_, .inr (.inr (some (140, 0)))], S_)) rfl ?_
      refine sm_T_iald (n := 2048) rfl rfl (by omega) (by omega) ?_
      have bx16_ : 0 ≤ S_.2.2.1 140 0 n_.toNat ∧ S_.2.2.1 140 0 n_.toNat ≤ 2047 := hI_.2 140 0 _
      refine sm_T_go 1 (c1 := (87, [some (.inr (.inr (some (13, 0)))), some (.inl x_), some (.inl y_), some (.inl a_), some (.inl b_), some (.inl c_), some (.inl n_)], [.inl a_, .inl (S_.2.2.1 140 0 n_.toNat)], S_)) rfl ?_
      refine sm_T_br (a := 1) (z := 20) rfl (fun cx17_ => ?_) (fun cx17_ => ?_)
      · have cx17_ : (S_.2.2.1 140 0 n_.toNat) ≠ a_ := of_decide_eq_true cx17_
        refine sm_T_go 3 (c1 := (113, [some (.inr (.inr (some (13, 0)))), some (.inl x_), some (.inl y_), some (.inl a_), some (.inl b_), some (.inl c_), some (.inl n_)], [.inl n_, .inr (.inr (some (143, 0)))], S_)) rfl ?_
        refine sm_T_iald (n := 2048) rfl rfl (by omega) (by omega) ?_
        have bx18_ : 0 ≤ S_.2.2.1 143 0 n_.toNat ∧ S_.2.2.1 143 0 n_.toNat ≤ 1023 := hI_.2 143 0 _
        refine sm_T_go 2 (c1 := (74, [some (.inr (.inr (some (13, 0)))), some (.inl x_), some (.inl y_), some (.inl a_), some (.inl b_), some (.inl c_), some (.inl (S_.2.2.1 143 0 n_.toNat))], [], S_)) rfl ?_
        refine ih_ a_ b_ c_ (S_.2.2.1 143 0 n_.toNat) S_ hI_ hF_ ⟨?_, ?_, ?_, ?_, ?_, ?_, ?_, ?_, trivial⟩ ?_
        · exact hS_
        · have q_ := x8_.2.1 (n_ - F_).toNat (by omega)
          rw [show F_ + (n_ - F_).toNat = n_.toNat by omega] at q_
          rcases q_ with q_ | q_
          · exact Or.inl q_
          · exact Or.inr (by omega)
        · exact hc_
        · exact hbd_
        · exact hmn_
        · exact hn0_
        · exact hn1_
        · intro t_ q_
          obtain ⟨f_, q5_⟩ := h2_ t_ q_
          by_cases e9_ : n_ = t_
          · exfalso; subst e9_; omega
          · exact (rch_s q5_ e9_).2
        · (have q_ := x8_.2.1 (n_ - F_).toNat (by omega)); rw [show F_ + (n_ - F_).toNat = n_.toNat by omega] at q_; rcases q_ with q_ | q_; omega; omega
      · have cx17_ : ¬ ((S_.2.2.1 140 0 n_.toNat) ≠ a_) := of_decide_eq_false cx17_
        refine sm_T_go 3 (c1 := (96, [some (.inr (.inr (some (13, 0)))), some (.inl x_), some (.inl y_), some (.inl a_), some (.inl b_), some (.inl c_), some (.inl n_)], [.inl n_, .inr (.inr (some (141, 0)))], S_)) rfl ?_
        refine sm_T_iald (n := 2048) rfl rfl (by omega) (by omega) ?_
        have bx19_ : 0 ≤ S_.2.2.1 141 0 n_.toNat ∧ S_.2.2.1 141 0 n_.toNat ≤ 2047 := hI_.2 141 0 _
        refine sm_T_go 1 (c1 := (99, [some (.inr (.inr (some (13, 0)))), some (.inl x_), some (.inl y_), some (.inl a_), some (.inl b_), some (.inl c_), some (.inl n_)], [.inl b_, .inl (S_.2.2.1 141 0 n_.toNat)], S_)) rfl ?_
        refine sm_T_br (a := 1) (z := 8) rfl (fun cx20_ => ?_) (fun cx20_ => ?_)
        · have cx20_ : (S_.2.2.1 141 0 n_.toNat) ≠ b_ := of_decide_eq_true cx20_
          refine sm_T_go 3 (c1 := (113, [some (.inr (.inr (some (13, 0)))), some (.inl x_), some (.inl y_), some (.inl a_), some (.inl b_), some (.inl c_), some (.inl n_)], [.inl n_, .inr (.inr (some (143, 0)))], S_)) rfl ?_
          refine sm_T_iald (n := 2048) rfl rfl (by omega) (by omega) ?_
          have bx21_ : 0 ≤ S_.2.2.1 143 0 n_.toNat ∧ S_.2.2.1 143 0 n_.toNat ≤ 1023 := hI_.2 143 0 _
          refine sm_T_go 2 (c1 := (74, [some (.inr (.inr (some (13, 0)))), some (.inl x_), some (.inl y_), some (.inl a_), some (.inl b_), some (.inl c_), some (.inl (S_.2.2.1 143 0 n_.toNat))], [], S_)) rfl ?_
          refine ih_ a_ b_ c_ (S_.2.2.1 143 0 n_.toNat) S_ hI_ hF_ ⟨?_, ?_, ?_, ?_, ?_, ?_, ?_, ?_, trivial⟩ ?_
          · exact hS_
          · have q_ := x8_.2.1 (n_ - F_).toNat (by omega)
            rw [show F_ + (n_ - F_).toNat = n_.toNat by omega] at q_
            rcases q_ with q_ | q_
            · exact Or.inl q_
            · exact Or.inr (by omega)
          · exact hc_
          · exact hbd_
          · exact hmn_
          · exact hn0_
          · exact hn1_
          · intro t_ q_
            obtain ⟨f_, q5_⟩ := h2_ t_ q_
            by_cases e9_ : n_ = t_
            · exfalso; subst e9_; omega
            · exact (rch_s q5_ e9_).2
          · (have q_ := x8_.2.1 (n_ - F_).toNat (by omega)); rw [show F_ + (n_ - F_).toNat = n_.toNat by omega] at q_; rcases q_ with q_ | q_; omega; omega
        · have cx20_ : ¬ ((S_.2.2.1 141 0 n_.toNat) ≠ b_) := of_decide_eq_false cx20_
          refine sm_T_go 2 (c1 := (105, [some (.inr (.inr (some (13, 0)))), some (.inl x_), some (.inl y_), some (.inl a_), some (.inl b_), some (.inl c_), some (.inl n_)], [.inl n_, .inl 2], S_)) rfl ?_
          refine sm_T_bin (w := 2 * n_) rfl (bi_mul (by omega) (by omega) (by omega)) ?_
          refine sm_T_ri rfl ⟨_, _, rfl, _, rfl, hI_, hF_, ?_⟩
          have epp_ : G1_[(n_ - F_).toNat]? = some (a_, b_) := by rw [ep_]; have q1_ : px_ = a_ := (by rw [← ep2_.1]; omega); have q2_ : py_ = b_ := (by rw [← ep2_.2]; omega); rw [q1_, q2_]
          have ea_ : g_an F_ G1_ x_ y_ = (2 * ((F_ + (n_ - F_).toNat : Nat) : Int), G1_) := by rw [g_an_mn hmn_, g_a2_f hn0_ hn1_ (g_fd_s x7_ epp_)]
          have hr_ := ar_go (v_ := 2 * n_) (S1_ := S_) hG1_ hG2_ hab_ (Or.inl ⟨by rw [ea_]; exact hG1_, by rw [ea_]; omega⟩)
          exact ⟨hr_.1, hr_.2, by omega⟩
set_option maxHeartbeats 400000 in
set_option maxRecDepth 20000 in
theorem vc_328 {sc_ : Nat × (Nat → Int)} (x_ : Int) (y_ : Int) (F_ : Nat) (G_ : pGr) (A_ : Int) (B_ : Int) (S0_ : sm_S) (hI_ : gi S0_) (hg_ : rgl F_ G_ S0_) (hx_ : 0 ≤ x_ ∧ x_ ≤ 2047) (hy_ : 0 ≤ y_ ∧ y_ ≤ 2047) (hab_ : imq (G_.length ≤ 1001) (x_ = A_ ∧ y_ = B_)) : sm_T (mt_P sc_) 0 328 (0, [some (.inr (.inr (some (13, 0)))), some (.inl x_), some (.inl y_), none, none, none, none], [], S0_) (fun ro9_ => ∃ u_ S1_, ro9_ = (.inl u_, S1_, 0) ∧ vq_328 x_ y_ F_ G_ A_ B_ S0_ u_ S1_) := by
  have hF_ : ai_fr (sx_W vw_328) S0_ S0_ := ai_fr_rf
  obtain ⟨G1_, hG1_, hG2_⟩ := id hg_
  obtain ⟨x1_, x2_, x4_, x5_, x6_, x7_, x8_⟩ := id hG1_
  refine sm_T_go 2 (c1 := (2, [some (.inr (.inr (some (13, 0)))), some (.inl x_), some (.inl y_), none, none, none, none], [.inl y_, .inl x_], S0_)) rfl ?_
  refine sm_T_br (a := 3) (z := 7) rfl (fun cx1_ => ?_) (fun cx1_ => ?_)
  · have cx1_ : y_ ≤ x_ := of_decide_eq_true cx1_
    refine sm_T_go 4 (c1 := (13, [some (.inr (.inr (some (13, 0)))), some (.inl x_), some (.inl y_), some (.inl y_), none, none, none], [.inl y_, .inl x_], S0_)) rfl ?_
    refine sm_T_br (a := 3) (z := 7) rfl (fun cx2_ => ?_) (fun cx2_ => ?_)
    · have cx2_ : y_ ≤ x_ := of_decide_eq_true cx2_
      refine sm_T_go 3 (c1 := (24, [some (.inr (.inr (some (13, 0)))), some (.inl x_), some (.inl y_), some (.inl y_), some (.inl x_), none, none], [.inl y_], S0_)) rfl ?_
      refine sm_T_b0 (a := 0) (z := 11) rfl (fun cx3_ => ?_) (fun cx3_ => ?_)
      · have cx3_ : y_ = 0 := of_decide_eq_true cx3_
        refine sm_T_go 1 (c1 := (36, [some (.inr (.inr (some (13, 0)))), some (.inl x_), some (.inl y_), some (.inl y_), some (.inl x_), none, none], [.inl 0], S0_)) rfl ?_
        refine sm_T_ri rfl ⟨_, _, rfl, _, rfl, hI_, hF_, ?_⟩
        have ea_ : g_an F_ G1_ x_ y_ = (0, G1_) := by first | (rw [g_an_mn (a_ := x_) (b_ := y_) (by omega)]; unfold g_a2; rw [if_pos (by omega)]) | (rw [g_an_mn (a_ := y_) (b_ := x_) (by omega)]; unfold g_a2; rw [if_pos (by omega)])
        have hr_ := ar_go (v_ := 0) hG1_ hG2_ hab_ (Or.inl ⟨by rw [ea_]; exact hG1_, by rw [ea_]⟩)
        exact ⟨hr_.1, hr_.2, by omega⟩
      · have cx3_ : ¬ (y_ = 0) := of_decide_eq_false cx3_
        refine sm_T_go 3 (c1 := (31, [some (.inr (.inr (some (13, 0)))), some (.inl x_), some (.inl y_), some (.inl y_), some (.inl x_), none, none], [.inl 1, .inl x_, .inl y_], S0_)) rfl ?_
        refine sm_T_bin (w := (i_xor x_ 1)) rfl rfl ?_
        have bx4_ := i_x1 (x_ := x_) (by omega)
        refine sm_T_br (a := 1) (z := 5) rfl (fun cx5_ => ?_) (fun cx5_ => ?_)
        · have cx5_ : y_ ≠ (i_xor x_ 1) := of_decide_eq_true cx5_
          refine sm_T_go 2 (c1 := (39, [some (.inr (.inr (some (13, 0)))), some (.inl x_), some (.inl y_), some (.inl y_), some (.inl x_), none, none], [.inl 1, .inl y_], S0_)) rfl ?_
          refine sm_T_br (a := 0) (z := 9) rfl (fun cx6_ => ?_) (fun cx6_ => ?_)
          · have cx6_ : y_ = 1 := of_decide_eq_true cx6_
            refine sm_T_go 1 (c1 := (50, [some (.inr (.inr (some (13, 0)))), some (.inl x_), some (.inl y_), some (.inl y_), some (.inl x_), none, none], [.inl x_], S0_)) rfl ?_
            refine sm_T_ri rfl ⟨_, _, rfl, _, rfl, hI_, hF_, ?_⟩
            first | (have ea_ : g_an F_ G1_ x_ y_ = (y_, G1_) := (by rw [g_an_mn (a_ := x_) (b_ := y_) (by omega)]; unfold g_a2; rw [if_neg (by omega), if_pos (by omega)]); have hr_ := ar_go (v_ := y_) hG1_ hG2_ hab_ (Or.inl ⟨by rw [ea_]; exact hG1_, by rw [ea_]⟩); exact ⟨hr_.1, hr_.2, by omega⟩) | (have ea_ : g_an F_ G1_ x_ y_ = (x_, G1_) := (by rw [g_an_mn (a_ := y_) (b_ := x_) (by omega)]; unfold g_a2; rw [if_neg (by omega), if_pos (by omega)]); have hr_ := ar_go (v_ := x_) hG1_ hG2_ hab_ (Or.inl ⟨by rw [ea_]; exact hG1_, by rw [ea_]⟩); exact ⟨hr_.1, hr_.2, by omega⟩)
          · have cx6_ : ¬ (y_ = 1) := of_decide_eq_false cx6_
            refine sm_T_go 2 (c1 := (45, [some (.inr (.inr (some (13, 0)))), some (.inl x_), some (.inl y_), some (.inl y_), some (.inl x_), none, none], [.inl x_, .inl y_], S0_)) rfl ?_
            refine sm_T_br (a := 1) (z := 6) rfl (fun cx7_ => ?_) (fun cx7_ => ?_)
            · have cx7_ : y_ ≠ x_ := of_decide_eq_true cx7_
              refine sm_T_go 2 (c1 := (55, [some (.inr (.inr (some (13, 0)))), some (.inl x_), some (.inl y_), some (.inl y_), some (.inl x_), none, none], [.inl y_, .inl 1021], S0_)) rfl ?_
              refine sm_T_bin (w := 1021 * y_) rfl (bi_mul (by omega) (by omega) (by omega)) ?_
              refine sm_T_go 1 (c1 := (58, [some (.inr (.inr (some (13, 0)))), some (.inl x_), some (.inl y_), some (.inl y_), some (.inl x_), none, none], [.inl x_, .inl (1021 * y_)], S0_)) rfl ?_
              refine sm_T_bin (w := 1021 * y_ + x_) rfl (bi_add (by omega) (by omega) (by omega)) ?_
              refine sm_T_go 1 (c1 := (62, [some (.inr (.inr (some (13, 0)))), some (.inl x_), some (.inl y_), some (.inl y_), some (.inl x_), none, none], [.inl 4095, .inl (1021 * y_ + x_)], S0_)) rfl ?_
              refine sm_T_bin (w := ((1021 * y_ + x_) % 4096)) rfl (bi_msk (k := 12) (by decide)) ?_
              refine sm_T_go 4 (c1 := (71, [some (.inr (.inr (some (13, 0)))), some (.inl x_), some (.inl y_), some (.inl y_), some (.inl x_), some (.inl ((1021 * y_ + x_) % 4096)), none], [.inl ((1021 * y_ + x_) % 4096), .inr (.inr (some (142, 0)))], S0_)) rfl ?_
              refine sm_T_iald (n := 4096) rfl rfl (by omega) (by omega) ?_
              have bx8_ : 0 ≤ S0_.2.2.1 142 0 ((1021 * y_ + x_) % 4096).toNat ∧ S0_.2.2.1 142 0 ((1021 * y_ + x_) % 4096).toNat ≤ 1023 := hI_.2 142 0 _
              refine sm_T_go 1 (c1 := (74, [some (.inr (.inr (some (13, 0)))), some (.inl x_), some (.inl y_), some (.inl y_), some (.inl x_), some (.inl ((1021 * y_ + x_) % 4096)), some (.inl (S0_.2.2.1 142 0 ((1021 * y_ + x_) % 4096).toNat))], [], S0_)) rfl ?_
              refine (vl_328 x_ y_ F_ G_ A_ B_ S0_ hg_ hx_ hy_ hab_ _) y_ x_ ((1021 * y_ + x_) % 4096) (S0_.2.2.1 142 0 ((1021 * y_ + x_) % 4096).toNat) S0_ hI_ hF_ ⟨?_, ?_, ?_, ?_, ?_, ?_, ?_, ?_, trivial⟩ (Nat.lt_succ_self _)
              · rfl
              · rw [show F_ + (S0_.1 13 0 37 - S0_.1 13 0 38).toNat = F_ + G1_.length by omega]
                first | exact x8_.1 ((1021 * x_ + y_) % 4096).toNat (by omega) | exact x8_.1 ((1021 * y_ + x_) % 4096).toNat (by omega)
              · rfl
              · omega
              · omega
              · omega
              · omega
              · intro t_ ⟨q1_, q2_, q3_, q4_⟩
                obtain ⟨⟨px_, py_⟩, ep_⟩ : ∃ p_, G1_[(t_ - F_).toNat]? = some p_ := ⟨_, List.getElem?_eq_getElem (by omega)⟩
                have ep2_ := x6_ _ px_ py_ ep_
                rw [show F_ + (t_ - F_).toNat = t_.toNat by omega] at ep2_
                obtain ⟨f_, q5_⟩ := x8_.2.2 _ px_ py_ ep_
                refine ⟨f_, ?_⟩
                rw [← ep2_.1, ← ep2_.2, q1_, q2_, show ((F_ + (t_ - F_).toNat : Nat) : Int) = t_ by omega] at q5_
                exact q5_
            · have cx7_ : ¬ (y_ ≠ x_) := of_decide_eq_false cx7_
              refine sm_T_go 1 (c1 := (50, [some (.inr (.inr (some (13, 0)))), some (.inl x_), some (.inl y_), some (.inl y_), some (.inl x_), none, none], [.inl x_], S0_)) rfl ?_
              refine sm_T_ri rfl ⟨_, _, rfl, _, rfl, hI_, hF_, ?_⟩
              first | (have ea_ : g_an F_ G1_ x_ y_ = (y_, G1_) := (by rw [g_an_mn (a_ := x_) (b_ := y_) (by omega)]; unfold g_a2; rw [if_neg (by omega), if_pos (by omega)]); have hr_ := ar_go (v_ := y_) hG1_ hG2_ hab_ (Or.inl ⟨by rw [ea_]; exact hG1_, by rw [ea_]⟩); exact ⟨hr_.1, hr_.2, by omega⟩) | (have ea_ : g_an F_ G1_ x_ y_ = (x_, G1_) := (by rw [g_an_mn (a_ := y_) (b_ := x_) (by omega)]; unfold g_a2; rw [if_neg (by omega), if_pos (by omega)]); have hr_ := ar_go (v_ := x_) hG1_ hG2_ hab_ (Or.inl ⟨by rw [ea_]; exact hG1_, by rw [ea_]⟩); exact ⟨hr_.1, hr_.2, by omega⟩)
        · have cx5_ : ¬ (y_ ≠ (i_xor x_ 1)) := of_decide_eq_false cx5_
          refine sm_T_go 1 (c1 := (36, [some (.inr (.inr (some (13, 0)))), some (.inl x_), some (.inl y_), some (.inl y_), some (.inl x_), none, none], [.inl 0], S0_)) rfl ?_
          refine sm_T_ri rfl ⟨_, _, rfl, _, rfl, hI_, hF_, ?_⟩
          have ea_ : g_an F_ G1_ x_ y_ = (0, G1_) := by first | (rw [g_an_mn (a_ := x_) (b_ := y_) (by omega)]; unfold g_a2; rw [if_pos (by omega)]) | (rw [g_an_mn (a_ := y_) (b_ := x_) (by omega)]; unfold g_a2; rw [if_pos (by omega)])
          have hr_ := ar_go (v_ := 0) hG1_ hG2_ hab_ (Or.inl ⟨by rw [ea_]; exact hG1_, by rw [ea_]⟩)
          exact ⟨hr_.1, hr_.2, by omega⟩
    · have cx2_ : ¬ (y_ ≤ x_) := of_decide_eq_false cx2_
      exfalso; omega
  · have cx1_ : ¬ (y_ ≤ x_) := of_decide_eq_false cx1_
    refine sm_T_go 5 (c1 := (13, [some (.inr (.inr (some (13, 0)))), some (.inl x_), some (.inl y_), some (.inl x_), none, none, none], [.inl y_, .inl x_], S0_)) rfl ?_
    refine sm_T_br (a := 3) (z := 7) rfl (fun cx9_ => ?_) (fun cx9_ => ?_)
    · have cx9_ : y_ ≤ x_ := of_decide_eq_true cx9_
      exfalso; omega
    · have cx9_ : ¬ (y_ ≤ x_) := of_decide_eq_false cx9_
      refine sm_T_go 4 (c1 := (24, [some (.inr (.inr (some (13, 0)))), some (.inl x_), some (.inl y_), some (.inl x_), some (.inl y_), none, none], [.inl x_], S0_)) rfl ?_
      refine sm_T_b0 (a := 0) (z := 11) rfl (fun cx10_ => ?_) (fun cx10_ => ?_)
      · have cx10_ : x_ = 0 := of_decide_eq_true cx10_
        refine sm_T_go 1 (c1 := (36, [some (.inr (.inr (some (13, 0)))), some (.inl x_), some (.inl y_), some (.inl x_), some (.inl y_), none, none], [.inl 0], S0_)) rfl ?_
        refine sm_T_ri rfl ⟨_, _, rfl, _, rfl, hI_, hF_, ?_⟩
        have ea_ : g_an F_ G1_ x_ y_ = (0, G1_) := by first | (rw [g_an_mn (a_ := x_) (b_ := y_) (by omega)]; unfold g_a2; rw [if_pos (by omega)]) | (rw [g_an_mn (a_ := y_) (b_ := x_) (by omega)]; unfold g_a2; rw [if_pos (by omega)])
        have hr_ := ar_go (v_ := 0) hG1_ hG2_ hab_ (Or.inl ⟨by rw [ea_]; exact hG1_, by rw [ea_]⟩)
        exact ⟨hr_.1, hr_.2, by omega⟩
      · have cx10_ : ¬ (x_ = 0) := of_decide_eq_false cx10_
        refine sm_T_go 3 (c1 := (31, [some (.inr (.inr (some (13, 0)))), some (.inl x_), some (.inl y_), some (.inl x_), some (.inl y_), none, none], [.inl 1, .inl y_, .inl x_], S0_)) rfl ?_
        refine sm_T_bin (w := (i_xor y_ 1)) rfl rfl ?_
        have bx11_ := i_x1 (x_ := y_) (by omega)
        refine sm_T_br (a := 1) (z := 5) rfl (fun cx12_ => ?_) (fun cx12_ => ?_)
        · have cx12_ : x_ ≠ (i_xor y_ 1) := of_decide_eq_true cx12_
          refine sm_T_go 2 (c1 := (39, [some (.inr (.inr (some (13, 0)))), some (.inl x_), some (.inl y_), some (.inl x_), some (.inl y_), none, none], [.inl 1, .inl x_], S0_)) rfl ?_
          refine sm_T_br (a := 0) (z := 9) rfl (fun cx13_ => ?_) (fun cx13_ => ?_)
          · have cx13_ : x_ = 1 := of_decide_eq_true cx13_
            refine sm_T_go 1 (c1 := (50, [some (.inr (.inr (some (13, 0)))), some (.inl x_), some (.inl y_), some (.inl x_), some (.inl y_), none, none], [.inl y_], S0_)) rfl ?_
            refine sm_T_ri rfl ⟨_, _, rfl, _, rfl, hI_, hF_, ?_⟩
            first | (have ea_ : g_an F_ G1_ x_ y_ = (y_, G1_) := (by rw [g_an_mn (a_ := x_) (b_ := y_) (by omega)]; unfold g_a2; rw [if_neg (by omega), if_pos (by omega)]); have hr_ := ar_go (v_ := y_) hG1_ hG2_ hab_ (Or.inl ⟨by rw [ea_]; exact hG1_, by rw [ea_]⟩); exact ⟨hr_.1, hr_.2, by omega⟩) | (have ea_ : g_an F_ G1_ x_ y_ = (x_, G1_) := (by rw [g_an_mn (a_ := y_) (b_ := x_) (by omega)]; unfold g_a2; rw [if_neg (by omega), if_pos (by omega)]); have hr_ := ar_go (v_ := x_) hG1_ hG2_ hab_ (Or.inl ⟨by rw [ea_]; exact hG1_, by rw [ea_]⟩); exact ⟨hr_.1, hr_.2, by omega⟩)
          · have cx13_ : ¬ (x_ = 1) := of_decide_eq_false cx13_
            refine sm_T_go 2 (c1 := (45, [some (.inr (.inr (some (13, 0)))), some (.inl x_), some (.inl y_), some (.inl x_), some (.inl y_), none, none], [.inl y_, .inl x_], S0_)) rfl ?_
            refine sm_T_br (a := 1) (z := 6) rfl (fun cx14_ => ?_) (fun cx14_ => ?_)
            · have cx14_ : x_ ≠ y_ := of_decide_eq_true cx14_
              refine sm_T_go 2 (c1 := (55, [some (.inr (.inr (some (13, 0)))), some (.inl x_), some (.inl y_), some (.inl x_), some (.inl y_), none, none], [.inl x_, .inl 1021], S0_)) rfl ?_
              refine sm_T_bin (w := 1021 * x_) rfl (bi_mul (by omega) (by omega) (by omega)) ?_
              refine sm_T_go 1 (c1 := (58, [some (.inr (.inr (some (13, 0)))), some (.inl x_), some (.inl y_), some (.inl x_), some (.inl y_), none, none], [.inl y_, .inl (1021 * x_)], S0_)) rfl ?_
              refine sm_T_bin (w := 1021 * x_ + y_) rfl (bi_add (by omega) (by omega) (by omega)) ?_
              refine sm_T_go 1 (c1 := (62, [some (.inr (.inr (some (13, 0)))), some (.inl x_), some (.inl y_), some (.inl x_), some (.inl y_), none, none], [.inl 4095, .inl (1021 * x_ + y_)], S0_)) rfl ?_
              refine sm_T_bin (w := ((1021 * x_ + y_) % 4096)) rfl (bi_msk (k := 12) (by decide)) ?_
              refine sm_T_go 4 (c1 := (71, [some (.inr (.inr (some (13, 0)))), some (.inl x_), some (.inl y_), some (.inl x_), some (.inl y_), some (.inl ((1021 * x_ + y_) % 4096)), none], [.inl ((1021 * x_ + y_) % 4096), .inr (.inr (some (142, 0)))], S0_)) rfl ?_
              refine sm_T_iald (n := 4096) rfl rfl (by omega) (by omega) ?_
              have bx15_ : 0 ≤ S0_.2.2.1 142 0 ((1021 * x_ + y_) % 4096).toNat ∧ S0_.2.2.1 142 0 ((1021 * x_ + y_) % 4096).toNat ≤ 1023 := hI_.2 142 0 _
              refine sm_T_go 1 (c1 := (74, [some (.inr (.inr (some (13, 0)))), some (.inl x_), some (.inl y_), some (.inl x_), some (.inl y_), some (.inl ((1021 * x_ + y_) % 4096)), some (.inl (S0_.2.2.1 142 0 ((1021 * x_ + y_) % 4096).toNat))], [], S0_)) rfl ?_
              refine (vl_328 x_ y_ F_ G_ A_ B_ S0_ hg_ hx_ hy_ hab_ _) x_ y_ ((1021 * x_ + y_) % 4096) (S0_.2.2.1 142 0 ((1021 * x_ + y_) % 4096).toNat) S0_ hI_ hF_ ⟨?_, ?_, ?_, ?_, ?_, ?_, ?_, ?_, trivial⟩ (Nat.lt_succ_self _)
              · rfl
              · rw [show F_ + (S0_.1 13 0 37 - S0_.1 13 0 38).toNat = F_ + G1_.length by omega]
                first | exact x8_.1 ((1021 * x_ + y_) % 4096).toNat (by omega) | exact x8_.1 ((1021 * y_ + x_) % 4096).toNat (by omega)
              · rfl
              · omega
              · omega
              · omega
              · omega
              · intro t_ ⟨q1_, q2_, q3_, q4_⟩
                obtain ⟨⟨px_, py_⟩, ep_⟩ : ∃ p_, G1_[(t_ - F_).toNat]? = some p_ := ⟨_, List.getElem?_eq_getElem (by omega)⟩
                have ep2_ := x6_ _ px_ py_ ep_
                rw [show F_ + (t_ - F_).toNat = t_.toNat by omega] at ep2_
                obtain ⟨f_, q5_⟩ := x8_.2.2 _ px_ py_ ep_
                refine ⟨f_, ?_⟩
                rw [← ep2_.1, ← ep2_.2, q1_, q2_, show ((F_ + (t_ - F_).toNat : Nat) : Int) = t_ by omega] at q5_
                exact q5_
            · have cx14_ : ¬ (x_ ≠ y_) := of_decide_eq_false cx14_
              exfalso; omega
        · have cx12_ : ¬ (x_ ≠ (i_xor y_ 1)) := of_decide_eq_false cx12_
          refine sm_T_go 1 (c1 := (36, [some (.inr (.inr (some (13, 0)))), some (.inl x_), some (.inl y_), some (.inl x_), some (.inl y_), none, none], [.inl 0], S0_)) rfl ?_
          refine sm_T_ri rfl ⟨_, _, rfl, _, rfl, hI_, hF_, ?_⟩
          have ea_ : g_an F_ G1_ x_ y_ = (0, G1_) := by first | (rw [g_an_mn (a_ := x_) (b_ := y_) (by omega)]; unfold g_a2; rw [if_pos (by omega)]) | (rw [g_an_mn (a_ := y_) (b_ := x_) (by omega)]; unfold g_a2; rw [if_pos (by omega)])
          have hr_ := ar_go (v_ := 0) hG1_ hG2_ hab_ (Or.inl ⟨by rw [ea_]; exact hG1_, by rw [ea_]⟩)
          exact ⟨hr_.1, hr_.2, by omega⟩
