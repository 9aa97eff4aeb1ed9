/-! M_.choose -/
def vw_314 : sx_Wl := ([(13, 10), (13, 11), (13, 32), (13, 33), (13, 34)], [138], [])
def vq_314 (b_ : Nat → Int) (n_ : Nat) (T_ : Nat) (mo_ : Int) (p_ : Nat) (q_ : Nat) (o_ : List (Int × Nat)) (x_ : Int) (y_ : Int) (z_ : Int) (g_ : List Int) (c_ : List Int) (S0_ : sm_S) (u_ : Option sm_V) (S1_ : sm_S) : Prop := u_ = none ∧ gi S1_ ∧ ai_fr (sx_W vw_314) S0_ S1_ ∧ (ry b_ n_ T_ mo_ p_ (p_ch2 q_ o_ (x_ :: y_ :: z_ :: g_) c_) S1_ ∧ (S1_.1 13 0 32) = (S0_.1 13 0 32) - 1)
set_option maxHeartbeats 1500000 in
theorem vc_314 {sc_ : Nat × (Nat → Int)} (b_ : Nat → Int) (n_ : Nat) (T_ : Nat) (mo_ : Int) (p_ : Nat) (q_ : Nat) (o_ : List (Int × Nat)) (x_ : Int) (y_ : Int) (z_ : Int) (g_ : List Int) (c_ : List Int) (S0_ : sm_S) (hI_ : gi S0_) (ht_ : rtab b_ n_ T_ S0_) (hy_ : ry b_ n_ T_ mo_ p_ (.inr ((-4, q_) :: o_, x_ :: y_ :: z_ :: g_, c_)) S0_) (hmo_ : mo_ = 0 ∨ mo_ = 2) : sm_T (mt_P sc_) 1 314 (0, [some (.inr (.inr (some (13, 0)))), none, none], [], S0_) (fun r_ => ∃ u_ S1_, r_ = (.inl u_, S1_, 0) ∧ vq_314 b_ n_ T_ mo_ p_ q_ o_ x_ y_ z_ g_ c_ S0_ u_ S1_) := by
  have hF_ : ai_fr (sx_W vw_314) S0_ S0_ := ai_fr_rf
  obtain ⟨⟨hg_, ⟨w0_, hw_, hwl_⟩, hop_, hv_, hmo1_⟩, hs_⟩ := id hy_
  have hwl_ : wl b_ n_ T_ ((-4, q_) :: o_) w0_ := by rcases hwl_ with z_ | z_; (exact absurd z_.1 (by decide)); (exact z_.2)
  obtain ⟨tq_, u0_, rfl, hq_, hwr_⟩ := hwl_
  have hT_ := ht_.2.1
  have hq1_ := rtp_at ht_ hq_
  obtain ⟨v1_, v2_, v3_⟩ := id hv_
  have w1_ := ws_tp hw_ (by rw [hw_.1, List.length_cons]; push_cast; omega)
  obtain ⟨y9_, u9_, w3_, w4_, w5_⟩ := w1_.2
  cases w3_
  have hwl1_ : S0_.1 13 0 32 = (u0_.length : Int) + 1 := by rw [hw_.1, List.length_cons]; push_cast; rfl
  have hf0_ := hg_.1
  have hol_ := o_lim hs_.1 hs_.2.1
  have hwr1_ : wl b_ n_ T_ o_ u0_ := by rcases hwr_ with z9_ | z9_; (exact z9_.2); (exact absurd z9_.1 (by decide))
  clear hwr_
  have mz_ : mdo mo_ = false := o_md hs_.1
  have mo0_ : mo_ = 0 := by rcases hmo_ with z9_ | z9_; exact z9_; (rw [z9_] at mz_; cases mz_)
  clear hmo_
  have hop1_ : S0_.1 13 0 33 = (o_mk o_ : Int) + 1 := by rw [hop_]; show ((1 + o_mk o_ : Nat) : Int) = _; push_cast; omega
  have v4_ : S0_.1 13 0 34 = (g_.length : Int) + 3 := by rw [v1_]; simp only [List.length_cons]; push_cast; omega
  have vv_ := v2_ (by omega)
  have l1_ : (S0_.1 13 0 34 - 3).toNat = g_.length := by omega
  have l2_ : (S0_.1 13 0 34 - 2).toNat = (z_ :: g_).length := by simp only [List.length_cons]; omega
  have l3_ : (S0_.1 13 0 34 - 1).toNat = (y_ :: z_ :: g_).length := by simp only [List.length_cons]; omega
  have e2_ : S0_.2.2.1 138 0 (S0_.1 13 0 34 - 2).toNat = y_ := by rw [l2_]; exact vv_.2.1
  have e3_ : S0_.2.2.1 138 0 (S0_.1 13 0 34 - 1).toNat = x_ := by rw [l3_]; exact vv_.1
  have wtk_ : S0_.2.2.1 137 0 (S0_.1 13 0 32 - 1).toNat = tq_ := w4_
  have hul_ : u0_.length ≤ 731 := by have := wl_len hwr1_; have h9_ : ((-4, q_) :: o_).length ≤ 365 := hol_.1; simp only [List.length_cons] at h9_; omega
  have hgl_ : (x_ :: y_ :: z_ :: g_).length = o_hl ((-4, q_) :: o_) + 1 := hs_.2.2.1
  have hgl2_ : o_hl ((-4, q_) :: o_) ≤ 425 := hol_.2
  simp only [List.length_cons] at hgl_
  have bx1_ : 0 ≤ S0_.1 13 0 32 ∧ S0_.1 13 0 32 ≤ 1023 := hI_.1 13 0 32 rfl
  refine sm_T_go 5 (c1 := (9, [some (.inr (.inr (some (13, 0)))), none, none], [.inl 1, .inl (S0_.1 13 0 32), .inr (.inr (some (137, 0)))], S0_)) rfl ?_
  refine sm_T_bin (w := (S0_.1 13 0 32) - 1) rfl (bi_sub (by omega) (by omega) (by omega)) ?_
  refine sm_T_iald (n := 1024) rfl rfl (by omega) (by omega) ?_
  have bx2_ : 0 ≤ S0_.2.2.1 137 0 ((S0_.1 13 0 32) - 1).toNat ∧ S0_.2.2.1 137 0 ((S0_.1 13 0 32) - 1).toNat ≤ 1280 := hI_.2 137 0 _
  refine sm_T_go 5 (c1 := (18, [some (.inr (.inr (some (13, 0)))), some (.inl (S0_.2.2.1 137 0 ((S0_.1 13 0 32) - 1).toNat)), none], [.inl 1, .inl (S0_.1 13 0 32), .inr (.inr (some (13, 0)))], S0_)) rfl ?_
  refine sm_T_bin (w := (S0_.1 13 0 32) - 1) rfl (bi_sub (by omega) (by omega) (by omega)) ?_
  have hIx3_ : gi (sm_pI S0_ 13 0 32 ((S0_.1 13 0 32) - 1)) := gi_pI hI_ (show 0 ≤ (S0_.1 13 0 32) - 1 ∧ (S0_.1 13 0 32) - 1 ≤ 1023 from ⟨by omega, by omega⟩)
  have hFx4_ : ai_fr (sx_W vw_314) S0_ (sm_pI S0_ 13 0 32 ((S0_.1 13 0 32) - 1)) := ai_fr_tr hF_ (ai_fr_pI rfl)
  have bx5_ : 0 ≤ S0_.1 13 0 33 ∧ S0_.1 13 0 33 ≤ 60 := hI_.1 13 0 33 rfl
  refine sm_T_go 5 (c1 := (28, [some (.inr (.inr (some (13, 0)))), some (.inl (S0_.2.2.1 137 0 ((S0_.1 13 0 32) - 1).toNat)), none], [.inl 1, .inl (S0_.1 13 0 33), .inr (.inr (some (13, 0)))], sm_pI S0_ 13 0 32 ((S0_.1 13 0 32) - 1))) rfl ?_
  refine sm_T_bin (w := (S0_.1 13 0 33) - 1) rfl (bi_sub (by omega) (by omega) (by omega)) ?_
  have hIx6_ : gi (sm_pI (sm_pI S0_ 13 0 32 ((S0_.1 13 0 32) - 1)) 13 0 33 ((S0_.1 13 0 33) - 1)) := gi_pI hIx3_ (show 0 ≤ (S0_.1 13 0 33) - 1 ∧ (S0_.1 13 0 33) - 1 ≤ 60 from ⟨by omega, by omega⟩)
  have hFx7_ : ai_fr (sx_W vw_314) S0_ (sm_pI (sm_pI S0_ 13 0 32 ((S0_.1 13 0 32) - 1)) 13 0 33 ((S0_.1 13 0 33) - 1)) := ai_fr_tr hFx4_ (ai_fr_pI rfl)
  have bx8_ : 0 ≤ S0_.1 13 0 34 ∧ S0_.1 13 0 34 ≤ 1023 := hI_.1 13 0 34 rfl
  refine sm_T_go 4 (c1 := (37, [some (.inr (.inr (some (13, 0)))), some (.inl (S0_.2.2.1 137 0 ((S0_.1 13 0 32) - 1).toNat)), none], [.inl 3, .inl (S0_.1 13 0 34)], sm_pI (sm_pI S0_ 13 0 32 ((S0_.1 13 0 32) - 1)) 13 0 33 ((S0_.1 13 0 33) - 1))) rfl ?_
  refine sm_T_bin (w := (S0_.1 13 0 34) - 3) rfl (bi_sub (by omega) (by omega) (by omega)) ?_
  refine sm_T_go 5 (c1 := (45, [some (.inr (.inr (some (13, 0)))), some (.inl (S0_.2.2.1 137 0 ((S0_.1 13 0 32) - 1).toNat)), some (.inl ((S0_.1 13 0 34) - 3))], [.inl 1, .inl ((S0_.1 13 0 34) - 3), .inr (.inr (some (138, 0)))], sm_pI (sm_pI S0_ 13 0 32 ((S0_.1 13 0 32) - 1)) 13 0 33 ((S0_.1 13 0 33) - 1))) rfl ?_
  refine sm_T_bin (w := (S0_.1 13 0 34) - 2) rfl (bi_add (by omega) (by omega) (by omega)) ?_
  refine sm_T_iald (n := 1024) rfl rfl (by omega) (by omega) ?_
  have bx9_ : (-2147483648) ≤ S0_.2.2.1 138 0 ((S0_.1 13 0 34) - 2).toNat ∧ S0_.2.2.1 138 0 ((S0_.1 13 0 34) - 2).toNat ≤ 2147483647 := hI_.2 138 0 _
  refine sm_T_go 4 (c1 := (53, [some (.inr (.inr (some (13, 0)))), some (.inl (S0_.2.2.1 137 0 ((S0_.1 13 0 32) - 1).toNat)), some (.inl ((S0_.1 13 0 34) - 3))], [.inl 2, .inl ((S0_.1 13 0 34) - 3), .inr (.inr (some (138, 0))), .inl (S0_.2.2.1 138 0 ((S0_.1 13 0 34) - 2).toNat)], sm_pI (sm_pI S0_ 13 0 32 ((S0_.1 13 0 32) - 1)) 13 0 33 ((S0_.1 13 0 33) - 1))) rfl ?_
  refine sm_T_bin (w := (S0_.1 13 0 34) - 1) rfl (bi_add (by omega) (by omega) (by omega)) ?_
  refine sm_T_iald (n := 1024) rfl rfl (by omega) (by omega) ?_
  have bx10_ : (-2147483648) ≤ S0_.2.2.1 138 0 ((S0_.1 13 0 34) - 1).toNat ∧ S0_.2.2.1 138 0 ((S0_.1 13 0 34) - 1).toNat ≤ 2147483647 := hI_.2 138 0 _
  refine sm_T_br (a := 0) (z := 10) rfl (fun cx11_ => ?_) (fun cx11_ => ?_)
  · have cx11_ : (S0_.2.2.1 138 0 ((S0_.1 13 0 34) - 2).toNat) = (S0_.2.2.1 138 0 ((S0_.1 13 0 34) - 1).toNat) := of_decide_eq_true cx11_
    have bx12_ : 0 ≤ S0_.1 13 0 27 ∧ S0_.1 13 0 27 ≤ 2 := hI_.1 13 0 27 rfl
    refine sm_T_go 3 (c1 := (70, [some (.inr (.inr (some (13, 0)))), some (.inl (S0_.2.2.1 137 0 ((S0_.1 13 0 32) - 1).toNat)), some (.inl ((S0_.1 13 0 34) - 3))], [.inl 1, .inl (S0_.1 13 0 27)], sm_pI (sm_pI S0_ 13 0 32 ((S0_.1 13 0 32) - 1)) 13 0 33 ((S0_.1 13 0 33) - 1))) rfl ?_
    refine sm_T_br (a := 1) (z := 8) rfl (fun cx13_ => ?_) (fun cx13_ => ?_)
    · have cx13_ : (S0_.1 13 0 27) ≠ 1 := of_decide_eq_true cx13_
      refine sm_T_go 7 (c1 := (89, [some (.inr (.inr (some (13, 0)))), some (.inl (S0_.2.2.1 137 0 ((S0_.1 13 0 32) - 1).toNat)), some (.inl ((S0_.1 13 0 34) - 3))], [.inl 1, .inl ((S0_.1 13 0 34) - 3), .inr (.inr (some (138, 0))), .inl ((S0_.1 13 0 34) - 3), .inr (.inr (some (138, 0)))], sm_pI (sm_pI S0_ 13 0 32 ((S0_.1 13 0 32) - 1)) 13 0 33 ((S0_.1 13 0 33) - 1))) rfl ?_
      refine sm_T_bin (w := (S0_.1 13 0 34) - 2) rfl (bi_add (by omega) (by omega) (by omega)) ?_
      refine sm_T_iald (n := 1024) rfl rfl (by omega) (by omega) ?_
      refine sm_T_iast (n := 1024) rfl rfl (by omega) (by omega) ?_
      have hIx14_ : gi (sm_aI (sm_pI (sm_pI S0_ 13 0 32 ((S0_.1 13 0 32) - 1)) 13 0 33 ((S0_.1 13 0 33) - 1)) 138 0 ((S0_.1 13 0 34) - 3).toNat (S0_.2.2.1 138 0 ((S0_.1 13 0 34) - 2).toNat)) := gi_aI hIx6_ (show (-2147483648) ≤ (S0_.2.2.1 138 0 ((S0_.1 13 0 34) - 2).toNat) ∧ (S0_.2.2.1 138 0 ((S0_.1 13 0 34) - 2).toNat) ≤ 2147483647 from ⟨by omega, by omega⟩)
      have hFx15_ : ai_fr (sx_W vw_314) S0_ (sm_aI (sm_pI (sm_pI S0_ 13 0 32 ((S0_.1 13 0 32) - 1)) 13 0 33 ((S0_.1 13 0 33) - 1)) 138 0 ((S0_.1 13 0 34) - 3).toNat (S0_.2.2.1 138 0 ((S0_.1 13 0 34) - 2).toNat)) := ai_fr_tr hFx7_ (ai_fr_aI rfl)
      refine sm_T_go 4 (c1 := (98, [some (.inr (.inr (some (13, 0)))), some (.inl (S0_.2.2.1 137 0 ((S0_.1 13 0 32) - 1).toNat)), some (.inl ((S0_.1 13 0 34) - 3))], [.inl 2, .inl (S0_.1 13 0 34), .inr (.inr (some (13, 0)))], sm_aI (sm_pI (sm_pI S0_ 13 0 32 ((S0_.1 13 0 32) - 1)) 13 0 33 ((S0_.1 13 0 33) - 1)) 138 0 ((S0_.1 13 0 34) - 3).toNat (S0_.2.2.1 138 0 ((S0_.1 13 0 34) - 2).toNat))) rfl ?_
      refine sm_T_bin (w := (S0_.1 13 0 34) - 2) rfl (bi_sub (by omega) (by omega) (by omega)) ?_
      have hIx16_ : gi (sm_pI (sm_aI (sm_pI (sm_pI S0_ 13 0 32 ((S0_.1 13 0 32) - 1)) 13 0 33 ((S0_.1 13 0 33) - 1)) 138 0 ((S0_.1 13 0 34) - 3).toNat (S0_.2.2.1 138 0 ((S0_.1 13 0 34) - 2).toNat)) 13 0 34 ((S0_.1 13 0 34) - 2)) := gi_pI hIx14_ (show 0 ≤ (S0_.1 13 0 34) - 2 ∧ (S0_.1 13 0 34) - 2 ≤ 1023 from ⟨by omega, by omega⟩)
      have hFx17_ : ai_fr (sx_W vw_314) S0_ (sm_pI (sm_aI (sm_pI (sm_pI S0_ 13 0 32 ((S0_.1 13 0 32) - 1)) 13 0 33 ((S0_.1 13 0 33) - 1)) 138 0 ((S0_.1 13 0 34) - 3).toNat (S0_.2.2.1 138 0 ((S0_.1 13 0 34) - 2).toNat)) 13 0 34 ((S0_.1 13 0 34) - 2)) := ai_fr_tr hFx15_ (ai_fr_pI rfl)
      refine sm_T_go 1 (c1 := (102, [some (.inr (.inr (some (13, 0)))), some (.inl (S0_.2.2.1 137 0 ((S0_.1 13 0 32) - 1).toNat)), some (.inl ((S0_.1 13 0 34) - 3))], [], sm_pI (sm_aI (sm_pI (sm_pI S0_ 13 0 32 ((S0_.1 13 0 32) - 1)) 13 0 33 ((S0_.1 13 0 33) - 1)) 138 0 ((S0_.1 13 0 34) - 3).toNat (S0_.2.2.1 138 0 ((S0_.1 13 0 34) - 2).toNat)) 13 0 34 ((S0_.1 13 0 34) - 2))) rfl ?_
      refine sm_T_rv rfl ⟨_, _, rfl, rfl, hIx16_, hFx17_, ?_⟩
      refine ⟨?_, by first | rfl | ((try simp only [rd_eq, rd_ne, rf_eq, rf_nk, rf_nt, rd_fa, rd_af, rd_fl, rd_al, rd_lf, rd_la, rd_leq, rd_lne, rd_fr, rd_ar, ne_eq, Nat.reduceEqDiff, not_false_eq_true]); omega)⟩
      first | (exfalso; omega) | (have hp_ : p_ch2 q_ o_ (x_ :: y_ :: z_ :: g_) c_ = .inr (o_, y_ :: g_, 7 :: c_) := (by unfold p_ch2; rw [show p_ch q_ (x_ :: y_ :: z_ :: g_) c_ = .inr (y_ :: g_, 7 :: c_) from if_pos (by omega)]; rfl); rw [hp_]; obtain ⟨t1_, t2_, t3_, t4_⟩ := hs_; refine ⟨⟨hg_, ⟨u0_, ⟨by (try simp only [rd_eq, rd_ne, rf_eq, rf_nk, rf_nt, rd_fa, rd_af, rd_fl, rd_al, rd_lf, rd_la, rd_leq, rd_lne, rd_fr, rd_ar, ne_eq, Nat.reduceEqDiff, not_false_eq_true]); omega, by rw [fr_arr hFx17_ rfl]; exact hw_.2.1.2, by rw [fr_arr hFx17_ rfl]; exact hw_.2.2.2⟩, Or.inr ⟨rfl, hwr1_⟩⟩, by (try simp only [rd_eq, rd_ne, rf_eq, rf_nk, rf_nt, rd_fa, rd_af, rd_fl, rd_al, rd_lf, rd_la, rd_leq, rd_lne, rd_fr, rd_ar, ne_eq, Nat.reduceEqDiff, not_false_eq_true]); omega, ⟨?_, ?_, ?_⟩, (hFx17_.1 13 0 27 rfl).trans hmo1_⟩, t1_.2.2, ?_, ?_, ?_⟩; ((try simp only [rd_eq, rd_ne, rf_eq, rf_nk, rf_nt, rd_fa, rd_af, rd_fl, rd_al, rd_lf, rd_la, rd_leq, rd_lne, rd_fr, rd_ar, ne_eq, Nat.reduceEqDiff, not_false_eq_true]); simp only [List.length_cons]; push_cast; omega); (intro _; exact stk_pu l1_ e2_ vv_.2.2.2); (intro z9_; omega); (have t2_ : 1 + o_mk o_ ≤ 60 := t2_; show o_mk o_ ≤ 60; omega); (show (y_ :: g_).length = o_hl o_ + 1; have t3_ : (x_ :: y_ :: z_ :: g_).length = (2 + o_hl o_) + 1 := t3_; simp only [List.length_cons] at t3_ ⊢; omega); (exact h_ok_c.mpr ⟨(h_ok_c.mp (h_ok_c.mp t4_).2).1, (h_ok_c.mp (h_ok_c.mp (h_ok_c.mp t4_).2).2).2⟩)) | (have hp_ : p_ch2 q_ o_ (x_ :: y_ :: z_ :: g_) c_ = .inl (13, q_) := (by unfold p_ch2; rw [show p_ch q_ (x_ :: y_ :: z_ :: g_) c_ = .inl (13, q_) from if_neg (by omega)]; rfl); rw [hp_]; rcases e77_ with w9_ | w9_; (exact absurd hf0_ w9_.1); (refine ⟨w9_.2.1, ?_, by show (13 : Int) ≠ 0; decide, ?_, md77_⟩; (refine Eq.trans w9_.2.2 ?_; show S0_.2.2.1 120 0 (S0_.2.2.1 137 0 (S0_.1 13 0 32 - 1).toNat).toNat = _; rw [wtk_]; exact hq1_.2); ((try simp only [rd_eq, rd_ne, rf_eq, rf_nk, rf_nt, rd_fa, rd_af, rd_fl, rd_al, rd_lf, rd_la, rd_leq, rd_lne, rd_fr, rd_ar, ne_eq, Nat.reduceEqDiff, not_false_eq_true]); omega)))
    · have cx13_ : ¬ ((S0_.1 13 0 27) ≠ 1) := of_decide_eq_false cx13_
      exfalso; omega
  · have cx11_ : ¬ ((S0_.2.2.1 138 0 ((S0_.1 13 0 34) - 2).toNat) = (S0_.2.2.1 138 0 ((S0_.1 13 0 34) - 1).toNat)) := of_decide_eq_false cx11_
    refine sm_T_go 3 (c1 := (62, [some (.inr (.inr (some (13, 0)))), some (.inl (S0_.2.2.1 137 0 ((S0_.1 13 0 32) - 1).toNat)), some (.inl ((S0_.1 13 0 34) - 3))], [.inl (S0_.2.2.1 137 0 ((S0_.1 13 0 32) - 1).toNat), .inl 13, .inr (.inr (some (13, 0)))], sm_pI (sm_pI S0_ 13 0 32 ((S0_.1 13 0 32) - 1)) 13 0 33 ((S0_.1 13 0 33) - 1))) rfl ?_
    refine sm_T_cal (d1 := 0) (Q1 := vq_294 13 (S0_.2.2.1 137 0 ((S0_.1 13 0 32) - 1).toNat) (sm_pI (sm_pI S0_ 13 0 32 ((S0_.1 13 0 32) - 1)) 13 0 33 ((S0_.1 13 0 33) - 1))) rfl rfl (by decide) (vc_294 13 (S0_.2.2.1 137 0 ((S0_.1 13 0 32) - 1).toNat) (sm_pI (sm_pI S0_ 13 0 32 ((S0_.1 13 0 32) - 1)) 13 0 33 ((S0_.1 13 0 33) - 1)) hIx6_ (by decide) (by omega)) (fun u_ Sx18_ px21_ => ?_)
    obtain ⟨rfl, hIx19_, hFx20_, px21_⟩ := px21_
    have hFx22_ : ai_fr (sx_W vw_314) S0_ Sx18_ := ai_fr_tr hFx7_ (fr_le hFx20_ rfl)
    have e77_ := px21_
    have md77_ : Sx18_.1 13 0 27 = mo_ := (hFx20_.1 13 0 27 rfl).trans hmo1_
    have v77_ : Sx18_.1 13 0 34 = (g_.length : Int) + 3 := (hFx20_.1 13 0 34 rfl).trans v4_
    have w77_ : Sx18_.1 13 0 32 = (u0_.length : Int) := (hFx20_.1 13 0 32 rfl).trans (by show S0_.1 13 0 32 - 1 = _; omega)
    have bx23_ : 0 ≤ Sx18_.1 13 0 27 ∧ Sx18_.1 13 0 27 ≤ 2 := hIx19_.1 13 0 27 rfl
    refine sm_T_go 3 (c1 := (70, [some (.inr (.inr (some (13, 0)))), some (.inl (S0_.2.2.1 137 0 ((S0_.1 13 0 32) - 1).toNat)), some (.inl ((S0_.1 13 0 34) - 3))], [.inl 1, .inl (Sx18_.1 13 0 27)], Sx18_)) rfl ?_
    refine sm_T_br (a := 1) (z := 8) rfl (fun cx24_ => ?_) (fun cx24_ => ?_)
    · have cx24_ : (Sx18_.1 13 0 27) ≠ 1 := of_decide_eq_true cx24_
      refine sm_T_go 7 (c1 := (89, [some (.inr (.inr (some (13, 0)))), some (.inl (S0_.2.2.1 137 0 ((S0_.1 13 0 32) - 1).toNat)), some (.inl ((S0_.1 13 0 34) - 3))], [.inl 1, .inl ((S0_.1 13 0 34) - 3), .inr (.inr (some (138, 0))), .inl ((S0_.1 13 0 34) - 3), .inr (.inr (some (138, 0)))], Sx18_)) rfl ?_
      refine sm_T_bin (w := (S0_.1 13 0 34) - 2) rfl (bi_add (by omega) (by omega) (by omega)) ?_
      refine sm_T_iald (n := 1024) rfl rfl (by omega) (by omega) ?_
      have bx25_ : (-2147483648) ≤ Sx18_.2.2.1 138 0 ((S0_.1 13 0 34) - 2).toNat ∧ Sx18_.2.2.1 138 0 ((S0_.1 13 0 34) - 2).toNat ≤ 2147483647 := hIx19_.2 138 0 _
      refine sm_T_iast (n := 1024) rfl rfl (by omega) (by omega) ?_
      have hIx26_ : gi (sm_aI Sx18_ 138 0 ((S0_.1 13 0 34) - 3).toNat (Sx18_.2.2.1 138 0 ((S0_.1 13 0 34) - 2).toNat)) := gi_aI hIx19_ (show (-2147483648) ≤ (Sx18_.2.2.1 138 0 ((S0_.1 13 0 34) - 2).toNat) ∧ (Sx18_.2.2.1 138 0 ((S0_.1 13 0 34) - 2).toNat) ≤ 2147483647 from ⟨by omega, by omega⟩)
      have hFx27_ : ai_fr (sx_W vw_314) S0_ (sm_aI Sx18_ 138 0 ((S0_.1 13 0 34) - 3).toNat (Sx18_.2.2.1 138 0 ((S0_.1 13 0 34) - 2).toNat)) := ai_fr_tr hFx22_ (ai_fr_aI rfl)
      have bx28_ : 0 ≤ Sx18_.1 13 0 34 ∧ Sx18_.1 13 0 34 ≤ 1023 := hIx19_.1 13 0 34 rfl
      refine sm_T_go 4 (c1 := (98, [some (.inr (.inr (some (13, 0)))), some (.inl (S0_.2.2.1 137 0 ((S0_.1 13 0 32) - 1).toNat)), some (.inl ((S0_.1 13 0 34) - 3))], [.inl 2, .inl (Sx18_.1 13 0 34), .inr (.inr (some (13, 0)))], sm_aI Sx18_ 138 0 ((S0_.1 13 0 34) - 3).toNat (Sx18_.2.2.1 138 0 ((S0_.1 13 0 34) - 2).toNat))) rfl ?_
      refine sm_T_bin (w := (Sx18_.1 13 0 34) - 2) rfl (bi_sub (by omega) (by omega) (by omega)) ?_
      have hIx29_ : gi (sm_pI (sm_aI Sx18_ 138 0 ((S0_.1 13 0 34) - 3).toNat (Sx18_.2.2.1 138 0 ((S0_.1 13 0 34) - 2).toNat)) 13 0 34 ((Sx18_.1 13 0 34) - 2)) := gi_pI hIx26_ (show 0 ≤ (Sx18_.1 13 0 34) - 2 ∧ (Sx18_.1 13 0 34) - 2 ≤ 1023 from ⟨by omega, by omega⟩)
      have hFx30_ : ai_fr (sx_W vw_314) S0_ (sm_pI (sm_aI Sx18_ 138 0 ((S0_.1 13 0 34) - 3).toNat (Sx18_.2.2.1 138 0 ((S0_.1 13 0 34) - 2).toNat)) 13 0 34 ((Sx18_.1 13 0 34) - 2)) := ai_fr_tr hFx27_ (ai_fr_pI rfl)
      refine sm_T_go 1 (c1 := (102, [some (.inr (.inr (some (13, 0)))), some (.inl (S0_.2.2.1 137 0 ((S0_.1 13 0 32) - 1).toNat)), some (.inl ((S0_.1 13 0 34) - 3))], [], sm_pI (sm_aI Sx18_ 138 0 ((S0_.1 13 0 34) - 3).toNat (Sx18_.2.2.1 138 0 ((S0_.1 13 0 34) - 2).toNat)) 13 0 34 ((Sx18_.1 13 0 34) - 2))) rfl ?_
      refine sm_T_rv rfl ⟨_, _, rfl, rfl, hIx29_, hFx30_, ?_⟩
      refine ⟨?_, by first | rfl | ((try simp only [rd_eq, rd_ne, rf_eq, rf_nk, rf_nt, rd_fa, rd_af, rd_fl, rd_al, rd_lf, rd_la, rd_leq, rd_lne, rd_fr, rd_ar, ne_eq, Nat.reduceEqDiff, not_false_eq_true]); omega)⟩
      first | (exfalso; omega) | (have hp_ : p_ch2 q_ o_ (x_ :: y_ :: z_ :: g_) c_ = .inr (o_, y_ :: g_, 7 :: c_) := (by unfold p_ch2; rw [show p_ch q_ (x_ :: y_ :: z_ :: g_) c_ = .inr (y_ :: g_, 7 :: c_) from if_pos (by omega)]; rfl); rw [hp_]; obtain ⟨t1_, t2_, t3_, t4_⟩ := hs_; refine ⟨⟨hg_, ⟨u0_, ⟨by (try simp only [rd_eq, rd_ne, rf_eq, rf_nk, rf_nt, rd_fa, rd_af, rd_fl, rd_al, rd_lf, rd_la, rd_leq, rd_lne, rd_fr, rd_ar, ne_eq, Nat.reduceEqDiff, not_false_eq_true]); omega, by rw [fr_arr hFx30_ rfl]; exact hw_.2.1.2, by rw [fr_arr hFx30_ rfl]; exact hw_.2.2.2⟩, Or.inr ⟨rfl, hwr1_⟩⟩, by (try simp only [rd_eq, rd_ne, rf_eq, rf_nk, rf_nt, rd_fa, rd_af, rd_fl, rd_al, rd_lf, rd_la, rd_leq, rd_lne, rd_fr, rd_ar, ne_eq, Nat.reduceEqDiff, not_false_eq_true]); omega, ⟨?_, ?_, ?_⟩, (hFx30_.1 13 0 27 rfl).trans hmo1_⟩, t1_.2.2, ?_, ?_, ?_⟩; ((try simp only [rd_eq, rd_ne, rf_eq, rf_nk, rf_nt, rd_fa, rd_af, rd_fl, rd_al, rd_lf, rd_la, rd_leq, rd_lne, rd_fr, rd_ar, ne_eq, Nat.reduceEqDiff, not_false_eq_true]); simp only [List.length_cons]; push_cast; omega); (intro _; exact stk_pu l1_ e2_ vv_.2.2.2); (intro z9_; omega); (have t2_ : 1 + o_mk o_ ≤ 60 := t2_; show o_mk o_ ≤ 60; omega); (show (y_ :: g_).length = o_hl o_ + 1; have t3_ : (x_ :: y_ :: z_ :: g_).length = (2 + o_hl o_) + 1 := t3_; simp only [List.length_cons] at t3_ ⊢; omega); (exact h_ok_c.mpr ⟨(h_ok_c.mp (h_ok_c.mp t4_).2).1, (h_ok_c.mp (h_ok_c.mp (h_ok_c.mp t4_).2).2).2⟩)) | (have hp_ : p_ch2 q_ o_ (x_ :: y_ :: z_ :: g_) c_ = .inl (13, q_) := (by unfold p_ch2; rw [show p_ch q_ (x_ :: y_ :: z_ :: g_) c_ = .inl (13, q_) from if_neg (by omega)]; rfl); rw [hp_]; rcases e77_ with w9_ | w9_; (exact absurd hf0_ w9_.1); (refine ⟨w9_.2.1, ?_, by show (13 : Int) ≠ 0; decide, ?_, md77_⟩; (refine Eq.trans w9_.2.2 ?_; show S0_.2.2.1 120 0 (S0_.2.2.1 137 0 (S0_.1 13 0 32 - 1).toNat).toNat = _; rw [wtk_]; exact hq1_.2); ((try simp only [rd_eq, rd_ne, rf_eq, rf_nk, rf_nt, rd_fa, rd_af, rd_fl, rd_al, rd_lf, rd_la, rd_leq, rd_lne, rd_fr, rd_ar, ne_eq, Nat.reduceEqDiff, not_false_eq_true]); omega)))
    · have cx24_ : ¬ ((Sx18_.1 13 0 27) ≠ 1) := of_decide_eq_false cx24_
      exfalso; omega
