/-! Board.start -/
def vw_11 : sx_Wl := ([(0, 1), (0, 11), (0, 16), (4, 0)], [16, 17, 18, 19, 20, 21], [])
def vq_11 (ii_ : Nat) (cc_ : Nat) (S0_ : sm_S) (u_ : Option sm_V) (S1_ : sm_S) : Prop := u_ = none ∧ gi S1_ ∧ ai_fr (sx_W vw_11) S0_ S1_ ∧ (cdf ii_ S0_ S1_ ∧ (bpn ii_ S1_ ∧ bpp ii_ cc_ S1_ ∧ S1_.1 0 ii_ 1 = 0 ∧ S1_.1 0 ii_ 11 = 0 ∧ S1_.1 4 (0 + ii_) 0 = 0))
set_option maxHeartbeats 400000 in
set_option maxRecDepth 20000 in
theorem vl_11 {sc_ : Nat × (Nat → Int)} (ii_ : Nat) (cc_ : Nat) (S0_ : sm_S) (hs_ : S0_.1 2 cc_ 1 + S0_.1 2 cc_ 2 ≤ 12) : ∀ nn_ : Nat, (∀ (k_ : Int) (S_ : sm_S), gi S_ → ai_fr (sx_W vw_11) S0_ S_ → ((0 ≤ k_ ∧ k_ ≤ 6 ∧ k_ ≤ S0_.1 2 cc_ 2 ∧ S_.1 0 ii_ 1 = 0) ∧ (S_.1 0 ii_ 11 = 0 ∧ S_.1 4 (0 + ii_) 0 = 0) ∧ (bcn ii_ S_) ∧ (bpw ii_ S_ (k_) (0) (0) (0)) ∧ (cdf ii_ S0_ S_) ∧ True) → ((50000 - k_).toNat) < nn_ → sm_T (mt_P sc_) 2 11 (45, [some (.inr (.inr (some (0, ii_)))), some (.inr (.inr (some (2, cc_)))), some (.inl k_), none, none, none], [], S_) (fun ro9_ => ∃ u_ S1_, ro9_ = (.inl u_, S1_, 0) ∧ vq_11 ii_ cc_ S0_ u_ S1_)) ∧ (∀ (g_ : Int) (S_ : sm_S), gi S_ → ai_fr (sx_W vw_11) S0_ S_ → ((0 ≤ g_ ∧ g_ ≤ 150 ∧ g_ ≤ S0_.1 2 cc_ 8 ∧ S_.1 0 ii_ 1 = 0) ∧ (S_.1 0 ii_ 11 = 0 ∧ S_.1 4 (0 + ii_) 0 = 0) ∧ (bcn ii_ S_) ∧ (bpw ii_ S_ (S0_.1 2 cc_ 2 + g_) (0) (0) (0)) ∧ (cdf ii_ S0_ S_) ∧ True) → ((40000 - 10 * g_).toNat) < nn_ → sm_T (mt_P sc_) 2 11 (96, [some (.inr (.inr (some (0, ii_)))), some (.inr (.inr (some (2, cc_)))), some (.inl g_), none, none, none], [], S_) (fun ro9_ => ∃ u_ S1_, ro9_ = (.inl u_, S1_, 0) ∧ vq_11 ii_ cc_ S0_ u_ S1_)) ∧ (∀ (g_ : Int) (el_ : Int) (is_ : Int) (j_ : Int) (S_ : sm_S), gi S_ → ai_fr (sx_W vw_11) S0_ S_ → ((0 ≤ g_ ∧ g_ < 150 ∧ g_ < S0_.1 2 cc_ 8 ∧ el_ = S0_.1 2 cc_ 2 + g_ ∧ 0 ≤ is_ ∧ is_ ≤ 3 ∧ 0 ≤ j_ ∧ j_ ≤ is_ ∧ S_.1 0 ii_ 1 = 0) ∧ (S_.2.2.1 16 (0 + ii_) el_.toNat = is_ + 1) ∧ (S_.1 0 ii_ 11 = 0 ∧ S_.1 4 (0 + ii_) 0 = 0) ∧ (bcn ii_ S_) ∧ (bpw ii_ S_ (el_) (j_) (0) (0)) ∧ (cdf ii_ S0_ S_) ∧ True) → ((40000 - 10 * g_ - 2 - j_).toNat) < nn_ → sm_T (mt_P sc_) 2 11 (131, [some (.inr (.inr (some (0, ii_)))), some (.inr (.inr (some (2, cc_)))), some (.inl g_), some (.inl el_), some (.inl is_), some (.inl j_)], [], S_) (fun ro9_ => ∃ u_ S1_, ro9_ = (.inl u_, S1_, 0) ∧ vq_11 ii_ cc_ S0_ u_ S1_)) ∧ (∀ (k_ : Int) (S_ : sm_S), gi S_ → ai_fr (sx_W vw_11) S0_ S_ → ((0 ≤ k_ ∧ k_ ≤ 12 ∧ k_ ≤ S0_.1 2 cc_ 1 ∧ S_.1 0 ii_ 1 = 0) ∧ (S_.1 0 ii_ 11 = 0 ∧ S_.1 4 (0 + ii_) 0 = 0) ∧ (bcn ii_ S_) ∧ (bpw ii_ S_ (S0_.1 2 cc_ 2 + S0_.1 2 cc_ 8) (0) (k_) (0)) ∧ (cdf ii_ S0_ S_) ∧ True) → ((20000 - k_).toNat) < nn_ → sm_T (mt_P sc_) 2 11 (189, [some (.inr (.inr (some (0, ii_)))), some (.inr (.inr (some (2, cc_)))), some (.inl k_), none, none, none], [], S_) (fun ro9_ => ∃ u_ S1_, ro9_ = (.inl u_, S1_, 0) ∧ vq_11 ii_ cc_ S0_ u_ S1_)) ∧ (∀ (k_ : Int) (S_ : sm_S), gi S_ → ai_fr (sx_W vw_11) S0_ S_ → ((0 ≤ k_ ∧ k_ ≤ 16 ∧ k_ ≤ S0_.1 2 cc_ 3 ∧ S_.1 0 ii_ 1 = 0) ∧ (S_.1 0 ii_ 11 = 0 ∧ S_.1 4 (0 + ii_) 0 = 0) ∧ (bcn ii_ S_) ∧ (bpw ii_ S_ (S0_.1 2 cc_ 2 + S0_.1 2 cc_ 8) (0) (S0_.1 2 cc_ 1) (k_)) ∧ (cdf ii_ S0_ S_) ∧ True) → ((10000 - k_).toNat) < nn_ → sm_T (mt_P sc_) 2 11 (215, [some (.inr (.inr (some (0, ii_)))), some (.inr (.inr (some (2, cc_)))), some (.inl k_), none, none, none], [], S_) (fun ro9_ => ∃ u_ S1_, ro9_ = (.inl u_, S1_, 0) ∧ vq_11 ii_ cc_ S0_ u_ S1_)) := by
  intro nn_
  induction nn_ with
  | zero => exact ⟨fun _ _ _ _ _ h_ => absurd h_ (Nat.not_lt_zero _), fun _ _ _ _ _ h_ => absurd h_ (Nat.not_lt_zero _), fun _ _ _ _ _ _ _ _ h_ => absurd h_ (Nat.not_lt_zero _), fun _ _ _ _ _ h_ => absurd h_ (Nat.not_lt_zero _), fun _ _ _ _ _ h_ => absurd h_ (Nat.not_lt_zero _)⟩
  | succ nn_ ih_ =>
    refine ⟨?_, ?_, ?_, ?_, ?_⟩
    · rintro k_ S_ hI_ hF_ ⟨h0_, hbz_, hcn_, hw_, hC_, -⟩ hm_
      have d1_ : S_.1 2 cc_ 1 = S0_.1 2 cc_ 1 := hF_.1 2 cc_ 1 rfl
      have d2_ : S_.1 2 cc_ 2 = S0_.1 2 cc_ 2 := hF_.1 2 cc_ 2 rfl
      have d3_ : S_.1 2 cc_ 3 = S0_.1 2 cc_ 3 := hF_.1 2 cc_ 3 rfl
      have d8_ : S_.1 2 cc_ 8 = S0_.1 2 cc_ 8 := hF_.1 2 cc_ 8 rfl
      have k1_ : 0 ≤ S_.1 2 cc_ 1 ∧ S_.1 2 cc_ 1 ≤ 12 := hI_.1 2 cc_ 1 rfl
      have k2_ : 0 ≤ S_.1 2 cc_ 2 ∧ S_.1 2 cc_ 2 ≤ 6 := hI_.1 2 cc_ 2 rfl
      have k3_ : 0 ≤ S_.1 2 cc_ 3 ∧ S_.1 2 cc_ 3 ≤ 16 := hI_.1 2 cc_ 3 rfl
      have k8_ : 0 ≤ S_.1 2 cc_ 8 ∧ S_.1 2 cc_ 8 ≤ 150 := hI_.1 2 cc_ 8 rfl
      have bx1_ : 0 ≤ S_.1 2 cc_ 2 ∧ S_.1 2 cc_ 2 ≤ 6 := hI_.1 2 cc_ 2 rfl
      refine sm_T_go 3 (c1 := (50, [some (.inr (.inr (some (0, ii_)))), some (.inr (.inr (some (2, cc_)))), some (.inl k_), none, none, none], [.inl (S_.1 2 cc_ 2), .inl k_], S_)) rfl ?_
      refine sm_T_br (a := 3) (z := 44) rfl (fun cx2_ => ?_) (fun cx2_ => ?_)
      · have cx2_ : (S_.1 2 cc_ 2) ≤ k_ := of_decide_eq_true cx2_
        refine sm_T_go 2 (c1 := (96, [some (.inr (.inr (some (0, ii_)))), some (.inr (.inr (some (2, cc_)))), some (.inl 0), none, none, none], [], S_)) rfl ?_
        refine ih_.2.1 0 S_ hI_ hF_ ⟨?_, ?_, ?_, ?_, ?_, trivial⟩ ?_
        · omega
        · exact hbz_
        · exact hcn_
        · (rw [show S0_.1 2 cc_ 2 + 0 = k_ by omega]; exact hw_)
        · exact hC_
        · omega
      · have cx2_ : ¬ ((S_.1 2 cc_ 2) ≤ k_) := of_decide_eq_false cx2_
        refine sm_T_go 4 (c1 := (59, [some (.inr (.inr (some (0, ii_)))), some (.inr (.inr (some (2, cc_)))), some (.inl k_), none, none, none], [.inl 2, .inl k_, .inr (.inr (some (16, (0 + ii_))))], S_)) rfl ?_
        refine sm_T_iast (n := 156) rfl rfl (by omega) (by omega) ?_
        have hIx3_ : gi (sm_aI S_ 16 (0 + ii_) k_.toNat 2) := gi_aI hI_ (show 0 ≤ 2 ∧ 2 ≤ 4 from ⟨by omega, by omega⟩)
        have hFx4_ : ai_fr (sx_W vw_11) S0_ (sm_aI S_ 16 (0 + ii_) k_.toNat 2) := ai_fr_tr hF_ (ai_fr_aI rfl)
        have hCx5_ : cdf ii_ S0_ (sm_aI S_ 16 (0 + ii_) k_.toNat 2) := cdf_aI hC_ (Or.inr (by rw [show cof 16 = 0 from rfl] <;> omega))
        refine sm_T_go 3 (c1 := (63, [some (.inr (.inr (some (0, ii_)))), some (.inr (.inr (some (2, cc_)))), some (.inl k_), none, none, none], [.inl k_, .inl 4, .inr (.inr (some (0, ii_)))], sm_aI S_ 16 (0 + ii_) k_.toNat 2)) rfl ?_
        refine sm_T_bin (w := 4 * k_) rfl (bi_mul (by omega) (by omega) (by omega)) ?_ -- pc_ 63
        refine sm_T_go 3 (c1 := (69, [some (.inr (.inr (some (0, ii_)))), some (.inr (.inr (some (2, cc_)))), some (.inl k_), none, none, none], [.inl k_, .inr (.inr (some (38, (0 + cc_)))), .inl (4 * k_), .inr (.inr (some (0, ii_)))], sm_aI S_ 16 (0 + ii_) k_.toNat 2)) rfl ?_
        refine sm_T_iald (n := 6) rfl rfl (by omega) (by omega) ?_
        have bx6_ : (-2) ≤ S_.2.2.1 38 (0 + cc_) k_.toNat ∧ S_.2.2.1 38 (0 + cc_) k_.toNat ≤ 161 := hI_.2 38 (0 + cc_) _
        refine sm_T_go 0 (c1 := (70, [some (.inr (.inr (some (0, ii_)))), some (.inr (.inr (some (2, cc_)))), some (.inl k_), none, none, none], [.inl (S_.2.2.1 38 (0 + cc_) k_.toNat), .inl (4 * k_), .inr (.inr (some (0, ii_)))], sm_aI S_ 16 (0 + ii_) k_.toNat 2)) rfl ?_
        refine sm_T_cal (d1 := 0) (Q1 := vq_12 (4 * k_) (S_.2.2.1 38 (0 + cc_) k_.toNat) ii_ (sm_aI S_ 16 (0 + ii_) k_.toNat 2)) rfl rfl (by decide) (vc_12 (4 * k_) (S_.2.2.1 38 (0 + cc_) k_.toNat) ii_ (sm_aI S_ 16 (0 + ii_) k_.toNat 2) hIx3_ (by omega) (by omega) (by (intro c_ hc_; rw [rd_ne (by decide), rd_ne_ (by decide)]; exact hcn_ c_ hc_)) (by (rw [rd_ne (by decide)]; exact bpw_0 hw_ (by omega) (by omega)))) (fun u_ Sx7_ px10_ => ?_)
        obtain ⟨rfl, hIx8_, hFx9_, px10_⟩ := px10_
        have hFx11_ : ai_fr (sx_W vw_11) S0_ Sx7_ := ai_fr_tr hFx4_ (fr_le hFx9_ rfl)
        obtain ⟨dx13_, px10_⟩ := px10_
        have hCx12_ : cdf ii_ S0_ Sx7_ := cdf_tr hCx5_ (cdf_cg (by omega) dx13_)
        have c70_ := px10_.1
        have s70_ : Sx7_.2.2.1 16 (0 + ii_) = (sm_aI S_ 16 (0 + ii_) k_.toNat 2).2.2.1 16 (0 + ii_) := fr_arr hFx9_ rfl
        have t70_ := px10_.2
        have q70_ := hFx9_.1 0 ii_ 11 rfl
        have u70_ := hFx9_.1 4 (0 + ii_) 0 rfl
        have b70_ : bpw ii_ Sx7_ k_ 1 0 0 := bpw_s (bpw_z hw_ (rd_ne_ (by decide)) (fun j_ => rd_eq) (by omega)) s70_ t70_ (by omega) (by omega) (by omega) (by omega)
        have z70_ : Sx7_.2.2.1 16 (0 + ii_) k_.toNat = 2 := by rw [s70_, rd_eq, if_pos rfl]
        have r70_ := hFx9_.1 0 ii_ 1 rfl
        simp only [rd_af] at r70_
        refine sm_T_go 3 (c1 := (76, [some (.inr (.inr (some (0, ii_)))), some (.inr (.inr (some (2, cc_)))), some (.inl k_), none, none, none], [.inl k_, .inl 4, .inr (.inr (some (0, ii_)))], Sx7_)) rfl ?_
        refine sm_T_bin (w := 4 * k_) rfl (bi_mul (by omega) (by omega) (by omega)) ?_ -- pc_ 76
        refine sm_T_go 1 (c1 := (78, [some (.inr (.inr (some (0, ii_)))), some (.inr (.inr (some (2, cc_)))), some (.inl k_), none, none, none], [.inl 1, .inl (4 * k_), .inr (.inr (some (0, ii_)))], Sx7_)) rfl ?_
        refine sm_T_bin (w := 4 * k_ + 1) rfl (bi_add (by omega) (by omega) (by omega)) ?_ -- pc_ 78
        have bx14_ : 0 ≤ Sx7_.1 2 cc_ 1 ∧ Sx7_.1 2 cc_ 1 ≤ 12 := hIx8_.1 2 cc_ 1 rfl
        refine sm_T_go 3 (c1 := (84, [some (.inr (.inr (some (0, ii_)))), some (.inr (.inr (some (2, cc_)))), some (.inl k_), none, none, none], [.inl k_, .inl (Sx7_.1 2 cc_ 1), .inl (4 * k_ + 1), .inr (.inr (some (0, ii_)))], Sx7_)) rfl ?_
        refine sm_T_bin (w := (Sx7_.1 2 cc_ 1) + k_) rfl (bi_add (by omega) (by omega) (by omega)) ?_ -- pc_ 84
        refine sm_T_cal (d1 := 0) (Q1 := vq_12 (4 * k_ + 1) ((Sx7_.1 2 cc_ 1) + k_) ii_ Sx7_) rfl rfl (by decide) (vc_12 (4 * k_ + 1) ((Sx7_.1 2 cc_ 1) + k_) ii_ Sx7_ hIx8_ (by omega) (by omega) (by exact c70_) (by exact bpw_0 b70_ (by omega) (by omega))) (fun u_ Sx15_ px18_ => ?_)
        obtain ⟨rfl, hIx16_, hFx17_, px18_⟩ := px18_
        have hFx19_ : ai_fr (sx_W vw_11) S0_ Sx15_ := ai_fr_tr hFx11_ (fr_le hFx17_ rfl)
        obtain ⟨dx21_, px18_⟩ := px18_
        have hCx20_ : cdf ii_ S0_ Sx15_ := cdf_tr hCx12_ (cdf_cg (by omega) dx21_)
        have ex22_ : Sx15_.1 2 cc_ 1 = Sx7_.1 2 cc_ 1 := hFx17_.1 2 cc_ 1 rfl
        have c85_ := px18_.1
        have s85_ : Sx15_.2.2.1 16 (0 + ii_) = Sx7_.2.2.1 16 (0 + ii_) := fr_arr hFx17_ rfl
        have t85_ := px18_.2
        have q85_ := hFx17_.1 0 ii_ 11 rfl
        have u85_ := hFx17_.1 4 (0 + ii_) 0 rfl
        have b85_ : bpw ii_ Sx15_ k_ 2 0 0 := bpw_s b70_ s85_ t85_ (by omega) (by omega) (by omega) (by omega)
        have z85_ : Sx15_.2.2.1 16 (0 + ii_) k_.toNat = 2 := by rw [s85_]; exact z70_
        have r85_ := hFx17_.1 0 ii_ 1 rfl
        refine sm_T_inc (a := 2) (z := 1) (v := k_) (w := k_ + 1) rfl rfl (by omega) (by omega) (by omega) ?_ -- pc_ 88
        refine sm_T_go 1 (c1 := (45, [some (.inr (.inr (some (0, ii_)))), some (.inr (.inr (some (2, cc_)))), some (.inl (k_ + 1)), none, none, none], [], Sx15_)) rfl ?_
        refine ih_.1 (k_ + 1) Sx15_ hIx16_ hFx19_ ⟨?_, ?_, ?_, ?_, ?_, trivial⟩ ?_
        · omega
        · exact ⟨q85_.trans (q70_.trans (hbz_.1)), u85_.trans (u70_.trans (hbz_.2))⟩
        · exact c85_
        · exact bpw_e b85_ (by omega) z85_.symm
        · exact hCx20_
        · omega
    · rintro g_ S_ hI_ hF_ ⟨h0_, hbz_, hcn_, hw_, hC_, -⟩ hm_
      have d1_ : S_.1 2 cc_ 1 = S0_.1 2 cc_ 1 := hF_.1 2 cc_ 1 rfl
      have d2_ : S_.1 2 cc_ 2 = S0_.1 2 cc_ 2 := hF_.1 2 cc_ 2 rfl
      have d3_ : S_.1 2 cc_ 3 = S0_.1 2 cc_ 3 := hF_.1 2 cc_ 3 rfl
      have d8_ : S_.1 2 cc_ 8 = S0_.1 2 cc_ 8 := hF_.1 2 cc_ 8 rfl
      have k1_ : 0 ≤ S_.1 2 cc_ 1 ∧ S_.1 2 cc_ 1 ≤ 12 := hI_.1 2 cc_ 1 rfl
      have k2_ : 0 ≤ S_.1 2 cc_ 2 ∧ S_.1 2 cc_ 2 ≤ 6 := hI_.1 2 cc_ 2 rfl
      have k3_ : 0 ≤ S_.1 2 cc_ 3 ∧ S_.1 2 cc_ 3 ≤ 16 := hI_.1 2 cc_ 3 rfl
      have k8_ : 0 ≤ S_.1 2 cc_ 8 ∧ S_.1 2 cc_ 8 ≤ 150 := hI_.1 2 cc_ 8 rfl
      have bx1_ : 0 ≤ S_.1 2 cc_ 8 ∧ S_.1 2 cc_ 8 ≤ 150 := hI_.1 2 cc_ 8 rfl
      refine sm_T_go 3 (c1 := (101, [some (.inr (.inr (some (0, ii_)))), some (.inr (.inr (some (2, cc_)))), some (.inl g_), none, none, none], [.inl (S_.1 2 cc_ 8), .inl g_], S_)) rfl ?_
      refine sm_T_br (a := 3) (z := 86) rfl (fun cx2_ => ?_) (fun cx2_ => ?_)
      · have cx2_ : (S_.1 2 cc_ 8) ≤ g_ := of_decide_eq_true cx2_
        refine sm_T_go 2 (c1 := (189, [some (.inr (.inr (some (0, ii_)))), some (.inr (.inr (some (2, cc_)))), some (.inl 0), none, none, none], [], S_)) rfl ?_
        refine ih_.2.2.2.1 0 S_ hI_ hF_ ⟨?_, ?_, ?_, ?_, ?_, trivial⟩ ?_
        · omega
        · exact hbz_
        · exact hcn_
        · (rw [show S0_.1 2 cc_ 8 = g_ by omega]; exact hw_)
        · exact hC_
        · omega
      · have cx2_ : ¬ ((S_.1 2 cc_ 8) ≤ g_) := of_decide_eq_false cx2_
        have bx3_ : 0 ≤ S_.1 2 cc_ 2 ∧ S_.1 2 cc_ 2 ≤ 6 := hI_.1 2 cc_ 2 rfl
        refine sm_T_go 3 (c1 := (109, [some (.inr (.inr (some (0, ii_)))), some (.inr (.inr (some (2, cc_)))), some (.inl g_), none, none, none], [.inl g_, .inl (S_.1 2 cc_ 2)], S_)) rfl ?_
        refine sm_T_bin (w := (S_.1 2 cc_ 2) + g_) rfl (bi_add (by omega) (by omega) (by omega)) ?_ -- pc_ 109
        refine sm_T_go 3 (c1 := (113, [some (.inr (.inr (some (0, ii_)))), some (.inr (.inr (some (2, cc_)))), some (.inl g_), some (.inl ((S_.1 2 cc_ 2) + g_)), none, none], [.inl g_, .inr (.inr (some (2, cc_)))], S_)) rfl ?_
        refine sm_T_cal (d1 := 0) (Q1 := vq_59 g_ cc_ S_) rfl rfl (by decide) (vc_59 g_ cc_ S_ hI_ (by omega)) (fun u_ Sx4_ px7_ => ?_)
        obtain ⟨rfl, vx9_, rfl, px7_⟩ := px7_
        have n113_ := px7_
        refine sm_T_go 6 (c1 := (126, [some (.inr (.inr (some (0, ii_)))), some (.inr (.inr (some (2, cc_)))), some (.inl g_), some (.inl ((S_.1 2 cc_ 2) + g_)), some (.inl vx9_), none], [.inl 1, .inl vx9_, .inl ((S_.1 2 cc_ 2) + g_), .inr (.inr (some (16, (0 + ii_))))], S_)) rfl ?_
        refine sm_T_bin (w := vx9_ + 1) rfl (bi_add (by omega) (by omega) (by omega)) ?_ -- pc_ 126
        refine sm_T_iast (n := 156) rfl rfl (by omega) (by omega) ?_
        have hIx10_ : gi (sm_aI S_ 16 (0 + ii_) ((S_.1 2 cc_ 2) + g_).toNat (vx9_ + 1)) := gi_aI hI_ (show 0 ≤ vx9_ + 1 ∧ vx9_ + 1 ≤ 4 from ⟨by omega, by omega⟩)
        have hFx11_ : ai_fr (sx_W vw_11) S0_ (sm_aI S_ 16 (0 + ii_) ((S_.1 2 cc_ 2) + g_).toNat (vx9_ + 1)) := ai_fr_tr hF_ (ai_fr_aI rfl)
        have hCx12_ : cdf ii_ S0_ (sm_aI S_ 16 (0 + ii_) ((S_.1 2 cc_ 2) + g_).toNat (vx9_ + 1)) := cdf_aI hC_ (Or.inr (by rw [show cof 16 = 0 from rfl] <;> omega))
        refine sm_T_go 2 (c1 := (131, [some (.inr (.inr (some (0, ii_)))), some (.inr (.inr (some (2, cc_)))), some (.inl g_), some (.inl ((S_.1 2 cc_ 2) + g_)), some (.inl vx9_), some (.inl 0)], [], sm_aI S_ 16 (0 + ii_) ((S_.1 2 cc_ 2) + g_).toNat (vx9_ + 1))) rfl ?_
        refine ih_.2.2.1 g_ ((S_.1 2 cc_ 2) + g_) vx9_ 0 (sm_aI S_ 16 (0 + ii_) ((S_.1 2 cc_ 2) + g_).toNat (vx9_ + 1)) hIx10_ hFx11_ ⟨?_, ?_, ?_, ?_, ?_, ?_, trivial⟩ ?_
        · (simp only [rd_af]; omega)
        · (rw [rd_eq, if_pos (by omega)])
        · exact hbz_
        · (intro c_ hc_; rw [rd_ne (by decide), rd_ne_ (by decide)]; exact hcn_ c_ hc_)
        · exact bpw_z (by rw [d2_]; exact hw_) (rd_ne_ (by decide)) (fun j_ => rd_eq) (by omega)
        · exact hCx12_
        · omega
    · rintro g_ el_ is_ j_ S_ hI_ hF_ ⟨h0_, hz_, hbz_, hcn_, hw_, hC_, -⟩ hm_
      have d1_ : S_.1 2 cc_ 1 = S0_.1 2 cc_ 1 := hF_.1 2 cc_ 1 rfl
      have d2_ : S_.1 2 cc_ 2 = S0_.1 2 cc_ 2 := hF_.1 2 cc_ 2 rfl
      have d3_ : S_.1 2 cc_ 3 = S0_.1 2 cc_ 3 := hF_.1 2 cc_ 3 rfl
      have d8_ : S_.1 2 cc_ 8 = S0_.1 2 cc_ 8 := hF_.1 2 cc_ 8 rfl
      have k1_ : 0 ≤ S_.1 2 cc_ 1 ∧ S_.1 2 cc_ 1 ≤ 12 := hI_.1 2 cc_ 1 rfl
      have k2_ : 0 ≤ S_.1 2 cc_ 2 ∧ S_.1 2 cc_ 2 ≤ 6 := hI_.1 2 cc_ 2 rfl
      have k3_ : 0 ≤ S_.1 2 cc_ 3 ∧ S_.1 2 cc_ 3 ≤ 16 := hI_.1 2 cc_ 3 rfl
      have k8_ : 0 ≤ S_.1 2 cc_ 8 ∧ S_.1 2 cc_ 8 ≤ 150 := hI_.1 2 cc_ 8 rfl
      refine sm_T_go 2 (c1 := (135, [some (.inr (.inr (some (0, ii_)))), some (.inr (.inr (some (2, cc_)))), some (.inl g_), some (.inl el_), some (.inl is_), some (.inl j_)], [.inl is_, .inl j_], S_)) rfl ?_
      refine sm_T_br (a := 3) (z := 30) rfl (fun cx1_ => ?_) (fun cx1_ => ?_)
      · have cx1_ : is_ ≤ j_ := of_decide_eq_true cx1_
        refine sm_T_go 3 (c1 := (168, [some (.inr (.inr (some (0, ii_)))), some (.inr (.inr (some (2, cc_)))), some (.inl g_), some (.inl el_), some (.inl is_), some (.inl j_)], [.inl el_, .inl 4, .inr (.inr (some (0, ii_)))], S_)) rfl ?_
        refine sm_T_bin (w := 4 * el_) rfl (bi_mul (by omega) (by omega) (by omega)) ?_ -- pc_ 168
        refine sm_T_go 1 (c1 := (171, [some (.inr (.inr (some (0, ii_)))), some (.inr (.inr (some (2, cc_)))), some (.inl g_), some (.inl el_), some (.inl is_), some (.inl j_)], [.inl is_, .inl (4 * el_), .inr (.inr (some (0, ii_)))], S_)) rfl ?_
        refine sm_T_bin (w := 4 * el_ + is_) rfl (bi_add (by omega) (by omega) (by omega)) ?_ -- pc_ 171
        refine sm_T_go 1 (c1 := (173, [some (.inr (.inr (some (0, ii_)))), some (.inr (.inr (some (2, cc_)))), some (.inl g_), some (.inl el_), some (.inl is_), some (.inl j_)], [.inr (.inr (some (2, cc_))), .inl (4 * el_ + is_), .inr (.inr (some (0, ii_)))], S_)) rfl ?_
        refine sm_T_cal (d1 := 0) (Q1 := vq_54 cc_ S_) rfl rfl (by decide) (vc_54 cc_ S_ hI_ ) (fun u_ Sx2_ px5_ => ?_)
        obtain ⟨rfl, vx7_, rfl, px5_⟩ := px5_
        have n173_ := px5_
        refine sm_T_go 1 (c1 := (177, [some (.inr (.inr (some (0, ii_)))), some (.inr (.inr (some (2, cc_)))), some (.inl g_), some (.inl el_), some (.inl is_), some (.inl j_)], [.inl g_, .inl vx7_, .inl (4 * el_ + is_), .inr (.inr (some (0, ii_)))], S_)) rfl ?_
        refine sm_T_bin (w := vx7_ + g_) rfl (bi_add (by omega) (by omega) (by omega)) ?_ -- pc_ 177
        refine sm_T_cal (d1 := 0) (Q1 := vq_12 (4 * el_ + is_) (vx7_ + g_) ii_ S_) rfl rfl (by decide) (vc_12 (4 * el_ + is_) (vx7_ + g_) ii_ S_ hI_ (by omega) (by omega) (by exact hcn_) (by exact bpw_0 hw_ (by omega) (by omega))) (fun u_ Sx8_ px11_ => ?_)
        obtain ⟨rfl, hIx9_, hFx10_, px11_⟩ := px11_
        have hFx12_ : ai_fr (sx_W vw_11) S0_ Sx8_ := ai_fr_tr hF_ (fr_le hFx10_ rfl)
        obtain ⟨dx14_, px11_⟩ := px11_
        have hCx13_ : cdf ii_ S0_ Sx8_ := cdf_tr hC_ (cdf_cg (by omega) dx14_)
        have c178_ := px11_.1
        have s178_ : Sx8_.2.2.1 16 (0 + ii_) = S_.2.2.1 16 (0 + ii_) := fr_arr hFx10_ rfl
        have t178_ := px11_.2
        have q178_ := hFx10_.1 0 ii_ 11 rfl
        have u178_ := hFx10_.1 4 (0 + ii_) 0 rfl
        have b178_ : bpw ii_ Sx8_ el_ (is_ + 1) 0 0 := bpw_s hw_ s178_ t178_ (by omega) (by omega) (by omega) (by omega)
        have r178_ := hFx10_.1 0 ii_ 1 rfl
        refine sm_T_inc (a := 2) (z := 1) (v := g_) (w := g_ + 1) rfl rfl (by omega) (by omega) (by omega) ?_ -- pc_ 181
        refine sm_T_go 1 (c1 := (96, [some (.inr (.inr (some (0, ii_)))), some (.inr (.inr (some (2, cc_)))), some (.inl (g_ + 1)), some (.inl el_), some (.inl is_), some (.inl j_)], [], Sx8_)) rfl ?_
        refine sm_T_wk [some (.inr (.inr (some (0, ii_)))), some (.inr (.inr (some (2, cc_)))), some (.inl (g_ + 1)), none, none, none] (by exact ⟨rfl, rfl, rfl, trivial⟩) ?_
        refine ih_.2.1 (g_ + 1) Sx8_ hIx9_ hFx12_ ⟨?_, ?_, ?_, ?_, ?_, trivial⟩ ?_
        · omega
        · exact ⟨q178_.trans (hbz_.1), u178_.trans (hbz_.2)⟩
        · exact c178_
        · (rw [show S0_.1 2 cc_ 2 + (g_ + 1) = el_ + 1 by omega]; exact bpw_e b178_ (by omega) (by rw [s178_]; exact hz_.symm))
        · exact hCx13_
        · omega
      · have cx1_ : ¬ (is_ ≤ j_) := of_decide_eq_false cx1_
        refine sm_T_go 3 (c1 := (141, [some (.inr (.inr (some (0, ii_)))), some (.inr (.inr (some (2, cc_)))), some (.inl g_), some (.inl el_), some (.inl is_), some (.inl j_)], [.inl el_, .inl 4, .inr (.inr (some (0, ii_)))], S_)) rfl ?_
        refine sm_T_bin (w := 4 * el_) rfl (bi_mul (by omega) (by omega) (by omega)) ?_ -- pc_ 141
        refine sm_T_go 1 (c1 := (144, [some (.inr (.inr (some (0, ii_)))), some (.inr (.inr (some (2, cc_)))), some (.inl g_), some (.inl el_), some (.inl is_), some (.inl j_)], [.inl j_, .inl (4 * el_), .inr (.inr (some (0, ii_)))], S_)) rfl ?_
        refine sm_T_bin (w := 4 * el_ + j_) rfl (bi_add (by omega) (by omega) (by omega)) ?_ -- pc_ 144
        refine sm_T_go 4 (c1 := (151, [some (.inr (.inr (some (0, ii_)))), some (.inr (.inr (some (2, cc_)))), some (.inl g_), some (.inl el_), some (.inl is_), some (.inl j_)], [.inl g_, .inl 3, .inr (.inr (some (36, (0 + cc_)))), .inl (4 * el_ + j_), .inr (.inr (some (0, ii_)))], S_)) rfl ?_
        refine sm_T_bin (w := 3 * g_) rfl (bi_mul (by omega) (by omega) (by omega)) ?_ -- pc_ 151
        refine sm_T_go 1 (c1 := (154, [some (.inr (.inr (some (0, ii_)))), some (.inr (.inr (some (2, cc_)))), some (.inl g_), some (.inl el_), some (.inl is_), some (.inl j_)], [.inl j_, .inl (3 * g_), .inr (.inr (some (36, (0 + cc_)))), .inl (4 * el_ + j_), .inr (.inr (some (0, ii_)))], S_)) rfl ?_
        refine sm_T_bin (w := 3 * g_ + j_) rfl (bi_add (by omega) (by omega) (by omega)) ?_ -- pc_ 154
        refine sm_T_iald (n := 450) rfl rfl (by omega) (by omega) ?_
        have bx15_ : 0 ≤ S_.2.2.1 36 (0 + cc_) (3 * g_ + j_).toNat ∧ S_.2.2.1 36 (0 + cc_) (3 * g_ + j_).toNat ≤ 161 := hI_.2 36 (0 + cc_) _
        refine sm_T_cal (d1 := 0) (Q1 := vq_12 (4 * el_ + j_) (S_.2.2.1 36 (0 + cc_) (3 * g_ + j_).toNat) ii_ S_) rfl rfl (by decide) (vc_12 (4 * el_ + j_) (S_.2.2.1 36 (0 + cc_) (3 * g_ + j_).toNat) ii_ S_ hI_ (by omega) (by omega) (by exact hcn_) (by exact bpw_0 hw_ (by omega) (by omega))) (fun u_ Sx16_ px19_ => ?_)
        obtain ⟨rfl, hIx17_, hFx18_, px19_⟩ := px19_
        have hFx20_ : ai_fr (sx_W vw_11) S0_ Sx16_ := ai_fr_tr hF_ (fr_le hFx18_ rfl)
        obtain ⟨dx22_, px19_⟩ := px19_
        have hCx21_ : cdf ii_ S0_ Sx16_ := cdf_tr hC_ (cdf_cg (by omega) dx22_)
        have c156_ := px19_.1
        have s156_ : Sx16_.2.2.1 16 (0 + ii_) = S_.2.2.1 16 (0 + ii_) := fr_arr hFx18_ rfl
        have t156_ := px19_.2
        have q156_ := hFx18_.1 0 ii_ 11 rfl
        have u156_ := hFx18_.1 4 (0 + ii_) 0 rfl
        have b156_ : bpw ii_ Sx16_ el_ (j_ + 1) 0 0 := bpw_s hw_ s156_ t156_ (by omega) (by omega) (by omega) (by omega)
        have r156_ := hFx18_.1 0 ii_ 1 rfl
        refine sm_T_inc (a := 5) (z := 1) (v := j_) (w := j_ + 1) rfl rfl (by omega) (by omega) (by omega) ?_ -- pc_ 159
        refine sm_T_go 1 (c1 := (131, [some (.inr (.inr (some (0, ii_)))), some (.inr (.inr (some (2, cc_)))), some (.inl g_), some (.inl el_), some (.inl is_), some (.inl (j_ + 1))], [], Sx16_)) rfl ?_
        refine ih_.2.2.1 g_ el_ is_ (j_ + 1) Sx16_ hIx17_ hFx20_ ⟨?_, ?_, ?_, ?_, ?_, ?_, trivial⟩ ?_
        · omega
        · (rw [s156_]; exact hz_)
        · exact ⟨q156_.trans (hbz_.1), u156_.trans (hbz_.2)⟩
        · exact c156_
        · exact b156_
        · exact hCx21_
        · omega
    · rintro k_ S_ hI_ hF_ ⟨h0_, hbz_, hcn_, hw_, hC_, -⟩ hm_
      have d1_ : S_.1 2 cc_ 1 = S0_.1 2 cc_ 1 := hF_.1 2 cc_ 1 rfl
      have d2_ : S_.1 2 cc_ 2 = S0_.1 2 cc_ 2 := hF_.1 2 cc_ 2 rfl
      have d3_ : S_.1 2 cc_ 3 = S0_.1 2 cc_ 3 := hF_.1 2 cc_ 3 rfl
      have d8_ : S_.1 2 cc_ 8 = S0_.1 2 cc_ 8 := hF_.1 2 cc_ 8 rfl
      have k1_ : 0 ≤ S_.1 2 cc_ 1 ∧ S_.1 2 cc_ 1 ≤ 12 := hI_.1 2 cc_ 1 rfl
      have k2_ : 0 ≤ S_.1 2 cc_ 2 ∧ S_.1 2 cc_ 2 ≤ 6 := hI_.1 2 cc_ 2 rfl
      have k3_ : 0 ≤ S_.1 2 cc_ 3 ∧ S_.1 2 cc_ 3 ≤ 16 := hI_.1 2 cc_ 3 rfl
      have k8_ : 0 ≤ S_.1 2 cc_ 8 ∧ S_.1 2 cc_ 8 ≤ 150 := hI_.1 2 cc_ 8 rfl
      have bx1_ : 0 ≤ S_.1 2 cc_ 1 ∧ S_.1 2 cc_ 1 ≤ 12 := hI_.1 2 cc_ 1 rfl
      refine sm_T_go 3 (c1 := (194, [some (.inr (.inr (some (0, ii_)))), some (.inr (.inr (some (2, cc_)))), some (.inl k_), none, none, none], [.inl (S_.1 2 cc_ 1), .inl k_], S_)) rfl ?_
      refine sm_T_br (a := 3) (z := 19) rfl (fun cx2_ => ?_) (fun cx2_ => ?_)
      · have cx2_ : (S_.1 2 cc_ 1) ≤ k_ := of_decide_eq_true cx2_
        refine sm_T_go 2 (c1 := (215, [some (.inr (.inr (some (0, ii_)))), some (.inr (.inr (some (2, cc_)))), some (.inl 0), none, none, none], [], S_)) rfl ?_
        refine ih_.2.2.2.2 0 S_ hI_ hF_ ⟨?_, ?_, ?_, ?_, ?_, trivial⟩ ?_
        · omega
        · exact hbz_
        · exact hcn_
        · (rw [show S0_.1 2 cc_ 1 = k_ by omega]; exact hw_)
        · exact hC_
        · omega
      · have cx2_ : ¬ ((S_.1 2 cc_ 1) ≤ k_) := of_decide_eq_false cx2_
        refine sm_T_go 3 (c1 := (202, [some (.inr (.inr (some (0, ii_)))), some (.inr (.inr (some (2, cc_)))), some (.inl k_), none, none, none], [.inl k_, .inl 624, .inr (.inr (some (0, ii_)))], S_)) rfl ?_
        refine sm_T_bin (w := k_ + 624) rfl (bi_add (by omega) (by omega) (by omega)) ?_ -- pc_ 202
        refine sm_T_go 1 (c1 := (204, [some (.inr (.inr (some (0, ii_)))), some (.inr (.inr (some (2, cc_)))), some (.inl k_), none, none, none], [.inl k_, .inl (k_ + 624), .inr (.inr (some (0, ii_)))], S_)) rfl ?_
        refine sm_T_cal (d1 := 0) (Q1 := vq_12 (k_ + 624) k_ ii_ S_) rfl rfl (by decide) (vc_12 (k_ + 624) k_ ii_ S_ hI_ (by omega) (by omega) (by exact hcn_) (by exact bpw_0 hw_ (by omega) (by omega))) (fun u_ Sx3_ px6_ => ?_)
        obtain ⟨rfl, hIx4_, hFx5_, px6_⟩ := px6_
        have hFx7_ : ai_fr (sx_W vw_11) S0_ Sx3_ := ai_fr_tr hF_ (fr_le hFx5_ rfl)
        obtain ⟨dx9_, px6_⟩ := px6_
        have hCx8_ : cdf ii_ S0_ Sx3_ := cdf_tr hC_ (cdf_cg (by omega) dx9_)
        have ex10_ : Sx3_.1 2 cc_ 1 = S_.1 2 cc_ 1 := hFx5_.1 2 cc_ 1 rfl
        have c204_ := px6_.1
        have s204_ : Sx3_.2.2.1 16 (0 + ii_) = S_.2.2.1 16 (0 + ii_) := fr_arr hFx5_ rfl
        have t204_ := px6_.2
        have q204_ := hFx5_.1 0 ii_ 11 rfl
        have u204_ := hFx5_.1 4 (0 + ii_) 0 rfl
        have b204_ : bpw ii_ Sx3_ (S0_.1 2 cc_ 2 + S0_.1 2 cc_ 8) 0 (k_ + 1) 0 := bpw_s hw_ s204_ t204_ (by omega) (by omega) (by omega) (by omega)
        have r204_ := hFx5_.1 0 ii_ 1 rfl
        refine sm_T_inc (a := 2) (z := 1) (v := k_) (w := k_ + 1) rfl rfl (by omega) (by omega) (by omega) ?_ -- pc_ 207
        refine sm_T_go 1 (c1 := (189, [some (.inr (.inr (some (0, ii_)))), some (.inr (.inr (some (2, cc_)))), some (.inl (k_ + 1)), none, none, none], [], Sx3_)) rfl ?_
        refine ih_.2.2.2.1 (k_ + 1) Sx3_ hIx4_ hFx7_ ⟨?_, ?_, ?_, ?_, ?_, trivial⟩ ?_
        · omega
        · exact ⟨q204_.trans (hbz_.1), u204_.trans (hbz_.2)⟩
        · exact c204_
        · exact b204_
        · exact hCx8_
        · omega
    · rintro k_ S_ hI_ hF_ ⟨h0_, hbz_, hcn_, hw_, hC_, -⟩ hm_
      have d1_ : S_.1 2 cc_ 1 = S0_.1 2 cc_ 1 := hF_.1 2 cc_ 1 rfl
      have d2_ : S_.1 2 cc_ 2 = S0_.1 2 cc_ 2 := hF_.1 2 cc_ 2 rfl
      have d3_ : S_.1 2 cc_ 3 = S0_.1 2 cc_ 3 := hF_.1 2 cc_ 3 rfl
      have d8_ : S_.1 2 cc_ 8 = S0_.1 2 cc_ 8 := hF_.1 2 cc_ 8 rfl
      have k1_ : 0 ≤ S_.1 2 cc_ 1 ∧ S_.1 2 cc_ 1 ≤ 12 := hI_.1 2 cc_ 1 rfl
      have k2_ : 0 ≤ S_.1 2 cc_ 2 ∧ S_.1 2 cc_ 2 ≤ 6 := hI_.1 2 cc_ 2 rfl
      have k3_ : 0 ≤ S_.1 2 cc_ 3 ∧ S_.1 2 cc_ 3 ≤ 16 := hI_.1 2 cc_ 3 rfl
      have k8_ : 0 ≤ S_.1 2 cc_ 8 ∧ S_.1 2 cc_ 8 ≤ 150 := hI_.1 2 cc_ 8 rfl
      have bx1_ : 0 ≤ S_.1 2 cc_ 3 ∧ S_.1 2 cc_ 3 ≤ 16 := hI_.1 2 cc_ 3 rfl
      refine sm_T_go 3 (c1 := (220, [some (.inr (.inr (some (0, ii_)))), some (.inr (.inr (some (2, cc_)))), some (.inl k_), none, none, none], [.inl (S_.1 2 cc_ 3), .inl k_], S_)) rfl ?_
      refine sm_T_br (a := 3) (z := 24) rfl (fun cx2_ => ?_) (fun cx2_ => ?_)
      · have cx2_ : (S_.1 2 cc_ 3) ≤ k_ := of_decide_eq_true cx2_
        refine sm_T_go 1 (c1 := (245, [some (.inr (.inr (some (0, ii_)))), some (.inr (.inr (some (2, cc_)))), some (.inl k_), none, none, none], [.inr (.inr (some (0, ii_)))], S_)) rfl ?_
        refine sm_T_cal (d1 := 0) (Q1 := vq_13 ii_ S_) rfl rfl (by decide) (vc_13 ii_ S_ hI_ (by exact hcn_)) (fun u_ Sx3_ px6_ => ?_)
        obtain ⟨rfl, hIx4_, hFx5_, px6_⟩ := px6_
        have hFx7_ : ai_fr (sx_W vw_11) S0_ Sx3_ := ai_fr_tr hF_ (fr_le hFx5_ rfl)
        obtain ⟨dx9_, px6_⟩ := px6_
        have hCx8_ : cdf ii_ S0_ Sx3_ := cdf_tr hC_ (cdf_cg (by omega) dx9_)
        have ex10_ : Sx3_.1 2 cc_ 3 = S_.1 2 cc_ 3 := hFx5_.1 2 cc_ 3 rfl
        have p245_ := px6_
        have q245_ := hFx5_.1 0 ii_ 11 rfl
        have u245_ := hFx5_.1 4 (0 + ii_) 0 rfl
        have w245_ : bpw ii_ Sx3_ (S0_.1 2 cc_ 2 + S0_.1 2 cc_ 8) 0 (S0_.1 2 cc_ 1) (S0_.1 2 cc_ 3) := by (intro p9_ hp9_ hn9_; rw [(hFx5_.2.2 17 rfl (0 + ii_) p9_).1] at hn9_; have w9_ := hw_ p9_ hp9_ hn9_; rw [(hFx5_.2.2 16 rfl (0 + ii_) (p9_ / 4)).1]; omega)
        have r245_ := hFx5_.1 0 ii_ 1 rfl
        have d1z := hFx5_.1 2 cc_ 1 rfl
        have d2z := hFx5_.1 2 cc_ 2 rfl
        have d3z := hFx5_.1 2 cc_ 3 rfl
        have d8z := hFx5_.1 2 cc_ 8 rfl
        refine sm_T_rv rfl ⟨_, _, rfl, rfl, hIx4_, hFx7_, ?_⟩
        refine ⟨hCx8_, ?_⟩
        refine ⟨p245_, bpw_p w245_ (by omega) (by omega) (by omega), by omega, q245_.trans hbz_.1, u245_.trans hbz_.2⟩
      · have cx2_ : ¬ ((S_.1 2 cc_ 3) ≤ k_) := of_decide_eq_false cx2_
        refine sm_T_go 3 (c1 := (228, [some (.inr (.inr (some (0, ii_)))), some (.inr (.inr (some (2, cc_)))), some (.inl k_), none, none, none], [.inl k_, .inl 636, .inr (.inr (some (0, ii_)))], S_)) rfl ?_
        refine sm_T_bin (w := k_ + 636) rfl (bi_add (by omega) (by omega) (by omega)) ?_ -- pc_ 228
        refine sm_T_go 3 (c1 := (234, [some (.inr (.inr (some (0, ii_)))), some (.inr (.inr (some (2, cc_)))), some (.inl k_), none, none, none], [.inl k_, .inr (.inr (some (37, (0 + cc_)))), .inl (k_ + 636), .inr (.inr (some (0, ii_)))], S_)) rfl ?_
        refine sm_T_iald (n := 16) rfl rfl (by omega) (by omega) ?_
        have bx11_ : (-2) ≤ S_.2.2.1 37 (0 + cc_) k_.toNat ∧ S_.2.2.1 37 (0 + cc_) k_.toNat ≤ 161 := hI_.2 37 (0 + cc_) _
        refine sm_T_cal (d1 := 0) (Q1 := vq_12 (k_ + 636) (S_.2.2.1 37 (0 + cc_) k_.toNat) ii_ S_) rfl rfl (by decide) (vc_12 (k_ + 636) (S_.2.2.1 37 (0 + cc_) k_.toNat) ii_ S_ hI_ (by omega) (by omega) (by exact hcn_) (by exact bpw_0 hw_ (by omega) (by omega))) (fun u_ Sx12_ px15_ => ?_)
        obtain ⟨rfl, hIx13_, hFx14_, px15_⟩ := px15_
        have hFx16_ : ai_fr (sx_W vw_11) S0_ Sx12_ := ai_fr_tr hF_ (fr_le hFx14_ rfl)
        obtain ⟨dx18_, px15_⟩ := px15_
        have hCx17_ : cdf ii_ S0_ Sx12_ := cdf_tr hC_ (cdf_cg (by omega) dx18_)
        have ex19_ : Sx12_.1 2 cc_ 3 = S_.1 2 cc_ 3 := hFx14_.1 2 cc_ 3 rfl
        have c235_ := px15_.1
        have s235_ : Sx12_.2.2.1 16 (0 + ii_) = S_.2.2.1 16 (0 + ii_) := fr_arr hFx14_ rfl
        have t235_ := px15_.2
        have q235_ := hFx14_.1 0 ii_ 11 rfl
        have u235_ := hFx14_.1 4 (0 + ii_) 0 rfl
        have b235_ : bpw ii_ Sx12_ (S0_.1 2 cc_ 2 + S0_.1 2 cc_ 8) 0 (S0_.1 2 cc_ 1) (k_ + 1) := bpw_s hw_ s235_ t235_ (by omega) (by omega) (by omega) (by omega)
        have r235_ := hFx14_.1 0 ii_ 1 rfl
        refine sm_T_inc (a := 2) (z := 1) (v := k_) (w := k_ + 1) rfl rfl (by omega) (by omega) (by omega) ?_ -- pc_ 238
        refine sm_T_go 1 (c1 := (215, [some (.inr (.inr (some (0, ii_)))), some (.inr (.inr (some (2, cc_)))), some (.inl (k_ + 1)), none, none, none], [], Sx12_)) rfl ?_
        refine ih_.2.2.2.2 (k_ + 1) Sx12_ hIx13_ hFx16_ ⟨?_, ?_, ?_, ?_, ?_, trivial⟩ ?_
        · omega
        · exact ⟨q235_.trans (hbz_.1), u235_.trans (hbz_.2)⟩
        · exact c235_
        · exact b235_
        · exact hCx17_
        · omega
set_option maxHeartbeats 400000 in
set_option maxRecDepth 20000 in
theorem vc_11 {sc_ : Nat × (Nat → Int)} (ii_ : Nat) (cc_ : Nat) (S0_ : sm_S) (hI_ : gi S0_) (hs_ : S0_.1 2 cc_ 1 + S0_.1 2 cc_ 2 ≤ 12) : sm_T (mt_P sc_) 2 11 (0, [some (.inr (.inr (some (0, ii_)))), some (.inr (.inr (some (2, cc_)))), none, none, none, none], [], S0_) (fun ro9_ => ∃ u_ S1_, ro9_ = (.inl u_, S1_, 0) ∧ vq_11 ii_ cc_ S0_ u_ S1_) := by
  have hF_ : ai_fr (sx_W vw_11) S0_ S0_ := ai_fr_rf
  have hC_ : cdf ii_ S0_ S0_ := cdf_rf
  have kz1_ : 0 ≤ S0_.1 2 cc_ 1 ∧ S0_.1 2 cc_ 1 ≤ 12 := hI_.1 2 cc_ 1 rfl
  have kz2_ : 0 ≤ S0_.1 2 cc_ 2 ∧ S0_.1 2 cc_ 2 ≤ 6 := hI_.1 2 cc_ 2 rfl
  have kz3_ : 0 ≤ S0_.1 2 cc_ 3 ∧ S0_.1 2 cc_ 3 ≤ 16 := hI_.1 2 cc_ 3 rfl
  have kz8_ : 0 ≤ S0_.1 2 cc_ 8 ∧ S0_.1 2 cc_ 8 ≤ 150 := hI_.1 2 cc_ 8 rfl
  have hIx1_ : gi (sm_pI S0_ 0 ii_ 1 0) := gi_pI hI_ (show 0 ≤ 0 ∧ 0 ≤ 12 from ⟨by omega, by omega⟩)
  have hFx2_ : ai_fr (sx_W vw_11) S0_ (sm_pI S0_ 0 ii_ 1 0) := ai_fr_tr hF_ (ai_fr_pI rfl)
  have hCx3_ : cdf ii_ S0_ (sm_pI S0_ 0 ii_ 1 0) := cdf_pI hC_ (Or.inr (by rw [show cof 0 = 0 from rfl] <;> omega))
  refine sm_T_go 4 (c1 := (6, [some (.inr (.inr (some (0, ii_)))), some (.inr (.inr (some (2, cc_)))), none, none, none, none], [.inr (.inr (some (0, ii_)))], sm_pI S0_ 0 ii_ 1 0)) rfl ?_
  refine sm_T_cal (d1 := 0) (Q1 := vq_15 ii_ (sm_pI S0_ 0 ii_ 1 0)) rfl rfl (by decide) (vc_15 ii_ (sm_pI S0_ 0 ii_ 1 0) hIx1_ ) (fun u_ Sx4_ px7_ => ?_)
  obtain ⟨rfl, hIx5_, hFx6_, px7_⟩ := px7_
  have hFx8_ : ai_fr (sx_W vw_11) S0_ Sx4_ := ai_fr_tr hFx2_ (fr_le hFx6_ rfl)
  obtain ⟨dx10_, px7_⟩ := px7_
  have hCx9_ : cdf ii_ S0_ Sx4_ := cdf_tr hCx3_ (cdf_cg (by omega) dx10_)
  have z6_ := px7_
  have r6_ := hFx6_.1 0 ii_ 1 rfl
  rw [rf_eq] at r6_
  have bx11_ : (-2147483648) ≤ Sx4_.1 0 ii_ 16 ∧ Sx4_.1 0 ii_ 16 ≤ 2147483647 := hIx5_.1 0 ii_ 16 rfl
  refine sm_T_go 4 (c1 := (15, [some (.inr (.inr (some (0, ii_)))), some (.inr (.inr (some (2, cc_)))), none, none, none, none], [.inl 1, .inl (Sx4_.1 0 ii_ 16), .inr (.inr (some (0, ii_)))], Sx4_)) rfl ?_
  refine sm_T_bin (w := (i_add (Sx4_.1 0 ii_ 16) 1)) rfl rfl ?_ -- pc_ 15
  have bx12_ := i_add_r (Sx4_.1 0 ii_ 16) 1
  have hIx13_ : gi (sm_pI Sx4_ 0 ii_ 16 (i_add (Sx4_.1 0 ii_ 16) 1)) := gi_pI hIx5_ (show (-2147483648) ≤ (i_add (Sx4_.1 0 ii_ 16) 1) ∧ (i_add (Sx4_.1 0 ii_ 16) 1) ≤ 2147483647 from ⟨by omega, by omega⟩)
  have hFx14_ : ai_fr (sx_W vw_11) S0_ (sm_pI Sx4_ 0 ii_ 16 (i_add (Sx4_.1 0 ii_ 16) 1)) := ai_fr_tr hFx8_ (ai_fr_pI rfl)
  have hCx15_ : cdf ii_ S0_ (sm_pI Sx4_ 0 ii_ 16 (i_add (Sx4_.1 0 ii_ 16) 1)) := cdf_pI hCx9_ (Or.inr (by rw [show cof 0 = 0 from rfl] <;> omega))
  refine sm_T_go 4 (c1 := (24, [some (.inr (.inr (some (0, ii_)))), some (.inr (.inr (some (2, cc_)))), none, none, none, none], [.inl (-1), .inr (.inr (some (17, (0 + ii_))))], sm_pI Sx4_ 0 ii_ 16 (i_add (Sx4_.1 0 ii_ 16) 1))) rfl ?_
  refine sm_T_cal (d1 := 0) (Q1 := vq_2b7 (-1) ii_ (sm_pI Sx4_ 0 ii_ 16 (i_add (Sx4_.1 0 ii_ 16) 1))) rfl rfl (by decide) (vc_2b7 (-1) ii_ (sm_pI Sx4_ 0 ii_ 16 (i_add (Sx4_.1 0 ii_ 16) 1)) hIx13_ (by decide)) (fun u_ Sx16_ px19_ => ?_)
  obtain ⟨rfl, hIx17_, hFx18_, px19_⟩ := px19_
  have hFx20_ : ai_fr (sx_W vw_11) S0_ Sx16_ := ai_fr_tr hFx14_ (fr_le hFx18_ rfl)
  obtain ⟨dx22_, px19_⟩ := px19_
  have hCx21_ : cdf ii_ S0_ Sx16_ := cdf_tr hCx15_ (cdf_cg (by omega) dx22_)
  have e24_ := px19_
  have r24_ := hFx18_.1 0 ii_ 1 rfl
  rw [rf_nk (by decide), r6_] at r24_
  have q24_ := hFx18_.1 0 ii_ 11 rfl
  rw [rf_nk (by decide), z6_.1] at q24_
  have u24_ := hFx18_.1 4 (0 + ii_) 0 rfl
  rw [rf_nt (by decide), z6_.2] at u24_
  refine sm_T_go 3 (c1 := (32, [some (.inr (.inr (some (0, ii_)))), some (.inr (.inr (some (2, cc_)))), none, none, none, none], [.inl 0, .inr (.inr (some (20, (0 + ii_))))], Sx16_)) rfl ?_
  refine sm_T_cal (d1 := 0) (Q1 := vq_2b8 0 ii_ Sx16_) rfl rfl (by decide) (vc_2b8 0 ii_ Sx16_ hIx17_ (by decide)) (fun u_ Sx23_ px26_ => ?_)
  obtain ⟨rfl, hIx24_, hFx25_, px26_⟩ := px26_
  have hFx27_ : ai_fr (sx_W vw_11) S0_ Sx23_ := ai_fr_tr hFx20_ (fr_le hFx25_ rfl)
  obtain ⟨dx29_, px26_⟩ := px26_
  have hCx28_ : cdf ii_ S0_ Sx23_ := cdf_tr hCx21_ (cdf_cg (by omega) dx29_)
  have e32_ := px26_
  have f32_ := hFx25_.2.2 17 rfl (0 + ii_)
  have r32_ := hFx25_.1 0 ii_ 1 rfl
  rw [r24_] at r32_
  have q32_ := (hFx25_.1 0 ii_ 11 rfl).trans q24_
  have u32_ := (hFx25_.1 4 (0 + ii_) 0 rfl).trans u24_
  refine sm_T_go 3 (c1 := (40, [some (.inr (.inr (some (0, ii_)))), some (.inr (.inr (some (2, cc_)))), none, none, none, none], [.inl 0, .inr (.inr (some (21, (0 + ii_))))], Sx23_)) rfl ?_
  refine sm_T_cal (d1 := 0) (Q1 := vq_2b9 0 ii_ Sx23_) rfl rfl (by decide) (vc_2b9 0 ii_ Sx23_ hIx24_ (by decide)) (fun u_ Sx30_ px33_ => ?_)
  obtain ⟨rfl, hIx31_, hFx32_, px33_⟩ := px33_
  have hFx34_ : ai_fr (sx_W vw_11) S0_ Sx30_ := ai_fr_tr hFx27_ (fr_le hFx32_ rfl)
  obtain ⟨dx36_, px33_⟩ := px33_
  have hCx35_ : cdf ii_ S0_ Sx30_ := cdf_tr hCx28_ (cdf_cg (by omega) dx36_)
  have f40_ := hFx32_.2.2 17 rfl (0 + ii_)
  have g40_ := hFx32_.2.2 20 rfl (0 + ii_)
  have r40_ := hFx32_.1 0 ii_ 1 rfl
  rw [r32_] at r40_
  have q40_ := (hFx32_.1 0 ii_ 11 rfl).trans q32_
  have u40_ := (hFx32_.1 4 (0 + ii_) 0 rfl).trans u32_
  refine sm_T_go 2 (c1 := (45, [some (.inr (.inr (some (0, ii_)))), some (.inr (.inr (some (2, cc_)))), some (.inl 0), none, none, none], [], Sx30_)) rfl ?_
  refine (vl_11 ii_ cc_ S0_ hs_ _).1 0 Sx30_ hIx31_ hFx34_ ⟨?_, ?_, ?_, ?_, ?_, trivial⟩ (Nat.lt_succ_self _)
  · omega
  · exact ⟨q40_, u40_⟩
  · intro c_ hc_
    rw [(g40_ c_).1, e32_ c_ (by omega), cne_0 (fun p9_ hp9_ => ?_)]
    · rfl
    · rw [(f40_ p9_).1, (f32_ p9_).1, e24_ p9_ hp9_]; omega
  · intro p9_ hp9_ hn9_
    rw [(f40_ p9_).1, (f32_ p9_).1, e24_ p9_ hp9_] at hn9_
    exact absurd rfl hn9_
  · exact hCx35_
