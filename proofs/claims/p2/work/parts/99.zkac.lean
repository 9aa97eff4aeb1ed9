/-! Board.touchNets -/
def vw_28 : sx_Wl := ([(0, 18)], [25], [])
def vq_28 (a1_ : Int) (ii_ : Nat) (S0_ : sm_S) (u_ : Option sm_V) (S1_ : sm_S) : Prop := u_ = none ∧ gi S1_ ∧ ai_fr (sx_W vw_28) S0_ S1_ ∧ (cdf ii_ S0_ S1_ ∧ (S1_.1 0 ii_ 18 ≤ S0_.1 0 ii_ 18 + 4 ∧ ∀ j_ : Nat, (j_ : Int) < S1_.1 0 ii_ 18 → 0 ≤ S1_.2.2.1 25 (0 + ii_) j_))
set_option maxHeartbeats 400000 in
theorem vl_28 {sc_ : Nat × (Nat → Int)} (a1_ : Int) (ii_ : Nat) (S0_ : sm_S) (h1_ : 0 ≤ a1_ ∧ a1_ ≤ 155) (ht_ : S0_.1 0 ii_ 18 ≤ 4) (hn_ : ∀ j_ : Nat, (j_ : Int) < S0_.1 0 ii_ 18 → 0 ≤ S0_.2.2.1 25 (0 + ii_) j_) : ∀ nn_ : Nat, (∀ (k_ : Int) (S_ : sm_S), gi S_ → ai_fr (sx_W vw_28) S0_ S_ → ((0 ≤ k_ ∧ k_ ≤ 4 ∧ S_.1 0 ii_ 18 ≤ S0_.1 0 ii_ 18 + k_) ∧ (∀ j_ : Nat, (j_ : Int) < S_.1 0 ii_ 18 → 0 ≤ S_.2.2.1 25 (0 + ii_) j_) ∧ (cdf ii_ S0_ S_) ∧ True) → ((100 * (10 - k_) + 50).toNat) < nn_ → sm_T (mt_P sc_) 0 28 (2, [some (.inr (.inr (some (0, ii_)))), some (.inl a1_), some (.inl k_), none, none, none], [], S_) (fun ro9_ => ∃ u_ S1_, ro9_ = (.inl u_, S1_, 0) ∧ vq_28 a1_ ii_ S0_ u_ S1_)) ∧ (∀ (k_ : Int) (nt_ : Int) (fs_ : Int) (i_ : Int) (S_ : sm_S), gi S_ → ai_fr (sx_W vw_28) S0_ S_ → ((0 ≤ k_ ∧ k_ < 4 ∧ S_.1 0 ii_ 18 ≤ S0_.1 0 ii_ 18 + k_ ∧ 0 ≤ i_ ∧ i_ ≤ 8 ∧ -1 ≤ nt_ ∧ nt_ ≤ 161 ∧ 0 ≤ fs_ ∧ fs_ ≤ 1) ∧ (fs_ ≠ 0 → 0 ≤ nt_) ∧ (∀ j_ : Nat, (j_ : Int) < S_.1 0 ii_ 18 → 0 ≤ S_.2.2.1 25 (0 + ii_) j_) ∧ (cdf ii_ S0_ S_) ∧ True) → ((100 * (10 - k_) + 40 - i_).toNat) < nn_ → sm_T (mt_P sc_) 0 28 (38, [some (.inr (.inr (some (0, ii_)))), some (.inl a1_), some (.inl k_), some (.inl nt_), some (.inl fs_), some (.inl i_)], [], S_) (fun ro9_ => ∃ u_ S1_, ro9_ = (.inl u_, S1_, 0) ∧ vq_28 a1_ ii_ S0_ u_ S1_)) := by
  intro nn_
  induction nn_ with
  | zero => exact ⟨fun _ _ _ _ _ h_ => absurd h_ (Nat.not_lt_zero _), fun _ _ _ _ _ _ _ _ h_ => absurd h_ (Nat.not_lt_zero _)⟩
  | succ nn_ ih_ =>
    refine ⟨?_, ?_⟩
    · rintro k_ S_ hI_ hF_ ⟨h0_, hj_, hC_, -⟩ hm_
      refine sm_T_go 4 (c1 := (8, [some (.inr (.inr (some (0, ii_)))), some (.inl a1_), some (.inl k_), none, none, none], [.inl a1_, .inr (.inr (some (16, (0 + ii_)))), .inl k_], S_)) rfl ?_
      refine sm_T_iald (n := 156) rfl rfl (by omega) (by omega) ?_
      have bx1_ : 0 ≤ S_.2.2.1 16 (0 + ii_) a1_.toNat ∧ S_.2.2.1 16 (0 + ii_) a1_.toNat ≤ 4 := hI_.2 16 (0 + ii_) _
      refine sm_T_br (a := 3) (z := 98) rfl (fun cx2_ => ?_) (fun cx2_ => ?_)
      · have cx2_ : (S_.2.2.1 16 (0 + ii_) a1_.toNat) ≤ k_ := of_decide_eq_true cx2_
        refine sm_T_rv rfl ⟨_, _, rfl, rfl, hI_, hF_, ?_⟩
        refine ⟨hC_, ?_⟩
        exact ⟨by omega, hj_⟩
      · have cx2_ : ¬ ((S_.2.2.1 16 (0 + ii_) a1_.toNat) ≤ k_) := of_decide_eq_false cx2_
        refine sm_T_go 4 (c1 := (18, [some (.inr (.inr (some (0, ii_)))), some (.inl a1_), some (.inl k_), none, none, none], [.inl a1_, .inl 4, .inr (.inr (some (17, (0 + ii_))))], S_)) rfl ?_
        refine sm_T_bin (w := 4 * a1_) rfl (bi_mul (by omega) (by omega) (by omega)) ?_ -- pc_ 18
        refine sm_T_go 1 (c1 := (20, [some (.inr (.inr (some (0, ii_)))), some (.inl a1_), some (.inl k_), none, none, none], [.inl k_, .inl (4 * a1_), .inr (.inr (some (17, (0 + ii_))))], S_)) rfl ?_
        refine sm_T_bin (w := 4 * a1_ + k_) rfl (bi_add (by omega) (by omega) (by omega)) ?_ -- pc_ 20
        refine sm_T_iald (n := 652) rfl rfl (by omega) (by omega) ?_
        have bx3_ : (-1) ≤ S_.2.2.1 17 (0 + ii_) (4 * a1_ + k_).toNat ∧ S_.2.2.1 17 (0 + ii_) (4 * a1_ + k_).toNat ≤ 161 := hI_.2 17 (0 + ii_) _
        refine sm_T_go 3 (c1 := (25, [some (.inr (.inr (some (0, ii_)))), some (.inl a1_), some (.inl k_), some (.inl (S_.2.2.1 17 (0 + ii_) (4 * a1_ + k_).toNat)), none, none], [.inl (-1), .inl (S_.2.2.1 17 (0 + ii_) (4 * a1_ + k_).toNat)], S_)) rfl ?_
        refine sm_T_br (a := 0) (z := 7) rfl (fun cx4_ => ?_) (fun cx4_ => ?_)
        · have cx4_ : (S_.2.2.1 17 (0 + ii_) (4 * a1_ + k_).toNat) = (-1) := of_decide_eq_true cx4_
          refine sm_T_go 4 (c1 := (38, [some (.inr (.inr (some (0, ii_)))), some (.inl a1_), some (.inl k_), some (.inl (S_.2.2.1 17 (0 + ii_) (4 * a1_ + k_).toNat)), some (.inl 0), some (.inl 0)], [], S_)) rfl ?_
          refine ih_.2 k_ (S_.2.2.1 17 (0 + ii_) (4 * a1_ + k_).toNat) 0 0 S_ hI_ hF_ ⟨?_, ?_, ?_, ?_, trivial⟩ ?_
          · omega
          · (intro u_; omega)
          · exact hj_
          · exact hC_
          · omega
        · have cx4_ : ¬ ((S_.2.2.1 17 (0 + ii_) (4 * a1_ + k_).toNat) = (-1)) := of_decide_eq_false cx4_
          refine sm_T_go 5 (c1 := (38, [some (.inr (.inr (some (0, ii_)))), some (.inl a1_), some (.inl k_), some (.inl (S_.2.2.1 17 (0 + ii_) (4 * a1_ + k_).toNat)), some (.inl 1), some (.inl 0)], [], S_)) rfl ?_
          refine ih_.2 k_ (S_.2.2.1 17 (0 + ii_) (4 * a1_ + k_).toNat) 1 0 S_ hI_ hF_ ⟨?_, ?_, ?_, ?_, trivial⟩ ?_
          · omega
          · (intro u_; omega)
          · exact hj_
          · exact hC_
          · omega
    · rintro k_ nt_ fs_ i_ S_ hI_ hF_ ⟨h0_, hf_, hj_, hC_, -⟩ hm_
      have bx1_ : 0 ≤ S_.1 0 ii_ 18 ∧ S_.1 0 ii_ 18 ≤ 8 := hI_.1 0 ii_ 18 rfl
      refine sm_T_go 3 (c1 := (44, [some (.inr (.inr (some (0, ii_)))), some (.inl a1_), some (.inl k_), some (.inl nt_), some (.inl fs_), some (.inl i_)], [.inl (S_.1 0 ii_ 18), .inl i_], S_)) rfl ?_
      refine sm_T_br (a := 3) (z := 32) rfl (fun cx2_ => ?_) (fun cx2_ => ?_)
      · have cx2_ : (S_.1 0 ii_ 18) ≤ i_ := of_decide_eq_true cx2_
        refine sm_T_go 1 (c1 := (78, [some (.inr (.inr (some (0, ii_)))), some (.inl a1_), some (.inl k_), some (.inl nt_), some (.inl fs_), some (.inl i_)], [.inl fs_], S_)) rfl ?_
        refine sm_T_b0 (a := 0) (z := 23) rfl (fun cx3_ => ?_) (fun cx3_ => ?_)
        · have cx3_ : fs_ = 0 := of_decide_eq_true cx3_
          refine sm_T_inc (a := 2) (z := 1) (v := k_) (w := k_ + 1) rfl rfl (by omega) (by omega) (by omega) ?_ -- pc_ 101
          refine sm_T_go 1 (c1 := (2, [some (.inr (.inr (some (0, ii_)))), some (.inl a1_), some (.inl (k_ + 1)), some (.inl nt_), some (.inl fs_), some (.inl i_)], [], S_)) rfl ?_
          refine sm_T_wk [some (.inr (.inr (some (0, ii_)))), some (.inl a1_), some (.inl (k_ + 1)), none, none, none] (by exact ⟨rfl, rfl, rfl, trivial⟩) ?_
          refine ih_.1 (k_ + 1) S_ hI_ hF_ ⟨?_, ?_, ?_, trivial⟩ ?_
          · omega
          · exact hj_
          · exact hC_
          · omega
        · have cx3_ : ¬ (fs_ = 0) := of_decide_eq_false cx3_
          have f9_ := hf_ (by omega)
          refine sm_T_go 5 (c1 := (90, [some (.inr (.inr (some (0, ii_)))), some (.inl a1_), some (.inl k_), some (.inl nt_), some (.inl fs_), some (.inl i_)], [.inl nt_, .inl (S_.1 0 ii_ 18), .inr (.inr (some (25, (0 + ii_))))], S_)) rfl ?_
          refine sm_T_iast (n := 8) rfl rfl (by omega) (by omega) ?_
          have hIx4_ : gi (sm_aI S_ 25 (0 + ii_) (S_.1 0 ii_ 18).toNat nt_) := gi_aI hI_ (show (-1) ≤ nt_ ∧ nt_ ≤ 161 from ⟨by omega, by omega⟩)
          have hFx5_ : ai_fr (sx_W vw_28) S0_ (sm_aI S_ 25 (0 + ii_) (S_.1 0 ii_ 18).toNat nt_) := ai_fr_tr hF_ (ai_fr_aI rfl)
          have hCx6_ : cdf ii_ S0_ (sm_aI S_ 25 (0 + ii_) (S_.1 0 ii_ 18).toNat nt_) := cdf_aI hC_ (Or.inr (by rw [show cof 25 = 0 from rfl] <;> omega))
          refine sm_T_go 4 (c1 := (97, [some (.inr (.inr (some (0, ii_)))), some (.inl a1_), some (.inl k_), some (.inl nt_), some (.inl fs_), some (.inl i_)], [.inl 1, .inl (S_.1 0 ii_ 18), .inr (.inr (some (0, ii_)))], sm_aI S_ 25 (0 + ii_) (S_.1 0 ii_ 18).toNat nt_)) rfl ?_
          refine sm_T_bin (w := (S_.1 0 ii_ 18) + 1) rfl (bi_add (by omega) (by omega) (by omega)) ?_ -- pc_ 97
          have hIx7_ : gi (sm_pI (sm_aI S_ 25 (0 + ii_) (S_.1 0 ii_ 18).toNat nt_) 0 ii_ 18 ((S_.1 0 ii_ 18) + 1)) := gi_pI hIx4_ (show 0 ≤ (S_.1 0 ii_ 18) + 1 ∧ (S_.1 0 ii_ 18) + 1 ≤ 8 from ⟨by omega, by omega⟩)
          have hFx8_ : ai_fr (sx_W vw_28) S0_ (sm_pI (sm_aI S_ 25 (0 + ii_) (S_.1 0 ii_ 18).toNat nt_) 0 ii_ 18 ((S_.1 0 ii_ 18) + 1)) := ai_fr_tr hFx5_ (ai_fr_pI rfl)
          have hCx9_ : cdf ii_ S0_ (sm_pI (sm_aI S_ 25 (0 + ii_) (S_.1 0 ii_ 18).toNat nt_) 0 ii_ 18 ((S_.1 0 ii_ 18) + 1)) := cdf_pI hCx6_ (Or.inr (by rw [show cof 0 = 0 from rfl] <;> omega))
          refine sm_T_go 1 (c1 := (101, [some (.inr (.inr (some (0, ii_)))), some (.inl a1_), some (.inl k_), some (.inl nt_), some (.inl fs_), some (.inl i_)], [], sm_pI (sm_aI S_ 25 (0 + ii_) (S_.1 0 ii_ 18).toNat nt_) 0 ii_ 18 ((S_.1 0 ii_ 18) + 1))) rfl ?_
          refine sm_T_inc (a := 2) (z := 1) (v := k_) (w := k_ + 1) rfl rfl (by omega) (by omega) (by omega) ?_ -- pc_ 101
          refine sm_T_go 1 (c1 := (2, [some (.inr (.inr (some (0, ii_)))), some (.inl a1_), some (.inl (k_ + 1)), some (.inl nt_), some (.inl fs_), some (.inl i_)], [], sm_pI (sm_aI S_ 25 (0 + ii_) (S_.1 0 ii_ 18).toNat nt_) 0 ii_ 18 ((S_.1 0 ii_ 18) + 1))) rfl ?_
          refine sm_T_wk [some (.inr (.inr (some (0, ii_)))), some (.inl a1_), some (.inl (k_ + 1)), none, none, none] (by exact ⟨rfl, rfl, rfl, trivial⟩) ?_
          refine ih_.1 (k_ + 1) (sm_pI (sm_aI S_ 25 (0 + ii_) (S_.1 0 ii_ 18).toNat nt_) 0 ii_ 18 ((S_.1 0 ii_ 18) + 1)) hIx7_ hFx8_ ⟨?_, ?_, ?_, trivial⟩ ?_
          · (simp only [rf_eq]; omega)
          · intro j_ hj9_
            simp only [rf_eq, rd_fa, rd_af, rd_eq] at hj9_ ⊢
            by_cases z_ : j_ = (S_.1 0 ii_ 18).toNat
            · rw [if_pos z_]; exact f9_
            · rw [if_neg z_]; exact hj_ j_ (by omega)
          · exact hCx9_
          · omega
      · have cx2_ : ¬ ((S_.1 0 ii_ 18) ≤ i_) := of_decide_eq_false cx2_
        refine sm_T_go 1 (c1 := (49, [some (.inr (.inr (some (0, ii_)))), some (.inl a1_), some (.inl k_), some (.inl nt_), some (.inl fs_), some (.inl i_)], [.inl fs_], S_)) rfl ?_
        refine sm_T_b0 (a := 0) (z := 18) rfl (fun cx10_ => ?_) (fun cx10_ => ?_)
        · have cx10_ : fs_ = 0 := of_decide_eq_true cx10_
          refine sm_T_go 2 (c1 := (70, [some (.inr (.inr (some (0, ii_)))), some (.inl a1_), some (.inl k_), some (.inl nt_), some (.inl 0), some (.inl i_)], [], S_)) rfl ?_
          refine sm_T_inc (a := 5) (z := 1) (v := i_) (w := i_ + 1) rfl rfl (by omega) (by omega) (by omega) ?_ -- pc_ 70
          refine sm_T_go 1 (c1 := (38, [some (.inr (.inr (some (0, ii_)))), some (.inl a1_), some (.inl k_), some (.inl nt_), some (.inl 0), some (.inl (i_ + 1))], [], S_)) rfl ?_
          refine ih_.2 k_ nt_ 0 (i_ + 1) S_ hI_ hF_ ⟨?_, ?_, ?_, ?_, trivial⟩ ?_
          · omega
          · (intro u_; first | exact hf_ (by omega) | omega)
          · exact hj_
          · exact hC_
          · omega
        · have cx10_ : ¬ (fs_ = 0) := of_decide_eq_false cx10_
          refine sm_T_go 3 (c1 := (58, [some (.inr (.inr (some (0, ii_)))), some (.inl a1_), some (.inl k_), some (.inl nt_), some (.inl fs_), some (.inl i_)], [.inl i_, .inr (.inr (some (25, (0 + ii_))))], S_)) rfl ?_
          refine sm_T_iald (n := 8) rfl rfl (by omega) (by omega) ?_
          have bx11_ : (-1) ≤ S_.2.2.1 25 (0 + ii_) i_.toNat ∧ S_.2.2.1 25 (0 + ii_) i_.toNat ≤ 161 := hI_.2 25 (0 + ii_) _
          refine sm_T_go 1 (c1 := (60, [some (.inr (.inr (some (0, ii_)))), some (.inl a1_), some (.inl k_), some (.inl nt_), some (.inl fs_), some (.inl i_)], [.inl nt_, .inl (S_.2.2.1 25 (0 + ii_) i_.toNat)], S_)) rfl ?_
          refine sm_T_br (a := 0) (z := 7) rfl (fun cx12_ => ?_) (fun cx12_ => ?_)
          · have cx12_ : (S_.2.2.1 25 (0 + ii_) i_.toNat) = nt_ := of_decide_eq_true cx12_
            refine sm_T_go 2 (c1 := (70, [some (.inr (.inr (some (0, ii_)))), some (.inl a1_), some (.inl k_), some (.inl nt_), some (.inl 0), some (.inl i_)], [], S_)) rfl ?_
            refine sm_T_inc (a := 5) (z := 1) (v := i_) (w := i_ + 1) rfl rfl (by omega) (by omega) (by omega) ?_ -- pc_ 70
            refine sm_T_go 1 (c1 := (38, [some (.inr (.inr (some (0, ii_)))), some (.inl a1_), some (.inl k_), some (.inl nt_), some (.inl 0), some (.inl (i_ + 1))], [], S_)) rfl ?_
            refine ih_.2 k_ nt_ 0 (i_ + 1) S_ hI_ hF_ ⟨?_, ?_, ?_, ?_, trivial⟩ ?_
            · omega
            · (intro u_; first | exact hf_ (by omega) | omega)
            · exact hj_
            · exact hC_
            · omega
          · have cx12_ : ¬ ((S_.2.2.1 25 (0 + ii_) i_.toNat) = nt_) := of_decide_eq_false cx12_
            refine sm_T_go 3 (c1 := (70, [some (.inr (.inr (some (0, ii_)))), some (.inl a1_), some (.inl k_), some (.inl nt_), some (.inl 1), some (.inl i_)], [], S_)) rfl ?_
            refine sm_T_inc (a := 5) (z := 1) (v := i_) (w := i_ + 1) rfl rfl (by omega) (by omega) (by omega) ?_ -- pc_ 70
            refine sm_T_go 1 (c1 := (38, [some (.inr (.inr (some (0, ii_)))), some (.inl a1_), some (.inl k_), some (.inl nt_), some (.inl 1), some (.inl (i_ + 1))], [], S_)) rfl ?_
            refine ih_.2 k_ nt_ 1 (i_ + 1) S_ hI_ hF_ ⟨?_, ?_, ?_, ?_, trivial⟩ ?_
            · omega
            · (intro u_; first | exact hf_ (by omega) | omega)
            · exact hj_
            · exact hC_
            · omega
set_option maxHeartbeats 400000 in
theorem vc_28 {sc_ : Nat × (Nat → Int)} (a1_ : Int) (ii_ : Nat) (S0_ : sm_S) (hI_ : gi S0_) (h1_ : 0 ≤ a1_ ∧ a1_ ≤ 155) (ht_ : S0_.1 0 ii_ 18 ≤ 4) (hn_ : ∀ j_ : Nat, (j_ : Int) < S0_.1 0 ii_ 18 → 0 ≤ S0_.2.2.1 25 (0 + ii_) j_) : sm_T (mt_P sc_) 0 28 (0, [some (.inr (.inr (some (0, ii_)))), some (.inl a1_), none, none, none, none], [], S0_) (fun ro9_ => ∃ u_ S1_, ro9_ = (.inl u_, S1_, 0) ∧ vq_28 a1_ ii_ S0_ u_ S1_) := by
  have hF_ : ai_fr (sx_W vw_28) S0_ S0_ := ai_fr_rf
  have hC_ : cdf ii_ S0_ S0_ := cdf_rf
  refine sm_T_go 2 (c1 := (2, [some (.inr (.inr (some (0, ii_)))), some (.inl a1_), some (.inl 0), none, none, none], [], S0_)) rfl ?_
  refine (vl_28 a1_ ii_ S0_ h1_ ht_ hn_ _).1 0 S0_ hI_ hF_ ⟨?_, ?_, ?_, trivial⟩ (Nat.lt_succ_self _)
  · omega
  · exact hn_
  · exact hC_
