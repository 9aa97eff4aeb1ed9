/-! Router.routeAll -/
def vw_153 : sx_Wl := ([(0, 11), (8, 1), (8, 2), (8, 6), (8, 8), (8, 11), (8, 13)], [22, 23, 24, 85, 86, 87, 88, 89, 90, 91], [(8, 0)])
def vq_153 (a2_ : Int) (a3_ : Int) (bb_ : Nat) (cc_ : Nat) (S0_ : sm_S) (u_ : Option sm_V) (S1_ : sm_S) : Prop := ∃ v_ : Int, u_ = some (.inl v_) ∧ gi S1_ ∧ ai_fr (sx_W vw_153) S0_ S1_ ∧ (cdf bb_ S0_ S1_ ∧ (bst bb_ S1_ ∧ ∀ p_ : Nat, p_ < 4712 → S1_.2.2.1 22 (0 + bb_) p_ < a2_))
set_option maxHeartbeats 4000000 in
set_option maxRecDepth 20000 in
theorem vl_153 {sc_ : Nat × (Nat → Int)} (a2_ : Int) (a3_ : Int) (bb_ : Nat) (cc_ : Nat) (S0_ : sm_S) (h2_ : 0 ≤ a2_ ∧ a2_ ≤ 162) (h3_ : 0 ≤ a3_ ∧ a3_ ≤ 12) (hn_ : bpn bb_ S0_) (hl_ : bpl bb_ cc_ S0_) (hpp_ : bpp bb_ cc_ S0_) (hr_ : 0 < S0_.1 0 bb_ 1) : ∀ nn_ : Nat, (∀ (k_ : Int) (S_ : sm_S), gi S_ → ai_fr (sx_W vw_153) S0_ S_ → ((0 ≤ k_ ∧ k_ ≤ S_.1 8 0 13) ∧ (S_.2.1 8 0 0 = some bb_) ∧ (rgw S_) ∧ (rpt bb_ S_) ∧ (bst bb_ S_) ∧ (ropn bb_ S_) ∧ (rrw bb_ a2_ (S_.1 8 0 13) (S_.1 8 0 13) S_) ∧ (0 ≤ S_.1 8 0 13 ∧ S_.1 8 0 13 ≤ a2_) ∧ (∀ p_ : Nat, p_ < 4712 → S_.2.2.1 22 (0 + bb_) p_ < a2_) ∧ (∀ p_ : Nat, (p_ : Int) < 2 * S_.1 8 0 2 → S_.2.2.1 22 (0 + bb_) p_ = -1 ∨ ∃ j_ : Nat, (j_ : Int) < k_ ∧ S_.2.2.1 22 (0 + bb_) p_ = S_.2.2.1 91 0 j_) ∧ (cdf bb_ S0_ S_) ∧ True) → ((100000 - k_).toNat) < nn_ → sm_T (mt_P sc_) 5 153 (80, [some (.inr (.inr (some (8, 0)))), some (.inr (.inr (some (0, bb_)))), some (.inl a2_), some (.inl a3_), some (.inl k_), none, none], [], S_) (fun ro9_ => ∃ u_ S1_, ro9_ = (.inl u_, S1_, 0) ∧ vq_153 a2_ a3_ bb_ cc_ S0_ u_ S1_)) ∧ (∀ (op_ : Int) (rd_ : Int) (S_ : sm_S), gi S_ → ai_fr (sx_W vw_153) S0_ S_ → ((0 ≤ rd_ ∧ rd_ ≤ 12) ∧ (op_ = -1 ∨ ((0 ≤ op_ ∧ op_ < a2_) ∧ 1 < S_.2.2.1 20 (0 + bb_) op_.toNat ∧ S_.2.2.1 24 (0 + bb_) op_.toNat ≠ 0)) ∧ (S_.2.1 8 0 0 = some bb_) ∧ (rgw S_) ∧ (rpt bb_ S_) ∧ (bst bb_ S_) ∧ (ropn bb_ S_) ∧ (rrw bb_ a2_ (S_.1 8 0 13) (S_.1 8 0 13) S_) ∧ (0 ≤ S_.1 8 0 13 ∧ S_.1 8 0 13 ≤ a2_) ∧ (∀ p_ : Nat, p_ < 4712 → S_.2.2.1 22 (0 + bb_) p_ < a2_) ∧ (cdf bb_ S0_ S_) ∧ True) → ((1000 * (50 - rd_) + 900).toNat) < nn_ → sm_T (mt_P sc_) 5 153 (117, [some (.inr (.inr (some (8, 0)))), some (.inr (.inr (some (0, bb_)))), some (.inl a2_), some (.inl a3_), some (.inl op_), some (.inl rd_), none], [], S_) (fun ro9_ => ∃ u_ S1_, ro9_ = (.inl u_, S1_, 0) ∧ vq_153 a2_ a3_ bb_ cc_ S0_ u_ S1_)) ∧ (∀ (rd_ : Int) (k_ : Int) (S_ : sm_S), gi S_ → ai_fr (sx_W vw_153) S0_ S_ → ((0 ≤ rd_ ∧ rd_ < 12 ∧ 0 ≤ k_ ∧ k_ ≤ 162) ∧ (S_.2.1 8 0 0 = some bb_) ∧ (rgw S_) ∧ (rpt bb_ S_) ∧ (bst bb_ S_) ∧ (ropn bb_ S_) ∧ (rrw bb_ a2_ (S_.1 8 0 13) (S_.1 8 0 13) S_) ∧ (0 ≤ S_.1 8 0 13 ∧ S_.1 8 0 13 ≤ a2_) ∧ (∀ p_ : Nat, p_ < 4712 → S_.2.2.1 22 (0 + bb_) p_ < a2_) ∧ (cdf bb_ S0_ S_) ∧ True) → ((1000 * (50 - rd_) + 800 - k_).toNat) < nn_ → sm_T (mt_P sc_) 5 153 (145, [some (.inr (.inr (some (8, 0)))), some (.inr (.inr (some (0, bb_)))), some (.inl a2_), some (.inl a3_), none, some (.inl rd_), some (.inl k_)], [], S_) (fun ro9_ => ∃ u_ S1_, ro9_ = (.inl u_, S1_, 0) ∧ vq_153 a2_ a3_ bb_ cc_ S0_ u_ S1_)) ∧ (∀ (sm_ : Int) (k_ : Int) (S_ : sm_S), gi S_ → ai_fr (sx_W vw_153) S0_ S_ → ((0 ≤ k_ ∧ k_ ≤ 162 ∧ 0 ≤ sm_ ∧ sm_ ≤ k_) ∧ (S_.2.1 8 0 0 = some bb_) ∧ (bst bb_ S_) ∧ (∀ p_ : Nat, p_ < 4712 → S_.2.2.1 22 (0 + bb_) p_ < a2_) ∧ (cdf bb_ S0_ S_) ∧ True) → ((500 - k_).toNat) < nn_ → sm_T (mt_P sc_) 5 153 (217, [some (.inr (.inr (some (8, 0)))), some (.inr (.inr (some (0, bb_)))), some (.inl a2_), some (.inl a3_), none, some (.inl sm_), some (.inl k_)], [], S_) (fun ro9_ => ∃ u_ S1_, ro9_ = (.inl u_, S1_, 0) ∧ vq_153 a2_ a3_ bb_ cc_ S0_ u_ S1_)) := by
  intro nn_
  induction nn_ with
  | zero => exact ⟨fun _ _ _ _ _ h_ => absurd h_ (Nat.not_lt_zero _), fun _ _ _ _ _ _ h_ => absurd h_ (Nat.not_lt_zero _), fun _ _ _ _ _ _ h_ => absurd h_ (Nat.not_lt_zero _), fun _ _ _ _ _ _ h_ => absurd h_ (Nat.not_lt_zero _)⟩
  | succ nn_ ih_ =>
    refine ⟨?_, ?_, ?_, ?_⟩
    · rintro k_ S_ hI_ hF_ ⟨h0_, htk_, hg_, hp_, hs_, ho_, hw_, hsz_, hxo_, hj_, hC_, -⟩ hm_
      have k20_ : S_.2.2.1 20 (0 + bb_) = S0_.2.2.1 20 (0 + bb_) := fr_arr hF_ rfl
      have cr : 0 ≤ S_.1 8 0 13 ∧ S_.1 8 0 13 ≤ 162 := hI_.1 8 0 13 rfl
      have bx1_ : 0 ≤ S_.1 8 0 13 ∧ S_.1 8 0 13 ≤ 162 := hI_.1 8 0 13 rfl
      refine sm_T_go 3 (c1 := (86, [some (.inr (.inr (some (8, 0)))), some (.inr (.inr (some (0, bb_)))), some (.inl a2_), some (.inl a3_), some (.inl k_), none, none], [.inl (S_.1 8 0 13), .inl k_], S_)) rfl ?_
      refine sm_T_br (a := 3) (z := 22) rfl (fun cx2_ => ?_) (fun cx2_ => ?_)
      · have cx2_ : (S_.1 8 0 13) ≤ k_ := of_decide_eq_true cx2_
        refine sm_T_go 1 (c1 := (109, [some (.inr (.inr (some (8, 0)))), some (.inr (.inr (some (0, bb_)))), some (.inl a2_), some (.inl a3_), some (.inl k_), none, none], [.inr (.inr (some (8, 0)))], S_)) rfl ?_
        refine sm_T_cal (d1 := 0) (Q1 := vq_156 bb_ a2_ S_) rfl rfl (by decide) (vc_156 bb_ a2_ S_ hI_ (by exact htk_) (by omega) (by exact hw_)) (fun u_ Sx3_ px6_ => ?_)
        obtain ⟨rfl, vx8_, rfl, px6_⟩ := px6_
        have f109_ := px6_
        refine sm_T_go 3 (c1 := (117, [some (.inr (.inr (some (8, 0)))), some (.inr (.inr (some (0, bb_)))), some (.inl a2_), some (.inl a3_), some (.inl vx8_), some (.inl 0), none], [], S_)) rfl ?_
        refine ih_.2.1 vx8_ 0 S_ hI_ hF_ ⟨?_, ?_, ?_, ?_, ?_, ?_, ?_, ?_, ?_, ?_, ?_, trivial⟩ ?_
        · omega
        · exact f109_
        · exact htk_
        · exact hg_
        · exact hp_
        · exact hs_
        · exact ho_
        · exact hw_
        · exact hsz_
        · exact hxo_
        · exact hC_
        · omega
      · have cx2_ : ¬ ((S_.1 8 0 13) ≤ k_) := of_decide_eq_false cx2_
        have g9_ := hw_.1 k_.toNat (by omega) (by omega)
        refine sm_T_go 4 (c1 := (96, [some (.inr (.inr (some (8, 0)))), some (.inr (.inr (some (0, bb_)))), some (.inl a2_), some (.inl a3_), some (.inl k_), none, none], [.inl k_, .inr (.inr (some (91, 0))), .inr (.inr (some (8, 0)))], S_)) rfl ?_
        refine sm_T_iald (n := 162) rfl rfl (by omega) (by omega) ?_
        have bx9_ : 0 ≤ S_.2.2.1 91 0 k_.toNat ∧ S_.2.2.1 91 0 k_.toNat ≤ 161 := hI_.2 91 0 _
        refine sm_T_go 1 (c1 := (98, [some (.inr (.inr (some (8, 0)))), some (.inr (.inr (some (0, bb_)))), some (.inl a2_), some (.inl a3_), some (.inl k_), none, none], [.inl 0, .inl (S_.2.2.1 91 0 k_.toNat), .inr (.inr (some (8, 0)))], S_)) rfl ?_
        refine sm_T_cal (d1 := 4) (Q1 := vq_157 (S_.2.2.1 91 0 k_.toNat) 0 bb_ S_) rfl rfl (by decide) (vc_157 (S_.2.2.1 91 0 k_.toNat) 0 bb_ S_ hI_ (by exact htk_) (by exact hg_) (by omega) (by exact bpn_fr hn_ hF_ rfl rfl rfl rfl) (by exact hp_) (by exact hs_) (by exact ho_) (by (intro p_ u9_ w9_; rcases hj_ p_ u9_ with z9_ | ⟨j_, v9_, z9_⟩; (rw [z9_] at w9_; omega); exact hw_.2 j_ k_.toNat (by omega) (by omega) (by omega) (by omega) (by rw [← z9_, w9_]))) (by omega)) (fun u_ Sx10_ px13_ => ?_)
        obtain ⟨vx15_, rfl, hIx11_, hFx12_, px13_⟩ := px13_
        have hFx14_ : ai_fr (sx_W vw_153) S0_ Sx10_ := ai_fr_tr hF_ (fr_le hFx12_ rfl)
        obtain ⟨dx17_, px13_⟩ := px13_
        have hCx16_ : cdf bb_ S0_ Sx10_ := cdf_tr hC_ (cdf_cg (by omega) dx17_)
        have tx18_ : Sx10_.2.1 8 0 0 = some bb_ := (hFx12_.2.1 8 0 0 rfl).trans htk_
        have ex19_ : Sx10_.1 8 0 13 = S_.1 8 0 13 := hFx12_.1 8 0 13 rfl
        have c98_ := px13_
        have g98_ := rgw_fr hg_ hFx12_
        have p98_ := rpt_fr hp_ hFx12_
        have s98_ := hFx12_.1 8 0 13 rfl
        have r98_ : Sx10_.2.2.1 91 0 = S_.2.2.1 91 0 := fr_arr hFx12_ rfl
        have q98_ : Sx10_.2.2.1 20 (0 + bb_) = S_.2.2.1 20 (0 + bb_) := fr_arr hFx12_ rfl
        have w98_ : rrw bb_ a2_ (Sx10_.1 8 0 13) (Sx10_.1 8 0 13) Sx10_ := by (rw [s98_]; exact rrw_up hw_ r98_ q98_ (Int.le_refl _))
        have e98_ := hFx12_.1 8 0 2 rfl
        refine sm_T_go 1 (c1 := (102, [some (.inr (.inr (some (8, 0)))), some (.inr (.inr (some (0, bb_)))), some (.inl a2_), some (.inl a3_), some (.inl k_), none, none], [], Sx10_)) rfl ?_
        refine sm_T_inc (a := 4) (z := 1) (v := k_) (w := k_ + 1) rfl rfl (by omega) (by omega) (by omega) ?_ -- pc_ 102
        refine sm_T_go 1 (c1 := (80, [some (.inr (.inr (some (8, 0)))), some (.inr (.inr (some (0, bb_)))), some (.inl a2_), some (.inl a3_), some (.inl (k_ + 1)), none, none], [], Sx10_)) rfl ?_
        refine ih_.1 (k_ + 1) Sx10_ hIx11_ hFx14_ ⟨?_, ?_, ?_, ?_, ?_, ?_, ?_, ?_, ?_, ?_, ?_, trivial⟩ ?_
        · (rw [s98_]; omega)
        · exact tx18_
        · exact g98_
        · exact p98_
        · exact c98_.2.1
        · exact c98_.2.2.1
        · exact w98_
        · (rw [s98_]; exact hsz_)
        · (intro p_ u_; rcases c98_.2.2.2 p_ with z_ | z_ | z_; (rw [z_]; exact hxo_ p_ u_); (rw [z_]; omega); (rw [z_]; omega))
        · intro p_ u_
          rw [e98_] at u_
          rcases c98_.2.2.2 p_ with z_ | z_ | z_
          · rw [z_]; rcases hj_ p_ u_ with y_ | ⟨j_, y1_, y2_⟩
            · left; exact y_
            · right; exact ⟨j_, by omega, by rw [r98_]; exact y2_⟩
          · left; exact z_
          · right; exact ⟨k_.toNat, by omega, by rw [r98_]; exact z_⟩
        · exact hCx16_
        · omega
    · rintro op_ rd_ S_ hI_ hF_ ⟨h0_, hf_, htk_, hg_, hp_, hs_, ho_, hw_, hsz_, hxo_, hC_, -⟩ hm_
      have k20_ : S_.2.2.1 20 (0 + bb_) = S0_.2.2.1 20 (0 + bb_) := fr_arr hF_ rfl
      have cr : 0 ≤ S_.1 8 0 13 ∧ S_.1 8 0 13 ≤ 162 := hI_.1 8 0 13 rfl
      refine sm_T_go 2 (c1 := (120, [some (.inr (.inr (some (8, 0)))), some (.inr (.inr (some (0, bb_)))), some (.inl a2_), some (.inl a3_), some (.inl op_), some (.inl rd_), none], [.inl a3_, .inl rd_], S_)) rfl ?_
      refine sm_T_br (a := 3) (z := 83) rfl (fun cx1_ => ?_) (fun cx1_ => ?_)
      · have cx1_ : a3_ ≤ rd_ := of_decide_eq_true cx1_
        refine sm_T_go 1 (c1 := (204, [some (.inr (.inr (some (8, 0)))), some (.inr (.inr (some (0, bb_)))), some (.inl a2_), some (.inl a3_), some (.inl op_), some (.inl rd_), none], [.inr (.inr (some (8, 0)))], S_)) rfl ?_
        refine sm_T_gr rfl rfl htk_ ?_
        have hIx2_ : gi (sm_pI S_ 0 bb_ 11 1) := gi_pI hI_ (show 0 ≤ 1 ∧ 1 ≤ 1 from ⟨by omega, by omega⟩)
        have hFx3_ : ai_fr (sx_W vw_153) S0_ (sm_pI S_ 0 bb_ 11 1) := ai_fr_tr hF_ (ai_fr_pI rfl)
        have hCx4_ : cdf bb_ S0_ (sm_pI S_ 0 bb_ 11 1) := cdf_pI hC_ (Or.inr (by rw [show cof 0 = 0 from rfl] <;> omega))
        refine sm_T_go 6 (c1 := (217, [some (.inr (.inr (some (8, 0)))), some (.inr (.inr (some (0, bb_)))), some (.inl a2_), some (.inl a3_), some (.inl op_), some (.inl 0), some (.inl 0)], [], sm_pI S_ 0 bb_ 11 1)) rfl ?_
        refine sm_T_wk [some (.inr (.inr (some (8, 0)))), some (.inr (.inr (some (0, bb_)))), some (.inl a2_), some (.inl a3_), none, some (.inl 0), some (.inl 0)] (by exact ⟨rfl, rfl, rfl, rfl, rfl, rfl, trivial⟩) ?_
        refine ih_.2.2.2 0 0 (sm_pI S_ 0 bb_ 11 1) hIx2_ hFx3_ ⟨?_, ?_, ?_, ?_, ?_, trivial⟩ ?_
        · omega
        · exact htk_
        · first | exact hs_ | (intro p_ u_ w_; exact hs_ p_ u_ w_) | (intro p_ u_ w_; exact c133_.2.1 p_ u_ w_)
        · first | exact hxo_ | (intro p_ u_; exact hxo_ p_ u_) | (intro p_ u_; rcases c133_.2.2.2 p_ with z_ | z_ | z_; (have y_ := hxo_ p_ u_; rw [← z_] at y_; exact y_); (have y_ : (-1 : Int) < a2_ := (by omega); rw [← z_] at y_; exact y_); (have y_ : op_ < a2_ := (by omega); rw [← z_] at y_; exact y_))
        · exact hCx4_
        · omega
      · have cx1_ : ¬ (a3_ ≤ rd_) := of_decide_eq_false cx1_
        refine sm_T_go 2 (c1 := (126, [some (.inr (.inr (some (8, 0)))), some (.inr (.inr (some (0, bb_)))), some (.inl a2_), some (.inl a3_), some (.inl op_), some (.inl rd_), none], [.inl (-1), .inl op_], S_)) rfl ?_
        refine sm_T_br (a := 0) (z := 77) rfl (fun cx5_ => ?_) (fun cx5_ => ?_)
        · have cx5_ : op_ = (-1) := of_decide_eq_true cx5_
          refine sm_T_go 1 (c1 := (204, [some (.inr (.inr (some (8, 0)))), some (.inr (.inr (some (0, bb_)))), some (.inl a2_), some (.inl a3_), some (.inl op_), some (.inl rd_), none], [.inr (.inr (some (8, 0)))], S_)) rfl ?_
          refine sm_T_gr rfl rfl htk_ ?_
          have hIx6_ : gi (sm_pI S_ 0 bb_ 11 1) := gi_pI hI_ (show 0 ≤ 1 ∧ 1 ≤ 1 from ⟨by omega, by omega⟩)
          have hFx7_ : ai_fr (sx_W vw_153) S0_ (sm_pI S_ 0 bb_ 11 1) := ai_fr_tr hF_ (ai_fr_pI rfl)
          have hCx8_ : cdf bb_ S0_ (sm_pI S_ 0 bb_ 11 1) := cdf_pI hC_ (Or.inr (by rw [show cof 0 = 0 from rfl] <;> omega))
          refine sm_T_go 6 (c1 := (217, [some (.inr (.inr (some (8, 0)))), some (.inr (.inr (some (0, bb_)))), some (.inl a2_), some (.inl a3_), some (.inl op_), some (.inl 0), some (.inl 0)], [], sm_pI S_ 0 bb_ 11 1)) rfl ?_
          refine sm_T_wk [some (.inr (.inr (some (8, 0)))), some (.inr (.inr (some (0, bb_)))), some (.inl a2_), some (.inl a3_), none, some (.inl 0), some (.inl 0)] (by exact ⟨rfl, rfl, rfl, rfl, rfl, rfl, trivial⟩) ?_
          refine ih_.2.2.2 0 0 (sm_pI S_ 0 bb_ 11 1) hIx6_ hFx7_ ⟨?_, ?_, ?_, ?_, ?_, trivial⟩ ?_
          · omega
          · exact htk_
          · first | exact hs_ | (intro p_ u_ w_; exact hs_ p_ u_ w_) | (intro p_ u_ w_; exact c133_.2.1 p_ u_ w_)
          · first | exact hxo_ | (intro p_ u_; exact hxo_ p_ u_) | (intro p_ u_; rcases c133_.2.2.2 p_ with z_ | z_ | z_; (have y_ := hxo_ p_ u_; rw [← z_] at y_; exact y_); (have y_ : (-1 : Int) < a2_ := (by omega); rw [← z_] at y_; exact y_); (have y_ : op_ < a2_ := (by omega); rw [← z_] at y_; exact y_))
          · exact hCx8_
          · omega
        · have cx5_ : ¬ (op_ = (-1)) := of_decide_eq_false cx5_
          refine sm_T_go 3 (c1 := (133, [some (.inr (.inr (some (8, 0)))), some (.inr (.inr (some (0, bb_)))), some (.inl a2_), some (.inl a3_), some (.inl op_), some (.inl rd_), none], [.inl 1, .inl op_, .inr (.inr (some (8, 0)))], S_)) rfl ?_
          refine sm_T_cal (d1 := 4) (Q1 := vq_157 op_ 1 bb_ S_) rfl rfl (by decide) (vc_157 op_ 1 bb_ S_ hI_ (by exact htk_) (by exact hg_) (by omega) (by exact bpn_fr hn_ hF_ rfl rfl rfl rfl) (by exact hp_) (by exact hs_) (by exact ho_) (by (intro p_ u9_ w9_; rcases hf_ with z9_ | z9_; omega; exact ho_ op_.toNat (by omega) z9_.2.2 p_ u9_ (by omega))) (by omega)) (fun u_ Sx9_ px12_ => ?_)
          obtain ⟨vx14_, rfl, hIx10_, hFx11_, px12_⟩ := px12_
          have hFx13_ : ai_fr (sx_W vw_153) S0_ Sx9_ := ai_fr_tr hF_ (fr_le hFx11_ rfl)
          obtain ⟨dx16_, px12_⟩ := px12_
          have hCx15_ : cdf bb_ S0_ Sx9_ := cdf_tr hC_ (cdf_cg (by omega) dx16_)
          have tx17_ : Sx9_.2.1 8 0 0 = some bb_ := (hFx11_.2.1 8 0 0 rfl).trans htk_
          have c133_ := px12_
          have g133_ := rgw_fr hg_ hFx11_
          have p133_ := rpt_fr hp_ hFx11_
          have s133_ := hFx11_.1 8 0 13 rfl
          have r133_ : Sx9_.2.2.1 91 0 = S_.2.2.1 91 0 := fr_arr hFx11_ rfl
          have q133_ : Sx9_.2.2.1 20 (0 + bb_) = S_.2.2.1 20 (0 + bb_) := fr_arr hFx11_ rfl
          have w133_ : rrw bb_ a2_ (Sx9_.1 8 0 13) (Sx9_.1 8 0 13) Sx9_ := by (rw [s133_]; exact rrw_up hw_ r133_ q133_ (Int.le_refl _))
          have e133_ := hFx11_.1 8 0 2 rfl
          refine sm_T_b0 (a := 1) (z := 6) rfl (fun cx18_ => ?_) (fun cx18_ => ?_)
          · have cx18_ : vx14_ ≠ 0 := of_decide_eq_true cx18_
            refine sm_T_go 2 (c1 := (145, [some (.inr (.inr (some (8, 0)))), some (.inr (.inr (some (0, bb_)))), some (.inl a2_), some (.inl a3_), some (.inl op_), some (.inl rd_), some (.inl 0)], [], Sx9_)) rfl ?_
            refine sm_T_wk [some (.inr (.inr (some (8, 0)))), some (.inr (.inr (some (0, bb_)))), some (.inl a2_), some (.inl a3_), none, some (.inl rd_), some (.inl 0)] (by exact ⟨rfl, rfl, rfl, rfl, rfl, rfl, trivial⟩) ?_
            refine ih_.2.2.1 rd_ 0 Sx9_ hIx10_ hFx13_ ⟨?_, ?_, ?_, ?_, ?_, ?_, ?_, ?_, ?_, ?_, trivial⟩ ?_
            · omega
            · exact tx17_
            · exact g133_
            · exact p133_
            · exact c133_.2.1
            · exact c133_.2.2.1
            · exact w133_
            · (rw [s133_]; exact hsz_)
            · (intro p_ u_; rcases c133_.2.2.2 p_ with z_ | z_ | z_; (rw [z_]; exact hxo_ p_ u_); (rw [z_]; omega); (rw [z_]; omega))
            · exact hCx15_
            · omega
          · have cx18_ : ¬ (vx14_ ≠ 0) := of_decide_eq_false cx18_
            refine sm_T_go 2 (c1 := (204, [some (.inr (.inr (some (8, 0)))), some (.inr (.inr (some (0, bb_)))), some (.inl a2_), some (.inl a3_), some (.inl op_), some (.inl rd_), none], [.inr (.inr (some (8, 0)))], Sx9_)) rfl ?_
            refine sm_T_gr rfl rfl tx17_ ?_
            have hIx19_ : gi (sm_pI Sx9_ 0 bb_ 11 1) := gi_pI hIx10_ (show 0 ≤ 1 ∧ 1 ≤ 1 from ⟨by omega, by omega⟩)
            have hFx20_ : ai_fr (sx_W vw_153) S0_ (sm_pI Sx9_ 0 bb_ 11 1) := ai_fr_tr hFx13_ (ai_fr_pI rfl)
            have hCx21_ : cdf bb_ S0_ (sm_pI Sx9_ 0 bb_ 11 1) := cdf_pI hCx15_ (Or.inr (by rw [show cof 0 = 0 from rfl] <;> omega))
            refine sm_T_go 6 (c1 := (217, [some (.inr (.inr (some (8, 0)))), some (.inr (.inr (some (0, bb_)))), some (.inl a2_), some (.inl a3_), some (.inl op_), some (.inl 0), some (.inl 0)], [], sm_pI Sx9_ 0 bb_ 11 1)) rfl ?_
            refine sm_T_wk [some (.inr (.inr (some (8, 0)))), some (.inr (.inr (some (0, bb_)))), some (.inl a2_), some (.inl a3_), none, some (.inl 0), some (.inl 0)] (by exact ⟨rfl, rfl, rfl, rfl, rfl, rfl, trivial⟩) ?_
            refine ih_.2.2.2 0 0 (sm_pI Sx9_ 0 bb_ 11 1) hIx19_ hFx20_ ⟨?_, ?_, ?_, ?_, ?_, trivial⟩ ?_
            · omega
            · exact tx17_
            · first | exact hs_ | (intro p_ u_ w_; exact hs_ p_ u_ w_) | (intro p_ u_ w_; exact c133_.2.1 p_ u_ w_)
            · first | exact hxo_ | (intro p_ u_; exact hxo_ p_ u_) | (intro p_ u_; rcases c133_.2.2.2 p_ with z_ | z_ | z_; (have y_ := hxo_ p_ u_; rw [← z_] at y_; exact y_); (have y_ : (-1 : Int) < a2_ := (by omega); rw [← z_] at y_; exact y_); (have y_ : op_ < a2_ := (by omega); rw [← z_] at y_; exact y_))
            · exact hCx21_
            · omega
    · rintro rd_ k_ S_ hI_ hF_ ⟨h0_, htk_, hg_, hp_, hs_, ho_, hw_, hsz_, hxo_, hC_, -⟩ hm_
      have k20_ : S_.2.2.1 20 (0 + bb_) = S0_.2.2.1 20 (0 + bb_) := fr_arr hF_ rfl
      have cr : 0 ≤ S_.1 8 0 13 ∧ S_.1 8 0 13 ≤ 162 := hI_.1 8 0 13 rfl
      have bx1_ : 0 ≤ S_.1 8 0 13 ∧ S_.1 8 0 13 ≤ 162 := hI_.1 8 0 13 rfl
      refine sm_T_go 3 (c1 := (151, [some (.inr (.inr (some (8, 0)))), some (.inr (.inr (some (0, bb_)))), some (.inl a2_), some (.inl a3_), none, some (.inl rd_), some (.inl k_)], [.inl (S_.1 8 0 13), .inl k_], S_)) rfl ?_
      refine sm_T_br (a := 3) (z := 40) rfl (fun cx2_ => ?_) (fun cx2_ => ?_)
      · have cx2_ : (S_.1 8 0 13) ≤ k_ := of_decide_eq_true cx2_
        refine sm_T_go 1 (c1 := (192, [some (.inr (.inr (some (8, 0)))), some (.inr (.inr (some (0, bb_)))), some (.inl a2_), some (.inl a3_), none, some (.inl rd_), some (.inl k_)], [.inr (.inr (some (8, 0)))], S_)) rfl ?_
        refine sm_T_cal (d1 := 0) (Q1 := vq_156 bb_ a2_ S_) rfl rfl (by decide) (vc_156 bb_ a2_ S_ hI_ (by exact htk_) (by omega) (by exact hw_)) (fun u_ Sx3_ px6_ => ?_)
        obtain ⟨rfl, vx8_, rfl, px6_⟩ := px6_
        have f192_ := px6_
        refine sm_T_go 1 (c1 := (197, [some (.inr (.inr (some (8, 0)))), some (.inr (.inr (some (0, bb_)))), some (.inl a2_), some (.inl a3_), some (.inl vx8_), some (.inl rd_), some (.inl k_)], [], S_)) rfl ?_
        refine sm_T_inc (a := 5) (z := 1) (v := rd_) (w := rd_ + 1) rfl rfl (by omega) (by omega) (by omega) ?_ -- pc_ 197
        refine sm_T_go 1 (c1 := (117, [some (.inr (.inr (some (8, 0)))), some (.inr (.inr (some (0, bb_)))), some (.inl a2_), some (.inl a3_), some (.inl vx8_), some (.inl (rd_ + 1)), some (.inl k_)], [], S_)) rfl ?_
        refine sm_T_wk [some (.inr (.inr (some (8, 0)))), some (.inr (.inr (some (0, bb_)))), some (.inl a2_), some (.inl a3_), some (.inl vx8_), some (.inl (rd_ + 1)), none] (by exact ⟨rfl, rfl, rfl, rfl, rfl, rfl, trivial⟩) ?_
        refine ih_.2.1 vx8_ (rd_ + 1) S_ hI_ hF_ ⟨?_, ?_, ?_, ?_, ?_, ?_, ?_, ?_, ?_, ?_, ?_, trivial⟩ ?_
        · omega
        · exact f192_
        · exact htk_
        · exact hg_
        · exact hp_
        · exact hs_
        · exact ho_
        · exact hw_
        · exact hsz_
        · exact hxo_
        · exact hC_
        · omega
      · have cx2_ : ¬ ((S_.1 8 0 13) ≤ k_) := of_decide_eq_false cx2_
        have g8_ := hw_.1 k_.toNat (by omega) (by omega)
        refine sm_T_go 1 (c1 := (155, [some (.inr (.inr (some (8, 0)))), some (.inr (.inr (some (0, bb_)))), some (.inl a2_), some (.inl a3_), none, some (.inl rd_), some (.inl k_)], [.inr (.inr (some (8, 0)))], S_)) rfl ?_
        refine sm_T_gr rfl rfl htk_ ?_
        refine sm_T_go 4 (c1 := (167, [some (.inr (.inr (some (8, 0)))), some (.inr (.inr (some (0, bb_)))), some (.inl a2_), some (.inl a3_), none, some (.inl rd_), some (.inl k_)], [.inl k_, .inr (.inr (some (91, 0))), .inr (.inr (some (24, (0 + bb_))))], S_)) rfl ?_
        refine sm_T_iald (n := 162) rfl rfl (by omega) (by omega) ?_
        have bx9_ : 0 ≤ S_.2.2.1 91 0 k_.toNat ∧ S_.2.2.1 91 0 k_.toNat ≤ 161 := hI_.2 91 0 _
        refine sm_T_iald (n := 162) rfl rfl (by omega) (by omega) ?_
        have bx10_ : 0 ≤ S_.2.2.1 24 (0 + bb_) (S_.2.2.1 91 0 k_.toNat).toNat ∧ S_.2.2.1 24 (0 + bb_) (S_.2.2.1 91 0 k_.toNat).toNat ≤ 1 := hI_.2 24 (0 + bb_) _
        refine sm_T_b0 (a := 0) (z := 16) rfl (fun cx11_ => ?_) (fun cx11_ => ?_)
        · have cx11_ : (S_.2.2.1 24 (0 + bb_) (S_.2.2.1 91 0 k_.toNat).toNat) = 0 := of_decide_eq_true cx11_
          refine sm_T_inc (a := 6) (z := 1) (v := k_) (w := k_ + 1) rfl rfl (by omega) (by omega) (by omega) ?_ -- pc_ 185
          refine sm_T_go 1 (c1 := (145, [some (.inr (.inr (some (8, 0)))), some (.inr (.inr (some (0, bb_)))), some (.inl a2_), some (.inl a3_), none, some (.inl rd_), some (.inl (k_ + 1))], [], S_)) rfl ?_
          refine ih_.2.2.1 rd_ (k_ + 1) S_ hI_ hF_ ⟨?_, ?_, ?_, ?_, ?_, ?_, ?_, ?_, ?_, ?_, trivial⟩ ?_
          · omega
          · first | exact htk_ | exact htk_
          · first | exact hg_ | exact g181_
          · first | exact hp_ | exact p181_
          · first | exact hs_ | exact c181_.2.1
          · first | exact ho_ | exact c181_.2.2.1
          · first | exact hw_ | exact w181_
          · first | exact hsz_ | (rw [s181_]; exact hsz_)
          · first | exact hxo_ | (intro p_ u_; rcases c181_.2.2.2 p_ with z_ | z_ | z_; (rw [z_]; exact hxo_ p_ u_); (rw [z_]; omega); (rw [z_]; omega))
          · exact hC_
          · omega
        · have cx11_ : ¬ ((S_.2.2.1 24 (0 + bb_) (S_.2.2.1 91 0 k_.toNat).toNat) = 0) := of_decide_eq_false cx11_
          have g9_ := hw_.1 k_.toNat (by omega) (by omega)
          refine sm_T_go 4 (c1 := (179, [some (.inr (.inr (some (8, 0)))), some (.inr (.inr (some (0, bb_)))), some (.inl a2_), some (.inl a3_), none, some (.inl rd_), some (.inl k_)], [.inl k_, .inr (.inr (some (91, 0))), .inr (.inr (some (8, 0)))], S_)) rfl ?_
          refine sm_T_iald (n := 162) rfl rfl (by omega) (by omega) ?_
          refine sm_T_go 1 (c1 := (181, [some (.inr (.inr (some (8, 0)))), some (.inr (.inr (some (0, bb_)))), some (.inl a2_), some (.inl a3_), none, some (.inl rd_), some (.inl k_)], [.inl 0, .inl (S_.2.2.1 91 0 k_.toNat), .inr (.inr (some (8, 0)))], S_)) rfl ?_
          refine sm_T_cal (d1 := 4) (Q1 := vq_157 (S_.2.2.1 91 0 k_.toNat) 0 bb_ S_) rfl rfl (by decide) (vc_157 (S_.2.2.1 91 0 k_.toNat) 0 bb_ S_ hI_ (by exact htk_) (by exact hg_) (by omega) (by exact bpn_fr hn_ hF_ rfl rfl rfl rfl) (by exact hp_) (by exact hs_) (by exact ho_) (by (intro p_ u9_ w9_; exact ho_ (S_.2.2.1 91 0 k_.toNat).toNat (by omega) (by omega) p_ u9_ (by omega))) (by omega)) (fun u_ Sx12_ px15_ => ?_)
          obtain ⟨vx17_, rfl, hIx13_, hFx14_, px15_⟩ := px15_
          have hFx16_ : ai_fr (sx_W vw_153) S0_ Sx12_ := ai_fr_tr hF_ (fr_le hFx14_ rfl)
          obtain ⟨dx19_, px15_⟩ := px15_
          have hCx18_ : cdf bb_ S0_ Sx12_ := cdf_tr hC_ (cdf_cg (by omega) dx19_)
          have tx20_ : Sx12_.2.1 8 0 0 = some bb_ := (hFx14_.2.1 8 0 0 rfl).trans htk_
          have ex21_ : Sx12_.1 8 0 13 = S_.1 8 0 13 := hFx14_.1 8 0 13 rfl
          have c181_ := px15_
          have g181_ := rgw_fr hg_ hFx14_
          have p181_ := rpt_fr hp_ hFx14_
          have s181_ := hFx14_.1 8 0 13 rfl
          have r181_ : Sx12_.2.2.1 91 0 = S_.2.2.1 91 0 := fr_arr hFx14_ rfl
          have q181_ : Sx12_.2.2.1 20 (0 + bb_) = S_.2.2.1 20 (0 + bb_) := fr_arr hFx14_ rfl
          have w181_ : rrw bb_ a2_ (Sx12_.1 8 0 13) (Sx12_.1 8 0 13) Sx12_ := by (rw [s181_]; exact rrw_up hw_ r181_ q181_ (Int.le_refl _))
          have e181_ := hFx14_.1 8 0 2 rfl
          refine sm_T_go 1 (c1 := (185, [some (.inr (.inr (some (8, 0)))), some (.inr (.inr (some (0, bb_)))), some (.inl a2_), some (.inl a3_), none, some (.inl rd_), some (.inl k_)], [], Sx12_)) rfl ?_
          refine sm_T_inc (a := 6) (z := 1) (v := k_) (w := k_ + 1) rfl rfl (by omega) (by omega) (by omega) ?_ -- pc_ 185
          refine sm_T_go 1 (c1 := (145, [some (.inr (.inr (some (8, 0)))), some (.inr (.inr (some (0, bb_)))), some (.inl a2_), some (.inl a3_), none, some (.inl rd_), some (.inl (k_ + 1))], [], Sx12_)) rfl ?_
          refine ih_.2.2.1 rd_ (k_ + 1) Sx12_ hIx13_ hFx16_ ⟨?_, ?_, ?_, ?_, ?_, ?_, ?_, ?_, ?_, ?_, trivial⟩ ?_
          · omega
          · first | exact tx20_ | exact tx20_
          · first | exact hg_ | exact g181_
          · first | exact hp_ | exact p181_
          · first | exact hs_ | exact c181_.2.1
          · first | exact ho_ | exact c181_.2.2.1
          · first | exact hw_ | exact w181_
          · first | exact hsz_ | (rw [s181_]; exact hsz_)
          · first | exact hxo_ | (intro p_ u_; rcases c181_.2.2.2 p_ with z_ | z_ | z_; (rw [z_]; exact hxo_ p_ u_); (rw [z_]; omega); (rw [z_]; omega))
          · exact hCx18_
          · omega
    · rintro sm_ k_ S_ hI_ hF_ ⟨h0_, htk_, hs_, hxo_, hC_, -⟩ hm_
      refine sm_T_go 2 (c1 := (220, [some (.inr (.inr (some (8, 0)))), some (.inr (.inr (some (0, bb_)))), some (.inl a2_), some (.inl a3_), none, some (.inl sm_), some (.inl k_)], [.inl a2_, .inl k_], S_)) rfl ?_
      refine sm_T_br (a := 3) (z := 24) rfl (fun cx1_ => ?_) (fun cx1_ => ?_)
      · have cx1_ : a2_ ≤ k_ := of_decide_eq_true cx1_
        refine sm_T_go 1 (c1 := (246, [some (.inr (.inr (some (8, 0)))), some (.inr (.inr (some (0, bb_)))), some (.inl a2_), some (.inl a3_), none, some (.inl sm_), some (.inl k_)], [.inl sm_], S_)) rfl ?_
        refine sm_T_ri rfl ⟨_, _, rfl, _, rfl, hI_, hF_, ?_⟩
        refine ⟨hC_, ?_⟩
        exact ⟨hs_, hxo_⟩
      · have cx1_ : ¬ (a2_ ≤ k_) := of_decide_eq_false cx1_
        refine sm_T_go 2 (c1 := (226, [some (.inr (.inr (some (8, 0)))), some (.inr (.inr (some (0, bb_)))), some (.inl a2_), some (.inl a3_), none, some (.inl sm_), some (.inl k_)], [.inr (.inr (some (8, 0))), .inl sm_], S_)) rfl ?_
        refine sm_T_gr rfl rfl htk_ ?_
        refine sm_T_go 2 (c1 := (234, [some (.inr (.inr (some (8, 0)))), some (.inr (.inr (some (0, bb_)))), some (.inl a2_), some (.inl a3_), none, some (.inl sm_), some (.inl k_)], [.inl k_, .inr (.inr (some (24, (0 + bb_)))), .inl sm_], S_)) rfl ?_
        refine sm_T_iald (n := 162) rfl rfl (by omega) (by omega) ?_
        have bx2_ : 0 ≤ S_.2.2.1 24 (0 + bb_) k_.toNat ∧ S_.2.2.1 24 (0 + bb_) k_.toNat ≤ 1 := hI_.2 24 (0 + bb_) _
        refine sm_T_bin (w := sm_ + (S_.2.2.1 24 (0 + bb_) k_.toNat)) rfl (bi_add (by omega) (by omega) (by omega)) ?_ -- pc_ 235
        refine sm_T_go 1 (c1 := (238, [some (.inr (.inr (some (8, 0)))), some (.inr (.inr (some (0, bb_)))), some (.inl a2_), some (.inl a3_), none, some (.inl (sm_ + (S_.2.2.1 24 (0 + bb_) k_.toNat))), some (.inl k_)], [], S_)) rfl ?_
        refine sm_T_inc (a := 6) (z := 1) (v := k_) (w := k_ + 1) rfl rfl (by omega) (by omega) (by omega) ?_ -- pc_ 238
        refine sm_T_go 1 (c1 := (217, [some (.inr (.inr (some (8, 0)))), some (.inr (.inr (some (0, bb_)))), some (.inl a2_), some (.inl a3_), none, some (.inl (sm_ + (S_.2.2.1 24 (0 + bb_) k_.toNat))), some (.inl (k_ + 1))], [], S_)) rfl ?_
        refine ih_.2.2.2 (sm_ + (S_.2.2.1 24 (0 + bb_) k_.toNat)) (k_ + 1) S_ hI_ hF_ ⟨?_, ?_, ?_, ?_, ?_, trivial⟩ ?_
        · omega
        · exact htk_
        · exact hs_
        · exact hxo_
        · exact hC_
        · omega
set_option maxHeartbeats 4000000 in
set_option maxRecDepth 20000 in
theorem vc_153 {sc_ : Nat × (Nat → Int)} (a2_ : Int) (a3_ : Int) (bb_ : Nat) (cc_ : Nat) (S0_ : sm_S) (hI_ : gi S0_) (h2_ : 0 ≤ a2_ ∧ a2_ ≤ 162) (h3_ : 0 ≤ a3_ ∧ a3_ ≤ 12) (hn_ : bpn bb_ S0_) (hl_ : bpl bb_ cc_ S0_) (hpp_ : bpp bb_ cc_ S0_) (hr_ : 0 < S0_.1 0 bb_ 1) : sm_T (mt_P sc_) 5 153 (0, [some (.inr (.inr (some (8, 0)))), some (.inr (.inr (some (0, bb_)))), some (.inl a2_), some (.inl a3_), none, none, none], [], S0_) (fun ro9_ => ∃ u_ S1_, ro9_ = (.inl u_, S1_, 0) ∧ vq_153 a2_ a3_ bb_ cc_ S0_ u_ S1_) := by
  have hF_ : ai_fr (sx_W vw_153) S0_ S0_ := ai_fr_rf
  have hC_ : cdf bb_ S0_ S0_ := cdf_rf
  have cs_ : 0 ≤ S0_.1 0 bb_ 0 ∧ S0_.1 0 bb_ 0 ≤ 60 := hI_.1 0 bb_ 0 rfl
  have ch_ : 0 ≤ S0_.1 0 bb_ 2 ∧ S0_.1 0 bb_ 2 ≤ 38 := hI_.1 0 bb_ 2 rfl
  have l9_ := (hl_ hr_).1
  have hIx1_ : gi (sm_pR S0_ 8 0 0 (some bb_)) := gi_pR hI_
  have hFx2_ : ai_fr (sx_W vw_153) S0_ (sm_pR S0_ 8 0 0 (some bb_)) := ai_fr_tr hF_ (ai_fr_pR rfl)
  have tx3_ : (sm_pR S0_ 8 0 0 (some bb_)).2.1 8 0 0 = some bb_ := (sm_up_self (f := S0_.2.1) (t := 8) (i := 0) (k := 0) (v := some bb_))
  have hCx4_ : cdf bb_ S0_ (sm_pR S0_ 8 0 0 (some bb_)) := cdf_pR hC_
  refine sm_T_go 5 (c1 := (7, [some (.inr (.inr (some (8, 0)))), some (.inr (.inr (some (0, bb_)))), some (.inl a2_), some (.inl a3_), none, none, none], [.inr (.inr (some (8, 0))), .inr (.inr (some (8, 0)))], sm_pR S0_ 8 0 0 (some bb_))) rfl ?_
  refine sm_T_gr rfl rfl tx3_ ?_
  have bx5_ : 0 ≤ S0_.1 0 bb_ 0 ∧ S0_.1 0 bb_ 0 ≤ 60 := hI_.1 0 bb_ 0 rfl
  refine sm_T_go 2 (c1 := (14, [some (.inr (.inr (some (8, 0)))), some (.inr (.inr (some (0, bb_)))), some (.inl a2_), some (.inl a3_), none, none, none], [.inl 2, .inl (S0_.1 0 bb_ 0), .inr (.inr (some (8, 0)))], sm_pR S0_ 8 0 0 (some bb_))) rfl ?_
  refine sm_T_bin (w := (S0_.1 0 bb_ 0) + 2) rfl (bi_add (by omega) (by omega) (by omega)) ?_ -- pc_ 14
  have hIx6_ : gi (sm_pI (sm_pR S0_ 8 0 0 (some bb_)) 8 0 1 ((S0_.1 0 bb_ 0) + 2)) := gi_pI hIx1_ (show 0 ≤ (S0_.1 0 bb_ 0) + 2 ∧ (S0_.1 0 bb_ 0) + 2 ≤ 62 from ⟨by omega, by omega⟩)
  have hFx7_ : ai_fr (sx_W vw_153) S0_ (sm_pI (sm_pR S0_ 8 0 0 (some bb_)) 8 0 1 ((S0_.1 0 bb_ 0) + 2)) := ai_fr_tr hFx2_ (ai_fr_pI rfl)
  have hCx8_ : cdf bb_ S0_ (sm_pI (sm_pR S0_ 8 0 0 (some bb_)) 8 0 1 ((S0_.1 0 bb_ 0) + 2)) := cdf_pI hCx4_ (Or.inl rfl)
  refine sm_T_go 3 (c1 := (20, [some (.inr (.inr (some (8, 0)))), some (.inr (.inr (some (0, bb_)))), some (.inl a2_), some (.inl a3_), none, none, none], [.inr (.inr (some (8, 0))), .inr (.inr (some (8, 0)))], sm_pI (sm_pR S0_ 8 0 0 (some bb_)) 8 0 1 ((S0_.1 0 bb_ 0) + 2))) rfl ?_
  refine sm_T_gr rfl rfl tx3_ ?_
  have bx9_ : 0 ≤ S0_.1 0 bb_ 2 ∧ S0_.1 0 bb_ 2 ≤ 38 := hI_.1 0 bb_ 2 rfl
  refine sm_T_go 3 (c1 := (30, [some (.inr (.inr (some (8, 0)))), some (.inr (.inr (some (0, bb_)))), some (.inl a2_), some (.inl a3_), none, none, none], [.inl ((S0_.1 0 bb_ 0) + 2), .inl (S0_.1 0 bb_ 2), .inr (.inr (some (8, 0)))], sm_pI (sm_pR S0_ 8 0 0 (some bb_)) 8 0 1 ((S0_.1 0 bb_ 0) + 2))) rfl ?_
  have bx10_ := mul_b (x_ := (S0_.1 0 bb_ 2)) (y_ := ((S0_.1 0 bb_ 0) + 2)) (X_ := 38) (Y_ := 62) (Z_ := 2356) (by omega) (by omega) (by decide)
  refine sm_T_bin (w := ((S0_.1 0 bb_ 2) * ((S0_.1 0 bb_ 0) + 2))) rfl (bi_mul rfl (by omega) (by omega)) ?_ -- pc_ 30
  have hIx11_ : gi (sm_pI (sm_pI (sm_pR S0_ 8 0 0 (some bb_)) 8 0 1 ((S0_.1 0 bb_ 0) + 2)) 8 0 2 ((S0_.1 0 bb_ 2) * ((S0_.1 0 bb_ 0) + 2))) := gi_pI hIx6_ (show 0 ≤ ((S0_.1 0 bb_ 2) * ((S0_.1 0 bb_ 0) + 2)) ∧ ((S0_.1 0 bb_ 2) * ((S0_.1 0 bb_ 0) + 2)) ≤ 2356 from ⟨by omega, by omega⟩)
  have hFx12_ : ai_fr (sx_W vw_153) S0_ (sm_pI (sm_pI (sm_pR S0_ 8 0 0 (some bb_)) 8 0 1 ((S0_.1 0 bb_ 0) + 2)) 8 0 2 ((S0_.1 0 bb_ 2) * ((S0_.1 0 bb_ 0) + 2))) := ai_fr_tr hFx7_ (ai_fr_pI rfl)
  have hCx13_ : cdf bb_ S0_ (sm_pI (sm_pI (sm_pR S0_ 8 0 0 (some bb_)) 8 0 1 ((S0_.1 0 bb_ 0) + 2)) 8 0 2 ((S0_.1 0 bb_ 2) * ((S0_.1 0 bb_ 0) + 2))) := cdf_pI hCx8_ (Or.inl rfl)
  refine sm_T_go 2 (c1 := (35, [some (.inr (.inr (some (8, 0)))), some (.inr (.inr (some (0, bb_)))), some (.inl a2_), some (.inl a3_), none, none, none], [.inr (.inr (some (8, 0)))], sm_pI (sm_pI (sm_pR S0_ 8 0 0 (some bb_)) 8 0 1 ((S0_.1 0 bb_ 0) + 2)) 8 0 2 ((S0_.1 0 bb_ 2) * ((S0_.1 0 bb_ 0) + 2)))) rfl ?_
  refine sm_T_gr rfl rfl tx3_ ?_
  refine sm_T_go 2 (c1 := (42, [some (.inr (.inr (some (8, 0)))), some (.inr (.inr (some (0, bb_)))), some (.inl a2_), some (.inl a3_), none, none, none], [.inl (-1), .inr (.inr (some (22, (0 + bb_))))], sm_pI (sm_pI (sm_pR S0_ 8 0 0 (some bb_)) 8 0 1 ((S0_.1 0 bb_ 0) + 2)) 8 0 2 ((S0_.1 0 bb_ 2) * ((S0_.1 0 bb_ 0) + 2)))) rfl ?_
  refine sm_T_cal (d1 := 0) (Q1 := vq_2o2 (-1) bb_ (sm_pI (sm_pI (sm_pR S0_ 8 0 0 (some bb_)) 8 0 1 ((S0_.1 0 bb_ 0) + 2)) 8 0 2 ((S0_.1 0 bb_ 2) * ((S0_.1 0 bb_ 0) + 2)))) rfl rfl (by decide) (vc_2o2 (-1) bb_ (sm_pI (sm_pI (sm_pR S0_ 8 0 0 (some bb_)) 8 0 1 ((S0_.1 0 bb_ 0) + 2)) 8 0 2 ((S0_.1 0 bb_ 2) * ((S0_.1 0 bb_ 0) + 2))) hIx11_ (by decide)) (fun u_ Sx14_ px17_ => ?_)
  obtain ⟨rfl, hIx15_, hFx16_, px17_⟩ := px17_
  have hFx18_ : ai_fr (sx_W vw_153) S0_ Sx14_ := ai_fr_tr hFx12_ (fr_le hFx16_ rfl)
  obtain ⟨dx20_, px17_⟩ := px17_
  have hCx19_ : cdf bb_ S0_ Sx14_ := cdf_tr hCx13_ (cdf_cg (by omega) dx20_)
  have tx21_ : Sx14_.2.1 8 0 0 = some bb_ := (hFx16_.2.1 8 0 0 rfl).trans tx3_
  have e42_ := px17_
  have x42_ : Sx14_.1 8 0 1 = S0_.1 0 bb_ 0 + 2 := hFx16_.1 8 0 1 rfl
  have y42_ : Sx14_.1 8 0 2 = S0_.1 0 bb_ 2 * (S0_.1 0 bb_ 0 + 2) := hFx16_.1 8 0 2 rfl
  refine sm_T_go 1 (c1 := (46, [some (.inr (.inr (some (8, 0)))), some (.inr (.inr (some (0, bb_)))), some (.inl a2_), some (.inl a3_), none, none, none], [.inr (.inr (some (8, 0)))], Sx14_)) rfl ?_
  refine sm_T_gr rfl rfl tx21_ ?_
  refine sm_T_go 2 (c1 := (53, [some (.inr (.inr (some (8, 0)))), some (.inr (.inr (some (0, bb_)))), some (.inl a2_), some (.inl a3_), none, none, none], [.inl 0, .inr (.inr (some (23, (0 + bb_))))], Sx14_)) rfl ?_
  refine sm_T_cal (d1 := 0) (Q1 := vq_2o3 0 bb_ Sx14_) rfl rfl (by decide) (vc_2o3 0 bb_ Sx14_ hIx15_ (by decide)) (fun u_ Sx22_ px25_ => ?_)
  obtain ⟨rfl, hIx23_, hFx24_, px25_⟩ := px25_
  have hFx26_ : ai_fr (sx_W vw_153) S0_ Sx22_ := ai_fr_tr hFx18_ (fr_le hFx24_ rfl)
  obtain ⟨dx28_, px25_⟩ := px25_
  have hCx27_ : cdf bb_ S0_ Sx22_ := cdf_tr hCx19_ (cdf_cg (by omega) dx28_)
  have tx29_ : Sx22_.2.1 8 0 0 = some bb_ := (hFx24_.2.1 8 0 0 rfl).trans tx21_
  have e53_ := px25_
  have o53_ := hFx24_.2.2 22 rfl (0 + bb_)
  have x53_ := hFx24_.1 8 0 1 rfl
  have y53_ := hFx24_.1 8 0 2 rfl
  refine sm_T_go 1 (c1 := (57, [some (.inr (.inr (some (8, 0)))), some (.inr (.inr (some (0, bb_)))), some (.inl a2_), some (.inl a3_), none, none, none], [.inr (.inr (some (8, 0)))], Sx22_)) rfl ?_
  refine sm_T_gr rfl rfl tx29_ ?_
  refine sm_T_go 2 (c1 := (64, [some (.inr (.inr (some (8, 0)))), some (.inr (.inr (some (0, bb_)))), some (.inl a2_), some (.inl a3_), none, none, none], [.inl 0, .inr (.inr (some (24, (0 + bb_))))], Sx22_)) rfl ?_
  refine sm_T_cal (d1 := 0) (Q1 := vq_2o4 0 bb_ Sx22_) rfl rfl (by decide) (vc_2o4 0 bb_ Sx22_ hIx23_ (by decide)) (fun u_ Sx30_ px33_ => ?_)
  obtain ⟨rfl, hIx31_, hFx32_, px33_⟩ := px33_
  have hFx34_ : ai_fr (sx_W vw_153) S0_ Sx30_ := ai_fr_tr hFx26_ (fr_le hFx32_ rfl)
  obtain ⟨dx36_, px33_⟩ := px33_
  have hCx35_ : cdf bb_ S0_ Sx30_ := cdf_tr hCx27_ (cdf_cg (by omega) dx36_)
  have tx37_ : Sx30_.2.1 8 0 0 = some bb_ := (hFx32_.2.1 8 0 0 rfl).trans tx29_
  have e64_ := px33_
  have o64_ := hFx32_.2.2 22 rfl (0 + bb_)
  have s64_ := hFx32_.2.2 23 rfl (0 + bb_)
  have x64_ := hFx32_.1 8 0 1 rfl
  have y64_ := hFx32_.1 8 0 2 rfl
  refine sm_T_go 2 (c1 := (69, [some (.inr (.inr (some (8, 0)))), some (.inr (.inr (some (0, bb_)))), some (.inl a2_), some (.inl a3_), none, none, none], [.inl a2_, .inr (.inr (some (8, 0)))], Sx30_)) rfl ?_
  refine sm_T_cal (d1 := 2) (Q1 := vq_154 a2_ bb_ Sx30_) rfl rfl (by decide) (vc_154 a2_ bb_ Sx30_ hIx31_ (by exact tx37_) (by omega) (by exact bpn_fr hn_ hFx34_ rfl rfl rfl rfl)) (fun u_ Sx38_ px41_ => ?_)
  obtain ⟨rfl, hIx39_, hFx40_, px41_⟩ := px41_
  have hFx42_ : ai_fr (sx_W vw_153) S0_ Sx38_ := ai_fr_tr hFx34_ (fr_le hFx40_ rfl)
  have hCx43_ : cdf bb_ S0_ Sx38_ := cdf_tr hCx35_ (cdf_fr hFx40_ rfl)
  have tx44_ : Sx38_.2.1 8 0 0 = some bb_ := (hFx40_.2.1 8 0 0 rfl).trans tx37_
  have o69_ := hFx40_.2.2 22 rfl (0 + bb_)
  have s69_ := hFx40_.2.2 23 rfl (0 + bb_)
  have q69_ := hFx40_.2.2 24 rfl (0 + bb_)
  have x69_ := hFx40_.1 8 0 1 rfl
  have y69_ := hFx40_.1 8 0 2 rfl
  refine sm_T_go 2 (c1 := (74, [some (.inr (.inr (some (8, 0)))), some (.inr (.inr (some (0, bb_)))), some (.inl a2_), some (.inl a3_), none, none, none], [.inl a2_, .inr (.inr (some (8, 0)))], Sx38_)) rfl ?_
  refine sm_T_cal (d1 := 0) (Q1 := vq_155 a2_ bb_ Sx38_) rfl rfl (by decide) (vc_155 a2_ bb_ Sx38_ hIx39_ (by exact tx44_) (by omega)) (fun u_ Sx45_ px48_ => ?_)
  obtain ⟨rfl, hIx46_, hFx47_, px48_⟩ := px48_
  have hFx49_ : ai_fr (sx_W vw_153) S0_ Sx45_ := ai_fr_tr hFx42_ (fr_le hFx47_ rfl)
  have hCx50_ : cdf bb_ S0_ Sx45_ := cdf_tr hCx43_ (cdf_fr hFx47_ rfl)
  have tx51_ : Sx45_.2.1 8 0 0 = some bb_ := (hFx47_.2.1 8 0 0 rfl).trans tx44_
  have r74_ := px48_
  have o74_ := hFx47_.2.2 22 rfl (0 + bb_)
  have s74_ := hFx47_.2.2 23 rfl (0 + bb_)
  have q74_ := hFx47_.2.2 24 rfl (0 + bb_)
  have x74_ := hFx47_.1 8 0 1 rfl
  have y74_ := hFx47_.1 8 0 2 rfl
  have X9_ : Sx45_.1 8 0 1 = S0_.1 0 bb_ 0 + 2 := by rw [x74_, x69_, x64_, x53_, x42_]
  have Y9_ : Sx45_.1 8 0 2 = S0_.1 0 bb_ 2 * (S0_.1 0 bb_ 0 + 2) := by rw [y74_, y69_, y64_, y53_, y42_]
  have O9_ : ∀ p_ : Nat, p_ < 4712 → Sx45_.2.2.1 22 (0 + bb_) p_ = -1 := fun p_ u9_ => by rw [(o74_ p_).1, (o69_ p_).1, (o64_ p_).1, (o53_ p_).1]; exact e42_ p_ u9_
  have T9_ : ∀ p_ : Nat, p_ < 4712 → Sx45_.2.2.1 23 (0 + bb_) p_ = 0 := fun p_ u9_ => by rw [(s74_ p_).1, (s69_ p_).1, (s64_ p_).1]; exact e53_ p_ u9_
  have Q9_ : ∀ p_ : Nat, p_ < 162 → Sx45_.2.2.1 24 (0 + bb_) p_ = 0 := fun p_ u9_ => by rw [(q74_ p_).1, (q69_ p_).1]; exact e64_ p_ u9_
  have m9_ : 1 ≤ S0_.1 0 bb_ 2 * (S0_.1 0 bb_ 0 + 2) := by have m8_ := Int.mul_le_mul (show (1 : Int) ≤ S0_.1 0 bb_ 2 by omega) (show (1 : Int) ≤ S0_.1 0 bb_ 0 + 2 by omega) (by decide) (by omega); omega
  have G9_ : rgw Sx45_ := ⟨by omega, by omega, S0_.1 0 bb_ 2, by rw [X9_, Y9_]⟩
  have P9_ : rpt bb_ Sx45_ := by (have F9_ := hFx49_; exact rpt_of (bpn_fr hn_ F9_ rfl rfl rfl rfl) (bpl_fr hl_ F9_ rfl rfl rfl rfl rfl rfl rfl rfl rfl rfl) (bpp_fr hpp_ F9_) (by rw [F9_.1 0 bb_ 1 rfl]; exact hr_) (by rw [F9_.1 0 bb_ 0 rfl]; exact cs_.1) (fun k9_ => hIx46_.2 18 (0 + bb_) k9_) (fun k9_ => (hIx46_.2 14 (0 + bb_) k9_).1) (fun k9_ => (hIx46_.2 15 (0 + bb_) k9_).1) (by rw [Y9_, F9_.1 0 bb_ 2 rfl, F9_.1 0 bb_ 0 rfl]))
  refine sm_T_go 2 (c1 := (80, [some (.inr (.inr (some (8, 0)))), some (.inr (.inr (some (0, bb_)))), some (.inl a2_), some (.inl a3_), some (.inl 0), none, none], [], Sx45_)) rfl ?_
  refine (vl_153 a2_ a3_ bb_ cc_ S0_ h2_ h3_ hn_ hl_ hpp_ hr_ _).1 0 Sx45_ hIx46_ hFx49_ ⟨?_, ?_, ?_, ?_, ?_, ?_, ?_, ?_, ?_, ?_, ?_, trivial⟩ (Nat.lt_succ_self _)
  · omega
  · exact tx51_
  · exact G9_
  · exact P9_
  · (intro p_ u_ w_; exact absurd (T9_ p_ u_) w_)
  · (intro c_ u_ w_ p_ v_; exact absurd (Q9_ c_ u_) w_)
  · exact r74_.2
  · exact r74_.1
  · (intro p_ u_; rw [O9_ p_ u_]; omega)
  · (intro p_ u_; left; exact O9_ p_ (by have cl9_ := Y9_; omega))
  · exact hCx50_
