/-! the law's helpers, the class's side; written by wip/p55/gen/vg/d01.py -/
def wo9 (w_ : sx_Wl) : sx_Wl := (w_.1, 295 :: w_.2.1, w_.2.2)
/-- what a call of the class leaves -/
def lhq (w_ : sx_Wl) (S_ S'_ : sm_S) : Prop := gi S'_ ∧ ai_fr (sx_W (wo9 w_)) S_ S'_ ∧ jC S'_
theorem lhq_x {w_ : sx_Wl} {S_ S'_ : sm_S} (hI_ : gi S'_) (hF_ : ai_fr (sx_W w_) S_ S'_) (hJ_ : jC S'_) (h_ : sx_wle w_ (wo9 w_) = true) : lhq w_ S_ S'_ := ⟨hI_, fr_le hF_ h_, hJ_⟩
theorem lhq_o {w_ : sx_Wl} {x_ : Int} {S_ S'_ : sm_S} (hI_ : gi S'_) (hF_ : ai_fr (sx_W w_) S_ S'_) (hJ_ : jC S'_) (h_ : sx_wle w_ (wo9 w_) = true) (g_ : (sx_W (wo9 w_)).2.1 295 = true) : lhq w_ S_ (sm_aL S'_ 295 0 0 x_) := ⟨hI_, ai_fr_tr (fr_le hF_ h_) (ai_fr_aL g_), jC_fr (w_ := ([], [295], [])) hJ_ (ai_fr_aL rfl) (by decide) (by decide) (by decide) (by decide) (by decide) rfl rfl rfl rfl rfl rfl⟩

theorem lh_540 {sc_ : Nat × (Nat → Int)} (kd_ : Int) (k_ : Int) (S0_ : sm_S) (hI_ : gi S0_) (hJ_ : jC S0_) : sm_T (mt_P sc_) 2 540 (0, [some (.inr (.inr (some (12, 0)))), some (.inl kd_), some (.inl k_), some (.inr (.inr (some (295, 0)))), none], [], S0_) (fun r_ => ∃ v_ S1_ k_, r_ = (.inl (some (.inl v_)), S1_, k_) ∧ k_ ≤ 2 ∧ lhq vw_218 S0_ S1_) := by
  refine sm_T_go 5 (c1 := (5, [some (.inr (.inr (some (12, 0)))), some (.inl kd_), some (.inl k_), some (.inr (.inr (some (295, 0)))), none], [.inl k_, .inl kd_, .inr (.inr (some (12, 0))), .inl 0, .inr (.inr (some (295, 0)))], S0_)) rfl ?_
  refine sm_T_call rfl rfl (vc_218 kd_ k_ S0_ hI_) (fun u_ S1_ k1_ qz9_ => ?_) (fun ex_ S1_ k1_ qz9_ => ?_)
  · rcases qz9_ with ⟨u2_, S2_, ez9_, qz9_⟩ | ⟨ex2_, S2_, ez9_, mz9_, qz9_⟩
    · cases ez9_
      obtain ⟨v_, rfl, iz9_, fz9_, qz9_⟩ := qz9_
      have jz9_ : jC S1_ := by (first | exact qz9_ | exact qz9_.1 | exact qz9_.2 | exact qz9_.2.1 | exact qz9_.2.2 | exact jC_fr hJ_ fz9_ (by decide) (by decide) (by decide) (by decide) (by decide) rfl rfl rfl rfl rfl rfl | exact jC_d hJ_ fz9_ qz9_ (by decide) (by decide) (by decide) rfl rfl rfl rfl rfl rfl | exact jC_d hJ_ fz9_ qz9_.1 (by decide) (by decide) (by decide) rfl rfl rfl rfl rfl rfl)
      refine sm_T_b0 (a := 0) (z := 7) rfl (fun c_ => ?_) (fun c_ => ?_)
      · refine sm_T_go 4 (c1 := (25, [some (.inr (.inr (some (12, 0)))), some (.inl kd_), some (.inl k_), some (.inr (.inr (some (295, 0)))), none], [.inl 0], _)) rfl ?_
        exact sm_T_ri rfl ⟨_, _, _, rfl, Nat.le_of_ble_eq_true rfl, lhq_o iz9_ fz9_ jz9_ rfl rfl⟩
      · refine sm_T_go 5 (c1 := (25, [some (.inr (.inr (some (12, 0)))), some (.inl kd_), some (.inl k_), some (.inr (.inr (some (295, 0)))), none], [.inl 0], _)) rfl ?_
        exact sm_T_ri rfl ⟨_, _, _, rfl, Nat.le_of_ble_eq_true rfl, lhq_o iz9_ fz9_ jz9_ rfl rfl⟩
    · cases ez9_
  · rcases qz9_ with ⟨u2_, S2_, ez9_, qz9_⟩ | ⟨ex2_, S2_, ez9_, mz9_, qz9_⟩
    · cases ez9_
    · cases ez9_
      obtain ⟨iz9_, fz9_, qz9_⟩ := qz9_
      have jz9_ : jC S1_ := by first | exact qz9_ | (rw [qz9_]; exact hJ_) | exact jC_fr hJ_ fz9_ (by decide) (by decide) (by decide) (by decide) (by decide) rfl rfl rfl rfl rfl rfl
      simp only [List.mem_cons, List.not_mem_nil, or_false] at mz9_
      subst mz9_
      refine ⟨_, _, _, _, _, rfl, Nat.le_of_ble_eq_true rfl, ?_⟩
      refine sm_T_go 1 (c1 := (_, _, [.inl _], S1_)) rfl ?_
      exact sm_T_ri rfl ⟨_, _, _, rfl, Nat.le_of_ble_eq_true rfl, lhq_x iz9_ fz9_ jz9_ rfl⟩
theorem lh_541 {sc_ : Nat × (Nat → Int)} (kk_ : Int) (wh_ : Int) (S0_ : sm_S) (hI_ : gi S0_) (hJ_ : jC S0_) : sm_T (mt_P sc_) 3 541 (0, [some (.inr (.inr (some (12, 0)))), some (.inl kk_), some (.inl wh_), some (.inr (.inr (some (295, 0)))), none], [], S0_) (fun r_ => ∃ v_ S1_ k_, r_ = (.inl (some (.inl v_)), S1_, k_) ∧ k_ ≤ 2 ∧ lhq vw_219 S0_ S1_) := by
  refine sm_T_go 5 (c1 := (5, [some (.inr (.inr (some (12, 0)))), some (.inl kk_), some (.inl wh_), some (.inr (.inr (some (295, 0)))), none], [.inl wh_, .inl kk_, .inr (.inr (some (12, 0))), .inl 0, .inr (.inr (some (295, 0)))], S0_)) rfl ?_
  refine sm_T_call rfl rfl (vc_219 kk_ wh_ S0_ hI_ hJ_.1) (fun u_ S1_ k1_ qz9_ => ?_) (fun ex_ S1_ k1_ qz9_ => ?_)
  · rcases qz9_ with ⟨u2_, S2_, ez9_, qz9_⟩ | ⟨ex2_, S2_, ez9_, mz9_, qz9_⟩
    · cases ez9_
      obtain ⟨v_, rfl, iz9_, fz9_, qz9_⟩ := qz9_
      have jz9_ : jC S1_ := by (first | exact qz9_ | exact qz9_.1 | exact qz9_.2 | exact qz9_.2.1 | exact qz9_.2.2 | exact jC_fr hJ_ fz9_ (by decide) (by decide) (by decide) (by decide) (by decide) rfl rfl rfl rfl rfl rfl | exact jC_d hJ_ fz9_ qz9_ (by decide) (by decide) (by decide) rfl rfl rfl rfl rfl rfl | exact jC_d hJ_ fz9_ qz9_.1 (by decide) (by decide) (by decide) rfl rfl rfl rfl rfl rfl)
      refine sm_T_go 4 (c1 := (22, [some (.inr (.inr (some (12, 0)))), some (.inl kk_), some (.inl wh_), some (.inr (.inr (some (295, 0)))), none], [.inl 0], _)) rfl ?_
      exact sm_T_ri rfl ⟨_, _, _, rfl, Nat.le_of_ble_eq_true rfl, lhq_o iz9_ fz9_ jz9_ rfl rfl⟩
    · cases ez9_
  · rcases qz9_ with ⟨u2_, S2_, ez9_, qz9_⟩ | ⟨ex2_, S2_, ez9_, mz9_, qz9_⟩
    · cases ez9_
    · cases ez9_
      obtain ⟨iz9_, fz9_, qz9_⟩ := qz9_
      have jz9_ : jC S1_ := by first | exact qz9_ | (rw [qz9_]; exact hJ_) | exact jC_fr hJ_ fz9_ (by decide) (by decide) (by decide) (by decide) (by decide) rfl rfl rfl rfl rfl rfl
      simp only [List.mem_cons, List.not_mem_nil, or_false] at mz9_
      rcases mz9_ with rfl | rfl
      · refine ⟨_, _, _, _, _, rfl, Nat.le_of_ble_eq_true rfl, ?_⟩
        refine sm_T_go 1 (c1 := (_, _, [.inl _], S1_)) rfl ?_
        exact sm_T_ri rfl ⟨_, _, _, rfl, Nat.le_of_ble_eq_true rfl, lhq_x iz9_ fz9_ jz9_ rfl⟩
      · refine ⟨_, _, _, _, _, rfl, Nat.le_of_ble_eq_true rfl, ?_⟩
        refine sm_T_go 1 (c1 := (_, _, [.inl _], S1_)) rfl ?_
        exact sm_T_ri rfl ⟨_, _, _, rfl, Nat.le_of_ble_eq_true rfl, lhq_x iz9_ fz9_ jz9_ rfl⟩
theorem lh_542 {sc_ : Nat × (Nat → Int)} (kk_ : Int) (nd_ : Int) (sd_ : Int) (S0_ : sm_S) (hI_ : gi S0_) (hJ_ : jC S0_) : sm_T (mt_P sc_) 3 542 (0, [some (.inr (.inr (some (12, 0)))), some (.inl kk_), some (.inl nd_), some (.inl sd_), some (.inr (.inr (some (295, 0)))), none], [], S0_) (fun r_ => ∃ v_ S1_ k_, r_ = (.inl (some (.inl v_)), S1_, k_) ∧ k_ ≤ 2 ∧ lhq vw_220 S0_ S1_) := by
  refine sm_T_go 6 (c1 := (7, [some (.inr (.inr (some (12, 0)))), some (.inl kk_), some (.inl nd_), some (.inl sd_), some (.inr (.inr (some (295, 0)))), none], [.inl sd_, .inl nd_, .inl kk_, .inr (.inr (some (12, 0))), .inl 0, .inr (.inr (some (295, 0)))], S0_)) rfl ?_
  refine sm_T_call rfl rfl (vc_220 kk_ nd_ sd_ S0_ hI_ hJ_.1) (fun u_ S1_ k1_ qz9_ => ?_) (fun ex_ S1_ k1_ qz9_ => ?_)
  · rcases qz9_ with ⟨u2_, S2_, ez9_, qz9_⟩ | ⟨ex2_, S2_, ez9_, mz9_, qz9_⟩
    · cases ez9_
      obtain ⟨v_, rfl, iz9_, fz9_, qz9_⟩ := qz9_
      have jz9_ : jC S1_ := by (first | exact qz9_ | exact qz9_.1 | exact qz9_.2 | exact qz9_.2.1 | exact qz9_.2.2 | exact jC_fr hJ_ fz9_ (by decide) (by decide) (by decide) (by decide) (by decide) rfl rfl rfl rfl rfl rfl | exact jC_d hJ_ fz9_ qz9_ (by decide) (by decide) (by decide) rfl rfl rfl rfl rfl rfl | exact jC_d hJ_ fz9_ qz9_.1 (by decide) (by decide) (by decide) rfl rfl rfl rfl rfl rfl)
      refine sm_T_go 4 (c1 := (20, [some (.inr (.inr (some (12, 0)))), some (.inl kk_), some (.inl nd_), some (.inl sd_), some (.inr (.inr (some (295, 0)))), none], [.inl 0], _)) rfl ?_
      exact sm_T_ri rfl ⟨_, _, _, rfl, Nat.le_of_ble_eq_true rfl, lhq_o iz9_ fz9_ jz9_ rfl rfl⟩
    · cases ez9_
  · rcases qz9_ with ⟨u2_, S2_, ez9_, qz9_⟩ | ⟨ex2_, S2_, ez9_, mz9_, qz9_⟩
    · cases ez9_
    · cases ez9_
      obtain ⟨iz9_, fz9_, qz9_⟩ := qz9_
      have jz9_ : jC S1_ := by first | exact qz9_ | (rw [qz9_]; exact hJ_) | exact jC_fr hJ_ fz9_ (by decide) (by decide) (by decide) (by decide) (by decide) rfl rfl rfl rfl rfl rfl
      simp only [List.mem_cons, List.not_mem_nil, or_false] at mz9_
      subst mz9_
      refine ⟨_, _, _, _, _, rfl, Nat.le_of_ble_eq_true rfl, ?_⟩
      refine sm_T_go 1 (c1 := (_, _, [.inl _], S1_)) rfl ?_
      exact sm_T_ri rfl ⟨_, _, _, rfl, Nat.le_of_ble_eq_true rfl, lhq_x iz9_ fz9_ jz9_ rfl⟩
theorem lh_543 {sc_ : Nat × (Nat → Int)} (kk_ : Int) (nd_ : Int) (S0_ : sm_S) (hI_ : gi S0_) (hJ_ : jC S0_) : sm_T (mt_P sc_) 3 543 (0, [some (.inr (.inr (some (12, 0)))), some (.inl kk_), some (.inl nd_), some (.inr (.inr (some (295, 0)))), none], [], S0_) (fun r_ => ∃ v_ S1_ k_, r_ = (.inl (some (.inl v_)), S1_, k_) ∧ k_ ≤ 2 ∧ lhq vw_221 S0_ S1_) := by
  refine sm_T_go 5 (c1 := (5, [some (.inr (.inr (some (12, 0)))), some (.inl kk_), some (.inl nd_), some (.inr (.inr (some (295, 0)))), none], [.inl nd_, .inl kk_, .inr (.inr (some (12, 0))), .inl 0, .inr (.inr (some (295, 0)))], S0_)) rfl ?_
  refine sm_T_call rfl rfl (vc_221 kk_ nd_ S0_ hI_ hJ_.1) (fun u_ S1_ k1_ qz9_ => ?_) (fun ex_ S1_ k1_ qz9_ => ?_)
  · rcases qz9_ with ⟨u2_, S2_, ez9_, qz9_⟩ | ⟨ex2_, S2_, ez9_, mz9_, qz9_⟩
    · cases ez9_
      obtain ⟨v_, rfl, iz9_, fz9_, qz9_⟩ := qz9_
      have jz9_ : jC S1_ := by (first | exact qz9_ | exact qz9_.1 | exact qz9_.2 | exact qz9_.2.1 | exact qz9_.2.2 | exact jC_fr hJ_ fz9_ (by decide) (by decide) (by decide) (by decide) (by decide) rfl rfl rfl rfl rfl rfl | exact jC_d hJ_ fz9_ qz9_ (by decide) (by decide) (by decide) rfl rfl rfl rfl rfl rfl | exact jC_d hJ_ fz9_ qz9_.1 (by decide) (by decide) (by decide) rfl rfl rfl rfl rfl rfl)
      refine sm_T_go 4 (c1 := (18, [some (.inr (.inr (some (12, 0)))), some (.inl kk_), some (.inl nd_), some (.inr (.inr (some (295, 0)))), none], [.inl 0], _)) rfl ?_
      exact sm_T_ri rfl ⟨_, _, _, rfl, Nat.le_of_ble_eq_true rfl, lhq_o iz9_ fz9_ jz9_ rfl rfl⟩
    · cases ez9_
  · rcases qz9_ with ⟨u2_, S2_, ez9_, qz9_⟩ | ⟨ex2_, S2_, ez9_, mz9_, qz9_⟩
    · cases ez9_
    · cases ez9_
      obtain ⟨iz9_, fz9_, qz9_⟩ := qz9_
      have jz9_ : jC S1_ := by first | exact qz9_ | (rw [qz9_]; exact hJ_) | exact jC_fr hJ_ fz9_ (by decide) (by decide) (by decide) (by decide) (by decide) rfl rfl rfl rfl rfl rfl
      simp only [List.mem_cons, List.not_mem_nil, or_false] at mz9_
      subst mz9_
      refine ⟨_, _, _, _, _, rfl, Nat.le_of_ble_eq_true rfl, ?_⟩
      refine sm_T_go 1 (c1 := (_, _, [.inl _], S1_)) rfl ?_
      exact sm_T_ri rfl ⟨_, _, _, rfl, Nat.le_of_ble_eq_true rfl, lhq_x iz9_ fz9_ jz9_ rfl⟩
theorem lh_544 {sc_ : Nat × (Nat → Int)} (kk_ : Int) (k_ : Int) (nx_ : Int) (S0_ : sm_S) (hI_ : gi S0_) (hJ_ : jC S0_) : sm_T (mt_P sc_) 3 544 (0, [some (.inr (.inr (some (12, 0)))), some (.inl kk_), some (.inl k_), some (.inl nx_), some (.inr (.inr (some (295, 0)))), none], [], S0_) (fun r_ => ∃ v_ S1_ k_, r_ = (.inl (some (.inl v_)), S1_, k_) ∧ k_ ≤ 2 ∧ lhq vw_222 S0_ S1_) := by
  refine sm_T_go 6 (c1 := (7, [some (.inr (.inr (some (12, 0)))), some (.inl kk_), some (.inl k_), some (.inl nx_), some (.inr (.inr (some (295, 0)))), none], [.inl nx_, .inl k_, .inl kk_, .inr (.inr (some (12, 0))), .inl 0, .inr (.inr (some (295, 0)))], S0_)) rfl ?_
  refine sm_T_call rfl rfl (vc_222 kk_ k_ nx_ S0_ hI_ hJ_.1) (fun u_ S1_ k1_ qz9_ => ?_) (fun ex_ S1_ k1_ qz9_ => ?_)
  · rcases qz9_ with ⟨u2_, S2_, ez9_, qz9_⟩ | ⟨ex2_, S2_, ez9_, mz9_, qz9_⟩
    · cases ez9_
      obtain ⟨v_, rfl, iz9_, fz9_, qz9_⟩ := qz9_
      have jz9_ : jC S1_ := by (first | exact qz9_ | exact qz9_.1 | exact qz9_.2 | exact qz9_.2.1 | exact qz9_.2.2 | exact jC_fr hJ_ fz9_ (by decide) (by decide) (by decide) (by decide) (by decide) rfl rfl rfl rfl rfl rfl | exact jC_d hJ_ fz9_ qz9_ (by decide) (by decide) (by decide) rfl rfl rfl rfl rfl rfl | exact jC_d hJ_ fz9_ qz9_.1 (by decide) (by decide) (by decide) rfl rfl rfl rfl rfl rfl)
      refine sm_T_go 4 (c1 := (20, [some (.inr (.inr (some (12, 0)))), some (.inl kk_), some (.inl k_), some (.inl nx_), some (.inr (.inr (some (295, 0)))), none], [.inl 0], _)) rfl ?_
      exact sm_T_ri rfl ⟨_, _, _, rfl, Nat.le_of_ble_eq_true rfl, lhq_o iz9_ fz9_ jz9_ rfl rfl⟩
    · cases ez9_
  · rcases qz9_ with ⟨u2_, S2_, ez9_, qz9_⟩ | ⟨ex2_, S2_, ez9_, mz9_, qz9_⟩
    · cases ez9_
    · cases ez9_
      obtain ⟨iz9_, fz9_, qz9_⟩ := qz9_
      have jz9_ : jC S1_ := by first | exact qz9_ | (rw [qz9_]; exact hJ_) | exact jC_fr hJ_ fz9_ (by decide) (by decide) (by decide) (by decide) (by decide) rfl rfl rfl rfl rfl rfl
      simp only [List.mem_cons, List.not_mem_nil, or_false] at mz9_
      subst mz9_
      refine ⟨_, _, _, _, _, rfl, Nat.le_of_ble_eq_true rfl, ?_⟩
      refine sm_T_go 1 (c1 := (_, _, [.inl _], S1_)) rfl ?_
      exact sm_T_ri rfl ⟨_, _, _, rfl, Nat.le_of_ble_eq_true rfl, lhq_x iz9_ fz9_ jz9_ rfl⟩
theorem lh_545 {sc_ : Nat × (Nat → Int)} (lb_ : Int) (k_ : Int) (wh_ : Int) (S0_ : sm_S) (hI_ : gi S0_) (hJ_ : jC S0_) : sm_T (mt_P sc_) 3 545 (0, [some (.inr (.inr (some (12, 0)))), some (.inl lb_), some (.inl k_), some (.inl wh_), some (.inr (.inr (some (295, 0)))), none], [], S0_) (fun r_ => ∃ v_ S1_ k_, r_ = (.inl (some (.inl v_)), S1_, k_) ∧ k_ ≤ 2 ∧ lhq vw_223 S0_ S1_) := by
  refine sm_T_go 6 (c1 := (7, [some (.inr (.inr (some (12, 0)))), some (.inl lb_), some (.inl k_), some (.inl wh_), some (.inr (.inr (some (295, 0)))), none], [.inl wh_, .inl k_, .inl lb_, .inr (.inr (some (12, 0))), .inl 0, .inr (.inr (some (295, 0)))], S0_)) rfl ?_
  refine sm_T_call rfl rfl (vc_223 lb_ k_ wh_ S0_ hI_) (fun u_ S1_ k1_ qz9_ => ?_) (fun ex_ S1_ k1_ qz9_ => ?_)
  · rcases qz9_ with ⟨u2_, S2_, ez9_, qz9_⟩ | ⟨ex2_, S2_, ez9_, mz9_, qz9_⟩
    · cases ez9_
      obtain ⟨v_, rfl, iz9_, fz9_, qz9_⟩ := qz9_
      have jz9_ : jC S1_ := by (first | exact qz9_ | exact qz9_.1 | exact qz9_.2 | exact qz9_.2.1 | exact qz9_.2.2 | exact jC_fr hJ_ fz9_ (by decide) (by decide) (by decide) (by decide) (by decide) rfl rfl rfl rfl rfl rfl | exact jC_d hJ_ fz9_ qz9_ (by decide) (by decide) (by decide) rfl rfl rfl rfl rfl rfl | exact jC_d hJ_ fz9_ qz9_.1 (by decide) (by decide) (by decide) rfl rfl rfl rfl rfl rfl)
      refine sm_T_go 4 (c1 := (24, [some (.inr (.inr (some (12, 0)))), some (.inl lb_), some (.inl k_), some (.inl wh_), some (.inr (.inr (some (295, 0)))), none], [.inl 0], _)) rfl ?_
      exact sm_T_ri rfl ⟨_, _, _, rfl, Nat.le_of_ble_eq_true rfl, lhq_o iz9_ fz9_ jz9_ rfl rfl⟩
    · cases ez9_
  · rcases qz9_ with ⟨u2_, S2_, ez9_, qz9_⟩ | ⟨ex2_, S2_, ez9_, mz9_, qz9_⟩
    · cases ez9_
    · cases ez9_
      obtain ⟨iz9_, fz9_, qz9_⟩ := qz9_
      have jz9_ : jC S1_ := by first | exact qz9_ | (rw [qz9_]; exact hJ_) | exact jC_fr hJ_ fz9_ (by decide) (by decide) (by decide) (by decide) (by decide) rfl rfl rfl rfl rfl rfl
      simp only [List.mem_cons, List.not_mem_nil, or_false] at mz9_
      rcases mz9_ with rfl | rfl
      · refine ⟨_, _, _, _, _, rfl, Nat.le_of_ble_eq_true rfl, ?_⟩
        refine sm_T_go 1 (c1 := (_, _, [.inl _], S1_)) rfl ?_
        exact sm_T_ri rfl ⟨_, _, _, rfl, Nat.le_of_ble_eq_true rfl, lhq_x iz9_ fz9_ jz9_ rfl⟩
      · refine ⟨_, _, _, _, _, rfl, Nat.le_of_ble_eq_true rfl, ?_⟩
        refine sm_T_go 1 (c1 := (_, _, [.inl _], S1_)) rfl ?_
        exact sm_T_ri rfl ⟨_, _, _, rfl, Nat.le_of_ble_eq_true rfl, lhq_x iz9_ fz9_ jz9_ rfl⟩
theorem lh_547 {sc_ : Nat × (Nat → Int)} (kk_ : Int) (S0_ : sm_S) (hI_ : gi S0_) (hJ_ : jC S0_) : sm_T (mt_P sc_) 3 547 (0, [some (.inr (.inr (some (12, 0)))), some (.inl kk_), some (.inr (.inr (some (295, 0)))), none], [], S0_) (fun r_ => ∃ v_ S1_ k_, r_ = (.inl (some (.inl v_)), S1_, k_) ∧ k_ ≤ 2 ∧ lhq vw_225 S0_ S1_) := by
  refine sm_T_go 4 (c1 := (4, [some (.inr (.inr (some (12, 0)))), some (.inl kk_), some (.inr (.inr (some (295, 0)))), none], [.inl kk_, .inr (.inr (some (12, 0))), .inl 0, .inr (.inr (some (295, 0)))], S0_)) rfl ?_
  refine sm_T_call rfl rfl (vc_225 kk_ S0_ hI_ hJ_.1) (fun u_ S1_ k1_ qz9_ => ?_) (fun ex_ S1_ k1_ qz9_ => ?_)
  · rcases qz9_ with ⟨u2_, S2_, ez9_, qz9_⟩ | ⟨ex2_, S2_, ez9_, mz9_, qz9_⟩
    · cases ez9_
      obtain ⟨v_, rfl, iz9_, fz9_, qz9_⟩ := qz9_
      have jz9_ : jC S1_ := by (first | exact qz9_ | exact qz9_.1 | exact qz9_.2 | exact qz9_.2.1 | exact qz9_.2.2 | exact jC_fr hJ_ fz9_ (by decide) (by decide) (by decide) (by decide) (by decide) rfl rfl rfl rfl rfl rfl | exact jC_d hJ_ fz9_ qz9_ (by decide) (by decide) (by decide) rfl rfl rfl rfl rfl rfl | exact jC_d hJ_ fz9_ qz9_.1 (by decide) (by decide) (by decide) rfl rfl rfl rfl rfl rfl)
      refine sm_T_go 4 (c1 := (16, [some (.inr (.inr (some (12, 0)))), some (.inl kk_), some (.inr (.inr (some (295, 0)))), none], [.inl 0], _)) rfl ?_
      exact sm_T_ri rfl ⟨_, _, _, rfl, Nat.le_of_ble_eq_true rfl, lhq_o iz9_ fz9_ jz9_ rfl rfl⟩
    · cases ez9_
  · rcases qz9_ with ⟨u2_, S2_, ez9_, qz9_⟩ | ⟨ex2_, S2_, ez9_, mz9_, qz9_⟩
    · cases ez9_
    · cases ez9_
      obtain ⟨iz9_, fz9_, qz9_⟩ := qz9_
      have jz9_ : jC S1_ := by first | exact qz9_ | (rw [qz9_]; exact hJ_) | exact jC_fr hJ_ fz9_ (by decide) (by decide) (by decide) (by decide) (by decide) rfl rfl rfl rfl rfl rfl
      simp only [List.mem_cons, List.not_mem_nil, or_false] at mz9_
      subst mz9_
      refine ⟨_, _, _, _, _, rfl, Nat.le_of_ble_eq_true rfl, ?_⟩
      refine sm_T_go 1 (c1 := (_, _, [.inl _], S1_)) rfl ?_
      exact sm_T_ri rfl ⟨_, _, _, rfl, Nat.le_of_ble_eq_true rfl, lhq_x iz9_ fz9_ jz9_ rfl⟩
theorem lh_549 {sc_ : Nat × (Nat → Int)} (aa_ : Int) (bb_ : Int) (S0_ : sm_S) (hI_ : gi S0_) (hJ_ : jC S0_) : sm_T (mt_P sc_) 3 549 (0, [some (.inr (.inr (some (12, 0)))), some (.inl aa_), some (.inl bb_), some (.inr (.inr (some (295, 0)))), none], [], S0_) (fun r_ => ∃ v_ S1_ k_, r_ = (.inl (some (.inl v_)), S1_, k_) ∧ k_ ≤ 2 ∧ lhq vw_227 S0_ S1_) := by
  refine sm_T_go 5 (c1 := (5, [some (.inr (.inr (some (12, 0)))), some (.inl aa_), some (.inl bb_), some (.inr (.inr (some (295, 0)))), none], [.inl bb_, .inl aa_, .inr (.inr (some (12, 0))), .inl 0, .inr (.inr (some (295, 0)))], S0_)) rfl ?_
  refine sm_T_call rfl rfl (vc_227 aa_ bb_ S0_ hI_ hJ_) (fun u_ S1_ k1_ qz9_ => ?_) (fun ex_ S1_ k1_ qz9_ => ?_)
  · rcases qz9_ with ⟨u2_, S2_, ez9_, qz9_⟩ | ⟨ex2_, S2_, ez9_, mz9_, qz9_⟩
    · cases ez9_
      obtain ⟨v_, rfl, iz9_, fz9_, qz9_⟩ := qz9_
      have jz9_ : jC S1_ := by (first | exact qz9_ | exact qz9_.1 | exact qz9_.2 | exact qz9_.2.1 | exact qz9_.2.2 | exact jC_fr hJ_ fz9_ (by decide) (by decide) (by decide) (by decide) (by decide) rfl rfl rfl rfl rfl rfl | exact jC_d hJ_ fz9_ qz9_ (by decide) (by decide) (by decide) rfl rfl rfl rfl rfl rfl | exact jC_d hJ_ fz9_ qz9_.1 (by decide) (by decide) (by decide) rfl rfl rfl rfl rfl rfl)
      refine sm_T_go 4 (c1 := (22, [some (.inr (.inr (some (12, 0)))), some (.inl aa_), some (.inl bb_), some (.inr (.inr (some (295, 0)))), none], [.inl 0], _)) rfl ?_
      exact sm_T_ri rfl ⟨_, _, _, rfl, Nat.le_of_ble_eq_true rfl, lhq_o iz9_ fz9_ jz9_ rfl rfl⟩
    · cases ez9_
  · rcases qz9_ with ⟨u2_, S2_, ez9_, qz9_⟩ | ⟨ex2_, S2_, ez9_, mz9_, qz9_⟩
    · cases ez9_
    · cases ez9_
      obtain ⟨iz9_, fz9_, qz9_⟩ := qz9_
      have jz9_ : jC S1_ := by first | exact qz9_ | (rw [qz9_]; exact hJ_) | exact jC_fr hJ_ fz9_ (by decide) (by decide) (by decide) (by decide) (by decide) rfl rfl rfl rfl rfl rfl
      simp only [List.mem_cons, List.not_mem_nil, or_false] at mz9_
      rcases mz9_ with rfl | rfl
      · refine ⟨_, _, _, _, _, rfl, Nat.le_of_ble_eq_true rfl, ?_⟩
        refine sm_T_go 1 (c1 := (_, _, [.inl _], S1_)) rfl ?_
        exact sm_T_ri rfl ⟨_, _, _, rfl, Nat.le_of_ble_eq_true rfl, lhq_x iz9_ fz9_ jz9_ rfl⟩
      · refine ⟨_, _, _, _, _, rfl, Nat.le_of_ble_eq_true rfl, ?_⟩
        refine sm_T_go 1 (c1 := (_, _, [.inl _], S1_)) rfl ?_
        exact sm_T_ri rfl ⟨_, _, _, rfl, Nat.le_of_ble_eq_true rfl, lhq_x iz9_ fz9_ jz9_ rfl⟩
theorem lh_550 {sc_ : Nat × (Nat → Int)} (bb_ : Int) (k_ : Int) (S0_ : sm_S) (hI_ : gi S0_) (hJ_ : jC S0_) : sm_T (mt_P sc_) 3 550 (0, [some (.inr (.inr (some (12, 0)))), some (.inl bb_), some (.inl k_), some (.inr (.inr (some (295, 0)))), none], [], S0_) (fun r_ => ∃ v_ S1_ k_, r_ = (.inl (some (.inl v_)), S1_, k_) ∧ k_ ≤ 2 ∧ lhq vw_228 S0_ S1_) := by
  refine sm_T_go 5 (c1 := (5, [some (.inr (.inr (some (12, 0)))), some (.inl bb_), some (.inl k_), some (.inr (.inr (some (295, 0)))), none], [.inl k_, .inl bb_, .inr (.inr (some (12, 0))), .inl 0, .inr (.inr (some (295, 0)))], S0_)) rfl ?_
  refine sm_T_call rfl rfl (vc_228 bb_ k_ S0_ hI_ hJ_) (fun u_ S1_ k1_ qz9_ => ?_) (fun ex_ S1_ k1_ qz9_ => ?_)
  · rcases qz9_ with ⟨u2_, S2_, ez9_, qz9_⟩ | ⟨ex2_, S2_, ez9_, mz9_, qz9_⟩
    · cases ez9_
      obtain ⟨v_, rfl, iz9_, fz9_, qz9_⟩ := qz9_
      have jz9_ : jC S1_ := by (first | exact qz9_ | exact qz9_.1 | exact qz9_.2 | exact qz9_.2.1 | exact qz9_.2.2 | exact jC_fr hJ_ fz9_ (by decide) (by decide) (by decide) (by decide) (by decide) rfl rfl rfl rfl rfl rfl | exact jC_d hJ_ fz9_ qz9_ (by decide) (by decide) (by decide) rfl rfl rfl rfl rfl rfl | exact jC_d hJ_ fz9_ qz9_.1 (by decide) (by decide) (by decide) rfl rfl rfl rfl rfl rfl)
      refine sm_T_go 4 (c1 := (18, [some (.inr (.inr (some (12, 0)))), some (.inl bb_), some (.inl k_), some (.inr (.inr (some (295, 0)))), none], [.inl 0], _)) rfl ?_
      exact sm_T_ri rfl ⟨_, _, _, rfl, Nat.le_of_ble_eq_true rfl, lhq_o iz9_ fz9_ jz9_ rfl rfl⟩
    · cases ez9_
  · rcases qz9_ with ⟨u2_, S2_, ez9_, qz9_⟩ | ⟨ex2_, S2_, ez9_, mz9_, qz9_⟩
    · cases ez9_
    · cases ez9_
      obtain ⟨iz9_, fz9_, qz9_⟩ := qz9_
      have jz9_ : jC S1_ := by first | exact qz9_ | (rw [qz9_]; exact hJ_) | exact jC_fr hJ_ fz9_ (by decide) (by decide) (by decide) (by decide) (by decide) rfl rfl rfl rfl rfl rfl
      simp only [List.mem_cons, List.not_mem_nil, or_false] at mz9_
      subst mz9_
      refine ⟨_, _, _, _, _, rfl, Nat.le_of_ble_eq_true rfl, ?_⟩
      refine sm_T_go 1 (c1 := (_, _, [.inl _], S1_)) rfl ?_
      exact sm_T_ri rfl ⟨_, _, _, rfl, Nat.le_of_ble_eq_true rfl, lhq_x iz9_ fz9_ jz9_ rfl⟩
theorem lh_551 {sc_ : Nat × (Nat → Int)} (k_ : Int) (S0_ : sm_S) (hI_ : gi S0_) (hJ_ : jC S0_) : sm_T (mt_P sc_) 2 551 (0, [some (.inr (.inr (some (12, 0)))), some (.inl k_), some (.inr (.inr (some (295, 0)))), none], [], S0_) (fun r_ => ∃ v_ S1_ k_, r_ = (.inl (some (.inl v_)), S1_, k_) ∧ k_ ≤ 2 ∧ lhq vw_229 S0_ S1_) := by
  refine sm_T_go 4 (c1 := (4, [some (.inr (.inr (some (12, 0)))), some (.inl k_), some (.inr (.inr (some (295, 0)))), none], [.inl k_, .inr (.inr (some (12, 0))), .inl 0, .inr (.inr (some (295, 0)))], S0_)) rfl ?_
  refine sm_T_call rfl rfl (vc_229 k_ S0_ hI_) (fun u_ S1_ k1_ qz9_ => ?_) (fun ex_ S1_ k1_ qz9_ => ?_)
  · rcases qz9_ with ⟨u2_, S2_, ez9_, qz9_⟩ | ⟨ex2_, S2_, ez9_, mz9_, qz9_⟩
    · cases ez9_
      obtain ⟨v_, rfl, iz9_, fz9_, qz9_⟩ := qz9_
      have jz9_ : jC S1_ := by (first | exact qz9_ | exact qz9_.1 | exact qz9_.2 | exact qz9_.2.1 | exact qz9_.2.2 | exact jC_fr hJ_ fz9_ (by decide) (by decide) (by decide) (by decide) (by decide) rfl rfl rfl rfl rfl rfl | exact jC_d hJ_ fz9_ qz9_ (by decide) (by decide) (by decide) rfl rfl rfl rfl rfl rfl | exact jC_d hJ_ fz9_ qz9_.1 (by decide) (by decide) (by decide) rfl rfl rfl rfl rfl rfl)
      refine sm_T_go 4 (c1 := (16, [some (.inr (.inr (some (12, 0)))), some (.inl k_), some (.inr (.inr (some (295, 0)))), none], [.inl 0], _)) rfl ?_
      exact sm_T_ri rfl ⟨_, _, _, rfl, Nat.le_of_ble_eq_true rfl, lhq_o iz9_ fz9_ jz9_ rfl rfl⟩
    · cases ez9_
  · rcases qz9_ with ⟨u2_, S2_, ez9_, qz9_⟩ | ⟨ex2_, S2_, ez9_, mz9_, qz9_⟩
    · cases ez9_
    · cases ez9_
      obtain ⟨iz9_, fz9_, qz9_⟩ := qz9_
      have jz9_ : jC S1_ := by first | exact qz9_ | (rw [qz9_]; exact hJ_) | exact jC_fr hJ_ fz9_ (by decide) (by decide) (by decide) (by decide) (by decide) rfl rfl rfl rfl rfl rfl
      simp only [List.mem_cons, List.not_mem_nil, or_false] at mz9_
      subst mz9_
      refine ⟨_, _, _, _, _, rfl, Nat.le_of_ble_eq_true rfl, ?_⟩
      refine sm_T_go 1 (c1 := (_, _, [.inl _], S1_)) rfl ?_
      exact sm_T_ri rfl ⟨_, _, _, rfl, Nat.le_of_ble_eq_true rfl, lhq_x iz9_ fz9_ jz9_ rfl⟩
theorem lh_553 {sc_ : Nat × (Nat → Int)} (kk_ : Int) (wh_ : Int) (S0_ : sm_S) (hI_ : gi S0_) (hJ_ : jC S0_) : sm_T (mt_P sc_) 3 553 (0, [some (.inr (.inr (some (12, 0)))), some (.inl kk_), some (.inl wh_), some (.inr (.inr (some (295, 0)))), none], [], S0_) (fun r_ => ∃ v_ S1_ k_, r_ = (.inl (some (.inl v_)), S1_, k_) ∧ k_ ≤ 2 ∧ lhq vw_231 S0_ S1_) := by
  refine sm_T_go 5 (c1 := (5, [some (.inr (.inr (some (12, 0)))), some (.inl kk_), some (.inl wh_), some (.inr (.inr (some (295, 0)))), none], [.inl wh_, .inl kk_, .inr (.inr (some (12, 0))), .inl 0, .inr (.inr (some (295, 0)))], S0_)) rfl ?_
  refine sm_T_call rfl rfl (vc_231 kk_ wh_ S0_ hI_ hJ_) (fun u_ S1_ k1_ qz9_ => ?_) (fun ex_ S1_ k1_ qz9_ => ?_)
  · rcases qz9_ with ⟨u2_, S2_, ez9_, qz9_⟩ | ⟨ex2_, S2_, ez9_, mz9_, qz9_⟩
    · cases ez9_
      obtain ⟨v_, rfl, iz9_, fz9_, qz9_⟩ := qz9_
      have jz9_ : jC S1_ := by (first | exact qz9_ | exact qz9_.1 | exact qz9_.2 | exact qz9_.2.1 | exact qz9_.2.2 | exact jC_fr hJ_ fz9_ (by decide) (by decide) (by decide) (by decide) (by decide) rfl rfl rfl rfl rfl rfl | exact jC_d hJ_ fz9_ qz9_ (by decide) (by decide) (by decide) rfl rfl rfl rfl rfl rfl | exact jC_d hJ_ fz9_ qz9_.1 (by decide) (by decide) (by decide) rfl rfl rfl rfl rfl rfl)
      refine sm_T_go 4 (c1 := (22, [some (.inr (.inr (some (12, 0)))), some (.inl kk_), some (.inl wh_), some (.inr (.inr (some (295, 0)))), none], [.inl 0], _)) rfl ?_
      exact sm_T_ri rfl ⟨_, _, _, rfl, Nat.le_of_ble_eq_true rfl, lhq_o iz9_ fz9_ jz9_ rfl rfl⟩
    · cases ez9_
  · rcases qz9_ with ⟨u2_, S2_, ez9_, qz9_⟩ | ⟨ex2_, S2_, ez9_, mz9_, qz9_⟩
    · cases ez9_
    · cases ez9_
      obtain ⟨iz9_, fz9_, qz9_⟩ := qz9_
      have jz9_ : jC S1_ := by first | exact qz9_ | (rw [qz9_]; exact hJ_) | exact jC_fr hJ_ fz9_ (by decide) (by decide) (by decide) (by decide) (by decide) rfl rfl rfl rfl rfl rfl
      simp only [List.mem_cons, List.not_mem_nil, or_false] at mz9_
      rcases mz9_ with rfl | rfl
      · refine ⟨_, _, _, _, _, rfl, Nat.le_of_ble_eq_true rfl, ?_⟩
        refine sm_T_go 1 (c1 := (_, _, [.inl _], S1_)) rfl ?_
        exact sm_T_ri rfl ⟨_, _, _, rfl, Nat.le_of_ble_eq_true rfl, lhq_x iz9_ fz9_ jz9_ rfl⟩
      · refine ⟨_, _, _, _, _, rfl, Nat.le_of_ble_eq_true rfl, ?_⟩
        refine sm_T_go 1 (c1 := (_, _, [.inl _], S1_)) rfl ?_
        exact sm_T_ri rfl ⟨_, _, _, rfl, Nat.le_of_ble_eq_true rfl, lhq_x iz9_ fz9_ jz9_ rfl⟩
theorem lh_554 {sc_ : Nat × (Nat → Int)} (kk_ : Int) (g_ : Int) (wh_ : Int) (S0_ : sm_S) (hI_ : gi S0_) (hJ_ : jC S0_) : sm_T (mt_P sc_) 3 554 (0, [some (.inr (.inr (some (12, 0)))), some (.inl kk_), some (.inl g_), some (.inl wh_), some (.inr (.inr (some (295, 0)))), none], [], S0_) (fun r_ => ∃ v_ S1_ k_, r_ = (.inl (some (.inl v_)), S1_, k_) ∧ k_ ≤ 2 ∧ lhq vw_232 S0_ S1_) := by
  refine sm_T_go 6 (c1 := (7, [some (.inr (.inr (some (12, 0)))), some (.inl kk_), some (.inl g_), some (.inl wh_), some (.inr (.inr (some (295, 0)))), none], [.inl wh_, .inl g_, .inl kk_, .inr (.inr (some (12, 0))), .inl 0, .inr (.inr (some (295, 0)))], S0_)) rfl ?_
  refine sm_T_call rfl rfl (vc_232 kk_ g_ wh_ S0_ hI_ hJ_) (fun u_ S1_ k1_ qz9_ => ?_) (fun ex_ S1_ k1_ qz9_ => ?_)
  · rcases qz9_ with ⟨u2_, S2_, ez9_, qz9_⟩ | ⟨ex2_, S2_, ez9_, mz9_, qz9_⟩
    · cases ez9_
      obtain ⟨v_, rfl, iz9_, fz9_, qz9_⟩ := qz9_
      have jz9_ : jC S1_ := by (first | exact qz9_ | exact qz9_.1 | exact qz9_.2 | exact qz9_.2.1 | exact qz9_.2.2 | exact jC_fr hJ_ fz9_ (by decide) (by decide) (by decide) (by decide) (by decide) rfl rfl rfl rfl rfl rfl | exact jC_d hJ_ fz9_ qz9_ (by decide) (by decide) (by decide) rfl rfl rfl rfl rfl rfl | exact jC_d hJ_ fz9_ qz9_.1 (by decide) (by decide) (by decide) rfl rfl rfl rfl rfl rfl)
      refine sm_T_go 4 (c1 := (24, [some (.inr (.inr (some (12, 0)))), some (.inl kk_), some (.inl g_), some (.inl wh_), some (.inr (.inr (some (295, 0)))), none], [.inl 0], _)) rfl ?_
      exact sm_T_ri rfl ⟨_, _, _, rfl, Nat.le_of_ble_eq_true rfl, lhq_o iz9_ fz9_ jz9_ rfl rfl⟩
    · cases ez9_
  · rcases qz9_ with ⟨u2_, S2_, ez9_, qz9_⟩ | ⟨ex2_, S2_, ez9_, mz9_, qz9_⟩
    · cases ez9_
    · cases ez9_
      obtain ⟨iz9_, fz9_, qz9_⟩ := qz9_
      have jz9_ : jC S1_ := by first | exact qz9_ | (rw [qz9_]; exact hJ_) | exact jC_fr hJ_ fz9_ (by decide) (by decide) (by decide) (by decide) (by decide) rfl rfl rfl rfl rfl rfl
      simp only [List.mem_cons, List.not_mem_nil, or_false] at mz9_
      rcases mz9_ with rfl | rfl
      · refine ⟨_, _, _, _, _, rfl, Nat.le_of_ble_eq_true rfl, ?_⟩
        refine sm_T_go 1 (c1 := (_, _, [.inl _], S1_)) rfl ?_
        exact sm_T_ri rfl ⟨_, _, _, rfl, Nat.le_of_ble_eq_true rfl, lhq_x iz9_ fz9_ jz9_ rfl⟩
      · refine ⟨_, _, _, _, _, rfl, Nat.le_of_ble_eq_true rfl, ?_⟩
        refine sm_T_go 1 (c1 := (_, _, [.inl _], S1_)) rfl ?_
        exact sm_T_ri rfl ⟨_, _, _, rfl, Nat.le_of_ble_eq_true rfl, lhq_x iz9_ fz9_ jz9_ rfl⟩
theorem lh_555 {sc_ : Nat × (Nat → Int)} (kk_ : Int) (k_ : Int) (nx_ : Int) (S0_ : sm_S) (hI_ : gi S0_) (hJ_ : jC S0_) : sm_T (mt_P sc_) 3 555 (0, [some (.inr (.inr (some (12, 0)))), some (.inl kk_), some (.inl k_), some (.inl nx_), some (.inr (.inr (some (295, 0)))), none], [], S0_) (fun r_ => ∃ v_ S1_ k_, r_ = (.inl (some (.inl v_)), S1_, k_) ∧ k_ ≤ 2 ∧ lhq vw_233 S0_ S1_) := by
  refine sm_T_go 6 (c1 := (7, [some (.inr (.inr (some (12, 0)))), some (.inl kk_), some (.inl k_), some (.inl nx_), some (.inr (.inr (some (295, 0)))), none], [.inl nx_, .inl k_, .inl kk_, .inr (.inr (some (12, 0))), .inl 0, .inr (.inr (some (295, 0)))], S0_)) rfl ?_
  refine sm_T_call rfl rfl (vc_233 kk_ k_ nx_ S0_ hI_ hJ_) (fun u_ S1_ k1_ qz9_ => ?_) (fun ex_ S1_ k1_ qz9_ => ?_)
  · rcases qz9_ with ⟨u2_, S2_, ez9_, qz9_⟩ | ⟨ex2_, S2_, ez9_, mz9_, qz9_⟩
    · cases ez9_
      obtain ⟨v_, rfl, iz9_, fz9_, qz9_⟩ := qz9_
      have jz9_ : jC S1_ := by (first | exact qz9_ | exact qz9_.1 | exact qz9_.2 | exact qz9_.2.1 | exact qz9_.2.2 | exact jC_fr hJ_ fz9_ (by decide) (by decide) (by decide) (by decide) (by decide) rfl rfl rfl rfl rfl rfl | exact jC_d hJ_ fz9_ qz9_ (by decide) (by decide) (by decide) rfl rfl rfl rfl rfl rfl | exact jC_d hJ_ fz9_ qz9_.1 (by decide) (by decide) (by decide) rfl rfl rfl rfl rfl rfl)
      refine sm_T_go 4 (c1 := (20, [some (.inr (.inr (some (12, 0)))), some (.inl kk_), some (.inl k_), some (.inl nx_), some (.inr (.inr (some (295, 0)))), none], [.inl 0], _)) rfl ?_
      exact sm_T_ri rfl ⟨_, _, _, rfl, Nat.le_of_ble_eq_true rfl, lhq_o iz9_ fz9_ jz9_ rfl rfl⟩
    · cases ez9_
  · rcases qz9_ with ⟨u2_, S2_, ez9_, qz9_⟩ | ⟨ex2_, S2_, ez9_, mz9_, qz9_⟩
    · cases ez9_
    · cases ez9_
      obtain ⟨iz9_, fz9_, qz9_⟩ := qz9_
      have jz9_ : jC S1_ := by first | exact qz9_ | (rw [qz9_]; exact hJ_) | exact jC_fr hJ_ fz9_ (by decide) (by decide) (by decide) (by decide) (by decide) rfl rfl rfl rfl rfl rfl
      simp only [List.mem_cons, List.not_mem_nil, or_false] at mz9_
      subst mz9_
      refine ⟨_, _, _, _, _, rfl, Nat.le_of_ble_eq_true rfl, ?_⟩
      refine sm_T_go 1 (c1 := (_, _, [.inl _], S1_)) rfl ?_
      exact sm_T_ri rfl ⟨_, _, _, rfl, Nat.le_of_ble_eq_true rfl, lhq_x iz9_ fz9_ jz9_ rfl⟩
theorem lh_559 {sc_ : Nat × (Nat → Int)} (kk_ : Int) (bb_ : Int) (S0_ : sm_S) (hI_ : gi S0_) (hJ_ : jC S0_) : sm_T (mt_P sc_) 3 559 (0, [some (.inr (.inr (some (12, 0)))), some (.inl kk_), some (.inl bb_), some (.inr (.inr (some (295, 0)))), none], [], S0_) (fun r_ => ∃ v_ S1_ k_, r_ = (.inl (some (.inl v_)), S1_, k_) ∧ k_ ≤ 2 ∧ lhq vw_237 S0_ S1_) := by
  refine sm_T_go 5 (c1 := (5, [some (.inr (.inr (some (12, 0)))), some (.inl kk_), some (.inl bb_), some (.inr (.inr (some (295, 0)))), none], [.inl bb_, .inl kk_, .inr (.inr (some (12, 0))), .inl 0, .inr (.inr (some (295, 0)))], S0_)) rfl ?_
  refine sm_T_call rfl rfl (vc_237 kk_ bb_ S0_ hI_ hJ_) (fun u_ S1_ k1_ qz9_ => ?_) (fun ex_ S1_ k1_ qz9_ => ?_)
  · rcases qz9_ with ⟨u2_, S2_, ez9_, qz9_⟩ | ⟨ex2_, S2_, ez9_, mz9_, qz9_⟩
    · cases ez9_
      obtain ⟨v_, rfl, iz9_, fz9_, qz9_⟩ := qz9_
      have jz9_ : jC S1_ := by (first | exact qz9_ | exact qz9_.1 | exact qz9_.2 | exact qz9_.2.1 | exact qz9_.2.2 | exact jC_fr hJ_ fz9_ (by decide) (by decide) (by decide) (by decide) (by decide) rfl rfl rfl rfl rfl rfl | exact jC_d hJ_ fz9_ qz9_ (by decide) (by decide) (by decide) rfl rfl rfl rfl rfl rfl | exact jC_d hJ_ fz9_ qz9_.1 (by decide) (by decide) (by decide) rfl rfl rfl rfl rfl rfl)
      refine sm_T_go 4 (c1 := (22, [some (.inr (.inr (some (12, 0)))), some (.inl kk_), some (.inl bb_), some (.inr (.inr (some (295, 0)))), none], [.inl 0], _)) rfl ?_
      exact sm_T_ri rfl ⟨_, _, _, rfl, Nat.le_of_ble_eq_true rfl, lhq_o iz9_ fz9_ jz9_ rfl rfl⟩
    · cases ez9_
  · rcases qz9_ with ⟨u2_, S2_, ez9_, qz9_⟩ | ⟨ex2_, S2_, ez9_, mz9_, qz9_⟩
    · cases ez9_
    · cases ez9_
      obtain ⟨iz9_, fz9_, qz9_⟩ := qz9_
      have jz9_ : jC S1_ := by first | exact qz9_ | (rw [qz9_]; exact hJ_) | exact jC_fr hJ_ fz9_ (by decide) (by decide) (by decide) (by decide) (by decide) rfl rfl rfl rfl rfl rfl
      simp only [List.mem_cons, List.not_mem_nil, or_false] at mz9_
      rcases mz9_ with rfl | rfl
      · refine ⟨_, _, _, _, _, rfl, Nat.le_of_ble_eq_true rfl, ?_⟩
        refine sm_T_go 1 (c1 := (_, _, [.inl _], S1_)) rfl ?_
        exact sm_T_ri rfl ⟨_, _, _, rfl, Nat.le_of_ble_eq_true rfl, lhq_x iz9_ fz9_ jz9_ rfl⟩
      · refine ⟨_, _, _, _, _, rfl, Nat.le_of_ble_eq_true rfl, ?_⟩
        refine sm_T_go 1 (c1 := (_, _, [.inl _], S1_)) rfl ?_
        exact sm_T_ri rfl ⟨_, _, _, rfl, Nat.le_of_ble_eq_true rfl, lhq_x iz9_ fz9_ jz9_ rfl⟩
theorem lh_560 {sc_ : Nat × (Nat → Int)} (kk_ : Int) (a2_ : Int) (S0_ : sm_S) (hI_ : gi S0_) (hJ_ : jC S0_) : sm_T (mt_P sc_) 5 560 (0, [some (.inr (.inr (some (12, 0)))), some (.inl kk_), some (.inl a2_), some (.inr (.inr (some (295, 0)))), none], [], S0_) (fun r_ => ∃ v_ S1_ k_, r_ = (.inl (some (.inl v_)), S1_, k_) ∧ k_ ≤ 2 ∧ lhq vw_238 S0_ S1_) := by
  refine sm_T_go 5 (c1 := (5, [some (.inr (.inr (some (12, 0)))), some (.inl kk_), some (.inl a2_), some (.inr (.inr (some (295, 0)))), none], [.inl a2_, .inl kk_, .inr (.inr (some (12, 0))), .inl 0, .inr (.inr (some (295, 0)))], S0_)) rfl ?_
  refine sm_T_call rfl rfl (vc_238 kk_ a2_ S0_ hI_ hJ_) (fun u_ S1_ k1_ qz9_ => ?_) (fun ex_ S1_ k1_ qz9_ => ?_)
  · rcases qz9_ with ⟨u2_, S2_, ez9_, qz9_⟩ | ⟨ex2_, S2_, ez9_, mz9_, qz9_⟩
    · cases ez9_
      obtain ⟨v_, rfl, iz9_, fz9_, qz9_⟩ := qz9_
      have jz9_ : jC S1_ := by (first | exact qz9_ | exact qz9_.1 | exact qz9_.2 | exact qz9_.2.1 | exact qz9_.2.2 | exact jC_fr hJ_ fz9_ (by decide) (by decide) (by decide) (by decide) (by decide) rfl rfl rfl rfl rfl rfl | exact jC_d hJ_ fz9_ qz9_ (by decide) (by decide) (by decide) rfl rfl rfl rfl rfl rfl | exact jC_d hJ_ fz9_ qz9_.1 (by decide) (by decide) (by decide) rfl rfl rfl rfl rfl rfl)
      refine sm_T_go 4 (c1 := (22, [some (.inr (.inr (some (12, 0)))), some (.inl kk_), some (.inl a2_), some (.inr (.inr (some (295, 0)))), none], [.inl 0], _)) rfl ?_
      exact sm_T_ri rfl ⟨_, _, _, rfl, Nat.le_of_ble_eq_true rfl, lhq_o iz9_ fz9_ jz9_ rfl rfl⟩
    · cases ez9_
  · rcases qz9_ with ⟨u2_, S2_, ez9_, qz9_⟩ | ⟨ex2_, S2_, ez9_, mz9_, qz9_⟩
    · cases ez9_
    · cases ez9_
      obtain ⟨iz9_, fz9_, qz9_⟩ := qz9_
      have jz9_ : jC S1_ := by first | exact qz9_ | (rw [qz9_]; exact hJ_) | exact jC_fr hJ_ fz9_ (by decide) (by decide) (by decide) (by decide) (by decide) rfl rfl rfl rfl rfl rfl
      simp only [List.mem_cons, List.not_mem_nil, or_false] at mz9_
      rcases mz9_ with rfl | rfl
      · refine ⟨_, _, _, _, _, rfl, Nat.le_of_ble_eq_true rfl, ?_⟩
        refine sm_T_go 1 (c1 := (_, _, [.inl _], S1_)) rfl ?_
        exact sm_T_ri rfl ⟨_, _, _, rfl, Nat.le_of_ble_eq_true rfl, lhq_x iz9_ fz9_ jz9_ rfl⟩
      · refine ⟨_, _, _, _, _, rfl, Nat.le_of_ble_eq_true rfl, ?_⟩
        refine sm_T_go 1 (c1 := (_, _, [.inl _], S1_)) rfl ?_
        exact sm_T_ri rfl ⟨_, _, _, rfl, Nat.le_of_ble_eq_true rfl, lhq_x iz9_ fz9_ jz9_ rfl⟩
theorem lh_561 {sc_ : Nat × (Nat → Int)} (kk_ : Int) (e_ : Int) (wh_ : Int) (S0_ : sm_S) (hI_ : gi S0_) (hJ_ : jC S0_) : sm_T (mt_P sc_) 3 561 (0, [some (.inr (.inr (some (12, 0)))), some (.inl kk_), some (.inl e_), some (.inl wh_), some (.inr (.inr (some (295, 0)))), none], [], S0_) (fun r_ => ∃ v_ S1_ k_, r_ = (.inl (some (.inl v_)), S1_, k_) ∧ k_ ≤ 2 ∧ lhq vw_239 S0_ S1_) := by
  refine sm_T_go 6 (c1 := (7, [some (.inr (.inr (some (12, 0)))), some (.inl kk_), some (.inl e_), some (.inl wh_), some (.inr (.inr (some (295, 0)))), none], [.inl wh_, .inl e_, .inl kk_, .inr (.inr (some (12, 0))), .inl 0, .inr (.inr (some (295, 0)))], S0_)) rfl ?_
  refine sm_T_call rfl rfl (vc_239 kk_ e_ wh_ S0_ hI_ hJ_) (fun u_ S1_ k1_ qz9_ => ?_) (fun ex_ S1_ k1_ qz9_ => ?_)
  · rcases qz9_ with ⟨u2_, S2_, ez9_, qz9_⟩ | ⟨ex2_, S2_, ez9_, mz9_, qz9_⟩
    · cases ez9_
      obtain ⟨v_, rfl, iz9_, fz9_, qz9_⟩ := qz9_
      have jz9_ : jC S1_ := by (first | exact qz9_ | exact qz9_.1 | exact qz9_.2 | exact qz9_.2.1 | exact qz9_.2.2 | exact jC_fr hJ_ fz9_ (by decide) (by decide) (by decide) (by decide) (by decide) rfl rfl rfl rfl rfl rfl | exact jC_d hJ_ fz9_ qz9_ (by decide) (by decide) (by decide) rfl rfl rfl rfl rfl rfl | exact jC_d hJ_ fz9_ qz9_.1 (by decide) (by decide) (by decide) rfl rfl rfl rfl rfl rfl)
      refine sm_T_go 4 (c1 := (28, [some (.inr (.inr (some (12, 0)))), some (.inl kk_), some (.inl e_), some (.inl wh_), some (.inr (.inr (some (295, 0)))), none], [.inl 0], _)) rfl ?_
      exact sm_T_ri rfl ⟨_, _, _, rfl, Nat.le_of_ble_eq_true rfl, lhq_o iz9_ fz9_ jz9_ rfl rfl⟩
    · cases ez9_
  · rcases qz9_ with ⟨u2_, S2_, ez9_, qz9_⟩ | ⟨ex2_, S2_, ez9_, mz9_, qz9_⟩
    · cases ez9_
    · cases ez9_
      obtain ⟨iz9_, fz9_, qz9_⟩ := qz9_
      have jz9_ : jC S1_ := by first | exact qz9_ | (rw [qz9_]; exact hJ_) | exact jC_fr hJ_ fz9_ (by decide) (by decide) (by decide) (by decide) (by decide) rfl rfl rfl rfl rfl rfl
      simp only [List.mem_cons, List.not_mem_nil, or_false] at mz9_
      rcases mz9_ with rfl | rfl | rfl
      · refine ⟨_, _, _, _, _, rfl, Nat.le_of_ble_eq_true rfl, ?_⟩
        refine sm_T_go 1 (c1 := (_, _, [.inl _], S1_)) rfl ?_
        exact sm_T_ri rfl ⟨_, _, _, rfl, Nat.le_of_ble_eq_true rfl, lhq_x iz9_ fz9_ jz9_ rfl⟩
      · refine ⟨_, _, _, _, _, rfl, Nat.le_of_ble_eq_true rfl, ?_⟩
        refine sm_T_go 1 (c1 := (_, _, [.inl _], S1_)) rfl ?_
        exact sm_T_ri rfl ⟨_, _, _, rfl, Nat.le_of_ble_eq_true rfl, lhq_x iz9_ fz9_ jz9_ rfl⟩
      · refine ⟨_, _, _, _, _, rfl, Nat.le_of_ble_eq_true rfl, ?_⟩
        refine sm_T_go 1 (c1 := (_, _, [.inl _], S1_)) rfl ?_
        exact sm_T_ri rfl ⟨_, _, _, rfl, Nat.le_of_ble_eq_true rfl, lhq_x iz9_ fz9_ jz9_ rfl⟩
theorem lh_562 {sc_ : Nat × (Nat → Int)} (kk_ : Int) (e_ : Int) (a3_ : Int) (a4_ : Int) (S0_ : sm_S) (hI_ : gi S0_) (hJ_ : jC S0_) : sm_T (mt_P sc_) 5 562 (0, [some (.inr (.inr (some (12, 0)))), some (.inl kk_), some (.inl e_), some (.inl a3_), some (.inl a4_), some (.inr (.inr (some (295, 0)))), none], [], S0_) (fun r_ => ∃ v_ S1_ k_, r_ = (.inl (some (.inl v_)), S1_, k_) ∧ k_ ≤ 2 ∧ lhq vw_240 S0_ S1_) := by
  refine sm_T_go 7 (c1 := (9, [some (.inr (.inr (some (12, 0)))), some (.inl kk_), some (.inl e_), some (.inl a3_), some (.inl a4_), some (.inr (.inr (some (295, 0)))), none], [.inl a4_, .inl a3_, .inl e_, .inl kk_, .inr (.inr (some (12, 0))), .inl 0, .inr (.inr (some (295, 0)))], S0_)) rfl ?_
  refine sm_T_call rfl rfl (vc_240 kk_ e_ a3_ a4_ S0_ hI_ hJ_) (fun u_ S1_ k1_ qz9_ => ?_) (fun ex_ S1_ k1_ qz9_ => ?_)
  · rcases qz9_ with ⟨u2_, S2_, ez9_, qz9_⟩ | ⟨ex2_, S2_, ez9_, mz9_, qz9_⟩
    · cases ez9_
      obtain ⟨v_, rfl, iz9_, fz9_, qz9_⟩ := qz9_
      have jz9_ : jC S1_ := by (first | exact qz9_ | exact qz9_.1 | exact qz9_.2 | exact qz9_.2.1 | exact qz9_.2.2 | exact jC_fr hJ_ fz9_ (by decide) (by decide) (by decide) (by decide) (by decide) rfl rfl rfl rfl rfl rfl | exact jC_d hJ_ fz9_ qz9_ (by decide) (by decide) (by decide) rfl rfl rfl rfl rfl rfl | exact jC_d hJ_ fz9_ qz9_.1 (by decide) (by decide) (by decide) rfl rfl rfl rfl rfl rfl)
      refine sm_T_b0 (a := 0) (z := 7) rfl (fun c_ => ?_) (fun c_ => ?_)
      · refine sm_T_go 4 (c1 := (33, [some (.inr (.inr (some (12, 0)))), some (.inl kk_), some (.inl e_), some (.inl a3_), some (.inl a4_), some (.inr (.inr (some (295, 0)))), none], [.inl 0], _)) rfl ?_
        exact sm_T_ri rfl ⟨_, _, _, rfl, Nat.le_of_ble_eq_true rfl, lhq_o iz9_ fz9_ jz9_ rfl rfl⟩
      · refine sm_T_go 5 (c1 := (33, [some (.inr (.inr (some (12, 0)))), some (.inl kk_), some (.inl e_), some (.inl a3_), some (.inl a4_), some (.inr (.inr (some (295, 0)))), none], [.inl 0], _)) rfl ?_
        exact sm_T_ri rfl ⟨_, _, _, rfl, Nat.le_of_ble_eq_true rfl, lhq_o iz9_ fz9_ jz9_ rfl rfl⟩
    · cases ez9_
  · rcases qz9_ with ⟨u2_, S2_, ez9_, qz9_⟩ | ⟨ex2_, S2_, ez9_, mz9_, qz9_⟩
    · cases ez9_
    · cases ez9_
      obtain ⟨iz9_, fz9_, qz9_⟩ := qz9_
      have jz9_ : jC S1_ := by first | exact qz9_ | (rw [qz9_]; exact hJ_) | exact jC_fr hJ_ fz9_ (by decide) (by decide) (by decide) (by decide) (by decide) rfl rfl rfl rfl rfl rfl
      simp only [List.mem_cons, List.not_mem_nil, or_false] at mz9_
      rcases mz9_ with rfl | rfl
      · refine ⟨_, _, _, _, _, rfl, Nat.le_of_ble_eq_true rfl, ?_⟩
        refine sm_T_go 1 (c1 := (_, _, [.inl _], S1_)) rfl ?_
        exact sm_T_ri rfl ⟨_, _, _, rfl, Nat.le_of_ble_eq_true rfl, lhq_x iz9_ fz9_ jz9_ rfl⟩
      · refine ⟨_, _, _, _, _, rfl, Nat.le_of_ble_eq_true rfl, ?_⟩
        refine sm_T_go 1 (c1 := (_, _, [.inl _], S1_)) rfl ?_
        exact sm_T_ri rfl ⟨_, _, _, rfl, Nat.le_of_ble_eq_true rfl, lhq_x iz9_ fz9_ jz9_ rfl⟩
theorem lh_563 {sc_ : Nat × (Nat → Int)} (kk_ : Int) (a2_ : Int) (S0_ : sm_S) (hI_ : gi S0_) (hJ_ : jC S0_) : sm_T (mt_P sc_) 5 563 (0, [some (.inr (.inr (some (12, 0)))), some (.inl kk_), some (.inl a2_), some (.inr (.inr (some (295, 0)))), none], [], S0_) (fun r_ => ∃ v_ S1_ k_, r_ = (.inl (some (.inl v_)), S1_, k_) ∧ k_ ≤ 2 ∧ lhq vw_241 S0_ S1_) := by
  refine sm_T_go 5 (c1 := (5, [some (.inr (.inr (some (12, 0)))), some (.inl kk_), some (.inl a2_), some (.inr (.inr (some (295, 0)))), none], [.inl a2_, .inl kk_, .inr (.inr (some (12, 0))), .inl 0, .inr (.inr (some (295, 0)))], S0_)) rfl ?_
  refine sm_T_call rfl rfl (vc_241 kk_ a2_ S0_ hI_ hJ_) (fun u_ S1_ k1_ qz9_ => ?_) (fun ex_ S1_ k1_ qz9_ => ?_)
  · rcases qz9_ with ⟨u2_, S2_, ez9_, qz9_⟩ | ⟨ex2_, S2_, ez9_, mz9_, qz9_⟩
    · cases ez9_
      obtain ⟨v_, rfl, iz9_, fz9_, qz9_⟩ := qz9_
      have jz9_ : jC S1_ := by (first | exact qz9_ | exact qz9_.1 | exact qz9_.2 | exact qz9_.2.1 | exact qz9_.2.2 | exact jC_fr hJ_ fz9_ (by decide) (by decide) (by decide) (by decide) (by decide) rfl rfl rfl rfl rfl rfl | exact jC_d hJ_ fz9_ qz9_ (by decide) (by decide) (by decide) rfl rfl rfl rfl rfl rfl | exact jC_d hJ_ fz9_ qz9_.1 (by decide) (by decide) (by decide) rfl rfl rfl rfl rfl rfl)
      refine sm_T_go 4 (c1 := (26, [some (.inr (.inr (some (12, 0)))), some (.inl kk_), some (.inl a2_), some (.inr (.inr (some (295, 0)))), none], [.inl 0], _)) rfl ?_
      exact sm_T_ri rfl ⟨_, _, _, rfl, Nat.le_of_ble_eq_true rfl, lhq_o iz9_ fz9_ jz9_ rfl rfl⟩
    · cases ez9_
  · rcases qz9_ with ⟨u2_, S2_, ez9_, qz9_⟩ | ⟨ex2_, S2_, ez9_, mz9_, qz9_⟩
    · cases ez9_
    · cases ez9_
      obtain ⟨iz9_, fz9_, qz9_⟩ := qz9_
      have jz9_ : jC S1_ := by first | exact qz9_ | (rw [qz9_]; exact hJ_) | exact jC_fr hJ_ fz9_ (by decide) (by decide) (by decide) (by decide) (by decide) rfl rfl rfl rfl rfl rfl
      simp only [List.mem_cons, List.not_mem_nil, or_false] at mz9_
      rcases mz9_ with rfl | rfl | rfl
      · refine ⟨_, _, _, _, _, rfl, Nat.le_of_ble_eq_true rfl, ?_⟩
        refine sm_T_go 1 (c1 := (_, _, [.inl _], S1_)) rfl ?_
        exact sm_T_ri rfl ⟨_, _, _, rfl, Nat.le_of_ble_eq_true rfl, lhq_x iz9_ fz9_ jz9_ rfl⟩
      · refine ⟨_, _, _, _, _, rfl, Nat.le_of_ble_eq_true rfl, ?_⟩
        refine sm_T_go 1 (c1 := (_, _, [.inl _], S1_)) rfl ?_
        exact sm_T_ri rfl ⟨_, _, _, rfl, Nat.le_of_ble_eq_true rfl, lhq_x iz9_ fz9_ jz9_ rfl⟩
      · refine ⟨_, _, _, _, _, rfl, Nat.le_of_ble_eq_true rfl, ?_⟩
        refine sm_T_go 1 (c1 := (_, _, [.inl _], S1_)) rfl ?_
        exact sm_T_ri rfl ⟨_, _, _, rfl, Nat.le_of_ble_eq_true rfl, lhq_x iz9_ fz9_ jz9_ rfl⟩
theorem lh_564 {sc_ : Nat × (Nat → Int)} (kk_ : Int) (n_ : Int) (S0_ : sm_S) (hI_ : gi S0_) (hJ_ : jC S0_) : sm_T (mt_P sc_) 3 564 (0, [some (.inr (.inr (some (12, 0)))), some (.inl kk_), some (.inl n_), some (.inr (.inr (some (295, 0)))), none], [], S0_) (fun r_ => ∃ v_ S1_ k_, r_ = (.inl (some (.inl v_)), S1_, k_) ∧ k_ ≤ 2 ∧ lhq vw_242 S0_ S1_) := by
  refine sm_T_go 5 (c1 := (5, [some (.inr (.inr (some (12, 0)))), some (.inl kk_), some (.inl n_), some (.inr (.inr (some (295, 0)))), none], [.inl n_, .inl kk_, .inr (.inr (some (12, 0))), .inl 0, .inr (.inr (some (295, 0)))], S0_)) rfl ?_
  refine sm_T_call rfl rfl (vc_242 kk_ n_ S0_ hI_ hJ_) (fun u_ S1_ k1_ qz9_ => ?_) (fun ex_ S1_ k1_ qz9_ => ?_)
  · rcases qz9_ with ⟨u2_, S2_, ez9_, qz9_⟩ | ⟨ex2_, S2_, ez9_, mz9_, qz9_⟩
    · cases ez9_
      obtain ⟨v_, rfl, iz9_, fz9_, qz9_⟩ := qz9_
      have jz9_ : jC S1_ := by (first | exact qz9_ | exact qz9_.1 | exact qz9_.2 | exact qz9_.2.1 | exact qz9_.2.2 | exact jC_fr hJ_ fz9_ (by decide) (by decide) (by decide) (by decide) (by decide) rfl rfl rfl rfl rfl rfl | exact jC_d hJ_ fz9_ qz9_ (by decide) (by decide) (by decide) rfl rfl rfl rfl rfl rfl | exact jC_d hJ_ fz9_ qz9_.1 (by decide) (by decide) (by decide) rfl rfl rfl rfl rfl rfl)
      refine sm_T_go 4 (c1 := (22, [some (.inr (.inr (some (12, 0)))), some (.inl kk_), some (.inl n_), some (.inr (.inr (some (295, 0)))), none], [.inl 0], _)) rfl ?_
      exact sm_T_ri rfl ⟨_, _, _, rfl, Nat.le_of_ble_eq_true rfl, lhq_o iz9_ fz9_ jz9_ rfl rfl⟩
    · cases ez9_
  · rcases qz9_ with ⟨u2_, S2_, ez9_, qz9_⟩ | ⟨ex2_, S2_, ez9_, mz9_, qz9_⟩
    · cases ez9_
    · cases ez9_
      obtain ⟨iz9_, fz9_, qz9_⟩ := qz9_
      have jz9_ : jC S1_ := by first | exact qz9_ | (rw [qz9_]; exact hJ_) | exact jC_fr hJ_ fz9_ (by decide) (by decide) (by decide) (by decide) (by decide) rfl rfl rfl rfl rfl rfl
      simp only [List.mem_cons, List.not_mem_nil, or_false] at mz9_
      rcases mz9_ with rfl | rfl
      · refine ⟨_, _, _, _, _, rfl, Nat.le_of_ble_eq_true rfl, ?_⟩
        refine sm_T_go 1 (c1 := (_, _, [.inl _], S1_)) rfl ?_
        exact sm_T_ri rfl ⟨_, _, _, rfl, Nat.le_of_ble_eq_true rfl, lhq_x iz9_ fz9_ jz9_ rfl⟩
      · refine ⟨_, _, _, _, _, rfl, Nat.le_of_ble_eq_true rfl, ?_⟩
        refine sm_T_go 1 (c1 := (_, _, [.inl _], S1_)) rfl ?_
        exact sm_T_ri rfl ⟨_, _, _, rfl, Nat.le_of_ble_eq_true rfl, lhq_x iz9_ fz9_ jz9_ rfl⟩
theorem lh_565 {sc_ : Nat × (Nat → Int)} (kk_ : Int) (rd_ : Int) (S0_ : sm_S) (hI_ : gi S0_) (hJ_ : jC S0_) : sm_T (mt_P sc_) 7 565 (0, [some (.inr (.inr (some (12, 0)))), some (.inl kk_), some (.inl rd_), some (.inr (.inr (some (295, 0)))), none], [], S0_) (fun r_ => ∃ v_ S1_ k_, r_ = (.inl (some (.inl v_)), S1_, k_) ∧ k_ ≤ 2 ∧ lhq vw_243 S0_ S1_) := by
  refine sm_T_go 5 (c1 := (5, [some (.inr (.inr (some (12, 0)))), some (.inl kk_), some (.inl rd_), some (.inr (.inr (some (295, 0)))), none], [.inl rd_, .inl kk_, .inr (.inr (some (12, 0))), .inl 0, .inr (.inr (some (295, 0)))], S0_)) rfl ?_
  refine sm_T_call rfl rfl (vc_243 kk_ rd_ S0_ hI_ hJ_) (fun u_ S1_ k1_ qz9_ => ?_) (fun ex_ S1_ k1_ qz9_ => ?_)
  · rcases qz9_ with ⟨u2_, S2_, ez9_, qz9_⟩ | ⟨ex2_, S2_, ez9_, mz9_, qz9_⟩
    · cases ez9_
      obtain ⟨v_, rfl, iz9_, fz9_, qz9_⟩ := qz9_
      have jz9_ : jC S1_ := by (first | exact qz9_ | exact qz9_.1 | exact qz9_.2 | exact qz9_.2.1 | exact qz9_.2.2 | exact jC_fr hJ_ fz9_ (by decide) (by decide) (by decide) (by decide) (by decide) rfl rfl rfl rfl rfl rfl | exact jC_d hJ_ fz9_ qz9_ (by decide) (by decide) (by decide) rfl rfl rfl rfl rfl rfl | exact jC_d hJ_ fz9_ qz9_.1 (by decide) (by decide) (by decide) rfl rfl rfl rfl rfl rfl)
      refine sm_T_go 4 (c1 := (26, [some (.inr (.inr (some (12, 0)))), some (.inl kk_), some (.inl rd_), some (.inr (.inr (some (295, 0)))), none], [.inl 0], _)) rfl ?_
      exact sm_T_ri rfl ⟨_, _, _, rfl, Nat.le_of_ble_eq_true rfl, lhq_o iz9_ fz9_ jz9_ rfl rfl⟩
    · cases ez9_
  · rcases qz9_ with ⟨u2_, S2_, ez9_, qz9_⟩ | ⟨ex2_, S2_, ez9_, mz9_, qz9_⟩
    · cases ez9_
    · cases ez9_
      obtain ⟨iz9_, fz9_, qz9_⟩ := qz9_
      have jz9_ : jC S1_ := by first | exact qz9_ | (rw [qz9_]; exact hJ_) | exact jC_fr hJ_ fz9_ (by decide) (by decide) (by decide) (by decide) (by decide) rfl rfl rfl rfl rfl rfl
      simp only [List.mem_cons, List.not_mem_nil, or_false] at mz9_
      rcases mz9_ with rfl | rfl | rfl
      · refine ⟨_, _, _, _, _, rfl, Nat.le_of_ble_eq_true rfl, ?_⟩
        refine sm_T_go 1 (c1 := (_, _, [.inl _], S1_)) rfl ?_
        exact sm_T_ri rfl ⟨_, _, _, rfl, Nat.le_of_ble_eq_true rfl, lhq_x iz9_ fz9_ jz9_ rfl⟩
      · refine ⟨_, _, _, _, _, rfl, Nat.le_of_ble_eq_true rfl, ?_⟩
        refine sm_T_go 1 (c1 := (_, _, [.inl _], S1_)) rfl ?_
        exact sm_T_ri rfl ⟨_, _, _, rfl, Nat.le_of_ble_eq_true rfl, lhq_x iz9_ fz9_ jz9_ rfl⟩
      · refine ⟨_, _, _, _, _, rfl, Nat.le_of_ble_eq_true rfl, ?_⟩
        refine sm_T_go 1 (c1 := (_, _, [.inl _], S1_)) rfl ?_
        exact sm_T_ri rfl ⟨_, _, _, rfl, Nat.le_of_ble_eq_true rfl, lhq_x iz9_ fz9_ jz9_ rfl⟩
theorem lh_566 {sc_ : Nat × (Nat → Int)} (kk_ : Int) (nu_ : Int) (S0_ : sm_S) (hI_ : gi S0_) (hJ_ : jC S0_) : sm_T (mt_P sc_) 3 566 (0, [some (.inr (.inr (some (12, 0)))), some (.inl kk_), some (.inl nu_), some (.inr (.inr (some (295, 0)))), none], [], S0_) (fun r_ => ∃ v_ S1_ k_, r_ = (.inl (some (.inl v_)), S1_, k_) ∧ k_ ≤ 2 ∧ lhq vw_244 S0_ S1_) := by
  refine sm_T_go 5 (c1 := (5, [some (.inr (.inr (some (12, 0)))), some (.inl kk_), some (.inl nu_), some (.inr (.inr (some (295, 0)))), none], [.inl nu_, .inl kk_, .inr (.inr (some (12, 0))), .inl 0, .inr (.inr (some (295, 0)))], S0_)) rfl ?_
  refine sm_T_call rfl rfl (vc_244 kk_ nu_ S0_ hI_ hJ_) (fun u_ S1_ k1_ qz9_ => ?_) (fun ex_ S1_ k1_ qz9_ => ?_)
  · rcases qz9_ with ⟨u2_, S2_, ez9_, qz9_⟩ | ⟨ex2_, S2_, ez9_, mz9_, qz9_⟩
    · cases ez9_
      obtain ⟨v_, rfl, iz9_, fz9_, qz9_⟩ := qz9_
      have jz9_ : jC S1_ := by (first | exact qz9_ | exact qz9_.1 | exact qz9_.2 | exact qz9_.2.1 | exact qz9_.2.2 | exact jC_fr hJ_ fz9_ (by decide) (by decide) (by decide) (by decide) (by decide) rfl rfl rfl rfl rfl rfl | exact jC_d hJ_ fz9_ qz9_ (by decide) (by decide) (by decide) rfl rfl rfl rfl rfl rfl | exact jC_d hJ_ fz9_ qz9_.1 (by decide) (by decide) (by decide) rfl rfl rfl rfl rfl rfl)
      refine sm_T_go 4 (c1 := (22, [some (.inr (.inr (some (12, 0)))), some (.inl kk_), some (.inl nu_), some (.inr (.inr (some (295, 0)))), none], [.inl 0], _)) rfl ?_
      exact sm_T_ri rfl ⟨_, _, _, rfl, Nat.le_of_ble_eq_true rfl, lhq_o iz9_ fz9_ jz9_ rfl rfl⟩
    · cases ez9_
  · rcases qz9_ with ⟨u2_, S2_, ez9_, qz9_⟩ | ⟨ex2_, S2_, ez9_, mz9_, qz9_⟩
    · cases ez9_
    · cases ez9_
      obtain ⟨iz9_, fz9_, qz9_⟩ := qz9_
      have jz9_ : jC S1_ := by first | exact qz9_ | (rw [qz9_]; exact hJ_) | exact jC_fr hJ_ fz9_ (by decide) (by decide) (by decide) (by decide) (by decide) rfl rfl rfl rfl rfl rfl
      simp only [List.mem_cons, List.not_mem_nil, or_false] at mz9_
      rcases mz9_ with rfl | rfl
      · refine ⟨_, _, _, _, _, rfl, Nat.le_of_ble_eq_true rfl, ?_⟩
        refine sm_T_go 1 (c1 := (_, _, [.inl _], S1_)) rfl ?_
        exact sm_T_ri rfl ⟨_, _, _, rfl, Nat.le_of_ble_eq_true rfl, lhq_x iz9_ fz9_ jz9_ rfl⟩
      · refine ⟨_, _, _, _, _, rfl, Nat.le_of_ble_eq_true rfl, ?_⟩
        refine sm_T_go 1 (c1 := (_, _, [.inl _], S1_)) rfl ?_
        exact sm_T_ri rfl ⟨_, _, _, rfl, Nat.le_of_ble_eq_true rfl, lhq_x iz9_ fz9_ jz9_ rfl⟩
theorem lh_567 {sc_ : Nat × (Nat → Int)} (kk_ : Int) (n_ : Int) (wh_ : Int) (S0_ : sm_S) (hI_ : gi S0_) (hJ_ : jC S0_) : sm_T (mt_P sc_) 3 567 (0, [some (.inr (.inr (some (12, 0)))), some (.inl kk_), some (.inl n_), some (.inl wh_), some (.inr (.inr (some (295, 0)))), none], [], S0_) (fun r_ => ∃ v_ S1_ k_, r_ = (.inl (some (.inl v_)), S1_, k_) ∧ k_ ≤ 2 ∧ lhq vw_245 S0_ S1_) := by
  refine sm_T_go 6 (c1 := (7, [some (.inr (.inr (some (12, 0)))), some (.inl kk_), some (.inl n_), some (.inl wh_), some (.inr (.inr (some (295, 0)))), none], [.inl wh_, .inl n_, .inl kk_, .inr (.inr (some (12, 0))), .inl 0, .inr (.inr (some (295, 0)))], S0_)) rfl ?_
  refine sm_T_call rfl rfl (vc_245 kk_ n_ wh_ S0_ hI_ hJ_) (fun u_ S1_ k1_ qz9_ => ?_) (fun ex_ S1_ k1_ qz9_ => ?_)
  · rcases qz9_ with ⟨u2_, S2_, ez9_, qz9_⟩ | ⟨ex2_, S2_, ez9_, mz9_, qz9_⟩
    · cases ez9_
      obtain ⟨v_, rfl, iz9_, fz9_, qz9_⟩ := qz9_
      have jz9_ : jC S1_ := by (first | exact qz9_ | exact qz9_.1 | exact qz9_.2 | exact qz9_.2.1 | exact qz9_.2.2 | exact jC_fr hJ_ fz9_ (by decide) (by decide) (by decide) (by decide) (by decide) rfl rfl rfl rfl rfl rfl | exact jC_d hJ_ fz9_ qz9_ (by decide) (by decide) (by decide) rfl rfl rfl rfl rfl rfl | exact jC_d hJ_ fz9_ qz9_.1 (by decide) (by decide) (by decide) rfl rfl rfl rfl rfl rfl)
      refine sm_T_go 4 (c1 := (28, [some (.inr (.inr (some (12, 0)))), some (.inl kk_), some (.inl n_), some (.inl wh_), some (.inr (.inr (some (295, 0)))), none], [.inl 0], _)) rfl ?_
      exact sm_T_ri rfl ⟨_, _, _, rfl, Nat.le_of_ble_eq_true rfl, lhq_o iz9_ fz9_ jz9_ rfl rfl⟩
    · cases ez9_
  · rcases qz9_ with ⟨u2_, S2_, ez9_, qz9_⟩ | ⟨ex2_, S2_, ez9_, mz9_, qz9_⟩
    · cases ez9_
    · cases ez9_
      obtain ⟨iz9_, fz9_, qz9_⟩ := qz9_
      have jz9_ : jC S1_ := by first | exact qz9_ | (rw [qz9_]; exact hJ_) | exact jC_fr hJ_ fz9_ (by decide) (by decide) (by decide) (by decide) (by decide) rfl rfl rfl rfl rfl rfl
      simp only [List.mem_cons, List.not_mem_nil, or_false] at mz9_
      rcases mz9_ with rfl | rfl | rfl
      · refine ⟨_, _, _, _, _, rfl, Nat.le_of_ble_eq_true rfl, ?_⟩
        refine sm_T_go 1 (c1 := (_, _, [.inl _], S1_)) rfl ?_
        exact sm_T_ri rfl ⟨_, _, _, rfl, Nat.le_of_ble_eq_true rfl, lhq_x iz9_ fz9_ jz9_ rfl⟩
      · refine ⟨_, _, _, _, _, rfl, Nat.le_of_ble_eq_true rfl, ?_⟩
        refine sm_T_go 1 (c1 := (_, _, [.inl _], S1_)) rfl ?_
        exact sm_T_ri rfl ⟨_, _, _, rfl, Nat.le_of_ble_eq_true rfl, lhq_x iz9_ fz9_ jz9_ rfl⟩
      · refine ⟨_, _, _, _, _, rfl, Nat.le_of_ble_eq_true rfl, ?_⟩
        refine sm_T_go 1 (c1 := (_, _, [.inl _], S1_)) rfl ?_
        exact sm_T_ri rfl ⟨_, _, _, rfl, Nat.le_of_ble_eq_true rfl, lhq_x iz9_ fz9_ jz9_ rfl⟩
theorem lh_568 {sc_ : Nat × (Nat → Int)} (kk_ : Int) (S0_ : sm_S) (hI_ : gi S0_) (hJ_ : jC S0_) : sm_T (mt_P sc_) 6 568 (0, [some (.inr (.inr (some (12, 0)))), some (.inl kk_), some (.inr (.inr (some (295, 0)))), none], [], S0_) (fun r_ => ∃ v_ S1_ k_, r_ = (.inl (some (.inl v_)), S1_, k_) ∧ k_ ≤ 2 ∧ lhq vw_246 S0_ S1_) := by
  refine sm_T_go 4 (c1 := (4, [some (.inr (.inr (some (12, 0)))), some (.inl kk_), some (.inr (.inr (some (295, 0)))), none], [.inl kk_, .inr (.inr (some (12, 0))), .inl 0, .inr (.inr (some (295, 0)))], S0_)) rfl ?_
  refine sm_T_call rfl rfl (vc_246 kk_ S0_ hI_ hJ_) (fun u_ S1_ k1_ qz9_ => ?_) (fun ex_ S1_ k1_ qz9_ => ?_)
  · rcases qz9_ with ⟨u2_, S2_, ez9_, qz9_⟩ | ⟨ex2_, S2_, ez9_, mz9_, qz9_⟩
    · cases ez9_
      obtain ⟨v_, rfl, iz9_, fz9_, qz9_⟩ := qz9_
      have jz9_ : jC S1_ := by (first | exact qz9_ | exact qz9_.1 | exact qz9_.2 | exact qz9_.2.1 | exact qz9_.2.2 | exact jC_fr hJ_ fz9_ (by decide) (by decide) (by decide) (by decide) (by decide) rfl rfl rfl rfl rfl rfl | exact jC_d hJ_ fz9_ qz9_ (by decide) (by decide) (by decide) rfl rfl rfl rfl rfl rfl | exact jC_d hJ_ fz9_ qz9_.1 (by decide) (by decide) (by decide) rfl rfl rfl rfl rfl rfl)
      refine sm_T_go 4 (c1 := (22, [some (.inr (.inr (some (12, 0)))), some (.inl kk_), some (.inr (.inr (some (295, 0)))), none], [.inl 0], _)) rfl ?_
      exact sm_T_ri rfl ⟨_, _, _, rfl, Nat.le_of_ble_eq_true rfl, lhq_o iz9_ fz9_ jz9_ rfl rfl⟩
    · cases ez9_
  · rcases qz9_ with ⟨u2_, S2_, ez9_, qz9_⟩ | ⟨ex2_, S2_, ez9_, mz9_, qz9_⟩
    · cases ez9_
    · cases ez9_
      obtain ⟨iz9_, fz9_, qz9_⟩ := qz9_
      have jz9_ : jC S1_ := by first | exact qz9_ | (rw [qz9_]; exact hJ_) | exact jC_fr hJ_ fz9_ (by decide) (by decide) (by decide) (by decide) (by decide) rfl rfl rfl rfl rfl rfl
      simp only [List.mem_cons, List.not_mem_nil, or_false] at mz9_
      rcases mz9_ with rfl | rfl | rfl
      · refine ⟨_, _, _, _, _, rfl, Nat.le_of_ble_eq_true rfl, ?_⟩
        refine sm_T_go 1 (c1 := (_, _, [.inl _], S1_)) rfl ?_
        exact sm_T_ri rfl ⟨_, _, _, rfl, Nat.le_of_ble_eq_true rfl, lhq_x iz9_ fz9_ jz9_ rfl⟩
      · refine ⟨_, _, _, _, _, rfl, Nat.le_of_ble_eq_true rfl, ?_⟩
        refine sm_T_go 1 (c1 := (_, _, [.inl _], S1_)) rfl ?_
        exact sm_T_ri rfl ⟨_, _, _, rfl, Nat.le_of_ble_eq_true rfl, lhq_x iz9_ fz9_ jz9_ rfl⟩
      · refine ⟨_, _, _, _, _, rfl, Nat.le_of_ble_eq_true rfl, ?_⟩
        refine sm_T_go 1 (c1 := (_, _, [.inl _], S1_)) rfl ?_
        exact sm_T_ri rfl ⟨_, _, _, rfl, Nat.le_of_ble_eq_true rfl, lhq_x iz9_ fz9_ jz9_ rfl⟩
theorem lh_569 {sc_ : Nat × (Nat → Int)} (kk_ : Int) (b_ : Int) (wh_ : Int) (S0_ : sm_S) (hI_ : gi S0_) (hJ_ : jC S0_) : sm_T (mt_P sc_) 3 569 (0, [some (.inr (.inr (some (12, 0)))), some (.inl kk_), some (.inl b_), some (.inl wh_), some (.inr (.inr (some (295, 0)))), none], [], S0_) (fun r_ => ∃ v_ S1_ k_, r_ = (.inl (some (.inl v_)), S1_, k_) ∧ k_ ≤ 2 ∧ lhq vw_247 S0_ S1_) := by
  refine sm_T_go 6 (c1 := (7, [some (.inr (.inr (some (12, 0)))), some (.inl kk_), some (.inl b_), some (.inl wh_), some (.inr (.inr (some (295, 0)))), none], [.inl wh_, .inl b_, .inl kk_, .inr (.inr (some (12, 0))), .inl 0, .inr (.inr (some (295, 0)))], S0_)) rfl ?_
  refine sm_T_call rfl rfl (vc_247 kk_ b_ wh_ S0_ hI_ hJ_) (fun u_ S1_ k1_ qz9_ => ?_) (fun ex_ S1_ k1_ qz9_ => ?_)
  · rcases qz9_ with ⟨u2_, S2_, ez9_, qz9_⟩ | ⟨ex2_, S2_, ez9_, mz9_, qz9_⟩
    · cases ez9_
      obtain ⟨v_, rfl, iz9_, fz9_, qz9_⟩ := qz9_
      have jz9_ : jC S1_ := by (first | exact qz9_ | exact qz9_.1 | exact qz9_.2 | exact qz9_.2.1 | exact qz9_.2.2 | exact jC_fr hJ_ fz9_ (by decide) (by decide) (by decide) (by decide) (by decide) rfl rfl rfl rfl rfl rfl | exact jC_d hJ_ fz9_ qz9_ (by decide) (by decide) (by decide) rfl rfl rfl rfl rfl rfl | exact jC_d hJ_ fz9_ qz9_.1 (by decide) (by decide) (by decide) rfl rfl rfl rfl rfl rfl)
      refine sm_T_go 4 (c1 := (28, [some (.inr (.inr (some (12, 0)))), some (.inl kk_), some (.inl b_), some (.inl wh_), some (.inr (.inr (some (295, 0)))), none], [.inl 0], _)) rfl ?_
      exact sm_T_ri rfl ⟨_, _, _, rfl, Nat.le_of_ble_eq_true rfl, lhq_o iz9_ fz9_ jz9_ rfl rfl⟩
    · cases ez9_
  · rcases qz9_ with ⟨u2_, S2_, ez9_, qz9_⟩ | ⟨ex2_, S2_, ez9_, mz9_, qz9_⟩
    · cases ez9_
    · cases ez9_
      obtain ⟨iz9_, fz9_, qz9_⟩ := qz9_
      have jz9_ : jC S1_ := by first | exact qz9_ | (rw [qz9_]; exact hJ_) | exact jC_fr hJ_ fz9_ (by decide) (by decide) (by decide) (by decide) (by decide) rfl rfl rfl rfl rfl rfl
      simp only [List.mem_cons, List.not_mem_nil, or_false] at mz9_
      rcases mz9_ with rfl | rfl | rfl
      · refine ⟨_, _, _, _, _, rfl, Nat.le_of_ble_eq_true rfl, ?_⟩
        refine sm_T_go 1 (c1 := (_, _, [.inl _], S1_)) rfl ?_
        exact sm_T_ri rfl ⟨_, _, _, rfl, Nat.le_of_ble_eq_true rfl, lhq_x iz9_ fz9_ jz9_ rfl⟩
      · refine ⟨_, _, _, _, _, rfl, Nat.le_of_ble_eq_true rfl, ?_⟩
        refine sm_T_go 1 (c1 := (_, _, [.inl _], S1_)) rfl ?_
        exact sm_T_ri rfl ⟨_, _, _, rfl, Nat.le_of_ble_eq_true rfl, lhq_x iz9_ fz9_ jz9_ rfl⟩
      · refine ⟨_, _, _, _, _, rfl, Nat.le_of_ble_eq_true rfl, ?_⟩
        refine sm_T_go 1 (c1 := (_, _, [.inl _], S1_)) rfl ?_
        exact sm_T_ri rfl ⟨_, _, _, rfl, Nat.le_of_ble_eq_true rfl, lhq_x iz9_ fz9_ jz9_ rfl⟩
theorem lh_570 {sc_ : Nat × (Nat → Int)} (kk_ : Int) (ly_ : Int) (x0_ : Int) (y0_ : Int) (x1_ : Int) (y1_ : Int) (S0_ : sm_S) (hI_ : gi S0_) (hJ_ : jC S0_) : sm_T (mt_P sc_) 3 570 (0, [some (.inr (.inr (some (12, 0)))), some (.inl kk_), some (.inl ly_), some (.inl x0_), some (.inl y0_), some (.inl x1_), some (.inl y1_), some (.inr (.inr (some (295, 0)))), none], [], S0_) (fun r_ => ∃ v_ S1_ k_, r_ = (.inl (some (.inl v_)), S1_, k_) ∧ k_ ≤ 2 ∧ lhq vw_248 S0_ S1_) := by
  refine sm_T_go 9 (c1 := (13, [some (.inr (.inr (some (12, 0)))), some (.inl kk_), some (.inl ly_), some (.inl x0_), some (.inl y0_), some (.inl x1_), some (.inl y1_), some (.inr (.inr (some (295, 0)))), none], [.inl y1_, .inl x1_, .inl y0_, .inl x0_, .inl ly_, .inl kk_, .inr (.inr (some (12, 0))), .inl 0, .inr (.inr (some (295, 0)))], S0_)) rfl ?_
  refine sm_T_call rfl rfl (vc_248 kk_ ly_ x0_ y0_ x1_ y1_ S0_ hI_ hJ_) (fun u_ S1_ k1_ qz9_ => ?_) (fun ex_ S1_ k1_ qz9_ => ?_)
  · rcases qz9_ with ⟨u2_, S2_, ez9_, qz9_⟩ | ⟨ex2_, S2_, ez9_, mz9_, qz9_⟩
    · cases ez9_
      obtain ⟨v_, rfl, iz9_, fz9_, qz9_⟩ := qz9_
      have jz9_ : jC S1_ := by (first | exact qz9_ | exact qz9_.1 | exact qz9_.2 | exact qz9_.2.1 | exact qz9_.2.2 | exact jC_fr hJ_ fz9_ (by decide) (by decide) (by decide) (by decide) (by decide) rfl rfl rfl rfl rfl rfl | exact jC_d hJ_ fz9_ qz9_ (by decide) (by decide) (by decide) rfl rfl rfl rfl rfl rfl | exact jC_d hJ_ fz9_ qz9_.1 (by decide) (by decide) (by decide) rfl rfl rfl rfl rfl rfl)
      refine sm_T_go 4 (c1 := (38, [some (.inr (.inr (some (12, 0)))), some (.inl kk_), some (.inl ly_), some (.inl x0_), some (.inl y0_), some (.inl x1_), some (.inl y1_), some (.inr (.inr (some (295, 0)))), none], [.inl 0], _)) rfl ?_
      exact sm_T_ri rfl ⟨_, _, _, rfl, Nat.le_of_ble_eq_true rfl, lhq_o iz9_ fz9_ jz9_ rfl rfl⟩
    · cases ez9_
  · rcases qz9_ with ⟨u2_, S2_, ez9_, qz9_⟩ | ⟨ex2_, S2_, ez9_, mz9_, qz9_⟩
    · cases ez9_
    · cases ez9_
      obtain ⟨iz9_, fz9_, qz9_⟩ := qz9_
      have jz9_ : jC S1_ := by first | exact qz9_ | (rw [qz9_]; exact hJ_) | exact jC_fr hJ_ fz9_ (by decide) (by decide) (by decide) (by decide) (by decide) rfl rfl rfl rfl rfl rfl
      simp only [List.mem_cons, List.not_mem_nil, or_false] at mz9_
      rcases mz9_ with rfl | rfl | rfl | rfl
      · refine ⟨_, _, _, _, _, rfl, Nat.le_of_ble_eq_true rfl, ?_⟩
        refine sm_T_go 1 (c1 := (_, _, [.inl _], S1_)) rfl ?_
        exact sm_T_ri rfl ⟨_, _, _, rfl, Nat.le_of_ble_eq_true rfl, lhq_x iz9_ fz9_ jz9_ rfl⟩
      · refine ⟨_, _, _, _, _, rfl, Nat.le_of_ble_eq_true rfl, ?_⟩
        refine sm_T_go 1 (c1 := (_, _, [.inl _], S1_)) rfl ?_
        exact sm_T_ri rfl ⟨_, _, _, rfl, Nat.le_of_ble_eq_true rfl, lhq_x iz9_ fz9_ jz9_ rfl⟩
      · refine ⟨_, _, _, _, _, rfl, Nat.le_of_ble_eq_true rfl, ?_⟩
        refine sm_T_go 1 (c1 := (_, _, [.inl _], S1_)) rfl ?_
        exact sm_T_ri rfl ⟨_, _, _, rfl, Nat.le_of_ble_eq_true rfl, lhq_x iz9_ fz9_ jz9_ rfl⟩
      · refine ⟨_, _, _, _, _, rfl, Nat.le_of_ble_eq_true rfl, ?_⟩
        refine sm_T_go 1 (c1 := (_, _, [.inl _], S1_)) rfl ?_
        exact sm_T_ri rfl ⟨_, _, _, rfl, Nat.le_of_ble_eq_true rfl, lhq_x iz9_ fz9_ jz9_ rfl⟩
theorem lh_571 {sc_ : Nat × (Nat → Int)} (kk_ : Int) (b_ : Int) (S0_ : sm_S) (hI_ : gi S0_) (hJ_ : jC S0_) : sm_T (mt_P sc_) 3 571 (0, [some (.inr (.inr (some (12, 0)))), some (.inl kk_), some (.inl b_), some (.inr (.inr (some (295, 0)))), none], [], S0_) (fun r_ => ∃ v_ S1_ k_, r_ = (.inl (some (.inl v_)), S1_, k_) ∧ k_ ≤ 2 ∧ lhq vw_249 S0_ S1_) := by
  refine sm_T_go 5 (c1 := (5, [some (.inr (.inr (some (12, 0)))), some (.inl kk_), some (.inl b_), some (.inr (.inr (some (295, 0)))), none], [.inl b_, .inl kk_, .inr (.inr (some (12, 0))), .inl 0, .inr (.inr (some (295, 0)))], S0_)) rfl ?_
  refine sm_T_call rfl rfl (vc_249 kk_ b_ S0_ hI_ hJ_) (fun u_ S1_ k1_ qz9_ => ?_) (fun ex_ S1_ k1_ qz9_ => ?_)
  · rcases qz9_ with ⟨u2_, S2_, ez9_, qz9_⟩ | ⟨ex2_, S2_, ez9_, mz9_, qz9_⟩
    · cases ez9_
      obtain ⟨v_, rfl, iz9_, fz9_, qz9_⟩ := qz9_
      have jz9_ : jC S1_ := by (first | exact qz9_ | exact qz9_.1 | exact qz9_.2 | exact qz9_.2.1 | exact qz9_.2.2 | exact jC_fr hJ_ fz9_ (by decide) (by decide) (by decide) (by decide) (by decide) rfl rfl rfl rfl rfl rfl | exact jC_d hJ_ fz9_ qz9_ (by decide) (by decide) (by decide) rfl rfl rfl rfl rfl rfl | exact jC_d hJ_ fz9_ qz9_.1 (by decide) (by decide) (by decide) rfl rfl rfl rfl rfl rfl)
      refine sm_T_go 4 (c1 := (22, [some (.inr (.inr (some (12, 0)))), some (.inl kk_), some (.inl b_), some (.inr (.inr (some (295, 0)))), none], [.inl 0], _)) rfl ?_
      exact sm_T_ri rfl ⟨_, _, _, rfl, Nat.le_of_ble_eq_true rfl, lhq_o iz9_ fz9_ jz9_ rfl rfl⟩
    · cases ez9_
  · rcases qz9_ with ⟨u2_, S2_, ez9_, qz9_⟩ | ⟨ex2_, S2_, ez9_, mz9_, qz9_⟩
    · cases ez9_
    · cases ez9_
      obtain ⟨iz9_, fz9_, qz9_⟩ := qz9_
      have jz9_ : jC S1_ := by first | exact qz9_ | (rw [qz9_]; exact hJ_) | exact jC_fr hJ_ fz9_ (by decide) (by decide) (by decide) (by decide) (by decide) rfl rfl rfl rfl rfl rfl
      simp only [List.mem_cons, List.not_mem_nil, or_false] at mz9_
      rcases mz9_ with rfl | rfl
      · refine ⟨_, _, _, _, _, rfl, Nat.le_of_ble_eq_true rfl, ?_⟩
        refine sm_T_go 1 (c1 := (_, _, [.inl _], S1_)) rfl ?_
        exact sm_T_ri rfl ⟨_, _, _, rfl, Nat.le_of_ble_eq_true rfl, lhq_x iz9_ fz9_ jz9_ rfl⟩
      · refine ⟨_, _, _, _, _, rfl, Nat.le_of_ble_eq_true rfl, ?_⟩
        refine sm_T_go 1 (c1 := (_, _, [.inl _], S1_)) rfl ?_
        exact sm_T_ri rfl ⟨_, _, _, rfl, Nat.le_of_ble_eq_true rfl, lhq_x iz9_ fz9_ jz9_ rfl⟩
theorem lh_572 {sc_ : Nat × (Nat → Int)} (kk_ : Int) (S0_ : sm_S) (hI_ : gi S0_) (hJ_ : jC S0_) : sm_T (mt_P sc_) 3 572 (0, [some (.inr (.inr (some (12, 0)))), some (.inl kk_), some (.inr (.inr (some (295, 0)))), none], [], S0_) (fun r_ => ∃ v_ S1_ k_, r_ = (.inl (some (.inl v_)), S1_, k_) ∧ k_ ≤ 2 ∧ lhq vw_250 S0_ S1_) := by
  refine sm_T_go 4 (c1 := (4, [some (.inr (.inr (some (12, 0)))), some (.inl kk_), some (.inr (.inr (some (295, 0)))), none], [.inl kk_, .inr (.inr (some (12, 0))), .inl 0, .inr (.inr (some (295, 0)))], S0_)) rfl ?_
  refine sm_T_call rfl rfl (vc_250 kk_ S0_ hI_ hJ_) (fun u_ S1_ k1_ qz9_ => ?_) (fun ex_ S1_ k1_ qz9_ => ?_)
  · rcases qz9_ with ⟨u2_, S2_, ez9_, qz9_⟩ | ⟨ex2_, S2_, ez9_, mz9_, qz9_⟩
    · cases ez9_
      obtain ⟨v_, rfl, iz9_, fz9_, qz9_⟩ := qz9_
      have jz9_ : jC S1_ := by (first | exact qz9_ | exact qz9_.1 | exact qz9_.2 | exact qz9_.2.1 | exact qz9_.2.2 | exact jC_fr hJ_ fz9_ (by decide) (by decide) (by decide) (by decide) (by decide) rfl rfl rfl rfl rfl rfl | exact jC_d hJ_ fz9_ qz9_ (by decide) (by decide) (by decide) rfl rfl rfl rfl rfl rfl | exact jC_d hJ_ fz9_ qz9_.1 (by decide) (by decide) (by decide) rfl rfl rfl rfl rfl rfl)
      refine sm_T_go 4 (c1 := (19, [some (.inr (.inr (some (12, 0)))), some (.inl kk_), some (.inr (.inr (some (295, 0)))), none], [.inl 0], _)) rfl ?_
      exact sm_T_ri rfl ⟨_, _, _, rfl, Nat.le_of_ble_eq_true rfl, lhq_o iz9_ fz9_ jz9_ rfl rfl⟩
    · cases ez9_
  · rcases qz9_ with ⟨u2_, S2_, ez9_, qz9_⟩ | ⟨ex2_, S2_, ez9_, mz9_, qz9_⟩
    · cases ez9_
    · cases ez9_
      obtain ⟨iz9_, fz9_, qz9_⟩ := qz9_
      have jz9_ : jC S1_ := by first | exact qz9_ | (rw [qz9_]; exact hJ_) | exact jC_fr hJ_ fz9_ (by decide) (by decide) (by decide) (by decide) (by decide) rfl rfl rfl rfl rfl rfl
      simp only [List.mem_cons, List.not_mem_nil, or_false] at mz9_
      rcases mz9_ with rfl | rfl
      · refine ⟨_, _, _, _, _, rfl, Nat.le_of_ble_eq_true rfl, ?_⟩
        refine sm_T_go 1 (c1 := (_, _, [.inl _], S1_)) rfl ?_
        exact sm_T_ri rfl ⟨_, _, _, rfl, Nat.le_of_ble_eq_true rfl, lhq_x iz9_ fz9_ jz9_ rfl⟩
      · refine ⟨_, _, _, _, _, rfl, Nat.le_of_ble_eq_true rfl, ?_⟩
        refine sm_T_go 1 (c1 := (_, _, [.inl _], S1_)) rfl ?_
        exact sm_T_ri rfl ⟨_, _, _, rfl, Nat.le_of_ble_eq_true rfl, lhq_x iz9_ fz9_ jz9_ rfl⟩
theorem lh_573 {sc_ : Nat × (Nat → Int)} (kk_ : Int) (k_ : Int) (sd_ : Int) (S0_ : sm_S) (hI_ : gi S0_) (hJ_ : jC S0_) (hk9_ : -2147483648 ≤ k_ ∧ k_ ≤ 2147483647) : sm_T (mt_P sc_) 4 573 (0, [some (.inr (.inr (some (12, 0)))), some (.inl kk_), some (.inl k_), some (.inl sd_), some (.inr (.inr (some (295, 0)))), none], [], S0_) (fun r_ => ∃ v_ S1_ k_, r_ = (.inl (some (.inl v_)), S1_, k_) ∧ k_ ≤ 2 ∧ lhq vw_251 S0_ S1_) := by
  refine sm_T_go 6 (c1 := (7, [some (.inr (.inr (some (12, 0)))), some (.inl kk_), some (.inl k_), some (.inl sd_), some (.inr (.inr (some (295, 0)))), none], [.inl sd_, .inl k_, .inl kk_, .inr (.inr (some (12, 0))), .inl 0, .inr (.inr (some (295, 0)))], S0_)) rfl ?_
  refine sm_T_call rfl rfl (vc_251 kk_ k_ sd_ S0_ hI_ hJ_ hk9_) (fun u_ S1_ k1_ qz9_ => ?_) (fun ex_ S1_ k1_ qz9_ => ?_)
  · rcases qz9_ with ⟨u2_, S2_, ez9_, qz9_⟩ | ⟨ex2_, S2_, ez9_, mz9_, qz9_⟩
    · cases ez9_
      obtain ⟨v_, rfl, iz9_, fz9_, qz9_⟩ := qz9_
      have jz9_ : jC S1_ := by (first | exact qz9_ | exact qz9_.1 | exact qz9_.2 | exact qz9_.2.1 | exact qz9_.2.2 | exact jC_fr hJ_ fz9_ (by decide) (by decide) (by decide) (by decide) (by decide) rfl rfl rfl rfl rfl rfl | exact jC_d hJ_ fz9_ qz9_ (by decide) (by decide) (by decide) rfl rfl rfl rfl rfl rfl | exact jC_d hJ_ fz9_ qz9_.1 (by decide) (by decide) (by decide) rfl rfl rfl rfl rfl rfl)
      refine sm_T_go 4 (c1 := (24, [some (.inr (.inr (some (12, 0)))), some (.inl kk_), some (.inl k_), some (.inl sd_), some (.inr (.inr (some (295, 0)))), none], [.inl 0], _)) rfl ?_
      exact sm_T_ri rfl ⟨_, _, _, rfl, Nat.le_of_ble_eq_true rfl, lhq_o iz9_ fz9_ jz9_ rfl rfl⟩
    · cases ez9_
  · rcases qz9_ with ⟨u2_, S2_, ez9_, qz9_⟩ | ⟨ex2_, S2_, ez9_, mz9_, qz9_⟩
    · cases ez9_
    · cases ez9_
      obtain ⟨iz9_, fz9_, qz9_⟩ := qz9_
      have jz9_ : jC S1_ := by first | exact qz9_ | (rw [qz9_]; exact hJ_) | exact jC_fr hJ_ fz9_ (by decide) (by decide) (by decide) (by decide) (by decide) rfl rfl rfl rfl rfl rfl
      simp only [List.mem_cons, List.not_mem_nil, or_false] at mz9_
      rcases mz9_ with rfl | rfl
      · refine ⟨_, _, _, _, _, rfl, Nat.le_of_ble_eq_true rfl, ?_⟩
        refine sm_T_go 1 (c1 := (_, _, [.inl _], S1_)) rfl ?_
        exact sm_T_ri rfl ⟨_, _, _, rfl, Nat.le_of_ble_eq_true rfl, lhq_x iz9_ fz9_ jz9_ rfl⟩
      · refine ⟨_, _, _, _, _, rfl, Nat.le_of_ble_eq_true rfl, ?_⟩
        refine sm_T_go 1 (c1 := (_, _, [.inl _], S1_)) rfl ?_
        exact sm_T_ri rfl ⟨_, _, _, rfl, Nat.le_of_ble_eq_true rfl, lhq_x iz9_ fz9_ jz9_ rfl⟩
theorem lh_574 {sc_ : Nat × (Nat → Int)} (kk_ : Int) (wh_ : Int) (S0_ : sm_S) (hI_ : gi S0_) (hJ_ : jC S0_) : sm_T (mt_P sc_) 5 574 (0, [some (.inr (.inr (some (12, 0)))), some (.inl kk_), some (.inl wh_), some (.inr (.inr (some (295, 0)))), none], [], S0_) (fun r_ => ∃ v_ S1_ k_, r_ = (.inl (some (.inl v_)), S1_, k_) ∧ k_ ≤ 2 ∧ lhq vw_252 S0_ S1_) := by
  refine sm_T_go 5 (c1 := (5, [some (.inr (.inr (some (12, 0)))), some (.inl kk_), some (.inl wh_), some (.inr (.inr (some (295, 0)))), none], [.inl wh_, .inl kk_, .inr (.inr (some (12, 0))), .inl 0, .inr (.inr (some (295, 0)))], S0_)) rfl ?_
  refine sm_T_call rfl rfl (vc_252 kk_ wh_ S0_ hI_ hJ_) (fun u_ S1_ k1_ qz9_ => ?_) (fun ex_ S1_ k1_ qz9_ => ?_)
  · rcases qz9_ with ⟨u2_, S2_, ez9_, qz9_⟩ | ⟨ex2_, S2_, ez9_, mz9_, qz9_⟩
    · cases ez9_
      obtain ⟨v_, rfl, iz9_, fz9_, qz9_⟩ := qz9_
      have jz9_ : jC S1_ := by (first | exact qz9_ | exact qz9_.1 | exact qz9_.2 | exact qz9_.2.1 | exact qz9_.2.2 | exact jC_fr hJ_ fz9_ (by decide) (by decide) (by decide) (by decide) (by decide) rfl rfl rfl rfl rfl rfl | exact jC_d hJ_ fz9_ qz9_ (by decide) (by decide) (by decide) rfl rfl rfl rfl rfl rfl | exact jC_d hJ_ fz9_ qz9_.1 (by decide) (by decide) (by decide) rfl rfl rfl rfl rfl rfl)
      refine sm_T_go 4 (c1 := (26, [some (.inr (.inr (some (12, 0)))), some (.inl kk_), some (.inl wh_), some (.inr (.inr (some (295, 0)))), none], [.inl 0], _)) rfl ?_
      exact sm_T_ri rfl ⟨_, _, _, rfl, Nat.le_of_ble_eq_true rfl, lhq_o iz9_ fz9_ jz9_ rfl rfl⟩
    · cases ez9_
  · rcases qz9_ with ⟨u2_, S2_, ez9_, qz9_⟩ | ⟨ex2_, S2_, ez9_, mz9_, qz9_⟩
    · cases ez9_
    · cases ez9_
      obtain ⟨iz9_, fz9_, qz9_⟩ := qz9_
      have jz9_ : jC S1_ := by first | exact qz9_ | (rw [qz9_]; exact hJ_) | exact jC_fr hJ_ fz9_ (by decide) (by decide) (by decide) (by decide) (by decide) rfl rfl rfl rfl rfl rfl
      simp only [List.mem_cons, List.not_mem_nil, or_false] at mz9_
      rcases mz9_ with rfl | rfl | rfl
      · refine ⟨_, _, _, _, _, rfl, Nat.le_of_ble_eq_true rfl, ?_⟩
        refine sm_T_go 1 (c1 := (_, _, [.inl _], S1_)) rfl ?_
        exact sm_T_ri rfl ⟨_, _, _, rfl, Nat.le_of_ble_eq_true rfl, lhq_x iz9_ fz9_ jz9_ rfl⟩
      · refine ⟨_, _, _, _, _, rfl, Nat.le_of_ble_eq_true rfl, ?_⟩
        refine sm_T_go 1 (c1 := (_, _, [.inl _], S1_)) rfl ?_
        exact sm_T_ri rfl ⟨_, _, _, rfl, Nat.le_of_ble_eq_true rfl, lhq_x iz9_ fz9_ jz9_ rfl⟩
      · refine ⟨_, _, _, _, _, rfl, Nat.le_of_ble_eq_true rfl, ?_⟩
        refine sm_T_go 1 (c1 := (_, _, [.inl _], S1_)) rfl ?_
        exact sm_T_ri rfl ⟨_, _, _, rfl, Nat.le_of_ble_eq_true rfl, lhq_x iz9_ fz9_ jz9_ rfl⟩
theorem lh_575 {sc_ : Nat × (Nat → Int)} (kk_ : Int) (n_ : Int) (lt_ : Int) (S0_ : sm_S) (hI_ : gi S0_) (hJ_ : jC S0_) : sm_T (mt_P sc_) 4 575 (0, [some (.inr (.inr (some (12, 0)))), some (.inl kk_), some (.inl n_), some (.inl lt_), some (.inr (.inr (some (295, 0)))), none], [], S0_) (fun r_ => ∃ v_ S1_ k_, r_ = (.inl (some (.inl v_)), S1_, k_) ∧ k_ ≤ 2 ∧ lhq vw_253 S0_ S1_) := by
  refine sm_T_go 6 (c1 := (7, [some (.inr (.inr (some (12, 0)))), some (.inl kk_), some (.inl n_), some (.inl lt_), some (.inr (.inr (some (295, 0)))), none], [.inl lt_, .inl n_, .inl kk_, .inr (.inr (some (12, 0))), .inl 0, .inr (.inr (some (295, 0)))], S0_)) rfl ?_
  refine sm_T_call rfl rfl (vc_253 kk_ n_ lt_ S0_ hI_ hJ_) (fun u_ S1_ k1_ qz9_ => ?_) (fun ex_ S1_ k1_ qz9_ => ?_)
  · rcases qz9_ with ⟨u2_, S2_, ez9_, qz9_⟩ | ⟨ex2_, S2_, ez9_, mz9_, qz9_⟩
    · cases ez9_
      obtain ⟨v_, rfl, iz9_, fz9_, qz9_⟩ := qz9_
      have jz9_ : jC S1_ := by (first | exact qz9_ | exact qz9_.1 | exact qz9_.2 | exact qz9_.2.1 | exact qz9_.2.2 | exact jC_fr hJ_ fz9_ (by decide) (by decide) (by decide) (by decide) (by decide) rfl rfl rfl rfl rfl rfl | exact jC_d hJ_ fz9_ qz9_ (by decide) (by decide) (by decide) rfl rfl rfl rfl rfl rfl | exact jC_d hJ_ fz9_ qz9_.1 (by decide) (by decide) (by decide) rfl rfl rfl rfl rfl rfl)
      refine sm_T_go 4 (c1 := (20, [some (.inr (.inr (some (12, 0)))), some (.inl kk_), some (.inl n_), some (.inl lt_), some (.inr (.inr (some (295, 0)))), none], [.inl 0], _)) rfl ?_
      exact sm_T_ri rfl ⟨_, _, _, rfl, Nat.le_of_ble_eq_true rfl, lhq_o iz9_ fz9_ jz9_ rfl rfl⟩
    · cases ez9_
  · rcases qz9_ with ⟨u2_, S2_, ez9_, qz9_⟩ | ⟨ex2_, S2_, ez9_, mz9_, qz9_⟩
    · cases ez9_
    · cases ez9_
      obtain ⟨iz9_, fz9_, qz9_⟩ := qz9_
      have jz9_ : jC S1_ := by first | exact qz9_ | (rw [qz9_]; exact hJ_) | exact jC_fr hJ_ fz9_ (by decide) (by decide) (by decide) (by decide) (by decide) rfl rfl rfl rfl rfl rfl
      simp only [List.mem_cons, List.not_mem_nil, or_false] at mz9_
      subst mz9_
      refine ⟨_, _, _, _, _, rfl, Nat.le_of_ble_eq_true rfl, ?_⟩
      refine sm_T_go 1 (c1 := (_, _, [.inl _], S1_)) rfl ?_
      exact sm_T_ri rfl ⟨_, _, _, rfl, Nat.le_of_ble_eq_true rfl, lhq_x iz9_ fz9_ jz9_ rfl⟩
theorem lh_576 {sc_ : Nat × (Nat → Int)} (kk_ : Int) (n_ : Int) (e_ : Int) (S0_ : sm_S) (hI_ : gi S0_) (hJ_ : jC S0_) : sm_T (mt_P sc_) 3 576 (0, [some (.inr (.inr (some (12, 0)))), some (.inl kk_), some (.inl n_), some (.inl e_), some (.inr (.inr (some (295, 0)))), none], [], S0_) (fun r_ => ∃ v_ S1_ k_, r_ = (.inl (some (.inl v_)), S1_, k_) ∧ k_ ≤ 2 ∧ lhq vw_254 S0_ S1_) := by
  refine sm_T_go 6 (c1 := (7, [some (.inr (.inr (some (12, 0)))), some (.inl kk_), some (.inl n_), some (.inl e_), some (.inr (.inr (some (295, 0)))), none], [.inl e_, .inl n_, .inl kk_, .inr (.inr (some (12, 0))), .inl 0, .inr (.inr (some (295, 0)))], S0_)) rfl ?_
  refine sm_T_call rfl rfl (vc_254 kk_ n_ e_ S0_ hI_ hJ_) (fun u_ S1_ k1_ qz9_ => ?_) (fun ex_ S1_ k1_ qz9_ => ?_)
  · rcases qz9_ with ⟨u2_, S2_, ez9_, qz9_⟩ | ⟨ex2_, S2_, ez9_, mz9_, qz9_⟩
    · cases ez9_
      obtain ⟨v_, rfl, iz9_, fz9_, qz9_⟩ := qz9_
      have jz9_ : jC S1_ := by (first | exact qz9_ | exact qz9_.1 | exact qz9_.2 | exact qz9_.2.1 | exact qz9_.2.2 | exact jC_fr hJ_ fz9_ (by decide) (by decide) (by decide) (by decide) (by decide) rfl rfl rfl rfl rfl rfl | exact jC_d hJ_ fz9_ qz9_ (by decide) (by decide) (by decide) rfl rfl rfl rfl rfl rfl | exact jC_d hJ_ fz9_ qz9_.1 (by decide) (by decide) (by decide) rfl rfl rfl rfl rfl rfl)
      refine sm_T_b0 (a := 0) (z := 7) rfl (fun c_ => ?_) (fun c_ => ?_)
      · refine sm_T_go 4 (c1 := (31, [some (.inr (.inr (some (12, 0)))), some (.inl kk_), some (.inl n_), some (.inl e_), some (.inr (.inr (some (295, 0)))), none], [.inl 0], _)) rfl ?_
        exact sm_T_ri rfl ⟨_, _, _, rfl, Nat.le_of_ble_eq_true rfl, lhq_o iz9_ fz9_ jz9_ rfl rfl⟩
      · refine sm_T_go 5 (c1 := (31, [some (.inr (.inr (some (12, 0)))), some (.inl kk_), some (.inl n_), some (.inl e_), some (.inr (.inr (some (295, 0)))), none], [.inl 0], _)) rfl ?_
        exact sm_T_ri rfl ⟨_, _, _, rfl, Nat.le_of_ble_eq_true rfl, lhq_o iz9_ fz9_ jz9_ rfl rfl⟩
    · cases ez9_
  · rcases qz9_ with ⟨u2_, S2_, ez9_, qz9_⟩ | ⟨ex2_, S2_, ez9_, mz9_, qz9_⟩
    · cases ez9_
    · cases ez9_
      obtain ⟨iz9_, fz9_, qz9_⟩ := qz9_
      have jz9_ : jC S1_ := by first | exact qz9_ | (rw [qz9_]; exact hJ_) | exact jC_fr hJ_ fz9_ (by decide) (by decide) (by decide) (by decide) (by decide) rfl rfl rfl rfl rfl rfl
      simp only [List.mem_cons, List.not_mem_nil, or_false] at mz9_
      rcases mz9_ with rfl | rfl
      · refine ⟨_, _, _, _, _, rfl, Nat.le_of_ble_eq_true rfl, ?_⟩
        refine sm_T_go 1 (c1 := (_, _, [.inl _], S1_)) rfl ?_
        exact sm_T_ri rfl ⟨_, _, _, rfl, Nat.le_of_ble_eq_true rfl, lhq_x iz9_ fz9_ jz9_ rfl⟩
      · refine ⟨_, _, _, _, _, rfl, Nat.le_of_ble_eq_true rfl, ?_⟩
        refine sm_T_go 1 (c1 := (_, _, [.inl _], S1_)) rfl ?_
        exact sm_T_ri rfl ⟨_, _, _, rfl, Nat.le_of_ble_eq_true rfl, lhq_x iz9_ fz9_ jz9_ rfl⟩
theorem lh_577 {sc_ : Nat × (Nat → Int)} (kk_ : Int) (k_ : Int) (wh_ : Int) (S0_ : sm_S) (hI_ : gi S0_) (hJ_ : jC S0_) : sm_T (mt_P sc_) 5 577 (0, [some (.inr (.inr (some (12, 0)))), some (.inl kk_), some (.inl k_), some (.inl wh_), some (.inr (.inr (some (295, 0)))), none], [], S0_) (fun r_ => ∃ v_ S1_ k_, r_ = (.inl (some (.inl v_)), S1_, k_) ∧ k_ ≤ 2 ∧ lhq vw_255 S0_ S1_) := by
  refine sm_T_go 6 (c1 := (7, [some (.inr (.inr (some (12, 0)))), some (.inl kk_), some (.inl k_), some (.inl wh_), some (.inr (.inr (some (295, 0)))), none], [.inl wh_, .inl k_, .inl kk_, .inr (.inr (some (12, 0))), .inl 0, .inr (.inr (some (295, 0)))], S0_)) rfl ?_
  refine sm_T_call rfl rfl (vc_255 kk_ k_ wh_ S0_ hI_ hJ_) (fun u_ S1_ k1_ qz9_ => ?_) (fun ex_ S1_ k1_ qz9_ => ?_)
  · rcases qz9_ with ⟨u2_, S2_, ez9_, qz9_⟩ | ⟨ex2_, S2_, ez9_, mz9_, qz9_⟩
    · cases ez9_
      obtain ⟨v_, rfl, iz9_, fz9_, qz9_⟩ := qz9_
      have jz9_ : jC S1_ := by (first | exact qz9_ | exact qz9_.1 | exact qz9_.2 | exact qz9_.2.1 | exact qz9_.2.2 | exact jC_fr hJ_ fz9_ (by decide) (by decide) (by decide) (by decide) (by decide) rfl rfl rfl rfl rfl rfl | exact jC_d hJ_ fz9_ qz9_ (by decide) (by decide) (by decide) rfl rfl rfl rfl rfl rfl | exact jC_d hJ_ fz9_ qz9_.1 (by decide) (by decide) (by decide) rfl rfl rfl rfl rfl rfl)
      refine sm_T_go 4 (c1 := (20, [some (.inr (.inr (some (12, 0)))), some (.inl kk_), some (.inl k_), some (.inl wh_), some (.inr (.inr (some (295, 0)))), none], [.inl 0], _)) rfl ?_
      exact sm_T_ri rfl ⟨_, _, _, rfl, Nat.le_of_ble_eq_true rfl, lhq_o iz9_ fz9_ jz9_ rfl rfl⟩
    · cases ez9_
  · rcases qz9_ with ⟨u2_, S2_, ez9_, qz9_⟩ | ⟨ex2_, S2_, ez9_, mz9_, qz9_⟩
    · cases ez9_
    · cases ez9_
      obtain ⟨iz9_, fz9_, qz9_⟩ := qz9_
      have jz9_ : jC S1_ := by first | exact qz9_ | (rw [qz9_]; exact hJ_) | exact jC_fr hJ_ fz9_ (by decide) (by decide) (by decide) (by decide) (by decide) rfl rfl rfl rfl rfl rfl
      simp only [List.mem_cons, List.not_mem_nil, or_false] at mz9_
      subst mz9_
      refine ⟨_, _, _, _, _, rfl, Nat.le_of_ble_eq_true rfl, ?_⟩
      refine sm_T_go 1 (c1 := (_, _, [.inl _], S1_)) rfl ?_
      exact sm_T_ri rfl ⟨_, _, _, rfl, Nat.le_of_ble_eq_true rfl, lhq_x iz9_ fz9_ jz9_ rfl⟩
theorem lh_578 {sc_ : Nat × (Nat → Int)} (kk_ : Int) (a_ : Int) (b_ : Int) (n_ : Int) (t_ : Int) (S0_ : sm_S) (hI_ : gi S0_) (hJ_ : jC S0_) : sm_T (mt_P sc_) 4 578 (0, [some (.inr (.inr (some (12, 0)))), some (.inl kk_), some (.inl a_), some (.inl b_), some (.inl n_), some (.inl t_), some (.inr (.inr (some (295, 0)))), none], [], S0_) (fun r_ => ∃ v_ S1_ k_, r_ = (.inl (some (.inl v_)), S1_, k_) ∧ k_ ≤ 2 ∧ lhq vw_256 S0_ S1_) := by
  refine sm_T_go 8 (c1 := (11, [some (.inr (.inr (some (12, 0)))), some (.inl kk_), some (.inl a_), some (.inl b_), some (.inl n_), some (.inl t_), some (.inr (.inr (some (295, 0)))), none], [.inl t_, .inl n_, .inl b_, .inl a_, .inl kk_, .inr (.inr (some (12, 0))), .inl 0, .inr (.inr (some (295, 0)))], S0_)) rfl ?_
  refine sm_T_call rfl rfl (vc_256 kk_ a_ b_ n_ t_ S0_ hI_ hJ_) (fun u_ S1_ k1_ qz9_ => ?_) (fun ex_ S1_ k1_ qz9_ => ?_)
  · rcases qz9_ with ⟨u2_, S2_, ez9_, qz9_⟩ | ⟨ex2_, S2_, ez9_, mz9_, qz9_⟩
    · cases ez9_
      obtain ⟨v_, rfl, iz9_, fz9_, qz9_⟩ := qz9_
      have jz9_ : jC S1_ := by (first | exact qz9_ | exact qz9_.1 | exact qz9_.2 | exact qz9_.2.1 | exact qz9_.2.2 | exact jC_fr hJ_ fz9_ (by decide) (by decide) (by decide) (by decide) (by decide) rfl rfl rfl rfl rfl rfl | exact jC_d hJ_ fz9_ qz9_ (by decide) (by decide) (by decide) rfl rfl rfl rfl rfl rfl | exact jC_d hJ_ fz9_ qz9_.1 (by decide) (by decide) (by decide) rfl rfl rfl rfl rfl rfl)
      refine sm_T_go 4 (c1 := (32, [some (.inr (.inr (some (12, 0)))), some (.inl kk_), some (.inl a_), some (.inl b_), some (.inl n_), some (.inl t_), some (.inr (.inr (some (295, 0)))), none], [.inl 0], _)) rfl ?_
      exact sm_T_ri rfl ⟨_, _, _, rfl, Nat.le_of_ble_eq_true rfl, lhq_o iz9_ fz9_ jz9_ rfl rfl⟩
    · cases ez9_
  · rcases qz9_ with ⟨u2_, S2_, ez9_, qz9_⟩ | ⟨ex2_, S2_, ez9_, mz9_, qz9_⟩
    · cases ez9_
    · cases ez9_
      obtain ⟨iz9_, fz9_, qz9_⟩ := qz9_
      have jz9_ : jC S1_ := by first | exact qz9_ | (rw [qz9_]; exact hJ_) | exact jC_fr hJ_ fz9_ (by decide) (by decide) (by decide) (by decide) (by decide) rfl rfl rfl rfl rfl rfl
      simp only [List.mem_cons, List.not_mem_nil, or_false] at mz9_
      rcases mz9_ with rfl | rfl | rfl
      · refine ⟨_, _, _, _, _, rfl, Nat.le_of_ble_eq_true rfl, ?_⟩
        refine sm_T_go 1 (c1 := (_, _, [.inl _], S1_)) rfl ?_
        exact sm_T_ri rfl ⟨_, _, _, rfl, Nat.le_of_ble_eq_true rfl, lhq_x iz9_ fz9_ jz9_ rfl⟩
      · refine ⟨_, _, _, _, _, rfl, Nat.le_of_ble_eq_true rfl, ?_⟩
        refine sm_T_go 1 (c1 := (_, _, [.inl _], S1_)) rfl ?_
        exact sm_T_ri rfl ⟨_, _, _, rfl, Nat.le_of_ble_eq_true rfl, lhq_x iz9_ fz9_ jz9_ rfl⟩
      · refine ⟨_, _, _, _, _, rfl, Nat.le_of_ble_eq_true rfl, ?_⟩
        refine sm_T_go 1 (c1 := (_, _, [.inl _], S1_)) rfl ?_
        exact sm_T_ri rfl ⟨_, _, _, rfl, Nat.le_of_ble_eq_true rfl, lhq_x iz9_ fz9_ jz9_ rfl⟩
theorem lh_579 {sc_ : Nat × (Nat → Int)} (kk_ : Int) (a_ : Int) (b_ : Int) (n_ : Int) (S0_ : sm_S) (hI_ : gi S0_) (hJ_ : jC S0_) : sm_T (mt_P sc_) 4 579 (0, [some (.inr (.inr (some (12, 0)))), some (.inl kk_), some (.inl a_), some (.inl b_), some (.inl n_), some (.inr (.inr (some (295, 0)))), none], [], S0_) (fun r_ => ∃ v_ S1_ k_, r_ = (.inl (some (.inl v_)), S1_, k_) ∧ k_ ≤ 2 ∧ lhq vw_257 S0_ S1_) := by
  refine sm_T_go 7 (c1 := (9, [some (.inr (.inr (some (12, 0)))), some (.inl kk_), some (.inl a_), some (.inl b_), some (.inl n_), some (.inr (.inr (some (295, 0)))), none], [.inl n_, .inl b_, .inl a_, .inl kk_, .inr (.inr (some (12, 0))), .inl 0, .inr (.inr (some (295, 0)))], S0_)) rfl ?_
  refine sm_T_call rfl rfl (vc_257 kk_ a_ b_ n_ S0_ hI_ hJ_) (fun u_ S1_ k1_ qz9_ => ?_) (fun ex_ S1_ k1_ qz9_ => ?_)
  · rcases qz9_ with ⟨u2_, S2_, ez9_, qz9_⟩ | ⟨ex2_, S2_, ez9_, mz9_, qz9_⟩
    · cases ez9_
      obtain ⟨v_, rfl, iz9_, fz9_, qz9_⟩ := qz9_
      have jz9_ : jC S1_ := by (first | exact qz9_ | exact qz9_.1 | exact qz9_.2 | exact qz9_.2.1 | exact qz9_.2.2 | exact jC_fr hJ_ fz9_ (by decide) (by decide) (by decide) (by decide) (by decide) rfl rfl rfl rfl rfl rfl | exact jC_d hJ_ fz9_ qz9_ (by decide) (by decide) (by decide) rfl rfl rfl rfl rfl rfl | exact jC_d hJ_ fz9_ qz9_.1 (by decide) (by decide) (by decide) rfl rfl rfl rfl rfl rfl)
      refine sm_T_go 4 (c1 := (30, [some (.inr (.inr (some (12, 0)))), some (.inl kk_), some (.inl a_), some (.inl b_), some (.inl n_), some (.inr (.inr (some (295, 0)))), none], [.inl 0], _)) rfl ?_
      exact sm_T_ri rfl ⟨_, _, _, rfl, Nat.le_of_ble_eq_true rfl, lhq_o iz9_ fz9_ jz9_ rfl rfl⟩
    · cases ez9_
  · rcases qz9_ with ⟨u2_, S2_, ez9_, qz9_⟩ | ⟨ex2_, S2_, ez9_, mz9_, qz9_⟩
    · cases ez9_
    · cases ez9_
      obtain ⟨iz9_, fz9_, qz9_⟩ := qz9_
      have jz9_ : jC S1_ := by first | exact qz9_ | (rw [qz9_]; exact hJ_) | exact jC_fr hJ_ fz9_ (by decide) (by decide) (by decide) (by decide) (by decide) rfl rfl rfl rfl rfl rfl
      simp only [List.mem_cons, List.not_mem_nil, or_false] at mz9_
      rcases mz9_ with rfl | rfl | rfl
      · refine ⟨_, _, _, _, _, rfl, Nat.le_of_ble_eq_true rfl, ?_⟩
        refine sm_T_go 1 (c1 := (_, _, [.inl _], S1_)) rfl ?_
        exact sm_T_ri rfl ⟨_, _, _, rfl, Nat.le_of_ble_eq_true rfl, lhq_x iz9_ fz9_ jz9_ rfl⟩
      · refine ⟨_, _, _, _, _, rfl, Nat.le_of_ble_eq_true rfl, ?_⟩
        refine sm_T_go 1 (c1 := (_, _, [.inl _], S1_)) rfl ?_
        exact sm_T_ri rfl ⟨_, _, _, rfl, Nat.le_of_ble_eq_true rfl, lhq_x iz9_ fz9_ jz9_ rfl⟩
      · refine ⟨_, _, _, _, _, rfl, Nat.le_of_ble_eq_true rfl, ?_⟩
        refine sm_T_go 1 (c1 := (_, _, [.inl _], S1_)) rfl ?_
        exact sm_T_ri rfl ⟨_, _, _, rfl, Nat.le_of_ble_eq_true rfl, lhq_x iz9_ fz9_ jz9_ rfl⟩
theorem lh_583 {sc_ : Nat × (Nat → Int)} (kk_ : Int) (k_ : Int) (S0_ : sm_S) (hI_ : gi S0_) (hJ_ : jC S0_) : sm_T (mt_P sc_) 3 583 (0, [some (.inr (.inr (some (12, 0)))), some (.inl kk_), some (.inl k_), some (.inr (.inr (some (295, 0)))), none], [], S0_) (fun r_ => ∃ v_ S1_ k_, r_ = (.inl (some (.inl v_)), S1_, k_) ∧ k_ ≤ 2 ∧ lhq vw_261 S0_ S1_) := by
  refine sm_T_go 5 (c1 := (5, [some (.inr (.inr (some (12, 0)))), some (.inl kk_), some (.inl k_), some (.inr (.inr (some (295, 0)))), none], [.inl k_, .inl kk_, .inr (.inr (some (12, 0))), .inl 0, .inr (.inr (some (295, 0)))], S0_)) rfl ?_
  refine sm_T_call rfl rfl (vc_261 kk_ k_ S0_ hI_ hJ_) (fun u_ S1_ k1_ qz9_ => ?_) (fun ex_ S1_ k1_ qz9_ => ?_)
  · rcases qz9_ with ⟨u2_, S2_, ez9_, qz9_⟩ | ⟨ex2_, S2_, ez9_, mz9_, qz9_⟩
    · cases ez9_
      obtain ⟨v_, rfl, iz9_, fz9_, qz9_⟩ := qz9_
      have jz9_ : jC S1_ := by (first | exact qz9_ | exact qz9_.1 | exact qz9_.2 | exact qz9_.2.1 | exact qz9_.2.2 | exact jC_fr hJ_ fz9_ (by decide) (by decide) (by decide) (by decide) (by decide) rfl rfl rfl rfl rfl rfl | exact jC_d hJ_ fz9_ qz9_ (by decide) (by decide) (by decide) rfl rfl rfl rfl rfl rfl | exact jC_d hJ_ fz9_ qz9_.1 (by decide) (by decide) (by decide) rfl rfl rfl rfl rfl rfl)
      refine sm_T_go 4 (c1 := (22, [some (.inr (.inr (some (12, 0)))), some (.inl kk_), some (.inl k_), some (.inr (.inr (some (295, 0)))), none], [.inl 0], _)) rfl ?_
      exact sm_T_ri rfl ⟨_, _, _, rfl, Nat.le_of_ble_eq_true rfl, lhq_o iz9_ fz9_ jz9_ rfl rfl⟩
    · cases ez9_
  · rcases qz9_ with ⟨u2_, S2_, ez9_, qz9_⟩ | ⟨ex2_, S2_, ez9_, mz9_, qz9_⟩
    · cases ez9_
    · cases ez9_
      obtain ⟨iz9_, fz9_, qz9_⟩ := qz9_
      have jz9_ : jC S1_ := by first | exact qz9_ | (rw [qz9_]; exact hJ_) | exact jC_fr hJ_ fz9_ (by decide) (by decide) (by decide) (by decide) (by decide) rfl rfl rfl rfl rfl rfl
      simp only [List.mem_cons, List.not_mem_nil, or_false] at mz9_
      rcases mz9_ with rfl | rfl
      · refine ⟨_, _, _, _, _, rfl, Nat.le_of_ble_eq_true rfl, ?_⟩
        refine sm_T_go 1 (c1 := (_, _, [.inl _], S1_)) rfl ?_
        exact sm_T_ri rfl ⟨_, _, _, rfl, Nat.le_of_ble_eq_true rfl, lhq_x iz9_ fz9_ jz9_ rfl⟩
      · refine ⟨_, _, _, _, _, rfl, Nat.le_of_ble_eq_true rfl, ?_⟩
        refine sm_T_go 1 (c1 := (_, _, [.inl _], S1_)) rfl ?_
        exact sm_T_ri rfl ⟨_, _, _, rfl, Nat.le_of_ble_eq_true rfl, lhq_x iz9_ fz9_ jz9_ rfl⟩
