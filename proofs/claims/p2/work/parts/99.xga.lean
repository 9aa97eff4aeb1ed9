/-! the class reader: designs; written by wip/p55/gen/vg -/
/-! Reader.readDesign -/
def vw_115 : sx_Wl := ([(7, 2), (7, 3), (7, 14), (7, 16), (7, 17), (10, 2), (10, 3), (10, 4), (10, 5), (10, 6), (10, 7), (10, 8)], [74, 75, 76, 77, 78, 79, 80, 81, 82, 83, 84], [(7, 11)])
def vq_115 (b_ : Nat → Int) (n_ : Nat) (S0_ : sm_S) (u_ : Option sm_V) (S1_ : sm_S) : Prop := u_ = none ∧ gi S1_ ∧ ai_fr (sx_W vw_115) S0_ S1_ ∧ (∃ r_, p_de b_ n_ = .inr r_ ∧ br b_ n_ r_.1 r_.2.1 r_.2.2.1 r_.2.2.2.2 S1_ ∧ (∀ k_ : Nat, k_ ≤ r_.2.2.1 → (S1_.2.2.1 76 0 (k_)) = (r_.2.2.2.1 k_ : Int)) ∧ 1 ≤ r_.2.2.1)
def vx_115 (b_ : Nat → Int) (n_ : Nat) (S0_ : sm_S) (S1_ : sm_S) : Prop := gi S1_ ∧ ai_fr (sx_W vw_115) S0_ S1_ ∧ (∃ e_, p_de b_ n_ = .inl e_ ∧ ter S1_ e_)
set_option maxHeartbeats 400000 in
theorem vl_115 {sc_ : Nat × (Nat → Int)} (b_ : Nat → Int) (n_ : Nat) (S0_ : sm_S) (hb_ : S0_.2.2.1 98 0 = b_) (hn_ : (S0_.1 10 0 1) = (n_ : Int)) (hn1_ : n_ ≤ 1280) : ∀ nn_ : Nat, (∀ (m_ : Int) (i_ : Int) (S_ : sm_S), gi S_ → ai_fr (sx_W vw_115) S0_ S_ → ((0 ≤ i_ ∧ i_ ≤ 65536) ∧ ((m_ = 1 ∧ ∃ (f1_ : Nat) (A_ : pA) (N_ : Nat → Nat) (M_ : Nat) (mc_ : Nat → Nat) (c_ : List Int) (p_ : Nat), ct b_ n_ p_ S_ ∧ dr b_ n_ A_ N_ M_ c_ S_ ∧ nc b_ n_ N_ M_ S_ ∧ (∀ k_ : Nat, k_ ≤ M_ → S_.2.2.1 76 0 k_ = (mc_ k_ : Int)) ∧ c_.length ≤ 3 * p_ ∧ n_ < p_ + f1_ ∧ i_ ≤ (p_ : Int) ∧ p_de b_ n_ = p_dl b_ n_ f1_ A_ N_ M_ mc_ c_ p_) ∨ (m_ = 0 ∧ ∃ r_, p_de b_ n_ = .inr r_ ∧ br b_ n_ r_.1 r_.2.1 r_.2.2.1 r_.2.2.2.2 S_ ∧ (∀ k_ : Nat, k_ ≤ r_.2.2.1 → S_.2.2.1 76 0 k_ = (r_.2.2.2.1 k_ : Int)) ∧ 1 ≤ r_.2.2.1)) ∧ True) → ((1300 - (S_.1 10 0 3) + 1300 * m_).toNat) < nn_ → sm_T (mt_P sc_) 7 115 (37, [some (.inr (.inr (some (7, 0)))), some (.inl m_), some (.inl i_)], [], S_) (fun r_ => (∃ u_ S1_, r_ = (.inl u_, S1_, 0) ∧ vq_115 b_ n_ S0_ u_ S1_) ∨ ∃ S1_, r_ = (.inr 2, S1_, 1) ∧ vx_115 b_ n_ S0_ S1_)) := by
  intro nn_
  induction nn_ with
  | zero => exact fun _ _ _ _ _ _ h_ => absurd h_ (Nat.not_lt_zero _)
  | succ nn_ ih_ =>
    rintro m_ i_ S_ hI_ hF_ ⟨h0_, h1_, -⟩ hm_
    have cst_ : 0 ≤ S_.1 10 0 3 ∧ S_.1 10 0 3 ≤ 1280 := hI_.1 10 0 3 rfl
    refine sm_T_go 1 (c1 := (38, [some (.inr (.inr (some (7, 0)))), some (.inl m_), some (.inl i_)], [.inl i_], S_)) rfl ?_
    refine sm_T_nt (u := some (.inl 65536)) (S1 := S_) rfl rfl rfl ?_
    refine sm_T_br (a := 3) (z := 115) rfl (fun cx1_ => ?_) (fun cx1_ => ?_)
    · have cx1_ : 65536 ≤ i_ := of_decide_eq_true cx1_
      refine sm_T_rv rfl (Or.inl ⟨_, _, rfl, rfl, hI_, hF_, ?_⟩)
      rcases h1_ with ⟨z1_, f1_, A_, N_, M_, mc_, c_, p_, y1_, y2_, y3_, y4_, y5_, y6_, y7_, y8_⟩ | z_
      · exfalso
        have := y1_.2.2.2.1
        omega
      · exact z_.2
    · have cx1_ : ¬ (65536 ≤ i_) := of_decide_eq_false cx1_
      refine sm_T_go 1 (c1 := (44, [some (.inr (.inr (some (7, 0)))), some (.inl m_), some (.inl i_)], [.inl m_], S_)) rfl ?_
      refine sm_T_b0 (a := 0) (z := 111) rfl (fun cx2_ => ?_) (fun cx2_ => ?_)
      · have cx2_ : m_ = 0 := of_decide_eq_true cx2_
        refine sm_T_rv rfl (Or.inl ⟨_, _, rfl, rfl, hI_, hF_, ?_⟩)
        rcases h1_ with ⟨z1_, f1_, A_, N_, M_, mc_, c_, p_, y1_, y2_, y3_, y4_, y5_, y6_, y7_, y8_⟩ | z_
        · exfalso
          have := y1_.2.2.2.1
          omega
        · exact z_.2
      · have cx2_ : ¬ (m_ = 0) := of_decide_eq_false cx2_
        obtain ⟨f1_, A_, N_, M_, mc_, c_, p_, y1_, y2_, y3_, y4_, y5_, y6_, y7_, y8_⟩ : ∃ (f1_ : Nat) (A_ : pA) (N_ : Nat → Nat) (M_ : Nat) (mc_ : Nat → Nat) (c_ : List Int) (p_ : Nat), ct b_ n_ p_ S_ ∧ dr b_ n_ A_ N_ M_ c_ S_ ∧ nc b_ n_ N_ M_ S_ ∧ (∀ k_ : Nat, k_ ≤ M_ → S_.2.2.1 76 0 k_ = (mc_ k_ : Int)) ∧ c_.length ≤ 3 * p_ ∧ n_ < p_ + f1_ ∧ i_ ≤ (p_ : Int) ∧ p_de b_ n_ = p_dl b_ n_ f1_ A_ N_ M_ mc_ c_ p_ := by rcases h1_ with z_ | z_; (exact z_.2); (exact absurd z_.1 (by clear z_; omega))
        have mo1_ : m_ = 1 := by rcases h1_ with z_ | z_; (exact z_.1); (exact absurd z_.1 (by clear z_; omega))
        clear h1_
        obtain ⟨f1_, rfl⟩ : ∃ f_, f1_ = f_ + 1 := ⟨f1_ - 1, by have := y1_.2.2.2.1; omega⟩
        have st3_ := y1_.2.2.2.2.2.1
        have kd3_ := y1_.2.2.2.2.2.2.2.1
        have hp3_ := y1_.2.2.2.1
        have bx3_ : (-128) ≤ S_.1 10 0 2 ∧ S_.1 10 0 2 ≤ 257 := hI_.1 10 0 2 rfl
        refine sm_T_go 3 (c1 := (54, [some (.inr (.inr (some (7, 0)))), some (.inl m_), some (.inl i_)], [.inl (S_.1 10 0 2)], S_)) rfl ?_
        by_cases cx4_ : (S_.1 10 0 2) = 1
        · refine sm_T_sw (t := 137) rfl rfl (by rw [cx4_]; rfl) ?_
          refine sm_T_go 1 (c1 := (138, [some (.inr (.inr (some (7, 0)))), some (.inl m_), some (.inl i_)], [.inr (.inr (some (7, 0)))], S_)) rfl ?_
          refine sm_T_calx (d1 := 5) (Q1 := vq_127 b_ n_ A_ N_ M_ c_ p_ S_) (Q2 := vx_127 b_ n_ A_ N_ M_ c_ p_ S_) rfl rfl (by decide) (vc_127 b_ n_ A_ N_ M_ c_ p_ S_ hI_ (by exact y1_) (by exact y2_) (by exact y5_) (by omega) (by omega)) rfl (fun Sx5_ px8_ => ?_) (fun u_ Sx5_ px8_ => ?_)
          · obtain ⟨hIx6_, hFx7_, px8_⟩ := px8_
            refine Or.inr ⟨_, rfl, hIx6_, ai_fr_tr hF_ (fr_le hFx7_ rfl), ?_⟩
            obtain ⟨e_, w1_, w2_⟩ := px8_
            have it9_ : p_it b_ n_ A_ N_ M_ c_ p_ = some (p_ne b_ n_ A_ M_ c_ p_) := by unfold p_it; rw [show lx_kd b_ n_ p_ = 1 by omega]; rfl
            exact ⟨e_, by rw [y8_, dl_i it9_, pb_l w1_], w2_⟩
          obtain ⟨rfl, hIx6_, hFx7_, px8_⟩ := px8_
          have hFx9_ : ai_fr (sx_W vw_115) S0_ Sx5_ := ai_fr_tr hF_ (fr_le hFx7_ rfl)
          obtain ⟨r9_, a9_, c9_, d9_, l9_, lt9_⟩ := px8_
          have it9_ : p_it b_ n_ A_ N_ M_ c_ p_ = some (p_ne b_ n_ A_ M_ c_ p_) := by unfold p_it; rw [show lx_kd b_ n_ p_ = 1 by omega]; rfl
          have n9_ := nc_fr y3_ hFx7_ rfl
          have m9_ := fr_arr (t := 76) (i := 0) hFx7_ rfl
          have st9_ := c9_.2.2.2.2.2.1
          have hp9_ := c9_.2.2.2.1
          refine sm_T_go 1 (c1 := (149, [some (.inr (.inr (some (7, 0)))), some (.inl m_), some (.inl i_)], [], Sx5_)) rfl ?_
          refine sm_T_inc (a := 2) (z := 1) (v := i_) (w := i_ + 1) rfl rfl (by omega) (by omega) (by omega) ?_
          refine sm_T_go 1 (c1 := (37, [some (.inr (.inr (some (7, 0)))), some (.inl m_), some (.inl (i_ + 1))], [], Sx5_)) rfl ?_
          refine ih_ m_ (i_ + 1) Sx5_ hIx6_ hFx9_ ⟨?_, ?_, trivial⟩ ?_
          · omega
          · first | (left; exact ⟨mo1_, f1_, r9_.1, N_, M_, mc_, r9_.2.1, r9_.2.2, c9_, d9_, n9_, fun k_ hk_ => (by rw [m9_]; exact y4_ k_ hk_), l9_, by omega, by omega, by rw [y8_, dl_i it9_, pb_r a9_]⟩) | (obtain ⟨z1_, z2_, z3_⟩ | ⟨z1_, x9_, z2_, c9_, d9_, n9_, lt9_⟩ := alt_; (right; exact ⟨z1_, (A_, N_, M_ + 1, n_up mc_ (M_ + 1) c_.length, c_), by rw [y8_, dl_n it9_, pb_r a9_, z2_], z3_, hmc_, by show 1 ≤ M_ + 1; omega⟩); (left; exact ⟨z1_, f1_, x9_.1, x9_.2.1, M_ + 1, n_up mc_ (M_ + 1) c_.length, c_, x9_.2.2, c9_, d9_, n9_, hmc_, by omega, by omega, by omega, by rw [y8_, dl_n it9_, pb_r a9_, z2_]⟩))
          · first | omega | (obtain ⟨z1_, z2_, z3_⟩ | ⟨z1_, x9_, z2_, c9_, d9_, n9_, lt9_⟩ := alt_; omega; (have st9_ := c9_.2.2.2.2.2.1; omega))
        by_cases cx10_ : (S_.1 10 0 2) = 4
        · refine sm_T_sw (t := 100) rfl rfl (by rw [cx10_]; rfl) ?_
          refine sm_T_go 1 (c1 := (101, [some (.inr (.inr (some (7, 0)))), some (.inl m_), some (.inl i_)], [.inr (.inr (some (7, 0)))], S_)) rfl ?_
          refine sm_T_calx (d1 := 3) (Q1 := vq_124 b_ n_ A_ N_ M_ c_ p_ S_) (Q2 := vx_124 b_ n_ A_ N_ M_ c_ p_ S_) rfl rfl (by decide) (vc_124 b_ n_ A_ N_ M_ c_ p_ S_ hI_ (by exact y1_) (by exact y2_) (by exact y5_) (by omega)) rfl (fun Sx11_ px14_ => ?_) (fun u_ Sx11_ px14_ => ?_)
          · obtain ⟨hIx12_, hFx13_, px14_⟩ := px14_
            refine Or.inr ⟨_, rfl, hIx12_, ai_fr_tr hF_ (fr_le hFx13_ rfl), ?_⟩
            obtain ⟨e_, w1_, w2_⟩ := px14_
            have it9_ : p_it b_ n_ A_ N_ M_ c_ p_ = some (p_in b_ n_ A_ M_ c_ p_) := by unfold p_it; rw [show lx_kd b_ n_ p_ = 4 by omega]; rfl
            exact ⟨e_, by rw [y8_, dl_i it9_, pb_l w1_], w2_⟩
          obtain ⟨rfl, hIx12_, hFx13_, px14_⟩ := px14_
          have hFx15_ : ai_fr (sx_W vw_115) S0_ Sx11_ := ai_fr_tr hF_ (fr_le hFx13_ rfl)
          obtain ⟨r9_, a9_, c9_, d9_, l9_, lt9_⟩ := px14_
          have it9_ : p_it b_ n_ A_ N_ M_ c_ p_ = some (p_in b_ n_ A_ M_ c_ p_) := by unfold p_it; rw [show lx_kd b_ n_ p_ = 4 by omega]; rfl
          have n9_ := nc_fr y3_ hFx13_ rfl
          have m9_ := fr_arr (t := 76) (i := 0) hFx13_ rfl
          have st9_ := c9_.2.2.2.2.2.1
          have hp9_ := c9_.2.2.2.1
          refine sm_T_go 1 (c1 := (149, [some (.inr (.inr (some (7, 0)))), some (.inl m_), some (.inl i_)], [], Sx11_)) rfl ?_
          refine sm_T_inc (a := 2) (z := 1) (v := i_) (w := i_ + 1) rfl rfl (by omega) (by omega) (by omega) ?_
          refine sm_T_go 1 (c1 := (37, [some (.inr (.inr (some (7, 0)))), some (.inl m_), some (.inl (i_ + 1))], [], Sx11_)) rfl ?_
          refine ih_ m_ (i_ + 1) Sx11_ hIx12_ hFx15_ ⟨?_, ?_, trivial⟩ ?_
          · omega
          · first | (left; exact ⟨mo1_, f1_, r9_.1, N_, M_, mc_, r9_.2.1, r9_.2.2, c9_, d9_, n9_, fun k_ hk_ => (by rw [m9_]; exact y4_ k_ hk_), l9_, by omega, by omega, by rw [y8_, dl_i it9_, pb_r a9_]⟩) | (obtain ⟨z1_, z2_, z3_⟩ | ⟨z1_, x9_, z2_, c9_, d9_, n9_, lt9_⟩ := alt_; (right; exact ⟨z1_, (A_, N_, M_ + 1, n_up mc_ (M_ + 1) c_.length, c_), by rw [y8_, dl_n it9_, pb_r a9_, z2_], z3_, hmc_, by show 1 ≤ M_ + 1; omega⟩); (left; exact ⟨z1_, f1_, x9_.1, x9_.2.1, M_ + 1, n_up mc_ (M_ + 1) c_.length, c_, x9_.2.2, c9_, d9_, n9_, hmc_, by omega, by omega, by omega, by rw [y8_, dl_n it9_, pb_r a9_, z2_]⟩))
          · first | omega | (obtain ⟨z1_, z2_, z3_⟩ | ⟨z1_, x9_, z2_, c9_, d9_, n9_, lt9_⟩ := alt_; omega; (have st9_ := c9_.2.2.2.2.2.1; omega))
        by_cases cx16_ : (S_.1 10 0 2) = 5
        · refine sm_T_sw (t := 107) rfl rfl (by rw [cx16_]; rfl) ?_
          refine sm_T_go 2 (c1 := (109, [some (.inr (.inr (some (7, 0)))), some (.inl m_), some (.inl i_)], [.inl 1, .inr (.inr (some (7, 0)))], S_)) rfl ?_
          refine sm_T_calx (d1 := 5) (Q1 := vq_125 1 b_ n_ A_ N_ M_ c_ p_ S_) (Q2 := vx_125 1 b_ n_ A_ N_ M_ c_ p_ S_) rfl rfl (by decide) (vc_125 1 b_ n_ A_ N_ M_ c_ p_ S_ hI_ (by exact y1_) (by exact y2_) (by exact y5_) (by omega) (by decide)) rfl (fun Sx17_ px20_ => ?_) (fun u_ Sx17_ px20_ => ?_)
          · obtain ⟨hIx18_, hFx19_, px20_⟩ := px20_
            refine Or.inr ⟨_, rfl, hIx18_, ai_fr_tr hF_ (fr_le hFx19_ rfl), ?_⟩
            obtain ⟨e_, w1_, w2_⟩ := px20_
            have it9_ : p_it b_ n_ A_ N_ M_ c_ p_ = some (p_va b_ n_ A_ M_ 1 c_ p_) := by unfold p_it; rw [show lx_kd b_ n_ p_ = 5 by omega]; rfl
            exact ⟨e_, by rw [y8_, dl_i it9_, pb_l w1_], w2_⟩
          obtain ⟨rfl, hIx18_, hFx19_, px20_⟩ := px20_
          have hFx21_ : ai_fr (sx_W vw_115) S0_ Sx17_ := ai_fr_tr hF_ (fr_le hFx19_ rfl)
          obtain ⟨r9_, a9_, c9_, d9_, l9_, lt9_⟩ := px20_
          have it9_ : p_it b_ n_ A_ N_ M_ c_ p_ = some (p_va b_ n_ A_ M_ 1 c_ p_) := by unfold p_it; rw [show lx_kd b_ n_ p_ = 5 by omega]; rfl
          have n9_ := nc_fr y3_ hFx19_ rfl
          have m9_ := fr_arr (t := 76) (i := 0) hFx19_ rfl
          have st9_ := c9_.2.2.2.2.2.1
          have hp9_ := c9_.2.2.2.1
          refine sm_T_go 1 (c1 := (149, [some (.inr (.inr (some (7, 0)))), some (.inl m_), some (.inl i_)], [], Sx17_)) rfl ?_
          refine sm_T_inc (a := 2) (z := 1) (v := i_) (w := i_ + 1) rfl rfl (by omega) (by omega) (by omega) ?_
          refine sm_T_go 1 (c1 := (37, [some (.inr (.inr (some (7, 0)))), some (.inl m_), some (.inl (i_ + 1))], [], Sx17_)) rfl ?_
          refine ih_ m_ (i_ + 1) Sx17_ hIx18_ hFx21_ ⟨?_, ?_, trivial⟩ ?_
          · omega
          · first | (left; exact ⟨mo1_, f1_, r9_.1, N_, M_, mc_, r9_.2.1, r9_.2.2, c9_, d9_, n9_, fun k_ hk_ => (by rw [m9_]; exact y4_ k_ hk_), l9_, by omega, by omega, by rw [y8_, dl_i it9_, pb_r a9_]⟩) | (obtain ⟨z1_, z2_, z3_⟩ | ⟨z1_, x9_, z2_, c9_, d9_, n9_, lt9_⟩ := alt_; (right; exact ⟨z1_, (A_, N_, M_ + 1, n_up mc_ (M_ + 1) c_.length, c_), by rw [y8_, dl_n it9_, pb_r a9_, z2_], z3_, hmc_, by show 1 ≤ M_ + 1; omega⟩); (left; exact ⟨z1_, f1_, x9_.1, x9_.2.1, M_ + 1, n_up mc_ (M_ + 1) c_.length, c_, x9_.2.2, c9_, d9_, n9_, hmc_, by omega, by omega, by omega, by rw [y8_, dl_n it9_, pb_r a9_, z2_]⟩))
          · first | omega | (obtain ⟨z1_, z2_, z3_⟩ | ⟨z1_, x9_, z2_, c9_, d9_, n9_, lt9_⟩ := alt_; omega; (have st9_ := c9_.2.2.2.2.2.1; omega))
        by_cases cx22_ : (S_.1 10 0 2) = 6
        · refine sm_T_sw (t := 115) rfl rfl (by rw [cx22_]; rfl) ?_
          refine sm_T_go 2 (c1 := (117, [some (.inr (.inr (some (7, 0)))), some (.inl m_), some (.inl i_)], [.inl 2, .inr (.inr (some (7, 0)))], S_)) rfl ?_
          refine sm_T_calx (d1 := 5) (Q1 := vq_125 2 b_ n_ A_ N_ M_ c_ p_ S_) (Q2 := vx_125 2 b_ n_ A_ N_ M_ c_ p_ S_) rfl rfl (by decide) (vc_125 2 b_ n_ A_ N_ M_ c_ p_ S_ hI_ (by exact y1_) (by exact y2_) (by exact y5_) (by omega) (by decide)) rfl (fun Sx23_ px26_ => ?_) (fun u_ Sx23_ px26_ => ?_)
          · obtain ⟨hIx24_, hFx25_, px26_⟩ := px26_
            refine Or.inr ⟨_, rfl, hIx24_, ai_fr_tr hF_ (fr_le hFx25_ rfl), ?_⟩
            obtain ⟨e_, w1_, w2_⟩ := px26_
            have it9_ : p_it b_ n_ A_ N_ M_ c_ p_ = some (p_va b_ n_ A_ M_ 2 c_ p_) := by unfold p_it; rw [show lx_kd b_ n_ p_ = 6 by omega]; rfl
            exact ⟨e_, by rw [y8_, dl_i it9_, pb_l w1_], w2_⟩
          obtain ⟨rfl, hIx24_, hFx25_, px26_⟩ := px26_
          have hFx27_ : ai_fr (sx_W vw_115) S0_ Sx23_ := ai_fr_tr hF_ (fr_le hFx25_ rfl)
          obtain ⟨r9_, a9_, c9_, d9_, l9_, lt9_⟩ := px26_
          have it9_ : p_it b_ n_ A_ N_ M_ c_ p_ = some (p_va b_ n_ A_ M_ 2 c_ p_) := by unfold p_it; rw [show lx_kd b_ n_ p_ = 6 by omega]; rfl
          have n9_ := nc_fr y3_ hFx25_ rfl
          have m9_ := fr_arr (t := 76) (i := 0) hFx25_ rfl
          have st9_ := c9_.2.2.2.2.2.1
          have hp9_ := c9_.2.2.2.1
          refine sm_T_go 1 (c1 := (149, [some (.inr (.inr (some (7, 0)))), some (.inl m_), some (.inl i_)], [], Sx23_)) rfl ?_
          refine sm_T_inc (a := 2) (z := 1) (v := i_) (w := i_ + 1) rfl rfl (by omega) (by omega) (by omega) ?_
          refine sm_T_go 1 (c1 := (37, [some (.inr (.inr (some (7, 0)))), some (.inl m_), some (.inl (i_ + 1))], [], Sx23_)) rfl ?_
          refine ih_ m_ (i_ + 1) Sx23_ hIx24_ hFx27_ ⟨?_, ?_, trivial⟩ ?_
          · omega
          · first | (left; exact ⟨mo1_, f1_, r9_.1, N_, M_, mc_, r9_.2.1, r9_.2.2, c9_, d9_, n9_, fun k_ hk_ => (by rw [m9_]; exact y4_ k_ hk_), l9_, by omega, by omega, by rw [y8_, dl_i it9_, pb_r a9_]⟩) | (obtain ⟨z1_, z2_, z3_⟩ | ⟨z1_, x9_, z2_, c9_, d9_, n9_, lt9_⟩ := alt_; (right; exact ⟨z1_, (A_, N_, M_ + 1, n_up mc_ (M_ + 1) c_.length, c_), by rw [y8_, dl_n it9_, pb_r a9_, z2_], z3_, hmc_, by show 1 ≤ M_ + 1; omega⟩); (left; exact ⟨z1_, f1_, x9_.1, x9_.2.1, M_ + 1, n_up mc_ (M_ + 1) c_.length, c_, x9_.2.2, c9_, d9_, n9_, hmc_, by omega, by omega, by omega, by rw [y8_, dl_n it9_, pb_r a9_, z2_]⟩))
          · first | omega | (obtain ⟨z1_, z2_, z3_⟩ | ⟨z1_, x9_, z2_, c9_, d9_, n9_, lt9_⟩ := alt_; omega; (have st9_ := c9_.2.2.2.2.2.1; omega))
        by_cases cx28_ : (S_.1 10 0 2) = 7
        · refine sm_T_sw (t := 123) rfl rfl (by rw [cx28_]; rfl) ?_
          refine sm_T_go 1 (c1 := (124, [some (.inr (.inr (some (7, 0)))), some (.inl m_), some (.inl i_)], [.inr (.inr (some (7, 0)))], S_)) rfl ?_
          refine sm_T_calx (d1 := 3) (Q1 := vq_126 b_ n_ A_ N_ M_ c_ p_ S_) (Q2 := vx_126 b_ n_ A_ N_ M_ c_ p_ S_) rfl rfl (by decide) (vc_126 b_ n_ A_ N_ M_ c_ p_ S_ hI_ (by exact y1_) (by exact y2_) (by exact y5_) (by omega)) rfl (fun Sx29_ px32_ => ?_) (fun u_ Sx29_ px32_ => ?_)
          · obtain ⟨hIx30_, hFx31_, px32_⟩ := px32_
            refine Or.inr ⟨_, rfl, hIx30_, ai_fr_tr hF_ (fr_le hFx31_ rfl), ?_⟩
            obtain ⟨e_, w1_, w2_⟩ := px32_
            have it9_ : p_it b_ n_ A_ N_ M_ c_ p_ = some (p_re b_ n_ A_ M_ c_ p_) := by unfold p_it; rw [show lx_kd b_ n_ p_ = 7 by omega]; rfl
            exact ⟨e_, by rw [y8_, dl_i it9_, pb_l w1_], w2_⟩
          obtain ⟨rfl, hIx30_, hFx31_, px32_⟩ := px32_
          have hFx33_ : ai_fr (sx_W vw_115) S0_ Sx29_ := ai_fr_tr hF_ (fr_le hFx31_ rfl)
          obtain ⟨r9_, a9_, c9_, d9_, l9_, lt9_⟩ := px32_
          have it9_ : p_it b_ n_ A_ N_ M_ c_ p_ = some (p_re b_ n_ A_ M_ c_ p_) := by unfold p_it; rw [show lx_kd b_ n_ p_ = 7 by omega]; rfl
          have n9_ := nc_fr y3_ hFx31_ rfl
          have m9_ := fr_arr (t := 76) (i := 0) hFx31_ rfl
          have st9_ := c9_.2.2.2.2.2.1
          have hp9_ := c9_.2.2.2.1
          refine sm_T_go 1 (c1 := (149, [some (.inr (.inr (some (7, 0)))), some (.inl m_), some (.inl i_)], [], Sx29_)) rfl ?_
          refine sm_T_inc (a := 2) (z := 1) (v := i_) (w := i_ + 1) rfl rfl (by omega) (by omega) (by omega) ?_
          refine sm_T_go 1 (c1 := (37, [some (.inr (.inr (some (7, 0)))), some (.inl m_), some (.inl (i_ + 1))], [], Sx29_)) rfl ?_
          refine ih_ m_ (i_ + 1) Sx29_ hIx30_ hFx33_ ⟨?_, ?_, trivial⟩ ?_
          · omega
          · first | (left; exact ⟨mo1_, f1_, r9_.1, N_, M_, mc_, r9_.2.1, r9_.2.2, c9_, d9_, n9_, fun k_ hk_ => (by rw [m9_]; exact y4_ k_ hk_), l9_, by omega, by omega, by rw [y8_, dl_i it9_, pb_r a9_]⟩) | (obtain ⟨z1_, z2_, z3_⟩ | ⟨z1_, x9_, z2_, c9_, d9_, n9_, lt9_⟩ := alt_; (right; exact ⟨z1_, (A_, N_, M_ + 1, n_up mc_ (M_ + 1) c_.length, c_), by rw [y8_, dl_n it9_, pb_r a9_, z2_], z3_, hmc_, by show 1 ≤ M_ + 1; omega⟩); (left; exact ⟨z1_, f1_, x9_.1, x9_.2.1, M_ + 1, n_up mc_ (M_ + 1) c_.length, c_, x9_.2.2, c9_, d9_, n9_, hmc_, by omega, by omega, by omega, by rw [y8_, dl_n it9_, pb_r a9_, z2_]⟩))
          · first | omega | (obtain ⟨z1_, z2_, z3_⟩ | ⟨z1_, x9_, z2_, c9_, d9_, n9_, lt9_⟩ := alt_; omega; (have st9_ := c9_.2.2.2.2.2.1; omega))
        by_cases cx34_ : (S_.1 10 0 2) = 8
        · refine sm_T_sw (t := 130) rfl rfl (by rw [cx34_]; rfl) ?_
          refine sm_T_go 1 (c1 := (131, [some (.inr (.inr (some (7, 0)))), some (.inl m_), some (.inl i_)], [.inr (.inr (some (7, 0)))], S_)) rfl ?_
          refine sm_T_calx (d1 := 6) (Q1 := vq_128 b_ n_ A_ N_ M_ c_ p_ S_) (Q2 := vx_128 b_ n_ A_ N_ M_ c_ p_ S_) rfl rfl (by decide) (vc_128 b_ n_ A_ N_ M_ c_ p_ S_ hI_ (by exact y1_) (by exact y2_) (by exact y5_) (by omega)) rfl (fun Sx35_ px38_ => ?_) (fun u_ Sx35_ px38_ => ?_)
          · obtain ⟨hIx36_, hFx37_, px38_⟩ := px38_
            refine Or.inr ⟨_, rfl, hIx36_, ai_fr_tr hF_ (fr_le hFx37_ rfl), ?_⟩
            obtain ⟨e_, w1_, w2_⟩ := px38_
            have it9_ : p_it b_ n_ A_ N_ M_ c_ p_ = some (p_us b_ n_ A_ N_ M_ c_ p_) := by unfold p_it; rw [show lx_kd b_ n_ p_ = 8 by omega]; rfl
            exact ⟨e_, by rw [y8_, dl_i it9_, pb_l w1_], w2_⟩
          obtain ⟨rfl, hIx36_, hFx37_, px38_⟩ := px38_
          have hFx39_ : ai_fr (sx_W vw_115) S0_ Sx35_ := ai_fr_tr hF_ (fr_le hFx37_ rfl)
          obtain ⟨r9_, a9_, c9_, d9_, l9_, lt9_⟩ := px38_
          have it9_ : p_it b_ n_ A_ N_ M_ c_ p_ = some (p_us b_ n_ A_ N_ M_ c_ p_) := by unfold p_it; rw [show lx_kd b_ n_ p_ = 8 by omega]; rfl
          have n9_ := nc_fr y3_ hFx37_ rfl
          have m9_ := fr_arr (t := 76) (i := 0) hFx37_ rfl
          have st9_ := c9_.2.2.2.2.2.1
          have hp9_ := c9_.2.2.2.1
          refine sm_T_go 1 (c1 := (149, [some (.inr (.inr (some (7, 0)))), some (.inl m_), some (.inl i_)], [], Sx35_)) rfl ?_
          refine sm_T_inc (a := 2) (z := 1) (v := i_) (w := i_ + 1) rfl rfl (by omega) (by omega) (by omega) ?_
          refine sm_T_go 1 (c1 := (37, [some (.inr (.inr (some (7, 0)))), some (.inl m_), some (.inl (i_ + 1))], [], Sx35_)) rfl ?_
          refine ih_ m_ (i_ + 1) Sx35_ hIx36_ hFx39_ ⟨?_, ?_, trivial⟩ ?_
          · omega
          · first | (left; exact ⟨mo1_, f1_, r9_.1, N_, M_, mc_, r9_.2.1, r9_.2.2, c9_, d9_, n9_, fun k_ hk_ => (by rw [m9_]; exact y4_ k_ hk_), l9_, by omega, by omega, by rw [y8_, dl_i it9_, pb_r a9_]⟩) | (obtain ⟨z1_, z2_, z3_⟩ | ⟨z1_, x9_, z2_, c9_, d9_, n9_, lt9_⟩ := alt_; (right; exact ⟨z1_, (A_, N_, M_ + 1, n_up mc_ (M_ + 1) c_.length, c_), by rw [y8_, dl_n it9_, pb_r a9_, z2_], z3_, hmc_, by show 1 ≤ M_ + 1; omega⟩); (left; exact ⟨z1_, f1_, x9_.1, x9_.2.1, M_ + 1, n_up mc_ (M_ + 1) c_.length, c_, x9_.2.2, c9_, d9_, n9_, hmc_, by omega, by omega, by omega, by rw [y8_, dl_n it9_, pb_r a9_, z2_]⟩))
          · first | omega | (obtain ⟨z1_, z2_, z3_⟩ | ⟨z1_, x9_, z2_, c9_, d9_, n9_, lt9_⟩ := alt_; omega; (have st9_ := c9_.2.2.2.2.2.1; omega))
        refine sm_T_sw (t := 144) rfl rfl (by (have hh_ : (S_.1 10 0 2) < 1 ∨ 9 ≤ (S_.1 10 0 2) ∨ (S_.1 10 0 2) = 2 ∨ (S_.1 10 0 2) = 3 := by omega); rcases hh_ with hh_ | hh_ | hh_ | hh_; (exact sm_swd (Or.inl hh_)); (exact sm_swd (Or.inr (by simp only [List.length_cons, List.length_nil]; omega))); (rw [hh_]; rfl); (rw [hh_]; rfl)) ?_
        refine sm_T_go 1 (c1 := (145, [some (.inr (.inr (some (7, 0)))), some (.inl m_), some (.inl i_)], [.inr (.inr (some (7, 0)))], S_)) rfl ?_
        refine sm_T_calx (d1 := 4) (Q1 := vq_117 b_ n_ A_ N_ M_ c_ p_ S_) (Q2 := vx_117 b_ n_ A_ N_ M_ c_ p_ S_) rfl rfl (by decide) (vc_117 b_ n_ A_ N_ M_ c_ p_ S_ hI_ (by exact y1_) (by exact y2_) (by exact y3_)) rfl (fun Sx40_ px43_ => ?_) (fun u_ Sx40_ px43_ => ?_)
        · obtain ⟨hIx41_, hFx42_, px43_⟩ := px43_
          refine Or.inr ⟨_, rfl, hIx41_, ai_fr_tr hF_ (fr_le hFx42_ rfl), ?_⟩
          obtain ⟨e_, w1_, w2_⟩ := px43_
          have it9_ : p_it b_ n_ A_ N_ M_ c_ p_ = none := by unfold p_it; rw [if_neg (by omega), if_neg (by omega), if_neg (by omega), if_neg (by omega), if_neg (by omega), if_neg (by omega)]
          exact ⟨e_, by rw [y8_, dl_n it9_, pb_l w1_], w2_⟩
        obtain ⟨vx45_, rfl, hIx41_, hFx42_, px43_⟩ := px43_
        have hFx44_ : ai_fr (sx_W vw_115) S0_ Sx40_ := ai_fr_tr hF_ (fr_le hFx42_ rfl)
        obtain ⟨y9_, a9_, mA_, mB_, alt_⟩ := px43_
        have it9_ : p_it b_ n_ A_ N_ M_ c_ p_ = none := by unfold p_it; rw [if_neg (by omega), if_neg (by omega), if_neg (by omega), if_neg (by omega), if_neg (by omega), if_neg (by omega)]
        have hmc_ : ∀ k_ : Nat, k_ ≤ M_ + 1 → Sx40_.2.2.1 76 0 k_ = (n_up mc_ (M_ + 1) c_.length k_ : Int) := fun k_ hk_ => by unfold n_up; by_cases z_ : k_ = M_ + 1; (rw [if_pos z_, z_]; exact mA_); (rw [if_neg z_, mB_ k_ (by omega)]; exact y4_ k_ (by omega))
        have cst9_ : 0 ≤ Sx40_.1 10 0 3 ∧ Sx40_.1 10 0 3 ≤ 1280 := hIx41_.1 10 0 3 rfl
        refine sm_T_go 1 (c1 := (149, [some (.inr (.inr (some (7, 0)))), some (.inl vx45_), some (.inl i_)], [], Sx40_)) rfl ?_
        refine sm_T_inc (a := 2) (z := 1) (v := i_) (w := i_ + 1) rfl rfl (by omega) (by omega) (by omega) ?_
        refine sm_T_go 1 (c1 := (37, [some (.inr (.inr (some (7, 0)))), some (.inl vx45_), some (.inl (i_ + 1))], [], Sx40_)) rfl ?_
        refine ih_ vx45_ (i_ + 1) Sx40_ hIx41_ hFx44_ ⟨?_, ?_, trivial⟩ ?_
        · omega
        · first | (left; exact ⟨mo1_, f1_, r9_.1, N_, M_, mc_, r9_.2.1, r9_.2.2, c9_, d9_, n9_, fun k_ hk_ => (by rw [m9_]; exact y4_ k_ hk_), l9_, by omega, by omega, by rw [y8_, dl_i it9_, pb_r a9_]⟩) | (obtain ⟨z1_, z2_, z3_⟩ | ⟨z1_, x9_, z2_, c9_, d9_, n9_, lt9_⟩ := alt_; (right; exact ⟨z1_, (A_, N_, M_ + 1, n_up mc_ (M_ + 1) c_.length, c_), by rw [y8_, dl_n it9_, pb_r a9_, z2_], z3_, hmc_, by show 1 ≤ M_ + 1; omega⟩); (left; exact ⟨z1_, f1_, x9_.1, x9_.2.1, M_ + 1, n_up mc_ (M_ + 1) c_.length, c_, x9_.2.2, c9_, d9_, n9_, hmc_, by omega, by omega, by omega, by rw [y8_, dl_n it9_, pb_r a9_, z2_]⟩))
        · first | omega | (obtain ⟨z1_, z2_, z3_⟩ | ⟨z1_, x9_, z2_, c9_, d9_, n9_, lt9_⟩ := alt_; omega; (have st9_ := c9_.2.2.2.2.2.1; omega))
set_option maxHeartbeats 400000 in
theorem vc_115 {sc_ : Nat × (Nat → Int)} (b_ : Nat → Int) (n_ : Nat) (S0_ : sm_S) (hI_ : gi S0_) (hb_ : S0_.2.2.1 98 0 = b_) (hn_ : (S0_.1 10 0 1) = (n_ : Int)) (hn1_ : n_ ≤ 1280) : sm_T (mt_P sc_) 7 115 (0, [some (.inr (.inr (some (7, 0)))), none, none], [], S0_) (fun r_ => (∃ u_ S1_, r_ = (.inl u_, S1_, 0) ∧ vq_115 b_ n_ S0_ u_ S1_) ∨ ∃ S1_, r_ = (.inr 2, S1_, 1) ∧ vx_115 b_ n_ S0_ S1_) := by
  have hF_ : ai_fr (sx_W vw_115) S0_ S0_ := ai_fr_rf
  have hIx1_ : gi (sm_pR S0_ 7 0 11 none) := gi_pR hI_
  have hFx2_ : ai_fr (sx_W vw_115) S0_ (sm_pR S0_ 7 0 11 none) := ai_fr_tr hF_ (ai_fr_pR rfl)
  have hIx3_ : gi (sm_pI (sm_pR S0_ 7 0 11 none) 7 0 3 0) := gi_pI hIx1_ (show 0 ≤ 0 ∧ 0 ≤ 16 from ⟨by omega, by omega⟩)
  have hFx4_ : ai_fr (sx_W vw_115) S0_ (sm_pI (sm_pR S0_ 7 0 11 none) 7 0 3 0) := ai_fr_tr hFx2_ (ai_fr_pI rfl)
  have hIx5_ : gi (sm_pI (sm_pI (sm_pR S0_ 7 0 11 none) 7 0 3 0) 7 0 2 0) := gi_pI hIx3_ (show 0 ≤ 0 ∧ 0 ≤ 65536 from ⟨by omega, by omega⟩)
  have hFx6_ : ai_fr (sx_W vw_115) S0_ (sm_pI (sm_pI (sm_pR S0_ 7 0 11 none) 7 0 3 0) 7 0 2 0) := ai_fr_tr hFx4_ (ai_fr_pI rfl)
  refine sm_T_go 13 (c1 := (21, [some (.inr (.inr (some (7, 0)))), none, none], [.inl 0, .inl 0, .inr (.inr (some (76, 0)))], sm_pI (sm_pI (sm_pR S0_ 7 0 11 none) 7 0 3 0) 7 0 2 0)) rfl ?_
  refine sm_T_iast (n := 17) rfl rfl (by omega) (by omega) ?_
  have hIx7_ : gi (sm_aI (sm_pI (sm_pI (sm_pR S0_ 7 0 11 none) 7 0 3 0) 7 0 2 0) 76 0 (0 : Int).toNat 0) := gi_aI hIx5_ (show 0 ≤ 0 ∧ 0 ≤ 65536 from ⟨by omega, by omega⟩)
  have hFx8_ : ai_fr (sx_W vw_115) S0_ (sm_aI (sm_pI (sm_pI (sm_pR S0_ 7 0 11 none) 7 0 3 0) 7 0 2 0) 76 0 (0 : Int).toNat 0) := ai_fr_tr hFx6_ (ai_fr_aI rfl)
  refine sm_T_go 2 (c1 := (26, [some (.inr (.inr (some (7, 0)))), none, none], [.inr (.inr (some (10, 0)))], sm_aI (sm_pI (sm_pI (sm_pR S0_ 7 0 11 none) 7 0 3 0) 7 0 2 0) 76 0 (0 : Int).toNat 0)) rfl ?_
  refine sm_T_calx (d1 := 2) (Q1 := vq_186 b_ n_ (sm_aI (sm_pI (sm_pI (sm_pR S0_ 7 0 11 none) 7 0 3 0) 7 0 2 0) 76 0 (0 : Int).toNat 0)) (Q2 := vx_186 b_ n_ (sm_aI (sm_pI (sm_pI (sm_pR S0_ 7 0 11 none) 7 0 3 0) 7 0 2 0) 76 0 (0 : Int).toNat 0)) rfl rfl (by decide) (vc_186 b_ n_ (sm_aI (sm_pI (sm_pI (sm_pR S0_ 7 0 11 none) 7 0 3 0) 7 0 2 0) 76 0 (0 : Int).toNat 0) hIx7_ (by exact (fr_arr hFx8_ rfl).trans hb_) (by exact (hFx8_.1 10 0 1 rfl).trans hn_) (by exact hn1_)) rfl (fun Sx9_ px12_ => ?_) (fun u_ Sx9_ px12_ => ?_)
  · obtain ⟨hIx10_, hFx11_, px12_⟩ := px12_
    refine Or.inr ⟨_, rfl, hIx10_, ai_fr_tr hFx8_ (fr_le hFx11_ rfl), ?_⟩
    refine ⟨(1, (lx_k b_ n_ 0)), ?_, px12_.2⟩
    unfold p_de; rw [if_pos px12_.1]
  obtain ⟨rfl, hIx10_, hFx11_, px12_⟩ := px12_
  have hFx13_ : ai_fr (sx_W vw_115) S0_ Sx9_ := ai_fr_tr hFx8_ (fr_le hFx11_ rfl)
  have c1_ := px12_
  have b1_ : br b_ n_ ((fun _ => 0, fun _ => 0, fun _ => 0, fun _ => 0, fun _ => 0) : pA) (fun _ => 0) 0 [] Sx9_ := ⟨hFx11_.1 7 0 3 rfl, Nat.zero_le _, fun m_ hm_ => absurd hm_ (Nat.not_lt_zero _), ⟨Nat.zero_le _, fun m_ hm_ => absurd hm_ (Nat.not_lt_zero _)⟩, hFx11_.2.1 7 0 11 rfl, hFx11_.1 7 0 2 rfl, trivial⟩
  have m1_ : Sx9_.2.2.1 76 0 0 = 0 := by rw [fr_arr (t := 76) hFx11_ rfl]; rfl
  have st1_ := c1_.2.2.2.2.2.1
  have kd1_ := c1_.2.2.2.2.2.2.2.1
  have hp1_ := c1_.2.2.2.1
  refine sm_T_go 1 (c1 := (30, [some (.inr (.inr (some (7, 0)))), none, none], [.inr (.inr (some (7, 0)))], Sx9_)) rfl ?_
  refine sm_T_calx (d1 := 3) (Q1 := vq_116 b_ n_ ((fun _ => 0, fun _ => 0, fun _ => 0, fun _ => 0, fun _ => 0) : pA) (fun _ => 0) 0 [] (lx_k b_ n_ 0) Sx9_) (Q2 := vx_116 b_ n_ ((fun _ => 0, fun _ => 0, fun _ => 0, fun _ => 0, fun _ => 0) : pA) (fun _ => 0) 0 [] (lx_k b_ n_ 0) Sx9_) rfl rfl (by decide) (vc_116 b_ n_ ((fun _ => 0, fun _ => 0, fun _ => 0, fun _ => 0, fun _ => 0) : pA) (fun _ => 0) 0 [] (lx_k b_ n_ 0) Sx9_ hIx10_ (by exact c1_) (by exact b1_)) rfl (fun Sx14_ px17_ => ?_) (fun u_ Sx14_ px17_ => ?_)
  · obtain ⟨hIx15_, hFx16_, px17_⟩ := px17_
    refine Or.inr ⟨_, rfl, hIx15_, ai_fr_tr hFx13_ (fr_le hFx16_ rfl), ?_⟩
    obtain ⟨e_, w1_, w2_⟩ := px17_
    refine ⟨e_, ?_, w2_⟩
    unfold p_de; rw [if_neg c1_.2.2.2.2.1, pb_l w1_]
  obtain ⟨rfl, hIx15_, hFx16_, px17_⟩ := px17_
  have hFx18_ : ai_fr (sx_W vw_115) S0_ Sx14_ := ai_fr_tr hFx13_ (fr_le hFx16_ rfl)
  obtain ⟨x2_, a2_, c2_, d2_, n2_, lt2_⟩ := px17_
  have m2_ : Sx14_.2.2.1 76 0 0 = 0 := by rw [fr_arr (t := 76) hFx16_ rfl]; exact m1_
  have c29_ := c2_.2.2.2.1
  refine sm_T_go 4 (c1 := (37, [some (.inr (.inr (some (7, 0)))), some (.inl 1), some (.inl 0)], [], Sx14_)) rfl ?_
  refine (vl_115 b_ n_ S0_ hb_ hn_ hn1_ _) 1 0 Sx14_ hIx15_ hFx18_ ⟨?_, ?_, trivial⟩ (Nat.lt_succ_self _)
  · omega
  · left
    refine ⟨rfl, n_ + 1, x2_.1, x2_.2.1, 0, fun _ => 0, [], x2_.2.2, c2_, d2_, n2_, fun k_ hk_ => ?_, Nat.zero_le _, by omega, by omega, ?_⟩
    · rw [show k_ = 0 by omega]; exact m2_
    · unfold p_de; rw [if_neg c1_.2.2.2.2.1, pb_r a2_]
