/-! Router.sortNets -/
def vw_155 : sx_Wl := ([(8, 13)], [91], [])
def vq_155 (a1_ : Int) (bb_ : Nat) (S0_ : sm_S) (u_ : Option sm_V) (S1_ : sm_S) : Prop := u_ = none ∧ gi S1_ ∧ ai_fr (sx_W vw_155) S0_ S1_ ∧ ((0 ≤ S1_.1 8 0 13 ∧ S1_.1 8 0 13 ≤ a1_) ∧ rrw bb_ a1_ (S1_.1 8 0 13) (S1_.1 8 0 13) S1_)
set_option maxHeartbeats 400000 in
theorem vl_155 {sc_ : Nat × (Nat → Int)} (a1_ : Int) (bb_ : Nat) (S0_ : sm_S) (hb_ : S0_.2.1 8 0 0 = some bb_) (h1_ : 0 ≤ a1_ ∧ a1_ ≤ 162) : ∀ nn_ : Nat, (∀ (n_ : Int) (S_ : sm_S), gi S_ → ai_fr (sx_W vw_155) S0_ S_ → ((0 ≤ n_ ∧ n_ ≤ a1_ ∧ S_.1 8 0 13 ≤ n_) ∧ (rrw bb_ n_ (S_.1 8 0 13) (S_.1 8 0 13) S_) ∧ True) → ((10000 * (200 - n_) + 5000).toNat) < nn_ → sm_T (mt_P sc_) 0 155 (7, [some (.inr (.inr (some (8, 0)))), some (.inl a1_), some (.inl n_), none], [], S_) (fun ro9_ => ∃ u_ S1_, ro9_ = (.inl u_, S1_, 0) ∧ vq_155 a1_ bb_ S0_ u_ S1_)) ∧ (∀ (n_ : Int) (a9_ : Int) (S_ : sm_S), gi S_ → ai_fr (sx_W vw_155) S0_ S_ → ((0 ≤ n_ ∧ n_ < a1_ ∧ S_.1 8 0 13 ≤ n_ ∧ 0 ≤ a9_ ∧ a9_ ≤ S_.1 8 0 13) ∧ (rrw bb_ n_ (S_.1 8 0 13) a9_ S_) ∧ (1 < S_.2.2.1 20 (0 + bb_) n_.toNat) ∧ True) → ((10000 * (200 - n_) + 4000 + a9_).toNat) < nn_ → sm_T (mt_P sc_) 0 155 (30, [some (.inr (.inr (some (8, 0)))), some (.inl a1_), some (.inl n_), some (.inl a9_)], [], S_) (fun ro9_ => ∃ u_ S1_, ro9_ = (.inl u_, S1_, 0) ∧ vq_155 a1_ bb_ S0_ u_ S1_)) := by
  intro nn_
  induction nn_ with
  | zero => exact ⟨fun _ _ _ _ _ h_ => absurd h_ (Nat.not_lt_zero _), fun _ _ _ _ _ _ h_ => absurd h_ (Nat.not_lt_zero _)⟩
  | succ nn_ ih_ =>
    refine ⟨?_, ?_⟩
    · rintro n_ S_ hI_ hF_ ⟨h0_, hr_, -⟩ hm_
      have k20_ : S_.2.2.1 20 (0 + bb_) = S0_.2.2.1 20 (0 + bb_) := fr_arr hF_ rfl
      have cr : 0 ≤ S_.1 8 0 13 ∧ S_.1 8 0 13 ≤ 162 := hI_.1 8 0 13 rfl
      refine sm_T_go 2 (c1 := (9, [some (.inr (.inr (some (8, 0)))), some (.inl a1_), some (.inl n_), none], [.inl a1_, .inl n_], S_)) rfl ?_
      refine sm_T_br (a := 3) (z := 96) rfl (fun cx1_ => ?_) (fun cx1_ => ?_)
      · have cx1_ : a1_ ≤ n_ := of_decide_eq_true cx1_
        refine sm_T_rv rfl ⟨_, _, rfl, rfl, hI_, hF_, ?_⟩
        exact ⟨by omega, by rw [show a1_ = n_ by omega]; exact hr_⟩
      · have cx1_ : ¬ (a1_ ≤ n_) := of_decide_eq_false cx1_
        refine sm_T_go 1 (c1 := (13, [some (.inr (.inr (some (8, 0)))), some (.inl a1_), some (.inl n_), none], [.inr (.inr (some (8, 0)))], S_)) rfl ?_
        refine sm_T_gr rfl rfl ((hF_.2.1 8 0 0 rfl).trans hb_) ?_
        refine sm_T_go 2 (c1 := (20, [some (.inr (.inr (some (8, 0)))), some (.inl a1_), some (.inl n_), none], [.inl n_, .inr (.inr (some (20, (0 + bb_))))], S_)) rfl ?_
        refine sm_T_iald (n := 162) rfl rfl (by omega) (by omega) ?_
        have bx2_ : 0 ≤ S_.2.2.1 20 (0 + bb_) n_.toNat ∧ S_.2.2.1 20 (0 + bb_) n_.toNat ≤ 652 := hI_.2 20 (0 + bb_) _
        refine sm_T_go 1 (c1 := (22, [some (.inr (.inr (some (8, 0)))), some (.inl a1_), some (.inl n_), none], [.inl 1, .inl (S_.2.2.1 20 (0 + bb_) n_.toNat)], S_)) rfl ?_
        refine sm_T_br (a := 5) (z := 77) rfl (fun cx3_ => ?_) (fun cx3_ => ?_)
        · have cx3_ : (S_.2.2.1 20 (0 + bb_) n_.toNat) ≤ 1 := of_decide_eq_true cx3_
          refine sm_T_inc (a := 2) (z := 1) (v := n_) (w := n_ + 1) rfl rfl (by omega) (by omega) (by omega) ?_ -- pc_ 99
          refine sm_T_go 1 (c1 := (7, [some (.inr (.inr (some (8, 0)))), some (.inl a1_), some (.inl (n_ + 1)), none], [], S_)) rfl ?_
          refine ih_.1 (n_ + 1) S_ hI_ hF_ ⟨?_, ?_, trivial⟩ ?_
          · omega
          · exact rrw_up hr_ rfl rfl (by omega)
          · omega
        · have cx3_ : ¬ ((S_.2.2.1 20 (0 + bb_) n_.toNat) ≤ 1) := of_decide_eq_false cx3_
          have bx4_ : 0 ≤ S_.1 8 0 13 ∧ S_.1 8 0 13 ≤ 162 := hI_.1 8 0 13 rfl
          refine sm_T_go 3 (c1 := (30, [some (.inr (.inr (some (8, 0)))), some (.inl a1_), some (.inl n_), some (.inl (S_.1 8 0 13))], [], S_)) rfl ?_
          refine ih_.2 n_ (S_.1 8 0 13) S_ hI_ hF_ ⟨?_, ?_, ?_, trivial⟩ ?_
          · omega
          · exact hr_
          · omega
          · omega
    · rintro n_ a9_ S_ hI_ hF_ ⟨h0_, hr_, hq_, -⟩ hm_
      have k20_ : S_.2.2.1 20 (0 + bb_) = S0_.2.2.1 20 (0 + bb_) := fr_arr hF_ rfl
      have cr : 0 ≤ S_.1 8 0 13 ∧ S_.1 8 0 13 ≤ 162 := hI_.1 8 0 13 rfl
      refine sm_T_go 1 (c1 := (31, [some (.inr (.inr (some (8, 0)))), some (.inl a1_), some (.inl n_), some (.inl a9_)], [.inl a9_], S_)) rfl ?_
      refine sm_T_b0 (a := 5) (z := 51) rfl (fun cx1_ => ?_) (fun cx1_ => ?_)
      · have cx1_ : a9_ ≤ 0 := of_decide_eq_true cx1_
        refine sm_T_go 4 (c1 := (88, [some (.inr (.inr (some (8, 0)))), some (.inl a1_), some (.inl n_), some (.inl a9_)], [.inl n_, .inl a9_, .inr (.inr (some (91, 0)))], S_)) rfl ?_
        refine sm_T_iast (n := 162) rfl rfl (by omega) (by omega) ?_
        have hIx2_ : gi (sm_aI S_ 91 0 a9_.toNat n_) := gi_aI hI_ (show 0 ≤ n_ ∧ n_ ≤ 161 from ⟨by omega, by omega⟩)
        have hFx3_ : ai_fr (sx_W vw_155) S0_ (sm_aI S_ 91 0 a9_.toNat n_) := ai_fr_tr hF_ (ai_fr_aI rfl)
        have bx4_ : 0 ≤ S_.1 8 0 13 ∧ S_.1 8 0 13 ≤ 162 := hI_.1 8 0 13 rfl
        refine sm_T_go 4 (c1 := (95, [some (.inr (.inr (some (8, 0)))), some (.inl a1_), some (.inl n_), some (.inl a9_)], [.inl 1, .inl (S_.1 8 0 13), .inr (.inr (some (8, 0)))], sm_aI S_ 91 0 a9_.toNat n_)) rfl ?_
        refine sm_T_bin (w := (S_.1 8 0 13) + 1) rfl (bi_add (by omega) (by omega) (by omega)) ?_ -- pc_ 95
        have hIx5_ : gi (sm_pI (sm_aI S_ 91 0 a9_.toNat n_) 8 0 13 ((S_.1 8 0 13) + 1)) := gi_pI hIx2_ (show 0 ≤ (S_.1 8 0 13) + 1 ∧ (S_.1 8 0 13) + 1 ≤ 162 from ⟨by omega, by omega⟩)
        have hFx6_ : ai_fr (sx_W vw_155) S0_ (sm_pI (sm_aI S_ 91 0 a9_.toNat n_) 8 0 13 ((S_.1 8 0 13) + 1)) := ai_fr_tr hFx3_ (ai_fr_pI rfl)
        refine sm_T_go 1 (c1 := (99, [some (.inr (.inr (some (8, 0)))), some (.inl a1_), some (.inl n_), some (.inl a9_)], [], sm_pI (sm_aI S_ 91 0 a9_.toNat n_) 8 0 13 ((S_.1 8 0 13) + 1))) rfl ?_
        refine sm_T_inc (a := 2) (z := 1) (v := n_) (w := n_ + 1) rfl rfl (by omega) (by omega) (by omega) ?_ -- pc_ 99
        refine sm_T_go 1 (c1 := (7, [some (.inr (.inr (some (8, 0)))), some (.inl a1_), some (.inl (n_ + 1)), some (.inl a9_)], [], sm_pI (sm_aI S_ 91 0 a9_.toNat n_) 8 0 13 ((S_.1 8 0 13) + 1))) rfl ?_
        refine sm_T_wk [some (.inr (.inr (some (8, 0)))), some (.inl a1_), some (.inl (n_ + 1)), none] (by exact ⟨rfl, rfl, rfl, trivial⟩) ?_
        refine ih_.1 (n_ + 1) (sm_pI (sm_aI S_ 91 0 a9_.toNat n_) 8 0 13 ((S_.1 8 0 13) + 1)) hIx5_ hFx6_ ⟨?_, ?_, trivial⟩ ?_
        · (rw [rf_eq]; omega)
        · have z9_ := rrw_in (S'_ := sm_pI (sm_aI S_ 91 0 a9_.toNat n_) 8 0 13 (S_.1 8 0 13 + 1)) hr_ (by omega) (by omega) hq_ (fun i_ => by rw [rd_fa, rd_eq]) (by rw [rd_fa, rd_ne_ (by decide)])
          rw [rf_eq]
          exact z9_
        · omega
      · have cx1_ : ¬ (a9_ ≤ 0) := of_decide_eq_false cx1_
        have g9_ := hr_.1 (a9_ - 1).toNat (by omega) (by omega)
        refine sm_T_go 1 (c1 := (35, [some (.inr (.inr (some (8, 0)))), some (.inl a1_), some (.inl n_), some (.inl a9_)], [.inr (.inr (some (8, 0)))], S_)) rfl ?_
        refine sm_T_gr rfl rfl ((hF_.2.1 8 0 0 rfl).trans hb_) ?_
        refine sm_T_go 5 (c1 := (47, [some (.inr (.inr (some (8, 0)))), some (.inl a1_), some (.inl n_), some (.inl a9_)], [.inl 1, .inl a9_, .inr (.inr (some (91, 0))), .inr (.inr (some (21, (0 + bb_))))], S_)) rfl ?_
        refine sm_T_bin (w := a9_ - 1) rfl (bi_sub (by omega) (by omega) (by omega)) ?_ -- pc_ 47
        refine sm_T_iald (n := 162) rfl rfl (by omega) (by omega) ?_
        have bx7_ : 0 ≤ S_.2.2.1 91 0 (a9_ - 1).toNat ∧ S_.2.2.1 91 0 (a9_ - 1).toNat ≤ 161 := hI_.2 91 0 _
        refine sm_T_iald (n := 162) rfl rfl (by omega) (by omega) ?_
        have bx8_ : (-9999) ≤ S_.2.2.1 21 (0 + bb_) (S_.2.2.1 91 0 (a9_ - 1).toNat).toNat ∧ S_.2.2.1 21 (0 + bb_) (S_.2.2.1 91 0 (a9_ - 1).toNat).toNat ≤ 20000 := hI_.2 21 (0 + bb_) _
        refine sm_T_go 1 (c1 := (51, [some (.inr (.inr (some (8, 0)))), some (.inl a1_), some (.inl n_), some (.inl a9_)], [.inr (.inr (some (8, 0))), .inl (S_.2.2.1 21 (0 + bb_) (S_.2.2.1 91 0 (a9_ - 1).toNat).toNat)], S_)) rfl ?_
        refine sm_T_gr rfl rfl ((hF_.2.1 8 0 0 rfl).trans hb_) ?_
        refine sm_T_go 2 (c1 := (58, [some (.inr (.inr (some (8, 0)))), some (.inl a1_), some (.inl n_), some (.inl a9_)], [.inl n_, .inr (.inr (some (21, (0 + bb_)))), .inl (S_.2.2.1 21 (0 + bb_) (S_.2.2.1 91 0 (a9_ - 1).toNat).toNat)], S_)) rfl ?_
        refine sm_T_iald (n := 162) rfl rfl (by omega) (by omega) ?_
        have bx9_ : (-9999) ≤ S_.2.2.1 21 (0 + bb_) n_.toNat ∧ S_.2.2.1 21 (0 + bb_) n_.toNat ≤ 20000 := hI_.2 21 (0 + bb_) _
        refine sm_T_br (a := 5) (z := 23) rfl (fun cx10_ => ?_) (fun cx10_ => ?_)
        · have cx10_ : (S_.2.2.1 21 (0 + bb_) (S_.2.2.1 91 0 (a9_ - 1).toNat).toNat) ≤ (S_.2.2.1 21 (0 + bb_) n_.toNat) := of_decide_eq_true cx10_
          refine sm_T_go 4 (c1 := (88, [some (.inr (.inr (some (8, 0)))), some (.inl a1_), some (.inl n_), some (.inl a9_)], [.inl n_, .inl a9_, .inr (.inr (some (91, 0)))], S_)) rfl ?_
          refine sm_T_iast (n := 162) rfl rfl (by omega) (by omega) ?_
          have hIx11_ : gi (sm_aI S_ 91 0 a9_.toNat n_) := gi_aI hI_ (show 0 ≤ n_ ∧ n_ ≤ 161 from ⟨by omega, by omega⟩)
          have hFx12_ : ai_fr (sx_W vw_155) S0_ (sm_aI S_ 91 0 a9_.toNat n_) := ai_fr_tr hF_ (ai_fr_aI rfl)
          have bx13_ : 0 ≤ S_.1 8 0 13 ∧ S_.1 8 0 13 ≤ 162 := hI_.1 8 0 13 rfl
          refine sm_T_go 4 (c1 := (95, [some (.inr (.inr (some (8, 0)))), some (.inl a1_), some (.inl n_), some (.inl a9_)], [.inl 1, .inl (S_.1 8 0 13), .inr (.inr (some (8, 0)))], sm_aI S_ 91 0 a9_.toNat n_)) rfl ?_
          refine sm_T_bin (w := (S_.1 8 0 13) + 1) rfl (bi_add (by omega) (by omega) (by omega)) ?_ -- pc_ 95
          have hIx14_ : gi (sm_pI (sm_aI S_ 91 0 a9_.toNat n_) 8 0 13 ((S_.1 8 0 13) + 1)) := gi_pI hIx11_ (show 0 ≤ (S_.1 8 0 13) + 1 ∧ (S_.1 8 0 13) + 1 ≤ 162 from ⟨by omega, by omega⟩)
          have hFx15_ : ai_fr (sx_W vw_155) S0_ (sm_pI (sm_aI S_ 91 0 a9_.toNat n_) 8 0 13 ((S_.1 8 0 13) + 1)) := ai_fr_tr hFx12_ (ai_fr_pI rfl)
          refine sm_T_go 1 (c1 := (99, [some (.inr (.inr (some (8, 0)))), some (.inl a1_), some (.inl n_), some (.inl a9_)], [], sm_pI (sm_aI S_ 91 0 a9_.toNat n_) 8 0 13 ((S_.1 8 0 13) + 1))) rfl ?_
          refine sm_T_inc (a := 2) (z := 1) (v := n_) (w := n_ + 1) rfl rfl (by omega) (by omega) (by omega) ?_ -- pc_ 99
          refine sm_T_go 1 (c1 := (7, [some (.inr (.inr (some (8, 0)))), some (.inl a1_), some (.inl (n_ + 1)), some (.inl a9_)], [], sm_pI (sm_aI S_ 91 0 a9_.toNat n_) 8 0 13 ((S_.1 8 0 13) + 1))) rfl ?_
          refine sm_T_wk [some (.inr (.inr (some (8, 0)))), some (.inl a1_), some (.inl (n_ + 1)), none] (by exact ⟨rfl, rfl, rfl, trivial⟩) ?_
          refine ih_.1 (n_ + 1) (sm_pI (sm_aI S_ 91 0 a9_.toNat n_) 8 0 13 ((S_.1 8 0 13) + 1)) hIx14_ hFx15_ ⟨?_, ?_, trivial⟩ ?_
          · (rw [rf_eq]; omega)
          · have z9_ := rrw_in (S'_ := sm_pI (sm_aI S_ 91 0 a9_.toNat n_) 8 0 13 (S_.1 8 0 13 + 1)) hr_ (by omega) (by omega) hq_ (fun i_ => by rw [rd_fa, rd_eq]) (by rw [rd_fa, rd_ne_ (by decide)])
            rw [rf_eq]
            exact z9_
          · omega
        · have cx10_ : ¬ ((S_.2.2.1 21 (0 + bb_) (S_.2.2.1 91 0 (a9_ - 1).toNat).toNat) ≤ (S_.2.2.1 21 (0 + bb_) n_.toNat)) := of_decide_eq_false cx10_
          refine sm_T_go 7 (c1 := (73, [some (.inr (.inr (some (8, 0)))), some (.inl a1_), some (.inl n_), some (.inl a9_)], [.inl 1, .inl a9_, .inr (.inr (some (91, 0))), .inl a9_, .inr (.inr (some (91, 0)))], S_)) rfl ?_
          refine sm_T_bin (w := a9_ - 1) rfl (bi_sub (by omega) (by omega) (by omega)) ?_ -- pc_ 73
          refine sm_T_iald (n := 162) rfl rfl (by omega) (by omega) ?_
          refine sm_T_iast (n := 162) rfl rfl (by omega) (by omega) ?_
          have hIx16_ : gi (sm_aI S_ 91 0 a9_.toNat (S_.2.2.1 91 0 (a9_ - 1).toNat)) := gi_aI hI_ (show 0 ≤ (S_.2.2.1 91 0 (a9_ - 1).toNat) ∧ (S_.2.2.1 91 0 (a9_ - 1).toNat) ≤ 161 from ⟨by omega, by omega⟩)
          have hFx17_ : ai_fr (sx_W vw_155) S0_ (sm_aI S_ 91 0 a9_.toNat (S_.2.2.1 91 0 (a9_ - 1).toNat)) := ai_fr_tr hF_ (ai_fr_aI rfl)
          refine sm_T_inc (a := 3) (z := (-1)) (v := a9_) (w := a9_ - 1) rfl rfl (by omega) (by omega) (by omega) ?_ -- pc_ 76
          refine sm_T_go 1 (c1 := (30, [some (.inr (.inr (some (8, 0)))), some (.inl a1_), some (.inl n_), some (.inl (a9_ - 1))], [], sm_aI S_ 91 0 a9_.toNat (S_.2.2.1 91 0 (a9_ - 1).toNat))) rfl ?_
          refine ih_.2 n_ (a9_ - 1) (sm_aI S_ 91 0 a9_.toNat (S_.2.2.1 91 0 (a9_ - 1).toNat)) hIx16_ hFx17_ ⟨?_, ?_, ?_, trivial⟩ ?_
          · (simp only [rd_af]; omega)
          · exact rrw_mv (k_ := S_.1 8 0 13) hr_ (by omega)
          · (rw [rd_ne (by decide)]; exact hq_)
          · omega
set_option maxHeartbeats 400000 in
theorem vc_155 {sc_ : Nat × (Nat → Int)} (a1_ : Int) (bb_ : Nat) (S0_ : sm_S) (hI_ : gi S0_) (hb_ : S0_.2.1 8 0 0 = some bb_) (h1_ : 0 ≤ a1_ ∧ a1_ ≤ 162) : sm_T (mt_P sc_) 0 155 (0, [some (.inr (.inr (some (8, 0)))), some (.inl a1_), none, none], [], S0_) (fun ro9_ => ∃ u_ S1_, ro9_ = (.inl u_, S1_, 0) ∧ vq_155 a1_ bb_ S0_ u_ S1_) := by
  have hF_ : ai_fr (sx_W vw_155) S0_ S0_ := ai_fr_rf
  have hIx1_ : gi (sm_pI S0_ 8 0 13 0) := gi_pI hI_ (show 0 ≤ 0 ∧ 0 ≤ 162 from ⟨by omega, by omega⟩)
  have hFx2_ : ai_fr (sx_W vw_155) S0_ (sm_pI S0_ 8 0 13 0) := ai_fr_tr hF_ (ai_fr_pI rfl)
  refine sm_T_go 5 (c1 := (7, [some (.inr (.inr (some (8, 0)))), some (.inl a1_), some (.inl 0), none], [], sm_pI S0_ 8 0 13 0)) rfl ?_
  refine (vl_155 a1_ bb_ S0_ hb_ h1_ _).1 0 (sm_pI S0_ 8 0 13 0) hIx1_ hFx2_ ⟨?_, ?_, trivial⟩ (Nat.lt_succ_self _)
  · (rw [rf_eq]; omega)
  · refine ⟨fun i_ hi_ hn_ => ?_, fun i_ j_ hij_ hj_ hi_ hn_ => ?_⟩
    · rw [rf_eq] at hi_ hn_; exfalso; omega
    · rw [rf_eq] at hj_ hi_ hn_; exfalso; omega
