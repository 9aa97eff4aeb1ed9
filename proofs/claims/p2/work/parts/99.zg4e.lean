/-! Builder.measureDepth -/
def vw_46 : sx_Wl := ([(3, 7)], [33], [])
def vq_46 (dd_ : Nat) (F_ : Nat) (S0_ : sm_S) (u_ : Option sm_V) (S1_ : sm_S) : Prop := u_ = none ∧ gi S1_ ∧ ai_fr (sx_W vw_46) S0_ S1_ ∧ (idf dd_ S0_ S1_ ∧ (True))
set_option maxHeartbeats 1000000 in
theorem vl_46 {sc_ : Nat × (Nat → Int)} (dd_ : Nat) (F_ : Nat) (S0_ : sm_S) (hd_ : S0_.2.1 1 0 1 = some dd_) (hg_ : dgr dd_ F_ S0_) (hr_ : drt dd_ S0_) : ∀ nn_ : Nat, (∀ (n_ : Int) (S_ : sm_S), gi S_ → ai_fr (sx_W vw_46) S0_ S_ → (((F_ : Int) ≤ n_ ∧ n_ ≤ S0_.1 3 dd_ 4) ∧ (∀ k9_ : Nat, (k9_ : Int) < n_ → 0 ≤ S_.2.2.1 33 0 k9_ ∧ S_.2.2.1 33 0 k9_ ≤ (if k9_ < F_ then 0 else (k9_ : Int) - F_ + 1)) ∧ (idf dd_ S0_ S_) ∧ True) → ((5000 - n_).toNat) < nn_ → sm_T (mt_P sc_) 1 46 (16, [some (.inr (.inr (some (1, 0)))), some (.inl n_)], [], S_) (fun ro9_ => ∃ u_ S1_, ro9_ = (.inl u_, S1_, 0) ∧ vq_46 dd_ F_ S0_ u_ S1_)) ∧ (∀ (k_ : Int) (S_ : sm_S), gi S_ → ai_fr (sx_W vw_46) S0_ S_ → ((0 ≤ k_) ∧ (∀ k9_ : Nat, (k9_ : Int) < S0_.1 3 dd_ 4 → 0 ≤ S_.2.2.1 33 0 k9_ ∧ S_.2.2.1 33 0 k9_ ≤ 1000) ∧ (idf dd_ S0_ S_) ∧ True) → ((1000 - k_).toNat) < nn_ → sm_T (mt_P sc_) 1 46 (86, [some (.inr (.inr (some (1, 0)))), some (.inl k_)], [], S_) (fun ro9_ => ∃ u_ S1_, ro9_ = (.inl u_, S1_, 0) ∧ vq_46 dd_ F_ S0_ u_ S1_)) := by
  intro nn_
  induction nn_ with
  | zero => exact ⟨fun _ _ _ _ _ h_ => absurd h_ (Nat.not_lt_zero _), fun _ _ _ _ _ h_ => absurd h_ (Nat.not_lt_zero _)⟩
  | succ nn_ ih_ =>
    refine ⟨?_, ?_⟩
    · rintro n_ S_ hI_ hF_ ⟨h0_, h1_, hD_, -⟩ hm_
      have g1_ := hg_.1
      have g2_ := hg_.2.1
      have e4_ : S_.1 3 dd_ 4 = S0_.1 3 dd_ 4 := hF_.1 3 dd_ 4 rfl
      have e3_ : S_.1 3 dd_ 3 = S0_.1 3 dd_ 3 := hF_.1 3 dd_ 3 rfl
      have e2_ : S_.1 3 dd_ 2 = S0_.1 3 dd_ 2 := hF_.1 3 dd_ 2 rfl
      have r1_ := hr_.1
      refine sm_T_go 2 (c1 := (18, [some (.inr (.inr (some (1, 0)))), some (.inl n_)], [.inr (.inr (some (1, 0))), .inl n_], S_)) rfl ?_
      refine sm_T_gr rfl rfl ((hF_.2.1 1 0 1 rfl).trans hd_) ?_
      have bx1_ : 0 ≤ S_.1 3 dd_ 4 ∧ S_.1 3 dd_ 4 ≤ 1013 := hI_.1 3 dd_ 4 rfl
      refine sm_T_go 1 (c1 := (24, [some (.inr (.inr (some (1, 0)))), some (.inl n_)], [.inl (S_.1 3 dd_ 4), .inl n_], S_)) rfl ?_
      refine sm_T_br (a := 3) (z := 52) rfl (fun cx2_ => ?_) (fun cx2_ => ?_)
      · have cx2_ : (S_.1 3 dd_ 4) ≤ n_ := of_decide_eq_true cx2_
        refine sm_T_go 1 (c1 := (77, [some (.inr (.inr (some (1, 0)))), some (.inl n_)], [.inr (.inr (some (1, 0)))], S_)) rfl ?_
        refine sm_T_gr rfl rfl ((hF_.2.1 1 0 1 rfl).trans hd_) ?_
        have hIx3_ : gi (sm_pI S_ 3 dd_ 7 0) := gi_pI hI_ (show 0 ≤ 0 ∧ 0 ≤ 1000 from ⟨by omega, by omega⟩)
        have hFx4_ : ai_fr (sx_W vw_46) S0_ (sm_pI S_ 3 dd_ 7 0) := ai_fr_tr hF_ (ai_fr_pI rfl)
        have hDx5_ : idf dd_ S0_ (sm_pI S_ 3 dd_ 7 0) := idf_pI hD_ (Or.inr rfl)
        refine sm_T_go 4 (c1 := (86, [some (.inr (.inr (some (1, 0)))), some (.inl 0)], [], sm_pI S_ 3 dd_ 7 0)) rfl ?_
        refine ih_.2 0 (sm_pI S_ 3 dd_ 7 0) hIx3_ hFx4_ ⟨?_, ?_, ?_, trivial⟩ ?_
        · omega
        · intro k9_ hk9_
          show 0 ≤ S_.2.2.1 33 0 k9_ ∧ S_.2.2.1 33 0 k9_ ≤ 1000
          have w9_ := h1_ k9_ (by omega)
          refine ⟨w9_.1, ?_⟩
          have w8_ := w9_.2
          (split at w8_ <;> omega)
        · exact hDx5_
        · omega
      · have cx2_ : ¬ ((S_.1 3 dd_ 4) ≤ n_) := of_decide_eq_false cx2_
        have gn_ := hg_.2.2 n_.toNat (by omega) (by omega)
        have lo_ := h1_ (S_.2.2.1 42 (0 + dd_) n_.toNat / 2).toNat (by rw [fr_arr (t := 42) (i := 0 + dd_) hF_ rfl]; omega)
        have hi_ := h1_ (S_.2.2.1 43 (0 + dd_) n_.toNat / 2).toNat (by rw [fr_arr (t := 43) (i := 0 + dd_) hF_ rfl]; omega)
        rw [fr_arr (t := 42) (i := 0 + dd_) hF_ rfl] at lo_
        rw [fr_arr (t := 43) (i := 0 + dd_) hF_ rfl] at hi_
        have f42_ := congrFun (fr_arr (t := 42) (i := 0 + dd_) hF_ rfl) n_.toNat
        have f43_ := congrFun (fr_arr (t := 43) (i := 0 + dd_) hF_ rfl) n_.toNat
        rw [← f42_] at lo_
        rw [← f43_] at hi_
        refine sm_T_go 7 (c1 := (38, [some (.inr (.inr (some (1, 0)))), some (.inl n_)], [.inr (.inr (some (1, 0))), .inr (.inr (some (33, 0))), .inl 1, .inl n_, .inr (.inr (some (33, 0)))], S_)) rfl ?_
        refine sm_T_gr rfl rfl ((hF_.2.1 1 0 1 rfl).trans hd_) ?_
        refine sm_T_go 2 (c1 := (45, [some (.inr (.inr (some (1, 0)))), some (.inl n_)], [.inl n_, .inr (.inr (some (42, (0 + dd_)))), .inr (.inr (some (33, 0))), .inl 1, .inl n_, .inr (.inr (some (33, 0)))], S_)) rfl ?_
        refine sm_T_iald (n := 1013) rfl rfl (by omega) (by omega) ?_
        have bx6_ : 0 ≤ S_.2.2.1 42 (0 + dd_) n_.toNat ∧ S_.2.2.1 42 (0 + dd_) n_.toNat ≤ 2025 := hI_.2 42 (0 + dd_) _
        refine sm_T_go 1 (c1 := (47, [some (.inr (.inr (some (1, 0)))), some (.inl n_)], [.inl 1, .inl (S_.2.2.1 42 (0 + dd_) n_.toNat), .inr (.inr (some (33, 0))), .inl 1, .inl n_, .inr (.inr (some (33, 0)))], S_)) rfl ?_
        refine sm_T_bin (w := ((S_.2.2.1 42 (0 + dd_) n_.toNat) / 2)) rfl (bi_shr (k := 1) (by decide) (by omega) (by omega)) ?_
        refine sm_T_iald (n := 1013) rfl rfl (by omega) (by omega) ?_
        have bx7_ : 0 ≤ S_.2.2.1 33 0 ((S_.2.2.1 42 (0 + dd_) n_.toNat) / 2).toNat ∧ S_.2.2.1 33 0 ((S_.2.2.1 42 (0 + dd_) n_.toNat) / 2).toNat ≤ 1012 := hI_.2 33 0 _
        refine sm_T_go 3 (c1 := (54, [some (.inr (.inr (some (1, 0)))), some (.inl n_)], [.inr (.inr (some (1, 0))), .inr (.inr (some (33, 0))), .inl (S_.2.2.1 33 0 ((S_.2.2.1 42 (0 + dd_) n_.toNat) / 2).toNat), .inl 1, .inl n_, .inr (.inr (some (33, 0)))], S_)) rfl ?_
        refine sm_T_gr rfl rfl ((hF_.2.1 1 0 1 rfl).trans hd_) ?_
        refine sm_T_go 2 (c1 := (61, [some (.inr (.inr (some (1, 0)))), some (.inl n_)], [.inl n_, .inr (.inr (some (43, (0 + dd_)))), .inr (.inr (some (33, 0))), .inl (S_.2.2.1 33 0 ((S_.2.2.1 42 (0 + dd_) n_.toNat) / 2).toNat), .inl 1, .inl n_, .inr (.inr (some (33, 0)))], S_)) rfl ?_
        refine sm_T_iald (n := 1013) rfl rfl (by omega) (by omega) ?_
        have bx8_ : 0 ≤ S_.2.2.1 43 (0 + dd_) n_.toNat ∧ S_.2.2.1 43 (0 + dd_) n_.toNat ≤ 2025 := hI_.2 43 (0 + dd_) _
        refine sm_T_go 1 (c1 := (63, [some (.inr (.inr (some (1, 0)))), some (.inl n_)], [.inl 1, .inl (S_.2.2.1 43 (0 + dd_) n_.toNat), .inr (.inr (some (33, 0))), .inl (S_.2.2.1 33 0 ((S_.2.2.1 42 (0 + dd_) n_.toNat) / 2).toNat), .inl 1, .inl n_, .inr (.inr (some (33, 0)))], S_)) rfl ?_
        refine sm_T_bin (w := ((S_.2.2.1 43 (0 + dd_) n_.toNat) / 2)) rfl (bi_shr (k := 1) (by decide) (by omega) (by omega)) ?_
        refine sm_T_iald (n := 1013) rfl rfl (by omega) (by omega) ?_
        have bx9_ : 0 ≤ S_.2.2.1 33 0 ((S_.2.2.1 43 (0 + dd_) n_.toNat) / 2).toNat ∧ S_.2.2.1 33 0 ((S_.2.2.1 43 (0 + dd_) n_.toNat) / 2).toNat ≤ 1012 := hI_.2 33 0 _
        refine sm_T_nt (u := some (.inl (sm_mx (S_.2.2.1 33 0 ((S_.2.2.1 42 (0 + dd_) n_.toNat) / 2).toNat) (S_.2.2.1 33 0 ((S_.2.2.1 43 (0 + dd_) n_.toNat) / 2).toNat)))) (S1 := S_) rfl rfl rfl ?_
        have bx10_ := sm_mx_d (S_.2.2.1 33 0 ((S_.2.2.1 42 (0 + dd_) n_.toNat) / 2).toNat) (S_.2.2.1 33 0 ((S_.2.2.1 43 (0 + dd_) n_.toNat) / 2).toNat)
        refine sm_T_bin (w := (sm_mx (S_.2.2.1 33 0 ((S_.2.2.1 42 (0 + dd_) n_.toNat) / 2).toNat) (S_.2.2.1 33 0 ((S_.2.2.1 43 (0 + dd_) n_.toNat) / 2).toNat)) + 1) rfl (bi_add (by omega) (by omega) (by omega)) ?_
        refine sm_T_iast (n := 1013) rfl rfl (by omega) (by omega) ?_
        have hIx11_ : gi (sm_aI S_ 33 0 n_.toNat ((sm_mx (S_.2.2.1 33 0 ((S_.2.2.1 42 (0 + dd_) n_.toNat) / 2).toNat) (S_.2.2.1 33 0 ((S_.2.2.1 43 (0 + dd_) n_.toNat) / 2).toNat)) + 1)) := gi_aI hI_ (show 0 ≤ (sm_mx (S_.2.2.1 33 0 ((S_.2.2.1 42 (0 + dd_) n_.toNat) / 2).toNat) (S_.2.2.1 33 0 ((S_.2.2.1 43 (0 + dd_) n_.toNat) / 2).toNat)) + 1 ∧ (sm_mx (S_.2.2.1 33 0 ((S_.2.2.1 42 (0 + dd_) n_.toNat) / 2).toNat) (S_.2.2.1 33 0 ((S_.2.2.1 43 (0 + dd_) n_.toNat) / 2).toNat)) + 1 ≤ 1012 from ⟨by omega, by omega⟩)
        have hFx12_ : ai_fr (sx_W vw_46) S0_ (sm_aI S_ 33 0 n_.toNat ((sm_mx (S_.2.2.1 33 0 ((S_.2.2.1 42 (0 + dd_) n_.toNat) / 2).toNat) (S_.2.2.1 33 0 ((S_.2.2.1 43 (0 + dd_) n_.toNat) / 2).toNat)) + 1)) := ai_fr_tr hF_ (ai_fr_aI rfl)
        have hDx13_ : idf dd_ S0_ (sm_aI S_ 33 0 n_.toNat ((sm_mx (S_.2.2.1 33 0 ((S_.2.2.1 42 (0 + dd_) n_.toNat) / 2).toNat) (S_.2.2.1 33 0 ((S_.2.2.1 43 (0 + dd_) n_.toNat) / 2).toNat)) + 1)) := idf_aI hD_ (Or.inl (by decide))
        refine sm_T_inc (a := 1) (z := 1) (v := n_) (w := n_ + 1) rfl rfl (by omega) (by omega) (by omega) ?_
        refine sm_T_go 1 (c1 := (16, [some (.inr (.inr (some (1, 0)))), some (.inl (n_ + 1))], [], sm_aI S_ 33 0 n_.toNat ((sm_mx (S_.2.2.1 33 0 ((S_.2.2.1 42 (0 + dd_) n_.toNat) / 2).toNat) (S_.2.2.1 33 0 ((S_.2.2.1 43 (0 + dd_) n_.toNat) / 2).toNat)) + 1))) rfl ?_
        refine ih_.1 (n_ + 1) (sm_aI S_ 33 0 n_.toNat ((sm_mx (S_.2.2.1 33 0 ((S_.2.2.1 42 (0 + dd_) n_.toNat) / 2).toNat) (S_.2.2.1 33 0 ((S_.2.2.1 43 (0 + dd_) n_.toNat) / 2).toNat)) + 1)) hIx11_ hFx12_ ⟨?_, ?_, ?_, trivial⟩ ?_
        · omega
        · intro k9_ hk9_
          rw [rd_eq]
          by_cases z9_ : k9_ = n_.toNat
          · rw [if_pos z9_]; split <;> (split at lo_ <;> split at hi_ <;> omega)
          · rw [if_neg z9_]; exact h1_ k9_ (by omega)
        · exact hDx13_
        · omega
    · rintro k_ S_ hI_ hF_ ⟨h0_, h1_, hD_, -⟩ hm_
      have g1_ := hg_.1
      have g2_ := hg_.2.1
      have e4_ : S_.1 3 dd_ 4 = S0_.1 3 dd_ 4 := hF_.1 3 dd_ 4 rfl
      have e3_ : S_.1 3 dd_ 3 = S0_.1 3 dd_ 3 := hF_.1 3 dd_ 3 rfl
      have e2_ : S_.1 3 dd_ 2 = S0_.1 3 dd_ 2 := hF_.1 3 dd_ 2 rfl
      have r1_ := hr_.1
      refine sm_T_go 2 (c1 := (88, [some (.inr (.inr (some (1, 0)))), some (.inl k_)], [.inr (.inr (some (1, 0))), .inl k_], S_)) rfl ?_
      refine sm_T_gr rfl rfl ((hF_.2.1 1 0 1 rfl).trans hd_) ?_
      refine sm_T_cal (d1 := 0) (Q1 := vq_66 dd_ S_) rfl rfl (by decide) (vc_66 dd_ S_ hI_ (by omega)) (fun u_ Sx1_ px4_ => ?_)
      obtain ⟨rfl, vx6_, rfl, px4_⟩ := px4_
      have e91_ := px4_
      refine sm_T_br (a := 3) (z := 41) rfl (fun cx7_ => ?_) (fun cx7_ => ?_)
      · have cx7_ : vx6_ ≤ k_ := of_decide_eq_true cx7_
        refine sm_T_rv rfl ⟨_, _, rfl, rfl, hI_, hF_, ?_⟩
        refine ⟨hD_, ?_⟩
        trivial
      · have cx7_ : ¬ (vx6_ ≤ k_) := of_decide_eq_false cx7_
        refine sm_T_go 1 (c1 := (98, [some (.inr (.inr (some (1, 0)))), some (.inl k_)], [.inr (.inr (some (1, 0)))], S_)) rfl ?_
        refine sm_T_gr rfl rfl ((hF_.2.1 1 0 1 rfl).trans hd_) ?_
        refine sm_T_go 1 (c1 := (102, [some (.inr (.inr (some (1, 0)))), some (.inl k_)], [.inr (.inr (some (1, 0))), .inr (.inr (some (3, dd_)))], S_)) rfl ?_
        refine sm_T_gr rfl rfl ((hF_.2.1 1 0 1 rfl).trans hd_) ?_
        have bx8_ : 0 ≤ S_.1 3 dd_ 7 ∧ S_.1 3 dd_ 7 ≤ 1000 := hI_.1 3 dd_ 7 rfl
        refine sm_T_go 4 (c1 := (113, [some (.inr (.inr (some (1, 0)))), some (.inl k_)], [.inr (.inr (some (1, 0))), .inr (.inr (some (33, 0))), .inl (S_.1 3 dd_ 7), .inr (.inr (some (3, dd_)))], S_)) rfl ?_
        refine sm_T_gr rfl rfl ((hF_.2.1 1 0 1 rfl).trans hd_) ?_
        refine sm_T_go 1 (c1 := (117, [some (.inr (.inr (some (1, 0)))), some (.inl k_)], [.inl k_, .inr (.inr (some (3, dd_))), .inr (.inr (some (33, 0))), .inl (S_.1 3 dd_ 7), .inr (.inr (some (3, dd_)))], S_)) rfl ?_
        refine sm_T_cal (d1 := 0) (Q1 := vq_65 k_ dd_ S_) rfl rfl (by decide) (vc_65 k_ dd_ S_ hI_ (by exact drt_fr hr_ hF_ rfl rfl rfl rfl rfl) (by omega)) (fun u_ Sx9_ px12_ => ?_)
        obtain ⟨rfl, vx14_, rfl, px12_⟩ := px12_
        have e117_ := px12_
        have w9_ := h1_ (vx14_ / 2).toNat (by omega)
        refine sm_T_go 1 (c1 := (121, [some (.inr (.inr (some (1, 0)))), some (.inl k_)], [.inl 1, .inl vx14_, .inr (.inr (some (33, 0))), .inl (S_.1 3 dd_ 7), .inr (.inr (some (3, dd_)))], S_)) rfl ?_
        refine sm_T_bin (w := (vx14_ / 2)) rfl (bi_shr (k := 1) (by decide) (by omega) (by omega)) ?_
        refine sm_T_iald (n := 1013) rfl rfl (by omega) (by omega) ?_
        have bx15_ : 0 ≤ S_.2.2.1 33 0 (vx14_ / 2).toNat ∧ S_.2.2.1 33 0 (vx14_ / 2).toNat ≤ 1012 := hI_.2 33 0 _
        refine sm_T_nt (u := some (.inl (sm_mx (S_.1 3 dd_ 7) (S_.2.2.1 33 0 (vx14_ / 2).toNat)))) (S1 := S_) rfl rfl rfl ?_
        have bx16_ := sm_mx_d (S_.1 3 dd_ 7) (S_.2.2.1 33 0 (vx14_ / 2).toNat)
        have hIx17_ : gi (sm_pI S_ 3 dd_ 7 (sm_mx (S_.1 3 dd_ 7) (S_.2.2.1 33 0 (vx14_ / 2).toNat))) := gi_pI hI_ (show 0 ≤ (sm_mx (S_.1 3 dd_ 7) (S_.2.2.1 33 0 (vx14_ / 2).toNat)) ∧ (sm_mx (S_.1 3 dd_ 7) (S_.2.2.1 33 0 (vx14_ / 2).toNat)) ≤ 1000 from ⟨by omega, by omega⟩)
        have hFx18_ : ai_fr (sx_W vw_46) S0_ (sm_pI S_ 3 dd_ 7 (sm_mx (S_.1 3 dd_ 7) (S_.2.2.1 33 0 (vx14_ / 2).toNat))) := ai_fr_tr hF_ (ai_fr_pI rfl)
        have hDx19_ : idf dd_ S0_ (sm_pI S_ 3 dd_ 7 (sm_mx (S_.1 3 dd_ 7) (S_.2.2.1 33 0 (vx14_ / 2).toNat))) := idf_pI hD_ (Or.inr rfl)
        refine sm_T_go 1 (c1 := (129, [some (.inr (.inr (some (1, 0)))), some (.inl k_)], [], sm_pI S_ 3 dd_ 7 (sm_mx (S_.1 3 dd_ 7) (S_.2.2.1 33 0 (vx14_ / 2).toNat)))) rfl ?_
        refine sm_T_inc (a := 1) (z := 1) (v := k_) (w := k_ + 1) rfl rfl (by omega) (by omega) (by omega) ?_
        refine sm_T_go 1 (c1 := (86, [some (.inr (.inr (some (1, 0)))), some (.inl (k_ + 1))], [], sm_pI S_ 3 dd_ 7 (sm_mx (S_.1 3 dd_ 7) (S_.2.2.1 33 0 (vx14_ / 2).toNat)))) rfl ?_
        refine ih_.2 (k_ + 1) (sm_pI S_ 3 dd_ 7 (sm_mx (S_.1 3 dd_ 7) (S_.2.2.1 33 0 (vx14_ / 2).toNat))) hIx17_ hFx18_ ⟨?_, ?_, ?_, trivial⟩ ?_
        · omega
        · exact h1_
        · exact hDx19_
        · omega
set_option maxHeartbeats 1000000 in
theorem vc_46 {sc_ : Nat × (Nat → Int)} (dd_ : Nat) (F_ : Nat) (S0_ : sm_S) (hI_ : gi S0_) (hd_ : S0_.2.1 1 0 1 = some dd_) (hg_ : dgr dd_ F_ S0_) (hr_ : drt dd_ S0_) : sm_T (mt_P sc_) 1 46 (0, [some (.inr (.inr (some (1, 0)))), none], [], S0_) (fun ro9_ => ∃ u_ S1_, ro9_ = (.inl u_, S1_, 0) ∧ vq_46 dd_ F_ S0_ u_ S1_) := by
  have hF_ : ai_fr (sx_W vw_46) S0_ S0_ := ai_fr_rf
  have hD_ : idf dd_ S0_ S0_ := idf_rf
  refine sm_T_go 3 (c1 := (5, [some (.inr (.inr (some (1, 0)))), none], [.inl 0, .inr (.inr (some (33, 0)))], S0_)) rfl ?_
  refine sm_T_cal (d1 := 0) (Q1 := vq_2s 0 S0_) rfl rfl (by decide) (vc_2s 0 S0_ hI_ (by decide)) (fun u_ Sx1_ px4_ => ?_)
  obtain ⟨rfl, hIx2_, hFx3_, px4_⟩ := px4_
  have hFx5_ : ai_fr (sx_W vw_46) S0_ Sx1_ := ai_fr_tr hF_ (fr_le hFx3_ rfl)
  have hDx6_ : idf dd_ S0_ Sx1_ := idf_tr hD_ (idf_fr hFx3_ (by decide) (by decide))
  have e5_ := px4_
  refine sm_T_go 1 (c1 := (9, [some (.inr (.inr (some (1, 0)))), none], [.inr (.inr (some (1, 0)))], Sx1_)) rfl ?_
  refine sm_T_gr rfl rfl ((hFx5_.2.1 1 0 1 rfl).trans hd_) ?_
  refine sm_T_cal (d1 := 0) (Q1 := vq_63 dd_ Sx1_) rfl rfl (by decide) (vc_63 dd_ Sx1_ hIx2_ (by (have g1_ := hg_.1); rw [hFx5_.1 3 dd_ 1 rfl, hFx5_.1 3 dd_ 2 rfl]; omega)) (fun u_ Sx7_ px10_ => ?_)
  obtain ⟨rfl, vx12_, rfl, px10_⟩ := px10_
  have e12 := px10_
  refine sm_T_go 1 (c1 := (16, [some (.inr (.inr (some (1, 0)))), some (.inl vx12_)], [], Sx1_)) rfl ?_
  refine (vl_46 dd_ F_ S0_ hd_ hg_ hr_ _).1 vx12_ Sx1_ hIx2_ hFx5_ ⟨?_, ?_, ?_, trivial⟩ (Nat.lt_succ_self _)
  · have g1_ := hg_.1
    have g2_ := hg_.2.1
    have q1_ := hFx5_.1 3 dd_ 1 rfl
    have q2_ := hFx5_.1 3 dd_ 2 rfl
    omega
  · intro k9_ hk9_
    have g1_ := hg_.1
    have q1_ := hFx5_.1 3 dd_ 1 rfl
    have q2_ := hFx5_.1 3 dd_ 2 rfl
    rw [e5_ k9_ (by omega)]
    split <;> omega
  · exact hDx6_
