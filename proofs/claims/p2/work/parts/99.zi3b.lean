/-! M_.greatestDepth -/
def vw_358 : sx_Wl := ([], [174], [])
def vq_358 (o_ : Int) (F_ : Nat) (S0_ : sm_S) (u_ : Option sm_V) (S1_ : sm_S) : Prop := ∃ v_ : Int, u_ = some (.inl v_) ∧ gi S1_ ∧ ai_fr (sx_W vw_358) S0_ S1_ ∧ (0 ≤ v_ ∧ v_ ≤ 1000)
set_option maxHeartbeats 2000000 in
set_option maxRecDepth 20000 in
theorem vl_358 {sc_ : Nat × (Nat → Int)} (o_ : Int) (F_ : Nat) (S0_ : sm_S) (hg_ : rgr F_ S0_) (hr_ : rrt o_ S0_) : ∀ nn_ : Nat, (∀ (n_ : Int) (S_ : sm_S), gi S_ → ai_fr (sx_W vw_358) S0_ S_ → ((0 ≤ n_ ∧ n_ ≤ S0_.1 13 0 37) ∧ (∀ k9_ : Nat, (k9_ : Int) < n_ → 0 ≤ S_.2.2.1 174 0 k9_ ∧ S_.2.2.1 174 0 k9_ ≤ (if k9_ < F_ then 0 else (k9_ : Int) - F_ + 1)) ∧ True) → ((5000 - n_).toNat) < nn_ → sm_T (mt_P sc_) 0 358 (2, [some (.inr (.inr (some (13, 0)))), some (.inl o_), some (.inl n_), none, none], [], S_) (fun ro9_ => ∃ u_ S1_, ro9_ = (.inl u_, S1_, 0) ∧ vq_358 o_ F_ S0_ u_ S1_)) ∧ (∀ (md_ : Int) (k_ : Int) (S_ : sm_S), gi S_ → ai_fr (sx_W vw_358) S0_ S_ → ((0 ≤ k_ ∧ k_ ≤ 16 ∧ 0 ≤ md_ ∧ md_ ≤ 1000) ∧ (∀ k9_ : Nat, (k9_ : Int) < S0_.1 13 0 37 → 0 ≤ S_.2.2.1 174 0 k9_ ∧ S_.2.2.1 174 0 k9_ ≤ 1000) ∧ True) → ((2000 - k_).toNat) < nn_ → sm_T (mt_P sc_) 0 358 (105, [some (.inr (.inr (some (13, 0)))), some (.inl o_), some (.inl md_), some (.inl k_), none], [], S_) (fun ro9_ => ∃ u_ S1_, ro9_ = (.inl u_, S1_, 0) ∧ vq_358 o_ F_ S0_ u_ S1_)) ∧ (∀ (md_ : Int) (k_ : Int) (S_ : sm_S), gi S_ → ai_fr (sx_W vw_358) S0_ S_ → ((0 ≤ k_ ∧ 0 ≤ md_ ∧ md_ ≤ 1000) ∧ (∀ k9_ : Nat, (k9_ : Int) < S0_.1 13 0 37 → 0 ≤ S_.2.2.1 174 0 k9_ ∧ S_.2.2.1 174 0 k9_ ≤ 1000) ∧ True) → ((1000 - k_).toNat) < nn_ → sm_T (mt_P sc_) 0 358 (153, [some (.inr (.inr (some (13, 0)))), some (.inl o_), some (.inl md_), some (.inl k_), none], [], S_) (fun ro9_ => ∃ u_ S1_, ro9_ = (.inl u_, S1_, 0) ∧ vq_358 o_ F_ S0_ u_ S1_)) := by
  intro nn_
  induction nn_ with
  | zero => exact ⟨fun _ _ _ _ _ h_ => absurd h_ (Nat.not_lt_zero _), fun _ _ _ _ _ _ h_ => absurd h_ (Nat.not_lt_zero _), fun _ _ _ _ _ _ h_ => absurd h_ (Nat.not_lt_zero _)⟩
  | succ nn_ ih_ =>
    refine ⟨?_, ?_, ?_⟩
    · rintro n_ S_ hI_ hF_ ⟨h0_, h1_, -⟩ hm_
      have g1_ := hg_.1
      have g2_ := hg_.2.1
      have e37_ : S_.1 13 0 37 = S0_.1 13 0 37 := hF_.1 13 0 37 rfl
      have e38_ : S_.1 13 0 38 = S0_.1 13 0 38 := hF_.1 13 0 38 rfl
      have e53_ : S_.1 13 0 53 = S0_.1 13 0 53 := hF_.1 13 0 53 rfl
      have f40_ : S_.2.2.1 140 0 = S0_.2.2.1 140 0 := fr_arr hF_ rfl
      have f41_ : S_.2.2.1 141 0 = S0_.2.2.1 141 0 := fr_arr hF_ rfl
      have r1_ := hr_.1
      have r2_ := hr_.2.1
      have f75_ : S_.2.2.1 175 0 = S0_.2.2.1 175 0 := fr_arr hF_ rfl
      have f51_ : S_.2.2.1 151 0 = S0_.2.2.1 151 0 := fr_arr hF_ rfl
      have bx1_ : 0 ≤ S_.1 13 0 37 ∧ S_.1 13 0 37 ≤ 1014 := hI_.1 13 0 37 rfl
      refine sm_T_go 3 (c1 := (7, [some (.inr (.inr (some (13, 0)))), some (.inl o_), some (.inl n_), none, none], [.inl (S_.1 13 0 37), .inl n_], S_)) rfl ?_
      refine sm_T_br (a := 3) (z := 94) rfl (fun cx2_ => ?_) (fun cx2_ => ?_)
      · have cx2_ : (S_.1 13 0 37) ≤ n_ := of_decide_eq_true cx2_
        refine sm_T_go 4 (c1 := (105, [some (.inr (.inr (some (13, 0)))), some (.inl o_), some (.inl 0), some (.inl 0), none], [], S_)) rfl ?_
        refine ih_.2.1 0 0 S_ hI_ hF_ ⟨?_, ?_, trivial⟩ ?_
        · omega
        · intro k9_ hk9_
          have w9_ := h1_ k9_ (by omega)
          refine ⟨w9_.1, ?_⟩
          have w8_ := w9_.2
          split at w8_ <;> omega
        · omega
      · have cx2_ : ¬ ((S_.1 13 0 37) ≤ n_) := of_decide_eq_false cx2_
        have bx3_ : 0 ≤ S_.1 13 0 38 ∧ S_.1 13 0 38 ≤ 19 := hI_.1 13 0 38 rfl
        refine sm_T_go 3 (c1 := (15, [some (.inr (.inr (some (13, 0)))), some (.inl o_), some (.inl n_), none, none], [.inl (S_.1 13 0 38), .inl n_], S_)) rfl ?_
        refine sm_T_br (a := 3) (z := 7) rfl (fun cx4_ => ?_) (fun cx4_ => ?_)
        · have cx4_ : (S_.1 13 0 38) ≤ n_ := of_decide_eq_true cx4_
          have gn_ := hg_.2.2 n_.toNat (by omega) (by omega)
          rw [← f40_, ← f41_] at gn_
          have lo_ := h1_ (S_.2.2.1 140 0 n_.toNat / 2).toNat (by omega)
          have hi_ := h1_ (S_.2.2.1 141 0 n_.toNat / 2).toNat (by omega)
          refine sm_T_go 5 (c1 := (31, [some (.inr (.inr (some (13, 0)))), some (.inl o_), some (.inl n_), none, none], [.inl n_, .inr (.inr (some (140, 0))), .inr (.inr (some (174, 0)))], S_)) rfl ?_
          refine sm_T_iald (n := 2048) rfl rfl (by omega) (by omega) ?_
          have bx5_ : 0 ≤ S_.2.2.1 140 0 n_.toNat ∧ S_.2.2.1 140 0 n_.toNat ≤ 2047 := hI_.2 140 0 _
          refine sm_T_go 1 (c1 := (33, [some (.inr (.inr (some (13, 0)))), some (.inl o_), some (.inl n_), none, none], [.inl 1, .inl (S_.2.2.1 140 0 n_.toNat), .inr (.inr (some (174, 0)))], S_)) rfl ?_
          refine sm_T_bin (w := ((S_.2.2.1 140 0 n_.toNat) / 2)) rfl (bi_shr (k := 1) (by decide) (by omega) (by omega)) ?_
          refine sm_T_iald (n := 2048) rfl rfl (by omega) (by omega) ?_
          have bx6_ : 0 ≤ S_.2.2.1 174 0 ((S_.2.2.1 140 0 n_.toNat) / 2).toNat ∧ S_.2.2.1 174 0 ((S_.2.2.1 140 0 n_.toNat) / 2).toNat ≤ 1000 := hI_.2 174 0 _
          refine sm_T_go 4 (c1 := (41, [some (.inr (.inr (some (13, 0)))), some (.inl o_), some (.inl n_), some (.inl (S_.2.2.1 174 0 ((S_.2.2.1 140 0 n_.toNat) / 2).toNat)), none], [.inl (S_.1 13 0 38), .inl n_], S_)) rfl ?_
          refine sm_T_br (a := 3) (z := 7) rfl (fun cx7_ => ?_) (fun cx7_ => ?_)
          · have cx7_ : (S_.1 13 0 38) ≤ n_ := of_decide_eq_true cx7_
            refine sm_T_go 5 (c1 := (57, [some (.inr (.inr (some (13, 0)))), some (.inl o_), some (.inl n_), some (.inl (S_.2.2.1 174 0 ((S_.2.2.1 140 0 n_.toNat) / 2).toNat)), none], [.inl n_, .inr (.inr (some (141, 0))), .inr (.inr (some (174, 0)))], S_)) rfl ?_
            refine sm_T_iald (n := 2048) rfl rfl (by omega) (by omega) ?_
            have bx8_ : 0 ≤ S_.2.2.1 141 0 n_.toNat ∧ S_.2.2.1 141 0 n_.toNat ≤ 2047 := hI_.2 141 0 _
            refine sm_T_go 1 (c1 := (59, [some (.inr (.inr (some (13, 0)))), some (.inl o_), some (.inl n_), some (.inl (S_.2.2.1 174 0 ((S_.2.2.1 140 0 n_.toNat) / 2).toNat)), none], [.inl 1, .inl (S_.2.2.1 141 0 n_.toNat), .inr (.inr (some (174, 0)))], S_)) rfl ?_
            refine sm_T_bin (w := ((S_.2.2.1 141 0 n_.toNat) / 2)) rfl (bi_shr (k := 1) (by decide) (by omega) (by omega)) ?_
            refine sm_T_iald (n := 2048) rfl rfl (by omega) (by omega) ?_
            have bx9_ : 0 ≤ S_.2.2.1 174 0 ((S_.2.2.1 141 0 n_.toNat) / 2).toNat ∧ S_.2.2.1 174 0 ((S_.2.2.1 141 0 n_.toNat) / 2).toNat ≤ 1000 := hI_.2 174 0 _
            refine sm_T_go 7 (c1 := (73, [some (.inr (.inr (some (13, 0)))), some (.inl o_), some (.inl n_), some (.inl (S_.2.2.1 174 0 ((S_.2.2.1 140 0 n_.toNat) / 2).toNat)), some (.inl (S_.2.2.1 174 0 ((S_.2.2.1 141 0 n_.toNat) / 2).toNat))], [.inl (S_.1 13 0 38), .inl n_, .inl n_, .inr (.inr (some (174, 0)))], S_)) rfl ?_
            refine sm_T_br (a := 3) (z := 7) rfl (fun cx10_ => ?_) (fun cx10_ => ?_)
            · have cx10_ : (S_.1 13 0 38) ≤ n_ := of_decide_eq_true cx10_
              refine sm_T_go 3 (c1 := (84, [some (.inr (.inr (some (13, 0)))), some (.inl o_), some (.inl n_), some (.inl (S_.2.2.1 174 0 ((S_.2.2.1 140 0 n_.toNat) / 2).toNat)), some (.inl (S_.2.2.1 174 0 ((S_.2.2.1 141 0 n_.toNat) / 2).toNat))], [.inl (S_.2.2.1 174 0 ((S_.2.2.1 141 0 n_.toNat) / 2).toNat), .inl (S_.2.2.1 174 0 ((S_.2.2.1 140 0 n_.toNat) / 2).toNat), .inl 1, .inl n_, .inr (.inr (some (174, 0)))], S_)) rfl ?_
              refine sm_T_br (a := 5) (z := 7) rfl (fun cx11_ => ?_) (fun cx11_ => ?_)
              · have cx11_ : (S_.2.2.1 174 0 ((S_.2.2.1 140 0 n_.toNat) / 2).toNat) ≤ (S_.2.2.1 174 0 ((S_.2.2.1 141 0 n_.toNat) / 2).toNat) := of_decide_eq_true cx11_
                refine sm_T_go 1 (c1 := (93, [some (.inr (.inr (some (13, 0)))), some (.inl o_), some (.inl n_), some (.inl (S_.2.2.1 174 0 ((S_.2.2.1 140 0 n_.toNat) / 2).toNat)), some (.inl (S_.2.2.1 174 0 ((S_.2.2.1 141 0 n_.toNat) / 2).toNat))], [.inl (S_.2.2.1 174 0 ((S_.2.2.1 141 0 n_.toNat) / 2).toNat), .inl 1, .inl n_, .inr (.inr (some (174, 0)))], S_)) rfl ?_
                refine sm_T_bin (w := (S_.2.2.1 174 0 ((S_.2.2.1 141 0 n_.toNat) / 2).toNat) + 1) rfl (bi_add (by omega) (by omega) (by omega)) ?_
                refine sm_T_iast (n := 2048) rfl rfl (by omega) (by omega) ?_
                have hIx12_ : gi (sm_aI S_ 174 0 n_.toNat ((S_.2.2.1 174 0 ((S_.2.2.1 141 0 n_.toNat) / 2).toNat) + 1)) := gi_aI hI_ (show 0 ≤ (S_.2.2.1 174 0 ((S_.2.2.1 141 0 n_.toNat) / 2).toNat) + 1 ∧ (S_.2.2.1 174 0 ((S_.2.2.1 141 0 n_.toNat) / 2).toNat) + 1 ≤ 1000 from ⟨by omega, by omega⟩)
                have hFx13_ : ai_fr (sx_W vw_358) S0_ (sm_aI S_ 174 0 n_.toNat ((S_.2.2.1 174 0 ((S_.2.2.1 141 0 n_.toNat) / 2).toNat) + 1)) := ai_fr_tr hF_ (ai_fr_aI rfl)
                refine sm_T_inc (a := 2) (z := 1) (v := n_) (w := n_ + 1) rfl rfl (by omega) (by omega) (by omega) ?_
                refine sm_T_go 1 (c1 := (2, [some (.inr (.inr (some (13, 0)))), some (.inl o_), some (.inl (n_ + 1)), some (.inl (S_.2.2.1 174 0 ((S_.2.2.1 140 0 n_.toNat) / 2).toNat)), some (.inl (S_.2.2.1 174 0 ((S_.2.2.1 141 0 n_.toNat) / 2).toNat))], [], sm_aI S_ 174 0 n_.toNat ((S_.2.2.1 174 0 ((S_.2.2.1 141 0 n_.toNat) / 2).toNat) + 1))) rfl ?_
                refine sm_T_wk [some (.inr (.inr (some (13, 0)))), some (.inl o_), some (.inl (n_ + 1)), none, none] (by exact ⟨rfl, rfl, rfl, trivial⟩) ?_
                refine ih_.1 (n_ + 1) (sm_aI S_ 174 0 n_.toNat ((S_.2.2.1 174 0 ((S_.2.2.1 141 0 n_.toNat) / 2).toNat) + 1)) hIx12_ hFx13_ ⟨?_, ?_, trivial⟩ ?_
                · omega
                · intro k9_ hk9_
                  rw [rd_eq]
                  by_cases z9_ : k9_ = n_.toNat
                  · rw [if_pos z9_]; first | (have lt9_ : n_ < (F_ : Int) := (by omega); rw [if_pos (by omega)]; omega) | (have ge9_ : (F_ : Int) ≤ n_ := (by omega); rw [if_neg (by omega)]; split at lo_ <;> split at hi_ <;> omega)
                  · rw [if_neg z9_]; exact h1_ k9_ (by omega)
                · omega
              · have cx11_ : ¬ ((S_.2.2.1 174 0 ((S_.2.2.1 140 0 n_.toNat) / 2).toNat) ≤ (S_.2.2.1 174 0 ((S_.2.2.1 141 0 n_.toNat) / 2).toNat)) := of_decide_eq_false cx11_
                refine sm_T_go 2 (c1 := (93, [some (.inr (.inr (some (13, 0)))), some (.inl o_), some (.inl n_), some (.inl (S_.2.2.1 174 0 ((S_.2.2.1 140 0 n_.toNat) / 2).toNat)), some (.inl (S_.2.2.1 174 0 ((S_.2.2.1 141 0 n_.toNat) / 2).toNat))], [.inl (S_.2.2.1 174 0 ((S_.2.2.1 140 0 n_.toNat) / 2).toNat), .inl 1, .inl n_, .inr (.inr (some (174, 0)))], S_)) rfl ?_
                refine sm_T_bin (w := (S_.2.2.1 174 0 ((S_.2.2.1 140 0 n_.toNat) / 2).toNat) + 1) rfl (bi_add (by omega) (by omega) (by omega)) ?_
                refine sm_T_iast (n := 2048) rfl rfl (by omega) (by omega) ?_
                have hIx14_ : gi (sm_aI S_ 174 0 n_.toNat ((S_.2.2.1 174 0 ((S_.2.2.1 140 0 n_.toNat) / 2).toNat) + 1)) := gi_aI hI_ (show 0 ≤ (S_.2.2.1 174 0 ((S_.2.2.1 140 0 n_.toNat) / 2).toNat) + 1 ∧ (S_.2.2.1 174 0 ((S_.2.2.1 140 0 n_.toNat) / 2).toNat) + 1 ≤ 1000 from ⟨by omega, by omega⟩)
                have hFx15_ : ai_fr (sx_W vw_358) S0_ (sm_aI S_ 174 0 n_.toNat ((S_.2.2.1 174 0 ((S_.2.2.1 140 0 n_.toNat) / 2).toNat) + 1)) := ai_fr_tr hF_ (ai_fr_aI rfl)
                refine sm_T_inc (a := 2) (z := 1) (v := n_) (w := n_ + 1) rfl rfl (by omega) (by omega) (by omega) ?_
                refine sm_T_go 1 (c1 := (2, [some (.inr (.inr (some (13, 0)))), some (.inl o_), some (.inl (n_ + 1)), some (.inl (S_.2.2.1 174 0 ((S_.2.2.1 140 0 n_.toNat) / 2).toNat)), some (.inl (S_.2.2.1 174 0 ((S_.2.2.1 141 0 n_.toNat) / 2).toNat))], [], sm_aI S_ 174 0 n_.toNat ((S_.2.2.1 174 0 ((S_.2.2.1 140 0 n_.toNat) / 2).toNat) + 1))) rfl ?_
                refine sm_T_wk [some (.inr (.inr (some (13, 0)))), some (.inl o_), some (.inl (n_ + 1)), none, none] (by exact ⟨rfl, rfl, rfl, trivial⟩) ?_
                refine ih_.1 (n_ + 1) (sm_aI S_ 174 0 n_.toNat ((S_.2.2.1 174 0 ((S_.2.2.1 140 0 n_.toNat) / 2).toNat) + 1)) hIx14_ hFx15_ ⟨?_, ?_, trivial⟩ ?_
                · omega
                · intro k9_ hk9_
                  rw [rd_eq]
                  by_cases z9_ : k9_ = n_.toNat
                  · rw [if_pos z9_]; first | (have lt9_ : n_ < (F_ : Int) := (by omega); rw [if_pos (by omega)]; omega) | (have ge9_ : (F_ : Int) ≤ n_ := (by omega); rw [if_neg (by omega)]; split at lo_ <;> split at hi_ <;> omega)
                  · rw [if_neg z9_]; exact h1_ k9_ (by omega)
                · omega
            · have cx10_ : ¬ ((S_.1 13 0 38) ≤ n_) := of_decide_eq_false cx10_
              exfalso; omega
          · have cx7_ : ¬ ((S_.1 13 0 38) ≤ n_) := of_decide_eq_false cx7_
            exfalso; omega
        · have cx4_ : ¬ ((S_.1 13 0 38) ≤ n_) := of_decide_eq_false cx4_
          refine sm_T_go 6 (c1 := (41, [some (.inr (.inr (some (13, 0)))), some (.inl o_), some (.inl n_), some (.inl 0), none], [.inl (S_.1 13 0 38), .inl n_], S_)) rfl ?_
          refine sm_T_br (a := 3) (z := 7) rfl (fun cx16_ => ?_) (fun cx16_ => ?_)
          · have cx16_ : (S_.1 13 0 38) ≤ n_ := of_decide_eq_true cx16_
            exfalso; omega
          · have cx16_ : ¬ ((S_.1 13 0 38) ≤ n_) := of_decide_eq_false cx16_
            refine sm_T_go 9 (c1 := (73, [some (.inr (.inr (some (13, 0)))), some (.inl o_), some (.inl n_), some (.inl 0), some (.inl 0)], [.inl (S_.1 13 0 38), .inl n_, .inl n_, .inr (.inr (some (174, 0)))], S_)) rfl ?_
            refine sm_T_br (a := 3) (z := 7) rfl (fun cx17_ => ?_) (fun cx17_ => ?_)
            · have cx17_ : (S_.1 13 0 38) ≤ n_ := of_decide_eq_true cx17_
              exfalso; omega
            · have cx17_ : ¬ ((S_.1 13 0 38) ≤ n_) := of_decide_eq_false cx17_
              refine sm_T_go 2 (c1 := (94, [some (.inr (.inr (some (13, 0)))), some (.inl o_), some (.inl n_), some (.inl 0), some (.inl 0)], [.inl 0, .inl n_, .inr (.inr (some (174, 0)))], S_)) rfl ?_
              refine sm_T_iast (n := 2048) rfl rfl (by omega) (by omega) ?_
              have hIx18_ : gi (sm_aI S_ 174 0 n_.toNat 0) := gi_aI hI_ (show 0 ≤ 0 ∧ 0 ≤ 1000 from ⟨by omega, by omega⟩)
              have hFx19_ : ai_fr (sx_W vw_358) S0_ (sm_aI S_ 174 0 n_.toNat 0) := ai_fr_tr hF_ (ai_fr_aI rfl)
              refine sm_T_inc (a := 2) (z := 1) (v := n_) (w := n_ + 1) rfl rfl (by omega) (by omega) (by omega) ?_
              refine sm_T_go 1 (c1 := (2, [some (.inr (.inr (some (13, 0)))), some (.inl o_), some (.inl (n_ + 1)), some (.inl 0), some (.inl 0)], [], sm_aI S_ 174 0 n_.toNat 0)) rfl ?_
              refine sm_T_wk [some (.inr (.inr (some (13, 0)))), some (.inl o_), some (.inl (n_ + 1)), none, none] (by exact ⟨rfl, rfl, rfl, trivial⟩) ?_
              refine ih_.1 (n_ + 1) (sm_aI S_ 174 0 n_.toNat 0) hIx18_ hFx19_ ⟨?_, ?_, trivial⟩ ?_
              · omega
              · intro k9_ hk9_
                rw [rd_eq]
                by_cases z9_ : k9_ = n_.toNat
                · rw [if_pos z9_]; first | (have lt9_ : n_ < (F_ : Int) := (by omega); rw [if_pos (by omega)]; omega) | (have ge9_ : (F_ : Int) ≤ n_ := (by omega); rw [if_neg (by omega)]; split at lo_ <;> split at hi_ <;> omega)
                · rw [if_neg z9_]; exact h1_ k9_ (by omega)
              · omega
    · rintro md_ k_ S_ hI_ hF_ ⟨h0_, h1_, -⟩ hm_
      have g1_ := hg_.1
      have g2_ := hg_.2.1
      have e37_ : S_.1 13 0 37 = S0_.1 13 0 37 := hF_.1 13 0 37 rfl
      have e38_ : S_.1 13 0 38 = S0_.1 13 0 38 := hF_.1 13 0 38 rfl
      have e53_ : S_.1 13 0 53 = S0_.1 13 0 53 := hF_.1 13 0 53 rfl
      have f40_ : S_.2.2.1 140 0 = S0_.2.2.1 140 0 := fr_arr hF_ rfl
      have f41_ : S_.2.2.1 141 0 = S0_.2.2.1 141 0 := fr_arr hF_ rfl
      have r1_ := hr_.1
      have r2_ := hr_.2.1
      have f75_ : S_.2.2.1 175 0 = S0_.2.2.1 175 0 := fr_arr hF_ rfl
      have f51_ : S_.2.2.1 151 0 = S0_.2.2.1 151 0 := fr_arr hF_ rfl
      refine sm_T_go 2 (c1 := (107, [some (.inr (.inr (some (13, 0)))), some (.inl o_), some (.inl md_), some (.inl k_), none], [.inl o_, .inl k_], S_)) rfl ?_
      refine sm_T_br (a := 3) (z := 44) rfl (fun cx1_ => ?_) (fun cx1_ => ?_)
      · have cx1_ : o_ ≤ k_ := of_decide_eq_true cx1_
        refine sm_T_go 2 (c1 := (153, [some (.inr (.inr (some (13, 0)))), some (.inl o_), some (.inl md_), some (.inl 0), none], [], S_)) rfl ?_
        refine ih_.2.2 md_ 0 S_ hI_ hF_ ⟨?_, ?_, trivial⟩ ?_
        · omega
        · exact h1_
        · omega
      · have cx1_ : ¬ (o_ ≤ k_) := of_decide_eq_false cx1_
        have ro_ := hr_.2.2.1 k_.toNat (by omega)
        rw [← f75_] at ro_
        have w9_ := h1_ (S_.2.2.1 175 0 k_.toNat / 2).toNat (by omega)
        refine sm_T_go 5 (c1 := (119, [some (.inr (.inr (some (13, 0)))), some (.inl o_), some (.inl md_), some (.inl k_), none], [.inl k_, .inr (.inr (some (175, 0))), .inr (.inr (some (174, 0)))], S_)) rfl ?_
        refine sm_T_iald (n := 16) rfl rfl (by omega) (by omega) ?_
        have bx2_ : 0 ≤ S_.2.2.1 175 0 k_.toNat ∧ S_.2.2.1 175 0 k_.toNat ≤ 2047 := hI_.2 175 0 _
        refine sm_T_go 1 (c1 := (121, [some (.inr (.inr (some (13, 0)))), some (.inl o_), some (.inl md_), some (.inl k_), none], [.inl 1, .inl (S_.2.2.1 175 0 k_.toNat), .inr (.inr (some (174, 0)))], S_)) rfl ?_
        refine sm_T_bin (w := ((S_.2.2.1 175 0 k_.toNat) / 2)) rfl (bi_shr (k := 1) (by decide) (by omega) (by omega)) ?_
        refine sm_T_iald (n := 2048) rfl rfl (by omega) (by omega) ?_
        have bx3_ : 0 ≤ S_.2.2.1 174 0 ((S_.2.2.1 175 0 k_.toNat) / 2).toNat ∧ S_.2.2.1 174 0 ((S_.2.2.1 175 0 k_.toNat) / 2).toNat ≤ 1000 := hI_.2 174 0 _
        refine sm_T_go 1 (c1 := (124, [some (.inr (.inr (some (13, 0)))), some (.inl o_), some (.inl md_), some (.inl k_), none], [.inl md_, .inl (S_.2.2.1 174 0 ((S_.2.2.1 175 0 k_.toNat) / 2).toNat)], S_)) rfl ?_
        refine sm_T_br (a := 5) (z := 19) rfl (fun cx4_ => ?_) (fun cx4_ => ?_)
        · have cx4_ : (S_.2.2.1 174 0 ((S_.2.2.1 175 0 k_.toNat) / 2).toNat) ≤ md_ := of_decide_eq_true cx4_
          refine sm_T_go 2 (c1 := (145, [some (.inr (.inr (some (13, 0)))), some (.inl o_), some (.inl md_), some (.inl k_), none], [], S_)) rfl ?_
          refine sm_T_inc (a := 3) (z := 1) (v := k_) (w := k_ + 1) rfl rfl (by omega) (by omega) (by omega) ?_
          refine sm_T_go 1 (c1 := (105, [some (.inr (.inr (some (13, 0)))), some (.inl o_), some (.inl md_), some (.inl (k_ + 1)), none], [], S_)) rfl ?_
          refine ih_.2.1 md_ (k_ + 1) S_ hI_ hF_ ⟨?_, ?_, trivial⟩ ?_
          · omega
          · exact h1_
          · omega
        · have cx4_ : ¬ ((S_.2.2.1 174 0 ((S_.2.2.1 175 0 k_.toNat) / 2).toNat) ≤ md_) := of_decide_eq_false cx4_
          refine sm_T_go 5 (c1 := (136, [some (.inr (.inr (some (13, 0)))), some (.inl o_), some (.inl md_), some (.inl k_), none], [.inl k_, .inr (.inr (some (175, 0))), .inr (.inr (some (174, 0)))], S_)) rfl ?_
          refine sm_T_iald (n := 16) rfl rfl (by omega) (by omega) ?_
          refine sm_T_go 1 (c1 := (138, [some (.inr (.inr (some (13, 0)))), some (.inl o_), some (.inl md_), some (.inl k_), none], [.inl 1, .inl (S_.2.2.1 175 0 k_.toNat), .inr (.inr (some (174, 0)))], S_)) rfl ?_
          refine sm_T_bin (w := ((S_.2.2.1 175 0 k_.toNat) / 2)) rfl (bi_shr (k := 1) (by decide) (by omega) (by omega)) ?_
          refine sm_T_iald (n := 2048) rfl rfl (by omega) (by omega) ?_
          refine sm_T_go 2 (c1 := (145, [some (.inr (.inr (some (13, 0)))), some (.inl o_), some (.inl (S_.2.2.1 174 0 ((S_.2.2.1 175 0 k_.toNat) / 2).toNat)), some (.inl k_), none], [], S_)) rfl ?_
          refine sm_T_inc (a := 3) (z := 1) (v := k_) (w := k_ + 1) rfl rfl (by omega) (by omega) (by omega) ?_
          refine sm_T_go 1 (c1 := (105, [some (.inr (.inr (some (13, 0)))), some (.inl o_), some (.inl (S_.2.2.1 174 0 ((S_.2.2.1 175 0 k_.toNat) / 2).toNat)), some (.inl (k_ + 1)), none], [], S_)) rfl ?_
          refine ih_.2.1 (S_.2.2.1 174 0 ((S_.2.2.1 175 0 k_.toNat) / 2).toNat) (k_ + 1) S_ hI_ hF_ ⟨?_, ?_, trivial⟩ ?_
          · omega
          · exact h1_
          · omega
    · rintro md_ k_ S_ hI_ hF_ ⟨h0_, h1_, -⟩ hm_
      have g1_ := hg_.1
      have g2_ := hg_.2.1
      have e37_ : S_.1 13 0 37 = S0_.1 13 0 37 := hF_.1 13 0 37 rfl
      have e38_ : S_.1 13 0 38 = S0_.1 13 0 38 := hF_.1 13 0 38 rfl
      have e53_ : S_.1 13 0 53 = S0_.1 13 0 53 := hF_.1 13 0 53 rfl
      have f40_ : S_.2.2.1 140 0 = S0_.2.2.1 140 0 := fr_arr hF_ rfl
      have f41_ : S_.2.2.1 141 0 = S0_.2.2.1 141 0 := fr_arr hF_ rfl
      have r1_ := hr_.1
      have r2_ := hr_.2.1
      have f75_ : S_.2.2.1 175 0 = S0_.2.2.1 175 0 := fr_arr hF_ rfl
      have f51_ : S_.2.2.1 151 0 = S0_.2.2.1 151 0 := fr_arr hF_ rfl
      have bx1_ : 0 ≤ S_.1 13 0 53 ∧ S_.1 13 0 53 ≤ 6 := hI_.1 13 0 53 rfl
      refine sm_T_go 3 (c1 := (158, [some (.inr (.inr (some (13, 0)))), some (.inl o_), some (.inl md_), some (.inl k_), none], [.inl (S_.1 13 0 53), .inl k_], S_)) rfl ?_
      refine sm_T_br (a := 3) (z := 44) rfl (fun cx2_ => ?_) (fun cx2_ => ?_)
      · have cx2_ : (S_.1 13 0 53) ≤ k_ := of_decide_eq_true cx2_
        refine sm_T_go 1 (c1 := (203, [some (.inr (.inr (some (13, 0)))), some (.inl o_), some (.inl md_), some (.inl k_), none], [.inl md_], S_)) rfl ?_
        refine sm_T_ri rfl ⟨_, _, rfl, _, rfl, hI_, hF_, ?_⟩
        omega
      · have cx2_ : ¬ ((S_.1 13 0 53) ≤ k_) := of_decide_eq_false cx2_
        have ro_ := hr_.2.2.2 k_.toNat (by omega)
        rw [← f51_] at ro_
        have w9_ := h1_ (S_.2.2.1 151 0 k_.toNat / 2).toNat (by omega)
        refine sm_T_go 5 (c1 := (170, [some (.inr (.inr (some (13, 0)))), some (.inl o_), some (.inl md_), some (.inl k_), none], [.inl k_, .inr (.inr (some (151, 0))), .inr (.inr (some (174, 0)))], S_)) rfl ?_
        refine sm_T_iald (n := 1024) rfl rfl (by omega) (by omega) ?_
        have bx3_ : 0 ≤ S_.2.2.1 151 0 k_.toNat ∧ S_.2.2.1 151 0 k_.toNat ≤ 2047 := hI_.2 151 0 _
        refine sm_T_go 1 (c1 := (172, [some (.inr (.inr (some (13, 0)))), some (.inl o_), some (.inl md_), some (.inl k_), none], [.inl 1, .inl (S_.2.2.1 151 0 k_.toNat), .inr (.inr (some (174, 0)))], S_)) rfl ?_
        refine sm_T_bin (w := ((S_.2.2.1 151 0 k_.toNat) / 2)) rfl (bi_shr (k := 1) (by decide) (by omega) (by omega)) ?_
        refine sm_T_iald (n := 2048) rfl rfl (by omega) (by omega) ?_
        have bx4_ : 0 ≤ S_.2.2.1 174 0 ((S_.2.2.1 151 0 k_.toNat) / 2).toNat ∧ S_.2.2.1 174 0 ((S_.2.2.1 151 0 k_.toNat) / 2).toNat ≤ 1000 := hI_.2 174 0 _
        refine sm_T_go 1 (c1 := (175, [some (.inr (.inr (some (13, 0)))), some (.inl o_), some (.inl md_), some (.inl k_), none], [.inl md_, .inl (S_.2.2.1 174 0 ((S_.2.2.1 151 0 k_.toNat) / 2).toNat)], S_)) rfl ?_
        refine sm_T_br (a := 5) (z := 19) rfl (fun cx5_ => ?_) (fun cx5_ => ?_)
        · have cx5_ : (S_.2.2.1 174 0 ((S_.2.2.1 151 0 k_.toNat) / 2).toNat) ≤ md_ := of_decide_eq_true cx5_
          refine sm_T_go 2 (c1 := (196, [some (.inr (.inr (some (13, 0)))), some (.inl o_), some (.inl md_), some (.inl k_), none], [], S_)) rfl ?_
          refine sm_T_inc (a := 3) (z := 1) (v := k_) (w := k_ + 1) rfl rfl (by omega) (by omega) (by omega) ?_
          refine sm_T_go 1 (c1 := (153, [some (.inr (.inr (some (13, 0)))), some (.inl o_), some (.inl md_), some (.inl (k_ + 1)), none], [], S_)) rfl ?_
          refine ih_.2.2 md_ (k_ + 1) S_ hI_ hF_ ⟨?_, ?_, trivial⟩ ?_
          · omega
          · exact h1_
          · omega
        · have cx5_ : ¬ ((S_.2.2.1 174 0 ((S_.2.2.1 151 0 k_.toNat) / 2).toNat) ≤ md_) := of_decide_eq_false cx5_
          refine sm_T_go 5 (c1 := (187, [some (.inr (.inr (some (13, 0)))), some (.inl o_), some (.inl md_), some (.inl k_), none], [.inl k_, .inr (.inr (some (151, 0))), .inr (.inr (some (174, 0)))], S_)) rfl ?_
          refine sm_T_iald (n := 1024) rfl rfl (by omega) (by omega) ?_
          refine sm_T_go 1 (c1 := (189, [some (.inr (.inr (some (13, 0)))), some (.inl o_), some (.inl md_), some (.inl k_), none], [.inl 1, .inl (S_.2.2.1 151 0 k_.toNat), .inr (.inr (some (174, 0)))], S_)) rfl ?_
          refine sm_T_bin (w := ((S_.2.2.1 151 0 k_.toNat) / 2)) rfl (bi_shr (k := 1) (by decide) (by omega) (by omega)) ?_
          refine sm_T_iald (n := 2048) rfl rfl (by omega) (by omega) ?_
          refine sm_T_go 2 (c1 := (196, [some (.inr (.inr (some (13, 0)))), some (.inl o_), some (.inl (S_.2.2.1 174 0 ((S_.2.2.1 151 0 k_.toNat) / 2).toNat)), some (.inl k_), none], [], S_)) rfl ?_
          refine sm_T_inc (a := 3) (z := 1) (v := k_) (w := k_ + 1) rfl rfl (by omega) (by omega) (by omega) ?_
          refine sm_T_go 1 (c1 := (153, [some (.inr (.inr (some (13, 0)))), some (.inl o_), some (.inl (S_.2.2.1 174 0 ((S_.2.2.1 151 0 k_.toNat) / 2).toNat)), some (.inl (k_ + 1)), none], [], S_)) rfl ?_
          refine ih_.2.2 (S_.2.2.1 174 0 ((S_.2.2.1 151 0 k_.toNat) / 2).toNat) (k_ + 1) S_ hI_ hF_ ⟨?_, ?_, trivial⟩ ?_
          · omega
          · exact h1_
          · omega
set_option maxHeartbeats 2000000 in
set_option maxRecDepth 20000 in
theorem vc_358 {sc_ : Nat × (Nat → Int)} (o_ : Int) (F_ : Nat) (S0_ : sm_S) (hI_ : gi S0_) (hg_ : rgr F_ S0_) (hr_ : rrt o_ S0_) : sm_T (mt_P sc_) 0 358 (0, [some (.inr (.inr (some (13, 0)))), some (.inl o_), none, none, none], [], S0_) (fun ro9_ => ∃ u_ S1_, ro9_ = (.inl u_, S1_, 0) ∧ vq_358 o_ F_ S0_ u_ S1_) := by
  have hF_ : ai_fr (sx_W vw_358) S0_ S0_ := ai_fr_rf
  refine sm_T_go 2 (c1 := (2, [some (.inr (.inr (some (13, 0)))), some (.inl o_), some (.inl 0), none, none], [], S0_)) rfl ?_
  refine (vl_358 o_ F_ S0_ hg_ hr_ _).1 0 S0_ hI_ hF_ ⟨?_, ?_, trivial⟩ (Nat.lt_succ_self _)
  · (have g1_ := hg_.1; have g2_ := hg_.2.1; omega)
  · (intro k9_ hk9_; omega)
