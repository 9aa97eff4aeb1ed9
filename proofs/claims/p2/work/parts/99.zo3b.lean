/-! Mapper.makeGates -/
def vw_109 : sx_Wl := ([(2, 8)], [35, 36, 37, 38, 72, 73], [])
def vq_109 (dd_ : Nat) (ll_ : Nat) (cc_ : Nat) (S0_ : sm_S) (u_ : Option sm_V) (S1_ : sm_S) : Prop := ∃ v_ : Int, u_ = some (.inl v_) ∧ gi S1_ ∧ ai_fr (sx_W vw_109) S0_ S1_ ∧ (cdf cc_ S0_ S1_ ∧ (v_ = 0 ∨ v_ = 1))
set_option maxHeartbeats 3000000 in
theorem vl_109 {sc_ : Nat × (Nat → Int)} (dd_ : Nat) (ll_ : Nat) (cc_ : Nat) (S0_ : sm_S) (hd_ : S0_.2.1 6 0 0 = some dd_) (hc_ : S0_.2.1 6 0 1 = some ll_) (hw_ : wal (1 + S0_.1 3 dd_ 1 + S0_.1 3 dd_ 2) (S0_.1 3 dd_ 4) ll_ S0_) (hs2_ : S0_.1 2 cc_ 1 + S0_.1 2 cc_ 2 ≤ 12) (hr_ : drt dd_ S0_) (hdd_ : S0_.1 3 dd_ 1 + S0_.1 3 dd_ 2 ≤ 12) (hrt_ : rgt dd_ ll_ S0_) : ∀ nn_ : Nat, (∀ (n_ : Int) (S_ : sm_S), gi S_ → ai_fr (sx_W vw_109) S0_ S_ → ((1 ≤ n_ ∧ n_ ≤ 13) ∧ (∀ x_ : Int, 1 ≤ x_ → x_ < n_ → S_.2.2.1 72 0 (3 * x_).toNat ≠ -1) ∧ (cdf cc_ S0_ S_) ∧ True) → ((9000 - n_).toNat) < nn_ → sm_T (mt_P sc_) 5 109 (10, [some (.inr (.inr (some (6, 0)))), some (.inr (.inr (some (2, cc_)))), some (.inl n_), none, none, none], [], S_) (fun ro9_ => ∃ u_ S1_, ro9_ = (.inl u_, S1_, 0) ∧ vq_109 dd_ ll_ cc_ S0_ u_ S1_)) ∧ (∀ (k_ : Int) (S_ : sm_S), gi S_ → ai_fr (sx_W vw_109) S0_ S_ → ((0 ≤ k_ ∧ k_ ≤ 22) ∧ (∀ x_ : Int, 1 ≤ x_ → x_ < (1 + S0_.1 3 dd_ 1 + S0_.1 3 dd_ 2) → S_.2.2.1 72 0 (3 * x_).toNat ≠ -1) ∧ (cdf cc_ S0_ S_) ∧ True) → ((2000 - k_).toNat) < nn_ → sm_T (mt_P sc_) 5 109 (40, [some (.inr (.inr (some (6, 0)))), some (.inr (.inr (some (2, cc_)))), some (.inl k_), none, none, none], [], S_) (fun ro9_ => ∃ u_ S1_, ro9_ = (.inl u_, S1_, 0) ∧ vq_109 dd_ ll_ cc_ S0_ u_ S1_)) := by
  intro nn_
  induction nn_ with
  | zero => exact ⟨fun _ _ _ _ _ h_ => absurd h_ (Nat.not_lt_zero _), fun _ _ _ _ _ h_ => absurd h_ (Nat.not_lt_zero _)⟩
  | succ nn_ ih_ =>
    refine ⟨?_, ?_⟩
    · rintro n_ S_ hI_ hF_ ⟨h0_, hA_, hC_, -⟩ hm_
      have f59_ : S_.2.2.1 59 0 = S0_.2.2.1 59 0 := fr_arr hF_ rfl
      have f60_ : S_.2.2.1 60 0 = S0_.2.2.1 60 0 := fr_arr hF_ rfl
      have f62_ : S_.2.2.1 62 0 = S0_.2.2.1 62 0 := fr_arr hF_ rfl
      have f63_ : S_.2.2.1 63 0 = S0_.2.2.1 63 0 := fr_arr hF_ rfl
      have f64_ : S_.2.2.1 64 0 = S0_.2.2.1 64 0 := fr_arr hF_ rfl
      have f55_ : S_.2.2.1 55 (0 + ll_) = S0_.2.2.1 55 (0 + ll_) := fr_arr hF_ rfl
      have f1_ : S_.1 3 dd_ 1 = S0_.1 3 dd_ 1 := hF_.1 3 dd_ 1 rfl
      have f2_ : S_.1 3 dd_ 2 = S0_.1 3 dd_ 2 := hF_.1 3 dd_ 2 rfl
      have f4_ : S_.1 3 dd_ 4 = S0_.1 3 dd_ 4 := hF_.1 3 dd_ 4 rfl
      have f5_ : S_.1 5 ll_ 2 = S0_.1 5 ll_ 2 := hF_.1 5 ll_ 2 rfl
      have cI_ : 0 ≤ S_.1 3 dd_ 1 ∧ S_.1 3 dd_ 1 ≤ 320 := hI_.1 3 dd_ 1 rfl
      have cR_ : 0 ≤ S_.1 3 dd_ 2 ∧ S_.1 3 dd_ 2 ≤ 100000 := hI_.1 3 dd_ 2 rfl
      have cN_ : 0 ≤ S_.1 3 dd_ 4 ∧ S_.1 3 dd_ 4 ≤ 1013 := hI_.1 3 dd_ 4 rfl
      have hf_ : 1 ≤ (1 + S0_.1 3 dd_ 1 + S0_.1 3 dd_ 2) := by omega
      have f44_ : S_.2.2.1 44 (0 + dd_) = S0_.2.2.1 44 (0 + dd_) := fr_arr hF_ rfl
      have f45_ : S_.2.2.1 45 (0 + dd_) = S0_.2.2.1 45 (0 + dd_) := fr_arr hF_ rfl
      have f46_ : S_.2.2.1 46 (0 + dd_) = S0_.2.2.1 46 (0 + dd_) := fr_arr hF_ rfl
      have f3_ : S_.1 3 dd_ 3 = S0_.1 3 dd_ 3 := hF_.1 3 dd_ 3 rfl
      have e1_ : S_.1 2 cc_ 1 = S0_.1 2 cc_ 1 := hF_.1 2 cc_ 1 rfl
      have e2_ : S_.1 2 cc_ 2 = S0_.1 2 cc_ 2 := hF_.1 2 cc_ 2 rfl
      have r1_ := hr_.1
      refine sm_T_go 2 (c1 := (12, [some (.inr (.inr (some (6, 0)))), some (.inr (.inr (some (2, cc_)))), some (.inl n_), none, none, none], [.inr (.inr (some (6, 0))), .inl n_], S_)) rfl ?_
      refine sm_T_gr rfl rfl ((hF_.2.1 6 0 0 rfl).trans hd_) ?_
      refine sm_T_cal (d1 := 0) (Q1 := vq_63 dd_ S_) rfl rfl (by decide) (vc_63 dd_ S_ hI_ (by omega)) (fun u_ Sx1_ px4_ => ?_)
      obtain ⟨rfl, vx6_, rfl, px4_⟩ := px4_
      have a15_ := px4_
      refine sm_T_br (a := 3) (z := 20) rfl (fun cx7_ => ?_) (fun cx7_ => ?_)
      · have cx7_ : vx6_ ≤ n_ := of_decide_eq_true cx7_
        refine sm_T_go 2 (c1 := (40, [some (.inr (.inr (some (6, 0)))), some (.inr (.inr (some (2, cc_)))), some (.inl 0), none, none, none], [], S_)) rfl ?_
        refine ih_.2 0 S_ hI_ hF_ ⟨?_, ?_, ?_, trivial⟩ ?_
        · omega
        · (intro x_ u_ w_; exact hA_ x_ u_ (by omega))
        · exact hC_
        · omega
      · have cx7_ : ¬ (vx6_ ≤ n_) := of_decide_eq_false cx7_
        refine sm_T_go 4 (c1 := (27, [some (.inr (.inr (some (6, 0)))), some (.inr (.inr (some (2, cc_)))), some (.inl n_), none, none, none], [.inl n_, .inl 3, .inr (.inr (some (72, 0)))], S_)) rfl ?_
        refine sm_T_bin (w := 3 * n_) rfl (bi_mul (by omega) (by omega) (by omega)) ?_ -- pc_ 27
        refine sm_T_go 2 (c1 := (30, [some (.inr (.inr (some (6, 0)))), some (.inr (.inr (some (2, cc_)))), some (.inl n_), none, none, none], [.inl 1, .inl n_, .inl (3 * n_), .inr (.inr (some (72, 0)))], S_)) rfl ?_
        refine sm_T_bin (w := n_ - 1) rfl (bi_sub (by omega) (by omega) (by omega)) ?_ -- pc_ 30
        refine sm_T_iast (n := 3039) rfl rfl (by omega) (by omega) ?_
        have hIx8_ : gi (sm_aI S_ 72 0 (3 * n_).toNat (n_ - 1)) := gi_aI hI_ (show (-1) ≤ n_ - 1 ∧ n_ - 1 ≤ 161 from ⟨by omega, by omega⟩)
        have hFx9_ : ai_fr (sx_W vw_109) S0_ (sm_aI S_ 72 0 (3 * n_).toNat (n_ - 1)) := ai_fr_tr hF_ (ai_fr_aI rfl)
        have hCx10_ : cdf cc_ S0_ (sm_aI S_ 72 0 (3 * n_).toNat (n_ - 1)) := cdf_aI hC_ (Or.inl rfl)
        refine sm_T_inc (a := 2) (z := 1) (v := n_) (w := n_ + 1) rfl rfl (by omega) (by omega) (by omega) ?_ -- pc_ 32
        refine sm_T_go 1 (c1 := (10, [some (.inr (.inr (some (6, 0)))), some (.inr (.inr (some (2, cc_)))), some (.inl (n_ + 1)), none, none, none], [], sm_aI S_ 72 0 (3 * n_).toNat (n_ - 1))) rfl ?_
        refine ih_.1 (n_ + 1) (sm_aI S_ 72 0 (3 * n_).toNat (n_ - 1)) hIx8_ hFx9_ ⟨?_, ?_, ?_, trivial⟩ ?_
        · omega
        · intro x_ u_ w_
          rw [rd_eq]
          by_cases y_ : x_ = n_
          · rw [if_pos (by omega)]; omega
          · rw [if_neg (by omega)]; exact hA_ x_ u_ (by omega)
        · exact hCx10_
        · omega
    · rintro k_ S_ hI_ hF_ ⟨h0_, hi9_, hC_, -⟩ hm_
      have f59_ : S_.2.2.1 59 0 = S0_.2.2.1 59 0 := fr_arr hF_ rfl
      have f60_ : S_.2.2.1 60 0 = S0_.2.2.1 60 0 := fr_arr hF_ rfl
      have f62_ : S_.2.2.1 62 0 = S0_.2.2.1 62 0 := fr_arr hF_ rfl
      have f63_ : S_.2.2.1 63 0 = S0_.2.2.1 63 0 := fr_arr hF_ rfl
      have f64_ : S_.2.2.1 64 0 = S0_.2.2.1 64 0 := fr_arr hF_ rfl
      have f55_ : S_.2.2.1 55 (0 + ll_) = S0_.2.2.1 55 (0 + ll_) := fr_arr hF_ rfl
      have f1_ : S_.1 3 dd_ 1 = S0_.1 3 dd_ 1 := hF_.1 3 dd_ 1 rfl
      have f2_ : S_.1 3 dd_ 2 = S0_.1 3 dd_ 2 := hF_.1 3 dd_ 2 rfl
      have f4_ : S_.1 3 dd_ 4 = S0_.1 3 dd_ 4 := hF_.1 3 dd_ 4 rfl
      have f5_ : S_.1 5 ll_ 2 = S0_.1 5 ll_ 2 := hF_.1 5 ll_ 2 rfl
      have cI_ : 0 ≤ S_.1 3 dd_ 1 ∧ S_.1 3 dd_ 1 ≤ 320 := hI_.1 3 dd_ 1 rfl
      have cR_ : 0 ≤ S_.1 3 dd_ 2 ∧ S_.1 3 dd_ 2 ≤ 100000 := hI_.1 3 dd_ 2 rfl
      have cN_ : 0 ≤ S_.1 3 dd_ 4 ∧ S_.1 3 dd_ 4 ≤ 1013 := hI_.1 3 dd_ 4 rfl
      have hf_ : 1 ≤ (1 + S0_.1 3 dd_ 1 + S0_.1 3 dd_ 2) := by omega
      have f44_ : S_.2.2.1 44 (0 + dd_) = S0_.2.2.1 44 (0 + dd_) := fr_arr hF_ rfl
      have f45_ : S_.2.2.1 45 (0 + dd_) = S0_.2.2.1 45 (0 + dd_) := fr_arr hF_ rfl
      have f46_ : S_.2.2.1 46 (0 + dd_) = S0_.2.2.1 46 (0 + dd_) := fr_arr hF_ rfl
      have f3_ : S_.1 3 dd_ 3 = S0_.1 3 dd_ 3 := hF_.1 3 dd_ 3 rfl
      have e1_ : S_.1 2 cc_ 1 = S0_.1 2 cc_ 1 := hF_.1 2 cc_ 1 rfl
      have e2_ : S_.1 2 cc_ 2 = S0_.1 2 cc_ 2 := hF_.1 2 cc_ 2 rfl
      have r1_ := hr_.1
      refine sm_T_go 2 (c1 := (42, [some (.inr (.inr (some (6, 0)))), some (.inr (.inr (some (2, cc_)))), some (.inl k_), none, none, none], [.inr (.inr (some (6, 0))), .inl k_], S_)) rfl ?_
      refine sm_T_gr rfl rfl ((hF_.2.1 6 0 0 rfl).trans hd_) ?_
      refine sm_T_cal (d1 := 0) (Q1 := vq_66 dd_ S_) rfl rfl (by decide) (vc_66 dd_ S_ hI_ (by omega)) (fun u_ Sx1_ px4_ => ?_)
      obtain ⟨rfl, vx6_, rfl, px4_⟩ := px4_
      have r45_ := px4_
      refine sm_T_br (a := 3) (z := 107) rfl (fun cx7_ => ?_) (fun cx7_ => ?_)
      · have cx7_ : vx6_ ≤ k_ := of_decide_eq_true cx7_
        refine sm_T_go 1 (c1 := (156, [some (.inr (.inr (some (6, 0)))), some (.inr (.inr (some (2, cc_)))), some (.inl k_), none, none, none], [.inl 1], S_)) rfl ?_
        refine sm_T_rz rfl (by omega) ⟨_, _, rfl, _, rfl, hI_, hF_, ?_⟩
        refine ⟨hC_, ?_⟩
        exact Or.inr rfl
      · have cx7_ : ¬ (vx6_ ≤ k_) := of_decide_eq_false cx7_
        refine sm_T_go 1 (c1 := (52, [some (.inr (.inr (some (6, 0)))), some (.inr (.inr (some (2, cc_)))), some (.inl k_), none, none, none], [.inr (.inr (some (6, 0)))], S_)) rfl ?_
        refine sm_T_gr rfl rfl ((hF_.2.1 6 0 0 rfl).trans hd_) ?_
        refine sm_T_go 1 (c1 := (56, [some (.inr (.inr (some (6, 0)))), some (.inr (.inr (some (2, cc_)))), some (.inl k_), none, none, none], [.inr (.inr (some (6, 0))), .inr (.inr (some (3, dd_)))], S_)) rfl ?_
        refine sm_T_gr rfl rfl ((hF_.2.1 6 0 0 rfl).trans hd_) ?_
        refine sm_T_go 1 (c1 := (60, [some (.inr (.inr (some (6, 0)))), some (.inr (.inr (some (2, cc_)))), some (.inl k_), none, none, none], [.inl k_, .inr (.inr (some (3, dd_))), .inr (.inr (some (3, dd_)))], S_)) rfl ?_
        refine sm_T_cal (d1 := 0) (Q1 := vq_65 k_ dd_ S_) rfl rfl (by decide) (vc_65 k_ dd_ S_ hI_ (by exact drt_fr hr_ hF_ rfl rfl rfl rfl rfl) (by omega)) (fun u_ Sx8_ px11_ => ?_)
        obtain ⟨rfl, vx13_, rfl, px11_⟩ := px11_
        have t60_ := px11_
        have v60_ : vx13_ = rtv dd_ S0_ k_ := by (rw [t60_.1]; unfold rtv; rw [f3_, f45_, f46_])
        refine sm_T_cal (d1 := 0) (Q1 := vq_64 vx13_ dd_ S_) rfl rfl (by decide) (vc_64 vx13_ dd_ S_ hI_ (by omega)) (fun u_ Sx14_ px17_ => ?_)
        obtain ⟨rfl, vx19_, rfl, px17_⟩ := px17_
        have e63_ := px17_
        have x63_ : 0 ≤ vx19_ ∧ vx19_ ≤ 2025 := by (rw [e63_]; exact swx (hI_.2 44 (0 + dd_) _) (by omega))
        rw [f44_, v60_] at e63_
        have s63_ : vx19_ = slv dd_ S0_ k_ := e63_
        have g63_ := hrt_ k_ h0_.1 (by omega)
        rw [← s63_] at g63_
        refine sm_T_go 3 (c1 := (69, [some (.inr (.inr (some (6, 0)))), some (.inr (.inr (some (2, cc_)))), some (.inl k_), some (.inl vx19_), none, none], [.inl vx19_, .inl (-1)], S_)) rfl ?_
        refine sm_T_bin (w := -vx19_ - 1) rfl (bi_sub (by omega) (by omega) (by omega)) ?_ -- pc_ 69
        refine sm_T_go 3 (c1 := (74, [some (.inr (.inr (some (6, 0)))), some (.inr (.inr (some (2, cc_)))), some (.inl k_), some (.inl vx19_), some (.inl (-vx19_ - 1)), none], [.inl 1, .inl vx19_], S_)) rfl ?_
        refine sm_T_br (a := 5) (z := 37) rfl (fun cx20_ => ?_) (fun cx20_ => ?_)
        · have cx20_ : vx19_ ≤ 1 := of_decide_eq_true cx20_
          refine sm_T_go 2 (c1 := (113, [some (.inr (.inr (some (6, 0)))), some (.inr (.inr (some (2, cc_)))), some (.inl k_), some (.inl vx19_), some (.inl (-vx19_ - 1)), none], [.inr (.inr (some (6, 0))), .inl k_], S_)) rfl ?_
          refine sm_T_gr rfl rfl ((hF_.2.1 6 0 0 rfl).trans hd_) ?_
          have bx21_ : 0 ≤ S_.1 3 dd_ 3 ∧ S_.1 3 dd_ 3 ≤ 320 := hI_.1 3 dd_ 3 rfl
          refine sm_T_go 1 (c1 := (119, [some (.inr (.inr (some (6, 0)))), some (.inr (.inr (some (2, cc_)))), some (.inl k_), some (.inl vx19_), some (.inl (-vx19_ - 1)), none], [.inl (S_.1 3 dd_ 3), .inl k_], S_)) rfl ?_
          refine sm_T_br (a := 3) (z := 14) rfl (fun cx22_ => ?_) (fun cx22_ => ?_)
          · have cx22_ : (S_.1 3 dd_ 3) ≤ k_ := of_decide_eq_true cx22_
            refine sm_T_go 4 (c1 := (139, [some (.inr (.inr (some (6, 0)))), some (.inr (.inr (some (2, cc_)))), some (.inl k_), some (.inl vx19_), some (.inl (-vx19_ - 1)), none], [.inr (.inr (some (6, 0))), .inl k_, .inr (.inr (some (38, (0 + cc_))))], S_)) rfl ?_
            refine sm_T_gr rfl rfl ((hF_.2.1 6 0 0 rfl).trans hd_) ?_
            refine sm_T_go 1 (c1 := (145, [some (.inr (.inr (some (6, 0)))), some (.inr (.inr (some (2, cc_)))), some (.inl k_), some (.inl vx19_), some (.inl (-vx19_ - 1)), none], [.inl (S_.1 3 dd_ 3), .inl k_, .inr (.inr (some (38, (0 + cc_))))], S_)) rfl ?_
            refine sm_T_bin (w := k_ - (S_.1 3 dd_ 3)) rfl (bi_sub (by omega) (by omega) (by omega)) ?_ -- pc_ 145
            refine sm_T_go 1 (c1 := (148, [some (.inr (.inr (some (6, 0)))), some (.inr (.inr (some (2, cc_)))), some (.inl k_), some (.inl vx19_), some (.inl (-vx19_ - 1)), none], [.inl (-vx19_ - 1), .inl (k_ - (S_.1 3 dd_ 3)), .inr (.inr (some (38, (0 + cc_))))], S_)) rfl ?_
            refine sm_T_iast (n := 6) rfl rfl (by omega) (by omega) ?_
            have hIx23_ : gi (sm_aI S_ 38 (0 + cc_) (k_ - (S_.1 3 dd_ 3)).toNat (-vx19_ - 1)) := gi_aI hI_ (show (-2) ≤ -vx19_ - 1 ∧ -vx19_ - 1 ≤ 161 from ⟨by omega, by omega⟩)
            have hFx24_ : ai_fr (sx_W vw_109) S0_ (sm_aI S_ 38 (0 + cc_) (k_ - (S_.1 3 dd_ 3)).toNat (-vx19_ - 1)) := ai_fr_tr hF_ (ai_fr_aI rfl)
            have hCx25_ : cdf cc_ S0_ (sm_aI S_ 38 (0 + cc_) (k_ - (S_.1 3 dd_ 3)).toNat (-vx19_ - 1)) := cdf_aI hC_ (Or.inr (by rw [show cof 38 = 0 from rfl] <;> omega))
            refine sm_T_inc (a := 2) (z := 1) (v := k_) (w := k_ + 1) rfl rfl (by omega) (by omega) (by omega) ?_ -- pc_ 149
            refine sm_T_go 1 (c1 := (40, [some (.inr (.inr (some (6, 0)))), some (.inr (.inr (some (2, cc_)))), some (.inl (k_ + 1)), some (.inl vx19_), some (.inl (-vx19_ - 1)), none], [], sm_aI S_ 38 (0 + cc_) (k_ - (S_.1 3 dd_ 3)).toNat (-vx19_ - 1))) rfl ?_
            refine sm_T_wk [some (.inr (.inr (some (6, 0)))), some (.inr (.inr (some (2, cc_)))), some (.inl (k_ + 1)), none, none, none] (by exact ⟨rfl, rfl, rfl, trivial⟩) ?_
            refine ih_.2 (k_ + 1) (sm_aI S_ 38 (0 + cc_) (k_ - (S_.1 3 dd_ 3)).toNat (-vx19_ - 1)) hIx23_ hFx24_ ⟨?_, ?_, ?_, trivial⟩ ?_
            · omega
            · first | (intro x_ u_ w_; rw [rd_ne (by decide)]; exact hi9_ x_ u_ w_) | (intro x_ u_ w_; rw [rd_ne (by decide)]; exact a94_ x_ u_ w_)
            · exact hCx25_
            · omega
          · have cx22_ : ¬ ((S_.1 3 dd_ 3) ≤ k_) := of_decide_eq_false cx22_
            refine sm_T_go 4 (c1 := (129, [some (.inr (.inr (some (6, 0)))), some (.inr (.inr (some (2, cc_)))), some (.inl k_), some (.inl vx19_), some (.inl (-vx19_ - 1)), none], [.inl (-vx19_ - 1), .inl k_, .inr (.inr (some (37, (0 + cc_))))], S_)) rfl ?_
            refine sm_T_iast (n := 16) rfl rfl (by omega) (by omega) ?_
            have hIx26_ : gi (sm_aI S_ 37 (0 + cc_) k_.toNat (-vx19_ - 1)) := gi_aI hI_ (show (-2) ≤ -vx19_ - 1 ∧ -vx19_ - 1 ≤ 161 from ⟨by omega, by omega⟩)
            have hFx27_ : ai_fr (sx_W vw_109) S0_ (sm_aI S_ 37 (0 + cc_) k_.toNat (-vx19_ - 1)) := ai_fr_tr hF_ (ai_fr_aI rfl)
            have hCx28_ : cdf cc_ S0_ (sm_aI S_ 37 (0 + cc_) k_.toNat (-vx19_ - 1)) := cdf_aI hC_ (Or.inr (by rw [show cof 37 = 0 from rfl] <;> omega))
            refine sm_T_go 1 (c1 := (149, [some (.inr (.inr (some (6, 0)))), some (.inr (.inr (some (2, cc_)))), some (.inl k_), some (.inl vx19_), some (.inl (-vx19_ - 1)), none], [], sm_aI S_ 37 (0 + cc_) k_.toNat (-vx19_ - 1))) rfl ?_
            refine sm_T_inc (a := 2) (z := 1) (v := k_) (w := k_ + 1) rfl rfl (by omega) (by omega) (by omega) ?_ -- pc_ 149
            refine sm_T_go 1 (c1 := (40, [some (.inr (.inr (some (6, 0)))), some (.inr (.inr (some (2, cc_)))), some (.inl (k_ + 1)), some (.inl vx19_), some (.inl (-vx19_ - 1)), none], [], sm_aI S_ 37 (0 + cc_) k_.toNat (-vx19_ - 1))) rfl ?_
            refine sm_T_wk [some (.inr (.inr (some (6, 0)))), some (.inr (.inr (some (2, cc_)))), some (.inl (k_ + 1)), none, none, none] (by exact ⟨rfl, rfl, rfl, trivial⟩) ?_
            refine ih_.2 (k_ + 1) (sm_aI S_ 37 (0 + cc_) k_.toNat (-vx19_ - 1)) hIx26_ hFx27_ ⟨?_, ?_, ?_, trivial⟩ ?_
            · omega
            · first | (intro x_ u_ w_; rw [rd_ne (by decide)]; exact hi9_ x_ u_ w_) | (intro x_ u_ w_; rw [rd_ne (by decide)]; exact a94_ x_ u_ w_)
            · exact hCx28_
            · omega
        · have cx20_ : ¬ (vx19_ ≤ 1) := of_decide_eq_false cx20_
          refine sm_T_go 3 (c1 := (80, [some (.inr (.inr (some (6, 0)))), some (.inr (.inr (some (2, cc_)))), some (.inl k_), some (.inl vx19_), some (.inl (-vx19_ - 1)), none], [.inl 1, .inl vx19_, .inl 3], S_)) rfl ?_
          refine sm_T_bin (w := (vx19_ / 2)) rfl (bi_shr (k := 1) (by decide) (by omega) (by omega)) ?_ -- pc_ 80
          refine sm_T_bin (w := 3 * (vx19_ / 2)) rfl (bi_mul (by omega) (by omega) (by omega)) ?_ -- pc_ 81
          refine sm_T_go 3 (c1 := (85, [some (.inr (.inr (some (6, 0)))), some (.inr (.inr (some (2, cc_)))), some (.inl k_), some (.inl vx19_), some (.inl (-vx19_ - 1)), none], [.inl 1, .inl vx19_, .inl 2, .inl (3 * (vx19_ / 2))], S_)) rfl ?_
          refine sm_T_bin (w := (vx19_ % 2)) rfl (bi_msk (k := 1) (by decide)) ?_ -- pc_ 85
          refine sm_T_bin (w := 2 * (vx19_ % 2)) rfl (bi_mul (by omega) (by omega) (by omega)) ?_ -- pc_ 86
          refine sm_T_bin (w := 3 * (vx19_ / 2) + 2 * (vx19_ % 2)) rfl (bi_add (by omega) (by omega) (by omega)) ?_ -- pc_ 87
          refine sm_T_go 4 (c1 := (94, [some (.inr (.inr (some (6, 0)))), some (.inr (.inr (some (2, cc_)))), some (.inl k_), some (.inl vx19_), some (.inl (-vx19_ - 1)), some (.inl (3 * (vx19_ / 2) + 2 * (vx19_ % 2)))], [.inr (.inr (some (2, cc_))), .inl (3 * (vx19_ / 2) + 2 * (vx19_ % 2)), .inr (.inr (some (6, 0)))], S_)) rfl ?_
          refine sm_T_cal (d1 := 4) (Q1 := vq_110 (3 * (vx19_ / 2) + 2 * (vx19_ % 2)) dd_ ll_ cc_ S_) rfl rfl (by decide) (vc_110 (3 * (vx19_ / 2) + 2 * (vx19_ % 2)) dd_ ll_ cc_ S_ hI_ (by exact (hF_.2.1 6 0 0 rfl).trans hd_) (by exact (hF_.2.1 6 0 1 rfl).trans hc_) (by (rw [f1_, f2_, f4_]; exact wal_fr hw_ hF_)) (by (rw [f1_, f2_, f4_, f5_, f59_, f62_]; exact g63_ (by omega))) (by omega) (by (rw [f1_, f2_]; exact hi9_))) (fun u_ Sx29_ px32_ => ?_)
          obtain ⟨vx34_, rfl, hIx30_, hFx31_, px32_⟩ := px32_
          have hFx33_ : ai_fr (sx_W vw_109) S0_ Sx29_ := ai_fr_tr hF_ (fr_le hFx31_ rfl)
          obtain ⟨dx36_, px32_⟩ := px32_
          have hCx35_ : cdf cc_ S0_ Sx29_ := cdf_tr hC_ (cdf_cg (by omega) dx36_)
          have o94_ : Sx29_.1 3 dd_ 3 = S_.1 3 dd_ 3 := hFx31_.1 3 dd_ 3 rfl
          have a94_ := px32_.2
          have b94_ := px32_.1
          rw [f1_, f2_] at a94_
          have g62_ := g63_ (by omega)
          have g61_ := g62_.1
          have g60_ := g62_.2.1
          refine sm_T_b0 (a := 1) (z := 5) rfl (fun cx37_ => ?_) (fun cx37_ => ?_)
          · have cx37_ : vx34_ ≠ 0 := of_decide_eq_true cx37_
            refine sm_T_go 3 (c1 := (108, [some (.inr (.inr (some (6, 0)))), some (.inr (.inr (some (2, cc_)))), some (.inl k_), some (.inl vx19_), some (.inl (-vx19_ - 1)), some (.inl (3 * (vx19_ / 2) + 2 * (vx19_ % 2)))], [.inl (3 * (vx19_ / 2) + 2 * (vx19_ % 2)), .inr (.inr (some (72, 0)))], Sx29_)) rfl ?_
            refine sm_T_iald (n := 3039) rfl rfl (by omega) (by omega) ?_
            have bx38_ : (-1) ≤ Sx29_.2.2.1 72 0 (3 * (vx19_ / 2) + 2 * (vx19_ % 2)).toNat ∧ Sx29_.2.2.1 72 0 (3 * (vx19_ / 2) + 2 * (vx19_ % 2)).toNat ≤ 161 := hIx30_.2 72 0 _
            refine sm_T_go 3 (c1 := (113, [some (.inr (.inr (some (6, 0)))), some (.inr (.inr (some (2, cc_)))), some (.inl k_), some (.inl vx19_), some (.inl (Sx29_.2.2.1 72 0 (3 * (vx19_ / 2) + 2 * (vx19_ % 2)).toNat)), some (.inl (3 * (vx19_ / 2) + 2 * (vx19_ % 2)))], [.inr (.inr (some (6, 0))), .inl k_], Sx29_)) rfl ?_
            refine sm_T_gr rfl rfl ((hFx33_.2.1 6 0 0 rfl).trans hd_) ?_
            have bx39_ : 0 ≤ Sx29_.1 3 dd_ 3 ∧ Sx29_.1 3 dd_ 3 ≤ 320 := hIx30_.1 3 dd_ 3 rfl
            refine sm_T_go 1 (c1 := (119, [some (.inr (.inr (some (6, 0)))), some (.inr (.inr (some (2, cc_)))), some (.inl k_), some (.inl vx19_), some (.inl (Sx29_.2.2.1 72 0 (3 * (vx19_ / 2) + 2 * (vx19_ % 2)).toNat)), some (.inl (3 * (vx19_ / 2) + 2 * (vx19_ % 2)))], [.inl (Sx29_.1 3 dd_ 3), .inl k_], Sx29_)) rfl ?_
            refine sm_T_br (a := 3) (z := 14) rfl (fun cx40_ => ?_) (fun cx40_ => ?_)
            · have cx40_ : (Sx29_.1 3 dd_ 3) ≤ k_ := of_decide_eq_true cx40_
              refine sm_T_go 4 (c1 := (139, [some (.inr (.inr (some (6, 0)))), some (.inr (.inr (some (2, cc_)))), some (.inl k_), some (.inl vx19_), some (.inl (Sx29_.2.2.1 72 0 (3 * (vx19_ / 2) + 2 * (vx19_ % 2)).toNat)), some (.inl (3 * (vx19_ / 2) + 2 * (vx19_ % 2)))], [.inr (.inr (some (6, 0))), .inl k_, .inr (.inr (some (38, (0 + cc_))))], Sx29_)) rfl ?_
              refine sm_T_gr rfl rfl ((hFx33_.2.1 6 0 0 rfl).trans hd_) ?_
              refine sm_T_go 1 (c1 := (145, [some (.inr (.inr (some (6, 0)))), some (.inr (.inr (some (2, cc_)))), some (.inl k_), some (.inl vx19_), some (.inl (Sx29_.2.2.1 72 0 (3 * (vx19_ / 2) + 2 * (vx19_ % 2)).toNat)), some (.inl (3 * (vx19_ / 2) + 2 * (vx19_ % 2)))], [.inl (Sx29_.1 3 dd_ 3), .inl k_, .inr (.inr (some (38, (0 + cc_))))], Sx29_)) rfl ?_
              refine sm_T_bin (w := k_ - (Sx29_.1 3 dd_ 3)) rfl (bi_sub (by omega) (by omega) (by omega)) ?_ -- pc_ 145
              refine sm_T_go 1 (c1 := (148, [some (.inr (.inr (some (6, 0)))), some (.inr (.inr (some (2, cc_)))), some (.inl k_), some (.inl vx19_), some (.inl (Sx29_.2.2.1 72 0 (3 * (vx19_ / 2) + 2 * (vx19_ % 2)).toNat)), some (.inl (3 * (vx19_ / 2) + 2 * (vx19_ % 2)))], [.inl (Sx29_.2.2.1 72 0 (3 * (vx19_ / 2) + 2 * (vx19_ % 2)).toNat), .inl (k_ - (Sx29_.1 3 dd_ 3)), .inr (.inr (some (38, (0 + cc_))))], Sx29_)) rfl ?_
              refine sm_T_iast (n := 6) rfl rfl (by omega) (by omega) ?_
              have hIx41_ : gi (sm_aI Sx29_ 38 (0 + cc_) (k_ - (Sx29_.1 3 dd_ 3)).toNat (Sx29_.2.2.1 72 0 (3 * (vx19_ / 2) + 2 * (vx19_ % 2)).toNat)) := gi_aI hIx30_ (show (-2) ≤ (Sx29_.2.2.1 72 0 (3 * (vx19_ / 2) + 2 * (vx19_ % 2)).toNat) ∧ (Sx29_.2.2.1 72 0 (3 * (vx19_ / 2) + 2 * (vx19_ % 2)).toNat) ≤ 161 from ⟨by omega, by omega⟩)
              have hFx42_ : ai_fr (sx_W vw_109) S0_ (sm_aI Sx29_ 38 (0 + cc_) (k_ - (Sx29_.1 3 dd_ 3)).toNat (Sx29_.2.2.1 72 0 (3 * (vx19_ / 2) + 2 * (vx19_ % 2)).toNat)) := ai_fr_tr hFx33_ (ai_fr_aI rfl)
              have hCx43_ : cdf cc_ S0_ (sm_aI Sx29_ 38 (0 + cc_) (k_ - (Sx29_.1 3 dd_ 3)).toNat (Sx29_.2.2.1 72 0 (3 * (vx19_ / 2) + 2 * (vx19_ % 2)).toNat)) := cdf_aI hCx35_ (Or.inr (by rw [show cof 38 = 0 from rfl] <;> omega))
              refine sm_T_inc (a := 2) (z := 1) (v := k_) (w := k_ + 1) rfl rfl (by omega) (by omega) (by omega) ?_ -- pc_ 149
              refine sm_T_go 1 (c1 := (40, [some (.inr (.inr (some (6, 0)))), some (.inr (.inr (some (2, cc_)))), some (.inl (k_ + 1)), some (.inl vx19_), some (.inl (Sx29_.2.2.1 72 0 (3 * (vx19_ / 2) + 2 * (vx19_ % 2)).toNat)), some (.inl (3 * (vx19_ / 2) + 2 * (vx19_ % 2)))], [], sm_aI Sx29_ 38 (0 + cc_) (k_ - (Sx29_.1 3 dd_ 3)).toNat (Sx29_.2.2.1 72 0 (3 * (vx19_ / 2) + 2 * (vx19_ % 2)).toNat))) rfl ?_
              refine sm_T_wk [some (.inr (.inr (some (6, 0)))), some (.inr (.inr (some (2, cc_)))), some (.inl (k_ + 1)), none, none, none] (by exact ⟨rfl, rfl, rfl, trivial⟩) ?_
              refine ih_.2 (k_ + 1) (sm_aI Sx29_ 38 (0 + cc_) (k_ - (Sx29_.1 3 dd_ 3)).toNat (Sx29_.2.2.1 72 0 (3 * (vx19_ / 2) + 2 * (vx19_ % 2)).toNat)) hIx41_ hFx42_ ⟨?_, ?_, ?_, trivial⟩ ?_
              · omega
              · first | (intro x_ u_ w_; rw [rd_ne (by decide)]; exact hi9_ x_ u_ w_) | (intro x_ u_ w_; rw [rd_ne (by decide)]; exact a94_ x_ u_ w_)
              · exact hCx43_
              · omega
            · have cx40_ : ¬ ((Sx29_.1 3 dd_ 3) ≤ k_) := of_decide_eq_false cx40_
              refine sm_T_go 4 (c1 := (129, [some (.inr (.inr (some (6, 0)))), some (.inr (.inr (some (2, cc_)))), some (.inl k_), some (.inl vx19_), some (.inl (Sx29_.2.2.1 72 0 (3 * (vx19_ / 2) + 2 * (vx19_ % 2)).toNat)), some (.inl (3 * (vx19_ / 2) + 2 * (vx19_ % 2)))], [.inl (Sx29_.2.2.1 72 0 (3 * (vx19_ / 2) + 2 * (vx19_ % 2)).toNat), .inl k_, .inr (.inr (some (37, (0 + cc_))))], Sx29_)) rfl ?_
              refine sm_T_iast (n := 16) rfl rfl (by omega) (by omega) ?_
              have hIx44_ : gi (sm_aI Sx29_ 37 (0 + cc_) k_.toNat (Sx29_.2.2.1 72 0 (3 * (vx19_ / 2) + 2 * (vx19_ % 2)).toNat)) := gi_aI hIx30_ (show (-2) ≤ (Sx29_.2.2.1 72 0 (3 * (vx19_ / 2) + 2 * (vx19_ % 2)).toNat) ∧ (Sx29_.2.2.1 72 0 (3 * (vx19_ / 2) + 2 * (vx19_ % 2)).toNat) ≤ 161 from ⟨by omega, by omega⟩)
              have hFx45_ : ai_fr (sx_W vw_109) S0_ (sm_aI Sx29_ 37 (0 + cc_) k_.toNat (Sx29_.2.2.1 72 0 (3 * (vx19_ / 2) + 2 * (vx19_ % 2)).toNat)) := ai_fr_tr hFx33_ (ai_fr_aI rfl)
              have hCx46_ : cdf cc_ S0_ (sm_aI Sx29_ 37 (0 + cc_) k_.toNat (Sx29_.2.2.1 72 0 (3 * (vx19_ / 2) + 2 * (vx19_ % 2)).toNat)) := cdf_aI hCx35_ (Or.inr (by rw [show cof 37 = 0 from rfl] <;> omega))
              refine sm_T_go 1 (c1 := (149, [some (.inr (.inr (some (6, 0)))), some (.inr (.inr (some (2, cc_)))), some (.inl k_), some (.inl vx19_), some (.inl (Sx29_.2.2.1 72 0 (3 * (vx19_ / 2) + 2 * (vx19_ % 2)).toNat)), some (.inl (3 * (vx19_ / 2) + 2 * (vx19_ % 2)))], [], sm_aI Sx29_ 37 (0 + cc_) k_.toNat (Sx29_.2.2.1 72 0 (3 * (vx19_ / 2) + 2 * (vx19_ % 2)).toNat))) rfl ?_
              refine sm_T_inc (a := 2) (z := 1) (v := k_) (w := k_ + 1) rfl rfl (by omega) (by omega) (by omega) ?_ -- pc_ 149
              refine sm_T_go 1 (c1 := (40, [some (.inr (.inr (some (6, 0)))), some (.inr (.inr (some (2, cc_)))), some (.inl (k_ + 1)), some (.inl vx19_), some (.inl (Sx29_.2.2.1 72 0 (3 * (vx19_ / 2) + 2 * (vx19_ % 2)).toNat)), some (.inl (3 * (vx19_ / 2) + 2 * (vx19_ % 2)))], [], sm_aI Sx29_ 37 (0 + cc_) k_.toNat (Sx29_.2.2.1 72 0 (3 * (vx19_ / 2) + 2 * (vx19_ % 2)).toNat))) rfl ?_
              refine sm_T_wk [some (.inr (.inr (some (6, 0)))), some (.inr (.inr (some (2, cc_)))), some (.inl (k_ + 1)), none, none, none] (by exact ⟨rfl, rfl, rfl, trivial⟩) ?_
              refine ih_.2 (k_ + 1) (sm_aI Sx29_ 37 (0 + cc_) k_.toNat (Sx29_.2.2.1 72 0 (3 * (vx19_ / 2) + 2 * (vx19_ % 2)).toNat)) hIx44_ hFx45_ ⟨?_, ?_, ?_, trivial⟩ ?_
              · omega
              · first | (intro x_ u_ w_; rw [rd_ne (by decide)]; exact hi9_ x_ u_ w_) | (intro x_ u_ w_; rw [rd_ne (by decide)]; exact a94_ x_ u_ w_)
              · exact hCx46_
              · omega
          · have cx37_ : ¬ (vx34_ ≠ 0) := of_decide_eq_false cx37_
            refine sm_T_go 1 (c1 := (101, [some (.inr (.inr (some (6, 0)))), some (.inr (.inr (some (2, cc_)))), some (.inl k_), some (.inl vx19_), some (.inl (-vx19_ - 1)), some (.inl (3 * (vx19_ / 2) + 2 * (vx19_ % 2)))], [.inl 0], Sx29_)) rfl ?_
            refine sm_T_rz rfl (by omega) ⟨_, _, rfl, _, rfl, hIx30_, hFx33_, ?_⟩
            refine ⟨hCx35_, ?_⟩
            exact Or.inl rfl
set_option maxHeartbeats 3000000 in
theorem vc_109 {sc_ : Nat × (Nat → Int)} (dd_ : Nat) (ll_ : Nat) (cc_ : Nat) (S0_ : sm_S) (hI_ : gi S0_) (hd_ : S0_.2.1 6 0 0 = some dd_) (hc_ : S0_.2.1 6 0 1 = some ll_) (hw_ : wal (1 + S0_.1 3 dd_ 1 + S0_.1 3 dd_ 2) (S0_.1 3 dd_ 4) ll_ S0_) (hs2_ : S0_.1 2 cc_ 1 + S0_.1 2 cc_ 2 ≤ 12) (hr_ : drt dd_ S0_) (hdd_ : S0_.1 3 dd_ 1 + S0_.1 3 dd_ 2 ≤ 12) (hrt_ : rgt dd_ ll_ S0_) : sm_T (mt_P sc_) 5 109 (0, [some (.inr (.inr (some (6, 0)))), some (.inr (.inr (some (2, cc_)))), none, none, none, none], [], S0_) (fun ro9_ => ∃ u_ S1_, ro9_ = (.inl u_, S1_, 0) ∧ vq_109 dd_ ll_ cc_ S0_ u_ S1_) := by
  have hF_ : ai_fr (sx_W vw_109) S0_ S0_ := ai_fr_rf
  have hC_ : cdf cc_ S0_ S0_ := cdf_rf
  have cI_ : 0 ≤ S0_.1 3 dd_ 1 ∧ S0_.1 3 dd_ 1 ≤ 320 := hI_.1 3 dd_ 1 rfl
  have cR_ : 0 ≤ S0_.1 3 dd_ 2 ∧ S0_.1 3 dd_ 2 ≤ 100000 := hI_.1 3 dd_ 2 rfl
  have cN_ : 0 ≤ S0_.1 3 dd_ 4 ∧ S0_.1 3 dd_ 4 ≤ 1013 := hI_.1 3 dd_ 4 rfl
  have hf_ : 1 ≤ (1 + S0_.1 3 dd_ 1 + S0_.1 3 dd_ 2) := by omega
  have r1_ := hr_.1
  refine sm_T_go 3 (c1 := (5, [some (.inr (.inr (some (6, 0)))), some (.inr (.inr (some (2, cc_)))), none, none, none, none], [.inl (-1), .inr (.inr (some (72, 0)))], S0_)) rfl ?_
  refine sm_T_cal (d1 := 0) (Q1 := vq_2q72 (-1) S0_) rfl rfl (by decide) (vc_2q72 (-1) S0_ hI_ (by decide)) (fun u_ Sx1_ px4_ => ?_)
  obtain ⟨rfl, hIx2_, hFx3_, px4_⟩ := px4_
  have hFx5_ : ai_fr (sx_W vw_109) S0_ Sx1_ := ai_fr_tr hF_ (fr_le hFx3_ rfl)
  have hCx6_ : cdf cc_ S0_ Sx1_ := cdf_tr hC_ (cdf_fr hFx3_ rfl)
  refine sm_T_go 2 (c1 := (10, [some (.inr (.inr (some (6, 0)))), some (.inr (.inr (some (2, cc_)))), some (.inl 1), none, none, none], [], Sx1_)) rfl ?_
  refine (vl_109 dd_ ll_ cc_ S0_ hd_ hc_ hw_ hs2_ hr_ hdd_ hrt_ _).1 1 Sx1_ hIx2_ hFx5_ ⟨?_, ?_, ?_, trivial⟩ (Nat.lt_succ_self _)
  · omega
  · (intro x_ u_ w_; exfalso; omega)
  · exact hCx6_
