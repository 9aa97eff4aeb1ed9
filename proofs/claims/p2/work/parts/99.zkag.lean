/-! Board.countWire -/
def vw_30 : sx_Wl := ([], [], [])
def vq_30 (a1_ : Int) (a2_ : Int) (ii_ : Nat) (S0_ : sm_S) (u_ : Option sm_V) (S1_ : sm_S) : Prop := S0_ = S1_ ∧ ∃ v_ : Int, u_ = some (.inl v_) ∧ (True)
set_option maxHeartbeats 400000 in
theorem vl_30 {sc_ : Nat × (Nat → Int)} (a1_ : Int) (a2_ : Int) (ii_ : Nat) (S0_ : sm_S) (h2_ : 0 ≤ a2_ ∧ a2_ ≤ 2) : ∀ nn_ : Nat, (∀ (ct : Int) (k_ : Int) (S_ : sm_S), gi S_ → ai_fr (sx_W vw_30) S0_ S_ → ((0 ≤ k_ ∧ k_ ≤ 4712 ∧ 0 ≤ ct ∧ ct ≤ 63 * k_) ∧ (S_ = S0_) ∧ True) → ((5000 - k_).toNat) < nn_ → sm_T (mt_P sc_) 1 30 (5, [some (.inr (.inr (some (0, ii_)))), some (.inl a1_), some (.inl a2_), some (.inl ct), some (.inl k_)], [], S_) (fun ro9_ => ∃ u_ S1_, ro9_ = (.inl u_, S1_, 0) ∧ vq_30 a1_ a2_ ii_ S0_ u_ S1_)) := by
  intro nn_
  induction nn_ with
  | zero => exact fun _ _ _ _ _ _ h_ => absurd h_ (Nat.not_lt_zero _)
  | succ nn_ ih_ =>
    rintro ct k_ S_ hI_ hF_ ⟨h0_, hS_, -⟩ hm_
    refine sm_T_go 2 (c1 := (8, [some (.inr (.inr (some (0, ii_)))), some (.inl a1_), some (.inl a2_), some (.inl ct), some (.inl k_)], [.inr (.inr (some (0, ii_))), .inl k_], S_)) rfl ?_
    refine sm_T_cal (d1 := 0) (Q1 := vq_16 ii_ S_) rfl rfl (by decide) (vc_16 ii_ S_ hI_ ) (fun u_ Sx1_ px4_ => ?_)
    obtain ⟨rfl, vx6_, rfl, px4_⟩ := px4_
    have p9_ := px4_
    refine sm_T_br (a := 3) (z := 58) rfl (fun cx7_ => ?_) (fun cx7_ => ?_)
    · have cx7_ : vx6_ ≤ k_ := of_decide_eq_true cx7_
      refine sm_T_go 1 (c1 := (70, [some (.inr (.inr (some (0, ii_)))), some (.inl a1_), some (.inl a2_), some (.inl ct), some (.inl k_)], [.inl ct], S_)) rfl ?_
      refine sm_T_ri rfl ⟨_, _, rfl, (by first | rfl | exact hS_.symm), _, rfl, ?_⟩
      trivial
    · have cx7_ : ¬ (vx6_ ≤ k_) := of_decide_eq_false cx7_
      refine sm_T_go 3 (c1 := (20, [some (.inr (.inr (some (0, ii_)))), some (.inl a1_), some (.inl a2_), some (.inl ct), some (.inl k_)], [.inl k_, .inr (.inr (some (22, (0 + ii_))))], S_)) rfl ?_
      refine sm_T_iald (n := 4712) rfl rfl (by omega) (by omega) ?_
      have bx8_ : (-1) ≤ S_.2.2.1 22 (0 + ii_) k_.toNat ∧ S_.2.2.1 22 (0 + ii_) k_.toNat ≤ 161 := hI_.2 22 (0 + ii_) _
      refine sm_T_go 1 (c1 := (22, [some (.inr (.inr (some (0, ii_)))), some (.inl a1_), some (.inl a2_), some (.inl ct), some (.inl k_)], [.inl a1_, .inl (S_.2.2.1 22 (0 + ii_) k_.toNat)], S_)) rfl ?_
      refine sm_T_br (a := 1) (z := 41) rfl (fun cx9_ => ?_) (fun cx9_ => ?_)
      · have cx9_ : (S_.2.2.1 22 (0 + ii_) k_.toNat) ≠ a1_ := of_decide_eq_true cx9_
        refine sm_T_inc (a := 4) (z := 1) (v := k_) (w := k_ + 1) rfl rfl (by omega) (by omega) (by omega) ?_ -- pc_ 63
        refine sm_T_go 1 (c1 := (5, [some (.inr (.inr (some (0, ii_)))), some (.inl a1_), some (.inl a2_), some (.inl ct), some (.inl (k_ + 1))], [], S_)) rfl ?_
        refine ih_ ct (k_ + 1) S_ hI_ hF_ ⟨?_, ?_, trivial⟩ ?_
        · omega
        · first | rfl | exact hS_
        · omega
      · have cx9_ : ¬ ((S_.2.2.1 22 (0 + ii_) k_.toNat) ≠ a1_) := of_decide_eq_false cx9_
        refine sm_T_go 2 (c1 := (27, [some (.inr (.inr (some (0, ii_)))), some (.inl a1_), some (.inl a2_), some (.inl ct), some (.inl k_)], [.inl a2_, .inl ct], S_)) rfl ?_
        refine sm_T_b0 (a := 1) (z := 7) rfl (fun cx10_ => ?_) (fun cx10_ => ?_)
        · have cx10_ : a2_ ≠ 0 := of_decide_eq_true cx10_
          refine sm_T_go 2 (c1 := (36, [some (.inr (.inr (some (0, ii_)))), some (.inl a1_), some (.inl a2_), some (.inl ct), some (.inl k_)], [.inl 1, .inl a2_, .inl ct], S_)) rfl ?_
          refine sm_T_br (a := 1) (z := 13) rfl (fun cx11_ => ?_) (fun cx11_ => ?_)
          · have cx11_ : a2_ ≠ 1 := of_decide_eq_true cx11_
            refine sm_T_go 3 (c1 := (55, [some (.inr (.inr (some (0, ii_)))), some (.inl a1_), some (.inl a2_), some (.inl ct), some (.inl k_)], [.inl k_, .inr (.inr (some (23, (0 + ii_)))), .inl ct], S_)) rfl ?_
            refine sm_T_iald (n := 4712) rfl rfl (by omega) (by omega) ?_
            have bx12_ : 0 ≤ S_.2.2.1 23 (0 + ii_) k_.toNat ∧ S_.2.2.1 23 (0 + ii_) k_.toNat ≤ 7 := hI_.2 23 (0 + ii_) _
            refine sm_T_go 1 (c1 := (57, [some (.inr (.inr (some (0, ii_)))), some (.inl a1_), some (.inl a2_), some (.inl ct), some (.inl k_)], [.inl 4, .inl (S_.2.2.1 23 (0 + ii_) k_.toNat), .inl ct], S_)) rfl ?_
            refine sm_T_bin (w := (i_and (S_.2.2.1 23 (0 + ii_) k_.toNat) 4)) rfl rfl ?_ -- pc_ 57
            first | have bx13_ := i_and_p (x_ := (S_.2.2.1 23 (0 + ii_) k_.toNat)) (y_ := 4) (by omega) (by omega) | have bx13_ := i_and_y (S_.2.2.1 23 (0 + ii_) k_.toNat) (y_ := 4) (by omega) | have bx13_ := i_and_x (x_ := (S_.2.2.1 23 (0 + ii_) k_.toNat)) 4 (by omega) | have bx13_ := i_and_n (S_.2.2.1 23 (0 + ii_) k_.toNat) 4
            refine sm_T_cal (d1 := 0) (Q1 := vq_7 (i_and (S_.2.2.1 23 (0 + ii_) k_.toNat) 4) S_) rfl rfl (by decide) (vc_7 (i_and (S_.2.2.1 23 (0 + ii_) k_.toNat) 4) S_ hI_ (by omega)) (fun u_ Sx14_ px17_ => ?_)
            obtain ⟨rfl, vx19_, rfl, px17_⟩ := px17_
            have b9_ := px17_
            refine sm_T_bin (w := ct + vx19_) rfl (bi_add (by omega) (by omega) (by omega)) ?_ -- pc_ 61
            refine sm_T_go 1 (c1 := (63, [some (.inr (.inr (some (0, ii_)))), some (.inl a1_), some (.inl a2_), some (.inl (ct + vx19_)), some (.inl k_)], [], S_)) rfl ?_
            refine sm_T_inc (a := 4) (z := 1) (v := k_) (w := k_ + 1) rfl rfl (by omega) (by omega) (by omega) ?_ -- pc_ 63
            refine sm_T_go 1 (c1 := (5, [some (.inr (.inr (some (0, ii_)))), some (.inl a1_), some (.inl a2_), some (.inl (ct + vx19_)), some (.inl (k_ + 1))], [], S_)) rfl ?_
            refine ih_ (ct + vx19_) (k_ + 1) S_ hI_ hF_ ⟨?_, ?_, trivial⟩ ?_
            · omega
            · first | rfl | exact hS_
            · omega
          · have cx11_ : ¬ (a2_ ≠ 1) := of_decide_eq_false cx11_
            refine sm_T_go 3 (c1 := (45, [some (.inr (.inr (some (0, ii_)))), some (.inl a1_), some (.inl a2_), some (.inl ct), some (.inl k_)], [.inl k_, .inr (.inr (some (23, (0 + ii_)))), .inl ct], S_)) rfl ?_
            refine sm_T_iald (n := 4712) rfl rfl (by omega) (by omega) ?_
            have bx20_ : 0 ≤ S_.2.2.1 23 (0 + ii_) k_.toNat ∧ S_.2.2.1 23 (0 + ii_) k_.toNat ≤ 7 := hI_.2 23 (0 + ii_) _
            refine sm_T_go 1 (c1 := (58, [some (.inr (.inr (some (0, ii_)))), some (.inl a1_), some (.inl a2_), some (.inl ct), some (.inl k_)], [.inl (S_.2.2.1 23 (0 + ii_) k_.toNat), .inl ct], S_)) rfl ?_
            refine sm_T_cal (d1 := 0) (Q1 := vq_7 (S_.2.2.1 23 (0 + ii_) k_.toNat) S_) rfl rfl (by decide) (vc_7 (S_.2.2.1 23 (0 + ii_) k_.toNat) S_ hI_ (by omega)) (fun u_ Sx21_ px24_ => ?_)
            obtain ⟨rfl, vx26_, rfl, px24_⟩ := px24_
            have b9_ := px24_
            refine sm_T_bin (w := ct + vx26_) rfl (bi_add (by omega) (by omega) (by omega)) ?_ -- pc_ 61
            refine sm_T_go 1 (c1 := (63, [some (.inr (.inr (some (0, ii_)))), some (.inl a1_), some (.inl a2_), some (.inl (ct + vx26_)), some (.inl k_)], [], S_)) rfl ?_
            refine sm_T_inc (a := 4) (z := 1) (v := k_) (w := k_ + 1) rfl rfl (by omega) (by omega) (by omega) ?_ -- pc_ 63
            refine sm_T_go 1 (c1 := (5, [some (.inr (.inr (some (0, ii_)))), some (.inl a1_), some (.inl a2_), some (.inl (ct + vx26_)), some (.inl (k_ + 1))], [], S_)) rfl ?_
            refine ih_ (ct + vx26_) (k_ + 1) S_ hI_ hF_ ⟨?_, ?_, trivial⟩ ?_
            · omega
            · first | rfl | exact hS_
            · omega
        · have cx10_ : ¬ (a2_ ≠ 0) := of_decide_eq_false cx10_
          refine sm_T_go 2 (c1 := (61, [some (.inr (.inr (some (0, ii_)))), some (.inl a1_), some (.inl a2_), some (.inl ct), some (.inl k_)], [.inl 1, .inl ct], S_)) rfl ?_
          refine sm_T_bin (w := ct + 1) rfl (bi_add (by omega) (by omega) (by omega)) ?_ -- pc_ 61
          refine sm_T_go 1 (c1 := (63, [some (.inr (.inr (some (0, ii_)))), some (.inl a1_), some (.inl a2_), some (.inl (ct + 1)), some (.inl k_)], [], S_)) rfl ?_
          refine sm_T_inc (a := 4) (z := 1) (v := k_) (w := k_ + 1) rfl rfl (by omega) (by omega) (by omega) ?_ -- pc_ 63
          refine sm_T_go 1 (c1 := (5, [some (.inr (.inr (some (0, ii_)))), some (.inl a1_), some (.inl a2_), some (.inl (ct + 1)), some (.inl (k_ + 1))], [], S_)) rfl ?_
          refine ih_ (ct + 1) (k_ + 1) S_ hI_ hF_ ⟨?_, ?_, trivial⟩ ?_
          · omega
          · first | rfl | exact hS_
          · omega
set_option maxHeartbeats 400000 in
theorem vc_30 {sc_ : Nat × (Nat → Int)} (a1_ : Int) (a2_ : Int) (ii_ : Nat) (S0_ : sm_S) (hI_ : gi S0_) (h2_ : 0 ≤ a2_ ∧ a2_ ≤ 2) : sm_T (mt_P sc_) 1 30 (0, [some (.inr (.inr (some (0, ii_)))), some (.inl a1_), some (.inl a2_), none, none], [], S0_) (fun ro9_ => ∃ u_ S1_, ro9_ = (.inl u_, S1_, 0) ∧ vq_30 a1_ a2_ ii_ S0_ u_ S1_) := by
  have hF_ : ai_fr (sx_W vw_30) S0_ S0_ := ai_fr_rf
  refine sm_T_go 4 (c1 := (5, [some (.inr (.inr (some (0, ii_)))), some (.inl a1_), some (.inl a2_), some (.inl 0), some (.inl 0)], [], S0_)) rfl ?_
  refine (vl_30 a1_ a2_ ii_ S0_ h2_ _) 0 0 S0_ hI_ hF_ ⟨?_, ?_, trivial⟩ (Nat.lt_succ_self _)
  · omega
  · first | rfl | exact hS_
