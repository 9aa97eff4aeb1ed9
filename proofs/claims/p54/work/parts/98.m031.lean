/-! 99.ztW -/
section
/-! the reference: functions and sweep, with their meaning; written by wip/p55/gen/vg -/

theorem bwv_0 : bwv 0 0 = -6148914691236517206 ∧ bwv 1 0 = -3689348814741910324 ∧ bwv 2 0 = -1085102592571150096 ∧ bwv 3 0 = -71777214294589696 ∧ bwv 4 0 = -281470681808896 ∧ bwv 5 0 = -4294967296 := by decide +kernel
theorem bwv_w {k_ w_ : Nat} (h_ : k_ < 6) : bwv k_ w_ = bwv k_ 0 := by
  unfold bwv
  rw [if_pos h_, if_pos h_]

/-! M_.base -/
def vw_350n : sx_Wl := ([], [], [])
def vq_350n (k_ : Int) (w_ : Int) (S0_ : sm_S) (u_ : Option sm_V) (S1_ : sm_S) : Prop := S0_ = S1_ ∧ ∃ v_ : Int, u_ = some (.inr (.inl v_)) ∧ (v_ = bwv k_.toNat w_.toNat)
set_option maxHeartbeats 400000 in
theorem vc_350n {sc_ : Nat × (Nat → Int)} (k_ : Int) (w_ : Int) (S0_ : sm_S) (hI_ : gi S0_) (hb_ : 0 ≤ k_ ∧ k_ ≤ 11) (hw_ : 0 ≤ w_ ∧ w_ ≤ 63) : sm_T (mt_P sc_) 0 350 (0, [some (.inl k_), some (.inl w_)], [], S0_) (fun ro9_ => ∃ u_ S1_, ro9_ = (.inl u_, S1_, 0) ∧ vq_350n k_ w_ S0_ u_ S1_) := by
  have hF_ : ai_fr (sx_W vw_350n) S0_ S0_ := ai_fr_rf
  refine sm_T_go 1 (c1 := (1, [some (.inl k_), some (.inl w_)], [.inl k_], S0_)) rfl ?_
  by_cases cx1_ : k_ = 0
  · refine sm_T_sw (t := 40) rfl rfl (by rw [cx1_]; rfl) ?_
    refine sm_T_nt (u := some (.inr (.inl (-6148914691236517206)))) (S1 := S0_) rfl rfl rfl ?_
    refine sm_T_rl rfl ⟨_, _, rfl, rfl, _, rfl, ?_⟩
    first | (rw [bwv_w (by omega)]; first | (rw [show k_.toNat = 0 by omega]; exact bwv_0.1.symm) | (rw [show k_.toNat = 1 by omega]; exact bwv_0.2.1.symm) | (rw [show k_.toNat = 2 by omega]; exact bwv_0.2.2.1.symm) | (rw [show k_.toNat = 3 by omega]; exact bwv_0.2.2.2.1.symm) | (rw [show k_.toNat = 4 by omega]; exact bwv_0.2.2.2.2.1.symm) | (rw [show k_.toNat = 5 by omega]; exact bwv_0.2.2.2.2.2.symm)) | (unfold bwv; rw [if_neg (by omega), if_pos (by (have q9_ := bsv (b_ := k_) (w_ := w_) (by omega) (by omega); omega))]) | (unfold bwv; rw [if_neg (by omega), if_neg (by (have q9_ := bsv (b_ := k_) (w_ := w_) (by omega) (by omega); omega))])
  by_cases cx2_ : k_ = 1
  · refine sm_T_sw (t := 44) rfl rfl (by rw [cx2_]; rfl) ?_
    refine sm_T_nt (u := some (.inr (.inl (-3689348814741910324)))) (S1 := S0_) rfl rfl rfl ?_
    refine sm_T_rl rfl ⟨_, _, rfl, rfl, _, rfl, ?_⟩
    first | (rw [bwv_w (by omega)]; first | (rw [show k_.toNat = 0 by omega]; exact bwv_0.1.symm) | (rw [show k_.toNat = 1 by omega]; exact bwv_0.2.1.symm) | (rw [show k_.toNat = 2 by omega]; exact bwv_0.2.2.1.symm) | (rw [show k_.toNat = 3 by omega]; exact bwv_0.2.2.2.1.symm) | (rw [show k_.toNat = 4 by omega]; exact bwv_0.2.2.2.2.1.symm) | (rw [show k_.toNat = 5 by omega]; exact bwv_0.2.2.2.2.2.symm)) | (unfold bwv; rw [if_neg (by omega), if_pos (by (have q9_ := bsv (b_ := k_) (w_ := w_) (by omega) (by omega); omega))]) | (unfold bwv; rw [if_neg (by omega), if_neg (by (have q9_ := bsv (b_ := k_) (w_ := w_) (by omega) (by omega); omega))])
  by_cases cx3_ : k_ = 2
  · refine sm_T_sw (t := 48) rfl rfl (by rw [cx3_]; rfl) ?_
    refine sm_T_nt (u := some (.inr (.inl (-1085102592571150096)))) (S1 := S0_) rfl rfl rfl ?_
    refine sm_T_rl rfl ⟨_, _, rfl, rfl, _, rfl, ?_⟩
    first | (rw [bwv_w (by omega)]; first | (rw [show k_.toNat = 0 by omega]; exact bwv_0.1.symm) | (rw [show k_.toNat = 1 by omega]; exact bwv_0.2.1.symm) | (rw [show k_.toNat = 2 by omega]; exact bwv_0.2.2.1.symm) | (rw [show k_.toNat = 3 by omega]; exact bwv_0.2.2.2.1.symm) | (rw [show k_.toNat = 4 by omega]; exact bwv_0.2.2.2.2.1.symm) | (rw [show k_.toNat = 5 by omega]; exact bwv_0.2.2.2.2.2.symm)) | (unfold bwv; rw [if_neg (by omega), if_pos (by (have q9_ := bsv (b_ := k_) (w_ := w_) (by omega) (by omega); omega))]) | (unfold bwv; rw [if_neg (by omega), if_neg (by (have q9_ := bsv (b_ := k_) (w_ := w_) (by omega) (by omega); omega))])
  by_cases cx4_ : k_ = 3
  · refine sm_T_sw (t := 52) rfl rfl (by rw [cx4_]; rfl) ?_
    refine sm_T_nt (u := some (.inr (.inl (-71777214294589696)))) (S1 := S0_) rfl rfl rfl ?_
    refine sm_T_rl rfl ⟨_, _, rfl, rfl, _, rfl, ?_⟩
    first | (rw [bwv_w (by omega)]; first | (rw [show k_.toNat = 0 by omega]; exact bwv_0.1.symm) | (rw [show k_.toNat = 1 by omega]; exact bwv_0.2.1.symm) | (rw [show k_.toNat = 2 by omega]; exact bwv_0.2.2.1.symm) | (rw [show k_.toNat = 3 by omega]; exact bwv_0.2.2.2.1.symm) | (rw [show k_.toNat = 4 by omega]; exact bwv_0.2.2.2.2.1.symm) | (rw [show k_.toNat = 5 by omega]; exact bwv_0.2.2.2.2.2.symm)) | (unfold bwv; rw [if_neg (by omega), if_pos (by (have q9_ := bsv (b_ := k_) (w_ := w_) (by omega) (by omega); omega))]) | (unfold bwv; rw [if_neg (by omega), if_neg (by (have q9_ := bsv (b_ := k_) (w_ := w_) (by omega) (by omega); omega))])
  by_cases cx5_ : k_ = 4
  · refine sm_T_sw (t := 56) rfl rfl (by rw [cx5_]; rfl) ?_
    refine sm_T_nt (u := some (.inr (.inl (-281470681808896)))) (S1 := S0_) rfl rfl rfl ?_
    refine sm_T_rl rfl ⟨_, _, rfl, rfl, _, rfl, ?_⟩
    first | (rw [bwv_w (by omega)]; first | (rw [show k_.toNat = 0 by omega]; exact bwv_0.1.symm) | (rw [show k_.toNat = 1 by omega]; exact bwv_0.2.1.symm) | (rw [show k_.toNat = 2 by omega]; exact bwv_0.2.2.1.symm) | (rw [show k_.toNat = 3 by omega]; exact bwv_0.2.2.2.1.symm) | (rw [show k_.toNat = 4 by omega]; exact bwv_0.2.2.2.2.1.symm) | (rw [show k_.toNat = 5 by omega]; exact bwv_0.2.2.2.2.2.symm)) | (unfold bwv; rw [if_neg (by omega), if_pos (by (have q9_ := bsv (b_ := k_) (w_ := w_) (by omega) (by omega); omega))]) | (unfold bwv; rw [if_neg (by omega), if_neg (by (have q9_ := bsv (b_ := k_) (w_ := w_) (by omega) (by omega); omega))])
  by_cases cx6_ : k_ = 5
  · refine sm_T_sw (t := 60) rfl rfl (by rw [cx6_]; rfl) ?_
    refine sm_T_nt (u := some (.inr (.inl (-4294967296)))) (S1 := S0_) rfl rfl rfl ?_
    refine sm_T_rl rfl ⟨_, _, rfl, rfl, _, rfl, ?_⟩
    first | (rw [bwv_w (by omega)]; first | (rw [show k_.toNat = 0 by omega]; exact bwv_0.1.symm) | (rw [show k_.toNat = 1 by omega]; exact bwv_0.2.1.symm) | (rw [show k_.toNat = 2 by omega]; exact bwv_0.2.2.1.symm) | (rw [show k_.toNat = 3 by omega]; exact bwv_0.2.2.2.1.symm) | (rw [show k_.toNat = 4 by omega]; exact bwv_0.2.2.2.2.1.symm) | (rw [show k_.toNat = 5 by omega]; exact bwv_0.2.2.2.2.2.symm)) | (unfold bwv; rw [if_neg (by omega), if_pos (by (have q9_ := bsv (b_ := k_) (w_ := w_) (by omega) (by omega); omega))]) | (unfold bwv; rw [if_neg (by omega), if_neg (by (have q9_ := bsv (b_ := k_) (w_ := w_) (by omega) (by omega); omega))])
  refine sm_T_sw (t := 64) rfl rfl (by (have hh_ : k_ < 0 ∨ 6 ≤ k_ := by omega); rcases hh_ with hh_ | hh_; (exact sm_swd (Or.inl hh_)); (exact sm_swd (Or.inr (by simp only [List.length_cons, List.length_nil]; omega)))) ?_
  refine sm_T_go 3 (c1 := (68, [some (.inl k_), some (.inl w_)], [.inl 6, .inl k_, .inl w_], S0_)) rfl ?_
  refine sm_T_bin (w := k_ - 6) rfl (bi_sub (by omega) (by omega) (by omega)) ?_
  refine sm_T_bin (w := (i_shr w_ (k_ - 6))) rfl rfl ?_
  refine sm_T_go 1 (c1 := (71, [some (.inl k_), some (.inl w_)], [.inl 1, .inl (i_shr w_ (k_ - 6))], S0_)) rfl ?_
  refine sm_T_bin (w := ((i_shr w_ (k_ - 6)) % 2)) rfl (bi_msk (k := 1) (by decide)) ?_
  refine sm_T_go 1 (c1 := (73, [some (.inl k_), some (.inl w_)], [.inl 1, .inl ((i_shr w_ (k_ - 6)) % 2)], S0_)) rfl ?_
  refine sm_T_br (a := 1) (z := 9) rfl (fun cx7_ => ?_) (fun cx7_ => ?_)
  · have cx7_ : ((i_shr w_ (k_ - 6)) % 2) ≠ 1 := of_decide_eq_true cx7_
    refine sm_T_go 1 (c1 := (83, [some (.inl k_), some (.inl w_)], [.inr (.inl 0)], S0_)) rfl ?_
    refine sm_T_rl rfl ⟨_, _, rfl, rfl, _, rfl, ?_⟩
    first | (rw [bwv_w (by omega)]; first | (rw [show k_.toNat = 0 by omega]; exact bwv_0.1.symm) | (rw [show k_.toNat = 1 by omega]; exact bwv_0.2.1.symm) | (rw [show k_.toNat = 2 by omega]; exact bwv_0.2.2.1.symm) | (rw [show k_.toNat = 3 by omega]; exact bwv_0.2.2.2.1.symm) | (rw [show k_.toNat = 4 by omega]; exact bwv_0.2.2.2.2.1.symm) | (rw [show k_.toNat = 5 by omega]; exact bwv_0.2.2.2.2.2.symm)) | (unfold bwv; rw [if_neg (by omega), if_pos (by (have q9_ := bsv (b_ := k_) (w_ := w_) (by omega) (by omega); omega))]) | (unfold bwv; rw [if_neg (by omega), if_neg (by (have q9_ := bsv (b_ := k_) (w_ := w_) (by omega) (by omega); omega))])
  · have cx7_ : ¬ (((i_shr w_ (k_ - 6)) % 2) ≠ 1) := of_decide_eq_false cx7_
    refine sm_T_nt (u := some (.inr (.inl (-1)))) (S1 := S0_) rfl rfl rfl ?_
    refine sm_T_go 1 (c1 := (83, [some (.inl k_), some (.inl w_)], [.inr (.inl (-1))], S0_)) rfl ?_
    refine sm_T_rl rfl ⟨_, _, rfl, rfl, _, rfl, ?_⟩
    first | (rw [bwv_w (by omega)]; first | (rw [show k_.toNat = 0 by omega]; exact bwv_0.1.symm) | (rw [show k_.toNat = 1 by omega]; exact bwv_0.2.1.symm) | (rw [show k_.toNat = 2 by omega]; exact bwv_0.2.2.1.symm) | (rw [show k_.toNat = 3 by omega]; exact bwv_0.2.2.2.1.symm) | (rw [show k_.toNat = 4 by omega]; exact bwv_0.2.2.2.2.1.symm) | (rw [show k_.toNat = 5 by omega]; exact bwv_0.2.2.2.2.2.symm)) | (unfold bwv; rw [if_neg (by omega), if_pos (by (have q9_ := bsv (b_ := k_) (w_ := w_) (by omega) (by omega); omega))]) | (unfold bwv; rw [if_neg (by omega), if_neg (by (have q9_ := bsv (b_ := k_) (w_ := w_) (by omega) (by omega); omega))])
/-! M_.workFunctions -/
def vw_352n : sx_Wl := ([], [171], [])
def vq_352n (F_ : Nat) (S0_ : sm_S) (u_ : Option sm_V) (S1_ : sm_S) : Prop := u_ = none ∧ gi S1_ ∧ ai_fr (sx_W vw_352n) S0_ S1_ ∧ ((∀ m9_ : Nat, (m9_ : Int) < S0_.1 13 0 37 → srw F_ m9_ 64 (-1) (S0_.2.2.1 140 0) (S0_.2.2.1 141 0) (S1_.2.2.2 171 0)) ∧ ∀ m9_ : Nat, (m9_ : Int) < S0_.1 13 0 37 → srb F_ m9_ 64 (-1) (S1_.2.2.2 171 0))
set_option maxHeartbeats 1500000 in
theorem vl_352n {sc_ : Nat × (Nat → Int)} (F_ : Nat) (S0_ : sm_S) (hg_ : rgr F_ S0_) : ∀ nn_ : Nat, (∀ (n_ : Int) (S_ : sm_S), gi S_ → ai_fr (sx_W vw_352n) S0_ S_ → ((0 ≤ n_ ∧ n_ ≤ S0_.1 13 0 37) ∧ (∀ m9_ : Nat, (m9_ : Int) < n_ → srw F_ m9_ 64 (-1) (S0_.2.2.1 140 0) (S0_.2.2.1 141 0) (S_.2.2.2 171 0)) ∧ (∀ m9_ : Nat, (m9_ : Int) < n_ → srb F_ m9_ 64 (-1) (S_.2.2.2 171 0)) ∧ True) → ((100 * (1100 - n_) + 90).toNat) < nn_ → sm_T (mt_P sc_) 1 352 (2, [some (.inr (.inr (some (13, 0)))), some (.inl n_), none], [], S_) (fun ro9_ => ∃ u_ S1_, ro9_ = (.inl u_, S1_, 0) ∧ vq_352n F_ S0_ u_ S1_)) ∧ (∀ (n_ : Int) (w_ : Int) (S_ : sm_S), gi S_ → ai_fr (sx_W vw_352n) S0_ S_ → ((0 ≤ n_ ∧ n_ < S0_.1 13 0 37 ∧ 0 ≤ w_ ∧ w_ ≤ 64) ∧ (∀ m9_ : Nat, (m9_ : Int) < n_ → srw F_ m9_ 64 (-1) (S0_.2.2.1 140 0) (S0_.2.2.1 141 0) (S_.2.2.2 171 0)) ∧ (∀ m9_ : Nat, (m9_ : Int) < n_ → srb F_ m9_ 64 (-1) (S_.2.2.2 171 0)) ∧ (srw F_ n_.toNat w_.toNat (-1) (S0_.2.2.1 140 0) (S0_.2.2.1 141 0) (S_.2.2.2 171 0)) ∧ (srb F_ n_.toNat w_.toNat (-1) (S_.2.2.2 171 0)) ∧ True) → ((100 * (1100 - n_) + 80 - w_).toNat) < nn_ → sm_T (mt_P sc_) 1 352 (12, [some (.inr (.inr (some (13, 0)))), some (.inl n_), some (.inl w_)], [], S_) (fun ro9_ => ∃ u_ S1_, ro9_ = (.inl u_, S1_, 0) ∧ vq_352n F_ S0_ u_ S1_)) := by
  intro nn_
  induction nn_ with
  | zero => exact ⟨fun _ _ _ _ _ h_ => absurd h_ (Nat.not_lt_zero _), fun _ _ _ _ _ _ h_ => absurd h_ (Nat.not_lt_zero _)⟩
  | succ nn_ ih_ =>
    refine ⟨?_, ?_⟩
    · rintro n_ S_ hI_ hF_ ⟨h0_, h1_, h5_, -⟩ hm_
      have g1_ := hg_.1
      have g2_ := hg_.2.1
      have e37_ : S_.1 13 0 37 = S0_.1 13 0 37 := hF_.1 13 0 37 rfl
      have e38_ : S_.1 13 0 38 = S0_.1 13 0 38 := hF_.1 13 0 38 rfl
      have f40_ : S_.2.2.1 140 0 = S0_.2.2.1 140 0 := fr_arr hF_ rfl
      have f41_ : S_.2.2.1 141 0 = S0_.2.2.1 141 0 := fr_arr hF_ rfl
      have bx1_ : 0 ≤ S_.1 13 0 37 ∧ S_.1 13 0 37 ≤ 1014 := hI_.1 13 0 37 rfl
      refine sm_T_go 3 (c1 := (7, [some (.inr (.inr (some (13, 0)))), some (.inl n_), none], [.inl (S_.1 13 0 37), .inl n_], S_)) rfl ?_
      refine sm_T_br (a := 3) (z := 83) rfl (fun cx2_ => ?_) (fun cx2_ => ?_)
      · have cx2_ : (S_.1 13 0 37) ≤ n_ := of_decide_eq_true cx2_
        refine sm_T_rv rfl ⟨_, _, rfl, rfl, hI_, hF_, ?_⟩
        exact ⟨fun m9_ hm9_ => h1_ m9_ (by omega), fun m9_ hm9_ => h5_ m9_ (by omega)⟩
      · have cx2_ : ¬ ((S_.1 13 0 37) ≤ n_) := of_decide_eq_false cx2_
        refine sm_T_go 2 (c1 := (12, [some (.inr (.inr (some (13, 0)))), some (.inl n_), some (.inl 0)], [], S_)) rfl ?_
        refine ih_.2 n_ 0 S_ hI_ hF_ ⟨?_, ?_, ?_, ?_, ?_, trivial⟩ ?_
        · omega
        · exact h1_
        · exact h5_
        · (intro j9_ hj9_; exact absurd hj9_ (Nat.not_lt_zero _))
        · (intro j9_ hj9_; exact absurd hj9_ (Nat.not_lt_zero _))
        · omega
    · rintro n_ w_ S_ hI_ hF_ ⟨h0_, h1_, h5_, h2_, h6_, -⟩ hm_
      have g1_ := hg_.1
      have g2_ := hg_.2.1
      have e37_ : S_.1 13 0 37 = S0_.1 13 0 37 := hF_.1 13 0 37 rfl
      have e38_ : S_.1 13 0 38 = S0_.1 13 0 38 := hF_.1 13 0 38 rfl
      have f40_ : S_.2.2.1 140 0 = S0_.2.2.1 140 0 := fr_arr hF_ rfl
      have f41_ : S_.2.2.1 141 0 = S0_.2.2.1 141 0 := fr_arr hF_ rfl
      refine sm_T_go 2 (c1 := (15, [some (.inr (.inr (some (13, 0)))), some (.inl n_), some (.inl w_)], [.inl 64, .inl w_], S_)) rfl ?_
      refine sm_T_br (a := 3) (z := 69) rfl (fun cx1_ => ?_) (fun cx1_ => ?_)
      · have cx1_ : 64 ≤ w_ := of_decide_eq_true cx1_
        refine sm_T_inc (a := 1) (z := 1) (v := n_) (w := n_ + 1) rfl rfl (by omega) (by omega) (by omega) ?_
        refine sm_T_go 1 (c1 := (2, [some (.inr (.inr (some (13, 0)))), some (.inl (n_ + 1)), some (.inl w_)], [], S_)) rfl ?_
        refine sm_T_wk [some (.inr (.inr (some (13, 0)))), some (.inl (n_ + 1)), none] (by exact ⟨rfl, rfl, trivial⟩) ?_
        refine ih_.1 (n_ + 1) S_ hI_ hF_ ⟨?_, ?_, ?_, trivial⟩ ?_
        · omega
        · intro m9_ hm9_
          by_cases z9_ : (m9_ : Int) = n_
          · rw [show m9_ = n_.toNat by omega]; rw [show w_.toNat = 64 by omega] at h2_; exact h2_
          · exact h1_ m9_ (by omega)
        · intro m9_ hm9_
          by_cases z9_ : (m9_ : Int) = n_
          · rw [show m9_ = n_.toNat by omega]; rw [show w_.toNat = 64 by omega] at h6_; exact h6_
          · exact h5_ m9_ (by omega)
        · omega
      · have cx1_ : ¬ (64 ≤ w_) := of_decide_eq_false cx1_
        refine sm_T_go 4 (c1 := (25, [some (.inr (.inr (some (13, 0)))), some (.inl n_), some (.inl w_)], [.inl n_, .inl 64, .inr (.inr (some (171, 0)))], S_)) rfl ?_
        refine sm_T_bin (w := 64 * n_) rfl (bi_mul (by omega) (by omega) (by omega)) ?_
        refine sm_T_go 1 (c1 := (27, [some (.inr (.inr (some (13, 0)))), some (.inl n_), some (.inl w_)], [.inl w_, .inl (64 * n_), .inr (.inr (some (171, 0)))], S_)) rfl ?_
        refine sm_T_bin (w := 64 * n_ + w_) rfl (bi_add (by omega) (by omega) (by omega)) ?_
        refine sm_T_go 1 (c1 := (29, [some (.inr (.inr (some (13, 0)))), some (.inl n_), some (.inl w_)], [.inl n_, .inl (64 * n_ + w_), .inr (.inr (some (171, 0)))], S_)) rfl ?_
        refine sm_T_b0 (a := 1) (z := 7) rfl (fun cx2_ => ?_) (fun cx2_ => ?_)
        · have cx2_ : n_ ≠ 0 := of_decide_eq_true cx2_
          have bx3_ : 0 ≤ S_.1 13 0 38 ∧ S_.1 13 0 38 ≤ 19 := hI_.1 13 0 38 rfl
          refine sm_T_go 3 (c1 := (41, [some (.inr (.inr (some (13, 0)))), some (.inl n_), some (.inl w_)], [.inl (S_.1 13 0 38), .inl n_, .inl (64 * n_ + w_), .inr (.inr (some (171, 0)))], S_)) rfl ?_
          refine sm_T_br (a := 3) (z := 13) rfl (fun cx4_ => ?_) (fun cx4_ => ?_)
          · have cx4_ : (S_.1 13 0 38) ≤ n_ := of_decide_eq_true cx4_
            have gn_ := hg_.2.2 n_.toNat (by omega) (by omega)
            rw [← f40_, ← f41_] at gn_
            have cl9_ : lcn (S_.2.2.2 171 0 (64 * (S_.2.2.1 140 0 n_.toNat / 2).toNat + w_.toNat)) := rok_c (W_ := 64) (m_ := -1) (fun j9_ hj9_ => (h1_ (S_.2.2.1 140 0 n_.toNat / 2).toNat (by omega) j9_ hj9_).1) w_.toNat (by omega)
            have ch9_ : lcn (S_.2.2.2 171 0 (64 * (S_.2.2.1 141 0 n_.toNat / 2).toNat + w_.toNat)) := rok_c (W_ := 64) (m_ := -1) (fun j9_ hj9_ => (h1_ (S_.2.2.1 141 0 n_.toNat / 2).toNat (by omega) j9_ hj9_).1) w_.toNat (by omega)
            refine sm_T_go 4 (c1 := (60, [some (.inr (.inr (some (13, 0)))), some (.inl n_), some (.inl w_)], [.inl n_, .inr (.inr (some (140, 0))), .inr (.inr (some (13, 0))), .inl (64 * n_ + w_), .inr (.inr (some (171, 0)))], S_)) rfl ?_
            refine sm_T_iald (n := 2048) rfl rfl (by omega) (by omega) ?_
            have bx5_ : 0 ≤ S_.2.2.1 140 0 n_.toNat ∧ S_.2.2.1 140 0 n_.toNat ≤ 2047 := hI_.2 140 0 _
            refine sm_T_go 1 (c1 := (62, [some (.inr (.inr (some (13, 0)))), some (.inl n_), some (.inl w_)], [.inl w_, .inl (S_.2.2.1 140 0 n_.toNat), .inr (.inr (some (13, 0))), .inl (64 * n_ + w_), .inr (.inr (some (171, 0)))], S_)) rfl ?_
            refine sm_T_cal (d1 := 0) (Q1 := vq_351 (S_.2.2.1 140 0 n_.toNat) w_ S_) rfl rfl (by decide) (vc_351 (S_.2.2.1 140 0 n_.toNat) w_ S_ hI_ (by omega) (by omega)) (fun u_ Sx6_ px9_ => ?_)
            obtain ⟨rfl, vx11_, rfl, px9_⟩ := px9_
            have e62_ := px9_
            refine sm_T_go 4 (c1 := (71, [some (.inr (.inr (some (13, 0)))), some (.inl n_), some (.inl w_)], [.inl n_, .inr (.inr (some (141, 0))), .inr (.inr (some (13, 0))), .inr (.inl vx11_), .inl (64 * n_ + w_), .inr (.inr (some (171, 0)))], S_)) rfl ?_
            refine sm_T_iald (n := 2048) rfl rfl (by omega) (by omega) ?_
            have bx12_ : 0 ≤ S_.2.2.1 141 0 n_.toNat ∧ S_.2.2.1 141 0 n_.toNat ≤ 2047 := hI_.2 141 0 _
            refine sm_T_go 1 (c1 := (73, [some (.inr (.inr (some (13, 0)))), some (.inl n_), some (.inl w_)], [.inl w_, .inl (S_.2.2.1 141 0 n_.toNat), .inr (.inr (some (13, 0))), .inr (.inl vx11_), .inl (64 * n_ + w_), .inr (.inr (some (171, 0)))], S_)) rfl ?_
            refine sm_T_cal (d1 := 0) (Q1 := vq_351 (S_.2.2.1 141 0 n_.toNat) w_ S_) rfl rfl (by decide) (vc_351 (S_.2.2.1 141 0 n_.toNat) w_ S_ hI_ (by omega) (by omega)) (fun u_ Sx13_ px16_ => ?_)
            obtain ⟨rfl, vx18_, rfl, px16_⟩ := px16_
            have e73_ := px16_
            refine sm_T_go 1 (c1 := (77, [some (.inr (.inr (some (13, 0)))), some (.inl n_), some (.inl w_)], [.inr (.inl (l_3 vx11_ vx18_)), .inl (64 * n_ + w_), .inr (.inr (some (171, 0)))], S_)) rfl ?_
            refine sm_T_last (n := 131072) rfl rfl (by omega) (by omega) ?_
            have hIx19_ : gi (sm_aL S_ 171 0 (64 * n_ + w_).toNat ((l_3 vx11_ vx18_))) := gi_aL hI_
            have hFx20_ : ai_fr (sx_W vw_352n) S0_ (sm_aL S_ 171 0 (64 * n_ + w_).toNat ((l_3 vx11_ vx18_))) := ai_fr_tr hF_ (ai_fr_aL rfl)
            refine sm_T_inc (a := 2) (z := 1) (v := w_) (w := w_ + 1) rfl rfl (by omega) (by omega) (by omega) ?_
            refine sm_T_go 1 (c1 := (12, [some (.inr (.inr (some (13, 0)))), some (.inl n_), some (.inl (w_ + 1))], [], sm_aL S_ 171 0 (64 * n_ + w_).toNat ((l_3 vx11_ vx18_)))) rfl ?_
            refine ih_.2 n_ (w_ + 1) (sm_aL S_ 171 0 (64 * n_ + w_).toNat ((l_3 vx11_ vx18_))) hIx19_ hFx20_ ⟨?_, ?_, ?_, ?_, ?_, trivial⟩ ?_
            · omega
            · intro m9_ hm9_
              exact srw_cg (fun a9_ => hg_.2.2 m9_ a9_ (by omega)) (h1_ m9_ hm9_) (fun k9_ hk9_ => by rw [rd_leq, if_neg (by omega)])
            · intro m9_ hm9_
              exact srb_cg (h5_ m9_ hm9_) (by decide) (fun k9_ hk9_ => by rw [rd_leq, if_neg (by omega)])
            · rw [show (w_ + 1).toNat = w_.toNat + 1 by omega]
              first | (have c9_ : n_ = 0 := (by omega); refine srw_up (row_ := 0) (fun a9_ => hg_.2.2 n_.toNat a9_ (by omega)) (by omega) h2_ (fun k9_ => by rw [show 64 * n_.toNat + w_.toNat = (64 * n_ + w_).toNat by omega, rd_leq, l3_m1 lcn_c.1]) (fun a9_ => ?_) (fun a9_ => rfl); (exfalso; omega)) | (have c9_ : n_ < (F_ : Int) := (by omega); refine srw_up (fun a9_ => hg_.2.2 n_.toNat a9_ (by omega)) (by omega) h2_ (fun k9_ => by rw [show 64 * n_.toNat + w_.toNat = (64 * n_ + w_).toNat by omega, rd_leq, l3_m1 e48_]) (fun a9_ => ?_) (fun a9_ => ?_); (exfalso; omega); (exfalso; omega)) | (refine srw_up (fun a9_ => hg_.2.2 n_.toNat a9_ (by omega)) (by omega) h2_ (fun k9_ => by rw [show 64 * n_.toNat + w_.toNat = (64 * n_ + w_).toNat by omega, rd_leq, l3_m1 lcn_3]) (fun a9_ => ?_) (fun a9_ => ?_); (rw [e62_, e73_, f40_, f41_]); (exfalso; omega))
            · rw [show (w_ + 1).toNat = w_.toNat + 1 by omega]
              first | (have c9_ : n_ = 0 := (by omega); refine srb_up (row_ := 0) h6_ (fun k9_ => by rw [show 64 * n_.toNat + w_.toNat = (64 * n_ + w_).toNat by omega, rd_leq, l3_m1 lcn_c.1]) (fun a9_ b9_ => ?_); (exfalso; omega)) | (have c9_ : n_ < (F_ : Int) := (by omega); refine srb_up h6_ (fun k9_ => by rw [show 64 * n_.toNat + w_.toNat = (64 * n_ + w_).toNat by omega, rd_leq, l3_m1 e48_]) (fun a9_ b9_ => ?_); (rw [e48n, show (n_ - 1).toNat = n_.toNat - 1 by omega])) | (refine srb_up h6_ (fun k9_ => by rw [show 64 * n_.toNat + w_.toNat = (64 * n_ + w_).toNat by omega, rd_leq, l3_m1 lcn_3]) (fun a9_ b9_ => ?_); (exfalso; omega))
            · omega
          · have cx4_ : ¬ ((S_.1 13 0 38) ≤ n_) := of_decide_eq_false cx4_
            refine sm_T_go 2 (c1 := (46, [some (.inr (.inr (some (13, 0)))), some (.inl n_), some (.inl w_)], [.inl 1, .inl n_, .inl (64 * n_ + w_), .inr (.inr (some (171, 0)))], S_)) rfl ?_
            refine sm_T_bin (w := n_ - 1) rfl (bi_sub (by omega) (by omega) (by omega)) ?_
            refine sm_T_go 1 (c1 := (48, [some (.inr (.inr (some (13, 0)))), some (.inl n_), some (.inl w_)], [.inl w_, .inl (n_ - 1), .inl (64 * n_ + w_), .inr (.inr (some (171, 0)))], S_)) rfl ?_
            refine sm_T_cal (d1 := 0) (Q1 := vq_350n (n_ - 1) w_ S_) rfl rfl (by decide) (vc_350n (n_ - 1) w_ S_ hI_ (by omega) (by omega)) (fun u_ Sx21_ px24_ => ?_)
            obtain ⟨rfl, vx26_, rfl, px24_⟩ := px24_
            have e48n := px24_
            have e48_ : lcn vx26_ := by rw [e48n]; exact bwv_c
            refine sm_T_go 1 (c1 := (77, [some (.inr (.inr (some (13, 0)))), some (.inl n_), some (.inl w_)], [.inr (.inl vx26_), .inl (64 * n_ + w_), .inr (.inr (some (171, 0)))], S_)) rfl ?_
            refine sm_T_last (n := 131072) rfl rfl (by omega) (by omega) ?_
            have hIx27_ : gi (sm_aL S_ 171 0 (64 * n_ + w_).toNat vx26_) := gi_aL hI_
            have hFx28_ : ai_fr (sx_W vw_352n) S0_ (sm_aL S_ 171 0 (64 * n_ + w_).toNat vx26_) := ai_fr_tr hF_ (ai_fr_aL rfl)
            refine sm_T_inc (a := 2) (z := 1) (v := w_) (w := w_ + 1) rfl rfl (by omega) (by omega) (by omega) ?_
            refine sm_T_go 1 (c1 := (12, [some (.inr (.inr (some (13, 0)))), some (.inl n_), some (.inl (w_ + 1))], [], sm_aL S_ 171 0 (64 * n_ + w_).toNat vx26_)) rfl ?_
            refine ih_.2 n_ (w_ + 1) (sm_aL S_ 171 0 (64 * n_ + w_).toNat vx26_) hIx27_ hFx28_ ⟨?_, ?_, ?_, ?_, ?_, trivial⟩ ?_
            · omega
            · intro m9_ hm9_
              exact srw_cg (fun a9_ => hg_.2.2 m9_ a9_ (by omega)) (h1_ m9_ hm9_) (fun k9_ hk9_ => by rw [rd_leq, if_neg (by omega)])
            · intro m9_ hm9_
              exact srb_cg (h5_ m9_ hm9_) (by decide) (fun k9_ hk9_ => by rw [rd_leq, if_neg (by omega)])
            · rw [show (w_ + 1).toNat = w_.toNat + 1 by omega]
              first | (have c9_ : n_ = 0 := (by omega); refine srw_up (row_ := 0) (fun a9_ => hg_.2.2 n_.toNat a9_ (by omega)) (by omega) h2_ (fun k9_ => by rw [show 64 * n_.toNat + w_.toNat = (64 * n_ + w_).toNat by omega, rd_leq, l3_m1 lcn_c.1]) (fun a9_ => ?_) (fun a9_ => rfl); (exfalso; omega)) | (have c9_ : n_ < (F_ : Int) := (by omega); refine srw_up (fun a9_ => hg_.2.2 n_.toNat a9_ (by omega)) (by omega) h2_ (fun k9_ => by rw [show 64 * n_.toNat + w_.toNat = (64 * n_ + w_).toNat by omega, rd_leq, l3_m1 e48_]) (fun a9_ => ?_) (fun a9_ => ?_); (exfalso; omega); (exfalso; omega)) | (refine srw_up (fun a9_ => hg_.2.2 n_.toNat a9_ (by omega)) (by omega) h2_ (fun k9_ => by rw [show 64 * n_.toNat + w_.toNat = (64 * n_ + w_).toNat by omega, rd_leq, l3_m1 lcn_3]) (fun a9_ => ?_) (fun a9_ => ?_); (rw [e62_, e73_, f40_, f41_]); (exfalso; omega))
            · rw [show (w_ + 1).toNat = w_.toNat + 1 by omega]
              first | (have c9_ : n_ = 0 := (by omega); refine srb_up (row_ := 0) h6_ (fun k9_ => by rw [show 64 * n_.toNat + w_.toNat = (64 * n_ + w_).toNat by omega, rd_leq, l3_m1 lcn_c.1]) (fun a9_ b9_ => ?_); (exfalso; omega)) | (have c9_ : n_ < (F_ : Int) := (by omega); refine srb_up h6_ (fun k9_ => by rw [show 64 * n_.toNat + w_.toNat = (64 * n_ + w_).toNat by omega, rd_leq, l3_m1 e48_]) (fun a9_ b9_ => ?_); (rw [e48n, show (n_ - 1).toNat = n_.toNat - 1 by omega])) | (refine srb_up h6_ (fun k9_ => by rw [show 64 * n_.toNat + w_.toNat = (64 * n_ + w_).toNat by omega, rd_leq, l3_m1 lcn_3]) (fun a9_ b9_ => ?_); (exfalso; omega))
            · omega
        · have cx2_ : ¬ (n_ ≠ 0) := of_decide_eq_false cx2_
          refine sm_T_go 2 (c1 := (77, [some (.inr (.inr (some (13, 0)))), some (.inl n_), some (.inl w_)], [.inr (.inl 0), .inl (64 * n_ + w_), .inr (.inr (some (171, 0)))], S_)) rfl ?_
          refine sm_T_last (n := 131072) rfl rfl (by omega) (by omega) ?_
          have hIx29_ : gi (sm_aL S_ 171 0 (64 * n_ + w_).toNat 0) := gi_aL hI_
          have hFx30_ : ai_fr (sx_W vw_352n) S0_ (sm_aL S_ 171 0 (64 * n_ + w_).toNat 0) := ai_fr_tr hF_ (ai_fr_aL rfl)
          refine sm_T_inc (a := 2) (z := 1) (v := w_) (w := w_ + 1) rfl rfl (by omega) (by omega) (by omega) ?_
          refine sm_T_go 1 (c1 := (12, [some (.inr (.inr (some (13, 0)))), some (.inl n_), some (.inl (w_ + 1))], [], sm_aL S_ 171 0 (64 * n_ + w_).toNat 0)) rfl ?_
          refine ih_.2 n_ (w_ + 1) (sm_aL S_ 171 0 (64 * n_ + w_).toNat 0) hIx29_ hFx30_ ⟨?_, ?_, ?_, ?_, ?_, trivial⟩ ?_
          · omega
          · intro m9_ hm9_
            exact srw_cg (fun a9_ => hg_.2.2 m9_ a9_ (by omega)) (h1_ m9_ hm9_) (fun k9_ hk9_ => by rw [rd_leq, if_neg (by omega)])
          · intro m9_ hm9_
            exact srb_cg (h5_ m9_ hm9_) (by decide) (fun k9_ hk9_ => by rw [rd_leq, if_neg (by omega)])
          · rw [show (w_ + 1).toNat = w_.toNat + 1 by omega]
            first | (have c9_ : n_ = 0 := (by omega); refine srw_up (row_ := 0) (fun a9_ => hg_.2.2 n_.toNat a9_ (by omega)) (by omega) h2_ (fun k9_ => by rw [show 64 * n_.toNat + w_.toNat = (64 * n_ + w_).toNat by omega, rd_leq, l3_m1 lcn_c.1]) (fun a9_ => ?_) (fun a9_ => rfl); (exfalso; omega)) | (have c9_ : n_ < (F_ : Int) := (by omega); refine srw_up (fun a9_ => hg_.2.2 n_.toNat a9_ (by omega)) (by omega) h2_ (fun k9_ => by rw [show 64 * n_.toNat + w_.toNat = (64 * n_ + w_).toNat by omega, rd_leq, l3_m1 e48_]) (fun a9_ => ?_) (fun a9_ => ?_); (exfalso; omega); (exfalso; omega)) | (refine srw_up (fun a9_ => hg_.2.2 n_.toNat a9_ (by omega)) (by omega) h2_ (fun k9_ => by rw [show 64 * n_.toNat + w_.toNat = (64 * n_ + w_).toNat by omega, rd_leq, l3_m1 lcn_3]) (fun a9_ => ?_) (fun a9_ => ?_); (rw [e62_, e73_, f40_, f41_]); (exfalso; omega))
          · rw [show (w_ + 1).toNat = w_.toNat + 1 by omega]
            first | (have c9_ : n_ = 0 := (by omega); refine srb_up (row_ := 0) h6_ (fun k9_ => by rw [show 64 * n_.toNat + w_.toNat = (64 * n_ + w_).toNat by omega, rd_leq, l3_m1 lcn_c.1]) (fun a9_ b9_ => ?_); (exfalso; omega)) | (have c9_ : n_ < (F_ : Int) := (by omega); refine srb_up h6_ (fun k9_ => by rw [show 64 * n_.toNat + w_.toNat = (64 * n_ + w_).toNat by omega, rd_leq, l3_m1 e48_]) (fun a9_ b9_ => ?_); (rw [e48n, show (n_ - 1).toNat = n_.toNat - 1 by omega])) | (refine srb_up h6_ (fun k9_ => by rw [show 64 * n_.toNat + w_.toNat = (64 * n_ + w_).toNat by omega, rd_leq, l3_m1 lcn_3]) (fun a9_ b9_ => ?_); (exfalso; omega))
          · omega
set_option maxHeartbeats 1500000 in
theorem vc_352n {sc_ : Nat × (Nat → Int)} (F_ : Nat) (S0_ : sm_S) (hI_ : gi S0_) (hg_ : rgr F_ S0_) : sm_T (mt_P sc_) 1 352 (0, [some (.inr (.inr (some (13, 0)))), none, none], [], S0_) (fun ro9_ => ∃ u_ S1_, ro9_ = (.inl u_, S1_, 0) ∧ vq_352n F_ S0_ u_ S1_) := by
  have hF_ : ai_fr (sx_W vw_352n) S0_ S0_ := ai_fr_rf
  refine sm_T_go 2 (c1 := (2, [some (.inr (.inr (some (13, 0)))), some (.inl 0), none], [], S0_)) rfl ?_
  refine (vl_352n F_ S0_ hg_ _).1 0 S0_ hI_ hF_ ⟨?_, ?_, ?_, trivial⟩ (Nat.lt_succ_self _)
  · (have g1_ := hg_.1; have g2_ := hg_.2.1; omega)
  · (intro m9_ hm9_; omega)
  · (intro m9_ hm9_; omega)
/-! M_.sweep -/
def vw_354n : sx_Wl := ([], [172], [])
def vq_354n (F_ : Nat) (S0_ : sm_S) (u_ : Option sm_V) (S1_ : sm_S) : Prop := u_ = none ∧ gi S1_ ∧ ai_fr (sx_W vw_354n) S0_ S1_ ∧ (rsw F_ S1_ ∧ swl 64 (-1) (S1_.2.2.2 171 0) (S1_.1 13 0 37).toNat (S1_.2.2.1 172 0))
set_option maxHeartbeats 3000000 in
theorem vl_354n {sc_ : Nat × (Nat → Int)} (F_ : Nat) (S0_ : sm_S) (hg_ : rgr F_ S0_) (hfn_ : ∀ m9_ : Nat, (m9_ : Int) < S0_.1 13 0 37 → srw F_ m9_ 64 (-1) (S0_.2.2.1 140 0) (S0_.2.2.1 141 0) (S0_.2.2.2 171 0)) : ∀ nn_ : Nat, (∀ (n_ : Int) (S_ : sm_S), gi S_ → ai_fr (sx_W vw_354n) S0_ S_ → ((0 ≤ n_ ∧ n_ ≤ S0_.1 13 0 37) ∧ (sw1 F_ 64 n_.toNat (-1) (S0_.2.2.1 140 0) (S0_.2.2.1 141 0) (S_.2.2.1 172 0) (S0_.2.2.2 171 0)) ∧ (0 < n_ → S_.2.2.1 172 0 0 = 0) ∧ (swl 64 (-1) (S0_.2.2.2 171 0) n_.toNat (S_.2.2.1 172 0)) ∧ True) → ((2000 * (1100 - n_) + 1500).toNat) < nn_ → sm_T (mt_P sc_) 1 354 (2, [some (.inr (.inr (some (13, 0)))), some (.inl n_), none, none, none], [], S_) (fun ro9_ => ∃ u_ S1_, ro9_ = (.inl u_, S1_, 0) ∧ vq_354n F_ S0_ u_ S1_)) ∧ (∀ (n_ : Int) (fd_ : Int) (m_ : Int) (S_ : sm_S), gi S_ → ai_fr (sx_W vw_354n) S0_ S_ → ((0 ≤ n_ ∧ n_ < S0_.1 13 0 37 ∧ 0 ≤ m_ ∧ m_ ≤ n_) ∧ (sw1 F_ 64 n_.toNat (-1) (S0_.2.2.1 140 0) (S0_.2.2.1 141 0) (S_.2.2.1 172 0) (S0_.2.2.2 171 0)) ∧ (0 < n_ → S_.2.2.1 172 0 0 = 0) ∧ (swl 64 (-1) (S0_.2.2.2 171 0) n_.toNat (S_.2.2.1 172 0)) ∧ (rfn n_.toNat m_.toNat (S_.2.2.1 172 0) (S0_.2.2.2 171 0) fd_) ∧ True) → ((2000 * (1100 - n_) + 1400 - m_).toNat) < nn_ → sm_T (mt_P sc_) 1 354 (23, [some (.inr (.inr (some (13, 0)))), some (.inl n_), some (.inl fd_), some (.inl m_), none], [], S_) (fun ro9_ => ∃ u_ S1_, ro9_ = (.inl u_, S1_, 0) ∧ vq_354n F_ S0_ u_ S1_)) := by
  intro nn_
  induction nn_ with
  | zero => exact ⟨fun _ _ _ _ _ h_ => absurd h_ (Nat.not_lt_zero _), fun _ _ _ _ _ _ _ h_ => absurd h_ (Nat.not_lt_zero _)⟩
  | succ nn_ ih_ =>
    refine ⟨?_, ?_⟩
    · rintro n_ S_ hI_ hF_ ⟨h0_, h1_, h2_, h4_, -⟩ hm_
      have g1_ := hg_.1
      have g2_ := hg_.2.1
      have e37_ : S_.1 13 0 37 = S0_.1 13 0 37 := hF_.1 13 0 37 rfl
      have f71_ : S_.2.2.2 171 0 = S0_.2.2.2 171 0 := fr_lon hF_ rfl
      have gl_ := glo_r hg_
      have bx1_ : 0 ≤ S_.1 13 0 37 ∧ S_.1 13 0 37 ≤ 1014 := hI_.1 13 0 37 rfl
      refine sm_T_go 3 (c1 := (7, [some (.inr (.inr (some (13, 0)))), some (.inl n_), none, none, none], [.inl (S_.1 13 0 37), .inl n_], S_)) rfl ?_
      refine sm_T_br (a := 3) (z := 98) rfl (fun cx2_ => ?_) (fun cx2_ => ?_)
      · have cx2_ : (S_.1 13 0 37) ≤ n_ := of_decide_eq_true cx2_
        refine sm_T_rv rfl ⟨_, _, rfl, rfl, hI_, hF_, ?_⟩
        refine ⟨⟨h2_ (by omega), fun m9_ hm9_ => ?_⟩, ?_⟩
        · rw [fr_arr (t := 140) (i := 0) hF_ rfl, fr_arr (t := 141) (i := 0) hF_ rfl]; exact (h1_ m9_ (by omega)).1
        · rw [f71_, show (S_.1 13 0 37).toNat = n_.toNat by omega]; exact h4_
      · have cx2_ : ¬ ((S_.1 13 0 37) ≤ n_) := of_decide_eq_false cx2_
        refine sm_T_go 5 (c1 := (17, [some (.inr (.inr (some (13, 0)))), some (.inl n_), none, none, none], [.inl n_, .inl 2, .inl n_, .inr (.inr (some (172, 0)))], S_)) rfl ?_
        refine sm_T_bin (w := 2 * n_) rfl (bi_mul (by omega) (by omega) (by omega)) ?_
        refine sm_T_iast (n := 2048) rfl rfl (by omega) (by omega) ?_
        have hIx3_ : gi (sm_aI S_ 172 0 n_.toNat (2 * n_)) := gi_aI hI_ (show 0 ≤ 2 * n_ ∧ 2 * n_ ≤ 2025 from ⟨by omega, by omega⟩)
        have hFx4_ : ai_fr (sx_W vw_354n) S0_ (sm_aI S_ 172 0 n_.toNat (2 * n_)) := ai_fr_tr hF_ (ai_fr_aI rfl)
        refine sm_T_go 4 (c1 := (23, [some (.inr (.inr (some (13, 0)))), some (.inl n_), some (.inl 0), some (.inl 0), none], [], sm_aI S_ 172 0 n_.toNat (2 * n_))) rfl ?_
        refine ih_.2 n_ 0 0 (sm_aI S_ 172 0 n_.toNat (2 * n_)) hIx3_ hFx4_ ⟨?_, ?_, ?_, ?_, ?_, trivial⟩ ?_
        · omega
        · exact sw1_sf gl_ (by omega) h1_ (fun k9_ hk9_ => by rw [rd_eq, if_neg (by omega)])
        · (intro z9_; rw [rd_eq, if_neg (by omega)]; exact h2_ z9_)
        · exact swl_cg h4_ (by decide) (fun _ _ => rfl) (fun k9_ hk9_ => by rw [rd_eq, if_neg (by omega)])
        · exact Or.inl ⟨rfl, by rw [rd_eq, if_pos rfl]; omega, fun p9_ hp9_ => absurd hp9_ (Nat.not_lt_zero _)⟩
        · omega
    · rintro n_ fd_ m_ S_ hI_ hF_ ⟨h0_, h1_, h2_, h4_, h3_, -⟩ hm_
      have g1_ := hg_.1
      have g2_ := hg_.2.1
      have e37_ : S_.1 13 0 37 = S0_.1 13 0 37 := hF_.1 13 0 37 rfl
      have f71_ : S_.2.2.2 171 0 = S0_.2.2.2 171 0 := fr_lon hF_ rfl
      have gl_ := glo_r hg_
      refine sm_T_go 2 (c1 := (25, [some (.inr (.inr (some (13, 0)))), some (.inl n_), some (.inl fd_), some (.inl m_), none], [.inl n_, .inl m_], S_)) rfl ?_
      refine sm_T_br (a := 3) (z := 74) rfl (fun cx1_ => ?_) (fun cx1_ => ?_)
      · have cx1_ : n_ ≤ m_ := of_decide_eq_true cx1_
        refine sm_T_inc (a := 1) (z := 1) (v := n_) (w := n_ + 1) rfl rfl (by omega) (by omega) (by omega) ?_
        refine sm_T_go 1 (c1 := (2, [some (.inr (.inr (some (13, 0)))), some (.inl (n_ + 1)), some (.inl fd_), some (.inl m_), none], [], S_)) rfl ?_
        refine sm_T_wk [some (.inr (.inr (some (13, 0)))), some (.inl (n_ + 1)), none, none, none] (by exact ⟨rfl, rfl, trivial⟩) ?_
        refine ih_.1 (n_ + 1) S_ hI_ hF_ ⟨?_, ?_, ?_, ?_, trivial⟩ ?_
        · (clear h3_; omega)
        · rw [show (n_ + 1).toNat = n_.toNat + 1 by omega]
          have h4_ : ∃ f9_, rfn n_.toNat n_.toNat (S_.2.2.1 172 0) (S0_.2.2.2 171 0) f9_ := by (rcases h3_ with z9_ | z9_; (refine ⟨0, Or.inl ⟨rfl, z9_.2.1, ?_⟩⟩; rw [show n_.toNat = m_.toNat by have := z9_.1; omega]; rw [show n_.toNat = m_.toNat by have := z9_.1; omega] at z9_; exact z9_.2.2); (exact ⟨1, Or.inr ⟨rfl, z9_.2⟩⟩))
          obtain ⟨f9_, h5_⟩ := h4_
          exact sw_rf gl_ g1_.2.1 (by omega) h1_ (fun z9_ => h2_ (by omega)) (fun m9_ hm9_ => hfn_ m9_ (by omega)) h5_
        · intro z9_
          by_cases n0_ : n_ = 0
          · have b9_ := rfn_b h3_; rcases h3_ with y9_ | ⟨-, p9_, t9_, y1_, -⟩; (have := y9_.2.1; rw [show n_.toNat = 0 by omega] at this; omega); (have := y1_.1; omega)
          · exact h2_ (by omega)
        · rw [show (n_ + 1).toNat = n_.toNat + 1 by omega]
          have h8_ : ∃ f9_, rfn n_.toNat n_.toNat (S_.2.2.1 172 0) (S0_.2.2.2 171 0) f9_ := by (rcases h3_ with z9_ | z9_; (refine ⟨0, Or.inl ⟨rfl, z9_.2.1, ?_⟩⟩; rw [show n_.toNat = m_.toNat by have := z9_.1; omega]; rw [show n_.toNat = m_.toNat by have := z9_.1; omega] at z9_; exact z9_.2.2); (exact ⟨1, Or.inr ⟨rfl, z9_.2⟩⟩))
          obtain ⟨f9_, h5_⟩ := h8_
          refine swl_s h4_ ?_
          rcases h5_ with ⟨-, z1_, z2_⟩ | ⟨-, z1_⟩
          · exact Or.inl ⟨z1_, fun p9_ hp9_ => z2_ p9_ hp9_.1 hp9_⟩
          · exact Or.inr z1_
        · (clear h3_; omega)
      · have cx1_ : ¬ (n_ ≤ m_) := of_decide_eq_false cx1_
        refine sm_T_go 1 (c1 := (29, [some (.inr (.inr (some (13, 0)))), some (.inl n_), some (.inl fd_), some (.inl m_), none], [.inl fd_], S_)) rfl ?_
        refine sm_T_b0 (a := 1) (z := 70) rfl (fun cx2_ => ?_) (fun cx2_ => ?_)
        · have cx2_ : fd_ ≠ 0 := of_decide_eq_true cx2_
          refine sm_T_inc (a := 1) (z := 1) (v := n_) (w := n_ + 1) rfl rfl (by omega) (by omega) (by omega) ?_
          refine sm_T_go 1 (c1 := (2, [some (.inr (.inr (some (13, 0)))), some (.inl (n_ + 1)), some (.inl fd_), some (.inl m_), none], [], S_)) rfl ?_
          refine sm_T_wk [some (.inr (.inr (some (13, 0)))), some (.inl (n_ + 1)), none, none, none] (by exact ⟨rfl, rfl, trivial⟩) ?_
          refine ih_.1 (n_ + 1) S_ hI_ hF_ ⟨?_, ?_, ?_, ?_, trivial⟩ ?_
          · (clear h3_; omega)
          · rw [show (n_ + 1).toNat = n_.toNat + 1 by omega]
            have h4_ : ∃ f9_, rfn n_.toNat n_.toNat (S_.2.2.1 172 0) (S0_.2.2.2 171 0) f9_ := by (rcases h3_ with z9_ | z9_; (refine ⟨0, Or.inl ⟨rfl, z9_.2.1, ?_⟩⟩; rw [show n_.toNat = m_.toNat by have := z9_.1; omega]; rw [show n_.toNat = m_.toNat by have := z9_.1; omega] at z9_; exact z9_.2.2); (exact ⟨1, Or.inr ⟨rfl, z9_.2⟩⟩))
            obtain ⟨f9_, h5_⟩ := h4_
            exact sw_rf gl_ g1_.2.1 (by omega) h1_ (fun z9_ => h2_ (by omega)) (fun m9_ hm9_ => hfn_ m9_ (by omega)) h5_
          · intro z9_
            by_cases n0_ : n_ = 0
            · have b9_ := rfn_b h3_; rcases h3_ with y9_ | ⟨-, p9_, t9_, y1_, -⟩; (have := y9_.2.1; rw [show n_.toNat = 0 by omega] at this; omega); (have := y1_.1; omega)
            · exact h2_ (by omega)
          · rw [show (n_ + 1).toNat = n_.toNat + 1 by omega]
            have h8_ : ∃ f9_, rfn n_.toNat n_.toNat (S_.2.2.1 172 0) (S0_.2.2.2 171 0) f9_ := by (rcases h3_ with z9_ | z9_; (refine ⟨0, Or.inl ⟨rfl, z9_.2.1, ?_⟩⟩; rw [show n_.toNat = m_.toNat by have := z9_.1; omega]; rw [show n_.toNat = m_.toNat by have := z9_.1; omega] at z9_; exact z9_.2.2); (exact ⟨1, Or.inr ⟨rfl, z9_.2⟩⟩))
            obtain ⟨f9_, h5_⟩ := h8_
            refine swl_s h4_ ?_
            rcases h5_ with ⟨-, z1_, z2_⟩ | ⟨-, z1_⟩
            · exact Or.inl ⟨z1_, fun p9_ hp9_ => z2_ p9_ hp9_.1 hp9_⟩
            · exact Or.inr z1_
          · (clear h3_; omega)
        · have cx2_ : ¬ (fd_ ≠ 0) := of_decide_eq_false cx2_
          have f0_ : fd_ = 0 := by omega
          obtain ⟨y1_, y2_⟩ : S_.2.2.1 172 0 n_.toNat = 2 * ((n_.toNat : Nat) : Int) ∧ ∀ p_, p_ < m_.toNat → sPn (S_.2.2.1 172 0) n_.toNat p_ → ∀ t_, tmk (-1) t_ → ¬ lik 64 (S0_.2.2.2 171 0) n_.toNat p_ t_ := by rcases h3_ with z9_ | z9_; exact z9_.2; (exfalso; have := z9_.1; omega)
          have sfb_ : 0 ≤ S_.2.2.1 172 0 n_.toNat ∧ S_.2.2.1 172 0 n_.toNat ≤ 2025 := by omega
          refine sm_T_go 3 (c1 := (37, [some (.inr (.inr (some (13, 0)))), some (.inl n_), some (.inl fd_), some (.inl m_), none], [.inl m_, .inr (.inr (some (172, 0)))], S_)) rfl ?_
          refine sm_T_iald (n := 2048) rfl rfl (by omega) (by omega) ?_
          have bx3_ : 0 ≤ S_.2.2.1 172 0 m_.toNat ∧ S_.2.2.1 172 0 m_.toNat ≤ 2025 := hI_.2 172 0 _
          refine sm_T_go 2 (c1 := (40, [some (.inr (.inr (some (13, 0)))), some (.inl n_), some (.inl fd_), some (.inl m_), none], [.inl m_, .inl 2, .inl (S_.2.2.1 172 0 m_.toNat)], S_)) rfl ?_
          refine sm_T_bin (w := 2 * m_) rfl (bi_mul (by omega) (by omega) (by omega)) ?_
          refine sm_T_br (a := 1) (z := 12) rfl (fun cx4_ => ?_) (fun cx4_ => ?_)
          · have cx4_ : (S_.2.2.1 172 0 m_.toNat) ≠ 2 * m_ := of_decide_eq_true cx4_
            refine sm_T_go 15 (c1 := (91, [some (.inr (.inr (some (13, 0)))), some (.inl n_), some (.inl 0), some (.inl m_), some (.inl 2)], [.inl n_, .inr (.inr (some (172, 0))), .inl n_, .inr (.inr (some (172, 0)))], S_)) rfl ?_
            refine sm_T_iald (n := 2048) rfl rfl (by omega) (by omega) ?_
            have bx5_ : 0 ≤ S_.2.2.1 172 0 n_.toNat ∧ S_.2.2.1 172 0 n_.toNat ≤ 2025 := hI_.2 172 0 _
            refine sm_T_iast (n := 2048) rfl rfl (by omega) (by omega) ?_
            have hIx6_ : gi (sm_aI S_ 172 0 n_.toNat (S_.2.2.1 172 0 n_.toNat)) := gi_aI hI_ (show 0 ≤ (S_.2.2.1 172 0 n_.toNat) ∧ (S_.2.2.1 172 0 n_.toNat) ≤ 2025 from ⟨by omega, by omega⟩)
            have hFx7_ : ai_fr (sx_W vw_354n) S0_ (sm_aI S_ 172 0 n_.toNat (S_.2.2.1 172 0 n_.toNat)) := ai_fr_tr hF_ (ai_fr_aI rfl)
            refine sm_T_inc (a := 3) (z := 1) (v := m_) (w := m_ + 1) rfl rfl (by omega) (by omega) (by omega) ?_
            refine sm_T_go 1 (c1 := (23, [some (.inr (.inr (some (13, 0)))), some (.inl n_), some (.inl 0), some (.inl (m_ + 1)), some (.inl 2)], [], sm_aI S_ 172 0 n_.toNat (S_.2.2.1 172 0 n_.toNat))) rfl ?_
            refine sm_T_wk [some (.inr (.inr (some (13, 0)))), some (.inl n_), some (.inl 0), some (.inl (m_ + 1)), none] (by exact ⟨rfl, rfl, rfl, rfl, trivial⟩) ?_
            refine ih_.2 n_ 0 (m_ + 1) (sm_aI S_ 172 0 n_.toNat (S_.2.2.1 172 0 n_.toNat)) hIx6_ hFx7_ ⟨?_, ?_, ?_, ?_, ?_, trivial⟩ ?_
            · (clear h3_; omega)
            · exact sw1_sf gl_ (by omega) h1_ (fun k9_ hk9_ => by rw [rd_eq, if_neg (by omega)])
            · (intro z9_; rw [rd_eq, if_neg (by omega)]; exact h2_ z9_)
            · exact swl_cg h4_ (by decide) (fun _ _ => rfl) (fun k9_ hk9_ => by rw [rd_eq, if_neg (by omega)])
            · have cg : ∀ k9_, k9_ < n_.toNat → ((sm_aI S_ 172 0 n_.toNat (S_.2.2.1 172 0 n_.toNat))).2.2.1 172 0 k9_ = S_.2.2.1 172 0 k9_ := fun k9_ hk9_ => by rw [rd_eq, if_neg (by omega)]
              have cn_ : ∀ w9_, w9_ < 64 → lcn (S0_.2.2.2 171 0 (64 * n_.toNat + w9_)) := rok_c (m_ := -1) (fun j9_ hj9_ => (hfn_ n_.toNat (by omega) j9_ hj9_).1)
              first   | (have c9_ : S_.2.2.1 172 0 m_.toNat ≠ 2 * m_ := (by omega); refine Or.inl ⟨rfl, by rw [rd_eq, if_pos rfl]; exact y1_, fun p9_ hp9_ hs9_ => ?_⟩; rw [sPn_sf cg] at hs9_; by_cases z9_ : p9_ = m_.toNat; (exfalso; have := hs9_.2; rw [z9_] at this; omega); exact y2_ p9_ (by omega) hs9_)   | (rcases e47_ with ⟨a9_, b9_⟩ | ⟨a9_, b9_⟩ | ⟨a9_, b9_, d9_⟩; (first | (exfalso; omega) | (refine Or.inr ⟨rfl, m_.toNat, 0, (sPn_sf cg).mpr ⟨by omega, by omega⟩, Or.inl rfl, lik_sy cn_ b9_, ?_⟩; rw [rd_eq, if_pos rfl, if_pos rfl]; omega)); (first | (exfalso; omega) | (refine Or.inr ⟨rfl, m_.toNat, -1, (sPn_sf cg).mpr ⟨by omega, by omega⟩, Or.inr rfl, lik_sy cn_ b9_, ?_⟩; rw [rd_eq, if_pos rfl, if_neg (by decide)]; omega)); (first | (exfalso; omega) | (refine Or.inl ⟨rfl, by rw [rd_eq, if_pos rfl]; exact y1_, fun p9_ hp9_ hs9_ => ?_⟩; rw [sPn_sf cg] at hs9_; by_cases z9_ : p9_ = m_.toNat; (intro t9_ u9_ v9_; rw [z9_] at v9_; have w9_ := lik_sy (rok_c (m_ := -1) (fun j9_ hj9_ => (hfn_ m_.toNat (by omega) j9_ hj9_).1)) v9_; rcases u9_ with q9_ | q9_; (rw [q9_] at w9_; exact b9_ w9_); (rw [q9_] at w9_; exact d9_ w9_)); exact y2_ p9_ (by omega) hs9_)))
            · (clear h3_; omega)
          · have cx4_ : ¬ ((S_.2.2.1 172 0 m_.toNat) ≠ 2 * m_) := of_decide_eq_false cx4_
            refine sm_T_go 3 (c1 := (47, [some (.inr (.inr (some (13, 0)))), some (.inl n_), some (.inl fd_), some (.inl m_), none], [.inl n_, .inl m_, .inr (.inr (some (13, 0)))], S_)) rfl ?_
            refine sm_T_cal (d1 := 0) (Q1 := vq_353 m_ n_ m_.toNat n_.toNat S_) rfl rfl (by decide) (vc_353 m_ n_ m_.toNat n_.toNat S_ hI_ (by omega) (by omega) (by (rw [f71_]; exact fun j9_ hj9_ => (hfn_ n_.toNat (by omega) j9_ hj9_).1))) (fun u_ Sx8_ px11_ => ?_)
            obtain ⟨rfl, vx13_, rfl, px11_⟩ := px11_
            have e47_ := px11_
            rw [f71_] at e47_
            refine sm_T_go 4 (c1 := (59, [some (.inr (.inr (some (13, 0)))), some (.inl n_), some (.inl fd_), some (.inl m_), some (.inl vx13_)], [.inl 2, .inl vx13_], S_)) rfl ?_
            refine sm_T_br (a := 3) (z := 7) rfl (fun cx14_ => ?_) (fun cx14_ => ?_)
            · have cx14_ : 2 ≤ vx13_ := of_decide_eq_true cx14_
              refine sm_T_go 10 (c1 := (91, [some (.inr (.inr (some (13, 0)))), some (.inl n_), some (.inl 0), some (.inl m_), some (.inl vx13_)], [.inl n_, .inr (.inr (some (172, 0))), .inl n_, .inr (.inr (some (172, 0)))], S_)) rfl ?_
              refine sm_T_iald (n := 2048) rfl rfl (by omega) (by omega) ?_
              have bx15_ : 0 ≤ S_.2.2.1 172 0 n_.toNat ∧ S_.2.2.1 172 0 n_.toNat ≤ 2025 := hI_.2 172 0 _
              refine sm_T_iast (n := 2048) rfl rfl (by omega) (by omega) ?_
              have hIx16_ : gi (sm_aI S_ 172 0 n_.toNat (S_.2.2.1 172 0 n_.toNat)) := gi_aI hI_ (show 0 ≤ (S_.2.2.1 172 0 n_.toNat) ∧ (S_.2.2.1 172 0 n_.toNat) ≤ 2025 from ⟨by omega, by omega⟩)
              have hFx17_ : ai_fr (sx_W vw_354n) S0_ (sm_aI S_ 172 0 n_.toNat (S_.2.2.1 172 0 n_.toNat)) := ai_fr_tr hF_ (ai_fr_aI rfl)
              refine sm_T_inc (a := 3) (z := 1) (v := m_) (w := m_ + 1) rfl rfl (by omega) (by omega) (by omega) ?_
              refine sm_T_go 1 (c1 := (23, [some (.inr (.inr (some (13, 0)))), some (.inl n_), some (.inl 0), some (.inl (m_ + 1)), some (.inl vx13_)], [], sm_aI S_ 172 0 n_.toNat (S_.2.2.1 172 0 n_.toNat))) rfl ?_
              refine sm_T_wk [some (.inr (.inr (some (13, 0)))), some (.inl n_), some (.inl 0), some (.inl (m_ + 1)), none] (by exact ⟨rfl, rfl, rfl, rfl, trivial⟩) ?_
              refine ih_.2 n_ 0 (m_ + 1) (sm_aI S_ 172 0 n_.toNat (S_.2.2.1 172 0 n_.toNat)) hIx16_ hFx17_ ⟨?_, ?_, ?_, ?_, ?_, trivial⟩ ?_
              · (clear h3_; omega)
              · exact sw1_sf gl_ (by omega) h1_ (fun k9_ hk9_ => by rw [rd_eq, if_neg (by omega)])
              · (intro z9_; rw [rd_eq, if_neg (by omega)]; exact h2_ z9_)
              · exact swl_cg h4_ (by decide) (fun _ _ => rfl) (fun k9_ hk9_ => by rw [rd_eq, if_neg (by omega)])
              · have cg : ∀ k9_, k9_ < n_.toNat → ((sm_aI S_ 172 0 n_.toNat (S_.2.2.1 172 0 n_.toNat))).2.2.1 172 0 k9_ = S_.2.2.1 172 0 k9_ := fun k9_ hk9_ => by rw [rd_eq, if_neg (by omega)]
                have cn_ : ∀ w9_, w9_ < 64 → lcn (S0_.2.2.2 171 0 (64 * n_.toNat + w9_)) := rok_c (m_ := -1) (fun j9_ hj9_ => (hfn_ n_.toNat (by omega) j9_ hj9_).1)
                first   | (have c9_ : S_.2.2.1 172 0 m_.toNat ≠ 2 * m_ := (by omega); refine Or.inl ⟨rfl, by rw [rd_eq, if_pos rfl]; exact y1_, fun p9_ hp9_ hs9_ => ?_⟩; rw [sPn_sf cg] at hs9_; by_cases z9_ : p9_ = m_.toNat; (exfalso; have := hs9_.2; rw [z9_] at this; omega); exact y2_ p9_ (by omega) hs9_)   | (rcases e47_ with ⟨a9_, b9_⟩ | ⟨a9_, b9_⟩ | ⟨a9_, b9_, d9_⟩; (first | (exfalso; omega) | (refine Or.inr ⟨rfl, m_.toNat, 0, (sPn_sf cg).mpr ⟨by omega, by omega⟩, Or.inl rfl, lik_sy cn_ b9_, ?_⟩; rw [rd_eq, if_pos rfl, if_pos rfl]; omega)); (first | (exfalso; omega) | (refine Or.inr ⟨rfl, m_.toNat, -1, (sPn_sf cg).mpr ⟨by omega, by omega⟩, Or.inr rfl, lik_sy cn_ b9_, ?_⟩; rw [rd_eq, if_pos rfl, if_neg (by decide)]; omega)); (first | (exfalso; omega) | (refine Or.inl ⟨rfl, by rw [rd_eq, if_pos rfl]; exact y1_, fun p9_ hp9_ hs9_ => ?_⟩; rw [sPn_sf cg] at hs9_; by_cases z9_ : p9_ = m_.toNat; (intro t9_ u9_ v9_; rw [z9_] at v9_; have w9_ := lik_sy (rok_c (m_ := -1) (fun j9_ hj9_ => (hfn_ m_.toNat (by omega) j9_ hj9_).1)) v9_; rcases u9_ with q9_ | q9_; (rw [q9_] at w9_; exact b9_ w9_); (rw [q9_] at w9_; exact d9_ w9_)); exact y2_ p9_ (by omega) hs9_)))
              · (clear h3_; omega)
            · have cx14_ : ¬ (2 ≤ vx13_) := of_decide_eq_false cx14_
              refine sm_T_go 10 (c1 := (79, [some (.inr (.inr (some (13, 0)))), some (.inl n_), some (.inl 1), some (.inl m_), some (.inl vx13_)], [.inl m_, .inl 2, .inl n_, .inr (.inr (some (172, 0)))], S_)) rfl ?_
              refine sm_T_bin (w := 2 * m_) rfl (bi_mul (by omega) (by omega) (by omega)) ?_
              refine sm_T_go 1 (c1 := (82, [some (.inr (.inr (some (13, 0)))), some (.inl n_), some (.inl 1), some (.inl m_), some (.inl vx13_)], [.inl vx13_, .inl (2 * m_), .inl n_, .inr (.inr (some (172, 0)))], S_)) rfl ?_
              refine sm_T_bin (w := 2 * m_ + vx13_) rfl (bi_add (by omega) (by omega) (by omega)) ?_
              refine sm_T_go 1 (c1 := (92, [some (.inr (.inr (some (13, 0)))), some (.inl n_), some (.inl 1), some (.inl m_), some (.inl vx13_)], [.inl (2 * m_ + vx13_), .inl n_, .inr (.inr (some (172, 0)))], S_)) rfl ?_
              refine sm_T_iast (n := 2048) rfl rfl (by omega) (by omega) ?_
              have hIx18_ : gi (sm_aI S_ 172 0 n_.toNat (2 * m_ + vx13_)) := gi_aI hI_ (show 0 ≤ 2 * m_ + vx13_ ∧ 2 * m_ + vx13_ ≤ 2025 from ⟨by omega, by omega⟩)
              have hFx19_ : ai_fr (sx_W vw_354n) S0_ (sm_aI S_ 172 0 n_.toNat (2 * m_ + vx13_)) := ai_fr_tr hF_ (ai_fr_aI rfl)
              refine sm_T_inc (a := 3) (z := 1) (v := m_) (w := m_ + 1) rfl rfl (by omega) (by omega) (by omega) ?_
              refine sm_T_go 1 (c1 := (23, [some (.inr (.inr (some (13, 0)))), some (.inl n_), some (.inl 1), some (.inl (m_ + 1)), some (.inl vx13_)], [], sm_aI S_ 172 0 n_.toNat (2 * m_ + vx13_))) rfl ?_
              refine sm_T_wk [some (.inr (.inr (some (13, 0)))), some (.inl n_), some (.inl 1), some (.inl (m_ + 1)), none] (by exact ⟨rfl, rfl, rfl, rfl, trivial⟩) ?_
              refine ih_.2 n_ 1 (m_ + 1) (sm_aI S_ 172 0 n_.toNat (2 * m_ + vx13_)) hIx18_ hFx19_ ⟨?_, ?_, ?_, ?_, ?_, trivial⟩ ?_
              · (clear h3_; omega)
              · exact sw1_sf gl_ (by omega) h1_ (fun k9_ hk9_ => by rw [rd_eq, if_neg (by omega)])
              · (intro z9_; rw [rd_eq, if_neg (by omega)]; exact h2_ z9_)
              · exact swl_cg h4_ (by decide) (fun _ _ => rfl) (fun k9_ hk9_ => by rw [rd_eq, if_neg (by omega)])
              · have cg : ∀ k9_, k9_ < n_.toNat → ((sm_aI S_ 172 0 n_.toNat (2 * m_ + vx13_))).2.2.1 172 0 k9_ = S_.2.2.1 172 0 k9_ := fun k9_ hk9_ => by rw [rd_eq, if_neg (by omega)]
                have cn_ : ∀ w9_, w9_ < 64 → lcn (S0_.2.2.2 171 0 (64 * n_.toNat + w9_)) := rok_c (m_ := -1) (fun j9_ hj9_ => (hfn_ n_.toNat (by omega) j9_ hj9_).1)
                first   | (have c9_ : S_.2.2.1 172 0 m_.toNat ≠ 2 * m_ := (by omega); refine Or.inl ⟨rfl, by rw [rd_eq, if_pos rfl]; exact y1_, fun p9_ hp9_ hs9_ => ?_⟩; rw [sPn_sf cg] at hs9_; by_cases z9_ : p9_ = m_.toNat; (exfalso; have := hs9_.2; rw [z9_] at this; omega); exact y2_ p9_ (by omega) hs9_)   | (rcases e47_ with ⟨a9_, b9_⟩ | ⟨a9_, b9_⟩ | ⟨a9_, b9_, d9_⟩; (first | (exfalso; omega) | (refine Or.inr ⟨rfl, m_.toNat, 0, (sPn_sf cg).mpr ⟨by omega, by omega⟩, Or.inl rfl, lik_sy cn_ b9_, ?_⟩; rw [rd_eq, if_pos rfl, if_pos rfl]; omega)); (first | (exfalso; omega) | (refine Or.inr ⟨rfl, m_.toNat, -1, (sPn_sf cg).mpr ⟨by omega, by omega⟩, Or.inr rfl, lik_sy cn_ b9_, ?_⟩; rw [rd_eq, if_pos rfl, if_neg (by decide)]; omega)); (first | (exfalso; omega) | (refine Or.inl ⟨rfl, by rw [rd_eq, if_pos rfl]; exact y1_, fun p9_ hp9_ hs9_ => ?_⟩; rw [sPn_sf cg] at hs9_; by_cases z9_ : p9_ = m_.toNat; (intro t9_ u9_ v9_; rw [z9_] at v9_; have w9_ := lik_sy (rok_c (m_ := -1) (fun j9_ hj9_ => (hfn_ m_.toNat (by omega) j9_ hj9_).1)) v9_; rcases u9_ with q9_ | q9_; (rw [q9_] at w9_; exact b9_ w9_); (rw [q9_] at w9_; exact d9_ w9_)); exact y2_ p9_ (by omega) hs9_)))
              · (clear h3_; omega)
set_option maxHeartbeats 3000000 in
theorem vc_354n {sc_ : Nat × (Nat → Int)} (F_ : Nat) (S0_ : sm_S) (hI_ : gi S0_) (hg_ : rgr F_ S0_) (hfn_ : ∀ m9_ : Nat, (m9_ : Int) < S0_.1 13 0 37 → srw F_ m9_ 64 (-1) (S0_.2.2.1 140 0) (S0_.2.2.1 141 0) (S0_.2.2.2 171 0)) : sm_T (mt_P sc_) 1 354 (0, [some (.inr (.inr (some (13, 0)))), none, none, none, none], [], S0_) (fun ro9_ => ∃ u_ S1_, ro9_ = (.inl u_, S1_, 0) ∧ vq_354n F_ S0_ u_ S1_) := by
  have hF_ : ai_fr (sx_W vw_354n) S0_ S0_ := ai_fr_rf
  refine sm_T_go 2 (c1 := (2, [some (.inr (.inr (some (13, 0)))), some (.inl 0), none, none, none], [], S0_)) rfl ?_
  refine (vl_354n F_ S0_ hg_ hfn_ _).1 0 S0_ hI_ hF_ ⟨?_, ?_, ?_, ?_, trivial⟩ (Nat.lt_succ_self _)
  · (have g1_ := hg_.1; have g2_ := hg_.2.1; omega)
  · (intro m9_ hm9_; exact absurd hm9_ (Nat.not_lt_zero _))
  · (intro z9_; exact absurd z9_ (by decide))
  · exact swl_0
end
/-! 99.ztW0 -/
section
/-! patterns as numbers; written by wip/p55/gen/vg -/

/-! patterns as_ numbers -/
theorem pw_nn {k_ : Nat} : ((2 ^ k_ : Nat) : Int) = (2 : Int) ^ k_ := by push_cast; rfl
/-! outputs, then next values -/
def rto (O_ : Nat) (ro_ rn_ : Nat → Int) (j_ : Nat) : Int := if j_ < O_ then ro_ j_ else rn_ (j_ - O_)
end
/-! 99.ztW1 -/
section
/-! bits and tables; written by wip/p55/gen/vg -/

/-! bits of_ words, tables -/
theorem lbs_k1 : ∀ i_ : Fin 64, (((Int32.ofInt ((i_ : Nat) : Int)).toInt64 &&& 63).toBitVec.smod 64).toNat = (i_ : Nat) := by decide +kernel
theorem lbs_k2 : ∀ i_ : Fin 64, (((Int32.ofInt ((i_ : Nat) : Int)).toInt64.toUInt64 &&& Int64.toUInt64 63).toBitVec % 64).toNat = (i_ : Nat) := by decide +kernel
theorem lbt_s1 {x_ : Int} {i_ : Nat} (hi_ : i_ < 64) : lbt (l_s1 x_ (i_ : Int)) 0 = lbt x_ i_ := by
  have k_ : (((Int32.ofInt (i_ : Int)).toInt64 &&& 63).toBitVec.smod 64).toNat = i_ := lbs_k1 ⟨i_, hi_⟩
  unfold lbt l_s1
  rw [Int64.ofInt_toInt]
  rw [Int64.toBitVec_shiftRight, BitVec.getLsbD_sshiftRight', k_]
  simp [hi_]
theorem lbt_s2 {x_ : Int} {i_ : Nat} (hi_ : i_ < 64) : lbt (l_s2 x_ (i_ : Int)) 0 = lbt x_ i_ := by
  have k_ : (((Int32.ofInt (i_ : Int)).toInt64.toUInt64 &&& Int64.toUInt64 63).toBitVec % 64).toNat = i_ := lbs_k2 ⟨i_, hi_⟩
  unfold lbt l_s2
  rw [Int64.ofInt_toInt]
  have e_ : (((Int64.ofInt x_).toUInt64 >>> ((Int32.ofInt (i_ : Int)).toInt64.toUInt64 &&& Int64.toUInt64 63)).toInt64).toBitVec = (Int64.ofInt x_).toBitVec >>> (((Int32.ofInt (i_ : Int)).toInt64.toUInt64 &&& Int64.toUInt64 63).toBitVec % 64).toNat := by
    first
      | exact UInt64.toBitVec_shiftRight _ _
      | rfl
  rw [e_, k_, BitVec.getLsbD_ushiftRight]
  simp
theorem lbt_1 : lbt 1 0 = true := by decide +kernel
theorem bitv {y_ : Int} : l_l2i (l_3 y_ 1) = if lbt y_ 0 = true then 1 else 0 := by
  have e_ : l_3 y_ 1 = (Int64.ofInt y_ &&& 1).toInt := rfl
  have b_ := lbt_3 (x_ := y_) (y_ := 1) (i_ := 0)
  rcases i64_1 (Int64.ofInt y_) with z_ | z_
  · have h0_ : l_3 y_ 1 = 0 := by rw [e_, z_]; rfl
    rw [h0_, lbt_0, lbt_1, Bool.and_true] at b_
    rw [h0_, if_neg (by rw [← b_]; decide)]
    decide
  · have h1_ : l_3 y_ 1 = 1 := by rw [e_, z_]; rfl
    rw [h1_, lbt_1, Bool.and_true] at b_
    rw [h1_, if_pos b_.symm]
    decide
theorem bit_1 {R_ : Nat → Int} {l_ p_ : Int} (hp_ : 0 ≤ p_) : l_l2i (l_3 (l_s1 (wlt R_ l_ (p_ / 64).toNat) (p_ % 64)) 1) = if ltv (pvl R_) l_ p_.toNat = true then 1 else 0 := by
  obtain ⟨q_, rfl⟩ : ∃ q_ : Nat, p_ = (q_ : Int) := ⟨p_.toNat, by omega⟩
  rw [bitv, show ((q_ : Int) % 64) = ((q_ % 64 : Nat) : Int) by omega, show ((q_ : Int) / 64).toNat = q_ / 64 by omega, lbt_s1 (Nat.mod_lt _ (by decide)), wlt_b, Int.toNat_natCast]
theorem bit_2 {R_ : Nat → Int} {l_ p_ : Int} (hp_ : 0 ≤ p_) : l_l2i (l_3 (l_s2 (wlt R_ l_ (p_ / 64).toNat) (p_ % 64)) 1) = if ltv (pvl R_) l_ p_.toNat = true then 1 else 0 := by
  obtain ⟨q_, rfl⟩ : ∃ q_ : Nat, p_ = (q_ : Int) := ⟨p_.toNat, by omega⟩
  rw [bitv, show ((q_ : Int) % 64) = ((q_ % 64 : Nat) : Int) by omega, show ((q_ : Int) / 64).toNat = q_ / 64 by omega, lbt_s2 (Nat.mod_lt _ (by decide)), wlt_b, Int.toNat_natCast]
/-- a_ number out_ of_ its_ bits -/
def tbv (f_ : Nat → Bool) : Nat → Int
  | 0 => 0
  | k_ + 1 => tbv f_ k_ + (if f_ k_ = true then 2 ^ k_ else 0)
theorem tbv_s {f_ : Nat → Bool} {k_ : Nat} : tbv f_ (k_ + 1) = tbv f_ k_ + (if f_ k_ = true then 2 ^ k_ else 0) := rfl
theorem tbv_b {f_ : Nat → Bool} : ∀ k_ : Nat, 0 ≤ tbv f_ k_ ∧ tbv f_ k_ < 2 ^ k_
  | 0 => ⟨Int.le_refl _, by show (0 : Int) < 2 ^ 0; decide⟩
  | k_ + 1 => by
    have h_ := tbv_b (f_ := f_) k_
    have p_ := pw_pos k_
    rw [tbv_s, pw_add]
    split <;> omega
theorem tbv_cg {f_ g_ : Nat → Bool} : ∀ k_ : Nat, (∀ j_, j_ < k_ → f_ j_ = g_ j_) → tbv f_ k_ = tbv g_ k_
  | 0, _ => rfl
  | k_ + 1, h_ => by
    rw [tbv_s, tbv_s, tbv_cg k_ (fun j_ hj_ => h_ j_ (by omega)), h_ k_ (Nat.lt_succ_self k_)]
/-- one_ bit_ more -/
theorem tbv_or {f_ : Nat → Bool} {k_ : Nat} (hk_ : k_ ≤ 21) : i_or (tbv f_ k_) (i_shl (if f_ k_ = true then 1 else 0) (k_ : Int)) = tbv f_ (k_ + 1) := by
  have b_ := tbv_b (f_ := f_) k_
  have p_ := pw_pos k_
  have l_ := pw_le (n := k_) (m := 21) hk_
  have l_ : (2 : Int) ^ k_ ≤ 2097152 := l_
  by_cases c_ : f_ k_ = true
  · rw [tbv_s, if_pos c_, if_pos c_, i_shlv (by omega) (by omega) (by decide) (by rw [Int.toNat_natCast]; omega), Int.toNat_natCast, Int.one_mul]
    exact i_or_lo b_.1 b_.2 (by omega) (by omega) (Int.dvd_refl _)
  · rw [tbv_s, if_neg c_, if_neg c_, i_shlv (by omega) (by omega) (by decide) (by rw [Int.zero_mul]; decide), Int.zero_mul]
    exact i_or_lo b_.1 b_.2 (by decide) (by omega) (Int.dvd_zero _)
/-- where a_ root's bit_ stands in the_ class's table -/
def sht (o_ k_ : Nat) : Nat := if k_ < o_ then k_ else 16 + (k_ - o_)
def tbw (o_ : Nat) (f_ : Nat → Bool) : Nat → Int
  | 0 => 0
  | k_ + 1 => tbw o_ f_ k_ + (if f_ k_ = true then 2 ^ sht o_ k_ else 0)
theorem tbw_s {o_ k_ : Nat} {f_ : Nat → Bool} : tbw o_ f_ (k_ + 1) = tbw o_ f_ k_ + (if f_ k_ = true then 2 ^ sht o_ k_ else 0) := rfl
theorem sht_s {o_ k_ : Nat} (ho_ : o_ ≤ 16) : sht o_ k_ + 1 ≤ sht o_ (k_ + 1) := by
  unfold sht
  split <;> split <;> omega
theorem tbw_b {o_ : Nat} {f_ : Nat → Bool} (ho_ : o_ ≤ 16) : ∀ k_ : Nat, 0 ≤ tbw o_ f_ k_ ∧ tbw o_ f_ k_ < 2 ^ sht o_ k_
  | 0 => ⟨Int.le_refl _, pw_pos _⟩
  | k_ + 1 => by
    have h_ := tbw_b (f_ := f_) ho_ k_
    have p_ := pw_pos (sht o_ k_)
    have l_ := pw_le (n := sht o_ k_ + 1) (m := sht o_ (k_ + 1)) (sht_s ho_)
    rw [pw_add] at l_
    rw [tbw_s]
    split <;> omega
theorem tbw_or {o_ k_ : Nat} {f_ : Nat → Bool} (ho_ : o_ ≤ 16) (hk_ : sht o_ k_ ≤ 21) : i_or (tbw o_ f_ k_) (i_shl (if f_ k_ = true then 1 else 0) (sht o_ k_ : Int)) = tbw o_ f_ (k_ + 1) := by
  have b_ := tbw_b (f_ := f_) ho_ k_
  have p_ := pw_pos (sht o_ k_)
  have l_ := pw_le (n := sht o_ k_) (m := 21) hk_
  have l_ : (2 : Int) ^ sht o_ k_ ≤ 2097152 := l_
  by_cases c_ : f_ k_ = true
  · rw [tbw_s, if_pos c_, if_pos c_, i_shlv (by omega) (by omega) (by decide) (by rw [Int.toNat_natCast]; omega), Int.toNat_natCast, Int.one_mul]
    exact i_or_lo b_.1 b_.2 (by omega) (by omega) (Int.dvd_refl _)
  · rw [tbw_s, if_neg c_, if_neg c_, i_shlv (by omega) (by omega) (by decide) (by rw [Int.zero_mul]; decide), Int.zero_mul]
    exact i_or_lo b_.1 b_.2 (by decide) (by omega) (Int.dvd_zero _)
theorem tbw_o {o_ : Nat} {f_ : Nat → Bool} : ∀ k_ : Nat, k_ ≤ o_ → tbw o_ f_ k_ = tbv f_ k_
  | 0, _ => rfl
  | k_ + 1, h_ => by
    have e_ : sht o_ k_ = k_ := by
      unfold sht
      exact if_pos (by omega)
    rw [tbw_s, tbv_s, tbw_o k_ (by omega), e_]
theorem tbw_n {o_ : Nat} {f_ : Nat → Bool} : ∀ r_ : Nat, tbw o_ f_ (o_ + r_) = tbv f_ o_ + 65536 * tbv (fun j_ => f_ (o_ + j_)) r_
  | 0 => by
    rw [Nat.add_zero, tbw_o o_ (Nat.le_refl _)]
    show tbv f_ o_ = tbv f_ o_ + 65536 * 0
    omega
  | r_ + 1 => by
    have e_ : sht o_ (o_ + r_) = 16 + r_ := by
      unfold sht
      rw [if_neg (by omega)]
      omega
    rw [← Nat.add_assoc, tbw_s, tbw_n r_, tbv_s, e_, Int.pow_add, show (2 : Int) ^ 16 = 65536 from rfl]
    by_cases c_ : f_ (o_ + r_) = true
    · rw [if_pos c_, if_pos c_]
      omega
    · rw [if_neg c_, if_neg c_]
      omega
theorem sht_b {o_ k_ r_ : Nat} (ho_ : o_ ≤ 16) (hr_ : r_ ≤ 6) (hk_ : k_ < o_ + r_) : sht o_ k_ ≤ 21 := by
  unfold sht
  split <;> omega
/-- a_ design's table: what it_ holds for_ each pattern -/
def dtw (F_ N_ o_ R_ : Nat) (lo_ hi_ ro_ rn_ to_ tn_ : Nat → Int) : Prop := ∃ (P_ : Nat) (v_ : Nat → Nat → Bool), 2 ^ (F_ - 1) ≤ P_ ∧ nvr F_ N_ P_ lo_ hi_ v_ ∧ ∀ p_, p_ < 2 ^ (F_ - 1) → to_ p_ = tbv (fun k_ => ltv v_ (ro_ k_) p_) o_ ∧ tn_ p_ = tbv (fun k_ => ltv v_ (rn_ k_) p_) R_
theorem dtw_u {F_ N_ o_ R_ : Nat} {lo_ hi_ ro_ rn_ to_ tn_ lo'_ hi'_ ro'_ rn'_ to'_ tn'_ : Nat → Int} (hg_ : glo F_ N_ lo_ hi_) (e_ : ∀ n_, F_ ≤ n_ → n_ < N_ → lo'_ n_ = lo_ n_ ∧ hi'_ n_ = hi_ n_) (e1_ : ∀ k_, k_ < o_ → ro'_ k_ = ro_ k_ ∧ 0 ≤ ro_ k_ ∧ ro_ k_ < 2 * (N_ : Int)) (e2_ : ∀ k_, k_ < R_ → rn'_ k_ = rn_ k_ ∧ 0 ≤ rn_ k_ ∧ rn_ k_ < 2 * (N_ : Int)) (h_ : dtw F_ N_ o_ R_ lo_ hi_ ro_ rn_ to_ tn_) (g_ : dtw F_ N_ o_ R_ lo'_ hi'_ ro'_ rn'_ to'_ tn'_) : ∀ p_, p_ < 2 ^ (F_ - 1) → to_ p_ = to'_ p_ ∧ tn_ p_ = tn'_ p_ := by
  obtain ⟨P_, v_, p1_, h1_, h2_⟩ := h_
  obtain ⟨Q_, u_, q1_, g1_, g2_⟩ := g_
  intro p_ hp_
  have vu_ : ∀ n_, n_ < N_ → v_ n_ p_ = u_ n_ p_ := fun n_ hn_ => nvr_u hg_ e_ h1_ g1_ (n_ + 1) n_ (Nat.lt_succ_self n_) hn_ p_ (by omega) (by omega)
  rw [(h2_ p_ hp_).1, (h2_ p_ hp_).2, (g2_ p_ hp_).1, (g2_ p_ hp_).2]
  refine ⟨tbv_cg o_ (fun k_ hk_ => ?_), tbv_cg R_ (fun k_ hk_ => ?_)⟩
  · have x_ := e1_ k_ hk_
    show ltv v_ (ro_ k_) p_ = ltv u_ (ro'_ k_) p_
    rw [x_.1]
    exact ltv_cg (vu_ _ (by omega))
  · have x_ := e2_ k_ hk_
    show ltv v_ (rn_ k_) p_ = ltv u_ (rn'_ k_) p_
    rw [x_.1]
    exact ltv_cg (vu_ _ (by omega))
theorem dtw_cg {F_ N_ o_ R_ : Nat} {lo_ hi_ ro_ rn_ to_ tn_ lo'_ hi'_ ro'_ rn'_ to'_ tn'_ : Nat → Int} (h_ : dtw F_ N_ o_ R_ lo_ hi_ ro_ rn_ to_ tn_) (e_ : ∀ k_, k_ < N_ → lo'_ k_ = lo_ k_ ∧ hi'_ k_ = hi_ k_) (e1_ : ∀ k_, k_ < o_ → ro'_ k_ = ro_ k_) (e2_ : ∀ k_, k_ < R_ → rn'_ k_ = rn_ k_) (e3_ : ∀ p_, p_ < 2 ^ (F_ - 1) → to'_ p_ = to_ p_ ∧ tn'_ p_ = tn_ p_) : dtw F_ N_ o_ R_ lo'_ hi'_ ro'_ rn'_ to'_ tn'_ := by
  obtain ⟨P_, v_, p1_, h1_, h2_⟩ := h_
  refine ⟨P_, v_, p1_, fun q_ hq_ => ?_, fun p_ hp_ => ?_⟩
  · obtain ⟨a1_, a2_, a3_⟩ := h1_ q_ hq_
    refine ⟨a1_, a2_, fun n_ x_ y_ => ?_⟩
    rw [(e_ n_ y_).1, (e_ n_ y_).2]
    exact a3_ n_ x_ y_
  · rw [(e3_ p_ hp_).1, (e3_ p_ hp_).2, (h2_ p_ hp_).1, (h2_ p_ hp_).2]
    exact ⟨tbv_cg o_ (fun k_ hk_ => by show ltv v_ (ro_ k_) p_ = ltv v_ (ro'_ k_) p_; rw [e1_ k_ hk_]), tbv_cg R_ (fun k_ hk_ => by show ltv v_ (rn_ k_) p_ = ltv v_ (rn'_ k_) p_; rw [e2_ k_ hk_])⟩
end
/-! 99.ztW2 -/
section
/-! the class: tables, with their meaning; written by wip/p55/gen/vg -/

/-- the_ class's table -/
def dct (dd_ F_ : Nat) (S_ : sm_S) : Prop := dtw F_ (S_.1 3 dd_ 4).toNat (S_.1 3 dd_ 3).toNat (S_.1 3 dd_ 2).toNat (S_.2.2.1 42 (0 + dd_)) (S_.2.2.1 43 (0 + dd_)) (S_.2.2.1 45 (0 + dd_)) (S_.2.2.1 46 (0 + dd_)) (fun p_ => S_.2.2.1 47 (0 + dd_) p_ % 65536) (fun p_ => S_.2.2.1 47 (0 + dd_) p_ / 65536)
theorem dct_fr {w_ : sx_Wl} {dd_ F_ : Nat} {S_ S'_ : sm_S} (h_ : dct dd_ F_ S_) (g_ : ai_fr (sx_W w_) S_ S'_) (h1_ : (sx_W w_).1 3 4 = false := by rfl) (h2_ : (sx_W w_).1 3 3 = false := by rfl) (h3_ : (sx_W w_).1 3 2 = false := by rfl) (h4_ : (sx_W w_).2.1 42 = false := by rfl) (h5_ : (sx_W w_).2.1 43 = false := by rfl) (h6_ : (sx_W w_).2.1 45 = false := by rfl) (h7_ : (sx_W w_).2.1 46 = false := by rfl) (h8_ : (sx_W w_).2.1 47 = false := by rfl) : dct dd_ F_ S'_ := by
  unfold dct
  rw [g_.1 3 dd_ 4 h1_, g_.1 3 dd_ 3 h2_, g_.1 3 dd_ 2 h3_, fr_arr (t := 42) g_ h4_, fr_arr (t := 43) g_ h5_, fr_arr (t := 45) g_ h6_, fr_arr (t := 46) g_ h7_, fr_arr (t := 47) g_ h8_]
  exact h_
/-- the_ table as_ far_ as_ it_ is_ filled -/
def ftw (o_ : Nat) (R_ : Nat → Int) (rt_ : Int → Int) (k_ q_ : Nat) : Int := tbw o_ (fun j_ => ltv (pvl R_) (rt_ (j_ : Int)) q_) k_
theorem ftw_or {o_ k_ q_ : Nat} {R_ : Nat → Int} {rt_ : Int → Int} {b_ : Int} (ho_ : o_ ≤ 16) (hk_ : sht o_ k_ ≤ 21) (hb_ : b_ = if ltv (pvl R_) (rt_ (k_ : Int)) q_ = true then 1 else 0) : i_or (ftw o_ R_ rt_ k_ q_) (i_shl b_ (sht o_ k_ : Int)) = ftw o_ R_ rt_ (k_ + 1) q_ := by
  rw [hb_]
  exact tbw_or (f_ := fun j_ => ltv (pvl R_) (rt_ (j_ : Int)) q_) ho_ hk_
theorem dct_of {w_ : sx_Wl} {dd_ F_ : Nat} {S_ S'_ : sm_S} (hF_ : 1 ≤ F_ ∧ F_ ≤ 13) (hFe_ : (F_ : Int) = 1 + S_.1 3 dd_ 1 + S_.1 3 dd_ 2) (hR_ : 0 ≤ S_.1 3 dd_ 1 ∧ 0 ≤ S_.1 3 dd_ 2) (ho_ : 0 ≤ S_.1 3 dd_ 3 ∧ S_.1 3 dd_ 3 ≤ 16) (hq_ : swq dd_ F_ S_) (g_ : ai_fr (sx_W w_) S_ S'_) (ht_ : ∀ q9_ : Nat, (q9_ : Int) < 2 ^ (S_.1 3 dd_ 1 + S_.1 3 dd_ 2).toNat → S'_.2.2.1 47 (0 + dd_) q9_ = ftw (S_.1 3 dd_ 3).toNat (S_.2.2.2 32 0) (rtv dd_ S_) ((S_.1 3 dd_ 3).toNat + (S_.1 3 dd_ 2).toNat) q9_) (h1_ : (sx_W w_).1 3 4 = false := by rfl) (h2_ : (sx_W w_).1 3 3 = false := by rfl) (h3_ : (sx_W w_).1 3 2 = false := by rfl) (h4_ : (sx_W w_).2.1 42 = false := by rfl) (h5_ : (sx_W w_).2.1 43 = false := by rfl) (h6_ : (sx_W w_).2.1 45 = false := by rfl) (h7_ : (sx_W w_).2.1 46 = false := by rfl) : dct dd_ F_ S'_ := by
  obtain ⟨W_, mk_, w1_, w2_, w3_, w4_⟩ := hq_
  unfold dct
  rw [g_.1 3 dd_ 4 h1_, g_.1 3 dd_ 3 h2_, g_.1 3 dd_ 2 h3_, fr_arr (t := 42) g_ h4_, fr_arr (t := 43) g_ h5_, fr_arr (t := 45) g_ h6_, fr_arr (t := 46) g_ h7_]
  have wm_ : wmk ((F_ - 1 : Nat) : Int) W_ mk_ := by
    rw [show ((F_ - 1 : Nat) : Int) = (F_ : Int) - 1 by omega]
    exact w1_
  obtain ⟨o_, eo_⟩ : ∃ o_, o_ = (S_.1 3 dd_ 3).toNat := ⟨_, rfl⟩
  obtain ⟨r_, er⟩ : ∃ r_, r_ = (S_.1 3 dd_ 2).toNat := ⟨_, rfl⟩
  rw [← eo_, ← er] at ht_ ⊢
  refine ⟨2 ^ (F_ - 1), pvl (S_.2.2.2 32 0), Nat.le_refl _, nvr_of w3_ wm_ hF_.2, fun p_ hp_ => ?_⟩
  have pn_ : ((2 ^ (F_ - 1) : Nat) : Int) = (2 : Int) ^ (F_ - 1) := by push_cast; rfl
  have e_ := ht_ p_ (by rw [show (S_.1 3 dd_ 1 + S_.1 3 dd_ 2).toNat = F_ - 1 by omega]; omega)
  have n_ := tbw_n (o_ := o_) (f_ := fun j_ => ltv (pvl (S_.2.2.2 32 0)) (rtv dd_ S_ (j_ : Int)) p_) r_
  have e_ : S'_.2.2.1 47 (0 + dd_) p_ = _ := e_.trans n_
  have b_ := tbv_b (f_ := fun j_ => ltv (pvl (S_.2.2.2 32 0)) (rtv dd_ S_ (j_ : Int)) p_) o_
  have l_ := pw_le (n := o_) (m := 16) (by omega)
  have l_ : (2 : Int) ^ o_ ≤ 65536 := l_
  have c1_ : tbv (fun j_ => ltv (pvl (S_.2.2.2 32 0)) (rtv dd_ S_ (j_ : Int)) p_) o_ = tbv (fun k_ => ltv (pvl (S_.2.2.2 32 0)) (S_.2.2.1 45 (0 + dd_) k_) p_) o_ := tbv_cg o_ (fun j_ hj_ => by
    show ltv _ (rtv dd_ S_ (j_ : Int)) p_ = ltv _ (S_.2.2.1 45 (0 + dd_) j_) p_
    unfold rtv
    rw [if_pos (by omega), Int.toNat_natCast])
  have c2_ : tbv (fun j_ => (fun j_ => ltv (pvl (S_.2.2.2 32 0)) (rtv dd_ S_ (j_ : Int)) p_) (o_ + j_)) r_ = tbv (fun k_ => ltv (pvl (S_.2.2.2 32 0)) (S_.2.2.1 46 (0 + dd_) k_) p_) r_ := tbv_cg r_ (fun j_ hj_ => by
    show ltv _ (rtv dd_ S_ ((o_ + j_ : Nat) : Int)) p_ = ltv _ (S_.2.2.1 46 (0 + dd_) j_) p_
    unfold rtv
    rw [if_neg (by omega), show (((o_ + j_ : Nat) : Int) - S_.1 3 dd_ 3).toNat = j_ by omega])
  show S'_.2.2.1 47 (0 + dd_) p_ % 65536 = _ ∧ S'_.2.2.1 47 (0 + dd_) p_ / 65536 = _
  rw [← c1_, ← c2_, e_]
  have fn_ : ∀ x_ y_ : Int, 0 ≤ x_ → x_ < 65536 → (x_ + 65536 * y_) % 65536 = x_ ∧ (x_ + 65536 * y_) / 65536 = y_ := fun x_ y_ h1_ h2_ => by omega
  exact fn_ _ _ b_.1 (by omega)

/-! Builder.fillTable -/
def vw_51n : sx_Wl := ([], [47], [])
def vq_51n (dd_ : Nat) (F_ : Nat) (S0_ : sm_S) (u_ : Option sm_V) (S1_ : sm_S) : Prop := u_ = none ∧ gi S1_ ∧ ai_fr (sx_W vw_51n) S0_ S1_ ∧ (idf dd_ S0_ S1_ ∧ (dtb dd_ S1_ ∧ ∀ q9_ : Nat, (q9_ : Int) < 2 ^ (S0_.1 3 dd_ 1 + S0_.1 3 dd_ 2).toNat → S1_.2.2.1 47 (0 + dd_) q9_ = ftw (S0_.1 3 dd_ 3).toNat (S0_.2.2.2 32 0) (rtv dd_ S0_) ((S0_.1 3 dd_ 3).toNat + (S0_.1 3 dd_ 2).toNat) q9_))
set_option maxHeartbeats 1000000 in
theorem vl_51n {sc_ : Nat × (Nat → Int)} (dd_ : Nat) (F_ : Nat) (S0_ : sm_S) (hd_ : S0_.2.1 1 0 1 = some dd_) (hg_ : dgr dd_ F_ S0_) (hr_ : drt dd_ S0_) : ∀ nn_ : Nat, (∀ (pt_ : Int) (k_ : Int) (S_ : sm_S), gi S_ → ai_fr (sx_W vw_51n) S0_ S_ → ((0 ≤ k_ ∧ k_ ≤ S0_.1 3 dd_ 3 + S0_.1 3 dd_ 2 ∧ 0 ≤ pt_ ∧ pt_ ≤ 4096) ∧ (∀ p9_ : Nat, p9_ < 4096 → 0 ≤ S_.2.2.1 47 (0 + dd_) p9_ ∧ S_.2.2.1 47 (0 + dd_) p9_ < 2 ^ (16 + (S0_.1 3 dd_ 2).toNat)) ∧ (pt_ = 2 ^ (S0_.1 3 dd_ 1 + S0_.1 3 dd_ 2).toNat) ∧ (∀ q9_ : Nat, (q9_ : Int) < pt_ → S_.2.2.1 47 (0 + dd_) q9_ = ftw (S0_.1 3 dd_ 3).toNat (S0_.2.2.2 32 0) (rtv dd_ S0_) k_.toNat q9_) ∧ (idf dd_ S0_ S_) ∧ True) → ((10000 * (100 - k_) + 5000).toNat) < nn_ → sm_T (mt_P sc_) 1 51 (31, [some (.inr (.inr (some (1, 0)))), some (.inl pt_), some (.inl k_), none, none, none], [], S_) (fun ro9_ => ∃ u_ S1_, ro9_ = (.inl u_, S1_, 0) ∧ vq_51n dd_ F_ S0_ u_ S1_)) ∧ (∀ (pt_ : Int) (k_ : Int) (l_ : Int) (sh_ : Int) (p_ : Int) (S_ : sm_S), gi S_ → ai_fr (sx_W vw_51n) S0_ S_ → ((0 ≤ k_ ∧ k_ < S0_.1 3 dd_ 3 + S0_.1 3 dd_ 2 ∧ 0 ≤ pt_ ∧ pt_ ≤ 4096 ∧ 0 ≤ p_ ∧ p_ ≤ pt_ ∧ 0 ≤ l_ ∧ l_ ≤ 2025 ∧ 0 ≤ sh_ ∧ sh_ < 16 + S0_.1 3 dd_ 2) ∧ (∀ p9_ : Nat, p9_ < 4096 → 0 ≤ S_.2.2.1 47 (0 + dd_) p9_ ∧ S_.2.2.1 47 (0 + dd_) p9_ < 2 ^ (16 + (S0_.1 3 dd_ 2).toNat)) ∧ (pt_ = 2 ^ (S0_.1 3 dd_ 1 + S0_.1 3 dd_ 2).toNat) ∧ (l_ = rtv dd_ S0_ ((k_.toNat : Nat) : Int) ∧ sh_ = (sht (S0_.1 3 dd_ 3).toNat k_.toNat : Int)) ∧ (∀ q9_ : Nat, (q9_ : Int) < pt_ → S_.2.2.1 47 (0 + dd_) q9_ = if (q9_ : Int) < p_ then ftw (S0_.1 3 dd_ 3).toNat (S0_.2.2.2 32 0) (rtv dd_ S0_) (k_.toNat + 1) q9_ else ftw (S0_.1 3 dd_ 3).toNat (S0_.2.2.2 32 0) (rtv dd_ S0_) k_.toNat q9_) ∧ (idf dd_ S0_ S_) ∧ True) → ((10000 * (100 - k_) + 4500 - p_).toNat) < nn_ → sm_T (mt_P sc_) 1 51 (83, [some (.inr (.inr (some (1, 0)))), some (.inl pt_), some (.inl k_), some (.inl l_), some (.inl sh_), some (.inl p_)], [], S_) (fun ro9_ => ∃ u_ S1_, ro9_ = (.inl u_, S1_, 0) ∧ vq_51n dd_ F_ S0_ u_ S1_)) := by
  intro nn_
  induction nn_ with
  | zero => exact ⟨fun _ _ _ _ _ _ h_ => absurd h_ (Nat.not_lt_zero _), fun _ _ _ _ _ _ _ _ _ h_ => absurd h_ (Nat.not_lt_zero _)⟩
  | succ nn_ ih_ =>
    refine ⟨?_, ?_⟩
    · rintro pt_ k_ S_ hI_ hF_ ⟨h0_, ht_, hpt_, hv_, hD_, -⟩ hm_
      have g1_ := hg_.1
      have r1_ := hr_.1
      have e1_ : S_.1 3 dd_ 1 = S0_.1 3 dd_ 1 := hF_.1 3 dd_ 1 rfl
      have e2_ : S_.1 3 dd_ 2 = S0_.1 3 dd_ 2 := hF_.1 3 dd_ 2 rfl
      have e3_ : S_.1 3 dd_ 3 = S0_.1 3 dd_ 3 := hF_.1 3 dd_ 3 rfl
      refine sm_T_go 2 (c1 := (33, [some (.inr (.inr (some (1, 0)))), some (.inl pt_), some (.inl k_), none, none, none], [.inr (.inr (some (1, 0))), .inl k_], S_)) rfl ?_
      refine sm_T_gr rfl rfl ((hF_.2.1 1 0 1 rfl).trans hd_) ?_
      refine sm_T_cal (d1 := 0) (Q1 := vq_66 dd_ S_) rfl rfl (by decide) (vc_66 dd_ S_ hI_ (by omega)) (fun u_ Sx1_ px4_ => ?_)
      obtain ⟨rfl, vx6_, rfl, px4_⟩ := px4_
      have e36_ := px4_
      refine sm_T_br (a := 3) (z := 97) rfl (fun cx7_ => ?_) (fun cx7_ => ?_)
      · have cx7_ : vx6_ ≤ k_ := of_decide_eq_true cx7_
        refine sm_T_rv rfl ⟨_, _, rfl, rfl, hI_, hF_, ?_⟩
        refine ⟨hD_, ?_⟩
        refine ⟨fun p9_ hp9_ => ?_, fun q9_ hq9_ => ?_⟩
        · rw [e2_]; exact ht_ p9_ hp9_
        · have w9_ := hv_ q9_ (by (rw [hpt_]; exact hq9_)); rw [show k_.toNat = (S0_.1 3 dd_ 3).toNat + (S0_.1 3 dd_ 2).toNat by omega] at w9_; exact w9_
      · have cx7_ : ¬ (vx6_ ≤ k_) := of_decide_eq_false cx7_
        refine sm_T_go 1 (c1 := (43, [some (.inr (.inr (some (1, 0)))), some (.inl pt_), some (.inl k_), none, none, none], [.inr (.inr (some (1, 0)))], S_)) rfl ?_
        refine sm_T_gr rfl rfl ((hF_.2.1 1 0 1 rfl).trans hd_) ?_
        refine sm_T_go 1 (c1 := (47, [some (.inr (.inr (some (1, 0)))), some (.inl pt_), some (.inl k_), none, none, none], [.inl k_, .inr (.inr (some (3, dd_)))], S_)) rfl ?_
        refine sm_T_cal (d1 := 0) (Q1 := vq_65 k_ dd_ S_) rfl rfl (by decide) (vc_65 k_ dd_ S_ hI_ (by exact drt_fr hr_ hF_ rfl rfl rfl rfl rfl) (by omega)) (fun u_ Sx8_ px11_ => ?_)
        obtain ⟨rfl, vx13_, rfl, px11_⟩ := px11_
        have e47_ := px11_
        have rv47_ : vx13_ = rtv dd_ S0_ k_ := by (rw [e47_.1]; unfold rtv; rw [e3_, fr_arr (t := 45) (i := 0 + dd_) hF_ rfl, fr_arr (t := 46) (i := 0 + dd_) hF_ rfl])
        have n47_ : S_.1 3 dd_ 4 ≤ 1013 := (hI_.1 3 dd_ 4 rfl).2
        refine sm_T_go 3 (c1 := (53, [some (.inr (.inr (some (1, 0)))), some (.inl pt_), some (.inl k_), some (.inl vx13_), none, none], [.inr (.inr (some (1, 0))), .inl k_], S_)) rfl ?_
        refine sm_T_gr rfl rfl ((hF_.2.1 1 0 1 rfl).trans hd_) ?_
        have bx14_ : 0 ≤ S_.1 3 dd_ 3 ∧ S_.1 3 dd_ 3 ≤ 320 := hI_.1 3 dd_ 3 rfl
        refine sm_T_go 1 (c1 := (59, [some (.inr (.inr (some (1, 0)))), some (.inl pt_), some (.inl k_), some (.inl vx13_), none, none], [.inl (S_.1 3 dd_ 3), .inl k_], S_)) rfl ?_
        refine sm_T_br (a := 3) (z := 7) rfl (fun cx15_ => ?_) (fun cx15_ => ?_)
        · have cx15_ : (S_.1 3 dd_ 3) ≤ k_ := of_decide_eq_true cx15_
          refine sm_T_go 2 (c1 := (69, [some (.inr (.inr (some (1, 0)))), some (.inl pt_), some (.inl k_), some (.inl vx13_), none, none], [.inl k_, .inl 16], S_)) rfl ?_
          refine sm_T_bin (w := k_ + 16) rfl (bi_add (by omega) (by omega) (by omega)) ?_
          refine sm_T_go 1 (c1 := (71, [some (.inr (.inr (some (1, 0)))), some (.inl pt_), some (.inl k_), some (.inl vx13_), none, none], [.inr (.inr (some (1, 0))), .inl (k_ + 16)], S_)) rfl ?_
          refine sm_T_gr rfl rfl ((hF_.2.1 1 0 1 rfl).trans hd_) ?_
          refine sm_T_go 1 (c1 := (77, [some (.inr (.inr (some (1, 0)))), some (.inl pt_), some (.inl k_), some (.inl vx13_), none, none], [.inl (S_.1 3 dd_ 3), .inl (k_ + 16)], S_)) rfl ?_
          refine sm_T_bin (w := k_ - (S_.1 3 dd_ 3) + 16) rfl (bi_sub (by omega) (by omega) (by omega)) ?_
          refine sm_T_go 3 (c1 := (83, [some (.inr (.inr (some (1, 0)))), some (.inl pt_), some (.inl k_), some (.inl vx13_), some (.inl (k_ - (S_.1 3 dd_ 3) + 16)), some (.inl 0)], [], S_)) rfl ?_
          refine ih_.2 pt_ k_ vx13_ (k_ - (S_.1 3 dd_ 3) + 16) 0 S_ hI_ hF_ ⟨?_, ?_, ?_, ?_, ?_, ?_, trivial⟩ ?_
          · omega
          · exact ht_
          · exact hpt_
          · refine ⟨?_, ?_⟩
            · rw [show ((k_.toNat : Nat) : Int) = k_ by omega]; exact rv47_
            · unfold sht; split <;> omega
          · (intro q9_ hq9_; rw [if_neg (by omega)]; exact hv_ q9_ hq9_)
          · exact hD_
          · omega
        · have cx15_ : ¬ ((S_.1 3 dd_ 3) ≤ k_) := of_decide_eq_false cx15_
          refine sm_T_go 5 (c1 := (83, [some (.inr (.inr (some (1, 0)))), some (.inl pt_), some (.inl k_), some (.inl vx13_), some (.inl k_), some (.inl 0)], [], S_)) rfl ?_
          refine ih_.2 pt_ k_ vx13_ k_ 0 S_ hI_ hF_ ⟨?_, ?_, ?_, ?_, ?_, ?_, trivial⟩ ?_
          · omega
          · exact ht_
          · exact hpt_
          · refine ⟨?_, ?_⟩
            · rw [show ((k_.toNat : Nat) : Int) = k_ by omega]; exact rv47_
            · unfold sht; split <;> omega
          · (intro q9_ hq9_; rw [if_neg (by omega)]; exact hv_ q9_ hq9_)
          · exact hD_
          · omega
    · rintro pt_ k_ l_ sh_ p_ S_ hI_ hF_ ⟨h0_, ht_, hpt_, hls_, hv_, hD_, -⟩ hm_
      have g1_ := hg_.1
      have r1_ := hr_.1
      have e1_ : S_.1 3 dd_ 1 = S0_.1 3 dd_ 1 := hF_.1 3 dd_ 1 rfl
      have e2_ : S_.1 3 dd_ 2 = S0_.1 3 dd_ 2 := hF_.1 3 dd_ 2 rfl
      have e3_ : S_.1 3 dd_ 3 = S0_.1 3 dd_ 3 := hF_.1 3 dd_ 3 rfl
      refine sm_T_go 2 (c1 := (86, [some (.inr (.inr (some (1, 0)))), some (.inl pt_), some (.inl k_), some (.inl l_), some (.inl sh_), some (.inl p_)], [.inl pt_, .inl p_], S_)) rfl ?_
      refine sm_T_br (a := 3) (z := 44) rfl (fun cx1_ => ?_) (fun cx1_ => ?_)
      · have cx1_ : pt_ ≤ p_ := of_decide_eq_true cx1_
        refine sm_T_inc (a := 2) (z := 1) (v := k_) (w := k_ + 1) rfl rfl (by omega) (by omega) (by omega) ?_
        refine sm_T_go 1 (c1 := (31, [some (.inr (.inr (some (1, 0)))), some (.inl pt_), some (.inl (k_ + 1)), some (.inl l_), some (.inl sh_), some (.inl p_)], [], S_)) rfl ?_
        refine sm_T_wk [some (.inr (.inr (some (1, 0)))), some (.inl pt_), some (.inl (k_ + 1)), none, none, none] (by exact ⟨rfl, rfl, rfl, trivial⟩) ?_
        refine ih_.1 pt_ (k_ + 1) S_ hI_ hF_ ⟨?_, ?_, ?_, ?_, ?_, trivial⟩ ?_
        · omega
        · exact ht_
        · exact hpt_
        · (intro q9_ hq9_; rw [show (k_ + 1).toNat = k_.toNat + 1 by omega]; have w9_ := hv_ q9_ hq9_; rw [if_pos (by omega)] at w9_; exact w9_)
        · exact hD_
        · omega
      · have cx1_ : ¬ (pt_ ≤ p_) := of_decide_eq_false cx1_
        refine sm_T_go 1 (c1 := (90, [some (.inr (.inr (some (1, 0)))), some (.inl pt_), some (.inl k_), some (.inl l_), some (.inl sh_), some (.inl p_)], [.inr (.inr (some (1, 0)))], S_)) rfl ?_
        refine sm_T_gr rfl rfl ((hF_.2.1 1 0 1 rfl).trans hd_) ?_
        refine sm_T_go 3 (c1 := (99, [some (.inr (.inr (some (1, 0)))), some (.inl pt_), some (.inl k_), some (.inl l_), some (.inl sh_), some (.inl p_)], [.inl p_, .inr (.inr (some (47, (0 + dd_)))), .inl p_, .inr (.inr (some (47, (0 + dd_))))], S_)) rfl ?_
        refine sm_T_iald (n := 4096) rfl rfl (by omega) (by omega) ?_
        have bx2_ : 0 ≤ S_.2.2.1 47 (0 + dd_) p_.toNat ∧ S_.2.2.1 47 (0 + dd_) p_.toNat ≤ 4194303 := hI_.2 47 (0 + dd_) _
        refine sm_T_go 4 (c1 := (106, [some (.inr (.inr (some (1, 0)))), some (.inl pt_), some (.inl k_), some (.inl l_), some (.inl sh_), some (.inl p_)], [.inl 6, .inl p_, .inl l_, .inr (.inr (some (1, 0))), .inl (S_.2.2.1 47 (0 + dd_) p_.toNat), .inl p_, .inr (.inr (some (47, (0 + dd_))))], S_)) rfl ?_
        refine sm_T_bin (w := (p_ / 64)) rfl (bi_shr (k := 6) (by decide) (by omega) (by omega)) ?_
        refine sm_T_cal (d1 := 0) (Q1 := vq_48 l_ (p_ / 64) S_) rfl rfl (by decide) (vc_48 l_ (p_ / 64) S_ hI_ (by omega) (by omega)) (fun u_ Sx3_ px6_ => ?_)
        obtain ⟨rfl, vx8_, rfl, px6_⟩ := px6_
        have e107_ := px6_
        have bv9_ : l_l2i (l_3 (l_s1 vx8_ (p_ % 64)) 1) = if ltv (pvl (S0_.2.2.2 32 0)) (rtv dd_ S0_ ((k_.toNat : Nat) : Int)) p_.toNat = true then 1 else 0 := by (rw [e107_, ← hls_.1, fr_lon (t_ := 32) (i_ := 0) hF_ rfl]; exact bit_1 (by omega))
        have bt9_ := l_bit (x_ := l_s1 vx8_ (p_ % 64))
        have bs9_ := bsh (k_ := 16 + (S0_.1 3 dd_ 2).toNat) bt9_ (show 0 ≤ sh_ by omega) (by omega) (by omega)
        have or9_ := i_orp (x_ := S_.2.2.1 47 (0 + dd_) p_.toNat) (k_ := 16 + (S0_.1 3 dd_ 2).toNat) (by omega) (ht_ p_.toNat (by omega)) bs9_
        have pw9_ := pw_le (n := 16 + (S0_.1 3 dd_ 2).toNat) (m := 22) (by omega)
        refine sm_T_go 2 (c1 := (114, [some (.inr (.inr (some (1, 0)))), some (.inl pt_), some (.inl k_), some (.inl l_), some (.inl sh_), some (.inl p_)], [.inl 63, .inl p_, .inr (.inl vx8_), .inl (S_.2.2.1 47 (0 + dd_) p_.toNat), .inl p_, .inr (.inr (some (47, (0 + dd_))))], S_)) rfl ?_
        refine sm_T_bin (w := (p_ % 64)) rfl (bi_msk (k := 6) (by decide)) ?_
        refine sm_T_go 5 (c1 := (121, [some (.inr (.inr (some (1, 0)))), some (.inl pt_), some (.inl k_), some (.inl l_), some (.inl sh_), some (.inl p_)], [.inl sh_, .inl (l_l2i ((l_3 ((l_s1 vx8_ (p_ % 64))) 1))), .inl (S_.2.2.1 47 (0 + dd_) p_.toNat), .inl p_, .inr (.inr (some (47, (0 + dd_))))], S_)) rfl ?_
        refine sm_T_bin (w := (i_shl (l_l2i ((l_3 ((l_s1 vx8_ (p_ % 64))) 1))) sh_)) rfl rfl ?_
        refine sm_T_bin (w := (i_or (S_.2.2.1 47 (0 + dd_) p_.toNat) (i_shl (l_l2i ((l_3 ((l_s1 vx8_ (p_ % 64))) 1))) sh_))) rfl rfl ?_
        refine sm_T_iast (n := 4096) rfl rfl (by omega) (by omega) ?_
        have hIx9_ : gi (sm_aI S_ 47 (0 + dd_) p_.toNat (i_or (S_.2.2.1 47 (0 + dd_) p_.toNat) (i_shl (l_l2i ((l_3 ((l_s1 vx8_ (p_ % 64))) 1))) sh_))) := gi_aI hI_ (show 0 ≤ (i_or (S_.2.2.1 47 (0 + dd_) p_.toNat) (i_shl (l_l2i ((l_3 ((l_s1 vx8_ (p_ % 64))) 1))) sh_)) ∧ (i_or (S_.2.2.1 47 (0 + dd_) p_.toNat) (i_shl (l_l2i ((l_3 ((l_s1 vx8_ (p_ % 64))) 1))) sh_)) ≤ 4194303 from ⟨by omega, by omega⟩)
        have hFx10_ : ai_fr (sx_W vw_51n) S0_ (sm_aI S_ 47 (0 + dd_) p_.toNat (i_or (S_.2.2.1 47 (0 + dd_) p_.toNat) (i_shl (l_l2i ((l_3 ((l_s1 vx8_ (p_ % 64))) 1))) sh_))) := ai_fr_tr hF_ (ai_fr_aI rfl)
        have hDx11_ : idf dd_ S0_ (sm_aI S_ 47 (0 + dd_) p_.toNat (i_or (S_.2.2.1 47 (0 + dd_) p_.toNat) (i_shl (l_l2i ((l_3 ((l_s1 vx8_ (p_ % 64))) 1))) sh_))) := idf_aI hD_ (Or.inr rfl)
        refine sm_T_inc (a := 5) (z := 1) (v := p_) (w := p_ + 1) rfl rfl (by omega) (by omega) (by omega) ?_
        refine sm_T_go 1 (c1 := (83, [some (.inr (.inr (some (1, 0)))), some (.inl pt_), some (.inl k_), some (.inl l_), some (.inl sh_), some (.inl (p_ + 1))], [], sm_aI S_ 47 (0 + dd_) p_.toNat (i_or (S_.2.2.1 47 (0 + dd_) p_.toNat) (i_shl (l_l2i ((l_3 ((l_s1 vx8_ (p_ % 64))) 1))) sh_)))) rfl ?_
        refine ih_.2 pt_ k_ l_ sh_ (p_ + 1) (sm_aI S_ 47 (0 + dd_) p_.toNat (i_or (S_.2.2.1 47 (0 + dd_) p_.toNat) (i_shl (l_l2i ((l_3 ((l_s1 vx8_ (p_ % 64))) 1))) sh_))) hIx9_ hFx10_ ⟨?_, ?_, ?_, ?_, ?_, ?_, trivial⟩ ?_
        · omega
        · intro p9_ hp9_
          rw [rd_eq]
          by_cases z9_ : p9_ = p_.toNat
          · rw [if_pos z9_]; exact or9_
          · rw [if_neg z9_]; exact ht_ p9_ hp9_
        · exact hpt_
        · exact hls_
        · intro q9_ hq9_
          rw [rd_eq]
          by_cases z9_ : q9_ = p_.toNat
          · have w9_ := hv_ p_.toNat (by omega)
            rw [if_neg (by omega)] at w9_
            rw [if_pos z9_, if_pos (by omega), w9_, z9_, show sh_ = (sht (S0_.1 3 dd_ 3).toNat k_.toNat : Int) from hls_.2]
            exact ftw_or (by omega) (sht_b (r_ := 6) (by omega) (by decide) (by omega)) bv9_
          · rw [if_neg z9_]
            have w9_ := hv_ q9_ hq9_
            by_cases y9_ : (q9_ : Int) < p_
            · rw [if_pos y9_] at w9_; rw [if_pos (by omega)]; exact w9_
            · rw [if_neg y9_] at w9_; rw [if_neg (by omega)]; exact w9_
        · exact hDx11_
        · omega
set_option maxHeartbeats 1000000 in
theorem vc_51n {sc_ : Nat × (Nat → Int)} (dd_ : Nat) (F_ : Nat) (S0_ : sm_S) (hI_ : gi S0_) (hd_ : S0_.2.1 1 0 1 = some dd_) (hg_ : dgr dd_ F_ S0_) (hr_ : drt dd_ S0_) : sm_T (mt_P sc_) 1 51 (0, [some (.inr (.inr (some (1, 0)))), none, none, none, none, none], [], S0_) (fun ro9_ => ∃ u_ S1_, ro9_ = (.inl u_, S1_, 0) ∧ vq_51n dd_ F_ S0_ u_ S1_) := by
  have hF_ : ai_fr (sx_W vw_51n) S0_ S0_ := ai_fr_rf
  have hD_ : idf dd_ S0_ S0_ := idf_rf
  have g1_ := hg_.1
  have r1_ := hr_.1
  refine sm_T_go 1 (c1 := (1, [some (.inr (.inr (some (1, 0)))), none, none, none, none, none], [.inr (.inr (some (1, 0)))], S0_)) rfl ?_
  refine sm_T_gr rfl rfl ((hF_.2.1 1 0 1 rfl).trans hd_) ?_
  refine sm_T_go 2 (c1 := (8, [some (.inr (.inr (some (1, 0)))), none, none, none, none, none], [.inl 0, .inr (.inr (some (47, (0 + dd_))))], S0_)) rfl ?_
  refine sm_T_cal (d1 := 0) (Q1 := vq_2t 0 dd_ S0_) rfl rfl (by decide) (vc_2t 0 dd_ S0_ hI_ (by decide)) (fun u_ Sx1_ px4_ => ?_)
  obtain ⟨rfl, hIx2_, hFx3_, px4_⟩ := px4_
  have hFx5_ : ai_fr (sx_W vw_51n) S0_ Sx1_ := ai_fr_tr hF_ (fr_le hFx3_ rfl)
  obtain ⟨dx7_, px4_⟩ := px4_
  have hDx6_ : idf dd_ S0_ Sx1_ := idf_tr hD_ dx7_
  have e8_ := px4_
  have q1_ := hFx3_.1 3 dd_ 1 rfl
  have q2_ := hFx3_.1 3 dd_ 2 rfl
  refine sm_T_go 2 (c1 := (13, [some (.inr (.inr (some (1, 0)))), none, none, none, none, none], [.inr (.inr (some (1, 0))), .inl 1], Sx1_)) rfl ?_
  refine sm_T_gr rfl rfl ((hFx5_.2.1 1 0 1 rfl).trans hd_) ?_
  have bx8_ : 0 ≤ Sx1_.1 3 dd_ 1 ∧ Sx1_.1 3 dd_ 1 ≤ 320 := hIx2_.1 3 dd_ 1 rfl
  refine sm_T_go 2 (c1 := (20, [some (.inr (.inr (some (1, 0)))), none, none, none, none, none], [.inr (.inr (some (1, 0))), .inl (Sx1_.1 3 dd_ 1), .inl 1], Sx1_)) rfl ?_
  refine sm_T_gr rfl rfl ((hFx5_.2.1 1 0 1 rfl).trans hd_) ?_
  have bx9_ : 0 ≤ Sx1_.1 3 dd_ 2 ∧ Sx1_.1 3 dd_ 2 ≤ 100000 := hIx2_.1 3 dd_ 2 rfl
  refine sm_T_go 1 (c1 := (26, [some (.inr (.inr (some (1, 0)))), none, none, none, none, none], [.inl (Sx1_.1 3 dd_ 2), .inl (Sx1_.1 3 dd_ 1), .inl 1], Sx1_)) rfl ?_
  refine sm_T_bin (w := (Sx1_.1 3 dd_ 1) + (Sx1_.1 3 dd_ 2)) rfl (bi_add (by omega) (by omega) (by omega)) ?_
  refine sm_T_bin (w := (i_shl 1 ((Sx1_.1 3 dd_ 1) + (Sx1_.1 3 dd_ 2)))) rfl rfl ?_
  have bx10_ := i_shl1 (e := ((Sx1_.1 3 dd_ 1) + (Sx1_.1 3 dd_ 2))) (by omega) (by omega)
  have hp_ := pw_le (n := (((Sx1_.1 3 dd_ 1) + (Sx1_.1 3 dd_ 2))).toNat) (m := 12) (by omega)
  have hp0_ := pw_pos (((Sx1_.1 3 dd_ 1) + (Sx1_.1 3 dd_ 2))).toNat
  refine sm_T_go 3 (c1 := (31, [some (.inr (.inr (some (1, 0)))), some (.inl (i_shl 1 ((Sx1_.1 3 dd_ 1) + (Sx1_.1 3 dd_ 2)))), some (.inl 0), none, none, none], [], Sx1_)) rfl ?_
  refine (vl_51n dd_ F_ S0_ hd_ hg_ hr_ _).1 (i_shl 1 ((Sx1_.1 3 dd_ 1) + (Sx1_.1 3 dd_ 2))) 0 Sx1_ hIx2_ hFx5_ ⟨?_, ?_, ?_, ?_, ?_, trivial⟩ (Nat.lt_succ_self _)
  · omega
  · (intro p9_ hp9_; rw [e8_ p9_ hp9_]; exact ⟨Int.le_refl _, pw_pos _⟩)
  · first | omega | (rw [← q1_, ← q2_]; omega)
  · (intro q9_ hq9_; rw [e8_ q9_ (by omega)]; rfl)
  · exact hDx6_
end
/-! 99.ztW3 -/
section
/-! the reference: bits of tables; written by wip/p55/gen/vg -/

/-! the_ reference's tables -/
def kot (R_ rw : Nat → Int) (k_ q_ : Nat) : Int := tbv (fun j_ => ltv (pvl R_) (rw j_) q_) k_
theorem kot_or {R_ rw : Nat → Int} {k_ q_ : Nat} {kk_ b_ : Int} (hk_ : kk_ = (k_ : Int)) (h_ : k_ ≤ 21) (hb_ : b_ = if ltv (pvl R_) (rw k_) q_ = true then 1 else 0) : i_or (kot R_ rw k_ q_) (i_shl b_ kk_) = kot R_ rw (k_ + 1) q_ := by
  rw [hk_, hb_]
  exact tbv_or (f_ := fun j_ => ltv (pvl R_) (rw j_) q_) h_
def ktb (dd_ R_ o_ p_ : Nat) (S_ : sm_S) : Prop := ∀ q9_ : Nat, q9_ < p_ → S_.2.2.1 169 0 (4096 * dd_ + q9_) = kot (S_.2.2.2 171 0) (S_.2.2.1 175 0) o_ q9_ ∧ S_.2.2.1 170 0 (4096 * dd_ + q9_) = kot (S_.2.2.2 171 0) (S_.2.2.1 151 0) R_ q9_
theorem ktb_s {dd_ R_ o_ p_ : Nat} {ou_ nx_ : Int} {S_ S'_ : sm_S} (h_ : ktb dd_ R_ o_ p_ S_) (g_ : ai_fr (sx_W ([], [169, 170], [])) S_ S'_) (e1_ : ∀ j_, S'_.2.2.1 169 0 j_ = if j_ = 4096 * dd_ + p_ then ou_ else S_.2.2.1 169 0 j_) (e2_ : ∀ j_, S'_.2.2.1 170 0 j_ = if j_ = 4096 * dd_ + p_ then nx_ else S_.2.2.1 170 0 j_) (ho_ : ou_ = kot (S_.2.2.2 171 0) (S_.2.2.1 175 0) o_ p_) (hn_ : nx_ = kot (S_.2.2.2 171 0) (S_.2.2.1 151 0) R_ p_) : ktb dd_ R_ o_ (p_ + 1) S'_ := by
  intro q_ hq_
  rw [e1_, e2_, fr_lon (t_ := 171) (i_ := 0) g_ rfl, fr_arr (t := 175) (i := 0) g_ rfl, fr_arr (t := 151) (i := 0) g_ rfl]
  by_cases c_ : q_ = p_
  · rw [if_pos (by omega), if_pos (by omega), c_]
    exact ⟨ho_, hn_⟩
  · rw [if_neg (by omega), if_neg (by omega)]
    exact h_ q_ (by omega)
theorem fwl_fr {w_ : sx_Wl} {F_ N_ W_ : Nat} {mk_ : Int} {lo_ hi_ : Nat → Int} {S_ S'_ : sm_S} (h_ : fwr F_ N_ W_ mk_ lo_ hi_ (S_.2.2.2 171 0)) (g_ : ai_fr (sx_W w_) S_ S'_) (hw_ : (sx_W w_).2.1 171 = false := by rfl) : fwr F_ N_ W_ mk_ lo_ hi_ (S'_.2.2.2 171 0) := by
  rw [fr_lon (t_ := 171) (i_ := 0) g_ hw_]
  exact h_
/-- the_ reference's kept tables -/
def dgt (d_ F_ N_ o_ R_ : Nat) (S_ : sm_S) : Prop := dtw F_ N_ o_ R_ (fun k_ => S_.2.2.1 164 0 (2048 * d_ + k_)) (fun k_ => S_.2.2.1 165 0 (2048 * d_ + k_)) (fun k_ => S_.2.2.1 167 0 (16 * d_ + k_)) (fun k_ => S_.2.2.1 168 0 (6 * d_ + k_)) (fun q_ => S_.2.2.1 169 0 (4096 * d_ + q_)) (fun q_ => S_.2.2.1 170 0 (4096 * d_ + q_))
theorem dgt_fr {w_ : sx_Wl} {d_ F_ N_ o_ R_ : Nat} {S_ S'_ : sm_S} (h_ : dgt d_ F_ N_ o_ R_ S_) (g_ : ai_fr (sx_W w_) S_ S'_) (h1_ : (sx_W w_).2.1 164 = false := by rfl) (h2_ : (sx_W w_).2.1 165 = false := by rfl) (h3_ : (sx_W w_).2.1 167 = false := by rfl) (h4_ : (sx_W w_).2.1 168 = false := by rfl) (h5_ : (sx_W w_).2.1 169 = false := by rfl) (h6_ : (sx_W w_).2.1 170 = false := by rfl) : dgt d_ F_ N_ o_ R_ S'_ := by
  unfold dgt
  rw [fr_arr (t := 164) g_ h1_, fr_arr (t := 165) g_ h2_, fr_arr (t := 167) g_ h3_, fr_arr (t := 168) g_ h4_, fr_arr (t := 169) g_ h5_, fr_arr (t := 170) g_ h6_]
  exact h_
theorem dgt_of {w_ : sx_Wl} {dd_ F_ R_ n_ p_ : Nat} {I_ o_ bg_ : Int} {S0_ S_ : sm_S} (h_ : kdB dd_ F_ I_ o_ bg_ R_ n_ o_.toNat R_ p_ S_) (hf_ : fwr F_ n_ 64 (-1) (S0_.2.2.1 140 0) (S0_.2.2.1 141 0) (S_.2.2.2 171 0)) (ht_ : ktb dd_ R_ o_.toNat p_ S_) (hF_ : F_ ≤ 13) (hp_ : 2 ^ (F_ - 1) ≤ p_) (g_ : ai_fr (sx_W w_) S0_ S_) (g1_ : (sx_W w_).2.1 140 = false := by rfl) (g2_ : (sx_W w_).2.1 141 = false := by rfl) : dgt dd_ F_ n_ o_.toNat R_ S_ := by
  obtain ⟨-, -, h3_, h4_, h5_, -⟩ := h_
  rw [← fr_arr (t := 140) (i := 0) g_ g1_, ← fr_arr (t := 141) (i := 0) g_ g2_] at hf_
  have q_ : dtw F_ n_ o_.toNat R_ (S_.2.2.1 140 0) (S_.2.2.1 141 0) (S_.2.2.1 175 0) (S_.2.2.1 151 0) (fun q_ => S_.2.2.1 169 0 (4096 * dd_ + q_)) (fun q_ => S_.2.2.1 170 0 (4096 * dd_ + q_)) := ⟨2 ^ 12, pvl (S_.2.2.2 171 0), p2_le (by omega), nvr_of (bi_ := 12) hf_ wmk_r hF_, fun q9_ hq9_ => ht_ q9_ (by omega)⟩
  exact dtw_cg q_ (fun k_ hk_ => ⟨(h3_ k_ hk_).1, (h3_ k_ hk_).2.1⟩) (fun k_ hk_ => h4_ k_ hk_) (fun k_ hk_ => h5_ k_ hk_) (fun _ _ => ⟨rfl, rfl⟩)

/-! M_.bitOf -/
def vw_359n : sx_Wl := ([], [], [])
def vq_359n (l_ : Int) (p_ : Int) (S0_ : sm_S) (u_ : Option sm_V) (S1_ : sm_S) : Prop := S0_ = S1_ ∧ ∃ v_ : Int, u_ = some (.inl v_) ∧ (v_ = if ltv (pvl (S0_.2.2.2 171 0)) l_ p_.toNat = true then 1 else 0)
set_option maxHeartbeats 400000 in
theorem vc_359n {sc_ : Nat × (Nat → Int)} (l_ : Int) (p_ : Int) (S0_ : sm_S) (hI_ : gi S0_) (hl_ : 0 ≤ l_ ∧ l_ ≤ 2047) (hp_ : 0 ≤ p_ ∧ p_ ≤ 4095) : sm_T (mt_P sc_) 1 359 (0, [some (.inr (.inr (some (13, 0)))), some (.inl l_), some (.inl p_)], [], S0_) (fun ro9_ => ∃ u_ S1_, ro9_ = (.inl u_, S1_, 0) ∧ vq_359n l_ p_ S0_ u_ S1_) := by
  have hF_ : ai_fr (sx_W vw_359n) S0_ S0_ := ai_fr_rf
  refine sm_T_go 4 (c1 := (5, [some (.inr (.inr (some (13, 0)))), some (.inl l_), some (.inl p_)], [.inl 6, .inl p_, .inl l_, .inr (.inr (some (13, 0)))], S0_)) rfl ?_
  refine sm_T_bin (w := (p_ / 64)) rfl (bi_shr (k := 6) (by decide) (by omega) (by omega)) ?_
  refine sm_T_cal (d1 := 0) (Q1 := vq_351 l_ (p_ / 64) S0_) rfl rfl (by decide) (vc_351 l_ (p_ / 64) S0_ hI_ (by omega) (by omega)) (fun u_ Sx1_ px4_ => ?_)
  obtain ⟨rfl, vx6_, rfl, px4_⟩ := px4_
  have e6_ := px4_
  refine sm_T_go 2 (c1 := (12, [some (.inr (.inr (some (13, 0)))), some (.inl l_), some (.inl p_)], [.inl 63, .inl p_, .inr (.inl vx6_)], S0_)) rfl ?_
  refine sm_T_bin (w := (p_ % 64)) rfl (bi_msk (k := 6) (by decide)) ?_
  refine sm_T_go 4 (c1 := (17, [some (.inr (.inr (some (13, 0)))), some (.inl l_), some (.inl p_)], [.inl (l_l2i ((l_3 ((l_s2 vx6_ (p_ % 64))) 1)))], S0_)) rfl ?_
  refine sm_T_ri rfl ⟨_, _, rfl, rfl, _, rfl, ?_⟩
  rw [e6_]; exact bit_2 (by omega)
end
/-! 99.ztW5 -/
section
/-! which nodes are needed, with its meaning; written by wip/p55/gen/vg -/

/-! which nodes are_ needed -/
def nsw (sf_ : Nat → Int) (l_ : Int) : Nat := (sf_ (l_ / 2).toNat / 2).toNat
def nd0 (sf_ rt_ : Nat → Int) : Nat → Nat → Bool
  | 0, _ => false
  | k_ + 1, q_ => nd0 sf_ rt_ k_ q_ || decide (q_ = nsw sf_ (rt_ k_))
def ndk (N_ : Nat) (sf_ lo_ hi_ : Nat → Int) (m0_ : Nat → Bool) : Nat → (Nat → Bool) × Int
  | 0 => (m0_, 0)
  | j_ + 1 => if (ndk N_ sf_ lo_ hi_ m0_ j_).1 (N_ - 1 - j_) = true then (fun q_ => ((ndk N_ sf_ lo_ hi_ m0_ j_).1 q_ || decide (q_ = nsw sf_ (lo_ (N_ - 1 - j_)))) || decide (q_ = nsw sf_ (hi_ (N_ - 1 - j_))), (ndk N_ sf_ lo_ hi_ m0_ j_).2 + 1) else ndk N_ sf_ lo_ hi_ m0_ j_
def ni0 (N_ k_ : Nat) (sf_ rt_ u_ : Nat → Int) : Prop := ∀ q_, q_ < N_ → (u_ q_ = 1 ↔ nd0 sf_ rt_ k_ q_ = true)
theorem ni0_0 {N_ : Nat} {sf_ rt_ u_ : Nat → Int} (h_ : ∀ q_, q_ < N_ → u_ q_ = 0) : ni0 N_ 0 sf_ rt_ u_ := fun q_ hq_ => by
  rw [h_ q_ hq_]
  exact ⟨fun z_ => absurd z_ (by decide), fun z_ => absurd (show false = true from z_) Bool.false_ne_true⟩
theorem ni0_s {N_ k_ : Nat} {sf_ rt_ u_ u'_ : Nat → Int} (h_ : ni0 N_ k_ sf_ rt_ u_) (hu_ : ∀ q_, u'_ q_ = if q_ = nsw sf_ (rt_ k_) then 1 else u_ q_) : ni0 N_ (k_ + 1) sf_ rt_ u'_ := fun q_ hq_ => by
  rw [hu_ q_]
  show _ ↔ (nd0 sf_ rt_ k_ q_ || decide (q_ = nsw sf_ (rt_ k_))) = true
  rw [Bool.or_eq_true, decide_eq_true_iff]
  by_cases c_ : q_ = nsw sf_ (rt_ k_)
  · rw [if_pos c_]
    exact ⟨fun _ => Or.inr c_, fun _ => rfl⟩
  · rw [if_neg c_, h_ q_ hq_]
    exact ⟨Or.inl, fun z_ => z_.resolve_right c_⟩
theorem ndk_n {N_ j_ : Nat} {sf_ lo_ hi_ : Nat → Int} {m0_ : Nat → Bool} (h_ : (ndk N_ sf_ lo_ hi_ m0_ j_).1 (N_ - 1 - j_) = false) : ndk N_ sf_ lo_ hi_ m0_ (j_ + 1) = ndk N_ sf_ lo_ hi_ m0_ j_ := by
  have e_ : ¬ ((ndk N_ sf_ lo_ hi_ m0_ j_).1 (N_ - 1 - j_) = true) := by
    rw [h_]
    exact Bool.false_ne_true
  first
    | exact if_neg e_
    | rw [ndk, if_neg e_]
theorem ndk_y {N_ j_ : Nat} {sf_ lo_ hi_ : Nat → Int} {m0_ : Nat → Bool} (h_ : (ndk N_ sf_ lo_ hi_ m0_ j_).1 (N_ - 1 - j_) = true) : ndk N_ sf_ lo_ hi_ m0_ (j_ + 1) = (fun q_ => ((ndk N_ sf_ lo_ hi_ m0_ j_).1 q_ || decide (q_ = nsw sf_ (lo_ (N_ - 1 - j_)))) || decide (q_ = nsw sf_ (hi_ (N_ - 1 - j_))), (ndk N_ sf_ lo_ hi_ m0_ j_).2 + 1) := by
  first
    | exact if_pos h_
    | rw [ndk, if_pos h_]
def ndi (N_ j_ : Nat) (sf_ lo_ hi_ : Nat → Int) (m0_ : Nat → Bool) (u_ : Nat → Int) (c_ : Int) : Prop := c_ = (ndk N_ sf_ lo_ hi_ m0_ j_).2 ∧ ∀ q_, q_ < N_ → (u_ q_ = 1 ↔ (ndk N_ sf_ lo_ hi_ m0_ j_).1 q_ = true)
theorem ndi_0 {N_ k_ : Nat} {sf_ lo_ hi_ rt_ u_ : Nat → Int} (h_ : ni0 N_ k_ sf_ rt_ u_) : ndi N_ 0 sf_ lo_ hi_ (nd0 sf_ rt_ k_) u_ 0 := ⟨rfl, h_⟩
theorem ndi_n {N_ j_ n_ : Nat} {sf_ lo_ hi_ u_ : Nat → Int} {m0_ : Nat → Bool} {c_ : Int} (h_ : ndi N_ j_ sf_ lo_ hi_ m0_ u_ c_) (hn_ : u_ n_ ≠ 1) (e_ : N_ - 1 - j_ = n_) (hl_ : n_ < N_) : ndi N_ (j_ + 1) sf_ lo_ hi_ m0_ u_ c_ := by
  have q_ : (ndk N_ sf_ lo_ hi_ m0_ j_).1 (N_ - 1 - j_) = false := by
    rw [e_]
    cases x_ : (ndk N_ sf_ lo_ hi_ m0_ j_).1 n_
    · rfl
    · exact absurd ((h_.2 n_ hl_).mpr x_) hn_
  unfold ndi
  rw [ndk_n q_]
  exact h_
theorem ndi_y {N_ j_ n_ : Nat} {sf_ lo_ hi_ u_ u'_ : Nat → Int} {m0_ : Nat → Bool} {c_ : Int} (h_ : ndi N_ j_ sf_ lo_ hi_ m0_ u_ c_) (hn_ : u_ n_ = 1) (e_ : N_ - 1 - j_ = n_) (hl_ : n_ < N_) (hu_ : ∀ q_, u'_ q_ = if q_ = nsw sf_ (hi_ n_) then 1 else if q_ = nsw sf_ (lo_ n_) then 1 else u_ q_) : ndi N_ (j_ + 1) sf_ lo_ hi_ m0_ u'_ (c_ + 1) := by
  have q_ : (ndk N_ sf_ lo_ hi_ m0_ j_).1 (N_ - 1 - j_) = true := by
    rw [e_]
    exact (h_.2 n_ hl_).mp hn_
  unfold ndi
  rw [ndk_y q_, e_]
  refine ⟨?_, fun k_ hk_ => ?_⟩
  · show c_ + 1 = (ndk N_ sf_ lo_ hi_ m0_ j_).2 + 1
    rw [← h_.1]
  · rw [hu_ k_]
    show _ ↔ (((ndk N_ sf_ lo_ hi_ m0_ j_).1 k_ || decide (k_ = nsw sf_ (lo_ n_))) || decide (k_ = nsw sf_ (hi_ n_))) = true
    rw [Bool.or_eq_true, Bool.or_eq_true, decide_eq_true_iff, decide_eq_true_iff]
    by_cases c1_ : k_ = nsw sf_ (hi_ n_)
    · rw [if_pos c1_]
      exact ⟨fun _ => Or.inr c1_, fun _ => rfl⟩
    · rw [if_neg c1_]
      by_cases c2_ : k_ = nsw sf_ (lo_ n_)
      · rw [if_pos c2_]
        exact ⟨fun _ => Or.inl (Or.inr c2_), fun _ => rfl⟩
      · rw [if_neg c2_, h_.2 k_ hk_]
        exact ⟨fun z_ => Or.inl (Or.inl z_), fun z_ => (z_.resolve_right c1_).resolve_right c2_⟩
theorem nsw_cg {N_ : Nat} {sf_ sf'_ : Nat → Int} {l_ : Int} (hs_ : ∀ m_, m_ < N_ → sf'_ m_ = sf_ m_) (h_ : 0 ≤ l_ ∧ l_ < 2 * (N_ : Int)) : nsw sf'_ l_ = nsw sf_ l_ := by
  unfold nsw
  rw [hs_ _ (by omega)]
theorem nd0_cg {N_ K_ : Nat} {sf_ sf'_ rt_ rt'_ : Nat → Int} (hs_ : ∀ m_, m_ < N_ → sf'_ m_ = sf_ m_) (hr_ : ∀ k_, k_ < K_ → rt'_ k_ = rt_ k_ ∧ 0 ≤ rt_ k_ ∧ rt_ k_ < 2 * (N_ : Int)) : ∀ k_ : Nat, k_ ≤ K_ → ∀ q_, nd0 sf'_ rt'_ k_ q_ = nd0 sf_ rt_ k_ q_
  | 0, _, _ => rfl
  | k_ + 1, hk_, q_ => by
    have r_ := hr_ k_ (by omega)
    show (nd0 sf'_ rt'_ k_ q_ || decide (q_ = nsw sf'_ (rt'_ k_))) = (nd0 sf_ rt_ k_ q_ || decide (q_ = nsw sf_ (rt_ k_)))
    rw [nd0_cg hs_ hr_ k_ (by omega) q_, r_.1, nsw_cg hs_ r_.2]
theorem ndk_cg {F_ N_ : Nat} {sf_ sf'_ lo_ lo'_ hi_ hi'_ : Nat → Int} {m0_ m0'_ : Nat → Bool} (hs_ : ∀ m_, m_ < N_ → sf'_ m_ = sf_ m_) (hg_ : glo F_ N_ lo_ hi_) (e_ : ∀ n_, F_ ≤ n_ → n_ < N_ → lo'_ n_ = lo_ n_ ∧ hi'_ n_ = hi_ n_) (h0_ : ∀ q_, m0'_ q_ = m0_ q_) : ∀ j_ : Nat, j_ ≤ N_ - F_ → (ndk N_ sf'_ lo'_ hi'_ m0'_ j_).2 = (ndk N_ sf_ lo_ hi_ m0_ j_).2 ∧ ∀ q_, (ndk N_ sf'_ lo'_ hi'_ m0'_ j_).1 q_ = (ndk N_ sf_ lo_ hi_ m0_ j_).1 q_
  | 0, _ => ⟨rfl, h0_⟩
  | j_ + 1, hj_ => by
    have ih_ := ndk_cg hs_ hg_ e_ h0_ j_ (by omega)
    have ge_ := e_ (N_ - 1 - j_) (by omega) (by omega)
    have g_ := hg_ (N_ - 1 - j_) (by omega) (by omega)
    have n1_ : nsw sf'_ (lo_ (N_ - 1 - j_)) = nsw sf_ (lo_ (N_ - 1 - j_)) := nsw_cg hs_ (by omega)
    have n2_ : nsw sf'_ (hi_ (N_ - 1 - j_)) = nsw sf_ (hi_ (N_ - 1 - j_)) := nsw_cg hs_ (by omega)
    cases x_ : (ndk N_ sf_ lo_ hi_ m0_ j_).1 (N_ - 1 - j_)
    · rw [ndk_n x_, ndk_n ((ih_.2 _).trans x_)]
      exact ih_
    · rw [ndk_y x_, ndk_y ((ih_.2 _).trans x_), ge_.1, ge_.2, n1_, n2_]
      refine ⟨?_, fun q_ => ?_⟩
      · show (ndk N_ sf'_ lo'_ hi'_ m0'_ j_).2 + 1 = (ndk N_ sf_ lo_ hi_ m0_ j_).2 + 1
        rw [ih_.1]
      · show (((ndk N_ sf'_ lo'_ hi'_ m0'_ j_).1 q_ || decide (q_ = nsw sf_ (lo_ (N_ - 1 - j_)))) || decide (q_ = nsw sf_ (hi_ (N_ - 1 - j_)))) = (((ndk N_ sf_ lo_ hi_ m0_ j_).1 q_ || decide (q_ = nsw sf_ (lo_ (N_ - 1 - j_)))) || decide (q_ = nsw sf_ (hi_ (N_ - 1 - j_))))
        rw [ih_.2 q_]
theorem nsw_x {sf_ : Nat → Int} {l_ : Int} (h_ : 0 ≤ sf_ (l_ / 2).toNat ∧ sf_ (l_ / 2).toNat ≤ 2047) : (i_xor (sf_ (l_ / 2).toNat) (l_ % 2) / 2).toNat = nsw sf_ l_ := by
  have x_ := i_xb (x_ := sf_ (l_ / 2).toNat) (b_ := l_ % 2) h_ (by omega)
  unfold nsw
  omega
/-! Design.markNeeded -/
/-! M_.countNeeded -/
end
/-! 99.ztX -/
section
/-! outputs, next values and beginning: what the reference keeps; written by wip/p55/gen/vg -/

/-! where the_ outputs' literals stand -/
def otr (B_ : pA) (tp_ K_ : Nat) (e_ : gE) (row_ : Nat → Int) : Prop := ∀ s_ : Nat, s_ < K_ → B_.2.2.1 (40 * tp_ + s_) = 1 → rwv row_ (su (t_in B_ 1 tp_) s_).toNat (e_ s_)
def rwt (row_ : Nat → Int) (p_ k_ : Nat) (y_ : List Int) : Prop := ∀ (j_ : Nat) (z_ : Int), j_ < k_ → y_[j_]? = some z_ → row_ (p_ + j_) = z_
theorem otr_sb {b_ : Nat → Int} {n_ tp_ K_ s_ k_ : Nat} {B_ : pA} {e_ : gE} {z_ : Int} (hB_ : a_ok b_ n_ B_ tp_) (hK_ : K_ ≤ B_.1 tp_) (hln_ : ∀ s9_, s9_ < B_.1 tp_ → B_.2.2.1 (40 * tp_ + s9_) ≠ 5 → ((e_ s9_).length : Int) = B_.2.2.2.1 (40 * tp_ + s9_)) (hs_ : s_ < K_) (h1_ : B_.2.2.1 (40 * tp_ + s_) = 1) (h_ : (e_ s_)[k_]? = some z_) : 0 ≤ su (t_in B_ 1 tp_) s_ ∧ su (t_in B_ 1 tp_) s_ + k_ < su (t_in B_ 1 tp_) K_ := by
  have l9_ : k_ < (e_ s_).length := (List.getElem?_eq_some_iff.mp h_).1
  have cb_ := su_el (f_ := t_in B_ 1 tp_) (k_ := K_) (fun j_ hj_ => by
    have z_ := ((hB_.2 tp_ (Nat.le_refl _)).2 j_ (by omega)).2.2.1
    unfold t_in
    split <;> omega)
  have c1_ := cb_.2.2 (s_ + 1) (by omega)
  have c2_ := cb_.2.2 s_ (by omega)
  have e1_ : su (t_in B_ 1 tp_) (s_ + 1) = su (t_in B_ 1 tp_) s_ + t_in B_ 1 tp_ s_ := rfl
  have t9_ : t_in B_ 1 tp_ s_ = B_.2.2.2.1 (40 * tp_ + s_) := by
    unfold t_in
    rw [if_pos h1_]
  have ln_ := hln_ s_ (by omega) (by omega)
  omega
theorem otr_cg {b_ : Nat → Int} {n_ tp_ K_ : Nat} {B_ : pA} {e_ : gE} {row_ row'_ : Nat → Int} (hB_ : a_ok b_ n_ B_ tp_) (hK_ : K_ ≤ B_.1 tp_) (hln_ : ∀ s9_, s9_ < B_.1 tp_ → B_.2.2.1 (40 * tp_ + s9_) ≠ 5 → ((e_ s9_).length : Int) = B_.2.2.2.1 (40 * tp_ + s9_)) (h_ : otr B_ tp_ K_ e_ row_) (g_ : ∀ j_ : Nat, (j_ : Int) < su (t_in B_ 1 tp_) K_ → row'_ j_ = row_ j_) : otr B_ tp_ K_ e_ row'_ := by
  intro s_ hs_ h1_ k_ z_ q_
  have w_ := otr_sb hB_ hK_ hln_ hs_ h1_ q_
  rw [g_ _ (by omega)]
  exact h_ s_ hs_ h1_ k_ z_ q_
theorem otr_fr {w_ : sx_Wl} {tp_ K_ : Nat} {B_ : pA} {e_ : gE} {S_ S'_ : sm_S} (h_ : otr B_ tp_ K_ e_ (S_.2.2.1 175 0)) (g_ : ai_fr (sx_W w_) S_ S'_) (hw_ : (sx_W w_).2.1 175 = false := by rfl) : otr B_ tp_ K_ e_ (S'_.2.2.1 175 0) := by
  rw [fr_arr (t := 175) g_ hw_]
  exact h_
theorem otr_s {tp_ s_ k_ : Nat} {B_ : pA} {e_ : gE} {row_ : Nat → Int} (h_ : otr B_ tp_ s_ e_ row_) (g_ : B_.2.2.1 (40 * tp_ + s_) = 1 → (e_ s_).length ≤ k_ ∧ rwt row_ (su (t_in B_ 1 tp_) s_).toNat k_ (e_ s_)) : otr B_ tp_ (s_ + 1) e_ row_ := by
  intro s9_ hs9_ h1_
  by_cases q_ : s9_ = s_
  · subst q_
    obtain ⟨g1_, g2_⟩ := g_ h1_
    intro j_ z_ e9_
    have l9_ : j_ < (e_ s9_).length := (List.getElem?_eq_some_iff.mp e9_).1
    exact g2_ j_ z_ (by omega) e9_
  · exact h_ s9_ (by omega) h1_
/-- two_ rows with the_ same outputs are_ alike -/
theorem otr_u {b_ : Nat → Int} {n_ tp_ : Nat} {B_ : pA} {e_ : gE} {r1_ r2_ : Nat → Int} (hB_ : a_ok b_ n_ B_ tp_) (hln_ : ∀ s9_, s9_ < B_.1 tp_ → B_.2.2.1 (40 * tp_ + s9_) ≠ 5 → ((e_ s9_).length : Int) = B_.2.2.2.1 (40 * tp_ + s9_)) : ∀ (K_ : Nat), K_ ≤ B_.1 tp_ → otr B_ tp_ K_ e_ r1_ → otr B_ tp_ K_ e_ r2_ → ∀ j_ : Nat, (j_ : Int) < su (t_in B_ 1 tp_) K_ → r1_ j_ = r2_ j_
  | 0, _, _, _, j_, hj_ => by
    have hj_ : (j_ : Int) < 0 := hj_
    omega
  | K_ + 1, hK_, h1_, h2_, j_, hj_ => by
    have e1_ : su (t_in B_ 1 tp_) (K_ + 1) = su (t_in B_ 1 tp_) K_ + t_in B_ 1 tp_ K_ := rfl
    by_cases c_ : (j_ : Int) < su (t_in B_ 1 tp_) K_
    · exact otr_u hB_ hln_ K_ (by omega) (fun s_ hs_ => h1_ s_ (by omega)) (fun s_ hs_ => h2_ s_ (by omega)) j_ c_
    · have k1_ : B_.2.2.1 (40 * tp_ + K_) = 1 := by
        by_cases q_ : B_.2.2.1 (40 * tp_ + K_) = 1
        · exact q_
        · exfalso
          have t9_ : t_in B_ 1 tp_ K_ = 0 := by
            unfold t_in
            rw [if_neg q_]
          omega
      have t9_ : t_in B_ 1 tp_ K_ = B_.2.2.2.1 (40 * tp_ + K_) := by
        unfold t_in
        rw [if_pos k1_]
      have ln_ := hln_ K_ (by omega) (by omega)
      have cb_ := su_el (f_ := t_in B_ 1 tp_) (k_ := K_) (fun j_ hj_ => by
        have z_ := ((hB_.2 tp_ (Nat.le_refl _)).2 j_ (by omega)).2.2.1
        unfold t_in
        split <;> omega)
      have c0_ := cb_.1
      have lk_ : j_ - (su (t_in B_ 1 tp_) K_).toNat < (e_ K_).length := by omega
      have q1_ := h1_ K_ (Nat.lt_succ_self K_) k1_ _ _ (List.getElem?_eq_getElem lk_)
      have q2_ := h2_ K_ (Nat.lt_succ_self K_) k1_ _ _ (List.getElem?_eq_getElem lk_)
      rw [show (su (t_in B_ 1 tp_) K_).toNat + (j_ - (su (t_in B_ 1 tp_) K_).toNat) = j_ by omega] at q1_ q2_
      exact q1_.trans q2_.symm

/-! M_.gatherOutputs -/
def vw_357n : sx_Wl := ([], [175], [])
def vq_357n (b_ : Nat → Int) (n_ : Nat) (T_ : Nat) (tp_ : Nat) (B_ : pA) (e_ : gE) (N_ : Nat) (S0_ : sm_S) (u_ : Option sm_V) (S1_ : sm_S) : Prop := ∃ v_ : Int, u_ = some (.inl v_) ∧ gi S1_ ∧ ai_fr (sx_W vw_357n) S0_ S1_ ∧ (v_ = su (t_in B_ 1 tp_) (B_.1 tp_) ∧ (∀ k9_ : Nat, (k9_ : Int) < v_ → 0 ≤ S1_.2.2.1 175 0 k9_ ∧ S1_.2.2.1 175 0 k9_ < 2 * (N_ : Int)) ∧ otr B_ tp_ (B_.1 tp_) e_ (S1_.2.2.1 175 0))
set_option maxHeartbeats 1500000 in
theorem vl_357n {sc_ : Nat × (Nat → Int)} (b_ : Nat → Int) (n_ : Nat) (T_ : Nat) (tp_ : Nat) (B_ : pA) (e_ : gE) (N_ : Nat) (S0_ : sm_S) (hmo_ : (S0_.1 13 0 12) = (tp_ : Int) + 1 ∧ tp_ ≤ 15) (hre_ : re1 b_ n_ T_ B_ tp_ S0_) (hB_ : a_ok b_ n_ B_ tp_) (hsu_ : su (t_in B_ 1 tp_) (B_.1 tp_) ≤ 16) (hE_ : ∀ s9_, s9_ < 40 → rwv (S0_.2.2.1 144 0) (8 * s9_) (e_ s9_)) (hln_ : ∀ s9_, s9_ < B_.1 tp_ → B_.2.2.1 (40 * tp_ + s9_) ≠ 5 → ((e_ s9_).length : Int) = B_.2.2.2.1 (40 * tp_ + s9_)) (hlw_ : ∀ s9_, lwl N_ (e_ s9_)) : ∀ nn_ : Nat, (∀ (top_ : Int) (o_ : Int) (s_ : Int) (S_ : sm_S), gi S_ → ai_fr (sx_W vw_357n) S0_ S_ → ((top_ = (tp_ : Int) ∧ 0 ≤ s_ ∧ s_ ≤ (B_.1 tp_ : Int) ∧ o_ = su (t_in B_ 1 tp_) s_.toNat) ∧ (∀ k9_ : Nat, (k9_ : Int) < o_ → 0 ≤ S_.2.2.1 175 0 k9_ ∧ S_.2.2.1 175 0 k9_ < 2 * (N_ : Int)) ∧ (otr B_ tp_ s_.toNat e_ (S_.2.2.1 175 0)) ∧ True) → ((20 * (50 - s_) + 10).toNat) < nn_ → sm_T (mt_P sc_) 0 357 (11, [some (.inr (.inr (some (13, 0)))), some (.inl top_), some (.inl o_), some (.inl s_), none], [], S_) (fun ro9_ => ∃ u_ S1_, ro9_ = (.inl u_, S1_, 0) ∧ vq_357n b_ n_ T_ tp_ B_ e_ N_ S0_ u_ S1_)) ∧ (∀ (top_ : Int) (o_ : Int) (s_ : Int) (k_ : Int) (S_ : sm_S), gi S_ → ai_fr (sx_W vw_357n) S0_ S_ → ((top_ = (tp_ : Int) ∧ 0 ≤ s_ ∧ s_ < (B_.1 tp_ : Int) ∧ 0 ≤ k_ ∧ k_ ≤ B_.2.2.2.1 (40 * tp_ + s_.toNat) ∧ o_ = su (t_in B_ 1 tp_) s_.toNat + k_ ∧ (0 < k_ → B_.2.2.1 (40 * tp_ + s_.toNat) = 1)) ∧ (∀ k9_ : Nat, (k9_ : Int) < o_ → 0 ≤ S_.2.2.1 175 0 k9_ ∧ S_.2.2.1 175 0 k9_ < 2 * (N_ : Int)) ∧ (otr B_ tp_ s_.toNat e_ (S_.2.2.1 175 0)) ∧ (rwt (S_.2.2.1 175 0) (su (t_in B_ 1 tp_) s_.toNat).toNat k_.toNat (e_ s_.toNat)) ∧ True) → ((20 * (50 - s_) + 9 - k_).toNat) < nn_ → sm_T (mt_P sc_) 0 357 (24, [some (.inr (.inr (some (13, 0)))), some (.inl top_), some (.inl o_), some (.inl s_), some (.inl k_)], [], S_) (fun ro9_ => ∃ u_ S1_, ro9_ = (.inl u_, S1_, 0) ∧ vq_357n b_ n_ T_ tp_ B_ e_ N_ S0_ u_ S1_)) := by
  intro nn_
  induction nn_ with
  | zero => exact ⟨fun _ _ _ _ _ _ _ h_ => absurd h_ (Nat.not_lt_zero _), fun _ _ _ _ _ _ _ _ h_ => absurd h_ (Nat.not_lt_zero _)⟩
  | succ nn_ ih_ =>
    refine ⟨?_, ?_⟩
    · rintro top_ o_ s_ S_ hI_ hF_ ⟨h0_, h1_, h2_, -⟩ hm_
      have mo1_ : S_.1 13 0 12 = (tp_ : Int) + 1 := (hF_.1 13 0 12 rfl).trans hmo_.1
      have tp15_ := hmo_.2
      have B40_ := (hB_.2 tp_ (Nat.le_refl _)).1
      have cn_ : S_.2.2.1 126 0 top_.toNat = (B_.1 tp_ : Int) := by rw [fr_arr (t := 126) (i := 0) hF_ rfl, show top_.toNat = tp_ by omega]; exact hre_.1
      have cb_ := su_el (f_ := t_in B_ 1 tp_) (k_ := B_.1 tp_) (fun j_ hj_ => by have z_ := ((hB_.2 tp_ (Nat.le_refl _)).2 j_ hj_).2.2.1; unfold t_in; split <;> omega)
      have sv_ : s_ < (B_.1 tp_ : Int) → S_.2.2.1 128 0 (40 * top_ + s_).toNat = r_s2 (B_.2.2.1 (40 * tp_ + s_.toNat)) ∧ S_.2.2.1 129 0 (40 * top_ + s_).toNat = B_.2.2.2.1 (40 * tp_ + s_.toNat) ∧ (r_s2 (B_.2.2.1 (40 * tp_ + s_.toNat)) = 2 ↔ B_.2.2.1 (40 * tp_ + s_.toNat) = 1) := by intro z_; rw [fr_arr (t := 128) (i := 0) hF_ rfl, fr_arr (t := 129) (i := 0) hF_ rfl, show (40 * top_ + s_).toNat = 40 * tp_ + s_.toNat by omega]; exact ⟨(hre_.2 s_.toNat (by omega)).2.1, (hre_.2 s_.toNat (by omega)).2.2.1, by unfold r_s2; split <;> (try split) <;> omega⟩
      have s1_ : s_ < (B_.1 tp_ : Int) → su (t_in B_ 1 tp_) (s_.toNat + 1) = su (t_in B_ 1 tp_) s_.toNat + t_in B_ 1 tp_ s_.toNat ∧ su (t_in B_ 1 tp_) (s_.toNat + 1) ≤ su (t_in B_ 1 tp_) (B_.1 tp_) ∧ 0 ≤ su (t_in B_ 1 tp_) s_.toNat := fun z_ => ⟨rfl, (cb_.2.2 (s_.toNat + 1) (by omega)).2, (cb_.2.2 s_.toNat (by omega)).1⟩
      have f44_ : S_.2.2.1 144 0 = S0_.2.2.1 144 0 := fr_arr hF_ rfl
      have a40_ : a_ok b_ n_ B_ tp_ := hB_
      refine sm_T_go 4 (c1 := (17, [some (.inr (.inr (some (13, 0)))), some (.inl top_), some (.inl o_), some (.inl s_), none], [.inl top_, .inr (.inr (some (126, 0))), .inl s_], S_)) rfl ?_
      refine sm_T_iald (n := 16) rfl rfl (by omega) (by omega) ?_
      have bx1_ : 0 ≤ S_.2.2.1 126 0 top_.toNat ∧ S_.2.2.1 126 0 top_.toNat ≤ 40 := hI_.2 126 0 _
      refine sm_T_br (a := 3) (z := 70) rfl (fun cx2_ => ?_) (fun cx2_ => ?_)
      · have cx2_ : (S_.2.2.1 126 0 top_.toNat) ≤ s_ := of_decide_eq_true cx2_
        refine sm_T_go 1 (c1 := (89, [some (.inr (.inr (some (13, 0)))), some (.inl top_), some (.inl o_), some (.inl s_), none], [.inl o_], S_)) rfl ?_
        refine sm_T_ri rfl ⟨_, _, rfl, _, rfl, hI_, hF_, ?_⟩
        have se_ : s_.toNat = B_.1 tp_ := by omega
        rw [se_] at h0_
        refine ⟨h0_.2.2.2, fun k9_ hk9_ => h1_ k9_ ?_, by (rw [se_] at h2_; exact h2_)⟩
        omega
      · have cx2_ : ¬ ((S_.2.2.1 126 0 top_.toNat) ≤ s_) := of_decide_eq_false cx2_
        obtain ⟨sv1_, sv2_, sv3_⟩ := sv_ (by omega)
        have s2_ := s1_ (by omega)
        have wb := ((hB_.2 tp_ (Nat.le_refl _)).2 s_.toNat (by omega)).2.2.1
        refine sm_T_go 2 (c1 := (24, [some (.inr (.inr (some (13, 0)))), some (.inl top_), some (.inl o_), some (.inl s_), some (.inl 0)], [], S_)) rfl ?_
        refine ih_.2 top_ o_ s_ 0 S_ hI_ hF_ ⟨?_, ?_, ?_, ?_, trivial⟩ ?_
        · omega
        · exact h1_
        · exact h2_
        · (intro k9_ z9_ h9_; exact absurd h9_ (Nat.not_lt_zero _))
        · omega
    · rintro top_ o_ s_ k_ S_ hI_ hF_ ⟨h0_, h1_, h2_, h3_, -⟩ hm_
      have mo1_ : S_.1 13 0 12 = (tp_ : Int) + 1 := (hF_.1 13 0 12 rfl).trans hmo_.1
      have tp15_ := hmo_.2
      have B40_ := (hB_.2 tp_ (Nat.le_refl _)).1
      have cn_ : S_.2.2.1 126 0 top_.toNat = (B_.1 tp_ : Int) := by rw [fr_arr (t := 126) (i := 0) hF_ rfl, show top_.toNat = tp_ by omega]; exact hre_.1
      have cb_ := su_el (f_ := t_in B_ 1 tp_) (k_ := B_.1 tp_) (fun j_ hj_ => by have z_ := ((hB_.2 tp_ (Nat.le_refl _)).2 j_ hj_).2.2.1; unfold t_in; split <;> omega)
      have sv_ : s_ < (B_.1 tp_ : Int) → S_.2.2.1 128 0 (40 * top_ + s_).toNat = r_s2 (B_.2.2.1 (40 * tp_ + s_.toNat)) ∧ S_.2.2.1 129 0 (40 * top_ + s_).toNat = B_.2.2.2.1 (40 * tp_ + s_.toNat) ∧ (r_s2 (B_.2.2.1 (40 * tp_ + s_.toNat)) = 2 ↔ B_.2.2.1 (40 * tp_ + s_.toNat) = 1) := by intro z_; rw [fr_arr (t := 128) (i := 0) hF_ rfl, fr_arr (t := 129) (i := 0) hF_ rfl, show (40 * top_ + s_).toNat = 40 * tp_ + s_.toNat by omega]; exact ⟨(hre_.2 s_.toNat (by omega)).2.1, (hre_.2 s_.toNat (by omega)).2.2.1, by unfold r_s2; split <;> (try split) <;> omega⟩
      have s1_ : s_ < (B_.1 tp_ : Int) → su (t_in B_ 1 tp_) (s_.toNat + 1) = su (t_in B_ 1 tp_) s_.toNat + t_in B_ 1 tp_ s_.toNat ∧ su (t_in B_ 1 tp_) (s_.toNat + 1) ≤ su (t_in B_ 1 tp_) (B_.1 tp_) ∧ 0 ≤ su (t_in B_ 1 tp_) s_.toNat := fun z_ => ⟨rfl, (cb_.2.2 (s_.toNat + 1) (by omega)).2, (cb_.2.2 s_.toNat (by omega)).1⟩
      have f44_ : S_.2.2.1 144 0 = S0_.2.2.1 144 0 := fr_arr hF_ rfl
      have a40_ : a_ok b_ n_ B_ tp_ := hB_
      obtain ⟨sv1_, sv2_, sv3_⟩ := sv_ (by omega)
      have s2_ := s1_ (by omega)
      have wb := ((hB_.2 tp_ (Nat.le_refl _)).2 s_.toNat (by omega)).2.2.1
      refine sm_T_go 5 (c1 := (33, [some (.inr (.inr (some (13, 0)))), some (.inl top_), some (.inl o_), some (.inl s_), some (.inl k_)], [.inl top_, .inl 40, .inr (.inr (some (129, 0))), .inl k_], S_)) rfl ?_
      refine sm_T_bin (w := 40 * top_) rfl (bi_mul (by omega) (by omega) (by omega)) ?_
      refine sm_T_go 1 (c1 := (35, [some (.inr (.inr (some (13, 0)))), some (.inl top_), some (.inl o_), some (.inl s_), some (.inl k_)], [.inl s_, .inl (40 * top_), .inr (.inr (some (129, 0))), .inl k_], S_)) rfl ?_
      refine sm_T_bin (w := 40 * top_ + s_) rfl (bi_add (by omega) (by omega) (by omega)) ?_
      refine sm_T_iald (n := 640) rfl rfl (by omega) (by omega) ?_
      have bx1_ : 0 ≤ S_.2.2.1 129 0 (40 * top_ + s_).toNat ∧ S_.2.2.1 129 0 (40 * top_ + s_).toNat ≤ 8 := hI_.2 129 0 _
      refine sm_T_br (a := 3) (z := 45) rfl (fun cx2_ => ?_) (fun cx2_ => ?_)
      · have cx2_ : (S_.2.2.1 129 0 (40 * top_ + s_).toNat) ≤ k_ := of_decide_eq_true cx2_
        refine sm_T_inc (a := 3) (z := 1) (v := s_) (w := s_ + 1) rfl rfl (by omega) (by omega) (by omega) ?_
        refine sm_T_go 1 (c1 := (11, [some (.inr (.inr (some (13, 0)))), some (.inl top_), some (.inl o_), some (.inl (s_ + 1)), some (.inl k_)], [], S_)) rfl ?_
        refine sm_T_wk [some (.inr (.inr (some (13, 0)))), some (.inl top_), some (.inl o_), some (.inl (s_ + 1)), none] (by exact ⟨rfl, rfl, rfl, rfl, trivial⟩) ?_
        refine ih_.1 top_ o_ (s_ + 1) S_ hI_ hF_ ⟨?_, ?_, ?_, trivial⟩ ?_
        · have t9_ : t_in B_ 1 tp_ s_.toNat = k_ := by unfold t_in; split <;> omega
          rw [show (s_ + 1).toNat = s_.toNat + 1 by omega]
          omega
        · exact h1_
        · rw [show (s_ + 1).toNat = s_.toNat + 1 by omega]
          refine otr_s (k_ := k_.toNat) h2_ (fun q9_ => ⟨?_, h3_⟩)
          have ln9_ := hln_ s_.toNat (by omega) (by omega)
          omega
        · omega
      · have cx2_ : ¬ ((S_.2.2.1 129 0 (40 * top_ + s_).toNat) ≤ k_) := of_decide_eq_false cx2_
        refine sm_T_go 4 (c1 := (47, [some (.inr (.inr (some (13, 0)))), some (.inl top_), some (.inl o_), some (.inl s_), some (.inl k_)], [.inl top_, .inl 40, .inr (.inr (some (128, 0)))], S_)) rfl ?_
        refine sm_T_bin (w := 40 * top_) rfl (bi_mul (by omega) (by omega) (by omega)) ?_
        refine sm_T_go 1 (c1 := (49, [some (.inr (.inr (some (13, 0)))), some (.inl top_), some (.inl o_), some (.inl s_), some (.inl k_)], [.inl s_, .inl (40 * top_), .inr (.inr (some (128, 0)))], S_)) rfl ?_
        refine sm_T_bin (w := 40 * top_ + s_) rfl (bi_add (by omega) (by omega) (by omega)) ?_
        refine sm_T_iald (n := 640) rfl rfl (by omega) (by omega) ?_
        have bx3_ : 0 ≤ S_.2.2.1 128 0 (40 * top_ + s_).toNat ∧ S_.2.2.1 128 0 (40 * top_ + s_).toNat ≤ 5 := hI_.2 128 0 _
        refine sm_T_go 1 (c1 := (52, [some (.inr (.inr (some (13, 0)))), some (.inl top_), some (.inl o_), some (.inl s_), some (.inl k_)], [.inl 2, .inl (S_.2.2.1 128 0 (40 * top_ + s_).toNat)], S_)) rfl ?_
        refine sm_T_br (a := 1) (z := 30) rfl (fun cx4_ => ?_) (fun cx4_ => ?_)
        · have cx4_ : (S_.2.2.1 128 0 (40 * top_ + s_).toNat) ≠ 2 := of_decide_eq_true cx4_
          refine sm_T_inc (a := 3) (z := 1) (v := s_) (w := s_ + 1) rfl rfl (by omega) (by omega) (by omega) ?_
          refine sm_T_go 1 (c1 := (11, [some (.inr (.inr (some (13, 0)))), some (.inl top_), some (.inl o_), some (.inl (s_ + 1)), some (.inl k_)], [], S_)) rfl ?_
          refine sm_T_wk [some (.inr (.inr (some (13, 0)))), some (.inl top_), some (.inl o_), some (.inl (s_ + 1)), none] (by exact ⟨rfl, rfl, rfl, rfl, trivial⟩) ?_
          refine ih_.1 top_ o_ (s_ + 1) S_ hI_ hF_ ⟨?_, ?_, ?_, trivial⟩ ?_
          · have t9_ : t_in B_ 1 tp_ s_.toNat = k_ := by unfold t_in; split <;> omega
            rw [show (s_ + 1).toNat = s_.toNat + 1 by omega]
            omega
          · exact h1_
          · rw [show (s_ + 1).toNat = s_.toNat + 1 by omega]
            refine otr_s (k_ := k_.toNat) h2_ (fun q9_ => ⟨?_, h3_⟩)
            have ln9_ := hln_ s_.toNat (by omega) (by omega)
            omega
          · omega
        · have cx4_ : ¬ ((S_.2.2.1 128 0 (40 * top_ + s_).toNat) ≠ 2) := of_decide_eq_false cx4_
          have k1_ : B_.2.2.1 (40 * tp_ + s_.toNat) = 1 := sv3_.mp (by rw [← sv1_]; omega)
          have t9_ : t_in B_ 1 tp_ s_.toNat = B_.2.2.2.1 (40 * tp_ + s_.toNat) := by unfold t_in; rw [if_pos k1_]
          have ln9_ := hln_ s_.toNat (by omega) (by omega)
          have e9_ := rwv_lz (hE_ s_.toNat (by omega)) (hlw_ s_.toNat) (k_ := k_.toNat) (by omega)
          rw [← f44_, show 8 * s_.toNat + k_.toNat = (8 * s_ + k_).toNat by omega] at e9_
          have cp9_ : S_.2.2.1 144 0 (8 * s_ + k_).toNat ≤ 2047 := (hI_.2 144 0 _).2
          refine sm_T_go 7 (c1 := (67, [some (.inr (.inr (some (13, 0)))), some (.inl top_), some (.inl o_), some (.inl s_), some (.inl k_)], [.inl s_, .inl 8, .inr (.inr (some (144, 0))), .inl o_, .inr (.inr (some (175, 0)))], S_)) rfl ?_
          refine sm_T_bin (w := 8 * s_) rfl (bi_mul (by omega) (by omega) (by omega)) ?_
          refine sm_T_go 1 (c1 := (70, [some (.inr (.inr (some (13, 0)))), some (.inl top_), some (.inl o_), some (.inl s_), some (.inl k_)], [.inl k_, .inl (8 * s_), .inr (.inr (some (144, 0))), .inl o_, .inr (.inr (some (175, 0)))], S_)) rfl ?_
          refine sm_T_bin (w := 8 * s_ + k_) rfl (bi_add (by omega) (by omega) (by omega)) ?_
          refine sm_T_iald (n := 5120) rfl rfl (by omega) (by omega) ?_
          have bx5_ : 0 ≤ S_.2.2.1 144 0 (8 * s_ + k_).toNat ∧ S_.2.2.1 144 0 (8 * s_ + k_).toNat ≤ 2047 := hI_.2 144 0 _
          refine sm_T_iast (n := 16) rfl rfl (by omega) (by omega) ?_
          have hIx6_ : gi (sm_aI S_ 175 0 o_.toNat (S_.2.2.1 144 0 (8 * s_ + k_).toNat)) := gi_aI hI_ (show 0 ≤ (S_.2.2.1 144 0 (8 * s_ + k_).toNat) ∧ (S_.2.2.1 144 0 (8 * s_ + k_).toNat) ≤ 2047 from ⟨by omega, by omega⟩)
          have hFx7_ : ai_fr (sx_W vw_357n) S0_ (sm_aI S_ 175 0 o_.toNat (S_.2.2.1 144 0 (8 * s_ + k_).toNat)) := ai_fr_tr hF_ (ai_fr_aI rfl)
          refine sm_T_inc (a := 2) (z := 1) (v := o_) (w := o_ + 1) rfl rfl (by omega) (by omega) (by omega) ?_
          refine sm_T_inc (a := 4) (z := 1) (v := k_) (w := k_ + 1) rfl rfl (by omega) (by omega) (by omega) ?_
          refine sm_T_go 1 (c1 := (24, [some (.inr (.inr (some (13, 0)))), some (.inl top_), some (.inl (o_ + 1)), some (.inl s_), some (.inl (k_ + 1))], [], sm_aI S_ 175 0 o_.toNat (S_.2.2.1 144 0 (8 * s_ + k_).toNat))) rfl ?_
          refine ih_.2 top_ (o_ + 1) s_ (k_ + 1) (sm_aI S_ 175 0 o_.toNat (S_.2.2.1 144 0 (8 * s_ + k_).toNat)) hIx6_ hFx7_ ⟨?_, ?_, ?_, ?_, trivial⟩ ?_
          · omega
          · intro k9_ hk9_
            rw [rd_eq]
            by_cases z9_ : (k9_ : Int) = o_
            · rw [if_pos (by omega)]; exact e9_
            · rw [if_neg (by omega)]; exact h1_ k9_ (by omega)
          · refine otr_cg hB_ (by omega) hln_ h2_ (fun j9_ hj9_ => ?_)
            rw [rd_eq, if_neg (by omega)]
          · intro k9_ z9_ h9_ e8_
            rw [rd_eq]
            by_cases q9_ : k9_ = k_.toNat
            · rw [if_pos (by omega)]; have v9_ := hE_ s_.toNat (by omega) k9_ z9_ e8_; rw [q9_, ← f44_, show 8 * s_.toNat + k_.toNat = (8 * s_ + k_).toNat by omega] at v9_; exact v9_
            · rw [if_neg (by omega)]; exact h3_ k9_ z9_ (by omega) e8_
          · omega
set_option maxHeartbeats 1500000 in
theorem vc_357n {sc_ : Nat × (Nat → Int)} (b_ : Nat → Int) (n_ : Nat) (T_ : Nat) (tp_ : Nat) (B_ : pA) (e_ : gE) (N_ : Nat) (S0_ : sm_S) (hI_ : gi S0_) (hmo_ : (S0_.1 13 0 12) = (tp_ : Int) + 1 ∧ tp_ ≤ 15) (hre_ : re1 b_ n_ T_ B_ tp_ S0_) (hB_ : a_ok b_ n_ B_ tp_) (hsu_ : su (t_in B_ 1 tp_) (B_.1 tp_) ≤ 16) (hE_ : ∀ s9_, s9_ < 40 → rwv (S0_.2.2.1 144 0) (8 * s9_) (e_ s9_)) (hln_ : ∀ s9_, s9_ < B_.1 tp_ → B_.2.2.1 (40 * tp_ + s9_) ≠ 5 → ((e_ s9_).length : Int) = B_.2.2.2.1 (40 * tp_ + s9_)) (hlw_ : ∀ s9_, lwl N_ (e_ s9_)) : sm_T (mt_P sc_) 0 357 (0, [some (.inr (.inr (some (13, 0)))), none, none, none, none], [], S0_) (fun ro9_ => ∃ u_ S1_, ro9_ = (.inl u_, S1_, 0) ∧ vq_357n b_ n_ T_ tp_ B_ e_ N_ S0_ u_ S1_) := by
  have hF_ : ai_fr (sx_W vw_357n) S0_ S0_ := ai_fr_rf
  have bx1_ : 0 ≤ S0_.1 13 0 12 ∧ S0_.1 13 0 12 ≤ 16 := hI_.1 13 0 12 rfl
  refine sm_T_go 3 (c1 := (5, [some (.inr (.inr (some (13, 0)))), none, none, none, none], [.inl 1, .inl (S0_.1 13 0 12)], S0_)) rfl ?_
  refine sm_T_bin (w := (S0_.1 13 0 12) - 1) rfl (bi_sub (by omega) (by omega) (by omega)) ?_
  refine sm_T_go 5 (c1 := (11, [some (.inr (.inr (some (13, 0)))), some (.inl ((S0_.1 13 0 12) - 1)), some (.inl 0), some (.inl 0), none], [], S0_)) rfl ?_
  refine (vl_357n b_ n_ T_ tp_ B_ e_ N_ S0_ hmo_ hre_ hB_ hsu_ hE_ hln_ hlw_ _).1 ((S0_.1 13 0 12) - 1) 0 0 S0_ hI_ hF_ ⟨?_, ?_, ?_, trivial⟩ (Nat.lt_succ_self _)
  · exact ⟨by omega, by decide, by omega, rfl⟩
  · (intro k9_ hk9_; omega)
  · (intro s9_ hs9_; exact absurd hs9_ (Nat.not_lt_zero _))

theorem swd_fr {w_ : sx_Wl} {F_ N_ : Nat} {lo_ hi_ : Nat → Int} {S_ S'_ : sm_S} (h_ : swd F_ N_ lo_ hi_ (S_.2.2.1 172 0)) (g_ : ai_fr (sx_W w_) S_ S'_) (hw_ : (sx_W w_).2.1 172 = false := by rfl) : swd F_ N_ lo_ hi_ (S'_.2.2.1 172 0) := by
  rw [fr_arr (t := 172) g_ hw_]
  exact h_
/-- whom the_ kept nodes stand for_ -/
def dgs (d_ F_ N_ : Nat) (S_ : sm_S) : Prop := swd F_ N_ (fun k_ => S_.2.2.1 164 0 (2048 * d_ + k_)) (fun k_ => S_.2.2.1 165 0 (2048 * d_ + k_)) (fun k_ => S_.2.2.1 166 0 (2048 * d_ + k_))
theorem dgs_fr {w_ : sx_Wl} {d_ F_ N_ : Nat} {S_ S'_ : sm_S} (h_ : dgs d_ F_ N_ S_) (g_ : ai_fr (sx_W w_) S_ S'_) (h1_ : (sx_W w_).2.1 164 = false := by rfl) (h2_ : (sx_W w_).2.1 165 = false := by rfl) (h3_ : (sx_W w_).2.1 166 = false := by rfl) : dgs d_ F_ N_ S'_ := by
  unfold dgs
  rw [fr_arr (t := 164) g_ h1_, fr_arr (t := 165) g_ h2_, fr_arr (t := 166) g_ h3_]
  exact h_
theorem dgs_of {w_ : sx_Wl} {dd_ F_ R_ N_ n_ k1_ k2_ p_ : Nat} {I_ o_ bg_ : Int} {S0_ S_ : sm_S} (h_ : kdB dd_ F_ I_ o_ bg_ R_ n_ k1_ k2_ p_ S_) (hs_ : swd F_ n_ (S0_.2.2.1 140 0) (S0_.2.2.1 141 0) (S_.2.2.1 172 0)) (hn_ : n_ = N_) (hF_ : ai_fr (sx_W w_) S0_ S_) (g1_ : (sx_W w_).2.1 140 = false := by rfl) (g2_ : (sx_W w_).2.1 141 = false := by rfl) : dgs dd_ F_ N_ S_ := by
  subst hn_
  obtain ⟨-, -, h3_, -⟩ := h_
  rw [← fr_arr (t := 140) (i := 0) hF_ g1_, ← fr_arr (t := 141) (i := 0) hF_ g2_] at hs_
  exact swd_cg hs_ (fun k_ hk_ => h3_ k_ hk_)
/-- what the_ reference keeps of_ outputs, next values and beginning -/
def dgn (d_ R_ : Nat) (B_ : pA) (tp_ : Nat) (e_ : gE) (x_ : gN) (S_ : sm_S) : Prop := (S_.2.2.1 157 0 d_ = x_.2 ∧ S_.2.2.1 158 0 d_ = x_.2) ∧ (∀ k_, k_ < R_ → S_.2.2.1 168 0 (6 * d_ + k_) = x_.1 k_) ∧ otr B_ tp_ (B_.1 tp_) e_ (fun k_ => S_.2.2.1 167 0 (16 * d_ + k_))
theorem dgn_fr {w_ : sx_Wl} {d_ R_ tp_ : Nat} {B_ : pA} {e_ : gE} {x_ : gN} {S_ S'_ : sm_S} (h_ : dgn d_ R_ B_ tp_ e_ x_ S_) (g_ : ai_fr (sx_W w_) S_ S'_) (h1_ : (sx_W w_).2.1 157 = false := by rfl) (h2_ : (sx_W w_).2.1 158 = false := by rfl) (h3_ : (sx_W w_).2.1 167 = false := by rfl) (h4_ : (sx_W w_).2.1 168 = false := by rfl) : dgn d_ R_ B_ tp_ e_ x_ S'_ := by
  unfold dgn
  rw [fr_arr (t := 157) g_ h1_, fr_arr (t := 158) g_ h2_, fr_arr (t := 167) g_ h3_, fr_arr (t := 168) g_ h4_]
  exact h_
theorem dgn_of {w_ : sx_Wl} {b_ : Nat → Int} {n_ dd_ F_ I_ R_ N_ p_ tp_ : Nat} {B_ : pA} {e_ : gE} {x_ : gN} {o_ : Int} {S0_ S_ : sm_S} (h_ : kdB dd_ F_ (I_ : Int) o_ (S0_.1 13 0 52) R_ N_ o_.toNat R_ p_ S_) (ho_ : o_ = su (t_in B_ 1 tp_) (B_.1 tp_)) (hx_ : rxn R_ x_ S0_) (hF_ : ai_fr (sx_W w_) S0_ S_) (hB_ : a_ok b_ n_ B_ tp_) (hln_ : ∀ s9_, s9_ < B_.1 tp_ → B_.2.2.1 (40 * tp_ + s9_) ≠ 5 → ((e_ s9_).length : Int) = B_.2.2.2.1 (40 * tp_ + s9_)) (ht_ : otr B_ tp_ (B_.1 tp_) e_ (S_.2.2.1 175 0)) (g1_ : (sx_W w_).2.1 151 = false := by rfl) : dgn dd_ R_ B_ tp_ e_ x_ S_ := by
  obtain ⟨h1_, -, -, h4_, h5_, -⟩ := h_
  refine ⟨⟨h1_.2.2.2.2.1.trans hx_.1, h1_.2.2.2.2.2.1.trans hx_.1⟩, fun k_ hk_ => ?_, otr_cg hB_ (Nat.le_refl _) hln_ ht_ (fun j_ hj_ => h4_ j_ (by omega))⟩
  rw [h5_ k_ hk_, fr_arr (t := 151) (i := 0) hF_ g1_]
  exact hx_.2 k_ hk_

/-! M_.keepDesign -/
def vw_360n : sx_Wl := ([], [153, 154, 155, 156, 157, 158, 159, 160, 161, 162, 163, 164, 165, 166, 167, 168, 169, 170, 171, 172, 173, 174, 175, 176], [])
def vq_360n (d_ : Int) (b_ : Nat → Int) (n_ : Nat) (T_ : Nat) (tp_ : Nat) (B_ : pA) (e_ : gE) (N_ : Nat) (F_ : Nat) (I_ : Nat) (R_ : Nat) (dd_ : Nat) (x_ : gN) (S0_ : sm_S) (u_ : Option sm_V) (S1_ : sm_S) : Prop := u_ = none ∧ gi S1_ ∧ ai_fr (sx_W vw_360n) S0_ S1_ ∧ (rdf dd_ S0_ S1_ ∧ (S1_.2.2.1 153 0 dd_ = 1 ∧ dRk dd_ S1_ ∧ dgk dd_ F_ I_ R_ N_ (su (t_in B_ 1 tp_) (B_.1 tp_)) (S0_.2.2.1 140 0) (S0_.2.2.1 141 0) S1_ ∧ dgn dd_ R_ B_ tp_ e_ x_ S1_ ∧ dgs dd_ F_ N_ S1_ ∧ dgt dd_ F_ N_ (su (t_in B_ 1 tp_) (B_.1 tp_)).toNat R_ S1_))
set_option maxHeartbeats 4000000 in
set_option maxRecDepth 20000 in
theorem vl_360n {sc_ : Nat × (Nat → Int)} (d_ : Int) (b_ : Nat → Int) (n_ : Nat) (T_ : Nat) (tp_ : Nat) (B_ : pA) (e_ : gE) (N_ : Nat) (F_ : Nat) (I_ : Nat) (R_ : Nat) (dd_ : Nat) (x_ : gN) (S0_ : sm_S) (hd_ : d_ = (dd_ : Int) ∧ dd_ ≤ 5) (hmo_ : (S0_.1 13 0 12) = (tp_ : Int) + 1 ∧ tp_ ≤ 15) (hre_ : re1 b_ n_ T_ B_ tp_ S0_) (hB_ : a_ok b_ n_ B_ tp_) (hsu_ : 1 ≤ su (t_in B_ 1 tp_) (B_.1 tp_) ∧ su (t_in B_ 1 tp_) (B_.1 tp_) ≤ 16) (hE_ : ∀ s9_, s9_ < 40 → rwv (S0_.2.2.1 144 0) (8 * s9_) (e_ s9_)) (hln_ : ∀ s9_, s9_ < B_.1 tp_ → B_.2.2.1 (40 * tp_ + s9_) ≠ 5 → ((e_ s9_).length : Int) = B_.2.2.2.1 (40 * tp_ + s9_)) (hlw_ : ∀ s9_, lwl N_ (e_ s9_)) (hN_ : (S0_.1 13 0 37) = (N_ : Int)) (hg_ : rgr F_ S0_) (hrn_ : rnS S0_) (hI1_ : S0_.2.2.1 132 0 tp_ = (I_ : Int)) (hR1_ : (S0_.1 13 0 53) = (R_ : Int) ∧ R_ ≤ 6) (hFn_ : F_ = 1 + I_ + R_ ∧ F_ ≤ 13) (hxn_ : rxn R_ x_ S0_) : ∀ nn_ : Nat, (∀ (mo_ : Int) (o_ : Int) (n9_ : Int) (S_ : sm_S), gi S_ → ai_fr (sx_W vw_360n) S0_ S_ → ((0 ≤ mo_ ∧ mo_ = (tp_ : Int) ∧ 1 ≤ o_ ∧ o_ ≤ 16 ∧ o_ = su (t_in B_ 1 tp_) (B_.1 tp_)) ∧ (otr B_ tp_ (B_.1 tp_) e_ (S_.2.2.1 175 0)) ∧ (swd F_ (S0_.1 13 0 37).toNat (S0_.2.2.1 140 0) (S0_.2.2.1 141 0) (S_.2.2.1 172 0)) ∧ (fwr F_ (S0_.1 13 0 37).toNat 64 (-1) (S0_.2.2.1 140 0) (S0_.2.2.1 141 0) (S_.2.2.2 171 0)) ∧ (0 ≤ n9_ ∧ n9_ ≤ S0_.1 13 0 37) ∧ (kdB dd_ F_ (I_ : Int) o_ (S0_.1 13 0 52) R_ n9_.toNat 0 0 0 S_) ∧ (rdf dd_ S0_ S_) ∧ True) → ((900000 - n9_).toNat) < nn_ → sm_T (mt_P sc_) 2 360 (121, [some (.inr (.inr (some (13, 0)))), some (.inl d_), some (.inl mo_), some (.inl o_), some (.inl n9_), none, none, none], [], S_) (fun ro9_ => ∃ u_ S1_, ro9_ = (.inl u_, S1_, 0) ∧ vq_360n d_ b_ n_ T_ tp_ B_ e_ N_ F_ I_ R_ dd_ x_ S0_ u_ S1_)) ∧ (∀ (mo_ : Int) (o_ : Int) (k_ : Int) (S_ : sm_S), gi S_ → ai_fr (sx_W vw_360n) S0_ S_ → ((0 ≤ mo_ ∧ mo_ = (tp_ : Int) ∧ 1 ≤ o_ ∧ o_ ≤ 16 ∧ o_ = su (t_in B_ 1 tp_) (B_.1 tp_)) ∧ (otr B_ tp_ (B_.1 tp_) e_ (S_.2.2.1 175 0)) ∧ (swd F_ (S0_.1 13 0 37).toNat (S0_.2.2.1 140 0) (S0_.2.2.1 141 0) (S_.2.2.1 172 0)) ∧ (fwr F_ (S0_.1 13 0 37).toNat 64 (-1) (S0_.2.2.1 140 0) (S0_.2.2.1 141 0) (S_.2.2.2 171 0)) ∧ (0 ≤ k_ ∧ k_ ≤ o_) ∧ (kdB dd_ F_ (I_ : Int) o_ (S0_.1 13 0 52) R_ (S0_.1 13 0 37).toNat k_.toNat 0 0 S_) ∧ (rdf dd_ S0_ S_) ∧ True) → ((800000 - k_).toNat) < nn_ → sm_T (mt_P sc_) 2 360 (199, [some (.inr (.inr (some (13, 0)))), some (.inl d_), some (.inl mo_), some (.inl o_), some (.inl k_), none, none, none], [], S_) (fun ro9_ => ∃ u_ S1_, ro9_ = (.inl u_, S1_, 0) ∧ vq_360n d_ b_ n_ T_ tp_ B_ e_ N_ F_ I_ R_ dd_ x_ S0_ u_ S1_)) ∧ (∀ (mo_ : Int) (o_ : Int) (k_ : Int) (S_ : sm_S), gi S_ → ai_fr (sx_W vw_360n) S0_ S_ → ((0 ≤ mo_ ∧ mo_ = (tp_ : Int) ∧ 1 ≤ o_ ∧ o_ ≤ 16 ∧ o_ = su (t_in B_ 1 tp_) (B_.1 tp_)) ∧ (otr B_ tp_ (B_.1 tp_) e_ (S_.2.2.1 175 0)) ∧ (swd F_ (S0_.1 13 0 37).toNat (S0_.2.2.1 140 0) (S0_.2.2.1 141 0) (S_.2.2.1 172 0)) ∧ (fwr F_ (S0_.1 13 0 37).toNat 64 (-1) (S0_.2.2.1 140 0) (S0_.2.2.1 141 0) (S_.2.2.2 171 0)) ∧ (0 ≤ k_ ∧ k_ ≤ (R_ : Int)) ∧ (kdB dd_ F_ (I_ : Int) o_ (S0_.1 13 0 52) R_ (S0_.1 13 0 37).toNat o_.toNat k_.toNat 0 S_) ∧ (rdf dd_ S0_ S_) ∧ True) → ((700000 - k_).toNat) < nn_ → sm_T (mt_P sc_) 2 360 (233, [some (.inr (.inr (some (13, 0)))), some (.inl d_), some (.inl mo_), some (.inl o_), some (.inl k_), none, none, none], [], S_) (fun ro9_ => ∃ u_ S1_, ro9_ = (.inl u_, S1_, 0) ∧ vq_360n d_ b_ n_ T_ tp_ B_ e_ N_ F_ I_ R_ dd_ x_ S0_ u_ S1_)) ∧ (∀ (mo_ : Int) (o_ : Int) (p_ : Int) (S_ : sm_S), gi S_ → ai_fr (sx_W vw_360n) S0_ S_ → ((0 ≤ mo_ ∧ mo_ = (tp_ : Int) ∧ 1 ≤ o_ ∧ o_ ≤ 16 ∧ o_ = su (t_in B_ 1 tp_) (B_.1 tp_)) ∧ (otr B_ tp_ (B_.1 tp_) e_ (S_.2.2.1 175 0)) ∧ (swd F_ (S0_.1 13 0 37).toNat (S0_.2.2.1 140 0) (S0_.2.2.1 141 0) (S_.2.2.1 172 0)) ∧ (fwr F_ (S0_.1 13 0 37).toNat 64 (-1) (S0_.2.2.1 140 0) (S0_.2.2.1 141 0) (S_.2.2.2 171 0)) ∧ (ktb dd_ R_ o_.toNat p_.toNat S_) ∧ (0 ≤ p_ ∧ p_ ≤ 2 ^ (I_ + R_)) ∧ (kdB dd_ F_ (I_ : Int) o_ (S0_.1 13 0 52) R_ (S0_.1 13 0 37).toNat o_.toNat R_ p_.toNat S_) ∧ (rdf dd_ S0_ S_) ∧ True) → ((100 * (5000 - p_) + 90).toNat) < nn_ → sm_T (mt_P sc_) 2 360 (270, [some (.inr (.inr (some (13, 0)))), some (.inl d_), some (.inl mo_), some (.inl o_), some (.inl p_), none, none, none], [], S_) (fun ro9_ => ∃ u_ S1_, ro9_ = (.inl u_, S1_, 0) ∧ vq_360n d_ b_ n_ T_ tp_ B_ e_ N_ F_ I_ R_ dd_ x_ S0_ u_ S1_)) ∧ (∀ (mo_ : Int) (o_ : Int) (p_ : Int) (ou_ : Int) (nx_ : Int) (k_ : Int) (S_ : sm_S), gi S_ → ai_fr (sx_W vw_360n) S0_ S_ → ((0 ≤ mo_ ∧ mo_ = (tp_ : Int) ∧ 1 ≤ o_ ∧ o_ ≤ 16 ∧ o_ = su (t_in B_ 1 tp_) (B_.1 tp_)) ∧ (otr B_ tp_ (B_.1 tp_) e_ (S_.2.2.1 175 0)) ∧ (swd F_ (S0_.1 13 0 37).toNat (S0_.2.2.1 140 0) (S0_.2.2.1 141 0) (S_.2.2.1 172 0)) ∧ (fwr F_ (S0_.1 13 0 37).toNat 64 (-1) (S0_.2.2.1 140 0) (S0_.2.2.1 141 0) (S_.2.2.2 171 0)) ∧ (ktb dd_ R_ o_.toNat p_.toNat S_) ∧ (ou_ = kot (S_.2.2.2 171 0) (S_.2.2.1 175 0) k_.toNat p_.toNat) ∧ (0 ≤ p_ ∧ p_ < 2 ^ (I_ + R_) ∧ 0 ≤ k_ ∧ k_ ≤ o_ ∧ 0 ≤ ou_ ∧ ou_ < 65536 ∧ nx_ = 0) ∧ (kdB dd_ F_ (I_ : Int) o_ (S0_.1 13 0 52) R_ (S0_.1 13 0 37).toNat o_.toNat R_ p_.toNat S_) ∧ (rdf dd_ S0_ S_) ∧ True) → ((100 * (5000 - p_) + 80 - k_).toNat) < nn_ → sm_T (mt_P sc_) 2 360 (297, [some (.inr (.inr (some (13, 0)))), some (.inl d_), some (.inl mo_), some (.inl o_), some (.inl p_), some (.inl ou_), some (.inl nx_), some (.inl k_)], [], S_) (fun ro9_ => ∃ u_ S1_, ro9_ = (.inl u_, S1_, 0) ∧ vq_360n d_ b_ n_ T_ tp_ B_ e_ N_ F_ I_ R_ dd_ x_ S0_ u_ S1_)) ∧ (∀ (mo_ : Int) (o_ : Int) (p_ : Int) (ou_ : Int) (nx_ : Int) (k_ : Int) (S_ : sm_S), gi S_ → ai_fr (sx_W vw_360n) S0_ S_ → ((0 ≤ mo_ ∧ mo_ = (tp_ : Int) ∧ 1 ≤ o_ ∧ o_ ≤ 16 ∧ o_ = su (t_in B_ 1 tp_) (B_.1 tp_)) ∧ (otr B_ tp_ (B_.1 tp_) e_ (S_.2.2.1 175 0)) ∧ (swd F_ (S0_.1 13 0 37).toNat (S0_.2.2.1 140 0) (S0_.2.2.1 141 0) (S_.2.2.1 172 0)) ∧ (fwr F_ (S0_.1 13 0 37).toNat 64 (-1) (S0_.2.2.1 140 0) (S0_.2.2.1 141 0) (S_.2.2.2 171 0)) ∧ (ktb dd_ R_ o_.toNat p_.toNat S_) ∧ (ou_ = kot (S_.2.2.2 171 0) (S_.2.2.1 175 0) o_.toNat p_.toNat) ∧ (nx_ = kot (S_.2.2.2 171 0) (S_.2.2.1 151 0) k_.toNat p_.toNat) ∧ (0 ≤ p_ ∧ p_ < 2 ^ (I_ + R_) ∧ 0 ≤ k_ ∧ k_ ≤ (R_ : Int) ∧ 0 ≤ ou_ ∧ ou_ < 65536) ∧ (0 ≤ nx_ ∧ nx_ < 2 ^ R_) ∧ (kdB dd_ F_ (I_ : Int) o_ (S0_.1 13 0 52) R_ (S0_.1 13 0 37).toNat o_.toNat R_ p_.toNat S_) ∧ (rdf dd_ S0_ S_) ∧ True) → ((100 * (5000 - p_) + 40 - k_).toNat) < nn_ → sm_T (mt_P sc_) 2 360 (333, [some (.inr (.inr (some (13, 0)))), some (.inl d_), some (.inl mo_), some (.inl o_), some (.inl p_), some (.inl ou_), some (.inl nx_), some (.inl k_)], [], S_) (fun ro9_ => ∃ u_ S1_, ro9_ = (.inl u_, S1_, 0) ∧ vq_360n d_ b_ n_ T_ tp_ B_ e_ N_ F_ I_ R_ dd_ x_ S0_ u_ S1_)) := by
  intro nn_
  induction nn_ with
  | zero => exact ⟨fun _ _ _ _ _ _ _ h_ => absurd h_ (Nat.not_lt_zero _), fun _ _ _ _ _ _ _ h_ => absurd h_ (Nat.not_lt_zero _), fun _ _ _ _ _ _ _ h_ => absurd h_ (Nat.not_lt_zero _), fun _ _ _ _ _ _ _ h_ => absurd h_ (Nat.not_lt_zero _), fun _ _ _ _ _ _ _ _ _ _ h_ => absurd h_ (Nat.not_lt_zero _), fun _ _ _ _ _ _ _ _ _ _ h_ => absurd h_ (Nat.not_lt_zero _)⟩
  | succ nn_ ih_ =>
    refine ⟨?_, ?_, ?_, ?_, ?_, ?_⟩
    · rintro mo_ o_ n9_ S_ hI_ hF_ ⟨hb_, ho_, hzw_, hfw_, h0_, hk_, hR_, -⟩ hm_
      have n37_ : S_.1 13 0 37 = S0_.1 13 0 37 := hF_.1 13 0 37 rfl
      have u53_ : S_.1 13 0 53 = (R_ : Int) := hk_.2.1.2.2.2
      have i54_ : S_.2.2.1 132 0 mo_.toNat = (I_ : Int) := by rw [fr_arr (t := 132) (i := 0) hF_ rfl, show mo_.toNat = tp_ by omega]; exact hI1_
      have gg_ := hg_.2.1
      have g0_ := hg_.1
      have bx1_ : 0 ≤ S_.1 13 0 37 ∧ S_.1 13 0 37 ≤ 1014 := hI_.1 13 0 37 rfl
      refine sm_T_go 3 (c1 := (127, [some (.inr (.inr (some (13, 0)))), some (.inl d_), some (.inl mo_), some (.inl o_), some (.inl n9_), none, none, none], [.inl (S_.1 13 0 37), .inl n9_], S_)) rfl ?_
      refine sm_T_br (a := 3) (z := 69) rfl (fun cx2_ => ?_) (fun cx2_ => ?_)
      · have cx2_ : (S_.1 13 0 37) ≤ n9_ := of_decide_eq_true cx2_
        refine sm_T_go 2 (c1 := (199, [some (.inr (.inr (some (13, 0)))), some (.inl d_), some (.inl mo_), some (.inl o_), some (.inl 0), none, none, none], [], S_)) rfl ?_
        refine ih_.2.1 mo_ o_ 0 S_ hI_ hF_ ⟨?_, ?_, ?_, ?_, ?_, ?_, ?_, trivial⟩ ?_
        · omega
        · exact ho_
        · exact hzw_
        · exact hfw_
        · omega
        · (rw [show (S0_.1 13 0 37).toNat = n9_.toNat by omega]; exact hk_)
        · exact hR_
        · omega
      · have cx2_ : ¬ ((S_.1 13 0 37) ≤ n9_) := of_decide_eq_false cx2_
        refine sm_T_go 4 (c1 := (138, [some (.inr (.inr (some (13, 0)))), some (.inl d_), some (.inl mo_), some (.inl o_), some (.inl n9_), none, none, none], [.inl d_, .inl 2048, .inr (.inr (some (164, 0)))], S_)) rfl ?_
        refine sm_T_bin (w := 2048 * d_) rfl (bi_mul (by omega) (by omega) (by omega)) ?_
        refine sm_T_go 1 (c1 := (141, [some (.inr (.inr (some (13, 0)))), some (.inl d_), some (.inl mo_), some (.inl o_), some (.inl n9_), none, none, none], [.inl n9_, .inl (2048 * d_), .inr (.inr (some (164, 0)))], S_)) rfl ?_
        refine sm_T_bin (w := 2048 * d_ + n9_) rfl (bi_add (by omega) (by omega) (by omega)) ?_
        refine sm_T_go 3 (c1 := (148, [some (.inr (.inr (some (13, 0)))), some (.inl d_), some (.inl mo_), some (.inl o_), some (.inl n9_), none, none, none], [.inl n9_, .inr (.inr (some (140, 0))), .inl (2048 * d_ + n9_), .inr (.inr (some (164, 0)))], S_)) rfl ?_
        refine sm_T_iald (n := 2048) rfl rfl (by omega) (by omega) ?_
        have bx3_ : 0 ≤ S_.2.2.1 140 0 n9_.toNat ∧ S_.2.2.1 140 0 n9_.toNat ≤ 2047 := hI_.2 140 0 _
        refine sm_T_iast (n := 12288) rfl rfl (by omega) (by omega) ?_
        have hIx4_ : gi (sm_aI S_ 164 0 (2048 * d_ + n9_).toNat (S_.2.2.1 140 0 n9_.toNat)) := gi_aI hI_ (show 0 ≤ (S_.2.2.1 140 0 n9_.toNat) ∧ (S_.2.2.1 140 0 n9_.toNat) ≤ 2047 from ⟨by omega, by omega⟩)
        have hFx5_ : ai_fr (sx_W vw_360n) S0_ (sm_aI S_ 164 0 (2048 * d_ + n9_).toNat (S_.2.2.1 140 0 n9_.toNat)) := ai_fr_tr hF_ (ai_fr_aI rfl)
        have hRx6_ : rdf dd_ S0_ (sm_aI S_ 164 0 (2048 * d_ + n9_).toNat (S_.2.2.1 140 0 n9_.toNat)) := rdf_aI hR_ (Or.inr (by rw [show rds 164 = 2048 from rfl]; omega))
        refine sm_T_go 4 (c1 := (158, [some (.inr (.inr (some (13, 0)))), some (.inl d_), some (.inl mo_), some (.inl o_), some (.inl n9_), none, none, none], [.inl d_, .inl 2048, .inr (.inr (some (165, 0)))], sm_aI S_ 164 0 (2048 * d_ + n9_).toNat (S_.2.2.1 140 0 n9_.toNat))) rfl ?_
        refine sm_T_bin (w := 2048 * d_) rfl (bi_mul (by omega) (by omega) (by omega)) ?_
        refine sm_T_go 1 (c1 := (161, [some (.inr (.inr (some (13, 0)))), some (.inl d_), some (.inl mo_), some (.inl o_), some (.inl n9_), none, none, none], [.inl n9_, .inl (2048 * d_), .inr (.inr (some (165, 0)))], sm_aI S_ 164 0 (2048 * d_ + n9_).toNat (S_.2.2.1 140 0 n9_.toNat))) rfl ?_
        refine sm_T_bin (w := 2048 * d_ + n9_) rfl (bi_add (by omega) (by omega) (by omega)) ?_
        refine sm_T_go 3 (c1 := (168, [some (.inr (.inr (some (13, 0)))), some (.inl d_), some (.inl mo_), some (.inl o_), some (.inl n9_), none, none, none], [.inl n9_, .inr (.inr (some (141, 0))), .inl (2048 * d_ + n9_), .inr (.inr (some (165, 0)))], sm_aI S_ 164 0 (2048 * d_ + n9_).toNat (S_.2.2.1 140 0 n9_.toNat))) rfl ?_
        refine sm_T_iald (n := 2048) rfl rfl (by omega) (by omega) ?_
        have bx7_ : 0 ≤ S_.2.2.1 141 0 n9_.toNat ∧ S_.2.2.1 141 0 n9_.toNat ≤ 2047 := hI_.2 141 0 _
        refine sm_T_go 0 (c1 := (169, [some (.inr (.inr (some (13, 0)))), some (.inl d_), some (.inl mo_), some (.inl o_), some (.inl n9_), none, none, none], [.inl (S_.2.2.1 141 0 n9_.toNat), .inl (2048 * d_ + n9_), .inr (.inr (some (165, 0)))], sm_aI S_ 164 0 (2048 * d_ + n9_).toNat (S_.2.2.1 140 0 n9_.toNat))) rfl ?_
        refine sm_T_iast (n := 12288) rfl rfl (by omega) (by omega) ?_
        have hIx8_ : gi (sm_aI (sm_aI S_ 164 0 (2048 * d_ + n9_).toNat (S_.2.2.1 140 0 n9_.toNat)) 165 0 (2048 * d_ + n9_).toNat (S_.2.2.1 141 0 n9_.toNat)) := gi_aI hIx4_ (show 0 ≤ (S_.2.2.1 141 0 n9_.toNat) ∧ (S_.2.2.1 141 0 n9_.toNat) ≤ 2047 from ⟨by omega, by omega⟩)
        have hFx9_ : ai_fr (sx_W vw_360n) S0_ (sm_aI (sm_aI S_ 164 0 (2048 * d_ + n9_).toNat (S_.2.2.1 140 0 n9_.toNat)) 165 0 (2048 * d_ + n9_).toNat (S_.2.2.1 141 0 n9_.toNat)) := ai_fr_tr hFx5_ (ai_fr_aI rfl)
        have hRx10_ : rdf dd_ S0_ (sm_aI (sm_aI S_ 164 0 (2048 * d_ + n9_).toNat (S_.2.2.1 140 0 n9_.toNat)) 165 0 (2048 * d_ + n9_).toNat (S_.2.2.1 141 0 n9_.toNat)) := rdf_aI hRx6_ (Or.inr (by rw [show rds 165 = 2048 from rfl]; omega))
        refine sm_T_go 4 (c1 := (178, [some (.inr (.inr (some (13, 0)))), some (.inl d_), some (.inl mo_), some (.inl o_), some (.inl n9_), none, none, none], [.inl d_, .inl 2048, .inr (.inr (some (166, 0)))], sm_aI (sm_aI S_ 164 0 (2048 * d_ + n9_).toNat (S_.2.2.1 140 0 n9_.toNat)) 165 0 (2048 * d_ + n9_).toNat (S_.2.2.1 141 0 n9_.toNat))) rfl ?_
        refine sm_T_bin (w := 2048 * d_) rfl (bi_mul (by omega) (by omega) (by omega)) ?_
        refine sm_T_go 1 (c1 := (181, [some (.inr (.inr (some (13, 0)))), some (.inl d_), some (.inl mo_), some (.inl o_), some (.inl n9_), none, none, none], [.inl n9_, .inl (2048 * d_), .inr (.inr (some (166, 0)))], sm_aI (sm_aI S_ 164 0 (2048 * d_ + n9_).toNat (S_.2.2.1 140 0 n9_.toNat)) 165 0 (2048 * d_ + n9_).toNat (S_.2.2.1 141 0 n9_.toNat))) rfl ?_
        refine sm_T_bin (w := 2048 * d_ + n9_) rfl (bi_add (by omega) (by omega) (by omega)) ?_
        refine sm_T_go 3 (c1 := (188, [some (.inr (.inr (some (13, 0)))), some (.inl d_), some (.inl mo_), some (.inl o_), some (.inl n9_), none, none, none], [.inl n9_, .inr (.inr (some (172, 0))), .inl (2048 * d_ + n9_), .inr (.inr (some (166, 0)))], sm_aI (sm_aI S_ 164 0 (2048 * d_ + n9_).toNat (S_.2.2.1 140 0 n9_.toNat)) 165 0 (2048 * d_ + n9_).toNat (S_.2.2.1 141 0 n9_.toNat))) rfl ?_
        refine sm_T_iald (n := 2048) rfl rfl (by omega) (by omega) ?_
        have bx11_ : 0 ≤ S_.2.2.1 172 0 n9_.toNat ∧ S_.2.2.1 172 0 n9_.toNat ≤ 2025 := hI_.2 172 0 _
        refine sm_T_go 0 (c1 := (189, [some (.inr (.inr (some (13, 0)))), some (.inl d_), some (.inl mo_), some (.inl o_), some (.inl n9_), none, none, none], [.inl (S_.2.2.1 172 0 n9_.toNat), .inl (2048 * d_ + n9_), .inr (.inr (some (166, 0)))], sm_aI (sm_aI S_ 164 0 (2048 * d_ + n9_).toNat (S_.2.2.1 140 0 n9_.toNat)) 165 0 (2048 * d_ + n9_).toNat (S_.2.2.1 141 0 n9_.toNat))) rfl ?_
        refine sm_T_iast (n := 12288) rfl rfl (by omega) (by omega) ?_
        have hIx12_ : gi (sm_aI (sm_aI (sm_aI S_ 164 0 (2048 * d_ + n9_).toNat (S_.2.2.1 140 0 n9_.toNat)) 165 0 (2048 * d_ + n9_).toNat (S_.2.2.1 141 0 n9_.toNat)) 166 0 (2048 * d_ + n9_).toNat (S_.2.2.1 172 0 n9_.toNat)) := gi_aI hIx8_ (show 0 ≤ (S_.2.2.1 172 0 n9_.toNat) ∧ (S_.2.2.1 172 0 n9_.toNat) ≤ 2025 from ⟨by omega, by omega⟩)
        have hFx13_ : ai_fr (sx_W vw_360n) S0_ (sm_aI (sm_aI (sm_aI S_ 164 0 (2048 * d_ + n9_).toNat (S_.2.2.1 140 0 n9_.toNat)) 165 0 (2048 * d_ + n9_).toNat (S_.2.2.1 141 0 n9_.toNat)) 166 0 (2048 * d_ + n9_).toNat (S_.2.2.1 172 0 n9_.toNat)) := ai_fr_tr hFx9_ (ai_fr_aI rfl)
        have hRx14_ : rdf dd_ S0_ (sm_aI (sm_aI (sm_aI S_ 164 0 (2048 * d_ + n9_).toNat (S_.2.2.1 140 0 n9_.toNat)) 165 0 (2048 * d_ + n9_).toNat (S_.2.2.1 141 0 n9_.toNat)) 166 0 (2048 * d_ + n9_).toNat (S_.2.2.1 172 0 n9_.toNat)) := rdf_aI hRx10_ (Or.inr (by rw [show rds 166 = 2048 from rfl]; omega))
        refine sm_T_inc (a := 4) (z := 1) (v := n9_) (w := n9_ + 1) rfl rfl (by omega) (by omega) (by omega) ?_
        refine sm_T_go 1 (c1 := (121, [some (.inr (.inr (some (13, 0)))), some (.inl d_), some (.inl mo_), some (.inl o_), some (.inl (n9_ + 1)), none, none, none], [], sm_aI (sm_aI (sm_aI S_ 164 0 (2048 * d_ + n9_).toNat (S_.2.2.1 140 0 n9_.toNat)) 165 0 (2048 * d_ + n9_).toNat (S_.2.2.1 141 0 n9_.toNat)) 166 0 (2048 * d_ + n9_).toNat (S_.2.2.1 172 0 n9_.toNat))) rfl ?_
        refine ih_.1 mo_ o_ (n9_ + 1) (sm_aI (sm_aI (sm_aI S_ 164 0 (2048 * d_ + n9_).toNat (S_.2.2.1 140 0 n9_.toNat)) 165 0 (2048 * d_ + n9_).toNat (S_.2.2.1 141 0 n9_.toNat)) 166 0 (2048 * d_ + n9_).toNat (S_.2.2.1 172 0 n9_.toNat)) hIx12_ hFx13_ ⟨?_, ?_, ?_, ?_, ?_, ?_, ?_, trivial⟩ ?_
        · omega
        · exact otr_fr (w_ := ([], [164, 165, 166], [])) ho_ (ai_fr_tr (ai_fr_tr (ai_fr_aI rfl) (ai_fr_aI rfl)) (ai_fr_aI rfl))
        · exact swd_fr (w_ := ([], [164, 165, 166], [])) hzw_ (ai_fr_tr (ai_fr_tr (ai_fr_aI rfl) (ai_fr_aI rfl)) (ai_fr_aI rfl))
        · exact fwl_fr (w_ := ([], [164, 165, 166], [])) hfw_ (ai_fr_tr (ai_fr_tr (ai_fr_aI rfl) (ai_fr_aI rfl)) (ai_fr_aI rfl))
        · omega
        · rw [show (n9_ + 1).toNat = n9_.toNat + 1 by omega]
          refine kdB_k hk_ (ai_fr_tr (ai_fr_tr (ai_fr_aI rfl) (ai_fr_aI rfl)) (ai_fr_aI rfl)) (fun j9_ => ?_) (fun j9_ => ?_) (fun j9_ => ?_) <;> (rw [show 2048 * dd_ + n9_.toNat = (2048 * d_ + n9_).toNat by omega]; (try simp only [rd_eq, rd_ne, rf_eq, rf_nk, rf_nt, rd_fa, rd_af, rd_fl, rd_al, rd_lf, rd_la, rd_leq, rd_lne, rd_fr, rd_ar, ne_eq, Nat.reduceEqDiff, not_false_eq_true]))
        · exact hRx14_
        · omega
    · rintro mo_ o_ k_ S_ hI_ hF_ ⟨hb_, ho_, hzw_, hfw_, h0_, hk_, hR_, -⟩ hm_
      have n37_ : S_.1 13 0 37 = S0_.1 13 0 37 := hF_.1 13 0 37 rfl
      have u53_ : S_.1 13 0 53 = (R_ : Int) := hk_.2.1.2.2.2
      have i54_ : S_.2.2.1 132 0 mo_.toNat = (I_ : Int) := by rw [fr_arr (t := 132) (i := 0) hF_ rfl, show mo_.toNat = tp_ by omega]; exact hI1_
      have gg_ := hg_.2.1
      have g0_ := hg_.1
      refine sm_T_go 2 (c1 := (202, [some (.inr (.inr (some (13, 0)))), some (.inl d_), some (.inl mo_), some (.inl o_), some (.inl k_), none, none, none], [.inl o_, .inl k_], S_)) rfl ?_
      refine sm_T_br (a := 3) (z := 28) rfl (fun cx1_ => ?_) (fun cx1_ => ?_)
      · have cx1_ : o_ ≤ k_ := of_decide_eq_true cx1_
        refine sm_T_go 2 (c1 := (233, [some (.inr (.inr (some (13, 0)))), some (.inl d_), some (.inl mo_), some (.inl o_), some (.inl 0), none, none, none], [], S_)) rfl ?_
        refine ih_.2.2.1 mo_ o_ 0 S_ hI_ hF_ ⟨?_, ?_, ?_, ?_, ?_, ?_, ?_, trivial⟩ ?_
        · omega
        · exact ho_
        · exact hzw_
        · exact hfw_
        · omega
        · (rw [show o_.toNat = k_.toNat by omega]; exact hk_)
        · exact hR_
        · omega
      · have cx1_ : ¬ (o_ ≤ k_) := of_decide_eq_false cx1_
        refine sm_T_go 4 (c1 := (212, [some (.inr (.inr (some (13, 0)))), some (.inl d_), some (.inl mo_), some (.inl o_), some (.inl k_), none, none, none], [.inl d_, .inl 16, .inr (.inr (some (167, 0)))], S_)) rfl ?_
        refine sm_T_bin (w := 16 * d_) rfl (bi_mul (by omega) (by omega) (by omega)) ?_
        refine sm_T_go 1 (c1 := (215, [some (.inr (.inr (some (13, 0)))), some (.inl d_), some (.inl mo_), some (.inl o_), some (.inl k_), none, none, none], [.inl k_, .inl (16 * d_), .inr (.inr (some (167, 0)))], S_)) rfl ?_
        refine sm_T_bin (w := 16 * d_ + k_) rfl (bi_add (by omega) (by omega) (by omega)) ?_
        refine sm_T_go 3 (c1 := (222, [some (.inr (.inr (some (13, 0)))), some (.inl d_), some (.inl mo_), some (.inl o_), some (.inl k_), none, none, none], [.inl k_, .inr (.inr (some (175, 0))), .inl (16 * d_ + k_), .inr (.inr (some (167, 0)))], S_)) rfl ?_
        refine sm_T_iald (n := 16) rfl rfl (by omega) (by omega) ?_
        have bx2_ : 0 ≤ S_.2.2.1 175 0 k_.toNat ∧ S_.2.2.1 175 0 k_.toNat ≤ 2047 := hI_.2 175 0 _
        refine sm_T_iast (n := 96) rfl rfl (by omega) (by omega) ?_
        have hIx3_ : gi (sm_aI S_ 167 0 (16 * d_ + k_).toNat (S_.2.2.1 175 0 k_.toNat)) := gi_aI hI_ (show 0 ≤ (S_.2.2.1 175 0 k_.toNat) ∧ (S_.2.2.1 175 0 k_.toNat) ≤ 2047 from ⟨by omega, by omega⟩)
        have hFx4_ : ai_fr (sx_W vw_360n) S0_ (sm_aI S_ 167 0 (16 * d_ + k_).toNat (S_.2.2.1 175 0 k_.toNat)) := ai_fr_tr hF_ (ai_fr_aI rfl)
        have hRx5_ : rdf dd_ S0_ (sm_aI S_ 167 0 (16 * d_ + k_).toNat (S_.2.2.1 175 0 k_.toNat)) := rdf_aI hR_ (Or.inr (by rw [show rds 167 = 16 from rfl]; omega))
        refine sm_T_inc (a := 4) (z := 1) (v := k_) (w := k_ + 1) rfl rfl (by omega) (by omega) (by omega) ?_
        refine sm_T_go 1 (c1 := (199, [some (.inr (.inr (some (13, 0)))), some (.inl d_), some (.inl mo_), some (.inl o_), some (.inl (k_ + 1)), none, none, none], [], sm_aI S_ 167 0 (16 * d_ + k_).toNat (S_.2.2.1 175 0 k_.toNat))) rfl ?_
        refine ih_.2.1 mo_ o_ (k_ + 1) (sm_aI S_ 167 0 (16 * d_ + k_).toNat (S_.2.2.1 175 0 k_.toNat)) hIx3_ hFx4_ ⟨?_, ?_, ?_, ?_, ?_, ?_, ?_, trivial⟩ ?_
        · omega
        · exact otr_fr (w_ := ([], [167], [])) ho_ (ai_fr_aI rfl)
        · exact swd_fr (w_ := ([], [167], [])) hzw_ (ai_fr_aI rfl)
        · exact fwl_fr (w_ := ([], [167], [])) hfw_ (ai_fr_aI rfl)
        · omega
        · rw [show (k_ + 1).toNat = k_.toNat + 1 by omega]
          refine kdB_o hk_ (ai_fr_aI rfl) (fun j9_ => ?_)
          rw [show 16 * dd_ + k_.toNat = (16 * d_ + k_).toNat by omega]
          (try simp only [rd_eq, rd_ne, rf_eq, rf_nk, rf_nt, rd_fa, rd_af, rd_fl, rd_al, rd_lf, rd_la, rd_leq, rd_lne, rd_fr, rd_ar, ne_eq, Nat.reduceEqDiff, not_false_eq_true])
        · exact hRx5_
        · omega
    · rintro mo_ o_ k_ S_ hI_ hF_ ⟨hb_, ho_, hzw_, hfw_, h0_, hk_, hR_, -⟩ hm_
      have n37_ : S_.1 13 0 37 = S0_.1 13 0 37 := hF_.1 13 0 37 rfl
      have u53_ : S_.1 13 0 53 = (R_ : Int) := hk_.2.1.2.2.2
      have i54_ : S_.2.2.1 132 0 mo_.toNat = (I_ : Int) := by rw [fr_arr (t := 132) (i := 0) hF_ rfl, show mo_.toNat = tp_ by omega]; exact hI1_
      have gg_ := hg_.2.1
      have g0_ := hg_.1
      have bx1_ : 0 ≤ S_.1 13 0 53 ∧ S_.1 13 0 53 ≤ 6 := hI_.1 13 0 53 rfl
      refine sm_T_go 3 (c1 := (239, [some (.inr (.inr (some (13, 0)))), some (.inl d_), some (.inl mo_), some (.inl o_), some (.inl k_), none, none, none], [.inl (S_.1 13 0 53), .inl k_], S_)) rfl ?_
      refine sm_T_br (a := 3) (z := 28) rfl (fun cx2_ => ?_) (fun cx2_ => ?_)
      · have cx2_ : (S_.1 13 0 53) ≤ k_ := of_decide_eq_true cx2_
        refine sm_T_go 2 (c1 := (270, [some (.inr (.inr (some (13, 0)))), some (.inl d_), some (.inl mo_), some (.inl o_), some (.inl 0), none, none, none], [], S_)) rfl ?_
        refine ih_.2.2.2.1 mo_ o_ 0 S_ hI_ hF_ ⟨?_, ?_, ?_, ?_, ?_, ?_, ?_, ?_, trivial⟩ ?_
        · omega
        · exact ho_
        · exact hzw_
        · exact hfw_
        · (intro q9_ hq9_; exact absurd hq9_ (Nat.not_lt_zero _))
        · exact ⟨by decide, Int.le_of_lt (pw_pos _)⟩
        · (rw [show k_.toNat = R_ by omega] at hk_; exact hk_)
        · exact hR_
        · omega
      · have cx2_ : ¬ ((S_.1 13 0 53) ≤ k_) := of_decide_eq_false cx2_
        refine sm_T_go 4 (c1 := (249, [some (.inr (.inr (some (13, 0)))), some (.inl d_), some (.inl mo_), some (.inl o_), some (.inl k_), none, none, none], [.inl d_, .inl 6, .inr (.inr (some (168, 0)))], S_)) rfl ?_
        refine sm_T_bin (w := 6 * d_) rfl (bi_mul (by omega) (by omega) (by omega)) ?_
        refine sm_T_go 1 (c1 := (252, [some (.inr (.inr (some (13, 0)))), some (.inl d_), some (.inl mo_), some (.inl o_), some (.inl k_), none, none, none], [.inl k_, .inl (6 * d_), .inr (.inr (some (168, 0)))], S_)) rfl ?_
        refine sm_T_bin (w := 6 * d_ + k_) rfl (bi_add (by omega) (by omega) (by omega)) ?_
        refine sm_T_go 3 (c1 := (259, [some (.inr (.inr (some (13, 0)))), some (.inl d_), some (.inl mo_), some (.inl o_), some (.inl k_), none, none, none], [.inl k_, .inr (.inr (some (151, 0))), .inl (6 * d_ + k_), .inr (.inr (some (168, 0)))], S_)) rfl ?_
        refine sm_T_iald (n := 1024) rfl rfl (by omega) (by omega) ?_
        have bx3_ : 0 ≤ S_.2.2.1 151 0 k_.toNat ∧ S_.2.2.1 151 0 k_.toNat ≤ 2047 := hI_.2 151 0 _
        refine sm_T_iast (n := 36) rfl rfl (by omega) (by omega) ?_
        have hIx4_ : gi (sm_aI S_ 168 0 (6 * d_ + k_).toNat (S_.2.2.1 151 0 k_.toNat)) := gi_aI hI_ (show 0 ≤ (S_.2.2.1 151 0 k_.toNat) ∧ (S_.2.2.1 151 0 k_.toNat) ≤ 2047 from ⟨by omega, by omega⟩)
        have hFx5_ : ai_fr (sx_W vw_360n) S0_ (sm_aI S_ 168 0 (6 * d_ + k_).toNat (S_.2.2.1 151 0 k_.toNat)) := ai_fr_tr hF_ (ai_fr_aI rfl)
        have hRx6_ : rdf dd_ S0_ (sm_aI S_ 168 0 (6 * d_ + k_).toNat (S_.2.2.1 151 0 k_.toNat)) := rdf_aI hR_ (Or.inr (by rw [show rds 168 = 6 from rfl]; omega))
        refine sm_T_inc (a := 4) (z := 1) (v := k_) (w := k_ + 1) rfl rfl (by omega) (by omega) (by omega) ?_
        refine sm_T_go 1 (c1 := (233, [some (.inr (.inr (some (13, 0)))), some (.inl d_), some (.inl mo_), some (.inl o_), some (.inl (k_ + 1)), none, none, none], [], sm_aI S_ 168 0 (6 * d_ + k_).toNat (S_.2.2.1 151 0 k_.toNat))) rfl ?_
        refine ih_.2.2.1 mo_ o_ (k_ + 1) (sm_aI S_ 168 0 (6 * d_ + k_).toNat (S_.2.2.1 151 0 k_.toNat)) hIx4_ hFx5_ ⟨?_, ?_, ?_, ?_, ?_, ?_, ?_, trivial⟩ ?_
        · omega
        · exact otr_fr (w_ := ([], [168], [])) ho_ (ai_fr_aI rfl)
        · exact swd_fr (w_ := ([], [168], [])) hzw_ (ai_fr_aI rfl)
        · exact fwl_fr (w_ := ([], [168], [])) hfw_ (ai_fr_aI rfl)
        · omega
        · rw [show (k_ + 1).toNat = k_.toNat + 1 by omega]
          refine kdB_x hk_ (ai_fr_aI rfl) (fun j9_ => ?_)
          rw [show 6 * dd_ + k_.toNat = (6 * d_ + k_).toNat by omega]
          (try simp only [rd_eq, rd_ne, rf_eq, rf_nk, rf_nt, rd_fa, rd_af, rd_fl, rd_al, rd_lf, rd_la, rd_leq, rd_lne, rd_fr, rd_ar, ne_eq, Nat.reduceEqDiff, not_false_eq_true])
        · exact hRx6_
        · omega
    · rintro mo_ o_ p_ S_ hI_ hF_ ⟨hb_, ho_, hzw_, hfw_, htb_, h0_, hk_, hR_, -⟩ hm_
      have n37_ : S_.1 13 0 37 = S0_.1 13 0 37 := hF_.1 13 0 37 rfl
      have u53_ : S_.1 13 0 53 = (R_ : Int) := hk_.2.1.2.2.2
      have i54_ : S_.2.2.1 132 0 mo_.toNat = (I_ : Int) := by rw [fr_arr (t := 132) (i := 0) hF_ rfl, show mo_.toNat = tp_ by omega]; exact hI1_
      have gg_ := hg_.2.1
      have g0_ := hg_.1
      have pw9_ := pw_le (n := I_ + R_) (m := 12) (by omega)
      have pw8_ := pw_pos (I_ + R_)
      have sh9_ : i_shl 1 ((I_ : Int) + R_) = 2 ^ (I_ + R_) := by rw [i_shl1 (by omega) (by omega), show ((I_ : Int) + R_).toNat = I_ + R_ by omega]
      have pn9_ : ((2 ^ (I_ + R_) : Nat) : Int) = (2 : Int) ^ (I_ + R_) := by push_cast; rfl
      refine sm_T_go 5 (c1 := (278, [some (.inr (.inr (some (13, 0)))), some (.inl d_), some (.inl mo_), some (.inl o_), some (.inl p_), none, none, none], [.inl mo_, .inr (.inr (some (132, 0))), .inl 1, .inl p_], S_)) rfl ?_
      refine sm_T_iald (n := 16) rfl rfl (by omega) (by omega) ?_
      have bx1_ : 0 ≤ S_.2.2.1 132 0 mo_.toNat ∧ S_.2.2.1 132 0 mo_.toNat ≤ 320 := hI_.2 132 0 _
      have bx2_ : 0 ≤ S_.1 13 0 53 ∧ S_.1 13 0 53 ≤ 6 := hI_.1 13 0 53 rfl
      refine sm_T_go 2 (c1 := (283, [some (.inr (.inr (some (13, 0)))), some (.inl d_), some (.inl mo_), some (.inl o_), some (.inl p_), none, none, none], [.inl (S_.1 13 0 53), .inl (S_.2.2.1 132 0 mo_.toNat), .inl 1, .inl p_], S_)) rfl ?_
      refine sm_T_bin (w := (S_.2.2.1 132 0 mo_.toNat) + (S_.1 13 0 53)) rfl (bi_add (by omega) (by omega) (by omega)) ?_
      refine sm_T_bin (w := (i_shl 1 ((S_.2.2.1 132 0 mo_.toNat) + (S_.1 13 0 53)))) rfl rfl ?_
      have bx3_ : i_shl 1 ((S_.2.2.1 132 0 mo_.toNat) + (S_.1 13 0 53)) = 2 ^ (I_ + R_) := by rw [i54_, u53_]; exact sh9_
      refine sm_T_br (a := 3) (z := 120) rfl (fun cx4_ => ?_) (fun cx4_ => ?_)
      · have cx4_ : (i_shl 1 ((S_.2.2.1 132 0 mo_.toNat) + (S_.1 13 0 53))) ≤ p_ := of_decide_eq_true cx4_
        refine sm_T_go 5 (c1 := (412, [some (.inr (.inr (some (13, 0)))), some (.inl d_), some (.inl mo_), some (.inl o_), some (.inl p_), none, none, none], [.inl d_, .inr (.inr (some (13, 0))), .inl d_, .inr (.inr (some (163, 0)))], S_)) rfl ?_
        refine sm_T_cal (d1 := 0) (Q1 := vq_361 d_ S_) rfl rfl (by decide) (vc_361 d_ S_ hI_ (by omega) (by (have z1_ := hk_.1.2.1; have z2_ := hk_.1.2.2.1; rw [show d_.toNat = dd_ by omega]; omega))) (fun u_ Sx5_ px8_ => ?_)
        obtain ⟨vx10_, rfl, hIx6_, hFx7_, px8_⟩ := px8_
        have hFx9_ : ai_fr (sx_W vw_360n) S0_ Sx5_ := ai_fr_tr hF_ (fr_le hFx7_ rfl)
        have hRx11_ : rdf dd_ S0_ Sx5_ := rdf_tr hR_ (rdf_fr hFx7_ (by decide))
        have ex12_ : Sx5_.1 13 0 53 = S_.1 13 0 53 := hFx7_.1 13 0 53 rfl
        have e412_ := px8_
        have k412_ := dRk_fr (kdB_end (N_ := N_) (by rw [show p_.toNat = 2 ^ (I_ + R_) by omega, show (S0_.1 13 0 37).toNat = N_ by omega] at hk_; exact hk_) (by omega) (by omega) (by omega) (by omega) (by omega) (by have z9_ := hrn_.1; rw [hR1_.1, Int.toNat_natCast] at z9_; exact z9_)) hFx7_ (by decide)
        have z412_ : dgk dd_ F_ I_ R_ N_ (su (t_in B_ 1 tp_) (B_.1 tp_)) (S0_.2.2.1 140 0) (S0_.2.2.1 141 0) Sx5_ := dgk_fr (dgk_of (N_ := N_) (by rw [show p_.toNat = 2 ^ (I_ + R_) by omega, show (S0_.1 13 0 37).toNat = N_ by omega] at hk_; exact hk_) (by omega) hF_ (by omega)) hFx7_ (by decide)
        have u412_ : dgt dd_ F_ (S0_.1 13 0 37).toNat o_.toNat R_ Sx5_ := dgt_fr (dgt_of hk_ hfw_ htb_ (by omega) (by rw [show p_.toNat = 2 ^ (I_ + R_) by omega, show F_ - 1 = I_ + R_ by omega]; exact Nat.le_refl _) hF_) hFx7_
        rw [show (S0_.1 13 0 37).toNat = N_ by omega, hb_.2.2.2.2] at u412_
        have x412_ : dgs dd_ F_ N_ Sx5_ := dgs_fr (dgs_of hk_ hzw_ (by omega) hF_) hFx7_
        have y412_ : dgn dd_ R_ B_ tp_ e_ x_ Sx5_ := dgn_fr (dgn_of hk_ hb_.2.2.2.2 hxn_ hF_ hB_ hln_ ho_) hFx7_
        have t412_ : Sx5_.2.2.1 153 0 dd_ = 1 := (congrFun (fr_arr (t := 153) (i := 0) hFx7_ rfl) dd_).trans hk_.1.1
        refine sm_T_iast (n := 6) rfl rfl (by omega) (by omega) ?_
        have hIx13_ : gi (sm_aI Sx5_ 163 0 d_.toNat vx10_) := gi_aI hIx6_ (show 0 ≤ vx10_ ∧ vx10_ ≤ 64 from ⟨by omega, by omega⟩)
        have hFx14_ : ai_fr (sx_W vw_360n) S0_ (sm_aI Sx5_ 163 0 d_.toNat vx10_) := ai_fr_tr hFx9_ (ai_fr_aI rfl)
        have hRx15_ : rdf dd_ S0_ (sm_aI Sx5_ 163 0 d_.toNat vx10_) := rdf_aI hRx11_ (Or.inr (by rw [show rds 163 = 1 from rfl]; omega))
        refine sm_T_rv rfl ⟨_, _, rfl, rfl, hIx13_, hFx14_, ?_⟩
        refine ⟨hRx15_, ?_⟩
        exact ⟨(rd_ne (by decide)).trans t412_, dRk_fr (w_ := ([], [163], [])) k412_ (ai_fr_aI rfl) (by decide), dgk_fr (w_ := ([], [163], [])) z412_ (ai_fr_aI rfl) (by decide), dgn_fr (w_ := ([], [163], [])) y412_ (ai_fr_aI rfl), dgs_fr (w_ := ([], [163], [])) x412_ (ai_fr_aI rfl), dgt_fr (w_ := ([], [163], [])) u412_ (ai_fr_aI rfl)⟩
      · have cx4_ : ¬ ((i_shl 1 ((S_.2.2.1 132 0 mo_.toNat) + (S_.1 13 0 53))) ≤ p_) := of_decide_eq_false cx4_
        refine sm_T_go 6 (c1 := (297, [some (.inr (.inr (some (13, 0)))), some (.inl d_), some (.inl mo_), some (.inl o_), some (.inl p_), some (.inl 0), some (.inl 0), some (.inl 0)], [], S_)) rfl ?_
        refine ih_.2.2.2.2.1 mo_ o_ p_ 0 0 0 S_ hI_ hF_ ⟨?_, ?_, ?_, ?_, ?_, ?_, ?_, ?_, ?_, trivial⟩ ?_
        · omega
        · exact ho_
        · exact hzw_
        · exact hfw_
        · exact htb_
        · rfl
        · omega
        · exact hk_
        · exact hR_
        · omega
    · rintro mo_ o_ p_ ou_ nx_ k_ S_ hI_ hF_ ⟨hb_, ho_, hzw_, hfw_, htb_, hou_, h0_, hk_, hR_, -⟩ hm_
      have n37_ : S_.1 13 0 37 = S0_.1 13 0 37 := hF_.1 13 0 37 rfl
      have u53_ : S_.1 13 0 53 = (R_ : Int) := hk_.2.1.2.2.2
      have i54_ : S_.2.2.1 132 0 mo_.toNat = (I_ : Int) := by rw [fr_arr (t := 132) (i := 0) hF_ rfl, show mo_.toNat = tp_ by omega]; exact hI1_
      have gg_ := hg_.2.1
      have g0_ := hg_.1
      have pw9_ := pw_le (n := I_ + R_) (m := 12) (by omega)
      have pw8_ := pw_pos (I_ + R_)
      have sh9_ : i_shl 1 ((I_ : Int) + R_) = 2 ^ (I_ + R_) := by rw [i_shl1 (by omega) (by omega), show ((I_ : Int) + R_).toNat = I_ + R_ by omega]
      have pn9_ : ((2 ^ (I_ + R_) : Nat) : Int) = (2 : Int) ^ (I_ + R_) := by push_cast; rfl
      refine sm_T_go 2 (c1 := (300, [some (.inr (.inr (some (13, 0)))), some (.inl d_), some (.inl mo_), some (.inl o_), some (.inl p_), some (.inl ou_), some (.inl nx_), some (.inl k_)], [.inl o_, .inl k_], S_)) rfl ?_
      refine sm_T_br (a := 3) (z := 30) rfl (fun cx1_ => ?_) (fun cx1_ => ?_)
      · have cx1_ : o_ ≤ k_ := of_decide_eq_true cx1_
        refine sm_T_go 2 (c1 := (333, [some (.inr (.inr (some (13, 0)))), some (.inl d_), some (.inl mo_), some (.inl o_), some (.inl p_), some (.inl ou_), some (.inl nx_), some (.inl 0)], [], S_)) rfl ?_
        refine ih_.2.2.2.2.2 mo_ o_ p_ ou_ nx_ 0 S_ hI_ hF_ ⟨?_, ?_, ?_, ?_, ?_, ?_, ?_, ?_, ?_, ?_, ?_, trivial⟩ ?_
        · omega
        · exact ho_
        · exact hzw_
        · exact hfw_
        · exact htb_
        · (rw [show o_.toNat = k_.toNat by omega]; exact hou_)
        · (rw [h0_.2.2.2.2.2.2]; rfl)
        · omega
        · (rw [h0_.2.2.2.2.2.2]; exact ⟨Int.le_refl _, pw_pos _⟩)
        · exact hk_
        · exact hR_
        · omega
      · have cx1_ : ¬ (o_ ≤ k_) := of_decide_eq_false cx1_
        refine sm_T_go 5 (c1 := (312, [some (.inr (.inr (some (13, 0)))), some (.inl d_), some (.inl mo_), some (.inl o_), some (.inl p_), some (.inl ou_), some (.inl nx_), some (.inl k_)], [.inl k_, .inr (.inr (some (175, 0))), .inr (.inr (some (13, 0))), .inl ou_], S_)) rfl ?_
        refine sm_T_iald (n := 16) rfl rfl (by omega) (by omega) ?_
        have bx2_ : 0 ≤ S_.2.2.1 175 0 k_.toNat ∧ S_.2.2.1 175 0 k_.toNat ≤ 2047 := hI_.2 175 0 _
        refine sm_T_go 1 (c1 := (315, [some (.inr (.inr (some (13, 0)))), some (.inl d_), some (.inl mo_), some (.inl o_), some (.inl p_), some (.inl ou_), some (.inl nx_), some (.inl k_)], [.inl p_, .inl (S_.2.2.1 175 0 k_.toNat), .inr (.inr (some (13, 0))), .inl ou_], S_)) rfl ?_
        refine sm_T_cal (d1 := 1) (Q1 := vq_359n (S_.2.2.1 175 0 k_.toNat) p_ S_) rfl rfl (by decide) (vc_359n (S_.2.2.1 175 0 k_.toNat) p_ S_ hI_ (by (have c9_ := hI_.2 175 0 k_.toNat; have c8_ : 0 ≤ S_.2.2.1 175 0 k_.toNat ∧ S_.2.2.1 175 0 k_.toNat ≤ 2047 := c9_; omega)) (by omega)) (fun u_ Sx3_ px6_ => ?_)
        obtain ⟨rfl, vx8_, rfl, px6_⟩ := px6_
        have e315n := px6_
        have e315_ : vx8_ = 0 ∨ vx8_ = 1 := by (rw [e315n]; split; exact Or.inr rfl; exact Or.inl rfl)
        have bs9_ := bsh (k_ := 16) e315_ (show 0 ≤ k_ by omega) (by omega) (by decide)
        have or9_ := i_orp (x_ := ou_) (k_ := 16) (by decide) (by omega) bs9_
        refine sm_T_go 1 (c1 := (320, [some (.inr (.inr (some (13, 0)))), some (.inl d_), some (.inl mo_), some (.inl o_), some (.inl p_), some (.inl ou_), some (.inl nx_), some (.inl k_)], [.inl k_, .inl vx8_, .inl ou_], S_)) rfl ?_
        refine sm_T_bin (w := (i_shl vx8_ k_)) rfl rfl ?_
        refine sm_T_bin (w := (i_or ou_ (i_shl vx8_ k_))) rfl rfl ?_
        refine sm_T_go 1 (c1 := (324, [some (.inr (.inr (some (13, 0)))), some (.inl d_), some (.inl mo_), some (.inl o_), some (.inl p_), some (.inl (i_or ou_ (i_shl vx8_ k_))), some (.inl nx_), some (.inl k_)], [], S_)) rfl ?_
        refine sm_T_inc (a := 7) (z := 1) (v := k_) (w := k_ + 1) rfl rfl (by omega) (by omega) (by omega) ?_
        refine sm_T_go 1 (c1 := (297, [some (.inr (.inr (some (13, 0)))), some (.inl d_), some (.inl mo_), some (.inl o_), some (.inl p_), some (.inl (i_or ou_ (i_shl vx8_ k_))), some (.inl nx_), some (.inl (k_ + 1))], [], S_)) rfl ?_
        refine ih_.2.2.2.2.1 mo_ o_ p_ (i_or ou_ (i_shl vx8_ k_)) nx_ (k_ + 1) S_ hI_ hF_ ⟨?_, ?_, ?_, ?_, ?_, ?_, ?_, ?_, ?_, trivial⟩ ?_
        · omega
        · exact ho_
        · exact hzw_
        · exact hfw_
        · exact htb_
        · rw [show (k_ + 1).toNat = k_.toNat + 1 by omega, hou_]
          exact kot_or (by omega) (by omega) e315n
        · omega
        · exact hk_
        · exact hR_
        · omega
    · rintro mo_ o_ p_ ou_ nx_ k_ S_ hI_ hF_ ⟨hb_, ho_, hzw_, hfw_, htb_, hou_, hnn_, h0_, hnx_, hk_, hR_, -⟩ hm_
      have n37_ : S_.1 13 0 37 = S0_.1 13 0 37 := hF_.1 13 0 37 rfl
      have u53_ : S_.1 13 0 53 = (R_ : Int) := hk_.2.1.2.2.2
      have i54_ : S_.2.2.1 132 0 mo_.toNat = (I_ : Int) := by rw [fr_arr (t := 132) (i := 0) hF_ rfl, show mo_.toNat = tp_ by omega]; exact hI1_
      have gg_ := hg_.2.1
      have g0_ := hg_.1
      have pw9_ := pw_le (n := I_ + R_) (m := 12) (by omega)
      have pw8_ := pw_pos (I_ + R_)
      have sh9_ : i_shl 1 ((I_ : Int) + R_) = 2 ^ (I_ + R_) := by rw [i_shl1 (by omega) (by omega), show ((I_ : Int) + R_).toNat = I_ + R_ by omega]
      have pn9_ : ((2 ^ (I_ + R_) : Nat) : Int) = (2 : Int) ^ (I_ + R_) := by push_cast; rfl
      have pr9_ := pw_le (n := R_) (m := 6) (by omega)
      have bx1_ : 0 ≤ S_.1 13 0 53 ∧ S_.1 13 0 53 ≤ 6 := hI_.1 13 0 53 rfl
      refine sm_T_go 3 (c1 := (339, [some (.inr (.inr (some (13, 0)))), some (.inl d_), some (.inl mo_), some (.inl o_), some (.inl p_), some (.inl ou_), some (.inl nx_), some (.inl k_)], [.inl (S_.1 13 0 53), .inl k_], S_)) rfl ?_
      refine sm_T_br (a := 3) (z := 30) rfl (fun cx2_ => ?_) (fun cx2_ => ?_)
      · have cx2_ : (S_.1 13 0 53) ≤ k_ := of_decide_eq_true cx2_
        refine sm_T_go 4 (c1 := (377, [some (.inr (.inr (some (13, 0)))), some (.inl d_), some (.inl mo_), some (.inl o_), some (.inl p_), some (.inl ou_), some (.inl nx_), some (.inl k_)], [.inl d_, .inl 4096, .inr (.inr (some (169, 0)))], S_)) rfl ?_
        refine sm_T_bin (w := 4096 * d_) rfl (bi_mul (by omega) (by omega) (by omega)) ?_
        refine sm_T_go 1 (c1 := (380, [some (.inr (.inr (some (13, 0)))), some (.inl d_), some (.inl mo_), some (.inl o_), some (.inl p_), some (.inl ou_), some (.inl nx_), some (.inl k_)], [.inl p_, .inl (4096 * d_), .inr (.inr (some (169, 0)))], S_)) rfl ?_
        refine sm_T_bin (w := 4096 * d_ + p_) rfl (bi_add (by omega) (by omega) (by omega)) ?_
        refine sm_T_go 1 (c1 := (383, [some (.inr (.inr (some (13, 0)))), some (.inl d_), some (.inl mo_), some (.inl o_), some (.inl p_), some (.inl ou_), some (.inl nx_), some (.inl k_)], [.inl ou_, .inl (4096 * d_ + p_), .inr (.inr (some (169, 0)))], S_)) rfl ?_
        refine sm_T_iast (n := 24576) rfl rfl (by omega) (by omega) ?_
        have hIx3_ : gi (sm_aI S_ 169 0 (4096 * d_ + p_).toNat ou_) := gi_aI hI_ (show 0 ≤ ou_ ∧ ou_ ≤ 65535 from ⟨by omega, by omega⟩)
        have hFx4_ : ai_fr (sx_W vw_360n) S0_ (sm_aI S_ 169 0 (4096 * d_ + p_).toNat ou_) := ai_fr_tr hF_ (ai_fr_aI rfl)
        have hRx5_ : rdf dd_ S0_ (sm_aI S_ 169 0 (4096 * d_ + p_).toNat ou_) := rdf_aI hR_ (Or.inr (by rw [show rds 169 = 4096 from rfl]; omega))
        refine sm_T_go 4 (c1 := (392, [some (.inr (.inr (some (13, 0)))), some (.inl d_), some (.inl mo_), some (.inl o_), some (.inl p_), some (.inl ou_), some (.inl nx_), some (.inl k_)], [.inl d_, .inl 4096, .inr (.inr (some (170, 0)))], sm_aI S_ 169 0 (4096 * d_ + p_).toNat ou_)) rfl ?_
        refine sm_T_bin (w := 4096 * d_) rfl (bi_mul (by omega) (by omega) (by omega)) ?_
        refine sm_T_go 1 (c1 := (395, [some (.inr (.inr (some (13, 0)))), some (.inl d_), some (.inl mo_), some (.inl o_), some (.inl p_), some (.inl ou_), some (.inl nx_), some (.inl k_)], [.inl p_, .inl (4096 * d_), .inr (.inr (some (170, 0)))], sm_aI S_ 169 0 (4096 * d_ + p_).toNat ou_)) rfl ?_
        refine sm_T_bin (w := 4096 * d_ + p_) rfl (bi_add (by omega) (by omega) (by omega)) ?_
        refine sm_T_go 1 (c1 := (398, [some (.inr (.inr (some (13, 0)))), some (.inl d_), some (.inl mo_), some (.inl o_), some (.inl p_), some (.inl ou_), some (.inl nx_), some (.inl k_)], [.inl nx_, .inl (4096 * d_ + p_), .inr (.inr (some (170, 0)))], sm_aI S_ 169 0 (4096 * d_ + p_).toNat ou_)) rfl ?_
        refine sm_T_iast (n := 24576) rfl rfl (by omega) (by omega) ?_
        have hIx6_ : gi (sm_aI (sm_aI S_ 169 0 (4096 * d_ + p_).toNat ou_) 170 0 (4096 * d_ + p_).toNat nx_) := gi_aI hIx3_ (show 0 ≤ nx_ ∧ nx_ ≤ 63 from ⟨by omega, by omega⟩)
        have hFx7_ : ai_fr (sx_W vw_360n) S0_ (sm_aI (sm_aI S_ 169 0 (4096 * d_ + p_).toNat ou_) 170 0 (4096 * d_ + p_).toNat nx_) := ai_fr_tr hFx4_ (ai_fr_aI rfl)
        have hRx8_ : rdf dd_ S0_ (sm_aI (sm_aI S_ 169 0 (4096 * d_ + p_).toNat ou_) 170 0 (4096 * d_ + p_).toNat nx_) := rdf_aI hRx5_ (Or.inr (by rw [show rds 170 = 4096 from rfl]; omega))
        refine sm_T_inc (a := 4) (z := 1) (v := p_) (w := p_ + 1) rfl rfl (by omega) (by omega) (by omega) ?_
        refine sm_T_go 1 (c1 := (270, [some (.inr (.inr (some (13, 0)))), some (.inl d_), some (.inl mo_), some (.inl o_), some (.inl (p_ + 1)), some (.inl ou_), some (.inl nx_), some (.inl k_)], [], sm_aI (sm_aI S_ 169 0 (4096 * d_ + p_).toNat ou_) 170 0 (4096 * d_ + p_).toNat nx_)) rfl ?_
        refine sm_T_wk [some (.inr (.inr (some (13, 0)))), some (.inl d_), some (.inl mo_), some (.inl o_), some (.inl (p_ + 1)), none, none, none] (by exact ⟨rfl, rfl, rfl, rfl, rfl, trivial⟩) ?_
        refine ih_.2.2.2.1 mo_ o_ (p_ + 1) (sm_aI (sm_aI S_ 169 0 (4096 * d_ + p_).toNat ou_) 170 0 (4096 * d_ + p_).toNat nx_) hIx6_ hFx7_ ⟨?_, ?_, ?_, ?_, ?_, ?_, ?_, ?_, trivial⟩ ?_
        · omega
        · exact otr_fr (w_ := ([], [169, 170], [])) ho_ (ai_fr_tr (ai_fr_aI rfl) (ai_fr_aI rfl))
        · exact swd_fr (w_ := ([], [169, 170], [])) hzw_ (ai_fr_tr (ai_fr_aI rfl) (ai_fr_aI rfl))
        · exact fwl_fr (w_ := ([], [169, 170], [])) hfw_ (ai_fr_tr (ai_fr_aI rfl) (ai_fr_aI rfl))
        · rw [show (p_ + 1).toNat = p_.toNat + 1 by omega]
          refine ktb_s (ou_ := ou_) (nx_ := nx_) htb_ (ai_fr_tr (ai_fr_aI rfl) (ai_fr_aI rfl)) (fun j9_ => ?_) (fun j9_ => ?_) hou_ (by rw [show R_ = k_.toNat by omega]; exact hnn_) <;> (rw [show 4096 * dd_ + p_.toNat = (4096 * d_ + p_).toNat by omega]; (try simp only [rd_eq, rd_ne, rf_eq, rf_nk, rf_nt, rd_fa, rd_af, rd_fl, rd_al, rd_lf, rd_la, rd_leq, rd_lne, rd_fr, rd_ar, ne_eq, Nat.reduceEqDiff, not_false_eq_true]))
        · omega
        · rw [show (p_ + 1).toNat = p_.toNat + 1 by omega]
          refine kdB_t (v_ := nx_) hk_ (ai_fr_tr (ai_fr_aI rfl) (ai_fr_aI rfl)) hnx_ (fun j9_ => ?_)
          rw [show 4096 * dd_ + p_.toNat = (4096 * d_ + p_).toNat by omega]
          (try simp only [rd_eq, rd_ne, rf_eq, rf_nk, rf_nt, rd_fa, rd_af, rd_fl, rd_al, rd_lf, rd_la, rd_leq, rd_lne, rd_fr, rd_ar, ne_eq, Nat.reduceEqDiff, not_false_eq_true])
        · exact hRx8_
        · omega
      · have cx2_ : ¬ ((S_.1 13 0 53) ≤ k_) := of_decide_eq_false cx2_
        refine sm_T_go 5 (c1 := (351, [some (.inr (.inr (some (13, 0)))), some (.inl d_), some (.inl mo_), some (.inl o_), some (.inl p_), some (.inl ou_), some (.inl nx_), some (.inl k_)], [.inl k_, .inr (.inr (some (151, 0))), .inr (.inr (some (13, 0))), .inl nx_], S_)) rfl ?_
        refine sm_T_iald (n := 1024) rfl rfl (by omega) (by omega) ?_
        have bx9_ : 0 ≤ S_.2.2.1 151 0 k_.toNat ∧ S_.2.2.1 151 0 k_.toNat ≤ 2047 := hI_.2 151 0 _
        refine sm_T_go 1 (c1 := (354, [some (.inr (.inr (some (13, 0)))), some (.inl d_), some (.inl mo_), some (.inl o_), some (.inl p_), some (.inl ou_), some (.inl nx_), some (.inl k_)], [.inl p_, .inl (S_.2.2.1 151 0 k_.toNat), .inr (.inr (some (13, 0))), .inl nx_], S_)) rfl ?_
        refine sm_T_cal (d1 := 1) (Q1 := vq_359n (S_.2.2.1 151 0 k_.toNat) p_ S_) rfl rfl (by decide) (vc_359n (S_.2.2.1 151 0 k_.toNat) p_ S_ hI_ (by (have c9_ := hI_.2 151 0 k_.toNat; have c8_ : 0 ≤ S_.2.2.1 151 0 k_.toNat ∧ S_.2.2.1 151 0 k_.toNat ≤ 2047 := c9_; omega)) (by omega)) (fun u_ Sx10_ px13_ => ?_)
        obtain ⟨rfl, vx15_, rfl, px13_⟩ := px13_
        have e354n := px13_
        have e354_ : vx15_ = 0 ∨ vx15_ = 1 := by (rw [e354n]; split; exact Or.inr rfl; exact Or.inl rfl)
        have bs9_ := bsh (k_ := R_) e354_ (show 0 ≤ k_ by omega) (by omega) (by omega)
        have or9_ := i_orp (x_ := nx_) (k_ := R_) (by omega) hnx_ bs9_
        refine sm_T_go 1 (c1 := (359, [some (.inr (.inr (some (13, 0)))), some (.inl d_), some (.inl mo_), some (.inl o_), some (.inl p_), some (.inl ou_), some (.inl nx_), some (.inl k_)], [.inl k_, .inl vx15_, .inl nx_], S_)) rfl ?_
        refine sm_T_bin (w := (i_shl vx15_ k_)) rfl rfl ?_
        refine sm_T_bin (w := (i_or nx_ (i_shl vx15_ k_))) rfl rfl ?_
        refine sm_T_go 1 (c1 := (363, [some (.inr (.inr (some (13, 0)))), some (.inl d_), some (.inl mo_), some (.inl o_), some (.inl p_), some (.inl ou_), some (.inl (i_or nx_ (i_shl vx15_ k_))), some (.inl k_)], [], S_)) rfl ?_
        refine sm_T_inc (a := 7) (z := 1) (v := k_) (w := k_ + 1) rfl rfl (by omega) (by omega) (by omega) ?_
        refine sm_T_go 1 (c1 := (333, [some (.inr (.inr (some (13, 0)))), some (.inl d_), some (.inl mo_), some (.inl o_), some (.inl p_), some (.inl ou_), some (.inl (i_or nx_ (i_shl vx15_ k_))), some (.inl (k_ + 1))], [], S_)) rfl ?_
        refine ih_.2.2.2.2.2 mo_ o_ p_ ou_ (i_or nx_ (i_shl vx15_ k_)) (k_ + 1) S_ hI_ hF_ ⟨?_, ?_, ?_, ?_, ?_, ?_, ?_, ?_, ?_, ?_, ?_, trivial⟩ ?_
        · omega
        · exact ho_
        · exact hzw_
        · exact hfw_
        · exact htb_
        · exact hou_
        · rw [show (k_ + 1).toNat = k_.toNat + 1 by omega, hnn_]
          exact kot_or (by omega) (by omega) e354n
        · omega
        · exact or9_
        · exact hk_
        · exact hR_
        · omega
set_option maxHeartbeats 4000000 in
set_option maxRecDepth 20000 in
theorem vc_360n {sc_ : Nat × (Nat → Int)} (d_ : Int) (b_ : Nat → Int) (n_ : Nat) (T_ : Nat) (tp_ : Nat) (B_ : pA) (e_ : gE) (N_ : Nat) (F_ : Nat) (I_ : Nat) (R_ : Nat) (dd_ : Nat) (x_ : gN) (S0_ : sm_S) (hI_ : gi S0_) (hd_ : d_ = (dd_ : Int) ∧ dd_ ≤ 5) (hmo_ : (S0_.1 13 0 12) = (tp_ : Int) + 1 ∧ tp_ ≤ 15) (hre_ : re1 b_ n_ T_ B_ tp_ S0_) (hB_ : a_ok b_ n_ B_ tp_) (hsu_ : 1 ≤ su (t_in B_ 1 tp_) (B_.1 tp_) ∧ su (t_in B_ 1 tp_) (B_.1 tp_) ≤ 16) (hE_ : ∀ s9_, s9_ < 40 → rwv (S0_.2.2.1 144 0) (8 * s9_) (e_ s9_)) (hln_ : ∀ s9_, s9_ < B_.1 tp_ → B_.2.2.1 (40 * tp_ + s9_) ≠ 5 → ((e_ s9_).length : Int) = B_.2.2.2.1 (40 * tp_ + s9_)) (hlw_ : ∀ s9_, lwl N_ (e_ s9_)) (hN_ : (S0_.1 13 0 37) = (N_ : Int)) (hg_ : rgr F_ S0_) (hrn_ : rnS S0_) (hI1_ : S0_.2.2.1 132 0 tp_ = (I_ : Int)) (hR1_ : (S0_.1 13 0 53) = (R_ : Int) ∧ R_ ≤ 6) (hFn_ : F_ = 1 + I_ + R_ ∧ F_ ≤ 13) (hxn_ : rxn R_ x_ S0_) : sm_T (mt_P sc_) 2 360 (0, [some (.inr (.inr (some (13, 0)))), some (.inl d_), none, none, none, none, none, none], [], S0_) (fun ro9_ => ∃ u_ S1_, ro9_ = (.inl u_, S1_, 0) ∧ vq_360n d_ b_ n_ T_ tp_ B_ e_ N_ F_ I_ R_ dd_ x_ S0_ u_ S1_) := by
  have hF_ : ai_fr (sx_W vw_360n) S0_ S0_ := ai_fr_rf
  have hR_ : rdf dd_ S0_ S0_ := rdf_rf
  have bx1_ : 0 ≤ S0_.1 13 0 12 ∧ S0_.1 13 0 12 ≤ 16 := hI_.1 13 0 12 rfl
  refine sm_T_go 3 (c1 := (5, [some (.inr (.inr (some (13, 0)))), some (.inl d_), none, none, none, none, none, none], [.inl 1, .inl (S0_.1 13 0 12)], S0_)) rfl ?_
  refine sm_T_bin (w := (S0_.1 13 0 12) - 1) rfl (bi_sub (by omega) (by omega) (by omega)) ?_
  refine sm_T_go 2 (c1 := (8, [some (.inr (.inr (some (13, 0)))), some (.inl d_), some (.inl ((S0_.1 13 0 12) - 1)), none, none, none, none, none], [.inr (.inr (some (13, 0)))], S0_)) rfl ?_
  refine sm_T_cal (d1 := 1) (Q1 := vq_352n F_ S0_) rfl rfl (by decide) (vc_352n F_ S0_ hI_ (by exact hg_)) (fun u_ Sx2_ px5_ => ?_)
  obtain ⟨rfl, hIx3_, hFx4_, px5_⟩ := px5_
  have hFx6_ : ai_fr (sx_W vw_360n) S0_ Sx2_ := ai_fr_tr hF_ (fr_le hFx4_ rfl)
  have hRx7_ : rdf dd_ S0_ Sx2_ := rdf_tr hR_ (rdf_fr hFx4_ (by decide))
  have ex8_ : Sx2_.1 13 0 12 = S0_.1 13 0 12 := hFx4_.1 13 0 12 rfl
  have e8_ := (px5_).1
  have b8_ := (px5_).2
  have g8_ := rgr_fr hg_ hFx4_ rfl rfl rfl rfl
  have a40_ := fr_arr (t := 140) (i := 0) hFx4_ rfl
  have a41_ := fr_arr (t := 141) (i := 0) hFx4_ rfl
  have n8_ := hFx4_.1 13 0 37 rfl
  refine sm_T_go 1 (c1 := (12, [some (.inr (.inr (some (13, 0)))), some (.inl d_), some (.inl ((S0_.1 13 0 12) - 1)), none, none, none, none, none], [.inr (.inr (some (13, 0)))], Sx2_)) rfl ?_
  refine sm_T_cal (d1 := 1) (Q1 := vq_354n F_ Sx2_) rfl rfl (by decide) (vc_354n F_ Sx2_ hIx3_ (by exact g8_) (by (rw [a40_, a41_, n8_]; exact e8_))) (fun u_ Sx9_ px12_ => ?_)
  obtain ⟨rfl, hIx10_, hFx11_, px12_⟩ := px12_
  have hFx13_ : ai_fr (sx_W vw_360n) S0_ Sx9_ := ai_fr_tr hFx6_ (fr_le hFx11_ rfl)
  have hRx14_ : rdf dd_ S0_ Sx9_ := rdf_tr hRx7_ (rdf_fr hFx11_ (by decide))
  have s12_ := (px12_).1
  have fw12_ : fwr F_ (S0_.1 13 0 37).toNat 64 (-1) (S0_.2.2.1 140 0) (S0_.2.2.1 141 0) (Sx9_.2.2.2 171 0) := fun m9_ hm9_ => by (rw [fr_lon (t_ := 171) (i_ := 0) hFx11_ rfl]; exact ⟨e8_ m9_ (by omega), b8_ m9_ (by omega)⟩)
  have sd12_ : swd F_ (S0_.1 13 0 37).toNat (S0_.2.2.1 140 0) (S0_.2.2.1 141 0) (Sx9_.2.2.1 172 0) := ⟨12, 64, -1, Sx9_.2.2.2 171 0, by omega, wmk_r, fw12_, by (have w9_ := (px12_).2; rw [hFx13_.1 13 0 37 rfl] at w9_; exact w9_)⟩
  have g12_ := rgr_fr g8_ hFx11_ rfl rfl rfl rfl
  refine sm_T_go 1 (c1 := (16, [some (.inr (.inr (some (13, 0)))), some (.inl d_), some (.inl ((S0_.1 13 0 12) - 1)), none, none, none, none, none], [.inr (.inr (some (13, 0)))], Sx9_)) rfl ?_
  refine sm_T_cal (d1 := 0) (Q1 := vq_357n b_ n_ T_ tp_ B_ e_ N_ Sx9_) rfl rfl (by decide) (vc_357n b_ n_ T_ tp_ B_ e_ N_ Sx9_ hIx10_ (by (rw [hFx13_.1 13 0 12 rfl]; exact hmo_)) (by exact re1_fr hre_ hFx13_ rfl rfl rfl rfl rfl rfl) (by exact hB_) (by exact hsu_.2) (by (rw [fr_arr (t := 144) (i := 0) hFx13_ rfl]; exact hE_)) (by exact hln_) (by exact hlw_)) (fun u_ Sx15_ px18_ => ?_)
  obtain ⟨vx20_, rfl, hIx16_, hFx17_, px18_⟩ := px18_
  have hFx19_ : ai_fr (sx_W vw_360n) S0_ Sx15_ := ai_fr_tr hFx13_ (fr_le hFx17_ rfl)
  have hRx21_ : rdf dd_ S0_ Sx15_ := rdf_tr hRx14_ (rdf_fr hFx17_ (by decide))
  have e16_ := px18_
  have ot16_ := e16_.2.2
  have sd16_ := swd_fr sd12_ hFx17_
  have fw16_ := fwl_fr fw12_ hFx17_
  have g16_ := rgr_fr g12_ hFx17_ rfl rfl rfl rfl
  have s16_ := rsw_fr s12_ hFx17_ rfl rfl rfl rfl
  have n16_ : Sx15_.1 13 0 37 = (N_ : Int) := (hFx19_.1 13 0 37 rfl).trans hN_
  have u16_ : Sx15_.1 13 0 53 = (R_ : Int) := (hFx19_.1 13 0 53 rfl).trans hR1_.1
  have R6_ := hR1_.2
  have b16_ : Sx15_.1 13 0 52 = S0_.1 13 0 52 := hFx19_.1 13 0 52 rfl
  have i16_ : Sx15_.2.2.1 132 0 (S0_.1 13 0 12 - 1).toNat = (I_ : Int) := by rw [fr_arr (t := 132) (i := 0) hFx19_ rfl, show (S0_.1 13 0 12 - 1).toNat = tp_ by omega]; exact hI1_
  have f16_ := g16_.1.1
  have gz16_ := g16_.2.1
  have o16_ : 1 ≤ vx20_ ∧ vx20_ ≤ 16 := by omega
  have r16_ : rrt vx20_ Sx15_ := ⟨by omega, by omega, fun k9_ hk9_ => by rw [n16_]; exact e16_.2.1 k9_ hk9_, fun k9_ hk9_ => by rw [hFx19_.1 13 0 37 rfl, fr_arr (t := 151) hFx19_ rfl]; exact hrn_.2 k9_ (by omega)⟩
  have bb16_ : 0 ≤ S0_.1 13 0 52 ∧ S0_.1 13 0 52 ≤ 63 := hI_.1 13 0 52 rfl
  refine sm_T_go 5 (c1 := (26, [some (.inr (.inr (some (13, 0)))), some (.inl d_), some (.inl ((S0_.1 13 0 12) - 1)), some (.inl vx20_), none, none, none, none], [.inl 1, .inl d_, .inr (.inr (some (153, 0)))], Sx15_)) rfl ?_
  refine sm_T_zas1 (n := 6) rfl rfl (by omega) (by omega) (by omega) ?_
  have hIx22_ : gi (sm_aI Sx15_ 153 0 d_.toNat 1) := gi_aI hIx16_ (show 0 ≤ 1 ∧ 1 ≤ 1 from ⟨by omega, by omega⟩)
  have hFx23_ : ai_fr (sx_W vw_360n) S0_ (sm_aI Sx15_ 153 0 d_.toNat 1) := ai_fr_tr hFx19_ (ai_fr_aI rfl)
  have hRx24_ : rdf dd_ S0_ (sm_aI Sx15_ 153 0 d_.toNat 1) := rdf_aI hRx21_ (Or.inr (by rw [show rds 153 = 1 from rfl]; omega))
  refine sm_T_go 6 (c1 := (37, [some (.inr (.inr (some (13, 0)))), some (.inl d_), some (.inl ((S0_.1 13 0 12) - 1)), some (.inl vx20_), none, none, none, none], [.inl ((S0_.1 13 0 12) - 1), .inr (.inr (some (132, 0))), .inl d_, .inr (.inr (some (154, 0)))], sm_aI Sx15_ 153 0 d_.toNat 1)) rfl ?_
  refine sm_T_iald (n := 16) rfl rfl (by omega) (by omega) ?_
  have bx25_ : 0 ≤ Sx15_.2.2.1 132 0 ((S0_.1 13 0 12) - 1).toNat ∧ Sx15_.2.2.1 132 0 ((S0_.1 13 0 12) - 1).toNat ≤ 320 := hIx16_.2 132 0 _
  refine sm_T_go 0 (c1 := (38, [some (.inr (.inr (some (13, 0)))), some (.inl d_), some (.inl ((S0_.1 13 0 12) - 1)), some (.inl vx20_), none, none, none, none], [.inl (Sx15_.2.2.1 132 0 ((S0_.1 13 0 12) - 1).toNat), .inl d_, .inr (.inr (some (154, 0)))], sm_aI Sx15_ 153 0 d_.toNat 1)) rfl ?_
  refine sm_T_iast (n := 6) rfl rfl (by omega) (by omega) ?_
  have hIx26_ : gi (sm_aI (sm_aI Sx15_ 153 0 d_.toNat 1) 154 0 d_.toNat (Sx15_.2.2.1 132 0 ((S0_.1 13 0 12) - 1).toNat)) := gi_aI hIx22_ (show 0 ≤ (Sx15_.2.2.1 132 0 ((S0_.1 13 0 12) - 1).toNat) ∧ (Sx15_.2.2.1 132 0 ((S0_.1 13 0 12) - 1).toNat) ≤ 12 from ⟨by omega, by omega⟩)
  have hFx27_ : ai_fr (sx_W vw_360n) S0_ (sm_aI (sm_aI Sx15_ 153 0 d_.toNat 1) 154 0 d_.toNat (Sx15_.2.2.1 132 0 ((S0_.1 13 0 12) - 1).toNat)) := ai_fr_tr hFx23_ (ai_fr_aI rfl)
  have hRx28_ : rdf dd_ S0_ (sm_aI (sm_aI Sx15_ 153 0 d_.toNat 1) 154 0 d_.toNat (Sx15_.2.2.1 132 0 ((S0_.1 13 0 12) - 1).toNat)) := rdf_aI hRx24_ (Or.inr (by rw [show rds 154 = 1 from rfl]; omega))
  have bx29_ : 0 ≤ Sx15_.1 13 0 53 ∧ Sx15_.1 13 0 53 ≤ 6 := hIx16_.1 13 0 53 rfl
  refine sm_T_go 5 (c1 := (48, [some (.inr (.inr (some (13, 0)))), some (.inl d_), some (.inl ((S0_.1 13 0 12) - 1)), some (.inl vx20_), none, none, none, none], [.inl (Sx15_.1 13 0 53), .inl d_, .inr (.inr (some (155, 0)))], sm_aI (sm_aI Sx15_ 153 0 d_.toNat 1) 154 0 d_.toNat (Sx15_.2.2.1 132 0 ((S0_.1 13 0 12) - 1).toNat))) rfl ?_
  refine sm_T_iast (n := 6) rfl rfl (by omega) (by omega) ?_
  have hIx30_ : gi (sm_aI (sm_aI (sm_aI Sx15_ 153 0 d_.toNat 1) 154 0 d_.toNat (Sx15_.2.2.1 132 0 ((S0_.1 13 0 12) - 1).toNat)) 155 0 d_.toNat (Sx15_.1 13 0 53)) := gi_aI hIx26_ (show 0 ≤ (Sx15_.1 13 0 53) ∧ (Sx15_.1 13 0 53) ≤ 6 from ⟨by omega, by omega⟩)
  have hFx31_ : ai_fr (sx_W vw_360n) S0_ (sm_aI (sm_aI (sm_aI Sx15_ 153 0 d_.toNat 1) 154 0 d_.toNat (Sx15_.2.2.1 132 0 ((S0_.1 13 0 12) - 1).toNat)) 155 0 d_.toNat (Sx15_.1 13 0 53)) := ai_fr_tr hFx27_ (ai_fr_aI rfl)
  have hRx32_ : rdf dd_ S0_ (sm_aI (sm_aI (sm_aI Sx15_ 153 0 d_.toNat 1) 154 0 d_.toNat (Sx15_.2.2.1 132 0 ((S0_.1 13 0 12) - 1).toNat)) 155 0 d_.toNat (Sx15_.1 13 0 53)) := rdf_aI hRx28_ (Or.inr (by rw [show rds 155 = 1 from rfl]; omega))
  refine sm_T_go 4 (c1 := (55, [some (.inr (.inr (some (13, 0)))), some (.inl d_), some (.inl ((S0_.1 13 0 12) - 1)), some (.inl vx20_), none, none, none, none], [.inl vx20_, .inl d_, .inr (.inr (some (156, 0)))], sm_aI (sm_aI (sm_aI Sx15_ 153 0 d_.toNat 1) 154 0 d_.toNat (Sx15_.2.2.1 132 0 ((S0_.1 13 0 12) - 1).toNat)) 155 0 d_.toNat (Sx15_.1 13 0 53))) rfl ?_
  refine sm_T_iast (n := 6) rfl rfl (by omega) (by omega) ?_
  have hIx33_ : gi (sm_aI (sm_aI (sm_aI (sm_aI Sx15_ 153 0 d_.toNat 1) 154 0 d_.toNat (Sx15_.2.2.1 132 0 ((S0_.1 13 0 12) - 1).toNat)) 155 0 d_.toNat (Sx15_.1 13 0 53)) 156 0 d_.toNat vx20_) := gi_aI hIx30_ (show 0 ≤ vx20_ ∧ vx20_ ≤ 16 from ⟨by omega, by omega⟩)
  have hFx34_ : ai_fr (sx_W vw_360n) S0_ (sm_aI (sm_aI (sm_aI (sm_aI Sx15_ 153 0 d_.toNat 1) 154 0 d_.toNat (Sx15_.2.2.1 132 0 ((S0_.1 13 0 12) - 1).toNat)) 155 0 d_.toNat (Sx15_.1 13 0 53)) 156 0 d_.toNat vx20_) := ai_fr_tr hFx31_ (ai_fr_aI rfl)
  have hRx35_ : rdf dd_ S0_ (sm_aI (sm_aI (sm_aI (sm_aI Sx15_ 153 0 d_.toNat 1) 154 0 d_.toNat (Sx15_.2.2.1 132 0 ((S0_.1 13 0 12) - 1).toNat)) 155 0 d_.toNat (Sx15_.1 13 0 53)) 156 0 d_.toNat vx20_) := rdf_aI hRx32_ (Or.inr (by rw [show rds 156 = 1 from rfl]; omega))
  have bx36_ : 0 ≤ Sx15_.1 13 0 52 ∧ Sx15_.1 13 0 52 ≤ 63 := hIx16_.1 13 0 52 rfl
  refine sm_T_go 5 (c1 := (65, [some (.inr (.inr (some (13, 0)))), some (.inl d_), some (.inl ((S0_.1 13 0 12) - 1)), some (.inl vx20_), none, none, none, none], [.inl (Sx15_.1 13 0 52), .inl d_, .inr (.inr (some (157, 0)))], sm_aI (sm_aI (sm_aI (sm_aI Sx15_ 153 0 d_.toNat 1) 154 0 d_.toNat (Sx15_.2.2.1 132 0 ((S0_.1 13 0 12) - 1).toNat)) 155 0 d_.toNat (Sx15_.1 13 0 53)) 156 0 d_.toNat vx20_)) rfl ?_
  refine sm_T_iast (n := 6) rfl rfl (by omega) (by omega) ?_
  have hIx37_ : gi (sm_aI (sm_aI (sm_aI (sm_aI (sm_aI Sx15_ 153 0 d_.toNat 1) 154 0 d_.toNat (Sx15_.2.2.1 132 0 ((S0_.1 13 0 12) - 1).toNat)) 155 0 d_.toNat (Sx15_.1 13 0 53)) 156 0 d_.toNat vx20_) 157 0 d_.toNat (Sx15_.1 13 0 52)) := gi_aI hIx33_ (show 0 ≤ (Sx15_.1 13 0 52) ∧ (Sx15_.1 13 0 52) ≤ 63 from ⟨by omega, by omega⟩)
  have hFx38_ : ai_fr (sx_W vw_360n) S0_ (sm_aI (sm_aI (sm_aI (sm_aI (sm_aI Sx15_ 153 0 d_.toNat 1) 154 0 d_.toNat (Sx15_.2.2.1 132 0 ((S0_.1 13 0 12) - 1).toNat)) 155 0 d_.toNat (Sx15_.1 13 0 53)) 156 0 d_.toNat vx20_) 157 0 d_.toNat (Sx15_.1 13 0 52)) := ai_fr_tr hFx34_ (ai_fr_aI rfl)
  have hRx39_ : rdf dd_ S0_ (sm_aI (sm_aI (sm_aI (sm_aI (sm_aI Sx15_ 153 0 d_.toNat 1) 154 0 d_.toNat (Sx15_.2.2.1 132 0 ((S0_.1 13 0 12) - 1).toNat)) 155 0 d_.toNat (Sx15_.1 13 0 53)) 156 0 d_.toNat vx20_) 157 0 d_.toNat (Sx15_.1 13 0 52)) := rdf_aI hRx35_ (Or.inr (by rw [show rds 157 = 1 from rfl]; omega))
  refine sm_T_go 5 (c1 := (75, [some (.inr (.inr (some (13, 0)))), some (.inl d_), some (.inl ((S0_.1 13 0 12) - 1)), some (.inl vx20_), none, none, none, none], [.inl (Sx15_.1 13 0 52), .inl d_, .inr (.inr (some (158, 0)))], sm_aI (sm_aI (sm_aI (sm_aI (sm_aI Sx15_ 153 0 d_.toNat 1) 154 0 d_.toNat (Sx15_.2.2.1 132 0 ((S0_.1 13 0 12) - 1).toNat)) 155 0 d_.toNat (Sx15_.1 13 0 53)) 156 0 d_.toNat vx20_) 157 0 d_.toNat (Sx15_.1 13 0 52))) rfl ?_
  refine sm_T_iast (n := 6) rfl rfl (by omega) (by omega) ?_
  have hIx40_ : gi (sm_aI (sm_aI (sm_aI (sm_aI (sm_aI (sm_aI Sx15_ 153 0 d_.toNat 1) 154 0 d_.toNat (Sx15_.2.2.1 132 0 ((S0_.1 13 0 12) - 1).toNat)) 155 0 d_.toNat (Sx15_.1 13 0 53)) 156 0 d_.toNat vx20_) 157 0 d_.toNat (Sx15_.1 13 0 52)) 158 0 d_.toNat (Sx15_.1 13 0 52)) := gi_aI hIx37_ (show 0 ≤ (Sx15_.1 13 0 52) ∧ (Sx15_.1 13 0 52) ≤ 63 from ⟨by omega, by omega⟩)
  have hFx41_ : ai_fr (sx_W vw_360n) S0_ (sm_aI (sm_aI (sm_aI (sm_aI (sm_aI (sm_aI Sx15_ 153 0 d_.toNat 1) 154 0 d_.toNat (Sx15_.2.2.1 132 0 ((S0_.1 13 0 12) - 1).toNat)) 155 0 d_.toNat (Sx15_.1 13 0 53)) 156 0 d_.toNat vx20_) 157 0 d_.toNat (Sx15_.1 13 0 52)) 158 0 d_.toNat (Sx15_.1 13 0 52)) := ai_fr_tr hFx38_ (ai_fr_aI rfl)
  have hRx42_ : rdf dd_ S0_ (sm_aI (sm_aI (sm_aI (sm_aI (sm_aI (sm_aI Sx15_ 153 0 d_.toNat 1) 154 0 d_.toNat (Sx15_.2.2.1 132 0 ((S0_.1 13 0 12) - 1).toNat)) 155 0 d_.toNat (Sx15_.1 13 0 53)) 156 0 d_.toNat vx20_) 157 0 d_.toNat (Sx15_.1 13 0 52)) 158 0 d_.toNat (Sx15_.1 13 0 52)) := rdf_aI hRx39_ (Or.inr (by rw [show rds 158 = 1 from rfl]; omega))
  have bx43_ : 0 ≤ Sx15_.1 13 0 37 ∧ Sx15_.1 13 0 37 ≤ 1014 := hIx16_.1 13 0 37 rfl
  refine sm_T_go 5 (c1 := (85, [some (.inr (.inr (some (13, 0)))), some (.inl d_), some (.inl ((S0_.1 13 0 12) - 1)), some (.inl vx20_), none, none, none, none], [.inl (Sx15_.1 13 0 37), .inl d_, .inr (.inr (some (159, 0)))], sm_aI (sm_aI (sm_aI (sm_aI (sm_aI (sm_aI Sx15_ 153 0 d_.toNat 1) 154 0 d_.toNat (Sx15_.2.2.1 132 0 ((S0_.1 13 0 12) - 1).toNat)) 155 0 d_.toNat (Sx15_.1 13 0 53)) 156 0 d_.toNat vx20_) 157 0 d_.toNat (Sx15_.1 13 0 52)) 158 0 d_.toNat (Sx15_.1 13 0 52))) rfl ?_
  refine sm_T_iast (n := 6) rfl rfl (by omega) (by omega) ?_
  have hIx44_ : gi (sm_aI (sm_aI (sm_aI (sm_aI (sm_aI (sm_aI (sm_aI Sx15_ 153 0 d_.toNat 1) 154 0 d_.toNat (Sx15_.2.2.1 132 0 ((S0_.1 13 0 12) - 1).toNat)) 155 0 d_.toNat (Sx15_.1 13 0 53)) 156 0 d_.toNat vx20_) 157 0 d_.toNat (Sx15_.1 13 0 52)) 158 0 d_.toNat (Sx15_.1 13 0 52)) 159 0 d_.toNat (Sx15_.1 13 0 37)) := gi_aI hIx40_ (show 0 ≤ (Sx15_.1 13 0 37) ∧ (Sx15_.1 13 0 37) ≤ 1013 from ⟨by omega, by omega⟩)
  have hFx45_ : ai_fr (sx_W vw_360n) S0_ (sm_aI (sm_aI (sm_aI (sm_aI (sm_aI (sm_aI (sm_aI Sx15_ 153 0 d_.toNat 1) 154 0 d_.toNat (Sx15_.2.2.1 132 0 ((S0_.1 13 0 12) - 1).toNat)) 155 0 d_.toNat (Sx15_.1 13 0 53)) 156 0 d_.toNat vx20_) 157 0 d_.toNat (Sx15_.1 13 0 52)) 158 0 d_.toNat (Sx15_.1 13 0 52)) 159 0 d_.toNat (Sx15_.1 13 0 37)) := ai_fr_tr hFx41_ (ai_fr_aI rfl)
  have hRx46_ : rdf dd_ S0_ (sm_aI (sm_aI (sm_aI (sm_aI (sm_aI (sm_aI (sm_aI Sx15_ 153 0 d_.toNat 1) 154 0 d_.toNat (Sx15_.2.2.1 132 0 ((S0_.1 13 0 12) - 1).toNat)) 155 0 d_.toNat (Sx15_.1 13 0 53)) 156 0 d_.toNat vx20_) 157 0 d_.toNat (Sx15_.1 13 0 52)) 158 0 d_.toNat (Sx15_.1 13 0 52)) 159 0 d_.toNat (Sx15_.1 13 0 37)) := rdf_aI hRx42_ (Or.inr (by rw [show rds 159 = 1 from rfl]; omega))
  have bx47_ : 0 ≤ Sx15_.1 13 0 38 ∧ Sx15_.1 13 0 38 ≤ 19 := hIx16_.1 13 0 38 rfl
  refine sm_T_go 5 (c1 := (95, [some (.inr (.inr (some (13, 0)))), some (.inl d_), some (.inl ((S0_.1 13 0 12) - 1)), some (.inl vx20_), none, none, none, none], [.inl (Sx15_.1 13 0 38), .inl d_, .inr (.inr (some (160, 0)))], sm_aI (sm_aI (sm_aI (sm_aI (sm_aI (sm_aI (sm_aI Sx15_ 153 0 d_.toNat 1) 154 0 d_.toNat (Sx15_.2.2.1 132 0 ((S0_.1 13 0 12) - 1).toNat)) 155 0 d_.toNat (Sx15_.1 13 0 53)) 156 0 d_.toNat vx20_) 157 0 d_.toNat (Sx15_.1 13 0 52)) 158 0 d_.toNat (Sx15_.1 13 0 52)) 159 0 d_.toNat (Sx15_.1 13 0 37))) rfl ?_
  refine sm_T_iast (n := 6) rfl rfl (by omega) (by omega) ?_
  have hIx48_ : gi (sm_aI (sm_aI (sm_aI (sm_aI (sm_aI (sm_aI (sm_aI (sm_aI Sx15_ 153 0 d_.toNat 1) 154 0 d_.toNat (Sx15_.2.2.1 132 0 ((S0_.1 13 0 12) - 1).toNat)) 155 0 d_.toNat (Sx15_.1 13 0 53)) 156 0 d_.toNat vx20_) 157 0 d_.toNat (Sx15_.1 13 0 52)) 158 0 d_.toNat (Sx15_.1 13 0 52)) 159 0 d_.toNat (Sx15_.1 13 0 37)) 160 0 d_.toNat (Sx15_.1 13 0 38)) := gi_aI hIx44_ (show 0 ≤ (Sx15_.1 13 0 38) ∧ (Sx15_.1 13 0 38) ≤ 19 from ⟨by omega, by omega⟩)
  have hFx49_ : ai_fr (sx_W vw_360n) S0_ (sm_aI (sm_aI (sm_aI (sm_aI (sm_aI (sm_aI (sm_aI (sm_aI Sx15_ 153 0 d_.toNat 1) 154 0 d_.toNat (Sx15_.2.2.1 132 0 ((S0_.1 13 0 12) - 1).toNat)) 155 0 d_.toNat (Sx15_.1 13 0 53)) 156 0 d_.toNat vx20_) 157 0 d_.toNat (Sx15_.1 13 0 52)) 158 0 d_.toNat (Sx15_.1 13 0 52)) 159 0 d_.toNat (Sx15_.1 13 0 37)) 160 0 d_.toNat (Sx15_.1 13 0 38)) := ai_fr_tr hFx45_ (ai_fr_aI rfl)
  have hRx50_ : rdf dd_ S0_ (sm_aI (sm_aI (sm_aI (sm_aI (sm_aI (sm_aI (sm_aI (sm_aI Sx15_ 153 0 d_.toNat 1) 154 0 d_.toNat (Sx15_.2.2.1 132 0 ((S0_.1 13 0 12) - 1).toNat)) 155 0 d_.toNat (Sx15_.1 13 0 53)) 156 0 d_.toNat vx20_) 157 0 d_.toNat (Sx15_.1 13 0 52)) 158 0 d_.toNat (Sx15_.1 13 0 52)) 159 0 d_.toNat (Sx15_.1 13 0 37)) 160 0 d_.toNat (Sx15_.1 13 0 38)) := rdf_aI hRx46_ (Or.inr (by rw [show rds 160 = 1 from rfl]; omega))
  refine sm_T_go 5 (c1 := (103, [some (.inr (.inr (some (13, 0)))), some (.inl d_), some (.inl ((S0_.1 13 0 12) - 1)), some (.inl vx20_), none, none, none, none], [.inl vx20_, .inr (.inr (some (13, 0))), .inl d_, .inr (.inr (some (161, 0)))], sm_aI (sm_aI (sm_aI (sm_aI (sm_aI (sm_aI (sm_aI (sm_aI Sx15_ 153 0 d_.toNat 1) 154 0 d_.toNat (Sx15_.2.2.1 132 0 ((S0_.1 13 0 12) - 1).toNat)) 155 0 d_.toNat (Sx15_.1 13 0 53)) 156 0 d_.toNat vx20_) 157 0 d_.toNat (Sx15_.1 13 0 52)) 158 0 d_.toNat (Sx15_.1 13 0 52)) 159 0 d_.toNat (Sx15_.1 13 0 37)) 160 0 d_.toNat (Sx15_.1 13 0 38))) rfl ?_
  refine sm_T_cal (d1 := 0) (Q1 := vq_358 vx20_ F_ (sm_aI (sm_aI (sm_aI (sm_aI (sm_aI (sm_aI (sm_aI (sm_aI Sx15_ 153 0 d_.toNat 1) 154 0 d_.toNat (Sx15_.2.2.1 132 0 ((S0_.1 13 0 12) - 1).toNat)) 155 0 d_.toNat (Sx15_.1 13 0 53)) 156 0 d_.toNat vx20_) 157 0 d_.toNat (Sx15_.1 13 0 52)) 158 0 d_.toNat (Sx15_.1 13 0 52)) 159 0 d_.toNat (Sx15_.1 13 0 37)) 160 0 d_.toNat (Sx15_.1 13 0 38))) rfl rfl (by decide) (vc_358 vx20_ F_ (sm_aI (sm_aI (sm_aI (sm_aI (sm_aI (sm_aI (sm_aI (sm_aI Sx15_ 153 0 d_.toNat 1) 154 0 d_.toNat (Sx15_.2.2.1 132 0 ((S0_.1 13 0 12) - 1).toNat)) 155 0 d_.toNat (Sx15_.1 13 0 53)) 156 0 d_.toNat vx20_) 157 0 d_.toNat (Sx15_.1 13 0 52)) 158 0 d_.toNat (Sx15_.1 13 0 52)) 159 0 d_.toNat (Sx15_.1 13 0 37)) 160 0 d_.toNat (Sx15_.1 13 0 38)) hIx48_ (by exact rgr_fr (w_ := ([], [153, 154, 155, 156, 157, 158, 159, 160], [])) g16_ kd8.2 rfl rfl rfl rfl) (by exact rrt_fr (w_ := ([], [153, 154, 155, 156, 157, 158, 159, 160], [])) r16_ kd8.2 rfl rfl rfl rfl)) (fun u_ Sx51_ px54_ => ?_)
  obtain ⟨vx56_, rfl, hIx52_, hFx53_, px54_⟩ := px54_
  have hFx55_ : ai_fr (sx_W vw_360n) S0_ Sx51_ := ai_fr_tr hFx49_ (fr_le hFx53_ rfl)
  have hRx57_ : rdf dd_ S0_ Sx51_ := rdf_tr hRx50_ (rdf_fr hFx53_ (by decide))
  have e103_ := px54_
  have K8_ := (kd8 : (((sm_aI (sm_aI (sm_aI (sm_aI (sm_aI (sm_aI (sm_aI (sm_aI Sx15_ 153 0 d_.toNat 1) 154 0 d_.toNat (Sx15_.2.2.1 132 0 ((S0_.1 13 0 12) - 1).toNat)) 155 0 d_.toNat (Sx15_.1 13 0 53)) 156 0 d_.toNat vx20_) 157 0 d_.toNat (Sx15_.1 13 0 52)) 158 0 d_.toNat (Sx15_.1 13 0 52)) 159 0 d_.toNat (Sx15_.1 13 0 37)) 160 0 d_.toNat (Sx15_.1 13 0 38))).2.2.1 153 0 d_.toNat = _ ∧ ((sm_aI (sm_aI (sm_aI (sm_aI (sm_aI (sm_aI (sm_aI (sm_aI Sx15_ 153 0 d_.toNat 1) 154 0 d_.toNat (Sx15_.2.2.1 132 0 ((S0_.1 13 0 12) - 1).toNat)) 155 0 d_.toNat (Sx15_.1 13 0 53)) 156 0 d_.toNat vx20_) 157 0 d_.toNat (Sx15_.1 13 0 52)) 158 0 d_.toNat (Sx15_.1 13 0 52)) 159 0 d_.toNat (Sx15_.1 13 0 37)) 160 0 d_.toNat (Sx15_.1 13 0 38))).2.2.1 154 0 d_.toNat = _ ∧ ((sm_aI (sm_aI (sm_aI (sm_aI (sm_aI (sm_aI (sm_aI (sm_aI Sx15_ 153 0 d_.toNat 1) 154 0 d_.toNat (Sx15_.2.2.1 132 0 ((S0_.1 13 0 12) - 1).toNat)) 155 0 d_.toNat (Sx15_.1 13 0 53)) 156 0 d_.toNat vx20_) 157 0 d_.toNat (Sx15_.1 13 0 52)) 158 0 d_.toNat (Sx15_.1 13 0 52)) 159 0 d_.toNat (Sx15_.1 13 0 37)) 160 0 d_.toNat (Sx15_.1 13 0 38))).2.2.1 155 0 d_.toNat = _ ∧ ((sm_aI (sm_aI (sm_aI (sm_aI (sm_aI (sm_aI (sm_aI (sm_aI Sx15_ 153 0 d_.toNat 1) 154 0 d_.toNat (Sx15_.2.2.1 132 0 ((S0_.1 13 0 12) - 1).toNat)) 155 0 d_.toNat (Sx15_.1 13 0 53)) 156 0 d_.toNat vx20_) 157 0 d_.toNat (Sx15_.1 13 0 52)) 158 0 d_.toNat (Sx15_.1 13 0 52)) 159 0 d_.toNat (Sx15_.1 13 0 37)) 160 0 d_.toNat (Sx15_.1 13 0 38))).2.2.1 156 0 d_.toNat = _ ∧ ((sm_aI (sm_aI (sm_aI (sm_aI (sm_aI (sm_aI (sm_aI (sm_aI Sx15_ 153 0 d_.toNat 1) 154 0 d_.toNat (Sx15_.2.2.1 132 0 ((S0_.1 13 0 12) - 1).toNat)) 155 0 d_.toNat (Sx15_.1 13 0 53)) 156 0 d_.toNat vx20_) 157 0 d_.toNat (Sx15_.1 13 0 52)) 158 0 d_.toNat (Sx15_.1 13 0 52)) 159 0 d_.toNat (Sx15_.1 13 0 37)) 160 0 d_.toNat (Sx15_.1 13 0 38))).2.2.1 157 0 d_.toNat = _ ∧ ((sm_aI (sm_aI (sm_aI (sm_aI (sm_aI (sm_aI (sm_aI (sm_aI Sx15_ 153 0 d_.toNat 1) 154 0 d_.toNat (Sx15_.2.2.1 132 0 ((S0_.1 13 0 12) - 1).toNat)) 155 0 d_.toNat (Sx15_.1 13 0 53)) 156 0 d_.toNat vx20_) 157 0 d_.toNat (Sx15_.1 13 0 52)) 158 0 d_.toNat (Sx15_.1 13 0 52)) 159 0 d_.toNat (Sx15_.1 13 0 37)) 160 0 d_.toNat (Sx15_.1 13 0 38))).2.2.1 158 0 d_.toNat = _ ∧ ((sm_aI (sm_aI (sm_aI (sm_aI (sm_aI (sm_aI (sm_aI (sm_aI Sx15_ 153 0 d_.toNat 1) 154 0 d_.toNat (Sx15_.2.2.1 132 0 ((S0_.1 13 0 12) - 1).toNat)) 155 0 d_.toNat (Sx15_.1 13 0 53)) 156 0 d_.toNat vx20_) 157 0 d_.toNat (Sx15_.1 13 0 52)) 158 0 d_.toNat (Sx15_.1 13 0 52)) 159 0 d_.toNat (Sx15_.1 13 0 37)) 160 0 d_.toNat (Sx15_.1 13 0 38))).2.2.1 159 0 d_.toNat = _ ∧ ((sm_aI (sm_aI (sm_aI (sm_aI (sm_aI (sm_aI (sm_aI (sm_aI Sx15_ 153 0 d_.toNat 1) 154 0 d_.toNat (Sx15_.2.2.1 132 0 ((S0_.1 13 0 12) - 1).toNat)) 155 0 d_.toNat (Sx15_.1 13 0 53)) 156 0 d_.toNat vx20_) 157 0 d_.toNat (Sx15_.1 13 0 52)) 158 0 d_.toNat (Sx15_.1 13 0 52)) 159 0 d_.toNat (Sx15_.1 13 0 37)) 160 0 d_.toNat (Sx15_.1 13 0 38))).2.2.1 160 0 d_.toNat = _) ∧ ai_fr (sx_W ([], [153, 154, 155, 156, 157, 158, 159, 160], [])) _ ((sm_aI (sm_aI (sm_aI (sm_aI (sm_aI (sm_aI (sm_aI (sm_aI Sx15_ 153 0 d_.toNat 1) 154 0 d_.toNat (Sx15_.2.2.1 132 0 ((S0_.1 13 0 12) - 1).toNat)) 155 0 d_.toNat (Sx15_.1 13 0 53)) 156 0 d_.toNat vx20_) 157 0 d_.toNat (Sx15_.1 13 0 52)) 158 0 d_.toNat (Sx15_.1 13 0 52)) 159 0 d_.toNat (Sx15_.1 13 0 37)) 160 0 d_.toNat (Sx15_.1 13 0 38))))
  have F103_ := ai_fr_tr (W := sx_W ([], [153, 154, 155, 156, 157, 158, 159, 160, 161, 162, 173, 174], [])) (fr_le K8_.2 rfl) (fr_le hFx53_ rfl)
  have G103_ : ai_fr (sx_W ([], [161, 162, 173, 174], [])) ((sm_aI (sm_aI (sm_aI (sm_aI (sm_aI (sm_aI (sm_aI (sm_aI Sx15_ 153 0 d_.toNat 1) 154 0 d_.toNat (Sx15_.2.2.1 132 0 ((S0_.1 13 0 12) - 1).toNat)) 155 0 d_.toNat (Sx15_.1 13 0 53)) 156 0 d_.toNat vx20_) 157 0 d_.toNat (Sx15_.1 13 0 52)) 158 0 d_.toNat (Sx15_.1 13 0 52)) 159 0 d_.toNat (Sx15_.1 13 0 37)) 160 0 d_.toNat (Sx15_.1 13 0 38))) Sx51_ := fr_le hFx53_ rfl
  obtain ⟨q0_, q1_, q2_, q3_, q4_, q5_, q6_, q7_⟩ := K8_.1
  refine sm_T_iast (n := 6) rfl rfl (by omega) (by omega) ?_
  have hIx58_ : gi (sm_aI Sx51_ 161 0 d_.toNat vx56_) := gi_aI hIx52_ (show 0 ≤ vx56_ ∧ vx56_ ≤ 1000 from ⟨by omega, by omega⟩)
  have hFx59_ : ai_fr (sx_W vw_360n) S0_ (sm_aI Sx51_ 161 0 d_.toNat vx56_) := ai_fr_tr hFx55_ (ai_fr_aI rfl)
  have hRx60_ : rdf dd_ S0_ (sm_aI Sx51_ 161 0 d_.toNat vx56_) := rdf_aI hRx57_ (Or.inr (by rw [show rds 161 = 1 from rfl]; omega))
  refine sm_T_go 5 (c1 := (114, [some (.inr (.inr (some (13, 0)))), some (.inl d_), some (.inl ((S0_.1 13 0 12) - 1)), some (.inl vx20_), none, none, none, none], [.inl vx20_, .inr (.inr (some (13, 0))), .inl d_, .inr (.inr (some (162, 0)))], sm_aI Sx51_ 161 0 d_.toNat vx56_)) rfl ?_
  refine sm_T_cal (d1 := 1) (Q1 := vq_356 vx20_ F_ (sm_aI Sx51_ 161 0 d_.toNat vx56_)) rfl rfl (by decide) (vc_356 vx20_ F_ (sm_aI Sx51_ 161 0 d_.toNat vx56_) hIx58_ (by exact rgr_fr (w_ := ([], [153, 154, 155, 156, 157, 158, 159, 160, 161, 162, 173, 174], [])) g16_ (ai_fr_tr F103_ (ai_fr_aI rfl)) rfl rfl rfl rfl) (by exact rrt_fr (w_ := ([], [153, 154, 155, 156, 157, 158, 159, 160, 161, 162, 173, 174], [])) r16_ (ai_fr_tr F103_ (ai_fr_aI rfl)) rfl rfl rfl rfl) (by exact rsw_fr (w_ := ([], [153, 154, 155, 156, 157, 158, 159, 160, 161, 162, 173, 174], [])) s16_ (ai_fr_tr F103_ (ai_fr_aI rfl)) rfl rfl rfl rfl)) (fun u_ Sx61_ px64_ => ?_)
  obtain ⟨vx66_, rfl, hIx62_, hFx63_, px64_⟩ := px64_
  have hFx65_ : ai_fr (sx_W vw_360n) S0_ Sx61_ := ai_fr_tr hFx59_ (fr_le hFx63_ rfl)
  have hRx67_ : rdf dd_ S0_ Sx61_ := rdf_tr hRx60_ (rdf_fr hFx63_ (by decide))
  have e114_ := px64_
  have F114_ := ai_fr_tr (ai_fr_tr F103_ (ai_fr_aI (t := 161) rfl)) (fr_le hFx63_ rfl)
  have G114_ := ai_fr_tr (ai_fr_tr G103_ (ai_fr_aI (t := 161) rfl)) (fr_le hFx63_ rfl)
  refine sm_T_iast (n := 6) rfl rfl (by omega) (by omega) ?_
  have hIx68_ : gi (sm_aI Sx61_ 162 0 d_.toNat vx66_) := gi_aI hIx62_ (show 0 ≤ vx66_ ∧ vx66_ ≤ 1000 from ⟨by omega, by omega⟩)
  have hFx69_ : ai_fr (sx_W vw_360n) S0_ (sm_aI Sx61_ 162 0 d_.toNat vx66_) := ai_fr_tr hFx65_ (ai_fr_aI rfl)
  have hRx70_ : rdf dd_ S0_ (sm_aI Sx61_ 162 0 d_.toNat vx66_) := rdf_aI hRx67_ (Or.inr (by rw [show rds 162 = 1 from rfl]; omega))
  refine sm_T_go 2 (c1 := (121, [some (.inr (.inr (some (13, 0)))), some (.inl d_), some (.inl ((S0_.1 13 0 12) - 1)), some (.inl vx20_), some (.inl 0), none, none, none], [], sm_aI Sx61_ 162 0 d_.toNat vx66_)) rfl ?_
  refine (vl_360n d_ b_ n_ T_ tp_ B_ e_ N_ F_ I_ R_ dd_ x_ S0_ hd_ hmo_ hre_ hB_ hsu_ hE_ hln_ hlw_ hN_ hg_ hrn_ hI1_ hR1_ hFn_ hxn_ _).1 ((S0_.1 13 0 12) - 1) vx20_ 0 (sm_aI Sx61_ 162 0 d_.toNat vx66_) hIx68_ hFx69_ ⟨?_, ?_, ?_, ?_, ?_, ?_, ?_, trivial⟩ (Nat.lt_succ_self _)
  · omega
  · have FE_ : ai_fr (sx_W ([], [153, 154, 155, 156, 157, 158, 159, 160, 161, 162, 173, 174], [])) _ ((sm_aI Sx61_ 162 0 d_.toNat vx66_)) := ai_fr_tr F114_ (ai_fr_aI rfl)
    exact otr_fr ot16_ FE_
  · have FE_ : ai_fr (sx_W ([], [153, 154, 155, 156, 157, 158, 159, 160, 161, 162, 173, 174], [])) _ ((sm_aI Sx61_ 162 0 d_.toNat vx66_)) := ai_fr_tr F114_ (ai_fr_aI rfl)
    exact swd_fr sd16_ FE_
  · have FE_ : ai_fr (sx_W ([], [153, 154, 155, 156, 157, 158, 159, 160, 161, 162, 173, 174], [])) _ ((sm_aI Sx61_ 162 0 d_.toNat vx66_)) := ai_fr_tr F114_ (ai_fr_aI rfl)
    exact fwl_fr fw16_ FE_
  · (clear K8_; omega)
  · have GE_ : ai_fr (sx_W ([], [161, 162, 173, 174], [])) _ ((sm_aI Sx61_ 162 0 d_.toNat vx66_)) := ai_fr_tr G114_ (ai_fr_aI rfl)
    have FE_ : ai_fr (sx_W ([], [153, 154, 155, 156, 157, 158, 159, 160, 161, 162, 173, 174], [])) _ ((sm_aI Sx61_ 162 0 d_.toNat vx66_)) := ai_fr_tr F114_ (ai_fr_aI rfl)
    have dn_ : d_.toNat = dd_ := by omega
    rw [← dn_]
    refine ⟨⟨(congrFun (fr_arr (t := 153) (i := 0) GE_ rfl) d_.toNat).trans q0_, (congrFun (fr_arr (t := 154) (i := 0) GE_ rfl) d_.toNat).trans (q1_.trans i16_), (congrFun (fr_arr (t := 155) (i := 0) GE_ rfl) d_.toNat).trans (q2_.trans u16_), (congrFun (fr_arr (t := 156) (i := 0) GE_ rfl) d_.toNat).trans q3_, (congrFun (fr_arr (t := 157) (i := 0) GE_ rfl) d_.toNat).trans (q4_.trans b16_), (congrFun (fr_arr (t := 158) (i := 0) GE_ rfl) d_.toNat).trans (q5_.trans b16_), (congrFun (fr_arr (t := 159) (i := 0) GE_ rfl) d_.toNat).trans (q6_.trans (FE_.1 13 0 37 rfl).symm), (congrFun (fr_arr (t := 160) (i := 0) GE_ rfl) d_.toNat).trans (q7_.trans f16_)⟩, ⟨rgr_fr g16_ FE_ rfl rfl rfl rfl, rsw_fr s16_ FE_ rfl rfl rfl rfl, rrt_fr r16_ FE_ rfl rfl rfl rfl, (FE_.1 13 0 53 rfl).trans u16_⟩, fun j9_ h9_ => absurd h9_ (Nat.not_lt_zero _), fun j9_ h9_ => absurd h9_ (Nat.not_lt_zero _), fun j9_ h9_ => absurd h9_ (Nat.not_lt_zero _), fun j9_ h9_ => absurd h9_ (Nat.not_lt_zero _)⟩
  · exact hRx70_
end
/-! 99.ztY -/
section
/-! what design keeps: the reference; written by wip/p55/gen/vg -/

/-- what a_ text's next values and beginning come to_ -/
def dnx (r_ : pD) : gN := nxm (1 + d_I r_ + d_R r_) (d_I r_) r_.1 (dC r_) 16 (d_tp r_) ([], 0, 1) (ein r_.1 (d_tp r_)) nx0

/-! M_.design -/
def vw_363n : sx_Wl := ([(13, 0), (13, 2), (13, 3), (13, 9), (13, 10), (13, 11), (13, 12), (13, 25), (13, 26), (13, 27), (13, 28), (13, 29), (13, 32), (13, 33), (13, 34), (13, 37), (13, 38), (13, 52), (13, 53), (13, 79)], [119, 120, 121, 122, 123, 124, 125, 126, 127, 128, 129, 130, 131, 132, 133, 134, 135, 136, 137, 138, 139, 140, 141, 142, 143, 144, 145, 146, 147, 148, 149, 150, 151, 152, 153, 154, 155, 156, 157, 158, 159, 160, 161, 162, 163, 164, 165, 166, 167, 168, 169, 170, 171, 172, 173, 174, 175, 176], [])
def vq_363n (b_ : Nat → Int) (n_ : Nat) (S0_ : sm_S) (u_ : Option sm_V) (S1_ : sm_S) : Prop := ∃ v_ : Int, u_ = some (.inl v_) ∧ gi S1_ ∧ ai_fr (sx_W vw_363n) S0_ S1_ ∧ (((S1_.1 13 0 0) = 1 ∧ (∀ j_ : Nat, j_ < 6 → S0_.2.2.1 153 0 j_ = 1) ∧ (S1_.1 13 0 2) = (S0_.1 13 0 2) ∧ rdf 6 S0_ S1_ ∧ S1_.1 13 0 79 = S0_.1 13 0 79) ∨ ((S1_.1 13 0 0) = 0 ∧ ∃ sl_ : Nat, sl_ < 6 ∧ S0_.2.2.1 153 0 sl_ = 0 ∧ (∀ j_ : Nat, j_ < sl_ → S0_.2.2.1 153 0 j_ = 1) ∧ (S1_.1 13 0 2) = 0 ∧ rdf sl_ S0_ S1_ ∧ (((∃ r_ z_, dok b_ n_ r_ z_ ∧ dgR sl_ r_ z_ S1_ ∧ dgn sl_ (d_R r_) r_.1 (d_tp r_) z_.2 (dnx r_) S1_ ∧ dgs sl_ (1 + d_I r_ + d_R r_) (1 + d_I r_ + d_R r_ + z_.1.1.length) S1_ ∧ dgt sl_ (1 + d_I r_ + d_R r_) (1 + d_I r_ + d_R r_ + z_.1.1.length) (su (t_in r_.1 1 (d_tp r_)) (r_.1.1 (d_tp r_))).toNat (d_R r_) S1_) ∧ S1_.2.2.1 153 0 sl_ = 1 ∧ dRk sl_ S1_ ∧ v_ = (sl_ : Int) ∧ S1_.1 13 0 79 = 0) ∨ (¬ dacc b_ n_ ∧ S1_.2.2.1 153 0 sl_ = 0 ∧ ∃ e_, dfe b_ n_ e_ ∧ v_ = -1 - (e_.2 : Int) ∧ S1_.1 13 0 79 = e_.1))))
set_option maxHeartbeats 3000000 in
set_option maxRecDepth 20000 in
theorem vc_363n {sc_ : Nat × (Nat → Int)} (b_ : Nat → Int) (n_ : Nat) (S0_ : sm_S) (hI_ : gi S0_) (hb_ : S0_.2.2.1 118 0 = b_) (hn_ : (S0_.1 13 0 2) = (n_ : Int)) (hn1_ : n_ ≤ 1280) : sm_T (mt_P sc_) 12 363 (0, [some (.inr (.inr (some (13, 0)))), none], [], S0_) (fun ro9_ => ∃ u_ S1_, ro9_ = (.inl u_, S1_, 0) ∧ vq_363n b_ n_ S0_ u_ S1_) := by
  have hF_ : ai_fr (sx_W vw_363n) S0_ S0_ := ai_fr_rf
  refine sm_T_go 3 (c1 := (6, [some (.inr (.inr (some (13, 0)))), none], [.inl 6, .inr (.inr (some (153, 0)))], S0_)) rfl ?_
  refine sm_T_cal (d1 := 0) (Q1 := vq_362d 6 S0_) rfl rfl (by decide) (vc_362d 6 S0_ hI_ (by rfl)) (fun u_ Sx1_ px4_ => ?_)
  obtain ⟨rfl, vx6_, rfl, px4_⟩ := px4_
  obtain ⟨sl_, hsl_⟩ : ∃ sl_ : Nat, (vx6_ = -1 ∧ ∀ j_ : Nat, j_ < 6 → S0_.2.2.1 153 0 j_ = 1) ∨ (vx6_ = (sl_ : Int) ∧ sl_ < 6 ∧ S0_.2.2.1 153 0 sl_ = 0 ∧ ∀ j_ : Nat, j_ < sl_ → S0_.2.2.1 153 0 j_ = 1) := by rcases px4_ with z_ | ⟨u_, z_⟩; exact ⟨0, Or.inl z_⟩; exact ⟨u_, Or.inr z_⟩
  clear px4_
  obtain ⟨sv_, hsv_⟩ : ∃ sv_, sv_ = vx6_ := ⟨_, rfl⟩
  rw [← hsv_] at hsl_
  refine sm_T_go 4 (c1 := (13, [some (.inr (.inr (some (13, 0)))), some (.inl vx6_)], [.inl (-1), .inl vx6_, .inr (.inr (some (13, 0)))], S0_)) rfl ?_
  refine sm_T_br (a := 1) (z := 7) rfl (fun cx7_ => ?_) (fun cx7_ => ?_)
  · have cx7_ : vx6_ ≠ (-1) := of_decide_eq_true cx7_
    have nv_ := cx7_
    obtain ⟨hs1_, hs2_, hs3_, hs4_⟩ : sv_ = (sl_ : Int) ∧ sl_ < 6 ∧ S0_.2.2.1 153 0 sl_ = 0 ∧ ∀ j_ : Nat, j_ < sl_ → S0_.2.2.1 153 0 j_ = 1 := by rcases hsl_ with z_ | z_; (exfalso; have := z_.1; omega); exact z_
    clear hsl_
    have hIx8_ : gi (sm_pI S0_ 13 0 0 0) := gi_pI hI_ (show 0 ≤ 0 ∧ 0 ≤ 4 from ⟨by omega, by omega⟩)
    have hFx9_ : ai_fr (sx_W vw_363n) S0_ (sm_pI S0_ 13 0 0 0) := ai_fr_tr hF_ (ai_fr_pI rfl)
    refine sm_T_go 6 (c1 := (34, [some (.inr (.inr (some (13, 0)))), some (.inl vx6_)], [.inr (.inr (some (13, 0)))], sm_pI S0_ 13 0 0 0)) rfl ?_
    refine sm_T_cal (d1 := 11) (Q1 := vq_340 b_ n_ (sm_pI S0_ 13 0 0 0)) rfl rfl (by decide) (vc_340 b_ n_ (sm_pI S0_ 13 0 0 0) hIx8_ (by exact hb_) (by exact (rf_nk (by decide)).trans hn_) (by exact hn1_)) (fun u_ Sx10_ px13_ => ?_)
    obtain ⟨rfl, hIx11_, hFx12_, px13_⟩ := px13_
    have hFx14_ : ai_fr (sx_W vw_363n) S0_ Sx10_ := ai_fr_tr hFx9_ (fr_le hFx12_ rfl)
    obtain ⟨T_, tt_, hX_⟩ := px13_
    have rd34_ : rdf sl_ S0_ Sx10_ := rdf_tr (rdf_fr (w_ := ([(13, 0)], [], [])) (ai_fr_pI rfl) (by decide)) (rdf_fr hFx12_ (by decide))
    have th34_ : Sx10_.2.2.1 153 0 sl_ = 0 := (congrFun (fr_arr (t := 153) (i := 0) hFx12_ rfl) sl_).trans hs3_
    have cd34_ : Sx10_.1 13 0 0 = 0 := (hFx12_.1 13 0 0 rfl).trans rf_eq
    have hU_ : (¬ dacc b_ n_ ∧ Sx10_.1 13 0 10 ≠ 0 ∧ dfs b_ n_ Sx10_) ∨ (Sx10_.1 13 0 10 = 0 ∧ ∃ r_ z_, rdy b_ n_ T_ r_ z_ Sx10_) := by (rcases hX_ with ⟨e9_, x1_, x2_⟩ | ⟨r9_, x1_, x2_, x3_, x4_, x5_⟩; (left; exact ⟨dacc_l x1_, fun z9_ => x2_.2.2 (x2_.1.symm.trans z9_), e9_, Or.inl x1_, x2_.1, x2_.2.1⟩); (have lm_ := rT_lm hn1_ x1_ x2_; rw [lm_.1] at x4_; by_cases l0_ : d_lm r9_ = 0; (right; obtain ⟨z9_, y1_, y2_, y3_⟩ := d_zz hn1_ x1_ l0_; exact ⟨x4_.trans l0_, r9_, z9_, x1_, l0_, y1_, y2_, y3_, x2_⟩); (left; exact ⟨dacc_r x1_ (Or.inl l0_), by rw [x4_]; exact l0_, (d_lm r9_, r9_.2.1 (d_tp r9_)), Or.inr ⟨r9_, x1_, rfl, Or.inl ⟨l0_, rfl⟩⟩, x4_, x5_ (by rw [x4_]; exact l0_)⟩)))
    clear hX_
    refine sm_T_go 1 (c1 := (38, [some (.inr (.inr (some (13, 0)))), some (.inl vx6_)], [.inr (.inr (some (13, 0)))], Sx10_)) rfl ?_
    refine sm_T_cal (d1 := 0) (Q1 := vq_292  Sx10_) rfl rfl (by decide) (vc_292  Sx10_ hIx11_ ) (fun u_ Sx15_ px18_ => ?_)
    obtain ⟨rfl, vx20_, rfl, px18_⟩ := px18_
    have e38_ := px18_
    refine sm_T_b0 (a := 0) (z := 7) rfl (fun cx21_ => ?_) (fun cx21_ => ?_)
    · have cx21_ : vx20_ = 0 := of_decide_eq_true cx21_
      have f0_ : ¬ dacc b_ n_ := by rcases hU_ with z9_ | z9_; exact z9_.1; (exfalso; have q9_ := z9_.1; rw [if_pos q9_] at e38_; omega)
      have ds9_ : Sx10_.1 13 0 10 = 0 ∨ dfs b_ n_ Sx10_ := by rcases hU_ with z9_ | z9_; exact Or.inr z9_.2.2; (exfalso; have q9_ := z9_.1; rw [if_pos q9_] at e38_; omega)
      clear hU_
      have fz_ : Sx10_.1 13 0 10 ≠ 0 := fun q9_ => by rw [if_pos q9_] at e38_; omega
      have nd9_ : ¬ dacc b_ n_ ∨ False := Or.inl f0_
      obtain ⟨r_, hr0_⟩ : ∃ r_ : pD, r_ = pD0 := ⟨_, rfl⟩
      obtain ⟨z_, hz0_⟩ : ∃ z_ : gQ × gE, z_ = gz0 := ⟨_, rfl⟩
      have rdX_ := rd34_
      have thX_ := th34_
      have cdX_ := cd34_
      have hIx22_ : gi (sm_pI Sx10_ 13 0 2 0) := gi_pI hIx11_ (show 0 ≤ 0 ∧ 0 ≤ 1280 from ⟨by omega, by omega⟩)
      have hFx23_ : ai_fr (sx_W vw_363n) S0_ (sm_pI Sx10_ 13 0 2 0) := ai_fr_tr hFx14_ (ai_fr_pI rfl)
      have bx24_ : 0 ≤ Sx10_.1 13 0 10 ∧ Sx10_.1 13 0 10 ≤ 23 := hIx11_.1 13 0 10 rfl
      have hIx25_ : gi (sm_pI (sm_pI Sx10_ 13 0 2 0) 13 0 79 (Sx10_.1 13 0 10)) := gi_pI hIx22_ (show 0 ≤ (Sx10_.1 13 0 10) ∧ (Sx10_.1 13 0 10) ≤ 23 from ⟨by omega, by omega⟩)
      have hFx26_ : ai_fr (sx_W vw_363n) S0_ (sm_pI (sm_pI Sx10_ 13 0 2 0) 13 0 79 (Sx10_.1 13 0 10)) := ai_fr_tr hFx23_ (ai_fr_pI rfl)
      refine sm_T_go 8 (c1 := (62, [some (.inr (.inr (some (13, 0)))), some (.inl vx6_)], [.inr (.inr (some (13, 0)))], sm_pI (sm_pI Sx10_ 13 0 2 0) 13 0 79 (Sx10_.1 13 0 10))) rfl ?_
      refine sm_T_cal (d1 := 0) (Q1 := vq_292  (sm_pI (sm_pI Sx10_ 13 0 2 0) 13 0 79 (Sx10_.1 13 0 10))) rfl rfl (by decide) (vc_292  (sm_pI (sm_pI Sx10_ 13 0 2 0) 13 0 79 (Sx10_.1 13 0 10)) hIx25_ ) (fun u_ Sx27_ px30_ => ?_)
      obtain ⟨rfl, vx32_, rfl, px30_⟩ := px30_
      have e62_ := px30_
      refine sm_T_b0 (a := 1) (z := 10) rfl (fun cx33_ => ?_) (fun cx33_ => ?_)
      · have cx33_ : vx32_ ≠ 0 := of_decide_eq_true cx33_
        have fr9_ : (sm_pI (sm_pI Sx10_ 13 0 2 0) 13 0 79 (Sx10_.1 13 0 10)).1 13 0 10 = 0 := by by_cases q9_ : (sm_pI (sm_pI Sx10_ 13 0 2 0) 13 0 79 (Sx10_.1 13 0 10)).1 13 0 10 = 0; exact q9_; (rw [if_neg q9_] at e62_; exfalso; omega)
        have KK_ : ((sm_pI (sm_pI Sx10_ 13 0 2 0) 13 0 79 (Sx10_.1 13 0 10)).1 13 0 12 = (d_tp r_ : Int) + 1 ∧ d_tp r_ ≤ 15) ∧ re1 b_ n_ T_ r_.1 (d_tp r_) (sm_pI (sm_pI Sx10_ 13 0 2 0) 13 0 79 (Sx10_.1 13 0 10)) ∧ a_ok b_ n_ r_.1 (d_tp r_) ∧ (1 ≤ su (t_in r_.1 1 (d_tp r_)) (r_.1.1 (d_tp r_)) ∧ su (t_in r_.1 1 (d_tp r_)) (r_.1.1 (d_tp r_)) ≤ 16) ∧ (∀ s9_, s9_ < 40 → rwv ((sm_pI (sm_pI Sx10_ 13 0 2 0) 13 0 79 (Sx10_.1 13 0 10)).2.2.1 144 0) (8 * s9_) (z_.2 s9_)) ∧ (∀ s9_, s9_ < r_.1.1 (d_tp r_) → r_.1.2.2.1 (40 * d_tp r_ + s9_) ≠ 5 → ((z_.2 s9_).length : Int) = r_.1.2.2.2.1 (40 * d_tp r_ + s9_)) ∧ (∀ s9_, lwl (1 + d_I r_ + d_R r_ + z_.1.1.length) (z_.2 s9_)) ∧ (sm_pI (sm_pI Sx10_ 13 0 2 0) 13 0 79 (Sx10_.1 13 0 10)).1 13 0 37 = ((1 + d_I r_ + d_R r_ + z_.1.1.length : Nat) : Int) ∧ rgr (1 + d_I r_ + d_R r_) (sm_pI (sm_pI Sx10_ 13 0 2 0) 13 0 79 (Sx10_.1 13 0 10)) ∧ rnS (sm_pI (sm_pI Sx10_ 13 0 2 0) 13 0 79 (Sx10_.1 13 0 10)) ∧ (sm_pI (sm_pI Sx10_ 13 0 2 0) 13 0 79 (Sx10_.1 13 0 10)).2.2.1 132 0 (d_tp r_) = (d_I r_ : Int) ∧ ((sm_pI (sm_pI Sx10_ 13 0 2 0) 13 0 79 (Sx10_.1 13 0 10)).1 13 0 53 = (d_R r_ : Int) ∧ d_R r_ ≤ 6) ∧ 1 + d_I r_ + d_R r_ ≤ 13 ∧ dok b_ n_ r_ z_ ∧ rxn (d_R r_) (dnx r_) (sm_pI (sm_pI Sx10_ 13 0 2 0) 13 0 79 (Sx10_.1 13 0 10)) ∧ ∀ (k_ : Nat) (x_ y_ : Int), z_.1.1[k_]? = some (x_, y_) → (sm_pI (sm_pI Sx10_ 13 0 2 0) 13 0 79 (Sx10_.1 13 0 10)).2.2.1 140 0 (1 + d_I r_ + d_R r_ + k_) = x_ ∧ (sm_pI (sm_pI Sx10_ 13 0 2 0) 13 0 79 (Sx10_.1 13 0 10)).2.2.1 141 0 (1 + d_I r_ + d_R r_ + k_) = y_ := by first | exact absurd fr9_ fz_ | (have zk_ : z_.1.1.length ≤ 1000 := (by rcases nf9_ with z9_ | z9_; exact z9_; (exfalso; have w9_ : (23 : Int) = 0 := z9_.symm.trans fr9_; exact absurd w9_ (by decide))); obtain ⟨a1_, a2_, a3_, a4_, ax_, a5_⟩ := e45_.1 zk_; have fx : ai_fr (sx_W ([(13, 2), (13, 79)], [], [])) _ ((sm_pI (sm_pI Sx10_ 13 0 2 0) 13 0 79 (Sx10_.1 13 0 10))) := ai_fr_tr (ai_fr_pI rfl) (ai_fr_pI rfl); have aB_ := y6_.2.2.1 (d_tp r_) i3_; have ww_ := (exm_w 16 _ _ _ _ y3_).2.2 (by show 1 + d_I r_ + d_R r_ + z_.1.1.length ≤ 1023; omega) (by rw [y4_]; omega) ⟨by omega, fun k9_ x9_ w9_ q9_ => by simp at q9_⟩ (fun a9_ => ein_w aB_ (by omega) (Nat.le_refl _) a9_); exact ⟨⟨(fx.1 13 0 12 rfl).trans (by rw [mo45_]; omega), i4_⟩, re1_fr re45_ fx rfl rfl rfl rfl rfl rfl, aB_, by omega, a5_, y5_, ww_.2, (fx.1 13 0 37 rfl).trans (rgl_n a2_ (by omega)), rgr_fr (rgl_rgr a2_ ww_.1 zk_) fx rfl rfl rfl rfl, rnS_fr a3_ fx rfl rfl rfl rfl, i45_, ⟨(fx.1 13 0 53 rfl).trans (a4_.trans (by rw [y4_])), by omega⟩, by omega, ⟨y1_, y2_, y3_, zk_⟩, rxn_fr (by rw [← y4_]; exact ax_) fx, rgl_pr a2_ zk_⟩)
        obtain ⟨k1_, k2_, k3_, k4_, k5_, k6_, k7_, k8_, k9_, ka_, kb_, kc_, kd_, ke_, kg_, kf_⟩ := KK_
        refine sm_T_go 2 (c1 := (77, [some (.inr (.inr (some (13, 0)))), some (.inl vx6_)], [.inl vx6_, .inr (.inr (some (13, 0)))], sm_pI (sm_pI Sx10_ 13 0 2 0) 13 0 79 (Sx10_.1 13 0 10))) rfl ?_
        refine sm_T_cal (d1 := 2) (Q1 := vq_360n vx6_ b_ n_ T_ (d_tp r_) r_.1 z_.2 (1 + d_I r_ + d_R r_ + z_.1.1.length) (1 + d_I r_ + d_R r_) (d_I r_) (d_R r_) sl_ (dnx r_) (sm_pI (sm_pI Sx10_ 13 0 2 0) 13 0 79 (Sx10_.1 13 0 10))) rfl rfl (by decide) (vc_360n vx6_ b_ n_ T_ (d_tp r_) r_.1 z_.2 (1 + d_I r_ + d_R r_ + z_.1.1.length) (1 + d_I r_ + d_R r_) (d_I r_) (d_R r_) sl_ (dnx r_) (sm_pI (sm_pI Sx10_ 13 0 2 0) 13 0 79 (Sx10_.1 13 0 10)) hIx25_ (by (rw [← hsv_]; exact ⟨hs1_, by omega⟩)) (by exact k1_) (by exact k2_) (by exact k3_) (by exact k4_) (by exact k5_) (by exact k6_) (by exact k7_) (by exact k8_) (by exact k9_) (by exact ka_) (by exact kb_) (by exact kc_) (by exact ⟨rfl, kd_⟩) (by exact kg_)) (fun u_ Sx34_ px37_ => ?_)
        obtain ⟨rfl, hIx35_, hFx36_, px37_⟩ := px37_
        have hFx38_ : ai_fr (sx_W vw_363n) S0_ Sx34_ := ai_fr_tr hFx26_ (fr_le hFx36_ rfl)
        obtain ⟨f1_, f2_, f3_, f4_, f5_, f6_, f7_⟩ := px37_
        have c77_ := hFx36_.1 13 0 0 rfl
        have s77_ := hFx36_.1 13 0 2 rfl
        have l77_ := hFx36_.1 13 0 79 rfl
        have r77_ : rdf sl_ S0_ Sx34_ := rdf_tr rdX_ f1_
        refine sm_T_go 1 (c1 := (81, [some (.inr (.inr (some (13, 0)))), some (.inl vx6_)], [.inl vx6_], Sx34_)) rfl ?_
        refine sm_T_ri rfl ⟨_, _, rfl, _, rfl, hIx35_, hFx38_, ?_⟩
        right
        refine ⟨?_, sl_, hs2_, hs3_, hs4_, ?_, r77_, Or.inl ⟨⟨r_, z_, ke_, dgR_of f4_ rfl kf_, f5_, f6_, f7_⟩, f2_, f3_, by omega, ?_⟩⟩
        · exact c77_.trans ((rf_nk (by decide)).trans ((rf_nk (by decide)).trans cdX_))
        · exact s77_.trans ((rf_nk (by decide)).trans rf_eq)
        · exact l77_.trans (rf_eq.trans fr9_)
      · have cx33_ : ¬ (vx32_ ≠ 0) := of_decide_eq_false cx33_
        have na9_ : ¬ dacc b_ n_ := by rcases nd9_ with z9_ | z9_; exact z9_; (exfalso; first | exact z9_ | (have q9_ : (sm_pI (sm_pI Sx10_ 13 0 2 0) 13 0 79 (Sx10_.1 13 0 10)).1 13 0 10 = 0 := z9_.1; rw [if_pos q9_] at e62_; omega))
        have bx39_ : 0 ≤ Sx10_.1 13 0 11 ∧ Sx10_.1 13 0 11 ≤ 4095 := hIx11_.1 13 0 11 rfl
        refine sm_T_go 3 (c1 := (73, [some (.inr (.inr (some (13, 0)))), some (.inl vx6_)], [.inl (Sx10_.1 13 0 11), .inl (-1)], sm_pI (sm_pI Sx10_ 13 0 2 0) 13 0 79 (Sx10_.1 13 0 10))) rfl ?_
        refine sm_T_bin (w := -(Sx10_.1 13 0 11) - 1) rfl (bi_sub (by omega) (by omega) (by omega)) ?_
        refine sm_T_ri rfl ⟨_, _, rfl, _, rfl, hIx25_, hFx26_, ?_⟩
        obtain ⟨e9_, w1_, w2_, w3_⟩ := ds9_.resolve_left (fun z9_ => by (have q9_ : (sm_pI (sm_pI Sx10_ 13 0 2 0) 13 0 79 (Sx10_.1 13 0 10)).1 13 0 10 = 0 := z9_; rw [if_pos q9_] at e62_; omega))
        right
        refine ⟨?_, sl_, hs2_, hs3_, hs4_, ?_, ?_, Or.inr ⟨na9_, ?_, e9_, w1_, ?_, ?_⟩⟩
        · exact (rf_nk (by decide)).trans ((rf_nk (by decide)).trans cdX_)
        · exact (rf_nk (by decide)).trans rf_eq
        · exact rdX_
        · exact thX_
        · clear nd9_ ds9_; omega
        · exact rf_eq.trans w2_
    · have cx21_ : ¬ (vx20_ = 0) := of_decide_eq_false cx21_
      have fz_ : Sx10_.1 13 0 10 = 0 := by by_cases q9_ : Sx10_.1 13 0 10 = 0; exact q9_; (rw [if_neg q9_] at e38_; exfalso; omega)
      obtain ⟨r_, z_, y1_, y2_, y3_, y4_, y5_, y6_⟩ : ∃ r_ z_, rdy b_ n_ T_ r_ z_ Sx10_ := by rcases hU_ with z9_ | z9_; (exfalso; exact z9_.2.1 fz_); exact z9_.2
      have pl9_ := (rtk_pl tt_ (y6_.2.2.2.2.2.1.2 (d_tp r_) (d_in hn1_ y1_).2.2.1)).2
      obtain ⟨i1_, i2_, i3_, i4_, i5_⟩ := d_in hn1_ y1_
      have lm_ := rT_lm hn1_ y1_ y6_
      have lm3_ := lm_.2.2 y2_
      have l9_ := lm_0 y2_
      have tp1_ : d_tp r_ + 1 = r_.2.2.1 := by unfold d_tp; omega
      have mo9_ := y6_.1
      clear hU_
      refine sm_T_go 1 (c1 := (45, [some (.inr (.inr (some (13, 0)))), some (.inl vx6_)], [.inr (.inr (some (13, 0)))], Sx10_)) rfl ?_
      refine sm_T_cal (d1 := 11) (Q1 := vq_349n b_ n_ T_ (1 + d_I r_ + d_R r_) (d_I r_) (d_R r_) (d_tp r_) r_.1 r_.2.1 (dC r_) z_ (dnx r_) Sx10_) rfl rfl (by decide) (vc_349n b_ n_ T_ (1 + d_I r_ + d_R r_) (d_I r_) (d_R r_) (d_tp r_) r_.1 r_.2.1 (dC r_) z_ (dnx r_) Sx10_ hIx11_ (by exact tt_) (by exact fz_) (by omega) (by exact fun m9_ h9_ => ⟨y6_.2.2.2.1 m9_ (by omega), y6_.2.2.1 m9_ (by omega)⟩) (by exact fun m9_ h9_ => gmd_of hn1_ y1_ y6_ (by omega)) (by exact lm_.2.1) (by exact lm3_) (by omega) (by exact i1_.symm) (by exact y3_) (by exact y4_) (by exact rfl)) (fun u_ Sx40_ px43_ => ?_)
      obtain ⟨rfl, hIx41_, hFx42_, px43_⟩ := px43_
      have hFx44_ : ai_fr (sx_W vw_363n) S0_ Sx40_ := ai_fr_tr hFx14_ (fr_le hFx42_ rfl)
      have e45_ := px43_
      have rdX_ : rdf sl_ S0_ Sx40_ := rdf_tr rd34_ (rdf_fr hFx42_ (by decide))
      have thX_ : Sx40_.2.2.1 153 0 sl_ = 0 := (congrFun (fr_arr (t := 153) (i := 0) hFx42_ rfl) sl_).trans th34_
      have cdX_ : Sx40_.1 13 0 0 = 0 := (hFx42_.1 13 0 0 rfl).trans cd34_
      have re45_ := re1_fr (y6_.2.2.2.1 (d_tp r_) i3_) hFx42_ rfl rfl rfl rfl rfl rfl
      have mo45_ := (hFx42_.1 13 0 12 rfl).trans mo9_
      have i45_ : Sx40_.2.2.1 132 0 (d_tp r_) = (d_I r_ : Int) := (congrFun (fr_arr (t := 132) (i := 0) hFx42_ rfl) _).trans lm_.2.1
      have nd9_ : ¬ dacc b_ n_ ∨ (Sx40_.1 13 0 10 = 0 ∧ z_.1.1.length ≤ 1000) := by by_cases q9_ : z_.1.1.length ≤ 1000; exact Or.inr ⟨(e45_.1 q9_).1, q9_⟩; exact Or.inl (dacc_r y1_ (Or.inr ⟨y2_, z_, y3_, by omega⟩))
      have nf9_ : z_.1.1.length ≤ 1000 ∨ Sx40_.1 13 0 10 = 23 := by by_cases q9_ : z_.1.1.length ≤ 1000; exact Or.inl q9_; exact Or.inr (e45_.2 (by omega)).1
      have ds9_ : Sx40_.1 13 0 10 = 0 ∨ dfs b_ n_ Sx40_ := by by_cases q9_ : z_.1.1.length ≤ 1000; exact Or.inl (e45_.1 q9_).1; exact Or.inr ⟨(23, r_.2.1 (d_tp r_)), Or.inr ⟨r_, y1_, rfl, Or.inr ⟨y2_, ⟨z_, y3_, by omega⟩, rfl⟩⟩, (e45_.2 (by omega)).1, (e45_.2 (by omega)).2.trans pl9_⟩
      have hIx45_ : gi (sm_pI Sx40_ 13 0 2 0) := gi_pI hIx41_ (show 0 ≤ 0 ∧ 0 ≤ 1280 from ⟨by omega, by omega⟩)
      have hFx46_ : ai_fr (sx_W vw_363n) S0_ (sm_pI Sx40_ 13 0 2 0) := ai_fr_tr hFx44_ (ai_fr_pI rfl)
      have bx47_ : 0 ≤ Sx40_.1 13 0 10 ∧ Sx40_.1 13 0 10 ≤ 23 := hIx41_.1 13 0 10 rfl
      have hIx48_ : gi (sm_pI (sm_pI Sx40_ 13 0 2 0) 13 0 79 (Sx40_.1 13 0 10)) := gi_pI hIx45_ (show 0 ≤ (Sx40_.1 13 0 10) ∧ (Sx40_.1 13 0 10) ≤ 23 from ⟨by omega, by omega⟩)
      have hFx49_ : ai_fr (sx_W vw_363n) S0_ (sm_pI (sm_pI Sx40_ 13 0 2 0) 13 0 79 (Sx40_.1 13 0 10)) := ai_fr_tr hFx46_ (ai_fr_pI rfl)
      refine sm_T_go 8 (c1 := (62, [some (.inr (.inr (some (13, 0)))), some (.inl vx6_)], [.inr (.inr (some (13, 0)))], sm_pI (sm_pI Sx40_ 13 0 2 0) 13 0 79 (Sx40_.1 13 0 10))) rfl ?_
      refine sm_T_cal (d1 := 0) (Q1 := vq_292  (sm_pI (sm_pI Sx40_ 13 0 2 0) 13 0 79 (Sx40_.1 13 0 10))) rfl rfl (by decide) (vc_292  (sm_pI (sm_pI Sx40_ 13 0 2 0) 13 0 79 (Sx40_.1 13 0 10)) hIx48_ ) (fun u_ Sx50_ px53_ => ?_)
      obtain ⟨rfl, vx55_, rfl, px53_⟩ := px53_
      have e62_ := px53_
      refine sm_T_b0 (a := 1) (z := 10) rfl (fun cx56_ => ?_) (fun cx56_ => ?_)
      · have cx56_ : vx55_ ≠ 0 := of_decide_eq_true cx56_
        have fr9_ : (sm_pI (sm_pI Sx40_ 13 0 2 0) 13 0 79 (Sx40_.1 13 0 10)).1 13 0 10 = 0 := by by_cases q9_ : (sm_pI (sm_pI Sx40_ 13 0 2 0) 13 0 79 (Sx40_.1 13 0 10)).1 13 0 10 = 0; exact q9_; (rw [if_neg q9_] at e62_; exfalso; omega)
        have KK_ : ((sm_pI (sm_pI Sx40_ 13 0 2 0) 13 0 79 (Sx40_.1 13 0 10)).1 13 0 12 = (d_tp r_ : Int) + 1 ∧ d_tp r_ ≤ 15) ∧ re1 b_ n_ T_ r_.1 (d_tp r_) (sm_pI (sm_pI Sx40_ 13 0 2 0) 13 0 79 (Sx40_.1 13 0 10)) ∧ a_ok b_ n_ r_.1 (d_tp r_) ∧ (1 ≤ su (t_in r_.1 1 (d_tp r_)) (r_.1.1 (d_tp r_)) ∧ su (t_in r_.1 1 (d_tp r_)) (r_.1.1 (d_tp r_)) ≤ 16) ∧ (∀ s9_, s9_ < 40 → rwv ((sm_pI (sm_pI Sx40_ 13 0 2 0) 13 0 79 (Sx40_.1 13 0 10)).2.2.1 144 0) (8 * s9_) (z_.2 s9_)) ∧ (∀ s9_, s9_ < r_.1.1 (d_tp r_) → r_.1.2.2.1 (40 * d_tp r_ + s9_) ≠ 5 → ((z_.2 s9_).length : Int) = r_.1.2.2.2.1 (40 * d_tp r_ + s9_)) ∧ (∀ s9_, lwl (1 + d_I r_ + d_R r_ + z_.1.1.length) (z_.2 s9_)) ∧ (sm_pI (sm_pI Sx40_ 13 0 2 0) 13 0 79 (Sx40_.1 13 0 10)).1 13 0 37 = ((1 + d_I r_ + d_R r_ + z_.1.1.length : Nat) : Int) ∧ rgr (1 + d_I r_ + d_R r_) (sm_pI (sm_pI Sx40_ 13 0 2 0) 13 0 79 (Sx40_.1 13 0 10)) ∧ rnS (sm_pI (sm_pI Sx40_ 13 0 2 0) 13 0 79 (Sx40_.1 13 0 10)) ∧ (sm_pI (sm_pI Sx40_ 13 0 2 0) 13 0 79 (Sx40_.1 13 0 10)).2.2.1 132 0 (d_tp r_) = (d_I r_ : Int) ∧ ((sm_pI (sm_pI Sx40_ 13 0 2 0) 13 0 79 (Sx40_.1 13 0 10)).1 13 0 53 = (d_R r_ : Int) ∧ d_R r_ ≤ 6) ∧ 1 + d_I r_ + d_R r_ ≤ 13 ∧ dok b_ n_ r_ z_ ∧ rxn (d_R r_) (dnx r_) (sm_pI (sm_pI Sx40_ 13 0 2 0) 13 0 79 (Sx40_.1 13 0 10)) ∧ ∀ (k_ : Nat) (x_ y_ : Int), z_.1.1[k_]? = some (x_, y_) → (sm_pI (sm_pI Sx40_ 13 0 2 0) 13 0 79 (Sx40_.1 13 0 10)).2.2.1 140 0 (1 + d_I r_ + d_R r_ + k_) = x_ ∧ (sm_pI (sm_pI Sx40_ 13 0 2 0) 13 0 79 (Sx40_.1 13 0 10)).2.2.1 141 0 (1 + d_I r_ + d_R r_ + k_) = y_ := by first | exact absurd fr9_ fz_ | (have zk_ : z_.1.1.length ≤ 1000 := (by rcases nf9_ with z9_ | z9_; exact z9_; (exfalso; have w9_ : (23 : Int) = 0 := z9_.symm.trans fr9_; exact absurd w9_ (by decide))); obtain ⟨a1_, a2_, a3_, a4_, ax_, a5_⟩ := e45_.1 zk_; have fx : ai_fr (sx_W ([(13, 2), (13, 79)], [], [])) _ ((sm_pI (sm_pI Sx40_ 13 0 2 0) 13 0 79 (Sx40_.1 13 0 10))) := ai_fr_tr (ai_fr_pI rfl) (ai_fr_pI rfl); have aB_ := y6_.2.2.1 (d_tp r_) i3_; have ww_ := (exm_w 16 _ _ _ _ y3_).2.2 (by show 1 + d_I r_ + d_R r_ + z_.1.1.length ≤ 1023; omega) (by rw [y4_]; omega) ⟨by omega, fun k9_ x9_ w9_ q9_ => by simp at q9_⟩ (fun a9_ => ein_w aB_ (by omega) (Nat.le_refl _) a9_); exact ⟨⟨(fx.1 13 0 12 rfl).trans (by rw [mo45_]; omega), i4_⟩, re1_fr re45_ fx rfl rfl rfl rfl rfl rfl, aB_, by omega, a5_, y5_, ww_.2, (fx.1 13 0 37 rfl).trans (rgl_n a2_ (by omega)), rgr_fr (rgl_rgr a2_ ww_.1 zk_) fx rfl rfl rfl rfl, rnS_fr a3_ fx rfl rfl rfl rfl, i45_, ⟨(fx.1 13 0 53 rfl).trans (a4_.trans (by rw [y4_])), by omega⟩, by omega, ⟨y1_, y2_, y3_, zk_⟩, rxn_fr (by rw [← y4_]; exact ax_) fx, rgl_pr a2_ zk_⟩)
        obtain ⟨k1_, k2_, k3_, k4_, k5_, k6_, k7_, k8_, k9_, ka_, kb_, kc_, kd_, ke_, kg_, kf_⟩ := KK_
        refine sm_T_go 2 (c1 := (77, [some (.inr (.inr (some (13, 0)))), some (.inl vx6_)], [.inl vx6_, .inr (.inr (some (13, 0)))], sm_pI (sm_pI Sx40_ 13 0 2 0) 13 0 79 (Sx40_.1 13 0 10))) rfl ?_
        refine sm_T_cal (d1 := 2) (Q1 := vq_360n vx6_ b_ n_ T_ (d_tp r_) r_.1 z_.2 (1 + d_I r_ + d_R r_ + z_.1.1.length) (1 + d_I r_ + d_R r_) (d_I r_) (d_R r_) sl_ (dnx r_) (sm_pI (sm_pI Sx40_ 13 0 2 0) 13 0 79 (Sx40_.1 13 0 10))) rfl rfl (by decide) (vc_360n vx6_ b_ n_ T_ (d_tp r_) r_.1 z_.2 (1 + d_I r_ + d_R r_ + z_.1.1.length) (1 + d_I r_ + d_R r_) (d_I r_) (d_R r_) sl_ (dnx r_) (sm_pI (sm_pI Sx40_ 13 0 2 0) 13 0 79 (Sx40_.1 13 0 10)) hIx48_ (by (rw [← hsv_]; exact ⟨hs1_, by omega⟩)) (by exact k1_) (by exact k2_) (by exact k3_) (by exact k4_) (by exact k5_) (by exact k6_) (by exact k7_) (by exact k8_) (by exact k9_) (by exact ka_) (by exact kb_) (by exact kc_) (by exact ⟨rfl, kd_⟩) (by exact kg_)) (fun u_ Sx57_ px60_ => ?_)
        obtain ⟨rfl, hIx58_, hFx59_, px60_⟩ := px60_
        have hFx61_ : ai_fr (sx_W vw_363n) S0_ Sx57_ := ai_fr_tr hFx49_ (fr_le hFx59_ rfl)
        obtain ⟨f1_, f2_, f3_, f4_, f5_, f6_, f7_⟩ := px60_
        have c77_ := hFx59_.1 13 0 0 rfl
        have s77_ := hFx59_.1 13 0 2 rfl
        have l77_ := hFx59_.1 13 0 79 rfl
        have r77_ : rdf sl_ S0_ Sx57_ := rdf_tr rdX_ f1_
        refine sm_T_go 1 (c1 := (81, [some (.inr (.inr (some (13, 0)))), some (.inl vx6_)], [.inl vx6_], Sx57_)) rfl ?_
        refine sm_T_ri rfl ⟨_, _, rfl, _, rfl, hIx58_, hFx61_, ?_⟩
        right
        refine ⟨?_, sl_, hs2_, hs3_, hs4_, ?_, r77_, Or.inl ⟨⟨r_, z_, ke_, dgR_of f4_ rfl kf_, f5_, f6_, f7_⟩, f2_, f3_, by omega, ?_⟩⟩
        · exact c77_.trans ((rf_nk (by decide)).trans ((rf_nk (by decide)).trans cdX_))
        · exact s77_.trans ((rf_nk (by decide)).trans rf_eq)
        · exact l77_.trans (rf_eq.trans fr9_)
      · have cx56_ : ¬ (vx55_ ≠ 0) := of_decide_eq_false cx56_
        have na9_ : ¬ dacc b_ n_ := by rcases nd9_ with z9_ | z9_; exact z9_; (exfalso; first | exact z9_ | (have q9_ : (sm_pI (sm_pI Sx40_ 13 0 2 0) 13 0 79 (Sx40_.1 13 0 10)).1 13 0 10 = 0 := z9_.1; rw [if_pos q9_] at e62_; omega))
        have bx62_ : 0 ≤ Sx40_.1 13 0 11 ∧ Sx40_.1 13 0 11 ≤ 4095 := hIx41_.1 13 0 11 rfl
        refine sm_T_go 3 (c1 := (73, [some (.inr (.inr (some (13, 0)))), some (.inl vx6_)], [.inl (Sx40_.1 13 0 11), .inl (-1)], sm_pI (sm_pI Sx40_ 13 0 2 0) 13 0 79 (Sx40_.1 13 0 10))) rfl ?_
        refine sm_T_bin (w := -(Sx40_.1 13 0 11) - 1) rfl (bi_sub (by omega) (by omega) (by omega)) ?_
        refine sm_T_ri rfl ⟨_, _, rfl, _, rfl, hIx48_, hFx49_, ?_⟩
        obtain ⟨e9_, w1_, w2_, w3_⟩ := ds9_.resolve_left (fun z9_ => by (have q9_ : (sm_pI (sm_pI Sx40_ 13 0 2 0) 13 0 79 (Sx40_.1 13 0 10)).1 13 0 10 = 0 := z9_; rw [if_pos q9_] at e62_; omega))
        right
        refine ⟨?_, sl_, hs2_, hs3_, hs4_, ?_, ?_, Or.inr ⟨na9_, ?_, e9_, w1_, ?_, ?_⟩⟩
        · exact (rf_nk (by decide)).trans ((rf_nk (by decide)).trans cdX_)
        · exact (rf_nk (by decide)).trans rf_eq
        · exact rdX_
        · exact thX_
        · clear nd9_ ds9_; omega
        · exact rf_eq.trans w2_
  · have cx7_ : ¬ (vx6_ ≠ (-1)) := of_decide_eq_false cx7_
    have ha0_ : ∀ j_ : Nat, j_ < 6 → S0_.2.2.1 153 0 j_ = 1 := by rcases hsl_ with z_ | z_; exact z_.2; (exfalso; have := z_.1; omega)
    have hIx63_ : gi (sm_pI S0_ 13 0 0 1) := gi_pI hI_ (show 0 ≤ 1 ∧ 1 ≤ 4 from ⟨by omega, by omega⟩)
    have hFx64_ : ai_fr (sx_W vw_363n) S0_ (sm_pI S0_ 13 0 0 1) := ai_fr_tr hF_ (ai_fr_pI rfl)
    refine sm_T_go 7 (c1 := (32, [some (.inr (.inr (some (13, 0)))), some (.inl vx6_)], [.inl 0], sm_pI S0_ 13 0 0 1)) rfl ?_
    refine sm_T_ri rfl ⟨_, _, rfl, _, rfl, hIx63_, hFx64_, ?_⟩
    left
    refine ⟨rf_eq, ha0_, ?_, ?_, rf_nk (by decide)⟩
    · exact rf_nk (by decide)
    · exact rdf_fr (w_ := ([(13, 0)], [], [])) (ai_fr_pI rfl) (by decide)
end
/-! 99.ztZ -/
section
/-! what design keeps: the class; written by wip/p55/gen/vg -/
/-! Builder.takeOutputs -/
def vw_45n : sx_Wl := ([], [45], [])
def vq_45n (m_ : Int) (tb_ : Nat → Int) (tn_ : Nat) (A_ : pA) (mm_ : Nat) (dd_ : Nat) (e_ : gE) (N_ : Nat) (S0_ : sm_S) (u_ : Option sm_V) (S1_ : sm_S) : Prop := u_ = none ∧ gi S1_ ∧ ai_fr (sx_W vw_45n) S0_ S1_ ∧ (idf dd_ S0_ S1_ ∧ ((∀ k9_ : Nat, (k9_ : Int) < su (t_in A_ 1 mm_) (A_.1 mm_) → 0 ≤ S1_.2.2.1 45 (0 + dd_) k9_ ∧ S1_.2.2.1 45 (0 + dd_) k9_ < 2 * (N_ : Int)) ∧ otr A_ mm_ (A_.1 mm_) e_ (S1_.2.2.1 45 (0 + dd_))))
set_option maxHeartbeats 1000000 in
theorem vl_45n {sc_ : Nat × (Nat → Int)} (m_ : Int) (tb_ : Nat → Int) (tn_ : Nat) (A_ : pA) (mm_ : Nat) (dd_ : Nat) (e_ : gE) (N_ : Nat) (S0_ : sm_S) (hd_ : S0_.2.1 1 0 1 = some dd_) (hm1_ : m_ = (mm_ : Int) ∧ mm_ ≤ 15) (her_ : er1 tb_ tn_ A_ mm_ S0_) (hA_ : a_ok tb_ tn_ A_ mm_) (hsu_ : su (t_in A_ 1 mm_) (A_.1 mm_) ≤ 16) (hE_ : ∀ s9_, s9_ < 40 → rwv (S0_.2.2.1 26 0) (8 * s9_) (e_ s9_)) (hln_ : ∀ s9_, s9_ < A_.1 mm_ → A_.2.2.1 (40 * mm_ + s9_) ≠ 5 → ((e_ s9_).length : Int) = A_.2.2.2.1 (40 * mm_ + s9_)) (hlw_ : ∀ s9_, lwl N_ (e_ s9_)) : ∀ nn_ : Nat, (∀ (md_ : Int) (s_ : Int) (S_ : sm_S), gi S_ → ai_fr (sx_W vw_45n) S0_ S_ → ((0 ≤ s_ ∧ s_ ≤ (A_.1 mm_ : Int) ∧ md_ = su (t_in A_ 1 mm_) s_.toNat) ∧ (∀ k9_ : Nat, (k9_ : Int) < md_ → 0 ≤ S_.2.2.1 45 (0 + dd_) k9_ ∧ S_.2.2.1 45 (0 + dd_) k9_ < 2 * (N_ : Int)) ∧ (otr A_ mm_ s_.toNat e_ (S_.2.2.1 45 (0 + dd_))) ∧ (idf dd_ S0_ S_) ∧ True) → (((A_.1 mm_ : Int) - s_).toNat) < nn_ → sm_T (mt_P sc_) 1 45 (4, [some (.inr (.inr (some (1, 0)))), some (.inl m_), some (.inl md_), some (.inl s_), none], [], S_) (fun ro9_ => ∃ u_ S1_, ro9_ = (.inl u_, S1_, 0) ∧ vq_45n m_ tb_ tn_ A_ mm_ dd_ e_ N_ S0_ u_ S1_)) := by
  intro nn_
  induction nn_ with
  | zero => exact fun _ _ _ _ _ _ h_ => absurd h_ (Nat.not_lt_zero _)
  | succ nn_ ih_ =>
    rintro md_ s_ S_ hI_ hF_ ⟨h0_, h1_, h2_, hD_, -⟩ hm_
    have A40_ := (hA_.2 mm_ (Nat.le_refl _)).1
    have cn_ : S_.2.2.1 77 0 m_.toNat = (A_.1 mm_ : Int) := by rw [fr_arr (t := 77) (i := 0) hF_ rfl, show m_.toNat = mm_ by omega]; exact her_.1
    have cb_ := su_el (f_ := t_in A_ 1 mm_) (k_ := A_.1 mm_) (fun j_ hj_ => by have z_ := ((hA_.2 mm_ (Nat.le_refl _)).2 j_ hj_).2.2.1; unfold t_in; split <;> omega)
    have sv_ : s_ < (A_.1 mm_ : Int) → S_.2.2.1 79 0 (40 * m_ + s_).toNat = A_.2.2.1 (40 * mm_ + s_.toNat) ∧ S_.2.2.1 80 0 (40 * m_ + s_).toNat = A_.2.2.2.1 (40 * mm_ + s_.toNat) := by intro z_; rw [fr_arr (t := 79) (i := 0) hF_ rfl, fr_arr (t := 80) (i := 0) hF_ rfl, show (40 * m_ + s_).toNat = 40 * mm_ + s_.toNat by omega]; exact ⟨(her_.2 s_.toNat (by omega)).2.1, (her_.2 s_.toNat (by omega)).2.2.1⟩
    have s1_ : s_ < (A_.1 mm_ : Int) → su (t_in A_ 1 mm_) (s_.toNat + 1) = su (t_in A_ 1 mm_) s_.toNat + t_in A_ 1 mm_ s_.toNat ∧ su (t_in A_ 1 mm_) (s_.toNat + 1) ≤ su (t_in A_ 1 mm_) (A_.1 mm_) ∧ 0 ≤ su (t_in A_ 1 mm_) s_.toNat := fun z_ => ⟨rfl, (cb_.2.2 (s_.toNat + 1) (by omega)).2, (cb_.2.2 s_.toNat (by omega)).1⟩
    refine sm_T_go 5 (c1 := (13, [some (.inr (.inr (some (1, 0)))), some (.inl m_), some (.inl md_), some (.inl s_), none], [.inl m_, .inr (.inr (some (77, 0))), .inl s_], S_)) rfl ?_
    refine sm_T_iald (n := 17) rfl rfl (by omega) (by omega) ?_
    have bx1_ : 0 ≤ S_.2.2.1 77 0 m_.toNat ∧ S_.2.2.1 77 0 m_.toNat ≤ 40 := hI_.2 77 0 _
    refine sm_T_br (a := 3) (z := 70) rfl (fun cx2_ => ?_) (fun cx2_ => ?_)
    · have cx2_ : (S_.2.2.1 77 0 m_.toNat) ≤ s_ := of_decide_eq_true cx2_
      refine sm_T_rv rfl ⟨_, _, rfl, rfl, hI_, hF_, ?_⟩
      refine ⟨hD_, ?_⟩
      refine ⟨fun k9_ hk9_ => h1_ k9_ (by rw [show (A_.1 mm_) = s_.toNat by omega] at hk9_; omega), ?_⟩
      rw [show (A_.1 mm_) = s_.toNat by omega]
      exact h2_
    · have cx2_ : ¬ ((S_.2.2.1 77 0 m_.toNat) ≤ s_) := of_decide_eq_false cx2_
      obtain ⟨sv1_, sv2_⟩ := sv_ (by omega)
      have s2_ := s1_ (by omega)
      have wb := ((hA_.2 mm_ (Nat.le_refl _)).2 s_.toNat (by omega)).2.2.1
      refine sm_T_go 5 (c1 := (27, [some (.inr (.inr (some (1, 0)))), some (.inl m_), some (.inl md_), some (.inl s_), none], [.inl 40, .inl m_, .inr (.inr (some (79, 0)))], S_)) rfl ?_
      refine sm_T_bin (w := 40 * m_) rfl (bi_mul (by omega) (by omega) (by omega)) ?_
      refine sm_T_go 1 (c1 := (29, [some (.inr (.inr (some (1, 0)))), some (.inl m_), some (.inl md_), some (.inl s_), none], [.inl s_, .inl (40 * m_), .inr (.inr (some (79, 0)))], S_)) rfl ?_
      refine sm_T_bin (w := 40 * m_ + s_) rfl (bi_add (by omega) (by omega) (by omega)) ?_
      refine sm_T_iald (n := 640) rfl rfl (by omega) (by omega) ?_
      have bx3_ : 0 ≤ S_.2.2.1 79 0 (40 * m_ + s_).toNat ∧ S_.2.2.1 79 0 (40 * m_ + s_).toNat ≤ 5 := hI_.2 79 0 _
      refine sm_T_go 1 (c1 := (32, [some (.inr (.inr (some (1, 0)))), some (.inl m_), some (.inl md_), some (.inl s_), none], [.inl 1, .inl (S_.2.2.1 79 0 (40 * m_ + s_).toNat)], S_)) rfl ?_
      refine sm_T_br (a := 1) (z := 46) rfl (fun cx4_ => ?_) (fun cx4_ => ?_)
      · have cx4_ : (S_.2.2.1 79 0 (40 * m_ + s_).toNat) ≠ 1 := of_decide_eq_true cx4_
        have t9_ : t_in A_ 1 mm_ s_.toNat = 0 := by unfold t_in; rw [if_neg (by omega)]
        refine sm_T_inc (a := 3) (z := 1) (v := s_) (w := s_ + 1) rfl rfl (by omega) (by omega) (by omega) ?_
        refine sm_T_go 1 (c1 := (4, [some (.inr (.inr (some (1, 0)))), some (.inl m_), some (.inl md_), some (.inl (s_ + 1)), none], [], S_)) rfl ?_
        refine ih_ md_ (s_ + 1) S_ hI_ hF_ ⟨?_, ?_, ?_, ?_, trivial⟩ ?_
        · (rw [show (s_ + 1).toNat = s_.toNat + 1 by omega]; omega)
        · exact fun k9_ hk9_ => h1_ k9_ (by omega)
        · rw [show (s_ + 1).toNat = s_.toNat + 1 by omega]
          exact otr_s (k_ := 0) h2_ (fun q9_ => by omega)
        · exact hD_
        · omega
      · have cx4_ : ¬ ((S_.2.2.1 79 0 (40 * m_ + s_).toNat) ≠ 1) := of_decide_eq_false cx4_
        have t9_ : t_in A_ 1 mm_ s_.toNat = A_.2.2.2.1 (40 * mm_ + s_.toNat) := by unfold t_in; rw [if_pos (by omega)]
        refine sm_T_go 5 (c1 := (45, [some (.inr (.inr (some (1, 0)))), some (.inl m_), some (.inl md_), some (.inl s_), none], [.inl 40, .inl m_, .inr (.inr (some (80, 0)))], S_)) rfl ?_
        refine sm_T_bin (w := 40 * m_) rfl (bi_mul (by omega) (by omega) (by omega)) ?_
        refine sm_T_go 1 (c1 := (47, [some (.inr (.inr (some (1, 0)))), some (.inl m_), some (.inl md_), some (.inl s_), none], [.inl s_, .inl (40 * m_), .inr (.inr (some (80, 0)))], S_)) rfl ?_
        refine sm_T_bin (w := 40 * m_ + s_) rfl (bi_add (by omega) (by omega) (by omega)) ?_
        refine sm_T_iald (n := 640) rfl rfl (by omega) (by omega) ?_
        have bx5_ : 0 ≤ S_.2.2.1 80 0 (40 * m_ + s_).toNat ∧ S_.2.2.1 80 0 (40 * m_ + s_).toNat ≤ 8 := hI_.2 80 0 _
        refine sm_T_go 5 (c1 := (57, [some (.inr (.inr (some (1, 0)))), some (.inl m_), some (.inl md_), some (.inl s_), some (.inl (S_.2.2.1 80 0 (40 * m_ + s_).toNat))], [.inl s_, .inl 0, .inr (.inr (some (26, 0)))], S_)) rfl ?_
        refine sm_T_cal (d1 := 0) (Q1 := vq_35 0 s_ S_) rfl rfl (by decide) (vc_35 0 s_ S_ hI_ (by decide) (by omega)) (fun u_ Sx6_ px9_ => ?_)
        obtain ⟨rfl, vx11_, rfl, px9_⟩ := px9_
        have e57_ := px9_
        refine sm_T_go 1 (c1 := (61, [some (.inr (.inr (some (1, 0)))), some (.inl m_), some (.inl md_), some (.inl s_), some (.inl (S_.2.2.1 80 0 (40 * m_ + s_).toNat))], [.inr (.inr (some (1, 0))), .inl vx11_, .inr (.inr (some (26, 0)))], S_)) rfl ?_
        refine sm_T_gr rfl rfl ((hF_.2.1 1 0 1 rfl).trans hd_) ?_
        refine sm_T_go 3 (c1 := (70, [some (.inr (.inr (some (1, 0)))), some (.inl m_), some (.inl md_), some (.inl s_), some (.inl (S_.2.2.1 80 0 (40 * m_ + s_).toNat))], [.inl (S_.2.2.1 80 0 (40 * m_ + s_).toNat), .inl md_, .inr (.inr (some (45, (0 + dd_)))), .inl vx11_, .inr (.inr (some (26, 0)))], S_)) rfl ?_
        refine sm_T_nt (u := none) (S1 := sm_acI S_ 26 0 45 (0 + dd_) vx11_.toNat md_.toNat (S_.2.2.1 80 0 (40 * m_ + s_).toNat).toNat) rfl rfl (nt_acI (sc := sc_) (t := 26) (i := 0) (t' := 45) (i' := (0 + dd_)) (x := vx11_) (y := md_) (m := (S_.2.2.1 80 0 (40 * m_ + s_).toNat)) (n := 64320) (n1 := 16) rfl rfl (by omega) (by omega) (by omega) (by omega) (by omega)) ?_
        have hIx12_ : gi (sm_acI S_ 26 0 45 (0 + dd_) vx11_.toNat md_.toNat (S_.2.2.1 80 0 (40 * m_ + s_).toNat).toNat) := gi_ac hI_ (by decide) (by decide)
        have hFx13_ : ai_fr (sx_W vw_45n) S0_ (sm_acI S_ 26 0 45 (0 + dd_) vx11_.toNat md_.toNat (S_.2.2.1 80 0 (40 * m_ + s_).toNat).toNat) := ai_fr_tr hF_ (fr_ac rfl)
        have hDx14_ : idf dd_ S0_ (sm_acI S_ 26 0 45 (0 + dd_) vx11_.toNat md_.toNat (S_.2.2.1 80 0 (40 * m_ + s_).toNat).toNat) := idf_ac hD_ (Or.inr rfl)
        refine sm_T_go 2 (c1 := (76, [some (.inr (.inr (some (1, 0)))), some (.inl m_), some (.inl md_), some (.inl s_), some (.inl (S_.2.2.1 80 0 (40 * m_ + s_).toNat))], [.inl (S_.2.2.1 80 0 (40 * m_ + s_).toNat), .inl md_], sm_acI S_ 26 0 45 (0 + dd_) vx11_.toNat md_.toNat (S_.2.2.1 80 0 (40 * m_ + s_).toNat).toNat)) rfl ?_
        refine sm_T_bin (w := md_ + (S_.2.2.1 80 0 (40 * m_ + s_).toNat)) rfl (bi_add (by omega) (by omega) (by omega)) ?_
        refine sm_T_go 1 (c1 := (78, [some (.inr (.inr (some (1, 0)))), some (.inl m_), some (.inl (md_ + (S_.2.2.1 80 0 (40 * m_ + s_).toNat))), some (.inl s_), some (.inl (S_.2.2.1 80 0 (40 * m_ + s_).toNat))], [], sm_acI S_ 26 0 45 (0 + dd_) vx11_.toNat md_.toNat (S_.2.2.1 80 0 (40 * m_ + s_).toNat).toNat)) rfl ?_
        refine sm_T_inc (a := 3) (z := 1) (v := s_) (w := s_ + 1) rfl rfl (by omega) (by omega) (by omega) ?_
        refine sm_T_go 1 (c1 := (4, [some (.inr (.inr (some (1, 0)))), some (.inl m_), some (.inl (md_ + (S_.2.2.1 80 0 (40 * m_ + s_).toNat))), some (.inl (s_ + 1)), some (.inl (S_.2.2.1 80 0 (40 * m_ + s_).toNat))], [], sm_acI S_ 26 0 45 (0 + dd_) vx11_.toNat md_.toNat (S_.2.2.1 80 0 (40 * m_ + s_).toNat).toNat)) rfl ?_
        refine sm_T_wk [some (.inr (.inr (some (1, 0)))), some (.inl m_), some (.inl (md_ + (S_.2.2.1 80 0 (40 * m_ + s_).toNat))), some (.inl (s_ + 1)), none] (by exact ⟨rfl, rfl, rfl, rfl, trivial⟩) ?_
        refine ih_ (md_ + (S_.2.2.1 80 0 (40 * m_ + s_).toNat)) (s_ + 1) (sm_acI S_ 26 0 45 (0 + dd_) vx11_.toNat md_.toNat (S_.2.2.1 80 0 (40 * m_ + s_).toNat).toNat) hIx12_ hFx13_ ⟨?_, ?_, ?_, ?_, trivial⟩ ?_
        · (rw [show (s_ + 1).toNat = s_.toNat + 1 by omega]; omega)
        · intro k9_ hk9_
          rw [sm_acI_at]
          unfold sm_cp
          have hl9_ := hln_ s_.toNat (by omega) (by omega)
          split
          · rename_i w9_
            have e9_ := rwv_lz (hE_ s_.toNat (by omega)) (hlw_ s_.toNat) (k_ := k9_ - md_.toNat) (by omega)
            rw [fr_arr (t := 26) (i := 0) hF_ rfl, show (_ : Int).toNat + (k9_ - md_.toNat) = 8 * s_.toNat + (k9_ - md_.toNat) from by omega]
            exact e9_
          · exact h1_ k9_ (by omega)
        · rw [show (s_ + 1).toNat = s_.toNat + 1 by omega, sm_acI_at]
          have hl9_ := hln_ s_.toNat (by omega) (by omega)
          refine otr_s (k_ := (A_.2.2.2.1 (40 * mm_ + s_.toNat)).toNat) (otr_cg hA_ (by omega) hln_ h2_ (fun j9_ hj9_ => sm_cp_o (by omega))) (fun q9_ => ⟨by omega, fun j9_ z9_ h9_ e9_ => ?_⟩)
          unfold sm_cp
          have v9_ := hE_ s_.toNat (by omega) j9_ z9_ e9_
          rw [if_pos (by omega), fr_arr (t := 26) (i := 0) hF_ rfl, show (_ : Int).toNat + ((su (t_in A_ 1 mm_) s_.toNat).toNat + j9_ - md_.toNat) = 8 * s_.toNat + j9_ from by omega]
          exact v9_
        · exact hDx14_
        · omega
set_option maxHeartbeats 1000000 in
theorem vc_45n {sc_ : Nat × (Nat → Int)} (m_ : Int) (tb_ : Nat → Int) (tn_ : Nat) (A_ : pA) (mm_ : Nat) (dd_ : Nat) (e_ : gE) (N_ : Nat) (S0_ : sm_S) (hI_ : gi S0_) (hd_ : S0_.2.1 1 0 1 = some dd_) (hm1_ : m_ = (mm_ : Int) ∧ mm_ ≤ 15) (her_ : er1 tb_ tn_ A_ mm_ S0_) (hA_ : a_ok tb_ tn_ A_ mm_) (hsu_ : su (t_in A_ 1 mm_) (A_.1 mm_) ≤ 16) (hE_ : ∀ s9_, s9_ < 40 → rwv (S0_.2.2.1 26 0) (8 * s9_) (e_ s9_)) (hln_ : ∀ s9_, s9_ < A_.1 mm_ → A_.2.2.1 (40 * mm_ + s9_) ≠ 5 → ((e_ s9_).length : Int) = A_.2.2.2.1 (40 * mm_ + s9_)) (hlw_ : ∀ s9_, lwl N_ (e_ s9_)) : sm_T (mt_P sc_) 1 45 (0, [some (.inr (.inr (some (1, 0)))), some (.inl m_), none, none, none], [], S0_) (fun ro9_ => ∃ u_ S1_, ro9_ = (.inl u_, S1_, 0) ∧ vq_45n m_ tb_ tn_ A_ mm_ dd_ e_ N_ S0_ u_ S1_) := by
  have hF_ : ai_fr (sx_W vw_45n) S0_ S0_ := ai_fr_rf
  have hD_ : idf dd_ S0_ S0_ := idf_rf
  refine sm_T_go 4 (c1 := (4, [some (.inr (.inr (some (1, 0)))), some (.inl m_), some (.inl 0), some (.inl 0), none], [], S0_)) rfl ?_
  refine (vl_45n m_ tb_ tn_ A_ mm_ dd_ e_ N_ S0_ hd_ hm1_ her_ hA_ hsu_ hE_ hln_ hlw_ _) 0 0 S0_ hI_ hF_ ⟨?_, ?_, ?_, ?_, trivial⟩ (Nat.lt_succ_self _)
  · exact ⟨by decide, by omega, rfl⟩
  · (intro k9_ hk9_; omega)
  · (intro s9_ hs9_; exact absurd hs9_ (Nat.not_lt_zero _))
  · exact hD_

/-- the_ class keeps outputs, next values and beginning of_ a_ text -/
def dcn (dd_ : Nat) (r_ : pD) (z_ : gQ × gE) (S_ : sm_S) : Prop := S_.1 3 dd_ 5 = (dnx r_).2 ∧ (∀ i_, i_ < d_R r_ → S_.2.2.1 46 (0 + dd_) i_ = (dnx r_).1 i_) ∧ otr r_.1 (d_tp r_) (r_.1.1 (d_tp r_)) z_.2 (S_.2.2.1 45 (0 + dd_))
theorem dcn_fr {w_ : sx_Wl} {dd_ : Nat} {r_ : pD} {z_ : gQ × gE} {S_ S'_ : sm_S} (h_ : dcn dd_ r_ z_ S_) (g_ : ai_fr (sx_W w_) S_ S'_) (h1_ : (sx_W w_).1 3 5 = false := by rfl) (h2_ : (sx_W w_).2.1 46 = false := by rfl) (h3_ : (sx_W w_).2.1 45 = false := by rfl) : dcn dd_ r_ z_ S'_ := by
  unfold dcn
  rw [g_.1 3 dd_ 5 h1_, fr_arr (t := 46) g_ h2_, fr_arr (t := 45) g_ h3_]
  exact h_
/-- whom the_ nodes of_ the_ class's design stand for_ -/
def dcs (dd_ F_ : Nat) (S_ : sm_S) : Prop := glo F_ (S_.1 3 dd_ 4).toNat (S_.2.2.1 42 (0 + dd_)) (S_.2.2.1 43 (0 + dd_)) ∧ swd F_ (S_.1 3 dd_ 4).toNat (S_.2.2.1 42 (0 + dd_)) (S_.2.2.1 43 (0 + dd_)) (S_.2.2.1 44 (0 + dd_)) ∧ drt dd_ S_
theorem dcs_fr {w_ : sx_Wl} {dd_ F_ : Nat} {S_ S'_ : sm_S} (h_ : dcs dd_ F_ S_) (g_ : ai_fr (sx_W w_) S_ S'_) (h1_ : (sx_W w_).1 3 4 = false := by rfl) (h2_ : (sx_W w_).2.1 42 = false := by rfl) (h3_ : (sx_W w_).2.1 43 = false := by rfl) (h4_ : (sx_W w_).2.1 44 = false := by rfl) (h5_ : (sx_W w_).1 3 3 = false := by rfl) (h6_ : (sx_W w_).1 3 2 = false := by rfl) (h7_ : (sx_W w_).2.1 45 = false := by rfl) (h8_ : (sx_W w_).2.1 46 = false := by rfl) : dcs dd_ F_ S'_ := by
  obtain ⟨a1_, a2_, a3_⟩ := h_
  refine ⟨?_, ?_, drt_fr a3_ g_ h5_ h6_ h1_ h7_ h8_⟩
  · rw [g_.1 3 dd_ 4 h1_, fr_arr (t := 42) g_ h2_, fr_arr (t := 43) g_ h3_]; exact a1_
  · rw [g_.1 3 dd_ 4 h1_, fr_arr (t := 42) g_ h2_, fr_arr (t := 43) g_ h3_, fr_arr (t := 44) g_ h4_]; exact a2_
theorem cxn_0 {dd_ F_ I_ f_ fc_ : Nat} {G_ : pGr} {k_ : Nat} {E_ : gE} {O_ : gO} {V_ : gV} {S_ : sm_S} (h_ : cxs dd_ F_ I_ f_ fc_ ((G_, 0, k_), E_, O_, V_) S_) : cxn dd_ 0 nx0 S_ := by
  have q_ := h_.2.2.2.2.2.2.2.2.2.1
  have q1_ : S_.1 3 dd_ 5 < 2 ^ 0 := q_.2
  have q2_ : (2 : Int) ^ 0 = 1 := rfl
  refine ⟨?_, fun i_ hi_ => absurd hi_ (Nat.not_lt_zero _)⟩
  show S_.1 3 dd_ 5 = 0
  omega

/-! Builder.build -/
def vw_31n : sx_Wl := ([(1, 3), (1, 6), (1, 8), (1, 9), (1, 13), (3, 0), (3, 1), (3, 2), (3, 3), (3, 4), (3, 5), (3, 6), (3, 7), (3, 8), (3, 9), (10, 6), (10, 7)], [26, 27, 28, 29, 30, 31, 32, 33, 42, 43, 44, 45, 46, 47], [(1, 1)])
def vq_31n (b_ : Nat → Int) (n_ : Nat) (r_ : pD) (dd_ : Nat) (S0_ : sm_S) (u_ : Option sm_V) (S1_ : sm_S) : Prop := u_ = none ∧ gi S1_ ∧ ai_fr (sx_W vw_31n) S0_ S1_ ∧ (idf dd_ S0_ S1_ ∧ (d_lm r_ = 0 ∧ (∃ z_, d_gr r_ z_ ∧ z_.1.1.length ≤ 1000 ∧ dgx dd_ r_ z_ S1_ ∧ dcn dd_ r_ z_ S1_ ∧ S1_.1 3 dd_ 6 = (dnx r_).2 ∧ dcs dd_ (1 + d_I r_ + d_R r_) S1_ ∧ dct dd_ (1 + d_I r_ + d_R r_) S1_) ∧ S1_.1 3 dd_ 0 = 1 ∧ dOk dd_ S1_))
def vx_31n (b_ : Nat → Int) (n_ : Nat) (r_ : pD) (dd_ : Nat) (S0_ : sm_S) (S1_ : sm_S) : Prop := gi S1_ ∧ ai_fr (sx_W vw_31n) S0_ S1_ ∧ (idf dd_ S0_ S1_ ∧ (∃ e_, dfl r_ e_ ∧ ter S1_ e_) ∧ S1_.1 3 dd_ 0 = S0_.1 3 dd_ 0)
set_option maxHeartbeats 4000000 in
theorem vc_31n {sc_ : Nat × (Nat → Int)} (b_ : Nat → Int) (n_ : Nat) (r_ : pD) (dd_ : Nat) (S0_ : sm_S) (hI_ : gi S0_) (hr_ : p_de b_ n_ = .inr r_) (hb_ : br b_ n_ r_.1 r_.2.1 r_.2.2.1 r_.2.2.2.2 S0_) (hmc_ : ∀ k_ : Nat, k_ ≤ r_.2.2.1 → S0_.2.2.1 76 0 k_ = (r_.2.2.2.1 k_ : Int)) (h1_ : 1 ≤ r_.2.2.1) (hn_ : n_ ≤ 1280) : sm_T (mt_P sc_) 27 31 (0, [some (.inr (.inr (some (1, 0)))), some (.inr (.inr (some (3, dd_)))), none, none, none], [], S0_) (fun ro9_ => (∃ u_ S1_, ro9_ = (.inl u_, S1_, 0) ∧ vq_31n b_ n_ r_ dd_ S0_ u_ S1_) ∨ ∃ S1_, ro9_ = (.inr 2, S1_, 1) ∧ vx_31n b_ n_ r_ dd_ S0_ S1_) := by
  have hF_ : ai_fr (sx_W vw_31n) S0_ S0_ := ai_fr_rf
  have hD_ : idf dd_ S0_ S0_ := idf_rf
  obtain ⟨b1_, b2_, ba_, b4_, b5_⟩ := hb_
  have tp9_ : d_tp r_ + 1 = r_.2.2.1 := by unfold d_tp; omega
  have tn9_ : (d_tp r_ : Int) = S0_.1 7 0 3 - 1 := by omega
  have nm9_ := b4_.2 (d_tp r_) (by omega)
  have nm8_ : S0_.2.2.1 75 0 (S0_.1 7 0 3 - 1).toNat = ((16 * r_.2.1 (d_tp r_) + lx_sz b_ n_ (r_.2.1 (d_tp r_)) : Nat) : Int) := by rw [show (S0_.1 7 0 3 - 1).toNat = d_tp r_ by omega]; exact nm9_.1
  have nm7_ := nm9_.2.1
  have nm6_ := nmp_sz nm9_.2
  have cc0_ := ccd_of hn_ hr_ b5_ hI_ hmc_
  clear nm9_
  have hIx1_ : gi (sm_pR S0_ 1 0 1 (some dd_)) := gi_pR hI_
  have hFx2_ : ai_fr (sx_W vw_31n) S0_ (sm_pR S0_ 1 0 1 (some dd_)) := ai_fr_tr hF_ (ai_fr_pR rfl)
  have tx3_ : (sm_pR S0_ 1 0 1 (some dd_)).2.1 1 0 1 = some dd_ := (sm_up_self (f := S0_.2.1) (t := 1) (i := 0) (k := 1) (v := some dd_))
  have hDx4_ : idf dd_ S0_ (sm_pR S0_ 1 0 1 (some dd_)) := idf_pR hD_
  have bx5_ : 0 ≤ S0_.1 7 0 3 ∧ S0_.1 7 0 3 ≤ 16 := hI_.1 7 0 3 rfl
  refine sm_T_go 7 (c1 := (13, [some (.inr (.inr (some (1, 0)))), some (.inr (.inr (some (3, dd_)))), none, none, none], [.inl 1, .inl (S0_.1 7 0 3)], sm_pR S0_ 1 0 1 (some dd_))) rfl ?_
  refine sm_T_bin (w := (S0_.1 7 0 3) - 1) rfl (bi_sub (by omega) (by omega) (by omega)) ?_
  refine sm_T_go 2 (c1 := (16, [some (.inr (.inr (some (1, 0)))), some (.inr (.inr (some (3, dd_)))), some (.inl ((S0_.1 7 0 3) - 1)), none, none], [.inl ((S0_.1 7 0 3) - 1)], sm_pR S0_ 1 0 1 (some dd_))) rfl ?_
  refine sm_T_b0 (a := 3) (z := 4) rfl (fun cx6_ => ?_) (fun cx6_ => ?_)
  · have cx6_ : 0 ≤ (S0_.1 7 0 3) - 1 := of_decide_eq_true cx6_
    refine sm_T_go 4 (c1 := (28, [some (.inr (.inr (some (1, 0)))), some (.inr (.inr (some (3, dd_)))), some (.inl ((S0_.1 7 0 3) - 1)), none, none], [.inl ((S0_.1 7 0 3) - 1), .inr (.inr (some (75, 0)))], sm_pR S0_ 1 0 1 (some dd_))) rfl ?_
    refine sm_T_iald (n := 16) rfl rfl (by omega) (by omega) ?_
    have bx7_ : 0 ≤ S0_.2.2.1 75 0 ((S0_.1 7 0 3) - 1).toNat ∧ S0_.2.2.1 75 0 ((S0_.1 7 0 3) - 1).toNat ≤ 65535 := hI_.2 75 0 _
    refine sm_T_go 1 (c1 := (30, [some (.inr (.inr (some (1, 0)))), some (.inr (.inr (some (3, dd_)))), some (.inl ((S0_.1 7 0 3) - 1)), none, none], [.inl 4, .inl (S0_.2.2.1 75 0 ((S0_.1 7 0 3) - 1).toNat)], sm_pR S0_ 1 0 1 (some dd_))) rfl ?_
    refine sm_T_bin (w := ((S0_.2.2.1 75 0 ((S0_.1 7 0 3) - 1).toNat) / 16)) rfl (bi_shr (k := 4) (by decide) (by omega) (by omega)) ?_
    refine sm_T_go 3 (c1 := (34, [some (.inr (.inr (some (1, 0)))), some (.inr (.inr (some (3, dd_)))), some (.inl ((S0_.1 7 0 3) - 1)), some (.inl ((S0_.2.2.1 75 0 ((S0_.1 7 0 3) - 1).toNat) / 16)), none], [.inl ((S0_.1 7 0 3) - 1), .inr (.inr (some (1, 0)))], sm_pR S0_ 1 0 1 (some dd_))) rfl ?_
    refine sm_T_cal (d1 := 1) (Q1 := vq_32d ((S0_.1 7 0 3) - 1) b_ n_ r_.1 (d_tp r_) dd_ (sm_pR S0_ 1 0 1 (some dd_))) rfl rfl (by decide) (vc_32d ((S0_.1 7 0 3) - 1) b_ n_ r_.1 (d_tp r_) dd_ (sm_pR S0_ 1 0 1 (some dd_)) hIx1_ (by omega) (by (intro k9_ h9_; exact er1_fr (ba_ k9_ (by omega)).2 (ai_fr_pR (W_ := sx_W ([], [], [(1, 1)])) rfl) rfl rfl rfl rfl rfl)) (by exact (ba_ _ (by omega)).1) (by exact tx3_)) (fun u_ Sx8_ px11_ => ?_)
    obtain ⟨vx13_, rfl, hIx9_, hFx10_, px11_⟩ := px11_
    have hFx12_ : ai_fr (sx_W vw_31n) S0_ Sx8_ := ai_fr_tr hFx2_ (fr_le hFx10_ rfl)
    obtain ⟨dx15_, px11_⟩ := px11_
    have hDx14_ : idf dd_ S0_ Sx8_ := idf_tr hDx4_ dx15_
    have tx16_ : Sx8_.2.1 1 0 1 = some dd_ := (hFx10_.2.1 1 0 1 rfl).trans tx3_
    have e34_ := px11_
    have us34_ : Sx8_.1 3 dd_ 0 = S0_.1 3 dd_ 0 := hFx10_.1 3 dd_ 0 rfl
    have gu_ := g_uq (fun m9_ h9_ => (ba_ m9_ h9_).1) (r_ := Sx8_.2.2.1 31 0) (i_ := Sx8_.2.2.1 30 0) (fun m9_ h9_ => ⟨(e34_.2.1 m9_ (by omega)).2, (e34_.2.1 m9_ (by omega)).1⟩) (d_tp r_ + 1) (d_tp r_) (by omega) (by omega)
    have lm_ : vx13_ = d_lm r_ := by rw [e34_.1, gu_.1, gu_.2]; rfl
    have e34c := e34_.2.2
    have er34_ : ∀ k9_, k9_ ≤ d_tp r_ → er1 b_ n_ r_.1 k9_ Sx8_ := fun k9_ h9_ => er1_fr (ba_ k9_ (by omega)).2 hFx12_ rfl rfl rfl rfl rfl
    have lmb_ : 0 ≤ vx13_ ∧ vx13_ ≤ 22 := by rw [lm_]; exact lm_b
    clear e34_
    refine sm_T_go 2 (c1 := (41, [some (.inr (.inr (some (1, 0)))), some (.inr (.inr (some (3, dd_)))), some (.inl ((S0_.1 7 0 3) - 1)), some (.inl ((S0_.2.2.1 75 0 ((S0_.1 7 0 3) - 1).toNat) / 16)), some (.inl vx13_)], [.inl vx13_], Sx8_)) rfl ?_
    refine sm_T_b0 (a := 0) (z := 16) rfl (fun cx17_ => ?_) (fun cx17_ => ?_)
    · have cx17_ : vx13_ = 0 := of_decide_eq_true cx17_
      have l0_ : d_lm r_ = 0 := by omega
      obtain ⟨z_, hz_, zR_, zl_⟩ := d_zz hn_ hr_ l0_
      have l9_ := lm_0 l0_
      obtain ⟨i1_, i2_, i3_, i4_, i5_⟩ := d_in hn_ hr_
      obtain ⟨a1_, a2_, a3_⟩ := e34c (by omega)
      have a2b := a2_.trans gu_.1
      refine sm_T_go 2 (c1 := (59, [some (.inr (.inr (some (1, 0)))), some (.inr (.inr (some (3, dd_)))), some (.inl ((S0_.1 7 0 3) - 1)), some (.inl ((S0_.2.2.1 75 0 ((S0_.1 7 0 3) - 1).toNat) / 16)), some (.inl vx13_)], [.inl ((S0_.1 7 0 3) - 1), .inr (.inr (some (1, 0)))], Sx8_)) rfl ?_
      refine sm_T_cal (d1 := 1) (Q1 := vq_34 ((S0_.1 7 0 3) - 1) b_ n_ r_.1 (d_tp r_) dd_ (1 + d_I r_ + d_R r_) (d_I r_) Sx8_) rfl rfl (by decide) (vc_34 ((S0_.1 7 0 3) - 1) b_ n_ r_.1 (d_tp r_) dd_ (1 + d_I r_ + d_R r_) (d_I r_) Sx8_ hIx9_ (by exact tx16_) (by omega) (by omega) (by omega) (by exact er34_ _ (Nat.le_refl _)) (by exact (ba_ _ (by omega)).1) (by omega)) (fun u_ Sx18_ px21_ => ?_)
      obtain ⟨rfl, hIx19_, hFx20_, px21_⟩ := px21_
      have hFx22_ : ai_fr (sx_W vw_31n) S0_ Sx18_ := ai_fr_tr hFx12_ (fr_le hFx20_ rfl)
      obtain ⟨dx24_, px21_⟩ := px21_
      have hDx23_ : idf dd_ S0_ Sx18_ := idf_tr hDx14_ dx24_
      have tx25_ : Sx18_.2.1 1 0 1 = some dd_ := (hFx20_.2.1 1 0 1 rfl).trans tx16_
      have e59_ := px21_
      have us59_ : Sx18_.1 3 dd_ 0 = S0_.1 3 dd_ 0 := (hFx20_.1 3 dd_ 0 rfl).trans us34_
      have er59_ : ∀ k9_, k9_ ≤ d_tp r_ → er1 b_ n_ r_.1 k9_ Sx18_ := fun k9_ h9_ => er1_fr (ba_ k9_ (by omega)).2 hFx22_ rfl rfl rfl rfl rfl
      have cc59_ : ccd (dC r_) (d_tp r_) Sx18_ := ccd_fr cc0_ (Nat.le_refl _) hFx22_ rfl rfl
      have n59_ := hFx20_.1 3 dd_ 3 rfl
      have m59_ := hFx20_.1 3 dd_ 2 rfl
      have o59_ := hFx20_.1 3 dd_ 1 rfl
      refine sm_T_go 4 (c1 := (66, [some (.inr (.inr (some (1, 0)))), some (.inr (.inr (some (3, dd_)))), some (.inl ((S0_.1 7 0 3) - 1)), some (.inl ((S0_.2.2.1 75 0 ((S0_.1 7 0 3) - 1).toNat) / 16)), some (.inl vx13_)], [.inl 0, .inl 0, .inl ((S0_.1 7 0 3) - 1), .inr (.inr (some (1, 0)))], Sx18_)) rfl ?_
      refine sm_T_cal (d1 := 26) (Q1 := vq_36n ((S0_.1 7 0 3) - 1) 0 0 b_ n_ r_.1 (dC r_) (d_tp r_) 0 dd_ (1 + d_I r_ + d_R r_) (d_I r_) ([], 0, 1) (ein r_.1 (d_tp r_)) z_ nx0 (dnx r_) 0 Sx18_) rfl rfl (by decide) (vc_36nx 16 ((S0_.1 7 0 3) - 1) 0 0 b_ n_ r_.1 (dC r_) (d_tp r_) 0 dd_ (1 + d_I r_ + d_R r_) (d_I r_) ([], 0, 1) (ein r_.1 (d_tp r_)) z_ nx0 (dnx r_) 0 Sx18_ hIx19_ (by exact hIx19_) (by exact tx25_) (by omega) (by rfl) (by omega) (by exact er59_) (by exact (ba_ _ (by omega)).1) (by exact cc59_) (by exact e59_) (by decide) (by (rw [zR_]; omega)) (by exact ⟨by omega, fun k9_ x9_ y9_ q9_ => by simp at q9_⟩) (by exact fun a9_ => ein_w (ba_ _ (by omega)).1 (by omega) (Nat.le_refl _) a9_) (by exact cxn_0 e59_) (by exact hz_) (by exact rfl)) (fun u_ Sx26_ px29_ => ?_)
      obtain ⟨rfl, hIx27_, hFx28_, px29_⟩ := px29_
      have hFx30_ : ai_fr (sx_W vw_31n) S0_ Sx26_ := ai_fr_tr hFx22_ (fr_le hFx28_ rfl)
      obtain ⟨dx32_, px29_⟩ := px29_
      have hDx31_ : idf dd_ S0_ Sx26_ := idf_tr hDx23_ dx32_
      have tx33_ : Sx26_.2.1 1 0 1 = some dd_ := (hFx28_.2.1 1 0 1 rfl).trans tx25_
      have e66_ := px29_
      have us66_ : Sx26_.1 3 dd_ 0 = S0_.1 3 dd_ 0 := (hFx28_.1 3 dd_ 0 rfl).trans us59_
      have cf66_ := cgl_f e66_.1
      have n66_ := hFx28_.1 3 dd_ 3 rfl
      have m66_ := hFx28_.1 3 dd_ 2 rfl
      have o66_ := hFx28_.1 3 dd_ 1 rfl
      have er66_ := er1_fr (er59_ (d_tp r_) (Nat.le_refl _)) hFx28_ rfl rfl rfl rfl rfl
      have bx34_ : 0 ≤ Sx26_.1 1 0 8 ∧ Sx26_.1 1 0 8 ≤ 1 := hIx27_.1 1 0 8 rfl
      refine sm_T_go 2 (c1 := (73, [some (.inr (.inr (some (1, 0)))), some (.inr (.inr (some (3, dd_)))), some (.inl ((S0_.1 7 0 3) - 1)), some (.inl ((S0_.2.2.1 75 0 ((S0_.1 7 0 3) - 1).toNat) / 16)), some (.inl vx13_)], [.inl (Sx26_.1 1 0 8)], Sx26_)) rfl ?_
      refine sm_T_b0 (a := 0) (z := 16) rfl (fun cx35_ => ?_) (fun cx35_ => ?_)
      · have cx35_ : (Sx26_.1 1 0 8) = 0 := of_decide_eq_true cx35_
        have zk_ : z_.1.1.length ≤ 1000 := cf66_.1.mp (by omega)
        obtain ⟨o1_, -, xn_⟩ := e66_.2 zk_
        have ww_ := (exm_w 16 _ _ _ _ hz_).2.2 (by omega) (by omega) ⟨by omega, fun k9_ x9_ y9_ q9_ => by simp at q9_⟩ (fun a9_ => ein_w (ba_ _ (by omega)).1 (by omega) (Nat.le_refl _) a9_)
        have nd_ := cgl_n e66_.1 zk_
        have cn66_ : cxn dd_ (d_R r_) (dnx r_) Sx26_ := by rw [← zR_]; exact xn_
        have gx_ : dgx dd_ r_ z_ Sx26_ := ⟨⟨by omega, by omega, by omega, nd_⟩, (cgl_x e66_.1 zk_).2.2.2.2.2.1⟩
        have dg : dgr dd_ (1 + d_I r_ + d_R r_) Sx26_ := cgx_dgr (cgl_x e66_.1 zk_) ww_.1 (by omega) (by omega)
        refine sm_T_go 2 (c1 := (91, [some (.inr (.inr (some (1, 0)))), some (.inr (.inr (some (3, dd_)))), some (.inl ((S0_.1 7 0 3) - 1)), some (.inl ((S0_.2.2.1 75 0 ((S0_.1 7 0 3) - 1).toNat) / 16)), some (.inl vx13_)], [.inl ((S0_.1 7 0 3) - 1), .inr (.inr (some (1, 0)))], Sx26_)) rfl ?_
        refine sm_T_cal (d1 := 1) (Q1 := vq_45n ((S0_.1 7 0 3) - 1) b_ n_ r_.1 (d_tp r_) dd_ z_.2 ((1 + d_I r_ + d_R r_) + z_.1.1.length) Sx26_) rfl rfl (by decide) (vc_45n ((S0_.1 7 0 3) - 1) b_ n_ r_.1 (d_tp r_) dd_ z_.2 ((1 + d_I r_ + d_R r_) + z_.1.1.length) Sx26_ hIx27_ (by exact tx33_) (by omega) (by exact er66_) (by exact (ba_ _ (by omega)).1) (by omega) (by (intro s9_ h9_; have w9_ := (o1_.2.2.2.2.2.2 s9_ h9_).1; rw [show 8 * (40 * 0 + s9_) = 8 * s9_ by omega] at w9_; exact w9_)) (by exact zl_) (by exact ww_.2)) (fun u_ Sx36_ px39_ => ?_)
        obtain ⟨rfl, hIx37_, hFx38_, px39_⟩ := px39_
        have hFx40_ : ai_fr (sx_W vw_31n) S0_ Sx36_ := ai_fr_tr hFx30_ (fr_le hFx38_ rfl)
        obtain ⟨dx42_, px39_⟩ := px39_
        have hDx41_ : idf dd_ S0_ Sx36_ := idf_tr hDx31_ dx42_
        have tx43_ : Sx36_.2.1 1 0 1 = some dd_ := (hFx38_.2.1 1 0 1 rfl).trans tx33_
        have ex44_ : Sx36_.1 1 0 8 = Sx26_.1 1 0 8 := hFx38_.1 1 0 8 rfl
        have e91_ := (px39_).1
        have xn91_ := cxn_fr cn66_ hFx38_
        have cy91_ : dcn dd_ r_ z_ Sx36_ := ⟨xn91_.1, xn91_.2, (px39_).2⟩
        have n91_ := hFx38_.1 3 dd_ 3 rfl
        have m91_ := hFx38_.1 3 dd_ 2 rfl
        have nd91_ := hFx38_.1 3 dd_ 4 rfl
        have gx91_ := dgx_fr gx_ hFx38_ rfl rfl rfl rfl rfl rfl
        have dg91_ := dgr_fr dg hFx38_ rfl rfl rfl rfl rfl
        have dr91_ : drt dd_ Sx36_ := ⟨by omega, fun k9_ h9_ => by rw [nd91_, nd_]; exact e91_ k9_ (by omega), fun k9_ h9_ => by rw [nd91_, fr_arr (t := 46) hFx38_ rfl]; exact o1_.1.2 k9_ (by rw [zR_]; omega)⟩
        have bg91_ : 0 ≤ Sx36_.1 3 dd_ 5 ∧ Sx36_.1 3 dd_ 5 < 2 ^ (Sx36_.1 3 dd_ 2).toNat := by rw [hFx38_.1 3 dd_ 5 rfl, show (Sx36_.1 3 dd_ 2).toNat = z_.1.2.1 by rw [zR_]; omega]; exact o1_.1.1
        refine sm_T_go 1 (c1 := (95, [some (.inr (.inr (some (1, 0)))), some (.inr (.inr (some (3, dd_)))), some (.inl ((S0_.1 7 0 3) - 1)), some (.inl ((S0_.2.2.1 75 0 ((S0_.1 7 0 3) - 1).toNat) / 16)), some (.inl vx13_)], [.inr (.inr (some (1, 0)))], Sx36_)) rfl ?_
        refine sm_T_cal (d1 := 1) (Q1 := vq_46 dd_ (1 + d_I r_ + d_R r_) Sx36_) rfl rfl (by decide) (vc_46 dd_ (1 + d_I r_ + d_R r_) Sx36_ hIx37_ (by exact tx43_) (by exact dg91_) (by exact dr91_)) (fun u_ Sx45_ px48_ => ?_)
        obtain ⟨rfl, hIx46_, hFx47_, px48_⟩ := px48_
        have hFx49_ : ai_fr (sx_W vw_31n) S0_ Sx45_ := ai_fr_tr hFx40_ (fr_le hFx47_ rfl)
        obtain ⟨dx51_, px48_⟩ := px48_
        have hDx50_ : idf dd_ S0_ Sx45_ := idf_tr hDx41_ dx51_
        have tx52_ : Sx45_.2.1 1 0 1 = some dd_ := (hFx47_.2.1 1 0 1 rfl).trans tx43_
        have cy95_ := dcn_fr cy91_ hFx47_
        have gx95_ := dgx_fr gx91_ hFx47_ rfl rfl rfl rfl rfl rfl
        have dg95_ := dgr_fr dg91_ hFx47_ rfl rfl rfl rfl rfl
        have dr95_ := drt_fr dr91_ hFx47_ rfl rfl rfl rfl rfl
        have bg95_ : 0 ≤ Sx45_.1 3 dd_ 5 ∧ Sx45_.1 3 dd_ 5 < 2 ^ (Sx45_.1 3 dd_ 2).toNat := by rw [hFx47_.1 3 dd_ 5 rfl, hFx47_.1 3 dd_ 2 rfl]; exact bg91_
        refine sm_T_go 1 (c1 := (99, [some (.inr (.inr (some (1, 0)))), some (.inr (.inr (some (3, dd_)))), some (.inl ((S0_.1 7 0 3) - 1)), some (.inl ((S0_.2.2.1 75 0 ((S0_.1 7 0 3) - 1).toNat) / 16)), some (.inl vx13_)], [.inr (.inr (some (1, 0)))], Sx45_)) rfl ?_
        refine sm_T_cal (d1 := 1) (Q1 := vq_47n dd_ (1 + d_I r_ + d_R r_) Sx45_) rfl rfl (by decide) (vc_47n dd_ (1 + d_I r_ + d_R r_) Sx45_ hIx46_ (by exact tx52_) (by exact dg95_)) (fun u_ Sx53_ px56_ => ?_)
        obtain ⟨rfl, hIx54_, hFx55_, px56_⟩ := px56_
        have hFx57_ : ai_fr (sx_W vw_31n) S0_ Sx53_ := ai_fr_tr hFx49_ (fr_le hFx55_ rfl)
        obtain ⟨dx59_, px56_⟩ := px56_
        have hDx58_ : idf dd_ S0_ Sx53_ := idf_tr hDx50_ dx59_
        have tx60_ : Sx53_.2.1 1 0 1 = some dd_ := (hFx55_.2.1 1 0 1 rfl).trans tx52_
        have sw99_ := (px56_).1
        have sr99_ := (px56_).2
        have sq99_ := swq_d (by omega) sr99_
        have cy99_ := dcn_fr cy95_ hFx55_
        have gx99_ := dgx_fr gx95_ hFx55_ rfl rfl rfl rfl rfl rfl
        have dg99_ := dgr_fr dg95_ hFx55_ rfl rfl rfl rfl rfl
        have cs99_ : dcs dd_ (1 + d_I r_ + d_R r_) Sx53_ := ⟨glo_of dg99_ (by have g9_ := dg99_.2.1; omega), sq99_, drt_fr dr95_ hFx55_ rfl rfl rfl rfl rfl⟩
        have dr99_ := drt_fr dr95_ hFx55_ rfl rfl rfl rfl rfl
        have bg99_ : 0 ≤ Sx53_.1 3 dd_ 5 ∧ Sx53_.1 3 dd_ 5 < 2 ^ (Sx53_.1 3 dd_ 2).toNat := by rw [hFx55_.1 3 dd_ 5 rfl, hFx55_.1 3 dd_ 2 rfl]; exact bg95_
        refine sm_T_go 1 (c1 := (103, [some (.inr (.inr (some (1, 0)))), some (.inr (.inr (some (3, dd_)))), some (.inl ((S0_.1 7 0 3) - 1)), some (.inl ((S0_.2.2.1 75 0 ((S0_.1 7 0 3) - 1).toNat) / 16)), some (.inl vx13_)], [.inr (.inr (some (1, 0)))], Sx53_)) rfl ?_
        refine sm_T_cal (d1 := 1) (Q1 := vq_51n dd_ (1 + d_I r_ + d_R r_) Sx53_) rfl rfl (by decide) (vc_51n dd_ (1 + d_I r_ + d_R r_) Sx53_ hIx54_ (by exact tx60_) (by exact dg99_) (by exact dr99_)) (fun u_ Sx61_ px64_ => ?_)
        obtain ⟨rfl, hIx62_, hFx63_, px64_⟩ := px64_
        have hFx65_ : ai_fr (sx_W vw_31n) S0_ Sx61_ := ai_fr_tr hFx57_ (fr_le hFx63_ rfl)
        obtain ⟨dx67_, px64_⟩ := px64_
        have hDx66_ : idf dd_ S0_ Sx61_ := idf_tr hDx58_ dx67_
        have tx68_ : Sx61_.2.1 1 0 1 = some dd_ := (hFx63_.2.1 1 0 1 rfl).trans tx60_
        have tb103_ := (px64_).1
        have ct103_ : dct dd_ (1 + d_I r_ + d_R r_) Sx61_ := dct_of (by omega) (by have g9_ := dg99_.1.1; omega) (by have g9_ := dg99_.1; omega) (by have g9_ := dr99_.1; omega) sr99_ hFx63_ (px64_).2
        have sw103_ := swp_fr sw99_ hFx63_ rfl rfl rfl rfl
        have cy103_ := dcn_fr cy99_ hFx63_
        have gx103_ := dgx_fr gx99_ hFx63_ rfl rfl rfl rfl rfl rfl
        have cs103_ := dcs_fr cs99_ hFx63_
        have dg103_ := dgr_fr dg99_ hFx63_ rfl rfl rfl rfl rfl
        have dr103_ := drt_fr dr99_ hFx63_ rfl rfl rfl rfl rfl
        have bg103_ : 0 ≤ Sx61_.1 3 dd_ 5 ∧ Sx61_.1 3 dd_ 5 < 2 ^ (Sx61_.1 3 dd_ 2).toNat := by rw [hFx63_.1 3 dd_ 5 rfl, hFx63_.1 3 dd_ 2 rfl]; exact bg99_
        refine sm_T_go 1 (c1 := (107, [some (.inr (.inr (some (1, 0)))), some (.inr (.inr (some (3, dd_)))), some (.inl ((S0_.1 7 0 3) - 1)), some (.inl ((S0_.2.2.1 75 0 ((S0_.1 7 0 3) - 1).toNat) / 16)), some (.inl vx13_)], [.inr (.inr (some (1, 0)))], Sx61_)) rfl ?_
        refine sm_T_gr rfl rfl tx68_ ?_
        refine sm_T_go 1 (c1 := (111, [some (.inr (.inr (some (1, 0)))), some (.inr (.inr (some (3, dd_)))), some (.inl ((S0_.1 7 0 3) - 1)), some (.inl ((S0_.2.2.1 75 0 ((S0_.1 7 0 3) - 1).toNat) / 16)), some (.inl vx13_)], [.inr (.inr (some (1, 0))), .inr (.inr (some (3, dd_)))], Sx61_)) rfl ?_
        refine sm_T_gr rfl rfl tx68_ ?_
        refine sm_T_go 2 (c1 := (118, [some (.inr (.inr (some (1, 0)))), some (.inr (.inr (some (3, dd_)))), some (.inl ((S0_.1 7 0 3) - 1)), some (.inl ((S0_.2.2.1 75 0 ((S0_.1 7 0 3) - 1).toNat) / 16)), some (.inl vx13_)], [.inr (.inr (some (33, 0))), .inr (.inr (some (3, dd_))), .inr (.inr (some (3, dd_)))], Sx61_)) rfl ?_
        refine sm_T_cal (d1 := 1) (Q1 := vq_67s dd_ (1 + d_I r_ + d_R r_) Sx61_) rfl rfl (by decide) (vc_67s dd_ (1 + d_I r_ + d_R r_) Sx61_ hIx62_ (by exact dg103_) (by exact dr103_) (by exact sw103_)) (fun u_ Sx69_ px72_ => ?_)
        obtain ⟨vx74_, rfl, hIx70_, hFx71_, px72_⟩ := px72_
        have hFx73_ : ai_fr (sx_W vw_31n) S0_ Sx69_ := ai_fr_tr hFx65_ (fr_le hFx71_ rfl)
        have hDx75_ : idf dd_ S0_ Sx69_ := idf_tr hDx66_ (idf_fr hFx71_ (by decide) (by decide))
        have tx76_ : Sx69_.2.1 1 0 1 = some dd_ := (hFx71_.2.1 1 0 1 rfl).trans tx68_
        have e118_ := (px72_).1
        have tb118_ := dtb_fr tb103_ hFx71_ rfl rfl
        have sw118_ := swp_fr sw103_ hFx71_ rfl rfl rfl rfl
        have cy118_ := dcn_fr cy103_ hFx71_
        have gx118_ := dgx_fr gx103_ hFx71_ rfl rfl rfl rfl rfl rfl
        have cs118_ := dcs_fr cs103_ hFx71_
        have ct118_ := dct_fr ct103_ hFx71_
        have dg118_ := dgr_fr dg103_ hFx71_ rfl rfl rfl rfl rfl
        have dr118_ := drt_fr dr103_ hFx71_ rfl rfl rfl rfl rfl
        have bg118_ : 0 ≤ Sx69_.1 3 dd_ 5 ∧ Sx69_.1 3 dd_ 5 < 2 ^ (Sx69_.1 3 dd_ 2).toNat := by rw [hFx71_.1 3 dd_ 5 rfl, hFx71_.1 3 dd_ 2 rfl]; exact bg103_
        have hIx77_ : gi (sm_pI Sx69_ 3 dd_ 8 vx74_) := gi_pI hIx70_ (show 0 ≤ vx74_ ∧ vx74_ ≤ 1000 from ⟨by omega, by omega⟩)
        have hFx78_ : ai_fr (sx_W vw_31n) S0_ (sm_pI Sx69_ 3 dd_ 8 vx74_) := ai_fr_tr hFx73_ (ai_fr_pI rfl)
        have hDx79_ : idf dd_ S0_ (sm_pI Sx69_ 3 dd_ 8 vx74_) := idf_pI hDx75_ (Or.inr rfl)
        refine sm_T_go 2 (c1 := (125, [some (.inr (.inr (some (1, 0)))), some (.inr (.inr (some (3, dd_)))), some (.inl ((S0_.1 7 0 3) - 1)), some (.inl ((S0_.2.2.1 75 0 ((S0_.1 7 0 3) - 1).toNat) / 16)), some (.inl vx13_)], [.inr (.inr (some (1, 0)))], sm_pI Sx69_ 3 dd_ 8 vx74_)) rfl ?_
        refine sm_T_gr rfl rfl tx76_ ?_
        refine sm_T_go 1 (c1 := (129, [some (.inr (.inr (some (1, 0)))), some (.inr (.inr (some (3, dd_)))), some (.inl ((S0_.1 7 0 3) - 1)), some (.inl ((S0_.2.2.1 75 0 ((S0_.1 7 0 3) - 1).toNat) / 16)), some (.inl vx13_)], [.inr (.inr (some (1, 0))), .inr (.inr (some (3, dd_)))], sm_pI Sx69_ 3 dd_ 8 vx74_)) rfl ?_
        refine sm_T_cal (d1 := 1) (Q1 := vq_52 dd_ (1 + d_I r_ + d_R r_) (sm_pI Sx69_ 3 dd_ 8 vx74_)) rfl rfl (by decide) (vc_52 dd_ (1 + d_I r_ + d_R r_) (sm_pI Sx69_ 3 dd_ 8 vx74_) hIx77_ (by exact tx76_) (by exact dgr_fr (w_ := ([(3, 8)], [], [])) dg118_ (ai_fr_pI rfl) rfl rfl rfl rfl rfl) (by exact (drt_fr (w_ := ([(3, 8)], [], [])) dr118_ (ai_fr_pI rfl) rfl rfl rfl rfl rfl).1.2.2.2) (by exact dtb_fr (w_ := ([(3, 8)], [], [])) tb118_ (ai_fr_pI rfl) rfl rfl) (by (rw [rf_nk (by decide), rf_nk (by decide)]; exact bg118_))) (fun u_ Sx80_ px83_ => ?_)
        obtain ⟨vx85_, rfl, hIx81_, hFx82_, px83_⟩ := px83_
        have hFx84_ : ai_fr (sx_W vw_31n) S0_ Sx80_ := ai_fr_tr hFx78_ (fr_le hFx82_ rfl)
        obtain ⟨dx87_, px83_⟩ := px83_
        have hDx86_ : idf dd_ S0_ Sx80_ := idf_tr hDx79_ dx87_
        have tx88_ : Sx80_.2.1 1 0 1 = some dd_ := (hFx82_.2.1 1 0 1 rfl).trans tx76_
        have e129_ := px83_
        have f129_ := ai_fr_tr (ai_fr_pI (W := sx_W ([(3, 0), (3, 6), (3, 8), (3, 9)], [33], [])) (t := 3) (i := dd_) (k := 8) rfl) (fr_le hFx82_ rfl)
        have bg129_ : 0 ≤ Sx80_.1 3 dd_ 5 ∧ Sx80_.1 3 dd_ 5 < 2 ^ (Sx80_.1 3 dd_ 2).toNat := by rw [f129_.1 3 dd_ 5 rfl, f129_.1 3 dd_ 2 rfl]; exact bg118_
        have hIx89_ : gi (sm_pI Sx80_ 3 dd_ 9 vx85_) := gi_pI hIx81_ (show 0 ≤ vx85_ ∧ vx85_ ≤ 64 from ⟨by omega, by omega⟩)
        have hFx90_ : ai_fr (sx_W vw_31n) S0_ (sm_pI Sx80_ 3 dd_ 9 vx85_) := ai_fr_tr hFx84_ (ai_fr_pI rfl)
        have hDx91_ : idf dd_ S0_ (sm_pI Sx80_ 3 dd_ 9 vx85_) := idf_pI hDx86_ (Or.inr rfl)
        refine sm_T_go 2 (c1 := (136, [some (.inr (.inr (some (1, 0)))), some (.inr (.inr (some (3, dd_)))), some (.inl ((S0_.1 7 0 3) - 1)), some (.inl ((S0_.2.2.1 75 0 ((S0_.1 7 0 3) - 1).toNat) / 16)), some (.inl vx13_)], [.inr (.inr (some (1, 0)))], sm_pI Sx80_ 3 dd_ 9 vx85_)) rfl ?_
        refine sm_T_gr rfl rfl tx88_ ?_
        refine sm_T_go 1 (c1 := (140, [some (.inr (.inr (some (1, 0)))), some (.inr (.inr (some (3, dd_)))), some (.inl ((S0_.1 7 0 3) - 1)), some (.inl ((S0_.2.2.1 75 0 ((S0_.1 7 0 3) - 1).toNat) / 16)), some (.inl vx13_)], [.inr (.inr (some (1, 0))), .inr (.inr (some (3, dd_)))], sm_pI Sx80_ 3 dd_ 9 vx85_)) rfl ?_
        refine sm_T_gr rfl rfl tx88_ ?_
        have bx92_ : 0 ≤ Sx80_.1 3 dd_ 5 ∧ Sx80_.1 3 dd_ 5 ≤ 63 := hIx81_.1 3 dd_ 5 rfl
        have ex93_ : (sm_pI Sx80_ 3 dd_ 9 vx85_).1 3 dd_ 5 = (Sx80_.1 3 dd_ 5) := by (try simp only [rf_eq, rf_nk, rf_nt, rd_fa, rd_af, ne_eq, Nat.reduceEqDiff, not_false_eq_true])
        have hIx94_ : gi (sm_pI (sm_pI Sx80_ 3 dd_ 9 vx85_) 3 dd_ 6 ((sm_pI Sx80_ 3 dd_ 9 vx85_).1 3 dd_ 5)) := gi_pI hIx89_ (show 0 ≤ ((sm_pI Sx80_ 3 dd_ 9 vx85_).1 3 dd_ 5) ∧ ((sm_pI Sx80_ 3 dd_ 9 vx85_).1 3 dd_ 5) ≤ 63 from ⟨by omega, by omega⟩)
        have hFx95_ : ai_fr (sx_W vw_31n) S0_ (sm_pI (sm_pI Sx80_ 3 dd_ 9 vx85_) 3 dd_ 6 ((sm_pI Sx80_ 3 dd_ 9 vx85_).1 3 dd_ 5)) := ai_fr_tr hFx90_ (ai_fr_pI rfl)
        have hDx96_ : idf dd_ S0_ (sm_pI (sm_pI Sx80_ 3 dd_ 9 vx85_) 3 dd_ 6 ((sm_pI Sx80_ 3 dd_ 9 vx85_).1 3 dd_ 5)) := idf_pI hDx91_ (Or.inr rfl)
        refine sm_T_go 3 (c1 := (150, [some (.inr (.inr (some (1, 0)))), some (.inr (.inr (some (3, dd_)))), some (.inl ((S0_.1 7 0 3) - 1)), some (.inl ((S0_.2.2.1 75 0 ((S0_.1 7 0 3) - 1).toNat) / 16)), some (.inl vx13_)], [.inr (.inr (some (1, 0)))], sm_pI (sm_pI Sx80_ 3 dd_ 9 vx85_) 3 dd_ 6 ((sm_pI Sx80_ 3 dd_ 9 vx85_).1 3 dd_ 5))) rfl ?_
        refine sm_T_gr rfl rfl tx88_ ?_
        have hIx97_ : gi (sm_pI (sm_pI (sm_pI Sx80_ 3 dd_ 9 vx85_) 3 dd_ 6 ((sm_pI Sx80_ 3 dd_ 9 vx85_).1 3 dd_ 5)) 3 dd_ 0 1) := gi_pI hIx94_ (show 0 ≤ 1 ∧ 1 ≤ 1 from ⟨by omega, by omega⟩)
        have hFx98_ : ai_fr (sx_W vw_31n) S0_ (sm_pI (sm_pI (sm_pI Sx80_ 3 dd_ 9 vx85_) 3 dd_ 6 ((sm_pI Sx80_ 3 dd_ 9 vx85_).1 3 dd_ 5)) 3 dd_ 0 1) := ai_fr_tr hFx95_ (ai_fr_pI rfl)
        have hDx99_ : idf dd_ S0_ (sm_pI (sm_pI (sm_pI Sx80_ 3 dd_ 9 vx85_) 3 dd_ 6 ((sm_pI Sx80_ 3 dd_ 9 vx85_).1 3 dd_ 5)) 3 dd_ 0 1) := idf_pI hDx96_ (Or.inr rfl)
        refine sm_T_go 2 (c1 := (157, [some (.inr (.inr (some (1, 0)))), some (.inr (.inr (some (3, dd_)))), some (.inl ((S0_.1 7 0 3) - 1)), some (.inl ((S0_.2.2.1 75 0 ((S0_.1 7 0 3) - 1).toNat) / 16)), some (.inl vx13_)], [], sm_pI (sm_pI (sm_pI Sx80_ 3 dd_ 9 vx85_) 3 dd_ 6 ((sm_pI Sx80_ 3 dd_ 9 vx85_).1 3 dd_ 5)) 3 dd_ 0 1)) rfl ?_
        refine sm_T_rv rfl (Or.inl ⟨_, _, rfl, rfl, hIx97_, hFx98_, ?_⟩)
        refine ⟨hDx99_, ?_⟩
        have fz_ : ai_fr (sx_W ([(3, 0), (3, 6), (3, 8), (3, 9)], [33], [])) _ ((sm_pI (sm_pI (sm_pI Sx80_ 3 dd_ 9 vx85_) 3 dd_ 6 ((sm_pI Sx80_ 3 dd_ 9 vx85_).1 3 dd_ 5)) 3 dd_ 0 1)) := ai_fr_tr (ai_fr_tr (ai_fr_tr f129_ (ai_fr_pI rfl)) (ai_fr_pI rfl)) (ai_fr_pI rfl)
        refine ⟨l0_, ⟨z_, hz_, zk_, dgx_fr gx118_ fz_ rfl rfl rfl rfl rfl rfl, dcn_fr cy118_ fz_, by ((try simp only [rd_eq, rd_ne, rf_eq, rf_nk, rf_nt, rd_fa, rd_af, rd_fl, rd_al, rd_lf, rd_la, rd_leq, rd_lne, rd_fr, rd_ar, ne_eq, Nat.reduceEqDiff, not_false_eq_true]); exact (f129_.1 3 dd_ 5 rfl).trans cy118_.1), dcs_fr cs118_ fz_, dct_fr ct118_ fz_⟩, rf_eq, (1 + d_I r_ + d_R r_), dgr_fr dg118_ fz_ rfl rfl rfl rfl rfl, drt_fr dr118_ fz_ rfl rfl rfl rfl rfl, swp_fr sw118_ fz_ rfl rfl rfl rfl, dtb_fr tb118_ fz_ rfl rfl, ?_, ?_⟩
        · rw [fz_.1 3 dd_ 5 rfl, fz_.1 3 dd_ 2 rfl]; exact bg118_
        · rw [fz_.1 3 dd_ 2 rfl]; (try simp only [rd_eq, rd_ne, rf_eq, rf_nk, rf_nt, rd_fa, rd_af, rd_fl, rd_al, rd_lf, rd_la, rd_leq, rd_lne, rd_fr, rd_ar, ne_eq, Nat.reduceEqDiff, not_false_eq_true]); rw [f129_.1 3 dd_ 2 rfl] at bg129_; exact bg129_
      · have cx35_ : ¬ ((Sx26_.1 1 0 8) = 0) := of_decide_eq_false cx35_
        refine sm_T_go 5 (c1 := (86, [some (.inr (.inr (some (1, 0)))), some (.inr (.inr (some (3, dd_)))), some (.inl ((S0_.1 7 0 3) - 1)), some (.inl ((S0_.2.2.1 75 0 ((S0_.1 7 0 3) - 1).toNat) / 16)), some (.inl vx13_)], [.inl ((S0_.2.2.1 75 0 ((S0_.1 7 0 3) - 1).toNat) / 16), .inl 23, .inr (.inr (some (10, 0)))], Sx26_)) rfl ?_
        refine sm_T_calx (d1 := 0) (Q1 := vq_187 23 ((S0_.2.2.1 75 0 ((S0_.1 7 0 3) - 1).toNat) / 16) Sx26_) (Q2 := vx_187 23 ((S0_.2.2.1 75 0 ((S0_.1 7 0 3) - 1).toNat) / 16) Sx26_) rfl rfl (by decide) (vc_187 23 ((S0_.2.2.1 75 0 ((S0_.1 7 0 3) - 1).toNat) / 16) Sx26_ hIx27_ (by omega) (by omega)) rfl (fun Sx100_ px103_ => ?_) (fun u_ Sx100_ px103_ => ?_)
        · obtain ⟨hIx101_, hFx102_, px103_⟩ := px103_
          refine Or.inr ⟨_, rfl, hIx101_, ai_fr_tr hFx30_ (fr_le hFx102_ rfl), ?_⟩
          have y9_ := px103_
          refine ⟨idf_tr hDx31_ (idf_fr hFx102_ (by decide) (by decide)), ⟨(23, r_.2.1 (d_tp r_)), ⟨rfl, Or.inr ⟨l0_, ⟨z_, hz_, by have := cf66_.1; omega⟩, rfl⟩⟩, ⟨y9_.1, ?_⟩⟩, ?_⟩
          · show _ = ((r_.2.1 (d_tp r_) : Nat) : Int); have y8_ := y9_.2; omega
          · exact (hFx102_.1 3 dd_ 0 rfl).trans us66_
        · exact (px103_.2.2.2).elim
    · have cx17_ : ¬ (vx13_ = 0) := of_decide_eq_false cx17_
      refine sm_T_go 5 (c1 := (54, [some (.inr (.inr (some (1, 0)))), some (.inr (.inr (some (3, dd_)))), some (.inl ((S0_.1 7 0 3) - 1)), some (.inl ((S0_.2.2.1 75 0 ((S0_.1 7 0 3) - 1).toNat) / 16)), some (.inl vx13_)], [.inl ((S0_.2.2.1 75 0 ((S0_.1 7 0 3) - 1).toNat) / 16), .inl vx13_, .inr (.inr (some (10, 0)))], Sx8_)) rfl ?_
      refine sm_T_calx (d1 := 0) (Q1 := vq_187 vx13_ ((S0_.2.2.1 75 0 ((S0_.1 7 0 3) - 1).toNat) / 16) Sx8_) (Q2 := vx_187 vx13_ ((S0_.2.2.1 75 0 ((S0_.1 7 0 3) - 1).toNat) / 16) Sx8_) rfl rfl (by decide) (vc_187 vx13_ ((S0_.2.2.1 75 0 ((S0_.1 7 0 3) - 1).toNat) / 16) Sx8_ hIx9_ (by omega) (by omega)) rfl (fun Sx105_ px108_ => ?_) (fun u_ Sx105_ px108_ => ?_)
      · obtain ⟨hIx106_, hFx107_, px108_⟩ := px108_
        refine Or.inr ⟨_, rfl, hIx106_, ai_fr_tr hFx12_ (fr_le hFx107_ rfl), ?_⟩
        have y9_ := px108_
        refine ⟨idf_tr hDx14_ (idf_fr hFx107_ (by decide) (by decide)), ⟨(d_lm r_, r_.2.1 (d_tp r_)), ⟨rfl, Or.inl ⟨by rw [← lm_]; omega, rfl⟩⟩, ⟨y9_.1.trans lm_, ?_⟩⟩, ?_⟩
        · show _ = ((r_.2.1 (d_tp r_) : Nat) : Int); have y8_ := y9_.2; omega
        · exact (hFx107_.1 3 dd_ 0 rfl).trans us34_
      · exact (px108_.2.2.2).elim
  · have cx6_ : ¬ (0 ≤ (S0_.1 7 0 3) - 1) := of_decide_eq_false cx6_
    exfalso; omega
/-! ChipFlow.design -/
def vw_213n : sx_Wl := ([(1, 3), (1, 6), (1, 8), (1, 9), (1, 13), (3, 0), (3, 1), (3, 2), (3, 3), (3, 4), (3, 5), (3, 6), (3, 7), (3, 8), (3, 9), (7, 2), (7, 3), (7, 14), (7, 16), (7, 17), (10, 1), (10, 2), (10, 3), (10, 4), (10, 5), (10, 6), (10, 7), (10, 8), (12, 10)], [26, 27, 28, 29, 30, 31, 32, 33, 42, 43, 44, 45, 46, 47, 74, 75, 76, 77, 78, 79, 80, 81, 82, 83, 84], [(1, 1), (7, 11)])
def vq_213n (b_ : Nat → Int) (n_ : Nat) (S0_ : sm_S) (u_ : Option sm_V) (S1_ : sm_S) : Prop := ∃ v_ : Int, u_ = some (.inl v_) ∧ gi S1_ ∧ ai_fr (sx_W vw_213n) S0_ S1_ ∧ (∃ sl_ : Nat, sl_ < 6 ∧ S0_.1 3 sl_ 0 = 0 ∧ (∀ j_ : Nat, j_ < sl_ → S0_.1 3 j_ 0 = 1) ∧ (S1_.1 10 0 1) = 0 ∧ idf sl_ S0_ S1_ ∧ (((∃ r_ z_, dok b_ n_ r_ z_ ∧ dgx sl_ r_ z_ S1_ ∧ dcn sl_ r_ z_ S1_ ∧ S1_.1 3 sl_ 6 = (dnx r_).2 ∧ dcs sl_ (1 + d_I r_ + d_R r_) S1_ ∧ dct sl_ (1 + d_I r_ + d_R r_) S1_) ∧ S1_.1 3 sl_ 0 = 1 ∧ dOk sl_ S1_ ∧ v_ = (sl_ : Int) ∧ S1_.1 12 0 10 = 0) ∨ (¬ dacc b_ n_ ∧ S1_.1 3 sl_ 0 = 0 ∧ ∃ e_, dfe b_ n_ e_ ∧ v_ = -1 - (e_.2 : Int) ∧ S1_.1 12 0 10 = e_.1)))
def vx_213n (b_ : Nat → Int) (n_ : Nat) (S0_ : sm_S) (S1_ : sm_S) : Prop := gi S1_ ∧ ai_fr (sx_W vw_213n) S0_ S1_ ∧ ((∀ j_ : Nat, j_ < 6 → S0_.1 3 j_ 0 = 1) ∧ S1_ = S0_)
set_option maxHeartbeats 2000000 in
theorem vc_213n {sc_ : Nat × (Nat → Int)} (b_ : Nat → Int) (n_ : Nat) (S0_ : sm_S) (hI_ : gi S0_) (hb_ : S0_.2.2.1 98 0 = b_) (hn_ : (S0_.1 10 0 1) = (n_ : Int)) (hn1_ : n_ ≤ 1280) : sm_T (mt_P sc_) 28 213 (0, [some (.inr (.inr (some (12, 0)))), none, none, none], [], S0_) (fun ro9_ => (∃ u_ S1_ k9_, ro9_ = (.inl u_, S1_, k9_) ∧ k9_ ≤ 1 ∧ vq_213n b_ n_ S0_ u_ S1_) ∨ ∃ S1_, ro9_ = (.inr 3, S1_, 1) ∧ vx_213n b_ n_ S0_ S1_) := by
  have hF_ : ai_fr (sx_W vw_213n) S0_ S0_ := ai_fr_rf
  refine sm_T_go 1 (c1 := (1, [some (.inr (.inr (some (12, 0)))), none, none, none], [.inr (.inr (some (12, 0)))], S0_)) rfl ?_
  refine sm_T_cal (d1 := 0) (Q1 := vq_273  S0_) rfl rfl (by decide) (vc_273  S0_ hI_ ) (fun u_ Sx1_ px4_ => ?_)
  obtain ⟨rfl, vx6_, rfl, px4_⟩ := px4_
  obtain ⟨sl_, hsl_⟩ : ∃ sl_ : Nat, (vx6_ = -1 ∧ ∀ j_ : Nat, j_ < 6 → S0_.1 3 j_ 0 = 1) ∨ (vx6_ = (sl_ : Int) ∧ sl_ < 6 ∧ S0_.1 3 sl_ 0 = 0 ∧ ∀ j_ : Nat, j_ < sl_ → S0_.1 3 j_ 0 = 1) := by rcases px4_ with z_ | ⟨u_, z_⟩; exact ⟨0, Or.inl z_⟩; exact ⟨u_, Or.inr z_⟩
  clear px4_
  obtain ⟨sv_, hsv_⟩ : ∃ sv_, sv_ = vx6_ := ⟨_, rfl⟩
  rw [← hsv_] at hsl_
  refine sm_T_go 3 (c1 := (7, [some (.inr (.inr (some (12, 0)))), some (.inl vx6_), none, none], [.inl (-1), .inl vx6_], S0_)) rfl ?_
  refine sm_T_br (a := 0) (z := 7) rfl (fun cx7_ => ?_) (fun cx7_ => ?_)
  · have cx7_ : vx6_ = (-1) := of_decide_eq_true cx7_
    have ha0_ : ∀ j_ : Nat, j_ < 6 → S0_.1 3 j_ 0 = 1 := by rcases hsl_ with z_ | z_; exact z_.2; (exfalso; have := z_.1; omega)
    refine sm_T_go 1 (c1 := (15, [some (.inr (.inr (some (12, 0)))), some (.inl vx6_), none, none], [.inl 0], S0_)) rfl ?_
    refine sm_T_calg (d1_ := 0) (ex_ := 3) (Q1_ := vq_268 0 S0_) (Q2_ := vx_268 0 S0_) rfl rfl (by decide) (vc_268 0 S0_ hI_ ) rfl rfl (fun Sx8_ px11_ => ?_) (fun u_ Sx8_ px11_ => ?_)
    · obtain ⟨hIx9_, hFx10_, px11_⟩ := px11_
      refine Or.inr ⟨_, rfl, hIx9_, ai_fr_tr hF_ (fr_le hFx10_ rfl), ?_⟩
      obtain ⟨z1_, z2_⟩ := px11_
      first | (exact absurd z1_ (by decide)) | (exact ⟨ha0_, z2_⟩)
    obtain ⟨rfl, hIx9_, hFx10_, px11_⟩ := px11_
    have hFx12_ : ai_fr (sx_W vw_213n) S0_ Sx8_ := ai_fr_tr hF_ (fr_le hFx10_ rfl)
    have e15_ := px11_
    obtain ⟨hs1_, hs2_, hs3_, hs4_⟩ : sv_ = (sl_ : Int) ∧ sl_ < 6 ∧ S0_.1 3 sl_ 0 = 0 ∧ ∀ j_ : Nat, j_ < sl_ → S0_.1 3 j_ 0 = 1 := by first | (exact absurd rfl e15_) | (rcases hsl_ with z_ | z_; (exact absurd z_.1 nv_); exact z_)
    clear hsl_
    have hb15_ := (fr_arr (t := 98) (i := 0) hFx10_ rfl).trans hb_
    have hn15_ := (hFx10_.1 10 0 1 rfl).trans hn_
    have d15_ : idf sl_ S0_ Sx8_ := idf_fr hFx10_ (by decide) (by decide)
    have u15_ : Sx8_.1 3 sl_ 0 = S0_.1 3 sl_ 0 := hFx10_.1 3 sl_ 0 rfl
    have hIx13_ : gi (sm_pI Sx8_ 12 0 10 0) := gi_pI hIx9_ (show 0 ≤ 0 ∧ 0 ≤ 23 from ⟨by omega, by omega⟩)
    have hFx14_ : ai_fr (sx_W vw_213n) S0_ (sm_pI Sx8_ 12 0 10 0) := ai_fr_tr hFx12_ (ai_fr_pI rfl)
    refine sm_T_go 7 (c1 := (29, [some (.inr (.inr (some (12, 0)))), some (.inl vx6_), some (.inl vx6_), none], [.inr (.inr (some (7, 0)))], sm_pI Sx8_ 12 0 10 0)) rfl ?_
    refine sm_T_calh (d1_ := 7) (ex_ := 2) (Q1_ := vq_115 b_ n_ (sm_pI Sx8_ 12 0 10 0)) (Q2_ := vx_115 b_ n_ (sm_pI Sx8_ 12 0 10 0)) rfl rfl (by decide) (vc_115 b_ n_ (sm_pI Sx8_ 12 0 10 0) hIx13_ (by exact hb15_) (by exact hn15_) (by exact hn1_)) rfl rfl (Nat.le_of_ble_eq_true rfl) (fun Sx15_ px18_ => ?_) (fun u_ Sx15_ px18_ => ?_)
    · obtain ⟨hIx16_, hFx17_, px18_⟩ := px18_
      have hFx19_ : ai_fr (sx_W vw_213n) S0_ Sx15_ := ai_fr_tr hFx14_ (fr_le hFx17_ rfl)
      obtain ⟨e9_, w1_, te_⟩ := px18_
      have na_ := dacc_l w1_
      have de9_ : dfe b_ n_ e9_ := Or.inl w1_
      have dz_ : idf sl_ S0_ Sx15_ := idf_tr (idf_pI d15_ (Or.inl (by decide))) (idf_fr hFx17_ (by decide) (by decide))
      have uz_ : Sx15_.1 3 sl_ 0 = 0 := ((hFx17_.1 3 sl_ 0 rfl).trans (rf_nt (by decide))).trans (u15_.trans hs3_)
      refine sm_T_go 0 (c1 := (49, [some (.inr (.inr (some (12, 0)))), some (.inl vx6_), some (.inl vx6_), none], [], Sx15_)) rfl ?_
      have bx20_ : 0 ≤ Sx15_.1 10 0 6 ∧ Sx15_.1 10 0 6 ≤ 23 := hIx16_.1 10 0 6 rfl
      have hIx21_ : gi (sm_pI Sx15_ 12 0 10 (Sx15_.1 10 0 6)) := gi_pI hIx16_ (show 0 ≤ (Sx15_.1 10 0 6) ∧ (Sx15_.1 10 0 6) ≤ 23 from ⟨by omega, by omega⟩)
      have hFx22_ : ai_fr (sx_W vw_213n) S0_ (sm_pI Sx15_ 12 0 10 (Sx15_.1 10 0 6)) := ai_fr_tr hFx19_ (ai_fr_pI rfl)
      have bx23_ : 0 ≤ Sx15_.1 10 0 7 ∧ Sx15_.1 10 0 7 ≤ 4095 := hIx16_.1 10 0 7 rfl
      refine sm_T_go 9 (c1 := (68, [some (.inr (.inr (some (12, 0)))), some (.inl vx6_), some (.inl vx6_), none], [.inl (Sx15_.1 10 0 7), .inl (-1)], sm_pI Sx15_ 12 0 10 (Sx15_.1 10 0 6))) rfl ?_
      refine sm_T_bin (w := -(Sx15_.1 10 0 7) - 1) rfl (bi_sub (by omega) (by omega) (by omega)) ?_
      have hIx24_ : gi (sm_pI (sm_pI Sx15_ 12 0 10 (Sx15_.1 10 0 6)) 10 0 1 0) := gi_pI hIx21_ (show 0 ≤ 0 ∧ 0 ≤ 1280 from ⟨by omega, by omega⟩)
      have hFx25_ : ai_fr (sx_W vw_213n) S0_ (sm_pI (sm_pI Sx15_ 12 0 10 (Sx15_.1 10 0 6)) 10 0 1 0) := ai_fr_tr hFx22_ (ai_fr_pI rfl)
      refine sm_T_go 6 (c1 := (79, [some (.inr (.inr (some (12, 0)))), some (.inl vx6_), some (.inl (-(Sx15_.1 10 0 7) - 1)), none], [.inl (-(Sx15_.1 10 0 7) - 1)], sm_pI (sm_pI Sx15_ 12 0 10 (Sx15_.1 10 0 6)) 10 0 1 0)) rfl ?_
      refine sm_T_ri rfl (Or.inl ⟨_, _, _, rfl, Nat.le_of_ble_eq_true rfl, _, rfl, hIx24_, hFx25_, ?_⟩)
      first | (exact absurd rfl e15_) | (refine ⟨sl_, hs2_, hs3_, hs4_, rf_eq, idf_pI d42_ (Or.inl (by decide)), Or.inl ⟨⟨r9_, z9_, ac_, dgx_fr (w_ := ([(10, 1)], [], [])) x6_ (ai_fr_pI rfl) rfl rfl rfl rfl rfl rfl, dcn_fr (w_ := ([(10, 1)], [], [])) x7_ (ai_fr_pI rfl), (rf_nt (by decide)).trans x8_, dcs_fr (w_ := ([(10, 1)], [], [])) xs (ai_fr_pI rfl), dct_fr (w_ := ([(10, 1)], [], [])) xt_ (ai_fr_pI rfl)⟩, (rf_nt (by decide)).trans x4_, ?_, by omega, (rf_nt (by decide)).trans lf42_⟩⟩; obtain ⟨F9_, y1_, y2_, y3_, y4_, y5_⟩ := x5_; have fz_ : ai_fr (sx_W ([(10, 1)], [], [])) _ ((sm_pI (sm_pI Sx15_ 12 0 10 (Sx15_.1 10 0 6)) 10 0 1 0)) := ai_fr_pI rfl; refine ⟨F9_, dgr_fr y1_ fz_ rfl rfl rfl rfl rfl, drt_fr y2_ fz_ rfl rfl rfl rfl rfl, swp_fr y3_ fz_ rfl rfl rfl rfl, dtb_fr y4_ fz_ rfl rfl, ?_⟩; rw [fz_.1 3 sl_ 5 rfl, fz_.1 3 sl_ 6 rfl, fz_.1 3 sl_ 2 rfl]; exact y5_) | (refine ⟨sl_, hs2_, hs3_, hs4_, rf_eq, idf_pI (idf_pI dz_ (Or.inl (by decide))) (Or.inl (by decide)), Or.inr ⟨na_, ?_, e9_, de9_, ?_, ?_⟩⟩; exact (rf_nt (by decide)).trans ((rf_nt (by decide)).trans uz_); (have t9_ := te_.2; omega); exact (rf_nt (by decide)).trans (rf_eq.trans te_.1))
    obtain ⟨rfl, hIx16_, hFx17_, px18_⟩ := px18_
    have hFx19_ : ai_fr (sx_W vw_213n) S0_ Sx15_ := ai_fr_tr hFx14_ (fr_le hFx17_ rfl)
    obtain ⟨r9_, w1_, w2_, w3_, w4_⟩ := px18_
    have lf29_ : Sx15_.1 12 0 10 = 0 := (hFx17_.1 12 0 10 rfl).trans rf_eq
    have d29_ : idf sl_ S0_ Sx15_ := idf_tr (idf_pI d15_ (Or.inl (by decide))) (idf_fr hFx17_ (by decide) (by decide))
    have u29_ : Sx15_.1 3 sl_ 0 = 0 := ((hFx17_.1 3 sl_ 0 rfl).trans (rf_nt (by decide))).trans (u15_.trans hs3_)
    refine sm_T_go 5 (c1 := (41, [some (.inr (.inr (some (12, 0)))), some (.inl vx6_), some (.inl vx6_), none], [.inl vx6_, .inr (.inr (some (110, 0))), .inr (.inr (some (1, 0)))], Sx15_)) rfl ?_
    refine sm_T_aald (t0 := 4) (n := 6) rfl rfl (by omega) (by omega) ?_
    refine sm_T_calh (d1_ := 27) (ex_ := 2) (Q1_ := vq_31n b_ n_ r9_ (vx6_.toNat) Sx15_) (Q2_ := vx_31n b_ n_ r9_ (vx6_.toNat) Sx15_) rfl rfl (by decide) (vc_31n b_ n_ r9_ (vx6_.toNat) Sx15_ hIx16_ (by exact w1_) (by exact w2_) (by exact w3_) (by exact w4_) (by exact hn1_)) rfl rfl (Nat.le_of_ble_eq_true rfl) (fun Sx26_ px29_ => ?_) (fun u_ Sx26_ px29_ => ?_)
    · obtain ⟨hIx27_, hFx28_, px29_⟩ := px29_
      have hFx30_ : ai_fr (sx_W vw_213n) S0_ Sx26_ := ai_fr_tr hFx19_ (fr_le hFx28_ rfl)
      obtain ⟨q1_, ⟨e9_, q2_, te_⟩, q3_⟩ := px29_
      rw [← hsv_, hs1_, Int.toNat_natCast] at q1_ q3_
      have na_ := dfl_na w1_ q2_
      have de9_ : dfe b_ n_ e9_ := Or.inr ⟨r9_, w1_, q2_⟩
      have dz_ : idf sl_ S0_ Sx26_ := idf_tr d29_ q1_
      have uz_ : Sx26_.1 3 sl_ 0 = 0 := q3_.trans u29_
      refine sm_T_go 0 (c1 := (49, [some (.inr (.inr (some (12, 0)))), some (.inl vx6_), some (.inl vx6_), none], [], Sx26_)) rfl ?_
      have bx31_ : 0 ≤ Sx26_.1 10 0 6 ∧ Sx26_.1 10 0 6 ≤ 23 := hIx27_.1 10 0 6 rfl
      have hIx32_ : gi (sm_pI Sx26_ 12 0 10 (Sx26_.1 10 0 6)) := gi_pI hIx27_ (show 0 ≤ (Sx26_.1 10 0 6) ∧ (Sx26_.1 10 0 6) ≤ 23 from ⟨by omega, by omega⟩)
      have hFx33_ : ai_fr (sx_W vw_213n) S0_ (sm_pI Sx26_ 12 0 10 (Sx26_.1 10 0 6)) := ai_fr_tr hFx30_ (ai_fr_pI rfl)
      have bx34_ : 0 ≤ Sx26_.1 10 0 7 ∧ Sx26_.1 10 0 7 ≤ 4095 := hIx27_.1 10 0 7 rfl
      refine sm_T_go 9 (c1 := (68, [some (.inr (.inr (some (12, 0)))), some (.inl vx6_), some (.inl vx6_), none], [.inl (Sx26_.1 10 0 7), .inl (-1)], sm_pI Sx26_ 12 0 10 (Sx26_.1 10 0 6))) rfl ?_
      refine sm_T_bin (w := -(Sx26_.1 10 0 7) - 1) rfl (bi_sub (by omega) (by omega) (by omega)) ?_
      have hIx35_ : gi (sm_pI (sm_pI Sx26_ 12 0 10 (Sx26_.1 10 0 6)) 10 0 1 0) := gi_pI hIx32_ (show 0 ≤ 0 ∧ 0 ≤ 1280 from ⟨by omega, by omega⟩)
      have hFx36_ : ai_fr (sx_W vw_213n) S0_ (sm_pI (sm_pI Sx26_ 12 0 10 (Sx26_.1 10 0 6)) 10 0 1 0) := ai_fr_tr hFx33_ (ai_fr_pI rfl)
      refine sm_T_go 6 (c1 := (79, [some (.inr (.inr (some (12, 0)))), some (.inl vx6_), some (.inl (-(Sx26_.1 10 0 7) - 1)), none], [.inl (-(Sx26_.1 10 0 7) - 1)], sm_pI (sm_pI Sx26_ 12 0 10 (Sx26_.1 10 0 6)) 10 0 1 0)) rfl ?_
      refine sm_T_ri rfl (Or.inl ⟨_, _, _, rfl, Nat.le_of_ble_eq_true rfl, _, rfl, hIx35_, hFx36_, ?_⟩)
      first | (exact absurd rfl e15_) | (refine ⟨sl_, hs2_, hs3_, hs4_, rf_eq, idf_pI d42_ (Or.inl (by decide)), Or.inl ⟨⟨r9_, z9_, ac_, dgx_fr (w_ := ([(10, 1)], [], [])) x6_ (ai_fr_pI rfl) rfl rfl rfl rfl rfl rfl, dcn_fr (w_ := ([(10, 1)], [], [])) x7_ (ai_fr_pI rfl), (rf_nt (by decide)).trans x8_, dcs_fr (w_ := ([(10, 1)], [], [])) xs (ai_fr_pI rfl), dct_fr (w_ := ([(10, 1)], [], [])) xt_ (ai_fr_pI rfl)⟩, (rf_nt (by decide)).trans x4_, ?_, by omega, (rf_nt (by decide)).trans lf42_⟩⟩; obtain ⟨F9_, y1_, y2_, y3_, y4_, y5_⟩ := x5_; have fz_ : ai_fr (sx_W ([(10, 1)], [], [])) _ ((sm_pI (sm_pI Sx26_ 12 0 10 (Sx26_.1 10 0 6)) 10 0 1 0)) := ai_fr_pI rfl; refine ⟨F9_, dgr_fr y1_ fz_ rfl rfl rfl rfl rfl, drt_fr y2_ fz_ rfl rfl rfl rfl rfl, swp_fr y3_ fz_ rfl rfl rfl rfl, dtb_fr y4_ fz_ rfl rfl, ?_⟩; rw [fz_.1 3 sl_ 5 rfl, fz_.1 3 sl_ 6 rfl, fz_.1 3 sl_ 2 rfl]; exact y5_) | (refine ⟨sl_, hs2_, hs3_, hs4_, rf_eq, idf_pI (idf_pI dz_ (Or.inl (by decide))) (Or.inl (by decide)), Or.inr ⟨na_, ?_, e9_, de9_, ?_, ?_⟩⟩; exact (rf_nt (by decide)).trans ((rf_nt (by decide)).trans uz_); (have t9_ := te_.2; omega); exact (rf_nt (by decide)).trans (rf_eq.trans te_.1))
    obtain ⟨rfl, hIx27_, hFx28_, px29_⟩ := px29_
    have hFx30_ : ai_fr (sx_W vw_213n) S0_ Sx26_ := ai_fr_tr hFx19_ (fr_le hFx28_ rfl)
    obtain ⟨dx37_, px29_⟩ := px29_
    have e42_ := px29_
    have k42_ := dx37_
    rw [← hsv_, hs1_, Int.toNat_natCast] at e42_ k42_
    have lf42_ : Sx26_.1 12 0 10 = 0 := (hFx28_.1 12 0 10 rfl).trans lf29_
    have d42_ : idf sl_ S0_ Sx26_ := idf_tr d29_ k42_
    obtain ⟨x1_, ⟨z9_, x2_, x3_, x6_, x7_, x8_, xs, xt_⟩, x4_, x5_⟩ := e42_
    have ac_ : dok b_ n_ r9_ z9_ := ⟨w1_, x1_, x2_, x3_⟩
    have hIx38_ : gi (sm_pI Sx26_ 10 0 1 0) := gi_pI hIx27_ (show 0 ≤ 0 ∧ 0 ≤ 1280 from ⟨by omega, by omega⟩)
    have hFx39_ : ai_fr (sx_W vw_213n) S0_ (sm_pI Sx26_ 10 0 1 0) := ai_fr_tr hFx30_ (ai_fr_pI rfl)
    refine sm_T_go 6 (c1 := (79, [some (.inr (.inr (some (12, 0)))), some (.inl vx6_), some (.inl vx6_), none], [.inl vx6_], sm_pI Sx26_ 10 0 1 0)) rfl ?_
    refine sm_T_ri rfl (Or.inl ⟨_, _, _, rfl, Nat.le_of_ble_eq_true rfl, _, rfl, hIx38_, hFx39_, ?_⟩)
    first | (exact absurd rfl e15_) | (refine ⟨sl_, hs2_, hs3_, hs4_, rf_eq, idf_pI d42_ (Or.inl (by decide)), Or.inl ⟨⟨r9_, z9_, ac_, dgx_fr (w_ := ([(10, 1)], [], [])) x6_ (ai_fr_pI rfl) rfl rfl rfl rfl rfl rfl, dcn_fr (w_ := ([(10, 1)], [], [])) x7_ (ai_fr_pI rfl), (rf_nt (by decide)).trans x8_, dcs_fr (w_ := ([(10, 1)], [], [])) xs (ai_fr_pI rfl), dct_fr (w_ := ([(10, 1)], [], [])) xt_ (ai_fr_pI rfl)⟩, (rf_nt (by decide)).trans x4_, ?_, by omega, (rf_nt (by decide)).trans lf42_⟩⟩; obtain ⟨F9_, y1_, y2_, y3_, y4_, y5_⟩ := x5_; have fz_ : ai_fr (sx_W ([(10, 1)], [], [])) _ ((sm_pI Sx26_ 10 0 1 0)) := ai_fr_pI rfl; refine ⟨F9_, dgr_fr y1_ fz_ rfl rfl rfl rfl rfl, drt_fr y2_ fz_ rfl rfl rfl rfl rfl, swp_fr y3_ fz_ rfl rfl rfl rfl, dtb_fr y4_ fz_ rfl rfl, ?_⟩; rw [fz_.1 3 sl_ 5 rfl, fz_.1 3 sl_ 6 rfl, fz_.1 3 sl_ 2 rfl]; exact y5_) | (refine ⟨sl_, hs2_, hs3_, hs4_, rf_eq, idf_pI (idf_pI dz_ (Or.inl (by decide))) (Or.inl (by decide)), Or.inr ⟨na_, ?_, e9_, de9_, ?_, ?_⟩⟩; exact (rf_nt (by decide)).trans ((rf_nt (by decide)).trans uz_); (have t9_ := te_.2; omega); exact (rf_nt (by decide)).trans (rf_eq.trans te_.1))
  · have cx7_ : ¬ (vx6_ = (-1)) := of_decide_eq_false cx7_
    have nv_ := cx7_
    rw [← hsv_] at nv_
    refine sm_T_go 2 (c1 := (15, [some (.inr (.inr (some (12, 0)))), some (.inl vx6_), none, none], [.inl 1], S0_)) rfl ?_
    refine sm_T_calg (d1_ := 0) (ex_ := 3) (Q1_ := vq_268 1 S0_) (Q2_ := vx_268 1 S0_) rfl rfl (by decide) (vc_268 1 S0_ hI_ ) rfl rfl (fun Sx40_ px43_ => ?_) (fun u_ Sx40_ px43_ => ?_)
    · obtain ⟨hIx41_, hFx42_, px43_⟩ := px43_
      refine Or.inr ⟨_, rfl, hIx41_, ai_fr_tr hF_ (fr_le hFx42_ rfl), ?_⟩
      obtain ⟨z1_, z2_⟩ := px43_
      first | (exact absurd z1_ (by decide)) | (exact ⟨ha0_, z2_⟩)
    obtain ⟨rfl, hIx41_, hFx42_, px43_⟩ := px43_
    have hFx44_ : ai_fr (sx_W vw_213n) S0_ Sx40_ := ai_fr_tr hF_ (fr_le hFx42_ rfl)
    have e15_ := px43_
    obtain ⟨hs1_, hs2_, hs3_, hs4_⟩ : sv_ = (sl_ : Int) ∧ sl_ < 6 ∧ S0_.1 3 sl_ 0 = 0 ∧ ∀ j_ : Nat, j_ < sl_ → S0_.1 3 j_ 0 = 1 := by first | (exact absurd rfl e15_) | (rcases hsl_ with z_ | z_; (exact absurd z_.1 nv_); exact z_)
    clear hsl_
    have hb15_ := (fr_arr (t := 98) (i := 0) hFx42_ rfl).trans hb_
    have hn15_ := (hFx42_.1 10 0 1 rfl).trans hn_
    have d15_ : idf sl_ S0_ Sx40_ := idf_fr hFx42_ (by decide) (by decide)
    have u15_ : Sx40_.1 3 sl_ 0 = S0_.1 3 sl_ 0 := hFx42_.1 3 sl_ 0 rfl
    have hIx45_ : gi (sm_pI Sx40_ 12 0 10 0) := gi_pI hIx41_ (show 0 ≤ 0 ∧ 0 ≤ 23 from ⟨by omega, by omega⟩)
    have hFx46_ : ai_fr (sx_W vw_213n) S0_ (sm_pI Sx40_ 12 0 10 0) := ai_fr_tr hFx44_ (ai_fr_pI rfl)
    refine sm_T_go 7 (c1 := (29, [some (.inr (.inr (some (12, 0)))), some (.inl vx6_), some (.inl vx6_), none], [.inr (.inr (some (7, 0)))], sm_pI Sx40_ 12 0 10 0)) rfl ?_
    refine sm_T_calh (d1_ := 7) (ex_ := 2) (Q1_ := vq_115 b_ n_ (sm_pI Sx40_ 12 0 10 0)) (Q2_ := vx_115 b_ n_ (sm_pI Sx40_ 12 0 10 0)) rfl rfl (by decide) (vc_115 b_ n_ (sm_pI Sx40_ 12 0 10 0) hIx45_ (by exact hb15_) (by exact hn15_) (by exact hn1_)) rfl rfl (Nat.le_of_ble_eq_true rfl) (fun Sx47_ px50_ => ?_) (fun u_ Sx47_ px50_ => ?_)
    · obtain ⟨hIx48_, hFx49_, px50_⟩ := px50_
      have hFx51_ : ai_fr (sx_W vw_213n) S0_ Sx47_ := ai_fr_tr hFx46_ (fr_le hFx49_ rfl)
      obtain ⟨e9_, w1_, te_⟩ := px50_
      have na_ := dacc_l w1_
      have de9_ : dfe b_ n_ e9_ := Or.inl w1_
      have dz_ : idf sl_ S0_ Sx47_ := idf_tr (idf_pI d15_ (Or.inl (by decide))) (idf_fr hFx49_ (by decide) (by decide))
      have uz_ : Sx47_.1 3 sl_ 0 = 0 := ((hFx49_.1 3 sl_ 0 rfl).trans (rf_nt (by decide))).trans (u15_.trans hs3_)
      refine sm_T_go 0 (c1 := (49, [some (.inr (.inr (some (12, 0)))), some (.inl vx6_), some (.inl vx6_), none], [], Sx47_)) rfl ?_
      have bx52_ : 0 ≤ Sx47_.1 10 0 6 ∧ Sx47_.1 10 0 6 ≤ 23 := hIx48_.1 10 0 6 rfl
      have hIx53_ : gi (sm_pI Sx47_ 12 0 10 (Sx47_.1 10 0 6)) := gi_pI hIx48_ (show 0 ≤ (Sx47_.1 10 0 6) ∧ (Sx47_.1 10 0 6) ≤ 23 from ⟨by omega, by omega⟩)
      have hFx54_ : ai_fr (sx_W vw_213n) S0_ (sm_pI Sx47_ 12 0 10 (Sx47_.1 10 0 6)) := ai_fr_tr hFx51_ (ai_fr_pI rfl)
      have bx55_ : 0 ≤ Sx47_.1 10 0 7 ∧ Sx47_.1 10 0 7 ≤ 4095 := hIx48_.1 10 0 7 rfl
      refine sm_T_go 9 (c1 := (68, [some (.inr (.inr (some (12, 0)))), some (.inl vx6_), some (.inl vx6_), none], [.inl (Sx47_.1 10 0 7), .inl (-1)], sm_pI Sx47_ 12 0 10 (Sx47_.1 10 0 6))) rfl ?_
      refine sm_T_bin (w := -(Sx47_.1 10 0 7) - 1) rfl (bi_sub (by omega) (by omega) (by omega)) ?_
      have hIx56_ : gi (sm_pI (sm_pI Sx47_ 12 0 10 (Sx47_.1 10 0 6)) 10 0 1 0) := gi_pI hIx53_ (show 0 ≤ 0 ∧ 0 ≤ 1280 from ⟨by omega, by omega⟩)
      have hFx57_ : ai_fr (sx_W vw_213n) S0_ (sm_pI (sm_pI Sx47_ 12 0 10 (Sx47_.1 10 0 6)) 10 0 1 0) := ai_fr_tr hFx54_ (ai_fr_pI rfl)
      refine sm_T_go 6 (c1 := (79, [some (.inr (.inr (some (12, 0)))), some (.inl vx6_), some (.inl (-(Sx47_.1 10 0 7) - 1)), none], [.inl (-(Sx47_.1 10 0 7) - 1)], sm_pI (sm_pI Sx47_ 12 0 10 (Sx47_.1 10 0 6)) 10 0 1 0)) rfl ?_
      refine sm_T_ri rfl (Or.inl ⟨_, _, _, rfl, Nat.le_of_ble_eq_true rfl, _, rfl, hIx56_, hFx57_, ?_⟩)
      first | (exact absurd rfl e15_) | (refine ⟨sl_, hs2_, hs3_, hs4_, rf_eq, idf_pI d42_ (Or.inl (by decide)), Or.inl ⟨⟨r9_, z9_, ac_, dgx_fr (w_ := ([(10, 1)], [], [])) x6_ (ai_fr_pI rfl) rfl rfl rfl rfl rfl rfl, dcn_fr (w_ := ([(10, 1)], [], [])) x7_ (ai_fr_pI rfl), (rf_nt (by decide)).trans x8_, dcs_fr (w_ := ([(10, 1)], [], [])) xs (ai_fr_pI rfl), dct_fr (w_ := ([(10, 1)], [], [])) xt_ (ai_fr_pI rfl)⟩, (rf_nt (by decide)).trans x4_, ?_, by omega, (rf_nt (by decide)).trans lf42_⟩⟩; obtain ⟨F9_, y1_, y2_, y3_, y4_, y5_⟩ := x5_; have fz_ : ai_fr (sx_W ([(10, 1)], [], [])) _ ((sm_pI (sm_pI Sx47_ 12 0 10 (Sx47_.1 10 0 6)) 10 0 1 0)) := ai_fr_pI rfl; refine ⟨F9_, dgr_fr y1_ fz_ rfl rfl rfl rfl rfl, drt_fr y2_ fz_ rfl rfl rfl rfl rfl, swp_fr y3_ fz_ rfl rfl rfl rfl, dtb_fr y4_ fz_ rfl rfl, ?_⟩; rw [fz_.1 3 sl_ 5 rfl, fz_.1 3 sl_ 6 rfl, fz_.1 3 sl_ 2 rfl]; exact y5_) | (refine ⟨sl_, hs2_, hs3_, hs4_, rf_eq, idf_pI (idf_pI dz_ (Or.inl (by decide))) (Or.inl (by decide)), Or.inr ⟨na_, ?_, e9_, de9_, ?_, ?_⟩⟩; exact (rf_nt (by decide)).trans ((rf_nt (by decide)).trans uz_); (have t9_ := te_.2; omega); exact (rf_nt (by decide)).trans (rf_eq.trans te_.1))
    obtain ⟨rfl, hIx48_, hFx49_, px50_⟩ := px50_
    have hFx51_ : ai_fr (sx_W vw_213n) S0_ Sx47_ := ai_fr_tr hFx46_ (fr_le hFx49_ rfl)
    obtain ⟨r9_, w1_, w2_, w3_, w4_⟩ := px50_
    have lf29_ : Sx47_.1 12 0 10 = 0 := (hFx49_.1 12 0 10 rfl).trans rf_eq
    have d29_ : idf sl_ S0_ Sx47_ := idf_tr (idf_pI d15_ (Or.inl (by decide))) (idf_fr hFx49_ (by decide) (by decide))
    have u29_ : Sx47_.1 3 sl_ 0 = 0 := ((hFx49_.1 3 sl_ 0 rfl).trans (rf_nt (by decide))).trans (u15_.trans hs3_)
    refine sm_T_go 5 (c1 := (41, [some (.inr (.inr (some (12, 0)))), some (.inl vx6_), some (.inl vx6_), none], [.inl vx6_, .inr (.inr (some (110, 0))), .inr (.inr (some (1, 0)))], Sx47_)) rfl ?_
    refine sm_T_aald (t0 := 4) (n := 6) rfl rfl (by omega) (by omega) ?_
    refine sm_T_calh (d1_ := 27) (ex_ := 2) (Q1_ := vq_31n b_ n_ r9_ (vx6_.toNat) Sx47_) (Q2_ := vx_31n b_ n_ r9_ (vx6_.toNat) Sx47_) rfl rfl (by decide) (vc_31n b_ n_ r9_ (vx6_.toNat) Sx47_ hIx48_ (by exact w1_) (by exact w2_) (by exact w3_) (by exact w4_) (by exact hn1_)) rfl rfl (Nat.le_of_ble_eq_true rfl) (fun Sx58_ px61_ => ?_) (fun u_ Sx58_ px61_ => ?_)
    · obtain ⟨hIx59_, hFx60_, px61_⟩ := px61_
      have hFx62_ : ai_fr (sx_W vw_213n) S0_ Sx58_ := ai_fr_tr hFx51_ (fr_le hFx60_ rfl)
      obtain ⟨q1_, ⟨e9_, q2_, te_⟩, q3_⟩ := px61_
      rw [← hsv_, hs1_, Int.toNat_natCast] at q1_ q3_
      have na_ := dfl_na w1_ q2_
      have de9_ : dfe b_ n_ e9_ := Or.inr ⟨r9_, w1_, q2_⟩
      have dz_ : idf sl_ S0_ Sx58_ := idf_tr d29_ q1_
      have uz_ : Sx58_.1 3 sl_ 0 = 0 := q3_.trans u29_
      refine sm_T_go 0 (c1 := (49, [some (.inr (.inr (some (12, 0)))), some (.inl vx6_), some (.inl vx6_), none], [], Sx58_)) rfl ?_
      have bx63_ : 0 ≤ Sx58_.1 10 0 6 ∧ Sx58_.1 10 0 6 ≤ 23 := hIx59_.1 10 0 6 rfl
      have hIx64_ : gi (sm_pI Sx58_ 12 0 10 (Sx58_.1 10 0 6)) := gi_pI hIx59_ (show 0 ≤ (Sx58_.1 10 0 6) ∧ (Sx58_.1 10 0 6) ≤ 23 from ⟨by omega, by omega⟩)
      have hFx65_ : ai_fr (sx_W vw_213n) S0_ (sm_pI Sx58_ 12 0 10 (Sx58_.1 10 0 6)) := ai_fr_tr hFx62_ (ai_fr_pI rfl)
      have bx66_ : 0 ≤ Sx58_.1 10 0 7 ∧ Sx58_.1 10 0 7 ≤ 4095 := hIx59_.1 10 0 7 rfl
      refine sm_T_go 9 (c1 := (68, [some (.inr (.inr (some (12, 0)))), some (.inl vx6_), some (.inl vx6_), none], [.inl (Sx58_.1 10 0 7), .inl (-1)], sm_pI Sx58_ 12 0 10 (Sx58_.1 10 0 6))) rfl ?_
      refine sm_T_bin (w := -(Sx58_.1 10 0 7) - 1) rfl (bi_sub (by omega) (by omega) (by omega)) ?_
      have hIx67_ : gi (sm_pI (sm_pI Sx58_ 12 0 10 (Sx58_.1 10 0 6)) 10 0 1 0) := gi_pI hIx64_ (show 0 ≤ 0 ∧ 0 ≤ 1280 from ⟨by omega, by omega⟩)
      have hFx68_ : ai_fr (sx_W vw_213n) S0_ (sm_pI (sm_pI Sx58_ 12 0 10 (Sx58_.1 10 0 6)) 10 0 1 0) := ai_fr_tr hFx65_ (ai_fr_pI rfl)
      refine sm_T_go 6 (c1 := (79, [some (.inr (.inr (some (12, 0)))), some (.inl vx6_), some (.inl (-(Sx58_.1 10 0 7) - 1)), none], [.inl (-(Sx58_.1 10 0 7) - 1)], sm_pI (sm_pI Sx58_ 12 0 10 (Sx58_.1 10 0 6)) 10 0 1 0)) rfl ?_
      refine sm_T_ri rfl (Or.inl ⟨_, _, _, rfl, Nat.le_of_ble_eq_true rfl, _, rfl, hIx67_, hFx68_, ?_⟩)
      first | (exact absurd rfl e15_) | (refine ⟨sl_, hs2_, hs3_, hs4_, rf_eq, idf_pI d42_ (Or.inl (by decide)), Or.inl ⟨⟨r9_, z9_, ac_, dgx_fr (w_ := ([(10, 1)], [], [])) x6_ (ai_fr_pI rfl) rfl rfl rfl rfl rfl rfl, dcn_fr (w_ := ([(10, 1)], [], [])) x7_ (ai_fr_pI rfl), (rf_nt (by decide)).trans x8_, dcs_fr (w_ := ([(10, 1)], [], [])) xs (ai_fr_pI rfl), dct_fr (w_ := ([(10, 1)], [], [])) xt_ (ai_fr_pI rfl)⟩, (rf_nt (by decide)).trans x4_, ?_, by omega, (rf_nt (by decide)).trans lf42_⟩⟩; obtain ⟨F9_, y1_, y2_, y3_, y4_, y5_⟩ := x5_; have fz_ : ai_fr (sx_W ([(10, 1)], [], [])) _ ((sm_pI (sm_pI Sx58_ 12 0 10 (Sx58_.1 10 0 6)) 10 0 1 0)) := ai_fr_pI rfl; refine ⟨F9_, dgr_fr y1_ fz_ rfl rfl rfl rfl rfl, drt_fr y2_ fz_ rfl rfl rfl rfl rfl, swp_fr y3_ fz_ rfl rfl rfl rfl, dtb_fr y4_ fz_ rfl rfl, ?_⟩; rw [fz_.1 3 sl_ 5 rfl, fz_.1 3 sl_ 6 rfl, fz_.1 3 sl_ 2 rfl]; exact y5_) | (refine ⟨sl_, hs2_, hs3_, hs4_, rf_eq, idf_pI (idf_pI dz_ (Or.inl (by decide))) (Or.inl (by decide)), Or.inr ⟨na_, ?_, e9_, de9_, ?_, ?_⟩⟩; exact (rf_nt (by decide)).trans ((rf_nt (by decide)).trans uz_); (have t9_ := te_.2; omega); exact (rf_nt (by decide)).trans (rf_eq.trans te_.1))
    obtain ⟨rfl, hIx59_, hFx60_, px61_⟩ := px61_
    have hFx62_ : ai_fr (sx_W vw_213n) S0_ Sx58_ := ai_fr_tr hFx51_ (fr_le hFx60_ rfl)
    obtain ⟨dx69_, px61_⟩ := px61_
    have e42_ := px61_
    have k42_ := dx69_
    rw [← hsv_, hs1_, Int.toNat_natCast] at e42_ k42_
    have lf42_ : Sx58_.1 12 0 10 = 0 := (hFx60_.1 12 0 10 rfl).trans lf29_
    have d42_ : idf sl_ S0_ Sx58_ := idf_tr d29_ k42_
    obtain ⟨x1_, ⟨z9_, x2_, x3_, x6_, x7_, x8_, xs, xt_⟩, x4_, x5_⟩ := e42_
    have ac_ : dok b_ n_ r9_ z9_ := ⟨w1_, x1_, x2_, x3_⟩
    have hIx70_ : gi (sm_pI Sx58_ 10 0 1 0) := gi_pI hIx59_ (show 0 ≤ 0 ∧ 0 ≤ 1280 from ⟨by omega, by omega⟩)
    have hFx71_ : ai_fr (sx_W vw_213n) S0_ (sm_pI Sx58_ 10 0 1 0) := ai_fr_tr hFx62_ (ai_fr_pI rfl)
    refine sm_T_go 6 (c1 := (79, [some (.inr (.inr (some (12, 0)))), some (.inl vx6_), some (.inl vx6_), none], [.inl vx6_], sm_pI Sx58_ 10 0 1 0)) rfl ?_
    refine sm_T_ri rfl (Or.inl ⟨_, _, _, rfl, Nat.le_of_ble_eq_true rfl, _, rfl, hIx70_, hFx71_, ?_⟩)
    first | (exact absurd rfl e15_) | (refine ⟨sl_, hs2_, hs3_, hs4_, rf_eq, idf_pI d42_ (Or.inl (by decide)), Or.inl ⟨⟨r9_, z9_, ac_, dgx_fr (w_ := ([(10, 1)], [], [])) x6_ (ai_fr_pI rfl) rfl rfl rfl rfl rfl rfl, dcn_fr (w_ := ([(10, 1)], [], [])) x7_ (ai_fr_pI rfl), (rf_nt (by decide)).trans x8_, dcs_fr (w_ := ([(10, 1)], [], [])) xs (ai_fr_pI rfl), dct_fr (w_ := ([(10, 1)], [], [])) xt_ (ai_fr_pI rfl)⟩, (rf_nt (by decide)).trans x4_, ?_, by omega, (rf_nt (by decide)).trans lf42_⟩⟩; obtain ⟨F9_, y1_, y2_, y3_, y4_, y5_⟩ := x5_; have fz_ : ai_fr (sx_W ([(10, 1)], [], [])) _ ((sm_pI Sx58_ 10 0 1 0)) := ai_fr_pI rfl; refine ⟨F9_, dgr_fr y1_ fz_ rfl rfl rfl rfl rfl, drt_fr y2_ fz_ rfl rfl rfl rfl rfl, swp_fr y3_ fz_ rfl rfl rfl rfl, dtb_fr y4_ fz_ rfl rfl, ?_⟩; rw [fz_.1 3 sl_ 5 rfl, fz_.1 3 sl_ 6 rfl, fz_.1 3 sl_ 2 rfl]; exact y5_) | (refine ⟨sl_, hs2_, hs3_, hs4_, rf_eq, idf_pI (idf_pI dz_ (Or.inl (by decide))) (Or.inl (by decide)), Or.inr ⟨na_, ?_, e9_, de9_, ?_, ?_⟩⟩; exact (rf_nt (by decide)).trans ((rf_nt (by decide)).trans uz_); (have t9_ := te_.2; omega); exact (rf_nt (by decide)).trans (rf_eq.trans te_.1))
end
