/-! Board.measureAll -/
def vw_22 : sx_Wl := ([(0, 11), (0, 16), (4, 0)], [21], [])
def vq_22 (ii_ : Nat) (cc_ : Nat) (S0_ : sm_S) (u_ : Option sm_V) (S1_ : sm_S) : Prop := u_ = none ∧ gi S1_ ∧ ai_fr (sx_W vw_22) S0_ S1_ ∧ (cdf ii_ S0_ S1_ ∧ (S1_.1 0 ii_ 11 = 0 ∧ S1_.1 4 (0 + ii_) 0 = 0))
set_option maxHeartbeats 400000 in
theorem vl_22 {sc_ : Nat × (Nat → Int)} (ii_ : Nat) (cc_ : Nat) (S0_ : sm_S) (hb_ : bpn ii_ S0_) (hs_ : S0_.1 2 cc_ 1 + S0_.1 2 cc_ 2 ≤ 12) : ∀ nn_ : Nat, (∀ (k_ : Int) (S_ : sm_S), gi S_ → ai_fr (sx_W vw_22) S0_ S_ → ((0 ≤ k_ ∧ k_ ≤ 162) ∧ (cdf ii_ S0_ S_) ∧ True) → ((1000 - k_).toNat) < nn_ → sm_T (mt_P sc_) 2 22 (2, [some (.inr (.inr (some (0, ii_)))), some (.inr (.inr (some (2, cc_)))), some (.inl k_)], [], S_) (fun ro9_ => ∃ u_ S1_, ro9_ = (.inl u_, S1_, 0) ∧ vq_22 ii_ cc_ S0_ u_ S1_)) := by
  intro nn_
  induction nn_ with
  | zero => exact fun _ _ _ _ _ h_ => absurd h_ (Nat.not_lt_zero _)
  | succ nn_ ih_ =>
    rintro k_ S_ hI_ hF_ ⟨h0_, hC_, -⟩ hm_
    have e1_ : S_.1 2 cc_ 1 = S0_.1 2 cc_ 1 := hF_.1 2 cc_ 1 rfl
    have e2_ : S_.1 2 cc_ 2 = S0_.1 2 cc_ 2 := hF_.1 2 cc_ 2 rfl
    have c8_ : 0 ≤ S_.1 2 cc_ 8 ∧ S_.1 2 cc_ 8 ≤ 150 := hI_.1 2 cc_ 8 rfl
    refine sm_T_go 2 (c1 := (4, [some (.inr (.inr (some (0, ii_)))), some (.inr (.inr (some (2, cc_)))), some (.inl k_)], [.inr (.inr (some (2, cc_))), .inl k_], S_)) rfl ?_
    refine sm_T_cal (d1 := 0) (Q1 := vq_55 cc_ S_) rfl rfl (by decide) (vc_55 cc_ S_ hI_ ) (fun u_ Sx1_ px4_ => ?_)
    obtain ⟨rfl, vx6_, rfl, px4_⟩ := px4_
    have n9_ := px4_
    refine sm_T_br (a := 3) (z := 20) rfl (fun cx7_ => ?_) (fun cx7_ => ?_)
    · have cx7_ : vx6_ ≤ k_ := of_decide_eq_true cx7_
      refine sm_T_go 1 (c1 := (28, [some (.inr (.inr (some (0, ii_)))), some (.inr (.inr (some (2, cc_)))), some (.inl k_)], [.inr (.inr (some (0, ii_)))], S_)) rfl ?_
      refine sm_T_cal (d1 := 0) (Q1 := vq_15 ii_ S_) rfl rfl (by decide) (vc_15 ii_ S_ hI_ ) (fun u_ Sx8_ px11_ => ?_)
      obtain ⟨rfl, hIx9_, hFx10_, px11_⟩ := px11_
      have hFx12_ : ai_fr (sx_W vw_22) S0_ Sx8_ := ai_fr_tr hF_ (fr_le hFx10_ rfl)
      obtain ⟨dx14_, px11_⟩ := px11_
      have hCx13_ : cdf ii_ S0_ Sx8_ := cdf_tr hC_ (cdf_cg (by omega) dx14_)
      have l9_ := px11_
      have bx15_ : (-2147483648) ≤ Sx8_.1 0 ii_ 16 ∧ Sx8_.1 0 ii_ 16 ≤ 2147483647 := hIx9_.1 0 ii_ 16 rfl
      refine sm_T_go 4 (c1 := (37, [some (.inr (.inr (some (0, ii_)))), some (.inr (.inr (some (2, cc_)))), some (.inl k_)], [.inl 1, .inl (Sx8_.1 0 ii_ 16), .inr (.inr (some (0, ii_)))], Sx8_)) rfl ?_
      refine sm_T_bin (w := (i_add (Sx8_.1 0 ii_ 16) 1)) rfl rfl ?_ -- pc_ 37
      have bx16_ := i_add_r (Sx8_.1 0 ii_ 16) 1
      have hIx17_ : gi (sm_pI Sx8_ 0 ii_ 16 (i_add (Sx8_.1 0 ii_ 16) 1)) := gi_pI hIx9_ (show (-2147483648) ≤ (i_add (Sx8_.1 0 ii_ 16) 1) ∧ (i_add (Sx8_.1 0 ii_ 16) 1) ≤ 2147483647 from ⟨by omega, by omega⟩)
      have hFx18_ : ai_fr (sx_W vw_22) S0_ (sm_pI Sx8_ 0 ii_ 16 (i_add (Sx8_.1 0 ii_ 16) 1)) := ai_fr_tr hFx12_ (ai_fr_pI rfl)
      have hCx19_ : cdf ii_ S0_ (sm_pI Sx8_ 0 ii_ 16 (i_add (Sx8_.1 0 ii_ 16) 1)) := cdf_pI hCx13_ (Or.inr (by rw [show cof 0 = 0 from rfl] <;> omega))
      refine sm_T_go 1 (c1 := (41, [some (.inr (.inr (some (0, ii_)))), some (.inr (.inr (some (2, cc_)))), some (.inl k_)], [], sm_pI Sx8_ 0 ii_ 16 (i_add (Sx8_.1 0 ii_ 16) 1))) rfl ?_
      refine sm_T_rv rfl ⟨_, _, rfl, rfl, hIx17_, hFx18_, ?_⟩
      refine ⟨hCx19_, ?_⟩
      constructor
      · rw [rf_nk (by decide)]; exact l9_.1
      · rw [rf_nt (by decide)]; exact l9_.2
    · have cx7_ : ¬ (vx6_ ≤ k_) := of_decide_eq_false cx7_
      refine sm_T_go 5 (c1 := (17, [some (.inr (.inr (some (0, ii_)))), some (.inr (.inr (some (2, cc_)))), some (.inl k_)], [.inl k_, .inr (.inr (some (0, ii_))), .inl k_, .inr (.inr (some (21, (0 + ii_))))], S_)) rfl ?_
      refine sm_T_cal (d1 := 1) (Q1 := vq_23 k_ ii_ S_) rfl rfl (by decide) (vc_23 k_ ii_ S_ hI_ (by omega) (by exact bpn_fr hb_ hF_ rfl rfl rfl rfl)) (fun u_ Sx20_ px23_ => ?_)
      obtain ⟨rfl, vx25_, rfl, px23_⟩ := px23_
      have w9_ := px23_
      refine sm_T_iast (n := 162) rfl rfl (by omega) (by omega) ?_
      have hIx26_ : gi (sm_aI S_ 21 (0 + ii_) k_.toNat vx25_) := gi_aI hI_ (show (-9999) ≤ vx25_ ∧ vx25_ ≤ 20000 from ⟨by omega, by omega⟩)
      have hFx27_ : ai_fr (sx_W vw_22) S0_ (sm_aI S_ 21 (0 + ii_) k_.toNat vx25_) := ai_fr_tr hF_ (ai_fr_aI rfl)
      have hCx28_ : cdf ii_ S0_ (sm_aI S_ 21 (0 + ii_) k_.toNat vx25_) := cdf_aI hC_ (Or.inr (by rw [show cof 21 = 0 from rfl] <;> omega))
      refine sm_T_inc (a := 2) (z := 1) (v := k_) (w := k_ + 1) rfl rfl (by omega) (by omega) (by omega) ?_ -- pc_ 21
      refine sm_T_go 1 (c1 := (2, [some (.inr (.inr (some (0, ii_)))), some (.inr (.inr (some (2, cc_)))), some (.inl (k_ + 1))], [], sm_aI S_ 21 (0 + ii_) k_.toNat vx25_)) rfl ?_
      refine ih_ (k_ + 1) (sm_aI S_ 21 (0 + ii_) k_.toNat vx25_) hIx26_ hFx27_ ⟨?_, ?_, trivial⟩ ?_
      · omega
      · exact hCx28_
      · omega
set_option maxHeartbeats 400000 in
theorem vc_22 {sc_ : Nat × (Nat → Int)} (ii_ : Nat) (cc_ : Nat) (S0_ : sm_S) (hI_ : gi S0_) (hb_ : bpn ii_ S0_) (hs_ : S0_.1 2 cc_ 1 + S0_.1 2 cc_ 2 ≤ 12) : sm_T (mt_P sc_) 2 22 (0, [some (.inr (.inr (some (0, ii_)))), some (.inr (.inr (some (2, cc_)))), none], [], S0_) (fun ro9_ => ∃ u_ S1_, ro9_ = (.inl u_, S1_, 0) ∧ vq_22 ii_ cc_ S0_ u_ S1_) := by
  have hF_ : ai_fr (sx_W vw_22) S0_ S0_ := ai_fr_rf
  have hC_ : cdf ii_ S0_ S0_ := cdf_rf
  refine sm_T_go 2 (c1 := (2, [some (.inr (.inr (some (0, ii_)))), some (.inr (.inr (some (2, cc_)))), some (.inl 0)], [], S0_)) rfl ?_
  refine (vl_22 ii_ cc_ S0_ hb_ hs_ _) 0 S0_ hI_ hF_ ⟨?_, ?_, trivial⟩ (Nat.lt_succ_self _)
  · omega
  · exact hC_
