/-! 99.zkad -/
section
/-! Board.exchangeIfLess -/
def vw_27 : sx_Wl := ([(0, 18)], [14, 15, 21, 25], [])
def vq_27 (a1_ : Int) (a2_ : Int) (ii_ : Nat) (cc_ : Nat) (S0_ : sm_S) (u_ : Option sm_V) (S1_ : sm_S) : Prop := ∃ v_ : Int, u_ = some (.inl v_) ∧ gi S1_ ∧ ai_fr (sx_W vw_27) S0_ S1_ ∧ (cdf ii_ S0_ S1_ ∧ ((0 ≤ v_ ∧ v_ ≤ 1) ∧ bpl ii_ cc_ S1_))
set_option maxHeartbeats 400000 in
theorem vl_27 {sc_ : Nat × (Nat → Int)} (a1_ : Int) (a2_ : Int) (ii_ : Nat) (cc_ : Nat) (S0_ : sm_S) (h1_ : 0 ≤ a1_ ∧ a1_ ≤ 155 ∧ a1_ < (S0_.1 2 cc_ 2 + S0_.1 2 cc_ 8)) (h2_ : 0 ≤ a2_ ∧ a2_ ≤ 155 ∧ a2_ < (S0_.1 2 cc_ 2 + S0_.1 2 cc_ 8)) (hz_ : S0_.2.2.1 16 (0 + ii_) a1_.toNat = S0_.2.2.1 16 (0 + ii_) a2_.toNat) (hb_ : bpn ii_ S0_) (hp_ : bpl ii_ cc_ S0_) : ∀ nn_ : Nat, (∀ (bf_ : Int) (k_ : Int) (S_ : sm_S), gi S_ → ai_fr (sx_W vw_27) S0_ S_ → ((0 ≤ k_ ∧ k_ ≤ 8 ∧ -9999 * k_ ≤ bf_ ∧ bf_ ≤ 20000 * k_) ∧ (S_.1 0 ii_ 18 ≤ 8 ∧ ∀ j_ : Nat, (j_ : Int) < S_.1 0 ii_ 18 → 0 ≤ S_.2.2.1 25 (0 + ii_) j_) ∧ (S_.2.2.1 14 (0 + ii_) = S0_.2.2.1 14 (0 + ii_) ∧ S_.2.2.1 15 (0 + ii_) = S0_.2.2.1 15 (0 + ii_)) ∧ (cdf ii_ S0_ S_) ∧ True) → ((3000 - k_).toNat) < nn_ → sm_T (mt_P sc_) 2 27 (20, [some (.inr (.inr (some (0, ii_)))), some (.inl a1_), some (.inl a2_), some (.inl bf_), some (.inl k_), none], [], S_) (fun ro9_ => ∃ u_ S1_, ro9_ = (.inl u_, S1_, 0) ∧ vq_27 a1_ a2_ ii_ cc_ S0_ u_ S1_)) ∧ (∀ (bf_ : Int) (af_ : Int) (k_ : Int) (S_ : sm_S), gi S_ → ai_fr (sx_W vw_27) S0_ S_ → ((0 ≤ k_ ∧ k_ ≤ 8 ∧ -9999 * k_ ≤ af_ ∧ af_ ≤ 20000 * k_) ∧ (S_.1 0 ii_ 18 ≤ 8 ∧ ∀ j_ : Nat, (j_ : Int) < S_.1 0 ii_ 18 → 0 ≤ S_.2.2.1 25 (0 + ii_) j_) ∧ (xch ii_ a1_.toNat a2_.toNat S0_ S_) ∧ (cdf ii_ S0_ S_) ∧ True) → ((2000 - k_).toNat) < nn_ → sm_T (mt_P sc_) 2 27 (62, [some (.inr (.inr (some (0, ii_)))), some (.inl a1_), some (.inl a2_), some (.inl bf_), some (.inl af_), some (.inl k_)], [], S_) (fun ro9_ => ∃ u_ S1_, ro9_ = (.inl u_, S1_, 0) ∧ vq_27 a1_ a2_ ii_ cc_ S0_ u_ S1_)) ∧ (∀ (bf_ : Int) (af_ : Int) (k_ : Int) (S_ : sm_S), gi S_ → ai_fr (sx_W vw_27) S0_ S_ → ((0 ≤ k_ ∧ k_ ≤ 8) ∧ (S_.1 0 ii_ 18 ≤ 8 ∧ ∀ j_ : Nat, (j_ : Int) < S_.1 0 ii_ 18 → 0 ≤ S_.2.2.1 25 (0 + ii_) j_) ∧ (xch ii_ a1_.toNat a2_.toNat S0_ S_) ∧ (cdf ii_ S0_ S_) ∧ True) → ((1000 - k_).toNat) < nn_ → sm_T (mt_P sc_) 2 27 (116, [some (.inr (.inr (some (0, ii_)))), some (.inl a1_), some (.inl a2_), some (.inl bf_), some (.inl af_), some (.inl k_)], [], S_) (fun ro9_ => ∃ u_ S1_, ro9_ = (.inl u_, S1_, 0) ∧ vq_27 a1_ a2_ ii_ cc_ S0_ u_ S1_)) := by
  intro nn_
  induction nn_ with
  | zero => exact ⟨fun _ _ _ _ _ _ h_ => absurd h_ (Nat.not_lt_zero _), fun _ _ _ _ _ _ _ h_ => absurd h_ (Nat.not_lt_zero _), fun _ _ _ _ _ _ _ h_ => absurd h_ (Nat.not_lt_zero _)⟩
  | succ nn_ ih_ =>
    refine ⟨?_, ?_, ?_⟩
    · rintro bf_ k_ S_ hI_ hF_ ⟨h0_, hn_, hw_, hC_, -⟩ hm_
      have bx1_ : 0 ≤ S_.1 0 ii_ 18 ∧ S_.1 0 ii_ 18 ≤ 8 := hI_.1 0 ii_ 18 rfl
      refine sm_T_go 3 (c1 := (26, [some (.inr (.inr (some (0, ii_)))), some (.inl a1_), some (.inl a2_), some (.inl bf_), some (.inl k_), none], [.inl (S_.1 0 ii_ 18), .inl k_], S_)) rfl ?_
      refine sm_T_br (a := 3) (z := 24) rfl (fun cx2_ => ?_) (fun cx2_ => ?_)
      · have cx2_ : (S_.1 0 ii_ 18) ≤ k_ := of_decide_eq_true cx2_
        refine sm_T_go 3 (c1 := (53, [some (.inr (.inr (some (0, ii_)))), some (.inl a1_), some (.inl a2_), some (.inl bf_), some (.inl k_), none], [.inl a2_, .inl a1_, .inr (.inr (some (0, ii_)))], S_)) rfl ?_
        refine sm_T_cal (d1 := 0) (Q1 := vq_29 a1_ a2_ ii_ S_) rfl rfl (by decide) (vc_29 a1_ a2_ ii_ S_ hI_ (by omega) (by omega)) (fun u_ Sx3_ px6_ => ?_)
        obtain ⟨rfl, hIx4_, hFx5_, px6_⟩ := px6_
        have hFx7_ : ai_fr (sx_W vw_27) S0_ Sx3_ := ai_fr_tr hF_ (fr_le hFx5_ rfl)
        obtain ⟨dx9_, px6_⟩ := px6_
        have hCx8_ : cdf ii_ S0_ Sx3_ := cdf_tr hC_ (cdf_cg (by omega) dx9_)
        have ex10_ : Sx3_.1 0 ii_ 18 = S_.1 0 ii_ 18 := hFx5_.1 0 ii_ 18 rfl
        have x53_ := px6_
        have u18_ := hFx5_.1 0 ii_ 18 rfl
        have u25_ := hFx5_.2.2 25 rfl (0 + ii_)
        refine sm_T_go 4 (c1 := (62, [some (.inr (.inr (some (0, ii_)))), some (.inl a1_), some (.inl a2_), some (.inl bf_), some (.inl 0), some (.inl 0)], [], Sx3_)) rfl ?_
        refine ih_.2.1 bf_ 0 0 Sx3_ hIx4_ hFx7_ ⟨?_, ?_, ?_, ?_, trivial⟩ ?_
        · omega
        · refine ⟨by omega, fun j_ hj9_ => ?_⟩
          rw [(u25_ j_).1]
          exact hn_.2 j_ (by omega)
        · intro e_
          have y_ := x53_ e_
          rw [hw_.1, hw_.2] at y_
          exact y_
        · exact hCx8_
        · omega
      · have cx2_ : ¬ ((S_.1 0 ii_ 18) ≤ k_) := of_decide_eq_false cx2_
        have n9_ := hn_.2 k_.toNat (by omega)
        refine sm_T_go 6 (c1 := (40, [some (.inr (.inr (some (0, ii_)))), some (.inl a1_), some (.inl a2_), some (.inl bf_), some (.inl k_), none], [.inl k_, .inr (.inr (some (25, (0 + ii_)))), .inr (.inr (some (21, (0 + ii_)))), .inl bf_], S_)) rfl ?_
        refine sm_T_iald (n := 8) rfl rfl (by omega) (by omega) ?_
        have bx11_ : (-1) ≤ S_.2.2.1 25 (0 + ii_) k_.toNat ∧ S_.2.2.1 25 (0 + ii_) k_.toNat ≤ 161 := hI_.2 25 (0 + ii_) _
        refine sm_T_iald (n := 162) rfl rfl (by omega) (by omega) ?_
        have bx12_ : (-9999) ≤ S_.2.2.1 21 (0 + ii_) (S_.2.2.1 25 (0 + ii_) k_.toNat).toNat ∧ S_.2.2.1 21 (0 + ii_) (S_.2.2.1 25 (0 + ii_) k_.toNat).toNat ≤ 20000 := hI_.2 21 (0 + ii_) _
        refine sm_T_bin (w := bf_ + (S_.2.2.1 21 (0 + ii_) (S_.2.2.1 25 (0 + ii_) k_.toNat).toNat)) rfl (bi_add (by omega) (by omega) (by omega)) ?_ -- pc_ 42
        refine sm_T_go 1 (c1 := (44, [some (.inr (.inr (some (0, ii_)))), some (.inl a1_), some (.inl a2_), some (.inl (bf_ + (S_.2.2.1 21 (0 + ii_) (S_.2.2.1 25 (0 + ii_) k_.toNat).toNat))), some (.inl k_), none], [], S_)) rfl ?_
        refine sm_T_inc (a := 4) (z := 1) (v := k_) (w := k_ + 1) rfl rfl (by omega) (by omega) (by omega) ?_ -- pc_ 44
        refine sm_T_go 1 (c1 := (20, [some (.inr (.inr (some (0, ii_)))), some (.inl a1_), some (.inl a2_), some (.inl (bf_ + (S_.2.2.1 21 (0 + ii_) (S_.2.2.1 25 (0 + ii_) k_.toNat).toNat))), some (.inl (k_ + 1)), none], [], S_)) rfl ?_
        refine ih_.1 (bf_ + (S_.2.2.1 21 (0 + ii_) (S_.2.2.1 25 (0 + ii_) k_.toNat).toNat)) (k_ + 1) S_ hI_ hF_ ⟨?_, ?_, ?_, ?_, trivial⟩ ?_
        · omega
        · exact hn_
        · exact hw_
        · exact hC_
        · omega
    · rintro bf_ af_ k_ S_ hI_ hF_ ⟨h0_, hn_, hx_, hC_, -⟩ hm_
      have bx1_ : 0 ≤ S_.1 0 ii_ 18 ∧ S_.1 0 ii_ 18 ≤ 8 := hI_.1 0 ii_ 18 rfl
      refine sm_T_go 3 (c1 := (68, [some (.inr (.inr (some (0, ii_)))), some (.inl a1_), some (.inl a2_), some (.inl bf_), some (.inl af_), some (.inl k_)], [.inl (S_.1 0 ii_ 18), .inl k_], S_)) rfl ?_
      refine sm_T_br (a := 3) (z := 31) rfl (fun cx2_ => ?_) (fun cx2_ => ?_)
      · have cx2_ : (S_.1 0 ii_ 18) ≤ k_ := of_decide_eq_true cx2_
        refine sm_T_go 2 (c1 := (102, [some (.inr (.inr (some (0, ii_)))), some (.inl a1_), some (.inl a2_), some (.inl bf_), some (.inl af_), some (.inl k_)], [.inl bf_, .inl af_], S_)) rfl ?_
        refine sm_T_br (a := 2) (z := 11) rfl (fun cx3_ => ?_) (fun cx3_ => ?_)
        · have cx3_ : af_ < bf_ := of_decide_eq_true cx3_
          refine sm_T_go 2 (c1 := (116, [some (.inr (.inr (some (0, ii_)))), some (.inl a1_), some (.inl a2_), some (.inl bf_), some (.inl af_), some (.inl 0)], [], S_)) rfl ?_
          refine ih_.2.2 bf_ af_ 0 S_ hI_ hF_ ⟨?_, ?_, ?_, ?_, trivial⟩ ?_
          · omega
          · exact hn_
          · exact hx_
          · exact hC_
          · omega
        · have cx3_ : ¬ (af_ < bf_) := of_decide_eq_false cx3_
          refine sm_T_go 3 (c1 := (108, [some (.inr (.inr (some (0, ii_)))), some (.inl a1_), some (.inl a2_), some (.inl bf_), some (.inl af_), some (.inl k_)], [.inl a2_, .inl a1_, .inr (.inr (some (0, ii_)))], S_)) rfl ?_
          refine sm_T_cal (d1 := 0) (Q1 := vq_29 a1_ a2_ ii_ S_) rfl rfl (by decide) (vc_29 a1_ a2_ ii_ S_ hI_ (by omega) (by omega)) (fun u_ Sx4_ px7_ => ?_)
          obtain ⟨rfl, hIx5_, hFx6_, px7_⟩ := px7_
          have hFx8_ : ai_fr (sx_W vw_27) S0_ Sx4_ := ai_fr_tr hF_ (fr_le hFx6_ rfl)
          obtain ⟨dx10_, px7_⟩ := px7_
          have hCx9_ : cdf ii_ S0_ Sx4_ := cdf_tr hC_ (cdf_cg (by omega) dx10_)
          have ex11_ : Sx4_.1 0 ii_ 18 = S_.1 0 ii_ 18 := hFx6_.1 0 ii_ 18 rfl
          have x108_ := px7_
          refine sm_T_go 1 (c1 := (112, [some (.inr (.inr (some (0, ii_)))), some (.inl a1_), some (.inl a2_), some (.inl bf_), some (.inl af_), some (.inl k_)], [.inl 0], Sx4_)) rfl ?_
          refine sm_T_rz rfl (by omega) ⟨_, _, rfl, _, rfl, hIx5_, hFx8_, ?_⟩
          refine ⟨hCx9_, ?_⟩
          refine ⟨by omega, ?_⟩
          exact bpl_sw hp_ (hFx8_.1 0 ii_ 0 rfl) (hFx8_.1 0 ii_ 1 rfl) (hFx8_.1 0 ii_ 2 rfl) (hFx8_.1 2 cc_ 1 rfl) (hFx8_.1 2 cc_ 2 rfl) (hFx8_.1 2 cc_ 3 rfl) (hFx8_.1 2 cc_ 8 rfl) (fr_arr hFx8_ rfl) (fun e_ he_ => ⟨e_, he_, rfl, xch_2 hx_ x108_ e_⟩)
      · have cx2_ : ¬ ((S_.1 0 ii_ 18) ≤ k_) := of_decide_eq_false cx2_
        have n9_ := hn_.2 k_.toNat (by omega)
        refine sm_T_go 2 (c1 := (74, [some (.inr (.inr (some (0, ii_)))), some (.inl a1_), some (.inl a2_), some (.inl bf_), some (.inl af_), some (.inl k_)], [.inl bf_, .inl af_], S_)) rfl ?_
        refine sm_T_br (a := 3) (z := 25) rfl (fun cx12_ => ?_) (fun cx12_ => ?_)
        · have cx12_ : bf_ ≤ af_ := of_decide_eq_true cx12_
          refine sm_T_go 2 (c1 := (102, [some (.inr (.inr (some (0, ii_)))), some (.inl a1_), some (.inl a2_), some (.inl bf_), some (.inl af_), some (.inl k_)], [.inl bf_, .inl af_], S_)) rfl ?_
          refine sm_T_br (a := 2) (z := 11) rfl (fun cx13_ => ?_) (fun cx13_ => ?_)
          · have cx13_ : af_ < bf_ := of_decide_eq_true cx13_
            exfalso; omega
          · have cx13_ : ¬ (af_ < bf_) := of_decide_eq_false cx13_
            refine sm_T_go 3 (c1 := (108, [some (.inr (.inr (some (0, ii_)))), some (.inl a1_), some (.inl a2_), some (.inl bf_), some (.inl af_), some (.inl k_)], [.inl a2_, .inl a1_, .inr (.inr (some (0, ii_)))], S_)) rfl ?_
            refine sm_T_cal (d1 := 0) (Q1 := vq_29 a1_ a2_ ii_ S_) rfl rfl (by decide) (vc_29 a1_ a2_ ii_ S_ hI_ (by omega) (by omega)) (fun u_ Sx14_ px17_ => ?_)
            obtain ⟨rfl, hIx15_, hFx16_, px17_⟩ := px17_
            have hFx18_ : ai_fr (sx_W vw_27) S0_ Sx14_ := ai_fr_tr hF_ (fr_le hFx16_ rfl)
            obtain ⟨dx20_, px17_⟩ := px17_
            have hCx19_ : cdf ii_ S0_ Sx14_ := cdf_tr hC_ (cdf_cg (by omega) dx20_)
            have ex21_ : Sx14_.1 0 ii_ 18 = S_.1 0 ii_ 18 := hFx16_.1 0 ii_ 18 rfl
            have x108_ := px17_
            refine sm_T_go 1 (c1 := (112, [some (.inr (.inr (some (0, ii_)))), some (.inl a1_), some (.inl a2_), some (.inl bf_), some (.inl af_), some (.inl k_)], [.inl 0], Sx14_)) rfl ?_
            refine sm_T_rz rfl (by omega) ⟨_, _, rfl, _, rfl, hIx15_, hFx18_, ?_⟩
            refine ⟨hCx19_, ?_⟩
            refine ⟨by omega, ?_⟩
            exact bpl_sw hp_ (hFx18_.1 0 ii_ 0 rfl) (hFx18_.1 0 ii_ 1 rfl) (hFx18_.1 0 ii_ 2 rfl) (hFx18_.1 2 cc_ 1 rfl) (hFx18_.1 2 cc_ 2 rfl) (hFx18_.1 2 cc_ 3 rfl) (hFx18_.1 2 cc_ 8 rfl) (fr_arr hFx18_ rfl) (fun e_ he_ => ⟨e_, he_, rfl, xch_2 hx_ x108_ e_⟩)
        · have cx12_ : ¬ (bf_ ≤ af_) := of_decide_eq_false cx12_
          refine sm_T_go 5 (c1 := (86, [some (.inr (.inr (some (0, ii_)))), some (.inl a1_), some (.inl a2_), some (.inl bf_), some (.inl af_), some (.inl k_)], [.inl k_, .inr (.inr (some (25, (0 + ii_)))), .inr (.inr (some (0, ii_))), .inl af_], S_)) rfl ?_
          refine sm_T_iald (n := 8) rfl rfl (by omega) (by omega) ?_
          have bx22_ : (-1) ≤ S_.2.2.1 25 (0 + ii_) k_.toNat ∧ S_.2.2.1 25 (0 + ii_) k_.toNat ≤ 161 := hI_.2 25 (0 + ii_) _
          refine sm_T_cal (d1 := 1) (Q1 := vq_23 (S_.2.2.1 25 (0 + ii_) k_.toNat) ii_ S_) rfl rfl (by decide) (vc_23 (S_.2.2.1 25 (0 + ii_) k_.toNat) ii_ S_ hI_ (by omega) (by exact bpn_fr hb_ hF_ rfl rfl rfl rfl)) (fun u_ Sx23_ px26_ => ?_)
          obtain ⟨rfl, vx28_, rfl, px26_⟩ := px26_
          have w9_ := px26_
          refine sm_T_bin (w := af_ + vx28_) rfl (bi_add (by omega) (by omega) (by omega)) ?_ -- pc_ 90
          refine sm_T_go 1 (c1 := (93, [some (.inr (.inr (some (0, ii_)))), some (.inl a1_), some (.inl a2_), some (.inl bf_), some (.inl (af_ + vx28_)), some (.inl k_)], [], S_)) rfl ?_
          refine sm_T_inc (a := 5) (z := 1) (v := k_) (w := k_ + 1) rfl rfl (by omega) (by omega) (by omega) ?_ -- pc_ 93
          refine sm_T_go 1 (c1 := (62, [some (.inr (.inr (some (0, ii_)))), some (.inl a1_), some (.inl a2_), some (.inl bf_), some (.inl (af_ + vx28_)), some (.inl (k_ + 1))], [], S_)) rfl ?_
          refine ih_.2.1 bf_ (af_ + vx28_) (k_ + 1) S_ hI_ hF_ ⟨?_, ?_, ?_, ?_, trivial⟩ ?_
          · omega
          · exact hn_
          · exact hx_
          · exact hC_
          · omega
    · rintro bf_ af_ k_ S_ hI_ hF_ ⟨h0_, hn_, hx_, hC_, -⟩ hm_
      have bx1_ : 0 ≤ S_.1 0 ii_ 18 ∧ S_.1 0 ii_ 18 ≤ 8 := hI_.1 0 ii_ 18 rfl
      refine sm_T_go 3 (c1 := (122, [some (.inr (.inr (some (0, ii_)))), some (.inl a1_), some (.inl a2_), some (.inl bf_), some (.inl af_), some (.inl k_)], [.inl (S_.1 0 ii_ 18), .inl k_], S_)) rfl ?_
      refine sm_T_br (a := 3) (z := 32) rfl (fun cx2_ => ?_) (fun cx2_ => ?_)
      · have cx2_ : (S_.1 0 ii_ 18) ≤ k_ := of_decide_eq_true cx2_
        refine sm_T_go 1 (c1 := (155, [some (.inr (.inr (some (0, ii_)))), some (.inl a1_), some (.inl a2_), some (.inl bf_), some (.inl af_), some (.inl k_)], [.inl 1], S_)) rfl ?_
        refine sm_T_rz rfl (by omega) ⟨_, _, rfl, _, rfl, hI_, hF_, ?_⟩
        refine ⟨hC_, ?_⟩
        refine ⟨by omega, ?_⟩
        exact bpl_xch hp_ hx_ (by omega) (by omega) hz_ (hF_.1 0 ii_ 0 rfl) (hF_.1 0 ii_ 1 rfl) (hF_.1 0 ii_ 2 rfl) (hF_.1 2 cc_ 1 rfl) (hF_.1 2 cc_ 2 rfl) (hF_.1 2 cc_ 3 rfl) (hF_.1 2 cc_ 8 rfl) (fr_arr hF_ rfl)
      · have cx2_ : ¬ ((S_.1 0 ii_ 18) ≤ k_) := of_decide_eq_false cx2_
        have n9_ := hn_.2 k_.toNat (by omega)
        refine sm_T_go 5 (c1 := (135, [some (.inr (.inr (some (0, ii_)))), some (.inl a1_), some (.inl a2_), some (.inl bf_), some (.inl af_), some (.inl k_)], [.inl k_, .inr (.inr (some (25, (0 + ii_)))), .inr (.inr (some (21, (0 + ii_))))], S_)) rfl ?_
        refine sm_T_iald (n := 8) rfl rfl (by omega) (by omega) ?_
        have bx3_ : (-1) ≤ S_.2.2.1 25 (0 + ii_) k_.toNat ∧ S_.2.2.1 25 (0 + ii_) k_.toNat ≤ 161 := hI_.2 25 (0 + ii_) _
        refine sm_T_go 4 (c1 := (143, [some (.inr (.inr (some (0, ii_)))), some (.inl a1_), some (.inl a2_), some (.inl bf_), some (.inl af_), some (.inl k_)], [.inl k_, .inr (.inr (some (25, (0 + ii_)))), .inr (.inr (some (0, ii_))), .inl (S_.2.2.1 25 (0 + ii_) k_.toNat), .inr (.inr (some (21, (0 + ii_))))], S_)) rfl ?_
        refine sm_T_iald (n := 8) rfl rfl (by omega) (by omega) ?_
        refine sm_T_cal (d1 := 1) (Q1 := vq_23 (S_.2.2.1 25 (0 + ii_) k_.toNat) ii_ S_) rfl rfl (by decide) (vc_23 (S_.2.2.1 25 (0 + ii_) k_.toNat) ii_ S_ hI_ (by omega) (by exact bpn_fr hb_ hF_ rfl rfl rfl rfl)) (fun u_ Sx4_ px7_ => ?_)
        obtain ⟨rfl, vx9_, rfl, px7_⟩ := px7_
        have w9_ := px7_
        refine sm_T_iast (n := 162) rfl rfl (by omega) (by omega) ?_
        have hIx10_ : gi (sm_aI S_ 21 (0 + ii_) (S_.2.2.1 25 (0 + ii_) k_.toNat).toNat vx9_) := gi_aI hI_ (show (-9999) ≤ vx9_ ∧ vx9_ ≤ 20000 from ⟨by omega, by omega⟩)
        have hFx11_ : ai_fr (sx_W vw_27) S0_ (sm_aI S_ 21 (0 + ii_) (S_.2.2.1 25 (0 + ii_) k_.toNat).toNat vx9_) := ai_fr_tr hF_ (ai_fr_aI rfl)
        have hCx12_ : cdf ii_ S0_ (sm_aI S_ 21 (0 + ii_) (S_.2.2.1 25 (0 + ii_) k_.toNat).toNat vx9_) := cdf_aI hC_ (Or.inr (by rw [show cof 21 = 0 from rfl] <;> omega))
        refine sm_T_inc (a := 5) (z := 1) (v := k_) (w := k_ + 1) rfl rfl (by omega) (by omega) (by omega) ?_ -- pc_ 148
        refine sm_T_go 1 (c1 := (116, [some (.inr (.inr (some (0, ii_)))), some (.inl a1_), some (.inl a2_), some (.inl bf_), some (.inl af_), some (.inl (k_ + 1))], [], sm_aI S_ 21 (0 + ii_) (S_.2.2.1 25 (0 + ii_) k_.toNat).toNat vx9_)) rfl ?_
        refine ih_.2.2 bf_ af_ (k_ + 1) (sm_aI S_ 21 (0 + ii_) (S_.2.2.1 25 (0 + ii_) k_.toNat).toNat vx9_) hIx10_ hFx11_ ⟨?_, ?_, ?_, ?_, trivial⟩ ?_
        · omega
        · refine ⟨hn_.1, fun j_ hj9_ => ?_⟩
          rw [rd_ne (by decide)]
          exact hn_.2 j_ hj9_
        · intro e_
          rw [rd_ne (by decide), rd_ne (by decide)]
          exact hx_ e_
        · exact hCx12_
        · omega
set_option maxHeartbeats 400000 in
theorem vc_27 {sc_ : Nat × (Nat → Int)} (a1_ : Int) (a2_ : Int) (ii_ : Nat) (cc_ : Nat) (S0_ : sm_S) (hI_ : gi S0_) (h1_ : 0 ≤ a1_ ∧ a1_ ≤ 155 ∧ a1_ < (S0_.1 2 cc_ 2 + S0_.1 2 cc_ 8)) (h2_ : 0 ≤ a2_ ∧ a2_ ≤ 155 ∧ a2_ < (S0_.1 2 cc_ 2 + S0_.1 2 cc_ 8)) (hz_ : S0_.2.2.1 16 (0 + ii_) a1_.toNat = S0_.2.2.1 16 (0 + ii_) a2_.toNat) (hb_ : bpn ii_ S0_) (hp_ : bpl ii_ cc_ S0_) : sm_T (mt_P sc_) 2 27 (0, [some (.inr (.inr (some (0, ii_)))), some (.inl a1_), some (.inl a2_), none, none, none], [], S0_) (fun ro9_ => ∃ u_ S1_, ro9_ = (.inl u_, S1_, 0) ∧ vq_27 a1_ a2_ ii_ cc_ S0_ u_ S1_) := by
  have hF_ : ai_fr (sx_W vw_27) S0_ S0_ := ai_fr_rf
  have hC_ : cdf ii_ S0_ S0_ := cdf_rf
  have hIx1_ : gi (sm_pI S0_ 0 ii_ 18 0) := gi_pI hI_ (show 0 ≤ 0 ∧ 0 ≤ 8 from ⟨by omega, by omega⟩)
  have hFx2_ : ai_fr (sx_W vw_27) S0_ (sm_pI S0_ 0 ii_ 18 0) := ai_fr_tr hF_ (ai_fr_pI rfl)
  have hCx3_ : cdf ii_ S0_ (sm_pI S0_ 0 ii_ 18 0) := cdf_pI hC_ (Or.inr (by rw [show cof 0 = 0 from rfl] <;> omega))
  refine sm_T_go 5 (c1 := (7, [some (.inr (.inr (some (0, ii_)))), some (.inl a1_), some (.inl a2_), none, none, none], [.inl a1_, .inr (.inr (some (0, ii_)))], sm_pI S0_ 0 ii_ 18 0)) rfl ?_
  refine sm_T_cal (d1 := 0) (Q1 := vq_28 a1_ ii_ (sm_pI S0_ 0 ii_ 18 0)) rfl rfl (by decide) (vc_28 a1_ ii_ (sm_pI S0_ 0 ii_ 18 0) hIx1_ (by omega) (by (rw [rf_eq]; decide)) (by (intro j_ hj9_; rw [rf_eq] at hj9_; exfalso; omega))) (fun u_ Sx4_ px7_ => ?_)
  obtain ⟨rfl, hIx5_, hFx6_, px7_⟩ := px7_
  have hFx8_ : ai_fr (sx_W vw_27) S0_ Sx4_ := ai_fr_tr hFx2_ (fr_le hFx6_ rfl)
  obtain ⟨dx10_, px7_⟩ := px7_
  have hCx9_ : cdf ii_ S0_ Sx4_ := cdf_tr hCx3_ (cdf_cg (by omega) dx10_)
  have t7_ := px7_
  rw [rf_eq] at t7_
  have q14_ := hFx6_.2.2 14 rfl (0 + ii_)
  have q15_ := hFx6_.2.2 15 rfl (0 + ii_)
  refine sm_T_go 2 (c1 := (12, [some (.inr (.inr (some (0, ii_)))), some (.inl a1_), some (.inl a2_), none, none, none], [.inl a2_, .inr (.inr (some (0, ii_)))], Sx4_)) rfl ?_
  refine sm_T_cal (d1 := 0) (Q1 := vq_28 a2_ ii_ Sx4_) rfl rfl (by decide) (vc_28 a2_ ii_ Sx4_ hIx5_ (by omega) (by omega) (by exact t7_.2)) (fun u_ Sx11_ px14_ => ?_)
  obtain ⟨rfl, hIx12_, hFx13_, px14_⟩ := px14_
  have hFx15_ : ai_fr (sx_W vw_27) S0_ Sx11_ := ai_fr_tr hFx8_ (fr_le hFx13_ rfl)
  obtain ⟨dx17_, px14_⟩ := px14_
  have hCx16_ : cdf ii_ S0_ Sx11_ := cdf_tr hCx9_ (cdf_cg (by omega) dx17_)
  have t12_ := px14_
  have r14_ := hFx13_.2.2 14 rfl (0 + ii_)
  have r15_ := hFx13_.2.2 15 rfl (0 + ii_)
  refine sm_T_go 4 (c1 := (20, [some (.inr (.inr (some (0, ii_)))), some (.inl a1_), some (.inl a2_), some (.inl 0), some (.inl 0), none], [], Sx11_)) rfl ?_
  refine (vl_27 a1_ a2_ ii_ cc_ S0_ h1_ h2_ hz_ hb_ hp_ _).1 0 0 Sx11_ hIx12_ hFx15_ ⟨?_, ?_, ?_, ?_, trivial⟩ (Nat.lt_succ_self _)
  · omega
  · exact ⟨by omega, t12_.2⟩
  · constructor
    · exact funext fun e_ => (r14_ e_).1.trans (q14_ e_).1
    · exact funext fun e_ => (r15_ e_).1.trans (q15_ e_).1
  · exact hCx16_
end
/-! 99.zkae -/
section
/-! Board.exchangeAll -/
def vw_26 : sx_Wl := ([(0, 11), (0, 16), (0, 18), (4, 0)], [14, 15, 21, 25], [])
def vq_26 (a2_ : Int) (ii_ : Nat) (cc_ : Nat) (S0_ : sm_S) (u_ : Option sm_V) (S1_ : sm_S) : Prop := u_ = none ∧ gi S1_ ∧ ai_fr (sx_W vw_26) S0_ S1_ ∧ (cdf ii_ S0_ S1_ ∧ (bpl ii_ cc_ S1_ ∧ (S1_.1 0 ii_ 11 = 0 ∨ S1_.1 0 ii_ 11 = S0_.1 0 ii_ 11)))
set_option maxHeartbeats 400000 in
theorem vl_26 {sc_ : Nat × (Nat → Int)} (a2_ : Int) (ii_ : Nat) (cc_ : Nat) (S0_ : sm_S) (h1_ : 1 ≤ a2_ ∧ a2_ ≤ 4) (hb_ : bpn ii_ S0_) (hp_ : bpl ii_ cc_ S0_) : ∀ nn_ : Nat, (∀ (cg : Int) (ev : Int) (ps_ : Int) (S_ : sm_S), gi S_ → ai_fr (sx_W vw_26) S0_ S_ → ((0 ≤ ps_ ∧ ps_ ≤ 4 ∧ 0 ≤ cg ∧ cg ≤ 1 ∧ 0 ≤ ev ∧ ev ≤ 1) ∧ (bpl ii_ cc_ S_) ∧ (S_.1 0 ii_ 11 = S0_.1 0 ii_ 11) ∧ (cdf ii_ S0_ S_) ∧ True) → ((1000000 * (10 - ps_) + 900000).toNat) < nn_ → sm_T (mt_P sc_) 3 26 (8, [some (.inr (.inr (some (0, ii_)))), some (.inr (.inr (some (2, cc_)))), some (.inl a2_), some (.inl cg), some (.inl ev), some (.inl ps_), none, none], [], S_) (fun ro9_ => ∃ u_ S1_, ro9_ = (.inl u_, S1_, 0) ∧ vq_26 a2_ ii_ cc_ S0_ u_ S1_)) ∧ (∀ (cg : Int) (ev : Int) (ps_ : Int) (i_ : Int) (S_ : sm_S), gi S_ → ai_fr (sx_W vw_26) S0_ S_ → ((0 ≤ ps_ ∧ ps_ < 4 ∧ 0 ≤ cg ∧ cg ≤ 1 ∧ 0 ≤ ev ∧ ev ≤ 1 ∧ 0 ≤ i_ ∧ i_ ≤ 156) ∧ (bpl ii_ cc_ S_) ∧ (S_.1 0 ii_ 11 = S0_.1 0 ii_ 11) ∧ (cdf ii_ S0_ S_) ∧ True) → ((1000000 * (10 - ps_) + 1000 * (200 - i_) + 900).toNat) < nn_ → sm_T (mt_P sc_) 3 26 (23, [some (.inr (.inr (some (0, ii_)))), some (.inr (.inr (some (2, cc_)))), some (.inl a2_), some (.inl cg), some (.inl ev), some (.inl ps_), some (.inl i_), none], [], S_) (fun ro9_ => ∃ u_ S1_, ro9_ = (.inl u_, S1_, 0) ∧ vq_26 a2_ ii_ cc_ S0_ u_ S1_)) ∧ (∀ (cg : Int) (ev : Int) (ps_ : Int) (i_ : Int) (j_ : Int) (S_ : sm_S), gi S_ → ai_fr (sx_W vw_26) S0_ S_ → ((0 ≤ ps_ ∧ ps_ < 4 ∧ 0 ≤ cg ∧ cg ≤ 1 ∧ 0 ≤ ev ∧ ev ≤ 1 ∧ 0 ≤ i_ ∧ i_ < 156 ∧ i_ < j_ ∧ j_ ≤ 156) ∧ (bpl ii_ cc_ S_) ∧ (S_.1 0 ii_ 11 = S0_.1 0 ii_ 11) ∧ (cdf ii_ S0_ S_) ∧ True) → ((1000000 * (10 - ps_) + 1000 * (200 - i_) + 800 - j_).toNat) < nn_ → sm_T (mt_P sc_) 3 26 (38, [some (.inr (.inr (some (0, ii_)))), some (.inr (.inr (some (2, cc_)))), some (.inl a2_), some (.inl cg), some (.inl ev), some (.inl ps_), some (.inl i_), some (.inl j_)], [], S_) (fun ro9_ => ∃ u_ S1_, ro9_ = (.inl u_, S1_, 0) ∧ vq_26 a2_ ii_ cc_ S0_ u_ S1_)) := by
  intro nn_
  induction nn_ with
  | zero => exact ⟨fun _ _ _ _ _ _ _ h_ => absurd h_ (Nat.not_lt_zero _), fun _ _ _ _ _ _ _ _ h_ => absurd h_ (Nat.not_lt_zero _), fun _ _ _ _ _ _ _ _ _ h_ => absurd h_ (Nat.not_lt_zero _)⟩
  | succ nn_ ih_ =>
    refine ⟨?_, ?_, ?_⟩
    · rintro cg ev ps_ S_ hI_ hF_ ⟨h0_, hl_, hrt_, hC_, -⟩ hm_
      refine sm_T_go 2 (c1 := (11, [some (.inr (.inr (some (0, ii_)))), some (.inr (.inr (some (2, cc_)))), some (.inl a2_), some (.inl cg), some (.inl ev), some (.inl ps_), none, none], [.inl a2_, .inl ps_], S_)) rfl ?_
      refine sm_T_br (a := 3) (z := 87) rfl (fun cx1_ => ?_) (fun cx1_ => ?_)
      · have cx1_ : a2_ ≤ ps_ := of_decide_eq_true cx1_
        refine sm_T_go 1 (c1 := (100, [some (.inr (.inr (some (0, ii_)))), some (.inr (.inr (some (2, cc_)))), some (.inl a2_), some (.inl cg), some (.inl ev), some (.inl ps_), none, none], [.inl ev], S_)) rfl ?_
        refine sm_T_b0 (a := 0) (z := 17) rfl (fun cx2_ => ?_) (fun cx2_ => ?_)
        · have cx2_ : ev = 0 := of_decide_eq_true cx2_
          refine sm_T_rv rfl ⟨_, _, rfl, rfl, hI_, hF_, ?_⟩
          refine ⟨hC_, ?_⟩
          first | exact ⟨hl_, Or.inr hrt_⟩ | (refine ⟨?_, Or.inl ((rf_nk (by decide)).trans z104_.1)⟩; exact bpl_sw l9_ (rf_nk (by decide)) (rf_nk (by decide)) (rf_nk (by decide)) (rf_nt (by decide)) (rf_nt (by decide)) (rf_nt (by decide)) (rf_nt (by decide)) rfl (fun e_ he_ => ⟨e_, by first | exact he_ | (rw [rf_nt (by decide), rf_nt (by decide)] at he_; exact he_), rfl, rfl, rfl⟩))
        · have cx2_ : ¬ (ev = 0) := of_decide_eq_false cx2_
          refine sm_T_go 1 (c1 := (104, [some (.inr (.inr (some (0, ii_)))), some (.inr (.inr (some (2, cc_)))), some (.inl a2_), some (.inl cg), some (.inl ev), some (.inl ps_), none, none], [.inr (.inr (some (0, ii_)))], S_)) rfl ?_
          refine sm_T_cal (d1 := 0) (Q1 := vq_15 ii_ S_) rfl rfl (by decide) (vc_15 ii_ S_ hI_ ) (fun u_ Sx3_ px6_ => ?_)
          obtain ⟨rfl, hIx4_, hFx5_, px6_⟩ := px6_
          have hFx7_ : ai_fr (sx_W vw_26) S0_ Sx3_ := ai_fr_tr hF_ (fr_le hFx5_ rfl)
          obtain ⟨dx9_, px6_⟩ := px6_
          have hCx8_ : cdf ii_ S0_ Sx3_ := cdf_tr hC_ (cdf_cg (by omega) dx9_)
          have z104_ := px6_
          have l9_ := bpl_fr hl_ hFx5_ rfl rfl rfl rfl rfl rfl rfl rfl rfl rfl
          have bx10_ : (-2147483648) ≤ Sx3_.1 0 ii_ 16 ∧ Sx3_.1 0 ii_ 16 ≤ 2147483647 := hIx4_.1 0 ii_ 16 rfl
          refine sm_T_go 4 (c1 := (113, [some (.inr (.inr (some (0, ii_)))), some (.inr (.inr (some (2, cc_)))), some (.inl a2_), some (.inl cg), some (.inl ev), some (.inl ps_), none, none], [.inl 1, .inl (Sx3_.1 0 ii_ 16), .inr (.inr (some (0, ii_)))], Sx3_)) rfl ?_
          refine sm_T_bin (w := (i_add (Sx3_.1 0 ii_ 16) 1)) rfl rfl ?_ -- pc_ 113
          have bx11_ := i_add_r (Sx3_.1 0 ii_ 16) 1
          have hIx12_ : gi (sm_pI Sx3_ 0 ii_ 16 (i_add (Sx3_.1 0 ii_ 16) 1)) := gi_pI hIx4_ (show (-2147483648) ≤ (i_add (Sx3_.1 0 ii_ 16) 1) ∧ (i_add (Sx3_.1 0 ii_ 16) 1) ≤ 2147483647 from ⟨by omega, by omega⟩)
          have hFx13_ : ai_fr (sx_W vw_26) S0_ (sm_pI Sx3_ 0 ii_ 16 (i_add (Sx3_.1 0 ii_ 16) 1)) := ai_fr_tr hFx7_ (ai_fr_pI rfl)
          have hCx14_ : cdf ii_ S0_ (sm_pI Sx3_ 0 ii_ 16 (i_add (Sx3_.1 0 ii_ 16) 1)) := cdf_pI hCx8_ (Or.inr (by rw [show cof 0 = 0 from rfl] <;> omega))
          refine sm_T_go 1 (c1 := (117, [some (.inr (.inr (some (0, ii_)))), some (.inr (.inr (some (2, cc_)))), some (.inl a2_), some (.inl cg), some (.inl ev), some (.inl ps_), none, none], [], sm_pI Sx3_ 0 ii_ 16 (i_add (Sx3_.1 0 ii_ 16) 1))) rfl ?_
          refine sm_T_rv rfl ⟨_, _, rfl, rfl, hIx12_, hFx13_, ?_⟩
          refine ⟨hCx14_, ?_⟩
          first | exact ⟨hl_, Or.inr hrt_⟩ | (refine ⟨?_, Or.inl ((rf_nk (by decide)).trans z104_.1)⟩; exact bpl_sw l9_ (rf_nk (by decide)) (rf_nk (by decide)) (rf_nk (by decide)) (rf_nt (by decide)) (rf_nt (by decide)) (rf_nt (by decide)) (rf_nt (by decide)) rfl (fun e_ he_ => ⟨e_, by first | exact he_ | (rw [rf_nt (by decide), rf_nt (by decide)] at he_; exact he_), rfl, rfl, rfl⟩))
      · have cx1_ : ¬ (a2_ ≤ ps_) := of_decide_eq_false cx1_
        refine sm_T_go 1 (c1 := (15, [some (.inr (.inr (some (0, ii_)))), some (.inr (.inr (some (2, cc_)))), some (.inl a2_), some (.inl cg), some (.inl ev), some (.inl ps_), none, none], [.inl cg], S_)) rfl ?_
        refine sm_T_b0 (a := 0) (z := 83) rfl (fun cx15_ => ?_) (fun cx15_ => ?_)
        · have cx15_ : cg = 0 := of_decide_eq_true cx15_
          refine sm_T_go 1 (c1 := (100, [some (.inr (.inr (some (0, ii_)))), some (.inr (.inr (some (2, cc_)))), some (.inl a2_), some (.inl cg), some (.inl ev), some (.inl ps_), none, none], [.inl ev], S_)) rfl ?_
          refine sm_T_b0 (a := 0) (z := 17) rfl (fun cx16_ => ?_) (fun cx16_ => ?_)
          · have cx16_ : ev = 0 := of_decide_eq_true cx16_
            refine sm_T_rv rfl ⟨_, _, rfl, rfl, hI_, hF_, ?_⟩
            refine ⟨hC_, ?_⟩
            first | exact ⟨hl_, Or.inr hrt_⟩ | (refine ⟨?_, Or.inl ((rf_nk (by decide)).trans z104_.1)⟩; exact bpl_sw l9_ (rf_nk (by decide)) (rf_nk (by decide)) (rf_nk (by decide)) (rf_nt (by decide)) (rf_nt (by decide)) (rf_nt (by decide)) (rf_nt (by decide)) rfl (fun e_ he_ => ⟨e_, by first | exact he_ | (rw [rf_nt (by decide), rf_nt (by decide)] at he_; exact he_), rfl, rfl, rfl⟩))
          · have cx16_ : ¬ (ev = 0) := of_decide_eq_false cx16_
            refine sm_T_go 1 (c1 := (104, [some (.inr (.inr (some (0, ii_)))), some (.inr (.inr (some (2, cc_)))), some (.inl a2_), some (.inl cg), some (.inl ev), some (.inl ps_), none, none], [.inr (.inr (some (0, ii_)))], S_)) rfl ?_
            refine sm_T_cal (d1 := 0) (Q1 := vq_15 ii_ S_) rfl rfl (by decide) (vc_15 ii_ S_ hI_ ) (fun u_ Sx17_ px20_ => ?_)
            obtain ⟨rfl, hIx18_, hFx19_, px20_⟩ := px20_
            have hFx21_ : ai_fr (sx_W vw_26) S0_ Sx17_ := ai_fr_tr hF_ (fr_le hFx19_ rfl)
            obtain ⟨dx23_, px20_⟩ := px20_
            have hCx22_ : cdf ii_ S0_ Sx17_ := cdf_tr hC_ (cdf_cg (by omega) dx23_)
            have z104_ := px20_
            have l9_ := bpl_fr hl_ hFx19_ rfl rfl rfl rfl rfl rfl rfl rfl rfl rfl
            have bx24_ : (-2147483648) ≤ Sx17_.1 0 ii_ 16 ∧ Sx17_.1 0 ii_ 16 ≤ 2147483647 := hIx18_.1 0 ii_ 16 rfl
            refine sm_T_go 4 (c1 := (113, [some (.inr (.inr (some (0, ii_)))), some (.inr (.inr (some (2, cc_)))), some (.inl a2_), some (.inl cg), some (.inl ev), some (.inl ps_), none, none], [.inl 1, .inl (Sx17_.1 0 ii_ 16), .inr (.inr (some (0, ii_)))], Sx17_)) rfl ?_
            refine sm_T_bin (w := (i_add (Sx17_.1 0 ii_ 16) 1)) rfl rfl ?_ -- pc_ 113
            have bx25_ := i_add_r (Sx17_.1 0 ii_ 16) 1
            have hIx26_ : gi (sm_pI Sx17_ 0 ii_ 16 (i_add (Sx17_.1 0 ii_ 16) 1)) := gi_pI hIx18_ (show (-2147483648) ≤ (i_add (Sx17_.1 0 ii_ 16) 1) ∧ (i_add (Sx17_.1 0 ii_ 16) 1) ≤ 2147483647 from ⟨by omega, by omega⟩)
            have hFx27_ : ai_fr (sx_W vw_26) S0_ (sm_pI Sx17_ 0 ii_ 16 (i_add (Sx17_.1 0 ii_ 16) 1)) := ai_fr_tr hFx21_ (ai_fr_pI rfl)
            have hCx28_ : cdf ii_ S0_ (sm_pI Sx17_ 0 ii_ 16 (i_add (Sx17_.1 0 ii_ 16) 1)) := cdf_pI hCx22_ (Or.inr (by rw [show cof 0 = 0 from rfl] <;> omega))
            refine sm_T_go 1 (c1 := (117, [some (.inr (.inr (some (0, ii_)))), some (.inr (.inr (some (2, cc_)))), some (.inl a2_), some (.inl cg), some (.inl ev), some (.inl ps_), none, none], [], sm_pI Sx17_ 0 ii_ 16 (i_add (Sx17_.1 0 ii_ 16) 1))) rfl ?_
            refine sm_T_rv rfl ⟨_, _, rfl, rfl, hIx26_, hFx27_, ?_⟩
            refine ⟨hCx28_, ?_⟩
            first | exact ⟨hl_, Or.inr hrt_⟩ | (refine ⟨?_, Or.inl ((rf_nk (by decide)).trans z104_.1)⟩; exact bpl_sw l9_ (rf_nk (by decide)) (rf_nk (by decide)) (rf_nk (by decide)) (rf_nt (by decide)) (rf_nt (by decide)) (rf_nt (by decide)) (rf_nt (by decide)) rfl (fun e_ he_ => ⟨e_, by first | exact he_ | (rw [rf_nt (by decide), rf_nt (by decide)] at he_; exact he_), rfl, rfl, rfl⟩))
        · have cx15_ : ¬ (cg = 0) := of_decide_eq_false cx15_
          refine sm_T_go 4 (c1 := (23, [some (.inr (.inr (some (0, ii_)))), some (.inr (.inr (some (2, cc_)))), some (.inl a2_), some (.inl 0), some (.inl ev), some (.inl ps_), some (.inl 0), none], [], S_)) rfl ?_
          refine ih_.2.1 0 ev ps_ 0 S_ hI_ hF_ ⟨?_, ?_, ?_, ?_, trivial⟩ ?_
          · omega
          · exact hl_
          · exact hrt_
          · exact hC_
          · omega
    · rintro cg ev ps_ i_ S_ hI_ hF_ ⟨h0_, hl_, hrt_, hC_, -⟩ hm_
      have c2_ : 0 ≤ S_.1 2 cc_ 2 ∧ S_.1 2 cc_ 2 ≤ 6 := hI_.1 2 cc_ 2 rfl
      have c8_ : 0 ≤ S_.1 2 cc_ 8 ∧ S_.1 2 cc_ 8 ≤ 150 := hI_.1 2 cc_ 8 rfl
      have e2_ : S_.1 2 cc_ 2 = S0_.1 2 cc_ 2 := hF_.1 2 cc_ 2 rfl
      have e8_ : S_.1 2 cc_ 8 = S0_.1 2 cc_ 8 := hF_.1 2 cc_ 8 rfl
      refine sm_T_go 2 (c1 := (26, [some (.inr (.inr (some (0, ii_)))), some (.inr (.inr (some (2, cc_)))), some (.inl a2_), some (.inl cg), some (.inl ev), some (.inl ps_), some (.inl i_), none], [.inr (.inr (some (2, cc_))), .inl i_], S_)) rfl ?_
      refine sm_T_cal (d1 := 0) (Q1 := vq_56 cc_ S_) rfl rfl (by decide) (vc_56 cc_ S_ hI_ ) (fun u_ Sx1_ px4_ => ?_)
      obtain ⟨rfl, vx6_, rfl, px4_⟩ := px4_
      have n9_ := px4_
      refine sm_T_br (a := 3) (z := 63) rfl (fun cx7_ => ?_) (fun cx7_ => ?_)
      · have cx7_ : vx6_ ≤ i_ := of_decide_eq_true cx7_
        refine sm_T_inc (a := 5) (z := 1) (v := ps_) (w := ps_ + 1) rfl rfl (by omega) (by omega) (by omega) ?_ -- pc_ 92
        refine sm_T_go 1 (c1 := (8, [some (.inr (.inr (some (0, ii_)))), some (.inr (.inr (some (2, cc_)))), some (.inl a2_), some (.inl cg), some (.inl ev), some (.inl (ps_ + 1)), some (.inl i_), none], [], S_)) rfl ?_
        refine sm_T_wk [some (.inr (.inr (some (0, ii_)))), some (.inr (.inr (some (2, cc_)))), some (.inl a2_), some (.inl cg), some (.inl ev), some (.inl (ps_ + 1)), none, none] (by exact ⟨rfl, rfl, rfl, rfl, rfl, rfl, trivial⟩) ?_
        refine ih_.1 cg ev (ps_ + 1) S_ hI_ hF_ ⟨?_, ?_, ?_, ?_, trivial⟩ ?_
        · omega
        · exact hl_
        · exact hrt_
        · exact hC_
        · omega
      · have cx7_ : ¬ (vx6_ ≤ i_) := of_decide_eq_false cx7_
        refine sm_T_go 2 (c1 := (35, [some (.inr (.inr (some (0, ii_)))), some (.inr (.inr (some (2, cc_)))), some (.inl a2_), some (.inl cg), some (.inl ev), some (.inl ps_), some (.inl i_), none], [.inl 1, .inl i_], S_)) rfl ?_
        refine sm_T_bin (w := i_ + 1) rfl (bi_add (by omega) (by omega) (by omega)) ?_ -- pc_ 35
        refine sm_T_go 1 (c1 := (38, [some (.inr (.inr (some (0, ii_)))), some (.inr (.inr (some (2, cc_)))), some (.inl a2_), some (.inl cg), some (.inl ev), some (.inl ps_), some (.inl i_), some (.inl (i_ + 1))], [], S_)) rfl ?_
        refine ih_.2.2 cg ev ps_ i_ (i_ + 1) S_ hI_ hF_ ⟨?_, ?_, ?_, ?_, trivial⟩ ?_
        · omega
        · exact hl_
        · exact hrt_
        · exact hC_
        · omega
    · rintro cg ev ps_ i_ j_ S_ hI_ hF_ ⟨h0_, hl_, hrt_, hC_, -⟩ hm_
      have c2_ : 0 ≤ S_.1 2 cc_ 2 ∧ S_.1 2 cc_ 2 ≤ 6 := hI_.1 2 cc_ 2 rfl
      have c8_ : 0 ≤ S_.1 2 cc_ 8 ∧ S_.1 2 cc_ 8 ≤ 150 := hI_.1 2 cc_ 8 rfl
      have e2_ : S_.1 2 cc_ 2 = S0_.1 2 cc_ 2 := hF_.1 2 cc_ 2 rfl
      have e8_ : S_.1 2 cc_ 8 = S0_.1 2 cc_ 8 := hF_.1 2 cc_ 8 rfl
      refine sm_T_go 2 (c1 := (41, [some (.inr (.inr (some (0, ii_)))), some (.inr (.inr (some (2, cc_)))), some (.inl a2_), some (.inl cg), some (.inl ev), some (.inl ps_), some (.inl i_), some (.inl j_)], [.inr (.inr (some (2, cc_))), .inl j_], S_)) rfl ?_
      refine sm_T_cal (d1 := 0) (Q1 := vq_56 cc_ S_) rfl rfl (by decide) (vc_56 cc_ S_ hI_ ) (fun u_ Sx1_ px4_ => ?_)
      obtain ⟨rfl, vx6_, rfl, px4_⟩ := px4_
      have n9_ := px4_
      refine sm_T_br (a := 3) (z := 42) rfl (fun cx7_ => ?_) (fun cx7_ => ?_)
      · have cx7_ : vx6_ ≤ j_ := of_decide_eq_true cx7_
        refine sm_T_inc (a := 6) (z := 1) (v := i_) (w := i_ + 1) rfl rfl (by omega) (by omega) (by omega) ?_ -- pc_ 86
        refine sm_T_go 1 (c1 := (23, [some (.inr (.inr (some (0, ii_)))), some (.inr (.inr (some (2, cc_)))), some (.inl a2_), some (.inl cg), some (.inl ev), some (.inl ps_), some (.inl (i_ + 1)), some (.inl j_)], [], S_)) rfl ?_
        refine sm_T_wk [some (.inr (.inr (some (0, ii_)))), some (.inr (.inr (some (2, cc_)))), some (.inl a2_), some (.inl cg), some (.inl ev), some (.inl ps_), some (.inl (i_ + 1)), none] (by exact ⟨rfl, rfl, rfl, rfl, rfl, rfl, rfl, trivial⟩) ?_
        refine ih_.2.1 cg ev ps_ (i_ + 1) S_ hI_ hF_ ⟨?_, ?_, ?_, ?_, trivial⟩ ?_
        · omega
        · exact hl_
        · exact hrt_
        · exact hC_
        · omega
      · have cx7_ : ¬ (vx6_ ≤ j_) := of_decide_eq_false cx7_
        refine sm_T_go 3 (c1 := (53, [some (.inr (.inr (some (0, ii_)))), some (.inr (.inr (some (2, cc_)))), some (.inl a2_), some (.inl cg), some (.inl ev), some (.inl ps_), some (.inl i_), some (.inl j_)], [.inl i_, .inr (.inr (some (16, (0 + ii_))))], S_)) rfl ?_
        refine sm_T_iald (n := 156) rfl rfl (by omega) (by omega) ?_
        have bx8_ : 0 ≤ S_.2.2.1 16 (0 + ii_) i_.toNat ∧ S_.2.2.1 16 (0 + ii_) i_.toNat ≤ 4 := hI_.2 16 (0 + ii_) _
        refine sm_T_go 3 (c1 := (60, [some (.inr (.inr (some (0, ii_)))), some (.inr (.inr (some (2, cc_)))), some (.inl a2_), some (.inl cg), some (.inl ev), some (.inl ps_), some (.inl i_), some (.inl j_)], [.inl j_, .inr (.inr (some (16, (0 + ii_)))), .inl (S_.2.2.1 16 (0 + ii_) i_.toNat)], S_)) rfl ?_
        refine sm_T_iald (n := 156) rfl rfl (by omega) (by omega) ?_
        have bx9_ : 0 ≤ S_.2.2.1 16 (0 + ii_) j_.toNat ∧ S_.2.2.1 16 (0 + ii_) j_.toNat ≤ 4 := hI_.2 16 (0 + ii_) _
        refine sm_T_br (a := 1) (z := 19) rfl (fun cx10_ => ?_) (fun cx10_ => ?_)
        · have cx10_ : (S_.2.2.1 16 (0 + ii_) i_.toNat) ≠ (S_.2.2.1 16 (0 + ii_) j_.toNat) := of_decide_eq_true cx10_
          refine sm_T_inc (a := 7) (z := 1) (v := j_) (w := j_ + 1) rfl rfl (by omega) (by omega) (by omega) ?_ -- pc_ 80
          refine sm_T_go 1 (c1 := (38, [some (.inr (.inr (some (0, ii_)))), some (.inr (.inr (some (2, cc_)))), some (.inl a2_), some (.inl cg), some (.inl ev), some (.inl ps_), some (.inl i_), some (.inl (j_ + 1))], [], S_)) rfl ?_
          refine ih_.2.2 cg ev ps_ i_ (j_ + 1) S_ hI_ hF_ ⟨?_, ?_, ?_, ?_, trivial⟩ ?_
          · omega
          · first | exact hl_ | exact x69_.2
          · first | exact hrt_ | exact y69_.trans hrt_
          · exact hC_
          · omega
        · have cx10_ : ¬ ((S_.2.2.1 16 (0 + ii_) i_.toNat) ≠ (S_.2.2.1 16 (0 + ii_) j_.toNat)) := of_decide_eq_false cx10_
          refine sm_T_go 3 (c1 := (69, [some (.inr (.inr (some (0, ii_)))), some (.inr (.inr (some (2, cc_)))), some (.inl a2_), some (.inl cg), some (.inl ev), some (.inl ps_), some (.inl i_), some (.inl j_)], [.inl j_, .inl i_, .inr (.inr (some (0, ii_)))], S_)) rfl ?_
          refine sm_T_cal (d1 := 2) (Q1 := vq_27 i_ j_ ii_ cc_ S_) rfl rfl (by decide) (vc_27 i_ j_ ii_ cc_ S_ hI_ (by omega) (by omega) (by omega) (by exact bpn_fr hb_ hF_ rfl rfl rfl rfl) (by exact hl_)) (fun u_ Sx11_ px14_ => ?_)
          obtain ⟨vx16_, rfl, hIx12_, hFx13_, px14_⟩ := px14_
          have hFx15_ : ai_fr (sx_W vw_26) S0_ Sx11_ := ai_fr_tr hF_ (fr_le hFx13_ rfl)
          obtain ⟨dx18_, px14_⟩ := px14_
          have hCx17_ : cdf ii_ S0_ Sx11_ := cdf_tr hC_ (cdf_cg (by omega) dx18_)
          have x69_ := px14_
          have y69_ : Sx11_.1 0 ii_ 11 = S_.1 0 ii_ 11 := hFx13_.1 0 ii_ 11 rfl
          refine sm_T_b0 (a := 0) (z := 8) rfl (fun cx19_ => ?_) (fun cx19_ => ?_)
          · have cx19_ : vx16_ = 0 := of_decide_eq_true cx19_
            refine sm_T_inc (a := 7) (z := 1) (v := j_) (w := j_ + 1) rfl rfl (by omega) (by omega) (by omega) ?_ -- pc_ 80
            refine sm_T_go 1 (c1 := (38, [some (.inr (.inr (some (0, ii_)))), some (.inr (.inr (some (2, cc_)))), some (.inl a2_), some (.inl cg), some (.inl ev), some (.inl ps_), some (.inl i_), some (.inl (j_ + 1))], [], Sx11_)) rfl ?_
            refine ih_.2.2 cg ev ps_ i_ (j_ + 1) Sx11_ hIx12_ hFx15_ ⟨?_, ?_, ?_, ?_, trivial⟩ ?_
            · omega
            · first | exact hl_ | exact x69_.2
            · first | exact hrt_ | exact y69_.trans hrt_
            · exact hCx17_
            · omega
          · have cx19_ : ¬ (vx16_ = 0) := of_decide_eq_false cx19_
            refine sm_T_go 4 (c1 := (80, [some (.inr (.inr (some (0, ii_)))), some (.inr (.inr (some (2, cc_)))), some (.inl a2_), some (.inl 1), some (.inl 1), some (.inl ps_), some (.inl i_), some (.inl j_)], [], Sx11_)) rfl ?_
            refine sm_T_inc (a := 7) (z := 1) (v := j_) (w := j_ + 1) rfl rfl (by omega) (by omega) (by omega) ?_ -- pc_ 80
            refine sm_T_go 1 (c1 := (38, [some (.inr (.inr (some (0, ii_)))), some (.inr (.inr (some (2, cc_)))), some (.inl a2_), some (.inl 1), some (.inl 1), some (.inl ps_), some (.inl i_), some (.inl (j_ + 1))], [], Sx11_)) rfl ?_
            refine ih_.2.2 1 1 ps_ i_ (j_ + 1) Sx11_ hIx12_ hFx15_ ⟨?_, ?_, ?_, ?_, trivial⟩ ?_
            · omega
            · first | exact hl_ | exact x69_.2
            · first | exact hrt_ | exact y69_.trans hrt_
            · exact hCx17_
            · omega
set_option maxHeartbeats 400000 in
theorem vc_26 {sc_ : Nat × (Nat → Int)} (a2_ : Int) (ii_ : Nat) (cc_ : Nat) (S0_ : sm_S) (hI_ : gi S0_) (h1_ : 1 ≤ a2_ ∧ a2_ ≤ 4) (hb_ : bpn ii_ S0_) (hp_ : bpl ii_ cc_ S0_) : sm_T (mt_P sc_) 3 26 (0, [some (.inr (.inr (some (0, ii_)))), some (.inr (.inr (some (2, cc_)))), some (.inl a2_), none, none, none, none, none], [], S0_) (fun ro9_ => ∃ u_ S1_, ro9_ = (.inl u_, S1_, 0) ∧ vq_26 a2_ ii_ cc_ S0_ u_ S1_) := by
  have hF_ : ai_fr (sx_W vw_26) S0_ S0_ := ai_fr_rf
  have hC_ : cdf ii_ S0_ S0_ := cdf_rf
  refine sm_T_go 6 (c1 := (8, [some (.inr (.inr (some (0, ii_)))), some (.inr (.inr (some (2, cc_)))), some (.inl a2_), some (.inl 1), some (.inl 0), some (.inl 0), none, none], [], S0_)) rfl ?_
  refine (vl_26 a2_ ii_ cc_ S0_ h1_ hb_ hp_ _).1 1 0 0 S0_ hI_ hF_ ⟨?_, ?_, ?_, ?_, trivial⟩ (Nat.lt_succ_self _)
  · omega
  · exact hp_
  · rfl
  · exact hC_
end
/-! 99.zkaf -/
section
/-! java/lang/Integer.bitCount -/
def vw_7 : sx_Wl := ([], [], [])
def vq_7 (a0_ : Int) (S0_ : sm_S) (u_ : Option sm_V) (S1_ : sm_S) : Prop := S0_ = S1_ ∧ ∃ v_ : Int, u_ = some (.inl v_) ∧ ((0 ≤ v_ ∧ v_ ≤ 63) ∧ (v_ = ((i_add (i_add (i_and (i_add (i_add (i_and (i_sub a0_ (i_and (i_ushr a0_ 1) 1431655765)) 858993459) (i_and (i_ushr (i_sub a0_ (i_and (i_ushr a0_ 1) 1431655765)) 2) 858993459)) (i_ushr (i_add (i_and (i_sub a0_ (i_and (i_ushr a0_ 1) 1431655765)) 858993459) (i_and (i_ushr (i_sub a0_ (i_and (i_ushr a0_ 1) 1431655765)) 2) 858993459)) 4)) 252645135) (i_ushr (i_and (i_add (i_add (i_and (i_sub a0_ (i_and (i_ushr a0_ 1) 1431655765)) 858993459) (i_and (i_ushr (i_sub a0_ (i_and (i_ushr a0_ 1) 1431655765)) 2) 858993459)) (i_ushr (i_add (i_and (i_sub a0_ (i_and (i_ushr a0_ 1) 1431655765)) 858993459) (i_and (i_ushr (i_sub a0_ (i_and (i_ushr a0_ 1) 1431655765)) 2) 858993459)) 4)) 252645135) 8)) (i_ushr (i_add (i_and (i_add (i_add (i_and (i_sub a0_ (i_and (i_ushr a0_ 1) 1431655765)) 858993459) (i_and (i_ushr (i_sub a0_ (i_and (i_ushr a0_ 1) 1431655765)) 2) 858993459)) (i_ushr (i_add (i_and (i_sub a0_ (i_and (i_ushr a0_ 1) 1431655765)) 858993459) (i_and (i_ushr (i_sub a0_ (i_and (i_ushr a0_ 1) 1431655765)) 2) 858993459)) 4)) 252645135) (i_ushr (i_and (i_add (i_add (i_and (i_sub a0_ (i_and (i_ushr a0_ 1) 1431655765)) 858993459) (i_and (i_ushr (i_sub a0_ (i_and (i_ushr a0_ 1) 1431655765)) 2) 858993459)) (i_ushr (i_add (i_and (i_sub a0_ (i_and (i_ushr a0_ 1) 1431655765)) 858993459) (i_and (i_ushr (i_sub a0_ (i_and (i_ushr a0_ 1) 1431655765)) 2) 858993459)) 4)) 252645135) 8)) 16)) % 64)))
set_option maxHeartbeats 400000 in
theorem vc_7 {sc_ : Nat × (Nat → Int)} (a0_ : Int) (S0_ : sm_S) (hI_ : gi S0_) (ha0_ : 0 ≤ a0_ ∧ a0_ ≤ 7) : sm_T (mt_P sc_) 0 7 (0, [some (.inl a0_)], [], S0_) (fun ro9_ => ∃ u_ S1_, ro9_ = (.inl u_, S1_, 0) ∧ vq_7 a0_ S0_ u_ S1_) := by
  have hF_ : ai_fr (sx_W vw_7) S0_ S0_ := ai_fr_rf
  refine sm_T_go 3 (c1 := (3, [some (.inl a0_)], [.inl 1, .inl a0_, .inl a0_], S0_)) rfl ?_
  refine sm_T_bin (w := (i_ushr a0_ 1)) rfl rfl ?_ -- pc_ 3
  have bx1_ := i_ushr_n a0_ 1
  refine sm_T_nt (u := some (.inl 1431655765)) (S1 := S0_) rfl rfl rfl ?_
  refine sm_T_bin (w := (i_and (i_ushr a0_ 1) 1431655765)) rfl rfl ?_ -- pc_ 7
  first | have bx2_ := i_and_p (x_ := (i_ushr a0_ 1)) (y_ := 1431655765) (by omega) (by omega) | have bx2_ := i_and_y (i_ushr a0_ 1) (y_ := 1431655765) (by omega) | have bx2_ := i_and_x (x_ := (i_ushr a0_ 1)) 1431655765 (by omega) | have bx2_ := i_and_n (i_ushr a0_ 1) 1431655765
  refine sm_T_bin (w := (i_sub a0_ (i_and (i_ushr a0_ 1) 1431655765))) rfl rfl ?_ -- pc_ 8
  have bx3_ := i_sub_r a0_ (i_and (i_ushr a0_ 1) 1431655765)
  refine sm_T_go 2 (c1 := (11, [some (.inl (i_sub a0_ (i_and (i_ushr a0_ 1) 1431655765)))], [.inl (i_sub a0_ (i_and (i_ushr a0_ 1) 1431655765))], S0_)) rfl ?_
  refine sm_T_nt (u := some (.inl 858993459)) (S1 := S0_) rfl rfl rfl ?_
  refine sm_T_bin (w := (i_and (i_sub a0_ (i_and (i_ushr a0_ 1) 1431655765)) 858993459)) rfl rfl ?_ -- pc_ 14
  first | have bx4_ := i_and_p (x_ := (i_sub a0_ (i_and (i_ushr a0_ 1) 1431655765))) (y_ := 858993459) (by omega) (by omega) | have bx4_ := i_and_y (i_sub a0_ (i_and (i_ushr a0_ 1) 1431655765)) (y_ := 858993459) (by omega) | have bx4_ := i_and_x (x_ := (i_sub a0_ (i_and (i_ushr a0_ 1) 1431655765))) 858993459 (by omega) | have bx4_ := i_and_n (i_sub a0_ (i_and (i_ushr a0_ 1) 1431655765)) 858993459
  refine sm_T_go 2 (c1 := (17, [some (.inl (i_sub a0_ (i_and (i_ushr a0_ 1) 1431655765)))], [.inl 2, .inl (i_sub a0_ (i_and (i_ushr a0_ 1) 1431655765)), .inl (i_and (i_sub a0_ (i_and (i_ushr a0_ 1) 1431655765)) 858993459)], S0_)) rfl ?_
  refine sm_T_bin (w := (i_ushr (i_sub a0_ (i_and (i_ushr a0_ 1) 1431655765)) 2)) rfl rfl ?_ -- pc_ 17
  have bx5_ := i_ushr_n (i_sub a0_ (i_and (i_ushr a0_ 1) 1431655765)) 2
  refine sm_T_nt (u := some (.inl 858993459)) (S1 := S0_) rfl rfl rfl ?_
  refine sm_T_bin (w := (i_and (i_ushr (i_sub a0_ (i_and (i_ushr a0_ 1) 1431655765)) 2) 858993459)) rfl rfl ?_ -- pc_ 21
  first | have bx6_ := i_and_p (x_ := (i_ushr (i_sub a0_ (i_and (i_ushr a0_ 1) 1431655765)) 2)) (y_ := 858993459) (by omega) (by omega) | have bx6_ := i_and_y (i_ushr (i_sub a0_ (i_and (i_ushr a0_ 1) 1431655765)) 2) (y_ := 858993459) (by omega) | have bx6_ := i_and_x (x_ := (i_ushr (i_sub a0_ (i_and (i_ushr a0_ 1) 1431655765)) 2)) 858993459 (by omega) | have bx6_ := i_and_n (i_ushr (i_sub a0_ (i_and (i_ushr a0_ 1) 1431655765)) 2) 858993459
  refine sm_T_bin (w := (i_add (i_and (i_sub a0_ (i_and (i_ushr a0_ 1) 1431655765)) 858993459) (i_and (i_ushr (i_sub a0_ (i_and (i_ushr a0_ 1) 1431655765)) 2) 858993459))) rfl rfl ?_ -- pc_ 22
  have bx7_ := i_add_r (i_and (i_sub a0_ (i_and (i_ushr a0_ 1) 1431655765)) 858993459) (i_and (i_ushr (i_sub a0_ (i_and (i_ushr a0_ 1) 1431655765)) 2) 858993459)
  refine sm_T_go 4 (c1 := (27, [some (.inl (i_add (i_and (i_sub a0_ (i_and (i_ushr a0_ 1) 1431655765)) 858993459) (i_and (i_ushr (i_sub a0_ (i_and (i_ushr a0_ 1) 1431655765)) 2) 858993459)))], [.inl 4, .inl (i_add (i_and (i_sub a0_ (i_and (i_ushr a0_ 1) 1431655765)) 858993459) (i_and (i_ushr (i_sub a0_ (i_and (i_ushr a0_ 1) 1431655765)) 2) 858993459)), .inl (i_add (i_and (i_sub a0_ (i_and (i_ushr a0_ 1) 1431655765)) 858993459) (i_and (i_ushr (i_sub a0_ (i_and (i_ushr a0_ 1) 1431655765)) 2) 858993459))], S0_)) rfl ?_
  refine sm_T_bin (w := (i_ushr (i_add (i_and (i_sub a0_ (i_and (i_ushr a0_ 1) 1431655765)) 858993459) (i_and (i_ushr (i_sub a0_ (i_and (i_ushr a0_ 1) 1431655765)) 2) 858993459)) 4)) rfl rfl ?_ -- pc_ 27
  have bx8_ := i_ushr_n (i_add (i_and (i_sub a0_ (i_and (i_ushr a0_ 1) 1431655765)) 858993459) (i_and (i_ushr (i_sub a0_ (i_and (i_ushr a0_ 1) 1431655765)) 2) 858993459)) 4
  refine sm_T_bin (w := (i_add (i_add (i_and (i_sub a0_ (i_and (i_ushr a0_ 1) 1431655765)) 858993459) (i_and (i_ushr (i_sub a0_ (i_and (i_ushr a0_ 1) 1431655765)) 2) 858993459)) (i_ushr (i_add (i_and (i_sub a0_ (i_and (i_ushr a0_ 1) 1431655765)) 858993459) (i_and (i_ushr (i_sub a0_ (i_and (i_ushr a0_ 1) 1431655765)) 2) 858993459)) 4))) rfl rfl ?_ -- pc_ 28
  have bx9_ := i_add_r (i_add (i_and (i_sub a0_ (i_and (i_ushr a0_ 1) 1431655765)) 858993459) (i_and (i_ushr (i_sub a0_ (i_and (i_ushr a0_ 1) 1431655765)) 2) 858993459)) (i_ushr (i_add (i_and (i_sub a0_ (i_and (i_ushr a0_ 1) 1431655765)) 858993459) (i_and (i_ushr (i_sub a0_ (i_and (i_ushr a0_ 1) 1431655765)) 2) 858993459)) 4)
  refine sm_T_nt (u := some (.inl 252645135)) (S1 := S0_) rfl rfl rfl ?_
  refine sm_T_bin (w := (i_and (i_add (i_add (i_and (i_sub a0_ (i_and (i_ushr a0_ 1) 1431655765)) 858993459) (i_and (i_ushr (i_sub a0_ (i_and (i_ushr a0_ 1) 1431655765)) 2) 858993459)) (i_ushr (i_add (i_and (i_sub a0_ (i_and (i_ushr a0_ 1) 1431655765)) 858993459) (i_and (i_ushr (i_sub a0_ (i_and (i_ushr a0_ 1) 1431655765)) 2) 858993459)) 4)) 252645135)) rfl rfl ?_ -- pc_ 32
  first | have bx10_ := i_and_p (x_ := (i_add (i_add (i_and (i_sub a0_ (i_and (i_ushr a0_ 1) 1431655765)) 858993459) (i_and (i_ushr (i_sub a0_ (i_and (i_ushr a0_ 1) 1431655765)) 2) 858993459)) (i_ushr (i_add (i_and (i_sub a0_ (i_and (i_ushr a0_ 1) 1431655765)) 858993459) (i_and (i_ushr (i_sub a0_ (i_and (i_ushr a0_ 1) 1431655765)) 2) 858993459)) 4))) (y_ := 252645135) (by omega) (by omega) | have bx10_ := i_and_y (i_add (i_add (i_and (i_sub a0_ (i_and (i_ushr a0_ 1) 1431655765)) 858993459) (i_and (i_ushr (i_sub a0_ (i_and (i_ushr a0_ 1) 1431655765)) 2) 858993459)) (i_ushr (i_add (i_and (i_sub a0_ (i_and (i_ushr a0_ 1) 1431655765)) 858993459) (i_and (i_ushr (i_sub a0_ (i_and (i_ushr a0_ 1) 1431655765)) 2) 858993459)) 4)) (y_ := 252645135) (by omega) | have bx10_ := i_and_x (x_ := (i_add (i_add (i_and (i_sub a0_ (i_and (i_ushr a0_ 1) 1431655765)) 858993459) (i_and (i_ushr (i_sub a0_ (i_and (i_ushr a0_ 1) 1431655765)) 2) 858993459)) (i_ushr (i_add (i_and (i_sub a0_ (i_and (i_ushr a0_ 1) 1431655765)) 858993459) (i_and (i_ushr (i_sub a0_ (i_and (i_ushr a0_ 1) 1431655765)) 2) 858993459)) 4))) 252645135 (by omega) | have bx10_ := i_and_n (i_add (i_add (i_and (i_sub a0_ (i_and (i_ushr a0_ 1) 1431655765)) 858993459) (i_and (i_ushr (i_sub a0_ (i_and (i_ushr a0_ 1) 1431655765)) 2) 858993459)) (i_ushr (i_add (i_and (i_sub a0_ (i_and (i_ushr a0_ 1) 1431655765)) 858993459) (i_and (i_ushr (i_sub a0_ (i_and (i_ushr a0_ 1) 1431655765)) 2) 858993459)) 4)) 252645135
  refine sm_T_go 4 (c1 := (38, [some (.inl (i_and (i_add (i_add (i_and (i_sub a0_ (i_and (i_ushr a0_ 1) 1431655765)) 858993459) (i_and (i_ushr (i_sub a0_ (i_and (i_ushr a0_ 1) 1431655765)) 2) 858993459)) (i_ushr (i_add (i_and (i_sub a0_ (i_and (i_ushr a0_ 1) 1431655765)) 858993459) (i_and (i_ushr (i_sub a0_ (i_and (i_ushr a0_ 1) 1431655765)) 2) 858993459)) 4)) 252645135))], [.inl 8, .inl (i_and (i_add (i_add (i_and (i_sub a0_ (i_and (i_ushr a0_ 1) 1431655765)) 858993459) (i_and (i_ushr (i_sub a0_ (i_and (i_ushr a0_ 1) 1431655765)) 2) 858993459)) (i_ushr (i_add (i_and (i_sub a0_ (i_and (i_ushr a0_ 1) 1431655765)) 858993459) (i_and (i_ushr (i_sub a0_ (i_and (i_ushr a0_ 1) 1431655765)) 2) 858993459)) 4)) 252645135), .inl (i_and (i_add (i_add (i_and (i_sub a0_ (i_and (i_ushr a0_ 1) 1431655765)) 858993459) (i_and (i_ushr (i_sub a0_ (i_and (i_ushr a0_ 1) 1431655765)) 2) 858993459)) (i_ushr (i_add (i_and (i_sub a0_ (i_and (i_ushr a0_ 1) 1431655765)) 858993459) (i_and (i_ushr (i_sub a0_ (i_and (i_ushr a0_ 1) 1431655765)) 2) 858993459)) 4)) 252645135)], S0_)) rfl ?_
  refine sm_T_bin (w := (i_ushr (i_and (i_add (i_add (i_and (i_sub a0_ (i_and (i_ushr a0_ 1) 1431655765)) 858993459) (i_and (i_ushr (i_sub a0_ (i_and (i_ushr a0_ 1) 1431655765)) 2) 858993459)) (i_ushr (i_add (i_and (i_sub a0_ (i_and (i_ushr a0_ 1) 1431655765)) 858993459) (i_and (i_ushr (i_sub a0_ (i_and (i_ushr a0_ 1) 1431655765)) 2) 858993459)) 4)) 252645135) 8)) rfl rfl ?_ -- pc_ 38
  have bx11_ := i_ushr_n (i_and (i_add (i_add (i_and (i_sub a0_ (i_and (i_ushr a0_ 1) 1431655765)) 858993459) (i_and (i_ushr (i_sub a0_ (i_and (i_ushr a0_ 1) 1431655765)) 2) 858993459)) (i_ushr (i_add (i_and (i_sub a0_ (i_and (i_ushr a0_ 1) 1431655765)) 858993459) (i_and (i_ushr (i_sub a0_ (i_and (i_ushr a0_ 1) 1431655765)) 2) 858993459)) 4)) 252645135) 8
  refine sm_T_bin (w := (i_add (i_and (i_add (i_add (i_and (i_sub a0_ (i_and (i_ushr a0_ 1) 1431655765)) 858993459) (i_and (i_ushr (i_sub a0_ (i_and (i_ushr a0_ 1) 1431655765)) 2) 858993459)) (i_ushr (i_add (i_and (i_sub a0_ (i_and (i_ushr a0_ 1) 1431655765)) 858993459) (i_and (i_ushr (i_sub a0_ (i_and (i_ushr a0_ 1) 1431655765)) 2) 858993459)) 4)) 252645135) (i_ushr (i_and (i_add (i_add (i_and (i_sub a0_ (i_and (i_ushr a0_ 1) 1431655765)) 858993459) (i_and (i_ushr (i_sub a0_ (i_and (i_ushr a0_ 1) 1431655765)) 2) 858993459)) (i_ushr (i_add (i_and (i_sub a0_ (i_and (i_ushr a0_ 1) 1431655765)) 858993459) (i_and (i_ushr (i_sub a0_ (i_and (i_ushr a0_ 1) 1431655765)) 2) 858993459)) 4)) 252645135) 8))) rfl rfl ?_ -- pc_ 39
  have bx12_ := i_add_r (i_and (i_add (i_add (i_and (i_sub a0_ (i_and (i_ushr a0_ 1) 1431655765)) 858993459) (i_and (i_ushr (i_sub a0_ (i_and (i_ushr a0_ 1) 1431655765)) 2) 858993459)) (i_ushr (i_add (i_and (i_sub a0_ (i_and (i_ushr a0_ 1) 1431655765)) 858993459) (i_and (i_ushr (i_sub a0_ (i_and (i_ushr a0_ 1) 1431655765)) 2) 858993459)) 4)) 252645135) (i_ushr (i_and (i_add (i_add (i_and (i_sub a0_ (i_and (i_ushr a0_ 1) 1431655765)) 858993459) (i_and (i_ushr (i_sub a0_ (i_and (i_ushr a0_ 1) 1431655765)) 2) 858993459)) (i_ushr (i_add (i_and (i_sub a0_ (i_and (i_ushr a0_ 1) 1431655765)) 858993459) (i_and (i_ushr (i_sub a0_ (i_and (i_ushr a0_ 1) 1431655765)) 2) 858993459)) 4)) 252645135) 8)
  refine sm_T_go 4 (c1 := (45, [some (.inl (i_add (i_and (i_add (i_add (i_and (i_sub a0_ (i_and (i_ushr a0_ 1) 1431655765)) 858993459) (i_and (i_ushr (i_sub a0_ (i_and (i_ushr a0_ 1) 1431655765)) 2) 858993459)) (i_ushr (i_add (i_and (i_sub a0_ (i_and (i_ushr a0_ 1) 1431655765)) 858993459) (i_and (i_ushr (i_sub a0_ (i_and (i_ushr a0_ 1) 1431655765)) 2) 858993459)) 4)) 252645135) (i_ushr (i_and (i_add (i_add (i_and (i_sub a0_ (i_and (i_ushr a0_ 1) 1431655765)) 858993459) (i_and (i_ushr (i_sub a0_ (i_and (i_ushr a0_ 1) 1431655765)) 2) 858993459)) (i_ushr (i_add (i_and (i_sub a0_ (i_and (i_ushr a0_ 1) 1431655765)) 858993459) (i_and (i_ushr (i_sub a0_ (i_and (i_ushr a0_ 1) 1431655765)) 2) 858993459)) 4)) 252645135) 8)))], [.inl 16, .inl (i_add (i_and (i_add (i_add (i_and (i_sub a0_ (i_and (i_ushr a0_ 1) 1431655765)) 858993459) (i_and (i_ushr (i_sub a0_ (i_and (i_ushr a0_ 1) 1431655765)) 2) 858993459)) (i_ushr (i_add (i_and (i_sub a0_ (i_and (i_ushr a0_ 1) 1431655765)) 858993459) (i_and (i_ushr (i_sub a0_ (i_and (i_ushr a0_ 1) 1431655765)) 2) 858993459)) 4)) 252645135) (i_ushr (i_and (i_add (i_add (i_and (i_sub a0_ (i_and (i_ushr a0_ 1) 1431655765)) 858993459) (i_and (i_ushr (i_sub a0_ (i_and (i_ushr a0_ 1) 1431655765)) 2) 858993459)) (i_ushr (i_add (i_and (i_sub a0_ (i_and (i_ushr a0_ 1) 1431655765)) 858993459) (i_and (i_ushr (i_sub a0_ (i_and (i_ushr a0_ 1) 1431655765)) 2) 858993459)) 4)) 252645135) 8)), .inl (i_add (i_and (i_add (i_add (i_and (i_sub a0_ (i_and (i_ushr a0_ 1) 1431655765)) 858993459) (i_and (i_ushr (i_sub a0_ (i_and (i_ushr a0_ 1) 1431655765)) 2) 858993459)) (i_ushr (i_add (i_and (i_sub a0_ (i_and (i_ushr a0_ 1) 1431655765)) 858993459) (i_and (i_ushr (i_sub a0_ (i_and (i_ushr a0_ 1) 1431655765)) 2) 858993459)) 4)) 252645135) (i_ushr (i_and (i_add (i_add (i_and (i_sub a0_ (i_and (i_ushr a0_ 1) 1431655765)) 858993459) (i_and (i_ushr (i_sub a0_ (i_and (i_ushr a0_ 1) 1431655765)) 2) 858993459)) (i_ushr (i_add (i_and (i_sub a0_ (i_and (i_ushr a0_ 1) 1431655765)) 858993459) (i_and (i_ushr (i_sub a0_ (i_and (i_ushr a0_ 1) 1431655765)) 2) 858993459)) 4)) 252645135) 8))], S0_)) rfl ?_
  refine sm_T_bin (w := (i_ushr (i_add (i_and (i_add (i_add (i_and (i_sub a0_ (i_and (i_ushr a0_ 1) 1431655765)) 858993459) (i_and (i_ushr (i_sub a0_ (i_and (i_ushr a0_ 1) 1431655765)) 2) 858993459)) (i_ushr (i_add (i_and (i_sub a0_ (i_and (i_ushr a0_ 1) 1431655765)) 858993459) (i_and (i_ushr (i_sub a0_ (i_and (i_ushr a0_ 1) 1431655765)) 2) 858993459)) 4)) 252645135) (i_ushr (i_and (i_add (i_add (i_and (i_sub a0_ (i_and (i_ushr a0_ 1) 1431655765)) 858993459) (i_and (i_ushr (i_sub a0_ (i_and (i_ushr a0_ 1) 1431655765)) 2) 858993459)) (i_ushr (i_add (i_and (i_sub a0_ (i_and (i_ushr a0_ 1) 1431655765)) 858993459) (i_and (i_ushr (i_sub a0_ (i_and (i_ushr a0_ 1) 1431655765)) 2) 858993459)) 4)) 252645135) 8)) 16)) rfl rfl ?_ -- pc_ 45
  have bx13_ := i_ushr_n (i_add (i_and (i_add (i_add (i_and (i_sub a0_ (i_and (i_ushr a0_ 1) 1431655765)) 858993459) (i_and (i_ushr (i_sub a0_ (i_and (i_ushr a0_ 1) 1431655765)) 2) 858993459)) (i_ushr (i_add (i_and (i_sub a0_ (i_and (i_ushr a0_ 1) 1431655765)) 858993459) (i_and (i_ushr (i_sub a0_ (i_and (i_ushr a0_ 1) 1431655765)) 2) 858993459)) 4)) 252645135) (i_ushr (i_and (i_add (i_add (i_and (i_sub a0_ (i_and (i_ushr a0_ 1) 1431655765)) 858993459) (i_and (i_ushr (i_sub a0_ (i_and (i_ushr a0_ 1) 1431655765)) 2) 858993459)) (i_ushr (i_add (i_and (i_sub a0_ (i_and (i_ushr a0_ 1) 1431655765)) 858993459) (i_and (i_ushr (i_sub a0_ (i_and (i_ushr a0_ 1) 1431655765)) 2) 858993459)) 4)) 252645135) 8)) 16
  refine sm_T_bin (w := (i_add (i_add (i_and (i_add (i_add (i_and (i_sub a0_ (i_and (i_ushr a0_ 1) 1431655765)) 858993459) (i_and (i_ushr (i_sub a0_ (i_and (i_ushr a0_ 1) 1431655765)) 2) 858993459)) (i_ushr (i_add (i_and (i_sub a0_ (i_and (i_ushr a0_ 1) 1431655765)) 858993459) (i_and (i_ushr (i_sub a0_ (i_and (i_ushr a0_ 1) 1431655765)) 2) 858993459)) 4)) 252645135) (i_ushr (i_and (i_add (i_add (i_and (i_sub a0_ (i_and (i_ushr a0_ 1) 1431655765)) 858993459) (i_and (i_ushr (i_sub a0_ (i_and (i_ushr a0_ 1) 1431655765)) 2) 858993459)) (i_ushr (i_add (i_and (i_sub a0_ (i_and (i_ushr a0_ 1) 1431655765)) 858993459) (i_and (i_ushr (i_sub a0_ (i_and (i_ushr a0_ 1) 1431655765)) 2) 858993459)) 4)) 252645135) 8)) (i_ushr (i_add (i_and (i_add (i_add (i_and (i_sub a0_ (i_and (i_ushr a0_ 1) 1431655765)) 858993459) (i_and (i_ushr (i_sub a0_ (i_and (i_ushr a0_ 1) 1431655765)) 2) 858993459)) (i_ushr (i_add (i_and (i_sub a0_ (i_and (i_ushr a0_ 1) 1431655765)) 858993459) (i_and (i_ushr (i_sub a0_ (i_and (i_ushr a0_ 1) 1431655765)) 2) 858993459)) 4)) 252645135) (i_ushr (i_and (i_add (i_add (i_and (i_sub a0_ (i_and (i_ushr a0_ 1) 1431655765)) 858993459) (i_and (i_ushr (i_sub a0_ (i_and (i_ushr a0_ 1) 1431655765)) 2) 858993459)) (i_ushr (i_add (i_and (i_sub a0_ (i_and (i_ushr a0_ 1) 1431655765)) 858993459) (i_and (i_ushr (i_sub a0_ (i_and (i_ushr a0_ 1) 1431655765)) 2) 858993459)) 4)) 252645135) 8)) 16))) rfl rfl ?_ -- pc_ 46
  have bx14_ := i_add_r (i_add (i_and (i_add (i_add (i_and (i_sub a0_ (i_and (i_ushr a0_ 1) 1431655765)) 858993459) (i_and (i_ushr (i_sub a0_ (i_and (i_ushr a0_ 1) 1431655765)) 2) 858993459)) (i_ushr (i_add (i_and (i_sub a0_ (i_and (i_ushr a0_ 1) 1431655765)) 858993459) (i_and (i_ushr (i_sub a0_ (i_and (i_ushr a0_ 1) 1431655765)) 2) 858993459)) 4)) 252645135) (i_ushr (i_and (i_add (i_add (i_and (i_sub a0_ (i_and (i_ushr a0_ 1) 1431655765)) 858993459) (i_and (i_ushr (i_sub a0_ (i_and (i_ushr a0_ 1) 1431655765)) 2) 858993459)) (i_ushr (i_add (i_and (i_sub a0_ (i_and (i_ushr a0_ 1) 1431655765)) 858993459) (i_and (i_ushr (i_sub a0_ (i_and (i_ushr a0_ 1) 1431655765)) 2) 858993459)) 4)) 252645135) 8)) (i_ushr (i_add (i_and (i_add (i_add (i_and (i_sub a0_ (i_and (i_ushr a0_ 1) 1431655765)) 858993459) (i_and (i_ushr (i_sub a0_ (i_and (i_ushr a0_ 1) 1431655765)) 2) 858993459)) (i_ushr (i_add (i_and (i_sub a0_ (i_and (i_ushr a0_ 1) 1431655765)) 858993459) (i_and (i_ushr (i_sub a0_ (i_and (i_ushr a0_ 1) 1431655765)) 2) 858993459)) 4)) 252645135) (i_ushr (i_and (i_add (i_add (i_and (i_sub a0_ (i_and (i_ushr a0_ 1) 1431655765)) 858993459) (i_and (i_ushr (i_sub a0_ (i_and (i_ushr a0_ 1) 1431655765)) 2) 858993459)) (i_ushr (i_add (i_and (i_sub a0_ (i_and (i_ushr a0_ 1) 1431655765)) 858993459) (i_and (i_ushr (i_sub a0_ (i_and (i_ushr a0_ 1) 1431655765)) 2) 858993459)) 4)) 252645135) 8)) 16)
  refine sm_T_go 3 (c1 := (51, [some (.inl (i_add (i_add (i_and (i_add (i_add (i_and (i_sub a0_ (i_and (i_ushr a0_ 1) 1431655765)) 858993459) (i_and (i_ushr (i_sub a0_ (i_and (i_ushr a0_ 1) 1431655765)) 2) 858993459)) (i_ushr (i_add (i_and (i_sub a0_ (i_and (i_ushr a0_ 1) 1431655765)) 858993459) (i_and (i_ushr (i_sub a0_ (i_and (i_ushr a0_ 1) 1431655765)) 2) 858993459)) 4)) 252645135) (i_ushr (i_and (i_add (i_add (i_and (i_sub a0_ (i_and (i_ushr a0_ 1) 1431655765)) 858993459) (i_and (i_ushr (i_sub a0_ (i_and (i_ushr a0_ 1) 1431655765)) 2) 858993459)) (i_ushr (i_add (i_and (i_sub a0_ (i_and (i_ushr a0_ 1) 1431655765)) 858993459) (i_and (i_ushr (i_sub a0_ (i_and (i_ushr a0_ 1) 1431655765)) 2) 858993459)) 4)) 252645135) 8)) (i_ushr (i_add (i_and (i_add (i_add (i_and (i_sub a0_ (i_and (i_ushr a0_ 1) 1431655765)) 858993459) (i_and (i_ushr (i_sub a0_ (i_and (i_ushr a0_ 1) 1431655765)) 2) 858993459)) (i_ushr (i_add (i_and (i_sub a0_ (i_and (i_ushr a0_ 1) 1431655765)) 858993459) (i_and (i_ushr (i_sub a0_ (i_and (i_ushr a0_ 1) 1431655765)) 2) 858993459)) 4)) 252645135) (i_ushr (i_and (i_add (i_add (i_and (i_sub a0_ (i_and (i_ushr a0_ 1) 1431655765)) 858993459) (i_and (i_ushr (i_sub a0_ (i_and (i_ushr a0_ 1) 1431655765)) 2) 858993459)) (i_ushr (i_add (i_and (i_sub a0_ (i_and (i_ushr a0_ 1) 1431655765)) 858993459) (i_and (i_ushr (i_sub a0_ (i_and (i_ushr a0_ 1) 1431655765)) 2) 858993459)) 4)) 252645135) 8)) 16)))], [.inl 63, .inl (i_add (i_add (i_and (i_add (i_add (i_and (i_sub a0_ (i_and (i_ushr a0_ 1) 1431655765)) 858993459) (i_and (i_ushr (i_sub a0_ (i_and (i_ushr a0_ 1) 1431655765)) 2) 858993459)) (i_ushr (i_add (i_and (i_sub a0_ (i_and (i_ushr a0_ 1) 1431655765)) 858993459) (i_and (i_ushr (i_sub a0_ (i_and (i_ushr a0_ 1) 1431655765)) 2) 858993459)) 4)) 252645135) (i_ushr (i_and (i_add (i_add (i_and (i_sub a0_ (i_and (i_ushr a0_ 1) 1431655765)) 858993459) (i_and (i_ushr (i_sub a0_ (i_and (i_ushr a0_ 1) 1431655765)) 2) 858993459)) (i_ushr (i_add (i_and (i_sub a0_ (i_and (i_ushr a0_ 1) 1431655765)) 858993459) (i_and (i_ushr (i_sub a0_ (i_and (i_ushr a0_ 1) 1431655765)) 2) 858993459)) 4)) 252645135) 8)) (i_ushr (i_add (i_and (i_add (i_add (i_and (i_sub a0_ (i_and (i_ushr a0_ 1) 1431655765)) 858993459) (i_and (i_ushr (i_sub a0_ (i_and (i_ushr a0_ 1) 1431655765)) 2) 858993459)) (i_ushr (i_add (i_and (i_sub a0_ (i_and (i_ushr a0_ 1) 1431655765)) 858993459) (i_and (i_ushr (i_sub a0_ (i_and (i_ushr a0_ 1) 1431655765)) 2) 858993459)) 4)) 252645135) (i_ushr (i_and (i_add (i_add (i_and (i_sub a0_ (i_and (i_ushr a0_ 1) 1431655765)) 858993459) (i_and (i_ushr (i_sub a0_ (i_and (i_ushr a0_ 1) 1431655765)) 2) 858993459)) (i_ushr (i_add (i_and (i_sub a0_ (i_and (i_ushr a0_ 1) 1431655765)) 858993459) (i_and (i_ushr (i_sub a0_ (i_and (i_ushr a0_ 1) 1431655765)) 2) 858993459)) 4)) 252645135) 8)) 16))], S0_)) rfl ?_
  refine sm_T_bin (w := ((i_add (i_add (i_and (i_add (i_add (i_and (i_sub a0_ (i_and (i_ushr a0_ 1) 1431655765)) 858993459) (i_and (i_ushr (i_sub a0_ (i_and (i_ushr a0_ 1) 1431655765)) 2) 858993459)) (i_ushr (i_add (i_and (i_sub a0_ (i_and (i_ushr a0_ 1) 1431655765)) 858993459) (i_and (i_ushr (i_sub a0_ (i_and (i_ushr a0_ 1) 1431655765)) 2) 858993459)) 4)) 252645135) (i_ushr (i_and (i_add (i_add (i_and (i_sub a0_ (i_and (i_ushr a0_ 1) 1431655765)) 858993459) (i_and (i_ushr (i_sub a0_ (i_and (i_ushr a0_ 1) 1431655765)) 2) 858993459)) (i_ushr (i_add (i_and (i_sub a0_ (i_and (i_ushr a0_ 1) 1431655765)) 858993459) (i_and (i_ushr (i_sub a0_ (i_and (i_ushr a0_ 1) 1431655765)) 2) 858993459)) 4)) 252645135) 8)) (i_ushr (i_add (i_and (i_add (i_add (i_and (i_sub a0_ (i_and (i_ushr a0_ 1) 1431655765)) 858993459) (i_and (i_ushr (i_sub a0_ (i_and (i_ushr a0_ 1) 1431655765)) 2) 858993459)) (i_ushr (i_add (i_and (i_sub a0_ (i_and (i_ushr a0_ 1) 1431655765)) 858993459) (i_and (i_ushr (i_sub a0_ (i_and (i_ushr a0_ 1) 1431655765)) 2) 858993459)) 4)) 252645135) (i_ushr (i_and (i_add (i_add (i_and (i_sub a0_ (i_and (i_ushr a0_ 1) 1431655765)) 858993459) (i_and (i_ushr (i_sub a0_ (i_and (i_ushr a0_ 1) 1431655765)) 2) 858993459)) (i_ushr (i_add (i_and (i_sub a0_ (i_and (i_ushr a0_ 1) 1431655765)) 858993459) (i_and (i_ushr (i_sub a0_ (i_and (i_ushr a0_ 1) 1431655765)) 2) 858993459)) 4)) 252645135) 8)) 16)) % 64)) rfl (bi_msk (k := 6) (by decide)) ?_ -- pc_ 51
  refine sm_T_ri rfl ⟨_, _, rfl, rfl, _, rfl, ?_⟩
  first | (refine ⟨⟨?_, ?_⟩, rfl⟩ <;> omega) | omega | (refine ⟨by omega, ?_⟩; omega)
end
/-! 99.zkag -/
section
/-! Board.countWire -/
def vw_30 : sx_Wl := ([], [], [])
def vq_30 (a1_ : Int) (a2_ : Int) (ii_ : Nat) (S0_ : sm_S) (u_ : Option sm_V) (S1_ : sm_S) : Prop := S0_ = S1_ ∧ ∃ v_ : Int, u_ = some (.inl v_) ∧ (True)
set_option maxHeartbeats 400000 in
theorem vl_30 {sc_ : Nat × (Nat → Int)} (a1_ : Int) (a2_ : Int) (ii_ : Nat) (S0_ : sm_S) (h2_ : 0 ≤ a2_ ∧ a2_ ≤ 2) : ∀ nn_ : Nat, (∀ (ct : Int) (k_ : Int) (S_ : sm_S), gi S_ → ai_fr (sx_W vw_30) S0_ S_ → ((0 ≤ k_ ∧ k_ ≤ 4712 ∧ 0 ≤ ct ∧ ct ≤ 63 * k_) ∧ (S_ = S0_) ∧ True) → ((5000 - k_).toNat) < nn_ → sm_T (mt_P sc_) 1 30 (5, [some (.inr (.inr (some (0, ii_)))), some (.inl a1_), some (.inl a2_), some (.inl ct), some (.inl k_)], [], S_) (fun ro9_ => ∃ u_ S1_, ro9_ = (.inl u_, S1_, 0) ∧ vq_30 a1_ a2_ ii_ S0_ u_ S1_)) := by
  intro nn_
  induction nn_ with
  | zero => exact fun _ _ _ _ _ _ h_ => absurd h_ (Nat.not_lt_zero _)
  | succ nn_ ih_ =>
    rintro ct k_ S_ hI_ hF_ ⟨h0_, hS_, -⟩ hm_
    refine sm_T_go 2 (c1 := (8, [some (.inr (.inr (some (0, ii_)))), some (.inl a1_), some (.inl a2_), some (.inl ct), some (.inl k_)], [.inr (.inr (some (0, ii_))), .inl k_], S_)) rfl ?_
    refine sm_T_cal (d1 := 0) (Q1 := vq_16 ii_ S_) rfl rfl (by decide) (vc_16 ii_ S_ hI_ ) (fun u_ Sx1_ px4_ => ?_)
    obtain ⟨rfl, vx6_, rfl, px4_⟩ := px4_
    have p9_ := px4_
    refine sm_T_br (a := 3) (z := 58) rfl (fun cx7_ => ?_) (fun cx7_ => ?_)
    · have cx7_ : vx6_ ≤ k_ := of_decide_eq_true cx7_
      refine sm_T_go 1 (c1 := (70, [some (.inr (.inr (some (0, ii_)))), some (.inl a1_), some (.inl a2_), some (.inl ct), some (.inl k_)], [.inl ct], S_)) rfl ?_
      refine sm_T_ri rfl ⟨_, _, rfl, (by first | rfl | exact hS_.symm), _, rfl, ?_⟩
      trivial
    · have cx7_ : ¬ (vx6_ ≤ k_) := of_decide_eq_false cx7_
      refine sm_T_go 3 (c1 := (20, [some (.inr (.inr (some (0, ii_)))), some (.inl a1_), some (.inl a2_), some (.inl ct), some (.inl k_)], [.inl k_, .inr (.inr (some (22, (0 + ii_))))], S_)) rfl ?_
      refine sm_T_iald (n := 4712) rfl rfl (by omega) (by omega) ?_
      have bx8_ : (-1) ≤ S_.2.2.1 22 (0 + ii_) k_.toNat ∧ S_.2.2.1 22 (0 + ii_) k_.toNat ≤ 161 := hI_.2 22 (0 + ii_) _
      refine sm_T_go 1 (c1 := (22, [some (.inr (.inr (some (0, ii_)))), some (.inl a1_), some (.inl a2_), some (.inl ct), some (.inl k_)], [.inl a1_, .inl (S_.2.2.1 22 (0 + ii_) k_.toNat)], S_)) rfl ?_
      refine sm_T_br (a := 1) (z := 41) rfl (fun cx9_ => ?_) (fun cx9_ => ?_)
      · have cx9_ : (S_.2.2.1 22 (0 + ii_) k_.toNat) ≠ a1_ := of_decide_eq_true cx9_
        refine sm_T_inc (a := 4) (z := 1) (v := k_) (w := k_ + 1) rfl rfl (by omega) (by omega) (by omega) ?_ -- pc_ 63
        refine sm_T_go 1 (c1 := (5, [some (.inr (.inr (some (0, ii_)))), some (.inl a1_), some (.inl a2_), some (.inl ct), some (.inl (k_ + 1))], [], S_)) rfl ?_
        refine ih_ ct (k_ + 1) S_ hI_ hF_ ⟨?_, ?_, trivial⟩ ?_
        · omega
        · first | rfl | exact hS_
        · omega
      · have cx9_ : ¬ ((S_.2.2.1 22 (0 + ii_) k_.toNat) ≠ a1_) := of_decide_eq_false cx9_
        refine sm_T_go 2 (c1 := (27, [some (.inr (.inr (some (0, ii_)))), some (.inl a1_), some (.inl a2_), some (.inl ct), some (.inl k_)], [.inl a2_, .inl ct], S_)) rfl ?_
        refine sm_T_b0 (a := 1) (z := 7) rfl (fun cx10_ => ?_) (fun cx10_ => ?_)
        · have cx10_ : a2_ ≠ 0 := of_decide_eq_true cx10_
          refine sm_T_go 2 (c1 := (36, [some (.inr (.inr (some (0, ii_)))), some (.inl a1_), some (.inl a2_), some (.inl ct), some (.inl k_)], [.inl 1, .inl a2_, .inl ct], S_)) rfl ?_
          refine sm_T_br (a := 1) (z := 13) rfl (fun cx11_ => ?_) (fun cx11_ => ?_)
          · have cx11_ : a2_ ≠ 1 := of_decide_eq_true cx11_
            refine sm_T_go 3 (c1 := (55, [some (.inr (.inr (some (0, ii_)))), some (.inl a1_), some (.inl a2_), some (.inl ct), some (.inl k_)], [.inl k_, .inr (.inr (some (23, (0 + ii_)))), .inl ct], S_)) rfl ?_
            refine sm_T_iald (n := 4712) rfl rfl (by omega) (by omega) ?_
            have bx12_ : 0 ≤ S_.2.2.1 23 (0 + ii_) k_.toNat ∧ S_.2.2.1 23 (0 + ii_) k_.toNat ≤ 7 := hI_.2 23 (0 + ii_) _
            refine sm_T_go 1 (c1 := (57, [some (.inr (.inr (some (0, ii_)))), some (.inl a1_), some (.inl a2_), some (.inl ct), some (.inl k_)], [.inl 4, .inl (S_.2.2.1 23 (0 + ii_) k_.toNat), .inl ct], S_)) rfl ?_
            refine sm_T_bin (w := (i_and (S_.2.2.1 23 (0 + ii_) k_.toNat) 4)) rfl rfl ?_ -- pc_ 57
            first | have bx13_ := i_and_p (x_ := (S_.2.2.1 23 (0 + ii_) k_.toNat)) (y_ := 4) (by omega) (by omega) | have bx13_ := i_and_y (S_.2.2.1 23 (0 + ii_) k_.toNat) (y_ := 4) (by omega) | have bx13_ := i_and_x (x_ := (S_.2.2.1 23 (0 + ii_) k_.toNat)) 4 (by omega) | have bx13_ := i_and_n (S_.2.2.1 23 (0 + ii_) k_.toNat) 4
            refine sm_T_cal (d1 := 0) (Q1 := vq_7 (i_and (S_.2.2.1 23 (0 + ii_) k_.toNat) 4) S_) rfl rfl (by decide) (vc_7 (i_and (S_.2.2.1 23 (0 + ii_) k_.toNat) 4) S_ hI_ (by omega)) (fun u_ Sx14_ px17_ => ?_)
            obtain ⟨rfl, vx19_, rfl, px17_⟩ := px17_
            have b9_ := px17_
            refine sm_T_bin (w := ct + vx19_) rfl (bi_add (by omega) (by omega) (by omega)) ?_ -- pc_ 61
            refine sm_T_go 1 (c1 := (63, [some (.inr (.inr (some (0, ii_)))), some (.inl a1_), some (.inl a2_), some (.inl (ct + vx19_)), some (.inl k_)], [], S_)) rfl ?_
            refine sm_T_inc (a := 4) (z := 1) (v := k_) (w := k_ + 1) rfl rfl (by omega) (by omega) (by omega) ?_ -- pc_ 63
            refine sm_T_go 1 (c1 := (5, [some (.inr (.inr (some (0, ii_)))), some (.inl a1_), some (.inl a2_), some (.inl (ct + vx19_)), some (.inl (k_ + 1))], [], S_)) rfl ?_
            refine ih_ (ct + vx19_) (k_ + 1) S_ hI_ hF_ ⟨?_, ?_, trivial⟩ ?_
            · omega
            · first | rfl | exact hS_
            · omega
          · have cx11_ : ¬ (a2_ ≠ 1) := of_decide_eq_false cx11_
            refine sm_T_go 3 (c1 := (45, [some (.inr (.inr (some (0, ii_)))), some (.inl a1_), some (.inl a2_), some (.inl ct), some (.inl k_)], [.inl k_, .inr (.inr (some (23, (0 + ii_)))), .inl ct], S_)) rfl ?_
            refine sm_T_iald (n := 4712) rfl rfl (by omega) (by omega) ?_
            have bx20_ : 0 ≤ S_.2.2.1 23 (0 + ii_) k_.toNat ∧ S_.2.2.1 23 (0 + ii_) k_.toNat ≤ 7 := hI_.2 23 (0 + ii_) _
            refine sm_T_go 1 (c1 := (58, [some (.inr (.inr (some (0, ii_)))), some (.inl a1_), some (.inl a2_), some (.inl ct), some (.inl k_)], [.inl (S_.2.2.1 23 (0 + ii_) k_.toNat), .inl ct], S_)) rfl ?_
            refine sm_T_cal (d1 := 0) (Q1 := vq_7 (S_.2.2.1 23 (0 + ii_) k_.toNat) S_) rfl rfl (by decide) (vc_7 (S_.2.2.1 23 (0 + ii_) k_.toNat) S_ hI_ (by omega)) (fun u_ Sx21_ px24_ => ?_)
            obtain ⟨rfl, vx26_, rfl, px24_⟩ := px24_
            have b9_ := px24_
            refine sm_T_bin (w := ct + vx26_) rfl (bi_add (by omega) (by omega) (by omega)) ?_ -- pc_ 61
            refine sm_T_go 1 (c1 := (63, [some (.inr (.inr (some (0, ii_)))), some (.inl a1_), some (.inl a2_), some (.inl (ct + vx26_)), some (.inl k_)], [], S_)) rfl ?_
            refine sm_T_inc (a := 4) (z := 1) (v := k_) (w := k_ + 1) rfl rfl (by omega) (by omega) (by omega) ?_ -- pc_ 63
            refine sm_T_go 1 (c1 := (5, [some (.inr (.inr (some (0, ii_)))), some (.inl a1_), some (.inl a2_), some (.inl (ct + vx26_)), some (.inl (k_ + 1))], [], S_)) rfl ?_
            refine ih_ (ct + vx26_) (k_ + 1) S_ hI_ hF_ ⟨?_, ?_, trivial⟩ ?_
            · omega
            · first | rfl | exact hS_
            · omega
        · have cx10_ : ¬ (a2_ ≠ 0) := of_decide_eq_false cx10_
          refine sm_T_go 2 (c1 := (61, [some (.inr (.inr (some (0, ii_)))), some (.inl a1_), some (.inl a2_), some (.inl ct), some (.inl k_)], [.inl 1, .inl ct], S_)) rfl ?_
          refine sm_T_bin (w := ct + 1) rfl (bi_add (by omega) (by omega) (by omega)) ?_ -- pc_ 61
          refine sm_T_go 1 (c1 := (63, [some (.inr (.inr (some (0, ii_)))), some (.inl a1_), some (.inl a2_), some (.inl (ct + 1)), some (.inl k_)], [], S_)) rfl ?_
          refine sm_T_inc (a := 4) (z := 1) (v := k_) (w := k_ + 1) rfl rfl (by omega) (by omega) (by omega) ?_ -- pc_ 63
          refine sm_T_go 1 (c1 := (5, [some (.inr (.inr (some (0, ii_)))), some (.inl a1_), some (.inl a2_), some (.inl (ct + 1)), some (.inl (k_ + 1))], [], S_)) rfl ?_
          refine ih_ (ct + 1) (k_ + 1) S_ hI_ hF_ ⟨?_, ?_, trivial⟩ ?_
          · omega
          · first | rfl | exact hS_
          · omega
set_option maxHeartbeats 400000 in
theorem vc_30 {sc_ : Nat × (Nat → Int)} (a1_ : Int) (a2_ : Int) (ii_ : Nat) (S0_ : sm_S) (hI_ : gi S0_) (h2_ : 0 ≤ a2_ ∧ a2_ ≤ 2) : sm_T (mt_P sc_) 1 30 (0, [some (.inr (.inr (some (0, ii_)))), some (.inl a1_), some (.inl a2_), none, none], [], S0_) (fun ro9_ => ∃ u_ S1_, ro9_ = (.inl u_, S1_, 0) ∧ vq_30 a1_ a2_ ii_ S0_ u_ S1_) := by
  have hF_ : ai_fr (sx_W vw_30) S0_ S0_ := ai_fr_rf
  refine sm_T_go 4 (c1 := (5, [some (.inr (.inr (some (0, ii_)))), some (.inl a1_), some (.inl a2_), some (.inl 0), some (.inl 0)], [], S0_)) rfl ?_
  refine (vl_30 a1_ a2_ ii_ S0_ h2_ _) 0 0 S0_ hI_ hF_ ⟨?_, ?_, trivial⟩ (Nat.lt_succ_self _)
  · omega
  · first | rfl | exact hS_
end
/-! 99.zkbb -/
section
/-! java/util/Arrays.fill -/
def vw_2e9 : sx_Wl := ([], [39], [])
def vq_2e9 (v0_ : Int) (ii_ : Nat) (S0_ : sm_S) (u_ : Option sm_V) (S1_ : sm_S) : Prop := u_ = none ∧ gi S1_ ∧ ai_fr (sx_W vw_2e9) S0_ S1_ ∧ (cdf ii_ S0_ S1_ ∧ (∀ j_, j_ < 12 → S1_.2.2.1 39 (0 + ii_) j_ = v0_))
set_option maxHeartbeats 400000 in
theorem vl_2e9 {sc_ : Nat × (Nat → Int)} (v0_ : Int) (ii_ : Nat) (S0_ : sm_S) (hv_ : 0 ≤ v0_ ∧ v0_ ≤ 4194303) : ∀ nn_ : Nat, (∀ (k_ : Int) (S_ : sm_S), gi S_ → ai_fr (sx_W vw_2e9) S0_ S_ → ((0 ≤ k_ ∧ k_ ≤ 12) ∧ (∀ j_, j_ < k_.toNat → S_.2.2.1 39 (0 + ii_) j_ = v0_) ∧ (cdf ii_ S0_ S_) ∧ True) → ((12 - k_).toNat) < nn_ → sm_T (mt_P sc_) 0 2 (5, [some (.inr (.inr (some (39, (0 + ii_))))), some (.inl v0_), some (.inl k_), some (.inl 12)], [], S_) (fun ro9_ => ∃ u_ S1_, ro9_ = (.inl u_, S1_, 0) ∧ vq_2e9 v0_ ii_ S0_ u_ S1_)) := by
  intro nn_
  induction nn_ with
  | zero => exact fun _ _ _ _ _ h_ => absurd h_ (Nat.not_lt_zero _)
  | succ nn_ ih_ =>
    rintro k_ S_ hI_ hF_ ⟨h0_, h1_, hC_, -⟩ hm_
    refine sm_T_go 2 (c1 := (7, [some (.inr (.inr (some (39, (0 + ii_))))), some (.inl v0_), some (.inl k_), some (.inl 12)], [.inl 12, .inl k_], S_)) rfl ?_
    refine sm_T_br (a := 3) (z := 13) rfl (fun cx1_ => ?_) (fun cx1_ => ?_)
    · have cx1_ : 12 ≤ k_ := of_decide_eq_true cx1_
      refine sm_T_rv rfl ⟨_, _, rfl, rfl, hI_, hF_, ?_⟩
      refine ⟨hC_, ?_⟩
      exact fun j_ hj_ => h1_ j_ (by omega)
    · have cx1_ : ¬ (12 ≤ k_) := of_decide_eq_false cx1_
      refine sm_T_go 3 (c1 := (13, [some (.inr (.inr (some (39, (0 + ii_))))), some (.inl v0_), some (.inl k_), some (.inl 12)], [.inl v0_, .inl k_, .inr (.inr (some (39, (0 + ii_))))], S_)) rfl ?_
      refine sm_T_iast (n := 12) rfl rfl (by omega) (by omega) ?_
      have hIx2_ : gi (sm_aI S_ 39 (0 + ii_) k_.toNat v0_) := gi_aI hI_ (show 0 ≤ v0_ ∧ v0_ ≤ 4194303 from ⟨by omega, by omega⟩)
      have hFx3_ : ai_fr (sx_W vw_2e9) S0_ (sm_aI S_ 39 (0 + ii_) k_.toNat v0_) := ai_fr_tr hF_ (ai_fr_aI rfl)
      have hCx4_ : cdf ii_ S0_ (sm_aI S_ 39 (0 + ii_) k_.toNat v0_) := cdf_aI hC_ (Or.inr (by rw [show cof 39 = 0 from rfl] <;> omega))
      refine sm_T_inc (a := 2) (z := 1) (v := k_) (w := k_ + 1) rfl rfl (by omega) (by omega) (by omega) ?_ -- pc_ 14
      refine sm_T_go 1 (c1 := (5, [some (.inr (.inr (some (39, (0 + ii_))))), some (.inl v0_), some (.inl (k_ + 1)), some (.inl 12)], [], sm_aI S_ 39 (0 + ii_) k_.toNat v0_)) rfl ?_
      refine ih_ (k_ + 1) (sm_aI S_ 39 (0 + ii_) k_.toNat v0_) hIx2_ hFx3_ ⟨?_, ?_, ?_, trivial⟩ ?_
      · omega
      · intro j_ hj_
        rw [rd_eq]
        by_cases z_ : j_ = k_.toNat
        · rw [if_pos z_]
        · rw [if_neg z_]; exact h1_ j_ (by omega)
      · exact hCx4_
      · omega
set_option maxHeartbeats 400000 in
theorem vc_2e9 {sc_ : Nat × (Nat → Int)} (v0_ : Int) (ii_ : Nat) (S0_ : sm_S) (hI_ : gi S0_) (hv_ : 0 ≤ v0_ ∧ v0_ ≤ 4194303) : sm_T (mt_P sc_) 0 2 (0, [some (.inr (.inr (some (39, (0 + ii_))))), some (.inl v0_), none, none], [], S0_) (fun ro9_ => ∃ u_ S1_, ro9_ = (.inl u_, S1_, 0) ∧ vq_2e9 v0_ ii_ S0_ u_ S1_) := by
  have hF_ : ai_fr (sx_W vw_2e9) S0_ S0_ := ai_fr_rf
  have hC_ : cdf ii_ S0_ S0_ := cdf_rf
  refine sm_T_go 5 (c1 := (5, [some (.inr (.inr (some (39, (0 + ii_))))), some (.inl v0_), some (.inl 0), some (.inl 12)], [], S0_)) rfl ?_
  refine (vl_2e9 v0_ ii_ S0_ hv_ _) 0 S0_ hI_ hF_ ⟨?_, ?_, ?_, trivial⟩ (Nat.lt_succ_self _)
  · omega
  · (intro j_ hj_; exact absurd hj_ (Nat.not_lt_zero _))
  · exact hC_
end
/-! 99.zkbc -/
section
/-! Chip.start -/
/-! pins set_ so_ far_: those of_ E_ elements, k_ of_ the_ next, a_ inputs, b_ outputs -/
def bpw (bi_ : Nat) (S_ : sm_S) (E_ k_ a_ b_ : Int) : Prop := ∀ p_ : Nat, p_ < 652 → S_.2.2.1 17 (0 + bi_) p_ ≠ -1 → (p_ < 624 ∧ ((((p_ / 4 : Nat) : Int) < E_ ∧ ((p_ % 4 : Nat) : Int) < S_.2.2.1 16 (0 + bi_) (p_ / 4)) ∨ (((p_ / 4 : Nat) : Int) = E_ ∧ ((p_ % 4 : Nat) : Int) < k_))) ∨ (624 ≤ p_ ∧ p_ < 636 ∧ (p_ : Int) < 624 + a_) ∨ (636 ≤ p_ ∧ (p_ : Int) < 636 + b_)
theorem bpw_0 {bi_ : Nat} {S_ : sm_S} {E_ k_ a_ b_ x_ : Int} (h_ : bpw bi_ S_ E_ k_ a_ b_) (hx_ : 0 ≤ x_ ∧ x_ < 652) (hn_ : ¬ ((x_ < 624 ∧ (x_ / 4 < E_ ∨ (x_ / 4 = E_ ∧ x_ % 4 < k_))) ∨ (624 ≤ x_ ∧ x_ < 636 ∧ x_ < 624 + a_) ∨ (636 ≤ x_ ∧ x_ < 636 + b_))) : S_.2.2.1 17 (0 + bi_) x_.toNat = -1 := by
  by_cases z_ : S_.2.2.1 17 (0 + bi_) x_.toNat = -1
  · exact z_
  · exfalso
    have y_ := h_ x_.toNat (by omega) z_
    omega
theorem bpw_s {bi_ : Nat} {S_ S'_ : sm_S} {E_ k_ a_ b_ x_ v_ E'_ k'_ a'_ b'_ : Int} (h_ : bpw bi_ S_ E_ k_ a_ b_) (z_ : S'_.2.2.1 16 (0 + bi_) = S_.2.2.1 16 (0 + bi_)) (q_ : ∀ j_, S'_.2.2.1 17 (0 + bi_) j_ = if 0 ≤ v_ ∧ j_ = x_.toNat then v_ else S_.2.2.1 17 (0 + bi_) j_) (hx_ : 0 ≤ x_)
    (g_ : (x_ < 624 ∧ ((x_ / 4 < E'_ ∧ x_ % 4 < S_.2.2.1 16 (0 + bi_) (x_ / 4).toNat) ∨ (x_ / 4 = E'_ ∧ x_ % 4 < k'_))) ∨ (624 ≤ x_ ∧ x_ < 636 ∧ x_ < 624 + a'_) ∨ (636 ≤ x_ ∧ x_ < 636 + b'_)) (hE_ : E_ = E'_ ∧ k_ ≤ k'_) (ha_ : a_ ≤ a'_ ∧ b_ ≤ b'_) : bpw bi_ S'_ E'_ k'_ a'_ b'_ := by
  intro p_ hp_ hn_
  rw [q_] at hn_
  rw [z_]
  by_cases y_ : 0 ≤ v_ ∧ p_ = x_.toNat
  · have e_ : (x_ / 4).toNat = p_ / 4 := by omega
    rw [e_] at g_
    omega
  · rw [if_neg y_] at hn_
    have w_ := h_ p_ hp_ hn_
    omega
/-- a_ whole element -/
theorem bpw_e {bi_ : Nat} {S_ : sm_S} {E_ k_ a_ b_ : Int} (h_ : bpw bi_ S_ E_ k_ a_ b_) (hE_ : 0 ≤ E_) (hk_ : k_ = S_.2.2.1 16 (0 + bi_) E_.toNat) : bpw bi_ S_ (E_ + 1) 0 a_ b_ := by
  intro p_ hp_ hn_
  have w_ := h_ p_ hp_ hn_
  by_cases y_ : ((p_ / 4 : Nat) : Int) = E_
  · have e_ : E_.toNat = p_ / 4 := by omega
    rw [e_] at hk_
    omega
  · omega
theorem bpw_z {bi_ : Nat} {S_ S'_ : sm_S} {E_ k_ a_ b_ v_ : Int} {e_ : Nat} (h_ : bpw bi_ S_ E_ k_ a_ b_) (z_ : S'_.2.2.1 17 (0 + bi_) = S_.2.2.1 17 (0 + bi_)) (q_ : ∀ j_, S'_.2.2.1 16 (0 + bi_) j_ = if j_ = e_ then v_ else S_.2.2.1 16 (0 + bi_) j_) (he_ : E_ ≤ (e_ : Int)) : bpw bi_ S'_ E_ k_ a_ b_ := by
  intro p_ hp_ hn_
  rw [z_] at hn_
  have w_ := h_ p_ hp_ hn_
  rw [q_]
  split
  · omega
  · exact w_
theorem bpw_p {bi_ ci_ : Nat} {S_ : sm_S} {E_ a_ b_ : Int} (h_ : bpw bi_ S_ E_ 0 a_ b_) (hE_ : E_ = S_.1 2 ci_ 2 + S_.1 2 ci_ 8) (ha_ : a_ = S_.1 2 ci_ 1) (hb_ : b_ = S_.1 2 ci_ 3) : bpp bi_ ci_ S_ := by
  intro p_ hp_ hn_
  have w_ := h_ p_ hp_ hn_
  refine ⟨fun z_ => ?_, fun z_ y_ => ?_, fun z_ => ?_⟩ <;> omega
end
/-! 99.zkbd -/
section
/-! java/util/Arrays.fill -/
def vw_2b7 : sx_Wl := ([], [17], [])
def vq_2b7 (v0_ : Int) (ii_ : Nat) (S0_ : sm_S) (u_ : Option sm_V) (S1_ : sm_S) : Prop := u_ = none ∧ gi S1_ ∧ ai_fr (sx_W vw_2b7) S0_ S1_ ∧ (cdf ii_ S0_ S1_ ∧ (∀ j_, j_ < 652 → S1_.2.2.1 17 (0 + ii_) j_ = v0_))
set_option maxHeartbeats 400000 in
theorem vl_2b7 {sc_ : Nat × (Nat → Int)} (v0_ : Int) (ii_ : Nat) (S0_ : sm_S) (hv_ : (-1) ≤ v0_ ∧ v0_ ≤ 161) : ∀ nn_ : Nat, (∀ (k_ : Int) (S_ : sm_S), gi S_ → ai_fr (sx_W vw_2b7) S0_ S_ → ((0 ≤ k_ ∧ k_ ≤ 652) ∧ (∀ j_, j_ < k_.toNat → S_.2.2.1 17 (0 + ii_) j_ = v0_) ∧ (cdf ii_ S0_ S_) ∧ True) → ((652 - k_).toNat) < nn_ → sm_T (mt_P sc_) 0 2 (5, [some (.inr (.inr (some (17, (0 + ii_))))), some (.inl v0_), some (.inl k_), some (.inl 652)], [], S_) (fun ro9_ => ∃ u_ S1_, ro9_ = (.inl u_, S1_, 0) ∧ vq_2b7 v0_ ii_ S0_ u_ S1_)) := by
  intro nn_
  induction nn_ with
  | zero => exact fun _ _ _ _ _ h_ => absurd h_ (Nat.not_lt_zero _)
  | succ nn_ ih_ =>
    rintro k_ S_ hI_ hF_ ⟨h0_, h1_, hC_, -⟩ hm_
    refine sm_T_go 2 (c1 := (7, [some (.inr (.inr (some (17, (0 + ii_))))), some (.inl v0_), some (.inl k_), some (.inl 652)], [.inl 652, .inl k_], S_)) rfl ?_
    refine sm_T_br (a := 3) (z := 13) rfl (fun cx1_ => ?_) (fun cx1_ => ?_)
    · have cx1_ : 652 ≤ k_ := of_decide_eq_true cx1_
      refine sm_T_rv rfl ⟨_, _, rfl, rfl, hI_, hF_, ?_⟩
      refine ⟨hC_, ?_⟩
      exact fun j_ hj_ => h1_ j_ (by omega)
    · have cx1_ : ¬ (652 ≤ k_) := of_decide_eq_false cx1_
      refine sm_T_go 3 (c1 := (13, [some (.inr (.inr (some (17, (0 + ii_))))), some (.inl v0_), some (.inl k_), some (.inl 652)], [.inl v0_, .inl k_, .inr (.inr (some (17, (0 + ii_))))], S_)) rfl ?_
      refine sm_T_iast (n := 652) rfl rfl (by omega) (by omega) ?_
      have hIx2_ : gi (sm_aI S_ 17 (0 + ii_) k_.toNat v0_) := gi_aI hI_ (show (-1) ≤ v0_ ∧ v0_ ≤ 161 from ⟨by omega, by omega⟩)
      have hFx3_ : ai_fr (sx_W vw_2b7) S0_ (sm_aI S_ 17 (0 + ii_) k_.toNat v0_) := ai_fr_tr hF_ (ai_fr_aI rfl)
      have hCx4_ : cdf ii_ S0_ (sm_aI S_ 17 (0 + ii_) k_.toNat v0_) := cdf_aI hC_ (Or.inr (by rw [show cof 17 = 0 from rfl] <;> omega))
      refine sm_T_inc (a := 2) (z := 1) (v := k_) (w := k_ + 1) rfl rfl (by omega) (by omega) (by omega) ?_ -- pc_ 14
      refine sm_T_go 1 (c1 := (5, [some (.inr (.inr (some (17, (0 + ii_))))), some (.inl v0_), some (.inl (k_ + 1)), some (.inl 652)], [], sm_aI S_ 17 (0 + ii_) k_.toNat v0_)) rfl ?_
      refine ih_ (k_ + 1) (sm_aI S_ 17 (0 + ii_) k_.toNat v0_) hIx2_ hFx3_ ⟨?_, ?_, ?_, trivial⟩ ?_
      · omega
      · intro j_ hj_
        rw [rd_eq]
        by_cases z_ : j_ = k_.toNat
        · rw [if_pos z_]
        · rw [if_neg z_]; exact h1_ j_ (by omega)
      · exact hCx4_
      · omega
set_option maxHeartbeats 400000 in
theorem vc_2b7 {sc_ : Nat × (Nat → Int)} (v0_ : Int) (ii_ : Nat) (S0_ : sm_S) (hI_ : gi S0_) (hv_ : (-1) ≤ v0_ ∧ v0_ ≤ 161) : sm_T (mt_P sc_) 0 2 (0, [some (.inr (.inr (some (17, (0 + ii_))))), some (.inl v0_), none, none], [], S0_) (fun ro9_ => ∃ u_ S1_, ro9_ = (.inl u_, S1_, 0) ∧ vq_2b7 v0_ ii_ S0_ u_ S1_) := by
  have hF_ : ai_fr (sx_W vw_2b7) S0_ S0_ := ai_fr_rf
  have hC_ : cdf ii_ S0_ S0_ := cdf_rf
  refine sm_T_go 5 (c1 := (5, [some (.inr (.inr (some (17, (0 + ii_))))), some (.inl v0_), some (.inl 0), some (.inl 652)], [], S0_)) rfl ?_
  refine (vl_2b7 v0_ ii_ S0_ hv_ _) 0 S0_ hI_ hF_ ⟨?_, ?_, ?_, trivial⟩ (Nat.lt_succ_self _)
  · omega
  · (intro j_ hj_; exact absurd hj_ (Nat.not_lt_zero _))
  · exact hC_
end
/-! 99.zkbe -/
section
/-! java/util/Arrays.fill -/
def vw_2b8 : sx_Wl := ([], [20], [])
def vq_2b8 (v0_ : Int) (ii_ : Nat) (S0_ : sm_S) (u_ : Option sm_V) (S1_ : sm_S) : Prop := u_ = none ∧ gi S1_ ∧ ai_fr (sx_W vw_2b8) S0_ S1_ ∧ (cdf ii_ S0_ S1_ ∧ (∀ j_, j_ < 162 → S1_.2.2.1 20 (0 + ii_) j_ = v0_))
set_option maxHeartbeats 400000 in
theorem vl_2b8 {sc_ : Nat × (Nat → Int)} (v0_ : Int) (ii_ : Nat) (S0_ : sm_S) (hv_ : 0 ≤ v0_ ∧ v0_ ≤ 652) : ∀ nn_ : Nat, (∀ (k_ : Int) (S_ : sm_S), gi S_ → ai_fr (sx_W vw_2b8) S0_ S_ → ((0 ≤ k_ ∧ k_ ≤ 162) ∧ (∀ j_, j_ < k_.toNat → S_.2.2.1 20 (0 + ii_) j_ = v0_) ∧ (cdf ii_ S0_ S_) ∧ True) → ((162 - k_).toNat) < nn_ → sm_T (mt_P sc_) 0 2 (5, [some (.inr (.inr (some (20, (0 + ii_))))), some (.inl v0_), some (.inl k_), some (.inl 162)], [], S_) (fun ro9_ => ∃ u_ S1_, ro9_ = (.inl u_, S1_, 0) ∧ vq_2b8 v0_ ii_ S0_ u_ S1_)) := by
  intro nn_
  induction nn_ with
  | zero => exact fun _ _ _ _ _ h_ => absurd h_ (Nat.not_lt_zero _)
  | succ nn_ ih_ =>
    rintro k_ S_ hI_ hF_ ⟨h0_, h1_, hC_, -⟩ hm_
    refine sm_T_go 2 (c1 := (7, [some (.inr (.inr (some (20, (0 + ii_))))), some (.inl v0_), some (.inl k_), some (.inl 162)], [.inl 162, .inl k_], S_)) rfl ?_
    refine sm_T_br (a := 3) (z := 13) rfl (fun cx1_ => ?_) (fun cx1_ => ?_)
    · have cx1_ : 162 ≤ k_ := of_decide_eq_true cx1_
      refine sm_T_rv rfl ⟨_, _, rfl, rfl, hI_, hF_, ?_⟩
      refine ⟨hC_, ?_⟩
      exact fun j_ hj_ => h1_ j_ (by omega)
    · have cx1_ : ¬ (162 ≤ k_) := of_decide_eq_false cx1_
      refine sm_T_go 3 (c1 := (13, [some (.inr (.inr (some (20, (0 + ii_))))), some (.inl v0_), some (.inl k_), some (.inl 162)], [.inl v0_, .inl k_, .inr (.inr (some (20, (0 + ii_))))], S_)) rfl ?_
      refine sm_T_iast (n := 162) rfl rfl (by omega) (by omega) ?_
      have hIx2_ : gi (sm_aI S_ 20 (0 + ii_) k_.toNat v0_) := gi_aI hI_ (show 0 ≤ v0_ ∧ v0_ ≤ 652 from ⟨by omega, by omega⟩)
      have hFx3_ : ai_fr (sx_W vw_2b8) S0_ (sm_aI S_ 20 (0 + ii_) k_.toNat v0_) := ai_fr_tr hF_ (ai_fr_aI rfl)
      have hCx4_ : cdf ii_ S0_ (sm_aI S_ 20 (0 + ii_) k_.toNat v0_) := cdf_aI hC_ (Or.inr (by rw [show cof 20 = 0 from rfl] <;> omega))
      refine sm_T_inc (a := 2) (z := 1) (v := k_) (w := k_ + 1) rfl rfl (by omega) (by omega) (by omega) ?_ -- pc_ 14
      refine sm_T_go 1 (c1 := (5, [some (.inr (.inr (some (20, (0 + ii_))))), some (.inl v0_), some (.inl (k_ + 1)), some (.inl 162)], [], sm_aI S_ 20 (0 + ii_) k_.toNat v0_)) rfl ?_
      refine ih_ (k_ + 1) (sm_aI S_ 20 (0 + ii_) k_.toNat v0_) hIx2_ hFx3_ ⟨?_, ?_, ?_, trivial⟩ ?_
      · omega
      · intro j_ hj_
        rw [rd_eq]
        by_cases z_ : j_ = k_.toNat
        · rw [if_pos z_]
        · rw [if_neg z_]; exact h1_ j_ (by omega)
      · exact hCx4_
      · omega
set_option maxHeartbeats 400000 in
theorem vc_2b8 {sc_ : Nat × (Nat → Int)} (v0_ : Int) (ii_ : Nat) (S0_ : sm_S) (hI_ : gi S0_) (hv_ : 0 ≤ v0_ ∧ v0_ ≤ 652) : sm_T (mt_P sc_) 0 2 (0, [some (.inr (.inr (some (20, (0 + ii_))))), some (.inl v0_), none, none], [], S0_) (fun ro9_ => ∃ u_ S1_, ro9_ = (.inl u_, S1_, 0) ∧ vq_2b8 v0_ ii_ S0_ u_ S1_) := by
  have hF_ : ai_fr (sx_W vw_2b8) S0_ S0_ := ai_fr_rf
  have hC_ : cdf ii_ S0_ S0_ := cdf_rf
  refine sm_T_go 5 (c1 := (5, [some (.inr (.inr (some (20, (0 + ii_))))), some (.inl v0_), some (.inl 0), some (.inl 162)], [], S0_)) rfl ?_
  refine (vl_2b8 v0_ ii_ S0_ hv_ _) 0 S0_ hI_ hF_ ⟨?_, ?_, ?_, trivial⟩ (Nat.lt_succ_self _)
  · omega
  · (intro j_ hj_; exact absurd hj_ (Nat.not_lt_zero _))
  · exact hC_
end
/-! 99.zkbf -/
section
/-! java/util/Arrays.fill -/
def vw_2b9 : sx_Wl := ([], [21], [])
def vq_2b9 (v0_ : Int) (ii_ : Nat) (S0_ : sm_S) (u_ : Option sm_V) (S1_ : sm_S) : Prop := u_ = none ∧ gi S1_ ∧ ai_fr (sx_W vw_2b9) S0_ S1_ ∧ (cdf ii_ S0_ S1_ ∧ (∀ j_, j_ < 162 → S1_.2.2.1 21 (0 + ii_) j_ = v0_))
set_option maxHeartbeats 400000 in
theorem vl_2b9 {sc_ : Nat × (Nat → Int)} (v0_ : Int) (ii_ : Nat) (S0_ : sm_S) (hv_ : (-9999) ≤ v0_ ∧ v0_ ≤ 20000) : ∀ nn_ : Nat, (∀ (k_ : Int) (S_ : sm_S), gi S_ → ai_fr (sx_W vw_2b9) S0_ S_ → ((0 ≤ k_ ∧ k_ ≤ 162) ∧ (∀ j_, j_ < k_.toNat → S_.2.2.1 21 (0 + ii_) j_ = v0_) ∧ (cdf ii_ S0_ S_) ∧ True) → ((162 - k_).toNat) < nn_ → sm_T (mt_P sc_) 0 2 (5, [some (.inr (.inr (some (21, (0 + ii_))))), some (.inl v0_), some (.inl k_), some (.inl 162)], [], S_) (fun ro9_ => ∃ u_ S1_, ro9_ = (.inl u_, S1_, 0) ∧ vq_2b9 v0_ ii_ S0_ u_ S1_)) := by
  intro nn_
  induction nn_ with
  | zero => exact fun _ _ _ _ _ h_ => absurd h_ (Nat.not_lt_zero _)
  | succ nn_ ih_ =>
    rintro k_ S_ hI_ hF_ ⟨h0_, h1_, hC_, -⟩ hm_
    refine sm_T_go 2 (c1 := (7, [some (.inr (.inr (some (21, (0 + ii_))))), some (.inl v0_), some (.inl k_), some (.inl 162)], [.inl 162, .inl k_], S_)) rfl ?_
    refine sm_T_br (a := 3) (z := 13) rfl (fun cx1_ => ?_) (fun cx1_ => ?_)
    · have cx1_ : 162 ≤ k_ := of_decide_eq_true cx1_
      refine sm_T_rv rfl ⟨_, _, rfl, rfl, hI_, hF_, ?_⟩
      refine ⟨hC_, ?_⟩
      exact fun j_ hj_ => h1_ j_ (by omega)
    · have cx1_ : ¬ (162 ≤ k_) := of_decide_eq_false cx1_
      refine sm_T_go 3 (c1 := (13, [some (.inr (.inr (some (21, (0 + ii_))))), some (.inl v0_), some (.inl k_), some (.inl 162)], [.inl v0_, .inl k_, .inr (.inr (some (21, (0 + ii_))))], S_)) rfl ?_
      refine sm_T_iast (n := 162) rfl rfl (by omega) (by omega) ?_
      have hIx2_ : gi (sm_aI S_ 21 (0 + ii_) k_.toNat v0_) := gi_aI hI_ (show (-9999) ≤ v0_ ∧ v0_ ≤ 20000 from ⟨by omega, by omega⟩)
      have hFx3_ : ai_fr (sx_W vw_2b9) S0_ (sm_aI S_ 21 (0 + ii_) k_.toNat v0_) := ai_fr_tr hF_ (ai_fr_aI rfl)
      have hCx4_ : cdf ii_ S0_ (sm_aI S_ 21 (0 + ii_) k_.toNat v0_) := cdf_aI hC_ (Or.inr (by rw [show cof 21 = 0 from rfl] <;> omega))
      refine sm_T_inc (a := 2) (z := 1) (v := k_) (w := k_ + 1) rfl rfl (by omega) (by omega) (by omega) ?_ -- pc_ 14
      refine sm_T_go 1 (c1 := (5, [some (.inr (.inr (some (21, (0 + ii_))))), some (.inl v0_), some (.inl (k_ + 1)), some (.inl 162)], [], sm_aI S_ 21 (0 + ii_) k_.toNat v0_)) rfl ?_
      refine ih_ (k_ + 1) (sm_aI S_ 21 (0 + ii_) k_.toNat v0_) hIx2_ hFx3_ ⟨?_, ?_, ?_, trivial⟩ ?_
      · omega
      · intro j_ hj_
        rw [rd_eq]
        by_cases z_ : j_ = k_.toNat
        · rw [if_pos z_]
        · rw [if_neg z_]; exact h1_ j_ (by omega)
      · exact hCx4_
      · omega
set_option maxHeartbeats 400000 in
theorem vc_2b9 {sc_ : Nat × (Nat → Int)} (v0_ : Int) (ii_ : Nat) (S0_ : sm_S) (hI_ : gi S0_) (hv_ : (-9999) ≤ v0_ ∧ v0_ ≤ 20000) : sm_T (mt_P sc_) 0 2 (0, [some (.inr (.inr (some (21, (0 + ii_))))), some (.inl v0_), none, none], [], S0_) (fun ro9_ => ∃ u_ S1_, ro9_ = (.inl u_, S1_, 0) ∧ vq_2b9 v0_ ii_ S0_ u_ S1_) := by
  have hF_ : ai_fr (sx_W vw_2b9) S0_ S0_ := ai_fr_rf
  have hC_ : cdf ii_ S0_ S0_ := cdf_rf
  refine sm_T_go 5 (c1 := (5, [some (.inr (.inr (some (21, (0 + ii_))))), some (.inl v0_), some (.inl 0), some (.inl 162)], [], S0_)) rfl ?_
  refine (vl_2b9 v0_ ii_ S0_ hv_ _) 0 S0_ hI_ hF_ ⟨?_, ?_, ?_, trivial⟩ (Nat.lt_succ_self _)
  · omega
  · (intro j_ hj_; exact absurd hj_ (Nat.not_lt_zero _))
  · exact hC_
end
/-! 99.zkbg -/
section
/-! Board.start -/
def vw_11 : sx_Wl := ([(0, 1), (0, 11), (0, 16), (4, 0)], [16, 17, 18, 19, 20, 21], [])
def vq_11 (ii_ : Nat) (cc_ : Nat) (S0_ : sm_S) (u_ : Option sm_V) (S1_ : sm_S) : Prop := u_ = none ∧ gi S1_ ∧ ai_fr (sx_W vw_11) S0_ S1_ ∧ (cdf ii_ S0_ S1_ ∧ (bpn ii_ S1_ ∧ bpp ii_ cc_ S1_ ∧ S1_.1 0 ii_ 1 = 0 ∧ S1_.1 0 ii_ 11 = 0 ∧ S1_.1 4 (0 + ii_) 0 = 0))
set_option maxHeartbeats 400000 in
set_option maxRecDepth 20000 in
theorem vl_11 {sc_ : Nat × (Nat → Int)} (ii_ : Nat) (cc_ : Nat) (S0_ : sm_S) (hs_ : S0_.1 2 cc_ 1 + S0_.1 2 cc_ 2 ≤ 12) : ∀ nn_ : Nat, (∀ (k_ : Int) (S_ : sm_S), gi S_ → ai_fr (sx_W vw_11) S0_ S_ → ((0 ≤ k_ ∧ k_ ≤ 6 ∧ k_ ≤ S0_.1 2 cc_ 2 ∧ S_.1 0 ii_ 1 = 0) ∧ (S_.1 0 ii_ 11 = 0 ∧ S_.1 4 (0 + ii_) 0 = 0) ∧ (bcn ii_ S_) ∧ (bpw ii_ S_ (k_) (0) (0) (0)) ∧ (cdf ii_ S0_ S_) ∧ True) → ((50000 - k_).toNat) < nn_ → sm_T (mt_P sc_) 2 11 (45, [some (.inr (.inr (some (0, ii_)))), some (.inr (.inr (some (2, cc_)))), some (.inl k_), none, none, none], [], S_) (fun ro9_ => ∃ u_ S1_, ro9_ = (.inl u_, S1_, 0) ∧ vq_11 ii_ cc_ S0_ u_ S1_)) ∧ (∀ (g_ : Int) (S_ : sm_S), gi S_ → ai_fr (sx_W vw_11) S0_ S_ → ((0 ≤ g_ ∧ g_ ≤ 150 ∧ g_ ≤ S0_.1 2 cc_ 8 ∧ S_.1 0 ii_ 1 = 0) ∧ (S_.1 0 ii_ 11 = 0 ∧ S_.1 4 (0 + ii_) 0 = 0) ∧ (bcn ii_ S_) ∧ (bpw ii_ S_ (S0_.1 2 cc_ 2 + g_) (0) (0) (0)) ∧ (cdf ii_ S0_ S_) ∧ True) → ((40000 - 10 * g_).toNat) < nn_ → sm_T (mt_P sc_) 2 11 (96, [some (.inr (.inr (some (0, ii_)))), some (.inr (.inr (some (2, cc_)))), some (.inl g_), none, none, none], [], S_) (fun ro9_ => ∃ u_ S1_, ro9_ = (.inl u_, S1_, 0) ∧ vq_11 ii_ cc_ S0_ u_ S1_)) ∧ (∀ (g_ : Int) (el_ : Int) (is_ : Int) (j_ : Int) (S_ : sm_S), gi S_ → ai_fr (sx_W vw_11) S0_ S_ → ((0 ≤ g_ ∧ g_ < 150 ∧ g_ < S0_.1 2 cc_ 8 ∧ el_ = S0_.1 2 cc_ 2 + g_ ∧ 0 ≤ is_ ∧ is_ ≤ 3 ∧ 0 ≤ j_ ∧ j_ ≤ is_ ∧ S_.1 0 ii_ 1 = 0) ∧ (S_.2.2.1 16 (0 + ii_) el_.toNat = is_ + 1) ∧ (S_.1 0 ii_ 11 = 0 ∧ S_.1 4 (0 + ii_) 0 = 0) ∧ (bcn ii_ S_) ∧ (bpw ii_ S_ (el_) (j_) (0) (0)) ∧ (cdf ii_ S0_ S_) ∧ True) → ((40000 - 10 * g_ - 2 - j_).toNat) < nn_ → sm_T (mt_P sc_) 2 11 (131, [some (.inr (.inr (some (0, ii_)))), some (.inr (.inr (some (2, cc_)))), some (.inl g_), some (.inl el_), some (.inl is_), some (.inl j_)], [], S_) (fun ro9_ => ∃ u_ S1_, ro9_ = (.inl u_, S1_, 0) ∧ vq_11 ii_ cc_ S0_ u_ S1_)) ∧ (∀ (k_ : Int) (S_ : sm_S), gi S_ → ai_fr (sx_W vw_11) S0_ S_ → ((0 ≤ k_ ∧ k_ ≤ 12 ∧ k_ ≤ S0_.1 2 cc_ 1 ∧ S_.1 0 ii_ 1 = 0) ∧ (S_.1 0 ii_ 11 = 0 ∧ S_.1 4 (0 + ii_) 0 = 0) ∧ (bcn ii_ S_) ∧ (bpw ii_ S_ (S0_.1 2 cc_ 2 + S0_.1 2 cc_ 8) (0) (k_) (0)) ∧ (cdf ii_ S0_ S_) ∧ True) → ((20000 - k_).toNat) < nn_ → sm_T (mt_P sc_) 2 11 (189, [some (.inr (.inr (some (0, ii_)))), some (.inr (.inr (some (2, cc_)))), some (.inl k_), none, none, none], [], S_) (fun ro9_ => ∃ u_ S1_, ro9_ = (.inl u_, S1_, 0) ∧ vq_11 ii_ cc_ S0_ u_ S1_)) ∧ (∀ (k_ : Int) (S_ : sm_S), gi S_ → ai_fr (sx_W vw_11) S0_ S_ → ((0 ≤ k_ ∧ k_ ≤ 16 ∧ k_ ≤ S0_.1 2 cc_ 3 ∧ S_.1 0 ii_ 1 = 0) ∧ (S_.1 0 ii_ 11 = 0 ∧ S_.1 4 (0 + ii_) 0 = 0) ∧ (bcn ii_ S_) ∧ (bpw ii_ S_ (S0_.1 2 cc_ 2 + S0_.1 2 cc_ 8) (0) (S0_.1 2 cc_ 1) (k_)) ∧ (cdf ii_ S0_ S_) ∧ True) → ((10000 - k_).toNat) < nn_ → sm_T (mt_P sc_) 2 11 (215, [some (.inr (.inr (some (0, ii_)))), some (.inr (.inr (some (2, cc_)))), some (.inl k_), none, none, none], [], S_) (fun ro9_ => ∃ u_ S1_, ro9_ = (.inl u_, S1_, 0) ∧ vq_11 ii_ cc_ S0_ u_ S1_)) := by
  intro nn_
  induction nn_ with
  | zero => exact ⟨fun _ _ _ _ _ h_ => absurd h_ (Nat.not_lt_zero _), fun _ _ _ _ _ h_ => absurd h_ (Nat.not_lt_zero _), fun _ _ _ _ _ _ _ _ h_ => absurd h_ (Nat.not_lt_zero _), fun _ _ _ _ _ h_ => absurd h_ (Nat.not_lt_zero _), fun _ _ _ _ _ h_ => absurd h_ (Nat.not_lt_zero _)⟩
  | succ nn_ ih_ =>
    refine ⟨?_, ?_, ?_, ?_, ?_⟩
    · rintro k_ S_ hI_ hF_ ⟨h0_, hbz_, hcn_, hw_, hC_, -⟩ hm_
      have d1_ : S_.1 2 cc_ 1 = S0_.1 2 cc_ 1 := hF_.1 2 cc_ 1 rfl
      have d2_ : S_.1 2 cc_ 2 = S0_.1 2 cc_ 2 := hF_.1 2 cc_ 2 rfl
      have d3_ : S_.1 2 cc_ 3 = S0_.1 2 cc_ 3 := hF_.1 2 cc_ 3 rfl
      have d8_ : S_.1 2 cc_ 8 = S0_.1 2 cc_ 8 := hF_.1 2 cc_ 8 rfl
      have k1_ : 0 ≤ S_.1 2 cc_ 1 ∧ S_.1 2 cc_ 1 ≤ 12 := hI_.1 2 cc_ 1 rfl
      have k2_ : 0 ≤ S_.1 2 cc_ 2 ∧ S_.1 2 cc_ 2 ≤ 6 := hI_.1 2 cc_ 2 rfl
      have k3_ : 0 ≤ S_.1 2 cc_ 3 ∧ S_.1 2 cc_ 3 ≤ 16 := hI_.1 2 cc_ 3 rfl
      have k8_ : 0 ≤ S_.1 2 cc_ 8 ∧ S_.1 2 cc_ 8 ≤ 150 := hI_.1 2 cc_ 8 rfl
      have bx1_ : 0 ≤ S_.1 2 cc_ 2 ∧ S_.1 2 cc_ 2 ≤ 6 := hI_.1 2 cc_ 2 rfl
      refine sm_T_go 3 (c1 := (50, [some (.inr (.inr (some (0, ii_)))), some (.inr (.inr (some (2, cc_)))), some (.inl k_), none, none, none], [.inl (S_.1 2 cc_ 2), .inl k_], S_)) rfl ?_
      refine sm_T_br (a := 3) (z := 44) rfl (fun cx2_ => ?_) (fun cx2_ => ?_)
      · have cx2_ : (S_.1 2 cc_ 2) ≤ k_ := of_decide_eq_true cx2_
        refine sm_T_go 2 (c1 := (96, [some (.inr (.inr (some (0, ii_)))), some (.inr (.inr (some (2, cc_)))), some (.inl 0), none, none, none], [], S_)) rfl ?_
        refine ih_.2.1 0 S_ hI_ hF_ ⟨?_, ?_, ?_, ?_, ?_, trivial⟩ ?_
        · omega
        · exact hbz_
        · exact hcn_
        · (rw [show S0_.1 2 cc_ 2 + 0 = k_ by omega]; exact hw_)
        · exact hC_
        · omega
      · have cx2_ : ¬ ((S_.1 2 cc_ 2) ≤ k_) := of_decide_eq_false cx2_
        refine sm_T_go 4 (c1 := (59, [some (.inr (.inr (some (0, ii_)))), some (.inr (.inr (some (2, cc_)))), some (.inl k_), none, none, none], [.inl 2, .inl k_, .inr (.inr (some (16, (0 + ii_))))], S_)) rfl ?_
        refine sm_T_iast (n := 156) rfl rfl (by omega) (by omega) ?_
        have hIx3_ : gi (sm_aI S_ 16 (0 + ii_) k_.toNat 2) := gi_aI hI_ (show 0 ≤ 2 ∧ 2 ≤ 4 from ⟨by omega, by omega⟩)
        have hFx4_ : ai_fr (sx_W vw_11) S0_ (sm_aI S_ 16 (0 + ii_) k_.toNat 2) := ai_fr_tr hF_ (ai_fr_aI rfl)
        have hCx5_ : cdf ii_ S0_ (sm_aI S_ 16 (0 + ii_) k_.toNat 2) := cdf_aI hC_ (Or.inr (by rw [show cof 16 = 0 from rfl] <;> omega))
        refine sm_T_go 3 (c1 := (63, [some (.inr (.inr (some (0, ii_)))), some (.inr (.inr (some (2, cc_)))), some (.inl k_), none, none, none], [.inl k_, .inl 4, .inr (.inr (some (0, ii_)))], sm_aI S_ 16 (0 + ii_) k_.toNat 2)) rfl ?_
        refine sm_T_bin (w := 4 * k_) rfl (bi_mul (by omega) (by omega) (by omega)) ?_ -- pc_ 63
        refine sm_T_go 3 (c1 := (69, [some (.inr (.inr (some (0, ii_)))), some (.inr (.inr (some (2, cc_)))), some (.inl k_), none, none, none], [.inl k_, .inr (.inr (some (38, (0 + cc_)))), .inl (4 * k_), .inr (.inr (some (0, ii_)))], sm_aI S_ 16 (0 + ii_) k_.toNat 2)) rfl ?_
        refine sm_T_iald (n := 6) rfl rfl (by omega) (by omega) ?_
        have bx6_ : (-2) ≤ S_.2.2.1 38 (0 + cc_) k_.toNat ∧ S_.2.2.1 38 (0 + cc_) k_.toNat ≤ 161 := hI_.2 38 (0 + cc_) _
        refine sm_T_go 0 (c1 := (70, [some (.inr (.inr (some (0, ii_)))), some (.inr (.inr (some (2, cc_)))), some (.inl k_), none, none, none], [.inl (S_.2.2.1 38 (0 + cc_) k_.toNat), .inl (4 * k_), .inr (.inr (some (0, ii_)))], sm_aI S_ 16 (0 + ii_) k_.toNat 2)) rfl ?_
        refine sm_T_cal (d1 := 0) (Q1 := vq_12 (4 * k_) (S_.2.2.1 38 (0 + cc_) k_.toNat) ii_ (sm_aI S_ 16 (0 + ii_) k_.toNat 2)) rfl rfl (by decide) (vc_12 (4 * k_) (S_.2.2.1 38 (0 + cc_) k_.toNat) ii_ (sm_aI S_ 16 (0 + ii_) k_.toNat 2) hIx3_ (by omega) (by omega) (by (intro c_ hc_; rw [rd_ne (by decide), rd_ne_ (by decide)]; exact hcn_ c_ hc_)) (by (rw [rd_ne (by decide)]; exact bpw_0 hw_ (by omega) (by omega)))) (fun u_ Sx7_ px10_ => ?_)
        obtain ⟨rfl, hIx8_, hFx9_, px10_⟩ := px10_
        have hFx11_ : ai_fr (sx_W vw_11) S0_ Sx7_ := ai_fr_tr hFx4_ (fr_le hFx9_ rfl)
        obtain ⟨dx13_, px10_⟩ := px10_
        have hCx12_ : cdf ii_ S0_ Sx7_ := cdf_tr hCx5_ (cdf_cg (by omega) dx13_)
        have c70_ := px10_.1
        have s70_ : Sx7_.2.2.1 16 (0 + ii_) = (sm_aI S_ 16 (0 + ii_) k_.toNat 2).2.2.1 16 (0 + ii_) := fr_arr hFx9_ rfl
        have t70_ := px10_.2
        have q70_ := hFx9_.1 0 ii_ 11 rfl
        have u70_ := hFx9_.1 4 (0 + ii_) 0 rfl
        have b70_ : bpw ii_ Sx7_ k_ 1 0 0 := bpw_s (bpw_z hw_ (rd_ne_ (by decide)) (fun j_ => rd_eq) (by omega)) s70_ t70_ (by omega) (by omega) (by omega) (by omega)
        have z70_ : Sx7_.2.2.1 16 (0 + ii_) k_.toNat = 2 := by rw [s70_, rd_eq, if_pos rfl]
        have r70_ := hFx9_.1 0 ii_ 1 rfl
        simp only [rd_af] at r70_
        refine sm_T_go 3 (c1 := (76, [some (.inr (.inr (some (0, ii_)))), some (.inr (.inr (some (2, cc_)))), some (.inl k_), none, none, none], [.inl k_, .inl 4, .inr (.inr (some (0, ii_)))], Sx7_)) rfl ?_
        refine sm_T_bin (w := 4 * k_) rfl (bi_mul (by omega) (by omega) (by omega)) ?_ -- pc_ 76
        refine sm_T_go 1 (c1 := (78, [some (.inr (.inr (some (0, ii_)))), some (.inr (.inr (some (2, cc_)))), some (.inl k_), none, none, none], [.inl 1, .inl (4 * k_), .inr (.inr (some (0, ii_)))], Sx7_)) rfl ?_
        refine sm_T_bin (w := 4 * k_ + 1) rfl (bi_add (by omega) (by omega) (by omega)) ?_ -- pc_ 78
        have bx14_ : 0 ≤ Sx7_.1 2 cc_ 1 ∧ Sx7_.1 2 cc_ 1 ≤ 12 := hIx8_.1 2 cc_ 1 rfl
        refine sm_T_go 3 (c1 := (84, [some (.inr (.inr (some (0, ii_)))), some (.inr (.inr (some (2, cc_)))), some (.inl k_), none, none, none], [.inl k_, .inl (Sx7_.1 2 cc_ 1), .inl (4 * k_ + 1), .inr (.inr (some (0, ii_)))], Sx7_)) rfl ?_
        refine sm_T_bin (w := (Sx7_.1 2 cc_ 1) + k_) rfl (bi_add (by omega) (by omega) (by omega)) ?_ -- pc_ 84
        refine sm_T_cal (d1 := 0) (Q1 := vq_12 (4 * k_ + 1) ((Sx7_.1 2 cc_ 1) + k_) ii_ Sx7_) rfl rfl (by decide) (vc_12 (4 * k_ + 1) ((Sx7_.1 2 cc_ 1) + k_) ii_ Sx7_ hIx8_ (by omega) (by omega) (by exact c70_) (by exact bpw_0 b70_ (by omega) (by omega))) (fun u_ Sx15_ px18_ => ?_)
        obtain ⟨rfl, hIx16_, hFx17_, px18_⟩ := px18_
        have hFx19_ : ai_fr (sx_W vw_11) S0_ Sx15_ := ai_fr_tr hFx11_ (fr_le hFx17_ rfl)
        obtain ⟨dx21_, px18_⟩ := px18_
        have hCx20_ : cdf ii_ S0_ Sx15_ := cdf_tr hCx12_ (cdf_cg (by omega) dx21_)
        have ex22_ : Sx15_.1 2 cc_ 1 = Sx7_.1 2 cc_ 1 := hFx17_.1 2 cc_ 1 rfl
        have c85_ := px18_.1
        have s85_ : Sx15_.2.2.1 16 (0 + ii_) = Sx7_.2.2.1 16 (0 + ii_) := fr_arr hFx17_ rfl
        have t85_ := px18_.2
        have q85_ := hFx17_.1 0 ii_ 11 rfl
        have u85_ := hFx17_.1 4 (0 + ii_) 0 rfl
        have b85_ : bpw ii_ Sx15_ k_ 2 0 0 := bpw_s b70_ s85_ t85_ (by omega) (by omega) (by omega) (by omega)
        have z85_ : Sx15_.2.2.1 16 (0 + ii_) k_.toNat = 2 := by rw [s85_]; exact z70_
        have r85_ := hFx17_.1 0 ii_ 1 rfl
        refine sm_T_inc (a := 2) (z := 1) (v := k_) (w := k_ + 1) rfl rfl (by omega) (by omega) (by omega) ?_ -- pc_ 88
        refine sm_T_go 1 (c1 := (45, [some (.inr (.inr (some (0, ii_)))), some (.inr (.inr (some (2, cc_)))), some (.inl (k_ + 1)), none, none, none], [], Sx15_)) rfl ?_
        refine ih_.1 (k_ + 1) Sx15_ hIx16_ hFx19_ ⟨?_, ?_, ?_, ?_, ?_, trivial⟩ ?_
        · omega
        · exact ⟨q85_.trans (q70_.trans (hbz_.1)), u85_.trans (u70_.trans (hbz_.2))⟩
        · exact c85_
        · exact bpw_e b85_ (by omega) z85_.symm
        · exact hCx20_
        · omega
    · rintro g_ S_ hI_ hF_ ⟨h0_, hbz_, hcn_, hw_, hC_, -⟩ hm_
      have d1_ : S_.1 2 cc_ 1 = S0_.1 2 cc_ 1 := hF_.1 2 cc_ 1 rfl
      have d2_ : S_.1 2 cc_ 2 = S0_.1 2 cc_ 2 := hF_.1 2 cc_ 2 rfl
      have d3_ : S_.1 2 cc_ 3 = S0_.1 2 cc_ 3 := hF_.1 2 cc_ 3 rfl
      have d8_ : S_.1 2 cc_ 8 = S0_.1 2 cc_ 8 := hF_.1 2 cc_ 8 rfl
      have k1_ : 0 ≤ S_.1 2 cc_ 1 ∧ S_.1 2 cc_ 1 ≤ 12 := hI_.1 2 cc_ 1 rfl
      have k2_ : 0 ≤ S_.1 2 cc_ 2 ∧ S_.1 2 cc_ 2 ≤ 6 := hI_.1 2 cc_ 2 rfl
      have k3_ : 0 ≤ S_.1 2 cc_ 3 ∧ S_.1 2 cc_ 3 ≤ 16 := hI_.1 2 cc_ 3 rfl
      have k8_ : 0 ≤ S_.1 2 cc_ 8 ∧ S_.1 2 cc_ 8 ≤ 150 := hI_.1 2 cc_ 8 rfl
      have bx1_ : 0 ≤ S_.1 2 cc_ 8 ∧ S_.1 2 cc_ 8 ≤ 150 := hI_.1 2 cc_ 8 rfl
      refine sm_T_go 3 (c1 := (101, [some (.inr (.inr (some (0, ii_)))), some (.inr (.inr (some (2, cc_)))), some (.inl g_), none, none, none], [.inl (S_.1 2 cc_ 8), .inl g_], S_)) rfl ?_
      refine sm_T_br (a := 3) (z := 86) rfl (fun cx2_ => ?_) (fun cx2_ => ?_)
      · have cx2_ : (S_.1 2 cc_ 8) ≤ g_ := of_decide_eq_true cx2_
        refine sm_T_go 2 (c1 := (189, [some (.inr (.inr (some (0, ii_)))), some (.inr (.inr (some (2, cc_)))), some (.inl 0), none, none, none], [], S_)) rfl ?_
        refine ih_.2.2.2.1 0 S_ hI_ hF_ ⟨?_, ?_, ?_, ?_, ?_, trivial⟩ ?_
        · omega
        · exact hbz_
        · exact hcn_
        · (rw [show S0_.1 2 cc_ 8 = g_ by omega]; exact hw_)
        · exact hC_
        · omega
      · have cx2_ : ¬ ((S_.1 2 cc_ 8) ≤ g_) := of_decide_eq_false cx2_
        have bx3_ : 0 ≤ S_.1 2 cc_ 2 ∧ S_.1 2 cc_ 2 ≤ 6 := hI_.1 2 cc_ 2 rfl
        refine sm_T_go 3 (c1 := (109, [some (.inr (.inr (some (0, ii_)))), some (.inr (.inr (some (2, cc_)))), some (.inl g_), none, none, none], [.inl g_, .inl (S_.1 2 cc_ 2)], S_)) rfl ?_
        refine sm_T_bin (w := (S_.1 2 cc_ 2) + g_) rfl (bi_add (by omega) (by omega) (by omega)) ?_ -- pc_ 109
        refine sm_T_go 3 (c1 := (113, [some (.inr (.inr (some (0, ii_)))), some (.inr (.inr (some (2, cc_)))), some (.inl g_), some (.inl ((S_.1 2 cc_ 2) + g_)), none, none], [.inl g_, .inr (.inr (some (2, cc_)))], S_)) rfl ?_
        refine sm_T_cal (d1 := 0) (Q1 := vq_59 g_ cc_ S_) rfl rfl (by decide) (vc_59 g_ cc_ S_ hI_ (by omega)) (fun u_ Sx4_ px7_ => ?_)
        obtain ⟨rfl, vx9_, rfl, px7_⟩ := px7_
        have n113_ := px7_
        refine sm_T_go 6 (c1 := (126, [some (.inr (.inr (some (0, ii_)))), some (.inr (.inr (some (2, cc_)))), some (.inl g_), some (.inl ((S_.1 2 cc_ 2) + g_)), some (.inl vx9_), none], [.inl 1, .inl vx9_, .inl ((S_.1 2 cc_ 2) + g_), .inr (.inr (some (16, (0 + ii_))))], S_)) rfl ?_
        refine sm_T_bin (w := vx9_ + 1) rfl (bi_add (by omega) (by omega) (by omega)) ?_ -- pc_ 126
        refine sm_T_iast (n := 156) rfl rfl (by omega) (by omega) ?_
        have hIx10_ : gi (sm_aI S_ 16 (0 + ii_) ((S_.1 2 cc_ 2) + g_).toNat (vx9_ + 1)) := gi_aI hI_ (show 0 ≤ vx9_ + 1 ∧ vx9_ + 1 ≤ 4 from ⟨by omega, by omega⟩)
        have hFx11_ : ai_fr (sx_W vw_11) S0_ (sm_aI S_ 16 (0 + ii_) ((S_.1 2 cc_ 2) + g_).toNat (vx9_ + 1)) := ai_fr_tr hF_ (ai_fr_aI rfl)
        have hCx12_ : cdf ii_ S0_ (sm_aI S_ 16 (0 + ii_) ((S_.1 2 cc_ 2) + g_).toNat (vx9_ + 1)) := cdf_aI hC_ (Or.inr (by rw [show cof 16 = 0 from rfl] <;> omega))
        refine sm_T_go 2 (c1 := (131, [some (.inr (.inr (some (0, ii_)))), some (.inr (.inr (some (2, cc_)))), some (.inl g_), some (.inl ((S_.1 2 cc_ 2) + g_)), some (.inl vx9_), some (.inl 0)], [], sm_aI S_ 16 (0 + ii_) ((S_.1 2 cc_ 2) + g_).toNat (vx9_ + 1))) rfl ?_
        refine ih_.2.2.1 g_ ((S_.1 2 cc_ 2) + g_) vx9_ 0 (sm_aI S_ 16 (0 + ii_) ((S_.1 2 cc_ 2) + g_).toNat (vx9_ + 1)) hIx10_ hFx11_ ⟨?_, ?_, ?_, ?_, ?_, ?_, trivial⟩ ?_
        · (simp only [rd_af]; omega)
        · (rw [rd_eq, if_pos (by omega)])
        · exact hbz_
        · (intro c_ hc_; rw [rd_ne (by decide), rd_ne_ (by decide)]; exact hcn_ c_ hc_)
        · exact bpw_z (by rw [d2_]; exact hw_) (rd_ne_ (by decide)) (fun j_ => rd_eq) (by omega)
        · exact hCx12_
        · omega
    · rintro g_ el_ is_ j_ S_ hI_ hF_ ⟨h0_, hz_, hbz_, hcn_, hw_, hC_, -⟩ hm_
      have d1_ : S_.1 2 cc_ 1 = S0_.1 2 cc_ 1 := hF_.1 2 cc_ 1 rfl
      have d2_ : S_.1 2 cc_ 2 = S0_.1 2 cc_ 2 := hF_.1 2 cc_ 2 rfl
      have d3_ : S_.1 2 cc_ 3 = S0_.1 2 cc_ 3 := hF_.1 2 cc_ 3 rfl
      have d8_ : S_.1 2 cc_ 8 = S0_.1 2 cc_ 8 := hF_.1 2 cc_ 8 rfl
      have k1_ : 0 ≤ S_.1 2 cc_ 1 ∧ S_.1 2 cc_ 1 ≤ 12 := hI_.1 2 cc_ 1 rfl
      have k2_ : 0 ≤ S_.1 2 cc_ 2 ∧ S_.1 2 cc_ 2 ≤ 6 := hI_.1 2 cc_ 2 rfl
      have k3_ : 0 ≤ S_.1 2 cc_ 3 ∧ S_.1 2 cc_ 3 ≤ 16 := hI_.1 2 cc_ 3 rfl
      have k8_ : 0 ≤ S_.1 2 cc_ 8 ∧ S_.1 2 cc_ 8 ≤ 150 := hI_.1 2 cc_ 8 rfl
      refine sm_T_go 2 (c1 := (135, [some (.inr (.inr (some (0, ii_)))), some (.inr (.inr (some (2, cc_)))), some (.inl g_), some (.inl el_), some (.inl is_), some (.inl j_)], [.inl is_, .inl j_], S_)) rfl ?_
      refine sm_T_br (a := 3) (z := 30) rfl (fun cx1_ => ?_) (fun cx1_ => ?_)
      · have cx1_ : is_ ≤ j_ := of_decide_eq_true cx1_
        refine sm_T_go 3 (c1 := (168, [some (.inr (.inr (some (0, ii_)))), some (.inr (.inr (some (2, cc_)))), some (.inl g_), some (.inl el_), some (.inl is_), some (.inl j_)], [.inl el_, .inl 4, .inr (.inr (some (0, ii_)))], S_)) rfl ?_
        refine sm_T_bin (w := 4 * el_) rfl (bi_mul (by omega) (by omega) (by omega)) ?_ -- pc_ 168
        refine sm_T_go 1 (c1 := (171, [some (.inr (.inr (some (0, ii_)))), some (.inr (.inr (some (2, cc_)))), some (.inl g_), some (.inl el_), some (.inl is_), some (.inl j_)], [.inl is_, .inl (4 * el_), .inr (.inr (some (0, ii_)))], S_)) rfl ?_
        refine sm_T_bin (w := 4 * el_ + is_) rfl (bi_add (by omega) (by omega) (by omega)) ?_ -- pc_ 171
        refine sm_T_go 1 (c1 := (173, [some (.inr (.inr (some (0, ii_)))), some (.inr (.inr (some (2, cc_)))), some (.inl g_), some (.inl el_), some (.inl is_), some (.inl j_)], [.inr (.inr (some (2, cc_))), .inl (4 * el_ + is_), .inr (.inr (some (0, ii_)))], S_)) rfl ?_
        refine sm_T_cal (d1 := 0) (Q1 := vq_54 cc_ S_) rfl rfl (by decide) (vc_54 cc_ S_ hI_ ) (fun u_ Sx2_ px5_ => ?_)
        obtain ⟨rfl, vx7_, rfl, px5_⟩ := px5_
        have n173_ := px5_
        refine sm_T_go 1 (c1 := (177, [some (.inr (.inr (some (0, ii_)))), some (.inr (.inr (some (2, cc_)))), some (.inl g_), some (.inl el_), some (.inl is_), some (.inl j_)], [.inl g_, .inl vx7_, .inl (4 * el_ + is_), .inr (.inr (some (0, ii_)))], S_)) rfl ?_
        refine sm_T_bin (w := vx7_ + g_) rfl (bi_add (by omega) (by omega) (by omega)) ?_ -- pc_ 177
        refine sm_T_cal (d1 := 0) (Q1 := vq_12 (4 * el_ + is_) (vx7_ + g_) ii_ S_) rfl rfl (by decide) (vc_12 (4 * el_ + is_) (vx7_ + g_) ii_ S_ hI_ (by omega) (by omega) (by exact hcn_) (by exact bpw_0 hw_ (by omega) (by omega))) (fun u_ Sx8_ px11_ => ?_)
        obtain ⟨rfl, hIx9_, hFx10_, px11_⟩ := px11_
        have hFx12_ : ai_fr (sx_W vw_11) S0_ Sx8_ := ai_fr_tr hF_ (fr_le hFx10_ rfl)
        obtain ⟨dx14_, px11_⟩ := px11_
        have hCx13_ : cdf ii_ S0_ Sx8_ := cdf_tr hC_ (cdf_cg (by omega) dx14_)
        have c178_ := px11_.1
        have s178_ : Sx8_.2.2.1 16 (0 + ii_) = S_.2.2.1 16 (0 + ii_) := fr_arr hFx10_ rfl
        have t178_ := px11_.2
        have q178_ := hFx10_.1 0 ii_ 11 rfl
        have u178_ := hFx10_.1 4 (0 + ii_) 0 rfl
        have b178_ : bpw ii_ Sx8_ el_ (is_ + 1) 0 0 := bpw_s hw_ s178_ t178_ (by omega) (by omega) (by omega) (by omega)
        have r178_ := hFx10_.1 0 ii_ 1 rfl
        refine sm_T_inc (a := 2) (z := 1) (v := g_) (w := g_ + 1) rfl rfl (by omega) (by omega) (by omega) ?_ -- pc_ 181
        refine sm_T_go 1 (c1 := (96, [some (.inr (.inr (some (0, ii_)))), some (.inr (.inr (some (2, cc_)))), some (.inl (g_ + 1)), some (.inl el_), some (.inl is_), some (.inl j_)], [], Sx8_)) rfl ?_
        refine sm_T_wk [some (.inr (.inr (some (0, ii_)))), some (.inr (.inr (some (2, cc_)))), some (.inl (g_ + 1)), none, none, none] (by exact ⟨rfl, rfl, rfl, trivial⟩) ?_
        refine ih_.2.1 (g_ + 1) Sx8_ hIx9_ hFx12_ ⟨?_, ?_, ?_, ?_, ?_, trivial⟩ ?_
        · omega
        · exact ⟨q178_.trans (hbz_.1), u178_.trans (hbz_.2)⟩
        · exact c178_
        · (rw [show S0_.1 2 cc_ 2 + (g_ + 1) = el_ + 1 by omega]; exact bpw_e b178_ (by omega) (by rw [s178_]; exact hz_.symm))
        · exact hCx13_
        · omega
      · have cx1_ : ¬ (is_ ≤ j_) := of_decide_eq_false cx1_
        refine sm_T_go 3 (c1 := (141, [some (.inr (.inr (some (0, ii_)))), some (.inr (.inr (some (2, cc_)))), some (.inl g_), some (.inl el_), some (.inl is_), some (.inl j_)], [.inl el_, .inl 4, .inr (.inr (some (0, ii_)))], S_)) rfl ?_
        refine sm_T_bin (w := 4 * el_) rfl (bi_mul (by omega) (by omega) (by omega)) ?_ -- pc_ 141
        refine sm_T_go 1 (c1 := (144, [some (.inr (.inr (some (0, ii_)))), some (.inr (.inr (some (2, cc_)))), some (.inl g_), some (.inl el_), some (.inl is_), some (.inl j_)], [.inl j_, .inl (4 * el_), .inr (.inr (some (0, ii_)))], S_)) rfl ?_
        refine sm_T_bin (w := 4 * el_ + j_) rfl (bi_add (by omega) (by omega) (by omega)) ?_ -- pc_ 144
        refine sm_T_go 4 (c1 := (151, [some (.inr (.inr (some (0, ii_)))), some (.inr (.inr (some (2, cc_)))), some (.inl g_), some (.inl el_), some (.inl is_), some (.inl j_)], [.inl g_, .inl 3, .inr (.inr (some (36, (0 + cc_)))), .inl (4 * el_ + j_), .inr (.inr (some (0, ii_)))], S_)) rfl ?_
        refine sm_T_bin (w := 3 * g_) rfl (bi_mul (by omega) (by omega) (by omega)) ?_ -- pc_ 151
        refine sm_T_go 1 (c1 := (154, [some (.inr (.inr (some (0, ii_)))), some (.inr (.inr (some (2, cc_)))), some (.inl g_), some (.inl el_), some (.inl is_), some (.inl j_)], [.inl j_, .inl (3 * g_), .inr (.inr (some (36, (0 + cc_)))), .inl (4 * el_ + j_), .inr (.inr (some (0, ii_)))], S_)) rfl ?_
        refine sm_T_bin (w := 3 * g_ + j_) rfl (bi_add (by omega) (by omega) (by omega)) ?_ -- pc_ 154
        refine sm_T_iald (n := 450) rfl rfl (by omega) (by omega) ?_
        have bx15_ : 0 ≤ S_.2.2.1 36 (0 + cc_) (3 * g_ + j_).toNat ∧ S_.2.2.1 36 (0 + cc_) (3 * g_ + j_).toNat ≤ 161 := hI_.2 36 (0 + cc_) _
        refine sm_T_cal (d1 := 0) (Q1 := vq_12 (4 * el_ + j_) (S_.2.2.1 36 (0 + cc_) (3 * g_ + j_).toNat) ii_ S_) rfl rfl (by decide) (vc_12 (4 * el_ + j_) (S_.2.2.1 36 (0 + cc_) (3 * g_ + j_).toNat) ii_ S_ hI_ (by omega) (by omega) (by exact hcn_) (by exact bpw_0 hw_ (by omega) (by omega))) (fun u_ Sx16_ px19_ => ?_)
        obtain ⟨rfl, hIx17_, hFx18_, px19_⟩ := px19_
        have hFx20_ : ai_fr (sx_W vw_11) S0_ Sx16_ := ai_fr_tr hF_ (fr_le hFx18_ rfl)
        obtain ⟨dx22_, px19_⟩ := px19_
        have hCx21_ : cdf ii_ S0_ Sx16_ := cdf_tr hC_ (cdf_cg (by omega) dx22_)
        have c156_ := px19_.1
        have s156_ : Sx16_.2.2.1 16 (0 + ii_) = S_.2.2.1 16 (0 + ii_) := fr_arr hFx18_ rfl
        have t156_ := px19_.2
        have q156_ := hFx18_.1 0 ii_ 11 rfl
        have u156_ := hFx18_.1 4 (0 + ii_) 0 rfl
        have b156_ : bpw ii_ Sx16_ el_ (j_ + 1) 0 0 := bpw_s hw_ s156_ t156_ (by omega) (by omega) (by omega) (by omega)
        have r156_ := hFx18_.1 0 ii_ 1 rfl
        refine sm_T_inc (a := 5) (z := 1) (v := j_) (w := j_ + 1) rfl rfl (by omega) (by omega) (by omega) ?_ -- pc_ 159
        refine sm_T_go 1 (c1 := (131, [some (.inr (.inr (some (0, ii_)))), some (.inr (.inr (some (2, cc_)))), some (.inl g_), some (.inl el_), some (.inl is_), some (.inl (j_ + 1))], [], Sx16_)) rfl ?_
        refine ih_.2.2.1 g_ el_ is_ (j_ + 1) Sx16_ hIx17_ hFx20_ ⟨?_, ?_, ?_, ?_, ?_, ?_, trivial⟩ ?_
        · omega
        · (rw [s156_]; exact hz_)
        · exact ⟨q156_.trans (hbz_.1), u156_.trans (hbz_.2)⟩
        · exact c156_
        · exact b156_
        · exact hCx21_
        · omega
    · rintro k_ S_ hI_ hF_ ⟨h0_, hbz_, hcn_, hw_, hC_, -⟩ hm_
      have d1_ : S_.1 2 cc_ 1 = S0_.1 2 cc_ 1 := hF_.1 2 cc_ 1 rfl
      have d2_ : S_.1 2 cc_ 2 = S0_.1 2 cc_ 2 := hF_.1 2 cc_ 2 rfl
      have d3_ : S_.1 2 cc_ 3 = S0_.1 2 cc_ 3 := hF_.1 2 cc_ 3 rfl
      have d8_ : S_.1 2 cc_ 8 = S0_.1 2 cc_ 8 := hF_.1 2 cc_ 8 rfl
      have k1_ : 0 ≤ S_.1 2 cc_ 1 ∧ S_.1 2 cc_ 1 ≤ 12 := hI_.1 2 cc_ 1 rfl
      have k2_ : 0 ≤ S_.1 2 cc_ 2 ∧ S_.1 2 cc_ 2 ≤ 6 := hI_.1 2 cc_ 2 rfl
      have k3_ : 0 ≤ S_.1 2 cc_ 3 ∧ S_.1 2 cc_ 3 ≤ 16 := hI_.1 2 cc_ 3 rfl
      have k8_ : 0 ≤ S_.1 2 cc_ 8 ∧ S_.1 2 cc_ 8 ≤ 150 := hI_.1 2 cc_ 8 rfl
      have bx1_ : 0 ≤ S_.1 2 cc_ 1 ∧ S_.1 2 cc_ 1 ≤ 12 := hI_.1 2 cc_ 1 rfl
      refine sm_T_go 3 (c1 := (194, [some (.inr (.inr (some (0, ii_)))), some (.inr (.inr (some (2, cc_)))), some (.inl k_), none, none, none], [.inl (S_.1 2 cc_ 1), .inl k_], S_)) rfl ?_
      refine sm_T_br (a := 3) (z := 19) rfl (fun cx2_ => ?_) (fun cx2_ => ?_)
      · have cx2_ : (S_.1 2 cc_ 1) ≤ k_ := of_decide_eq_true cx2_
        refine sm_T_go 2 (c1 := (215, [some (.inr (.inr (some (0, ii_)))), some (.inr (.inr (some (2, cc_)))), some (.inl 0), none, none, none], [], S_)) rfl ?_
        refine ih_.2.2.2.2 0 S_ hI_ hF_ ⟨?_, ?_, ?_, ?_, ?_, trivial⟩ ?_
        · omega
        · exact hbz_
        · exact hcn_
        · (rw [show S0_.1 2 cc_ 1 = k_ by omega]; exact hw_)
        · exact hC_
        · omega
      · have cx2_ : ¬ ((S_.1 2 cc_ 1) ≤ k_) := of_decide_eq_false cx2_
        refine sm_T_go 3 (c1 := (202, [some (.inr (.inr (some (0, ii_)))), some (.inr (.inr (some (2, cc_)))), some (.inl k_), none, none, none], [.inl k_, .inl 624, .inr (.inr (some (0, ii_)))], S_)) rfl ?_
        refine sm_T_bin (w := k_ + 624) rfl (bi_add (by omega) (by omega) (by omega)) ?_ -- pc_ 202
        refine sm_T_go 1 (c1 := (204, [some (.inr (.inr (some (0, ii_)))), some (.inr (.inr (some (2, cc_)))), some (.inl k_), none, none, none], [.inl k_, .inl (k_ + 624), .inr (.inr (some (0, ii_)))], S_)) rfl ?_
        refine sm_T_cal (d1 := 0) (Q1 := vq_12 (k_ + 624) k_ ii_ S_) rfl rfl (by decide) (vc_12 (k_ + 624) k_ ii_ S_ hI_ (by omega) (by omega) (by exact hcn_) (by exact bpw_0 hw_ (by omega) (by omega))) (fun u_ Sx3_ px6_ => ?_)
        obtain ⟨rfl, hIx4_, hFx5_, px6_⟩ := px6_
        have hFx7_ : ai_fr (sx_W vw_11) S0_ Sx3_ := ai_fr_tr hF_ (fr_le hFx5_ rfl)
        obtain ⟨dx9_, px6_⟩ := px6_
        have hCx8_ : cdf ii_ S0_ Sx3_ := cdf_tr hC_ (cdf_cg (by omega) dx9_)
        have ex10_ : Sx3_.1 2 cc_ 1 = S_.1 2 cc_ 1 := hFx5_.1 2 cc_ 1 rfl
        have c204_ := px6_.1
        have s204_ : Sx3_.2.2.1 16 (0 + ii_) = S_.2.2.1 16 (0 + ii_) := fr_arr hFx5_ rfl
        have t204_ := px6_.2
        have q204_ := hFx5_.1 0 ii_ 11 rfl
        have u204_ := hFx5_.1 4 (0 + ii_) 0 rfl
        have b204_ : bpw ii_ Sx3_ (S0_.1 2 cc_ 2 + S0_.1 2 cc_ 8) 0 (k_ + 1) 0 := bpw_s hw_ s204_ t204_ (by omega) (by omega) (by omega) (by omega)
        have r204_ := hFx5_.1 0 ii_ 1 rfl
        refine sm_T_inc (a := 2) (z := 1) (v := k_) (w := k_ + 1) rfl rfl (by omega) (by omega) (by omega) ?_ -- pc_ 207
        refine sm_T_go 1 (c1 := (189, [some (.inr (.inr (some (0, ii_)))), some (.inr (.inr (some (2, cc_)))), some (.inl (k_ + 1)), none, none, none], [], Sx3_)) rfl ?_
        refine ih_.2.2.2.1 (k_ + 1) Sx3_ hIx4_ hFx7_ ⟨?_, ?_, ?_, ?_, ?_, trivial⟩ ?_
        · omega
        · exact ⟨q204_.trans (hbz_.1), u204_.trans (hbz_.2)⟩
        · exact c204_
        · exact b204_
        · exact hCx8_
        · omega
    · rintro k_ S_ hI_ hF_ ⟨h0_, hbz_, hcn_, hw_, hC_, -⟩ hm_
      have d1_ : S_.1 2 cc_ 1 = S0_.1 2 cc_ 1 := hF_.1 2 cc_ 1 rfl
      have d2_ : S_.1 2 cc_ 2 = S0_.1 2 cc_ 2 := hF_.1 2 cc_ 2 rfl
      have d3_ : S_.1 2 cc_ 3 = S0_.1 2 cc_ 3 := hF_.1 2 cc_ 3 rfl
      have d8_ : S_.1 2 cc_ 8 = S0_.1 2 cc_ 8 := hF_.1 2 cc_ 8 rfl
      have k1_ : 0 ≤ S_.1 2 cc_ 1 ∧ S_.1 2 cc_ 1 ≤ 12 := hI_.1 2 cc_ 1 rfl
      have k2_ : 0 ≤ S_.1 2 cc_ 2 ∧ S_.1 2 cc_ 2 ≤ 6 := hI_.1 2 cc_ 2 rfl
      have k3_ : 0 ≤ S_.1 2 cc_ 3 ∧ S_.1 2 cc_ 3 ≤ 16 := hI_.1 2 cc_ 3 rfl
      have k8_ : 0 ≤ S_.1 2 cc_ 8 ∧ S_.1 2 cc_ 8 ≤ 150 := hI_.1 2 cc_ 8 rfl
      have bx1_ : 0 ≤ S_.1 2 cc_ 3 ∧ S_.1 2 cc_ 3 ≤ 16 := hI_.1 2 cc_ 3 rfl
      refine sm_T_go 3 (c1 := (220, [some (.inr (.inr (some (0, ii_)))), some (.inr (.inr (some (2, cc_)))), some (.inl k_), none, none, none], [.inl (S_.1 2 cc_ 3), .inl k_], S_)) rfl ?_
      refine sm_T_br (a := 3) (z := 24) rfl (fun cx2_ => ?_) (fun cx2_ => ?_)
      · have cx2_ : (S_.1 2 cc_ 3) ≤ k_ := of_decide_eq_true cx2_
        refine sm_T_go 1 (c1 := (245, [some (.inr (.inr (some (0, ii_)))), some (.inr (.inr (some (2, cc_)))), some (.inl k_), none, none, none], [.inr (.inr (some (0, ii_)))], S_)) rfl ?_
        refine sm_T_cal (d1 := 0) (Q1 := vq_13 ii_ S_) rfl rfl (by decide) (vc_13 ii_ S_ hI_ (by exact hcn_)) (fun u_ Sx3_ px6_ => ?_)
        obtain ⟨rfl, hIx4_, hFx5_, px6_⟩ := px6_
        have hFx7_ : ai_fr (sx_W vw_11) S0_ Sx3_ := ai_fr_tr hF_ (fr_le hFx5_ rfl)
        obtain ⟨dx9_, px6_⟩ := px6_
        have hCx8_ : cdf ii_ S0_ Sx3_ := cdf_tr hC_ (cdf_cg (by omega) dx9_)
        have ex10_ : Sx3_.1 2 cc_ 3 = S_.1 2 cc_ 3 := hFx5_.1 2 cc_ 3 rfl
        have p245_ := px6_
        have q245_ := hFx5_.1 0 ii_ 11 rfl
        have u245_ := hFx5_.1 4 (0 + ii_) 0 rfl
        have w245_ : bpw ii_ Sx3_ (S0_.1 2 cc_ 2 + S0_.1 2 cc_ 8) 0 (S0_.1 2 cc_ 1) (S0_.1 2 cc_ 3) := by (intro p9_ hp9_ hn9_; rw [(hFx5_.2.2 17 rfl (0 + ii_) p9_).1] at hn9_; have w9_ := hw_ p9_ hp9_ hn9_; rw [(hFx5_.2.2 16 rfl (0 + ii_) (p9_ / 4)).1]; omega)
        have r245_ := hFx5_.1 0 ii_ 1 rfl
        have d1z := hFx5_.1 2 cc_ 1 rfl
        have d2z := hFx5_.1 2 cc_ 2 rfl
        have d3z := hFx5_.1 2 cc_ 3 rfl
        have d8z := hFx5_.1 2 cc_ 8 rfl
        refine sm_T_rv rfl ⟨_, _, rfl, rfl, hIx4_, hFx7_, ?_⟩
        refine ⟨hCx8_, ?_⟩
        refine ⟨p245_, bpw_p w245_ (by omega) (by omega) (by omega), by omega, q245_.trans hbz_.1, u245_.trans hbz_.2⟩
      · have cx2_ : ¬ ((S_.1 2 cc_ 3) ≤ k_) := of_decide_eq_false cx2_
        refine sm_T_go 3 (c1 := (228, [some (.inr (.inr (some (0, ii_)))), some (.inr (.inr (some (2, cc_)))), some (.inl k_), none, none, none], [.inl k_, .inl 636, .inr (.inr (some (0, ii_)))], S_)) rfl ?_
        refine sm_T_bin (w := k_ + 636) rfl (bi_add (by omega) (by omega) (by omega)) ?_ -- pc_ 228
        refine sm_T_go 3 (c1 := (234, [some (.inr (.inr (some (0, ii_)))), some (.inr (.inr (some (2, cc_)))), some (.inl k_), none, none, none], [.inl k_, .inr (.inr (some (37, (0 + cc_)))), .inl (k_ + 636), .inr (.inr (some (0, ii_)))], S_)) rfl ?_
        refine sm_T_iald (n := 16) rfl rfl (by omega) (by omega) ?_
        have bx11_ : (-2) ≤ S_.2.2.1 37 (0 + cc_) k_.toNat ∧ S_.2.2.1 37 (0 + cc_) k_.toNat ≤ 161 := hI_.2 37 (0 + cc_) _
        refine sm_T_cal (d1 := 0) (Q1 := vq_12 (k_ + 636) (S_.2.2.1 37 (0 + cc_) k_.toNat) ii_ S_) rfl rfl (by decide) (vc_12 (k_ + 636) (S_.2.2.1 37 (0 + cc_) k_.toNat) ii_ S_ hI_ (by omega) (by omega) (by exact hcn_) (by exact bpw_0 hw_ (by omega) (by omega))) (fun u_ Sx12_ px15_ => ?_)
        obtain ⟨rfl, hIx13_, hFx14_, px15_⟩ := px15_
        have hFx16_ : ai_fr (sx_W vw_11) S0_ Sx12_ := ai_fr_tr hF_ (fr_le hFx14_ rfl)
        obtain ⟨dx18_, px15_⟩ := px15_
        have hCx17_ : cdf ii_ S0_ Sx12_ := cdf_tr hC_ (cdf_cg (by omega) dx18_)
        have ex19_ : Sx12_.1 2 cc_ 3 = S_.1 2 cc_ 3 := hFx14_.1 2 cc_ 3 rfl
        have c235_ := px15_.1
        have s235_ : Sx12_.2.2.1 16 (0 + ii_) = S_.2.2.1 16 (0 + ii_) := fr_arr hFx14_ rfl
        have t235_ := px15_.2
        have q235_ := hFx14_.1 0 ii_ 11 rfl
        have u235_ := hFx14_.1 4 (0 + ii_) 0 rfl
        have b235_ : bpw ii_ Sx12_ (S0_.1 2 cc_ 2 + S0_.1 2 cc_ 8) 0 (S0_.1 2 cc_ 1) (k_ + 1) := bpw_s hw_ s235_ t235_ (by omega) (by omega) (by omega) (by omega)
        have r235_ := hFx14_.1 0 ii_ 1 rfl
        refine sm_T_inc (a := 2) (z := 1) (v := k_) (w := k_ + 1) rfl rfl (by omega) (by omega) (by omega) ?_ -- pc_ 238
        refine sm_T_go 1 (c1 := (215, [some (.inr (.inr (some (0, ii_)))), some (.inr (.inr (some (2, cc_)))), some (.inl (k_ + 1)), none, none, none], [], Sx12_)) rfl ?_
        refine ih_.2.2.2.2 (k_ + 1) Sx12_ hIx13_ hFx16_ ⟨?_, ?_, ?_, ?_, ?_, trivial⟩ ?_
        · omega
        · exact ⟨q235_.trans (hbz_.1), u235_.trans (hbz_.2)⟩
        · exact c235_
        · exact b235_
        · exact hCx17_
        · omega
set_option maxHeartbeats 400000 in
set_option maxRecDepth 20000 in
theorem vc_11 {sc_ : Nat × (Nat → Int)} (ii_ : Nat) (cc_ : Nat) (S0_ : sm_S) (hI_ : gi S0_) (hs_ : S0_.1 2 cc_ 1 + S0_.1 2 cc_ 2 ≤ 12) : sm_T (mt_P sc_) 2 11 (0, [some (.inr (.inr (some (0, ii_)))), some (.inr (.inr (some (2, cc_)))), none, none, none, none], [], S0_) (fun ro9_ => ∃ u_ S1_, ro9_ = (.inl u_, S1_, 0) ∧ vq_11 ii_ cc_ S0_ u_ S1_) := by
  have hF_ : ai_fr (sx_W vw_11) S0_ S0_ := ai_fr_rf
  have hC_ : cdf ii_ S0_ S0_ := cdf_rf
  have kz1_ : 0 ≤ S0_.1 2 cc_ 1 ∧ S0_.1 2 cc_ 1 ≤ 12 := hI_.1 2 cc_ 1 rfl
  have kz2_ : 0 ≤ S0_.1 2 cc_ 2 ∧ S0_.1 2 cc_ 2 ≤ 6 := hI_.1 2 cc_ 2 rfl
  have kz3_ : 0 ≤ S0_.1 2 cc_ 3 ∧ S0_.1 2 cc_ 3 ≤ 16 := hI_.1 2 cc_ 3 rfl
  have kz8_ : 0 ≤ S0_.1 2 cc_ 8 ∧ S0_.1 2 cc_ 8 ≤ 150 := hI_.1 2 cc_ 8 rfl
  have hIx1_ : gi (sm_pI S0_ 0 ii_ 1 0) := gi_pI hI_ (show 0 ≤ 0 ∧ 0 ≤ 12 from ⟨by omega, by omega⟩)
  have hFx2_ : ai_fr (sx_W vw_11) S0_ (sm_pI S0_ 0 ii_ 1 0) := ai_fr_tr hF_ (ai_fr_pI rfl)
  have hCx3_ : cdf ii_ S0_ (sm_pI S0_ 0 ii_ 1 0) := cdf_pI hC_ (Or.inr (by rw [show cof 0 = 0 from rfl] <;> omega))
  refine sm_T_go 4 (c1 := (6, [some (.inr (.inr (some (0, ii_)))), some (.inr (.inr (some (2, cc_)))), none, none, none, none], [.inr (.inr (some (0, ii_)))], sm_pI S0_ 0 ii_ 1 0)) rfl ?_
  refine sm_T_cal (d1 := 0) (Q1 := vq_15 ii_ (sm_pI S0_ 0 ii_ 1 0)) rfl rfl (by decide) (vc_15 ii_ (sm_pI S0_ 0 ii_ 1 0) hIx1_ ) (fun u_ Sx4_ px7_ => ?_)
  obtain ⟨rfl, hIx5_, hFx6_, px7_⟩ := px7_
  have hFx8_ : ai_fr (sx_W vw_11) S0_ Sx4_ := ai_fr_tr hFx2_ (fr_le hFx6_ rfl)
  obtain ⟨dx10_, px7_⟩ := px7_
  have hCx9_ : cdf ii_ S0_ Sx4_ := cdf_tr hCx3_ (cdf_cg (by omega) dx10_)
  have z6_ := px7_
  have r6_ := hFx6_.1 0 ii_ 1 rfl
  rw [rf_eq] at r6_
  have bx11_ : (-2147483648) ≤ Sx4_.1 0 ii_ 16 ∧ Sx4_.1 0 ii_ 16 ≤ 2147483647 := hIx5_.1 0 ii_ 16 rfl
  refine sm_T_go 4 (c1 := (15, [some (.inr (.inr (some (0, ii_)))), some (.inr (.inr (some (2, cc_)))), none, none, none, none], [.inl 1, .inl (Sx4_.1 0 ii_ 16), .inr (.inr (some (0, ii_)))], Sx4_)) rfl ?_
  refine sm_T_bin (w := (i_add (Sx4_.1 0 ii_ 16) 1)) rfl rfl ?_ -- pc_ 15
  have bx12_ := i_add_r (Sx4_.1 0 ii_ 16) 1
  have hIx13_ : gi (sm_pI Sx4_ 0 ii_ 16 (i_add (Sx4_.1 0 ii_ 16) 1)) := gi_pI hIx5_ (show (-2147483648) ≤ (i_add (Sx4_.1 0 ii_ 16) 1) ∧ (i_add (Sx4_.1 0 ii_ 16) 1) ≤ 2147483647 from ⟨by omega, by omega⟩)
  have hFx14_ : ai_fr (sx_W vw_11) S0_ (sm_pI Sx4_ 0 ii_ 16 (i_add (Sx4_.1 0 ii_ 16) 1)) := ai_fr_tr hFx8_ (ai_fr_pI rfl)
  have hCx15_ : cdf ii_ S0_ (sm_pI Sx4_ 0 ii_ 16 (i_add (Sx4_.1 0 ii_ 16) 1)) := cdf_pI hCx9_ (Or.inr (by rw [show cof 0 = 0 from rfl] <;> omega))
  refine sm_T_go 4 (c1 := (24, [some (.inr (.inr (some (0, ii_)))), some (.inr (.inr (some (2, cc_)))), none, none, none, none], [.inl (-1), .inr (.inr (some (17, (0 + ii_))))], sm_pI Sx4_ 0 ii_ 16 (i_add (Sx4_.1 0 ii_ 16) 1))) rfl ?_
  refine sm_T_cal (d1 := 0) (Q1 := vq_2b7 (-1) ii_ (sm_pI Sx4_ 0 ii_ 16 (i_add (Sx4_.1 0 ii_ 16) 1))) rfl rfl (by decide) (vc_2b7 (-1) ii_ (sm_pI Sx4_ 0 ii_ 16 (i_add (Sx4_.1 0 ii_ 16) 1)) hIx13_ (by decide)) (fun u_ Sx16_ px19_ => ?_)
  obtain ⟨rfl, hIx17_, hFx18_, px19_⟩ := px19_
  have hFx20_ : ai_fr (sx_W vw_11) S0_ Sx16_ := ai_fr_tr hFx14_ (fr_le hFx18_ rfl)
  obtain ⟨dx22_, px19_⟩ := px19_
  have hCx21_ : cdf ii_ S0_ Sx16_ := cdf_tr hCx15_ (cdf_cg (by omega) dx22_)
  have e24_ := px19_
  have r24_ := hFx18_.1 0 ii_ 1 rfl
  rw [rf_nk (by decide), r6_] at r24_
  have q24_ := hFx18_.1 0 ii_ 11 rfl
  rw [rf_nk (by decide), z6_.1] at q24_
  have u24_ := hFx18_.1 4 (0 + ii_) 0 rfl
  rw [rf_nt (by decide), z6_.2] at u24_
  refine sm_T_go 3 (c1 := (32, [some (.inr (.inr (some (0, ii_)))), some (.inr (.inr (some (2, cc_)))), none, none, none, none], [.inl 0, .inr (.inr (some (20, (0 + ii_))))], Sx16_)) rfl ?_
  refine sm_T_cal (d1 := 0) (Q1 := vq_2b8 0 ii_ Sx16_) rfl rfl (by decide) (vc_2b8 0 ii_ Sx16_ hIx17_ (by decide)) (fun u_ Sx23_ px26_ => ?_)
  obtain ⟨rfl, hIx24_, hFx25_, px26_⟩ := px26_
  have hFx27_ : ai_fr (sx_W vw_11) S0_ Sx23_ := ai_fr_tr hFx20_ (fr_le hFx25_ rfl)
  obtain ⟨dx29_, px26_⟩ := px26_
  have hCx28_ : cdf ii_ S0_ Sx23_ := cdf_tr hCx21_ (cdf_cg (by omega) dx29_)
  have e32_ := px26_
  have f32_ := hFx25_.2.2 17 rfl (0 + ii_)
  have r32_ := hFx25_.1 0 ii_ 1 rfl
  rw [r24_] at r32_
  have q32_ := (hFx25_.1 0 ii_ 11 rfl).trans q24_
  have u32_ := (hFx25_.1 4 (0 + ii_) 0 rfl).trans u24_
  refine sm_T_go 3 (c1 := (40, [some (.inr (.inr (some (0, ii_)))), some (.inr (.inr (some (2, cc_)))), none, none, none, none], [.inl 0, .inr (.inr (some (21, (0 + ii_))))], Sx23_)) rfl ?_
  refine sm_T_cal (d1 := 0) (Q1 := vq_2b9 0 ii_ Sx23_) rfl rfl (by decide) (vc_2b9 0 ii_ Sx23_ hIx24_ (by decide)) (fun u_ Sx30_ px33_ => ?_)
  obtain ⟨rfl, hIx31_, hFx32_, px33_⟩ := px33_
  have hFx34_ : ai_fr (sx_W vw_11) S0_ Sx30_ := ai_fr_tr hFx27_ (fr_le hFx32_ rfl)
  obtain ⟨dx36_, px33_⟩ := px33_
  have hCx35_ : cdf ii_ S0_ Sx30_ := cdf_tr hCx28_ (cdf_cg (by omega) dx36_)
  have f40_ := hFx32_.2.2 17 rfl (0 + ii_)
  have g40_ := hFx32_.2.2 20 rfl (0 + ii_)
  have r40_ := hFx32_.1 0 ii_ 1 rfl
  rw [r32_] at r40_
  have q40_ := (hFx32_.1 0 ii_ 11 rfl).trans q32_
  have u40_ := (hFx32_.1 4 (0 + ii_) 0 rfl).trans u32_
  refine sm_T_go 2 (c1 := (45, [some (.inr (.inr (some (0, ii_)))), some (.inr (.inr (some (2, cc_)))), some (.inl 0), none, none, none], [], Sx30_)) rfl ?_
  refine (vl_11 ii_ cc_ S0_ hs_ _).1 0 Sx30_ hIx31_ hFx34_ ⟨?_, ?_, ?_, ?_, ?_, trivial⟩ (Nat.lt_succ_self _)
  · omega
  · exact ⟨q40_, u40_⟩
  · intro c_ hc_
    rw [(g40_ c_).1, e32_ c_ (by omega), cne_0 (fun p9_ hp9_ => ?_)]
    · rfl
    · rw [(f40_ p9_).1, (f32_ p9_).1, e24_ p9_ hp9_]; omega
  · intro p9_ hp9_ hn9_
    rw [(f40_ p9_).1, (f32_ p9_).1, e24_ p9_ hp9_] at hn9_
    exact absurd rfl hn9_
  · exact hCx35_
end
/-! 99.zkca -/
section
/-! wires spread; written by wip/p55/gen/vg -/

/-! wires spread -/
def rgw (S_ : sm_S) : Prop := 1 ≤ S_.1 8 0 1 ∧ 1 ≤ S_.1 8 0 2 ∧ ∃ k_, S_.1 8 0 2 = k_ * S_.1 8 0 1
def rsp (bb_ : Nat) (t_ : Int) (S_ : sm_S) : Prop := rsf (S_.1 8 0 1) (S_.1 8 0 2) t_ (S_.2.2.1 22 (0 + bb_)) (S_.2.2.1 86 0) (S_.2.2.1 87 0) (S_.2.2.1 88 0) (S_.1 8 0 6) (S_.1 8 0 8)
/-- what a_ point reached leaves -/
def rmo (S_ S'_ : sm_S) : Prop := (∀ p_, S_.2.2.1 86 0 p_ ≠ -1 → S'_.2.2.1 86 0 p_ = S_.2.2.1 86 0 p_) ∧ S_.1 8 0 6 ≤ S'_.1 8 0 6 ∧ S_.1 8 0 8 ≤ S'_.1 8 0 8
theorem rmo_rf {S_ : sm_S} : rmo S_ S_ := ⟨fun _ _ => rfl, Int.le_refl _, Int.le_refl _⟩
theorem rmo_tr {S_ S'_ S2_ : sm_S} (h_ : rmo S_ S'_) (g_ : rmo S'_ S2_) : rmo S_ S2_ := ⟨fun p_ hp_ => (g_.1 p_ (by rw [h_.1 p_ hp_]; exact hp_)).trans (h_.1 p_ hp_), Int.le_trans h_.2.1 g_.2.1, Int.le_trans h_.2.2 g_.2.2⟩
theorem rsp_b {bb_ : Nat} {t_ x_ : Int} {S_ : sm_S} (h_ : rsp bb_ t_ S_) (hx_ : 0 ≤ x_ ∧ x_ < 2 * S_.1 8 0 2) (hf_ : S_.2.2.1 86 0 x_.toNat = -1) : S_.1 8 0 6 + S_.1 8 0 8 < 2 * S_.1 8 0 2 := by
  have c_ := h_.2.2.1
  have q_ := cne_st (f := S_.2.2.1 86 0) (c := -1) (j := x_.toNat) hf_ (n := (2 * S_.1 8 0 2).toNat) (by omega)
  omega
theorem rsp_n {bb_ : Nat} {t_ q_ s_ b_ : Int} {S_ : sm_S} (h_ : rsp bb_ t_ S_) (ht_ : 0 ≤ t_) (hq_ : 0 ≤ q_ ∧ q_ < 2 * S_.1 8 0 2) (hs_ : 0 ≤ s_ ∧ s_ < 2 * S_.1 8 0 2) (hf_ : S_.2.2.1 86 0 q_.toNat = -1) (hb_ : S_.2.2.1 86 0 s_.toNat = b_) (hb0_ : 0 ≤ b_) (h6_ : 0 ≤ S_.1 8 0 6) (hn_ : ∃ d_, (0 ≤ d_ ∧ d_ < 5) ∧ nb (S_.1 8 0 1) (S_.1 8 0 2) q_ d_ = s_) (ho_ : S_.2.2.1 22 (0 + bb_) q_.toNat = -1) :
    rsp bb_ t_ (sm_pI (sm_aI (sm_aI S_ 86 0 q_.toNat (b_ + 1)) 87 0 (S_.1 8 0 6).toNat q_) 8 0 6 (S_.1 8 0 6 + 1)) ∧ rmo S_ (sm_pI (sm_aI (sm_aI S_ 86 0 q_.toNat (b_ + 1)) 87 0 (S_.1 8 0 6).toNat q_) 8 0 6 (S_.1 8 0 6 + 1)) := by
  have r1_ : ∀ k_, (sm_pI (sm_aI (sm_aI S_ 86 0 q_.toNat (b_ + 1)) 87 0 (S_.1 8 0 6).toNat q_) 8 0 6 (S_.1 8 0 6 + 1)).2.2.1 86 0 k_ = if k_ = q_.toNat then b_ + 1 else S_.2.2.1 86 0 k_ := fun k_ => by rw [rd_fa, rd_ne (by decide), rd_eq]
  have r2_ : ∀ k_, (sm_pI (sm_aI (sm_aI S_ 86 0 q_.toNat (b_ + 1)) 87 0 (S_.1 8 0 6).toNat q_) 8 0 6 (S_.1 8 0 6 + 1)).2.2.1 87 0 k_ = if k_ = (S_.1 8 0 6).toNat then q_ else S_.2.2.1 87 0 k_ := fun k_ => by rw [rd_fa, rd_eq, rd_ne (by decide)]
  have pr_ : prc (S_.2.2.1 22 (0 + bb_)) t_ q_.toNat = 1 := by
    unfold prc
    rw [if_pos (Or.inl ho_)]
  refine ⟨?_, ?_, ?_, ?_⟩
  · show rsf (S_.1 8 0 1) (S_.1 8 0 2) t_ (S_.2.2.1 22 (0 + bb_)) ((sm_pI (sm_aI (sm_aI S_ 86 0 q_.toNat (b_ + 1)) 87 0 (S_.1 8 0 6).toNat q_) 8 0 6 (S_.1 8 0 6 + 1)).2.2.1 86 0) ((sm_pI (sm_aI (sm_aI S_ 86 0 q_.toNat (b_ + 1)) 87 0 (S_.1 8 0 6).toNat q_) 8 0 6 (S_.1 8 0 6 + 1)).2.2.1 87 0) (S_.2.2.1 88 0) (S_.1 8 0 6 + 1) (S_.1 8 0 8)
    refine rsf_a h_ ht_ hq_ hs_ hf_ hb_ hb0_ hn_ (fun k_ => by rw [r1_, pr_]) (by omega) (fun i_ hi_ => ?_) (fun i_ hi_ => Or.inr ⟨hi_, rfl⟩)
    rw [r2_]
    by_cases z_ : i_ = (S_.1 8 0 6).toNat
    · rw [if_pos z_]; exact Or.inl rfl
    · rw [if_neg z_]; exact Or.inr ⟨by omega, rfl⟩
  · intro p_ hp_
    rw [r1_, if_neg (fun z_ => hp_ (by rw [z_]; exact hf_))]
  · show S_.1 8 0 6 ≤ S_.1 8 0 6 + 1
    omega
  · exact Int.le_refl _
theorem rsp_f {bb_ : Nat} {t_ q_ s_ b_ : Int} {S_ : sm_S} (h_ : rsp bb_ t_ S_) (ht_ : 0 ≤ t_) (hq_ : 0 ≤ q_ ∧ q_ < 2 * S_.1 8 0 2) (hs_ : 0 ≤ s_ ∧ s_ < 2 * S_.1 8 0 2) (hf_ : S_.2.2.1 86 0 q_.toNat = -1) (hb_ : S_.2.2.1 86 0 s_.toNat = b_) (hb0_ : 0 ≤ b_) (h8_ : 0 ≤ S_.1 8 0 8) (hn_ : ∃ d_, (0 ≤ d_ ∧ d_ < 5) ∧ nb (S_.1 8 0 1) (S_.1 8 0 2) q_ d_ = s_) (ho_ : S_.2.2.1 22 (0 + bb_) q_.toNat ≠ -1) :
    rsp bb_ t_ (sm_pI (sm_aI (sm_aI S_ 86 0 q_.toNat (b_ + 11)) 88 0 (S_.1 8 0 8).toNat q_) 8 0 8 (S_.1 8 0 8 + 1)) ∧ rmo S_ (sm_pI (sm_aI (sm_aI S_ 86 0 q_.toNat (b_ + 11)) 88 0 (S_.1 8 0 8).toNat q_) 8 0 8 (S_.1 8 0 8 + 1)) := by
  have r1_ : ∀ k_, (sm_pI (sm_aI (sm_aI S_ 86 0 q_.toNat (b_ + 11)) 88 0 (S_.1 8 0 8).toNat q_) 8 0 8 (S_.1 8 0 8 + 1)).2.2.1 86 0 k_ = if k_ = q_.toNat then b_ + 11 else S_.2.2.1 86 0 k_ := fun k_ => by rw [rd_fa, rd_ne (by decide), rd_eq]
  have r2_ : ∀ k_, (sm_pI (sm_aI (sm_aI S_ 86 0 q_.toNat (b_ + 11)) 88 0 (S_.1 8 0 8).toNat q_) 8 0 8 (S_.1 8 0 8 + 1)).2.2.1 88 0 k_ = if k_ = (S_.1 8 0 8).toNat then q_ else S_.2.2.1 88 0 k_ := fun k_ => by rw [rd_fa, rd_eq, rd_ne (by decide)]
  have no_ : S_.2.2.1 22 (0 + bb_) q_.toNat ≠ t_ := fun z_ => by
    have y_ := (h_.1 q_.toNat (by omega)).mpr z_
    omega
  have pr_ : prc (S_.2.2.1 22 (0 + bb_)) t_ q_.toNat = 11 := by
    unfold prc
    rw [if_neg (fun z_ => z_.elim ho_ no_)]
  refine ⟨?_, ?_, ?_, ?_⟩
  · show rsf (S_.1 8 0 1) (S_.1 8 0 2) t_ (S_.2.2.1 22 (0 + bb_)) ((sm_pI (sm_aI (sm_aI S_ 86 0 q_.toNat (b_ + 11)) 88 0 (S_.1 8 0 8).toNat q_) 8 0 8 (S_.1 8 0 8 + 1)).2.2.1 86 0) (S_.2.2.1 87 0) ((sm_pI (sm_aI (sm_aI S_ 86 0 q_.toNat (b_ + 11)) 88 0 (S_.1 8 0 8).toNat q_) 8 0 8 (S_.1 8 0 8 + 1)).2.2.1 88 0) (S_.1 8 0 6) (S_.1 8 0 8 + 1)
    refine rsf_a h_ ht_ hq_ hs_ hf_ hb_ hb0_ hn_ (fun k_ => by rw [r1_, pr_]) (by omega) (fun i_ hi_ => Or.inr ⟨hi_, rfl⟩) (fun i_ hi_ => ?_)
    rw [r2_]
    by_cases z_ : i_ = (S_.1 8 0 8).toNat
    · rw [if_pos z_]; exact Or.inl rfl
    · rw [if_neg z_]; exact Or.inr ⟨by omega, rfl⟩
  · intro p_ hp_
    rw [r1_, if_neg (fun z_ => hp_ (by rw [z_]; exact hf_))]
  · exact Int.le_refl _
  · show S_.1 8 0 8 ≤ S_.1 8 0 8 + 1
    omega
/-! Router.reach -/
def vw_163 : sx_Wl := ([(8, 6), (8, 8)], [86, 87, 88], [])
def vq_163 (a1_ : Int) (a2_ : Int) (a3_ : Int) (a4_ : Int) (bb_ : Nat) (pp_ : Int) (S0_ : sm_S) (u_ : Option sm_V) (S1_ : sm_S) : Prop := u_ = none ∧ gi S1_ ∧ ai_fr (sx_W vw_163) S0_ S1_ ∧ (rsp bb_ a3_ S1_ ∧ rmo S0_ S1_)
set_option maxHeartbeats 400000 in
theorem vc_163 {sc_ : Nat × (Nat → Int)} (a1_ : Int) (a2_ : Int) (a3_ : Int) (a4_ : Int) (bb_ : Nat) (pp_ : Int) (S0_ : sm_S) (hI_ : gi S0_) (hb_ : S0_.2.1 8 0 0 = some bb_) (hg_ : rgw S0_) (hr_ : rsp bb_ a3_ S0_) (h1_ : 0 ≤ a1_ ∧ a1_ < 2 * S0_.1 8 0 2) (h3_ : 0 ≤ a3_ ∧ a3_ ≤ 161) (hs_ : 0 ≤ pp_ ∧ pp_ < 2 * S0_.1 8 0 2) (h2_ : S0_.2.2.1 86 0 pp_.toNat = a2_) (h20_ : 0 ≤ a2_) (hn_ : ∃ d_, (0 ≤ d_ ∧ d_ < 5) ∧ nb (S0_.1 8 0 1) (S0_.1 8 0 2) a1_ d_ = pp_) : sm_T (mt_P sc_) 0 163 (0, [some (.inr (.inr (some (8, 0)))), some (.inl a1_), some (.inl a2_), some (.inl a3_), some (.inl a4_)], [], S0_) (fun ro9_ => ∃ u_ S1_, ro9_ = (.inl u_, S1_, 0) ∧ vq_163 a1_ a2_ a3_ a4_ bb_ pp_ S0_ u_ S1_) := by
  have hF_ : ai_fr (sx_W vw_163) S0_ S0_ := ai_fr_rf
  have cL_ : 0 ≤ S0_.1 8 0 2 ∧ S0_.1 8 0 2 ≤ 2356 := hI_.1 8 0 2 rfl
  have c6_ : 0 ≤ S0_.1 8 0 6 ∧ S0_.1 8 0 6 ≤ 4712 := hI_.1 8 0 6 rfl
  have c8_ : 0 ≤ S0_.1 8 0 8 ∧ S0_.1 8 0 8 ≤ 4712 := hI_.1 8 0 8 rfl
  have g9_ := hr_.2.2.2.2.2 pp_.toNat (by omega)
  have C9_ := hr_.2.2.1
  refine sm_T_go 3 (c1 := (5, [some (.inr (.inr (some (8, 0)))), some (.inl a1_), some (.inl a2_), some (.inl a3_), some (.inl a4_)], [.inl a1_, .inr (.inr (some (86, 0)))], S0_)) rfl ?_
  refine sm_T_iald (n := 4712) rfl rfl (by omega) (by omega) ?_
  have bx1_ : (-1) ≤ S0_.2.2.1 86 0 a1_.toNat ∧ S0_.2.2.1 86 0 a1_.toNat ≤ 100000 := hI_.2 86 0 _
  refine sm_T_go 1 (c1 := (7, [some (.inr (.inr (some (8, 0)))), some (.inl a1_), some (.inl a2_), some (.inl a3_), some (.inl a4_)], [.inl (-1), .inl (S0_.2.2.1 86 0 a1_.toNat)], S0_)) rfl ?_
  refine sm_T_br (a := 1) (z := 23) rfl (fun cx2_ => ?_) (fun cx2_ => ?_)
  · have cx2_ : (S0_.2.2.1 86 0 a1_.toNat) ≠ (-1) := of_decide_eq_true cx2_
    refine sm_T_rv rfl ⟨_, _, rfl, rfl, hI_, hF_, ?_⟩
    exact ⟨hr_, rmo_rf⟩
  · have cx2_ : ¬ ((S0_.2.2.1 86 0 a1_.toNat) ≠ (-1)) := of_decide_eq_false cx2_
    have f9_ : S0_.2.2.1 86 0 a1_.toNat = -1 := by omega
    have b9_ := rsp_b hr_ h1_ f9_
    refine sm_T_go 3 (c1 := (15, [some (.inr (.inr (some (8, 0)))), some (.inl a1_), some (.inl a2_), some (.inl a3_), some (.inl a4_)], [.inl a1_, .inr (.inr (some (85, 0)))], S0_)) rfl ?_
    refine sm_T_iald (n := 4712) rfl rfl (by omega) (by omega) ?_
    have bx3_ : (-1) ≤ S0_.2.2.1 85 0 a1_.toNat ∧ S0_.2.2.1 85 0 a1_.toNat ≤ 161 := hI_.2 85 0 _
    refine sm_T_go 1 (c1 := (17, [some (.inr (.inr (some (8, 0)))), some (.inl a1_), some (.inl a2_), some (.inl a3_), some (.inl a4_)], [.inl (-1), .inl (S0_.2.2.1 85 0 a1_.toNat)], S0_)) rfl ?_
    refine sm_T_br (a := 0) (z := 14) rfl (fun cx4_ => ?_) (fun cx4_ => ?_)
    · have cx4_ : (S0_.2.2.1 85 0 a1_.toNat) = (-1) := of_decide_eq_true cx4_
      refine sm_T_go 1 (c1 := (32, [some (.inr (.inr (some (8, 0)))), some (.inl a1_), some (.inl a2_), some (.inl a3_), some (.inl a4_)], [.inr (.inr (some (8, 0)))], S0_)) rfl ?_
      refine sm_T_gr rfl rfl ((hF_.2.1 8 0 0 rfl).trans hb_) ?_
      refine sm_T_go 2 (c1 := (39, [some (.inr (.inr (some (8, 0)))), some (.inl a1_), some (.inl a2_), some (.inl a3_), some (.inl a4_)], [.inl a1_, .inr (.inr (some (22, (0 + bb_))))], S0_)) rfl ?_
      refine sm_T_iald (n := 4712) rfl rfl (by omega) (by omega) ?_
      have bx5_ : (-1) ≤ S0_.2.2.1 22 (0 + bb_) a1_.toNat ∧ S0_.2.2.1 22 (0 + bb_) a1_.toNat ≤ 161 := hI_.2 22 (0 + bb_) _
      refine sm_T_go 1 (c1 := (41, [some (.inr (.inr (some (8, 0)))), some (.inl a1_), some (.inl a2_), some (.inl a3_), some (.inl a4_)], [.inl (-1), .inl (S0_.2.2.1 22 (0 + bb_) a1_.toNat)], S0_)) rfl ?_
      refine sm_T_br (a := 1) (z := 35) rfl (fun cx6_ => ?_) (fun cx6_ => ?_)
      · have cx6_ : (S0_.2.2.1 22 (0 + bb_) a1_.toNat) ≠ (-1) := of_decide_eq_true cx6_
        refine sm_T_go 1 (c1 := (78, [some (.inr (.inr (some (8, 0)))), some (.inl a1_), some (.inl a2_), some (.inl a3_), some (.inl a4_)], [.inl a4_], S0_)) rfl ?_
        refine sm_T_b0 (a := 0) (z := 33) rfl (fun cx7_ => ?_) (fun cx7_ => ?_)
        · have cx7_ : a4_ = 0 := of_decide_eq_true cx7_
          refine sm_T_rv rfl ⟨_, _, rfl, rfl, hI_, hF_, ?_⟩
          first | exact ⟨hr_, rmo_rf⟩ | exact rsp_n hr_ h3_.1 h1_ hs_ f9_ h2_ h20_ c6_.1 hn_ (by omega) | exact rsp_f hr_ h3_.1 h1_ hs_ f9_ h2_ h20_ c8_.1 hn_ (by omega)
        · have cx7_ : ¬ (a4_ = 0) := of_decide_eq_false cx7_
          refine sm_T_go 5 (c1 := (89, [some (.inr (.inr (some (8, 0)))), some (.inl a1_), some (.inl a2_), some (.inl a3_), some (.inl a4_)], [.inl 11, .inl a2_, .inl a1_, .inr (.inr (some (86, 0)))], S0_)) rfl ?_
          refine sm_T_bin (w := a2_ + 11) rfl (bi_add (by omega) (by omega) (by omega)) ?_ -- pc_ 89
          refine sm_T_iast (n := 4712) rfl rfl (by omega) (by omega) ?_
          have hIx8_ : gi (sm_aI S0_ 86 0 a1_.toNat (a2_ + 11)) := gi_aI hI_ (show (-1) ≤ a2_ + 11 ∧ a2_ + 11 ≤ 100000 from ⟨by omega, by omega⟩)
          have hFx9_ : ai_fr (sx_W vw_163) S0_ (sm_aI S0_ 86 0 a1_.toNat (a2_ + 11)) := ai_fr_tr hF_ (ai_fr_aI rfl)
          have bx10_ : 0 ≤ S0_.1 8 0 8 ∧ S0_.1 8 0 8 ≤ 4712 := hI_.1 8 0 8 rfl
          refine sm_T_go 5 (c1 := (100, [some (.inr (.inr (some (8, 0)))), some (.inl a1_), some (.inl a2_), some (.inl a3_), some (.inl a4_)], [.inl a1_, .inl (S0_.1 8 0 8), .inr (.inr (some (88, 0)))], sm_aI S0_ 86 0 a1_.toNat (a2_ + 11))) rfl ?_
          refine sm_T_iast (n := 4712) rfl rfl (by omega) (by omega) ?_
          have hIx11_ : gi (sm_aI (sm_aI S0_ 86 0 a1_.toNat (a2_ + 11)) 88 0 (S0_.1 8 0 8).toNat a1_) := gi_aI hIx8_ (show 0 ≤ a1_ ∧ a1_ ≤ 4711 from ⟨by omega, by omega⟩)
          have hFx12_ : ai_fr (sx_W vw_163) S0_ (sm_aI (sm_aI S0_ 86 0 a1_.toNat (a2_ + 11)) 88 0 (S0_.1 8 0 8).toNat a1_) := ai_fr_tr hFx9_ (ai_fr_aI rfl)
          refine sm_T_go 4 (c1 := (107, [some (.inr (.inr (some (8, 0)))), some (.inl a1_), some (.inl a2_), some (.inl a3_), some (.inl a4_)], [.inl 1, .inl (S0_.1 8 0 8), .inr (.inr (some (8, 0)))], sm_aI (sm_aI S0_ 86 0 a1_.toNat (a2_ + 11)) 88 0 (S0_.1 8 0 8).toNat a1_)) rfl ?_
          refine sm_T_bin (w := (S0_.1 8 0 8) + 1) rfl (bi_add (by omega) (by omega) (by omega)) ?_ -- pc_ 107
          have hIx13_ : gi (sm_pI (sm_aI (sm_aI S0_ 86 0 a1_.toNat (a2_ + 11)) 88 0 (S0_.1 8 0 8).toNat a1_) 8 0 8 ((S0_.1 8 0 8) + 1)) := gi_pI hIx11_ (show 0 ≤ (S0_.1 8 0 8) + 1 ∧ (S0_.1 8 0 8) + 1 ≤ 4712 from ⟨by omega, by omega⟩)
          have hFx14_ : ai_fr (sx_W vw_163) S0_ (sm_pI (sm_aI (sm_aI S0_ 86 0 a1_.toNat (a2_ + 11)) 88 0 (S0_.1 8 0 8).toNat a1_) 8 0 8 ((S0_.1 8 0 8) + 1)) := ai_fr_tr hFx12_ (ai_fr_pI rfl)
          refine sm_T_go 1 (c1 := (111, [some (.inr (.inr (some (8, 0)))), some (.inl a1_), some (.inl a2_), some (.inl a3_), some (.inl a4_)], [], sm_pI (sm_aI (sm_aI S0_ 86 0 a1_.toNat (a2_ + 11)) 88 0 (S0_.1 8 0 8).toNat a1_) 8 0 8 ((S0_.1 8 0 8) + 1))) rfl ?_
          refine sm_T_rv rfl ⟨_, _, rfl, rfl, hIx13_, hFx14_, ?_⟩
          first | exact ⟨hr_, rmo_rf⟩ | exact rsp_n hr_ h3_.1 h1_ hs_ f9_ h2_ h20_ c6_.1 hn_ (by omega) | exact rsp_f hr_ h3_.1 h1_ hs_ f9_ h2_ h20_ c8_.1 hn_ (by omega)
      · have cx6_ : ¬ ((S0_.2.2.1 22 (0 + bb_) a1_.toNat) ≠ (-1)) := of_decide_eq_false cx6_
        refine sm_T_go 5 (c1 := (51, [some (.inr (.inr (some (8, 0)))), some (.inl a1_), some (.inl a2_), some (.inl a3_), some (.inl a4_)], [.inl 1, .inl a2_, .inl a1_, .inr (.inr (some (86, 0)))], S0_)) rfl ?_
        refine sm_T_bin (w := a2_ + 1) rfl (bi_add (by omega) (by omega) (by omega)) ?_ -- pc_ 51
        refine sm_T_iast (n := 4712) rfl rfl (by omega) (by omega) ?_
        have hIx15_ : gi (sm_aI S0_ 86 0 a1_.toNat (a2_ + 1)) := gi_aI hI_ (show (-1) ≤ a2_ + 1 ∧ a2_ + 1 ≤ 100000 from ⟨by omega, by omega⟩)
        have hFx16_ : ai_fr (sx_W vw_163) S0_ (sm_aI S0_ 86 0 a1_.toNat (a2_ + 1)) := ai_fr_tr hF_ (ai_fr_aI rfl)
        have bx17_ : 0 ≤ S0_.1 8 0 6 ∧ S0_.1 8 0 6 ≤ 4712 := hI_.1 8 0 6 rfl
        refine sm_T_go 5 (c1 := (62, [some (.inr (.inr (some (8, 0)))), some (.inl a1_), some (.inl a2_), some (.inl a3_), some (.inl a4_)], [.inl a1_, .inl (S0_.1 8 0 6), .inr (.inr (some (87, 0)))], sm_aI S0_ 86 0 a1_.toNat (a2_ + 1))) rfl ?_
        refine sm_T_iast (n := 4712) rfl rfl (by omega) (by omega) ?_
        have hIx18_ : gi (sm_aI (sm_aI S0_ 86 0 a1_.toNat (a2_ + 1)) 87 0 (S0_.1 8 0 6).toNat a1_) := gi_aI hIx15_ (show 0 ≤ a1_ ∧ a1_ ≤ 4711 from ⟨by omega, by omega⟩)
        have hFx19_ : ai_fr (sx_W vw_163) S0_ (sm_aI (sm_aI S0_ 86 0 a1_.toNat (a2_ + 1)) 87 0 (S0_.1 8 0 6).toNat a1_) := ai_fr_tr hFx16_ (ai_fr_aI rfl)
        refine sm_T_go 4 (c1 := (69, [some (.inr (.inr (some (8, 0)))), some (.inl a1_), some (.inl a2_), some (.inl a3_), some (.inl a4_)], [.inl 1, .inl (S0_.1 8 0 6), .inr (.inr (some (8, 0)))], sm_aI (sm_aI S0_ 86 0 a1_.toNat (a2_ + 1)) 87 0 (S0_.1 8 0 6).toNat a1_)) rfl ?_
        refine sm_T_bin (w := (S0_.1 8 0 6) + 1) rfl (bi_add (by omega) (by omega) (by omega)) ?_ -- pc_ 69
        have hIx20_ : gi (sm_pI (sm_aI (sm_aI S0_ 86 0 a1_.toNat (a2_ + 1)) 87 0 (S0_.1 8 0 6).toNat a1_) 8 0 6 ((S0_.1 8 0 6) + 1)) := gi_pI hIx18_ (show 0 ≤ (S0_.1 8 0 6) + 1 ∧ (S0_.1 8 0 6) + 1 ≤ 4712 from ⟨by omega, by omega⟩)
        have hFx21_ : ai_fr (sx_W vw_163) S0_ (sm_pI (sm_aI (sm_aI S0_ 86 0 a1_.toNat (a2_ + 1)) 87 0 (S0_.1 8 0 6).toNat a1_) 8 0 6 ((S0_.1 8 0 6) + 1)) := ai_fr_tr hFx19_ (ai_fr_pI rfl)
        refine sm_T_go 2 (c1 := (111, [some (.inr (.inr (some (8, 0)))), some (.inl a1_), some (.inl a2_), some (.inl a3_), some (.inl a4_)], [], sm_pI (sm_aI (sm_aI S0_ 86 0 a1_.toNat (a2_ + 1)) 87 0 (S0_.1 8 0 6).toNat a1_) 8 0 6 ((S0_.1 8 0 6) + 1))) rfl ?_
        refine sm_T_rv rfl ⟨_, _, rfl, rfl, hIx20_, hFx21_, ?_⟩
        first | exact ⟨hr_, rmo_rf⟩ | exact rsp_n hr_ h3_.1 h1_ hs_ f9_ h2_ h20_ c6_.1 hn_ (by omega) | exact rsp_f hr_ h3_.1 h1_ hs_ f9_ h2_ h20_ c8_.1 hn_ (by omega)
    · have cx4_ : ¬ ((S0_.2.2.1 85 0 a1_.toNat) = (-1)) := of_decide_eq_false cx4_
      refine sm_T_go 3 (c1 := (25, [some (.inr (.inr (some (8, 0)))), some (.inl a1_), some (.inl a2_), some (.inl a3_), some (.inl a4_)], [.inl a1_, .inr (.inr (some (85, 0)))], S0_)) rfl ?_
      refine sm_T_iald (n := 4712) rfl rfl (by omega) (by omega) ?_
      refine sm_T_go 1 (c1 := (27, [some (.inr (.inr (some (8, 0)))), some (.inl a1_), some (.inl a2_), some (.inl a3_), some (.inl a4_)], [.inl a3_, .inl (S0_.2.2.1 85 0 a1_.toNat)], S0_)) rfl ?_
      refine sm_T_br (a := 0) (z := 4) rfl (fun cx22_ => ?_) (fun cx22_ => ?_)
      · have cx22_ : (S0_.2.2.1 85 0 a1_.toNat) = a3_ := of_decide_eq_true cx22_
        refine sm_T_go 1 (c1 := (32, [some (.inr (.inr (some (8, 0)))), some (.inl a1_), some (.inl a2_), some (.inl a3_), some (.inl a4_)], [.inr (.inr (some (8, 0)))], S0_)) rfl ?_
        refine sm_T_gr rfl rfl ((hF_.2.1 8 0 0 rfl).trans hb_) ?_
        refine sm_T_go 2 (c1 := (39, [some (.inr (.inr (some (8, 0)))), some (.inl a1_), some (.inl a2_), some (.inl a3_), some (.inl a4_)], [.inl a1_, .inr (.inr (some (22, (0 + bb_))))], S0_)) rfl ?_
        refine sm_T_iald (n := 4712) rfl rfl (by omega) (by omega) ?_
        have bx23_ : (-1) ≤ S0_.2.2.1 22 (0 + bb_) a1_.toNat ∧ S0_.2.2.1 22 (0 + bb_) a1_.toNat ≤ 161 := hI_.2 22 (0 + bb_) _
        refine sm_T_go 1 (c1 := (41, [some (.inr (.inr (some (8, 0)))), some (.inl a1_), some (.inl a2_), some (.inl a3_), some (.inl a4_)], [.inl (-1), .inl (S0_.2.2.1 22 (0 + bb_) a1_.toNat)], S0_)) rfl ?_
        refine sm_T_br (a := 1) (z := 35) rfl (fun cx24_ => ?_) (fun cx24_ => ?_)
        · have cx24_ : (S0_.2.2.1 22 (0 + bb_) a1_.toNat) ≠ (-1) := of_decide_eq_true cx24_
          refine sm_T_go 1 (c1 := (78, [some (.inr (.inr (some (8, 0)))), some (.inl a1_), some (.inl a2_), some (.inl a3_), some (.inl a4_)], [.inl a4_], S0_)) rfl ?_
          refine sm_T_b0 (a := 0) (z := 33) rfl (fun cx25_ => ?_) (fun cx25_ => ?_)
          · have cx25_ : a4_ = 0 := of_decide_eq_true cx25_
            refine sm_T_rv rfl ⟨_, _, rfl, rfl, hI_, hF_, ?_⟩
            first | exact ⟨hr_, rmo_rf⟩ | exact rsp_n hr_ h3_.1 h1_ hs_ f9_ h2_ h20_ c6_.1 hn_ (by omega) | exact rsp_f hr_ h3_.1 h1_ hs_ f9_ h2_ h20_ c8_.1 hn_ (by omega)
          · have cx25_ : ¬ (a4_ = 0) := of_decide_eq_false cx25_
            refine sm_T_go 5 (c1 := (89, [some (.inr (.inr (some (8, 0)))), some (.inl a1_), some (.inl a2_), some (.inl a3_), some (.inl a4_)], [.inl 11, .inl a2_, .inl a1_, .inr (.inr (some (86, 0)))], S0_)) rfl ?_
            refine sm_T_bin (w := a2_ + 11) rfl (bi_add (by omega) (by omega) (by omega)) ?_ -- pc_ 89
            refine sm_T_iast (n := 4712) rfl rfl (by omega) (by omega) ?_
            have hIx26_ : gi (sm_aI S0_ 86 0 a1_.toNat (a2_ + 11)) := gi_aI hI_ (show (-1) ≤ a2_ + 11 ∧ a2_ + 11 ≤ 100000 from ⟨by omega, by omega⟩)
            have hFx27_ : ai_fr (sx_W vw_163) S0_ (sm_aI S0_ 86 0 a1_.toNat (a2_ + 11)) := ai_fr_tr hF_ (ai_fr_aI rfl)
            have bx28_ : 0 ≤ S0_.1 8 0 8 ∧ S0_.1 8 0 8 ≤ 4712 := hI_.1 8 0 8 rfl
            refine sm_T_go 5 (c1 := (100, [some (.inr (.inr (some (8, 0)))), some (.inl a1_), some (.inl a2_), some (.inl a3_), some (.inl a4_)], [.inl a1_, .inl (S0_.1 8 0 8), .inr (.inr (some (88, 0)))], sm_aI S0_ 86 0 a1_.toNat (a2_ + 11))) rfl ?_
            refine sm_T_iast (n := 4712) rfl rfl (by omega) (by omega) ?_
            have hIx29_ : gi (sm_aI (sm_aI S0_ 86 0 a1_.toNat (a2_ + 11)) 88 0 (S0_.1 8 0 8).toNat a1_) := gi_aI hIx26_ (show 0 ≤ a1_ ∧ a1_ ≤ 4711 from ⟨by omega, by omega⟩)
            have hFx30_ : ai_fr (sx_W vw_163) S0_ (sm_aI (sm_aI S0_ 86 0 a1_.toNat (a2_ + 11)) 88 0 (S0_.1 8 0 8).toNat a1_) := ai_fr_tr hFx27_ (ai_fr_aI rfl)
            refine sm_T_go 4 (c1 := (107, [some (.inr (.inr (some (8, 0)))), some (.inl a1_), some (.inl a2_), some (.inl a3_), some (.inl a4_)], [.inl 1, .inl (S0_.1 8 0 8), .inr (.inr (some (8, 0)))], sm_aI (sm_aI S0_ 86 0 a1_.toNat (a2_ + 11)) 88 0 (S0_.1 8 0 8).toNat a1_)) rfl ?_
            refine sm_T_bin (w := (S0_.1 8 0 8) + 1) rfl (bi_add (by omega) (by omega) (by omega)) ?_ -- pc_ 107
            have hIx31_ : gi (sm_pI (sm_aI (sm_aI S0_ 86 0 a1_.toNat (a2_ + 11)) 88 0 (S0_.1 8 0 8).toNat a1_) 8 0 8 ((S0_.1 8 0 8) + 1)) := gi_pI hIx29_ (show 0 ≤ (S0_.1 8 0 8) + 1 ∧ (S0_.1 8 0 8) + 1 ≤ 4712 from ⟨by omega, by omega⟩)
            have hFx32_ : ai_fr (sx_W vw_163) S0_ (sm_pI (sm_aI (sm_aI S0_ 86 0 a1_.toNat (a2_ + 11)) 88 0 (S0_.1 8 0 8).toNat a1_) 8 0 8 ((S0_.1 8 0 8) + 1)) := ai_fr_tr hFx30_ (ai_fr_pI rfl)
            refine sm_T_go 1 (c1 := (111, [some (.inr (.inr (some (8, 0)))), some (.inl a1_), some (.inl a2_), some (.inl a3_), some (.inl a4_)], [], sm_pI (sm_aI (sm_aI S0_ 86 0 a1_.toNat (a2_ + 11)) 88 0 (S0_.1 8 0 8).toNat a1_) 8 0 8 ((S0_.1 8 0 8) + 1))) rfl ?_
            refine sm_T_rv rfl ⟨_, _, rfl, rfl, hIx31_, hFx32_, ?_⟩
            first | exact ⟨hr_, rmo_rf⟩ | exact rsp_n hr_ h3_.1 h1_ hs_ f9_ h2_ h20_ c6_.1 hn_ (by omega) | exact rsp_f hr_ h3_.1 h1_ hs_ f9_ h2_ h20_ c8_.1 hn_ (by omega)
        · have cx24_ : ¬ ((S0_.2.2.1 22 (0 + bb_) a1_.toNat) ≠ (-1)) := of_decide_eq_false cx24_
          refine sm_T_go 5 (c1 := (51, [some (.inr (.inr (some (8, 0)))), some (.inl a1_), some (.inl a2_), some (.inl a3_), some (.inl a4_)], [.inl 1, .inl a2_, .inl a1_, .inr (.inr (some (86, 0)))], S0_)) rfl ?_
          refine sm_T_bin (w := a2_ + 1) rfl (bi_add (by omega) (by omega) (by omega)) ?_ -- pc_ 51
          refine sm_T_iast (n := 4712) rfl rfl (by omega) (by omega) ?_
          have hIx33_ : gi (sm_aI S0_ 86 0 a1_.toNat (a2_ + 1)) := gi_aI hI_ (show (-1) ≤ a2_ + 1 ∧ a2_ + 1 ≤ 100000 from ⟨by omega, by omega⟩)
          have hFx34_ : ai_fr (sx_W vw_163) S0_ (sm_aI S0_ 86 0 a1_.toNat (a2_ + 1)) := ai_fr_tr hF_ (ai_fr_aI rfl)
          have bx35_ : 0 ≤ S0_.1 8 0 6 ∧ S0_.1 8 0 6 ≤ 4712 := hI_.1 8 0 6 rfl
          refine sm_T_go 5 (c1 := (62, [some (.inr (.inr (some (8, 0)))), some (.inl a1_), some (.inl a2_), some (.inl a3_), some (.inl a4_)], [.inl a1_, .inl (S0_.1 8 0 6), .inr (.inr (some (87, 0)))], sm_aI S0_ 86 0 a1_.toNat (a2_ + 1))) rfl ?_
          refine sm_T_iast (n := 4712) rfl rfl (by omega) (by omega) ?_
          have hIx36_ : gi (sm_aI (sm_aI S0_ 86 0 a1_.toNat (a2_ + 1)) 87 0 (S0_.1 8 0 6).toNat a1_) := gi_aI hIx33_ (show 0 ≤ a1_ ∧ a1_ ≤ 4711 from ⟨by omega, by omega⟩)
          have hFx37_ : ai_fr (sx_W vw_163) S0_ (sm_aI (sm_aI S0_ 86 0 a1_.toNat (a2_ + 1)) 87 0 (S0_.1 8 0 6).toNat a1_) := ai_fr_tr hFx34_ (ai_fr_aI rfl)
          refine sm_T_go 4 (c1 := (69, [some (.inr (.inr (some (8, 0)))), some (.inl a1_), some (.inl a2_), some (.inl a3_), some (.inl a4_)], [.inl 1, .inl (S0_.1 8 0 6), .inr (.inr (some (8, 0)))], sm_aI (sm_aI S0_ 86 0 a1_.toNat (a2_ + 1)) 87 0 (S0_.1 8 0 6).toNat a1_)) rfl ?_
          refine sm_T_bin (w := (S0_.1 8 0 6) + 1) rfl (bi_add (by omega) (by omega) (by omega)) ?_ -- pc_ 69
          have hIx38_ : gi (sm_pI (sm_aI (sm_aI S0_ 86 0 a1_.toNat (a2_ + 1)) 87 0 (S0_.1 8 0 6).toNat a1_) 8 0 6 ((S0_.1 8 0 6) + 1)) := gi_pI hIx36_ (show 0 ≤ (S0_.1 8 0 6) + 1 ∧ (S0_.1 8 0 6) + 1 ≤ 4712 from ⟨by omega, by omega⟩)
          have hFx39_ : ai_fr (sx_W vw_163) S0_ (sm_pI (sm_aI (sm_aI S0_ 86 0 a1_.toNat (a2_ + 1)) 87 0 (S0_.1 8 0 6).toNat a1_) 8 0 6 ((S0_.1 8 0 6) + 1)) := ai_fr_tr hFx37_ (ai_fr_pI rfl)
          refine sm_T_go 2 (c1 := (111, [some (.inr (.inr (some (8, 0)))), some (.inl a1_), some (.inl a2_), some (.inl a3_), some (.inl a4_)], [], sm_pI (sm_aI (sm_aI S0_ 86 0 a1_.toNat (a2_ + 1)) 87 0 (S0_.1 8 0 6).toNat a1_) 8 0 6 ((S0_.1 8 0 6) + 1))) rfl ?_
          refine sm_T_rv rfl ⟨_, _, rfl, rfl, hIx38_, hFx39_, ?_⟩
          first | exact ⟨hr_, rmo_rf⟩ | exact rsp_n hr_ h3_.1 h1_ hs_ f9_ h2_ h20_ c6_.1 hn_ (by omega) | exact rsp_f hr_ h3_.1 h1_ hs_ f9_ h2_ h20_ c8_.1 hn_ (by omega)
      · have cx22_ : ¬ ((S0_.2.2.1 85 0 a1_.toNat) = a3_) := of_decide_eq_false cx22_
        refine sm_T_rv rfl ⟨_, _, rfl, rfl, hI_, hF_, ?_⟩
        exact ⟨hr_, rmo_rf⟩

theorem rgw_fr {w_ : sx_Wl} {S_ S'_ : sm_S} (h_ : rgw S_) (g_ : ai_fr (sx_W w_) S_ S'_) (h1_ : (sx_W w_).1 8 1 = false := by rfl) (h2_ : (sx_W w_).1 8 2 = false := by rfl) : rgw S'_ := by
  unfold rgw
  rw [g_.1 8 0 1 h1_, g_.1 8 0 2 h2_]
  exact h_
end
/-! 99.zkda -/
section
/-! wires: neighbours; written by wip/p55/gen/vg -/
/-! Router.spreadFrom -/
def vw_162 : sx_Wl := ([(8, 6), (8, 8)], [86, 87, 88], [])
def vq_162 (a1_ : Int) (a2_ : Int) (a3_ : Int) (bb_ : Nat) (S0_ : sm_S) (u_ : Option sm_V) (S1_ : sm_S) : Prop := u_ = none ∧ gi S1_ ∧ ai_fr (sx_W vw_162) S0_ S1_ ∧ (rsp bb_ a2_ S1_ ∧ rmo S0_ S1_)
set_option maxHeartbeats 400000 in
theorem vc_162 {sc_ : Nat × (Nat → Int)} (a1_ : Int) (a2_ : Int) (a3_ : Int) (bb_ : Nat) (S0_ : sm_S) (hI_ : gi S0_) (hb_ : S0_.2.1 8 0 0 = some bb_) (hg_ : rgw S0_) (hr_ : rsp bb_ a2_ S0_) (h1_ : 0 ≤ a1_ ∧ a1_ < 2 * S0_.1 8 0 2) (h2_ : 0 ≤ a2_ ∧ a2_ ≤ 161) (h0_ : 0 ≤ S0_.2.2.1 86 0 a1_.toNat) : sm_T (mt_P sc_) 1 162 (0, [some (.inr (.inr (some (8, 0)))), some (.inl a1_), some (.inl a2_), some (.inl a3_), none, none], [], S0_) (fun ro9_ => ∃ u_ S1_, ro9_ = (.inl u_, S1_, 0) ∧ vq_162 a1_ a2_ a3_ bb_ S0_ u_ S1_) := by
  have hF_ : ai_fr (sx_W vw_162) S0_ S0_ := ai_fr_rf
  have cL_ : 0 ≤ S0_.1 8 0 2 ∧ S0_.1 8 0 2 ≤ 2356 := hI_.1 8 0 2 rfl
  have cw : 0 ≤ S0_.1 8 0 1 ∧ S0_.1 8 0 1 ≤ 62 := hI_.1 8 0 1 rfl
  have w9_ := hg_.1
  have L9_ := hg_.2.1
  obtain ⟨kk_, hkk_⟩ := hg_.2.2
  have q9_ := Int.emod_lt_of_pos a1_ (show 0 < S0_.1 8 0 1 by omega)
  have q8_ := Int.emod_nonneg a1_ (show S0_.1 8 0 1 ≠ 0 by omega)
  refine sm_T_go 3 (c1 := (5, [some (.inr (.inr (some (8, 0)))), some (.inl a1_), some (.inl a2_), some (.inl a3_), none, none], [.inl a1_, .inr (.inr (some (86, 0)))], S0_)) rfl ?_
  refine sm_T_iald (n := 4712) rfl rfl (by omega) (by omega) ?_
  have bx1_ : (-1) ≤ S0_.2.2.1 86 0 a1_.toNat ∧ S0_.2.2.1 86 0 a1_.toNat ≤ 100000 := hI_.2 86 0 _
  have bx2_ : 0 ≤ S0_.1 8 0 2 ∧ S0_.1 8 0 2 ≤ 2356 := hI_.1 8 0 2 rfl
  refine sm_T_go 4 (c1 := (13, [some (.inr (.inr (some (8, 0)))), some (.inl a1_), some (.inl a2_), some (.inl a3_), some (.inl (S0_.2.2.1 86 0 a1_.toNat)), none], [.inl (S0_.1 8 0 2), .inl a1_], S0_)) rfl ?_
  refine sm_T_br (a := 3) (z := 77) rfl (fun cx3_ => ?_) (fun cx3_ => ?_)
  · have cx3_ : (S0_.1 8 0 2) ≤ a1_ := of_decide_eq_true cx3_
    refine sm_T_go 3 (c1 := (95, [some (.inr (.inr (some (8, 0)))), some (.inl a1_), some (.inl a2_), some (.inl a3_), some (.inl (S0_.2.2.1 86 0 a1_.toNat)), none], [.inl (S0_.1 8 0 2), .inl a1_], S0_)) rfl ?_
    refine sm_T_bin (w := a1_ - (S0_.1 8 0 2)) rfl (bi_sub (by omega) (by omega) (by omega)) ?_ -- pc_ 95
    have bx4_ : 0 ≤ S0_.1 8 0 1 ∧ S0_.1 8 0 1 ≤ 62 := hI_.1 8 0 1 rfl
    refine sm_T_go 4 (c1 := (104, [some (.inr (.inr (some (8, 0)))), some (.inl a1_), some (.inl a2_), some (.inl a3_), some (.inl (S0_.2.2.1 86 0 a1_.toNat)), some (.inl (a1_ - (S0_.1 8 0 2)))], [.inl (S0_.1 8 0 1), .inl (a1_ - (S0_.1 8 0 2))], S0_)) rfl ?_
    refine sm_T_br (a := 2) (z := 17) rfl (fun cx5_ => ?_) (fun cx5_ => ?_)
    · have cx5_ : a1_ - (S0_.1 8 0 2) < (S0_.1 8 0 1) := of_decide_eq_true cx5_
      refine sm_T_go 5 (c1 := (131, [some (.inr (.inr (some (8, 0)))), some (.inl a1_), some (.inl a2_), some (.inl a3_), some (.inl (S0_.2.2.1 86 0 a1_.toNat)), some (.inl (a1_ - (S0_.1 8 0 2)))], [.inl (S0_.1 8 0 1), .inl (S0_.1 8 0 2), .inl (a1_ - (S0_.1 8 0 2))], S0_)) rfl ?_
      refine sm_T_bin (w := (S0_.1 8 0 2) - (S0_.1 8 0 1)) rfl (bi_sub (by omega) (by omega) (by omega)) ?_ -- pc_ 131
      refine sm_T_br (a := 3) (z := 17) rfl (fun cx6_ => ?_) (fun cx6_ => ?_)
      · have cx6_ : (S0_.1 8 0 2) - (S0_.1 8 0 1) ≤ a1_ - (S0_.1 8 0 2) := of_decide_eq_true cx6_
        refine sm_T_go 5 (c1 := (156, [some (.inr (.inr (some (8, 0)))), some (.inl a1_), some (.inl a2_), some (.inl a3_), some (.inl (S0_.2.2.1 86 0 a1_.toNat)), some (.inl (a1_ - (S0_.1 8 0 2)))], [.inl a3_, .inl a2_, .inl (S0_.2.2.1 86 0 a1_.toNat), .inl (a1_ - (S0_.1 8 0 2)), .inr (.inr (some (8, 0)))], S0_)) rfl ?_
        refine sm_T_cal (d1 := 0) (Q1 := vq_163 (a1_ - (S0_.1 8 0 2)) (S0_.2.2.1 86 0 a1_.toNat) a2_ a3_ bb_ a1_ S0_) rfl rfl (by decide) (vc_163 (a1_ - (S0_.1 8 0 2)) (S0_.2.2.1 86 0 a1_.toNat) a2_ a3_ bb_ a1_ S0_ hI_ (by exact (hF_.2.1 8 0 0 rfl).trans hb_) (by exact rgw_fr hg_ hF_) (by first | exact x146_.1 | exact x118_.1 | exact hr_) (by omega) (by omega) (by omega) (by (first | rfl | omega)) (by omega) (by ((first | rw [l146_, m146_] | rw [l118_, m118_] | skip); exact ⟨4, by decide, by rw [nb_4 (by omega)]; omega⟩))) (fun u_ Sx7_ px10_ => ?_)
        obtain ⟨rfl, hIx8_, hFx9_, px10_⟩ := px10_
        have hFx11_ : ai_fr (sx_W vw_162) S0_ Sx7_ := ai_fr_tr hF_ (fr_le hFx9_ rfl)
        have ex12_ : Sx7_.1 8 0 2 = S0_.1 8 0 2 := hFx9_.1 8 0 2 rfl
        have ex13_ : Sx7_.1 8 0 1 = S0_.1 8 0 1 := hFx9_.1 8 0 1 rfl
        have x156_ := px10_
        have y156_ : rmo S0_ Sx7_ := by first | exact rmo_tr y146_ px10_.2 | exact rmo_tr y118_ px10_.2 | exact px10_.2
        have l156_ : Sx7_.1 8 0 1 = S0_.1 8 0 1 := hFx11_.1 8 0 1 rfl
        have m156_ : Sx7_.1 8 0 2 = S0_.1 8 0 2 := hFx11_.1 8 0 2 rfl
        have z156_ : Sx7_.2.2.1 86 0 a1_.toNat = S0_.2.2.1 86 0 a1_.toNat := y156_.1 a1_.toNat (by omega)
        refine sm_T_rv rfl ⟨_, _, rfl, rfl, hIx8_, hFx11_, ?_⟩
        first | exact ⟨x84_.1, y84_⟩ | exact ⟨x156_.1, y156_⟩
      · have cx6_ : ¬ ((S0_.1 8 0 2) - (S0_.1 8 0 1) ≤ a1_ - (S0_.1 8 0 2)) := of_decide_eq_false cx6_
        refine sm_T_go 4 (c1 := (141, [some (.inr (.inr (some (8, 0)))), some (.inl a1_), some (.inl a2_), some (.inl a3_), some (.inl (S0_.2.2.1 86 0 a1_.toNat)), some (.inl (a1_ - (S0_.1 8 0 2)))], [.inl (S0_.1 8 0 1), .inl a1_, .inr (.inr (some (8, 0)))], S0_)) rfl ?_
        refine sm_T_bin (w := a1_ + (S0_.1 8 0 1)) rfl (bi_add (by omega) (by omega) (by omega)) ?_ -- pc_ 141
        refine sm_T_go 3 (c1 := (146, [some (.inr (.inr (some (8, 0)))), some (.inl a1_), some (.inl a2_), some (.inl a3_), some (.inl (S0_.2.2.1 86 0 a1_.toNat)), some (.inl (a1_ - (S0_.1 8 0 2)))], [.inl a3_, .inl a2_, .inl (S0_.2.2.1 86 0 a1_.toNat), .inl (a1_ + (S0_.1 8 0 1)), .inr (.inr (some (8, 0)))], S0_)) rfl ?_
        refine sm_T_cal (d1 := 0) (Q1 := vq_163 (a1_ + (S0_.1 8 0 1)) (S0_.2.2.1 86 0 a1_.toNat) a2_ a3_ bb_ a1_ S0_) rfl rfl (by decide) (vc_163 (a1_ + (S0_.1 8 0 1)) (S0_.2.2.1 86 0 a1_.toNat) a2_ a3_ bb_ a1_ S0_ hI_ (by exact (hF_.2.1 8 0 0 rfl).trans hb_) (by exact rgw_fr hg_ hF_) (by first | exact x118_.1 | exact hr_) (by omega) (by omega) (by omega) (by (first | rfl | omega)) (by omega) (by ((first | rw [l118_, m118_] | skip); exact ⟨2, by decide, by rw [nb_2 (by omega) (by omega)]; omega⟩))) (fun u_ Sx14_ px17_ => ?_)
        obtain ⟨rfl, hIx15_, hFx16_, px17_⟩ := px17_
        have hFx18_ : ai_fr (sx_W vw_162) S0_ Sx14_ := ai_fr_tr hF_ (fr_le hFx16_ rfl)
        have ex19_ : Sx14_.1 8 0 2 = S0_.1 8 0 2 := hFx16_.1 8 0 2 rfl
        have ex20_ : Sx14_.1 8 0 1 = S0_.1 8 0 1 := hFx16_.1 8 0 1 rfl
        have x146_ := px17_
        have y146_ : rmo S0_ Sx14_ := by first | exact rmo_tr y118_ px17_.2 | exact px17_.2
        have l146_ : Sx14_.1 8 0 1 = S0_.1 8 0 1 := hFx18_.1 8 0 1 rfl
        have m146_ : Sx14_.1 8 0 2 = S0_.1 8 0 2 := hFx18_.1 8 0 2 rfl
        have z146_ : Sx14_.2.2.1 86 0 a1_.toNat = S0_.2.2.1 86 0 a1_.toNat := y146_.1 a1_.toNat (by omega)
        refine sm_T_go 5 (c1 := (156, [some (.inr (.inr (some (8, 0)))), some (.inl a1_), some (.inl a2_), some (.inl a3_), some (.inl (S0_.2.2.1 86 0 a1_.toNat)), some (.inl (a1_ - (S0_.1 8 0 2)))], [.inl a3_, .inl a2_, .inl (S0_.2.2.1 86 0 a1_.toNat), .inl (a1_ - (S0_.1 8 0 2)), .inr (.inr (some (8, 0)))], Sx14_)) rfl ?_
        refine sm_T_cal (d1 := 0) (Q1 := vq_163 (a1_ - (S0_.1 8 0 2)) (S0_.2.2.1 86 0 a1_.toNat) a2_ a3_ bb_ a1_ Sx14_) rfl rfl (by decide) (vc_163 (a1_ - (S0_.1 8 0 2)) (S0_.2.2.1 86 0 a1_.toNat) a2_ a3_ bb_ a1_ Sx14_ hIx15_ (by exact (hFx18_.2.1 8 0 0 rfl).trans hb_) (by exact rgw_fr hg_ hFx18_) (by first | exact x146_.1 | exact x118_.1 | exact hr_) (by omega) (by omega) (by omega) (by (first | rfl | omega)) (by omega) (by ((first | rw [l146_, m146_] | rw [l118_, m118_] | skip); exact ⟨4, by decide, by rw [nb_4 (by omega)]; omega⟩))) (fun u_ Sx21_ px24_ => ?_)
        obtain ⟨rfl, hIx22_, hFx23_, px24_⟩ := px24_
        have hFx25_ : ai_fr (sx_W vw_162) S0_ Sx21_ := ai_fr_tr hFx18_ (fr_le hFx23_ rfl)
        have x156_ := px24_
        have y156_ : rmo S0_ Sx21_ := by first | exact rmo_tr y146_ px24_.2 | exact rmo_tr y118_ px24_.2 | exact px24_.2
        have l156_ : Sx21_.1 8 0 1 = S0_.1 8 0 1 := hFx25_.1 8 0 1 rfl
        have m156_ : Sx21_.1 8 0 2 = S0_.1 8 0 2 := hFx25_.1 8 0 2 rfl
        have z156_ : Sx21_.2.2.1 86 0 a1_.toNat = S0_.2.2.1 86 0 a1_.toNat := y156_.1 a1_.toNat (by omega)
        refine sm_T_rv rfl ⟨_, _, rfl, rfl, hIx22_, hFx25_, ?_⟩
        first | exact ⟨x84_.1, y84_⟩ | exact ⟨x156_.1, y156_⟩
    · have cx5_ : ¬ (a1_ - (S0_.1 8 0 2) < (S0_.1 8 0 1)) := of_decide_eq_false cx5_
      refine sm_T_go 4 (c1 := (113, [some (.inr (.inr (some (8, 0)))), some (.inl a1_), some (.inl a2_), some (.inl a3_), some (.inl (S0_.2.2.1 86 0 a1_.toNat)), some (.inl (a1_ - (S0_.1 8 0 2)))], [.inl (S0_.1 8 0 1), .inl a1_, .inr (.inr (some (8, 0)))], S0_)) rfl ?_
      refine sm_T_bin (w := a1_ - (S0_.1 8 0 1)) rfl (bi_sub (by omega) (by omega) (by omega)) ?_ -- pc_ 113
      refine sm_T_go 3 (c1 := (118, [some (.inr (.inr (some (8, 0)))), some (.inl a1_), some (.inl a2_), some (.inl a3_), some (.inl (S0_.2.2.1 86 0 a1_.toNat)), some (.inl (a1_ - (S0_.1 8 0 2)))], [.inl a3_, .inl a2_, .inl (S0_.2.2.1 86 0 a1_.toNat), .inl (a1_ - (S0_.1 8 0 1)), .inr (.inr (some (8, 0)))], S0_)) rfl ?_
      refine sm_T_cal (d1 := 0) (Q1 := vq_163 (a1_ - (S0_.1 8 0 1)) (S0_.2.2.1 86 0 a1_.toNat) a2_ a3_ bb_ a1_ S0_) rfl rfl (by decide) (vc_163 (a1_ - (S0_.1 8 0 1)) (S0_.2.2.1 86 0 a1_.toNat) a2_ a3_ bb_ a1_ S0_ hI_ (by exact (hF_.2.1 8 0 0 rfl).trans hb_) (by exact rgw_fr hg_ hF_) (by exact hr_) (by omega) (by omega) (by omega) (by (first | rfl | omega)) (by omega) (by (skip; exact ⟨3, by decide, by rw [nb_3 (by omega) (by omega)]; omega⟩))) (fun u_ Sx26_ px29_ => ?_)
      obtain ⟨rfl, hIx27_, hFx28_, px29_⟩ := px29_
      have hFx30_ : ai_fr (sx_W vw_162) S0_ Sx26_ := ai_fr_tr hF_ (fr_le hFx28_ rfl)
      have ex31_ : Sx26_.1 8 0 2 = S0_.1 8 0 2 := hFx28_.1 8 0 2 rfl
      have ex32_ : Sx26_.1 8 0 1 = S0_.1 8 0 1 := hFx28_.1 8 0 1 rfl
      have x118_ := px29_
      have y118_ : rmo S0_ Sx26_ := by first | exact px29_.2
      have l118_ : Sx26_.1 8 0 1 = S0_.1 8 0 1 := hFx30_.1 8 0 1 rfl
      have m118_ : Sx26_.1 8 0 2 = S0_.1 8 0 2 := hFx30_.1 8 0 2 rfl
      have z118_ : Sx26_.2.2.1 86 0 a1_.toNat = S0_.2.2.1 86 0 a1_.toNat := y118_.1 a1_.toNat (by omega)
      have bx33_ : 0 ≤ Sx26_.1 8 0 2 ∧ Sx26_.1 8 0 2 ≤ 2356 := hIx27_.1 8 0 2 rfl
      have bx34_ : 0 ≤ Sx26_.1 8 0 1 ∧ Sx26_.1 8 0 1 ≤ 62 := hIx27_.1 8 0 1 rfl
      refine sm_T_go 5 (c1 := (131, [some (.inr (.inr (some (8, 0)))), some (.inl a1_), some (.inl a2_), some (.inl a3_), some (.inl (S0_.2.2.1 86 0 a1_.toNat)), some (.inl (a1_ - (S0_.1 8 0 2)))], [.inl (Sx26_.1 8 0 1), .inl (Sx26_.1 8 0 2), .inl (a1_ - (S0_.1 8 0 2))], Sx26_)) rfl ?_
      refine sm_T_bin (w := (Sx26_.1 8 0 2) - (Sx26_.1 8 0 1)) rfl (bi_sub (by omega) (by omega) (by omega)) ?_ -- pc_ 131
      refine sm_T_br (a := 3) (z := 17) rfl (fun cx35_ => ?_) (fun cx35_ => ?_)
      · have cx35_ : (Sx26_.1 8 0 2) - (Sx26_.1 8 0 1) ≤ a1_ - (S0_.1 8 0 2) := of_decide_eq_true cx35_
        refine sm_T_go 5 (c1 := (156, [some (.inr (.inr (some (8, 0)))), some (.inl a1_), some (.inl a2_), some (.inl a3_), some (.inl (S0_.2.2.1 86 0 a1_.toNat)), some (.inl (a1_ - (S0_.1 8 0 2)))], [.inl a3_, .inl a2_, .inl (S0_.2.2.1 86 0 a1_.toNat), .inl (a1_ - (S0_.1 8 0 2)), .inr (.inr (some (8, 0)))], Sx26_)) rfl ?_
        refine sm_T_cal (d1 := 0) (Q1 := vq_163 (a1_ - (S0_.1 8 0 2)) (S0_.2.2.1 86 0 a1_.toNat) a2_ a3_ bb_ a1_ Sx26_) rfl rfl (by decide) (vc_163 (a1_ - (S0_.1 8 0 2)) (S0_.2.2.1 86 0 a1_.toNat) a2_ a3_ bb_ a1_ Sx26_ hIx27_ (by exact (hFx30_.2.1 8 0 0 rfl).trans hb_) (by exact rgw_fr hg_ hFx30_) (by first | exact x146_.1 | exact x118_.1 | exact hr_) (by omega) (by omega) (by omega) (by (first | rfl | omega)) (by omega) (by ((first | rw [l146_, m146_] | rw [l118_, m118_] | skip); exact ⟨4, by decide, by rw [nb_4 (by omega)]; omega⟩))) (fun u_ Sx36_ px39_ => ?_)
        obtain ⟨rfl, hIx37_, hFx38_, px39_⟩ := px39_
        have hFx40_ : ai_fr (sx_W vw_162) S0_ Sx36_ := ai_fr_tr hFx30_ (fr_le hFx38_ rfl)
        have ex41_ : Sx36_.1 8 0 2 = Sx26_.1 8 0 2 := hFx38_.1 8 0 2 rfl
        have ex42_ : Sx36_.1 8 0 1 = Sx26_.1 8 0 1 := hFx38_.1 8 0 1 rfl
        have x156_ := px39_
        have y156_ : rmo S0_ Sx36_ := by first | exact rmo_tr y146_ px39_.2 | exact rmo_tr y118_ px39_.2 | exact px39_.2
        have l156_ : Sx36_.1 8 0 1 = S0_.1 8 0 1 := hFx40_.1 8 0 1 rfl
        have m156_ : Sx36_.1 8 0 2 = S0_.1 8 0 2 := hFx40_.1 8 0 2 rfl
        have z156_ : Sx36_.2.2.1 86 0 a1_.toNat = S0_.2.2.1 86 0 a1_.toNat := y156_.1 a1_.toNat (by omega)
        refine sm_T_rv rfl ⟨_, _, rfl, rfl, hIx37_, hFx40_, ?_⟩
        first | exact ⟨x84_.1, y84_⟩ | exact ⟨x156_.1, y156_⟩
      · have cx35_ : ¬ ((Sx26_.1 8 0 2) - (Sx26_.1 8 0 1) ≤ a1_ - (S0_.1 8 0 2)) := of_decide_eq_false cx35_
        refine sm_T_go 4 (c1 := (141, [some (.inr (.inr (some (8, 0)))), some (.inl a1_), some (.inl a2_), some (.inl a3_), some (.inl (S0_.2.2.1 86 0 a1_.toNat)), some (.inl (a1_ - (S0_.1 8 0 2)))], [.inl (Sx26_.1 8 0 1), .inl a1_, .inr (.inr (some (8, 0)))], Sx26_)) rfl ?_
        refine sm_T_bin (w := a1_ + (Sx26_.1 8 0 1)) rfl (bi_add (by omega) (by omega) (by omega)) ?_ -- pc_ 141
        refine sm_T_go 3 (c1 := (146, [some (.inr (.inr (some (8, 0)))), some (.inl a1_), some (.inl a2_), some (.inl a3_), some (.inl (S0_.2.2.1 86 0 a1_.toNat)), some (.inl (a1_ - (S0_.1 8 0 2)))], [.inl a3_, .inl a2_, .inl (S0_.2.2.1 86 0 a1_.toNat), .inl (a1_ + (Sx26_.1 8 0 1)), .inr (.inr (some (8, 0)))], Sx26_)) rfl ?_
        refine sm_T_cal (d1 := 0) (Q1 := vq_163 (a1_ + (Sx26_.1 8 0 1)) (S0_.2.2.1 86 0 a1_.toNat) a2_ a3_ bb_ a1_ Sx26_) rfl rfl (by decide) (vc_163 (a1_ + (Sx26_.1 8 0 1)) (S0_.2.2.1 86 0 a1_.toNat) a2_ a3_ bb_ a1_ Sx26_ hIx27_ (by exact (hFx30_.2.1 8 0 0 rfl).trans hb_) (by exact rgw_fr hg_ hFx30_) (by first | exact x118_.1 | exact hr_) (by omega) (by omega) (by omega) (by (first | rfl | omega)) (by omega) (by ((first | rw [l118_, m118_] | skip); exact ⟨2, by decide, by rw [nb_2 (by omega) (by omega)]; omega⟩))) (fun u_ Sx43_ px46_ => ?_)
        obtain ⟨rfl, hIx44_, hFx45_, px46_⟩ := px46_
        have hFx47_ : ai_fr (sx_W vw_162) S0_ Sx43_ := ai_fr_tr hFx30_ (fr_le hFx45_ rfl)
        have ex48_ : Sx43_.1 8 0 2 = Sx26_.1 8 0 2 := hFx45_.1 8 0 2 rfl
        have ex49_ : Sx43_.1 8 0 1 = Sx26_.1 8 0 1 := hFx45_.1 8 0 1 rfl
        have x146_ := px46_
        have y146_ : rmo S0_ Sx43_ := by first | exact rmo_tr y118_ px46_.2 | exact px46_.2
        have l146_ : Sx43_.1 8 0 1 = S0_.1 8 0 1 := hFx47_.1 8 0 1 rfl
        have m146_ : Sx43_.1 8 0 2 = S0_.1 8 0 2 := hFx47_.1 8 0 2 rfl
        have z146_ : Sx43_.2.2.1 86 0 a1_.toNat = S0_.2.2.1 86 0 a1_.toNat := y146_.1 a1_.toNat (by omega)
        refine sm_T_go 5 (c1 := (156, [some (.inr (.inr (some (8, 0)))), some (.inl a1_), some (.inl a2_), some (.inl a3_), some (.inl (S0_.2.2.1 86 0 a1_.toNat)), some (.inl (a1_ - (S0_.1 8 0 2)))], [.inl a3_, .inl a2_, .inl (S0_.2.2.1 86 0 a1_.toNat), .inl (a1_ - (S0_.1 8 0 2)), .inr (.inr (some (8, 0)))], Sx43_)) rfl ?_
        refine sm_T_cal (d1 := 0) (Q1 := vq_163 (a1_ - (S0_.1 8 0 2)) (S0_.2.2.1 86 0 a1_.toNat) a2_ a3_ bb_ a1_ Sx43_) rfl rfl (by decide) (vc_163 (a1_ - (S0_.1 8 0 2)) (S0_.2.2.1 86 0 a1_.toNat) a2_ a3_ bb_ a1_ Sx43_ hIx44_ (by exact (hFx47_.2.1 8 0 0 rfl).trans hb_) (by exact rgw_fr hg_ hFx47_) (by first | exact x146_.1 | exact x118_.1 | exact hr_) (by omega) (by omega) (by omega) (by (first | rfl | omega)) (by omega) (by ((first | rw [l146_, m146_] | rw [l118_, m118_] | skip); exact ⟨4, by decide, by rw [nb_4 (by omega)]; omega⟩))) (fun u_ Sx50_ px53_ => ?_)
        obtain ⟨rfl, hIx51_, hFx52_, px53_⟩ := px53_
        have hFx54_ : ai_fr (sx_W vw_162) S0_ Sx50_ := ai_fr_tr hFx47_ (fr_le hFx52_ rfl)
        have x156_ := px53_
        have y156_ : rmo S0_ Sx50_ := by first | exact rmo_tr y146_ px53_.2 | exact rmo_tr y118_ px53_.2 | exact px53_.2
        have l156_ : Sx50_.1 8 0 1 = S0_.1 8 0 1 := hFx54_.1 8 0 1 rfl
        have m156_ : Sx50_.1 8 0 2 = S0_.1 8 0 2 := hFx54_.1 8 0 2 rfl
        have z156_ : Sx50_.2.2.1 86 0 a1_.toNat = S0_.2.2.1 86 0 a1_.toNat := y156_.1 a1_.toNat (by omega)
        refine sm_T_rv rfl ⟨_, _, rfl, rfl, hIx51_, hFx54_, ?_⟩
        first | exact ⟨x84_.1, y84_⟩ | exact ⟨x156_.1, y156_⟩
  · have cx3_ : ¬ ((S0_.1 8 0 2) ≤ a1_) := of_decide_eq_false cx3_
    have bx55_ : 0 ≤ S0_.1 8 0 1 ∧ S0_.1 8 0 1 ≤ 62 := hI_.1 8 0 1 rfl
    refine sm_T_go 2 (c1 := (20, [some (.inr (.inr (some (8, 0)))), some (.inl a1_), some (.inl a2_), some (.inl a3_), some (.inl (S0_.2.2.1 86 0 a1_.toNat)), none], [.inl (S0_.1 8 0 1)], S0_)) rfl ?_
    refine sm_T_b0 (a := 5) (z := 12) rfl (fun cx56_ => ?_) (fun cx56_ => ?_)
    · have cx56_ : (S0_.1 8 0 1) ≤ 0 := of_decide_eq_true cx56_
      exfalso; omega
    · have cx56_ : ¬ ((S0_.1 8 0 1) ≤ 0) := of_decide_eq_false cx56_
      refine sm_T_go 3 (c1 := (28, [some (.inr (.inr (some (8, 0)))), some (.inl a1_), some (.inl a2_), some (.inl a3_), some (.inl (S0_.2.2.1 86 0 a1_.toNat)), none], [.inl (S0_.1 8 0 1), .inl a1_], S0_)) rfl ?_
      refine sm_T_bin (w := (a1_ % (S0_.1 8 0 1))) rfl (bi_rem (by omega) (by omega) (by omega) (by omega)) ?_ -- pc_ 28
      refine sm_T_go 3 (c1 := (37, [some (.inr (.inr (some (8, 0)))), some (.inl a1_), some (.inl a2_), some (.inl a3_), some (.inl (S0_.2.2.1 86 0 a1_.toNat)), some (.inl (a1_ % (S0_.1 8 0 1)))], [.inl (a1_ % (S0_.1 8 0 1))], S0_)) rfl ?_
      refine sm_T_b0 (a := 5) (z := 14) rfl (fun cx57_ => ?_) (fun cx57_ => ?_)
      · have cx57_ : (a1_ % (S0_.1 8 0 1)) ≤ 0 := of_decide_eq_true cx57_
        refine sm_T_go 4 (c1 := (58, [some (.inr (.inr (some (8, 0)))), some (.inl a1_), some (.inl a2_), some (.inl a3_), some (.inl (S0_.2.2.1 86 0 a1_.toNat)), some (.inl (a1_ % (S0_.1 8 0 1)))], [.inl 1, .inl (S0_.1 8 0 1), .inl (a1_ % (S0_.1 8 0 1))], S0_)) rfl ?_
        refine sm_T_bin (w := (S0_.1 8 0 1) - 1) rfl (bi_sub (by omega) (by omega) (by omega)) ?_ -- pc_ 58
        refine sm_T_br (a := 3) (z := 14) rfl (fun cx58_ => ?_) (fun cx58_ => ?_)
        · have cx58_ : (S0_.1 8 0 1) - 1 ≤ (a1_ % (S0_.1 8 0 1)) := of_decide_eq_true cx58_
          refine sm_T_go 4 (c1 := (79, [some (.inr (.inr (some (8, 0)))), some (.inl a1_), some (.inl a2_), some (.inl a3_), some (.inl (S0_.2.2.1 86 0 a1_.toNat)), some (.inl (a1_ % (S0_.1 8 0 1)))], [.inl (S0_.1 8 0 2), .inl a1_, .inr (.inr (some (8, 0)))], S0_)) rfl ?_
          refine sm_T_bin (w := a1_ + (S0_.1 8 0 2)) rfl (bi_add (by omega) (by omega) (by omega)) ?_ -- pc_ 79
          refine sm_T_go 3 (c1 := (84, [some (.inr (.inr (some (8, 0)))), some (.inl a1_), some (.inl a2_), some (.inl a3_), some (.inl (S0_.2.2.1 86 0 a1_.toNat)), some (.inl (a1_ % (S0_.1 8 0 1)))], [.inl a3_, .inl a2_, .inl (S0_.2.2.1 86 0 a1_.toNat), .inl (a1_ + (S0_.1 8 0 2)), .inr (.inr (some (8, 0)))], S0_)) rfl ?_
          refine sm_T_cal (d1 := 0) (Q1 := vq_163 (a1_ + (S0_.1 8 0 2)) (S0_.2.2.1 86 0 a1_.toNat) a2_ a3_ bb_ a1_ S0_) rfl rfl (by decide) (vc_163 (a1_ + (S0_.1 8 0 2)) (S0_.2.2.1 86 0 a1_.toNat) a2_ a3_ bb_ a1_ S0_ hI_ (by exact (hF_.2.1 8 0 0 rfl).trans hb_) (by exact rgw_fr hg_ hF_) (by first | exact x70_.1 | exact x48_.1 | exact hr_) (by omega) (by omega) (by omega) (by (first | rfl | omega)) (by omega) (by ((first | rw [l70_, m70_] | rw [l48_, m48_] | skip); exact ⟨4, by decide, by rw [nb_5 (by omega)]; omega⟩))) (fun u_ Sx59_ px62_ => ?_)
          obtain ⟨rfl, hIx60_, hFx61_, px62_⟩ := px62_
          have hFx63_ : ai_fr (sx_W vw_162) S0_ Sx59_ := ai_fr_tr hF_ (fr_le hFx61_ rfl)
          have ex64_ : Sx59_.1 8 0 2 = S0_.1 8 0 2 := hFx61_.1 8 0 2 rfl
          have ex65_ : Sx59_.1 8 0 1 = S0_.1 8 0 1 := hFx61_.1 8 0 1 rfl
          have x84_ := px62_
          have y84_ : rmo S0_ Sx59_ := by first | exact rmo_tr y70_ px62_.2 | exact rmo_tr y48_ px62_.2 | exact px62_.2
          have l84_ : Sx59_.1 8 0 1 = S0_.1 8 0 1 := hFx63_.1 8 0 1 rfl
          have m84_ : Sx59_.1 8 0 2 = S0_.1 8 0 2 := hFx63_.1 8 0 2 rfl
          have z84_ : Sx59_.2.2.1 86 0 a1_.toNat = S0_.2.2.1 86 0 a1_.toNat := y84_.1 a1_.toNat (by omega)
          refine sm_T_go 1 (c1 := (159, [some (.inr (.inr (some (8, 0)))), some (.inl a1_), some (.inl a2_), some (.inl a3_), some (.inl (S0_.2.2.1 86 0 a1_.toNat)), some (.inl (a1_ % (S0_.1 8 0 1)))], [], Sx59_)) rfl ?_
          refine sm_T_rv rfl ⟨_, _, rfl, rfl, hIx60_, hFx63_, ?_⟩
          first | exact ⟨x84_.1, y84_⟩ | exact ⟨x156_.1, y156_⟩
        · have cx58_ : ¬ ((S0_.1 8 0 1) - 1 ≤ (a1_ % (S0_.1 8 0 1))) := of_decide_eq_false cx58_
          have u9_ := (nb_b1 (p := a1_) (L := S0_.1 8 0 2) (w := S0_.1 8 0 1) (by omega) (by omega) hkk_ (by omega)).1
          refine sm_T_go 3 (c1 := (65, [some (.inr (.inr (some (8, 0)))), some (.inl a1_), some (.inl a2_), some (.inl a3_), some (.inl (S0_.2.2.1 86 0 a1_.toNat)), some (.inl (a1_ % (S0_.1 8 0 1)))], [.inl 1, .inl a1_, .inr (.inr (some (8, 0)))], S0_)) rfl ?_
          refine sm_T_bin (w := a1_ + 1) rfl (bi_add (by omega) (by omega) (by omega)) ?_ -- pc_ 65
          refine sm_T_go 3 (c1 := (70, [some (.inr (.inr (some (8, 0)))), some (.inl a1_), some (.inl a2_), some (.inl a3_), some (.inl (S0_.2.2.1 86 0 a1_.toNat)), some (.inl (a1_ % (S0_.1 8 0 1)))], [.inl a3_, .inl a2_, .inl (S0_.2.2.1 86 0 a1_.toNat), .inl (a1_ + 1), .inr (.inr (some (8, 0)))], S0_)) rfl ?_
          refine sm_T_cal (d1 := 0) (Q1 := vq_163 (a1_ + 1) (S0_.2.2.1 86 0 a1_.toNat) a2_ a3_ bb_ a1_ S0_) rfl rfl (by decide) (vc_163 (a1_ + 1) (S0_.2.2.1 86 0 a1_.toNat) a2_ a3_ bb_ a1_ S0_ hI_ (by exact (hF_.2.1 8 0 0 rfl).trans hb_) (by exact rgw_fr hg_ hF_) (by first | exact x48_.1 | exact hr_) (by omega) (by omega) (by omega) (by (first | rfl | omega)) (by omega) (by ((first | rw [l48_, m48_] | skip); exact ⟨0, by decide, (nb_b1 (by omega) (by omega) hkk_ (by omega)).2⟩))) (fun u_ Sx66_ px69_ => ?_)
          obtain ⟨rfl, hIx67_, hFx68_, px69_⟩ := px69_
          have hFx70_ : ai_fr (sx_W vw_162) S0_ Sx66_ := ai_fr_tr hF_ (fr_le hFx68_ rfl)
          have ex71_ : Sx66_.1 8 0 2 = S0_.1 8 0 2 := hFx68_.1 8 0 2 rfl
          have ex72_ : Sx66_.1 8 0 1 = S0_.1 8 0 1 := hFx68_.1 8 0 1 rfl
          have x70_ := px69_
          have y70_ : rmo S0_ Sx66_ := by first | exact rmo_tr y48_ px69_.2 | exact px69_.2
          have l70_ : Sx66_.1 8 0 1 = S0_.1 8 0 1 := hFx70_.1 8 0 1 rfl
          have m70_ : Sx66_.1 8 0 2 = S0_.1 8 0 2 := hFx70_.1 8 0 2 rfl
          have z70_ : Sx66_.2.2.1 86 0 a1_.toNat = S0_.2.2.1 86 0 a1_.toNat := y70_.1 a1_.toNat (by omega)
          have bx73_ : 0 ≤ Sx66_.1 8 0 2 ∧ Sx66_.1 8 0 2 ≤ 2356 := hIx67_.1 8 0 2 rfl
          refine sm_T_go 4 (c1 := (79, [some (.inr (.inr (some (8, 0)))), some (.inl a1_), some (.inl a2_), some (.inl a3_), some (.inl (S0_.2.2.1 86 0 a1_.toNat)), some (.inl (a1_ % (S0_.1 8 0 1)))], [.inl (Sx66_.1 8 0 2), .inl a1_, .inr (.inr (some (8, 0)))], Sx66_)) rfl ?_
          refine sm_T_bin (w := a1_ + (Sx66_.1 8 0 2)) rfl (bi_add (by omega) (by omega) (by omega)) ?_ -- pc_ 79
          refine sm_T_go 3 (c1 := (84, [some (.inr (.inr (some (8, 0)))), some (.inl a1_), some (.inl a2_), some (.inl a3_), some (.inl (S0_.2.2.1 86 0 a1_.toNat)), some (.inl (a1_ % (S0_.1 8 0 1)))], [.inl a3_, .inl a2_, .inl (S0_.2.2.1 86 0 a1_.toNat), .inl (a1_ + (Sx66_.1 8 0 2)), .inr (.inr (some (8, 0)))], Sx66_)) rfl ?_
          refine sm_T_cal (d1 := 0) (Q1 := vq_163 (a1_ + (Sx66_.1 8 0 2)) (S0_.2.2.1 86 0 a1_.toNat) a2_ a3_ bb_ a1_ Sx66_) rfl rfl (by decide) (vc_163 (a1_ + (Sx66_.1 8 0 2)) (S0_.2.2.1 86 0 a1_.toNat) a2_ a3_ bb_ a1_ Sx66_ hIx67_ (by exact (hFx70_.2.1 8 0 0 rfl).trans hb_) (by exact rgw_fr hg_ hFx70_) (by first | exact x70_.1 | exact x48_.1 | exact hr_) (by omega) (by omega) (by omega) (by (first | rfl | omega)) (by omega) (by ((first | rw [l70_, m70_] | rw [l48_, m48_] | skip); exact ⟨4, by decide, by rw [nb_5 (by omega)]; omega⟩))) (fun u_ Sx74_ px77_ => ?_)
          obtain ⟨rfl, hIx75_, hFx76_, px77_⟩ := px77_
          have hFx78_ : ai_fr (sx_W vw_162) S0_ Sx74_ := ai_fr_tr hFx70_ (fr_le hFx76_ rfl)
          have ex79_ : Sx74_.1 8 0 2 = Sx66_.1 8 0 2 := hFx76_.1 8 0 2 rfl
          have x84_ := px77_
          have y84_ : rmo S0_ Sx74_ := by first | exact rmo_tr y70_ px77_.2 | exact rmo_tr y48_ px77_.2 | exact px77_.2
          have l84_ : Sx74_.1 8 0 1 = S0_.1 8 0 1 := hFx78_.1 8 0 1 rfl
          have m84_ : Sx74_.1 8 0 2 = S0_.1 8 0 2 := hFx78_.1 8 0 2 rfl
          have z84_ : Sx74_.2.2.1 86 0 a1_.toNat = S0_.2.2.1 86 0 a1_.toNat := y84_.1 a1_.toNat (by omega)
          refine sm_T_go 1 (c1 := (159, [some (.inr (.inr (some (8, 0)))), some (.inl a1_), some (.inl a2_), some (.inl a3_), some (.inl (S0_.2.2.1 86 0 a1_.toNat)), some (.inl (a1_ % (S0_.1 8 0 1)))], [], Sx74_)) rfl ?_
          refine sm_T_rv rfl ⟨_, _, rfl, rfl, hIx75_, hFx78_, ?_⟩
          first | exact ⟨x84_.1, y84_⟩ | exact ⟨x156_.1, y156_⟩
      · have cx57_ : ¬ ((a1_ % (S0_.1 8 0 1)) ≤ 0) := of_decide_eq_false cx57_
        have u8_ := em_p (p := a1_) (w := S0_.1 8 0 1) h1_.1 (by omega)
        refine sm_T_go 3 (c1 := (43, [some (.inr (.inr (some (8, 0)))), some (.inl a1_), some (.inl a2_), some (.inl a3_), some (.inl (S0_.2.2.1 86 0 a1_.toNat)), some (.inl (a1_ % (S0_.1 8 0 1)))], [.inl 1, .inl a1_, .inr (.inr (some (8, 0)))], S0_)) rfl ?_
        refine sm_T_bin (w := a1_ - 1) rfl (bi_sub (by omega) (by omega) (by omega)) ?_ -- pc_ 43
        refine sm_T_go 3 (c1 := (48, [some (.inr (.inr (some (8, 0)))), some (.inl a1_), some (.inl a2_), some (.inl a3_), some (.inl (S0_.2.2.1 86 0 a1_.toNat)), some (.inl (a1_ % (S0_.1 8 0 1)))], [.inl a3_, .inl a2_, .inl (S0_.2.2.1 86 0 a1_.toNat), .inl (a1_ - 1), .inr (.inr (some (8, 0)))], S0_)) rfl ?_
        refine sm_T_cal (d1 := 0) (Q1 := vq_163 (a1_ - 1) (S0_.2.2.1 86 0 a1_.toNat) a2_ a3_ bb_ a1_ S0_) rfl rfl (by decide) (vc_163 (a1_ - 1) (S0_.2.2.1 86 0 a1_.toNat) a2_ a3_ bb_ a1_ S0_ hI_ (by exact (hF_.2.1 8 0 0 rfl).trans hb_) (by exact rgw_fr hg_ hF_) (by exact hr_) (by omega) (by omega) (by omega) (by (first | rfl | omega)) (by omega) (by (skip; exact ⟨1, by decide, nb_b0 (by omega) (by omega) (by omega)⟩))) (fun u_ Sx80_ px83_ => ?_)
        obtain ⟨rfl, hIx81_, hFx82_, px83_⟩ := px83_
        have hFx84_ : ai_fr (sx_W vw_162) S0_ Sx80_ := ai_fr_tr hF_ (fr_le hFx82_ rfl)
        have ex85_ : Sx80_.1 8 0 2 = S0_.1 8 0 2 := hFx82_.1 8 0 2 rfl
        have ex86_ : Sx80_.1 8 0 1 = S0_.1 8 0 1 := hFx82_.1 8 0 1 rfl
        have x48_ := px83_
        have y48_ : rmo S0_ Sx80_ := by first | exact px83_.2
        have l48_ : Sx80_.1 8 0 1 = S0_.1 8 0 1 := hFx84_.1 8 0 1 rfl
        have m48_ : Sx80_.1 8 0 2 = S0_.1 8 0 2 := hFx84_.1 8 0 2 rfl
        have z48_ : Sx80_.2.2.1 86 0 a1_.toNat = S0_.2.2.1 86 0 a1_.toNat := y48_.1 a1_.toNat (by omega)
        have bx87_ : 0 ≤ Sx80_.1 8 0 1 ∧ Sx80_.1 8 0 1 ≤ 62 := hIx81_.1 8 0 1 rfl
        refine sm_T_go 4 (c1 := (58, [some (.inr (.inr (some (8, 0)))), some (.inl a1_), some (.inl a2_), some (.inl a3_), some (.inl (S0_.2.2.1 86 0 a1_.toNat)), some (.inl (a1_ % (S0_.1 8 0 1)))], [.inl 1, .inl (Sx80_.1 8 0 1), .inl (a1_ % (S0_.1 8 0 1))], Sx80_)) rfl ?_
        refine sm_T_bin (w := (Sx80_.1 8 0 1) - 1) rfl (bi_sub (by omega) (by omega) (by omega)) ?_ -- pc_ 58
        refine sm_T_br (a := 3) (z := 14) rfl (fun cx88_ => ?_) (fun cx88_ => ?_)
        · have cx88_ : (Sx80_.1 8 0 1) - 1 ≤ (a1_ % (S0_.1 8 0 1)) := of_decide_eq_true cx88_
          have bx89_ : 0 ≤ Sx80_.1 8 0 2 ∧ Sx80_.1 8 0 2 ≤ 2356 := hIx81_.1 8 0 2 rfl
          refine sm_T_go 4 (c1 := (79, [some (.inr (.inr (some (8, 0)))), some (.inl a1_), some (.inl a2_), some (.inl a3_), some (.inl (S0_.2.2.1 86 0 a1_.toNat)), some (.inl (a1_ % (S0_.1 8 0 1)))], [.inl (Sx80_.1 8 0 2), .inl a1_, .inr (.inr (some (8, 0)))], Sx80_)) rfl ?_
          refine sm_T_bin (w := a1_ + (Sx80_.1 8 0 2)) rfl (bi_add (by omega) (by omega) (by omega)) ?_ -- pc_ 79
          refine sm_T_go 3 (c1 := (84, [some (.inr (.inr (some (8, 0)))), some (.inl a1_), some (.inl a2_), some (.inl a3_), some (.inl (S0_.2.2.1 86 0 a1_.toNat)), some (.inl (a1_ % (S0_.1 8 0 1)))], [.inl a3_, .inl a2_, .inl (S0_.2.2.1 86 0 a1_.toNat), .inl (a1_ + (Sx80_.1 8 0 2)), .inr (.inr (some (8, 0)))], Sx80_)) rfl ?_
          refine sm_T_cal (d1 := 0) (Q1 := vq_163 (a1_ + (Sx80_.1 8 0 2)) (S0_.2.2.1 86 0 a1_.toNat) a2_ a3_ bb_ a1_ Sx80_) rfl rfl (by decide) (vc_163 (a1_ + (Sx80_.1 8 0 2)) (S0_.2.2.1 86 0 a1_.toNat) a2_ a3_ bb_ a1_ Sx80_ hIx81_ (by exact (hFx84_.2.1 8 0 0 rfl).trans hb_) (by exact rgw_fr hg_ hFx84_) (by first | exact x70_.1 | exact x48_.1 | exact hr_) (by omega) (by omega) (by omega) (by (first | rfl | omega)) (by omega) (by ((first | rw [l70_, m70_] | rw [l48_, m48_] | skip); exact ⟨4, by decide, by rw [nb_5 (by omega)]; omega⟩))) (fun u_ Sx90_ px93_ => ?_)
          obtain ⟨rfl, hIx91_, hFx92_, px93_⟩ := px93_
          have hFx94_ : ai_fr (sx_W vw_162) S0_ Sx90_ := ai_fr_tr hFx84_ (fr_le hFx92_ rfl)
          have ex95_ : Sx90_.1 8 0 1 = Sx80_.1 8 0 1 := hFx92_.1 8 0 1 rfl
          have ex96_ : Sx90_.1 8 0 2 = Sx80_.1 8 0 2 := hFx92_.1 8 0 2 rfl
          have x84_ := px93_
          have y84_ : rmo S0_ Sx90_ := by first | exact rmo_tr y70_ px93_.2 | exact rmo_tr y48_ px93_.2 | exact px93_.2
          have l84_ : Sx90_.1 8 0 1 = S0_.1 8 0 1 := hFx94_.1 8 0 1 rfl
          have m84_ : Sx90_.1 8 0 2 = S0_.1 8 0 2 := hFx94_.1 8 0 2 rfl
          have z84_ : Sx90_.2.2.1 86 0 a1_.toNat = S0_.2.2.1 86 0 a1_.toNat := y84_.1 a1_.toNat (by omega)
          refine sm_T_go 1 (c1 := (159, [some (.inr (.inr (some (8, 0)))), some (.inl a1_), some (.inl a2_), some (.inl a3_), some (.inl (S0_.2.2.1 86 0 a1_.toNat)), some (.inl (a1_ % (S0_.1 8 0 1)))], [], Sx90_)) rfl ?_
          refine sm_T_rv rfl ⟨_, _, rfl, rfl, hIx91_, hFx94_, ?_⟩
          first | exact ⟨x84_.1, y84_⟩ | exact ⟨x156_.1, y156_⟩
        · have cx88_ : ¬ ((Sx80_.1 8 0 1) - 1 ≤ (a1_ % (S0_.1 8 0 1))) := of_decide_eq_false cx88_
          have u9_ := (nb_b1 (p := a1_) (L := S0_.1 8 0 2) (w := S0_.1 8 0 1) (by omega) (by omega) hkk_ (by omega)).1
          refine sm_T_go 3 (c1 := (65, [some (.inr (.inr (some (8, 0)))), some (.inl a1_), some (.inl a2_), some (.inl a3_), some (.inl (S0_.2.2.1 86 0 a1_.toNat)), some (.inl (a1_ % (S0_.1 8 0 1)))], [.inl 1, .inl a1_, .inr (.inr (some (8, 0)))], Sx80_)) rfl ?_
          refine sm_T_bin (w := a1_ + 1) rfl (bi_add (by omega) (by omega) (by omega)) ?_ -- pc_ 65
          refine sm_T_go 3 (c1 := (70, [some (.inr (.inr (some (8, 0)))), some (.inl a1_), some (.inl a2_), some (.inl a3_), some (.inl (S0_.2.2.1 86 0 a1_.toNat)), some (.inl (a1_ % (S0_.1 8 0 1)))], [.inl a3_, .inl a2_, .inl (S0_.2.2.1 86 0 a1_.toNat), .inl (a1_ + 1), .inr (.inr (some (8, 0)))], Sx80_)) rfl ?_
          refine sm_T_cal (d1 := 0) (Q1 := vq_163 (a1_ + 1) (S0_.2.2.1 86 0 a1_.toNat) a2_ a3_ bb_ a1_ Sx80_) rfl rfl (by decide) (vc_163 (a1_ + 1) (S0_.2.2.1 86 0 a1_.toNat) a2_ a3_ bb_ a1_ Sx80_ hIx81_ (by exact (hFx84_.2.1 8 0 0 rfl).trans hb_) (by exact rgw_fr hg_ hFx84_) (by first | exact x48_.1 | exact hr_) (by omega) (by omega) (by omega) (by (first | rfl | omega)) (by omega) (by ((first | rw [l48_, m48_] | skip); exact ⟨0, by decide, (nb_b1 (by omega) (by omega) hkk_ (by omega)).2⟩))) (fun u_ Sx97_ px100_ => ?_)
          obtain ⟨rfl, hIx98_, hFx99_, px100_⟩ := px100_
          have hFx101_ : ai_fr (sx_W vw_162) S0_ Sx97_ := ai_fr_tr hFx84_ (fr_le hFx99_ rfl)
          have ex102_ : Sx97_.1 8 0 1 = Sx80_.1 8 0 1 := hFx99_.1 8 0 1 rfl
          have x70_ := px100_
          have y70_ : rmo S0_ Sx97_ := by first | exact rmo_tr y48_ px100_.2 | exact px100_.2
          have l70_ : Sx97_.1 8 0 1 = S0_.1 8 0 1 := hFx101_.1 8 0 1 rfl
          have m70_ : Sx97_.1 8 0 2 = S0_.1 8 0 2 := hFx101_.1 8 0 2 rfl
          have z70_ : Sx97_.2.2.1 86 0 a1_.toNat = S0_.2.2.1 86 0 a1_.toNat := y70_.1 a1_.toNat (by omega)
          have bx103_ : 0 ≤ Sx97_.1 8 0 2 ∧ Sx97_.1 8 0 2 ≤ 2356 := hIx98_.1 8 0 2 rfl
          refine sm_T_go 4 (c1 := (79, [some (.inr (.inr (some (8, 0)))), some (.inl a1_), some (.inl a2_), some (.inl a3_), some (.inl (S0_.2.2.1 86 0 a1_.toNat)), some (.inl (a1_ % (S0_.1 8 0 1)))], [.inl (Sx97_.1 8 0 2), .inl a1_, .inr (.inr (some (8, 0)))], Sx97_)) rfl ?_
          refine sm_T_bin (w := a1_ + (Sx97_.1 8 0 2)) rfl (bi_add (by omega) (by omega) (by omega)) ?_ -- pc_ 79
          refine sm_T_go 3 (c1 := (84, [some (.inr (.inr (some (8, 0)))), some (.inl a1_), some (.inl a2_), some (.inl a3_), some (.inl (S0_.2.2.1 86 0 a1_.toNat)), some (.inl (a1_ % (S0_.1 8 0 1)))], [.inl a3_, .inl a2_, .inl (S0_.2.2.1 86 0 a1_.toNat), .inl (a1_ + (Sx97_.1 8 0 2)), .inr (.inr (some (8, 0)))], Sx97_)) rfl ?_
          refine sm_T_cal (d1 := 0) (Q1 := vq_163 (a1_ + (Sx97_.1 8 0 2)) (S0_.2.2.1 86 0 a1_.toNat) a2_ a3_ bb_ a1_ Sx97_) rfl rfl (by decide) (vc_163 (a1_ + (Sx97_.1 8 0 2)) (S0_.2.2.1 86 0 a1_.toNat) a2_ a3_ bb_ a1_ Sx97_ hIx98_ (by exact (hFx101_.2.1 8 0 0 rfl).trans hb_) (by exact rgw_fr hg_ hFx101_) (by first | exact x70_.1 | exact x48_.1 | exact hr_) (by omega) (by omega) (by omega) (by (first | rfl | omega)) (by omega) (by ((first | rw [l70_, m70_] | rw [l48_, m48_] | skip); exact ⟨4, by decide, by rw [nb_5 (by omega)]; omega⟩))) (fun u_ Sx104_ px107_ => ?_)
          obtain ⟨rfl, hIx105_, hFx106_, px107_⟩ := px107_
          have hFx108_ : ai_fr (sx_W vw_162) S0_ Sx104_ := ai_fr_tr hFx101_ (fr_le hFx106_ rfl)
          have ex109_ : Sx104_.1 8 0 2 = Sx97_.1 8 0 2 := hFx106_.1 8 0 2 rfl
          have x84_ := px107_
          have y84_ : rmo S0_ Sx104_ := by first | exact rmo_tr y70_ px107_.2 | exact rmo_tr y48_ px107_.2 | exact px107_.2
          have l84_ : Sx104_.1 8 0 1 = S0_.1 8 0 1 := hFx108_.1 8 0 1 rfl
          have m84_ : Sx104_.1 8 0 2 = S0_.1 8 0 2 := hFx108_.1 8 0 2 rfl
          have z84_ : Sx104_.2.2.1 86 0 a1_.toNat = S0_.2.2.1 86 0 a1_.toNat := y84_.1 a1_.toNat (by omega)
          refine sm_T_go 1 (c1 := (159, [some (.inr (.inr (some (8, 0)))), some (.inl a1_), some (.inl a2_), some (.inl a3_), some (.inl (S0_.2.2.1 86 0 a1_.toNat)), some (.inl (a1_ % (S0_.1 8 0 1)))], [], Sx104_)) rfl ?_
          refine sm_T_rv rfl ⟨_, _, rfl, rfl, hIx105_, hFx108_, ?_⟩
          first | exact ⟨x84_.1, y84_⟩ | exact ⟨x156_.1, y156_⟩
end
/-! 99.zkdb -/
section
/-! Router.neighbour -/
def vw_164 : sx_Wl := ([], [], [])
def vq_164 (a1_ : Int) (a2_ : Int) (S0_ : sm_S) (u_ : Option sm_V) (S1_ : sm_S) : Prop := S0_ = S1_ ∧ ∃ v_ : Int, u_ = some (.inl v_) ∧ (v_ = nb (S0_.1 8 0 1) (S0_.1 8 0 2) a1_ a2_)
set_option maxHeartbeats 2000000 in
theorem vc_164 {sc_ : Nat × (Nat → Int)} (a1_ : Int) (a2_ : Int) (S0_ : sm_S) (hI_ : gi S0_) (hg_ : rgw S0_) (h1_ : 0 ≤ a1_ ∧ a1_ < 2 * S0_.1 8 0 2) (h2_ : 0 ≤ a2_ ∧ a2_ ≤ 4) : sm_T (mt_P sc_) 0 164 (0, [some (.inr (.inr (some (8, 0)))), some (.inl a1_), some (.inl a2_), none, none, none], [], S0_) (fun ro9_ => ∃ u_ S1_, ro9_ = (.inl u_, S1_, 0) ∧ vq_164 a1_ a2_ S0_ u_ S1_) := by
  have hF_ : ai_fr (sx_W vw_164) S0_ S0_ := ai_fr_rf
  have cL_ : 0 ≤ S0_.1 8 0 2 ∧ S0_.1 8 0 2 ≤ 2356 := hI_.1 8 0 2 rfl
  have cw : 0 ≤ S0_.1 8 0 1 ∧ S0_.1 8 0 1 ≤ 62 := hI_.1 8 0 1 rfl
  have w9_ := hg_.1
  have bx1_ : 0 ≤ S0_.1 8 0 2 ∧ S0_.1 8 0 2 ≤ 2356 := hI_.1 8 0 2 rfl
  refine sm_T_go 3 (c1 := (5, [some (.inr (.inr (some (8, 0)))), some (.inl a1_), some (.inl a2_), none, none, none], [.inl (S0_.1 8 0 2), .inl a1_], S0_)) rfl ?_
  refine sm_T_br (a := 2) (z := 7) rfl (fun cx2_ => ?_) (fun cx2_ => ?_)
  · have cx2_ : a1_ < (S0_.1 8 0 2) := of_decide_eq_true cx2_
    have bx3_ : 0 ≤ S0_.1 8 0 1 ∧ S0_.1 8 0 1 ≤ 62 := hI_.1 8 0 1 rfl
    refine sm_T_go 8 (c1 := (34, [some (.inr (.inr (some (8, 0)))), some (.inl a1_), some (.inl a2_), some (.inl 0), some (.inl a1_), none], [.inl (S0_.1 8 0 1)], S0_)) rfl ?_
    refine sm_T_b0 (a := 5) (z := 13) rfl (fun cx4_ => ?_) (fun cx4_ => ?_)
    · have cx4_ : (S0_.1 8 0 1) ≤ 0 := of_decide_eq_true cx4_
      exfalso; omega
    · have cx4_ : ¬ ((S0_.1 8 0 1) ≤ 0) := of_decide_eq_false cx4_
      refine sm_T_go 3 (c1 := (43, [some (.inr (.inr (some (8, 0)))), some (.inl a1_), some (.inl a2_), some (.inl 0), some (.inl a1_), none], [.inl (S0_.1 8 0 1), .inl a1_], S0_)) rfl ?_
      refine sm_T_bin (w := (a1_ % (S0_.1 8 0 1))) rfl (bi_rem (by omega) (by omega) (by omega) (by omega)) ?_ -- pc_ 43
      refine sm_T_go 3 (c1 := (51, [some (.inr (.inr (some (8, 0)))), some (.inl a1_), some (.inl a2_), some (.inl 0), some (.inl a1_), some (.inl (a1_ % (S0_.1 8 0 1)))], [.inl a2_], S0_)) rfl ?_
      by_cases cx5_ : a2_ = 0
      · refine sm_T_sw (t := 80) rfl rfl (by rw [cx5_]; rfl) ?_
        refine sm_T_go 3 (c1 := (86, [some (.inr (.inr (some (8, 0)))), some (.inl a1_), some (.inl a2_), some (.inl 0), some (.inl a1_), some (.inl (a1_ % (S0_.1 8 0 1)))], [.inl (a1_ % (S0_.1 8 0 1))], S0_)) rfl ?_
        refine sm_T_b0 (a := 5) (z := 9) rfl (fun cx6_ => ?_) (fun cx6_ => ?_)
        · have cx6_ : (a1_ % (S0_.1 8 0 1)) ≤ 0 := of_decide_eq_true cx6_
          refine sm_T_go 1 (c1 := (96, [some (.inr (.inr (some (8, 0)))), some (.inl a1_), some (.inl a2_), some (.inl 0), some (.inl a1_), some (.inl (a1_ % (S0_.1 8 0 1)))], [.inl (-1)], S0_)) rfl ?_
          refine sm_T_ri rfl ⟨_, _, rfl, rfl, _, rfl, ?_⟩
          unfold nb
          by_cases u9_ : a1_ < S0_.1 8 0 2
          · first | (exfalso; omega) | (rw [if_pos u9_]; first | rw [if_pos (by omega), if_pos (by omega)] | rw [if_pos (by omega), if_neg (by omega)] | rw [if_neg (by omega), if_pos (by omega), if_pos (by omega)] | rw [if_neg (by omega), if_pos (by omega), if_neg (by omega)] | rw [if_neg (by omega), if_neg (by omega), if_pos (by omega)] | rw [if_neg (by omega), if_neg (by omega), if_neg (by omega)])
          · first | (exfalso; omega) | (rw [if_neg u9_]; first | rw [if_pos (by omega)] | rw [if_neg (by omega), if_pos (by omega), if_pos (by omega)] | rw [if_neg (by omega), if_pos (by omega), if_neg (by omega)] | rw [if_neg (by omega), if_neg (by omega), if_pos (by omega), if_pos (by omega)] | rw [if_neg (by omega), if_neg (by omega), if_pos (by omega), if_neg (by omega)] | rw [if_neg (by omega), if_neg (by omega), if_neg (by omega)])
        · have cx6_ : ¬ ((a1_ % (S0_.1 8 0 1)) ≤ 0) := of_decide_eq_false cx6_
          refine sm_T_go 2 (c1 := (91, [some (.inr (.inr (some (8, 0)))), some (.inl a1_), some (.inl a2_), some (.inl 0), some (.inl a1_), some (.inl (a1_ % (S0_.1 8 0 1)))], [.inl 1, .inl a1_], S0_)) rfl ?_
          refine sm_T_bin (w := a1_ - 1) rfl (bi_sub (by omega) (by omega) (by omega)) ?_ -- pc_ 91
          refine sm_T_go 1 (c1 := (96, [some (.inr (.inr (some (8, 0)))), some (.inl a1_), some (.inl a2_), some (.inl 0), some (.inl a1_), some (.inl (a1_ % (S0_.1 8 0 1)))], [.inl (a1_ - 1)], S0_)) rfl ?_
          refine sm_T_ri rfl ⟨_, _, rfl, rfl, _, rfl, ?_⟩
          unfold nb
          by_cases u9_ : a1_ < S0_.1 8 0 2
          · first | (exfalso; omega) | (rw [if_pos u9_]; first | rw [if_pos (by omega), if_pos (by omega)] | rw [if_pos (by omega), if_neg (by omega)] | rw [if_neg (by omega), if_pos (by omega), if_pos (by omega)] | rw [if_neg (by omega), if_pos (by omega), if_neg (by omega)] | rw [if_neg (by omega), if_neg (by omega), if_pos (by omega)] | rw [if_neg (by omega), if_neg (by omega), if_neg (by omega)])
          · first | (exfalso; omega) | (rw [if_neg u9_]; first | rw [if_pos (by omega)] | rw [if_neg (by omega), if_pos (by omega), if_pos (by omega)] | rw [if_neg (by omega), if_pos (by omega), if_neg (by omega)] | rw [if_neg (by omega), if_neg (by omega), if_pos (by omega), if_pos (by omega)] | rw [if_neg (by omega), if_neg (by omega), if_pos (by omega), if_neg (by omega)] | rw [if_neg (by omega), if_neg (by omega), if_neg (by omega)])
      by_cases cx7_ : a2_ = 1
      · refine sm_T_sw (t := 97) rfl rfl (by rw [cx7_]; rfl) ?_
        refine sm_T_go 6 (c1 := (108, [some (.inr (.inr (some (8, 0)))), some (.inl a1_), some (.inl a2_), some (.inl 0), some (.inl a1_), some (.inl (a1_ % (S0_.1 8 0 1)))], [.inl 1, .inl (S0_.1 8 0 1), .inl (a1_ % (S0_.1 8 0 1))], S0_)) rfl ?_
        refine sm_T_bin (w := (S0_.1 8 0 1) - 1) rfl (bi_sub (by omega) (by omega) (by omega)) ?_ -- pc_ 108
        refine sm_T_br (a := 3) (z := 9) rfl (fun cx8_ => ?_) (fun cx8_ => ?_)
        · have cx8_ : (S0_.1 8 0 1) - 1 ≤ (a1_ % (S0_.1 8 0 1)) := of_decide_eq_true cx8_
          refine sm_T_go 1 (c1 := (119, [some (.inr (.inr (some (8, 0)))), some (.inl a1_), some (.inl a2_), some (.inl 0), some (.inl a1_), some (.inl (a1_ % (S0_.1 8 0 1)))], [.inl (-1)], S0_)) rfl ?_
          refine sm_T_ri rfl ⟨_, _, rfl, rfl, _, rfl, ?_⟩
          unfold nb
          by_cases u9_ : a1_ < S0_.1 8 0 2
          · first | (exfalso; omega) | (rw [if_pos u9_]; first | rw [if_pos (by omega), if_pos (by omega)] | rw [if_pos (by omega), if_neg (by omega)] | rw [if_neg (by omega), if_pos (by omega), if_pos (by omega)] | rw [if_neg (by omega), if_pos (by omega), if_neg (by omega)] | rw [if_neg (by omega), if_neg (by omega), if_pos (by omega)] | rw [if_neg (by omega), if_neg (by omega), if_neg (by omega)])
          · first | (exfalso; omega) | (rw [if_neg u9_]; first | rw [if_pos (by omega)] | rw [if_neg (by omega), if_pos (by omega), if_pos (by omega)] | rw [if_neg (by omega), if_pos (by omega), if_neg (by omega)] | rw [if_neg (by omega), if_neg (by omega), if_pos (by omega), if_pos (by omega)] | rw [if_neg (by omega), if_neg (by omega), if_pos (by omega), if_neg (by omega)] | rw [if_neg (by omega), if_neg (by omega), if_neg (by omega)])
        · have cx8_ : ¬ ((S0_.1 8 0 1) - 1 ≤ (a1_ % (S0_.1 8 0 1))) := of_decide_eq_false cx8_
          refine sm_T_go 2 (c1 := (114, [some (.inr (.inr (some (8, 0)))), some (.inl a1_), some (.inl a2_), some (.inl 0), some (.inl a1_), some (.inl (a1_ % (S0_.1 8 0 1)))], [.inl 1, .inl a1_], S0_)) rfl ?_
          refine sm_T_bin (w := a1_ + 1) rfl (bi_add (by omega) (by omega) (by omega)) ?_ -- pc_ 114
          refine sm_T_go 1 (c1 := (119, [some (.inr (.inr (some (8, 0)))), some (.inl a1_), some (.inl a2_), some (.inl 0), some (.inl a1_), some (.inl (a1_ % (S0_.1 8 0 1)))], [.inl (a1_ + 1)], S0_)) rfl ?_
          refine sm_T_ri rfl ⟨_, _, rfl, rfl, _, rfl, ?_⟩
          unfold nb
          by_cases u9_ : a1_ < S0_.1 8 0 2
          · first | (exfalso; omega) | (rw [if_pos u9_]; first | rw [if_pos (by omega), if_pos (by omega)] | rw [if_pos (by omega), if_neg (by omega)] | rw [if_neg (by omega), if_pos (by omega), if_pos (by omega)] | rw [if_neg (by omega), if_pos (by omega), if_neg (by omega)] | rw [if_neg (by omega), if_neg (by omega), if_pos (by omega)] | rw [if_neg (by omega), if_neg (by omega), if_neg (by omega)])
          · first | (exfalso; omega) | (rw [if_neg u9_]; first | rw [if_pos (by omega)] | rw [if_neg (by omega), if_pos (by omega), if_pos (by omega)] | rw [if_neg (by omega), if_pos (by omega), if_neg (by omega)] | rw [if_neg (by omega), if_neg (by omega), if_pos (by omega), if_pos (by omega)] | rw [if_neg (by omega), if_neg (by omega), if_pos (by omega), if_neg (by omega)] | rw [if_neg (by omega), if_neg (by omega), if_neg (by omega)])
      by_cases cx9_ : a2_ = 2
      · refine sm_T_sw (t := 120) rfl rfl (by rw [cx9_]; rfl) ?_
        refine sm_T_go 3 (c1 := (143, [some (.inr (.inr (some (8, 0)))), some (.inl a1_), some (.inl a2_), some (.inl 0), some (.inl a1_), some (.inl (a1_ % (S0_.1 8 0 1)))], [.inl (-1)], S0_)) rfl ?_
        refine sm_T_ri rfl ⟨_, _, rfl, rfl, _, rfl, ?_⟩
        unfold nb
        by_cases u9_ : a1_ < S0_.1 8 0 2
        · first | (exfalso; omega) | (rw [if_pos u9_]; first | rw [if_pos (by omega), if_pos (by omega)] | rw [if_pos (by omega), if_neg (by omega)] | rw [if_neg (by omega), if_pos (by omega), if_pos (by omega)] | rw [if_neg (by omega), if_pos (by omega), if_neg (by omega)] | rw [if_neg (by omega), if_neg (by omega), if_pos (by omega)] | rw [if_neg (by omega), if_neg (by omega), if_neg (by omega)])
        · first | (exfalso; omega) | (rw [if_neg u9_]; first | rw [if_pos (by omega)] | rw [if_neg (by omega), if_pos (by omega), if_pos (by omega)] | rw [if_neg (by omega), if_pos (by omega), if_neg (by omega)] | rw [if_neg (by omega), if_neg (by omega), if_pos (by omega), if_pos (by omega)] | rw [if_neg (by omega), if_neg (by omega), if_pos (by omega), if_neg (by omega)] | rw [if_neg (by omega), if_neg (by omega), if_neg (by omega)])
      by_cases cx10_ : a2_ = 3
      · refine sm_T_sw (t := 144) rfl rfl (by rw [cx10_]; rfl) ?_
        refine sm_T_go 3 (c1 := (172, [some (.inr (.inr (some (8, 0)))), some (.inl a1_), some (.inl a2_), some (.inl 0), some (.inl a1_), some (.inl (a1_ % (S0_.1 8 0 1)))], [.inl (-1)], S0_)) rfl ?_
        refine sm_T_ri rfl ⟨_, _, rfl, rfl, _, rfl, ?_⟩
        unfold nb
        by_cases u9_ : a1_ < S0_.1 8 0 2
        · first | (exfalso; omega) | (rw [if_pos u9_]; first | rw [if_pos (by omega), if_pos (by omega)] | rw [if_pos (by omega), if_neg (by omega)] | rw [if_neg (by omega), if_pos (by omega), if_pos (by omega)] | rw [if_neg (by omega), if_pos (by omega), if_neg (by omega)] | rw [if_neg (by omega), if_neg (by omega), if_pos (by omega)] | rw [if_neg (by omega), if_neg (by omega), if_neg (by omega)])
        · first | (exfalso; omega) | (rw [if_neg u9_]; first | rw [if_pos (by omega)] | rw [if_neg (by omega), if_pos (by omega), if_pos (by omega)] | rw [if_neg (by omega), if_pos (by omega), if_neg (by omega)] | rw [if_neg (by omega), if_neg (by omega), if_pos (by omega), if_pos (by omega)] | rw [if_neg (by omega), if_neg (by omega), if_pos (by omega), if_neg (by omega)] | rw [if_neg (by omega), if_neg (by omega), if_neg (by omega)])
      refine sm_T_sw (t := 173) rfl rfl (by (have hh_ : a2_ < 0 ∨ 4 ≤ a2_ := by omega); rcases hh_ with hh_ | hh_; (exact sm_swd (Or.inl hh_)); (exact sm_swd (Or.inr (by simp only [List.length_cons, List.length_nil]; omega)))) ?_
      refine sm_T_go 5 (c1 := (187, [some (.inr (.inr (some (8, 0)))), some (.inl a1_), some (.inl a2_), some (.inl 0), some (.inl a1_), some (.inl (a1_ % (S0_.1 8 0 1)))], [.inl (S0_.1 8 0 2), .inl a1_], S0_)) rfl ?_
      refine sm_T_bin (w := a1_ + (S0_.1 8 0 2)) rfl (bi_add (by omega) (by omega) (by omega)) ?_ -- pc_ 187
      refine sm_T_ri rfl ⟨_, _, rfl, rfl, _, rfl, ?_⟩
      unfold nb
      by_cases u9_ : a1_ < S0_.1 8 0 2
      · first | (exfalso; omega) | (rw [if_pos u9_]; first | rw [if_pos (by omega), if_pos (by omega)] | rw [if_pos (by omega), if_neg (by omega)] | rw [if_neg (by omega), if_pos (by omega), if_pos (by omega)] | rw [if_neg (by omega), if_pos (by omega), if_neg (by omega)] | rw [if_neg (by omega), if_neg (by omega), if_pos (by omega)] | rw [if_neg (by omega), if_neg (by omega), if_neg (by omega)])
      · first | (exfalso; omega) | (rw [if_neg u9_]; first | rw [if_pos (by omega)] | rw [if_neg (by omega), if_pos (by omega), if_pos (by omega)] | rw [if_neg (by omega), if_pos (by omega), if_neg (by omega)] | rw [if_neg (by omega), if_neg (by omega), if_pos (by omega), if_pos (by omega)] | rw [if_neg (by omega), if_neg (by omega), if_pos (by omega), if_neg (by omega)] | rw [if_neg (by omega), if_neg (by omega), if_neg (by omega)])
  · have cx2_ : ¬ (a1_ < (S0_.1 8 0 2)) := of_decide_eq_false cx2_
    refine sm_T_go 8 (c1 := (23, [some (.inr (.inr (some (8, 0)))), some (.inl a1_), some (.inl a2_), some (.inl 1), none, none], [.inl (S0_.1 8 0 2), .inl a1_], S0_)) rfl ?_
    refine sm_T_bin (w := a1_ - (S0_.1 8 0 2)) rfl (bi_sub (by omega) (by omega) (by omega)) ?_ -- pc_ 23
    have bx11_ : 0 ≤ S0_.1 8 0 1 ∧ S0_.1 8 0 1 ≤ 62 := hI_.1 8 0 1 rfl
    refine sm_T_go 4 (c1 := (34, [some (.inr (.inr (some (8, 0)))), some (.inl a1_), some (.inl a2_), some (.inl 1), some (.inl (a1_ - (S0_.1 8 0 2))), none], [.inl (S0_.1 8 0 1)], S0_)) rfl ?_
    refine sm_T_b0 (a := 5) (z := 13) rfl (fun cx12_ => ?_) (fun cx12_ => ?_)
    · have cx12_ : (S0_.1 8 0 1) ≤ 0 := of_decide_eq_true cx12_
      exfalso; omega
    · have cx12_ : ¬ ((S0_.1 8 0 1) ≤ 0) := of_decide_eq_false cx12_
      refine sm_T_go 3 (c1 := (43, [some (.inr (.inr (some (8, 0)))), some (.inl a1_), some (.inl a2_), some (.inl 1), some (.inl (a1_ - (S0_.1 8 0 2))), none], [.inl (S0_.1 8 0 1), .inl (a1_ - (S0_.1 8 0 2))], S0_)) rfl ?_
      refine sm_T_bin (w := ((a1_ - (S0_.1 8 0 2)) % (S0_.1 8 0 1))) rfl (bi_rem (by omega) (by omega) (by omega) (by omega)) ?_ -- pc_ 43
      refine sm_T_go 3 (c1 := (51, [some (.inr (.inr (some (8, 0)))), some (.inl a1_), some (.inl a2_), some (.inl 1), some (.inl (a1_ - (S0_.1 8 0 2))), some (.inl ((a1_ - (S0_.1 8 0 2)) % (S0_.1 8 0 1)))], [.inl a2_], S0_)) rfl ?_
      by_cases cx13_ : a2_ = 0
      · refine sm_T_sw (t := 80) rfl rfl (by rw [cx13_]; rfl) ?_
        refine sm_T_go 3 (c1 := (96, [some (.inr (.inr (some (8, 0)))), some (.inl a1_), some (.inl a2_), some (.inl 1), some (.inl (a1_ - (S0_.1 8 0 2))), some (.inl ((a1_ - (S0_.1 8 0 2)) % (S0_.1 8 0 1)))], [.inl (-1)], S0_)) rfl ?_
        refine sm_T_ri rfl ⟨_, _, rfl, rfl, _, rfl, ?_⟩
        unfold nb
        by_cases u9_ : a1_ < S0_.1 8 0 2
        · first | (exfalso; omega) | (rw [if_pos u9_]; first | rw [if_pos (by omega), if_pos (by omega)] | rw [if_pos (by omega), if_neg (by omega)] | rw [if_neg (by omega), if_pos (by omega), if_pos (by omega)] | rw [if_neg (by omega), if_pos (by omega), if_neg (by omega)] | rw [if_neg (by omega), if_neg (by omega), if_pos (by omega)] | rw [if_neg (by omega), if_neg (by omega), if_neg (by omega)])
        · first | (exfalso; omega) | (rw [if_neg u9_]; first | rw [if_pos (by omega)] | rw [if_neg (by omega), if_pos (by omega), if_pos (by omega)] | rw [if_neg (by omega), if_pos (by omega), if_neg (by omega)] | rw [if_neg (by omega), if_neg (by omega), if_pos (by omega), if_pos (by omega)] | rw [if_neg (by omega), if_neg (by omega), if_pos (by omega), if_neg (by omega)] | rw [if_neg (by omega), if_neg (by omega), if_neg (by omega)])
      by_cases cx14_ : a2_ = 1
      · refine sm_T_sw (t := 97) rfl rfl (by rw [cx14_]; rfl) ?_
        refine sm_T_go 3 (c1 := (119, [some (.inr (.inr (some (8, 0)))), some (.inl a1_), some (.inl a2_), some (.inl 1), some (.inl (a1_ - (S0_.1 8 0 2))), some (.inl ((a1_ - (S0_.1 8 0 2)) % (S0_.1 8 0 1)))], [.inl (-1)], S0_)) rfl ?_
        refine sm_T_ri rfl ⟨_, _, rfl, rfl, _, rfl, ?_⟩
        unfold nb
        by_cases u9_ : a1_ < S0_.1 8 0 2
        · first | (exfalso; omega) | (rw [if_pos u9_]; first | rw [if_pos (by omega), if_pos (by omega)] | rw [if_pos (by omega), if_neg (by omega)] | rw [if_neg (by omega), if_pos (by omega), if_pos (by omega)] | rw [if_neg (by omega), if_pos (by omega), if_neg (by omega)] | rw [if_neg (by omega), if_neg (by omega), if_pos (by omega)] | rw [if_neg (by omega), if_neg (by omega), if_neg (by omega)])
        · first | (exfalso; omega) | (rw [if_neg u9_]; first | rw [if_pos (by omega)] | rw [if_neg (by omega), if_pos (by omega), if_pos (by omega)] | rw [if_neg (by omega), if_pos (by omega), if_neg (by omega)] | rw [if_neg (by omega), if_neg (by omega), if_pos (by omega), if_pos (by omega)] | rw [if_neg (by omega), if_neg (by omega), if_pos (by omega), if_neg (by omega)] | rw [if_neg (by omega), if_neg (by omega), if_neg (by omega)])
      by_cases cx15_ : a2_ = 2
      · refine sm_T_sw (t := 120) rfl rfl (by rw [cx15_]; rfl) ?_
        refine sm_T_go 5 (c1 := (130, [some (.inr (.inr (some (8, 0)))), some (.inl a1_), some (.inl a2_), some (.inl 1), some (.inl (a1_ - (S0_.1 8 0 2))), some (.inl ((a1_ - (S0_.1 8 0 2)) % (S0_.1 8 0 1)))], [.inl (S0_.1 8 0 1), .inl (a1_ - (S0_.1 8 0 2))], S0_)) rfl ?_
        refine sm_T_br (a := 2) (z := 12) rfl (fun cx16_ => ?_) (fun cx16_ => ?_)
        · have cx16_ : a1_ - (S0_.1 8 0 2) < (S0_.1 8 0 1) := of_decide_eq_true cx16_
          refine sm_T_go 1 (c1 := (143, [some (.inr (.inr (some (8, 0)))), some (.inl a1_), some (.inl a2_), some (.inl 1), some (.inl (a1_ - (S0_.1 8 0 2))), some (.inl ((a1_ - (S0_.1 8 0 2)) % (S0_.1 8 0 1)))], [.inl (-1)], S0_)) rfl ?_
          refine sm_T_ri rfl ⟨_, _, rfl, rfl, _, rfl, ?_⟩
          unfold nb
          by_cases u9_ : a1_ < S0_.1 8 0 2
          · first | (exfalso; omega) | (rw [if_pos u9_]; first | rw [if_pos (by omega), if_pos (by omega)] | rw [if_pos (by omega), if_neg (by omega)] | rw [if_neg (by omega), if_pos (by omega), if_pos (by omega)] | rw [if_neg (by omega), if_pos (by omega), if_neg (by omega)] | rw [if_neg (by omega), if_neg (by omega), if_pos (by omega)] | rw [if_neg (by omega), if_neg (by omega), if_neg (by omega)])
          · first | (exfalso; omega) | (rw [if_neg u9_]; first | rw [if_pos (by omega)] | rw [if_neg (by omega), if_pos (by omega), if_pos (by omega)] | rw [if_neg (by omega), if_pos (by omega), if_neg (by omega)] | rw [if_neg (by omega), if_neg (by omega), if_pos (by omega), if_pos (by omega)] | rw [if_neg (by omega), if_neg (by omega), if_pos (by omega), if_neg (by omega)] | rw [if_neg (by omega), if_neg (by omega), if_neg (by omega)])
        · have cx16_ : ¬ (a1_ - (S0_.1 8 0 2) < (S0_.1 8 0 1)) := of_decide_eq_false cx16_
          refine sm_T_go 3 (c1 := (138, [some (.inr (.inr (some (8, 0)))), some (.inl a1_), some (.inl a2_), some (.inl 1), some (.inl (a1_ - (S0_.1 8 0 2))), some (.inl ((a1_ - (S0_.1 8 0 2)) % (S0_.1 8 0 1)))], [.inl (S0_.1 8 0 1), .inl a1_], S0_)) rfl ?_
          refine sm_T_bin (w := a1_ - (S0_.1 8 0 1)) rfl (bi_sub (by omega) (by omega) (by omega)) ?_ -- pc_ 138
          refine sm_T_go 1 (c1 := (143, [some (.inr (.inr (some (8, 0)))), some (.inl a1_), some (.inl a2_), some (.inl 1), some (.inl (a1_ - (S0_.1 8 0 2))), some (.inl ((a1_ - (S0_.1 8 0 2)) % (S0_.1 8 0 1)))], [.inl (a1_ - (S0_.1 8 0 1))], S0_)) rfl ?_
          refine sm_T_ri rfl ⟨_, _, rfl, rfl, _, rfl, ?_⟩
          unfold nb
          by_cases u9_ : a1_ < S0_.1 8 0 2
          · first | (exfalso; omega) | (rw [if_pos u9_]; first | rw [if_pos (by omega), if_pos (by omega)] | rw [if_pos (by omega), if_neg (by omega)] | rw [if_neg (by omega), if_pos (by omega), if_pos (by omega)] | rw [if_neg (by omega), if_pos (by omega), if_neg (by omega)] | rw [if_neg (by omega), if_neg (by omega), if_pos (by omega)] | rw [if_neg (by omega), if_neg (by omega), if_neg (by omega)])
          · first | (exfalso; omega) | (rw [if_neg u9_]; first | rw [if_pos (by omega)] | rw [if_neg (by omega), if_pos (by omega), if_pos (by omega)] | rw [if_neg (by omega), if_pos (by omega), if_neg (by omega)] | rw [if_neg (by omega), if_neg (by omega), if_pos (by omega), if_pos (by omega)] | rw [if_neg (by omega), if_neg (by omega), if_pos (by omega), if_neg (by omega)] | rw [if_neg (by omega), if_neg (by omega), if_neg (by omega)])
      by_cases cx17_ : a2_ = 3
      · refine sm_T_sw (t := 144) rfl rfl (by rw [cx17_]; rfl) ?_
        refine sm_T_go 7 (c1 := (158, [some (.inr (.inr (some (8, 0)))), some (.inl a1_), some (.inl a2_), some (.inl 1), some (.inl (a1_ - (S0_.1 8 0 2))), some (.inl ((a1_ - (S0_.1 8 0 2)) % (S0_.1 8 0 1)))], [.inl (S0_.1 8 0 1), .inl (S0_.1 8 0 2), .inl (a1_ - (S0_.1 8 0 2))], S0_)) rfl ?_
        refine sm_T_bin (w := (S0_.1 8 0 2) - (S0_.1 8 0 1)) rfl (bi_sub (by omega) (by omega) (by omega)) ?_ -- pc_ 158
        refine sm_T_br (a := 3) (z := 12) rfl (fun cx18_ => ?_) (fun cx18_ => ?_)
        · have cx18_ : (S0_.1 8 0 2) - (S0_.1 8 0 1) ≤ a1_ - (S0_.1 8 0 2) := of_decide_eq_true cx18_
          refine sm_T_go 1 (c1 := (172, [some (.inr (.inr (some (8, 0)))), some (.inl a1_), some (.inl a2_), some (.inl 1), some (.inl (a1_ - (S0_.1 8 0 2))), some (.inl ((a1_ - (S0_.1 8 0 2)) % (S0_.1 8 0 1)))], [.inl (-1)], S0_)) rfl ?_
          refine sm_T_ri rfl ⟨_, _, rfl, rfl, _, rfl, ?_⟩
          unfold nb
          by_cases u9_ : a1_ < S0_.1 8 0 2
          · first | (exfalso; omega) | (rw [if_pos u9_]; first | rw [if_pos (by omega), if_pos (by omega)] | rw [if_pos (by omega), if_neg (by omega)] | rw [if_neg (by omega), if_pos (by omega), if_pos (by omega)] | rw [if_neg (by omega), if_pos (by omega), if_neg (by omega)] | rw [if_neg (by omega), if_neg (by omega), if_pos (by omega)] | rw [if_neg (by omega), if_neg (by omega), if_neg (by omega)])
          · first | (exfalso; omega) | (rw [if_neg u9_]; first | rw [if_pos (by omega)] | rw [if_neg (by omega), if_pos (by omega), if_pos (by omega)] | rw [if_neg (by omega), if_pos (by omega), if_neg (by omega)] | rw [if_neg (by omega), if_neg (by omega), if_pos (by omega), if_pos (by omega)] | rw [if_neg (by omega), if_neg (by omega), if_pos (by omega), if_neg (by omega)] | rw [if_neg (by omega), if_neg (by omega), if_neg (by omega)])
        · have cx18_ : ¬ ((S0_.1 8 0 2) - (S0_.1 8 0 1) ≤ a1_ - (S0_.1 8 0 2)) := of_decide_eq_false cx18_
          refine sm_T_go 3 (c1 := (167, [some (.inr (.inr (some (8, 0)))), some (.inl a1_), some (.inl a2_), some (.inl 1), some (.inl (a1_ - (S0_.1 8 0 2))), some (.inl ((a1_ - (S0_.1 8 0 2)) % (S0_.1 8 0 1)))], [.inl (S0_.1 8 0 1), .inl a1_], S0_)) rfl ?_
          refine sm_T_bin (w := a1_ + (S0_.1 8 0 1)) rfl (bi_add (by omega) (by omega) (by omega)) ?_ -- pc_ 167
          refine sm_T_go 1 (c1 := (172, [some (.inr (.inr (some (8, 0)))), some (.inl a1_), some (.inl a2_), some (.inl 1), some (.inl (a1_ - (S0_.1 8 0 2))), some (.inl ((a1_ - (S0_.1 8 0 2)) % (S0_.1 8 0 1)))], [.inl (a1_ + (S0_.1 8 0 1))], S0_)) rfl ?_
          refine sm_T_ri rfl ⟨_, _, rfl, rfl, _, rfl, ?_⟩
          unfold nb
          by_cases u9_ : a1_ < S0_.1 8 0 2
          · first | (exfalso; omega) | (rw [if_pos u9_]; first | rw [if_pos (by omega), if_pos (by omega)] | rw [if_pos (by omega), if_neg (by omega)] | rw [if_neg (by omega), if_pos (by omega), if_pos (by omega)] | rw [if_neg (by omega), if_pos (by omega), if_neg (by omega)] | rw [if_neg (by omega), if_neg (by omega), if_pos (by omega)] | rw [if_neg (by omega), if_neg (by omega), if_neg (by omega)])
          · first | (exfalso; omega) | (rw [if_neg u9_]; first | rw [if_pos (by omega)] | rw [if_neg (by omega), if_pos (by omega), if_pos (by omega)] | rw [if_neg (by omega), if_pos (by omega), if_neg (by omega)] | rw [if_neg (by omega), if_neg (by omega), if_pos (by omega), if_pos (by omega)] | rw [if_neg (by omega), if_neg (by omega), if_pos (by omega), if_neg (by omega)] | rw [if_neg (by omega), if_neg (by omega), if_neg (by omega)])
      refine sm_T_sw (t := 173) rfl rfl (by (have hh_ : a2_ < 0 ∨ 4 ≤ a2_ := by omega); rcases hh_ with hh_ | hh_; (exact sm_swd (Or.inl hh_)); (exact sm_swd (Or.inr (by simp only [List.length_cons, List.length_nil]; omega)))) ?_
      refine sm_T_go 4 (c1 := (188, [some (.inr (.inr (some (8, 0)))), some (.inl a1_), some (.inl a2_), some (.inl 1), some (.inl (a1_ - (S0_.1 8 0 2))), some (.inl ((a1_ - (S0_.1 8 0 2)) % (S0_.1 8 0 1)))], [.inl (a1_ - (S0_.1 8 0 2))], S0_)) rfl ?_
      refine sm_T_ri rfl ⟨_, _, rfl, rfl, _, rfl, ?_⟩
      unfold nb
      by_cases u9_ : a1_ < S0_.1 8 0 2
      · first | (exfalso; omega) | (rw [if_pos u9_]; first | rw [if_pos (by omega), if_pos (by omega)] | rw [if_pos (by omega), if_neg (by omega)] | rw [if_neg (by omega), if_pos (by omega), if_pos (by omega)] | rw [if_neg (by omega), if_pos (by omega), if_neg (by omega)] | rw [if_neg (by omega), if_neg (by omega), if_pos (by omega)] | rw [if_neg (by omega), if_neg (by omega), if_neg (by omega)])
      · first | (exfalso; omega) | (rw [if_neg u9_]; first | rw [if_pos (by omega)] | rw [if_neg (by omega), if_pos (by omega), if_pos (by omega)] | rw [if_neg (by omega), if_pos (by omega), if_neg (by omega)] | rw [if_neg (by omega), if_neg (by omega), if_pos (by omega), if_pos (by omega)] | rw [if_neg (by omega), if_neg (by omega), if_pos (by omega), if_neg (by omega)] | rw [if_neg (by omega), if_neg (by omega), if_neg (by omega)])
end
/-! 99.zkdc -/
section
/-! Router.priceOf -/
def vw_160 : sx_Wl := ([], [], [])
def vq_160 (a1_ : Int) (a2_ : Int) (bb_ : Nat) (S0_ : sm_S) (u_ : Option sm_V) (S1_ : sm_S) : Prop := S0_ = S1_ ∧ ∃ v_ : Int, u_ = some (.inl v_) ∧ (v_ = prc (S0_.2.2.1 22 (0 + bb_)) a2_ a1_.toNat)
set_option maxHeartbeats 400000 in
theorem vc_160 {sc_ : Nat × (Nat → Int)} (a1_ : Int) (a2_ : Int) (bb_ : Nat) (S0_ : sm_S) (hI_ : gi S0_) (hb_ : S0_.2.1 8 0 0 = some bb_) (h1_ : 0 ≤ a1_ ∧ a1_ < 4712) : sm_T (mt_P sc_) 0 160 (0, [some (.inr (.inr (some (8, 0)))), some (.inl a1_), some (.inl a2_)], [], S0_) (fun ro9_ => ∃ u_ S1_, ro9_ = (.inl u_, S1_, 0) ∧ vq_160 a1_ a2_ bb_ S0_ u_ S1_) := by
  have hF_ : ai_fr (sx_W vw_160) S0_ S0_ := ai_fr_rf
  refine sm_T_go 1 (c1 := (1, [some (.inr (.inr (some (8, 0)))), some (.inl a1_), some (.inl a2_)], [.inr (.inr (some (8, 0)))], S0_)) rfl ?_
  refine sm_T_gr rfl rfl ((hF_.2.1 8 0 0 rfl).trans hb_) ?_
  refine sm_T_go 2 (c1 := (8, [some (.inr (.inr (some (8, 0)))), some (.inl a1_), some (.inl a2_)], [.inl a1_, .inr (.inr (some (22, (0 + bb_))))], S0_)) rfl ?_
  refine sm_T_iald (n := 4712) rfl rfl (by omega) (by omega) ?_
  have bx1_ : (-1) ≤ S0_.2.2.1 22 (0 + bb_) a1_.toNat ∧ S0_.2.2.1 22 (0 + bb_) a1_.toNat ≤ 161 := hI_.2 22 (0 + bb_) _
  refine sm_T_go 1 (c1 := (10, [some (.inr (.inr (some (8, 0)))), some (.inl a1_), some (.inl a2_)], [.inl (-1), .inl (S0_.2.2.1 22 (0 + bb_) a1_.toNat)], S0_)) rfl ?_
  refine sm_T_br (a := 0) (z := 16) rfl (fun cx2_ => ?_) (fun cx2_ => ?_)
  · have cx2_ : (S0_.2.2.1 22 (0 + bb_) a1_.toNat) = (-1) := of_decide_eq_true cx2_
    refine sm_T_go 2 (c1 := (32, [some (.inr (.inr (some (8, 0)))), some (.inl a1_), some (.inl a2_)], [.inl 1], S0_)) rfl ?_
    refine sm_T_ri rfl ⟨_, _, rfl, rfl, _, rfl, ?_⟩
    unfold prc
    first | rw [if_pos (Or.inl (by omega))] | rw [if_pos (Or.inr (by omega))] | rw [if_neg (by omega)]
  · have cx2_ : ¬ ((S0_.2.2.1 22 (0 + bb_) a1_.toNat) = (-1)) := of_decide_eq_false cx2_
    refine sm_T_go 1 (c1 := (14, [some (.inr (.inr (some (8, 0)))), some (.inl a1_), some (.inl a2_)], [.inr (.inr (some (8, 0)))], S0_)) rfl ?_
    refine sm_T_gr rfl rfl ((hF_.2.1 8 0 0 rfl).trans hb_) ?_
    refine sm_T_go 2 (c1 := (21, [some (.inr (.inr (some (8, 0)))), some (.inl a1_), some (.inl a2_)], [.inl a1_, .inr (.inr (some (22, (0 + bb_))))], S0_)) rfl ?_
    refine sm_T_iald (n := 4712) rfl rfl (by omega) (by omega) ?_
    refine sm_T_go 1 (c1 := (23, [some (.inr (.inr (some (8, 0)))), some (.inl a1_), some (.inl a2_)], [.inl a2_, .inl (S0_.2.2.1 22 (0 + bb_) a1_.toNat)], S0_)) rfl ?_
    refine sm_T_br (a := 1) (z := 7) rfl (fun cx3_ => ?_) (fun cx3_ => ?_)
    · have cx3_ : (S0_.2.2.1 22 (0 + bb_) a1_.toNat) ≠ a2_ := of_decide_eq_true cx3_
      refine sm_T_go 1 (c1 := (32, [some (.inr (.inr (some (8, 0)))), some (.inl a1_), some (.inl a2_)], [.inl 11], S0_)) rfl ?_
      refine sm_T_ri rfl ⟨_, _, rfl, rfl, _, rfl, ?_⟩
      unfold prc
      first | rw [if_pos (Or.inl (by omega))] | rw [if_pos (Or.inr (by omega))] | rw [if_neg (by omega)]
    · have cx3_ : ¬ ((S0_.2.2.1 22 (0 + bb_) a1_.toNat) ≠ a2_) := of_decide_eq_false cx3_
      refine sm_T_go 2 (c1 := (32, [some (.inr (.inr (some (8, 0)))), some (.inl a1_), some (.inl a2_)], [.inl 1], S0_)) rfl ?_
      refine sm_T_ri rfl ⟨_, _, rfl, rfl, _, rfl, ?_⟩
      unfold prc
      first | rw [if_pos (Or.inl (by omega))] | rw [if_pos (Or.inr (by omega))] | rw [if_neg (by omega)]
end
/-! 99.zkdd -/
section
/-! Router.before -/
def vw_166 : sx_Wl := ([], [], [])
def vq_166 (a1_ : Int) (a2_ : Int) (S0_ : sm_S) (u_ : Option sm_V) (S1_ : sm_S) : Prop := S0_ = S1_ ∧ ∃ v_ : Int, u_ = some (.inl v_) ∧ ((v_ = -1 ∧ ∀ d_, 0 ≤ d_ → d_ < 5 → nb (S0_.1 8 0 1) (S0_.1 8 0 2) a1_ d_ = -1 ∨ S0_.2.2.1 86 0 (nb (S0_.1 8 0 1) (S0_.1 8 0 2) a1_ d_).toNat ≠ a2_) ∨ ((0 ≤ v_ ∧ v_ < 2 * S0_.1 8 0 2) ∧ S0_.2.2.1 86 0 v_.toNat = a2_))
set_option maxHeartbeats 400000 in
theorem vl_166 {sc_ : Nat × (Nat → Int)} (a1_ : Int) (a2_ : Int) (S0_ : sm_S) (hg_ : rgw S0_) (h1_ : 0 ≤ a1_ ∧ a1_ < 2 * S0_.1 8 0 2) : ∀ nn_ : Nat, (∀ (d9_ : Int) (S_ : sm_S), gi S_ → ai_fr (sx_W vw_166) S0_ S_ → ((0 ≤ d9_ ∧ d9_ ≤ 5) ∧ (∀ d_, 0 ≤ d_ → d_ < d9_ → nb (S0_.1 8 0 1) (S0_.1 8 0 2) a1_ d_ = -1 ∨ S0_.2.2.1 86 0 (nb (S0_.1 8 0 1) (S0_.1 8 0 2) a1_ d_).toNat ≠ a2_) ∧ (S_ = S0_) ∧ True) → ((10 - d9_).toNat) < nn_ → sm_T (mt_P sc_) 1 166 (2, [some (.inr (.inr (some (8, 0)))), some (.inl a1_), some (.inl a2_), some (.inl d9_), none], [], S_) (fun ro9_ => ∃ u_ S1_, ro9_ = (.inl u_, S1_, 0) ∧ vq_166 a1_ a2_ S0_ u_ S1_)) := by
  intro nn_
  induction nn_ with
  | zero => exact fun _ _ _ _ _ h_ => absurd h_ (Nat.not_lt_zero _)
  | succ nn_ ih_ =>
    rintro d9_ S_ hI_ hF_ ⟨h0_, hd_, hS_, -⟩ hm_
    have cL_ : 0 ≤ S_.1 8 0 2 ∧ S_.1 8 0 2 ≤ 2356 := hI_.1 8 0 2 rfl
    rw [hS_] at cL_
    refine sm_T_go 2 (c1 := (4, [some (.inr (.inr (some (8, 0)))), some (.inl a1_), some (.inl a2_), some (.inl d9_), none], [.inl 5, .inl d9_], S_)) rfl ?_
    refine sm_T_br (a := 3) (z := 37) rfl (fun cx1_ => ?_) (fun cx1_ => ?_)
    · have cx1_ : 5 ≤ d9_ := of_decide_eq_true cx1_
      refine sm_T_go 1 (c1 := (42, [some (.inr (.inr (some (8, 0)))), some (.inl a1_), some (.inl a2_), some (.inl d9_), none], [.inl (-1)], S_)) rfl ?_
      refine sm_T_ri rfl ⟨_, _, rfl, (by first | rfl | exact hS_.symm), _, rfl, ?_⟩
      left
      exact ⟨rfl, fun d_ u_ w_ => hd_ d_ u_ (by omega)⟩
    · have cx1_ : ¬ (5 ≤ d9_) := of_decide_eq_false cx1_
      refine sm_T_go 3 (c1 := (10, [some (.inr (.inr (some (8, 0)))), some (.inl a1_), some (.inl a2_), some (.inl d9_), none], [.inl d9_, .inl a1_, .inr (.inr (some (8, 0)))], S_)) rfl ?_
      refine sm_T_cal (d1 := 0) (Q1 := vq_164 a1_ d9_ S_) rfl rfl (by decide) (vc_164 a1_ d9_ S_ hI_ (by (rw [hS_]; exact hg_)) (by (rw [hS_]; omega)) (by omega)) (fun u_ Sx2_ px5_ => ?_)
      obtain ⟨rfl, vx7_, rfl, px5_⟩ := px5_
      have n9_ := px5_
      rw [hS_] at n9_
      have r9_ := nb_r (d := d9_) (show 0 < S0_.1 8 0 1 from hg_.1) (show 0 < S0_.1 8 0 2 from hg_.2.1) h1_
      rw [← n9_] at r9_
      refine sm_T_go 3 (c1 := (18, [some (.inr (.inr (some (8, 0)))), some (.inl a1_), some (.inl a2_), some (.inl d9_), some (.inl vx7_)], [.inl (-1), .inl vx7_], S_)) rfl ?_
      refine sm_T_br (a := 0) (z := 17) rfl (fun cx8_ => ?_) (fun cx8_ => ?_)
      · have cx8_ : vx7_ = (-1) := of_decide_eq_true cx8_
        refine sm_T_inc (a := 3) (z := 1) (v := d9_) (w := d9_ + 1) rfl rfl (by omega) (by omega) (by omega) ?_ -- pc_ 35
        refine sm_T_go 1 (c1 := (2, [some (.inr (.inr (some (8, 0)))), some (.inl a1_), some (.inl a2_), some (.inl (d9_ + 1)), some (.inl vx7_)], [], S_)) rfl ?_
        refine sm_T_wk [some (.inr (.inr (some (8, 0)))), some (.inl a1_), some (.inl a2_), some (.inl (d9_ + 1)), none] (by exact ⟨rfl, rfl, rfl, rfl, trivial⟩) ?_
        refine ih_ (d9_ + 1) S_ hI_ hF_ ⟨?_, ?_, ?_, trivial⟩ ?_
        · omega
        · intro d_ u_ w_
          by_cases y9_ : d_ = d9_
          · rw [y9_, ← n9_]; first | (left; omega) | (right; rw [← hS_]; omega)
          · exact hd_ d_ u_ (by omega)
        · first | rfl | exact hS_
        · omega
      · have cx8_ : ¬ (vx7_ = (-1)) := of_decide_eq_false cx8_
        refine sm_T_go 3 (c1 := (27, [some (.inr (.inr (some (8, 0)))), some (.inl a1_), some (.inl a2_), some (.inl d9_), some (.inl vx7_)], [.inl vx7_, .inr (.inr (some (86, 0)))], S_)) rfl ?_
        refine sm_T_iald (n := 4712) rfl rfl (by omega) (by omega) ?_
        have bx9_ : (-1) ≤ S_.2.2.1 86 0 vx7_.toNat ∧ S_.2.2.1 86 0 vx7_.toNat ≤ 100000 := hI_.2 86 0 _
        refine sm_T_go 1 (c1 := (29, [some (.inr (.inr (some (8, 0)))), some (.inl a1_), some (.inl a2_), some (.inl d9_), some (.inl vx7_)], [.inl a2_, .inl (S_.2.2.1 86 0 vx7_.toNat)], S_)) rfl ?_
        refine sm_T_br (a := 1) (z := 6) rfl (fun cx10_ => ?_) (fun cx10_ => ?_)
        · have cx10_ : (S_.2.2.1 86 0 vx7_.toNat) ≠ a2_ := of_decide_eq_true cx10_
          refine sm_T_inc (a := 3) (z := 1) (v := d9_) (w := d9_ + 1) rfl rfl (by omega) (by omega) (by omega) ?_ -- pc_ 35
          refine sm_T_go 1 (c1 := (2, [some (.inr (.inr (some (8, 0)))), some (.inl a1_), some (.inl a2_), some (.inl (d9_ + 1)), some (.inl vx7_)], [], S_)) rfl ?_
          refine sm_T_wk [some (.inr (.inr (some (8, 0)))), some (.inl a1_), some (.inl a2_), some (.inl (d9_ + 1)), none] (by exact ⟨rfl, rfl, rfl, rfl, trivial⟩) ?_
          refine ih_ (d9_ + 1) S_ hI_ hF_ ⟨?_, ?_, ?_, trivial⟩ ?_
          · omega
          · intro d_ u_ w_
            by_cases y9_ : d_ = d9_
            · rw [y9_, ← n9_]; first | (left; omega) | (right; rw [← hS_]; omega)
            · exact hd_ d_ u_ (by omega)
          · first | rfl | exact hS_
          · omega
        · have cx10_ : ¬ ((S_.2.2.1 86 0 vx7_.toNat) ≠ a2_) := of_decide_eq_false cx10_
          refine sm_T_go 1 (c1 := (34, [some (.inr (.inr (some (8, 0)))), some (.inl a1_), some (.inl a2_), some (.inl d9_), some (.inl vx7_)], [.inl vx7_], S_)) rfl ?_
          refine sm_T_ri rfl ⟨_, _, rfl, (by first | rfl | exact hS_.symm), _, rfl, ?_⟩
          right
          rw [hS_] at *
          exact ⟨by omega, by omega⟩
set_option maxHeartbeats 400000 in
theorem vc_166 {sc_ : Nat × (Nat → Int)} (a1_ : Int) (a2_ : Int) (S0_ : sm_S) (hI_ : gi S0_) (hg_ : rgw S0_) (h1_ : 0 ≤ a1_ ∧ a1_ < 2 * S0_.1 8 0 2) : sm_T (mt_P sc_) 1 166 (0, [some (.inr (.inr (some (8, 0)))), some (.inl a1_), some (.inl a2_), none, none], [], S0_) (fun ro9_ => ∃ u_ S1_, ro9_ = (.inl u_, S1_, 0) ∧ vq_166 a1_ a2_ S0_ u_ S1_) := by
  have hF_ : ai_fr (sx_W vw_166) S0_ S0_ := ai_fr_rf
  have cL_ : 0 ≤ S0_.1 8 0 2 ∧ S0_.1 8 0 2 ≤ 2356 := hI_.1 8 0 2 rfl
  refine sm_T_go 2 (c1 := (2, [some (.inr (.inr (some (8, 0)))), some (.inl a1_), some (.inl a2_), some (.inl 0), none], [], S0_)) rfl ?_
  refine (vl_166 a1_ a2_ S0_ hg_ h1_ _) 0 S0_ hI_ hF_ ⟨?_, ?_, ?_, trivial⟩ (Nat.lt_succ_self _)
  · omega
  · (intro d_ u_ w_; exfalso; omega)
  · first | rfl | exact hS_
end
/-! 99.zkea -/
section
/-! wires lost; the nearest pin; written by wip/p55/gen/vg -/

/-! wires lost, joined; the_ nearest pin_ -/
def ppk (bb_ : Nat) (S_ : sm_S) (c_ k_ : Nat) : Int := ppt bb_ S_ (S_.2.2.1 18 (0 + bb_) ((S_.2.2.1 19 (0 + bb_) c_).toNat + k_))
def rpt (bb_ : Nat) (S_ : sm_S) : Prop := ∀ c_ : Nat, c_ < 162 → ∀ k_ : Nat, (k_ : Int) < S_.2.2.1 20 (0 + bb_) c_ → 0 ≤ ppk bb_ S_ c_ k_ ∧ ppk bb_ S_ c_ k_ < S_.1 8 0 2
/-- a_ net's wire is_ gone -/
def rls (bb_ : Nat) (t_ : Int) (S_ S'_ : sm_S) : Prop := ∀ p_ : Nat, S'_.2.2.1 22 (0 + bb_) p_ = (if (p_ : Int) < 2 * S_.1 8 0 2 ∧ S_.2.2.1 22 (0 + bb_) p_ = t_ then -1 else S_.2.2.1 22 (0 + bb_) p_) ∧ S'_.2.2.1 23 (0 + bb_) p_ = (if (p_ : Int) < 2 * S_.1 8 0 2 ∧ S_.2.2.1 22 (0 + bb_) p_ = t_ then 0 else S_.2.2.1 23 (0 + bb_) p_)
def rls9 (bb_ : Nat) (t_ k_ : Int) (S_ S'_ : sm_S) : Prop := ∀ p_ : Nat, S'_.2.2.1 22 (0 + bb_) p_ = (if (p_ : Int) < k_ ∧ S_.2.2.1 22 (0 + bb_) p_ = t_ then -1 else S_.2.2.1 22 (0 + bb_) p_) ∧ S'_.2.2.1 23 (0 + bb_) p_ = (if (p_ : Int) < k_ ∧ S_.2.2.1 22 (0 + bb_) p_ = t_ then 0 else S_.2.2.1 23 (0 + bb_) p_)
theorem rls_0 {bb_ : Nat} {t_ k_ : Int} {S_ S'_ S2_ : sm_S} (h_ : rls9 bb_ t_ k_ S_ S'_) (hk_ : 0 ≤ k_) (ho_ : S'_.2.2.1 22 (0 + bb_) k_.toNat ≠ t_) : rls9 bb_ t_ (k_ + 1) S_ S'_ := by
  intro p_
  have a_ := h_ p_
  by_cases z_ : (p_ : Int) = k_
  · have e_ : k_.toNat = p_ := by omega
    rw [e_] at ho_
    rw [if_neg (by omega), if_neg (by omega)] at a_
    rw [a_.1] at ho_
    rw [if_neg (fun q_ => ho_ q_.2), if_neg (fun q_ => ho_ q_.2)]
    exact a_
  · by_cases y_ : (p_ : Int) < k_ ∧ S_.2.2.1 22 (0 + bb_) p_ = t_
    · rw [if_pos y_, if_pos y_] at a_
      rw [if_pos ⟨by omega, y_.2⟩, if_pos ⟨by omega, y_.2⟩]; exact a_
    · rw [if_neg y_, if_neg y_] at a_
      rw [if_neg (fun q_ => y_ ⟨by omega, q_.2⟩), if_neg (fun q_ => y_ ⟨by omega, q_.2⟩)]; exact a_
theorem rls_1 {bb_ : Nat} {t_ k_ : Int} {S_ S'_ : sm_S} (h_ : rls9 bb_ t_ k_ S_ S'_) (hk_ : 0 ≤ k_) (ho_ : S'_.2.2.1 22 (0 + bb_) k_.toNat = t_) : rls9 bb_ t_ (k_ + 1) S_ (sm_aI (sm_aI S'_ 22 (0 + bb_) k_.toNat (-1)) 23 (0 + bb_) k_.toNat 0) := by
  intro p_
  have a_ := h_ p_
  rw [rd_ne (by decide), rd_eq, rd_eq, rd_ne (by decide)]
  by_cases z_ : (p_ : Int) = k_
  · have e_ : p_ = k_.toNat := by omega
    simp only [if_pos e_]
    rw [e_] at a_
    rw [if_neg (by omega), if_neg (by omega)] at a_
    rw [a_.1] at ho_
    rw [e_, if_pos ⟨by omega, ho_⟩, if_pos ⟨by omega, ho_⟩]
    exact ⟨rfl, rfl⟩
  · have e_ : ¬ p_ = k_.toNat := by omega
    simp only [if_neg e_]
    by_cases y_ : (p_ : Int) < k_ ∧ S_.2.2.1 22 (0 + bb_) p_ = t_
    · rw [if_pos y_, if_pos y_] at a_
      rw [if_pos ⟨by omega, y_.2⟩, if_pos ⟨by omega, y_.2⟩]; exact a_
    · rw [if_neg y_, if_neg y_] at a_
      rw [if_neg (fun q_ => y_ ⟨by omega, q_.2⟩), if_neg (fun q_ => y_ ⟨by omega, q_.2⟩)]; exact a_
/-! Router.lose -/
def vw_159 : sx_Wl := ([], [22, 23, 24], [])
def vq_159 (a1_ : Int) (bb_ : Nat) (S0_ : sm_S) (u_ : Option sm_V) (S1_ : sm_S) : Prop := u_ = none ∧ gi S1_ ∧ ai_fr (sx_W vw_159) S0_ S1_ ∧ (cdf bb_ S0_ S1_ ∧ (rls bb_ a1_ S0_ S1_ ∧ ∀ c_, S1_.2.2.1 24 (0 + bb_) c_ = if c_ = a1_.toNat then 1 else S0_.2.2.1 24 (0 + bb_) c_))
set_option maxHeartbeats 400000 in
theorem vl_159 {sc_ : Nat × (Nat → Int)} (a1_ : Int) (bb_ : Nat) (S0_ : sm_S) (hb_ : S0_.2.1 8 0 0 = some bb_) (h1_ : 0 ≤ a1_ ∧ a1_ ≤ 161) : ∀ nn_ : Nat, (∀ (k_ : Int) (S_ : sm_S), gi S_ → ai_fr (sx_W vw_159) S0_ S_ → ((0 ≤ k_ ∧ k_ ≤ 4712 ∧ k_ ≤ 2 * S0_.1 8 0 2 ) ∧ (rls9 bb_ a1_ k_ S0_ S_) ∧ (∀ c_, S_.2.2.1 24 (0 + bb_) c_ = if c_ = a1_.toNat then 1 else S0_.2.2.1 24 (0 + bb_) c_) ∧ (cdf bb_ S0_ S_) ∧ True) → ((5000 - k_).toNat) < nn_ → sm_T (mt_P sc_) 0 159 (12, [some (.inr (.inr (some (8, 0)))), some (.inl a1_), some (.inl k_)], [], S_) (fun ro9_ => ∃ u_ S1_, ro9_ = (.inl u_, S1_, 0) ∧ vq_159 a1_ bb_ S0_ u_ S1_)) := by
  intro nn_
  induction nn_ with
  | zero => exact fun _ _ _ _ _ h_ => absurd h_ (Nat.not_lt_zero _)
  | succ nn_ ih_ =>
    rintro k_ S_ hI_ hF_ ⟨h0_, hl_, ho_, hC_, -⟩ hm_
    have e2_ : S_.1 8 0 2 = S0_.1 8 0 2 := hF_.1 8 0 2 rfl
    have cL_ : 0 ≤ S_.1 8 0 2 ∧ S_.1 8 0 2 ≤ 2356 := hI_.1 8 0 2 rfl
    have bx1_ : 0 ≤ S_.1 8 0 2 ∧ S_.1 8 0 2 ≤ 2356 := hI_.1 8 0 2 rfl
    refine sm_T_go 4 (c1 := (18, [some (.inr (.inr (some (8, 0)))), some (.inl a1_), some (.inl k_)], [.inl (S_.1 8 0 2), .inl 2, .inl k_], S_)) rfl ?_
    refine sm_T_bin (w := 2 * (S_.1 8 0 2)) rfl (bi_mul (by omega) (by omega) (by omega)) ?_ -- pc_ 18
    refine sm_T_br (a := 3) (z := 42) rfl (fun cx2_ => ?_) (fun cx2_ => ?_)
    · have cx2_ : 2 * (S_.1 8 0 2) ≤ k_ := of_decide_eq_true cx2_
      refine sm_T_rv rfl ⟨_, _, rfl, rfl, hI_, hF_, ?_⟩
      refine ⟨hC_, ?_⟩
      refine ⟨?_, ho_⟩
      intro p_
      have a_ := hl_ p_
      rw [show k_ = 2 * S0_.1 8 0 2 by omega] at a_
      exact a_
    · have cx2_ : ¬ (2 * (S_.1 8 0 2) ≤ k_) := of_decide_eq_false cx2_
      refine sm_T_go 1 (c1 := (23, [some (.inr (.inr (some (8, 0)))), some (.inl a1_), some (.inl k_)], [.inr (.inr (some (8, 0)))], S_)) rfl ?_
      refine sm_T_gr rfl rfl ((hF_.2.1 8 0 0 rfl).trans hb_) ?_
      refine sm_T_go 2 (c1 := (30, [some (.inr (.inr (some (8, 0)))), some (.inl a1_), some (.inl k_)], [.inl k_, .inr (.inr (some (22, (0 + bb_))))], S_)) rfl ?_
      refine sm_T_iald (n := 4712) rfl rfl (by omega) (by omega) ?_
      have bx3_ : (-1) ≤ S_.2.2.1 22 (0 + bb_) k_.toNat ∧ S_.2.2.1 22 (0 + bb_) k_.toNat ≤ 161 := hI_.2 22 (0 + bb_) _
      refine sm_T_go 1 (c1 := (32, [some (.inr (.inr (some (8, 0)))), some (.inl a1_), some (.inl k_)], [.inl a1_, .inl (S_.2.2.1 22 (0 + bb_) k_.toNat)], S_)) rfl ?_
      refine sm_T_br (a := 1) (z := 23) rfl (fun cx4_ => ?_) (fun cx4_ => ?_)
      · have cx4_ : (S_.2.2.1 22 (0 + bb_) k_.toNat) ≠ a1_ := of_decide_eq_true cx4_
        refine sm_T_inc (a := 2) (z := 1) (v := k_) (w := k_ + 1) rfl rfl (by omega) (by omega) (by omega) ?_ -- pc_ 55
        refine sm_T_go 1 (c1 := (12, [some (.inr (.inr (some (8, 0)))), some (.inl a1_), some (.inl (k_ + 1))], [], S_)) rfl ?_
        refine ih_ (k_ + 1) S_ hI_ hF_ ⟨?_, ?_, ?_, ?_, trivial⟩ ?_
        · omega
        · exact rls_0 (S2_ := S0_) hl_ (by omega) (by omega)
        · exact ho_
        · exact hC_
        · omega
      · have cx4_ : ¬ ((S_.2.2.1 22 (0 + bb_) k_.toNat) ≠ a1_) := of_decide_eq_false cx4_
        refine sm_T_go 1 (c1 := (36, [some (.inr (.inr (some (8, 0)))), some (.inl a1_), some (.inl k_)], [.inr (.inr (some (8, 0)))], S_)) rfl ?_
        refine sm_T_gr rfl rfl ((hF_.2.1 8 0 0 rfl).trans hb_) ?_
        refine sm_T_go 3 (c1 := (44, [some (.inr (.inr (some (8, 0)))), some (.inl a1_), some (.inl k_)], [.inl (-1), .inl k_, .inr (.inr (some (22, (0 + bb_))))], S_)) rfl ?_
        refine sm_T_iast (n := 4712) rfl rfl (by omega) (by omega) ?_
        have hIx5_ : gi (sm_aI S_ 22 (0 + bb_) k_.toNat (-1)) := gi_aI hI_ (show (-1) ≤ (-1) ∧ (-1) ≤ 161 from ⟨by omega, by omega⟩)
        have hFx6_ : ai_fr (sx_W vw_159) S0_ (sm_aI S_ 22 (0 + bb_) k_.toNat (-1)) := ai_fr_tr hF_ (ai_fr_aI rfl)
        have hCx7_ : cdf bb_ S0_ (sm_aI S_ 22 (0 + bb_) k_.toNat (-1)) := cdf_aI hC_ (Or.inr (by rw [show cof 22 = 0 from rfl] <;> omega))
        refine sm_T_go 1 (c1 := (46, [some (.inr (.inr (some (8, 0)))), some (.inl a1_), some (.inl k_)], [.inr (.inr (some (8, 0)))], sm_aI S_ 22 (0 + bb_) k_.toNat (-1))) rfl ?_
        refine sm_T_gr rfl rfl ((hFx6_.2.1 8 0 0 rfl).trans hb_) ?_
        refine sm_T_go 3 (c1 := (54, [some (.inr (.inr (some (8, 0)))), some (.inl a1_), some (.inl k_)], [.inl 0, .inl k_, .inr (.inr (some (23, (0 + bb_))))], sm_aI S_ 22 (0 + bb_) k_.toNat (-1))) rfl ?_
        refine sm_T_iast (n := 4712) rfl rfl (by omega) (by omega) ?_
        have hIx8_ : gi (sm_aI (sm_aI S_ 22 (0 + bb_) k_.toNat (-1)) 23 (0 + bb_) k_.toNat 0) := gi_aI hIx5_ (show 0 ≤ 0 ∧ 0 ≤ 7 from ⟨by omega, by omega⟩)
        have hFx9_ : ai_fr (sx_W vw_159) S0_ (sm_aI (sm_aI S_ 22 (0 + bb_) k_.toNat (-1)) 23 (0 + bb_) k_.toNat 0) := ai_fr_tr hFx6_ (ai_fr_aI rfl)
        have hCx10_ : cdf bb_ S0_ (sm_aI (sm_aI S_ 22 (0 + bb_) k_.toNat (-1)) 23 (0 + bb_) k_.toNat 0) := cdf_aI hCx7_ (Or.inr (by rw [show cof 23 = 0 from rfl] <;> omega))
        refine sm_T_inc (a := 2) (z := 1) (v := k_) (w := k_ + 1) rfl rfl (by omega) (by omega) (by omega) ?_ -- pc_ 55
        refine sm_T_go 1 (c1 := (12, [some (.inr (.inr (some (8, 0)))), some (.inl a1_), some (.inl (k_ + 1))], [], sm_aI (sm_aI S_ 22 (0 + bb_) k_.toNat (-1)) 23 (0 + bb_) k_.toNat 0)) rfl ?_
        refine ih_ (k_ + 1) (sm_aI (sm_aI S_ 22 (0 + bb_) k_.toNat (-1)) 23 (0 + bb_) k_.toNat 0) hIx8_ hFx9_ ⟨?_, ?_, ?_, ?_, trivial⟩ ?_
        · omega
        · exact rls_1 hl_ (by omega) (by omega)
        · (intro c_; rw [rd_ne (by decide), rd_ne (by decide)]; exact ho_ c_)
        · exact hCx10_
        · omega
set_option maxHeartbeats 400000 in
theorem vc_159 {sc_ : Nat × (Nat → Int)} (a1_ : Int) (bb_ : Nat) (S0_ : sm_S) (hI_ : gi S0_) (hb_ : S0_.2.1 8 0 0 = some bb_) (h1_ : 0 ≤ a1_ ∧ a1_ ≤ 161) : sm_T (mt_P sc_) 0 159 (0, [some (.inr (.inr (some (8, 0)))), some (.inl a1_), none], [], S0_) (fun ro9_ => ∃ u_ S1_, ro9_ = (.inl u_, S1_, 0) ∧ vq_159 a1_ bb_ S0_ u_ S1_) := by
  have hF_ : ai_fr (sx_W vw_159) S0_ S0_ := ai_fr_rf
  have hC_ : cdf bb_ S0_ S0_ := cdf_rf
  have cL_ : 0 ≤ S0_.1 8 0 2 ∧ S0_.1 8 0 2 ≤ 2356 := hI_.1 8 0 2 rfl
  refine sm_T_go 1 (c1 := (1, [some (.inr (.inr (some (8, 0)))), some (.inl a1_), none], [.inr (.inr (some (8, 0)))], S0_)) rfl ?_
  refine sm_T_gr rfl rfl ((hF_.2.1 8 0 0 rfl).trans hb_) ?_
  refine sm_T_go 3 (c1 := (9, [some (.inr (.inr (some (8, 0)))), some (.inl a1_), none], [.inl 1, .inl a1_, .inr (.inr (some (24, (0 + bb_))))], S0_)) rfl ?_
  refine sm_T_iast (n := 162) rfl rfl (by omega) (by omega) ?_
  have hIx1_ : gi (sm_aI S0_ 24 (0 + bb_) a1_.toNat 1) := gi_aI hI_ (show 0 ≤ 1 ∧ 1 ≤ 1 from ⟨by omega, by omega⟩)
  have hFx2_ : ai_fr (sx_W vw_159) S0_ (sm_aI S0_ 24 (0 + bb_) a1_.toNat 1) := ai_fr_tr hF_ (ai_fr_aI rfl)
  have hCx3_ : cdf bb_ S0_ (sm_aI S0_ 24 (0 + bb_) a1_.toNat 1) := cdf_aI hC_ (Or.inr (by rw [show cof 24 = 0 from rfl] <;> omega))
  refine sm_T_go 2 (c1 := (12, [some (.inr (.inr (some (8, 0)))), some (.inl a1_), some (.inl 0)], [], sm_aI S0_ 24 (0 + bb_) a1_.toNat 1)) rfl ?_
  refine (vl_159 a1_ bb_ S0_ hb_ h1_ _) 0 (sm_aI S0_ 24 (0 + bb_) a1_.toNat 1) hIx1_ hFx2_ ⟨?_, ?_, ?_, ?_, trivial⟩ (Nat.lt_succ_self _)
  · omega
  · intro p_
    rw [if_neg (by omega), if_neg (by omega), rd_ne (by decide), rd_ne (by decide)]
    exact ⟨rfl, rfl⟩
  · (intro c_; rw [rd_eq])
  · exact hCx3_
end
/-! 99.zkeb -/
section
/-! Router.joinPoints -/
def vw_167 : sx_Wl := ([], [23], [])
def vq_167 (a1_ : Int) (a2_ : Int) (bb_ : Nat) (S0_ : sm_S) (u_ : Option sm_V) (S1_ : sm_S) : Prop := u_ = none ∧ gi S1_ ∧ ai_fr (sx_W vw_167) S0_ S1_ ∧ (cdf bb_ S0_ S1_ ∧ (∃ s9_, ∀ j_, S1_.2.2.1 23 (0 + bb_) j_ = if j_ = (sm_mn a1_ a2_).toNat then s9_ else S0_.2.2.1 23 (0 + bb_) j_))
set_option maxHeartbeats 400000 in
theorem vc_167 {sc_ : Nat × (Nat → Int)} (a1_ : Int) (a2_ : Int) (bb_ : Nat) (S0_ : sm_S) (hI_ : gi S0_) (hb_ : S0_.2.1 8 0 0 = some bb_) (h1_ : 0 ≤ a1_ ∧ a1_ ≤ 4711) (h2_ : 0 ≤ a2_ ∧ a2_ ≤ 4711) : sm_T (mt_P sc_) 0 167 (0, [some (.inr (.inr (some (8, 0)))), some (.inl a1_), some (.inl a2_), none, none, none], [], S0_) (fun ro9_ => ∃ u_ S1_, ro9_ = (.inl u_, S1_, 0) ∧ vq_167 a1_ a2_ bb_ S0_ u_ S1_) := by
  have hF_ : ai_fr (sx_W vw_167) S0_ S0_ := ai_fr_rf
  have hC_ : cdf bb_ S0_ S0_ := cdf_rf
  refine sm_T_go 2 (c1 := (2, [some (.inr (.inr (some (8, 0)))), some (.inl a1_), some (.inl a2_), none, none, none], [.inl a2_, .inl a1_], S0_)) rfl ?_
  refine sm_T_nt (u := some (.inl (sm_mn a1_ a2_))) (S1 := S0_) rfl rfl rfl ?_
  have bx1_ := sm_mn_d a1_ a2_
  refine sm_T_go 3 (c1 := (8, [some (.inr (.inr (some (8, 0)))), some (.inl a1_), some (.inl a2_), some (.inl (sm_mn a1_ a2_)), none, none], [.inl a2_, .inl a1_], S0_)) rfl ?_
  refine sm_T_nt (u := some (.inl (sm_mx a1_ a2_))) (S1 := S0_) rfl rfl rfl ?_
  have bx2_ := sm_mx_d a1_ a2_
  refine sm_T_go 1 (c1 := (12, [some (.inr (.inr (some (8, 0)))), some (.inl a1_), some (.inl a2_), some (.inl (sm_mn a1_ a2_)), none, none], [.inl (sm_mn a1_ a2_), .inl (sm_mx a1_ a2_)], S0_)) rfl ?_
  refine sm_T_bin (w := (sm_mx a1_ a2_) - (sm_mn a1_ a2_)) rfl (bi_sub (by omega) (by omega) (by omega)) ?_ -- pc_ 12
  have bx3_ : 0 ≤ S0_.1 8 0 2 ∧ S0_.1 8 0 2 ≤ 2356 := hI_.1 8 0 2 rfl
  refine sm_T_go 4 (c1 := (21, [some (.inr (.inr (some (8, 0)))), some (.inl a1_), some (.inl a2_), some (.inl (sm_mn a1_ a2_)), some (.inl ((sm_mx a1_ a2_) - (sm_mn a1_ a2_))), none], [.inl (S0_.1 8 0 2), .inl ((sm_mx a1_ a2_) - (sm_mn a1_ a2_))], S0_)) rfl ?_
  refine sm_T_br (a := 1) (z := 7) rfl (fun cx4_ => ?_) (fun cx4_ => ?_)
  · have cx4_ : (sm_mx a1_ a2_) - (sm_mn a1_ a2_) ≠ (S0_.1 8 0 2) := of_decide_eq_true cx4_
    refine sm_T_go 2 (c1 := (31, [some (.inr (.inr (some (8, 0)))), some (.inl a1_), some (.inl a2_), some (.inl (sm_mn a1_ a2_)), some (.inl ((sm_mx a1_ a2_) - (sm_mn a1_ a2_))), none], [.inl 1, .inl ((sm_mx a1_ a2_) - (sm_mn a1_ a2_))], S0_)) rfl ?_
    refine sm_T_br (a := 1) (z := 7) rfl (fun cx5_ => ?_) (fun cx5_ => ?_)
    · have cx5_ : (sm_mx a1_ a2_) - (sm_mn a1_ a2_) ≠ 1 := of_decide_eq_true cx5_
      refine sm_T_go 3 (c1 := (42, [some (.inr (.inr (some (8, 0)))), some (.inl a1_), some (.inl a2_), some (.inl (sm_mn a1_ a2_)), some (.inl ((sm_mx a1_ a2_) - (sm_mn a1_ a2_))), some (.inl 2)], [.inr (.inr (some (8, 0)))], S0_)) rfl ?_
      refine sm_T_gr rfl rfl ((hF_.2.1 8 0 0 rfl).trans hb_) ?_
      refine sm_T_go 3 (c1 := (50, [some (.inr (.inr (some (8, 0)))), some (.inl a1_), some (.inl a2_), some (.inl (sm_mn a1_ a2_)), some (.inl ((sm_mx a1_ a2_) - (sm_mn a1_ a2_))), some (.inl 2)], [.inl (sm_mn a1_ a2_), .inr (.inr (some (23, (0 + bb_)))), .inl (sm_mn a1_ a2_), .inr (.inr (some (23, (0 + bb_))))], S0_)) rfl ?_
      refine sm_T_iald (n := 4712) rfl rfl (by omega) (by omega) ?_
      have bx6_ : 0 ≤ S0_.2.2.1 23 (0 + bb_) (sm_mn a1_ a2_).toNat ∧ S0_.2.2.1 23 (0 + bb_) (sm_mn a1_ a2_).toNat ≤ 7 := hI_.2 23 (0 + bb_) _
      refine sm_T_go 1 (c1 := (53, [some (.inr (.inr (some (8, 0)))), some (.inl a1_), some (.inl a2_), some (.inl (sm_mn a1_ a2_)), some (.inl ((sm_mx a1_ a2_) - (sm_mn a1_ a2_))), some (.inl 2)], [.inl 2, .inl (S0_.2.2.1 23 (0 + bb_) (sm_mn a1_ a2_).toNat), .inl (sm_mn a1_ a2_), .inr (.inr (some (23, (0 + bb_))))], S0_)) rfl ?_
      refine sm_T_bin (w := (i_or (S0_.2.2.1 23 (0 + bb_) (sm_mn a1_ a2_).toNat) 2)) rfl rfl ?_ -- pc_ 53
      have bx7_ := i_orp (x_ := (S0_.2.2.1 23 (0 + bb_) (sm_mn a1_ a2_).toNat)) (y_ := 2) (k_ := 3) (by decide) (by omega) (by omega)
      refine sm_T_iast (n := 4712) rfl rfl (by omega) (by omega) ?_
      have hIx8_ : gi (sm_aI S0_ 23 (0 + bb_) (sm_mn a1_ a2_).toNat (i_or (S0_.2.2.1 23 (0 + bb_) (sm_mn a1_ a2_).toNat) 2)) := gi_aI hI_ (show 0 ≤ (i_or (S0_.2.2.1 23 (0 + bb_) (sm_mn a1_ a2_).toNat) 2) ∧ (i_or (S0_.2.2.1 23 (0 + bb_) (sm_mn a1_ a2_).toNat) 2) ≤ 7 from ⟨by omega, by omega⟩)
      have hFx9_ : ai_fr (sx_W vw_167) S0_ (sm_aI S0_ 23 (0 + bb_) (sm_mn a1_ a2_).toNat (i_or (S0_.2.2.1 23 (0 + bb_) (sm_mn a1_ a2_).toNat) 2)) := ai_fr_tr hF_ (ai_fr_aI rfl)
      have hCx10_ : cdf bb_ S0_ (sm_aI S0_ 23 (0 + bb_) (sm_mn a1_ a2_).toNat (i_or (S0_.2.2.1 23 (0 + bb_) (sm_mn a1_ a2_).toNat) 2)) := cdf_aI hC_ (Or.inr (by rw [show cof 23 = 0 from rfl] <;> omega))
      refine sm_T_rv rfl ⟨_, _, rfl, rfl, hIx8_, hFx9_, ?_⟩
      refine ⟨hCx10_, ?_⟩
      exact ⟨_, fun j_ => rd_eq⟩
    · have cx5_ : ¬ ((sm_mx a1_ a2_) - (sm_mn a1_ a2_) ≠ 1) := of_decide_eq_false cx5_
      refine sm_T_go 4 (c1 := (42, [some (.inr (.inr (some (8, 0)))), some (.inl a1_), some (.inl a2_), some (.inl (sm_mn a1_ a2_)), some (.inl ((sm_mx a1_ a2_) - (sm_mn a1_ a2_))), some (.inl 1)], [.inr (.inr (some (8, 0)))], S0_)) rfl ?_
      refine sm_T_gr rfl rfl ((hF_.2.1 8 0 0 rfl).trans hb_) ?_
      refine sm_T_go 3 (c1 := (50, [some (.inr (.inr (some (8, 0)))), some (.inl a1_), some (.inl a2_), some (.inl (sm_mn a1_ a2_)), some (.inl ((sm_mx a1_ a2_) - (sm_mn a1_ a2_))), some (.inl 1)], [.inl (sm_mn a1_ a2_), .inr (.inr (some (23, (0 + bb_)))), .inl (sm_mn a1_ a2_), .inr (.inr (some (23, (0 + bb_))))], S0_)) rfl ?_
      refine sm_T_iald (n := 4712) rfl rfl (by omega) (by omega) ?_
      have bx11_ : 0 ≤ S0_.2.2.1 23 (0 + bb_) (sm_mn a1_ a2_).toNat ∧ S0_.2.2.1 23 (0 + bb_) (sm_mn a1_ a2_).toNat ≤ 7 := hI_.2 23 (0 + bb_) _
      refine sm_T_go 1 (c1 := (53, [some (.inr (.inr (some (8, 0)))), some (.inl a1_), some (.inl a2_), some (.inl (sm_mn a1_ a2_)), some (.inl ((sm_mx a1_ a2_) - (sm_mn a1_ a2_))), some (.inl 1)], [.inl 1, .inl (S0_.2.2.1 23 (0 + bb_) (sm_mn a1_ a2_).toNat), .inl (sm_mn a1_ a2_), .inr (.inr (some (23, (0 + bb_))))], S0_)) rfl ?_
      refine sm_T_bin (w := (i_or (S0_.2.2.1 23 (0 + bb_) (sm_mn a1_ a2_).toNat) 1)) rfl rfl ?_ -- pc_ 53
      have bx12_ := i_orp (x_ := (S0_.2.2.1 23 (0 + bb_) (sm_mn a1_ a2_).toNat)) (y_ := 1) (k_ := 3) (by decide) (by omega) (by omega)
      refine sm_T_iast (n := 4712) rfl rfl (by omega) (by omega) ?_
      have hIx13_ : gi (sm_aI S0_ 23 (0 + bb_) (sm_mn a1_ a2_).toNat (i_or (S0_.2.2.1 23 (0 + bb_) (sm_mn a1_ a2_).toNat) 1)) := gi_aI hI_ (show 0 ≤ (i_or (S0_.2.2.1 23 (0 + bb_) (sm_mn a1_ a2_).toNat) 1) ∧ (i_or (S0_.2.2.1 23 (0 + bb_) (sm_mn a1_ a2_).toNat) 1) ≤ 7 from ⟨by omega, by omega⟩)
      have hFx14_ : ai_fr (sx_W vw_167) S0_ (sm_aI S0_ 23 (0 + bb_) (sm_mn a1_ a2_).toNat (i_or (S0_.2.2.1 23 (0 + bb_) (sm_mn a1_ a2_).toNat) 1)) := ai_fr_tr hF_ (ai_fr_aI rfl)
      have hCx15_ : cdf bb_ S0_ (sm_aI S0_ 23 (0 + bb_) (sm_mn a1_ a2_).toNat (i_or (S0_.2.2.1 23 (0 + bb_) (sm_mn a1_ a2_).toNat) 1)) := cdf_aI hC_ (Or.inr (by rw [show cof 23 = 0 from rfl] <;> omega))
      refine sm_T_rv rfl ⟨_, _, rfl, rfl, hIx13_, hFx14_, ?_⟩
      refine ⟨hCx15_, ?_⟩
      exact ⟨_, fun j_ => rd_eq⟩
  · have cx4_ : ¬ ((sm_mx a1_ a2_) - (sm_mn a1_ a2_) ≠ (S0_.1 8 0 2)) := of_decide_eq_false cx4_
    refine sm_T_go 4 (c1 := (42, [some (.inr (.inr (some (8, 0)))), some (.inl a1_), some (.inl a2_), some (.inl (sm_mn a1_ a2_)), some (.inl ((sm_mx a1_ a2_) - (sm_mn a1_ a2_))), some (.inl 4)], [.inr (.inr (some (8, 0)))], S0_)) rfl ?_
    refine sm_T_gr rfl rfl ((hF_.2.1 8 0 0 rfl).trans hb_) ?_
    refine sm_T_go 3 (c1 := (50, [some (.inr (.inr (some (8, 0)))), some (.inl a1_), some (.inl a2_), some (.inl (sm_mn a1_ a2_)), some (.inl ((sm_mx a1_ a2_) - (sm_mn a1_ a2_))), some (.inl 4)], [.inl (sm_mn a1_ a2_), .inr (.inr (some (23, (0 + bb_)))), .inl (sm_mn a1_ a2_), .inr (.inr (some (23, (0 + bb_))))], S0_)) rfl ?_
    refine sm_T_iald (n := 4712) rfl rfl (by omega) (by omega) ?_
    have bx16_ : 0 ≤ S0_.2.2.1 23 (0 + bb_) (sm_mn a1_ a2_).toNat ∧ S0_.2.2.1 23 (0 + bb_) (sm_mn a1_ a2_).toNat ≤ 7 := hI_.2 23 (0 + bb_) _
    refine sm_T_go 1 (c1 := (53, [some (.inr (.inr (some (8, 0)))), some (.inl a1_), some (.inl a2_), some (.inl (sm_mn a1_ a2_)), some (.inl ((sm_mx a1_ a2_) - (sm_mn a1_ a2_))), some (.inl 4)], [.inl 4, .inl (S0_.2.2.1 23 (0 + bb_) (sm_mn a1_ a2_).toNat), .inl (sm_mn a1_ a2_), .inr (.inr (some (23, (0 + bb_))))], S0_)) rfl ?_
    refine sm_T_bin (w := (i_or (S0_.2.2.1 23 (0 + bb_) (sm_mn a1_ a2_).toNat) 4)) rfl rfl ?_ -- pc_ 53
    have bx17_ := i_orp (x_ := (S0_.2.2.1 23 (0 + bb_) (sm_mn a1_ a2_).toNat)) (y_ := 4) (k_ := 3) (by decide) (by omega) (by omega)
    refine sm_T_iast (n := 4712) rfl rfl (by omega) (by omega) ?_
    have hIx18_ : gi (sm_aI S0_ 23 (0 + bb_) (sm_mn a1_ a2_).toNat (i_or (S0_.2.2.1 23 (0 + bb_) (sm_mn a1_ a2_).toNat) 4)) := gi_aI hI_ (show 0 ≤ (i_or (S0_.2.2.1 23 (0 + bb_) (sm_mn a1_ a2_).toNat) 4) ∧ (i_or (S0_.2.2.1 23 (0 + bb_) (sm_mn a1_ a2_).toNat) 4) ≤ 7 from ⟨by omega, by omega⟩)
    have hFx19_ : ai_fr (sx_W vw_167) S0_ (sm_aI S0_ 23 (0 + bb_) (sm_mn a1_ a2_).toNat (i_or (S0_.2.2.1 23 (0 + bb_) (sm_mn a1_ a2_).toNat) 4)) := ai_fr_tr hF_ (ai_fr_aI rfl)
    have hCx20_ : cdf bb_ S0_ (sm_aI S0_ 23 (0 + bb_) (sm_mn a1_ a2_).toNat (i_or (S0_.2.2.1 23 (0 + bb_) (sm_mn a1_ a2_).toNat) 4)) := cdf_aI hC_ (Or.inr (by rw [show cof 23 = 0 from rfl] <;> omega))
    refine sm_T_rv rfl ⟨_, _, rfl, rfl, hIx18_, hFx19_, ?_⟩
    refine ⟨hCx20_, ?_⟩
    exact ⟨_, fun j_ => rd_eq⟩
end
/-! 99.zkec -/
section
/-! Router.nearestPin -/
def vw_158 : sx_Wl := ([], [], [])
def vq_158 (a1_ : Int) (a2_ : Int) (bb_ : Nat) (S0_ : sm_S) (u_ : Option sm_V) (S1_ : sm_S) : Prop := S0_ = S1_ ∧ ∃ v_ : Int, u_ = some (.inl v_) ∧ ((v_ = -1 ∧ ∀ j_ : Nat, (j_ : Int) < S0_.2.2.1 20 (0 + bb_) a1_.toNat → (S0_.2.2.1 22 (0 + bb_) (ppk bb_ S0_ a1_.toNat j_).toNat = a1_ ∨ (a2_ ≠ -1 ∧ S0_.2.2.1 86 0 (ppk bb_ S0_ a1_.toNat j_).toNat ≠ a2_))) ∨ ((0 ≤ v_ ∧ v_ < S0_.1 8 0 2) ∧ S0_.2.2.1 22 (0 + bb_) (v_).toNat ≠ a1_ ∧ (a2_ = -1 ∨ S0_.2.2.1 86 0 (v_).toNat = a2_)))
set_option maxHeartbeats 2000000 in
theorem vl_158 {sc_ : Nat × (Nat → Int)} (a1_ : Int) (a2_ : Int) (bb_ : Nat) (S0_ : sm_S) (hb_ : S0_.2.1 8 0 0 = some bb_) (h1_ : 0 ≤ a1_ ∧ a1_ ≤ 161) (hn_ : bpn bb_ S0_) (hp_ : rpt bb_ S0_) : ∀ nn_ : Nat, (∀ (ls_ : Int) (k_ : Int) (S_ : sm_S), gi S_ → ai_fr (sx_W vw_158) S0_ S_ → ((0 ≤ k_ ∧ k_ ≤ 652 ∧ -1 ≤ ls_ ∧ ls_ ≤ 4711) ∧ (ls_ = -1 ∨ ((0 ≤ ls_ ∧ ls_ < S0_.1 8 0 2) ∧ S0_.2.2.1 22 (0 + bb_) (ls_).toNat ≠ a1_ ∧ (a2_ = -1 ∨ S0_.2.2.1 86 0 (ls_).toNat = a2_))) ∧ (ls_ = -1 → ∀ j_ : Nat, (j_ : Int) < k_ → (S0_.2.2.1 22 (0 + bb_) (ppk bb_ S0_ a1_.toNat j_).toNat = a1_ ∨ (a2_ ≠ -1 ∧ S0_.2.2.1 86 0 (ppk bb_ S0_ a1_.toNat j_).toNat ≠ a2_))) ∧ (S_ = S0_) ∧ True) → ((1000 - k_).toNat) < nn_ → sm_T (mt_P sc_) 2 158 (5, [some (.inr (.inr (some (8, 0)))), some (.inl a1_), some (.inl a2_), some (.inl ls_), some (.inl k_), none, none], [], S_) (fun ro9_ => ∃ u_ S1_, ro9_ = (.inl u_, S1_, 0) ∧ vq_158 a1_ a2_ bb_ S0_ u_ S1_)) := by
  intro nn_
  induction nn_ with
  | zero => exact fun _ _ _ _ _ _ h_ => absurd h_ (Nat.not_lt_zero _)
  | succ nn_ ih_ =>
    rintro ls_ k_ S_ hI_ hF_ ⟨h0_, hv_, hw_, hS_, -⟩ hm_
    refine sm_T_go 2 (c1 := (8, [some (.inr (.inr (some (8, 0)))), some (.inl a1_), some (.inl a2_), some (.inl ls_), some (.inl k_), none, none], [.inr (.inr (some (8, 0))), .inl k_], S_)) rfl ?_
    refine sm_T_gr rfl rfl ((hF_.2.1 8 0 0 rfl).trans hb_) ?_
    refine sm_T_go 2 (c1 := (15, [some (.inr (.inr (some (8, 0)))), some (.inl a1_), some (.inl a2_), some (.inl ls_), some (.inl k_), none, none], [.inl a1_, .inr (.inr (some (20, (0 + bb_)))), .inl k_], S_)) rfl ?_
    refine sm_T_iald (n := 162) rfl rfl (by omega) (by omega) ?_
    have bx1_ : 0 ≤ S_.2.2.1 20 (0 + bb_) a1_.toNat ∧ S_.2.2.1 20 (0 + bb_) a1_.toNat ≤ 652 := hI_.2 20 (0 + bb_) _
    refine sm_T_br (a := 3) (z := 84) rfl (fun cx2_ => ?_) (fun cx2_ => ?_)
    · have cx2_ : (S_.2.2.1 20 (0 + bb_) a1_.toNat) ≤ k_ := of_decide_eq_true cx2_
      refine sm_T_go 1 (c1 := (101, [some (.inr (.inr (some (8, 0)))), some (.inl a1_), some (.inl a2_), some (.inl ls_), some (.inl k_), none, none], [.inl ls_], S_)) rfl ?_
      refine sm_T_ri rfl ⟨_, _, rfl, (by first | rfl | exact hS_.symm), _, rfl, ?_⟩
      rcases hv_ with u9_ | u9_
      · left
        refine ⟨u9_, fun j_ hj_ => hw_ u9_ j_ ?_⟩
        rw [hS_] at *
        omega
      · right; exact u9_
    · have cx2_ : ¬ ((S_.2.2.1 20 (0 + bb_) a1_.toNat) ≤ k_) := of_decide_eq_false cx2_
      refine sm_T_go 1 (c1 := (20, [some (.inr (.inr (some (8, 0)))), some (.inl a1_), some (.inl a2_), some (.inl ls_), some (.inl k_), none, none], [.inr (.inr (some (8, 0)))], S_)) rfl ?_
      refine sm_T_gr rfl rfl ((hF_.2.1 8 0 0 rfl).trans hb_) ?_
      refine sm_T_go 1 (c1 := (24, [some (.inr (.inr (some (8, 0)))), some (.inl a1_), some (.inl a2_), some (.inl ls_), some (.inl k_), none, none], [.inr (.inr (some (8, 0))), .inr (.inr (some (0, bb_)))], S_)) rfl ?_
      refine sm_T_gr rfl rfl ((hF_.2.1 8 0 0 rfl).trans hb_) ?_
      refine sm_T_go 2 (c1 := (30, [some (.inr (.inr (some (8, 0)))), some (.inl a1_), some (.inl a2_), some (.inl ls_), some (.inl k_), none, none], [.inl k_, .inl a1_, .inr (.inr (some (0, bb_))), .inr (.inr (some (0, bb_)))], S_)) rfl ?_
      refine sm_T_cal (d1 := 0) (Q1 := vq_14 a1_ k_ bb_ S_) rfl rfl (by decide) (vc_14 a1_ k_ bb_ S_ hI_ (by omega) (by omega) (by (rw [hS_]; exact hn_))) (fun u_ Sx3_ px6_ => ?_)
      obtain ⟨rfl, vx8_, rfl, px6_⟩ := px6_
      have p9_ := px6_
      rw [hS_] at p9_
      refine sm_T_cal (d1 := 1) (Q1 := vq_19 vx8_ bb_ S_) rfl rfl (by decide) (vc_19 vx8_ bb_ S_ hI_ (by omega)) (fun u_ Sx9_ px12_ => ?_)
      obtain ⟨rfl, vx14_, rfl, px12_⟩ := px12_
      have q9_ := px12_
      have q8_ := q9_.2
      rw [hS_, p9_.2.1] at q8_
      have q7_ : vx14_ = ppk bb_ S0_ a1_.toNat k_.toNat := q8_
      have g9_ := hp_ a1_.toNat (by omega) k_.toNat (by rw [← hS_]; omega)
      rw [← q7_] at g9_
      refine sm_T_go 2 (c1 := (39, [some (.inr (.inr (some (8, 0)))), some (.inl a1_), some (.inl a2_), some (.inl ls_), some (.inl k_), some (.inl vx14_), none], [.inr (.inr (some (8, 0)))], S_)) rfl ?_
      refine sm_T_gr rfl rfl ((hF_.2.1 8 0 0 rfl).trans hb_) ?_
      refine sm_T_go 2 (c1 := (47, [some (.inr (.inr (some (8, 0)))), some (.inl a1_), some (.inl a2_), some (.inl ls_), some (.inl k_), some (.inl vx14_), none], [.inl vx14_, .inr (.inr (some (22, (0 + bb_))))], S_)) rfl ?_
      refine sm_T_iald (n := 4712) rfl rfl (by omega) (by omega) ?_
      have bx15_ : (-1) ≤ S_.2.2.1 22 (0 + bb_) vx14_.toNat ∧ S_.2.2.1 22 (0 + bb_) vx14_.toNat ≤ 161 := hI_.2 22 (0 + bb_) _
      refine sm_T_go 1 (c1 := (49, [some (.inr (.inr (some (8, 0)))), some (.inl a1_), some (.inl a2_), some (.inl ls_), some (.inl k_), some (.inl vx14_), none], [.inl a1_, .inl (S_.2.2.1 22 (0 + bb_) vx14_.toNat)], S_)) rfl ?_
      refine sm_T_br (a := 0) (z := 23) rfl (fun cx16_ => ?_) (fun cx16_ => ?_)
      · have cx16_ : (S_.2.2.1 22 (0 + bb_) vx14_.toNat) = a1_ := of_decide_eq_true cx16_
        refine sm_T_go 4 (c1 := (94, [some (.inr (.inr (some (8, 0)))), some (.inl a1_), some (.inl a2_), some (.inl ls_), some (.inl k_), some (.inl vx14_), some (.inl 0)], [], S_)) rfl ?_
        refine sm_T_inc (a := 4) (z := 1) (v := k_) (w := k_ + 1) rfl rfl (by omega) (by omega) (by omega) ?_ -- pc_ 94
        refine sm_T_go 1 (c1 := (5, [some (.inr (.inr (some (8, 0)))), some (.inl a1_), some (.inl a2_), some (.inl ls_), some (.inl (k_ + 1)), some (.inl vx14_), some (.inl 0)], [], S_)) rfl ?_
        refine sm_T_wk [some (.inr (.inr (some (8, 0)))), some (.inl a1_), some (.inl a2_), some (.inl ls_), some (.inl (k_ + 1)), none, none] (by exact ⟨rfl, rfl, rfl, rfl, rfl, trivial⟩) ?_
        refine ih_ ls_ (k_ + 1) S_ hI_ hF_ ⟨?_, ?_, ?_, ?_, trivial⟩ ?_
        · omega
        · rw [hS_] at *
          first | exact hv_ | (right; exact ⟨by omega, by omega, by omega⟩) | (rcases hv_ with u9_ | u9_; (exfalso; omega); (right; exact u9_))
        · rw [hS_] at *
          intro u9_ j_ hj_
          by_cases y9_ : (j_ : Int) = k_
          · rw [show j_ = k_.toNat by omega, ← q7_]; omega
          · first | exact hw_ u9_ j_ (by omega) | (exfalso; omega)
        · first | rfl | exact hS_
        · omega
      · have cx16_ : ¬ ((S_.2.2.1 22 (0 + bb_) vx14_.toNat) = a1_) := of_decide_eq_false cx16_
        refine sm_T_go 2 (c1 := (54, [some (.inr (.inr (some (8, 0)))), some (.inl a1_), some (.inl a2_), some (.inl ls_), some (.inl k_), some (.inl vx14_), none], [.inl (-1), .inl a2_], S_)) rfl ?_
        refine sm_T_br (a := 0) (z := 14) rfl (fun cx17_ => ?_) (fun cx17_ => ?_)
        · have cx17_ : a2_ = (-1) := of_decide_eq_true cx17_
          refine sm_T_go 7 (c1 := (82, [some (.inr (.inr (some (8, 0)))), some (.inl a1_), some (.inl a2_), some (.inl ls_), some (.inl k_), some (.inl vx14_), some (.inl 1)], [.inl (-1), .inl ls_], S_)) rfl ?_
          refine sm_T_br (a := 0) (z := 9) rfl (fun cx18_ => ?_) (fun cx18_ => ?_)
          · have cx18_ : ls_ = (-1) := of_decide_eq_true cx18_
            refine sm_T_go 2 (c1 := (94, [some (.inr (.inr (some (8, 0)))), some (.inl a1_), some (.inl a2_), some (.inl vx14_), some (.inl k_), some (.inl vx14_), some (.inl 1)], [], S_)) rfl ?_
            refine sm_T_inc (a := 4) (z := 1) (v := k_) (w := k_ + 1) rfl rfl (by omega) (by omega) (by omega) ?_ -- pc_ 94
            refine sm_T_go 1 (c1 := (5, [some (.inr (.inr (some (8, 0)))), some (.inl a1_), some (.inl a2_), some (.inl vx14_), some (.inl (k_ + 1)), some (.inl vx14_), some (.inl 1)], [], S_)) rfl ?_
            refine sm_T_wk [some (.inr (.inr (some (8, 0)))), some (.inl a1_), some (.inl a2_), some (.inl vx14_), some (.inl (k_ + 1)), none, none] (by exact ⟨rfl, rfl, rfl, rfl, rfl, trivial⟩) ?_
            refine ih_ vx14_ (k_ + 1) S_ hI_ hF_ ⟨?_, ?_, ?_, ?_, trivial⟩ ?_
            · omega
            · rw [hS_] at *
              first | exact hv_ | (right; exact ⟨by omega, by omega, by omega⟩) | (rcases hv_ with u9_ | u9_; (exfalso; omega); (right; exact u9_))
            · rw [hS_] at *
              intro u9_ j_ hj_
              by_cases y9_ : (j_ : Int) = k_
              · rw [show j_ = k_.toNat by omega, ← q7_]; omega
              · first | exact hw_ u9_ j_ (by omega) | (exfalso; omega)
            · first | rfl | exact hS_
            · omega
          · have cx18_ : ¬ (ls_ = (-1)) := of_decide_eq_false cx18_
            refine sm_T_go 2 (c1 := (88, [some (.inr (.inr (some (8, 0)))), some (.inl a1_), some (.inl a2_), some (.inl ls_), some (.inl k_), some (.inl vx14_), some (.inl 1)], [.inl ls_, .inl vx14_], S_)) rfl ?_
            refine sm_T_br (a := 3) (z := 6) rfl (fun cx19_ => ?_) (fun cx19_ => ?_)
            · have cx19_ : ls_ ≤ vx14_ := of_decide_eq_true cx19_
              refine sm_T_inc (a := 4) (z := 1) (v := k_) (w := k_ + 1) rfl rfl (by omega) (by omega) (by omega) ?_ -- pc_ 94
              refine sm_T_go 1 (c1 := (5, [some (.inr (.inr (some (8, 0)))), some (.inl a1_), some (.inl a2_), some (.inl ls_), some (.inl (k_ + 1)), some (.inl vx14_), some (.inl 1)], [], S_)) rfl ?_
              refine sm_T_wk [some (.inr (.inr (some (8, 0)))), some (.inl a1_), some (.inl a2_), some (.inl ls_), some (.inl (k_ + 1)), none, none] (by exact ⟨rfl, rfl, rfl, rfl, rfl, trivial⟩) ?_
              refine ih_ ls_ (k_ + 1) S_ hI_ hF_ ⟨?_, ?_, ?_, ?_, trivial⟩ ?_
              · omega
              · rw [hS_] at *
                first | exact hv_ | (right; exact ⟨by omega, by omega, by omega⟩) | (rcases hv_ with u9_ | u9_; (exfalso; omega); (right; exact u9_))
              · rw [hS_] at *
                intro u9_ j_ hj_
                by_cases y9_ : (j_ : Int) = k_
                · rw [show j_ = k_.toNat by omega, ← q7_]; omega
                · first | exact hw_ u9_ j_ (by omega) | (exfalso; omega)
              · first | rfl | exact hS_
              · omega
            · have cx19_ : ¬ (ls_ ≤ vx14_) := of_decide_eq_false cx19_
              refine sm_T_go 2 (c1 := (94, [some (.inr (.inr (some (8, 0)))), some (.inl a1_), some (.inl a2_), some (.inl vx14_), some (.inl k_), some (.inl vx14_), some (.inl 1)], [], S_)) rfl ?_
              refine sm_T_inc (a := 4) (z := 1) (v := k_) (w := k_ + 1) rfl rfl (by omega) (by omega) (by omega) ?_ -- pc_ 94
              refine sm_T_go 1 (c1 := (5, [some (.inr (.inr (some (8, 0)))), some (.inl a1_), some (.inl a2_), some (.inl vx14_), some (.inl (k_ + 1)), some (.inl vx14_), some (.inl 1)], [], S_)) rfl ?_
              refine sm_T_wk [some (.inr (.inr (some (8, 0)))), some (.inl a1_), some (.inl a2_), some (.inl vx14_), some (.inl (k_ + 1)), none, none] (by exact ⟨rfl, rfl, rfl, rfl, rfl, trivial⟩) ?_
              refine ih_ vx14_ (k_ + 1) S_ hI_ hF_ ⟨?_, ?_, ?_, ?_, trivial⟩ ?_
              · omega
              · rw [hS_] at *
                first | exact hv_ | (right; exact ⟨by omega, by omega, by omega⟩) | (rcases hv_ with u9_ | u9_; (exfalso; omega); (right; exact u9_))
              · rw [hS_] at *
                intro u9_ j_ hj_
                by_cases y9_ : (j_ : Int) = k_
                · rw [show j_ = k_.toNat by omega, ← q7_]; omega
                · first | exact hw_ u9_ j_ (by omega) | (exfalso; omega)
              · first | rfl | exact hS_
              · omega
        · have cx17_ : ¬ (a2_ = (-1)) := of_decide_eq_false cx17_
          refine sm_T_go 3 (c1 := (63, [some (.inr (.inr (some (8, 0)))), some (.inl a1_), some (.inl a2_), some (.inl ls_), some (.inl k_), some (.inl vx14_), none], [.inl vx14_, .inr (.inr (some (86, 0)))], S_)) rfl ?_
          refine sm_T_iald (n := 4712) rfl rfl (by omega) (by omega) ?_
          have bx20_ : (-1) ≤ S_.2.2.1 86 0 vx14_.toNat ∧ S_.2.2.1 86 0 vx14_.toNat ≤ 100000 := hI_.2 86 0 _
          refine sm_T_go 1 (c1 := (65, [some (.inr (.inr (some (8, 0)))), some (.inl a1_), some (.inl a2_), some (.inl ls_), some (.inl k_), some (.inl vx14_), none], [.inl a2_, .inl (S_.2.2.1 86 0 vx14_.toNat)], S_)) rfl ?_
          refine sm_T_br (a := 1) (z := 7) rfl (fun cx21_ => ?_) (fun cx21_ => ?_)
          · have cx21_ : (S_.2.2.1 86 0 vx14_.toNat) ≠ a2_ := of_decide_eq_true cx21_
            refine sm_T_go 4 (c1 := (94, [some (.inr (.inr (some (8, 0)))), some (.inl a1_), some (.inl a2_), some (.inl ls_), some (.inl k_), some (.inl vx14_), some (.inl 0)], [], S_)) rfl ?_
            refine sm_T_inc (a := 4) (z := 1) (v := k_) (w := k_ + 1) rfl rfl (by omega) (by omega) (by omega) ?_ -- pc_ 94
            refine sm_T_go 1 (c1 := (5, [some (.inr (.inr (some (8, 0)))), some (.inl a1_), some (.inl a2_), some (.inl ls_), some (.inl (k_ + 1)), some (.inl vx14_), some (.inl 0)], [], S_)) rfl ?_
            refine sm_T_wk [some (.inr (.inr (some (8, 0)))), some (.inl a1_), some (.inl a2_), some (.inl ls_), some (.inl (k_ + 1)), none, none] (by exact ⟨rfl, rfl, rfl, rfl, rfl, trivial⟩) ?_
            refine ih_ ls_ (k_ + 1) S_ hI_ hF_ ⟨?_, ?_, ?_, ?_, trivial⟩ ?_
            · omega
            · rw [hS_] at *
              first | exact hv_ | (right; exact ⟨by omega, by omega, by omega⟩) | (rcases hv_ with u9_ | u9_; (exfalso; omega); (right; exact u9_))
            · rw [hS_] at *
              intro u9_ j_ hj_
              by_cases y9_ : (j_ : Int) = k_
              · rw [show j_ = k_.toNat by omega, ← q7_]; omega
              · first | exact hw_ u9_ j_ (by omega) | (exfalso; omega)
            · first | rfl | exact hS_
            · omega
          · have cx21_ : ¬ ((S_.2.2.1 86 0 vx14_.toNat) ≠ a2_) := of_decide_eq_false cx21_
            refine sm_T_go 7 (c1 := (82, [some (.inr (.inr (some (8, 0)))), some (.inl a1_), some (.inl a2_), some (.inl ls_), some (.inl k_), some (.inl vx14_), some (.inl 1)], [.inl (-1), .inl ls_], S_)) rfl ?_
            refine sm_T_br (a := 0) (z := 9) rfl (fun cx22_ => ?_) (fun cx22_ => ?_)
            · have cx22_ : ls_ = (-1) := of_decide_eq_true cx22_
              refine sm_T_go 2 (c1 := (94, [some (.inr (.inr (some (8, 0)))), some (.inl a1_), some (.inl a2_), some (.inl vx14_), some (.inl k_), some (.inl vx14_), some (.inl 1)], [], S_)) rfl ?_
              refine sm_T_inc (a := 4) (z := 1) (v := k_) (w := k_ + 1) rfl rfl (by omega) (by omega) (by omega) ?_ -- pc_ 94
              refine sm_T_go 1 (c1 := (5, [some (.inr (.inr (some (8, 0)))), some (.inl a1_), some (.inl a2_), some (.inl vx14_), some (.inl (k_ + 1)), some (.inl vx14_), some (.inl 1)], [], S_)) rfl ?_
              refine sm_T_wk [some (.inr (.inr (some (8, 0)))), some (.inl a1_), some (.inl a2_), some (.inl vx14_), some (.inl (k_ + 1)), none, none] (by exact ⟨rfl, rfl, rfl, rfl, rfl, trivial⟩) ?_
              refine ih_ vx14_ (k_ + 1) S_ hI_ hF_ ⟨?_, ?_, ?_, ?_, trivial⟩ ?_
              · omega
              · rw [hS_] at *
                first | exact hv_ | (right; exact ⟨by omega, by omega, by omega⟩) | (rcases hv_ with u9_ | u9_; (exfalso; omega); (right; exact u9_))
              · rw [hS_] at *
                intro u9_ j_ hj_
                by_cases y9_ : (j_ : Int) = k_
                · rw [show j_ = k_.toNat by omega, ← q7_]; omega
                · first | exact hw_ u9_ j_ (by omega) | (exfalso; omega)
              · first | rfl | exact hS_
              · omega
            · have cx22_ : ¬ (ls_ = (-1)) := of_decide_eq_false cx22_
              refine sm_T_go 2 (c1 := (88, [some (.inr (.inr (some (8, 0)))), some (.inl a1_), some (.inl a2_), some (.inl ls_), some (.inl k_), some (.inl vx14_), some (.inl 1)], [.inl ls_, .inl vx14_], S_)) rfl ?_
              refine sm_T_br (a := 3) (z := 6) rfl (fun cx23_ => ?_) (fun cx23_ => ?_)
              · have cx23_ : ls_ ≤ vx14_ := of_decide_eq_true cx23_
                refine sm_T_inc (a := 4) (z := 1) (v := k_) (w := k_ + 1) rfl rfl (by omega) (by omega) (by omega) ?_ -- pc_ 94
                refine sm_T_go 1 (c1 := (5, [some (.inr (.inr (some (8, 0)))), some (.inl a1_), some (.inl a2_), some (.inl ls_), some (.inl (k_ + 1)), some (.inl vx14_), some (.inl 1)], [], S_)) rfl ?_
                refine sm_T_wk [some (.inr (.inr (some (8, 0)))), some (.inl a1_), some (.inl a2_), some (.inl ls_), some (.inl (k_ + 1)), none, none] (by exact ⟨rfl, rfl, rfl, rfl, rfl, trivial⟩) ?_
                refine ih_ ls_ (k_ + 1) S_ hI_ hF_ ⟨?_, ?_, ?_, ?_, trivial⟩ ?_
                · omega
                · rw [hS_] at *
                  first | exact hv_ | (right; exact ⟨by omega, by omega, by omega⟩) | (rcases hv_ with u9_ | u9_; (exfalso; omega); (right; exact u9_))
                · rw [hS_] at *
                  intro u9_ j_ hj_
                  by_cases y9_ : (j_ : Int) = k_
                  · rw [show j_ = k_.toNat by omega, ← q7_]; omega
                  · first | exact hw_ u9_ j_ (by omega) | (exfalso; omega)
                · first | rfl | exact hS_
                · omega
              · have cx23_ : ¬ (ls_ ≤ vx14_) := of_decide_eq_false cx23_
                refine sm_T_go 2 (c1 := (94, [some (.inr (.inr (some (8, 0)))), some (.inl a1_), some (.inl a2_), some (.inl vx14_), some (.inl k_), some (.inl vx14_), some (.inl 1)], [], S_)) rfl ?_
                refine sm_T_inc (a := 4) (z := 1) (v := k_) (w := k_ + 1) rfl rfl (by omega) (by omega) (by omega) ?_ -- pc_ 94
                refine sm_T_go 1 (c1 := (5, [some (.inr (.inr (some (8, 0)))), some (.inl a1_), some (.inl a2_), some (.inl vx14_), some (.inl (k_ + 1)), some (.inl vx14_), some (.inl 1)], [], S_)) rfl ?_
                refine sm_T_wk [some (.inr (.inr (some (8, 0)))), some (.inl a1_), some (.inl a2_), some (.inl vx14_), some (.inl (k_ + 1)), none, none] (by exact ⟨rfl, rfl, rfl, rfl, rfl, trivial⟩) ?_
                refine ih_ vx14_ (k_ + 1) S_ hI_ hF_ ⟨?_, ?_, ?_, ?_, trivial⟩ ?_
                · omega
                · rw [hS_] at *
                  first | exact hv_ | (right; exact ⟨by omega, by omega, by omega⟩) | (rcases hv_ with u9_ | u9_; (exfalso; omega); (right; exact u9_))
                · rw [hS_] at *
                  intro u9_ j_ hj_
                  by_cases y9_ : (j_ : Int) = k_
                  · rw [show j_ = k_.toNat by omega, ← q7_]; omega
                  · first | exact hw_ u9_ j_ (by omega) | (exfalso; omega)
                · first | rfl | exact hS_
                · omega
set_option maxHeartbeats 2000000 in
theorem vc_158 {sc_ : Nat × (Nat → Int)} (a1_ : Int) (a2_ : Int) (bb_ : Nat) (S0_ : sm_S) (hI_ : gi S0_) (hb_ : S0_.2.1 8 0 0 = some bb_) (h1_ : 0 ≤ a1_ ∧ a1_ ≤ 161) (hn_ : bpn bb_ S0_) (hp_ : rpt bb_ S0_) : sm_T (mt_P sc_) 2 158 (0, [some (.inr (.inr (some (8, 0)))), some (.inl a1_), some (.inl a2_), none, none, none, none], [], S0_) (fun ro9_ => ∃ u_ S1_, ro9_ = (.inl u_, S1_, 0) ∧ vq_158 a1_ a2_ bb_ S0_ u_ S1_) := by
  have hF_ : ai_fr (sx_W vw_158) S0_ S0_ := ai_fr_rf
  refine sm_T_go 4 (c1 := (5, [some (.inr (.inr (some (8, 0)))), some (.inl a1_), some (.inl a2_), some (.inl (-1)), some (.inl 0), none, none], [], S0_)) rfl ?_
  refine (vl_158 a1_ a2_ bb_ S0_ hb_ h1_ hn_ hp_ _) (-1) 0 S0_ hI_ hF_ ⟨?_, ?_, ?_, ?_, trivial⟩ (Nat.lt_succ_self _)
  · omega
  · (left; rfl)
  · (intro _ j_ hj_; exfalso; omega)
  · first | rfl | exact hS_
end
/-! 99.zkfa -/
section
/-! wires: distances; written by wip/p55/gen/vg -/

/-! a_ net's tree; its_ distances -/
def trt (bb_ : Nat) (t_ : Int) (S_ : sm_S) : Prop := S_.1 8 0 11 = (cne (S_.2.2.1 22 (0 + bb_)) t_ (2 * S_.1 8 0 2).toNat : Int) ∧ (∀ i_ : Nat, (i_ : Int) < S_.1 8 0 11 → (0 ≤ S_.2.2.1 90 0 i_ ∧ S_.2.2.1 90 0 i_ < 2 * S_.1 8 0 2) ∧ S_.2.2.1 22 (0 + bb_) (S_.2.2.1 90 0 i_).toNat = t_) ∧ ∀ p_ : Nat, (p_ : Int) < 2 * S_.1 8 0 2 → S_.2.2.1 22 (0 + bb_) p_ = t_ → ∃ i_ : Nat, (i_ : Int) < S_.1 8 0 11 ∧ S_.2.2.1 90 0 i_ = (p_ : Int)
theorem rpt_fr {w_ : sx_Wl} {bb_ : Nat} {S_ S'_ : sm_S} (h_ : rpt bb_ S_) (g_ : ai_fr (sx_W w_) S_ S'_) (h0_ : (sx_W w_).1 0 0 = false := by rfl) (h1_ : (sx_W w_).1 8 2 = false := by rfl) (a1_ : (sx_W w_).2.1 14 = false := by rfl) (a2_ : (sx_W w_).2.1 15 = false := by rfl) (a3_ : (sx_W w_).2.1 18 = false := by rfl) (a4_ : (sx_W w_).2.1 19 = false := by rfl) (a5_ : (sx_W w_).2.1 20 = false := by rfl) : rpt bb_ S'_ := by
  intro c_ hc_ k_ hk_
  have e_ : ppk bb_ S'_ c_ k_ = ppk bb_ S_ c_ k_ := by
    unfold ppk ppt ppx ppy
    rw [fr_arr g_ a1_, fr_arr g_ a2_, fr_arr g_ a3_, fr_arr g_ a4_, g_.1 0 bb_ 0 h0_]
  rw [fr_arr g_ a5_] at hk_
  rw [e_, g_.1 8 0 2 h1_]
  exact h_ c_ hc_ k_ hk_
theorem rsp_0 {bb_ : Nat} {t_ : Int} {S_ : sm_S} (L0_ : 0 ≤ S_.1 8 0 2) (hd_ : ∀ p_ : Nat, (p_ : Int) < 2 * S_.1 8 0 2 → S_.2.2.1 86 0 p_ = -1 ∨ S_.2.2.1 86 0 p_ = 0) (hz_ : ∀ p_ : Nat, (p_ : Int) < 2 * S_.1 8 0 2 → (S_.2.2.1 86 0 p_ = 0 ↔ S_.2.2.1 22 (0 + bb_) p_ = t_)) (hn_ : S_.1 8 0 6 = (cne (S_.2.2.1 22 (0 + bb_)) t_ (2 * S_.1 8 0 2).toNat : Int)) (hf_ : S_.1 8 0 8 = 0) (hc_ : ∀ i_ : Nat, (i_ : Int) < S_.1 8 0 6 → (0 ≤ S_.2.2.1 87 0 i_ ∧ S_.2.2.1 87 0 i_ < 2 * S_.1 8 0 2) ∧ S_.2.2.1 22 (0 + bb_) (S_.2.2.1 87 0 i_).toNat = t_) : rsp bb_ t_ S_ := by
  refine ⟨hz_, fun p_ hp_ h0_ => ?_, ?_, fun i_ hi_ => ?_, fun i_ hi_ => ?_, fun p_ hp_ => ?_⟩
  · rcases hd_ p_ hp_ with z_ | z_ <;> (exfalso; omega)
  · have u_ := cne_cp (f := S_.2.2.1 86 0) (g := S_.2.2.1 22 (0 + bb_)) (c := -1) (d := t_) (n := (2 * S_.1 8 0 2).toNat) (fun k_ hk_ => by
      rw [← hz_ k_ (by omega)]
      rcases hd_ k_ (by omega) with z_ | z_ <;> omega)
    omega
  · have a_ := hc_ i_ hi_
    refine ⟨a_.1, ?_⟩
    have b_ := (hz_ (S_.2.2.1 87 0 i_).toNat (by omega)).mpr a_.2
    omega
  · exfalso; omega
  · rcases hd_ p_ hp_ with z_ | z_ <;> omega
/-! java/util/Arrays.rangeCheck -/
def vw_6 : sx_Wl := ([], [], [])
def vq_6 (a0_ : Int) (a1_ : Int) (a2_ : Int) (S0_ : sm_S) (u_ : Option sm_V) (S1_ : sm_S) : Prop := u_ = none ∧ gi S1_ ∧ ai_fr (sx_W vw_6) S0_ S1_ ∧ (S1_ = S0_)
set_option maxHeartbeats 400000 in
theorem vc_6 {sc_ : Nat × (Nat → Int)} (a0_ : Int) (a1_ : Int) (a2_ : Int) (S0_ : sm_S) (hI_ : gi S0_) (h0_ : 0 ≤ a1_ ∧ a1_ ≤ a2_ ∧ a2_ ≤ a0_) : sm_T (mt_P sc_) 0 6 (0, [some (.inl a0_), some (.inl a1_), some (.inl a2_)], [], S0_) (fun ro9_ => ∃ u_ S1_, ro9_ = (.inl u_, S1_, 0) ∧ vq_6 a0_ a1_ a2_ S0_ u_ S1_) := by
  have hF_ : ai_fr (sx_W vw_6) S0_ S0_ := ai_fr_rf
  refine sm_T_go 2 (c1 := (2, [some (.inl a0_), some (.inl a1_), some (.inl a2_)], [.inl a2_, .inl a1_], S0_)) rfl ?_
  refine sm_T_br (a := 5) (z := 44) rfl (fun cx1_ => ?_) (fun cx1_ => ?_)
  · have cx1_ : a1_ ≤ a2_ := of_decide_eq_true cx1_
    refine sm_T_go 1 (c1 := (47, [some (.inl a0_), some (.inl a1_), some (.inl a2_)], [.inl a1_], S0_)) rfl ?_
    refine sm_T_b0 (a := 3) (z := 12) rfl (fun cx2_ => ?_) (fun cx2_ => ?_)
    · have cx2_ : 0 ≤ a1_ := of_decide_eq_true cx2_
      refine sm_T_go 2 (c1 := (61, [some (.inl a0_), some (.inl a1_), some (.inl a2_)], [.inl a0_, .inl a2_], S0_)) rfl ?_
      refine sm_T_br (a := 5) (z := 12) rfl (fun cx3_ => ?_) (fun cx3_ => ?_)
      · have cx3_ : a2_ ≤ a0_ := of_decide_eq_true cx3_
        refine sm_T_rv rfl ⟨_, _, rfl, rfl, hI_, hF_, ?_⟩
        rfl
      · have cx3_ : ¬ (a2_ ≤ a0_) := of_decide_eq_false cx3_
        exfalso; omega
    · have cx2_ : ¬ (0 ≤ a1_) := of_decide_eq_false cx2_
      exfalso; omega
  · have cx1_ : ¬ (a1_ ≤ a2_) := of_decide_eq_false cx1_
    exfalso; omega
end
/-! 99.zkfb -/
section
/-! java/util/Arrays.fill -/
def vw_3d6 : sx_Wl := ([], [86], [])
def vq_3d6 (fr_ : Int) (to_ : Int) (v0_ : Int) (S0_ : sm_S) (u_ : Option sm_V) (S1_ : sm_S) : Prop := u_ = none ∧ gi S1_ ∧ ai_fr (sx_W vw_3d6) S0_ S1_ ∧ (∀ j_ : Nat, fr_ ≤ (j_ : Int) → (j_ : Int) < to_ → S1_.2.2.1 86 0 j_ = v0_)
set_option maxHeartbeats 400000 in
theorem vl_3d6 {sc_ : Nat × (Nat → Int)} (fr_ : Int) (to_ : Int) (v0_ : Int) (S0_ : sm_S) (hv_ : (-1) ≤ v0_ ∧ v0_ ≤ 100000) (ht_ : 0 ≤ fr_ ∧ fr_ ≤ to_ ∧ to_ ≤ 4712) : ∀ nn_ : Nat, (∀ (k_ : Int) (S_ : sm_S), gi S_ → ai_fr (sx_W vw_3d6) S0_ S_ → ((fr_ ≤ k_ ∧ k_ ≤ to_) ∧ (∀ j_ : Nat, fr_ ≤ (j_ : Int) → (j_ : Int) < k_ → S_.2.2.1 86 0 j_ = v0_) ∧ True) → ((4717 - k_).toNat) < nn_ → sm_T (mt_P sc_) 1 3 (10, [some (.inr (.inr (some (86, 0)))), some (.inl fr_), some (.inl to_), some (.inl v0_), some (.inl k_)], [], S_) (fun ro9_ => ∃ u_ S1_, ro9_ = (.inl u_, S1_, 0) ∧ vq_3d6 fr_ to_ v0_ S0_ u_ S1_)) := by
  intro nn_
  induction nn_ with
  | zero => exact fun _ _ _ _ _ h_ => absurd h_ (Nat.not_lt_zero _)
  | succ nn_ ih_ =>
    rintro k_ S_ hI_ hF_ ⟨h0_, h1_, -⟩ hm_
    refine sm_T_go 2 (c1 := (13, [some (.inr (.inr (some (86, 0)))), some (.inl fr_), some (.inl to_), some (.inl v0_), some (.inl k_)], [.inl to_, .inl k_], S_)) rfl ?_
    refine sm_T_br (a := 3) (z := 14) rfl (fun cx1_ => ?_) (fun cx1_ => ?_)
    · have cx1_ : to_ ≤ k_ := of_decide_eq_true cx1_
      refine sm_T_rv rfl ⟨_, _, rfl, rfl, hI_, hF_, ?_⟩
      exact fun j_ u_ w_ => h1_ j_ u_ (by omega)
    · have cx1_ : ¬ (to_ ≤ k_) := of_decide_eq_false cx1_
      refine sm_T_go 3 (c1 := (20, [some (.inr (.inr (some (86, 0)))), some (.inl fr_), some (.inl to_), some (.inl v0_), some (.inl k_)], [.inl v0_, .inl k_, .inr (.inr (some (86, 0)))], S_)) rfl ?_
      refine sm_T_iast (n := 4712) rfl rfl (by omega) (by omega) ?_
      have hIx2_ : gi (sm_aI S_ 86 0 k_.toNat v0_) := gi_aI hI_ (show (-1) ≤ v0_ ∧ v0_ ≤ 100000 from ⟨by omega, by omega⟩)
      have hFx3_ : ai_fr (sx_W vw_3d6) S0_ (sm_aI S_ 86 0 k_.toNat v0_) := ai_fr_tr hF_ (ai_fr_aI rfl)
      refine sm_T_inc (a := 4) (z := 1) (v := k_) (w := k_ + 1) rfl rfl (by omega) (by omega) (by omega) ?_ -- pc_ 21
      refine sm_T_go 1 (c1 := (10, [some (.inr (.inr (some (86, 0)))), some (.inl fr_), some (.inl to_), some (.inl v0_), some (.inl (k_ + 1))], [], sm_aI S_ 86 0 k_.toNat v0_)) rfl ?_
      refine ih_ (k_ + 1) (sm_aI S_ 86 0 k_.toNat v0_) hIx2_ hFx3_ ⟨?_, ?_, trivial⟩ ?_
      · omega
      · intro j_ u_ w_
        rw [rd_eq]
        by_cases z_ : j_ = k_.toNat
        · rw [if_pos z_]
        · rw [if_neg z_]; exact h1_ j_ u_ (by omega)
      · omega
set_option maxHeartbeats 400000 in
theorem vc_3d6 {sc_ : Nat × (Nat → Int)} (fr_ : Int) (to_ : Int) (v0_ : Int) (S0_ : sm_S) (hI_ : gi S0_) (hv_ : (-1) ≤ v0_ ∧ v0_ ≤ 100000) (ht_ : 0 ≤ fr_ ∧ fr_ ≤ to_ ∧ to_ ≤ 4712) : sm_T (mt_P sc_) 1 3 (0, [some (.inr (.inr (some (86, 0)))), some (.inl fr_), some (.inl to_), some (.inl v0_), none], [], S0_) (fun ro9_ => ∃ u_ S1_, ro9_ = (.inl u_, S1_, 0) ∧ vq_3d6 fr_ to_ v0_ S0_ u_ S1_) := by
  have hF_ : ai_fr (sx_W vw_3d6) S0_ S0_ := ai_fr_rf
  refine sm_T_go 4 (c1 := (4, [some (.inr (.inr (some (86, 0)))), some (.inl fr_), some (.inl to_), some (.inl v0_), none], [.inl to_, .inl fr_, .inl 4712], S0_)) rfl ?_
  refine sm_T_cal (d1 := 0) (Q1 := vq_6 4712 fr_ to_ S0_) rfl rfl (by decide) (vc_6 4712 fr_ to_ S0_ hI_ (by omega)) (fun u_ Sx1_ px4_ => ?_)
  obtain ⟨rfl, hIx2_, hFx3_, px4_⟩ := px4_
  have hFx5_ : ai_fr (sx_W vw_3d6) S0_ Sx1_ := ai_fr_tr hF_ (fr_le hFx3_ rfl)
  refine sm_T_go 2 (c1 := (10, [some (.inr (.inr (some (86, 0)))), some (.inl fr_), some (.inl to_), some (.inl v0_), some (.inl fr_)], [], Sx1_)) rfl ?_
  refine (vl_3d6 fr_ to_ v0_ S0_ hv_ ht_ _) fr_ Sx1_ hIx2_ hFx5_ ⟨?_, ?_, trivial⟩ (Nat.lt_succ_self _)
  · omega
  · (intro j_ u_ w_; exfalso; omega)
end
