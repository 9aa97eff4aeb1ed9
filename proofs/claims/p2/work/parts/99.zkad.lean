/-! Board.exchangeIfLess -/
def vw_27 : sx_Wl := ([(0, 18)], [14, 15, 21, 25], [])
def vq_27 (a1_ : Int) (a2_ : Int) (ii_ : Nat) (cc_ : Nat) (S0_ : sm_S) (u_ : Option sm_V) (S1_ : sm_S) : Prop := ∃ v_ : Int, u_ = some (.inl v_) ∧ gi S1_ ∧ ai_fr (sx_W vw_27) S0_ S1_ ∧ (cdf ii_ S0_ S1_ ∧ ((0 ≤ v_ ∧ v_ ≤ 1) ∧ bpl ii_ cc_ S1_))
set_option maxHeartbeats 400000 in
theorem vl_27 {sc_ : Nat × (Nat → Int)} (a1_ : Int) (a2_ : Int) (ii_ : Nat) (cc_ : Nat) (S0_ : sm_S) (h1_ : 0 ≤ a1_ ∧ a1_ ≤ 155 ∧ a1_ < (S0_.1 2 cc_ 2 + S0_.1 2 cc_ 8)) (h2_ : 0 ≤ a2_ ∧ a2_ ≤ 155 ∧ a2_ < (S0_.1 2 cc_ 2 + S0_.1 2 cc_ 8)) (hz_ : S0_.2.2.1 16 (0 + ii_) a1_.toNat = S0_.2.2.1 16 (0 + ii_) a2_.toNat) (hb_ : bpn ii_ S0_) (hp_ : bpl ii_ cc_ S0_) : ∀ nn_ : Nat, (∀ (bf_ : Int) (k_ : Int) (S_ : sm_S), gi S_ → ai_fr (sx_W vw_27) S0_ S_ → ((0 ≤ k_ ∧ k_ ≤ 8 ∧ -9999 * k_ ≤ bf_ ∧ bf_ ≤ 20000 * k_) ∧ (S_.1 0 ii_ 18 ≤ 8 ∧ ∀ j_ : Nat, (j_ : Int) < S_.1 0 ii_ 18 → 0 ≤ S_.2.2.1 25 (0 + ii_) j_) ∧ (S_.2.2.1 14 (0 + ii_) = S0_.2.2.1 14 (0 + ii_) ∧ S_.2.2.1 15 (0 + ii_) = S0_.2.2.1 15 (0 + ii_)) ∧ (cdf ii_ S0_ S_) ∧ True) → ((3000 - k_).toNat) < nn_ → sm_T (mt_P sc_) 2 27 (20, [some (.inr (.inr (some (0, ii_)))), some (.inl a1_), some (.inl a2_), some (.inl bf_), some (.inl k_), none], [], S_) (fun ro9_ => ∃ u_ S1_, ro9_ = (.inl u_, S1_, 0) ∧ vq_27 a1_ a2_ ii_ cc_ S0_ u_ S1_)) ∧ (∀ (bf_ : Int) (af_ : Int) (k_ : Int) (S_ : sm_S), gi S_ → ai_fr (sx_W vw_27) S0_ S_ → ((0 ≤ k_ ∧ k_ ≤ 8 ∧ -9999 * k_ ≤ af_ ∧ af_ ≤ 20000 * k_) ∧ (S_.1 0 ii_ 18 ≤ 8 ∧ ∀ j_ : Nat, (j_ : Int) < S_.1 0 ii_ 18 → 0 ≤ S_.2.2.1 25 (0 + ii_) j_) ∧ (xch ii_ a1_.toNat a2_.toNat S0_ S_) ∧ (cdf ii_ S0_ S_) ∧ True) → ((2000 - k_).toNat) < nn_ → sm_T (mt_P sc_) 2 27 (62, [some (.inr (.inr (some (0, ii_)))), some (.inl a1_), some (.inl a2_), some (.inl bf_), some (.inl af_), some (.inl k_)], [], S_) (fun ro9_ => ∃ u_ S1_, ro9_ = (.inl u_, S1_, 0) ∧ vq_27 a1_ a2_ ii_ cc_ S0_ u_ S1_)) ∧ (∀ (bf_ : Int) (af_ : Int) (k_ : Int) (S_ : sm_S), gi S_ → ai_fr (sx_W vw_27) S0_ S_ → ((0 ≤ k_ ∧ k_ ≤ 8) ∧ (S_.1 0 ii_ 18 ≤ 8 ∧ ∀ j_ : Nat, (j_ : Int) < S_.1 0 ii_ 18 → 0 ≤ S_.2.2.1 25 (0 + ii_) j_) ∧ (xch ii_ a1_.toNat a2_.toNat S0_ S_) ∧ (cdf ii_ S0_ S_) ∧ True) → ((1000 - k_).toNat) < nn_ → sm_T (mt_P sc_) 2 27 (116, [some (.inr (.inr (some (0, ii_)))), some (.inl a1_), some (.inl a2_), some (.inl bf_), some (.inl af_), some (.inl k_)], [], S_) (fun ro9_ => ∃ u_ S1_, ro9_ = (.inl u_, S1_, 0) ∧ vq_27 a1_ a2_ ii_ cc_ S0_ u_ S1_)) := by
  intro nn_
  induction nn_ with
  | zero => exact ⟨fun _ _ _ _ _ _ h_ => absurd h_ (Nat.not_lt_zero _), fun _ _ _ _ _ _ _ h_ => absurd h_ (Nat.not_lt_zero _), fun _ _ _ _ _ _ _ h_ => absurd h_ (Nat.not_lt_zero _)⟩
  | succ nn_ ih_ =>
    refine ⟨?_, ?_, ?_⟩
    · rintro bf_ k_ S_ hI_ hF_ ⟨h0_, hn_, hw_, hC_, -⟩ hm_
      have bx1_ : 0 ≤ S_.1 0 ii_ 18 ∧ S_.1 0 ii_ 18 ≤ 8 := hI_.1 0 ii_ 18 rfl
      refine sm_T_go 3 (c1 := (26, [some (.inr (.inr (some (0, ii_)))), some (.inl a1_), some (.inl a2_), some (.inl bf_), some (.inl k_), none], [.inl (S_.1 0 ii_ 18), .inl k_], S_)) rfl ?_
      refine sm_T_br (a := 3) (z := 24) rfl (fun cx2_ => ?_) (fun cx2_ => ?_)
      · have cx2_ : (S_.1 0 ii_ 18) ≤ k_ := of_decide_eq_true cx2_
        refine sm_T_go 3 (c1 := (53, [some (.inr (.inr (some (0, ii_)))), some (.inl a1_), some (.inl a2_), some (.inl bf_), some (.inl k_), none], [.inl a2_, .inl a1_, .inr (.inr (some (0, ii_)))], S_)) rfl ?_
        refine sm_T_cal (d1 := 0) (Q1 := vq_29 a1_ a2_ ii_ S_) rfl rfl (by decide) (vc_29 a1_ a2_ ii_ S_ hI_ (by omega) (by omega)) (fun u_ Sx3_ px6_ => ?_)
        obtain ⟨rfl, hIx4_, hFx5_, px6_⟩ := px6_
        have hFx7_ : ai_fr (sx_W vw_27) S0_ Sx3_ := ai_fr_tr hF_ (fr_le hFx5_ rfl)
        obtain ⟨dx9_, px6_⟩ := px6_
        have hCx8_ : cdf ii_ S0_ Sx3_ := cdf_tr hC_ (cdf_cg (by omega) dx9_)
        have ex10_ : Sx3_.1 0 ii_ 18 = S_.1 0 ii_ 18 := hFx5_.1 0 ii_ 18 rfl
        have x53_ := px6_
        have u18_ := hFx5_.1 0 ii_ 18 rfl
        have u25_ := hFx5_.2.2 25 rfl (0 + ii_)
        refine sm_T_go 4 (c1 := (62, [some (.inr (.inr (some (0, ii_)))), some (.inl a1_), some (.inl a2_), some (.inl bf_), some (.inl 0), some (.inl 0)], [], Sx3_)) rfl ?_
        refine ih_.2.1 bf_ 0 0 Sx3_ hIx4_ hFx7_ ⟨?_, ?_, ?_, ?_, trivial⟩ ?_
        · omega
        · refine ⟨by omega, fun j_ hj9_ => ?_⟩
          rw [(u25_ j_).1]
          exact hn_.2 j_ (by omega)
        · intro e_
          have y_ := x53_ e_
          rw [hw_.1, hw_.2] at y_
          exact y_
        · exact hCx8_
        · omega
      · have cx2_ : ¬ ((S_.1 0 ii_ 18) ≤ k_) := of_decide_eq_false cx2_
        have n9_ := hn_.2 k_.toNat (by omega)
        refine sm_T_go 6 (c1 := (40, [some (.inr (.inr (some (0, ii_)))), some (.inl a1_), some (.inl a2_), some (.inl bf_), some (.inl k_), none], [.inl k_, .inr (.inr (some (25, (0 + ii_)))), .inr (.inr (some (21, (0 + ii_)))), .inl bf_], S_)) rfl ?_
        refine sm_T_iald (n := 8) rfl rfl (by omega) (by omega) ?_
        have bx11_ : (-1) ≤ S_.2.2.1 25 (0 + ii_) k_.toNat ∧ S_.2.2.1 25 (0 + ii_) k_.toNat ≤ 161 := hI_.2 25 (0 + ii_) _
        refine sm_T_iald (n := 162) rfl rfl (by omega) (by omega) ?_
        have bx12_ : (-9999) ≤ S_.2.2.1 21 (0 + ii_) (S_.2.2.1 25 (0 + ii_) k_.toNat).toNat ∧ S_.2.2.1 21 (0 + ii_) (S_.2.2.1 25 (0 + ii_) k_.toNat).toNat ≤ 20000 := hI_.2 21 (0 + ii_) _
        refine sm_T_bin (w := bf_ + (S_.2.2.1 21 (0 + ii_) (S_.2.2.1 25 (0 + ii_) k_.toNat).toNat)) rfl (bi_add (by omega) (by omega) (by omega)) ?_ -- pc_ 42
        refine sm_T_go 1 (c1 := (44, [some (.inr (.inr (some (0, ii_)))), some (.inl a1_), some (.inl a2_), some (.inl (bf_ + (S_.2.2.1 21 (0 + ii_) (S_.2.2.1 25 (0 + ii_) k_.toNat).toNat))), some (.inl k_), none], [], S_)) rfl ?_
        refine sm_T_inc (a := 4) (z := 1) (v := k_) (w := k_ + 1) rfl rfl (by omega) (by omega) (by omega) ?_ -- pc_ 44
        refine sm_T_go 1 (c1 := (20, [some (.inr (.inr (some (0, ii_)))), some (.inl a1_), some (.inl a2_), some (.inl (bf_ + (S_.2.2.1 21 (0 + ii_) (S_.2.2.1 25 (0 + ii_) k_.toNat).toNat))), some (.inl (k_ + 1)), none], [], S_)) rfl ?_
        refine ih_.1 (bf_ + (S_.2.2.1 21 (0 + ii_) (S_.2.2.1 25 (0 + ii_) k_.toNat).toNat)) (k_ + 1) S_ hI_ hF_ ⟨?_, ?_, ?_, ?_, trivial⟩ ?_
        · omega
        · exact hn_
        · exact hw_
        · exact hC_
        · omega
    · rintro bf_ af_ k_ S_ hI_ hF_ ⟨h0_, hn_, hx_, hC_, -⟩ hm_
      have bx1_ : 0 ≤ S_.1 0 ii_ 18 ∧ S_.1 0 ii_ 18 ≤ 8 := hI_.1 0 ii_ 18 rfl
      refine sm_T_go 3 (c1 := (68, [some (.inr (.inr (some (0, ii_)))), some (.inl a1_), some (.inl a2_), some (.inl bf_), some (.inl af_), some (.inl k_)], [.inl (S_.1 0 ii_ 18), .inl k_], S_)) rfl ?_
      refine sm_T_br (a := 3) (z := 31) rfl (fun cx2_ => ?_) (fun cx2_ => ?_)
      · have cx2_ : (S_.1 0 ii_ 18) ≤ k_ := of_decide_eq_true cx2_
        refine sm_T_go 2 (c1 := (102, [some (.inr (.inr (some (0, ii_)))), some (.inl a1_), some (.inl a2_), some (.inl bf_), some (.inl af_), some (.inl k_)], [.inl bf_, .inl af_], S_)) rfl ?_
        refine sm_T_br (a := 2) (z := 11) rfl (fun cx3_ => ?_) (fun cx3_ => ?_)
        · have cx3_ : af_ < bf_ := of_decide_eq_true cx3_
          refine sm_T_go 2 (c1 := (116, [some (.inr (.inr (some (0, ii_)))), some (.inl a1_), some (.inl a2_), some (.inl bf_), some (.inl af_), some (.inl 0)], [], S_)) rfl ?_
          refine ih_.2.2 bf_ af_ 0 S_ hI_ hF_ ⟨?_, ?_, ?_, ?_, trivial⟩ ?_
          · omega
          · exact hn_
          · exact hx_
          · exact hC_
          · omega
        · have cx3_ : ¬ (af_ < bf_) := of_decide_eq_false cx3_
          refine sm_T_go 3 (c1 := (108, [some (.inr (.inr (some (0, ii_)))), some (.inl a1_), some (.inl a2_), some (.inl bf_), some (.inl af_), some (.inl k_)], [.inl a2_, .inl a1_, .inr (.inr (some (0, ii_)))], S_)) rfl ?_
          refine sm_T_cal (d1 := 0) (Q1 := vq_29 a1_ a2_ ii_ S_) rfl rfl (by decide) (vc_29 a1_ a2_ ii_ S_ hI_ (by omega) (by omega)) (fun u_ Sx4_ px7_ => ?_)
          obtain ⟨rfl, hIx5_, hFx6_, px7_⟩ := px7_
          have hFx8_ : ai_fr (sx_W vw_27) S0_ Sx4_ := ai_fr_tr hF_ (fr_le hFx6_ rfl)
          obtain ⟨dx10_, px7_⟩ := px7_
          have hCx9_ : cdf ii_ S0_ Sx4_ := cdf_tr hC_ (cdf_cg (by omega) dx10_)
          have ex11_ : Sx4_.1 0 ii_ 18 = S_.1 0 ii_ 18 := hFx6_.1 0 ii_ 18 rfl
          have x108_ := px7_
          refine sm_T_go 1 (c1 := (112, [some (.inr (.inr (some (0, ii_)))), some (.inl a1_), some (.inl a2_), some (.inl bf_), some (.inl af_), some (.inl k_)], [.inl 0], Sx4_)) rfl ?_
          refine sm_T_rz rfl (by omega) ⟨_, _, rfl, _, rfl, hIx5_, hFx8_, ?_⟩
          refine ⟨hCx9_, ?_⟩
          refine ⟨by omega, ?_⟩
          exact bpl_sw hp_ (hFx8_.1 0 ii_ 0 rfl) (hFx8_.1 0 ii_ 1 rfl) (hFx8_.1 0 ii_ 2 rfl) (hFx8_.1 2 cc_ 1 rfl) (hFx8_.1 2 cc_ 2 rfl) (hFx8_.1 2 cc_ 3 rfl) (hFx8_.1 2 cc_ 8 rfl) (fr_arr hFx8_ rfl) (fun e_ he_ => ⟨e_, he_, rfl, xch_2 hx_ x108_ e_⟩)
      · have cx2_ : ¬ ((S_.1 0 ii_ 18) ≤ k_) := of_decide_eq_false cx2_
        have n9_ := hn_.2 k_.toNat (by omega)
        refine sm_T_go 2 (c1 := (74, [some (.inr (.inr (some (0, ii_)))), some (.inl a1_), some (.inl a2_), some (.inl bf_), some (.inl af_), some (.inl k_)], [.inl bf_, .inl af_], S_)) rfl ?_
        refine sm_T_br (a := 3) (z := 25) rfl (fun cx12_ => ?_) (fun cx12_ => ?_)
        · have cx12_ : bf_ ≤ af_ := of_decide_eq_true cx12_
          refine sm_T_go 2 (c1 := (102, [some (.inr (.inr (some (0, ii_)))), some (.inl a1_), some (.inl a2_), some (.inl bf_), some (.inl af_), some (.inl k_)], [.inl bf_, .inl af_], S_)) rfl ?_
          refine sm_T_br (a := 2) (z := 11) rfl (fun cx13_ => ?_) (fun cx13_ => ?_)
          · have cx13_ : af_ < bf_ := of_decide_eq_true cx13_
            exfalso; omega
          · have cx13_ : ¬ (af_ < bf_) := of_decide_eq_false cx13_
            refine sm_T_go 3 (c1 := (108, [some (.inr (.inr (some (0, ii_)))), some (.inl a1_), some (.inl a2_), some (.inl bf_), some (.inl af_), some (.inl k_)], [.inl a2_, .inl a1_, .inr (.inr (some (0, ii_)))], S_)) rfl ?_
            refine sm_T_cal (d1 := 0) (Q1 := vq_29 a1_ a2_ ii_ S_) rfl rfl (by decide) (vc_29 a1_ a2_ ii_ S_ hI_ (by omega) (by omega)) (fun u_ Sx14_ px17_ => ?_)
            obtain ⟨rfl, hIx15_, hFx16_, px17_⟩ := px17_
            have hFx18_ : ai_fr (sx_W vw_27) S0_ Sx14_ := ai_fr_tr hF_ (fr_le hFx16_ rfl)
            obtain ⟨dx20_, px17_⟩ := px17_
            have hCx19_ : cdf ii_ S0_ Sx14_ := cdf_tr hC_ (cdf_cg (by omega) dx20_)
            have ex21_ : Sx14_.1 0 ii_ 18 = S_.1 0 ii_ 18 := hFx16_.1 0 ii_ 18 rfl
            have x108_ := px17_
            refine sm_T_go 1 (c1 := (112, [some (.inr (.inr (some (0, ii_)))), some (.inl a1_), some (.inl a2_), some (.inl bf_), some (.inl af_), some (.inl k_)], [.inl 0], Sx14_)) rfl ?_
            refine sm_T_rz rfl (by omega) ⟨_, _, rfl, _, rfl, hIx15_, hFx18_, ?_⟩
            refine ⟨hCx19_, ?_⟩
            refine ⟨by omega, ?_⟩
            exact bpl_sw hp_ (hFx18_.1 0 ii_ 0 rfl) (hFx18_.1 0 ii_ 1 rfl) (hFx18_.1 0 ii_ 2 rfl) (hFx18_.1 2 cc_ 1 rfl) (hFx18_.1 2 cc_ 2 rfl) (hFx18_.1 2 cc_ 3 rfl) (hFx18_.1 2 cc_ 8 rfl) (fr_arr hFx18_ rfl) (fun e_ he_ => ⟨e_, he_, rfl, xch_2 hx_ x108_ e_⟩)
        · have cx12_ : ¬ (bf_ ≤ af_) := of_decide_eq_false cx12_
          refine sm_T_go 5 (c1 := (86, [some (.inr (.inr (some (0, ii_)))), some (.inl a1_), some (.inl a2_), some (.inl bf_), some (.inl af_), some (.inl k_)], [.inl k_, .inr (.inr (some (25, (0 + ii_)))), .inr (.inr (some (0, ii_))), .inl af_], S_)) rfl ?_
          refine sm_T_iald (n := 8) rfl rfl (by omega) (by omega) ?_
          have bx22_ : (-1) ≤ S_.2.2.1 25 (0 + ii_) k_.toNat ∧ S_.2.2.1 25 (0 + ii_) k_.toNat ≤ 161 := hI_.2 25 (0 + ii_) _
          refine sm_T_cal (d1 := 1) (Q1 := vq_23 (S_.2.2.1 25 (0 + ii_) k_.toNat) ii_ S_) rfl rfl (by decide) (vc_23 (S_.2.2.1 25 (0 + ii_) k_.toNat) ii_ S_ hI_ (by omega) (by exact bpn_fr hb_ hF_ rfl rfl rfl rfl)) (fun u_ Sx23_ px26_ => ?_)
          obtain ⟨rfl, vx28_, rfl, px26_⟩ := px26_
          have w9_ := px26_
          refine sm_T_bin (w := af_ + vx28_) rfl (bi_add (by omega) (by omega) (by omega)) ?_ -- pc_ 90
          refine sm_T_go 1 (c1 := (93, [some (.inr (.inr (some (0, ii_)))), some (.inl a1_), some (.inl a2_), some (.inl bf_), some (.inl (af_ + vx28_)), some (.inl k_)], [], S_)) rfl ?_
          refine sm_T_inc (a := 5) (z := 1) (v := k_) (w := k_ + 1) rfl rfl (by omega) (by omega) (by omega) ?_ -- pc_ 93
          refine sm_T_go 1 (c1 := (62, [some (.inr (.inr (some (0, ii_)))), some (.inl a1_), some (.inl a2_), some (.inl bf_), some (.inl (af_ + vx28_)), some (.inl (k_ + 1))], [], S_)) rfl ?_
          refine ih_.2.1 bf_ (af_ + vx28_) (k_ + 1) S_ hI_ hF_ ⟨?_, ?_, ?_, ?_, trivial⟩ ?_
          · omega
          · exact hn_
          · exact hx_
          · exact hC_
          · omega
    · rintro bf_ af_ k_ S_ hI_ hF_ ⟨h0_, hn_, hx_, hC_, -⟩ hm_
      have bx1_ : 0 ≤ S_.1 0 ii_ 18 ∧ S_.1 0 ii_ 18 ≤ 8 := hI_.1 0 ii_ 18 rfl
      refine sm_T_go 3 (c1 := (122, [some (.inr (.inr (some (0, ii_)))), some (.inl a1_), some (.inl a2_), some (.inl bf_), some (.inl af_), some (.inl k_)], [.inl (S_.1 0 ii_ 18), .inl k_], S_)) rfl ?_
      refine sm_T_br (a := 3) (z := 32) rfl (fun cx2_ => ?_) (fun cx2_ => ?_)
      · have cx2_ : (S_.1 0 ii_ 18) ≤ k_ := of_decide_eq_true cx2_
        refine sm_T_go 1 (c1 := (155, [some (.inr (.inr (some (0, ii_)))), some (.inl a1_), some (.inl a2_), some (.inl bf_), some (.inl af_), some (.inl k_)], [.inl 1], S_)) rfl ?_
        refine sm_T_rz rfl (by omega) ⟨_, _, rfl, _, rfl, hI_, hF_, ?_⟩
        refine ⟨hC_, ?_⟩
        refine ⟨by omega, ?_⟩
        exact bpl_xch hp_ hx_ (by omega) (by omega) hz_ (hF_.1 0 ii_ 0 rfl) (hF_.1 0 ii_ 1 rfl) (hF_.1 0 ii_ 2 rfl) (hF_.1 2 cc_ 1 rfl) (hF_.1 2 cc_ 2 rfl) (hF_.1 2 cc_ 3 rfl) (hF_.1 2 cc_ 8 rfl) (fr_arr hF_ rfl)
      · have cx2_ : ¬ ((S_.1 0 ii_ 18) ≤ k_) := of_decide_eq_false cx2_
        have n9_ := hn_.2 k_.toNat (by omega)
        refine sm_T_go 5 (c1 := (135, [some (.inr (.inr (some (0, ii_)))), some (.inl a1_), some (.inl a2_), some (.inl bf_), some (.inl af_), some (.inl k_)], [.inl k_, .inr (.inr (some (25, (0 + ii_)))), .inr (.inr (some (21, (0 + ii_))))], S_)) rfl ?_
        refine sm_T_iald (n := 8) rfl rfl (by omega) (by omega) ?_
        have bx3_ : (-1) ≤ S_.2.2.1 25 (0 + ii_) k_.toNat ∧ S_.2.2.1 25 (0 + ii_) k_.toNat ≤ 161 := hI_.2 25 (0 + ii_) _
        refine sm_T_go 4 (c1 := (143, [some (.inr (.inr (some (0, ii_)))), some (.inl a1_), some (.inl a2_), some (.inl bf_), some (.inl af_), some (.inl k_)], [.inl k_, .inr (.inr (some (25, (0 + ii_)))), .inr (.inr (some (0, ii_))), .inl (S_.2.2.1 25 (0 + ii_) k_.toNat), .inr (.inr (some (21, (0 + ii_))))], S_)) rfl ?_
        refine sm_T_iald (n := 8) rfl rfl (by omega) (by omega) ?_
        refine sm_T_cal (d1 := 1) (Q1 := vq_23 (S_.2.2.1 25 (0 + ii_) k_.toNat) ii_ S_) rfl rfl (by decide) (vc_23 (S_.2.2.1 25 (0 + ii_) k_.toNat) ii_ S_ hI_ (by omega) (by exact bpn_fr hb_ hF_ rfl rfl rfl rfl)) (fun u_ Sx4_ px7_ => ?_)
        obtain ⟨rfl, vx9_, rfl, px7_⟩ := px7_
        have w9_ := px7_
        refine sm_T_iast (n := 162) rfl rfl (by omega) (by omega) ?_
        have hIx10_ : gi (sm_aI S_ 21 (0 + ii_) (S_.2.2.1 25 (0 + ii_) k_.toNat).toNat vx9_) := gi_aI hI_ (show (-9999) ≤ vx9_ ∧ vx9_ ≤ 20000 from ⟨by omega, by omega⟩)
        have hFx11_ : ai_fr (sx_W vw_27) S0_ (sm_aI S_ 21 (0 + ii_) (S_.2.2.1 25 (0 + ii_) k_.toNat).toNat vx9_) := ai_fr_tr hF_ (ai_fr_aI rfl)
        have hCx12_ : cdf ii_ S0_ (sm_aI S_ 21 (0 + ii_) (S_.2.2.1 25 (0 + ii_) k_.toNat).toNat vx9_) := cdf_aI hC_ (Or.inr (by rw [show cof 21 = 0 from rfl] <;> omega))
        refine sm_T_inc (a := 5) (z := 1) (v := k_) (w := k_ + 1) rfl rfl (by omega) (by omega) (by omega) ?_ -- pc_ 148
        refine sm_T_go 1 (c1 := (116, [some (.inr (.inr (some (0, ii_)))), some (.inl a1_), some (.inl a2_), some (.inl bf_), some (.inl af_), some (.inl (k_ + 1))], [], sm_aI S_ 21 (0 + ii_) (S_.2.2.1 25 (0 + ii_) k_.toNat).toNat vx9_)) rfl ?_
        refine ih_.2.2 bf_ af_ (k_ + 1) (sm_aI S_ 21 (0 + ii_) (S_.2.2.1 25 (0 + ii_) k_.toNat).toNat vx9_) hIx10_ hFx11_ ⟨?_, ?_, ?_, ?_, trivial⟩ ?_
        · omega
        · refine ⟨hn_.1, fun j_ hj9_ => ?_⟩
          rw [rd_ne (by decide)]
          exact hn_.2 j_ hj9_
        · intro e_
          rw [rd_ne (by decide), rd_ne (by decide)]
          exact hx_ e_
        · exact hCx12_
        · omega
set_option maxHeartbeats 400000 in
theorem vc_27 {sc_ : Nat × (Nat → Int)} (a1_ : Int) (a2_ : Int) (ii_ : Nat) (cc_ : Nat) (S0_ : sm_S) (hI_ : gi S0_) (h1_ : 0 ≤ a1_ ∧ a1_ ≤ 155 ∧ a1_ < (S0_.1 2 cc_ 2 + S0_.1 2 cc_ 8)) (h2_ : 0 ≤ a2_ ∧ a2_ ≤ 155 ∧ a2_ < (S0_.1 2 cc_ 2 + S0_.1 2 cc_ 8)) (hz_ : S0_.2.2.1 16 (0 + ii_) a1_.toNat = S0_.2.2.1 16 (0 + ii_) a2_.toNat) (hb_ : bpn ii_ S0_) (hp_ : bpl ii_ cc_ S0_) : sm_T (mt_P sc_) 2 27 (0, [some (.inr (.inr (some (0, ii_)))), some (.inl a1_), some (.inl a2_), none, none, none], [], S0_) (fun ro9_ => ∃ u_ S1_, ro9_ = (.inl u_, S1_, 0) ∧ vq_27 a1_ a2_ ii_ cc_ S0_ u_ S1_) := by
  have hF_ : ai_fr (sx_W vw_27) S0_ S0_ := ai_fr_rf
  have hC_ : cdf ii_ S0_ S0_ := cdf_rf
  have hIx1_ : gi (sm_pI S0_ 0 ii_ 18 0) := gi_pI hI_ (show 0 ≤ 0 ∧ 0 ≤ 8 from ⟨by omega, by omega⟩)
  have hFx2_ : ai_fr (sx_W vw_27) S0_ (sm_pI S0_ 0 ii_ 18 0) := ai_fr_tr hF_ (ai_fr_pI rfl)
  have hCx3_ : cdf ii_ S0_ (sm_pI S0_ 0 ii_ 18 0) := cdf_pI hC_ (Or.inr (by rw [show cof 0 = 0 from rfl] <;> omega))
  refine sm_T_go 5 (c1 := (7, [some (.inr (.inr (some (0, ii_)))), some (.inl a1_), some (.inl a2_), none, none, none], [.inl a1_, .inr (.inr (some (0, ii_)))], sm_pI S0_ 0 ii_ 18 0)) rfl ?_
  refine sm_T_cal (d1 := 0) (Q1 := vq_28 a1_ ii_ (sm_pI S0_ 0 ii_ 18 0)) rfl rfl (by decide) (vc_28 a1_ ii_ (sm_pI S0_ 0 ii_ 18 0) hIx1_ (by omega) (by (rw [rf_eq]; decide)) (by (intro j_ hj9_; rw [rf_eq] at hj9_; exfalso; omega))) (fun u_ Sx4_ px7_ => ?_)
  obtain ⟨rfl, hIx5_, hFx6_, px7_⟩ := px7_
  have hFx8_ : ai_fr (sx_W vw_27) S0_ Sx4_ := ai_fr_tr hFx2_ (fr_le hFx6_ rfl)
  obtain ⟨dx10_, px7_⟩ := px7_
  have hCx9_ : cdf ii_ S0_ Sx4_ := cdf_tr hCx3_ (cdf_cg (by omega) dx10_)
  have t7_ := px7_
  rw [rf_eq] at t7_
  have q14_ := hFx6_.2.2 14 rfl (0 + ii_)
  have q15_ := hFx6_.2.2 15 rfl (0 + ii_)
  refine sm_T_go 2 (c1 := (12, [some (.inr (.inr (some (0, ii_)))), some (.inl a1_), some (.inl a2_), none, none, none], [.inl a2_, .inr (.inr (some (0, ii_)))], Sx4_)) rfl ?_
  refine sm_T_cal (d1 := 0) (Q1 := vq_28 a2_ ii_ Sx4_) rfl rfl (by decide) (vc_28 a2_ ii_ Sx4_ hIx5_ (by omega) (by omega) (by exact t7_.2)) (fun u_ Sx11_ px14_ => ?_)
  obtain ⟨rfl, hIx12_, hFx13_, px14_⟩ := px14_
  have hFx15_ : ai_fr (sx_W vw_27) S0_ Sx11_ := ai_fr_tr hFx8_ (fr_le hFx13_ rfl)
  obtain ⟨dx17_, px14_⟩ := px14_
  have hCx16_ : cdf ii_ S0_ Sx11_ := cdf_tr hCx9_ (cdf_cg (by omega) dx17_)
  have t12_ := px14_
  have r14_ := hFx13_.2.2 14 rfl (0 + ii_)
  have r15_ := hFx13_.2.2 15 rfl (0 + ii_)
  refine sm_T_go 4 (c1 := (20, [some (.inr (.inr (some (0, ii_)))), some (.inl a1_), some (.inl a2_), some (.inl 0), some (.inl 0), none], [], Sx11_)) rfl ?_
  refine (vl_27 a1_ a2_ ii_ cc_ S0_ h1_ h2_ hz_ hb_ hp_ _).1 0 0 Sx11_ hIx12_ hFx15_ ⟨?_, ?_, ?_, ?_, trivial⟩ (Nat.lt_succ_self _)
  · omega
  · exact ⟨by omega, t12_.2⟩
  · constructor
    · exact funext fun e_ => (r14_ e_).1.trans (q14_ e_).1
    · exact funext fun e_ => (r15_ e_).1.trans (q15_ e_).1
  · exact hCx16_
