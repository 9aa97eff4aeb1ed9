/-! bytes fed to the reference; written by wip/p55/gen/vg -/
/-! M_.feed -/
def vw_279 : sx_Wl := ([(13, 0), (13, 2)], [118], [])
def vq_279 (a1_ : Int) (a2_ : Int) (a3_ : Int) (a4_ : Int) (a5_ : Int) (S0_ : sm_S) (u_ : Option sm_V) (S1_ : sm_S) : Prop := ∃ v_ : Int, u_ = some (.inl v_) ∧ gi S1_ ∧ ai_fr (sx_W vw_279) S0_ S1_ ∧ (v_ = S1_.1 13 0 2 ∧ S1_.1 13 0 2 = S0_.1 13 0 2 + 20 ∧ S1_.1 13 0 0 = 0 ∧ S1_.2.2.1 118 0 = fed (S0_.2.2.1 118 0) (S0_.1 13 0 2).toNat a1_ a2_ a3_ a4_ a5_)
set_option maxHeartbeats 2000000 in
theorem vl_279 {sc_ : Nat × (Nat → Int)} (a1_ : Int) (a2_ : Int) (a3_ : Int) (a4_ : Int) (a5_ : Int) (S0_ : sm_S) (h1_ : S0_.1 13 0 2 ≤ 1260) : ∀ nn_ : Nat, (∀ (k_ : Int) (S_ : sm_S), gi S_ → ai_fr (sx_W vw_279) S0_ S_ → ((0 ≤ k_ ∧ k_ ≤ 20 ∧ S_.1 13 0 2 = S0_.1 13 0 2 + k_ ∧ 0 ≤ S0_.1 13 0 2) ∧ (S_.1 13 0 0 = 0) ∧ (∀ j_ : Nat, S_.2.2.1 118 0 j_ = if (S0_.1 13 0 2).toNat ≤ j_ ∧ (j_ : Int) < S0_.1 13 0 2 + k_ then fdw a1_ a2_ a3_ a4_ a5_ (j_ - (S0_.1 13 0 2).toNat) else S0_.2.2.1 118 0 j_) ∧ True) → ((100 - k_).toNat) < nn_ → sm_T (mt_P sc_) 0 279 (33, [some (.inr (.inr (some (13, 0)))), some (.inl a1_), some (.inl a2_), some (.inl a3_), some (.inl a4_), some (.inl a5_), some (.inl k_), none], [], S_) (fun ro9_ => ∃ u_ S1_, ro9_ = (.inl u_, S1_, 0) ∧ vq_279 a1_ a2_ a3_ a4_ a5_ S0_ u_ S1_)) := by
  intro nn_
  induction nn_ with
  | zero => exact fun _ _ _ _ _ h_ => absurd h_ (Nat.not_lt_zero _)
  | succ nn_ ih_ =>
    rintro k_ S_ hI_ hF_ ⟨h0_, hz_, hb_, -⟩ hm_
    refine sm_T_go 2 (c1 := (37, [some (.inr (.inr (some (13, 0)))), some (.inl a1_), some (.inl a2_), some (.inl a3_), some (.inl a4_), some (.inl a5_), some (.inl k_), none], [.inl 20, .inl k_], S_)) rfl ?_
    refine sm_T_br (a := 3) (z := 90) rfl (fun cx1_ => ?_) (fun cx1_ => ?_)
    · have cx1_ : 20 ≤ k_ := of_decide_eq_true cx1_
      have bx2_ : 0 ≤ S_.1 13 0 2 ∧ S_.1 13 0 2 ≤ 1280 := hI_.1 13 0 2 rfl
      refine sm_T_go 2 (c1 := (131, [some (.inr (.inr (some (13, 0)))), some (.inl a1_), some (.inl a2_), some (.inl a3_), some (.inl a4_), some (.inl a5_), some (.inl k_), none], [.inl (S_.1 13 0 2)], S_)) rfl ?_
      refine sm_T_ri rfl ⟨_, _, rfl, _, rfl, hI_, hF_, ?_⟩
      refine ⟨rfl, by omega, hz_, funext fun j_ => ?_⟩
      rw [hb_ j_]
      unfold fed
      by_cases y_ : (S0_.1 13 0 2).toNat ≤ j_ ∧ j_ < (S0_.1 13 0 2).toNat + 20
      · rw [if_pos y_, if_pos (by omega)]
      · rw [if_neg y_, if_neg (by omega)]
    · have cx1_ : ¬ (20 ≤ k_) := of_decide_eq_false cx1_
      refine sm_T_go 2 (c1 := (43, [some (.inr (.inr (some (13, 0)))), some (.inl a1_), some (.inl a2_), some (.inl a3_), some (.inl a4_), some (.inl a5_), some (.inl k_), none], [.inl 4, .inl k_], S_)) rfl ?_
      refine sm_T_br (a := 3) (z := 7) rfl (fun cx3_ => ?_) (fun cx3_ => ?_)
      · have cx3_ : 4 ≤ k_ := of_decide_eq_true cx3_
        refine sm_T_go 2 (c1 := (54, [some (.inr (.inr (some (13, 0)))), some (.inl a1_), some (.inl a2_), some (.inl a3_), some (.inl a4_), some (.inl a5_), some (.inl k_), none], [.inl 8, .inl k_], S_)) rfl ?_
        refine sm_T_br (a := 3) (z := 7) rfl (fun cx4_ => ?_) (fun cx4_ => ?_)
        · have cx4_ : 8 ≤ k_ := of_decide_eq_true cx4_
          refine sm_T_go 2 (c1 := (65, [some (.inr (.inr (some (13, 0)))), some (.inl a1_), some (.inl a2_), some (.inl a3_), some (.inl a4_), some (.inl a5_), some (.inl k_), none], [.inl 12, .inl k_], S_)) rfl ?_
          refine sm_T_br (a := 3) (z := 7) rfl (fun cx5_ => ?_) (fun cx5_ => ?_)
          · have cx5_ : 12 ≤ k_ := of_decide_eq_true cx5_
            refine sm_T_go 2 (c1 := (76, [some (.inr (.inr (some (13, 0)))), some (.inl a1_), some (.inl a2_), some (.inl a3_), some (.inl a4_), some (.inl a5_), some (.inl k_), none], [.inl 16, .inl k_], S_)) rfl ?_
            refine sm_T_br (a := 3) (z := 8) rfl (fun cx6_ => ?_) (fun cx6_ => ?_)
            · have cx6_ : 16 ≤ k_ := of_decide_eq_true cx6_
              have bx7_ : 0 ≤ S_.1 13 0 2 ∧ S_.1 13 0 2 ≤ 1280 := hI_.1 13 0 2 rfl
              refine sm_T_go 11 (c1 := (105, [some (.inr (.inr (some (13, 0)))), some (.inl a1_), some (.inl a2_), some (.inl a3_), some (.inl a4_), some (.inl a5_), some (.inl k_), some (.inl a5_)], [.inl 3, .inl k_, .inl 8, .inl 24, .inl a5_, .inl (S_.1 13 0 2), .inr (.inr (some (118, 0)))], S_)) rfl ?_
              refine sm_T_bin (w := (k_ % 4)) rfl (bi_msk (k := 2) (by decide)) ?_ -- pc_ 105
              refine sm_T_bin (w := 8 * (k_ % 4)) rfl (bi_mul (by omega) (by omega) (by omega)) ?_ -- pc_ 106
              refine sm_T_bin (w := -(8 * (k_ % 4)) + 24) rfl (bi_sub (by omega) (by omega) (by omega)) ?_ -- pc_ 107
              refine sm_T_bin (w := (i_shr a5_ (-(8 * (k_ % 4)) + 24))) rfl rfl ?_ -- pc_ 108
              refine sm_T_go 1 (c1 := (110, [some (.inr (.inr (some (13, 0)))), some (.inl a1_), some (.inl a2_), some (.inl a3_), some (.inl a4_), some (.inl a5_), some (.inl k_), some (.inl a5_)], [.inl (i_i2b (i_shr a5_ (-(8 * (k_ % 4)) + 24))), .inl (S_.1 13 0 2), .inr (.inr (some (118, 0)))], S_)) rfl ?_
              refine sm_T_bast (n := 65536) rfl rfl (by omega) (by omega) ?_
              have bx8_ := ai_nar_b (Int32.ofInt (i_i2b (i_shr a5_ (-(8 * (k_ % 4)) + 24))))
              have hIx9_ : gi (sm_aI S_ 118 0 (S_.1 13 0 2).toNat ((vp_nar .byte (Int32.ofInt (i_i2b (i_shr a5_ (-(8 * (k_ % 4)) + 24))))).toInt)) := gi_aI hI_ (show (-128) ≤ ((vp_nar .byte (Int32.ofInt (i_i2b (i_shr a5_ (-(8 * (k_ % 4)) + 24))))).toInt) ∧ ((vp_nar .byte (Int32.ofInt (i_i2b (i_shr a5_ (-(8 * (k_ % 4)) + 24))))).toInt) ≤ 127 from ⟨by omega, by omega⟩)
              have hFx10_ : ai_fr (sx_W vw_279) S0_ (sm_aI S_ 118 0 (S_.1 13 0 2).toNat ((vp_nar .byte (Int32.ofInt (i_i2b (i_shr a5_ (-(8 * (k_ % 4)) + 24))))).toInt)) := ai_fr_tr hF_ (ai_fr_aI rfl)
              refine sm_T_go 4 (c1 := (117, [some (.inr (.inr (some (13, 0)))), some (.inl a1_), some (.inl a2_), some (.inl a3_), some (.inl a4_), some (.inl a5_), some (.inl k_), some (.inl a5_)], [.inl 1, .inl (S_.1 13 0 2), .inr (.inr (some (13, 0)))], sm_aI S_ 118 0 (S_.1 13 0 2).toNat ((vp_nar .byte (Int32.ofInt (i_i2b (i_shr a5_ (-(8 * (k_ % 4)) + 24))))).toInt))) rfl ?_
              refine sm_T_bin (w := (S_.1 13 0 2) + 1) rfl (bi_add (by omega) (by omega) (by omega)) ?_ -- pc_ 117
              have hIx11_ : gi (sm_pI (sm_aI S_ 118 0 (S_.1 13 0 2).toNat ((vp_nar .byte (Int32.ofInt (i_i2b (i_shr a5_ (-(8 * (k_ % 4)) + 24))))).toInt)) 13 0 2 ((S_.1 13 0 2) + 1)) := gi_pI hIx9_ (show 0 ≤ (S_.1 13 0 2) + 1 ∧ (S_.1 13 0 2) + 1 ≤ 1280 from ⟨by omega, by omega⟩)
              have hFx12_ : ai_fr (sx_W vw_279) S0_ (sm_pI (sm_aI S_ 118 0 (S_.1 13 0 2).toNat ((vp_nar .byte (Int32.ofInt (i_i2b (i_shr a5_ (-(8 * (k_ % 4)) + 24))))).toInt)) 13 0 2 ((S_.1 13 0 2) + 1)) := ai_fr_tr hFx10_ (ai_fr_pI rfl)
              refine sm_T_go 1 (c1 := (121, [some (.inr (.inr (some (13, 0)))), some (.inl a1_), some (.inl a2_), some (.inl a3_), some (.inl a4_), some (.inl a5_), some (.inl k_), some (.inl a5_)], [], sm_pI (sm_aI S_ 118 0 (S_.1 13 0 2).toNat ((vp_nar .byte (Int32.ofInt (i_i2b (i_shr a5_ (-(8 * (k_ % 4)) + 24))))).toInt)) 13 0 2 ((S_.1 13 0 2) + 1))) rfl ?_
              refine sm_T_inc (a := 6) (z := 1) (v := k_) (w := k_ + 1) rfl rfl (by omega) (by omega) (by omega) ?_ -- pc_ 121
              refine sm_T_go 1 (c1 := (33, [some (.inr (.inr (some (13, 0)))), some (.inl a1_), some (.inl a2_), some (.inl a3_), some (.inl a4_), some (.inl a5_), some (.inl (k_ + 1)), some (.inl a5_)], [], sm_pI (sm_aI S_ 118 0 (S_.1 13 0 2).toNat ((vp_nar .byte (Int32.ofInt (i_i2b (i_shr a5_ (-(8 * (k_ % 4)) + 24))))).toInt)) 13 0 2 ((S_.1 13 0 2) + 1))) rfl ?_
              refine sm_T_wk [some (.inr (.inr (some (13, 0)))), some (.inl a1_), some (.inl a2_), some (.inl a3_), some (.inl a4_), some (.inl a5_), some (.inl (k_ + 1)), none] (by exact ⟨rfl, rfl, rfl, rfl, rfl, rfl, rfl, trivial⟩) ?_
              refine ih_ (k_ + 1) (sm_pI (sm_aI S_ 118 0 (S_.1 13 0 2).toNat ((vp_nar .byte (Int32.ofInt (i_i2b (i_shr a5_ (-(8 * (k_ % 4)) + 24))))).toInt)) 13 0 2 ((S_.1 13 0 2) + 1)) hIx11_ hFx12_ ⟨?_, ?_, ?_, trivial⟩ ?_
              · (rw [rf_eq]; omega)
              · (rw [rf_nk (by decide)]; exact hz_)
              · intro j_
                have w9_ := hb_ j_
                rw [rd_fa, rd_eq]
                by_cases y_ : j_ = (S_.1 13 0 2).toNat
                · rw [if_pos y_, if_pos (by omega)]
                  unfold fdw fby
                  rw [show j_ - (S0_.1 13 0 2).toNat = k_.toNat by omega]
                  rw [show 24 - 8 * ((k_.toNat % 4 : Nat) : Int) = -(8 * (k_ % 4)) + 24 by omega]
                  first | rw [if_pos (by omega)] | rw [if_neg (by omega), if_pos (by omega)] | rw [if_neg (by omega), if_neg (by omega), if_pos (by omega)] | rw [if_neg (by omega), if_neg (by omega), if_neg (by omega), if_pos (by omega)] | rw [if_neg (by omega), if_neg (by omega), if_neg (by omega), if_neg (by omega)]
                · rw [if_neg y_, w9_]
                  by_cases z_ : (S0_.1 13 0 2).toNat ≤ j_ ∧ (j_ : Int) < S0_.1 13 0 2 + k_
                  · rw [if_pos z_, if_pos (by omega)]
                  · rw [if_neg z_, if_neg (by omega)]
              · omega
            · have cx6_ : ¬ (16 ≤ k_) := of_decide_eq_false cx6_
              have bx13_ : 0 ≤ S_.1 13 0 2 ∧ S_.1 13 0 2 ≤ 1280 := hI_.1 13 0 2 rfl
              refine sm_T_go 12 (c1 := (105, [some (.inr (.inr (some (13, 0)))), some (.inl a1_), some (.inl a2_), some (.inl a3_), some (.inl a4_), some (.inl a5_), some (.inl k_), some (.inl a4_)], [.inl 3, .inl k_, .inl 8, .inl 24, .inl a4_, .inl (S_.1 13 0 2), .inr (.inr (some (118, 0)))], S_)) rfl ?_
              refine sm_T_bin (w := (k_ % 4)) rfl (bi_msk (k := 2) (by decide)) ?_ -- pc_ 105
              refine sm_T_bin (w := 8 * (k_ % 4)) rfl (bi_mul (by omega) (by omega) (by omega)) ?_ -- pc_ 106
              refine sm_T_bin (w := -(8 * (k_ % 4)) + 24) rfl (bi_sub (by omega) (by omega) (by omega)) ?_ -- pc_ 107
              refine sm_T_bin (w := (i_shr a4_ (-(8 * (k_ % 4)) + 24))) rfl rfl ?_ -- pc_ 108
              refine sm_T_go 1 (c1 := (110, [some (.inr (.inr (some (13, 0)))), some (.inl a1_), some (.inl a2_), some (.inl a3_), some (.inl a4_), some (.inl a5_), some (.inl k_), some (.inl a4_)], [.inl (i_i2b (i_shr a4_ (-(8 * (k_ % 4)) + 24))), .inl (S_.1 13 0 2), .inr (.inr (some (118, 0)))], S_)) rfl ?_
              refine sm_T_bast (n := 65536) rfl rfl (by omega) (by omega) ?_
              have bx14_ := ai_nar_b (Int32.ofInt (i_i2b (i_shr a4_ (-(8 * (k_ % 4)) + 24))))
              have hIx15_ : gi (sm_aI S_ 118 0 (S_.1 13 0 2).toNat ((vp_nar .byte (Int32.ofInt (i_i2b (i_shr a4_ (-(8 * (k_ % 4)) + 24))))).toInt)) := gi_aI hI_ (show (-128) ≤ ((vp_nar .byte (Int32.ofInt (i_i2b (i_shr a4_ (-(8 * (k_ % 4)) + 24))))).toInt) ∧ ((vp_nar .byte (Int32.ofInt (i_i2b (i_shr a4_ (-(8 * (k_ % 4)) + 24))))).toInt) ≤ 127 from ⟨by omega, by omega⟩)
              have hFx16_ : ai_fr (sx_W vw_279) S0_ (sm_aI S_ 118 0 (S_.1 13 0 2).toNat ((vp_nar .byte (Int32.ofInt (i_i2b (i_shr a4_ (-(8 * (k_ % 4)) + 24))))).toInt)) := ai_fr_tr hF_ (ai_fr_aI rfl)
              refine sm_T_go 4 (c1 := (117, [some (.inr (.inr (some (13, 0)))), some (.inl a1_), some (.inl a2_), some (.inl a3_), some (.inl a4_), some (.inl a5_), some (.inl k_), some (.inl a4_)], [.inl 1, .inl (S_.1 13 0 2), .inr (.inr (some (13, 0)))], sm_aI S_ 118 0 (S_.1 13 0 2).toNat ((vp_nar .byte (Int32.ofInt (i_i2b (i_shr a4_ (-(8 * (k_ % 4)) + 24))))).toInt))) rfl ?_
              refine sm_T_bin (w := (S_.1 13 0 2) + 1) rfl (bi_add (by omega) (by omega) (by omega)) ?_ -- pc_ 117
              have hIx17_ : gi (sm_pI (sm_aI S_ 118 0 (S_.1 13 0 2).toNat ((vp_nar .byte (Int32.ofInt (i_i2b (i_shr a4_ (-(8 * (k_ % 4)) + 24))))).toInt)) 13 0 2 ((S_.1 13 0 2) + 1)) := gi_pI hIx15_ (show 0 ≤ (S_.1 13 0 2) + 1 ∧ (S_.1 13 0 2) + 1 ≤ 1280 from ⟨by omega, by omega⟩)
              have hFx18_ : ai_fr (sx_W vw_279) S0_ (sm_pI (sm_aI S_ 118 0 (S_.1 13 0 2).toNat ((vp_nar .byte (Int32.ofInt (i_i2b (i_shr a4_ (-(8 * (k_ % 4)) + 24))))).toInt)) 13 0 2 ((S_.1 13 0 2) + 1)) := ai_fr_tr hFx16_ (ai_fr_pI rfl)
              refine sm_T_go 1 (c1 := (121, [some (.inr (.inr (some (13, 0)))), some (.inl a1_), some (.inl a2_), some (.inl a3_), some (.inl a4_), some (.inl a5_), some (.inl k_), some (.inl a4_)], [], sm_pI (sm_aI S_ 118 0 (S_.1 13 0 2).toNat ((vp_nar .byte (Int32.ofInt (i_i2b (i_shr a4_ (-(8 * (k_ % 4)) + 24))))).toInt)) 13 0 2 ((S_.1 13 0 2) + 1))) rfl ?_
              refine sm_T_inc (a := 6) (z := 1) (v := k_) (w := k_ + 1) rfl rfl (by omega) (by omega) (by omega) ?_ -- pc_ 121
              refine sm_T_go 1 (c1 := (33, [some (.inr (.inr (some (13, 0)))), some (.inl a1_), some (.inl a2_), some (.inl a3_), some (.inl a4_), some (.inl a5_), some (.inl (k_ + 1)), some (.inl a4_)], [], sm_pI (sm_aI S_ 118 0 (S_.1 13 0 2).toNat ((vp_nar .byte (Int32.ofInt (i_i2b (i_shr a4_ (-(8 * (k_ % 4)) + 24))))).toInt)) 13 0 2 ((S_.1 13 0 2) + 1))) rfl ?_
              refine sm_T_wk [some (.inr (.inr (some (13, 0)))), some (.inl a1_), some (.inl a2_), some (.inl a3_), some (.inl a4_), some (.inl a5_), some (.inl (k_ + 1)), none] (by exact ⟨rfl, rfl, rfl, rfl, rfl, rfl, rfl, trivial⟩) ?_
              refine ih_ (k_ + 1) (sm_pI (sm_aI S_ 118 0 (S_.1 13 0 2).toNat ((vp_nar .byte (Int32.ofInt (i_i2b (i_shr a4_ (-(8 * (k_ % 4)) + 24))))).toInt)) 13 0 2 ((S_.1 13 0 2) + 1)) hIx17_ hFx18_ ⟨?_, ?_, ?_, trivial⟩ ?_
              · (rw [rf_eq]; omega)
              · (rw [rf_nk (by decide)]; exact hz_)
              · intro j_
                have w9_ := hb_ j_
                rw [rd_fa, rd_eq]
                by_cases y_ : j_ = (S_.1 13 0 2).toNat
                · rw [if_pos y_, if_pos (by omega)]
                  unfold fdw fby
                  rw [show j_ - (S0_.1 13 0 2).toNat = k_.toNat by omega]
                  rw [show 24 - 8 * ((k_.toNat % 4 : Nat) : Int) = -(8 * (k_ % 4)) + 24 by omega]
                  first | rw [if_pos (by omega)] | rw [if_neg (by omega), if_pos (by omega)] | rw [if_neg (by omega), if_neg (by omega), if_pos (by omega)] | rw [if_neg (by omega), if_neg (by omega), if_neg (by omega), if_pos (by omega)] | rw [if_neg (by omega), if_neg (by omega), if_neg (by omega), if_neg (by omega)]
                · rw [if_neg y_, w9_]
                  by_cases z_ : (S0_.1 13 0 2).toNat ≤ j_ ∧ (j_ : Int) < S0_.1 13 0 2 + k_
                  · rw [if_pos z_, if_pos (by omega)]
                  · rw [if_neg z_, if_neg (by omega)]
              · omega
          · have cx5_ : ¬ (12 ≤ k_) := of_decide_eq_false cx5_
            have bx19_ : 0 ≤ S_.1 13 0 2 ∧ S_.1 13 0 2 ≤ 1280 := hI_.1 13 0 2 rfl
            refine sm_T_go 12 (c1 := (105, [some (.inr (.inr (some (13, 0)))), some (.inl a1_), some (.inl a2_), some (.inl a3_), some (.inl a4_), some (.inl a5_), some (.inl k_), some (.inl a3_)], [.inl 3, .inl k_, .inl 8, .inl 24, .inl a3_, .inl (S_.1 13 0 2), .inr (.inr (some (118, 0)))], S_)) rfl ?_
            refine sm_T_bin (w := (k_ % 4)) rfl (bi_msk (k := 2) (by decide)) ?_ -- pc_ 105
            refine sm_T_bin (w := 8 * (k_ % 4)) rfl (bi_mul (by omega) (by omega) (by omega)) ?_ -- pc_ 106
            refine sm_T_bin (w := -(8 * (k_ % 4)) + 24) rfl (bi_sub (by omega) (by omega) (by omega)) ?_ -- pc_ 107
            refine sm_T_bin (w := (i_shr a3_ (-(8 * (k_ % 4)) + 24))) rfl rfl ?_ -- pc_ 108
            refine sm_T_go 1 (c1 := (110, [some (.inr (.inr (some (13, 0)))), some (.inl a1_), some (.inl a2_), some (.inl a3_), some (.inl a4_), some (.inl a5_), some (.inl k_), some (.inl a3_)], [.inl (i_i2b (i_shr a3_ (-(8 * (k_ % 4)) + 24))), .inl (S_.1 13 0 2), .inr (.inr (some (118, 0)))], S_)) rfl ?_
            refine sm_T_bast (n := 65536) rfl rfl (by omega) (by omega) ?_
            have bx20_ := ai_nar_b (Int32.ofInt (i_i2b (i_shr a3_ (-(8 * (k_ % 4)) + 24))))
            have hIx21_ : gi (sm_aI S_ 118 0 (S_.1 13 0 2).toNat ((vp_nar .byte (Int32.ofInt (i_i2b (i_shr a3_ (-(8 * (k_ % 4)) + 24))))).toInt)) := gi_aI hI_ (show (-128) ≤ ((vp_nar .byte (Int32.ofInt (i_i2b (i_shr a3_ (-(8 * (k_ % 4)) + 24))))).toInt) ∧ ((vp_nar .byte (Int32.ofInt (i_i2b (i_shr a3_ (-(8 * (k_ % 4)) + 24))))).toInt) ≤ 127 from ⟨by omega, by omega⟩)
            have hFx22_ : ai_fr (sx_W vw_279) S0_ (sm_aI S_ 118 0 (S_.1 13 0 2).toNat ((vp_nar .byte (Int32.ofInt (i_i2b (i_shr a3_ (-(8 * (k_ % 4)) + 24))))).toInt)) := ai_fr_tr hF_ (ai_fr_aI rfl)
            refine sm_T_go 4 (c1 := (117, [some (.inr (.inr (some (13, 0)))), some (.inl a1_), some (.inl a2_), some (.inl a3_), some (.inl a4_), some (.inl a5_), some (.inl k_), some (.inl a3_)], [.inl 1, .inl (S_.1 13 0 2), .inr (.inr (some (13, 0)))], sm_aI S_ 118 0 (S_.1 13 0 2).toNat ((vp_nar .byte (Int32.ofInt (i_i2b (i_shr a3_ (-(8 * (k_ % 4)) + 24))))).toInt))) rfl ?_
            refine sm_T_bin (w := (S_.1 13 0 2) + 1) rfl (bi_add (by omega) (by omega) (by omega)) ?_ -- pc_ 117
            have hIx23_ : gi (sm_pI (sm_aI S_ 118 0 (S_.1 13 0 2).toNat ((vp_nar .byte (Int32.ofInt (i_i2b (i_shr a3_ (-(8 * (k_ % 4)) + 24))))).toInt)) 13 0 2 ((S_.1 13 0 2) + 1)) := gi_pI hIx21_ (show 0 ≤ (S_.1 13 0 2) + 1 ∧ (S_.1 13 0 2) + 1 ≤ 1280 from ⟨by omega, by omega⟩)
            have hFx24_ : ai_fr (sx_W vw_279) S0_ (sm_pI (sm_aI S_ 118 0 (S_.1 13 0 2).toNat ((vp_nar .byte (Int32.ofInt (i_i2b (i_shr a3_ (-(8 * (k_ % 4)) + 24))))).toInt)) 13 0 2 ((S_.1 13 0 2) + 1)) := ai_fr_tr hFx22_ (ai_fr_pI rfl)
            refine sm_T_go 1 (c1 := (121, [some (.inr (.inr (some (13, 0)))), some (.inl a1_), some (.inl a2_), some (.inl a3_), some (.inl a4_), some (.inl a5_), some (.inl k_), some (.inl a3_)], [], sm_pI (sm_aI S_ 118 0 (S_.1 13 0 2).toNat ((vp_nar .byte (Int32.ofInt (i_i2b (i_shr a3_ (-(8 * (k_ % 4)) + 24))))).toInt)) 13 0 2 ((S_.1 13 0 2) + 1))) rfl ?_
            refine sm_T_inc (a := 6) (z := 1) (v := k_) (w := k_ + 1) rfl rfl (by omega) (by omega) (by omega) ?_ -- pc_ 121
            refine sm_T_go 1 (c1 := (33, [some (.inr (.inr (some (13, 0)))), some (.inl a1_), some (.inl a2_), some (.inl a3_), some (.inl a4_), some (.inl a5_), some (.inl (k_ + 1)), some (.inl a3_)], [], sm_pI (sm_aI S_ 118 0 (S_.1 13 0 2).toNat ((vp_nar .byte (Int32.ofInt (i_i2b (i_shr a3_ (-(8 * (k_ % 4)) + 24))))).toInt)) 13 0 2 ((S_.1 13 0 2) + 1))) rfl ?_
            refine sm_T_wk [some (.inr (.inr (some (13, 0)))), some (.inl a1_), some (.inl a2_), some (.inl a3_), some (.inl a4_), some (.inl a5_), some (.inl (k_ + 1)), none] (by exact ⟨rfl, rfl, rfl, rfl, rfl, rfl, rfl, trivial⟩) ?_
            refine ih_ (k_ + 1) (sm_pI (sm_aI S_ 118 0 (S_.1 13 0 2).toNat ((vp_nar .byte (Int32.ofInt (i_i2b (i_shr a3_ (-(8 * (k_ % 4)) + 24))))).toInt)) 13 0 2 ((S_.1 13 0 2) + 1)) hIx23_ hFx24_ ⟨?_, ?_, ?_, trivial⟩ ?_
            · (rw [rf_eq]; omega)
            · (rw [rf_nk (by decide)]; exact hz_)
            · intro j_
              have w9_ := hb_ j_
              rw [rd_fa, rd_eq]
              by_cases y_ : j_ = (S_.1 13 0 2).toNat
              · rw [if_pos y_, if_pos (by omega)]
                unfold fdw fby
                rw [show j_ - (S0_.1 13 0 2).toNat = k_.toNat by omega]
                rw [show 24 - 8 * ((k_.toNat % 4 : Nat) : Int) = -(8 * (k_ % 4)) + 24 by omega]
                first | rw [if_pos (by omega)] | rw [if_neg (by omega), if_pos (by omega)] | rw [if_neg (by omega), if_neg (by omega), if_pos (by omega)] | rw [if_neg (by omega), if_neg (by omega), if_neg (by omega), if_pos (by omega)] | rw [if_neg (by omega), if_neg (by omega), if_neg (by omega), if_neg (by omega)]
              · rw [if_neg y_, w9_]
                by_cases z_ : (S0_.1 13 0 2).toNat ≤ j_ ∧ (j_ : Int) < S0_.1 13 0 2 + k_
                · rw [if_pos z_, if_pos (by omega)]
                · rw [if_neg z_, if_neg (by omega)]
            · omega
        · have cx4_ : ¬ (8 ≤ k_) := of_decide_eq_false cx4_
          have bx25_ : 0 ≤ S_.1 13 0 2 ∧ S_.1 13 0 2 ≤ 1280 := hI_.1 13 0 2 rfl
          refine sm_T_go 12 (c1 := (105, [some (.inr (.inr (some (13, 0)))), some (.inl a1_), some (.inl a2_), some (.inl a3_), some (.inl a4_), some (.inl a5_), some (.inl k_), some (.inl a2_)], [.inl 3, .inl k_, .inl 8, .inl 24, .inl a2_, .inl (S_.1 13 0 2), .inr (.inr (some (118, 0)))], S_)) rfl ?_
          refine sm_T_bin (w := (k_ % 4)) rfl (bi_msk (k := 2) (by decide)) ?_ -- pc_ 105
          refine sm_T_bin (w := 8 * (k_ % 4)) rfl (bi_mul (by omega) (by omega) (by omega)) ?_ -- pc_ 106
          refine sm_T_bin (w := -(8 * (k_ % 4)) + 24) rfl (bi_sub (by omega) (by omega) (by omega)) ?_ -- pc_ 107
          refine sm_T_bin (w := (i_shr a2_ (-(8 * (k_ % 4)) + 24))) rfl rfl ?_ -- pc_ 108
          refine sm_T_go 1 (c1 := (110, [some (.inr (.inr (some (13, 0)))), some (.inl a1_), some (.inl a2_), some (.inl a3_), some (.inl a4_), some (.inl a5_), some (.inl k_), some (.inl a2_)], [.inl (i_i2b (i_shr a2_ (-(8 * (k_ % 4)) + 24))), .inl (S_.1 13 0 2), .inr (.inr (some (118, 0)))], S_)) rfl ?_
          refine sm_T_bast (n := 65536) rfl rfl (by omega) (by omega) ?_
          have bx26_ := ai_nar_b (Int32.ofInt (i_i2b (i_shr a2_ (-(8 * (k_ % 4)) + 24))))
          have hIx27_ : gi (sm_aI S_ 118 0 (S_.1 13 0 2).toNat ((vp_nar .byte (Int32.ofInt (i_i2b (i_shr a2_ (-(8 * (k_ % 4)) + 24))))).toInt)) := gi_aI hI_ (show (-128) ≤ ((vp_nar .byte (Int32.ofInt (i_i2b (i_shr a2_ (-(8 * (k_ % 4)) + 24))))).toInt) ∧ ((vp_nar .byte (Int32.ofInt (i_i2b (i_shr a2_ (-(8 * (k_ % 4)) + 24))))).toInt) ≤ 127 from ⟨by omega, by omega⟩)
          have hFx28_ : ai_fr (sx_W vw_279) S0_ (sm_aI S_ 118 0 (S_.1 13 0 2).toNat ((vp_nar .byte (Int32.ofInt (i_i2b (i_shr a2_ (-(8 * (k_ % 4)) + 24))))).toInt)) := ai_fr_tr hF_ (ai_fr_aI rfl)
          refine sm_T_go 4 (c1 := (117, [some (.inr (.inr (some (13, 0)))), some (.inl a1_), some (.inl a2_), some (.inl a3_), some (.inl a4_), some (.inl a5_), some (.inl k_), some (.inl a2_)], [.inl 1, .inl (S_.1 13 0 2), .inr (.inr (some (13, 0)))], sm_aI S_ 118 0 (S_.1 13 0 2).toNat ((vp_nar .byte (Int32.ofInt (i_i2b (i_shr a2_ (-(8 * (k_ % 4)) + 24))))).toInt))) rfl ?_
          refine sm_T_bin (w := (S_.1 13 0 2) + 1) rfl (bi_add (by omega) (by omega) (by omega)) ?_ -- pc_ 117
          have hIx29_ : gi (sm_pI (sm_aI S_ 118 0 (S_.1 13 0 2).toNat ((vp_nar .byte (Int32.ofInt (i_i2b (i_shr a2_ (-(8 * (k_ % 4)) + 24))))).toInt)) 13 0 2 ((S_.1 13 0 2) + 1)) := gi_pI hIx27_ (show 0 ≤ (S_.1 13 0 2) + 1 ∧ (S_.1 13 0 2) + 1 ≤ 1280 from ⟨by omega, by omega⟩)
          have hFx30_ : ai_fr (sx_W vw_279) S0_ (sm_pI (sm_aI S_ 118 0 (S_.1 13 0 2).toNat ((vp_nar .byte (Int32.ofInt (i_i2b (i_shr a2_ (-(8 * (k_ % 4)) + 24))))).toInt)) 13 0 2 ((S_.1 13 0 2) + 1)) := ai_fr_tr hFx28_ (ai_fr_pI rfl)
          refine sm_T_go 1 (c1 := (121, [some (.inr (.inr (some (13, 0)))), some (.inl a1_), some (.inl a2_), some (.inl a3_), some (.inl a4_), some (.inl a5_), some (.inl k_), some (.inl a2_)], [], sm_pI (sm_aI S_ 118 0 (S_.1 13 0 2).toNat ((vp_nar .byte (Int32.ofInt (i_i2b (i_shr a2_ (-(8 * (k_ % 4)) + 24))))).toInt)) 13 0 2 ((S_.1 13 0 2) + 1))) rfl ?_
          refine sm_T_inc (a := 6) (z := 1) (v := k_) (w := k_ + 1) rfl rfl (by omega) (by omega) (by omega) ?_ -- pc_ 121
          refine sm_T_go 1 (c1 := (33, [some (.inr (.inr (some (13, 0)))), some (.inl a1_), some (.inl a2_), some (.inl a3_), some (.inl a4_), some (.inl a5_), some (.inl (k_ + 1)), some (.inl a2_)], [], sm_pI (sm_aI S_ 118 0 (S_.1 13 0 2).toNat ((vp_nar .byte (Int32.ofInt (i_i2b (i_shr a2_ (-(8 * (k_ % 4)) + 24))))).toInt)) 13 0 2 ((S_.1 13 0 2) + 1))) rfl ?_
          refine sm_T_wk [some (.inr (.inr (some (13, 0)))), some (.inl a1_), some (.inl a2_), some (.inl a3_), some (.inl a4_), some (.inl a5_), some (.inl (k_ + 1)), none] (by exact ⟨rfl, rfl, rfl, rfl, rfl, rfl, rfl, trivial⟩) ?_
          refine ih_ (k_ + 1) (sm_pI (sm_aI S_ 118 0 (S_.1 13 0 2).toNat ((vp_nar .byte (Int32.ofInt (i_i2b (i_shr a2_ (-(8 * (k_ % 4)) + 24))))).toInt)) 13 0 2 ((S_.1 13 0 2) + 1)) hIx29_ hFx30_ ⟨?_, ?_, ?_, trivial⟩ ?_
          · (rw [rf_eq]; omega)
          · (rw [rf_nk (by decide)]; exact hz_)
          · intro j_
            have w9_ := hb_ j_
            rw [rd_fa, rd_eq]
            by_cases y_ : j_ = (S_.1 13 0 2).toNat
            · rw [if_pos y_, if_pos (by omega)]
              unfold fdw fby
              rw [show j_ - (S0_.1 13 0 2).toNat = k_.toNat by omega]
              rw [show 24 - 8 * ((k_.toNat % 4 : Nat) : Int) = -(8 * (k_ % 4)) + 24 by omega]
              first | rw [if_pos (by omega)] | rw [if_neg (by omega), if_pos (by omega)] | rw [if_neg (by omega), if_neg (by omega), if_pos (by omega)] | rw [if_neg (by omega), if_neg (by omega), if_neg (by omega), if_pos (by omega)] | rw [if_neg (by omega), if_neg (by omega), if_neg (by omega), if_neg (by omega)]
            · rw [if_neg y_, w9_]
              by_cases z_ : (S0_.1 13 0 2).toNat ≤ j_ ∧ (j_ : Int) < S0_.1 13 0 2 + k_
              · rw [if_pos z_, if_pos (by omega)]
              · rw [if_neg z_, if_neg (by omega)]
          · omega
      · have cx3_ : ¬ (4 ≤ k_) := of_decide_eq_false cx3_
        have bx31_ : 0 ≤ S_.1 13 0 2 ∧ S_.1 13 0 2 ≤ 1280 := hI_.1 13 0 2 rfl
        refine sm_T_go 12 (c1 := (105, [some (.inr (.inr (some (13, 0)))), some (.inl a1_), some (.inl a2_), some (.inl a3_), some (.inl a4_), some (.inl a5_), some (.inl k_), some (.inl a1_)], [.inl 3, .inl k_, .inl 8, .inl 24, .inl a1_, .inl (S_.1 13 0 2), .inr (.inr (some (118, 0)))], S_)) rfl ?_
        refine sm_T_bin (w := (k_ % 4)) rfl (bi_msk (k := 2) (by decide)) ?_ -- pc_ 105
        refine sm_T_bin (w := 8 * (k_ % 4)) rfl (bi_mul (by omega) (by omega) (by omega)) ?_ -- pc_ 106
        refine sm_T_bin (w := -(8 * (k_ % 4)) + 24) rfl (bi_sub (by omega) (by omega) (by omega)) ?_ -- pc_ 107
        refine sm_T_bin (w := (i_shr a1_ (-(8 * (k_ % 4)) + 24))) rfl rfl ?_ -- pc_ 108
        refine sm_T_go 1 (c1 := (110, [some (.inr (.inr (some (13, 0)))), some (.inl a1_), some (.inl a2_), some (.inl a3_), some (.inl a4_), some (.inl a5_), some (.inl k_), some (.inl a1_)], [.inl (i_i2b (i_shr a1_ (-(8 * (k_ % 4)) + 24))), .inl (S_.1 13 0 2), .inr (.inr (some (118, 0)))], S_)) rfl ?_
        refine sm_T_bast (n := 65536) rfl rfl (by omega) (by omega) ?_
        have bx32_ := ai_nar_b (Int32.ofInt (i_i2b (i_shr a1_ (-(8 * (k_ % 4)) + 24))))
        have hIx33_ : gi (sm_aI S_ 118 0 (S_.1 13 0 2).toNat ((vp_nar .byte (Int32.ofInt (i_i2b (i_shr a1_ (-(8 * (k_ % 4)) + 24))))).toInt)) := gi_aI hI_ (show (-128) ≤ ((vp_nar .byte (Int32.ofInt (i_i2b (i_shr a1_ (-(8 * (k_ % 4)) + 24))))).toInt) ∧ ((vp_nar .byte (Int32.ofInt (i_i2b (i_shr a1_ (-(8 * (k_ % 4)) + 24))))).toInt) ≤ 127 from ⟨by omega, by omega⟩)
        have hFx34_ : ai_fr (sx_W vw_279) S0_ (sm_aI S_ 118 0 (S_.1 13 0 2).toNat ((vp_nar .byte (Int32.ofInt (i_i2b (i_shr a1_ (-(8 * (k_ % 4)) + 24))))).toInt)) := ai_fr_tr hF_ (ai_fr_aI rfl)
        refine sm_T_go 4 (c1 := (117, [some (.inr (.inr (some (13, 0)))), some (.inl a1_), some (.inl a2_), some (.inl a3_), some (.inl a4_), some (.inl a5_), some (.inl k_), some (.inl a1_)], [.inl 1, .inl (S_.1 13 0 2), .inr (.inr (some (13, 0)))], sm_aI S_ 118 0 (S_.1 13 0 2).toNat ((vp_nar .byte (Int32.ofInt (i_i2b (i_shr a1_ (-(8 * (k_ % 4)) + 24))))).toInt))) rfl ?_
        refine sm_T_bin (w := (S_.1 13 0 2) + 1) rfl (bi_add (by omega) (by omega) (by omega)) ?_ -- pc_ 117
        have hIx35_ : gi (sm_pI (sm_aI S_ 118 0 (S_.1 13 0 2).toNat ((vp_nar .byte (Int32.ofInt (i_i2b (i_shr a1_ (-(8 * (k_ % 4)) + 24))))).toInt)) 13 0 2 ((S_.1 13 0 2) + 1)) := gi_pI hIx33_ (show 0 ≤ (S_.1 13 0 2) + 1 ∧ (S_.1 13 0 2) + 1 ≤ 1280 from ⟨by omega, by omega⟩)
        have hFx36_ : ai_fr (sx_W vw_279) S0_ (sm_pI (sm_aI S_ 118 0 (S_.1 13 0 2).toNat ((vp_nar .byte (Int32.ofInt (i_i2b (i_shr a1_ (-(8 * (k_ % 4)) + 24))))).toInt)) 13 0 2 ((S_.1 13 0 2) + 1)) := ai_fr_tr hFx34_ (ai_fr_pI rfl)
        refine sm_T_go 1 (c1 := (121, [some (.inr (.inr (some (13, 0)))), some (.inl a1_), some (.inl a2_), some (.inl a3_), some (.inl a4_), some (.inl a5_), some (.inl k_), some (.inl a1_)], [], sm_pI (sm_aI S_ 118 0 (S_.1 13 0 2).toNat ((vp_nar .byte (Int32.ofInt (i_i2b (i_shr a1_ (-(8 * (k_ % 4)) + 24))))).toInt)) 13 0 2 ((S_.1 13 0 2) + 1))) rfl ?_
        refine sm_T_inc (a := 6) (z := 1) (v := k_) (w := k_ + 1) rfl rfl (by omega) (by omega) (by omega) ?_ -- pc_ 121
        refine sm_T_go 1 (c1 := (33, [some (.inr (.inr (some (13, 0)))), some (.inl a1_), some (.inl a2_), some (.inl a3_), some (.inl a4_), some (.inl a5_), some (.inl (k_ + 1)), some (.inl a1_)], [], sm_pI (sm_aI S_ 118 0 (S_.1 13 0 2).toNat ((vp_nar .byte (Int32.ofInt (i_i2b (i_shr a1_ (-(8 * (k_ % 4)) + 24))))).toInt)) 13 0 2 ((S_.1 13 0 2) + 1))) rfl ?_
        refine sm_T_wk [some (.inr (.inr (some (13, 0)))), some (.inl a1_), some (.inl a2_), some (.inl a3_), some (.inl a4_), some (.inl a5_), some (.inl (k_ + 1)), none] (by exact ⟨rfl, rfl, rfl, rfl, rfl, rfl, rfl, trivial⟩) ?_
        refine ih_ (k_ + 1) (sm_pI (sm_aI S_ 118 0 (S_.1 13 0 2).toNat ((vp_nar .byte (Int32.ofInt (i_i2b (i_shr a1_ (-(8 * (k_ % 4)) + 24))))).toInt)) 13 0 2 ((S_.1 13 0 2) + 1)) hIx35_ hFx36_ ⟨?_, ?_, ?_, trivial⟩ ?_
        · (rw [rf_eq]; omega)
        · (rw [rf_nk (by decide)]; exact hz_)
        · intro j_
          have w9_ := hb_ j_
          rw [rd_fa, rd_eq]
          by_cases y_ : j_ = (S_.1 13 0 2).toNat
          · rw [if_pos y_, if_pos (by omega)]
            unfold fdw fby
            rw [show j_ - (S0_.1 13 0 2).toNat = k_.toNat by omega]
            rw [show 24 - 8 * ((k_.toNat % 4 : Nat) : Int) = -(8 * (k_ % 4)) + 24 by omega]
            first | rw [if_pos (by omega)] | rw [if_neg (by omega), if_pos (by omega)] | rw [if_neg (by omega), if_neg (by omega), if_pos (by omega)] | rw [if_neg (by omega), if_neg (by omega), if_neg (by omega), if_pos (by omega)] | rw [if_neg (by omega), if_neg (by omega), if_neg (by omega), if_neg (by omega)]
          · rw [if_neg y_, w9_]
            by_cases z_ : (S0_.1 13 0 2).toNat ≤ j_ ∧ (j_ : Int) < S0_.1 13 0 2 + k_
            · rw [if_pos z_, if_pos (by omega)]
            · rw [if_neg z_, if_neg (by omega)]
        · omega
set_option maxHeartbeats 2000000 in
theorem vc_279 {sc_ : Nat × (Nat → Int)} (a1_ : Int) (a2_ : Int) (a3_ : Int) (a4_ : Int) (a5_ : Int) (S0_ : sm_S) (hI_ : gi S0_) (h1_ : S0_.1 13 0 2 ≤ 1260) : sm_T (mt_P sc_) 0 279 (0, [some (.inr (.inr (some (13, 0)))), some (.inl a1_), some (.inl a2_), some (.inl a3_), some (.inl a4_), some (.inl a5_), none, none], [], S0_) (fun ro9_ => ∃ u_ S1_, ro9_ = (.inl u_, S1_, 0) ∧ vq_279 a1_ a2_ a3_ a4_ a5_ S0_ u_ S1_) := by
  have hF_ : ai_fr (sx_W vw_279) S0_ S0_ := ai_fr_rf
  have cl_ : 0 ≤ S0_.1 13 0 2 ∧ S0_.1 13 0 2 ≤ 1280 := hI_.1 13 0 2 rfl
  have bx1_ : 0 ≤ S0_.1 13 0 2 ∧ S0_.1 13 0 2 ≤ 1280 := hI_.1 13 0 2 rfl
  refine sm_T_go 4 (c1 := (7, [some (.inr (.inr (some (13, 0)))), some (.inl a1_), some (.inl a2_), some (.inl a3_), some (.inl a4_), some (.inl a5_), none, none], [.inl 20, .inl (S0_.1 13 0 2), .inr (.inr (some (13, 0)))], S0_)) rfl ?_
  refine sm_T_bin (w := (S0_.1 13 0 2) + 20) rfl (bi_add (by omega) (by omega) (by omega)) ?_ -- pc_ 7
  refine sm_T_nt (u := some (.inl 65536)) (S1 := S0_) rfl rfl rfl ?_
  refine sm_T_br (a := 5) (z := 7) rfl (fun cx2_ => ?_) (fun cx2_ => ?_)
  · have cx2_ : (S0_.1 13 0 2) + 20 ≤ 65536 := of_decide_eq_true cx2_
    have hIx3_ : gi (sm_pI S0_ 13 0 0 0) := gi_pI hI_ (show 0 ≤ 0 ∧ 0 ≤ 4 from ⟨by omega, by omega⟩)
    have hFx4_ : ai_fr (sx_W vw_279) S0_ (sm_pI S0_ 13 0 0 0) := ai_fr_tr hF_ (ai_fr_pI rfl)
    refine sm_T_go 7 (c1 := (33, [some (.inr (.inr (some (13, 0)))), some (.inl a1_), some (.inl a2_), some (.inl a3_), some (.inl a4_), some (.inl a5_), some (.inl 0), none], [], sm_pI S0_ 13 0 0 0)) rfl ?_
    refine (vl_279 a1_ a2_ a3_ a4_ a5_ S0_ h1_ _) 0 (sm_pI S0_ 13 0 0 0) hIx3_ hFx4_ ⟨?_, ?_, ?_, trivial⟩ (Nat.lt_succ_self _)
    · (first | omega | (rw [rf_nk (by decide)]; omega))
    · first | exact rf_eq | rfl
    · (intro j_; rw [if_neg (by omega)]; first | rfl | rw [rd_fa])
  · have cx2_ : ¬ ((S0_.1 13 0 2) + 20 ≤ 65536) := of_decide_eq_false cx2_
    exfalso; omega
