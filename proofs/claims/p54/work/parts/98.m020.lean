/-! 99.zq2a -/
section
/-! bytes fed to the reference; written by wip/p55/gen/vg -/
/-! M_.feed -/
def vw_279 : sx_Wl := ([(13, 0), (13, 2)], [118], [])
def vq_279 (a1_ : Int) (a2_ : Int) (a3_ : Int) (a4_ : Int) (a5_ : Int) (S0_ : sm_S) (u_ : Option sm_V) (S1_ : sm_S) : Prop := ∃ v_ : Int, u_ = some (.inl v_) ∧ gi S1_ ∧ ai_fr (sx_W vw_279) S0_ S1_ ∧ (v_ = S1_.1 13 0 2 ∧ S1_.1 13 0 2 = S0_.1 13 0 2 + 20 ∧ S1_.1 13 0 0 = 0 ∧ S1_.2.2.1 118 0 = fed (S0_.2.2.1 118 0) (S0_.1 13 0 2).toNat a1_ a2_ a3_ a4_ a5_)
set_option maxHeartbeats 2000000 in
theorem vl_279 {sc_ : Nat × (Nat → Int)} (a1_ : Int) (a2_ : Int) (a3_ : Int) (a4_ : Int) (a5_ : Int) (S0_ : sm_S) (h1_ : S0_.1 13 0 2 ≤ 1260) : ∀ nn_ : Nat, (∀ (k_ : Int) (S_ : sm_S), gi S_ → ai_fr (sx_W vw_279) S0_ S_ → ((0 ≤ k_ ∧ k_ ≤ 20 ∧ S_.1 13 0 2 = S0_.1 13 0 2 + k_ ∧ 0 ≤ S0_.1 13 0 2) ∧ (S_.1 13 0 0 = 0) ∧ (∀ j_ : Nat, S_.2.2.1 118 0 j_ = if (S0_.1 13 0 2).toNat ≤ j_ ∧ (j_ : Int) < S0_.1 13 0 2 + k_ then fdw a1_ a2_ a3_ a4_ a5_ (j_ - (S0_.1 13 0 2).toNat) else S0_.2.2.1 118 0 j_) ∧ True) → ((100 - k_).toNat) < nn_ → sm_T (mt_P sc_) 0 279 (33, [some (.inr (.inr (some (13, 0)))), some (.inl a1_), some (.inl a2_), some (.inl a3_), some (.inl a4_), some (.inl a5_), some (.inl k_), none], [], S_) (fun ro9_ => ∃ u_ S1_, ro9_ = (.inl u_, S1_, 0) ∧ vq_279 a1_ a2_ a3_ a4_ a5_ S0_ u_ S1_)) := by
  intro nn_
  induction nn_ with
  | zero => exact fun _ _ _ _ _ h_ => absurd h_ (Nat.not_lt_zero _)
  | succ nn_ ih_ =>
    rintro k_ S_ hI_ hF_ ⟨h0_, hz_, hb_, -⟩ hm_
    refine sm_T_go 2 (c1 := (37, [some (.inr (.inr (some (13, 0)))), some (.inl a1_), some (.inl a2_), some (.inl a3_), some (.inl a4_), some (.inl a5_), some (.inl k_), none], [.inl 20, .inl k_], S_)) rfl ?_
    refine sm_T_br (a := 3) (z := 90) rfl (fun cx1_ => ?_) (fun cx1_ => ?_)
    · have cx1_ : 20 ≤ k_ := of_decide_eq_true cx1_
      have bx2_ : 0 ≤ S_.1 13 0 2 ∧ S_.1 13 0 2 ≤ 1280 := hI_.1 13 0 2 rfl
      refine sm_T_go 2 (c1 := (131, [some (.inr (.inr (some (13, 0)))), some (.inl a1_), some (.inl a2_), some (.inl a3_), some (.inl a4_), some (.inl a5_), some (.inl k_), none], [.inl (S_.1 13 0 2)], S_)) rfl ?_
      refine sm_T_ri rfl ⟨_, _, rfl, _, rfl, hI_, hF_, ?_⟩
      refine ⟨rfl, by omega, hz_, funext fun j_ => ?_⟩
      rw [hb_ j_]
      unfold fed
      by_cases y_ : (S0_.1 13 0 2).toNat ≤ j_ ∧ j_ < (S0_.1 13 0 2).toNat + 20
      · rw [if_pos y_, if_pos (by omega)]
      · rw [if_neg y_, if_neg (by omega)]
    · have cx1_ : ¬ (20 ≤ k_) := of_decide_eq_false cx1_
      refine sm_T_go 2 (c1 := (43, [some (.inr (.inr (some (13, 0)))), some (.inl a1_), some (.inl a2_), some (.inl a3_), some (.inl a4_), some (.inl a5_), some (.inl k_), none], [.inl 4, .inl k_], S_)) rfl ?_
      refine sm_T_br (a := 3) (z := 7) rfl (fun cx3_ => ?_) (fun cx3_ => ?_)
      · have cx3_ : 4 ≤ k_ := of_decide_eq_true cx3_
        refine sm_T_go 2 (c1 := (54, [some (.inr (.inr (some (13, 0)))), some (.inl a1_), some (.inl a2_), some (.inl a3_), some (.inl a4_), some (.inl a5_), some (.inl k_), none], [.inl 8, .inl k_], S_)) rfl ?_
        refine sm_T_br (a := 3) (z := 7) rfl (fun cx4_ => ?_) (fun cx4_ => ?_)
        · have cx4_ : 8 ≤ k_ := of_decide_eq_true cx4_
          refine sm_T_go 2 (c1 := (65, [some (.inr (.inr (some (13, 0)))), some (.inl a1_), some (.inl a2_), some (.inl a3_), some (.inl a4_), some (.inl a5_), some (.inl k_), none], [.inl 12, .inl k_], S_)) rfl ?_
          refine sm_T_br (a := 3) (z := 7) rfl (fun cx5_ => ?_) (fun cx5_ => ?_)
          · have cx5_ : 12 ≤ k_ := of_decide_eq_true cx5_
            refine sm_T_go 2 (c1 := (76, [some (.inr (.inr (some (13, 0)))), some (.inl a1_), some (.inl a2_), some (.inl a3_), some (.inl a4_), some (.inl a5_), some (.inl k_), none], [.inl 16, .inl k_], S_)) rfl ?_
            refine sm_T_br (a := 3) (z := 8) rfl (fun cx6_ => ?_) (fun cx6_ => ?_)
            · have cx6_ : 16 ≤ k_ := of_decide_eq_true cx6_
              have bx7_ : 0 ≤ S_.1 13 0 2 ∧ S_.1 13 0 2 ≤ 1280 := hI_.1 13 0 2 rfl
              refine sm_T_go 11 (c1 := (105, [some (.inr (.inr (some (13, 0)))), some (.inl a1_), some (.inl a2_), some (.inl a3_), some (.inl a4_), some (.inl a5_), some (.inl k_), some (.inl a5_)], [.inl 3, .inl k_, .inl 8, .inl 24, .inl a5_, .inl (S_.1 13 0 2), .inr (.inr (some (118, 0)))], S_)) rfl ?_
              refine sm_T_bin (w := (k_ % 4)) rfl (bi_msk (k := 2) (by decide)) ?_ -- pc_ 105
              refine sm_T_bin (w := 8 * (k_ % 4)) rfl (bi_mul (by omega) (by omega) (by omega)) ?_ -- pc_ 106
              refine sm_T_bin (w := -(8 * (k_ % 4)) + 24) rfl (bi_sub (by omega) (by omega) (by omega)) ?_ -- pc_ 107
              refine sm_T_bin (w := (i_shr a5_ (-(8 * (k_ % 4)) + 24))) rfl rfl ?_ -- pc_ 108
              refine sm_T_go 1 (c1 := (110, [some (.inr (.inr (some (13, 0)))), some (.inl a1_), some (.inl a2_), some (.inl a3_), some (.inl a4_), some (.inl a5_), some (.inl k_), some (.inl a5_)], [.inl (i_i2b (i_shr a5_ (-(8 * (k_ % 4)) + 24))), .inl (S_.1 13 0 2), .inr (.inr (some (118, 0)))], S_)) rfl ?_
              refine sm_T_bast (n := 65536) rfl rfl (by omega) (by omega) ?_
              have bx8_ := ai_nar_b (Int32.ofInt (i_i2b (i_shr a5_ (-(8 * (k_ % 4)) + 24))))
              have hIx9_ : gi (sm_aI S_ 118 0 (S_.1 13 0 2).toNat ((vp_nar .byte (Int32.ofInt (i_i2b (i_shr a5_ (-(8 * (k_ % 4)) + 24))))).toInt)) := gi_aI hI_ (show (-128) ≤ ((vp_nar .byte (Int32.ofInt (i_i2b (i_shr a5_ (-(8 * (k_ % 4)) + 24))))).toInt) ∧ ((vp_nar .byte (Int32.ofInt (i_i2b (i_shr a5_ (-(8 * (k_ % 4)) + 24))))).toInt) ≤ 127 from ⟨by omega, by omega⟩)
              have hFx10_ : ai_fr (sx_W vw_279) S0_ (sm_aI S_ 118 0 (S_.1 13 0 2).toNat ((vp_nar .byte (Int32.ofInt (i_i2b (i_shr a5_ (-(8 * (k_ % 4)) + 24))))).toInt)) := ai_fr_tr hF_ (ai_fr_aI rfl)
              refine sm_T_go 4 (c1 := (117, [some (.inr (.inr (some (13, 0)))), some (.inl a1_), some (.inl a2_), some (.inl a3_), some (.inl a4_), some (.inl a5_), some (.inl k_), some (.inl a5_)], [.inl 1, .inl (S_.1 13 0 2), .inr (.inr (some (13, 0)))], sm_aI S_ 118 0 (S_.1 13 0 2).toNat ((vp_nar .byte (Int32.ofInt (i_i2b (i_shr a5_ (-(8 * (k_ % 4)) + 24))))).toInt))) rfl ?_
              refine sm_T_bin (w := (S_.1 13 0 2) + 1) rfl (bi_add (by omega) (by omega) (by omega)) ?_ -- pc_ 117
              have hIx11_ : gi (sm_pI (sm_aI S_ 118 0 (S_.1 13 0 2).toNat ((vp_nar .byte (Int32.ofInt (i_i2b (i_shr a5_ (-(8 * (k_ % 4)) + 24))))).toInt)) 13 0 2 ((S_.1 13 0 2) + 1)) := gi_pI hIx9_ (show 0 ≤ (S_.1 13 0 2) + 1 ∧ (S_.1 13 0 2) + 1 ≤ 1280 from ⟨by omega, by omega⟩)
              have hFx12_ : ai_fr (sx_W vw_279) S0_ (sm_pI (sm_aI S_ 118 0 (S_.1 13 0 2).toNat ((vp_nar .byte (Int32.ofInt (i_i2b (i_shr a5_ (-(8 * (k_ % 4)) + 24))))).toInt)) 13 0 2 ((S_.1 13 0 2) + 1)) := ai_fr_tr hFx10_ (ai_fr_pI rfl)
              refine sm_T_go 1 (c1 := (121, [some (.inr (.inr (some (13, 0)))), some (.inl a1_), some (.inl a2_), some (.inl a3_), some (.inl a4_), some (.inl a5_), some (.inl k_), some (.inl a5_)], [], sm_pI (sm_aI S_ 118 0 (S_.1 13 0 2).toNat ((vp_nar .byte (Int32.ofInt (i_i2b (i_shr a5_ (-(8 * (k_ % 4)) + 24))))).toInt)) 13 0 2 ((S_.1 13 0 2) + 1))) rfl ?_
              refine sm_T_inc (a := 6) (z := 1) (v := k_) (w := k_ + 1) rfl rfl (by omega) (by omega) (by omega) ?_ -- pc_ 121
              refine sm_T_go 1 (c1 := (33, [some (.inr (.inr (some (13, 0)))), some (.inl a1_), some (.inl a2_), some (.inl a3_), some (.inl a4_), some (.inl a5_), some (.inl (k_ + 1)), some (.inl a5_)], [], sm_pI (sm_aI S_ 118 0 (S_.1 13 0 2).toNat ((vp_nar .byte (Int32.ofInt (i_i2b (i_shr a5_ (-(8 * (k_ % 4)) + 24))))).toInt)) 13 0 2 ((S_.1 13 0 2) + 1))) rfl ?_
              refine sm_T_wk [some (.inr (.inr (some (13, 0)))), some (.inl a1_), some (.inl a2_), some (.inl a3_), some (.inl a4_), some (.inl a5_), some (.inl (k_ + 1)), none] (by exact ⟨rfl, rfl, rfl, rfl, rfl, rfl, rfl, trivial⟩) ?_
              refine ih_ (k_ + 1) (sm_pI (sm_aI S_ 118 0 (S_.1 13 0 2).toNat ((vp_nar .byte (Int32.ofInt (i_i2b (i_shr a5_ (-(8 * (k_ % 4)) + 24))))).toInt)) 13 0 2 ((S_.1 13 0 2) + 1)) hIx11_ hFx12_ ⟨?_, ?_, ?_, trivial⟩ ?_
              · (rw [rf_eq]; omega)
              · (rw [rf_nk (by decide)]; exact hz_)
              · intro j_
                have w9_ := hb_ j_
                rw [rd_fa, rd_eq]
                by_cases y_ : j_ = (S_.1 13 0 2).toNat
                · rw [if_pos y_, if_pos (by omega)]
                  unfold fdw fby
                  rw [show j_ - (S0_.1 13 0 2).toNat = k_.toNat by omega]
                  rw [show 24 - 8 * ((k_.toNat % 4 : Nat) : Int) = -(8 * (k_ % 4)) + 24 by omega]
                  first | rw [if_pos (by omega)] | rw [if_neg (by omega), if_pos (by omega)] | rw [if_neg (by omega), if_neg (by omega), if_pos (by omega)] | rw [if_neg (by omega), if_neg (by omega), if_neg (by omega), if_pos (by omega)] | rw [if_neg (by omega), if_neg (by omega), if_neg (by omega), if_neg (by omega)]
                · rw [if_neg y_, w9_]
                  by_cases z_ : (S0_.1 13 0 2).toNat ≤ j_ ∧ (j_ : Int) < S0_.1 13 0 2 + k_
                  · rw [if_pos z_, if_pos (by omega)]
                  · rw [if_neg z_, if_neg (by omega)]
              · omega
            · have cx6_ : ¬ (16 ≤ k_) := of_decide_eq_false cx6_
              have bx13_ : 0 ≤ S_.1 13 0 2 ∧ S_.1 13 0 2 ≤ 1280 := hI_.1 13 0 2 rfl
              refine sm_T_go 12 (c1 := (105, [some (.inr (.inr (some (13, 0)))), some (.inl a1_), some (.inl a2_), some (.inl a3_), some (.inl a4_), some (.inl a5_), some (.inl k_), some (.inl a4_)], [.inl 3, .inl k_, .inl 8, .inl 24, .inl a4_, .inl (S_.1 13 0 2), .inr (.inr (some (118, 0)))], S_)) rfl ?_
              refine sm_T_bin (w := (k_ % 4)) rfl (bi_msk (k := 2) (by decide)) ?_ -- pc_ 105
              refine sm_T_bin (w := 8 * (k_ % 4)) rfl (bi_mul (by omega) (by omega) (by omega)) ?_ -- pc_ 106
              refine sm_T_bin (w := -(8 * (k_ % 4)) + 24) rfl (bi_sub (by omega) (by omega) (by omega)) ?_ -- pc_ 107
              refine sm_T_bin (w := (i_shr a4_ (-(8 * (k_ % 4)) + 24))) rfl rfl ?_ -- pc_ 108
              refine sm_T_go 1 (c1 := (110, [some (.inr (.inr (some (13, 0)))), some (.inl a1_), some (.inl a2_), some (.inl a3_), some (.inl a4_), some (.inl a5_), some (.inl k_), some (.inl a4_)], [.inl (i_i2b (i_shr a4_ (-(8 * (k_ % 4)) + 24))), .inl (S_.1 13 0 2), .inr (.inr (some (118, 0)))], S_)) rfl ?_
              refine sm_T_bast (n := 65536) rfl rfl (by omega) (by omega) ?_
              have bx14_ := ai_nar_b (Int32.ofInt (i_i2b (i_shr a4_ (-(8 * (k_ % 4)) + 24))))
              have hIx15_ : gi (sm_aI S_ 118 0 (S_.1 13 0 2).toNat ((vp_nar .byte (Int32.ofInt (i_i2b (i_shr a4_ (-(8 * (k_ % 4)) + 24))))).toInt)) := gi_aI hI_ (show (-128) ≤ ((vp_nar .byte (Int32.ofInt (i_i2b (i_shr a4_ (-(8 * (k_ % 4)) + 24))))).toInt) ∧ ((vp_nar .byte (Int32.ofInt (i_i2b (i_shr a4_ (-(8 * (k_ % 4)) + 24))))).toInt) ≤ 127 from ⟨by omega, by omega⟩)
              have hFx16_ : ai_fr (sx_W vw_279) S0_ (sm_aI S_ 118 0 (S_.1 13 0 2).toNat ((vp_nar .byte (Int32.ofInt (i_i2b (i_shr a4_ (-(8 * (k_ % 4)) + 24))))).toInt)) := ai_fr_tr hF_ (ai_fr_aI rfl)
              refine sm_T_go 4 (c1 := (117, [some (.inr (.inr (some (13, 0)))), some (.inl a1_), some (.inl a2_), some (.inl a3_), some (.inl a4_), some (.inl a5_), some (.inl k_), some (.inl a4_)], [.inl 1, .inl (S_.1 13 0 2), .inr (.inr (some (13, 0)))], sm_aI S_ 118 0 (S_.1 13 0 2).toNat ((vp_nar .byte (Int32.ofInt (i_i2b (i_shr a4_ (-(8 * (k_ % 4)) + 24))))).toInt))) rfl ?_
              refine sm_T_bin (w := (S_.1 13 0 2) + 1) rfl (bi_add (by omega) (by omega) (by omega)) ?_ -- pc_ 117
              have hIx17_ : gi (sm_pI (sm_aI S_ 118 0 (S_.1 13 0 2).toNat ((vp_nar .byte (Int32.ofInt (i_i2b (i_shr a4_ (-(8 * (k_ % 4)) + 24))))).toInt)) 13 0 2 ((S_.1 13 0 2) + 1)) := gi_pI hIx15_ (show 0 ≤ (S_.1 13 0 2) + 1 ∧ (S_.1 13 0 2) + 1 ≤ 1280 from ⟨by omega, by omega⟩)
              have hFx18_ : ai_fr (sx_W vw_279) S0_ (sm_pI (sm_aI S_ 118 0 (S_.1 13 0 2).toNat ((vp_nar .byte (Int32.ofInt (i_i2b (i_shr a4_ (-(8 * (k_ % 4)) + 24))))).toInt)) 13 0 2 ((S_.1 13 0 2) + 1)) := ai_fr_tr hFx16_ (ai_fr_pI rfl)
              refine sm_T_go 1 (c1 := (121, [some (.inr (.inr (some (13, 0)))), some (.inl a1_), some (.inl a2_), some (.inl a3_), some (.inl a4_), some (.inl a5_), some (.inl k_), some (.inl a4_)], [], sm_pI (sm_aI S_ 118 0 (S_.1 13 0 2).toNat ((vp_nar .byte (Int32.ofInt (i_i2b (i_shr a4_ (-(8 * (k_ % 4)) + 24))))).toInt)) 13 0 2 ((S_.1 13 0 2) + 1))) rfl ?_
              refine sm_T_inc (a := 6) (z := 1) (v := k_) (w := k_ + 1) rfl rfl (by omega) (by omega) (by omega) ?_ -- pc_ 121
              refine sm_T_go 1 (c1 := (33, [some (.inr (.inr (some (13, 0)))), some (.inl a1_), some (.inl a2_), some (.inl a3_), some (.inl a4_), some (.inl a5_), some (.inl (k_ + 1)), some (.inl a4_)], [], sm_pI (sm_aI S_ 118 0 (S_.1 13 0 2).toNat ((vp_nar .byte (Int32.ofInt (i_i2b (i_shr a4_ (-(8 * (k_ % 4)) + 24))))).toInt)) 13 0 2 ((S_.1 13 0 2) + 1))) rfl ?_
              refine sm_T_wk [some (.inr (.inr (some (13, 0)))), some (.inl a1_), some (.inl a2_), some (.inl a3_), some (.inl a4_), some (.inl a5_), some (.inl (k_ + 1)), none] (by exact ⟨rfl, rfl, rfl, rfl, rfl, rfl, rfl, trivial⟩) ?_
              refine ih_ (k_ + 1) (sm_pI (sm_aI S_ 118 0 (S_.1 13 0 2).toNat ((vp_nar .byte (Int32.ofInt (i_i2b (i_shr a4_ (-(8 * (k_ % 4)) + 24))))).toInt)) 13 0 2 ((S_.1 13 0 2) + 1)) hIx17_ hFx18_ ⟨?_, ?_, ?_, trivial⟩ ?_
              · (rw [rf_eq]; omega)
              · (rw [rf_nk (by decide)]; exact hz_)
              · intro j_
                have w9_ := hb_ j_
                rw [rd_fa, rd_eq]
                by_cases y_ : j_ = (S_.1 13 0 2).toNat
                · rw [if_pos y_, if_pos (by omega)]
                  unfold fdw fby
                  rw [show j_ - (S0_.1 13 0 2).toNat = k_.toNat by omega]
                  rw [show 24 - 8 * ((k_.toNat % 4 : Nat) : Int) = -(8 * (k_ % 4)) + 24 by omega]
                  first | rw [if_pos (by omega)] | rw [if_neg (by omega), if_pos (by omega)] | rw [if_neg (by omega), if_neg (by omega), if_pos (by omega)] | rw [if_neg (by omega), if_neg (by omega), if_neg (by omega), if_pos (by omega)] | rw [if_neg (by omega), if_neg (by omega), if_neg (by omega), if_neg (by omega)]
                · rw [if_neg y_, w9_]
                  by_cases z_ : (S0_.1 13 0 2).toNat ≤ j_ ∧ (j_ : Int) < S0_.1 13 0 2 + k_
                  · rw [if_pos z_, if_pos (by omega)]
                  · rw [if_neg z_, if_neg (by omega)]
              · omega
          · have cx5_ : ¬ (12 ≤ k_) := of_decide_eq_false cx5_
            have bx19_ : 0 ≤ S_.1 13 0 2 ∧ S_.1 13 0 2 ≤ 1280 := hI_.1 13 0 2 rfl
            refine sm_T_go 12 (c1 := (105, [some (.inr (.inr (some (13, 0)))), some (.inl a1_), some (.inl a2_), some (.inl a3_), some (.inl a4_), some (.inl a5_), some (.inl k_), some (.inl a3_)], [.inl 3, .inl k_, .inl 8, .inl 24, .inl a3_, .inl (S_.1 13 0 2), .inr (.inr (some (118, 0)))], S_)) rfl ?_
            refine sm_T_bin (w := (k_ % 4)) rfl (bi_msk (k := 2) (by decide)) ?_ -- pc_ 105
            refine sm_T_bin (w := 8 * (k_ % 4)) rfl (bi_mul (by omega) (by omega) (by omega)) ?_ -- pc_ 106
            refine sm_T_bin (w := -(8 * (k_ % 4)) + 24) rfl (bi_sub (by omega) (by omega) (by omega)) ?_ -- pc_ 107
            refine sm_T_bin (w := (i_shr a3_ (-(8 * (k_ % 4)) + 24))) rfl rfl ?_ -- pc_ 108
            refine sm_T_go 1 (c1 := (110, [some (.inr (.inr (some (13, 0)))), some (.inl a1_), some (.inl a2_), some (.inl a3_), some (.inl a4_), some (.inl a5_), some (.inl k_), some (.inl a3_)], [.inl (i_i2b (i_shr a3_ (-(8 * (k_ % 4)) + 24))), .inl (S_.1 13 0 2), .inr (.inr (some (118, 0)))], S_)) rfl ?_
            refine sm_T_bast (n := 65536) rfl rfl (by omega) (by omega) ?_
            have bx20_ := ai_nar_b (Int32.ofInt (i_i2b (i_shr a3_ (-(8 * (k_ % 4)) + 24))))
            have hIx21_ : gi (sm_aI S_ 118 0 (S_.1 13 0 2).toNat ((vp_nar .byte (Int32.ofInt (i_i2b (i_shr a3_ (-(8 * (k_ % 4)) + 24))))).toInt)) := gi_aI hI_ (show (-128) ≤ ((vp_nar .byte (Int32.ofInt (i_i2b (i_shr a3_ (-(8 * (k_ % 4)) + 24))))).toInt) ∧ ((vp_nar .byte (Int32.ofInt (i_i2b (i_shr a3_ (-(8 * (k_ % 4)) + 24))))).toInt) ≤ 127 from ⟨by omega, by omega⟩)
            have hFx22_ : ai_fr (sx_W vw_279) S0_ (sm_aI S_ 118 0 (S_.1 13 0 2).toNat ((vp_nar .byte (Int32.ofInt (i_i2b (i_shr a3_ (-(8 * (k_ % 4)) + 24))))).toInt)) := ai_fr_tr hF_ (ai_fr_aI rfl)
            refine sm_T_go 4 (c1 := (117, [some (.inr (.inr (some (13, 0)))), some (.inl a1_), some (.inl a2_), some (.inl a3_), some (.inl a4_), some (.inl a5_), some (.inl k_), some (.inl a3_)], [.inl 1, .inl (S_.1 13 0 2), .inr (.inr (some (13, 0)))], sm_aI S_ 118 0 (S_.1 13 0 2).toNat ((vp_nar .byte (Int32.ofInt (i_i2b (i_shr a3_ (-(8 * (k_ % 4)) + 24))))).toInt))) rfl ?_
            refine sm_T_bin (w := (S_.1 13 0 2) + 1) rfl (bi_add (by omega) (by omega) (by omega)) ?_ -- pc_ 117
            have hIx23_ : gi (sm_pI (sm_aI S_ 118 0 (S_.1 13 0 2).toNat ((vp_nar .byte (Int32.ofInt (i_i2b (i_shr a3_ (-(8 * (k_ % 4)) + 24))))).toInt)) 13 0 2 ((S_.1 13 0 2) + 1)) := gi_pI hIx21_ (show 0 ≤ (S_.1 13 0 2) + 1 ∧ (S_.1 13 0 2) + 1 ≤ 1280 from ⟨by omega, by omega⟩)
            have hFx24_ : ai_fr (sx_W vw_279) S0_ (sm_pI (sm_aI S_ 118 0 (S_.1 13 0 2).toNat ((vp_nar .byte (Int32.ofInt (i_i2b (i_shr a3_ (-(8 * (k_ % 4)) + 24))))).toInt)) 13 0 2 ((S_.1 13 0 2) + 1)) := ai_fr_tr hFx22_ (ai_fr_pI rfl)
            refine sm_T_go 1 (c1 := (121, [some (.inr (.inr (some (13, 0)))), some (.inl a1_), some (.inl a2_), some (.inl a3_), some (.inl a4_), some (.inl a5_), some (.inl k_), some (.inl a3_)], [], sm_pI (sm_aI S_ 118 0 (S_.1 13 0 2).toNat ((vp_nar .byte (Int32.ofInt (i_i2b (i_shr a3_ (-(8 * (k_ % 4)) + 24))))).toInt)) 13 0 2 ((S_.1 13 0 2) + 1))) rfl ?_
            refine sm_T_inc (a := 6) (z := 1) (v := k_) (w := k_ + 1) rfl rfl (by omega) (by omega) (by omega) ?_ -- pc_ 121
            refine sm_T_go 1 (c1 := (33, [some (.inr (.inr (some (13, 0)))), some (.inl a1_), some (.inl a2_), some (.inl a3_), some (.inl a4_), some (.inl a5_), some (.inl (k_ + 1)), some (.inl a3_)], [], sm_pI (sm_aI S_ 118 0 (S_.1 13 0 2).toNat ((vp_nar .byte (Int32.ofInt (i_i2b (i_shr a3_ (-(8 * (k_ % 4)) + 24))))).toInt)) 13 0 2 ((S_.1 13 0 2) + 1))) rfl ?_
            refine sm_T_wk [some (.inr (.inr (some (13, 0)))), some (.inl a1_), some (.inl a2_), some (.inl a3_), some (.inl a4_), some (.inl a5_), some (.inl (k_ + 1)), none] (by exact ⟨rfl, rfl, rfl, rfl, rfl, rfl, rfl, trivial⟩) ?_
            refine ih_ (k_ + 1) (sm_pI (sm_aI S_ 118 0 (S_.1 13 0 2).toNat ((vp_nar .byte (Int32.ofInt (i_i2b (i_shr a3_ (-(8 * (k_ % 4)) + 24))))).toInt)) 13 0 2 ((S_.1 13 0 2) + 1)) hIx23_ hFx24_ ⟨?_, ?_, ?_, trivial⟩ ?_
            · (rw [rf_eq]; omega)
            · (rw [rf_nk (by decide)]; exact hz_)
            · intro j_
              have w9_ := hb_ j_
              rw [rd_fa, rd_eq]
              by_cases y_ : j_ = (S_.1 13 0 2).toNat
              · rw [if_pos y_, if_pos (by omega)]
                unfold fdw fby
                rw [show j_ - (S0_.1 13 0 2).toNat = k_.toNat by omega]
                rw [show 24 - 8 * ((k_.toNat % 4 : Nat) : Int) = -(8 * (k_ % 4)) + 24 by omega]
                first | rw [if_pos (by omega)] | rw [if_neg (by omega), if_pos (by omega)] | rw [if_neg (by omega), if_neg (by omega), if_pos (by omega)] | rw [if_neg (by omega), if_neg (by omega), if_neg (by omega), if_pos (by omega)] | rw [if_neg (by omega), if_neg (by omega), if_neg (by omega), if_neg (by omega)]
              · rw [if_neg y_, w9_]
                by_cases z_ : (S0_.1 13 0 2).toNat ≤ j_ ∧ (j_ : Int) < S0_.1 13 0 2 + k_
                · rw [if_pos z_, if_pos (by omega)]
                · rw [if_neg z_, if_neg (by omega)]
            · omega
        · have cx4_ : ¬ (8 ≤ k_) := of_decide_eq_false cx4_
          have bx25_ : 0 ≤ S_.1 13 0 2 ∧ S_.1 13 0 2 ≤ 1280 := hI_.1 13 0 2 rfl
          refine sm_T_go 12 (c1 := (105, [some (.inr (.inr (some (13, 0)))), some (.inl a1_), some (.inl a2_), some (.inl a3_), some (.inl a4_), some (.inl a5_), some (.inl k_), some (.inl a2_)], [.inl 3, .inl k_, .inl 8, .inl 24, .inl a2_, .inl (S_.1 13 0 2), .inr (.inr (some (118, 0)))], S_)) rfl ?_
          refine sm_T_bin (w := (k_ % 4)) rfl (bi_msk (k := 2) (by decide)) ?_ -- pc_ 105
          refine sm_T_bin (w := 8 * (k_ % 4)) rfl (bi_mul (by omega) (by omega) (by omega)) ?_ -- pc_ 106
          refine sm_T_bin (w := -(8 * (k_ % 4)) + 24) rfl (bi_sub (by omega) (by omega) (by omega)) ?_ -- pc_ 107
          refine sm_T_bin (w := (i_shr a2_ (-(8 * (k_ % 4)) + 24))) rfl rfl ?_ -- pc_ 108
          refine sm_T_go 1 (c1 := (110, [some (.inr (.inr (some (13, 0)))), some (.inl a1_), some (.inl a2_), some (.inl a3_), some (.inl a4_), some (.inl a5_), some (.inl k_), some (.inl a2_)], [.inl (i_i2b (i_shr a2_ (-(8 * (k_ % 4)) + 24))), .inl (S_.1 13 0 2), .inr (.inr (some (118, 0)))], S_)) rfl ?_
          refine sm_T_bast (n := 65536) rfl rfl (by omega) (by omega) ?_
          have bx26_ := ai_nar_b (Int32.ofInt (i_i2b (i_shr a2_ (-(8 * (k_ % 4)) + 24))))
          have hIx27_ : gi (sm_aI S_ 118 0 (S_.1 13 0 2).toNat ((vp_nar .byte (Int32.ofInt (i_i2b (i_shr a2_ (-(8 * (k_ % 4)) + 24))))).toInt)) := gi_aI hI_ (show (-128) ≤ ((vp_nar .byte (Int32.ofInt (i_i2b (i_shr a2_ (-(8 * (k_ % 4)) + 24))))).toInt) ∧ ((vp_nar .byte (Int32.ofInt (i_i2b (i_shr a2_ (-(8 * (k_ % 4)) + 24))))).toInt) ≤ 127 from ⟨by omega, by omega⟩)
          have hFx28_ : ai_fr (sx_W vw_279) S0_ (sm_aI S_ 118 0 (S_.1 13 0 2).toNat ((vp_nar .byte (Int32.ofInt (i_i2b (i_shr a2_ (-(8 * (k_ % 4)) + 24))))).toInt)) := ai_fr_tr hF_ (ai_fr_aI rfl)
          refine sm_T_go 4 (c1 := (117, [some (.inr (.inr (some (13, 0)))), some (.inl a1_), some (.inl a2_), some (.inl a3_), some (.inl a4_), some (.inl a5_), some (.inl k_), some (.inl a2_)], [.inl 1, .inl (S_.1 13 0 2), .inr (.inr (some (13, 0)))], sm_aI S_ 118 0 (S_.1 13 0 2).toNat ((vp_nar .byte (Int32.ofInt (i_i2b (i_shr a2_ (-(8 * (k_ % 4)) + 24))))).toInt))) rfl ?_
          refine sm_T_bin (w := (S_.1 13 0 2) + 1) rfl (bi_add (by omega) (by omega) (by omega)) ?_ -- pc_ 117
          have hIx29_ : gi (sm_pI (sm_aI S_ 118 0 (S_.1 13 0 2).toNat ((vp_nar .byte (Int32.ofInt (i_i2b (i_shr a2_ (-(8 * (k_ % 4)) + 24))))).toInt)) 13 0 2 ((S_.1 13 0 2) + 1)) := gi_pI hIx27_ (show 0 ≤ (S_.1 13 0 2) + 1 ∧ (S_.1 13 0 2) + 1 ≤ 1280 from ⟨by omega, by omega⟩)
          have hFx30_ : ai_fr (sx_W vw_279) S0_ (sm_pI (sm_aI S_ 118 0 (S_.1 13 0 2).toNat ((vp_nar .byte (Int32.ofInt (i_i2b (i_shr a2_ (-(8 * (k_ % 4)) + 24))))).toInt)) 13 0 2 ((S_.1 13 0 2) + 1)) := ai_fr_tr hFx28_ (ai_fr_pI rfl)
          refine sm_T_go 1 (c1 := (121, [some (.inr (.inr (some (13, 0)))), some (.inl a1_), some (.inl a2_), some (.inl a3_), some (.inl a4_), some (.inl a5_), some (.inl k_), some (.inl a2_)], [], sm_pI (sm_aI S_ 118 0 (S_.1 13 0 2).toNat ((vp_nar .byte (Int32.ofInt (i_i2b (i_shr a2_ (-(8 * (k_ % 4)) + 24))))).toInt)) 13 0 2 ((S_.1 13 0 2) + 1))) rfl ?_
          refine sm_T_inc (a := 6) (z := 1) (v := k_) (w := k_ + 1) rfl rfl (by omega) (by omega) (by omega) ?_ -- pc_ 121
          refine sm_T_go 1 (c1 := (33, [some (.inr (.inr (some (13, 0)))), some (.inl a1_), some (.inl a2_), some (.inl a3_), some (.inl a4_), some (.inl a5_), some (.inl (k_ + 1)), some (.inl a2_)], [], sm_pI (sm_aI S_ 118 0 (S_.1 13 0 2).toNat ((vp_nar .byte (Int32.ofInt (i_i2b (i_shr a2_ (-(8 * (k_ % 4)) + 24))))).toInt)) 13 0 2 ((S_.1 13 0 2) + 1))) rfl ?_
          refine sm_T_wk [some (.inr (.inr (some (13, 0)))), some (.inl a1_), some (.inl a2_), some (.inl a3_), some (.inl a4_), some (.inl a5_), some (.inl (k_ + 1)), none] (by exact ⟨rfl, rfl, rfl, rfl, rfl, rfl, rfl, trivial⟩) ?_
          refine ih_ (k_ + 1) (sm_pI (sm_aI S_ 118 0 (S_.1 13 0 2).toNat ((vp_nar .byte (Int32.ofInt (i_i2b (i_shr a2_ (-(8 * (k_ % 4)) + 24))))).toInt)) 13 0 2 ((S_.1 13 0 2) + 1)) hIx29_ hFx30_ ⟨?_, ?_, ?_, trivial⟩ ?_
          · (rw [rf_eq]; omega)
          · (rw [rf_nk (by decide)]; exact hz_)
          · intro j_
            have w9_ := hb_ j_
            rw [rd_fa, rd_eq]
            by_cases y_ : j_ = (S_.1 13 0 2).toNat
            · rw [if_pos y_, if_pos (by omega)]
              unfold fdw fby
              rw [show j_ - (S0_.1 13 0 2).toNat = k_.toNat by omega]
              rw [show 24 - 8 * ((k_.toNat % 4 : Nat) : Int) = -(8 * (k_ % 4)) + 24 by omega]
              first | rw [if_pos (by omega)] | rw [if_neg (by omega), if_pos (by omega)] | rw [if_neg (by omega), if_neg (by omega), if_pos (by omega)] | rw [if_neg (by omega), if_neg (by omega), if_neg (by omega), if_pos (by omega)] | rw [if_neg (by omega), if_neg (by omega), if_neg (by omega), if_neg (by omega)]
            · rw [if_neg y_, w9_]
              by_cases z_ : (S0_.1 13 0 2).toNat ≤ j_ ∧ (j_ : Int) < S0_.1 13 0 2 + k_
              · rw [if_pos z_, if_pos (by omega)]
              · rw [if_neg z_, if_neg (by omega)]
          · omega
      · have cx3_ : ¬ (4 ≤ k_) := of_decide_eq_false cx3_
        have bx31_ : 0 ≤ S_.1 13 0 2 ∧ S_.1 13 0 2 ≤ 1280 := hI_.1 13 0 2 rfl
        refine sm_T_go 12 (c1 := (105, [some (.inr (.inr (some (13, 0)))), some (.inl a1_), some (.inl a2_), some (.inl a3_), some (.inl a4_), some (.inl a5_), some (.inl k_), some (.inl a1_)], [.inl 3, .inl k_, .inl 8, .inl 24, .inl a1_, .inl (S_.1 13 0 2), .inr (.inr (some (118, 0)))], S_)) rfl ?_
        refine sm_T_bin (w := (k_ % 4)) rfl (bi_msk (k := 2) (by decide)) ?_ -- pc_ 105
        refine sm_T_bin (w := 8 * (k_ % 4)) rfl (bi_mul (by omega) (by omega) (by omega)) ?_ -- pc_ 106
        refine sm_T_bin (w := -(8 * (k_ % 4)) + 24) rfl (bi_sub (by omega) (by omega) (by omega)) ?_ -- pc_ 107
        refine sm_T_bin (w := (i_shr a1_ (-(8 * (k_ % 4)) + 24))) rfl rfl ?_ -- pc_ 108
        refine sm_T_go 1 (c1 := (110, [some (.inr (.inr (some (13, 0)))), some (.inl a1_), some (.inl a2_), some (.inl a3_), some (.inl a4_), some (.inl a5_), some (.inl k_), some (.inl a1_)], [.inl (i_i2b (i_shr a1_ (-(8 * (k_ % 4)) + 24))), .inl (S_.1 13 0 2), .inr (.inr (some (118, 0)))], S_)) rfl ?_
        refine sm_T_bast (n := 65536) rfl rfl (by omega) (by omega) ?_
        have bx32_ := ai_nar_b (Int32.ofInt (i_i2b (i_shr a1_ (-(8 * (k_ % 4)) + 24))))
        have hIx33_ : gi (sm_aI S_ 118 0 (S_.1 13 0 2).toNat ((vp_nar .byte (Int32.ofInt (i_i2b (i_shr a1_ (-(8 * (k_ % 4)) + 24))))).toInt)) := gi_aI hI_ (show (-128) ≤ ((vp_nar .byte (Int32.ofInt (i_i2b (i_shr a1_ (-(8 * (k_ % 4)) + 24))))).toInt) ∧ ((vp_nar .byte (Int32.ofInt (i_i2b (i_shr a1_ (-(8 * (k_ % 4)) + 24))))).toInt) ≤ 127 from ⟨by omega, by omega⟩)
        have hFx34_ : ai_fr (sx_W vw_279) S0_ (sm_aI S_ 118 0 (S_.1 13 0 2).toNat ((vp_nar .byte (Int32.ofInt (i_i2b (i_shr a1_ (-(8 * (k_ % 4)) + 24))))).toInt)) := ai_fr_tr hF_ (ai_fr_aI rfl)
        refine sm_T_go 4 (c1 := (117, [some (.inr (.inr (some (13, 0)))), some (.inl a1_), some (.inl a2_), some (.inl a3_), some (.inl a4_), some (.inl a5_), some (.inl k_), some (.inl a1_)], [.inl 1, .inl (S_.1 13 0 2), .inr (.inr (some (13, 0)))], sm_aI S_ 118 0 (S_.1 13 0 2).toNat ((vp_nar .byte (Int32.ofInt (i_i2b (i_shr a1_ (-(8 * (k_ % 4)) + 24))))).toInt))) rfl ?_
        refine sm_T_bin (w := (S_.1 13 0 2) + 1) rfl (bi_add (by omega) (by omega) (by omega)) ?_ -- pc_ 117
        have hIx35_ : gi (sm_pI (sm_aI S_ 118 0 (S_.1 13 0 2).toNat ((vp_nar .byte (Int32.ofInt (i_i2b (i_shr a1_ (-(8 * (k_ % 4)) + 24))))).toInt)) 13 0 2 ((S_.1 13 0 2) + 1)) := gi_pI hIx33_ (show 0 ≤ (S_.1 13 0 2) + 1 ∧ (S_.1 13 0 2) + 1 ≤ 1280 from ⟨by omega, by omega⟩)
        have hFx36_ : ai_fr (sx_W vw_279) S0_ (sm_pI (sm_aI S_ 118 0 (S_.1 13 0 2).toNat ((vp_nar .byte (Int32.ofInt (i_i2b (i_shr a1_ (-(8 * (k_ % 4)) + 24))))).toInt)) 13 0 2 ((S_.1 13 0 2) + 1)) := ai_fr_tr hFx34_ (ai_fr_pI rfl)
        refine sm_T_go 1 (c1 := (121, [some (.inr (.inr (some (13, 0)))), some (.inl a1_), some (.inl a2_), some (.inl a3_), some (.inl a4_), some (.inl a5_), some (.inl k_), some (.inl a1_)], [], sm_pI (sm_aI S_ 118 0 (S_.1 13 0 2).toNat ((vp_nar .byte (Int32.ofInt (i_i2b (i_shr a1_ (-(8 * (k_ % 4)) + 24))))).toInt)) 13 0 2 ((S_.1 13 0 2) + 1))) rfl ?_
        refine sm_T_inc (a := 6) (z := 1) (v := k_) (w := k_ + 1) rfl rfl (by omega) (by omega) (by omega) ?_ -- pc_ 121
        refine sm_T_go 1 (c1 := (33, [some (.inr (.inr (some (13, 0)))), some (.inl a1_), some (.inl a2_), some (.inl a3_), some (.inl a4_), some (.inl a5_), some (.inl (k_ + 1)), some (.inl a1_)], [], sm_pI (sm_aI S_ 118 0 (S_.1 13 0 2).toNat ((vp_nar .byte (Int32.ofInt (i_i2b (i_shr a1_ (-(8 * (k_ % 4)) + 24))))).toInt)) 13 0 2 ((S_.1 13 0 2) + 1))) rfl ?_
        refine sm_T_wk [some (.inr (.inr (some (13, 0)))), some (.inl a1_), some (.inl a2_), some (.inl a3_), some (.inl a4_), some (.inl a5_), some (.inl (k_ + 1)), none] (by exact ⟨rfl, rfl, rfl, rfl, rfl, rfl, rfl, trivial⟩) ?_
        refine ih_ (k_ + 1) (sm_pI (sm_aI S_ 118 0 (S_.1 13 0 2).toNat ((vp_nar .byte (Int32.ofInt (i_i2b (i_shr a1_ (-(8 * (k_ % 4)) + 24))))).toInt)) 13 0 2 ((S_.1 13 0 2) + 1)) hIx35_ hFx36_ ⟨?_, ?_, ?_, trivial⟩ ?_
        · (rw [rf_eq]; omega)
        · (rw [rf_nk (by decide)]; exact hz_)
        · intro j_
          have w9_ := hb_ j_
          rw [rd_fa, rd_eq]
          by_cases y_ : j_ = (S_.1 13 0 2).toNat
          · rw [if_pos y_, if_pos (by omega)]
            unfold fdw fby
            rw [show j_ - (S0_.1 13 0 2).toNat = k_.toNat by omega]
            rw [show 24 - 8 * ((k_.toNat % 4 : Nat) : Int) = -(8 * (k_ % 4)) + 24 by omega]
            first | rw [if_pos (by omega)] | rw [if_neg (by omega), if_pos (by omega)] | rw [if_neg (by omega), if_neg (by omega), if_pos (by omega)] | rw [if_neg (by omega), if_neg (by omega), if_neg (by omega), if_pos (by omega)] | rw [if_neg (by omega), if_neg (by omega), if_neg (by omega), if_neg (by omega)]
          · rw [if_neg y_, w9_]
            by_cases z_ : (S0_.1 13 0 2).toNat ≤ j_ ∧ (j_ : Int) < S0_.1 13 0 2 + k_
            · rw [if_pos z_, if_pos (by omega)]
            · rw [if_neg z_, if_neg (by omega)]
        · omega
set_option maxHeartbeats 2000000 in
theorem vc_279 {sc_ : Nat × (Nat → Int)} (a1_ : Int) (a2_ : Int) (a3_ : Int) (a4_ : Int) (a5_ : Int) (S0_ : sm_S) (hI_ : gi S0_) (h1_ : S0_.1 13 0 2 ≤ 1260) : sm_T (mt_P sc_) 0 279 (0, [some (.inr (.inr (some (13, 0)))), some (.inl a1_), some (.inl a2_), some (.inl a3_), some (.inl a4_), some (.inl a5_), none, none], [], S0_) (fun ro9_ => ∃ u_ S1_, ro9_ = (.inl u_, S1_, 0) ∧ vq_279 a1_ a2_ a3_ a4_ a5_ S0_ u_ S1_) := by
  have hF_ : ai_fr (sx_W vw_279) S0_ S0_ := ai_fr_rf
  have cl_ : 0 ≤ S0_.1 13 0 2 ∧ S0_.1 13 0 2 ≤ 1280 := hI_.1 13 0 2 rfl
  have bx1_ : 0 ≤ S0_.1 13 0 2 ∧ S0_.1 13 0 2 ≤ 1280 := hI_.1 13 0 2 rfl
  refine sm_T_go 4 (c1 := (7, [some (.inr (.inr (some (13, 0)))), some (.inl a1_), some (.inl a2_), some (.inl a3_), some (.inl a4_), some (.inl a5_), none, none], [.inl 20, .inl (S0_.1 13 0 2), .inr (.inr (some (13, 0)))], S0_)) rfl ?_
  refine sm_T_bin (w := (S0_.1 13 0 2) + 20) rfl (bi_add (by omega) (by omega) (by omega)) ?_ -- pc_ 7
  refine sm_T_nt (u := some (.inl 65536)) (S1 := S0_) rfl rfl rfl ?_
  refine sm_T_br (a := 5) (z := 7) rfl (fun cx2_ => ?_) (fun cx2_ => ?_)
  · have cx2_ : (S0_.1 13 0 2) + 20 ≤ 65536 := of_decide_eq_true cx2_
    have hIx3_ : gi (sm_pI S0_ 13 0 0 0) := gi_pI hI_ (show 0 ≤ 0 ∧ 0 ≤ 4 from ⟨by omega, by omega⟩)
    have hFx4_ : ai_fr (sx_W vw_279) S0_ (sm_pI S0_ 13 0 0 0) := ai_fr_tr hF_ (ai_fr_pI rfl)
    refine sm_T_go 7 (c1 := (33, [some (.inr (.inr (some (13, 0)))), some (.inl a1_), some (.inl a2_), some (.inl a3_), some (.inl a4_), some (.inl a5_), some (.inl 0), none], [], sm_pI S0_ 13 0 0 0)) rfl ?_
    refine (vl_279 a1_ a2_ a3_ a4_ a5_ S0_ h1_ _) 0 (sm_pI S0_ 13 0 0 0) hIx3_ hFx4_ ⟨?_, ?_, ?_, trivial⟩ (Nat.lt_succ_self _)
    · (first | omega | (rw [rf_nk (by decide)]; omega))
    · first | exact rf_eq | rfl
    · (intro j_; rw [if_neg (by omega)]; first | rfl | rw [rd_fa])
  · have cx2_ : ¬ ((S0_.1 13 0 2) + 20 ≤ 65536) := of_decide_eq_false cx2_
    exfalso; omega
end
/-! 99.zq3a -/
section
/-! drop; written by wip/p55/gen/vg -/

/-! drop, play, restart: all_ that holds -/
theorem jC_d {w_ : sx_Wl} {S_ S'_ : sm_S} (h_ : jC S_) (g_ : ai_fr (sx_W w_) S_ S'_) (d_ : dAll S'_) (h2_ : ∀ k_, k_ < 9 → (sx_W w_).1 2 k_ = false) (h0_ : ∀ k_, k_ < 12 → (sx_W w_).1 0 k_ = false) (ha_ : ∀ t_, t_ < 24 → 14 ≤ t_ → t_ ≠ 21 → (sx_W w_).2.1 t_ = false) (hb_ : (sx_W w_).2.1 34 = false) (t1_ : (sx_W w_).1 11 5 = false) (t2_ : (sx_W w_).2.1 102 = false) (t3_ : (sx_W w_).2.1 104 = false) (t4_ : (sx_W w_).2.1 105 = false) (t5_ : (sx_W w_).2.1 95 = false) : jC S'_ :=
  ⟨d_, cAll_fr h_.2.1 g_ h2_ h0_ ha_ hb_, tpo_fr h_.2.2.1 g_ t1_ t2_ t3_ t4_, shn_fr h_.2.2.2 g_ t5_⟩
theorem jC_dr {i_ : Nat} {S_ : sm_S} (h_ : jC S_) : jC (sm_pI S_ 2 i_ 0 0) := by
  have fx : ai_fr (sx_W ([(2, 0)], [], [])) S_ (sm_pI S_ 2 i_ 0 0) := ai_fr_pI rfl
  refine ⟨dAll_fr h_.1 fx (by decide) (by decide), fun j_ hj_ q_ => ?_, tpo_fr h_.2.2.1 fx, shn_fr h_.2.2.2 fx⟩
  by_cases z_ : j_ = i_
  · rw [z_, rf_eq] at q_
    exact absurd q_ (by decide)
  · rw [rd_ff, if_neg (fun q_ => z_ q_.2.1)] at q_
    exact cOk_q (h_.2.1 j_ hj_ q_) (fun k_ a_ _ => rf_nk (by omega)) (fun k_ _ => rf_nt (by decide)) (fun t_ _ _ _ => rfl) rfl
/-! ChipFlow.drop -/
end
/-! 99.zr1 -/
section
/-! chips of the reference; written by wip/p55/gen/vg -/

/-! chips of_ the_ reference -/
def rct (t_ : Nat) : Bool := (decide (222 ≤ t_) && decide (t_ < 238)) || (decide (239 ≤ t_) && decide (t_ < 243)) || t_ == 251
def rcs (t_ : Nat) : Nat := if t_ = 229 then 150 else if t_ = 230 then 450 else if t_ = 231 then 16 else if t_ = 232 then 6 else if 234 ≤ t_ ∧ t_ ≤ 237 then 12 else if t_ = 241 ∨ t_ = 242 then 156 else 1
/-- the_ other chips stay as_ they were -/
def rcf (c_ : Nat) (S_ S'_ : sm_S) : Prop := ∀ t_, rct t_ = true → ∀ j_, (j_ < rcs t_ * c_ ∨ rcs t_ * c_ + rcs t_ ≤ j_) → S'_.2.2.1 t_ 0 j_ = S_.2.2.1 t_ 0 j_
theorem rcf_rf {c_ : Nat} {S_ : sm_S} : rcf c_ S_ S_ := fun _ _ _ _ => rfl
theorem rcf_tr {c_ : Nat} {S_ S'_ S2_ : sm_S} (h_ : rcf c_ S_ S'_) (g_ : rcf c_ S'_ S2_) : rcf c_ S_ S2_ := fun t_ h1_ j_ hj_ => (g_ t_ h1_ j_ hj_).trans (h_ t_ h1_ j_ hj_)
theorem rcf_cg {a_ b_ : Nat} {S_ S'_ : sm_S} (e_ : a_ = b_) (h_ : rcf a_ S_ S'_) : rcf b_ S_ S'_ := e_ ▸ h_
def rwf (w_ : sx_Wl) : Bool := w_.2.1.all (fun t_ => !rct t_)
theorem rwf_0 {w_ : sx_Wl} (h_ : rwf w_ = true) {t_ : Nat} (ht_ : rct t_ = true) : (sx_W w_).2.1 t_ = false := by
  unfold rwf at h_
  unfold sx_W
  rw [List.any_eq_false]
  intro q_ hq_ z_
  have u_ := List.all_eq_true.mp h_ q_ hq_
  have e_ : q_ = t_ := of_decide_eq_true z_
  rw [e_, ht_] at u_
  exact absurd u_ (by decide)
theorem rcf_fr {w_ : sx_Wl} {c_ : Nat} {S_ S'_ : sm_S} (g_ : ai_fr (sx_W w_) S_ S'_) (h_ : rwf w_ = true) : rcf c_ S_ S'_ := fun t_ ht_ j_ _ => congrFun (fr_arr g_ (rwf_0 h_ ht_)) j_
theorem rcf_aI {c_ t_ k_ : Nat} {S_ S'_ : sm_S} {v_ : Int} (h_ : rcf c_ S_ S'_) (g_ : rct t_ = false ∨ (rcs t_ * c_ ≤ k_ ∧ k_ < rcs t_ * c_ + rcs t_)) : rcf c_ S_ (sm_aI S'_ t_ 0 k_ v_) := fun t1_ h1_ j_ hj_ => by
  rw [rd_aa, if_neg (by
    rintro ⟨q1_, -, q3_⟩
    rcases g_ with g_ | g_
    · rw [q1_, g_] at h1_; exact absurd h1_ (by decide)
    · rw [q1_] at hj_; omega)]
  exact h_ t1_ h1_ j_ hj_
/-- gates take nets from below -/
def cgt (c_ : Int) (S_ : sm_S) : Prop := ∀ g_ : Int, 0 ≤ g_ → g_ < S_.2.2.1 228 0 c_.toNat → ∀ k_ : Int, 0 ≤ k_ → k_ < 3 → (k_ = 0 ∨ k_ < S_.2.2.1 234 0 (12 * c_ + S_.2.2.1 229 0 (150 * c_ + g_).toNat).toNat) → 0 ≤ S_.2.2.1 230 0 (450 * c_ + 3 * g_ + k_).toNat ∧ S_.2.2.1 230 0 (450 * c_ + 3 * g_ + k_).toNat < S_.2.2.1 223 0 c_.toNat + S_.2.2.1 224 0 c_.toNat + g_
def con (c_ : Int) (S_ : sm_S) : Prop := (∀ k_ : Int, 0 ≤ k_ → k_ < S_.2.2.1 225 0 c_.toNat → S_.2.2.1 231 0 (16 * c_ + k_).toNat < S_.2.2.1 223 0 c_.toNat + S_.2.2.1 224 0 c_.toNat + S_.2.2.1 228 0 c_.toNat) ∧ ∀ k_ : Int, 0 ≤ k_ → k_ < S_.2.2.1 224 0 c_.toNat → S_.2.2.1 232 0 (6 * c_ + k_).toNat < S_.2.2.1 223 0 c_.toNat + S_.2.2.1 224 0 c_.toNat + S_.2.2.1 228 0 c_.toNat
def csz (c_ : Int) (S_ : sm_S) (e_ : Int) : Int := if e_ < S_.2.2.1 224 0 c_.toNat then 2 else 1 + S_.2.2.1 234 0 (12 * c_ + S_.2.2.1 229 0 (150 * c_ + (e_ - S_.2.2.1 224 0 c_.toNat)).toNat).toNat
def cpl (c_ : Int) (S_ : sm_S) : Prop := imq (1 ≤ S_.2.2.1 240 0 c_.toNat) (4 ≤ S_.2.2.1 239 0 c_.toNat ∧ ∀ e_ : Int, 0 ≤ e_ → e_ < S_.2.2.1 224 0 c_.toNat + S_.2.2.1 228 0 c_.toNat → S_.2.2.1 241 0 (156 * c_ + e_).toNat + csz c_ S_ e_ ≤ S_.2.2.1 239 0 c_.toNat ∧ S_.2.2.1 242 0 (156 * c_ + e_).toNat < S_.2.2.1 240 0 c_.toNat)
def cRk (c_ : Int) (S_ : sm_S) : Prop := S_.2.2.1 223 0 c_.toNat + S_.2.2.1 224 0 c_.toNat ≤ 12 ∧ S_.2.2.1 226 0 c_.toNat < 2 ^ (S_.2.2.1 224 0 c_.toNat).toNat ∧ S_.2.2.1 227 0 c_.toNat < 2 ^ (S_.2.2.1 224 0 c_.toNat).toNat ∧ cgt c_ S_ ∧ con c_ S_ ∧ cpl c_ S_ ∧ imq (S_.2.2.1 251 0 c_.toNat = 1) (1 ≤ S_.2.2.1 240 0 c_.toNat)
/-- a_ slice that stays -/
def sle (c_ : Int) (S_ S'_ : sm_S) : Prop := ∀ t_, rct t_ = true → ∀ j_, rcs t_ * c_.toNat ≤ j_ → j_ < rcs t_ * c_.toNat + rcs t_ → S'_.2.2.1 t_ 0 j_ = S_.2.2.1 t_ 0 j_
theorem sle_fr {w_ : sx_Wl} {c_ : Int} {S_ S'_ : sm_S} (g_ : ai_fr (sx_W w_) S_ S'_) (h_ : rwf w_ = true) : sle c_ S_ S'_ := fun t_ ht_ j_ _ _ => congrFun (fr_arr g_ (rwf_0 h_ ht_)) j_
theorem sle_cf {a_ : Nat} {c_ : Int} {S_ S'_ : sm_S} (g_ : rcf a_ S_ S'_) (h_ : c_.toNat ≠ a_) : sle c_ S_ S'_ := fun t_ ht_ j_ h1_ h2_ => g_ t_ ht_ j_ (by
  rcases Nat.lt_or_gt_of_ne h_ with z_ | z_
  · left
    have := Nat.mul_le_mul_left (rcs t_) (show c_.toNat + 1 ≤ a_ by omega)
    rw [Nat.mul_add] at this
    omega
  · right
    have := Nat.mul_le_mul_left (rcs t_) (show a_ + 1 ≤ c_.toNat by omega)
    rw [Nat.mul_add] at this
    omega)
theorem sle_1 {c_ : Int} {S_ S'_ : sm_S} (q_ : sle c_ S_ S'_) (t_ : Nat) (a_ : rct t_ = true) (b_ : rcs t_ = 1) : S'_.2.2.1 t_ 0 c_.toNat = S_.2.2.1 t_ 0 c_.toNat := q_ t_ a_ _ (by rw [b_]; omega) (by rw [b_]; omega)
/-- bounds of_ a_ slice -/
def scp (c_ : Int) (S_ : sm_S) : Prop := (0 ≤ S_.2.2.1 228 0 c_.toNat ∧ S_.2.2.1 228 0 c_.toNat ≤ 150) ∧ (0 ≤ S_.2.2.1 224 0 c_.toNat ∧ S_.2.2.1 224 0 c_.toNat ≤ 6) ∧ (0 ≤ S_.2.2.1 225 0 c_.toNat ∧ S_.2.2.1 225 0 c_.toNat ≤ 16) ∧ ∀ g_ : Int, 0 ≤ g_ → g_ < 150 → 0 ≤ S_.2.2.1 229 0 (150 * c_ + g_).toNat ∧ S_.2.2.1 229 0 (150 * c_ + g_).toNat ≤ 11
theorem scp_g {c_ : Int} {S_ : sm_S} (h_ : gi S_) : scp c_ S_ := ⟨h_.2 228 0 _, h_.2 224 0 _, h_.2 225 0 _, fun g_ _ _ => h_.2 229 0 _⟩
theorem scp_q {c_ : Int} {S_ S'_ : sm_S} (hc_ : 0 ≤ c_) (h_ : gi S'_) (q_ : sle c_ S_ S'_) : scp c_ S_ := by
  have z_ : scp c_ S'_ := scp_g h_
  obtain ⟨z1_, z2_, z3_, z4_⟩ := z_
  rw [sle_1 q_ 228 rfl rfl] at z1_
  rw [sle_1 q_ 224 rfl rfl] at z2_
  rw [sle_1 q_ 225 rfl rfl] at z3_
  refine ⟨z1_, z2_, z3_, fun g_ h0_ h1_ => ?_⟩
  have y_ := z4_ g_ h0_ h1_
  rw [q_ 229 rfl _ (by rw [show rcs 229 = 150 from rfl]; omega) (by rw [show rcs 229 = 150 from rfl]; omega)] at y_
  exact y_
theorem sle_cl {c_ g_ : Int} {S_ S'_ : sm_S} (q_ : sle c_ S_ S'_) (hc_ : 0 ≤ c_) (hI_ : scp c_ S_) (hg_ : 0 ≤ g_ ∧ g_ < 150) : S'_.2.2.1 229 0 (150 * c_ + g_).toNat = S_.2.2.1 229 0 (150 * c_ + g_).toNat ∧ S'_.2.2.1 234 0 (12 * c_ + S_.2.2.1 229 0 (150 * c_ + g_).toNat).toNat = S_.2.2.1 234 0 (12 * c_ + S_.2.2.1 229 0 (150 * c_ + g_).toNat).toNat := by
  have k_ : 0 ≤ S_.2.2.1 229 0 (150 * c_ + g_).toNat ∧ S_.2.2.1 229 0 (150 * c_ + g_).toNat ≤ 11 := hI_.2.2.2 g_ hg_.1 hg_.2
  exact ⟨q_ 229 rfl _ (by rw [show rcs 229 = 150 from rfl]; omega) (by rw [show rcs 229 = 150 from rfl]; omega), q_ 234 rfl _ (by rw [show rcs 234 = 12 from rfl]; omega) (by rw [show rcs 234 = 12 from rfl]; omega)⟩
theorem cgt_sl {c_ : Int} {S_ S'_ : sm_S} (hc_ : 0 ≤ c_) (hI_ : scp c_ S_) (h_ : cgt c_ S_) (q_ : sle c_ S_ S'_) : cgt c_ S'_ := by
  intro g_ h0_ h1_ k_ k0_ k1_ k2_
  have b_ : 0 ≤ S_.2.2.1 228 0 c_.toNat ∧ S_.2.2.1 228 0 c_.toNat ≤ 150 := hI_.1
  rw [sle_1 q_ 228 rfl rfl] at h1_
  have e_ := sle_cl q_ hc_ hI_ (g_ := g_) (by omega)
  rw [e_.1, e_.2] at k2_
  rw [sle_1 q_ 223 rfl rfl, sle_1 q_ 224 rfl rfl, q_ 230 rfl _ (by rw [show rcs 230 = 450 from rfl]; omega) (by rw [show rcs 230 = 450 from rfl]; omega)]
  exact h_ g_ h0_ h1_ k_ k0_ k1_ k2_
theorem con_sl {c_ : Int} {S_ S'_ : sm_S} (hc_ : 0 ≤ c_) (hI_ : scp c_ S_) (h_ : con c_ S_) (q_ : sle c_ S_ S'_) : con c_ S'_ := by
  have b_ : 0 ≤ S_.2.2.1 225 0 c_.toNat ∧ S_.2.2.1 225 0 c_.toNat ≤ 16 := hI_.2.2.1
  have b2_ : 0 ≤ S_.2.2.1 224 0 c_.toNat ∧ S_.2.2.1 224 0 c_.toNat ≤ 6 := hI_.2.1
  unfold con
  rw [sle_1 q_ 223 rfl rfl, sle_1 q_ 224 rfl rfl, sle_1 q_ 225 rfl rfl, sle_1 q_ 228 rfl rfl]
  refine ⟨fun k_ h0_ h1_ => ?_, fun k_ h0_ h1_ => ?_⟩
  · rw [q_ 231 rfl _ (by rw [show rcs 231 = 16 from rfl]; omega) (by rw [show rcs 231 = 16 from rfl]; omega)]
    exact h_.1 k_ h0_ h1_
  · rw [q_ 232 rfl _ (by rw [show rcs 232 = 6 from rfl]; omega) (by rw [show rcs 232 = 6 from rfl]; omega)]
    exact h_.2 k_ h0_ h1_
theorem csz_sl {c_ e_ : Int} {S_ S'_ : sm_S} (hc_ : 0 ≤ c_) (hI_ : scp c_ S_) (q_ : sle c_ S_ S'_) (h_ : 0 ≤ e_ ∧ e_ < S_.2.2.1 224 0 c_.toNat + S_.2.2.1 228 0 c_.toNat) : csz c_ S'_ e_ = csz c_ S_ e_ := by
  have b_ : 0 ≤ S_.2.2.1 228 0 c_.toNat ∧ S_.2.2.1 228 0 c_.toNat ≤ 150 := hI_.1
  have b2_ : 0 ≤ S_.2.2.1 224 0 c_.toNat ∧ S_.2.2.1 224 0 c_.toNat ≤ 6 := hI_.2.1
  unfold csz
  rw [sle_1 q_ 224 rfl rfl]
  split
  · rfl
  · have z_ := sle_cl q_ hc_ hI_ (g_ := e_ - S_.2.2.1 224 0 c_.toNat) (by omega)
    rw [z_.1, z_.2]
theorem cpl_sl {c_ : Int} {S_ S'_ : sm_S} (hc_ : 0 ≤ c_) (hI_ : scp c_ S_) (h_ : cpl c_ S_) (q_ : sle c_ S_ S'_) : cpl c_ S'_ := by
  have b_ : 0 ≤ S_.2.2.1 228 0 c_.toNat ∧ S_.2.2.1 228 0 c_.toNat ≤ 150 := hI_.1
  have b2_ : 0 ≤ S_.2.2.1 224 0 c_.toNat ∧ S_.2.2.1 224 0 c_.toNat ≤ 6 := hI_.2.1
  unfold cpl
  rw [sle_1 q_ 224 rfl rfl, sle_1 q_ 228 rfl rfl, sle_1 q_ 239 rfl rfl, sle_1 q_ 240 rfl rfl]
  intro p_
  have z_ := h_ p_
  refine ⟨z_.1, fun e_ h0_ h1_ => ?_⟩
  rw [csz_sl hc_ hI_ q_ ⟨h0_, h1_⟩, q_ 241 rfl _ (by rw [show rcs 241 = 156 from rfl]; omega) (by rw [show rcs 241 = 156 from rfl]; omega), q_ 242 rfl _ (by rw [show rcs 242 = 156 from rfl]; omega) (by rw [show rcs 242 = 156 from rfl]; omega)]
  exact z_.2 e_ h0_ h1_
theorem cRk_sl {c_ : Int} {S_ S'_ : sm_S} (hc_ : 0 ≤ c_) (hI_ : scp c_ S_) (h_ : cRk c_ S_) (q_ : sle c_ S_ S'_) : cRk c_ S'_ := by
  obtain ⟨h1_, h2_, h3_, h4_, h5_, h6_, h7_⟩ := h_
  refine ⟨?_, ?_, ?_, cgt_sl hc_ hI_ h4_ q_, con_sl hc_ hI_ h5_ q_, cpl_sl hc_ hI_ h6_ q_, ?_⟩
  · rw [sle_1 q_ 223 rfl rfl, sle_1 q_ 224 rfl rfl]; exact h1_
  · rw [sle_1 q_ 226 rfl rfl, sle_1 q_ 224 rfl rfl]; exact h2_
  · rw [sle_1 q_ 227 rfl rfl, sle_1 q_ 224 rfl rfl]; exact h3_
  · rw [sle_1 q_ 251 rfl rfl, sle_1 q_ 240 rfl rfl]; exact h7_
theorem cRk_fr {w_ : sx_Wl} {c_ : Int} {S_ S'_ : sm_S} (hc_ : 0 ≤ c_) (hI_ : gi S'_) (h_ : cRk c_ S_) (g_ : ai_fr (sx_W w_) S_ S'_) (r_ : rwf w_ = true := by rfl) : cRk c_ S'_ := cRk_sl hc_ (scp_q hc_ hI_ (sle_fr g_ r_)) h_ (sle_fr g_ r_)
/-- what holds between the_ calls of_ the_ reference -/
def drAll (S_ : sm_S) : Prop := ∀ d_ : Nat, d_ < 6 → S_.2.2.1 153 0 d_ = 1 → dRk d_ S_
def rcAll (S_ : sm_S) : Prop := ∀ c_ : Int, 0 ≤ c_ → c_ < 4 → S_.2.2.1 222 0 c_.toNat = 1 → cRk c_ S_
def jR (S_ : sm_S) : Prop := drAll S_ ∧ rcAll S_
def dwf (w_ : sx_Wl) : Bool := w_.2.1.all (fun t_ => !(decide (153 ≤ t_) && decide (t_ < 171)))
theorem dwf_0 {w_ : sx_Wl} (h_ : dwf w_ = true) {t_ : Nat} (h1_ : 153 ≤ t_) (h2_ : t_ < 171) : (sx_W w_).2.1 t_ = false := by
  unfold dwf at h_
  unfold sx_W
  rw [List.any_eq_false]
  intro q_ hq_ z_
  have u_ := List.all_eq_true.mp h_ q_ hq_
  have e_ : q_ = t_ := of_decide_eq_true z_
  rw [e_, decide_eq_true h1_, decide_eq_true h2_] at u_
  exact absurd u_ (by decide)
theorem drAll_fr {w_ : sx_Wl} {S_ S'_ : sm_S} (h_ : drAll S_) (g_ : ai_fr (sx_W w_) S_ S'_) (q_ : dwf w_ = true := by rfl) : drAll S'_ := fun d_ hd_ z_ => by
  rw [fr_arr g_ (dwf_0 q_ (by decide) (by decide))] at z_
  exact dRk_fr (h_ d_ hd_ z_) g_ (fun t_ a_ b_ => dwf_0 q_ (by omega) a_)
theorem rcAll_fr {w_ : sx_Wl} {S_ S'_ : sm_S} (h_ : rcAll S_) (hI_ : gi S'_) (g_ : ai_fr (sx_W w_) S_ S'_) (q_ : rwf w_ = true := by rfl) : rcAll S'_ := fun c_ h0_ h1_ z_ => by
  rw [fr_arr g_ (rwf_0 q_ rfl)] at z_
  exact cRk_fr h0_ hI_ (h_ c_ h0_ h1_ z_) g_ q_
theorem jR_fr {w_ : sx_Wl} {S_ S'_ : sm_S} (h_ : jR S_) (hI_ : gi S'_) (g_ : ai_fr (sx_W w_) S_ S'_) (q_ : dwf w_ = true := by rfl) (r_ : rwf w_ = true := by rfl) : jR S'_ := ⟨drAll_fr h_.1 g_ q_, rcAll_fr h_.2 hI_ g_ r_⟩
/-- one_ chip changes -/
theorem rcAll_cf {a_ : Nat} {S_ S'_ : sm_S} (h_ : rcAll S_) (hI_ : gi S'_) (g_ : rcf a_ S_ S'_) (k_ : S'_.2.2.1 222 0 a_ = 1 → cRk (a_ : Int) S'_) : rcAll S'_ := fun c_ h0_ h1_ z_ => by
  by_cases e_ : c_.toNat = a_
  · have e2_ : c_ = (a_ : Int) := by omega
    rw [e_] at z_
    rw [e2_]
    exact k_ z_
  · rw [sle_1 (sle_cf g_ e_) 222 rfl rfl] at z_
    exact cRk_sl h0_ (scp_q h0_ hI_ (sle_cf g_ e_)) (h_ c_ h0_ h1_ z_) (sle_cf g_ e_)
theorem jR_cf {w_ : sx_Wl} {a_ : Nat} {S_ S'_ : sm_S} (h_ : jR S_) (hI_ : gi S'_) (f_ : ai_fr (sx_W w_) S_ S'_) (q_ : dwf w_ = true) (g_ : rcf a_ S_ S'_) (k_ : S'_.2.2.1 222 0 a_ = 1 → cRk (a_ : Int) S'_) : jR S'_ := ⟨drAll_fr h_.1 f_ q_, rcAll_cf h_.2 hI_ g_ k_⟩
end
/-! 99.zr2 -/
section
/-! the reference: designs asked; written by wip/p55/gen/vg -/

/-! the_ reference: designs and libraries asked -/
theorem dRk_nw {d_ e_ : Nat} {S_ : sm_S} {v_ : Int} (h_ : dRk d_ S_) (hv_ : d_ = e_ → 0 ≤ v_ ∧ v_ < 2 ^ (S_.2.2.1 155 0 d_).toNat) : dRk d_ (sm_aI S_ 158 0 e_ v_) := by
  have fx : ai_fr (sx_W ([], [158], [])) S_ (sm_aI S_ 158 0 e_ v_) := ai_fr_aI rfl
  obtain ⟨F_, I_, R_, N_, h1_, h2_, h3_, h4_, h5_, h6_, h7_, h8_⟩ := h_
  unfold dRk
  rw [fr_arr (t := 154) fx rfl, fr_arr (t := 155) fx rfl, fr_arr (t := 156) fx rfl, fr_arr (t := 157) fx rfl, fr_arr (t := 159) fx rfl, fr_arr (t := 160) fx rfl, fr_arr (t := 164) fx rfl, fr_arr (t := 165) fx rfl, fr_arr (t := 166) fx rfl, fr_arr (t := 167) fx rfl, fr_arr (t := 168) fx rfl, fr_arr (t := 170) fx rfl]
  refine ⟨F_, I_, R_, N_, h1_, h2_, h3_, h4_, h5_, h6_, ?_, h8_⟩
  rw [rd_eq]
  split
  · rename_i q_
    have z_ := hv_ q_
    rw [h1_.2.1, Int.toNat_natCast] at z_
    exact z_
  · exact h7_
theorem jR_nw {e_ : Nat} {S_ : sm_S} {v_ : Int} (h_ : jR S_) (hI_ : gi (sm_aI S_ 158 0 e_ v_)) (hv_ : 0 ≤ v_ ∧ v_ < 2 ^ (S_.2.2.1 155 0 e_).toNat) : jR (sm_aI S_ 158 0 e_ v_) := by
  have fx : ai_fr (sx_W ([], [158], [])) S_ (sm_aI S_ 158 0 e_ v_) := ai_fr_aI rfl
  refine ⟨fun d_ hd_ z_ => dRk_nw (h_.1 d_ hd_ (by rw [rd_ne (by decide)] at z_; exact z_)) (fun q_ => by rw [q_]; exact hv_), rcAll_fr h_.2 hI_ fx⟩
/-- what is_ known of_ a_ design that is_ there -/
theorem dRk_b {d_ : Nat} {S_ : sm_S} (h_ : dRk d_ S_) : (0 ≤ S_.2.2.1 154 0 d_ ∧ 0 ≤ S_.2.2.1 155 0 d_ ∧ S_.2.2.1 154 0 d_ + S_.2.2.1 155 0 d_ ≤ 12 ∧ S_.2.2.1 155 0 d_ ≤ 6 ∧ 1 ≤ S_.2.2.1 156 0 d_ ∧ S_.2.2.1 156 0 d_ ≤ 16) ∧ (0 ≤ S_.2.2.1 157 0 d_ ∧ S_.2.2.1 157 0 d_ < 2 ^ (S_.2.2.1 155 0 d_).toNat) ∧ (0 ≤ S_.2.2.1 158 0 d_ ∧ S_.2.2.1 158 0 d_ < 2 ^ (S_.2.2.1 155 0 d_).toNat) ∧ ∀ p_, p_ < 2 ^ ((S_.2.2.1 154 0 d_).toNat + (S_.2.2.1 155 0 d_).toNat) → 0 ≤ S_.2.2.1 170 0 (4096 * d_ + p_) ∧ S_.2.2.1 170 0 (4096 * d_ + p_) < 2 ^ (S_.2.2.1 155 0 d_).toNat := by
  obtain ⟨F_, I_, R_, N_, h1_, h2_, h3_, h4_, h5_, h6_, h7_, h8_⟩ := h_
  rw [h1_.1, h1_.2.1, Int.toNat_natCast, Int.toNat_natCast]
  exact ⟨by omega, h6_, h7_, h8_⟩
theorem pn_lt {x_ : Int} {n_ : Nat} (h0_ : 0 ≤ x_) (h_ : x_ < (2 : Int) ^ n_) : x_.toNat < 2 ^ n_ := by
  have c_ : ((x_.toNat : Nat) : Int) < ((2 ^ n_ : Nat) : Int) := by
    push_cast
    omega
  exact Int.ofNat_lt.mp c_
theorem pat_c {s_ i_ : Int} {R_ I_ : Nat} (hs_ : 0 ≤ s_ ∧ s_ < 2 ^ R_) (hi_ : 0 ≤ i_ ∧ i_ < 2 ^ I_) (h_ : R_ + I_ ≤ 12) : 0 ≤ i_shl s_ (I_ : Int) ∧ 0 ≤ i_or i_ (i_shl s_ (I_ : Int)) ∧ i_or i_ (i_shl s_ (I_ : Int)) < 2 ^ (R_ + I_) := by
  rw [i_or_c]
  exact pat_b hs_ hi_ h_
theorem drp_0 {S_ : sm_S} {k_ : Nat} (h_ : jR S_) (hI_ : gi (sm_aI S_ 153 0 k_ 0)) : jR (sm_aI S_ 153 0 k_ 0) := by
  have fx : ai_fr (sx_W ([], [153], [])) S_ (sm_aI S_ 153 0 k_ 0) := ai_fr_aI rfl
  refine ⟨fun d_ hd_ z_ => ?_, rcAll_fr h_.2 hI_ fx⟩
  rw [rd_eq] at z_
  split at z_
  · exact absurd z_ (by decide)
  · exact dRk_fr (h_.1 d_ hd_ z_) fx (fun t_ a_ b_ => by show (decide (153 = t_) || false) = false; rw [decide_eq_false (by omega)]; rfl)
theorem drp_2 {S_ : sm_S} {k_ : Nat} (h_ : jR S_) (hI_ : gi (sm_aI S_ 222 0 k_ 0)) : jR (sm_aI S_ 222 0 k_ 0) :=
  jR_cf (w_ := ([], [222], [])) h_ hI_ (ai_fr_aI rfl) rfl (rcf_aI (c_ := k_) rcf_rf (Or.inr (by rw [show rcs 222 = 1 from rfl]; omega))) (fun z_ => by rw [rd_eq, if_pos rfl] at z_; exact absurd z_ (by decide))
/-! M_.isDesign -/
def vw_369 : sx_Wl := ([], [], [])
def vq_369 (a1_ : Int) (S0_ : sm_S) (u_ : Option sm_V) (S1_ : sm_S) : Prop := S0_ = S1_ ∧ ∃ v_ : Int, u_ = some (.inl v_) ∧ (((-2147483648) ≤ v_ ∧ v_ ≤ 2147483647) ∧ ((v_ = 1 ∧ 0 ≤ a1_ ∧ a1_ < 6 ∧ S0_.2.2.1 153 0 a1_.toNat = 1) ∨ (v_ = 0 ∧ (a1_ < 0 ∨ 6 ≤ a1_ ∨ S0_.2.2.1 153 0 a1_.toNat = 0))))
set_option maxHeartbeats 400000 in
set_option maxRecDepth 20000 in
theorem vc_369 {sc_ : Nat × (Nat → Int)} (a1_ : Int) (S0_ : sm_S) (hI_ : gi S0_) (ha1_ : (-2147483648) ≤ a1_ ∧ a1_ ≤ 2147483647) : sm_T (mt_P sc_) 0 369 (0, [some (.inr (.inr (some (13, 0)))), some (.inl a1_)], [], S0_) (fun ro9_ => ∃ u_ S1_, ro9_ = (.inl u_, S1_, 0) ∧ vq_369 a1_ S0_ u_ S1_) := by
  have hF_ : ai_fr (sx_W vw_369) S0_ S0_ := ai_fr_rf
  refine sm_T_go 1 (c1 := (1, [some (.inr (.inr (some (13, 0)))), some (.inl a1_)], [.inl a1_], S0_)) rfl ?_
  refine sm_T_b0 (a := 2) (z := 22) rfl (fun cx1_ => ?_) (fun cx1_ => ?_)
  · have cx1_ : a1_ < 0 := of_decide_eq_true cx1_
    refine sm_T_go 1 (c1 := (24, [some (.inr (.inr (some (13, 0)))), some (.inl a1_)], [.inl 0], S0_)) rfl ?_
    refine sm_T_rz rfl (by omega) ⟨_, _, rfl, rfl, _, rfl, ?_⟩
    omega
  · have cx1_ : ¬ (a1_ < 0) := of_decide_eq_false cx1_
    refine sm_T_go 2 (c1 := (7, [some (.inr (.inr (some (13, 0)))), some (.inl a1_)], [.inl 6, .inl a1_], S0_)) rfl ?_
    refine sm_T_br (a := 3) (z := 16) rfl (fun cx2_ => ?_) (fun cx2_ => ?_)
    · have cx2_ : 6 ≤ a1_ := of_decide_eq_true cx2_
      refine sm_T_go 1 (c1 := (24, [some (.inr (.inr (some (13, 0)))), some (.inl a1_)], [.inl 0], S0_)) rfl ?_
      refine sm_T_rz rfl (by omega) ⟨_, _, rfl, rfl, _, rfl, ?_⟩
      omega
    · have cx2_ : ¬ (6 ≤ a1_) := of_decide_eq_false cx2_
      refine sm_T_go 3 (c1 := (15, [some (.inr (.inr (some (13, 0)))), some (.inl a1_)], [.inl a1_, .inr (.inr (some (153, 0)))], S0_)) rfl ?_
      refine sm_T_zald (n := 6) rfl rfl (by omega) (by omega) ?_
      have bx3_ : 0 ≤ S0_.2.2.1 153 0 a1_.toNat ∧ S0_.2.2.1 153 0 a1_.toNat ≤ 1 := hI_.2 153 0 _
      refine sm_T_b0 (a := 0) (z := 7) rfl (fun cx4_ => ?_) (fun cx4_ => ?_)
      · have cx4_ : (S0_.2.2.1 153 0 a1_.toNat) = 0 := of_decide_eq_true cx4_
        refine sm_T_go 1 (c1 := (24, [some (.inr (.inr (some (13, 0)))), some (.inl a1_)], [.inl 0], S0_)) rfl ?_
        refine sm_T_rz rfl (by omega) ⟨_, _, rfl, rfl, _, rfl, ?_⟩
        omega
      · have cx4_ : ¬ ((S0_.2.2.1 153 0 a1_.toNat) = 0) := of_decide_eq_false cx4_
        refine sm_T_go 2 (c1 := (24, [some (.inr (.inr (some (13, 0)))), some (.inl a1_)], [.inl 1], S0_)) rfl ?_
        refine sm_T_rz rfl (by omega) ⟨_, _, rfl, rfl, _, rfl, ?_⟩
        omega
/-! M_.isLibrary -/
def vw_370 : sx_Wl := ([], [], [])
def vq_370 (a1_ : Int) (S0_ : sm_S) (u_ : Option sm_V) (S1_ : sm_S) : Prop := S0_ = S1_ ∧ ∃ v_ : Int, u_ = some (.inl v_) ∧ (((-2147483648) ≤ v_ ∧ v_ ≤ 2147483647) ∧ ((v_ = 1 ∧ 0 ≤ a1_ ∧ a1_ < 3 ∧ S0_.2.2.1 183 0 a1_.toNat = 1) ∨ (v_ = 0 ∧ (a1_ < 0 ∨ 3 ≤ a1_ ∨ S0_.2.2.1 183 0 a1_.toNat = 0))))
set_option maxHeartbeats 400000 in
set_option maxRecDepth 20000 in
theorem vc_370 {sc_ : Nat × (Nat → Int)} (a1_ : Int) (S0_ : sm_S) (hI_ : gi S0_) (ha1_ : (-2147483648) ≤ a1_ ∧ a1_ ≤ 2147483647) : sm_T (mt_P sc_) 0 370 (0, [some (.inr (.inr (some (13, 0)))), some (.inl a1_)], [], S0_) (fun ro9_ => ∃ u_ S1_, ro9_ = (.inl u_, S1_, 0) ∧ vq_370 a1_ S0_ u_ S1_) := by
  have hF_ : ai_fr (sx_W vw_370) S0_ S0_ := ai_fr_rf
  refine sm_T_go 1 (c1 := (1, [some (.inr (.inr (some (13, 0)))), some (.inl a1_)], [.inl a1_], S0_)) rfl ?_
  refine sm_T_b0 (a := 2) (z := 21) rfl (fun cx1_ => ?_) (fun cx1_ => ?_)
  · have cx1_ : a1_ < 0 := of_decide_eq_true cx1_
    refine sm_T_go 1 (c1 := (23, [some (.inr (.inr (some (13, 0)))), some (.inl a1_)], [.inl 0], S0_)) rfl ?_
    refine sm_T_rz rfl (by omega) ⟨_, _, rfl, rfl, _, rfl, ?_⟩
    omega
  · have cx1_ : ¬ (a1_ < 0) := of_decide_eq_false cx1_
    refine sm_T_go 2 (c1 := (6, [some (.inr (.inr (some (13, 0)))), some (.inl a1_)], [.inl 3, .inl a1_], S0_)) rfl ?_
    refine sm_T_br (a := 3) (z := 16) rfl (fun cx2_ => ?_) (fun cx2_ => ?_)
    · have cx2_ : 3 ≤ a1_ := of_decide_eq_true cx2_
      refine sm_T_go 1 (c1 := (23, [some (.inr (.inr (some (13, 0)))), some (.inl a1_)], [.inl 0], S0_)) rfl ?_
      refine sm_T_rz rfl (by omega) ⟨_, _, rfl, rfl, _, rfl, ?_⟩
      omega
    · have cx2_ : ¬ (3 ≤ a1_) := of_decide_eq_false cx2_
      refine sm_T_go 3 (c1 := (14, [some (.inr (.inr (some (13, 0)))), some (.inl a1_)], [.inl a1_, .inr (.inr (some (183, 0)))], S0_)) rfl ?_
      refine sm_T_zald (n := 3) rfl rfl (by omega) (by omega) ?_
      have bx3_ : 0 ≤ S0_.2.2.1 183 0 a1_.toNat ∧ S0_.2.2.1 183 0 a1_.toNat ≤ 1 := hI_.2 183 0 _
      refine sm_T_b0 (a := 0) (z := 7) rfl (fun cx4_ => ?_) (fun cx4_ => ?_)
      · have cx4_ : (S0_.2.2.1 183 0 a1_.toNat) = 0 := of_decide_eq_true cx4_
        refine sm_T_go 1 (c1 := (23, [some (.inr (.inr (some (13, 0)))), some (.inl a1_)], [.inl 0], S0_)) rfl ?_
        refine sm_T_rz rfl (by omega) ⟨_, _, rfl, rfl, _, rfl, ?_⟩
        omega
      · have cx4_ : ¬ ((S0_.2.2.1 183 0 a1_.toNat) = 0) := of_decide_eq_false cx4_
        refine sm_T_go 2 (c1 := (23, [some (.inr (.inr (some (13, 0)))), some (.inl a1_)], [.inl 1], S0_)) rfl ?_
        refine sm_T_rz rfl (by omega) ⟨_, _, rfl, rfl, _, rfl, ?_⟩
        omega
/-! M_.isChip -/
def vw_371 : sx_Wl := ([], [], [])
def vq_371 (a1_ : Int) (S0_ : sm_S) (u_ : Option sm_V) (S1_ : sm_S) : Prop := S0_ = S1_ ∧ ∃ v_ : Int, u_ = some (.inl v_) ∧ (((-2147483648) ≤ v_ ∧ v_ ≤ 2147483647) ∧ ((v_ = 1 ∧ 0 ≤ a1_ ∧ a1_ < 4 ∧ S0_.2.2.1 222 0 a1_.toNat = 1) ∨ (v_ = 0 ∧ (a1_ < 0 ∨ 4 ≤ a1_ ∨ S0_.2.2.1 222 0 a1_.toNat = 0))))
set_option maxHeartbeats 400000 in
set_option maxRecDepth 20000 in
theorem vc_371 {sc_ : Nat × (Nat → Int)} (a1_ : Int) (S0_ : sm_S) (hI_ : gi S0_) (ha1_ : (-2147483648) ≤ a1_ ∧ a1_ ≤ 2147483647) : sm_T (mt_P sc_) 0 371 (0, [some (.inr (.inr (some (13, 0)))), some (.inl a1_)], [], S0_) (fun ro9_ => ∃ u_ S1_, ro9_ = (.inl u_, S1_, 0) ∧ vq_371 a1_ S0_ u_ S1_) := by
  have hF_ : ai_fr (sx_W vw_371) S0_ S0_ := ai_fr_rf
  refine sm_T_go 1 (c1 := (1, [some (.inr (.inr (some (13, 0)))), some (.inl a1_)], [.inl a1_], S0_)) rfl ?_
  refine sm_T_b0 (a := 2) (z := 21) rfl (fun cx1_ => ?_) (fun cx1_ => ?_)
  · have cx1_ : a1_ < 0 := of_decide_eq_true cx1_
    refine sm_T_go 1 (c1 := (23, [some (.inr (.inr (some (13, 0)))), some (.inl a1_)], [.inl 0], S0_)) rfl ?_
    refine sm_T_rz rfl (by omega) ⟨_, _, rfl, rfl, _, rfl, ?_⟩
    omega
  · have cx1_ : ¬ (a1_ < 0) := of_decide_eq_false cx1_
    refine sm_T_go 2 (c1 := (6, [some (.inr (.inr (some (13, 0)))), some (.inl a1_)], [.inl 4, .inl a1_], S0_)) rfl ?_
    refine sm_T_br (a := 3) (z := 16) rfl (fun cx2_ => ?_) (fun cx2_ => ?_)
    · have cx2_ : 4 ≤ a1_ := of_decide_eq_true cx2_
      refine sm_T_go 1 (c1 := (23, [some (.inr (.inr (some (13, 0)))), some (.inl a1_)], [.inl 0], S0_)) rfl ?_
      refine sm_T_rz rfl (by omega) ⟨_, _, rfl, rfl, _, rfl, ?_⟩
      omega
    · have cx2_ : ¬ (4 ≤ a1_) := of_decide_eq_false cx2_
      refine sm_T_go 3 (c1 := (14, [some (.inr (.inr (some (13, 0)))), some (.inl a1_)], [.inl a1_, .inr (.inr (some (222, 0)))], S0_)) rfl ?_
      refine sm_T_zald (n := 4) rfl rfl (by omega) (by omega) ?_
      have bx3_ : 0 ≤ S0_.2.2.1 222 0 a1_.toNat ∧ S0_.2.2.1 222 0 a1_.toNat ≤ 1 := hI_.2 222 0 _
      refine sm_T_b0 (a := 0) (z := 7) rfl (fun cx4_ => ?_) (fun cx4_ => ?_)
      · have cx4_ : (S0_.2.2.1 222 0 a1_.toNat) = 0 := of_decide_eq_true cx4_
        refine sm_T_go 1 (c1 := (23, [some (.inr (.inr (some (13, 0)))), some (.inl a1_)], [.inl 0], S0_)) rfl ?_
        refine sm_T_rz rfl (by omega) ⟨_, _, rfl, rfl, _, rfl, ?_⟩
        omega
      · have cx4_ : ¬ ((S0_.2.2.1 222 0 a1_.toNat) = 0) := of_decide_eq_false cx4_
        refine sm_T_go 2 (c1 := (23, [some (.inr (.inr (some (13, 0)))), some (.inl a1_)], [.inl 1], S0_)) rfl ?_
        refine sm_T_rz rfl (by omega) ⟨_, _, rfl, rfl, _, rfl, ?_⟩
        omega
/-! M_.isOne -/
def vw_372 : sx_Wl := ([], [], [])
def vq_372 (a1_ : Int) (a2_ : Int) (S0_ : sm_S) (u_ : Option sm_V) (S1_ : sm_S) : Prop := S0_ = S1_ ∧ ∃ v_ : Int, u_ = some (.inl v_) ∧ (((-2147483648) ≤ v_ ∧ v_ ≤ 2147483647) ∧ ((a1_ = 0 ∧ ((v_ = 1 ∧ 0 ≤ a2_ ∧ a2_ < 6 ∧ S0_.2.2.1 153 0 a2_.toNat = 1) ∨ (v_ = 0 ∧ (a2_ < 0 ∨ 6 ≤ a2_ ∨ S0_.2.2.1 153 0 a2_.toNat = 0)))) ∨ (a1_ = 1 ∧ ((v_ = 1 ∧ 0 ≤ a2_ ∧ a2_ < 3 ∧ S0_.2.2.1 183 0 a2_.toNat = 1) ∨ (v_ = 0 ∧ (a2_ < 0 ∨ 3 ≤ a2_ ∨ S0_.2.2.1 183 0 a2_.toNat = 0)))) ∨ (a1_ ≠ 0 ∧ a1_ ≠ 1 ∧ ((v_ = 1 ∧ 0 ≤ a2_ ∧ a2_ < 4 ∧ S0_.2.2.1 222 0 a2_.toNat = 1) ∨ (v_ = 0 ∧ (a2_ < 0 ∨ 4 ≤ a2_ ∨ S0_.2.2.1 222 0 a2_.toNat = 0))))))
set_option maxHeartbeats 400000 in
set_option maxRecDepth 20000 in
theorem vc_372 {sc_ : Nat × (Nat → Int)} (a1_ : Int) (a2_ : Int) (S0_ : sm_S) (hI_ : gi S0_) (ha1_ : (-2147483648) ≤ a1_ ∧ a1_ ≤ 2147483647) (ha2_ : (-2147483648) ≤ a2_ ∧ a2_ ≤ 2147483647) : sm_T (mt_P sc_) 1 372 (0, [some (.inr (.inr (some (13, 0)))), some (.inl a1_), some (.inl a2_)], [], S0_) (fun ro9_ => ∃ u_ S1_, ro9_ = (.inl u_, S1_, 0) ∧ vq_372 a1_ a2_ S0_ u_ S1_) := by
  have hF_ : ai_fr (sx_W vw_372) S0_ S0_ := ai_fr_rf
  refine sm_T_go 1 (c1 := (1, [some (.inr (.inr (some (13, 0)))), some (.inl a1_), some (.inl a2_)], [.inl a1_], S0_)) rfl ?_
  refine sm_T_b0 (a := 1) (z := 11) rfl (fun cx1_ => ?_) (fun cx1_ => ?_)
  · have cx1_ : a1_ ≠ 0 := of_decide_eq_true cx1_
    refine sm_T_go 2 (c1 := (14, [some (.inr (.inr (some (13, 0)))), some (.inl a1_), some (.inl a2_)], [.inl 1, .inl a1_], S0_)) rfl ?_
    refine sm_T_br (a := 1) (z := 11) rfl (fun cx2_ => ?_) (fun cx2_ => ?_)
    · have cx2_ : a1_ ≠ 1 := of_decide_eq_true cx2_
      refine sm_T_go 2 (c1 := (27, [some (.inr (.inr (some (13, 0)))), some (.inl a1_), some (.inl a2_)], [.inl a2_, .inr (.inr (some (13, 0)))], S0_)) rfl ?_
      refine sm_T_cal (d1 := 0) (Q1 := vq_371 a2_ S0_) rfl rfl (by decide) (vc_371 a2_ S0_ hI_ (by omega)) (fun u_ Sx3_ px6_ => ?_)
      obtain ⟨rfl, vx8_, rfl, px6_⟩ := px6_
      refine sm_T_rz rfl (by omega) ⟨_, _, rfl, rfl, _, rfl, ?_⟩
      omega
    · have cx2_ : ¬ (a1_ ≠ 1) := of_decide_eq_false cx2_
      refine sm_T_go 2 (c1 := (19, [some (.inr (.inr (some (13, 0)))), some (.inl a1_), some (.inl a2_)], [.inl a2_, .inr (.inr (some (13, 0)))], S0_)) rfl ?_
      refine sm_T_cal (d1 := 0) (Q1 := vq_370 a2_ S0_) rfl rfl (by decide) (vc_370 a2_ S0_ hI_ (by omega)) (fun u_ Sx9_ px12_ => ?_)
      obtain ⟨rfl, vx14_, rfl, px12_⟩ := px12_
      refine sm_T_go 1 (c1 := (30, [some (.inr (.inr (some (13, 0)))), some (.inl a1_), some (.inl a2_)], [.inl vx14_], S0_)) rfl ?_
      refine sm_T_rz rfl (by omega) ⟨_, _, rfl, rfl, _, rfl, ?_⟩
      omega
  · have cx1_ : ¬ (a1_ ≠ 0) := of_decide_eq_false cx1_
    refine sm_T_go 2 (c1 := (6, [some (.inr (.inr (some (13, 0)))), some (.inl a1_), some (.inl a2_)], [.inl a2_, .inr (.inr (some (13, 0)))], S0_)) rfl ?_
    refine sm_T_cal (d1 := 0) (Q1 := vq_369 a2_ S0_) rfl rfl (by decide) (vc_369 a2_ S0_ hI_ (by omega)) (fun u_ Sx15_ px18_ => ?_)
    obtain ⟨rfl, vx20_, rfl, px18_⟩ := px18_
    refine sm_T_go 1 (c1 := (30, [some (.inr (.inr (some (13, 0)))), some (.inl a1_), some (.inl a2_)], [.inl vx20_], S0_)) rfl ?_
    refine sm_T_rz rfl (by omega) ⟨_, _, rfl, rfl, _, rfl, ?_⟩
    omega
/-! M_.isBelow -/
def vw_381 : sx_Wl := ([], [], [])
def vq_381 (a0_ : Int) (a1_ : Int) (S0_ : sm_S) (u_ : Option sm_V) (S1_ : sm_S) : Prop := S0_ = S1_ ∧ ∃ v_ : Int, u_ = some (.inl v_) ∧ (((-2147483648) ≤ v_ ∧ v_ ≤ 2147483647) ∧ ((v_ = 0 ∨ v_ = 1) ∧ (v_ = 1 ↔ 0 ≤ a0_ ∧ a0_ < 2 ^ a1_.toNat)))
set_option maxHeartbeats 400000 in
set_option maxRecDepth 20000 in
theorem vc_381 {sc_ : Nat × (Nat → Int)} (a0_ : Int) (a1_ : Int) (S0_ : sm_S) (hI_ : gi S0_) (ha0_ : (-2147483648) ≤ a0_ ∧ a0_ ≤ 2147483647) (ha1_ : 0 ≤ a1_ ∧ a1_ ≤ 12) : sm_T (mt_P sc_) 0 381 (0, [some (.inl a0_), some (.inl a1_)], [], S0_) (fun ro9_ => ∃ u_ S1_, ro9_ = (.inl u_, S1_, 0) ∧ vq_381 a0_ a1_ S0_ u_ S1_) := by
  have hF_ : ai_fr (sx_W vw_381) S0_ S0_ := ai_fr_rf
  refine sm_T_go 1 (c1 := (1, [some (.inl a0_), some (.inl a1_)], [.inl a0_], S0_)) rfl ?_
  refine sm_T_b0 (a := 2) (z := 14) rfl (fun cx1_ => ?_) (fun cx1_ => ?_)
  · have cx1_ : a0_ < 0 := of_decide_eq_true cx1_
    refine sm_T_go 1 (c1 := (16, [some (.inl a0_), some (.inl a1_)], [.inl 0], S0_)) rfl ?_
    refine sm_T_rz rfl (by omega) ⟨_, _, rfl, rfl, _, rfl, ?_⟩
    have sh9_ := i_shl1 (e := a1_) (by omega) (by omega)
    rw [← sh9_]
    omega
  · have cx1_ : ¬ (a0_ < 0) := of_decide_eq_false cx1_
    refine sm_T_go 3 (c1 := (7, [some (.inl a0_), some (.inl a1_)], [.inl a1_, .inl 1, .inl a0_], S0_)) rfl ?_
    refine sm_T_bin (w := (i_shl 1 a1_)) rfl rfl ?_ -- pc_ 7
    first | have bx2_ := i_shl_1 (x_ := 1) (e_ := a1_) (by omega) (by omega) | have bx2_ := i_shl_n 1 a1_
    refine sm_T_br (a := 3) (z := 7) rfl (fun cx3_ => ?_) (fun cx3_ => ?_)
    · have cx3_ : (i_shl 1 a1_) ≤ a0_ := of_decide_eq_true cx3_
      refine sm_T_go 1 (c1 := (16, [some (.inl a0_), some (.inl a1_)], [.inl 0], S0_)) rfl ?_
      refine sm_T_rz rfl (by omega) ⟨_, _, rfl, rfl, _, rfl, ?_⟩
      have sh9_ := i_shl1 (e := a1_) (by omega) (by omega)
      rw [← sh9_]
      omega
    · have cx3_ : ¬ ((i_shl 1 a1_) ≤ a0_) := of_decide_eq_false cx3_
      refine sm_T_go 2 (c1 := (16, [some (.inl a0_), some (.inl a1_)], [.inl 1], S0_)) rfl ?_
      refine sm_T_rz rfl (by omega) ⟨_, _, rfl, rfl, _, rfl, ?_⟩
      have sh9_ := i_shl1 (e := a1_) (by omega) (by omega)
      rw [← sh9_]
      omega
/-! M_.end -/
def vw_280 : sx_Wl := ([(13, 0), (13, 2)], [], [])
def vq_280 (n_ : Int) (S0_ : sm_S) (u_ : Option sm_V) (S1_ : sm_S) : Prop := u_ = none ∧ gi S1_ ∧ ai_fr (sx_W vw_280) S0_ S1_ ∧ (jR S1_ ∧ S1_.1 13 0 2 = if 0 ≤ n_ ∧ n_ ≤ S0_.1 13 0 2 then n_ else S0_.1 13 0 2)
set_option maxHeartbeats 400000 in
set_option maxRecDepth 20000 in
theorem vc_280 {sc_ : Nat × (Nat → Int)} (n_ : Int) (S0_ : sm_S) (hI_ : gi S0_) (hJ_ : jR S0_) : sm_T (mt_P sc_) 0 280 (0, [some (.inr (.inr (some (13, 0)))), some (.inl n_)], [], S0_) (fun ro9_ => ∃ u_ S1_, ro9_ = (.inl u_, S1_, 0) ∧ vq_280 n_ S0_ u_ S1_) := by
  have hF_ : ai_fr (sx_W vw_280) S0_ S0_ := ai_fr_rf
  refine sm_T_go 2 (c1 := (2, [some (.inr (.inr (some (13, 0)))), some (.inl n_)], [.inl n_, .inr (.inr (some (13, 0)))], S0_)) rfl ?_
  refine sm_T_b0 (a := 2) (z := 11) rfl (fun cx1_ => ?_) (fun cx1_ => ?_)
  · have cx1_ : n_ < 0 := of_decide_eq_true cx1_
    have hIx2_ : gi (sm_pI S0_ 13 0 0 1) := gi_pI hI_ (show 0 ≤ 1 ∧ 1 ≤ 4 from ⟨by omega, by omega⟩)
    have hFx3_ : ai_fr (sx_W vw_280) S0_ (sm_pI S0_ 13 0 0 1) := ai_fr_tr hF_ (ai_fr_pI rfl)
    have bx4_ : 0 ≤ S0_.1 13 0 2 ∧ S0_.1 13 0 2 ≤ 1280 := hI_.1 13 0 2 rfl
    have hIx5_ : gi (sm_pI (sm_pI S0_ 13 0 0 1) 13 0 2 (S0_.1 13 0 2)) := gi_pI hIx2_ (show 0 ≤ (S0_.1 13 0 2) ∧ (S0_.1 13 0 2) ≤ 1280 from ⟨by omega, by omega⟩)
    have hFx6_ : ai_fr (sx_W vw_280) S0_ (sm_pI (sm_pI S0_ 13 0 0 1) 13 0 2 (S0_.1 13 0 2)) := ai_fr_tr hFx3_ (ai_fr_pI rfl)
    refine sm_T_go 11 (c1 := (40, [some (.inr (.inr (some (13, 0)))), some (.inl n_)], [], sm_pI (sm_pI S0_ 13 0 0 1) 13 0 2 (S0_.1 13 0 2))) rfl ?_
    refine sm_T_rv rfl ⟨_, _, rfl, rfl, hIx5_, hFx6_, ?_⟩
    refine ⟨hJ_, ?_⟩
    first | rw [if_pos (by omega)] | rw [if_neg (by omega)]
    first | exact rf_eq | (rw [rf_nk (by decide)])
  · have cx1_ : ¬ (n_ < 0) := of_decide_eq_false cx1_
    have bx7_ : 0 ≤ S0_.1 13 0 2 ∧ S0_.1 13 0 2 ≤ 1280 := hI_.1 13 0 2 rfl
    refine sm_T_go 3 (c1 := (10, [some (.inr (.inr (some (13, 0)))), some (.inl n_)], [.inl (S0_.1 13 0 2), .inl n_, .inr (.inr (some (13, 0)))], S0_)) rfl ?_
    refine sm_T_br (a := 5) (z := 7) rfl (fun cx8_ => ?_) (fun cx8_ => ?_)
    · have cx8_ : n_ ≤ (S0_.1 13 0 2) := of_decide_eq_true cx8_
      have hIx9_ : gi (sm_pI S0_ 13 0 0 0) := gi_pI hI_ (show 0 ≤ 0 ∧ 0 ≤ 4 from ⟨by omega, by omega⟩)
      have hFx10_ : ai_fr (sx_W vw_280) S0_ (sm_pI S0_ 13 0 0 0) := ai_fr_tr hF_ (ai_fr_pI rfl)
      have hIx11_ : gi (sm_pI (sm_pI S0_ 13 0 0 0) 13 0 2 n_) := gi_pI hIx9_ (show 0 ≤ n_ ∧ n_ ≤ 1280 from ⟨by omega, by omega⟩)
      have hFx12_ : ai_fr (sx_W vw_280) S0_ (sm_pI (sm_pI S0_ 13 0 0 0) 13 0 2 n_) := ai_fr_tr hFx10_ (ai_fr_pI rfl)
      refine sm_T_go 8 (c1 := (40, [some (.inr (.inr (some (13, 0)))), some (.inl n_)], [], sm_pI (sm_pI S0_ 13 0 0 0) 13 0 2 n_)) rfl ?_
      refine sm_T_rv rfl ⟨_, _, rfl, rfl, hIx11_, hFx12_, ?_⟩
      refine ⟨hJ_, ?_⟩
      first | rw [if_pos (by omega)] | rw [if_neg (by omega)]
      first | exact rf_eq | (rw [rf_nk (by decide)])
    · have cx8_ : ¬ (n_ ≤ (S0_.1 13 0 2)) := of_decide_eq_false cx8_
      have hIx13_ : gi (sm_pI S0_ 13 0 0 1) := gi_pI hI_ (show 0 ≤ 1 ∧ 1 ≤ 4 from ⟨by omega, by omega⟩)
      have hFx14_ : ai_fr (sx_W vw_280) S0_ (sm_pI S0_ 13 0 0 1) := ai_fr_tr hF_ (ai_fr_pI rfl)
      have hIx15_ : gi (sm_pI (sm_pI S0_ 13 0 0 1) 13 0 2 (S0_.1 13 0 2)) := gi_pI hIx13_ (show 0 ≤ (S0_.1 13 0 2) ∧ (S0_.1 13 0 2) ≤ 1280 from ⟨by omega, by omega⟩)
      have hFx16_ : ai_fr (sx_W vw_280) S0_ (sm_pI (sm_pI S0_ 13 0 0 1) 13 0 2 (S0_.1 13 0 2)) := ai_fr_tr hFx14_ (ai_fr_pI rfl)
      refine sm_T_go 11 (c1 := (40, [some (.inr (.inr (some (13, 0)))), some (.inl n_)], [], sm_pI (sm_pI S0_ 13 0 0 1) 13 0 2 (S0_.1 13 0 2))) rfl ?_
      refine sm_T_rv rfl ⟨_, _, rfl, rfl, hIx15_, hFx16_, ?_⟩
      refine ⟨hJ_, ?_⟩
      first | rw [if_pos (by omega)] | rw [if_neg (by omega)]
      first | exact rf_eq | (rw [rf_nk (by decide)])
/-! M_.fault -/
def vw_368 : sx_Wl := ([(13, 0)], [], [])
def vq_368  (S0_ : sm_S) (u_ : Option sm_V) (S1_ : sm_S) : Prop := ∃ v_ : Int, u_ = some (.inl v_) ∧ gi S1_ ∧ ai_fr (sx_W vw_368) S0_ S1_ ∧ (((-2147483648) ≤ v_ ∧ v_ ≤ 2147483647) ∧ (jR S1_))
set_option maxHeartbeats 400000 in
set_option maxRecDepth 20000 in
theorem vc_368 {sc_ : Nat × (Nat → Int)}  (S0_ : sm_S) (hI_ : gi S0_) (hJ_ : jR S0_) : sm_T (mt_P sc_) 0 368 (0, [some (.inr (.inr (some (13, 0))))], [], S0_) (fun ro9_ => ∃ u_ S1_, ro9_ = (.inl u_, S1_, 0) ∧ vq_368  S0_ u_ S1_) := by
  have hF_ : ai_fr (sx_W vw_368) S0_ S0_ := ai_fr_rf
  have hIx1_ : gi (sm_pI S0_ 13 0 0 0) := gi_pI hI_ (show 0 ≤ 0 ∧ 0 ≤ 4 from ⟨by omega, by omega⟩)
  have hFx2_ : ai_fr (sx_W vw_368) S0_ (sm_pI S0_ 13 0 0 0) := ai_fr_tr hF_ (ai_fr_pI rfl)
  have bx3_ : 0 ≤ S0_.1 13 0 79 ∧ S0_.1 13 0 79 ≤ 23 := hI_.1 13 0 79 rfl
  refine sm_T_go 5 (c1 := (9, [some (.inr (.inr (some (13, 0))))], [.inl (S0_.1 13 0 79)], sm_pI S0_ 13 0 0 0)) rfl ?_
  refine sm_T_ri rfl ⟨_, _, rfl, _, rfl, hIx1_, hFx2_, ?_⟩
  refine ⟨⟨by omega, by omega⟩, jR_fr hJ_ hIx1_ hFx2_⟩
/-! M_.tape -/
def vw_281 : sx_Wl := ([(13, 0)], [], [])
def vq_281  (S0_ : sm_S) (u_ : Option sm_V) (S1_ : sm_S) : Prop := ∃ v_ : Int, u_ = some (.inl v_) ∧ gi S1_ ∧ ai_fr (sx_W vw_281) S0_ S1_ ∧ (((-2147483648) ≤ v_ ∧ v_ ≤ 2147483647) ∧ (jR S1_ ∧ v_ = S0_.1 13 0 2))
set_option maxHeartbeats 400000 in
set_option maxRecDepth 20000 in
theorem vc_281 {sc_ : Nat × (Nat → Int)}  (S0_ : sm_S) (hI_ : gi S0_) (hJ_ : jR S0_) : sm_T (mt_P sc_) 0 281 (0, [some (.inr (.inr (some (13, 0))))], [], S0_) (fun ro9_ => ∃ u_ S1_, ro9_ = (.inl u_, S1_, 0) ∧ vq_281  S0_ u_ S1_) := by
  have hF_ : ai_fr (sx_W vw_281) S0_ S0_ := ai_fr_rf
  have hIx1_ : gi (sm_pI S0_ 13 0 0 0) := gi_pI hI_ (show 0 ≤ 0 ∧ 0 ≤ 4 from ⟨by omega, by omega⟩)
  have hFx2_ : ai_fr (sx_W vw_281) S0_ (sm_pI S0_ 13 0 0 0) := ai_fr_tr hF_ (ai_fr_pI rfl)
  have bx3_ : 0 ≤ S0_.1 13 0 2 ∧ S0_.1 13 0 2 ≤ 1280 := hI_.1 13 0 2 rfl
  refine sm_T_go 5 (c1 := (9, [some (.inr (.inr (some (13, 0))))], [.inl (S0_.1 13 0 2)], sm_pI S0_ 13 0 0 0)) rfl ?_
  refine sm_T_ri rfl ⟨_, _, rfl, _, rfl, hIx1_, hFx2_, ?_⟩
  refine ⟨⟨by omega, by omega⟩, hJ_, ?_⟩
  first | rfl | exact rf_nk (by decide)
/-! M_.isThere -/
def vw_374 : sx_Wl := ([(13, 0)], [], [])
def vq_374 (a1_ : Int) (a2_ : Int) (S0_ : sm_S) (u_ : Option sm_V) (S1_ : sm_S) : Prop := ∃ v_ : Int, u_ = some (.inl v_) ∧ gi S1_ ∧ ai_fr (sx_W vw_374) S0_ S1_ ∧ (((-2147483648) ≤ v_ ∧ v_ ≤ 2147483647) ∧ (jR S1_))
set_option maxHeartbeats 400000 in
set_option maxRecDepth 20000 in
theorem vc_374 {sc_ : Nat × (Nat → Int)} (a1_ : Int) (a2_ : Int) (S0_ : sm_S) (hI_ : gi S0_) (ha1_ : (-2147483648) ≤ a1_ ∧ a1_ ≤ 2147483647) (ha2_ : (-2147483648) ≤ a2_ ∧ a2_ ≤ 2147483647) (hJ_ : jR S0_) : sm_T (mt_P sc_) 2 374 (0, [some (.inr (.inr (some (13, 0)))), some (.inl a1_), some (.inl a2_)], [], S0_) (fun ro9_ => ∃ u_ S1_, ro9_ = (.inl u_, S1_, 0) ∧ vq_374 a1_ a2_ S0_ u_ S1_) := by
  have hF_ : ai_fr (sx_W vw_374) S0_ S0_ := ai_fr_rf
  refine sm_T_go 4 (c1 := (4, [some (.inr (.inr (some (13, 0)))), some (.inl a1_), some (.inl a2_)], [.inl 2, .inl 0, .inl a1_, .inr (.inr (some (13, 0)))], S0_)) rfl ?_
  refine sm_T_cal (d1 := 0) (Q1 := vq_278 a1_ 0 2 S0_) rfl rfl (by decide) (vc_278 a1_ 0 2 S0_ hI_ ) (fun u_ Sx1_ px4_ => ?_)
  obtain ⟨rfl, vx6_, rfl, px4_⟩ := px4_
  refine sm_T_b0 (a := 0) (z := 7) rfl (fun cx7_ => ?_) (fun cx7_ => ?_)
  · have cx7_ : vx6_ = 0 := of_decide_eq_true cx7_
    have hIx8_ : gi (sm_pI S0_ 13 0 0 1) := gi_pI hI_ (show 0 ≤ 1 ∧ 1 ≤ 4 from ⟨by omega, by omega⟩)
    have hFx9_ : ai_fr (sx_W vw_374) S0_ (sm_pI S0_ 13 0 0 1) := ai_fr_tr hF_ (ai_fr_pI rfl)
    refine sm_T_go 6 (c1 := (39, [some (.inr (.inr (some (13, 0)))), some (.inl a1_), some (.inl a2_)], [.inl 0], sm_pI S0_ 13 0 0 1)) rfl ?_
    refine sm_T_rz rfl (by omega) ⟨_, _, rfl, _, rfl, hIx8_, hFx9_, ?_⟩
    refine ⟨⟨by omega, by omega⟩, jR_fr hJ_ hIx8_ hFx9_⟩
  · have cx7_ : ¬ (vx6_ = 0) := of_decide_eq_false cx7_
    have hIx10_ : gi (sm_pI S0_ 13 0 0 0) := gi_pI hI_ (show 0 ≤ 0 ∧ 0 ≤ 4 from ⟨by omega, by omega⟩)
    have hFx11_ : ai_fr (sx_W vw_374) S0_ (sm_pI S0_ 13 0 0 0) := ai_fr_tr hF_ (ai_fr_pI rfl)
    refine sm_T_go 9 (c1 := (28, [some (.inr (.inr (some (13, 0)))), some (.inl a1_), some (.inl a2_)], [.inl a2_, .inl a1_, .inr (.inr (some (13, 0)))], sm_pI S0_ 13 0 0 0)) rfl ?_
    refine sm_T_cal (d1 := 1) (Q1 := vq_372 a1_ a2_ (sm_pI S0_ 13 0 0 0)) rfl rfl (by decide) (vc_372 a1_ a2_ (sm_pI S0_ 13 0 0 0) hIx10_ (by omega) (by omega)) (fun u_ Sx12_ px15_ => ?_)
    obtain ⟨rfl, vx17_, rfl, px15_⟩ := px15_
    refine sm_T_b0 (a := 0) (z := 7) rfl (fun cx18_ => ?_) (fun cx18_ => ?_)
    · have cx18_ : vx17_ = 0 := of_decide_eq_true cx18_
      refine sm_T_go 1 (c1 := (39, [some (.inr (.inr (some (13, 0)))), some (.inl a1_), some (.inl a2_)], [.inl 0], sm_pI S0_ 13 0 0 0)) rfl ?_
      refine sm_T_rz rfl (by omega) ⟨_, _, rfl, _, rfl, hIx10_, hFx11_, ?_⟩
      refine ⟨⟨by omega, by omega⟩, jR_fr hJ_ hIx10_ hFx11_⟩
    · have cx18_ : ¬ (vx17_ = 0) := of_decide_eq_false cx18_
      refine sm_T_go 2 (c1 := (39, [some (.inr (.inr (some (13, 0)))), some (.inl a1_), some (.inl a2_)], [.inl 1], sm_pI S0_ 13 0 0 0)) rfl ?_
      refine sm_T_rz rfl (by omega) ⟨_, _, rfl, _, rfl, hIx10_, hFx11_, ?_⟩
      refine ⟨⟨by omega, by omega⟩, jR_fr hJ_ hIx10_ hFx11_⟩
/-! M_.graph -/
def vw_375 : sx_Wl := ([(13, 0)], [], [])
def vq_375 (a1_ : Int) (a2_ : Int) (S0_ : sm_S) (u_ : Option sm_V) (S1_ : sm_S) : Prop := ∃ v_ : Int, u_ = some (.inl v_) ∧ gi S1_ ∧ ai_fr (sx_W vw_375) S0_ S1_ ∧ (((-2147483648) ≤ v_ ∧ v_ ≤ 2147483647) ∧ (jR S1_))
set_option maxHeartbeats 400000 in
set_option maxRecDepth 20000 in
theorem vc_375 {sc_ : Nat × (Nat → Int)} (a1_ : Int) (a2_ : Int) (S0_ : sm_S) (hI_ : gi S0_) (ha1_ : (-2147483648) ≤ a1_ ∧ a1_ ≤ 2147483647) (ha2_ : (-2147483648) ≤ a2_ ∧ a2_ ≤ 2147483647) (hJ_ : jR S0_) : sm_T (mt_P sc_) 1 375 (0, [some (.inr (.inr (some (13, 0)))), some (.inl a1_), some (.inl a2_)], [], S0_) (fun ro9_ => ∃ u_ S1_, ro9_ = (.inl u_, S1_, 0) ∧ vq_375 a1_ a2_ S0_ u_ S1_) := by
  have hF_ : ai_fr (sx_W vw_375) S0_ S0_ := ai_fr_rf
  refine sm_T_go 3 (c1 := (3, [some (.inr (.inr (some (13, 0)))), some (.inl a1_), some (.inl a2_)], [.inl a1_, .inr (.inr (some (13, 0))), .inr (.inr (some (13, 0)))], S0_)) rfl ?_
  refine sm_T_cal (d1 := 0) (Q1 := vq_369 a1_ S0_) rfl rfl (by decide) (vc_369 a1_ S0_ hI_ (by omega)) (fun u_ Sx1_ px4_ => ?_)
  obtain ⟨rfl, vx6_, rfl, px4_⟩ := px4_
  refine sm_T_b0 (a := 1) (z := 7) rfl (fun cx7_ => ?_) (fun cx7_ => ?_)
  · have cx7_ : vx6_ ≠ 0 := of_decide_eq_true cx7_
    refine sm_T_go 3 (c1 := (17, [some (.inr (.inr (some (13, 0)))), some (.inl a1_), some (.inl a2_)], [.inl 7, .inl 0, .inl a2_, .inr (.inr (some (13, 0)))], S0_)) rfl ?_
    refine sm_T_cal (d1 := 0) (Q1 := vq_278 a2_ 0 7 S0_) rfl rfl (by decide) (vc_278 a2_ 0 7 S0_ hI_ ) (fun u_ Sx8_ px11_ => ?_)
    obtain ⟨rfl, vx13_, rfl, px11_⟩ := px11_
    refine sm_T_b0 (a := 1) (z := 7) rfl (fun cx14_ => ?_) (fun cx14_ => ?_)
    · have cx14_ : vx13_ ≠ 0 := of_decide_eq_true cx14_
      have hIx15_ : gi (sm_pI S0_ 13 0 0 0) := gi_pI hI_ (show 0 ≤ 0 ∧ 0 ≤ 4 from ⟨by omega, by omega⟩)
      have hFx16_ : ai_fr (sx_W vw_375) S0_ (sm_pI S0_ 13 0 0 0) := ai_fr_tr hF_ (ai_fr_pI rfl)
      refine sm_T_go 6 (c1 := (41, [some (.inr (.inr (some (13, 0)))), some (.inl a1_), some (.inl a2_)], [.inl a2_], sm_pI S0_ 13 0 0 0)) rfl ?_
      by_cases cx17_ : a2_ = 0
      · refine sm_T_sw (t := 84) rfl rfl (by rw [cx17_]; rfl) ?_
        refine sm_T_go 3 (c1 := (89, [some (.inr (.inr (some (13, 0)))), some (.inl a1_), some (.inl a2_)], [.inl a1_, .inr (.inr (some (154, 0)))], sm_pI S0_ 13 0 0 0)) rfl ?_
        refine sm_T_iald (n := 6) rfl rfl (by omega) (by omega) ?_
        have bx18_ : 0 ≤ S0_.2.2.1 154 0 a1_.toNat ∧ S0_.2.2.1 154 0 a1_.toNat ≤ 12 := hI_.2 154 0 _
        refine sm_T_go 0 (c1 := (90, [some (.inr (.inr (some (13, 0)))), some (.inl a1_), some (.inl a2_)], [.inl (S0_.2.2.1 154 0 a1_.toNat)], sm_pI S0_ 13 0 0 0)) rfl ?_
        refine sm_T_ri rfl ⟨_, _, rfl, _, rfl, hIx15_, hFx16_, ?_⟩
        refine ⟨⟨by omega, by omega⟩, jR_fr hJ_ hIx15_ hFx16_⟩
      by_cases cx19_ : a2_ = 1
      · refine sm_T_sw (t := 91) rfl rfl (by rw [cx19_]; rfl) ?_
        refine sm_T_go 3 (c1 := (96, [some (.inr (.inr (some (13, 0)))), some (.inl a1_), some (.inl a2_)], [.inl a1_, .inr (.inr (some (155, 0)))], sm_pI S0_ 13 0 0 0)) rfl ?_
        refine sm_T_iald (n := 6) rfl rfl (by omega) (by omega) ?_
        have bx20_ : 0 ≤ S0_.2.2.1 155 0 a1_.toNat ∧ S0_.2.2.1 155 0 a1_.toNat ≤ 6 := hI_.2 155 0 _
        refine sm_T_go 0 (c1 := (97, [some (.inr (.inr (some (13, 0)))), some (.inl a1_), some (.inl a2_)], [.inl (S0_.2.2.1 155 0 a1_.toNat)], sm_pI S0_ 13 0 0 0)) rfl ?_
        refine sm_T_ri rfl ⟨_, _, rfl, _, rfl, hIx15_, hFx16_, ?_⟩
        refine ⟨⟨by omega, by omega⟩, jR_fr hJ_ hIx15_ hFx16_⟩
      by_cases cx21_ : a2_ = 2
      · refine sm_T_sw (t := 98) rfl rfl (by rw [cx21_]; rfl) ?_
        refine sm_T_go 3 (c1 := (103, [some (.inr (.inr (some (13, 0)))), some (.inl a1_), some (.inl a2_)], [.inl a1_, .inr (.inr (some (156, 0)))], sm_pI S0_ 13 0 0 0)) rfl ?_
        refine sm_T_iald (n := 6) rfl rfl (by omega) (by omega) ?_
        have bx22_ : 0 ≤ S0_.2.2.1 156 0 a1_.toNat ∧ S0_.2.2.1 156 0 a1_.toNat ≤ 16 := hI_.2 156 0 _
        refine sm_T_go 0 (c1 := (104, [some (.inr (.inr (some (13, 0)))), some (.inl a1_), some (.inl a2_)], [.inl (S0_.2.2.1 156 0 a1_.toNat)], sm_pI S0_ 13 0 0 0)) rfl ?_
        refine sm_T_ri rfl ⟨_, _, rfl, _, rfl, hIx15_, hFx16_, ?_⟩
        refine ⟨⟨by omega, by omega⟩, jR_fr hJ_ hIx15_ hFx16_⟩
      by_cases cx23_ : a2_ = 3
      · refine sm_T_sw (t := 105) rfl rfl (by rw [cx23_]; rfl) ?_
        refine sm_T_go 3 (c1 := (110, [some (.inr (.inr (some (13, 0)))), some (.inl a1_), some (.inl a2_)], [.inl a1_, .inr (.inr (some (159, 0)))], sm_pI S0_ 13 0 0 0)) rfl ?_
        refine sm_T_iald (n := 6) rfl rfl (by omega) (by omega) ?_
        have bx24_ : 0 ≤ S0_.2.2.1 159 0 a1_.toNat ∧ S0_.2.2.1 159 0 a1_.toNat ≤ 1013 := hI_.2 159 0 _
        refine sm_T_go 3 (c1 := (116, [some (.inr (.inr (some (13, 0)))), some (.inl a1_), some (.inl a2_)], [.inl a1_, .inr (.inr (some (160, 0))), .inl (S0_.2.2.1 159 0 a1_.toNat)], sm_pI S0_ 13 0 0 0)) rfl ?_
        refine sm_T_iald (n := 6) rfl rfl (by omega) (by omega) ?_
        have bx25_ : 0 ≤ S0_.2.2.1 160 0 a1_.toNat ∧ S0_.2.2.1 160 0 a1_.toNat ≤ 19 := hI_.2 160 0 _
        refine sm_T_go 0 (c1 := (117, [some (.inr (.inr (some (13, 0)))), some (.inl a1_), some (.inl a2_)], [.inl (S0_.2.2.1 160 0 a1_.toNat), .inl (S0_.2.2.1 159 0 a1_.toNat)], sm_pI S0_ 13 0 0 0)) rfl ?_
        refine sm_T_bin (w := (S0_.2.2.1 159 0 a1_.toNat) - (S0_.2.2.1 160 0 a1_.toNat)) rfl (bi_sub (by omega) (by omega) (by omega)) ?_ -- pc_ 117
        refine sm_T_ri rfl ⟨_, _, rfl, _, rfl, hIx15_, hFx16_, ?_⟩
        refine ⟨⟨by omega, by omega⟩, jR_fr hJ_ hIx15_ hFx16_⟩
      by_cases cx26_ : a2_ = 4
      · refine sm_T_sw (t := 119) rfl rfl (by rw [cx26_]; rfl) ?_
        refine sm_T_go 3 (c1 := (124, [some (.inr (.inr (some (13, 0)))), some (.inl a1_), some (.inl a2_)], [.inl a1_, .inr (.inr (some (161, 0)))], sm_pI S0_ 13 0 0 0)) rfl ?_
        refine sm_T_iald (n := 6) rfl rfl (by omega) (by omega) ?_
        have bx27_ : 0 ≤ S0_.2.2.1 161 0 a1_.toNat ∧ S0_.2.2.1 161 0 a1_.toNat ≤ 1000 := hI_.2 161 0 _
        refine sm_T_go 0 (c1 := (125, [some (.inr (.inr (some (13, 0)))), some (.inl a1_), some (.inl a2_)], [.inl (S0_.2.2.1 161 0 a1_.toNat)], sm_pI S0_ 13 0 0 0)) rfl ?_
        refine sm_T_ri rfl ⟨_, _, rfl, _, rfl, hIx15_, hFx16_, ?_⟩
        refine ⟨⟨by omega, by omega⟩, jR_fr hJ_ hIx15_ hFx16_⟩
      by_cases cx28_ : a2_ = 5
      · refine sm_T_sw (t := 126) rfl rfl (by rw [cx28_]; rfl) ?_
        refine sm_T_go 3 (c1 := (131, [some (.inr (.inr (some (13, 0)))), some (.inl a1_), some (.inl a2_)], [.inl a1_, .inr (.inr (some (162, 0)))], sm_pI S0_ 13 0 0 0)) rfl ?_
        refine sm_T_iald (n := 6) rfl rfl (by omega) (by omega) ?_
        have bx29_ : 0 ≤ S0_.2.2.1 162 0 a1_.toNat ∧ S0_.2.2.1 162 0 a1_.toNat ≤ 1000 := hI_.2 162 0 _
        refine sm_T_go 0 (c1 := (132, [some (.inr (.inr (some (13, 0)))), some (.inl a1_), some (.inl a2_)], [.inl (S0_.2.2.1 162 0 a1_.toNat)], sm_pI S0_ 13 0 0 0)) rfl ?_
        refine sm_T_ri rfl ⟨_, _, rfl, _, rfl, hIx15_, hFx16_, ?_⟩
        refine ⟨⟨by omega, by omega⟩, jR_fr hJ_ hIx15_ hFx16_⟩
      by_cases cx30_ : a2_ = 6
      · refine sm_T_sw (t := 133) rfl rfl (by rw [cx30_]; rfl) ?_
        refine sm_T_go 3 (c1 := (138, [some (.inr (.inr (some (13, 0)))), some (.inl a1_), some (.inl a2_)], [.inl a1_, .inr (.inr (some (163, 0)))], sm_pI S0_ 13 0 0 0)) rfl ?_
        refine sm_T_iald (n := 6) rfl rfl (by omega) (by omega) ?_
        have bx31_ : 0 ≤ S0_.2.2.1 163 0 a1_.toNat ∧ S0_.2.2.1 163 0 a1_.toNat ≤ 64 := hI_.2 163 0 _
        refine sm_T_go 0 (c1 := (139, [some (.inr (.inr (some (13, 0)))), some (.inl a1_), some (.inl a2_)], [.inl (S0_.2.2.1 163 0 a1_.toNat)], sm_pI S0_ 13 0 0 0)) rfl ?_
        refine sm_T_ri rfl ⟨_, _, rfl, _, rfl, hIx15_, hFx16_, ?_⟩
        refine ⟨⟨by omega, by omega⟩, jR_fr hJ_ hIx15_ hFx16_⟩
      refine sm_T_sw (t := 140) rfl rfl (by (have hh_ : a2_ < 0 ∨ 7 ≤ a2_ := by omega); rcases hh_ with hh_ | hh_; (exact sm_swd (Or.inl hh_)); (exact sm_swd (Or.inr (by simp only [List.length_cons, List.length_nil]; omega)))) ?_
      refine sm_T_go 3 (c1 := (145, [some (.inr (.inr (some (13, 0)))), some (.inl a1_), some (.inl a2_)], [.inl a1_, .inr (.inr (some (157, 0)))], sm_pI S0_ 13 0 0 0)) rfl ?_
      refine sm_T_iald (n := 6) rfl rfl (by omega) (by omega) ?_
      have bx32_ : 0 ≤ S0_.2.2.1 157 0 a1_.toNat ∧ S0_.2.2.1 157 0 a1_.toNat ≤ 63 := hI_.2 157 0 _
      refine sm_T_go 0 (c1 := (146, [some (.inr (.inr (some (13, 0)))), some (.inl a1_), some (.inl a2_)], [.inl (S0_.2.2.1 157 0 a1_.toNat)], sm_pI S0_ 13 0 0 0)) rfl ?_
      refine sm_T_ri rfl ⟨_, _, rfl, _, rfl, hIx15_, hFx16_, ?_⟩
      refine ⟨⟨by omega, by omega⟩, jR_fr hJ_ hIx15_ hFx16_⟩
    · have cx14_ : ¬ (vx13_ ≠ 0) := of_decide_eq_false cx14_
      have hIx33_ : gi (sm_pI S0_ 13 0 0 2) := gi_pI hI_ (show 0 ≤ 2 ∧ 2 ≤ 4 from ⟨by omega, by omega⟩)
      have hFx34_ : ai_fr (sx_W vw_375) S0_ (sm_pI S0_ 13 0 0 2) := ai_fr_tr hF_ (ai_fr_pI rfl)
      refine sm_T_go 7 (c1 := (39, [some (.inr (.inr (some (13, 0)))), some (.inl a1_), some (.inl a2_)], [.inl 0], sm_pI S0_ 13 0 0 2)) rfl ?_
      refine sm_T_ri rfl ⟨_, _, rfl, _, rfl, hIx33_, hFx34_, ?_⟩
      refine ⟨⟨by omega, by omega⟩, jR_fr hJ_ hIx33_ hFx34_⟩
  · have cx7_ : ¬ (vx6_ ≠ 0) := of_decide_eq_false cx7_
    have hIx35_ : gi (sm_pI S0_ 13 0 0 1) := gi_pI hI_ (show 0 ≤ 1 ∧ 1 ≤ 4 from ⟨by omega, by omega⟩)
    have hFx36_ : ai_fr (sx_W vw_375) S0_ (sm_pI S0_ 13 0 0 1) := ai_fr_tr hF_ (ai_fr_pI rfl)
    refine sm_T_go 7 (c1 := (39, [some (.inr (.inr (some (13, 0)))), some (.inl a1_), some (.inl a2_)], [.inl 0], sm_pI S0_ 13 0 0 1)) rfl ?_
    refine sm_T_ri rfl ⟨_, _, rfl, _, rfl, hIx35_, hFx36_, ?_⟩
    refine ⟨⟨by omega, by omega⟩, jR_fr hJ_ hIx35_ hFx36_⟩
/-! M_.literal -/
def vw_376 : sx_Wl := ([(13, 0)], [], [])
def vq_376 (a1_ : Int) (a2_ : Int) (a3_ : Int) (S0_ : sm_S) (u_ : Option sm_V) (S1_ : sm_S) : Prop := ∃ v_ : Int, u_ = some (.inl v_) ∧ gi S1_ ∧ ai_fr (sx_W vw_376) S0_ S1_ ∧ (((-2147483648) ≤ v_ ∧ v_ ≤ 2147483647) ∧ (jR S1_))
set_option maxHeartbeats 400000 in
set_option maxRecDepth 20000 in
theorem vc_376 {sc_ : Nat × (Nat → Int)} (a1_ : Int) (a2_ : Int) (a3_ : Int) (S0_ : sm_S) (hI_ : gi S0_) (ha1_ : (-2147483648) ≤ a1_ ∧ a1_ ≤ 2147483647) (ha2_ : (-2147483648) ≤ a2_ ∧ a2_ ≤ 2147483647) (ha3_ : (-2147483648) ≤ a3_ ∧ a3_ ≤ 2147483647) (hJ_ : jR S0_) : sm_T (mt_P sc_) 1 376 (0, [some (.inr (.inr (some (13, 0)))), some (.inl a1_), some (.inl a2_), some (.inl a3_)], [], S0_) (fun ro9_ => ∃ u_ S1_, ro9_ = (.inl u_, S1_, 0) ∧ vq_376 a1_ a2_ a3_ S0_ u_ S1_) := by
  have hF_ : ai_fr (sx_W vw_376) S0_ S0_ := ai_fr_rf
  refine sm_T_go 3 (c1 := (3, [some (.inr (.inr (some (13, 0)))), some (.inl a1_), some (.inl a2_), some (.inl a3_)], [.inl a1_, .inr (.inr (some (13, 0))), .inr (.inr (some (13, 0)))], S0_)) rfl ?_
  refine sm_T_cal (d1 := 0) (Q1 := vq_369 a1_ S0_) rfl rfl (by decide) (vc_369 a1_ S0_ hI_ (by omega)) (fun u_ Sx1_ px4_ => ?_)
  obtain ⟨rfl, vx6_, rfl, px4_⟩ := px4_
  refine sm_T_b0 (a := 0) (z := 32) rfl (fun cx7_ => ?_) (fun cx7_ => ?_)
  · have cx7_ : vx6_ = 0 := of_decide_eq_true cx7_
    have hIx8_ : gi (sm_pI S0_ 13 0 0 1) := gi_pI hI_ (show 0 ≤ 1 ∧ 1 ≤ 4 from ⟨by omega, by omega⟩)
    have hFx9_ : ai_fr (sx_W vw_376) S0_ (sm_pI S0_ 13 0 0 1) := ai_fr_tr hF_ (ai_fr_pI rfl)
    refine sm_T_go 7 (c1 := (54, [some (.inr (.inr (some (13, 0)))), some (.inl a1_), some (.inl a2_), some (.inl a3_)], [.inl 0], sm_pI S0_ 13 0 0 1)) rfl ?_
    refine sm_T_ri rfl ⟨_, _, rfl, _, rfl, hIx8_, hFx9_, ?_⟩
    refine ⟨⟨by omega, by omega⟩, jR_fr hJ_ hIx8_ hFx9_⟩
  · have cx7_ : ¬ (vx6_ = 0) := of_decide_eq_false cx7_
    refine sm_T_go 4 (c1 := (15, [some (.inr (.inr (some (13, 0)))), some (.inl a1_), some (.inl a2_), some (.inl a3_)], [.inl a1_, .inr (.inr (some (160, 0))), .inl a2_, .inr (.inr (some (13, 0)))], S0_)) rfl ?_
    refine sm_T_iald (n := 6) rfl rfl (by omega) (by omega) ?_
    have bx10_ : 0 ≤ S0_.2.2.1 160 0 a1_.toNat ∧ S0_.2.2.1 160 0 a1_.toNat ≤ 19 := hI_.2 160 0 _
    refine sm_T_br (a := 2) (z := 22) rfl (fun cx11_ => ?_) (fun cx11_ => ?_)
    · have cx11_ : a2_ < (S0_.2.2.1 160 0 a1_.toNat) := of_decide_eq_true cx11_
      have hIx12_ : gi (sm_pI S0_ 13 0 0 1) := gi_pI hI_ (show 0 ≤ 1 ∧ 1 ≤ 4 from ⟨by omega, by omega⟩)
      have hFx13_ : ai_fr (sx_W vw_376) S0_ (sm_pI S0_ 13 0 0 1) := ai_fr_tr hF_ (ai_fr_pI rfl)
      refine sm_T_go 7 (c1 := (54, [some (.inr (.inr (some (13, 0)))), some (.inl a1_), some (.inl a2_), some (.inl a3_)], [.inl 0], sm_pI S0_ 13 0 0 1)) rfl ?_
      refine sm_T_ri rfl ⟨_, _, rfl, _, rfl, hIx12_, hFx13_, ?_⟩
      refine ⟨⟨by omega, by omega⟩, jR_fr hJ_ hIx12_ hFx13_⟩
    · have cx11_ : ¬ (a2_ < (S0_.2.2.1 160 0 a1_.toNat)) := of_decide_eq_false cx11_
      refine sm_T_go 4 (c1 := (25, [some (.inr (.inr (some (13, 0)))), some (.inl a1_), some (.inl a2_), some (.inl a3_)], [.inl a1_, .inr (.inr (some (159, 0))), .inl a2_, .inr (.inr (some (13, 0)))], S0_)) rfl ?_
      refine sm_T_iald (n := 6) rfl rfl (by omega) (by omega) ?_
      have bx14_ : 0 ≤ S0_.2.2.1 159 0 a1_.toNat ∧ S0_.2.2.1 159 0 a1_.toNat ≤ 1013 := hI_.2 159 0 _
      refine sm_T_br (a := 3) (z := 12) rfl (fun cx15_ => ?_) (fun cx15_ => ?_)
      · have cx15_ : (S0_.2.2.1 159 0 a1_.toNat) ≤ a2_ := of_decide_eq_true cx15_
        have hIx16_ : gi (sm_pI S0_ 13 0 0 1) := gi_pI hI_ (show 0 ≤ 1 ∧ 1 ≤ 4 from ⟨by omega, by omega⟩)
        have hFx17_ : ai_fr (sx_W vw_376) S0_ (sm_pI S0_ 13 0 0 1) := ai_fr_tr hF_ (ai_fr_pI rfl)
        refine sm_T_go 7 (c1 := (54, [some (.inr (.inr (some (13, 0)))), some (.inl a1_), some (.inl a2_), some (.inl a3_)], [.inl 0], sm_pI S0_ 13 0 0 1)) rfl ?_
        refine sm_T_ri rfl ⟨_, _, rfl, _, rfl, hIx16_, hFx17_, ?_⟩
        refine ⟨⟨by omega, by omega⟩, jR_fr hJ_ hIx16_ hFx17_⟩
      · have cx15_ : ¬ ((S0_.2.2.1 159 0 a1_.toNat) ≤ a2_) := of_decide_eq_false cx15_
        refine sm_T_go 3 (c1 := (32, [some (.inr (.inr (some (13, 0)))), some (.inl a1_), some (.inl a2_), some (.inl a3_)], [.inl 1, .inl 0, .inl a3_, .inr (.inr (some (13, 0)))], S0_)) rfl ?_
        refine sm_T_cal (d1 := 0) (Q1 := vq_278 a3_ 0 1 S0_) rfl rfl (by decide) (vc_278 a3_ 0 1 S0_ hI_ ) (fun u_ Sx18_ px21_ => ?_)
        obtain ⟨rfl, vx23_, rfl, px21_⟩ := px21_
        refine sm_T_b0 (a := 1) (z := 7) rfl (fun cx24_ => ?_) (fun cx24_ => ?_)
        · have cx24_ : vx23_ ≠ 0 := of_decide_eq_true cx24_
          have hIx25_ : gi (sm_pI S0_ 13 0 0 0) := gi_pI hI_ (show 0 ≤ 0 ∧ 0 ≤ 4 from ⟨by omega, by omega⟩)
          have hFx26_ : ai_fr (sx_W vw_376) S0_ (sm_pI S0_ 13 0 0 0) := ai_fr_tr hF_ (ai_fr_pI rfl)
          refine sm_T_go 6 (c1 := (56, [some (.inr (.inr (some (13, 0)))), some (.inl a1_), some (.inl a2_), some (.inl a3_)], [.inl a3_], sm_pI S0_ 13 0 0 0)) rfl ?_
          refine sm_T_b0 (a := 1) (z := 18) rfl (fun cx27_ => ?_) (fun cx27_ => ?_)
          · have cx27_ : a3_ ≠ 0 := of_decide_eq_true cx27_
            refine sm_T_go 4 (c1 := (82, [some (.inr (.inr (some (13, 0)))), some (.inl a1_), some (.inl a2_), some (.inl a3_)], [.inl a1_, .inl 2048, .inr (.inr (some (165, 0)))], sm_pI S0_ 13 0 0 0)) rfl ?_
            refine sm_T_bin (w := 2048 * a1_) rfl (bi_mul (by omega) (by omega) (by omega)) ?_ -- pc_ 82
            refine sm_T_go 1 (c1 := (84, [some (.inr (.inr (some (13, 0)))), some (.inl a1_), some (.inl a2_), some (.inl a3_)], [.inl a2_, .inl (2048 * a1_), .inr (.inr (some (165, 0)))], sm_pI S0_ 13 0 0 0)) rfl ?_
            refine sm_T_bin (w := 2048 * a1_ + a2_) rfl (bi_add (by omega) (by omega) (by omega)) ?_ -- pc_ 84
            refine sm_T_iald (n := 12288) rfl rfl (by omega) (by omega) ?_
            have bx28_ : 0 ≤ S0_.2.2.1 165 0 (2048 * a1_ + a2_).toNat ∧ S0_.2.2.1 165 0 (2048 * a1_ + a2_).toNat ≤ 2047 := hI_.2 165 0 _
            refine sm_T_go 0 (c1 := (86, [some (.inr (.inr (some (13, 0)))), some (.inl a1_), some (.inl a2_), some (.inl a3_)], [.inl (S0_.2.2.1 165 0 (2048 * a1_ + a2_).toNat)], sm_pI S0_ 13 0 0 0)) rfl ?_
            refine sm_T_ri rfl ⟨_, _, rfl, _, rfl, hIx25_, hFx26_, ?_⟩
            refine ⟨⟨by omega, by omega⟩, jR_fr hJ_ hIx25_ hFx26_⟩
          · have cx27_ : ¬ (a3_ ≠ 0) := of_decide_eq_false cx27_
            refine sm_T_go 4 (c1 := (67, [some (.inr (.inr (some (13, 0)))), some (.inl a1_), some (.inl a2_), some (.inl a3_)], [.inl a1_, .inl 2048, .inr (.inr (some (164, 0)))], sm_pI S0_ 13 0 0 0)) rfl ?_
            refine sm_T_bin (w := 2048 * a1_) rfl (bi_mul (by omega) (by omega) (by omega)) ?_ -- pc_ 67
            refine sm_T_go 1 (c1 := (69, [some (.inr (.inr (some (13, 0)))), some (.inl a1_), some (.inl a2_), some (.inl a3_)], [.inl a2_, .inl (2048 * a1_), .inr (.inr (some (164, 0)))], sm_pI S0_ 13 0 0 0)) rfl ?_
            refine sm_T_bin (w := 2048 * a1_ + a2_) rfl (bi_add (by omega) (by omega) (by omega)) ?_ -- pc_ 69
            refine sm_T_iald (n := 12288) rfl rfl (by omega) (by omega) ?_
            have bx29_ : 0 ≤ S0_.2.2.1 164 0 (2048 * a1_ + a2_).toNat ∧ S0_.2.2.1 164 0 (2048 * a1_ + a2_).toNat ≤ 2047 := hI_.2 164 0 _
            refine sm_T_go 1 (c1 := (86, [some (.inr (.inr (some (13, 0)))), some (.inl a1_), some (.inl a2_), some (.inl a3_)], [.inl (S0_.2.2.1 164 0 (2048 * a1_ + a2_).toNat)], sm_pI S0_ 13 0 0 0)) rfl ?_
            refine sm_T_ri rfl ⟨_, _, rfl, _, rfl, hIx25_, hFx26_, ?_⟩
            refine ⟨⟨by omega, by omega⟩, jR_fr hJ_ hIx25_ hFx26_⟩
        · have cx24_ : ¬ (vx23_ ≠ 0) := of_decide_eq_false cx24_
          have hIx30_ : gi (sm_pI S0_ 13 0 0 1) := gi_pI hI_ (show 0 ≤ 1 ∧ 1 ≤ 4 from ⟨by omega, by omega⟩)
          have hFx31_ : ai_fr (sx_W vw_376) S0_ (sm_pI S0_ 13 0 0 1) := ai_fr_tr hF_ (ai_fr_pI rfl)
          refine sm_T_go 7 (c1 := (54, [some (.inr (.inr (some (13, 0)))), some (.inl a1_), some (.inl a2_), some (.inl a3_)], [.inl 0], sm_pI S0_ 13 0 0 1)) rfl ?_
          refine sm_T_ri rfl ⟨_, _, rfl, _, rfl, hIx30_, hFx31_, ?_⟩
          refine ⟨⟨by omega, by omega⟩, jR_fr hJ_ hIx30_ hFx31_⟩
/-! M_.swept -/
def vw_377 : sx_Wl := ([(13, 0)], [], [])
def vq_377 (a1_ : Int) (a2_ : Int) (S0_ : sm_S) (u_ : Option sm_V) (S1_ : sm_S) : Prop := ∃ v_ : Int, u_ = some (.inl v_) ∧ gi S1_ ∧ ai_fr (sx_W vw_377) S0_ S1_ ∧ (((-2147483648) ≤ v_ ∧ v_ ≤ 2147483647) ∧ (jR S1_))
set_option maxHeartbeats 400000 in
set_option maxRecDepth 20000 in
theorem vc_377 {sc_ : Nat × (Nat → Int)} (a1_ : Int) (a2_ : Int) (S0_ : sm_S) (hI_ : gi S0_) (ha1_ : (-2147483648) ≤ a1_ ∧ a1_ ≤ 2147483647) (ha2_ : (-2147483648) ≤ a2_ ∧ a2_ ≤ 2147483647) (hJ_ : jR S0_) : sm_T (mt_P sc_) 1 377 (0, [some (.inr (.inr (some (13, 0)))), some (.inl a1_), some (.inl a2_)], [], S0_) (fun ro9_ => ∃ u_ S1_, ro9_ = (.inl u_, S1_, 0) ∧ vq_377 a1_ a2_ S0_ u_ S1_) := by
  have hF_ : ai_fr (sx_W vw_377) S0_ S0_ := ai_fr_rf
  refine sm_T_go 3 (c1 := (3, [some (.inr (.inr (some (13, 0)))), some (.inl a1_), some (.inl a2_)], [.inl a1_, .inr (.inr (some (13, 0))), .inr (.inr (some (13, 0)))], S0_)) rfl ?_
  refine sm_T_cal (d1 := 0) (Q1 := vq_369 a1_ S0_) rfl rfl (by decide) (vc_369 a1_ S0_ hI_ (by omega)) (fun u_ Sx1_ px4_ => ?_)
  obtain ⟨rfl, vx6_, rfl, px4_⟩ := px4_
  refine sm_T_b0 (a := 0) (z := 17) rfl (fun cx7_ => ?_) (fun cx7_ => ?_)
  · have cx7_ : vx6_ = 0 := of_decide_eq_true cx7_
    have hIx8_ : gi (sm_pI S0_ 13 0 0 1) := gi_pI hI_ (show 0 ≤ 1 ∧ 1 ≤ 4 from ⟨by omega, by omega⟩)
    have hFx9_ : ai_fr (sx_W vw_377) S0_ (sm_pI S0_ 13 0 0 1) := ai_fr_tr hF_ (ai_fr_pI rfl)
    refine sm_T_go 8 (c1 := (54, [some (.inr (.inr (some (13, 0)))), some (.inl a1_), some (.inl a2_)], [.inl 0], sm_pI S0_ 13 0 0 1)) rfl ?_
    refine sm_T_ri rfl ⟨_, _, rfl, _, rfl, hIx8_, hFx9_, ?_⟩
    refine ⟨⟨by omega, by omega⟩, jR_fr hJ_ hIx8_ hFx9_⟩
  · have cx7_ : ¬ (vx6_ = 0) := of_decide_eq_false cx7_
    refine sm_T_go 1 (c1 := (10, [some (.inr (.inr (some (13, 0)))), some (.inl a1_), some (.inl a2_)], [.inl a2_, .inr (.inr (some (13, 0)))], S0_)) rfl ?_
    refine sm_T_b0 (a := 2) (z := 13) rfl (fun cx10_ => ?_) (fun cx10_ => ?_)
    · have cx10_ : a2_ < 0 := of_decide_eq_true cx10_
      have hIx11_ : gi (sm_pI S0_ 13 0 0 1) := gi_pI hI_ (show 0 ≤ 1 ∧ 1 ≤ 4 from ⟨by omega, by omega⟩)
      have hFx12_ : ai_fr (sx_W vw_377) S0_ (sm_pI S0_ 13 0 0 1) := ai_fr_tr hF_ (ai_fr_pI rfl)
      refine sm_T_go 8 (c1 := (54, [some (.inr (.inr (some (13, 0)))), some (.inl a1_), some (.inl a2_)], [.inl 0], sm_pI S0_ 13 0 0 1)) rfl ?_
      refine sm_T_ri rfl ⟨_, _, rfl, _, rfl, hIx11_, hFx12_, ?_⟩
      refine ⟨⟨by omega, by omega⟩, jR_fr hJ_ hIx11_ hFx12_⟩
    · have cx10_ : ¬ (a2_ < 0) := of_decide_eq_false cx10_
      refine sm_T_go 4 (c1 := (19, [some (.inr (.inr (some (13, 0)))), some (.inl a1_), some (.inl a2_)], [.inl a1_, .inr (.inr (some (159, 0))), .inl a2_, .inr (.inr (some (13, 0)))], S0_)) rfl ?_
      refine sm_T_iald (n := 6) rfl rfl (by omega) (by omega) ?_
      have bx13_ : 0 ≤ S0_.2.2.1 159 0 a1_.toNat ∧ S0_.2.2.1 159 0 a1_.toNat ≤ 1013 := hI_.2 159 0 _
      refine sm_T_br (a := 2) (z := 7) rfl (fun cx14_ => ?_) (fun cx14_ => ?_)
      · have cx14_ : a2_ < (S0_.2.2.1 159 0 a1_.toNat) := of_decide_eq_true cx14_
        have hIx15_ : gi (sm_pI S0_ 13 0 0 0) := gi_pI hI_ (show 0 ≤ 0 ∧ 0 ≤ 4 from ⟨by omega, by omega⟩)
        have hFx16_ : ai_fr (sx_W vw_377) S0_ (sm_pI S0_ 13 0 0 0) := ai_fr_tr hF_ (ai_fr_pI rfl)
        refine sm_T_go 9 (c1 := (50, [some (.inr (.inr (some (13, 0)))), some (.inl a1_), some (.inl a2_)], [.inl a1_, .inl 2048, .inr (.inr (some (166, 0)))], sm_pI S0_ 13 0 0 0)) rfl ?_
        refine sm_T_bin (w := 2048 * a1_) rfl (bi_mul (by omega) (by omega) (by omega)) ?_ -- pc_ 50
        refine sm_T_go 1 (c1 := (52, [some (.inr (.inr (some (13, 0)))), some (.inl a1_), some (.inl a2_)], [.inl a2_, .inl (2048 * a1_), .inr (.inr (some (166, 0)))], sm_pI S0_ 13 0 0 0)) rfl ?_
        refine sm_T_bin (w := 2048 * a1_ + a2_) rfl (bi_add (by omega) (by omega) (by omega)) ?_ -- pc_ 52
        refine sm_T_iald (n := 12288) rfl rfl (by omega) (by omega) ?_
        have bx17_ : 0 ≤ S0_.2.2.1 166 0 (2048 * a1_ + a2_).toNat ∧ S0_.2.2.1 166 0 (2048 * a1_ + a2_).toNat ≤ 2025 := hI_.2 166 0 _
        refine sm_T_go 0 (c1 := (54, [some (.inr (.inr (some (13, 0)))), some (.inl a1_), some (.inl a2_)], [.inl (S0_.2.2.1 166 0 (2048 * a1_ + a2_).toNat)], sm_pI S0_ 13 0 0 0)) rfl ?_
        refine sm_T_ri rfl ⟨_, _, rfl, _, rfl, hIx15_, hFx16_, ?_⟩
        refine ⟨⟨by omega, by omega⟩, jR_fr hJ_ hIx15_ hFx16_⟩
      · have cx14_ : ¬ (a2_ < (S0_.2.2.1 159 0 a1_.toNat)) := of_decide_eq_false cx14_
        have hIx18_ : gi (sm_pI S0_ 13 0 0 1) := gi_pI hI_ (show 0 ≤ 1 ∧ 1 ≤ 4 from ⟨by omega, by omega⟩)
        have hFx19_ : ai_fr (sx_W vw_377) S0_ (sm_pI S0_ 13 0 0 1) := ai_fr_tr hF_ (ai_fr_pI rfl)
        refine sm_T_go 8 (c1 := (54, [some (.inr (.inr (some (13, 0)))), some (.inl a1_), some (.inl a2_)], [.inl 0], sm_pI S0_ 13 0 0 1)) rfl ?_
        refine sm_T_ri rfl ⟨_, _, rfl, _, rfl, hIx18_, hFx19_, ?_⟩
        refine ⟨⟨by omega, by omega⟩, jR_fr hJ_ hIx18_ hFx19_⟩
/-! M_.root -/
def vw_378 : sx_Wl := ([(13, 0)], [], [])
def vq_378 (a1_ : Int) (a2_ : Int) (a3_ : Int) (S0_ : sm_S) (u_ : Option sm_V) (S1_ : sm_S) : Prop := ∃ v_ : Int, u_ = some (.inl v_) ∧ gi S1_ ∧ ai_fr (sx_W vw_378) S0_ S1_ ∧ (((-2147483648) ≤ v_ ∧ v_ ≤ 2147483647) ∧ (jR S1_))
set_option maxHeartbeats 400000 in
set_option maxRecDepth 20000 in
theorem vc_378 {sc_ : Nat × (Nat → Int)} (a1_ : Int) (a2_ : Int) (a3_ : Int) (S0_ : sm_S) (hI_ : gi S0_) (ha1_ : (-2147483648) ≤ a1_ ∧ a1_ ≤ 2147483647) (ha2_ : (-2147483648) ≤ a2_ ∧ a2_ ≤ 2147483647) (ha3_ : (-2147483648) ≤ a3_ ∧ a3_ ≤ 2147483647) (hJ_ : jR S0_) : sm_T (mt_P sc_) 1 378 (0, [some (.inr (.inr (some (13, 0)))), some (.inl a1_), some (.inl a2_), some (.inl a3_)], [], S0_) (fun ro9_ => ∃ u_ S1_, ro9_ = (.inl u_, S1_, 0) ∧ vq_378 a1_ a2_ a3_ S0_ u_ S1_) := by
  have hF_ : ai_fr (sx_W vw_378) S0_ S0_ := ai_fr_rf
  refine sm_T_go 3 (c1 := (3, [some (.inr (.inr (some (13, 0)))), some (.inl a1_), some (.inl a2_), some (.inl a3_)], [.inl a1_, .inr (.inr (some (13, 0))), .inr (.inr (some (13, 0)))], S0_)) rfl ?_
  refine sm_T_cal (d1 := 0) (Q1 := vq_369 a1_ S0_) rfl rfl (by decide) (vc_369 a1_ S0_ hI_ (by omega)) (fun u_ Sx1_ px4_ => ?_)
  obtain ⟨rfl, vx6_, rfl, px4_⟩ := px4_
  refine sm_T_b0 (a := 0) (z := 30) rfl (fun cx7_ => ?_) (fun cx7_ => ?_)
  · have cx7_ : vx6_ = 0 := of_decide_eq_true cx7_
    have hIx8_ : gi (sm_pI S0_ 13 0 0 1) := gi_pI hI_ (show 0 ≤ 1 ∧ 1 ≤ 4 from ⟨by omega, by omega⟩)
    have hFx9_ : ai_fr (sx_W vw_378) S0_ (sm_pI S0_ 13 0 0 1) := ai_fr_tr hF_ (ai_fr_pI rfl)
    refine sm_T_go 7 (c1 := (52, [some (.inr (.inr (some (13, 0)))), some (.inl a1_), some (.inl a2_), some (.inl a3_)], [.inl 0], sm_pI S0_ 13 0 0 1)) rfl ?_
    refine sm_T_ri rfl ⟨_, _, rfl, _, rfl, hIx8_, hFx9_, ?_⟩
    refine ⟨⟨by omega, by omega⟩, jR_fr hJ_ hIx8_ hFx9_⟩
  · have cx7_ : ¬ (vx6_ = 0) := of_decide_eq_false cx7_
    refine sm_T_go 1 (c1 := (10, [some (.inr (.inr (some (13, 0)))), some (.inl a1_), some (.inl a2_), some (.inl a3_)], [.inl a2_, .inr (.inr (some (13, 0)))], S0_)) rfl ?_
    refine sm_T_b0 (a := 2) (z := 26) rfl (fun cx10_ => ?_) (fun cx10_ => ?_)
    · have cx10_ : a2_ < 0 := of_decide_eq_true cx10_
      have hIx11_ : gi (sm_pI S0_ 13 0 0 1) := gi_pI hI_ (show 0 ≤ 1 ∧ 1 ≤ 4 from ⟨by omega, by omega⟩)
      have hFx12_ : ai_fr (sx_W vw_378) S0_ (sm_pI S0_ 13 0 0 1) := ai_fr_tr hF_ (ai_fr_pI rfl)
      refine sm_T_go 7 (c1 := (52, [some (.inr (.inr (some (13, 0)))), some (.inl a1_), some (.inl a2_), some (.inl a3_)], [.inl 0], sm_pI S0_ 13 0 0 1)) rfl ?_
      refine sm_T_ri rfl ⟨_, _, rfl, _, rfl, hIx11_, hFx12_, ?_⟩
      refine ⟨⟨by omega, by omega⟩, jR_fr hJ_ hIx11_ hFx12_⟩
    · have cx10_ : ¬ (a2_ < 0) := of_decide_eq_false cx10_
      refine sm_T_go 2 (c1 := (15, [some (.inr (.inr (some (13, 0)))), some (.inl a1_), some (.inl a2_), some (.inl a3_)], [.inl a3_, .inl a2_, .inr (.inr (some (13, 0)))], S0_)) rfl ?_
      refine sm_T_b0 (a := 0) (z := 12) rfl (fun cx13_ => ?_) (fun cx13_ => ?_)
      · have cx13_ : a3_ = 0 := of_decide_eq_true cx13_
        refine sm_T_go 3 (c1 := (32, [some (.inr (.inr (some (13, 0)))), some (.inl a1_), some (.inl a2_), some (.inl a3_)], [.inl a1_, .inr (.inr (some (156, 0))), .inl a2_, .inr (.inr (some (13, 0)))], S0_)) rfl ?_
        refine sm_T_iald (n := 6) rfl rfl (by omega) (by omega) ?_
        have bx14_ : 0 ≤ S0_.2.2.1 156 0 a1_.toNat ∧ S0_.2.2.1 156 0 a1_.toNat ≤ 16 := hI_.2 156 0 _
        refine sm_T_br (a := 2) (z := 7) rfl (fun cx15_ => ?_) (fun cx15_ => ?_)
        · have cx15_ : a2_ < (S0_.2.2.1 156 0 a1_.toNat) := of_decide_eq_true cx15_
          have hIx16_ : gi (sm_pI S0_ 13 0 0 0) := gi_pI hI_ (show 0 ≤ 0 ∧ 0 ≤ 4 from ⟨by omega, by omega⟩)
          have hFx17_ : ai_fr (sx_W vw_378) S0_ (sm_pI S0_ 13 0 0 0) := ai_fr_tr hF_ (ai_fr_pI rfl)
          refine sm_T_go 6 (c1 := (54, [some (.inr (.inr (some (13, 0)))), some (.inl a1_), some (.inl a2_), some (.inl a3_)], [.inl a3_], sm_pI S0_ 13 0 0 0)) rfl ?_
          refine sm_T_b0 (a := 0) (z := 17) rfl (fun cx18_ => ?_) (fun cx18_ => ?_)
          · have cx18_ : a3_ = 0 := of_decide_eq_true cx18_
            refine sm_T_go 4 (c1 := (78, [some (.inr (.inr (some (13, 0)))), some (.inl a1_), some (.inl a2_), some (.inl a3_)], [.inl a1_, .inl 16, .inr (.inr (some (167, 0)))], sm_pI S0_ 13 0 0 0)) rfl ?_
            refine sm_T_bin (w := 16 * a1_) rfl (bi_mul (by omega) (by omega) (by omega)) ?_ -- pc_ 78
            refine sm_T_go 1 (c1 := (80, [some (.inr (.inr (some (13, 0)))), some (.inl a1_), some (.inl a2_), some (.inl a3_)], [.inl a2_, .inl (16 * a1_), .inr (.inr (some (167, 0)))], sm_pI S0_ 13 0 0 0)) rfl ?_
            refine sm_T_bin (w := 16 * a1_ + a2_) rfl (bi_add (by omega) (by omega) (by omega)) ?_ -- pc_ 80
            refine sm_T_iald (n := 96) rfl rfl (by omega) (by omega) ?_
            have bx19_ : 0 ≤ S0_.2.2.1 167 0 (16 * a1_ + a2_).toNat ∧ S0_.2.2.1 167 0 (16 * a1_ + a2_).toNat ≤ 2047 := hI_.2 167 0 _
            refine sm_T_go 0 (c1 := (82, [some (.inr (.inr (some (13, 0)))), some (.inl a1_), some (.inl a2_), some (.inl a3_)], [.inl (S0_.2.2.1 167 0 (16 * a1_ + a2_).toNat)], sm_pI S0_ 13 0 0 0)) rfl ?_
            refine sm_T_ri rfl ⟨_, _, rfl, _, rfl, hIx16_, hFx17_, ?_⟩
            refine ⟨⟨by omega, by omega⟩, jR_fr hJ_ hIx16_ hFx17_⟩
          · have cx18_ : ¬ (a3_ = 0) := of_decide_eq_false cx18_
            exfalso; omega
        · have cx15_ : ¬ (a2_ < (S0_.2.2.1 156 0 a1_.toNat)) := of_decide_eq_false cx15_
          have hIx20_ : gi (sm_pI S0_ 13 0 0 1) := gi_pI hI_ (show 0 ≤ 1 ∧ 1 ≤ 4 from ⟨by omega, by omega⟩)
          have hFx21_ : ai_fr (sx_W vw_378) S0_ (sm_pI S0_ 13 0 0 1) := ai_fr_tr hF_ (ai_fr_pI rfl)
          refine sm_T_go 7 (c1 := (52, [some (.inr (.inr (some (13, 0)))), some (.inl a1_), some (.inl a2_), some (.inl a3_)], [.inl 0], sm_pI S0_ 13 0 0 1)) rfl ?_
          refine sm_T_ri rfl ⟨_, _, rfl, _, rfl, hIx20_, hFx21_, ?_⟩
          refine ⟨⟨by omega, by omega⟩, jR_fr hJ_ hIx20_ hFx21_⟩
      · have cx13_ : ¬ (a3_ = 0) := of_decide_eq_false cx13_
        refine sm_T_go 3 (c1 := (23, [some (.inr (.inr (some (13, 0)))), some (.inl a1_), some (.inl a2_), some (.inl a3_)], [.inl a1_, .inr (.inr (some (155, 0))), .inl a2_, .inr (.inr (some (13, 0)))], S0_)) rfl ?_
        refine sm_T_iald (n := 6) rfl rfl (by omega) (by omega) ?_
        have bx22_ : 0 ≤ S0_.2.2.1 155 0 a1_.toNat ∧ S0_.2.2.1 155 0 a1_.toNat ≤ 6 := hI_.2 155 0 _
        refine sm_T_go 1 (c1 := (33, [some (.inr (.inr (some (13, 0)))), some (.inl a1_), some (.inl a2_), some (.inl a3_)], [.inl (S0_.2.2.1 155 0 a1_.toNat), .inl a2_, .inr (.inr (some (13, 0)))], S0_)) rfl ?_
        refine sm_T_br (a := 2) (z := 7) rfl (fun cx23_ => ?_) (fun cx23_ => ?_)
        · have cx23_ : a2_ < (S0_.2.2.1 155 0 a1_.toNat) := of_decide_eq_true cx23_
          have hIx24_ : gi (sm_pI S0_ 13 0 0 0) := gi_pI hI_ (show 0 ≤ 0 ∧ 0 ≤ 4 from ⟨by omega, by omega⟩)
          have hFx25_ : ai_fr (sx_W vw_378) S0_ (sm_pI S0_ 13 0 0 0) := ai_fr_tr hF_ (ai_fr_pI rfl)
          refine sm_T_go 6 (c1 := (54, [some (.inr (.inr (some (13, 0)))), some (.inl a1_), some (.inl a2_), some (.inl a3_)], [.inl a3_], sm_pI S0_ 13 0 0 0)) rfl ?_
          refine sm_T_b0 (a := 0) (z := 17) rfl (fun cx26_ => ?_) (fun cx26_ => ?_)
          · have cx26_ : a3_ = 0 := of_decide_eq_true cx26_
            refine sm_T_go 4 (c1 := (78, [some (.inr (.inr (some (13, 0)))), some (.inl a1_), some (.inl a2_), some (.inl a3_)], [.inl a1_, .inl 16, .inr (.inr (some (167, 0)))], sm_pI S0_ 13 0 0 0)) rfl ?_
            refine sm_T_bin (w := 16 * a1_) rfl (bi_mul (by omega) (by omega) (by omega)) ?_ -- pc_ 78
            refine sm_T_go 1 (c1 := (80, [some (.inr (.inr (some (13, 0)))), some (.inl a1_), some (.inl a2_), some (.inl a3_)], [.inl a2_, .inl (16 * a1_), .inr (.inr (some (167, 0)))], sm_pI S0_ 13 0 0 0)) rfl ?_
            refine sm_T_bin (w := 16 * a1_ + a2_) rfl (bi_add (by omega) (by omega) (by omega)) ?_ -- pc_ 80
            refine sm_T_iald (n := 96) rfl rfl (by omega) (by omega) ?_
            have bx27_ : 0 ≤ S0_.2.2.1 167 0 (16 * a1_ + a2_).toNat ∧ S0_.2.2.1 167 0 (16 * a1_ + a2_).toNat ≤ 2047 := hI_.2 167 0 _
            refine sm_T_go 0 (c1 := (82, [some (.inr (.inr (some (13, 0)))), some (.inl a1_), some (.inl a2_), some (.inl a3_)], [.inl (S0_.2.2.1 167 0 (16 * a1_ + a2_).toNat)], sm_pI S0_ 13 0 0 0)) rfl ?_
            refine sm_T_ri rfl ⟨_, _, rfl, _, rfl, hIx24_, hFx25_, ?_⟩
            refine ⟨⟨by omega, by omega⟩, jR_fr hJ_ hIx24_ hFx25_⟩
          · have cx26_ : ¬ (a3_ = 0) := of_decide_eq_false cx26_
            refine sm_T_go 4 (c1 := (64, [some (.inr (.inr (some (13, 0)))), some (.inl a1_), some (.inl a2_), some (.inl a3_)], [.inl a1_, .inl 6, .inr (.inr (some (168, 0)))], sm_pI S0_ 13 0 0 0)) rfl ?_
            refine sm_T_bin (w := 6 * a1_) rfl (bi_mul (by omega) (by omega) (by omega)) ?_ -- pc_ 64
            refine sm_T_go 1 (c1 := (66, [some (.inr (.inr (some (13, 0)))), some (.inl a1_), some (.inl a2_), some (.inl a3_)], [.inl a2_, .inl (6 * a1_), .inr (.inr (some (168, 0)))], sm_pI S0_ 13 0 0 0)) rfl ?_
            refine sm_T_bin (w := 6 * a1_ + a2_) rfl (bi_add (by omega) (by omega) (by omega)) ?_ -- pc_ 66
            refine sm_T_iald (n := 36) rfl rfl (by omega) (by omega) ?_
            have bx28_ : 0 ≤ S0_.2.2.1 168 0 (6 * a1_ + a2_).toNat ∧ S0_.2.2.1 168 0 (6 * a1_ + a2_).toNat ≤ 2047 := hI_.2 168 0 _
            refine sm_T_go 1 (c1 := (82, [some (.inr (.inr (some (13, 0)))), some (.inl a1_), some (.inl a2_), some (.inl a3_)], [.inl (S0_.2.2.1 168 0 (6 * a1_ + a2_).toNat)], sm_pI S0_ 13 0 0 0)) rfl ?_
            refine sm_T_ri rfl ⟨_, _, rfl, _, rfl, hIx24_, hFx25_, ?_⟩
            refine ⟨⟨by omega, by omega⟩, jR_fr hJ_ hIx24_ hFx25_⟩
        · have cx23_ : ¬ (a2_ < (S0_.2.2.1 155 0 a1_.toNat)) := of_decide_eq_false cx23_
          have hIx29_ : gi (sm_pI S0_ 13 0 0 1) := gi_pI hI_ (show 0 ≤ 1 ∧ 1 ≤ 4 from ⟨by omega, by omega⟩)
          have hFx30_ : ai_fr (sx_W vw_378) S0_ (sm_pI S0_ 13 0 0 1) := ai_fr_tr hF_ (ai_fr_pI rfl)
          refine sm_T_go 7 (c1 := (52, [some (.inr (.inr (some (13, 0)))), some (.inl a1_), some (.inl a2_), some (.inl a3_)], [.inl 0], sm_pI S0_ 13 0 0 1)) rfl ?_
          refine sm_T_ri rfl ⟨_, _, rfl, _, rfl, hIx29_, hFx30_, ?_⟩
          refine ⟨⟨by omega, by omega⟩, jR_fr hJ_ hIx29_ hFx30_⟩
/-! M_.inverterOf -/
def vw_379 : sx_Wl := ([], [], [])
def vq_379 (a1_ : Int) (S0_ : sm_S) (u_ : Option sm_V) (S1_ : sm_S) : Prop := S0_ = S1_ ∧ ∃ v_ : Int, u_ = some (.inl v_) ∧ ((-1 ≤ v_ ∧ v_ ≤ 11) ∧ (v_ = -1 ∨ (0 ≤ v_ ∧ v_ < S0_.2.2.1 184 0 a1_.toNat ∧ S0_.2.2.1 185 0 (12 * a1_ + v_).toNat = 1)))
set_option maxHeartbeats 400000 in
set_option maxRecDepth 20000 in
theorem vl_379 {sc_ : Nat × (Nat → Int)} (a1_ : Int) (S0_ : sm_S) (ha_ : 0 ≤ a1_ ∧ a1_ ≤ 2) : ∀ nn_ : Nat, (∀ (b_ : Int) (c_ : Int) (S_ : sm_S), gi S_ → ai_fr (sx_W vw_379) S0_ S_ → ((0 ≤ c_ ∧ c_ ≤ 12) ∧ (b_ = -1 ∨ (0 ≤ b_ ∧ b_ < S0_.2.2.1 184 0 a1_.toNat ∧ S0_.2.2.1 185 0 (12 * a1_ + b_).toNat = 1)) ∧ (-1 ≤ b_ ∧ b_ ≤ 11) ∧ (S_ = S0_) ∧ True) → ((20 - c_).toNat) < nn_ → sm_T (mt_P sc_) 0 379 (4, [some (.inr (.inr (some (13, 0)))), some (.inl a1_), some (.inl b_), some (.inl c_), none], [], S_) (fun ro9_ => ∃ u_ S1_, ro9_ = (.inl u_, S1_, 0) ∧ vq_379 a1_ S0_ u_ S1_)) := by
  intro nn_
  induction nn_ with
  | zero => exact fun _ _ _ _ _ _ h_ => absurd h_ (Nat.not_lt_zero _)
  | succ nn_ ih_ =>
    rintro b_ c_ S_ hI_ hF_ ⟨h0_, h1_, h2_, hS_, -⟩ hm_
    subst hS_
    refine sm_T_go 4 (c1 := (10, [some (.inr (.inr (some (13, 0)))), some (.inl a1_), some (.inl b_), some (.inl c_), none], [.inl a1_, .inr (.inr (some (184, 0))), .inl c_], S_)) rfl ?_
    refine sm_T_iald (n := 3) rfl rfl (by omega) (by omega) ?_
    have bx1_ : 0 ≤ S_.2.2.1 184 0 a1_.toNat ∧ S_.2.2.1 184 0 a1_.toNat ≤ 12 := hI_.2 184 0 _
    refine sm_T_br (a := 3) (z := 87) rfl (fun cx2_ => ?_) (fun cx2_ => ?_)
    · have cx2_ : (S_.2.2.1 184 0 a1_.toNat) ≤ c_ := of_decide_eq_true cx2_
      refine sm_T_go 1 (c1 := (99, [some (.inr (.inr (some (13, 0)))), some (.inl a1_), some (.inl b_), some (.inl c_), none], [.inl b_], S_)) rfl ?_
      refine sm_T_ri rfl ⟨_, _, rfl, (by first | rfl | exact hS_.symm), _, rfl, ?_⟩
      omega
    · have cx2_ : ¬ ((S_.2.2.1 184 0 a1_.toNat) ≤ c_) := of_decide_eq_false cx2_
      refine sm_T_go 4 (c1 := (21, [some (.inr (.inr (some (13, 0)))), some (.inl a1_), some (.inl b_), some (.inl c_), none], [.inl a1_, .inl 12, .inr (.inr (some (185, 0)))], S_)) rfl ?_
      refine sm_T_bin (w := 12 * a1_) rfl (bi_mul (by omega) (by omega) (by omega)) ?_ -- pc_ 21
      refine sm_T_go 1 (c1 := (23, [some (.inr (.inr (some (13, 0)))), some (.inl a1_), some (.inl b_), some (.inl c_), none], [.inl c_, .inl (12 * a1_), .inr (.inr (some (185, 0)))], S_)) rfl ?_
      refine sm_T_bin (w := 12 * a1_ + c_) rfl (bi_add (by omega) (by omega) (by omega)) ?_ -- pc_ 23
      refine sm_T_iald (n := 36) rfl rfl (by omega) (by omega) ?_
      have bx3_ : 0 ≤ S_.2.2.1 185 0 (12 * a1_ + c_).toNat ∧ S_.2.2.1 185 0 (12 * a1_ + c_).toNat ≤ 3 := hI_.2 185 0 _
      refine sm_T_go 1 (c1 := (26, [some (.inr (.inr (some (13, 0)))), some (.inl a1_), some (.inl b_), some (.inl c_), none], [.inl 1, .inl (S_.2.2.1 185 0 (12 * a1_ + c_).toNat)], S_)) rfl ?_
      refine sm_T_br (a := 1) (z := 22) rfl (fun cx4_ => ?_) (fun cx4_ => ?_)
      · have cx4_ : (S_.2.2.1 185 0 (12 * a1_ + c_).toNat) ≠ 1 := of_decide_eq_true cx4_
        refine sm_T_go 6 (c1 := (92, [some (.inr (.inr (some (13, 0)))), some (.inl a1_), some (.inl b_), some (.inl c_), some (.inl 0)], [], S_)) rfl ?_
        refine sm_T_inc (a := 3) (z := 1) (v := c_) (w := c_ + 1) rfl rfl (by omega) (by omega) (by omega) ?_ -- pc_ 92
        refine sm_T_go 1 (c1 := (4, [some (.inr (.inr (some (13, 0)))), some (.inl a1_), some (.inl b_), some (.inl (c_ + 1)), some (.inl 0)], [], S_)) rfl ?_
        refine sm_T_wk [some (.inr (.inr (some (13, 0)))), some (.inl a1_), some (.inl b_), some (.inl (c_ + 1)), none] (by exact ⟨rfl, rfl, rfl, rfl, trivial⟩) ?_
        refine ih_ b_ (c_ + 1) S_ hI_ hF_ ⟨?_, ?_, ?_, ?_, trivial⟩ ?_
        · omega
        · omega
        · omega
        · rfl
        · omega
      · have cx4_ : ¬ ((S_.2.2.1 185 0 (12 * a1_ + c_).toNat) ≠ 1) := of_decide_eq_false cx4_
        refine sm_T_go 4 (c1 := (36, [some (.inr (.inr (some (13, 0)))), some (.inl a1_), some (.inl b_), some (.inl c_), none], [.inl a1_, .inl 12, .inr (.inr (some (186, 0)))], S_)) rfl ?_
        refine sm_T_bin (w := 12 * a1_) rfl (bi_mul (by omega) (by omega) (by omega)) ?_ -- pc_ 36
        refine sm_T_go 1 (c1 := (38, [some (.inr (.inr (some (13, 0)))), some (.inl a1_), some (.inl b_), some (.inl c_), none], [.inl c_, .inl (12 * a1_), .inr (.inr (some (186, 0)))], S_)) rfl ?_
        refine sm_T_bin (w := 12 * a1_ + c_) rfl (bi_add (by omega) (by omega) (by omega)) ?_ -- pc_ 38
        refine sm_T_iald (n := 36) rfl rfl (by omega) (by omega) ?_
        have bx5_ : 0 ≤ S_.2.2.1 186 0 (12 * a1_ + c_).toNat ∧ S_.2.2.1 186 0 (12 * a1_ + c_).toNat ≤ 255 := hI_.2 186 0 _
        refine sm_T_go 1 (c1 := (41, [some (.inr (.inr (some (13, 0)))), some (.inl a1_), some (.inl b_), some (.inl c_), none], [.inl 1, .inl (S_.2.2.1 186 0 (12 * a1_ + c_).toNat)], S_)) rfl ?_
        refine sm_T_br (a := 1) (z := 7) rfl (fun cx6_ => ?_) (fun cx6_ => ?_)
        · have cx6_ : (S_.2.2.1 186 0 (12 * a1_ + c_).toNat) ≠ 1 := of_decide_eq_true cx6_
          refine sm_T_go 6 (c1 := (92, [some (.inr (.inr (some (13, 0)))), some (.inl a1_), some (.inl b_), some (.inl c_), some (.inl 0)], [], S_)) rfl ?_
          refine sm_T_inc (a := 3) (z := 1) (v := c_) (w := c_ + 1) rfl rfl (by omega) (by omega) (by omega) ?_ -- pc_ 92
          refine sm_T_go 1 (c1 := (4, [some (.inr (.inr (some (13, 0)))), some (.inl a1_), some (.inl b_), some (.inl (c_ + 1)), some (.inl 0)], [], S_)) rfl ?_
          refine sm_T_wk [some (.inr (.inr (some (13, 0)))), some (.inl a1_), some (.inl b_), some (.inl (c_ + 1)), none] (by exact ⟨rfl, rfl, rfl, rfl, trivial⟩) ?_
          refine ih_ b_ (c_ + 1) S_ hI_ hF_ ⟨?_, ?_, ?_, ?_, trivial⟩ ?_
          · omega
          · omega
          · omega
          · rfl
          · omega
        · have cx6_ : ¬ ((S_.2.2.1 186 0 (12 * a1_ + c_).toNat) ≠ 1) := of_decide_eq_false cx6_
          refine sm_T_go 7 (c1 := (58, [some (.inr (.inr (some (13, 0)))), some (.inl a1_), some (.inl b_), some (.inl c_), some (.inl 1)], [.inl (-1), .inl b_], S_)) rfl ?_
          refine sm_T_br (a := 0) (z := 28) rfl (fun cx7_ => ?_) (fun cx7_ => ?_)
          · have cx7_ : b_ = (-1) := of_decide_eq_true cx7_
            refine sm_T_go 3 (c1 := (92, [some (.inr (.inr (some (13, 0)))), some (.inl a1_), some (.inl c_), some (.inl c_), some (.inl 1)], [], S_)) rfl ?_
            refine sm_T_inc (a := 3) (z := 1) (v := c_) (w := c_ + 1) rfl rfl (by omega) (by omega) (by omega) ?_ -- pc_ 92
            refine sm_T_go 1 (c1 := (4, [some (.inr (.inr (some (13, 0)))), some (.inl a1_), some (.inl c_), some (.inl (c_ + 1)), some (.inl 1)], [], S_)) rfl ?_
            refine sm_T_wk [some (.inr (.inr (some (13, 0)))), some (.inl a1_), some (.inl c_), some (.inl (c_ + 1)), none] (by exact ⟨rfl, rfl, rfl, rfl, trivial⟩) ?_
            refine ih_ c_ (c_ + 1) S_ hI_ hF_ ⟨?_, ?_, ?_, ?_, trivial⟩ ?_
            · omega
            · omega
            · omega
            · rfl
            · omega
          · have cx7_ : ¬ (b_ = (-1)) := of_decide_eq_false cx7_
            refine sm_T_go 4 (c1 := (68, [some (.inr (.inr (some (13, 0)))), some (.inl a1_), some (.inl b_), some (.inl c_), some (.inl 1)], [.inl a1_, .inl 12, .inr (.inr (some (187, 0)))], S_)) rfl ?_
            refine sm_T_bin (w := 12 * a1_) rfl (bi_mul (by omega) (by omega) (by omega)) ?_ -- pc_ 68
            refine sm_T_go 1 (c1 := (70, [some (.inr (.inr (some (13, 0)))), some (.inl a1_), some (.inl b_), some (.inl c_), some (.inl 1)], [.inl c_, .inl (12 * a1_), .inr (.inr (some (187, 0)))], S_)) rfl ?_
            refine sm_T_bin (w := 12 * a1_ + c_) rfl (bi_add (by omega) (by omega) (by omega)) ?_ -- pc_ 70
            refine sm_T_iald (n := 36) rfl rfl (by omega) (by omega) ?_
            have bx8_ : 0 ≤ S_.2.2.1 187 0 (12 * a1_ + c_).toNat ∧ S_.2.2.1 187 0 (12 * a1_ + c_).toNat ≤ 1000 := hI_.2 187 0 _
            refine sm_T_go 4 (c1 := (79, [some (.inr (.inr (some (13, 0)))), some (.inl a1_), some (.inl b_), some (.inl c_), some (.inl 1)], [.inl a1_, .inl 12, .inr (.inr (some (187, 0))), .inl (S_.2.2.1 187 0 (12 * a1_ + c_).toNat)], S_)) rfl ?_
            refine sm_T_bin (w := 12 * a1_) rfl (bi_mul (by omega) (by omega) (by omega)) ?_ -- pc_ 79
            refine sm_T_go 1 (c1 := (81, [some (.inr (.inr (some (13, 0)))), some (.inl a1_), some (.inl b_), some (.inl c_), some (.inl 1)], [.inl b_, .inl (12 * a1_), .inr (.inr (some (187, 0))), .inl (S_.2.2.1 187 0 (12 * a1_ + c_).toNat)], S_)) rfl ?_
            refine sm_T_bin (w := 12 * a1_ + b_) rfl (bi_add (by omega) (by omega) (by omega)) ?_ -- pc_ 81
            refine sm_T_iald (n := 36) rfl rfl (by omega) (by omega) ?_
            have bx9_ : 0 ≤ S_.2.2.1 187 0 (12 * a1_ + b_).toNat ∧ S_.2.2.1 187 0 (12 * a1_ + b_).toNat ≤ 1000 := hI_.2 187 0 _
            refine sm_T_br (a := 3) (z := 7) rfl (fun cx10_ => ?_) (fun cx10_ => ?_)
            · have cx10_ : (S_.2.2.1 187 0 (12 * a1_ + b_).toNat) ≤ (S_.2.2.1 187 0 (12 * a1_ + c_).toNat) := of_decide_eq_true cx10_
              refine sm_T_go 2 (c1 := (92, [some (.inr (.inr (some (13, 0)))), some (.inl a1_), some (.inl b_), some (.inl c_), some (.inl 1)], [], S_)) rfl ?_
              refine sm_T_inc (a := 3) (z := 1) (v := c_) (w := c_ + 1) rfl rfl (by omega) (by omega) (by omega) ?_ -- pc_ 92
              refine sm_T_go 1 (c1 := (4, [some (.inr (.inr (some (13, 0)))), some (.inl a1_), some (.inl b_), some (.inl (c_ + 1)), some (.inl 1)], [], S_)) rfl ?_
              refine sm_T_wk [some (.inr (.inr (some (13, 0)))), some (.inl a1_), some (.inl b_), some (.inl (c_ + 1)), none] (by exact ⟨rfl, rfl, rfl, rfl, trivial⟩) ?_
              refine ih_ b_ (c_ + 1) S_ hI_ hF_ ⟨?_, ?_, ?_, ?_, trivial⟩ ?_
              · omega
              · omega
              · omega
              · rfl
              · omega
            · have cx10_ : ¬ ((S_.2.2.1 187 0 (12 * a1_ + b_).toNat) ≤ (S_.2.2.1 187 0 (12 * a1_ + c_).toNat)) := of_decide_eq_false cx10_
              refine sm_T_go 3 (c1 := (92, [some (.inr (.inr (some (13, 0)))), some (.inl a1_), some (.inl c_), some (.inl c_), some (.inl 1)], [], S_)) rfl ?_
              refine sm_T_inc (a := 3) (z := 1) (v := c_) (w := c_ + 1) rfl rfl (by omega) (by omega) (by omega) ?_ -- pc_ 92
              refine sm_T_go 1 (c1 := (4, [some (.inr (.inr (some (13, 0)))), some (.inl a1_), some (.inl c_), some (.inl (c_ + 1)), some (.inl 1)], [], S_)) rfl ?_
              refine sm_T_wk [some (.inr (.inr (some (13, 0)))), some (.inl a1_), some (.inl c_), some (.inl (c_ + 1)), none] (by exact ⟨rfl, rfl, rfl, rfl, trivial⟩) ?_
              refine ih_ c_ (c_ + 1) S_ hI_ hF_ ⟨?_, ?_, ?_, ?_, trivial⟩ ?_
              · omega
              · omega
              · omega
              · rfl
              · omega
set_option maxHeartbeats 400000 in
set_option maxRecDepth 20000 in
theorem vc_379 {sc_ : Nat × (Nat → Int)} (a1_ : Int) (S0_ : sm_S) (hI_ : gi S0_) (ha_ : 0 ≤ a1_ ∧ a1_ ≤ 2) : sm_T (mt_P sc_) 0 379 (0, [some (.inr (.inr (some (13, 0)))), some (.inl a1_), none, none, none], [], S0_) (fun ro9_ => ∃ u_ S1_, ro9_ = (.inl u_, S1_, 0) ∧ vq_379 a1_ S0_ u_ S1_) := by
  have hF_ : ai_fr (sx_W vw_379) S0_ S0_ := ai_fr_rf
  refine sm_T_go 4 (c1 := (4, [some (.inr (.inr (some (13, 0)))), some (.inl a1_), some (.inl (-1)), some (.inl 0), none], [], S0_)) rfl ?_
  refine (vl_379 a1_ S0_ ha_ _) (-1) 0 S0_ hI_ hF_ ⟨?_, ?_, ?_, ?_, trivial⟩ (Nat.lt_succ_self _)
  · omega
  · omega
  · omega
  · rfl
/-! M_.cell -/
def vw_380 : sx_Wl := ([(13, 0)], [], [])
def vq_380 (a1_ : Int) (a2_ : Int) (a3_ : Int) (S0_ : sm_S) (u_ : Option sm_V) (S1_ : sm_S) : Prop := ∃ v_ : Int, u_ = some (.inl v_) ∧ gi S1_ ∧ ai_fr (sx_W vw_380) S0_ S1_ ∧ (((-2147483648) ≤ v_ ∧ v_ ≤ 2147483647) ∧ (jR S1_))
set_option maxHeartbeats 400000 in
set_option maxRecDepth 20000 in
theorem vc_380 {sc_ : Nat × (Nat → Int)} (a1_ : Int) (a2_ : Int) (a3_ : Int) (S0_ : sm_S) (hI_ : gi S0_) (ha1_ : (-2147483648) ≤ a1_ ∧ a1_ ≤ 2147483647) (ha2_ : (-2147483648) ≤ a2_ ∧ a2_ ≤ 2147483647) (ha3_ : (-2147483648) ≤ a3_ ∧ a3_ ≤ 2147483647) (hJ_ : jR S0_) : sm_T (mt_P sc_) 1 380 (0, [some (.inr (.inr (some (13, 0)))), some (.inl a1_), some (.inl a2_), some (.inl a3_), none], [], S0_) (fun ro9_ => ∃ u_ S1_, ro9_ = (.inl u_, S1_, 0) ∧ vq_380 a1_ a2_ a3_ S0_ u_ S1_) := by
  have hF_ : ai_fr (sx_W vw_380) S0_ S0_ := ai_fr_rf
  refine sm_T_go 3 (c1 := (3, [some (.inr (.inr (some (13, 0)))), some (.inl a1_), some (.inl a2_), some (.inl a3_), none], [.inl a1_, .inr (.inr (some (13, 0))), .inr (.inr (some (13, 0)))], S0_)) rfl ?_
  refine sm_T_cal (d1 := 0) (Q1 := vq_370 a1_ S0_) rfl rfl (by decide) (vc_370 a1_ S0_ hI_ (by omega)) (fun u_ Sx1_ px4_ => ?_)
  obtain ⟨rfl, vx6_, rfl, px4_⟩ := px4_
  refine sm_T_b0 (a := 0) (z := 18) rfl (fun cx7_ => ?_) (fun cx7_ => ?_)
  · have cx7_ : vx6_ = 0 := of_decide_eq_true cx7_
    have hIx8_ : gi (sm_pI S0_ 13 0 0 1) := gi_pI hI_ (show 0 ≤ 1 ∧ 1 ≤ 4 from ⟨by omega, by omega⟩)
    have hFx9_ : ai_fr (sx_W vw_380) S0_ (sm_pI S0_ 13 0 0 1) := ai_fr_tr hF_ (ai_fr_pI rfl)
    refine sm_T_go 7 (c1 := (53, [some (.inr (.inr (some (13, 0)))), some (.inl a1_), some (.inl a2_), some (.inl a3_), none], [.inl 0], sm_pI S0_ 13 0 0 1)) rfl ?_
    refine sm_T_ri rfl ⟨_, _, rfl, _, rfl, hIx8_, hFx9_, ?_⟩
    refine ⟨⟨by omega, by omega⟩, jR_fr hJ_ hIx8_ hFx9_⟩
  · have cx7_ : ¬ (vx6_ = 0) := of_decide_eq_false cx7_
    refine sm_T_go 2 (c1 := (11, [some (.inr (.inr (some (13, 0)))), some (.inl a1_), some (.inl a2_), some (.inl a3_), none], [.inl (-1), .inl a2_, .inr (.inr (some (13, 0)))], S0_)) rfl ?_
    refine sm_T_br (a := 2) (z := 13) rfl (fun cx10_ => ?_) (fun cx10_ => ?_)
    · have cx10_ : a2_ < (-1) := of_decide_eq_true cx10_
      have hIx11_ : gi (sm_pI S0_ 13 0 0 1) := gi_pI hI_ (show 0 ≤ 1 ∧ 1 ≤ 4 from ⟨by omega, by omega⟩)
      have hFx12_ : ai_fr (sx_W vw_380) S0_ (sm_pI S0_ 13 0 0 1) := ai_fr_tr hF_ (ai_fr_pI rfl)
      refine sm_T_go 7 (c1 := (53, [some (.inr (.inr (some (13, 0)))), some (.inl a1_), some (.inl a2_), some (.inl a3_), none], [.inl 0], sm_pI S0_ 13 0 0 1)) rfl ?_
      refine sm_T_ri rfl ⟨_, _, rfl, _, rfl, hIx11_, hFx12_, ?_⟩
      refine ⟨⟨by omega, by omega⟩, jR_fr hJ_ hIx11_ hFx12_⟩
    · have cx10_ : ¬ (a2_ < (-1)) := of_decide_eq_false cx10_
      refine sm_T_go 4 (c1 := (20, [some (.inr (.inr (some (13, 0)))), some (.inl a1_), some (.inl a2_), some (.inl a3_), none], [.inl a1_, .inr (.inr (some (184, 0))), .inl a2_, .inr (.inr (some (13, 0)))], S0_)) rfl ?_
      refine sm_T_iald (n := 3) rfl rfl (by omega) (by omega) ?_
      have bx13_ : 0 ≤ S0_.2.2.1 184 0 a1_.toNat ∧ S0_.2.2.1 184 0 a1_.toNat ≤ 12 := hI_.2 184 0 _
      refine sm_T_br (a := 2) (z := 7) rfl (fun cx14_ => ?_) (fun cx14_ => ?_)
      · have cx14_ : a2_ < (S0_.2.2.1 184 0 a1_.toNat) := of_decide_eq_true cx14_
        refine sm_T_go 3 (c1 := (31, [some (.inr (.inr (some (13, 0)))), some (.inl a1_), some (.inl a2_), some (.inl a3_), none], [.inl 3, .inl 0, .inl a3_, .inr (.inr (some (13, 0)))], S0_)) rfl ?_
        refine sm_T_cal (d1 := 0) (Q1 := vq_278 a3_ 0 3 S0_) rfl rfl (by decide) (vc_278 a3_ 0 3 S0_ hI_ ) (fun u_ Sx15_ px18_ => ?_)
        obtain ⟨rfl, vx20_, rfl, px18_⟩ := px18_
        refine sm_T_b0 (a := 1) (z := 7) rfl (fun cx21_ => ?_) (fun cx21_ => ?_)
        · have cx21_ : vx20_ ≠ 0 := of_decide_eq_true cx21_
          have hIx22_ : gi (sm_pI S0_ 13 0 0 0) := gi_pI hI_ (show 0 ≤ 0 ∧ 0 ≤ 4 from ⟨by omega, by omega⟩)
          have hFx23_ : ai_fr (sx_W vw_380) S0_ (sm_pI S0_ 13 0 0 0) := ai_fr_tr hF_ (ai_fr_pI rfl)
          refine sm_T_go 7 (c1 := (56, [some (.inr (.inr (some (13, 0)))), some (.inl a1_), some (.inl a2_), some (.inl a3_), none], [.inl (-1), .inl a2_], sm_pI S0_ 13 0 0 0)) rfl ?_
          refine sm_T_br (a := 1) (z := 31) rfl (fun cx24_ => ?_) (fun cx24_ => ?_)
          · have cx24_ : a2_ ≠ (-1) := of_decide_eq_true cx24_
            refine sm_T_go 2 (c1 := (90, [some (.inr (.inr (some (13, 0)))), some (.inl a1_), some (.inl a2_), some (.inl a3_), none], [.inl a1_, .inl 12], sm_pI S0_ 13 0 0 0)) rfl ?_
            refine sm_T_bin (w := 12 * a1_) rfl (bi_mul (by omega) (by omega) (by omega)) ?_ -- pc_ 90
            refine sm_T_go 1 (c1 := (92, [some (.inr (.inr (some (13, 0)))), some (.inl a1_), some (.inl a2_), some (.inl a3_), none], [.inl a2_, .inl (12 * a1_)], sm_pI S0_ 13 0 0 0)) rfl ?_
            refine sm_T_bin (w := 12 * a1_ + a2_) rfl (bi_add (by omega) (by omega) (by omega)) ?_ -- pc_ 92
            refine sm_T_go 2 (c1 := (96, [some (.inr (.inr (some (13, 0)))), some (.inl a1_), some (.inl a2_), some (.inl a3_), some (.inl (12 * a1_ + a2_))], [.inl a3_], sm_pI S0_ 13 0 0 0)) rfl ?_
            refine sm_T_b0 (a := 1) (z := 13) rfl (fun cx25_ => ?_) (fun cx25_ => ?_)
            · have cx25_ : a3_ ≠ 0 := of_decide_eq_true cx25_
              refine sm_T_go 2 (c1 := (111, [some (.inr (.inr (some (13, 0)))), some (.inl a1_), some (.inl a2_), some (.inl a3_), some (.inl (12 * a1_ + a2_))], [.inl 1, .inl a3_], sm_pI S0_ 13 0 0 0)) rfl ?_
              refine sm_T_br (a := 1) (z := 13) rfl (fun cx26_ => ?_) (fun cx26_ => ?_)
              · have cx26_ : a3_ ≠ 1 := of_decide_eq_true cx26_
                refine sm_T_go 2 (c1 := (126, [some (.inr (.inr (some (13, 0)))), some (.inl a1_), some (.inl a2_), some (.inl a3_), some (.inl (12 * a1_ + a2_))], [.inl 2, .inl a3_], sm_pI S0_ 13 0 0 0)) rfl ?_
                refine sm_T_br (a := 1) (z := 13) rfl (fun cx27_ => ?_) (fun cx27_ => ?_)
                · have cx27_ : a3_ ≠ 2 := of_decide_eq_true cx27_
                  refine sm_T_go 3 (c1 := (145, [some (.inr (.inr (some (13, 0)))), some (.inl a1_), some (.inl a2_), some (.inl a3_), some (.inl (12 * a1_ + a2_))], [.inl (12 * a1_ + a2_), .inr (.inr (some (188, 0)))], sm_pI S0_ 13 0 0 0)) rfl ?_
                  refine sm_T_iald (n := 36) rfl rfl (by omega) (by omega) ?_
                  have bx28_ : 0 ≤ S0_.2.2.1 188 0 (12 * a1_ + a2_).toNat ∧ S0_.2.2.1 188 0 (12 * a1_ + a2_).toNat ≤ 100 := hI_.2 188 0 _
                  refine sm_T_go 0 (c1 := (146, [some (.inr (.inr (some (13, 0)))), some (.inl a1_), some (.inl a2_), some (.inl a3_), some (.inl (12 * a1_ + a2_))], [.inl (S0_.2.2.1 188 0 (12 * a1_ + a2_).toNat)], sm_pI S0_ 13 0 0 0)) rfl ?_
                  refine sm_T_ri rfl ⟨_, _, rfl, _, rfl, hIx22_, hFx23_, ?_⟩
                  refine ⟨⟨by omega, by omega⟩, jR_fr hJ_ hIx22_ hFx23_⟩
                · have cx27_ : ¬ (a3_ ≠ 2) := of_decide_eq_false cx27_
                  refine sm_T_go 3 (c1 := (135, [some (.inr (.inr (some (13, 0)))), some (.inl a1_), some (.inl a2_), some (.inl a3_), some (.inl (12 * a1_ + a2_))], [.inl (12 * a1_ + a2_), .inr (.inr (some (187, 0)))], sm_pI S0_ 13 0 0 0)) rfl ?_
                  refine sm_T_iald (n := 36) rfl rfl (by omega) (by omega) ?_
                  have bx29_ : 0 ≤ S0_.2.2.1 187 0 (12 * a1_ + a2_).toNat ∧ S0_.2.2.1 187 0 (12 * a1_ + a2_).toNat ≤ 1000 := hI_.2 187 0 _
                  refine sm_T_go 1 (c1 := (146, [some (.inr (.inr (some (13, 0)))), some (.inl a1_), some (.inl a2_), some (.inl a3_), some (.inl (12 * a1_ + a2_))], [.inl (S0_.2.2.1 187 0 (12 * a1_ + a2_).toNat)], sm_pI S0_ 13 0 0 0)) rfl ?_
                  refine sm_T_ri rfl ⟨_, _, rfl, _, rfl, hIx22_, hFx23_, ?_⟩
                  refine ⟨⟨by omega, by omega⟩, jR_fr hJ_ hIx22_ hFx23_⟩
              · have cx26_ : ¬ (a3_ ≠ 1) := of_decide_eq_false cx26_
                refine sm_T_go 3 (c1 := (120, [some (.inr (.inr (some (13, 0)))), some (.inl a1_), some (.inl a2_), some (.inl a3_), some (.inl (12 * a1_ + a2_))], [.inl (12 * a1_ + a2_), .inr (.inr (some (186, 0)))], sm_pI S0_ 13 0 0 0)) rfl ?_
                refine sm_T_iald (n := 36) rfl rfl (by omega) (by omega) ?_
                have bx30_ : 0 ≤ S0_.2.2.1 186 0 (12 * a1_ + a2_).toNat ∧ S0_.2.2.1 186 0 (12 * a1_ + a2_).toNat ≤ 255 := hI_.2 186 0 _
                refine sm_T_go 1 (c1 := (146, [some (.inr (.inr (some (13, 0)))), some (.inl a1_), some (.inl a2_), some (.inl a3_), some (.inl (12 * a1_ + a2_))], [.inl (S0_.2.2.1 186 0 (12 * a1_ + a2_).toNat)], sm_pI S0_ 13 0 0 0)) rfl ?_
                refine sm_T_ri rfl ⟨_, _, rfl, _, rfl, hIx22_, hFx23_, ?_⟩
                refine ⟨⟨by omega, by omega⟩, jR_fr hJ_ hIx22_ hFx23_⟩
            · have cx25_ : ¬ (a3_ ≠ 0) := of_decide_eq_false cx25_
              refine sm_T_go 3 (c1 := (105, [some (.inr (.inr (some (13, 0)))), some (.inl a1_), some (.inl a2_), some (.inl a3_), some (.inl (12 * a1_ + a2_))], [.inl (12 * a1_ + a2_), .inr (.inr (some (185, 0)))], sm_pI S0_ 13 0 0 0)) rfl ?_
              refine sm_T_iald (n := 36) rfl rfl (by omega) (by omega) ?_
              have bx31_ : 0 ≤ S0_.2.2.1 185 0 (12 * a1_ + a2_).toNat ∧ S0_.2.2.1 185 0 (12 * a1_ + a2_).toNat ≤ 3 := hI_.2 185 0 _
              refine sm_T_go 1 (c1 := (146, [some (.inr (.inr (some (13, 0)))), some (.inl a1_), some (.inl a2_), some (.inl a3_), some (.inl (12 * a1_ + a2_))], [.inl (S0_.2.2.1 185 0 (12 * a1_ + a2_).toNat)], sm_pI S0_ 13 0 0 0)) rfl ?_
              refine sm_T_ri rfl ⟨_, _, rfl, _, rfl, hIx22_, hFx23_, ?_⟩
              refine ⟨⟨by omega, by omega⟩, jR_fr hJ_ hIx22_ hFx23_⟩
          · have cx24_ : ¬ (a2_ ≠ (-1)) := of_decide_eq_false cx24_
            refine sm_T_go 1 (c1 := (60, [some (.inr (.inr (some (13, 0)))), some (.inl a1_), some (.inl a2_), some (.inl a3_), none], [.inl a3_], sm_pI S0_ 13 0 0 0)) rfl ?_
            refine sm_T_b0 (a := 1) (z := 12) rfl (fun cx32_ => ?_) (fun cx32_ => ?_)
            · have cx32_ : a3_ ≠ 0 := of_decide_eq_true cx32_
              refine sm_T_go 2 (c1 := (74, [some (.inr (.inr (some (13, 0)))), some (.inl a1_), some (.inl a2_), some (.inl a3_), none], [.inl 1, .inl a3_], sm_pI S0_ 13 0 0 0)) rfl ?_
              refine sm_T_br (a := 1) (z := 11) rfl (fun cx33_ => ?_) (fun cx33_ => ?_)
              · have cx33_ : a3_ ≠ 1 := of_decide_eq_true cx33_
                refine sm_T_go 1 (c1 := (86, [some (.inr (.inr (some (13, 0)))), some (.inl a1_), some (.inl a2_), some (.inl a3_), none], [.inl 0], sm_pI S0_ 13 0 0 0)) rfl ?_
                refine sm_T_ri rfl ⟨_, _, rfl, _, rfl, hIx22_, hFx23_, ?_⟩
                refine ⟨⟨by omega, by omega⟩, jR_fr hJ_ hIx22_ hFx23_⟩
              · have cx33_ : ¬ (a3_ ≠ 1) := of_decide_eq_false cx33_
                refine sm_T_go 2 (c1 := (79, [some (.inr (.inr (some (13, 0)))), some (.inl a1_), some (.inl a2_), some (.inl a3_), none], [.inl a1_, .inr (.inr (some (13, 0)))], sm_pI S0_ 13 0 0 0)) rfl ?_
                refine sm_T_cal (d1 := 0) (Q1 := vq_379 a1_ (sm_pI S0_ 13 0 0 0)) rfl rfl (by decide) (vc_379 a1_ (sm_pI S0_ 13 0 0 0) hIx22_ (by omega)) (fun u_ Sx34_ px37_ => ?_)
                obtain ⟨rfl, vx39_, rfl, px37_⟩ := px37_
                refine sm_T_go 1 (c1 := (86, [some (.inr (.inr (some (13, 0)))), some (.inl a1_), some (.inl a2_), some (.inl a3_), none], [.inl vx39_], sm_pI S0_ 13 0 0 0)) rfl ?_
                refine sm_T_ri rfl ⟨_, _, rfl, _, rfl, hIx22_, hFx23_, ?_⟩
                refine ⟨⟨by omega, by omega⟩, jR_fr hJ_ hIx22_ hFx23_⟩
            · have cx32_ : ¬ (a3_ ≠ 0) := of_decide_eq_false cx32_
              refine sm_T_go 3 (c1 := (68, [some (.inr (.inr (some (13, 0)))), some (.inl a1_), some (.inl a2_), some (.inl a3_), none], [.inl a1_, .inr (.inr (some (184, 0)))], sm_pI S0_ 13 0 0 0)) rfl ?_
              refine sm_T_iald (n := 3) rfl rfl (by omega) (by omega) ?_
              refine sm_T_go 1 (c1 := (86, [some (.inr (.inr (some (13, 0)))), some (.inl a1_), some (.inl a2_), some (.inl a3_), none], [.inl (S0_.2.2.1 184 0 a1_.toNat)], sm_pI S0_ 13 0 0 0)) rfl ?_
              refine sm_T_ri rfl ⟨_, _, rfl, _, rfl, hIx22_, hFx23_, ?_⟩
              refine ⟨⟨by omega, by omega⟩, jR_fr hJ_ hIx22_ hFx23_⟩
        · have cx21_ : ¬ (vx20_ ≠ 0) := of_decide_eq_false cx21_
          have hIx40_ : gi (sm_pI S0_ 13 0 0 2) := gi_pI hI_ (show 0 ≤ 2 ∧ 2 ≤ 4 from ⟨by omega, by omega⟩)
          have hFx41_ : ai_fr (sx_W vw_380) S0_ (sm_pI S0_ 13 0 0 2) := ai_fr_tr hF_ (ai_fr_pI rfl)
          refine sm_T_go 7 (c1 := (53, [some (.inr (.inr (some (13, 0)))), some (.inl a1_), some (.inl a2_), some (.inl a3_), none], [.inl 0], sm_pI S0_ 13 0 0 2)) rfl ?_
          refine sm_T_ri rfl ⟨_, _, rfl, _, rfl, hIx40_, hFx41_, ?_⟩
          refine ⟨⟨by omega, by omega⟩, jR_fr hJ_ hIx40_ hFx41_⟩
      · have cx14_ : ¬ (a2_ < (S0_.2.2.1 184 0 a1_.toNat)) := of_decide_eq_false cx14_
        have hIx42_ : gi (sm_pI S0_ 13 0 0 1) := gi_pI hI_ (show 0 ≤ 1 ∧ 1 ≤ 4 from ⟨by omega, by omega⟩)
        have hFx43_ : ai_fr (sx_W vw_380) S0_ (sm_pI S0_ 13 0 0 1) := ai_fr_tr hF_ (ai_fr_pI rfl)
        refine sm_T_go 7 (c1 := (53, [some (.inr (.inr (some (13, 0)))), some (.inl a1_), some (.inl a2_), some (.inl a3_), none], [.inl 0], sm_pI S0_ 13 0 0 1)) rfl ?_
        refine sm_T_ri rfl ⟨_, _, rfl, _, rfl, hIx42_, hFx43_, ?_⟩
        refine ⟨⟨by omega, by omega⟩, jR_fr hJ_ hIx42_ hFx43_⟩
/-! M_.witness -/
def vw_391 : sx_Wl := ([(13, 0)], [], [])
def vq_391 (a1_ : Int) (S0_ : sm_S) (u_ : Option sm_V) (S1_ : sm_S) : Prop := ∃ v_ : Int, u_ = some (.inl v_) ∧ gi S1_ ∧ ai_fr (sx_W vw_391) S0_ S1_ ∧ (((-2147483648) ≤ v_ ∧ v_ ≤ 2147483647) ∧ (jR S1_))
set_option maxHeartbeats 400000 in
set_option maxRecDepth 20000 in
theorem vc_391 {sc_ : Nat × (Nat → Int)} (a1_ : Int) (S0_ : sm_S) (hI_ : gi S0_) (ha1_ : (-2147483648) ≤ a1_ ∧ a1_ ≤ 2147483647) (hJ_ : jR S0_) : sm_T (mt_P sc_) 0 391 (0, [some (.inr (.inr (some (13, 0)))), some (.inl a1_)], [], S0_) (fun ro9_ => ∃ u_ S1_, ro9_ = (.inl u_, S1_, 0) ∧ vq_391 a1_ S0_ u_ S1_) := by
  have hF_ : ai_fr (sx_W vw_391) S0_ S0_ := ai_fr_rf
  refine sm_T_go 2 (c1 := (2, [some (.inr (.inr (some (13, 0)))), some (.inl a1_)], [.inl a1_, .inr (.inr (some (13, 0)))], S0_)) rfl ?_
  refine sm_T_b0 (a := 2) (z := 11) rfl (fun cx1_ => ?_) (fun cx1_ => ?_)
  · have cx1_ : a1_ < 0 := of_decide_eq_true cx1_
    have hIx2_ : gi (sm_pI S0_ 13 0 0 1) := gi_pI hI_ (show 0 ≤ 1 ∧ 1 ≤ 4 from ⟨by omega, by omega⟩)
    have hFx3_ : ai_fr (sx_W vw_391) S0_ (sm_pI S0_ 13 0 0 1) := ai_fr_tr hF_ (ai_fr_pI rfl)
    refine sm_T_go 8 (c1 := (38, [some (.inr (.inr (some (13, 0)))), some (.inl a1_)], [.inl 0], sm_pI S0_ 13 0 0 1)) rfl ?_
    refine sm_T_ri rfl ⟨_, _, rfl, _, rfl, hIx2_, hFx3_, ?_⟩
    refine ⟨⟨by omega, by omega⟩, jR_fr hJ_ hIx2_ hFx3_⟩
  · have cx1_ : ¬ (a1_ < 0) := of_decide_eq_false cx1_
    have bx4_ : 0 ≤ S0_.1 13 0 95 ∧ S0_.1 13 0 95 ≤ 4097 := hI_.1 13 0 95 rfl
    refine sm_T_go 3 (c1 := (10, [some (.inr (.inr (some (13, 0)))), some (.inl a1_)], [.inl (S0_.1 13 0 95), .inl a1_, .inr (.inr (some (13, 0)))], S0_)) rfl ?_
    refine sm_T_br (a := 2) (z := 7) rfl (fun cx5_ => ?_) (fun cx5_ => ?_)
    · have cx5_ : a1_ < (S0_.1 13 0 95) := of_decide_eq_true cx5_
      have hIx6_ : gi (sm_pI S0_ 13 0 0 0) := gi_pI hI_ (show 0 ≤ 0 ∧ 0 ≤ 4 from ⟨by omega, by omega⟩)
      have hFx7_ : ai_fr (sx_W vw_391) S0_ (sm_pI S0_ 13 0 0 0) := ai_fr_tr hF_ (ai_fr_pI rfl)
      refine sm_T_go 8 (c1 := (37, [some (.inr (.inr (some (13, 0)))), some (.inl a1_)], [.inl a1_, .inr (.inr (some (189, 0)))], sm_pI S0_ 13 0 0 0)) rfl ?_
      refine sm_T_iald (n := 4200) rfl rfl (by omega) (by omega) ?_
      have bx8_ : 0 ≤ S0_.2.2.1 189 0 a1_.toNat ∧ S0_.2.2.1 189 0 a1_.toNat ≤ 4095 := hI_.2 189 0 _
      refine sm_T_go 0 (c1 := (38, [some (.inr (.inr (some (13, 0)))), some (.inl a1_)], [.inl (S0_.2.2.1 189 0 a1_.toNat)], sm_pI S0_ 13 0 0 0)) rfl ?_
      refine sm_T_ri rfl ⟨_, _, rfl, _, rfl, hIx6_, hFx7_, ?_⟩
      refine ⟨⟨by omega, by omega⟩, jR_fr hJ_ hIx6_ hFx7_⟩
    · have cx5_ : ¬ (a1_ < (S0_.1 13 0 95)) := of_decide_eq_false cx5_
      have hIx9_ : gi (sm_pI S0_ 13 0 0 1) := gi_pI hI_ (show 0 ≤ 1 ∧ 1 ≤ 4 from ⟨by omega, by omega⟩)
      have hFx10_ : ai_fr (sx_W vw_391) S0_ (sm_pI S0_ 13 0 0 1) := ai_fr_tr hF_ (ai_fr_pI rfl)
      refine sm_T_go 8 (c1 := (38, [some (.inr (.inr (some (13, 0)))), some (.inl a1_)], [.inl 0], sm_pI S0_ 13 0 0 1)) rfl ?_
      refine sm_T_ri rfl ⟨_, _, rfl, _, rfl, hIx9_, hFx10_, ?_⟩
      refine ⟨⟨by omega, by omega⟩, jR_fr hJ_ hIx9_ hFx10_⟩
/-! M_.state -/
def vw_383 : sx_Wl := ([(13, 0)], [], [])
def vq_383 (a1_ : Int) (S0_ : sm_S) (u_ : Option sm_V) (S1_ : sm_S) : Prop := ∃ v_ : Int, u_ = some (.inl v_) ∧ gi S1_ ∧ ai_fr (sx_W vw_383) S0_ S1_ ∧ (((-2147483648) ≤ v_ ∧ v_ ≤ 2147483647) ∧ (jR S1_))
set_option maxHeartbeats 400000 in
set_option maxRecDepth 20000 in
theorem vc_383 {sc_ : Nat × (Nat → Int)} (a1_ : Int) (S0_ : sm_S) (hI_ : gi S0_) (ha1_ : (-2147483648) ≤ a1_ ∧ a1_ ≤ 2147483647) (hJ_ : jR S0_) : sm_T (mt_P sc_) 1 383 (0, [some (.inr (.inr (some (13, 0)))), some (.inl a1_)], [], S0_) (fun ro9_ => ∃ u_ S1_, ro9_ = (.inl u_, S1_, 0) ∧ vq_383 a1_ S0_ u_ S1_) := by
  have hF_ : ai_fr (sx_W vw_383) S0_ S0_ := ai_fr_rf
  refine sm_T_go 3 (c1 := (3, [some (.inr (.inr (some (13, 0)))), some (.inl a1_)], [.inl a1_, .inr (.inr (some (13, 0))), .inr (.inr (some (13, 0)))], S0_)) rfl ?_
  refine sm_T_cal (d1 := 0) (Q1 := vq_369 a1_ S0_) rfl rfl (by decide) (vc_369 a1_ S0_ hI_ (by omega)) (fun u_ Sx1_ px4_ => ?_)
  obtain ⟨rfl, vx6_, rfl, px4_⟩ := px4_
  refine sm_T_b0 (a := 0) (z := 7) rfl (fun cx7_ => ?_) (fun cx7_ => ?_)
  · have cx7_ : vx6_ = 0 := of_decide_eq_true cx7_
    have hIx8_ : gi (sm_pI S0_ 13 0 0 1) := gi_pI hI_ (show 0 ≤ 1 ∧ 1 ≤ 4 from ⟨by omega, by omega⟩)
    have hFx9_ : ai_fr (sx_W vw_383) S0_ (sm_pI S0_ 13 0 0 1) := ai_fr_tr hF_ (ai_fr_pI rfl)
    refine sm_T_go 7 (c1 := (34, [some (.inr (.inr (some (13, 0)))), some (.inl a1_)], [.inl 0], sm_pI S0_ 13 0 0 1)) rfl ?_
    refine sm_T_ri rfl ⟨_, _, rfl, _, rfl, hIx8_, hFx9_, ?_⟩
    refine ⟨⟨by omega, by omega⟩, jR_fr hJ_ hIx8_ hFx9_⟩
  · have cx7_ : ¬ (vx6_ = 0) := of_decide_eq_false cx7_
    have hIx10_ : gi (sm_pI S0_ 13 0 0 0) := gi_pI hI_ (show 0 ≤ 0 ∧ 0 ≤ 4 from ⟨by omega, by omega⟩)
    have hFx11_ : ai_fr (sx_W vw_383) S0_ (sm_pI S0_ 13 0 0 0) := ai_fr_tr hF_ (ai_fr_pI rfl)
    refine sm_T_go 9 (c1 := (33, [some (.inr (.inr (some (13, 0)))), some (.inl a1_)], [.inl a1_, .inr (.inr (some (158, 0)))], sm_pI S0_ 13 0 0 0)) rfl ?_
    refine sm_T_iald (n := 6) rfl rfl (by omega) (by omega) ?_
    have bx12_ : 0 ≤ S0_.2.2.1 158 0 a1_.toNat ∧ S0_.2.2.1 158 0 a1_.toNat ≤ 63 := hI_.2 158 0 _
    refine sm_T_go 0 (c1 := (34, [some (.inr (.inr (some (13, 0)))), some (.inl a1_)], [.inl (S0_.2.2.1 158 0 a1_.toNat)], sm_pI S0_ 13 0 0 0)) rfl ?_
    refine sm_T_ri rfl ⟨_, _, rfl, _, rfl, hIx10_, hFx11_, ?_⟩
    refine ⟨⟨by omega, by omega⟩, jR_fr hJ_ hIx10_ hFx11_⟩
/-! M_.play -/
/-! M_.restart -/
/-! M_.drop -/
def vw_373 : sx_Wl := ([(13, 0)], [153, 183, 222], [])
end
/-! 99.zr3 -/
section
/-! the reference: machines compared; written by wip/p55/gen/vg -/

/-! the_ reference: machines compared -/
theorem or64c {a_ b_ : Int} (ha_ : 0 ≤ a_ ∧ a_ < 64) (hb_ : 0 ≤ b_ ∧ b_ < 64) : i_or b_ (64 * a_) = 64 * a_ + b_ := by
  rw [i_or_c]
  exact or64 ha_ hb_
/-! M_.layA -/
def vw_387 : sx_Wl := ([], [190, 191], [])
def vq_387 (d_ : Int) (S0_ : sm_S) (u_ : Option sm_V) (S1_ : sm_S) : Prop := u_ = none ∧ gi S1_ ∧ ai_fr (sx_W vw_387) S0_ S1_ ∧ (∀ p9_ : Nat, p9_ < 2 ^ ((S0_.2.2.1 154 0 d_.toNat).toNat + (S0_.2.2.1 155 0 d_.toNat).toNat) → 0 ≤ S1_.2.2.1 191 0 p9_ ∧ S1_.2.2.1 191 0 p9_ < 2 ^ (S0_.2.2.1 155 0 d_.toNat).toNat)
set_option maxHeartbeats 400000 in
set_option maxRecDepth 20000 in
theorem vl_387 {sc_ : Nat × (Nat → Int)} (d_ : Int) (S0_ : sm_S) (hd_ : 0 ≤ d_ ∧ d_ ≤ 5) (hk_ : dRk d_.toNat S0_) : ∀ nn_ : Nat, (∀ (p_ : Int) (S_ : sm_S), gi S_ → ai_fr (sx_W vw_387) S0_ S_ → ((0 ≤ p_ ∧ p_ ≤ 2 ^ ((S0_.2.2.1 154 0 d_.toNat).toNat + (S0_.2.2.1 155 0 d_.toNat).toNat)) ∧ (∀ p9_ : Nat, (p9_ : Int) < p_ → 0 ≤ S_.2.2.1 191 0 p9_ ∧ S_.2.2.1 191 0 p9_ < 2 ^ (S0_.2.2.1 155 0 d_.toNat).toNat) ∧ True) → ((5000 - p_).toNat) < nn_ → sm_T (mt_P sc_) 0 387 (2, [some (.inr (.inr (some (13, 0)))), some (.inl d_), some (.inl p_)], [], S_) (fun ro9_ => ∃ u_ S1_, ro9_ = (.inl u_, S1_, 0) ∧ vq_387 d_ S0_ u_ S1_)) := by
  intro nn_
  induction nn_ with
  | zero => exact fun _ _ _ _ _ h_ => absurd h_ (Nat.not_lt_zero _)
  | succ nn_ ih_ =>
    rintro p_ S_ hI_ hF_ ⟨h0_, h1_, -⟩ hm_
    obtain ⟨J1_, J2_, J3_, J4_⟩ := dRk_b hk_
    have w1_ := pw_le (n := (S0_.2.2.1 154 0 d_.toNat).toNat + (S0_.2.2.1 155 0 d_.toNat).toNat) (m := 12) (by omega)
    have w2_ := pw_pos ((S0_.2.2.1 154 0 d_.toNat).toNat + (S0_.2.2.1 155 0 d_.toNat).toNat)
    have w3_ : ((2 ^ ((S0_.2.2.1 154 0 d_.toNat).toNat + (S0_.2.2.1 155 0 d_.toNat).toNat) : Nat) : Int) = (2 : Int) ^ ((S0_.2.2.1 154 0 d_.toNat).toNat + (S0_.2.2.1 155 0 d_.toNat).toNat) := by push_cast; rfl
    have f154_ : S_.2.2.1 154 0 = S0_.2.2.1 154 0 := fr_arr hF_ rfl
    have f155_ : S_.2.2.1 155 0 = S0_.2.2.1 155 0 := fr_arr hF_ rfl
    have f170_ : S_.2.2.1 170 0 = S0_.2.2.1 170 0 := fr_arr hF_ rfl
    have s9_ : i_shl 1 (S_.2.2.1 154 0 d_.toNat + S_.2.2.1 155 0 d_.toNat) = 2 ^ ((S0_.2.2.1 154 0 d_.toNat).toNat + (S0_.2.2.1 155 0 d_.toNat).toNat) := by (rw [f154_, f155_, i_shl1 (by omega) (by omega), show (S0_.2.2.1 154 0 d_.toNat + S0_.2.2.1 155 0 d_.toNat).toNat = (S0_.2.2.1 154 0 d_.toNat).toNat + (S0_.2.2.1 155 0 d_.toNat).toNat by omega])
    refine sm_T_go 5 (c1 := (9, [some (.inr (.inr (some (13, 0)))), some (.inl d_), some (.inl p_)], [.inl d_, .inr (.inr (some (154, 0))), .inl 1, .inl p_], S_)) rfl ?_
    refine sm_T_iald (n := 6) rfl rfl (by omega) (by omega) ?_
    have bx1_ : 0 ≤ S_.2.2.1 154 0 d_.toNat ∧ S_.2.2.1 154 0 d_.toNat ≤ 12 := hI_.2 154 0 _
    refine sm_T_go 3 (c1 := (15, [some (.inr (.inr (some (13, 0)))), some (.inl d_), some (.inl p_)], [.inl d_, .inr (.inr (some (155, 0))), .inl (S_.2.2.1 154 0 d_.toNat), .inl 1, .inl p_], S_)) rfl ?_
    refine sm_T_iald (n := 6) rfl rfl (by omega) (by omega) ?_
    have bx2_ : 0 ≤ S_.2.2.1 155 0 d_.toNat ∧ S_.2.2.1 155 0 d_.toNat ≤ 6 := hI_.2 155 0 _
    refine sm_T_bin (w := (S_.2.2.1 154 0 d_.toNat) + (S_.2.2.1 155 0 d_.toNat)) rfl (bi_add (by omega) (by omega) (by omega)) ?_ -- pc_ 16
    refine sm_T_bin (w := (i_shl 1 ((S_.2.2.1 154 0 d_.toNat) + (S_.2.2.1 155 0 d_.toNat)))) rfl rfl ?_ -- pc_ 17
    refine sm_T_br (a := 3) (z := 45) rfl (fun cx3_ => ?_) (fun cx3_ => ?_)
    · have cx3_ : (i_shl 1 ((S_.2.2.1 154 0 d_.toNat) + (S_.2.2.1 155 0 d_.toNat))) ≤ p_ := of_decide_eq_true cx3_
      refine sm_T_rv rfl ⟨_, _, rfl, rfl, hI_, hF_, ?_⟩
      intro p9_ hp9_
      exact h1_ p9_ (by omega)
    · have cx3_ : ¬ ((i_shl 1 ((S_.2.2.1 154 0 d_.toNat) + (S_.2.2.1 155 0 d_.toNat))) ≤ p_) := of_decide_eq_false cx3_
      have t9_ := J4_ p_.toNat (by omega)
      rw [← f170_, show 4096 * d_.toNat + p_.toNat = (4096 * d_ + p_).toNat by omega] at t9_
      refine sm_T_go 7 (c1 := (34, [some (.inr (.inr (some (13, 0)))), some (.inl d_), some (.inl p_)], [.inl d_, .inl 4096, .inr (.inr (some (169, 0))), .inl p_, .inr (.inr (some (190, 0)))], S_)) rfl ?_
      refine sm_T_bin (w := 4096 * d_) rfl (bi_mul (by omega) (by omega) (by omega)) ?_ -- pc_ 34
      refine sm_T_go 1 (c1 := (36, [some (.inr (.inr (some (13, 0)))), some (.inl d_), some (.inl p_)], [.inl p_, .inl (4096 * d_), .inr (.inr (some (169, 0))), .inl p_, .inr (.inr (some (190, 0)))], S_)) rfl ?_
      refine sm_T_bin (w := 4096 * d_ + p_) rfl (bi_add (by omega) (by omega) (by omega)) ?_ -- pc_ 36
      refine sm_T_iald (n := 24576) rfl rfl (by omega) (by omega) ?_
      have bx4_ : 0 ≤ S_.2.2.1 169 0 (4096 * d_ + p_).toNat ∧ S_.2.2.1 169 0 (4096 * d_ + p_).toNat ≤ 65535 := hI_.2 169 0 _
      refine sm_T_iast (n := 4096) rfl rfl (by omega) (by omega) ?_
      have hIx5_ : gi (sm_aI S_ 190 0 p_.toNat (S_.2.2.1 169 0 (4096 * d_ + p_).toNat)) := gi_aI hI_ (show 0 ≤ (S_.2.2.1 169 0 (4096 * d_ + p_).toNat) ∧ (S_.2.2.1 169 0 (4096 * d_ + p_).toNat) ≤ 65535 from ⟨by omega, by omega⟩)
      have hFx6_ : ai_fr (sx_W vw_387) S0_ (sm_aI S_ 190 0 p_.toNat (S_.2.2.1 169 0 (4096 * d_ + p_).toNat)) := ai_fr_tr hF_ (ai_fr_aI rfl)
      refine sm_T_go 7 (c1 := (52, [some (.inr (.inr (some (13, 0)))), some (.inl d_), some (.inl p_)], [.inl d_, .inl 4096, .inr (.inr (some (170, 0))), .inl p_, .inr (.inr (some (191, 0)))], sm_aI S_ 190 0 p_.toNat (S_.2.2.1 169 0 (4096 * d_ + p_).toNat))) rfl ?_
      refine sm_T_bin (w := 4096 * d_) rfl (bi_mul (by omega) (by omega) (by omega)) ?_ -- pc_ 52
      refine sm_T_go 1 (c1 := (54, [some (.inr (.inr (some (13, 0)))), some (.inl d_), some (.inl p_)], [.inl p_, .inl (4096 * d_), .inr (.inr (some (170, 0))), .inl p_, .inr (.inr (some (191, 0)))], sm_aI S_ 190 0 p_.toNat (S_.2.2.1 169 0 (4096 * d_ + p_).toNat))) rfl ?_
      refine sm_T_bin (w := 4096 * d_ + p_) rfl (bi_add (by omega) (by omega) (by omega)) ?_ -- pc_ 54
      refine sm_T_iald (n := 24576) rfl rfl (by omega) (by omega) ?_
      have bx7_ : 0 ≤ S_.2.2.1 170 0 (4096 * d_ + p_).toNat ∧ S_.2.2.1 170 0 (4096 * d_ + p_).toNat ≤ 63 := hI_.2 170 0 _
      refine sm_T_go 0 (c1 := (56, [some (.inr (.inr (some (13, 0)))), some (.inl d_), some (.inl p_)], [.inl (S_.2.2.1 170 0 (4096 * d_ + p_).toNat), .inl p_, .inr (.inr (some (191, 0)))], sm_aI S_ 190 0 p_.toNat (S_.2.2.1 169 0 (4096 * d_ + p_).toNat))) rfl ?_
      refine sm_T_iast (n := 4096) rfl rfl (by omega) (by omega) ?_
      have hIx8_ : gi (sm_aI (sm_aI S_ 190 0 p_.toNat (S_.2.2.1 169 0 (4096 * d_ + p_).toNat)) 191 0 p_.toNat (S_.2.2.1 170 0 (4096 * d_ + p_).toNat)) := gi_aI hIx5_ (show 0 ≤ (S_.2.2.1 170 0 (4096 * d_ + p_).toNat) ∧ (S_.2.2.1 170 0 (4096 * d_ + p_).toNat) ≤ 63 from ⟨by omega, by omega⟩)
      have hFx9_ : ai_fr (sx_W vw_387) S0_ (sm_aI (sm_aI S_ 190 0 p_.toNat (S_.2.2.1 169 0 (4096 * d_ + p_).toNat)) 191 0 p_.toNat (S_.2.2.1 170 0 (4096 * d_ + p_).toNat)) := ai_fr_tr hFx6_ (ai_fr_aI rfl)
      refine sm_T_inc (a := 2) (z := 1) (v := p_) (w := p_ + 1) rfl rfl (by omega) (by omega) (by omega) ?_ -- pc_ 57
      refine sm_T_go 1 (c1 := (2, [some (.inr (.inr (some (13, 0)))), some (.inl d_), some (.inl (p_ + 1))], [], sm_aI (sm_aI S_ 190 0 p_.toNat (S_.2.2.1 169 0 (4096 * d_ + p_).toNat)) 191 0 p_.toNat (S_.2.2.1 170 0 (4096 * d_ + p_).toNat))) rfl ?_
      refine ih_ (p_ + 1) (sm_aI (sm_aI S_ 190 0 p_.toNat (S_.2.2.1 169 0 (4096 * d_ + p_).toNat)) 191 0 p_.toNat (S_.2.2.1 170 0 (4096 * d_ + p_).toNat)) hIx8_ hFx9_ ⟨?_, ?_, trivial⟩ ?_
      · omega
      · intro p9_ hp9_
        rw [rd_eq]
        by_cases z9_ : p9_ = p_.toNat
        · rw [if_pos z9_]; first | exact t9_ | (rw [rd_ne (by decide)]; exact t9_)
        · rw [if_neg z9_, rd_ne (by decide)]; exact h1_ p9_ (by omega)
      · omega
set_option maxHeartbeats 400000 in
set_option maxRecDepth 20000 in
theorem vc_387 {sc_ : Nat × (Nat → Int)} (d_ : Int) (S0_ : sm_S) (hI_ : gi S0_) (hd_ : 0 ≤ d_ ∧ d_ ≤ 5) (hk_ : dRk d_.toNat S0_) : sm_T (mt_P sc_) 0 387 (0, [some (.inr (.inr (some (13, 0)))), some (.inl d_), none], [], S0_) (fun ro9_ => ∃ u_ S1_, ro9_ = (.inl u_, S1_, 0) ∧ vq_387 d_ S0_ u_ S1_) := by
  have hF_ : ai_fr (sx_W vw_387) S0_ S0_ := ai_fr_rf
  obtain ⟨J1_, J2_, J3_, J4_⟩ := dRk_b hk_
  have w1_ := pw_le (n := (S0_.2.2.1 154 0 d_.toNat).toNat + (S0_.2.2.1 155 0 d_.toNat).toNat) (m := 12) (by omega)
  have w2_ := pw_pos ((S0_.2.2.1 154 0 d_.toNat).toNat + (S0_.2.2.1 155 0 d_.toNat).toNat)
  have w3_ : ((2 ^ ((S0_.2.2.1 154 0 d_.toNat).toNat + (S0_.2.2.1 155 0 d_.toNat).toNat) : Nat) : Int) = (2 : Int) ^ ((S0_.2.2.1 154 0 d_.toNat).toNat + (S0_.2.2.1 155 0 d_.toNat).toNat) := by push_cast; rfl
  refine sm_T_go 2 (c1 := (2, [some (.inr (.inr (some (13, 0)))), some (.inl d_), some (.inl 0)], [], S0_)) rfl ?_
  refine (vl_387 d_ S0_ hd_ hk_ _) 0 S0_ hI_ hF_ ⟨?_, ?_, trivial⟩ (Nat.lt_succ_self _)
  · omega
  · (intro p9_ hp9_; exfalso; omega)
/-! M_.layB -/
def vw_388 : sx_Wl := ([], [192, 193], [])
def vq_388 (d_ : Int) (S0_ : sm_S) (u_ : Option sm_V) (S1_ : sm_S) : Prop := u_ = none ∧ gi S1_ ∧ ai_fr (sx_W vw_388) S0_ S1_ ∧ (∀ p9_ : Nat, p9_ < 2 ^ ((S0_.2.2.1 154 0 d_.toNat).toNat + (S0_.2.2.1 155 0 d_.toNat).toNat) → 0 ≤ S1_.2.2.1 193 0 p9_ ∧ S1_.2.2.1 193 0 p9_ < 2 ^ (S0_.2.2.1 155 0 d_.toNat).toNat)
set_option maxHeartbeats 400000 in
set_option maxRecDepth 20000 in
theorem vl_388 {sc_ : Nat × (Nat → Int)} (d_ : Int) (S0_ : sm_S) (hd_ : 0 ≤ d_ ∧ d_ ≤ 5) (hk_ : dRk d_.toNat S0_) : ∀ nn_ : Nat, (∀ (p_ : Int) (S_ : sm_S), gi S_ → ai_fr (sx_W vw_388) S0_ S_ → ((0 ≤ p_ ∧ p_ ≤ 2 ^ ((S0_.2.2.1 154 0 d_.toNat).toNat + (S0_.2.2.1 155 0 d_.toNat).toNat)) ∧ (∀ p9_ : Nat, (p9_ : Int) < p_ → 0 ≤ S_.2.2.1 193 0 p9_ ∧ S_.2.2.1 193 0 p9_ < 2 ^ (S0_.2.2.1 155 0 d_.toNat).toNat) ∧ True) → ((5000 - p_).toNat) < nn_ → sm_T (mt_P sc_) 0 388 (2, [some (.inr (.inr (some (13, 0)))), some (.inl d_), some (.inl p_)], [], S_) (fun ro9_ => ∃ u_ S1_, ro9_ = (.inl u_, S1_, 0) ∧ vq_388 d_ S0_ u_ S1_)) := by
  intro nn_
  induction nn_ with
  | zero => exact fun _ _ _ _ _ h_ => absurd h_ (Nat.not_lt_zero _)
  | succ nn_ ih_ =>
    rintro p_ S_ hI_ hF_ ⟨h0_, h1_, -⟩ hm_
    obtain ⟨J1_, J2_, J3_, J4_⟩ := dRk_b hk_
    have w1_ := pw_le (n := (S0_.2.2.1 154 0 d_.toNat).toNat + (S0_.2.2.1 155 0 d_.toNat).toNat) (m := 12) (by omega)
    have w2_ := pw_pos ((S0_.2.2.1 154 0 d_.toNat).toNat + (S0_.2.2.1 155 0 d_.toNat).toNat)
    have w3_ : ((2 ^ ((S0_.2.2.1 154 0 d_.toNat).toNat + (S0_.2.2.1 155 0 d_.toNat).toNat) : Nat) : Int) = (2 : Int) ^ ((S0_.2.2.1 154 0 d_.toNat).toNat + (S0_.2.2.1 155 0 d_.toNat).toNat) := by push_cast; rfl
    have f154_ : S_.2.2.1 154 0 = S0_.2.2.1 154 0 := fr_arr hF_ rfl
    have f155_ : S_.2.2.1 155 0 = S0_.2.2.1 155 0 := fr_arr hF_ rfl
    have f170_ : S_.2.2.1 170 0 = S0_.2.2.1 170 0 := fr_arr hF_ rfl
    have s9_ : i_shl 1 (S_.2.2.1 154 0 d_.toNat + S_.2.2.1 155 0 d_.toNat) = 2 ^ ((S0_.2.2.1 154 0 d_.toNat).toNat + (S0_.2.2.1 155 0 d_.toNat).toNat) := by (rw [f154_, f155_, i_shl1 (by omega) (by omega), show (S0_.2.2.1 154 0 d_.toNat + S0_.2.2.1 155 0 d_.toNat).toNat = (S0_.2.2.1 154 0 d_.toNat).toNat + (S0_.2.2.1 155 0 d_.toNat).toNat by omega])
    refine sm_T_go 5 (c1 := (9, [some (.inr (.inr (some (13, 0)))), some (.inl d_), some (.inl p_)], [.inl d_, .inr (.inr (some (154, 0))), .inl 1, .inl p_], S_)) rfl ?_
    refine sm_T_iald (n := 6) rfl rfl (by omega) (by omega) ?_
    have bx1_ : 0 ≤ S_.2.2.1 154 0 d_.toNat ∧ S_.2.2.1 154 0 d_.toNat ≤ 12 := hI_.2 154 0 _
    refine sm_T_go 3 (c1 := (15, [some (.inr (.inr (some (13, 0)))), some (.inl d_), some (.inl p_)], [.inl d_, .inr (.inr (some (155, 0))), .inl (S_.2.2.1 154 0 d_.toNat), .inl 1, .inl p_], S_)) rfl ?_
    refine sm_T_iald (n := 6) rfl rfl (by omega) (by omega) ?_
    have bx2_ : 0 ≤ S_.2.2.1 155 0 d_.toNat ∧ S_.2.2.1 155 0 d_.toNat ≤ 6 := hI_.2 155 0 _
    refine sm_T_bin (w := (S_.2.2.1 154 0 d_.toNat) + (S_.2.2.1 155 0 d_.toNat)) rfl (bi_add (by omega) (by omega) (by omega)) ?_ -- pc_ 16
    refine sm_T_bin (w := (i_shl 1 ((S_.2.2.1 154 0 d_.toNat) + (S_.2.2.1 155 0 d_.toNat)))) rfl rfl ?_ -- pc_ 17
    refine sm_T_br (a := 3) (z := 45) rfl (fun cx3_ => ?_) (fun cx3_ => ?_)
    · have cx3_ : (i_shl 1 ((S_.2.2.1 154 0 d_.toNat) + (S_.2.2.1 155 0 d_.toNat))) ≤ p_ := of_decide_eq_true cx3_
      refine sm_T_rv rfl ⟨_, _, rfl, rfl, hI_, hF_, ?_⟩
      intro p9_ hp9_
      exact h1_ p9_ (by omega)
    · have cx3_ : ¬ ((i_shl 1 ((S_.2.2.1 154 0 d_.toNat) + (S_.2.2.1 155 0 d_.toNat))) ≤ p_) := of_decide_eq_false cx3_
      have t9_ := J4_ p_.toNat (by omega)
      rw [← f170_, show 4096 * d_.toNat + p_.toNat = (4096 * d_ + p_).toNat by omega] at t9_
      refine sm_T_go 7 (c1 := (34, [some (.inr (.inr (some (13, 0)))), some (.inl d_), some (.inl p_)], [.inl d_, .inl 4096, .inr (.inr (some (169, 0))), .inl p_, .inr (.inr (some (192, 0)))], S_)) rfl ?_
      refine sm_T_bin (w := 4096 * d_) rfl (bi_mul (by omega) (by omega) (by omega)) ?_ -- pc_ 34
      refine sm_T_go 1 (c1 := (36, [some (.inr (.inr (some (13, 0)))), some (.inl d_), some (.inl p_)], [.inl p_, .inl (4096 * d_), .inr (.inr (some (169, 0))), .inl p_, .inr (.inr (some (192, 0)))], S_)) rfl ?_
      refine sm_T_bin (w := 4096 * d_ + p_) rfl (bi_add (by omega) (by omega) (by omega)) ?_ -- pc_ 36
      refine sm_T_iald (n := 24576) rfl rfl (by omega) (by omega) ?_
      have bx4_ : 0 ≤ S_.2.2.1 169 0 (4096 * d_ + p_).toNat ∧ S_.2.2.1 169 0 (4096 * d_ + p_).toNat ≤ 65535 := hI_.2 169 0 _
      refine sm_T_iast (n := 4096) rfl rfl (by omega) (by omega) ?_
      have hIx5_ : gi (sm_aI S_ 192 0 p_.toNat (S_.2.2.1 169 0 (4096 * d_ + p_).toNat)) := gi_aI hI_ (show 0 ≤ (S_.2.2.1 169 0 (4096 * d_ + p_).toNat) ∧ (S_.2.2.1 169 0 (4096 * d_ + p_).toNat) ≤ 65535 from ⟨by omega, by omega⟩)
      have hFx6_ : ai_fr (sx_W vw_388) S0_ (sm_aI S_ 192 0 p_.toNat (S_.2.2.1 169 0 (4096 * d_ + p_).toNat)) := ai_fr_tr hF_ (ai_fr_aI rfl)
      refine sm_T_go 7 (c1 := (52, [some (.inr (.inr (some (13, 0)))), some (.inl d_), some (.inl p_)], [.inl d_, .inl 4096, .inr (.inr (some (170, 0))), .inl p_, .inr (.inr (some (193, 0)))], sm_aI S_ 192 0 p_.toNat (S_.2.2.1 169 0 (4096 * d_ + p_).toNat))) rfl ?_
      refine sm_T_bin (w := 4096 * d_) rfl (bi_mul (by omega) (by omega) (by omega)) ?_ -- pc_ 52
      refine sm_T_go 1 (c1 := (54, [some (.inr (.inr (some (13, 0)))), some (.inl d_), some (.inl p_)], [.inl p_, .inl (4096 * d_), .inr (.inr (some (170, 0))), .inl p_, .inr (.inr (some (193, 0)))], sm_aI S_ 192 0 p_.toNat (S_.2.2.1 169 0 (4096 * d_ + p_).toNat))) rfl ?_
      refine sm_T_bin (w := 4096 * d_ + p_) rfl (bi_add (by omega) (by omega) (by omega)) ?_ -- pc_ 54
      refine sm_T_iald (n := 24576) rfl rfl (by omega) (by omega) ?_
      have bx7_ : 0 ≤ S_.2.2.1 170 0 (4096 * d_ + p_).toNat ∧ S_.2.2.1 170 0 (4096 * d_ + p_).toNat ≤ 63 := hI_.2 170 0 _
      refine sm_T_go 0 (c1 := (56, [some (.inr (.inr (some (13, 0)))), some (.inl d_), some (.inl p_)], [.inl (S_.2.2.1 170 0 (4096 * d_ + p_).toNat), .inl p_, .inr (.inr (some (193, 0)))], sm_aI S_ 192 0 p_.toNat (S_.2.2.1 169 0 (4096 * d_ + p_).toNat))) rfl ?_
      refine sm_T_iast (n := 4096) rfl rfl (by omega) (by omega) ?_
      have hIx8_ : gi (sm_aI (sm_aI S_ 192 0 p_.toNat (S_.2.2.1 169 0 (4096 * d_ + p_).toNat)) 193 0 p_.toNat (S_.2.2.1 170 0 (4096 * d_ + p_).toNat)) := gi_aI hIx5_ (show 0 ≤ (S_.2.2.1 170 0 (4096 * d_ + p_).toNat) ∧ (S_.2.2.1 170 0 (4096 * d_ + p_).toNat) ≤ 63 from ⟨by omega, by omega⟩)
      have hFx9_ : ai_fr (sx_W vw_388) S0_ (sm_aI (sm_aI S_ 192 0 p_.toNat (S_.2.2.1 169 0 (4096 * d_ + p_).toNat)) 193 0 p_.toNat (S_.2.2.1 170 0 (4096 * d_ + p_).toNat)) := ai_fr_tr hFx6_ (ai_fr_aI rfl)
      refine sm_T_inc (a := 2) (z := 1) (v := p_) (w := p_ + 1) rfl rfl (by omega) (by omega) (by omega) ?_ -- pc_ 57
      refine sm_T_go 1 (c1 := (2, [some (.inr (.inr (some (13, 0)))), some (.inl d_), some (.inl (p_ + 1))], [], sm_aI (sm_aI S_ 192 0 p_.toNat (S_.2.2.1 169 0 (4096 * d_ + p_).toNat)) 193 0 p_.toNat (S_.2.2.1 170 0 (4096 * d_ + p_).toNat))) rfl ?_
      refine ih_ (p_ + 1) (sm_aI (sm_aI S_ 192 0 p_.toNat (S_.2.2.1 169 0 (4096 * d_ + p_).toNat)) 193 0 p_.toNat (S_.2.2.1 170 0 (4096 * d_ + p_).toNat)) hIx8_ hFx9_ ⟨?_, ?_, trivial⟩ ?_
      · omega
      · intro p9_ hp9_
        rw [rd_eq]
        by_cases z9_ : p9_ = p_.toNat
        · rw [if_pos z9_]; first | exact t9_ | (rw [rd_ne (by decide)]; exact t9_)
        · rw [if_neg z9_, rd_ne (by decide)]; exact h1_ p9_ (by omega)
      · omega
set_option maxHeartbeats 400000 in
set_option maxRecDepth 20000 in
theorem vc_388 {sc_ : Nat × (Nat → Int)} (d_ : Int) (S0_ : sm_S) (hI_ : gi S0_) (hd_ : 0 ≤ d_ ∧ d_ ≤ 5) (hk_ : dRk d_.toNat S0_) : sm_T (mt_P sc_) 0 388 (0, [some (.inr (.inr (some (13, 0)))), some (.inl d_), none], [], S0_) (fun ro9_ => ∃ u_ S1_, ro9_ = (.inl u_, S1_, 0) ∧ vq_388 d_ S0_ u_ S1_) := by
  have hF_ : ai_fr (sx_W vw_388) S0_ S0_ := ai_fr_rf
  obtain ⟨J1_, J2_, J3_, J4_⟩ := dRk_b hk_
  have w1_ := pw_le (n := (S0_.2.2.1 154 0 d_.toNat).toNat + (S0_.2.2.1 155 0 d_.toNat).toNat) (m := 12) (by omega)
  have w2_ := pw_pos ((S0_.2.2.1 154 0 d_.toNat).toNat + (S0_.2.2.1 155 0 d_.toNat).toNat)
  have w3_ : ((2 ^ ((S0_.2.2.1 154 0 d_.toNat).toNat + (S0_.2.2.1 155 0 d_.toNat).toNat) : Nat) : Int) = (2 : Int) ^ ((S0_.2.2.1 154 0 d_.toNat).toNat + (S0_.2.2.1 155 0 d_.toNat).toNat) := by push_cast; rfl
  refine sm_T_go 2 (c1 := (2, [some (.inr (.inr (some (13, 0)))), some (.inl d_), some (.inl 0)], [], S0_)) rfl ?_
  refine (vl_388 d_ S0_ hd_ hk_ _) 0 S0_ hI_ hF_ ⟨?_, ?_, trivial⟩ (Nat.lt_succ_self _)
  · omega
  · (intro p9_ hp9_; exfalso; omega)
/-! M_.tellWitness -/
def vw_385 : sx_Wl := ([(13, 95)], [189], [])
def vq_385 (pl_ : Int) (ip_ : Int) (S0_ : sm_S) (u_ : Option sm_V) (S1_ : sm_S) : Prop := ∃ v_ : Int, u_ = some (.inl v_) ∧ gi S1_ ∧ ai_fr (sx_W vw_385) S0_ S1_ ∧ (0 ≤ v_ ∧ v_ ≤ 4096)
set_option maxHeartbeats 400000 in
set_option maxRecDepth 20000 in
theorem vl_385 {sc_ : Nat × (Nat → Int)} (pl_ : Int) (ip_ : Int) (S0_ : sm_S) (hp_ : 0 ≤ pl_ ∧ pl_ ≤ 4095) (hi_ : 0 ≤ ip_ ∧ ip_ ≤ 4095) : ∀ nn_ : Nat, (∀ (mn : Int) (k_ : Int) (i_ : Int) (S_ : sm_S), gi S_ → ai_fr (sx_W vw_385) S0_ S_ → ((1 ≤ mn ∧ mn ≤ 4096 ∧ -1 ≤ i_ ∧ i_ ≤ mn - 2 ∧ 0 ≤ k_ ∧ k_ ≤ 4095) ∧ True) → ((i_ + 2).toNat) < nn_ → sm_T (mt_P sc_) 0 385 (31, [some (.inr (.inr (some (13, 0)))), some (.inl pl_), some (.inl ip_), some (.inl mn), some (.inl k_), some (.inl i_)], [], S_) (fun ro9_ => ∃ u_ S1_, ro9_ = (.inl u_, S1_, 0) ∧ vq_385 pl_ ip_ S0_ u_ S1_)) := by
  intro nn_
  induction nn_ with
  | zero => exact fun _ _ _ _ _ _ _ h_ => absurd h_ (Nat.not_lt_zero _)
  | succ nn_ ih_ =>
    rintro mn k_ i_ S_ hI_ hF_ ⟨h0_, -⟩ hm_
    refine sm_T_go 1 (c1 := (33, [some (.inr (.inr (some (13, 0)))), some (.inl pl_), some (.inl ip_), some (.inl mn), some (.inl k_), some (.inl i_)], [.inl i_], S_)) rfl ?_
    refine sm_T_b0 (a := 2) (z := 32) rfl (fun cx1_ => ?_) (fun cx1_ => ?_)
    · have cx1_ : i_ < 0 := of_decide_eq_true cx1_
      refine sm_T_go 1 (c1 := (66, [some (.inr (.inr (some (13, 0)))), some (.inl pl_), some (.inl ip_), some (.inl mn), some (.inl k_), some (.inl i_)], [.inl mn], S_)) rfl ?_
      refine sm_T_ri rfl ⟨_, _, rfl, _, rfl, hI_, hF_, ?_⟩
      omega
    · have cx1_ : ¬ (i_ < 0) := of_decide_eq_false cx1_
      refine sm_T_go 6 (c1 := (48, [some (.inr (.inr (some (13, 0)))), some (.inl pl_), some (.inl ip_), some (.inl mn), some (.inl k_), some (.inl i_)], [.inl k_, .inr (.inr (some (196, 0))), .inl i_, .inr (.inr (some (189, 0)))], S_)) rfl ?_
      refine sm_T_iald (n := 4096) rfl rfl (by omega) (by omega) ?_
      have bx2_ : 0 ≤ S_.2.2.1 196 0 k_.toNat ∧ S_.2.2.1 196 0 k_.toNat ≤ 4095 := hI_.2 196 0 _
      refine sm_T_iast (n := 4200) rfl rfl (by omega) (by omega) ?_
      have hIx3_ : gi (sm_aI S_ 189 0 i_.toNat (S_.2.2.1 196 0 k_.toNat)) := gi_aI hI_ (show 0 ≤ (S_.2.2.1 196 0 k_.toNat) ∧ (S_.2.2.1 196 0 k_.toNat) ≤ 4095 from ⟨by omega, by omega⟩)
      have hFx4_ : ai_fr (sx_W vw_385) S0_ (sm_aI S_ 189 0 i_.toNat (S_.2.2.1 196 0 k_.toNat)) := ai_fr_tr hF_ (ai_fr_aI rfl)
      refine sm_T_go 3 (c1 := (56, [some (.inr (.inr (some (13, 0)))), some (.inl pl_), some (.inl ip_), some (.inl mn), some (.inl k_), some (.inl i_)], [.inl k_, .inr (.inr (some (195, 0)))], sm_aI S_ 189 0 i_.toNat (S_.2.2.1 196 0 k_.toNat))) rfl ?_
      refine sm_T_iald (n := 4096) rfl rfl (by omega) (by omega) ?_
      have bx5_ : 0 ≤ S_.2.2.1 195 0 k_.toNat ∧ S_.2.2.1 195 0 k_.toNat ≤ 4095 := hI_.2 195 0 _
      refine sm_T_go 1 (c1 := (59, [some (.inr (.inr (some (13, 0)))), some (.inl pl_), some (.inl ip_), some (.inl mn), some (.inl (S_.2.2.1 195 0 k_.toNat)), some (.inl i_)], [], sm_aI S_ 189 0 i_.toNat (S_.2.2.1 196 0 k_.toNat))) rfl ?_
      refine sm_T_inc (a := 5) (z := (-1)) (v := i_) (w := i_ - 1) rfl rfl (by omega) (by omega) (by omega) ?_ -- pc_ 59
      refine sm_T_go 1 (c1 := (31, [some (.inr (.inr (some (13, 0)))), some (.inl pl_), some (.inl ip_), some (.inl mn), some (.inl (S_.2.2.1 195 0 k_.toNat)), some (.inl (i_ - 1))], [], sm_aI S_ 189 0 i_.toNat (S_.2.2.1 196 0 k_.toNat))) rfl ?_
      refine ih_ mn (S_.2.2.1 195 0 k_.toNat) (i_ - 1) (sm_aI S_ 189 0 i_.toNat (S_.2.2.1 196 0 k_.toNat)) hIx3_ hFx4_ ⟨?_, trivial⟩ ?_
      · omega
      · omega
set_option maxHeartbeats 400000 in
set_option maxRecDepth 20000 in
theorem vc_385 {sc_ : Nat × (Nat → Int)} (pl_ : Int) (ip_ : Int) (S0_ : sm_S) (hI_ : gi S0_) (hp_ : 0 ≤ pl_ ∧ pl_ ≤ 4095) (hi_ : 0 ≤ ip_ ∧ ip_ ≤ 4095) : sm_T (mt_P sc_) 0 385 (0, [some (.inr (.inr (some (13, 0)))), some (.inl pl_), some (.inl ip_), none, none, none], [], S0_) (fun ro9_ => ∃ u_ S1_, ro9_ = (.inl u_, S1_, 0) ∧ vq_385 pl_ ip_ S0_ u_ S1_) := by
  have hF_ : ai_fr (sx_W vw_385) S0_ S0_ := ai_fr_rf
  refine sm_T_go 3 (c1 := (5, [some (.inr (.inr (some (13, 0)))), some (.inl pl_), some (.inl ip_), none, none, none], [.inl pl_, .inr (.inr (some (197, 0)))], S0_)) rfl ?_
  refine sm_T_iald (n := 4096) rfl rfl (by omega) (by omega) ?_
  have bx1_ : 0 ≤ S0_.2.2.1 197 0 pl_.toNat ∧ S0_.2.2.1 197 0 pl_.toNat ≤ 4095 := hI_.2 197 0 _
  refine sm_T_go 1 (c1 := (7, [some (.inr (.inr (some (13, 0)))), some (.inl pl_), some (.inl ip_), none, none, none], [.inl 1, .inl (S0_.2.2.1 197 0 pl_.toNat)], S0_)) rfl ?_
  refine sm_T_bin (w := (S0_.2.2.1 197 0 pl_.toNat) + 1) rfl (bi_add (by omega) (by omega) (by omega)) ?_ -- pc_ 7
  have hIx2_ : gi (sm_pI S0_ 13 0 95 ((S0_.2.2.1 197 0 pl_.toNat) + 1)) := gi_pI hI_ (show 0 ≤ (S0_.2.2.1 197 0 pl_.toNat) + 1 ∧ (S0_.2.2.1 197 0 pl_.toNat) + 1 ≤ 4097 from ⟨by omega, by omega⟩)
  have hFx3_ : ai_fr (sx_W vw_385) S0_ (sm_pI S0_ 13 0 95 ((S0_.2.2.1 197 0 pl_.toNat) + 1)) := ai_fr_tr hF_ (ai_fr_pI rfl)
  refine sm_T_go 8 (c1 := (20, [some (.inr (.inr (some (13, 0)))), some (.inl pl_), some (.inl ip_), some (.inl ((S0_.2.2.1 197 0 pl_.toNat) + 1)), none, none], [.inl 1, .inl ((S0_.2.2.1 197 0 pl_.toNat) + 1), .inr (.inr (some (189, 0)))], sm_pI S0_ 13 0 95 ((S0_.2.2.1 197 0 pl_.toNat) + 1))) rfl ?_
  refine sm_T_bin (w := (S0_.2.2.1 197 0 pl_.toNat)) rfl (bi_sub (by omega) (by omega) (by omega)) ?_ -- pc_ 20
  refine sm_T_go 1 (c1 := (22, [some (.inr (.inr (some (13, 0)))), some (.inl pl_), some (.inl ip_), some (.inl ((S0_.2.2.1 197 0 pl_.toNat) + 1)), none, none], [.inl ip_, .inl (S0_.2.2.1 197 0 pl_.toNat), .inr (.inr (some (189, 0)))], sm_pI S0_ 13 0 95 ((S0_.2.2.1 197 0 pl_.toNat) + 1))) rfl ?_
  refine sm_T_iast (n := 4200) rfl rfl (by omega) (by omega) ?_
  have hIx4_ : gi (sm_aI (sm_pI S0_ 13 0 95 ((S0_.2.2.1 197 0 pl_.toNat) + 1)) 189 0 (S0_.2.2.1 197 0 pl_.toNat).toNat ip_) := gi_aI hIx2_ (show 0 ≤ ip_ ∧ ip_ ≤ 4095 from ⟨by omega, by omega⟩)
  have hFx5_ : ai_fr (sx_W vw_385) S0_ (sm_aI (sm_pI S0_ 13 0 95 ((S0_.2.2.1 197 0 pl_.toNat) + 1)) 189 0 (S0_.2.2.1 197 0 pl_.toNat).toNat ip_) := ai_fr_tr hFx3_ (ai_fr_aI rfl)
  refine sm_T_go 4 (c1 := (28, [some (.inr (.inr (some (13, 0)))), some (.inl pl_), some (.inl ip_), some (.inl ((S0_.2.2.1 197 0 pl_.toNat) + 1)), some (.inl pl_), none], [.inl 2, .inl ((S0_.2.2.1 197 0 pl_.toNat) + 1)], sm_aI (sm_pI S0_ 13 0 95 ((S0_.2.2.1 197 0 pl_.toNat) + 1)) 189 0 (S0_.2.2.1 197 0 pl_.toNat).toNat ip_)) rfl ?_
  refine sm_T_bin (w := (S0_.2.2.1 197 0 pl_.toNat) - 1) rfl (bi_sub (by omega) (by omega) (by omega)) ?_ -- pc_ 28
  refine sm_T_go 1 (c1 := (31, [some (.inr (.inr (some (13, 0)))), some (.inl pl_), some (.inl ip_), some (.inl ((S0_.2.2.1 197 0 pl_.toNat) + 1)), some (.inl pl_), some (.inl ((S0_.2.2.1 197 0 pl_.toNat) - 1))], [], sm_aI (sm_pI S0_ 13 0 95 ((S0_.2.2.1 197 0 pl_.toNat) + 1)) 189 0 (S0_.2.2.1 197 0 pl_.toNat).toNat ip_)) rfl ?_
  refine (vl_385 pl_ ip_ S0_ hp_ hi_ _) ((S0_.2.2.1 197 0 pl_.toNat) + 1) pl_ ((S0_.2.2.1 197 0 pl_.toNat) - 1) (sm_aI (sm_pI S0_ 13 0 95 ((S0_.2.2.1 197 0 pl_.toNat) + 1)) 189 0 (S0_.2.2.1 197 0 pl_.toNat).toNat ip_) hIx4_ hFx5_ ⟨?_, trivial⟩ (Nat.lt_succ_self _)
  · omega
/-! M_.search -/
def vw_386 : sx_Wl := ([(13, 95)], [189, 194, 195, 196, 197, 198], [])
def vq_386 (ip_ : Int) (bA_ : Int) (bB_ : Int) (sA_ : Nat) (sB_ : Nat) (S0_ : sm_S) (u_ : Option sm_V) (S1_ : sm_S) : Prop := ∃ v_ : Int, u_ = some (.inl v_) ∧ gi S1_ ∧ ai_fr (sx_W vw_386) S0_ S1_ ∧ (0 ≤ v_ ∧ v_ ≤ 4096)
set_option maxHeartbeats 2000000 in
set_option maxRecDepth 20000 in
theorem vl_386 {sc_ : Nat × (Nat → Int)} (ip_ : Int) (bA_ : Int) (bB_ : Int) (sA_ : Nat) (sB_ : Nat) (S0_ : sm_S) (hi_ : 0 ≤ ip_ ∧ ip_ + sA_ ≤ 12 ∧ ip_ + sB_ ≤ 12 ∧ sA_ ≤ 6 ∧ sB_ ≤ 6) (hbA_ : 0 ≤ bA_ ∧ bA_ < 2 ^ sA_) (hbB_ : 0 ≤ bB_ ∧ bB_ < 2 ^ sB_) (htA_ : ∀ p9_ : Nat, p9_ < 2 ^ (ip_.toNat + sA_) → 0 ≤ S0_.2.2.1 191 0 p9_ ∧ S0_.2.2.1 191 0 p9_ < 2 ^ sA_) (htB_ : ∀ p9_ : Nat, p9_ < 2 ^ (ip_.toNat + sB_) → 0 ≤ S0_.2.2.1 193 0 p9_ ∧ S0_.2.2.1 193 0 p9_ < 2 ^ sB_) : ∀ nn_ : Nat, (∀ (k_ : Int) (S_ : sm_S), gi S_ → ai_fr (sx_W vw_386) S0_ S_ → ((0 ≤ k_ ∧ k_ ≤ 4096) ∧ (∀ j9_ : Nat, (j9_ : Int) < k_ → S_.2.2.1 198 0 j9_ = 0) ∧ True) → ((90000000 - k_).toNat) < nn_ → sm_T (mt_P sc_) 1 386 (8, [some (.inr (.inr (some (13, 0)))), some (.inl ip_), some (.inl bA_), some (.inl bB_), some (.inl k_), none, none, none, none, none], [], S_) (fun ro9_ => ∃ u_ S1_, ro9_ = (.inl u_, S1_, 0) ∧ vq_386 ip_ bA_ bB_ sA_ sB_ S0_ u_ S1_)) ∧ (∀ (mn : Int) (k_ : Int) (S_ : sm_S), gi S_ → ai_fr (sx_W vw_386) S0_ S_ → ((∀ j9_ : Nat, (j9_ : Int) < mn → S_.2.2.1 194 0 j9_ % 64 < 2 ^ sA_ ∧ S_.2.2.1 194 0 j9_ / 64 < 2 ^ sB_ ∧ S_.2.2.1 197 0 j9_ ≤ (j9_ : Int)) ∧ (mn = (cn1 (S_.2.2.1 198 0) 4096 : Int)) ∧ (1 ≤ mn ∧ 0 ≤ k_ ∧ k_ ≤ mn) ∧ True) → ((10000 * (5000 - k_) + 9000).toNat) < nn_ → sm_T (mt_P sc_) 1 386 (67, [some (.inr (.inr (some (13, 0)))), some (.inl ip_), some (.inl bA_), some (.inl bB_), some (.inl mn), some (.inl k_), none, none, none, none], [], S_) (fun ro9_ => ∃ u_ S1_, ro9_ = (.inl u_, S1_, 0) ∧ vq_386 ip_ bA_ bB_ sA_ sB_ S0_ u_ S1_)) ∧ (∀ (mn : Int) (k_ : Int) (a_ : Int) (b_ : Int) (i_ : Int) (S_ : sm_S), gi S_ → ai_fr (sx_W vw_386) S0_ S_ → ((∀ j9_ : Nat, (j9_ : Int) < mn → S_.2.2.1 194 0 j9_ % 64 < 2 ^ sA_ ∧ S_.2.2.1 194 0 j9_ / 64 < 2 ^ sB_ ∧ S_.2.2.1 197 0 j9_ ≤ (j9_ : Int)) ∧ (mn = (cn1 (S_.2.2.1 198 0) 4096 : Int)) ∧ (1 ≤ mn ∧ 0 ≤ k_ ∧ k_ < mn ∧ 0 ≤ i_ ∧ i_ ≤ 2 ^ ip_.toNat) ∧ (0 ≤ a_ ∧ a_ < 2 ^ sA_ ∧ 0 ≤ b_ ∧ b_ < 2 ^ sB_) ∧ True) → ((10000 * (5000 - k_) + 8000 - i_).toNat) < nn_ → sm_T (mt_P sc_) 1 386 (101, [some (.inr (.inr (some (13, 0)))), some (.inl ip_), some (.inl bA_), some (.inl bB_), some (.inl mn), some (.inl k_), some (.inl a_), some (.inl b_), some (.inl i_), none], [], S_) (fun ro9_ => ∃ u_ S1_, ro9_ = (.inl u_, S1_, 0) ∧ vq_386 ip_ bA_ bB_ sA_ sB_ S0_ u_ S1_)) := by
  intro nn_
  induction nn_ with
  | zero => exact ⟨fun _ _ _ _ _ h_ => absurd h_ (Nat.not_lt_zero _), fun _ _ _ _ _ _ h_ => absurd h_ (Nat.not_lt_zero _), fun _ _ _ _ _ _ _ _ _ h_ => absurd h_ (Nat.not_lt_zero _)⟩
  | succ nn_ ih_ =>
    refine ⟨?_, ?_, ?_⟩
    · rintro k_ S_ hI_ hF_ ⟨h0_, h1_, -⟩ hm_
      have w1_ := pw_le (n := sA_) (m := 6) (by omega)
      have w2_ := pw_le (n := sB_) (m := 6) (by omega)
      have w3_ := pw_pos sA_
      have w4_ := pw_pos sB_
      have w5_ := pw_le (n := ip_.toNat) (m := 12) (by omega)
      have w6_ := pw_pos ip_.toNat
      have f191_ : S_.2.2.1 191 0 = S0_.2.2.1 191 0 := fr_arr hF_ rfl
      have f193_ : S_.2.2.1 193 0 = S0_.2.2.1 193 0 := fr_arr hF_ rfl
      have cl9_ := cn1_le (S_.2.2.1 198 0) 4096
      have s9_ := i_shl1 (e := ip_) (by omega) (by omega)
      refine sm_T_go 2 (c1 := (13, [some (.inr (.inr (some (13, 0)))), some (.inl ip_), some (.inl bA_), some (.inl bB_), some (.inl k_), none, none, none, none, none], [.inl 4096, .inl k_], S_)) rfl ?_
      refine sm_T_br (a := 3) (z := 17) rfl (fun cx1_ => ?_) (fun cx1_ => ?_)
      · have cx1_ : 4096 ≤ k_ := of_decide_eq_true cx1_
        refine sm_T_go 8 (c1 := (42, [some (.inr (.inr (some (13, 0)))), some (.inl ip_), some (.inl bA_), some (.inl bB_), some (.inl 1), none, none, none, none, none], [.inl 6, .inl bB_, .inl bA_, .inl 0, .inr (.inr (some (194, 0)))], S_)) rfl ?_
        refine sm_T_bin (w := 64 * bB_) rfl (bi_shl (k := 6) (by decide) (by omega) (by omega) (by omega)) ?_ -- pc_ 42
        refine sm_T_bin (w := (i_or bA_ (64 * bB_))) rfl rfl ?_ -- pc_ 43
        have bx2_ := or64c (a_ := bB_) (b_ := bA_) (by omega) (by omega)
        refine sm_T_iast (n := 4096) rfl rfl (by omega) (by omega) ?_
        have hIx3_ : gi (sm_aI S_ 194 0 (0 : Int).toNat (i_or bA_ (64 * bB_))) := gi_aI hI_ (show 0 ≤ (i_or bA_ (64 * bB_)) ∧ (i_or bA_ (64 * bB_)) ≤ 4095 from ⟨by omega, by omega⟩)
        have hFx4_ : ai_fr (sx_W vw_386) S0_ (sm_aI S_ 194 0 (0 : Int).toNat (i_or bA_ (64 * bB_))) := ai_fr_tr hF_ (ai_fr_aI rfl)
        refine sm_T_go 4 (c1 := (51, [some (.inr (.inr (some (13, 0)))), some (.inl ip_), some (.inl bA_), some (.inl bB_), some (.inl 1), none, none, none, none, none], [.inl 0, .inl 0, .inr (.inr (some (197, 0)))], sm_aI S_ 194 0 (0 : Int).toNat (i_or bA_ (64 * bB_)))) rfl ?_
        refine sm_T_iast (n := 4096) rfl rfl (by omega) (by omega) ?_
        have hIx5_ : gi (sm_aI (sm_aI S_ 194 0 (0 : Int).toNat (i_or bA_ (64 * bB_))) 197 0 (0 : Int).toNat 0) := gi_aI hIx3_ (show 0 ≤ 0 ∧ 0 ≤ 4095 from ⟨by omega, by omega⟩)
        have hFx6_ : ai_fr (sx_W vw_386) S0_ (sm_aI (sm_aI S_ 194 0 (0 : Int).toNat (i_or bA_ (64 * bB_))) 197 0 (0 : Int).toNat 0) := ai_fr_tr hFx4_ (ai_fr_aI rfl)
        refine sm_T_go 5 (c1 := (61, [some (.inr (.inr (some (13, 0)))), some (.inl ip_), some (.inl bA_), some (.inl bB_), some (.inl 1), none, none, none, none, none], [.inl 0, .inr (.inr (some (194, 0))), .inr (.inr (some (198, 0)))], sm_aI (sm_aI S_ 194 0 (0 : Int).toNat (i_or bA_ (64 * bB_))) 197 0 (0 : Int).toNat 0)) rfl ?_
        refine sm_T_iald (n := 4096) rfl rfl (by omega) (by omega) ?_
        have bx7_ : 0 ≤ (sm_aI (sm_aI S_ 194 0 (0 : Int).toNat (i_or bA_ (64 * bB_))) 197 0 (0 : Int).toNat 0).2.2.1 194 0 (0 : Int).toNat ∧ (sm_aI (sm_aI S_ 194 0 (0 : Int).toNat (i_or bA_ (64 * bB_))) 197 0 (0 : Int).toNat 0).2.2.1 194 0 (0 : Int).toNat ≤ 4095 := hIx5_.2 194 0 _
        refine sm_T_go 1 (c1 := (63, [some (.inr (.inr (some (13, 0)))), some (.inl ip_), some (.inl bA_), some (.inl bB_), some (.inl 1), none, none, none, none, none], [.inl 1, .inl ((sm_aI (sm_aI S_ 194 0 (0 : Int).toNat (i_or bA_ (64 * bB_))) 197 0 (0 : Int).toNat 0).2.2.1 194 0 (0 : Int).toNat), .inr (.inr (some (198, 0)))], sm_aI (sm_aI S_ 194 0 (0 : Int).toNat (i_or bA_ (64 * bB_))) 197 0 (0 : Int).toNat 0)) rfl ?_
        refine sm_T_zas1 (n := 4096) rfl rfl (by omega) (by omega) (by omega) ?_
        have hIx8_ : gi (sm_aI (sm_aI (sm_aI S_ 194 0 (0 : Int).toNat (i_or bA_ (64 * bB_))) 197 0 (0 : Int).toNat 0) 198 0 ((sm_aI (sm_aI S_ 194 0 (0 : Int).toNat (i_or bA_ (64 * bB_))) 197 0 (0 : Int).toNat 0).2.2.1 194 0 (0 : Int).toNat).toNat 1) := gi_aI hIx5_ (show 0 ≤ 1 ∧ 1 ≤ 1 from ⟨by omega, by omega⟩)
        have hFx9_ : ai_fr (sx_W vw_386) S0_ (sm_aI (sm_aI (sm_aI S_ 194 0 (0 : Int).toNat (i_or bA_ (64 * bB_))) 197 0 (0 : Int).toNat 0) 198 0 ((sm_aI (sm_aI S_ 194 0 (0 : Int).toNat (i_or bA_ (64 * bB_))) 197 0 (0 : Int).toNat 0).2.2.1 194 0 (0 : Int).toNat).toNat 1) := ai_fr_tr hFx6_ (ai_fr_aI rfl)
        refine sm_T_go 2 (c1 := (67, [some (.inr (.inr (some (13, 0)))), some (.inl ip_), some (.inl bA_), some (.inl bB_), some (.inl 1), some (.inl 0), none, none, none, none], [], sm_aI (sm_aI (sm_aI S_ 194 0 (0 : Int).toNat (i_or bA_ (64 * bB_))) 197 0 (0 : Int).toNat 0) 198 0 ((sm_aI (sm_aI S_ 194 0 (0 : Int).toNat (i_or bA_ (64 * bB_))) 197 0 (0 : Int).toNat 0).2.2.1 194 0 (0 : Int).toNat).toNat 1)) rfl ?_
        refine ih_.2.1 1 0 (sm_aI (sm_aI (sm_aI S_ 194 0 (0 : Int).toNat (i_or bA_ (64 * bB_))) 197 0 (0 : Int).toNat 0) 198 0 ((sm_aI (sm_aI S_ 194 0 (0 : Int).toNat (i_or bA_ (64 * bB_))) 197 0 (0 : Int).toNat 0).2.2.1 194 0 (0 : Int).toNat).toNat 1) hIx8_ hFx9_ ⟨?_, ?_, ?_, trivial⟩ ?_
        · obtain ⟨FF_, hFF_⟩ : ∃ FF_, FF_ = i_or bA_ (64 * bB_) := ⟨_, rfl⟩
          have g9_ : 0 ≤ FF_ ∧ FF_ ≤ 4095 ∧ FF_ % 64 = bA_ ∧ FF_ / 64 = bB_ := by (rw [hFF_]; omega)
          have r1_ : ∀ j9_, ((sm_aI (sm_aI (sm_aI S_ 194 0 (0 : Int).toNat (i_or bA_ (64 * bB_))) 197 0 (0 : Int).toNat 0) 198 0 ((sm_aI (sm_aI S_ 194 0 (0 : Int).toNat (i_or bA_ (64 * bB_))) 197 0 (0 : Int).toNat 0).2.2.1 194 0 (0 : Int).toNat).toNat 1)).2.2.1 194 0 j9_ = if j9_ = 0 then FF_ else S_.2.2.1 194 0 j9_ := fun j9_ => by (rw [rd_ne (by decide), rd_ne (by decide), rd_eq, hFF_]; rfl)
          have r0_ : (sm_aI (sm_aI S_ 194 0 (0 : Int).toNat (i_or bA_ (64 * bB_))) 197 0 (0 : Int).toNat 0).2.2.1 194 0 (0 : Int).toNat = i_or bA_ (64 * bB_) := by (rw [rd_ne (show 194 ≠ 197 by decide), rd_eq, if_pos rfl])
          have r2_ : ∀ j9_, ((sm_aI (sm_aI (sm_aI S_ 194 0 (0 : Int).toNat (i_or bA_ (64 * bB_))) 197 0 (0 : Int).toNat 0) 198 0 ((sm_aI (sm_aI S_ 194 0 (0 : Int).toNat (i_or bA_ (64 * bB_))) 197 0 (0 : Int).toNat 0).2.2.1 194 0 (0 : Int).toNat).toNat 1)).2.2.1 198 0 j9_ = if j9_ = FF_.toNat then 1 else S_.2.2.1 198 0 j9_ := fun j9_ => by (rw [rd_eq, r0_, rd_ne (show 198 ≠ 197 by decide), rd_ne (show 198 ≠ 194 by decide), hFF_])
          have r3_ : ∀ j9_, ((sm_aI (sm_aI (sm_aI S_ 194 0 (0 : Int).toNat (i_or bA_ (64 * bB_))) 197 0 (0 : Int).toNat 0) 198 0 ((sm_aI (sm_aI S_ 194 0 (0 : Int).toNat (i_or bA_ (64 * bB_))) 197 0 (0 : Int).toNat 0).2.2.1 194 0 (0 : Int).toNat).toNat 1)).2.2.1 197 0 j9_ = if j9_ = 0 then 0 else S_.2.2.1 197 0 j9_ := fun j9_ => by (rw [rd_ne (by decide), rd_eq, rd_ne (by decide)]; rfl)
          intro j9_ hj9_
          have z9_ : j9_ = 0 := by omega
          rw [z9_, r1_, r3_, if_pos rfl, if_pos rfl]
          exact ⟨by omega, by omega, by omega⟩
        · obtain ⟨FF_, hFF_⟩ : ∃ FF_, FF_ = i_or bA_ (64 * bB_) := ⟨_, rfl⟩
          have g9_ : 0 ≤ FF_ ∧ FF_ ≤ 4095 ∧ FF_ % 64 = bA_ ∧ FF_ / 64 = bB_ := by (rw [hFF_]; omega)
          have r1_ : ∀ j9_, ((sm_aI (sm_aI (sm_aI S_ 194 0 (0 : Int).toNat (i_or bA_ (64 * bB_))) 197 0 (0 : Int).toNat 0) 198 0 ((sm_aI (sm_aI S_ 194 0 (0 : Int).toNat (i_or bA_ (64 * bB_))) 197 0 (0 : Int).toNat 0).2.2.1 194 0 (0 : Int).toNat).toNat 1)).2.2.1 194 0 j9_ = if j9_ = 0 then FF_ else S_.2.2.1 194 0 j9_ := fun j9_ => by (rw [rd_ne (by decide), rd_ne (by decide), rd_eq, hFF_]; rfl)
          have r0_ : (sm_aI (sm_aI S_ 194 0 (0 : Int).toNat (i_or bA_ (64 * bB_))) 197 0 (0 : Int).toNat 0).2.2.1 194 0 (0 : Int).toNat = i_or bA_ (64 * bB_) := by (rw [rd_ne (show 194 ≠ 197 by decide), rd_eq, if_pos rfl])
          have r2_ : ∀ j9_, ((sm_aI (sm_aI (sm_aI S_ 194 0 (0 : Int).toNat (i_or bA_ (64 * bB_))) 197 0 (0 : Int).toNat 0) 198 0 ((sm_aI (sm_aI S_ 194 0 (0 : Int).toNat (i_or bA_ (64 * bB_))) 197 0 (0 : Int).toNat 0).2.2.1 194 0 (0 : Int).toNat).toNat 1)).2.2.1 198 0 j9_ = if j9_ = FF_.toNat then 1 else S_.2.2.1 198 0 j9_ := fun j9_ => by (rw [rd_eq, r0_, rd_ne (show 198 ≠ 197 by decide), rd_ne (show 198 ≠ 194 by decide), hFF_])
          have r3_ : ∀ j9_, ((sm_aI (sm_aI (sm_aI S_ 194 0 (0 : Int).toNat (i_or bA_ (64 * bB_))) 197 0 (0 : Int).toNat 0) 198 0 ((sm_aI (sm_aI S_ 194 0 (0 : Int).toNat (i_or bA_ (64 * bB_))) 197 0 (0 : Int).toNat 0).2.2.1 194 0 (0 : Int).toNat).toNat 1)).2.2.1 197 0 j9_ = if j9_ = 0 then 0 else S_.2.2.1 197 0 j9_ := fun j9_ => by (rw [rd_ne (by decide), rd_eq, rd_ne (by decide)]; rfl)
          rw [cn1_cg (g := fun k9_ : Nat => if k9_ = FF_.toNat then (1 : Int) else 0) (fun k9_ hk9_ => ?_), cn1_one (j := FF_.toNat) (fun k9_ => ?_) 4096, if_pos (by omega)]
          · rfl
          · constructor
            · intro y9_; by_cases y8_ : k9_ = FF_.toNat; exact y8_; (rw [if_neg y8_] at y9_; exact absurd y9_ (by decide))
            · intro y9_; exact if_pos y9_
          · rw [r2_]
            by_cases y9_ : k9_ = FF_.toNat
            · rw [if_pos y9_, if_pos y9_]
            · rw [if_neg y9_, if_neg y9_, h1_ k9_ (by omega)]
        · omega
        · omega
      · have cx1_ : ¬ (4096 ≤ k_) := of_decide_eq_false cx1_
        refine sm_T_go 4 (c1 := (23, [some (.inr (.inr (some (13, 0)))), some (.inl ip_), some (.inl bA_), some (.inl bB_), some (.inl k_), none, none, none, none, none], [.inl 0, .inl k_, .inr (.inr (some (198, 0)))], S_)) rfl ?_
        refine sm_T_zas1 (n := 4096) rfl rfl (by omega) (by omega) (by omega) ?_
        have hIx10_ : gi (sm_aI S_ 198 0 k_.toNat 0) := gi_aI hI_ (show 0 ≤ 0 ∧ 0 ≤ 1 from ⟨by omega, by omega⟩)
        have hFx11_ : ai_fr (sx_W vw_386) S0_ (sm_aI S_ 198 0 k_.toNat 0) := ai_fr_tr hF_ (ai_fr_aI rfl)
        refine sm_T_inc (a := 4) (z := 1) (v := k_) (w := k_ + 1) rfl rfl (by omega) (by omega) (by omega) ?_ -- pc_ 24
        refine sm_T_go 1 (c1 := (8, [some (.inr (.inr (some (13, 0)))), some (.inl ip_), some (.inl bA_), some (.inl bB_), some (.inl (k_ + 1)), none, none, none, none, none], [], sm_aI S_ 198 0 k_.toNat 0)) rfl ?_
        refine ih_.1 (k_ + 1) (sm_aI S_ 198 0 k_.toNat 0) hIx10_ hFx11_ ⟨?_, ?_, trivial⟩ ?_
        · omega
        · intro j9_ hj9_
          rw [rd_eq]
          by_cases z9_ : j9_ = k_.toNat
          · rw [if_pos z9_]
          · rw [if_neg z9_]; exact h1_ j9_ (by omega)
        · omega
    · rintro mn k_ S_ hI_ hF_ ⟨hq_, hc_, h0_, -⟩ hm_
      have w1_ := pw_le (n := sA_) (m := 6) (by omega)
      have w2_ := pw_le (n := sB_) (m := 6) (by omega)
      have w3_ := pw_pos sA_
      have w4_ := pw_pos sB_
      have w5_ := pw_le (n := ip_.toNat) (m := 12) (by omega)
      have w6_ := pw_pos ip_.toNat
      have f191_ : S_.2.2.1 191 0 = S0_.2.2.1 191 0 := fr_arr hF_ rfl
      have f193_ : S_.2.2.1 193 0 = S0_.2.2.1 193 0 := fr_arr hF_ rfl
      have cl9_ := cn1_le (S_.2.2.1 198 0) 4096
      have s9_ := i_shl1 (e := ip_) (by omega) (by omega)
      refine sm_T_go 2 (c1 := (71, [some (.inr (.inr (some (13, 0)))), some (.inl ip_), some (.inl bA_), some (.inl bB_), some (.inl mn), some (.inl k_), none, none, none, none], [.inl mn, .inl k_], S_)) rfl ?_
      refine sm_T_br (a := 3) (z := 180) rfl (fun cx1_ => ?_) (fun cx1_ => ?_)
      · have cx1_ : mn ≤ k_ := of_decide_eq_true cx1_
        refine sm_T_go 1 (c1 := (252, [some (.inr (.inr (some (13, 0)))), some (.inl ip_), some (.inl bA_), some (.inl bB_), some (.inl mn), some (.inl k_), none, none, none, none], [.inl 0], S_)) rfl ?_
        refine sm_T_ri rfl ⟨_, _, rfl, _, rfl, hI_, hF_, ?_⟩
        omega
      · have cx1_ : ¬ (mn ≤ k_) := of_decide_eq_false cx1_
        have q9_ := hq_ k_.toNat (by omega)
        refine sm_T_go 3 (c1 := (80, [some (.inr (.inr (some (13, 0)))), some (.inl ip_), some (.inl bA_), some (.inl bB_), some (.inl mn), some (.inl k_), none, none, none, none], [.inl k_, .inr (.inr (some (194, 0)))], S_)) rfl ?_
        refine sm_T_iald (n := 4096) rfl rfl (by omega) (by omega) ?_
        have bx2_ : 0 ≤ S_.2.2.1 194 0 k_.toNat ∧ S_.2.2.1 194 0 k_.toNat ≤ 4095 := hI_.2 194 0 _
        refine sm_T_go 1 (c1 := (83, [some (.inr (.inr (some (13, 0)))), some (.inl ip_), some (.inl bA_), some (.inl bB_), some (.inl mn), some (.inl k_), none, none, none, none], [.inl 63, .inl (S_.2.2.1 194 0 k_.toNat)], S_)) rfl ?_
        refine sm_T_bin (w := ((S_.2.2.1 194 0 k_.toNat) % 64)) rfl (bi_msk (k := 6) (by decide)) ?_ -- pc_ 83
        refine sm_T_go 4 (c1 := (92, [some (.inr (.inr (some (13, 0)))), some (.inl ip_), some (.inl bA_), some (.inl bB_), some (.inl mn), some (.inl k_), some (.inl ((S_.2.2.1 194 0 k_.toNat) % 64)), none, none, none], [.inl k_, .inr (.inr (some (194, 0)))], S_)) rfl ?_
        refine sm_T_iald (n := 4096) rfl rfl (by omega) (by omega) ?_
        refine sm_T_go 1 (c1 := (95, [some (.inr (.inr (some (13, 0)))), some (.inl ip_), some (.inl bA_), some (.inl bB_), some (.inl mn), some (.inl k_), some (.inl ((S_.2.2.1 194 0 k_.toNat) % 64)), none, none, none], [.inl 6, .inl (S_.2.2.1 194 0 k_.toNat)], S_)) rfl ?_
        refine sm_T_bin (w := ((S_.2.2.1 194 0 k_.toNat) / 64)) rfl (bi_shr (k := 6) (by decide) (by omega) (by omega)) ?_ -- pc_ 95
        refine sm_T_go 3 (c1 := (101, [some (.inr (.inr (some (13, 0)))), some (.inl ip_), some (.inl bA_), some (.inl bB_), some (.inl mn), some (.inl k_), some (.inl ((S_.2.2.1 194 0 k_.toNat) % 64)), some (.inl ((S_.2.2.1 194 0 k_.toNat) / 64)), some (.inl 0), none], [], S_)) rfl ?_
        refine ih_.2.2 mn k_ ((S_.2.2.1 194 0 k_.toNat) % 64) ((S_.2.2.1 194 0 k_.toNat) / 64) 0 S_ hI_ hF_ ⟨?_, ?_, ?_, ?_, trivial⟩ ?_
        · exact hq_
        · exact hc_
        · omega
        · omega
        · omega
    · rintro mn k_ a_ b_ i_ S_ hI_ hF_ ⟨hq_, hc_, h0_, h2_, -⟩ hm_
      have w1_ := pw_le (n := sA_) (m := 6) (by omega)
      have w2_ := pw_le (n := sB_) (m := 6) (by omega)
      have w3_ := pw_pos sA_
      have w4_ := pw_pos sB_
      have w5_ := pw_le (n := ip_.toNat) (m := 12) (by omega)
      have w6_ := pw_pos ip_.toNat
      have f191_ : S_.2.2.1 191 0 = S0_.2.2.1 191 0 := fr_arr hF_ rfl
      have f193_ : S_.2.2.1 193 0 = S0_.2.2.1 193 0 := fr_arr hF_ rfl
      have cl9_ := cn1_le (S_.2.2.1 198 0) 4096
      have s9_ := i_shl1 (e := ip_) (by omega) (by omega)
      refine sm_T_go 3 (c1 := (105, [some (.inr (.inr (some (13, 0)))), some (.inl ip_), some (.inl bA_), some (.inl bB_), some (.inl mn), some (.inl k_), some (.inl a_), some (.inl b_), some (.inl i_), none], [.inl ip_, .inl 1, .inl i_], S_)) rfl ?_
      refine sm_T_bin (w := (i_shl 1 ip_)) rfl rfl ?_ -- pc_ 105
      refine sm_T_br (a := 3) (z := 139) rfl (fun cx1_ => ?_) (fun cx1_ => ?_)
      · have cx1_ : (i_shl 1 ip_) ≤ i_ := of_decide_eq_true cx1_
        refine sm_T_inc (a := 5) (z := 1) (v := k_) (w := k_ + 1) rfl rfl (by omega) (by omega) (by omega) ?_ -- pc_ 245
        refine sm_T_go 1 (c1 := (67, [some (.inr (.inr (some (13, 0)))), some (.inl ip_), some (.inl bA_), some (.inl bB_), some (.inl mn), some (.inl (k_ + 1)), some (.inl a_), some (.inl b_), some (.inl i_), none], [], S_)) rfl ?_
        refine sm_T_wk [some (.inr (.inr (some (13, 0)))), some (.inl ip_), some (.inl bA_), some (.inl bB_), some (.inl mn), some (.inl (k_ + 1)), none, none, none, none] (by exact ⟨rfl, rfl, rfl, rfl, rfl, rfl, trivial⟩) ?_
        refine ih_.2.1 mn (k_ + 1) S_ hI_ hF_ ⟨?_, ?_, ?_, trivial⟩ ?_
        · exact hq_
        · exact hc_
        · omega
        · omega
      · have cx1_ : ¬ ((i_shl 1 ip_) ≤ i_) := of_decide_eq_false cx1_
        have p1_ := pat_c (s_ := a_) (i_ := i_) (R_ := sA_) (I_ := ip_.toNat) (by omega) (by omega) (by omega)
        have p2_ := pat_c (s_ := b_) (i_ := i_) (R_ := sB_) (I_ := ip_.toNat) (by omega) (by omega) (by omega)
        rw [show ((ip_.toNat : Nat) : Int) = ip_ by omega] at p1_ p2_
        have p3_ := pw_le (n := sA_ + ip_.toNat) (m := 12) (by omega)
        have p4_ := pw_le (n := sB_ + ip_.toNat) (m := 12) (by omega)
        have t1_ := htA_ (i_or i_ (i_shl a_ ip_)).toNat (pn_lt (by omega) (by rw [Nat.add_comm]; omega))
        have t2_ := htB_ (i_or i_ (i_shl b_ ip_)).toNat (pn_lt (by omega) (by rw [Nat.add_comm]; omega))
        rw [← f191_] at t1_
        rw [← f193_] at t2_
        have q9_ := hq_ k_.toNat (by omega)
        refine sm_T_go 5 (c1 := (118, [some (.inr (.inr (some (13, 0)))), some (.inl ip_), some (.inl bA_), some (.inl bB_), some (.inl mn), some (.inl k_), some (.inl a_), some (.inl b_), some (.inl i_), none], [.inl ip_, .inl a_, .inl i_, .inr (.inr (some (190, 0)))], S_)) rfl ?_
        refine sm_T_bin (w := (i_shl a_ ip_)) rfl rfl ?_ -- pc_ 118
        refine sm_T_bin (w := (i_or i_ (i_shl a_ ip_))) rfl rfl ?_ -- pc_ 119
        refine sm_T_iald (n := 4096) rfl rfl (by omega) (by omega) ?_
        have bx2_ : 0 ≤ S_.2.2.1 190 0 (i_or i_ (i_shl a_ ip_)).toNat ∧ S_.2.2.1 190 0 (i_or i_ (i_shl a_ ip_)).toNat ≤ 65535 := hI_.2 190 0 _
        refine sm_T_go 5 (c1 := (130, [some (.inr (.inr (some (13, 0)))), some (.inl ip_), some (.inl bA_), some (.inl bB_), some (.inl mn), some (.inl k_), some (.inl a_), some (.inl b_), some (.inl i_), none], [.inl ip_, .inl b_, .inl i_, .inr (.inr (some (192, 0))), .inl (S_.2.2.1 190 0 (i_or i_ (i_shl a_ ip_)).toNat)], S_)) rfl ?_
        refine sm_T_bin (w := (i_shl b_ ip_)) rfl rfl ?_ -- pc_ 130
        refine sm_T_bin (w := (i_or i_ (i_shl b_ ip_))) rfl rfl ?_ -- pc_ 131
        refine sm_T_iald (n := 4096) rfl rfl (by omega) (by omega) ?_
        have bx3_ : 0 ≤ S_.2.2.1 192 0 (i_or i_ (i_shl b_ ip_)).toNat ∧ S_.2.2.1 192 0 (i_or i_ (i_shl b_ ip_)).toNat ≤ 65535 := hI_.2 192 0 _
        refine sm_T_br (a := 0) (z := 12) rfl (fun cx4_ => ?_) (fun cx4_ => ?_)
        · have cx4_ : (S_.2.2.1 190 0 (i_or i_ (i_shl a_ ip_)).toNat) = (S_.2.2.1 192 0 (i_or i_ (i_shl b_ ip_)).toNat) := of_decide_eq_true cx4_
          refine sm_T_go 5 (c1 := (154, [some (.inr (.inr (some (13, 0)))), some (.inl ip_), some (.inl bA_), some (.inl bB_), some (.inl mn), some (.inl k_), some (.inl a_), some (.inl b_), some (.inl i_), none], [.inl ip_, .inl a_, .inl i_, .inr (.inr (some (191, 0)))], S_)) rfl ?_
          refine sm_T_bin (w := (i_shl a_ ip_)) rfl rfl ?_ -- pc_ 154
          refine sm_T_bin (w := (i_or i_ (i_shl a_ ip_))) rfl rfl ?_ -- pc_ 155
          refine sm_T_iald (n := 4096) rfl rfl (by omega) (by omega) ?_
          have bx5_ : 0 ≤ S_.2.2.1 191 0 (i_or i_ (i_shl a_ ip_)).toNat ∧ S_.2.2.1 191 0 (i_or i_ (i_shl a_ ip_)).toNat ≤ 63 := hI_.2 191 0 _
          refine sm_T_go 5 (c1 := (166, [some (.inr (.inr (some (13, 0)))), some (.inl ip_), some (.inl bA_), some (.inl bB_), some (.inl mn), some (.inl k_), some (.inl a_), some (.inl b_), some (.inl i_), none], [.inl ip_, .inl b_, .inl i_, .inr (.inr (some (193, 0))), .inl (S_.2.2.1 191 0 (i_or i_ (i_shl a_ ip_)).toNat)], S_)) rfl ?_
          refine sm_T_bin (w := (i_shl b_ ip_)) rfl rfl ?_ -- pc_ 166
          refine sm_T_bin (w := (i_or i_ (i_shl b_ ip_))) rfl rfl ?_ -- pc_ 167
          refine sm_T_iald (n := 4096) rfl rfl (by omega) (by omega) ?_
          have bx6_ : 0 ≤ S_.2.2.1 193 0 (i_or i_ (i_shl b_ ip_)).toNat ∧ S_.2.2.1 193 0 (i_or i_ (i_shl b_ ip_)).toNat ≤ 63 := hI_.2 193 0 _
          refine sm_T_go 1 (c1 := (171, [some (.inr (.inr (some (13, 0)))), some (.inl ip_), some (.inl bA_), some (.inl bB_), some (.inl mn), some (.inl k_), some (.inl a_), some (.inl b_), some (.inl i_), none], [.inl 6, .inl (S_.2.2.1 193 0 (i_or i_ (i_shl b_ ip_)).toNat), .inl (S_.2.2.1 191 0 (i_or i_ (i_shl a_ ip_)).toNat)], S_)) rfl ?_
          refine sm_T_bin (w := 64 * (S_.2.2.1 193 0 (i_or i_ (i_shl b_ ip_)).toNat)) rfl (bi_shl (k := 6) (by decide) (by omega) (by omega) (by omega)) ?_ -- pc_ 171
          refine sm_T_bin (w := (i_or (S_.2.2.1 191 0 (i_or i_ (i_shl a_ ip_)).toNat) (64 * (S_.2.2.1 193 0 (i_or i_ (i_shl b_ ip_)).toNat)))) rfl rfl ?_ -- pc_ 172
          have bx7_ := or64c (a_ := S_.2.2.1 193 0 (i_or i_ (i_shl b_ ip_)).toNat) (b_ := S_.2.2.1 191 0 (i_or i_ (i_shl a_ ip_)).toNat) (by omega) (by omega)
          refine sm_T_go 4 (c1 := (181, [some (.inr (.inr (some (13, 0)))), some (.inl ip_), some (.inl bA_), some (.inl bB_), some (.inl mn), some (.inl k_), some (.inl a_), some (.inl b_), some (.inl i_), some (.inl (i_or (S_.2.2.1 191 0 (i_or i_ (i_shl a_ ip_)).toNat) (64 * (S_.2.2.1 193 0 (i_or i_ (i_shl b_ ip_)).toNat))))], [.inl (i_or (S_.2.2.1 191 0 (i_or i_ (i_shl a_ ip_)).toNat) (64 * (S_.2.2.1 193 0 (i_or i_ (i_shl b_ ip_)).toNat))), .inr (.inr (some (198, 0)))], S_)) rfl ?_
          refine sm_T_zald (n := 4096) rfl rfl (by omega) (by omega) ?_
          have bx8_ : 0 ≤ S_.2.2.1 198 0 (i_or (S_.2.2.1 191 0 (i_or i_ (i_shl a_ ip_)).toNat) (64 * (S_.2.2.1 193 0 (i_or i_ (i_shl b_ ip_)).toNat))).toNat ∧ S_.2.2.1 198 0 (i_or (S_.2.2.1 191 0 (i_or i_ (i_shl a_ ip_)).toNat) (64 * (S_.2.2.1 193 0 (i_or i_ (i_shl b_ ip_)).toNat))).toNat ≤ 1 := hI_.2 198 0 _
          refine sm_T_b0 (a := 1) (z := 57) rfl (fun cx9_ => ?_) (fun cx9_ => ?_)
          · have cx9_ : (S_.2.2.1 198 0 (i_or (S_.2.2.1 191 0 (i_or i_ (i_shl a_ ip_)).toNat) (64 * (S_.2.2.1 193 0 (i_or i_ (i_shl b_ ip_)).toNat))).toNat) ≠ 0 := of_decide_eq_true cx9_
            refine sm_T_inc (a := 8) (z := 1) (v := i_) (w := i_ + 1) rfl rfl (by omega) (by omega) (by omega) ?_ -- pc_ 239
            refine sm_T_go 1 (c1 := (101, [some (.inr (.inr (some (13, 0)))), some (.inl ip_), some (.inl bA_), some (.inl bB_), some (.inl mn), some (.inl k_), some (.inl a_), some (.inl b_), some (.inl (i_ + 1)), some (.inl (i_or (S_.2.2.1 191 0 (i_or i_ (i_shl a_ ip_)).toNat) (64 * (S_.2.2.1 193 0 (i_or i_ (i_shl b_ ip_)).toNat))))], [], S_)) rfl ?_
            refine sm_T_wk [some (.inr (.inr (some (13, 0)))), some (.inl ip_), some (.inl bA_), some (.inl bB_), some (.inl mn), some (.inl k_), some (.inl a_), some (.inl b_), some (.inl (i_ + 1)), none] (by exact ⟨rfl, rfl, rfl, rfl, rfl, rfl, rfl, rfl, rfl, trivial⟩) ?_
            refine ih_.2.2 mn k_ a_ b_ (i_ + 1) S_ hI_ hF_ ⟨?_, ?_, ?_, ?_, trivial⟩ ?_
            · exact hq_
            · exact hc_
            · omega
            · omega
            · omega
          · have cx9_ : ¬ ((S_.2.2.1 198 0 (i_or (S_.2.2.1 191 0 (i_or i_ (i_shl a_ ip_)).toNat) (64 * (S_.2.2.1 193 0 (i_or i_ (i_shl b_ ip_)).toNat))).toNat) ≠ 0) := of_decide_eq_false cx9_
            have lt9_ := cn1_lt (f := S_.2.2.1 198 0) (j := (i_or (S_.2.2.1 191 0 (i_or i_ (i_shl a_ ip_)).toNat) (64 * (S_.2.2.1 193 0 (i_or i_ (i_shl b_ ip_)).toNat))).toNat) (by omega) (n := 4096) (by omega)
            refine sm_T_go 4 (c1 := (192, [some (.inr (.inr (some (13, 0)))), some (.inl ip_), some (.inl bA_), some (.inl bB_), some (.inl mn), some (.inl k_), some (.inl a_), some (.inl b_), some (.inl i_), some (.inl (i_or (S_.2.2.1 191 0 (i_or i_ (i_shl a_ ip_)).toNat) (64 * (S_.2.2.1 193 0 (i_or i_ (i_shl b_ ip_)).toNat))))], [.inl 1, .inl (i_or (S_.2.2.1 191 0 (i_or i_ (i_shl a_ ip_)).toNat) (64 * (S_.2.2.1 193 0 (i_or i_ (i_shl b_ ip_)).toNat))), .inr (.inr (some (198, 0)))], S_)) rfl ?_
            refine sm_T_zas1 (n := 4096) rfl rfl (by omega) (by omega) (by omega) ?_
            have hIx10_ : gi (sm_aI S_ 198 0 (i_or (S_.2.2.1 191 0 (i_or i_ (i_shl a_ ip_)).toNat) (64 * (S_.2.2.1 193 0 (i_or i_ (i_shl b_ ip_)).toNat))).toNat 1) := gi_aI hI_ (show 0 ≤ 1 ∧ 1 ≤ 1 from ⟨by omega, by omega⟩)
            have hFx11_ : ai_fr (sx_W vw_386) S0_ (sm_aI S_ 198 0 (i_or (S_.2.2.1 191 0 (i_or i_ (i_shl a_ ip_)).toNat) (64 * (S_.2.2.1 193 0 (i_or i_ (i_shl b_ ip_)).toNat))).toNat 1) := ai_fr_tr hF_ (ai_fr_aI rfl)
            refine sm_T_go 4 (c1 := (201, [some (.inr (.inr (some (13, 0)))), some (.inl ip_), some (.inl bA_), some (.inl bB_), some (.inl mn), some (.inl k_), some (.inl a_), some (.inl b_), some (.inl i_), some (.inl (i_or (S_.2.2.1 191 0 (i_or i_ (i_shl a_ ip_)).toNat) (64 * (S_.2.2.1 193 0 (i_or i_ (i_shl b_ ip_)).toNat))))], [.inl (i_or (S_.2.2.1 191 0 (i_or i_ (i_shl a_ ip_)).toNat) (64 * (S_.2.2.1 193 0 (i_or i_ (i_shl b_ ip_)).toNat))), .inl mn, .inr (.inr (some (194, 0)))], sm_aI S_ 198 0 (i_or (S_.2.2.1 191 0 (i_or i_ (i_shl a_ ip_)).toNat) (64 * (S_.2.2.1 193 0 (i_or i_ (i_shl b_ ip_)).toNat))).toNat 1)) rfl ?_
            refine sm_T_iast (n := 4096) rfl rfl (by omega) (by omega) ?_
            have hIx12_ : gi (sm_aI (sm_aI S_ 198 0 (i_or (S_.2.2.1 191 0 (i_or i_ (i_shl a_ ip_)).toNat) (64 * (S_.2.2.1 193 0 (i_or i_ (i_shl b_ ip_)).toNat))).toNat 1) 194 0 mn.toNat (i_or (S_.2.2.1 191 0 (i_or i_ (i_shl a_ ip_)).toNat) (64 * (S_.2.2.1 193 0 (i_or i_ (i_shl b_ ip_)).toNat)))) := gi_aI hIx10_ (show 0 ≤ (i_or (S_.2.2.1 191 0 (i_or i_ (i_shl a_ ip_)).toNat) (64 * (S_.2.2.1 193 0 (i_or i_ (i_shl b_ ip_)).toNat))) ∧ (i_or (S_.2.2.1 191 0 (i_or i_ (i_shl a_ ip_)).toNat) (64 * (S_.2.2.1 193 0 (i_or i_ (i_shl b_ ip_)).toNat))) ≤ 4095 from ⟨by omega, by omega⟩)
            have hFx13_ : ai_fr (sx_W vw_386) S0_ (sm_aI (sm_aI S_ 198 0 (i_or (S_.2.2.1 191 0 (i_or i_ (i_shl a_ ip_)).toNat) (64 * (S_.2.2.1 193 0 (i_or i_ (i_shl b_ ip_)).toNat))).toNat 1) 194 0 mn.toNat (i_or (S_.2.2.1 191 0 (i_or i_ (i_shl a_ ip_)).toNat) (64 * (S_.2.2.1 193 0 (i_or i_ (i_shl b_ ip_)).toNat)))) := ai_fr_tr hFx11_ (ai_fr_aI rfl)
            refine sm_T_go 4 (c1 := (210, [some (.inr (.inr (some (13, 0)))), some (.inl ip_), some (.inl bA_), some (.inl bB_), some (.inl mn), some (.inl k_), some (.inl a_), some (.inl b_), some (.inl i_), some (.inl (i_or (S_.2.2.1 191 0 (i_or i_ (i_shl a_ ip_)).toNat) (64 * (S_.2.2.1 193 0 (i_or i_ (i_shl b_ ip_)).toNat))))], [.inl k_, .inl mn, .inr (.inr (some (195, 0)))], sm_aI (sm_aI S_ 198 0 (i_or (S_.2.2.1 191 0 (i_or i_ (i_shl a_ ip_)).toNat) (64 * (S_.2.2.1 193 0 (i_or i_ (i_shl b_ ip_)).toNat))).toNat 1) 194 0 mn.toNat (i_or (S_.2.2.1 191 0 (i_or i_ (i_shl a_ ip_)).toNat) (64 * (S_.2.2.1 193 0 (i_or i_ (i_shl b_ ip_)).toNat))))) rfl ?_
            refine sm_T_iast (n := 4096) rfl rfl (by omega) (by omega) ?_
            have hIx14_ : gi (sm_aI (sm_aI (sm_aI S_ 198 0 (i_or (S_.2.2.1 191 0 (i_or i_ (i_shl a_ ip_)).toNat) (64 * (S_.2.2.1 193 0 (i_or i_ (i_shl b_ ip_)).toNat))).toNat 1) 194 0 mn.toNat (i_or (S_.2.2.1 191 0 (i_or i_ (i_shl a_ ip_)).toNat) (64 * (S_.2.2.1 193 0 (i_or i_ (i_shl b_ ip_)).toNat)))) 195 0 mn.toNat k_) := gi_aI hIx12_ (show 0 ≤ k_ ∧ k_ ≤ 4095 from ⟨by omega, by omega⟩)
            have hFx15_ : ai_fr (sx_W vw_386) S0_ (sm_aI (sm_aI (sm_aI S_ 198 0 (i_or (S_.2.2.1 191 0 (i_or i_ (i_shl a_ ip_)).toNat) (64 * (S_.2.2.1 193 0 (i_or i_ (i_shl b_ ip_)).toNat))).toNat 1) 194 0 mn.toNat (i_or (S_.2.2.1 191 0 (i_or i_ (i_shl a_ ip_)).toNat) (64 * (S_.2.2.1 193 0 (i_or i_ (i_shl b_ ip_)).toNat)))) 195 0 mn.toNat k_) := ai_fr_tr hFx13_ (ai_fr_aI rfl)
            refine sm_T_go 4 (c1 := (219, [some (.inr (.inr (some (13, 0)))), some (.inl ip_), some (.inl bA_), some (.inl bB_), some (.inl mn), some (.inl k_), some (.inl a_), some (.inl b_), some (.inl i_), some (.inl (i_or (S_.2.2.1 191 0 (i_or i_ (i_shl a_ ip_)).toNat) (64 * (S_.2.2.1 193 0 (i_or i_ (i_shl b_ ip_)).toNat))))], [.inl i_, .inl mn, .inr (.inr (some (196, 0)))], sm_aI (sm_aI (sm_aI S_ 198 0 (i_or (S_.2.2.1 191 0 (i_or i_ (i_shl a_ ip_)).toNat) (64 * (S_.2.2.1 193 0 (i_or i_ (i_shl b_ ip_)).toNat))).toNat 1) 194 0 mn.toNat (i_or (S_.2.2.1 191 0 (i_or i_ (i_shl a_ ip_)).toNat) (64 * (S_.2.2.1 193 0 (i_or i_ (i_shl b_ ip_)).toNat)))) 195 0 mn.toNat k_)) rfl ?_
            refine sm_T_iast (n := 4096) rfl rfl (by omega) (by omega) ?_
            have hIx16_ : gi (sm_aI (sm_aI (sm_aI (sm_aI S_ 198 0 (i_or (S_.2.2.1 191 0 (i_or i_ (i_shl a_ ip_)).toNat) (64 * (S_.2.2.1 193 0 (i_or i_ (i_shl b_ ip_)).toNat))).toNat 1) 194 0 mn.toNat (i_or (S_.2.2.1 191 0 (i_or i_ (i_shl a_ ip_)).toNat) (64 * (S_.2.2.1 193 0 (i_or i_ (i_shl b_ ip_)).toNat)))) 195 0 mn.toNat k_) 196 0 mn.toNat i_) := gi_aI hIx14_ (show 0 ≤ i_ ∧ i_ ≤ 4095 from ⟨by omega, by omega⟩)
            have hFx17_ : ai_fr (sx_W vw_386) S0_ (sm_aI (sm_aI (sm_aI (sm_aI S_ 198 0 (i_or (S_.2.2.1 191 0 (i_or i_ (i_shl a_ ip_)).toNat) (64 * (S_.2.2.1 193 0 (i_or i_ (i_shl b_ ip_)).toNat))).toNat 1) 194 0 mn.toNat (i_or (S_.2.2.1 191 0 (i_or i_ (i_shl a_ ip_)).toNat) (64 * (S_.2.2.1 193 0 (i_or i_ (i_shl b_ ip_)).toNat)))) 195 0 mn.toNat k_) 196 0 mn.toNat i_) := ai_fr_tr hFx15_ (ai_fr_aI rfl)
            refine sm_T_go 6 (c1 := (232, [some (.inr (.inr (some (13, 0)))), some (.inl ip_), some (.inl bA_), some (.inl bB_), some (.inl mn), some (.inl k_), some (.inl a_), some (.inl b_), some (.inl i_), some (.inl (i_or (S_.2.2.1 191 0 (i_or i_ (i_shl a_ ip_)).toNat) (64 * (S_.2.2.1 193 0 (i_or i_ (i_shl b_ ip_)).toNat))))], [.inl k_, .inr (.inr (some (197, 0))), .inl mn, .inr (.inr (some (197, 0)))], sm_aI (sm_aI (sm_aI (sm_aI S_ 198 0 (i_or (S_.2.2.1 191 0 (i_or i_ (i_shl a_ ip_)).toNat) (64 * (S_.2.2.1 193 0 (i_or i_ (i_shl b_ ip_)).toNat))).toNat 1) 194 0 mn.toNat (i_or (S_.2.2.1 191 0 (i_or i_ (i_shl a_ ip_)).toNat) (64 * (S_.2.2.1 193 0 (i_or i_ (i_shl b_ ip_)).toNat)))) 195 0 mn.toNat k_) 196 0 mn.toNat i_)) rfl ?_
            refine sm_T_iald (n := 4096) rfl rfl (by omega) (by omega) ?_
            have bx18_ : 0 ≤ S_.2.2.1 197 0 k_.toNat ∧ S_.2.2.1 197 0 k_.toNat ≤ 4095 := hI_.2 197 0 _
            refine sm_T_go 1 (c1 := (234, [some (.inr (.inr (some (13, 0)))), some (.inl ip_), some (.inl bA_), some (.inl bB_), some (.inl mn), some (.inl k_), some (.inl a_), some (.inl b_), some (.inl i_), some (.inl (i_or (S_.2.2.1 191 0 (i_or i_ (i_shl a_ ip_)).toNat) (64 * (S_.2.2.1 193 0 (i_or i_ (i_shl b_ ip_)).toNat))))], [.inl 1, .inl (S_.2.2.1 197 0 k_.toNat), .inl mn, .inr (.inr (some (197, 0)))], sm_aI (sm_aI (sm_aI (sm_aI S_ 198 0 (i_or (S_.2.2.1 191 0 (i_or i_ (i_shl a_ ip_)).toNat) (64 * (S_.2.2.1 193 0 (i_or i_ (i_shl b_ ip_)).toNat))).toNat 1) 194 0 mn.toNat (i_or (S_.2.2.1 191 0 (i_or i_ (i_shl a_ ip_)).toNat) (64 * (S_.2.2.1 193 0 (i_or i_ (i_shl b_ ip_)).toNat)))) 195 0 mn.toNat k_) 196 0 mn.toNat i_)) rfl ?_
            refine sm_T_bin (w := (S_.2.2.1 197 0 k_.toNat) + 1) rfl (bi_add (by omega) (by omega) (by omega)) ?_ -- pc_ 234
            refine sm_T_iast (n := 4096) rfl rfl (by omega) (by omega) ?_
            have hIx19_ : gi (sm_aI (sm_aI (sm_aI (sm_aI (sm_aI S_ 198 0 (i_or (S_.2.2.1 191 0 (i_or i_ (i_shl a_ ip_)).toNat) (64 * (S_.2.2.1 193 0 (i_or i_ (i_shl b_ ip_)).toNat))).toNat 1) 194 0 mn.toNat (i_or (S_.2.2.1 191 0 (i_or i_ (i_shl a_ ip_)).toNat) (64 * (S_.2.2.1 193 0 (i_or i_ (i_shl b_ ip_)).toNat)))) 195 0 mn.toNat k_) 196 0 mn.toNat i_) 197 0 mn.toNat ((S_.2.2.1 197 0 k_.toNat) + 1)) := gi_aI hIx16_ (show 0 ≤ (S_.2.2.1 197 0 k_.toNat) + 1 ∧ (S_.2.2.1 197 0 k_.toNat) + 1 ≤ 4095 from ⟨by omega, by omega⟩)
            have hFx20_ : ai_fr (sx_W vw_386) S0_ (sm_aI (sm_aI (sm_aI (sm_aI (sm_aI S_ 198 0 (i_or (S_.2.2.1 191 0 (i_or i_ (i_shl a_ ip_)).toNat) (64 * (S_.2.2.1 193 0 (i_or i_ (i_shl b_ ip_)).toNat))).toNat 1) 194 0 mn.toNat (i_or (S_.2.2.1 191 0 (i_or i_ (i_shl a_ ip_)).toNat) (64 * (S_.2.2.1 193 0 (i_or i_ (i_shl b_ ip_)).toNat)))) 195 0 mn.toNat k_) 196 0 mn.toNat i_) 197 0 mn.toNat ((S_.2.2.1 197 0 k_.toNat) + 1)) := ai_fr_tr hFx17_ (ai_fr_aI rfl)
            refine sm_T_inc (a := 4) (z := 1) (v := mn) (w := mn + 1) rfl rfl (by omega) (by omega) (by omega) ?_ -- pc_ 236
            refine sm_T_inc (a := 8) (z := 1) (v := i_) (w := i_ + 1) rfl rfl (by omega) (by omega) (by omega) ?_ -- pc_ 239
            refine sm_T_go 1 (c1 := (101, [some (.inr (.inr (some (13, 0)))), some (.inl ip_), some (.inl bA_), some (.inl bB_), some (.inl (mn + 1)), some (.inl k_), some (.inl a_), some (.inl b_), some (.inl (i_ + 1)), some (.inl (i_or (S_.2.2.1 191 0 (i_or i_ (i_shl a_ ip_)).toNat) (64 * (S_.2.2.1 193 0 (i_or i_ (i_shl b_ ip_)).toNat))))], [], sm_aI (sm_aI (sm_aI (sm_aI (sm_aI S_ 198 0 (i_or (S_.2.2.1 191 0 (i_or i_ (i_shl a_ ip_)).toNat) (64 * (S_.2.2.1 193 0 (i_or i_ (i_shl b_ ip_)).toNat))).toNat 1) 194 0 mn.toNat (i_or (S_.2.2.1 191 0 (i_or i_ (i_shl a_ ip_)).toNat) (64 * (S_.2.2.1 193 0 (i_or i_ (i_shl b_ ip_)).toNat)))) 195 0 mn.toNat k_) 196 0 mn.toNat i_) 197 0 mn.toNat ((S_.2.2.1 197 0 k_.toNat) + 1))) rfl ?_
            refine sm_T_wk [some (.inr (.inr (some (13, 0)))), some (.inl ip_), some (.inl bA_), some (.inl bB_), some (.inl (mn + 1)), some (.inl k_), some (.inl a_), some (.inl b_), some (.inl (i_ + 1)), none] (by exact ⟨rfl, rfl, rfl, rfl, rfl, rfl, rfl, rfl, rfl, trivial⟩) ?_
            refine ih_.2.2 (mn + 1) k_ a_ b_ (i_ + 1) (sm_aI (sm_aI (sm_aI (sm_aI (sm_aI S_ 198 0 (i_or (S_.2.2.1 191 0 (i_or i_ (i_shl a_ ip_)).toNat) (64 * (S_.2.2.1 193 0 (i_or i_ (i_shl b_ ip_)).toNat))).toNat 1) 194 0 mn.toNat (i_or (S_.2.2.1 191 0 (i_or i_ (i_shl a_ ip_)).toNat) (64 * (S_.2.2.1 193 0 (i_or i_ (i_shl b_ ip_)).toNat)))) 195 0 mn.toNat k_) 196 0 mn.toNat i_) 197 0 mn.toNat ((S_.2.2.1 197 0 k_.toNat) + 1)) hIx19_ hFx20_ ⟨?_, ?_, ?_, ?_, trivial⟩ ?_
            · obtain ⟨NN_, hNN_⟩ : ∃ NN_, NN_ = i_or (S_.2.2.1 191 0 (i_or i_ (i_shl a_ ip_)).toNat) (64 * (S_.2.2.1 193 0 (i_or i_ (i_shl b_ ip_)).toNat)) := ⟨_, rfl⟩
              have g9_ : 0 ≤ NN_ ∧ NN_ ≤ 4095 ∧ NN_ % 64 < 2 ^ sA_ ∧ NN_ / 64 < 2 ^ sB_ := by (rw [hNN_]; omega)
              have x9_ : S_.2.2.1 198 0 NN_.toNat ≠ 1 := by (rw [hNN_]; omega)
              have r1_ : ∀ j9_, ((sm_aI (sm_aI (sm_aI (sm_aI (sm_aI S_ 198 0 (i_or (S_.2.2.1 191 0 (i_or i_ (i_shl a_ ip_)).toNat) (64 * (S_.2.2.1 193 0 (i_or i_ (i_shl b_ ip_)).toNat))).toNat 1) 194 0 mn.toNat (i_or (S_.2.2.1 191 0 (i_or i_ (i_shl a_ ip_)).toNat) (64 * (S_.2.2.1 193 0 (i_or i_ (i_shl b_ ip_)).toNat)))) 195 0 mn.toNat k_) 196 0 mn.toNat i_) 197 0 mn.toNat ((S_.2.2.1 197 0 k_.toNat) + 1))).2.2.1 194 0 j9_ = if j9_ = mn.toNat then NN_ else S_.2.2.1 194 0 j9_ := fun j9_ => by (rw [rd_ne (by decide), rd_ne (by decide), rd_ne (by decide), rd_eq, rd_ne (by decide), hNN_])
              have r2_ : ∀ j9_, ((sm_aI (sm_aI (sm_aI (sm_aI (sm_aI S_ 198 0 (i_or (S_.2.2.1 191 0 (i_or i_ (i_shl a_ ip_)).toNat) (64 * (S_.2.2.1 193 0 (i_or i_ (i_shl b_ ip_)).toNat))).toNat 1) 194 0 mn.toNat (i_or (S_.2.2.1 191 0 (i_or i_ (i_shl a_ ip_)).toNat) (64 * (S_.2.2.1 193 0 (i_or i_ (i_shl b_ ip_)).toNat)))) 195 0 mn.toNat k_) 196 0 mn.toNat i_) 197 0 mn.toNat ((S_.2.2.1 197 0 k_.toNat) + 1))).2.2.1 198 0 j9_ = if j9_ = NN_.toNat then 1 else S_.2.2.1 198 0 j9_ := fun j9_ => by (rw [rd_ne (by decide), rd_ne (by decide), rd_ne (by decide), rd_ne (by decide), rd_eq, hNN_])
              have r3_ : ∀ j9_, ((sm_aI (sm_aI (sm_aI (sm_aI (sm_aI S_ 198 0 (i_or (S_.2.2.1 191 0 (i_or i_ (i_shl a_ ip_)).toNat) (64 * (S_.2.2.1 193 0 (i_or i_ (i_shl b_ ip_)).toNat))).toNat 1) 194 0 mn.toNat (i_or (S_.2.2.1 191 0 (i_or i_ (i_shl a_ ip_)).toNat) (64 * (S_.2.2.1 193 0 (i_or i_ (i_shl b_ ip_)).toNat)))) 195 0 mn.toNat k_) 196 0 mn.toNat i_) 197 0 mn.toNat ((S_.2.2.1 197 0 k_.toNat) + 1))).2.2.1 197 0 j9_ = if j9_ = mn.toNat then S_.2.2.1 197 0 k_.toNat + 1 else S_.2.2.1 197 0 j9_ := fun j9_ => by (rw [rd_eq, rd_ne (by decide), rd_ne (by decide), rd_ne (by decide), rd_ne (by decide)])
              intro j9_ hj9_
              by_cases z9_ : j9_ = mn.toNat
              · rw [r1_, r3_, if_pos z9_, if_pos z9_]; exact ⟨by omega, by omega, by omega⟩
              · rw [r1_, r3_, if_neg z9_, if_neg z9_]; exact hq_ j9_ (by omega)
            · obtain ⟨NN_, hNN_⟩ : ∃ NN_, NN_ = i_or (S_.2.2.1 191 0 (i_or i_ (i_shl a_ ip_)).toNat) (64 * (S_.2.2.1 193 0 (i_or i_ (i_shl b_ ip_)).toNat)) := ⟨_, rfl⟩
              have g9_ : 0 ≤ NN_ ∧ NN_ ≤ 4095 ∧ NN_ % 64 < 2 ^ sA_ ∧ NN_ / 64 < 2 ^ sB_ := by (rw [hNN_]; omega)
              have x9_ : S_.2.2.1 198 0 NN_.toNat ≠ 1 := by (rw [hNN_]; omega)
              have r1_ : ∀ j9_, ((sm_aI (sm_aI (sm_aI (sm_aI (sm_aI S_ 198 0 (i_or (S_.2.2.1 191 0 (i_or i_ (i_shl a_ ip_)).toNat) (64 * (S_.2.2.1 193 0 (i_or i_ (i_shl b_ ip_)).toNat))).toNat 1) 194 0 mn.toNat (i_or (S_.2.2.1 191 0 (i_or i_ (i_shl a_ ip_)).toNat) (64 * (S_.2.2.1 193 0 (i_or i_ (i_shl b_ ip_)).toNat)))) 195 0 mn.toNat k_) 196 0 mn.toNat i_) 197 0 mn.toNat ((S_.2.2.1 197 0 k_.toNat) + 1))).2.2.1 194 0 j9_ = if j9_ = mn.toNat then NN_ else S_.2.2.1 194 0 j9_ := fun j9_ => by (rw [rd_ne (by decide), rd_ne (by decide), rd_ne (by decide), rd_eq, rd_ne (by decide), hNN_])
              have r2_ : ∀ j9_, ((sm_aI (sm_aI (sm_aI (sm_aI (sm_aI S_ 198 0 (i_or (S_.2.2.1 191 0 (i_or i_ (i_shl a_ ip_)).toNat) (64 * (S_.2.2.1 193 0 (i_or i_ (i_shl b_ ip_)).toNat))).toNat 1) 194 0 mn.toNat (i_or (S_.2.2.1 191 0 (i_or i_ (i_shl a_ ip_)).toNat) (64 * (S_.2.2.1 193 0 (i_or i_ (i_shl b_ ip_)).toNat)))) 195 0 mn.toNat k_) 196 0 mn.toNat i_) 197 0 mn.toNat ((S_.2.2.1 197 0 k_.toNat) + 1))).2.2.1 198 0 j9_ = if j9_ = NN_.toNat then 1 else S_.2.2.1 198 0 j9_ := fun j9_ => by (rw [rd_ne (by decide), rd_ne (by decide), rd_ne (by decide), rd_ne (by decide), rd_eq, hNN_])
              have r3_ : ∀ j9_, ((sm_aI (sm_aI (sm_aI (sm_aI (sm_aI S_ 198 0 (i_or (S_.2.2.1 191 0 (i_or i_ (i_shl a_ ip_)).toNat) (64 * (S_.2.2.1 193 0 (i_or i_ (i_shl b_ ip_)).toNat))).toNat 1) 194 0 mn.toNat (i_or (S_.2.2.1 191 0 (i_or i_ (i_shl a_ ip_)).toNat) (64 * (S_.2.2.1 193 0 (i_or i_ (i_shl b_ ip_)).toNat)))) 195 0 mn.toNat k_) 196 0 mn.toNat i_) 197 0 mn.toNat ((S_.2.2.1 197 0 k_.toNat) + 1))).2.2.1 197 0 j9_ = if j9_ = mn.toNat then S_.2.2.1 197 0 k_.toNat + 1 else S_.2.2.1 197 0 j9_ := fun j9_ => by (rw [rd_eq, rd_ne (by decide), rd_ne (by decide), rd_ne (by decide), rd_ne (by decide)])
              have u9_ := cn1_up (f := S_.2.2.1 198 0) (g := ((sm_aI (sm_aI (sm_aI (sm_aI (sm_aI S_ 198 0 (i_or (S_.2.2.1 191 0 (i_or i_ (i_shl a_ ip_)).toNat) (64 * (S_.2.2.1 193 0 (i_or i_ (i_shl b_ ip_)).toNat))).toNat 1) 194 0 mn.toNat (i_or (S_.2.2.1 191 0 (i_or i_ (i_shl a_ ip_)).toNat) (64 * (S_.2.2.1 193 0 (i_or i_ (i_shl b_ ip_)).toNat)))) 195 0 mn.toNat k_) 196 0 mn.toNat i_) 197 0 mn.toNat ((S_.2.2.1 197 0 k_.toNat) + 1))).2.2.1 198 0) (j := NN_.toNat) x9_ (by rw [r2_, if_pos rfl]) (fun k9_ hk9_ => by rw [r2_, if_neg hk9_]) (n := 4096) (by omega)
              rw [u9_]
              push_cast
              omega
            · omega
            · omega
            · omega
        · have cx4_ : ¬ ((S_.2.2.1 190 0 (i_or i_ (i_shl a_ ip_)).toNat) = (S_.2.2.1 192 0 (i_or i_ (i_shl b_ ip_)).toNat)) := of_decide_eq_false cx4_
          refine sm_T_go 3 (c1 := (141, [some (.inr (.inr (some (13, 0)))), some (.inl ip_), some (.inl bA_), some (.inl bB_), some (.inl mn), some (.inl k_), some (.inl a_), some (.inl b_), some (.inl i_), none], [.inl i_, .inl k_, .inr (.inr (some (13, 0)))], S_)) rfl ?_
          refine sm_T_cal (d1 := 0) (Q1 := vq_385 k_ i_ S_) rfl rfl (by decide) (vc_385 k_ i_ S_ hI_ (by omega) (by omega)) (fun u_ Sx21_ px24_ => ?_)
          obtain ⟨vx26_, rfl, hIx22_, hFx23_, px24_⟩ := px24_
          have hFx25_ : ai_fr (sx_W vw_386) S0_ Sx21_ := ai_fr_tr hF_ (fr_le hFx23_ rfl)
          refine sm_T_ri rfl ⟨_, _, rfl, _, rfl, hIx22_, hFx25_, ?_⟩
          omega
set_option maxHeartbeats 2000000 in
set_option maxRecDepth 20000 in
theorem vc_386 {sc_ : Nat × (Nat → Int)} (ip_ : Int) (bA_ : Int) (bB_ : Int) (sA_ : Nat) (sB_ : Nat) (S0_ : sm_S) (hI_ : gi S0_) (hi_ : 0 ≤ ip_ ∧ ip_ + sA_ ≤ 12 ∧ ip_ + sB_ ≤ 12 ∧ sA_ ≤ 6 ∧ sB_ ≤ 6) (hbA_ : 0 ≤ bA_ ∧ bA_ < 2 ^ sA_) (hbB_ : 0 ≤ bB_ ∧ bB_ < 2 ^ sB_) (htA_ : ∀ p9_ : Nat, p9_ < 2 ^ (ip_.toNat + sA_) → 0 ≤ S0_.2.2.1 191 0 p9_ ∧ S0_.2.2.1 191 0 p9_ < 2 ^ sA_) (htB_ : ∀ p9_ : Nat, p9_ < 2 ^ (ip_.toNat + sB_) → 0 ≤ S0_.2.2.1 193 0 p9_ ∧ S0_.2.2.1 193 0 p9_ < 2 ^ sB_) : sm_T (mt_P sc_) 1 386 (0, [some (.inr (.inr (some (13, 0)))), some (.inl ip_), some (.inl bA_), some (.inl bB_), none, none, none, none, none, none], [], S0_) (fun ro9_ => ∃ u_ S1_, ro9_ = (.inl u_, S1_, 0) ∧ vq_386 ip_ bA_ bB_ sA_ sB_ S0_ u_ S1_) := by
  have hF_ : ai_fr (sx_W vw_386) S0_ S0_ := ai_fr_rf
  have w1_ := pw_le (n := sA_) (m := 6) (by omega)
  have w2_ := pw_le (n := sB_) (m := 6) (by omega)
  have w3_ := pw_pos sA_
  have w4_ := pw_pos sB_
  have w5_ := pw_le (n := ip_.toNat) (m := 12) (by omega)
  have w6_ := pw_pos ip_.toNat
  have hIx1_ : gi (sm_pI S0_ 13 0 95 0) := gi_pI hI_ (show 0 ≤ 0 ∧ 0 ≤ 4097 from ⟨by omega, by omega⟩)
  have hFx2_ : ai_fr (sx_W vw_386) S0_ (sm_pI S0_ 13 0 95 0) := ai_fr_tr hF_ (ai_fr_pI rfl)
  refine sm_T_go 5 (c1 := (8, [some (.inr (.inr (some (13, 0)))), some (.inl ip_), some (.inl bA_), some (.inl bB_), some (.inl 0), none, none, none, none, none], [], sm_pI S0_ 13 0 95 0)) rfl ?_
  refine (vl_386 ip_ bA_ bB_ sA_ sB_ S0_ hi_ hbA_ hbB_ htA_ htB_ _).1 0 (sm_pI S0_ 13 0 95 0) hIx1_ hFx2_ ⟨?_, ?_, trivial⟩ (Nat.lt_succ_self _)
  · omega
  · (intro j9_ hj9_; exfalso; omega)
/-! M_.equal -/
def vw_389 : sx_Wl := ([(13, 0), (13, 95)], [189, 190, 191, 192, 193, 194, 195, 196, 197, 198], [])
def vq_389 (a1_ : Int) (a2_ : Int) (S0_ : sm_S) (u_ : Option sm_V) (S1_ : sm_S) : Prop := ∃ v_ : Int, u_ = some (.inl v_) ∧ gi S1_ ∧ ai_fr (sx_W vw_389) S0_ S1_ ∧ (((-2147483648) ≤ v_ ∧ v_ ≤ 2147483647) ∧ (jR S1_))
set_option maxHeartbeats 400000 in
set_option maxRecDepth 20000 in
theorem vc_389 {sc_ : Nat × (Nat → Int)} (a1_ : Int) (a2_ : Int) (S0_ : sm_S) (hI_ : gi S0_) (ha1_ : (-2147483648) ≤ a1_ ∧ a1_ ≤ 2147483647) (ha2_ : (-2147483648) ≤ a2_ ∧ a2_ ≤ 2147483647) (hJ_ : jR S0_) : sm_T (mt_P sc_) 2 389 (0, [some (.inr (.inr (some (13, 0)))), some (.inl a1_), some (.inl a2_)], [], S0_) (fun ro9_ => ∃ u_ S1_, ro9_ = (.inl u_, S1_, 0) ∧ vq_389 a1_ a2_ S0_ u_ S1_) := by
  have hF_ : ai_fr (sx_W vw_389) S0_ S0_ := ai_fr_rf
  refine sm_T_go 3 (c1 := (3, [some (.inr (.inr (some (13, 0)))), some (.inl a1_), some (.inl a2_)], [.inl a1_, .inr (.inr (some (13, 0))), .inr (.inr (some (13, 0)))], S0_)) rfl ?_
  refine sm_T_cal (d1 := 0) (Q1 := vq_369 a1_ S0_) rfl rfl (by decide) (vc_369 a1_ S0_ hI_ (by omega)) (fun u_ Sx1_ px4_ => ?_)
  obtain ⟨rfl, vx6_, rfl, px4_⟩ := px4_
  have d3_ := px4_
  refine sm_T_b0 (a := 0) (z := 11) rfl (fun cx7_ => ?_) (fun cx7_ => ?_)
  · have cx7_ : vx6_ = 0 := of_decide_eq_true cx7_
    have hIx8_ : gi (sm_pI S0_ 13 0 0 1) := gi_pI hI_ (show 0 ≤ 1 ∧ 1 ≤ 4 from ⟨by omega, by omega⟩)
    have hFx9_ : ai_fr (sx_W vw_389) S0_ (sm_pI S0_ 13 0 0 1) := ai_fr_tr hF_ (ai_fr_pI rfl)
    refine sm_T_go 7 (c1 := (67, [some (.inr (.inr (some (13, 0)))), some (.inl a1_), some (.inl a2_)], [.inl 0], sm_pI S0_ 13 0 0 1)) rfl ?_
    refine sm_T_ri rfl ⟨_, _, rfl, _, rfl, hIx8_, hFx9_, ?_⟩
    refine ⟨⟨by omega, by omega⟩, jR_fr hJ_ hIx8_ hFx9_⟩
  · have cx7_ : ¬ (vx6_ = 0) := of_decide_eq_false cx7_
    refine sm_T_go 2 (c1 := (11, [some (.inr (.inr (some (13, 0)))), some (.inl a1_), some (.inl a2_)], [.inl a2_, .inr (.inr (some (13, 0))), .inr (.inr (some (13, 0)))], S0_)) rfl ?_
    refine sm_T_cal (d1 := 0) (Q1 := vq_369 a2_ S0_) rfl rfl (by decide) (vc_369 a2_ S0_ hI_ (by omega)) (fun u_ Sx10_ px13_ => ?_)
    obtain ⟨rfl, vx15_, rfl, px13_⟩ := px13_
    have d11_ := px13_
    refine sm_T_b0 (a := 1) (z := 7) rfl (fun cx16_ => ?_) (fun cx16_ => ?_)
    · have cx16_ : vx15_ ≠ 0 := of_decide_eq_true cx16_
      refine sm_T_go 3 (c1 := (26, [some (.inr (.inr (some (13, 0)))), some (.inl a1_), some (.inl a2_)], [.inl a1_, .inr (.inr (some (154, 0))), .inr (.inr (some (13, 0)))], S0_)) rfl ?_
      refine sm_T_iald (n := 6) rfl rfl (by omega) (by omega) ?_
      have bx17_ : 0 ≤ S0_.2.2.1 154 0 a1_.toNat ∧ S0_.2.2.1 154 0 a1_.toNat ≤ 12 := hI_.2 154 0 _
      refine sm_T_go 3 (c1 := (32, [some (.inr (.inr (some (13, 0)))), some (.inl a1_), some (.inl a2_)], [.inl a2_, .inr (.inr (some (154, 0))), .inl (S0_.2.2.1 154 0 a1_.toNat), .inr (.inr (some (13, 0)))], S0_)) rfl ?_
      refine sm_T_iald (n := 6) rfl rfl (by omega) (by omega) ?_
      have bx18_ : 0 ≤ S0_.2.2.1 154 0 a2_.toNat ∧ S0_.2.2.1 154 0 a2_.toNat ≤ 12 := hI_.2 154 0 _
      refine sm_T_br (a := 1) (z := 18) rfl (fun cx19_ => ?_) (fun cx19_ => ?_)
      · have cx19_ : (S0_.2.2.1 154 0 a1_.toNat) ≠ (S0_.2.2.1 154 0 a2_.toNat) := of_decide_eq_true cx19_
        have hIx20_ : gi (sm_pI S0_ 13 0 0 2) := gi_pI hI_ (show 0 ≤ 2 ∧ 2 ≤ 4 from ⟨by omega, by omega⟩)
        have hFx21_ : ai_fr (sx_W vw_389) S0_ (sm_pI S0_ 13 0 0 2) := ai_fr_tr hF_ (ai_fr_pI rfl)
        refine sm_T_go 7 (c1 := (67, [some (.inr (.inr (some (13, 0)))), some (.inl a1_), some (.inl a2_)], [.inl 0], sm_pI S0_ 13 0 0 2)) rfl ?_
        refine sm_T_ri rfl ⟨_, _, rfl, _, rfl, hIx20_, hFx21_, ?_⟩
        refine ⟨⟨by omega, by omega⟩, jR_fr hJ_ hIx20_ hFx21_⟩
      · have cx19_ : ¬ ((S0_.2.2.1 154 0 a1_.toNat) ≠ (S0_.2.2.1 154 0 a2_.toNat)) := of_decide_eq_false cx19_
        refine sm_T_go 3 (c1 := (41, [some (.inr (.inr (some (13, 0)))), some (.inl a1_), some (.inl a2_)], [.inl a1_, .inr (.inr (some (156, 0))), .inr (.inr (some (13, 0)))], S0_)) rfl ?_
        refine sm_T_iald (n := 6) rfl rfl (by omega) (by omega) ?_
        have bx22_ : 0 ≤ S0_.2.2.1 156 0 a1_.toNat ∧ S0_.2.2.1 156 0 a1_.toNat ≤ 16 := hI_.2 156 0 _
        refine sm_T_go 3 (c1 := (47, [some (.inr (.inr (some (13, 0)))), some (.inl a1_), some (.inl a2_)], [.inl a2_, .inr (.inr (some (156, 0))), .inl (S0_.2.2.1 156 0 a1_.toNat), .inr (.inr (some (13, 0)))], S0_)) rfl ?_
        refine sm_T_iald (n := 6) rfl rfl (by omega) (by omega) ?_
        have bx23_ : 0 ≤ S0_.2.2.1 156 0 a2_.toNat ∧ S0_.2.2.1 156 0 a2_.toNat ≤ 16 := hI_.2 156 0 _
        refine sm_T_br (a := 0) (z := 7) rfl (fun cx24_ => ?_) (fun cx24_ => ?_)
        · have cx24_ : (S0_.2.2.1 156 0 a1_.toNat) = (S0_.2.2.1 156 0 a2_.toNat) := of_decide_eq_true cx24_
          have Da1_ : dRk a1_.toNat S0_ := hJ_.1 a1_.toNat (by omega) (by omega)
          have Da2_ : dRk a2_.toNat S0_ := hJ_.1 a2_.toNat (by omega) (by omega)
          obtain ⟨Ja11_, Ja12_, Ja13_, Ja14_⟩ := dRk_b Da1_
          obtain ⟨Ja21_, Ja22_, Ja23_, Ja24_⟩ := dRk_b Da2_
          have hIx25_ : gi (sm_pI S0_ 13 0 0 0) := gi_pI hI_ (show 0 ≤ 0 ∧ 0 ≤ 4 from ⟨by omega, by omega⟩)
          have hFx26_ : ai_fr (sx_W vw_389) S0_ (sm_pI S0_ 13 0 0 0) := ai_fr_tr hF_ (ai_fr_pI rfl)
          refine sm_T_go 7 (c1 := (70, [some (.inr (.inr (some (13, 0)))), some (.inl a1_), some (.inl a2_)], [.inl a1_, .inr (.inr (some (13, 0)))], sm_pI S0_ 13 0 0 0)) rfl ?_
          refine sm_T_cal (d1 := 0) (Q1 := vq_387 a1_ (sm_pI S0_ 13 0 0 0)) rfl rfl (by decide) (vc_387 a1_ (sm_pI S0_ 13 0 0 0) hIx25_ (by omega) (by exact dRk_fr Da1_ hFx26_ (by decide))) (fun u_ Sx27_ px30_ => ?_)
          obtain ⟨rfl, hIx28_, hFx29_, px30_⟩ := px30_
          have hFx31_ : ai_fr (sx_W vw_389) S0_ Sx27_ := ai_fr_tr hFx26_ (fr_le hFx29_ rfl)
          have t70_ := px30_
          have g154_ : Sx27_.2.2.1 154 0 = S0_.2.2.1 154 0 := fr_arr hFx31_ rfl
          have g155_ : Sx27_.2.2.1 155 0 = S0_.2.2.1 155 0 := fr_arr hFx31_ rfl
          refine sm_T_go 2 (c1 := (75, [some (.inr (.inr (some (13, 0)))), some (.inl a1_), some (.inl a2_)], [.inl a2_, .inr (.inr (some (13, 0)))], Sx27_)) rfl ?_
          refine sm_T_cal (d1 := 0) (Q1 := vq_388 a2_ Sx27_) rfl rfl (by decide) (vc_388 a2_ Sx27_ hIx28_ (by omega) (by exact dRk_fr Da2_ hFx31_ (by decide))) (fun u_ Sx32_ px35_ => ?_)
          obtain ⟨rfl, hIx33_, hFx34_, px35_⟩ := px35_
          have hFx36_ : ai_fr (sx_W vw_389) S0_ Sx32_ := ai_fr_tr hFx31_ (fr_le hFx34_ rfl)
          have t75_ := px35_
          rw [g154_, g155_] at t75_
          have n75_ : Sx32_.2.2.1 191 0 = _ := fr_arr hFx34_ rfl
          have ea1154_ : Sx32_.2.2.1 154 0 a1_.toNat = S0_.2.2.1 154 0 a1_.toNat := congrFun (fr_arr hFx36_ rfl) _
          have ea1155_ : Sx32_.2.2.1 155 0 a1_.toNat = S0_.2.2.1 155 0 a1_.toNat := congrFun (fr_arr hFx36_ rfl) _
          have ea1157_ : Sx32_.2.2.1 157 0 a1_.toNat = S0_.2.2.1 157 0 a1_.toNat := congrFun (fr_arr hFx36_ rfl) _
          have ea2154_ : Sx32_.2.2.1 154 0 a2_.toNat = S0_.2.2.1 154 0 a2_.toNat := congrFun (fr_arr hFx36_ rfl) _
          have ea2155_ : Sx32_.2.2.1 155 0 a2_.toNat = S0_.2.2.1 155 0 a2_.toNat := congrFun (fr_arr hFx36_ rfl) _
          have ea2157_ : Sx32_.2.2.1 157 0 a2_.toNat = S0_.2.2.1 157 0 a2_.toNat := congrFun (fr_arr hFx36_ rfl) _
          refine sm_T_go 4 (c1 := (84, [some (.inr (.inr (some (13, 0)))), some (.inl a1_), some (.inl a2_)], [.inl a1_, .inr (.inr (some (154, 0))), .inr (.inr (some (13, 0)))], Sx32_)) rfl ?_
          refine sm_T_iald (n := 6) rfl rfl (by omega) (by omega) ?_
          have bx37_ : 0 ≤ Sx32_.2.2.1 154 0 a1_.toNat ∧ Sx32_.2.2.1 154 0 a1_.toNat ≤ 12 := hIx33_.2 154 0 _
          refine sm_T_go 3 (c1 := (90, [some (.inr (.inr (some (13, 0)))), some (.inl a1_), some (.inl a2_)], [.inl a1_, .inr (.inr (some (157, 0))), .inl (Sx32_.2.2.1 154 0 a1_.toNat), .inr (.inr (some (13, 0)))], Sx32_)) rfl ?_
          refine sm_T_iald (n := 6) rfl rfl (by omega) (by omega) ?_
          have bx38_ : 0 ≤ Sx32_.2.2.1 157 0 a1_.toNat ∧ Sx32_.2.2.1 157 0 a1_.toNat ≤ 63 := hIx33_.2 157 0 _
          refine sm_T_go 3 (c1 := (96, [some (.inr (.inr (some (13, 0)))), some (.inl a1_), some (.inl a2_)], [.inl a2_, .inr (.inr (some (157, 0))), .inl (Sx32_.2.2.1 157 0 a1_.toNat), .inl (Sx32_.2.2.1 154 0 a1_.toNat), .inr (.inr (some (13, 0)))], Sx32_)) rfl ?_
          refine sm_T_iald (n := 6) rfl rfl (by omega) (by omega) ?_
          have bx39_ : 0 ≤ Sx32_.2.2.1 157 0 a2_.toNat ∧ Sx32_.2.2.1 157 0 a2_.toNat ≤ 63 := hIx33_.2 157 0 _
          refine sm_T_cal (d1 := 1) (Q1 := vq_386 (Sx32_.2.2.1 154 0 a1_.toNat) (Sx32_.2.2.1 157 0 a1_.toNat) (Sx32_.2.2.1 157 0 a2_.toNat) (S0_.2.2.1 155 0 a1_.toNat).toNat (S0_.2.2.1 155 0 a2_.toNat).toNat Sx32_) rfl rfl (by decide) (vc_386 (Sx32_.2.2.1 154 0 a1_.toNat) (Sx32_.2.2.1 157 0 a1_.toNat) (Sx32_.2.2.1 157 0 a2_.toNat) (S0_.2.2.1 155 0 a1_.toNat).toNat (S0_.2.2.1 155 0 a2_.toNat).toNat Sx32_ hIx33_ (by omega) (by (rw [ea1157_]; exact Ja12_)) (by (rw [ea2157_]; exact Ja22_)) (by (rw [ea1154_, n75_]; exact t70_)) (by (rw [ea1154_, show S0_.2.2.1 154 0 a1_.toNat = S0_.2.2.1 154 0 a2_.toNat by omega]; exact t75_))) (fun u_ Sx40_ px43_ => ?_)
          obtain ⟨vx45_, rfl, hIx41_, hFx42_, px43_⟩ := px43_
          have hFx44_ : ai_fr (sx_W vw_389) S0_ Sx40_ := ai_fr_tr hFx36_ (fr_le hFx42_ rfl)
          refine sm_T_ri rfl ⟨_, _, rfl, _, rfl, hIx41_, hFx44_, ?_⟩
          refine ⟨⟨by omega, by omega⟩, jR_fr hJ_ hIx41_ hFx44_⟩
        · have cx24_ : ¬ ((S0_.2.2.1 156 0 a1_.toNat) = (S0_.2.2.1 156 0 a2_.toNat)) := of_decide_eq_false cx24_
          have hIx46_ : gi (sm_pI S0_ 13 0 0 2) := gi_pI hI_ (show 0 ≤ 2 ∧ 2 ≤ 4 from ⟨by omega, by omega⟩)
          have hFx47_ : ai_fr (sx_W vw_389) S0_ (sm_pI S0_ 13 0 0 2) := ai_fr_tr hF_ (ai_fr_pI rfl)
          refine sm_T_go 7 (c1 := (67, [some (.inr (.inr (some (13, 0)))), some (.inl a1_), some (.inl a2_)], [.inl 0], sm_pI S0_ 13 0 0 2)) rfl ?_
          refine sm_T_ri rfl ⟨_, _, rfl, _, rfl, hIx46_, hFx47_, ?_⟩
          refine ⟨⟨by omega, by omega⟩, jR_fr hJ_ hIx46_ hFx47_⟩
    · have cx16_ : ¬ (vx15_ ≠ 0) := of_decide_eq_false cx16_
      have hIx48_ : gi (sm_pI S0_ 13 0 0 1) := gi_pI hI_ (show 0 ≤ 1 ∧ 1 ≤ 4 from ⟨by omega, by omega⟩)
      have hFx49_ : ai_fr (sx_W vw_389) S0_ (sm_pI S0_ 13 0 0 1) := ai_fr_tr hF_ (ai_fr_pI rfl)
      refine sm_T_go 7 (c1 := (67, [some (.inr (.inr (some (13, 0)))), some (.inl a1_), some (.inl a2_)], [.inl 0], sm_pI S0_ 13 0 0 1)) rfl ?_
      refine sm_T_ri rfl ⟨_, _, rfl, _, rfl, hIx48_, hFx49_, ?_⟩
      refine ⟨⟨by omega, by omega⟩, jR_fr hJ_ hIx48_ hFx49_⟩
/-! M_.never -/
def vw_390 : sx_Wl := ([(13, 0), (13, 95)], [189, 190, 191, 192, 193, 194, 195, 196, 197, 198], [])
def vq_390 (a1_ : Int) (a2_ : Int) (S0_ : sm_S) (u_ : Option sm_V) (S1_ : sm_S) : Prop := ∃ v_ : Int, u_ = some (.inl v_) ∧ gi S1_ ∧ ai_fr (sx_W vw_390) S0_ S1_ ∧ ((-2147483648 ≤ v_ ∧ v_ ≤ 2147483647) ∧ jR S1_)
set_option maxHeartbeats 400000 in
set_option maxRecDepth 20000 in
theorem vl_390 {sc_ : Nat × (Nat → Int)} (a1_ : Int) (a2_ : Int) (S0_ : sm_S) (ha1_ : (-2147483648) ≤ a1_ ∧ a1_ ≤ 2147483647) (ha2_ : (-2147483648) ≤ a2_ ∧ a2_ ≤ 2147483647) (hJ_ : jR S0_) : ∀ nn_ : Nat, (∀ (p_ : Int) (S_ : sm_S), gi S_ → ai_fr (sx_W vw_390) S0_ S_ → ((0 ≤ a1_ ∧ a1_ < 6 ∧ 0 ≤ a2_ ∧ a2_ < 16 ∧ 0 ≤ p_ ∧ p_ ≤ 4096) ∧ (dRk a1_.toNat S0_) ∧ (∀ p9_ : Nat, p9_ < 2 ^ ((S0_.2.2.1 154 0 a1_.toNat).toNat + (S0_.2.2.1 155 0 a1_.toNat).toNat) → 0 ≤ S_.2.2.1 191 0 p9_ ∧ S_.2.2.1 191 0 p9_ < 2 ^ (S0_.2.2.1 155 0 a1_.toNat).toNat) ∧ (∀ p9_ : Nat, (p9_ : Int) < p_ → S_.2.2.1 193 0 p9_ = 0) ∧ True) → ((5000 - p_).toNat) < nn_ → sm_T (mt_P sc_) 2 390 (47, [some (.inr (.inr (some (13, 0)))), some (.inl a1_), some (.inl a2_), some (.inl p_)], [], S_) (fun ro9_ => ∃ u_ S1_, ro9_ = (.inl u_, S1_, 0) ∧ vq_390 a1_ a2_ S0_ u_ S1_)) := by
  intro nn_
  induction nn_ with
  | zero => exact fun _ _ _ _ _ h_ => absurd h_ (Nat.not_lt_zero _)
  | succ nn_ ih_ =>
    rintro p_ S_ hI_ hF_ ⟨h0_, hD_, h1_, h2_, -⟩ hm_
    obtain ⟨Ja11_, Ja12_, Ja13_, Ja14_⟩ := dRk_b hD_
    have ea1154_ : S_.2.2.1 154 0 a1_.toNat = S0_.2.2.1 154 0 a1_.toNat := congrFun (fr_arr hF_ rfl) _
    have ea1155_ : S_.2.2.1 155 0 a1_.toNat = S0_.2.2.1 155 0 a1_.toNat := congrFun (fr_arr hF_ rfl) _
    have ea1157_ : S_.2.2.1 157 0 a1_.toNat = S0_.2.2.1 157 0 a1_.toNat := congrFun (fr_arr hF_ rfl) _
    refine sm_T_go 2 (c1 := (51, [some (.inr (.inr (some (13, 0)))), some (.inl a1_), some (.inl a2_), some (.inl p_)], [.inl 4096, .inl p_], S_)) rfl ?_
    refine sm_T_br (a := 3) (z := 39) rfl (fun cx1_ => ?_) (fun cx1_ => ?_)
    · have cx1_ : 4096 ≤ p_ := of_decide_eq_true cx1_
      refine sm_T_go 4 (c1 := (96, [some (.inr (.inr (some (13, 0)))), some (.inl a1_), some (.inl a2_), some (.inl p_)], [.inl a1_, .inr (.inr (some (154, 0))), .inr (.inr (some (13, 0)))], S_)) rfl ?_
      refine sm_T_iald (n := 6) rfl rfl (by omega) (by omega) ?_
      have bx2_ : 0 ≤ S_.2.2.1 154 0 a1_.toNat ∧ S_.2.2.1 154 0 a1_.toNat ≤ 12 := hI_.2 154 0 _
      refine sm_T_go 3 (c1 := (102, [some (.inr (.inr (some (13, 0)))), some (.inl a1_), some (.inl a2_), some (.inl p_)], [.inl a1_, .inr (.inr (some (157, 0))), .inl (S_.2.2.1 154 0 a1_.toNat), .inr (.inr (some (13, 0)))], S_)) rfl ?_
      refine sm_T_iald (n := 6) rfl rfl (by omega) (by omega) ?_
      have bx3_ : 0 ≤ S_.2.2.1 157 0 a1_.toNat ∧ S_.2.2.1 157 0 a1_.toNat ≤ 63 := hI_.2 157 0 _
      refine sm_T_go 1 (c1 := (104, [some (.inr (.inr (some (13, 0)))), some (.inl a1_), some (.inl a2_), some (.inl p_)], [.inl 0, .inl (S_.2.2.1 157 0 a1_.toNat), .inl (S_.2.2.1 154 0 a1_.toNat), .inr (.inr (some (13, 0)))], S_)) rfl ?_
      refine sm_T_cal (d1 := 1) (Q1 := vq_386 (S_.2.2.1 154 0 a1_.toNat) (S_.2.2.1 157 0 a1_.toNat) 0 (S0_.2.2.1 155 0 a1_.toNat).toNat 0 S_) rfl rfl (by decide) (vc_386 (S_.2.2.1 154 0 a1_.toNat) (S_.2.2.1 157 0 a1_.toNat) 0 (S0_.2.2.1 155 0 a1_.toNat).toNat 0 S_ hI_ (by omega) (by (rw [ea1157_]; exact Ja12_)) (by decide) (by (rw [ea1154_]; exact h1_)) (by (intro p9_ hp9_; have w9_ := Nat.pow_le_pow_right (show 0 < 2 by decide) (show (S_.2.2.1 154 0 a1_.toNat).toNat + 0 ≤ 12 by omega); rw [h2_ p9_ (by omega)]; decide))) (fun u_ Sx4_ px7_ => ?_)
      obtain ⟨vx9_, rfl, hIx5_, hFx6_, px7_⟩ := px7_
      have hFx8_ : ai_fr (sx_W vw_390) S0_ Sx4_ := ai_fr_tr hF_ (fr_le hFx6_ rfl)
      refine sm_T_ri rfl ⟨_, _, rfl, _, rfl, hIx5_, hFx8_, ?_⟩
      exact ⟨⟨by omega, by omega⟩, jR_fr hJ_ hIx5_ hFx8_⟩
    · have cx1_ : ¬ (4096 ≤ p_) := of_decide_eq_false cx1_
      refine sm_T_go 6 (c1 := (64, [some (.inr (.inr (some (13, 0)))), some (.inl a1_), some (.inl a2_), some (.inl p_)], [.inl p_, .inr (.inr (some (190, 0))), .inl p_, .inr (.inr (some (190, 0)))], S_)) rfl ?_
      refine sm_T_iald (n := 4096) rfl rfl (by omega) (by omega) ?_
      have bx10_ : 0 ≤ S_.2.2.1 190 0 p_.toNat ∧ S_.2.2.1 190 0 p_.toNat ≤ 65535 := hI_.2 190 0 _
      refine sm_T_go 1 (c1 := (66, [some (.inr (.inr (some (13, 0)))), some (.inl a1_), some (.inl a2_), some (.inl p_)], [.inl a2_, .inl (S_.2.2.1 190 0 p_.toNat), .inl p_, .inr (.inr (some (190, 0)))], S_)) rfl ?_
      refine sm_T_bin (w := (i_shr (S_.2.2.1 190 0 p_.toNat) a2_)) rfl rfl ?_ -- pc_ 66
      have bx11_ := i_shr_p (x_ := (S_.2.2.1 190 0 p_.toNat)) (e_ := a2_) (by omega) (by omega) (by omega)
      refine sm_T_go 1 (c1 := (68, [some (.inr (.inr (some (13, 0)))), some (.inl a1_), some (.inl a2_), some (.inl p_)], [.inl 1, .inl (i_shr (S_.2.2.1 190 0 p_.toNat) a2_), .inl p_, .inr (.inr (some (190, 0)))], S_)) rfl ?_
      refine sm_T_bin (w := ((i_shr (S_.2.2.1 190 0 p_.toNat) a2_) % 2)) rfl (bi_msk (k := 1) (by decide)) ?_ -- pc_ 68
      refine sm_T_iast (n := 4096) rfl rfl (by omega) (by omega) ?_
      have hIx12_ : gi (sm_aI S_ 190 0 p_.toNat ((i_shr (S_.2.2.1 190 0 p_.toNat) a2_) % 2)) := gi_aI hI_ (show 0 ≤ ((i_shr (S_.2.2.1 190 0 p_.toNat) a2_) % 2) ∧ ((i_shr (S_.2.2.1 190 0 p_.toNat) a2_) % 2) ≤ 65535 from ⟨by omega, by omega⟩)
      have hFx13_ : ai_fr (sx_W vw_390) S0_ (sm_aI S_ 190 0 p_.toNat ((i_shr (S_.2.2.1 190 0 p_.toNat) a2_) % 2)) := ai_fr_tr hF_ (ai_fr_aI rfl)
      refine sm_T_go 4 (c1 := (76, [some (.inr (.inr (some (13, 0)))), some (.inl a1_), some (.inl a2_), some (.inl p_)], [.inl 0, .inl p_, .inr (.inr (some (192, 0)))], sm_aI S_ 190 0 p_.toNat ((i_shr (S_.2.2.1 190 0 p_.toNat) a2_) % 2))) rfl ?_
      refine sm_T_iast (n := 4096) rfl rfl (by omega) (by omega) ?_
      have hIx14_ : gi (sm_aI (sm_aI S_ 190 0 p_.toNat ((i_shr (S_.2.2.1 190 0 p_.toNat) a2_) % 2)) 192 0 p_.toNat 0) := gi_aI hIx12_ (show 0 ≤ 0 ∧ 0 ≤ 65535 from ⟨by omega, by omega⟩)
      have hFx15_ : ai_fr (sx_W vw_390) S0_ (sm_aI (sm_aI S_ 190 0 p_.toNat ((i_shr (S_.2.2.1 190 0 p_.toNat) a2_) % 2)) 192 0 p_.toNat 0) := ai_fr_tr hFx13_ (ai_fr_aI rfl)
      refine sm_T_go 4 (c1 := (83, [some (.inr (.inr (some (13, 0)))), some (.inl a1_), some (.inl a2_), some (.inl p_)], [.inl 0, .inl p_, .inr (.inr (some (193, 0)))], sm_aI (sm_aI S_ 190 0 p_.toNat ((i_shr (S_.2.2.1 190 0 p_.toNat) a2_) % 2)) 192 0 p_.toNat 0)) rfl ?_
      refine sm_T_iast (n := 4096) rfl rfl (by omega) (by omega) ?_
      have hIx16_ : gi (sm_aI (sm_aI (sm_aI S_ 190 0 p_.toNat ((i_shr (S_.2.2.1 190 0 p_.toNat) a2_) % 2)) 192 0 p_.toNat 0) 193 0 p_.toNat 0) := gi_aI hIx14_ (show 0 ≤ 0 ∧ 0 ≤ 63 from ⟨by omega, by omega⟩)
      have hFx17_ : ai_fr (sx_W vw_390) S0_ (sm_aI (sm_aI (sm_aI S_ 190 0 p_.toNat ((i_shr (S_.2.2.1 190 0 p_.toNat) a2_) % 2)) 192 0 p_.toNat 0) 193 0 p_.toNat 0) := ai_fr_tr hFx15_ (ai_fr_aI rfl)
      refine sm_T_inc (a := 3) (z := 1) (v := p_) (w := p_ + 1) rfl rfl (by omega) (by omega) (by omega) ?_ -- pc_ 84
      refine sm_T_go 1 (c1 := (47, [some (.inr (.inr (some (13, 0)))), some (.inl a1_), some (.inl a2_), some (.inl (p_ + 1))], [], sm_aI (sm_aI (sm_aI S_ 190 0 p_.toNat ((i_shr (S_.2.2.1 190 0 p_.toNat) a2_) % 2)) 192 0 p_.toNat 0) 193 0 p_.toNat 0)) rfl ?_
      refine ih_ (p_ + 1) (sm_aI (sm_aI (sm_aI S_ 190 0 p_.toNat ((i_shr (S_.2.2.1 190 0 p_.toNat) a2_) % 2)) 192 0 p_.toNat 0) 193 0 p_.toNat 0) hIx16_ hFx17_ ⟨?_, ?_, ?_, ?_, trivial⟩ ?_
      · omega
      · exact hD_
      · intro p9_ hp9_
        rw [rd_ne (by decide), rd_ne (by decide), rd_ne (by decide)]
        exact h1_ p9_ hp9_
      · intro p9_ hp9_
        rw [rd_eq]
        split
        · rfl
        · rw [rd_ne (by decide), rd_ne (by decide)]; exact h2_ p9_ (by omega)
      · omega
set_option maxHeartbeats 400000 in
set_option maxRecDepth 20000 in
theorem vc_390 {sc_ : Nat × (Nat → Int)} (a1_ : Int) (a2_ : Int) (S0_ : sm_S) (hI_ : gi S0_) (ha1_ : (-2147483648) ≤ a1_ ∧ a1_ ≤ 2147483647) (ha2_ : (-2147483648) ≤ a2_ ∧ a2_ ≤ 2147483647) (hJ_ : jR S0_) : sm_T (mt_P sc_) 2 390 (0, [some (.inr (.inr (some (13, 0)))), some (.inl a1_), some (.inl a2_), none], [], S0_) (fun ro9_ => ∃ u_ S1_, ro9_ = (.inl u_, S1_, 0) ∧ vq_390 a1_ a2_ S0_ u_ S1_) := by
  have hF_ : ai_fr (sx_W vw_390) S0_ S0_ := ai_fr_rf
  refine sm_T_go 3 (c1 := (3, [some (.inr (.inr (some (13, 0)))), some (.inl a1_), some (.inl a2_), none], [.inl a1_, .inr (.inr (some (13, 0))), .inr (.inr (some (13, 0)))], S0_)) rfl ?_
  refine sm_T_cal (d1 := 0) (Q1 := vq_369 a1_ S0_) rfl rfl (by decide) (vc_369 a1_ S0_ hI_ (by omega)) (fun u_ Sx1_ px4_ => ?_)
  obtain ⟨rfl, vx6_, rfl, px4_⟩ := px4_
  have d3_ := px4_
  refine sm_T_b0 (a := 0) (z := 17) rfl (fun cx7_ => ?_) (fun cx7_ => ?_)
  · have cx7_ : vx6_ = 0 := of_decide_eq_true cx7_
    have hIx8_ : gi (sm_pI S0_ 13 0 0 1) := gi_pI hI_ (show 0 ≤ 1 ∧ 1 ≤ 4 from ⟨by omega, by omega⟩)
    have hFx9_ : ai_fr (sx_W vw_390) S0_ (sm_pI S0_ 13 0 0 1) := ai_fr_tr hF_ (ai_fr_pI rfl)
    refine sm_T_go 7 (c1 := (39, [some (.inr (.inr (some (13, 0)))), some (.inl a1_), some (.inl a2_), none], [.inl 0], sm_pI S0_ 13 0 0 1)) rfl ?_
    refine sm_T_ri rfl ⟨_, _, rfl, _, rfl, hIx8_, hFx9_, ?_⟩
    exact ⟨⟨by omega, by omega⟩, jR_fr hJ_ hIx8_ hFx9_⟩
  · have cx7_ : ¬ (vx6_ = 0) := of_decide_eq_false cx7_
    refine sm_T_go 1 (c1 := (10, [some (.inr (.inr (some (13, 0)))), some (.inl a1_), some (.inl a2_), none], [.inl a2_, .inr (.inr (some (13, 0)))], S0_)) rfl ?_
    refine sm_T_b0 (a := 2) (z := 13) rfl (fun cx10_ => ?_) (fun cx10_ => ?_)
    · have cx10_ : a2_ < 0 := of_decide_eq_true cx10_
      have hIx11_ : gi (sm_pI S0_ 13 0 0 1) := gi_pI hI_ (show 0 ≤ 1 ∧ 1 ≤ 4 from ⟨by omega, by omega⟩)
      have hFx12_ : ai_fr (sx_W vw_390) S0_ (sm_pI S0_ 13 0 0 1) := ai_fr_tr hF_ (ai_fr_pI rfl)
      refine sm_T_go 7 (c1 := (39, [some (.inr (.inr (some (13, 0)))), some (.inl a1_), some (.inl a2_), none], [.inl 0], sm_pI S0_ 13 0 0 1)) rfl ?_
      refine sm_T_ri rfl ⟨_, _, rfl, _, rfl, hIx11_, hFx12_, ?_⟩
      exact ⟨⟨by omega, by omega⟩, jR_fr hJ_ hIx11_ hFx12_⟩
    · have cx10_ : ¬ (a2_ < 0) := of_decide_eq_false cx10_
      refine sm_T_go 4 (c1 := (19, [some (.inr (.inr (some (13, 0)))), some (.inl a1_), some (.inl a2_), none], [.inl a1_, .inr (.inr (some (156, 0))), .inl a2_, .inr (.inr (some (13, 0)))], S0_)) rfl ?_
      refine sm_T_iald (n := 6) rfl rfl (by omega) (by omega) ?_
      have bx13_ : 0 ≤ S0_.2.2.1 156 0 a1_.toNat ∧ S0_.2.2.1 156 0 a1_.toNat ≤ 16 := hI_.2 156 0 _
      refine sm_T_br (a := 2) (z := 7) rfl (fun cx14_ => ?_) (fun cx14_ => ?_)
      · have cx14_ : a2_ < (S0_.2.2.1 156 0 a1_.toNat) := of_decide_eq_true cx14_
        have Da1_ : dRk a1_.toNat S0_ := hJ_.1 a1_.toNat (by omega) (by omega)
        have hIx15_ : gi (sm_pI S0_ 13 0 0 0) := gi_pI hI_ (show 0 ≤ 0 ∧ 0 ≤ 4 from ⟨by omega, by omega⟩)
        have hFx16_ : ai_fr (sx_W vw_390) S0_ (sm_pI S0_ 13 0 0 0) := ai_fr_tr hF_ (ai_fr_pI rfl)
        refine sm_T_go 7 (c1 := (42, [some (.inr (.inr (some (13, 0)))), some (.inl a1_), some (.inl a2_), none], [.inl a1_, .inr (.inr (some (13, 0)))], sm_pI S0_ 13 0 0 0)) rfl ?_
        refine sm_T_cal (d1 := 0) (Q1 := vq_387 a1_ (sm_pI S0_ 13 0 0 0)) rfl rfl (by decide) (vc_387 a1_ (sm_pI S0_ 13 0 0 0) hIx15_ (by omega) (by exact dRk_fr Da1_ hFx16_ (by decide))) (fun u_ Sx17_ px20_ => ?_)
        obtain ⟨rfl, hIx18_, hFx19_, px20_⟩ := px20_
        have hFx21_ : ai_fr (sx_W vw_390) S0_ Sx17_ := ai_fr_tr hFx16_ (fr_le hFx19_ rfl)
        have t42_ := px20_
        refine sm_T_go 2 (c1 := (47, [some (.inr (.inr (some (13, 0)))), some (.inl a1_), some (.inl a2_), some (.inl 0)], [], Sx17_)) rfl ?_
        refine (vl_390 a1_ a2_ S0_ ha1_ ha2_ hJ_ _) 0 Sx17_ hIx18_ hFx21_ ⟨?_, ?_, ?_, ?_, trivial⟩ (Nat.lt_succ_self _)
        · omega
        · exact Da1_
        · exact t42_
        · (intro p9_ hp9_; exfalso; omega)
      · have cx14_ : ¬ (a2_ < (S0_.2.2.1 156 0 a1_.toNat)) := of_decide_eq_false cx14_
        have hIx22_ : gi (sm_pI S0_ 13 0 0 1) := gi_pI hI_ (show 0 ≤ 1 ∧ 1 ≤ 4 from ⟨by omega, by omega⟩)
        have hFx23_ : ai_fr (sx_W vw_390) S0_ (sm_pI S0_ 13 0 0 1) := ai_fr_tr hF_ (ai_fr_pI rfl)
        refine sm_T_go 7 (c1 := (39, [some (.inr (.inr (some (13, 0)))), some (.inl a1_), some (.inl a2_), none], [.inl 0], sm_pI S0_ 13 0 0 1)) rfl ?_
        refine sm_T_ri rfl ⟨_, _, rfl, _, rfl, hIx22_, hFx23_, ?_⟩
        exact ⟨⟨by omega, by omega⟩, jR_fr hJ_ hIx22_ hFx23_⟩
end
