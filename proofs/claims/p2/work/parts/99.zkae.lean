/-! Board.exchangeAll -/
def vw_26 : sx_Wl := ([(0, 11), (0, 16), (0, 18), (4, 0)], [14, 15, 21, 25], [])
def vq_26 (a2_ : Int) (ii_ : Nat) (cc_ : Nat) (S0_ : sm_S) (u_ : Option sm_V) (S1_ : sm_S) : Prop := u_ = none ∧ gi S1_ ∧ ai_fr (sx_W vw_26) S0_ S1_ ∧ (cdf ii_ S0_ S1_ ∧ (bpl ii_ cc_ S1_ ∧ (S1_.1 0 ii_ 11 = 0 ∨ S1_.1 0 ii_ 11 = S0_.1 0 ii_ 11)))
set_option maxHeartbeats 400000 in
theorem vl_26 {sc_ : Nat × (Nat → Int)} (a2_ : Int) (ii_ : Nat) (cc_ : Nat) (S0_ : sm_S) (h1_ : 1 ≤ a2_ ∧ a2_ ≤ 4) (hb_ : bpn ii_ S0_) (hp_ : bpl ii_ cc_ S0_) : ∀ nn_ : Nat, (∀ (cg : Int) (ev : Int) (ps_ : Int) (S_ : sm_S), gi S_ → ai_fr (sx_W vw_26) S0_ S_ → ((0 ≤ ps_ ∧ ps_ ≤ 4 ∧ 0 ≤ cg ∧ cg ≤ 1 ∧ 0 ≤ ev ∧ ev ≤ 1) ∧ (bpl ii_ cc_ S_) ∧ (S_.1 0 ii_ 11 = S0_.1 0 ii_ 11) ∧ (cdf ii_ S0_ S_) ∧ True) → ((1000000 * (10 - ps_) + 900000).toNat) < nn_ → sm_T (mt_P sc_) 3 26 (8, [some (.inr (.inr (some (0, ii_)))), some (.inr (.inr (some (2, cc_)))), some (.inl a2_), some (.inl cg), some (.inl ev), some (.inl ps_), none, none], [], S_) (fun ro9_ => ∃ u_ S1_, ro9_ = (.inl u_, S1_, 0) ∧ vq_26 a2_ ii_ cc_ S0_ u_ S1_)) ∧ (∀ (cg : Int) (ev : Int) (ps_ : Int) (i_ : Int) (S_ : sm_S), gi S_ → ai_fr (sx_W vw_26) S0_ S_ → ((0 ≤ ps_ ∧ ps_ < 4 ∧ 0 ≤ cg ∧ cg ≤ 1 ∧ 0 ≤ ev ∧ ev ≤ 1 ∧ 0 ≤ i_ ∧ i_ ≤ 156) ∧ (bpl ii_ cc_ S_) ∧ (S_.1 0 ii_ 11 = S0_.1 0 ii_ 11) ∧ (cdf ii_ S0_ S_) ∧ True) → ((1000000 * (10 - ps_) + 1000 * (200 - i_) + 900).toNat) < nn_ → sm_T (mt_P sc_) 3 26 (23, [some (.inr (.inr (some (0, ii_)))), some (.inr (.inr (some (2, cc_)))), some (.inl a2_), some (.inl cg), some (.inl ev), some (.inl ps_), some (.inl i_), none], [], S_) (fun ro9_ => ∃ u_ S1_, ro9_ = (.inl u_, S1_, 0) ∧ vq_26 a2_ ii_ cc_ S0_ u_ S1_)) ∧ (∀ (cg : Int) (ev : Int) (ps_ : Int) (i_ : Int) (j_ : Int) (S_ : sm_S), gi S_ → ai_fr (sx_W vw_26) S0_ S_ → ((0 ≤ ps_ ∧ ps_ < 4 ∧ 0 ≤ cg ∧ cg ≤ 1 ∧ 0 ≤ ev ∧ ev ≤ 1 ∧ 0 ≤ i_ ∧ i_ < 156 ∧ i_ < j_ ∧ j_ ≤ 156) ∧ (bpl ii_ cc_ S_) ∧ (S_.1 0 ii_ 11 = S0_.1 0 ii_ 11) ∧ (cdf ii_ S0_ S_) ∧ True) → ((1000000 * (10 - ps_) + 1000 * (200 - i_) + 800 - j_).toNat) < nn_ → sm_T (mt_P sc_) 3 26 (38, [some (.inr (.inr (some (0, ii_)))), some (.inr (.inr (some (2, cc_)))), some (.inl a2_), some (.inl cg), some (.inl ev), some (.inl ps_), some (.inl i_), some (.inl j_)], [], S_) (fun ro9_ => ∃ u_ S1_, ro9_ = (.inl u_, S1_, 0) ∧ vq_26 a2_ ii_ cc_ S0_ u_ S1_)) := by
  intro nn_
  induction nn_ with
  | zero => exact ⟨fun _ _ _ _ _ _ _ h_ => absurd h_ (Nat.not_lt_zero _), fun _ _ _ _ _ _ _ _ h_ => absurd h_ (Nat.not_lt_zero _), fun _ _ _ _ _ _ _ _ _ h_ => absurd h_ (Nat.not_lt_zero _)⟩
  | succ nn_ ih_ =>
    refine ⟨?_, ?_, ?_⟩
    · rintro cg ev ps_ S_ hI_ hF_ ⟨h0_, hl_, hrt_, hC_, -⟩ hm_
      refine sm_T_go 2 (c1 := (11, [some (.inr (.inr (some (0, ii_)))), some (.inr (.inr (some (2, cc_)))), some (.inl a2_), some (.inl cg), some (.inl ev), some (.inl ps_), none, none], [.inl a2_, .inl ps_], S_)) rfl ?_
      refine sm_T_br (a := 3) (z := 87) rfl (fun cx1_ => ?_) (fun cx1_ => ?_)
      · have cx1_ : a2_ ≤ ps_ := of_decide_eq_true cx1_
        refine sm_T_go 1 (c1 := (100, [some (.inr (.inr (some (0, ii_)))), some (.inr (.inr (some (2, cc_)))), some (.inl a2_), some (.inl cg), some (.inl ev), some (.inl ps_), none, none], [.inl ev], S_)) rfl ?_
        refine sm_T_b0 (a := 0) (z := 17) rfl (fun cx2_ => ?_) (fun cx2_ => ?_)
        · have cx2_ : ev = 0 := of_decide_eq_true cx2_
          refine sm_T_rv rfl ⟨_, _, rfl, rfl, hI_, hF_, ?_⟩
          refine ⟨hC_, ?_⟩
          first | exact ⟨hl_, Or.inr hrt_⟩ | (refine ⟨?_, Or.inl ((rf_nk (by decide)).trans z104_.1)⟩; exact bpl_sw l9_ (rf_nk (by decide)) (rf_nk (by decide)) (rf_nk (by decide)) (rf_nt (by decide)) (rf_nt (by decide)) (rf_nt (by decide)) (rf_nt (by decide)) rfl (fun e_ he_ => ⟨e_, by first | exact he_ | (rw [rf_nt (by decide), rf_nt (by decide)] at he_; exact he_), rfl, rfl, rfl⟩))
        · have cx2_ : ¬ (ev = 0) := of_decide_eq_false cx2_
          refine sm_T_go 1 (c1 := (104, [some (.inr (.inr (some (0, ii_)))), some (.inr (.inr (some (2, cc_)))), some (.inl a2_), some (.inl cg), some (.inl ev), some (.inl ps_), none, none], [.inr (.inr (some (0, ii_)))], S_)) rfl ?_
          refine sm_T_cal (d1 := 0) (Q1 := vq_15 ii_ S_) rfl rfl (by decide) (vc_15 ii_ S_ hI_ ) (fun u_ Sx3_ px6_ => ?_)
          obtain ⟨rfl, hIx4_, hFx5_, px6_⟩ := px6_
          have hFx7_ : ai_fr (sx_W vw_26) S0_ Sx3_ := ai_fr_tr hF_ (fr_le hFx5_ rfl)
          obtain ⟨dx9_, px6_⟩ := px6_
          have hCx8_ : cdf ii_ S0_ Sx3_ := cdf_tr hC_ (cdf_cg (by omega) dx9_)
          have z104_ := px6_
          have l9_ := bpl_fr hl_ hFx5_ rfl rfl rfl rfl rfl rfl rfl rfl rfl rfl
          have bx10_ : (-2147483648) ≤ Sx3_.1 0 ii_ 16 ∧ Sx3_.1 0 ii_ 16 ≤ 2147483647 := hIx4_.1 0 ii_ 16 rfl
          refine sm_T_go 4 (c1 := (113, [some (.inr (.inr (some (0, ii_)))), some (.inr (.inr (some (2, cc_)))), some (.inl a2_), some (.inl cg), some (.inl ev), some (.inl ps_), none, none], [.inl 1, .inl (Sx3_.1 0 ii_ 16), .inr (.inr (some (0, ii_)))], Sx3_)) rfl ?_
          refine sm_T_bin (w := (i_add (Sx3_.1 0 ii_ 16) 1)) rfl rfl ?_ -- pc_ 113
          have bx11_ := i_add_r (Sx3_.1 0 ii_ 16) 1
          have hIx12_ : gi (sm_pI Sx3_ 0 ii_ 16 (i_add (Sx3_.1 0 ii_ 16) 1)) := gi_pI hIx4_ (show (-2147483648) ≤ (i_add (Sx3_.1 0 ii_ 16) 1) ∧ (i_add (Sx3_.1 0 ii_ 16) 1) ≤ 2147483647 from ⟨by omega, by omega⟩)
          have hFx13_ : ai_fr (sx_W vw_26) S0_ (sm_pI Sx3_ 0 ii_ 16 (i_add (Sx3_.1 0 ii_ 16) 1)) := ai_fr_tr hFx7_ (ai_fr_pI rfl)
          have hCx14_ : cdf ii_ S0_ (sm_pI Sx3_ 0 ii_ 16 (i_add (Sx3_.1 0 ii_ 16) 1)) := cdf_pI hCx8_ (Or.inr (by rw [show cof 0 = 0 from rfl] <;> omega))
          refine sm_T_go 1 (c1 := (117, [some (.inr (.inr (some (0, ii_)))), some (.inr (.inr (some (2, cc_)))), some (.inl a2_), some (.inl cg), some (.inl ev), some (.inl ps_), none, none], [], sm_pI Sx3_ 0 ii_ 16 (i_add (Sx3_.1 0 ii_ 16) 1))) rfl ?_
          refine sm_T_rv rfl ⟨_, _, rfl, rfl, hIx12_, hFx13_, ?_⟩
          refine ⟨hCx14_, ?_⟩
          first | exact ⟨hl_, Or.inr hrt_⟩ | (refine ⟨?_, Or.inl ((rf_nk (by decide)).trans z104_.1)⟩; exact bpl_sw l9_ (rf_nk (by decide)) (rf_nk (by decide)) (rf_nk (by decide)) (rf_nt (by decide)) (rf_nt (by decide)) (rf_nt (by decide)) (rf_nt (by decide)) rfl (fun e_ he_ => ⟨e_, by first | exact he_ | (rw [rf_nt (by decide), rf_nt (by decide)] at he_; exact he_), rfl, rfl, rfl⟩))
      · have cx1_ : ¬ (a2_ ≤ ps_) := of_decide_eq_false cx1_
        refine sm_T_go 1 (c1 := (15, [some (.inr (.inr (some (0, ii_)))), some (.inr (.inr (some (2, cc_)))), some (.inl a2_), some (.inl cg), some (.inl ev), some (.inl ps_), none, none], [.inl cg], S_)) rfl ?_
        refine sm_T_b0 (a := 0) (z := 83) rfl (fun cx15_ => ?_) (fun cx15_ => ?_)
        · have cx15_ : cg = 0 := of_decide_eq_true cx15_
          refine sm_T_go 1 (c1 := (100, [some (.inr (.inr (some (0, ii_)))), some (.inr (.inr (some (2, cc_)))), some (.inl a2_), some (.inl cg), some (.inl ev), some (.inl ps_), none, none], [.inl ev], S_)) rfl ?_
          refine sm_T_b0 (a := 0) (z := 17) rfl (fun cx16_ => ?_) (fun cx16_ => ?_)
          · have cx16_ : ev = 0 := of_decide_eq_true cx16_
            refine sm_T_rv rfl ⟨_, _, rfl, rfl, hI_, hF_, ?_⟩
            refine ⟨hC_, ?_⟩
            first | exact ⟨hl_, Or.inr hrt_⟩ | (refine ⟨?_, Or.inl ((rf_nk (by decide)).trans z104_.1)⟩; exact bpl_sw l9_ (rf_nk (by decide)) (rf_nk (by decide)) (rf_nk (by decide)) (rf_nt (by decide)) (rf_nt (by decide)) (rf_nt (by decide)) (rf_nt (by decide)) rfl (fun e_ he_ => ⟨e_, by first | exact he_ | (rw [rf_nt (by decide), rf_nt (by decide)] at he_; exact he_), rfl, rfl, rfl⟩))
          · have cx16_ : ¬ (ev = 0) := of_decide_eq_false cx16_
            refine sm_T_go 1 (c1 := (104, [some (.inr (.inr (some (0, ii_)))), some (.inr (.inr (some (2, cc_)))), some (.inl a2_), some (.inl cg), some (.inl ev), some (.inl ps_), none, none], [.inr (.inr (some (0, ii_)))], S_)) rfl ?_
            refine sm_T_cal (d1 := 0) (Q1 := vq_15 ii_ S_) rfl rfl (by decide) (vc_15 ii_ S_ hI_ ) (fun u_ Sx17_ px20_ => ?_)
            obtain ⟨rfl, hIx18_, hFx19_, px20_⟩ := px20_
            have hFx21_ : ai_fr (sx_W vw_26) S0_ Sx17_ := ai_fr_tr hF_ (fr_le hFx19_ rfl)
            obtain ⟨dx23_, px20_⟩ := px20_
            have hCx22_ : cdf ii_ S0_ Sx17_ := cdf_tr hC_ (cdf_cg (by omega) dx23_)
            have z104_ := px20_
            have l9_ := bpl_fr hl_ hFx19_ rfl rfl rfl rfl rfl rfl rfl rfl rfl rfl
            have bx24_ : (-2147483648) ≤ Sx17_.1 0 ii_ 16 ∧ Sx17_.1 0 ii_ 16 ≤ 2147483647 := hIx18_.1 0 ii_ 16 rfl
            refine sm_T_go 4 (c1 := (113, [some (.inr (.inr (some (0, ii_)))), some (.inr (.inr (some (2, cc_)))), some (.inl a2_), some (.inl cg), some (.inl ev), some (.inl ps_), none, none], [.inl 1, .inl (Sx17_.1 0 ii_ 16), .inr (.inr (some (0, ii_)))], Sx17_)) rfl ?_
            refine sm_T_bin (w := (i_add (Sx17_.1 0 ii_ 16) 1)) rfl rfl ?_ -- pc_ 113
            have bx25_ := i_add_r (Sx17_.1 0 ii_ 16) 1
            have hIx26_ : gi (sm_pI Sx17_ 0 ii_ 16 (i_add (Sx17_.1 0 ii_ 16) 1)) := gi_pI hIx18_ (show (-2147483648) ≤ (i_add (Sx17_.1 0 ii_ 16) 1) ∧ (i_add (Sx17_.1 0 ii_ 16) 1) ≤ 2147483647 from ⟨by omega, by omega⟩)
            have hFx27_ : ai_fr (sx_W vw_26) S0_ (sm_pI Sx17_ 0 ii_ 16 (i_add (Sx17_.1 0 ii_ 16) 1)) := ai_fr_tr hFx21_ (ai_fr_pI rfl)
            have hCx28_ : cdf ii_ S0_ (sm_pI Sx17_ 0 ii_ 16 (i_add (Sx17_.1 0 ii_ 16) 1)) := cdf_pI hCx22_ (Or.inr (by rw [show cof 0 = 0 from rfl] <;> omega))
            refine sm_T_go 1 (c1 := (117, [some (.inr (.inr (some (0, ii_)))), some (.inr (.inr (some (2, cc_)))), some (.inl a2_), some (.inl cg), some (.inl ev), some (.inl ps_), none, none], [], sm_pI Sx17_ 0 ii_ 16 (i_add (Sx17_.1 0 ii_ 16) 1))) rfl ?_
            refine sm_T_rv rfl ⟨_, _, rfl, rfl, hIx26_, hFx27_, ?_⟩
            refine ⟨hCx28_, ?_⟩
            first | exact ⟨hl_, Or.inr hrt_⟩ | (refine ⟨?_, Or.inl ((rf_nk (by decide)).trans z104_.1)⟩; exact bpl_sw l9_ (rf_nk (by decide)) (rf_nk (by decide)) (rf_nk (by decide)) (rf_nt (by decide)) (rf_nt (by decide)) (rf_nt (by decide)) (rf_nt (by decide)) rfl (fun e_ he_ => ⟨e_, by first | exact he_ | (rw [rf_nt (by decide), rf_nt (by decide)] at he_; exact he_), rfl, rfl, rfl⟩))
        · have cx15_ : ¬ (cg = 0) := of_decide_eq_false cx15_
          refine sm_T_go 4 (c1 := (23, [some (.inr (.inr (some (0, ii_)))), some (.inr (.inr (some (2, cc_)))), some (.inl a2_), some (.inl 0), some (.inl ev), some (.inl ps_), some (.inl 0), none], [], S_)) rfl ?_
          refine ih_.2.1 0 ev ps_ 0 S_ hI_ hF_ ⟨?_, ?_, ?_, ?_, trivial⟩ ?_
          · omega
          · exact hl_
          · exact hrt_
          · exact hC_
          · omega
    · rintro cg ev ps_ i_ S_ hI_ hF_ ⟨h0_, hl_, hrt_, hC_, -⟩ hm_
      have c2_ : 0 ≤ S_.1 2 cc_ 2 ∧ S_.1 2 cc_ 2 ≤ 6 := hI_.1 2 cc_ 2 rfl
      have c8_ : 0 ≤ S_.1 2 cc_ 8 ∧ S_.1 2 cc_ 8 ≤ 150 := hI_.1 2 cc_ 8 rfl
      have e2_ : S_.1 2 cc_ 2 = S0_.1 2 cc_ 2 := hF_.1 2 cc_ 2 rfl
      have e8_ : S_.1 2 cc_ 8 = S0_.1 2 cc_ 8 := hF_.1 2 cc_ 8 rfl
      refine sm_T_go 2 (c1 := (26, [some (.inr (.inr (some (0, ii_)))), some (.inr (.inr (some (2, cc_)))), some (.inl a2_), some (.inl cg), some (.inl ev), some (.inl ps_), some (.inl i_), none], [.inr (.inr (some (2, cc_))), .inl i_], S_)) rfl ?_
      refine sm_T_cal (d1 := 0) (Q1 := vq_56 cc_ S_) rfl rfl (by decide) (vc_56 cc_ S_ hI_ ) (fun u_ Sx1_ px4_ => ?_)
      obtain ⟨rfl, vx6_, rfl, px4_⟩ := px4_
      have n9_ := px4_
      refine sm_T_br (a := 3) (z := 63) rfl (fun cx7_ => ?_) (fun cx7_ => ?_)
      · have cx7_ : vx6_ ≤ i_ := of_decide_eq_true cx7_
        refine sm_T_inc (a := 5) (z := 1) (v := ps_) (w := ps_ + 1) rfl rfl (by omega) (by omega) (by omega) ?_ -- pc_ 92
        refine sm_T_go 1 (c1 := (8, [some (.inr (.inr (some (0, ii_)))), some (.inr (.inr (some (2, cc_)))), some (.inl a2_), some (.inl cg), some (.inl ev), some (.inl (ps_ + 1)), some (.inl i_), none], [], S_)) rfl ?_
        refine sm_T_wk [some (.inr (.inr (some (0, ii_)))), some (.inr (.inr (some (2, cc_)))), some (.inl a2_), some (.inl cg), some (.inl ev), some (.inl (ps_ + 1)), none, none] (by exact ⟨rfl, rfl, rfl, rfl, rfl, rfl, trivial⟩) ?_
        refine ih_.1 cg ev (ps_ + 1) S_ hI_ hF_ ⟨?_, ?_, ?_, ?_, trivial⟩ ?_
        · omega
        · exact hl_
        · exact hrt_
        · exact hC_
        · omega
      · have cx7_ : ¬ (vx6_ ≤ i_) := of_decide_eq_false cx7_
        refine sm_T_go 2 (c1 := (35, [some (.inr (.inr (some (0, ii_)))), some (.inr (.inr (some (2, cc_)))), some (.inl a2_), some (.inl cg), some (.inl ev), some (.inl ps_), some (.inl i_), none], [.inl 1, .inl i_], S_)) rfl ?_
        refine sm_T_bin (w := i_ + 1) rfl (bi_add (by omega) (by omega) (by omega)) ?_ -- pc_ 35
        refine sm_T_go 1 (c1 := (38, [some (.inr (.inr (some (0, ii_)))), some (.inr (.inr (some (2, cc_)))), some (.inl a2_), some (.inl cg), some (.inl ev), some (.inl ps_), some (.inl i_), some (.inl (i_ + 1))], [], S_)) rfl ?_
        refine ih_.2.2 cg ev ps_ i_ (i_ + 1) S_ hI_ hF_ ⟨?_, ?_, ?_, ?_, trivial⟩ ?_
        · omega
        · exact hl_
        · exact hrt_
        · exact hC_
        · omega
    · rintro cg ev ps_ i_ j_ S_ hI_ hF_ ⟨h0_, hl_, hrt_, hC_, -⟩ hm_
      have c2_ : 0 ≤ S_.1 2 cc_ 2 ∧ S_.1 2 cc_ 2 ≤ 6 := hI_.1 2 cc_ 2 rfl
      have c8_ : 0 ≤ S_.1 2 cc_ 8 ∧ S_.1 2 cc_ 8 ≤ 150 := hI_.1 2 cc_ 8 rfl
      have e2_ : S_.1 2 cc_ 2 = S0_.1 2 cc_ 2 := hF_.1 2 cc_ 2 rfl
      have e8_ : S_.1 2 cc_ 8 = S0_.1 2 cc_ 8 := hF_.1 2 cc_ 8 rfl
      refine sm_T_go 2 (c1 := (41, [some (.inr (.inr (some (0, ii_)))), some (.inr (.inr (some (2, cc_)))), some (.inl a2_), some (.inl cg), some (.inl ev), some (.inl ps_), some (.inl i_), some (.inl j_)], [.inr (.inr (some (2, cc_))), .inl j_], S_)) rfl ?_
      refine sm_T_cal (d1 := 0) (Q1 := vq_56 cc_ S_) rfl rfl (by decide) (vc_56 cc_ S_ hI_ ) (fun u_ Sx1_ px4_ => ?_)
      obtain ⟨rfl, vx6_, rfl, px4_⟩ := px4_
      have n9_ := px4_
      refine sm_T_br (a := 3) (z := 42) rfl (fun cx7_ => ?_) (fun cx7_ => ?_)
      · have cx7_ : vx6_ ≤ j_ := of_decide_eq_true cx7_
        refine sm_T_inc (a := 6) (z := 1) (v := i_) (w := i_ + 1) rfl rfl (by omega) (by omega) (by omega) ?_ -- pc_ 86
        refine sm_T_go 1 (c1 := (23, [some (.inr (.inr (some (0, ii_)))), some (.inr (.inr (some (2, cc_)))), some (.inl a2_), some (.inl cg), some (.inl ev), some (.inl ps_), some (.inl (i_ + 1)), some (.inl j_)], [], S_)) rfl ?_
        refine sm_T_wk [some (.inr (.inr (some (0, ii_)))), some (.inr (.inr (some (2, cc_)))), some (.inl a2_), some (.inl cg), some (.inl ev), some (.inl ps_), some (.inl (i_ + 1)), none] (by exact ⟨rfl, rfl, rfl, rfl, rfl, rfl, rfl, trivial⟩) ?_
        refine ih_.2.1 cg ev ps_ (i_ + 1) S_ hI_ hF_ ⟨?_, ?_, ?_, ?_, trivial⟩ ?_
        · omega
        · exact hl_
        · exact hrt_
        · exact hC_
        · omega
      · have cx7_ : ¬ (vx6_ ≤ j_) := of_decide_eq_false cx7_
        refine sm_T_go 3 (c1 := (53, [some (.inr (.inr (some (0, ii_)))), some (.inr (.inr (some (2, cc_)))), some (.inl a2_), some (.inl cg), some (.inl ev), some (.inl ps_), some (.inl i_), some (.inl j_)], [.inl i_, .inr (.inr (some (16, (0 + ii_))))], S_)) rfl ?_
        refine sm_T_iald (n := 156) rfl rfl (by omega) (by omega) ?_
        have bx8_ : 0 ≤ S_.2.2.1 16 (0 + ii_) i_.toNat ∧ S_.2.2.1 16 (0 + ii_) i_.toNat ≤ 4 := hI_.2 16 (0 + ii_) _
        refine sm_T_go 3 (c1 := (60, [some (.inr (.inr (some (0, ii_)))), some (.inr (.inr (some (2, cc_)))), some (.inl a2_), some (.inl cg), some (.inl ev), some (.inl ps_), some (.inl i_), some (.inl j_)], [.inl j_, .inr (.inr (some (16, (0 + ii_)))), .inl (S_.2.2.1 16 (0 + ii_) i_.toNat)], S_)) rfl ?_
        refine sm_T_iald (n := 156) rfl rfl (by omega) (by omega) ?_
        have bx9_ : 0 ≤ S_.2.2.1 16 (0 + ii_) j_.toNat ∧ S_.2.2.1 16 (0 + ii_) j_.toNat ≤ 4 := hI_.2 16 (0 + ii_) _
        refine sm_T_br (a := 1) (z := 19) rfl (fun cx10_ => ?_) (fun cx10_ => ?_)
        · have cx10_ : (S_.2.2.1 16 (0 + ii_) i_.toNat) ≠ (S_.2.2.1 16 (0 + ii_) j_.toNat) := of_decide_eq_true cx10_
          refine sm_T_inc (a := 7) (z := 1) (v := j_) (w := j_ + 1) rfl rfl (by omega) (by omega) (by omega) ?_ -- pc_ 80
          refine sm_T_go 1 (c1 := (38, [some (.inr (.inr (some (0, ii_)))), some (.inr (.inr (some (2, cc_)))), some (.inl a2_), some (.inl cg), some (.inl ev), some (.inl ps_), some (.inl i_), some (.inl (j_ + 1))], [], S_)) rfl ?_
          refine ih_.2.2 cg ev ps_ i_ (j_ + 1) S_ hI_ hF_ ⟨?_, ?_, ?_, ?_, trivial⟩ ?_
          · omega
          · first | exact hl_ | exact x69_.2
          · first | exact hrt_ | exact y69_.trans hrt_
          · exact hC_
          · omega
        · have cx10_ : ¬ ((S_.2.2.1 16 (0 + ii_) i_.toNat) ≠ (S_.2.2.1 16 (0 + ii_) j_.toNat)) := of_decide_eq_false cx10_
          refine sm_T_go 3 (c1 := (69, [some (.inr (.inr (some (0, ii_)))), some (.inr (.inr (some (2, cc_)))), some (.inl a2_), some (.inl cg), some (.inl ev), some (.inl ps_), some (.inl i_), some (.inl j_)], [.inl j_, .inl i_, .inr (.inr (some (0, ii_)))], S_)) rfl ?_
          refine sm_T_cal (d1 := 2) (Q1 := vq_27 i_ j_ ii_ cc_ S_) rfl rfl (by decide) (vc_27 i_ j_ ii_ cc_ S_ hI_ (by omega) (by omega) (by omega) (by exact bpn_fr hb_ hF_ rfl rfl rfl rfl) (by exact hl_)) (fun u_ Sx11_ px14_ => ?_)
          obtain ⟨vx16_, rfl, hIx12_, hFx13_, px14_⟩ := px14_
          have hFx15_ : ai_fr (sx_W vw_26) S0_ Sx11_ := ai_fr_tr hF_ (fr_le hFx13_ rfl)
          obtain ⟨dx18_, px14_⟩ := px14_
          have hCx17_ : cdf ii_ S0_ Sx11_ := cdf_tr hC_ (cdf_cg (by omega) dx18_)
          have x69_ := px14_
          have y69_ : Sx11_.1 0 ii_ 11 = S_.1 0 ii_ 11 := hFx13_.1 0 ii_ 11 rfl
          refine sm_T_b0 (a := 0) (z := 8) rfl (fun cx19_ => ?_) (fun cx19_ => ?_)
          · have cx19_ : vx16_ = 0 := of_decide_eq_true cx19_
            refine sm_T_inc (a := 7) (z := 1) (v := j_) (w := j_ + 1) rfl rfl (by omega) (by omega) (by omega) ?_ -- pc_ 80
            refine sm_T_go 1 (c1 := (38, [some (.inr (.inr (some (0, ii_)))), some (.inr (.inr (some (2, cc_)))), some (.inl a2_), some (.inl cg), some (.inl ev), some (.inl ps_), some (.inl i_), some (.inl (j_ + 1))], [], Sx11_)) rfl ?_
            refine ih_.2.2 cg ev ps_ i_ (j_ + 1) Sx11_ hIx12_ hFx15_ ⟨?_, ?_, ?_, ?_, trivial⟩ ?_
            · omega
            · first | exact hl_ | exact x69_.2
            · first | exact hrt_ | exact y69_.trans hrt_
            · exact hCx17_
            · omega
          · have cx19_ : ¬ (vx16_ = 0) := of_decide_eq_false cx19_
            refine sm_T_go 4 (c1 := (80, [some (.inr (.inr (some (0, ii_)))), some (.inr (.inr (some (2, cc_)))), some (.inl a2_), some (.inl 1), some (.inl 1), some (.inl ps_), some (.inl i_), some (.inl j_)], [], Sx11_)) rfl ?_
            refine sm_T_inc (a := 7) (z := 1) (v := j_) (w := j_ + 1) rfl rfl (by omega) (by omega) (by omega) ?_ -- pc_ 80
            refine sm_T_go 1 (c1 := (38, [some (.inr (.inr (some (0, ii_)))), some (.inr (.inr (some (2, cc_)))), some (.inl a2_), some (.inl 1), some (.inl 1), some (.inl ps_), some (.inl i_), some (.inl (j_ + 1))], [], Sx11_)) rfl ?_
            refine ih_.2.2 1 1 ps_ i_ (j_ + 1) Sx11_ hIx12_ hFx15_ ⟨?_, ?_, ?_, ?_, trivial⟩ ?_
            · omega
            · first | exact hl_ | exact x69_.2
            · first | exact hrt_ | exact y69_.trans hrt_
            · exact hCx17_
            · omega
set_option maxHeartbeats 400000 in
theorem vc_26 {sc_ : Nat × (Nat → Int)} (a2_ : Int) (ii_ : Nat) (cc_ : Nat) (S0_ : sm_S) (hI_ : gi S0_) (h1_ : 1 ≤ a2_ ∧ a2_ ≤ 4) (hb_ : bpn ii_ S0_) (hp_ : bpl ii_ cc_ S0_) : sm_T (mt_P sc_) 3 26 (0, [some (.inr (.inr (some (0, ii_)))), some (.inr (.inr (some (2, cc_)))), some (.inl a2_), none, none, none, none, none], [], S0_) (fun ro9_ => ∃ u_ S1_, ro9_ = (.inl u_, S1_, 0) ∧ vq_26 a2_ ii_ cc_ S0_ u_ S1_) := by
  have hF_ : ai_fr (sx_W vw_26) S0_ S0_ := ai_fr_rf
  have hC_ : cdf ii_ S0_ S0_ := cdf_rf
  refine sm_T_go 6 (c1 := (8, [some (.inr (.inr (some (0, ii_)))), some (.inr (.inr (some (2, cc_)))), some (.inl a2_), some (.inl 1), some (.inl 0), some (.inl 0), none, none], [], S0_)) rfl ?_
  refine (vl_26 a2_ ii_ cc_ S0_ h1_ hb_ hp_ _).1 1 0 0 S0_ hI_ hF_ ⟨?_, ?_, ?_, ?_, trivial⟩ (Nat.lt_succ_self _)
  · omega
  · exact hp_
  · rfl
  · exact hC_
