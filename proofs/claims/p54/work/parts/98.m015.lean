/-! 99.zkfc -/
section
/-! Router.spread -/
def vw_161 : sx_Wl := ([(8, 6), (8, 8)], [86, 87, 88], [])
def vq_161 (a1_ : Int) (a2_ : Int) (bb_ : Nat) (S0_ : sm_S) (u_ : Option sm_V) (S1_ : sm_S) : Prop := ∃ v_ : Int, u_ = some (.inl v_) ∧ gi S1_ ∧ ai_fr (sx_W vw_161) S0_ S1_ ∧ (v_ = -1 ∨ ((0 ≤ v_ ∧ v_ < 2 * S1_.1 8 0 2) ∧ rsp bb_ a1_ S1_ ∧ 0 < S1_.2.2.1 86 0 v_.toNat ∧ S1_.2.2.1 22 (0 + bb_) v_.toNat ≠ a1_))
set_option maxHeartbeats 3000000 in
set_option maxRecDepth 20000 in
theorem vl_161 {sc_ : Nat × (Nat → Int)} (a1_ : Int) (a2_ : Int) (bb_ : Nat) (S0_ : sm_S) (hb_ : S0_.2.1 8 0 0 = some bb_) (hg_ : rgw S0_) (h1_ : 0 ≤ a1_ ∧ a1_ ≤ 161) (hn_ : bpn bb_ S0_) (hp_ : rpt bb_ S0_) (ht_ : trt bb_ a1_ S0_) : ∀ nn_ : Nat, (∀ (k_ : Int) (S_ : sm_S), gi S_ → ai_fr (sx_W vw_161) S0_ S_ → ((0 ≤ k_ ∧ k_ ≤ S0_.1 8 0 11) ∧ (∀ p_ : Nat, (p_ : Int) < 2 * S0_.1 8 0 2 → S_.2.2.1 86 0 p_ = -1 ∨ S_.2.2.1 86 0 p_ = 0) ∧ (∀ p_ : Nat, (p_ : Int) < 2 * S0_.1 8 0 2 → (S_.2.2.1 86 0 p_ = 0 ↔ ∃ i_ : Nat, (i_ : Int) < k_ ∧ S0_.2.2.1 90 0 i_ = (p_ : Int))) ∧ (∀ i_ : Nat, (i_ : Int) < S0_.1 8 0 11 → S_.2.2.1 87 0 i_ = S0_.2.2.1 90 0 i_) ∧ True) → ((20000 - k_).toNat) < nn_ → sm_T (mt_P sc_) 3 161 (34, [some (.inr (.inr (some (8, 0)))), some (.inl a1_), some (.inl a2_), some (.inl k_), none, none, none, none], [], S_) (fun ro9_ => ∃ u_ S1_, ro9_ = (.inl u_, S1_, 0) ∧ vq_161 a1_ a2_ bb_ S0_ u_ S1_)) ∧ (∀ (nh_ : Int) (fh_ : Int) (gd_ : Int) (S_ : sm_S), gi S_ → ai_fr (sx_W vw_161) S0_ S_ → ((0 ≤ nh_ ∧ nh_ ≤ S_.1 8 0 6 ∧ 0 ≤ fh_ ∧ fh_ ≤ S_.1 8 0 8 ∧ 0 ≤ gd_ ∧ gd_ ≤ 4712) ∧ (rsp bb_ a1_ S_) ∧ True) → ((10000 - gd_).toNat) < nn_ → sm_T (mt_P sc_) 3 161 (81, [some (.inr (.inr (some (8, 0)))), some (.inl a1_), some (.inl a2_), some (.inl nh_), some (.inl fh_), some (.inl gd_), none, none], [], S_) (fun ro9_ => ∃ u_ S1_, ro9_ = (.inl u_, S1_, 0) ∧ vq_161 a1_ a2_ bb_ S0_ u_ S1_)) := by
  intro nn_
  induction nn_ with
  | zero => exact ⟨fun _ _ _ _ _ h_ => absurd h_ (Nat.not_lt_zero _), fun _ _ _ _ _ _ _ h_ => absurd h_ (Nat.not_lt_zero _)⟩
  | succ nn_ ih_ =>
    refine ⟨?_, ?_⟩
    · rintro k_ S_ hI_ hF_ ⟨h0_, hd_, hz_, hc_, -⟩ hm_
      have e2_ : S_.1 8 0 2 = S0_.1 8 0 2 := hF_.1 8 0 2 rfl
      have eb_ : S_.1 8 0 11 = S0_.1 8 0 11 := hF_.1 8 0 11 rfl
      have e90_ : S_.2.2.1 90 0 = S0_.2.2.1 90 0 := fr_arr hF_ rfl
      have e22_ : S_.2.2.1 22 (0 + bb_) = S0_.2.2.1 22 (0 + bb_) := fr_arr hF_ rfl
      have cL_ : 0 ≤ S_.1 8 0 2 ∧ S_.1 8 0 2 ≤ 2356 := hI_.1 8 0 2 rfl
      have ct : 0 ≤ S_.1 8 0 11 ∧ S_.1 8 0 11 ≤ 4712 := hI_.1 8 0 11 rfl
      have bx1_ : 0 ≤ S_.1 8 0 11 ∧ S_.1 8 0 11 ≤ 4712 := hI_.1 8 0 11 rfl
      refine sm_T_go 3 (c1 := (39, [some (.inr (.inr (some (8, 0)))), some (.inl a1_), some (.inl a2_), some (.inl k_), none, none, none, none], [.inl (S_.1 8 0 11), .inl k_], S_)) rfl ?_
      refine sm_T_br (a := 3) (z := 21) rfl (fun cx2_ => ?_) (fun cx2_ => ?_)
      · have cx2_ : (S_.1 8 0 11) ≤ k_ := of_decide_eq_true cx2_
        have hIx3_ : gi (sm_pI S_ 8 0 6 (S_.1 8 0 11)) := gi_pI hI_ (show 0 ≤ (S_.1 8 0 11) ∧ (S_.1 8 0 11) ≤ 4712 from ⟨by omega, by omega⟩)
        have hFx4_ : ai_fr (sx_W vw_161) S0_ (sm_pI S_ 8 0 6 (S_.1 8 0 11)) := ai_fr_tr hF_ (ai_fr_pI rfl)
        have hIx5_ : gi (sm_pI (sm_pI S_ 8 0 6 (S_.1 8 0 11)) 8 0 8 0) := gi_pI hIx3_ (show 0 ≤ 0 ∧ 0 ≤ 4712 from ⟨by omega, by omega⟩)
        have hFx6_ : ai_fr (sx_W vw_161) S0_ (sm_pI (sm_pI S_ 8 0 6 (S_.1 8 0 11)) 8 0 8 0) := ai_fr_tr hFx4_ (ai_fr_pI rfl)
        refine sm_T_go 13 (c1 := (81, [some (.inr (.inr (some (8, 0)))), some (.inl a1_), some (.inl a2_), some (.inl 0), some (.inl 0), some (.inl 0), none, none], [], sm_pI (sm_pI S_ 8 0 6 (S_.1 8 0 11)) 8 0 8 0)) rfl ?_
        refine ih_.2 0 0 0 (sm_pI (sm_pI S_ 8 0 6 (S_.1 8 0 11)) 8 0 8 0) hIx5_ hFx6_ ⟨?_, ?_, trivial⟩ ?_
        · (simp only [rf_eq, rf_nk, ne_eq, Nat.reduceEqDiff, not_false_eq_true]; omega)
        · refine rsp_0 (show 0 ≤ S_.1 8 0 2 from cL_.1) (fun p_ hp9_ => hd_ p_ (by rw [← e2_]; exact hp9_)) (fun p_ hp9_ => ?_) ?_ rfl (fun i_ hi_ => ?_)
          · have y_ := hz_ p_ (by rw [← e2_]; exact hp9_)
            have x_ : S_.2.2.1 22 (0 + bb_) p_ = S0_.2.2.1 22 (0 + bb_) p_ := by rw [e22_]
            show S_.2.2.1 86 0 p_ = 0 ↔ S_.2.2.1 22 (0 + bb_) p_ = a1_
            rw [y_, x_]
            constructor
            · rintro ⟨i_, hi_, e_⟩; have w_ := (ht_.2.1 i_ (by omega)).2; rw [e_] at w_; exact w_
            · intro w_; obtain ⟨i_, hi_, e_⟩ := ht_.2.2 p_ (by rw [← e2_]; exact hp9_) w_; exact ⟨i_, by omega, e_⟩
          · show S_.1 8 0 11 = (cne (S_.2.2.1 22 (0 + bb_)) a1_ (2 * S_.1 8 0 2).toNat : Int)
            rw [eb_, e22_, e2_]; exact ht_.1
          · have hi9_ : (i_ : Int) < S_.1 8 0 11 := hi_
            have w_ := ht_.2.1 i_ (by omega)
            have x_ : S_.2.2.1 87 0 i_ = S0_.2.2.1 90 0 i_ := hc_ i_ (by omega)
            show (0 ≤ S_.2.2.1 87 0 i_ ∧ S_.2.2.1 87 0 i_ < 2 * S_.1 8 0 2) ∧ S_.2.2.1 22 (0 + bb_) (S_.2.2.1 87 0 i_).toNat = a1_
            rw [x_, e2_, e22_]; exact w_
        · omega
      · have cx2_ : ¬ ((S_.1 8 0 11) ≤ k_) := of_decide_eq_false cx2_
        have t9_ := ht_.2.1 k_.toNat (by omega)
        rw [← e90_] at t9_
        refine sm_T_go 5 (c1 := (51, [some (.inr (.inr (some (8, 0)))), some (.inl a1_), some (.inl a2_), some (.inl k_), none, none, none, none], [.inl k_, .inr (.inr (some (90, 0))), .inr (.inr (some (86, 0)))], S_)) rfl ?_
        refine sm_T_iald (n := 4712) rfl rfl (by omega) (by omega) ?_
        have bx7_ : 0 ≤ S_.2.2.1 90 0 k_.toNat ∧ S_.2.2.1 90 0 k_.toNat ≤ 4711 := hI_.2 90 0 _
        refine sm_T_go 1 (c1 := (53, [some (.inr (.inr (some (8, 0)))), some (.inl a1_), some (.inl a2_), some (.inl k_), none, none, none, none], [.inl 0, .inl (S_.2.2.1 90 0 k_.toNat), .inr (.inr (some (86, 0)))], S_)) rfl ?_
        refine sm_T_iast (n := 4712) rfl rfl (by omega) (by omega) ?_
        have hIx8_ : gi (sm_aI S_ 86 0 (S_.2.2.1 90 0 k_.toNat).toNat 0) := gi_aI hI_ (show (-1) ≤ 0 ∧ 0 ≤ 100000 from ⟨by omega, by omega⟩)
        have hFx9_ : ai_fr (sx_W vw_161) S0_ (sm_aI S_ 86 0 (S_.2.2.1 90 0 k_.toNat).toNat 0) := ai_fr_tr hF_ (ai_fr_aI rfl)
        refine sm_T_inc (a := 3) (z := 1) (v := k_) (w := k_ + 1) rfl rfl (by omega) (by omega) (by omega) ?_ -- pc_ 54
        refine sm_T_go 1 (c1 := (34, [some (.inr (.inr (some (8, 0)))), some (.inl a1_), some (.inl a2_), some (.inl (k_ + 1)), none, none, none, none], [], sm_aI S_ 86 0 (S_.2.2.1 90 0 k_.toNat).toNat 0)) rfl ?_
        refine ih_.1 (k_ + 1) (sm_aI S_ 86 0 (S_.2.2.1 90 0 k_.toNat).toNat 0) hIx8_ hFx9_ ⟨?_, ?_, ?_, ?_, trivial⟩ ?_
        · omega
        · intro p_ hp9_
          rw [rd_eq]
          split
          · right; rfl
          · exact hd_ p_ hp9_
        · intro p_ hp9_
          rw [rd_eq, e90_] at *
          by_cases y_ : p_ = (S0_.2.2.1 90 0 k_.toNat).toNat
          · rw [if_pos y_]
            exact ⟨fun _ => ⟨k_.toNat, by omega, by omega⟩, fun _ => rfl⟩
          · rw [if_neg y_, hz_ p_ hp9_]
            constructor
            · rintro ⟨i_, hi_, e_⟩; exact ⟨i_, by omega, e_⟩
            · rintro ⟨i_, hi_, e_⟩
              refine ⟨i_, ?_, e_⟩
              by_cases x_ : (i_ : Int) = k_
              · exfalso; rw [show i_ = k_.toNat by omega] at e_; omega
              · omega
        · intro i_ hi_
          rw [rd_ne (by decide)]
          exact hc_ i_ hi_
        · omega
    · rintro nh_ fh_ gd_ S_ hI_ hF_ ⟨h0_, hr_, -⟩ hm_
      have e2_ : S_.1 8 0 2 = S0_.1 8 0 2 := hF_.1 8 0 2 rfl
      have eb_ : S_.1 8 0 11 = S0_.1 8 0 11 := hF_.1 8 0 11 rfl
      have e90_ : S_.2.2.1 90 0 = S0_.2.2.1 90 0 := fr_arr hF_ rfl
      have e22_ : S_.2.2.1 22 (0 + bb_) = S0_.2.2.1 22 (0 + bb_) := fr_arr hF_ rfl
      have cL_ : 0 ≤ S_.1 8 0 2 ∧ S_.1 8 0 2 ≤ 2356 := hI_.1 8 0 2 rfl
      have ct : 0 ≤ S_.1 8 0 11 ∧ S_.1 8 0 11 ≤ 4712 := hI_.1 8 0 11 rfl
      have c6_ : 0 ≤ S_.1 8 0 6 ∧ S_.1 8 0 6 ≤ 4712 := hI_.1 8 0 6 rfl
      have c8_ : 0 ≤ S_.1 8 0 8 ∧ S_.1 8 0 8 ≤ 4712 := hI_.1 8 0 8 rfl
      have bx1_ : 0 ≤ S_.1 8 0 2 ∧ S_.1 8 0 2 ≤ 2356 := hI_.1 8 0 2 rfl
      refine sm_T_go 4 (c1 := (88, [some (.inr (.inr (some (8, 0)))), some (.inl a1_), some (.inl a2_), some (.inl nh_), some (.inl fh_), some (.inl gd_), none, none], [.inl (S_.1 8 0 2), .inl 2, .inl gd_], S_)) rfl ?_
      refine sm_T_bin (w := 2 * (S_.1 8 0 2)) rfl (bi_mul (by omega) (by omega) (by omega)) ?_ -- pc_ 88
      refine sm_T_br (a := 3) (z := 158) rfl (fun cx2_ => ?_) (fun cx2_ => ?_)
      · have cx2_ : 2 * (S_.1 8 0 2) ≤ gd_ := of_decide_eq_true cx2_
        refine sm_T_go 1 (c1 := (248, [some (.inr (.inr (some (8, 0)))), some (.inl a1_), some (.inl a2_), some (.inl nh_), some (.inl fh_), some (.inl gd_), none, none], [.inl (-1)], S_)) rfl ?_
        refine sm_T_ri rfl ⟨_, _, rfl, _, rfl, hI_, hF_, ?_⟩
        (left; rfl)
      · have cx2_ : ¬ (2 * (S_.1 8 0 2) ≤ gd_) := of_decide_eq_false cx2_
        have bx3_ : 0 ≤ S_.1 8 0 6 ∧ S_.1 8 0 6 ≤ 4712 := hI_.1 8 0 6 rfl
        refine sm_T_go 3 (c1 := (97, [some (.inr (.inr (some (8, 0)))), some (.inl a1_), some (.inl a2_), some (.inl nh_), some (.inl fh_), some (.inl gd_), none, none], [.inl (S_.1 8 0 6), .inl nh_], S_)) rfl ?_
        refine sm_T_br (a := 3) (z := 42) rfl (fun cx4_ => ?_) (fun cx4_ => ?_)
        · have cx4_ : (S_.1 8 0 6) ≤ nh_ := of_decide_eq_true cx4_
          have bx5_ : 0 ≤ S_.1 8 0 8 ∧ S_.1 8 0 8 ≤ 4712 := hI_.1 8 0 8 rfl
          refine sm_T_go 7 (c1 := (153, [some (.inr (.inr (some (8, 0)))), some (.inl a1_), some (.inl a2_), some (.inl nh_), some (.inl fh_), some (.inl gd_), some (.inl 0), none], [.inl (S_.1 8 0 8), .inl fh_], S_)) rfl ?_
          refine sm_T_br (a := 1) (z := 5) rfl (fun cx6_ => ?_) (fun cx6_ => ?_)
          · have cx6_ : fh_ ≠ (S_.1 8 0 8) := of_decide_eq_true cx6_
            have d2_ := hr_.2.2.2.2.1 fh_.toNat (by omega)
            refine sm_T_go 5 (c1 := (178, [some (.inr (.inr (some (8, 0)))), some (.inl a1_), some (.inl a2_), some (.inl nh_), some (.inl fh_), some (.inl gd_), some (.inl 0), none], [.inl fh_, .inr (.inr (some (88, 0)))], S_)) rfl ?_
            refine sm_T_iald (n := 4712) rfl rfl (by omega) (by omega) ?_
            have bx7_ : 0 ≤ S_.2.2.1 88 0 fh_.toNat ∧ S_.2.2.1 88 0 fh_.toNat ≤ 4711 := hI_.2 88 0 _
            refine sm_T_go 3 (c1 := (192, [some (.inr (.inr (some (8, 0)))), some (.inl a1_), some (.inl a2_), some (.inl nh_), some (.inl fh_), some (.inl gd_), some (.inl 0), some (.inl (S_.2.2.1 88 0 fh_.toNat))], [], S_)) rfl ?_
            refine sm_T_inc (a := 4) (z := 1) (v := fh_) (w := fh_ + 1) rfl rfl (by omega) (by omega) (by omega) ?_ -- pc_ 192
            refine sm_T_go 3 (c1 := (201, [some (.inr (.inr (some (8, 0)))), some (.inl a1_), some (.inl a2_), some (.inl nh_), some (.inl (fh_ + 1)), some (.inl gd_), some (.inl 0), some (.inl (S_.2.2.1 88 0 fh_.toNat))], [.inl (S_.2.2.1 88 0 fh_.toNat), .inr (.inr (some (85, 0)))], S_)) rfl ?_
            refine sm_T_iald (n := 4712) rfl rfl (by omega) (by omega) ?_
            have bx8_ : (-1) ≤ S_.2.2.1 85 0 (S_.2.2.1 88 0 fh_.toNat).toNat ∧ S_.2.2.1 85 0 (S_.2.2.1 88 0 fh_.toNat).toNat ≤ 161 := hI_.2 85 0 _
            refine sm_T_go 1 (c1 := (203, [some (.inr (.inr (some (8, 0)))), some (.inl a1_), some (.inl a2_), some (.inl nh_), some (.inl (fh_ + 1)), some (.inl gd_), some (.inl 0), some (.inl (S_.2.2.1 88 0 fh_.toNat))], [.inl a1_, .inl (S_.2.2.1 85 0 (S_.2.2.1 88 0 fh_.toNat).toNat)], S_)) rfl ?_
            refine sm_T_br (a := 1) (z := 30) rfl (fun cx9_ => ?_) (fun cx9_ => ?_)
            · have cx9_ : (S_.2.2.1 85 0 (S_.2.2.1 88 0 fh_.toNat).toNat) ≠ a1_ := of_decide_eq_true cx9_
              refine sm_T_go 4 (c1 := (238, [some (.inr (.inr (some (8, 0)))), some (.inl a1_), some (.inl a2_), some (.inl nh_), some (.inl (fh_ + 1)), some (.inl gd_), some (.inl 0), some (.inl (S_.2.2.1 88 0 fh_.toNat))], [.inl a2_, .inl a1_, .inl (S_.2.2.1 88 0 fh_.toNat), .inr (.inr (some (8, 0)))], S_)) rfl ?_
              refine sm_T_cal (d1 := 1) (Q1 := vq_162 (S_.2.2.1 88 0 fh_.toNat) a1_ a2_ bb_ S_) rfl rfl (by decide) (vc_162 (S_.2.2.1 88 0 fh_.toNat) a1_ a2_ bb_ S_ hI_ (by exact (hF_.2.1 8 0 0 rfl).trans hb_) (by exact rgw_fr hg_ hF_) (by exact hr_) (by omega) (by omega) (by omega)) (fun u_ Sx10_ px13_ => ?_)
              obtain ⟨rfl, hIx11_, hFx12_, px13_⟩ := px13_
              have hFx14_ : ai_fr (sx_W vw_161) S0_ Sx10_ := ai_fr_tr hF_ (fr_le hFx12_ rfl)
              have ex15_ : Sx10_.1 8 0 2 = S_.1 8 0 2 := hFx12_.1 8 0 2 rfl
              have s9_ := px13_.1
              have s8_ := px13_.2.2
              refine sm_T_inc (a := 5) (z := 1) (v := gd_) (w := gd_ + 1) rfl rfl (by omega) (by omega) (by omega) ?_ -- pc_ 241
              refine sm_T_go 1 (c1 := (81, [some (.inr (.inr (some (8, 0)))), some (.inl a1_), some (.inl a2_), some (.inl nh_), some (.inl (fh_ + 1)), some (.inl (gd_ + 1)), some (.inl 0), some (.inl (S_.2.2.1 88 0 fh_.toNat))], [], Sx10_)) rfl ?_
              refine sm_T_wk [some (.inr (.inr (some (8, 0)))), some (.inl a1_), some (.inl a2_), some (.inl nh_), some (.inl (fh_ + 1)), some (.inl (gd_ + 1)), none, none] (by exact ⟨rfl, rfl, rfl, rfl, rfl, rfl, trivial⟩) ?_
              refine ih_.2 nh_ (fh_ + 1) (gd_ + 1) Sx10_ hIx11_ hFx14_ ⟨?_, ?_, trivial⟩ ?_
              · omega
              · exact s9_
              · omega
            · have cx9_ : ¬ ((S_.2.2.1 85 0 (S_.2.2.1 88 0 fh_.toNat).toNat) ≠ a1_) := of_decide_eq_false cx9_
              refine sm_T_go 1 (c1 := (207, [some (.inr (.inr (some (8, 0)))), some (.inl a1_), some (.inl a2_), some (.inl nh_), some (.inl (fh_ + 1)), some (.inl gd_), some (.inl 0), some (.inl (S_.2.2.1 88 0 fh_.toNat))], [.inr (.inr (some (8, 0)))], S_)) rfl ?_
              refine sm_T_gr rfl rfl ((hF_.2.1 8 0 0 rfl).trans hb_) ?_
              refine sm_T_go 2 (c1 := (215, [some (.inr (.inr (some (8, 0)))), some (.inl a1_), some (.inl a2_), some (.inl nh_), some (.inl (fh_ + 1)), some (.inl gd_), some (.inl 0), some (.inl (S_.2.2.1 88 0 fh_.toNat))], [.inl (S_.2.2.1 88 0 fh_.toNat), .inr (.inr (some (22, (0 + bb_))))], S_)) rfl ?_
              refine sm_T_iald (n := 4712) rfl rfl (by omega) (by omega) ?_
              have bx16_ : (-1) ≤ S_.2.2.1 22 (0 + bb_) (S_.2.2.1 88 0 fh_.toNat).toNat ∧ S_.2.2.1 22 (0 + bb_) (S_.2.2.1 88 0 fh_.toNat).toNat ≤ 161 := hI_.2 22 (0 + bb_) _
              refine sm_T_go 1 (c1 := (217, [some (.inr (.inr (some (8, 0)))), some (.inl a1_), some (.inl a2_), some (.inl nh_), some (.inl (fh_ + 1)), some (.inl gd_), some (.inl 0), some (.inl (S_.2.2.1 88 0 fh_.toNat))], [.inl a1_, .inl (S_.2.2.1 22 (0 + bb_) (S_.2.2.1 88 0 fh_.toNat).toNat)], S_)) rfl ?_
              refine sm_T_br (a := 0) (z := 16) rfl (fun cx17_ => ?_) (fun cx17_ => ?_)
              · have cx17_ : (S_.2.2.1 22 (0 + bb_) (S_.2.2.1 88 0 fh_.toNat).toNat) = a1_ := of_decide_eq_true cx17_
                refine sm_T_go 4 (c1 := (238, [some (.inr (.inr (some (8, 0)))), some (.inl a1_), some (.inl a2_), some (.inl nh_), some (.inl (fh_ + 1)), some (.inl gd_), some (.inl 0), some (.inl (S_.2.2.1 88 0 fh_.toNat))], [.inl a2_, .inl a1_, .inl (S_.2.2.1 88 0 fh_.toNat), .inr (.inr (some (8, 0)))], S_)) rfl ?_
                refine sm_T_cal (d1 := 1) (Q1 := vq_162 (S_.2.2.1 88 0 fh_.toNat) a1_ a2_ bb_ S_) rfl rfl (by decide) (vc_162 (S_.2.2.1 88 0 fh_.toNat) a1_ a2_ bb_ S_ hI_ (by exact (hF_.2.1 8 0 0 rfl).trans hb_) (by exact rgw_fr hg_ hF_) (by exact hr_) (by omega) (by omega) (by omega)) (fun u_ Sx18_ px21_ => ?_)
                obtain ⟨rfl, hIx19_, hFx20_, px21_⟩ := px21_
                have hFx22_ : ai_fr (sx_W vw_161) S0_ Sx18_ := ai_fr_tr hF_ (fr_le hFx20_ rfl)
                have ex23_ : Sx18_.1 8 0 2 = S_.1 8 0 2 := hFx20_.1 8 0 2 rfl
                have s9_ := px21_.1
                have s8_ := px21_.2.2
                refine sm_T_inc (a := 5) (z := 1) (v := gd_) (w := gd_ + 1) rfl rfl (by omega) (by omega) (by omega) ?_ -- pc_ 241
                refine sm_T_go 1 (c1 := (81, [some (.inr (.inr (some (8, 0)))), some (.inl a1_), some (.inl a2_), some (.inl nh_), some (.inl (fh_ + 1)), some (.inl (gd_ + 1)), some (.inl 0), some (.inl (S_.2.2.1 88 0 fh_.toNat))], [], Sx18_)) rfl ?_
                refine sm_T_wk [some (.inr (.inr (some (8, 0)))), some (.inl a1_), some (.inl a2_), some (.inl nh_), some (.inl (fh_ + 1)), some (.inl (gd_ + 1)), none, none] (by exact ⟨rfl, rfl, rfl, rfl, rfl, rfl, trivial⟩) ?_
                refine ih_.2 nh_ (fh_ + 1) (gd_ + 1) Sx18_ hIx19_ hFx22_ ⟨?_, ?_, trivial⟩ ?_
                · omega
                · exact s9_
                · omega
              · have cx17_ : ¬ ((S_.2.2.1 22 (0 + bb_) (S_.2.2.1 88 0 fh_.toNat).toNat) = a1_) := of_decide_eq_false cx17_
                refine sm_T_go 5 (c1 := (228, [some (.inr (.inr (some (8, 0)))), some (.inl a1_), some (.inl a2_), some (.inl nh_), some (.inl (fh_ + 1)), some (.inl gd_), some (.inl 0), some (.inl (S_.2.2.1 88 0 fh_.toNat))], [.inl (S_.2.2.1 88 0 fh_.toNat), .inr (.inr (some (86, 0))), .inl a1_, .inr (.inr (some (8, 0)))], S_)) rfl ?_
                refine sm_T_iald (n := 4712) rfl rfl (by omega) (by omega) ?_
                have bx24_ : (-1) ≤ S_.2.2.1 86 0 (S_.2.2.1 88 0 fh_.toNat).toNat ∧ S_.2.2.1 86 0 (S_.2.2.1 88 0 fh_.toNat).toNat ≤ 100000 := hI_.2 86 0 _
                refine sm_T_cal (d1 := 2) (Q1 := vq_158 a1_ (S_.2.2.1 86 0 (S_.2.2.1 88 0 fh_.toNat).toNat) bb_ S_) rfl rfl (by decide) (vc_158 a1_ (S_.2.2.1 86 0 (S_.2.2.1 88 0 fh_.toNat).toNat) bb_ S_ hI_ (by exact (hF_.2.1 8 0 0 rfl).trans hb_) (by omega) (by exact bpn_fr hn_ hF_ rfl rfl rfl rfl) (by exact rpt_fr hp_ hF_)) (fun u_ Sx25_ px28_ => ?_)
                obtain ⟨rfl, vx30_, rfl, px28_⟩ := px28_
                have n9_ := px28_
                have k9_ : S_.2.2.1 86 0 (vx30_).toNat = 0 → S_.2.2.1 22 (0 + bb_) (vx30_).toNat ≠ a1_ → 0 ≤ vx30_ → vx30_ < 2 * S_.1 8 0 2 → False := fun y_ w_ z1_ z2_ => w_ ((hr_.1 _ (by omega)).mp y_)
                refine sm_T_ri rfl ⟨_, _, rfl, _, rfl, hI_, hF_, ?_⟩
                rcases n9_ with u9_ | u9_
                · left; exact u9_.1
                · right
                  obtain ⟨v1_, v2_, v3_⟩ := u9_
                  rcases v3_ with v3_ | v3_
                  · exfalso; omega
                  · refine ⟨by omega, hr_, ?_, v2_⟩
                    exact Decidable.byContradiction fun q9_ => k9_ (by omega) v2_ (by omega) (by omega)
          · have cx6_ : ¬ (fh_ ≠ (S_.1 8 0 8)) := of_decide_eq_false cx6_
            refine sm_T_go 1 (c1 := (157, [some (.inr (.inr (some (8, 0)))), some (.inl a1_), some (.inl a2_), some (.inl nh_), some (.inl fh_), some (.inl gd_), some (.inl 0), none], [.inl (-1)], S_)) rfl ?_
            refine sm_T_ri rfl ⟨_, _, rfl, _, rfl, hI_, hF_, ?_⟩
            (left; rfl)
        · have cx4_ : ¬ ((S_.1 8 0 6) ≤ nh_) := of_decide_eq_false cx4_
          have d1_ := hr_.2.2.2.1 nh_.toNat (by omega)
          have bx31_ : 0 ≤ S_.1 8 0 8 ∧ S_.1 8 0 8 ≤ 4712 := hI_.1 8 0 8 rfl
          refine sm_T_go 3 (c1 := (106, [some (.inr (.inr (some (8, 0)))), some (.inl a1_), some (.inl a2_), some (.inl nh_), some (.inl fh_), some (.inl gd_), none, none], [.inl (S_.1 8 0 8), .inl fh_], S_)) rfl ?_
          refine sm_T_br (a := 0) (z := 29) rfl (fun cx32_ => ?_) (fun cx32_ => ?_)
          · have cx32_ : fh_ = (S_.1 8 0 8) := of_decide_eq_true cx32_
            refine sm_T_go 10 (c1 := (168, [some (.inr (.inr (some (8, 0)))), some (.inl a1_), some (.inl a2_), some (.inl nh_), some (.inl fh_), some (.inl gd_), some (.inl 1), none], [.inl nh_, .inr (.inr (some (87, 0)))], S_)) rfl ?_
            refine sm_T_iald (n := 4712) rfl rfl (by omega) (by omega) ?_
            have bx33_ : 0 ≤ S_.2.2.1 87 0 nh_.toNat ∧ S_.2.2.1 87 0 nh_.toNat ≤ 4711 := hI_.2 87 0 _
            refine sm_T_go 4 (c1 := (186, [some (.inr (.inr (some (8, 0)))), some (.inl a1_), some (.inl a2_), some (.inl nh_), some (.inl fh_), some (.inl gd_), some (.inl 1), some (.inl (S_.2.2.1 87 0 nh_.toNat))], [], S_)) rfl ?_
            refine sm_T_inc (a := 3) (z := 1) (v := nh_) (w := nh_ + 1) rfl rfl (by omega) (by omega) (by omega) ?_ -- pc_ 186
            refine sm_T_go 4 (c1 := (201, [some (.inr (.inr (some (8, 0)))), some (.inl a1_), some (.inl a2_), some (.inl (nh_ + 1)), some (.inl fh_), some (.inl gd_), some (.inl 1), some (.inl (S_.2.2.1 87 0 nh_.toNat))], [.inl (S_.2.2.1 87 0 nh_.toNat), .inr (.inr (some (85, 0)))], S_)) rfl ?_
            refine sm_T_iald (n := 4712) rfl rfl (by omega) (by omega) ?_
            have bx34_ : (-1) ≤ S_.2.2.1 85 0 (S_.2.2.1 87 0 nh_.toNat).toNat ∧ S_.2.2.1 85 0 (S_.2.2.1 87 0 nh_.toNat).toNat ≤ 161 := hI_.2 85 0 _
            refine sm_T_go 1 (c1 := (203, [some (.inr (.inr (some (8, 0)))), some (.inl a1_), some (.inl a2_), some (.inl (nh_ + 1)), some (.inl fh_), some (.inl gd_), some (.inl 1), some (.inl (S_.2.2.1 87 0 nh_.toNat))], [.inl a1_, .inl (S_.2.2.1 85 0 (S_.2.2.1 87 0 nh_.toNat).toNat)], S_)) rfl ?_
            refine sm_T_br (a := 1) (z := 30) rfl (fun cx35_ => ?_) (fun cx35_ => ?_)
            · have cx35_ : (S_.2.2.1 85 0 (S_.2.2.1 87 0 nh_.toNat).toNat) ≠ a1_ := of_decide_eq_true cx35_
              refine sm_T_go 4 (c1 := (238, [some (.inr (.inr (some (8, 0)))), some (.inl a1_), some (.inl a2_), some (.inl (nh_ + 1)), some (.inl fh_), some (.inl gd_), some (.inl 1), some (.inl (S_.2.2.1 87 0 nh_.toNat))], [.inl a2_, .inl a1_, .inl (S_.2.2.1 87 0 nh_.toNat), .inr (.inr (some (8, 0)))], S_)) rfl ?_
              refine sm_T_cal (d1 := 1) (Q1 := vq_162 (S_.2.2.1 87 0 nh_.toNat) a1_ a2_ bb_ S_) rfl rfl (by decide) (vc_162 (S_.2.2.1 87 0 nh_.toNat) a1_ a2_ bb_ S_ hI_ (by exact (hF_.2.1 8 0 0 rfl).trans hb_) (by exact rgw_fr hg_ hF_) (by exact hr_) (by omega) (by omega) (by omega)) (fun u_ Sx36_ px39_ => ?_)
              obtain ⟨rfl, hIx37_, hFx38_, px39_⟩ := px39_
              have hFx40_ : ai_fr (sx_W vw_161) S0_ Sx36_ := ai_fr_tr hF_ (fr_le hFx38_ rfl)
              have ex41_ : Sx36_.1 8 0 2 = S_.1 8 0 2 := hFx38_.1 8 0 2 rfl
              have s9_ := px39_.1
              have s8_ := px39_.2.2
              refine sm_T_inc (a := 5) (z := 1) (v := gd_) (w := gd_ + 1) rfl rfl (by omega) (by omega) (by omega) ?_ -- pc_ 241
              refine sm_T_go 1 (c1 := (81, [some (.inr (.inr (some (8, 0)))), some (.inl a1_), some (.inl a2_), some (.inl (nh_ + 1)), some (.inl fh_), some (.inl (gd_ + 1)), some (.inl 1), some (.inl (S_.2.2.1 87 0 nh_.toNat))], [], Sx36_)) rfl ?_
              refine sm_T_wk [some (.inr (.inr (some (8, 0)))), some (.inl a1_), some (.inl a2_), some (.inl (nh_ + 1)), some (.inl fh_), some (.inl (gd_ + 1)), none, none] (by exact ⟨rfl, rfl, rfl, rfl, rfl, rfl, trivial⟩) ?_
              refine ih_.2 (nh_ + 1) fh_ (gd_ + 1) Sx36_ hIx37_ hFx40_ ⟨?_, ?_, trivial⟩ ?_
              · omega
              · exact s9_
              · omega
            · have cx35_ : ¬ ((S_.2.2.1 85 0 (S_.2.2.1 87 0 nh_.toNat).toNat) ≠ a1_) := of_decide_eq_false cx35_
              refine sm_T_go 1 (c1 := (207, [some (.inr (.inr (some (8, 0)))), some (.inl a1_), some (.inl a2_), some (.inl (nh_ + 1)), some (.inl fh_), some (.inl gd_), some (.inl 1), some (.inl (S_.2.2.1 87 0 nh_.toNat))], [.inr (.inr (some (8, 0)))], S_)) rfl ?_
              refine sm_T_gr rfl rfl ((hF_.2.1 8 0 0 rfl).trans hb_) ?_
              refine sm_T_go 2 (c1 := (215, [some (.inr (.inr (some (8, 0)))), some (.inl a1_), some (.inl a2_), some (.inl (nh_ + 1)), some (.inl fh_), some (.inl gd_), some (.inl 1), some (.inl (S_.2.2.1 87 0 nh_.toNat))], [.inl (S_.2.2.1 87 0 nh_.toNat), .inr (.inr (some (22, (0 + bb_))))], S_)) rfl ?_
              refine sm_T_iald (n := 4712) rfl rfl (by omega) (by omega) ?_
              have bx42_ : (-1) ≤ S_.2.2.1 22 (0 + bb_) (S_.2.2.1 87 0 nh_.toNat).toNat ∧ S_.2.2.1 22 (0 + bb_) (S_.2.2.1 87 0 nh_.toNat).toNat ≤ 161 := hI_.2 22 (0 + bb_) _
              refine sm_T_go 1 (c1 := (217, [some (.inr (.inr (some (8, 0)))), some (.inl a1_), some (.inl a2_), some (.inl (nh_ + 1)), some (.inl fh_), some (.inl gd_), some (.inl 1), some (.inl (S_.2.2.1 87 0 nh_.toNat))], [.inl a1_, .inl (S_.2.2.1 22 (0 + bb_) (S_.2.2.1 87 0 nh_.toNat).toNat)], S_)) rfl ?_
              refine sm_T_br (a := 0) (z := 16) rfl (fun cx43_ => ?_) (fun cx43_ => ?_)
              · have cx43_ : (S_.2.2.1 22 (0 + bb_) (S_.2.2.1 87 0 nh_.toNat).toNat) = a1_ := of_decide_eq_true cx43_
                refine sm_T_go 4 (c1 := (238, [some (.inr (.inr (some (8, 0)))), some (.inl a1_), some (.inl a2_), some (.inl (nh_ + 1)), some (.inl fh_), some (.inl gd_), some (.inl 1), some (.inl (S_.2.2.1 87 0 nh_.toNat))], [.inl a2_, .inl a1_, .inl (S_.2.2.1 87 0 nh_.toNat), .inr (.inr (some (8, 0)))], S_)) rfl ?_
                refine sm_T_cal (d1 := 1) (Q1 := vq_162 (S_.2.2.1 87 0 nh_.toNat) a1_ a2_ bb_ S_) rfl rfl (by decide) (vc_162 (S_.2.2.1 87 0 nh_.toNat) a1_ a2_ bb_ S_ hI_ (by exact (hF_.2.1 8 0 0 rfl).trans hb_) (by exact rgw_fr hg_ hF_) (by exact hr_) (by omega) (by omega) (by omega)) (fun u_ Sx44_ px47_ => ?_)
                obtain ⟨rfl, hIx45_, hFx46_, px47_⟩ := px47_
                have hFx48_ : ai_fr (sx_W vw_161) S0_ Sx44_ := ai_fr_tr hF_ (fr_le hFx46_ rfl)
                have ex49_ : Sx44_.1 8 0 2 = S_.1 8 0 2 := hFx46_.1 8 0 2 rfl
                have s9_ := px47_.1
                have s8_ := px47_.2.2
                refine sm_T_inc (a := 5) (z := 1) (v := gd_) (w := gd_ + 1) rfl rfl (by omega) (by omega) (by omega) ?_ -- pc_ 241
                refine sm_T_go 1 (c1 := (81, [some (.inr (.inr (some (8, 0)))), some (.inl a1_), some (.inl a2_), some (.inl (nh_ + 1)), some (.inl fh_), some (.inl (gd_ + 1)), some (.inl 1), some (.inl (S_.2.2.1 87 0 nh_.toNat))], [], Sx44_)) rfl ?_
                refine sm_T_wk [some (.inr (.inr (some (8, 0)))), some (.inl a1_), some (.inl a2_), some (.inl (nh_ + 1)), some (.inl fh_), some (.inl (gd_ + 1)), none, none] (by exact ⟨rfl, rfl, rfl, rfl, rfl, rfl, trivial⟩) ?_
                refine ih_.2 (nh_ + 1) fh_ (gd_ + 1) Sx44_ hIx45_ hFx48_ ⟨?_, ?_, trivial⟩ ?_
                · omega
                · exact s9_
                · omega
              · have cx43_ : ¬ ((S_.2.2.1 22 (0 + bb_) (S_.2.2.1 87 0 nh_.toNat).toNat) = a1_) := of_decide_eq_false cx43_
                refine sm_T_go 5 (c1 := (228, [some (.inr (.inr (some (8, 0)))), some (.inl a1_), some (.inl a2_), some (.inl (nh_ + 1)), some (.inl fh_), some (.inl gd_), some (.inl 1), some (.inl (S_.2.2.1 87 0 nh_.toNat))], [.inl (S_.2.2.1 87 0 nh_.toNat), .inr (.inr (some (86, 0))), .inl a1_, .inr (.inr (some (8, 0)))], S_)) rfl ?_
                refine sm_T_iald (n := 4712) rfl rfl (by omega) (by omega) ?_
                have bx50_ : (-1) ≤ S_.2.2.1 86 0 (S_.2.2.1 87 0 nh_.toNat).toNat ∧ S_.2.2.1 86 0 (S_.2.2.1 87 0 nh_.toNat).toNat ≤ 100000 := hI_.2 86 0 _
                refine sm_T_cal (d1 := 2) (Q1 := vq_158 a1_ (S_.2.2.1 86 0 (S_.2.2.1 87 0 nh_.toNat).toNat) bb_ S_) rfl rfl (by decide) (vc_158 a1_ (S_.2.2.1 86 0 (S_.2.2.1 87 0 nh_.toNat).toNat) bb_ S_ hI_ (by exact (hF_.2.1 8 0 0 rfl).trans hb_) (by omega) (by exact bpn_fr hn_ hF_ rfl rfl rfl rfl) (by exact rpt_fr hp_ hF_)) (fun u_ Sx51_ px54_ => ?_)
                obtain ⟨rfl, vx56_, rfl, px54_⟩ := px54_
                have n9_ := px54_
                have k9_ : S_.2.2.1 86 0 (vx56_).toNat = 0 → S_.2.2.1 22 (0 + bb_) (vx56_).toNat ≠ a1_ → 0 ≤ vx56_ → vx56_ < 2 * S_.1 8 0 2 → False := fun y_ w_ z1_ z2_ => w_ ((hr_.1 _ (by omega)).mp y_)
                refine sm_T_ri rfl ⟨_, _, rfl, _, rfl, hI_, hF_, ?_⟩
                rcases n9_ with u9_ | u9_
                · left; exact u9_.1
                · right
                  obtain ⟨v1_, v2_, v3_⟩ := u9_
                  rcases v3_ with v3_ | v3_
                  · exfalso; omega
                  · refine ⟨by omega, hr_, ?_, v2_⟩
                    exact Decidable.byContradiction fun q9_ => k9_ (by omega) v2_ (by omega) (by omega)
          · have cx32_ : ¬ (fh_ = (S_.1 8 0 8)) := of_decide_eq_false cx32_
            have d2_ := hr_.2.2.2.2.1 fh_.toNat (by omega)
            refine sm_T_go 5 (c1 := (118, [some (.inr (.inr (some (8, 0)))), some (.inl a1_), some (.inl a2_), some (.inl nh_), some (.inl fh_), some (.inl gd_), none, none], [.inl nh_, .inr (.inr (some (87, 0))), .inr (.inr (some (86, 0)))], S_)) rfl ?_
            refine sm_T_iald (n := 4712) rfl rfl (by omega) (by omega) ?_
            have bx57_ : 0 ≤ S_.2.2.1 87 0 nh_.toNat ∧ S_.2.2.1 87 0 nh_.toNat ≤ 4711 := hI_.2 87 0 _
            refine sm_T_iald (n := 4712) rfl rfl (by omega) (by omega) ?_
            have bx58_ : (-1) ≤ S_.2.2.1 86 0 (S_.2.2.1 87 0 nh_.toNat).toNat ∧ S_.2.2.1 86 0 (S_.2.2.1 87 0 nh_.toNat).toNat ≤ 100000 := hI_.2 86 0 _
            refine sm_T_go 5 (c1 := (130, [some (.inr (.inr (some (8, 0)))), some (.inl a1_), some (.inl a2_), some (.inl nh_), some (.inl fh_), some (.inl gd_), none, none], [.inl fh_, .inr (.inr (some (88, 0))), .inr (.inr (some (86, 0))), .inl (S_.2.2.1 86 0 (S_.2.2.1 87 0 nh_.toNat).toNat)], S_)) rfl ?_
            refine sm_T_iald (n := 4712) rfl rfl (by omega) (by omega) ?_
            have bx59_ : 0 ≤ S_.2.2.1 88 0 fh_.toNat ∧ S_.2.2.1 88 0 fh_.toNat ≤ 4711 := hI_.2 88 0 _
            refine sm_T_iald (n := 4712) rfl rfl (by omega) (by omega) ?_
            have bx60_ : (-1) ≤ S_.2.2.1 86 0 (S_.2.2.1 88 0 fh_.toNat).toNat ∧ S_.2.2.1 86 0 (S_.2.2.1 88 0 fh_.toNat).toNat ≤ 100000 := hI_.2 86 0 _
            refine sm_T_br (a := 4) (z := 7) rfl (fun cx61_ => ?_) (fun cx61_ => ?_)
            · have cx61_ : (S_.2.2.1 86 0 (S_.2.2.1 88 0 fh_.toNat).toNat) < (S_.2.2.1 86 0 (S_.2.2.1 87 0 nh_.toNat).toNat) := of_decide_eq_true cx61_
              refine sm_T_go 7 (c1 := (153, [some (.inr (.inr (some (8, 0)))), some (.inl a1_), some (.inl a2_), some (.inl nh_), some (.inl fh_), some (.inl gd_), some (.inl 0), none], [.inl (S_.1 8 0 8), .inl fh_], S_)) rfl ?_
              refine sm_T_br (a := 1) (z := 5) rfl (fun cx62_ => ?_) (fun cx62_ => ?_)
              · have cx62_ : fh_ ≠ (S_.1 8 0 8) := of_decide_eq_true cx62_
                have d2_ := hr_.2.2.2.2.1 fh_.toNat (by omega)
                refine sm_T_go 5 (c1 := (178, [some (.inr (.inr (some (8, 0)))), some (.inl a1_), some (.inl a2_), some (.inl nh_), some (.inl fh_), some (.inl gd_), some (.inl 0), none], [.inl fh_, .inr (.inr (some (88, 0)))], S_)) rfl ?_
                refine sm_T_iald (n := 4712) rfl rfl (by omega) (by omega) ?_
                refine sm_T_go 3 (c1 := (192, [some (.inr (.inr (some (8, 0)))), some (.inl a1_), some (.inl a2_), some (.inl nh_), some (.inl fh_), some (.inl gd_), some (.inl 0), some (.inl (S_.2.2.1 88 0 fh_.toNat))], [], S_)) rfl ?_
                refine sm_T_inc (a := 4) (z := 1) (v := fh_) (w := fh_ + 1) rfl rfl (by omega) (by omega) (by omega) ?_ -- pc_ 192
                refine sm_T_go 3 (c1 := (201, [some (.inr (.inr (some (8, 0)))), some (.inl a1_), some (.inl a2_), some (.inl nh_), some (.inl (fh_ + 1)), some (.inl gd_), some (.inl 0), some (.inl (S_.2.2.1 88 0 fh_.toNat))], [.inl (S_.2.2.1 88 0 fh_.toNat), .inr (.inr (some (85, 0)))], S_)) rfl ?_
                refine sm_T_iald (n := 4712) rfl rfl (by omega) (by omega) ?_
                have bx63_ : (-1) ≤ S_.2.2.1 85 0 (S_.2.2.1 88 0 fh_.toNat).toNat ∧ S_.2.2.1 85 0 (S_.2.2.1 88 0 fh_.toNat).toNat ≤ 161 := hI_.2 85 0 _
                refine sm_T_go 1 (c1 := (203, [some (.inr (.inr (some (8, 0)))), some (.inl a1_), some (.inl a2_), some (.inl nh_), some (.inl (fh_ + 1)), some (.inl gd_), some (.inl 0), some (.inl (S_.2.2.1 88 0 fh_.toNat))], [.inl a1_, .inl (S_.2.2.1 85 0 (S_.2.2.1 88 0 fh_.toNat).toNat)], S_)) rfl ?_
                refine sm_T_br (a := 1) (z := 30) rfl (fun cx64_ => ?_) (fun cx64_ => ?_)
                · have cx64_ : (S_.2.2.1 85 0 (S_.2.2.1 88 0 fh_.toNat).toNat) ≠ a1_ := of_decide_eq_true cx64_
                  refine sm_T_go 4 (c1 := (238, [some (.inr (.inr (some (8, 0)))), some (.inl a1_), some (.inl a2_), some (.inl nh_), some (.inl (fh_ + 1)), some (.inl gd_), some (.inl 0), some (.inl (S_.2.2.1 88 0 fh_.toNat))], [.inl a2_, .inl a1_, .inl (S_.2.2.1 88 0 fh_.toNat), .inr (.inr (some (8, 0)))], S_)) rfl ?_
                  refine sm_T_cal (d1 := 1) (Q1 := vq_162 (S_.2.2.1 88 0 fh_.toNat) a1_ a2_ bb_ S_) rfl rfl (by decide) (vc_162 (S_.2.2.1 88 0 fh_.toNat) a1_ a2_ bb_ S_ hI_ (by exact (hF_.2.1 8 0 0 rfl).trans hb_) (by exact rgw_fr hg_ hF_) (by exact hr_) (by omega) (by omega) (by omega)) (fun u_ Sx65_ px68_ => ?_)
                  obtain ⟨rfl, hIx66_, hFx67_, px68_⟩ := px68_
                  have hFx69_ : ai_fr (sx_W vw_161) S0_ Sx65_ := ai_fr_tr hF_ (fr_le hFx67_ rfl)
                  have ex70_ : Sx65_.1 8 0 2 = S_.1 8 0 2 := hFx67_.1 8 0 2 rfl
                  have s9_ := px68_.1
                  have s8_ := px68_.2.2
                  refine sm_T_inc (a := 5) (z := 1) (v := gd_) (w := gd_ + 1) rfl rfl (by omega) (by omega) (by omega) ?_ -- pc_ 241
                  refine sm_T_go 1 (c1 := (81, [some (.inr (.inr (some (8, 0)))), some (.inl a1_), some (.inl a2_), some (.inl nh_), some (.inl (fh_ + 1)), some (.inl (gd_ + 1)), some (.inl 0), some (.inl (S_.2.2.1 88 0 fh_.toNat))], [], Sx65_)) rfl ?_
                  refine sm_T_wk [some (.inr (.inr (some (8, 0)))), some (.inl a1_), some (.inl a2_), some (.inl nh_), some (.inl (fh_ + 1)), some (.inl (gd_ + 1)), none, none] (by exact ⟨rfl, rfl, rfl, rfl, rfl, rfl, trivial⟩) ?_
                  refine ih_.2 nh_ (fh_ + 1) (gd_ + 1) Sx65_ hIx66_ hFx69_ ⟨?_, ?_, trivial⟩ ?_
                  · omega
                  · exact s9_
                  · omega
                · have cx64_ : ¬ ((S_.2.2.1 85 0 (S_.2.2.1 88 0 fh_.toNat).toNat) ≠ a1_) := of_decide_eq_false cx64_
                  refine sm_T_go 1 (c1 := (207, [some (.inr (.inr (some (8, 0)))), some (.inl a1_), some (.inl a2_), some (.inl nh_), some (.inl (fh_ + 1)), some (.inl gd_), some (.inl 0), some (.inl (S_.2.2.1 88 0 fh_.toNat))], [.inr (.inr (some (8, 0)))], S_)) rfl ?_
                  refine sm_T_gr rfl rfl ((hF_.2.1 8 0 0 rfl).trans hb_) ?_
                  refine sm_T_go 2 (c1 := (215, [some (.inr (.inr (some (8, 0)))), some (.inl a1_), some (.inl a2_), some (.inl nh_), some (.inl (fh_ + 1)), some (.inl gd_), some (.inl 0), some (.inl (S_.2.2.1 88 0 fh_.toNat))], [.inl (S_.2.2.1 88 0 fh_.toNat), .inr (.inr (some (22, (0 + bb_))))], S_)) rfl ?_
                  refine sm_T_iald (n := 4712) rfl rfl (by omega) (by omega) ?_
                  have bx71_ : (-1) ≤ S_.2.2.1 22 (0 + bb_) (S_.2.2.1 88 0 fh_.toNat).toNat ∧ S_.2.2.1 22 (0 + bb_) (S_.2.2.1 88 0 fh_.toNat).toNat ≤ 161 := hI_.2 22 (0 + bb_) _
                  refine sm_T_go 1 (c1 := (217, [some (.inr (.inr (some (8, 0)))), some (.inl a1_), some (.inl a2_), some (.inl nh_), some (.inl (fh_ + 1)), some (.inl gd_), some (.inl 0), some (.inl (S_.2.2.1 88 0 fh_.toNat))], [.inl a1_, .inl (S_.2.2.1 22 (0 + bb_) (S_.2.2.1 88 0 fh_.toNat).toNat)], S_)) rfl ?_
                  refine sm_T_br (a := 0) (z := 16) rfl (fun cx72_ => ?_) (fun cx72_ => ?_)
                  · have cx72_ : (S_.2.2.1 22 (0 + bb_) (S_.2.2.1 88 0 fh_.toNat).toNat) = a1_ := of_decide_eq_true cx72_
                    refine sm_T_go 4 (c1 := (238, [some (.inr (.inr (some (8, 0)))), some (.inl a1_), some (.inl a2_), some (.inl nh_), some (.inl (fh_ + 1)), some (.inl gd_), some (.inl 0), some (.inl (S_.2.2.1 88 0 fh_.toNat))], [.inl a2_, .inl a1_, .inl (S_.2.2.1 88 0 fh_.toNat), .inr (.inr (some (8, 0)))], S_)) rfl ?_
                    refine sm_T_cal (d1 := 1) (Q1 := vq_162 (S_.2.2.1 88 0 fh_.toNat) a1_ a2_ bb_ S_) rfl rfl (by decide) (vc_162 (S_.2.2.1 88 0 fh_.toNat) a1_ a2_ bb_ S_ hI_ (by exact (hF_.2.1 8 0 0 rfl).trans hb_) (by exact rgw_fr hg_ hF_) (by exact hr_) (by omega) (by omega) (by omega)) (fun u_ Sx73_ px76_ => ?_)
                    obtain ⟨rfl, hIx74_, hFx75_, px76_⟩ := px76_
                    have hFx77_ : ai_fr (sx_W vw_161) S0_ Sx73_ := ai_fr_tr hF_ (fr_le hFx75_ rfl)
                    have ex78_ : Sx73_.1 8 0 2 = S_.1 8 0 2 := hFx75_.1 8 0 2 rfl
                    have s9_ := px76_.1
                    have s8_ := px76_.2.2
                    refine sm_T_inc (a := 5) (z := 1) (v := gd_) (w := gd_ + 1) rfl rfl (by omega) (by omega) (by omega) ?_ -- pc_ 241
                    refine sm_T_go 1 (c1 := (81, [some (.inr (.inr (some (8, 0)))), some (.inl a1_), some (.inl a2_), some (.inl nh_), some (.inl (fh_ + 1)), some (.inl (gd_ + 1)), some (.inl 0), some (.inl (S_.2.2.1 88 0 fh_.toNat))], [], Sx73_)) rfl ?_
                    refine sm_T_wk [some (.inr (.inr (some (8, 0)))), some (.inl a1_), some (.inl a2_), some (.inl nh_), some (.inl (fh_ + 1)), some (.inl (gd_ + 1)), none, none] (by exact ⟨rfl, rfl, rfl, rfl, rfl, rfl, trivial⟩) ?_
                    refine ih_.2 nh_ (fh_ + 1) (gd_ + 1) Sx73_ hIx74_ hFx77_ ⟨?_, ?_, trivial⟩ ?_
                    · omega
                    · exact s9_
                    · omega
                  · have cx72_ : ¬ ((S_.2.2.1 22 (0 + bb_) (S_.2.2.1 88 0 fh_.toNat).toNat) = a1_) := of_decide_eq_false cx72_
                    refine sm_T_go 5 (c1 := (228, [some (.inr (.inr (some (8, 0)))), some (.inl a1_), some (.inl a2_), some (.inl nh_), some (.inl (fh_ + 1)), some (.inl gd_), some (.inl 0), some (.inl (S_.2.2.1 88 0 fh_.toNat))], [.inl (S_.2.2.1 88 0 fh_.toNat), .inr (.inr (some (86, 0))), .inl a1_, .inr (.inr (some (8, 0)))], S_)) rfl ?_
                    refine sm_T_iald (n := 4712) rfl rfl (by omega) (by omega) ?_
                    refine sm_T_cal (d1 := 2) (Q1 := vq_158 a1_ (S_.2.2.1 86 0 (S_.2.2.1 88 0 fh_.toNat).toNat) bb_ S_) rfl rfl (by decide) (vc_158 a1_ (S_.2.2.1 86 0 (S_.2.2.1 88 0 fh_.toNat).toNat) bb_ S_ hI_ (by exact (hF_.2.1 8 0 0 rfl).trans hb_) (by omega) (by exact bpn_fr hn_ hF_ rfl rfl rfl rfl) (by exact rpt_fr hp_ hF_)) (fun u_ Sx79_ px82_ => ?_)
                    obtain ⟨rfl, vx84_, rfl, px82_⟩ := px82_
                    have n9_ := px82_
                    have k9_ : S_.2.2.1 86 0 (vx84_).toNat = 0 → S_.2.2.1 22 (0 + bb_) (vx84_).toNat ≠ a1_ → 0 ≤ vx84_ → vx84_ < 2 * S_.1 8 0 2 → False := fun y_ w_ z1_ z2_ => w_ ((hr_.1 _ (by omega)).mp y_)
                    refine sm_T_ri rfl ⟨_, _, rfl, _, rfl, hI_, hF_, ?_⟩
                    rcases n9_ with u9_ | u9_
                    · left; exact u9_.1
                    · right
                      obtain ⟨v1_, v2_, v3_⟩ := u9_
                      rcases v3_ with v3_ | v3_
                      · exfalso; omega
                      · refine ⟨by omega, hr_, ?_, v2_⟩
                        exact Decidable.byContradiction fun q9_ => k9_ (by omega) v2_ (by omega) (by omega)
              · have cx62_ : ¬ (fh_ ≠ (S_.1 8 0 8)) := of_decide_eq_false cx62_
                refine sm_T_go 1 (c1 := (157, [some (.inr (.inr (some (8, 0)))), some (.inl a1_), some (.inl a2_), some (.inl nh_), some (.inl fh_), some (.inl gd_), some (.inl 0), none], [.inl (-1)], S_)) rfl ?_
                refine sm_T_ri rfl ⟨_, _, rfl, _, rfl, hI_, hF_, ?_⟩
                (left; rfl)
            · have cx61_ : ¬ ((S_.2.2.1 86 0 (S_.2.2.1 88 0 fh_.toNat).toNat) < (S_.2.2.1 86 0 (S_.2.2.1 87 0 nh_.toNat).toNat)) := of_decide_eq_false cx61_
              refine sm_T_go 10 (c1 := (168, [some (.inr (.inr (some (8, 0)))), some (.inl a1_), some (.inl a2_), some (.inl nh_), some (.inl fh_), some (.inl gd_), some (.inl 1), none], [.inl nh_, .inr (.inr (some (87, 0)))], S_)) rfl ?_
              refine sm_T_iald (n := 4712) rfl rfl (by omega) (by omega) ?_
              refine sm_T_go 4 (c1 := (186, [some (.inr (.inr (some (8, 0)))), some (.inl a1_), some (.inl a2_), some (.inl nh_), some (.inl fh_), some (.inl gd_), some (.inl 1), some (.inl (S_.2.2.1 87 0 nh_.toNat))], [], S_)) rfl ?_
              refine sm_T_inc (a := 3) (z := 1) (v := nh_) (w := nh_ + 1) rfl rfl (by omega) (by omega) (by omega) ?_ -- pc_ 186
              refine sm_T_go 4 (c1 := (201, [some (.inr (.inr (some (8, 0)))), some (.inl a1_), some (.inl a2_), some (.inl (nh_ + 1)), some (.inl fh_), some (.inl gd_), some (.inl 1), some (.inl (S_.2.2.1 87 0 nh_.toNat))], [.inl (S_.2.2.1 87 0 nh_.toNat), .inr (.inr (some (85, 0)))], S_)) rfl ?_
              refine sm_T_iald (n := 4712) rfl rfl (by omega) (by omega) ?_
              have bx85_ : (-1) ≤ S_.2.2.1 85 0 (S_.2.2.1 87 0 nh_.toNat).toNat ∧ S_.2.2.1 85 0 (S_.2.2.1 87 0 nh_.toNat).toNat ≤ 161 := hI_.2 85 0 _
              refine sm_T_go 1 (c1 := (203, [some (.inr (.inr (some (8, 0)))), some (.inl a1_), some (.inl a2_), some (.inl (nh_ + 1)), some (.inl fh_), some (.inl gd_), some (.inl 1), some (.inl (S_.2.2.1 87 0 nh_.toNat))], [.inl a1_, .inl (S_.2.2.1 85 0 (S_.2.2.1 87 0 nh_.toNat).toNat)], S_)) rfl ?_
              refine sm_T_br (a := 1) (z := 30) rfl (fun cx86_ => ?_) (fun cx86_ => ?_)
              · have cx86_ : (S_.2.2.1 85 0 (S_.2.2.1 87 0 nh_.toNat).toNat) ≠ a1_ := of_decide_eq_true cx86_
                refine sm_T_go 4 (c1 := (238, [some (.inr (.inr (some (8, 0)))), some (.inl a1_), some (.inl a2_), some (.inl (nh_ + 1)), some (.inl fh_), some (.inl gd_), some (.inl 1), some (.inl (S_.2.2.1 87 0 nh_.toNat))], [.inl a2_, .inl a1_, .inl (S_.2.2.1 87 0 nh_.toNat), .inr (.inr (some (8, 0)))], S_)) rfl ?_
                refine sm_T_cal (d1 := 1) (Q1 := vq_162 (S_.2.2.1 87 0 nh_.toNat) a1_ a2_ bb_ S_) rfl rfl (by decide) (vc_162 (S_.2.2.1 87 0 nh_.toNat) a1_ a2_ bb_ S_ hI_ (by exact (hF_.2.1 8 0 0 rfl).trans hb_) (by exact rgw_fr hg_ hF_) (by exact hr_) (by omega) (by omega) (by omega)) (fun u_ Sx87_ px90_ => ?_)
                obtain ⟨rfl, hIx88_, hFx89_, px90_⟩ := px90_
                have hFx91_ : ai_fr (sx_W vw_161) S0_ Sx87_ := ai_fr_tr hF_ (fr_le hFx89_ rfl)
                have ex92_ : Sx87_.1 8 0 2 = S_.1 8 0 2 := hFx89_.1 8 0 2 rfl
                have s9_ := px90_.1
                have s8_ := px90_.2.2
                refine sm_T_inc (a := 5) (z := 1) (v := gd_) (w := gd_ + 1) rfl rfl (by omega) (by omega) (by omega) ?_ -- pc_ 241
                refine sm_T_go 1 (c1 := (81, [some (.inr (.inr (some (8, 0)))), some (.inl a1_), some (.inl a2_), some (.inl (nh_ + 1)), some (.inl fh_), some (.inl (gd_ + 1)), some (.inl 1), some (.inl (S_.2.2.1 87 0 nh_.toNat))], [], Sx87_)) rfl ?_
                refine sm_T_wk [some (.inr (.inr (some (8, 0)))), some (.inl a1_), some (.inl a2_), some (.inl (nh_ + 1)), some (.inl fh_), some (.inl (gd_ + 1)), none, none] (by exact ⟨rfl, rfl, rfl, rfl, rfl, rfl, trivial⟩) ?_
                refine ih_.2 (nh_ + 1) fh_ (gd_ + 1) Sx87_ hIx88_ hFx91_ ⟨?_, ?_, trivial⟩ ?_
                · omega
                · exact s9_
                · omega
              · have cx86_ : ¬ ((S_.2.2.1 85 0 (S_.2.2.1 87 0 nh_.toNat).toNat) ≠ a1_) := of_decide_eq_false cx86_
                refine sm_T_go 1 (c1 := (207, [some (.inr (.inr (some (8, 0)))), some (.inl a1_), some (.inl a2_), some (.inl (nh_ + 1)), some (.inl fh_), some (.inl gd_), some (.inl 1), some (.inl (S_.2.2.1 87 0 nh_.toNat))], [.inr (.inr (some (8, 0)))], S_)) rfl ?_
                refine sm_T_gr rfl rfl ((hF_.2.1 8 0 0 rfl).trans hb_) ?_
                refine sm_T_go 2 (c1 := (215, [some (.inr (.inr (some (8, 0)))), some (.inl a1_), some (.inl a2_), some (.inl (nh_ + 1)), some (.inl fh_), some (.inl gd_), some (.inl 1), some (.inl (S_.2.2.1 87 0 nh_.toNat))], [.inl (S_.2.2.1 87 0 nh_.toNat), .inr (.inr (some (22, (0 + bb_))))], S_)) rfl ?_
                refine sm_T_iald (n := 4712) rfl rfl (by omega) (by omega) ?_
                have bx93_ : (-1) ≤ S_.2.2.1 22 (0 + bb_) (S_.2.2.1 87 0 nh_.toNat).toNat ∧ S_.2.2.1 22 (0 + bb_) (S_.2.2.1 87 0 nh_.toNat).toNat ≤ 161 := hI_.2 22 (0 + bb_) _
                refine sm_T_go 1 (c1 := (217, [some (.inr (.inr (some (8, 0)))), some (.inl a1_), some (.inl a2_), some (.inl (nh_ + 1)), some (.inl fh_), some (.inl gd_), some (.inl 1), some (.inl (S_.2.2.1 87 0 nh_.toNat))], [.inl a1_, .inl (S_.2.2.1 22 (0 + bb_) (S_.2.2.1 87 0 nh_.toNat).toNat)], S_)) rfl ?_
                refine sm_T_br (a := 0) (z := 16) rfl (fun cx94_ => ?_) (fun cx94_ => ?_)
                · have cx94_ : (S_.2.2.1 22 (0 + bb_) (S_.2.2.1 87 0 nh_.toNat).toNat) = a1_ := of_decide_eq_true cx94_
                  refine sm_T_go 4 (c1 := (238, [some (.inr (.inr (some (8, 0)))), some (.inl a1_), some (.inl a2_), some (.inl (nh_ + 1)), some (.inl fh_), some (.inl gd_), some (.inl 1), some (.inl (S_.2.2.1 87 0 nh_.toNat))], [.inl a2_, .inl a1_, .inl (S_.2.2.1 87 0 nh_.toNat), .inr (.inr (some (8, 0)))], S_)) rfl ?_
                  refine sm_T_cal (d1 := 1) (Q1 := vq_162 (S_.2.2.1 87 0 nh_.toNat) a1_ a2_ bb_ S_) rfl rfl (by decide) (vc_162 (S_.2.2.1 87 0 nh_.toNat) a1_ a2_ bb_ S_ hI_ (by exact (hF_.2.1 8 0 0 rfl).trans hb_) (by exact rgw_fr hg_ hF_) (by exact hr_) (by omega) (by omega) (by omega)) (fun u_ Sx95_ px98_ => ?_)
                  obtain ⟨rfl, hIx96_, hFx97_, px98_⟩ := px98_
                  have hFx99_ : ai_fr (sx_W vw_161) S0_ Sx95_ := ai_fr_tr hF_ (fr_le hFx97_ rfl)
                  have ex100_ : Sx95_.1 8 0 2 = S_.1 8 0 2 := hFx97_.1 8 0 2 rfl
                  have s9_ := px98_.1
                  have s8_ := px98_.2.2
                  refine sm_T_inc (a := 5) (z := 1) (v := gd_) (w := gd_ + 1) rfl rfl (by omega) (by omega) (by omega) ?_ -- pc_ 241
                  refine sm_T_go 1 (c1 := (81, [some (.inr (.inr (some (8, 0)))), some (.inl a1_), some (.inl a2_), some (.inl (nh_ + 1)), some (.inl fh_), some (.inl (gd_ + 1)), some (.inl 1), some (.inl (S_.2.2.1 87 0 nh_.toNat))], [], Sx95_)) rfl ?_
                  refine sm_T_wk [some (.inr (.inr (some (8, 0)))), some (.inl a1_), some (.inl a2_), some (.inl (nh_ + 1)), some (.inl fh_), some (.inl (gd_ + 1)), none, none] (by exact ⟨rfl, rfl, rfl, rfl, rfl, rfl, trivial⟩) ?_
                  refine ih_.2 (nh_ + 1) fh_ (gd_ + 1) Sx95_ hIx96_ hFx99_ ⟨?_, ?_, trivial⟩ ?_
                  · omega
                  · exact s9_
                  · omega
                · have cx94_ : ¬ ((S_.2.2.1 22 (0 + bb_) (S_.2.2.1 87 0 nh_.toNat).toNat) = a1_) := of_decide_eq_false cx94_
                  refine sm_T_go 5 (c1 := (228, [some (.inr (.inr (some (8, 0)))), some (.inl a1_), some (.inl a2_), some (.inl (nh_ + 1)), some (.inl fh_), some (.inl gd_), some (.inl 1), some (.inl (S_.2.2.1 87 0 nh_.toNat))], [.inl (S_.2.2.1 87 0 nh_.toNat), .inr (.inr (some (86, 0))), .inl a1_, .inr (.inr (some (8, 0)))], S_)) rfl ?_
                  refine sm_T_iald (n := 4712) rfl rfl (by omega) (by omega) ?_
                  refine sm_T_cal (d1 := 2) (Q1 := vq_158 a1_ (S_.2.2.1 86 0 (S_.2.2.1 87 0 nh_.toNat).toNat) bb_ S_) rfl rfl (by decide) (vc_158 a1_ (S_.2.2.1 86 0 (S_.2.2.1 87 0 nh_.toNat).toNat) bb_ S_ hI_ (by exact (hF_.2.1 8 0 0 rfl).trans hb_) (by omega) (by exact bpn_fr hn_ hF_ rfl rfl rfl rfl) (by exact rpt_fr hp_ hF_)) (fun u_ Sx101_ px104_ => ?_)
                  obtain ⟨rfl, vx106_, rfl, px104_⟩ := px104_
                  have n9_ := px104_
                  have k9_ : S_.2.2.1 86 0 (vx106_).toNat = 0 → S_.2.2.1 22 (0 + bb_) (vx106_).toNat ≠ a1_ → 0 ≤ vx106_ → vx106_ < 2 * S_.1 8 0 2 → False := fun y_ w_ z1_ z2_ => w_ ((hr_.1 _ (by omega)).mp y_)
                  refine sm_T_ri rfl ⟨_, _, rfl, _, rfl, hI_, hF_, ?_⟩
                  rcases n9_ with u9_ | u9_
                  · left; exact u9_.1
                  · right
                    obtain ⟨v1_, v2_, v3_⟩ := u9_
                    rcases v3_ with v3_ | v3_
                    · exfalso; omega
                    · refine ⟨by omega, hr_, ?_, v2_⟩
                      exact Decidable.byContradiction fun q9_ => k9_ (by omega) v2_ (by omega) (by omega)
set_option maxHeartbeats 3000000 in
set_option maxRecDepth 20000 in
theorem vc_161 {sc_ : Nat × (Nat → Int)} (a1_ : Int) (a2_ : Int) (bb_ : Nat) (S0_ : sm_S) (hI_ : gi S0_) (hb_ : S0_.2.1 8 0 0 = some bb_) (hg_ : rgw S0_) (h1_ : 0 ≤ a1_ ∧ a1_ ≤ 161) (hn_ : bpn bb_ S0_) (hp_ : rpt bb_ S0_) (ht_ : trt bb_ a1_ S0_) : sm_T (mt_P sc_) 3 161 (0, [some (.inr (.inr (some (8, 0)))), some (.inl a1_), some (.inl a2_), none, none, none, none, none], [], S0_) (fun ro9_ => ∃ u_ S1_, ro9_ = (.inl u_, S1_, 0) ∧ vq_161 a1_ a2_ bb_ S0_ u_ S1_) := by
  have hF_ : ai_fr (sx_W vw_161) S0_ S0_ := ai_fr_rf
  have cL_ : 0 ≤ S0_.1 8 0 2 ∧ S0_.1 8 0 2 ≤ 2356 := hI_.1 8 0 2 rfl
  have ct : 0 ≤ S0_.1 8 0 11 ∧ S0_.1 8 0 11 ≤ 4712 := hI_.1 8 0 11 rfl
  have bx1_ : 0 ≤ S0_.1 8 0 2 ∧ S0_.1 8 0 2 ≤ 2356 := hI_.1 8 0 2 rfl
  refine sm_T_go 6 (c1 := (10, [some (.inr (.inr (some (8, 0)))), some (.inl a1_), some (.inl a2_), none, none, none, none, none], [.inl (S0_.1 8 0 2), .inl 2, .inl 0, .inr (.inr (some (86, 0)))], S0_)) rfl ?_
  refine sm_T_bin (w := 2 * (S0_.1 8 0 2)) rfl (bi_mul (by omega) (by omega) (by omega)) ?_ -- pc_ 10
  refine sm_T_go 1 (c1 := (12, [some (.inr (.inr (some (8, 0)))), some (.inl a1_), some (.inl a2_), none, none, none, none, none], [.inl (-1), .inl (2 * (S0_.1 8 0 2)), .inl 0, .inr (.inr (some (86, 0)))], S0_)) rfl ?_
  refine sm_T_cal (d1 := 1) (Q1 := vq_3d6 0 (2 * (S0_.1 8 0 2)) (-1) S0_) rfl rfl (by decide) (vc_3d6 0 (2 * (S0_.1 8 0 2)) (-1) S0_ hI_ (by decide) (by omega)) (fun u_ Sx2_ px5_ => ?_)
  obtain ⟨rfl, hIx3_, hFx4_, px5_⟩ := px5_
  have hFx6_ : ai_fr (sx_W vw_161) S0_ Sx2_ := ai_fr_tr hF_ (fr_le hFx4_ rfl)
  have ex7_ : Sx2_.1 8 0 2 = S0_.1 8 0 2 := hFx4_.1 8 0 2 rfl
  have e12 := px5_
  have w11_ := hFx4_.1 8 0 11 rfl
  have w2_ := hFx4_.1 8 0 2 rfl
  have w90_ := hFx4_.2.2 90 rfl 0
  have bx8_ : 0 ≤ Sx2_.1 8 0 11 ∧ Sx2_.1 8 0 11 ≤ 4712 := hIx3_.1 8 0 11 rfl
  refine sm_T_go 8 (c1 := (29, [some (.inr (.inr (some (8, 0)))), some (.inl a1_), some (.inl a2_), none, none, none, none, none], [.inl (Sx2_.1 8 0 11), .inl 0, .inr (.inr (some (87, 0))), .inl 0, .inr (.inr (some (90, 0)))], Sx2_)) rfl ?_
  refine sm_T_nt (u := none) (S1 := sm_acI Sx2_ 90 0 87 0 (0 : Int).toNat (0 : Int).toNat (Sx2_.1 8 0 11).toNat) rfl rfl (nt_acI (sc := sc_) (t := 90) (i := 0) (t' := 87) (i' := 0) (x := 0) (y := 0) (m := (Sx2_.1 8 0 11)) (n := 4712) (n1 := 4712) rfl rfl (by omega) (by omega) (by omega) (by omega) (by omega)) ?_
  have hIx9_ : gi (sm_acI Sx2_ 90 0 87 0 (0 : Int).toNat (0 : Int).toNat (Sx2_.1 8 0 11).toNat) := gi_ac hIx3_ (by decide) (by decide)
  have hFx10_ : ai_fr (sx_W vw_161) S0_ (sm_acI Sx2_ 90 0 87 0 (0 : Int).toNat (0 : Int).toNat (Sx2_.1 8 0 11).toNat) := ai_fr_tr hFx6_ (fr_ac rfl)
  refine sm_T_go 2 (c1 := (34, [some (.inr (.inr (some (8, 0)))), some (.inl a1_), some (.inl a2_), some (.inl 0), none, none, none, none], [], sm_acI Sx2_ 90 0 87 0 (0 : Int).toNat (0 : Int).toNat (Sx2_.1 8 0 11).toNat)) rfl ?_
  refine (vl_161 a1_ a2_ bb_ S0_ hb_ hg_ h1_ hn_ hp_ ht_ _).1 0 (sm_acI Sx2_ 90 0 87 0 (0 : Int).toNat (0 : Int).toNat (Sx2_.1 8 0 11).toNat) hIx9_ hFx10_ ⟨?_, ?_, ?_, ?_, trivial⟩ (Nat.lt_succ_self _)
  · omega
  · intro p_ hp9_
    left
    rw [sm_acI_ne (by decide)]
    exact e12 p_ (by omega) (by omega)
  · intro p_ hp9_
    rw [sm_acI_ne (by decide), e12 p_ (by omega) (by omega)]
    constructor
    · intro y_; exact absurd y_ (by decide)
    · rintro ⟨i_, hi_, -⟩; exfalso; omega
  · intro i_ hi_
    rw [sm_acI_at]
    unfold sm_cp
    rw [if_pos ⟨Nat.zero_le _, by omega⟩, show (0 : Int).toNat + (i_ - (0 : Int).toNat) = i_ by (show 0 + (i_ - 0) = i_; omega)]
    exact (w90_ i_).1
end
/-! 99.zkga -/
section
/-! wires: back to the tree; written by wip/p55/gen/vg -/

/-! a_ wire goes back to_ its_ tree -/
/-- steps are_ where owners are_ -/
def bst (bb_ : Nat) (S_ : sm_S) : Prop := ∀ p_ : Nat, p_ < 4712 → S_.2.2.1 23 (0 + bb_) p_ ≠ 0 → S_.2.2.1 22 (0 + bb_) p_ ≠ -1
/-- open nets own_ no_ point -/
def ropn (bb_ : Nat) (S_ : sm_S) : Prop := ∀ c_ : Nat, c_ < 162 → S_.2.2.1 24 (0 + bb_) c_ ≠ 0 → ∀ p_ : Nat, (p_ : Int) < 2 * S_.1 8 0 2 → S_.2.2.1 22 (0 + bb_) p_ ≠ (c_ : Int)
/-- what net_ t_ may_ do_ to_ the_ others -/
def rot (bb_ : Nat) (t_ : Int) (S_ S'_ : sm_S) : Prop := ∀ p_ : Nat, S'_.2.2.1 22 (0 + bb_) p_ = S_.2.2.1 22 (0 + bb_) p_ ∨ S'_.2.2.1 22 (0 + bb_) p_ = -1 ∨ S'_.2.2.1 22 (0 + bb_) p_ = t_
/-- the_ way_ so_ far_: distances f_ fall along it_ -/
def rwy (L_ : Int) (f_ w_ : Nat → Int) (n_ : Int) : Prop := ∀ i_ : Nat, (i_ : Int) < n_ → (0 ≤ w_ i_ ∧ w_ i_ < 2 * L_) ∧ 0 ≤ f_ (w_ i_).toNat ∧ ((i_ : Int) < n_ - 1 → f_ (w_ (i_ + 1)).toNat < f_ (w_ i_).toNat)
theorem rwy_d {L_ n_ : Int} {f_ w_ : Nat → Int} (h_ : rwy L_ f_ w_ n_) : ∀ (i_ d_ : Nat), ((i_ + d_ + 1 : Nat) : Int) < n_ → f_ (w_ (i_ + d_ + 1)).toNat < f_ (w_ i_).toNat
  | i_, 0, hd_ => (h_ i_ (by omega)).2.2 (by omega)
  | i_, d_ + 1, hd_ => by
    have a_ := rwy_d h_ i_ d_ (by omega)
    have b_ := (h_ (i_ + d_ + 1) (by omega)).2.2 (by omega)
    exact Int.lt_trans b_ a_
theorem rwy_i {L_ n_ : Int} {f_ w_ : Nat → Int} (h_ : rwy L_ f_ w_ n_) {i_ j_ : Nat} (hij_ : i_ < j_) (hj_ : (j_ : Int) < n_) : f_ (w_ j_).toNat < f_ (w_ i_).toNat ∧ (w_ j_).toNat ≠ (w_ i_).toNat := by
  have a_ := rwy_d h_ i_ (j_ - i_ - 1) (by omega)
  rw [show i_ + (j_ - i_ - 1) + 1 = j_ by omega] at a_
  exact ⟨a_, fun z_ => by rw [z_] at a_; omega⟩
theorem rwy_s {L_ n_ q_ : Int} {f_ w_ w'_ : Nat → Int} (h_ : rwy L_ f_ w_ n_) (hn_ : 1 ≤ n_) (hq_ : 0 ≤ q_ ∧ q_ < 2 * L_) (hf_ : 0 ≤ f_ q_.toNat) (hl_ : f_ q_.toNat < f_ (w_ (n_ - 1).toNat).toNat) (hw_ : ∀ i_, w'_ i_ = if i_ = n_.toNat then q_ else w_ i_) : rwy L_ f_ w'_ (n_ + 1) := by
  intro i_ hi_
  rw [hw_, hw_]
  by_cases z_ : i_ = n_.toNat
  · rw [if_pos z_]
    exact ⟨hq_, hf_, fun u_ => by omega⟩
  · rw [if_neg z_]
    have a_ := h_ i_ (by omega)
    refine ⟨a_.1, a_.2.1, fun u_ => ?_⟩
    by_cases y_ : i_ + 1 = n_.toNat
    · rw [if_pos y_, show i_ = (n_ - 1).toNat by omega]
      exact hl_
    · rw [if_neg y_]
      exact a_.2.2 (by omega)
theorem bst_ls {bb_ : Nat} {t_ : Int} {S_ S'_ : sm_S} (h_ : bst bb_ S_) (g_ : rls bb_ t_ S_ S'_) : bst bb_ S'_ := by
  intro p_ hp_ hn_
  rw [(g_ p_).2] at hn_
  rw [(g_ p_).1]
  by_cases y_ : (p_ : Int) < 2 * S_.1 8 0 2 ∧ S_.2.2.1 22 (0 + bb_) p_ = t_
  · rw [if_pos y_] at hn_
    exact absurd rfl hn_
  · rw [if_neg y_] at hn_ ⊢
    exact h_ p_ hp_ hn_
theorem ropn_ls {bb_ : Nat} {t_ : Int} {S_ S'_ : sm_S} (h_ : ropn bb_ S_) (g_ : rls bb_ t_ S_ S'_) (ht_ : 0 ≤ t_) (e_ : S'_.1 8 0 2 = S_.1 8 0 2) (o_ : ∀ c_, S'_.2.2.1 24 (0 + bb_) c_ = if c_ = t_.toNat then 1 else S_.2.2.1 24 (0 + bb_) c_) : ropn bb_ S'_ := by
  intro c_ hc_ hn_ p_ hp_
  rw [e_] at hp_
  rw [(g_ p_).1]
  by_cases y_ : (p_ : Int) < 2 * S_.1 8 0 2 ∧ S_.2.2.1 22 (0 + bb_) p_ = t_
  · rw [if_pos y_]; omega
  · rw [if_neg y_]
    rw [o_] at hn_
    by_cases z_ : c_ = t_.toNat
    · intro x_
      exact y_ ⟨hp_, by omega⟩
    · rw [if_neg z_] at hn_
      exact h_ c_ hc_ hn_ p_ hp_
theorem rot_ls {bb_ : Nat} {t_ u_ : Int} {S0_ S_ S'_ : sm_S} (h_ : rot bb_ u_ S0_ S_) (g_ : rls bb_ t_ S_ S'_) : rot bb_ u_ S0_ S'_ := by
  intro p_
  rw [(g_ p_).1]
  split
  · exact Or.inr (Or.inl rfl)
  · exact h_ p_
theorem own_ls {bb_ : Nat} {t_ u_ : Int} {S_ S'_ : sm_S} (g_ : rls bb_ t_ S_ S'_) (hu_ : 0 ≤ u_) (ht_ : t_ ≠ u_) (p_ : Nat) : (S'_.2.2.1 22 (0 + bb_) p_ = u_ ↔ S_.2.2.1 22 (0 + bb_) p_ = u_) := by
  rw [(g_ p_).1]
  split
  · rename_i y_
    constructor
    · intro z_; omega
    · intro z_; exact absurd (y_.2.symm.trans z_) ht_
  · exact Iff.rfl
theorem trt_add {bb_ : Nat} {t_ x_ : Int} {S_ S'_ : sm_S} (h_ : trt bb_ t_ S_) (hx_ : 0 ≤ x_ ∧ x_ < 2 * S_.1 8 0 2) (ho_ : S_.2.2.1 22 (0 + bb_) x_.toNat ≠ t_) (t0_ : 0 ≤ S_.1 8 0 11) (h1_ : ∀ j_, S'_.2.2.1 22 (0 + bb_) j_ = if j_ = x_.toNat then t_ else S_.2.2.1 22 (0 + bb_) j_) (h2_ : ∀ i_, S'_.2.2.1 90 0 i_ = if i_ = (S_.1 8 0 11).toNat then x_ else S_.2.2.1 90 0 i_) (h3_ : S'_.1 8 0 11 = S_.1 8 0 11 + 1) (h4_ : S'_.1 8 0 2 = S_.1 8 0 2) : trt bb_ t_ S'_ := by
  obtain ⟨A_, B_, C_⟩ := h_
  refine ⟨?_, fun i_ hi_ => ?_, fun p_ hp_ hq_ => ?_⟩
  · have u_ := cne_up (f := S_.2.2.1 22 (0 + bb_)) (g := S'_.2.2.1 22 (0 + bb_)) (c := t_) (j := x_.toNat) ho_ (by rw [h1_, if_pos rfl]) (fun k_ hk_ => by rw [h1_, if_neg hk_]) (n := (2 * S_.1 8 0 2).toNat) (by omega)
    rw [h3_, h4_, u_]
    push_cast
    omega
  · rw [h3_] at hi_
    rw [h2_, h4_]
    by_cases z_ : i_ = (S_.1 8 0 11).toNat
    · rw [if_pos z_]
      exact ⟨hx_, by rw [h1_, if_pos rfl]⟩
    · rw [if_neg z_]
      have b_ := B_ i_ (by omega)
      refine ⟨b_.1, ?_⟩
      rw [h1_]
      split
      · rfl
      · exact b_.2
  · rw [h4_] at hp_
    rw [h1_] at hq_
    by_cases z_ : p_ = x_.toNat
    · exact ⟨(S_.1 8 0 11).toNat, by omega, by rw [h2_, if_pos rfl]; omega⟩
    · rw [if_neg z_] at hq_
      obtain ⟨i_, hi_, e_⟩ := C_ p_ hp_ hq_
      exact ⟨i_, by omega, by rw [h2_, if_neg (by omega)]; exact e_⟩
theorem trt_b {bb_ : Nat} {t_ x_ : Int} {S_ : sm_S} (h_ : trt bb_ t_ S_) (hx_ : 0 ≤ x_ ∧ x_ < 2 * S_.1 8 0 2) (ho_ : S_.2.2.1 22 (0 + bb_) x_.toNat ≠ t_) : S_.1 8 0 11 < 2 * S_.1 8 0 2 := by
  have u_ := cne_lt (f := S_.2.2.1 22 (0 + bb_)) (c := t_) (j := x_.toNat) ho_ (n := (2 * S_.1 8 0 2).toNat) (by omega)
  have a_ := h_.1
  omega
theorem trt_cg {bb_ : Nat} {t_ : Int} {S_ S'_ : sm_S} (h_ : trt bb_ t_ S_) (e2_ : S'_.1 8 0 2 = S_.1 8 0 2) (e11 : S'_.1 8 0 11 = S_.1 8 0 11) (e90_ : S'_.2.2.1 90 0 = S_.2.2.1 90 0) (eo_ : ∀ p_ : Nat, (S'_.2.2.1 22 (0 + bb_) p_ = t_ ↔ S_.2.2.1 22 (0 + bb_) p_ = t_)) : trt bb_ t_ S'_ := by
  obtain ⟨A_, B_, C_⟩ := h_
  have q_ : ∀ n_ : Nat, cne (S'_.2.2.1 22 (0 + bb_)) t_ n_ = cne (S_.2.2.1 22 (0 + bb_)) t_ n_ := by
    intro n_
    induction n_ with
    | zero => rfl
    | succ n_ ih_ =>
      rw [cne_s, cne_s, ih_]
      by_cases z_ : S_.2.2.1 22 (0 + bb_) n_ = t_
      · rw [if_pos z_, if_pos ((eo_ n_).mpr z_)]
      · rw [if_neg z_, if_neg (fun y_ => z_ ((eo_ n_).mp y_))]
  refine ⟨?_, fun i_ hi_ => ?_, fun p_ hp_ hq_ => ?_⟩
  · rw [e11, e2_, q_]; exact A_
  · rw [e11] at hi_
    have b_ := B_ i_ hi_
    rw [e90_, e2_]
    exact ⟨b_.1, (eo_ _).mpr b_.2⟩
  · rw [e2_] at hp_
    obtain ⟨i_, hi_, e_⟩ := C_ p_ hp_ ((eo_ p_).mp hq_)
    exact ⟨i_, by rw [e11]; exact hi_, by rw [e90_]; exact e_⟩
/-! Router.walkBack -/
def vw_165 : sx_Wl := ([(8, 11)], [22, 23, 24, 89, 90], [])
def vq_165 (a1_ : Int) (a2_ : Int) (bb_ : Nat) (S0_ : sm_S) (u_ : Option sm_V) (S1_ : sm_S) : Prop := u_ = none ∧ gi S1_ ∧ ai_fr (sx_W vw_165) S0_ S1_ ∧ (cdf bb_ S0_ S1_ ∧ (trt bb_ a2_ S1_ ∧ bst bb_ S1_ ∧ ropn bb_ S1_ ∧ rot bb_ a2_ S0_ S1_ ∧ S1_.2.2.1 24 (0 + bb_) a2_.toNat = 0 ∧ S1_.2.2.1 22 (0 + bb_) a1_.toNat = a2_))
set_option maxHeartbeats 3000000 in
set_option maxRecDepth 20000 in
theorem vl_165 {sc_ : Nat × (Nat → Int)} (a1_ : Int) (a2_ : Int) (bb_ : Nat) (S0_ : sm_S) (hb_ : S0_.2.1 8 0 0 = some bb_) (hg_ : rgw S0_) (h1_ : 0 ≤ a1_ ∧ a1_ < 2 * S0_.1 8 0 2) (h2_ : 0 ≤ a2_ ∧ a2_ ≤ 161) (hr_ : rsp bb_ a2_ S0_) (ht_ : trt bb_ a2_ S0_) (hf_ : 0 < S0_.2.2.1 86 0 a1_.toNat) (hst_ : bst bb_ S0_) (hop_ : ropn bb_ S0_) (hz_ : S0_.2.2.1 24 (0 + bb_) a2_.toNat = 0) : ∀ nn_ : Nat, (∀ (ct : Int) (gd_ : Int) (S_ : sm_S), gi S_ → ai_fr (sx_W vw_165) S0_ S_ → ((1 ≤ ct ∧ ct = gd_ + 1 ∧ 0 ≤ gd_ ∧ gd_ ≤ 4712) ∧ (S_.2.2.1 22 (0 + bb_) = (S0_.2.2.1 22 (0 + bb_)) ∧ S_.2.2.1 23 (0 + bb_) = S0_.2.2.1 23 (0 + bb_) ∧ S_.2.2.1 24 (0 + bb_) = S0_.2.2.1 24 (0 + bb_) ∧ S_.2.2.1 90 0 = S0_.2.2.1 90 0 ∧ S_.1 8 0 11 = S0_.1 8 0 11) ∧ (rwy (S0_.1 8 0 2) (S0_.2.2.1 86 0) (S_.2.2.1 89 0) ct) ∧ ((cnd (S0_.2.2.1 86 0) ((S0_.2.2.1 86 0) (S_.2.2.1 89 0 (ct - 1).toNat).toNat) (2 * S0_.1 8 0 2).toNat : Int) + ct ≤ 2 * S0_.1 8 0 2) ∧ (S_.2.2.1 89 0 0 = a1_) ∧ (cdf bb_ S0_ S_) ∧ True) → ((30000 - gd_).toNat) < nn_ → sm_T (mt_P sc_) 2 165 (12, [some (.inr (.inr (some (8, 0)))), some (.inl a1_), some (.inl a2_), some (.inl ct), some (.inl gd_), none, none], [], S_) (fun ro9_ => ∃ u_ S1_, ro9_ = (.inl u_, S1_, 0) ∧ vq_165 a1_ a2_ bb_ S0_ u_ S1_)) ∧ (∀ (ct : Int) (k_ : Int) (S_ : sm_S), gi S_ → ai_fr (sx_W vw_165) S0_ S_ → ((0 ≤ k_ ∧ k_ ≤ ct) ∧ (2 ≤ ct ∧ ct ≤ 4712 ∧ (S0_.2.2.1 86 0) (S_.2.2.1 89 0 (ct - 1).toNat).toNat = 0) ∧ (rwy (S0_.1 8 0 2) (S0_.2.2.1 86 0) (S_.2.2.1 89 0) ct) ∧ (∀ p_ : Nat, (S_.2.2.1 22 (0 + bb_) p_ = a2_ ↔ (S0_.2.2.1 22 (0 + bb_)) p_ = a2_)) ∧ (bst bb_ S_) ∧ (ropn bb_ S_) ∧ (rot bb_ a2_ S0_ S_) ∧ (S_.2.2.1 90 0 = S0_.2.2.1 90 0 ∧ S_.1 8 0 11 = S0_.1 8 0 11) ∧ (S_.2.2.1 24 (0 + bb_) a2_.toNat = 0) ∧ (S_.2.2.1 89 0 0 = a1_) ∧ (cdf bb_ S0_ S_) ∧ True) → ((15000 - k_).toNat) < nn_ → sm_T (mt_P sc_) 2 165 (110, [some (.inr (.inr (some (8, 0)))), some (.inl a1_), some (.inl a2_), some (.inl ct), some (.inl k_), none, none], [], S_) (fun ro9_ => ∃ u_ S1_, ro9_ = (.inl u_, S1_, 0) ∧ vq_165 a1_ a2_ bb_ S0_ u_ S1_)) ∧ (∀ (ct : Int) (k_ : Int) (S_ : sm_S), gi S_ → ai_fr (sx_W vw_165) S0_ S_ → ((0 ≤ k_ ∧ k_ ≤ ct - 1) ∧ (2 ≤ ct ∧ ct ≤ 4712 ∧ (S0_.2.2.1 86 0) (S_.2.2.1 89 0 (ct - 1).toNat).toNat = 0) ∧ (rwy (S0_.1 8 0 2) (S0_.2.2.1 86 0) (S_.2.2.1 89 0) ct) ∧ (∀ j_ : Nat, k_ ≤ (j_ : Int) → (j_ : Int) < ct - 1 → S_.2.2.1 22 (0 + bb_) (S_.2.2.1 89 0 j_).toNat ≠ a2_) ∧ (S_.2.2.1 22 (0 + bb_) (S_.2.2.1 89 0 (ct - 1).toNat).toNat = a2_) ∧ (trt bb_ a2_ S_) ∧ (∀ p_ : Nat, p_ < 4712 → S_.2.2.1 23 (0 + bb_) p_ ≠ 0 → S_.2.2.1 22 (0 + bb_) p_ ≠ -1 ∨ p_ = (S_.2.2.1 89 0 k_.toNat).toNat) ∧ (ropn bb_ S_) ∧ (rot bb_ a2_ S0_ S_) ∧ (S_.2.2.1 24 (0 + bb_) a2_.toNat = 0) ∧ (S_.2.2.1 89 0 0 = a1_) ∧ (0 < k_ → S_.2.2.1 22 (0 + bb_) a1_.toNat = a2_) ∧ (cdf bb_ S0_ S_) ∧ True) → ((9000 - k_).toNat) < nn_ → sm_T (mt_P sc_) 2 165 (160, [some (.inr (.inr (some (8, 0)))), some (.inl a1_), some (.inl a2_), some (.inl ct), some (.inl k_), none, none], [], S_) (fun ro9_ => ∃ u_ S1_, ro9_ = (.inl u_, S1_, 0) ∧ vq_165 a1_ a2_ bb_ S0_ u_ S1_)) := by
  intro nn_
  induction nn_ with
  | zero => exact ⟨fun _ _ _ _ _ _ h_ => absurd h_ (Nat.not_lt_zero _), fun _ _ _ _ _ _ h_ => absurd h_ (Nat.not_lt_zero _), fun _ _ _ _ _ _ h_ => absurd h_ (Nat.not_lt_zero _)⟩
  | succ nn_ ih_ =>
    refine ⟨?_, ?_, ?_⟩
    · rintro ct gd_ S_ hI_ hF_ ⟨h0_, hk_, hy_, hq_, hw_, hC_, -⟩ hm_
      have e2_ : S_.1 8 0 2 = S0_.1 8 0 2 := hF_.1 8 0 2 rfl
      have e1_ : S_.1 8 0 1 = S0_.1 8 0 1 := hF_.1 8 0 1 rfl
      have e86_ : S_.2.2.1 86 0 = S0_.2.2.1 86 0 := fr_arr hF_ rfl
      have cL_ : 0 ≤ S_.1 8 0 2 ∧ S_.1 8 0 2 ≤ 2356 := hI_.1 8 0 2 rfl
      have bx1_ : 0 ≤ S_.1 8 0 2 ∧ S_.1 8 0 2 ≤ 2356 := hI_.1 8 0 2 rfl
      refine sm_T_go 4 (c1 := (19, [some (.inr (.inr (some (8, 0)))), some (.inl a1_), some (.inl a2_), some (.inl ct), some (.inl gd_), none, none], [.inl (S_.1 8 0 2), .inl 2, .inl gd_], S_)) rfl ?_
      refine sm_T_bin (w := 2 * (S_.1 8 0 2)) rfl (bi_mul (by omega) (by omega) (by omega)) ?_ -- pc_ 19
      refine sm_T_br (a := 3) (z := 87) rfl (fun cx2_ => ?_) (fun cx2_ => ?_)
      · have cx2_ : 2 * (S_.1 8 0 2) ≤ gd_ := of_decide_eq_true cx2_
        exfalso; omega
      · have cx2_ : ¬ (2 * (S_.1 8 0 2) ≤ gd_) := of_decide_eq_false cx2_
        have y9_ := hy_ (ct - 1).toNat (by omega)
        have y8_ : S_.2.2.1 86 0 (S_.2.2.1 89 0 (ct - 1).toNat).toNat = (S0_.2.2.1 86 0) (S_.2.2.1 89 0 (ct - 1).toNat).toNat := by rw [e86_]
        refine sm_T_go 6 (c1 := (33, [some (.inr (.inr (some (8, 0)))), some (.inl a1_), some (.inl a2_), some (.inl ct), some (.inl gd_), none, none], [.inl 1, .inl ct, .inr (.inr (some (89, 0))), .inr (.inr (some (86, 0)))], S_)) rfl ?_
        refine sm_T_bin (w := ct - 1) rfl (bi_sub (by omega) (by omega) (by omega)) ?_ -- pc_ 33
        refine sm_T_iald (n := 4712) rfl rfl (by omega) (by omega) ?_
        have bx3_ : 0 ≤ S_.2.2.1 89 0 (ct - 1).toNat ∧ S_.2.2.1 89 0 (ct - 1).toNat ≤ 4711 := hI_.2 89 0 _
        refine sm_T_iald (n := 4712) rfl rfl (by omega) (by omega) ?_
        have bx4_ : (-1) ≤ S_.2.2.1 86 0 (S_.2.2.1 89 0 (ct - 1).toNat).toNat ∧ S_.2.2.1 86 0 (S_.2.2.1 89 0 (ct - 1).toNat).toNat ≤ 100000 := hI_.2 86 0 _
        refine sm_T_b0 (a := 5) (z := 71) rfl (fun cx5_ => ?_) (fun cx5_ => ?_)
        · have cx5_ : (S_.2.2.1 86 0 (S_.2.2.1 89 0 (ct - 1).toNat).toNat) ≤ 0 := of_decide_eq_true cx5_
          refine sm_T_go 2 (c1 := (110, [some (.inr (.inr (some (8, 0)))), some (.inl a1_), some (.inl a2_), some (.inl ct), some (.inl 0), none, none], [], S_)) rfl ?_
          refine ih_.2.1 ct 0 S_ hI_ hF_ ⟨?_, ?_, ?_, ?_, ?_, ?_, ?_, ?_, ?_, ?_, ?_, trivial⟩ ?_
          · omega
          · have z9_ : ct ≠ 1 := by (intro u_; rw [show (ct - 1).toNat = 0 by omega, hw_] at *; omega)
            exact ⟨by omega, by omega, by omega⟩
          · exact hy_
          · (intro p_; rw [hk_.1])
          · (intro p_ u_ w_; rw [hk_.2.1] at w_; rw [hk_.1]; exact hst_ p_ u_ w_)
          · (intro c_ u_ w_ p_ v_; rw [hk_.2.2.1] at w_; rw [hk_.1]; rw [e2_] at v_; exact hop_ c_ u_ w_ p_ v_)
          · (intro p_; left; rw [hk_.1])
          · exact ⟨hk_.2.2.2.1, hk_.2.2.2.2⟩
          · (rw [hk_.2.2.1]; exact hz_)
          · exact hw_
          · exact hC_
          · omega
        · have cx5_ : ¬ ((S_.2.2.1 86 0 (S_.2.2.1 89 0 (ct - 1).toNat).toNat) ≤ 0) := of_decide_eq_false cx5_
          have b9_ := hr_.2.1 (S_.2.2.1 89 0 (ct - 1).toNat).toNat (by omega) (by omega)
          rw [show (((S_.2.2.1 89 0 (ct - 1).toNat).toNat : Nat) : Int) = (S_.2.2.1 89 0 (ct - 1).toNat) by omega] at b9_
          have b8_ := b9_.1
          refine sm_T_go 4 (c1 := (45, [some (.inr (.inr (some (8, 0)))), some (.inl a1_), some (.inl a2_), some (.inl ct), some (.inl gd_), none, none], [.inl 1, .inl ct, .inr (.inr (some (89, 0)))], S_)) rfl ?_
          refine sm_T_bin (w := ct - 1) rfl (bi_sub (by omega) (by omega) (by omega)) ?_ -- pc_ 45
          refine sm_T_iald (n := 4712) rfl rfl (by omega) (by omega) ?_
          refine sm_T_go 6 (c1 := (58, [some (.inr (.inr (some (8, 0)))), some (.inl a1_), some (.inl a2_), some (.inl ct), some (.inl gd_), some (.inl (S_.2.2.1 89 0 (ct - 1).toNat)), none], [.inl (S_.2.2.1 89 0 (ct - 1).toNat), .inr (.inr (some (86, 0))), .inl (S_.2.2.1 89 0 (ct - 1).toNat), .inr (.inr (some (8, 0)))], S_)) rfl ?_
          refine sm_T_iald (n := 4712) rfl rfl (by omega) (by omega) ?_
          refine sm_T_go 3 (c1 := (63, [some (.inr (.inr (some (8, 0)))), some (.inl a1_), some (.inl a2_), some (.inl ct), some (.inl gd_), some (.inl (S_.2.2.1 89 0 (ct - 1).toNat)), none], [.inl a2_, .inl (S_.2.2.1 89 0 (ct - 1).toNat), .inr (.inr (some (8, 0))), .inl (S_.2.2.1 86 0 (S_.2.2.1 89 0 (ct - 1).toNat).toNat), .inl (S_.2.2.1 89 0 (ct - 1).toNat), .inr (.inr (some (8, 0)))], S_)) rfl ?_
          refine sm_T_cal (d1 := 0) (Q1 := vq_160 (S_.2.2.1 89 0 (ct - 1).toNat) a2_ bb_ S_) rfl rfl (by decide) (vc_160 (S_.2.2.1 89 0 (ct - 1).toNat) a2_ bb_ S_ hI_ (by exact (hF_.2.1 8 0 0 rfl).trans hb_) (by omega)) (fun u_ Sx6_ px9_ => ?_)
          obtain ⟨rfl, vx11_, rfl, px9_⟩ := px9_
          have p9_ := px9_
          rw [hk_.1] at p9_
          have pp9_ := prc_p (S0_.2.2.1 22 (0 + bb_)) a2_ (S_.2.2.1 89 0 (ct - 1).toNat).toNat
          refine sm_T_bin (w := (S_.2.2.1 86 0 (S_.2.2.1 89 0 (ct - 1).toNat).toNat) - vx11_) rfl (bi_sub (by omega) (by omega) (by omega)) ?_ -- pc_ 66
          refine sm_T_cal (d1 := 1) (Q1 := vq_166 (S_.2.2.1 89 0 (ct - 1).toNat) ((S_.2.2.1 86 0 (S_.2.2.1 89 0 (ct - 1).toNat).toNat) - vx11_) S_) rfl rfl (by decide) (vc_166 (S_.2.2.1 89 0 (ct - 1).toNat) ((S_.2.2.1 86 0 (S_.2.2.1 89 0 (ct - 1).toNat).toNat) - vx11_) S_ hI_ (by exact rgw_fr hg_ hF_) (by omega)) (fun u_ Sx12_ px15_ => ?_)
          obtain ⟨rfl, vx17_, rfl, px15_⟩ := px15_
          have bf9_ := px15_
          rw [e1_, e2_, e86_] at bf9_
          have bq9_ : vx17_ ≠ -1 → (0 ≤ vx17_ ∧ vx17_ < 2 * S0_.1 8 0 2) ∧ 0 ≤ (S0_.2.2.1 86 0) (vx17_).toNat ∧ (S0_.2.2.1 86 0) (vx17_).toNat < (S0_.2.2.1 86 0) (S_.2.2.1 89 0 (ct - 1).toNat).toNat ∧ cnd (S0_.2.2.1 86 0) ((S0_.2.2.1 86 0) (vx17_).toNat) (2 * S0_.1 8 0 2).toNat < cnd (S0_.2.2.1 86 0) ((S0_.2.2.1 86 0) (S_.2.2.1 89 0 (ct - 1).toNat).toNat) (2 * S0_.1 8 0 2).toNat := by (intro n9_; rcases bf9_ with u9_ | u9_; (exact absurd u9_.1 n9_); (have v9_ := u9_.2; exact ⟨u9_.1, by omega, by omega, cnd_lt (j := (vx17_).toNat) (by omega) (by omega) (by omega) (by omega) (by omega)⟩))
          refine sm_T_go 3 (c1 := (75, [some (.inr (.inr (some (8, 0)))), some (.inl a1_), some (.inl a2_), some (.inl ct), some (.inl gd_), some (.inl (S_.2.2.1 89 0 (ct - 1).toNat)), some (.inl vx17_)], [.inl (-1), .inl vx17_], S_)) rfl ?_
          refine sm_T_br (a := 0) (z := 32) rfl (fun cx18_ => ?_) (fun cx18_ => ?_)
          · have cx18_ : vx17_ = (-1) := of_decide_eq_true cx18_
            exfalso; (rcases bf9_ with u9_ | u9_; (obtain ⟨d9_, z1_, z2_, z3_⟩ := b9_.2; rcases u9_.2 d9_ z1_.1 z1_.2 with y1_ | y1_; omega; exact y1_ (z3_.trans (by omega))); omega)
          · have cx18_ : ¬ (vx17_ = (-1)) := of_decide_eq_false cx18_
            have bq8_ := bq9_ (by omega)
            refine sm_T_go 4 (c1 := (84, [some (.inr (.inr (some (8, 0)))), some (.inl a1_), some (.inl a2_), some (.inl ct), some (.inl gd_), some (.inl (S_.2.2.1 89 0 (ct - 1).toNat)), some (.inl vx17_)], [.inl 4712, .inl ct], S_)) rfl ?_
            refine sm_T_br (a := 1) (z := 6) rfl (fun cx19_ => ?_) (fun cx19_ => ?_)
            · have cx19_ : ct ≠ 4712 := of_decide_eq_true cx19_
              refine sm_T_go 4 (c1 := (97, [some (.inr (.inr (some (8, 0)))), some (.inl a1_), some (.inl a2_), some (.inl ct), some (.inl gd_), some (.inl (S_.2.2.1 89 0 (ct - 1).toNat)), some (.inl vx17_)], [.inl vx17_, .inl ct, .inr (.inr (some (89, 0)))], S_)) rfl ?_
              refine sm_T_iast (n := 4712) rfl rfl (by omega) (by omega) ?_
              have hIx20_ : gi (sm_aI S_ 89 0 ct.toNat vx17_) := gi_aI hI_ (show 0 ≤ vx17_ ∧ vx17_ ≤ 4711 from ⟨by omega, by omega⟩)
              have hFx21_ : ai_fr (sx_W vw_165) S0_ (sm_aI S_ 89 0 ct.toNat vx17_) := ai_fr_tr hF_ (ai_fr_aI rfl)
              have hCx22_ : cdf bb_ S0_ (sm_aI S_ 89 0 ct.toNat vx17_) := cdf_aI hC_ (Or.inl rfl)
              refine sm_T_inc (a := 3) (z := 1) (v := ct) (w := ct + 1) rfl rfl (by omega) (by omega) (by omega) ?_ -- pc_ 98
              refine sm_T_inc (a := 4) (z := 1) (v := gd_) (w := gd_ + 1) rfl rfl (by omega) (by omega) (by omega) ?_ -- pc_ 101
              refine sm_T_go 1 (c1 := (12, [some (.inr (.inr (some (8, 0)))), some (.inl a1_), some (.inl a2_), some (.inl (ct + 1)), some (.inl (gd_ + 1)), some (.inl (S_.2.2.1 89 0 (ct - 1).toNat)), some (.inl vx17_)], [], sm_aI S_ 89 0 ct.toNat vx17_)) rfl ?_
              refine sm_T_wk [some (.inr (.inr (some (8, 0)))), some (.inl a1_), some (.inl a2_), some (.inl (ct + 1)), some (.inl (gd_ + 1)), none, none] (by exact ⟨rfl, rfl, rfl, rfl, rfl, trivial⟩) ?_
              refine ih_.1 (ct + 1) (gd_ + 1) (sm_aI S_ 89 0 ct.toNat vx17_) hIx20_ hFx21_ ⟨?_, ?_, ?_, ?_, ?_, ?_, trivial⟩ ?_
              · omega
              · (simp only [rd_ne_, ne_eq, Nat.reduceEqDiff, not_false_eq_true]; exact hk_)
              · exact rwy_s hy_ (by omega) bq8_.1 bq8_.2.1 (by omega) (fun i_ => rd_eq)
              · rw [rd_eq, if_pos (by omega)]
                have z_ := bq8_.2.2.2
                omega
              · (rw [rd_eq, if_neg (by omega)]; exact hw_)
              · exact hCx22_
              · omega
            · have cx19_ : ¬ (ct ≠ 4712) := of_decide_eq_false cx19_
              exfalso; omega
    · rintro ct k_ S_ hI_ hF_ ⟨h0_, hl_, hy_, hn0_, hst1_, hop1_, hro_, htr_, hz1_, hw_, hC_, -⟩ hm_
      have e2_ : S_.1 8 0 2 = S0_.1 8 0 2 := hF_.1 8 0 2 rfl
      have e1_ : S_.1 8 0 1 = S0_.1 8 0 1 := hF_.1 8 0 1 rfl
      have e86_ : S_.2.2.1 86 0 = S0_.2.2.1 86 0 := fr_arr hF_ rfl
      have cL_ : 0 ≤ S_.1 8 0 2 ∧ S_.1 8 0 2 ≤ 2356 := hI_.1 8 0 2 rfl
      refine sm_T_go 2 (c1 := (113, [some (.inr (.inr (some (8, 0)))), some (.inl a1_), some (.inl a2_), some (.inl ct), some (.inl k_), none, none], [.inl ct, .inl k_], S_)) rfl ?_
      refine sm_T_br (a := 3) (z := 44) rfl (fun cx1_ => ?_) (fun cx1_ => ?_)
      · have cx1_ : ct ≤ k_ := of_decide_eq_true cx1_
        refine sm_T_go 2 (c1 := (160, [some (.inr (.inr (some (8, 0)))), some (.inl a1_), some (.inl a2_), some (.inl ct), some (.inl 0), none, none], [], S_)) rfl ?_
        refine ih_.2.2 ct 0 S_ hI_ hF_ ⟨?_, ?_, ?_, ?_, ?_, ?_, ?_, ?_, ?_, ?_, ?_, ?_, ?_, trivial⟩ ?_
        · omega
        · exact hl_
        · exact hy_
        · intro j_ u_ w_ q_
          have z_ := (hn0_ _).mp q_
          have y_ := (hr_.1 _ (by have x_ := (hy_ j_ (by omega)).1; omega)).mpr z_
          have v_ := (rwy_i hy_ (show j_ < (ct - 1).toNat by omega) (by omega)).1
          have x2_ := hl_.2.2
          omega
        · exact (hn0_ _).mpr ((hr_.1 _ (by have x_ := (hy_ (ct - 1).toNat (by omega)).1; omega)).mp hl_.2.2)
        · exact trt_cg ht_ e2_ htr_.2 htr_.1 hn0_
        · (intro p_ u_ w_; exact Or.inl (hst1_ p_ u_ w_))
        · exact hop1_
        · exact hro_
        · exact hz1_
        · exact hw_
        · (intro u_; exfalso; omega)
        · exact hC_
        · omega
      · have cx1_ : ¬ (ct ≤ k_) := of_decide_eq_false cx1_
        have w9_ := hy_ k_.toNat (by omega)
        refine sm_T_go 1 (c1 := (117, [some (.inr (.inr (some (8, 0)))), some (.inl a1_), some (.inl a2_), some (.inl ct), some (.inl k_), none, none], [.inr (.inr (some (8, 0)))], S_)) rfl ?_
        refine sm_T_gr rfl rfl ((hF_.2.1 8 0 0 rfl).trans hb_) ?_
        refine sm_T_go 4 (c1 := (129, [some (.inr (.inr (some (8, 0)))), some (.inl a1_), some (.inl a2_), some (.inl ct), some (.inl k_), none, none], [.inl k_, .inr (.inr (some (89, 0))), .inr (.inr (some (22, (0 + bb_))))], S_)) rfl ?_
        refine sm_T_iald (n := 4712) rfl rfl (by omega) (by omega) ?_
        have bx2_ : 0 ≤ S_.2.2.1 89 0 k_.toNat ∧ S_.2.2.1 89 0 k_.toNat ≤ 4711 := hI_.2 89 0 _
        refine sm_T_iald (n := 4712) rfl rfl (by omega) (by omega) ?_
        have bx3_ : (-1) ≤ S_.2.2.1 22 (0 + bb_) (S_.2.2.1 89 0 k_.toNat).toNat ∧ S_.2.2.1 22 (0 + bb_) (S_.2.2.1 89 0 k_.toNat).toNat ≤ 161 := hI_.2 22 (0 + bb_) _
        refine sm_T_go 3 (c1 := (136, [some (.inr (.inr (some (8, 0)))), some (.inl a1_), some (.inl a2_), some (.inl ct), some (.inl k_), some (.inl (S_.2.2.1 22 (0 + bb_) (S_.2.2.1 89 0 k_.toNat).toNat)), none], [.inl (-1), .inl (S_.2.2.1 22 (0 + bb_) (S_.2.2.1 89 0 k_.toNat).toNat)], S_)) rfl ?_
        refine sm_T_br (a := 0) (z := 15) rfl (fun cx4_ => ?_) (fun cx4_ => ?_)
        · have cx4_ : (S_.2.2.1 22 (0 + bb_) (S_.2.2.1 89 0 k_.toNat).toNat) = (-1) := of_decide_eq_true cx4_
          refine sm_T_inc (a := 4) (z := 1) (v := k_) (w := k_ + 1) rfl rfl (by omega) (by omega) (by omega) ?_ -- pc_ 151
          refine sm_T_go 1 (c1 := (110, [some (.inr (.inr (some (8, 0)))), some (.inl a1_), some (.inl a2_), some (.inl ct), some (.inl (k_ + 1)), some (.inl (S_.2.2.1 22 (0 + bb_) (S_.2.2.1 89 0 k_.toNat).toNat)), none], [], S_)) rfl ?_
          refine sm_T_wk [some (.inr (.inr (some (8, 0)))), some (.inl a1_), some (.inl a2_), some (.inl ct), some (.inl (k_ + 1)), none, none] (by exact ⟨rfl, rfl, rfl, rfl, rfl, trivial⟩) ?_
          refine ih_.2.1 ct (k_ + 1) S_ hI_ hF_ ⟨?_, ?_, ?_, ?_, ?_, ?_, ?_, ?_, ?_, ?_, ?_, trivial⟩ ?_
          · omega
          · first | exact hl_ | (rw [f89_]; exact hl_)
          · first | exact hy_ | (rw [f89_]; exact hy_)
          · first | exact hn0_ | (exact fun p_ => (own_ls r9_ h2_.1 (by omega) p_).trans (hn0_ p_))
          · first | exact hst1_ | exact bst_ls hst1_ r9_
          · first | exact hop1_ | exact ropn_ls hop1_ r9_ (by omega) f2_ o9_
          · first | exact hro_ | exact rot_ls hro_ r9_
          · first | exact htr_ | exact ⟨f90_.trans htr_.1, f11_.trans htr_.2⟩
          · first | exact hz1_ | (rw [o9_, if_neg (by omega)]; exact hz1_)
          · first | exact hw_ | (rw [f89_]; exact hw_)
          · exact hC_
          · omega
        · have cx4_ : ¬ ((S_.2.2.1 22 (0 + bb_) (S_.2.2.1 89 0 k_.toNat).toNat) = (-1)) := of_decide_eq_false cx4_
          refine sm_T_go 2 (c1 := (142, [some (.inr (.inr (some (8, 0)))), some (.inl a1_), some (.inl a2_), some (.inl ct), some (.inl k_), some (.inl (S_.2.2.1 22 (0 + bb_) (S_.2.2.1 89 0 k_.toNat).toNat)), none], [.inl a2_, .inl (S_.2.2.1 22 (0 + bb_) (S_.2.2.1 89 0 k_.toNat).toNat)], S_)) rfl ?_
          refine sm_T_br (a := 0) (z := 9) rfl (fun cx5_ => ?_) (fun cx5_ => ?_)
          · have cx5_ : (S_.2.2.1 22 (0 + bb_) (S_.2.2.1 89 0 k_.toNat).toNat) = a2_ := of_decide_eq_true cx5_
            refine sm_T_inc (a := 4) (z := 1) (v := k_) (w := k_ + 1) rfl rfl (by omega) (by omega) (by omega) ?_ -- pc_ 151
            refine sm_T_go 1 (c1 := (110, [some (.inr (.inr (some (8, 0)))), some (.inl a1_), some (.inl a2_), some (.inl ct), some (.inl (k_ + 1)), some (.inl (S_.2.2.1 22 (0 + bb_) (S_.2.2.1 89 0 k_.toNat).toNat)), none], [], S_)) rfl ?_
            refine sm_T_wk [some (.inr (.inr (some (8, 0)))), some (.inl a1_), some (.inl a2_), some (.inl ct), some (.inl (k_ + 1)), none, none] (by exact ⟨rfl, rfl, rfl, rfl, rfl, trivial⟩) ?_
            refine ih_.2.1 ct (k_ + 1) S_ hI_ hF_ ⟨?_, ?_, ?_, ?_, ?_, ?_, ?_, ?_, ?_, ?_, ?_, trivial⟩ ?_
            · omega
            · first | exact hl_ | (rw [f89_]; exact hl_)
            · first | exact hy_ | (rw [f89_]; exact hy_)
            · first | exact hn0_ | (exact fun p_ => (own_ls r9_ h2_.1 (by omega) p_).trans (hn0_ p_))
            · first | exact hst1_ | exact bst_ls hst1_ r9_
            · first | exact hop1_ | exact ropn_ls hop1_ r9_ (by omega) f2_ o9_
            · first | exact hro_ | exact rot_ls hro_ r9_
            · first | exact htr_ | exact ⟨f90_.trans htr_.1, f11_.trans htr_.2⟩
            · first | exact hz1_ | (rw [o9_, if_neg (by omega)]; exact hz1_)
            · first | exact hw_ | (rw [f89_]; exact hw_)
            · exact hC_
            · omega
          · have cx5_ : ¬ ((S_.2.2.1 22 (0 + bb_) (S_.2.2.1 89 0 k_.toNat).toNat) = a2_) := of_decide_eq_false cx5_
            refine sm_T_go 2 (c1 := (148, [some (.inr (.inr (some (8, 0)))), some (.inl a1_), some (.inl a2_), some (.inl ct), some (.inl k_), some (.inl (S_.2.2.1 22 (0 + bb_) (S_.2.2.1 89 0 k_.toNat).toNat)), none], [.inl (S_.2.2.1 22 (0 + bb_) (S_.2.2.1 89 0 k_.toNat).toNat), .inr (.inr (some (8, 0)))], S_)) rfl ?_
            refine sm_T_cal (d1 := 0) (Q1 := vq_159 (S_.2.2.1 22 (0 + bb_) (S_.2.2.1 89 0 k_.toNat).toNat) bb_ S_) rfl rfl (by decide) (vc_159 (S_.2.2.1 22 (0 + bb_) (S_.2.2.1 89 0 k_.toNat).toNat) bb_ S_ hI_ (by exact (hF_.2.1 8 0 0 rfl).trans hb_) (by omega)) (fun u_ Sx6_ px9_ => ?_)
            obtain ⟨rfl, hIx7_, hFx8_, px9_⟩ := px9_
            have hFx10_ : ai_fr (sx_W vw_165) S0_ Sx6_ := ai_fr_tr hF_ (fr_le hFx8_ rfl)
            obtain ⟨dx12_, px9_⟩ := px9_
            have hCx11_ : cdf bb_ S0_ Sx6_ := cdf_tr hC_ (cdf_cg (by omega) dx12_)
            have r9_ := px9_.1
            have o9_ := px9_.2
            have f2_ := hFx8_.1 8 0 2 rfl
            have f11_ := hFx8_.1 8 0 11 rfl
            have f89_ : Sx6_.2.2.1 89 0 = S_.2.2.1 89 0 := fr_arr hFx8_ rfl
            have f90_ : Sx6_.2.2.1 90 0 = S_.2.2.1 90 0 := fr_arr hFx8_ rfl
            refine sm_T_inc (a := 4) (z := 1) (v := k_) (w := k_ + 1) rfl rfl (by omega) (by omega) (by omega) ?_ -- pc_ 151
            refine sm_T_go 1 (c1 := (110, [some (.inr (.inr (some (8, 0)))), some (.inl a1_), some (.inl a2_), some (.inl ct), some (.inl (k_ + 1)), some (.inl (S_.2.2.1 22 (0 + bb_) (S_.2.2.1 89 0 k_.toNat).toNat)), none], [], Sx6_)) rfl ?_
            refine sm_T_wk [some (.inr (.inr (some (8, 0)))), some (.inl a1_), some (.inl a2_), some (.inl ct), some (.inl (k_ + 1)), none, none] (by exact ⟨rfl, rfl, rfl, rfl, rfl, trivial⟩) ?_
            refine ih_.2.1 ct (k_ + 1) Sx6_ hIx7_ hFx10_ ⟨?_, ?_, ?_, ?_, ?_, ?_, ?_, ?_, ?_, ?_, ?_, trivial⟩ ?_
            · omega
            · first | exact hl_ | (rw [f89_]; exact hl_)
            · first | exact hy_ | (rw [f89_]; exact hy_)
            · first | exact hn0_ | (exact fun p_ => (own_ls r9_ h2_.1 (by omega) p_).trans (hn0_ p_))
            · first | exact hst1_ | exact bst_ls hst1_ r9_
            · first | exact hop1_ | exact ropn_ls hop1_ r9_ (by omega) f2_ o9_
            · first | exact hro_ | exact rot_ls hro_ r9_
            · first | exact htr_ | exact ⟨f90_.trans htr_.1, f11_.trans htr_.2⟩
            · first | exact hz1_ | (rw [o9_, if_neg (by omega)]; exact hz1_)
            · first | exact hw_ | (rw [f89_]; exact hw_)
            · exact hCx11_
            · omega
    · rintro ct k_ S_ hI_ hF_ ⟨h0_, hl_, hy_, hn1_, hn2_, htt_, hst2_, hop1_, hro_, hz1_, hw_, hw1_, hC_, -⟩ hm_
      have e2_ : S_.1 8 0 2 = S0_.1 8 0 2 := hF_.1 8 0 2 rfl
      have e1_ : S_.1 8 0 1 = S0_.1 8 0 1 := hF_.1 8 0 1 rfl
      have e86_ : S_.2.2.1 86 0 = S0_.2.2.1 86 0 := fr_arr hF_ rfl
      have cL_ : 0 ≤ S_.1 8 0 2 ∧ S_.1 8 0 2 ≤ 2356 := hI_.1 8 0 2 rfl
      have ctz_ : 0 ≤ S_.1 8 0 11 ∧ S_.1 8 0 11 ≤ 4712 := hI_.1 8 0 11 rfl
      refine sm_T_go 3 (c1 := (164, [some (.inr (.inr (some (8, 0)))), some (.inl a1_), some (.inl a2_), some (.inl ct), some (.inl k_), none, none], [.inl 1, .inl ct, .inl k_], S_)) rfl ?_
      refine sm_T_bin (w := ct - 1) rfl (bi_sub (by omega) (by omega) (by omega)) ?_ -- pc_ 164
      refine sm_T_br (a := 3) (z := 71) rfl (fun cx1_ => ?_) (fun cx1_ => ?_)
      · have cx1_ : ct - 1 ≤ k_ := of_decide_eq_true cx1_
        refine sm_T_rv rfl ⟨_, _, rfl, rfl, hI_, hF_, ?_⟩
        refine ⟨hC_, ?_⟩
        refine ⟨htt_, fun p_ hp9_ hn9_ => ?_, hop1_, hro_, hz1_, hw1_ (by omega)⟩
        rcases hst2_ p_ hp9_ hn9_ with u9_ | u9_
        · exact u9_
        · rw [u9_, show k_.toNat = (ct - 1).toNat by omega, hn2_]; omega
      · have cx1_ : ¬ (ct - 1 ≤ k_) := of_decide_eq_false cx1_
        have w9_ := hy_ k_.toNat (by omega)
        have w8_ := hy_ (k_ + 1).toNat (by omega)
        have x9_ := hn1_ k_.toNat (by omega) (by omega)
        have tb9_ := trt_b htt_ (x_ := (S_.2.2.1 89 0 k_.toNat)) (by omega) x9_
        refine sm_T_go 1 (c1 := (169, [some (.inr (.inr (some (8, 0)))), some (.inl a1_), some (.inl a2_), some (.inl ct), some (.inl k_), none, none], [.inr (.inr (some (8, 0)))], S_)) rfl ?_
        refine sm_T_gr rfl rfl ((hF_.2.1 8 0 0 rfl).trans hb_) ?_
        refine sm_T_go 4 (c1 := (181, [some (.inr (.inr (some (8, 0)))), some (.inl a1_), some (.inl a2_), some (.inl ct), some (.inl k_), none, none], [.inl k_, .inr (.inr (some (89, 0))), .inr (.inr (some (22, (0 + bb_))))], S_)) rfl ?_
        refine sm_T_iald (n := 4712) rfl rfl (by omega) (by omega) ?_
        have bx2_ : 0 ≤ S_.2.2.1 89 0 k_.toNat ∧ S_.2.2.1 89 0 k_.toNat ≤ 4711 := hI_.2 89 0 _
        refine sm_T_go 1 (c1 := (183, [some (.inr (.inr (some (8, 0)))), some (.inl a1_), some (.inl a2_), some (.inl ct), some (.inl k_), none, none], [.inl a2_, .inl (S_.2.2.1 89 0 k_.toNat), .inr (.inr (some (22, (0 + bb_))))], S_)) rfl ?_
        refine sm_T_iast (n := 4712) rfl rfl (by omega) (by omega) ?_
        have hIx3_ : gi (sm_aI S_ 22 (0 + bb_) (S_.2.2.1 89 0 k_.toNat).toNat a2_) := gi_aI hI_ (show (-1) ≤ a2_ ∧ a2_ ≤ 161 from ⟨by omega, by omega⟩)
        have hFx4_ : ai_fr (sx_W vw_165) S0_ (sm_aI S_ 22 (0 + bb_) (S_.2.2.1 89 0 k_.toNat).toNat a2_) := ai_fr_tr hF_ (ai_fr_aI rfl)
        have hCx5_ : cdf bb_ S0_ (sm_aI S_ 22 (0 + bb_) (S_.2.2.1 89 0 k_.toNat).toNat a2_) := cdf_aI hC_ (Or.inr (by rw [show cof 22 = 0 from rfl] <;> omega))
        have bx6_ : 0 ≤ S_.1 8 0 11 ∧ S_.1 8 0 11 ≤ 4712 := hI_.1 8 0 11 rfl
        refine sm_T_go 7 (c1 := (198, [some (.inr (.inr (some (8, 0)))), some (.inl a1_), some (.inl a2_), some (.inl ct), some (.inl k_), none, none], [.inl k_, .inr (.inr (some (89, 0))), .inl (S_.1 8 0 11), .inr (.inr (some (90, 0)))], sm_aI S_ 22 (0 + bb_) (S_.2.2.1 89 0 k_.toNat).toNat a2_)) rfl ?_
        refine sm_T_iald (n := 4712) rfl rfl (by omega) (by omega) ?_
        refine sm_T_go 0 (c1 := (199, [some (.inr (.inr (some (8, 0)))), some (.inl a1_), some (.inl a2_), some (.inl ct), some (.inl k_), none, none], [.inl (S_.2.2.1 89 0 k_.toNat), .inl (S_.1 8 0 11), .inr (.inr (some (90, 0)))], sm_aI S_ 22 (0 + bb_) (S_.2.2.1 89 0 k_.toNat).toNat a2_)) rfl ?_
        refine sm_T_iast (n := 4712) rfl rfl (by omega) (by omega) ?_
        have hIx7_ : gi (sm_aI (sm_aI S_ 22 (0 + bb_) (S_.2.2.1 89 0 k_.toNat).toNat a2_) 90 0 (S_.1 8 0 11).toNat (S_.2.2.1 89 0 k_.toNat)) := gi_aI hIx3_ (show 0 ≤ (S_.2.2.1 89 0 k_.toNat) ∧ (S_.2.2.1 89 0 k_.toNat) ≤ 4711 from ⟨by omega, by omega⟩)
        have hFx8_ : ai_fr (sx_W vw_165) S0_ (sm_aI (sm_aI S_ 22 (0 + bb_) (S_.2.2.1 89 0 k_.toNat).toNat a2_) 90 0 (S_.1 8 0 11).toNat (S_.2.2.1 89 0 k_.toNat)) := ai_fr_tr hFx4_ (ai_fr_aI rfl)
        have hCx9_ : cdf bb_ S0_ (sm_aI (sm_aI S_ 22 (0 + bb_) (S_.2.2.1 89 0 k_.toNat).toNat a2_) 90 0 (S_.1 8 0 11).toNat (S_.2.2.1 89 0 k_.toNat)) := cdf_aI hCx5_ (Or.inl rfl)
        refine sm_T_go 4 (c1 := (206, [some (.inr (.inr (some (8, 0)))), some (.inl a1_), some (.inl a2_), some (.inl ct), some (.inl k_), none, none], [.inl 1, .inl (S_.1 8 0 11), .inr (.inr (some (8, 0)))], sm_aI (sm_aI S_ 22 (0 + bb_) (S_.2.2.1 89 0 k_.toNat).toNat a2_) 90 0 (S_.1 8 0 11).toNat (S_.2.2.1 89 0 k_.toNat))) rfl ?_
        refine sm_T_bin (w := (S_.1 8 0 11) + 1) rfl (bi_add (by omega) (by omega) (by omega)) ?_ -- pc_ 206
        have hIx10_ : gi (sm_pI (sm_aI (sm_aI S_ 22 (0 + bb_) (S_.2.2.1 89 0 k_.toNat).toNat a2_) 90 0 (S_.1 8 0 11).toNat (S_.2.2.1 89 0 k_.toNat)) 8 0 11 ((S_.1 8 0 11) + 1)) := gi_pI hIx7_ (show 0 ≤ (S_.1 8 0 11) + 1 ∧ (S_.1 8 0 11) + 1 ≤ 4712 from ⟨by omega, by omega⟩)
        have hFx11_ : ai_fr (sx_W vw_165) S0_ (sm_pI (sm_aI (sm_aI S_ 22 (0 + bb_) (S_.2.2.1 89 0 k_.toNat).toNat a2_) 90 0 (S_.1 8 0 11).toNat (S_.2.2.1 89 0 k_.toNat)) 8 0 11 ((S_.1 8 0 11) + 1)) := ai_fr_tr hFx8_ (ai_fr_pI rfl)
        have hCx12_ : cdf bb_ S0_ (sm_pI (sm_aI (sm_aI S_ 22 (0 + bb_) (S_.2.2.1 89 0 k_.toNat).toNat a2_) 90 0 (S_.1 8 0 11).toNat (S_.2.2.1 89 0 k_.toNat)) 8 0 11 ((S_.1 8 0 11) + 1)) := cdf_pI hCx9_ (Or.inl rfl)
        refine sm_T_go 5 (c1 := (217, [some (.inr (.inr (some (8, 0)))), some (.inl a1_), some (.inl a2_), some (.inl ct), some (.inl k_), none, none], [.inl k_, .inr (.inr (some (89, 0))), .inr (.inr (some (8, 0)))], sm_pI (sm_aI (sm_aI S_ 22 (0 + bb_) (S_.2.2.1 89 0 k_.toNat).toNat a2_) 90 0 (S_.1 8 0 11).toNat (S_.2.2.1 89 0 k_.toNat)) 8 0 11 ((S_.1 8 0 11) + 1))) rfl ?_
        refine sm_T_iald (n := 4712) rfl rfl (by omega) (by omega) ?_
        refine sm_T_go 4 (c1 := (225, [some (.inr (.inr (some (8, 0)))), some (.inl a1_), some (.inl a2_), some (.inl ct), some (.inl k_), none, none], [.inl 1, .inl k_, .inr (.inr (some (89, 0))), .inl (S_.2.2.1 89 0 k_.toNat), .inr (.inr (some (8, 0)))], sm_pI (sm_aI (sm_aI S_ 22 (0 + bb_) (S_.2.2.1 89 0 k_.toNat).toNat a2_) 90 0 (S_.1 8 0 11).toNat (S_.2.2.1 89 0 k_.toNat)) 8 0 11 ((S_.1 8 0 11) + 1))) rfl ?_
        refine sm_T_bin (w := k_ + 1) rfl (bi_add (by omega) (by omega) (by omega)) ?_ -- pc_ 225
        refine sm_T_iald (n := 4712) rfl rfl (by omega) (by omega) ?_
        have bx13_ : 0 ≤ S_.2.2.1 89 0 (k_ + 1).toNat ∧ S_.2.2.1 89 0 (k_ + 1).toNat ≤ 4711 := hI_.2 89 0 _
        refine sm_T_go 0 (c1 := (227, [some (.inr (.inr (some (8, 0)))), some (.inl a1_), some (.inl a2_), some (.inl ct), some (.inl k_), none, none], [.inl (S_.2.2.1 89 0 (k_ + 1).toNat), .inl (S_.2.2.1 89 0 k_.toNat), .inr (.inr (some (8, 0)))], sm_pI (sm_aI (sm_aI S_ 22 (0 + bb_) (S_.2.2.1 89 0 k_.toNat).toNat a2_) 90 0 (S_.1 8 0 11).toNat (S_.2.2.1 89 0 k_.toNat)) 8 0 11 ((S_.1 8 0 11) + 1))) rfl ?_
        refine sm_T_cal (d1 := 0) (Q1 := vq_167 (S_.2.2.1 89 0 k_.toNat) (S_.2.2.1 89 0 (k_ + 1).toNat) bb_ (sm_pI (sm_aI (sm_aI S_ 22 (0 + bb_) (S_.2.2.1 89 0 k_.toNat).toNat a2_) 90 0 (S_.1 8 0 11).toNat (S_.2.2.1 89 0 k_.toNat)) 8 0 11 ((S_.1 8 0 11) + 1))) rfl rfl (by decide) (vc_167 (S_.2.2.1 89 0 k_.toNat) (S_.2.2.1 89 0 (k_ + 1).toNat) bb_ (sm_pI (sm_aI (sm_aI S_ 22 (0 + bb_) (S_.2.2.1 89 0 k_.toNat).toNat a2_) 90 0 (S_.1 8 0 11).toNat (S_.2.2.1 89 0 k_.toNat)) 8 0 11 ((S_.1 8 0 11) + 1)) hIx10_ (by exact (hFx11_.2.1 8 0 0 rfl).trans hb_) (by omega) (by omega)) (fun u_ Sx14_ px17_ => ?_)
        obtain ⟨rfl, hIx15_, hFx16_, px17_⟩ := px17_
        have hFx18_ : ai_fr (sx_W vw_165) S0_ Sx14_ := ai_fr_tr hFx11_ (fr_le hFx16_ rfl)
        obtain ⟨dx20_, px17_⟩ := px17_
        have hCx19_ : cdf bb_ S0_ Sx14_ := cdf_tr hCx12_ (cdf_cg (by omega) dx20_)
        have j9_ := px17_
        have q22_ := fr_arr (t := 22) (i := 0 + bb_) hFx16_ rfl
        have q24_ := fr_arr (t := 24) (i := 0 + bb_) hFx16_ rfl
        have q89_ := fr_arr (t := 89) (i := 0) hFx16_ rfl
        have q90_ := fr_arr (t := 90) (i := 0) hFx16_ rfl
        have f2_ : Sx14_.1 8 0 2 = S_.1 8 0 2 := hFx16_.1 8 0 2 rfl
        have f11_ : Sx14_.1 8 0 11 = S_.1 8 0 11 + 1 := hFx16_.1 8 0 11 rfl
        have r22_ : ∀ j_, Sx14_.2.2.1 22 (0 + bb_) j_ = if j_ = (S_.2.2.1 89 0 k_.toNat).toNat then a2_ else S_.2.2.1 22 (0 + bb_) j_ := fun j_ => by rw [q22_, rd_fa, rd_ne (by decide), rd_eq]
        have r90_ : ∀ i_, Sx14_.2.2.1 90 0 i_ = if i_ = (S_.1 8 0 11).toNat then (S_.2.2.1 89 0 k_.toNat) else S_.2.2.1 90 0 i_ := fun i_ => by rw [q90_, rd_fa, rd_eq, rd_ne (by decide)]
        have r89_ : Sx14_.2.2.1 89 0 = S_.2.2.1 89 0 := by (rw [q89_, rd_fa, rd_ne_ (by decide), rd_ne_ (by decide)])
        have r24_ : Sx14_.2.2.1 24 (0 + bb_) = S_.2.2.1 24 (0 + bb_) := by (rw [q24_, rd_fa, rd_ne_ (by decide), rd_ne_ (by decide)])
        have r23_ : ∃ s9_, ∀ j_, Sx14_.2.2.1 23 (0 + bb_) j_ = if j_ = (sm_mn (S_.2.2.1 89 0 k_.toNat) (S_.2.2.1 89 0 (k_ + 1).toNat)).toNat then s9_ else S_.2.2.1 23 (0 + bb_) j_ := by (obtain ⟨s9_, q9_⟩ := j9_; exact ⟨s9_, fun j_ => by rw [q9_ j_, rd_fa, rd_ne (by decide), rd_ne (by decide)]⟩)
        refine sm_T_inc (a := 4) (z := 1) (v := k_) (w := k_ + 1) rfl rfl (by omega) (by omega) (by omega) ?_ -- pc_ 230
        refine sm_T_go 1 (c1 := (160, [some (.inr (.inr (some (8, 0)))), some (.inl a1_), some (.inl a2_), some (.inl ct), some (.inl (k_ + 1)), none, none], [], Sx14_)) rfl ?_
        refine ih_.2.2 ct (k_ + 1) Sx14_ hIx15_ hFx18_ ⟨?_, ?_, ?_, ?_, ?_, ?_, ?_, ?_, ?_, ?_, ?_, ?_, ?_, trivial⟩ ?_
        · omega
        · (rw [r89_]; exact hl_)
        · (rw [r89_]; exact hy_)
        · intro j_ u_ w_
          rw [r89_, r22_, if_neg (rwy_i hy_ (show k_.toNat < j_ by omega) (by omega)).2]
          exact hn1_ j_ (by omega) w_
        · rw [r89_, r22_]
          split
          · rfl
          · exact hn2_
        · exact trt_add htt_ (by omega) x9_ ctz_.1 r22_ r90_ f11_ f2_
        · intro p_ u_ w_
          obtain ⟨s9_, r23_⟩ := r23_
          rw [r23_] at w_
          rw [r22_, r89_]
          by_cases y_ : p_ = (S_.2.2.1 89 0 k_.toNat).toNat
          · left; rw [if_pos y_]; omega
          · rw [if_neg y_]
            by_cases z_ : p_ = (sm_mn (S_.2.2.1 89 0 k_.toNat) (S_.2.2.1 89 0 (k_ + 1).toNat)).toNat
            · right
              have mn := sm_mn_d (S_.2.2.1 89 0 k_.toNat) (S_.2.2.1 89 0 (k_ + 1).toNat)
              rcases mn.2.2 with v_ | v_
              · rw [v_] at z_; exact absurd z_ y_
              · rw [v_] at z_; exact z_
            · rw [if_neg z_] at w_
              rcases hst2_ p_ u_ w_ with v_ | v_
              · left; exact v_
              · exact absurd v_ y_
        · intro c_ u_ w_ p_ v_
          rw [r24_] at w_
          rw [f2_] at v_
          rw [r22_]
          split
          · intro y_
            rw [show c_ = a2_.toNat by omega] at w_
            exact w_ hz1_
          · exact hop1_ c_ u_ w_ p_ v_
        · intro p_
          rw [r22_]
          split
          · right; right; rfl
          · exact hro_ p_
        · (rw [r24_]; exact hz1_)
        · (rw [r89_]; exact hw_)
        · intro u_
          rw [r22_]
          split
          · rfl
          · by_cases y_ : k_ = 0
            · exfalso; rename_i z9_; apply z9_; rw [y_, show (0 : Int).toNat = 0 from rfl, hw_]
            · exact hw1_ (by omega)
        · exact hCx19_
        · omega
set_option maxHeartbeats 3000000 in
set_option maxRecDepth 20000 in
theorem vc_165 {sc_ : Nat × (Nat → Int)} (a1_ : Int) (a2_ : Int) (bb_ : Nat) (S0_ : sm_S) (hI_ : gi S0_) (hb_ : S0_.2.1 8 0 0 = some bb_) (hg_ : rgw S0_) (h1_ : 0 ≤ a1_ ∧ a1_ < 2 * S0_.1 8 0 2) (h2_ : 0 ≤ a2_ ∧ a2_ ≤ 161) (hr_ : rsp bb_ a2_ S0_) (ht_ : trt bb_ a2_ S0_) (hf_ : 0 < S0_.2.2.1 86 0 a1_.toNat) (hst_ : bst bb_ S0_) (hop_ : ropn bb_ S0_) (hz_ : S0_.2.2.1 24 (0 + bb_) a2_.toNat = 0) : sm_T (mt_P sc_) 2 165 (0, [some (.inr (.inr (some (8, 0)))), some (.inl a1_), some (.inl a2_), none, none, none, none], [], S0_) (fun ro9_ => ∃ u_ S1_, ro9_ = (.inl u_, S1_, 0) ∧ vq_165 a1_ a2_ bb_ S0_ u_ S1_) := by
  have hF_ : ai_fr (sx_W vw_165) S0_ S0_ := ai_fr_rf
  have hC_ : cdf bb_ S0_ S0_ := cdf_rf
  have cL_ : 0 ≤ S0_.1 8 0 2 ∧ S0_.1 8 0 2 ≤ 2356 := hI_.1 8 0 2 rfl
  refine sm_T_go 4 (c1 := (6, [some (.inr (.inr (some (8, 0)))), some (.inl a1_), some (.inl a2_), none, none, none, none], [.inl a1_, .inl 0, .inr (.inr (some (89, 0)))], S0_)) rfl ?_
  refine sm_T_iast (n := 4712) rfl rfl (by omega) (by omega) ?_
  have hIx1_ : gi (sm_aI S0_ 89 0 (0 : Int).toNat a1_) := gi_aI hI_ (show 0 ≤ a1_ ∧ a1_ ≤ 4711 from ⟨by omega, by omega⟩)
  have hFx2_ : ai_fr (sx_W vw_165) S0_ (sm_aI S0_ 89 0 (0 : Int).toNat a1_) := ai_fr_tr hF_ (ai_fr_aI rfl)
  have hCx3_ : cdf bb_ S0_ (sm_aI S0_ 89 0 (0 : Int).toNat a1_) := cdf_aI hC_ (Or.inl rfl)
  refine sm_T_go 4 (c1 := (12, [some (.inr (.inr (some (8, 0)))), some (.inl a1_), some (.inl a2_), some (.inl 1), some (.inl 0), none, none], [], sm_aI S0_ 89 0 (0 : Int).toNat a1_)) rfl ?_
  refine (vl_165 a1_ a2_ bb_ S0_ hb_ hg_ h1_ h2_ hr_ ht_ hf_ hst_ hop_ hz_ _).1 1 0 (sm_aI S0_ 89 0 (0 : Int).toNat a1_) hIx1_ hFx2_ ⟨?_, ?_, ?_, ?_, ?_, ?_, trivial⟩ (Nat.lt_succ_self _)
  · omega
  · exact ⟨rd_ne_ (by decide), rd_ne_ (by decide), rd_ne_ (by decide), rd_ne_ (by decide), rfl⟩
  · intro i_ hi_
    have z_ : i_ = 0 := by omega
    rw [z_, rd_eq, if_pos (by decide)]
    exact ⟨h1_, by omega, fun u_ => by omega⟩
  · have z_ := cnd_lt (f := (S0_.2.2.1 86 0)) (d := (S0_.2.2.1 86 0) a1_.toNat) (e := (S0_.2.2.1 86 0) a1_.toNat + 1) (j := a1_.toNat) (by omega) (by omega) (by omega) (by omega) (n := (2 * S0_.1 8 0 2).toNat) (by omega)
    have y_ := cnd_le (S0_.2.2.1 86 0) ((S0_.2.2.1 86 0) a1_.toNat + 1) (2 * S0_.1 8 0 2).toNat
    rw [rd_eq, if_pos (by decide)]
    omega
  · (rw [rd_eq, if_pos (by decide)])
  · exact hCx3_
end
/-! 99.zkha -/
section
/-! nets connected; written by wip/p55/gen/vg -/

/-! nets connected -/
theorem trt_1 {bb_ : Nat} {t_ x_ : Int} {S_ S'_ : sm_S} (hx_ : 0 ≤ x_ ∧ x_ < 2 * S'_.1 8 0 2) (ho_ : ∀ p_ : Nat, (p_ : Int) < 2 * S'_.1 8 0 2 → S_.2.2.1 22 (0 + bb_) p_ ≠ t_) (h1_ : ∀ j_, S'_.2.2.1 22 (0 + bb_) j_ = if j_ = x_.toNat then t_ else S_.2.2.1 22 (0 + bb_) j_) (h2_ : S'_.2.2.1 90 0 0 = x_) (h3_ : S'_.1 8 0 11 = 1) : trt bb_ t_ S'_ := by
  refine ⟨?_, fun i_ hi_ => ?_, fun p_ hp_ hq_ => ?_⟩
  · have u_ := cne_up (f := S_.2.2.1 22 (0 + bb_)) (g := S'_.2.2.1 22 (0 + bb_)) (c := t_) (j := x_.toNat) (ho_ _ (by omega)) (by rw [h1_, if_pos rfl]) (fun k_ hk_ => by rw [h1_, if_neg hk_]) (n := (2 * S'_.1 8 0 2).toNat) (by omega)
    rw [cne_0 (fun k_ hk_ => ho_ k_ (by omega))] at u_
    rw [h3_, u_]
    rfl
  · have z_ : i_ = 0 := by omega
    rw [z_, h2_]
    exact ⟨hx_, by rw [h1_, if_pos rfl]⟩
  · rw [h1_] at hq_
    by_cases z_ : p_ = x_.toNat
    · exact ⟨0, by omega, by rw [h2_]; omega⟩
    · rw [if_neg z_] at hq_
      exact absurd hq_ (ho_ p_ hp_)
theorem rot_tr {bb_ : Nat} {t_ : Int} {S_ S'_ S2_ : sm_S} (h_ : rot bb_ t_ S_ S'_) (g_ : rot bb_ t_ S'_ S2_) : rot bb_ t_ S_ S2_ := by
  intro p_
  rcases g_ p_ with a_ | a_ | a_
  · rw [a_]; exact h_ p_
  · exact Or.inr (Or.inl a_)
  · exact Or.inr (Or.inr a_)
theorem ropn_cg {bb_ : Nat} {S_ S'_ : sm_S} (h_ : ropn bb_ S_) (e_ : S'_.1 8 0 2 = S_.1 8 0 2) (a_ : S'_.2.2.1 22 (0 + bb_) = S_.2.2.1 22 (0 + bb_)) (b_ : S'_.2.2.1 24 (0 + bb_) = S_.2.2.1 24 (0 + bb_)) : ropn bb_ S'_ := by
  unfold ropn
  rw [e_, a_, b_]
  exact h_
theorem bst_cg {bb_ : Nat} {S_ S'_ : sm_S} (h_ : bst bb_ S_) (a_ : S'_.2.2.1 22 (0 + bb_) = S_.2.2.1 22 (0 + bb_)) (b_ : S'_.2.2.1 23 (0 + bb_) = S_.2.2.1 23 (0 + bb_)) : bst bb_ S'_ := by
  unfold bst
  rw [a_, b_]
  exact h_
/-! Router.connect -/
def vw_157 : sx_Wl := ([(8, 6), (8, 8), (8, 11)], [22, 23, 24, 86, 87, 88, 89, 90], [])
def vq_157 (a1_ : Int) (a2_ : Int) (bb_ : Nat) (S0_ : sm_S) (u_ : Option sm_V) (S1_ : sm_S) : Prop := ∃ v_ : Int, u_ = some (.inl v_) ∧ gi S1_ ∧ ai_fr (sx_W vw_157) S0_ S1_ ∧ (cdf bb_ S0_ S1_ ∧ ((0 ≤ v_ ∧ v_ ≤ 1) ∧ bst bb_ S1_ ∧ ropn bb_ S1_ ∧ rot bb_ a1_ S0_ S1_))
set_option maxHeartbeats 3000000 in
theorem vl_157 {sc_ : Nat × (Nat → Int)} (a1_ : Int) (a2_ : Int) (bb_ : Nat) (S0_ : sm_S) (hb_ : S0_.2.1 8 0 0 = some bb_) (hg_ : rgw S0_) (h1_ : 0 ≤ a1_ ∧ a1_ ≤ 161) (hn_ : bpn bb_ S0_) (hp_ : rpt bb_ S0_) (hst_ : bst bb_ S0_) (hop_ : ropn bb_ S0_) (hno_ : ∀ p_ : Nat, (p_ : Int) < 2 * S0_.1 8 0 2 → S0_.2.2.1 22 (0 + bb_) p_ ≠ a1_) (hk1_ : 1 ≤ S0_.2.2.1 20 (0 + bb_) a1_.toNat) : ∀ nn_ : Nat, (∀ (k_ : Int) (S_ : sm_S), gi S_ → ai_fr (sx_W vw_157) S0_ S_ → ((1 ≤ k_ ∧ k_ ≤ 652) ∧ (trt bb_ a1_ S_) ∧ (bst bb_ S_) ∧ (ropn bb_ S_) ∧ (rot bb_ a1_ S0_ S_) ∧ (S_.2.2.1 24 (0 + bb_) a1_.toNat = 0) ∧ (cdf bb_ S0_ S_) ∧ True) → ((1000 - k_).toNat) < nn_ → sm_T (mt_P sc_) 4 157 (42, [some (.inr (.inr (some (8, 0)))), some (.inl a1_), some (.inl a2_), none, some (.inl k_), none], [], S_) (fun ro9_ => ∃ u_ S1_, ro9_ = (.inl u_, S1_, 0) ∧ vq_157 a1_ a2_ bb_ S0_ u_ S1_)) := by
  intro nn_
  induction nn_ with
  | zero => exact fun _ _ _ _ _ h_ => absurd h_ (Nat.not_lt_zero _)
  | succ nn_ ih_ =>
    rintro k_ S_ hI_ hF_ ⟨h0_, htt_, hst1_, hop1_, hro_, hz1_, hC_, -⟩ hm_
    have e2_ : S_.1 8 0 2 = S0_.1 8 0 2 := hF_.1 8 0 2 rfl
    have cL_ : 0 ≤ S_.1 8 0 2 ∧ S_.1 8 0 2 ≤ 2356 := hI_.1 8 0 2 rfl
    have k20_ : S_.2.2.1 20 (0 + bb_) = S0_.2.2.1 20 (0 + bb_) := fr_arr hF_ rfl
    refine sm_T_go 2 (c1 := (45, [some (.inr (.inr (some (8, 0)))), some (.inl a1_), some (.inl a2_), none, some (.inl k_), none], [.inr (.inr (some (8, 0))), .inl k_], S_)) rfl ?_
    refine sm_T_gr rfl rfl ((hF_.2.1 8 0 0 rfl).trans hb_) ?_
    refine sm_T_go 2 (c1 := (52, [some (.inr (.inr (some (8, 0)))), some (.inl a1_), some (.inl a2_), none, some (.inl k_), none], [.inl a1_, .inr (.inr (some (20, (0 + bb_)))), .inl k_], S_)) rfl ?_
    refine sm_T_iald (n := 162) rfl rfl (by omega) (by omega) ?_
    have bx1_ : 0 ≤ S_.2.2.1 20 (0 + bb_) a1_.toNat ∧ S_.2.2.1 20 (0 + bb_) a1_.toNat ≤ 652 := hI_.2 20 (0 + bb_) _
    refine sm_T_br (a := 3) (z := 47) rfl (fun cx2_ => ?_) (fun cx2_ => ?_)
    · have cx2_ : (S_.2.2.1 20 (0 + bb_) a1_.toNat) ≤ k_ := of_decide_eq_true cx2_
      refine sm_T_go 1 (c1 := (101, [some (.inr (.inr (some (8, 0)))), some (.inl a1_), some (.inl a2_), none, some (.inl k_), none], [.inl 1], S_)) rfl ?_
      refine sm_T_rz rfl (by omega) ⟨_, _, rfl, _, rfl, hI_, hF_, ?_⟩
      refine ⟨hC_, ?_⟩
      exact ⟨by omega, hst1_, hop1_, hro_⟩
    · have cx2_ : ¬ ((S_.2.2.1 20 (0 + bb_) a1_.toNat) ≤ k_) := of_decide_eq_false cx2_
      refine sm_T_go 3 (c1 := (59, [some (.inr (.inr (some (8, 0)))), some (.inl a1_), some (.inl a2_), none, some (.inl k_), none], [.inl (-1), .inl a1_, .inr (.inr (some (8, 0)))], S_)) rfl ?_
      refine sm_T_cal (d1 := 2) (Q1 := vq_158 a1_ (-1) bb_ S_) rfl rfl (by decide) (vc_158 a1_ (-1) bb_ S_ hI_ (by exact (hF_.2.1 8 0 0 rfl).trans hb_) (by omega) (by exact bpn_fr hn_ hF_ rfl rfl rfl rfl) (by exact rpt_fr hp_ hF_)) (fun u_ Sx3_ px6_ => ?_)
      obtain ⟨rfl, vx8_, rfl, px6_⟩ := px6_
      refine sm_T_go 1 (c1 := (63, [some (.inr (.inr (some (8, 0)))), some (.inl a1_), some (.inl a2_), none, some (.inl k_), none], [.inl (-1), .inl vx8_], S_)) rfl ?_
      refine sm_T_br (a := 0) (z := 37) rfl (fun cx9_ => ?_) (fun cx9_ => ?_)
      · have cx9_ : vx8_ = (-1) := of_decide_eq_true cx9_
        refine sm_T_go 1 (c1 := (101, [some (.inr (.inr (some (8, 0)))), some (.inl a1_), some (.inl a2_), none, some (.inl k_), none], [.inl 1], S_)) rfl ?_
        refine sm_T_rz rfl (by omega) ⟨_, _, rfl, _, rfl, hI_, hF_, ?_⟩
        refine ⟨hC_, ?_⟩
        exact ⟨by omega, hst1_, hop1_, hro_⟩
      · have cx9_ : ¬ (vx8_ = (-1)) := of_decide_eq_false cx9_
        refine sm_T_go 3 (c1 := (69, [some (.inr (.inr (some (8, 0)))), some (.inl a1_), some (.inl a2_), none, some (.inl k_), none], [.inl a2_, .inl a1_, .inr (.inr (some (8, 0)))], S_)) rfl ?_
        refine sm_T_cal (d1 := 3) (Q1 := vq_161 a1_ a2_ bb_ S_) rfl rfl (by decide) (vc_161 a1_ a2_ bb_ S_ hI_ (by exact (hF_.2.1 8 0 0 rfl).trans hb_) (by exact rgw_fr hg_ hF_) (by omega) (by exact bpn_fr hn_ hF_ rfl rfl rfl rfl) (by exact rpt_fr hp_ hF_) (by exact htt_)) (fun u_ Sx10_ px13_ => ?_)
        obtain ⟨vx15_, rfl, hIx11_, hFx12_, px13_⟩ := px13_
        have hFx14_ : ai_fr (sx_W vw_157) S0_ Sx10_ := ai_fr_tr hF_ (fr_le hFx12_ rfl)
        have hCx16_ : cdf bb_ S0_ Sx10_ := cdf_tr hC_ (cdf_fr hFx12_ rfl)
        have s9_ := px13_
        have f2_ := hFx12_.1 8 0 2 rfl
        have f22_ : Sx10_.2.2.1 22 (0 + bb_) = S_.2.2.1 22 (0 + bb_) := fr_arr hFx12_ rfl
        have f23_ : Sx10_.2.2.1 23 (0 + bb_) = S_.2.2.1 23 (0 + bb_) := fr_arr hFx12_ rfl
        have f24_ : Sx10_.2.2.1 24 (0 + bb_) = S_.2.2.1 24 (0 + bb_) := fr_arr hFx12_ rfl
        have f90_ : Sx10_.2.2.1 90 0 = S_.2.2.1 90 0 := fr_arr hFx12_ rfl
        have f11_ := hFx12_.1 8 0 11 rfl
        have t9_ := trt_cg htt_ f2_ f11_ f90_ (fun p_ => by rw [f22_])
        have b9_ := bst_cg hst1_ f22_ f23_
        have o9_ := ropn_cg hop1_ f2_ f22_ f24_
        have z9_ : Sx10_.2.2.1 24 (0 + bb_) a1_.toNat = 0 := by (rw [f24_]; exact hz1_)
        have r9_ : rot bb_ a1_ S0_ Sx10_ := by (intro p_; rw [f22_]; exact hro_ p_)
        refine sm_T_go 3 (c1 := (77, [some (.inr (.inr (some (8, 0)))), some (.inl a1_), some (.inl a2_), none, some (.inl k_), some (.inl vx15_)], [.inl (-1), .inl vx15_], Sx10_)) rfl ?_
        refine sm_T_br (a := 1) (z := 10) rfl (fun cx17_ => ?_) (fun cx17_ => ?_)
        · have cx17_ : vx15_ ≠ (-1) := of_decide_eq_true cx17_
          refine sm_T_go 3 (c1 := (91, [some (.inr (.inr (some (8, 0)))), some (.inl a1_), some (.inl a2_), none, some (.inl k_), some (.inl vx15_)], [.inl a1_, .inl vx15_, .inr (.inr (some (8, 0)))], Sx10_)) rfl ?_
          refine sm_T_cal (d1 := 2) (Q1 := vq_165 vx15_ a1_ bb_ Sx10_) rfl rfl (by decide) (vc_165 vx15_ a1_ bb_ Sx10_ hIx11_ (by exact (hFx14_.2.1 8 0 0 rfl).trans hb_) (by exact rgw_fr hg_ hFx14_) (by (rcases s9_ with u9_ | u9_; (exfalso; omega); exact u9_.1)) (by omega) (by (rcases s9_ with u9_ | u9_; (exfalso; omega); exact u9_.2.1)) (by exact t9_) (by (rcases s9_ with u9_ | u9_; (exfalso; omega); exact u9_.2.2.1)) (by exact b9_) (by exact o9_) (by exact z9_)) (fun u_ Sx18_ px21_ => ?_)
          obtain ⟨rfl, hIx19_, hFx20_, px21_⟩ := px21_
          have hFx22_ : ai_fr (sx_W vw_157) S0_ Sx18_ := ai_fr_tr hFx14_ (fr_le hFx20_ rfl)
          obtain ⟨dx24_, px21_⟩ := px21_
          have hCx23_ : cdf bb_ S0_ Sx18_ := cdf_tr hCx16_ (cdf_cg (by omega) dx24_)
          have w9_ := px21_
          refine sm_T_inc (a := 4) (z := 1) (v := k_) (w := k_ + 1) rfl rfl (by omega) (by omega) (by omega) ?_ -- pc_ 94
          refine sm_T_go 1 (c1 := (42, [some (.inr (.inr (some (8, 0)))), some (.inl a1_), some (.inl a2_), none, some (.inl (k_ + 1)), some (.inl vx15_)], [], Sx18_)) rfl ?_
          refine sm_T_wk [some (.inr (.inr (some (8, 0)))), some (.inl a1_), some (.inl a2_), none, some (.inl (k_ + 1)), none] (by exact ⟨rfl, rfl, rfl, rfl, trivial⟩) ?_
          refine ih_ (k_ + 1) Sx18_ hIx19_ hFx22_ ⟨?_, ?_, ?_, ?_, ?_, ?_, ?_, trivial⟩ ?_
          · omega
          · exact w9_.1
          · exact w9_.2.1
          · exact w9_.2.2.1
          · exact rot_tr r9_ w9_.2.2.2.1
          · exact w9_.2.2.2.2.1
          · exact hCx23_
          · omega
        · have cx17_ : ¬ (vx15_ ≠ (-1)) := of_decide_eq_false cx17_
          refine sm_T_go 2 (c1 := (82, [some (.inr (.inr (some (8, 0)))), some (.inl a1_), some (.inl a2_), none, some (.inl k_), some (.inl vx15_)], [.inl a1_, .inr (.inr (some (8, 0)))], Sx10_)) rfl ?_
          refine sm_T_cal (d1 := 0) (Q1 := vq_159 a1_ bb_ Sx10_) rfl rfl (by decide) (vc_159 a1_ bb_ Sx10_ hIx11_ (by exact (hFx14_.2.1 8 0 0 rfl).trans hb_) (by omega)) (fun u_ Sx25_ px28_ => ?_)
          obtain ⟨rfl, hIx26_, hFx27_, px28_⟩ := px28_
          have hFx29_ : ai_fr (sx_W vw_157) S0_ Sx25_ := ai_fr_tr hFx14_ (fr_le hFx27_ rfl)
          obtain ⟨dx31_, px28_⟩ := px28_
          have hCx30_ : cdf bb_ S0_ Sx25_ := cdf_tr hCx16_ (cdf_cg (by omega) dx31_)
          have l9_ := px28_
          have g2_ := hFx27_.1 8 0 2 rfl
          refine sm_T_go 1 (c1 := (86, [some (.inr (.inr (some (8, 0)))), some (.inl a1_), some (.inl a2_), none, some (.inl k_), some (.inl vx15_)], [.inl 0], Sx25_)) rfl ?_
          refine sm_T_rz rfl (by omega) ⟨_, _, rfl, _, rfl, hIx26_, hFx29_, ?_⟩
          refine ⟨hCx30_, ?_⟩
          exact ⟨by omega, bst_ls b9_ l9_.1, ropn_ls o9_ l9_.1 h1_.1 g2_ l9_.2, rot_ls r9_ l9_.1⟩
set_option maxHeartbeats 3000000 in
theorem vc_157 {sc_ : Nat × (Nat → Int)} (a1_ : Int) (a2_ : Int) (bb_ : Nat) (S0_ : sm_S) (hI_ : gi S0_) (hb_ : S0_.2.1 8 0 0 = some bb_) (hg_ : rgw S0_) (h1_ : 0 ≤ a1_ ∧ a1_ ≤ 161) (hn_ : bpn bb_ S0_) (hp_ : rpt bb_ S0_) (hst_ : bst bb_ S0_) (hop_ : ropn bb_ S0_) (hno_ : ∀ p_ : Nat, (p_ : Int) < 2 * S0_.1 8 0 2 → S0_.2.2.1 22 (0 + bb_) p_ ≠ a1_) (hk1_ : 1 ≤ S0_.2.2.1 20 (0 + bb_) a1_.toNat) : sm_T (mt_P sc_) 4 157 (0, [some (.inr (.inr (some (8, 0)))), some (.inl a1_), some (.inl a2_), none, none, none], [], S0_) (fun ro9_ => ∃ u_ S1_, ro9_ = (.inl u_, S1_, 0) ∧ vq_157 a1_ a2_ bb_ S0_ u_ S1_) := by
  have hF_ : ai_fr (sx_W vw_157) S0_ S0_ := ai_fr_rf
  have hC_ : cdf bb_ S0_ S0_ := cdf_rf
  have cL_ : 0 ≤ S0_.1 8 0 2 ∧ S0_.1 8 0 2 ≤ 2356 := hI_.1 8 0 2 rfl
  refine sm_T_go 3 (c1 := (3, [some (.inr (.inr (some (8, 0)))), some (.inl a1_), some (.inl a2_), none, none, none], [.inl (-1), .inl a1_, .inr (.inr (some (8, 0)))], S0_)) rfl ?_
  refine sm_T_cal (d1 := 2) (Q1 := vq_158 a1_ (-1) bb_ S0_) rfl rfl (by decide) (vc_158 a1_ (-1) bb_ S0_ hI_ (by exact hb_) (by omega) (by exact hn_) (by exact hp_)) (fun u_ Sx1_ px4_ => ?_)
  obtain ⟨rfl, vx6_, rfl, px4_⟩ := px4_
  have n3_ := px4_
  have p3_ := hp_ a1_.toNat (by omega) 0 (by omega)
  have v3_ : (0 ≤ vx6_ ∧ vx6_ < S0_.1 8 0 2) := by (rcases n3_ with u9_ | u9_; (exfalso; rcases u9_.2 0 (by omega) with w9_ | w9_; exact hno_ _ (by omega) w9_; exact w9_.1 rfl); exact u9_.1)
  refine sm_T_go 2 (c1 := (8, [some (.inr (.inr (some (8, 0)))), some (.inl a1_), some (.inl a2_), some (.inl vx6_), none, none], [.inr (.inr (some (8, 0)))], S0_)) rfl ?_
  refine sm_T_gr rfl rfl ((hF_.2.1 8 0 0 rfl).trans hb_) ?_
  refine sm_T_go 3 (c1 := (16, [some (.inr (.inr (some (8, 0)))), some (.inl a1_), some (.inl a2_), some (.inl vx6_), none, none], [.inl 0, .inl a1_, .inr (.inr (some (24, (0 + bb_))))], S0_)) rfl ?_
  refine sm_T_iast (n := 162) rfl rfl (by omega) (by omega) ?_
  have hIx7_ : gi (sm_aI S0_ 24 (0 + bb_) a1_.toNat 0) := gi_aI hI_ (show 0 ≤ 0 ∧ 0 ≤ 1 from ⟨by omega, by omega⟩)
  have hFx8_ : ai_fr (sx_W vw_157) S0_ (sm_aI S0_ 24 (0 + bb_) a1_.toNat 0) := ai_fr_tr hF_ (ai_fr_aI rfl)
  have hCx9_ : cdf bb_ S0_ (sm_aI S0_ 24 (0 + bb_) a1_.toNat 0) := cdf_aI hC_ (Or.inr (by rw [show cof 24 = 0 from rfl] <;> omega))
  refine sm_T_go 1 (c1 := (18, [some (.inr (.inr (some (8, 0)))), some (.inl a1_), some (.inl a2_), some (.inl vx6_), none, none], [.inr (.inr (some (8, 0)))], sm_aI S0_ 24 (0 + bb_) a1_.toNat 0)) rfl ?_
  refine sm_T_gr rfl rfl ((hFx8_.2.1 8 0 0 rfl).trans hb_) ?_
  refine sm_T_go 3 (c1 := (26, [some (.inr (.inr (some (8, 0)))), some (.inl a1_), some (.inl a2_), some (.inl vx6_), none, none], [.inl a1_, .inl vx6_, .inr (.inr (some (22, (0 + bb_))))], sm_aI S0_ 24 (0 + bb_) a1_.toNat 0)) rfl ?_
  refine sm_T_iast (n := 4712) rfl rfl (by omega) (by omega) ?_
  have hIx10_ : gi (sm_aI (sm_aI S0_ 24 (0 + bb_) a1_.toNat 0) 22 (0 + bb_) vx6_.toNat a1_) := gi_aI hIx7_ (show (-1) ≤ a1_ ∧ a1_ ≤ 161 from ⟨by omega, by omega⟩)
  have hFx11_ : ai_fr (sx_W vw_157) S0_ (sm_aI (sm_aI S0_ 24 (0 + bb_) a1_.toNat 0) 22 (0 + bb_) vx6_.toNat a1_) := ai_fr_tr hFx8_ (ai_fr_aI rfl)
  have hCx12_ : cdf bb_ S0_ (sm_aI (sm_aI S0_ 24 (0 + bb_) a1_.toNat 0) 22 (0 + bb_) vx6_.toNat a1_) := cdf_aI hCx9_ (Or.inr (by rw [show cof 22 = 0 from rfl] <;> omega))
  refine sm_T_go 4 (c1 := (33, [some (.inr (.inr (some (8, 0)))), some (.inl a1_), some (.inl a2_), some (.inl vx6_), none, none], [.inl vx6_, .inl 0, .inr (.inr (some (90, 0)))], sm_aI (sm_aI S0_ 24 (0 + bb_) a1_.toNat 0) 22 (0 + bb_) vx6_.toNat a1_)) rfl ?_
  refine sm_T_iast (n := 4712) rfl rfl (by omega) (by omega) ?_
  have hIx13_ : gi (sm_aI (sm_aI (sm_aI S0_ 24 (0 + bb_) a1_.toNat 0) 22 (0 + bb_) vx6_.toNat a1_) 90 0 (0 : Int).toNat vx6_) := gi_aI hIx10_ (show 0 ≤ vx6_ ∧ vx6_ ≤ 4711 from ⟨by omega, by omega⟩)
  have hFx14_ : ai_fr (sx_W vw_157) S0_ (sm_aI (sm_aI (sm_aI S0_ 24 (0 + bb_) a1_.toNat 0) 22 (0 + bb_) vx6_.toNat a1_) 90 0 (0 : Int).toNat vx6_) := ai_fr_tr hFx11_ (ai_fr_aI rfl)
  have hCx15_ : cdf bb_ S0_ (sm_aI (sm_aI (sm_aI S0_ 24 (0 + bb_) a1_.toNat 0) 22 (0 + bb_) vx6_.toNat a1_) 90 0 (0 : Int).toNat vx6_) := cdf_aI hCx12_ (Or.inl rfl)
  have hIx16_ : gi (sm_pI (sm_aI (sm_aI (sm_aI S0_ 24 (0 + bb_) a1_.toNat 0) 22 (0 + bb_) vx6_.toNat a1_) 90 0 (0 : Int).toNat vx6_) 8 0 11 1) := gi_pI hIx13_ (show 0 ≤ 1 ∧ 1 ≤ 4712 from ⟨by omega, by omega⟩)
  have hFx17_ : ai_fr (sx_W vw_157) S0_ (sm_pI (sm_aI (sm_aI (sm_aI S0_ 24 (0 + bb_) a1_.toNat 0) 22 (0 + bb_) vx6_.toNat a1_) 90 0 (0 : Int).toNat vx6_) 8 0 11 1) := ai_fr_tr hFx14_ (ai_fr_pI rfl)
  have hCx18_ : cdf bb_ S0_ (sm_pI (sm_aI (sm_aI (sm_aI S0_ 24 (0 + bb_) a1_.toNat 0) 22 (0 + bb_) vx6_.toNat a1_) 90 0 (0 : Int).toNat vx6_) 8 0 11 1) := cdf_pI hCx15_ (Or.inl rfl)
  refine sm_T_go 5 (c1 := (42, [some (.inr (.inr (some (8, 0)))), some (.inl a1_), some (.inl a2_), some (.inl vx6_), some (.inl 1), none], [], sm_pI (sm_aI (sm_aI (sm_aI S0_ 24 (0 + bb_) a1_.toNat 0) 22 (0 + bb_) vx6_.toNat a1_) 90 0 (0 : Int).toNat vx6_) 8 0 11 1)) rfl ?_
  refine sm_T_wk [some (.inr (.inr (some (8, 0)))), some (.inl a1_), some (.inl a2_), none, some (.inl 1), none] (by exact ⟨rfl, rfl, rfl, rfl, trivial⟩) ?_
  refine (vl_157 a1_ a2_ bb_ S0_ hb_ hg_ h1_ hn_ hp_ hst_ hop_ hno_ hk1_ _) 1 (sm_pI (sm_aI (sm_aI (sm_aI S0_ 24 (0 + bb_) a1_.toNat 0) 22 (0 + bb_) vx6_.toNat a1_) 90 0 (0 : Int).toNat vx6_) 8 0 11 1) hIx16_ hFx17_ ⟨?_, ?_, ?_, ?_, ?_, ?_, ?_, trivial⟩ (Nat.lt_succ_self _)
  · omega
  · exact trt_1 (S_ := S0_) (by first | exact ⟨v3_.1, by show _ < 2 * S0_.1 8 0 2; omega⟩ | omega) hno_ (fun j_ => by rw [rd_fa, rd_ne (by decide), rd_eq, rd_ne (by decide)]) (by rw [rd_fa, rd_eq, if_pos (by decide)]) rfl
  · intro p_ u_ w_
    rw [rd_fa, rd_ne (by decide), rd_ne (by decide), rd_ne (by decide)] at w_
    rw [rd_fa, rd_ne (by decide), rd_eq, rd_ne (by decide)]
    split
    · omega
    · exact hst_ p_ u_ w_
  · intro c_ u_ w_ p_ v_
    rw [rd_fa, rd_ne (by decide), rd_ne (by decide), rd_eq] at w_
    rw [rd_fa, rd_ne (by decide), rd_eq, rd_ne (by decide)]
    by_cases y_ : c_ = a1_.toNat
    · rw [if_pos y_] at w_; exact absurd rfl w_
    · rw [if_neg y_] at w_
      split
      · omega
      · exact hop_ c_ u_ w_ p_ v_
  · intro p_
    rw [rd_fa, rd_ne (by decide), rd_eq, rd_ne (by decide)]
    split
    · right; right; rfl
    · left; rfl
  · (rw [rd_fa, rd_ne (by decide), rd_ne (by decide), rd_eq, if_pos rfl])
  · exact hCx18_
end
/-! 99.zkia -/
section
/-! nets in a row; written by wip/p55/gen/vg -/

/-! all_ nets routed -/
/-- a_ row_ of_ nets with two_ pins at least, each once, but_ for_ a_ hole -/
def rrw (bb_ : Nat) (n_ k_ h_ : Int) (S_ : sm_S) : Prop := (∀ i_ : Nat, (i_ : Int) ≤ k_ → (i_ : Int) ≠ h_ → (0 ≤ S_.2.2.1 91 0 i_ ∧ S_.2.2.1 91 0 i_ < n_) ∧ 1 < S_.2.2.1 20 (0 + bb_) (S_.2.2.1 91 0 i_).toNat) ∧ ∀ i_ j_ : Nat, i_ < j_ → (j_ : Int) ≤ k_ → (i_ : Int) ≠ h_ → (j_ : Int) ≠ h_ → S_.2.2.1 91 0 i_ ≠ S_.2.2.1 91 0 j_
theorem rrw_mv {bb_ : Nat} {n_ k_ h_ : Int} {S_ : sm_S} (g_ : rrw bb_ n_ k_ h_ S_) (h0_ : 1 ≤ h_ ∧ h_ ≤ k_) : rrw bb_ n_ k_ (h_ - 1) (sm_aI S_ 91 0 h_.toNat (S_.2.2.1 91 0 (h_ - 1).toNat)) := by
  have r_ : ∀ i_, (sm_aI S_ 91 0 h_.toNat (S_.2.2.1 91 0 (h_ - 1).toNat)).2.2.1 91 0 i_ = if i_ = h_.toNat then S_.2.2.1 91 0 (h_ - 1).toNat else S_.2.2.1 91 0 i_ := fun i_ => rd_eq
  have q_ : (sm_aI S_ 91 0 h_.toNat (S_.2.2.1 91 0 (h_ - 1).toNat)).2.2.1 20 (0 + bb_) = S_.2.2.1 20 (0 + bb_) := rd_ne_ (by decide)
  refine ⟨fun i_ hi_ hn_ => ?_, fun i_ j_ hij_ hj_ hi_ hn_ => ?_⟩
  · rw [q_, r_]
    by_cases z_ : i_ = h_.toNat
    · rw [if_pos z_]; exact g_.1 (h_ - 1).toNat (by omega) (by omega)
    · rw [if_neg z_]; exact g_.1 i_ hi_ (by omega)
  · rw [r_, r_]
    by_cases z_ : i_ = h_.toNat
    · rw [if_pos z_, if_neg (by omega)]
      exact g_.2 (h_ - 1).toNat j_ (by omega) hj_ (by omega) (by omega)
    · rw [if_neg z_]
      by_cases y_ : j_ = h_.toNat
      · rw [if_pos y_]
        exact g_.2 i_ (h_ - 1).toNat (by omega) (by omega) (by omega) (by omega)
      · rw [if_neg y_]
        exact g_.2 i_ j_ hij_ hj_ (by omega) (by omega)
theorem rrw_in {bb_ : Nat} {n_ k_ h_ : Int} {S_ S'_ : sm_S} (g_ : rrw bb_ n_ k_ h_ S_) (h0_ : 0 ≤ h_ ∧ h_ ≤ k_) (n0_ : 0 ≤ n_) (hp_ : 1 < S_.2.2.1 20 (0 + bb_) n_.toNat) (r_ : ∀ i_, S'_.2.2.1 91 0 i_ = if i_ = h_.toNat then n_ else S_.2.2.1 91 0 i_) (q_ : S'_.2.2.1 20 (0 + bb_) = S_.2.2.1 20 (0 + bb_)) : rrw bb_ (n_ + 1) (k_ + 1) (k_ + 1) S'_ := by
  refine ⟨fun i_ hi_ hn_ => ?_, fun i_ j_ hij_ hj_ hi_ hn_ => ?_⟩
  · rw [q_, r_]
    by_cases z_ : i_ = h_.toNat
    · rw [if_pos z_]; exact ⟨by omega, hp_⟩
    · rw [if_neg z_]
      have a_ := g_.1 i_ (by omega) (by omega)
      exact ⟨by omega, a_.2⟩
  · rw [r_, r_]
    by_cases z_ : i_ = h_.toNat
    · rw [if_pos z_, if_neg (by omega)]
      have a_ := g_.1 j_ (by omega) (by omega)
      omega
    · rw [if_neg z_]
      by_cases y_ : j_ = h_.toNat
      · rw [if_pos y_]
        have a_ := g_.1 i_ (by omega) (by omega)
        omega
      · rw [if_neg y_]
        exact g_.2 i_ j_ hij_ (by omega) (by omega) (by omega)
theorem rrw_up {bb_ : Nat} {n_ k_ : Int} {S_ S'_ : sm_S} (g_ : rrw bb_ n_ k_ k_ S_) (r_ : S'_.2.2.1 91 0 = S_.2.2.1 91 0) (q_ : S'_.2.2.1 20 (0 + bb_) = S_.2.2.1 20 (0 + bb_)) {m_ : Int} (h_ : n_ ≤ m_) : rrw bb_ m_ k_ k_ S'_ := by
  unfold rrw
  rw [r_, q_]
  exact ⟨fun i_ hi_ hn_ => by have a_ := g_.1 i_ hi_ hn_; exact ⟨by omega, a_.2⟩, g_.2⟩
/-- pins of_ a_ placed board lie_ on_ it_ -/
theorem rpt_of {bb_ ci_ : Nat} {S_ : sm_S} (h_ : bpn bb_ S_) (hl_ : bpl bb_ ci_ S_) (hp_ : bpp bb_ ci_ S_) (hr_ : 0 < S_.1 0 bb_ 1) (hs_ : 0 ≤ S_.1 0 bb_ 0) (c18_ : ∀ k_, 0 ≤ S_.2.2.1 18 (0 + bb_) k_ ∧ S_.2.2.1 18 (0 + bb_) k_ ≤ 651) (c14_ : ∀ k_, 0 ≤ S_.2.2.1 14 (0 + bb_) k_) (c15_ : ∀ k_, 0 ≤ S_.2.2.1 15 (0 + bb_) k_) (hL_ : S_.1 8 0 2 = S_.1 0 bb_ 2 * (S_.1 0 bb_ 0 + 2)) : rpt bb_ S_ := by
  intro c_ hc_ k_ hk_
  have a_ := (h_ c_ hc_).2 k_ hk_
  obtain ⟨l1_, l2_⟩ := hl_ hr_
  unfold ppk
  obtain ⟨p_, hq_⟩ : ∃ p_, p_ = S_.2.2.1 18 (0 + bb_) ((S_.2.2.1 19 (0 + bb_) c_).toNat + k_) := ⟨_, rfl⟩
  have b_ := c18_ ((S_.2.2.1 19 (0 + bb_) c_).toNat + k_)
  rw [← hq_] at a_ b_ ⊢
  have w_ := hp_ p_.toNat (by omega) (by omega)
  have key_ : (0 ≤ ppy bb_ S_ p_ ∧ ppy bb_ S_ p_ ≤ S_.1 0 bb_ 2 - 1) ∧ 0 ≤ ppx bb_ S_ p_ ∧ ppx bb_ S_ p_ ≤ S_.1 0 bb_ 0 + 1 := by
    unfold ppy ppx
    by_cases z_ : p_ < 624
    · rw [if_pos z_, if_pos z_]
      have e_ := w_.1 (by omega)
      have f_ := l2_ (p_.toNat / 4) e_.1
      have g1_ := c14_ (p_ / 4).toNat
      have g2_ := c15_ (p_ / 4).toNat
      rw [show (p_ / 4).toNat = p_.toNat / 4 by omega] at g1_ g2_ ⊢
      omega
    · rw [if_neg z_, if_neg z_]
      by_cases y_ : p_ < 636
      · rw [if_pos y_, if_pos y_]
        have e_ := w_.2.1 (by omega) (by omega)
        omega
      · rw [if_neg y_, if_neg y_]
        have e_ := w_.2.2 (by omega)
        omega
  obtain ⟨Y_, hY_⟩ : ∃ Y_, Y_ = ppy bb_ S_ p_ := ⟨_, rfl⟩
  obtain ⟨X_, hX_⟩ : ∃ X_, X_ = ppx bb_ S_ p_ := ⟨_, rfl⟩
  unfold ppt
  rw [← hY_, ← hX_] at key_ ⊢
  have m1_ : Y_ * (S_.1 0 bb_ 0 + 2) ≤ (S_.1 0 bb_ 2 - 1) * (S_.1 0 bb_ 0 + 2) := Int.mul_le_mul_of_nonneg_right key_.1.2 (by omega)
  have m2_ : 0 ≤ Y_ * (S_.1 0 bb_ 0 + 2) := Int.mul_nonneg key_.1.1 (by omega)
  rw [Int.sub_mul, Int.one_mul, ← hL_] at m1_
  omega
/-! java/util/Arrays.fill -/
def vw_2k5 : sx_Wl := ([], [85], [])
def vq_2k5 (v0_ : Int) (S0_ : sm_S) (u_ : Option sm_V) (S1_ : sm_S) : Prop := u_ = none ∧ gi S1_ ∧ ai_fr (sx_W vw_2k5) S0_ S1_ ∧ (∀ j_, j_ < 4712 → S1_.2.2.1 85 0 j_ = v0_)
set_option maxHeartbeats 400000 in
theorem vl_2k5 {sc_ : Nat × (Nat → Int)} (v0_ : Int) (S0_ : sm_S) (hv_ : (-1) ≤ v0_ ∧ v0_ ≤ 161) : ∀ nn_ : Nat, (∀ (k_ : Int) (S_ : sm_S), gi S_ → ai_fr (sx_W vw_2k5) S0_ S_ → ((0 ≤ k_ ∧ k_ ≤ 4712) ∧ (∀ j_, j_ < k_.toNat → S_.2.2.1 85 0 j_ = v0_) ∧ True) → ((4712 - k_).toNat) < nn_ → sm_T (mt_P sc_) 0 2 (5, [some (.inr (.inr (some (85, 0)))), some (.inl v0_), some (.inl k_), some (.inl 4712)], [], S_) (fun ro9_ => ∃ u_ S1_, ro9_ = (.inl u_, S1_, 0) ∧ vq_2k5 v0_ S0_ u_ S1_)) := by
  intro nn_
  induction nn_ with
  | zero => exact fun _ _ _ _ _ h_ => absurd h_ (Nat.not_lt_zero _)
  | succ nn_ ih_ =>
    rintro k_ S_ hI_ hF_ ⟨h0_, h1_, -⟩ hm_
    refine sm_T_go 2 (c1 := (7, [some (.inr (.inr (some (85, 0)))), some (.inl v0_), some (.inl k_), some (.inl 4712)], [.inl 4712, .inl k_], S_)) rfl ?_
    refine sm_T_br (a := 3) (z := 13) rfl (fun cx1_ => ?_) (fun cx1_ => ?_)
    · have cx1_ : 4712 ≤ k_ := of_decide_eq_true cx1_
      refine sm_T_rv rfl ⟨_, _, rfl, rfl, hI_, hF_, ?_⟩
      exact fun j_ hj_ => h1_ j_ (by omega)
    · have cx1_ : ¬ (4712 ≤ k_) := of_decide_eq_false cx1_
      refine sm_T_go 3 (c1 := (13, [some (.inr (.inr (some (85, 0)))), some (.inl v0_), some (.inl k_), some (.inl 4712)], [.inl v0_, .inl k_, .inr (.inr (some (85, 0)))], S_)) rfl ?_
      refine sm_T_iast (n := 4712) rfl rfl (by omega) (by omega) ?_
      have hIx2_ : gi (sm_aI S_ 85 0 k_.toNat v0_) := gi_aI hI_ (show (-1) ≤ v0_ ∧ v0_ ≤ 161 from ⟨by omega, by omega⟩)
      have hFx3_ : ai_fr (sx_W vw_2k5) S0_ (sm_aI S_ 85 0 k_.toNat v0_) := ai_fr_tr hF_ (ai_fr_aI rfl)
      refine sm_T_inc (a := 2) (z := 1) (v := k_) (w := k_ + 1) rfl rfl (by omega) (by omega) (by omega) ?_ -- pc_ 14
      refine sm_T_go 1 (c1 := (5, [some (.inr (.inr (some (85, 0)))), some (.inl v0_), some (.inl (k_ + 1)), some (.inl 4712)], [], sm_aI S_ 85 0 k_.toNat v0_)) rfl ?_
      refine ih_ (k_ + 1) (sm_aI S_ 85 0 k_.toNat v0_) hIx2_ hFx3_ ⟨?_, ?_, trivial⟩ ?_
      · omega
      · intro j_ hj_
        rw [rd_eq]
        by_cases z_ : j_ = k_.toNat
        · rw [if_pos z_]
        · rw [if_neg z_]; exact h1_ j_ (by omega)
      · omega
set_option maxHeartbeats 400000 in
theorem vc_2k5 {sc_ : Nat × (Nat → Int)} (v0_ : Int) (S0_ : sm_S) (hI_ : gi S0_) (hv_ : (-1) ≤ v0_ ∧ v0_ ≤ 161) : sm_T (mt_P sc_) 0 2 (0, [some (.inr (.inr (some (85, 0)))), some (.inl v0_), none, none], [], S0_) (fun ro9_ => ∃ u_ S1_, ro9_ = (.inl u_, S1_, 0) ∧ vq_2k5 v0_ S0_ u_ S1_) := by
  have hF_ : ai_fr (sx_W vw_2k5) S0_ S0_ := ai_fr_rf
  refine sm_T_go 5 (c1 := (5, [some (.inr (.inr (some (85, 0)))), some (.inl v0_), some (.inl 0), some (.inl 4712)], [], S0_)) rfl ?_
  refine (vl_2k5 v0_ S0_ hv_ _) 0 S0_ hI_ hF_ ⟨?_, ?_, trivial⟩ (Nat.lt_succ_self _)
  · omega
  · (intro j_ hj_; exact absurd hj_ (Nat.not_lt_zero _))
end
/-! 99.zkib -/
section
/-! Router.keepPins -/
def vw_154 : sx_Wl := ([], [85], [])
def vq_154 (a1_ : Int) (bb_ : Nat) (S0_ : sm_S) (u_ : Option sm_V) (S1_ : sm_S) : Prop := u_ = none ∧ gi S1_ ∧ ai_fr (sx_W vw_154) S0_ S1_ ∧ (True)
set_option maxHeartbeats 400000 in
theorem vl_154 {sc_ : Nat × (Nat → Int)} (a1_ : Int) (bb_ : Nat) (S0_ : sm_S) (hb_ : S0_.2.1 8 0 0 = some bb_) (h1_ : 0 ≤ a1_ ∧ a1_ ≤ 162) (hn_ : bpn bb_ S0_) : ∀ nn_ : Nat, (∀ (k_ : Int) (S_ : sm_S), gi S_ → ai_fr (sx_W vw_154) S0_ S_ → ((0 ≤ k_ ∧ k_ ≤ a1_) ∧ True) → ((10000 * (200 - k_) + 5000).toNat) < nn_ → sm_T (mt_P sc_) 2 154 (10, [some (.inr (.inr (some (8, 0)))), some (.inl a1_), some (.inl k_), none], [], S_) (fun ro9_ => ∃ u_ S1_, ro9_ = (.inl u_, S1_, 0) ∧ vq_154 a1_ bb_ S0_ u_ S1_)) ∧ (∀ (k_ : Int) (j_ : Int) (S_ : sm_S), gi S_ → ai_fr (sx_W vw_154) S0_ S_ → ((0 ≤ k_ ∧ k_ < a1_ ∧ 0 ≤ j_ ∧ j_ ≤ 652) ∧ True) → ((10000 * (200 - k_) + 4000 - j_).toNat) < nn_ → sm_T (mt_P sc_) 2 154 (17, [some (.inr (.inr (some (8, 0)))), some (.inl a1_), some (.inl k_), some (.inl j_)], [], S_) (fun ro9_ => ∃ u_ S1_, ro9_ = (.inl u_, S1_, 0) ∧ vq_154 a1_ bb_ S0_ u_ S1_)) := by
  intro nn_
  induction nn_ with
  | zero => exact ⟨fun _ _ _ _ _ h_ => absurd h_ (Nat.not_lt_zero _), fun _ _ _ _ _ _ h_ => absurd h_ (Nat.not_lt_zero _)⟩
  | succ nn_ ih_ =>
    refine ⟨?_, ?_⟩
    · rintro k_ S_ hI_ hF_ ⟨h0_, -⟩ hm_
      refine sm_T_go 2 (c1 := (12, [some (.inr (.inr (some (8, 0)))), some (.inl a1_), some (.inl k_), none], [.inl a1_, .inl k_], S_)) rfl ?_
      refine sm_T_br (a := 3) (z := 52) rfl (fun cx1_ => ?_) (fun cx1_ => ?_)
      · have cx1_ : a1_ ≤ k_ := of_decide_eq_true cx1_
        refine sm_T_rv rfl ⟨_, _, rfl, rfl, hI_, hF_, ?_⟩
        trivial
      · have cx1_ : ¬ (a1_ ≤ k_) := of_decide_eq_false cx1_
        refine sm_T_go 2 (c1 := (17, [some (.inr (.inr (some (8, 0)))), some (.inl a1_), some (.inl k_), some (.inl 0)], [], S_)) rfl ?_
        refine ih_.2 k_ 0 S_ hI_ hF_ ⟨?_, trivial⟩ ?_
        · omega
        · omega
    · rintro k_ j_ S_ hI_ hF_ ⟨h0_, -⟩ hm_
      refine sm_T_go 2 (c1 := (19, [some (.inr (.inr (some (8, 0)))), some (.inl a1_), some (.inl k_), some (.inl j_)], [.inr (.inr (some (8, 0))), .inl j_], S_)) rfl ?_
      refine sm_T_gr rfl rfl ((hF_.2.1 8 0 0 rfl).trans hb_) ?_
      refine sm_T_go 2 (c1 := (26, [some (.inr (.inr (some (8, 0)))), some (.inl a1_), some (.inl k_), some (.inl j_)], [.inl k_, .inr (.inr (some (20, (0 + bb_)))), .inl j_], S_)) rfl ?_
      refine sm_T_iald (n := 162) rfl rfl (by omega) (by omega) ?_
      have bx1_ : 0 ≤ S_.2.2.1 20 (0 + bb_) k_.toNat ∧ S_.2.2.1 20 (0 + bb_) k_.toNat ≤ 652 := hI_.2 20 (0 + bb_) _
      refine sm_T_br (a := 3) (z := 31) rfl (fun cx2_ => ?_) (fun cx2_ => ?_)
      · have cx2_ : (S_.2.2.1 20 (0 + bb_) k_.toNat) ≤ j_ := of_decide_eq_true cx2_
        refine sm_T_inc (a := 2) (z := 1) (v := k_) (w := k_ + 1) rfl rfl (by omega) (by omega) (by omega) ?_ -- pc_ 58
        refine sm_T_go 1 (c1 := (10, [some (.inr (.inr (some (8, 0)))), some (.inl a1_), some (.inl (k_ + 1)), some (.inl j_)], [], S_)) rfl ?_
        refine sm_T_wk [some (.inr (.inr (some (8, 0)))), some (.inl a1_), some (.inl (k_ + 1)), none] (by exact ⟨rfl, rfl, rfl, trivial⟩) ?_
        refine ih_.1 (k_ + 1) S_ hI_ hF_ ⟨?_, trivial⟩ ?_
        · omega
        · omega
      · have cx2_ : ¬ ((S_.2.2.1 20 (0 + bb_) k_.toNat) ≤ j_) := of_decide_eq_false cx2_
        refine sm_T_go 3 (c1 := (35, [some (.inr (.inr (some (8, 0)))), some (.inl a1_), some (.inl k_), some (.inl j_)], [.inr (.inr (some (8, 0))), .inr (.inr (some (85, 0)))], S_)) rfl ?_
        refine sm_T_gr rfl rfl ((hF_.2.1 8 0 0 rfl).trans hb_) ?_
        refine sm_T_go 1 (c1 := (39, [some (.inr (.inr (some (8, 0)))), some (.inl a1_), some (.inl k_), some (.inl j_)], [.inr (.inr (some (8, 0))), .inr (.inr (some (0, bb_))), .inr (.inr (some (85, 0)))], S_)) rfl ?_
        refine sm_T_gr rfl rfl ((hF_.2.1 8 0 0 rfl).trans hb_) ?_
        refine sm_T_go 2 (c1 := (44, [some (.inr (.inr (some (8, 0)))), some (.inl a1_), some (.inl k_), some (.inl j_)], [.inl j_, .inl k_, .inr (.inr (some (0, bb_))), .inr (.inr (some (0, bb_))), .inr (.inr (some (85, 0)))], S_)) rfl ?_
        refine sm_T_cal (d1 := 0) (Q1 := vq_14 k_ j_ bb_ S_) rfl rfl (by decide) (vc_14 k_ j_ bb_ S_ hI_ (by omega) (by omega) (by exact bpn_fr hn_ hF_ rfl rfl rfl rfl)) (fun u_ Sx3_ px6_ => ?_)
        obtain ⟨rfl, vx8_, rfl, px6_⟩ := px6_
        have p9_ := px6_.1
        refine sm_T_cal (d1 := 1) (Q1 := vq_19 vx8_ bb_ S_) rfl rfl (by decide) (vc_19 vx8_ bb_ S_ hI_ (by omega)) (fun u_ Sx9_ px12_ => ?_)
        obtain ⟨rfl, vx14_, rfl, px12_⟩ := px12_
        have q9_ := px12_.1
        refine sm_T_go 1 (c1 := (51, [some (.inr (.inr (some (8, 0)))), some (.inl a1_), some (.inl k_), some (.inl j_)], [.inl k_, .inl vx14_, .inr (.inr (some (85, 0)))], S_)) rfl ?_
        refine sm_T_iast (n := 4712) rfl rfl (by omega) (by omega) ?_
        have hIx15_ : gi (sm_aI S_ 85 0 vx14_.toNat k_) := gi_aI hI_ (show (-1) ≤ k_ ∧ k_ ≤ 161 from ⟨by omega, by omega⟩)
        have hFx16_ : ai_fr (sx_W vw_154) S0_ (sm_aI S_ 85 0 vx14_.toNat k_) := ai_fr_tr hF_ (ai_fr_aI rfl)
        refine sm_T_inc (a := 3) (z := 1) (v := j_) (w := j_ + 1) rfl rfl (by omega) (by omega) (by omega) ?_ -- pc_ 52
        refine sm_T_go 1 (c1 := (17, [some (.inr (.inr (some (8, 0)))), some (.inl a1_), some (.inl k_), some (.inl (j_ + 1))], [], sm_aI S_ 85 0 vx14_.toNat k_)) rfl ?_
        refine ih_.2 k_ (j_ + 1) (sm_aI S_ 85 0 vx14_.toNat k_) hIx15_ hFx16_ ⟨?_, trivial⟩ ?_
        · omega
        · omega
set_option maxHeartbeats 400000 in
theorem vc_154 {sc_ : Nat × (Nat → Int)} (a1_ : Int) (bb_ : Nat) (S0_ : sm_S) (hI_ : gi S0_) (hb_ : S0_.2.1 8 0 0 = some bb_) (h1_ : 0 ≤ a1_ ∧ a1_ ≤ 162) (hn_ : bpn bb_ S0_) : sm_T (mt_P sc_) 2 154 (0, [some (.inr (.inr (some (8, 0)))), some (.inl a1_), none, none], [], S0_) (fun ro9_ => ∃ u_ S1_, ro9_ = (.inl u_, S1_, 0) ∧ vq_154 a1_ bb_ S0_ u_ S1_) := by
  have hF_ : ai_fr (sx_W vw_154) S0_ S0_ := ai_fr_rf
  refine sm_T_go 3 (c1 := (5, [some (.inr (.inr (some (8, 0)))), some (.inl a1_), none, none], [.inl (-1), .inr (.inr (some (85, 0)))], S0_)) rfl ?_
  refine sm_T_cal (d1 := 0) (Q1 := vq_2k5 (-1) S0_) rfl rfl (by decide) (vc_2k5 (-1) S0_ hI_ (by decide)) (fun u_ Sx1_ px4_ => ?_)
  obtain ⟨rfl, hIx2_, hFx3_, px4_⟩ := px4_
  have hFx5_ : ai_fr (sx_W vw_154) S0_ Sx1_ := ai_fr_tr hF_ (fr_le hFx3_ rfl)
  refine sm_T_go 2 (c1 := (10, [some (.inr (.inr (some (8, 0)))), some (.inl a1_), some (.inl 0), none], [], Sx1_)) rfl ?_
  refine (vl_154 a1_ bb_ S0_ hb_ h1_ hn_ _).1 0 Sx1_ hIx2_ hFx5_ ⟨?_, trivial⟩ (Nat.lt_succ_self _)
  · omega
end
/-! 99.zkic -/
section
/-! Router.sortNets -/
def vw_155 : sx_Wl := ([(8, 13)], [91], [])
def vq_155 (a1_ : Int) (bb_ : Nat) (S0_ : sm_S) (u_ : Option sm_V) (S1_ : sm_S) : Prop := u_ = none ∧ gi S1_ ∧ ai_fr (sx_W vw_155) S0_ S1_ ∧ ((0 ≤ S1_.1 8 0 13 ∧ S1_.1 8 0 13 ≤ a1_) ∧ rrw bb_ a1_ (S1_.1 8 0 13) (S1_.1 8 0 13) S1_)
set_option maxHeartbeats 400000 in
theorem vl_155 {sc_ : Nat × (Nat → Int)} (a1_ : Int) (bb_ : Nat) (S0_ : sm_S) (hb_ : S0_.2.1 8 0 0 = some bb_) (h1_ : 0 ≤ a1_ ∧ a1_ ≤ 162) : ∀ nn_ : Nat, (∀ (n_ : Int) (S_ : sm_S), gi S_ → ai_fr (sx_W vw_155) S0_ S_ → ((0 ≤ n_ ∧ n_ ≤ a1_ ∧ S_.1 8 0 13 ≤ n_) ∧ (rrw bb_ n_ (S_.1 8 0 13) (S_.1 8 0 13) S_) ∧ True) → ((10000 * (200 - n_) + 5000).toNat) < nn_ → sm_T (mt_P sc_) 0 155 (7, [some (.inr (.inr (some (8, 0)))), some (.inl a1_), some (.inl n_), none], [], S_) (fun ro9_ => ∃ u_ S1_, ro9_ = (.inl u_, S1_, 0) ∧ vq_155 a1_ bb_ S0_ u_ S1_)) ∧ (∀ (n_ : Int) (a9_ : Int) (S_ : sm_S), gi S_ → ai_fr (sx_W vw_155) S0_ S_ → ((0 ≤ n_ ∧ n_ < a1_ ∧ S_.1 8 0 13 ≤ n_ ∧ 0 ≤ a9_ ∧ a9_ ≤ S_.1 8 0 13) ∧ (rrw bb_ n_ (S_.1 8 0 13) a9_ S_) ∧ (1 < S_.2.2.1 20 (0 + bb_) n_.toNat) ∧ True) → ((10000 * (200 - n_) + 4000 + a9_).toNat) < nn_ → sm_T (mt_P sc_) 0 155 (30, [some (.inr (.inr (some (8, 0)))), some (.inl a1_), some (.inl n_), some (.inl a9_)], [], S_) (fun ro9_ => ∃ u_ S1_, ro9_ = (.inl u_, S1_, 0) ∧ vq_155 a1_ bb_ S0_ u_ S1_)) := by
  intro nn_
  induction nn_ with
  | zero => exact ⟨fun _ _ _ _ _ h_ => absurd h_ (Nat.not_lt_zero _), fun _ _ _ _ _ _ h_ => absurd h_ (Nat.not_lt_zero _)⟩
  | succ nn_ ih_ =>
    refine ⟨?_, ?_⟩
    · rintro n_ S_ hI_ hF_ ⟨h0_, hr_, -⟩ hm_
      have k20_ : S_.2.2.1 20 (0 + bb_) = S0_.2.2.1 20 (0 + bb_) := fr_arr hF_ rfl
      have cr : 0 ≤ S_.1 8 0 13 ∧ S_.1 8 0 13 ≤ 162 := hI_.1 8 0 13 rfl
      refine sm_T_go 2 (c1 := (9, [some (.inr (.inr (some (8, 0)))), some (.inl a1_), some (.inl n_), none], [.inl a1_, .inl n_], S_)) rfl ?_
      refine sm_T_br (a := 3) (z := 96) rfl (fun cx1_ => ?_) (fun cx1_ => ?_)
      · have cx1_ : a1_ ≤ n_ := of_decide_eq_true cx1_
        refine sm_T_rv rfl ⟨_, _, rfl, rfl, hI_, hF_, ?_⟩
        exact ⟨by omega, by rw [show a1_ = n_ by omega]; exact hr_⟩
      · have cx1_ : ¬ (a1_ ≤ n_) := of_decide_eq_false cx1_
        refine sm_T_go 1 (c1 := (13, [some (.inr (.inr (some (8, 0)))), some (.inl a1_), some (.inl n_), none], [.inr (.inr (some (8, 0)))], S_)) rfl ?_
        refine sm_T_gr rfl rfl ((hF_.2.1 8 0 0 rfl).trans hb_) ?_
        refine sm_T_go 2 (c1 := (20, [some (.inr (.inr (some (8, 0)))), some (.inl a1_), some (.inl n_), none], [.inl n_, .inr (.inr (some (20, (0 + bb_))))], S_)) rfl ?_
        refine sm_T_iald (n := 162) rfl rfl (by omega) (by omega) ?_
        have bx2_ : 0 ≤ S_.2.2.1 20 (0 + bb_) n_.toNat ∧ S_.2.2.1 20 (0 + bb_) n_.toNat ≤ 652 := hI_.2 20 (0 + bb_) _
        refine sm_T_go 1 (c1 := (22, [some (.inr (.inr (some (8, 0)))), some (.inl a1_), some (.inl n_), none], [.inl 1, .inl (S_.2.2.1 20 (0 + bb_) n_.toNat)], S_)) rfl ?_
        refine sm_T_br (a := 5) (z := 77) rfl (fun cx3_ => ?_) (fun cx3_ => ?_)
        · have cx3_ : (S_.2.2.1 20 (0 + bb_) n_.toNat) ≤ 1 := of_decide_eq_true cx3_
          refine sm_T_inc (a := 2) (z := 1) (v := n_) (w := n_ + 1) rfl rfl (by omega) (by omega) (by omega) ?_ -- pc_ 99
          refine sm_T_go 1 (c1 := (7, [some (.inr (.inr (some (8, 0)))), some (.inl a1_), some (.inl (n_ + 1)), none], [], S_)) rfl ?_
          refine ih_.1 (n_ + 1) S_ hI_ hF_ ⟨?_, ?_, trivial⟩ ?_
          · omega
          · exact rrw_up hr_ rfl rfl (by omega)
          · omega
        · have cx3_ : ¬ ((S_.2.2.1 20 (0 + bb_) n_.toNat) ≤ 1) := of_decide_eq_false cx3_
          have bx4_ : 0 ≤ S_.1 8 0 13 ∧ S_.1 8 0 13 ≤ 162 := hI_.1 8 0 13 rfl
          refine sm_T_go 3 (c1 := (30, [some (.inr (.inr (some (8, 0)))), some (.inl a1_), some (.inl n_), some (.inl (S_.1 8 0 13))], [], S_)) rfl ?_
          refine ih_.2 n_ (S_.1 8 0 13) S_ hI_ hF_ ⟨?_, ?_, ?_, trivial⟩ ?_
          · omega
          · exact hr_
          · omega
          · omega
    · rintro n_ a9_ S_ hI_ hF_ ⟨h0_, hr_, hq_, -⟩ hm_
      have k20_ : S_.2.2.1 20 (0 + bb_) = S0_.2.2.1 20 (0 + bb_) := fr_arr hF_ rfl
      have cr : 0 ≤ S_.1 8 0 13 ∧ S_.1 8 0 13 ≤ 162 := hI_.1 8 0 13 rfl
      refine sm_T_go 1 (c1 := (31, [some (.inr (.inr (some (8, 0)))), some (.inl a1_), some (.inl n_), some (.inl a9_)], [.inl a9_], S_)) rfl ?_
      refine sm_T_b0 (a := 5) (z := 51) rfl (fun cx1_ => ?_) (fun cx1_ => ?_)
      · have cx1_ : a9_ ≤ 0 := of_decide_eq_true cx1_
        refine sm_T_go 4 (c1 := (88, [some (.inr (.inr (some (8, 0)))), some (.inl a1_), some (.inl n_), some (.inl a9_)], [.inl n_, .inl a9_, .inr (.inr (some (91, 0)))], S_)) rfl ?_
        refine sm_T_iast (n := 162) rfl rfl (by omega) (by omega) ?_
        have hIx2_ : gi (sm_aI S_ 91 0 a9_.toNat n_) := gi_aI hI_ (show 0 ≤ n_ ∧ n_ ≤ 161 from ⟨by omega, by omega⟩)
        have hFx3_ : ai_fr (sx_W vw_155) S0_ (sm_aI S_ 91 0 a9_.toNat n_) := ai_fr_tr hF_ (ai_fr_aI rfl)
        have bx4_ : 0 ≤ S_.1 8 0 13 ∧ S_.1 8 0 13 ≤ 162 := hI_.1 8 0 13 rfl
        refine sm_T_go 4 (c1 := (95, [some (.inr (.inr (some (8, 0)))), some (.inl a1_), some (.inl n_), some (.inl a9_)], [.inl 1, .inl (S_.1 8 0 13), .inr (.inr (some (8, 0)))], sm_aI S_ 91 0 a9_.toNat n_)) rfl ?_
        refine sm_T_bin (w := (S_.1 8 0 13) + 1) rfl (bi_add (by omega) (by omega) (by omega)) ?_ -- pc_ 95
        have hIx5_ : gi (sm_pI (sm_aI S_ 91 0 a9_.toNat n_) 8 0 13 ((S_.1 8 0 13) + 1)) := gi_pI hIx2_ (show 0 ≤ (S_.1 8 0 13) + 1 ∧ (S_.1 8 0 13) + 1 ≤ 162 from ⟨by omega, by omega⟩)
        have hFx6_ : ai_fr (sx_W vw_155) S0_ (sm_pI (sm_aI S_ 91 0 a9_.toNat n_) 8 0 13 ((S_.1 8 0 13) + 1)) := ai_fr_tr hFx3_ (ai_fr_pI rfl)
        refine sm_T_go 1 (c1 := (99, [some (.inr (.inr (some (8, 0)))), some (.inl a1_), some (.inl n_), some (.inl a9_)], [], sm_pI (sm_aI S_ 91 0 a9_.toNat n_) 8 0 13 ((S_.1 8 0 13) + 1))) rfl ?_
        refine sm_T_inc (a := 2) (z := 1) (v := n_) (w := n_ + 1) rfl rfl (by omega) (by omega) (by omega) ?_ -- pc_ 99
        refine sm_T_go 1 (c1 := (7, [some (.inr (.inr (some (8, 0)))), some (.inl a1_), some (.inl (n_ + 1)), some (.inl a9_)], [], sm_pI (sm_aI S_ 91 0 a9_.toNat n_) 8 0 13 ((S_.1 8 0 13) + 1))) rfl ?_
        refine sm_T_wk [some (.inr (.inr (some (8, 0)))), some (.inl a1_), some (.inl (n_ + 1)), none] (by exact ⟨rfl, rfl, rfl, trivial⟩) ?_
        refine ih_.1 (n_ + 1) (sm_pI (sm_aI S_ 91 0 a9_.toNat n_) 8 0 13 ((S_.1 8 0 13) + 1)) hIx5_ hFx6_ ⟨?_, ?_, trivial⟩ ?_
        · (rw [rf_eq]; omega)
        · have z9_ := rrw_in (S'_ := sm_pI (sm_aI S_ 91 0 a9_.toNat n_) 8 0 13 (S_.1 8 0 13 + 1)) hr_ (by omega) (by omega) hq_ (fun i_ => by rw [rd_fa, rd_eq]) (by rw [rd_fa, rd_ne_ (by decide)])
          rw [rf_eq]
          exact z9_
        · omega
      · have cx1_ : ¬ (a9_ ≤ 0) := of_decide_eq_false cx1_
        have g9_ := hr_.1 (a9_ - 1).toNat (by omega) (by omega)
        refine sm_T_go 1 (c1 := (35, [some (.inr (.inr (some (8, 0)))), some (.inl a1_), some (.inl n_), some (.inl a9_)], [.inr (.inr (some (8, 0)))], S_)) rfl ?_
        refine sm_T_gr rfl rfl ((hF_.2.1 8 0 0 rfl).trans hb_) ?_
        refine sm_T_go 5 (c1 := (47, [some (.inr (.inr (some (8, 0)))), some (.inl a1_), some (.inl n_), some (.inl a9_)], [.inl 1, .inl a9_, .inr (.inr (some (91, 0))), .inr (.inr (some (21, (0 + bb_))))], S_)) rfl ?_
        refine sm_T_bin (w := a9_ - 1) rfl (bi_sub (by omega) (by omega) (by omega)) ?_ -- pc_ 47
        refine sm_T_iald (n := 162) rfl rfl (by omega) (by omega) ?_
        have bx7_ : 0 ≤ S_.2.2.1 91 0 (a9_ - 1).toNat ∧ S_.2.2.1 91 0 (a9_ - 1).toNat ≤ 161 := hI_.2 91 0 _
        refine sm_T_iald (n := 162) rfl rfl (by omega) (by omega) ?_
        have bx8_ : (-9999) ≤ S_.2.2.1 21 (0 + bb_) (S_.2.2.1 91 0 (a9_ - 1).toNat).toNat ∧ S_.2.2.1 21 (0 + bb_) (S_.2.2.1 91 0 (a9_ - 1).toNat).toNat ≤ 20000 := hI_.2 21 (0 + bb_) _
        refine sm_T_go 1 (c1 := (51, [some (.inr (.inr (some (8, 0)))), some (.inl a1_), some (.inl n_), some (.inl a9_)], [.inr (.inr (some (8, 0))), .inl (S_.2.2.1 21 (0 + bb_) (S_.2.2.1 91 0 (a9_ - 1).toNat).toNat)], S_)) rfl ?_
        refine sm_T_gr rfl rfl ((hF_.2.1 8 0 0 rfl).trans hb_) ?_
        refine sm_T_go 2 (c1 := (58, [some (.inr (.inr (some (8, 0)))), some (.inl a1_), some (.inl n_), some (.inl a9_)], [.inl n_, .inr (.inr (some (21, (0 + bb_)))), .inl (S_.2.2.1 21 (0 + bb_) (S_.2.2.1 91 0 (a9_ - 1).toNat).toNat)], S_)) rfl ?_
        refine sm_T_iald (n := 162) rfl rfl (by omega) (by omega) ?_
        have bx9_ : (-9999) ≤ S_.2.2.1 21 (0 + bb_) n_.toNat ∧ S_.2.2.1 21 (0 + bb_) n_.toNat ≤ 20000 := hI_.2 21 (0 + bb_) _
        refine sm_T_br (a := 5) (z := 23) rfl (fun cx10_ => ?_) (fun cx10_ => ?_)
        · have cx10_ : (S_.2.2.1 21 (0 + bb_) (S_.2.2.1 91 0 (a9_ - 1).toNat).toNat) ≤ (S_.2.2.1 21 (0 + bb_) n_.toNat) := of_decide_eq_true cx10_
          refine sm_T_go 4 (c1 := (88, [some (.inr (.inr (some (8, 0)))), some (.inl a1_), some (.inl n_), some (.inl a9_)], [.inl n_, .inl a9_, .inr (.inr (some (91, 0)))], S_)) rfl ?_
          refine sm_T_iast (n := 162) rfl rfl (by omega) (by omega) ?_
          have hIx11_ : gi (sm_aI S_ 91 0 a9_.toNat n_) := gi_aI hI_ (show 0 ≤ n_ ∧ n_ ≤ 161 from ⟨by omega, by omega⟩)
          have hFx12_ : ai_fr (sx_W vw_155) S0_ (sm_aI S_ 91 0 a9_.toNat n_) := ai_fr_tr hF_ (ai_fr_aI rfl)
          have bx13_ : 0 ≤ S_.1 8 0 13 ∧ S_.1 8 0 13 ≤ 162 := hI_.1 8 0 13 rfl
          refine sm_T_go 4 (c1 := (95, [some (.inr (.inr (some (8, 0)))), some (.inl a1_), some (.inl n_), some (.inl a9_)], [.inl 1, .inl (S_.1 8 0 13), .inr (.inr (some (8, 0)))], sm_aI S_ 91 0 a9_.toNat n_)) rfl ?_
          refine sm_T_bin (w := (S_.1 8 0 13) + 1) rfl (bi_add (by omega) (by omega) (by omega)) ?_ -- pc_ 95
          have hIx14_ : gi (sm_pI (sm_aI S_ 91 0 a9_.toNat n_) 8 0 13 ((S_.1 8 0 13) + 1)) := gi_pI hIx11_ (show 0 ≤ (S_.1 8 0 13) + 1 ∧ (S_.1 8 0 13) + 1 ≤ 162 from ⟨by omega, by omega⟩)
          have hFx15_ : ai_fr (sx_W vw_155) S0_ (sm_pI (sm_aI S_ 91 0 a9_.toNat n_) 8 0 13 ((S_.1 8 0 13) + 1)) := ai_fr_tr hFx12_ (ai_fr_pI rfl)
          refine sm_T_go 1 (c1 := (99, [some (.inr (.inr (some (8, 0)))), some (.inl a1_), some (.inl n_), some (.inl a9_)], [], sm_pI (sm_aI S_ 91 0 a9_.toNat n_) 8 0 13 ((S_.1 8 0 13) + 1))) rfl ?_
          refine sm_T_inc (a := 2) (z := 1) (v := n_) (w := n_ + 1) rfl rfl (by omega) (by omega) (by omega) ?_ -- pc_ 99
          refine sm_T_go 1 (c1 := (7, [some (.inr (.inr (some (8, 0)))), some (.inl a1_), some (.inl (n_ + 1)), some (.inl a9_)], [], sm_pI (sm_aI S_ 91 0 a9_.toNat n_) 8 0 13 ((S_.1 8 0 13) + 1))) rfl ?_
          refine sm_T_wk [some (.inr (.inr (some (8, 0)))), some (.inl a1_), some (.inl (n_ + 1)), none] (by exact ⟨rfl, rfl, rfl, trivial⟩) ?_
          refine ih_.1 (n_ + 1) (sm_pI (sm_aI S_ 91 0 a9_.toNat n_) 8 0 13 ((S_.1 8 0 13) + 1)) hIx14_ hFx15_ ⟨?_, ?_, trivial⟩ ?_
          · (rw [rf_eq]; omega)
          · have z9_ := rrw_in (S'_ := sm_pI (sm_aI S_ 91 0 a9_.toNat n_) 8 0 13 (S_.1 8 0 13 + 1)) hr_ (by omega) (by omega) hq_ (fun i_ => by rw [rd_fa, rd_eq]) (by rw [rd_fa, rd_ne_ (by decide)])
            rw [rf_eq]
            exact z9_
          · omega
        · have cx10_ : ¬ ((S_.2.2.1 21 (0 + bb_) (S_.2.2.1 91 0 (a9_ - 1).toNat).toNat) ≤ (S_.2.2.1 21 (0 + bb_) n_.toNat)) := of_decide_eq_false cx10_
          refine sm_T_go 7 (c1 := (73, [some (.inr (.inr (some (8, 0)))), some (.inl a1_), some (.inl n_), some (.inl a9_)], [.inl 1, .inl a9_, .inr (.inr (some (91, 0))), .inl a9_, .inr (.inr (some (91, 0)))], S_)) rfl ?_
          refine sm_T_bin (w := a9_ - 1) rfl (bi_sub (by omega) (by omega) (by omega)) ?_ -- pc_ 73
          refine sm_T_iald (n := 162) rfl rfl (by omega) (by omega) ?_
          refine sm_T_iast (n := 162) rfl rfl (by omega) (by omega) ?_
          have hIx16_ : gi (sm_aI S_ 91 0 a9_.toNat (S_.2.2.1 91 0 (a9_ - 1).toNat)) := gi_aI hI_ (show 0 ≤ (S_.2.2.1 91 0 (a9_ - 1).toNat) ∧ (S_.2.2.1 91 0 (a9_ - 1).toNat) ≤ 161 from ⟨by omega, by omega⟩)
          have hFx17_ : ai_fr (sx_W vw_155) S0_ (sm_aI S_ 91 0 a9_.toNat (S_.2.2.1 91 0 (a9_ - 1).toNat)) := ai_fr_tr hF_ (ai_fr_aI rfl)
          refine sm_T_inc (a := 3) (z := (-1)) (v := a9_) (w := a9_ - 1) rfl rfl (by omega) (by omega) (by omega) ?_ -- pc_ 76
          refine sm_T_go 1 (c1 := (30, [some (.inr (.inr (some (8, 0)))), some (.inl a1_), some (.inl n_), some (.inl (a9_ - 1))], [], sm_aI S_ 91 0 a9_.toNat (S_.2.2.1 91 0 (a9_ - 1).toNat))) rfl ?_
          refine ih_.2 n_ (a9_ - 1) (sm_aI S_ 91 0 a9_.toNat (S_.2.2.1 91 0 (a9_ - 1).toNat)) hIx16_ hFx17_ ⟨?_, ?_, ?_, trivial⟩ ?_
          · (simp only [rd_af]; omega)
          · exact rrw_mv (k_ := S_.1 8 0 13) hr_ (by omega)
          · (rw [rd_ne (by decide)]; exact hq_)
          · omega
set_option maxHeartbeats 400000 in
theorem vc_155 {sc_ : Nat × (Nat → Int)} (a1_ : Int) (bb_ : Nat) (S0_ : sm_S) (hI_ : gi S0_) (hb_ : S0_.2.1 8 0 0 = some bb_) (h1_ : 0 ≤ a1_ ∧ a1_ ≤ 162) : sm_T (mt_P sc_) 0 155 (0, [some (.inr (.inr (some (8, 0)))), some (.inl a1_), none, none], [], S0_) (fun ro9_ => ∃ u_ S1_, ro9_ = (.inl u_, S1_, 0) ∧ vq_155 a1_ bb_ S0_ u_ S1_) := by
  have hF_ : ai_fr (sx_W vw_155) S0_ S0_ := ai_fr_rf
  have hIx1_ : gi (sm_pI S0_ 8 0 13 0) := gi_pI hI_ (show 0 ≤ 0 ∧ 0 ≤ 162 from ⟨by omega, by omega⟩)
  have hFx2_ : ai_fr (sx_W vw_155) S0_ (sm_pI S0_ 8 0 13 0) := ai_fr_tr hF_ (ai_fr_pI rfl)
  refine sm_T_go 5 (c1 := (7, [some (.inr (.inr (some (8, 0)))), some (.inl a1_), some (.inl 0), none], [], sm_pI S0_ 8 0 13 0)) rfl ?_
  refine (vl_155 a1_ bb_ S0_ hb_ h1_ _).1 0 (sm_pI S0_ 8 0 13 0) hIx1_ hFx2_ ⟨?_, ?_, trivial⟩ (Nat.lt_succ_self _)
  · (rw [rf_eq]; omega)
  · refine ⟨fun i_ hi_ hn_ => ?_, fun i_ j_ hij_ hj_ hi_ hn_ => ?_⟩
    · rw [rf_eq] at hi_ hn_; exfalso; omega
    · rw [rf_eq] at hj_ hi_ hn_; exfalso; omega
end
/-! 99.zkid -/
section
/-! Router.firstOpen -/
def vw_156 : sx_Wl := ([], [], [])
def vq_156 (bb_ : Nat) (n_ : Int) (S0_ : sm_S) (u_ : Option sm_V) (S1_ : sm_S) : Prop := S0_ = S1_ ∧ ∃ v_ : Int, u_ = some (.inl v_) ∧ (v_ = -1 ∨ ((0 ≤ v_ ∧ v_ < n_) ∧ 1 < S0_.2.2.1 20 (0 + bb_) v_.toNat ∧ S0_.2.2.1 24 (0 + bb_) v_.toNat ≠ 0))
set_option maxHeartbeats 400000 in
theorem vl_156 {sc_ : Nat × (Nat → Int)} (bb_ : Nat) (n_ : Int) (S0_ : sm_S) (hb_ : S0_.2.1 8 0 0 = some bb_) (hn_ : n_ ≤ 162) (hr_ : rrw bb_ n_ (S0_.1 8 0 13) (S0_.1 8 0 13) S0_) : ∀ nn_ : Nat, (∀ (k_ : Int) (S_ : sm_S), gi S_ → ai_fr (sx_W vw_156) S0_ S_ → ((0 ≤ k_ ∧ k_ ≤ 162) ∧ (S_ = S0_) ∧ True) → ((1000 - k_).toNat) < nn_ → sm_T (mt_P sc_) 0 156 (2, [some (.inr (.inr (some (8, 0)))), some (.inl k_)], [], S_) (fun ro9_ => ∃ u_ S1_, ro9_ = (.inl u_, S1_, 0) ∧ vq_156 bb_ n_ S0_ u_ S1_)) := by
  intro nn_
  induction nn_ with
  | zero => exact fun _ _ _ _ _ h_ => absurd h_ (Nat.not_lt_zero _)
  | succ nn_ ih_ =>
    rintro k_ S_ hI_ hF_ ⟨h0_, hS_, -⟩ hm_
    have bx1_ : 0 ≤ S_.1 8 0 13 ∧ S_.1 8 0 13 ≤ 162 := hI_.1 8 0 13 rfl
    refine sm_T_go 3 (c1 := (7, [some (.inr (.inr (some (8, 0)))), some (.inl k_)], [.inl (S_.1 8 0 13), .inl k_], S_)) rfl ?_
    refine sm_T_br (a := 3) (z := 33) rfl (fun cx2_ => ?_) (fun cx2_ => ?_)
    · have cx2_ : (S_.1 8 0 13) ≤ k_ := of_decide_eq_true cx2_
      refine sm_T_go 1 (c1 := (41, [some (.inr (.inr (some (8, 0)))), some (.inl k_)], [.inl (-1)], S_)) rfl ?_
      refine sm_T_ri rfl ⟨_, _, rfl, (by first | rfl | exact hS_.symm), _, rfl, ?_⟩
      (left; rfl)
    · have cx2_ : ¬ ((S_.1 8 0 13) ≤ k_) := of_decide_eq_false cx2_
      have g9_ := hr_.1 k_.toNat (by rw [← hS_]; omega) (by rw [← hS_]; omega)
      rw [← hS_] at g9_
      refine sm_T_go 1 (c1 := (11, [some (.inr (.inr (some (8, 0)))), some (.inl k_)], [.inr (.inr (some (8, 0)))], S_)) rfl ?_
      refine sm_T_gr rfl rfl ((hF_.2.1 8 0 0 rfl).trans hb_) ?_
      refine sm_T_go 4 (c1 := (22, [some (.inr (.inr (some (8, 0)))), some (.inl k_)], [.inl k_, .inr (.inr (some (91, 0))), .inr (.inr (some (24, (0 + bb_))))], S_)) rfl ?_
      refine sm_T_iald (n := 162) rfl rfl (by omega) (by omega) ?_
      have bx3_ : 0 ≤ S_.2.2.1 91 0 k_.toNat ∧ S_.2.2.1 91 0 k_.toNat ≤ 161 := hI_.2 91 0 _
      refine sm_T_iald (n := 162) rfl rfl (by omega) (by omega) ?_
      have bx4_ : 0 ≤ S_.2.2.1 24 (0 + bb_) (S_.2.2.1 91 0 k_.toNat).toNat ∧ S_.2.2.1 24 (0 + bb_) (S_.2.2.1 91 0 k_.toNat).toNat ≤ 1 := hI_.2 24 (0 + bb_) _
      refine sm_T_b0 (a := 0) (z := 10) rfl (fun cx5_ => ?_) (fun cx5_ => ?_)
      · have cx5_ : (S_.2.2.1 24 (0 + bb_) (S_.2.2.1 91 0 k_.toNat).toNat) = 0 := of_decide_eq_true cx5_
        refine sm_T_inc (a := 1) (z := 1) (v := k_) (w := k_ + 1) rfl rfl (by omega) (by omega) (by omega) ?_ -- pc_ 34
        refine sm_T_go 1 (c1 := (2, [some (.inr (.inr (some (8, 0)))), some (.inl (k_ + 1))], [], S_)) rfl ?_
        refine ih_ (k_ + 1) S_ hI_ hF_ ⟨?_, ?_, trivial⟩ ?_
        · omega
        · first | rfl | exact hS_
        · omega
      · have cx5_ : ¬ ((S_.2.2.1 24 (0 + bb_) (S_.2.2.1 91 0 k_.toNat).toNat) = 0) := of_decide_eq_false cx5_
        refine sm_T_go 3 (c1 := (32, [some (.inr (.inr (some (8, 0)))), some (.inl k_)], [.inl k_, .inr (.inr (some (91, 0)))], S_)) rfl ?_
        refine sm_T_iald (n := 162) rfl rfl (by omega) (by omega) ?_
        refine sm_T_ri rfl ⟨_, _, rfl, (by first | rfl | exact hS_.symm), _, rfl, ?_⟩
        right
        rw [← hS_]
        exact ⟨g9_.1, g9_.2, by omega⟩
set_option maxHeartbeats 400000 in
theorem vc_156 {sc_ : Nat × (Nat → Int)} (bb_ : Nat) (n_ : Int) (S0_ : sm_S) (hI_ : gi S0_) (hb_ : S0_.2.1 8 0 0 = some bb_) (hn_ : n_ ≤ 162) (hr_ : rrw bb_ n_ (S0_.1 8 0 13) (S0_.1 8 0 13) S0_) : sm_T (mt_P sc_) 0 156 (0, [some (.inr (.inr (some (8, 0)))), none], [], S0_) (fun ro9_ => ∃ u_ S1_, ro9_ = (.inl u_, S1_, 0) ∧ vq_156 bb_ n_ S0_ u_ S1_) := by
  have hF_ : ai_fr (sx_W vw_156) S0_ S0_ := ai_fr_rf
  refine sm_T_go 2 (c1 := (2, [some (.inr (.inr (some (8, 0)))), some (.inl 0)], [], S0_)) rfl ?_
  refine (vl_156 bb_ n_ S0_ hb_ hn_ hr_ _) 0 S0_ hI_ hF_ ⟨?_, ?_, trivial⟩ (Nat.lt_succ_self _)
  · omega
  · first | rfl | exact hS_
end
/-! 99.zkja -/
section
/-! all nets routed; written by wip/p55/gen/vg -/

theorem bpp_fr {w_ : sx_Wl} {bi_ ci_ : Nat} {S_ S'_ : sm_S} (h_ : bpp bi_ ci_ S_) (g_ : ai_fr (sx_W w_) S_ S'_) (k1_ : (sx_W w_).1 2 1 = false := by rfl) (k2_ : (sx_W w_).1 2 2 = false := by rfl) (k3_ : (sx_W w_).1 2 3 = false := by rfl) (k8_ : (sx_W w_).1 2 8 = false := by rfl) (a1_ : (sx_W w_).2.1 16 = false := by rfl) (a2_ : (sx_W w_).2.1 17 = false := by rfl) : bpp bi_ ci_ S'_ := by
  unfold bpp
  rw [fr_arr g_ a1_, fr_arr g_ a2_, g_.1 2 ci_ 1 k1_, g_.1 2 ci_ 2 k2_, g_.1 2 ci_ 3 k3_, g_.1 2 ci_ 8 k8_]
  exact h_
/-! java/util/Arrays.fill -/
def vw_2o2 : sx_Wl := ([], [22], [])
def vq_2o2 (v0_ : Int) (bb_ : Nat) (S0_ : sm_S) (u_ : Option sm_V) (S1_ : sm_S) : Prop := u_ = none ∧ gi S1_ ∧ ai_fr (sx_W vw_2o2) S0_ S1_ ∧ (cdf bb_ S0_ S1_ ∧ (∀ j_, j_ < 4712 → S1_.2.2.1 22 (0 + bb_) j_ = v0_))
set_option maxHeartbeats 400000 in
theorem vl_2o2 {sc_ : Nat × (Nat → Int)} (v0_ : Int) (bb_ : Nat) (S0_ : sm_S) (hv_ : (-1) ≤ v0_ ∧ v0_ ≤ 161) : ∀ nn_ : Nat, (∀ (k_ : Int) (S_ : sm_S), gi S_ → ai_fr (sx_W vw_2o2) S0_ S_ → ((0 ≤ k_ ∧ k_ ≤ 4712) ∧ (∀ j_, j_ < k_.toNat → S_.2.2.1 22 (0 + bb_) j_ = v0_) ∧ (cdf bb_ S0_ S_) ∧ True) → ((4712 - k_).toNat) < nn_ → sm_T (mt_P sc_) 0 2 (5, [some (.inr (.inr (some (22, (0 + bb_))))), some (.inl v0_), some (.inl k_), some (.inl 4712)], [], S_) (fun ro9_ => ∃ u_ S1_, ro9_ = (.inl u_, S1_, 0) ∧ vq_2o2 v0_ bb_ S0_ u_ S1_)) := by
  intro nn_
  induction nn_ with
  | zero => exact fun _ _ _ _ _ h_ => absurd h_ (Nat.not_lt_zero _)
  | succ nn_ ih_ =>
    rintro k_ S_ hI_ hF_ ⟨h0_, h1_, hC_, -⟩ hm_
    refine sm_T_go 2 (c1 := (7, [some (.inr (.inr (some (22, (0 + bb_))))), some (.inl v0_), some (.inl k_), some (.inl 4712)], [.inl 4712, .inl k_], S_)) rfl ?_
    refine sm_T_br (a := 3) (z := 13) rfl (fun cx1_ => ?_) (fun cx1_ => ?_)
    · have cx1_ : 4712 ≤ k_ := of_decide_eq_true cx1_
      refine sm_T_rv rfl ⟨_, _, rfl, rfl, hI_, hF_, ?_⟩
      refine ⟨hC_, ?_⟩
      exact fun j_ hj_ => h1_ j_ (by omega)
    · have cx1_ : ¬ (4712 ≤ k_) := of_decide_eq_false cx1_
      refine sm_T_go 3 (c1 := (13, [some (.inr (.inr (some (22, (0 + bb_))))), some (.inl v0_), some (.inl k_), some (.inl 4712)], [.inl v0_, .inl k_, .inr (.inr (some (22, (0 + bb_))))], S_)) rfl ?_
      refine sm_T_iast (n := 4712) rfl rfl (by omega) (by omega) ?_
      have hIx2_ : gi (sm_aI S_ 22 (0 + bb_) k_.toNat v0_) := gi_aI hI_ (show (-1) ≤ v0_ ∧ v0_ ≤ 161 from ⟨by omega, by omega⟩)
      have hFx3_ : ai_fr (sx_W vw_2o2) S0_ (sm_aI S_ 22 (0 + bb_) k_.toNat v0_) := ai_fr_tr hF_ (ai_fr_aI rfl)
      have hCx4_ : cdf bb_ S0_ (sm_aI S_ 22 (0 + bb_) k_.toNat v0_) := cdf_aI hC_ (Or.inr (by rw [show cof 22 = 0 from rfl] <;> omega))
      refine sm_T_inc (a := 2) (z := 1) (v := k_) (w := k_ + 1) rfl rfl (by omega) (by omega) (by omega) ?_ -- pc_ 14
      refine sm_T_go 1 (c1 := (5, [some (.inr (.inr (some (22, (0 + bb_))))), some (.inl v0_), some (.inl (k_ + 1)), some (.inl 4712)], [], sm_aI S_ 22 (0 + bb_) k_.toNat v0_)) rfl ?_
      refine ih_ (k_ + 1) (sm_aI S_ 22 (0 + bb_) k_.toNat v0_) hIx2_ hFx3_ ⟨?_, ?_, ?_, trivial⟩ ?_
      · omega
      · intro j_ hj_
        rw [rd_eq]
        by_cases z_ : j_ = k_.toNat
        · rw [if_pos z_]
        · rw [if_neg z_]; exact h1_ j_ (by omega)
      · exact hCx4_
      · omega
set_option maxHeartbeats 400000 in
theorem vc_2o2 {sc_ : Nat × (Nat → Int)} (v0_ : Int) (bb_ : Nat) (S0_ : sm_S) (hI_ : gi S0_) (hv_ : (-1) ≤ v0_ ∧ v0_ ≤ 161) : sm_T (mt_P sc_) 0 2 (0, [some (.inr (.inr (some (22, (0 + bb_))))), some (.inl v0_), none, none], [], S0_) (fun ro9_ => ∃ u_ S1_, ro9_ = (.inl u_, S1_, 0) ∧ vq_2o2 v0_ bb_ S0_ u_ S1_) := by
  have hF_ : ai_fr (sx_W vw_2o2) S0_ S0_ := ai_fr_rf
  have hC_ : cdf bb_ S0_ S0_ := cdf_rf
  refine sm_T_go 5 (c1 := (5, [some (.inr (.inr (some (22, (0 + bb_))))), some (.inl v0_), some (.inl 0), some (.inl 4712)], [], S0_)) rfl ?_
  refine (vl_2o2 v0_ bb_ S0_ hv_ _) 0 S0_ hI_ hF_ ⟨?_, ?_, ?_, trivial⟩ (Nat.lt_succ_self _)
  · omega
  · (intro j_ hj_; exact absurd hj_ (Nat.not_lt_zero _))
  · exact hC_
end
/-! 99.zkjb -/
section
/-! java/util/Arrays.fill -/
def vw_2o3 : sx_Wl := ([], [23], [])
def vq_2o3 (v0_ : Int) (bb_ : Nat) (S0_ : sm_S) (u_ : Option sm_V) (S1_ : sm_S) : Prop := u_ = none ∧ gi S1_ ∧ ai_fr (sx_W vw_2o3) S0_ S1_ ∧ (cdf bb_ S0_ S1_ ∧ (∀ j_, j_ < 4712 → S1_.2.2.1 23 (0 + bb_) j_ = v0_))
set_option maxHeartbeats 400000 in
theorem vl_2o3 {sc_ : Nat × (Nat → Int)} (v0_ : Int) (bb_ : Nat) (S0_ : sm_S) (hv_ : 0 ≤ v0_ ∧ v0_ ≤ 7) : ∀ nn_ : Nat, (∀ (k_ : Int) (S_ : sm_S), gi S_ → ai_fr (sx_W vw_2o3) S0_ S_ → ((0 ≤ k_ ∧ k_ ≤ 4712) ∧ (∀ j_, j_ < k_.toNat → S_.2.2.1 23 (0 + bb_) j_ = v0_) ∧ (cdf bb_ S0_ S_) ∧ True) → ((4712 - k_).toNat) < nn_ → sm_T (mt_P sc_) 0 2 (5, [some (.inr (.inr (some (23, (0 + bb_))))), some (.inl v0_), some (.inl k_), some (.inl 4712)], [], S_) (fun ro9_ => ∃ u_ S1_, ro9_ = (.inl u_, S1_, 0) ∧ vq_2o3 v0_ bb_ S0_ u_ S1_)) := by
  intro nn_
  induction nn_ with
  | zero => exact fun _ _ _ _ _ h_ => absurd h_ (Nat.not_lt_zero _)
  | succ nn_ ih_ =>
    rintro k_ S_ hI_ hF_ ⟨h0_, h1_, hC_, -⟩ hm_
    refine sm_T_go 2 (c1 := (7, [some (.inr (.inr (some (23, (0 + bb_))))), some (.inl v0_), some (.inl k_), some (.inl 4712)], [.inl 4712, .inl k_], S_)) rfl ?_
    refine sm_T_br (a := 3) (z := 13) rfl (fun cx1_ => ?_) (fun cx1_ => ?_)
    · have cx1_ : 4712 ≤ k_ := of_decide_eq_true cx1_
      refine sm_T_rv rfl ⟨_, _, rfl, rfl, hI_, hF_, ?_⟩
      refine ⟨hC_, ?_⟩
      exact fun j_ hj_ => h1_ j_ (by omega)
    · have cx1_ : ¬ (4712 ≤ k_) := of_decide_eq_false cx1_
      refine sm_T_go 3 (c1 := (13, [some (.inr (.inr (some (23, (0 + bb_))))), some (.inl v0_), some (.inl k_), some (.inl 4712)], [.inl v0_, .inl k_, .inr (.inr (some (23, (0 + bb_))))], S_)) rfl ?_
      refine sm_T_iast (n := 4712) rfl rfl (by omega) (by omega) ?_
      have hIx2_ : gi (sm_aI S_ 23 (0 + bb_) k_.toNat v0_) := gi_aI hI_ (show 0 ≤ v0_ ∧ v0_ ≤ 7 from ⟨by omega, by omega⟩)
      have hFx3_ : ai_fr (sx_W vw_2o3) S0_ (sm_aI S_ 23 (0 + bb_) k_.toNat v0_) := ai_fr_tr hF_ (ai_fr_aI rfl)
      have hCx4_ : cdf bb_ S0_ (sm_aI S_ 23 (0 + bb_) k_.toNat v0_) := cdf_aI hC_ (Or.inr (by rw [show cof 23 = 0 from rfl] <;> omega))
      refine sm_T_inc (a := 2) (z := 1) (v := k_) (w := k_ + 1) rfl rfl (by omega) (by omega) (by omega) ?_ -- pc_ 14
      refine sm_T_go 1 (c1 := (5, [some (.inr (.inr (some (23, (0 + bb_))))), some (.inl v0_), some (.inl (k_ + 1)), some (.inl 4712)], [], sm_aI S_ 23 (0 + bb_) k_.toNat v0_)) rfl ?_
      refine ih_ (k_ + 1) (sm_aI S_ 23 (0 + bb_) k_.toNat v0_) hIx2_ hFx3_ ⟨?_, ?_, ?_, trivial⟩ ?_
      · omega
      · intro j_ hj_
        rw [rd_eq]
        by_cases z_ : j_ = k_.toNat
        · rw [if_pos z_]
        · rw [if_neg z_]; exact h1_ j_ (by omega)
      · exact hCx4_
      · omega
set_option maxHeartbeats 400000 in
theorem vc_2o3 {sc_ : Nat × (Nat → Int)} (v0_ : Int) (bb_ : Nat) (S0_ : sm_S) (hI_ : gi S0_) (hv_ : 0 ≤ v0_ ∧ v0_ ≤ 7) : sm_T (mt_P sc_) 0 2 (0, [some (.inr (.inr (some (23, (0 + bb_))))), some (.inl v0_), none, none], [], S0_) (fun ro9_ => ∃ u_ S1_, ro9_ = (.inl u_, S1_, 0) ∧ vq_2o3 v0_ bb_ S0_ u_ S1_) := by
  have hF_ : ai_fr (sx_W vw_2o3) S0_ S0_ := ai_fr_rf
  have hC_ : cdf bb_ S0_ S0_ := cdf_rf
  refine sm_T_go 5 (c1 := (5, [some (.inr (.inr (some (23, (0 + bb_))))), some (.inl v0_), some (.inl 0), some (.inl 4712)], [], S0_)) rfl ?_
  refine (vl_2o3 v0_ bb_ S0_ hv_ _) 0 S0_ hI_ hF_ ⟨?_, ?_, ?_, trivial⟩ (Nat.lt_succ_self _)
  · omega
  · (intro j_ hj_; exact absurd hj_ (Nat.not_lt_zero _))
  · exact hC_
end
/-! 99.zkjc -/
section
/-! java/util/Arrays.fill -/
def vw_2o4 : sx_Wl := ([], [24], [])
def vq_2o4 (v0_ : Int) (bb_ : Nat) (S0_ : sm_S) (u_ : Option sm_V) (S1_ : sm_S) : Prop := u_ = none ∧ gi S1_ ∧ ai_fr (sx_W vw_2o4) S0_ S1_ ∧ (cdf bb_ S0_ S1_ ∧ (∀ j_, j_ < 162 → S1_.2.2.1 24 (0 + bb_) j_ = v0_))
set_option maxHeartbeats 400000 in
theorem vl_2o4 {sc_ : Nat × (Nat → Int)} (v0_ : Int) (bb_ : Nat) (S0_ : sm_S) (hv_ : 0 ≤ v0_ ∧ v0_ ≤ 1) : ∀ nn_ : Nat, (∀ (k_ : Int) (S_ : sm_S), gi S_ → ai_fr (sx_W vw_2o4) S0_ S_ → ((0 ≤ k_ ∧ k_ ≤ 162) ∧ (∀ j_, j_ < k_.toNat → S_.2.2.1 24 (0 + bb_) j_ = v0_) ∧ (cdf bb_ S0_ S_) ∧ True) → ((162 - k_).toNat) < nn_ → sm_T (mt_P sc_) 0 2 (5, [some (.inr (.inr (some (24, (0 + bb_))))), some (.inl v0_), some (.inl k_), some (.inl 162)], [], S_) (fun ro9_ => ∃ u_ S1_, ro9_ = (.inl u_, S1_, 0) ∧ vq_2o4 v0_ bb_ S0_ u_ S1_)) := by
  intro nn_
  induction nn_ with
  | zero => exact fun _ _ _ _ _ h_ => absurd h_ (Nat.not_lt_zero _)
  | succ nn_ ih_ =>
    rintro k_ S_ hI_ hF_ ⟨h0_, h1_, hC_, -⟩ hm_
    refine sm_T_go 2 (c1 := (7, [some (.inr (.inr (some (24, (0 + bb_))))), some (.inl v0_), some (.inl k_), some (.inl 162)], [.inl 162, .inl k_], S_)) rfl ?_
    refine sm_T_br (a := 3) (z := 13) rfl (fun cx1_ => ?_) (fun cx1_ => ?_)
    · have cx1_ : 162 ≤ k_ := of_decide_eq_true cx1_
      refine sm_T_rv rfl ⟨_, _, rfl, rfl, hI_, hF_, ?_⟩
      refine ⟨hC_, ?_⟩
      exact fun j_ hj_ => h1_ j_ (by omega)
    · have cx1_ : ¬ (162 ≤ k_) := of_decide_eq_false cx1_
      refine sm_T_go 3 (c1 := (13, [some (.inr (.inr (some (24, (0 + bb_))))), some (.inl v0_), some (.inl k_), some (.inl 162)], [.inl v0_, .inl k_, .inr (.inr (some (24, (0 + bb_))))], S_)) rfl ?_
      refine sm_T_iast (n := 162) rfl rfl (by omega) (by omega) ?_
      have hIx2_ : gi (sm_aI S_ 24 (0 + bb_) k_.toNat v0_) := gi_aI hI_ (show 0 ≤ v0_ ∧ v0_ ≤ 1 from ⟨by omega, by omega⟩)
      have hFx3_ : ai_fr (sx_W vw_2o4) S0_ (sm_aI S_ 24 (0 + bb_) k_.toNat v0_) := ai_fr_tr hF_ (ai_fr_aI rfl)
      have hCx4_ : cdf bb_ S0_ (sm_aI S_ 24 (0 + bb_) k_.toNat v0_) := cdf_aI hC_ (Or.inr (by rw [show cof 24 = 0 from rfl] <;> omega))
      refine sm_T_inc (a := 2) (z := 1) (v := k_) (w := k_ + 1) rfl rfl (by omega) (by omega) (by omega) ?_ -- pc_ 14
      refine sm_T_go 1 (c1 := (5, [some (.inr (.inr (some (24, (0 + bb_))))), some (.inl v0_), some (.inl (k_ + 1)), some (.inl 162)], [], sm_aI S_ 24 (0 + bb_) k_.toNat v0_)) rfl ?_
      refine ih_ (k_ + 1) (sm_aI S_ 24 (0 + bb_) k_.toNat v0_) hIx2_ hFx3_ ⟨?_, ?_, ?_, trivial⟩ ?_
      · omega
      · intro j_ hj_
        rw [rd_eq]
        by_cases z_ : j_ = k_.toNat
        · rw [if_pos z_]
        · rw [if_neg z_]; exact h1_ j_ (by omega)
      · exact hCx4_
      · omega
set_option maxHeartbeats 400000 in
theorem vc_2o4 {sc_ : Nat × (Nat → Int)} (v0_ : Int) (bb_ : Nat) (S0_ : sm_S) (hI_ : gi S0_) (hv_ : 0 ≤ v0_ ∧ v0_ ≤ 1) : sm_T (mt_P sc_) 0 2 (0, [some (.inr (.inr (some (24, (0 + bb_))))), some (.inl v0_), none, none], [], S0_) (fun ro9_ => ∃ u_ S1_, ro9_ = (.inl u_, S1_, 0) ∧ vq_2o4 v0_ bb_ S0_ u_ S1_) := by
  have hF_ : ai_fr (sx_W vw_2o4) S0_ S0_ := ai_fr_rf
  have hC_ : cdf bb_ S0_ S0_ := cdf_rf
  refine sm_T_go 5 (c1 := (5, [some (.inr (.inr (some (24, (0 + bb_))))), some (.inl v0_), some (.inl 0), some (.inl 162)], [], S0_)) rfl ?_
  refine (vl_2o4 v0_ bb_ S0_ hv_ _) 0 S0_ hI_ hF_ ⟨?_, ?_, ?_, trivial⟩ (Nat.lt_succ_self _)
  · omega
  · (intro j_ hj_; exact absurd hj_ (Nat.not_lt_zero _))
  · exact hC_
end
/-! 99.zkjd -/
section
/-! Router.routeAll -/
def vw_153 : sx_Wl := ([(0, 11), (8, 1), (8, 2), (8, 6), (8, 8), (8, 11), (8, 13)], [22, 23, 24, 85, 86, 87, 88, 89, 90, 91], [(8, 0)])
def vq_153 (a2_ : Int) (a3_ : Int) (bb_ : Nat) (cc_ : Nat) (S0_ : sm_S) (u_ : Option sm_V) (S1_ : sm_S) : Prop := ∃ v_ : Int, u_ = some (.inl v_) ∧ gi S1_ ∧ ai_fr (sx_W vw_153) S0_ S1_ ∧ (cdf bb_ S0_ S1_ ∧ (bst bb_ S1_ ∧ ∀ p_ : Nat, p_ < 4712 → S1_.2.2.1 22 (0 + bb_) p_ < a2_))
set_option maxHeartbeats 4000000 in
set_option maxRecDepth 20000 in
theorem vl_153 {sc_ : Nat × (Nat → Int)} (a2_ : Int) (a3_ : Int) (bb_ : Nat) (cc_ : Nat) (S0_ : sm_S) (h2_ : 0 ≤ a2_ ∧ a2_ ≤ 162) (h3_ : 0 ≤ a3_ ∧ a3_ ≤ 12) (hn_ : bpn bb_ S0_) (hl_ : bpl bb_ cc_ S0_) (hpp_ : bpp bb_ cc_ S0_) (hr_ : 0 < S0_.1 0 bb_ 1) : ∀ nn_ : Nat, (∀ (k_ : Int) (S_ : sm_S), gi S_ → ai_fr (sx_W vw_153) S0_ S_ → ((0 ≤ k_ ∧ k_ ≤ S_.1 8 0 13) ∧ (S_.2.1 8 0 0 = some bb_) ∧ (rgw S_) ∧ (rpt bb_ S_) ∧ (bst bb_ S_) ∧ (ropn bb_ S_) ∧ (rrw bb_ a2_ (S_.1 8 0 13) (S_.1 8 0 13) S_) ∧ (0 ≤ S_.1 8 0 13 ∧ S_.1 8 0 13 ≤ a2_) ∧ (∀ p_ : Nat, p_ < 4712 → S_.2.2.1 22 (0 + bb_) p_ < a2_) ∧ (∀ p_ : Nat, (p_ : Int) < 2 * S_.1 8 0 2 → S_.2.2.1 22 (0 + bb_) p_ = -1 ∨ ∃ j_ : Nat, (j_ : Int) < k_ ∧ S_.2.2.1 22 (0 + bb_) p_ = S_.2.2.1 91 0 j_) ∧ (cdf bb_ S0_ S_) ∧ True) → ((100000 - k_).toNat) < nn_ → sm_T (mt_P sc_) 5 153 (80, [some (.inr (.inr (some (8, 0)))), some (.inr (.inr (some (0, bb_)))), some (.inl a2_), some (.inl a3_), some (.inl k_), none, none], [], S_) (fun ro9_ => ∃ u_ S1_, ro9_ = (.inl u_, S1_, 0) ∧ vq_153 a2_ a3_ bb_ cc_ S0_ u_ S1_)) ∧ (∀ (op_ : Int) (rd_ : Int) (S_ : sm_S), gi S_ → ai_fr (sx_W vw_153) S0_ S_ → ((0 ≤ rd_ ∧ rd_ ≤ 12) ∧ (op_ = -1 ∨ ((0 ≤ op_ ∧ op_ < a2_) ∧ 1 < S_.2.2.1 20 (0 + bb_) op_.toNat ∧ S_.2.2.1 24 (0 + bb_) op_.toNat ≠ 0)) ∧ (S_.2.1 8 0 0 = some bb_) ∧ (rgw S_) ∧ (rpt bb_ S_) ∧ (bst bb_ S_) ∧ (ropn bb_ S_) ∧ (rrw bb_ a2_ (S_.1 8 0 13) (S_.1 8 0 13) S_) ∧ (0 ≤ S_.1 8 0 13 ∧ S_.1 8 0 13 ≤ a2_) ∧ (∀ p_ : Nat, p_ < 4712 → S_.2.2.1 22 (0 + bb_) p_ < a2_) ∧ (cdf bb_ S0_ S_) ∧ True) → ((1000 * (50 - rd_) + 900).toNat) < nn_ → sm_T (mt_P sc_) 5 153 (117, [some (.inr (.inr (some (8, 0)))), some (.inr (.inr (some (0, bb_)))), some (.inl a2_), some (.inl a3_), some (.inl op_), some (.inl rd_), none], [], S_) (fun ro9_ => ∃ u_ S1_, ro9_ = (.inl u_, S1_, 0) ∧ vq_153 a2_ a3_ bb_ cc_ S0_ u_ S1_)) ∧ (∀ (rd_ : Int) (k_ : Int) (S_ : sm_S), gi S_ → ai_fr (sx_W vw_153) S0_ S_ → ((0 ≤ rd_ ∧ rd_ < 12 ∧ 0 ≤ k_ ∧ k_ ≤ 162) ∧ (S_.2.1 8 0 0 = some bb_) ∧ (rgw S_) ∧ (rpt bb_ S_) ∧ (bst bb_ S_) ∧ (ropn bb_ S_) ∧ (rrw bb_ a2_ (S_.1 8 0 13) (S_.1 8 0 13) S_) ∧ (0 ≤ S_.1 8 0 13 ∧ S_.1 8 0 13 ≤ a2_) ∧ (∀ p_ : Nat, p_ < 4712 → S_.2.2.1 22 (0 + bb_) p_ < a2_) ∧ (cdf bb_ S0_ S_) ∧ True) → ((1000 * (50 - rd_) + 800 - k_).toNat) < nn_ → sm_T (mt_P sc_) 5 153 (145, [some (.inr (.inr (some (8, 0)))), some (.inr (.inr (some (0, bb_)))), some (.inl a2_), some (.inl a3_), none, some (.inl rd_), some (.inl k_)], [], S_) (fun ro9_ => ∃ u_ S1_, ro9_ = (.inl u_, S1_, 0) ∧ vq_153 a2_ a3_ bb_ cc_ S0_ u_ S1_)) ∧ (∀ (sm_ : Int) (k_ : Int) (S_ : sm_S), gi S_ → ai_fr (sx_W vw_153) S0_ S_ → ((0 ≤ k_ ∧ k_ ≤ 162 ∧ 0 ≤ sm_ ∧ sm_ ≤ k_) ∧ (S_.2.1 8 0 0 = some bb_) ∧ (bst bb_ S_) ∧ (∀ p_ : Nat, p_ < 4712 → S_.2.2.1 22 (0 + bb_) p_ < a2_) ∧ (cdf bb_ S0_ S_) ∧ True) → ((500 - k_).toNat) < nn_ → sm_T (mt_P sc_) 5 153 (217, [some (.inr (.inr (some (8, 0)))), some (.inr (.inr (some (0, bb_)))), some (.inl a2_), some (.inl a3_), none, some (.inl sm_), some (.inl k_)], [], S_) (fun ro9_ => ∃ u_ S1_, ro9_ = (.inl u_, S1_, 0) ∧ vq_153 a2_ a3_ bb_ cc_ S0_ u_ S1_)) := by
  intro nn_
  induction nn_ with
  | zero => exact ⟨fun _ _ _ _ _ h_ => absurd h_ (Nat.not_lt_zero _), fun _ _ _ _ _ _ h_ => absurd h_ (Nat.not_lt_zero _), fun _ _ _ _ _ _ h_ => absurd h_ (Nat.not_lt_zero _), fun _ _ _ _ _ _ h_ => absurd h_ (Nat.not_lt_zero _)⟩
  | succ nn_ ih_ =>
    refine ⟨?_, ?_, ?_, ?_⟩
    · rintro k_ S_ hI_ hF_ ⟨h0_, htk_, hg_, hp_, hs_, ho_, hw_, hsz_, hxo_, hj_, hC_, -⟩ hm_
      have k20_ : S_.2.2.1 20 (0 + bb_) = S0_.2.2.1 20 (0 + bb_) := fr_arr hF_ rfl
      have cr : 0 ≤ S_.1 8 0 13 ∧ S_.1 8 0 13 ≤ 162 := hI_.1 8 0 13 rfl
      have bx1_ : 0 ≤ S_.1 8 0 13 ∧ S_.1 8 0 13 ≤ 162 := hI_.1 8 0 13 rfl
      refine sm_T_go 3 (c1 := (86, [some (.inr (.inr (some (8, 0)))), some (.inr (.inr (some (0, bb_)))), some (.inl a2_), some (.inl a3_), some (.inl k_), none, none], [.inl (S_.1 8 0 13), .inl k_], S_)) rfl ?_
      refine sm_T_br (a := 3) (z := 22) rfl (fun cx2_ => ?_) (fun cx2_ => ?_)
      · have cx2_ : (S_.1 8 0 13) ≤ k_ := of_decide_eq_true cx2_
        refine sm_T_go 1 (c1 := (109, [some (.inr (.inr (some (8, 0)))), some (.inr (.inr (some (0, bb_)))), some (.inl a2_), some (.inl a3_), some (.inl k_), none, none], [.inr (.inr (some (8, 0)))], S_)) rfl ?_
        refine sm_T_cal (d1 := 0) (Q1 := vq_156 bb_ a2_ S_) rfl rfl (by decide) (vc_156 bb_ a2_ S_ hI_ (by exact htk_) (by omega) (by exact hw_)) (fun u_ Sx3_ px6_ => ?_)
        obtain ⟨rfl, vx8_, rfl, px6_⟩ := px6_
        have f109_ := px6_
        refine sm_T_go 3 (c1 := (117, [some (.inr (.inr (some (8, 0)))), some (.inr (.inr (some (0, bb_)))), some (.inl a2_), some (.inl a3_), some (.inl vx8_), some (.inl 0), none], [], S_)) rfl ?_
        refine ih_.2.1 vx8_ 0 S_ hI_ hF_ ⟨?_, ?_, ?_, ?_, ?_, ?_, ?_, ?_, ?_, ?_, ?_, trivial⟩ ?_
        · omega
        · exact f109_
        · exact htk_
        · exact hg_
        · exact hp_
        · exact hs_
        · exact ho_
        · exact hw_
        · exact hsz_
        · exact hxo_
        · exact hC_
        · omega
      · have cx2_ : ¬ ((S_.1 8 0 13) ≤ k_) := of_decide_eq_false cx2_
        have g9_ := hw_.1 k_.toNat (by omega) (by omega)
        refine sm_T_go 4 (c1 := (96, [some (.inr (.inr (some (8, 0)))), some (.inr (.inr (some (0, bb_)))), some (.inl a2_), some (.inl a3_), some (.inl k_), none, none], [.inl k_, .inr (.inr (some (91, 0))), .inr (.inr (some (8, 0)))], S_)) rfl ?_
        refine sm_T_iald (n := 162) rfl rfl (by omega) (by omega) ?_
        have bx9_ : 0 ≤ S_.2.2.1 91 0 k_.toNat ∧ S_.2.2.1 91 0 k_.toNat ≤ 161 := hI_.2 91 0 _
        refine sm_T_go 1 (c1 := (98, [some (.inr (.inr (some (8, 0)))), some (.inr (.inr (some (0, bb_)))), some (.inl a2_), some (.inl a3_), some (.inl k_), none, none], [.inl 0, .inl (S_.2.2.1 91 0 k_.toNat), .inr (.inr (some (8, 0)))], S_)) rfl ?_
        refine sm_T_cal (d1 := 4) (Q1 := vq_157 (S_.2.2.1 91 0 k_.toNat) 0 bb_ S_) rfl rfl (by decide) (vc_157 (S_.2.2.1 91 0 k_.toNat) 0 bb_ S_ hI_ (by exact htk_) (by exact hg_) (by omega) (by exact bpn_fr hn_ hF_ rfl rfl rfl rfl) (by exact hp_) (by exact hs_) (by exact ho_) (by (intro p_ u9_ w9_; rcases hj_ p_ u9_ with z9_ | ⟨j_, v9_, z9_⟩; (rw [z9_] at w9_; omega); exact hw_.2 j_ k_.toNat (by omega) (by omega) (by omega) (by omega) (by rw [← z9_, w9_]))) (by omega)) (fun u_ Sx10_ px13_ => ?_)
        obtain ⟨vx15_, rfl, hIx11_, hFx12_, px13_⟩ := px13_
        have hFx14_ : ai_fr (sx_W vw_153) S0_ Sx10_ := ai_fr_tr hF_ (fr_le hFx12_ rfl)
        obtain ⟨dx17_, px13_⟩ := px13_
        have hCx16_ : cdf bb_ S0_ Sx10_ := cdf_tr hC_ (cdf_cg (by omega) dx17_)
        have tx18_ : Sx10_.2.1 8 0 0 = some bb_ := (hFx12_.2.1 8 0 0 rfl).trans htk_
        have ex19_ : Sx10_.1 8 0 13 = S_.1 8 0 13 := hFx12_.1 8 0 13 rfl
        have c98_ := px13_
        have g98_ := rgw_fr hg_ hFx12_
        have p98_ := rpt_fr hp_ hFx12_
        have s98_ := hFx12_.1 8 0 13 rfl
        have r98_ : Sx10_.2.2.1 91 0 = S_.2.2.1 91 0 := fr_arr hFx12_ rfl
        have q98_ : Sx10_.2.2.1 20 (0 + bb_) = S_.2.2.1 20 (0 + bb_) := fr_arr hFx12_ rfl
        have w98_ : rrw bb_ a2_ (Sx10_.1 8 0 13) (Sx10_.1 8 0 13) Sx10_ := by (rw [s98_]; exact rrw_up hw_ r98_ q98_ (Int.le_refl _))
        have e98_ := hFx12_.1 8 0 2 rfl
        refine sm_T_go 1 (c1 := (102, [some (.inr (.inr (some (8, 0)))), some (.inr (.inr (some (0, bb_)))), some (.inl a2_), some (.inl a3_), some (.inl k_), none, none], [], Sx10_)) rfl ?_
        refine sm_T_inc (a := 4) (z := 1) (v := k_) (w := k_ + 1) rfl rfl (by omega) (by omega) (by omega) ?_ -- pc_ 102
        refine sm_T_go 1 (c1 := (80, [some (.inr (.inr (some (8, 0)))), some (.inr (.inr (some (0, bb_)))), some (.inl a2_), some (.inl a3_), some (.inl (k_ + 1)), none, none], [], Sx10_)) rfl ?_
        refine ih_.1 (k_ + 1) Sx10_ hIx11_ hFx14_ ⟨?_, ?_, ?_, ?_, ?_, ?_, ?_, ?_, ?_, ?_, ?_, trivial⟩ ?_
        · (rw [s98_]; omega)
        · exact tx18_
        · exact g98_
        · exact p98_
        · exact c98_.2.1
        · exact c98_.2.2.1
        · exact w98_
        · (rw [s98_]; exact hsz_)
        · (intro p_ u_; rcases c98_.2.2.2 p_ with z_ | z_ | z_; (rw [z_]; exact hxo_ p_ u_); (rw [z_]; omega); (rw [z_]; omega))
        · intro p_ u_
          rw [e98_] at u_
          rcases c98_.2.2.2 p_ with z_ | z_ | z_
          · rw [z_]; rcases hj_ p_ u_ with y_ | ⟨j_, y1_, y2_⟩
            · left; exact y_
            · right; exact ⟨j_, by omega, by rw [r98_]; exact y2_⟩
          · left; exact z_
          · right; exact ⟨k_.toNat, by omega, by rw [r98_]; exact z_⟩
        · exact hCx16_
        · omega
    · rintro op_ rd_ S_ hI_ hF_ ⟨h0_, hf_, htk_, hg_, hp_, hs_, ho_, hw_, hsz_, hxo_, hC_, -⟩ hm_
      have k20_ : S_.2.2.1 20 (0 + bb_) = S0_.2.2.1 20 (0 + bb_) := fr_arr hF_ rfl
      have cr : 0 ≤ S_.1 8 0 13 ∧ S_.1 8 0 13 ≤ 162 := hI_.1 8 0 13 rfl
      refine sm_T_go 2 (c1 := (120, [some (.inr (.inr (some (8, 0)))), some (.inr (.inr (some (0, bb_)))), some (.inl a2_), some (.inl a3_), some (.inl op_), some (.inl rd_), none], [.inl a3_, .inl rd_], S_)) rfl ?_
      refine sm_T_br (a := 3) (z := 83) rfl (fun cx1_ => ?_) (fun cx1_ => ?_)
      · have cx1_ : a3_ ≤ rd_ := of_decide_eq_true cx1_
        refine sm_T_go 1 (c1 := (204, [some (.inr (.inr (some (8, 0)))), some (.inr (.inr (some (0, bb_)))), some (.inl a2_), some (.inl a3_), some (.inl op_), some (.inl rd_), none], [.inr (.inr (some (8, 0)))], S_)) rfl ?_
        refine sm_T_gr rfl rfl htk_ ?_
        have hIx2_ : gi (sm_pI S_ 0 bb_ 11 1) := gi_pI hI_ (show 0 ≤ 1 ∧ 1 ≤ 1 from ⟨by omega, by omega⟩)
        have hFx3_ : ai_fr (sx_W vw_153) S0_ (sm_pI S_ 0 bb_ 11 1) := ai_fr_tr hF_ (ai_fr_pI rfl)
        have hCx4_ : cdf bb_ S0_ (sm_pI S_ 0 bb_ 11 1) := cdf_pI hC_ (Or.inr (by rw [show cof 0 = 0 from rfl] <;> omega))
        refine sm_T_go 6 (c1 := (217, [some (.inr (.inr (some (8, 0)))), some (.inr (.inr (some (0, bb_)))), some (.inl a2_), some (.inl a3_), some (.inl op_), some (.inl 0), some (.inl 0)], [], sm_pI S_ 0 bb_ 11 1)) rfl ?_
        refine sm_T_wk [some (.inr (.inr (some (8, 0)))), some (.inr (.inr (some (0, bb_)))), some (.inl a2_), some (.inl a3_), none, some (.inl 0), some (.inl 0)] (by exact ⟨rfl, rfl, rfl, rfl, rfl, rfl, trivial⟩) ?_
        refine ih_.2.2.2 0 0 (sm_pI S_ 0 bb_ 11 1) hIx2_ hFx3_ ⟨?_, ?_, ?_, ?_, ?_, trivial⟩ ?_
        · omega
        · exact htk_
        · first | exact hs_ | (intro p_ u_ w_; exact hs_ p_ u_ w_) | (intro p_ u_ w_; exact c133_.2.1 p_ u_ w_)
        · first | exact hxo_ | (intro p_ u_; exact hxo_ p_ u_) | (intro p_ u_; rcases c133_.2.2.2 p_ with z_ | z_ | z_; (have y_ := hxo_ p_ u_; rw [← z_] at y_; exact y_); (have y_ : (-1 : Int) < a2_ := (by omega); rw [← z_] at y_; exact y_); (have y_ : op_ < a2_ := (by omega); rw [← z_] at y_; exact y_))
        · exact hCx4_
        · omega
      · have cx1_ : ¬ (a3_ ≤ rd_) := of_decide_eq_false cx1_
        refine sm_T_go 2 (c1 := (126, [some (.inr (.inr (some (8, 0)))), some (.inr (.inr (some (0, bb_)))), some (.inl a2_), some (.inl a3_), some (.inl op_), some (.inl rd_), none], [.inl (-1), .inl op_], S_)) rfl ?_
        refine sm_T_br (a := 0) (z := 77) rfl (fun cx5_ => ?_) (fun cx5_ => ?_)
        · have cx5_ : op_ = (-1) := of_decide_eq_true cx5_
          refine sm_T_go 1 (c1 := (204, [some (.inr (.inr (some (8, 0)))), some (.inr (.inr (some (0, bb_)))), some (.inl a2_), some (.inl a3_), some (.inl op_), some (.inl rd_), none], [.inr (.inr (some (8, 0)))], S_)) rfl ?_
          refine sm_T_gr rfl rfl htk_ ?_
          have hIx6_ : gi (sm_pI S_ 0 bb_ 11 1) := gi_pI hI_ (show 0 ≤ 1 ∧ 1 ≤ 1 from ⟨by omega, by omega⟩)
          have hFx7_ : ai_fr (sx_W vw_153) S0_ (sm_pI S_ 0 bb_ 11 1) := ai_fr_tr hF_ (ai_fr_pI rfl)
          have hCx8_ : cdf bb_ S0_ (sm_pI S_ 0 bb_ 11 1) := cdf_pI hC_ (Or.inr (by rw [show cof 0 = 0 from rfl] <;> omega))
          refine sm_T_go 6 (c1 := (217, [some (.inr (.inr (some (8, 0)))), some (.inr (.inr (some (0, bb_)))), some (.inl a2_), some (.inl a3_), some (.inl op_), some (.inl 0), some (.inl 0)], [], sm_pI S_ 0 bb_ 11 1)) rfl ?_
          refine sm_T_wk [some (.inr (.inr (some (8, 0)))), some (.inr (.inr (some (0, bb_)))), some (.inl a2_), some (.inl a3_), none, some (.inl 0), some (.inl 0)] (by exact ⟨rfl, rfl, rfl, rfl, rfl, rfl, trivial⟩) ?_
          refine ih_.2.2.2 0 0 (sm_pI S_ 0 bb_ 11 1) hIx6_ hFx7_ ⟨?_, ?_, ?_, ?_, ?_, trivial⟩ ?_
          · omega
          · exact htk_
          · first | exact hs_ | (intro p_ u_ w_; exact hs_ p_ u_ w_) | (intro p_ u_ w_; exact c133_.2.1 p_ u_ w_)
          · first | exact hxo_ | (intro p_ u_; exact hxo_ p_ u_) | (intro p_ u_; rcases c133_.2.2.2 p_ with z_ | z_ | z_; (have y_ := hxo_ p_ u_; rw [← z_] at y_; exact y_); (have y_ : (-1 : Int) < a2_ := (by omega); rw [← z_] at y_; exact y_); (have y_ : op_ < a2_ := (by omega); rw [← z_] at y_; exact y_))
          · exact hCx8_
          · omega
        · have cx5_ : ¬ (op_ = (-1)) := of_decide_eq_false cx5_
          refine sm_T_go 3 (c1 := (133, [some (.inr (.inr (some (8, 0)))), some (.inr (.inr (some (0, bb_)))), some (.inl a2_), some (.inl a3_), some (.inl op_), some (.inl rd_), none], [.inl 1, .inl op_, .inr (.inr (some (8, 0)))], S_)) rfl ?_
          refine sm_T_cal (d1 := 4) (Q1 := vq_157 op_ 1 bb_ S_) rfl rfl (by decide) (vc_157 op_ 1 bb_ S_ hI_ (by exact htk_) (by exact hg_) (by omega) (by exact bpn_fr hn_ hF_ rfl rfl rfl rfl) (by exact hp_) (by exact hs_) (by exact ho_) (by (intro p_ u9_ w9_; rcases hf_ with z9_ | z9_; omega; exact ho_ op_.toNat (by omega) z9_.2.2 p_ u9_ (by omega))) (by omega)) (fun u_ Sx9_ px12_ => ?_)
          obtain ⟨vx14_, rfl, hIx10_, hFx11_, px12_⟩ := px12_
          have hFx13_ : ai_fr (sx_W vw_153) S0_ Sx9_ := ai_fr_tr hF_ (fr_le hFx11_ rfl)
          obtain ⟨dx16_, px12_⟩ := px12_
          have hCx15_ : cdf bb_ S0_ Sx9_ := cdf_tr hC_ (cdf_cg (by omega) dx16_)
          have tx17_ : Sx9_.2.1 8 0 0 = some bb_ := (hFx11_.2.1 8 0 0 rfl).trans htk_
          have c133_ := px12_
          have g133_ := rgw_fr hg_ hFx11_
          have p133_ := rpt_fr hp_ hFx11_
          have s133_ := hFx11_.1 8 0 13 rfl
          have r133_ : Sx9_.2.2.1 91 0 = S_.2.2.1 91 0 := fr_arr hFx11_ rfl
          have q133_ : Sx9_.2.2.1 20 (0 + bb_) = S_.2.2.1 20 (0 + bb_) := fr_arr hFx11_ rfl
          have w133_ : rrw bb_ a2_ (Sx9_.1 8 0 13) (Sx9_.1 8 0 13) Sx9_ := by (rw [s133_]; exact rrw_up hw_ r133_ q133_ (Int.le_refl _))
          have e133_ := hFx11_.1 8 0 2 rfl
          refine sm_T_b0 (a := 1) (z := 6) rfl (fun cx18_ => ?_) (fun cx18_ => ?_)
          · have cx18_ : vx14_ ≠ 0 := of_decide_eq_true cx18_
            refine sm_T_go 2 (c1 := (145, [some (.inr (.inr (some (8, 0)))), some (.inr (.inr (some (0, bb_)))), some (.inl a2_), some (.inl a3_), some (.inl op_), some (.inl rd_), some (.inl 0)], [], Sx9_)) rfl ?_
            refine sm_T_wk [some (.inr (.inr (some (8, 0)))), some (.inr (.inr (some (0, bb_)))), some (.inl a2_), some (.inl a3_), none, some (.inl rd_), some (.inl 0)] (by exact ⟨rfl, rfl, rfl, rfl, rfl, rfl, trivial⟩) ?_
            refine ih_.2.2.1 rd_ 0 Sx9_ hIx10_ hFx13_ ⟨?_, ?_, ?_, ?_, ?_, ?_, ?_, ?_, ?_, ?_, trivial⟩ ?_
            · omega
            · exact tx17_
            · exact g133_
            · exact p133_
            · exact c133_.2.1
            · exact c133_.2.2.1
            · exact w133_
            · (rw [s133_]; exact hsz_)
            · (intro p_ u_; rcases c133_.2.2.2 p_ with z_ | z_ | z_; (rw [z_]; exact hxo_ p_ u_); (rw [z_]; omega); (rw [z_]; omega))
            · exact hCx15_
            · omega
          · have cx18_ : ¬ (vx14_ ≠ 0) := of_decide_eq_false cx18_
            refine sm_T_go 2 (c1 := (204, [some (.inr (.inr (some (8, 0)))), some (.inr (.inr (some (0, bb_)))), some (.inl a2_), some (.inl a3_), some (.inl op_), some (.inl rd_), none], [.inr (.inr (some (8, 0)))], Sx9_)) rfl ?_
            refine sm_T_gr rfl rfl tx17_ ?_
            have hIx19_ : gi (sm_pI Sx9_ 0 bb_ 11 1) := gi_pI hIx10_ (show 0 ≤ 1 ∧ 1 ≤ 1 from ⟨by omega, by omega⟩)
            have hFx20_ : ai_fr (sx_W vw_153) S0_ (sm_pI Sx9_ 0 bb_ 11 1) := ai_fr_tr hFx13_ (ai_fr_pI rfl)
            have hCx21_ : cdf bb_ S0_ (sm_pI Sx9_ 0 bb_ 11 1) := cdf_pI hCx15_ (Or.inr (by rw [show cof 0 = 0 from rfl] <;> omega))
            refine sm_T_go 6 (c1 := (217, [some (.inr (.inr (some (8, 0)))), some (.inr (.inr (some (0, bb_)))), some (.inl a2_), some (.inl a3_), some (.inl op_), some (.inl 0), some (.inl 0)], [], sm_pI Sx9_ 0 bb_ 11 1)) rfl ?_
            refine sm_T_wk [some (.inr (.inr (some (8, 0)))), some (.inr (.inr (some (0, bb_)))), some (.inl a2_), some (.inl a3_), none, some (.inl 0), some (.inl 0)] (by exact ⟨rfl, rfl, rfl, rfl, rfl, rfl, trivial⟩) ?_
            refine ih_.2.2.2 0 0 (sm_pI Sx9_ 0 bb_ 11 1) hIx19_ hFx20_ ⟨?_, ?_, ?_, ?_, ?_, trivial⟩ ?_
            · omega
            · exact tx17_
            · first | exact hs_ | (intro p_ u_ w_; exact hs_ p_ u_ w_) | (intro p_ u_ w_; exact c133_.2.1 p_ u_ w_)
            · first | exact hxo_ | (intro p_ u_; exact hxo_ p_ u_) | (intro p_ u_; rcases c133_.2.2.2 p_ with z_ | z_ | z_; (have y_ := hxo_ p_ u_; rw [← z_] at y_; exact y_); (have y_ : (-1 : Int) < a2_ := (by omega); rw [← z_] at y_; exact y_); (have y_ : op_ < a2_ := (by omega); rw [← z_] at y_; exact y_))
            · exact hCx21_
            · omega
    · rintro rd_ k_ S_ hI_ hF_ ⟨h0_, htk_, hg_, hp_, hs_, ho_, hw_, hsz_, hxo_, hC_, -⟩ hm_
      have k20_ : S_.2.2.1 20 (0 + bb_) = S0_.2.2.1 20 (0 + bb_) := fr_arr hF_ rfl
      have cr : 0 ≤ S_.1 8 0 13 ∧ S_.1 8 0 13 ≤ 162 := hI_.1 8 0 13 rfl
      have bx1_ : 0 ≤ S_.1 8 0 13 ∧ S_.1 8 0 13 ≤ 162 := hI_.1 8 0 13 rfl
      refine sm_T_go 3 (c1 := (151, [some (.inr (.inr (some (8, 0)))), some (.inr (.inr (some (0, bb_)))), some (.inl a2_), some (.inl a3_), none, some (.inl rd_), some (.inl k_)], [.inl (S_.1 8 0 13), .inl k_], S_)) rfl ?_
      refine sm_T_br (a := 3) (z := 40) rfl (fun cx2_ => ?_) (fun cx2_ => ?_)
      · have cx2_ : (S_.1 8 0 13) ≤ k_ := of_decide_eq_true cx2_
        refine sm_T_go 1 (c1 := (192, [some (.inr (.inr (some (8, 0)))), some (.inr (.inr (some (0, bb_)))), some (.inl a2_), some (.inl a3_), none, some (.inl rd_), some (.inl k_)], [.inr (.inr (some (8, 0)))], S_)) rfl ?_
        refine sm_T_cal (d1 := 0) (Q1 := vq_156 bb_ a2_ S_) rfl rfl (by decide) (vc_156 bb_ a2_ S_ hI_ (by exact htk_) (by omega) (by exact hw_)) (fun u_ Sx3_ px6_ => ?_)
        obtain ⟨rfl, vx8_, rfl, px6_⟩ := px6_
        have f192_ := px6_
        refine sm_T_go 1 (c1 := (197, [some (.inr (.inr (some (8, 0)))), some (.inr (.inr (some (0, bb_)))), some (.inl a2_), some (.inl a3_), some (.inl vx8_), some (.inl rd_), some (.inl k_)], [], S_)) rfl ?_
        refine sm_T_inc (a := 5) (z := 1) (v := rd_) (w := rd_ + 1) rfl rfl (by omega) (by omega) (by omega) ?_ -- pc_ 197
        refine sm_T_go 1 (c1 := (117, [some (.inr (.inr (some (8, 0)))), some (.inr (.inr (some (0, bb_)))), some (.inl a2_), some (.inl a3_), some (.inl vx8_), some (.inl (rd_ + 1)), some (.inl k_)], [], S_)) rfl ?_
        refine sm_T_wk [some (.inr (.inr (some (8, 0)))), some (.inr (.inr (some (0, bb_)))), some (.inl a2_), some (.inl a3_), some (.inl vx8_), some (.inl (rd_ + 1)), none] (by exact ⟨rfl, rfl, rfl, rfl, rfl, rfl, trivial⟩) ?_
        refine ih_.2.1 vx8_ (rd_ + 1) S_ hI_ hF_ ⟨?_, ?_, ?_, ?_, ?_, ?_, ?_, ?_, ?_, ?_, ?_, trivial⟩ ?_
        · omega
        · exact f192_
        · exact htk_
        · exact hg_
        · exact hp_
        · exact hs_
        · exact ho_
        · exact hw_
        · exact hsz_
        · exact hxo_
        · exact hC_
        · omega
      · have cx2_ : ¬ ((S_.1 8 0 13) ≤ k_) := of_decide_eq_false cx2_
        have g8_ := hw_.1 k_.toNat (by omega) (by omega)
        refine sm_T_go 1 (c1 := (155, [some (.inr (.inr (some (8, 0)))), some (.inr (.inr (some (0, bb_)))), some (.inl a2_), some (.inl a3_), none, some (.inl rd_), some (.inl k_)], [.inr (.inr (some (8, 0)))], S_)) rfl ?_
        refine sm_T_gr rfl rfl htk_ ?_
        refine sm_T_go 4 (c1 := (167, [some (.inr (.inr (some (8, 0)))), some (.inr (.inr (some (0, bb_)))), some (.inl a2_), some (.inl a3_), none, some (.inl rd_), some (.inl k_)], [.inl k_, .inr (.inr (some (91, 0))), .inr (.inr (some (24, (0 + bb_))))], S_)) rfl ?_
        refine sm_T_iald (n := 162) rfl rfl (by omega) (by omega) ?_
        have bx9_ : 0 ≤ S_.2.2.1 91 0 k_.toNat ∧ S_.2.2.1 91 0 k_.toNat ≤ 161 := hI_.2 91 0 _
        refine sm_T_iald (n := 162) rfl rfl (by omega) (by omega) ?_
        have bx10_ : 0 ≤ S_.2.2.1 24 (0 + bb_) (S_.2.2.1 91 0 k_.toNat).toNat ∧ S_.2.2.1 24 (0 + bb_) (S_.2.2.1 91 0 k_.toNat).toNat ≤ 1 := hI_.2 24 (0 + bb_) _
        refine sm_T_b0 (a := 0) (z := 16) rfl (fun cx11_ => ?_) (fun cx11_ => ?_)
        · have cx11_ : (S_.2.2.1 24 (0 + bb_) (S_.2.2.1 91 0 k_.toNat).toNat) = 0 := of_decide_eq_true cx11_
          refine sm_T_inc (a := 6) (z := 1) (v := k_) (w := k_ + 1) rfl rfl (by omega) (by omega) (by omega) ?_ -- pc_ 185
          refine sm_T_go 1 (c1 := (145, [some (.inr (.inr (some (8, 0)))), some (.inr (.inr (some (0, bb_)))), some (.inl a2_), some (.inl a3_), none, some (.inl rd_), some (.inl (k_ + 1))], [], S_)) rfl ?_
          refine ih_.2.2.1 rd_ (k_ + 1) S_ hI_ hF_ ⟨?_, ?_, ?_, ?_, ?_, ?_, ?_, ?_, ?_, ?_, trivial⟩ ?_
          · omega
          · first | exact htk_ | exact htk_
          · first | exact hg_ | exact g181_
          · first | exact hp_ | exact p181_
          · first | exact hs_ | exact c181_.2.1
          · first | exact ho_ | exact c181_.2.2.1
          · first | exact hw_ | exact w181_
          · first | exact hsz_ | (rw [s181_]; exact hsz_)
          · first | exact hxo_ | (intro p_ u_; rcases c181_.2.2.2 p_ with z_ | z_ | z_; (rw [z_]; exact hxo_ p_ u_); (rw [z_]; omega); (rw [z_]; omega))
          · exact hC_
          · omega
        · have cx11_ : ¬ ((S_.2.2.1 24 (0 + bb_) (S_.2.2.1 91 0 k_.toNat).toNat) = 0) := of_decide_eq_false cx11_
          have g9_ := hw_.1 k_.toNat (by omega) (by omega)
          refine sm_T_go 4 (c1 := (179, [some (.inr (.inr (some (8, 0)))), some (.inr (.inr (some (0, bb_)))), some (.inl a2_), some (.inl a3_), none, some (.inl rd_), some (.inl k_)], [.inl k_, .inr (.inr (some (91, 0))), .inr (.inr (some (8, 0)))], S_)) rfl ?_
          refine sm_T_iald (n := 162) rfl rfl (by omega) (by omega) ?_
          refine sm_T_go 1 (c1 := (181, [some (.inr (.inr (some (8, 0)))), some (.inr (.inr (some (0, bb_)))), some (.inl a2_), some (.inl a3_), none, some (.inl rd_), some (.inl k_)], [.inl 0, .inl (S_.2.2.1 91 0 k_.toNat), .inr (.inr (some (8, 0)))], S_)) rfl ?_
          refine sm_T_cal (d1 := 4) (Q1 := vq_157 (S_.2.2.1 91 0 k_.toNat) 0 bb_ S_) rfl rfl (by decide) (vc_157 (S_.2.2.1 91 0 k_.toNat) 0 bb_ S_ hI_ (by exact htk_) (by exact hg_) (by omega) (by exact bpn_fr hn_ hF_ rfl rfl rfl rfl) (by exact hp_) (by exact hs_) (by exact ho_) (by (intro p_ u9_ w9_; exact ho_ (S_.2.2.1 91 0 k_.toNat).toNat (by omega) (by omega) p_ u9_ (by omega))) (by omega)) (fun u_ Sx12_ px15_ => ?_)
          obtain ⟨vx17_, rfl, hIx13_, hFx14_, px15_⟩ := px15_
          have hFx16_ : ai_fr (sx_W vw_153) S0_ Sx12_ := ai_fr_tr hF_ (fr_le hFx14_ rfl)
          obtain ⟨dx19_, px15_⟩ := px15_
          have hCx18_ : cdf bb_ S0_ Sx12_ := cdf_tr hC_ (cdf_cg (by omega) dx19_)
          have tx20_ : Sx12_.2.1 8 0 0 = some bb_ := (hFx14_.2.1 8 0 0 rfl).trans htk_
          have ex21_ : Sx12_.1 8 0 13 = S_.1 8 0 13 := hFx14_.1 8 0 13 rfl
          have c181_ := px15_
          have g181_ := rgw_fr hg_ hFx14_
          have p181_ := rpt_fr hp_ hFx14_
          have s181_ := hFx14_.1 8 0 13 rfl
          have r181_ : Sx12_.2.2.1 91 0 = S_.2.2.1 91 0 := fr_arr hFx14_ rfl
          have q181_ : Sx12_.2.2.1 20 (0 + bb_) = S_.2.2.1 20 (0 + bb_) := fr_arr hFx14_ rfl
          have w181_ : rrw bb_ a2_ (Sx12_.1 8 0 13) (Sx12_.1 8 0 13) Sx12_ := by (rw [s181_]; exact rrw_up hw_ r181_ q181_ (Int.le_refl _))
          have e181_ := hFx14_.1 8 0 2 rfl
          refine sm_T_go 1 (c1 := (185, [some (.inr (.inr (some (8, 0)))), some (.inr (.inr (some (0, bb_)))), some (.inl a2_), some (.inl a3_), none, some (.inl rd_), some (.inl k_)], [], Sx12_)) rfl ?_
          refine sm_T_inc (a := 6) (z := 1) (v := k_) (w := k_ + 1) rfl rfl (by omega) (by omega) (by omega) ?_ -- pc_ 185
          refine sm_T_go 1 (c1 := (145, [some (.inr (.inr (some (8, 0)))), some (.inr (.inr (some (0, bb_)))), some (.inl a2_), some (.inl a3_), none, some (.inl rd_), some (.inl (k_ + 1))], [], Sx12_)) rfl ?_
          refine ih_.2.2.1 rd_ (k_ + 1) Sx12_ hIx13_ hFx16_ ⟨?_, ?_, ?_, ?_, ?_, ?_, ?_, ?_, ?_, ?_, trivial⟩ ?_
          · omega
          · first | exact tx20_ | exact tx20_
          · first | exact hg_ | exact g181_
          · first | exact hp_ | exact p181_
          · first | exact hs_ | exact c181_.2.1
          · first | exact ho_ | exact c181_.2.2.1
          · first | exact hw_ | exact w181_
          · first | exact hsz_ | (rw [s181_]; exact hsz_)
          · first | exact hxo_ | (intro p_ u_; rcases c181_.2.2.2 p_ with z_ | z_ | z_; (rw [z_]; exact hxo_ p_ u_); (rw [z_]; omega); (rw [z_]; omega))
          · exact hCx18_
          · omega
    · rintro sm_ k_ S_ hI_ hF_ ⟨h0_, htk_, hs_, hxo_, hC_, -⟩ hm_
      refine sm_T_go 2 (c1 := (220, [some (.inr (.inr (some (8, 0)))), some (.inr (.inr (some (0, bb_)))), some (.inl a2_), some (.inl a3_), none, some (.inl sm_), some (.inl k_)], [.inl a2_, .inl k_], S_)) rfl ?_
      refine sm_T_br (a := 3) (z := 24) rfl (fun cx1_ => ?_) (fun cx1_ => ?_)
      · have cx1_ : a2_ ≤ k_ := of_decide_eq_true cx1_
        refine sm_T_go 1 (c1 := (246, [some (.inr (.inr (some (8, 0)))), some (.inr (.inr (some (0, bb_)))), some (.inl a2_), some (.inl a3_), none, some (.inl sm_), some (.inl k_)], [.inl sm_], S_)) rfl ?_
        refine sm_T_ri rfl ⟨_, _, rfl, _, rfl, hI_, hF_, ?_⟩
        refine ⟨hC_, ?_⟩
        exact ⟨hs_, hxo_⟩
      · have cx1_ : ¬ (a2_ ≤ k_) := of_decide_eq_false cx1_
        refine sm_T_go 2 (c1 := (226, [some (.inr (.inr (some (8, 0)))), some (.inr (.inr (some (0, bb_)))), some (.inl a2_), some (.inl a3_), none, some (.inl sm_), some (.inl k_)], [.inr (.inr (some (8, 0))), .inl sm_], S_)) rfl ?_
        refine sm_T_gr rfl rfl htk_ ?_
        refine sm_T_go 2 (c1 := (234, [some (.inr (.inr (some (8, 0)))), some (.inr (.inr (some (0, bb_)))), some (.inl a2_), some (.inl a3_), none, some (.inl sm_), some (.inl k_)], [.inl k_, .inr (.inr (some (24, (0 + bb_)))), .inl sm_], S_)) rfl ?_
        refine sm_T_iald (n := 162) rfl rfl (by omega) (by omega) ?_
        have bx2_ : 0 ≤ S_.2.2.1 24 (0 + bb_) k_.toNat ∧ S_.2.2.1 24 (0 + bb_) k_.toNat ≤ 1 := hI_.2 24 (0 + bb_) _
        refine sm_T_bin (w := sm_ + (S_.2.2.1 24 (0 + bb_) k_.toNat)) rfl (bi_add (by omega) (by omega) (by omega)) ?_ -- pc_ 235
        refine sm_T_go 1 (c1 := (238, [some (.inr (.inr (some (8, 0)))), some (.inr (.inr (some (0, bb_)))), some (.inl a2_), some (.inl a3_), none, some (.inl (sm_ + (S_.2.2.1 24 (0 + bb_) k_.toNat))), some (.inl k_)], [], S_)) rfl ?_
        refine sm_T_inc (a := 6) (z := 1) (v := k_) (w := k_ + 1) rfl rfl (by omega) (by omega) (by omega) ?_ -- pc_ 238
        refine sm_T_go 1 (c1 := (217, [some (.inr (.inr (some (8, 0)))), some (.inr (.inr (some (0, bb_)))), some (.inl a2_), some (.inl a3_), none, some (.inl (sm_ + (S_.2.2.1 24 (0 + bb_) k_.toNat))), some (.inl (k_ + 1))], [], S_)) rfl ?_
        refine ih_.2.2.2 (sm_ + (S_.2.2.1 24 (0 + bb_) k_.toNat)) (k_ + 1) S_ hI_ hF_ ⟨?_, ?_, ?_, ?_, ?_, trivial⟩ ?_
        · omega
        · exact htk_
        · exact hs_
        · exact hxo_
        · exact hC_
        · omega
set_option maxHeartbeats 4000000 in
set_option maxRecDepth 20000 in
theorem vc_153 {sc_ : Nat × (Nat → Int)} (a2_ : Int) (a3_ : Int) (bb_ : Nat) (cc_ : Nat) (S0_ : sm_S) (hI_ : gi S0_) (h2_ : 0 ≤ a2_ ∧ a2_ ≤ 162) (h3_ : 0 ≤ a3_ ∧ a3_ ≤ 12) (hn_ : bpn bb_ S0_) (hl_ : bpl bb_ cc_ S0_) (hpp_ : bpp bb_ cc_ S0_) (hr_ : 0 < S0_.1 0 bb_ 1) : sm_T (mt_P sc_) 5 153 (0, [some (.inr (.inr (some (8, 0)))), some (.inr (.inr (some (0, bb_)))), some (.inl a2_), some (.inl a3_), none, none, none], [], S0_) (fun ro9_ => ∃ u_ S1_, ro9_ = (.inl u_, S1_, 0) ∧ vq_153 a2_ a3_ bb_ cc_ S0_ u_ S1_) := by
  have hF_ : ai_fr (sx_W vw_153) S0_ S0_ := ai_fr_rf
  have hC_ : cdf bb_ S0_ S0_ := cdf_rf
  have cs_ : 0 ≤ S0_.1 0 bb_ 0 ∧ S0_.1 0 bb_ 0 ≤ 60 := hI_.1 0 bb_ 0 rfl
  have ch_ : 0 ≤ S0_.1 0 bb_ 2 ∧ S0_.1 0 bb_ 2 ≤ 38 := hI_.1 0 bb_ 2 rfl
  have l9_ := (hl_ hr_).1
  have hIx1_ : gi (sm_pR S0_ 8 0 0 (some bb_)) := gi_pR hI_
  have hFx2_ : ai_fr (sx_W vw_153) S0_ (sm_pR S0_ 8 0 0 (some bb_)) := ai_fr_tr hF_ (ai_fr_pR rfl)
  have tx3_ : (sm_pR S0_ 8 0 0 (some bb_)).2.1 8 0 0 = some bb_ := (sm_up_self (f := S0_.2.1) (t := 8) (i := 0) (k := 0) (v := some bb_))
  have hCx4_ : cdf bb_ S0_ (sm_pR S0_ 8 0 0 (some bb_)) := cdf_pR hC_
  refine sm_T_go 5 (c1 := (7, [some (.inr (.inr (some (8, 0)))), some (.inr (.inr (some (0, bb_)))), some (.inl a2_), some (.inl a3_), none, none, none], [.inr (.inr (some (8, 0))), .inr (.inr (some (8, 0)))], sm_pR S0_ 8 0 0 (some bb_))) rfl ?_
  refine sm_T_gr rfl rfl tx3_ ?_
  have bx5_ : 0 ≤ S0_.1 0 bb_ 0 ∧ S0_.1 0 bb_ 0 ≤ 60 := hI_.1 0 bb_ 0 rfl
  refine sm_T_go 2 (c1 := (14, [some (.inr (.inr (some (8, 0)))), some (.inr (.inr (some (0, bb_)))), some (.inl a2_), some (.inl a3_), none, none, none], [.inl 2, .inl (S0_.1 0 bb_ 0), .inr (.inr (some (8, 0)))], sm_pR S0_ 8 0 0 (some bb_))) rfl ?_
  refine sm_T_bin (w := (S0_.1 0 bb_ 0) + 2) rfl (bi_add (by omega) (by omega) (by omega)) ?_ -- pc_ 14
  have hIx6_ : gi (sm_pI (sm_pR S0_ 8 0 0 (some bb_)) 8 0 1 ((S0_.1 0 bb_ 0) + 2)) := gi_pI hIx1_ (show 0 ≤ (S0_.1 0 bb_ 0) + 2 ∧ (S0_.1 0 bb_ 0) + 2 ≤ 62 from ⟨by omega, by omega⟩)
  have hFx7_ : ai_fr (sx_W vw_153) S0_ (sm_pI (sm_pR S0_ 8 0 0 (some bb_)) 8 0 1 ((S0_.1 0 bb_ 0) + 2)) := ai_fr_tr hFx2_ (ai_fr_pI rfl)
  have hCx8_ : cdf bb_ S0_ (sm_pI (sm_pR S0_ 8 0 0 (some bb_)) 8 0 1 ((S0_.1 0 bb_ 0) + 2)) := cdf_pI hCx4_ (Or.inl rfl)
  refine sm_T_go 3 (c1 := (20, [some (.inr (.inr (some (8, 0)))), some (.inr (.inr (some (0, bb_)))), some (.inl a2_), some (.inl a3_), none, none, none], [.inr (.inr (some (8, 0))), .inr (.inr (some (8, 0)))], sm_pI (sm_pR S0_ 8 0 0 (some bb_)) 8 0 1 ((S0_.1 0 bb_ 0) + 2))) rfl ?_
  refine sm_T_gr rfl rfl tx3_ ?_
  have bx9_ : 0 ≤ S0_.1 0 bb_ 2 ∧ S0_.1 0 bb_ 2 ≤ 38 := hI_.1 0 bb_ 2 rfl
  refine sm_T_go 3 (c1 := (30, [some (.inr (.inr (some (8, 0)))), some (.inr (.inr (some (0, bb_)))), some (.inl a2_), some (.inl a3_), none, none, none], [.inl ((S0_.1 0 bb_ 0) + 2), .inl (S0_.1 0 bb_ 2), .inr (.inr (some (8, 0)))], sm_pI (sm_pR S0_ 8 0 0 (some bb_)) 8 0 1 ((S0_.1 0 bb_ 0) + 2))) rfl ?_
  have bx10_ := mul_b (x_ := (S0_.1 0 bb_ 2)) (y_ := ((S0_.1 0 bb_ 0) + 2)) (X_ := 38) (Y_ := 62) (Z_ := 2356) (by omega) (by omega) (by decide)
  refine sm_T_bin (w := ((S0_.1 0 bb_ 2) * ((S0_.1 0 bb_ 0) + 2))) rfl (bi_mul rfl (by omega) (by omega)) ?_ -- pc_ 30
  have hIx11_ : gi (sm_pI (sm_pI (sm_pR S0_ 8 0 0 (some bb_)) 8 0 1 ((S0_.1 0 bb_ 0) + 2)) 8 0 2 ((S0_.1 0 bb_ 2) * ((S0_.1 0 bb_ 0) + 2))) := gi_pI hIx6_ (show 0 ≤ ((S0_.1 0 bb_ 2) * ((S0_.1 0 bb_ 0) + 2)) ∧ ((S0_.1 0 bb_ 2) * ((S0_.1 0 bb_ 0) + 2)) ≤ 2356 from ⟨by omega, by omega⟩)
  have hFx12_ : ai_fr (sx_W vw_153) S0_ (sm_pI (sm_pI (sm_pR S0_ 8 0 0 (some bb_)) 8 0 1 ((S0_.1 0 bb_ 0) + 2)) 8 0 2 ((S0_.1 0 bb_ 2) * ((S0_.1 0 bb_ 0) + 2))) := ai_fr_tr hFx7_ (ai_fr_pI rfl)
  have hCx13_ : cdf bb_ S0_ (sm_pI (sm_pI (sm_pR S0_ 8 0 0 (some bb_)) 8 0 1 ((S0_.1 0 bb_ 0) + 2)) 8 0 2 ((S0_.1 0 bb_ 2) * ((S0_.1 0 bb_ 0) + 2))) := cdf_pI hCx8_ (Or.inl rfl)
  refine sm_T_go 2 (c1 := (35, [some (.inr (.inr (some (8, 0)))), some (.inr (.inr (some (0, bb_)))), some (.inl a2_), some (.inl a3_), none, none, none], [.inr (.inr (some (8, 0)))], sm_pI (sm_pI (sm_pR S0_ 8 0 0 (some bb_)) 8 0 1 ((S0_.1 0 bb_ 0) + 2)) 8 0 2 ((S0_.1 0 bb_ 2) * ((S0_.1 0 bb_ 0) + 2)))) rfl ?_
  refine sm_T_gr rfl rfl tx3_ ?_
  refine sm_T_go 2 (c1 := (42, [some (.inr (.inr (some (8, 0)))), some (.inr (.inr (some (0, bb_)))), some (.inl a2_), some (.inl a3_), none, none, none], [.inl (-1), .inr (.inr (some (22, (0 + bb_))))], sm_pI (sm_pI (sm_pR S0_ 8 0 0 (some bb_)) 8 0 1 ((S0_.1 0 bb_ 0) + 2)) 8 0 2 ((S0_.1 0 bb_ 2) * ((S0_.1 0 bb_ 0) + 2)))) rfl ?_
  refine sm_T_cal (d1 := 0) (Q1 := vq_2o2 (-1) bb_ (sm_pI (sm_pI (sm_pR S0_ 8 0 0 (some bb_)) 8 0 1 ((S0_.1 0 bb_ 0) + 2)) 8 0 2 ((S0_.1 0 bb_ 2) * ((S0_.1 0 bb_ 0) + 2)))) rfl rfl (by decide) (vc_2o2 (-1) bb_ (sm_pI (sm_pI (sm_pR S0_ 8 0 0 (some bb_)) 8 0 1 ((S0_.1 0 bb_ 0) + 2)) 8 0 2 ((S0_.1 0 bb_ 2) * ((S0_.1 0 bb_ 0) + 2))) hIx11_ (by decide)) (fun u_ Sx14_ px17_ => ?_)
  obtain ⟨rfl, hIx15_, hFx16_, px17_⟩ := px17_
  have hFx18_ : ai_fr (sx_W vw_153) S0_ Sx14_ := ai_fr_tr hFx12_ (fr_le hFx16_ rfl)
  obtain ⟨dx20_, px17_⟩ := px17_
  have hCx19_ : cdf bb_ S0_ Sx14_ := cdf_tr hCx13_ (cdf_cg (by omega) dx20_)
  have tx21_ : Sx14_.2.1 8 0 0 = some bb_ := (hFx16_.2.1 8 0 0 rfl).trans tx3_
  have e42_ := px17_
  have x42_ : Sx14_.1 8 0 1 = S0_.1 0 bb_ 0 + 2 := hFx16_.1 8 0 1 rfl
  have y42_ : Sx14_.1 8 0 2 = S0_.1 0 bb_ 2 * (S0_.1 0 bb_ 0 + 2) := hFx16_.1 8 0 2 rfl
  refine sm_T_go 1 (c1 := (46, [some (.inr (.inr (some (8, 0)))), some (.inr (.inr (some (0, bb_)))), some (.inl a2_), some (.inl a3_), none, none, none], [.inr (.inr (some (8, 0)))], Sx14_)) rfl ?_
  refine sm_T_gr rfl rfl tx21_ ?_
  refine sm_T_go 2 (c1 := (53, [some (.inr (.inr (some (8, 0)))), some (.inr (.inr (some (0, bb_)))), some (.inl a2_), some (.inl a3_), none, none, none], [.inl 0, .inr (.inr (some (23, (0 + bb_))))], Sx14_)) rfl ?_
  refine sm_T_cal (d1 := 0) (Q1 := vq_2o3 0 bb_ Sx14_) rfl rfl (by decide) (vc_2o3 0 bb_ Sx14_ hIx15_ (by decide)) (fun u_ Sx22_ px25_ => ?_)
  obtain ⟨rfl, hIx23_, hFx24_, px25_⟩ := px25_
  have hFx26_ : ai_fr (sx_W vw_153) S0_ Sx22_ := ai_fr_tr hFx18_ (fr_le hFx24_ rfl)
  obtain ⟨dx28_, px25_⟩ := px25_
  have hCx27_ : cdf bb_ S0_ Sx22_ := cdf_tr hCx19_ (cdf_cg (by omega) dx28_)
  have tx29_ : Sx22_.2.1 8 0 0 = some bb_ := (hFx24_.2.1 8 0 0 rfl).trans tx21_
  have e53_ := px25_
  have o53_ := hFx24_.2.2 22 rfl (0 + bb_)
  have x53_ := hFx24_.1 8 0 1 rfl
  have y53_ := hFx24_.1 8 0 2 rfl
  refine sm_T_go 1 (c1 := (57, [some (.inr (.inr (some (8, 0)))), some (.inr (.inr (some (0, bb_)))), some (.inl a2_), some (.inl a3_), none, none, none], [.inr (.inr (some (8, 0)))], Sx22_)) rfl ?_
  refine sm_T_gr rfl rfl tx29_ ?_
  refine sm_T_go 2 (c1 := (64, [some (.inr (.inr (some (8, 0)))), some (.inr (.inr (some (0, bb_)))), some (.inl a2_), some (.inl a3_), none, none, none], [.inl 0, .inr (.inr (some (24, (0 + bb_))))], Sx22_)) rfl ?_
  refine sm_T_cal (d1 := 0) (Q1 := vq_2o4 0 bb_ Sx22_) rfl rfl (by decide) (vc_2o4 0 bb_ Sx22_ hIx23_ (by decide)) (fun u_ Sx30_ px33_ => ?_)
  obtain ⟨rfl, hIx31_, hFx32_, px33_⟩ := px33_
  have hFx34_ : ai_fr (sx_W vw_153) S0_ Sx30_ := ai_fr_tr hFx26_ (fr_le hFx32_ rfl)
  obtain ⟨dx36_, px33_⟩ := px33_
  have hCx35_ : cdf bb_ S0_ Sx30_ := cdf_tr hCx27_ (cdf_cg (by omega) dx36_)
  have tx37_ : Sx30_.2.1 8 0 0 = some bb_ := (hFx32_.2.1 8 0 0 rfl).trans tx29_
  have e64_ := px33_
  have o64_ := hFx32_.2.2 22 rfl (0 + bb_)
  have s64_ := hFx32_.2.2 23 rfl (0 + bb_)
  have x64_ := hFx32_.1 8 0 1 rfl
  have y64_ := hFx32_.1 8 0 2 rfl
  refine sm_T_go 2 (c1 := (69, [some (.inr (.inr (some (8, 0)))), some (.inr (.inr (some (0, bb_)))), some (.inl a2_), some (.inl a3_), none, none, none], [.inl a2_, .inr (.inr (some (8, 0)))], Sx30_)) rfl ?_
  refine sm_T_cal (d1 := 2) (Q1 := vq_154 a2_ bb_ Sx30_) rfl rfl (by decide) (vc_154 a2_ bb_ Sx30_ hIx31_ (by exact tx37_) (by omega) (by exact bpn_fr hn_ hFx34_ rfl rfl rfl rfl)) (fun u_ Sx38_ px41_ => ?_)
  obtain ⟨rfl, hIx39_, hFx40_, px41_⟩ := px41_
  have hFx42_ : ai_fr (sx_W vw_153) S0_ Sx38_ := ai_fr_tr hFx34_ (fr_le hFx40_ rfl)
  have hCx43_ : cdf bb_ S0_ Sx38_ := cdf_tr hCx35_ (cdf_fr hFx40_ rfl)
  have tx44_ : Sx38_.2.1 8 0 0 = some bb_ := (hFx40_.2.1 8 0 0 rfl).trans tx37_
  have o69_ := hFx40_.2.2 22 rfl (0 + bb_)
  have s69_ := hFx40_.2.2 23 rfl (0 + bb_)
  have q69_ := hFx40_.2.2 24 rfl (0 + bb_)
  have x69_ := hFx40_.1 8 0 1 rfl
  have y69_ := hFx40_.1 8 0 2 rfl
  refine sm_T_go 2 (c1 := (74, [some (.inr (.inr (some (8, 0)))), some (.inr (.inr (some (0, bb_)))), some (.inl a2_), some (.inl a3_), none, none, none], [.inl a2_, .inr (.inr (some (8, 0)))], Sx38_)) rfl ?_
  refine sm_T_cal (d1 := 0) (Q1 := vq_155 a2_ bb_ Sx38_) rfl rfl (by decide) (vc_155 a2_ bb_ Sx38_ hIx39_ (by exact tx44_) (by omega)) (fun u_ Sx45_ px48_ => ?_)
  obtain ⟨rfl, hIx46_, hFx47_, px48_⟩ := px48_
  have hFx49_ : ai_fr (sx_W vw_153) S0_ Sx45_ := ai_fr_tr hFx42_ (fr_le hFx47_ rfl)
  have hCx50_ : cdf bb_ S0_ Sx45_ := cdf_tr hCx43_ (cdf_fr hFx47_ rfl)
  have tx51_ : Sx45_.2.1 8 0 0 = some bb_ := (hFx47_.2.1 8 0 0 rfl).trans tx44_
  have r74_ := px48_
  have o74_ := hFx47_.2.2 22 rfl (0 + bb_)
  have s74_ := hFx47_.2.2 23 rfl (0 + bb_)
  have q74_ := hFx47_.2.2 24 rfl (0 + bb_)
  have x74_ := hFx47_.1 8 0 1 rfl
  have y74_ := hFx47_.1 8 0 2 rfl
  have X9_ : Sx45_.1 8 0 1 = S0_.1 0 bb_ 0 + 2 := by rw [x74_, x69_, x64_, x53_, x42_]
  have Y9_ : Sx45_.1 8 0 2 = S0_.1 0 bb_ 2 * (S0_.1 0 bb_ 0 + 2) := by rw [y74_, y69_, y64_, y53_, y42_]
  have O9_ : ∀ p_ : Nat, p_ < 4712 → Sx45_.2.2.1 22 (0 + bb_) p_ = -1 := fun p_ u9_ => by rw [(o74_ p_).1, (o69_ p_).1, (o64_ p_).1, (o53_ p_).1]; exact e42_ p_ u9_
  have T9_ : ∀ p_ : Nat, p_ < 4712 → Sx45_.2.2.1 23 (0 + bb_) p_ = 0 := fun p_ u9_ => by rw [(s74_ p_).1, (s69_ p_).1, (s64_ p_).1]; exact e53_ p_ u9_
  have Q9_ : ∀ p_ : Nat, p_ < 162 → Sx45_.2.2.1 24 (0 + bb_) p_ = 0 := fun p_ u9_ => by rw [(q74_ p_).1, (q69_ p_).1]; exact e64_ p_ u9_
  have m9_ : 1 ≤ S0_.1 0 bb_ 2 * (S0_.1 0 bb_ 0 + 2) := by have m8_ := Int.mul_le_mul (show (1 : Int) ≤ S0_.1 0 bb_ 2 by omega) (show (1 : Int) ≤ S0_.1 0 bb_ 0 + 2 by omega) (by decide) (by omega); omega
  have G9_ : rgw Sx45_ := ⟨by omega, by omega, S0_.1 0 bb_ 2, by rw [X9_, Y9_]⟩
  have P9_ : rpt bb_ Sx45_ := by (have F9_ := hFx49_; exact rpt_of (bpn_fr hn_ F9_ rfl rfl rfl rfl) (bpl_fr hl_ F9_ rfl rfl rfl rfl rfl rfl rfl rfl rfl rfl) (bpp_fr hpp_ F9_) (by rw [F9_.1 0 bb_ 1 rfl]; exact hr_) (by rw [F9_.1 0 bb_ 0 rfl]; exact cs_.1) (fun k9_ => hIx46_.2 18 (0 + bb_) k9_) (fun k9_ => (hIx46_.2 14 (0 + bb_) k9_).1) (fun k9_ => (hIx46_.2 15 (0 + bb_) k9_).1) (by rw [Y9_, F9_.1 0 bb_ 2 rfl, F9_.1 0 bb_ 0 rfl]))
  refine sm_T_go 2 (c1 := (80, [some (.inr (.inr (some (8, 0)))), some (.inr (.inr (some (0, bb_)))), some (.inl a2_), some (.inl a3_), some (.inl 0), none, none], [], Sx45_)) rfl ?_
  refine (vl_153 a2_ a3_ bb_ cc_ S0_ h2_ h3_ hn_ hl_ hpp_ hr_ _).1 0 Sx45_ hIx46_ hFx49_ ⟨?_, ?_, ?_, ?_, ?_, ?_, ?_, ?_, ?_, ?_, ?_, trivial⟩ (Nat.lt_succ_self _)
  · omega
  · exact tx51_
  · exact G9_
  · exact P9_
  · (intro p_ u_ w_; exact absurd (T9_ p_ u_) w_)
  · (intro c_ u_ w_ p_ v_; exact absurd (Q9_ c_ u_) w_)
  · exact r74_.2
  · exact r74_.1
  · (intro p_ u_; rw [O9_ p_ u_]; omega)
  · (intro p_ u_; left; exact O9_ p_ (by have cl9_ := Y9_; omega))
  · exact hCx50_
end
/-! 99.zl1a -/
section
/-! boxes taken; written by wip/p55/gen/vg -/

/-! boxes taken of_ a_ board -/
def tk0 (o_ s_ : Nat → Int) (w_ y_ x_ : Int) : Int := if o_ (y_ * w_ + x_).toNat = -1 then -1 else if 0 < x_ ∧ s_ (y_ * w_ + x_ - 1).toNat % 2 ≠ 0 then -1 else o_ (y_ * w_ + x_).toNat
def tk1 (o_ s_ : Nat → Int) (h_ w_ x_ y_ : Int) : Int := if o_ ((h_ + y_) * (w_ + 2) + x_).toNat = -1 then -1 else if 0 < y_ ∧ i_and (s_ ((h_ + y_) * (w_ + 2) + x_ - w_ - 2).toNat) 2 ≠ 0 then -1 else o_ ((h_ + y_) * (w_ + 2) + x_).toNat
def tk2 (o_ s_ : Nat → Int) (w_ y_ x_ : Int) : Int := if i_and (s_ (y_ * w_ + x_).toNat) 4 = 0 then -1 else o_ (y_ * w_ + x_).toNat
/-- one_ box_ more of_ net_ t_ -/
def nxb9 (ii_ : Nat) (t_ : Int) (S_ S'_ : sm_S) : Prop := ∀ c_ : Nat, S'_.2.2.1 49 (0 + ii_) c_ = S_.2.2.1 49 (0 + ii_) c_ + if t_ = (c_ : Int) then 1 else 0
theorem nxb9_n {ii_ : Nat} {S_ : sm_S} {t_ : Int} (h_ : t_ < 0) : nxb9 ii_ t_ S_ S_ := fun c_ => by rw [if_neg (by omega)]; omega
/-! Layout.forget -/
def vw_68 : sx_Wl := ([(4, 9), (4, 10)], [], [])
def vq_68 (ii_ : Nat) (S0_ : sm_S) (u_ : Option sm_V) (S1_ : sm_S) : Prop := u_ = none ∧ gi S1_ ∧ ai_fr (sx_W vw_68) S0_ S1_ ∧ (cdf ii_ S0_ S1_ ∧ (True))
set_option maxHeartbeats 400000 in
theorem vc_68 {sc_ : Nat × (Nat → Int)} (ii_ : Nat) (S0_ : sm_S) (hI_ : gi S0_)  : sm_T (mt_P sc_) 0 68 (0, [some (.inr (.inr (some (4, ii_))))], [], S0_) (fun ro9_ => ∃ u_ S1_, ro9_ = (.inl u_, S1_, 0) ∧ vq_68 ii_ S0_ u_ S1_) := by
  have hF_ : ai_fr (sx_W vw_68) S0_ S0_ := ai_fr_rf
  have hC_ : cdf ii_ S0_ S0_ := cdf_rf
  have hIx1_ : gi (sm_pI S0_ 4 ii_ 9 0) := gi_pI hI_ (show 0 ≤ 0 ∧ 0 ≤ 1 from ⟨by omega, by omega⟩)
  have hFx2_ : ai_fr (sx_W vw_68) S0_ (sm_pI S0_ 4 ii_ 9 0) := ai_fr_tr hF_ (ai_fr_pI rfl)
  have hCx3_ : cdf ii_ S0_ (sm_pI S0_ 4 ii_ 9 0) := cdf_pI hC_ (Or.inr (by rw [show cof 4 = 0 from rfl] <;> omega))
  have hIx4_ : gi (sm_pI (sm_pI S0_ 4 ii_ 9 0) 4 ii_ 10 0) := gi_pI hIx1_ (show 0 ≤ 0 ∧ 0 ≤ 1 from ⟨by omega, by omega⟩)
  have hFx5_ : ai_fr (sx_W vw_68) S0_ (sm_pI (sm_pI S0_ 4 ii_ 9 0) 4 ii_ 10 0) := ai_fr_tr hFx2_ (ai_fr_pI rfl)
  have hCx6_ : cdf ii_ S0_ (sm_pI (sm_pI S0_ 4 ii_ 9 0) 4 ii_ 10 0) := cdf_pI hCx3_ (Or.inr (by rw [show cof 4 = 0 from rfl] <;> omega))
  refine sm_T_go 6 (c1 := (10, [some (.inr (.inr (some (4, ii_))))], [], sm_pI (sm_pI S0_ 4 ii_ 9 0) 4 ii_ 10 0)) rfl ?_
  refine sm_T_rv rfl ⟨_, _, rfl, rfl, hIx4_, hFx5_, ?_⟩
  refine ⟨hCx6_, ?_⟩
  trivial
end
/-! 99.zl1b -/
section
/-! Layout.setBox -/
def vw_69 : sx_Wl := ([], [48], [])
def vq_69 (a1_ : Int) (a2_ : Int) (a3_ : Int) (a4_ : Int) (a5_ : Int) (a6_ : Int) (ii_ : Nat) (S0_ : sm_S) (u_ : Option sm_V) (S1_ : sm_S) : Prop := u_ = none ∧ gi S1_ ∧ ai_fr (sx_W vw_69) S0_ S1_ ∧ (cdf ii_ S0_ S1_ ∧ (True))
set_option maxHeartbeats 400000 in
theorem vc_69 {sc_ : Nat × (Nat → Int)} (a1_ : Int) (a2_ : Int) (a3_ : Int) (a4_ : Int) (a5_ : Int) (a6_ : Int) (ii_ : Nat) (S0_ : sm_S) (hI_ : gi S0_) (h1_ : 0 ≤ a1_ ∧ a1_ ≤ 1999) (h2_ : 0 ≤ a2_ ∧ a2_ ≤ 2) (h3_ : (-1000) ≤ a3_ ∧ a3_ ≤ 1000) (h4_ : (-1000) ≤ a4_ ∧ a4_ ≤ 1000) (h5_ : (-1000) ≤ a5_ ∧ a5_ ≤ 1000) (h6_ : (-1000) ≤ a6_ ∧ a6_ ≤ 1000) : sm_T (mt_P sc_) 0 69 (0, [some (.inr (.inr (some (4, ii_)))), some (.inl a1_), some (.inl a2_), some (.inl a3_), some (.inl a4_), some (.inl a5_), some (.inl a6_), none], [], S0_) (fun ro9_ => ∃ u_ S1_, ro9_ = (.inl u_, S1_, 0) ∧ vq_69 a1_ a2_ a3_ a4_ a5_ a6_ ii_ S0_ u_ S1_) := by
  have hF_ : ai_fr (sx_W vw_69) S0_ S0_ := ai_fr_rf
  have hC_ : cdf ii_ S0_ S0_ := cdf_rf
  refine sm_T_go 2 (c1 := (2, [some (.inr (.inr (some (4, ii_)))), some (.inl a1_), some (.inl a2_), some (.inl a3_), some (.inl a4_), some (.inl a5_), some (.inl a6_), none], [.inl a1_, .inl 5], S0_)) rfl ?_
  refine sm_T_bin (w := 5 * a1_) rfl (bi_mul (by omega) (by omega) (by omega)) ?_ -- pc_ 2
  refine sm_T_go 5 (c1 := (12, [some (.inr (.inr (some (4, ii_)))), some (.inl a1_), some (.inl a2_), some (.inl a3_), some (.inl a4_), some (.inl a5_), some (.inl a6_), some (.inl (5 * a1_))], [.inl a2_, .inl (5 * a1_), .inr (.inr (some (48, (0 + ii_))))], S0_)) rfl ?_
  refine sm_T_iast (n := 10000) rfl rfl (by omega) (by omega) ?_
  have hIx1_ : gi (sm_aI S0_ 48 (0 + ii_) (5 * a1_).toNat a2_) := gi_aI hI_ (show (-1000) ≤ a2_ ∧ a2_ ≤ 1000 from ⟨by omega, by omega⟩)
  have hFx2_ : ai_fr (sx_W vw_69) S0_ (sm_aI S0_ 48 (0 + ii_) (5 * a1_).toNat a2_) := ai_fr_tr hF_ (ai_fr_aI rfl)
  have hCx3_ : cdf ii_ S0_ (sm_aI S0_ 48 (0 + ii_) (5 * a1_).toNat a2_) := cdf_aI hC_ (Or.inr (by rw [show cof 48 = 0 from rfl] <;> omega))
  refine sm_T_go 4 (c1 := (20, [some (.inr (.inr (some (4, ii_)))), some (.inl a1_), some (.inl a2_), some (.inl a3_), some (.inl a4_), some (.inl a5_), some (.inl a6_), some (.inl (5 * a1_))], [.inl 1, .inl (5 * a1_), .inr (.inr (some (48, (0 + ii_))))], sm_aI S0_ 48 (0 + ii_) (5 * a1_).toNat a2_)) rfl ?_
  refine sm_T_bin (w := 5 * a1_ + 1) rfl (bi_add (by omega) (by omega) (by omega)) ?_ -- pc_ 20
  refine sm_T_go 1 (c1 := (22, [some (.inr (.inr (some (4, ii_)))), some (.inl a1_), some (.inl a2_), some (.inl a3_), some (.inl a4_), some (.inl a5_), some (.inl a6_), some (.inl (5 * a1_))], [.inl a3_, .inl (5 * a1_ + 1), .inr (.inr (some (48, (0 + ii_))))], sm_aI S0_ 48 (0 + ii_) (5 * a1_).toNat a2_)) rfl ?_
  refine sm_T_iast (n := 10000) rfl rfl (by omega) (by omega) ?_
  have hIx4_ : gi (sm_aI (sm_aI S0_ 48 (0 + ii_) (5 * a1_).toNat a2_) 48 (0 + ii_) (5 * a1_ + 1).toNat a3_) := gi_aI hIx1_ (show (-1000) ≤ a3_ ∧ a3_ ≤ 1000 from ⟨by omega, by omega⟩)
  have hFx5_ : ai_fr (sx_W vw_69) S0_ (sm_aI (sm_aI S0_ 48 (0 + ii_) (5 * a1_).toNat a2_) 48 (0 + ii_) (5 * a1_ + 1).toNat a3_) := ai_fr_tr hFx2_ (ai_fr_aI rfl)
  have hCx6_ : cdf ii_ S0_ (sm_aI (sm_aI S0_ 48 (0 + ii_) (5 * a1_).toNat a2_) 48 (0 + ii_) (5 * a1_ + 1).toNat a3_) := cdf_aI hCx3_ (Or.inr (by rw [show cof 48 = 0 from rfl] <;> omega))
  refine sm_T_go 4 (c1 := (30, [some (.inr (.inr (some (4, ii_)))), some (.inl a1_), some (.inl a2_), some (.inl a3_), some (.inl a4_), some (.inl a5_), some (.inl a6_), some (.inl (5 * a1_))], [.inl 2, .inl (5 * a1_), .inr (.inr (some (48, (0 + ii_))))], sm_aI (sm_aI S0_ 48 (0 + ii_) (5 * a1_).toNat a2_) 48 (0 + ii_) (5 * a1_ + 1).toNat a3_)) rfl ?_
  refine sm_T_bin (w := 5 * a1_ + 2) rfl (bi_add (by omega) (by omega) (by omega)) ?_ -- pc_ 30
  refine sm_T_go 1 (c1 := (33, [some (.inr (.inr (some (4, ii_)))), some (.inl a1_), some (.inl a2_), some (.inl a3_), some (.inl a4_), some (.inl a5_), some (.inl a6_), some (.inl (5 * a1_))], [.inl a4_, .inl (5 * a1_ + 2), .inr (.inr (some (48, (0 + ii_))))], sm_aI (sm_aI S0_ 48 (0 + ii_) (5 * a1_).toNat a2_) 48 (0 + ii_) (5 * a1_ + 1).toNat a3_)) rfl ?_
  refine sm_T_iast (n := 10000) rfl rfl (by omega) (by omega) ?_
  have hIx7_ : gi (sm_aI (sm_aI (sm_aI S0_ 48 (0 + ii_) (5 * a1_).toNat a2_) 48 (0 + ii_) (5 * a1_ + 1).toNat a3_) 48 (0 + ii_) (5 * a1_ + 2).toNat a4_) := gi_aI hIx4_ (show (-1000) ≤ a4_ ∧ a4_ ≤ 1000 from ⟨by omega, by omega⟩)
  have hFx8_ : ai_fr (sx_W vw_69) S0_ (sm_aI (sm_aI (sm_aI S0_ 48 (0 + ii_) (5 * a1_).toNat a2_) 48 (0 + ii_) (5 * a1_ + 1).toNat a3_) 48 (0 + ii_) (5 * a1_ + 2).toNat a4_) := ai_fr_tr hFx5_ (ai_fr_aI rfl)
  have hCx9_ : cdf ii_ S0_ (sm_aI (sm_aI (sm_aI S0_ 48 (0 + ii_) (5 * a1_).toNat a2_) 48 (0 + ii_) (5 * a1_ + 1).toNat a3_) 48 (0 + ii_) (5 * a1_ + 2).toNat a4_) := cdf_aI hCx6_ (Or.inr (by rw [show cof 48 = 0 from rfl] <;> omega))
  refine sm_T_go 4 (c1 := (41, [some (.inr (.inr (some (4, ii_)))), some (.inl a1_), some (.inl a2_), some (.inl a3_), some (.inl a4_), some (.inl a5_), some (.inl a6_), some (.inl (5 * a1_))], [.inl 3, .inl (5 * a1_), .inr (.inr (some (48, (0 + ii_))))], sm_aI (sm_aI (sm_aI S0_ 48 (0 + ii_) (5 * a1_).toNat a2_) 48 (0 + ii_) (5 * a1_ + 1).toNat a3_) 48 (0 + ii_) (5 * a1_ + 2).toNat a4_)) rfl ?_
  refine sm_T_bin (w := 5 * a1_ + 3) rfl (bi_add (by omega) (by omega) (by omega)) ?_ -- pc_ 41
  refine sm_T_go 1 (c1 := (44, [some (.inr (.inr (some (4, ii_)))), some (.inl a1_), some (.inl a2_), some (.inl a3_), some (.inl a4_), some (.inl a5_), some (.inl a6_), some (.inl (5 * a1_))], [.inl a5_, .inl (5 * a1_ + 3), .inr (.inr (some (48, (0 + ii_))))], sm_aI (sm_aI (sm_aI S0_ 48 (0 + ii_) (5 * a1_).toNat a2_) 48 (0 + ii_) (5 * a1_ + 1).toNat a3_) 48 (0 + ii_) (5 * a1_ + 2).toNat a4_)) rfl ?_
  refine sm_T_iast (n := 10000) rfl rfl (by omega) (by omega) ?_
  have hIx10_ : gi (sm_aI (sm_aI (sm_aI (sm_aI S0_ 48 (0 + ii_) (5 * a1_).toNat a2_) 48 (0 + ii_) (5 * a1_ + 1).toNat a3_) 48 (0 + ii_) (5 * a1_ + 2).toNat a4_) 48 (0 + ii_) (5 * a1_ + 3).toNat a5_) := gi_aI hIx7_ (show (-1000) ≤ a5_ ∧ a5_ ≤ 1000 from ⟨by omega, by omega⟩)
  have hFx11_ : ai_fr (sx_W vw_69) S0_ (sm_aI (sm_aI (sm_aI (sm_aI S0_ 48 (0 + ii_) (5 * a1_).toNat a2_) 48 (0 + ii_) (5 * a1_ + 1).toNat a3_) 48 (0 + ii_) (5 * a1_ + 2).toNat a4_) 48 (0 + ii_) (5 * a1_ + 3).toNat a5_) := ai_fr_tr hFx8_ (ai_fr_aI rfl)
  have hCx12_ : cdf ii_ S0_ (sm_aI (sm_aI (sm_aI (sm_aI S0_ 48 (0 + ii_) (5 * a1_).toNat a2_) 48 (0 + ii_) (5 * a1_ + 1).toNat a3_) 48 (0 + ii_) (5 * a1_ + 2).toNat a4_) 48 (0 + ii_) (5 * a1_ + 3).toNat a5_) := cdf_aI hCx9_ (Or.inr (by rw [show cof 48 = 0 from rfl] <;> omega))
  refine sm_T_go 4 (c1 := (52, [some (.inr (.inr (some (4, ii_)))), some (.inl a1_), some (.inl a2_), some (.inl a3_), some (.inl a4_), some (.inl a5_), some (.inl a6_), some (.inl (5 * a1_))], [.inl 4, .inl (5 * a1_), .inr (.inr (some (48, (0 + ii_))))], sm_aI (sm_aI (sm_aI (sm_aI S0_ 48 (0 + ii_) (5 * a1_).toNat a2_) 48 (0 + ii_) (5 * a1_ + 1).toNat a3_) 48 (0 + ii_) (5 * a1_ + 2).toNat a4_) 48 (0 + ii_) (5 * a1_ + 3).toNat a5_)) rfl ?_
  refine sm_T_bin (w := 5 * a1_ + 4) rfl (bi_add (by omega) (by omega) (by omega)) ?_ -- pc_ 52
  refine sm_T_go 1 (c1 := (55, [some (.inr (.inr (some (4, ii_)))), some (.inl a1_), some (.inl a2_), some (.inl a3_), some (.inl a4_), some (.inl a5_), some (.inl a6_), some (.inl (5 * a1_))], [.inl a6_, .inl (5 * a1_ + 4), .inr (.inr (some (48, (0 + ii_))))], sm_aI (sm_aI (sm_aI (sm_aI S0_ 48 (0 + ii_) (5 * a1_).toNat a2_) 48 (0 + ii_) (5 * a1_ + 1).toNat a3_) 48 (0 + ii_) (5 * a1_ + 2).toNat a4_) 48 (0 + ii_) (5 * a1_ + 3).toNat a5_)) rfl ?_
  refine sm_T_iast (n := 10000) rfl rfl (by omega) (by omega) ?_
  have hIx13_ : gi (sm_aI (sm_aI (sm_aI (sm_aI (sm_aI S0_ 48 (0 + ii_) (5 * a1_).toNat a2_) 48 (0 + ii_) (5 * a1_ + 1).toNat a3_) 48 (0 + ii_) (5 * a1_ + 2).toNat a4_) 48 (0 + ii_) (5 * a1_ + 3).toNat a5_) 48 (0 + ii_) (5 * a1_ + 4).toNat a6_) := gi_aI hIx10_ (show (-1000) ≤ a6_ ∧ a6_ ≤ 1000 from ⟨by omega, by omega⟩)
  have hFx14_ : ai_fr (sx_W vw_69) S0_ (sm_aI (sm_aI (sm_aI (sm_aI (sm_aI S0_ 48 (0 + ii_) (5 * a1_).toNat a2_) 48 (0 + ii_) (5 * a1_ + 1).toNat a3_) 48 (0 + ii_) (5 * a1_ + 2).toNat a4_) 48 (0 + ii_) (5 * a1_ + 3).toNat a5_) 48 (0 + ii_) (5 * a1_ + 4).toNat a6_) := ai_fr_tr hFx11_ (ai_fr_aI rfl)
  have hCx15_ : cdf ii_ S0_ (sm_aI (sm_aI (sm_aI (sm_aI (sm_aI S0_ 48 (0 + ii_) (5 * a1_).toNat a2_) 48 (0 + ii_) (5 * a1_ + 1).toNat a3_) 48 (0 + ii_) (5 * a1_ + 2).toNat a4_) 48 (0 + ii_) (5 * a1_ + 3).toNat a5_) 48 (0 + ii_) (5 * a1_ + 4).toNat a6_) := cdf_aI hCx12_ (Or.inr (by rw [show cof 48 = 0 from rfl] <;> omega))
  refine sm_T_rv rfl ⟨_, _, rfl, rfl, hIx13_, hFx14_, ?_⟩
  refine ⟨hCx15_, ?_⟩
  trivial
end
/-! 99.zl1c -/
section
/-! Layout.removeBox -/
def vw_70 : sx_Wl := ([(4, 1), (4, 9), (4, 10)], [48], [])
def vq_70 (a1_ : Int) (ii_ : Nat) (S0_ : sm_S) (u_ : Option sm_V) (S1_ : sm_S) : Prop := u_ = none ∧ gi S1_ ∧ ai_fr (sx_W vw_70) S0_ S1_ ∧ (cdf ii_ S0_ S1_ ∧ (True))
set_option maxHeartbeats 400000 in
theorem vc_70 {sc_ : Nat × (Nat → Int)} (a1_ : Int) (ii_ : Nat) (S0_ : sm_S) (hI_ : gi S0_) (h1_ : 0 ≤ a1_ ∧ a1_ < S0_.1 4 ii_ 1) : sm_T (mt_P sc_) 1 70 (0, [some (.inr (.inr (some (4, ii_)))), some (.inl a1_), none], [], S0_) (fun ro9_ => ∃ u_ S1_, ro9_ = (.inl u_, S1_, 0) ∧ vq_70 a1_ ii_ S0_ u_ S1_) := by
  have hF_ : ai_fr (sx_W vw_70) S0_ S0_ := ai_fr_rf
  have hC_ : cdf ii_ S0_ S0_ := cdf_rf
  have bx1_ : 0 ≤ S0_.1 4 ii_ 1 ∧ S0_.1 4 ii_ 1 ≤ 2000 := hI_.1 4 ii_ 1 rfl
  refine sm_T_go 3 (c1 := (5, [some (.inr (.inr (some (4, ii_)))), some (.inl a1_), none], [.inl 1, .inl (S0_.1 4 ii_ 1)], S0_)) rfl ?_
  refine sm_T_bin (w := (S0_.1 4 ii_ 1) - 1) rfl (bi_sub (by omega) (by omega) (by omega)) ?_ -- pc_ 5
  refine sm_T_go 1 (c1 := (7, [some (.inr (.inr (some (4, ii_)))), some (.inl a1_), none], [.inl a1_, .inl ((S0_.1 4 ii_ 1) - 1)], S0_)) rfl ?_
  refine sm_T_bin (w := (S0_.1 4 ii_ 1) - a1_ - 1) rfl (bi_sub (by omega) (by omega) (by omega)) ?_ -- pc_ 7
  refine sm_T_go 6 (c1 := (16, [some (.inr (.inr (some (4, ii_)))), some (.inl a1_), some (.inl ((S0_.1 4 ii_ 1) - a1_ - 1))], [.inl 1, .inl a1_, .inl 5, .inr (.inr (some (48, (0 + ii_))))], S0_)) rfl ?_
  refine sm_T_bin (w := a1_ + 1) rfl (bi_add (by omega) (by omega) (by omega)) ?_ -- pc_ 16
  refine sm_T_bin (w := 5 * a1_ + 5) rfl (bi_mul (by omega) (by omega) (by omega)) ?_ -- pc_ 17
  refine sm_T_go 4 (c1 := (24, [some (.inr (.inr (some (4, ii_)))), some (.inl a1_), some (.inl ((S0_.1 4 ii_ 1) - a1_ - 1))], [.inl a1_, .inl 5, .inr (.inr (some (48, (0 + ii_)))), .inl (5 * a1_ + 5), .inr (.inr (some (48, (0 + ii_))))], S0_)) rfl ?_
  refine sm_T_bin (w := 5 * a1_) rfl (bi_mul (by omega) (by omega) (by omega)) ?_ -- pc_ 24
  refine sm_T_go 2 (c1 := (27, [some (.inr (.inr (some (4, ii_)))), some (.inl a1_), some (.inl ((S0_.1 4 ii_ 1) - a1_ - 1))], [.inl ((S0_.1 4 ii_ 1) - a1_ - 1), .inl 5, .inl (5 * a1_), .inr (.inr (some (48, (0 + ii_)))), .inl (5 * a1_ + 5), .inr (.inr (some (48, (0 + ii_))))], S0_)) rfl ?_
  refine sm_T_bin (w := 5 * (S0_.1 4 ii_ 1) - 5 * a1_ - 5) rfl (bi_mul (by omega) (by omega) (by omega)) ?_ -- pc_ 27
  refine sm_T_nt (u := none) (S1 := sm_acI S0_ 48 (0 + ii_) 48 (0 + ii_) (5 * a1_ + 5).toNat (5 * a1_).toNat (5 * (S0_.1 4 ii_ 1) - 5 * a1_ - 5).toNat) rfl rfl (nt_acI (sc := sc_) (t := 48) (i := (0 + ii_)) (t' := 48) (i' := (0 + ii_)) (x := 5 * a1_ + 5) (y := 5 * a1_) (m := 5 * (S0_.1 4 ii_ 1) - 5 * a1_ - 5) (n := 10000) (n1 := 10000) rfl rfl (by omega) (by omega) (by omega) (by omega) (by omega)) ?_
  have hIx2_ : gi (sm_acI S0_ 48 (0 + ii_) 48 (0 + ii_) (5 * a1_ + 5).toNat (5 * a1_).toNat (5 * (S0_.1 4 ii_ 1) - 5 * a1_ - 5).toNat) := gi_ac hI_ (by decide) (by decide)
  have hFx3_ : ai_fr (sx_W vw_70) S0_ (sm_acI S0_ 48 (0 + ii_) 48 (0 + ii_) (5 * a1_ + 5).toNat (5 * a1_).toNat (5 * (S0_.1 4 ii_ 1) - 5 * a1_ - 5).toNat) := ai_fr_tr hF_ (fr_ac rfl)
  have hCx4_ : cdf ii_ S0_ (sm_acI S0_ 48 (0 + ii_) 48 (0 + ii_) (5 * a1_ + 5).toNat (5 * a1_).toNat (5 * (S0_.1 4 ii_ 1) - 5 * a1_ - 5).toNat) := cdf_ac hC_ (Or.inr (by rw [show cof 48 = 0 from rfl] <;> omega))
  refine sm_T_go 4 (c1 := (37, [some (.inr (.inr (some (4, ii_)))), some (.inl a1_), some (.inl ((S0_.1 4 ii_ 1) - a1_ - 1))], [.inl 1, .inl (S0_.1 4 ii_ 1), .inr (.inr (some (4, ii_)))], sm_acI S0_ 48 (0 + ii_) 48 (0 + ii_) (5 * a1_ + 5).toNat (5 * a1_).toNat (5 * (S0_.1 4 ii_ 1) - 5 * a1_ - 5).toNat)) rfl ?_
  refine sm_T_bin (w := (S0_.1 4 ii_ 1) - 1) rfl (bi_sub (by omega) (by omega) (by omega)) ?_ -- pc_ 37
  have hIx5_ : gi (sm_pI (sm_acI S0_ 48 (0 + ii_) 48 (0 + ii_) (5 * a1_ + 5).toNat (5 * a1_).toNat (5 * (S0_.1 4 ii_ 1) - 5 * a1_ - 5).toNat) 4 ii_ 1 ((S0_.1 4 ii_ 1) - 1)) := gi_pI hIx2_ (show 0 ≤ (S0_.1 4 ii_ 1) - 1 ∧ (S0_.1 4 ii_ 1) - 1 ≤ 2000 from ⟨by omega, by omega⟩)
  have hFx6_ : ai_fr (sx_W vw_70) S0_ (sm_pI (sm_acI S0_ 48 (0 + ii_) 48 (0 + ii_) (5 * a1_ + 5).toNat (5 * a1_).toNat (5 * (S0_.1 4 ii_ 1) - 5 * a1_ - 5).toNat) 4 ii_ 1 ((S0_.1 4 ii_ 1) - 1)) := ai_fr_tr hFx3_ (ai_fr_pI rfl)
  have hCx7_ : cdf ii_ S0_ (sm_pI (sm_acI S0_ 48 (0 + ii_) 48 (0 + ii_) (5 * a1_ + 5).toNat (5 * a1_).toNat (5 * (S0_.1 4 ii_ 1) - 5 * a1_ - 5).toNat) 4 ii_ 1 ((S0_.1 4 ii_ 1) - 1)) := cdf_pI hCx4_ (Or.inr (by rw [show cof 4 = 0 from rfl] <;> omega))
  refine sm_T_go 2 (c1 := (42, [some (.inr (.inr (some (4, ii_)))), some (.inl a1_), some (.inl ((S0_.1 4 ii_ 1) - a1_ - 1))], [.inr (.inr (some (4, ii_)))], sm_pI (sm_acI S0_ 48 (0 + ii_) 48 (0 + ii_) (5 * a1_ + 5).toNat (5 * a1_).toNat (5 * (S0_.1 4 ii_ 1) - 5 * a1_ - 5).toNat) 4 ii_ 1 ((S0_.1 4 ii_ 1) - 1))) rfl ?_
  refine sm_T_cal (d1 := 0) (Q1 := vq_68 ii_ (sm_pI (sm_acI S0_ 48 (0 + ii_) 48 (0 + ii_) (5 * a1_ + 5).toNat (5 * a1_).toNat (5 * (S0_.1 4 ii_ 1) - 5 * a1_ - 5).toNat) 4 ii_ 1 ((S0_.1 4 ii_ 1) - 1))) rfl rfl (by decide) (vc_68 ii_ (sm_pI (sm_acI S0_ 48 (0 + ii_) 48 (0 + ii_) (5 * a1_ + 5).toNat (5 * a1_).toNat (5 * (S0_.1 4 ii_ 1) - 5 * a1_ - 5).toNat) 4 ii_ 1 ((S0_.1 4 ii_ 1) - 1)) hIx5_ ) (fun u_ Sx8_ px11_ => ?_)
  obtain ⟨rfl, hIx9_, hFx10_, px11_⟩ := px11_
  have hFx12_ : ai_fr (sx_W vw_70) S0_ Sx8_ := ai_fr_tr hFx6_ (fr_le hFx10_ rfl)
  obtain ⟨dx14_, px11_⟩ := px11_
  have hCx13_ : cdf ii_ S0_ Sx8_ := cdf_tr hCx7_ (cdf_cg (by omega) dx14_)
  refine sm_T_rv rfl ⟨_, _, rfl, rfl, hIx9_, hFx12_, ?_⟩
  refine ⟨hCx13_, ?_⟩
  trivial
end
/-! 99.zl1d -/
section
/-! Layout.takeBox -/
def vw_75 : sx_Wl := ([], [48, 49], [])
def vq_75 (a1_ : Int) (a2_ : Int) (a3_ : Int) (a4_ : Int) (a5_ : Int) (a6_ : Int) (ii_ : Nat) (S0_ : sm_S) (u_ : Option sm_V) (S1_ : sm_S) : Prop := u_ = none ∧ gi S1_ ∧ ai_fr (sx_W vw_75) S0_ S1_ ∧ (cdf ii_ S0_ S1_ ∧ (nxb9 ii_ a1_ S0_ S1_))
set_option maxHeartbeats 400000 in
theorem vc_75 {sc_ : Nat × (Nat → Int)} (a1_ : Int) (a2_ : Int) (a3_ : Int) (a4_ : Int) (a5_ : Int) (a6_ : Int) (ii_ : Nat) (S0_ : sm_S) (hI_ : gi S0_) (h1_ : 0 ≤ a1_ ∧ a1_ ≤ 161) (h2_ : 0 ≤ a2_ ∧ a2_ ≤ 2) (h3_ : 0 ≤ a3_ ∧ a3_ ≤ 61 ∧ 0 ≤ a4_ ∧ a4_ ≤ 61 ∧ 0 ≤ a5_ ∧ a5_ ≤ 61 ∧ 0 ≤ a6_ ∧ a6_ ≤ 61) (hw_ : S0_.1 4 ii_ 11 ≠ 0 → S0_.2.2.1 49 (0 + ii_) a1_.toNat ≤ 1999) (hx_ : S0_.2.2.1 49 (0 + ii_) a1_.toNat ≤ 19999) : sm_T (mt_P sc_) 1 75 (0, [some (.inr (.inr (some (4, ii_)))), some (.inl a1_), some (.inl a2_), some (.inl a3_), some (.inl a4_), some (.inl a5_), some (.inl a6_)], [], S0_) (fun ro9_ => ∃ u_ S1_, ro9_ = (.inl u_, S1_, 0) ∧ vq_75 a1_ a2_ a3_ a4_ a5_ a6_ ii_ S0_ u_ S1_) := by
  have hF_ : ai_fr (sx_W vw_75) S0_ S0_ := ai_fr_rf
  have hC_ : cdf ii_ S0_ S0_ := cdf_rf
  have bx1_ : 0 ≤ S0_.1 4 ii_ 11 ∧ S0_.1 4 ii_ 11 ≤ 1 := hI_.1 4 ii_ 11 rfl
  refine sm_T_go 2 (c1 := (4, [some (.inr (.inr (some (4, ii_)))), some (.inl a1_), some (.inl a2_), some (.inl a3_), some (.inl a4_), some (.inl a5_), some (.inl a6_)], [.inl (S0_.1 4 ii_ 11)], S0_)) rfl ?_
  refine sm_T_b0 (a := 0) (z := 37) rfl (fun cx2_ => ?_) (fun cx2_ => ?_)
  · have cx2_ : (S0_.1 4 ii_ 11) = 0 := of_decide_eq_true cx2_
    refine sm_T_go 4 (c1 := (47, [some (.inr (.inr (some (4, ii_)))), some (.inl a1_), some (.inl a2_), some (.inl a3_), some (.inl a4_), some (.inl a5_), some (.inl a6_)], [.inl a1_, .inr (.inr (some (49, (0 + ii_)))), .inl a1_, .inr (.inr (some (49, (0 + ii_))))], S0_)) rfl ?_
    refine sm_T_iald (n := 162) rfl rfl (by omega) (by omega) ?_
    have bx3_ : 0 ≤ S0_.2.2.1 49 (0 + ii_) a1_.toNat ∧ S0_.2.2.1 49 (0 + ii_) a1_.toNat ≤ 20000 := hI_.2 49 (0 + ii_) _
    refine sm_T_go 1 (c1 := (49, [some (.inr (.inr (some (4, ii_)))), some (.inl a1_), some (.inl a2_), some (.inl a3_), some (.inl a4_), some (.inl a5_), some (.inl a6_)], [.inl 1, .inl (S0_.2.2.1 49 (0 + ii_) a1_.toNat), .inl a1_, .inr (.inr (some (49, (0 + ii_))))], S0_)) rfl ?_
    refine sm_T_bin (w := (S0_.2.2.1 49 (0 + ii_) a1_.toNat) + 1) rfl (bi_add (by omega) (by omega) (by omega)) ?_ -- pc_ 49
    refine sm_T_iast (n := 162) rfl rfl (by omega) (by omega) ?_
    have hIx4_ : gi (sm_aI S0_ 49 (0 + ii_) a1_.toNat ((S0_.2.2.1 49 (0 + ii_) a1_.toNat) + 1)) := gi_aI hI_ (show 0 ≤ (S0_.2.2.1 49 (0 + ii_) a1_.toNat) + 1 ∧ (S0_.2.2.1 49 (0 + ii_) a1_.toNat) + 1 ≤ 20000 from ⟨by omega, by omega⟩)
    have hFx5_ : ai_fr (sx_W vw_75) S0_ (sm_aI S0_ 49 (0 + ii_) a1_.toNat ((S0_.2.2.1 49 (0 + ii_) a1_.toNat) + 1)) := ai_fr_tr hF_ (ai_fr_aI rfl)
    have hCx6_ : cdf ii_ S0_ (sm_aI S0_ 49 (0 + ii_) a1_.toNat ((S0_.2.2.1 49 (0 + ii_) a1_.toNat) + 1)) := cdf_aI hC_ (Or.inr (by rw [show cof 49 = 0 from rfl] <;> omega))
    refine sm_T_rv rfl ⟨_, _, rfl, rfl, hIx4_, hFx5_, ?_⟩
    refine ⟨hCx6_, ?_⟩
    intro c_
    rw [rd_eq]
    by_cases z_ : c_ = a1_.toNat
    · rw [if_pos z_, if_pos (by omega), z_] <;> first | rfl | (rw [f49_])
    · rw [if_neg z_, if_neg (by omega)] <;> first | omega | (rw [f49_]; omega)
  · have cx2_ : ¬ ((S0_.1 4 ii_ 11) = 0) := of_decide_eq_false cx2_
    have hw9_ := hw_ (by omega)
    refine sm_T_go 4 (c1 := (13, [some (.inr (.inr (some (4, ii_)))), some (.inl a1_), some (.inl a2_), some (.inl a3_), some (.inl a4_), some (.inl a5_), some (.inl a6_)], [.inl a1_, .inr (.inr (some (49, (0 + ii_)))), .inr (.inr (some (4, ii_)))], S0_)) rfl ?_
    refine sm_T_iald (n := 162) rfl rfl (by omega) (by omega) ?_
    have bx7_ : 0 ≤ S0_.2.2.1 49 (0 + ii_) a1_.toNat ∧ S0_.2.2.1 49 (0 + ii_) a1_.toNat ≤ 20000 := hI_.2 49 (0 + ii_) _
    refine sm_T_go 3 (c1 := (17, [some (.inr (.inr (some (4, ii_)))), some (.inl a1_), some (.inl a2_), some (.inl a3_), some (.inl a4_), some (.inl a5_), some (.inl a6_)], [.inl a3_, .inl 4, .inl a2_, .inl (S0_.2.2.1 49 (0 + ii_) a1_.toNat), .inr (.inr (some (4, ii_)))], S0_)) rfl ?_
    refine sm_T_bin (w := 4 * a3_) rfl (bi_mul (by omega) (by omega) (by omega)) ?_ -- pc_ 17
    refine sm_T_go 1 (c1 := (19, [some (.inr (.inr (some (4, ii_)))), some (.inl a1_), some (.inl a2_), some (.inl a3_), some (.inl a4_), some (.inl a5_), some (.inl a6_)], [.inl 1, .inl (4 * a3_), .inl a2_, .inl (S0_.2.2.1 49 (0 + ii_) a1_.toNat), .inr (.inr (some (4, ii_)))], S0_)) rfl ?_
    refine sm_T_bin (w := 4 * a3_ - 1) rfl (bi_sub (by omega) (by omega) (by omega)) ?_ -- pc_ 19
    refine sm_T_go 2 (c1 := (23, [some (.inr (.inr (some (4, ii_)))), some (.inl a1_), some (.inl a2_), some (.inl a3_), some (.inl a4_), some (.inl a5_), some (.inl a6_)], [.inl a4_, .inl 4, .inl (4 * a3_ - 1), .inl a2_, .inl (S0_.2.2.1 49 (0 + ii_) a1_.toNat), .inr (.inr (some (4, ii_)))], S0_)) rfl ?_
    refine sm_T_bin (w := 4 * a4_) rfl (bi_mul (by omega) (by omega) (by omega)) ?_ -- pc_ 23
    refine sm_T_go 1 (c1 := (25, [some (.inr (.inr (some (4, ii_)))), some (.inl a1_), some (.inl a2_), some (.inl a3_), some (.inl a4_), some (.inl a5_), some (.inl a6_)], [.inl 1, .inl (4 * a4_), .inl (4 * a3_ - 1), .inl a2_, .inl (S0_.2.2.1 49 (0 + ii_) a1_.toNat), .inr (.inr (some (4, ii_)))], S0_)) rfl ?_
    refine sm_T_bin (w := 4 * a4_ - 1) rfl (bi_sub (by omega) (by omega) (by omega)) ?_ -- pc_ 25
    refine sm_T_go 2 (c1 := (29, [some (.inr (.inr (some (4, ii_)))), some (.inl a1_), some (.inl a2_), some (.inl a3_), some (.inl a4_), some (.inl a5_), some (.inl a6_)], [.inl a5_, .inl 4, .inl (4 * a4_ - 1), .inl (4 * a3_ - 1), .inl a2_, .inl (S0_.2.2.1 49 (0 + ii_) a1_.toNat), .inr (.inr (some (4, ii_)))], S0_)) rfl ?_
    refine sm_T_bin (w := 4 * a5_) rfl (bi_mul (by omega) (by omega) (by omega)) ?_ -- pc_ 29
    refine sm_T_go 1 (c1 := (31, [some (.inr (.inr (some (4, ii_)))), some (.inl a1_), some (.inl a2_), some (.inl a3_), some (.inl a4_), some (.inl a5_), some (.inl a6_)], [.inl 1, .inl (4 * a5_), .inl (4 * a4_ - 1), .inl (4 * a3_ - 1), .inl a2_, .inl (S0_.2.2.1 49 (0 + ii_) a1_.toNat), .inr (.inr (some (4, ii_)))], S0_)) rfl ?_
    refine sm_T_bin (w := 4 * a5_ + 1) rfl (bi_add (by omega) (by omega) (by omega)) ?_ -- pc_ 31
    refine sm_T_go 2 (c1 := (35, [some (.inr (.inr (some (4, ii_)))), some (.inl a1_), some (.inl a2_), some (.inl a3_), some (.inl a4_), some (.inl a5_), some (.inl a6_)], [.inl a6_, .inl 4, .inl (4 * a5_ + 1), .inl (4 * a4_ - 1), .inl (4 * a3_ - 1), .inl a2_, .inl (S0_.2.2.1 49 (0 + ii_) a1_.toNat), .inr (.inr (some (4, ii_)))], S0_)) rfl ?_
    refine sm_T_bin (w := 4 * a6_) rfl (bi_mul (by omega) (by omega) (by omega)) ?_ -- pc_ 35
    refine sm_T_go 1 (c1 := (37, [some (.inr (.inr (some (4, ii_)))), some (.inl a1_), some (.inl a2_), some (.inl a3_), some (.inl a4_), some (.inl a5_), some (.inl a6_)], [.inl 1, .inl (4 * a6_), .inl (4 * a5_ + 1), .inl (4 * a4_ - 1), .inl (4 * a3_ - 1), .inl a2_, .inl (S0_.2.2.1 49 (0 + ii_) a1_.toNat), .inr (.inr (some (4, ii_)))], S0_)) rfl ?_
    refine sm_T_bin (w := 4 * a6_ + 1) rfl (bi_add (by omega) (by omega) (by omega)) ?_ -- pc_ 37
    refine sm_T_cal (d1 := 0) (Q1 := vq_69 (S0_.2.2.1 49 (0 + ii_) a1_.toNat) a2_ (4 * a3_ - 1) (4 * a4_ - 1) (4 * a5_ + 1) (4 * a6_ + 1) ii_ S0_) rfl rfl (by decide) (vc_69 (S0_.2.2.1 49 (0 + ii_) a1_.toNat) a2_ (4 * a3_ - 1) (4 * a4_ - 1) (4 * a5_ + 1) (4 * a6_ + 1) ii_ S0_ hI_ (by omega) (by omega) (by omega) (by omega) (by omega) (by omega)) (fun u_ Sx8_ px11_ => ?_)
    obtain ⟨rfl, hIx9_, hFx10_, px11_⟩ := px11_
    have hFx12_ : ai_fr (sx_W vw_75) S0_ Sx8_ := ai_fr_tr hF_ (fr_le hFx10_ rfl)
    obtain ⟨dx14_, px11_⟩ := px11_
    have hCx13_ : cdf ii_ S0_ Sx8_ := cdf_tr hC_ (cdf_cg (by omega) dx14_)
    have ex15_ : Sx8_.1 4 ii_ 11 = S0_.1 4 ii_ 11 := hFx10_.1 4 ii_ 11 rfl
    have f49_ : Sx8_.2.2.1 49 (0 + ii_) = S0_.2.2.1 49 (0 + ii_) := fr_arr hFx10_ rfl
    have f48_ : Sx8_.2.2.1 49 (0 + ii_) a1_.toNat = S0_.2.2.1 49 (0 + ii_) a1_.toNat := by rw [f49_]
    refine sm_T_go 4 (c1 := (47, [some (.inr (.inr (some (4, ii_)))), some (.inl a1_), some (.inl a2_), some (.inl a3_), some (.inl a4_), some (.inl a5_), some (.inl a6_)], [.inl a1_, .inr (.inr (some (49, (0 + ii_)))), .inl a1_, .inr (.inr (some (49, (0 + ii_))))], Sx8_)) rfl ?_
    refine sm_T_iald (n := 162) rfl rfl (by omega) (by omega) ?_
    have bx16_ : 0 ≤ Sx8_.2.2.1 49 (0 + ii_) a1_.toNat ∧ Sx8_.2.2.1 49 (0 + ii_) a1_.toNat ≤ 20000 := hIx9_.2 49 (0 + ii_) _
    refine sm_T_go 1 (c1 := (49, [some (.inr (.inr (some (4, ii_)))), some (.inl a1_), some (.inl a2_), some (.inl a3_), some (.inl a4_), some (.inl a5_), some (.inl a6_)], [.inl 1, .inl (Sx8_.2.2.1 49 (0 + ii_) a1_.toNat), .inl a1_, .inr (.inr (some (49, (0 + ii_))))], Sx8_)) rfl ?_
    refine sm_T_bin (w := (Sx8_.2.2.1 49 (0 + ii_) a1_.toNat) + 1) rfl (bi_add (by omega) (by omega) (by omega)) ?_ -- pc_ 49
    refine sm_T_iast (n := 162) rfl rfl (by omega) (by omega) ?_
    have hIx17_ : gi (sm_aI Sx8_ 49 (0 + ii_) a1_.toNat ((Sx8_.2.2.1 49 (0 + ii_) a1_.toNat) + 1)) := gi_aI hIx9_ (show 0 ≤ (Sx8_.2.2.1 49 (0 + ii_) a1_.toNat) + 1 ∧ (Sx8_.2.2.1 49 (0 + ii_) a1_.toNat) + 1 ≤ 20000 from ⟨by omega, by omega⟩)
    have hFx18_ : ai_fr (sx_W vw_75) S0_ (sm_aI Sx8_ 49 (0 + ii_) a1_.toNat ((Sx8_.2.2.1 49 (0 + ii_) a1_.toNat) + 1)) := ai_fr_tr hFx12_ (ai_fr_aI rfl)
    have hCx19_ : cdf ii_ S0_ (sm_aI Sx8_ 49 (0 + ii_) a1_.toNat ((Sx8_.2.2.1 49 (0 + ii_) a1_.toNat) + 1)) := cdf_aI hCx13_ (Or.inr (by rw [show cof 49 = 0 from rfl] <;> omega))
    refine sm_T_rv rfl ⟨_, _, rfl, rfl, hIx17_, hFx18_, ?_⟩
    refine ⟨hCx19_, ?_⟩
    intro c_
    rw [rd_eq]
    by_cases z_ : c_ = a1_.toNat
    · rw [if_pos z_, if_pos (by omega), z_] <;> first | rfl | (rw [f49_])
    · rw [if_neg z_, if_neg (by omega)] <;> first | omega | (rw [f49_]; omega)
end
/-! 99.zl1e -/
section
/-! Layout.scanRow -/
def vw_74r : sx_Wl := ([], [48, 49], [])
def vq_74r (a3_ : Int) (a4_ : Int) (ii_ : Nat) (bb_ : Nat) (S0_ : sm_S) (u_ : Option sm_V) (S1_ : sm_S) : Prop := u_ = none ∧ gi S1_ ∧ ai_fr (sx_W vw_74r) S0_ S1_ ∧ (cdf ii_ S0_ S1_ ∧ (nxb9 ii_ (tk0 (S0_.2.2.1 22 (0 + bb_)) (S0_.2.2.1 23 (0 + bb_)) (S0_.1 0 bb_ 0 + 2) a4_ a3_) S0_ S1_))
set_option maxHeartbeats 400000 in
set_option maxRecDepth 20000 in
theorem vl_74r {sc_ : Nat × (Nat → Int)} (a3_ : Int) (a4_ : Int) (ii_ : Nat) (bb_ : Nat) (S0_ : sm_S) (h3_ : 0 ≤ a3_ ∧ a3_ < S0_.1 0 bb_ 0 + 2) (h4_ : 0 ≤ a4_ ∧ a4_ < S0_.1 0 bb_ 2) (hw_ : S0_.1 4 ii_ 11 ≠ 0 → 0 ≤ (tk0 (S0_.2.2.1 22 (0 + bb_)) (S0_.2.2.1 23 (0 + bb_)) (S0_.1 0 bb_ 0 + 2) a4_ a3_) → S0_.2.2.1 49 (0 + ii_) (tk0 (S0_.2.2.1 22 (0 + bb_)) (S0_.2.2.1 23 (0 + bb_)) (S0_.1 0 bb_ 0 + 2) a4_ a3_).toNat ≤ 1999) (hx_ : 0 ≤ (tk0 (S0_.2.2.1 22 (0 + bb_)) (S0_.2.2.1 23 (0 + bb_)) (S0_.1 0 bb_ 0 + 2) a4_ a3_) → S0_.2.2.1 49 (0 + ii_) (tk0 (S0_.2.2.1 22 (0 + bb_)) (S0_.2.2.1 23 (0 + bb_)) (S0_.1 0 bb_ 0 + 2) a4_ a3_).toNat ≤ 19999) : ∀ nn_ : Nat, (∀ (w9_ : Int) (p9_ : Int) (rm : Int) (ln_ : Int) (S_ : sm_S), gi S_ → ai_fr (sx_W vw_74r) S0_ S_ → ((w9_ = S0_.1 0 bb_ 0 + 2 ∧ p9_ = a4_ * (S0_.1 0 bb_ 0 + 2) + a3_ ∧ 0 ≤ p9_ ∧ p9_ ≤ 2294 + a3_ ∧ rm = w9_ - 1 - a3_ ∧ 0 ≤ ln_ ∧ ln_ ≤ rm) ∧ (0 ≤ S0_.2.2.1 22 (0 + bb_) p9_.toNat) ∧ (S_ = S0_) ∧ ((tk0 (S0_.2.2.1 22 (0 + bb_)) (S0_.2.2.1 23 (0 + bb_)) (S0_.1 0 bb_ 0 + 2) a4_ a3_) = S0_.2.2.1 22 (0 + bb_) p9_.toNat) ∧ (cdf ii_ S0_ S_) ∧ True) → ((100 - ln_).toNat) < nn_ → sm_T (mt_P sc_) 2 74 (128, [some (.inr (.inr (some (4, ii_)))), some (.inr (.inr (some (0, bb_)))), some (.inl 0), some (.inl a3_), some (.inl a4_), some (.inl w9_), some (.inl p9_), some (.inl 1), some (.inl 1), some (.inl 0), some (.inl rm), some (.inl ln_)], [], S_) (fun ro9_ => ∃ u_ S1_, ro9_ = (.inl u_, S1_, 0) ∧ vq_74r a3_ a4_ ii_ bb_ S0_ u_ S1_)) := by
  intro nn_
  induction nn_ with
  | zero => exact fun _ _ _ _ _ _ _ _ h_ => absurd h_ (Nat.not_lt_zero _)
  | succ nn_ ih_ =>
    rintro w9_ p9_ rm ln_ S_ hI_ hF_ ⟨h0_, ho_, hS_, hT_, hC_, -⟩ hm_
    have cs_ : 0 ≤ S_.1 0 bb_ 0 ∧ S_.1 0 bb_ 0 ≤ 60 := hI_.1 0 bb_ 0 rfl
    have ch_ : 0 ≤ S_.1 0 bb_ 2 ∧ S_.1 0 bb_ 2 ≤ 38 := hI_.1 0 bb_ 2 rfl
    rw [hS_] at cs_ ch_
    rw [hT_] at hw_ hx_
    refine sm_T_go 2 (c1 := (132, [some (.inr (.inr (some (4, ii_)))), some (.inr (.inr (some (0, bb_)))), some (.inl 0), some (.inl a3_), some (.inl a4_), some (.inl w9_), some (.inl p9_), some (.inl 1), some (.inl 1), some (.inl 0), some (.inl rm), some (.inl ln_)], [.inl rm, .inl ln_], S_)) rfl ?_
    refine sm_T_br (a := 3) (z := 28) rfl (fun cx1_ => ?_) (fun cx1_ => ?_)
    · have cx1_ : rm ≤ ln_ := of_decide_eq_true cx1_
      refine sm_T_go 4 (c1 := (167, [some (.inr (.inr (some (4, ii_)))), some (.inr (.inr (some (0, bb_)))), some (.inl 0), some (.inl a3_), some (.inl a4_), some (.inl w9_), some (.inl p9_), some (.inl 1), some (.inl 1), some (.inl 0), some (.inl rm), some (.inl ln_)], [.inl p9_, .inr (.inr (some (22, (0 + bb_)))), .inr (.inr (some (4, ii_)))], S_)) rfl ?_
      refine sm_T_iald (n := 4712) rfl rfl (by omega) (by omega) ?_
      have bx2_ : (-1) ≤ S_.2.2.1 22 (0 + bb_) p9_.toNat ∧ S_.2.2.1 22 (0 + bb_) p9_.toNat ≤ 161 := hI_.2 22 (0 + bb_) _
      refine sm_T_go 7 (c1 := (179, [some (.inr (.inr (some (4, ii_)))), some (.inr (.inr (some (0, bb_)))), some (.inl 0), some (.inl a3_), some (.inl a4_), some (.inl w9_), some (.inl p9_), some (.inl 1), some (.inl 1), some (.inl 0), some (.inl rm), some (.inl ln_)], [.inl ln_, .inl a3_, .inl a4_, .inl a3_, .inl 0, .inl (S_.2.2.1 22 (0 + bb_) p9_.toNat), .inr (.inr (some (4, ii_)))], S_)) rfl ?_
      refine sm_T_bin (w := a3_ + ln_) rfl (bi_add (by omega) (by omega) (by omega)) ?_ -- pc_ 179
      refine sm_T_go 5 (c1 := (198, [some (.inr (.inr (some (4, ii_)))), some (.inr (.inr (some (0, bb_)))), some (.inl 0), some (.inl a3_), some (.inl a4_), some (.inl w9_), some (.inl p9_), some (.inl 1), some (.inl 1), some (.inl 0), some (.inl rm), some (.inl ln_)], [.inl a4_, .inl (a3_ + ln_), .inl a4_, .inl a3_, .inl 0, .inl (S_.2.2.1 22 (0 + bb_) p9_.toNat), .inr (.inr (some (4, ii_)))], S_)) rfl ?_
      refine sm_T_cal (d1 := 1) (Q1 := vq_75 (S_.2.2.1 22 (0 + bb_) p9_.toNat) 0 a3_ a4_ (a3_ + ln_) a4_ ii_ S_) rfl rfl (by decide) (vc_75 (S_.2.2.1 22 (0 + bb_) p9_.toNat) 0 a3_ a4_ (a3_ + ln_) a4_ ii_ S_ hI_ (by (rw [hS_] at *; omega)) (by decide) (by omega) (by (rw [hS_]; exact fun u_ => hw_ u_ ho_)) (by (rw [hS_]; exact hx_ ho_))) (fun u_ Sx3_ px6_ => ?_)
      obtain ⟨rfl, hIx4_, hFx5_, px6_⟩ := px6_
      have hFx7_ : ai_fr (sx_W vw_74r) S0_ Sx3_ := ai_fr_tr hF_ (fr_le hFx5_ rfl)
      obtain ⟨dx9_, px6_⟩ := px6_
      have hCx8_ : cdf ii_ S0_ Sx3_ := cdf_tr hC_ (cdf_cg (by omega) dx9_)
      have b9_ := px6_
      rw [hS_] at b9_
      refine sm_T_rv rfl ⟨_, _, rfl, rfl, hIx4_, hFx7_, ?_⟩
      refine ⟨hCx8_, ?_⟩
      rw [hT_]
      exact b9_
    · have cx1_ : ¬ (rm ≤ ln_) := of_decide_eq_false cx1_
      refine sm_T_go 5 (c1 := (145, [some (.inr (.inr (some (4, ii_)))), some (.inr (.inr (some (0, bb_)))), some (.inl 0), some (.inl a3_), some (.inl a4_), some (.inl w9_), some (.inl p9_), some (.inl 1), some (.inl 1), some (.inl 0), some (.inl rm), some (.inl ln_)], [.inl 1, .inl ln_, .inl p9_, .inr (.inr (some (23, (0 + bb_))))], S_)) rfl ?_
      refine sm_T_bin (w := ln_) rfl (bi_mul (by omega) (by omega) (by omega)) ?_ -- pc_ 145
      refine sm_T_bin (w := p9_ + ln_) rfl (bi_add (by omega) (by omega) (by omega)) ?_ -- pc_ 146
      refine sm_T_iald (n := 4712) rfl rfl (by omega) (by omega) ?_
      have bx10_ : 0 ≤ S_.2.2.1 23 (0 + bb_) (p9_ + ln_).toNat ∧ S_.2.2.1 23 (0 + bb_) (p9_ + ln_).toNat ≤ 7 := hI_.2 23 (0 + bb_) _
      refine sm_T_go 1 (c1 := (150, [some (.inr (.inr (some (4, ii_)))), some (.inr (.inr (some (0, bb_)))), some (.inl 0), some (.inl a3_), some (.inl a4_), some (.inl w9_), some (.inl p9_), some (.inl 1), some (.inl 1), some (.inl 0), some (.inl rm), some (.inl ln_)], [.inl 1, .inl (S_.2.2.1 23 (0 + bb_) (p9_ + ln_).toNat)], S_)) rfl ?_
      refine sm_T_bin (w := ((S_.2.2.1 23 (0 + bb_) (p9_ + ln_).toNat) % 2)) rfl (bi_msk (k := 1) (by decide)) ?_ -- pc_ 150
      refine sm_T_b0 (a := 0) (z := 9) rfl (fun cx11_ => ?_) (fun cx11_ => ?_)
      · have cx11_ : ((S_.2.2.1 23 (0 + bb_) (p9_ + ln_).toNat) % 2) = 0 := of_decide_eq_true cx11_
        refine sm_T_go 4 (c1 := (167, [some (.inr (.inr (some (4, ii_)))), some (.inr (.inr (some (0, bb_)))), some (.inl 0), some (.inl a3_), some (.inl a4_), some (.inl w9_), some (.inl p9_), some (.inl 1), some (.inl 1), some (.inl 0), some (.inl rm), some (.inl ln_)], [.inl p9_, .inr (.inr (some (22, (0 + bb_)))), .inr (.inr (some (4, ii_)))], S_)) rfl ?_
        refine sm_T_iald (n := 4712) rfl rfl (by omega) (by omega) ?_
        have bx12_ : (-1) ≤ S_.2.2.1 22 (0 + bb_) p9_.toNat ∧ S_.2.2.1 22 (0 + bb_) p9_.toNat ≤ 161 := hI_.2 22 (0 + bb_) _
        refine sm_T_go 7 (c1 := (179, [some (.inr (.inr (some (4, ii_)))), some (.inr (.inr (some (0, bb_)))), some (.inl 0), some (.inl a3_), some (.inl a4_), some (.inl w9_), some (.inl p9_), some (.inl 1), some (.inl 1), some (.inl 0), some (.inl rm), some (.inl ln_)], [.inl ln_, .inl a3_, .inl a4_, .inl a3_, .inl 0, .inl (S_.2.2.1 22 (0 + bb_) p9_.toNat), .inr (.inr (some (4, ii_)))], S_)) rfl ?_
        refine sm_T_bin (w := a3_ + ln_) rfl (bi_add (by omega) (by omega) (by omega)) ?_ -- pc_ 179
        refine sm_T_go 5 (c1 := (198, [some (.inr (.inr (some (4, ii_)))), some (.inr (.inr (some (0, bb_)))), some (.inl 0), some (.inl a3_), some (.inl a4_), some (.inl w9_), some (.inl p9_), some (.inl 1), some (.inl 1), some (.inl 0), some (.inl rm), some (.inl ln_)], [.inl a4_, .inl (a3_ + ln_), .inl a4_, .inl a3_, .inl 0, .inl (S_.2.2.1 22 (0 + bb_) p9_.toNat), .inr (.inr (some (4, ii_)))], S_)) rfl ?_
        refine sm_T_cal (d1 := 1) (Q1 := vq_75 (S_.2.2.1 22 (0 + bb_) p9_.toNat) 0 a3_ a4_ (a3_ + ln_) a4_ ii_ S_) rfl rfl (by decide) (vc_75 (S_.2.2.1 22 (0 + bb_) p9_.toNat) 0 a3_ a4_ (a3_ + ln_) a4_ ii_ S_ hI_ (by (rw [hS_] at *; omega)) (by decide) (by omega) (by (rw [hS_]; exact fun u_ => hw_ u_ ho_)) (by (rw [hS_]; exact hx_ ho_))) (fun u_ Sx13_ px16_ => ?_)
        obtain ⟨rfl, hIx14_, hFx15_, px16_⟩ := px16_
        have hFx17_ : ai_fr (sx_W vw_74r) S0_ Sx13_ := ai_fr_tr hF_ (fr_le hFx15_ rfl)
        obtain ⟨dx19_, px16_⟩ := px16_
        have hCx18_ : cdf ii_ S0_ Sx13_ := cdf_tr hC_ (cdf_cg (by omega) dx19_)
        have b9_ := px16_
        rw [hS_] at b9_
        refine sm_T_rv rfl ⟨_, _, rfl, rfl, hIx14_, hFx17_, ?_⟩
        refine ⟨hCx18_, ?_⟩
        rw [hT_]
        exact b9_
      · have cx11_ : ¬ (((S_.2.2.1 23 (0 + bb_) (p9_ + ln_).toNat) % 2) = 0) := of_decide_eq_false cx11_
        refine sm_T_inc (a := 11) (z := 1) (v := ln_) (w := ln_ + 1) rfl rfl (by omega) (by omega) (by omega) ?_ -- pc_ 154
        refine sm_T_go 1 (c1 := (128, [some (.inr (.inr (some (4, ii_)))), some (.inr (.inr (some (0, bb_)))), some (.inl 0), some (.inl a3_), some (.inl a4_), some (.inl w9_), some (.inl p9_), some (.inl 1), some (.inl 1), some (.inl 0), some (.inl rm), some (.inl (ln_ + 1))], [], S_)) rfl ?_
        refine ih_ w9_ p9_ rm (ln_ + 1) S_ hI_ hF_ ⟨?_, ?_, ?_, ?_, ?_, trivial⟩ ?_
        · omega
        · exact ho_
        · exact hS_
        · exact hT_
        · exact hC_
        · omega
set_option maxHeartbeats 400000 in
set_option maxRecDepth 20000 in
theorem vc_74r {sc_ : Nat × (Nat → Int)} (a3_ : Int) (a4_ : Int) (ii_ : Nat) (bb_ : Nat) (S0_ : sm_S) (hI_ : gi S0_) (h3_ : 0 ≤ a3_ ∧ a3_ < S0_.1 0 bb_ 0 + 2) (h4_ : 0 ≤ a4_ ∧ a4_ < S0_.1 0 bb_ 2) (hw_ : S0_.1 4 ii_ 11 ≠ 0 → 0 ≤ (tk0 (S0_.2.2.1 22 (0 + bb_)) (S0_.2.2.1 23 (0 + bb_)) (S0_.1 0 bb_ 0 + 2) a4_ a3_) → S0_.2.2.1 49 (0 + ii_) (tk0 (S0_.2.2.1 22 (0 + bb_)) (S0_.2.2.1 23 (0 + bb_)) (S0_.1 0 bb_ 0 + 2) a4_ a3_).toNat ≤ 1999) (hx_ : 0 ≤ (tk0 (S0_.2.2.1 22 (0 + bb_)) (S0_.2.2.1 23 (0 + bb_)) (S0_.1 0 bb_ 0 + 2) a4_ a3_) → S0_.2.2.1 49 (0 + ii_) (tk0 (S0_.2.2.1 22 (0 + bb_)) (S0_.2.2.1 23 (0 + bb_)) (S0_.1 0 bb_ 0 + 2) a4_ a3_).toNat ≤ 19999) : sm_T (mt_P sc_) 2 74 (0, [some (.inr (.inr (some (4, ii_)))), some (.inr (.inr (some (0, bb_)))), some (.inl 0), some (.inl a3_), some (.inl a4_), none, none, none, none, none, none, none], [], S0_) (fun ro9_ => ∃ u_ S1_, ro9_ = (.inl u_, S1_, 0) ∧ vq_74r a3_ a4_ ii_ bb_ S0_ u_ S1_) := by
  have hF_ : ai_fr (sx_W vw_74r) S0_ S0_ := ai_fr_rf
  have hC_ : cdf ii_ S0_ S0_ := cdf_rf
  have cs_ : 0 ≤ S0_.1 0 bb_ 0 ∧ S0_.1 0 bb_ 0 ≤ 60 := hI_.1 0 bb_ 0 rfl
  have ch_ : 0 ≤ S0_.1 0 bb_ 2 ∧ S0_.1 0 bb_ 2 ≤ 38 := hI_.1 0 bb_ 2 rfl
  have bx1_ : 0 ≤ S0_.1 0 bb_ 0 ∧ S0_.1 0 bb_ 0 ≤ 60 := hI_.1 0 bb_ 0 rfl
  refine sm_T_go 3 (c1 := (5, [some (.inr (.inr (some (4, ii_)))), some (.inr (.inr (some (0, bb_)))), some (.inl 0), some (.inl a3_), some (.inl a4_), none, none, none, none, none, none, none], [.inl 2, .inl (S0_.1 0 bb_ 0)], S0_)) rfl ?_
  refine sm_T_bin (w := (S0_.1 0 bb_ 0) + 2) rfl (bi_add (by omega) (by omega) (by omega)) ?_ -- pc_ 5
  have bx2_ : 0 ≤ S0_.1 0 bb_ 2 ∧ S0_.1 0 bb_ 2 ≤ 38 := hI_.1 0 bb_ 2 rfl
  refine sm_T_go 4 (c1 := (13, [some (.inr (.inr (some (4, ii_)))), some (.inr (.inr (some (0, bb_)))), some (.inl 0), some (.inl a3_), some (.inl a4_), some (.inl ((S0_.1 0 bb_ 0) + 2)), none, none, none, none, none, none], [.inl (S0_.1 0 bb_ 2), .inl 0], S0_)) rfl ?_
  refine sm_T_bin (w := 0) rfl (bi_mul (by omega) (by omega) (by omega)) ?_ -- pc_ 13
  refine sm_T_go 1 (c1 := (16, [some (.inr (.inr (some (4, ii_)))), some (.inr (.inr (some (0, bb_)))), some (.inl 0), some (.inl a3_), some (.inl a4_), some (.inl ((S0_.1 0 bb_ 0) + 2)), none, none, none, none, none, none], [.inl a4_, .inl 0], S0_)) rfl ?_
  refine sm_T_bin (w := a4_) rfl (bi_add (by omega) (by omega) (by omega)) ?_ -- pc_ 16
  refine sm_T_go 1 (c1 := (19, [some (.inr (.inr (some (4, ii_)))), some (.inr (.inr (some (0, bb_)))), some (.inl 0), some (.inl a3_), some (.inl a4_), some (.inl ((S0_.1 0 bb_ 0) + 2)), none, none, none, none, none, none], [.inl ((S0_.1 0 bb_ 0) + 2), .inl a4_], S0_)) rfl ?_
  have bx3_ := mul_b (x_ := a4_) (y_ := ((S0_.1 0 bb_ 0) + 2)) (X_ := 37) (Y_ := 62) (Z_ := 2294) (by omega) (by omega) (by decide)
  refine sm_T_bin (w := (a4_ * ((S0_.1 0 bb_ 0) + 2))) rfl (bi_mul rfl (by omega) (by omega)) ?_ -- pc_ 19
  refine sm_T_go 1 (c1 := (21, [some (.inr (.inr (some (4, ii_)))), some (.inr (.inr (some (0, bb_)))), some (.inl 0), some (.inl a3_), some (.inl a4_), some (.inl ((S0_.1 0 bb_ 0) + 2)), none, none, none, none, none, none], [.inl a3_, .inl (a4_ * ((S0_.1 0 bb_ 0) + 2))], S0_)) rfl ?_
  refine sm_T_bin (w := (a4_ * ((S0_.1 0 bb_ 0) + 2)) + a3_) rfl (bi_add (by omega) (by omega) (by omega)) ?_ -- pc_ 21
  refine sm_T_go 4 (c1 := (30, [some (.inr (.inr (some (4, ii_)))), some (.inr (.inr (some (0, bb_)))), some (.inl 0), some (.inl a3_), some (.inl a4_), some (.inl ((S0_.1 0 bb_ 0) + 2)), some (.inl ((a4_ * ((S0_.1 0 bb_ 0) + 2)) + a3_)), none, none, none, none, none], [.inl ((a4_ * ((S0_.1 0 bb_ 0) + 2)) + a3_), .inr (.inr (some (22, (0 + bb_))))], S0_)) rfl ?_
  refine sm_T_iald (n := 4712) rfl rfl (by omega) (by omega) ?_
  have bx4_ : (-1) ≤ S0_.2.2.1 22 (0 + bb_) ((a4_ * ((S0_.1 0 bb_ 0) + 2)) + a3_).toNat ∧ S0_.2.2.1 22 (0 + bb_) ((a4_ * ((S0_.1 0 bb_ 0) + 2)) + a3_).toNat ≤ 161 := hI_.2 22 (0 + bb_) _
  refine sm_T_go 1 (c1 := (32, [some (.inr (.inr (some (4, ii_)))), some (.inr (.inr (some (0, bb_)))), some (.inl 0), some (.inl a3_), some (.inl a4_), some (.inl ((S0_.1 0 bb_ 0) + 2)), some (.inl ((a4_ * ((S0_.1 0 bb_ 0) + 2)) + a3_)), none, none, none, none, none], [.inl (-1), .inl (S0_.2.2.1 22 (0 + bb_) ((a4_ * ((S0_.1 0 bb_ 0) + 2)) + a3_).toNat)], S0_)) rfl ?_
  refine sm_T_br (a := 1) (z := 4) rfl (fun cx5_ => ?_) (fun cx5_ => ?_)
  · have cx5_ : (S0_.2.2.1 22 (0 + bb_) ((a4_ * ((S0_.1 0 bb_ 0) + 2)) + a3_).toNat) ≠ (-1) := of_decide_eq_true cx5_
    refine sm_T_go 14 (c1 := (69, [some (.inr (.inr (some (4, ii_)))), some (.inr (.inr (some (0, bb_)))), some (.inl 0), some (.inl a3_), some (.inl a4_), some (.inl ((S0_.1 0 bb_ 0) + 2)), some (.inl ((a4_ * ((S0_.1 0 bb_ 0) + 2)) + a3_)), some (.inl 1), some (.inl 1), none, none, none], [.inl a3_], S0_)) rfl ?_
    refine sm_T_b0 (a := 5) (z := 23) rfl (fun cx6_ => ?_) (fun cx6_ => ?_)
    · have cx6_ : a3_ ≤ 0 := of_decide_eq_true cx6_
      refine sm_T_go 8 (c1 := (108, [some (.inr (.inr (some (4, ii_)))), some (.inr (.inr (some (0, bb_)))), some (.inl 0), some (.inl a3_), some (.inl a4_), some (.inl ((S0_.1 0 bb_ 0) + 2)), some (.inl ((a4_ * ((S0_.1 0 bb_ 0) + 2)) + a3_)), some (.inl 1), some (.inl 1), some (.inl 0), none, none], [.inl 1, .inl ((S0_.1 0 bb_ 0) + 2)], S0_)) rfl ?_
      refine sm_T_bin (w := (S0_.1 0 bb_ 0) + 1) rfl (bi_sub (by omega) (by omega) (by omega)) ?_ -- pc_ 108
      refine sm_T_go 1 (c1 := (110, [some (.inr (.inr (some (4, ii_)))), some (.inr (.inr (some (0, bb_)))), some (.inl 0), some (.inl a3_), some (.inl a4_), some (.inl ((S0_.1 0 bb_ 0) + 2)), some (.inl ((a4_ * ((S0_.1 0 bb_ 0) + 2)) + a3_)), some (.inl 1), some (.inl 1), some (.inl 0), none, none], [.inl a3_, .inl ((S0_.1 0 bb_ 0) + 1)], S0_)) rfl ?_
      refine sm_T_bin (w := (S0_.1 0 bb_ 0) - a3_ + 1) rfl (bi_sub (by omega) (by omega) (by omega)) ?_ -- pc_ 110
      refine sm_T_go 4 (c1 := (128, [some (.inr (.inr (some (4, ii_)))), some (.inr (.inr (some (0, bb_)))), some (.inl 0), some (.inl a3_), some (.inl a4_), some (.inl ((S0_.1 0 bb_ 0) + 2)), some (.inl ((a4_ * ((S0_.1 0 bb_ 0) + 2)) + a3_)), some (.inl 1), some (.inl 1), some (.inl 0), some (.inl ((S0_.1 0 bb_ 0) - a3_ + 1)), some (.inl 0)], [], S0_)) rfl ?_
      refine (vl_74r a3_ a4_ ii_ bb_ S0_ h3_ h4_ hw_ hx_ _) ((S0_.1 0 bb_ 0) + 2) ((a4_ * ((S0_.1 0 bb_ 0) + 2)) + a3_) ((S0_.1 0 bb_ 0) - a3_ + 1) 0 S0_ hI_ hF_ ⟨?_, ?_, ?_, ?_, ?_, trivial⟩ (Nat.lt_succ_self _)
      · omega
      · omega
      · rfl
      · (unfold tk0; rw [if_neg (by omega), if_neg (by rintro ⟨q1_, q2_⟩; omega)])
      · exact hC_
    · have cx6_ : ¬ (a3_ ≤ 0) := of_decide_eq_false cx6_
      refine sm_T_go 4 (c1 := (80, [some (.inr (.inr (some (4, ii_)))), some (.inr (.inr (some (0, bb_)))), some (.inl 0), some (.inl a3_), some (.inl a4_), some (.inl ((S0_.1 0 bb_ 0) + 2)), some (.inl ((a4_ * ((S0_.1 0 bb_ 0) + 2)) + a3_)), some (.inl 1), some (.inl 1), none, none, none], [.inl 1, .inl ((a4_ * ((S0_.1 0 bb_ 0) + 2)) + a3_), .inr (.inr (some (23, (0 + bb_))))], S0_)) rfl ?_
      refine sm_T_bin (w := (a4_ * ((S0_.1 0 bb_ 0) + 2)) + a3_ - 1) rfl (bi_sub (by omega) (by omega) (by omega)) ?_ -- pc_ 80
      refine sm_T_iald (n := 4712) rfl rfl (by omega) (by omega) ?_
      have bx7_ : 0 ≤ S0_.2.2.1 23 (0 + bb_) ((a4_ * ((S0_.1 0 bb_ 0) + 2)) + a3_ - 1).toNat ∧ S0_.2.2.1 23 (0 + bb_) ((a4_ * ((S0_.1 0 bb_ 0) + 2)) + a3_ - 1).toNat ≤ 7 := hI_.2 23 (0 + bb_) _
      refine sm_T_go 1 (c1 := (84, [some (.inr (.inr (some (4, ii_)))), some (.inr (.inr (some (0, bb_)))), some (.inl 0), some (.inl a3_), some (.inl a4_), some (.inl ((S0_.1 0 bb_ 0) + 2)), some (.inl ((a4_ * ((S0_.1 0 bb_ 0) + 2)) + a3_)), some (.inl 1), some (.inl 1), none, none, none], [.inl 1, .inl (S0_.2.2.1 23 (0 + bb_) ((a4_ * ((S0_.1 0 bb_ 0) + 2)) + a3_ - 1).toNat)], S0_)) rfl ?_
      refine sm_T_bin (w := ((S0_.2.2.1 23 (0 + bb_) ((a4_ * ((S0_.1 0 bb_ 0) + 2)) + a3_ - 1).toNat) % 2)) rfl (bi_msk (k := 1) (by decide)) ?_ -- pc_ 84
      refine sm_T_b0 (a := 0) (z := 7) rfl (fun cx8_ => ?_) (fun cx8_ => ?_)
      · have cx8_ : ((S0_.2.2.1 23 (0 + bb_) ((a4_ * ((S0_.1 0 bb_ 0) + 2)) + a3_ - 1).toNat) % 2) = 0 := of_decide_eq_true cx8_
        refine sm_T_go 8 (c1 := (108, [some (.inr (.inr (some (4, ii_)))), some (.inr (.inr (some (0, bb_)))), some (.inl 0), some (.inl a3_), some (.inl a4_), some (.inl ((S0_.1 0 bb_ 0) + 2)), some (.inl ((a4_ * ((S0_.1 0 bb_ 0) + 2)) + a3_)), some (.inl 1), some (.inl 1), some (.inl 0), none, none], [.inl 1, .inl ((S0_.1 0 bb_ 0) + 2)], S0_)) rfl ?_
        refine sm_T_bin (w := (S0_.1 0 bb_ 0) + 1) rfl (bi_sub (by omega) (by omega) (by omega)) ?_ -- pc_ 108
        refine sm_T_go 1 (c1 := (110, [some (.inr (.inr (some (4, ii_)))), some (.inr (.inr (some (0, bb_)))), some (.inl 0), some (.inl a3_), some (.inl a4_), some (.inl ((S0_.1 0 bb_ 0) + 2)), some (.inl ((a4_ * ((S0_.1 0 bb_ 0) + 2)) + a3_)), some (.inl 1), some (.inl 1), some (.inl 0), none, none], [.inl a3_, .inl ((S0_.1 0 bb_ 0) + 1)], S0_)) rfl ?_
        refine sm_T_bin (w := (S0_.1 0 bb_ 0) - a3_ + 1) rfl (bi_sub (by omega) (by omega) (by omega)) ?_ -- pc_ 110
        refine sm_T_go 4 (c1 := (128, [some (.inr (.inr (some (4, ii_)))), some (.inr (.inr (some (0, bb_)))), some (.inl 0), some (.inl a3_), some (.inl a4_), some (.inl ((S0_.1 0 bb_ 0) + 2)), some (.inl ((a4_ * ((S0_.1 0 bb_ 0) + 2)) + a3_)), some (.inl 1), some (.inl 1), some (.inl 0), some (.inl ((S0_.1 0 bb_ 0) - a3_ + 1)), some (.inl 0)], [], S0_)) rfl ?_
        refine (vl_74r a3_ a4_ ii_ bb_ S0_ h3_ h4_ hw_ hx_ _) ((S0_.1 0 bb_ 0) + 2) ((a4_ * ((S0_.1 0 bb_ 0) + 2)) + a3_) ((S0_.1 0 bb_ 0) - a3_ + 1) 0 S0_ hI_ hF_ ⟨?_, ?_, ?_, ?_, ?_, trivial⟩ (Nat.lt_succ_self _)
        · omega
        · omega
        · rfl
        · (unfold tk0; rw [if_neg (by omega), if_neg (by rintro ⟨q1_, q2_⟩; omega)])
        · exact hC_
      · have cx8_ : ¬ (((S0_.2.2.1 23 (0 + bb_) ((a4_ * ((S0_.1 0 bb_ 0) + 2)) + a3_ - 1).toNat) % 2) = 0) := of_decide_eq_false cx8_
        refine sm_T_go 5 (c1 := (100, [some (.inr (.inr (some (4, ii_)))), some (.inr (.inr (some (0, bb_)))), some (.inl 0), some (.inl a3_), some (.inl a4_), some (.inl ((S0_.1 0 bb_ 0) + 2)), some (.inl ((a4_ * ((S0_.1 0 bb_ 0) + 2)) + a3_)), some (.inl 1), some (.inl 1), some (.inl 1), none, none], [], S0_)) rfl ?_
        refine sm_T_rv rfl ⟨_, _, rfl, rfl, hI_, hF_, ?_⟩
        refine ⟨hC_, ?_⟩
        exact nxb9_n (by unfold tk0; rw [if_neg (by omega), if_pos ⟨by omega, by omega⟩]; decide)
  · have cx5_ : ¬ ((S0_.2.2.1 22 (0 + bb_) ((a4_ * ((S0_.1 0 bb_ 0) + 2)) + a3_).toNat) ≠ (-1)) := of_decide_eq_false cx5_
    refine sm_T_rv rfl ⟨_, _, rfl, rfl, hI_, hF_, ?_⟩
    refine ⟨hC_, ?_⟩
    exact nxb9_n (by unfold tk0; rw [if_pos (by omega)]; decide)
end
/-! 99.zl1f -/
section
/-! Layout.scanRow -/
def vw_74c : sx_Wl := ([], [48, 49], [])
def vq_74c (a3_ : Int) (a4_ : Int) (ii_ : Nat) (bb_ : Nat) (S0_ : sm_S) (u_ : Option sm_V) (S1_ : sm_S) : Prop := u_ = none ∧ gi S1_ ∧ ai_fr (sx_W vw_74c) S0_ S1_ ∧ (cdf ii_ S0_ S1_ ∧ (nxb9 ii_ (tk1 (S0_.2.2.1 22 (0 + bb_)) (S0_.2.2.1 23 (0 + bb_)) (S0_.1 0 bb_ 2) (S0_.1 0 bb_ 0) a3_ a4_) S0_ S1_))
set_option maxHeartbeats 400000 in
set_option maxRecDepth 20000 in
theorem vl_74c {sc_ : Nat × (Nat → Int)} (a3_ : Int) (a4_ : Int) (ii_ : Nat) (bb_ : Nat) (S0_ : sm_S) (h3_ : 0 ≤ a3_ ∧ a3_ < S0_.1 0 bb_ 0 + 2) (h4_ : 0 ≤ a4_ ∧ a4_ < S0_.1 0 bb_ 2) (hw_ : S0_.1 4 ii_ 11 ≠ 0 → 0 ≤ (tk1 (S0_.2.2.1 22 (0 + bb_)) (S0_.2.2.1 23 (0 + bb_)) (S0_.1 0 bb_ 2) (S0_.1 0 bb_ 0) a3_ a4_) → S0_.2.2.1 49 (0 + ii_) (tk1 (S0_.2.2.1 22 (0 + bb_)) (S0_.2.2.1 23 (0 + bb_)) (S0_.1 0 bb_ 2) (S0_.1 0 bb_ 0) a3_ a4_).toNat ≤ 1999) (hx_ : 0 ≤ (tk1 (S0_.2.2.1 22 (0 + bb_)) (S0_.2.2.1 23 (0 + bb_)) (S0_.1 0 bb_ 2) (S0_.1 0 bb_ 0) a3_ a4_) → S0_.2.2.1 49 (0 + ii_) (tk1 (S0_.2.2.1 22 (0 + bb_)) (S0_.2.2.1 23 (0 + bb_)) (S0_.1 0 bb_ 2) (S0_.1 0 bb_ 0) a3_ a4_).toNat ≤ 19999) : ∀ nn_ : Nat, (∀ (w9_ : Int) (p9_ : Int) (ap_ : Int) (rm : Int) (ln_ : Int) (S_ : sm_S), gi S_ → ai_fr (sx_W vw_74c) S0_ S_ → ((w9_ = S0_.1 0 bb_ 0 + 2 ∧ p9_ = (S0_.1 0 bb_ 2 + a4_) * (S0_.1 0 bb_ 0 + 2) + a3_ ∧ 0 ≤ p9_ ∧ p9_ ≤ 4711 ∧ rm = S0_.1 0 bb_ 2 - 1 - a4_ ∧ 0 ≤ ln_ ∧ ln_ ≤ rm) ∧ (ap_ = (S0_.1 0 bb_ 0 + 2)) ∧ (0 ≤ S0_.2.2.1 22 (0 + bb_) p9_.toNat) ∧ (S_ = S0_) ∧ ((tk1 (S0_.2.2.1 22 (0 + bb_)) (S0_.2.2.1 23 (0 + bb_)) (S0_.1 0 bb_ 2) (S0_.1 0 bb_ 0) a3_ a4_) = S0_.2.2.1 22 (0 + bb_) p9_.toNat) ∧ (cdf ii_ S0_ S_) ∧ True) → ((100 - ln_).toNat) < nn_ → sm_T (mt_P sc_) 2 74 (128, [some (.inr (.inr (some (4, ii_)))), some (.inr (.inr (some (0, bb_)))), some (.inl 1), some (.inl a3_), some (.inl a4_), some (.inl w9_), some (.inl p9_), some (.inl ap_), some (.inl 2), some (.inl 0), some (.inl rm), some (.inl ln_)], [], S_) (fun ro9_ => ∃ u_ S1_, ro9_ = (.inl u_, S1_, 0) ∧ vq_74c a3_ a4_ ii_ bb_ S0_ u_ S1_)) := by
  intro nn_
  induction nn_ with
  | zero => exact fun _ _ _ _ _ _ _ _ _ h_ => absurd h_ (Nat.not_lt_zero _)
  | succ nn_ ih_ =>
    rintro w9_ p9_ ap_ rm ln_ S_ hI_ hF_ ⟨h0_, hap_, ho_, hS_, hT_, hC_, -⟩ hm_
    have cs_ : 0 ≤ S_.1 0 bb_ 0 ∧ S_.1 0 bb_ 0 ≤ 60 := hI_.1 0 bb_ 0 rfl
    have ch_ : 0 ≤ S_.1 0 bb_ 2 ∧ S_.1 0 bb_ 2 ≤ 38 := hI_.1 0 bb_ 2 rfl
    rw [hS_] at cs_ ch_
    rw [hT_] at hw_ hx_
    refine sm_T_go 2 (c1 := (132, [some (.inr (.inr (some (4, ii_)))), some (.inr (.inr (some (0, bb_)))), some (.inl 1), some (.inl a3_), some (.inl a4_), some (.inl w9_), some (.inl p9_), some (.inl ap_), some (.inl 2), some (.inl 0), some (.inl rm), some (.inl ln_)], [.inl rm, .inl ln_], S_)) rfl ?_
    refine sm_T_br (a := 3) (z := 28) rfl (fun cx1_ => ?_) (fun cx1_ => ?_)
    · have cx1_ : rm ≤ ln_ := of_decide_eq_true cx1_
      refine sm_T_go 4 (c1 := (167, [some (.inr (.inr (some (4, ii_)))), some (.inr (.inr (some (0, bb_)))), some (.inl 1), some (.inl a3_), some (.inl a4_), some (.inl w9_), some (.inl p9_), some (.inl ap_), some (.inl 2), some (.inl 0), some (.inl rm), some (.inl ln_)], [.inl p9_, .inr (.inr (some (22, (0 + bb_)))), .inr (.inr (some (4, ii_)))], S_)) rfl ?_
      refine sm_T_iald (n := 4712) rfl rfl (by omega) (by omega) ?_
      have bx2_ : (-1) ≤ S_.2.2.1 22 (0 + bb_) p9_.toNat ∧ S_.2.2.1 22 (0 + bb_) p9_.toNat ≤ 161 := hI_.2 22 (0 + bb_) _
      refine sm_T_go 10 (c1 := (197, [some (.inr (.inr (some (4, ii_)))), some (.inr (.inr (some (0, bb_)))), some (.inl 1), some (.inl a3_), some (.inl a4_), some (.inl w9_), some (.inl p9_), some (.inl ap_), some (.inl 2), some (.inl 0), some (.inl rm), some (.inl ln_)], [.inl ln_, .inl a4_, .inl a3_, .inl a4_, .inl a3_, .inl 1, .inl (S_.2.2.1 22 (0 + bb_) p9_.toNat), .inr (.inr (some (4, ii_)))], S_)) rfl ?_
      refine sm_T_bin (w := a4_ + ln_) rfl (bi_add (by omega) (by omega) (by omega)) ?_ -- pc_ 197
      refine sm_T_cal (d1 := 1) (Q1 := vq_75 (S_.2.2.1 22 (0 + bb_) p9_.toNat) 1 a3_ a4_ a3_ (a4_ + ln_) ii_ S_) rfl rfl (by decide) (vc_75 (S_.2.2.1 22 (0 + bb_) p9_.toNat) 1 a3_ a4_ a3_ (a4_ + ln_) ii_ S_ hI_ (by (rw [hS_] at *; omega)) (by decide) (by omega) (by (rw [hS_]; exact fun u_ => hw_ u_ ho_)) (by (rw [hS_]; exact hx_ ho_))) (fun u_ Sx3_ px6_ => ?_)
      obtain ⟨rfl, hIx4_, hFx5_, px6_⟩ := px6_
      have hFx7_ : ai_fr (sx_W vw_74c) S0_ Sx3_ := ai_fr_tr hF_ (fr_le hFx5_ rfl)
      obtain ⟨dx9_, px6_⟩ := px6_
      have hCx8_ : cdf ii_ S0_ Sx3_ := cdf_tr hC_ (cdf_cg (by omega) dx9_)
      have b9_ := px6_
      rw [hS_] at b9_
      refine sm_T_rv rfl ⟨_, _, rfl, rfl, hIx4_, hFx7_, ?_⟩
      refine ⟨hCx8_, ?_⟩
      rw [hT_]
      exact b9_
    · have cx1_ : ¬ (rm ≤ ln_) := of_decide_eq_false cx1_
      have ml9_ : ((S0_.1 0 bb_ 2 + a4_) + ln_) * (S0_.1 0 bb_ 0 + 2) = (S0_.1 0 bb_ 2 + a4_) * (S0_.1 0 bb_ 0 + 2) + ln_ * (S0_.1 0 bb_ 0 + 2) := Int.add_mul _ _ _
      have mb9_ := mul_b (x_ := (S0_.1 0 bb_ 2 + a4_) + ln_) (y_ := (S0_.1 0 bb_ 0 + 2)) (X_ := 75) (Y_ := 62) (Z_ := 4650) (by omega) (by omega) (by decide)
      have ma9_ : ln_ * ap_ = ln_ * (S0_.1 0 bb_ 0 + 2) := by rw [hap_]
      refine sm_T_go 5 (c1 := (145, [some (.inr (.inr (some (4, ii_)))), some (.inr (.inr (some (0, bb_)))), some (.inl 1), some (.inl a3_), some (.inl a4_), some (.inl w9_), some (.inl p9_), some (.inl ap_), some (.inl 2), some (.inl 0), some (.inl rm), some (.inl ln_)], [.inl ap_, .inl ln_, .inl p9_, .inr (.inr (some (23, (0 + bb_))))], S_)) rfl ?_
      have bx10_ := mul_b (x_ := ln_) (y_ := ap_) (X_ := 37) (Y_ := 62) (Z_ := 2294) (by omega) (by omega) (by decide)
      refine sm_T_bin (w := (ln_ * ap_)) rfl (bi_mul rfl (by omega) (by omega)) ?_ -- pc_ 145
      refine sm_T_bin (w := p9_ + (ln_ * ap_)) rfl (bi_add (by omega) (by omega) (by omega)) ?_ -- pc_ 146
      refine sm_T_iald (n := 4712) rfl rfl (by omega) (by omega) ?_
      have bx11_ : 0 ≤ S_.2.2.1 23 (0 + bb_) (p9_ + (ln_ * ap_)).toNat ∧ S_.2.2.1 23 (0 + bb_) (p9_ + (ln_ * ap_)).toNat ≤ 7 := hI_.2 23 (0 + bb_) _
      refine sm_T_go 1 (c1 := (150, [some (.inr (.inr (some (4, ii_)))), some (.inr (.inr (some (0, bb_)))), some (.inl 1), some (.inl a3_), some (.inl a4_), some (.inl w9_), some (.inl p9_), some (.inl ap_), some (.inl 2), some (.inl 0), some (.inl rm), some (.inl ln_)], [.inl 2, .inl (S_.2.2.1 23 (0 + bb_) (p9_ + (ln_ * ap_)).toNat)], S_)) rfl ?_
      refine sm_T_bin (w := (i_and (S_.2.2.1 23 (0 + bb_) (p9_ + (ln_ * ap_)).toNat) 2)) rfl rfl ?_ -- pc_ 150
      first | have bx12_ := i_and_p (x_ := (S_.2.2.1 23 (0 + bb_) (p9_ + (ln_ * ap_)).toNat)) (y_ := 2) (by omega) (by omega) | have bx12_ := i_and_y (S_.2.2.1 23 (0 + bb_) (p9_ + (ln_ * ap_)).toNat) (y_ := 2) (by omega) | have bx12_ := i_and_x (x_ := (S_.2.2.1 23 (0 + bb_) (p9_ + (ln_ * ap_)).toNat)) 2 (by omega) | have bx12_ := i_and_n (S_.2.2.1 23 (0 + bb_) (p9_ + (ln_ * ap_)).toNat) 2
      refine sm_T_b0 (a := 0) (z := 9) rfl (fun cx13_ => ?_) (fun cx13_ => ?_)
      · have cx13_ : (i_and (S_.2.2.1 23 (0 + bb_) (p9_ + (ln_ * ap_)).toNat) 2) = 0 := of_decide_eq_true cx13_
        refine sm_T_go 4 (c1 := (167, [some (.inr (.inr (some (4, ii_)))), some (.inr (.inr (some (0, bb_)))), some (.inl 1), some (.inl a3_), some (.inl a4_), some (.inl w9_), some (.inl p9_), some (.inl ap_), some (.inl 2), some (.inl 0), some (.inl rm), some (.inl ln_)], [.inl p9_, .inr (.inr (some (22, (0 + bb_)))), .inr (.inr (some (4, ii_)))], S_)) rfl ?_
        refine sm_T_iald (n := 4712) rfl rfl (by omega) (by omega) ?_
        have bx14_ : (-1) ≤ S_.2.2.1 22 (0 + bb_) p9_.toNat ∧ S_.2.2.1 22 (0 + bb_) p9_.toNat ≤ 161 := hI_.2 22 (0 + bb_) _
        refine sm_T_go 10 (c1 := (197, [some (.inr (.inr (some (4, ii_)))), some (.inr (.inr (some (0, bb_)))), some (.inl 1), some (.inl a3_), some (.inl a4_), some (.inl w9_), some (.inl p9_), some (.inl ap_), some (.inl 2), some (.inl 0), some (.inl rm), some (.inl ln_)], [.inl ln_, .inl a4_, .inl a3_, .inl a4_, .inl a3_, .inl 1, .inl (S_.2.2.1 22 (0 + bb_) p9_.toNat), .inr (.inr (some (4, ii_)))], S_)) rfl ?_
        refine sm_T_bin (w := a4_ + ln_) rfl (bi_add (by omega) (by omega) (by omega)) ?_ -- pc_ 197
        refine sm_T_cal (d1 := 1) (Q1 := vq_75 (S_.2.2.1 22 (0 + bb_) p9_.toNat) 1 a3_ a4_ a3_ (a4_ + ln_) ii_ S_) rfl rfl (by decide) (vc_75 (S_.2.2.1 22 (0 + bb_) p9_.toNat) 1 a3_ a4_ a3_ (a4_ + ln_) ii_ S_ hI_ (by (rw [hS_] at *; omega)) (by decide) (by omega) (by (rw [hS_]; exact fun u_ => hw_ u_ ho_)) (by (rw [hS_]; exact hx_ ho_))) (fun u_ Sx15_ px18_ => ?_)
        obtain ⟨rfl, hIx16_, hFx17_, px18_⟩ := px18_
        have hFx19_ : ai_fr (sx_W vw_74c) S0_ Sx15_ := ai_fr_tr hF_ (fr_le hFx17_ rfl)
        obtain ⟨dx21_, px18_⟩ := px18_
        have hCx20_ : cdf ii_ S0_ Sx15_ := cdf_tr hC_ (cdf_cg (by omega) dx21_)
        have b9_ := px18_
        rw [hS_] at b9_
        refine sm_T_rv rfl ⟨_, _, rfl, rfl, hIx16_, hFx19_, ?_⟩
        refine ⟨hCx20_, ?_⟩
        rw [hT_]
        exact b9_
      · have cx13_ : ¬ ((i_and (S_.2.2.1 23 (0 + bb_) (p9_ + (ln_ * ap_)).toNat) 2) = 0) := of_decide_eq_false cx13_
        refine sm_T_inc (a := 11) (z := 1) (v := ln_) (w := ln_ + 1) rfl rfl (by omega) (by omega) (by omega) ?_ -- pc_ 154
        refine sm_T_go 1 (c1 := (128, [some (.inr (.inr (some (4, ii_)))), some (.inr (.inr (some (0, bb_)))), some (.inl 1), some (.inl a3_), some (.inl a4_), some (.inl w9_), some (.inl p9_), some (.inl ap_), some (.inl 2), some (.inl 0), some (.inl rm), some (.inl (ln_ + 1))], [], S_)) rfl ?_
        refine ih_ w9_ p9_ ap_ rm (ln_ + 1) S_ hI_ hF_ ⟨?_, ?_, ?_, ?_, ?_, ?_, trivial⟩ ?_
        · omega
        · exact hap_
        · exact ho_
        · exact hS_
        · exact hT_
        · exact hC_
        · omega
set_option maxHeartbeats 400000 in
set_option maxRecDepth 20000 in
theorem vc_74c {sc_ : Nat × (Nat → Int)} (a3_ : Int) (a4_ : Int) (ii_ : Nat) (bb_ : Nat) (S0_ : sm_S) (hI_ : gi S0_) (h3_ : 0 ≤ a3_ ∧ a3_ < S0_.1 0 bb_ 0 + 2) (h4_ : 0 ≤ a4_ ∧ a4_ < S0_.1 0 bb_ 2) (hw_ : S0_.1 4 ii_ 11 ≠ 0 → 0 ≤ (tk1 (S0_.2.2.1 22 (0 + bb_)) (S0_.2.2.1 23 (0 + bb_)) (S0_.1 0 bb_ 2) (S0_.1 0 bb_ 0) a3_ a4_) → S0_.2.2.1 49 (0 + ii_) (tk1 (S0_.2.2.1 22 (0 + bb_)) (S0_.2.2.1 23 (0 + bb_)) (S0_.1 0 bb_ 2) (S0_.1 0 bb_ 0) a3_ a4_).toNat ≤ 1999) (hx_ : 0 ≤ (tk1 (S0_.2.2.1 22 (0 + bb_)) (S0_.2.2.1 23 (0 + bb_)) (S0_.1 0 bb_ 2) (S0_.1 0 bb_ 0) a3_ a4_) → S0_.2.2.1 49 (0 + ii_) (tk1 (S0_.2.2.1 22 (0 + bb_)) (S0_.2.2.1 23 (0 + bb_)) (S0_.1 0 bb_ 2) (S0_.1 0 bb_ 0) a3_ a4_).toNat ≤ 19999) : sm_T (mt_P sc_) 2 74 (0, [some (.inr (.inr (some (4, ii_)))), some (.inr (.inr (some (0, bb_)))), some (.inl 1), some (.inl a3_), some (.inl a4_), none, none, none, none, none, none, none], [], S0_) (fun ro9_ => ∃ u_ S1_, ro9_ = (.inl u_, S1_, 0) ∧ vq_74c a3_ a4_ ii_ bb_ S0_ u_ S1_) := by
  have hF_ : ai_fr (sx_W vw_74c) S0_ S0_ := ai_fr_rf
  have hC_ : cdf ii_ S0_ S0_ := cdf_rf
  have cs_ : 0 ≤ S0_.1 0 bb_ 0 ∧ S0_.1 0 bb_ 0 ≤ 60 := hI_.1 0 bb_ 0 rfl
  have ch_ : 0 ≤ S0_.1 0 bb_ 2 ∧ S0_.1 0 bb_ 2 ≤ 38 := hI_.1 0 bb_ 2 rfl
  have mw9_ : 1 * (S0_.1 0 bb_ 0 + 2) ≤ (S0_.1 0 bb_ 2 + a4_) * (S0_.1 0 bb_ 0 + 2) := Int.mul_le_mul_of_nonneg_right (by omega) (by omega)
  have bx1_ : 0 ≤ S0_.1 0 bb_ 0 ∧ S0_.1 0 bb_ 0 ≤ 60 := hI_.1 0 bb_ 0 rfl
  refine sm_T_go 3 (c1 := (5, [some (.inr (.inr (some (4, ii_)))), some (.inr (.inr (some (0, bb_)))), some (.inl 1), some (.inl a3_), some (.inl a4_), none, none, none, none, none, none, none], [.inl 2, .inl (S0_.1 0 bb_ 0)], S0_)) rfl ?_
  refine sm_T_bin (w := (S0_.1 0 bb_ 0) + 2) rfl (bi_add (by omega) (by omega) (by omega)) ?_ -- pc_ 5
  have bx2_ : 0 ≤ S0_.1 0 bb_ 2 ∧ S0_.1 0 bb_ 2 ≤ 38 := hI_.1 0 bb_ 2 rfl
  refine sm_T_go 4 (c1 := (13, [some (.inr (.inr (some (4, ii_)))), some (.inr (.inr (some (0, bb_)))), some (.inl 1), some (.inl a3_), some (.inl a4_), some (.inl ((S0_.1 0 bb_ 0) + 2)), none, none, none, none, none, none], [.inl (S0_.1 0 bb_ 2), .inl 1], S0_)) rfl ?_
  refine sm_T_bin (w := (S0_.1 0 bb_ 2)) rfl (bi_mul (by omega) (by omega) (by omega)) ?_ -- pc_ 13
  refine sm_T_go 1 (c1 := (16, [some (.inr (.inr (some (4, ii_)))), some (.inr (.inr (some (0, bb_)))), some (.inl 1), some (.inl a3_), some (.inl a4_), some (.inl ((S0_.1 0 bb_ 0) + 2)), none, none, none, none, none, none], [.inl a4_, .inl (S0_.1 0 bb_ 2)], S0_)) rfl ?_
  refine sm_T_bin (w := (S0_.1 0 bb_ 2) + a4_) rfl (bi_add (by omega) (by omega) (by omega)) ?_ -- pc_ 16
  refine sm_T_go 1 (c1 := (19, [some (.inr (.inr (some (4, ii_)))), some (.inr (.inr (some (0, bb_)))), some (.inl 1), some (.inl a3_), some (.inl a4_), some (.inl ((S0_.1 0 bb_ 0) + 2)), none, none, none, none, none, none], [.inl ((S0_.1 0 bb_ 0) + 2), .inl ((S0_.1 0 bb_ 2) + a4_)], S0_)) rfl ?_
  have bx3_ := mul_b (x_ := ((S0_.1 0 bb_ 2) + a4_)) (y_ := ((S0_.1 0 bb_ 0) + 2)) (X_ := 75) (Y_ := 62) (Z_ := 4650) (by omega) (by omega) (by decide)
  refine sm_T_bin (w := (((S0_.1 0 bb_ 2) + a4_) * ((S0_.1 0 bb_ 0) + 2))) rfl (bi_mul rfl (by omega) (by omega)) ?_ -- pc_ 19
  refine sm_T_go 1 (c1 := (21, [some (.inr (.inr (some (4, ii_)))), some (.inr (.inr (some (0, bb_)))), some (.inl 1), some (.inl a3_), some (.inl a4_), some (.inl ((S0_.1 0 bb_ 0) + 2)), none, none, none, none, none, none], [.inl a3_, .inl (((S0_.1 0 bb_ 2) + a4_) * ((S0_.1 0 bb_ 0) + 2))], S0_)) rfl ?_
  refine sm_T_bin (w := (((S0_.1 0 bb_ 2) + a4_) * ((S0_.1 0 bb_ 0) + 2)) + a3_) rfl (bi_add (by omega) (by omega) (by omega)) ?_ -- pc_ 21
  refine sm_T_go 4 (c1 := (30, [some (.inr (.inr (some (4, ii_)))), some (.inr (.inr (some (0, bb_)))), some (.inl 1), some (.inl a3_), some (.inl a4_), some (.inl ((S0_.1 0 bb_ 0) + 2)), some (.inl ((((S0_.1 0 bb_ 2) + a4_) * ((S0_.1 0 bb_ 0) + 2)) + a3_)), none, none, none, none, none], [.inl ((((S0_.1 0 bb_ 2) + a4_) * ((S0_.1 0 bb_ 0) + 2)) + a3_), .inr (.inr (some (22, (0 + bb_))))], S0_)) rfl ?_
  refine sm_T_iald (n := 4712) rfl rfl (by omega) (by omega) ?_
  have bx4_ : (-1) ≤ S0_.2.2.1 22 (0 + bb_) ((((S0_.1 0 bb_ 2) + a4_) * ((S0_.1 0 bb_ 0) + 2)) + a3_).toNat ∧ S0_.2.2.1 22 (0 + bb_) ((((S0_.1 0 bb_ 2) + a4_) * ((S0_.1 0 bb_ 0) + 2)) + a3_).toNat ≤ 161 := hI_.2 22 (0 + bb_) _
  refine sm_T_go 1 (c1 := (32, [some (.inr (.inr (some (4, ii_)))), some (.inr (.inr (some (0, bb_)))), some (.inl 1), some (.inl a3_), some (.inl a4_), some (.inl ((S0_.1 0 bb_ 0) + 2)), some (.inl ((((S0_.1 0 bb_ 2) + a4_) * ((S0_.1 0 bb_ 0) + 2)) + a3_)), none, none, none, none, none], [.inl (-1), .inl (S0_.2.2.1 22 (0 + bb_) ((((S0_.1 0 bb_ 2) + a4_) * ((S0_.1 0 bb_ 0) + 2)) + a3_).toNat)], S0_)) rfl ?_
  refine sm_T_br (a := 1) (z := 4) rfl (fun cx5_ => ?_) (fun cx5_ => ?_)
  · have cx5_ : (S0_.2.2.1 22 (0 + bb_) ((((S0_.1 0 bb_ 2) + a4_) * ((S0_.1 0 bb_ 0) + 2)) + a3_).toNat) ≠ (-1) := of_decide_eq_true cx5_
    refine sm_T_go 11 (c1 := (69, [some (.inr (.inr (some (4, ii_)))), some (.inr (.inr (some (0, bb_)))), some (.inl 1), some (.inl a3_), some (.inl a4_), some (.inl ((S0_.1 0 bb_ 0) + 2)), some (.inl ((((S0_.1 0 bb_ 2) + a4_) * ((S0_.1 0 bb_ 0) + 2)) + a3_)), some (.inl ((S0_.1 0 bb_ 0) + 2)), some (.inl 2), none, none, none], [.inl a4_], S0_)) rfl ?_
    refine sm_T_b0 (a := 5) (z := 23) rfl (fun cx6_ => ?_) (fun cx6_ => ?_)
    · have cx6_ : a4_ ≤ 0 := of_decide_eq_true cx6_
      refine sm_T_go 9 (c1 := (119, [some (.inr (.inr (some (4, ii_)))), some (.inr (.inr (some (0, bb_)))), some (.inl 1), some (.inl a3_), some (.inl a4_), some (.inl ((S0_.1 0 bb_ 0) + 2)), some (.inl ((((S0_.1 0 bb_ 2) + a4_) * ((S0_.1 0 bb_ 0) + 2)) + a3_)), some (.inl ((S0_.1 0 bb_ 0) + 2)), some (.inl 2), some (.inl 0), none, none], [.inl 1, .inl (S0_.1 0 bb_ 2)], S0_)) rfl ?_
      refine sm_T_bin (w := (S0_.1 0 bb_ 2) - 1) rfl (bi_sub (by omega) (by omega) (by omega)) ?_ -- pc_ 119
      refine sm_T_go 1 (c1 := (122, [some (.inr (.inr (some (4, ii_)))), some (.inr (.inr (some (0, bb_)))), some (.inl 1), some (.inl a3_), some (.inl a4_), some (.inl ((S0_.1 0 bb_ 0) + 2)), some (.inl ((((S0_.1 0 bb_ 2) + a4_) * ((S0_.1 0 bb_ 0) + 2)) + a3_)), some (.inl ((S0_.1 0 bb_ 0) + 2)), some (.inl 2), some (.inl 0), none, none], [.inl a4_, .inl ((S0_.1 0 bb_ 2) - 1)], S0_)) rfl ?_
      refine sm_T_bin (w := (S0_.1 0 bb_ 2) - a4_ - 1) rfl (bi_sub (by omega) (by omega) (by omega)) ?_ -- pc_ 122
      refine sm_T_go 3 (c1 := (128, [some (.inr (.inr (some (4, ii_)))), some (.inr (.inr (some (0, bb_)))), some (.inl 1), some (.inl a3_), some (.inl a4_), some (.inl ((S0_.1 0 bb_ 0) + 2)), some (.inl ((((S0_.1 0 bb_ 2) + a4_) * ((S0_.1 0 bb_ 0) + 2)) + a3_)), some (.inl ((S0_.1 0 bb_ 0) + 2)), some (.inl 2), some (.inl 0), some (.inl ((S0_.1 0 bb_ 2) - a4_ - 1)), some (.inl 0)], [], S0_)) rfl ?_
      refine (vl_74c a3_ a4_ ii_ bb_ S0_ h3_ h4_ hw_ hx_ _) ((S0_.1 0 bb_ 0) + 2) ((((S0_.1 0 bb_ 2) + a4_) * ((S0_.1 0 bb_ 0) + 2)) + a3_) ((S0_.1 0 bb_ 0) + 2) ((S0_.1 0 bb_ 2) - a4_ - 1) 0 S0_ hI_ hF_ ⟨?_, ?_, ?_, ?_, ?_, ?_, trivial⟩ (Nat.lt_succ_self _)
      · omega
      · rfl
      · omega
      · rfl
      · (unfold tk1; rw [if_neg (by omega), if_neg (by rintro ⟨q1_, q2_⟩; omega)])
      · exact hC_
    · have cx6_ : ¬ (a4_ ≤ 0) := of_decide_eq_false cx6_
      refine sm_T_go 4 (c1 := (80, [some (.inr (.inr (some (4, ii_)))), some (.inr (.inr (some (0, bb_)))), some (.inl 1), some (.inl a3_), some (.inl a4_), some (.inl ((S0_.1 0 bb_ 0) + 2)), some (.inl ((((S0_.1 0 bb_ 2) + a4_) * ((S0_.1 0 bb_ 0) + 2)) + a3_)), some (.inl ((S0_.1 0 bb_ 0) + 2)), some (.inl 2), none, none, none], [.inl ((S0_.1 0 bb_ 0) + 2), .inl ((((S0_.1 0 bb_ 2) + a4_) * ((S0_.1 0 bb_ 0) + 2)) + a3_), .inr (.inr (some (23, (0 + bb_))))], S0_)) rfl ?_
      refine sm_T_bin (w := (((S0_.1 0 bb_ 2) + a4_) * ((S0_.1 0 bb_ 0) + 2)) + a3_ - (S0_.1 0 bb_ 0) - 2) rfl (bi_sub (by omega) (by omega) (by omega)) ?_ -- pc_ 80
      refine sm_T_iald (n := 4712) rfl rfl (by omega) (by omega) ?_
      have bx7_ : 0 ≤ S0_.2.2.1 23 (0 + bb_) ((((S0_.1 0 bb_ 2) + a4_) * ((S0_.1 0 bb_ 0) + 2)) + a3_ - (S0_.1 0 bb_ 0) - 2).toNat ∧ S0_.2.2.1 23 (0 + bb_) ((((S0_.1 0 bb_ 2) + a4_) * ((S0_.1 0 bb_ 0) + 2)) + a3_ - (S0_.1 0 bb_ 0) - 2).toNat ≤ 7 := hI_.2 23 (0 + bb_) _
      refine sm_T_go 1 (c1 := (84, [some (.inr (.inr (some (4, ii_)))), some (.inr (.inr (some (0, bb_)))), some (.inl 1), some (.inl a3_), some (.inl a4_), some (.inl ((S0_.1 0 bb_ 0) + 2)), some (.inl ((((S0_.1 0 bb_ 2) + a4_) * ((S0_.1 0 bb_ 0) + 2)) + a3_)), some (.inl ((S0_.1 0 bb_ 0) + 2)), some (.inl 2), none, none, none], [.inl 2, .inl (S0_.2.2.1 23 (0 + bb_) ((((S0_.1 0 bb_ 2) + a4_) * ((S0_.1 0 bb_ 0) + 2)) + a3_ - (S0_.1 0 bb_ 0) - 2).toNat)], S0_)) rfl ?_
      refine sm_T_bin (w := (i_and (S0_.2.2.1 23 (0 + bb_) ((((S0_.1 0 bb_ 2) + a4_) * ((S0_.1 0 bb_ 0) + 2)) + a3_ - (S0_.1 0 bb_ 0) - 2).toNat) 2)) rfl rfl ?_ -- pc_ 84
      first | have bx8_ := i_and_p (x_ := (S0_.2.2.1 23 (0 + bb_) ((((S0_.1 0 bb_ 2) + a4_) * ((S0_.1 0 bb_ 0) + 2)) + a3_ - (S0_.1 0 bb_ 0) - 2).toNat)) (y_ := 2) (by omega) (by omega) | have bx8_ := i_and_y (S0_.2.2.1 23 (0 + bb_) ((((S0_.1 0 bb_ 2) + a4_) * ((S0_.1 0 bb_ 0) + 2)) + a3_ - (S0_.1 0 bb_ 0) - 2).toNat) (y_ := 2) (by omega) | have bx8_ := i_and_x (x_ := (S0_.2.2.1 23 (0 + bb_) ((((S0_.1 0 bb_ 2) + a4_) * ((S0_.1 0 bb_ 0) + 2)) + a3_ - (S0_.1 0 bb_ 0) - 2).toNat)) 2 (by omega) | have bx8_ := i_and_n (S0_.2.2.1 23 (0 + bb_) ((((S0_.1 0 bb_ 2) + a4_) * ((S0_.1 0 bb_ 0) + 2)) + a3_ - (S0_.1 0 bb_ 0) - 2).toNat) 2
      refine sm_T_b0 (a := 0) (z := 7) rfl (fun cx9_ => ?_) (fun cx9_ => ?_)
      · have cx9_ : (i_and (S0_.2.2.1 23 (0 + bb_) ((((S0_.1 0 bb_ 2) + a4_) * ((S0_.1 0 bb_ 0) + 2)) + a3_ - (S0_.1 0 bb_ 0) - 2).toNat) 2) = 0 := of_decide_eq_true cx9_
        refine sm_T_go 9 (c1 := (119, [some (.inr (.inr (some (4, ii_)))), some (.inr (.inr (some (0, bb_)))), some (.inl 1), some (.inl a3_), some (.inl a4_), some (.inl ((S0_.1 0 bb_ 0) + 2)), some (.inl ((((S0_.1 0 bb_ 2) + a4_) * ((S0_.1 0 bb_ 0) + 2)) + a3_)), some (.inl ((S0_.1 0 bb_ 0) + 2)), some (.inl 2), some (.inl 0), none, none], [.inl 1, .inl (S0_.1 0 bb_ 2)], S0_)) rfl ?_
        refine sm_T_bin (w := (S0_.1 0 bb_ 2) - 1) rfl (bi_sub (by omega) (by omega) (by omega)) ?_ -- pc_ 119
        refine sm_T_go 1 (c1 := (122, [some (.inr (.inr (some (4, ii_)))), some (.inr (.inr (some (0, bb_)))), some (.inl 1), some (.inl a3_), some (.inl a4_), some (.inl ((S0_.1 0 bb_ 0) + 2)), some (.inl ((((S0_.1 0 bb_ 2) + a4_) * ((S0_.1 0 bb_ 0) + 2)) + a3_)), some (.inl ((S0_.1 0 bb_ 0) + 2)), some (.inl 2), some (.inl 0), none, none], [.inl a4_, .inl ((S0_.1 0 bb_ 2) - 1)], S0_)) rfl ?_
        refine sm_T_bin (w := (S0_.1 0 bb_ 2) - a4_ - 1) rfl (bi_sub (by omega) (by omega) (by omega)) ?_ -- pc_ 122
        refine sm_T_go 3 (c1 := (128, [some (.inr (.inr (some (4, ii_)))), some (.inr (.inr (some (0, bb_)))), some (.inl 1), some (.inl a3_), some (.inl a4_), some (.inl ((S0_.1 0 bb_ 0) + 2)), some (.inl ((((S0_.1 0 bb_ 2) + a4_) * ((S0_.1 0 bb_ 0) + 2)) + a3_)), some (.inl ((S0_.1 0 bb_ 0) + 2)), some (.inl 2), some (.inl 0), some (.inl ((S0_.1 0 bb_ 2) - a4_ - 1)), some (.inl 0)], [], S0_)) rfl ?_
        refine (vl_74c a3_ a4_ ii_ bb_ S0_ h3_ h4_ hw_ hx_ _) ((S0_.1 0 bb_ 0) + 2) ((((S0_.1 0 bb_ 2) + a4_) * ((S0_.1 0 bb_ 0) + 2)) + a3_) ((S0_.1 0 bb_ 0) + 2) ((S0_.1 0 bb_ 2) - a4_ - 1) 0 S0_ hI_ hF_ ⟨?_, ?_, ?_, ?_, ?_, ?_, trivial⟩ (Nat.lt_succ_self _)
        · omega
        · rfl
        · omega
        · rfl
        · (unfold tk1; rw [if_neg (by omega), if_neg (by rintro ⟨q1_, q2_⟩; omega)])
        · exact hC_
      · have cx9_ : ¬ ((i_and (S0_.2.2.1 23 (0 + bb_) ((((S0_.1 0 bb_ 2) + a4_) * ((S0_.1 0 bb_ 0) + 2)) + a3_ - (S0_.1 0 bb_ 0) - 2).toNat) 2) = 0) := of_decide_eq_false cx9_
        refine sm_T_go 5 (c1 := (100, [some (.inr (.inr (some (4, ii_)))), some (.inr (.inr (some (0, bb_)))), some (.inl 1), some (.inl a3_), some (.inl a4_), some (.inl ((S0_.1 0 bb_ 0) + 2)), some (.inl ((((S0_.1 0 bb_ 2) + a4_) * ((S0_.1 0 bb_ 0) + 2)) + a3_)), some (.inl ((S0_.1 0 bb_ 0) + 2)), some (.inl 2), some (.inl 1), none, none], [], S0_)) rfl ?_
        refine sm_T_rv rfl ⟨_, _, rfl, rfl, hI_, hF_, ?_⟩
        refine ⟨hC_, ?_⟩
        exact nxb9_n (by unfold tk1; rw [if_neg (by omega), if_pos ⟨by omega, by omega⟩]; decide)
  · have cx5_ : ¬ ((S0_.2.2.1 22 (0 + bb_) ((((S0_.1 0 bb_ 2) + a4_) * ((S0_.1 0 bb_ 0) + 2)) + a3_).toNat) ≠ (-1)) := of_decide_eq_false cx5_
    refine sm_T_rv rfl ⟨_, _, rfl, rfl, hI_, hF_, ?_⟩
    refine ⟨hC_, ?_⟩
    exact nxb9_n (by unfold tk1; rw [if_pos (by omega)]; decide)
end
