/-! Router.spread -/
def vw_161 : sx_Wl := ([(8, 6), (8, 8)], [86, 87, 88], [])
def vq_161 (a1_ : Int) (a2_ : Int) (bb_ : Nat) (S0_ : sm_S) (u_ : Option sm_V) (S1_ : sm_S) : Prop := ∃ v_ : Int, u_ = some (.inl v_) ∧ gi S1_ ∧ ai_fr (sx_W vw_161) S0_ S1_ ∧ (v_ = -1 ∨ ((0 ≤ v_ ∧ v_ < 2 * S1_.1 8 0 2) ∧ rsp bb_ a1_ S1_ ∧ 0 < S1_.2.2.1 86 0 v_.toNat ∧ S1_.2.2.1 22 (0 + bb_) v_.toNat ≠ a1_))
set_option maxHeartbeats 3000000 in
set_option maxRecDepth 20000 in
theorem vl_161 {sc_ : Nat × (Nat → Int)} (a1_ : Int) (a2_ : Int) (bb_ : Nat) (S0_ : sm_S) (hb_ : S0_.2.1 8 0 0 = some bb_) (hg_ : rgw S0_) (h1_ : 0 ≤ a1_ ∧ a1_ ≤ 161) (hn_ : bpn bb_ S0_) (hp_ : rpt bb_ S0_) (ht_ : trt bb_ a1_ S0_) : ∀ nn_ : Nat, (∀ (k_ : Int) (S_ : sm_S), gi S_ → ai_fr (sx_W vw_161) S0_ S_ → ((0 ≤ k_ ∧ k_ ≤ S0_.1 8 0 11) ∧ (∀ p_ : Nat, (p_ : Int) < 2 * S0_.1 8 0 2 → S_.2.2.1 86 0 p_ = -1 ∨ S_.2.2.1 86 0 p_ = 0) ∧ (∀ p_ : Nat, (p_ : Int) < 2 * S0_.1 8 0 2 → (S_.2.2.1 86 0 p_ = 0 ↔ ∃ i_ : Nat, (i_ : Int) < k_ ∧ S0_.2.2.1 90 0 i_ = (p_ : Int))) ∧ (∀ i_ : Nat, (i_ : Int) < S0_.1 8 0 11 → S_.2.2.1 87 0 i_ = S0_.2.2.1 90 0 i_) ∧ True) → ((20000 - k_).toNat) < nn_ → sm_T (mt_P sc_) 3 161 (34, [some (.inr (.inr (some (8, 0)))), some (.inl a1_), some (.inl a2_), some (.inl k_), none, none, none, none], [], S_) (fun ro9_ => ∃ u_ S1_, ro9_ = (.inl u_, S1_, 0) ∧ vq_161 a1_ a2_ bb_ S0_ u_ S1_)) ∧ (∀ (nh_ : Int) (fh_ : Int) (gd_ : Int) (S_ : sm_S), gi S_ → ai_fr (sx_W vw_161) S0_ S_ → ((0 ≤ nh_ ∧ nh_ ≤ S_.1 8 0 6 ∧ 0 ≤ fh_ ∧ fh_ ≤ S_.1 8 0 8 ∧ 0 ≤ gd_ ∧ gd_ ≤ 4712) ∧ (rsp bb_ a1_ S_) ∧ True) → ((10000 - gd_).toNat) < nn_ → sm_T (mt_P sc_) 3 161 (81, [some (.inr (.inr (some (8, 0)))), some (.inl a1_), some (.inl a2_), some (.inl nh_), some (.inl fh_), some (.inl gd_), none, none], [], S_) (fun ro9_ => ∃ u_ S1_, ro9_ = (.inl u_, S1_, 0) ∧ vq_161 a1_ a2_ bb_ S0_ u_ S1_)) := by
  intro nn_
  induction nn_ with
  | zero => exact ⟨fun _ _ _ _ _ h_ => absurd h_ (Nat.not_lt_zero _), fun _ _ _ _ _ _ _ h_ => absurd h_ (Nat.not_lt_zero _)⟩
  | succ nn_ ih_ =>
    refine ⟨?_, ?_⟩
    · rintro k_ S_ hI_ hF_ ⟨h0_, hd_, hz_, hc_, -⟩ hm_
      have e2_ : S_.1 8 0 2 = S0_.1 8 0 2 := hF_.1 8 0 2 rfl
      have eb_ : S_.1 8 0 11 = S0_.1 8 0 11 := hF_.1 8 0 11 rfl
      have e90_ : S_.2.2.1 90 0 = S0_.2.2.1 90 0 := fr_arr hF_ rfl
      have e22_ : S_.2.2.1 22 (0 + bb_) = S0_.2.2.1 22 (0 + bb_) := fr_arr hF_ rfl
      have cL_ : 0 ≤ S_.1 8 0 2 ∧ S_.1 8 0 2 ≤ 2356 := hI_.1 8 0 2 rfl
      have ct : 0 ≤ S_.1 8 0 11 ∧ S_.1 8 0 11 ≤ 4712 := hI_.1 8 0 11 rfl
      have bx1_ : 0 ≤ S_.1 8 0 11 ∧ S_.1 8 0 11 ≤ 4712 := hI_.1 8 0 11 rfl
      refine sm_T_go 3 (c1 := (39, [some (.inr (.inr (some (8, 0)))), some (.inl a1_), some (.inl a2_), some (.inl k_), none, none, none, none], [.inl (S_.1 8 0 11), .inl k_], S_)) rfl ?_
      refine sm_T_br (a := 3) (z := 21) rfl (fun cx2_ => ?_) (fun cx2_ => ?_)
      · have cx2_ : (S_.1 8 0 11) ≤ k_ := of_decide_eq_true cx2_
        have hIx3_ : gi (sm_pI S_ 8 0 6 (S_.1 8 0 11)) := gi_pI hI_ (show 0 ≤ (S_.1 8 0 11) ∧ (S_.1 8 0 11) ≤ 4712 from ⟨by omega, by omega⟩)
        have hFx4_ : ai_fr (sx_W vw_161) S0_ (sm_pI S_ 8 0 6 (S_.1 8 0 11)) := ai_fr_tr hF_ (ai_fr_pI rfl)
        have hIx5_ : gi (sm_pI (sm_pI S_ 8 0 6 (S_.1 8 0 11)) 8 0 8 0) := gi_pI hIx3_ (show 0 ≤ 0 ∧ 0 ≤ 4712 from ⟨by omega, by omega⟩)
        have hFx6_ : ai_fr (sx_W vw_161) S0_ (sm_pI (sm_pI S_ 8 0 6 (S_.1 8 0 11)) 8 0 8 0) := ai_fr_tr hFx4_ (ai_fr_pI rfl)
        refine sm_T_go 13 (c1 := (81, [some (.inr (.inr (some (8, 0)))), some (.inl a1_), some (.inl a2_), some (.inl 0), some (.inl 0), some (.inl 0), none, none], [], sm_pI (sm_pI S_ 8 0 6 (S_.1 8 0 11)) 8 0 8 0)) rfl ?_
        refine ih_.2 0 0 0 (sm_pI (sm_pI S_ 8 0 6 (S_.1 8 0 11)) 8 0 8 0) hIx5_ hFx6_ ⟨?_, ?_, trivial⟩ ?_
        · (simp only [rf_eq, rf_nk, ne_eq, Nat.reduceEqDiff, not_false_eq_true]; omega)
        · refine rsp_0 (show 0 ≤ S_.1 8 0 2 from cL_.1) (fun p_ hp9_ => hd_ p_ (by rw [← e2_]; exact hp9_)) (fun p_ hp9_ => ?_) ?_ rfl (fun i_ hi_ => ?_)
          · have y_ := hz_ p_ (by rw [← e2_]; exact hp9_)
            have x_ : S_.2.2.1 22 (0 + bb_) p_ = S0_.2.2.1 22 (0 + bb_) p_ := by rw [e22_]
            show S_.2.2.1 86 0 p_ = 0 ↔ S_.2.2.1 22 (0 + bb_) p_ = a1_
            rw [y_, x_]
            constructor
            · rintro ⟨i_, hi_, e_⟩; have w_ := (ht_.2.1 i_ (by omega)).2; rw [e_] at w_; exact w_
            · intro w_; obtain ⟨i_, hi_, e_⟩ := ht_.2.2 p_ (by rw [← e2_]; exact hp9_) w_; exact ⟨i_, by omega, e_⟩
          · show S_.1 8 0 11 = (cne (S_.2.2.1 22 (0 + bb_)) a1_ (2 * S_.1 8 0 2).toNat : Int)
            rw [eb_, e22_, e2_]; exact ht_.1
          · have hi9_ : (i_ : Int) < S_.1 8 0 11 := hi_
            have w_ := ht_.2.1 i_ (by omega)
            have x_ : S_.2.2.1 87 0 i_ = S0_.2.2.1 90 0 i_ := hc_ i_ (by omega)
            show (0 ≤ S_.2.2.1 87 0 i_ ∧ S_.2.2.1 87 0 i_ < 2 * S_.1 8 0 2) ∧ S_.2.2.1 22 (0 + bb_) (S_.2.2.1 87 0 i_).toNat = a1_
            rw [x_, e2_, e22_]; exact w_
        · omega
      · have cx2_ : ¬ ((S_.1 8 0 11) ≤ k_) := of_decide_eq_false cx2_
        have t9_ := ht_.2.1 k_.toNat (by omega)
        rw [← e90_] at t9_
        refine sm_T_go 5 (c1 := (51, [some (.inr (.inr (some (8, 0)))), some (.inl a1_), some (.inl a2_), some (.inl k_), none, none, none, none], [.inl k_, .inr (.inr (some (90, 0))), .inr (.inr (some (86, 0)))], S_)) rfl ?_
        refine sm_T_iald (n := 4712) rfl rfl (by omega) (by omega) ?_
        have bx7_ : 0 ≤ S_.2.2.1 90 0 k_.toNat ∧ S_.2.2.1 90 0 k_.toNat ≤ 4711 := hI_.2 90 0 _
        refine sm_T_go 1 (c1 := (53, [some (.inr (.inr (some (8, 0)))), some (.inl a1_), some (.inl a2_), some (.inl k_), none, none, none, none], [.inl 0, .inl (S_.2.2.1 90 0 k_.toNat), .inr (.inr (some (86, 0)))], S_)) rfl ?_
        refine sm_T_iast (n := 4712) rfl rfl (by omega) (by omega) ?_
        have hIx8_ : gi (sm_aI S_ 86 0 (S_.2.2.1 90 0 k_.toNat).toNat 0) := gi_aI hI_ (show (-1) ≤ 0 ∧ 0 ≤ 100000 from ⟨by omega, by omega⟩)
        have hFx9_ : ai_fr (sx_W vw_161) S0_ (sm_aI S_ 86 0 (S_.2.2.1 90 0 k_.toNat).toNat 0) := ai_fr_tr hF_ (ai_fr_aI rfl)
        refine sm_T_inc (a := 3) (z := 1) (v := k_) (w := k_ + 1) rfl rfl (by omega) (by omega) (by omega) ?_ -- pc_ 54
        refine sm_T_go 1 (c1 := (34, [some (.inr (.inr (some (8, 0)))), some (.inl a1_), some (.inl a2_), some (.inl (k_ + 1)), none, none, none, none], [], sm_aI S_ 86 0 (S_.2.2.1 90 0 k_.toNat).toNat 0)) rfl ?_
        refine ih_.1 (k_ + 1) (sm_aI S_ 86 0 (S_.2.2.1 90 0 k_.toNat).toNat 0) hIx8_ hFx9_ ⟨?_, ?_, ?_, ?_, trivial⟩ ?_
        · omega
        · intro p_ hp9_
          rw [rd_eq]
          split
          · right; rfl
          · exact hd_ p_ hp9_
        · intro p_ hp9_
          rw [rd_eq, e90_] at *
          by_cases y_ : p_ = (S0_.2.2.1 90 0 k_.toNat).toNat
          · rw [if_pos y_]
            exact ⟨fun _ => ⟨k_.toNat, by omega, by omega⟩, fun _ => rfl⟩
          · rw [if_neg y_, hz_ p_ hp9_]
            constructor
            · rintro ⟨i_, hi_, e_⟩; exact ⟨i_, by omega, e_⟩
            · rintro ⟨i_, hi_, e_⟩
              refine ⟨i_, ?_, e_⟩
              by_cases x_ : (i_ : Int) = k_
              · exfalso; rw [show i_ = k_.toNat by omega] at e_; omega
              · omega
        · intro i_ hi_
          rw [rd_ne (by decide)]
          exact hc_ i_ hi_
        · omega
    · rintro nh_ fh_ gd_ S_ hI_ hF_ ⟨h0_, hr_, -⟩ hm_
      have e2_ : S_.1 8 0 2 = S0_.1 8 0 2 := hF_.1 8 0 2 rfl
      have eb_ : S_.1 8 0 11 = S0_.1 8 0 11 := hF_.1 8 0 11 rfl
      have e90_ : S_.2.2.1 90 0 = S0_.2.2.1 90 0 := fr_arr hF_ rfl
      have e22_ : S_.2.2.1 22 (0 + bb_) = S0_.2.2.1 22 (0 + bb_) := fr_arr hF_ rfl
      have cL_ : 0 ≤ S_.1 8 0 2 ∧ S_.1 8 0 2 ≤ 2356 := hI_.1 8 0 2 rfl
      have ct : 0 ≤ S_.1 8 0 11 ∧ S_.1 8 0 11 ≤ 4712 := hI_.1 8 0 11 rfl
      have c6_ : 0 ≤ S_.1 8 0 6 ∧ S_.1 8 0 6 ≤ 4712 := hI_.1 8 0 6 rfl
      have c8_ : 0 ≤ S_.1 8 0 8 ∧ S_.1 8 0 8 ≤ 4712 := hI_.1 8 0 8 rfl
      have bx1_ : 0 ≤ S_.1 8 0 2 ∧ S_.1 8 0 2 ≤ 2356 := hI_.1 8 0 2 rfl
      refine sm_T_go 4 (c1 := (88, [some (.inr (.inr (some (8, 0)))), some (.inl a1_), some (.inl a2_), some (.inl nh_), some (.inl fh_), some (.inl gd_), none, none], [.inl (S_.1 8 0 2), .inl 2, .inl gd_], S_)) rfl ?_
      refine sm_T_bin (w := 2 * (S_.1 8 0 2)) rfl (bi_mul (by omega) (by omega) (by omega)) ?_ -- pc_ 88
      refine sm_T_br (a := 3) (z := 158) rfl (fun cx2_ => ?_) (fun cx2_ => ?_)
      · have cx2_ : 2 * (S_.1 8 0 2) ≤ gd_ := of_decide_eq_true cx2_
        refine sm_T_go 1 (c1 := (248, [some (.inr (.inr (some (8, 0)))), some (.inl a1_), some (.inl a2_), some (.inl nh_), some (.inl fh_), some (.inl gd_), none, none], [.inl (-1)], S_)) rfl ?_
        refine sm_T_ri rfl ⟨_, _, rfl, _, rfl, hI_, hF_, ?_⟩
        (left; rfl)
      · have cx2_ : ¬ (2 * (S_.1 8 0 2) ≤ gd_) := of_decide_eq_false cx2_
        have bx3_ : 0 ≤ S_.1 8 0 6 ∧ S_.1 8 0 6 ≤ 4712 := hI_.1 8 0 6 rfl
        refine sm_T_go 3 (c1 := (97, [some (.inr (.inr (some (8, 0)))), some (.inl a1_), some (.inl a2_), some (.inl nh_), some (.inl fh_), some (.inl gd_), none, none], [.inl (S_.1 8 0 6), .inl nh_], S_)) rfl ?_
        refine sm_T_br (a := 3) (z := 42) rfl (fun cx4_ => ?_) (fun cx4_ => ?_)
        · have cx4_ : (S_.1 8 0 6) ≤ nh_ := of_decide_eq_true cx4_
          have bx5_ : 0 ≤ S_.1 8 0 8 ∧ S_.1 8 0 8 ≤ 4712 := hI_.1 8 0 8 rfl
          refine sm_T_go 7 (c1 := (153, [some (.inr (.inr (some (8, 0)))), some (.inl a1_), some (.inl a2_), some (.inl nh_), some (.inl fh_), some (.inl gd_), some (.inl 0), none], [.inl (S_.1 8 0 8), .inl fh_], S_)) rfl ?_
          refine sm_T_br (a := 1) (z := 5) rfl (fun cx6_ => ?_) (fun cx6_ => ?_)
          · have cx6_ : fh_ ≠ (S_.1 8 0 8) := of_decide_eq_true cx6_
            have d2_ := hr_.2.2.2.2.1 fh_.toNat (by omega)
            refine sm_T_go 5 (c1 := (178, [some (.inr (.inr (some (8, 0)))), some (.inl a1_), some (.inl a2_), some (.inl nh_), some (.inl fh_), some (.inl gd_), some (.inl 0), none], [.inl fh_, .inr (.inr (some (88, 0)))], S_)) rfl ?_
            refine sm_T_iald (n := 4712) rfl rfl (by omega) (by omega) ?_
            have bx7_ : 0 ≤ S_.2.2.1 88 0 fh_.toNat ∧ S_.2.2.1 88 0 fh_.toNat ≤ 4711 := hI_.2 88 0 _
            refine sm_T_go 3 (c1 := (192, [some (.inr (.inr (some (8, 0)))), some (.inl a1_), some (.inl a2_), some (.inl nh_), some (.inl fh_), some (.inl gd_), some (.inl 0), some (.inl (S_.2.2.1 88 0 fh_.toNat))], [], S_)) rfl ?_
            refine sm_T_inc (a := 4) (z := 1) (v := fh_) (w := fh_ + 1) rfl rfl (by omega) (by omega) (by omega) ?_ -- pc_ 192
            refine sm_T_go 3 (c1 := (201, [some (.inr (.inr (some (8, 0)))), some (.inl a1_), some (.inl a2_), some (.inl nh_), some (.inl (fh_ + 1)), some (.inl gd_), some (.inl 0), some (.inl (S_.2.2.1 88 0 fh_.toNat))], [.inl (S_.2.2.1 88 0 fh_.toNat), .inr (.inr (some (85, 0)))], S_)) rfl ?_
            refine sm_T_iald (n := 4712) rfl rfl (by omega) (by omega) ?_
            have bx8_ : (-1) ≤ S_.2.2.1 85 0 (S_.2.2.1 88 0 fh_.toNat).toNat ∧ S_.2.2.1 85 0 (S_.2.2.1 88 0 fh_.toNat).toNat ≤ 161 := hI_.2 85 0 _
            refine sm_T_go 1 (c1 := (203, [some (.inr (.inr (some (8, 0)))), some (.inl a1_), some (.inl a2_), some (.inl nh_), some (.inl (fh_ + 1)), some (.inl gd_), some (.inl 0), some (.inl (S_.2.2.1 88 0 fh_.toNat))], [.inl a1_, .inl (S_.2.2.1 85 0 (S_.2.2.1 88 0 fh_.toNat).toNat)], S_)) rfl ?_
            refine sm_T_br (a := 1) (z := 30) rfl (fun cx9_ => ?_) (fun cx9_ => ?_)
            · have cx9_ : (S_.2.2.1 85 0 (S_.2.2.1 88 0 fh_.toNat).toNat) ≠ a1_ := of_decide_eq_true cx9_
              refine sm_T_go 4 (c1 := (238, [some (.inr (.inr (some (8, 0)))), some (.inl a1_), some (.inl a2_), some (.inl nh_), some (.inl (fh_ + 1)), some (.inl gd_), some (.inl 0), some (.inl (S_.2.2.1 88 0 fh_.toNat))], [.inl a2_, .inl a1_, .inl (S_.2.2.1 88 0 fh_.toNat), .inr (.inr (some (8, 0)))], S_)) rfl ?_
              refine sm_T_cal (d1 := 1) (Q1 := vq_162 (S_.2.2.1 88 0 fh_.toNat) a1_ a2_ bb_ S_) rfl rfl (by decide) (vc_162 (S_.2.2.1 88 0 fh_.toNat) a1_ a2_ bb_ S_ hI_ (by exact (hF_.2.1 8 0 0 rfl).trans hb_) (by exact rgw_fr hg_ hF_) (by exact hr_) (by omega) (by omega) (by omega)) (fun u_ Sx10_ px13_ => ?_)
              obtain ⟨rfl, hIx11_, hFx12_, px13_⟩ := px13_
              have hFx14_ : ai_fr (sx_W vw_161) S0_ Sx10_ := ai_fr_tr hF_ (fr_le hFx12_ rfl)
              have ex15_ : Sx10_.1 8 0 2 = S_.1 8 0 2 := hFx12_.1 8 0 2 rfl
              have s9_ := px13_.1
              have s8_ := px13_.2.2
              refine sm_T_inc (a := 5) (z := 1) (v := gd_) (w := gd_ + 1) rfl rfl (by omega) (by omega) (by omega) ?_ -- pc_ 241
              refine sm_T_go 1 (c1 := (81, [some (.inr (.inr (some (8, 0)))), some (.inl a1_), some (.inl a2_), some (.inl nh_), some (.inl (fh_ + 1)), some (.inl (gd_ + 1)), some (.inl 0), some (.inl (S_.2.2.1 88 0 fh_.toNat))], [], Sx10_)) rfl ?_
              refine sm_T_wk [some (.inr (.inr (some (8, 0)))), some (.inl a1_), some (.inl a2_), some (.inl nh_), some (.inl (fh_ + 1)), some (.inl (gd_ + 1)), none, none] (by exact ⟨rfl, rfl, rfl, rfl, rfl, rfl, trivial⟩) ?_
              refine ih_.2 nh_ (fh_ + 1) (gd_ + 1) Sx10_ hIx11_ hFx14_ ⟨?_, ?_, trivial⟩ ?_
              · omega
              · exact s9_
              · omega
            · have cx9_ : ¬ ((S_.2.2.1 85 0 (S_.2.2.1 88 0 fh_.toNat).toNat) ≠ a1_) := of_decide_eq_false cx9_
              refine sm_T_go 1 (c1 := (207, [some (.inr (.inr (some (8, 0)))), some (.inl a1_), some (.inl a2_), some (.inl nh_), some (.inl (fh_ + 1)), some (.inl gd_), some (.inl 0), some (.inl (S_.2.2.1 88 0 fh_.toNat))], [.inr (.inr (some (8, 0)))], S_)) rfl ?_
              refine sm_T_gr rfl rfl ((hF_.2.1 8 0 0 rfl).trans hb_) ?_
              refine sm_T_go 2 (c1 := (215, [some (.inr (.inr (some (8, 0)))), some (.inl a1_), some (.inl a2_), some (.inl nh_), some (.inl (fh_ + 1)), some (.inl gd_), some (.inl 0), some (.inl (S_.2.2.1 88 0 fh_.toNat))], [.inl (S_.2.2.1 88 0 fh_.toNat), .inr (.inr (some (22, (0 + bb_))))], S_)) rfl ?_
              refine sm_T_iald (n := 4712) rfl rfl (by omega) (by omega) ?_
              have bx16_ : (-1) ≤ S_.2.2.1 22 (0 + bb_) (S_.2.2.1 88 0 fh_.toNat).toNat ∧ S_.2.2.1 22 (0 + bb_) (S_.2.2.1 88 0 fh_.toNat).toNat ≤ 161 := hI_.2 22 (0 + bb_) _
              refine sm_T_go 1 (c1 := (217, [some (.inr (.inr (some (8, 0)))), some (.inl a1_), some (.inl a2_), some (.inl nh_), some (.inl (fh_ + 1)), some (.inl gd_), some (.inl 0), some (.inl (S_.2.2.1 88 0 fh_.toNat))], [.inl a1_, .inl (S_.2.2.1 22 (0 + bb_) (S_.2.2.1 88 0 fh_.toNat).toNat)], S_)) rfl ?_
              refine sm_T_br (a := 0) (z := 16) rfl (fun cx17_ => ?_) (fun cx17_ => ?_)
              · have cx17_ : (S_.2.2.1 22 (0 + bb_) (S_.2.2.1 88 0 fh_.toNat).toNat) = a1_ := of_decide_eq_true cx17_
                refine sm_T_go 4 (c1 := (238, [some (.inr (.inr (some (8, 0)))), some (.inl a1_), some (.inl a2_), some (.inl nh_), some (.inl (fh_ + 1)), some (.inl gd_), some (.inl 0), some (.inl (S_.2.2.1 88 0 fh_.toNat))], [.inl a2_, .inl a1_, .inl (S_.2.2.1 88 0 fh_.toNat), .inr (.inr (some (8, 0)))], S_)) rfl ?_
                refine sm_T_cal (d1 := 1) (Q1 := vq_162 (S_.2.2.1 88 0 fh_.toNat) a1_ a2_ bb_ S_) rfl rfl (by decide) (vc_162 (S_.2.2.1 88 0 fh_.toNat) a1_ a2_ bb_ S_ hI_ (by exact (hF_.2.1 8 0 0 rfl).trans hb_) (by exact rgw_fr hg_ hF_) (by exact hr_) (by omega) (by omega) (by omega)) (fun u_ Sx18_ px21_ => ?_)
                obtain ⟨rfl, hIx19_, hFx20_, px21_⟩ := px21_
                have hFx22_ : ai_fr (sx_W vw_161) S0_ Sx18_ := ai_fr_tr hF_ (fr_le hFx20_ rfl)
                have ex23_ : Sx18_.1 8 0 2 = S_.1 8 0 2 := hFx20_.1 8 0 2 rfl
                have s9_ := px21_.1
                have s8_ := px21_.2.2
                refine sm_T_inc (a := 5) (z := 1) (v := gd_) (w := gd_ + 1) rfl rfl (by omega) (by omega) (by omega) ?_ -- pc_ 241
                refine sm_T_go 1 (c1 := (81, [some (.inr (.inr (some (8, 0)))), some (.inl a1_), some (.inl a2_), some (.inl nh_), some (.inl (fh_ + 1)), some (.inl (gd_ + 1)), some (.inl 0), some (.inl (S_.2.2.1 88 0 fh_.toNat))], [], Sx18_)) rfl ?_
                refine sm_T_wk [some (.inr (.inr (some (8, 0)))), some (.inl a1_), some (.inl a2_), some (.inl nh_), some (.inl (fh_ + 1)), some (.inl (gd_ + 1)), none, none] (by exact ⟨rfl, rfl, rfl, rfl, rfl, rfl, trivial⟩) ?_
                refine ih_.2 nh_ (fh_ + 1) (gd_ + 1) Sx18_ hIx19_ hFx22_ ⟨?_, ?_, trivial⟩ ?_
                · omega
                · exact s9_
                · omega
              · have cx17_ : ¬ ((S_.2.2.1 22 (0 + bb_) (S_.2.2.1 88 0 fh_.toNat).toNat) = a1_) := of_decide_eq_false cx17_
                refine sm_T_go 5 (c1 := (228, [some (.inr (.inr (some (8, 0)))), some (.inl a1_), some (.inl a2_), some (.inl nh_), some (.inl (fh_ + 1)), some (.inl gd_), some (.inl 0), some (.inl (S_.2.2.1 88 0 fh_.toNat))], [.inl (S_.2.2.1 88 0 fh_.toNat), .inr (.inr (some (86, 0))), .inl a1_, .inr (.inr (some (8, 0)))], S_)) rfl ?_
                refine sm_T_iald (n := 4712) rfl rfl (by omega) (by omega) ?_
                have bx24_ : (-1) ≤ S_.2.2.1 86 0 (S_.2.2.1 88 0 fh_.toNat).toNat ∧ S_.2.2.1 86 0 (S_.2.2.1 88 0 fh_.toNat).toNat ≤ 100000 := hI_.2 86 0 _
                refine sm_T_cal (d1 := 2) (Q1 := vq_158 a1_ (S_.2.2.1 86 0 (S_.2.2.1 88 0 fh_.toNat).toNat) bb_ S_) rfl rfl (by decide) (vc_158 a1_ (S_.2.2.1 86 0 (S_.2.2.1 88 0 fh_.toNat).toNat) bb_ S_ hI_ (by exact (hF_.2.1 8 0 0 rfl).trans hb_) (by omega) (by exact bpn_fr hn_ hF_ rfl rfl rfl rfl) (by exact rpt_fr hp_ hF_)) (fun u_ Sx25_ px28_ => ?_)
                obtain ⟨rfl, vx30_, rfl, px28_⟩ := px28_
                have n9_ := px28_
                have k9_ : S_.2.2.1 86 0 (vx30_).toNat = 0 → S_.2.2.1 22 (0 + bb_) (vx30_).toNat ≠ a1_ → 0 ≤ vx30_ → vx30_ < 2 * S_.1 8 0 2 → False := fun y_ w_ z1_ z2_ => w_ ((hr_.1 _ (by omega)).mp y_)
                refine sm_T_ri rfl ⟨_, _, rfl, _, rfl, hI_, hF_, ?_⟩
                rcases n9_ with u9_ | u9_
                · left; exact u9_.1
                · right
                  obtain ⟨v1_, v2_, v3_⟩ := u9_
                  rcases v3_ with v3_ | v3_
                  · exfalso; omega
                  · refine ⟨by omega, hr_, ?_, v2_⟩
                    exact Decidable.byContradiction fun q9_ => k9_ (by omega) v2_ (by omega) (by omega)
          · have cx6_ : ¬ (fh_ ≠ (S_.1 8 0 8)) := of_decide_eq_false cx6_
            refine sm_T_go 1 (c1 := (157, [some (.inr (.inr (some (8, 0)))), some (.inl a1_), some (.inl a2_), some (.inl nh_), some (.inl fh_), some (.inl gd_), some (.inl 0), none], [.inl (-1)], S_)) rfl ?_
            refine sm_T_ri rfl ⟨_, _, rfl, _, rfl, hI_, hF_, ?_⟩
            (left; rfl)
        · have cx4_ : ¬ ((S_.1 8 0 6) ≤ nh_) := of_decide_eq_false cx4_
          have d1_ := hr_.2.2.2.1 nh_.toNat (by omega)
          have bx31_ : 0 ≤ S_.1 8 0 8 ∧ S_.1 8 0 8 ≤ 4712 := hI_.1 8 0 8 rfl
          refine sm_T_go 3 (c1 := (106, [some (.inr (.inr (some (8, 0)))), some (.inl a1_), some (.inl a2_), some (.inl nh_), some (.inl fh_), some (.inl gd_), none, none], [.inl (S_.1 8 0 8), .inl fh_], S_)) rfl ?_
          refine sm_T_br (a := 0) (z := 29) rfl (fun cx32_ => ?_) (fun cx32_ => ?_)
          · have cx32_ : fh_ = (S_.1 8 0 8) := of_decide_eq_true cx32_
            refine sm_T_go 10 (c1 := (168, [some (.inr (.inr (some (8, 0)))), some (.inl a1_), some (.inl a2_), some (.inl nh_), some (.inl fh_), some (.inl gd_), some (.inl 1), none], [.inl nh_, .inr (.inr (some (87, 0)))], S_)) rfl ?_
            refine sm_T_iald (n := 4712) rfl rfl (by omega) (by omega) ?_
            have bx33_ : 0 ≤ S_.2.2.1 87 0 nh_.toNat ∧ S_.2.2.1 87 0 nh_.toNat ≤ 4711 := hI_.2 87 0 _
            refine sm_T_go 4 (c1 := (186, [some (.inr (.inr (some (8, 0)))), some (.inl a1_), some (.inl a2_), some (.inl nh_), some (.inl fh_), some (.inl gd_), some (.inl 1), some (.inl (S_.2.2.1 87 0 nh_.toNat))], [], S_)) rfl ?_
            refine sm_T_inc (a := 3) (z := 1) (v := nh_) (w := nh_ + 1) rfl rfl (by omega) (by omega) (by omega) ?_ -- pc_ 186
            refine sm_T_go 4 (c1 := (201, [some (.inr (.inr (some (8, 0)))), some (.inl a1_), some (.inl a2_), some (.inl (nh_ + 1)), some (.inl fh_), some (.inl gd_), some (.inl 1), some (.inl (S_.2.2.1 87 0 nh_.toNat))], [.inl (S_.2.2.1 87 0 nh_.toNat), .inr (.inr (some (85, 0)))], S_)) rfl ?_
            refine sm_T_iald (n := 4712) rfl rfl (by omega) (by omega) ?_
            have bx34_ : (-1) ≤ S_.2.2.1 85 0 (S_.2.2.1 87 0 nh_.toNat).toNat ∧ S_.2.2.1 85 0 (S_.2.2.1 87 0 nh_.toNat).toNat ≤ 161 := hI_.2 85 0 _
            refine sm_T_go 1 (c1 := (203, [some (.inr (.inr (some (8, 0)))), some (.inl a1_), some (.inl a2_), some (.inl (nh_ + 1)), some (.inl fh_), some (.inl gd_), some (.inl 1), some (.inl (S_.2.2.1 87 0 nh_.toNat))], [.inl a1_, .inl (S_.2.2.1 85 0 (S_.2.2.1 87 0 nh_.toNat).toNat)], S_)) rfl ?_
            refine sm_T_br (a := 1) (z := 30) rfl (fun cx35_ => ?_) (fun cx35_ => ?_)
            · have cx35_ : (S_.2.2.1 85 0 (S_.2.2.1 87 0 nh_.toNat).toNat) ≠ a1_ := of_decide_eq_true cx35_
              refine sm_T_go 4 (c1 := (238, [some (.inr (.inr (some (8, 0)))), some (.inl a1_), some (.inl a2_), some (.inl (nh_ + 1)), some (.inl fh_), some (.inl gd_), some (.inl 1), some (.inl (S_.2.2.1 87 0 nh_.toNat))], [.inl a2_, .inl a1_, .inl (S_.2.2.1 87 0 nh_.toNat), .inr (.inr (some (8, 0)))], S_)) rfl ?_
              refine sm_T_cal (d1 := 1) (Q1 := vq_162 (S_.2.2.1 87 0 nh_.toNat) a1_ a2_ bb_ S_) rfl rfl (by decide) (vc_162 (S_.2.2.1 87 0 nh_.toNat) a1_ a2_ bb_ S_ hI_ (by exact (hF_.2.1 8 0 0 rfl).trans hb_) (by exact rgw_fr hg_ hF_) (by exact hr_) (by omega) (by omega) (by omega)) (fun u_ Sx36_ px39_ => ?_)
              obtain ⟨rfl, hIx37_, hFx38_, px39_⟩ := px39_
              have hFx40_ : ai_fr (sx_W vw_161) S0_ Sx36_ := ai_fr_tr hF_ (fr_le hFx38_ rfl)
              have ex41_ : Sx36_.1 8 0 2 = S_.1 8 0 2 := hFx38_.1 8 0 2 rfl
              have s9_ := px39_.1
              have s8_ := px39_.2.2
              refine sm_T_inc (a := 5) (z := 1) (v := gd_) (w := gd_ + 1) rfl rfl (by omega) (by omega) (by omega) ?_ -- pc_ 241
              refine sm_T_go 1 (c1 := (81, [some (.inr (.inr (some (8, 0)))), some (.inl a1_), some (.inl a2_), some (.inl (nh_ + 1)), some (.inl fh_), some (.inl (gd_ + 1)), some (.inl 1), some (.inl (S_.2.2.1 87 0 nh_.toNat))], [], Sx36_)) rfl ?_
              refine sm_T_wk [some (.inr (.inr (some (8, 0)))), some (.inl a1_), some (.inl a2_), some (.inl (nh_ + 1)), some (.inl fh_), some (.inl (gd_ + 1)), none, none] (by exact ⟨rfl, rfl, rfl, rfl, rfl, rfl, trivial⟩) ?_
              refine ih_.2 (nh_ + 1) fh_ (gd_ + 1) Sx36_ hIx37_ hFx40_ ⟨?_, ?_, trivial⟩ ?_
              · omega
              · exact s9_
              · omega
            · have cx35_ : ¬ ((S_.2.2.1 85 0 (S_.2.2.1 87 0 nh_.toNat).toNat) ≠ a1_) := of_decide_eq_false cx35_
              refine sm_T_go 1 (c1 := (207, [some (.inr (.inr (some (8, 0)))), some (.inl a1_), some (.inl a2_), some (.inl (nh_ + 1)), some (.inl fh_), some (.inl gd_), some (.inl 1), some (.inl (S_.2.2.1 87 0 nh_.toNat))], [.inr (.inr (some (8, 0)))], S_)) rfl ?_
              refine sm_T_gr rfl rfl ((hF_.2.1 8 0 0 rfl).trans hb_) ?_
              refine sm_T_go 2 (c1 := (215, [some (.inr (.inr (some (8, 0)))), some (.inl a1_), some (.inl a2_), some (.inl (nh_ + 1)), some (.inl fh_), some (.inl gd_), some (.inl 1), some (.inl (S_.2.2.1 87 0 nh_.toNat))], [.inl (S_.2.2.1 87 0 nh_.toNat), .inr (.inr (some (22, (0 + bb_))))], S_)) rfl ?_
              refine sm_T_iald (n := 4712) rfl rfl (by omega) (by omega) ?_
              have bx42_ : (-1) ≤ S_.2.2.1 22 (0 + bb_) (S_.2.2.1 87 0 nh_.toNat).toNat ∧ S_.2.2.1 22 (0 + bb_) (S_.2.2.1 87 0 nh_.toNat).toNat ≤ 161 := hI_.2 22 (0 + bb_) _
              refine sm_T_go 1 (c1 := (217, [some (.inr (.inr (some (8, 0)))), some (.inl a1_), some (.inl a2_), some (.inl (nh_ + 1)), some (.inl fh_), some (.inl gd_), some (.inl 1), some (.inl (S_.2.2.1 87 0 nh_.toNat))], [.inl a1_, .inl (S_.2.2.1 22 (0 + bb_) (S_.2.2.1 87 0 nh_.toNat).toNat)], S_)) rfl ?_
              refine sm_T_br (a := 0) (z := 16) rfl (fun cx43_ => ?_) (fun cx43_ => ?_)
              · have cx43_ : (S_.2.2.1 22 (0 + bb_) (S_.2.2.1 87 0 nh_.toNat).toNat) = a1_ := of_decide_eq_true cx43_
                refine sm_T_go 4 (c1 := (238, [some (.inr (.inr (some (8, 0)))), some (.inl a1_), some (.inl a2_), some (.inl (nh_ + 1)), some (.inl fh_), some (.inl gd_), some (.inl 1), some (.inl (S_.2.2.1 87 0 nh_.toNat))], [.inl a2_, .inl a1_, .inl (S_.2.2.1 87 0 nh_.toNat), .inr (.inr (some (8, 0)))], S_)) rfl ?_
                refine sm_T_cal (d1 := 1) (Q1 := vq_162 (S_.2.2.1 87 0 nh_.toNat) a1_ a2_ bb_ S_) rfl rfl (by decide) (vc_162 (S_.2.2.1 87 0 nh_.toNat) a1_ a2_ bb_ S_ hI_ (by exact (hF_.2.1 8 0 0 rfl).trans hb_) (by exact rgw_fr hg_ hF_) (by exact hr_) (by omega) (by omega) (by omega)) (fun u_ Sx44_ px47_ => ?_)
                obtain ⟨rfl, hIx45_, hFx46_, px47_⟩ := px47_
                have hFx48_ : ai_fr (sx_W vw_161) S0_ Sx44_ := ai_fr_tr hF_ (fr_le hFx46_ rfl)
                have ex49_ : Sx44_.1 8 0 2 = S_.1 8 0 2 := hFx46_.1 8 0 2 rfl
                have s9_ := px47_.1
                have s8_ := px47_.2.2
                refine sm_T_inc (a := 5) (z := 1) (v := gd_) (w := gd_ + 1) rfl rfl (by omega) (by omega) (by omega) ?_ -- pc_ 241
                refine sm_T_go 1 (c1 := (81, [some (.inr (.inr (some (8, 0)))), some (.inl a1_), some (.inl a2_), some (.inl (nh_ + 1)), some (.inl fh_), some (.inl (gd_ + 1)), some (.inl 1), some (.inl (S_.2.2.1 87 0 nh_.toNat))], [], Sx44_)) rfl ?_
                refine sm_T_wk [some (.inr (.inr (some (8, 0)))), some (.inl a1_), some (.inl a2_), some (.inl (nh_ + 1)), some (.inl fh_), some (.inl (gd_ + 1)), none, none] (by exact ⟨rfl, rfl, rfl, rfl, rfl, rfl, trivial⟩) ?_
                refine ih_.2 (nh_ + 1) fh_ (gd_ + 1) Sx44_ hIx45_ hFx48_ ⟨?_, ?_, trivial⟩ ?_
                · omega
                · exact s9_
                · omega
              · have cx43_ : ¬ ((S_.2.2.1 22 (0 + bb_) (S_.2.2.1 87 0 nh_.toNat).toNat) = a1_) := of_decide_eq_false cx43_
                refine sm_T_go 5 (c1 := (228, [some (.inr (.inr (some (8, 0)))), some (.inl a1_), some (.inl a2_), some (.inl (nh_ + 1)), some (.inl fh_), some (.inl gd_), some (.inl 1), some (.inl (S_.2.2.1 87 0 nh_.toNat))], [.inl (S_.2.2.1 87 0 nh_.toNat), .inr (.inr (some (86, 0))), .inl a1_, .inr (.inr (some (8, 0)))], S_)) rfl ?_
                refine sm_T_iald (n := 4712) rfl rfl (by omega) (by omega) ?_
                have bx50_ : (-1) ≤ S_.2.2.1 86 0 (S_.2.2.1 87 0 nh_.toNat).toNat ∧ S_.2.2.1 86 0 (S_.2.2.1 87 0 nh_.toNat).toNat ≤ 100000 := hI_.2 86 0 _
                refine sm_T_cal (d1 := 2) (Q1 := vq_158 a1_ (S_.2.2.1 86 0 (S_.2.2.1 87 0 nh_.toNat).toNat) bb_ S_) rfl rfl (by decide) (vc_158 a1_ (S_.2.2.1 86 0 (S_.2.2.1 87 0 nh_.toNat).toNat) bb_ S_ hI_ (by exact (hF_.2.1 8 0 0 rfl).trans hb_) (by omega) (by exact bpn_fr hn_ hF_ rfl rfl rfl rfl) (by exact rpt_fr hp_ hF_)) (fun u_ Sx51_ px54_ => ?_)
                obtain ⟨rfl, vx56_, rfl, px54_⟩ := px54_
                have n9_ := px54_
                have k9_ : S_.2.2.1 86 0 (vx56_).toNat = 0 → S_.2.2.1 22 (0 + bb_) (vx56_).toNat ≠ a1_ → 0 ≤ vx56_ → vx56_ < 2 * S_.1 8 0 2 → False := fun y_ w_ z1_ z2_ => w_ ((hr_.1 _ (by omega)).mp y_)
                refine sm_T_ri rfl ⟨_, _, rfl, _, rfl, hI_, hF_, ?_⟩
                rcases n9_ with u9_ | u9_
                · left; exact u9_.1
                · right
                  obtain ⟨v1_, v2_, v3_⟩ := u9_
                  rcases v3_ with v3_ | v3_
                  · exfalso; omega
                  · refine ⟨by omega, hr_, ?_, v2_⟩
                    exact Decidable.byContradiction fun q9_ => k9_ (by omega) v2_ (by omega) (by omega)
          · have cx32_ : ¬ (fh_ = (S_.1 8 0 8)) := of_decide_eq_false cx32_
            have d2_ := hr_.2.2.2.2.1 fh_.toNat (by omega)
            refine sm_T_go 5 (c1 := (118, [some (.inr (.inr (some (8, 0)))), some (.inl a1_), some (.inl a2_), some (.inl nh_), some (.inl fh_), some (.inl gd_), none, none], [.inl nh_, .inr (.inr (some (87, 0))), .inr (.inr (some (86, 0)))], S_)) rfl ?_
            refine sm_T_iald (n := 4712) rfl rfl (by omega) (by omega) ?_
            have bx57_ : 0 ≤ S_.2.2.1 87 0 nh_.toNat ∧ S_.2.2.1 87 0 nh_.toNat ≤ 4711 := hI_.2 87 0 _
            refine sm_T_iald (n := 4712) rfl rfl (by omega) (by omega) ?_
            have bx58_ : (-1) ≤ S_.2.2.1 86 0 (S_.2.2.1 87 0 nh_.toNat).toNat ∧ S_.2.2.1 86 0 (S_.2.2.1 87 0 nh_.toNat).toNat ≤ 100000 := hI_.2 86 0 _
            refine sm_T_go 5 (c1 := (130, [some (.inr (.inr (some (8, 0)))), some (.inl a1_), some (.inl a2_), some (.inl nh_), some (.inl fh_), some (.inl gd_), none, none], [.inl fh_, .inr (.inr (some (88, 0))), .inr (.inr (some (86, 0))), .inl (S_.2.2.1 86 0 (S_.2.2.1 87 0 nh_.toNat).toNat)], S_)) rfl ?_
            refine sm_T_iald (n := 4712) rfl rfl (by omega) (by omega) ?_
            have bx59_ : 0 ≤ S_.2.2.1 88 0 fh_.toNat ∧ S_.2.2.1 88 0 fh_.toNat ≤ 4711 := hI_.2 88 0 _
            refine sm_T_iald (n := 4712) rfl rfl (by omega) (by omega) ?_
            have bx60_ : (-1) ≤ S_.2.2.1 86 0 (S_.2.2.1 88 0 fh_.toNat).toNat ∧ S_.2.2.1 86 0 (S_.2.2.1 88 0 fh_.toNat).toNat ≤ 100000 := hI_.2 86 0 _
            refine sm_T_br (a := 4) (z := 7) rfl (fun cx61_ => ?_) (fun cx61_ => ?_)
            · have cx61_ : (S_.2.2.1 86 0 (S_.2.2.1 88 0 fh_.toNat).toNat) < (S_.2.2.1 86 0 (S_.2.2.1 87 0 nh_.toNat).toNat) := of_decide_eq_true cx61_
              refine sm_T_go 7 (c1 := (153, [some (.inr (.inr (some (8, 0)))), some (.inl a1_), some (.inl a2_), some (.inl nh_), some (.inl fh_), some (.inl gd_), some (.inl 0), none], [.inl (S_.1 8 0 8), .inl fh_], S_)) rfl ?_
              refine sm_T_br (a := 1) (z := 5) rfl (fun cx62_ => ?_) (fun cx62_ => ?_)
              · have cx62_ : fh_ ≠ (S_.1 8 0 8) := of_decide_eq_true cx62_
                have d2_ := hr_.2.2.2.2.1 fh_.toNat (by omega)
                refine sm_T_go 5 (c1 := (178, [some (.inr (.inr (some (8, 0)))), some (.inl a1_), some (.inl a2_), some (.inl nh_), some (.inl fh_), some (.inl gd_), some (.inl 0), none], [.inl fh_, .inr (.inr (some (88, 0)))], S_)) rfl ?_
                refine sm_T_iald (n := 4712) rfl rfl (by omega) (by omega) ?_
                refine sm_T_go 3 (c1 := (192, [some (.inr (.inr (some (8, 0)))), some (.inl a1_), some (.inl a2_), some (.inl nh_), some (.inl fh_), some (.inl gd_), some (.inl 0), some (.inl (S_.2.2.1 88 0 fh_.toNat))], [], S_)) rfl ?_
                refine sm_T_inc (a := 4) (z := 1) (v := fh_) (w := fh_ + 1) rfl rfl (by omega) (by omega) (by omega) ?_ -- pc_ 192
                refine sm_T_go 3 (c1 := (201, [some (.inr (.inr (some (8, 0)))), some (.inl a1_), some (.inl a2_), some (.inl nh_), some (.inl (fh_ + 1)), some (.inl gd_), some (.inl 0), some (.inl (S_.2.2.1 88 0 fh_.toNat))], [.inl (S_.2.2.1 88 0 fh_.toNat), .inr (.inr (some (85, 0)))], S_)) rfl ?_
                refine sm_T_iald (n := 4712) rfl rfl (by omega) (by omega) ?_
                have bx63_ : (-1) ≤ S_.2.2.1 85 0 (S_.2.2.1 88 0 fh_.toNat).toNat ∧ S_.2.2.1 85 0 (S_.2.2.1 88 0 fh_.toNat).toNat ≤ 161 := hI_.2 85 0 _
                refine sm_T_go 1 (c1 := (203, [some (.inr (.inr (some (8, 0)))), some (.inl a1_), some (.inl a2_), some (.inl nh_), some (.inl (fh_ + 1)), some (.inl gd_), some (.inl 0), some (.inl (S_.2.2.1 88 0 fh_.toNat))], [.inl a1_, .inl (S_.2.2.1 85 0 (S_.2.2.1 88 0 fh_.toNat).toNat)], S_)) rfl ?_
                refine sm_T_br (a := 1) (z := 30) rfl (fun cx64_ => ?_) (fun cx64_ => ?_)
                · have cx64_ : (S_.2.2.1 85 0 (S_.2.2.1 88 0 fh_.toNat).toNat) ≠ a1_ := of_decide_eq_true cx64_
                  refine sm_T_go 4 (c1 := (238, [some (.inr (.inr (some (8, 0)))), some (.inl a1_), some (.inl a2_), some (.inl nh_), some (.inl (fh_ + 1)), some (.inl gd_), some (.inl 0), some (.inl (S_.2.2.1 88 0 fh_.toNat))], [.inl a2_, .inl a1_, .inl (S_.2.2.1 88 0 fh_.toNat), .inr (.inr (some (8, 0)))], S_)) rfl ?_
                  refine sm_T_cal (d1 := 1) (Q1 := vq_162 (S_.2.2.1 88 0 fh_.toNat) a1_ a2_ bb_ S_) rfl rfl (by decide) (vc_162 (S_.2.2.1 88 0 fh_.toNat) a1_ a2_ bb_ S_ hI_ (by exact (hF_.2.1 8 0 0 rfl).trans hb_) (by exact rgw_fr hg_ hF_) (by exact hr_) (by omega) (by omega) (by omega)) (fun u_ Sx65_ px68_ => ?_)
                  obtain ⟨rfl, hIx66_, hFx67_, px68_⟩ := px68_
                  have hFx69_ : ai_fr (sx_W vw_161) S0_ Sx65_ := ai_fr_tr hF_ (fr_le hFx67_ rfl)
                  have ex70_ : Sx65_.1 8 0 2 = S_.1 8 0 2 := hFx67_.1 8 0 2 rfl
                  have s9_ := px68_.1
                  have s8_ := px68_.2.2
                  refine sm_T_inc (a := 5) (z := 1) (v := gd_) (w := gd_ + 1) rfl rfl (by omega) (by omega) (by omega) ?_ -- pc_ 241
                  refine sm_T_go 1 (c1 := (81, [some (.inr (.inr (some (8, 0)))), some (.inl a1_), some (.inl a2_), some (.inl nh_), some (.inl (fh_ + 1)), some (.inl (gd_ + 1)), some (.inl 0), some (.inl (S_.2.2.1 88 0 fh_.toNat))], [], Sx65_)) rfl ?_
                  refine sm_T_wk [some (.inr (.inr (some (8, 0)))), some (.inl a1_), some (.inl a2_), some (.inl nh_), some (.inl (fh_ + 1)), some (.inl (gd_ + 1)), none, none] (by exact ⟨rfl, rfl, rfl, rfl, rfl, rfl, trivial⟩) ?_
                  refine ih_.2 nh_ (fh_ + 1) (gd_ + 1) Sx65_ hIx66_ hFx69_ ⟨?_, ?_, trivial⟩ ?_
                  · omega
                  · exact s9_
                  · omega
                · have cx64_ : ¬ ((S_.2.2.1 85 0 (S_.2.2.1 88 0 fh_.toNat).toNat) ≠ a1_) := of_decide_eq_false cx64_
                  refine sm_T_go 1 (c1 := (207, [some (.inr (.inr (some (8, 0)))), some (.inl a1_), some (.inl a2_), some (.inl nh_), some (.inl (fh_ + 1)), some (.inl gd_), some (.inl 0), some (.inl (S_.2.2.1 88 0 fh_.toNat))], [.inr (.inr (some (8, 0)))], S_)) rfl ?_
                  refine sm_T_gr rfl rfl ((hF_.2.1 8 0 0 rfl).trans hb_) ?_
                  refine sm_T_go 2 (c1 := (215, [some (.inr (.inr (some (8, 0)))), some (.inl a1_), some (.inl a2_), some (.inl nh_), some (.inl (fh_ + 1)), some (.inl gd_), some (.inl 0), some (.inl (S_.2.2.1 88 0 fh_.toNat))], [.inl (S_.2.2.1 88 0 fh_.toNat), .inr (.inr (some (22, (0 + bb_))))], S_)) rfl ?_
                  refine sm_T_iald (n := 4712) rfl rfl (by omega) (by omega) ?_
                  have bx71_ : (-1) ≤ S_.2.2.1 22 (0 + bb_) (S_.2.2.1 88 0 fh_.toNat).toNat ∧ S_.2.2.1 22 (0 + bb_) (S_.2.2.1 88 0 fh_.toNat).toNat ≤ 161 := hI_.2 22 (0 + bb_) _
                  refine sm_T_go 1 (c1 := (217, [some (.inr (.inr (some (8, 0)))), some (.inl a1_), some (.inl a2_), some (.inl nh_), some (.inl (fh_ + 1)), some (.inl gd_), some (.inl 0), some (.inl (S_.2.2.1 88 0 fh_.toNat))], [.inl a1_, .inl (S_.2.2.1 22 (0 + bb_) (S_.2.2.1 88 0 fh_.toNat).toNat)], S_)) rfl ?_
                  refine sm_T_br (a := 0) (z := 16) rfl (fun cx72_ => ?_) (fun cx72_ => ?_)
                  · have cx72_ : (S_.2.2.1 22 (0 + bb_) (S_.2.2.1 88 0 fh_.toNat).toNat) = a1_ := of_decide_eq_true cx72_
                    refine sm_T_go 4 (c1 := (238, [some (.inr (.inr (some (8, 0)))), some (.inl a1_), some (.inl a2_), some (.inl nh_), some (.inl (fh_ + 1)), some (.inl gd_), some (.inl 0), some (.inl (S_.2.2.1 88 0 fh_.toNat))], [.inl a2_, .inl a1_, .inl (S_.2.2.1 88 0 fh_.toNat), .inr (.inr (some (8, 0)))], S_)) rfl ?_
                    refine sm_T_cal (d1 := 1) (Q1 := vq_162 (S_.2.2.1 88 0 fh_.toNat) a1_ a2_ bb_ S_) rfl rfl (by decide) (vc_162 (S_.2.2.1 88 0 fh_.toNat) a1_ a2_ bb_ S_ hI_ (by exact (hF_.2.1 8 0 0 rfl).trans hb_) (by exact rgw_fr hg_ hF_) (by exact hr_) (by omega) (by omega) (by omega)) (fun u_ Sx73_ px76_ => ?_)
                    obtain ⟨rfl, hIx74_, hFx75_, px76_⟩ := px76_
                    have hFx77_ : ai_fr (sx_W vw_161) S0_ Sx73_ := ai_fr_tr hF_ (fr_le hFx75_ rfl)
                    have ex78_ : Sx73_.1 8 0 2 = S_.1 8 0 2 := hFx75_.1 8 0 2 rfl
                    have s9_ := px76_.1
                    have s8_ := px76_.2.2
                    refine sm_T_inc (a := 5) (z := 1) (v := gd_) (w := gd_ + 1) rfl rfl (by omega) (by omega) (by omega) ?_ -- pc_ 241
                    refine sm_T_go 1 (c1 := (81, [some (.inr (.inr (some (8, 0)))), some (.inl a1_), some (.inl a2_), some (.inl nh_), some (.inl (fh_ + 1)), some (.inl (gd_ + 1)), some (.inl 0), some (.inl (S_.2.2.1 88 0 fh_.toNat))], [], Sx73_)) rfl ?_
                    refine sm_T_wk [some (.inr (.inr (some (8, 0)))), some (.inl a1_), some (.inl a2_), some (.inl nh_), some (.inl (fh_ + 1)), some (.inl (gd_ + 1)), none, none] (by exact ⟨rfl, rfl, rfl, rfl, rfl, rfl, trivial⟩) ?_
                    refine ih_.2 nh_ (fh_ + 1) (gd_ + 1) Sx73_ hIx74_ hFx77_ ⟨?_, ?_, trivial⟩ ?_
                    · omega
                    · exact s9_
                    · omega
                  · have cx72_ : ¬ ((S_.2.2.1 22 (0 + bb_) (S_.2.2.1 88 0 fh_.toNat).toNat) = a1_) := of_decide_eq_false cx72_
                    refine sm_T_go 5 (c1 := (228, [some (.inr (.inr (some (8, 0)))), some (.inl a1_), some (.inl a2_), some (.inl nh_), some (.inl (fh_ + 1)), some (.inl gd_), some (.inl 0), some (.inl (S_.2.2.1 88 0 fh_.toNat))], [.inl (S_.2.2.1 88 0 fh_.toNat), .inr (.inr (some (86, 0))), .inl a1_, .inr (.inr (some (8, 0)))], S_)) rfl ?_
                    refine sm_T_iald (n := 4712) rfl rfl (by omega) (by omega) ?_
                    refine sm_T_cal (d1 := 2) (Q1 := vq_158 a1_ (S_.2.2.1 86 0 (S_.2.2.1 88 0 fh_.toNat).toNat) bb_ S_) rfl rfl (by decide) (vc_158 a1_ (S_.2.2.1 86 0 (S_.2.2.1 88 0 fh_.toNat).toNat) bb_ S_ hI_ (by exact (hF_.2.1 8 0 0 rfl).trans hb_) (by omega) (by exact bpn_fr hn_ hF_ rfl rfl rfl rfl) (by exact rpt_fr hp_ hF_)) (fun u_ Sx79_ px82_ => ?_)
                    obtain ⟨rfl, vx84_, rfl, px82_⟩ := px82_
                    have n9_ := px82_
                    have k9_ : S_.2.2.1 86 0 (vx84_).toNat = 0 → S_.2.2.1 22 (0 + bb_) (vx84_).toNat ≠ a1_ → 0 ≤ vx84_ → vx84_ < 2 * S_.1 8 0 2 → False := fun y_ w_ z1_ z2_ => w_ ((hr_.1 _ (by omega)).mp y_)
                    refine sm_T_ri rfl ⟨_, _, rfl, _, rfl, hI_, hF_, ?_⟩
                    rcases n9_ with u9_ | u9_
                    · left; exact u9_.1
                    · right
                      obtain ⟨v1_, v2_, v3_⟩ := u9_
                      rcases v3_ with v3_ | v3_
                      · exfalso; omega
                      · refine ⟨by omega, hr_, ?_, v2_⟩
                        exact Decidable.byContradiction fun q9_ => k9_ (by omega) v2_ (by omega) (by omega)
              · have cx62_ : ¬ (fh_ ≠ (S_.1 8 0 8)) := of_decide_eq_false cx62_
                refine sm_T_go 1 (c1 := (157, [some (.inr (.inr (some (8, 0)))), some (.inl a1_), some (.inl a2_), some (.inl nh_), some (.inl fh_), some (.inl gd_), some (.inl 0), none], [.inl (-1)], S_)) rfl ?_
                refine sm_T_ri rfl ⟨_, _, rfl, _, rfl, hI_, hF_, ?_⟩
                (left; rfl)
            · have cx61_ : ¬ ((S_.2.2.1 86 0 (S_.2.2.1 88 0 fh_.toNat).toNat) < (S_.2.2.1 86 0 (S_.2.2.1 87 0 nh_.toNat).toNat)) := of_decide_eq_false cx61_
              refine sm_T_go 10 (c1 := (168, [some (.inr (.inr (some (8, 0)))), some (.inl a1_), some (.inl a2_), some (.inl nh_), some (.inl fh_), some (.inl gd_), some (.inl 1), none], [.inl nh_, .inr (.inr (some (87, 0)))], S_)) rfl ?_
              refine sm_T_iald (n := 4712) rfl rfl (by omega) (by omega) ?_
              refine sm_T_go 4 (c1 := (186, [some (.inr (.inr (some (8, 0)))), some (.inl a1_), some (.inl a2_), some (.inl nh_), some (.inl fh_), some (.inl gd_), some (.inl 1), some (.inl (S_.2.2.1 87 0 nh_.toNat))], [], S_)) rfl ?_
              refine sm_T_inc (a := 3) (z := 1) (v := nh_) (w := nh_ + 1) rfl rfl (by omega) (by omega) (by omega) ?_ -- pc_ 186
              refine sm_T_go 4 (c1 := (201, [some (.inr (.inr (some (8, 0)))), some (.inl a1_), some (.inl a2_), some (.inl (nh_ + 1)), some (.inl fh_), some (.inl gd_), some (.inl 1), some (.inl (S_.2.2.1 87 0 nh_.toNat))], [.inl (S_.2.2.1 87 0 nh_.toNat), .inr (.inr (some (85, 0)))], S_)) rfl ?_
              refine sm_T_iald (n := 4712) rfl rfl (by omega) (by omega) ?_
              have bx85_ : (-1) ≤ S_.2.2.1 85 0 (S_.2.2.1 87 0 nh_.toNat).toNat ∧ S_.2.2.1 85 0 (S_.2.2.1 87 0 nh_.toNat).toNat ≤ 161 := hI_.2 85 0 _
              refine sm_T_go 1 (c1 := (203, [some (.inr (.inr (some (8, 0)))), some (.inl a1_), some (.inl a2_), some (.inl (nh_ + 1)), some (.inl fh_), some (.inl gd_), some (.inl 1), some (.inl (S_.2.2.1 87 0 nh_.toNat))], [.inl a1_, .inl (S_.2.2.1 85 0 (S_.2.2.1 87 0 nh_.toNat).toNat)], S_)) rfl ?_
              refine sm_T_br (a := 1) (z := 30) rfl (fun cx86_ => ?_) (fun cx86_ => ?_)
              · have cx86_ : (S_.2.2.1 85 0 (S_.2.2.1 87 0 nh_.toNat).toNat) ≠ a1_ := of_decide_eq_true cx86_
                refine sm_T_go 4 (c1 := (238, [some (.inr (.inr (some (8, 0)))), some (.inl a1_), some (.inl a2_), some (.inl (nh_ + 1)), some (.inl fh_), some (.inl gd_), some (.inl 1), some (.inl (S_.2.2.1 87 0 nh_.toNat))], [.inl a2_, .inl a1_, .inl (S_.2.2.1 87 0 nh_.toNat), .inr (.inr (some (8, 0)))], S_)) rfl ?_
                refine sm_T_cal (d1 := 1) (Q1 := vq_162 (S_.2.2.1 87 0 nh_.toNat) a1_ a2_ bb_ S_) rfl rfl (by decide) (vc_162 (S_.2.2.1 87 0 nh_.toNat) a1_ a2_ bb_ S_ hI_ (by exact (hF_.2.1 8 0 0 rfl).trans hb_) (by exact rgw_fr hg_ hF_) (by exact hr_) (by omega) (by omega) (by omega)) (fun u_ Sx87_ px90_ => ?_)
                obtain ⟨rfl, hIx88_, hFx89_, px90_⟩ := px90_
                have hFx91_ : ai_fr (sx_W vw_161) S0_ Sx87_ := ai_fr_tr hF_ (fr_le hFx89_ rfl)
                have ex92_ : Sx87_.1 8 0 2 = S_.1 8 0 2 := hFx89_.1 8 0 2 rfl
                have s9_ := px90_.1
                have s8_ := px90_.2.2
                refine sm_T_inc (a := 5) (z := 1) (v := gd_) (w := gd_ + 1) rfl rfl (by omega) (by omega) (by omega) ?_ -- pc_ 241
                refine sm_T_go 1 (c1 := (81, [some (.inr (.inr (some (8, 0)))), some (.inl a1_), some (.inl a2_), some (.inl (nh_ + 1)), some (.inl fh_), some (.inl (gd_ + 1)), some (.inl 1), some (.inl (S_.2.2.1 87 0 nh_.toNat))], [], Sx87_)) rfl ?_
                refine sm_T_wk [some (.inr (.inr (some (8, 0)))), some (.inl a1_), some (.inl a2_), some (.inl (nh_ + 1)), some (.inl fh_), some (.inl (gd_ + 1)), none, none] (by exact ⟨rfl, rfl, rfl, rfl, rfl, rfl, trivial⟩) ?_
                refine ih_.2 (nh_ + 1) fh_ (gd_ + 1) Sx87_ hIx88_ hFx91_ ⟨?_, ?_, trivial⟩ ?_
                · omega
                · exact s9_
                · omega
              · have cx86_ : ¬ ((S_.2.2.1 85 0 (S_.2.2.1 87 0 nh_.toNat).toNat) ≠ a1_) := of_decide_eq_false cx86_
                refine sm_T_go 1 (c1 := (207, [some (.inr (.inr (some (8, 0)))), some (.inl a1_), some (.inl a2_), some (.inl (nh_ + 1)), some (.inl fh_), some (.inl gd_), some (.inl 1), some (.inl (S_.2.2.1 87 0 nh_.toNat))], [.inr (.inr (some (8, 0)))], S_)) rfl ?_
                refine sm_T_gr rfl rfl ((hF_.2.1 8 0 0 rfl).trans hb_) ?_
                refine sm_T_go 2 (c1 := (215, [some (.inr (.inr (some (8, 0)))), some (.inl a1_), some (.inl a2_), some (.inl (nh_ + 1)), some (.inl fh_), some (.inl gd_), some (.inl 1), some (.inl (S_.2.2.1 87 0 nh_.toNat))], [.inl (S_.2.2.1 87 0 nh_.toNat), .inr (.inr (some (22, (0 + bb_))))], S_)) rfl ?_
                refine sm_T_iald (n := 4712) rfl rfl (by omega) (by omega) ?_
                have bx93_ : (-1) ≤ S_.2.2.1 22 (0 + bb_) (S_.2.2.1 87 0 nh_.toNat).toNat ∧ S_.2.2.1 22 (0 + bb_) (S_.2.2.1 87 0 nh_.toNat).toNat ≤ 161 := hI_.2 22 (0 + bb_) _
                refine sm_T_go 1 (c1 := (217, [some (.inr (.inr (some (8, 0)))), some (.inl a1_), some (.inl a2_), some (.inl (nh_ + 1)), some (.inl fh_), some (.inl gd_), some (.inl 1), some (.inl (S_.2.2.1 87 0 nh_.toNat))], [.inl a1_, .inl (S_.2.2.1 22 (0 + bb_) (S_.2.2.1 87 0 nh_.toNat).toNat)], S_)) rfl ?_
                refine sm_T_br (a := 0) (z := 16) rfl (fun cx94_ => ?_) (fun cx94_ => ?_)
                · have cx94_ : (S_.2.2.1 22 (0 + bb_) (S_.2.2.1 87 0 nh_.toNat).toNat) = a1_ := of_decide_eq_true cx94_
                  refine sm_T_go 4 (c1 := (238, [some (.inr (.inr (some (8, 0)))), some (.inl a1_), some (.inl a2_), some (.inl (nh_ + 1)), some (.inl fh_), some (.inl gd_), some (.inl 1), some (.inl (S_.2.2.1 87 0 nh_.toNat))], [.inl a2_, .inl a1_, .inl (S_.2.2.1 87 0 nh_.toNat), .inr (.inr (some (8, 0)))], S_)) rfl ?_
                  refine sm_T_cal (d1 := 1) (Q1 := vq_162 (S_.2.2.1 87 0 nh_.toNat) a1_ a2_ bb_ S_) rfl rfl (by decide) (vc_162 (S_.2.2.1 87 0 nh_.toNat) a1_ a2_ bb_ S_ hI_ (by exact (hF_.2.1 8 0 0 rfl).trans hb_) (by exact rgw_fr hg_ hF_) (by exact hr_) (by omega) (by omega) (by omega)) (fun u_ Sx95_ px98_ => ?_)
                  obtain ⟨rfl, hIx96_, hFx97_, px98_⟩ := px98_
                  have hFx99_ : ai_fr (sx_W vw_161) S0_ Sx95_ := ai_fr_tr hF_ (fr_le hFx97_ rfl)
                  have ex100_ : Sx95_.1 8 0 2 = S_.1 8 0 2 := hFx97_.1 8 0 2 rfl
                  have s9_ := px98_.1
                  have s8_ := px98_.2.2
                  refine sm_T_inc (a := 5) (z := 1) (v := gd_) (w := gd_ + 1) rfl rfl (by omega) (by omega) (by omega) ?_ -- pc_ 241
                  refine sm_T_go 1 (c1 := (81, [some (.inr (.inr (some (8, 0)))), some (.inl a1_), some (.inl a2_), some (.inl (nh_ + 1)), some (.inl fh_), some (.inl (gd_ + 1)), some (.inl 1), some (.inl (S_.2.2.1 87 0 nh_.toNat))], [], Sx95_)) rfl ?_
                  refine sm_T_wk [some (.inr (.inr (some (8, 0)))), some (.inl a1_), some (.inl a2_), some (.inl (nh_ + 1)), some (.inl fh_), some (.inl (gd_ + 1)), none, none] (by exact ⟨rfl, rfl, rfl, rfl, rfl, rfl, trivial⟩) ?_
                  refine ih_.2 (nh_ + 1) fh_ (gd_ + 1) Sx95_ hIx96_ hFx99_ ⟨?_, ?_, trivial⟩ ?_
                  · omega
                  · exact s9_
                  · omega
                · have cx94_ : ¬ ((S_.2.2.1 22 (0 + bb_) (S_.2.2.1 87 0 nh_.toNat).toNat) = a1_) := of_decide_eq_false cx94_
                  refine sm_T_go 5 (c1 := (228, [some (.inr (.inr (some (8, 0)))), some (.inl a1_), some (.inl a2_), some (.inl (nh_ + 1)), some (.inl fh_), some (.inl gd_), some (.inl 1), some (.inl (S_.2.2.1 87 0 nh_.toNat))], [.inl (S_.2.2.1 87 0 nh_.toNat), .inr (.inr (some (86, 0))), .inl a1_, .inr (.inr (some (8, 0)))], S_)) rfl ?_
                  refine sm_T_iald (n := 4712) rfl rfl (by omega) (by omega) ?_
                  refine sm_T_cal (d1 := 2) (Q1 := vq_158 a1_ (S_.2.2.1 86 0 (S_.2.2.1 87 0 nh_.toNat).toNat) bb_ S_) rfl rfl (by decide) (vc_158 a1_ (S_.2.2.1 86 0 (S_.2.2.1 87 0 nh_.toNat).toNat) bb_ S_ hI_ (by exact (hF_.2.1 8 0 0 rfl).trans hb_) (by omega) (by exact bpn_fr hn_ hF_ rfl rfl rfl rfl) (by exact rpt_fr hp_ hF_)) (fun u_ Sx101_ px104_ => ?_)
                  obtain ⟨rfl, vx106_, rfl, px104_⟩ := px104_
                  have n9_ := px104_
                  have k9_ : S_.2.2.1 86 0 (vx106_).toNat = 0 → S_.2.2.1 22 (0 + bb_) (vx106_).toNat ≠ a1_ → 0 ≤ vx106_ → vx106_ < 2 * S_.1 8 0 2 → False := fun y_ w_ z1_ z2_ => w_ ((hr_.1 _ (by omega)).mp y_)
                  refine sm_T_ri rfl ⟨_, _, rfl, _, rfl, hI_, hF_, ?_⟩
                  rcases n9_ with u9_ | u9_
                  · left; exact u9_.1
                  · right
                    obtain ⟨v1_, v2_, v3_⟩ := u9_
                    rcases v3_ with v3_ | v3_
                    · exfalso; omega
                    · refine ⟨by omega, hr_, ?_, v2_⟩
                      exact Decidable.byContradiction fun q9_ => k9_ (by omega) v2_ (by omega) (by omega)
set_option maxHeartbeats 3000000 in
set_option maxRecDepth 20000 in
theorem vc_161 {sc_ : Nat × (Nat → Int)} (a1_ : Int) (a2_ : Int) (bb_ : Nat) (S0_ : sm_S) (hI_ : gi S0_) (hb_ : S0_.2.1 8 0 0 = some bb_) (hg_ : rgw S0_) (h1_ : 0 ≤ a1_ ∧ a1_ ≤ 161) (hn_ : bpn bb_ S0_) (hp_ : rpt bb_ S0_) (ht_ : trt bb_ a1_ S0_) : sm_T (mt_P sc_) 3 161 (0, [some (.inr (.inr (some (8, 0)))), some (.inl a1_), some (.inl a2_), none, none, none, none, none], [], S0_) (fun ro9_ => ∃ u_ S1_, ro9_ = (.inl u_, S1_, 0) ∧ vq_161 a1_ a2_ bb_ S0_ u_ S1_) := by
  have hF_ : ai_fr (sx_W vw_161) S0_ S0_ := ai_fr_rf
  have cL_ : 0 ≤ S0_.1 8 0 2 ∧ S0_.1 8 0 2 ≤ 2356 := hI_.1 8 0 2 rfl
  have ct : 0 ≤ S0_.1 8 0 11 ∧ S0_.1 8 0 11 ≤ 4712 := hI_.1 8 0 11 rfl
  have bx1_ : 0 ≤ S0_.1 8 0 2 ∧ S0_.1 8 0 2 ≤ 2356 := hI_.1 8 0 2 rfl
  refine sm_T_go 6 (c1 := (10, [some (.inr (.inr (some (8, 0)))), some (.inl a1_), some (.inl a2_), none, none, none, none, none], [.inl (S0_.1 8 0 2), .inl 2, .inl 0, .inr (.inr (some (86, 0)))], S0_)) rfl ?_
  refine sm_T_bin (w := 2 * (S0_.1 8 0 2)) rfl (bi_mul (by omega) (by omega) (by omega)) ?_ -- pc_ 10
  refine sm_T_go 1 (c1 := (12, [some (.inr (.inr (some (8, 0)))), some (.inl a1_), some (.inl a2_), none, none, none, none, none], [.inl (-1), .inl (2 * (S0_.1 8 0 2)), .inl 0, .inr (.inr (some (86, 0)))], S0_)) rfl ?_
  refine sm_T_cal (d1 := 1) (Q1 := vq_3d6 0 (2 * (S0_.1 8 0 2)) (-1) S0_) rfl rfl (by decide) (vc_3d6 0 (2 * (S0_.1 8 0 2)) (-1) S0_ hI_ (by decide) (by omega)) (fun u_ Sx2_ px5_ => ?_)
  obtain ⟨rfl, hIx3_, hFx4_, px5_⟩ := px5_
  have hFx6_ : ai_fr (sx_W vw_161) S0_ Sx2_ := ai_fr_tr hF_ (fr_le hFx4_ rfl)
  have ex7_ : Sx2_.1 8 0 2 = S0_.1 8 0 2 := hFx4_.1 8 0 2 rfl
  have e12 := px5_
  have w11_ := hFx4_.1 8 0 11 rfl
  have w2_ := hFx4_.1 8 0 2 rfl
  have w90_ := hFx4_.2.2 90 rfl 0
  have bx8_ : 0 ≤ Sx2_.1 8 0 11 ∧ Sx2_.1 8 0 11 ≤ 4712 := hIx3_.1 8 0 11 rfl
  refine sm_T_go 8 (c1 := (29, [some (.inr (.inr (some (8, 0)))), some (.inl a1_), some (.inl a2_), none, none, none, none, none], [.inl (Sx2_.1 8 0 11), .inl 0, .inr (.inr (some (87, 0))), .inl 0, .inr (.inr (some (90, 0)))], Sx2_)) rfl ?_
  refine sm_T_nt (u := none) (S1 := sm_acI Sx2_ 90 0 87 0 (0 : Int).toNat (0 : Int).toNat (Sx2_.1 8 0 11).toNat) rfl rfl (nt_acI (sc := sc_) (t := 90) (i := 0) (t' := 87) (i' := 0) (x := 0) (y := 0) (m := (Sx2_.1 8 0 11)) (n := 4712) (n1 := 4712) rfl rfl (by omega) (by omega) (by omega) (by omega) (by omega)) ?_
  have hIx9_ : gi (sm_acI Sx2_ 90 0 87 0 (0 : Int).toNat (0 : Int).toNat (Sx2_.1 8 0 11).toNat) := gi_ac hIx3_ (by decide) (by decide)
  have hFx10_ : ai_fr (sx_W vw_161) S0_ (sm_acI Sx2_ 90 0 87 0 (0 : Int).toNat (0 : Int).toNat (Sx2_.1 8 0 11).toNat) := ai_fr_tr hFx6_ (fr_ac rfl)
  refine sm_T_go 2 (c1 := (34, [some (.inr (.inr (some (8, 0)))), some (.inl a1_), some (.inl a2_), some (.inl 0), none, none, none, none], [], sm_acI Sx2_ 90 0 87 0 (0 : Int).toNat (0 : Int).toNat (Sx2_.1 8 0 11).toNat)) rfl ?_
  refine (vl_161 a1_ a2_ bb_ S0_ hb_ hg_ h1_ hn_ hp_ ht_ _).1 0 (sm_acI Sx2_ 90 0 87 0 (0 : Int).toNat (0 : Int).toNat (Sx2_.1 8 0 11).toNat) hIx9_ hFx10_ ⟨?_, ?_, ?_, ?_, trivial⟩ (Nat.lt_succ_self _)
  · omega
  · intro p_ hp9_
    left
    rw [sm_acI_ne (by decide)]
    exact e12 p_ (by omega) (by omega)
  · intro p_ hp9_
    rw [sm_acI_ne (by decide), e12 p_ (by omega) (by omega)]
    constructor
    · intro y_; exact absurd y_ (by decide)
    · rintro ⟨i_, hi_, -⟩; exfalso; omega
  · intro i_ hi_
    rw [sm_acI_at]
    unfold sm_cp
    rw [if_pos ⟨Nat.zero_le _, by omega⟩, show (0 : Int).toNat + (i_ - (0 : Int).toNat) = i_ by (show 0 + (i_ - 0) = i_; omega)]
    exact (w90_ i_).1
