/-! M_.workFunctions -/
def vw_352 : sx_Wl := ([], [171], [])
def vq_352 (F_ : Nat) (S0_ : sm_S) (u_ : Option sm_V) (S1_ : sm_S) : Prop := u_ = none ∧ gi S1_ ∧ ai_fr (sx_W vw_352) S0_ S1_ ∧ (∀ m9_ : Nat, (m9_ : Int) < S0_.1 13 0 37 → srw F_ m9_ 64 (-1) (S0_.2.2.1 140 0) (S0_.2.2.1 141 0) (S1_.2.2.2 171 0))
set_option maxHeartbeats 1500000 in
theorem vl_352 {sc_ : Nat × (Nat → Int)} (F_ : Nat) (S0_ : sm_S) (hg_ : rgr F_ S0_) : ∀ nn_ : Nat, (∀ (n_ : Int) (S_ : sm_S), gi S_ → ai_fr (sx_W vw_352) S0_ S_ → ((0 ≤ n_ ∧ n_ ≤ S0_.1 13 0 37) ∧ (∀ m9_ : Nat, (m9_ : Int) < n_ → srw F_ m9_ 64 (-1) (S0_.2.2.1 140 0) (S0_.2.2.1 141 0) (S_.2.2.2 171 0)) ∧ True) → ((100 * (1100 - n_) + 90).toNat) < nn_ → sm_T (mt_P sc_) 1 352 (2, [some (.inr (.inr (some (13, 0)))), some (.inl n_), none], [], S_) (fun ro9_ => ∃ u_ S1_, ro9_ = (.inl u_, S1_, 0) ∧ vq_352 F_ S0_ u_ S1_)) ∧ (∀ (n_ : Int) (w_ : Int) (S_ : sm_S), gi S_ → ai_fr (sx_W vw_352) S0_ S_ → ((0 ≤ n_ ∧ n_ < S0_.1 13 0 37 ∧ 0 ≤ w_ ∧ w_ ≤ 64) ∧ (∀ m9_ : Nat, (m9_ : Int) < n_ → srw F_ m9_ 64 (-1) (S0_.2.2.1 140 0) (S0_.2.2.1 141 0) (S_.2.2.2 171 0)) ∧ (srw F_ n_.toNat w_.toNat (-1) (S0_.2.2.1 140 0) (S0_.2.2.1 141 0) (S_.2.2.2 171 0)) ∧ True) → ((100 * (1100 - n_) + 80 - w_).toNat) < nn_ → sm_T (mt_P sc_) 1 352 (12, [some (.inr (.inr (some (13, 0)))), some (.inl n_), some (.inl w_)], [], S_) (fun ro9_ => ∃ u_ S1_, ro9_ = (.inl u_, S1_, 0) ∧ vq_352 F_ S0_ u_ S1_)) := by
  intro nn_
  induction nn_ with
  | zero => exact ⟨fun _ _ _ _ _ h_ => absurd h_ (Nat.not_lt_zero _), fun _ _ _ _ _ _ h_ => absurd h_ (Nat.not_lt_zero _)⟩
  | succ nn_ ih_ =>
    refine ⟨?_, ?_⟩
    · rintro n_ S_ hI_ hF_ ⟨h0_, h1_, -⟩ hm_
      have g1_ := hg_.1
      have g2_ := hg_.2.1
      have e37_ : S_.1 13 0 37 = S0_.1 13 0 37 := hF_.1 13 0 37 rfl
      have e38_ : S_.1 13 0 38 = S0_.1 13 0 38 := hF_.1 13 0 38 rfl
      have f40_ : S_.2.2.1 140 0 = S0_.2.2.1 140 0 := fr_arr hF_ rfl
      have f41_ : S_.2.2.1 141 0 = S0_.2.2.1 141 0 := fr_arr hF_ rfl
      have bx1_ : 0 ≤ S_.1 13 0 37 ∧ S_.1 13 0 37 ≤ 1014 := hI_.1 13 0 37 rfl
      refine sm_T_go 3 (c1 := (7, [some (.inr (.inr (some (13, 0)))), some (.inl n_), none], [.inl (S_.1 13 0 37), .inl n_], S_)) rfl ?_
      refine sm_T_br (a := 3) (z := 83) rfl (fun cx2_ => ?_) (fun cx2_ => ?_)
      · have cx2_ : (S_.1 13 0 37) ≤ n_ := of_decide_eq_true cx2_
        refine sm_T_rv rfl ⟨_, _, rfl, rfl, hI_, hF_, ?_⟩
        intro m9_ hm9_
        exact h1_ m9_ (by omega)
      · have cx2_ : ¬ ((S_.1 13 0 37) ≤ n_) := of_decide_eq_false cx2_
        refine sm_T_go 2 (c1 := (12, [some (.inr (.inr (some (13, 0)))), some (.inl n_), some (.inl 0)], [], S_)) rfl ?_
        refine ih_.2 n_ 0 S_ hI_ hF_ ⟨?_, ?_, ?_, trivial⟩ ?_
        · omega
        · exact h1_
        · (intro j9_ hj9_; exact absurd hj9_ (Nat.not_lt_zero _))
        · omega
    · rintro n_ w_ S_ hI_ hF_ ⟨h0_, h1_, h2_, -⟩ hm_
      have g1_ := hg_.1
      have g2_ := hg_.2.1
      have e37_ : S_.1 13 0 37 = S0_.1 13 0 37 := hF_.1 13 0 37 rfl
      have e38_ : S_.1 13 0 38 = S0_.1 13 0 38 := hF_.1 13 0 38 rfl
      have f40_ : S_.2.2.1 140 0 = S0_.2.2.1 140 0 := fr_arr hF_ rfl
      have f41_ : S_.2.2.1 141 0 = S0_.2.2.1 141 0 := fr_arr hF_ rfl
      refine sm_T_go 2 (c1 := (15, [some (.inr (.inr (some (13, 0)))), some (.inl n_), some (.inl w_)], [.inl 64, .inl w_], S_)) rfl ?_
      refine sm_T_br (a := 3) (z := 69) rfl (fun cx1_ => ?_) (fun cx1_ => ?_)
      · have cx1_ : 64 ≤ w_ := of_decide_eq_true cx1_
        refine sm_T_inc (a := 1) (z := 1) (v := n_) (w := n_ + 1) rfl rfl (by omega) (by omega) (by omega) ?_
        refine sm_T_go 1 (c1 := (2, [some (.inr (.inr (some (13, 0)))), some (.inl (n_ + 1)), some (.inl w_)], [], S_)) rfl ?_
        refine sm_T_wk [some (.inr (.inr (some (13, 0)))), some (.inl (n_ + 1)), none] (by exact ⟨rfl, rfl, trivial⟩) ?_
        refine ih_.1 (n_ + 1) S_ hI_ hF_ ⟨?_, ?_, trivial⟩ ?_
        · omega
        · intro m9_ hm9_
          by_cases z9_ : (m9_ : Int) = n_
          · rw [show m9_ = n_.toNat by omega]; rw [show w_.toNat = 64 by omega] at h2_; exact h2_
          · exact h1_ m9_ (by omega)
        · omega
      · have cx1_ : ¬ (64 ≤ w_) := of_decide_eq_false cx1_
        refine sm_T_go 4 (c1 := (25, [some (.inr (.inr (some (13, 0)))), some (.inl n_), some (.inl w_)], [.inl n_, .inl 64, .inr (.inr (some (171, 0)))], S_)) rfl ?_
        refine sm_T_bin (w := 64 * n_) rfl (bi_mul (by omega) (by omega) (by omega)) ?_
        refine sm_T_go 1 (c1 := (27, [some (.inr (.inr (some (13, 0)))), some (.inl n_), some (.inl w_)], [.inl w_, .inl (64 * n_), .inr (.inr (some (171, 0)))], S_)) rfl ?_
        refine sm_T_bin (w := 64 * n_ + w_) rfl (bi_add (by omega) (by omega) (by omega)) ?_
        refine sm_T_go 1 (c1 := (29, [some (.inr (.inr (some (13, 0)))), some (.inl n_), some (.inl w_)], [.inl n_, .inl (64 * n_ + w_), .inr (.inr (some (171, 0)))], S_)) rfl ?_
        refine sm_T_b0 (a := 1) (z := 7) rfl (fun cx2_ => ?_) (fun cx2_ => ?_)
        · have cx2_ : n_ ≠ 0 := of_decide_eq_true cx2_
          have bx3_ : 0 ≤ S_.1 13 0 38 ∧ S_.1 13 0 38 ≤ 19 := hI_.1 13 0 38 rfl
          refine sm_T_go 3 (c1 := (41, [some (.inr (.inr (some (13, 0)))), some (.inl n_), some (.inl w_)], [.inl (S_.1 13 0 38), .inl n_, .inl (64 * n_ + w_), .inr (.inr (some (171, 0)))], S_)) rfl ?_
          refine sm_T_br (a := 3) (z := 13) rfl (fun cx4_ => ?_) (fun cx4_ => ?_)
          · have cx4_ : (S_.1 13 0 38) ≤ n_ := of_decide_eq_true cx4_
            have gn_ := hg_.2.2 n_.toNat (by omega) (by omega)
            rw [← f40_, ← f41_] at gn_
            have cl9_ : lcn (S_.2.2.2 171 0 (64 * (S_.2.2.1 140 0 n_.toNat / 2).toNat + w_.toNat)) := rok_c (W_ := 64) (m_ := -1) (fun j9_ hj9_ => (h1_ (S_.2.2.1 140 0 n_.toNat / 2).toNat (by omega) j9_ hj9_).1) w_.toNat (by omega)
            have ch9_ : lcn (S_.2.2.2 171 0 (64 * (S_.2.2.1 141 0 n_.toNat / 2).toNat + w_.toNat)) := rok_c (W_ := 64) (m_ := -1) (fun j9_ hj9_ => (h1_ (S_.2.2.1 141 0 n_.toNat / 2).toNat (by omega) j9_ hj9_).1) w_.toNat (by omega)
            refine sm_T_go 4 (c1 := (60, [some (.inr (.inr (some (13, 0)))), some (.inl n_), some (.inl w_)], [.inl n_, .inr (.inr (some (140, 0))), .inr (.inr (some (13, 0))), .inl (64 * n_ + w_), .inr (.inr (some (171, 0)))], S_)) rfl ?_
            refine sm_T_iald (n := 2048) rfl rfl (by omega) (by omega) ?_
            have bx5_ : 0 ≤ S_.2.2.1 140 0 n_.toNat ∧ S_.2.2.1 140 0 n_.toNat ≤ 2047 := hI_.2 140 0 _
            refine sm_T_go 1 (c1 := (62, [some (.inr (.inr (some (13, 0)))), some (.inl n_), some (.inl w_)], [.inl w_, .inl (S_.2.2.1 140 0 n_.toNat), .inr (.inr (some (13, 0))), .inl (64 * n_ + w_), .inr (.inr (some (171, 0)))], S_)) rfl ?_
            refine sm_T_cal (d1 := 0) (Q1 := vq_351 (S_.2.2.1 140 0 n_.toNat) w_ S_) rfl rfl (by decide) (vc_351 (S_.2.2.1 140 0 n_.toNat) w_ S_ hI_ (by omega) (by omega)) (fun u_ Sx6_ px9_ => ?_)
            obtain ⟨rfl, vx11_, rfl, px9_⟩ := px9_
            have e62_ := px9_
            refine sm_T_go 4 (c1 := (71, [some (.inr (.inr (some (13, 0)))), some (.inl n_), some (.inl w_)], [.inl n_, .inr (.inr (some (141, 0))), .inr (.inr (some (13, 0))), .inr (.inl vx11_), .inl (64 * n_ + w_), .inr (.inr (some (171, 0)))], S_)) rfl ?_
            refine sm_T_iald (n := 2048) rfl rfl (by omega) (by omega) ?_
            have bx12_ : 0 ≤ S_.2.2.1 141 0 n_.toNat ∧ S_.2.2.1 141 0 n_.toNat ≤ 2047 := hI_.2 141 0 _
            refine sm_T_go 1 (c1 := (73, [some (.inr (.inr (some (13, 0)))), some (.inl n_), some (.inl w_)], [.inl w_, .inl (S_.2.2.1 141 0 n_.toNat), .inr (.inr (some (13, 0))), .inr (.inl vx11_), .inl (64 * n_ + w_), .inr (.inr (some (171, 0)))], S_)) rfl ?_
            refine sm_T_cal (d1 := 0) (Q1 := vq_351 (S_.2.2.1 141 0 n_.toNat) w_ S_) rfl rfl (by decide) (vc_351 (S_.2.2.1 141 0 n_.toNat) w_ S_ hI_ (by omega) (by omega)) (fun u_ Sx13_ px16_ => ?_)
            obtain ⟨rfl, vx18_, rfl, px16_⟩ := px16_
            have e73_ := px16_
            refine sm_T_go 1 (c1 := (77, [some (.inr (.inr (some (13, 0)))), some (.inl n_), some (.inl w_)], [.inr (.inl (l_3 vx11_ vx18_)), .inl (64 * n_ + w_), .inr (.inr (some (171, 0)))], S_)) rfl ?_
            refine sm_T_last (n := 131072) rfl rfl (by omega) (by omega) ?_
            have hIx19_ : gi (sm_aL S_ 171 0 (64 * n_ + w_).toNat ((l_3 vx11_ vx18_))) := gi_aL hI_
            have hFx20_ : ai_fr (sx_W vw_352) S0_ (sm_aL S_ 171 0 (64 * n_ + w_).toNat ((l_3 vx11_ vx18_))) := ai_fr_tr hF_ (ai_fr_aL rfl)
            refine sm_T_inc (a := 2) (z := 1) (v := w_) (w := w_ + 1) rfl rfl (by omega) (by omega) (by omega) ?_
            refine sm_T_go 1 (c1 := (12, [some (.inr (.inr (some (13, 0)))), some (.inl n_), some (.inl (w_ + 1))], [], sm_aL S_ 171 0 (64 * n_ + w_).toNat ((l_3 vx11_ vx18_)))) rfl ?_
            refine ih_.2 n_ (w_ + 1) (sm_aL S_ 171 0 (64 * n_ + w_).toNat ((l_3 vx11_ vx18_))) hIx19_ hFx20_ ⟨?_, ?_, ?_, trivial⟩ ?_
            · omega
            · intro m9_ hm9_
              exact srw_cg (fun a9_ => hg_.2.2 m9_ a9_ (by omega)) (h1_ m9_ hm9_) (fun k9_ hk9_ => by rw [rd_leq, if_neg (by omega)])
            · rw [show (w_ + 1).toNat = w_.toNat + 1 by omega]
              first | (have c9_ : n_ = 0 := (by omega); refine srw_up (row_ := 0) (fun a9_ => hg_.2.2 n_.toNat a9_ (by omega)) (by omega) h2_ (fun k9_ => by rw [show 64 * n_.toNat + w_.toNat = (64 * n_ + w_).toNat by omega, rd_leq, l3_m1 lcn_c.1]) (fun a9_ => ?_) (fun a9_ => rfl); (exfalso; omega)) | (have c9_ : n_ < (F_ : Int) := (by omega); refine srw_up (fun a9_ => hg_.2.2 n_.toNat a9_ (by omega)) (by omega) h2_ (fun k9_ => by rw [show 64 * n_.toNat + w_.toNat = (64 * n_ + w_).toNat by omega, rd_leq, l3_m1 e48_]) (fun a9_ => ?_) (fun a9_ => ?_); (exfalso; omega); (exfalso; omega)) | (refine srw_up (fun a9_ => hg_.2.2 n_.toNat a9_ (by omega)) (by omega) h2_ (fun k9_ => by rw [show 64 * n_.toNat + w_.toNat = (64 * n_ + w_).toNat by omega, rd_leq, l3_m1 lcn_3]) (fun a9_ => ?_) (fun a9_ => ?_); (rw [e62_, e73_, f40_, f41_]); (exfalso; omega))
            · omega
          · have cx4_ : ¬ ((S_.1 13 0 38) ≤ n_) := of_decide_eq_false cx4_
            refine sm_T_go 2 (c1 := (46, [some (.inr (.inr (some (13, 0)))), some (.inl n_), some (.inl w_)], [.inl 1, .inl n_, .inl (64 * n_ + w_), .inr (.inr (some (171, 0)))], S_)) rfl ?_
            refine sm_T_bin (w := n_ - 1) rfl (bi_sub (by omega) (by omega) (by omega)) ?_
            refine sm_T_go 1 (c1 := (48, [some (.inr (.inr (some (13, 0)))), some (.inl n_), some (.inl w_)], [.inl w_, .inl (n_ - 1), .inl (64 * n_ + w_), .inr (.inr (some (171, 0)))], S_)) rfl ?_
            refine sm_T_cal (d1 := 0) (Q1 := vq_350 (n_ - 1) w_ S_) rfl rfl (by decide) (vc_350 (n_ - 1) w_ S_ hI_ (by omega) (by omega)) (fun u_ Sx21_ px24_ => ?_)
            obtain ⟨rfl, vx26_, rfl, px24_⟩ := px24_
            have e48_ := px24_
            refine sm_T_go 1 (c1 := (77, [some (.inr (.inr (some (13, 0)))), some (.inl n_), some (.inl w_)], [.inr (.inl vx26_), .inl (64 * n_ + w_), .inr (.inr (some (171, 0)))], S_)) rfl ?_
            refine sm_T_last (n := 131072) rfl rfl (by omega) (by omega) ?_
            have hIx27_ : gi (sm_aL S_ 171 0 (64 * n_ + w_).toNat vx26_) := gi_aL hI_
            have hFx28_ : ai_fr (sx_W vw_352) S0_ (sm_aL S_ 171 0 (64 * n_ + w_).toNat vx26_) := ai_fr_tr hF_ (ai_fr_aL rfl)
            refine sm_T_inc (a := 2) (z := 1) (v := w_) (w := w_ + 1) rfl rfl (by omega) (by omega) (by omega) ?_
            refine sm_T_go 1 (c1 := (12, [some (.inr (.inr (some (13, 0)))), some (.inl n_), some (.inl (w_ + 1))], [], sm_aL S_ 171 0 (64 * n_ + w_).toNat vx26_)) rfl ?_
            refine ih_.2 n_ (w_ + 1) (sm_aL S_ 171 0 (64 * n_ + w_).toNat vx26_) hIx27_ hFx28_ ⟨?_, ?_, ?_, trivial⟩ ?_
            · omega
            · intro m9_ hm9_
              exact srw_cg (fun a9_ => hg_.2.2 m9_ a9_ (by omega)) (h1_ m9_ hm9_) (fun k9_ hk9_ => by rw [rd_leq, if_neg (by omega)])
            · rw [show (w_ + 1).toNat = w_.toNat + 1 by omega]
              first | (have c9_ : n_ = 0 := (by omega); refine srw_up (row_ := 0) (fun a9_ => hg_.2.2 n_.toNat a9_ (by omega)) (by omega) h2_ (fun k9_ => by rw [show 64 * n_.toNat + w_.toNat = (64 * n_ + w_).toNat by omega, rd_leq, l3_m1 lcn_c.1]) (fun a9_ => ?_) (fun a9_ => rfl); (exfalso; omega)) | (have c9_ : n_ < (F_ : Int) := (by omega); refine srw_up (fun a9_ => hg_.2.2 n_.toNat a9_ (by omega)) (by omega) h2_ (fun k9_ => by rw [show 64 * n_.toNat + w_.toNat = (64 * n_ + w_).toNat by omega, rd_leq, l3_m1 e48_]) (fun a9_ => ?_) (fun a9_ => ?_); (exfalso; omega); (exfalso; omega)) | (refine srw_up (fun a9_ => hg_.2.2 n_.toNat a9_ (by omega)) (by omega) h2_ (fun k9_ => by rw [show 64 * n_.toNat + w_.toNat = (64 * n_ + w_).toNat by omega, rd_leq, l3_m1 lcn_3]) (fun a9_ => ?_) (fun a9_ => ?_); (rw [e62_, e73_, f40_, f41_]); (exfalso; omega))
            · omega
        · have cx2_ : ¬ (n_ ≠ 0) := of_decide_eq_false cx2_
          refine sm_T_go 2 (c1 := (77, [some (.inr (.inr (some (13, 0)))), some (.inl n_), some (.inl w_)], [.inr (.inl 0), .inl (64 * n_ + w_), .inr (.inr (some (171, 0)))], S_)) rfl ?_
          refine sm_T_last (n := 131072) rfl rfl (by omega) (by omega) ?_
          have hIx29_ : gi (sm_aL S_ 171 0 (64 * n_ + w_).toNat 0) := gi_aL hI_
          have hFx30_ : ai_fr (sx_W vw_352) S0_ (sm_aL S_ 171 0 (64 * n_ + w_).toNat 0) := ai_fr_tr hF_ (ai_fr_aL rfl)
          refine sm_T_inc (a := 2) (z := 1) (v := w_) (w := w_ + 1) rfl rfl (by omega) (by omega) (by omega) ?_
          refine sm_T_go 1 (c1 := (12, [some (.inr (.inr (some (13, 0)))), some (.inl n_), some (.inl (w_ + 1))], [], sm_aL S_ 171 0 (64 * n_ + w_).toNat 0)) rfl ?_
          refine ih_.2 n_ (w_ + 1) (sm_aL S_ 171 0 (64 * n_ + w_).toNat 0) hIx29_ hFx30_ ⟨?_, ?_, ?_, trivial⟩ ?_
          · omega
          · intro m9_ hm9_
            exact srw_cg (fun a9_ => hg_.2.2 m9_ a9_ (by omega)) (h1_ m9_ hm9_) (fun k9_ hk9_ => by rw [rd_leq, if_neg (by omega)])
          · rw [show (w_ + 1).toNat = w_.toNat + 1 by omega]
            first | (have c9_ : n_ = 0 := (by omega); refine srw_up (row_ := 0) (fun a9_ => hg_.2.2 n_.toNat a9_ (by omega)) (by omega) h2_ (fun k9_ => by rw [show 64 * n_.toNat + w_.toNat = (64 * n_ + w_).toNat by omega, rd_leq, l3_m1 lcn_c.1]) (fun a9_ => ?_) (fun a9_ => rfl); (exfalso; omega)) | (have c9_ : n_ < (F_ : Int) := (by omega); refine srw_up (fun a9_ => hg_.2.2 n_.toNat a9_ (by omega)) (by omega) h2_ (fun k9_ => by rw [show 64 * n_.toNat + w_.toNat = (64 * n_ + w_).toNat by omega, rd_leq, l3_m1 e48_]) (fun a9_ => ?_) (fun a9_ => ?_); (exfalso; omega); (exfalso; omega)) | (refine srw_up (fun a9_ => hg_.2.2 n_.toNat a9_ (by omega)) (by omega) h2_ (fun k9_ => by rw [show 64 * n_.toNat + w_.toNat = (64 * n_ + w_).toNat by omega, rd_leq, l3_m1 lcn_3]) (fun a9_ => ?_) (fun a9_ => ?_); (rw [e62_, e73_, f40_, f41_]); (exfalso; omega))
          · omega
set_option maxHeartbeats 1500000 in
theorem vc_352 {sc_ : Nat × (Nat → Int)} (F_ : Nat) (S0_ : sm_S) (hI_ : gi S0_) (hg_ : rgr F_ S0_) : sm_T (mt_P sc_) 1 352 (0, [some (.inr (.inr (some (13, 0)))), none, none], [], S0_) (fun ro9_ => ∃ u_ S1_, ro9_ = (.inl u_, S1_, 0) ∧ vq_352 F_ S0_ u_ S1_) := by
  have hF_ : ai_fr (sx_W vw_352) S0_ S0_ := ai_fr_rf
  refine sm_T_go 2 (c1 := (2, [some (.inr (.inr (some (13, 0)))), some (.inl 0), none], [], S0_)) rfl ?_
  refine (vl_352 F_ S0_ hg_ _).1 0 S0_ hI_ hF_ ⟨?_, ?_, trivial⟩ (Nat.lt_succ_self _)
  · (have g1_ := hg_.1; have g2_ := hg_.2.1; omega)
  · (intro m9_ hm9_; omega)
