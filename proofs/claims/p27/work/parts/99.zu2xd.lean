/-! the reference: tables of a chip; written by wip/p55/gen/vg -/

/-- row_ p_ of_ the_ tables of_ a_ chip -/
def rlq (c_ : Int) (S0_ S_ : sm_S) (p_ : Nat) : Prop := ∃ u_ : Nat → Bool, rcvq c_ S0_ p_ u_ ∧ S_.2.2.1 190 0 p_ = tbv (revq c_ S0_ u_) (S0_.2.2.1 225 0 c_.toNat).toNat ∧ S_.2.2.1 191 0 p_ = tbv (rexq c_ S0_ u_) (S0_.2.2.1 224 0 c_.toNat).toNat
theorem rlq_cg {c_ : Int} {S0_ S_ S'_ : sm_S} {p_ : Nat} (h_ : rlq c_ S0_ S_ p_) (e1_ : S'_.2.2.1 190 0 p_ = S_.2.2.1 190 0 p_) (e2_ : S'_.2.2.1 191 0 p_ = S_.2.2.1 191 0 p_) : rlq c_ S0_ S'_ p_ := by
  obtain ⟨u_, h1_, h2_, h3_⟩ := h_
  exact ⟨u_, h1_, e1_.trans h2_, e2_.trans h3_⟩
/-! M_.layChip -/
def vw_432n : sx_Wl := ([], [190, 191, 238], [])
def vq_432n (c_ : Int) (S0_ : sm_S) (u_ : Option sm_V) (S1_ : sm_S) : Prop := u_ = none ∧ gi S1_ ∧ ai_fr (sx_W vw_432n) S0_ S1_ ∧ ((∀ p9_ : Nat, p9_ < 2 ^ ((S0_.2.2.1 223 0 c_.toNat).toNat + (S0_.2.2.1 224 0 c_.toNat).toNat) → 0 ≤ S1_.2.2.1 191 0 p9_ ∧ S1_.2.2.1 191 0 p9_ < 2 ^ (S0_.2.2.1 224 0 c_.toNat).toNat) ∧ ∀ p9_ : Nat, p9_ < 2 ^ ((S0_.2.2.1 223 0 c_.toNat).toNat + (S0_.2.2.1 224 0 c_.toNat).toNat) → rlq c_ S0_ S1_ p9_)
set_option maxHeartbeats 1000000 in
set_option maxRecDepth 20000 in
theorem vl_432n {sc_ : Nat × (Nat → Int)} (c_ : Int) (S0_ : sm_S) (hc_ : 0 ≤ c_ ∧ c_ ≤ 3) (hx_ : S0_.2.2.1 223 0 c_.toNat + S0_.2.2.1 224 0 c_.toNat ≤ 12) (hg_ : cgt c_ S0_) (ho_ : con c_ S0_) : ∀ nn_ : Nat, (∀ (mn : Int) (p_ : Int) (S_ : sm_S), gi S_ → ai_fr (sx_W vw_432n) S0_ S_ → ((0 ≤ p_ ∧ p_ ≤ mn ∧ mn = 2 ^ ((S0_.2.2.1 223 0 c_.toNat).toNat + (S0_.2.2.1 224 0 c_.toNat).toNat)) ∧ (∀ p9_ : Nat, (p9_ : Int) < p_ → 0 ≤ S_.2.2.1 191 0 p9_ ∧ S_.2.2.1 191 0 p9_ < 2 ^ (S0_.2.2.1 224 0 c_.toNat).toNat) ∧ (∀ p9_ : Nat, (p9_ : Int) < p_ → rlq c_ S0_ S_ p9_) ∧ (p_ % 64 ≠ 0 → ∀ i9_ : Nat, i9_ < 64 → rcvq c_ S0_ (64 * (p_ / 64).toNat + i9_) (fun n_ => lbt (S_.2.2.2 238 0 n_) i9_)) ∧ True) → ((1000 * (5000 - p_) + 900).toNat) < nn_ → sm_T (mt_P sc_) 2 432 (18, [some (.inr (.inr (some (13, 0)))), some (.inl c_), some (.inl mn), some (.inl p_), none], [], S_) (fun ro9_ => ∃ u_ S1_, ro9_ = (.inl u_, S1_, 0) ∧ vq_432n c_ S0_ u_ S1_)) ∧ (∀ (mn : Int) (p_ : Int) (k_ : Int) (S_ : sm_S), gi S_ → ai_fr (sx_W vw_432n) S0_ S_ → ((0 ≤ p_ ∧ p_ < mn ∧ mn = 2 ^ ((S0_.2.2.1 223 0 c_.toNat).toNat + (S0_.2.2.1 224 0 c_.toNat).toNat) ∧ 0 ≤ k_ ∧ k_ ≤ 16) ∧ (S_.2.2.1 191 0 p_.toNat = 0) ∧ (∀ p9_ : Nat, (p9_ : Int) < p_ → 0 ≤ S_.2.2.1 191 0 p9_ ∧ S_.2.2.1 191 0 p9_ < 2 ^ (S0_.2.2.1 224 0 c_.toNat).toNat) ∧ (∀ p9_ : Nat, (p9_ : Int) < p_ → rlq c_ S0_ S_ p9_) ∧ (∀ i9_ : Nat, i9_ < 64 → rcvq c_ S0_ (64 * (p_ / 64).toNat + i9_) (fun n_ => lbt (S_.2.2.2 238 0 n_) i9_)) ∧ (S_.2.2.1 190 0 p_.toNat = tbv (revq c_ S0_ (fun n_ => lbt (S_.2.2.2 238 0 n_) (p_ % 64).toNat)) k_.toNat ∧ k_ ≤ S0_.2.2.1 225 0 c_.toNat) ∧ True) → ((1000 * (5000 - p_) + 800 - k_).toNat) < nn_ → sm_T (mt_P sc_) 2 432 (59, [some (.inr (.inr (some (13, 0)))), some (.inl c_), some (.inl mn), some (.inl p_), some (.inl k_)], [], S_) (fun ro9_ => ∃ u_ S1_, ro9_ = (.inl u_, S1_, 0) ∧ vq_432n c_ S0_ u_ S1_)) ∧ (∀ (mn : Int) (p_ : Int) (k_ : Int) (S_ : sm_S), gi S_ → ai_fr (sx_W vw_432n) S0_ S_ → ((0 ≤ p_ ∧ p_ < mn ∧ mn = 2 ^ ((S0_.2.2.1 223 0 c_.toNat).toNat + (S0_.2.2.1 224 0 c_.toNat).toNat) ∧ 0 ≤ k_ ∧ k_ ≤ 6) ∧ (0 ≤ S_.2.2.1 191 0 p_.toNat ∧ S_.2.2.1 191 0 p_.toNat < 2 ^ (S0_.2.2.1 224 0 c_.toNat).toNat) ∧ (∀ p9_ : Nat, (p9_ : Int) < p_ → 0 ≤ S_.2.2.1 191 0 p9_ ∧ S_.2.2.1 191 0 p9_ < 2 ^ (S0_.2.2.1 224 0 c_.toNat).toNat) ∧ (∀ p9_ : Nat, (p9_ : Int) < p_ → rlq c_ S0_ S_ p9_) ∧ (∀ i9_ : Nat, i9_ < 64 → rcvq c_ S0_ (64 * (p_ / 64).toNat + i9_) (fun n_ => lbt (S_.2.2.2 238 0 n_) i9_)) ∧ (S_.2.2.1 190 0 p_.toNat = tbv (revq c_ S0_ (fun n_ => lbt (S_.2.2.2 238 0 n_) (p_ % 64).toNat)) (S0_.2.2.1 225 0 c_.toNat).toNat) ∧ (S_.2.2.1 191 0 p_.toNat = tbv (rexq c_ S0_ (fun n_ => lbt (S_.2.2.2 238 0 n_) (p_ % 64).toNat)) k_.toNat ∧ k_ ≤ S0_.2.2.1 224 0 c_.toNat) ∧ True) → ((1000 * (5000 - p_) + 500 - k_).toNat) < nn_ → sm_T (mt_P sc_) 2 432 (111, [some (.inr (.inr (some (13, 0)))), some (.inl c_), some (.inl mn), some (.inl p_), some (.inl k_)], [], S_) (fun ro9_ => ∃ u_ S1_, ro9_ = (.inl u_, S1_, 0) ∧ vq_432n c_ S0_ u_ S1_)) := by
  intro nn_
  induction nn_ with
  | zero => exact ⟨fun _ _ _ _ _ _ h_ => absurd h_ (Nat.not_lt_zero _), fun _ _ _ _ _ _ _ h_ => absurd h_ (Nat.not_lt_zero _), fun _ _ _ _ _ _ _ h_ => absurd h_ (Nat.not_lt_zero _)⟩
  | succ nn_ ih_ =>
    refine ⟨?_, ?_, ?_⟩
    · rintro mn p_ S_ hI_ hF_ ⟨h0_, h1_, hq_, hv_, -⟩ hm_
      have cA_ : 0 ≤ S_.2.2.1 223 0 c_.toNat ∧ S_.2.2.1 223 0 c_.toNat ≤ 12 := hI_.2 223 0 _
      have cB_ : 0 ≤ S_.2.2.1 224 0 c_.toNat ∧ S_.2.2.1 224 0 c_.toNat ≤ 6 := hI_.2 224 0 _
      have cG_ : 0 ≤ S_.2.2.1 228 0 c_.toNat ∧ S_.2.2.1 228 0 c_.toNat ≤ 150 := hI_.2 228 0 _
      have f223_ : S_.2.2.1 223 0 = S0_.2.2.1 223 0 := fr_arr hF_ rfl
      have f224_ : S_.2.2.1 224 0 = S0_.2.2.1 224 0 := fr_arr hF_ rfl
      have x223_ : S_.2.2.1 223 0 c_.toNat = S0_.2.2.1 223 0 c_.toNat := congrFun f223_ _
      have x224_ : S_.2.2.1 224 0 c_.toNat = S0_.2.2.1 224 0 c_.toNat := congrFun f224_ _
      have w1_ := pw_le (n := (S0_.2.2.1 223 0 c_.toNat).toNat + (S0_.2.2.1 224 0 c_.toNat).toNat) (m := 12) (by omega)
      have w2_ := pw_pos ((S0_.2.2.1 223 0 c_.toNat).toNat + (S0_.2.2.1 224 0 c_.toNat).toNat)
      have w3_ : ((2 ^ ((S0_.2.2.1 223 0 c_.toNat).toNat + (S0_.2.2.1 224 0 c_.toNat).toNat) : Nat) : Int) = (2 : Int) ^ ((S0_.2.2.1 223 0 c_.toNat).toNat + (S0_.2.2.1 224 0 c_.toNat).toNat) := by push_cast; rfl
      have w4_ := pw_le (n := (S0_.2.2.1 224 0 c_.toNat).toNat) (m := 6) (by omega)
      have w5_ := pw_pos (S0_.2.2.1 224 0 c_.toNat).toNat
      have ho9_ := con_fr hc_.1 hI_ ho_ hF_
      have f228_ : S_.2.2.1 228 0 = S0_.2.2.1 228 0 := fr_arr hF_ rfl
      have f225_ : S_.2.2.1 225 0 = S0_.2.2.1 225 0 := fr_arr hF_ rfl
      have x225_ : S_.2.2.1 225 0 c_.toNat = S0_.2.2.1 225 0 c_.toNat := congrFun f225_ _
      have c25_ : 0 ≤ S_.2.2.1 225 0 c_.toNat ∧ S_.2.2.1 225 0 c_.toNat ≤ 16 := hI_.2 225 0 _
      refine sm_T_go 2 (c1 := (20, [some (.inr (.inr (some (13, 0)))), some (.inl c_), some (.inl mn), some (.inl p_), none], [.inl mn, .inl p_], S_)) rfl ?_
      refine sm_T_br (a := 3) (z := 146) rfl (fun cx1_ => ?_) (fun cx1_ => ?_)
      · have cx1_ : mn ≤ p_ := of_decide_eq_true cx1_
        refine sm_T_rv rfl ⟨_, _, rfl, rfl, hI_, hF_, ?_⟩
        refine ⟨fun p9_ hp9_ => h1_ p9_ (by omega), fun p9_ hp9_ => hq_ p9_ (by omega)⟩
      · have cx1_ : ¬ (mn ≤ p_) := of_decide_eq_false cx1_
        refine sm_T_go 2 (c1 := (26, [some (.inr (.inr (some (13, 0)))), some (.inl c_), some (.inl mn), some (.inl p_), none], [.inl 63, .inl p_], S_)) rfl ?_
        refine sm_T_bin (w := (p_ % 64)) rfl (bi_msk (k := 6) (by decide)) ?_ -- pc_ 26
        refine sm_T_b0 (a := 1) (z := 15) rfl (fun cx2_ => ?_) (fun cx2_ => ?_)
        · have cx2_ : (p_ % 64) ≠ 0 := of_decide_eq_true cx2_
          refine sm_T_go 4 (c1 := (48, [some (.inr (.inr (some (13, 0)))), some (.inl c_), some (.inl mn), some (.inl p_), none], [.inl 0, .inl p_, .inr (.inr (some (190, 0)))], S_)) rfl ?_
          refine sm_T_iast (n := 4096) rfl rfl (by omega) (by omega) ?_
          have hIx3_ : gi (sm_aI S_ 190 0 p_.toNat 0) := gi_aI hI_ (show 0 ≤ 0 ∧ 0 ≤ 65535 from ⟨by omega, by omega⟩)
          have hFx4_ : ai_fr (sx_W vw_432n) S0_ (sm_aI S_ 190 0 p_.toNat 0) := ai_fr_tr hF_ (ai_fr_aI rfl)
          refine sm_T_go 4 (c1 := (55, [some (.inr (.inr (some (13, 0)))), some (.inl c_), some (.inl mn), some (.inl p_), none], [.inl 0, .inl p_, .inr (.inr (some (191, 0)))], sm_aI S_ 190 0 p_.toNat 0)) rfl ?_
          refine sm_T_iast (n := 4096) rfl rfl (by omega) (by omega) ?_
          have hIx5_ : gi (sm_aI (sm_aI S_ 190 0 p_.toNat 0) 191 0 p_.toNat 0) := gi_aI hIx3_ (show 0 ≤ 0 ∧ 0 ≤ 63 from ⟨by omega, by omega⟩)
          have hFx6_ : ai_fr (sx_W vw_432n) S0_ (sm_aI (sm_aI S_ 190 0 p_.toNat 0) 191 0 p_.toNat 0) := ai_fr_tr hFx4_ (ai_fr_aI rfl)
          refine sm_T_go 2 (c1 := (59, [some (.inr (.inr (some (13, 0)))), some (.inl c_), some (.inl mn), some (.inl p_), some (.inl 0)], [], sm_aI (sm_aI S_ 190 0 p_.toNat 0) 191 0 p_.toNat 0)) rfl ?_
          refine ih_.2.1 mn p_ 0 (sm_aI (sm_aI S_ 190 0 p_.toNat 0) 191 0 p_.toNat 0) hIx5_ hFx6_ ⟨?_, ?_, ?_, ?_, ?_, ?_, trivial⟩ ?_
          · omega
          · (rw [rd_eq, if_pos rfl])
          · intro p9_ hp9_
            rw [rd_eq, if_neg (by omega), rd_ne (by decide)]
            first | exact h1_ p9_ hp9_ | (rw [n39_]; exact h1_ p9_ hp9_)
          · (intro p9_ hp9_; refine rlq_cg (hq_ p9_ hp9_) ?_ ?_; (rw [rd_ne (by decide), rd_eq, if_neg (by omega)]; try rw [o39_]); (rw [rd_eq, if_neg (by omega), rd_ne (by decide)]; try rw [n39_]))
          · first | exact v39_ | exact hv_ (by omega)
          · (refine ⟨?_, by omega⟩; rw [rd_ne (by decide), rd_eq, if_pos rfl]; rfl)
          · omega
        · have cx2_ : ¬ ((p_ % 64) ≠ 0) := of_decide_eq_false cx2_
          refine sm_T_go 4 (c1 := (35, [some (.inr (.inr (some (13, 0)))), some (.inl c_), some (.inl mn), some (.inl p_), none], [.inl 6, .inl p_, .inl c_, .inr (.inr (some (13, 0)))], S_)) rfl ?_
          refine sm_T_bin (w := (p_ / 64)) rfl (bi_shr (k := 6) (by decide) (by omega) (by omega)) ?_ -- pc_ 35
          refine sm_T_go 3 (c1 := (39, [some (.inr (.inr (some (13, 0)))), some (.inl c_), some (.inl mn), some (.inl p_), none], [.inr (.inl 0), .inl (-1), .inl (-1), .inl (p_ / 64), .inl c_, .inr (.inr (some (13, 0)))], S_)) rfl ?_
          refine sm_T_cal (d1 := 1) (Q1 := vq_430n c_ (p_ / 64) (-1) (-1) 0 S_) rfl rfl (by decide) (vc_430n c_ (p_ / 64) (-1) (-1) 0 S_ hI_ (by omega) (by omega) (by (rw [f223_, f224_]; omega)) (by exact cgt_fr hc_.1 hI_ hg_ hF_) (by exact ⟨rfl, rfl⟩)) (fun u_ Sx7_ px10_ => ?_)
          obtain ⟨rfl, hIx8_, hFx9_, px10_⟩ := px10_
          have hFx11_ : ai_fr (sx_W vw_432n) S0_ Sx7_ := ai_fr_tr hF_ (fr_le hFx9_ rfl)
          have v39_ : ∀ i9_ : Nat, i9_ < 64 → rcvq c_ S0_ (64 * (p_ / 64).toNat + i9_) (fun n_ => lbt (Sx7_.2.2.2 238 0 n_) i9_) := fun i9_ hi9_ => by (have z9_ := px10_ i9_ hi9_; have k9_ := krX_fr (c_ := c_) hF_; rw [k9_.1, k9_.2.1, k9_.2.2, f223_, f224_, f228_] at z9_; exact z9_)
          have o39_ : Sx7_.2.2.1 190 0 = S_.2.2.1 190 0 := fr_arr hFx9_ rfl
          have n39_ : Sx7_.2.2.1 191 0 = S_.2.2.1 191 0 := fr_arr hFx9_ rfl
          refine sm_T_go 4 (c1 := (48, [some (.inr (.inr (some (13, 0)))), some (.inl c_), some (.inl mn), some (.inl p_), none], [.inl 0, .inl p_, .inr (.inr (some (190, 0)))], Sx7_)) rfl ?_
          refine sm_T_iast (n := 4096) rfl rfl (by omega) (by omega) ?_
          have hIx12_ : gi (sm_aI Sx7_ 190 0 p_.toNat 0) := gi_aI hIx8_ (show 0 ≤ 0 ∧ 0 ≤ 65535 from ⟨by omega, by omega⟩)
          have hFx13_ : ai_fr (sx_W vw_432n) S0_ (sm_aI Sx7_ 190 0 p_.toNat 0) := ai_fr_tr hFx11_ (ai_fr_aI rfl)
          refine sm_T_go 4 (c1 := (55, [some (.inr (.inr (some (13, 0)))), some (.inl c_), some (.inl mn), some (.inl p_), none], [.inl 0, .inl p_, .inr (.inr (some (191, 0)))], sm_aI Sx7_ 190 0 p_.toNat 0)) rfl ?_
          refine sm_T_iast (n := 4096) rfl rfl (by omega) (by omega) ?_
          have hIx14_ : gi (sm_aI (sm_aI Sx7_ 190 0 p_.toNat 0) 191 0 p_.toNat 0) := gi_aI hIx12_ (show 0 ≤ 0 ∧ 0 ≤ 63 from ⟨by omega, by omega⟩)
          have hFx15_ : ai_fr (sx_W vw_432n) S0_ (sm_aI (sm_aI Sx7_ 190 0 p_.toNat 0) 191 0 p_.toNat 0) := ai_fr_tr hFx13_ (ai_fr_aI rfl)
          refine sm_T_go 2 (c1 := (59, [some (.inr (.inr (some (13, 0)))), some (.inl c_), some (.inl mn), some (.inl p_), some (.inl 0)], [], sm_aI (sm_aI Sx7_ 190 0 p_.toNat 0) 191 0 p_.toNat 0)) rfl ?_
          refine ih_.2.1 mn p_ 0 (sm_aI (sm_aI Sx7_ 190 0 p_.toNat 0) 191 0 p_.toNat 0) hIx14_ hFx15_ ⟨?_, ?_, ?_, ?_, ?_, ?_, trivial⟩ ?_
          · omega
          · (rw [rd_eq, if_pos rfl])
          · intro p9_ hp9_
            rw [rd_eq, if_neg (by omega), rd_ne (by decide)]
            first | exact h1_ p9_ hp9_ | (rw [n39_]; exact h1_ p9_ hp9_)
          · (intro p9_ hp9_; refine rlq_cg (hq_ p9_ hp9_) ?_ ?_; (rw [rd_ne (by decide), rd_eq, if_neg (by omega)]; try rw [o39_]); (rw [rd_eq, if_neg (by omega), rd_ne (by decide)]; try rw [n39_]))
          · first | exact v39_ | exact hv_ (by omega)
          · (refine ⟨?_, by omega⟩; rw [rd_ne (by decide), rd_eq, if_pos rfl]; rfl)
          · omega
    · rintro mn p_ k_ S_ hI_ hF_ ⟨h0_, h2_, h1_, hq_, hv_, hok_, -⟩ hm_
      have cA_ : 0 ≤ S_.2.2.1 223 0 c_.toNat ∧ S_.2.2.1 223 0 c_.toNat ≤ 12 := hI_.2 223 0 _
      have cB_ : 0 ≤ S_.2.2.1 224 0 c_.toNat ∧ S_.2.2.1 224 0 c_.toNat ≤ 6 := hI_.2 224 0 _
      have cG_ : 0 ≤ S_.2.2.1 228 0 c_.toNat ∧ S_.2.2.1 228 0 c_.toNat ≤ 150 := hI_.2 228 0 _
      have f223_ : S_.2.2.1 223 0 = S0_.2.2.1 223 0 := fr_arr hF_ rfl
      have f224_ : S_.2.2.1 224 0 = S0_.2.2.1 224 0 := fr_arr hF_ rfl
      have x223_ : S_.2.2.1 223 0 c_.toNat = S0_.2.2.1 223 0 c_.toNat := congrFun f223_ _
      have x224_ : S_.2.2.1 224 0 c_.toNat = S0_.2.2.1 224 0 c_.toNat := congrFun f224_ _
      have w1_ := pw_le (n := (S0_.2.2.1 223 0 c_.toNat).toNat + (S0_.2.2.1 224 0 c_.toNat).toNat) (m := 12) (by omega)
      have w2_ := pw_pos ((S0_.2.2.1 223 0 c_.toNat).toNat + (S0_.2.2.1 224 0 c_.toNat).toNat)
      have w3_ : ((2 ^ ((S0_.2.2.1 223 0 c_.toNat).toNat + (S0_.2.2.1 224 0 c_.toNat).toNat) : Nat) : Int) = (2 : Int) ^ ((S0_.2.2.1 223 0 c_.toNat).toNat + (S0_.2.2.1 224 0 c_.toNat).toNat) := by push_cast; rfl
      have w4_ := pw_le (n := (S0_.2.2.1 224 0 c_.toNat).toNat) (m := 6) (by omega)
      have w5_ := pw_pos (S0_.2.2.1 224 0 c_.toNat).toNat
      have ho9_ := con_fr hc_.1 hI_ ho_ hF_
      have f228_ : S_.2.2.1 228 0 = S0_.2.2.1 228 0 := fr_arr hF_ rfl
      have f225_ : S_.2.2.1 225 0 = S0_.2.2.1 225 0 := fr_arr hF_ rfl
      have x225_ : S_.2.2.1 225 0 c_.toNat = S0_.2.2.1 225 0 c_.toNat := congrFun f225_ _
      have c25_ : 0 ≤ S_.2.2.1 225 0 c_.toNat ∧ S_.2.2.1 225 0 c_.toNat ≤ 16 := hI_.2 225 0 _
      refine sm_T_go 4 (c1 := (66, [some (.inr (.inr (some (13, 0)))), some (.inl c_), some (.inl mn), some (.inl p_), some (.inl k_)], [.inl c_, .inr (.inr (some (225, 0))), .inl k_], S_)) rfl ?_
      refine sm_T_iald (n := 4) rfl rfl (by omega) (by omega) ?_
      have bx1_ : 0 ≤ S_.2.2.1 225 0 c_.toNat ∧ S_.2.2.1 225 0 c_.toNat ≤ 16 := hI_.2 225 0 _
      refine sm_T_br (a := 3) (z := 41) rfl (fun cx2_ => ?_) (fun cx2_ => ?_)
      · have cx2_ : (S_.2.2.1 225 0 c_.toNat) ≤ k_ := of_decide_eq_true cx2_
        refine sm_T_go 2 (c1 := (111, [some (.inr (.inr (some (13, 0)))), some (.inl c_), some (.inl mn), some (.inl p_), some (.inl 0)], [], S_)) rfl ?_
        refine ih_.2.2 mn p_ 0 S_ hI_ hF_ ⟨?_, ?_, ?_, ?_, ?_, ?_, ?_, trivial⟩ ?_
        · omega
        · (rw [h2_]; exact ⟨by decide, w5_⟩)
        · exact h1_
        · exact hq_
        · exact hv_
        · (rw [show (S0_.2.2.1 225 0 c_.toNat).toNat = k_.toNat by omega]; exact hok_.1)
        · (refine ⟨h2_, by omega⟩)
        · omega
      · have cx2_ : ¬ ((S_.2.2.1 225 0 c_.toNat) ≤ k_) := of_decide_eq_false cx2_
        have o9_ := ho9_.1 k_ (by omega) (by omega)
        refine sm_T_go 4 (c1 := (76, [some (.inr (.inr (some (13, 0)))), some (.inl c_), some (.inl mn), some (.inl p_), some (.inl k_)], [.inl p_, .inr (.inr (some (190, 0))), .inl p_, .inr (.inr (some (190, 0)))], S_)) rfl ?_
        refine sm_T_iald (n := 4096) rfl rfl (by omega) (by omega) ?_
        have bx3_ : 0 ≤ S_.2.2.1 190 0 p_.toNat ∧ S_.2.2.1 190 0 p_.toNat ≤ 65535 := hI_.2 190 0 _
        refine sm_T_go 5 (c1 := (85, [some (.inr (.inr (some (13, 0)))), some (.inl c_), some (.inl mn), some (.inl p_), some (.inl k_)], [.inl c_, .inl 16, .inr (.inr (some (231, 0))), .inr (.inr (some (13, 0))), .inl (S_.2.2.1 190 0 p_.toNat), .inl p_, .inr (.inr (some (190, 0)))], S_)) rfl ?_
        refine sm_T_bin (w := 16 * c_) rfl (bi_mul (by omega) (by omega) (by omega)) ?_ -- pc_ 85
        refine sm_T_go 1 (c1 := (88, [some (.inr (.inr (some (13, 0)))), some (.inl c_), some (.inl mn), some (.inl p_), some (.inl k_)], [.inl k_, .inl (16 * c_), .inr (.inr (some (231, 0))), .inr (.inr (some (13, 0))), .inl (S_.2.2.1 190 0 p_.toNat), .inl p_, .inr (.inr (some (190, 0)))], S_)) rfl ?_
        refine sm_T_bin (w := 16 * c_ + k_) rfl (bi_add (by omega) (by omega) (by omega)) ?_ -- pc_ 88
        refine sm_T_iald (n := 64) rfl rfl (by omega) (by omega) ?_
        have bx4_ : (-2) ≤ S_.2.2.1 231 0 (16 * c_ + k_).toNat ∧ S_.2.2.1 231 0 (16 * c_ + k_).toNat ≤ 9000 := hI_.2 231 0 _
        refine sm_T_go 2 (c1 := (93, [some (.inr (.inr (some (13, 0)))), some (.inl c_), some (.inl mn), some (.inl p_), some (.inl k_)], [.inl 63, .inl p_, .inl (S_.2.2.1 231 0 (16 * c_ + k_).toNat), .inr (.inr (some (13, 0))), .inl (S_.2.2.1 190 0 p_.toNat), .inl p_, .inr (.inr (some (190, 0)))], S_)) rfl ?_
        refine sm_T_bin (w := (p_ % 64)) rfl (bi_msk (k := 6) (by decide)) ?_ -- pc_ 93
        refine sm_T_cal (d1 := 0) (Q1 := vq_431n (S_.2.2.1 231 0 (16 * c_ + k_).toNat) (p_ % 64) S_) rfl rfl (by decide) (vc_431n (S_.2.2.1 231 0 (16 * c_ + k_).toNat) (p_ % 64) S_ hI_ (by omega) (by omega)) (fun u_ Sx5_ px8_ => ?_)
        obtain ⟨rfl, vx10_, rfl, px8_⟩ := px8_
        have e94_ : vx10_ = 0 ∨ vx10_ = 1 := by (rw [px8_]; split <;> omega)
        have b94_ : vx10_ = if revq c_ S0_ (fun n_ => lbt (S_.2.2.2 238 0 n_) (p_ % 64).toNat) k_.toNat = true then 1 else 0 := by (have y9_ := px8_; have g231_ : S_.2.2.1 231 0 = S0_.2.2.1 231 0 := fr_arr hF_ rfl; rw [g231_] at y9_; rw [y9_]; unfold revq; rw [show ((k_.toNat : Nat) : Int) = k_ by omega])
        refine sm_T_go 1 (c1 := (99, [some (.inr (.inr (some (13, 0)))), some (.inl c_), some (.inl mn), some (.inl p_), some (.inl k_)], [.inl k_, .inl vx10_, .inl (S_.2.2.1 190 0 p_.toNat), .inl p_, .inr (.inr (some (190, 0)))], S_)) rfl ?_
        refine sm_T_bin (w := (i_shl vx10_ k_)) rfl rfl ?_ -- pc_ 99
        have bx11_ := bsh (k_ := 16) e94_ (show 0 ≤ k_ by omega) (by omega) (by decide)
        refine sm_T_bin (w := (i_or (S_.2.2.1 190 0 p_.toNat) (i_shl vx10_ k_))) rfl rfl ?_ -- pc_ 100
        have bx12_ := i_orp (x_ := (S_.2.2.1 190 0 p_.toNat)) (y_ := (i_shl vx10_ k_)) (k_ := 16) (by decide) (by omega) (by omega)
        refine sm_T_iast (n := 4096) rfl rfl (by omega) (by omega) ?_
        have hIx13_ : gi (sm_aI S_ 190 0 p_.toNat (i_or (S_.2.2.1 190 0 p_.toNat) (i_shl vx10_ k_))) := gi_aI hI_ (show 0 ≤ (i_or (S_.2.2.1 190 0 p_.toNat) (i_shl vx10_ k_)) ∧ (i_or (S_.2.2.1 190 0 p_.toNat) (i_shl vx10_ k_)) ≤ 65535 from ⟨by omega, by omega⟩)
        have hFx14_ : ai_fr (sx_W vw_432n) S0_ (sm_aI S_ 190 0 p_.toNat (i_or (S_.2.2.1 190 0 p_.toNat) (i_shl vx10_ k_))) := ai_fr_tr hF_ (ai_fr_aI rfl)
        refine sm_T_inc (a := 4) (z := 1) (v := k_) (w := k_ + 1) rfl rfl (by omega) (by omega) (by omega) ?_ -- pc_ 102
        refine sm_T_go 1 (c1 := (59, [some (.inr (.inr (some (13, 0)))), some (.inl c_), some (.inl mn), some (.inl p_), some (.inl (k_ + 1))], [], sm_aI S_ 190 0 p_.toNat (i_or (S_.2.2.1 190 0 p_.toNat) (i_shl vx10_ k_)))) rfl ?_
        refine ih_.2.1 mn p_ (k_ + 1) (sm_aI S_ 190 0 p_.toNat (i_or (S_.2.2.1 190 0 p_.toNat) (i_shl vx10_ k_))) hIx13_ hFx14_ ⟨?_, ?_, ?_, ?_, ?_, ?_, trivial⟩ ?_
        · omega
        · (rw [rd_ne (by decide)]; exact h2_)
        · (intro p9_ hp9_; rw [rd_ne (by decide)]; exact h1_ p9_ hp9_)
        · (intro p9_ hp9_; exact rlq_cg (hq_ p9_ hp9_) (by first | (rw [rd_ne (by decide)]; done) | (rw [rd_eq, if_neg (by omega)])) (by first | (rw [rd_ne (by decide)]; done) | (rw [rd_eq, if_neg (by omega)])))
        · exact hv_
        · (refine ⟨?_, by omega⟩; rw [rd_eq, if_pos rfl]; exact trnq ⟨by omega, by omega⟩ hok_.1 b94_)
        · omega
    · rintro mn p_ k_ S_ hI_ hF_ ⟨h0_, h2_, h1_, hq_, hv_, hok_, hnx_, -⟩ hm_
      have cA_ : 0 ≤ S_.2.2.1 223 0 c_.toNat ∧ S_.2.2.1 223 0 c_.toNat ≤ 12 := hI_.2 223 0 _
      have cB_ : 0 ≤ S_.2.2.1 224 0 c_.toNat ∧ S_.2.2.1 224 0 c_.toNat ≤ 6 := hI_.2 224 0 _
      have cG_ : 0 ≤ S_.2.2.1 228 0 c_.toNat ∧ S_.2.2.1 228 0 c_.toNat ≤ 150 := hI_.2 228 0 _
      have f223_ : S_.2.2.1 223 0 = S0_.2.2.1 223 0 := fr_arr hF_ rfl
      have f224_ : S_.2.2.1 224 0 = S0_.2.2.1 224 0 := fr_arr hF_ rfl
      have x223_ : S_.2.2.1 223 0 c_.toNat = S0_.2.2.1 223 0 c_.toNat := congrFun f223_ _
      have x224_ : S_.2.2.1 224 0 c_.toNat = S0_.2.2.1 224 0 c_.toNat := congrFun f224_ _
      have w1_ := pw_le (n := (S0_.2.2.1 223 0 c_.toNat).toNat + (S0_.2.2.1 224 0 c_.toNat).toNat) (m := 12) (by omega)
      have w2_ := pw_pos ((S0_.2.2.1 223 0 c_.toNat).toNat + (S0_.2.2.1 224 0 c_.toNat).toNat)
      have w3_ : ((2 ^ ((S0_.2.2.1 223 0 c_.toNat).toNat + (S0_.2.2.1 224 0 c_.toNat).toNat) : Nat) : Int) = (2 : Int) ^ ((S0_.2.2.1 223 0 c_.toNat).toNat + (S0_.2.2.1 224 0 c_.toNat).toNat) := by push_cast; rfl
      have w4_ := pw_le (n := (S0_.2.2.1 224 0 c_.toNat).toNat) (m := 6) (by omega)
      have w5_ := pw_pos (S0_.2.2.1 224 0 c_.toNat).toNat
      have ho9_ := con_fr hc_.1 hI_ ho_ hF_
      have f228_ : S_.2.2.1 228 0 = S0_.2.2.1 228 0 := fr_arr hF_ rfl
      have f225_ : S_.2.2.1 225 0 = S0_.2.2.1 225 0 := fr_arr hF_ rfl
      have x225_ : S_.2.2.1 225 0 c_.toNat = S0_.2.2.1 225 0 c_.toNat := congrFun f225_ _
      have c25_ : 0 ≤ S_.2.2.1 225 0 c_.toNat ∧ S_.2.2.1 225 0 c_.toNat ≤ 16 := hI_.2 225 0 _
      refine sm_T_go 4 (c1 := (118, [some (.inr (.inr (some (13, 0)))), some (.inl c_), some (.inl mn), some (.inl p_), some (.inl k_)], [.inl c_, .inr (.inr (some (224, 0))), .inl k_], S_)) rfl ?_
      refine sm_T_iald (n := 4) rfl rfl (by omega) (by omega) ?_
      have bx1_ : 0 ≤ S_.2.2.1 224 0 c_.toNat ∧ S_.2.2.1 224 0 c_.toNat ≤ 6 := hI_.2 224 0 _
      refine sm_T_br (a := 3) (z := 41) rfl (fun cx2_ => ?_) (fun cx2_ => ?_)
      · have cx2_ : (S_.2.2.1 224 0 c_.toNat) ≤ k_ := of_decide_eq_true cx2_
        refine sm_T_inc (a := 3) (z := 1) (v := p_) (w := p_ + 1) rfl rfl (by omega) (by omega) (by omega) ?_ -- pc_ 160
        refine sm_T_go 1 (c1 := (18, [some (.inr (.inr (some (13, 0)))), some (.inl c_), some (.inl mn), some (.inl (p_ + 1)), some (.inl k_)], [], S_)) rfl ?_
        refine sm_T_wk [some (.inr (.inr (some (13, 0)))), some (.inl c_), some (.inl mn), some (.inl (p_ + 1)), none] (by exact ⟨rfl, rfl, rfl, rfl, trivial⟩) ?_
        refine ih_.1 mn (p_ + 1) S_ hI_ hF_ ⟨?_, ?_, ?_, ?_, trivial⟩ ?_
        · omega
        · intro p9_ hp9_
          by_cases z9_ : p9_ = p_.toNat
          · rw [z9_]; exact h2_
          · exact h1_ p9_ (by omega)
        · (intro p9_ hp9_; by_cases z9_ : (p9_ : Int) < p_; exact hq_ p9_ z9_; (rw [show p9_ = p_.toNat by omega]; refine ⟨_, ?_, hok_, ?_⟩; (have y9_ := hv_ (p_ % 64).toNat (by omega); rw [show 64 * (p_ / 64).toNat + (p_ % 64).toNat = p_.toNat by omega] at y9_; exact y9_); (rw [show (S0_.2.2.1 224 0 c_.toNat).toNat = k_.toNat by omega]; exact hnx_.1)))
        · (intro z9_; rw [show (p_ + 1) / 64 = p_ / 64 by omega]; exact hv_)
        · omega
      · have cx2_ : ¬ ((S_.2.2.1 224 0 c_.toNat) ≤ k_) := of_decide_eq_false cx2_
        have o9_ := ho9_.2 k_ (by omega) (by omega)
        refine sm_T_go 4 (c1 := (128, [some (.inr (.inr (some (13, 0)))), some (.inl c_), some (.inl mn), some (.inl p_), some (.inl k_)], [.inl p_, .inr (.inr (some (191, 0))), .inl p_, .inr (.inr (some (191, 0)))], S_)) rfl ?_
        refine sm_T_iald (n := 4096) rfl rfl (by omega) (by omega) ?_
        have bx3_ : 0 ≤ S_.2.2.1 191 0 p_.toNat ∧ S_.2.2.1 191 0 p_.toNat ≤ 63 := hI_.2 191 0 _
        refine sm_T_go 5 (c1 := (137, [some (.inr (.inr (some (13, 0)))), some (.inl c_), some (.inl mn), some (.inl p_), some (.inl k_)], [.inl c_, .inl 6, .inr (.inr (some (232, 0))), .inr (.inr (some (13, 0))), .inl (S_.2.2.1 191 0 p_.toNat), .inl p_, .inr (.inr (some (191, 0)))], S_)) rfl ?_
        refine sm_T_bin (w := 6 * c_) rfl (bi_mul (by omega) (by omega) (by omega)) ?_ -- pc_ 137
        refine sm_T_go 1 (c1 := (140, [some (.inr (.inr (some (13, 0)))), some (.inl c_), some (.inl mn), some (.inl p_), some (.inl k_)], [.inl k_, .inl (6 * c_), .inr (.inr (some (232, 0))), .inr (.inr (some (13, 0))), .inl (S_.2.2.1 191 0 p_.toNat), .inl p_, .inr (.inr (some (191, 0)))], S_)) rfl ?_
        refine sm_T_bin (w := 6 * c_ + k_) rfl (bi_add (by omega) (by omega) (by omega)) ?_ -- pc_ 140
        refine sm_T_iald (n := 24) rfl rfl (by omega) (by omega) ?_
        have bx4_ : (-2) ≤ S_.2.2.1 232 0 (6 * c_ + k_).toNat ∧ S_.2.2.1 232 0 (6 * c_ + k_).toNat ≤ 9000 := hI_.2 232 0 _
        refine sm_T_go 2 (c1 := (145, [some (.inr (.inr (some (13, 0)))), some (.inl c_), some (.inl mn), some (.inl p_), some (.inl k_)], [.inl 63, .inl p_, .inl (S_.2.2.1 232 0 (6 * c_ + k_).toNat), .inr (.inr (some (13, 0))), .inl (S_.2.2.1 191 0 p_.toNat), .inl p_, .inr (.inr (some (191, 0)))], S_)) rfl ?_
        refine sm_T_bin (w := (p_ % 64)) rfl (bi_msk (k := 6) (by decide)) ?_ -- pc_ 145
        refine sm_T_cal (d1 := 0) (Q1 := vq_431n (S_.2.2.1 232 0 (6 * c_ + k_).toNat) (p_ % 64) S_) rfl rfl (by decide) (vc_431n (S_.2.2.1 232 0 (6 * c_ + k_).toNat) (p_ % 64) S_ hI_ (by omega) (by omega)) (fun u_ Sx5_ px8_ => ?_)
        obtain ⟨rfl, vx10_, rfl, px8_⟩ := px8_
        have e146_ : vx10_ = 0 ∨ vx10_ = 1 := by (rw [px8_]; split <;> omega)
        have b146_ : vx10_ = if rexq c_ S0_ (fun n_ => lbt (S_.2.2.2 238 0 n_) (p_ % 64).toNat) k_.toNat = true then 1 else 0 := by (have y9_ := px8_; have g232_ : S_.2.2.1 232 0 = S0_.2.2.1 232 0 := fr_arr hF_ rfl; rw [g232_] at y9_; rw [y9_]; unfold rexq; rw [show ((k_.toNat : Nat) : Int) = k_ by omega])
        refine sm_T_go 1 (c1 := (151, [some (.inr (.inr (some (13, 0)))), some (.inl c_), some (.inl mn), some (.inl p_), some (.inl k_)], [.inl k_, .inl vx10_, .inl (S_.2.2.1 191 0 p_.toNat), .inl p_, .inr (.inr (some (191, 0)))], S_)) rfl ?_
        refine sm_T_bin (w := (i_shl vx10_ k_)) rfl rfl ?_ -- pc_ 151
        have bs9_ := bsh (k_ := (S0_.2.2.1 224 0 c_.toNat).toNat) e146_ (show 0 ≤ k_ by omega) (by omega) (by omega)
        refine sm_T_bin (w := (i_or (S_.2.2.1 191 0 p_.toNat) (i_shl vx10_ k_))) rfl rfl ?_ -- pc_ 152
        have or9_ := i_orp (x_ := (S_.2.2.1 191 0 p_.toNat)) (y_ := (i_shl vx10_ k_)) (k_ := (S0_.2.2.1 224 0 c_.toNat).toNat) (by omega) h2_ bs9_
        refine sm_T_iast (n := 4096) rfl rfl (by omega) (by omega) ?_
        have hIx13_ : gi (sm_aI S_ 191 0 p_.toNat (i_or (S_.2.2.1 191 0 p_.toNat) (i_shl vx10_ k_))) := gi_aI hI_ (show 0 ≤ (i_or (S_.2.2.1 191 0 p_.toNat) (i_shl vx10_ k_)) ∧ (i_or (S_.2.2.1 191 0 p_.toNat) (i_shl vx10_ k_)) ≤ 63 from ⟨by omega, by omega⟩)
        have hFx14_ : ai_fr (sx_W vw_432n) S0_ (sm_aI S_ 191 0 p_.toNat (i_or (S_.2.2.1 191 0 p_.toNat) (i_shl vx10_ k_))) := ai_fr_tr hF_ (ai_fr_aI rfl)
        refine sm_T_inc (a := 4) (z := 1) (v := k_) (w := k_ + 1) rfl rfl (by omega) (by omega) (by omega) ?_ -- pc_ 154
        refine sm_T_go 1 (c1 := (111, [some (.inr (.inr (some (13, 0)))), some (.inl c_), some (.inl mn), some (.inl p_), some (.inl (k_ + 1))], [], sm_aI S_ 191 0 p_.toNat (i_or (S_.2.2.1 191 0 p_.toNat) (i_shl vx10_ k_)))) rfl ?_
        refine ih_.2.2 mn p_ (k_ + 1) (sm_aI S_ 191 0 p_.toNat (i_or (S_.2.2.1 191 0 p_.toNat) (i_shl vx10_ k_))) hIx13_ hFx14_ ⟨?_, ?_, ?_, ?_, ?_, ?_, ?_, trivial⟩ ?_
        · omega
        · (rw [rd_eq, if_pos rfl]; exact or9_)
        · (intro p9_ hp9_; rw [rd_eq, if_neg (by omega)]; exact h1_ p9_ hp9_)
        · (intro p9_ hp9_; exact rlq_cg (hq_ p9_ hp9_) (by first | (rw [rd_ne (by decide)]; done) | (rw [rd_eq, if_neg (by omega)])) (by first | (rw [rd_ne (by decide)]; done) | (rw [rd_eq, if_neg (by omega)])))
        · exact hv_
        · (rw [rd_ne (by decide)]; exact hok_)
        · (refine ⟨?_, by omega⟩; rw [rd_eq, if_pos rfl]; exact trnq ⟨by omega, by omega⟩ hnx_.1 b146_)
        · omega
set_option maxHeartbeats 1000000 in
set_option maxRecDepth 20000 in
theorem vc_432n {sc_ : Nat × (Nat → Int)} (c_ : Int) (S0_ : sm_S) (hI_ : gi S0_) (hc_ : 0 ≤ c_ ∧ c_ ≤ 3) (hx_ : S0_.2.2.1 223 0 c_.toNat + S0_.2.2.1 224 0 c_.toNat ≤ 12) (hg_ : cgt c_ S0_) (ho_ : con c_ S0_) : sm_T (mt_P sc_) 2 432 (0, [some (.inr (.inr (some (13, 0)))), some (.inl c_), none, none, none], [], S0_) (fun ro9_ => ∃ u_ S1_, ro9_ = (.inl u_, S1_, 0) ∧ vq_432n c_ S0_ u_ S1_) := by
  have hF_ : ai_fr (sx_W vw_432n) S0_ S0_ := ai_fr_rf
  have cA_ : 0 ≤ S0_.2.2.1 223 0 c_.toNat ∧ S0_.2.2.1 223 0 c_.toNat ≤ 12 := hI_.2 223 0 _
  have cB_ : 0 ≤ S0_.2.2.1 224 0 c_.toNat ∧ S0_.2.2.1 224 0 c_.toNat ≤ 6 := hI_.2 224 0 _
  have cG_ : 0 ≤ S0_.2.2.1 228 0 c_.toNat ∧ S0_.2.2.1 228 0 c_.toNat ≤ 150 := hI_.2 228 0 _
  have w1_ := pw_le (n := (S0_.2.2.1 223 0 c_.toNat).toNat + (S0_.2.2.1 224 0 c_.toNat).toNat) (m := 12) (by omega)
  have w2_ := pw_pos ((S0_.2.2.1 223 0 c_.toNat).toNat + (S0_.2.2.1 224 0 c_.toNat).toNat)
  have w3_ : ((2 ^ ((S0_.2.2.1 223 0 c_.toNat).toNat + (S0_.2.2.1 224 0 c_.toNat).toNat) : Nat) : Int) = (2 : Int) ^ ((S0_.2.2.1 223 0 c_.toNat).toNat + (S0_.2.2.1 224 0 c_.toNat).toNat) := by push_cast; rfl
  have w4_ := pw_le (n := (S0_.2.2.1 224 0 c_.toNat).toNat) (m := 6) (by omega)
  have w5_ := pw_pos (S0_.2.2.1 224 0 c_.toNat).toNat
  have s9_ : i_shl 1 (S0_.2.2.1 223 0 c_.toNat + S0_.2.2.1 224 0 c_.toNat) = 2 ^ ((S0_.2.2.1 223 0 c_.toNat).toNat + (S0_.2.2.1 224 0 c_.toNat).toNat) := by (rw [i_shl1 (by omega) (by omega), show (S0_.2.2.1 223 0 c_.toNat + S0_.2.2.1 224 0 c_.toNat).toNat = (S0_.2.2.1 223 0 c_.toNat).toNat + (S0_.2.2.1 224 0 c_.toNat).toNat by omega])
  refine sm_T_go 4 (c1 := (6, [some (.inr (.inr (some (13, 0)))), some (.inl c_), none, none, none], [.inl c_, .inr (.inr (some (223, 0))), .inl 1], S0_)) rfl ?_
  refine sm_T_iald (n := 4) rfl rfl (by omega) (by omega) ?_
  have bx1_ : 0 ≤ S0_.2.2.1 223 0 c_.toNat ∧ S0_.2.2.1 223 0 c_.toNat ≤ 12 := hI_.2 223 0 _
  refine sm_T_go 3 (c1 := (12, [some (.inr (.inr (some (13, 0)))), some (.inl c_), none, none, none], [.inl c_, .inr (.inr (some (224, 0))), .inl (S0_.2.2.1 223 0 c_.toNat), .inl 1], S0_)) rfl ?_
  refine sm_T_iald (n := 4) rfl rfl (by omega) (by omega) ?_
  have bx2_ : 0 ≤ S0_.2.2.1 224 0 c_.toNat ∧ S0_.2.2.1 224 0 c_.toNat ≤ 6 := hI_.2 224 0 _
  refine sm_T_bin (w := (S0_.2.2.1 223 0 c_.toNat) + (S0_.2.2.1 224 0 c_.toNat)) rfl (bi_add (by omega) (by omega) (by omega)) ?_ -- pc_ 13
  refine sm_T_bin (w := (i_shl 1 ((S0_.2.2.1 223 0 c_.toNat) + (S0_.2.2.1 224 0 c_.toNat)))) rfl rfl ?_ -- pc_ 14
  refine sm_T_go 3 (c1 := (18, [some (.inr (.inr (some (13, 0)))), some (.inl c_), some (.inl (i_shl 1 ((S0_.2.2.1 223 0 c_.toNat) + (S0_.2.2.1 224 0 c_.toNat)))), some (.inl 0), none], [], S0_)) rfl ?_
  refine (vl_432n c_ S0_ hc_ hx_ hg_ ho_ _).1 (i_shl 1 ((S0_.2.2.1 223 0 c_.toNat) + (S0_.2.2.1 224 0 c_.toNat))) 0 S0_ hI_ hF_ ⟨?_, ?_, ?_, ?_, trivial⟩ (Nat.lt_succ_self _)
  · omega
  · (intro p9_ hp9_; exfalso; omega)
  · (intro p9_ hp9_; exfalso; omega)
  · (intro z9_; exfalso; omega)
