/-! 99.zt1 -/
section
/-! the reference: a chip kept; written by wip/p55/gen/vg -/

/-! the_ reference: a_ chip kept -/
theorem kch {F_ N_ d_ c_ : Int} {S_ S'_ : sm_S} (hI_ : ∀ j_, S_.2.2.1 216 0 j_ ≤ 11) (hd_ : dmp F_ N_ d_ S_) (hc_ : 0 ≤ c_) (hm_ : mad F_ S_) (hl_ : S_.1 13 0 134 = 0) (r_ : S'_.2.2.1 223 0 c_.toNat = S_.2.2.1 154 0 d_.toNat ∧ S'_.2.2.1 224 0 c_.toNat = S_.2.2.1 155 0 d_.toNat ∧ S'_.2.2.1 225 0 c_.toNat = S_.2.2.1 156 0 d_.toNat ∧ S'_.2.2.1 226 0 c_.toNat = S_.2.2.1 157 0 d_.toNat ∧ S'_.2.2.1 227 0 c_.toNat = S_.2.2.1 157 0 d_.toNat ∧ S'_.2.2.1 228 0 c_.toNat = S_.1 13 0 129) (h2_ : ∀ j_ : Int, 0 ≤ j_ → j_ < S_.1 13 0 129 → S'_.2.2.1 229 0 (150 * c_ + j_).toNat = S_.2.2.1 216 0 j_.toNat) (h3_ : ∀ j_ : Int, 0 ≤ j_ → j_ < 3 * S_.1 13 0 129 → S'_.2.2.1 230 0 (450 * c_ + j_).toNat = S_.2.2.1 217 0 j_.toNat) (h4_ : ∀ j_ : Int, 0 ≤ j_ → j_ < 12 → S'_.2.2.1 234 0 (12 * c_ + j_).toNat = S_.2.2.1 185 0 (12 * S_.1 13 0 106 + j_).toNat) (ho_ : (∀ k_ : Int, 0 ≤ k_ → k_ < S_.2.2.1 156 0 d_.toNat → S'_.2.2.1 231 0 (16 * c_ + k_).toNat < F_ - 1 + S_.1 13 0 129) ∧ ∀ k_ : Int, 0 ≤ k_ → k_ < S_.2.2.1 155 0 d_.toNat → S'_.2.2.1 232 0 (6 * c_ + k_).toNat < F_ - 1 + S_.1 13 0 129) (z0_ : S'_.2.2.1 240 0 c_.toNat = 0) (z1_ : S'_.2.2.1 251 0 c_.toNat = 0) : cRk c_ S'_ := by
  obtain ⟨r1_, r2_, r3_, r4_, r5_, r6_⟩ := r_
  obtain ⟨⟨a1_, a2_, a3_, a4_, a5_, a6_, a7_, a8_, a9_⟩, F1_, I_, R_, N1_, k1_, k2_, k3_, k4_, k5_, k6_, -⟩ := hd_
  have e_ : S_.2.2.1 154 0 d_.toNat + S_.2.2.1 155 0 d_.toNat = F_ - 1 := by omega
  have eR_ : (S_.2.2.1 155 0 d_.toNat).toNat = R_ := by omega
  refine ⟨by rw [r1_, r2_]; omega, by rw [r4_, r2_, eR_]; exact k6_.2, by rw [r5_, r2_, eR_]; exact k6_.2, fun g_ g0_ g1_ k_ b0_ b1_ b2_ => ?_, ⟨fun k_ b0_ b1_ => ?_, fun k_ b0_ b1_ => ?_⟩, fun p_ => ?_, fun p_ => ?_⟩
  · rw [r6_] at g1_
    have m_ := hm_ g_ g0_ g1_
    have c0_ : 0 ≤ S_.2.2.1 216 0 g_.toNat := by
      rcases m_.1 with y_ | y_
      · exact y_
      · rw [hl_] at y_; exact absurd y_ (by decide)
    have c1_ : S_.2.2.1 216 0 g_.toNat ≤ 11 := hI_ _
    rw [h2_ g_ g0_ g1_, h4_ _ c0_ (by omega)] at b2_
    have q1_ := (m_.2 k_ b0_ b1_).1
    have q_ := (m_.2 k_ b0_ b1_).2 (by
      rcases b2_ with y_ | y_
      · exact Or.inl y_
      · exact Or.inr ⟨c0_, y_⟩)
    have w_ := h3_ (3 * g_ + k_) (by omega) (by omega)
    rw [show 450 * c_ + (3 * g_ + k_) = 450 * c_ + 3 * g_ + k_ by omega] at w_
    rw [r1_, r2_, w_]
    omega
  · rw [r3_] at b1_
    rw [r1_, r2_, r6_]
    have w_ := ho_.1 k_ b0_ b1_
    omega
  · rw [r2_] at b1_
    rw [r1_, r2_, r6_]
    have w_ := ho_.2 k_ b0_ b1_
    omega
  · rw [z0_] at p_
    exact absurd p_ (by decide)
  · rw [z1_] at p_
    exact absurd p_ (by decide)
/-! M_.keepChip -/
def vw_420 : sx_Wl := ([], [222, 223, 224, 225, 226, 227, 228, 229, 230, 233, 234, 235, 236, 237, 240, 251, 263, 272, 289, 294], [])
def vq_420 (c_ : Int) (F_ : Int) (N_ : Int) (d_ : Int) (S0_ : sm_S) (u_ : Option sm_V) (S1_ : sm_S) : Prop := u_ = none ∧ gi S1_ ∧ ai_fr (sx_W vw_420) S0_ S1_ ∧ (rcf c_.toNat S0_ S1_ ∧ (cRk c_ S1_))
set_option maxHeartbeats 2000000 in
set_option maxRecDepth 20000 in
theorem vl_420 {sc_ : Nat × (Nat → Int)} (c_ : Int) (F_ : Int) (N_ : Int) (d_ : Int) (S0_ : sm_S) (hd_ : dmp F_ N_ d_ S0_) (hc_ : 0 ≤ c_ ∧ c_ ≤ 3) (hmd_ : mad F_ S0_) (hl_ : (S0_.1 13 0 134) = 0) (hg_ : 0 ≤ (S0_.1 13 0 129) ∧ (S0_.1 13 0 129) ≤ 150) (hlb_ : 0 ≤ (S0_.1 13 0 106) ∧ (S0_.1 13 0 106) ≤ 2) (ho_ : (∀ k_ : Int, 0 ≤ k_ → k_ < S0_.2.2.1 156 0 d_.toNat → S0_.2.2.1 231 0 (16 * c_ + k_).toNat < F_ - 1 + S0_.1 13 0 129) ∧ ∀ k_ : Int, 0 ≤ k_ → k_ < S0_.2.2.1 155 0 d_.toNat → S0_.2.2.1 232 0 (6 * c_ + k_).toNat < F_ - 1 + S0_.1 13 0 129) : ∀ nn_ : Nat, (∀ (g_ : Int) (S_ : sm_S), gi S_ → ai_fr (sx_W vw_420) S0_ S_ → ((0 ≤ g_ ∧ g_ ≤ S0_.1 13 0 129) ∧ (S_.2.2.1 223 0 c_.toNat = S0_.2.2.1 154 0 d_.toNat ∧ S_.2.2.1 224 0 c_.toNat = S0_.2.2.1 155 0 d_.toNat ∧ S_.2.2.1 225 0 c_.toNat = S0_.2.2.1 156 0 d_.toNat ∧ S_.2.2.1 226 0 c_.toNat = S0_.2.2.1 157 0 d_.toNat ∧ S_.2.2.1 227 0 c_.toNat = S0_.2.2.1 157 0 d_.toNat ∧ S_.2.2.1 228 0 c_.toNat = S0_.1 13 0 129) ∧ (∀ j9_ : Int, 0 ≤ j9_ → j9_ < g_ → S_.2.2.1 229 0 (150 * c_ + j9_).toNat = S0_.2.2.1 216 0 j9_.toNat) ∧ (∀ j9_ : Int, 0 ≤ j9_ → j9_ < 3 * g_ → S_.2.2.1 230 0 (450 * c_ + j9_).toNat = S0_.2.2.1 217 0 j9_.toNat) ∧ (rcf c_.toNat S0_ S_) ∧ True) → ((9000 - 10 * g_).toNat) < nn_ → sm_T (mt_P sc_) 1 420 (91, [some (.inr (.inr (some (13, 0)))), some (.inl c_), some (.inl g_), none], [], S_) (fun ro9_ => ∃ u_ S1_, ro9_ = (.inl u_, S1_, 0) ∧ vq_420 c_ F_ N_ d_ S0_ u_ S1_)) ∧ (∀ (g_ : Int) (k_ : Int) (S_ : sm_S), gi S_ → ai_fr (sx_W vw_420) S0_ S_ → ((0 ≤ g_ ∧ g_ < S0_.1 13 0 129 ∧ 0 ≤ k_ ∧ k_ ≤ 3) ∧ (S_.2.2.1 223 0 c_.toNat = S0_.2.2.1 154 0 d_.toNat ∧ S_.2.2.1 224 0 c_.toNat = S0_.2.2.1 155 0 d_.toNat ∧ S_.2.2.1 225 0 c_.toNat = S0_.2.2.1 156 0 d_.toNat ∧ S_.2.2.1 226 0 c_.toNat = S0_.2.2.1 157 0 d_.toNat ∧ S_.2.2.1 227 0 c_.toNat = S0_.2.2.1 157 0 d_.toNat ∧ S_.2.2.1 228 0 c_.toNat = S0_.1 13 0 129) ∧ (∀ j9_ : Int, 0 ≤ j9_ → j9_ < g_ + 1 → S_.2.2.1 229 0 (150 * c_ + j9_).toNat = S0_.2.2.1 216 0 j9_.toNat) ∧ (∀ j9_ : Int, 0 ≤ j9_ → j9_ < 3 * g_ + k_ → S_.2.2.1 230 0 (450 * c_ + j9_).toNat = S0_.2.2.1 217 0 j9_.toNat) ∧ (rcf c_.toNat S0_ S_) ∧ True) → ((8995 - 10 * g_ - k_).toNat) < nn_ → sm_T (mt_P sc_) 1 420 (119, [some (.inr (.inr (some (13, 0)))), some (.inl c_), some (.inl g_), some (.inl k_)], [], S_) (fun ro9_ => ∃ u_ S1_, ro9_ = (.inl u_, S1_, 0) ∧ vq_420 c_ F_ N_ d_ S0_ u_ S1_)) ∧ (∀ (i_ : Int) (S_ : sm_S), gi S_ → ai_fr (sx_W vw_420) S0_ S_ → ((0 ≤ i_ ∧ i_ ≤ 12) ∧ (S_.2.2.1 223 0 c_.toNat = S0_.2.2.1 154 0 d_.toNat ∧ S_.2.2.1 224 0 c_.toNat = S0_.2.2.1 155 0 d_.toNat ∧ S_.2.2.1 225 0 c_.toNat = S0_.2.2.1 156 0 d_.toNat ∧ S_.2.2.1 226 0 c_.toNat = S0_.2.2.1 157 0 d_.toNat ∧ S_.2.2.1 227 0 c_.toNat = S0_.2.2.1 157 0 d_.toNat ∧ S_.2.2.1 228 0 c_.toNat = S0_.1 13 0 129) ∧ (∀ j9_ : Int, 0 ≤ j9_ → j9_ < S0_.1 13 0 129 → S_.2.2.1 229 0 (150 * c_ + j9_).toNat = S0_.2.2.1 216 0 j9_.toNat) ∧ (∀ j9_ : Int, 0 ≤ j9_ → j9_ < 3 * S0_.1 13 0 129 → S_.2.2.1 230 0 (450 * c_ + j9_).toNat = S0_.2.2.1 217 0 j9_.toNat) ∧ (∀ j9_ : Int, 0 ≤ j9_ → j9_ < i_ → S_.2.2.1 234 0 (12 * c_ + j9_).toNat = S0_.2.2.1 185 0 (12 * S0_.1 13 0 106 + j9_).toNat) ∧ (rcf c_.toNat S0_ S_) ∧ True) → ((500 - i_).toNat) < nn_ → sm_T (mt_P sc_) 1 420 (179, [some (.inr (.inr (some (13, 0)))), some (.inl c_), some (.inl i_), none], [], S_) (fun ro9_ => ∃ u_ S1_, ro9_ = (.inl u_, S1_, 0) ∧ vq_420 c_ F_ N_ d_ S0_ u_ S1_)) := by
  intro nn_
  induction nn_ with
  | zero => exact ⟨fun _ _ _ _ _ h_ => absurd h_ (Nat.not_lt_zero _), fun _ _ _ _ _ _ h_ => absurd h_ (Nat.not_lt_zero _), fun _ _ _ _ _ h_ => absurd h_ (Nat.not_lt_zero _)⟩
  | succ nn_ ih_ =>
    refine ⟨?_, ?_, ?_⟩
    · rintro g_ S_ hI_ hF_ ⟨h0_, h1_, h2_, h3_, hK_, -⟩ hm_
      have d1_ := hd_.1
      have s129_ : S_.1 13 0 129 = S0_.1 13 0 129 := hF_.1 13 0 129 rfl
      have s106_ : S_.1 13 0 106 = S0_.1 13 0 106 := hF_.1 13 0 106 rfl
      have s105_ : S_.1 13 0 105 = S0_.1 13 0 105 := hF_.1 13 0 105 rfl
      have f216_ : S_.2.2.1 216 0 = S0_.2.2.1 216 0 := fr_arr hF_ rfl
      have f217_ : S_.2.2.1 217 0 = S0_.2.2.1 217 0 := fr_arr hF_ rfl
      have f185_ : S_.2.2.1 185 0 = S0_.2.2.1 185 0 := fr_arr hF_ rfl
      have f231_ : S_.2.2.1 231 0 = S0_.2.2.1 231 0 := fr_arr hF_ rfl
      have f232_ : S_.2.2.1 232 0 = S0_.2.2.1 232 0 := fr_arr hF_ rfl
      have bx1_ : 0 ≤ S_.1 13 0 129 ∧ S_.1 13 0 129 ≤ 8191 := hI_.1 13 0 129 rfl
      refine sm_T_go 3 (c1 := (96, [some (.inr (.inr (some (13, 0)))), some (.inl c_), some (.inl g_), none], [.inl (S_.1 13 0 129), .inl g_], S_)) rfl ?_
      refine sm_T_br (a := 3) (z := 66) rfl (fun cx2_ => ?_) (fun cx2_ => ?_)
      · have cx2_ : (S_.1 13 0 129) ≤ g_ := of_decide_eq_true cx2_
        have bx3_ : 0 ≤ S_.1 13 0 106 ∧ S_.1 13 0 106 ≤ 2 := hI_.1 13 0 106 rfl
        refine sm_T_go 7 (c1 := (175, [some (.inr (.inr (some (13, 0)))), some (.inl c_), some (.inl g_), none], [.inl (S_.1 13 0 106), .inr (.inr (some (184, 0))), .inl c_, .inr (.inr (some (233, 0)))], S_)) rfl ?_
        refine sm_T_iald (n := 3) rfl rfl (by omega) (by omega) ?_
        have bx4_ : 0 ≤ S_.2.2.1 184 0 (S_.1 13 0 106).toNat ∧ S_.2.2.1 184 0 (S_.1 13 0 106).toNat ≤ 12 := hI_.2 184 0 _
        refine sm_T_iast (n := 4) rfl rfl (by omega) (by omega) ?_
        have hIx5_ : gi (sm_aI S_ 233 0 c_.toNat (S_.2.2.1 184 0 (S_.1 13 0 106).toNat)) := gi_aI hI_ (show 0 ≤ (S_.2.2.1 184 0 (S_.1 13 0 106).toNat) ∧ (S_.2.2.1 184 0 (S_.1 13 0 106).toNat) ≤ 12 from ⟨by omega, by omega⟩)
        have hFx6_ : ai_fr (sx_W vw_420) S0_ (sm_aI S_ 233 0 c_.toNat (S_.2.2.1 184 0 (S_.1 13 0 106).toNat)) := ai_fr_tr hF_ (ai_fr_aI rfl)
        have hKx7_ : rcf c_.toNat S0_ (sm_aI S_ 233 0 c_.toNat (S_.2.2.1 184 0 (S_.1 13 0 106).toNat)) := rcf_aI hK_ (Or.inr (by rw [show rcs 233 = 1 from rfl]; omega))
        refine sm_T_go 2 (c1 := (179, [some (.inr (.inr (some (13, 0)))), some (.inl c_), some (.inl 0), none], [], sm_aI S_ 233 0 c_.toNat (S_.2.2.1 184 0 (S_.1 13 0 106).toNat))) rfl ?_
        refine ih_.2.2 0 (sm_aI S_ 233 0 c_.toNat (S_.2.2.1 184 0 (S_.1 13 0 106).toNat)) hIx5_ hFx6_ ⟨?_, ?_, ?_, ?_, ?_, ?_, trivial⟩ ?_
        · omega
        · (try simp only [rd_eq, rd_ne, rf_eq, rf_nk, rf_nt, rd_fa, rd_af, rd_fl, rd_al, rd_lf, rd_la, rd_leq, rd_lne, rd_fr, rd_ar, ne_eq, Nat.reduceEqDiff, not_false_eq_true])
          exact h1_
        · intro j9_ u0_ u1_
          (try simp only [rd_eq, rd_ne, rf_eq, rf_nk, rf_nt, rd_fa, rd_af, rd_fl, rd_al, rd_lf, rd_la, rd_leq, rd_lne, rd_fr, rd_ar, ne_eq, Nat.reduceEqDiff, not_false_eq_true])
          exact h2_ j9_ u0_ (by omega)
        · intro j9_ u0_ u1_
          (try simp only [rd_eq, rd_ne, rf_eq, rf_nk, rf_nt, rd_fa, rd_af, rd_fl, rd_al, rd_lf, rd_la, rd_leq, rd_lne, rd_fr, rd_ar, ne_eq, Nat.reduceEqDiff, not_false_eq_true])
          exact h3_ j9_ u0_ (by omega)
        · (intro j9_ u0_ u1_; exfalso; omega)
        · exact hKx7_
        · omega
      · have cx2_ : ¬ ((S_.1 13 0 129) ≤ g_) := of_decide_eq_false cx2_
        have m9_ := hmd_ g_ (by omega) (by omega)
        have x216_ : S_.2.2.1 216 0 g_.toNat = S0_.2.2.1 216 0 g_.toNat := congrFun f216_ _
        have m8_ : 0 ≤ S0_.2.2.1 216 0 g_.toNat := by (rcases m9_.1 with y9_ | y9_; exact y9_; (exfalso; omega))
        refine sm_T_go 4 (c1 := (107, [some (.inr (.inr (some (13, 0)))), some (.inl c_), some (.inl g_), none], [.inl c_, .inl 150, .inr (.inr (some (229, 0)))], S_)) rfl ?_
        refine sm_T_bin (w := 150 * c_) rfl (bi_mul (by omega) (by omega) (by omega)) ?_ -- pc_ 107
        refine sm_T_go 1 (c1 := (109, [some (.inr (.inr (some (13, 0)))), some (.inl c_), some (.inl g_), none], [.inl g_, .inl (150 * c_), .inr (.inr (some (229, 0)))], S_)) rfl ?_
        refine sm_T_bin (w := 150 * c_ + g_) rfl (bi_add (by omega) (by omega) (by omega)) ?_ -- pc_ 109
        refine sm_T_go 3 (c1 := (115, [some (.inr (.inr (some (13, 0)))), some (.inl c_), some (.inl g_), none], [.inl g_, .inr (.inr (some (216, 0))), .inl (150 * c_ + g_), .inr (.inr (some (229, 0)))], S_)) rfl ?_
        refine sm_T_iald (n := 8192) rfl rfl (by omega) (by omega) ?_
        have bx8_ : (-1) ≤ S_.2.2.1 216 0 g_.toNat ∧ S_.2.2.1 216 0 g_.toNat ≤ 11 := hI_.2 216 0 _
        refine sm_T_iast (n := 600) rfl rfl (by omega) (by omega) ?_
        have hIx9_ : gi (sm_aI S_ 229 0 (150 * c_ + g_).toNat (S_.2.2.1 216 0 g_.toNat)) := gi_aI hI_ (show 0 ≤ (S_.2.2.1 216 0 g_.toNat) ∧ (S_.2.2.1 216 0 g_.toNat) ≤ 11 from ⟨by omega, by omega⟩)
        have hFx10_ : ai_fr (sx_W vw_420) S0_ (sm_aI S_ 229 0 (150 * c_ + g_).toNat (S_.2.2.1 216 0 g_.toNat)) := ai_fr_tr hF_ (ai_fr_aI rfl)
        have hKx11_ : rcf c_.toNat S0_ (sm_aI S_ 229 0 (150 * c_ + g_).toNat (S_.2.2.1 216 0 g_.toNat)) := rcf_aI hK_ (Or.inr (by rw [show rcs 229 = 150 from rfl]; omega))
        refine sm_T_go 2 (c1 := (119, [some (.inr (.inr (some (13, 0)))), some (.inl c_), some (.inl g_), some (.inl 0)], [], sm_aI S_ 229 0 (150 * c_ + g_).toNat (S_.2.2.1 216 0 g_.toNat))) rfl ?_
        refine ih_.2.1 g_ 0 (sm_aI S_ 229 0 (150 * c_ + g_).toNat (S_.2.2.1 216 0 g_.toNat)) hIx9_ hFx10_ ⟨?_, ?_, ?_, ?_, ?_, trivial⟩ ?_
        · omega
        · (try simp only [rd_eq, rd_ne, rf_eq, rf_nk, rf_nt, rd_fa, rd_af, rd_fl, rd_al, rd_lf, rd_la, rd_leq, rd_lne, rd_fr, rd_ar, ne_eq, Nat.reduceEqDiff, not_false_eq_true])
          exact h1_
        · intro j9_ u0_ u1_
          (try simp only [rd_eq, rd_ne, rf_eq, rf_nk, rf_nt, rd_fa, rd_af, rd_fl, rd_al, rd_lf, rd_la, rd_leq, rd_lne, rd_fr, rd_ar, ne_eq, Nat.reduceEqDiff, not_false_eq_true])
          by_cases z9_ : j9_ = g_
          · rw [z9_, if_pos rfl]; exact x216_
          · rw [if_neg (by omega)]; exact h2_ j9_ u0_ (by omega)
        · intro j9_ u0_ u1_
          (try simp only [rd_eq, rd_ne, rf_eq, rf_nk, rf_nt, rd_fa, rd_af, rd_fl, rd_al, rd_lf, rd_la, rd_leq, rd_lne, rd_fr, rd_ar, ne_eq, Nat.reduceEqDiff, not_false_eq_true])
          exact h3_ j9_ u0_ (by omega)
        · exact hKx11_
        · omega
    · rintro g_ k_ S_ hI_ hF_ ⟨h0_, h1_, h2_, h3_, hK_, -⟩ hm_
      have d1_ := hd_.1
      have s129_ : S_.1 13 0 129 = S0_.1 13 0 129 := hF_.1 13 0 129 rfl
      have s106_ : S_.1 13 0 106 = S0_.1 13 0 106 := hF_.1 13 0 106 rfl
      have s105_ : S_.1 13 0 105 = S0_.1 13 0 105 := hF_.1 13 0 105 rfl
      have f216_ : S_.2.2.1 216 0 = S0_.2.2.1 216 0 := fr_arr hF_ rfl
      have f217_ : S_.2.2.1 217 0 = S0_.2.2.1 217 0 := fr_arr hF_ rfl
      have f185_ : S_.2.2.1 185 0 = S0_.2.2.1 185 0 := fr_arr hF_ rfl
      have f231_ : S_.2.2.1 231 0 = S0_.2.2.1 231 0 := fr_arr hF_ rfl
      have f232_ : S_.2.2.1 232 0 = S0_.2.2.1 232 0 := fr_arr hF_ rfl
      refine sm_T_go 2 (c1 := (121, [some (.inr (.inr (some (13, 0)))), some (.inl c_), some (.inl g_), some (.inl k_)], [.inl 3, .inl k_], S_)) rfl ?_
      refine sm_T_br (a := 3) (z := 35) rfl (fun cx1_ => ?_) (fun cx1_ => ?_)
      · have cx1_ : 3 ≤ k_ := of_decide_eq_true cx1_
        refine sm_T_inc (a := 2) (z := 1) (v := g_) (w := g_ + 1) rfl rfl (by omega) (by omega) (by omega) ?_ -- pc_ 156
        refine sm_T_go 1 (c1 := (91, [some (.inr (.inr (some (13, 0)))), some (.inl c_), some (.inl (g_ + 1)), some (.inl k_)], [], S_)) rfl ?_
        refine sm_T_wk [some (.inr (.inr (some (13, 0)))), some (.inl c_), some (.inl (g_ + 1)), none] (by exact ⟨rfl, rfl, rfl, trivial⟩) ?_
        refine ih_.1 (g_ + 1) S_ hI_ hF_ ⟨?_, ?_, ?_, ?_, ?_, trivial⟩ ?_
        · omega
        · exact h1_
        · exact h2_
        · (intro j9_ u0_ u1_; exact h3_ j9_ u0_ (by omega))
        · exact hK_
        · omega
      · have cx1_ : ¬ (3 ≤ k_) := of_decide_eq_false cx1_
        have m9_ := (hmd_ g_ (by omega) (by omega)).2 k_ (by omega) (by omega)
        have x217_ : S_.2.2.1 217 0 (3 * g_ + k_).toNat = S0_.2.2.1 217 0 (3 * g_ + k_).toNat := congrFun f217_ _
        refine sm_T_go 5 (c1 := (133, [some (.inr (.inr (some (13, 0)))), some (.inl c_), some (.inl g_), some (.inl k_)], [.inl c_, .inl 150, .inl 3, .inr (.inr (some (230, 0)))], S_)) rfl ?_
        refine sm_T_bin (w := 150 * c_) rfl (bi_mul (by omega) (by omega) (by omega)) ?_ -- pc_ 133
        refine sm_T_go 1 (c1 := (135, [some (.inr (.inr (some (13, 0)))), some (.inl c_), some (.inl g_), some (.inl k_)], [.inl g_, .inl (150 * c_), .inl 3, .inr (.inr (some (230, 0)))], S_)) rfl ?_
        refine sm_T_bin (w := 150 * c_ + g_) rfl (bi_add (by omega) (by omega) (by omega)) ?_ -- pc_ 135
        refine sm_T_bin (w := 450 * c_ + 3 * g_) rfl (bi_mul (by omega) (by omega) (by omega)) ?_ -- pc_ 136
        refine sm_T_go 1 (c1 := (138, [some (.inr (.inr (some (13, 0)))), some (.inl c_), some (.inl g_), some (.inl k_)], [.inl k_, .inl (450 * c_ + 3 * g_), .inr (.inr (some (230, 0)))], S_)) rfl ?_
        refine sm_T_bin (w := 450 * c_ + 3 * g_ + k_) rfl (bi_add (by omega) (by omega) (by omega)) ?_ -- pc_ 138
        refine sm_T_go 4 (c1 := (145, [some (.inr (.inr (some (13, 0)))), some (.inl c_), some (.inl g_), some (.inl k_)], [.inl g_, .inl 3, .inr (.inr (some (217, 0))), .inl (450 * c_ + 3 * g_ + k_), .inr (.inr (some (230, 0)))], S_)) rfl ?_
        refine sm_T_bin (w := 3 * g_) rfl (bi_mul (by omega) (by omega) (by omega)) ?_ -- pc_ 145
        refine sm_T_go 1 (c1 := (147, [some (.inr (.inr (some (13, 0)))), some (.inl c_), some (.inl g_), some (.inl k_)], [.inl k_, .inl (3 * g_), .inr (.inr (some (217, 0))), .inl (450 * c_ + 3 * g_ + k_), .inr (.inr (some (230, 0)))], S_)) rfl ?_
        refine sm_T_bin (w := 3 * g_ + k_) rfl (bi_add (by omega) (by omega) (by omega)) ?_ -- pc_ 147
        refine sm_T_iald (n := 24576) rfl rfl (by omega) (by omega) ?_
        have bx2_ : (-2) ≤ S_.2.2.1 217 0 (3 * g_ + k_).toNat ∧ S_.2.2.1 217 0 (3 * g_ + k_).toNat ≤ 9000 := hI_.2 217 0 _
        refine sm_T_iast (n := 1800) rfl rfl (by omega) (by omega) ?_
        have hIx3_ : gi (sm_aI S_ 230 0 (450 * c_ + 3 * g_ + k_).toNat (S_.2.2.1 217 0 (3 * g_ + k_).toNat)) := gi_aI hI_ (show (-1) ≤ (S_.2.2.1 217 0 (3 * g_ + k_).toNat) ∧ (S_.2.2.1 217 0 (3 * g_ + k_).toNat) ≤ 161 from ⟨by omega, by omega⟩)
        have hFx4_ : ai_fr (sx_W vw_420) S0_ (sm_aI S_ 230 0 (450 * c_ + 3 * g_ + k_).toNat (S_.2.2.1 217 0 (3 * g_ + k_).toNat)) := ai_fr_tr hF_ (ai_fr_aI rfl)
        have hKx5_ : rcf c_.toNat S0_ (sm_aI S_ 230 0 (450 * c_ + 3 * g_ + k_).toNat (S_.2.2.1 217 0 (3 * g_ + k_).toNat)) := rcf_aI hK_ (Or.inr (by rw [show rcs 230 = 450 from rfl]; omega))
        refine sm_T_inc (a := 3) (z := 1) (v := k_) (w := k_ + 1) rfl rfl (by omega) (by omega) (by omega) ?_ -- pc_ 150
        refine sm_T_go 1 (c1 := (119, [some (.inr (.inr (some (13, 0)))), some (.inl c_), some (.inl g_), some (.inl (k_ + 1))], [], sm_aI S_ 230 0 (450 * c_ + 3 * g_ + k_).toNat (S_.2.2.1 217 0 (3 * g_ + k_).toNat))) rfl ?_
        refine ih_.2.1 g_ (k_ + 1) (sm_aI S_ 230 0 (450 * c_ + 3 * g_ + k_).toNat (S_.2.2.1 217 0 (3 * g_ + k_).toNat)) hIx3_ hFx4_ ⟨?_, ?_, ?_, ?_, ?_, trivial⟩ ?_
        · omega
        · (try simp only [rd_eq, rd_ne, rf_eq, rf_nk, rf_nt, rd_fa, rd_af, rd_fl, rd_al, rd_lf, rd_la, rd_leq, rd_lne, rd_fr, rd_ar, ne_eq, Nat.reduceEqDiff, not_false_eq_true])
          exact h1_
        · intro j9_ u0_ u1_
          (try simp only [rd_eq, rd_ne, rf_eq, rf_nk, rf_nt, rd_fa, rd_af, rd_fl, rd_al, rd_lf, rd_la, rd_leq, rd_lne, rd_fr, rd_ar, ne_eq, Nat.reduceEqDiff, not_false_eq_true])
          exact h2_ j9_ u0_ u1_
        · intro j9_ u0_ u1_
          (try simp only [rd_eq, rd_ne, rf_eq, rf_nk, rf_nt, rd_fa, rd_af, rd_fl, rd_al, rd_lf, rd_la, rd_leq, rd_lne, rd_fr, rd_ar, ne_eq, Nat.reduceEqDiff, not_false_eq_true])
          by_cases z9_ : j9_ = 3 * g_ + k_
          · rw [z9_, if_pos (by omega)]; exact congrFun f217_ _
          · rw [if_neg (by omega)]; exact h3_ j9_ u0_ (by omega)
        · exact hKx5_
        · omega
    · rintro i_ S_ hI_ hF_ ⟨h0_, h1_, h2_, h3_, h4_, hK_, -⟩ hm_
      have d1_ := hd_.1
      have s129_ : S_.1 13 0 129 = S0_.1 13 0 129 := hF_.1 13 0 129 rfl
      have s106_ : S_.1 13 0 106 = S0_.1 13 0 106 := hF_.1 13 0 106 rfl
      have s105_ : S_.1 13 0 105 = S0_.1 13 0 105 := hF_.1 13 0 105 rfl
      have f216_ : S_.2.2.1 216 0 = S0_.2.2.1 216 0 := fr_arr hF_ rfl
      have f217_ : S_.2.2.1 217 0 = S0_.2.2.1 217 0 := fr_arr hF_ rfl
      have f185_ : S_.2.2.1 185 0 = S0_.2.2.1 185 0 := fr_arr hF_ rfl
      have f231_ : S_.2.2.1 231 0 = S0_.2.2.1 231 0 := fr_arr hF_ rfl
      have f232_ : S_.2.2.1 232 0 = S0_.2.2.1 232 0 := fr_arr hF_ rfl
      refine sm_T_go 2 (c1 := (182, [some (.inr (.inr (some (13, 0)))), some (.inl c_), some (.inl i_), none], [.inl 12, .inl i_], S_)) rfl ?_
      refine sm_T_br (a := 3) (z := 109) rfl (fun cx1_ => ?_) (fun cx1_ => ?_)
      · have cx1_ : 12 ≤ i_ := of_decide_eq_true cx1_
        refine sm_T_go 4 (c1 := (297, [some (.inr (.inr (some (13, 0)))), some (.inl c_), some (.inl i_), none], [.inl 0, .inl c_, .inr (.inr (some (240, 0)))], S_)) rfl ?_
        refine sm_T_iast (n := 4) rfl rfl (by omega) (by omega) ?_
        have hIx2_ : gi (sm_aI S_ 240 0 c_.toNat 0) := gi_aI hI_ (show 0 ≤ 0 ∧ 0 ≤ 12 from ⟨by omega, by omega⟩)
        have hFx3_ : ai_fr (sx_W vw_420) S0_ (sm_aI S_ 240 0 c_.toNat 0) := ai_fr_tr hF_ (ai_fr_aI rfl)
        have hKx4_ : rcf c_.toNat S0_ (sm_aI S_ 240 0 c_.toNat 0) := rcf_aI hK_ (Or.inr (by rw [show rcs 240 = 1 from rfl]; omega))
        refine sm_T_go 4 (c1 := (304, [some (.inr (.inr (some (13, 0)))), some (.inl c_), some (.inl i_), none], [.inl 0, .inl c_, .inr (.inr (some (251, 0)))], sm_aI S_ 240 0 c_.toNat 0)) rfl ?_
        refine sm_T_zas1 (n := 4) rfl rfl (by omega) (by omega) (by omega) ?_
        have hIx5_ : gi (sm_aI (sm_aI S_ 240 0 c_.toNat 0) 251 0 c_.toNat 0) := gi_aI hIx2_ (show 0 ≤ 0 ∧ 0 ≤ 1 from ⟨by omega, by omega⟩)
        have hFx6_ : ai_fr (sx_W vw_420) S0_ (sm_aI (sm_aI S_ 240 0 c_.toNat 0) 251 0 c_.toNat 0) := ai_fr_tr hFx3_ (ai_fr_aI rfl)
        have hKx7_ : rcf c_.toNat S0_ (sm_aI (sm_aI S_ 240 0 c_.toNat 0) 251 0 c_.toNat 0) := rcf_aI hKx4_ (Or.inr (by rw [show rcs 251 = 1 from rfl]; omega))
        refine sm_T_go 4 (c1 := (311, [some (.inr (.inr (some (13, 0)))), some (.inl c_), some (.inl i_), none], [.inl 0, .inl c_, .inr (.inr (some (263, 0)))], sm_aI (sm_aI S_ 240 0 c_.toNat 0) 251 0 c_.toNat 0)) rfl ?_
        refine sm_T_zas1 (n := 4) rfl rfl (by omega) (by omega) (by omega) ?_
        have hIx8_ : gi (sm_aI (sm_aI (sm_aI S_ 240 0 c_.toNat 0) 251 0 c_.toNat 0) 263 0 c_.toNat 0) := gi_aI hIx5_ (show 0 ≤ 0 ∧ 0 ≤ 1 from ⟨by omega, by omega⟩)
        have hFx9_ : ai_fr (sx_W vw_420) S0_ (sm_aI (sm_aI (sm_aI S_ 240 0 c_.toNat 0) 251 0 c_.toNat 0) 263 0 c_.toNat 0) := ai_fr_tr hFx6_ (ai_fr_aI rfl)
        have hKx10_ : rcf c_.toNat S0_ (sm_aI (sm_aI (sm_aI S_ 240 0 c_.toNat 0) 251 0 c_.toNat 0) 263 0 c_.toNat 0) := rcf_aI hKx7_ (Or.inl rfl)
        refine sm_T_go 4 (c1 := (318, [some (.inr (.inr (some (13, 0)))), some (.inl c_), some (.inl i_), none], [.inl 0, .inl c_, .inr (.inr (some (272, 0)))], sm_aI (sm_aI (sm_aI S_ 240 0 c_.toNat 0) 251 0 c_.toNat 0) 263 0 c_.toNat 0)) rfl ?_
        refine sm_T_iast (n := 4) rfl rfl (by omega) (by omega) ?_
        have hIx11_ : gi (sm_aI (sm_aI (sm_aI (sm_aI S_ 240 0 c_.toNat 0) 251 0 c_.toNat 0) 263 0 c_.toNat 0) 272 0 c_.toNat 0) := gi_aI hIx8_ (show 0 ≤ 0 ∧ 0 ≤ 40 from ⟨by omega, by omega⟩)
        have hFx12_ : ai_fr (sx_W vw_420) S0_ (sm_aI (sm_aI (sm_aI (sm_aI S_ 240 0 c_.toNat 0) 251 0 c_.toNat 0) 263 0 c_.toNat 0) 272 0 c_.toNat 0) := ai_fr_tr hFx9_ (ai_fr_aI rfl)
        have hKx13_ : rcf c_.toNat S0_ (sm_aI (sm_aI (sm_aI (sm_aI S_ 240 0 c_.toNat 0) 251 0 c_.toNat 0) 263 0 c_.toNat 0) 272 0 c_.toNat 0) := rcf_aI hKx10_ (Or.inl rfl)
        refine sm_T_go 4 (c1 := (325, [some (.inr (.inr (some (13, 0)))), some (.inl c_), some (.inl i_), none], [.inl (-1), .inl c_, .inr (.inr (some (289, 0)))], sm_aI (sm_aI (sm_aI (sm_aI S_ 240 0 c_.toNat 0) 251 0 c_.toNat 0) 263 0 c_.toNat 0) 272 0 c_.toNat 0)) rfl ?_
        refine sm_T_iast (n := 4) rfl rfl (by omega) (by omega) ?_
        have hIx14_ : gi (sm_aI (sm_aI (sm_aI (sm_aI (sm_aI S_ 240 0 c_.toNat 0) 251 0 c_.toNat 0) 263 0 c_.toNat 0) 272 0 c_.toNat 0) 289 0 c_.toNat (-1)) := gi_aI hIx11_ (show (-1) ≤ (-1) ∧ (-1) ≤ 1224 from ⟨by omega, by omega⟩)
        have hFx15_ : ai_fr (sx_W vw_420) S0_ (sm_aI (sm_aI (sm_aI (sm_aI (sm_aI S_ 240 0 c_.toNat 0) 251 0 c_.toNat 0) 263 0 c_.toNat 0) 272 0 c_.toNat 0) 289 0 c_.toNat (-1)) := ai_fr_tr hFx12_ (ai_fr_aI rfl)
        have hKx16_ : rcf c_.toNat S0_ (sm_aI (sm_aI (sm_aI (sm_aI (sm_aI S_ 240 0 c_.toNat 0) 251 0 c_.toNat 0) 263 0 c_.toNat 0) 272 0 c_.toNat 0) 289 0 c_.toNat (-1)) := rcf_aI hKx13_ (Or.inl rfl)
        refine sm_T_go 2 (c1 := (328, [some (.inr (.inr (some (13, 0)))), some (.inl c_), some (.inl i_), none], [.inl c_, .inr (.inr (some (13, 0)))], sm_aI (sm_aI (sm_aI (sm_aI (sm_aI S_ 240 0 c_.toNat 0) 251 0 c_.toNat 0) 263 0 c_.toNat 0) 272 0 c_.toNat 0) 289 0 c_.toNat (-1))) rfl ?_
        refine sm_T_cal (d1 := 0) (Q1 := vq_519 c_ (sm_aI (sm_aI (sm_aI (sm_aI (sm_aI S_ 240 0 c_.toNat 0) 251 0 c_.toNat 0) 263 0 c_.toNat 0) 272 0 c_.toNat 0) 289 0 c_.toNat (-1))) rfl rfl (by decide) (vc_519 c_ (sm_aI (sm_aI (sm_aI (sm_aI (sm_aI S_ 240 0 c_.toNat 0) 251 0 c_.toNat 0) 263 0 c_.toNat 0) 272 0 c_.toNat 0) 289 0 c_.toNat (-1)) hIx14_ (by omega)) (fun u_ Sx17_ px20_ => ?_)
        obtain ⟨rfl, hIx18_, hFx19_, px20_⟩ := px20_
        have hFx21_ : ai_fr (sx_W vw_420) S0_ Sx17_ := ai_fr_tr hFx15_ (fr_le hFx19_ rfl)
        have hKx22_ : rcf c_.toNat S0_ Sx17_ := rcf_tr hKx16_ (rcf_fr hFx19_ rfl)
        have f328_ := hFx19_
        have y240_ : Sx17_.2.2.1 240 0 c_.toNat = 0 := (congrFun (fr_arr (t := 240) (i := 0) hFx19_ rfl) _).trans (by ((try simp only [rd_eq, rd_ne, rf_eq, rf_nk, rf_nt, rd_fa, rd_af, rd_fl, rd_al, rd_lf, rd_la, rd_leq, rd_lne, rd_fr, rd_ar, ne_eq, Nat.reduceEqDiff, not_false_eq_true]); exact if_pos trivial))
        have y251_ : Sx17_.2.2.1 251 0 c_.toNat = 0 := (congrFun (fr_arr (t := 251) (i := 0) hFx19_ rfl) _).trans (by ((try simp only [rd_eq, rd_ne, rf_eq, rf_nk, rf_nt, rd_fa, rd_af, rd_fl, rd_al, rd_lf, rd_la, rd_leq, rd_lne, rd_fr, rd_ar, ne_eq, Nat.reduceEqDiff, not_false_eq_true]); exact if_pos trivial))
        have y223_ : Sx17_.2.2.1 223 0 = S_.2.2.1 223 0 := (fr_arr (t := 223) (i := 0) hFx19_ rfl).trans (by (funext j9_; (try simp only [rd_eq, rd_ne, rf_eq, rf_nk, rf_nt, rd_fa, rd_af, rd_fl, rd_al, rd_lf, rd_la, rd_leq, rd_lne, rd_fr, rd_ar, ne_eq, Nat.reduceEqDiff, not_false_eq_true])))
        have y224_ : Sx17_.2.2.1 224 0 = S_.2.2.1 224 0 := (fr_arr (t := 224) (i := 0) hFx19_ rfl).trans (by (funext j9_; (try simp only [rd_eq, rd_ne, rf_eq, rf_nk, rf_nt, rd_fa, rd_af, rd_fl, rd_al, rd_lf, rd_la, rd_leq, rd_lne, rd_fr, rd_ar, ne_eq, Nat.reduceEqDiff, not_false_eq_true])))
        have y225_ : Sx17_.2.2.1 225 0 = S_.2.2.1 225 0 := (fr_arr (t := 225) (i := 0) hFx19_ rfl).trans (by (funext j9_; (try simp only [rd_eq, rd_ne, rf_eq, rf_nk, rf_nt, rd_fa, rd_af, rd_fl, rd_al, rd_lf, rd_la, rd_leq, rd_lne, rd_fr, rd_ar, ne_eq, Nat.reduceEqDiff, not_false_eq_true])))
        have y226_ : Sx17_.2.2.1 226 0 = S_.2.2.1 226 0 := (fr_arr (t := 226) (i := 0) hFx19_ rfl).trans (by (funext j9_; (try simp only [rd_eq, rd_ne, rf_eq, rf_nk, rf_nt, rd_fa, rd_af, rd_fl, rd_al, rd_lf, rd_la, rd_leq, rd_lne, rd_fr, rd_ar, ne_eq, Nat.reduceEqDiff, not_false_eq_true])))
        have y227_ : Sx17_.2.2.1 227 0 = S_.2.2.1 227 0 := (fr_arr (t := 227) (i := 0) hFx19_ rfl).trans (by (funext j9_; (try simp only [rd_eq, rd_ne, rf_eq, rf_nk, rf_nt, rd_fa, rd_af, rd_fl, rd_al, rd_lf, rd_la, rd_leq, rd_lne, rd_fr, rd_ar, ne_eq, Nat.reduceEqDiff, not_false_eq_true])))
        have y228_ : Sx17_.2.2.1 228 0 = S_.2.2.1 228 0 := (fr_arr (t := 228) (i := 0) hFx19_ rfl).trans (by (funext j9_; (try simp only [rd_eq, rd_ne, rf_eq, rf_nk, rf_nt, rd_fa, rd_af, rd_fl, rd_al, rd_lf, rd_la, rd_leq, rd_lne, rd_fr, rd_ar, ne_eq, Nat.reduceEqDiff, not_false_eq_true])))
        have y229_ : Sx17_.2.2.1 229 0 = S_.2.2.1 229 0 := (fr_arr (t := 229) (i := 0) hFx19_ rfl).trans (by (funext j9_; (try simp only [rd_eq, rd_ne, rf_eq, rf_nk, rf_nt, rd_fa, rd_af, rd_fl, rd_al, rd_lf, rd_la, rd_leq, rd_lne, rd_fr, rd_ar, ne_eq, Nat.reduceEqDiff, not_false_eq_true])))
        have y230_ : Sx17_.2.2.1 230 0 = S_.2.2.1 230 0 := (fr_arr (t := 230) (i := 0) hFx19_ rfl).trans (by (funext j9_; (try simp only [rd_eq, rd_ne, rf_eq, rf_nk, rf_nt, rd_fa, rd_af, rd_fl, rd_al, rd_lf, rd_la, rd_leq, rd_lne, rd_fr, rd_ar, ne_eq, Nat.reduceEqDiff, not_false_eq_true])))
        have y231_ : Sx17_.2.2.1 231 0 = S_.2.2.1 231 0 := (fr_arr (t := 231) (i := 0) hFx19_ rfl).trans (by (funext j9_; (try simp only [rd_eq, rd_ne, rf_eq, rf_nk, rf_nt, rd_fa, rd_af, rd_fl, rd_al, rd_lf, rd_la, rd_leq, rd_lne, rd_fr, rd_ar, ne_eq, Nat.reduceEqDiff, not_false_eq_true])))
        have y232_ : Sx17_.2.2.1 232 0 = S_.2.2.1 232 0 := (fr_arr (t := 232) (i := 0) hFx19_ rfl).trans (by (funext j9_; (try simp only [rd_eq, rd_ne, rf_eq, rf_nk, rf_nt, rd_fa, rd_af, rd_fl, rd_al, rd_lf, rd_la, rd_leq, rd_lne, rd_fr, rd_ar, ne_eq, Nat.reduceEqDiff, not_false_eq_true])))
        have y234_ : Sx17_.2.2.1 234 0 = S_.2.2.1 234 0 := (fr_arr (t := 234) (i := 0) hFx19_ rfl).trans (by (funext j9_; (try simp only [rd_eq, rd_ne, rf_eq, rf_nk, rf_nt, rd_fa, rd_af, rd_fl, rd_al, rd_lf, rd_la, rd_leq, rd_lne, rd_fr, rd_ar, ne_eq, Nat.reduceEqDiff, not_false_eq_true])))
        refine sm_T_rv rfl ⟨_, _, rfl, rfl, hIx18_, hFx21_, ?_⟩
        refine ⟨hKx22_, ?_⟩
        exact kch (fun j9_ => by (rw [← f216_]; exact (hI_.2 216 0 _).2)) hd_ hc_.1 hmd_ hl_ (by (rw [y223_, y224_, y225_, y226_, y227_, y228_]; exact h1_)) (fun j9_ u0_ u1_ => by (rw [y229_]; exact h2_ j9_ u0_ u1_)) (fun j9_ u0_ u1_ => by (rw [y230_]; exact h3_ j9_ u0_ u1_)) (fun j9_ u0_ u1_ => by (rw [y234_]; exact h4_ j9_ u0_ (by omega))) ⟨fun k9_ u0_ u1_ => by (rw [y231_, f231_]; exact ho_.1 k9_ u0_ u1_), fun k9_ u0_ u1_ => by (rw [y232_, f232_]; exact ho_.2 k9_ u0_ u1_)⟩ y240_ y251_
      · have cx1_ : ¬ (12 ≤ i_) := of_decide_eq_false cx1_
        refine sm_T_go 4 (c1 := (192, [some (.inr (.inr (some (13, 0)))), some (.inl c_), some (.inl i_), none], [.inl c_, .inl 12, .inr (.inr (some (234, 0)))], S_)) rfl ?_
        refine sm_T_bin (w := 12 * c_) rfl (bi_mul (by omega) (by omega) (by omega)) ?_ -- pc_ 192
        refine sm_T_go 1 (c1 := (194, [some (.inr (.inr (some (13, 0)))), some (.inl c_), some (.inl i_), none], [.inl i_, .inl (12 * c_), .inr (.inr (some (234, 0)))], S_)) rfl ?_
        refine sm_T_bin (w := 12 * c_ + i_) rfl (bi_add (by omega) (by omega) (by omega)) ?_ -- pc_ 194
        have bx23_ : 0 ≤ S_.1 13 0 106 ∧ S_.1 13 0 106 ≤ 2 := hI_.1 13 0 106 rfl
        refine sm_T_go 5 (c1 := (205, [some (.inr (.inr (some (13, 0)))), some (.inl c_), some (.inl i_), none], [.inl (S_.1 13 0 106), .inl 12, .inr (.inr (some (185, 0))), .inl (12 * c_ + i_), .inr (.inr (some (234, 0)))], S_)) rfl ?_
        refine sm_T_bin (w := 12 * (S_.1 13 0 106)) rfl (bi_mul (by omega) (by omega) (by omega)) ?_ -- pc_ 205
        refine sm_T_go 1 (c1 := (207, [some (.inr (.inr (some (13, 0)))), some (.inl c_), some (.inl i_), none], [.inl i_, .inl (12 * (S_.1 13 0 106)), .inr (.inr (some (185, 0))), .inl (12 * c_ + i_), .inr (.inr (some (234, 0)))], S_)) rfl ?_
        refine sm_T_bin (w := 12 * (S_.1 13 0 106) + i_) rfl (bi_add (by omega) (by omega) (by omega)) ?_ -- pc_ 207
        refine sm_T_iald (n := 36) rfl rfl (by omega) (by omega) ?_
        have bx24_ : 0 ≤ S_.2.2.1 185 0 (12 * (S_.1 13 0 106) + i_).toNat ∧ S_.2.2.1 185 0 (12 * (S_.1 13 0 106) + i_).toNat ≤ 3 := hI_.2 185 0 _
        refine sm_T_iast (n := 48) rfl rfl (by omega) (by omega) ?_
        have hIx25_ : gi (sm_aI S_ 234 0 (12 * c_ + i_).toNat (S_.2.2.1 185 0 (12 * (S_.1 13 0 106) + i_).toNat)) := gi_aI hI_ (show 0 ≤ (S_.2.2.1 185 0 (12 * (S_.1 13 0 106) + i_).toNat) ∧ (S_.2.2.1 185 0 (12 * (S_.1 13 0 106) + i_).toNat) ≤ 3 from ⟨by omega, by omega⟩)
        have hFx26_ : ai_fr (sx_W vw_420) S0_ (sm_aI S_ 234 0 (12 * c_ + i_).toNat (S_.2.2.1 185 0 (12 * (S_.1 13 0 106) + i_).toNat)) := ai_fr_tr hF_ (ai_fr_aI rfl)
        have hKx27_ : rcf c_.toNat S0_ (sm_aI S_ 234 0 (12 * c_ + i_).toNat (S_.2.2.1 185 0 (12 * (S_.1 13 0 106) + i_).toNat)) := rcf_aI hK_ (Or.inr (by rw [show rcs 234 = 12 from rfl]; omega))
        refine sm_T_go 4 (c1 := (217, [some (.inr (.inr (some (13, 0)))), some (.inl c_), some (.inl i_), none], [.inl c_, .inl 12, .inr (.inr (some (235, 0)))], sm_aI S_ 234 0 (12 * c_ + i_).toNat (S_.2.2.1 185 0 (12 * (S_.1 13 0 106) + i_).toNat))) rfl ?_
        refine sm_T_bin (w := 12 * c_) rfl (bi_mul (by omega) (by omega) (by omega)) ?_ -- pc_ 217
        refine sm_T_go 1 (c1 := (219, [some (.inr (.inr (some (13, 0)))), some (.inl c_), some (.inl i_), none], [.inl i_, .inl (12 * c_), .inr (.inr (some (235, 0)))], sm_aI S_ 234 0 (12 * c_ + i_).toNat (S_.2.2.1 185 0 (12 * (S_.1 13 0 106) + i_).toNat))) rfl ?_
        refine sm_T_bin (w := 12 * c_ + i_) rfl (bi_add (by omega) (by omega) (by omega)) ?_ -- pc_ 219
        refine sm_T_go 5 (c1 := (230, [some (.inr (.inr (some (13, 0)))), some (.inl c_), some (.inl i_), none], [.inl (S_.1 13 0 106), .inl 12, .inr (.inr (some (186, 0))), .inl (12 * c_ + i_), .inr (.inr (some (235, 0)))], sm_aI S_ 234 0 (12 * c_ + i_).toNat (S_.2.2.1 185 0 (12 * (S_.1 13 0 106) + i_).toNat))) rfl ?_
        refine sm_T_bin (w := 12 * (S_.1 13 0 106)) rfl (bi_mul (by omega) (by omega) (by omega)) ?_ -- pc_ 230
        refine sm_T_go 1 (c1 := (232, [some (.inr (.inr (some (13, 0)))), some (.inl c_), some (.inl i_), none], [.inl i_, .inl (12 * (S_.1 13 0 106)), .inr (.inr (some (186, 0))), .inl (12 * c_ + i_), .inr (.inr (some (235, 0)))], sm_aI S_ 234 0 (12 * c_ + i_).toNat (S_.2.2.1 185 0 (12 * (S_.1 13 0 106) + i_).toNat))) rfl ?_
        refine sm_T_bin (w := 12 * (S_.1 13 0 106) + i_) rfl (bi_add (by omega) (by omega) (by omega)) ?_ -- pc_ 232
        refine sm_T_iald (n := 36) rfl rfl (by omega) (by omega) ?_
        have bx28_ : 0 ≤ S_.2.2.1 186 0 (12 * (S_.1 13 0 106) + i_).toNat ∧ S_.2.2.1 186 0 (12 * (S_.1 13 0 106) + i_).toNat ≤ 255 := hI_.2 186 0 _
        refine sm_T_go 0 (c1 := (234, [some (.inr (.inr (some (13, 0)))), some (.inl c_), some (.inl i_), none], [.inl (S_.2.2.1 186 0 (12 * (S_.1 13 0 106) + i_).toNat), .inl (12 * c_ + i_), .inr (.inr (some (235, 0)))], sm_aI S_ 234 0 (12 * c_ + i_).toNat (S_.2.2.1 185 0 (12 * (S_.1 13 0 106) + i_).toNat))) rfl ?_
        refine sm_T_iast (n := 48) rfl rfl (by omega) (by omega) ?_
        have hIx29_ : gi (sm_aI (sm_aI S_ 234 0 (12 * c_ + i_).toNat (S_.2.2.1 185 0 (12 * (S_.1 13 0 106) + i_).toNat)) 235 0 (12 * c_ + i_).toNat (S_.2.2.1 186 0 (12 * (S_.1 13 0 106) + i_).toNat)) := gi_aI hIx25_ (show 0 ≤ (S_.2.2.1 186 0 (12 * (S_.1 13 0 106) + i_).toNat) ∧ (S_.2.2.1 186 0 (12 * (S_.1 13 0 106) + i_).toNat) ≤ 255 from ⟨by omega, by omega⟩)
        have hFx30_ : ai_fr (sx_W vw_420) S0_ (sm_aI (sm_aI S_ 234 0 (12 * c_ + i_).toNat (S_.2.2.1 185 0 (12 * (S_.1 13 0 106) + i_).toNat)) 235 0 (12 * c_ + i_).toNat (S_.2.2.1 186 0 (12 * (S_.1 13 0 106) + i_).toNat)) := ai_fr_tr hFx26_ (ai_fr_aI rfl)
        have hKx31_ : rcf c_.toNat S0_ (sm_aI (sm_aI S_ 234 0 (12 * c_ + i_).toNat (S_.2.2.1 185 0 (12 * (S_.1 13 0 106) + i_).toNat)) 235 0 (12 * c_ + i_).toNat (S_.2.2.1 186 0 (12 * (S_.1 13 0 106) + i_).toNat)) := rcf_aI hKx27_ (Or.inr (by rw [show rcs 235 = 12 from rfl]; omega))
        refine sm_T_go 4 (c1 := (242, [some (.inr (.inr (some (13, 0)))), some (.inl c_), some (.inl i_), none], [.inl c_, .inl 12, .inr (.inr (some (236, 0)))], sm_aI (sm_aI S_ 234 0 (12 * c_ + i_).toNat (S_.2.2.1 185 0 (12 * (S_.1 13 0 106) + i_).toNat)) 235 0 (12 * c_ + i_).toNat (S_.2.2.1 186 0 (12 * (S_.1 13 0 106) + i_).toNat))) rfl ?_
        refine sm_T_bin (w := 12 * c_) rfl (bi_mul (by omega) (by omega) (by omega)) ?_ -- pc_ 242
        refine sm_T_go 1 (c1 := (244, [some (.inr (.inr (some (13, 0)))), some (.inl c_), some (.inl i_), none], [.inl i_, .inl (12 * c_), .inr (.inr (some (236, 0)))], sm_aI (sm_aI S_ 234 0 (12 * c_ + i_).toNat (S_.2.2.1 185 0 (12 * (S_.1 13 0 106) + i_).toNat)) 235 0 (12 * c_ + i_).toNat (S_.2.2.1 186 0 (12 * (S_.1 13 0 106) + i_).toNat))) rfl ?_
        refine sm_T_bin (w := 12 * c_ + i_) rfl (bi_add (by omega) (by omega) (by omega)) ?_ -- pc_ 244
        refine sm_T_go 5 (c1 := (255, [some (.inr (.inr (some (13, 0)))), some (.inl c_), some (.inl i_), none], [.inl (S_.1 13 0 106), .inl 12, .inr (.inr (some (187, 0))), .inl (12 * c_ + i_), .inr (.inr (some (236, 0)))], sm_aI (sm_aI S_ 234 0 (12 * c_ + i_).toNat (S_.2.2.1 185 0 (12 * (S_.1 13 0 106) + i_).toNat)) 235 0 (12 * c_ + i_).toNat (S_.2.2.1 186 0 (12 * (S_.1 13 0 106) + i_).toNat))) rfl ?_
        refine sm_T_bin (w := 12 * (S_.1 13 0 106)) rfl (bi_mul (by omega) (by omega) (by omega)) ?_ -- pc_ 255
        refine sm_T_go 1 (c1 := (257, [some (.inr (.inr (some (13, 0)))), some (.inl c_), some (.inl i_), none], [.inl i_, .inl (12 * (S_.1 13 0 106)), .inr (.inr (some (187, 0))), .inl (12 * c_ + i_), .inr (.inr (some (236, 0)))], sm_aI (sm_aI S_ 234 0 (12 * c_ + i_).toNat (S_.2.2.1 185 0 (12 * (S_.1 13 0 106) + i_).toNat)) 235 0 (12 * c_ + i_).toNat (S_.2.2.1 186 0 (12 * (S_.1 13 0 106) + i_).toNat))) rfl ?_
        refine sm_T_bin (w := 12 * (S_.1 13 0 106) + i_) rfl (bi_add (by omega) (by omega) (by omega)) ?_ -- pc_ 257
        refine sm_T_iald (n := 36) rfl rfl (by omega) (by omega) ?_
        have bx32_ : 0 ≤ S_.2.2.1 187 0 (12 * (S_.1 13 0 106) + i_).toNat ∧ S_.2.2.1 187 0 (12 * (S_.1 13 0 106) + i_).toNat ≤ 1000 := hI_.2 187 0 _
        refine sm_T_go 0 (c1 := (259, [some (.inr (.inr (some (13, 0)))), some (.inl c_), some (.inl i_), none], [.inl (S_.2.2.1 187 0 (12 * (S_.1 13 0 106) + i_).toNat), .inl (12 * c_ + i_), .inr (.inr (some (236, 0)))], sm_aI (sm_aI S_ 234 0 (12 * c_ + i_).toNat (S_.2.2.1 185 0 (12 * (S_.1 13 0 106) + i_).toNat)) 235 0 (12 * c_ + i_).toNat (S_.2.2.1 186 0 (12 * (S_.1 13 0 106) + i_).toNat))) rfl ?_
        refine sm_T_iast (n := 48) rfl rfl (by omega) (by omega) ?_
        have hIx33_ : gi (sm_aI (sm_aI (sm_aI S_ 234 0 (12 * c_ + i_).toNat (S_.2.2.1 185 0 (12 * (S_.1 13 0 106) + i_).toNat)) 235 0 (12 * c_ + i_).toNat (S_.2.2.1 186 0 (12 * (S_.1 13 0 106) + i_).toNat)) 236 0 (12 * c_ + i_).toNat (S_.2.2.1 187 0 (12 * (S_.1 13 0 106) + i_).toNat)) := gi_aI hIx29_ (show 0 ≤ (S_.2.2.1 187 0 (12 * (S_.1 13 0 106) + i_).toNat) ∧ (S_.2.2.1 187 0 (12 * (S_.1 13 0 106) + i_).toNat) ≤ 1000 from ⟨by omega, by omega⟩)
        have hFx34_ : ai_fr (sx_W vw_420) S0_ (sm_aI (sm_aI (sm_aI S_ 234 0 (12 * c_ + i_).toNat (S_.2.2.1 185 0 (12 * (S_.1 13 0 106) + i_).toNat)) 235 0 (12 * c_ + i_).toNat (S_.2.2.1 186 0 (12 * (S_.1 13 0 106) + i_).toNat)) 236 0 (12 * c_ + i_).toNat (S_.2.2.1 187 0 (12 * (S_.1 13 0 106) + i_).toNat)) := ai_fr_tr hFx30_ (ai_fr_aI rfl)
        have hKx35_ : rcf c_.toNat S0_ (sm_aI (sm_aI (sm_aI S_ 234 0 (12 * c_ + i_).toNat (S_.2.2.1 185 0 (12 * (S_.1 13 0 106) + i_).toNat)) 235 0 (12 * c_ + i_).toNat (S_.2.2.1 186 0 (12 * (S_.1 13 0 106) + i_).toNat)) 236 0 (12 * c_ + i_).toNat (S_.2.2.1 187 0 (12 * (S_.1 13 0 106) + i_).toNat)) := rcf_aI hKx31_ (Or.inr (by rw [show rcs 236 = 12 from rfl]; omega))
        refine sm_T_go 4 (c1 := (267, [some (.inr (.inr (some (13, 0)))), some (.inl c_), some (.inl i_), none], [.inl c_, .inl 12, .inr (.inr (some (237, 0)))], sm_aI (sm_aI (sm_aI S_ 234 0 (12 * c_ + i_).toNat (S_.2.2.1 185 0 (12 * (S_.1 13 0 106) + i_).toNat)) 235 0 (12 * c_ + i_).toNat (S_.2.2.1 186 0 (12 * (S_.1 13 0 106) + i_).toNat)) 236 0 (12 * c_ + i_).toNat (S_.2.2.1 187 0 (12 * (S_.1 13 0 106) + i_).toNat))) rfl ?_
        refine sm_T_bin (w := 12 * c_) rfl (bi_mul (by omega) (by omega) (by omega)) ?_ -- pc_ 267
        refine sm_T_go 1 (c1 := (269, [some (.inr (.inr (some (13, 0)))), some (.inl c_), some (.inl i_), none], [.inl i_, .inl (12 * c_), .inr (.inr (some (237, 0)))], sm_aI (sm_aI (sm_aI S_ 234 0 (12 * c_ + i_).toNat (S_.2.2.1 185 0 (12 * (S_.1 13 0 106) + i_).toNat)) 235 0 (12 * c_ + i_).toNat (S_.2.2.1 186 0 (12 * (S_.1 13 0 106) + i_).toNat)) 236 0 (12 * c_ + i_).toNat (S_.2.2.1 187 0 (12 * (S_.1 13 0 106) + i_).toNat))) rfl ?_
        refine sm_T_bin (w := 12 * c_ + i_) rfl (bi_add (by omega) (by omega) (by omega)) ?_ -- pc_ 269
        refine sm_T_go 5 (c1 := (280, [some (.inr (.inr (some (13, 0)))), some (.inl c_), some (.inl i_), none], [.inl (S_.1 13 0 106), .inl 12, .inr (.inr (some (188, 0))), .inl (12 * c_ + i_), .inr (.inr (some (237, 0)))], sm_aI (sm_aI (sm_aI S_ 234 0 (12 * c_ + i_).toNat (S_.2.2.1 185 0 (12 * (S_.1 13 0 106) + i_).toNat)) 235 0 (12 * c_ + i_).toNat (S_.2.2.1 186 0 (12 * (S_.1 13 0 106) + i_).toNat)) 236 0 (12 * c_ + i_).toNat (S_.2.2.1 187 0 (12 * (S_.1 13 0 106) + i_).toNat))) rfl ?_
        refine sm_T_bin (w := 12 * (S_.1 13 0 106)) rfl (bi_mul (by omega) (by omega) (by omega)) ?_ -- pc_ 280
        refine sm_T_go 1 (c1 := (282, [some (.inr (.inr (some (13, 0)))), some (.inl c_), some (.inl i_), none], [.inl i_, .inl (12 * (S_.1 13 0 106)), .inr (.inr (some (188, 0))), .inl (12 * c_ + i_), .inr (.inr (some (237, 0)))], sm_aI (sm_aI (sm_aI S_ 234 0 (12 * c_ + i_).toNat (S_.2.2.1 185 0 (12 * (S_.1 13 0 106) + i_).toNat)) 235 0 (12 * c_ + i_).toNat (S_.2.2.1 186 0 (12 * (S_.1 13 0 106) + i_).toNat)) 236 0 (12 * c_ + i_).toNat (S_.2.2.1 187 0 (12 * (S_.1 13 0 106) + i_).toNat))) rfl ?_
        refine sm_T_bin (w := 12 * (S_.1 13 0 106) + i_) rfl (bi_add (by omega) (by omega) (by omega)) ?_ -- pc_ 282
        refine sm_T_iald (n := 36) rfl rfl (by omega) (by omega) ?_
        have bx36_ : 0 ≤ S_.2.2.1 188 0 (12 * (S_.1 13 0 106) + i_).toNat ∧ S_.2.2.1 188 0 (12 * (S_.1 13 0 106) + i_).toNat ≤ 100 := hI_.2 188 0 _
        refine sm_T_go 0 (c1 := (284, [some (.inr (.inr (some (13, 0)))), some (.inl c_), some (.inl i_), none], [.inl (S_.2.2.1 188 0 (12 * (S_.1 13 0 106) + i_).toNat), .inl (12 * c_ + i_), .inr (.inr (some (237, 0)))], sm_aI (sm_aI (sm_aI S_ 234 0 (12 * c_ + i_).toNat (S_.2.2.1 185 0 (12 * (S_.1 13 0 106) + i_).toNat)) 235 0 (12 * c_ + i_).toNat (S_.2.2.1 186 0 (12 * (S_.1 13 0 106) + i_).toNat)) 236 0 (12 * c_ + i_).toNat (S_.2.2.1 187 0 (12 * (S_.1 13 0 106) + i_).toNat))) rfl ?_
        refine sm_T_iast (n := 48) rfl rfl (by omega) (by omega) ?_
        have hIx37_ : gi (sm_aI (sm_aI (sm_aI (sm_aI S_ 234 0 (12 * c_ + i_).toNat (S_.2.2.1 185 0 (12 * (S_.1 13 0 106) + i_).toNat)) 235 0 (12 * c_ + i_).toNat (S_.2.2.1 186 0 (12 * (S_.1 13 0 106) + i_).toNat)) 236 0 (12 * c_ + i_).toNat (S_.2.2.1 187 0 (12 * (S_.1 13 0 106) + i_).toNat)) 237 0 (12 * c_ + i_).toNat (S_.2.2.1 188 0 (12 * (S_.1 13 0 106) + i_).toNat)) := gi_aI hIx33_ (show 0 ≤ (S_.2.2.1 188 0 (12 * (S_.1 13 0 106) + i_).toNat) ∧ (S_.2.2.1 188 0 (12 * (S_.1 13 0 106) + i_).toNat) ≤ 100 from ⟨by omega, by omega⟩)
        have hFx38_ : ai_fr (sx_W vw_420) S0_ (sm_aI (sm_aI (sm_aI (sm_aI S_ 234 0 (12 * c_ + i_).toNat (S_.2.2.1 185 0 (12 * (S_.1 13 0 106) + i_).toNat)) 235 0 (12 * c_ + i_).toNat (S_.2.2.1 186 0 (12 * (S_.1 13 0 106) + i_).toNat)) 236 0 (12 * c_ + i_).toNat (S_.2.2.1 187 0 (12 * (S_.1 13 0 106) + i_).toNat)) 237 0 (12 * c_ + i_).toNat (S_.2.2.1 188 0 (12 * (S_.1 13 0 106) + i_).toNat)) := ai_fr_tr hFx34_ (ai_fr_aI rfl)
        have hKx39_ : rcf c_.toNat S0_ (sm_aI (sm_aI (sm_aI (sm_aI S_ 234 0 (12 * c_ + i_).toNat (S_.2.2.1 185 0 (12 * (S_.1 13 0 106) + i_).toNat)) 235 0 (12 * c_ + i_).toNat (S_.2.2.1 186 0 (12 * (S_.1 13 0 106) + i_).toNat)) 236 0 (12 * c_ + i_).toNat (S_.2.2.1 187 0 (12 * (S_.1 13 0 106) + i_).toNat)) 237 0 (12 * c_ + i_).toNat (S_.2.2.1 188 0 (12 * (S_.1 13 0 106) + i_).toNat)) := rcf_aI hKx35_ (Or.inr (by rw [show rcs 237 = 12 from rfl]; omega))
        refine sm_T_inc (a := 2) (z := 1) (v := i_) (w := i_ + 1) rfl rfl (by omega) (by omega) (by omega) ?_ -- pc_ 285
        refine sm_T_go 1 (c1 := (179, [some (.inr (.inr (some (13, 0)))), some (.inl c_), some (.inl (i_ + 1)), none], [], sm_aI (sm_aI (sm_aI (sm_aI S_ 234 0 (12 * c_ + i_).toNat (S_.2.2.1 185 0 (12 * (S_.1 13 0 106) + i_).toNat)) 235 0 (12 * c_ + i_).toNat (S_.2.2.1 186 0 (12 * (S_.1 13 0 106) + i_).toNat)) 236 0 (12 * c_ + i_).toNat (S_.2.2.1 187 0 (12 * (S_.1 13 0 106) + i_).toNat)) 237 0 (12 * c_ + i_).toNat (S_.2.2.1 188 0 (12 * (S_.1 13 0 106) + i_).toNat))) rfl ?_
        refine ih_.2.2 (i_ + 1) (sm_aI (sm_aI (sm_aI (sm_aI S_ 234 0 (12 * c_ + i_).toNat (S_.2.2.1 185 0 (12 * (S_.1 13 0 106) + i_).toNat)) 235 0 (12 * c_ + i_).toNat (S_.2.2.1 186 0 (12 * (S_.1 13 0 106) + i_).toNat)) 236 0 (12 * c_ + i_).toNat (S_.2.2.1 187 0 (12 * (S_.1 13 0 106) + i_).toNat)) 237 0 (12 * c_ + i_).toNat (S_.2.2.1 188 0 (12 * (S_.1 13 0 106) + i_).toNat)) hIx37_ hFx38_ ⟨?_, ?_, ?_, ?_, ?_, ?_, trivial⟩ ?_
        · omega
        · (try simp only [rd_eq, rd_ne, rf_eq, rf_nk, rf_nt, rd_fa, rd_af, rd_fl, rd_al, rd_lf, rd_la, rd_leq, rd_lne, rd_fr, rd_ar, ne_eq, Nat.reduceEqDiff, not_false_eq_true])
          exact h1_
        · intro j9_ u0_ u1_
          (try simp only [rd_eq, rd_ne, rf_eq, rf_nk, rf_nt, rd_fa, rd_af, rd_fl, rd_al, rd_lf, rd_la, rd_leq, rd_lne, rd_fr, rd_ar, ne_eq, Nat.reduceEqDiff, not_false_eq_true])
          exact h2_ j9_ u0_ u1_
        · intro j9_ u0_ u1_
          (try simp only [rd_eq, rd_ne, rf_eq, rf_nk, rf_nt, rd_fa, rd_af, rd_fl, rd_al, rd_lf, rd_la, rd_leq, rd_lne, rd_fr, rd_ar, ne_eq, Nat.reduceEqDiff, not_false_eq_true])
          exact h3_ j9_ u0_ u1_
        · intro j9_ u0_ u1_
          (try simp only [rd_eq, rd_ne, rf_eq, rf_nk, rf_nt, rd_fa, rd_af, rd_fl, rd_al, rd_lf, rd_la, rd_leq, rd_lne, rd_fr, rd_ar, ne_eq, Nat.reduceEqDiff, not_false_eq_true])
          by_cases z9_ : j9_ = i_
          · rw [z9_, if_pos rfl, s106_]; exact congrFun f185_ _
          · rw [if_neg (by omega)]; exact h4_ j9_ u0_ (by omega)
        · exact hKx39_
        · omega
set_option maxHeartbeats 2000000 in
set_option maxRecDepth 20000 in
theorem vc_420 {sc_ : Nat × (Nat → Int)} (c_ : Int) (F_ : Int) (N_ : Int) (d_ : Int) (S0_ : sm_S) (hI_ : gi S0_) (hd_ : dmp F_ N_ d_ S0_) (hc_ : 0 ≤ c_ ∧ c_ ≤ 3) (hmd_ : mad F_ S0_) (hl_ : (S0_.1 13 0 134) = 0) (hg_ : 0 ≤ (S0_.1 13 0 129) ∧ (S0_.1 13 0 129) ≤ 150) (hlb_ : 0 ≤ (S0_.1 13 0 106) ∧ (S0_.1 13 0 106) ≤ 2) (ho_ : (∀ k_ : Int, 0 ≤ k_ → k_ < S0_.2.2.1 156 0 d_.toNat → S0_.2.2.1 231 0 (16 * c_ + k_).toNat < F_ - 1 + S0_.1 13 0 129) ∧ ∀ k_ : Int, 0 ≤ k_ → k_ < S0_.2.2.1 155 0 d_.toNat → S0_.2.2.1 232 0 (6 * c_ + k_).toNat < F_ - 1 + S0_.1 13 0 129) : sm_T (mt_P sc_) 1 420 (0, [some (.inr (.inr (some (13, 0)))), some (.inl c_), none, none], [], S0_) (fun ro9_ => ∃ u_ S1_, ro9_ = (.inl u_, S1_, 0) ∧ vq_420 c_ F_ N_ d_ S0_ u_ S1_) := by
  have hF_ : ai_fr (sx_W vw_420) S0_ S0_ := ai_fr_rf
  have hK_ : rcf c_.toNat S0_ S0_ := rcf_rf
  have d1_ := hd_.1
  refine sm_T_go 4 (c1 := (6, [some (.inr (.inr (some (13, 0)))), some (.inl c_), none, none], [.inl 1, .inl c_, .inr (.inr (some (222, 0)))], S0_)) rfl ?_
  refine sm_T_zas1 (n := 4) rfl rfl (by omega) (by omega) (by omega) ?_
  have hIx1_ : gi (sm_aI S0_ 222 0 c_.toNat 1) := gi_aI hI_ (show 0 ≤ 1 ∧ 1 ≤ 1 from ⟨by omega, by omega⟩)
  have hFx2_ : ai_fr (sx_W vw_420) S0_ (sm_aI S0_ 222 0 c_.toNat 1) := ai_fr_tr hF_ (ai_fr_aI rfl)
  have hKx3_ : rcf c_.toNat S0_ (sm_aI S0_ 222 0 c_.toNat 1) := rcf_aI hK_ (Or.inr (by rw [show rcs 222 = 1 from rfl]; omega))
  have bx4_ : 0 ≤ S0_.1 13 0 105 ∧ S0_.1 13 0 105 ≤ 5 := hI_.1 13 0 105 rfl
  refine sm_T_go 7 (c1 := (20, [some (.inr (.inr (some (13, 0)))), some (.inl c_), none, none], [.inl (S0_.1 13 0 105), .inr (.inr (some (154, 0))), .inl c_, .inr (.inr (some (223, 0)))], sm_aI S0_ 222 0 c_.toNat 1)) rfl ?_
  refine sm_T_iald (n := 6) rfl rfl (by omega) (by omega) ?_
  have bx5_ : 0 ≤ S0_.2.2.1 154 0 (S0_.1 13 0 105).toNat ∧ S0_.2.2.1 154 0 (S0_.1 13 0 105).toNat ≤ 12 := hI_.2 154 0 _
  refine sm_T_go 0 (c1 := (21, [some (.inr (.inr (some (13, 0)))), some (.inl c_), none, none], [.inl (S0_.2.2.1 154 0 (S0_.1 13 0 105).toNat), .inl c_, .inr (.inr (some (223, 0)))], sm_aI S0_ 222 0 c_.toNat 1)) rfl ?_
  refine sm_T_iast (n := 4) rfl rfl (by omega) (by omega) ?_
  have hIx6_ : gi (sm_aI (sm_aI S0_ 222 0 c_.toNat 1) 223 0 c_.toNat (S0_.2.2.1 154 0 (S0_.1 13 0 105).toNat)) := gi_aI hIx1_ (show 0 ≤ (S0_.2.2.1 154 0 (S0_.1 13 0 105).toNat) ∧ (S0_.2.2.1 154 0 (S0_.1 13 0 105).toNat) ≤ 12 from ⟨by omega, by omega⟩)
  have hFx7_ : ai_fr (sx_W vw_420) S0_ (sm_aI (sm_aI S0_ 222 0 c_.toNat 1) 223 0 c_.toNat (S0_.2.2.1 154 0 (S0_.1 13 0 105).toNat)) := ai_fr_tr hFx2_ (ai_fr_aI rfl)
  have hKx8_ : rcf c_.toNat S0_ (sm_aI (sm_aI S0_ 222 0 c_.toNat 1) 223 0 c_.toNat (S0_.2.2.1 154 0 (S0_.1 13 0 105).toNat)) := rcf_aI hKx3_ (Or.inr (by rw [show rcs 223 = 1 from rfl]; omega))
  refine sm_T_go 7 (c1 := (35, [some (.inr (.inr (some (13, 0)))), some (.inl c_), none, none], [.inl (S0_.1 13 0 105), .inr (.inr (some (155, 0))), .inl c_, .inr (.inr (some (224, 0)))], sm_aI (sm_aI S0_ 222 0 c_.toNat 1) 223 0 c_.toNat (S0_.2.2.1 154 0 (S0_.1 13 0 105).toNat))) rfl ?_
  refine sm_T_iald (n := 6) rfl rfl (by omega) (by omega) ?_
  have bx9_ : 0 ≤ S0_.2.2.1 155 0 (S0_.1 13 0 105).toNat ∧ S0_.2.2.1 155 0 (S0_.1 13 0 105).toNat ≤ 6 := hI_.2 155 0 _
  refine sm_T_go 0 (c1 := (36, [some (.inr (.inr (some (13, 0)))), some (.inl c_), none, none], [.inl (S0_.2.2.1 155 0 (S0_.1 13 0 105).toNat), .inl c_, .inr (.inr (some (224, 0)))], sm_aI (sm_aI S0_ 222 0 c_.toNat 1) 223 0 c_.toNat (S0_.2.2.1 154 0 (S0_.1 13 0 105).toNat))) rfl ?_
  refine sm_T_iast (n := 4) rfl rfl (by omega) (by omega) ?_
  have hIx10_ : gi (sm_aI (sm_aI (sm_aI S0_ 222 0 c_.toNat 1) 223 0 c_.toNat (S0_.2.2.1 154 0 (S0_.1 13 0 105).toNat)) 224 0 c_.toNat (S0_.2.2.1 155 0 (S0_.1 13 0 105).toNat)) := gi_aI hIx6_ (show 0 ≤ (S0_.2.2.1 155 0 (S0_.1 13 0 105).toNat) ∧ (S0_.2.2.1 155 0 (S0_.1 13 0 105).toNat) ≤ 6 from ⟨by omega, by omega⟩)
  have hFx11_ : ai_fr (sx_W vw_420) S0_ (sm_aI (sm_aI (sm_aI S0_ 222 0 c_.toNat 1) 223 0 c_.toNat (S0_.2.2.1 154 0 (S0_.1 13 0 105).toNat)) 224 0 c_.toNat (S0_.2.2.1 155 0 (S0_.1 13 0 105).toNat)) := ai_fr_tr hFx7_ (ai_fr_aI rfl)
  have hKx12_ : rcf c_.toNat S0_ (sm_aI (sm_aI (sm_aI S0_ 222 0 c_.toNat 1) 223 0 c_.toNat (S0_.2.2.1 154 0 (S0_.1 13 0 105).toNat)) 224 0 c_.toNat (S0_.2.2.1 155 0 (S0_.1 13 0 105).toNat)) := rcf_aI hKx8_ (Or.inr (by rw [show rcs 224 = 1 from rfl]; omega))
  refine sm_T_go 7 (c1 := (50, [some (.inr (.inr (some (13, 0)))), some (.inl c_), none, none], [.inl (S0_.1 13 0 105), .inr (.inr (some (156, 0))), .inl c_, .inr (.inr (some (225, 0)))], sm_aI (sm_aI (sm_aI S0_ 222 0 c_.toNat 1) 223 0 c_.toNat (S0_.2.2.1 154 0 (S0_.1 13 0 105).toNat)) 224 0 c_.toNat (S0_.2.2.1 155 0 (S0_.1 13 0 105).toNat))) rfl ?_
  refine sm_T_iald (n := 6) rfl rfl (by omega) (by omega) ?_
  have bx13_ : 0 ≤ S0_.2.2.1 156 0 (S0_.1 13 0 105).toNat ∧ S0_.2.2.1 156 0 (S0_.1 13 0 105).toNat ≤ 16 := hI_.2 156 0 _
  refine sm_T_go 0 (c1 := (51, [some (.inr (.inr (some (13, 0)))), some (.inl c_), none, none], [.inl (S0_.2.2.1 156 0 (S0_.1 13 0 105).toNat), .inl c_, .inr (.inr (some (225, 0)))], sm_aI (sm_aI (sm_aI S0_ 222 0 c_.toNat 1) 223 0 c_.toNat (S0_.2.2.1 154 0 (S0_.1 13 0 105).toNat)) 224 0 c_.toNat (S0_.2.2.1 155 0 (S0_.1 13 0 105).toNat))) rfl ?_
  refine sm_T_iast (n := 4) rfl rfl (by omega) (by omega) ?_
  have hIx14_ : gi (sm_aI (sm_aI (sm_aI (sm_aI S0_ 222 0 c_.toNat 1) 223 0 c_.toNat (S0_.2.2.1 154 0 (S0_.1 13 0 105).toNat)) 224 0 c_.toNat (S0_.2.2.1 155 0 (S0_.1 13 0 105).toNat)) 225 0 c_.toNat (S0_.2.2.1 156 0 (S0_.1 13 0 105).toNat)) := gi_aI hIx10_ (show 0 ≤ (S0_.2.2.1 156 0 (S0_.1 13 0 105).toNat) ∧ (S0_.2.2.1 156 0 (S0_.1 13 0 105).toNat) ≤ 16 from ⟨by omega, by omega⟩)
  have hFx15_ : ai_fr (sx_W vw_420) S0_ (sm_aI (sm_aI (sm_aI (sm_aI S0_ 222 0 c_.toNat 1) 223 0 c_.toNat (S0_.2.2.1 154 0 (S0_.1 13 0 105).toNat)) 224 0 c_.toNat (S0_.2.2.1 155 0 (S0_.1 13 0 105).toNat)) 225 0 c_.toNat (S0_.2.2.1 156 0 (S0_.1 13 0 105).toNat)) := ai_fr_tr hFx11_ (ai_fr_aI rfl)
  have hKx16_ : rcf c_.toNat S0_ (sm_aI (sm_aI (sm_aI (sm_aI S0_ 222 0 c_.toNat 1) 223 0 c_.toNat (S0_.2.2.1 154 0 (S0_.1 13 0 105).toNat)) 224 0 c_.toNat (S0_.2.2.1 155 0 (S0_.1 13 0 105).toNat)) 225 0 c_.toNat (S0_.2.2.1 156 0 (S0_.1 13 0 105).toNat)) := rcf_aI hKx12_ (Or.inr (by rw [show rcs 225 = 1 from rfl]; omega))
  refine sm_T_go 7 (c1 := (65, [some (.inr (.inr (some (13, 0)))), some (.inl c_), none, none], [.inl (S0_.1 13 0 105), .inr (.inr (some (157, 0))), .inl c_, .inr (.inr (some (226, 0)))], sm_aI (sm_aI (sm_aI (sm_aI S0_ 222 0 c_.toNat 1) 223 0 c_.toNat (S0_.2.2.1 154 0 (S0_.1 13 0 105).toNat)) 224 0 c_.toNat (S0_.2.2.1 155 0 (S0_.1 13 0 105).toNat)) 225 0 c_.toNat (S0_.2.2.1 156 0 (S0_.1 13 0 105).toNat))) rfl ?_
  refine sm_T_iald (n := 6) rfl rfl (by omega) (by omega) ?_
  have bx17_ : 0 ≤ S0_.2.2.1 157 0 (S0_.1 13 0 105).toNat ∧ S0_.2.2.1 157 0 (S0_.1 13 0 105).toNat ≤ 63 := hI_.2 157 0 _
  refine sm_T_go 0 (c1 := (66, [some (.inr (.inr (some (13, 0)))), some (.inl c_), none, none], [.inl (S0_.2.2.1 157 0 (S0_.1 13 0 105).toNat), .inl c_, .inr (.inr (some (226, 0)))], sm_aI (sm_aI (sm_aI (sm_aI S0_ 222 0 c_.toNat 1) 223 0 c_.toNat (S0_.2.2.1 154 0 (S0_.1 13 0 105).toNat)) 224 0 c_.toNat (S0_.2.2.1 155 0 (S0_.1 13 0 105).toNat)) 225 0 c_.toNat (S0_.2.2.1 156 0 (S0_.1 13 0 105).toNat))) rfl ?_
  refine sm_T_iast (n := 4) rfl rfl (by omega) (by omega) ?_
  have hIx18_ : gi (sm_aI (sm_aI (sm_aI (sm_aI (sm_aI S0_ 222 0 c_.toNat 1) 223 0 c_.toNat (S0_.2.2.1 154 0 (S0_.1 13 0 105).toNat)) 224 0 c_.toNat (S0_.2.2.1 155 0 (S0_.1 13 0 105).toNat)) 225 0 c_.toNat (S0_.2.2.1 156 0 (S0_.1 13 0 105).toNat)) 226 0 c_.toNat (S0_.2.2.1 157 0 (S0_.1 13 0 105).toNat)) := gi_aI hIx14_ (show 0 ≤ (S0_.2.2.1 157 0 (S0_.1 13 0 105).toNat) ∧ (S0_.2.2.1 157 0 (S0_.1 13 0 105).toNat) ≤ 63 from ⟨by omega, by omega⟩)
  have hFx19_ : ai_fr (sx_W vw_420) S0_ (sm_aI (sm_aI (sm_aI (sm_aI (sm_aI S0_ 222 0 c_.toNat 1) 223 0 c_.toNat (S0_.2.2.1 154 0 (S0_.1 13 0 105).toNat)) 224 0 c_.toNat (S0_.2.2.1 155 0 (S0_.1 13 0 105).toNat)) 225 0 c_.toNat (S0_.2.2.1 156 0 (S0_.1 13 0 105).toNat)) 226 0 c_.toNat (S0_.2.2.1 157 0 (S0_.1 13 0 105).toNat)) := ai_fr_tr hFx15_ (ai_fr_aI rfl)
  have hKx20_ : rcf c_.toNat S0_ (sm_aI (sm_aI (sm_aI (sm_aI (sm_aI S0_ 222 0 c_.toNat 1) 223 0 c_.toNat (S0_.2.2.1 154 0 (S0_.1 13 0 105).toNat)) 224 0 c_.toNat (S0_.2.2.1 155 0 (S0_.1 13 0 105).toNat)) 225 0 c_.toNat (S0_.2.2.1 156 0 (S0_.1 13 0 105).toNat)) 226 0 c_.toNat (S0_.2.2.1 157 0 (S0_.1 13 0 105).toNat)) := rcf_aI hKx16_ (Or.inr (by rw [show rcs 226 = 1 from rfl]; omega))
  refine sm_T_go 6 (c1 := (77, [some (.inr (.inr (some (13, 0)))), some (.inl c_), none, none], [.inl c_, .inr (.inr (some (226, 0))), .inl c_, .inr (.inr (some (227, 0)))], sm_aI (sm_aI (sm_aI (sm_aI (sm_aI S0_ 222 0 c_.toNat 1) 223 0 c_.toNat (S0_.2.2.1 154 0 (S0_.1 13 0 105).toNat)) 224 0 c_.toNat (S0_.2.2.1 155 0 (S0_.1 13 0 105).toNat)) 225 0 c_.toNat (S0_.2.2.1 156 0 (S0_.1 13 0 105).toNat)) 226 0 c_.toNat (S0_.2.2.1 157 0 (S0_.1 13 0 105).toNat))) rfl ?_
  refine sm_T_iald (n := 4) rfl rfl (by omega) (by omega) ?_
  have bx21_ : 0 ≤ (sm_aI (sm_aI (sm_aI (sm_aI (sm_aI S0_ 222 0 c_.toNat 1) 223 0 c_.toNat (S0_.2.2.1 154 0 (S0_.1 13 0 105).toNat)) 224 0 c_.toNat (S0_.2.2.1 155 0 (S0_.1 13 0 105).toNat)) 225 0 c_.toNat (S0_.2.2.1 156 0 (S0_.1 13 0 105).toNat)) 226 0 c_.toNat (S0_.2.2.1 157 0 (S0_.1 13 0 105).toNat)).2.2.1 226 0 c_.toNat ∧ (sm_aI (sm_aI (sm_aI (sm_aI (sm_aI S0_ 222 0 c_.toNat 1) 223 0 c_.toNat (S0_.2.2.1 154 0 (S0_.1 13 0 105).toNat)) 224 0 c_.toNat (S0_.2.2.1 155 0 (S0_.1 13 0 105).toNat)) 225 0 c_.toNat (S0_.2.2.1 156 0 (S0_.1 13 0 105).toNat)) 226 0 c_.toNat (S0_.2.2.1 157 0 (S0_.1 13 0 105).toNat)).2.2.1 226 0 c_.toNat ≤ 63 := hIx18_.2 226 0 _
  refine sm_T_go 0 (c1 := (78, [some (.inr (.inr (some (13, 0)))), some (.inl c_), none, none], [.inl ((sm_aI (sm_aI (sm_aI (sm_aI (sm_aI S0_ 222 0 c_.toNat 1) 223 0 c_.toNat (S0_.2.2.1 154 0 (S0_.1 13 0 105).toNat)) 224 0 c_.toNat (S0_.2.2.1 155 0 (S0_.1 13 0 105).toNat)) 225 0 c_.toNat (S0_.2.2.1 156 0 (S0_.1 13 0 105).toNat)) 226 0 c_.toNat (S0_.2.2.1 157 0 (S0_.1 13 0 105).toNat)).2.2.1 226 0 c_.toNat), .inl c_, .inr (.inr (some (227, 0)))], sm_aI (sm_aI (sm_aI (sm_aI (sm_aI S0_ 222 0 c_.toNat 1) 223 0 c_.toNat (S0_.2.2.1 154 0 (S0_.1 13 0 105).toNat)) 224 0 c_.toNat (S0_.2.2.1 155 0 (S0_.1 13 0 105).toNat)) 225 0 c_.toNat (S0_.2.2.1 156 0 (S0_.1 13 0 105).toNat)) 226 0 c_.toNat (S0_.2.2.1 157 0 (S0_.1 13 0 105).toNat))) rfl ?_
  refine sm_T_iast (n := 4) rfl rfl (by omega) (by omega) ?_
  have hIx22_ : gi (sm_aI (sm_aI (sm_aI (sm_aI (sm_aI (sm_aI S0_ 222 0 c_.toNat 1) 223 0 c_.toNat (S0_.2.2.1 154 0 (S0_.1 13 0 105).toNat)) 224 0 c_.toNat (S0_.2.2.1 155 0 (S0_.1 13 0 105).toNat)) 225 0 c_.toNat (S0_.2.2.1 156 0 (S0_.1 13 0 105).toNat)) 226 0 c_.toNat (S0_.2.2.1 157 0 (S0_.1 13 0 105).toNat)) 227 0 c_.toNat ((sm_aI (sm_aI (sm_aI (sm_aI (sm_aI S0_ 222 0 c_.toNat 1) 223 0 c_.toNat (S0_.2.2.1 154 0 (S0_.1 13 0 105).toNat)) 224 0 c_.toNat (S0_.2.2.1 155 0 (S0_.1 13 0 105).toNat)) 225 0 c_.toNat (S0_.2.2.1 156 0 (S0_.1 13 0 105).toNat)) 226 0 c_.toNat (S0_.2.2.1 157 0 (S0_.1 13 0 105).toNat)).2.2.1 226 0 c_.toNat)) := gi_aI hIx18_ (show 0 ≤ ((sm_aI (sm_aI (sm_aI (sm_aI (sm_aI S0_ 222 0 c_.toNat 1) 223 0 c_.toNat (S0_.2.2.1 154 0 (S0_.1 13 0 105).toNat)) 224 0 c_.toNat (S0_.2.2.1 155 0 (S0_.1 13 0 105).toNat)) 225 0 c_.toNat (S0_.2.2.1 156 0 (S0_.1 13 0 105).toNat)) 226 0 c_.toNat (S0_.2.2.1 157 0 (S0_.1 13 0 105).toNat)).2.2.1 226 0 c_.toNat) ∧ ((sm_aI (sm_aI (sm_aI (sm_aI (sm_aI S0_ 222 0 c_.toNat 1) 223 0 c_.toNat (S0_.2.2.1 154 0 (S0_.1 13 0 105).toNat)) 224 0 c_.toNat (S0_.2.2.1 155 0 (S0_.1 13 0 105).toNat)) 225 0 c_.toNat (S0_.2.2.1 156 0 (S0_.1 13 0 105).toNat)) 226 0 c_.toNat (S0_.2.2.1 157 0 (S0_.1 13 0 105).toNat)).2.2.1 226 0 c_.toNat) ≤ 63 from ⟨by omega, by omega⟩)
  have hFx23_ : ai_fr (sx_W vw_420) S0_ (sm_aI (sm_aI (sm_aI (sm_aI (sm_aI (sm_aI S0_ 222 0 c_.toNat 1) 223 0 c_.toNat (S0_.2.2.1 154 0 (S0_.1 13 0 105).toNat)) 224 0 c_.toNat (S0_.2.2.1 155 0 (S0_.1 13 0 105).toNat)) 225 0 c_.toNat (S0_.2.2.1 156 0 (S0_.1 13 0 105).toNat)) 226 0 c_.toNat (S0_.2.2.1 157 0 (S0_.1 13 0 105).toNat)) 227 0 c_.toNat ((sm_aI (sm_aI (sm_aI (sm_aI (sm_aI S0_ 222 0 c_.toNat 1) 223 0 c_.toNat (S0_.2.2.1 154 0 (S0_.1 13 0 105).toNat)) 224 0 c_.toNat (S0_.2.2.1 155 0 (S0_.1 13 0 105).toNat)) 225 0 c_.toNat (S0_.2.2.1 156 0 (S0_.1 13 0 105).toNat)) 226 0 c_.toNat (S0_.2.2.1 157 0 (S0_.1 13 0 105).toNat)).2.2.1 226 0 c_.toNat)) := ai_fr_tr hFx19_ (ai_fr_aI rfl)
  have hKx24_ : rcf c_.toNat S0_ (sm_aI (sm_aI (sm_aI (sm_aI (sm_aI (sm_aI S0_ 222 0 c_.toNat 1) 223 0 c_.toNat (S0_.2.2.1 154 0 (S0_.1 13 0 105).toNat)) 224 0 c_.toNat (S0_.2.2.1 155 0 (S0_.1 13 0 105).toNat)) 225 0 c_.toNat (S0_.2.2.1 156 0 (S0_.1 13 0 105).toNat)) 226 0 c_.toNat (S0_.2.2.1 157 0 (S0_.1 13 0 105).toNat)) 227 0 c_.toNat ((sm_aI (sm_aI (sm_aI (sm_aI (sm_aI S0_ 222 0 c_.toNat 1) 223 0 c_.toNat (S0_.2.2.1 154 0 (S0_.1 13 0 105).toNat)) 224 0 c_.toNat (S0_.2.2.1 155 0 (S0_.1 13 0 105).toNat)) 225 0 c_.toNat (S0_.2.2.1 156 0 (S0_.1 13 0 105).toNat)) 226 0 c_.toNat (S0_.2.2.1 157 0 (S0_.1 13 0 105).toNat)).2.2.1 226 0 c_.toNat)) := rcf_aI hKx20_ (Or.inr (by rw [show rcs 227 = 1 from rfl]; omega))
  have bx25_ : 0 ≤ S0_.1 13 0 129 ∧ S0_.1 13 0 129 ≤ 8191 := hI_.1 13 0 129 rfl
  refine sm_T_go 5 (c1 := (88, [some (.inr (.inr (some (13, 0)))), some (.inl c_), none, none], [.inl (S0_.1 13 0 129), .inl c_, .inr (.inr (some (228, 0)))], sm_aI (sm_aI (sm_aI (sm_aI (sm_aI (sm_aI S0_ 222 0 c_.toNat 1) 223 0 c_.toNat (S0_.2.2.1 154 0 (S0_.1 13 0 105).toNat)) 224 0 c_.toNat (S0_.2.2.1 155 0 (S0_.1 13 0 105).toNat)) 225 0 c_.toNat (S0_.2.2.1 156 0 (S0_.1 13 0 105).toNat)) 226 0 c_.toNat (S0_.2.2.1 157 0 (S0_.1 13 0 105).toNat)) 227 0 c_.toNat ((sm_aI (sm_aI (sm_aI (sm_aI (sm_aI S0_ 222 0 c_.toNat 1) 223 0 c_.toNat (S0_.2.2.1 154 0 (S0_.1 13 0 105).toNat)) 224 0 c_.toNat (S0_.2.2.1 155 0 (S0_.1 13 0 105).toNat)) 225 0 c_.toNat (S0_.2.2.1 156 0 (S0_.1 13 0 105).toNat)) 226 0 c_.toNat (S0_.2.2.1 157 0 (S0_.1 13 0 105).toNat)).2.2.1 226 0 c_.toNat))) rfl ?_
  refine sm_T_iast (n := 4) rfl rfl (by omega) (by omega) ?_
  have hIx26_ : gi (sm_aI (sm_aI (sm_aI (sm_aI (sm_aI (sm_aI (sm_aI S0_ 222 0 c_.toNat 1) 223 0 c_.toNat (S0_.2.2.1 154 0 (S0_.1 13 0 105).toNat)) 224 0 c_.toNat (S0_.2.2.1 155 0 (S0_.1 13 0 105).toNat)) 225 0 c_.toNat (S0_.2.2.1 156 0 (S0_.1 13 0 105).toNat)) 226 0 c_.toNat (S0_.2.2.1 157 0 (S0_.1 13 0 105).toNat)) 227 0 c_.toNat ((sm_aI (sm_aI (sm_aI (sm_aI (sm_aI S0_ 222 0 c_.toNat 1) 223 0 c_.toNat (S0_.2.2.1 154 0 (S0_.1 13 0 105).toNat)) 224 0 c_.toNat (S0_.2.2.1 155 0 (S0_.1 13 0 105).toNat)) 225 0 c_.toNat (S0_.2.2.1 156 0 (S0_.1 13 0 105).toNat)) 226 0 c_.toNat (S0_.2.2.1 157 0 (S0_.1 13 0 105).toNat)).2.2.1 226 0 c_.toNat)) 228 0 c_.toNat (S0_.1 13 0 129)) := gi_aI hIx22_ (show 0 ≤ (S0_.1 13 0 129) ∧ (S0_.1 13 0 129) ≤ 150 from ⟨by omega, by omega⟩)
  have hFx27_ : ai_fr (sx_W vw_420) S0_ (sm_aI (sm_aI (sm_aI (sm_aI (sm_aI (sm_aI (sm_aI S0_ 222 0 c_.toNat 1) 223 0 c_.toNat (S0_.2.2.1 154 0 (S0_.1 13 0 105).toNat)) 224 0 c_.toNat (S0_.2.2.1 155 0 (S0_.1 13 0 105).toNat)) 225 0 c_.toNat (S0_.2.2.1 156 0 (S0_.1 13 0 105).toNat)) 226 0 c_.toNat (S0_.2.2.1 157 0 (S0_.1 13 0 105).toNat)) 227 0 c_.toNat ((sm_aI (sm_aI (sm_aI (sm_aI (sm_aI S0_ 222 0 c_.toNat 1) 223 0 c_.toNat (S0_.2.2.1 154 0 (S0_.1 13 0 105).toNat)) 224 0 c_.toNat (S0_.2.2.1 155 0 (S0_.1 13 0 105).toNat)) 225 0 c_.toNat (S0_.2.2.1 156 0 (S0_.1 13 0 105).toNat)) 226 0 c_.toNat (S0_.2.2.1 157 0 (S0_.1 13 0 105).toNat)).2.2.1 226 0 c_.toNat)) 228 0 c_.toNat (S0_.1 13 0 129)) := ai_fr_tr hFx23_ (ai_fr_aI rfl)
  have hKx28_ : rcf c_.toNat S0_ (sm_aI (sm_aI (sm_aI (sm_aI (sm_aI (sm_aI (sm_aI S0_ 222 0 c_.toNat 1) 223 0 c_.toNat (S0_.2.2.1 154 0 (S0_.1 13 0 105).toNat)) 224 0 c_.toNat (S0_.2.2.1 155 0 (S0_.1 13 0 105).toNat)) 225 0 c_.toNat (S0_.2.2.1 156 0 (S0_.1 13 0 105).toNat)) 226 0 c_.toNat (S0_.2.2.1 157 0 (S0_.1 13 0 105).toNat)) 227 0 c_.toNat ((sm_aI (sm_aI (sm_aI (sm_aI (sm_aI S0_ 222 0 c_.toNat 1) 223 0 c_.toNat (S0_.2.2.1 154 0 (S0_.1 13 0 105).toNat)) 224 0 c_.toNat (S0_.2.2.1 155 0 (S0_.1 13 0 105).toNat)) 225 0 c_.toNat (S0_.2.2.1 156 0 (S0_.1 13 0 105).toNat)) 226 0 c_.toNat (S0_.2.2.1 157 0 (S0_.1 13 0 105).toNat)).2.2.1 226 0 c_.toNat)) 228 0 c_.toNat (S0_.1 13 0 129)) := rcf_aI hKx24_ (Or.inr (by rw [show rcs 228 = 1 from rfl]; omega))
  refine sm_T_go 2 (c1 := (91, [some (.inr (.inr (some (13, 0)))), some (.inl c_), some (.inl 0), none], [], sm_aI (sm_aI (sm_aI (sm_aI (sm_aI (sm_aI (sm_aI S0_ 222 0 c_.toNat 1) 223 0 c_.toNat (S0_.2.2.1 154 0 (S0_.1 13 0 105).toNat)) 224 0 c_.toNat (S0_.2.2.1 155 0 (S0_.1 13 0 105).toNat)) 225 0 c_.toNat (S0_.2.2.1 156 0 (S0_.1 13 0 105).toNat)) 226 0 c_.toNat (S0_.2.2.1 157 0 (S0_.1 13 0 105).toNat)) 227 0 c_.toNat ((sm_aI (sm_aI (sm_aI (sm_aI (sm_aI S0_ 222 0 c_.toNat 1) 223 0 c_.toNat (S0_.2.2.1 154 0 (S0_.1 13 0 105).toNat)) 224 0 c_.toNat (S0_.2.2.1 155 0 (S0_.1 13 0 105).toNat)) 225 0 c_.toNat (S0_.2.2.1 156 0 (S0_.1 13 0 105).toNat)) 226 0 c_.toNat (S0_.2.2.1 157 0 (S0_.1 13 0 105).toNat)).2.2.1 226 0 c_.toNat)) 228 0 c_.toNat (S0_.1 13 0 129))) rfl ?_
  refine (vl_420 c_ F_ N_ d_ S0_ hd_ hc_ hmd_ hl_ hg_ hlb_ ho_ _).1 0 (sm_aI (sm_aI (sm_aI (sm_aI (sm_aI (sm_aI (sm_aI S0_ 222 0 c_.toNat 1) 223 0 c_.toNat (S0_.2.2.1 154 0 (S0_.1 13 0 105).toNat)) 224 0 c_.toNat (S0_.2.2.1 155 0 (S0_.1 13 0 105).toNat)) 225 0 c_.toNat (S0_.2.2.1 156 0 (S0_.1 13 0 105).toNat)) 226 0 c_.toNat (S0_.2.2.1 157 0 (S0_.1 13 0 105).toNat)) 227 0 c_.toNat ((sm_aI (sm_aI (sm_aI (sm_aI (sm_aI S0_ 222 0 c_.toNat 1) 223 0 c_.toNat (S0_.2.2.1 154 0 (S0_.1 13 0 105).toNat)) 224 0 c_.toNat (S0_.2.2.1 155 0 (S0_.1 13 0 105).toNat)) 225 0 c_.toNat (S0_.2.2.1 156 0 (S0_.1 13 0 105).toNat)) 226 0 c_.toNat (S0_.2.2.1 157 0 (S0_.1 13 0 105).toNat)).2.2.1 226 0 c_.toNat)) 228 0 c_.toNat (S0_.1 13 0 129)) hIx26_ hFx27_ ⟨?_, ?_, ?_, ?_, ?_, trivial⟩ (Nat.lt_succ_self _)
  · omega
  · (try simp only [rd_eq, rd_ne, rf_eq, rf_nk, rf_nt, rd_fa, rd_af, rd_fl, rd_al, rd_lf, rd_la, rd_leq, rd_lne, rd_fr, rd_ar, ne_eq, Nat.reduceEqDiff, not_false_eq_true])
    rw [d1_.2.2.1]
    exact ⟨rfl, rfl, rfl, rfl, rfl, rfl⟩
  · (intro j9_ u0_ u1_; exfalso; omega)
  · (intro j9_ u0_ u1_; exfalso; omega)
  · exact hKx28_
end
/-! 99.zt2 -/
section
/-! the reference: a design mapped; written by wip/p55/gen/vg -/

/-! the_ reference: a_ design mapped -/
theorem aI_ne {t_ u_ k_ : Nat} {v_ : Int} {S_ : sm_S} (h_ : u_ ≠ t_) : (sm_aI S_ t_ 0 k_ v_).2.2.1 u_ 0 = S_.2.2.1 u_ 0 := by
  funext j_
  simp only [rd_ne, h_, ne_eq, not_false_eq_true]
theorem wok2_eq {F_ n_ : Int} {S_ S'_ : sm_S} (h_ : wok2 F_ n_ S_) (e2_ : S'_.2.2.1 202 0 = S_.2.2.1 202 0) (e3_ : S'_.2.2.1 203 0 = S_.2.2.1 203 0) (e5_ : S'_.2.2.1 185 0 = S_.2.2.1 185 0) (e6_ : S'_.2.2.1 206 0 = S_.2.2.1 206 0) (e7_ : S'_.2.2.1 207 0 = S_.2.2.1 207 0) (e8_ : S'_.2.2.1 208 0 = S_.2.2.1 208 0) (e9_ : S'_.2.2.1 209 0 = S_.2.2.1 209 0) (e10 : S'_.2.2.1 210 0 = S_.2.2.1 210 0) (e11 : S'_.2.2.1 211 0 = S_.2.2.1 211 0) (e106_ : S'_.1 13 0 106 = S_.1 13 0 106) (e108_ : S'_.1 13 0 108 = S_.1 13 0 108) : wok2 F_ n_ S'_ := by
  unfold wok2 wyc ned inp cst at *
  rw [e2_, e3_, e5_, e6_, e7_, e8_, e9_, e10, e11, e106_, e108_]
  exact h_
theorem wok2_a {F_ n_ v_ : Int} {k_ : Nat} {S_ : sm_S} (h_ : wok2 F_ n_ S_) : wok2 F_ n_ (sm_aI S_ 218 0 k_ v_) := wok2_eq h_ (aI_ne (by decide)) (aI_ne (by decide)) (aI_ne (by decide)) (aI_ne (by decide)) (aI_ne (by decide)) (aI_ne (by decide)) (aI_ne (by decide)) (aI_ne (by decide)) (aI_ne (by decide)) rfl rfl
theorem lgn_cg {F_ N_ : Int} {S_ S'_ : sm_S} (h_ : lgn F_ N_ S_) (e2_ : S'_.2.2.1 202 0 = S_.2.2.1 202 0) (e9_ : S'_.2.2.1 199 0 = S_.2.2.1 199 0) (e0_ : S'_.2.2.1 200 0 = S_.2.2.1 200 0) : lgn F_ N_ S'_ := by
  unfold lgn lgp at *
  rw [e2_, e9_, e0_]
  exact h_
theorem rtd_fr {w_ : sx_Wl} {F_ d_ : Int} {S_ S'_ : sm_S} (h_ : rtd F_ d_ (S_.2.2.1 156 0 d_.toNat) (S_.2.2.1 155 0 d_.toNat) S_) (g_ : ai_fr (sx_W w_) S_ S'_) (q_ : dwf w_ = true := by rfl) (e2_ : (sx_W w_).2.1 202 = false := by rfl) (e3_ : (sx_W w_).2.1 203 = false := by rfl) : rtd F_ d_ (S'_.2.2.1 156 0 d_.toNat) (S'_.2.2.1 155 0 d_.toNat) S'_ := by
  rw [fr_arr (t := 156) g_ (dwf_0 q_ (by decide) (by decide)), fr_arr (t := 155) g_ (dwf_0 q_ (by decide) (by decide))]
  exact rtd_mo h_ (fr_arr (t := 166) g_ (dwf_0 q_ (by decide) (by decide))) (fr_arr (t := 167) g_ (dwf_0 q_ (by decide) (by decide))) (fr_arr (t := 168) g_ (dwf_0 q_ (by decide) (by decide))) (fun j_ u_ => by rw [fr_arr (t := 202) g_ e2_]; exact u_) (fun j_ u_ => by rw [fr_arr (t := 203) g_ e3_]; exact u_)
theorem gst_a {F_ N_ v_ : Int} {t_ k_ : Nat} {S_ : sm_S} (h_ : gst F_ N_ S_) (ht_ : t_ = 231 ∨ t_ = 232) : gst F_ N_ (sm_aI S_ t_ 0 k_ v_) := by
  have a_ : ∀ u_, u_ < 230 → (sm_aI S_ t_ 0 k_ v_).2.2.1 u_ 0 = S_.2.2.1 u_ 0 := fun u_ hu_ => aI_ne (by omega)
  exact gst_cg h_ rfl (a_ 218 (by decide)) (a_ 219 (by decide)) (a_ 216 (by decide)) (a_ 217 (by decide)) (a_ 185 (by decide)) rfl rfl
theorem gst_0 {F_ N_ : Int} {S_ : sm_S} (hN_ : 0 ≤ N_) (h_ : S_.1 13 0 129 = 0) (h2_ : ∀ j_ : Int, 2 * F_ ≤ j_ → j_ < 2 * N_ → S_.2.2.1 218 0 j_.toNat = -1) (h3_ : ∀ j_ : Int, 0 ≤ j_ → j_ < N_ → S_.2.2.1 219 0 j_.toNat = -1) : gst F_ N_ S_ := by
  have a_ := cn1_le (isn (S_.2.2.1 218 0)) (2 * N_).toNat
  have b_ := cn1_le (isn (S_.2.2.1 219 0)) N_.toNat
  refine ⟨⟨by omega, by unfold inc; omega⟩, fun w_ w0_ w1_ => Or.inl (h2_ w_ w0_ w1_), fun n_ n0_ n1_ => Or.inl (h3_ n_ (by omega) n1_), fun g_ g0_ g1_ => by omega⟩
def w118 : sx_Wl := (vw_407.1, 218 :: vw_407.2.1, [])
def w251 : sx_Wl := (vw_418.1, 231 :: vw_418.2.1, [])
def w304 : sx_Wl := (vw_418.1, 232 :: vw_418.2.1, [])
/-! M_.map -/
def vw_419 : sx_Wl := ([(13, 0), (13, 105), (13, 106), (13, 107), (13, 108), (13, 114), (13, 123), (13, 127), (13, 129), (13, 134), (13, 137)], [199, 200, 201, 202, 203, 204, 205, 206, 207, 208, 209, 210, 211, 212, 213, 214, 215, 216, 217, 218, 219, 220, 221, 222, 223, 224, 225, 226, 227, 228, 229, 230, 231, 232, 233, 234, 235, 236, 237, 240, 251, 263, 272, 289, 294], [])
def vq_419 (a1_ : Int) (a2_ : Int) (F_ : Int) (N_ : Int) (S0_ : sm_S) (u_ : Option sm_V) (S1_ : sm_S) : Prop := ∃ v_ : Int, u_ = some (.inl v_) ∧ gi S1_ ∧ ai_fr (sx_W vw_419) S0_ S1_ ∧ ((-2147483648 ≤ v_ ∧ v_ ≤ 2147483647) ∧ jR S1_)
set_option maxHeartbeats 4000000 in
set_option maxRecDepth 20000 in
theorem vl_419 {sc_ : Nat × (Nat → Int)} (a1_ : Int) (a2_ : Int) (F_ : Int) (N_ : Int) (S0_ : sm_S) (ha1_ : (-2147483648) ≤ a1_ ∧ a1_ ≤ 2147483647) (ha2_ : (-2147483648) ≤ a2_ ∧ a2_ ≤ 2147483647) (hJ_ : jR S0_) (hF0_ : F_ = S0_.2.2.1 160 0 a1_.toNat) (hN0_ : N_ = S0_.2.2.1 159 0 a1_.toNat) : ∀ nn_ : Nat, (∀ (c_ : Int) (gd_ : Int) (i_ : Int) (S_ : sm_S), gi S_ → ai_fr (sx_W vw_419) S0_ S_ → ((0 ≤ a1_ ∧ a1_ ≤ 5 ∧ 0 ≤ a2_ ∧ a2_ ≤ 2 ∧ 0 ≤ c_ ∧ c_ ≤ 3 ∧ (gd_ = 0 ∨ gd_ = 1) ∧ F_ ≤ i_ ∧ i_ ≤ N_) ∧ (dmp F_ N_ a1_ S_) ∧ (S_.1 13 0 106 = a2_) ∧ (rtd F_ a1_ (S_.2.2.1 156 0 a1_.toNat) (S_.2.2.1 155 0 a1_.toNat) S_) ∧ (S_.1 13 0 107 = -1 ∨ S_.2.2.1 185 0 (12 * S_.1 13 0 106 + S_.1 13 0 107).toNat = 1) ∧ (rcf c_.toNat S0_ S_) ∧ (S_.2.2.1 222 0 c_.toNat = 0) ∧ (lgn F_ N_ S_) ∧ (∀ n9_ : Int, F_ ≤ n9_ → n9_ < i_ → S_.2.2.1 202 0 n9_.toNat = 1 → wok2 F_ n9_ S_) ∧ (gd_ = 1 → ∀ n9_ : Int, F_ ≤ n9_ → n9_ < i_ → S_.2.2.1 202 0 n9_.toNat = 1 → S_.2.2.1 203 0 n9_.toNat = 1 → S_.2.2.1 210 0 (2 * n9_).toNat < 1000000000) ∧ (∀ j9_ : Int, 2 * F_ ≤ j9_ → j9_ < 2 * i_ → S_.2.2.1 218 0 j9_.toNat = -1) ∧ True) → ((90000 - i_).toNat) < nn_ → sm_T (mt_P sc_) 5 419 (118, [some (.inr (.inr (some (13, 0)))), some (.inl a1_), some (.inl a2_), some (.inl c_), some (.inl gd_), some (.inl i_)], [], S_) (fun ro9_ => ∃ u_ S1_, ro9_ = (.inl u_, S1_, 0) ∧ vq_419 a1_ a2_ F_ N_ S0_ u_ S1_)) ∧ (∀ (c_ : Int) (gd_ : Int) (i_ : Int) (S_ : sm_S), gi S_ → ai_fr (sx_W vw_419) S0_ S_ → ((0 ≤ a1_ ∧ a1_ ≤ 5 ∧ 0 ≤ a2_ ∧ a2_ ≤ 2 ∧ 0 ≤ c_ ∧ c_ ≤ 3 ∧ (gd_ = 0 ∨ gd_ = 1) ∧ 0 ≤ i_ ∧ i_ ≤ N_) ∧ (dmp F_ N_ a1_ S_) ∧ (S_.1 13 0 106 = a2_) ∧ (rtd F_ a1_ (S_.2.2.1 156 0 a1_.toNat) (S_.2.2.1 155 0 a1_.toNat) S_) ∧ (S_.1 13 0 107 = -1 ∨ S_.2.2.1 185 0 (12 * S_.1 13 0 106 + S_.1 13 0 107).toNat = 1) ∧ (rcf c_.toNat S0_ S_) ∧ (S_.2.2.1 222 0 c_.toNat = 0) ∧ (wal9 F_ N_ S_) ∧ (gd_ = 1 → gdr F_ N_ S_) ∧ (∀ j9_ : Int, 2 * F_ ≤ j9_ → j9_ < 2 * N_ → S_.2.2.1 218 0 j9_.toNat = -1) ∧ (∀ j9_ : Int, 0 ≤ j9_ → j9_ < i_ → S_.2.2.1 219 0 j9_.toNat = -1) ∧ True) → ((70000 - i_).toNat) < nn_ → sm_T (mt_P sc_) 5 419 (213, [some (.inr (.inr (some (13, 0)))), some (.inl a1_), some (.inl a2_), some (.inl c_), some (.inl gd_), some (.inl i_)], [], S_) (fun ro9_ => ∃ u_ S1_, ro9_ = (.inl u_, S1_, 0) ∧ vq_419 a1_ a2_ F_ N_ S0_ u_ S1_)) ∧ (∀ (c_ : Int) (gd_ : Int) (i_ : Int) (S_ : sm_S), gi S_ → ai_fr (sx_W vw_419) S0_ S_ → ((0 ≤ a1_ ∧ a1_ ≤ 5 ∧ 0 ≤ a2_ ∧ a2_ ≤ 2 ∧ 0 ≤ c_ ∧ c_ ≤ 3 ∧ (gd_ = 0 ∨ gd_ = 1) ∧ 0 ≤ i_ ∧ i_ ≤ S_.2.2.1 156 0 a1_.toNat) ∧ (dmp F_ N_ a1_ S_) ∧ (S_.1 13 0 106 = a2_) ∧ (rtd F_ a1_ (S_.2.2.1 156 0 a1_.toNat) (S_.2.2.1 155 0 a1_.toNat) S_) ∧ (S_.1 13 0 107 = -1 ∨ S_.2.2.1 185 0 (12 * S_.1 13 0 106 + S_.1 13 0 107).toNat = 1) ∧ (rcf c_.toNat S0_ S_) ∧ (S_.2.2.1 222 0 c_.toNat = 0) ∧ (wal9 F_ N_ S_) ∧ (gd_ = 1 → gdr F_ N_ S_) ∧ (gst F_ N_ S_) ∧ (gd_ = 1 → ∀ k9_ : Int, 0 ≤ k9_ → k9_ < i_ → S_.2.2.1 231 0 (16 * c_ + k9_).toNat < F_ - 1 + S_.1 13 0 129) ∧ True) → ((50000 - i_).toNat) < nn_ → sm_T (mt_P sc_) 5 419 (251, [some (.inr (.inr (some (13, 0)))), some (.inl a1_), some (.inl a2_), some (.inl c_), some (.inl gd_), some (.inl i_)], [], S_) (fun ro9_ => ∃ u_ S1_, ro9_ = (.inl u_, S1_, 0) ∧ vq_419 a1_ a2_ F_ N_ S0_ u_ S1_)) ∧ (∀ (c_ : Int) (gd_ : Int) (i_ : Int) (S_ : sm_S), gi S_ → ai_fr (sx_W vw_419) S0_ S_ → ((0 ≤ a1_ ∧ a1_ ≤ 5 ∧ 0 ≤ a2_ ∧ a2_ ≤ 2 ∧ 0 ≤ c_ ∧ c_ ≤ 3 ∧ (gd_ = 0 ∨ gd_ = 1) ∧ 0 ≤ i_ ∧ i_ ≤ S_.2.2.1 155 0 a1_.toNat) ∧ (dmp F_ N_ a1_ S_) ∧ (S_.1 13 0 106 = a2_) ∧ (rtd F_ a1_ (S_.2.2.1 156 0 a1_.toNat) (S_.2.2.1 155 0 a1_.toNat) S_) ∧ (S_.1 13 0 107 = -1 ∨ S_.2.2.1 185 0 (12 * S_.1 13 0 106 + S_.1 13 0 107).toNat = 1) ∧ (rcf c_.toNat S0_ S_) ∧ (S_.2.2.1 222 0 c_.toNat = 0) ∧ (wal9 F_ N_ S_) ∧ (gd_ = 1 → gdr F_ N_ S_) ∧ (gst F_ N_ S_) ∧ (gd_ = 1 → ∀ k9_ : Int, 0 ≤ k9_ → k9_ < S_.2.2.1 156 0 a1_.toNat → S_.2.2.1 231 0 (16 * c_ + k9_).toNat < F_ - 1 + S_.1 13 0 129) ∧ (gd_ = 1 → ∀ k9_ : Int, 0 ≤ k9_ → k9_ < i_ → S_.2.2.1 232 0 (6 * c_ + k9_).toNat < F_ - 1 + S_.1 13 0 129) ∧ True) → ((30000 - i_).toNat) < nn_ → sm_T (mt_P sc_) 5 419 (304, [some (.inr (.inr (some (13, 0)))), some (.inl a1_), some (.inl a2_), some (.inl c_), some (.inl gd_), some (.inl i_)], [], S_) (fun ro9_ => ∃ u_ S1_, ro9_ = (.inl u_, S1_, 0) ∧ vq_419 a1_ a2_ F_ N_ S0_ u_ S1_)) := by
  intro nn_
  induction nn_ with
  | zero => exact ⟨fun _ _ _ _ _ _ _ h_ => absurd h_ (Nat.not_lt_zero _), fun _ _ _ _ _ _ _ h_ => absurd h_ (Nat.not_lt_zero _), fun _ _ _ _ _ _ _ h_ => absurd h_ (Nat.not_lt_zero _), fun _ _ _ _ _ _ _ h_ => absurd h_ (Nat.not_lt_zero _)⟩
  | succ nn_ ih_ =>
    refine ⟨?_, ?_, ?_, ?_⟩
    · rintro c_ gd_ i_ S_ hI_ hF_ ⟨h0_, hd_, hlb_, hr_, hiv_, hk_, ht_, hl_, hw_, hgr_, hn2_, -⟩ hm_
      have d1_ := hd_.1
      have f160_ : S_.2.2.1 160 0 (S_.1 13 0 105).toNat = F_ := by (rw [d1_.2.2.1]; exact d1_.2.2.2.1)
      have c156_ : 0 ≤ S_.2.2.1 156 0 a1_.toNat ∧ S_.2.2.1 156 0 a1_.toNat ≤ 16 := hI_.2 156 0 _
      have c155_ : 0 ≤ S_.2.2.1 155 0 a1_.toNat ∧ S_.2.2.1 155 0 a1_.toNat ≤ 6 := hI_.2 155 0 _
      have c134_ : 0 ≤ S_.1 13 0 134 ∧ S_.1 13 0 134 ≤ 1 := hI_.1 13 0 134 rfl
      have c106_ : 0 ≤ S_.1 13 0 106 ∧ S_.1 13 0 106 ≤ 2 := hI_.1 13 0 106 rfl
      refine sm_T_go 4 (c1 := (125, [some (.inr (.inr (some (13, 0)))), some (.inl a1_), some (.inl a2_), some (.inl c_), some (.inl gd_), some (.inl i_)], [.inl a1_, .inr (.inr (some (159, 0))), .inl i_], S_)) rfl ?_
      refine sm_T_iald (n := 6) rfl rfl (by omega) (by omega) ?_
      have bx1_ : 0 ≤ S_.2.2.1 159 0 a1_.toNat ∧ S_.2.2.1 159 0 a1_.toNat ≤ 1013 := hI_.2 159 0 _
      refine sm_T_br (a := 3) (z := 84) rfl (fun cx2_ => ?_) (fun cx2_ => ?_)
      · have cx2_ : (S_.2.2.1 159 0 a1_.toNat) ≤ i_ := of_decide_eq_true cx2_
        refine sm_T_go 2 (c1 := (213, [some (.inr (.inr (some (13, 0)))), some (.inl a1_), some (.inl a2_), some (.inl c_), some (.inl gd_), some (.inl 0)], [], S_)) rfl ?_
        refine ih_.2.1 c_ gd_ 0 S_ hI_ hF_ ⟨?_, ?_, ?_, ?_, ?_, ?_, ?_, ?_, ?_, ?_, ?_, trivial⟩ ?_
        · omega
        · exact hd_
        · exact hlb_
        · exact hr_
        · exact hiv_
        · exact hk_
        · exact ht_
        · (intro n9_ u0_ u1_ u2_; exact hw_ n9_ u0_ (by omega) u2_)
        · (intro G9_ n9_ u0_ u1_ u2_ u3_; exact hgr_ G9_ n9_ u0_ (by omega) u2_ u3_)
        · (intro j9_ u0_ u1_; exact hn2_ j9_ u0_ (by omega))
        · (intro j9_ u0_ u1_; exfalso; omega)
        · omega
      · have cx2_ : ¬ ((S_.2.2.1 159 0 a1_.toNat) ≤ i_) := of_decide_eq_false cx2_
        refine sm_T_go 3 (c1 := (135, [some (.inr (.inr (some (13, 0)))), some (.inl a1_), some (.inl a2_), some (.inl c_), some (.inl gd_), some (.inl i_)], [.inl i_, .inr (.inr (some (202, 0)))], S_)) rfl ?_
        refine sm_T_zald (n := 2048) rfl rfl (by omega) (by omega) ?_
        have bx3_ : 0 ≤ S_.2.2.1 202 0 i_.toNat ∧ S_.2.2.1 202 0 i_.toNat ≤ 1 := hI_.2 202 0 _
        refine sm_T_b0 (a := 0) (z := 46) rfl (fun cx4_ => ?_) (fun cx4_ => ?_)
        · have cx4_ : (S_.2.2.1 202 0 i_.toNat) = 0 := of_decide_eq_true cx4_
          refine sm_T_go 4 (c1 := (189, [some (.inr (.inr (some (13, 0)))), some (.inl a1_), some (.inl a2_), some (.inl c_), some (.inl gd_), some (.inl i_)], [.inl i_, .inl 2, .inr (.inr (some (218, 0)))], S_)) rfl ?_
          refine sm_T_bin (w := 2 * i_) rfl (bi_mul (by omega) (by omega) (by omega)) ?_ -- pc_ 189
          refine sm_T_go 1 (c1 := (191, [some (.inr (.inr (some (13, 0)))), some (.inl a1_), some (.inl a2_), some (.inl c_), some (.inl gd_), some (.inl i_)], [.inl (-1), .inl (2 * i_), .inr (.inr (some (218, 0)))], S_)) rfl ?_
          refine sm_T_iast (n := 4096) rfl rfl (by omega) (by omega) ?_
          have hIx5_ : gi (sm_aI S_ 218 0 (2 * i_).toNat (-1)) := gi_aI hI_ (show (-2) ≤ (-1) ∧ (-1) ≤ 9000 from ⟨by omega, by omega⟩)
          have hFx6_ : ai_fr (sx_W vw_419) S0_ (sm_aI S_ 218 0 (2 * i_).toNat (-1)) := ai_fr_tr hF_ (ai_fr_aI rfl)
          refine sm_T_go 4 (c1 := (199, [some (.inr (.inr (some (13, 0)))), some (.inl a1_), some (.inl a2_), some (.inl c_), some (.inl gd_), some (.inl i_)], [.inl i_, .inl 2, .inr (.inr (some (218, 0)))], sm_aI S_ 218 0 (2 * i_).toNat (-1))) rfl ?_
          refine sm_T_bin (w := 2 * i_) rfl (bi_mul (by omega) (by omega) (by omega)) ?_ -- pc_ 199
          refine sm_T_go 1 (c1 := (201, [some (.inr (.inr (some (13, 0)))), some (.inl a1_), some (.inl a2_), some (.inl c_), some (.inl gd_), some (.inl i_)], [.inl 1, .inl (2 * i_), .inr (.inr (some (218, 0)))], sm_aI S_ 218 0 (2 * i_).toNat (-1))) rfl ?_
          refine sm_T_bin (w := 2 * i_ + 1) rfl (bi_add (by omega) (by omega) (by omega)) ?_ -- pc_ 201
          refine sm_T_go 1 (c1 := (203, [some (.inr (.inr (some (13, 0)))), some (.inl a1_), some (.inl a2_), some (.inl c_), some (.inl gd_), some (.inl i_)], [.inl (-1), .inl (2 * i_ + 1), .inr (.inr (some (218, 0)))], sm_aI S_ 218 0 (2 * i_).toNat (-1))) rfl ?_
          refine sm_T_iast (n := 4096) rfl rfl (by omega) (by omega) ?_
          have hIx7_ : gi (sm_aI (sm_aI S_ 218 0 (2 * i_).toNat (-1)) 218 0 (2 * i_ + 1).toNat (-1)) := gi_aI hIx5_ (show (-2) ≤ (-1) ∧ (-1) ≤ 9000 from ⟨by omega, by omega⟩)
          have hFx8_ : ai_fr (sx_W vw_419) S0_ (sm_aI (sm_aI S_ 218 0 (2 * i_).toNat (-1)) 218 0 (2 * i_ + 1).toNat (-1)) := ai_fr_tr hFx6_ (ai_fr_aI rfl)
          refine sm_T_inc (a := 5) (z := 1) (v := i_) (w := i_ + 1) rfl rfl (by omega) (by omega) (by omega) ?_ -- pc_ 204
          refine sm_T_go 1 (c1 := (118, [some (.inr (.inr (some (13, 0)))), some (.inl a1_), some (.inl a2_), some (.inl c_), some (.inl gd_), some (.inl (i_ + 1))], [], sm_aI (sm_aI S_ 218 0 (2 * i_).toNat (-1)) 218 0 (2 * i_ + 1).toNat (-1))) rfl ?_
          refine ih_.1 c_ gd_ (i_ + 1) (sm_aI (sm_aI S_ 218 0 (2 * i_).toNat (-1)) 218 0 (2 * i_ + 1).toNat (-1)) hIx7_ hFx8_ ⟨?_, ?_, ?_, ?_, ?_, ?_, ?_, ?_, ?_, ?_, ?_, trivial⟩ ?_
          · omega
          · have fT_ : ai_fr (sx_W w118) S_ ((sm_aI (sm_aI S_ 218 0 (2 * i_).toNat (-1)) 218 0 (2 * i_ + 1).toNat (-1))) := by
              first
              | (have y8_ := f142_; exact ai_fr_tr (ai_fr_tr (fr_le f142_ rfl) (ai_fr_aI rfl)) (ai_fr_aI rfl))
              | exact ai_fr_tr (ai_fr_aI rfl) (ai_fr_aI rfl)
            exact dmp_fr hd_ fT_
          · have fT_ : ai_fr (sx_W w118) S_ ((sm_aI (sm_aI S_ 218 0 (2 * i_).toNat (-1)) 218 0 (2 * i_ + 1).toNat (-1))) := by
              first
              | (have y8_ := f142_; exact ai_fr_tr (ai_fr_tr (fr_le f142_ rfl) (ai_fr_aI rfl)) (ai_fr_aI rfl))
              | exact ai_fr_tr (ai_fr_aI rfl) (ai_fr_aI rfl)
            rw [fT_.1 13 0 106 rfl]
            exact hlb_
          · have fT_ : ai_fr (sx_W w118) S_ ((sm_aI (sm_aI S_ 218 0 (2 * i_).toNat (-1)) 218 0 (2 * i_ + 1).toNat (-1))) := by
              first
              | (have y8_ := f142_; exact ai_fr_tr (ai_fr_tr (fr_le f142_ rfl) (ai_fr_aI rfl)) (ai_fr_aI rfl))
              | exact ai_fr_tr (ai_fr_aI rfl) (ai_fr_aI rfl)
            exact rtd_fr hr_ fT_
          · have fT_ : ai_fr (sx_W w118) S_ ((sm_aI (sm_aI S_ 218 0 (2 * i_).toNat (-1)) 218 0 (2 * i_ + 1).toNat (-1))) := by
              first
              | (have y8_ := f142_; exact ai_fr_tr (ai_fr_tr (fr_le f142_ rfl) (ai_fr_aI rfl)) (ai_fr_aI rfl))
              | exact ai_fr_tr (ai_fr_aI rfl) (ai_fr_aI rfl)
            rw [fT_.1 13 0 107 rfl, fT_.1 13 0 106 rfl, fr_arr (t := 185) (i := 0) fT_ rfl]
            exact hiv_
          · have fT_ : ai_fr (sx_W w118) S_ ((sm_aI (sm_aI S_ 218 0 (2 * i_).toNat (-1)) 218 0 (2 * i_ + 1).toNat (-1))) := by
              first
              | (have y8_ := f142_; exact ai_fr_tr (ai_fr_tr (fr_le f142_ rfl) (ai_fr_aI rfl)) (ai_fr_aI rfl))
              | exact ai_fr_tr (ai_fr_aI rfl) (ai_fr_aI rfl)
            exact rcf_tr hk_ (rcf_fr fT_ rfl)
          · have fT_ : ai_fr (sx_W w118) S_ ((sm_aI (sm_aI S_ 218 0 (2 * i_).toNat (-1)) 218 0 (2 * i_ + 1).toNat (-1))) := by
              first
              | (have y8_ := f142_; exact ai_fr_tr (ai_fr_tr (fr_le f142_ rfl) (ai_fr_aI rfl)) (ai_fr_aI rfl))
              | exact ai_fr_tr (ai_fr_aI rfl) (ai_fr_aI rfl)
            rw [fr_arr (t := 222) (i := 0) fT_ rfl]
            exact ht_
          · have fT_ : ai_fr (sx_W w118) S_ ((sm_aI (sm_aI S_ 218 0 (2 * i_).toNat (-1)) 218 0 (2 * i_ + 1).toNat (-1))) := by
              first
              | (have y8_ := f142_; exact ai_fr_tr (ai_fr_tr (fr_le f142_ rfl) (ai_fr_aI rfl)) (ai_fr_aI rfl))
              | exact ai_fr_tr (ai_fr_aI rfl) (ai_fr_aI rfl)
            exact lgn_cg hl_ (fr_arr fT_ rfl) (fr_arr fT_ rfl) (fr_arr fT_ rfl)
          · have fT_ : ai_fr (sx_W w118) S_ ((sm_aI (sm_aI S_ 218 0 (2 * i_).toNat (-1)) 218 0 (2 * i_ + 1).toNat (-1))) := by
              first
              | (have y8_ := f142_; exact ai_fr_tr (ai_fr_tr (fr_le f142_ rfl) (ai_fr_aI rfl)) (ai_fr_aI rfl))
              | exact ai_fr_tr (ai_fr_aI rfl) (ai_fr_aI rfl)
            intro n9_ u0_ u1_ u2_
            rw [fr_arr (t := 202) (i := 0) fT_ rfl] at u2_
            refine wok2_a (wok2_a ?_)
            first
            | (have y8_ := e142_; by_cases z9_ : n9_ = i_; (subst z9_; exact e142_.1); exact wok2_cg i142_ (hw_ n9_ u0_ (by omega) u2_) e142_.2 (by omega) (by omega) (fr_arr f142_ rfl) (f142_.1 13 0 106 rfl) (f142_.1 13 0 108 rfl) (fr_arr f142_ rfl) (fr_arr f142_ rfl))
            | exact hw_ n9_ u0_ (by (have z9_ : n9_ ≠ i_ := fun z9_ => by (subst z9_; omega)); omega) u2_
          · intro G9_ n9_ u0_ u1_ u2_ u3_
            (try simp only [rd_eq, rd_ne, rf_eq, rf_nk, rf_nt, rd_fa, rd_af, rd_fl, rd_al, rd_lf, rd_la, rd_leq, rd_lne, rd_fr, rd_ar, ne_eq, Nat.reduceEqDiff, not_false_eq_true] at *)
            first
            | (exfalso; omega)
            | (have y8_ := e142_; have u4_ := u3_; rw [g202_] at u2_; rw [g203_] at u3_; by_cases z9_ : n9_ = i_; (subst z9_; omega); (rw [(e142_.2.2 (2 * n9_).toNat (by omega)).1]; exact hgr_ (by omega) n9_ u0_ (by omega) u2_ u3_))
            | (have z9_ : n9_ ≠ i_ := fun z9_ => by (subst z9_; omega)
               exact hgr_ G9_ n9_ u0_ (by omega) u2_ u3_)
          · intro j9_ u0_ u1_
            (try simp only [rd_eq, rd_ne, rf_eq, rf_nk, rf_nt, rd_fa, rd_af, rd_fl, rd_al, rd_lf, rd_la, rd_leq, rd_lne, rd_fr, rd_ar, ne_eq, Nat.reduceEqDiff, not_false_eq_true])
            split
            · rfl
            · split
              · rfl
              · first | (have y8_ := e142_; rw [g218_]; exact hn2_ j9_ u0_ (by omega)) | exact hn2_ j9_ u0_ (by omega)
          · omega
        · have cx4_ : ¬ ((S_.2.2.1 202 0 i_.toNat) = 0) := of_decide_eq_false cx4_
          refine sm_T_go 2 (c1 := (142, [some (.inr (.inr (some (13, 0)))), some (.inl a1_), some (.inl a2_), some (.inl c_), some (.inl gd_), some (.inl i_)], [.inl i_, .inr (.inr (some (13, 0)))], S_)) rfl ?_
          refine sm_T_cal (d1 := 4) (Q1 := vq_407 i_ F_ N_ S_) rfl rfl (by decide) (vc_407 i_ F_ N_ S_ hI_ (by exact f160_) (by omega) (by omega) (by exact hl_)) (fun u_ Sx9_ px12_ => ?_)
          obtain ⟨rfl, hIx10_, hFx11_, px12_⟩ := px12_
          have hFx13_ : ai_fr (sx_W vw_419) S0_ Sx9_ := ai_fr_tr hF_ (fr_le hFx11_ rfl)
          have e142_ := px12_
          have f142_ := hFx11_
          have i142_ : gi Sx9_ := hIx10_
          have g202_ : Sx9_.2.2.1 202 0 = S_.2.2.1 202 0 := fr_arr hFx11_ rfl
          have g203_ : Sx9_.2.2.1 203 0 = S_.2.2.1 203 0 := fr_arr hFx11_ rfl
          have g218_ : Sx9_.2.2.1 218 0 = S_.2.2.1 218 0 := fr_arr hFx11_ rfl
          refine sm_T_go 1 (c1 := (147, [some (.inr (.inr (some (13, 0)))), some (.inl a1_), some (.inl a2_), some (.inl c_), some (.inl gd_), some (.inl i_)], [.inl gd_], Sx9_)) rfl ?_
          refine sm_T_b0 (a := 0) (z := 32) rfl (fun cx14_ => ?_) (fun cx14_ => ?_)
          · have cx14_ : gd_ = 0 := of_decide_eq_true cx14_
            refine sm_T_go 6 (c1 := (189, [some (.inr (.inr (some (13, 0)))), some (.inl a1_), some (.inl a2_), some (.inl c_), some (.inl 0), some (.inl i_)], [.inl i_, .inl 2, .inr (.inr (some (218, 0)))], Sx9_)) rfl ?_
            refine sm_T_bin (w := 2 * i_) rfl (bi_mul (by omega) (by omega) (by omega)) ?_ -- pc_ 189
            refine sm_T_go 1 (c1 := (191, [some (.inr (.inr (some (13, 0)))), some (.inl a1_), some (.inl a2_), some (.inl c_), some (.inl 0), some (.inl i_)], [.inl (-1), .inl (2 * i_), .inr (.inr (some (218, 0)))], Sx9_)) rfl ?_
            refine sm_T_iast (n := 4096) rfl rfl (by omega) (by omega) ?_
            have hIx15_ : gi (sm_aI Sx9_ 218 0 (2 * i_).toNat (-1)) := gi_aI hIx10_ (show (-2) ≤ (-1) ∧ (-1) ≤ 9000 from ⟨by omega, by omega⟩)
            have hFx16_ : ai_fr (sx_W vw_419) S0_ (sm_aI Sx9_ 218 0 (2 * i_).toNat (-1)) := ai_fr_tr hFx13_ (ai_fr_aI rfl)
            refine sm_T_go 4 (c1 := (199, [some (.inr (.inr (some (13, 0)))), some (.inl a1_), some (.inl a2_), some (.inl c_), some (.inl 0), some (.inl i_)], [.inl i_, .inl 2, .inr (.inr (some (218, 0)))], sm_aI Sx9_ 218 0 (2 * i_).toNat (-1))) rfl ?_
            refine sm_T_bin (w := 2 * i_) rfl (bi_mul (by omega) (by omega) (by omega)) ?_ -- pc_ 199
            refine sm_T_go 1 (c1 := (201, [some (.inr (.inr (some (13, 0)))), some (.inl a1_), some (.inl a2_), some (.inl c_), some (.inl 0), some (.inl i_)], [.inl 1, .inl (2 * i_), .inr (.inr (some (218, 0)))], sm_aI Sx9_ 218 0 (2 * i_).toNat (-1))) rfl ?_
            refine sm_T_bin (w := 2 * i_ + 1) rfl (bi_add (by omega) (by omega) (by omega)) ?_ -- pc_ 201
            refine sm_T_go 1 (c1 := (203, [some (.inr (.inr (some (13, 0)))), some (.inl a1_), some (.inl a2_), some (.inl c_), some (.inl 0), some (.inl i_)], [.inl (-1), .inl (2 * i_ + 1), .inr (.inr (some (218, 0)))], sm_aI Sx9_ 218 0 (2 * i_).toNat (-1))) rfl ?_
            refine sm_T_iast (n := 4096) rfl rfl (by omega) (by omega) ?_
            have hIx17_ : gi (sm_aI (sm_aI Sx9_ 218 0 (2 * i_).toNat (-1)) 218 0 (2 * i_ + 1).toNat (-1)) := gi_aI hIx15_ (show (-2) ≤ (-1) ∧ (-1) ≤ 9000 from ⟨by omega, by omega⟩)
            have hFx18_ : ai_fr (sx_W vw_419) S0_ (sm_aI (sm_aI Sx9_ 218 0 (2 * i_).toNat (-1)) 218 0 (2 * i_ + 1).toNat (-1)) := ai_fr_tr hFx16_ (ai_fr_aI rfl)
            refine sm_T_inc (a := 5) (z := 1) (v := i_) (w := i_ + 1) rfl rfl (by omega) (by omega) (by omega) ?_ -- pc_ 204
            refine sm_T_go 1 (c1 := (118, [some (.inr (.inr (some (13, 0)))), some (.inl a1_), some (.inl a2_), some (.inl c_), some (.inl 0), some (.inl (i_ + 1))], [], sm_aI (sm_aI Sx9_ 218 0 (2 * i_).toNat (-1)) 218 0 (2 * i_ + 1).toNat (-1))) rfl ?_
            refine ih_.1 c_ 0 (i_ + 1) (sm_aI (sm_aI Sx9_ 218 0 (2 * i_).toNat (-1)) 218 0 (2 * i_ + 1).toNat (-1)) hIx17_ hFx18_ ⟨?_, ?_, ?_, ?_, ?_, ?_, ?_, ?_, ?_, ?_, ?_, trivial⟩ ?_
            · omega
            · have fT_ : ai_fr (sx_W w118) S_ ((sm_aI (sm_aI Sx9_ 218 0 (2 * i_).toNat (-1)) 218 0 (2 * i_ + 1).toNat (-1))) := by
                first
                | (have y8_ := f142_; exact ai_fr_tr (ai_fr_tr (fr_le f142_ rfl) (ai_fr_aI rfl)) (ai_fr_aI rfl))
                | exact ai_fr_tr (ai_fr_aI rfl) (ai_fr_aI rfl)
              exact dmp_fr hd_ fT_
            · have fT_ : ai_fr (sx_W w118) S_ ((sm_aI (sm_aI Sx9_ 218 0 (2 * i_).toNat (-1)) 218 0 (2 * i_ + 1).toNat (-1))) := by
                first
                | (have y8_ := f142_; exact ai_fr_tr (ai_fr_tr (fr_le f142_ rfl) (ai_fr_aI rfl)) (ai_fr_aI rfl))
                | exact ai_fr_tr (ai_fr_aI rfl) (ai_fr_aI rfl)
              rw [fT_.1 13 0 106 rfl]
              exact hlb_
            · have fT_ : ai_fr (sx_W w118) S_ ((sm_aI (sm_aI Sx9_ 218 0 (2 * i_).toNat (-1)) 218 0 (2 * i_ + 1).toNat (-1))) := by
                first
                | (have y8_ := f142_; exact ai_fr_tr (ai_fr_tr (fr_le f142_ rfl) (ai_fr_aI rfl)) (ai_fr_aI rfl))
                | exact ai_fr_tr (ai_fr_aI rfl) (ai_fr_aI rfl)
              exact rtd_fr hr_ fT_
            · have fT_ : ai_fr (sx_W w118) S_ ((sm_aI (sm_aI Sx9_ 218 0 (2 * i_).toNat (-1)) 218 0 (2 * i_ + 1).toNat (-1))) := by
                first
                | (have y8_ := f142_; exact ai_fr_tr (ai_fr_tr (fr_le f142_ rfl) (ai_fr_aI rfl)) (ai_fr_aI rfl))
                | exact ai_fr_tr (ai_fr_aI rfl) (ai_fr_aI rfl)
              rw [fT_.1 13 0 107 rfl, fT_.1 13 0 106 rfl, fr_arr (t := 185) (i := 0) fT_ rfl]
              exact hiv_
            · have fT_ : ai_fr (sx_W w118) S_ ((sm_aI (sm_aI Sx9_ 218 0 (2 * i_).toNat (-1)) 218 0 (2 * i_ + 1).toNat (-1))) := by
                first
                | (have y8_ := f142_; exact ai_fr_tr (ai_fr_tr (fr_le f142_ rfl) (ai_fr_aI rfl)) (ai_fr_aI rfl))
                | exact ai_fr_tr (ai_fr_aI rfl) (ai_fr_aI rfl)
              exact rcf_tr hk_ (rcf_fr fT_ rfl)
            · have fT_ : ai_fr (sx_W w118) S_ ((sm_aI (sm_aI Sx9_ 218 0 (2 * i_).toNat (-1)) 218 0 (2 * i_ + 1).toNat (-1))) := by
                first
                | (have y8_ := f142_; exact ai_fr_tr (ai_fr_tr (fr_le f142_ rfl) (ai_fr_aI rfl)) (ai_fr_aI rfl))
                | exact ai_fr_tr (ai_fr_aI rfl) (ai_fr_aI rfl)
              rw [fr_arr (t := 222) (i := 0) fT_ rfl]
              exact ht_
            · have fT_ : ai_fr (sx_W w118) S_ ((sm_aI (sm_aI Sx9_ 218 0 (2 * i_).toNat (-1)) 218 0 (2 * i_ + 1).toNat (-1))) := by
                first
                | (have y8_ := f142_; exact ai_fr_tr (ai_fr_tr (fr_le f142_ rfl) (ai_fr_aI rfl)) (ai_fr_aI rfl))
                | exact ai_fr_tr (ai_fr_aI rfl) (ai_fr_aI rfl)
              exact lgn_cg hl_ (fr_arr fT_ rfl) (fr_arr fT_ rfl) (fr_arr fT_ rfl)
            · have fT_ : ai_fr (sx_W w118) S_ ((sm_aI (sm_aI Sx9_ 218 0 (2 * i_).toNat (-1)) 218 0 (2 * i_ + 1).toNat (-1))) := by
                first
                | (have y8_ := f142_; exact ai_fr_tr (ai_fr_tr (fr_le f142_ rfl) (ai_fr_aI rfl)) (ai_fr_aI rfl))
                | exact ai_fr_tr (ai_fr_aI rfl) (ai_fr_aI rfl)
              intro n9_ u0_ u1_ u2_
              rw [fr_arr (t := 202) (i := 0) fT_ rfl] at u2_
              refine wok2_a (wok2_a ?_)
              first
              | (have y8_ := e142_; by_cases z9_ : n9_ = i_; (subst z9_; exact e142_.1); exact wok2_cg i142_ (hw_ n9_ u0_ (by omega) u2_) e142_.2 (by omega) (by omega) (fr_arr f142_ rfl) (f142_.1 13 0 106 rfl) (f142_.1 13 0 108 rfl) (fr_arr f142_ rfl) (fr_arr f142_ rfl))
              | exact hw_ n9_ u0_ (by (have z9_ : n9_ ≠ i_ := fun z9_ => by (subst z9_; omega)); omega) u2_
            · intro G9_ n9_ u0_ u1_ u2_ u3_
              (try simp only [rd_eq, rd_ne, rf_eq, rf_nk, rf_nt, rd_fa, rd_af, rd_fl, rd_al, rd_lf, rd_la, rd_leq, rd_lne, rd_fr, rd_ar, ne_eq, Nat.reduceEqDiff, not_false_eq_true] at *)
              first
              | (exfalso; omega)
              | (have y8_ := e142_; have u4_ := u3_; rw [g202_] at u2_; rw [g203_] at u3_; by_cases z9_ : n9_ = i_; (subst z9_; omega); (rw [(e142_.2.2 (2 * n9_).toNat (by omega)).1]; exact hgr_ (by omega) n9_ u0_ (by omega) u2_ u3_))
              | (have z9_ : n9_ ≠ i_ := fun z9_ => by (subst z9_; omega)
                 exact hgr_ G9_ n9_ u0_ (by omega) u2_ u3_)
            · intro j9_ u0_ u1_
              (try simp only [rd_eq, rd_ne, rf_eq, rf_nk, rf_nt, rd_fa, rd_af, rd_fl, rd_al, rd_lf, rd_la, rd_leq, rd_lne, rd_fr, rd_ar, ne_eq, Nat.reduceEqDiff, not_false_eq_true])
              split
              · rfl
              · split
                · rfl
                · first | (have y8_ := e142_; rw [g218_]; exact hn2_ j9_ u0_ (by omega)) | exact hn2_ j9_ u0_ (by omega)
            · omega
          · have cx14_ : ¬ (gd_ = 0) := of_decide_eq_false cx14_
            refine sm_T_go 3 (c1 := (156, [some (.inr (.inr (some (13, 0)))), some (.inl a1_), some (.inl a2_), some (.inl c_), some (.inl gd_), some (.inl i_)], [.inl i_, .inr (.inr (some (203, 0)))], Sx9_)) rfl ?_
            refine sm_T_zald (n := 2048) rfl rfl (by omega) (by omega) ?_
            have bx19_ : 0 ≤ Sx9_.2.2.1 203 0 i_.toNat ∧ Sx9_.2.2.1 203 0 i_.toNat ≤ 1 := hIx10_.2 203 0 _
            refine sm_T_b0 (a := 0) (z := 18) rfl (fun cx20_ => ?_) (fun cx20_ => ?_)
            · have cx20_ : (Sx9_.2.2.1 203 0 i_.toNat) = 0 := of_decide_eq_true cx20_
              refine sm_T_go 7 (c1 := (189, [some (.inr (.inr (some (13, 0)))), some (.inl a1_), some (.inl a2_), some (.inl c_), some (.inl 1), some (.inl i_)], [.inl i_, .inl 2, .inr (.inr (some (218, 0)))], Sx9_)) rfl ?_
              refine sm_T_bin (w := 2 * i_) rfl (bi_mul (by omega) (by omega) (by omega)) ?_ -- pc_ 189
              refine sm_T_go 1 (c1 := (191, [some (.inr (.inr (some (13, 0)))), some (.inl a1_), some (.inl a2_), some (.inl c_), some (.inl 1), some (.inl i_)], [.inl (-1), .inl (2 * i_), .inr (.inr (some (218, 0)))], Sx9_)) rfl ?_
              refine sm_T_iast (n := 4096) rfl rfl (by omega) (by omega) ?_
              have hIx21_ : gi (sm_aI Sx9_ 218 0 (2 * i_).toNat (-1)) := gi_aI hIx10_ (show (-2) ≤ (-1) ∧ (-1) ≤ 9000 from ⟨by omega, by omega⟩)
              have hFx22_ : ai_fr (sx_W vw_419) S0_ (sm_aI Sx9_ 218 0 (2 * i_).toNat (-1)) := ai_fr_tr hFx13_ (ai_fr_aI rfl)
              refine sm_T_go 4 (c1 := (199, [some (.inr (.inr (some (13, 0)))), some (.inl a1_), some (.inl a2_), some (.inl c_), some (.inl 1), some (.inl i_)], [.inl i_, .inl 2, .inr (.inr (some (218, 0)))], sm_aI Sx9_ 218 0 (2 * i_).toNat (-1))) rfl ?_
              refine sm_T_bin (w := 2 * i_) rfl (bi_mul (by omega) (by omega) (by omega)) ?_ -- pc_ 199
              refine sm_T_go 1 (c1 := (201, [some (.inr (.inr (some (13, 0)))), some (.inl a1_), some (.inl a2_), some (.inl c_), some (.inl 1), some (.inl i_)], [.inl 1, .inl (2 * i_), .inr (.inr (some (218, 0)))], sm_aI Sx9_ 218 0 (2 * i_).toNat (-1))) rfl ?_
              refine sm_T_bin (w := 2 * i_ + 1) rfl (bi_add (by omega) (by omega) (by omega)) ?_ -- pc_ 201
              refine sm_T_go 1 (c1 := (203, [some (.inr (.inr (some (13, 0)))), some (.inl a1_), some (.inl a2_), some (.inl c_), some (.inl 1), some (.inl i_)], [.inl (-1), .inl (2 * i_ + 1), .inr (.inr (some (218, 0)))], sm_aI Sx9_ 218 0 (2 * i_).toNat (-1))) rfl ?_
              refine sm_T_iast (n := 4096) rfl rfl (by omega) (by omega) ?_
              have hIx23_ : gi (sm_aI (sm_aI Sx9_ 218 0 (2 * i_).toNat (-1)) 218 0 (2 * i_ + 1).toNat (-1)) := gi_aI hIx21_ (show (-2) ≤ (-1) ∧ (-1) ≤ 9000 from ⟨by omega, by omega⟩)
              have hFx24_ : ai_fr (sx_W vw_419) S0_ (sm_aI (sm_aI Sx9_ 218 0 (2 * i_).toNat (-1)) 218 0 (2 * i_ + 1).toNat (-1)) := ai_fr_tr hFx22_ (ai_fr_aI rfl)
              refine sm_T_inc (a := 5) (z := 1) (v := i_) (w := i_ + 1) rfl rfl (by omega) (by omega) (by omega) ?_ -- pc_ 204
              refine sm_T_go 1 (c1 := (118, [some (.inr (.inr (some (13, 0)))), some (.inl a1_), some (.inl a2_), some (.inl c_), some (.inl 1), some (.inl (i_ + 1))], [], sm_aI (sm_aI Sx9_ 218 0 (2 * i_).toNat (-1)) 218 0 (2 * i_ + 1).toNat (-1))) rfl ?_
              refine ih_.1 c_ 1 (i_ + 1) (sm_aI (sm_aI Sx9_ 218 0 (2 * i_).toNat (-1)) 218 0 (2 * i_ + 1).toNat (-1)) hIx23_ hFx24_ ⟨?_, ?_, ?_, ?_, ?_, ?_, ?_, ?_, ?_, ?_, ?_, trivial⟩ ?_
              · omega
              · have fT_ : ai_fr (sx_W w118) S_ ((sm_aI (sm_aI Sx9_ 218 0 (2 * i_).toNat (-1)) 218 0 (2 * i_ + 1).toNat (-1))) := by
                  first
                  | (have y8_ := f142_; exact ai_fr_tr (ai_fr_tr (fr_le f142_ rfl) (ai_fr_aI rfl)) (ai_fr_aI rfl))
                  | exact ai_fr_tr (ai_fr_aI rfl) (ai_fr_aI rfl)
                exact dmp_fr hd_ fT_
              · have fT_ : ai_fr (sx_W w118) S_ ((sm_aI (sm_aI Sx9_ 218 0 (2 * i_).toNat (-1)) 218 0 (2 * i_ + 1).toNat (-1))) := by
                  first
                  | (have y8_ := f142_; exact ai_fr_tr (ai_fr_tr (fr_le f142_ rfl) (ai_fr_aI rfl)) (ai_fr_aI rfl))
                  | exact ai_fr_tr (ai_fr_aI rfl) (ai_fr_aI rfl)
                rw [fT_.1 13 0 106 rfl]
                exact hlb_
              · have fT_ : ai_fr (sx_W w118) S_ ((sm_aI (sm_aI Sx9_ 218 0 (2 * i_).toNat (-1)) 218 0 (2 * i_ + 1).toNat (-1))) := by
                  first
                  | (have y8_ := f142_; exact ai_fr_tr (ai_fr_tr (fr_le f142_ rfl) (ai_fr_aI rfl)) (ai_fr_aI rfl))
                  | exact ai_fr_tr (ai_fr_aI rfl) (ai_fr_aI rfl)
                exact rtd_fr hr_ fT_
              · have fT_ : ai_fr (sx_W w118) S_ ((sm_aI (sm_aI Sx9_ 218 0 (2 * i_).toNat (-1)) 218 0 (2 * i_ + 1).toNat (-1))) := by
                  first
                  | (have y8_ := f142_; exact ai_fr_tr (ai_fr_tr (fr_le f142_ rfl) (ai_fr_aI rfl)) (ai_fr_aI rfl))
                  | exact ai_fr_tr (ai_fr_aI rfl) (ai_fr_aI rfl)
                rw [fT_.1 13 0 107 rfl, fT_.1 13 0 106 rfl, fr_arr (t := 185) (i := 0) fT_ rfl]
                exact hiv_
              · have fT_ : ai_fr (sx_W w118) S_ ((sm_aI (sm_aI Sx9_ 218 0 (2 * i_).toNat (-1)) 218 0 (2 * i_ + 1).toNat (-1))) := by
                  first
                  | (have y8_ := f142_; exact ai_fr_tr (ai_fr_tr (fr_le f142_ rfl) (ai_fr_aI rfl)) (ai_fr_aI rfl))
                  | exact ai_fr_tr (ai_fr_aI rfl) (ai_fr_aI rfl)
                exact rcf_tr hk_ (rcf_fr fT_ rfl)
              · have fT_ : ai_fr (sx_W w118) S_ ((sm_aI (sm_aI Sx9_ 218 0 (2 * i_).toNat (-1)) 218 0 (2 * i_ + 1).toNat (-1))) := by
                  first
                  | (have y8_ := f142_; exact ai_fr_tr (ai_fr_tr (fr_le f142_ rfl) (ai_fr_aI rfl)) (ai_fr_aI rfl))
                  | exact ai_fr_tr (ai_fr_aI rfl) (ai_fr_aI rfl)
                rw [fr_arr (t := 222) (i := 0) fT_ rfl]
                exact ht_
              · have fT_ : ai_fr (sx_W w118) S_ ((sm_aI (sm_aI Sx9_ 218 0 (2 * i_).toNat (-1)) 218 0 (2 * i_ + 1).toNat (-1))) := by
                  first
                  | (have y8_ := f142_; exact ai_fr_tr (ai_fr_tr (fr_le f142_ rfl) (ai_fr_aI rfl)) (ai_fr_aI rfl))
                  | exact ai_fr_tr (ai_fr_aI rfl) (ai_fr_aI rfl)
                exact lgn_cg hl_ (fr_arr fT_ rfl) (fr_arr fT_ rfl) (fr_arr fT_ rfl)
              · have fT_ : ai_fr (sx_W w118) S_ ((sm_aI (sm_aI Sx9_ 218 0 (2 * i_).toNat (-1)) 218 0 (2 * i_ + 1).toNat (-1))) := by
                  first
                  | (have y8_ := f142_; exact ai_fr_tr (ai_fr_tr (fr_le f142_ rfl) (ai_fr_aI rfl)) (ai_fr_aI rfl))
                  | exact ai_fr_tr (ai_fr_aI rfl) (ai_fr_aI rfl)
                intro n9_ u0_ u1_ u2_
                rw [fr_arr (t := 202) (i := 0) fT_ rfl] at u2_
                refine wok2_a (wok2_a ?_)
                first
                | (have y8_ := e142_; by_cases z9_ : n9_ = i_; (subst z9_; exact e142_.1); exact wok2_cg i142_ (hw_ n9_ u0_ (by omega) u2_) e142_.2 (by omega) (by omega) (fr_arr f142_ rfl) (f142_.1 13 0 106 rfl) (f142_.1 13 0 108 rfl) (fr_arr f142_ rfl) (fr_arr f142_ rfl))
                | exact hw_ n9_ u0_ (by (have z9_ : n9_ ≠ i_ := fun z9_ => by (subst z9_; omega)); omega) u2_
              · intro G9_ n9_ u0_ u1_ u2_ u3_
                (try simp only [rd_eq, rd_ne, rf_eq, rf_nk, rf_nt, rd_fa, rd_af, rd_fl, rd_al, rd_lf, rd_la, rd_leq, rd_lne, rd_fr, rd_ar, ne_eq, Nat.reduceEqDiff, not_false_eq_true] at *)
                first
                | (exfalso; omega)
                | (have y8_ := e142_; have u4_ := u3_; rw [g202_] at u2_; rw [g203_] at u3_; by_cases z9_ : n9_ = i_; (subst z9_; omega); (rw [(e142_.2.2 (2 * n9_).toNat (by omega)).1]; exact hgr_ (by omega) n9_ u0_ (by omega) u2_ u3_))
                | (have z9_ : n9_ ≠ i_ := fun z9_ => by (subst z9_; omega)
                   exact hgr_ G9_ n9_ u0_ (by omega) u2_ u3_)
              · intro j9_ u0_ u1_
                (try simp only [rd_eq, rd_ne, rf_eq, rf_nk, rf_nt, rd_fa, rd_af, rd_fl, rd_al, rd_lf, rd_la, rd_leq, rd_lne, rd_fr, rd_ar, ne_eq, Nat.reduceEqDiff, not_false_eq_true])
                split
                · rfl
                · split
                  · rfl
                  · first | (have y8_ := e142_; rw [g218_]; exact hn2_ j9_ u0_ (by omega)) | exact hn2_ j9_ u0_ (by omega)
              · omega
            · have cx20_ : ¬ ((Sx9_.2.2.1 203 0 i_.toNat) = 0) := of_decide_eq_false cx20_
              refine sm_T_go 4 (c1 := (167, [some (.inr (.inr (some (13, 0)))), some (.inl a1_), some (.inl a2_), some (.inl c_), some (.inl gd_), some (.inl i_)], [.inl i_, .inl 2, .inr (.inr (some (210, 0)))], Sx9_)) rfl ?_
              refine sm_T_bin (w := 2 * i_) rfl (bi_mul (by omega) (by omega) (by omega)) ?_ -- pc_ 167
              refine sm_T_iald (n := 4096) rfl rfl (by omega) (by omega) ?_
              have bx25_ : 0 ≤ Sx9_.2.2.1 210 0 (2 * i_).toNat ∧ Sx9_.2.2.1 210 0 (2 * i_).toNat ≤ 1000000000 := hIx10_.2 210 0 _
              refine sm_T_nt (u := some (.inl 1000000000)) (S1 := Sx9_) rfl rfl rfl ?_
              refine sm_T_br (a := 3) (z := 7) rfl (fun cx26_ => ?_) (fun cx26_ => ?_)
              · have cx26_ : 1000000000 ≤ (Sx9_.2.2.1 210 0 (2 * i_).toNat) := of_decide_eq_true cx26_
                refine sm_T_go 6 (c1 := (189, [some (.inr (.inr (some (13, 0)))), some (.inl a1_), some (.inl a2_), some (.inl c_), some (.inl 0), some (.inl i_)], [.inl i_, .inl 2, .inr (.inr (some (218, 0)))], Sx9_)) rfl ?_
                refine sm_T_bin (w := 2 * i_) rfl (bi_mul (by omega) (by omega) (by omega)) ?_ -- pc_ 189
                refine sm_T_go 1 (c1 := (191, [some (.inr (.inr (some (13, 0)))), some (.inl a1_), some (.inl a2_), some (.inl c_), some (.inl 0), some (.inl i_)], [.inl (-1), .inl (2 * i_), .inr (.inr (some (218, 0)))], Sx9_)) rfl ?_
                refine sm_T_iast (n := 4096) rfl rfl (by omega) (by omega) ?_
                have hIx27_ : gi (sm_aI Sx9_ 218 0 (2 * i_).toNat (-1)) := gi_aI hIx10_ (show (-2) ≤ (-1) ∧ (-1) ≤ 9000 from ⟨by omega, by omega⟩)
                have hFx28_ : ai_fr (sx_W vw_419) S0_ (sm_aI Sx9_ 218 0 (2 * i_).toNat (-1)) := ai_fr_tr hFx13_ (ai_fr_aI rfl)
                refine sm_T_go 4 (c1 := (199, [some (.inr (.inr (some (13, 0)))), some (.inl a1_), some (.inl a2_), some (.inl c_), some (.inl 0), some (.inl i_)], [.inl i_, .inl 2, .inr (.inr (some (218, 0)))], sm_aI Sx9_ 218 0 (2 * i_).toNat (-1))) rfl ?_
                refine sm_T_bin (w := 2 * i_) rfl (bi_mul (by omega) (by omega) (by omega)) ?_ -- pc_ 199
                refine sm_T_go 1 (c1 := (201, [some (.inr (.inr (some (13, 0)))), some (.inl a1_), some (.inl a2_), some (.inl c_), some (.inl 0), some (.inl i_)], [.inl 1, .inl (2 * i_), .inr (.inr (some (218, 0)))], sm_aI Sx9_ 218 0 (2 * i_).toNat (-1))) rfl ?_
                refine sm_T_bin (w := 2 * i_ + 1) rfl (bi_add (by omega) (by omega) (by omega)) ?_ -- pc_ 201
                refine sm_T_go 1 (c1 := (203, [some (.inr (.inr (some (13, 0)))), some (.inl a1_), some (.inl a2_), some (.inl c_), some (.inl 0), some (.inl i_)], [.inl (-1), .inl (2 * i_ + 1), .inr (.inr (some (218, 0)))], sm_aI Sx9_ 218 0 (2 * i_).toNat (-1))) rfl ?_
                refine sm_T_iast (n := 4096) rfl rfl (by omega) (by omega) ?_
                have hIx29_ : gi (sm_aI (sm_aI Sx9_ 218 0 (2 * i_).toNat (-1)) 218 0 (2 * i_ + 1).toNat (-1)) := gi_aI hIx27_ (show (-2) ≤ (-1) ∧ (-1) ≤ 9000 from ⟨by omega, by omega⟩)
                have hFx30_ : ai_fr (sx_W vw_419) S0_ (sm_aI (sm_aI Sx9_ 218 0 (2 * i_).toNat (-1)) 218 0 (2 * i_ + 1).toNat (-1)) := ai_fr_tr hFx28_ (ai_fr_aI rfl)
                refine sm_T_inc (a := 5) (z := 1) (v := i_) (w := i_ + 1) rfl rfl (by omega) (by omega) (by omega) ?_ -- pc_ 204
                refine sm_T_go 1 (c1 := (118, [some (.inr (.inr (some (13, 0)))), some (.inl a1_), some (.inl a2_), some (.inl c_), some (.inl 0), some (.inl (i_ + 1))], [], sm_aI (sm_aI Sx9_ 218 0 (2 * i_).toNat (-1)) 218 0 (2 * i_ + 1).toNat (-1))) rfl ?_
                refine ih_.1 c_ 0 (i_ + 1) (sm_aI (sm_aI Sx9_ 218 0 (2 * i_).toNat (-1)) 218 0 (2 * i_ + 1).toNat (-1)) hIx29_ hFx30_ ⟨?_, ?_, ?_, ?_, ?_, ?_, ?_, ?_, ?_, ?_, ?_, trivial⟩ ?_
                · omega
                · have fT_ : ai_fr (sx_W w118) S_ ((sm_aI (sm_aI Sx9_ 218 0 (2 * i_).toNat (-1)) 218 0 (2 * i_ + 1).toNat (-1))) := by
                    first
                    | (have y8_ := f142_; exact ai_fr_tr (ai_fr_tr (fr_le f142_ rfl) (ai_fr_aI rfl)) (ai_fr_aI rfl))
                    | exact ai_fr_tr (ai_fr_aI rfl) (ai_fr_aI rfl)
                  exact dmp_fr hd_ fT_
                · have fT_ : ai_fr (sx_W w118) S_ ((sm_aI (sm_aI Sx9_ 218 0 (2 * i_).toNat (-1)) 218 0 (2 * i_ + 1).toNat (-1))) := by
                    first
                    | (have y8_ := f142_; exact ai_fr_tr (ai_fr_tr (fr_le f142_ rfl) (ai_fr_aI rfl)) (ai_fr_aI rfl))
                    | exact ai_fr_tr (ai_fr_aI rfl) (ai_fr_aI rfl)
                  rw [fT_.1 13 0 106 rfl]
                  exact hlb_
                · have fT_ : ai_fr (sx_W w118) S_ ((sm_aI (sm_aI Sx9_ 218 0 (2 * i_).toNat (-1)) 218 0 (2 * i_ + 1).toNat (-1))) := by
                    first
                    | (have y8_ := f142_; exact ai_fr_tr (ai_fr_tr (fr_le f142_ rfl) (ai_fr_aI rfl)) (ai_fr_aI rfl))
                    | exact ai_fr_tr (ai_fr_aI rfl) (ai_fr_aI rfl)
                  exact rtd_fr hr_ fT_
                · have fT_ : ai_fr (sx_W w118) S_ ((sm_aI (sm_aI Sx9_ 218 0 (2 * i_).toNat (-1)) 218 0 (2 * i_ + 1).toNat (-1))) := by
                    first
                    | (have y8_ := f142_; exact ai_fr_tr (ai_fr_tr (fr_le f142_ rfl) (ai_fr_aI rfl)) (ai_fr_aI rfl))
                    | exact ai_fr_tr (ai_fr_aI rfl) (ai_fr_aI rfl)
                  rw [fT_.1 13 0 107 rfl, fT_.1 13 0 106 rfl, fr_arr (t := 185) (i := 0) fT_ rfl]
                  exact hiv_
                · have fT_ : ai_fr (sx_W w118) S_ ((sm_aI (sm_aI Sx9_ 218 0 (2 * i_).toNat (-1)) 218 0 (2 * i_ + 1).toNat (-1))) := by
                    first
                    | (have y8_ := f142_; exact ai_fr_tr (ai_fr_tr (fr_le f142_ rfl) (ai_fr_aI rfl)) (ai_fr_aI rfl))
                    | exact ai_fr_tr (ai_fr_aI rfl) (ai_fr_aI rfl)
                  exact rcf_tr hk_ (rcf_fr fT_ rfl)
                · have fT_ : ai_fr (sx_W w118) S_ ((sm_aI (sm_aI Sx9_ 218 0 (2 * i_).toNat (-1)) 218 0 (2 * i_ + 1).toNat (-1))) := by
                    first
                    | (have y8_ := f142_; exact ai_fr_tr (ai_fr_tr (fr_le f142_ rfl) (ai_fr_aI rfl)) (ai_fr_aI rfl))
                    | exact ai_fr_tr (ai_fr_aI rfl) (ai_fr_aI rfl)
                  rw [fr_arr (t := 222) (i := 0) fT_ rfl]
                  exact ht_
                · have fT_ : ai_fr (sx_W w118) S_ ((sm_aI (sm_aI Sx9_ 218 0 (2 * i_).toNat (-1)) 218 0 (2 * i_ + 1).toNat (-1))) := by
                    first
                    | (have y8_ := f142_; exact ai_fr_tr (ai_fr_tr (fr_le f142_ rfl) (ai_fr_aI rfl)) (ai_fr_aI rfl))
                    | exact ai_fr_tr (ai_fr_aI rfl) (ai_fr_aI rfl)
                  exact lgn_cg hl_ (fr_arr fT_ rfl) (fr_arr fT_ rfl) (fr_arr fT_ rfl)
                · have fT_ : ai_fr (sx_W w118) S_ ((sm_aI (sm_aI Sx9_ 218 0 (2 * i_).toNat (-1)) 218 0 (2 * i_ + 1).toNat (-1))) := by
                    first
                    | (have y8_ := f142_; exact ai_fr_tr (ai_fr_tr (fr_le f142_ rfl) (ai_fr_aI rfl)) (ai_fr_aI rfl))
                    | exact ai_fr_tr (ai_fr_aI rfl) (ai_fr_aI rfl)
                  intro n9_ u0_ u1_ u2_
                  rw [fr_arr (t := 202) (i := 0) fT_ rfl] at u2_
                  refine wok2_a (wok2_a ?_)
                  first
                  | (have y8_ := e142_; by_cases z9_ : n9_ = i_; (subst z9_; exact e142_.1); exact wok2_cg i142_ (hw_ n9_ u0_ (by omega) u2_) e142_.2 (by omega) (by omega) (fr_arr f142_ rfl) (f142_.1 13 0 106 rfl) (f142_.1 13 0 108 rfl) (fr_arr f142_ rfl) (fr_arr f142_ rfl))
                  | exact hw_ n9_ u0_ (by (have z9_ : n9_ ≠ i_ := fun z9_ => by (subst z9_; omega)); omega) u2_
                · intro G9_ n9_ u0_ u1_ u2_ u3_
                  (try simp only [rd_eq, rd_ne, rf_eq, rf_nk, rf_nt, rd_fa, rd_af, rd_fl, rd_al, rd_lf, rd_la, rd_leq, rd_lne, rd_fr, rd_ar, ne_eq, Nat.reduceEqDiff, not_false_eq_true] at *)
                  first
                  | (exfalso; omega)
                  | (have y8_ := e142_; have u4_ := u3_; rw [g202_] at u2_; rw [g203_] at u3_; by_cases z9_ : n9_ = i_; (subst z9_; omega); (rw [(e142_.2.2 (2 * n9_).toNat (by omega)).1]; exact hgr_ (by omega) n9_ u0_ (by omega) u2_ u3_))
                  | (have z9_ : n9_ ≠ i_ := fun z9_ => by (subst z9_; omega)
                     exact hgr_ G9_ n9_ u0_ (by omega) u2_ u3_)
                · intro j9_ u0_ u1_
                  (try simp only [rd_eq, rd_ne, rf_eq, rf_nk, rf_nt, rd_fa, rd_af, rd_fl, rd_al, rd_lf, rd_la, rd_leq, rd_lne, rd_fr, rd_ar, ne_eq, Nat.reduceEqDiff, not_false_eq_true])
                  split
                  · rfl
                  · split
                    · rfl
                    · first | (have y8_ := e142_; rw [g218_]; exact hn2_ j9_ u0_ (by omega)) | exact hn2_ j9_ u0_ (by omega)
                · omega
              · have cx26_ : ¬ (1000000000 ≤ (Sx9_.2.2.1 210 0 (2 * i_).toNat)) := of_decide_eq_false cx26_
                refine sm_T_go 7 (c1 := (189, [some (.inr (.inr (some (13, 0)))), some (.inl a1_), some (.inl a2_), some (.inl c_), some (.inl 1), some (.inl i_)], [.inl i_, .inl 2, .inr (.inr (some (218, 0)))], Sx9_)) rfl ?_
                refine sm_T_bin (w := 2 * i_) rfl (bi_mul (by omega) (by omega) (by omega)) ?_ -- pc_ 189
                refine sm_T_go 1 (c1 := (191, [some (.inr (.inr (some (13, 0)))), some (.inl a1_), some (.inl a2_), some (.inl c_), some (.inl 1), some (.inl i_)], [.inl (-1), .inl (2 * i_), .inr (.inr (some (218, 0)))], Sx9_)) rfl ?_
                refine sm_T_iast (n := 4096) rfl rfl (by omega) (by omega) ?_
                have hIx31_ : gi (sm_aI Sx9_ 218 0 (2 * i_).toNat (-1)) := gi_aI hIx10_ (show (-2) ≤ (-1) ∧ (-1) ≤ 9000 from ⟨by omega, by omega⟩)
                have hFx32_ : ai_fr (sx_W vw_419) S0_ (sm_aI Sx9_ 218 0 (2 * i_).toNat (-1)) := ai_fr_tr hFx13_ (ai_fr_aI rfl)
                refine sm_T_go 4 (c1 := (199, [some (.inr (.inr (some (13, 0)))), some (.inl a1_), some (.inl a2_), some (.inl c_), some (.inl 1), some (.inl i_)], [.inl i_, .inl 2, .inr (.inr (some (218, 0)))], sm_aI Sx9_ 218 0 (2 * i_).toNat (-1))) rfl ?_
                refine sm_T_bin (w := 2 * i_) rfl (bi_mul (by omega) (by omega) (by omega)) ?_ -- pc_ 199
                refine sm_T_go 1 (c1 := (201, [some (.inr (.inr (some (13, 0)))), some (.inl a1_), some (.inl a2_), some (.inl c_), some (.inl 1), some (.inl i_)], [.inl 1, .inl (2 * i_), .inr (.inr (some (218, 0)))], sm_aI Sx9_ 218 0 (2 * i_).toNat (-1))) rfl ?_
                refine sm_T_bin (w := 2 * i_ + 1) rfl (bi_add (by omega) (by omega) (by omega)) ?_ -- pc_ 201
                refine sm_T_go 1 (c1 := (203, [some (.inr (.inr (some (13, 0)))), some (.inl a1_), some (.inl a2_), some (.inl c_), some (.inl 1), some (.inl i_)], [.inl (-1), .inl (2 * i_ + 1), .inr (.inr (some (218, 0)))], sm_aI Sx9_ 218 0 (2 * i_).toNat (-1))) rfl ?_
                refine sm_T_iast (n := 4096) rfl rfl (by omega) (by omega) ?_
                have hIx33_ : gi (sm_aI (sm_aI Sx9_ 218 0 (2 * i_).toNat (-1)) 218 0 (2 * i_ + 1).toNat (-1)) := gi_aI hIx31_ (show (-2) ≤ (-1) ∧ (-1) ≤ 9000 from ⟨by omega, by omega⟩)
                have hFx34_ : ai_fr (sx_W vw_419) S0_ (sm_aI (sm_aI Sx9_ 218 0 (2 * i_).toNat (-1)) 218 0 (2 * i_ + 1).toNat (-1)) := ai_fr_tr hFx32_ (ai_fr_aI rfl)
                refine sm_T_inc (a := 5) (z := 1) (v := i_) (w := i_ + 1) rfl rfl (by omega) (by omega) (by omega) ?_ -- pc_ 204
                refine sm_T_go 1 (c1 := (118, [some (.inr (.inr (some (13, 0)))), some (.inl a1_), some (.inl a2_), some (.inl c_), some (.inl 1), some (.inl (i_ + 1))], [], sm_aI (sm_aI Sx9_ 218 0 (2 * i_).toNat (-1)) 218 0 (2 * i_ + 1).toNat (-1))) rfl ?_
                refine ih_.1 c_ 1 (i_ + 1) (sm_aI (sm_aI Sx9_ 218 0 (2 * i_).toNat (-1)) 218 0 (2 * i_ + 1).toNat (-1)) hIx33_ hFx34_ ⟨?_, ?_, ?_, ?_, ?_, ?_, ?_, ?_, ?_, ?_, ?_, trivial⟩ ?_
                · omega
                · have fT_ : ai_fr (sx_W w118) S_ ((sm_aI (sm_aI Sx9_ 218 0 (2 * i_).toNat (-1)) 218 0 (2 * i_ + 1).toNat (-1))) := by
                    first
                    | (have y8_ := f142_; exact ai_fr_tr (ai_fr_tr (fr_le f142_ rfl) (ai_fr_aI rfl)) (ai_fr_aI rfl))
                    | exact ai_fr_tr (ai_fr_aI rfl) (ai_fr_aI rfl)
                  exact dmp_fr hd_ fT_
                · have fT_ : ai_fr (sx_W w118) S_ ((sm_aI (sm_aI Sx9_ 218 0 (2 * i_).toNat (-1)) 218 0 (2 * i_ + 1).toNat (-1))) := by
                    first
                    | (have y8_ := f142_; exact ai_fr_tr (ai_fr_tr (fr_le f142_ rfl) (ai_fr_aI rfl)) (ai_fr_aI rfl))
                    | exact ai_fr_tr (ai_fr_aI rfl) (ai_fr_aI rfl)
                  rw [fT_.1 13 0 106 rfl]
                  exact hlb_
                · have fT_ : ai_fr (sx_W w118) S_ ((sm_aI (sm_aI Sx9_ 218 0 (2 * i_).toNat (-1)) 218 0 (2 * i_ + 1).toNat (-1))) := by
                    first
                    | (have y8_ := f142_; exact ai_fr_tr (ai_fr_tr (fr_le f142_ rfl) (ai_fr_aI rfl)) (ai_fr_aI rfl))
                    | exact ai_fr_tr (ai_fr_aI rfl) (ai_fr_aI rfl)
                  exact rtd_fr hr_ fT_
                · have fT_ : ai_fr (sx_W w118) S_ ((sm_aI (sm_aI Sx9_ 218 0 (2 * i_).toNat (-1)) 218 0 (2 * i_ + 1).toNat (-1))) := by
                    first
                    | (have y8_ := f142_; exact ai_fr_tr (ai_fr_tr (fr_le f142_ rfl) (ai_fr_aI rfl)) (ai_fr_aI rfl))
                    | exact ai_fr_tr (ai_fr_aI rfl) (ai_fr_aI rfl)
                  rw [fT_.1 13 0 107 rfl, fT_.1 13 0 106 rfl, fr_arr (t := 185) (i := 0) fT_ rfl]
                  exact hiv_
                · have fT_ : ai_fr (sx_W w118) S_ ((sm_aI (sm_aI Sx9_ 218 0 (2 * i_).toNat (-1)) 218 0 (2 * i_ + 1).toNat (-1))) := by
                    first
                    | (have y8_ := f142_; exact ai_fr_tr (ai_fr_tr (fr_le f142_ rfl) (ai_fr_aI rfl)) (ai_fr_aI rfl))
                    | exact ai_fr_tr (ai_fr_aI rfl) (ai_fr_aI rfl)
                  exact rcf_tr hk_ (rcf_fr fT_ rfl)
                · have fT_ : ai_fr (sx_W w118) S_ ((sm_aI (sm_aI Sx9_ 218 0 (2 * i_).toNat (-1)) 218 0 (2 * i_ + 1).toNat (-1))) := by
                    first
                    | (have y8_ := f142_; exact ai_fr_tr (ai_fr_tr (fr_le f142_ rfl) (ai_fr_aI rfl)) (ai_fr_aI rfl))
                    | exact ai_fr_tr (ai_fr_aI rfl) (ai_fr_aI rfl)
                  rw [fr_arr (t := 222) (i := 0) fT_ rfl]
                  exact ht_
                · have fT_ : ai_fr (sx_W w118) S_ ((sm_aI (sm_aI Sx9_ 218 0 (2 * i_).toNat (-1)) 218 0 (2 * i_ + 1).toNat (-1))) := by
                    first
                    | (have y8_ := f142_; exact ai_fr_tr (ai_fr_tr (fr_le f142_ rfl) (ai_fr_aI rfl)) (ai_fr_aI rfl))
                    | exact ai_fr_tr (ai_fr_aI rfl) (ai_fr_aI rfl)
                  exact lgn_cg hl_ (fr_arr fT_ rfl) (fr_arr fT_ rfl) (fr_arr fT_ rfl)
                · have fT_ : ai_fr (sx_W w118) S_ ((sm_aI (sm_aI Sx9_ 218 0 (2 * i_).toNat (-1)) 218 0 (2 * i_ + 1).toNat (-1))) := by
                    first
                    | (have y8_ := f142_; exact ai_fr_tr (ai_fr_tr (fr_le f142_ rfl) (ai_fr_aI rfl)) (ai_fr_aI rfl))
                    | exact ai_fr_tr (ai_fr_aI rfl) (ai_fr_aI rfl)
                  intro n9_ u0_ u1_ u2_
                  rw [fr_arr (t := 202) (i := 0) fT_ rfl] at u2_
                  refine wok2_a (wok2_a ?_)
                  first
                  | (have y8_ := e142_; by_cases z9_ : n9_ = i_; (subst z9_; exact e142_.1); exact wok2_cg i142_ (hw_ n9_ u0_ (by omega) u2_) e142_.2 (by omega) (by omega) (fr_arr f142_ rfl) (f142_.1 13 0 106 rfl) (f142_.1 13 0 108 rfl) (fr_arr f142_ rfl) (fr_arr f142_ rfl))
                  | exact hw_ n9_ u0_ (by (have z9_ : n9_ ≠ i_ := fun z9_ => by (subst z9_; omega)); omega) u2_
                · intro G9_ n9_ u0_ u1_ u2_ u3_
                  (try simp only [rd_eq, rd_ne, rf_eq, rf_nk, rf_nt, rd_fa, rd_af, rd_fl, rd_al, rd_lf, rd_la, rd_leq, rd_lne, rd_fr, rd_ar, ne_eq, Nat.reduceEqDiff, not_false_eq_true] at *)
                  first
                  | (exfalso; omega)
                  | (have y8_ := e142_; have u4_ := u3_; rw [g202_] at u2_; rw [g203_] at u3_; by_cases z9_ : n9_ = i_; (subst z9_; omega); (rw [(e142_.2.2 (2 * n9_).toNat (by omega)).1]; exact hgr_ (by omega) n9_ u0_ (by omega) u2_ u3_))
                  | (have z9_ : n9_ ≠ i_ := fun z9_ => by (subst z9_; omega)
                     exact hgr_ G9_ n9_ u0_ (by omega) u2_ u3_)
                · intro j9_ u0_ u1_
                  (try simp only [rd_eq, rd_ne, rf_eq, rf_nk, rf_nt, rd_fa, rd_af, rd_fl, rd_al, rd_lf, rd_la, rd_leq, rd_lne, rd_fr, rd_ar, ne_eq, Nat.reduceEqDiff, not_false_eq_true])
                  split
                  · rfl
                  · split
                    · rfl
                    · first | (have y8_ := e142_; rw [g218_]; exact hn2_ j9_ u0_ (by omega)) | exact hn2_ j9_ u0_ (by omega)
                · omega
    · rintro c_ gd_ i_ S_ hI_ hF_ ⟨h0_, hd_, hlb_, hr_, hiv_, hk_, ht_, hal_, hgd_, hn2_, hn3_, -⟩ hm_
      have d1_ := hd_.1
      have f160_ : S_.2.2.1 160 0 (S_.1 13 0 105).toNat = F_ := by (rw [d1_.2.2.1]; exact d1_.2.2.2.1)
      have c156_ : 0 ≤ S_.2.2.1 156 0 a1_.toNat ∧ S_.2.2.1 156 0 a1_.toNat ≤ 16 := hI_.2 156 0 _
      have c155_ : 0 ≤ S_.2.2.1 155 0 a1_.toNat ∧ S_.2.2.1 155 0 a1_.toNat ≤ 6 := hI_.2 155 0 _
      have c134_ : 0 ≤ S_.1 13 0 134 ∧ S_.1 13 0 134 ≤ 1 := hI_.1 13 0 134 rfl
      have c106_ : 0 ≤ S_.1 13 0 106 ∧ S_.1 13 0 106 ≤ 2 := hI_.1 13 0 106 rfl
      refine sm_T_go 4 (c1 := (220, [some (.inr (.inr (some (13, 0)))), some (.inl a1_), some (.inl a2_), some (.inl c_), some (.inl gd_), some (.inl i_)], [.inl a1_, .inr (.inr (some (159, 0))), .inl i_], S_)) rfl ?_
      refine sm_T_iald (n := 6) rfl rfl (by omega) (by omega) ?_
      have bx1_ : 0 ≤ S_.2.2.1 159 0 a1_.toNat ∧ S_.2.2.1 159 0 a1_.toNat ≤ 1013 := hI_.2 159 0 _
      refine sm_T_br (a := 3) (z := 17) rfl (fun cx2_ => ?_) (fun cx2_ => ?_)
      · have cx2_ : (S_.2.2.1 159 0 a1_.toNat) ≤ i_ := of_decide_eq_true cx2_
        have hIx3_ : gi (sm_pI S_ 13 0 129 0) := gi_pI hI_ (show 0 ≤ 0 ∧ 0 ≤ 8191 from ⟨by omega, by omega⟩)
        have hFx4_ : ai_fr (sx_W vw_419) S0_ (sm_pI S_ 13 0 129 0) := ai_fr_tr hF_ (ai_fr_pI rfl)
        have hIx5_ : gi (sm_pI (sm_pI S_ 13 0 129 0) 13 0 134 0) := gi_pI hIx3_ (show 0 ≤ 0 ∧ 0 ≤ 1 from ⟨by omega, by omega⟩)
        have hFx6_ : ai_fr (sx_W vw_419) S0_ (sm_pI (sm_pI S_ 13 0 129 0) 13 0 134 0) := ai_fr_tr hFx4_ (ai_fr_pI rfl)
        refine sm_T_go 8 (c1 := (251, [some (.inr (.inr (some (13, 0)))), some (.inl a1_), some (.inl a2_), some (.inl c_), some (.inl gd_), some (.inl 0)], [], sm_pI (sm_pI S_ 13 0 129 0) 13 0 134 0)) rfl ?_
        refine ih_.2.2.1 c_ gd_ 0 (sm_pI (sm_pI S_ 13 0 129 0) 13 0 134 0) hIx5_ hFx6_ ⟨?_, ?_, ?_, ?_, ?_, ?_, ?_, ?_, ?_, ?_, ?_, trivial⟩ ?_
        · have fT_ : ai_fr (sx_W ([(13, 129), (13, 134)], [], [])) S_ ((sm_pI (sm_pI S_ 13 0 129 0) 13 0 134 0)) := ai_fr_tr (ai_fr_pI rfl) (ai_fr_pI rfl)
          rw [fr_arr (t := 156) (i := 0) fT_ rfl]
          omega
        · have fT_ : ai_fr (sx_W ([(13, 129), (13, 134)], [], [])) S_ ((sm_pI (sm_pI S_ 13 0 129 0) 13 0 134 0)) := ai_fr_tr (ai_fr_pI rfl) (ai_fr_pI rfl)
          exact dmp_fr hd_ fT_
        · have fT_ : ai_fr (sx_W ([(13, 129), (13, 134)], [], [])) S_ ((sm_pI (sm_pI S_ 13 0 129 0) 13 0 134 0)) := ai_fr_tr (ai_fr_pI rfl) (ai_fr_pI rfl)
          rw [fT_.1 13 0 106 rfl]
          exact hlb_
        · have fT_ : ai_fr (sx_W ([(13, 129), (13, 134)], [], [])) S_ ((sm_pI (sm_pI S_ 13 0 129 0) 13 0 134 0)) := ai_fr_tr (ai_fr_pI rfl) (ai_fr_pI rfl)
          exact rtd_fr hr_ fT_
        · have fT_ : ai_fr (sx_W ([(13, 129), (13, 134)], [], [])) S_ ((sm_pI (sm_pI S_ 13 0 129 0) 13 0 134 0)) := ai_fr_tr (ai_fr_pI rfl) (ai_fr_pI rfl)
          rw [fT_.1 13 0 107 rfl, fT_.1 13 0 106 rfl, fr_arr (t := 185) (i := 0) fT_ rfl]
          exact hiv_
        · have fT_ : ai_fr (sx_W ([(13, 129), (13, 134)], [], [])) S_ ((sm_pI (sm_pI S_ 13 0 129 0) 13 0 134 0)) := ai_fr_tr (ai_fr_pI rfl) (ai_fr_pI rfl)
          exact rcf_tr hk_ (rcf_fr fT_ rfl)
        · have fT_ : ai_fr (sx_W ([(13, 129), (13, 134)], [], [])) S_ ((sm_pI (sm_pI S_ 13 0 129 0) 13 0 134 0)) := ai_fr_tr (ai_fr_pI rfl) (ai_fr_pI rfl)
          rw [fr_arr (t := 222) (i := 0) fT_ rfl]
          exact ht_
        · have fT_ : ai_fr (sx_W ([(13, 129), (13, 134)], [], [])) S_ ((sm_pI (sm_pI S_ 13 0 129 0) 13 0 134 0)) := ai_fr_tr (ai_fr_pI rfl) (ai_fr_pI rfl)
          exact wal9_cg hal_ (fr_arr fT_ rfl) (fr_arr fT_ rfl) (fr_arr fT_ rfl) (fr_arr fT_ rfl) (fr_arr fT_ rfl) (fr_arr fT_ rfl) (fr_arr fT_ rfl) (fr_arr fT_ rfl) (fr_arr fT_ rfl) (fT_.1 13 0 106 rfl) (fT_.1 13 0 108 rfl)
        · have fT_ : ai_fr (sx_W ([(13, 129), (13, 134)], [], [])) S_ ((sm_pI (sm_pI S_ 13 0 129 0) 13 0 134 0)) := ai_fr_tr (ai_fr_pI rfl) (ai_fr_pI rfl)
          exact fun G9_ => gdr_cg (hgd_ G9_) (fr_arr fT_ rfl) (fr_arr fT_ rfl) (fr_arr fT_ rfl)
        · exact gst_0 (by omega) (by (try simp only [rd_eq, rd_ne, rf_eq, rf_nk, rf_nt, rd_fa, rd_af, rd_fl, rd_al, rd_lf, rd_la, rd_leq, rd_lne, rd_fr, rd_ar, ne_eq, Nat.reduceEqDiff, not_false_eq_true])) hn2_ (fun j9_ u0_ u1_ => hn3_ j9_ u0_ (by omega))
        · (intro G9_ k9_ u0_ u1_; exfalso; omega)
        · omega
      · have cx2_ : ¬ ((S_.2.2.1 159 0 a1_.toNat) ≤ i_) := of_decide_eq_false cx2_
        refine sm_T_go 4 (c1 := (231, [some (.inr (.inr (some (13, 0)))), some (.inl a1_), some (.inl a2_), some (.inl c_), some (.inl gd_), some (.inl i_)], [.inl (-1), .inl i_, .inr (.inr (some (219, 0)))], S_)) rfl ?_
        refine sm_T_iast (n := 2048) rfl rfl (by omega) (by omega) ?_
        have hIx7_ : gi (sm_aI S_ 219 0 i_.toNat (-1)) := gi_aI hI_ (show (-2) ≤ (-1) ∧ (-1) ≤ 9000 from ⟨by omega, by omega⟩)
        have hFx8_ : ai_fr (sx_W vw_419) S0_ (sm_aI S_ 219 0 i_.toNat (-1)) := ai_fr_tr hF_ (ai_fr_aI rfl)
        refine sm_T_inc (a := 5) (z := 1) (v := i_) (w := i_ + 1) rfl rfl (by omega) (by omega) (by omega) ?_ -- pc_ 232
        refine sm_T_go 1 (c1 := (213, [some (.inr (.inr (some (13, 0)))), some (.inl a1_), some (.inl a2_), some (.inl c_), some (.inl gd_), some (.inl (i_ + 1))], [], sm_aI S_ 219 0 i_.toNat (-1))) rfl ?_
        refine ih_.2.1 c_ gd_ (i_ + 1) (sm_aI S_ 219 0 i_.toNat (-1)) hIx7_ hFx8_ ⟨?_, ?_, ?_, ?_, ?_, ?_, ?_, ?_, ?_, ?_, ?_, trivial⟩ ?_
        · omega
        · have fT_ : ai_fr (sx_W ([], [219], [])) S_ ((sm_aI S_ 219 0 i_.toNat (-1))) := ai_fr_aI rfl
          exact dmp_fr hd_ fT_
        · have fT_ : ai_fr (sx_W ([], [219], [])) S_ ((sm_aI S_ 219 0 i_.toNat (-1))) := ai_fr_aI rfl
          rw [fT_.1 13 0 106 rfl]
          exact hlb_
        · have fT_ : ai_fr (sx_W ([], [219], [])) S_ ((sm_aI S_ 219 0 i_.toNat (-1))) := ai_fr_aI rfl
          exact rtd_fr hr_ fT_
        · have fT_ : ai_fr (sx_W ([], [219], [])) S_ ((sm_aI S_ 219 0 i_.toNat (-1))) := ai_fr_aI rfl
          rw [fT_.1 13 0 107 rfl, fT_.1 13 0 106 rfl, fr_arr (t := 185) (i := 0) fT_ rfl]
          exact hiv_
        · have fT_ : ai_fr (sx_W ([], [219], [])) S_ ((sm_aI S_ 219 0 i_.toNat (-1))) := ai_fr_aI rfl
          exact rcf_tr hk_ (rcf_fr fT_ rfl)
        · have fT_ : ai_fr (sx_W ([], [219], [])) S_ ((sm_aI S_ 219 0 i_.toNat (-1))) := ai_fr_aI rfl
          rw [fr_arr (t := 222) (i := 0) fT_ rfl]
          exact ht_
        · have fT_ : ai_fr (sx_W ([], [219], [])) S_ ((sm_aI S_ 219 0 i_.toNat (-1))) := ai_fr_aI rfl
          exact wal9_cg hal_ (fr_arr fT_ rfl) (fr_arr fT_ rfl) (fr_arr fT_ rfl) (fr_arr fT_ rfl) (fr_arr fT_ rfl) (fr_arr fT_ rfl) (fr_arr fT_ rfl) (fr_arr fT_ rfl) (fr_arr fT_ rfl) (fT_.1 13 0 106 rfl) (fT_.1 13 0 108 rfl)
        · have fT_ : ai_fr (sx_W ([], [219], [])) S_ ((sm_aI S_ 219 0 i_.toNat (-1))) := ai_fr_aI rfl
          exact fun G9_ => gdr_cg (hgd_ G9_) (fr_arr fT_ rfl) (fr_arr fT_ rfl) (fr_arr fT_ rfl)
        · have fT_ : ai_fr (sx_W ([], [219], [])) S_ ((sm_aI S_ 219 0 i_.toNat (-1))) := ai_fr_aI rfl
          rw [fr_arr (t := 218) (i := 0) fT_ rfl]
          exact hn2_
        · intro j9_ u0_ u1_
          (try simp only [rd_eq, rd_ne, rf_eq, rf_nk, rf_nt, rd_fa, rd_af, rd_fl, rd_al, rd_lf, rd_la, rd_leq, rd_lne, rd_fr, rd_ar, ne_eq, Nat.reduceEqDiff, not_false_eq_true])
          split
          · rfl
          · exact hn3_ j9_ u0_ (by omega)
        · omega
    · rintro c_ gd_ i_ S_ hI_ hF_ ⟨h0_, hd_, hlb_, hr_, hiv_, hk_, ht_, hal_, hgd_, hgs_, ho_, -⟩ hm_
      have d1_ := hd_.1
      have f160_ : S_.2.2.1 160 0 (S_.1 13 0 105).toNat = F_ := by (rw [d1_.2.2.1]; exact d1_.2.2.2.1)
      have c156_ : 0 ≤ S_.2.2.1 156 0 a1_.toNat ∧ S_.2.2.1 156 0 a1_.toNat ≤ 16 := hI_.2 156 0 _
      have c155_ : 0 ≤ S_.2.2.1 155 0 a1_.toNat ∧ S_.2.2.1 155 0 a1_.toNat ≤ 6 := hI_.2 155 0 _
      have c134_ : 0 ≤ S_.1 13 0 134 ∧ S_.1 13 0 134 ≤ 1 := hI_.1 13 0 134 rfl
      have c106_ : 0 ≤ S_.1 13 0 106 ∧ S_.1 13 0 106 ≤ 2 := hI_.1 13 0 106 rfl
      refine sm_T_go 4 (c1 := (258, [some (.inr (.inr (some (13, 0)))), some (.inl a1_), some (.inl a2_), some (.inl c_), some (.inl gd_), some (.inl i_)], [.inl a1_, .inr (.inr (some (156, 0))), .inl i_], S_)) rfl ?_
      refine sm_T_iald (n := 6) rfl rfl (by omega) (by omega) ?_
      have bx1_ : 0 ≤ S_.2.2.1 156 0 a1_.toNat ∧ S_.2.2.1 156 0 a1_.toNat ≤ 16 := hI_.2 156 0 _
      refine sm_T_br (a := 3) (z := 42) rfl (fun cx2_ => ?_) (fun cx2_ => ?_)
      · have cx2_ : (S_.2.2.1 156 0 a1_.toNat) ≤ i_ := of_decide_eq_true cx2_
        refine sm_T_go 2 (c1 := (304, [some (.inr (.inr (some (13, 0)))), some (.inl a1_), some (.inl a2_), some (.inl c_), some (.inl gd_), some (.inl 0)], [], S_)) rfl ?_
        refine ih_.2.2.2 c_ gd_ 0 S_ hI_ hF_ ⟨?_, ?_, ?_, ?_, ?_, ?_, ?_, ?_, ?_, ?_, ?_, ?_, trivial⟩ ?_
        · omega
        · exact hd_
        · exact hlb_
        · exact hr_
        · exact hiv_
        · exact hk_
        · exact ht_
        · exact hal_
        · exact hgd_
        · exact hgs_
        · (intro G9_ k9_ u0_ u1_; first | (exfalso; omega) | exact ho_ G9_ k9_ u0_ (by omega))
        · (intro G9_ k9_ u0_ u1_; exfalso; omega)
        · omega
      · have cx2_ : ¬ ((S_.2.2.1 156 0 a1_.toNat) ≤ i_) := of_decide_eq_false cx2_
        refine sm_T_go 1 (c1 := (264, [some (.inr (.inr (some (13, 0)))), some (.inl a1_), some (.inl a2_), some (.inl c_), some (.inl gd_), some (.inl i_)], [.inl gd_], S_)) rfl ?_
        refine sm_T_b0 (a := 0) (z := 37) rfl (fun cx3_ => ?_) (fun cx3_ => ?_)
        · have cx3_ : gd_ = 0 := of_decide_eq_true cx3_
          refine sm_T_go 2 (c1 := (304, [some (.inr (.inr (some (13, 0)))), some (.inl a1_), some (.inl a2_), some (.inl c_), some (.inl gd_), some (.inl 0)], [], S_)) rfl ?_
          refine ih_.2.2.2 c_ gd_ 0 S_ hI_ hF_ ⟨?_, ?_, ?_, ?_, ?_, ?_, ?_, ?_, ?_, ?_, ?_, ?_, trivial⟩ ?_
          · omega
          · exact hd_
          · exact hlb_
          · exact hr_
          · exact hiv_
          · exact hk_
          · exact ht_
          · exact hal_
          · exact hgd_
          · exact hgs_
          · (intro G9_ k9_ u0_ u1_; first | (exfalso; omega) | exact ho_ G9_ k9_ u0_ (by omega))
          · (intro G9_ k9_ u0_ u1_; exfalso; omega)
          · omega
        · have cx3_ : ¬ (gd_ = 0) := of_decide_eq_false cx3_
          refine sm_T_go 4 (c1 := (274, [some (.inr (.inr (some (13, 0)))), some (.inl a1_), some (.inl a2_), some (.inl c_), some (.inl gd_), some (.inl i_)], [.inl c_, .inl 16, .inr (.inr (some (231, 0)))], S_)) rfl ?_
          refine sm_T_bin (w := 16 * c_) rfl (bi_mul (by omega) (by omega) (by omega)) ?_ -- pc_ 274
          refine sm_T_go 1 (c1 := (277, [some (.inr (.inr (some (13, 0)))), some (.inl a1_), some (.inl a2_), some (.inl c_), some (.inl gd_), some (.inl i_)], [.inl i_, .inl (16 * c_), .inr (.inr (some (231, 0)))], S_)) rfl ?_
          refine sm_T_bin (w := 16 * c_ + i_) rfl (bi_add (by omega) (by omega) (by omega)) ?_ -- pc_ 277
          refine sm_T_go 5 (c1 := (286, [some (.inr (.inr (some (13, 0)))), some (.inl a1_), some (.inl a2_), some (.inl c_), some (.inl gd_), some (.inl i_)], [.inl a1_, .inl 16, .inr (.inr (some (167, 0))), .inr (.inr (some (13, 0))), .inl (16 * c_ + i_), .inr (.inr (some (231, 0)))], S_)) rfl ?_
          refine sm_T_bin (w := 16 * a1_) rfl (bi_mul (by omega) (by omega) (by omega)) ?_ -- pc_ 286
          refine sm_T_go 1 (c1 := (289, [some (.inr (.inr (some (13, 0)))), some (.inl a1_), some (.inl a2_), some (.inl c_), some (.inl gd_), some (.inl i_)], [.inl i_, .inl (16 * a1_), .inr (.inr (some (167, 0))), .inr (.inr (some (13, 0))), .inl (16 * c_ + i_), .inr (.inr (some (231, 0)))], S_)) rfl ?_
          refine sm_T_bin (w := 16 * a1_ + i_) rfl (bi_add (by omega) (by omega) (by omega)) ?_ -- pc_ 289
          refine sm_T_iald (n := 96) rfl rfl (by omega) (by omega) ?_
          have bx4_ : 0 ≤ S_.2.2.1 167 0 (16 * a1_ + i_).toNat ∧ S_.2.2.1 167 0 (16 * a1_ + i_).toNat ≤ 2047 := hI_.2 167 0 _
          refine sm_T_cal (d1 := 4) (Q1 := vq_418 (S_.2.2.1 167 0 (16 * a1_ + i_).toNat) F_ N_ a1_ S_) rfl rfl (by decide) (vc_418 (S_.2.2.1 167 0 (16 * a1_ + i_).toNat) F_ N_ a1_ S_ hI_ (by exact hd_) (by exact hal_) (by exact hgd_ (by omega)) (by exact hiv_) (by exact hgs_) (by exact (dmp_l hd_ (k_ := i_)).1 (by omega) (by omega)) (by exact hr_.1 i_ (by omega) (by omega))) (fun u_ Sx5_ px8_ => ?_)
          obtain ⟨vx10_, rfl, hIx6_, hFx7_, px8_⟩ := px8_
          have hFx9_ : ai_fr (sx_W vw_419) S0_ Sx5_ := ai_fr_tr hF_ (fr_le hFx7_ rfl)
          have e291_ := px8_
          have f291_ := hFx7_
          have g0_ := hgs_.1.1
          have g1_ := e291_.1.1
          refine sm_T_iast (n := 64) rfl rfl (by omega) (by omega) ?_
          have hIx11_ : gi (sm_aI Sx5_ 231 0 (16 * c_ + i_).toNat vx10_) := gi_aI hIx6_ (show (-2) ≤ vx10_ ∧ vx10_ ≤ 9000 from ⟨by omega, by omega⟩)
          have hFx12_ : ai_fr (sx_W vw_419) S0_ (sm_aI Sx5_ 231 0 (16 * c_ + i_).toNat vx10_) := ai_fr_tr hFx9_ (ai_fr_aI rfl)
          refine sm_T_inc (a := 5) (z := 1) (v := i_) (w := i_ + 1) rfl rfl (by omega) (by omega) (by omega) ?_ -- pc_ 295
          refine sm_T_go 1 (c1 := (251, [some (.inr (.inr (some (13, 0)))), some (.inl a1_), some (.inl a2_), some (.inl c_), some (.inl gd_), some (.inl (i_ + 1))], [], sm_aI Sx5_ 231 0 (16 * c_ + i_).toNat vx10_)) rfl ?_
          refine ih_.2.2.1 c_ gd_ (i_ + 1) (sm_aI Sx5_ 231 0 (16 * c_ + i_).toNat vx10_) hIx11_ hFx12_ ⟨?_, ?_, ?_, ?_, ?_, ?_, ?_, ?_, ?_, ?_, ?_, trivial⟩ ?_
          · have fT_ : ai_fr (sx_W w251) S_ ((sm_aI Sx5_ 231 0 (16 * c_ + i_).toNat vx10_)) := ai_fr_tr (fr_le f291_ rfl) (ai_fr_aI rfl)
            rw [fr_arr (t := 156) (i := 0) fT_ rfl]
            omega
          · have fT_ : ai_fr (sx_W w251) S_ ((sm_aI Sx5_ 231 0 (16 * c_ + i_).toNat vx10_)) := ai_fr_tr (fr_le f291_ rfl) (ai_fr_aI rfl)
            exact dmp_fr hd_ fT_
          · have fT_ : ai_fr (sx_W w251) S_ ((sm_aI Sx5_ 231 0 (16 * c_ + i_).toNat vx10_)) := ai_fr_tr (fr_le f291_ rfl) (ai_fr_aI rfl)
            rw [fT_.1 13 0 106 rfl]
            exact hlb_
          · have fT_ : ai_fr (sx_W w251) S_ ((sm_aI Sx5_ 231 0 (16 * c_ + i_).toNat vx10_)) := ai_fr_tr (fr_le f291_ rfl) (ai_fr_aI rfl)
            exact rtd_fr hr_ fT_
          · have fT_ : ai_fr (sx_W w251) S_ ((sm_aI Sx5_ 231 0 (16 * c_ + i_).toNat vx10_)) := ai_fr_tr (fr_le f291_ rfl) (ai_fr_aI rfl)
            rw [fT_.1 13 0 107 rfl, fT_.1 13 0 106 rfl, fr_arr (t := 185) (i := 0) fT_ rfl]
            exact hiv_
          · have fT_ : ai_fr (sx_W w251) S_ ((sm_aI Sx5_ 231 0 (16 * c_ + i_).toNat vx10_)) := ai_fr_tr (fr_le f291_ rfl) (ai_fr_aI rfl)
            exact rcf_aI (rcf_tr hk_ (rcf_fr f291_ rfl)) (Or.inr ⟨by (rw [show rcs 231 = 16 from rfl]; omega), by (rw [show rcs 231 = 16 from rfl]; omega)⟩)
          · have fT_ : ai_fr (sx_W w251) S_ ((sm_aI Sx5_ 231 0 (16 * c_ + i_).toNat vx10_)) := ai_fr_tr (fr_le f291_ rfl) (ai_fr_aI rfl)
            rw [fr_arr (t := 222) (i := 0) fT_ rfl]
            exact ht_
          · have fT_ : ai_fr (sx_W w251) S_ ((sm_aI Sx5_ 231 0 (16 * c_ + i_).toNat vx10_)) := ai_fr_tr (fr_le f291_ rfl) (ai_fr_aI rfl)
            exact wal9_cg hal_ (fr_arr fT_ rfl) (fr_arr fT_ rfl) (fr_arr fT_ rfl) (fr_arr fT_ rfl) (fr_arr fT_ rfl) (fr_arr fT_ rfl) (fr_arr fT_ rfl) (fr_arr fT_ rfl) (fr_arr fT_ rfl) (fT_.1 13 0 106 rfl) (fT_.1 13 0 108 rfl)
          · have fT_ : ai_fr (sx_W w251) S_ ((sm_aI Sx5_ 231 0 (16 * c_ + i_).toNat vx10_)) := ai_fr_tr (fr_le f291_ rfl) (ai_fr_aI rfl)
            exact fun G9_ => gdr_cg (hgd_ G9_) (fr_arr fT_ rfl) (fr_arr fT_ rfl) (fr_arr fT_ rfl)
          · exact gst_a e291_.1 (Or.inl rfl)
          · intro G9_ k9_ u0_ u1_
            (try simp only [rd_eq, rd_ne, rf_eq, rf_nk, rf_nt, rd_fa, rd_af, rd_fl, rd_al, rd_lf, rd_la, rd_leq, rd_lne, rd_fr, rd_ar, ne_eq, Nat.reduceEqDiff, not_false_eq_true])
            by_cases z9_ : k9_ = i_
            · rw [z9_, if_pos rfl]; omega
            · rw [if_neg (by omega), fr_arr (t := 231) (i := 0) f291_ rfl]; have w9_ := ho_ G9_ k9_ u0_ (by omega); omega
          · omega
    · rintro c_ gd_ i_ S_ hI_ hF_ ⟨h0_, hd_, hlb_, hr_, hiv_, hk_, ht_, hal_, hgd_, hgs_, ho_, hp_, -⟩ hm_
      have d1_ := hd_.1
      have f160_ : S_.2.2.1 160 0 (S_.1 13 0 105).toNat = F_ := by (rw [d1_.2.2.1]; exact d1_.2.2.2.1)
      have c156_ : 0 ≤ S_.2.2.1 156 0 a1_.toNat ∧ S_.2.2.1 156 0 a1_.toNat ≤ 16 := hI_.2 156 0 _
      have c155_ : 0 ≤ S_.2.2.1 155 0 a1_.toNat ∧ S_.2.2.1 155 0 a1_.toNat ≤ 6 := hI_.2 155 0 _
      have c134_ : 0 ≤ S_.1 13 0 134 ∧ S_.1 13 0 134 ≤ 1 := hI_.1 13 0 134 rfl
      have c106_ : 0 ≤ S_.1 13 0 106 ∧ S_.1 13 0 106 ≤ 2 := hI_.1 13 0 106 rfl
      refine sm_T_go 4 (c1 := (311, [some (.inr (.inr (some (13, 0)))), some (.inl a1_), some (.inl a2_), some (.inl c_), some (.inl gd_), some (.inl i_)], [.inl a1_, .inr (.inr (some (155, 0))), .inl i_], S_)) rfl ?_
      refine sm_T_iald (n := 6) rfl rfl (by omega) (by omega) ?_
      have bx1_ : 0 ≤ S_.2.2.1 155 0 a1_.toNat ∧ S_.2.2.1 155 0 a1_.toNat ≤ 6 := hI_.2 155 0 _
      refine sm_T_br (a := 3) (z := 42) rfl (fun cx2_ => ?_) (fun cx2_ => ?_)
      · have cx2_ : (S_.2.2.1 155 0 a1_.toNat) ≤ i_ := of_decide_eq_true cx2_
        refine sm_T_go 1 (c1 := (356, [some (.inr (.inr (some (13, 0)))), some (.inl a1_), some (.inl a2_), some (.inl c_), some (.inl gd_), some (.inl i_)], [.inl gd_], S_)) rfl ?_
        refine sm_T_b0 (a := 0) (z := 10) rfl (fun cx3_ => ?_) (fun cx3_ => ?_)
        · have cx3_ : gd_ = 0 := of_decide_eq_true cx3_
          refine sm_T_go 1 (c1 := (367, [some (.inr (.inr (some (13, 0)))), some (.inl a1_), some (.inl a2_), some (.inl c_), some (.inl gd_), some (.inl i_)], [.inl (-1)], S_)) rfl ?_
          refine sm_T_ri rfl ⟨_, _, rfl, _, rfl, hI_, hF_, ?_⟩
          exact ⟨⟨by omega, by omega⟩, jR_cf hJ_ hI_ hF_ rfl hk_ (fun z9_ => absurd z9_ (by omega))⟩
        · have cx3_ : ¬ (gd_ = 0) := of_decide_eq_false cx3_
          have bx4_ : 0 ≤ S_.1 13 0 134 ∧ S_.1 13 0 134 ≤ 1 := hI_.1 13 0 134 rfl
          refine sm_T_go 2 (c1 := (363, [some (.inr (.inr (some (13, 0)))), some (.inl a1_), some (.inl a2_), some (.inl c_), some (.inl gd_), some (.inl i_)], [.inl (S_.1 13 0 134)], S_)) rfl ?_
          refine sm_T_b0 (a := 0) (z := 5) rfl (fun cx5_ => ?_) (fun cx5_ => ?_)
          · have cx5_ : (S_.1 13 0 134) = 0 := of_decide_eq_true cx5_
            have bx6_ : 0 ≤ S_.1 13 0 129 ∧ S_.1 13 0 129 ≤ 8191 := hI_.1 13 0 129 rfl
            refine sm_T_go 3 (c1 := (375, [some (.inr (.inr (some (13, 0)))), some (.inl a1_), some (.inl a2_), some (.inl c_), some (.inl gd_), some (.inl i_)], [.inl 150, .inl (S_.1 13 0 129)], S_)) rfl ?_
            refine sm_T_br (a := 5) (z := 6) rfl (fun cx7_ => ?_) (fun cx7_ => ?_)
            · have cx7_ : (S_.1 13 0 129) ≤ 150 := of_decide_eq_true cx7_
              refine sm_T_go 2 (c1 := (383, [some (.inr (.inr (some (13, 0)))), some (.inl a1_), some (.inl a2_), some (.inl c_), some (.inl gd_), some (.inl i_)], [.inl c_, .inr (.inr (some (13, 0)))], S_)) rfl ?_
              refine sm_T_cal (d1 := 1) (Q1 := vq_420 c_ F_ N_ a1_ S_) rfl rfl (by decide) (vc_420 c_ F_ N_ a1_ S_ hI_ (by exact hd_) (by omega) (by exact hgs_.2.2.2) (by omega) (by (have g0_ := hgs_.1.1; omega)) (by omega) (by exact ⟨ho_ (by omega), fun k9_ u0_ u1_ => hp_ (by omega) k9_ u0_ (by omega)⟩)) (fun u_ Sx8_ px11_ => ?_)
              obtain ⟨rfl, hIx9_, hFx10_, px11_⟩ := px11_
              have hFx12_ : ai_fr (sx_W vw_419) S0_ Sx8_ := ai_fr_tr hF_ (fr_le hFx10_ rfl)
              obtain ⟨dx13_, px11_⟩ := px11_
              have ex14_ : Sx8_.1 13 0 129 = S_.1 13 0 129 := hFx10_.1 13 0 129 rfl
              have ex15_ : Sx8_.1 13 0 134 = S_.1 13 0 134 := hFx10_.1 13 0 134 rfl
              have e383_ := px11_
              have k383_ := dx13_
              refine sm_T_go 1 (c1 := (387, [some (.inr (.inr (some (13, 0)))), some (.inl a1_), some (.inl a2_), some (.inl c_), some (.inl gd_), some (.inl i_)], [.inl c_], Sx8_)) rfl ?_
              refine sm_T_ri rfl ⟨_, _, rfl, _, rfl, hIx9_, hFx12_, ?_⟩
              exact ⟨⟨by omega, by omega⟩, jR_cf hJ_ hIx9_ hFx12_ rfl (rcf_tr hk_ k383_) (fun z9_ => by (rw [show ((c_.toNat : Nat) : Int) = c_ by omega]; exact e383_))⟩
            · have cx7_ : ¬ ((S_.1 13 0 129) ≤ 150) := of_decide_eq_false cx7_
              refine sm_T_go 1 (c1 := (380, [some (.inr (.inr (some (13, 0)))), some (.inl a1_), some (.inl a2_), some (.inl c_), some (.inl gd_), some (.inl i_)], [.inl (-2)], S_)) rfl ?_
              refine sm_T_ri rfl ⟨_, _, rfl, _, rfl, hI_, hF_, ?_⟩
              exact ⟨⟨by omega, by omega⟩, jR_cf hJ_ hI_ hF_ rfl hk_ (fun z9_ => absurd z9_ (by omega))⟩
          · have cx5_ : ¬ ((S_.1 13 0 134) = 0) := of_decide_eq_false cx5_
            refine sm_T_go 1 (c1 := (367, [some (.inr (.inr (some (13, 0)))), some (.inl a1_), some (.inl a2_), some (.inl c_), some (.inl gd_), some (.inl i_)], [.inl (-1)], S_)) rfl ?_
            refine sm_T_ri rfl ⟨_, _, rfl, _, rfl, hI_, hF_, ?_⟩
            exact ⟨⟨by omega, by omega⟩, jR_cf hJ_ hI_ hF_ rfl hk_ (fun z9_ => absurd z9_ (by omega))⟩
      · have cx2_ : ¬ ((S_.2.2.1 155 0 a1_.toNat) ≤ i_) := of_decide_eq_false cx2_
        refine sm_T_go 1 (c1 := (317, [some (.inr (.inr (some (13, 0)))), some (.inl a1_), some (.inl a2_), some (.inl c_), some (.inl gd_), some (.inl i_)], [.inl gd_], S_)) rfl ?_
        refine sm_T_b0 (a := 0) (z := 37) rfl (fun cx16_ => ?_) (fun cx16_ => ?_)
        · have cx16_ : gd_ = 0 := of_decide_eq_true cx16_
          refine sm_T_go 1 (c1 := (356, [some (.inr (.inr (some (13, 0)))), some (.inl a1_), some (.inl a2_), some (.inl c_), some (.inl gd_), some (.inl i_)], [.inl gd_], S_)) rfl ?_
          refine sm_T_b0 (a := 0) (z := 10) rfl (fun cx17_ => ?_) (fun cx17_ => ?_)
          · have cx17_ : gd_ = 0 := of_decide_eq_true cx17_
            refine sm_T_go 1 (c1 := (367, [some (.inr (.inr (some (13, 0)))), some (.inl a1_), some (.inl a2_), some (.inl c_), some (.inl gd_), some (.inl i_)], [.inl (-1)], S_)) rfl ?_
            refine sm_T_ri rfl ⟨_, _, rfl, _, rfl, hI_, hF_, ?_⟩
            exact ⟨⟨by omega, by omega⟩, jR_cf hJ_ hI_ hF_ rfl hk_ (fun z9_ => absurd z9_ (by omega))⟩
          · have cx17_ : ¬ (gd_ = 0) := of_decide_eq_false cx17_
            exfalso; omega
        · have cx16_ : ¬ (gd_ = 0) := of_decide_eq_false cx16_
          refine sm_T_go 4 (c1 := (327, [some (.inr (.inr (some (13, 0)))), some (.inl a1_), some (.inl a2_), some (.inl c_), some (.inl gd_), some (.inl i_)], [.inl c_, .inl 6, .inr (.inr (some (232, 0)))], S_)) rfl ?_
          refine sm_T_bin (w := 6 * c_) rfl (bi_mul (by omega) (by omega) (by omega)) ?_ -- pc_ 327
          refine sm_T_go 1 (c1 := (330, [some (.inr (.inr (some (13, 0)))), some (.inl a1_), some (.inl a2_), some (.inl c_), some (.inl gd_), some (.inl i_)], [.inl i_, .inl (6 * c_), .inr (.inr (some (232, 0)))], S_)) rfl ?_
          refine sm_T_bin (w := 6 * c_ + i_) rfl (bi_add (by omega) (by omega) (by omega)) ?_ -- pc_ 330
          refine sm_T_go 5 (c1 := (339, [some (.inr (.inr (some (13, 0)))), some (.inl a1_), some (.inl a2_), some (.inl c_), some (.inl gd_), some (.inl i_)], [.inl a1_, .inl 6, .inr (.inr (some (168, 0))), .inr (.inr (some (13, 0))), .inl (6 * c_ + i_), .inr (.inr (some (232, 0)))], S_)) rfl ?_
          refine sm_T_bin (w := 6 * a1_) rfl (bi_mul (by omega) (by omega) (by omega)) ?_ -- pc_ 339
          refine sm_T_go 1 (c1 := (342, [some (.inr (.inr (some (13, 0)))), some (.inl a1_), some (.inl a2_), some (.inl c_), some (.inl gd_), some (.inl i_)], [.inl i_, .inl (6 * a1_), .inr (.inr (some (168, 0))), .inr (.inr (some (13, 0))), .inl (6 * c_ + i_), .inr (.inr (some (232, 0)))], S_)) rfl ?_
          refine sm_T_bin (w := 6 * a1_ + i_) rfl (bi_add (by omega) (by omega) (by omega)) ?_ -- pc_ 342
          refine sm_T_iald (n := 36) rfl rfl (by omega) (by omega) ?_
          have bx18_ : 0 ≤ S_.2.2.1 168 0 (6 * a1_ + i_).toNat ∧ S_.2.2.1 168 0 (6 * a1_ + i_).toNat ≤ 2047 := hI_.2 168 0 _
          refine sm_T_cal (d1 := 4) (Q1 := vq_418 (S_.2.2.1 168 0 (6 * a1_ + i_).toNat) F_ N_ a1_ S_) rfl rfl (by decide) (vc_418 (S_.2.2.1 168 0 (6 * a1_ + i_).toNat) F_ N_ a1_ S_ hI_ (by exact hd_) (by exact hal_) (by exact hgd_ (by omega)) (by exact hiv_) (by exact hgs_) (by exact (dmp_l hd_ (k_ := i_)).2 (by omega) (by omega)) (by exact hr_.2 i_ (by omega) (by omega))) (fun u_ Sx19_ px22_ => ?_)
          obtain ⟨vx24_, rfl, hIx20_, hFx21_, px22_⟩ := px22_
          have hFx23_ : ai_fr (sx_W vw_419) S0_ Sx19_ := ai_fr_tr hF_ (fr_le hFx21_ rfl)
          have e344_ := px22_
          have f344_ := hFx21_
          have g0_ := hgs_.1.1
          have g1_ := e344_.1.1
          refine sm_T_iast (n := 24) rfl rfl (by omega) (by omega) ?_
          have hIx25_ : gi (sm_aI Sx19_ 232 0 (6 * c_ + i_).toNat vx24_) := gi_aI hIx20_ (show (-2) ≤ vx24_ ∧ vx24_ ≤ 9000 from ⟨by omega, by omega⟩)
          have hFx26_ : ai_fr (sx_W vw_419) S0_ (sm_aI Sx19_ 232 0 (6 * c_ + i_).toNat vx24_) := ai_fr_tr hFx23_ (ai_fr_aI rfl)
          refine sm_T_inc (a := 5) (z := 1) (v := i_) (w := i_ + 1) rfl rfl (by omega) (by omega) (by omega) ?_ -- pc_ 348
          refine sm_T_go 1 (c1 := (304, [some (.inr (.inr (some (13, 0)))), some (.inl a1_), some (.inl a2_), some (.inl c_), some (.inl gd_), some (.inl (i_ + 1))], [], sm_aI Sx19_ 232 0 (6 * c_ + i_).toNat vx24_)) rfl ?_
          refine ih_.2.2.2 c_ gd_ (i_ + 1) (sm_aI Sx19_ 232 0 (6 * c_ + i_).toNat vx24_) hIx25_ hFx26_ ⟨?_, ?_, ?_, ?_, ?_, ?_, ?_, ?_, ?_, ?_, ?_, ?_, trivial⟩ ?_
          · have fT_ : ai_fr (sx_W w304) S_ ((sm_aI Sx19_ 232 0 (6 * c_ + i_).toNat vx24_)) := ai_fr_tr (fr_le f344_ rfl) (ai_fr_aI rfl)
            rw [fr_arr (t := 155) (i := 0) fT_ rfl]
            omega
          · have fT_ : ai_fr (sx_W w304) S_ ((sm_aI Sx19_ 232 0 (6 * c_ + i_).toNat vx24_)) := ai_fr_tr (fr_le f344_ rfl) (ai_fr_aI rfl)
            exact dmp_fr hd_ fT_
          · have fT_ : ai_fr (sx_W w304) S_ ((sm_aI Sx19_ 232 0 (6 * c_ + i_).toNat vx24_)) := ai_fr_tr (fr_le f344_ rfl) (ai_fr_aI rfl)
            rw [fT_.1 13 0 106 rfl]
            exact hlb_
          · have fT_ : ai_fr (sx_W w304) S_ ((sm_aI Sx19_ 232 0 (6 * c_ + i_).toNat vx24_)) := ai_fr_tr (fr_le f344_ rfl) (ai_fr_aI rfl)
            exact rtd_fr hr_ fT_
          · have fT_ : ai_fr (sx_W w304) S_ ((sm_aI Sx19_ 232 0 (6 * c_ + i_).toNat vx24_)) := ai_fr_tr (fr_le f344_ rfl) (ai_fr_aI rfl)
            rw [fT_.1 13 0 107 rfl, fT_.1 13 0 106 rfl, fr_arr (t := 185) (i := 0) fT_ rfl]
            exact hiv_
          · have fT_ : ai_fr (sx_W w304) S_ ((sm_aI Sx19_ 232 0 (6 * c_ + i_).toNat vx24_)) := ai_fr_tr (fr_le f344_ rfl) (ai_fr_aI rfl)
            exact rcf_aI (rcf_tr hk_ (rcf_fr f344_ rfl)) (Or.inr ⟨by (rw [show rcs 232 = 6 from rfl]; omega), by (rw [show rcs 232 = 6 from rfl]; omega)⟩)
          · have fT_ : ai_fr (sx_W w304) S_ ((sm_aI Sx19_ 232 0 (6 * c_ + i_).toNat vx24_)) := ai_fr_tr (fr_le f344_ rfl) (ai_fr_aI rfl)
            rw [fr_arr (t := 222) (i := 0) fT_ rfl]
            exact ht_
          · have fT_ : ai_fr (sx_W w304) S_ ((sm_aI Sx19_ 232 0 (6 * c_ + i_).toNat vx24_)) := ai_fr_tr (fr_le f344_ rfl) (ai_fr_aI rfl)
            exact wal9_cg hal_ (fr_arr fT_ rfl) (fr_arr fT_ rfl) (fr_arr fT_ rfl) (fr_arr fT_ rfl) (fr_arr fT_ rfl) (fr_arr fT_ rfl) (fr_arr fT_ rfl) (fr_arr fT_ rfl) (fr_arr fT_ rfl) (fT_.1 13 0 106 rfl) (fT_.1 13 0 108 rfl)
          · have fT_ : ai_fr (sx_W w304) S_ ((sm_aI Sx19_ 232 0 (6 * c_ + i_).toNat vx24_)) := ai_fr_tr (fr_le f344_ rfl) (ai_fr_aI rfl)
            exact fun G9_ => gdr_cg (hgd_ G9_) (fr_arr fT_ rfl) (fr_arr fT_ rfl) (fr_arr fT_ rfl)
          · exact gst_a e344_.1 (Or.inr rfl)
          · have fT_ : ai_fr (sx_W w304) S_ ((sm_aI Sx19_ 232 0 (6 * c_ + i_).toNat vx24_)) := ai_fr_tr (fr_le f344_ rfl) (ai_fr_aI rfl)
            intro G9_ k9_ u0_ u1_
            rw [fr_arr (t := 156) (i := 0) fT_ rfl] at u1_
            rw [fr_arr (t := 231) (i := 0) fT_ rfl]
            (try simp only [rd_eq, rd_ne, rf_eq, rf_nk, rf_nt, rd_fa, rd_af, rd_fl, rd_al, rd_lf, rd_la, rd_leq, rd_lne, rd_fr, rd_ar, ne_eq, Nat.reduceEqDiff, not_false_eq_true])
            have w9_ := ho_ G9_ k9_ u0_ u1_
            omega
          · intro G9_ k9_ u0_ u1_
            (try simp only [rd_eq, rd_ne, rf_eq, rf_nk, rf_nt, rd_fa, rd_af, rd_fl, rd_al, rd_lf, rd_la, rd_leq, rd_lne, rd_fr, rd_ar, ne_eq, Nat.reduceEqDiff, not_false_eq_true])
            by_cases z9_ : k9_ = i_
            · rw [z9_, if_pos rfl]; omega
            · rw [if_neg (by omega), fr_arr (t := 232) (i := 0) f344_ rfl]; have w9_ := hp_ G9_ k9_ u0_ (by omega); omega
          · omega
set_option maxHeartbeats 4000000 in
set_option maxRecDepth 20000 in
theorem vc_419 {sc_ : Nat × (Nat → Int)} (a1_ : Int) (a2_ : Int) (F_ : Int) (N_ : Int) (S0_ : sm_S) (hI_ : gi S0_) (ha1_ : (-2147483648) ≤ a1_ ∧ a1_ ≤ 2147483647) (ha2_ : (-2147483648) ≤ a2_ ∧ a2_ ≤ 2147483647) (hJ_ : jR S0_) (hF0_ : F_ = S0_.2.2.1 160 0 a1_.toNat) (hN0_ : N_ = S0_.2.2.1 159 0 a1_.toNat) : sm_T (mt_P sc_) 5 419 (0, [some (.inr (.inr (some (13, 0)))), some (.inl a1_), some (.inl a2_), none, none, none], [], S0_) (fun ro9_ => ∃ u_ S1_, ro9_ = (.inl u_, S1_, 0) ∧ vq_419 a1_ a2_ F_ N_ S0_ u_ S1_) := by
  have hF_ : ai_fr (sx_W vw_419) S0_ S0_ := ai_fr_rf
  refine sm_T_go 3 (c1 := (5, [some (.inr (.inr (some (13, 0)))), some (.inl a1_), some (.inl a2_), none, none, none], [.inl 4, .inr (.inr (some (222, 0)))], S0_)) rfl ?_
  refine sm_T_cal (d1 := 0) (Q1 := vq_362c 4 S0_) rfl rfl (by decide) (vc_362c 4 S0_ hI_ (by omega)) (fun u_ Sx1_ px4_ => ?_)
  obtain ⟨rfl, vx6_, rfl, px4_⟩ := px4_
  have d5_ : vx6_ = -1 ∨ (0 ≤ vx6_ ∧ vx6_ ≤ 3 ∧ S0_.2.2.1 222 0 (vx6_).toNat = 0) := by (rcases px4_ with y9_ | ⟨u9_, y1_, y2_, y3_, y4_⟩; exact Or.inl y9_.1; (right; rw [y1_]; exact ⟨by omega, by omega, y3_⟩))
  refine sm_T_go 4 (c1 := (12, [some (.inr (.inr (some (13, 0)))), some (.inl a1_), some (.inl a2_), some (.inl vx6_), none, none], [.inl a1_, .inr (.inr (some (13, 0))), .inr (.inr (some (13, 0)))], S0_)) rfl ?_
  refine sm_T_cal (d1 := 0) (Q1 := vq_369 a1_ S0_) rfl rfl (by decide) (vc_369 a1_ S0_ hI_ (by omega)) (fun u_ Sx7_ px10_ => ?_)
  obtain ⟨rfl, vx12_, rfl, px10_⟩ := px10_
  have d12_ := px10_
  refine sm_T_b0 (a := 0) (z := 11) rfl (fun cx13_ => ?_) (fun cx13_ => ?_)
  · have cx13_ : vx12_ = 0 := of_decide_eq_true cx13_
    have hIx14_ : gi (sm_pI S0_ 13 0 0 1) := gi_pI hI_ (show 0 ≤ 1 ∧ 1 ≤ 4 from ⟨by omega, by omega⟩)
    have hFx15_ : ai_fr (sx_W vw_419) S0_ (sm_pI S0_ 13 0 0 1) := ai_fr_tr hF_ (ai_fr_pI rfl)
    refine sm_T_go 7 (c1 := (51, [some (.inr (.inr (some (13, 0)))), some (.inl a1_), some (.inl a2_), some (.inl vx6_), none, none], [.inl 0], sm_pI S0_ 13 0 0 1)) rfl ?_
    refine sm_T_ri rfl ⟨_, _, rfl, _, rfl, hIx14_, hFx15_, ?_⟩
    exact ⟨⟨by omega, by omega⟩, hJ_⟩
  · have cx13_ : ¬ (vx12_ = 0) := of_decide_eq_false cx13_
    refine sm_T_go 2 (c1 := (20, [some (.inr (.inr (some (13, 0)))), some (.inl a1_), some (.inl a2_), some (.inl vx6_), none, none], [.inl a2_, .inr (.inr (some (13, 0))), .inr (.inr (some (13, 0)))], S0_)) rfl ?_
    refine sm_T_cal (d1 := 0) (Q1 := vq_370 a2_ S0_) rfl rfl (by decide) (vc_370 a2_ S0_ hI_ (by omega)) (fun u_ Sx16_ px19_ => ?_)
    obtain ⟨rfl, vx21_, rfl, px19_⟩ := px19_
    have d20_ := px19_
    refine sm_T_b0 (a := 1) (z := 7) rfl (fun cx22_ => ?_) (fun cx22_ => ?_)
    · have cx22_ : vx21_ ≠ 0 := of_decide_eq_true cx22_
      refine sm_T_go 2 (c1 := (32, [some (.inr (.inr (some (13, 0)))), some (.inl a1_), some (.inl a2_), some (.inl vx6_), none, none], [.inl (-1), .inl vx6_, .inr (.inr (some (13, 0)))], S0_)) rfl ?_
      refine sm_T_br (a := 1) (z := 7) rfl (fun cx23_ => ?_) (fun cx23_ => ?_)
      · have cx23_ : vx6_ ≠ (-1) := of_decide_eq_true cx23_
        have hIx24_ : gi (sm_pI S0_ 13 0 0 0) := gi_pI hI_ (show 0 ≤ 0 ∧ 0 ≤ 4 from ⟨by omega, by omega⟩)
        have hFx25_ : ai_fr (sx_W vw_419) S0_ (sm_pI S0_ 13 0 0 0) := ai_fr_tr hF_ (ai_fr_pI rfl)
        have hIx26_ : gi (sm_pI (sm_pI S0_ 13 0 0 0) 13 0 105 a1_) := gi_pI hIx24_ (show 0 ≤ a1_ ∧ a1_ ≤ 5 from ⟨by omega, by omega⟩)
        have hFx27_ : ai_fr (sx_W vw_419) S0_ (sm_pI (sm_pI S0_ 13 0 0 0) 13 0 105 a1_) := ai_fr_tr hFx25_ (ai_fr_pI rfl)
        have hIx28_ : gi (sm_pI (sm_pI (sm_pI S0_ 13 0 0 0) 13 0 105 a1_) 13 0 106 a2_) := gi_pI hIx26_ (show 0 ≤ a2_ ∧ a2_ ≤ 2 from ⟨by omega, by omega⟩)
        have hFx29_ : ai_fr (sx_W vw_419) S0_ (sm_pI (sm_pI (sm_pI S0_ 13 0 0 0) 13 0 105 a1_) 13 0 106 a2_) := ai_fr_tr hFx27_ (ai_fr_pI rfl)
        refine sm_T_go 14 (c1 := (65, [some (.inr (.inr (some (13, 0)))), some (.inl a1_), some (.inl a2_), some (.inl vx6_), none, none], [.inl a2_, .inr (.inr (some (13, 0))), .inr (.inr (some (13, 0)))], sm_pI (sm_pI (sm_pI S0_ 13 0 0 0) 13 0 105 a1_) 13 0 106 a2_)) rfl ?_
        refine sm_T_cal (d1 := 0) (Q1 := vq_379 a2_ (sm_pI (sm_pI (sm_pI S0_ 13 0 0 0) 13 0 105 a1_) 13 0 106 a2_)) rfl rfl (by decide) (vc_379 a2_ (sm_pI (sm_pI (sm_pI S0_ 13 0 0 0) 13 0 105 a1_) 13 0 106 a2_) hIx28_ (by omega)) (fun u_ Sx30_ px33_ => ?_)
        obtain ⟨rfl, vx35_, rfl, px33_⟩ := px33_
        have e65_ := px33_
        have D9_ : dRk a1_.toNat S0_ := hJ_.1 a1_.toNat (by omega) (by omega)
        have B9_ : 1 ≤ F_ ∧ F_ ≤ 13 ∧ F_ ≤ N_ ∧ N_ ≤ 1013 := by (obtain ⟨F1_, I9_, R9_, N1_, k1_, -⟩ := D9_; omega)
        have C9_ := d5_.resolve_left (by omega)
        have hIx36_ : gi (sm_pI (sm_pI (sm_pI (sm_pI S0_ 13 0 0 0) 13 0 105 a1_) 13 0 106 a2_) 13 0 107 vx35_) := gi_pI hIx28_ (show (-1) ≤ vx35_ ∧ vx35_ ≤ 11 from ⟨by omega, by omega⟩)
        have hFx37_ : ai_fr (sx_W vw_419) S0_ (sm_pI (sm_pI (sm_pI (sm_pI S0_ 13 0 0 0) 13 0 105 a1_) 13 0 106 a2_) 13 0 107 vx35_) := ai_fr_tr hFx29_ (ai_fr_pI rfl)
        refine sm_T_go 5 (c1 := (77, [some (.inr (.inr (some (13, 0)))), some (.inl a1_), some (.inl a2_), some (.inl vx6_), none, none], [.inl (-1), .inl vx35_, .inr (.inr (some (13, 0)))], sm_pI (sm_pI (sm_pI (sm_pI S0_ 13 0 0 0) 13 0 105 a1_) 13 0 106 a2_) 13 0 107 vx35_)) rfl ?_
        refine sm_T_br (a := 1) (z := 9) rfl (fun cx38_ => ?_) (fun cx38_ => ?_)
        · have cx38_ : vx35_ ≠ (-1) := of_decide_eq_true cx38_
          refine sm_T_go 4 (c1 := (93, [some (.inr (.inr (some (13, 0)))), some (.inl a1_), some (.inl a2_), some (.inl vx6_), none, none], [.inl a2_, .inl 12, .inr (.inr (some (187, 0))), .inr (.inr (some (13, 0)))], sm_pI (sm_pI (sm_pI (sm_pI S0_ 13 0 0 0) 13 0 105 a1_) 13 0 106 a2_) 13 0 107 vx35_)) rfl ?_
          refine sm_T_bin (w := 12 * a2_) rfl (bi_mul (by omega) (by omega) (by omega)) ?_ -- pc_ 93
          refine sm_T_go 2 (c1 := (98, [some (.inr (.inr (some (13, 0)))), some (.inl a1_), some (.inl a2_), some (.inl vx6_), none, none], [.inl vx35_, .inl (12 * a2_), .inr (.inr (some (187, 0))), .inr (.inr (some (13, 0)))], sm_pI (sm_pI (sm_pI (sm_pI S0_ 13 0 0 0) 13 0 105 a1_) 13 0 106 a2_) 13 0 107 vx35_)) rfl ?_
          refine sm_T_bin (w := 12 * a2_ + vx35_) rfl (bi_add (by omega) (by omega) (by omega)) ?_ -- pc_ 98
          refine sm_T_iald (n := 36) rfl rfl (by omega) (by omega) ?_
          have bx39_ : 0 ≤ S0_.2.2.1 187 0 (12 * a2_ + vx35_).toNat ∧ S0_.2.2.1 187 0 (12 * a2_ + vx35_).toNat ≤ 1000 := hI_.2 187 0 _
          have hIx40_ : gi (sm_pI (sm_pI (sm_pI (sm_pI (sm_pI S0_ 13 0 0 0) 13 0 105 a1_) 13 0 106 a2_) 13 0 107 vx35_) 13 0 108 (S0_.2.2.1 187 0 (12 * a2_ + vx35_).toNat)) := gi_pI hIx36_ (show 0 ≤ (S0_.2.2.1 187 0 (12 * a2_ + vx35_).toNat) ∧ (S0_.2.2.1 187 0 (12 * a2_ + vx35_).toNat) ≤ 1000000000 from ⟨by omega, by omega⟩)
          have hFx41_ : ai_fr (sx_W vw_419) S0_ (sm_pI (sm_pI (sm_pI (sm_pI (sm_pI S0_ 13 0 0 0) 13 0 105 a1_) 13 0 106 a2_) 13 0 107 vx35_) 13 0 108 (S0_.2.2.1 187 0 (12 * a2_ + vx35_).toNat)) := ai_fr_tr hFx37_ (ai_fr_pI rfl)
          refine sm_T_go 2 (c1 := (104, [some (.inr (.inr (some (13, 0)))), some (.inl a1_), some (.inl a2_), some (.inl vx6_), none, none], [.inr (.inr (some (13, 0)))], sm_pI (sm_pI (sm_pI (sm_pI (sm_pI S0_ 13 0 0 0) 13 0 105 a1_) 13 0 106 a2_) 13 0 107 vx35_) 13 0 108 (S0_.2.2.1 187 0 (12 * a2_ + vx35_).toNat))) rfl ?_
          refine sm_T_cal (d1 := 2) (Q1 := vq_394 F_ N_ a1_ (sm_pI (sm_pI (sm_pI (sm_pI (sm_pI S0_ 13 0 0 0) 13 0 105 a1_) 13 0 106 a2_) 13 0 107 vx35_) 13 0 108 (S0_.2.2.1 187 0 (12 * a2_ + vx35_).toNat))) rfl rfl (by decide) (vc_394 F_ N_ a1_ (sm_pI (sm_pI (sm_pI (sm_pI (sm_pI S0_ 13 0 0 0) 13 0 105 a1_) 13 0 106 a2_) 13 0 107 vx35_) 13 0 108 (S0_.2.2.1 187 0 (12 * a2_ + vx35_).toNat)) hIx40_ (by exact ⟨⟨by omega, by omega, by (try simp only [rd_eq, rd_ne, rf_eq, rf_nk, rf_nt, rd_fa, rd_af, rd_fl, rd_al, rd_lf, rd_la, rd_leq, rd_lne, rd_fr, rd_ar, ne_eq, Nat.reduceEqDiff, not_false_eq_true]), by (show S0_.2.2.1 160 0 a1_.toNat = F_; omega), by (show S0_.2.2.1 159 0 a1_.toNat = N_; omega), by omega, by omega, by omega, by omega⟩, D9_⟩)) (fun u_ Sx42_ px45_ => ?_)
          obtain ⟨rfl, hIx43_, hFx44_, px45_⟩ := px45_
          have hFx46_ : ai_fr (sx_W vw_419) S0_ Sx42_ := ai_fr_tr hFx41_ (fr_le hFx44_ rfl)
          have e104_ := px45_
          have k104_ : ∀ c9_ : Nat, rcf c9_ ((sm_pI (sm_pI (sm_pI (sm_pI (sm_pI S0_ 13 0 0 0) 13 0 105 a1_) 13 0 106 a2_) 13 0 107 vx35_) 13 0 108 (S0_.2.2.1 187 0 (12 * a2_ + vx35_).toNat))) Sx42_ := fun c9_ => rcf_fr hFx44_ rfl
          have f104_ := hFx44_
          have M4_ : dmp F_ N_ a1_ (sm_pI (sm_pI (sm_pI (sm_pI (sm_pI S0_ 13 0 0 0) 13 0 105 a1_) 13 0 106 a2_) 13 0 107 vx35_) 13 0 108 (S0_.2.2.1 187 0 (12 * a2_ + vx35_).toNat)) := ⟨⟨by omega, by omega, by (try simp only [rd_eq, rd_ne, rf_eq, rf_nk, rf_nt, rd_fa, rd_af, rd_fl, rd_al, rd_lf, rd_la, rd_leq, rd_lne, rd_fr, rd_ar, ne_eq, Nat.reduceEqDiff, not_false_eq_true]), by (show S0_.2.2.1 160 0 a1_.toNat = F_; omega), by (show S0_.2.2.1 159 0 a1_.toNat = N_; omega), by omega, by omega, by omega, by omega⟩, D9_⟩
          have x160_ : Sx42_.2.2.1 160 0 a1_.toNat = F_ := (dmp_fr M4_ hFx44_).1.2.2.2.1
          have x106_ : Sx42_.1 13 0 106 = a2_ := (hFx44_.1 13 0 106 rfl).trans (by (try simp only [rd_eq, rd_ne, rf_eq, rf_nk, rf_nt, rd_fa, rd_af, rd_fl, rd_al, rd_lf, rd_la, rd_leq, rd_lne, rd_fr, rd_ar, ne_eq, Nat.reduceEqDiff, not_false_eq_true]))
          have y156_ : Sx42_.2.2.1 156 0 = ((sm_pI (sm_pI (sm_pI (sm_pI (sm_pI S0_ 13 0 0 0) 13 0 105 a1_) 13 0 106 a2_) 13 0 107 vx35_) 13 0 108 (S0_.2.2.1 187 0 (12 * a2_ + vx35_).toNat))).2.2.1 156 0 := fr_arr (t := 156) (i := 0) hFx44_ rfl
          have y155_ : Sx42_.2.2.1 155 0 = ((sm_pI (sm_pI (sm_pI (sm_pI (sm_pI S0_ 13 0 0 0) 13 0 105 a1_) 13 0 106 a2_) 13 0 107 vx35_) 13 0 108 (S0_.2.2.1 187 0 (12 * a2_ + vx35_).toNat))).2.2.1 155 0 := fr_arr (t := 155) (i := 0) hFx44_ rfl
          have v104_ : Sx42_.1 13 0 107 = -1 ∨ Sx42_.2.2.1 185 0 (12 * Sx42_.1 13 0 106 + Sx42_.1 13 0 107).toNat = 1 := by (rw [hFx44_.1 13 0 107 rfl, x106_, fr_arr (t := 185) (i := 0) hFx44_ rfl]; (try simp only [rd_eq, rd_ne, rf_eq, rf_nk, rf_nt, rd_fa, rd_af, rd_fl, rd_al, rd_lf, rd_la, rd_leq, rd_lne, rd_fr, rd_ar, ne_eq, Nat.reduceEqDiff, not_false_eq_true]); rcases e65_.2 with y9_ | y9_; exact Or.inl y9_; exact Or.inr y9_.2.2)
          refine sm_T_go 5 (c1 := (115, [some (.inr (.inr (some (13, 0)))), some (.inl a1_), some (.inl a2_), some (.inl vx6_), some (.inl 1), none], [.inl a1_, .inr (.inr (some (160, 0)))], Sx42_)) rfl ?_
          refine sm_T_iald (n := 6) rfl rfl (by omega) (by omega) ?_
          have bx47_ : 0 ≤ Sx42_.2.2.1 160 0 a1_.toNat ∧ Sx42_.2.2.1 160 0 a1_.toNat ≤ 19 := hIx43_.2 160 0 _
          refine sm_T_go 1 (c1 := (118, [some (.inr (.inr (some (13, 0)))), some (.inl a1_), some (.inl a2_), some (.inl vx6_), some (.inl 1), some (.inl (Sx42_.2.2.1 160 0 a1_.toNat))], [], Sx42_)) rfl ?_
          refine (vl_419 a1_ a2_ F_ N_ S0_ ha1_ ha2_ hJ_ hF0_ hN0_ _).1 vx6_ 1 (Sx42_.2.2.1 160 0 a1_.toNat) Sx42_ hIx43_ hFx46_ ⟨?_, ?_, ?_, ?_, ?_, ?_, ?_, ?_, ?_, ?_, ?_, trivial⟩ (Nat.lt_succ_self _)
          · omega
          · exact dmp_fr M4_ f104_
          · exact x106_
          · (rw [y156_, y155_]; exact e104_.2)
          · exact v104_
          · exact k104_ _
          · exact (congrFun (fr_arr (t := 222) (i := 0) f104_ rfl) _).trans C9_.2.2
          · exact e104_.1
          · (intro n9_ u0_ u1_; exfalso; omega)
          · (intro G9_ n9_ u0_ u1_; exfalso; omega)
          · (intro j9_ u0_ u1_; exfalso; omega)
        · have cx38_ : ¬ (vx35_ ≠ (-1)) := of_decide_eq_false cx38_
          refine sm_T_nt (u := some (.inl 1000000000)) (S1 := sm_pI (sm_pI (sm_pI (sm_pI S0_ 13 0 0 0) 13 0 105 a1_) 13 0 106 a2_) 13 0 107 vx35_) rfl rfl rfl ?_
          have hIx48_ : gi (sm_pI (sm_pI (sm_pI (sm_pI (sm_pI S0_ 13 0 0 0) 13 0 105 a1_) 13 0 106 a2_) 13 0 107 vx35_) 13 0 108 1000000000) := gi_pI hIx36_ (show 0 ≤ 1000000000 ∧ 1000000000 ≤ 1000000000 from ⟨by omega, by omega⟩)
          have hFx49_ : ai_fr (sx_W vw_419) S0_ (sm_pI (sm_pI (sm_pI (sm_pI (sm_pI S0_ 13 0 0 0) 13 0 105 a1_) 13 0 106 a2_) 13 0 107 vx35_) 13 0 108 1000000000) := ai_fr_tr hFx37_ (ai_fr_pI rfl)
          refine sm_T_go 3 (c1 := (104, [some (.inr (.inr (some (13, 0)))), some (.inl a1_), some (.inl a2_), some (.inl vx6_), none, none], [.inr (.inr (some (13, 0)))], sm_pI (sm_pI (sm_pI (sm_pI (sm_pI S0_ 13 0 0 0) 13 0 105 a1_) 13 0 106 a2_) 13 0 107 vx35_) 13 0 108 1000000000)) rfl ?_
          refine sm_T_cal (d1 := 2) (Q1 := vq_394 F_ N_ a1_ (sm_pI (sm_pI (sm_pI (sm_pI (sm_pI S0_ 13 0 0 0) 13 0 105 a1_) 13 0 106 a2_) 13 0 107 vx35_) 13 0 108 1000000000)) rfl rfl (by decide) (vc_394 F_ N_ a1_ (sm_pI (sm_pI (sm_pI (sm_pI (sm_pI S0_ 13 0 0 0) 13 0 105 a1_) 13 0 106 a2_) 13 0 107 vx35_) 13 0 108 1000000000) hIx48_ (by exact ⟨⟨by omega, by omega, by (try simp only [rd_eq, rd_ne, rf_eq, rf_nk, rf_nt, rd_fa, rd_af, rd_fl, rd_al, rd_lf, rd_la, rd_leq, rd_lne, rd_fr, rd_ar, ne_eq, Nat.reduceEqDiff, not_false_eq_true]), by (show S0_.2.2.1 160 0 a1_.toNat = F_; omega), by (show S0_.2.2.1 159 0 a1_.toNat = N_; omega), by omega, by omega, by omega, by omega⟩, D9_⟩)) (fun u_ Sx50_ px53_ => ?_)
          obtain ⟨rfl, hIx51_, hFx52_, px53_⟩ := px53_
          have hFx54_ : ai_fr (sx_W vw_419) S0_ Sx50_ := ai_fr_tr hFx49_ (fr_le hFx52_ rfl)
          have e104_ := px53_
          have k104_ : ∀ c9_ : Nat, rcf c9_ ((sm_pI (sm_pI (sm_pI (sm_pI (sm_pI S0_ 13 0 0 0) 13 0 105 a1_) 13 0 106 a2_) 13 0 107 vx35_) 13 0 108 1000000000)) Sx50_ := fun c9_ => rcf_fr hFx52_ rfl
          have f104_ := hFx52_
          have M4_ : dmp F_ N_ a1_ (sm_pI (sm_pI (sm_pI (sm_pI (sm_pI S0_ 13 0 0 0) 13 0 105 a1_) 13 0 106 a2_) 13 0 107 vx35_) 13 0 108 1000000000) := ⟨⟨by omega, by omega, by (try simp only [rd_eq, rd_ne, rf_eq, rf_nk, rf_nt, rd_fa, rd_af, rd_fl, rd_al, rd_lf, rd_la, rd_leq, rd_lne, rd_fr, rd_ar, ne_eq, Nat.reduceEqDiff, not_false_eq_true]), by (show S0_.2.2.1 160 0 a1_.toNat = F_; omega), by (show S0_.2.2.1 159 0 a1_.toNat = N_; omega), by omega, by omega, by omega, by omega⟩, D9_⟩
          have x160_ : Sx50_.2.2.1 160 0 a1_.toNat = F_ := (dmp_fr M4_ hFx52_).1.2.2.2.1
          have x106_ : Sx50_.1 13 0 106 = a2_ := (hFx52_.1 13 0 106 rfl).trans (by (try simp only [rd_eq, rd_ne, rf_eq, rf_nk, rf_nt, rd_fa, rd_af, rd_fl, rd_al, rd_lf, rd_la, rd_leq, rd_lne, rd_fr, rd_ar, ne_eq, Nat.reduceEqDiff, not_false_eq_true]))
          have y156_ : Sx50_.2.2.1 156 0 = ((sm_pI (sm_pI (sm_pI (sm_pI (sm_pI S0_ 13 0 0 0) 13 0 105 a1_) 13 0 106 a2_) 13 0 107 vx35_) 13 0 108 1000000000)).2.2.1 156 0 := fr_arr (t := 156) (i := 0) hFx52_ rfl
          have y155_ : Sx50_.2.2.1 155 0 = ((sm_pI (sm_pI (sm_pI (sm_pI (sm_pI S0_ 13 0 0 0) 13 0 105 a1_) 13 0 106 a2_) 13 0 107 vx35_) 13 0 108 1000000000)).2.2.1 155 0 := fr_arr (t := 155) (i := 0) hFx52_ rfl
          have v104_ : Sx50_.1 13 0 107 = -1 ∨ Sx50_.2.2.1 185 0 (12 * Sx50_.1 13 0 106 + Sx50_.1 13 0 107).toNat = 1 := by (rw [hFx52_.1 13 0 107 rfl, x106_, fr_arr (t := 185) (i := 0) hFx52_ rfl]; (try simp only [rd_eq, rd_ne, rf_eq, rf_nk, rf_nt, rd_fa, rd_af, rd_fl, rd_al, rd_lf, rd_la, rd_leq, rd_lne, rd_fr, rd_ar, ne_eq, Nat.reduceEqDiff, not_false_eq_true]); rcases e65_.2 with y9_ | y9_; exact Or.inl y9_; exact Or.inr y9_.2.2)
          refine sm_T_go 5 (c1 := (115, [some (.inr (.inr (some (13, 0)))), some (.inl a1_), some (.inl a2_), some (.inl vx6_), some (.inl 1), none], [.inl a1_, .inr (.inr (some (160, 0)))], Sx50_)) rfl ?_
          refine sm_T_iald (n := 6) rfl rfl (by omega) (by omega) ?_
          have bx55_ : 0 ≤ Sx50_.2.2.1 160 0 a1_.toNat ∧ Sx50_.2.2.1 160 0 a1_.toNat ≤ 19 := hIx51_.2 160 0 _
          refine sm_T_go 1 (c1 := (118, [some (.inr (.inr (some (13, 0)))), some (.inl a1_), some (.inl a2_), some (.inl vx6_), some (.inl 1), some (.inl (Sx50_.2.2.1 160 0 a1_.toNat))], [], Sx50_)) rfl ?_
          refine (vl_419 a1_ a2_ F_ N_ S0_ ha1_ ha2_ hJ_ hF0_ hN0_ _).1 vx6_ 1 (Sx50_.2.2.1 160 0 a1_.toNat) Sx50_ hIx51_ hFx54_ ⟨?_, ?_, ?_, ?_, ?_, ?_, ?_, ?_, ?_, ?_, ?_, trivial⟩ (Nat.lt_succ_self _)
          · omega
          · exact dmp_fr M4_ f104_
          · exact x106_
          · (rw [y156_, y155_]; exact e104_.2)
          · exact v104_
          · exact k104_ _
          · exact (congrFun (fr_arr (t := 222) (i := 0) f104_ rfl) _).trans C9_.2.2
          · exact e104_.1
          · (intro n9_ u0_ u1_; exfalso; omega)
          · (intro G9_ n9_ u0_ u1_; exfalso; omega)
          · (intro j9_ u0_ u1_; exfalso; omega)
      · have cx23_ : ¬ (vx6_ ≠ (-1)) := of_decide_eq_false cx23_
        have hIx56_ : gi (sm_pI S0_ 13 0 0 2) := gi_pI hI_ (show 0 ≤ 2 ∧ 2 ≤ 4 from ⟨by omega, by omega⟩)
        have hFx57_ : ai_fr (sx_W vw_419) S0_ (sm_pI S0_ 13 0 0 2) := ai_fr_tr hF_ (ai_fr_pI rfl)
        refine sm_T_go 7 (c1 := (51, [some (.inr (.inr (some (13, 0)))), some (.inl a1_), some (.inl a2_), some (.inl vx6_), none, none], [.inl 0], sm_pI S0_ 13 0 0 2)) rfl ?_
        refine sm_T_ri rfl ⟨_, _, rfl, _, rfl, hIx56_, hFx57_, ?_⟩
        exact ⟨⟨by omega, by omega⟩, hJ_⟩
    · have cx22_ : ¬ (vx21_ ≠ 0) := of_decide_eq_false cx22_
      have hIx58_ : gi (sm_pI S0_ 13 0 0 1) := gi_pI hI_ (show 0 ≤ 1 ∧ 1 ≤ 4 from ⟨by omega, by omega⟩)
      have hFx59_ : ai_fr (sx_W vw_419) S0_ (sm_pI S0_ 13 0 0 1) := ai_fr_tr hF_ (ai_fr_pI rfl)
      refine sm_T_go 7 (c1 := (51, [some (.inr (.inr (some (13, 0)))), some (.inl a1_), some (.inl a2_), some (.inl vx6_), none, none], [.inl 0], sm_pI S0_ 13 0 0 1)) rfl ?_
      refine sm_T_ri rfl ⟨_, _, rfl, _, rfl, hIx58_, hFx59_, ?_⟩
      exact ⟨⟨by omega, by omega⟩, hJ_⟩
end
/-! 99.zt3 -/
section
/-! the reference: designs and libraries read; written by wip/p55/gen/vg -/

/-! the_ reference: designs and libraries read -/
theorem rdf_sl {a_ d_ : Nat} {S_ S'_ : sm_S} (g_ : rdf a_ S_ S'_) (h_ : d_ ≠ a_) (t_ : Nat) (h1_ : 153 ≤ t_) (h2_ : t_ < 171) (j_ : Nat) (j0_ : rds t_ * d_ ≤ j_) (j1_ : j_ < rds t_ * d_ + rds t_) : S'_.2.2.1 t_ 0 j_ = S_.2.2.1 t_ 0 j_ := g_ t_ h2_ h1_ j_ (by
  rcases Nat.lt_or_gt_of_ne h_ with z_ | z_
  · left
    have := Nat.mul_le_mul_left (rds t_) (show d_ + 1 ≤ a_ by omega)
    rw [Nat.mul_add] at this
    omega
  · right
    have := Nat.mul_le_mul_left (rds t_) (show a_ + 1 ≤ d_ by omega)
    rw [Nat.mul_add] at this
    omega)
theorem dRk_rd {a_ d_ : Nat} {S_ S'_ : sm_S} (h_ : dRk d_ S_) (g_ : rdf a_ S_ S'_) (hd_ : d_ ≠ a_) : dRk d_ S'_ := by
  have q_ : ∀ t_, 153 ≤ t_ → t_ < 171 → rds t_ = 1 → S'_.2.2.1 t_ 0 d_ = S_.2.2.1 t_ 0 d_ := fun t_ h1_ h2_ e_ => rdf_sl g_ hd_ t_ h1_ h2_ d_ (by rw [e_]; omega) (by rw [e_]; omega)
  have w_ : ∀ t_, 164 ≤ t_ → t_ < 167 → ∀ k_, k_ < 2048 → S'_.2.2.1 t_ 0 (2048 * d_ + k_) = S_.2.2.1 t_ 0 (2048 * d_ + k_) := fun t_ h1_ h2_ k_ hk_ => by
    have e_ : rds t_ = 2048 := by
      unfold rds
      rw [if_neg (by omega), if_pos (by omega)]
    exact rdf_sl g_ hd_ t_ (by omega) (by omega) _ (by rw [e_]; omega) (by rw [e_]; omega)
  obtain ⟨F_, I_, R_, N_, k1_, k2_, k3_, k4_, k5_, k6_, k7_, k8_⟩ := h_
  refine ⟨F_, I_, R_, N_, ?_, fun k_ a_ b_ => ?_, ⟨?_, fun m_ hm_ => ?_⟩, fun k_ hk_ => ?_, fun k_ hk_ => ?_, ?_, ?_, fun p_ hp_ => ?_⟩
  · rw [q_ 154 (by decide) (by decide) rfl, q_ 155 (by decide) (by decide) rfl, q_ 156 (by decide) (by decide) rfl, q_ 159 (by decide) (by decide) rfl, q_ 160 (by decide) (by decide) rfl]
    exact k1_
  · have z_ := k2_ k_ a_ b_
    show 2 ≤ S'_.2.2.1 164 0 (2048 * d_ + k_) ∧ S'_.2.2.1 164 0 (2048 * d_ + k_) < S'_.2.2.1 165 0 (2048 * d_ + k_) ∧ S'_.2.2.1 165 0 (2048 * d_ + k_) < 2 * (k_ : Int)
    rw [w_ 164 (by decide) (by decide) k_ (by omega), w_ 165 (by decide) (by decide) k_ (by omega)]
    exact z_
  · have y_ := w_ 166 (by decide) (by decide) 0 (by decide)
    rw [Nat.add_zero] at y_
    rw [y_]
    exact k3_.1
  · exact sfo_ap (n_ := N_) (fun a_ => k2_ m_ a_ hm_) hm_ (k3_.2 m_ hm_) (fun k_ hk_ => w_ 164 (by decide) (by decide) k_ (by omega)) (fun k_ hk_ => w_ 165 (by decide) (by decide) k_ (by omega)) (fun k_ hk_ => w_ 166 (by decide) (by decide) k_ (by omega))
  · rw [q_ 156 (by decide) (by decide) rfl] at hk_
    rw [rdf_sl g_ hd_ 167 (by decide) (by decide) (16 * d_ + k_) (by rw [show rds 167 = 16 from rfl]; omega) (by rw [show rds 167 = 16 from rfl]; omega)]
    exact k4_ k_ hk_
  · rw [rdf_sl g_ hd_ 168 (by decide) (by decide) (6 * d_ + k_) (by rw [show rds 168 = 6 from rfl]; omega) (by rw [show rds 168 = 6 from rfl]; omega)]
    exact k5_ k_ hk_
  · rw [q_ 157 (by decide) (by decide) rfl]
    exact k6_
  · rw [q_ 158 (by decide) (by decide) rfl]
    exact k7_
  · have l_ : 2 ^ (I_ + R_) ≤ 2 ^ 12 := Nat.pow_le_pow_right (by decide) (by omega)
    have l2_ : 2 ^ 12 = 4096 := by decide
    rw [rdf_sl g_ hd_ 170 (by decide) (by decide) (4096 * d_ + p_) (by rw [show rds 170 = 4096 from rfl]; omega) (by rw [show rds 170 = 4096 from rfl]; omega)]
    exact k8_ p_ hp_
theorem jR_de {b_ : Nat → Int} {n_ : Nat} {S0_ S1_ : sm_S} {u_ : Option sm_V} (hJ_ : jR S0_) (q_ : vq_363 b_ n_ S0_ u_ S1_) : jR S1_ := by
  obtain ⟨v_, -, hI_, f_, h_⟩ := q_
  refine ⟨fun d_ hd_ z_ => ?_, rcAll_fr hJ_.2 hI_ f_ rfl⟩
  have k_ : ∀ a_, rdf a_ S0_ S1_ → d_ ≠ a_ → dRk d_ S1_ := fun a_ g_ e_ => by
    rw [rdf_sl g_ e_ 153 (by decide) (by decide) d_ (by rw [show rds 153 = 1 from rfl]; omega) (by rw [show rds 153 = 1 from rfl]; omega)] at z_
    exact dRk_rd (hJ_.1 d_ hd_ z_) g_ e_
  rcases h_ with ⟨-, -, -, g_⟩ | ⟨-, s_, hs_, -, -, -, g_, h_⟩
  · exact k_ 6 g_ (by omega)
  · by_cases e_ : d_ = s_
    · subst e_
      rcases h_ with h_ | h_
      · exact h_.2.2
      · rw [h_.2] at z_
        exact absurd z_ (by decide)
    · exact k_ s_ g_ e_
theorem jR_li {b_ : Nat → Int} {n_ : Nat} {S0_ S1_ : sm_S} {u_ : Option sm_V} (hJ_ : jR S0_) (q_ : vq_367 b_ n_ S0_ u_ S1_) : jR S1_ := by
  obtain ⟨v_, -, hI_, f_, -⟩ := q_
  exact jR_fr hJ_ hI_ f_ rfl rfl
end
/-! 99.zt4 -/
section
/-! the reference: why end is refused; what was thrown -/
def vq_thw (S0_ : sm_S) (u_ : Option sm_V) (S1_ : sm_S) : Prop := S0_ = S1_ ∧ u_ = some (.inl (S0_.1 13 0 0))
theorem vc_thw {sc_ : Nat × (Nat → Int)} (S0_ : sm_S) : sm_T (mt_P sc_) 0 587 (0, [some (.inr (.inr (some (13, 0))))], [], S0_) (fun r_ => ∃ u_ S1_, r_ = (.inl u_, S1_, 0) ∧ vq_thw S0_ u_ S1_) := by
  refine sm_T_go 2 (c1 := (4, [some (.inr (.inr (some (13, 0))))], [.inl (S0_.1 13 0 0)], S0_)) rfl ?_
  exact sm_T_ri rfl ⟨_, _, rfl, rfl, rfl⟩
end
/-! 99.zt5 -/
section
/-! why the end of the tape is refused by the reference; written by wip/p55/gen/vg -/
/-! M_.end -/
def vw_280t : sx_Wl := ([(13, 0), (13, 2)], [], [])
def vq_280t (n_ : Int) (S0_ : sm_S) (u_ : Option sm_V) (S1_ : sm_S) : Prop := u_ = none ∧ gi S1_ ∧ ai_fr (sx_W vw_280t) S0_ S1_ ∧ (jR S1_ ∧ (S1_.1 13 0 2 = if 0 ≤ n_ ∧ n_ ≤ S0_.1 13 0 2 then n_ else S0_.1 13 0 2) ∧ S1_.1 13 0 0 = if 0 ≤ n_ ∧ n_ ≤ S0_.1 13 0 2 then 0 else 1)
set_option maxHeartbeats 400000 in
set_option maxRecDepth 20000 in
theorem vc_280t {sc_ : Nat × (Nat → Int)} (n_ : Int) (S0_ : sm_S) (hI_ : gi S0_) (hJ_ : jR S0_) : sm_T (mt_P sc_) 0 280 (0, [some (.inr (.inr (some (13, 0)))), some (.inl n_)], [], S0_) (fun ro9_ => ∃ u_ S1_, ro9_ = (.inl u_, S1_, 0) ∧ vq_280t n_ S0_ u_ S1_) := by
  have hF_ : ai_fr (sx_W vw_280t) S0_ S0_ := ai_fr_rf
  refine sm_T_go 2 (c1 := (2, [some (.inr (.inr (some (13, 0)))), some (.inl n_)], [.inl n_, .inr (.inr (some (13, 0)))], S0_)) rfl ?_
  refine sm_T_b0 (a := 2) (z := 11) rfl (fun cx1_ => ?_) (fun cx1_ => ?_)
  · have cx1_ : n_ < 0 := of_decide_eq_true cx1_
    have hIx2_ : gi (sm_pI S0_ 13 0 0 1) := gi_pI hI_ (show 0 ≤ 1 ∧ 1 ≤ 4 from ⟨by omega, by omega⟩)
    have hFx3_ : ai_fr (sx_W vw_280t) S0_ (sm_pI S0_ 13 0 0 1) := ai_fr_tr hF_ (ai_fr_pI rfl)
    have bx4_ : 0 ≤ S0_.1 13 0 2 ∧ S0_.1 13 0 2 ≤ 1280 := hI_.1 13 0 2 rfl
    have hIx5_ : gi (sm_pI (sm_pI S0_ 13 0 0 1) 13 0 2 (S0_.1 13 0 2)) := gi_pI hIx2_ (show 0 ≤ (S0_.1 13 0 2) ∧ (S0_.1 13 0 2) ≤ 1280 from ⟨by omega, by omega⟩)
    have hFx6_ : ai_fr (sx_W vw_280t) S0_ (sm_pI (sm_pI S0_ 13 0 0 1) 13 0 2 (S0_.1 13 0 2)) := ai_fr_tr hFx3_ (ai_fr_pI rfl)
    refine sm_T_go 11 (c1 := (40, [some (.inr (.inr (some (13, 0)))), some (.inl n_)], [], sm_pI (sm_pI S0_ 13 0 0 1) 13 0 2 (S0_.1 13 0 2))) rfl ?_
    refine sm_T_rv rfl ⟨_, _, rfl, rfl, hIx5_, hFx6_, ?_⟩
    refine ⟨hJ_, ?_, ?_⟩
    · first | (rw [if_pos (by omega)]; exact rf_eq) | (rw [if_neg (by omega)]; exact rf_eq) | (rw [if_neg (by omega)]; rw [rf_nk (by decide)])
    · refine ((rf_nk (by decide)).trans rf_eq).trans ?_; first | rw [if_pos (by omega)] | rw [if_neg (by omega)]
  · have cx1_ : ¬ (n_ < 0) := of_decide_eq_false cx1_
    have bx7_ : 0 ≤ S0_.1 13 0 2 ∧ S0_.1 13 0 2 ≤ 1280 := hI_.1 13 0 2 rfl
    refine sm_T_go 3 (c1 := (10, [some (.inr (.inr (some (13, 0)))), some (.inl n_)], [.inl (S0_.1 13 0 2), .inl n_, .inr (.inr (some (13, 0)))], S0_)) rfl ?_
    refine sm_T_br (a := 5) (z := 7) rfl (fun cx8_ => ?_) (fun cx8_ => ?_)
    · have cx8_ : n_ ≤ (S0_.1 13 0 2) := of_decide_eq_true cx8_
      have hIx9_ : gi (sm_pI S0_ 13 0 0 0) := gi_pI hI_ (show 0 ≤ 0 ∧ 0 ≤ 4 from ⟨by omega, by omega⟩)
      have hFx10_ : ai_fr (sx_W vw_280t) S0_ (sm_pI S0_ 13 0 0 0) := ai_fr_tr hF_ (ai_fr_pI rfl)
      have hIx11_ : gi (sm_pI (sm_pI S0_ 13 0 0 0) 13 0 2 n_) := gi_pI hIx9_ (show 0 ≤ n_ ∧ n_ ≤ 1280 from ⟨by omega, by omega⟩)
      have hFx12_ : ai_fr (sx_W vw_280t) S0_ (sm_pI (sm_pI S0_ 13 0 0 0) 13 0 2 n_) := ai_fr_tr hFx10_ (ai_fr_pI rfl)
      refine sm_T_go 8 (c1 := (40, [some (.inr (.inr (some (13, 0)))), some (.inl n_)], [], sm_pI (sm_pI S0_ 13 0 0 0) 13 0 2 n_)) rfl ?_
      refine sm_T_rv rfl ⟨_, _, rfl, rfl, hIx11_, hFx12_, ?_⟩
      refine ⟨hJ_, ?_, ?_⟩
      · first | (rw [if_pos (by omega)]; exact rf_eq) | (rw [if_neg (by omega)]; exact rf_eq) | (rw [if_neg (by omega)]; rw [rf_nk (by decide)])
      · refine ((rf_nk (by decide)).trans rf_eq).trans ?_; first | rw [if_pos (by omega)] | rw [if_neg (by omega)]
    · have cx8_ : ¬ (n_ ≤ (S0_.1 13 0 2)) := of_decide_eq_false cx8_
      have hIx13_ : gi (sm_pI S0_ 13 0 0 1) := gi_pI hI_ (show 0 ≤ 1 ∧ 1 ≤ 4 from ⟨by omega, by omega⟩)
      have hFx14_ : ai_fr (sx_W vw_280t) S0_ (sm_pI S0_ 13 0 0 1) := ai_fr_tr hF_ (ai_fr_pI rfl)
      have hIx15_ : gi (sm_pI (sm_pI S0_ 13 0 0 1) 13 0 2 (S0_.1 13 0 2)) := gi_pI hIx13_ (show 0 ≤ (S0_.1 13 0 2) ∧ (S0_.1 13 0 2) ≤ 1280 from ⟨by omega, by omega⟩)
      have hFx16_ : ai_fr (sx_W vw_280t) S0_ (sm_pI (sm_pI S0_ 13 0 0 1) 13 0 2 (S0_.1 13 0 2)) := ai_fr_tr hFx14_ (ai_fr_pI rfl)
      refine sm_T_go 11 (c1 := (40, [some (.inr (.inr (some (13, 0)))), some (.inl n_)], [], sm_pI (sm_pI S0_ 13 0 0 1) 13 0 2 (S0_.1 13 0 2))) rfl ?_
      refine sm_T_rv rfl ⟨_, _, rfl, rfl, hIx15_, hFx16_, ?_⟩
      refine ⟨hJ_, ?_, ?_⟩
      · first | (rw [if_pos (by omega)]; exact rf_eq) | (rw [if_neg (by omega)]; exact rf_eq) | (rw [if_neg (by omega)]; rw [rf_nk (by decide)])
      · refine ((rf_nk (by decide)).trans rf_eq).trans ?_; first | rw [if_pos (by omega)] | rw [if_neg (by omega)]
end
/-! 99.zt6 -/
section
/-! what design answers: the class; written by wip/p55/gen/vg -/

/-! what design answers -/
/-- the_ fault of_ a_ text that is_ a_ design but_ for_ its_ limits -/
def dfl (r_ : pD) (e_ : Int × Nat) : Prop := e_.2 = r_.2.1 (d_tp r_) ∧ ((d_lm r_ ≠ 0 ∧ e_.1 = d_lm r_) ∨ (d_lm r_ = 0 ∧ (∃ z_, d_gr r_ z_ ∧ 1000 < z_.1.1.length) ∧ e_.1 = 23))
/-- the_ fault of_ a_ text -/
def dfe (b_ : Nat → Int) (n_ : Nat) (e_ : Int × Nat) : Prop := p_de b_ n_ = .inl e_ ∨ ∃ r_, p_de b_ n_ = .inr r_ ∧ dfl r_ e_
/-- an_ accepted text: its_ tables and its_ graph -/
def dok (b_ : Nat → Int) (n_ : Nat) (r_ : pD) (z_ : gQ × gE) : Prop := p_de b_ n_ = .inr r_ ∧ d_lm r_ = 0 ∧ d_gr r_ z_ ∧ z_.1.1.length ≤ 1000
theorem dok_a {b_ : Nat → Int} {n_ : Nat} {r_ : pD} {z_ : gQ × gE} (h_ : dok b_ n_ r_ z_) : dacc b_ n_ := ⟨r_, z_, h_⟩
theorem dok_u {b_ : Nat → Int} {n_ : Nat} {r_ s_ : pD} {z_ y_ : gQ × gE} (h_ : dok b_ n_ r_ z_) (k_ : dok b_ n_ s_ y_) : r_ = s_ ∧ z_ = y_ := by
  obtain ⟨h1_, h2_, h3_, h4_⟩ := h_
  obtain ⟨k1_, k2_, k3_, k4_⟩ := k_
  rw [h1_] at k1_
  cases k1_
  unfold d_gr at h3_ k3_
  rw [h3_] at k3_
  cases k3_
  exact ⟨rfl, rfl⟩
/-- the_ class keeps that graph -/
def dgx (dd_ : Nat) (r_ : pD) (z_ : gQ × gE) (S_ : sm_S) : Prop := (S_.1 3 dd_ 1 = (d_I r_ : Int) ∧ S_.1 3 dd_ 2 = (d_R r_ : Int) ∧ S_.1 3 dd_ 3 = su (t_in r_.1 1 (d_tp r_)) (r_.1.1 (d_tp r_)) ∧ S_.1 3 dd_ 4 = ((1 + d_I r_ + d_R r_ + z_.1.1.length : Nat) : Int)) ∧ ∀ (k_ : Nat) (x_ y_ : Int), z_.1.1[k_]? = some (x_, y_) → S_.2.2.1 42 (0 + dd_) (1 + d_I r_ + d_R r_ + k_) = x_ ∧ S_.2.2.1 43 (0 + dd_) (1 + d_I r_ + d_R r_ + k_) = y_
theorem dgx_fr {w_ : sx_Wl} {dd_ : Nat} {r_ : pD} {z_ : gQ × gE} {S_ S'_ : sm_S} (h_ : dgx dd_ r_ z_ S_) (g_ : ai_fr (sx_W w_) S_ S'_) (h1_ : (sx_W w_).1 3 1 = false) (h2_ : (sx_W w_).1 3 2 = false) (h9_ : (sx_W w_).1 3 3 = false) (h3_ : (sx_W w_).1 3 4 = false) (h4_ : (sx_W w_).2.1 42 = false) (h5_ : (sx_W w_).2.1 43 = false) : dgx dd_ r_ z_ S'_ := by
  unfold dgx
  rw [g_.1 3 dd_ 1 h1_, g_.1 3 dd_ 2 h2_, g_.1 3 dd_ 3 h9_, g_.1 3 dd_ 4 h3_, fr_arr (t := 42) g_ h4_, fr_arr (t := 43) g_ h5_]
  exact h_
theorem dfl_na {b_ : Nat → Int} {n_ : Nat} {r_ : pD} {e_ : Int × Nat} (h_ : p_de b_ n_ = .inr r_) (hq_ : dfl r_ e_) : ¬ dacc b_ n_ := by
  obtain ⟨-, q_⟩ := hq_
  rcases q_ with q_ | q_
  · exact dacc_r h_ (Or.inl q_.1)
  · exact dacc_r h_ (Or.inr ⟨q_.1, q_.2.1⟩)
theorem dfe_u {b_ : Nat → Int} {n_ : Nat} {e_ g_ : Int × Nat} (h_ : dfe b_ n_ e_) (k_ : dfe b_ n_ g_) : e_ = g_ := by
  rcases h_ with h_ | ⟨r_, h_, h1_, h2_⟩
  · rcases k_ with k_ | ⟨s_, k_, -⟩
    · rw [h_] at k_; cases k_; rfl
    · rw [h_] at k_; cases k_
  · rcases k_ with k_ | ⟨s_, k_, k1_, k2_⟩
    · rw [h_] at k_; cases k_
    · rw [h_] at k_
      cases k_
      have e2_ : e_.2 = g_.2 := h1_.trans k1_.symm
      have e1_ : e_.1 = g_.1 := by
        rcases h2_ with h2_ | h2_
        · rcases k2_ with k2_ | k2_
          · exact h2_.2.trans k2_.2.symm
          · exact absurd k2_.1 h2_.1
        · rcases k2_ with k2_ | k2_
          · exact absurd h2_.1 k2_.1
          · exact h2_.2.2.trans k2_.2.2.symm
      exact Prod.ext e1_ e2_

/-! Builder.build -/
def vw_31v : sx_Wl := ([(1, 3), (1, 6), (1, 8), (1, 9), (1, 13), (3, 0), (3, 1), (3, 2), (3, 3), (3, 4), (3, 5), (3, 6), (3, 7), (3, 8), (3, 9), (10, 6), (10, 7)], [26, 27, 28, 29, 30, 31, 32, 33, 42, 43, 44, 45, 46, 47], [(1, 1)])
def vq_31v (b_ : Nat → Int) (n_ : Nat) (r_ : pD) (dd_ : Nat) (S0_ : sm_S) (u_ : Option sm_V) (S1_ : sm_S) : Prop := u_ = none ∧ gi S1_ ∧ ai_fr (sx_W vw_31v) S0_ S1_ ∧ (idf dd_ S0_ S1_ ∧ (d_lm r_ = 0 ∧ (∃ z_, d_gr r_ z_ ∧ z_.1.1.length ≤ 1000 ∧ dgx dd_ r_ z_ S1_) ∧ S1_.1 3 dd_ 0 = 1 ∧ dOk dd_ S1_))
def vx_31v (b_ : Nat → Int) (n_ : Nat) (r_ : pD) (dd_ : Nat) (S0_ : sm_S) (S1_ : sm_S) : Prop := gi S1_ ∧ ai_fr (sx_W vw_31v) S0_ S1_ ∧ (idf dd_ S0_ S1_ ∧ (∃ e_, dfl r_ e_ ∧ ter S1_ e_) ∧ S1_.1 3 dd_ 0 = S0_.1 3 dd_ 0)
set_option maxHeartbeats 4000000 in
theorem vc_31v {sc_ : Nat × (Nat → Int)} (b_ : Nat → Int) (n_ : Nat) (r_ : pD) (dd_ : Nat) (S0_ : sm_S) (hI_ : gi S0_) (hr_ : p_de b_ n_ = .inr r_) (hb_ : br b_ n_ r_.1 r_.2.1 r_.2.2.1 r_.2.2.2.2 S0_) (hmc_ : ∀ k_ : Nat, k_ ≤ r_.2.2.1 → S0_.2.2.1 76 0 k_ = (r_.2.2.2.1 k_ : Int)) (h1_ : 1 ≤ r_.2.2.1) (hn_ : n_ ≤ 1280) : sm_T (mt_P sc_) 27 31 (0, [some (.inr (.inr (some (1, 0)))), some (.inr (.inr (some (3, dd_)))), none, none, none], [], S0_) (fun ro9_ => (∃ u_ S1_, ro9_ = (.inl u_, S1_, 0) ∧ vq_31v b_ n_ r_ dd_ S0_ u_ S1_) ∨ ∃ S1_, ro9_ = (.inr 2, S1_, 1) ∧ vx_31v b_ n_ r_ dd_ S0_ S1_) := by
  have hF_ : ai_fr (sx_W vw_31v) S0_ S0_ := ai_fr_rf
  have hD_ : idf dd_ S0_ S0_ := idf_rf
  obtain ⟨b1_, b2_, ba_, b4_, b5_⟩ := hb_
  have tp9_ : d_tp r_ + 1 = r_.2.2.1 := by unfold d_tp; omega
  have tn9_ : (d_tp r_ : Int) = S0_.1 7 0 3 - 1 := by omega
  have nm9_ := b4_.2 (d_tp r_) (by omega)
  have nm8_ : S0_.2.2.1 75 0 (S0_.1 7 0 3 - 1).toNat = ((16 * r_.2.1 (d_tp r_) + lx_sz b_ n_ (r_.2.1 (d_tp r_)) : Nat) : Int) := by rw [show (S0_.1 7 0 3 - 1).toNat = d_tp r_ by omega]; exact nm9_.1
  have nm7_ := nm9_.2.1
  have nm6_ := nmp_sz nm9_.2
  have cc0_ := ccd_of hn_ hr_ b5_ hI_ hmc_
  clear nm9_
  have hIx1_ : gi (sm_pR S0_ 1 0 1 (some dd_)) := gi_pR hI_
  have hFx2_ : ai_fr (sx_W vw_31v) S0_ (sm_pR S0_ 1 0 1 (some dd_)) := ai_fr_tr hF_ (ai_fr_pR rfl)
  have tx3_ : (sm_pR S0_ 1 0 1 (some dd_)).2.1 1 0 1 = some dd_ := (sm_up_self (f := S0_.2.1) (t := 1) (i := 0) (k := 1) (v := some dd_))
  have hDx4_ : idf dd_ S0_ (sm_pR S0_ 1 0 1 (some dd_)) := idf_pR hD_
  have bx5_ : 0 ≤ S0_.1 7 0 3 ∧ S0_.1 7 0 3 ≤ 16 := hI_.1 7 0 3 rfl
  refine sm_T_go 7 (c1 := (13, [some (.inr (.inr (some (1, 0)))), some (.inr (.inr (some (3, dd_)))), none, none, none], [.inl 1, .inl (S0_.1 7 0 3)], sm_pR S0_ 1 0 1 (some dd_))) rfl ?_
  refine sm_T_bin (w := (S0_.1 7 0 3) - 1) rfl (bi_sub (by omega) (by omega) (by omega)) ?_
  refine sm_T_go 2 (c1 := (16, [some (.inr (.inr (some (1, 0)))), some (.inr (.inr (some (3, dd_)))), some (.inl ((S0_.1 7 0 3) - 1)), none, none], [.inl ((S0_.1 7 0 3) - 1)], sm_pR S0_ 1 0 1 (some dd_))) rfl ?_
  refine sm_T_b0 (a := 3) (z := 4) rfl (fun cx6_ => ?_) (fun cx6_ => ?_)
  · have cx6_ : 0 ≤ (S0_.1 7 0 3) - 1 := of_decide_eq_true cx6_
    refine sm_T_go 4 (c1 := (28, [some (.inr (.inr (some (1, 0)))), some (.inr (.inr (some (3, dd_)))), some (.inl ((S0_.1 7 0 3) - 1)), none, none], [.inl ((S0_.1 7 0 3) - 1), .inr (.inr (some (75, 0)))], sm_pR S0_ 1 0 1 (some dd_))) rfl ?_
    refine sm_T_iald (n := 16) rfl rfl (by omega) (by omega) ?_
    have bx7_ : 0 ≤ S0_.2.2.1 75 0 ((S0_.1 7 0 3) - 1).toNat ∧ S0_.2.2.1 75 0 ((S0_.1 7 0 3) - 1).toNat ≤ 65535 := hI_.2 75 0 _
    refine sm_T_go 1 (c1 := (30, [some (.inr (.inr (some (1, 0)))), some (.inr (.inr (some (3, dd_)))), some (.inl ((S0_.1 7 0 3) - 1)), none, none], [.inl 4, .inl (S0_.2.2.1 75 0 ((S0_.1 7 0 3) - 1).toNat)], sm_pR S0_ 1 0 1 (some dd_))) rfl ?_
    refine sm_T_bin (w := ((S0_.2.2.1 75 0 ((S0_.1 7 0 3) - 1).toNat) / 16)) rfl (bi_shr (k := 4) (by decide) (by omega) (by omega)) ?_
    refine sm_T_go 3 (c1 := (34, [some (.inr (.inr (some (1, 0)))), some (.inr (.inr (some (3, dd_)))), some (.inl ((S0_.1 7 0 3) - 1)), some (.inl ((S0_.2.2.1 75 0 ((S0_.1 7 0 3) - 1).toNat) / 16)), none], [.inl ((S0_.1 7 0 3) - 1), .inr (.inr (some (1, 0)))], sm_pR S0_ 1 0 1 (some dd_))) rfl ?_
    refine sm_T_cal (d1 := 1) (Q1 := vq_32d ((S0_.1 7 0 3) - 1) b_ n_ r_.1 (d_tp r_) dd_ (sm_pR S0_ 1 0 1 (some dd_))) rfl rfl (by decide) (vc_32d ((S0_.1 7 0 3) - 1) b_ n_ r_.1 (d_tp r_) dd_ (sm_pR S0_ 1 0 1 (some dd_)) hIx1_ (by omega) (by (intro k9_ h9_; exact er1_fr (ba_ k9_ (by omega)).2 (ai_fr_pR (W_ := sx_W ([], [], [(1, 1)])) rfl) rfl rfl rfl rfl rfl)) (by exact (ba_ _ (by omega)).1) (by exact tx3_)) (fun u_ Sx8_ px11_ => ?_)
    obtain ⟨vx13_, rfl, hIx9_, hFx10_, px11_⟩ := px11_
    have hFx12_ : ai_fr (sx_W vw_31v) S0_ Sx8_ := ai_fr_tr hFx2_ (fr_le hFx10_ rfl)
    obtain ⟨dx15_, px11_⟩ := px11_
    have hDx14_ : idf dd_ S0_ Sx8_ := idf_tr hDx4_ dx15_
    have tx16_ : Sx8_.2.1 1 0 1 = some dd_ := (hFx10_.2.1 1 0 1 rfl).trans tx3_
    have e34_ := px11_
    have us34_ : Sx8_.1 3 dd_ 0 = S0_.1 3 dd_ 0 := hFx10_.1 3 dd_ 0 rfl
    have gu_ := g_uq (fun m9_ h9_ => (ba_ m9_ h9_).1) (r_ := Sx8_.2.2.1 31 0) (i_ := Sx8_.2.2.1 30 0) (fun m9_ h9_ => ⟨(e34_.2.1 m9_ (by omega)).2, (e34_.2.1 m9_ (by omega)).1⟩) (d_tp r_ + 1) (d_tp r_) (by omega) (by omega)
    have lm_ : vx13_ = d_lm r_ := by rw [e34_.1, gu_.1, gu_.2]; rfl
    have e34c := e34_.2.2
    have er34_ : ∀ k9_, k9_ ≤ d_tp r_ → er1 b_ n_ r_.1 k9_ Sx8_ := fun k9_ h9_ => er1_fr (ba_ k9_ (by omega)).2 hFx12_ rfl rfl rfl rfl rfl
    have lmb_ : 0 ≤ vx13_ ∧ vx13_ ≤ 22 := by rw [lm_]; exact lm_b
    clear e34_
    refine sm_T_go 2 (c1 := (41, [some (.inr (.inr (some (1, 0)))), some (.inr (.inr (some (3, dd_)))), some (.inl ((S0_.1 7 0 3) - 1)), some (.inl ((S0_.2.2.1 75 0 ((S0_.1 7 0 3) - 1).toNat) / 16)), some (.inl vx13_)], [.inl vx13_], Sx8_)) rfl ?_
    refine sm_T_b0 (a := 0) (z := 16) rfl (fun cx17_ => ?_) (fun cx17_ => ?_)
    · have cx17_ : vx13_ = 0 := of_decide_eq_true cx17_
      have l0_ : d_lm r_ = 0 := by omega
      obtain ⟨z_, hz_, zR_, zl_⟩ := d_zz hn_ hr_ l0_
      have l9_ := lm_0 l0_
      obtain ⟨i1_, i2_, i3_, i4_, i5_⟩ := d_in hn_ hr_
      obtain ⟨a1_, a2_, a3_⟩ := e34c (by omega)
      have a2b := a2_.trans gu_.1
      refine sm_T_go 2 (c1 := (59, [some (.inr (.inr (some (1, 0)))), some (.inr (.inr (some (3, dd_)))), some (.inl ((S0_.1 7 0 3) - 1)), some (.inl ((S0_.2.2.1 75 0 ((S0_.1 7 0 3) - 1).toNat) / 16)), some (.inl vx13_)], [.inl ((S0_.1 7 0 3) - 1), .inr (.inr (some (1, 0)))], Sx8_)) rfl ?_
      refine sm_T_cal (d1 := 1) (Q1 := vq_34 ((S0_.1 7 0 3) - 1) b_ n_ r_.1 (d_tp r_) dd_ (1 + d_I r_ + d_R r_) (d_I r_) Sx8_) rfl rfl (by decide) (vc_34 ((S0_.1 7 0 3) - 1) b_ n_ r_.1 (d_tp r_) dd_ (1 + d_I r_ + d_R r_) (d_I r_) Sx8_ hIx9_ (by exact tx16_) (by omega) (by omega) (by omega) (by exact er34_ _ (Nat.le_refl _)) (by exact (ba_ _ (by omega)).1) (by omega)) (fun u_ Sx18_ px21_ => ?_)
      obtain ⟨rfl, hIx19_, hFx20_, px21_⟩ := px21_
      have hFx22_ : ai_fr (sx_W vw_31v) S0_ Sx18_ := ai_fr_tr hFx12_ (fr_le hFx20_ rfl)
      obtain ⟨dx24_, px21_⟩ := px21_
      have hDx23_ : idf dd_ S0_ Sx18_ := idf_tr hDx14_ dx24_
      have tx25_ : Sx18_.2.1 1 0 1 = some dd_ := (hFx20_.2.1 1 0 1 rfl).trans tx16_
      have e59_ := px21_
      have us59_ : Sx18_.1 3 dd_ 0 = S0_.1 3 dd_ 0 := (hFx20_.1 3 dd_ 0 rfl).trans us34_
      have er59_ : ∀ k9_, k9_ ≤ d_tp r_ → er1 b_ n_ r_.1 k9_ Sx18_ := fun k9_ h9_ => er1_fr (ba_ k9_ (by omega)).2 hFx22_ rfl rfl rfl rfl rfl
      have cc59_ : ccd (dC r_) (d_tp r_) Sx18_ := ccd_fr cc0_ (Nat.le_refl _) hFx22_ rfl rfl
      have n59_ := hFx20_.1 3 dd_ 3 rfl
      have m59_ := hFx20_.1 3 dd_ 2 rfl
      have o59_ := hFx20_.1 3 dd_ 1 rfl
      refine sm_T_go 4 (c1 := (66, [some (.inr (.inr (some (1, 0)))), some (.inr (.inr (some (3, dd_)))), some (.inl ((S0_.1 7 0 3) - 1)), some (.inl ((S0_.2.2.1 75 0 ((S0_.1 7 0 3) - 1).toNat) / 16)), some (.inl vx13_)], [.inl 0, .inl 0, .inl ((S0_.1 7 0 3) - 1), .inr (.inr (some (1, 0)))], Sx18_)) rfl ?_
      refine sm_T_cal (d1 := 26) (Q1 := vq_36 ((S0_.1 7 0 3) - 1) 0 0 b_ n_ r_.1 (dC r_) (d_tp r_) 0 dd_ (1 + d_I r_ + d_R r_) (d_I r_) ([], 0, 1) (ein r_.1 (d_tp r_)) z_ 0 Sx18_) rfl rfl (by decide) (vc_36x 16 ((S0_.1 7 0 3) - 1) 0 0 b_ n_ r_.1 (dC r_) (d_tp r_) 0 dd_ (1 + d_I r_ + d_R r_) (d_I r_) ([], 0, 1) (ein r_.1 (d_tp r_)) z_ 0 Sx18_ hIx19_ (by exact hIx19_) (by exact tx25_) (by omega) (by rfl) (by omega) (by exact er59_) (by exact (ba_ _ (by omega)).1) (by exact cc59_) (by exact e59_) (by decide) (by (rw [zR_]; omega)) (by exact ⟨by omega, fun k9_ x9_ y9_ q9_ => by simp at q9_⟩) (by exact fun a9_ => ein_w (ba_ _ (by omega)).1 (by omega) (Nat.le_refl _) a9_) (by exact hz_)) (fun u_ Sx26_ px29_ => ?_)
      obtain ⟨rfl, hIx27_, hFx28_, px29_⟩ := px29_
      have hFx30_ : ai_fr (sx_W vw_31v) S0_ Sx26_ := ai_fr_tr hFx22_ (fr_le hFx28_ rfl)
      obtain ⟨dx32_, px29_⟩ := px29_
      have hDx31_ : idf dd_ S0_ Sx26_ := idf_tr hDx23_ dx32_
      have tx33_ : Sx26_.2.1 1 0 1 = some dd_ := (hFx28_.2.1 1 0 1 rfl).trans tx25_
      have e66_ := px29_
      have us66_ : Sx26_.1 3 dd_ 0 = S0_.1 3 dd_ 0 := (hFx28_.1 3 dd_ 0 rfl).trans us59_
      have cf66_ := cgl_f e66_.1
      have n66_ := hFx28_.1 3 dd_ 3 rfl
      have m66_ := hFx28_.1 3 dd_ 2 rfl
      have o66_ := hFx28_.1 3 dd_ 1 rfl
      have er66_ := er1_fr (er59_ (d_tp r_) (Nat.le_refl _)) hFx28_ rfl rfl rfl rfl rfl
      have bx34_ : 0 ≤ Sx26_.1 1 0 8 ∧ Sx26_.1 1 0 8 ≤ 1 := hIx27_.1 1 0 8 rfl
      refine sm_T_go 2 (c1 := (73, [some (.inr (.inr (some (1, 0)))), some (.inr (.inr (some (3, dd_)))), some (.inl ((S0_.1 7 0 3) - 1)), some (.inl ((S0_.2.2.1 75 0 ((S0_.1 7 0 3) - 1).toNat) / 16)), some (.inl vx13_)], [.inl (Sx26_.1 1 0 8)], Sx26_)) rfl ?_
      refine sm_T_b0 (a := 0) (z := 16) rfl (fun cx35_ => ?_) (fun cx35_ => ?_)
      · have cx35_ : (Sx26_.1 1 0 8) = 0 := of_decide_eq_true cx35_
        have zk_ : z_.1.1.length ≤ 1000 := cf66_.1.mp (by omega)
        obtain ⟨o1_, -⟩ := e66_.2 zk_
        have ww_ := (exm_w 16 _ _ _ _ hz_).2.2 (by omega) (by omega) ⟨by omega, fun k9_ x9_ y9_ q9_ => by simp at q9_⟩ (fun a9_ => ein_w (ba_ _ (by omega)).1 (by omega) (Nat.le_refl _) a9_)
        have nd_ := cgl_n e66_.1 zk_
        have gx_ : dgx dd_ r_ z_ Sx26_ := ⟨⟨by omega, by omega, by omega, nd_⟩, (cgl_x e66_.1 zk_).2.2.2.2.2.1⟩
        have dg : dgr dd_ (1 + d_I r_ + d_R r_) Sx26_ := cgx_dgr (cgl_x e66_.1 zk_) ww_.1 (by omega) (by omega)
        refine sm_T_go 2 (c1 := (91, [some (.inr (.inr (some (1, 0)))), some (.inr (.inr (some (3, dd_)))), some (.inl ((S0_.1 7 0 3) - 1)), some (.inl ((S0_.2.2.1 75 0 ((S0_.1 7 0 3) - 1).toNat) / 16)), some (.inl vx13_)], [.inl ((S0_.1 7 0 3) - 1), .inr (.inr (some (1, 0)))], Sx26_)) rfl ?_
        refine sm_T_cal (d1 := 1) (Q1 := vq_45 ((S0_.1 7 0 3) - 1) b_ n_ r_.1 (d_tp r_) dd_ z_.2 ((1 + d_I r_ + d_R r_) + z_.1.1.length) Sx26_) rfl rfl (by decide) (vc_45 ((S0_.1 7 0 3) - 1) b_ n_ r_.1 (d_tp r_) dd_ z_.2 ((1 + d_I r_ + d_R r_) + z_.1.1.length) Sx26_ hIx27_ (by exact tx33_) (by omega) (by exact er66_) (by exact (ba_ _ (by omega)).1) (by omega) (by (intro s9_ h9_; have w9_ := (o1_.2.2.2.2.2.2 s9_ h9_).1; rw [show 8 * (40 * 0 + s9_) = 8 * s9_ by omega] at w9_; exact w9_)) (by exact zl_) (by exact ww_.2)) (fun u_ Sx36_ px39_ => ?_)
        obtain ⟨rfl, hIx37_, hFx38_, px39_⟩ := px39_
        have hFx40_ : ai_fr (sx_W vw_31v) S0_ Sx36_ := ai_fr_tr hFx30_ (fr_le hFx38_ rfl)
        obtain ⟨dx42_, px39_⟩ := px39_
        have hDx41_ : idf dd_ S0_ Sx36_ := idf_tr hDx31_ dx42_
        have tx43_ : Sx36_.2.1 1 0 1 = some dd_ := (hFx38_.2.1 1 0 1 rfl).trans tx33_
        have ex44_ : Sx36_.1 1 0 8 = Sx26_.1 1 0 8 := hFx38_.1 1 0 8 rfl
        have e91_ := px39_
        have n91_ := hFx38_.1 3 dd_ 3 rfl
        have m91_ := hFx38_.1 3 dd_ 2 rfl
        have nd91_ := hFx38_.1 3 dd_ 4 rfl
        have gx91_ := dgx_fr gx_ hFx38_ rfl rfl rfl rfl rfl rfl
        have dg91_ := dgr_fr dg hFx38_ rfl rfl rfl rfl rfl
        have dr91_ : drt dd_ Sx36_ := ⟨by omega, fun k9_ h9_ => by rw [nd91_, nd_]; exact e91_ k9_ (by omega), fun k9_ h9_ => by rw [nd91_, fr_arr (t := 46) hFx38_ rfl]; exact o1_.1.2 k9_ (by rw [zR_]; omega)⟩
        have bg91_ : 0 ≤ Sx36_.1 3 dd_ 5 ∧ Sx36_.1 3 dd_ 5 < 2 ^ (Sx36_.1 3 dd_ 2).toNat := by rw [hFx38_.1 3 dd_ 5 rfl, show (Sx36_.1 3 dd_ 2).toNat = z_.1.2.1 by rw [zR_]; omega]; exact o1_.1.1
        refine sm_T_go 1 (c1 := (95, [some (.inr (.inr (some (1, 0)))), some (.inr (.inr (some (3, dd_)))), some (.inl ((S0_.1 7 0 3) - 1)), some (.inl ((S0_.2.2.1 75 0 ((S0_.1 7 0 3) - 1).toNat) / 16)), some (.inl vx13_)], [.inr (.inr (some (1, 0)))], Sx36_)) rfl ?_
        refine sm_T_cal (d1 := 1) (Q1 := vq_46 dd_ (1 + d_I r_ + d_R r_) Sx36_) rfl rfl (by decide) (vc_46 dd_ (1 + d_I r_ + d_R r_) Sx36_ hIx37_ (by exact tx43_) (by exact dg91_) (by exact dr91_)) (fun u_ Sx45_ px48_ => ?_)
        obtain ⟨rfl, hIx46_, hFx47_, px48_⟩ := px48_
        have hFx49_ : ai_fr (sx_W vw_31v) S0_ Sx45_ := ai_fr_tr hFx40_ (fr_le hFx47_ rfl)
        obtain ⟨dx51_, px48_⟩ := px48_
        have hDx50_ : idf dd_ S0_ Sx45_ := idf_tr hDx41_ dx51_
        have tx52_ : Sx45_.2.1 1 0 1 = some dd_ := (hFx47_.2.1 1 0 1 rfl).trans tx43_
        have gx95_ := dgx_fr gx91_ hFx47_ rfl rfl rfl rfl rfl rfl
        have dg95_ := dgr_fr dg91_ hFx47_ rfl rfl rfl rfl rfl
        have dr95_ := drt_fr dr91_ hFx47_ rfl rfl rfl rfl rfl
        have bg95_ : 0 ≤ Sx45_.1 3 dd_ 5 ∧ Sx45_.1 3 dd_ 5 < 2 ^ (Sx45_.1 3 dd_ 2).toNat := by rw [hFx47_.1 3 dd_ 5 rfl, hFx47_.1 3 dd_ 2 rfl]; exact bg91_
        refine sm_T_go 1 (c1 := (99, [some (.inr (.inr (some (1, 0)))), some (.inr (.inr (some (3, dd_)))), some (.inl ((S0_.1 7 0 3) - 1)), some (.inl ((S0_.2.2.1 75 0 ((S0_.1 7 0 3) - 1).toNat) / 16)), some (.inl vx13_)], [.inr (.inr (some (1, 0)))], Sx45_)) rfl ?_
        refine sm_T_cal (d1 := 1) (Q1 := vq_47 dd_ (1 + d_I r_ + d_R r_) Sx45_) rfl rfl (by decide) (vc_47 dd_ (1 + d_I r_ + d_R r_) Sx45_ hIx46_ (by exact tx52_) (by exact dg95_)) (fun u_ Sx53_ px56_ => ?_)
        obtain ⟨rfl, hIx54_, hFx55_, px56_⟩ := px56_
        have hFx57_ : ai_fr (sx_W vw_31v) S0_ Sx53_ := ai_fr_tr hFx49_ (fr_le hFx55_ rfl)
        obtain ⟨dx59_, px56_⟩ := px56_
        have hDx58_ : idf dd_ S0_ Sx53_ := idf_tr hDx50_ dx59_
        have tx60_ : Sx53_.2.1 1 0 1 = some dd_ := (hFx55_.2.1 1 0 1 rfl).trans tx52_
        have sw99_ := px56_
        have gx99_ := dgx_fr gx95_ hFx55_ rfl rfl rfl rfl rfl rfl
        have dg99_ := dgr_fr dg95_ hFx55_ rfl rfl rfl rfl rfl
        have dr99_ := drt_fr dr95_ hFx55_ rfl rfl rfl rfl rfl
        have bg99_ : 0 ≤ Sx53_.1 3 dd_ 5 ∧ Sx53_.1 3 dd_ 5 < 2 ^ (Sx53_.1 3 dd_ 2).toNat := by rw [hFx55_.1 3 dd_ 5 rfl, hFx55_.1 3 dd_ 2 rfl]; exact bg95_
        refine sm_T_go 1 (c1 := (103, [some (.inr (.inr (some (1, 0)))), some (.inr (.inr (some (3, dd_)))), some (.inl ((S0_.1 7 0 3) - 1)), some (.inl ((S0_.2.2.1 75 0 ((S0_.1 7 0 3) - 1).toNat) / 16)), some (.inl vx13_)], [.inr (.inr (some (1, 0)))], Sx53_)) rfl ?_
        refine sm_T_cal (d1 := 1) (Q1 := vq_51 dd_ (1 + d_I r_ + d_R r_) Sx53_) rfl rfl (by decide) (vc_51 dd_ (1 + d_I r_ + d_R r_) Sx53_ hIx54_ (by exact tx60_) (by exact dg99_) (by exact dr99_)) (fun u_ Sx61_ px64_ => ?_)
        obtain ⟨rfl, hIx62_, hFx63_, px64_⟩ := px64_
        have hFx65_ : ai_fr (sx_W vw_31v) S0_ Sx61_ := ai_fr_tr hFx57_ (fr_le hFx63_ rfl)
        obtain ⟨dx67_, px64_⟩ := px64_
        have hDx66_ : idf dd_ S0_ Sx61_ := idf_tr hDx58_ dx67_
        have tx68_ : Sx61_.2.1 1 0 1 = some dd_ := (hFx63_.2.1 1 0 1 rfl).trans tx60_
        have tb103_ := px64_
        have sw103_ := swp_fr sw99_ hFx63_ rfl rfl rfl rfl
        have gx103_ := dgx_fr gx99_ hFx63_ rfl rfl rfl rfl rfl rfl
        have dg103_ := dgr_fr dg99_ hFx63_ rfl rfl rfl rfl rfl
        have dr103_ := drt_fr dr99_ hFx63_ rfl rfl rfl rfl rfl
        have bg103_ : 0 ≤ Sx61_.1 3 dd_ 5 ∧ Sx61_.1 3 dd_ 5 < 2 ^ (Sx61_.1 3 dd_ 2).toNat := by rw [hFx63_.1 3 dd_ 5 rfl, hFx63_.1 3 dd_ 2 rfl]; exact bg99_
        refine sm_T_go 1 (c1 := (107, [some (.inr (.inr (some (1, 0)))), some (.inr (.inr (some (3, dd_)))), some (.inl ((S0_.1 7 0 3) - 1)), some (.inl ((S0_.2.2.1 75 0 ((S0_.1 7 0 3) - 1).toNat) / 16)), some (.inl vx13_)], [.inr (.inr (some (1, 0)))], Sx61_)) rfl ?_
        refine sm_T_gr rfl rfl tx68_ ?_
        refine sm_T_go 1 (c1 := (111, [some (.inr (.inr (some (1, 0)))), some (.inr (.inr (some (3, dd_)))), some (.inl ((S0_.1 7 0 3) - 1)), some (.inl ((S0_.2.2.1 75 0 ((S0_.1 7 0 3) - 1).toNat) / 16)), some (.inl vx13_)], [.inr (.inr (some (1, 0))), .inr (.inr (some (3, dd_)))], Sx61_)) rfl ?_
        refine sm_T_gr rfl rfl tx68_ ?_
        refine sm_T_go 2 (c1 := (118, [some (.inr (.inr (some (1, 0)))), some (.inr (.inr (some (3, dd_)))), some (.inl ((S0_.1 7 0 3) - 1)), some (.inl ((S0_.2.2.1 75 0 ((S0_.1 7 0 3) - 1).toNat) / 16)), some (.inl vx13_)], [.inr (.inr (some (33, 0))), .inr (.inr (some (3, dd_))), .inr (.inr (some (3, dd_)))], Sx61_)) rfl ?_
        refine sm_T_cal (d1 := 1) (Q1 := vq_67s dd_ (1 + d_I r_ + d_R r_) Sx61_) rfl rfl (by decide) (vc_67s dd_ (1 + d_I r_ + d_R r_) Sx61_ hIx62_ (by exact dg103_) (by exact dr103_) (by exact sw103_)) (fun u_ Sx69_ px72_ => ?_)
        obtain ⟨vx74_, rfl, hIx70_, hFx71_, px72_⟩ := px72_
        have hFx73_ : ai_fr (sx_W vw_31v) S0_ Sx69_ := ai_fr_tr hFx65_ (fr_le hFx71_ rfl)
        have hDx75_ : idf dd_ S0_ Sx69_ := idf_tr hDx66_ (idf_fr hFx71_ (by decide) (by decide))
        have tx76_ : Sx69_.2.1 1 0 1 = some dd_ := (hFx71_.2.1 1 0 1 rfl).trans tx68_
        have e118_ := (px72_).1
        have tb118_ := dtb_fr tb103_ hFx71_ rfl rfl
        have sw118_ := swp_fr sw103_ hFx71_ rfl rfl rfl rfl
        have gx118_ := dgx_fr gx103_ hFx71_ rfl rfl rfl rfl rfl rfl
        have dg118_ := dgr_fr dg103_ hFx71_ rfl rfl rfl rfl rfl
        have dr118_ := drt_fr dr103_ hFx71_ rfl rfl rfl rfl rfl
        have bg118_ : 0 ≤ Sx69_.1 3 dd_ 5 ∧ Sx69_.1 3 dd_ 5 < 2 ^ (Sx69_.1 3 dd_ 2).toNat := by rw [hFx71_.1 3 dd_ 5 rfl, hFx71_.1 3 dd_ 2 rfl]; exact bg103_
        have hIx77_ : gi (sm_pI Sx69_ 3 dd_ 8 vx74_) := gi_pI hIx70_ (show 0 ≤ vx74_ ∧ vx74_ ≤ 1000 from ⟨by omega, by omega⟩)
        have hFx78_ : ai_fr (sx_W vw_31v) S0_ (sm_pI Sx69_ 3 dd_ 8 vx74_) := ai_fr_tr hFx73_ (ai_fr_pI rfl)
        have hDx79_ : idf dd_ S0_ (sm_pI Sx69_ 3 dd_ 8 vx74_) := idf_pI hDx75_ (Or.inr rfl)
        refine sm_T_go 2 (c1 := (125, [some (.inr (.inr (some (1, 0)))), some (.inr (.inr (some (3, dd_)))), some (.inl ((S0_.1 7 0 3) - 1)), some (.inl ((S0_.2.2.1 75 0 ((S0_.1 7 0 3) - 1).toNat) / 16)), some (.inl vx13_)], [.inr (.inr (some (1, 0)))], sm_pI Sx69_ 3 dd_ 8 vx74_)) rfl ?_
        refine sm_T_gr rfl rfl tx76_ ?_
        refine sm_T_go 1 (c1 := (129, [some (.inr (.inr (some (1, 0)))), some (.inr (.inr (some (3, dd_)))), some (.inl ((S0_.1 7 0 3) - 1)), some (.inl ((S0_.2.2.1 75 0 ((S0_.1 7 0 3) - 1).toNat) / 16)), some (.inl vx13_)], [.inr (.inr (some (1, 0))), .inr (.inr (some (3, dd_)))], sm_pI Sx69_ 3 dd_ 8 vx74_)) rfl ?_
        refine sm_T_cal (d1 := 1) (Q1 := vq_52 dd_ (1 + d_I r_ + d_R r_) (sm_pI Sx69_ 3 dd_ 8 vx74_)) rfl rfl (by decide) (vc_52 dd_ (1 + d_I r_ + d_R r_) (sm_pI Sx69_ 3 dd_ 8 vx74_) hIx77_ (by exact tx76_) (by exact dgr_fr (w_ := ([(3, 8)], [], [])) dg118_ (ai_fr_pI rfl) rfl rfl rfl rfl rfl) (by exact (drt_fr (w_ := ([(3, 8)], [], [])) dr118_ (ai_fr_pI rfl) rfl rfl rfl rfl rfl).1.2.2.2) (by exact dtb_fr (w_ := ([(3, 8)], [], [])) tb118_ (ai_fr_pI rfl) rfl rfl) (by (rw [rf_nk (by decide), rf_nk (by decide)]; exact bg118_))) (fun u_ Sx80_ px83_ => ?_)
        obtain ⟨vx85_, rfl, hIx81_, hFx82_, px83_⟩ := px83_
        have hFx84_ : ai_fr (sx_W vw_31v) S0_ Sx80_ := ai_fr_tr hFx78_ (fr_le hFx82_ rfl)
        obtain ⟨dx87_, px83_⟩ := px83_
        have hDx86_ : idf dd_ S0_ Sx80_ := idf_tr hDx79_ dx87_
        have tx88_ : Sx80_.2.1 1 0 1 = some dd_ := (hFx82_.2.1 1 0 1 rfl).trans tx76_
        have e129_ := px83_
        have f129_ := ai_fr_tr (ai_fr_pI (W := sx_W ([(3, 0), (3, 6), (3, 8), (3, 9)], [33], [])) (t := 3) (i := dd_) (k := 8) rfl) (fr_le hFx82_ rfl)
        have bg129_ : 0 ≤ Sx80_.1 3 dd_ 5 ∧ Sx80_.1 3 dd_ 5 < 2 ^ (Sx80_.1 3 dd_ 2).toNat := by rw [f129_.1 3 dd_ 5 rfl, f129_.1 3 dd_ 2 rfl]; exact bg118_
        have hIx89_ : gi (sm_pI Sx80_ 3 dd_ 9 vx85_) := gi_pI hIx81_ (show 0 ≤ vx85_ ∧ vx85_ ≤ 64 from ⟨by omega, by omega⟩)
        have hFx90_ : ai_fr (sx_W vw_31v) S0_ (sm_pI Sx80_ 3 dd_ 9 vx85_) := ai_fr_tr hFx84_ (ai_fr_pI rfl)
        have hDx91_ : idf dd_ S0_ (sm_pI Sx80_ 3 dd_ 9 vx85_) := idf_pI hDx86_ (Or.inr rfl)
        refine sm_T_go 2 (c1 := (136, [some (.inr (.inr (some (1, 0)))), some (.inr (.inr (some (3, dd_)))), some (.inl ((S0_.1 7 0 3) - 1)), some (.inl ((S0_.2.2.1 75 0 ((S0_.1 7 0 3) - 1).toNat) / 16)), some (.inl vx13_)], [.inr (.inr (some (1, 0)))], sm_pI Sx80_ 3 dd_ 9 vx85_)) rfl ?_
        refine sm_T_gr rfl rfl tx88_ ?_
        refine sm_T_go 1 (c1 := (140, [some (.inr (.inr (some (1, 0)))), some (.inr (.inr (some (3, dd_)))), some (.inl ((S0_.1 7 0 3) - 1)), some (.inl ((S0_.2.2.1 75 0 ((S0_.1 7 0 3) - 1).toNat) / 16)), some (.inl vx13_)], [.inr (.inr (some (1, 0))), .inr (.inr (some (3, dd_)))], sm_pI Sx80_ 3 dd_ 9 vx85_)) rfl ?_
        refine sm_T_gr rfl rfl tx88_ ?_
        have bx92_ : 0 ≤ Sx80_.1 3 dd_ 5 ∧ Sx80_.1 3 dd_ 5 ≤ 63 := hIx81_.1 3 dd_ 5 rfl
        have ex93_ : (sm_pI Sx80_ 3 dd_ 9 vx85_).1 3 dd_ 5 = (Sx80_.1 3 dd_ 5) := by (try simp only [rf_eq, rf_nk, rf_nt, rd_fa, rd_af, ne_eq, Nat.reduceEqDiff, not_false_eq_true])
        have hIx94_ : gi (sm_pI (sm_pI Sx80_ 3 dd_ 9 vx85_) 3 dd_ 6 ((sm_pI Sx80_ 3 dd_ 9 vx85_).1 3 dd_ 5)) := gi_pI hIx89_ (show 0 ≤ ((sm_pI Sx80_ 3 dd_ 9 vx85_).1 3 dd_ 5) ∧ ((sm_pI Sx80_ 3 dd_ 9 vx85_).1 3 dd_ 5) ≤ 63 from ⟨by omega, by omega⟩)
        have hFx95_ : ai_fr (sx_W vw_31v) S0_ (sm_pI (sm_pI Sx80_ 3 dd_ 9 vx85_) 3 dd_ 6 ((sm_pI Sx80_ 3 dd_ 9 vx85_).1 3 dd_ 5)) := ai_fr_tr hFx90_ (ai_fr_pI rfl)
        have hDx96_ : idf dd_ S0_ (sm_pI (sm_pI Sx80_ 3 dd_ 9 vx85_) 3 dd_ 6 ((sm_pI Sx80_ 3 dd_ 9 vx85_).1 3 dd_ 5)) := idf_pI hDx91_ (Or.inr rfl)
        refine sm_T_go 3 (c1 := (150, [some (.inr (.inr (some (1, 0)))), some (.inr (.inr (some (3, dd_)))), some (.inl ((S0_.1 7 0 3) - 1)), some (.inl ((S0_.2.2.1 75 0 ((S0_.1 7 0 3) - 1).toNat) / 16)), some (.inl vx13_)], [.inr (.inr (some (1, 0)))], sm_pI (sm_pI Sx80_ 3 dd_ 9 vx85_) 3 dd_ 6 ((sm_pI Sx80_ 3 dd_ 9 vx85_).1 3 dd_ 5))) rfl ?_
        refine sm_T_gr rfl rfl tx88_ ?_
        have hIx97_ : gi (sm_pI (sm_pI (sm_pI Sx80_ 3 dd_ 9 vx85_) 3 dd_ 6 ((sm_pI Sx80_ 3 dd_ 9 vx85_).1 3 dd_ 5)) 3 dd_ 0 1) := gi_pI hIx94_ (show 0 ≤ 1 ∧ 1 ≤ 1 from ⟨by omega, by omega⟩)
        have hFx98_ : ai_fr (sx_W vw_31v) S0_ (sm_pI (sm_pI (sm_pI Sx80_ 3 dd_ 9 vx85_) 3 dd_ 6 ((sm_pI Sx80_ 3 dd_ 9 vx85_).1 3 dd_ 5)) 3 dd_ 0 1) := ai_fr_tr hFx95_ (ai_fr_pI rfl)
        have hDx99_ : idf dd_ S0_ (sm_pI (sm_pI (sm_pI Sx80_ 3 dd_ 9 vx85_) 3 dd_ 6 ((sm_pI Sx80_ 3 dd_ 9 vx85_).1 3 dd_ 5)) 3 dd_ 0 1) := idf_pI hDx96_ (Or.inr rfl)
        refine sm_T_go 2 (c1 := (157, [some (.inr (.inr (some (1, 0)))), some (.inr (.inr (some (3, dd_)))), some (.inl ((S0_.1 7 0 3) - 1)), some (.inl ((S0_.2.2.1 75 0 ((S0_.1 7 0 3) - 1).toNat) / 16)), some (.inl vx13_)], [], sm_pI (sm_pI (sm_pI Sx80_ 3 dd_ 9 vx85_) 3 dd_ 6 ((sm_pI Sx80_ 3 dd_ 9 vx85_).1 3 dd_ 5)) 3 dd_ 0 1)) rfl ?_
        refine sm_T_rv rfl (Or.inl ⟨_, _, rfl, rfl, hIx97_, hFx98_, ?_⟩)
        refine ⟨hDx99_, ?_⟩
        have fz_ : ai_fr (sx_W ([(3, 0), (3, 6), (3, 8), (3, 9)], [33], [])) _ ((sm_pI (sm_pI (sm_pI Sx80_ 3 dd_ 9 vx85_) 3 dd_ 6 ((sm_pI Sx80_ 3 dd_ 9 vx85_).1 3 dd_ 5)) 3 dd_ 0 1)) := ai_fr_tr (ai_fr_tr (ai_fr_tr f129_ (ai_fr_pI rfl)) (ai_fr_pI rfl)) (ai_fr_pI rfl)
        refine ⟨l0_, ⟨z_, hz_, zk_, dgx_fr gx118_ fz_ rfl rfl rfl rfl rfl rfl⟩, rf_eq, (1 + d_I r_ + d_R r_), dgr_fr dg118_ fz_ rfl rfl rfl rfl rfl, drt_fr dr118_ fz_ rfl rfl rfl rfl rfl, swp_fr sw118_ fz_ rfl rfl rfl rfl, dtb_fr tb118_ fz_ rfl rfl, ?_, ?_⟩
        · rw [fz_.1 3 dd_ 5 rfl, fz_.1 3 dd_ 2 rfl]; exact bg118_
        · rw [fz_.1 3 dd_ 2 rfl]; (try simp only [rd_eq, rd_ne, rf_eq, rf_nk, rf_nt, rd_fa, rd_af, rd_fl, rd_al, rd_lf, rd_la, rd_leq, rd_lne, rd_fr, rd_ar, ne_eq, Nat.reduceEqDiff, not_false_eq_true]); rw [f129_.1 3 dd_ 2 rfl] at bg129_; exact bg129_
      · have cx35_ : ¬ ((Sx26_.1 1 0 8) = 0) := of_decide_eq_false cx35_
        refine sm_T_go 5 (c1 := (86, [some (.inr (.inr (some (1, 0)))), some (.inr (.inr (some (3, dd_)))), some (.inl ((S0_.1 7 0 3) - 1)), some (.inl ((S0_.2.2.1 75 0 ((S0_.1 7 0 3) - 1).toNat) / 16)), some (.inl vx13_)], [.inl ((S0_.2.2.1 75 0 ((S0_.1 7 0 3) - 1).toNat) / 16), .inl 23, .inr (.inr (some (10, 0)))], Sx26_)) rfl ?_
        refine sm_T_calx (d1 := 0) (Q1 := vq_187 23 ((S0_.2.2.1 75 0 ((S0_.1 7 0 3) - 1).toNat) / 16) Sx26_) (Q2 := vx_187 23 ((S0_.2.2.1 75 0 ((S0_.1 7 0 3) - 1).toNat) / 16) Sx26_) rfl rfl (by decide) (vc_187 23 ((S0_.2.2.1 75 0 ((S0_.1 7 0 3) - 1).toNat) / 16) Sx26_ hIx27_ (by omega) (by omega)) rfl (fun Sx100_ px103_ => ?_) (fun u_ Sx100_ px103_ => ?_)
        · obtain ⟨hIx101_, hFx102_, px103_⟩ := px103_
          refine Or.inr ⟨_, rfl, hIx101_, ai_fr_tr hFx30_ (fr_le hFx102_ rfl), ?_⟩
          have y9_ := px103_
          refine ⟨idf_tr hDx31_ (idf_fr hFx102_ (by decide) (by decide)), ⟨(23, r_.2.1 (d_tp r_)), ⟨rfl, Or.inr ⟨l0_, ⟨z_, hz_, by have := cf66_.1; omega⟩, rfl⟩⟩, ⟨y9_.1, ?_⟩⟩, ?_⟩
          · show _ = ((r_.2.1 (d_tp r_) : Nat) : Int); have y8_ := y9_.2; omega
          · exact (hFx102_.1 3 dd_ 0 rfl).trans us66_
        · exact (px103_.2.2.2).elim
    · have cx17_ : ¬ (vx13_ = 0) := of_decide_eq_false cx17_
      refine sm_T_go 5 (c1 := (54, [some (.inr (.inr (some (1, 0)))), some (.inr (.inr (some (3, dd_)))), some (.inl ((S0_.1 7 0 3) - 1)), some (.inl ((S0_.2.2.1 75 0 ((S0_.1 7 0 3) - 1).toNat) / 16)), some (.inl vx13_)], [.inl ((S0_.2.2.1 75 0 ((S0_.1 7 0 3) - 1).toNat) / 16), .inl vx13_, .inr (.inr (some (10, 0)))], Sx8_)) rfl ?_
      refine sm_T_calx (d1 := 0) (Q1 := vq_187 vx13_ ((S0_.2.2.1 75 0 ((S0_.1 7 0 3) - 1).toNat) / 16) Sx8_) (Q2 := vx_187 vx13_ ((S0_.2.2.1 75 0 ((S0_.1 7 0 3) - 1).toNat) / 16) Sx8_) rfl rfl (by decide) (vc_187 vx13_ ((S0_.2.2.1 75 0 ((S0_.1 7 0 3) - 1).toNat) / 16) Sx8_ hIx9_ (by omega) (by omega)) rfl (fun Sx105_ px108_ => ?_) (fun u_ Sx105_ px108_ => ?_)
      · obtain ⟨hIx106_, hFx107_, px108_⟩ := px108_
        refine Or.inr ⟨_, rfl, hIx106_, ai_fr_tr hFx12_ (fr_le hFx107_ rfl), ?_⟩
        have y9_ := px108_
        refine ⟨idf_tr hDx14_ (idf_fr hFx107_ (by decide) (by decide)), ⟨(d_lm r_, r_.2.1 (d_tp r_)), ⟨rfl, Or.inl ⟨by rw [← lm_]; omega, rfl⟩⟩, ⟨y9_.1.trans lm_, ?_⟩⟩, ?_⟩
        · show _ = ((r_.2.1 (d_tp r_) : Nat) : Int); have y8_ := y9_.2; omega
        · exact (hFx107_.1 3 dd_ 0 rfl).trans us34_
      · exact (px108_.2.2.2).elim
  · have cx6_ : ¬ (0 ≤ (S0_.1 7 0 3) - 1) := of_decide_eq_false cx6_
    exfalso; omega
/-! ChipFlow.design -/
def vw_213v : sx_Wl := ([(1, 3), (1, 6), (1, 8), (1, 9), (1, 13), (3, 0), (3, 1), (3, 2), (3, 3), (3, 4), (3, 5), (3, 6), (3, 7), (3, 8), (3, 9), (7, 2), (7, 3), (7, 14), (7, 16), (7, 17), (10, 1), (10, 2), (10, 3), (10, 4), (10, 5), (10, 6), (10, 7), (10, 8), (12, 10)], [26, 27, 28, 29, 30, 31, 32, 33, 42, 43, 44, 45, 46, 47, 74, 75, 76, 77, 78, 79, 80, 81, 82, 83, 84], [(1, 1), (7, 11)])
def vq_213v (b_ : Nat → Int) (n_ : Nat) (S0_ : sm_S) (u_ : Option sm_V) (S1_ : sm_S) : Prop := ∃ v_ : Int, u_ = some (.inl v_) ∧ gi S1_ ∧ ai_fr (sx_W vw_213v) S0_ S1_ ∧ (∃ sl_ : Nat, sl_ < 6 ∧ S0_.1 3 sl_ 0 = 0 ∧ (∀ j_ : Nat, j_ < sl_ → S0_.1 3 j_ 0 = 1) ∧ (S1_.1 10 0 1) = 0 ∧ idf sl_ S0_ S1_ ∧ (((∃ r_ z_, dok b_ n_ r_ z_ ∧ dgx sl_ r_ z_ S1_) ∧ S1_.1 3 sl_ 0 = 1 ∧ dOk sl_ S1_ ∧ v_ = (sl_ : Int) ∧ S1_.1 12 0 10 = 0) ∨ (¬ dacc b_ n_ ∧ S1_.1 3 sl_ 0 = 0 ∧ ∃ e_, dfe b_ n_ e_ ∧ v_ = -1 - (e_.2 : Int) ∧ S1_.1 12 0 10 = e_.1)))
def vx_213v (b_ : Nat → Int) (n_ : Nat) (S0_ : sm_S) (S1_ : sm_S) : Prop := gi S1_ ∧ ai_fr (sx_W vw_213v) S0_ S1_ ∧ ((∀ j_ : Nat, j_ < 6 → S0_.1 3 j_ 0 = 1) ∧ S1_ = S0_)
set_option maxHeartbeats 2000000 in
theorem vc_213v {sc_ : Nat × (Nat → Int)} (b_ : Nat → Int) (n_ : Nat) (S0_ : sm_S) (hI_ : gi S0_) (hb_ : S0_.2.2.1 98 0 = b_) (hn_ : (S0_.1 10 0 1) = (n_ : Int)) (hn1_ : n_ ≤ 1280) : sm_T (mt_P sc_) 28 213 (0, [some (.inr (.inr (some (12, 0)))), none, none, none], [], S0_) (fun ro9_ => (∃ u_ S1_ k9_, ro9_ = (.inl u_, S1_, k9_) ∧ k9_ ≤ 1 ∧ vq_213v b_ n_ S0_ u_ S1_) ∨ ∃ S1_, ro9_ = (.inr 3, S1_, 1) ∧ vx_213v b_ n_ S0_ S1_) := by
  have hF_ : ai_fr (sx_W vw_213v) S0_ S0_ := ai_fr_rf
  refine sm_T_go 1 (c1 := (1, [some (.inr (.inr (some (12, 0)))), none, none, none], [.inr (.inr (some (12, 0)))], S0_)) rfl ?_
  refine sm_T_cal (d1 := 0) (Q1 := vq_273  S0_) rfl rfl (by decide) (vc_273  S0_ hI_ ) (fun u_ Sx1_ px4_ => ?_)
  obtain ⟨rfl, vx6_, rfl, px4_⟩ := px4_
  obtain ⟨sl_, hsl_⟩ : ∃ sl_ : Nat, (vx6_ = -1 ∧ ∀ j_ : Nat, j_ < 6 → S0_.1 3 j_ 0 = 1) ∨ (vx6_ = (sl_ : Int) ∧ sl_ < 6 ∧ S0_.1 3 sl_ 0 = 0 ∧ ∀ j_ : Nat, j_ < sl_ → S0_.1 3 j_ 0 = 1) := by rcases px4_ with z_ | ⟨u_, z_⟩; exact ⟨0, Or.inl z_⟩; exact ⟨u_, Or.inr z_⟩
  clear px4_
  obtain ⟨sv_, hsv_⟩ : ∃ sv_, sv_ = vx6_ := ⟨_, rfl⟩
  rw [← hsv_] at hsl_
  refine sm_T_go 3 (c1 := (7, [some (.inr (.inr (some (12, 0)))), some (.inl vx6_), none, none], [.inl (-1), .inl vx6_], S0_)) rfl ?_
  refine sm_T_br (a := 0) (z := 7) rfl (fun cx7_ => ?_) (fun cx7_ => ?_)
  · have cx7_ : vx6_ = (-1) := of_decide_eq_true cx7_
    have ha0_ : ∀ j_ : Nat, j_ < 6 → S0_.1 3 j_ 0 = 1 := by rcases hsl_ with z_ | z_; exact z_.2; (exfalso; have := z_.1; omega)
    refine sm_T_go 1 (c1 := (15, [some (.inr (.inr (some (12, 0)))), some (.inl vx6_), none, none], [.inl 0], S0_)) rfl ?_
    refine sm_T_calg (d1_ := 0) (ex_ := 3) (Q1_ := vq_268 0 S0_) (Q2_ := vx_268 0 S0_) rfl rfl (by decide) (vc_268 0 S0_ hI_ ) rfl rfl (fun Sx8_ px11_ => ?_) (fun u_ Sx8_ px11_ => ?_)
    · obtain ⟨hIx9_, hFx10_, px11_⟩ := px11_
      refine Or.inr ⟨_, rfl, hIx9_, ai_fr_tr hF_ (fr_le hFx10_ rfl), ?_⟩
      obtain ⟨z1_, z2_⟩ := px11_
      first | (exact absurd z1_ (by decide)) | (exact ⟨ha0_, z2_⟩)
    obtain ⟨rfl, hIx9_, hFx10_, px11_⟩ := px11_
    have hFx12_ : ai_fr (sx_W vw_213v) S0_ Sx8_ := ai_fr_tr hF_ (fr_le hFx10_ rfl)
    have e15_ := px11_
    obtain ⟨hs1_, hs2_, hs3_, hs4_⟩ : sv_ = (sl_ : Int) ∧ sl_ < 6 ∧ S0_.1 3 sl_ 0 = 0 ∧ ∀ j_ : Nat, j_ < sl_ → S0_.1 3 j_ 0 = 1 := by first | (exact absurd rfl e15_) | (rcases hsl_ with z_ | z_; (exact absurd z_.1 nv_); exact z_)
    clear hsl_
    have hb15_ := (fr_arr (t := 98) (i := 0) hFx10_ rfl).trans hb_
    have hn15_ := (hFx10_.1 10 0 1 rfl).trans hn_
    have d15_ : idf sl_ S0_ Sx8_ := idf_fr hFx10_ (by decide) (by decide)
    have u15_ : Sx8_.1 3 sl_ 0 = S0_.1 3 sl_ 0 := hFx10_.1 3 sl_ 0 rfl
    have hIx13_ : gi (sm_pI Sx8_ 12 0 10 0) := gi_pI hIx9_ (show 0 ≤ 0 ∧ 0 ≤ 23 from ⟨by omega, by omega⟩)
    have hFx14_ : ai_fr (sx_W vw_213v) S0_ (sm_pI Sx8_ 12 0 10 0) := ai_fr_tr hFx12_ (ai_fr_pI rfl)
    refine sm_T_go 7 (c1 := (29, [some (.inr (.inr (some (12, 0)))), some (.inl vx6_), some (.inl vx6_), none], [.inr (.inr (some (7, 0)))], sm_pI Sx8_ 12 0 10 0)) rfl ?_
    refine sm_T_calh (d1_ := 7) (ex_ := 2) (Q1_ := vq_115 b_ n_ (sm_pI Sx8_ 12 0 10 0)) (Q2_ := vx_115 b_ n_ (sm_pI Sx8_ 12 0 10 0)) rfl rfl (by decide) (vc_115 b_ n_ (sm_pI Sx8_ 12 0 10 0) hIx13_ (by exact hb15_) (by exact hn15_) (by exact hn1_)) rfl rfl (Nat.le_of_ble_eq_true rfl) (fun Sx15_ px18_ => ?_) (fun u_ Sx15_ px18_ => ?_)
    · obtain ⟨hIx16_, hFx17_, px18_⟩ := px18_
      have hFx19_ : ai_fr (sx_W vw_213v) S0_ Sx15_ := ai_fr_tr hFx14_ (fr_le hFx17_ rfl)
      obtain ⟨e9_, w1_, te_⟩ := px18_
      have na_ := dacc_l w1_
      have de9_ : dfe b_ n_ e9_ := Or.inl w1_
      have dz_ : idf sl_ S0_ Sx15_ := idf_tr (idf_pI d15_ (Or.inl (by decide))) (idf_fr hFx17_ (by decide) (by decide))
      have uz_ : Sx15_.1 3 sl_ 0 = 0 := ((hFx17_.1 3 sl_ 0 rfl).trans (rf_nt (by decide))).trans (u15_.trans hs3_)
      refine sm_T_go 0 (c1 := (49, [some (.inr (.inr (some (12, 0)))), some (.inl vx6_), some (.inl vx6_), none], [], Sx15_)) rfl ?_
      have bx20_ : 0 ≤ Sx15_.1 10 0 6 ∧ Sx15_.1 10 0 6 ≤ 23 := hIx16_.1 10 0 6 rfl
      have hIx21_ : gi (sm_pI Sx15_ 12 0 10 (Sx15_.1 10 0 6)) := gi_pI hIx16_ (show 0 ≤ (Sx15_.1 10 0 6) ∧ (Sx15_.1 10 0 6) ≤ 23 from ⟨by omega, by omega⟩)
      have hFx22_ : ai_fr (sx_W vw_213v) S0_ (sm_pI Sx15_ 12 0 10 (Sx15_.1 10 0 6)) := ai_fr_tr hFx19_ (ai_fr_pI rfl)
      have bx23_ : 0 ≤ Sx15_.1 10 0 7 ∧ Sx15_.1 10 0 7 ≤ 4095 := hIx16_.1 10 0 7 rfl
      refine sm_T_go 9 (c1 := (68, [some (.inr (.inr (some (12, 0)))), some (.inl vx6_), some (.inl vx6_), none], [.inl (Sx15_.1 10 0 7), .inl (-1)], sm_pI Sx15_ 12 0 10 (Sx15_.1 10 0 6))) rfl ?_
      refine sm_T_bin (w := -(Sx15_.1 10 0 7) - 1) rfl (bi_sub (by omega) (by omega) (by omega)) ?_
      have hIx24_ : gi (sm_pI (sm_pI Sx15_ 12 0 10 (Sx15_.1 10 0 6)) 10 0 1 0) := gi_pI hIx21_ (show 0 ≤ 0 ∧ 0 ≤ 1280 from ⟨by omega, by omega⟩)
      have hFx25_ : ai_fr (sx_W vw_213v) S0_ (sm_pI (sm_pI Sx15_ 12 0 10 (Sx15_.1 10 0 6)) 10 0 1 0) := ai_fr_tr hFx22_ (ai_fr_pI rfl)
      refine sm_T_go 6 (c1 := (79, [some (.inr (.inr (some (12, 0)))), some (.inl vx6_), some (.inl (-(Sx15_.1 10 0 7) - 1)), none], [.inl (-(Sx15_.1 10 0 7) - 1)], sm_pI (sm_pI Sx15_ 12 0 10 (Sx15_.1 10 0 6)) 10 0 1 0)) rfl ?_
      refine sm_T_ri rfl (Or.inl ⟨_, _, _, rfl, Nat.le_of_ble_eq_true rfl, _, rfl, hIx24_, hFx25_, ?_⟩)
      first | (exact absurd rfl e15_) | (refine ⟨sl_, hs2_, hs3_, hs4_, rf_eq, idf_pI d42_ (Or.inl (by decide)), Or.inl ⟨⟨r9_, z9_, ac_, dgx_fr (w_ := ([(10, 1)], [], [])) x6_ (ai_fr_pI rfl) rfl rfl rfl rfl rfl rfl⟩, (rf_nt (by decide)).trans x4_, ?_, by omega, (rf_nt (by decide)).trans lf42_⟩⟩; obtain ⟨F9_, y1_, y2_, y3_, y4_, y5_⟩ := x5_; have fz_ : ai_fr (sx_W ([(10, 1)], [], [])) _ ((sm_pI (sm_pI Sx15_ 12 0 10 (Sx15_.1 10 0 6)) 10 0 1 0)) := ai_fr_pI rfl; refine ⟨F9_, dgr_fr y1_ fz_ rfl rfl rfl rfl rfl, drt_fr y2_ fz_ rfl rfl rfl rfl rfl, swp_fr y3_ fz_ rfl rfl rfl rfl, dtb_fr y4_ fz_ rfl rfl, ?_⟩; rw [fz_.1 3 sl_ 5 rfl, fz_.1 3 sl_ 6 rfl, fz_.1 3 sl_ 2 rfl]; exact y5_) | (refine ⟨sl_, hs2_, hs3_, hs4_, rf_eq, idf_pI (idf_pI dz_ (Or.inl (by decide))) (Or.inl (by decide)), Or.inr ⟨na_, ?_, e9_, de9_, ?_, ?_⟩⟩; exact (rf_nt (by decide)).trans ((rf_nt (by decide)).trans uz_); (have t9_ := te_.2; omega); exact (rf_nt (by decide)).trans (rf_eq.trans te_.1))
    obtain ⟨rfl, hIx16_, hFx17_, px18_⟩ := px18_
    have hFx19_ : ai_fr (sx_W vw_213v) S0_ Sx15_ := ai_fr_tr hFx14_ (fr_le hFx17_ rfl)
    obtain ⟨r9_, w1_, w2_, w3_, w4_⟩ := px18_
    have lf29_ : Sx15_.1 12 0 10 = 0 := (hFx17_.1 12 0 10 rfl).trans rf_eq
    have d29_ : idf sl_ S0_ Sx15_ := idf_tr (idf_pI d15_ (Or.inl (by decide))) (idf_fr hFx17_ (by decide) (by decide))
    have u29_ : Sx15_.1 3 sl_ 0 = 0 := ((hFx17_.1 3 sl_ 0 rfl).trans (rf_nt (by decide))).trans (u15_.trans hs3_)
    refine sm_T_go 5 (c1 := (41, [some (.inr (.inr (some (12, 0)))), some (.inl vx6_), some (.inl vx6_), none], [.inl vx6_, .inr (.inr (some (110, 0))), .inr (.inr (some (1, 0)))], Sx15_)) rfl ?_
    refine sm_T_aald (t0 := 4) (n := 6) rfl rfl (by omega) (by omega) ?_
    refine sm_T_calh (d1_ := 27) (ex_ := 2) (Q1_ := vq_31v b_ n_ r9_ (vx6_.toNat) Sx15_) (Q2_ := vx_31v b_ n_ r9_ (vx6_.toNat) Sx15_) rfl rfl (by decide) (vc_31v b_ n_ r9_ (vx6_.toNat) Sx15_ hIx16_ (by exact w1_) (by exact w2_) (by exact w3_) (by exact w4_) (by exact hn1_)) rfl rfl (Nat.le_of_ble_eq_true rfl) (fun Sx26_ px29_ => ?_) (fun u_ Sx26_ px29_ => ?_)
    · obtain ⟨hIx27_, hFx28_, px29_⟩ := px29_
      have hFx30_ : ai_fr (sx_W vw_213v) S0_ Sx26_ := ai_fr_tr hFx19_ (fr_le hFx28_ rfl)
      obtain ⟨q1_, ⟨e9_, q2_, te_⟩, q3_⟩ := px29_
      rw [← hsv_, hs1_, Int.toNat_natCast] at q1_ q3_
      have na_ := dfl_na w1_ q2_
      have de9_ : dfe b_ n_ e9_ := Or.inr ⟨r9_, w1_, q2_⟩
      have dz_ : idf sl_ S0_ Sx26_ := idf_tr d29_ q1_
      have uz_ : Sx26_.1 3 sl_ 0 = 0 := q3_.trans u29_
      refine sm_T_go 0 (c1 := (49, [some (.inr (.inr (some (12, 0)))), some (.inl vx6_), some (.inl vx6_), none], [], Sx26_)) rfl ?_
      have bx31_ : 0 ≤ Sx26_.1 10 0 6 ∧ Sx26_.1 10 0 6 ≤ 23 := hIx27_.1 10 0 6 rfl
      have hIx32_ : gi (sm_pI Sx26_ 12 0 10 (Sx26_.1 10 0 6)) := gi_pI hIx27_ (show 0 ≤ (Sx26_.1 10 0 6) ∧ (Sx26_.1 10 0 6) ≤ 23 from ⟨by omega, by omega⟩)
      have hFx33_ : ai_fr (sx_W vw_213v) S0_ (sm_pI Sx26_ 12 0 10 (Sx26_.1 10 0 6)) := ai_fr_tr hFx30_ (ai_fr_pI rfl)
      have bx34_ : 0 ≤ Sx26_.1 10 0 7 ∧ Sx26_.1 10 0 7 ≤ 4095 := hIx27_.1 10 0 7 rfl
      refine sm_T_go 9 (c1 := (68, [some (.inr (.inr (some (12, 0)))), some (.inl vx6_), some (.inl vx6_), none], [.inl (Sx26_.1 10 0 7), .inl (-1)], sm_pI Sx26_ 12 0 10 (Sx26_.1 10 0 6))) rfl ?_
      refine sm_T_bin (w := -(Sx26_.1 10 0 7) - 1) rfl (bi_sub (by omega) (by omega) (by omega)) ?_
      have hIx35_ : gi (sm_pI (sm_pI Sx26_ 12 0 10 (Sx26_.1 10 0 6)) 10 0 1 0) := gi_pI hIx32_ (show 0 ≤ 0 ∧ 0 ≤ 1280 from ⟨by omega, by omega⟩)
      have hFx36_ : ai_fr (sx_W vw_213v) S0_ (sm_pI (sm_pI Sx26_ 12 0 10 (Sx26_.1 10 0 6)) 10 0 1 0) := ai_fr_tr hFx33_ (ai_fr_pI rfl)
      refine sm_T_go 6 (c1 := (79, [some (.inr (.inr (some (12, 0)))), some (.inl vx6_), some (.inl (-(Sx26_.1 10 0 7) - 1)), none], [.inl (-(Sx26_.1 10 0 7) - 1)], sm_pI (sm_pI Sx26_ 12 0 10 (Sx26_.1 10 0 6)) 10 0 1 0)) rfl ?_
      refine sm_T_ri rfl (Or.inl ⟨_, _, _, rfl, Nat.le_of_ble_eq_true rfl, _, rfl, hIx35_, hFx36_, ?_⟩)
      first | (exact absurd rfl e15_) | (refine ⟨sl_, hs2_, hs3_, hs4_, rf_eq, idf_pI d42_ (Or.inl (by decide)), Or.inl ⟨⟨r9_, z9_, ac_, dgx_fr (w_ := ([(10, 1)], [], [])) x6_ (ai_fr_pI rfl) rfl rfl rfl rfl rfl rfl⟩, (rf_nt (by decide)).trans x4_, ?_, by omega, (rf_nt (by decide)).trans lf42_⟩⟩; obtain ⟨F9_, y1_, y2_, y3_, y4_, y5_⟩ := x5_; have fz_ : ai_fr (sx_W ([(10, 1)], [], [])) _ ((sm_pI (sm_pI Sx26_ 12 0 10 (Sx26_.1 10 0 6)) 10 0 1 0)) := ai_fr_pI rfl; refine ⟨F9_, dgr_fr y1_ fz_ rfl rfl rfl rfl rfl, drt_fr y2_ fz_ rfl rfl rfl rfl rfl, swp_fr y3_ fz_ rfl rfl rfl rfl, dtb_fr y4_ fz_ rfl rfl, ?_⟩; rw [fz_.1 3 sl_ 5 rfl, fz_.1 3 sl_ 6 rfl, fz_.1 3 sl_ 2 rfl]; exact y5_) | (refine ⟨sl_, hs2_, hs3_, hs4_, rf_eq, idf_pI (idf_pI dz_ (Or.inl (by decide))) (Or.inl (by decide)), Or.inr ⟨na_, ?_, e9_, de9_, ?_, ?_⟩⟩; exact (rf_nt (by decide)).trans ((rf_nt (by decide)).trans uz_); (have t9_ := te_.2; omega); exact (rf_nt (by decide)).trans (rf_eq.trans te_.1))
    obtain ⟨rfl, hIx27_, hFx28_, px29_⟩ := px29_
    have hFx30_ : ai_fr (sx_W vw_213v) S0_ Sx26_ := ai_fr_tr hFx19_ (fr_le hFx28_ rfl)
    obtain ⟨dx37_, px29_⟩ := px29_
    have e42_ := px29_
    have k42_ := dx37_
    rw [← hsv_, hs1_, Int.toNat_natCast] at e42_ k42_
    have lf42_ : Sx26_.1 12 0 10 = 0 := (hFx28_.1 12 0 10 rfl).trans lf29_
    have d42_ : idf sl_ S0_ Sx26_ := idf_tr d29_ k42_
    obtain ⟨x1_, ⟨z9_, x2_, x3_, x6_⟩, x4_, x5_⟩ := e42_
    have ac_ : dok b_ n_ r9_ z9_ := ⟨w1_, x1_, x2_, x3_⟩
    have hIx38_ : gi (sm_pI Sx26_ 10 0 1 0) := gi_pI hIx27_ (show 0 ≤ 0 ∧ 0 ≤ 1280 from ⟨by omega, by omega⟩)
    have hFx39_ : ai_fr (sx_W vw_213v) S0_ (sm_pI Sx26_ 10 0 1 0) := ai_fr_tr hFx30_ (ai_fr_pI rfl)
    refine sm_T_go 6 (c1 := (79, [some (.inr (.inr (some (12, 0)))), some (.inl vx6_), some (.inl vx6_), none], [.inl vx6_], sm_pI Sx26_ 10 0 1 0)) rfl ?_
    refine sm_T_ri rfl (Or.inl ⟨_, _, _, rfl, Nat.le_of_ble_eq_true rfl, _, rfl, hIx38_, hFx39_, ?_⟩)
    first | (exact absurd rfl e15_) | (refine ⟨sl_, hs2_, hs3_, hs4_, rf_eq, idf_pI d42_ (Or.inl (by decide)), Or.inl ⟨⟨r9_, z9_, ac_, dgx_fr (w_ := ([(10, 1)], [], [])) x6_ (ai_fr_pI rfl) rfl rfl rfl rfl rfl rfl⟩, (rf_nt (by decide)).trans x4_, ?_, by omega, (rf_nt (by decide)).trans lf42_⟩⟩; obtain ⟨F9_, y1_, y2_, y3_, y4_, y5_⟩ := x5_; have fz_ : ai_fr (sx_W ([(10, 1)], [], [])) _ ((sm_pI Sx26_ 10 0 1 0)) := ai_fr_pI rfl; refine ⟨F9_, dgr_fr y1_ fz_ rfl rfl rfl rfl rfl, drt_fr y2_ fz_ rfl rfl rfl rfl rfl, swp_fr y3_ fz_ rfl rfl rfl rfl, dtb_fr y4_ fz_ rfl rfl, ?_⟩; rw [fz_.1 3 sl_ 5 rfl, fz_.1 3 sl_ 6 rfl, fz_.1 3 sl_ 2 rfl]; exact y5_) | (refine ⟨sl_, hs2_, hs3_, hs4_, rf_eq, idf_pI (idf_pI dz_ (Or.inl (by decide))) (Or.inl (by decide)), Or.inr ⟨na_, ?_, e9_, de9_, ?_, ?_⟩⟩; exact (rf_nt (by decide)).trans ((rf_nt (by decide)).trans uz_); (have t9_ := te_.2; omega); exact (rf_nt (by decide)).trans (rf_eq.trans te_.1))
  · have cx7_ : ¬ (vx6_ = (-1)) := of_decide_eq_false cx7_
    have nv_ := cx7_
    rw [← hsv_] at nv_
    refine sm_T_go 2 (c1 := (15, [some (.inr (.inr (some (12, 0)))), some (.inl vx6_), none, none], [.inl 1], S0_)) rfl ?_
    refine sm_T_calg (d1_ := 0) (ex_ := 3) (Q1_ := vq_268 1 S0_) (Q2_ := vx_268 1 S0_) rfl rfl (by decide) (vc_268 1 S0_ hI_ ) rfl rfl (fun Sx40_ px43_ => ?_) (fun u_ Sx40_ px43_ => ?_)
    · obtain ⟨hIx41_, hFx42_, px43_⟩ := px43_
      refine Or.inr ⟨_, rfl, hIx41_, ai_fr_tr hF_ (fr_le hFx42_ rfl), ?_⟩
      obtain ⟨z1_, z2_⟩ := px43_
      first | (exact absurd z1_ (by decide)) | (exact ⟨ha0_, z2_⟩)
    obtain ⟨rfl, hIx41_, hFx42_, px43_⟩ := px43_
    have hFx44_ : ai_fr (sx_W vw_213v) S0_ Sx40_ := ai_fr_tr hF_ (fr_le hFx42_ rfl)
    have e15_ := px43_
    obtain ⟨hs1_, hs2_, hs3_, hs4_⟩ : sv_ = (sl_ : Int) ∧ sl_ < 6 ∧ S0_.1 3 sl_ 0 = 0 ∧ ∀ j_ : Nat, j_ < sl_ → S0_.1 3 j_ 0 = 1 := by first | (exact absurd rfl e15_) | (rcases hsl_ with z_ | z_; (exact absurd z_.1 nv_); exact z_)
    clear hsl_
    have hb15_ := (fr_arr (t := 98) (i := 0) hFx42_ rfl).trans hb_
    have hn15_ := (hFx42_.1 10 0 1 rfl).trans hn_
    have d15_ : idf sl_ S0_ Sx40_ := idf_fr hFx42_ (by decide) (by decide)
    have u15_ : Sx40_.1 3 sl_ 0 = S0_.1 3 sl_ 0 := hFx42_.1 3 sl_ 0 rfl
    have hIx45_ : gi (sm_pI Sx40_ 12 0 10 0) := gi_pI hIx41_ (show 0 ≤ 0 ∧ 0 ≤ 23 from ⟨by omega, by omega⟩)
    have hFx46_ : ai_fr (sx_W vw_213v) S0_ (sm_pI Sx40_ 12 0 10 0) := ai_fr_tr hFx44_ (ai_fr_pI rfl)
    refine sm_T_go 7 (c1 := (29, [some (.inr (.inr (some (12, 0)))), some (.inl vx6_), some (.inl vx6_), none], [.inr (.inr (some (7, 0)))], sm_pI Sx40_ 12 0 10 0)) rfl ?_
    refine sm_T_calh (d1_ := 7) (ex_ := 2) (Q1_ := vq_115 b_ n_ (sm_pI Sx40_ 12 0 10 0)) (Q2_ := vx_115 b_ n_ (sm_pI Sx40_ 12 0 10 0)) rfl rfl (by decide) (vc_115 b_ n_ (sm_pI Sx40_ 12 0 10 0) hIx45_ (by exact hb15_) (by exact hn15_) (by exact hn1_)) rfl rfl (Nat.le_of_ble_eq_true rfl) (fun Sx47_ px50_ => ?_) (fun u_ Sx47_ px50_ => ?_)
    · obtain ⟨hIx48_, hFx49_, px50_⟩ := px50_
      have hFx51_ : ai_fr (sx_W vw_213v) S0_ Sx47_ := ai_fr_tr hFx46_ (fr_le hFx49_ rfl)
      obtain ⟨e9_, w1_, te_⟩ := px50_
      have na_ := dacc_l w1_
      have de9_ : dfe b_ n_ e9_ := Or.inl w1_
      have dz_ : idf sl_ S0_ Sx47_ := idf_tr (idf_pI d15_ (Or.inl (by decide))) (idf_fr hFx49_ (by decide) (by decide))
      have uz_ : Sx47_.1 3 sl_ 0 = 0 := ((hFx49_.1 3 sl_ 0 rfl).trans (rf_nt (by decide))).trans (u15_.trans hs3_)
      refine sm_T_go 0 (c1 := (49, [some (.inr (.inr (some (12, 0)))), some (.inl vx6_), some (.inl vx6_), none], [], Sx47_)) rfl ?_
      have bx52_ : 0 ≤ Sx47_.1 10 0 6 ∧ Sx47_.1 10 0 6 ≤ 23 := hIx48_.1 10 0 6 rfl
      have hIx53_ : gi (sm_pI Sx47_ 12 0 10 (Sx47_.1 10 0 6)) := gi_pI hIx48_ (show 0 ≤ (Sx47_.1 10 0 6) ∧ (Sx47_.1 10 0 6) ≤ 23 from ⟨by omega, by omega⟩)
      have hFx54_ : ai_fr (sx_W vw_213v) S0_ (sm_pI Sx47_ 12 0 10 (Sx47_.1 10 0 6)) := ai_fr_tr hFx51_ (ai_fr_pI rfl)
      have bx55_ : 0 ≤ Sx47_.1 10 0 7 ∧ Sx47_.1 10 0 7 ≤ 4095 := hIx48_.1 10 0 7 rfl
      refine sm_T_go 9 (c1 := (68, [some (.inr (.inr (some (12, 0)))), some (.inl vx6_), some (.inl vx6_), none], [.inl (Sx47_.1 10 0 7), .inl (-1)], sm_pI Sx47_ 12 0 10 (Sx47_.1 10 0 6))) rfl ?_
      refine sm_T_bin (w := -(Sx47_.1 10 0 7) - 1) rfl (bi_sub (by omega) (by omega) (by omega)) ?_
      have hIx56_ : gi (sm_pI (sm_pI Sx47_ 12 0 10 (Sx47_.1 10 0 6)) 10 0 1 0) := gi_pI hIx53_ (show 0 ≤ 0 ∧ 0 ≤ 1280 from ⟨by omega, by omega⟩)
      have hFx57_ : ai_fr (sx_W vw_213v) S0_ (sm_pI (sm_pI Sx47_ 12 0 10 (Sx47_.1 10 0 6)) 10 0 1 0) := ai_fr_tr hFx54_ (ai_fr_pI rfl)
      refine sm_T_go 6 (c1 := (79, [some (.inr (.inr (some (12, 0)))), some (.inl vx6_), some (.inl (-(Sx47_.1 10 0 7) - 1)), none], [.inl (-(Sx47_.1 10 0 7) - 1)], sm_pI (sm_pI Sx47_ 12 0 10 (Sx47_.1 10 0 6)) 10 0 1 0)) rfl ?_
      refine sm_T_ri rfl (Or.inl ⟨_, _, _, rfl, Nat.le_of_ble_eq_true rfl, _, rfl, hIx56_, hFx57_, ?_⟩)
      first | (exact absurd rfl e15_) | (refine ⟨sl_, hs2_, hs3_, hs4_, rf_eq, idf_pI d42_ (Or.inl (by decide)), Or.inl ⟨⟨r9_, z9_, ac_, dgx_fr (w_ := ([(10, 1)], [], [])) x6_ (ai_fr_pI rfl) rfl rfl rfl rfl rfl rfl⟩, (rf_nt (by decide)).trans x4_, ?_, by omega, (rf_nt (by decide)).trans lf42_⟩⟩; obtain ⟨F9_, y1_, y2_, y3_, y4_, y5_⟩ := x5_; have fz_ : ai_fr (sx_W ([(10, 1)], [], [])) _ ((sm_pI (sm_pI Sx47_ 12 0 10 (Sx47_.1 10 0 6)) 10 0 1 0)) := ai_fr_pI rfl; refine ⟨F9_, dgr_fr y1_ fz_ rfl rfl rfl rfl rfl, drt_fr y2_ fz_ rfl rfl rfl rfl rfl, swp_fr y3_ fz_ rfl rfl rfl rfl, dtb_fr y4_ fz_ rfl rfl, ?_⟩; rw [fz_.1 3 sl_ 5 rfl, fz_.1 3 sl_ 6 rfl, fz_.1 3 sl_ 2 rfl]; exact y5_) | (refine ⟨sl_, hs2_, hs3_, hs4_, rf_eq, idf_pI (idf_pI dz_ (Or.inl (by decide))) (Or.inl (by decide)), Or.inr ⟨na_, ?_, e9_, de9_, ?_, ?_⟩⟩; exact (rf_nt (by decide)).trans ((rf_nt (by decide)).trans uz_); (have t9_ := te_.2; omega); exact (rf_nt (by decide)).trans (rf_eq.trans te_.1))
    obtain ⟨rfl, hIx48_, hFx49_, px50_⟩ := px50_
    have hFx51_ : ai_fr (sx_W vw_213v) S0_ Sx47_ := ai_fr_tr hFx46_ (fr_le hFx49_ rfl)
    obtain ⟨r9_, w1_, w2_, w3_, w4_⟩ := px50_
    have lf29_ : Sx47_.1 12 0 10 = 0 := (hFx49_.1 12 0 10 rfl).trans rf_eq
    have d29_ : idf sl_ S0_ Sx47_ := idf_tr (idf_pI d15_ (Or.inl (by decide))) (idf_fr hFx49_ (by decide) (by decide))
    have u29_ : Sx47_.1 3 sl_ 0 = 0 := ((hFx49_.1 3 sl_ 0 rfl).trans (rf_nt (by decide))).trans (u15_.trans hs3_)
    refine sm_T_go 5 (c1 := (41, [some (.inr (.inr (some (12, 0)))), some (.inl vx6_), some (.inl vx6_), none], [.inl vx6_, .inr (.inr (some (110, 0))), .inr (.inr (some (1, 0)))], Sx47_)) rfl ?_
    refine sm_T_aald (t0 := 4) (n := 6) rfl rfl (by omega) (by omega) ?_
    refine sm_T_calh (d1_ := 27) (ex_ := 2) (Q1_ := vq_31v b_ n_ r9_ (vx6_.toNat) Sx47_) (Q2_ := vx_31v b_ n_ r9_ (vx6_.toNat) Sx47_) rfl rfl (by decide) (vc_31v b_ n_ r9_ (vx6_.toNat) Sx47_ hIx48_ (by exact w1_) (by exact w2_) (by exact w3_) (by exact w4_) (by exact hn1_)) rfl rfl (Nat.le_of_ble_eq_true rfl) (fun Sx58_ px61_ => ?_) (fun u_ Sx58_ px61_ => ?_)
    · obtain ⟨hIx59_, hFx60_, px61_⟩ := px61_
      have hFx62_ : ai_fr (sx_W vw_213v) S0_ Sx58_ := ai_fr_tr hFx51_ (fr_le hFx60_ rfl)
      obtain ⟨q1_, ⟨e9_, q2_, te_⟩, q3_⟩ := px61_
      rw [← hsv_, hs1_, Int.toNat_natCast] at q1_ q3_
      have na_ := dfl_na w1_ q2_
      have de9_ : dfe b_ n_ e9_ := Or.inr ⟨r9_, w1_, q2_⟩
      have dz_ : idf sl_ S0_ Sx58_ := idf_tr d29_ q1_
      have uz_ : Sx58_.1 3 sl_ 0 = 0 := q3_.trans u29_
      refine sm_T_go 0 (c1 := (49, [some (.inr (.inr (some (12, 0)))), some (.inl vx6_), some (.inl vx6_), none], [], Sx58_)) rfl ?_
      have bx63_ : 0 ≤ Sx58_.1 10 0 6 ∧ Sx58_.1 10 0 6 ≤ 23 := hIx59_.1 10 0 6 rfl
      have hIx64_ : gi (sm_pI Sx58_ 12 0 10 (Sx58_.1 10 0 6)) := gi_pI hIx59_ (show 0 ≤ (Sx58_.1 10 0 6) ∧ (Sx58_.1 10 0 6) ≤ 23 from ⟨by omega, by omega⟩)
      have hFx65_ : ai_fr (sx_W vw_213v) S0_ (sm_pI Sx58_ 12 0 10 (Sx58_.1 10 0 6)) := ai_fr_tr hFx62_ (ai_fr_pI rfl)
      have bx66_ : 0 ≤ Sx58_.1 10 0 7 ∧ Sx58_.1 10 0 7 ≤ 4095 := hIx59_.1 10 0 7 rfl
      refine sm_T_go 9 (c1 := (68, [some (.inr (.inr (some (12, 0)))), some (.inl vx6_), some (.inl vx6_), none], [.inl (Sx58_.1 10 0 7), .inl (-1)], sm_pI Sx58_ 12 0 10 (Sx58_.1 10 0 6))) rfl ?_
      refine sm_T_bin (w := -(Sx58_.1 10 0 7) - 1) rfl (bi_sub (by omega) (by omega) (by omega)) ?_
      have hIx67_ : gi (sm_pI (sm_pI Sx58_ 12 0 10 (Sx58_.1 10 0 6)) 10 0 1 0) := gi_pI hIx64_ (show 0 ≤ 0 ∧ 0 ≤ 1280 from ⟨by omega, by omega⟩)
      have hFx68_ : ai_fr (sx_W vw_213v) S0_ (sm_pI (sm_pI Sx58_ 12 0 10 (Sx58_.1 10 0 6)) 10 0 1 0) := ai_fr_tr hFx65_ (ai_fr_pI rfl)
      refine sm_T_go 6 (c1 := (79, [some (.inr (.inr (some (12, 0)))), some (.inl vx6_), some (.inl (-(Sx58_.1 10 0 7) - 1)), none], [.inl (-(Sx58_.1 10 0 7) - 1)], sm_pI (sm_pI Sx58_ 12 0 10 (Sx58_.1 10 0 6)) 10 0 1 0)) rfl ?_
      refine sm_T_ri rfl (Or.inl ⟨_, _, _, rfl, Nat.le_of_ble_eq_true rfl, _, rfl, hIx67_, hFx68_, ?_⟩)
      first | (exact absurd rfl e15_) | (refine ⟨sl_, hs2_, hs3_, hs4_, rf_eq, idf_pI d42_ (Or.inl (by decide)), Or.inl ⟨⟨r9_, z9_, ac_, dgx_fr (w_ := ([(10, 1)], [], [])) x6_ (ai_fr_pI rfl) rfl rfl rfl rfl rfl rfl⟩, (rf_nt (by decide)).trans x4_, ?_, by omega, (rf_nt (by decide)).trans lf42_⟩⟩; obtain ⟨F9_, y1_, y2_, y3_, y4_, y5_⟩ := x5_; have fz_ : ai_fr (sx_W ([(10, 1)], [], [])) _ ((sm_pI (sm_pI Sx58_ 12 0 10 (Sx58_.1 10 0 6)) 10 0 1 0)) := ai_fr_pI rfl; refine ⟨F9_, dgr_fr y1_ fz_ rfl rfl rfl rfl rfl, drt_fr y2_ fz_ rfl rfl rfl rfl rfl, swp_fr y3_ fz_ rfl rfl rfl rfl, dtb_fr y4_ fz_ rfl rfl, ?_⟩; rw [fz_.1 3 sl_ 5 rfl, fz_.1 3 sl_ 6 rfl, fz_.1 3 sl_ 2 rfl]; exact y5_) | (refine ⟨sl_, hs2_, hs3_, hs4_, rf_eq, idf_pI (idf_pI dz_ (Or.inl (by decide))) (Or.inl (by decide)), Or.inr ⟨na_, ?_, e9_, de9_, ?_, ?_⟩⟩; exact (rf_nt (by decide)).trans ((rf_nt (by decide)).trans uz_); (have t9_ := te_.2; omega); exact (rf_nt (by decide)).trans (rf_eq.trans te_.1))
    obtain ⟨rfl, hIx59_, hFx60_, px61_⟩ := px61_
    have hFx62_ : ai_fr (sx_W vw_213v) S0_ Sx58_ := ai_fr_tr hFx51_ (fr_le hFx60_ rfl)
    obtain ⟨dx69_, px61_⟩ := px61_
    have e42_ := px61_
    have k42_ := dx69_
    rw [← hsv_, hs1_, Int.toNat_natCast] at e42_ k42_
    have lf42_ : Sx58_.1 12 0 10 = 0 := (hFx60_.1 12 0 10 rfl).trans lf29_
    have d42_ : idf sl_ S0_ Sx58_ := idf_tr d29_ k42_
    obtain ⟨x1_, ⟨z9_, x2_, x3_, x6_⟩, x4_, x5_⟩ := e42_
    have ac_ : dok b_ n_ r9_ z9_ := ⟨w1_, x1_, x2_, x3_⟩
    have hIx70_ : gi (sm_pI Sx58_ 10 0 1 0) := gi_pI hIx59_ (show 0 ≤ 0 ∧ 0 ≤ 1280 from ⟨by omega, by omega⟩)
    have hFx71_ : ai_fr (sx_W vw_213v) S0_ (sm_pI Sx58_ 10 0 1 0) := ai_fr_tr hFx62_ (ai_fr_pI rfl)
    refine sm_T_go 6 (c1 := (79, [some (.inr (.inr (some (12, 0)))), some (.inl vx6_), some (.inl vx6_), none], [.inl vx6_], sm_pI Sx58_ 10 0 1 0)) rfl ?_
    refine sm_T_ri rfl (Or.inl ⟨_, _, _, rfl, Nat.le_of_ble_eq_true rfl, _, rfl, hIx70_, hFx71_, ?_⟩)
    first | (exact absurd rfl e15_) | (refine ⟨sl_, hs2_, hs3_, hs4_, rf_eq, idf_pI d42_ (Or.inl (by decide)), Or.inl ⟨⟨r9_, z9_, ac_, dgx_fr (w_ := ([(10, 1)], [], [])) x6_ (ai_fr_pI rfl) rfl rfl rfl rfl rfl rfl⟩, (rf_nt (by decide)).trans x4_, ?_, by omega, (rf_nt (by decide)).trans lf42_⟩⟩; obtain ⟨F9_, y1_, y2_, y3_, y4_, y5_⟩ := x5_; have fz_ : ai_fr (sx_W ([(10, 1)], [], [])) _ ((sm_pI Sx58_ 10 0 1 0)) := ai_fr_pI rfl; refine ⟨F9_, dgr_fr y1_ fz_ rfl rfl rfl rfl rfl, drt_fr y2_ fz_ rfl rfl rfl rfl rfl, swp_fr y3_ fz_ rfl rfl rfl rfl, dtb_fr y4_ fz_ rfl rfl, ?_⟩; rw [fz_.1 3 sl_ 5 rfl, fz_.1 3 sl_ 6 rfl, fz_.1 3 sl_ 2 rfl]; exact y5_) | (refine ⟨sl_, hs2_, hs3_, hs4_, rf_eq, idf_pI (idf_pI dz_ (Or.inl (by decide))) (Or.inl (by decide)), Or.inr ⟨na_, ?_, e9_, de9_, ?_, ?_⟩⟩; exact (rf_nt (by decide)).trans ((rf_nt (by decide)).trans uz_); (have t9_ := te_.2; omega); exact (rf_nt (by decide)).trans (rf_eq.trans te_.1))
end
