/-! 99.ztZj -/
section
/-! a chip is kept: the reference; written by wip/p55/gen/vg -/

/-! what keepChip leaves -/
def kcp (c_ d_ : Int) (S_ S'_ : sm_S) : Prop := S'_.2.2.1 222 0 c_.toNat = 1 ∧ (S'_.2.2.1 223 0 c_.toNat = S_.2.2.1 154 0 d_.toNat ∧ S'_.2.2.1 224 0 c_.toNat = S_.2.2.1 155 0 d_.toNat ∧ S'_.2.2.1 225 0 c_.toNat = S_.2.2.1 156 0 d_.toNat ∧ S'_.2.2.1 226 0 c_.toNat = S_.2.2.1 157 0 d_.toNat ∧ S'_.2.2.1 227 0 c_.toNat = S_.2.2.1 157 0 d_.toNat ∧ S'_.2.2.1 228 0 c_.toNat = S_.1 13 0 129) ∧ (∀ j9_ : Int, 0 ≤ j9_ → j9_ < S_.1 13 0 129 → S'_.2.2.1 229 0 (150 * c_ + j9_).toNat = S_.2.2.1 216 0 j9_.toNat) ∧ (∀ j9_ : Int, 0 ≤ j9_ → j9_ < 3 * S_.1 13 0 129 → S'_.2.2.1 230 0 (450 * c_ + j9_).toNat = S_.2.2.1 217 0 j9_.toNat) ∧ S'_.2.2.1 233 0 c_.toNat = S_.2.2.1 184 0 (S_.1 13 0 106).toNat ∧ (∀ j9_ : Int, 0 ≤ j9_ → j9_ < 12 → S'_.2.2.1 234 0 (12 * c_ + j9_).toNat = S_.2.2.1 185 0 (12 * S_.1 13 0 106 + j9_).toNat ∧ S'_.2.2.1 235 0 (12 * c_ + j9_).toNat = S_.2.2.1 186 0 (12 * S_.1 13 0 106 + j9_).toNat ∧ S'_.2.2.1 236 0 (12 * c_ + j9_).toNat = S_.2.2.1 187 0 (12 * S_.1 13 0 106 + j9_).toNat ∧ S'_.2.2.1 237 0 (12 * c_ + j9_).toNat = S_.2.2.1 188 0 (12 * S_.1 13 0 106 + j9_).toNat) ∧ S'_.2.2.1 231 0 = S_.2.2.1 231 0 ∧ S'_.2.2.1 232 0 = S_.2.2.1 232 0 ∧ S'_.2.2.1 240 0 c_.toNat = 0

/-! M_.keepChip -/
def vw_420n : sx_Wl := ([], [222, 223, 224, 225, 226, 227, 228, 229, 230, 233, 234, 235, 236, 237, 240, 251, 263, 272, 289, 294], [])
def vq_420n (c_ : Int) (F_ : Int) (N_ : Int) (d_ : Int) (S0_ : sm_S) (u_ : Option sm_V) (S1_ : sm_S) : Prop := u_ = none ∧ gi S1_ ∧ ai_fr (sx_W vw_420n) S0_ S1_ ∧ (rcf c_.toNat S0_ S1_ ∧ (cRk c_ S1_ ∧ kcp c_ d_ S0_ S1_))
set_option maxHeartbeats 2000000 in
set_option maxRecDepth 20000 in
theorem vl_420n {sc_ : Nat × (Nat → Int)} (c_ : Int) (F_ : Int) (N_ : Int) (d_ : Int) (S0_ : sm_S) (hd_ : dmp F_ N_ d_ S0_) (hc_ : 0 ≤ c_ ∧ c_ ≤ 3) (hmd_ : mad F_ S0_) (hl_ : (S0_.1 13 0 134) = 0) (hg_ : 0 ≤ (S0_.1 13 0 129) ∧ (S0_.1 13 0 129) ≤ 150) (hlb_ : 0 ≤ (S0_.1 13 0 106) ∧ (S0_.1 13 0 106) ≤ 2) (ho_ : (∀ k_ : Int, 0 ≤ k_ → k_ < S0_.2.2.1 156 0 d_.toNat → S0_.2.2.1 231 0 (16 * c_ + k_).toNat < F_ - 1 + S0_.1 13 0 129) ∧ ∀ k_ : Int, 0 ≤ k_ → k_ < S0_.2.2.1 155 0 d_.toNat → S0_.2.2.1 232 0 (6 * c_ + k_).toNat < F_ - 1 + S0_.1 13 0 129) : ∀ nn_ : Nat, (∀ (g_ : Int) (S_ : sm_S), gi S_ → ai_fr (sx_W vw_420n) S0_ S_ → ((0 ≤ g_ ∧ g_ ≤ S0_.1 13 0 129) ∧ (S_.2.2.1 223 0 c_.toNat = S0_.2.2.1 154 0 d_.toNat ∧ S_.2.2.1 224 0 c_.toNat = S0_.2.2.1 155 0 d_.toNat ∧ S_.2.2.1 225 0 c_.toNat = S0_.2.2.1 156 0 d_.toNat ∧ S_.2.2.1 226 0 c_.toNat = S0_.2.2.1 157 0 d_.toNat ∧ S_.2.2.1 227 0 c_.toNat = S0_.2.2.1 157 0 d_.toNat ∧ S_.2.2.1 228 0 c_.toNat = S0_.1 13 0 129) ∧ (S_.2.2.1 222 0 c_.toNat = 1) ∧ (∀ j9_ : Int, 0 ≤ j9_ → j9_ < g_ → S_.2.2.1 229 0 (150 * c_ + j9_).toNat = S0_.2.2.1 216 0 j9_.toNat) ∧ (∀ j9_ : Int, 0 ≤ j9_ → j9_ < 3 * g_ → S_.2.2.1 230 0 (450 * c_ + j9_).toNat = S0_.2.2.1 217 0 j9_.toNat) ∧ (rcf c_.toNat S0_ S_) ∧ True) → ((9000 - 10 * g_).toNat) < nn_ → sm_T (mt_P sc_) 1 420 (91, [some (.inr (.inr (some (13, 0)))), some (.inl c_), some (.inl g_), none], [], S_) (fun ro9_ => ∃ u_ S1_, ro9_ = (.inl u_, S1_, 0) ∧ vq_420n c_ F_ N_ d_ S0_ u_ S1_)) ∧ (∀ (g_ : Int) (k_ : Int) (S_ : sm_S), gi S_ → ai_fr (sx_W vw_420n) S0_ S_ → ((0 ≤ g_ ∧ g_ < S0_.1 13 0 129 ∧ 0 ≤ k_ ∧ k_ ≤ 3) ∧ (S_.2.2.1 223 0 c_.toNat = S0_.2.2.1 154 0 d_.toNat ∧ S_.2.2.1 224 0 c_.toNat = S0_.2.2.1 155 0 d_.toNat ∧ S_.2.2.1 225 0 c_.toNat = S0_.2.2.1 156 0 d_.toNat ∧ S_.2.2.1 226 0 c_.toNat = S0_.2.2.1 157 0 d_.toNat ∧ S_.2.2.1 227 0 c_.toNat = S0_.2.2.1 157 0 d_.toNat ∧ S_.2.2.1 228 0 c_.toNat = S0_.1 13 0 129) ∧ (S_.2.2.1 222 0 c_.toNat = 1) ∧ (∀ j9_ : Int, 0 ≤ j9_ → j9_ < g_ + 1 → S_.2.2.1 229 0 (150 * c_ + j9_).toNat = S0_.2.2.1 216 0 j9_.toNat) ∧ (∀ j9_ : Int, 0 ≤ j9_ → j9_ < 3 * g_ + k_ → S_.2.2.1 230 0 (450 * c_ + j9_).toNat = S0_.2.2.1 217 0 j9_.toNat) ∧ (rcf c_.toNat S0_ S_) ∧ True) → ((8995 - 10 * g_ - k_).toNat) < nn_ → sm_T (mt_P sc_) 1 420 (119, [some (.inr (.inr (some (13, 0)))), some (.inl c_), some (.inl g_), some (.inl k_)], [], S_) (fun ro9_ => ∃ u_ S1_, ro9_ = (.inl u_, S1_, 0) ∧ vq_420n c_ F_ N_ d_ S0_ u_ S1_)) ∧ (∀ (i_ : Int) (S_ : sm_S), gi S_ → ai_fr (sx_W vw_420n) S0_ S_ → ((0 ≤ i_ ∧ i_ ≤ 12) ∧ (S_.2.2.1 223 0 c_.toNat = S0_.2.2.1 154 0 d_.toNat ∧ S_.2.2.1 224 0 c_.toNat = S0_.2.2.1 155 0 d_.toNat ∧ S_.2.2.1 225 0 c_.toNat = S0_.2.2.1 156 0 d_.toNat ∧ S_.2.2.1 226 0 c_.toNat = S0_.2.2.1 157 0 d_.toNat ∧ S_.2.2.1 227 0 c_.toNat = S0_.2.2.1 157 0 d_.toNat ∧ S_.2.2.1 228 0 c_.toNat = S0_.1 13 0 129) ∧ (S_.2.2.1 222 0 c_.toNat = 1) ∧ (S_.2.2.1 233 0 c_.toNat = S0_.2.2.1 184 0 (S0_.1 13 0 106).toNat) ∧ (∀ j9_ : Int, 0 ≤ j9_ → j9_ < i_ → S_.2.2.1 235 0 (12 * c_ + j9_).toNat = S0_.2.2.1 186 0 (12 * S0_.1 13 0 106 + j9_).toNat ∧ S_.2.2.1 236 0 (12 * c_ + j9_).toNat = S0_.2.2.1 187 0 (12 * S0_.1 13 0 106 + j9_).toNat ∧ S_.2.2.1 237 0 (12 * c_ + j9_).toNat = S0_.2.2.1 188 0 (12 * S0_.1 13 0 106 + j9_).toNat) ∧ (∀ j9_ : Int, 0 ≤ j9_ → j9_ < S0_.1 13 0 129 → S_.2.2.1 229 0 (150 * c_ + j9_).toNat = S0_.2.2.1 216 0 j9_.toNat) ∧ (∀ j9_ : Int, 0 ≤ j9_ → j9_ < 3 * S0_.1 13 0 129 → S_.2.2.1 230 0 (450 * c_ + j9_).toNat = S0_.2.2.1 217 0 j9_.toNat) ∧ (∀ j9_ : Int, 0 ≤ j9_ → j9_ < i_ → S_.2.2.1 234 0 (12 * c_ + j9_).toNat = S0_.2.2.1 185 0 (12 * S0_.1 13 0 106 + j9_).toNat) ∧ (rcf c_.toNat S0_ S_) ∧ True) → ((500 - i_).toNat) < nn_ → sm_T (mt_P sc_) 1 420 (179, [some (.inr (.inr (some (13, 0)))), some (.inl c_), some (.inl i_), none], [], S_) (fun ro9_ => ∃ u_ S1_, ro9_ = (.inl u_, S1_, 0) ∧ vq_420n c_ F_ N_ d_ S0_ u_ S1_)) := by
  intro nn_
  induction nn_ with
  | zero => exact ⟨fun _ _ _ _ _ h_ => absurd h_ (Nat.not_lt_zero _), fun _ _ _ _ _ _ h_ => absurd h_ (Nat.not_lt_zero _), fun _ _ _ _ _ h_ => absurd h_ (Nat.not_lt_zero _)⟩
  | succ nn_ ih_ =>
    refine ⟨?_, ?_, ?_⟩
    · rintro g_ S_ hI_ hF_ ⟨h0_, h1_, hT_, h2_, h3_, hK_, -⟩ hm_
      have d1_ := hd_.1
      have s129_ : S_.1 13 0 129 = S0_.1 13 0 129 := hF_.1 13 0 129 rfl
      have s106_ : S_.1 13 0 106 = S0_.1 13 0 106 := hF_.1 13 0 106 rfl
      have s105_ : S_.1 13 0 105 = S0_.1 13 0 105 := hF_.1 13 0 105 rfl
      have f216_ : S_.2.2.1 216 0 = S0_.2.2.1 216 0 := fr_arr hF_ rfl
      have f217_ : S_.2.2.1 217 0 = S0_.2.2.1 217 0 := fr_arr hF_ rfl
      have f184_ : S_.2.2.1 184 0 = S0_.2.2.1 184 0 := fr_arr hF_ rfl
      have f185_ : S_.2.2.1 185 0 = S0_.2.2.1 185 0 := fr_arr hF_ rfl
      have f186_ : S_.2.2.1 186 0 = S0_.2.2.1 186 0 := fr_arr hF_ rfl
      have f187_ : S_.2.2.1 187 0 = S0_.2.2.1 187 0 := fr_arr hF_ rfl
      have f188_ : S_.2.2.1 188 0 = S0_.2.2.1 188 0 := fr_arr hF_ rfl
      have f231_ : S_.2.2.1 231 0 = S0_.2.2.1 231 0 := fr_arr hF_ rfl
      have f232_ : S_.2.2.1 232 0 = S0_.2.2.1 232 0 := fr_arr hF_ rfl
      have bx1_ : 0 ≤ S_.1 13 0 129 ∧ S_.1 13 0 129 ≤ 8191 := hI_.1 13 0 129 rfl
      refine sm_T_go 3 (c1 := (96, [some (.inr (.inr (some (13, 0)))), some (.inl c_), some (.inl g_), none], [.inl (S_.1 13 0 129), .inl g_], S_)) rfl ?_
      refine sm_T_br (a := 3) (z := 66) rfl (fun cx2_ => ?_) (fun cx2_ => ?_)
      · have cx2_ : (S_.1 13 0 129) ≤ g_ := of_decide_eq_true cx2_
        have bx3_ : 0 ≤ S_.1 13 0 106 ∧ S_.1 13 0 106 ≤ 2 := hI_.1 13 0 106 rfl
        refine sm_T_go 7 (c1 := (175, [some (.inr (.inr (some (13, 0)))), some (.inl c_), some (.inl g_), none], [.inl (S_.1 13 0 106), .inr (.inr (some (184, 0))), .inl c_, .inr (.inr (some (233, 0)))], S_)) rfl ?_
        refine sm_T_iald (n := 3) rfl rfl (by omega) (by omega) ?_
        have bx4_ : 0 ≤ S_.2.2.1 184 0 (S_.1 13 0 106).toNat ∧ S_.2.2.1 184 0 (S_.1 13 0 106).toNat ≤ 12 := hI_.2 184 0 _
        refine sm_T_iast (n := 4) rfl rfl (by omega) (by omega) ?_
        have hIx5_ : gi (sm_aI S_ 233 0 c_.toNat (S_.2.2.1 184 0 (S_.1 13 0 106).toNat)) := gi_aI hI_ (show 0 ≤ (S_.2.2.1 184 0 (S_.1 13 0 106).toNat) ∧ (S_.2.2.1 184 0 (S_.1 13 0 106).toNat) ≤ 12 from ⟨by omega, by omega⟩)
        have hFx6_ : ai_fr (sx_W vw_420n) S0_ (sm_aI S_ 233 0 c_.toNat (S_.2.2.1 184 0 (S_.1 13 0 106).toNat)) := ai_fr_tr hF_ (ai_fr_aI rfl)
        have hKx7_ : rcf c_.toNat S0_ (sm_aI S_ 233 0 c_.toNat (S_.2.2.1 184 0 (S_.1 13 0 106).toNat)) := rcf_aI hK_ (Or.inr (by rw [show rcs 233 = 1 from rfl]; omega))
        refine sm_T_go 2 (c1 := (179, [some (.inr (.inr (some (13, 0)))), some (.inl c_), some (.inl 0), none], [], sm_aI S_ 233 0 c_.toNat (S_.2.2.1 184 0 (S_.1 13 0 106).toNat))) rfl ?_
        refine ih_.2.2 0 (sm_aI S_ 233 0 c_.toNat (S_.2.2.1 184 0 (S_.1 13 0 106).toNat)) hIx5_ hFx6_ ⟨?_, ?_, ?_, ?_, ?_, ?_, ?_, ?_, ?_, trivial⟩ ?_
        · omega
        · (try simp only [rd_eq, rd_ne, rf_eq, rf_nk, rf_nt, rd_fa, rd_af, rd_fl, rd_al, rd_lf, rd_la, rd_leq, rd_lne, rd_fr, rd_ar, ne_eq, Nat.reduceEqDiff, not_false_eq_true])
          exact h1_
        · (try simp only [rd_eq, rd_ne, rf_eq, rf_nk, rf_nt, rd_fa, rd_af, rd_fl, rd_al, rd_lf, rd_la, rd_leq, rd_lne, rd_fr, rd_ar, ne_eq, Nat.reduceEqDiff, not_false_eq_true])
          exact hT_
        · (try simp only [rd_eq, rd_ne, rf_eq, rf_nk, rf_nt, rd_fa, rd_af, rd_fl, rd_al, rd_lf, rd_la, rd_leq, rd_lne, rd_fr, rd_ar, ne_eq, Nat.reduceEqDiff, not_false_eq_true])
          first | (rw [if_pos trivial, s106_]; exact congrFun f184_ _) | (rw [if_pos rfl, s106_]; exact congrFun f184_ _) | (rw [s106_]; exact congrFun f184_ _)
        · (intro j9_ u0_ u1_; exfalso; omega)
        · intro j9_ u0_ u1_
          (try simp only [rd_eq, rd_ne, rf_eq, rf_nk, rf_nt, rd_fa, rd_af, rd_fl, rd_al, rd_lf, rd_la, rd_leq, rd_lne, rd_fr, rd_ar, ne_eq, Nat.reduceEqDiff, not_false_eq_true])
          exact h2_ j9_ u0_ (by omega)
        · intro j9_ u0_ u1_
          (try simp only [rd_eq, rd_ne, rf_eq, rf_nk, rf_nt, rd_fa, rd_af, rd_fl, rd_al, rd_lf, rd_la, rd_leq, rd_lne, rd_fr, rd_ar, ne_eq, Nat.reduceEqDiff, not_false_eq_true])
          exact h3_ j9_ u0_ (by omega)
        · (intro j9_ u0_ u1_; exfalso; omega)
        · exact hKx7_
        · omega
      · have cx2_ : ¬ ((S_.1 13 0 129) ≤ g_) := of_decide_eq_false cx2_
        have m9_ := hmd_ g_ (by omega) (by omega)
        have x216_ : S_.2.2.1 216 0 g_.toNat = S0_.2.2.1 216 0 g_.toNat := congrFun f216_ _
        have m8_ : 0 ≤ S0_.2.2.1 216 0 g_.toNat := by (rcases m9_.1 with y9_ | y9_; exact y9_; (exfalso; omega))
        refine sm_T_go 4 (c1 := (107, [some (.inr (.inr (some (13, 0)))), some (.inl c_), some (.inl g_), none], [.inl c_, .inl 150, .inr (.inr (some (229, 0)))], S_)) rfl ?_
        refine sm_T_bin (w := 150 * c_) rfl (bi_mul (by omega) (by omega) (by omega)) ?_ -- pc_ 107
        refine sm_T_go 1 (c1 := (109, [some (.inr (.inr (some (13, 0)))), some (.inl c_), some (.inl g_), none], [.inl g_, .inl (150 * c_), .inr (.inr (some (229, 0)))], S_)) rfl ?_
        refine sm_T_bin (w := 150 * c_ + g_) rfl (bi_add (by omega) (by omega) (by omega)) ?_ -- pc_ 109
        refine sm_T_go 3 (c1 := (115, [some (.inr (.inr (some (13, 0)))), some (.inl c_), some (.inl g_), none], [.inl g_, .inr (.inr (some (216, 0))), .inl (150 * c_ + g_), .inr (.inr (some (229, 0)))], S_)) rfl ?_
        refine sm_T_iald (n := 8192) rfl rfl (by omega) (by omega) ?_
        have bx8_ : (-1) ≤ S_.2.2.1 216 0 g_.toNat ∧ S_.2.2.1 216 0 g_.toNat ≤ 11 := hI_.2 216 0 _
        refine sm_T_iast (n := 600) rfl rfl (by omega) (by omega) ?_
        have hIx9_ : gi (sm_aI S_ 229 0 (150 * c_ + g_).toNat (S_.2.2.1 216 0 g_.toNat)) := gi_aI hI_ (show 0 ≤ (S_.2.2.1 216 0 g_.toNat) ∧ (S_.2.2.1 216 0 g_.toNat) ≤ 11 from ⟨by omega, by omega⟩)
        have hFx10_ : ai_fr (sx_W vw_420n) S0_ (sm_aI S_ 229 0 (150 * c_ + g_).toNat (S_.2.2.1 216 0 g_.toNat)) := ai_fr_tr hF_ (ai_fr_aI rfl)
        have hKx11_ : rcf c_.toNat S0_ (sm_aI S_ 229 0 (150 * c_ + g_).toNat (S_.2.2.1 216 0 g_.toNat)) := rcf_aI hK_ (Or.inr (by rw [show rcs 229 = 150 from rfl]; omega))
        refine sm_T_go 2 (c1 := (119, [some (.inr (.inr (some (13, 0)))), some (.inl c_), some (.inl g_), some (.inl 0)], [], sm_aI S_ 229 0 (150 * c_ + g_).toNat (S_.2.2.1 216 0 g_.toNat))) rfl ?_
        refine ih_.2.1 g_ 0 (sm_aI S_ 229 0 (150 * c_ + g_).toNat (S_.2.2.1 216 0 g_.toNat)) hIx9_ hFx10_ ⟨?_, ?_, ?_, ?_, ?_, ?_, trivial⟩ ?_
        · omega
        · (try simp only [rd_eq, rd_ne, rf_eq, rf_nk, rf_nt, rd_fa, rd_af, rd_fl, rd_al, rd_lf, rd_la, rd_leq, rd_lne, rd_fr, rd_ar, ne_eq, Nat.reduceEqDiff, not_false_eq_true])
          exact h1_
        · (try simp only [rd_eq, rd_ne, rf_eq, rf_nk, rf_nt, rd_fa, rd_af, rd_fl, rd_al, rd_lf, rd_la, rd_leq, rd_lne, rd_fr, rd_ar, ne_eq, Nat.reduceEqDiff, not_false_eq_true])
          exact hT_
        · intro j9_ u0_ u1_
          (try simp only [rd_eq, rd_ne, rf_eq, rf_nk, rf_nt, rd_fa, rd_af, rd_fl, rd_al, rd_lf, rd_la, rd_leq, rd_lne, rd_fr, rd_ar, ne_eq, Nat.reduceEqDiff, not_false_eq_true])
          by_cases z9_ : j9_ = g_
          · rw [z9_, if_pos rfl]; exact x216_
          · rw [if_neg (by omega)]; exact h2_ j9_ u0_ (by omega)
        · intro j9_ u0_ u1_
          (try simp only [rd_eq, rd_ne, rf_eq, rf_nk, rf_nt, rd_fa, rd_af, rd_fl, rd_al, rd_lf, rd_la, rd_leq, rd_lne, rd_fr, rd_ar, ne_eq, Nat.reduceEqDiff, not_false_eq_true])
          exact h3_ j9_ u0_ (by omega)
        · exact hKx11_
        · omega
    · rintro g_ k_ S_ hI_ hF_ ⟨h0_, h1_, hT_, h2_, h3_, hK_, -⟩ hm_
      have d1_ := hd_.1
      have s129_ : S_.1 13 0 129 = S0_.1 13 0 129 := hF_.1 13 0 129 rfl
      have s106_ : S_.1 13 0 106 = S0_.1 13 0 106 := hF_.1 13 0 106 rfl
      have s105_ : S_.1 13 0 105 = S0_.1 13 0 105 := hF_.1 13 0 105 rfl
      have f216_ : S_.2.2.1 216 0 = S0_.2.2.1 216 0 := fr_arr hF_ rfl
      have f217_ : S_.2.2.1 217 0 = S0_.2.2.1 217 0 := fr_arr hF_ rfl
      have f184_ : S_.2.2.1 184 0 = S0_.2.2.1 184 0 := fr_arr hF_ rfl
      have f185_ : S_.2.2.1 185 0 = S0_.2.2.1 185 0 := fr_arr hF_ rfl
      have f186_ : S_.2.2.1 186 0 = S0_.2.2.1 186 0 := fr_arr hF_ rfl
      have f187_ : S_.2.2.1 187 0 = S0_.2.2.1 187 0 := fr_arr hF_ rfl
      have f188_ : S_.2.2.1 188 0 = S0_.2.2.1 188 0 := fr_arr hF_ rfl
      have f231_ : S_.2.2.1 231 0 = S0_.2.2.1 231 0 := fr_arr hF_ rfl
      have f232_ : S_.2.2.1 232 0 = S0_.2.2.1 232 0 := fr_arr hF_ rfl
      refine sm_T_go 2 (c1 := (121, [some (.inr (.inr (some (13, 0)))), some (.inl c_), some (.inl g_), some (.inl k_)], [.inl 3, .inl k_], S_)) rfl ?_
      refine sm_T_br (a := 3) (z := 35) rfl (fun cx1_ => ?_) (fun cx1_ => ?_)
      · have cx1_ : 3 ≤ k_ := of_decide_eq_true cx1_
        refine sm_T_inc (a := 2) (z := 1) (v := g_) (w := g_ + 1) rfl rfl (by omega) (by omega) (by omega) ?_ -- pc_ 156
        refine sm_T_go 1 (c1 := (91, [some (.inr (.inr (some (13, 0)))), some (.inl c_), some (.inl (g_ + 1)), some (.inl k_)], [], S_)) rfl ?_
        refine sm_T_wk [some (.inr (.inr (some (13, 0)))), some (.inl c_), some (.inl (g_ + 1)), none] (by exact ⟨rfl, rfl, rfl, trivial⟩) ?_
        refine ih_.1 (g_ + 1) S_ hI_ hF_ ⟨?_, ?_, ?_, ?_, ?_, ?_, trivial⟩ ?_
        · omega
        · exact h1_
        · exact hT_
        · exact h2_
        · (intro j9_ u0_ u1_; exact h3_ j9_ u0_ (by omega))
        · exact hK_
        · omega
      · have cx1_ : ¬ (3 ≤ k_) := of_decide_eq_false cx1_
        have m9_ := (hmd_ g_ (by omega) (by omega)).2 k_ (by omega) (by omega)
        have x217_ : S_.2.2.1 217 0 (3 * g_ + k_).toNat = S0_.2.2.1 217 0 (3 * g_ + k_).toNat := congrFun f217_ _
        refine sm_T_go 5 (c1 := (133, [some (.inr (.inr (some (13, 0)))), some (.inl c_), some (.inl g_), some (.inl k_)], [.inl c_, .inl 150, .inl 3, .inr (.inr (some (230, 0)))], S_)) rfl ?_
        refine sm_T_bin (w := 150 * c_) rfl (bi_mul (by omega) (by omega) (by omega)) ?_ -- pc_ 133
        refine sm_T_go 1 (c1 := (135, [some (.inr (.inr (some (13, 0)))), some (.inl c_), some (.inl g_), some (.inl k_)], [.inl g_, .inl (150 * c_), .inl 3, .inr (.inr (some (230, 0)))], S_)) rfl ?_
        refine sm_T_bin (w := 150 * c_ + g_) rfl (bi_add (by omega) (by omega) (by omega)) ?_ -- pc_ 135
        refine sm_T_bin (w := 450 * c_ + 3 * g_) rfl (bi_mul (by omega) (by omega) (by omega)) ?_ -- pc_ 136
        refine sm_T_go 1 (c1 := (138, [some (.inr (.inr (some (13, 0)))), some (.inl c_), some (.inl g_), some (.inl k_)], [.inl k_, .inl (450 * c_ + 3 * g_), .inr (.inr (some (230, 0)))], S_)) rfl ?_
        refine sm_T_bin (w := 450 * c_ + 3 * g_ + k_) rfl (bi_add (by omega) (by omega) (by omega)) ?_ -- pc_ 138
        refine sm_T_go 4 (c1 := (145, [some (.inr (.inr (some (13, 0)))), some (.inl c_), some (.inl g_), some (.inl k_)], [.inl g_, .inl 3, .inr (.inr (some (217, 0))), .inl (450 * c_ + 3 * g_ + k_), .inr (.inr (some (230, 0)))], S_)) rfl ?_
        refine sm_T_bin (w := 3 * g_) rfl (bi_mul (by omega) (by omega) (by omega)) ?_ -- pc_ 145
        refine sm_T_go 1 (c1 := (147, [some (.inr (.inr (some (13, 0)))), some (.inl c_), some (.inl g_), some (.inl k_)], [.inl k_, .inl (3 * g_), .inr (.inr (some (217, 0))), .inl (450 * c_ + 3 * g_ + k_), .inr (.inr (some (230, 0)))], S_)) rfl ?_
        refine sm_T_bin (w := 3 * g_ + k_) rfl (bi_add (by omega) (by omega) (by omega)) ?_ -- pc_ 147
        refine sm_T_iald (n := 24576) rfl rfl (by omega) (by omega) ?_
        have bx2_ : (-2) ≤ S_.2.2.1 217 0 (3 * g_ + k_).toNat ∧ S_.2.2.1 217 0 (3 * g_ + k_).toNat ≤ 9000 := hI_.2 217 0 _
        refine sm_T_iast (n := 1800) rfl rfl (by omega) (by omega) ?_
        have hIx3_ : gi (sm_aI S_ 230 0 (450 * c_ + 3 * g_ + k_).toNat (S_.2.2.1 217 0 (3 * g_ + k_).toNat)) := gi_aI hI_ (show (-1) ≤ (S_.2.2.1 217 0 (3 * g_ + k_).toNat) ∧ (S_.2.2.1 217 0 (3 * g_ + k_).toNat) ≤ 161 from ⟨by omega, by omega⟩)
        have hFx4_ : ai_fr (sx_W vw_420n) S0_ (sm_aI S_ 230 0 (450 * c_ + 3 * g_ + k_).toNat (S_.2.2.1 217 0 (3 * g_ + k_).toNat)) := ai_fr_tr hF_ (ai_fr_aI rfl)
        have hKx5_ : rcf c_.toNat S0_ (sm_aI S_ 230 0 (450 * c_ + 3 * g_ + k_).toNat (S_.2.2.1 217 0 (3 * g_ + k_).toNat)) := rcf_aI hK_ (Or.inr (by rw [show rcs 230 = 450 from rfl]; omega))
        refine sm_T_inc (a := 3) (z := 1) (v := k_) (w := k_ + 1) rfl rfl (by omega) (by omega) (by omega) ?_ -- pc_ 150
        refine sm_T_go 1 (c1 := (119, [some (.inr (.inr (some (13, 0)))), some (.inl c_), some (.inl g_), some (.inl (k_ + 1))], [], sm_aI S_ 230 0 (450 * c_ + 3 * g_ + k_).toNat (S_.2.2.1 217 0 (3 * g_ + k_).toNat))) rfl ?_
        refine ih_.2.1 g_ (k_ + 1) (sm_aI S_ 230 0 (450 * c_ + 3 * g_ + k_).toNat (S_.2.2.1 217 0 (3 * g_ + k_).toNat)) hIx3_ hFx4_ ⟨?_, ?_, ?_, ?_, ?_, ?_, trivial⟩ ?_
        · omega
        · (try simp only [rd_eq, rd_ne, rf_eq, rf_nk, rf_nt, rd_fa, rd_af, rd_fl, rd_al, rd_lf, rd_la, rd_leq, rd_lne, rd_fr, rd_ar, ne_eq, Nat.reduceEqDiff, not_false_eq_true])
          exact h1_
        · (try simp only [rd_eq, rd_ne, rf_eq, rf_nk, rf_nt, rd_fa, rd_af, rd_fl, rd_al, rd_lf, rd_la, rd_leq, rd_lne, rd_fr, rd_ar, ne_eq, Nat.reduceEqDiff, not_false_eq_true])
          exact hT_
        · intro j9_ u0_ u1_
          (try simp only [rd_eq, rd_ne, rf_eq, rf_nk, rf_nt, rd_fa, rd_af, rd_fl, rd_al, rd_lf, rd_la, rd_leq, rd_lne, rd_fr, rd_ar, ne_eq, Nat.reduceEqDiff, not_false_eq_true])
          exact h2_ j9_ u0_ u1_
        · intro j9_ u0_ u1_
          (try simp only [rd_eq, rd_ne, rf_eq, rf_nk, rf_nt, rd_fa, rd_af, rd_fl, rd_al, rd_lf, rd_la, rd_leq, rd_lne, rd_fr, rd_ar, ne_eq, Nat.reduceEqDiff, not_false_eq_true])
          by_cases z9_ : j9_ = 3 * g_ + k_
          · rw [z9_, if_pos (by omega)]; exact congrFun f217_ _
          · rw [if_neg (by omega)]; exact h3_ j9_ u0_ (by omega)
        · exact hKx5_
        · omega
    · rintro i_ S_ hI_ hF_ ⟨h0_, h1_, hT_, h5_, h6_, h2_, h3_, h4_, hK_, -⟩ hm_
      have d1_ := hd_.1
      have s129_ : S_.1 13 0 129 = S0_.1 13 0 129 := hF_.1 13 0 129 rfl
      have s106_ : S_.1 13 0 106 = S0_.1 13 0 106 := hF_.1 13 0 106 rfl
      have s105_ : S_.1 13 0 105 = S0_.1 13 0 105 := hF_.1 13 0 105 rfl
      have f216_ : S_.2.2.1 216 0 = S0_.2.2.1 216 0 := fr_arr hF_ rfl
      have f217_ : S_.2.2.1 217 0 = S0_.2.2.1 217 0 := fr_arr hF_ rfl
      have f184_ : S_.2.2.1 184 0 = S0_.2.2.1 184 0 := fr_arr hF_ rfl
      have f185_ : S_.2.2.1 185 0 = S0_.2.2.1 185 0 := fr_arr hF_ rfl
      have f186_ : S_.2.2.1 186 0 = S0_.2.2.1 186 0 := fr_arr hF_ rfl
      have f187_ : S_.2.2.1 187 0 = S0_.2.2.1 187 0 := fr_arr hF_ rfl
      have f188_ : S_.2.2.1 188 0 = S0_.2.2.1 188 0 := fr_arr hF_ rfl
      have f231_ : S_.2.2.1 231 0 = S0_.2.2.1 231 0 := fr_arr hF_ rfl
      have f232_ : S_.2.2.1 232 0 = S0_.2.2.1 232 0 := fr_arr hF_ rfl
      refine sm_T_go 2 (c1 := (182, [some (.inr (.inr (some (13, 0)))), some (.inl c_), some (.inl i_), none], [.inl 12, .inl i_], S_)) rfl ?_
      refine sm_T_br (a := 3) (z := 109) rfl (fun cx1_ => ?_) (fun cx1_ => ?_)
      · have cx1_ : 12 ≤ i_ := of_decide_eq_true cx1_
        refine sm_T_go 4 (c1 := (297, [some (.inr (.inr (some (13, 0)))), some (.inl c_), some (.inl i_), none], [.inl 0, .inl c_, .inr (.inr (some (240, 0)))], S_)) rfl ?_
        refine sm_T_iast (n := 4) rfl rfl (by omega) (by omega) ?_
        have hIx2_ : gi (sm_aI S_ 240 0 c_.toNat 0) := gi_aI hI_ (show 0 ≤ 0 ∧ 0 ≤ 12 from ⟨by omega, by omega⟩)
        have hFx3_ : ai_fr (sx_W vw_420n) S0_ (sm_aI S_ 240 0 c_.toNat 0) := ai_fr_tr hF_ (ai_fr_aI rfl)
        have hKx4_ : rcf c_.toNat S0_ (sm_aI S_ 240 0 c_.toNat 0) := rcf_aI hK_ (Or.inr (by rw [show rcs 240 = 1 from rfl]; omega))
        refine sm_T_go 4 (c1 := (304, [some (.inr (.inr (some (13, 0)))), some (.inl c_), some (.inl i_), none], [.inl 0, .inl c_, .inr (.inr (some (251, 0)))], sm_aI S_ 240 0 c_.toNat 0)) rfl ?_
        refine sm_T_zas1 (n := 4) rfl rfl (by omega) (by omega) (by omega) ?_
        have hIx5_ : gi (sm_aI (sm_aI S_ 240 0 c_.toNat 0) 251 0 c_.toNat 0) := gi_aI hIx2_ (show 0 ≤ 0 ∧ 0 ≤ 1 from ⟨by omega, by omega⟩)
        have hFx6_ : ai_fr (sx_W vw_420n) S0_ (sm_aI (sm_aI S_ 240 0 c_.toNat 0) 251 0 c_.toNat 0) := ai_fr_tr hFx3_ (ai_fr_aI rfl)
        have hKx7_ : rcf c_.toNat S0_ (sm_aI (sm_aI S_ 240 0 c_.toNat 0) 251 0 c_.toNat 0) := rcf_aI hKx4_ (Or.inr (by rw [show rcs 251 = 1 from rfl]; omega))
        refine sm_T_go 4 (c1 := (311, [some (.inr (.inr (some (13, 0)))), some (.inl c_), some (.inl i_), none], [.inl 0, .inl c_, .inr (.inr (some (263, 0)))], sm_aI (sm_aI S_ 240 0 c_.toNat 0) 251 0 c_.toNat 0)) rfl ?_
        refine sm_T_zas1 (n := 4) rfl rfl (by omega) (by omega) (by omega) ?_
        have hIx8_ : gi (sm_aI (sm_aI (sm_aI S_ 240 0 c_.toNat 0) 251 0 c_.toNat 0) 263 0 c_.toNat 0) := gi_aI hIx5_ (show 0 ≤ 0 ∧ 0 ≤ 1 from ⟨by omega, by omega⟩)
        have hFx9_ : ai_fr (sx_W vw_420n) S0_ (sm_aI (sm_aI (sm_aI S_ 240 0 c_.toNat 0) 251 0 c_.toNat 0) 263 0 c_.toNat 0) := ai_fr_tr hFx6_ (ai_fr_aI rfl)
        have hKx10_ : rcf c_.toNat S0_ (sm_aI (sm_aI (sm_aI S_ 240 0 c_.toNat 0) 251 0 c_.toNat 0) 263 0 c_.toNat 0) := rcf_aI hKx7_ (Or.inl rfl)
        refine sm_T_go 4 (c1 := (318, [some (.inr (.inr (some (13, 0)))), some (.inl c_), some (.inl i_), none], [.inl 0, .inl c_, .inr (.inr (some (272, 0)))], sm_aI (sm_aI (sm_aI S_ 240 0 c_.toNat 0) 251 0 c_.toNat 0) 263 0 c_.toNat 0)) rfl ?_
        refine sm_T_iast (n := 4) rfl rfl (by omega) (by omega) ?_
        have hIx11_ : gi (sm_aI (sm_aI (sm_aI (sm_aI S_ 240 0 c_.toNat 0) 251 0 c_.toNat 0) 263 0 c_.toNat 0) 272 0 c_.toNat 0) := gi_aI hIx8_ (show 0 ≤ 0 ∧ 0 ≤ 40 from ⟨by omega, by omega⟩)
        have hFx12_ : ai_fr (sx_W vw_420n) S0_ (sm_aI (sm_aI (sm_aI (sm_aI S_ 240 0 c_.toNat 0) 251 0 c_.toNat 0) 263 0 c_.toNat 0) 272 0 c_.toNat 0) := ai_fr_tr hFx9_ (ai_fr_aI rfl)
        have hKx13_ : rcf c_.toNat S0_ (sm_aI (sm_aI (sm_aI (sm_aI S_ 240 0 c_.toNat 0) 251 0 c_.toNat 0) 263 0 c_.toNat 0) 272 0 c_.toNat 0) := rcf_aI hKx10_ (Or.inl rfl)
        refine sm_T_go 4 (c1 := (325, [some (.inr (.inr (some (13, 0)))), some (.inl c_), some (.inl i_), none], [.inl (-1), .inl c_, .inr (.inr (some (289, 0)))], sm_aI (sm_aI (sm_aI (sm_aI S_ 240 0 c_.toNat 0) 251 0 c_.toNat 0) 263 0 c_.toNat 0) 272 0 c_.toNat 0)) rfl ?_
        refine sm_T_iast (n := 4) rfl rfl (by omega) (by omega) ?_
        have hIx14_ : gi (sm_aI (sm_aI (sm_aI (sm_aI (sm_aI S_ 240 0 c_.toNat 0) 251 0 c_.toNat 0) 263 0 c_.toNat 0) 272 0 c_.toNat 0) 289 0 c_.toNat (-1)) := gi_aI hIx11_ (show (-1) ≤ (-1) ∧ (-1) ≤ 1224 from ⟨by omega, by omega⟩)
        have hFx15_ : ai_fr (sx_W vw_420n) S0_ (sm_aI (sm_aI (sm_aI (sm_aI (sm_aI S_ 240 0 c_.toNat 0) 251 0 c_.toNat 0) 263 0 c_.toNat 0) 272 0 c_.toNat 0) 289 0 c_.toNat (-1)) := ai_fr_tr hFx12_ (ai_fr_aI rfl)
        have hKx16_ : rcf c_.toNat S0_ (sm_aI (sm_aI (sm_aI (sm_aI (sm_aI S_ 240 0 c_.toNat 0) 251 0 c_.toNat 0) 263 0 c_.toNat 0) 272 0 c_.toNat 0) 289 0 c_.toNat (-1)) := rcf_aI hKx13_ (Or.inl rfl)
        refine sm_T_go 2 (c1 := (328, [some (.inr (.inr (some (13, 0)))), some (.inl c_), some (.inl i_), none], [.inl c_, .inr (.inr (some (13, 0)))], sm_aI (sm_aI (sm_aI (sm_aI (sm_aI S_ 240 0 c_.toNat 0) 251 0 c_.toNat 0) 263 0 c_.toNat 0) 272 0 c_.toNat 0) 289 0 c_.toNat (-1))) rfl ?_
        refine sm_T_cal (d1 := 0) (Q1 := vq_519 c_ (sm_aI (sm_aI (sm_aI (sm_aI (sm_aI S_ 240 0 c_.toNat 0) 251 0 c_.toNat 0) 263 0 c_.toNat 0) 272 0 c_.toNat 0) 289 0 c_.toNat (-1))) rfl rfl (by decide) (vc_519 c_ (sm_aI (sm_aI (sm_aI (sm_aI (sm_aI S_ 240 0 c_.toNat 0) 251 0 c_.toNat 0) 263 0 c_.toNat 0) 272 0 c_.toNat 0) 289 0 c_.toNat (-1)) hIx14_ (by omega)) (fun u_ Sx17_ px20_ => ?_)
        obtain ⟨rfl, hIx18_, hFx19_, px20_⟩ := px20_
        have hFx21_ : ai_fr (sx_W vw_420n) S0_ Sx17_ := ai_fr_tr hFx15_ (fr_le hFx19_ rfl)
        have hKx22_ : rcf c_.toNat S0_ Sx17_ := rcf_tr hKx16_ (rcf_fr hFx19_ rfl)
        have f328_ := hFx19_
        have y240_ : Sx17_.2.2.1 240 0 c_.toNat = 0 := (congrFun (fr_arr (t := 240) (i := 0) hFx19_ rfl) _).trans (by ((try simp only [rd_eq, rd_ne, rf_eq, rf_nk, rf_nt, rd_fa, rd_af, rd_fl, rd_al, rd_lf, rd_la, rd_leq, rd_lne, rd_fr, rd_ar, ne_eq, Nat.reduceEqDiff, not_false_eq_true]); exact if_pos trivial))
        have y251_ : Sx17_.2.2.1 251 0 c_.toNat = 0 := (congrFun (fr_arr (t := 251) (i := 0) hFx19_ rfl) _).trans (by ((try simp only [rd_eq, rd_ne, rf_eq, rf_nk, rf_nt, rd_fa, rd_af, rd_fl, rd_al, rd_lf, rd_la, rd_leq, rd_lne, rd_fr, rd_ar, ne_eq, Nat.reduceEqDiff, not_false_eq_true]); exact if_pos trivial))
        have y222_ : Sx17_.2.2.1 222 0 = S_.2.2.1 222 0 := (fr_arr (t := 222) (i := 0) hFx19_ rfl).trans (by (funext j9_; (try simp only [rd_eq, rd_ne, rf_eq, rf_nk, rf_nt, rd_fa, rd_af, rd_fl, rd_al, rd_lf, rd_la, rd_leq, rd_lne, rd_fr, rd_ar, ne_eq, Nat.reduceEqDiff, not_false_eq_true])))
        have y223_ : Sx17_.2.2.1 223 0 = S_.2.2.1 223 0 := (fr_arr (t := 223) (i := 0) hFx19_ rfl).trans (by (funext j9_; (try simp only [rd_eq, rd_ne, rf_eq, rf_nk, rf_nt, rd_fa, rd_af, rd_fl, rd_al, rd_lf, rd_la, rd_leq, rd_lne, rd_fr, rd_ar, ne_eq, Nat.reduceEqDiff, not_false_eq_true])))
        have y224_ : Sx17_.2.2.1 224 0 = S_.2.2.1 224 0 := (fr_arr (t := 224) (i := 0) hFx19_ rfl).trans (by (funext j9_; (try simp only [rd_eq, rd_ne, rf_eq, rf_nk, rf_nt, rd_fa, rd_af, rd_fl, rd_al, rd_lf, rd_la, rd_leq, rd_lne, rd_fr, rd_ar, ne_eq, Nat.reduceEqDiff, not_false_eq_true])))
        have y225_ : Sx17_.2.2.1 225 0 = S_.2.2.1 225 0 := (fr_arr (t := 225) (i := 0) hFx19_ rfl).trans (by (funext j9_; (try simp only [rd_eq, rd_ne, rf_eq, rf_nk, rf_nt, rd_fa, rd_af, rd_fl, rd_al, rd_lf, rd_la, rd_leq, rd_lne, rd_fr, rd_ar, ne_eq, Nat.reduceEqDiff, not_false_eq_true])))
        have y226_ : Sx17_.2.2.1 226 0 = S_.2.2.1 226 0 := (fr_arr (t := 226) (i := 0) hFx19_ rfl).trans (by (funext j9_; (try simp only [rd_eq, rd_ne, rf_eq, rf_nk, rf_nt, rd_fa, rd_af, rd_fl, rd_al, rd_lf, rd_la, rd_leq, rd_lne, rd_fr, rd_ar, ne_eq, Nat.reduceEqDiff, not_false_eq_true])))
        have y227_ : Sx17_.2.2.1 227 0 = S_.2.2.1 227 0 := (fr_arr (t := 227) (i := 0) hFx19_ rfl).trans (by (funext j9_; (try simp only [rd_eq, rd_ne, rf_eq, rf_nk, rf_nt, rd_fa, rd_af, rd_fl, rd_al, rd_lf, rd_la, rd_leq, rd_lne, rd_fr, rd_ar, ne_eq, Nat.reduceEqDiff, not_false_eq_true])))
        have y228_ : Sx17_.2.2.1 228 0 = S_.2.2.1 228 0 := (fr_arr (t := 228) (i := 0) hFx19_ rfl).trans (by (funext j9_; (try simp only [rd_eq, rd_ne, rf_eq, rf_nk, rf_nt, rd_fa, rd_af, rd_fl, rd_al, rd_lf, rd_la, rd_leq, rd_lne, rd_fr, rd_ar, ne_eq, Nat.reduceEqDiff, not_false_eq_true])))
        have y229_ : Sx17_.2.2.1 229 0 = S_.2.2.1 229 0 := (fr_arr (t := 229) (i := 0) hFx19_ rfl).trans (by (funext j9_; (try simp only [rd_eq, rd_ne, rf_eq, rf_nk, rf_nt, rd_fa, rd_af, rd_fl, rd_al, rd_lf, rd_la, rd_leq, rd_lne, rd_fr, rd_ar, ne_eq, Nat.reduceEqDiff, not_false_eq_true])))
        have y230_ : Sx17_.2.2.1 230 0 = S_.2.2.1 230 0 := (fr_arr (t := 230) (i := 0) hFx19_ rfl).trans (by (funext j9_; (try simp only [rd_eq, rd_ne, rf_eq, rf_nk, rf_nt, rd_fa, rd_af, rd_fl, rd_al, rd_lf, rd_la, rd_leq, rd_lne, rd_fr, rd_ar, ne_eq, Nat.reduceEqDiff, not_false_eq_true])))
        have y231_ : Sx17_.2.2.1 231 0 = S_.2.2.1 231 0 := (fr_arr (t := 231) (i := 0) hFx19_ rfl).trans (by (funext j9_; (try simp only [rd_eq, rd_ne, rf_eq, rf_nk, rf_nt, rd_fa, rd_af, rd_fl, rd_al, rd_lf, rd_la, rd_leq, rd_lne, rd_fr, rd_ar, ne_eq, Nat.reduceEqDiff, not_false_eq_true])))
        have y232_ : Sx17_.2.2.1 232 0 = S_.2.2.1 232 0 := (fr_arr (t := 232) (i := 0) hFx19_ rfl).trans (by (funext j9_; (try simp only [rd_eq, rd_ne, rf_eq, rf_nk, rf_nt, rd_fa, rd_af, rd_fl, rd_al, rd_lf, rd_la, rd_leq, rd_lne, rd_fr, rd_ar, ne_eq, Nat.reduceEqDiff, not_false_eq_true])))
        have y233_ : Sx17_.2.2.1 233 0 = S_.2.2.1 233 0 := (fr_arr (t := 233) (i := 0) hFx19_ rfl).trans (by (funext j9_; (try simp only [rd_eq, rd_ne, rf_eq, rf_nk, rf_nt, rd_fa, rd_af, rd_fl, rd_al, rd_lf, rd_la, rd_leq, rd_lne, rd_fr, rd_ar, ne_eq, Nat.reduceEqDiff, not_false_eq_true])))
        have y234_ : Sx17_.2.2.1 234 0 = S_.2.2.1 234 0 := (fr_arr (t := 234) (i := 0) hFx19_ rfl).trans (by (funext j9_; (try simp only [rd_eq, rd_ne, rf_eq, rf_nk, rf_nt, rd_fa, rd_af, rd_fl, rd_al, rd_lf, rd_la, rd_leq, rd_lne, rd_fr, rd_ar, ne_eq, Nat.reduceEqDiff, not_false_eq_true])))
        have y235_ : Sx17_.2.2.1 235 0 = S_.2.2.1 235 0 := (fr_arr (t := 235) (i := 0) hFx19_ rfl).trans (by (funext j9_; (try simp only [rd_eq, rd_ne, rf_eq, rf_nk, rf_nt, rd_fa, rd_af, rd_fl, rd_al, rd_lf, rd_la, rd_leq, rd_lne, rd_fr, rd_ar, ne_eq, Nat.reduceEqDiff, not_false_eq_true])))
        have y236_ : Sx17_.2.2.1 236 0 = S_.2.2.1 236 0 := (fr_arr (t := 236) (i := 0) hFx19_ rfl).trans (by (funext j9_; (try simp only [rd_eq, rd_ne, rf_eq, rf_nk, rf_nt, rd_fa, rd_af, rd_fl, rd_al, rd_lf, rd_la, rd_leq, rd_lne, rd_fr, rd_ar, ne_eq, Nat.reduceEqDiff, not_false_eq_true])))
        have y237_ : Sx17_.2.2.1 237 0 = S_.2.2.1 237 0 := (fr_arr (t := 237) (i := 0) hFx19_ rfl).trans (by (funext j9_; (try simp only [rd_eq, rd_ne, rf_eq, rf_nk, rf_nt, rd_fa, rd_af, rd_fl, rd_al, rd_lf, rd_la, rd_leq, rd_lne, rd_fr, rd_ar, ne_eq, Nat.reduceEqDiff, not_false_eq_true])))
        refine sm_T_rv rfl ⟨_, _, rfl, rfl, hIx18_, hFx21_, ?_⟩
        refine ⟨hKx22_, ?_⟩
        refine ⟨kch (fun j9_ => by (rw [← f216_]; exact (hI_.2 216 0 _).2)) hd_ hc_.1 hmd_ hl_ (by (rw [y223_, y224_, y225_, y226_, y227_, y228_]; exact h1_)) (fun j9_ u0_ u1_ => by (rw [y229_]; exact h2_ j9_ u0_ u1_)) (fun j9_ u0_ u1_ => by (rw [y230_]; exact h3_ j9_ u0_ u1_)) (fun j9_ u0_ u1_ => by (rw [y234_]; exact h4_ j9_ u0_ (by omega))) ⟨fun k9_ u0_ u1_ => by (rw [y231_, f231_]; exact ho_.1 k9_ u0_ u1_), fun k9_ u0_ u1_ => by (rw [y232_, f232_]; exact ho_.2 k9_ u0_ u1_)⟩ y240_ y251_, ?_⟩
        unfold kcp
        refine ⟨by (rw [y222_]; exact hT_), by (rw [y223_, y224_, y225_, y226_, y227_, y228_]; exact h1_), fun j9_ u0_ u1_ => by (rw [y229_]; exact h2_ j9_ u0_ u1_), fun j9_ u0_ u1_ => by (rw [y230_]; exact h3_ j9_ u0_ u1_), by (rw [y233_]; exact h5_), fun j9_ u0_ u1_ => ?_, y231_.trans f231_, y232_.trans f232_, y240_⟩
        have z6_ := h6_ j9_ u0_ (by omega)
        rw [y234_, y235_, y236_, y237_]
        exact ⟨h4_ j9_ u0_ (by omega), z6_.1, z6_.2.1, z6_.2.2⟩
      · have cx1_ : ¬ (12 ≤ i_) := of_decide_eq_false cx1_
        refine sm_T_go 4 (c1 := (192, [some (.inr (.inr (some (13, 0)))), some (.inl c_), some (.inl i_), none], [.inl c_, .inl 12, .inr (.inr (some (234, 0)))], S_)) rfl ?_
        refine sm_T_bin (w := 12 * c_) rfl (bi_mul (by omega) (by omega) (by omega)) ?_ -- pc_ 192
        refine sm_T_go 1 (c1 := (194, [some (.inr (.inr (some (13, 0)))), some (.inl c_), some (.inl i_), none], [.inl i_, .inl (12 * c_), .inr (.inr (some (234, 0)))], S_)) rfl ?_
        refine sm_T_bin (w := 12 * c_ + i_) rfl (bi_add (by omega) (by omega) (by omega)) ?_ -- pc_ 194
        have bx23_ : 0 ≤ S_.1 13 0 106 ∧ S_.1 13 0 106 ≤ 2 := hI_.1 13 0 106 rfl
        refine sm_T_go 5 (c1 := (205, [some (.inr (.inr (some (13, 0)))), some (.inl c_), some (.inl i_), none], [.inl (S_.1 13 0 106), .inl 12, .inr (.inr (some (185, 0))), .inl (12 * c_ + i_), .inr (.inr (some (234, 0)))], S_)) rfl ?_
        refine sm_T_bin (w := 12 * (S_.1 13 0 106)) rfl (bi_mul (by omega) (by omega) (by omega)) ?_ -- pc_ 205
        refine sm_T_go 1 (c1 := (207, [some (.inr (.inr (some (13, 0)))), some (.inl c_), some (.inl i_), none], [.inl i_, .inl (12 * (S_.1 13 0 106)), .inr (.inr (some (185, 0))), .inl (12 * c_ + i_), .inr (.inr (some (234, 0)))], S_)) rfl ?_
        refine sm_T_bin (w := 12 * (S_.1 13 0 106) + i_) rfl (bi_add (by omega) (by omega) (by omega)) ?_ -- pc_ 207
        refine sm_T_iald (n := 36) rfl rfl (by omega) (by omega) ?_
        have bx24_ : 0 ≤ S_.2.2.1 185 0 (12 * (S_.1 13 0 106) + i_).toNat ∧ S_.2.2.1 185 0 (12 * (S_.1 13 0 106) + i_).toNat ≤ 3 := hI_.2 185 0 _
        refine sm_T_iast (n := 48) rfl rfl (by omega) (by omega) ?_
        have hIx25_ : gi (sm_aI S_ 234 0 (12 * c_ + i_).toNat (S_.2.2.1 185 0 (12 * (S_.1 13 0 106) + i_).toNat)) := gi_aI hI_ (show 0 ≤ (S_.2.2.1 185 0 (12 * (S_.1 13 0 106) + i_).toNat) ∧ (S_.2.2.1 185 0 (12 * (S_.1 13 0 106) + i_).toNat) ≤ 3 from ⟨by omega, by omega⟩)
        have hFx26_ : ai_fr (sx_W vw_420n) S0_ (sm_aI S_ 234 0 (12 * c_ + i_).toNat (S_.2.2.1 185 0 (12 * (S_.1 13 0 106) + i_).toNat)) := ai_fr_tr hF_ (ai_fr_aI rfl)
        have hKx27_ : rcf c_.toNat S0_ (sm_aI S_ 234 0 (12 * c_ + i_).toNat (S_.2.2.1 185 0 (12 * (S_.1 13 0 106) + i_).toNat)) := rcf_aI hK_ (Or.inr (by rw [show rcs 234 = 12 from rfl]; omega))
        refine sm_T_go 4 (c1 := (217, [some (.inr (.inr (some (13, 0)))), some (.inl c_), some (.inl i_), none], [.inl c_, .inl 12, .inr (.inr (some (235, 0)))], sm_aI S_ 234 0 (12 * c_ + i_).toNat (S_.2.2.1 185 0 (12 * (S_.1 13 0 106) + i_).toNat))) rfl ?_
        refine sm_T_bin (w := 12 * c_) rfl (bi_mul (by omega) (by omega) (by omega)) ?_ -- pc_ 217
        refine sm_T_go 1 (c1 := (219, [some (.inr (.inr (some (13, 0)))), some (.inl c_), some (.inl i_), none], [.inl i_, .inl (12 * c_), .inr (.inr (some (235, 0)))], sm_aI S_ 234 0 (12 * c_ + i_).toNat (S_.2.2.1 185 0 (12 * (S_.1 13 0 106) + i_).toNat))) rfl ?_
        refine sm_T_bin (w := 12 * c_ + i_) rfl (bi_add (by omega) (by omega) (by omega)) ?_ -- pc_ 219
        refine sm_T_go 5 (c1 := (230, [some (.inr (.inr (some (13, 0)))), some (.inl c_), some (.inl i_), none], [.inl (S_.1 13 0 106), .inl 12, .inr (.inr (some (186, 0))), .inl (12 * c_ + i_), .inr (.inr (some (235, 0)))], sm_aI S_ 234 0 (12 * c_ + i_).toNat (S_.2.2.1 185 0 (12 * (S_.1 13 0 106) + i_).toNat))) rfl ?_
        refine sm_T_bin (w := 12 * (S_.1 13 0 106)) rfl (bi_mul (by omega) (by omega) (by omega)) ?_ -- pc_ 230
        refine sm_T_go 1 (c1 := (232, [some (.inr (.inr (some (13, 0)))), some (.inl c_), some (.inl i_), none], [.inl i_, .inl (12 * (S_.1 13 0 106)), .inr (.inr (some (186, 0))), .inl (12 * c_ + i_), .inr (.inr (some (235, 0)))], sm_aI S_ 234 0 (12 * c_ + i_).toNat (S_.2.2.1 185 0 (12 * (S_.1 13 0 106) + i_).toNat))) rfl ?_
        refine sm_T_bin (w := 12 * (S_.1 13 0 106) + i_) rfl (bi_add (by omega) (by omega) (by omega)) ?_ -- pc_ 232
        refine sm_T_iald (n := 36) rfl rfl (by omega) (by omega) ?_
        have bx28_ : 0 ≤ S_.2.2.1 186 0 (12 * (S_.1 13 0 106) + i_).toNat ∧ S_.2.2.1 186 0 (12 * (S_.1 13 0 106) + i_).toNat ≤ 255 := hI_.2 186 0 _
        refine sm_T_go 0 (c1 := (234, [some (.inr (.inr (some (13, 0)))), some (.inl c_), some (.inl i_), none], [.inl (S_.2.2.1 186 0 (12 * (S_.1 13 0 106) + i_).toNat), .inl (12 * c_ + i_), .inr (.inr (some (235, 0)))], sm_aI S_ 234 0 (12 * c_ + i_).toNat (S_.2.2.1 185 0 (12 * (S_.1 13 0 106) + i_).toNat))) rfl ?_
        refine sm_T_iast (n := 48) rfl rfl (by omega) (by omega) ?_
        have hIx29_ : gi (sm_aI (sm_aI S_ 234 0 (12 * c_ + i_).toNat (S_.2.2.1 185 0 (12 * (S_.1 13 0 106) + i_).toNat)) 235 0 (12 * c_ + i_).toNat (S_.2.2.1 186 0 (12 * (S_.1 13 0 106) + i_).toNat)) := gi_aI hIx25_ (show 0 ≤ (S_.2.2.1 186 0 (12 * (S_.1 13 0 106) + i_).toNat) ∧ (S_.2.2.1 186 0 (12 * (S_.1 13 0 106) + i_).toNat) ≤ 255 from ⟨by omega, by omega⟩)
        have hFx30_ : ai_fr (sx_W vw_420n) S0_ (sm_aI (sm_aI S_ 234 0 (12 * c_ + i_).toNat (S_.2.2.1 185 0 (12 * (S_.1 13 0 106) + i_).toNat)) 235 0 (12 * c_ + i_).toNat (S_.2.2.1 186 0 (12 * (S_.1 13 0 106) + i_).toNat)) := ai_fr_tr hFx26_ (ai_fr_aI rfl)
        have hKx31_ : rcf c_.toNat S0_ (sm_aI (sm_aI S_ 234 0 (12 * c_ + i_).toNat (S_.2.2.1 185 0 (12 * (S_.1 13 0 106) + i_).toNat)) 235 0 (12 * c_ + i_).toNat (S_.2.2.1 186 0 (12 * (S_.1 13 0 106) + i_).toNat)) := rcf_aI hKx27_ (Or.inr (by rw [show rcs 235 = 12 from rfl]; omega))
        refine sm_T_go 4 (c1 := (242, [some (.inr (.inr (some (13, 0)))), some (.inl c_), some (.inl i_), none], [.inl c_, .inl 12, .inr (.inr (some (236, 0)))], sm_aI (sm_aI S_ 234 0 (12 * c_ + i_).toNat (S_.2.2.1 185 0 (12 * (S_.1 13 0 106) + i_).toNat)) 235 0 (12 * c_ + i_).toNat (S_.2.2.1 186 0 (12 * (S_.1 13 0 106) + i_).toNat))) rfl ?_
        refine sm_T_bin (w := 12 * c_) rfl (bi_mul (by omega) (by omega) (by omega)) ?_ -- pc_ 242
        refine sm_T_go 1 (c1 := (244, [some (.inr (.inr (some (13, 0)))), some (.inl c_), some (.inl i_), none], [.inl i_, .inl (12 * c_), .inr (.inr (some (236, 0)))], sm_aI (sm_aI S_ 234 0 (12 * c_ + i_).toNat (S_.2.2.1 185 0 (12 * (S_.1 13 0 106) + i_).toNat)) 235 0 (12 * c_ + i_).toNat (S_.2.2.1 186 0 (12 * (S_.1 13 0 106) + i_).toNat))) rfl ?_
        refine sm_T_bin (w := 12 * c_ + i_) rfl (bi_add (by omega) (by omega) (by omega)) ?_ -- pc_ 244
        refine sm_T_go 5 (c1 := (255, [some (.inr (.inr (some (13, 0)))), some (.inl c_), some (.inl i_), none], [.inl (S_.1 13 0 106), .inl 12, .inr (.inr (some (187, 0))), .inl (12 * c_ + i_), .inr (.inr (some (236, 0)))], sm_aI (sm_aI S_ 234 0 (12 * c_ + i_).toNat (S_.2.2.1 185 0 (12 * (S_.1 13 0 106) + i_).toNat)) 235 0 (12 * c_ + i_).toNat (S_.2.2.1 186 0 (12 * (S_.1 13 0 106) + i_).toNat))) rfl ?_
        refine sm_T_bin (w := 12 * (S_.1 13 0 106)) rfl (bi_mul (by omega) (by omega) (by omega)) ?_ -- pc_ 255
        refine sm_T_go 1 (c1 := (257, [some (.inr (.inr (some (13, 0)))), some (.inl c_), some (.inl i_), none], [.inl i_, .inl (12 * (S_.1 13 0 106)), .inr (.inr (some (187, 0))), .inl (12 * c_ + i_), .inr (.inr (some (236, 0)))], sm_aI (sm_aI S_ 234 0 (12 * c_ + i_).toNat (S_.2.2.1 185 0 (12 * (S_.1 13 0 106) + i_).toNat)) 235 0 (12 * c_ + i_).toNat (S_.2.2.1 186 0 (12 * (S_.1 13 0 106) + i_).toNat))) rfl ?_
        refine sm_T_bin (w := 12 * (S_.1 13 0 106) + i_) rfl (bi_add (by omega) (by omega) (by omega)) ?_ -- pc_ 257
        refine sm_T_iald (n := 36) rfl rfl (by omega) (by omega) ?_
        have bx32_ : 0 ≤ S_.2.2.1 187 0 (12 * (S_.1 13 0 106) + i_).toNat ∧ S_.2.2.1 187 0 (12 * (S_.1 13 0 106) + i_).toNat ≤ 1000 := hI_.2 187 0 _
        refine sm_T_go 0 (c1 := (259, [some (.inr (.inr (some (13, 0)))), some (.inl c_), some (.inl i_), none], [.inl (S_.2.2.1 187 0 (12 * (S_.1 13 0 106) + i_).toNat), .inl (12 * c_ + i_), .inr (.inr (some (236, 0)))], sm_aI (sm_aI S_ 234 0 (12 * c_ + i_).toNat (S_.2.2.1 185 0 (12 * (S_.1 13 0 106) + i_).toNat)) 235 0 (12 * c_ + i_).toNat (S_.2.2.1 186 0 (12 * (S_.1 13 0 106) + i_).toNat))) rfl ?_
        refine sm_T_iast (n := 48) rfl rfl (by omega) (by omega) ?_
        have hIx33_ : gi (sm_aI (sm_aI (sm_aI S_ 234 0 (12 * c_ + i_).toNat (S_.2.2.1 185 0 (12 * (S_.1 13 0 106) + i_).toNat)) 235 0 (12 * c_ + i_).toNat (S_.2.2.1 186 0 (12 * (S_.1 13 0 106) + i_).toNat)) 236 0 (12 * c_ + i_).toNat (S_.2.2.1 187 0 (12 * (S_.1 13 0 106) + i_).toNat)) := gi_aI hIx29_ (show 0 ≤ (S_.2.2.1 187 0 (12 * (S_.1 13 0 106) + i_).toNat) ∧ (S_.2.2.1 187 0 (12 * (S_.1 13 0 106) + i_).toNat) ≤ 1000 from ⟨by omega, by omega⟩)
        have hFx34_ : ai_fr (sx_W vw_420n) S0_ (sm_aI (sm_aI (sm_aI S_ 234 0 (12 * c_ + i_).toNat (S_.2.2.1 185 0 (12 * (S_.1 13 0 106) + i_).toNat)) 235 0 (12 * c_ + i_).toNat (S_.2.2.1 186 0 (12 * (S_.1 13 0 106) + i_).toNat)) 236 0 (12 * c_ + i_).toNat (S_.2.2.1 187 0 (12 * (S_.1 13 0 106) + i_).toNat)) := ai_fr_tr hFx30_ (ai_fr_aI rfl)
        have hKx35_ : rcf c_.toNat S0_ (sm_aI (sm_aI (sm_aI S_ 234 0 (12 * c_ + i_).toNat (S_.2.2.1 185 0 (12 * (S_.1 13 0 106) + i_).toNat)) 235 0 (12 * c_ + i_).toNat (S_.2.2.1 186 0 (12 * (S_.1 13 0 106) + i_).toNat)) 236 0 (12 * c_ + i_).toNat (S_.2.2.1 187 0 (12 * (S_.1 13 0 106) + i_).toNat)) := rcf_aI hKx31_ (Or.inr (by rw [show rcs 236 = 12 from rfl]; omega))
        refine sm_T_go 4 (c1 := (267, [some (.inr (.inr (some (13, 0)))), some (.inl c_), some (.inl i_), none], [.inl c_, .inl 12, .inr (.inr (some (237, 0)))], sm_aI (sm_aI (sm_aI S_ 234 0 (12 * c_ + i_).toNat (S_.2.2.1 185 0 (12 * (S_.1 13 0 106) + i_).toNat)) 235 0 (12 * c_ + i_).toNat (S_.2.2.1 186 0 (12 * (S_.1 13 0 106) + i_).toNat)) 236 0 (12 * c_ + i_).toNat (S_.2.2.1 187 0 (12 * (S_.1 13 0 106) + i_).toNat))) rfl ?_
        refine sm_T_bin (w := 12 * c_) rfl (bi_mul (by omega) (by omega) (by omega)) ?_ -- pc_ 267
        refine sm_T_go 1 (c1 := (269, [some (.inr (.inr (some (13, 0)))), some (.inl c_), some (.inl i_), none], [.inl i_, .inl (12 * c_), .inr (.inr (some (237, 0)))], sm_aI (sm_aI (sm_aI S_ 234 0 (12 * c_ + i_).toNat (S_.2.2.1 185 0 (12 * (S_.1 13 0 106) + i_).toNat)) 235 0 (12 * c_ + i_).toNat (S_.2.2.1 186 0 (12 * (S_.1 13 0 106) + i_).toNat)) 236 0 (12 * c_ + i_).toNat (S_.2.2.1 187 0 (12 * (S_.1 13 0 106) + i_).toNat))) rfl ?_
        refine sm_T_bin (w := 12 * c_ + i_) rfl (bi_add (by omega) (by omega) (by omega)) ?_ -- pc_ 269
        refine sm_T_go 5 (c1 := (280, [some (.inr (.inr (some (13, 0)))), some (.inl c_), some (.inl i_), none], [.inl (S_.1 13 0 106), .inl 12, .inr (.inr (some (188, 0))), .inl (12 * c_ + i_), .inr (.inr (some (237, 0)))], sm_aI (sm_aI (sm_aI S_ 234 0 (12 * c_ + i_).toNat (S_.2.2.1 185 0 (12 * (S_.1 13 0 106) + i_).toNat)) 235 0 (12 * c_ + i_).toNat (S_.2.2.1 186 0 (12 * (S_.1 13 0 106) + i_).toNat)) 236 0 (12 * c_ + i_).toNat (S_.2.2.1 187 0 (12 * (S_.1 13 0 106) + i_).toNat))) rfl ?_
        refine sm_T_bin (w := 12 * (S_.1 13 0 106)) rfl (bi_mul (by omega) (by omega) (by omega)) ?_ -- pc_ 280
        refine sm_T_go 1 (c1 := (282, [some (.inr (.inr (some (13, 0)))), some (.inl c_), some (.inl i_), none], [.inl i_, .inl (12 * (S_.1 13 0 106)), .inr (.inr (some (188, 0))), .inl (12 * c_ + i_), .inr (.inr (some (237, 0)))], sm_aI (sm_aI (sm_aI S_ 234 0 (12 * c_ + i_).toNat (S_.2.2.1 185 0 (12 * (S_.1 13 0 106) + i_).toNat)) 235 0 (12 * c_ + i_).toNat (S_.2.2.1 186 0 (12 * (S_.1 13 0 106) + i_).toNat)) 236 0 (12 * c_ + i_).toNat (S_.2.2.1 187 0 (12 * (S_.1 13 0 106) + i_).toNat))) rfl ?_
        refine sm_T_bin (w := 12 * (S_.1 13 0 106) + i_) rfl (bi_add (by omega) (by omega) (by omega)) ?_ -- pc_ 282
        refine sm_T_iald (n := 36) rfl rfl (by omega) (by omega) ?_
        have bx36_ : 0 ≤ S_.2.2.1 188 0 (12 * (S_.1 13 0 106) + i_).toNat ∧ S_.2.2.1 188 0 (12 * (S_.1 13 0 106) + i_).toNat ≤ 100 := hI_.2 188 0 _
        refine sm_T_go 0 (c1 := (284, [some (.inr (.inr (some (13, 0)))), some (.inl c_), some (.inl i_), none], [.inl (S_.2.2.1 188 0 (12 * (S_.1 13 0 106) + i_).toNat), .inl (12 * c_ + i_), .inr (.inr (some (237, 0)))], sm_aI (sm_aI (sm_aI S_ 234 0 (12 * c_ + i_).toNat (S_.2.2.1 185 0 (12 * (S_.1 13 0 106) + i_).toNat)) 235 0 (12 * c_ + i_).toNat (S_.2.2.1 186 0 (12 * (S_.1 13 0 106) + i_).toNat)) 236 0 (12 * c_ + i_).toNat (S_.2.2.1 187 0 (12 * (S_.1 13 0 106) + i_).toNat))) rfl ?_
        refine sm_T_iast (n := 48) rfl rfl (by omega) (by omega) ?_
        have hIx37_ : gi (sm_aI (sm_aI (sm_aI (sm_aI S_ 234 0 (12 * c_ + i_).toNat (S_.2.2.1 185 0 (12 * (S_.1 13 0 106) + i_).toNat)) 235 0 (12 * c_ + i_).toNat (S_.2.2.1 186 0 (12 * (S_.1 13 0 106) + i_).toNat)) 236 0 (12 * c_ + i_).toNat (S_.2.2.1 187 0 (12 * (S_.1 13 0 106) + i_).toNat)) 237 0 (12 * c_ + i_).toNat (S_.2.2.1 188 0 (12 * (S_.1 13 0 106) + i_).toNat)) := gi_aI hIx33_ (show 0 ≤ (S_.2.2.1 188 0 (12 * (S_.1 13 0 106) + i_).toNat) ∧ (S_.2.2.1 188 0 (12 * (S_.1 13 0 106) + i_).toNat) ≤ 100 from ⟨by omega, by omega⟩)
        have hFx38_ : ai_fr (sx_W vw_420n) S0_ (sm_aI (sm_aI (sm_aI (sm_aI S_ 234 0 (12 * c_ + i_).toNat (S_.2.2.1 185 0 (12 * (S_.1 13 0 106) + i_).toNat)) 235 0 (12 * c_ + i_).toNat (S_.2.2.1 186 0 (12 * (S_.1 13 0 106) + i_).toNat)) 236 0 (12 * c_ + i_).toNat (S_.2.2.1 187 0 (12 * (S_.1 13 0 106) + i_).toNat)) 237 0 (12 * c_ + i_).toNat (S_.2.2.1 188 0 (12 * (S_.1 13 0 106) + i_).toNat)) := ai_fr_tr hFx34_ (ai_fr_aI rfl)
        have hKx39_ : rcf c_.toNat S0_ (sm_aI (sm_aI (sm_aI (sm_aI S_ 234 0 (12 * c_ + i_).toNat (S_.2.2.1 185 0 (12 * (S_.1 13 0 106) + i_).toNat)) 235 0 (12 * c_ + i_).toNat (S_.2.2.1 186 0 (12 * (S_.1 13 0 106) + i_).toNat)) 236 0 (12 * c_ + i_).toNat (S_.2.2.1 187 0 (12 * (S_.1 13 0 106) + i_).toNat)) 237 0 (12 * c_ + i_).toNat (S_.2.2.1 188 0 (12 * (S_.1 13 0 106) + i_).toNat)) := rcf_aI hKx35_ (Or.inr (by rw [show rcs 237 = 12 from rfl]; omega))
        refine sm_T_inc (a := 2) (z := 1) (v := i_) (w := i_ + 1) rfl rfl (by omega) (by omega) (by omega) ?_ -- pc_ 285
        refine sm_T_go 1 (c1 := (179, [some (.inr (.inr (some (13, 0)))), some (.inl c_), some (.inl (i_ + 1)), none], [], sm_aI (sm_aI (sm_aI (sm_aI S_ 234 0 (12 * c_ + i_).toNat (S_.2.2.1 185 0 (12 * (S_.1 13 0 106) + i_).toNat)) 235 0 (12 * c_ + i_).toNat (S_.2.2.1 186 0 (12 * (S_.1 13 0 106) + i_).toNat)) 236 0 (12 * c_ + i_).toNat (S_.2.2.1 187 0 (12 * (S_.1 13 0 106) + i_).toNat)) 237 0 (12 * c_ + i_).toNat (S_.2.2.1 188 0 (12 * (S_.1 13 0 106) + i_).toNat))) rfl ?_
        refine ih_.2.2 (i_ + 1) (sm_aI (sm_aI (sm_aI (sm_aI S_ 234 0 (12 * c_ + i_).toNat (S_.2.2.1 185 0 (12 * (S_.1 13 0 106) + i_).toNat)) 235 0 (12 * c_ + i_).toNat (S_.2.2.1 186 0 (12 * (S_.1 13 0 106) + i_).toNat)) 236 0 (12 * c_ + i_).toNat (S_.2.2.1 187 0 (12 * (S_.1 13 0 106) + i_).toNat)) 237 0 (12 * c_ + i_).toNat (S_.2.2.1 188 0 (12 * (S_.1 13 0 106) + i_).toNat)) hIx37_ hFx38_ ⟨?_, ?_, ?_, ?_, ?_, ?_, ?_, ?_, ?_, trivial⟩ ?_
        · omega
        · (try simp only [rd_eq, rd_ne, rf_eq, rf_nk, rf_nt, rd_fa, rd_af, rd_fl, rd_al, rd_lf, rd_la, rd_leq, rd_lne, rd_fr, rd_ar, ne_eq, Nat.reduceEqDiff, not_false_eq_true])
          exact h1_
        · (try simp only [rd_eq, rd_ne, rf_eq, rf_nk, rf_nt, rd_fa, rd_af, rd_fl, rd_al, rd_lf, rd_la, rd_leq, rd_lne, rd_fr, rd_ar, ne_eq, Nat.reduceEqDiff, not_false_eq_true])
          exact hT_
        · (try simp only [rd_eq, rd_ne, rf_eq, rf_nk, rf_nt, rd_fa, rd_af, rd_fl, rd_al, rd_lf, rd_la, rd_leq, rd_lne, rd_fr, rd_ar, ne_eq, Nat.reduceEqDiff, not_false_eq_true])
          exact h5_
        · intro j9_ u0_ u1_
          (try simp only [rd_eq, rd_ne, rf_eq, rf_nk, rf_nt, rd_fa, rd_af, rd_fl, rd_al, rd_lf, rd_la, rd_leq, rd_lne, rd_fr, rd_ar, ne_eq, Nat.reduceEqDiff, not_false_eq_true])
          by_cases z9_ : j9_ = i_
          · rw [z9_, if_pos rfl, if_pos rfl, if_pos rfl, s106_]; exact ⟨congrFun f186_ _, congrFun f187_ _, congrFun f188_ _⟩
          · rw [if_neg (by omega), if_neg (by omega), if_neg (by omega)]; exact h6_ j9_ u0_ (by omega)
        · intro j9_ u0_ u1_
          (try simp only [rd_eq, rd_ne, rf_eq, rf_nk, rf_nt, rd_fa, rd_af, rd_fl, rd_al, rd_lf, rd_la, rd_leq, rd_lne, rd_fr, rd_ar, ne_eq, Nat.reduceEqDiff, not_false_eq_true])
          exact h2_ j9_ u0_ u1_
        · intro j9_ u0_ u1_
          (try simp only [rd_eq, rd_ne, rf_eq, rf_nk, rf_nt, rd_fa, rd_af, rd_fl, rd_al, rd_lf, rd_la, rd_leq, rd_lne, rd_fr, rd_ar, ne_eq, Nat.reduceEqDiff, not_false_eq_true])
          exact h3_ j9_ u0_ u1_
        · intro j9_ u0_ u1_
          (try simp only [rd_eq, rd_ne, rf_eq, rf_nk, rf_nt, rd_fa, rd_af, rd_fl, rd_al, rd_lf, rd_la, rd_leq, rd_lne, rd_fr, rd_ar, ne_eq, Nat.reduceEqDiff, not_false_eq_true])
          by_cases z9_ : j9_ = i_
          · rw [z9_, if_pos rfl, s106_]; exact congrFun f185_ _
          · rw [if_neg (by omega)]; exact h4_ j9_ u0_ (by omega)
        · exact hKx39_
        · omega
set_option maxHeartbeats 2000000 in
set_option maxRecDepth 20000 in
theorem vc_420n {sc_ : Nat × (Nat → Int)} (c_ : Int) (F_ : Int) (N_ : Int) (d_ : Int) (S0_ : sm_S) (hI_ : gi S0_) (hd_ : dmp F_ N_ d_ S0_) (hc_ : 0 ≤ c_ ∧ c_ ≤ 3) (hmd_ : mad F_ S0_) (hl_ : (S0_.1 13 0 134) = 0) (hg_ : 0 ≤ (S0_.1 13 0 129) ∧ (S0_.1 13 0 129) ≤ 150) (hlb_ : 0 ≤ (S0_.1 13 0 106) ∧ (S0_.1 13 0 106) ≤ 2) (ho_ : (∀ k_ : Int, 0 ≤ k_ → k_ < S0_.2.2.1 156 0 d_.toNat → S0_.2.2.1 231 0 (16 * c_ + k_).toNat < F_ - 1 + S0_.1 13 0 129) ∧ ∀ k_ : Int, 0 ≤ k_ → k_ < S0_.2.2.1 155 0 d_.toNat → S0_.2.2.1 232 0 (6 * c_ + k_).toNat < F_ - 1 + S0_.1 13 0 129) : sm_T (mt_P sc_) 1 420 (0, [some (.inr (.inr (some (13, 0)))), some (.inl c_), none, none], [], S0_) (fun ro9_ => ∃ u_ S1_, ro9_ = (.inl u_, S1_, 0) ∧ vq_420n c_ F_ N_ d_ S0_ u_ S1_) := by
  have hF_ : ai_fr (sx_W vw_420n) S0_ S0_ := ai_fr_rf
  have hK_ : rcf c_.toNat S0_ S0_ := rcf_rf
  have d1_ := hd_.1
  refine sm_T_go 4 (c1 := (6, [some (.inr (.inr (some (13, 0)))), some (.inl c_), none, none], [.inl 1, .inl c_, .inr (.inr (some (222, 0)))], S0_)) rfl ?_
  refine sm_T_zas1 (n := 4) rfl rfl (by omega) (by omega) (by omega) ?_
  have hIx1_ : gi (sm_aI S0_ 222 0 c_.toNat 1) := gi_aI hI_ (show 0 ≤ 1 ∧ 1 ≤ 1 from ⟨by omega, by omega⟩)
  have hFx2_ : ai_fr (sx_W vw_420n) S0_ (sm_aI S0_ 222 0 c_.toNat 1) := ai_fr_tr hF_ (ai_fr_aI rfl)
  have hKx3_ : rcf c_.toNat S0_ (sm_aI S0_ 222 0 c_.toNat 1) := rcf_aI hK_ (Or.inr (by rw [show rcs 222 = 1 from rfl]; omega))
  have bx4_ : 0 ≤ S0_.1 13 0 105 ∧ S0_.1 13 0 105 ≤ 5 := hI_.1 13 0 105 rfl
  refine sm_T_go 7 (c1 := (20, [some (.inr (.inr (some (13, 0)))), some (.inl c_), none, none], [.inl (S0_.1 13 0 105), .inr (.inr (some (154, 0))), .inl c_, .inr (.inr (some (223, 0)))], sm_aI S0_ 222 0 c_.toNat 1)) rfl ?_
  refine sm_T_iald (n := 6) rfl rfl (by omega) (by omega) ?_
  have bx5_ : 0 ≤ S0_.2.2.1 154 0 (S0_.1 13 0 105).toNat ∧ S0_.2.2.1 154 0 (S0_.1 13 0 105).toNat ≤ 12 := hI_.2 154 0 _
  refine sm_T_go 0 (c1 := (21, [some (.inr (.inr (some (13, 0)))), some (.inl c_), none, none], [.inl (S0_.2.2.1 154 0 (S0_.1 13 0 105).toNat), .inl c_, .inr (.inr (some (223, 0)))], sm_aI S0_ 222 0 c_.toNat 1)) rfl ?_
  refine sm_T_iast (n := 4) rfl rfl (by omega) (by omega) ?_
  have hIx6_ : gi (sm_aI (sm_aI S0_ 222 0 c_.toNat 1) 223 0 c_.toNat (S0_.2.2.1 154 0 (S0_.1 13 0 105).toNat)) := gi_aI hIx1_ (show 0 ≤ (S0_.2.2.1 154 0 (S0_.1 13 0 105).toNat) ∧ (S0_.2.2.1 154 0 (S0_.1 13 0 105).toNat) ≤ 12 from ⟨by omega, by omega⟩)
  have hFx7_ : ai_fr (sx_W vw_420n) S0_ (sm_aI (sm_aI S0_ 222 0 c_.toNat 1) 223 0 c_.toNat (S0_.2.2.1 154 0 (S0_.1 13 0 105).toNat)) := ai_fr_tr hFx2_ (ai_fr_aI rfl)
  have hKx8_ : rcf c_.toNat S0_ (sm_aI (sm_aI S0_ 222 0 c_.toNat 1) 223 0 c_.toNat (S0_.2.2.1 154 0 (S0_.1 13 0 105).toNat)) := rcf_aI hKx3_ (Or.inr (by rw [show rcs 223 = 1 from rfl]; omega))
  refine sm_T_go 7 (c1 := (35, [some (.inr (.inr (some (13, 0)))), some (.inl c_), none, none], [.inl (S0_.1 13 0 105), .inr (.inr (some (155, 0))), .inl c_, .inr (.inr (some (224, 0)))], sm_aI (sm_aI S0_ 222 0 c_.toNat 1) 223 0 c_.toNat (S0_.2.2.1 154 0 (S0_.1 13 0 105).toNat))) rfl ?_
  refine sm_T_iald (n := 6) rfl rfl (by omega) (by omega) ?_
  have bx9_ : 0 ≤ S0_.2.2.1 155 0 (S0_.1 13 0 105).toNat ∧ S0_.2.2.1 155 0 (S0_.1 13 0 105).toNat ≤ 6 := hI_.2 155 0 _
  refine sm_T_go 0 (c1 := (36, [some (.inr (.inr (some (13, 0)))), some (.inl c_), none, none], [.inl (S0_.2.2.1 155 0 (S0_.1 13 0 105).toNat), .inl c_, .inr (.inr (some (224, 0)))], sm_aI (sm_aI S0_ 222 0 c_.toNat 1) 223 0 c_.toNat (S0_.2.2.1 154 0 (S0_.1 13 0 105).toNat))) rfl ?_
  refine sm_T_iast (n := 4) rfl rfl (by omega) (by omega) ?_
  have hIx10_ : gi (sm_aI (sm_aI (sm_aI S0_ 222 0 c_.toNat 1) 223 0 c_.toNat (S0_.2.2.1 154 0 (S0_.1 13 0 105).toNat)) 224 0 c_.toNat (S0_.2.2.1 155 0 (S0_.1 13 0 105).toNat)) := gi_aI hIx6_ (show 0 ≤ (S0_.2.2.1 155 0 (S0_.1 13 0 105).toNat) ∧ (S0_.2.2.1 155 0 (S0_.1 13 0 105).toNat) ≤ 6 from ⟨by omega, by omega⟩)
  have hFx11_ : ai_fr (sx_W vw_420n) S0_ (sm_aI (sm_aI (sm_aI S0_ 222 0 c_.toNat 1) 223 0 c_.toNat (S0_.2.2.1 154 0 (S0_.1 13 0 105).toNat)) 224 0 c_.toNat (S0_.2.2.1 155 0 (S0_.1 13 0 105).toNat)) := ai_fr_tr hFx7_ (ai_fr_aI rfl)
  have hKx12_ : rcf c_.toNat S0_ (sm_aI (sm_aI (sm_aI S0_ 222 0 c_.toNat 1) 223 0 c_.toNat (S0_.2.2.1 154 0 (S0_.1 13 0 105).toNat)) 224 0 c_.toNat (S0_.2.2.1 155 0 (S0_.1 13 0 105).toNat)) := rcf_aI hKx8_ (Or.inr (by rw [show rcs 224 = 1 from rfl]; omega))
  refine sm_T_go 7 (c1 := (50, [some (.inr (.inr (some (13, 0)))), some (.inl c_), none, none], [.inl (S0_.1 13 0 105), .inr (.inr (some (156, 0))), .inl c_, .inr (.inr (some (225, 0)))], sm_aI (sm_aI (sm_aI S0_ 222 0 c_.toNat 1) 223 0 c_.toNat (S0_.2.2.1 154 0 (S0_.1 13 0 105).toNat)) 224 0 c_.toNat (S0_.2.2.1 155 0 (S0_.1 13 0 105).toNat))) rfl ?_
  refine sm_T_iald (n := 6) rfl rfl (by omega) (by omega) ?_
  have bx13_ : 0 ≤ S0_.2.2.1 156 0 (S0_.1 13 0 105).toNat ∧ S0_.2.2.1 156 0 (S0_.1 13 0 105).toNat ≤ 16 := hI_.2 156 0 _
  refine sm_T_go 0 (c1 := (51, [some (.inr (.inr (some (13, 0)))), some (.inl c_), none, none], [.inl (S0_.2.2.1 156 0 (S0_.1 13 0 105).toNat), .inl c_, .inr (.inr (some (225, 0)))], sm_aI (sm_aI (sm_aI S0_ 222 0 c_.toNat 1) 223 0 c_.toNat (S0_.2.2.1 154 0 (S0_.1 13 0 105).toNat)) 224 0 c_.toNat (S0_.2.2.1 155 0 (S0_.1 13 0 105).toNat))) rfl ?_
  refine sm_T_iast (n := 4) rfl rfl (by omega) (by omega) ?_
  have hIx14_ : gi (sm_aI (sm_aI (sm_aI (sm_aI S0_ 222 0 c_.toNat 1) 223 0 c_.toNat (S0_.2.2.1 154 0 (S0_.1 13 0 105).toNat)) 224 0 c_.toNat (S0_.2.2.1 155 0 (S0_.1 13 0 105).toNat)) 225 0 c_.toNat (S0_.2.2.1 156 0 (S0_.1 13 0 105).toNat)) := gi_aI hIx10_ (show 0 ≤ (S0_.2.2.1 156 0 (S0_.1 13 0 105).toNat) ∧ (S0_.2.2.1 156 0 (S0_.1 13 0 105).toNat) ≤ 16 from ⟨by omega, by omega⟩)
  have hFx15_ : ai_fr (sx_W vw_420n) S0_ (sm_aI (sm_aI (sm_aI (sm_aI S0_ 222 0 c_.toNat 1) 223 0 c_.toNat (S0_.2.2.1 154 0 (S0_.1 13 0 105).toNat)) 224 0 c_.toNat (S0_.2.2.1 155 0 (S0_.1 13 0 105).toNat)) 225 0 c_.toNat (S0_.2.2.1 156 0 (S0_.1 13 0 105).toNat)) := ai_fr_tr hFx11_ (ai_fr_aI rfl)
  have hKx16_ : rcf c_.toNat S0_ (sm_aI (sm_aI (sm_aI (sm_aI S0_ 222 0 c_.toNat 1) 223 0 c_.toNat (S0_.2.2.1 154 0 (S0_.1 13 0 105).toNat)) 224 0 c_.toNat (S0_.2.2.1 155 0 (S0_.1 13 0 105).toNat)) 225 0 c_.toNat (S0_.2.2.1 156 0 (S0_.1 13 0 105).toNat)) := rcf_aI hKx12_ (Or.inr (by rw [show rcs 225 = 1 from rfl]; omega))
  refine sm_T_go 7 (c1 := (65, [some (.inr (.inr (some (13, 0)))), some (.inl c_), none, none], [.inl (S0_.1 13 0 105), .inr (.inr (some (157, 0))), .inl c_, .inr (.inr (some (226, 0)))], sm_aI (sm_aI (sm_aI (sm_aI S0_ 222 0 c_.toNat 1) 223 0 c_.toNat (S0_.2.2.1 154 0 (S0_.1 13 0 105).toNat)) 224 0 c_.toNat (S0_.2.2.1 155 0 (S0_.1 13 0 105).toNat)) 225 0 c_.toNat (S0_.2.2.1 156 0 (S0_.1 13 0 105).toNat))) rfl ?_
  refine sm_T_iald (n := 6) rfl rfl (by omega) (by omega) ?_
  have bx17_ : 0 ≤ S0_.2.2.1 157 0 (S0_.1 13 0 105).toNat ∧ S0_.2.2.1 157 0 (S0_.1 13 0 105).toNat ≤ 63 := hI_.2 157 0 _
  refine sm_T_go 0 (c1 := (66, [some (.inr (.inr (some (13, 0)))), some (.inl c_), none, none], [.inl (S0_.2.2.1 157 0 (S0_.1 13 0 105).toNat), .inl c_, .inr (.inr (some (226, 0)))], sm_aI (sm_aI (sm_aI (sm_aI S0_ 222 0 c_.toNat 1) 223 0 c_.toNat (S0_.2.2.1 154 0 (S0_.1 13 0 105).toNat)) 224 0 c_.toNat (S0_.2.2.1 155 0 (S0_.1 13 0 105).toNat)) 225 0 c_.toNat (S0_.2.2.1 156 0 (S0_.1 13 0 105).toNat))) rfl ?_
  refine sm_T_iast (n := 4) rfl rfl (by omega) (by omega) ?_
  have hIx18_ : gi (sm_aI (sm_aI (sm_aI (sm_aI (sm_aI S0_ 222 0 c_.toNat 1) 223 0 c_.toNat (S0_.2.2.1 154 0 (S0_.1 13 0 105).toNat)) 224 0 c_.toNat (S0_.2.2.1 155 0 (S0_.1 13 0 105).toNat)) 225 0 c_.toNat (S0_.2.2.1 156 0 (S0_.1 13 0 105).toNat)) 226 0 c_.toNat (S0_.2.2.1 157 0 (S0_.1 13 0 105).toNat)) := gi_aI hIx14_ (show 0 ≤ (S0_.2.2.1 157 0 (S0_.1 13 0 105).toNat) ∧ (S0_.2.2.1 157 0 (S0_.1 13 0 105).toNat) ≤ 63 from ⟨by omega, by omega⟩)
  have hFx19_ : ai_fr (sx_W vw_420n) S0_ (sm_aI (sm_aI (sm_aI (sm_aI (sm_aI S0_ 222 0 c_.toNat 1) 223 0 c_.toNat (S0_.2.2.1 154 0 (S0_.1 13 0 105).toNat)) 224 0 c_.toNat (S0_.2.2.1 155 0 (S0_.1 13 0 105).toNat)) 225 0 c_.toNat (S0_.2.2.1 156 0 (S0_.1 13 0 105).toNat)) 226 0 c_.toNat (S0_.2.2.1 157 0 (S0_.1 13 0 105).toNat)) := ai_fr_tr hFx15_ (ai_fr_aI rfl)
  have hKx20_ : rcf c_.toNat S0_ (sm_aI (sm_aI (sm_aI (sm_aI (sm_aI S0_ 222 0 c_.toNat 1) 223 0 c_.toNat (S0_.2.2.1 154 0 (S0_.1 13 0 105).toNat)) 224 0 c_.toNat (S0_.2.2.1 155 0 (S0_.1 13 0 105).toNat)) 225 0 c_.toNat (S0_.2.2.1 156 0 (S0_.1 13 0 105).toNat)) 226 0 c_.toNat (S0_.2.2.1 157 0 (S0_.1 13 0 105).toNat)) := rcf_aI hKx16_ (Or.inr (by rw [show rcs 226 = 1 from rfl]; omega))
  refine sm_T_go 6 (c1 := (77, [some (.inr (.inr (some (13, 0)))), some (.inl c_), none, none], [.inl c_, .inr (.inr (some (226, 0))), .inl c_, .inr (.inr (some (227, 0)))], sm_aI (sm_aI (sm_aI (sm_aI (sm_aI S0_ 222 0 c_.toNat 1) 223 0 c_.toNat (S0_.2.2.1 154 0 (S0_.1 13 0 105).toNat)) 224 0 c_.toNat (S0_.2.2.1 155 0 (S0_.1 13 0 105).toNat)) 225 0 c_.toNat (S0_.2.2.1 156 0 (S0_.1 13 0 105).toNat)) 226 0 c_.toNat (S0_.2.2.1 157 0 (S0_.1 13 0 105).toNat))) rfl ?_
  refine sm_T_iald (n := 4) rfl rfl (by omega) (by omega) ?_
  have bx21_ : 0 ≤ (sm_aI (sm_aI (sm_aI (sm_aI (sm_aI S0_ 222 0 c_.toNat 1) 223 0 c_.toNat (S0_.2.2.1 154 0 (S0_.1 13 0 105).toNat)) 224 0 c_.toNat (S0_.2.2.1 155 0 (S0_.1 13 0 105).toNat)) 225 0 c_.toNat (S0_.2.2.1 156 0 (S0_.1 13 0 105).toNat)) 226 0 c_.toNat (S0_.2.2.1 157 0 (S0_.1 13 0 105).toNat)).2.2.1 226 0 c_.toNat ∧ (sm_aI (sm_aI (sm_aI (sm_aI (sm_aI S0_ 222 0 c_.toNat 1) 223 0 c_.toNat (S0_.2.2.1 154 0 (S0_.1 13 0 105).toNat)) 224 0 c_.toNat (S0_.2.2.1 155 0 (S0_.1 13 0 105).toNat)) 225 0 c_.toNat (S0_.2.2.1 156 0 (S0_.1 13 0 105).toNat)) 226 0 c_.toNat (S0_.2.2.1 157 0 (S0_.1 13 0 105).toNat)).2.2.1 226 0 c_.toNat ≤ 63 := hIx18_.2 226 0 _
  refine sm_T_go 0 (c1 := (78, [some (.inr (.inr (some (13, 0)))), some (.inl c_), none, none], [.inl ((sm_aI (sm_aI (sm_aI (sm_aI (sm_aI S0_ 222 0 c_.toNat 1) 223 0 c_.toNat (S0_.2.2.1 154 0 (S0_.1 13 0 105).toNat)) 224 0 c_.toNat (S0_.2.2.1 155 0 (S0_.1 13 0 105).toNat)) 225 0 c_.toNat (S0_.2.2.1 156 0 (S0_.1 13 0 105).toNat)) 226 0 c_.toNat (S0_.2.2.1 157 0 (S0_.1 13 0 105).toNat)).2.2.1 226 0 c_.toNat), .inl c_, .inr (.inr (some (227, 0)))], sm_aI (sm_aI (sm_aI (sm_aI (sm_aI S0_ 222 0 c_.toNat 1) 223 0 c_.toNat (S0_.2.2.1 154 0 (S0_.1 13 0 105).toNat)) 224 0 c_.toNat (S0_.2.2.1 155 0 (S0_.1 13 0 105).toNat)) 225 0 c_.toNat (S0_.2.2.1 156 0 (S0_.1 13 0 105).toNat)) 226 0 c_.toNat (S0_.2.2.1 157 0 (S0_.1 13 0 105).toNat))) rfl ?_
  refine sm_T_iast (n := 4) rfl rfl (by omega) (by omega) ?_
  have hIx22_ : gi (sm_aI (sm_aI (sm_aI (sm_aI (sm_aI (sm_aI S0_ 222 0 c_.toNat 1) 223 0 c_.toNat (S0_.2.2.1 154 0 (S0_.1 13 0 105).toNat)) 224 0 c_.toNat (S0_.2.2.1 155 0 (S0_.1 13 0 105).toNat)) 225 0 c_.toNat (S0_.2.2.1 156 0 (S0_.1 13 0 105).toNat)) 226 0 c_.toNat (S0_.2.2.1 157 0 (S0_.1 13 0 105).toNat)) 227 0 c_.toNat ((sm_aI (sm_aI (sm_aI (sm_aI (sm_aI S0_ 222 0 c_.toNat 1) 223 0 c_.toNat (S0_.2.2.1 154 0 (S0_.1 13 0 105).toNat)) 224 0 c_.toNat (S0_.2.2.1 155 0 (S0_.1 13 0 105).toNat)) 225 0 c_.toNat (S0_.2.2.1 156 0 (S0_.1 13 0 105).toNat)) 226 0 c_.toNat (S0_.2.2.1 157 0 (S0_.1 13 0 105).toNat)).2.2.1 226 0 c_.toNat)) := gi_aI hIx18_ (show 0 ≤ ((sm_aI (sm_aI (sm_aI (sm_aI (sm_aI S0_ 222 0 c_.toNat 1) 223 0 c_.toNat (S0_.2.2.1 154 0 (S0_.1 13 0 105).toNat)) 224 0 c_.toNat (S0_.2.2.1 155 0 (S0_.1 13 0 105).toNat)) 225 0 c_.toNat (S0_.2.2.1 156 0 (S0_.1 13 0 105).toNat)) 226 0 c_.toNat (S0_.2.2.1 157 0 (S0_.1 13 0 105).toNat)).2.2.1 226 0 c_.toNat) ∧ ((sm_aI (sm_aI (sm_aI (sm_aI (sm_aI S0_ 222 0 c_.toNat 1) 223 0 c_.toNat (S0_.2.2.1 154 0 (S0_.1 13 0 105).toNat)) 224 0 c_.toNat (S0_.2.2.1 155 0 (S0_.1 13 0 105).toNat)) 225 0 c_.toNat (S0_.2.2.1 156 0 (S0_.1 13 0 105).toNat)) 226 0 c_.toNat (S0_.2.2.1 157 0 (S0_.1 13 0 105).toNat)).2.2.1 226 0 c_.toNat) ≤ 63 from ⟨by omega, by omega⟩)
  have hFx23_ : ai_fr (sx_W vw_420n) S0_ (sm_aI (sm_aI (sm_aI (sm_aI (sm_aI (sm_aI S0_ 222 0 c_.toNat 1) 223 0 c_.toNat (S0_.2.2.1 154 0 (S0_.1 13 0 105).toNat)) 224 0 c_.toNat (S0_.2.2.1 155 0 (S0_.1 13 0 105).toNat)) 225 0 c_.toNat (S0_.2.2.1 156 0 (S0_.1 13 0 105).toNat)) 226 0 c_.toNat (S0_.2.2.1 157 0 (S0_.1 13 0 105).toNat)) 227 0 c_.toNat ((sm_aI (sm_aI (sm_aI (sm_aI (sm_aI S0_ 222 0 c_.toNat 1) 223 0 c_.toNat (S0_.2.2.1 154 0 (S0_.1 13 0 105).toNat)) 224 0 c_.toNat (S0_.2.2.1 155 0 (S0_.1 13 0 105).toNat)) 225 0 c_.toNat (S0_.2.2.1 156 0 (S0_.1 13 0 105).toNat)) 226 0 c_.toNat (S0_.2.2.1 157 0 (S0_.1 13 0 105).toNat)).2.2.1 226 0 c_.toNat)) := ai_fr_tr hFx19_ (ai_fr_aI rfl)
  have hKx24_ : rcf c_.toNat S0_ (sm_aI (sm_aI (sm_aI (sm_aI (sm_aI (sm_aI S0_ 222 0 c_.toNat 1) 223 0 c_.toNat (S0_.2.2.1 154 0 (S0_.1 13 0 105).toNat)) 224 0 c_.toNat (S0_.2.2.1 155 0 (S0_.1 13 0 105).toNat)) 225 0 c_.toNat (S0_.2.2.1 156 0 (S0_.1 13 0 105).toNat)) 226 0 c_.toNat (S0_.2.2.1 157 0 (S0_.1 13 0 105).toNat)) 227 0 c_.toNat ((sm_aI (sm_aI (sm_aI (sm_aI (sm_aI S0_ 222 0 c_.toNat 1) 223 0 c_.toNat (S0_.2.2.1 154 0 (S0_.1 13 0 105).toNat)) 224 0 c_.toNat (S0_.2.2.1 155 0 (S0_.1 13 0 105).toNat)) 225 0 c_.toNat (S0_.2.2.1 156 0 (S0_.1 13 0 105).toNat)) 226 0 c_.toNat (S0_.2.2.1 157 0 (S0_.1 13 0 105).toNat)).2.2.1 226 0 c_.toNat)) := rcf_aI hKx20_ (Or.inr (by rw [show rcs 227 = 1 from rfl]; omega))
  have bx25_ : 0 ≤ S0_.1 13 0 129 ∧ S0_.1 13 0 129 ≤ 8191 := hI_.1 13 0 129 rfl
  refine sm_T_go 5 (c1 := (88, [some (.inr (.inr (some (13, 0)))), some (.inl c_), none, none], [.inl (S0_.1 13 0 129), .inl c_, .inr (.inr (some (228, 0)))], sm_aI (sm_aI (sm_aI (sm_aI (sm_aI (sm_aI S0_ 222 0 c_.toNat 1) 223 0 c_.toNat (S0_.2.2.1 154 0 (S0_.1 13 0 105).toNat)) 224 0 c_.toNat (S0_.2.2.1 155 0 (S0_.1 13 0 105).toNat)) 225 0 c_.toNat (S0_.2.2.1 156 0 (S0_.1 13 0 105).toNat)) 226 0 c_.toNat (S0_.2.2.1 157 0 (S0_.1 13 0 105).toNat)) 227 0 c_.toNat ((sm_aI (sm_aI (sm_aI (sm_aI (sm_aI S0_ 222 0 c_.toNat 1) 223 0 c_.toNat (S0_.2.2.1 154 0 (S0_.1 13 0 105).toNat)) 224 0 c_.toNat (S0_.2.2.1 155 0 (S0_.1 13 0 105).toNat)) 225 0 c_.toNat (S0_.2.2.1 156 0 (S0_.1 13 0 105).toNat)) 226 0 c_.toNat (S0_.2.2.1 157 0 (S0_.1 13 0 105).toNat)).2.2.1 226 0 c_.toNat))) rfl ?_
  refine sm_T_iast (n := 4) rfl rfl (by omega) (by omega) ?_
  have hIx26_ : gi (sm_aI (sm_aI (sm_aI (sm_aI (sm_aI (sm_aI (sm_aI S0_ 222 0 c_.toNat 1) 223 0 c_.toNat (S0_.2.2.1 154 0 (S0_.1 13 0 105).toNat)) 224 0 c_.toNat (S0_.2.2.1 155 0 (S0_.1 13 0 105).toNat)) 225 0 c_.toNat (S0_.2.2.1 156 0 (S0_.1 13 0 105).toNat)) 226 0 c_.toNat (S0_.2.2.1 157 0 (S0_.1 13 0 105).toNat)) 227 0 c_.toNat ((sm_aI (sm_aI (sm_aI (sm_aI (sm_aI S0_ 222 0 c_.toNat 1) 223 0 c_.toNat (S0_.2.2.1 154 0 (S0_.1 13 0 105).toNat)) 224 0 c_.toNat (S0_.2.2.1 155 0 (S0_.1 13 0 105).toNat)) 225 0 c_.toNat (S0_.2.2.1 156 0 (S0_.1 13 0 105).toNat)) 226 0 c_.toNat (S0_.2.2.1 157 0 (S0_.1 13 0 105).toNat)).2.2.1 226 0 c_.toNat)) 228 0 c_.toNat (S0_.1 13 0 129)) := gi_aI hIx22_ (show 0 ≤ (S0_.1 13 0 129) ∧ (S0_.1 13 0 129) ≤ 150 from ⟨by omega, by omega⟩)
  have hFx27_ : ai_fr (sx_W vw_420n) S0_ (sm_aI (sm_aI (sm_aI (sm_aI (sm_aI (sm_aI (sm_aI S0_ 222 0 c_.toNat 1) 223 0 c_.toNat (S0_.2.2.1 154 0 (S0_.1 13 0 105).toNat)) 224 0 c_.toNat (S0_.2.2.1 155 0 (S0_.1 13 0 105).toNat)) 225 0 c_.toNat (S0_.2.2.1 156 0 (S0_.1 13 0 105).toNat)) 226 0 c_.toNat (S0_.2.2.1 157 0 (S0_.1 13 0 105).toNat)) 227 0 c_.toNat ((sm_aI (sm_aI (sm_aI (sm_aI (sm_aI S0_ 222 0 c_.toNat 1) 223 0 c_.toNat (S0_.2.2.1 154 0 (S0_.1 13 0 105).toNat)) 224 0 c_.toNat (S0_.2.2.1 155 0 (S0_.1 13 0 105).toNat)) 225 0 c_.toNat (S0_.2.2.1 156 0 (S0_.1 13 0 105).toNat)) 226 0 c_.toNat (S0_.2.2.1 157 0 (S0_.1 13 0 105).toNat)).2.2.1 226 0 c_.toNat)) 228 0 c_.toNat (S0_.1 13 0 129)) := ai_fr_tr hFx23_ (ai_fr_aI rfl)
  have hKx28_ : rcf c_.toNat S0_ (sm_aI (sm_aI (sm_aI (sm_aI (sm_aI (sm_aI (sm_aI S0_ 222 0 c_.toNat 1) 223 0 c_.toNat (S0_.2.2.1 154 0 (S0_.1 13 0 105).toNat)) 224 0 c_.toNat (S0_.2.2.1 155 0 (S0_.1 13 0 105).toNat)) 225 0 c_.toNat (S0_.2.2.1 156 0 (S0_.1 13 0 105).toNat)) 226 0 c_.toNat (S0_.2.2.1 157 0 (S0_.1 13 0 105).toNat)) 227 0 c_.toNat ((sm_aI (sm_aI (sm_aI (sm_aI (sm_aI S0_ 222 0 c_.toNat 1) 223 0 c_.toNat (S0_.2.2.1 154 0 (S0_.1 13 0 105).toNat)) 224 0 c_.toNat (S0_.2.2.1 155 0 (S0_.1 13 0 105).toNat)) 225 0 c_.toNat (S0_.2.2.1 156 0 (S0_.1 13 0 105).toNat)) 226 0 c_.toNat (S0_.2.2.1 157 0 (S0_.1 13 0 105).toNat)).2.2.1 226 0 c_.toNat)) 228 0 c_.toNat (S0_.1 13 0 129)) := rcf_aI hKx24_ (Or.inr (by rw [show rcs 228 = 1 from rfl]; omega))
  refine sm_T_go 2 (c1 := (91, [some (.inr (.inr (some (13, 0)))), some (.inl c_), some (.inl 0), none], [], sm_aI (sm_aI (sm_aI (sm_aI (sm_aI (sm_aI (sm_aI S0_ 222 0 c_.toNat 1) 223 0 c_.toNat (S0_.2.2.1 154 0 (S0_.1 13 0 105).toNat)) 224 0 c_.toNat (S0_.2.2.1 155 0 (S0_.1 13 0 105).toNat)) 225 0 c_.toNat (S0_.2.2.1 156 0 (S0_.1 13 0 105).toNat)) 226 0 c_.toNat (S0_.2.2.1 157 0 (S0_.1 13 0 105).toNat)) 227 0 c_.toNat ((sm_aI (sm_aI (sm_aI (sm_aI (sm_aI S0_ 222 0 c_.toNat 1) 223 0 c_.toNat (S0_.2.2.1 154 0 (S0_.1 13 0 105).toNat)) 224 0 c_.toNat (S0_.2.2.1 155 0 (S0_.1 13 0 105).toNat)) 225 0 c_.toNat (S0_.2.2.1 156 0 (S0_.1 13 0 105).toNat)) 226 0 c_.toNat (S0_.2.2.1 157 0 (S0_.1 13 0 105).toNat)).2.2.1 226 0 c_.toNat)) 228 0 c_.toNat (S0_.1 13 0 129))) rfl ?_
  refine (vl_420n c_ F_ N_ d_ S0_ hd_ hc_ hmd_ hl_ hg_ hlb_ ho_ _).1 0 (sm_aI (sm_aI (sm_aI (sm_aI (sm_aI (sm_aI (sm_aI S0_ 222 0 c_.toNat 1) 223 0 c_.toNat (S0_.2.2.1 154 0 (S0_.1 13 0 105).toNat)) 224 0 c_.toNat (S0_.2.2.1 155 0 (S0_.1 13 0 105).toNat)) 225 0 c_.toNat (S0_.2.2.1 156 0 (S0_.1 13 0 105).toNat)) 226 0 c_.toNat (S0_.2.2.1 157 0 (S0_.1 13 0 105).toNat)) 227 0 c_.toNat ((sm_aI (sm_aI (sm_aI (sm_aI (sm_aI S0_ 222 0 c_.toNat 1) 223 0 c_.toNat (S0_.2.2.1 154 0 (S0_.1 13 0 105).toNat)) 224 0 c_.toNat (S0_.2.2.1 155 0 (S0_.1 13 0 105).toNat)) 225 0 c_.toNat (S0_.2.2.1 156 0 (S0_.1 13 0 105).toNat)) 226 0 c_.toNat (S0_.2.2.1 157 0 (S0_.1 13 0 105).toNat)).2.2.1 226 0 c_.toNat)) 228 0 c_.toNat (S0_.1 13 0 129)) hIx26_ hFx27_ ⟨?_, ?_, ?_, ?_, ?_, ?_, trivial⟩ (Nat.lt_succ_self _)
  · omega
  · (try simp only [rd_eq, rd_ne, rf_eq, rf_nk, rf_nt, rd_fa, rd_af, rd_fl, rd_al, rd_lf, rd_la, rd_leq, rd_lne, rd_fr, rd_ar, ne_eq, Nat.reduceEqDiff, not_false_eq_true])
    rw [d1_.2.2.1]
    exact ⟨rfl, rfl, rfl, rfl, rfl, rfl⟩
  · (try simp only [rd_eq, rd_ne, rf_eq, rf_nk, rf_nt, rd_fa, rd_af, rd_fl, rd_al, rd_lf, rd_la, rd_leq, rd_lne, rd_fr, rd_ar, ne_eq, Nat.reduceEqDiff, not_false_eq_true])
    first | rfl | exact if_pos trivial | exact if_pos rfl
  · (intro j9_ u0_ u1_; exfalso; omega)
  · (intro j9_ u0_ u1_; exfalso; omega)
  · exact hKx28_
end
/-! 99.ztZk -/
section
/-! trees of the graph that the reference maps; written by wip/p55/gen/vg -/

/-! needed nodes are_ swept ones, and so_ are_ their parts -/
theorem psm_z {g_ : Nat → Nat} {a_ : Nat} : ∀ l_ : Nat, (∀ i_, i_ < l_ → g_ (a_ + i_) = 0) → psm g_ a_ l_ = 0
  | 0, _ => rfl
  | l_ + 1, e_ => by
    show psm g_ a_ l_ + g_ (a_ + l_) = 0
    rw [psm_z l_ (fun i_ hi_ => e_ i_ (by omega)), e_ l_ (Nat.lt_succ_self l_)]
theorem nsw_sf {F_ N_ : Nat} {lo_ hi_ sf_ : Nat → Int} {l_ : Int} (hs_ : ∀ m_, m_ < N_ → sfo F_ lo_ hi_ sf_ m_) (h0_ : 0 ≤ l_) (h1_ : l_ < 2 * (N_ : Int)) : nsw sf_ l_ < N_ ∧ sf_ (nsw sf_ l_) = 2 * ((nsw sf_ l_ : Nat) : Int) := by
  have s_ := hs_ (l_ / 2).toNat (by omega)
  have b_ := s_.1
  have e_ := s_.2.1
  have u_ : ((nsw sf_ l_ : Nat) : Int) = sf_ (l_ / 2).toNat / 2 := by
    unfold nsw
    omega
  refine ⟨by omega, ?_⟩
  rw [u_]
  exact e_
theorem nd0_sf {F_ N_ : Nat} {lo_ hi_ sf_ rt_ : Nat → Int} (hs_ : ∀ m_, m_ < N_ → sfo F_ lo_ hi_ sf_ m_) : ∀ (k_ q_ : Nat), (∀ i_, i_ < k_ → 0 ≤ rt_ i_ ∧ rt_ i_ < 2 * (N_ : Int)) → nd0 sf_ rt_ k_ q_ = true → q_ < N_ ∧ sf_ q_ = 2 * (q_ : Int)
  | 0, _, _, h_ => absurd h_ Bool.false_ne_true
  | k_ + 1, q_, hr_, h_ => by
    have h_ : (nd0 sf_ rt_ k_ q_ || decide (q_ = nsw sf_ (rt_ k_))) = true := h_
    rw [Bool.or_eq_true, decide_eq_true_iff] at h_
    rcases h_ with h_ | h_
    · exact nd0_sf hs_ k_ q_ (fun i_ hi_ => hr_ i_ (by omega)) h_
    · rw [h_]
      exact nsw_sf hs_ (hr_ k_ (Nat.lt_succ_self k_)).1 (hr_ k_ (Nat.lt_succ_self k_)).2
theorem ndk_sf {F_ N_ : Nat} {lo_ hi_ sf_ : Nat → Int} {m0_ : Nat → Bool} (hg_ : glo F_ N_ lo_ hi_) (hs_ : ∀ m_, m_ < N_ → sfo F_ lo_ hi_ sf_ m_) (h0_ : ∀ q_, m0_ q_ = true → q_ < N_ ∧ sf_ q_ = 2 * (q_ : Int)) : ∀ (j_ q_ : Nat), j_ ≤ N_ - F_ → (ndk N_ sf_ lo_ hi_ m0_ j_).1 q_ = true → q_ < N_ ∧ sf_ q_ = 2 * (q_ : Int)
  | 0, q_, _, h_ => h0_ q_ h_
  | j_ + 1, q_, hj_, h_ => by
    have g_ := hg_ (N_ - 1 - j_) (by omega) (by omega)
    cases x_ : (ndk N_ sf_ lo_ hi_ m0_ j_).1 (N_ - 1 - j_)
    · rw [ndk_n x_] at h_
      exact ndk_sf hg_ hs_ h0_ j_ q_ (by omega) h_
    · rw [ndk_y x_] at h_
      have h_ : (((ndk N_ sf_ lo_ hi_ m0_ j_).1 q_ || decide (q_ = nsw sf_ (lo_ (N_ - 1 - j_)))) || decide (q_ = nsw sf_ (hi_ (N_ - 1 - j_)))) = true := h_
      rw [Bool.or_eq_true, Bool.or_eq_true, decide_eq_true_iff, decide_eq_true_iff] at h_
      rcases h_ with (h_ | h_) | h_
      · exact ndk_sf hg_ hs_ h0_ j_ q_ (by omega) h_
      · rw [h_]
        exact nsw_sf hs_ (by omega) (by omega)
      · rw [h_]
        exact nsw_sf hs_ (by omega) (by omega)
theorem ndk_up {N_ : Nat} {lo_ hi_ sf_ : Nat → Int} {m0_ : Nat → Bool} {q_ j_ : Nat} (h_ : (ndk N_ sf_ lo_ hi_ m0_ j_).1 q_ = true) : ∀ i_ : Nat, (ndk N_ sf_ lo_ hi_ m0_ (j_ + i_)).1 q_ = true
  | 0 => h_
  | i_ + 1 => by
    have u_ := ndk_up h_ i_
    show (ndk N_ sf_ lo_ hi_ m0_ (j_ + i_ + 1)).1 q_ = true
    cases x_ : (ndk N_ sf_ lo_ hi_ m0_ (j_ + i_)).1 (N_ - 1 - (j_ + i_))
    · rw [ndk_n x_]
      exact u_
    · rw [ndk_y x_]
      show (((ndk N_ sf_ lo_ hi_ m0_ (j_ + i_)).1 q_ || _) || _) = true
      rw [u_, Bool.true_or, Bool.true_or]
theorem ndf_c {F_ N_ K_ : Nat} {lo_ hi_ sf_ rt_ : Nat → Int} (hg_ : glo F_ N_ lo_ hi_) (hs_ : ∀ m_, m_ < N_ → sfo F_ lo_ hi_ sf_ m_) (hr_ : ∀ i_, i_ < K_ → 0 ≤ rt_ i_ ∧ rt_ i_ < 2 * (N_ : Int)) (x_ : Nat) (a_ : F_ ≤ x_) (b_ : x_ < N_) (h_ : ndf F_ N_ K_ sf_ lo_ hi_ rt_ x_ = true) : sf_ x_ = 2 * (x_ : Int) ∧ ndf F_ N_ K_ sf_ lo_ hi_ rt_ (nsw sf_ (lo_ x_)) = true ∧ ndf F_ N_ K_ sf_ lo_ hi_ rt_ (nsw sf_ (hi_ x_)) = true := by
  have h1_ : (ndk N_ sf_ lo_ hi_ (nd0 sf_ rt_ K_) (N_ - F_)).1 x_ = true := h_
  have s_ := ndk_sf hg_ hs_ (fun q_ => nd0_sf hs_ K_ q_ hr_) (N_ - F_) x_ (Nat.le_refl _) h1_
  rw [ndk_fn hg_ (fun m_ hm_ => (hs_ m_ hm_).1) (N_ - F_ - (N_ - 1 - x_)) (N_ - 1 - x_) x_ (by omega) (by omega)] at h1_
  have e_ : N_ - 1 - (N_ - 1 - x_) = x_ := by omega
  have y_ := ndk_y (N_ := N_) (j_ := N_ - 1 - x_) (sf_ := sf_) (lo_ := lo_) (hi_ := hi_) (m0_ := nd0 sf_ rt_ K_) (by rw [e_]; exact h1_)
  rw [e_] at y_
  have p_ : ∀ q_, (q_ = nsw sf_ (lo_ x_) ∨ q_ = nsw sf_ (hi_ x_)) → ndf F_ N_ K_ sf_ lo_ hi_ rt_ q_ = true := by
    intro q_ hq_
    have z_ : (ndk N_ sf_ lo_ hi_ (nd0 sf_ rt_ K_) (N_ - 1 - x_ + 1)).1 q_ = true := by
      rw [y_]
      show (((ndk N_ sf_ lo_ hi_ (nd0 sf_ rt_ K_) (N_ - 1 - x_)).1 q_ || decide (q_ = nsw sf_ (lo_ x_))) || decide (q_ = nsw sf_ (hi_ x_))) = true
      rcases hq_ with hq_ | hq_
      · rw [decide_eq_true hq_, Bool.or_true, Bool.true_or]
      · rw [decide_eq_true hq_, Bool.or_true]
    have w_ := ndk_up z_ (N_ - F_ - (N_ - 1 - x_ + 1))
    rw [show N_ - 1 - x_ + 1 + (N_ - F_ - (N_ - 1 - x_ + 1)) = N_ - F_ by omega] at w_
    exact w_
  exact ⟨s_.2, p_ _ (Or.inl rfl), p_ _ (Or.inr rfl)⟩
/-- what is_ used is_ needed -/
theorem psm_nd {F_ N_ K_ : Nat} {lo_ hi_ sf_ rt_ : Nat → Int} (hg_ : glo F_ N_ lo_ hi_) (hs_ : ∀ m_, m_ < N_ → sfo F_ lo_ hi_ sf_ m_) (hr_ : ∀ i_, i_ < K_ → 0 ≤ rt_ i_ ∧ rt_ i_ < 2 * (N_ : Int)) (q_ : Nat) (h_ : ¬ ndf F_ N_ K_ sf_ lo_ hi_ rt_ q_ = true) : psm (pgn sf_ lo_ hi_ (ndf F_ N_ K_ sf_ lo_ hi_ rt_) q_) F_ (N_ - F_) = 0 := by
  refine psm_z _ (fun i_ hi9_ => ?_)
  unfold pgn
  by_cases z_ : ndf F_ N_ K_ sf_ lo_ hi_ rt_ (F_ + i_) = true
  · have c_ := ndf_c hg_ hs_ hr_ (F_ + i_) (by omega) (by omega) z_
    rw [if_pos z_, if_neg (fun e_ => h_ (by rw [e_]; exact c_.2.1)), if_neg (fun e_ => h_ (by rw [e_]; exact c_.2.2))]
  · rw [if_neg z_]
/-! the_ same trees with sides in another order -/
theorem trh_ag {inn_ : Nat → Bool} {cl_ ch_ dl_ dh_ : Nat → Nat} {n_ : Nat} {T_ : Nat → Prop} (h_ : trh inn_ cl_ ch_ n_ T_) (a_ : ∀ x_, T_ x_ → agr cl_ ch_ dl_ dh_ x_) : trh inn_ dl_ dh_ n_ T_ := by
  have s_ : ∀ x_ z_, T_ x_ → (z_ = dl_ x_ ∨ z_ = dh_ x_) → (z_ = cl_ x_ ∨ z_ = ch_ x_) := by
    intro x_ z_ hx_ hz_
    rcases a_ x_ hx_ with ⟨e1_, e2_⟩ | ⟨e1_, e2_⟩
    · rw [e1_, e2_]
      exact hz_
    · rw [e1_, e2_]
      exact hz_.symm
  refine ⟨h_.1, fun x_ hx_ => ?_, fun x_ y_ z_ hx_ hy_ zx_ zy_ iz_ => h_.2.2 x_ y_ z_ hx_ hy_ (s_ x_ z_ hx_ zx_) (s_ y_ z_ hy_ zy_) iz_⟩
  have p_ := h_.2.1 x_ hx_
  rcases a_ x_ hx_ with ⟨e1_, e2_⟩ | ⟨e1_, e2_⟩
  · rw [← e1_, ← e2_]
    exact p_
  · rw [← e1_, ← e2_]
    exact ⟨⟨p_.1.2.1, p_.1.1, fun u_ => p_.1.2.2 u_.symm⟩, p_.2.2, p_.2.1⟩
theorem crn_ag {inn_ : Nat → Bool} {cl_ ch_ dl_ dh_ : Nat → Nat} {n_ : Nat} {T_ : Nat → Prop} (h_ : trh inn_ cl_ ch_ n_ T_) (a_ : ∀ x_, T_ x_ → agr cl_ ch_ dl_ dh_ x_) (m_ : Nat) : crn inn_ cl_ ch_ n_ m_ = crn inn_ dl_ dh_ n_ m_ := (crn_cg (P_ := fun z_ => inn_ z_ = true → T_ z_) ⟨a_ n_ h_.1, (h_.2.1 n_ h_.1).2.1, (h_.2.1 n_ h_.1).2.2⟩ (fun _ _ => rfl) (fun x_ p_ i_ => ⟨a_ x_ (p_ i_), (h_.2.1 x_ (p_ i_)).2.1, (h_.2.1 x_ (p_ i_)).2.2⟩) m_).1
/-! the_ reference's graph -/
def mqs (d_ : Int) (R_ : sm_S) (m_ : Nat) : Int := R_.2.2.1 166 0 (2048 * d_.toNat + m_)
def mql (d_ : Int) (R_ : sm_S) (m_ : Nat) : Int := R_.2.2.1 164 0 (2048 * d_.toNat + m_)
def mqh (d_ : Int) (R_ : sm_S) (m_ : Nat) : Int := R_.2.2.1 165 0 (2048 * d_.toNat + m_)
def mqk (d_ : Int) (R_ : sm_S) : Nat := (R_.2.2.1 156 0 d_.toNat).toNat + (R_.2.2.1 155 0 d_.toNat).toNat
def mqr (d_ : Int) (R_ : sm_S) : Nat → Int := rto (R_.2.2.1 156 0 d_.toNat).toNat (fun k_ => R_.2.2.1 167 0 (16 * d_.toNat + k_)) (fun k_ => R_.2.2.1 168 0 (6 * d_.toNat + k_))
def mqn (F_ N_ d_ : Int) (R_ : sm_S) : Nat → Bool := ndf F_.toNat N_.toNat (mqk d_ R_) (mqs d_ R_) (mql d_ R_) (mqh d_ R_) (mqr d_ R_)
def mqp (F_ N_ d_ : Int) (R_ : sm_S) (q_ : Nat) : Nat := psm (pgn (mqs d_ R_) (mql d_ R_) (mqh d_ R_) (mqn F_ N_ d_ R_) q_) F_.toNat (N_.toNat - F_.toNat)
def rtn (F_ N_ : Int) (R_ : sm_S) (x_ : Nat) : Prop := F_ ≤ (x_ : Int) ∧ (x_ : Int) < N_ ∧ R_.2.2.1 202 0 x_ = 1
/-- needed nodes, roots, sides -/
def rcq0 (F_ N_ d_ : Int) (R_ : sm_S) : Prop := (∀ q_ : Nat, (q_ : Int) < N_ → (R_.2.2.1 202 0 q_ = 1 ↔ mqn F_ N_ d_ R_ q_ = true)) ∧ (∀ q_ : Nat, (q_ : Int) < N_ → R_.2.2.1 203 0 q_ = if F_ ≤ (q_ : Int) ∧ (0 < rcn (mqs d_ R_) (mqr d_ R_) (mqk d_ R_) q_ ∨ (mqn F_ N_ d_ R_ q_ = true ∧ 1 < rcn (mqs d_ R_) (mqr d_ R_) (mqk d_ R_) q_ + mqp F_ N_ d_ R_ q_)) then 1 else 0) ∧ ∀ q_ : Nat, rtn F_ N_ R_ q_ → sdv (mqs d_ R_) (mql d_ R_) (mqh d_ R_) (R_.2.2.1 199 0 q_) (R_.2.2.1 200 0 q_) q_
def rcm (F_ N_ d_ : Int) (R_ : sm_S) : Prop := rcq0 F_ N_ d_ R_ ∧ ∀ n_, rtn F_ N_ R_ n_ → trh (rnn F_ R_) (rcu R_) (rhq R_) n_ (rtn F_ N_ R_) ∧ ∀ m_, (crn (rnn F_ R_) (rcu R_) (rhq R_) n_ m_).length ≤ 47
theorem sdv_ag {F_ N_ : Nat} {lo_ hi_ sf_ : Nat → Int} {a_ b_ : Int} {n_ : Nat} (hg_ : glo F_ N_ lo_ hi_) (hs_ : ∀ m_, m_ < N_ → sfo F_ lo_ hi_ sf_ m_) (h13_ : N_ ≤ 1013) (h1_ : F_ ≤ n_) (h2_ : n_ < N_) (h_ : sdv sf_ lo_ hi_ a_ b_ n_) : (nsw sf_ (lo_ n_) = (a_ / 2).toNat ∧ nsw sf_ (hi_ n_) = (b_ / 2).toNat) ∨ (nsw sf_ (lo_ n_) = (b_ / 2).toNat ∧ nsw sf_ (hi_ n_) = (a_ / 2).toNat) := by
  have g_ := hg_ n_ h1_ h2_
  have s1_ := (hs_ (lo_ n_ / 2).toNat (by omega)).1
  have s2_ := (hs_ (hi_ n_ / 2).toNat (by omega)).1
  have x1_ : (swt sf_ (lo_ n_) / 2).toNat = nsw sf_ (lo_ n_) := nsw_x ⟨s1_.1, by omega⟩
  have x2_ : (swt sf_ (hi_ n_) / 2).toNat = nsw sf_ (hi_ n_) := nsw_x ⟨s2_.1, by omega⟩
  obtain ⟨ha_, hb_⟩ := h_
  by_cases z_ : swt sf_ (lo_ n_) < swt sf_ (hi_ n_)
  · rw [if_pos z_] at ha_ hb_
    rw [ha_, hb_]
    exact Or.inl ⟨x1_.symm, x2_.symm⟩
  · rw [if_neg z_] at ha_ hb_
    rw [ha_, hb_]
    exact Or.inr ⟨x1_.symm, x2_.symm⟩
theorem rcm_of {F_ N_ d_ : Int} {R_ : sm_S} (hd_ : dmp F_ N_ d_ R_) (hsw : swd F_.toNat N_.toNat (mql d_ R_) (mqh d_ R_) (mqs d_ R_)) (h_ : rcq0 F_ N_ d_ R_) : rcm F_ N_ d_ R_ := by
  obtain ⟨a9_, F1_, I1_, R1_, N1_, k1_, k2_, k3_, k4_, k5_, -⟩ := hd_
  have eF_ : F_.toNat = F1_ := by omega
  have eN_ : N_.toNat = N1_ := by omega
  have hg_ : glo F_.toNat N_.toNat (mql d_ R_) (mqh d_ R_) := by
    rw [eF_, eN_]
    exact k2_
  have hs_ : ∀ m_, m_ < N_.toNat → sfo F_.toNat (mql d_ R_) (mqh d_ R_) (mqs d_ R_) m_ := by
    rw [eF_, eN_]
    exact k3_.2
  have hr_ : ∀ i_, i_ < mqk d_ R_ → 0 ≤ mqr d_ R_ i_ ∧ mqr d_ R_ i_ < 2 * (N_.toNat : Int) := by
    intro i_ hi9_
    unfold mqk at hi9_
    unfold mqr rto
    rw [eN_]
    by_cases z_ : i_ < (R_.2.2.1 156 0 d_.toNat).toNat
    · rw [if_pos z_]
      exact k4_ i_ (by omega)
    · rw [if_neg z_]
      exact k5_ (i_ - (R_.2.2.1 156 0 d_.toNat).toNat) (by omega)
  have eT_ : (fun x_ => F_.toNat ≤ x_ ∧ x_ < N_.toNat ∧ mqn F_ N_ d_ R_ x_ = true) = rtn F_ N_ R_ := by
    funext x_
    refine propext ⟨fun q_ => ⟨by have := q_.1; omega, by have := q_.2.1; omega, (h_.1 x_ (by have := q_.2.1; omega)).mpr q_.2.2⟩, fun q_ => ⟨by have := q_.1; omega, by have := q_.2.1; omega, (h_.1 x_ q_.2.1).mp q_.2.2⟩⟩
  have hc_ := fun x_ a_ b_ c_ => ndf_c hg_ hs_ hr_ x_ a_ b_ c_
  have hi9_ : ∀ z_, z_ < N_.toNat → rnn F_ R_ z_ = true → F_.toNat ≤ z_ ∧ psm (pgn (mqs d_ R_) (mql d_ R_) (mqh d_ R_) (mqn F_ N_ d_ R_) z_) F_.toNat (N_.toNat - F_.toNat) ≤ 1 := by
    intro z_ a_ b_
    have e_ := of_decide_eq_true b_
    refine ⟨by omega, ?_⟩
    have u_ := h_.2.1 z_ (by omega)
    rw [e_.2] at u_
    by_cases c_ : mqn F_ N_ d_ R_ z_ = true
    · by_cases y_ : F_ ≤ (z_ : Int) ∧ (0 < rcn (mqs d_ R_) (mqr d_ R_) (mqk d_ R_) z_ ∨ (mqn F_ N_ d_ R_ z_ = true ∧ 1 < rcn (mqs d_ R_) (mqr d_ R_) (mqk d_ R_) z_ + mqp F_ N_ d_ R_ z_))
      · rw [if_pos y_] at u_
        exact absurd u_ (by decide)
      · show mqp F_ N_ d_ R_ z_ ≤ 1
        by_cases w_ : 1 < mqp F_ N_ d_ R_ z_
        · exact absurd ⟨e_.1, Or.inr ⟨c_, by omega⟩⟩ y_
        · omega
    · have p_ := psm_nd hg_ hs_ hr_ z_ c_
      show psm (pgn (mqs d_ R_) (mql d_ R_) (mqh d_ R_) (ndf F_.toNat N_.toNat (mqk d_ R_) (mqs d_ R_) (mql d_ R_) (mqh d_ R_) (mqr d_ R_)) z_) F_.toNat (N_.toNat - F_.toNat) ≤ 1
      omega
  refine ⟨h_, fun n_ tn_ => ?_⟩
  have tn'_ : F_.toNat ≤ n_ ∧ n_ < N_.toNat ∧ mqn F_ N_ d_ R_ n_ = true := by
    have q_ := tn_
    rw [← eT_] at q_
    exact q_
  have t_ := trh_of (inn_ := rnn F_ R_) (n_ := n_) (nd_ := mqn F_ N_ d_ R_) (by omega) hg_ hs_ hc_ hi9_ tn'_
  have ag_ : ∀ x_, (F_.toNat ≤ x_ ∧ x_ < N_.toNat ∧ mqn F_ N_ d_ R_ x_ = true) → agr (fun x_ => nsw (mqs d_ R_) (mql d_ R_ x_)) (fun x_ => nsw (mqs d_ R_) (mqh d_ R_ x_)) (rcu R_) (rhq R_) x_ := fun x_ hx_ => sdv_ag hg_ hs_ (by omega) hx_.1 hx_.2.1 (h_.2.2 x_ (by rw [← eT_]; exact hx_))
  have t2_ := trh_ag t_ ag_
  rw [eT_] at t2_
  refine ⟨t2_, fun m_ => ?_⟩
  rw [← crn_ag t_ ag_ m_]
  exact crn_sw (inn_ := rnn F_ R_) (n_ := n_) (nd_ := mqn F_ N_ d_ R_) (by omega) hg_ hs_ (by have := k3_.1; exact this) hc_ hsw hi9_ tn'_ m_
end
