/-! the reference: what is new of a chip; written by wip/p55/gen/vg -/
/-- what only a_ new_ chip changes -/
def rnt (t_ : Nat) : Bool := t_ == 240 || t_ == 251 || t_ == 263 || t_ == 272 || t_ == 289 || t_ == 294
def rne9 (S0_ S_ : sm_S) : Prop := ∀ t_ : Nat, rnt t_ = true → S_.2.2.1 t_ 0 = S0_.2.2.1 t_ 0
theorem rne_rf {S_ : sm_S} : rne9 S_ S_ := fun _ _ => rfl
theorem rne_aI {S0_ S_ : sm_S} {t_ k_ : Nat} {v_ : Int} (h_ : rne9 S0_ S_) (q_ : rnt t_ = false) : rne9 S0_ (sm_aI S_ t_ 0 k_ v_) := fun u_ hu_ => by
  funext j_
  rw [rd_aa, if_neg (by
    rintro ⟨q1_, -, -⟩
    rw [q1_, q_] at hu_
    exact absurd hu_ (by decide))]
  exact congrFun (h_ u_ hu_) j_
theorem rne_fr {w_ : sx_Wl} {S0_ S_ S'_ : sm_S} (h_ : rne9 S0_ S_) (g_ : ai_fr (sx_W w_) S_ S'_) (r_ : w_.2.1.all (fun t_ => !rnt t_) = true := by rfl) : rne9 S0_ S'_ := fun u_ hu_ => by
  have z_ : (sx_W w_).2.1 u_ = false := by
    unfold sx_W
    rw [List.any_eq_false]
    intro q_ hq_ y_
    have a_ := List.all_eq_true.mp r_ q_ hq_
    have e_ : q_ = u_ := of_decide_eq_true y_
    rw [e_, hu_] at a_
    exact absurd a_ (by decide)
  exact (fr_arr g_ z_).trans (h_ u_ hu_)
/-- chip c_ is_ new_ -/
def rnw9 (c_ : Int) (S0_ S_ : sm_S) : Prop := (∀ t_ : Nat, (t_ = 240 ∨ t_ = 251 ∨ t_ = 263 ∨ t_ = 272) → ∀ j_ : Nat, S_.2.2.1 t_ 0 j_ = if j_ = c_.toNat then 0 else S0_.2.2.1 t_ 0 j_) ∧ (∀ j_ : Nat, S_.2.2.1 289 0 j_ = if j_ = c_.toNat then -1 else S0_.2.2.1 289 0 j_) ∧ ∀ j_ : Nat, S_.2.2.1 294 0 j_ = if 1280 * c_.toNat ≤ j_ ∧ j_ < 1280 * c_.toNat + 1280 then 0 else S0_.2.2.1 294 0 j_
theorem rnw_tr {c_ : Int} {A_ B_ C_ : sm_S} (h_ : rne9 A_ B_) (g_ : rnw9 c_ B_ C_) : rnw9 c_ A_ C_ := by
  refine ⟨fun t_ ht_ j_ => ?_, fun j_ => ?_, fun j_ => ?_⟩
  · rw [g_.1 t_ ht_ j_, h_ t_ (by rcases ht_ with rfl | rfl | rfl | rfl <;> rfl)]
  · rw [g_.2.1 j_, h_ 289 rfl]
  · rw [g_.2.2 j_, h_ 294 rfl]
/-! M_.forgetLeast -/
def vw_519f : sx_Wl := ([], [294], [])
def vq_519f (c_ : Int) (S0_ : sm_S) (u_ : Option sm_V) (S1_ : sm_S) : Prop := u_ = none ∧ gi S1_ ∧ ai_fr (sx_W vw_519f) S0_ S1_ ∧ (∀ j9_ : Nat, S1_.2.2.1 294 0 j9_ = if 1280 * c_.toNat ≤ j9_ ∧ j9_ < 1280 * c_.toNat + 1280 then 0 else S0_.2.2.1 294 0 j9_)
set_option maxHeartbeats 400000 in
set_option maxRecDepth 20000 in
theorem vl_519f {sc_ : Nat × (Nat → Int)} (c_ : Int) (S0_ : sm_S) (hc_ : 0 ≤ c_ ∧ c_ ≤ 3) : ∀ nn_ : Nat, (∀ (f_ : Int) (S_ : sm_S), gi S_ → ai_fr (sx_W vw_519f) S0_ S_ → ((0 ≤ f_ ∧ f_ ≤ 1280) ∧ (∀ j9_ : Nat, S_.2.2.1 294 0 j9_ = if 1280 * c_.toNat ≤ j9_ ∧ j9_ < 1280 * c_.toNat + f_.toNat then 0 else S0_.2.2.1 294 0 j9_) ∧ True) → ((2000 - f_).toNat) < nn_ → sm_T (mt_P sc_) 0 519 (2, [some (.inr (.inr (some (13, 0)))), some (.inl c_), some (.inl f_)], [], S_) (fun ro9_ => ∃ u_ S1_, ro9_ = (.inl u_, S1_, 0) ∧ vq_519f c_ S0_ u_ S1_)) := by
  intro nn_
  induction nn_ with
  | zero => exact fun _ _ _ _ _ h_ => absurd h_ (Nat.not_lt_zero _)
  | succ nn_ ih_ =>
    rintro f_ S_ hI_ hF_ ⟨h0_, h1_, -⟩ hm_
    refine sm_T_go 2 (c1 := (6, [some (.inr (.inr (some (13, 0)))), some (.inl c_), some (.inl f_)], [.inl 1280, .inl f_], S_)) rfl ?_
    refine sm_T_br (a := 3) (z := 22) rfl (fun cx1_ => ?_) (fun cx1_ => ?_)
    · have cx1_ : 1280 ≤ f_ := of_decide_eq_true cx1_
      refine sm_T_rv rfl ⟨_, _, rfl, rfl, hI_, hF_, ?_⟩
      intro j9_
      rw [h1_ j9_, show f_.toNat = 1280 by omega]
    · have cx1_ : ¬ (1280 ≤ f_) := of_decide_eq_false cx1_
      refine sm_T_go 4 (c1 := (17, [some (.inr (.inr (some (13, 0)))), some (.inl c_), some (.inl f_)], [.inl c_, .inl 1280, .inr (.inr (some (294, 0)))], S_)) rfl ?_
      refine sm_T_bin (w := 1280 * c_) rfl (bi_mul (by omega) (by omega) (by omega)) ?_ -- pc_ 17
      refine sm_T_go 1 (c1 := (19, [some (.inr (.inr (some (13, 0)))), some (.inl c_), some (.inl f_)], [.inl f_, .inl (1280 * c_), .inr (.inr (some (294, 0)))], S_)) rfl ?_
      refine sm_T_bin (w := 1280 * c_ + f_) rfl (bi_add (by omega) (by omega) (by omega)) ?_ -- pc_ 19
      refine sm_T_go 1 (c1 := (21, [some (.inr (.inr (some (13, 0)))), some (.inl c_), some (.inl f_)], [.inl 0, .inl (1280 * c_ + f_), .inr (.inr (some (294, 0)))], S_)) rfl ?_
      refine sm_T_iast (n := 5120) rfl rfl (by omega) (by omega) ?_
      have hIx2_ : gi (sm_aI S_ 294 0 (1280 * c_ + f_).toNat 0) := gi_aI hI_ (show 0 ≤ 0 ∧ 0 ≤ 4097 from ⟨by omega, by omega⟩)
      have hFx3_ : ai_fr (sx_W vw_519f) S0_ (sm_aI S_ 294 0 (1280 * c_ + f_).toNat 0) := ai_fr_tr hF_ (ai_fr_aI rfl)
      refine sm_T_inc (a := 2) (z := 1) (v := f_) (w := f_ + 1) rfl rfl (by omega) (by omega) (by omega) ?_ -- pc_ 22
      refine sm_T_go 1 (c1 := (2, [some (.inr (.inr (some (13, 0)))), some (.inl c_), some (.inl (f_ + 1))], [], sm_aI S_ 294 0 (1280 * c_ + f_).toNat 0)) rfl ?_
      refine ih_ (f_ + 1) (sm_aI S_ 294 0 (1280 * c_ + f_).toNat 0) hIx2_ hFx3_ ⟨?_, ?_, trivial⟩ ?_
      · omega
      · intro j9_
        rw [rd_eq]
        by_cases y9_ : j9_ = (1280 * c_ + f_).toNat
        · rw [if_pos y9_, if_pos (by omega)]
        · rw [if_neg y9_, h1_ j9_]
          by_cases z9_ : 1280 * c_.toNat ≤ j9_ ∧ j9_ < 1280 * c_.toNat + f_.toNat
          · rw [if_pos z9_, if_pos (by omega)]
          · rw [if_neg z9_, if_neg (by omega)]
      · omega
set_option maxHeartbeats 400000 in
set_option maxRecDepth 20000 in
theorem vc_519f {sc_ : Nat × (Nat → Int)} (c_ : Int) (S0_ : sm_S) (hI_ : gi S0_) (hc_ : 0 ≤ c_ ∧ c_ ≤ 3) : sm_T (mt_P sc_) 0 519 (0, [some (.inr (.inr (some (13, 0)))), some (.inl c_), none], [], S0_) (fun ro9_ => ∃ u_ S1_, ro9_ = (.inl u_, S1_, 0) ∧ vq_519f c_ S0_ u_ S1_) := by
  have hF_ : ai_fr (sx_W vw_519f) S0_ S0_ := ai_fr_rf
  refine sm_T_go 2 (c1 := (2, [some (.inr (.inr (some (13, 0)))), some (.inl c_), some (.inl 0)], [], S0_)) rfl ?_
  refine (vl_519f c_ S0_ hc_ _) 0 S0_ hI_ hF_ ⟨?_, ?_, trivial⟩ (Nat.lt_succ_self _)
  · omega
  · (intro j9_; rw [if_neg (by omega)])
/-! M_.keepChip -/
def vw_420f : sx_Wl := ([], [222, 223, 224, 225, 226, 227, 228, 229, 230, 233, 234, 235, 236, 237, 240, 251, 263, 272, 289, 294], [])
def vq_420f (c_ : Int) (F_ : Int) (N_ : Int) (d_ : Int) (S0_ : sm_S) (u_ : Option sm_V) (S1_ : sm_S) : Prop := u_ = none ∧ gi S1_ ∧ ai_fr (sx_W vw_420f) S0_ S1_ ∧ (rcf c_.toNat S0_ S1_ ∧ (cRk c_ S1_ ∧ kcp c_ d_ S0_ S1_ ∧ rnw9 c_ S0_ S1_))
set_option maxHeartbeats 2000000 in
set_option maxRecDepth 20000 in
theorem vl_420f {sc_ : Nat × (Nat → Int)} (c_ : Int) (F_ : Int) (N_ : Int) (d_ : Int) (S0_ : sm_S) (hd_ : dmp F_ N_ d_ S0_) (hc_ : 0 ≤ c_ ∧ c_ ≤ 3) (hmd_ : mad F_ S0_) (hl_ : (S0_.1 13 0 134) = 0) (hg_ : 0 ≤ (S0_.1 13 0 129) ∧ (S0_.1 13 0 129) ≤ 150) (hlb_ : 0 ≤ (S0_.1 13 0 106) ∧ (S0_.1 13 0 106) ≤ 2) (ho_ : (∀ k_ : Int, 0 ≤ k_ → k_ < S0_.2.2.1 156 0 d_.toNat → S0_.2.2.1 231 0 (16 * c_ + k_).toNat < F_ - 1 + S0_.1 13 0 129) ∧ ∀ k_ : Int, 0 ≤ k_ → k_ < S0_.2.2.1 155 0 d_.toNat → S0_.2.2.1 232 0 (6 * c_ + k_).toNat < F_ - 1 + S0_.1 13 0 129) : ∀ nn_ : Nat, (∀ (g_ : Int) (S_ : sm_S), gi S_ → ai_fr (sx_W vw_420f) S0_ S_ → ((0 ≤ g_ ∧ g_ ≤ S0_.1 13 0 129) ∧ (S_.2.2.1 223 0 c_.toNat = S0_.2.2.1 154 0 d_.toNat ∧ S_.2.2.1 224 0 c_.toNat = S0_.2.2.1 155 0 d_.toNat ∧ S_.2.2.1 225 0 c_.toNat = S0_.2.2.1 156 0 d_.toNat ∧ S_.2.2.1 226 0 c_.toNat = S0_.2.2.1 157 0 d_.toNat ∧ S_.2.2.1 227 0 c_.toNat = S0_.2.2.1 157 0 d_.toNat ∧ S_.2.2.1 228 0 c_.toNat = S0_.1 13 0 129) ∧ (S_.2.2.1 222 0 c_.toNat = 1) ∧ (rne9 S0_ S_) ∧ (∀ j9_ : Int, 0 ≤ j9_ → j9_ < g_ → S_.2.2.1 229 0 (150 * c_ + j9_).toNat = S0_.2.2.1 216 0 j9_.toNat) ∧ (∀ j9_ : Int, 0 ≤ j9_ → j9_ < 3 * g_ → S_.2.2.1 230 0 (450 * c_ + j9_).toNat = S0_.2.2.1 217 0 j9_.toNat) ∧ (rcf c_.toNat S0_ S_) ∧ True) → ((9000 - 10 * g_).toNat) < nn_ → sm_T (mt_P sc_) 1 420 (91, [some (.inr (.inr (some (13, 0)))), some (.inl c_), some (.inl g_), none], [], S_) (fun ro9_ => ∃ u_ S1_, ro9_ = (.inl u_, S1_, 0) ∧ vq_420f c_ F_ N_ d_ S0_ u_ S1_)) ∧ (∀ (g_ : Int) (k_ : Int) (S_ : sm_S), gi S_ → ai_fr (sx_W vw_420f) S0_ S_ → ((0 ≤ g_ ∧ g_ < S0_.1 13 0 129 ∧ 0 ≤ k_ ∧ k_ ≤ 3) ∧ (S_.2.2.1 223 0 c_.toNat = S0_.2.2.1 154 0 d_.toNat ∧ S_.2.2.1 224 0 c_.toNat = S0_.2.2.1 155 0 d_.toNat ∧ S_.2.2.1 225 0 c_.toNat = S0_.2.2.1 156 0 d_.toNat ∧ S_.2.2.1 226 0 c_.toNat = S0_.2.2.1 157 0 d_.toNat ∧ S_.2.2.1 227 0 c_.toNat = S0_.2.2.1 157 0 d_.toNat ∧ S_.2.2.1 228 0 c_.toNat = S0_.1 13 0 129) ∧ (S_.2.2.1 222 0 c_.toNat = 1) ∧ (rne9 S0_ S_) ∧ (∀ j9_ : Int, 0 ≤ j9_ → j9_ < g_ + 1 → S_.2.2.1 229 0 (150 * c_ + j9_).toNat = S0_.2.2.1 216 0 j9_.toNat) ∧ (∀ j9_ : Int, 0 ≤ j9_ → j9_ < 3 * g_ + k_ → S_.2.2.1 230 0 (450 * c_ + j9_).toNat = S0_.2.2.1 217 0 j9_.toNat) ∧ (rcf c_.toNat S0_ S_) ∧ True) → ((8995 - 10 * g_ - k_).toNat) < nn_ → sm_T (mt_P sc_) 1 420 (119, [some (.inr (.inr (some (13, 0)))), some (.inl c_), some (.inl g_), some (.inl k_)], [], S_) (fun ro9_ => ∃ u_ S1_, ro9_ = (.inl u_, S1_, 0) ∧ vq_420f c_ F_ N_ d_ S0_ u_ S1_)) ∧ (∀ (i_ : Int) (S_ : sm_S), gi S_ → ai_fr (sx_W vw_420f) S0_ S_ → ((0 ≤ i_ ∧ i_ ≤ 12) ∧ (S_.2.2.1 223 0 c_.toNat = S0_.2.2.1 154 0 d_.toNat ∧ S_.2.2.1 224 0 c_.toNat = S0_.2.2.1 155 0 d_.toNat ∧ S_.2.2.1 225 0 c_.toNat = S0_.2.2.1 156 0 d_.toNat ∧ S_.2.2.1 226 0 c_.toNat = S0_.2.2.1 157 0 d_.toNat ∧ S_.2.2.1 227 0 c_.toNat = S0_.2.2.1 157 0 d_.toNat ∧ S_.2.2.1 228 0 c_.toNat = S0_.1 13 0 129) ∧ (S_.2.2.1 222 0 c_.toNat = 1) ∧ (rne9 S0_ S_) ∧ (S_.2.2.1 233 0 c_.toNat = S0_.2.2.1 184 0 (S0_.1 13 0 106).toNat) ∧ (∀ j9_ : Int, 0 ≤ j9_ → j9_ < i_ → S_.2.2.1 235 0 (12 * c_ + j9_).toNat = S0_.2.2.1 186 0 (12 * S0_.1 13 0 106 + j9_).toNat ∧ S_.2.2.1 236 0 (12 * c_ + j9_).toNat = S0_.2.2.1 187 0 (12 * S0_.1 13 0 106 + j9_).toNat ∧ S_.2.2.1 237 0 (12 * c_ + j9_).toNat = S0_.2.2.1 188 0 (12 * S0_.1 13 0 106 + j9_).toNat) ∧ (∀ j9_ : Int, 0 ≤ j9_ → j9_ < S0_.1 13 0 129 → S_.2.2.1 229 0 (150 * c_ + j9_).toNat = S0_.2.2.1 216 0 j9_.toNat) ∧ (∀ j9_ : Int, 0 ≤ j9_ → j9_ < 3 * S0_.1 13 0 129 → S_.2.2.1 230 0 (450 * c_ + j9_).toNat = S0_.2.2.1 217 0 j9_.toNat) ∧ (∀ j9_ : Int, 0 ≤ j9_ → j9_ < i_ → S_.2.2.1 234 0 (12 * c_ + j9_).toNat = S0_.2.2.1 185 0 (12 * S0_.1 13 0 106 + j9_).toNat) ∧ (rcf c_.toNat S0_ S_) ∧ True) → ((500 - i_).toNat) < nn_ → sm_T (mt_P sc_) 1 420 (179, [some (.inr (.inr (some (13, 0)))), some (.inl c_), some (.inl i_), none], [], S_) (fun ro9_ => ∃ u_ S1_, ro9_ = (.inl u_, S1_, 0) ∧ vq_420f c_ F_ N_ d_ S0_ u_ S1_)) := by
  intro nn_
  induction nn_ with
  | zero => exact ⟨fun _ _ _ _ _ h_ => absurd h_ (Nat.not_lt_zero _), fun _ _ _ _ _ _ h_ => absurd h_ (Nat.not_lt_zero _), fun _ _ _ _ _ h_ => absurd h_ (Nat.not_lt_zero _)⟩
  | succ nn_ ih_ =>
    refine ⟨?_, ?_, ?_⟩
    · rintro g_ S_ hI_ hF_ ⟨h0_, h1_, hT_, hun_, h2_, h3_, hK_, -⟩ hm_
      have d1_ := hd_.1
      have s129_ : S_.1 13 0 129 = S0_.1 13 0 129 := hF_.1 13 0 129 rfl
      have s106_ : S_.1 13 0 106 = S0_.1 13 0 106 := hF_.1 13 0 106 rfl
      have s105_ : S_.1 13 0 105 = S0_.1 13 0 105 := hF_.1 13 0 105 rfl
      have f216_ : S_.2.2.1 216 0 = S0_.2.2.1 216 0 := fr_arr hF_ rfl
      have f217_ : S_.2.2.1 217 0 = S0_.2.2.1 217 0 := fr_arr hF_ rfl
      have f184_ : S_.2.2.1 184 0 = S0_.2.2.1 184 0 := fr_arr hF_ rfl
      have f185_ : S_.2.2.1 185 0 = S0_.2.2.1 185 0 := fr_arr hF_ rfl
      have f186_ : S_.2.2.1 186 0 = S0_.2.2.1 186 0 := fr_arr hF_ rfl
      have f187_ : S_.2.2.1 187 0 = S0_.2.2.1 187 0 := fr_arr hF_ rfl
      have f188_ : S_.2.2.1 188 0 = S0_.2.2.1 188 0 := fr_arr hF_ rfl
      have f231_ : S_.2.2.1 231 0 = S0_.2.2.1 231 0 := fr_arr hF_ rfl
      have f232_ : S_.2.2.1 232 0 = S0_.2.2.1 232 0 := fr_arr hF_ rfl
      have bx1_ : 0 ≤ S_.1 13 0 129 ∧ S_.1 13 0 129 ≤ 8191 := hI_.1 13 0 129 rfl
      refine sm_T_go 3 (c1 := (96, [some (.inr (.inr (some (13, 0)))), some (.inl c_), some (.inl g_), none], [.inl (S_.1 13 0 129), .inl g_], S_)) rfl ?_
      refine sm_T_br (a := 3) (z := 66) rfl (fun cx2_ => ?_) (fun cx2_ => ?_)
      · have cx2_ : (S_.1 13 0 129) ≤ g_ := of_decide_eq_true cx2_
        have bx3_ : 0 ≤ S_.1 13 0 106 ∧ S_.1 13 0 106 ≤ 2 := hI_.1 13 0 106 rfl
        refine sm_T_go 7 (c1 := (175, [some (.inr (.inr (some (13, 0)))), some (.inl c_), some (.inl g_), none], [.inl (S_.1 13 0 106), .inr (.inr (some (184, 0))), .inl c_, .inr (.inr (some (233, 0)))], S_)) rfl ?_
        refine sm_T_iald (n := 3) rfl rfl (by omega) (by omega) ?_
        have bx4_ : 0 ≤ S_.2.2.1 184 0 (S_.1 13 0 106).toNat ∧ S_.2.2.1 184 0 (S_.1 13 0 106).toNat ≤ 12 := hI_.2 184 0 _
        refine sm_T_iast (n := 4) rfl rfl (by omega) (by omega) ?_
        have hIx5_ : gi (sm_aI S_ 233 0 c_.toNat (S_.2.2.1 184 0 (S_.1 13 0 106).toNat)) := gi_aI hI_ (show 0 ≤ (S_.2.2.1 184 0 (S_.1 13 0 106).toNat) ∧ (S_.2.2.1 184 0 (S_.1 13 0 106).toNat) ≤ 12 from ⟨by omega, by omega⟩)
        have hFx6_ : ai_fr (sx_W vw_420f) S0_ (sm_aI S_ 233 0 c_.toNat (S_.2.2.1 184 0 (S_.1 13 0 106).toNat)) := ai_fr_tr hF_ (ai_fr_aI rfl)
        have hKx7_ : rcf c_.toNat S0_ (sm_aI S_ 233 0 c_.toNat (S_.2.2.1 184 0 (S_.1 13 0 106).toNat)) := rcf_aI hK_ (Or.inr (by rw [show rcs 233 = 1 from rfl]; omega))
        refine sm_T_go 2 (c1 := (179, [some (.inr (.inr (some (13, 0)))), some (.inl c_), some (.inl 0), none], [], sm_aI S_ 233 0 c_.toNat (S_.2.2.1 184 0 (S_.1 13 0 106).toNat))) rfl ?_
        refine ih_.2.2 0 (sm_aI S_ 233 0 c_.toNat (S_.2.2.1 184 0 (S_.1 13 0 106).toNat)) hIx5_ hFx6_ ⟨?_, ?_, ?_, ?_, ?_, ?_, ?_, ?_, ?_, ?_, trivial⟩ ?_
        · omega
        · (try simp only [rd_eq, rd_ne, rf_eq, rf_nk, rf_nt, rd_fa, rd_af, rd_fl, rd_al, rd_lf, rd_la, rd_leq, rd_lne, rd_fr, rd_ar, ne_eq, Nat.reduceEqDiff, not_false_eq_true])
          exact h1_
        · (try simp only [rd_eq, rd_ne, rf_eq, rf_nk, rf_nt, rd_fa, rd_af, rd_fl, rd_al, rd_lf, rd_la, rd_leq, rd_lne, rd_fr, rd_ar, ne_eq, Nat.reduceEqDiff, not_false_eq_true])
          exact hT_
        · ((repeat (refine rne_aI ?_ rfl)); first | exact hun_ | exact rne_rf)
        · (try simp only [rd_eq, rd_ne, rf_eq, rf_nk, rf_nt, rd_fa, rd_af, rd_fl, rd_al, rd_lf, rd_la, rd_leq, rd_lne, rd_fr, rd_ar, ne_eq, Nat.reduceEqDiff, not_false_eq_true])
          first | (rw [if_pos trivial, s106_]; exact congrFun f184_ _) | (rw [if_pos rfl, s106_]; exact congrFun f184_ _) | (rw [s106_]; exact congrFun f184_ _)
        · (intro j9_ u0_ u1_; exfalso; omega)
        · intro j9_ u0_ u1_
          (try simp only [rd_eq, rd_ne, rf_eq, rf_nk, rf_nt, rd_fa, rd_af, rd_fl, rd_al, rd_lf, rd_la, rd_leq, rd_lne, rd_fr, rd_ar, ne_eq, Nat.reduceEqDiff, not_false_eq_true])
          exact h2_ j9_ u0_ (by omega)
        · intro j9_ u0_ u1_
          (try simp only [rd_eq, rd_ne, rf_eq, rf_nk, rf_nt, rd_fa, rd_af, rd_fl, rd_al, rd_lf, rd_la, rd_leq, rd_lne, rd_fr, rd_ar, ne_eq, Nat.reduceEqDiff, not_false_eq_true])
          exact h3_ j9_ u0_ (by omega)
        · (intro j9_ u0_ u1_; exfalso; omega)
        · exact hKx7_
        · omega
      · have cx2_ : ¬ ((S_.1 13 0 129) ≤ g_) := of_decide_eq_false cx2_
        have m9_ := hmd_ g_ (by omega) (by omega)
        have x216_ : S_.2.2.1 216 0 g_.toNat = S0_.2.2.1 216 0 g_.toNat := congrFun f216_ _
        have m8_ : 0 ≤ S0_.2.2.1 216 0 g_.toNat := by (rcases m9_.1 with y9_ | y9_; exact y9_; (exfalso; omega))
        refine sm_T_go 4 (c1 := (107, [some (.inr (.inr (some (13, 0)))), some (.inl c_), some (.inl g_), none], [.inl c_, .inl 150, .inr (.inr (some (229, 0)))], S_)) rfl ?_
        refine sm_T_bin (w := 150 * c_) rfl (bi_mul (by omega) (by omega) (by omega)) ?_ -- pc_ 107
        refine sm_T_go 1 (c1 := (109, [some (.inr (.inr (some (13, 0)))), some (.inl c_), some (.inl g_), none], [.inl g_, .inl (150 * c_), .inr (.inr (some (229, 0)))], S_)) rfl ?_
        refine sm_T_bin (w := 150 * c_ + g_) rfl (bi_add (by omega) (by omega) (by omega)) ?_ -- pc_ 109
        refine sm_T_go 3 (c1 := (115, [some (.inr (.inr (some (13, 0)))), some (.inl c_), some (.inl g_), none], [.inl g_, .inr (.inr (some (216, 0))), .inl (150 * c_ + g_), .inr (.inr (some (229, 0)))], S_)) rfl ?_
        refine sm_T_iald (n := 8192) rfl rfl (by omega) (by omega) ?_
        have bx8_ : (-1) ≤ S_.2.2.1 216 0 g_.toNat ∧ S_.2.2.1 216 0 g_.toNat ≤ 11 := hI_.2 216 0 _
        refine sm_T_iast (n := 600) rfl rfl (by omega) (by omega) ?_
        have hIx9_ : gi (sm_aI S_ 229 0 (150 * c_ + g_).toNat (S_.2.2.1 216 0 g_.toNat)) := gi_aI hI_ (show 0 ≤ (S_.2.2.1 216 0 g_.toNat) ∧ (S_.2.2.1 216 0 g_.toNat) ≤ 11 from ⟨by omega, by omega⟩)
        have hFx10_ : ai_fr (sx_W vw_420f) S0_ (sm_aI S_ 229 0 (150 * c_ + g_).toNat (S_.2.2.1 216 0 g_.toNat)) := ai_fr_tr hF_ (ai_fr_aI rfl)
        have hKx11_ : rcf c_.toNat S0_ (sm_aI S_ 229 0 (150 * c_ + g_).toNat (S_.2.2.1 216 0 g_.toNat)) := rcf_aI hK_ (Or.inr (by rw [show rcs 229 = 150 from rfl]; omega))
        refine sm_T_go 2 (c1 := (119, [some (.inr (.inr (some (13, 0)))), some (.inl c_), some (.inl g_), some (.inl 0)], [], sm_aI S_ 229 0 (150 * c_ + g_).toNat (S_.2.2.1 216 0 g_.toNat))) rfl ?_
        refine ih_.2.1 g_ 0 (sm_aI S_ 229 0 (150 * c_ + g_).toNat (S_.2.2.1 216 0 g_.toNat)) hIx9_ hFx10_ ⟨?_, ?_, ?_, ?_, ?_, ?_, ?_, trivial⟩ ?_
        · omega
        · (try simp only [rd_eq, rd_ne, rf_eq, rf_nk, rf_nt, rd_fa, rd_af, rd_fl, rd_al, rd_lf, rd_la, rd_leq, rd_lne, rd_fr, rd_ar, ne_eq, Nat.reduceEqDiff, not_false_eq_true])
          exact h1_
        · (try simp only [rd_eq, rd_ne, rf_eq, rf_nk, rf_nt, rd_fa, rd_af, rd_fl, rd_al, rd_lf, rd_la, rd_leq, rd_lne, rd_fr, rd_ar, ne_eq, Nat.reduceEqDiff, not_false_eq_true])
          exact hT_
        · ((repeat (refine rne_aI ?_ rfl)); first | exact hun_ | exact rne_rf)
        · intro j9_ u0_ u1_
          (try simp only [rd_eq, rd_ne, rf_eq, rf_nk, rf_nt, rd_fa, rd_af, rd_fl, rd_al, rd_lf, rd_la, rd_leq, rd_lne, rd_fr, rd_ar, ne_eq, Nat.reduceEqDiff, not_false_eq_true])
          by_cases z9_ : j9_ = g_
          · rw [z9_, if_pos rfl]; exact x216_
          · rw [if_neg (by omega)]; exact h2_ j9_ u0_ (by omega)
        · intro j9_ u0_ u1_
          (try simp only [rd_eq, rd_ne, rf_eq, rf_nk, rf_nt, rd_fa, rd_af, rd_fl, rd_al, rd_lf, rd_la, rd_leq, rd_lne, rd_fr, rd_ar, ne_eq, Nat.reduceEqDiff, not_false_eq_true])
          exact h3_ j9_ u0_ (by omega)
        · exact hKx11_
        · omega
    · rintro g_ k_ S_ hI_ hF_ ⟨h0_, h1_, hT_, hun_, h2_, h3_, hK_, -⟩ hm_
      have d1_ := hd_.1
      have s129_ : S_.1 13 0 129 = S0_.1 13 0 129 := hF_.1 13 0 129 rfl
      have s106_ : S_.1 13 0 106 = S0_.1 13 0 106 := hF_.1 13 0 106 rfl
      have s105_ : S_.1 13 0 105 = S0_.1 13 0 105 := hF_.1 13 0 105 rfl
      have f216_ : S_.2.2.1 216 0 = S0_.2.2.1 216 0 := fr_arr hF_ rfl
      have f217_ : S_.2.2.1 217 0 = S0_.2.2.1 217 0 := fr_arr hF_ rfl
      have f184_ : S_.2.2.1 184 0 = S0_.2.2.1 184 0 := fr_arr hF_ rfl
      have f185_ : S_.2.2.1 185 0 = S0_.2.2.1 185 0 := fr_arr hF_ rfl
      have f186_ : S_.2.2.1 186 0 = S0_.2.2.1 186 0 := fr_arr hF_ rfl
      have f187_ : S_.2.2.1 187 0 = S0_.2.2.1 187 0 := fr_arr hF_ rfl
      have f188_ : S_.2.2.1 188 0 = S0_.2.2.1 188 0 := fr_arr hF_ rfl
      have f231_ : S_.2.2.1 231 0 = S0_.2.2.1 231 0 := fr_arr hF_ rfl
      have f232_ : S_.2.2.1 232 0 = S0_.2.2.1 232 0 := fr_arr hF_ rfl
      refine sm_T_go 2 (c1 := (121, [some (.inr (.inr (some (13, 0)))), some (.inl c_), some (.inl g_), some (.inl k_)], [.inl 3, .inl k_], S_)) rfl ?_
      refine sm_T_br (a := 3) (z := 35) rfl (fun cx1_ => ?_) (fun cx1_ => ?_)
      · have cx1_ : 3 ≤ k_ := of_decide_eq_true cx1_
        refine sm_T_inc (a := 2) (z := 1) (v := g_) (w := g_ + 1) rfl rfl (by omega) (by omega) (by omega) ?_ -- pc_ 156
        refine sm_T_go 1 (c1 := (91, [some (.inr (.inr (some (13, 0)))), some (.inl c_), some (.inl (g_ + 1)), some (.inl k_)], [], S_)) rfl ?_
        refine sm_T_wk [some (.inr (.inr (some (13, 0)))), some (.inl c_), some (.inl (g_ + 1)), none] (by exact ⟨rfl, rfl, rfl, trivial⟩) ?_
        refine ih_.1 (g_ + 1) S_ hI_ hF_ ⟨?_, ?_, ?_, ?_, ?_, ?_, ?_, trivial⟩ ?_
        · omega
        · exact h1_
        · exact hT_
        · ((repeat (refine rne_aI ?_ rfl)); first | exact hun_ | exact rne_rf)
        · exact h2_
        · (intro j9_ u0_ u1_; exact h3_ j9_ u0_ (by omega))
        · exact hK_
        · omega
      · have cx1_ : ¬ (3 ≤ k_) := of_decide_eq_false cx1_
        have m9_ := (hmd_ g_ (by omega) (by omega)).2 k_ (by omega) (by omega)
        have x217_ : S_.2.2.1 217 0 (3 * g_ + k_).toNat = S0_.2.2.1 217 0 (3 * g_ + k_).toNat := congrFun f217_ _
        refine sm_T_go 5 (c1 := (133, [some (.inr (.inr (some (13, 0)))), some (.inl c_), some (.inl g_), some (.inl k_)], [.inl c_, .inl 150, .inl 3, .inr (.inr (some (230, 0)))], S_)) rfl ?_
        refine sm_T_bin (w := 150 * c_) rfl (bi_mul (by omega) (by omega) (by omega)) ?_ -- pc_ 133
        refine sm_T_go 1 (c1 := (135, [some (.inr (.inr (some (13, 0)))), some (.inl c_), some (.inl g_), some (.inl k_)], [.inl g_, .inl (150 * c_), .inl 3, .inr (.inr (some (230, 0)))], S_)) rfl ?_
        refine sm_T_bin (w := 150 * c_ + g_) rfl (bi_add (by omega) (by omega) (by omega)) ?_ -- pc_ 135
        refine sm_T_bin (w := 450 * c_ + 3 * g_) rfl (bi_mul (by omega) (by omega) (by omega)) ?_ -- pc_ 136
        refine sm_T_go 1 (c1 := (138, [some (.inr (.inr (some (13, 0)))), some (.inl c_), some (.inl g_), some (.inl k_)], [.inl k_, .inl (450 * c_ + 3 * g_), .inr (.inr (some (230, 0)))], S_)) rfl ?_
        refine sm_T_bin (w := 450 * c_ + 3 * g_ + k_) rfl (bi_add (by omega) (by omega) (by omega)) ?_ -- pc_ 138
        refine sm_T_go 4 (c1 := (145, [some (.inr (.inr (some (13, 0)))), some (.inl c_), some (.inl g_), some (.inl k_)], [.inl g_, .inl 3, .inr (.inr (some (217, 0))), .inl (450 * c_ + 3 * g_ + k_), .inr (.inr (some (230, 0)))], S_)) rfl ?_
        refine sm_T_bin (w := 3 * g_) rfl (bi_mul (by omega) (by omega) (by omega)) ?_ -- pc_ 145
        refine sm_T_go 1 (c1 := (147, [some (.inr (.inr (some (13, 0)))), some (.inl c_), some (.inl g_), some (.inl k_)], [.inl k_, .inl (3 * g_), .inr (.inr (some (217, 0))), .inl (450 * c_ + 3 * g_ + k_), .inr (.inr (some (230, 0)))], S_)) rfl ?_
        refine sm_T_bin (w := 3 * g_ + k_) rfl (bi_add (by omega) (by omega) (by omega)) ?_ -- pc_ 147
        refine sm_T_iald (n := 24576) rfl rfl (by omega) (by omega) ?_
        have bx2_ : (-2) ≤ S_.2.2.1 217 0 (3 * g_ + k_).toNat ∧ S_.2.2.1 217 0 (3 * g_ + k_).toNat ≤ 9000 := hI_.2 217 0 _
        refine sm_T_iast (n := 1800) rfl rfl (by omega) (by omega) ?_
        have hIx3_ : gi (sm_aI S_ 230 0 (450 * c_ + 3 * g_ + k_).toNat (S_.2.2.1 217 0 (3 * g_ + k_).toNat)) := gi_aI hI_ (show (-1) ≤ (S_.2.2.1 217 0 (3 * g_ + k_).toNat) ∧ (S_.2.2.1 217 0 (3 * g_ + k_).toNat) ≤ 161 from ⟨by omega, by omega⟩)
        have hFx4_ : ai_fr (sx_W vw_420f) S0_ (sm_aI S_ 230 0 (450 * c_ + 3 * g_ + k_).toNat (S_.2.2.1 217 0 (3 * g_ + k_).toNat)) := ai_fr_tr hF_ (ai_fr_aI rfl)
        have hKx5_ : rcf c_.toNat S0_ (sm_aI S_ 230 0 (450 * c_ + 3 * g_ + k_).toNat (S_.2.2.1 217 0 (3 * g_ + k_).toNat)) := rcf_aI hK_ (Or.inr (by rw [show rcs 230 = 450 from rfl]; omega))
        refine sm_T_inc (a := 3) (z := 1) (v := k_) (w := k_ + 1) rfl rfl (by omega) (by omega) (by omega) ?_ -- pc_ 150
        refine sm_T_go 1 (c1 := (119, [some (.inr (.inr (some (13, 0)))), some (.inl c_), some (.inl g_), some (.inl (k_ + 1))], [], sm_aI S_ 230 0 (450 * c_ + 3 * g_ + k_).toNat (S_.2.2.1 217 0 (3 * g_ + k_).toNat))) rfl ?_
        refine ih_.2.1 g_ (k_ + 1) (sm_aI S_ 230 0 (450 * c_ + 3 * g_ + k_).toNat (S_.2.2.1 217 0 (3 * g_ + k_).toNat)) hIx3_ hFx4_ ⟨?_, ?_, ?_, ?_, ?_, ?_, ?_, trivial⟩ ?_
        · omega
        · (try simp only [rd_eq, rd_ne, rf_eq, rf_nk, rf_nt, rd_fa, rd_af, rd_fl, rd_al, rd_lf, rd_la, rd_leq, rd_lne, rd_fr, rd_ar, ne_eq, Nat.reduceEqDiff, not_false_eq_true])
          exact h1_
        · (try simp only [rd_eq, rd_ne, rf_eq, rf_nk, rf_nt, rd_fa, rd_af, rd_fl, rd_al, rd_lf, rd_la, rd_leq, rd_lne, rd_fr, rd_ar, ne_eq, Nat.reduceEqDiff, not_false_eq_true])
          exact hT_
        · ((repeat (refine rne_aI ?_ rfl)); first | exact hun_ | exact rne_rf)
        · intro j9_ u0_ u1_
          (try simp only [rd_eq, rd_ne, rf_eq, rf_nk, rf_nt, rd_fa, rd_af, rd_fl, rd_al, rd_lf, rd_la, rd_leq, rd_lne, rd_fr, rd_ar, ne_eq, Nat.reduceEqDiff, not_false_eq_true])
          exact h2_ j9_ u0_ u1_
        · intro j9_ u0_ u1_
          (try simp only [rd_eq, rd_ne, rf_eq, rf_nk, rf_nt, rd_fa, rd_af, rd_fl, rd_al, rd_lf, rd_la, rd_leq, rd_lne, rd_fr, rd_ar, ne_eq, Nat.reduceEqDiff, not_false_eq_true])
          by_cases z9_ : j9_ = 3 * g_ + k_
          · rw [z9_, if_pos (by omega)]; exact congrFun f217_ _
          · rw [if_neg (by omega)]; exact h3_ j9_ u0_ (by omega)
        · exact hKx5_
        · omega
    · rintro i_ S_ hI_ hF_ ⟨h0_, h1_, hT_, hun_, h5_, h6_, h2_, h3_, h4_, hK_, -⟩ hm_
      have d1_ := hd_.1
      have s129_ : S_.1 13 0 129 = S0_.1 13 0 129 := hF_.1 13 0 129 rfl
      have s106_ : S_.1 13 0 106 = S0_.1 13 0 106 := hF_.1 13 0 106 rfl
      have s105_ : S_.1 13 0 105 = S0_.1 13 0 105 := hF_.1 13 0 105 rfl
      have f216_ : S_.2.2.1 216 0 = S0_.2.2.1 216 0 := fr_arr hF_ rfl
      have f217_ : S_.2.2.1 217 0 = S0_.2.2.1 217 0 := fr_arr hF_ rfl
      have f184_ : S_.2.2.1 184 0 = S0_.2.2.1 184 0 := fr_arr hF_ rfl
      have f185_ : S_.2.2.1 185 0 = S0_.2.2.1 185 0 := fr_arr hF_ rfl
      have f186_ : S_.2.2.1 186 0 = S0_.2.2.1 186 0 := fr_arr hF_ rfl
      have f187_ : S_.2.2.1 187 0 = S0_.2.2.1 187 0 := fr_arr hF_ rfl
      have f188_ : S_.2.2.1 188 0 = S0_.2.2.1 188 0 := fr_arr hF_ rfl
      have f231_ : S_.2.2.1 231 0 = S0_.2.2.1 231 0 := fr_arr hF_ rfl
      have f232_ : S_.2.2.1 232 0 = S0_.2.2.1 232 0 := fr_arr hF_ rfl
      refine sm_T_go 2 (c1 := (182, [some (.inr (.inr (some (13, 0)))), some (.inl c_), some (.inl i_), none], [.inl 12, .inl i_], S_)) rfl ?_
      refine sm_T_br (a := 3) (z := 109) rfl (fun cx1_ => ?_) (fun cx1_ => ?_)
      · have cx1_ : 12 ≤ i_ := of_decide_eq_true cx1_
        refine sm_T_go 4 (c1 := (297, [some (.inr (.inr (some (13, 0)))), some (.inl c_), some (.inl i_), none], [.inl 0, .inl c_, .inr (.inr (some (240, 0)))], S_)) rfl ?_
        refine sm_T_iast (n := 4) rfl rfl (by omega) (by omega) ?_
        have hIx2_ : gi (sm_aI S_ 240 0 c_.toNat 0) := gi_aI hI_ (show 0 ≤ 0 ∧ 0 ≤ 12 from ⟨by omega, by omega⟩)
        have hFx3_ : ai_fr (sx_W vw_420f) S0_ (sm_aI S_ 240 0 c_.toNat 0) := ai_fr_tr hF_ (ai_fr_aI rfl)
        have hKx4_ : rcf c_.toNat S0_ (sm_aI S_ 240 0 c_.toNat 0) := rcf_aI hK_ (Or.inr (by rw [show rcs 240 = 1 from rfl]; omega))
        refine sm_T_go 4 (c1 := (304, [some (.inr (.inr (some (13, 0)))), some (.inl c_), some (.inl i_), none], [.inl 0, .inl c_, .inr (.inr (some (251, 0)))], sm_aI S_ 240 0 c_.toNat 0)) rfl ?_
        refine sm_T_zas1 (n := 4) rfl rfl (by omega) (by omega) (by omega) ?_
        have hIx5_ : gi (sm_aI (sm_aI S_ 240 0 c_.toNat 0) 251 0 c_.toNat 0) := gi_aI hIx2_ (show 0 ≤ 0 ∧ 0 ≤ 1 from ⟨by omega, by omega⟩)
        have hFx6_ : ai_fr (sx_W vw_420f) S0_ (sm_aI (sm_aI S_ 240 0 c_.toNat 0) 251 0 c_.toNat 0) := ai_fr_tr hFx3_ (ai_fr_aI rfl)
        have hKx7_ : rcf c_.toNat S0_ (sm_aI (sm_aI S_ 240 0 c_.toNat 0) 251 0 c_.toNat 0) := rcf_aI hKx4_ (Or.inr (by rw [show rcs 251 = 1 from rfl]; omega))
        refine sm_T_go 4 (c1 := (311, [some (.inr (.inr (some (13, 0)))), some (.inl c_), some (.inl i_), none], [.inl 0, .inl c_, .inr (.inr (some (263, 0)))], sm_aI (sm_aI S_ 240 0 c_.toNat 0) 251 0 c_.toNat 0)) rfl ?_
        refine sm_T_zas1 (n := 4) rfl rfl (by omega) (by omega) (by omega) ?_
        have hIx8_ : gi (sm_aI (sm_aI (sm_aI S_ 240 0 c_.toNat 0) 251 0 c_.toNat 0) 263 0 c_.toNat 0) := gi_aI hIx5_ (show 0 ≤ 0 ∧ 0 ≤ 1 from ⟨by omega, by omega⟩)
        have hFx9_ : ai_fr (sx_W vw_420f) S0_ (sm_aI (sm_aI (sm_aI S_ 240 0 c_.toNat 0) 251 0 c_.toNat 0) 263 0 c_.toNat 0) := ai_fr_tr hFx6_ (ai_fr_aI rfl)
        have hKx10_ : rcf c_.toNat S0_ (sm_aI (sm_aI (sm_aI S_ 240 0 c_.toNat 0) 251 0 c_.toNat 0) 263 0 c_.toNat 0) := rcf_aI hKx7_ (Or.inl rfl)
        refine sm_T_go 4 (c1 := (318, [some (.inr (.inr (some (13, 0)))), some (.inl c_), some (.inl i_), none], [.inl 0, .inl c_, .inr (.inr (some (272, 0)))], sm_aI (sm_aI (sm_aI S_ 240 0 c_.toNat 0) 251 0 c_.toNat 0) 263 0 c_.toNat 0)) rfl ?_
        refine sm_T_iast (n := 4) rfl rfl (by omega) (by omega) ?_
        have hIx11_ : gi (sm_aI (sm_aI (sm_aI (sm_aI S_ 240 0 c_.toNat 0) 251 0 c_.toNat 0) 263 0 c_.toNat 0) 272 0 c_.toNat 0) := gi_aI hIx8_ (show 0 ≤ 0 ∧ 0 ≤ 40 from ⟨by omega, by omega⟩)
        have hFx12_ : ai_fr (sx_W vw_420f) S0_ (sm_aI (sm_aI (sm_aI (sm_aI S_ 240 0 c_.toNat 0) 251 0 c_.toNat 0) 263 0 c_.toNat 0) 272 0 c_.toNat 0) := ai_fr_tr hFx9_ (ai_fr_aI rfl)
        have hKx13_ : rcf c_.toNat S0_ (sm_aI (sm_aI (sm_aI (sm_aI S_ 240 0 c_.toNat 0) 251 0 c_.toNat 0) 263 0 c_.toNat 0) 272 0 c_.toNat 0) := rcf_aI hKx10_ (Or.inl rfl)
        refine sm_T_go 4 (c1 := (325, [some (.inr (.inr (some (13, 0)))), some (.inl c_), some (.inl i_), none], [.inl (-1), .inl c_, .inr (.inr (some (289, 0)))], sm_aI (sm_aI (sm_aI (sm_aI S_ 240 0 c_.toNat 0) 251 0 c_.toNat 0) 263 0 c_.toNat 0) 272 0 c_.toNat 0)) rfl ?_
        refine sm_T_iast (n := 4) rfl rfl (by omega) (by omega) ?_
        have hIx14_ : gi (sm_aI (sm_aI (sm_aI (sm_aI (sm_aI S_ 240 0 c_.toNat 0) 251 0 c_.toNat 0) 263 0 c_.toNat 0) 272 0 c_.toNat 0) 289 0 c_.toNat (-1)) := gi_aI hIx11_ (show (-1) ≤ (-1) ∧ (-1) ≤ 1224 from ⟨by omega, by omega⟩)
        have hFx15_ : ai_fr (sx_W vw_420f) S0_ (sm_aI (sm_aI (sm_aI (sm_aI (sm_aI S_ 240 0 c_.toNat 0) 251 0 c_.toNat 0) 263 0 c_.toNat 0) 272 0 c_.toNat 0) 289 0 c_.toNat (-1)) := ai_fr_tr hFx12_ (ai_fr_aI rfl)
        have hKx16_ : rcf c_.toNat S0_ (sm_aI (sm_aI (sm_aI (sm_aI (sm_aI S_ 240 0 c_.toNat 0) 251 0 c_.toNat 0) 263 0 c_.toNat 0) 272 0 c_.toNat 0) 289 0 c_.toNat (-1)) := rcf_aI hKx13_ (Or.inl rfl)
        refine sm_T_go 2 (c1 := (328, [some (.inr (.inr (some (13, 0)))), some (.inl c_), some (.inl i_), none], [.inl c_, .inr (.inr (some (13, 0)))], sm_aI (sm_aI (sm_aI (sm_aI (sm_aI S_ 240 0 c_.toNat 0) 251 0 c_.toNat 0) 263 0 c_.toNat 0) 272 0 c_.toNat 0) 289 0 c_.toNat (-1))) rfl ?_
        refine sm_T_cal (d1 := 0) (Q1 := vq_519f c_ (sm_aI (sm_aI (sm_aI (sm_aI (sm_aI S_ 240 0 c_.toNat 0) 251 0 c_.toNat 0) 263 0 c_.toNat 0) 272 0 c_.toNat 0) 289 0 c_.toNat (-1))) rfl rfl (by decide) (vc_519f c_ (sm_aI (sm_aI (sm_aI (sm_aI (sm_aI S_ 240 0 c_.toNat 0) 251 0 c_.toNat 0) 263 0 c_.toNat 0) 272 0 c_.toNat 0) 289 0 c_.toNat (-1)) hIx14_ (by omega)) (fun u_ Sx17_ px20_ => ?_)
        obtain ⟨rfl, hIx18_, hFx19_, px20_⟩ := px20_
        have hFx21_ : ai_fr (sx_W vw_420f) S0_ Sx17_ := ai_fr_tr hFx15_ (fr_le hFx19_ rfl)
        have hKx22_ : rcf c_.toNat S0_ Sx17_ := rcf_tr hKx16_ (rcf_fr hFx19_ rfl)
        have f328_ := hFx19_
        have q328_ := px20_
        have u328_ : ∀ t9_ : Nat, (t9_ = 240 ∨ t9_ = 251 ∨ t9_ = 263 ∨ t9_ = 272) → ∀ j9_ : Nat, Sx17_.2.2.1 t9_ 0 j9_ = if j9_ = c_.toNat then 0 else S0_.2.2.1 t9_ 0 j9_ := fun t9_ ht9_ j9_ => by (rcases ht9_ with rfl | rfl | rfl | rfl; (rw [fr_arr (t := 240) (i := 0) hFx19_ rfl, ← hun_ 240 rfl]; (try simp only [rd_eq, rd_ne, rf_eq, rf_nk, rf_nt, rd_fa, rd_af, rd_fl, rd_al, rd_lf, rd_la, rd_leq, rd_lne, rd_fr, rd_ar, ne_eq, Nat.reduceEqDiff, not_false_eq_true])); (rw [fr_arr (t := 251) (i := 0) hFx19_ rfl, ← hun_ 251 rfl]; (try simp only [rd_eq, rd_ne, rf_eq, rf_nk, rf_nt, rd_fa, rd_af, rd_fl, rd_al, rd_lf, rd_la, rd_leq, rd_lne, rd_fr, rd_ar, ne_eq, Nat.reduceEqDiff, not_false_eq_true])); (rw [fr_arr (t := 263) (i := 0) hFx19_ rfl, ← hun_ 263 rfl]; (try simp only [rd_eq, rd_ne, rf_eq, rf_nk, rf_nt, rd_fa, rd_af, rd_fl, rd_al, rd_lf, rd_la, rd_leq, rd_lne, rd_fr, rd_ar, ne_eq, Nat.reduceEqDiff, not_false_eq_true])); (rw [fr_arr (t := 272) (i := 0) hFx19_ rfl, ← hun_ 272 rfl]; (try simp only [rd_eq, rd_ne, rf_eq, rf_nk, rf_nt, rd_fa, rd_af, rd_fl, rd_al, rd_lf, rd_la, rd_leq, rd_lne, rd_fr, rd_ar, ne_eq, Nat.reduceEqDiff, not_false_eq_true])))
        have v328_ : ∀ j9_ : Nat, Sx17_.2.2.1 289 0 j9_ = if j9_ = c_.toNat then -1 else S0_.2.2.1 289 0 j9_ := fun j9_ => by (rw [fr_arr (t := 289) (i := 0) hFx19_ rfl, ← hun_ 289 rfl]; (try simp only [rd_eq, rd_ne, rf_eq, rf_nk, rf_nt, rd_fa, rd_af, rd_fl, rd_al, rd_lf, rd_la, rd_leq, rd_lne, rd_fr, rd_ar, ne_eq, Nat.reduceEqDiff, not_false_eq_true]))
        have w328_ : ∀ j9_ : Nat, Sx17_.2.2.1 294 0 j9_ = if 1280 * c_.toNat ≤ j9_ ∧ j9_ < 1280 * c_.toNat + 1280 then 0 else S0_.2.2.1 294 0 j9_ := fun j9_ => by (rw [q328_ j9_, ← hun_ 294 rfl]; rfl)
        have y240_ : Sx17_.2.2.1 240 0 c_.toNat = 0 := (congrFun (fr_arr (t := 240) (i := 0) hFx19_ rfl) _).trans (by ((try simp only [rd_eq, rd_ne, rf_eq, rf_nk, rf_nt, rd_fa, rd_af, rd_fl, rd_al, rd_lf, rd_la, rd_leq, rd_lne, rd_fr, rd_ar, ne_eq, Nat.reduceEqDiff, not_false_eq_true]); exact if_pos trivial))
        have y251_ : Sx17_.2.2.1 251 0 c_.toNat = 0 := (congrFun (fr_arr (t := 251) (i := 0) hFx19_ rfl) _).trans (by ((try simp only [rd_eq, rd_ne, rf_eq, rf_nk, rf_nt, rd_fa, rd_af, rd_fl, rd_al, rd_lf, rd_la, rd_leq, rd_lne, rd_fr, rd_ar, ne_eq, Nat.reduceEqDiff, not_false_eq_true]); exact if_pos trivial))
        have y222_ : Sx17_.2.2.1 222 0 = S_.2.2.1 222 0 := (fr_arr (t := 222) (i := 0) hFx19_ rfl).trans (by (funext j9_; (try simp only [rd_eq, rd_ne, rf_eq, rf_nk, rf_nt, rd_fa, rd_af, rd_fl, rd_al, rd_lf, rd_la, rd_leq, rd_lne, rd_fr, rd_ar, ne_eq, Nat.reduceEqDiff, not_false_eq_true])))
        have y223_ : Sx17_.2.2.1 223 0 = S_.2.2.1 223 0 := (fr_arr (t := 223) (i := 0) hFx19_ rfl).trans (by (funext j9_; (try simp only [rd_eq, rd_ne, rf_eq, rf_nk, rf_nt, rd_fa, rd_af, rd_fl, rd_al, rd_lf, rd_la, rd_leq, rd_lne, rd_fr, rd_ar, ne_eq, Nat.reduceEqDiff, not_false_eq_true])))
        have y224_ : Sx17_.2.2.1 224 0 = S_.2.2.1 224 0 := (fr_arr (t := 224) (i := 0) hFx19_ rfl).trans (by (funext j9_; (try simp only [rd_eq, rd_ne, rf_eq, rf_nk, rf_nt, rd_fa, rd_af, rd_fl, rd_al, rd_lf, rd_la, rd_leq, rd_lne, rd_fr, rd_ar, ne_eq, Nat.reduceEqDiff, not_false_eq_true])))
        have y225_ : Sx17_.2.2.1 225 0 = S_.2.2.1 225 0 := (fr_arr (t := 225) (i := 0) hFx19_ rfl).trans (by (funext j9_; (try simp only [rd_eq, rd_ne, rf_eq, rf_nk, rf_nt, rd_fa, rd_af, rd_fl, rd_al, rd_lf, rd_la, rd_leq, rd_lne, rd_fr, rd_ar, ne_eq, Nat.reduceEqDiff, not_false_eq_true])))
        have y226_ : Sx17_.2.2.1 226 0 = S_.2.2.1 226 0 := (fr_arr (t := 226) (i := 0) hFx19_ rfl).trans (by (funext j9_; (try simp only [rd_eq, rd_ne, rf_eq, rf_nk, rf_nt, rd_fa, rd_af, rd_fl, rd_al, rd_lf, rd_la, rd_leq, rd_lne, rd_fr, rd_ar, ne_eq, Nat.reduceEqDiff, not_false_eq_true])))
        have y227_ : Sx17_.2.2.1 227 0 = S_.2.2.1 227 0 := (fr_arr (t := 227) (i := 0) hFx19_ rfl).trans (by (funext j9_; (try simp only [rd_eq, rd_ne, rf_eq, rf_nk, rf_nt, rd_fa, rd_af, rd_fl, rd_al, rd_lf, rd_la, rd_leq, rd_lne, rd_fr, rd_ar, ne_eq, Nat.reduceEqDiff, not_false_eq_true])))
        have y228_ : Sx17_.2.2.1 228 0 = S_.2.2.1 228 0 := (fr_arr (t := 228) (i := 0) hFx19_ rfl).trans (by (funext j9_; (try simp only [rd_eq, rd_ne, rf_eq, rf_nk, rf_nt, rd_fa, rd_af, rd_fl, rd_al, rd_lf, rd_la, rd_leq, rd_lne, rd_fr, rd_ar, ne_eq, Nat.reduceEqDiff, not_false_eq_true])))
        have y229_ : Sx17_.2.2.1 229 0 = S_.2.2.1 229 0 := (fr_arr (t := 229) (i := 0) hFx19_ rfl).trans (by (funext j9_; (try simp only [rd_eq, rd_ne, rf_eq, rf_nk, rf_nt, rd_fa, rd_af, rd_fl, rd_al, rd_lf, rd_la, rd_leq, rd_lne, rd_fr, rd_ar, ne_eq, Nat.reduceEqDiff, not_false_eq_true])))
        have y230_ : Sx17_.2.2.1 230 0 = S_.2.2.1 230 0 := (fr_arr (t := 230) (i := 0) hFx19_ rfl).trans (by (funext j9_; (try simp only [rd_eq, rd_ne, rf_eq, rf_nk, rf_nt, rd_fa, rd_af, rd_fl, rd_al, rd_lf, rd_la, rd_leq, rd_lne, rd_fr, rd_ar, ne_eq, Nat.reduceEqDiff, not_false_eq_true])))
        have y231_ : Sx17_.2.2.1 231 0 = S_.2.2.1 231 0 := (fr_arr (t := 231) (i := 0) hFx19_ rfl).trans (by (funext j9_; (try simp only [rd_eq, rd_ne, rf_eq, rf_nk, rf_nt, rd_fa, rd_af, rd_fl, rd_al, rd_lf, rd_la, rd_leq, rd_lne, rd_fr, rd_ar, ne_eq, Nat.reduceEqDiff, not_false_eq_true])))
        have y232_ : Sx17_.2.2.1 232 0 = S_.2.2.1 232 0 := (fr_arr (t := 232) (i := 0) hFx19_ rfl).trans (by (funext j9_; (try simp only [rd_eq, rd_ne, rf_eq, rf_nk, rf_nt, rd_fa, rd_af, rd_fl, rd_al, rd_lf, rd_la, rd_leq, rd_lne, rd_fr, rd_ar, ne_eq, Nat.reduceEqDiff, not_false_eq_true])))
        have y233_ : Sx17_.2.2.1 233 0 = S_.2.2.1 233 0 := (fr_arr (t := 233) (i := 0) hFx19_ rfl).trans (by (funext j9_; (try simp only [rd_eq, rd_ne, rf_eq, rf_nk, rf_nt, rd_fa, rd_af, rd_fl, rd_al, rd_lf, rd_la, rd_leq, rd_lne, rd_fr, rd_ar, ne_eq, Nat.reduceEqDiff, not_false_eq_true])))
        have y234_ : Sx17_.2.2.1 234 0 = S_.2.2.1 234 0 := (fr_arr (t := 234) (i := 0) hFx19_ rfl).trans (by (funext j9_; (try simp only [rd_eq, rd_ne, rf_eq, rf_nk, rf_nt, rd_fa, rd_af, rd_fl, rd_al, rd_lf, rd_la, rd_leq, rd_lne, rd_fr, rd_ar, ne_eq, Nat.reduceEqDiff, not_false_eq_true])))
        have y235_ : Sx17_.2.2.1 235 0 = S_.2.2.1 235 0 := (fr_arr (t := 235) (i := 0) hFx19_ rfl).trans (by (funext j9_; (try simp only [rd_eq, rd_ne, rf_eq, rf_nk, rf_nt, rd_fa, rd_af, rd_fl, rd_al, rd_lf, rd_la, rd_leq, rd_lne, rd_fr, rd_ar, ne_eq, Nat.reduceEqDiff, not_false_eq_true])))
        have y236_ : Sx17_.2.2.1 236 0 = S_.2.2.1 236 0 := (fr_arr (t := 236) (i := 0) hFx19_ rfl).trans (by (funext j9_; (try simp only [rd_eq, rd_ne, rf_eq, rf_nk, rf_nt, rd_fa, rd_af, rd_fl, rd_al, rd_lf, rd_la, rd_leq, rd_lne, rd_fr, rd_ar, ne_eq, Nat.reduceEqDiff, not_false_eq_true])))
        have y237_ : Sx17_.2.2.1 237 0 = S_.2.2.1 237 0 := (fr_arr (t := 237) (i := 0) hFx19_ rfl).trans (by (funext j9_; (try simp only [rd_eq, rd_ne, rf_eq, rf_nk, rf_nt, rd_fa, rd_af, rd_fl, rd_al, rd_lf, rd_la, rd_leq, rd_lne, rd_fr, rd_ar, ne_eq, Nat.reduceEqDiff, not_false_eq_true])))
        refine sm_T_rv rfl ⟨_, _, rfl, rfl, hIx18_, hFx21_, ?_⟩
        refine ⟨hKx22_, ?_⟩
        refine ⟨?_, ?_, u328_, v328_, w328_⟩
        refine kch (fun j9_ => by (rw [← f216_]; exact (hI_.2 216 0 _).2)) hd_ hc_.1 hmd_ hl_ (by (rw [y223_, y224_, y225_, y226_, y227_, y228_]; exact h1_)) (fun j9_ u0_ u1_ => by (rw [y229_]; exact h2_ j9_ u0_ u1_)) (fun j9_ u0_ u1_ => by (rw [y230_]; exact h3_ j9_ u0_ u1_)) (fun j9_ u0_ u1_ => by (rw [y234_]; exact h4_ j9_ u0_ (by omega))) ⟨fun k9_ u0_ u1_ => by (rw [y231_, f231_]; exact ho_.1 k9_ u0_ u1_), fun k9_ u0_ u1_ => by (rw [y232_, f232_]; exact ho_.2 k9_ u0_ u1_)⟩ y240_ y251_
        unfold kcp
        refine ⟨by (rw [y222_]; exact hT_), by (rw [y223_, y224_, y225_, y226_, y227_, y228_]; exact h1_), fun j9_ u0_ u1_ => by (rw [y229_]; exact h2_ j9_ u0_ u1_), fun j9_ u0_ u1_ => by (rw [y230_]; exact h3_ j9_ u0_ u1_), by (rw [y233_]; exact h5_), fun j9_ u0_ u1_ => ?_, y231_.trans f231_, y232_.trans f232_, y240_⟩
        have z6_ := h6_ j9_ u0_ (by omega)
        rw [y234_, y235_, y236_, y237_]
        exact ⟨h4_ j9_ u0_ (by omega), z6_.1, z6_.2.1, z6_.2.2⟩
      · have cx1_ : ¬ (12 ≤ i_) := of_decide_eq_false cx1_
        refine sm_T_go 4 (c1 := (192, [some (.inr (.inr (some (13, 0)))), some (.inl c_), some (.inl i_), none], [.inl c_, .inl 12, .inr (.inr (some (234, 0)))], S_)) rfl ?_
        refine sm_T_bin (w := 12 * c_) rfl (bi_mul (by omega) (by omega) (by omega)) ?_ -- pc_ 192
        refine sm_T_go 1 (c1 := (194, [some (.inr (.inr (some (13, 0)))), some (.inl c_), some (.inl i_), none], [.inl i_, .inl (12 * c_), .inr (.inr (some (234, 0)))], S_)) rfl ?_
        refine sm_T_bin (w := 12 * c_ + i_) rfl (bi_add (by omega) (by omega) (by omega)) ?_ -- pc_ 194
        have bx23_ : 0 ≤ S_.1 13 0 106 ∧ S_.1 13 0 106 ≤ 2 := hI_.1 13 0 106 rfl
        refine sm_T_go 5 (c1 := (205, [some (.inr (.inr (some (13, 0)))), some (.inl c_), some (.inl i_), none], [.inl (S_.1 13 0 106), .inl 12, .inr (.inr (some (185, 0))), .inl (12 * c_ + i_), .inr (.inr (some (234, 0)))], S_)) rfl ?_
        refine sm_T_bin (w := 12 * (S_.1 13 0 106)) rfl (bi_mul (by omega) (by omega) (by omega)) ?_ -- pc_ 205
        refine sm_T_go 1 (c1 := (207, [some (.inr (.inr (some (13, 0)))), some (.inl c_), some (.inl i_), none], [.inl i_, .inl (12 * (S_.1 13 0 106)), .inr (.inr (some (185, 0))), .inl (12 * c_ + i_), .inr (.inr (some (234, 0)))], S_)) rfl ?_
        refine sm_T_bin (w := 12 * (S_.1 13 0 106) + i_) rfl (bi_add (by omega) (by omega) (by omega)) ?_ -- pc_ 207
        refine sm_T_iald (n := 36) rfl rfl (by omega) (by omega) ?_
        have bx24_ : 0 ≤ S_.2.2.1 185 0 (12 * (S_.1 13 0 106) + i_).toNat ∧ S_.2.2.1 185 0 (12 * (S_.1 13 0 106) + i_).toNat ≤ 3 := hI_.2 185 0 _
        refine sm_T_iast (n := 48) rfl rfl (by omega) (by omega) ?_
        have hIx25_ : gi (sm_aI S_ 234 0 (12 * c_ + i_).toNat (S_.2.2.1 185 0 (12 * (S_.1 13 0 106) + i_).toNat)) := gi_aI hI_ (show 0 ≤ (S_.2.2.1 185 0 (12 * (S_.1 13 0 106) + i_).toNat) ∧ (S_.2.2.1 185 0 (12 * (S_.1 13 0 106) + i_).toNat) ≤ 3 from ⟨by omega, by omega⟩)
        have hFx26_ : ai_fr (sx_W vw_420f) S0_ (sm_aI S_ 234 0 (12 * c_ + i_).toNat (S_.2.2.1 185 0 (12 * (S_.1 13 0 106) + i_).toNat)) := ai_fr_tr hF_ (ai_fr_aI rfl)
        have hKx27_ : rcf c_.toNat S0_ (sm_aI S_ 234 0 (12 * c_ + i_).toNat (S_.2.2.1 185 0 (12 * (S_.1 13 0 106) + i_).toNat)) := rcf_aI hK_ (Or.inr (by rw [show rcs 234 = 12 from rfl]; omega))
        refine sm_T_go 4 (c1 := (217, [some (.inr (.inr (some (13, 0)))), some (.inl c_), some (.inl i_), none], [.inl c_, .inl 12, .inr (.inr (some (235, 0)))], sm_aI S_ 234 0 (12 * c_ + i_).toNat (S_.2.2.1 185 0 (12 * (S_.1 13 0 106) + i_).toNat))) rfl ?_
        refine sm_T_bin (w := 12 * c_) rfl (bi_mul (by omega) (by omega) (by omega)) ?_ -- pc_ 217
        refine sm_T_go 1 (c1 := (219, [some (.inr (.inr (some (13, 0)))), some (.inl c_), some (.inl i_), none], [.inl i_, .inl (12 * c_), .inr (.inr (some (235, 0)))], sm_aI S_ 234 0 (12 * c_ + i_).toNat (S_.2.2.1 185 0 (12 * (S_.1 13 0 106) + i_).toNat))) rfl ?_
        refine sm_T_bin (w := 12 * c_ + i_) rfl (bi_add (by omega) (by omega) (by omega)) ?_ -- pc_ 219
        refine sm_T_go 5 (c1 := (230, [some (.inr (.inr (some (13, 0)))), some (.inl c_), some (.inl i_), none], [.inl (S_.1 13 0 106), .inl 12, .inr (.inr (some (186, 0))), .inl (12 * c_ + i_), .inr (.inr (some (235, 0)))], sm_aI S_ 234 0 (12 * c_ + i_).toNat (S_.2.2.1 185 0 (12 * (S_.1 13 0 106) + i_).toNat))) rfl ?_
        refine sm_T_bin (w := 12 * (S_.1 13 0 106)) rfl (bi_mul (by omega) (by omega) (by omega)) ?_ -- pc_ 230
        refine sm_T_go 1 (c1 := (232, [some (.inr (.inr (some (13, 0)))), some (.inl c_), some (.inl i_), none], [.inl i_, .inl (12 * (S_.1 13 0 106)), .inr (.inr (some (186, 0))), .inl (12 * c_ + i_), .inr (.inr (some (235, 0)))], sm_aI S_ 234 0 (12 * c_ + i_).toNat (S_.2.2.1 185 0 (12 * (S_.1 13 0 106) + i_).toNat))) rfl ?_
        refine sm_T_bin (w := 12 * (S_.1 13 0 106) + i_) rfl (bi_add (by omega) (by omega) (by omega)) ?_ -- pc_ 232
        refine sm_T_iald (n := 36) rfl rfl (by omega) (by omega) ?_
        have bx28_ : 0 ≤ S_.2.2.1 186 0 (12 * (S_.1 13 0 106) + i_).toNat ∧ S_.2.2.1 186 0 (12 * (S_.1 13 0 106) + i_).toNat ≤ 255 := hI_.2 186 0 _
        refine sm_T_go 0 (c1 := (234, [some (.inr (.inr (some (13, 0)))), some (.inl c_), some (.inl i_), none], [.inl (S_.2.2.1 186 0 (12 * (S_.1 13 0 106) + i_).toNat), .inl (12 * c_ + i_), .inr (.inr (some (235, 0)))], sm_aI S_ 234 0 (12 * c_ + i_).toNat (S_.2.2.1 185 0 (12 * (S_.1 13 0 106) + i_).toNat))) rfl ?_
        refine sm_T_iast (n := 48) rfl rfl (by omega) (by omega) ?_
        have hIx29_ : gi (sm_aI (sm_aI S_ 234 0 (12 * c_ + i_).toNat (S_.2.2.1 185 0 (12 * (S_.1 13 0 106) + i_).toNat)) 235 0 (12 * c_ + i_).toNat (S_.2.2.1 186 0 (12 * (S_.1 13 0 106) + i_).toNat)) := gi_aI hIx25_ (show 0 ≤ (S_.2.2.1 186 0 (12 * (S_.1 13 0 106) + i_).toNat) ∧ (S_.2.2.1 186 0 (12 * (S_.1 13 0 106) + i_).toNat) ≤ 255 from ⟨by omega, by omega⟩)
        have hFx30_ : ai_fr (sx_W vw_420f) S0_ (sm_aI (sm_aI S_ 234 0 (12 * c_ + i_).toNat (S_.2.2.1 185 0 (12 * (S_.1 13 0 106) + i_).toNat)) 235 0 (12 * c_ + i_).toNat (S_.2.2.1 186 0 (12 * (S_.1 13 0 106) + i_).toNat)) := ai_fr_tr hFx26_ (ai_fr_aI rfl)
        have hKx31_ : rcf c_.toNat S0_ (sm_aI (sm_aI S_ 234 0 (12 * c_ + i_).toNat (S_.2.2.1 185 0 (12 * (S_.1 13 0 106) + i_).toNat)) 235 0 (12 * c_ + i_).toNat (S_.2.2.1 186 0 (12 * (S_.1 13 0 106) + i_).toNat)) := rcf_aI hKx27_ (Or.inr (by rw [show rcs 235 = 12 from rfl]; omega))
        refine sm_T_go 4 (c1 := (242, [some (.inr (.inr (some (13, 0)))), some (.inl c_), some (.inl i_), none], [.inl c_, .inl 12, .inr (.inr (some (236, 0)))], sm_aI (sm_aI S_ 234 0 (12 * c_ + i_).toNat (S_.2.2.1 185 0 (12 * (S_.1 13 0 106) + i_).toNat)) 235 0 (12 * c_ + i_).toNat (S_.2.2.1 186 0 (12 * (S_.1 13 0 106) + i_).toNat))) rfl ?_
        refine sm_T_bin (w := 12 * c_) rfl (bi_mul (by omega) (by omega) (by omega)) ?_ -- pc_ 242
        refine sm_T_go 1 (c1 := (244, [some (.inr (.inr (some (13, 0)))), some (.inl c_), some (.inl i_), none], [.inl i_, .inl (12 * c_), .inr (.inr (some (236, 0)))], sm_aI (sm_aI S_ 234 0 (12 * c_ + i_).toNat (S_.2.2.1 185 0 (12 * (S_.1 13 0 106) + i_).toNat)) 235 0 (12 * c_ + i_).toNat (S_.2.2.1 186 0 (12 * (S_.1 13 0 106) + i_).toNat))) rfl ?_
        refine sm_T_bin (w := 12 * c_ + i_) rfl (bi_add (by omega) (by omega) (by omega)) ?_ -- pc_ 244
        refine sm_T_go 5 (c1 := (255, [some (.inr (.inr (some (13, 0)))), some (.inl c_), some (.inl i_), none], [.inl (S_.1 13 0 106), .inl 12, .inr (.inr (some (187, 0))), .inl (12 * c_ + i_), .inr (.inr (some (236, 0)))], sm_aI (sm_aI S_ 234 0 (12 * c_ + i_).toNat (S_.2.2.1 185 0 (12 * (S_.1 13 0 106) + i_).toNat)) 235 0 (12 * c_ + i_).toNat (S_.2.2.1 186 0 (12 * (S_.1 13 0 106) + i_).toNat))) rfl ?_
        refine sm_T_bin (w := 12 * (S_.1 13 0 106)) rfl (bi_mul (by omega) (by omega) (by omega)) ?_ -- pc_ 255
        refine sm_T_go 1 (c1 := (257, [some (.inr (.inr (some (13, 0)))), some (.inl c_), some (.inl i_), none], [.inl i_, .inl (12 * (S_.1 13 0 106)), .inr (.inr (some (187, 0))), .inl (12 * c_ + i_), .inr (.inr (some (236, 0)))], sm_aI (sm_aI S_ 234 0 (12 * c_ + i_).toNat (S_.2.2.1 185 0 (12 * (S_.1 13 0 106) + i_).toNat)) 235 0 (12 * c_ + i_).toNat (S_.2.2.1 186 0 (12 * (S_.1 13 0 106) + i_).toNat))) rfl ?_
        refine sm_T_bin (w := 12 * (S_.1 13 0 106) + i_) rfl (bi_add (by omega) (by omega) (by omega)) ?_ -- pc_ 257
        refine sm_T_iald (n := 36) rfl rfl (by omega) (by omega) ?_
        have bx32_ : 0 ≤ S_.2.2.1 187 0 (12 * (S_.1 13 0 106) + i_).toNat ∧ S_.2.2.1 187 0 (12 * (S_.1 13 0 106) + i_).toNat ≤ 1000 := hI_.2 187 0 _
        refine sm_T_go 0 (c1 := (259, [some (.inr (.inr (some (13, 0)))), some (.inl c_), some (.inl i_), none], [.inl (S_.2.2.1 187 0 (12 * (S_.1 13 0 106) + i_).toNat), .inl (12 * c_ + i_), .inr (.inr (some (236, 0)))], sm_aI (sm_aI S_ 234 0 (12 * c_ + i_).toNat (S_.2.2.1 185 0 (12 * (S_.1 13 0 106) + i_).toNat)) 235 0 (12 * c_ + i_).toNat (S_.2.2.1 186 0 (12 * (S_.1 13 0 106) + i_).toNat))) rfl ?_
        refine sm_T_iast (n := 48) rfl rfl (by omega) (by omega) ?_
        have hIx33_ : gi (sm_aI (sm_aI (sm_aI S_ 234 0 (12 * c_ + i_).toNat (S_.2.2.1 185 0 (12 * (S_.1 13 0 106) + i_).toNat)) 235 0 (12 * c_ + i_).toNat (S_.2.2.1 186 0 (12 * (S_.1 13 0 106) + i_).toNat)) 236 0 (12 * c_ + i_).toNat (S_.2.2.1 187 0 (12 * (S_.1 13 0 106) + i_).toNat)) := gi_aI hIx29_ (show 0 ≤ (S_.2.2.1 187 0 (12 * (S_.1 13 0 106) + i_).toNat) ∧ (S_.2.2.1 187 0 (12 * (S_.1 13 0 106) + i_).toNat) ≤ 1000 from ⟨by omega, by omega⟩)
        have hFx34_ : ai_fr (sx_W vw_420f) S0_ (sm_aI (sm_aI (sm_aI S_ 234 0 (12 * c_ + i_).toNat (S_.2.2.1 185 0 (12 * (S_.1 13 0 106) + i_).toNat)) 235 0 (12 * c_ + i_).toNat (S_.2.2.1 186 0 (12 * (S_.1 13 0 106) + i_).toNat)) 236 0 (12 * c_ + i_).toNat (S_.2.2.1 187 0 (12 * (S_.1 13 0 106) + i_).toNat)) := ai_fr_tr hFx30_ (ai_fr_aI rfl)
        have hKx35_ : rcf c_.toNat S0_ (sm_aI (sm_aI (sm_aI S_ 234 0 (12 * c_ + i_).toNat (S_.2.2.1 185 0 (12 * (S_.1 13 0 106) + i_).toNat)) 235 0 (12 * c_ + i_).toNat (S_.2.2.1 186 0 (12 * (S_.1 13 0 106) + i_).toNat)) 236 0 (12 * c_ + i_).toNat (S_.2.2.1 187 0 (12 * (S_.1 13 0 106) + i_).toNat)) := rcf_aI hKx31_ (Or.inr (by rw [show rcs 236 = 12 from rfl]; omega))
        refine sm_T_go 4 (c1 := (267, [some (.inr (.inr (some (13, 0)))), some (.inl c_), some (.inl i_), none], [.inl c_, .inl 12, .inr (.inr (some (237, 0)))], sm_aI (sm_aI (sm_aI S_ 234 0 (12 * c_ + i_).toNat (S_.2.2.1 185 0 (12 * (S_.1 13 0 106) + i_).toNat)) 235 0 (12 * c_ + i_).toNat (S_.2.2.1 186 0 (12 * (S_.1 13 0 106) + i_).toNat)) 236 0 (12 * c_ + i_).toNat (S_.2.2.1 187 0 (12 * (S_.1 13 0 106) + i_).toNat))) rfl ?_
        refine sm_T_bin (w := 12 * c_) rfl (bi_mul (by omega) (by omega) (by omega)) ?_ -- pc_ 267
        refine sm_T_go 1 (c1 := (269, [some (.inr (.inr (some (13, 0)))), some (.inl c_), some (.inl i_), none], [.inl i_, .inl (12 * c_), .inr (.inr (some (237, 0)))], sm_aI (sm_aI (sm_aI S_ 234 0 (12 * c_ + i_).toNat (S_.2.2.1 185 0 (12 * (S_.1 13 0 106) + i_).toNat)) 235 0 (12 * c_ + i_).toNat (S_.2.2.1 186 0 (12 * (S_.1 13 0 106) + i_).toNat)) 236 0 (12 * c_ + i_).toNat (S_.2.2.1 187 0 (12 * (S_.1 13 0 106) + i_).toNat))) rfl ?_
        refine sm_T_bin (w := 12 * c_ + i_) rfl (bi_add (by omega) (by omega) (by omega)) ?_ -- pc_ 269
        refine sm_T_go 5 (c1 := (280, [some (.inr (.inr (some (13, 0)))), some (.inl c_), some (.inl i_), none], [.inl (S_.1 13 0 106), .inl 12, .inr (.inr (some (188, 0))), .inl (12 * c_ + i_), .inr (.inr (some (237, 0)))], sm_aI (sm_aI (sm_aI S_ 234 0 (12 * c_ + i_).toNat (S_.2.2.1 185 0 (12 * (S_.1 13 0 106) + i_).toNat)) 235 0 (12 * c_ + i_).toNat (S_.2.2.1 186 0 (12 * (S_.1 13 0 106) + i_).toNat)) 236 0 (12 * c_ + i_).toNat (S_.2.2.1 187 0 (12 * (S_.1 13 0 106) + i_).toNat))) rfl ?_
        refine sm_T_bin (w := 12 * (S_.1 13 0 106)) rfl (bi_mul (by omega) (by omega) (by omega)) ?_ -- pc_ 280
        refine sm_T_go 1 (c1 := (282, [some (.inr (.inr (some (13, 0)))), some (.inl c_), some (.inl i_), none], [.inl i_, .inl (12 * (S_.1 13 0 106)), .inr (.inr (some (188, 0))), .inl (12 * c_ + i_), .inr (.inr (some (237, 0)))], sm_aI (sm_aI (sm_aI S_ 234 0 (12 * c_ + i_).toNat (S_.2.2.1 185 0 (12 * (S_.1 13 0 106) + i_).toNat)) 235 0 (12 * c_ + i_).toNat (S_.2.2.1 186 0 (12 * (S_.1 13 0 106) + i_).toNat)) 236 0 (12 * c_ + i_).toNat (S_.2.2.1 187 0 (12 * (S_.1 13 0 106) + i_).toNat))) rfl ?_
        refine sm_T_bin (w := 12 * (S_.1 13 0 106) + i_) rfl (bi_add (by omega) (by omega) (by omega)) ?_ -- pc_ 282
        refine sm_T_iald (n := 36) rfl rfl (by omega) (by omega) ?_
        have bx36_ : 0 ≤ S_.2.2.1 188 0 (12 * (S_.1 13 0 106) + i_).toNat ∧ S_.2.2.1 188 0 (12 * (S_.1 13 0 106) + i_).toNat ≤ 100 := hI_.2 188 0 _
        refine sm_T_go 0 (c1 := (284, [some (.inr (.inr (some (13, 0)))), some (.inl c_), some (.inl i_), none], [.inl (S_.2.2.1 188 0 (12 * (S_.1 13 0 106) + i_).toNat), .inl (12 * c_ + i_), .inr (.inr (some (237, 0)))], sm_aI (sm_aI (sm_aI S_ 234 0 (12 * c_ + i_).toNat (S_.2.2.1 185 0 (12 * (S_.1 13 0 106) + i_).toNat)) 235 0 (12 * c_ + i_).toNat (S_.2.2.1 186 0 (12 * (S_.1 13 0 106) + i_).toNat)) 236 0 (12 * c_ + i_).toNat (S_.2.2.1 187 0 (12 * (S_.1 13 0 106) + i_).toNat))) rfl ?_
        refine sm_T_iast (n := 48) rfl rfl (by omega) (by omega) ?_
        have hIx37_ : gi (sm_aI (sm_aI (sm_aI (sm_aI S_ 234 0 (12 * c_ + i_).toNat (S_.2.2.1 185 0 (12 * (S_.1 13 0 106) + i_).toNat)) 235 0 (12 * c_ + i_).toNat (S_.2.2.1 186 0 (12 * (S_.1 13 0 106) + i_).toNat)) 236 0 (12 * c_ + i_).toNat (S_.2.2.1 187 0 (12 * (S_.1 13 0 106) + i_).toNat)) 237 0 (12 * c_ + i_).toNat (S_.2.2.1 188 0 (12 * (S_.1 13 0 106) + i_).toNat)) := gi_aI hIx33_ (show 0 ≤ (S_.2.2.1 188 0 (12 * (S_.1 13 0 106) + i_).toNat) ∧ (S_.2.2.1 188 0 (12 * (S_.1 13 0 106) + i_).toNat) ≤ 100 from ⟨by omega, by omega⟩)
        have hFx38_ : ai_fr (sx_W vw_420f) S0_ (sm_aI (sm_aI (sm_aI (sm_aI S_ 234 0 (12 * c_ + i_).toNat (S_.2.2.1 185 0 (12 * (S_.1 13 0 106) + i_).toNat)) 235 0 (12 * c_ + i_).toNat (S_.2.2.1 186 0 (12 * (S_.1 13 0 106) + i_).toNat)) 236 0 (12 * c_ + i_).toNat (S_.2.2.1 187 0 (12 * (S_.1 13 0 106) + i_).toNat)) 237 0 (12 * c_ + i_).toNat (S_.2.2.1 188 0 (12 * (S_.1 13 0 106) + i_).toNat)) := ai_fr_tr hFx34_ (ai_fr_aI rfl)
        have hKx39_ : rcf c_.toNat S0_ (sm_aI (sm_aI (sm_aI (sm_aI S_ 234 0 (12 * c_ + i_).toNat (S_.2.2.1 185 0 (12 * (S_.1 13 0 106) + i_).toNat)) 235 0 (12 * c_ + i_).toNat (S_.2.2.1 186 0 (12 * (S_.1 13 0 106) + i_).toNat)) 236 0 (12 * c_ + i_).toNat (S_.2.2.1 187 0 (12 * (S_.1 13 0 106) + i_).toNat)) 237 0 (12 * c_ + i_).toNat (S_.2.2.1 188 0 (12 * (S_.1 13 0 106) + i_).toNat)) := rcf_aI hKx35_ (Or.inr (by rw [show rcs 237 = 12 from rfl]; omega))
        refine sm_T_inc (a := 2) (z := 1) (v := i_) (w := i_ + 1) rfl rfl (by omega) (by omega) (by omega) ?_ -- pc_ 285
        refine sm_T_go 1 (c1 := (179, [some (.inr (.inr (some (13, 0)))), some (.inl c_), some (.inl (i_ + 1)), none], [], sm_aI (sm_aI (sm_aI (sm_aI S_ 234 0 (12 * c_ + i_).toNat (S_.2.2.1 185 0 (12 * (S_.1 13 0 106) + i_).toNat)) 235 0 (12 * c_ + i_).toNat (S_.2.2.1 186 0 (12 * (S_.1 13 0 106) + i_).toNat)) 236 0 (12 * c_ + i_).toNat (S_.2.2.1 187 0 (12 * (S_.1 13 0 106) + i_).toNat)) 237 0 (12 * c_ + i_).toNat (S_.2.2.1 188 0 (12 * (S_.1 13 0 106) + i_).toNat))) rfl ?_
        refine ih_.2.2 (i_ + 1) (sm_aI (sm_aI (sm_aI (sm_aI S_ 234 0 (12 * c_ + i_).toNat (S_.2.2.1 185 0 (12 * (S_.1 13 0 106) + i_).toNat)) 235 0 (12 * c_ + i_).toNat (S_.2.2.1 186 0 (12 * (S_.1 13 0 106) + i_).toNat)) 236 0 (12 * c_ + i_).toNat (S_.2.2.1 187 0 (12 * (S_.1 13 0 106) + i_).toNat)) 237 0 (12 * c_ + i_).toNat (S_.2.2.1 188 0 (12 * (S_.1 13 0 106) + i_).toNat)) hIx37_ hFx38_ ⟨?_, ?_, ?_, ?_, ?_, ?_, ?_, ?_, ?_, ?_, trivial⟩ ?_
        · omega
        · (try simp only [rd_eq, rd_ne, rf_eq, rf_nk, rf_nt, rd_fa, rd_af, rd_fl, rd_al, rd_lf, rd_la, rd_leq, rd_lne, rd_fr, rd_ar, ne_eq, Nat.reduceEqDiff, not_false_eq_true])
          exact h1_
        · (try simp only [rd_eq, rd_ne, rf_eq, rf_nk, rf_nt, rd_fa, rd_af, rd_fl, rd_al, rd_lf, rd_la, rd_leq, rd_lne, rd_fr, rd_ar, ne_eq, Nat.reduceEqDiff, not_false_eq_true])
          exact hT_
        · ((repeat (refine rne_aI ?_ rfl)); first | exact hun_ | exact rne_rf)
        · (try simp only [rd_eq, rd_ne, rf_eq, rf_nk, rf_nt, rd_fa, rd_af, rd_fl, rd_al, rd_lf, rd_la, rd_leq, rd_lne, rd_fr, rd_ar, ne_eq, Nat.reduceEqDiff, not_false_eq_true])
          exact h5_
        · intro j9_ u0_ u1_
          (try simp only [rd_eq, rd_ne, rf_eq, rf_nk, rf_nt, rd_fa, rd_af, rd_fl, rd_al, rd_lf, rd_la, rd_leq, rd_lne, rd_fr, rd_ar, ne_eq, Nat.reduceEqDiff, not_false_eq_true])
          by_cases z9_ : j9_ = i_
          · rw [z9_, if_pos rfl, if_pos rfl, if_pos rfl, s106_]; exact ⟨congrFun f186_ _, congrFun f187_ _, congrFun f188_ _⟩
          · rw [if_neg (by omega), if_neg (by omega), if_neg (by omega)]; exact h6_ j9_ u0_ (by omega)
        · intro j9_ u0_ u1_
          (try simp only [rd_eq, rd_ne, rf_eq, rf_nk, rf_nt, rd_fa, rd_af, rd_fl, rd_al, rd_lf, rd_la, rd_leq, rd_lne, rd_fr, rd_ar, ne_eq, Nat.reduceEqDiff, not_false_eq_true])
          exact h2_ j9_ u0_ u1_
        · intro j9_ u0_ u1_
          (try simp only [rd_eq, rd_ne, rf_eq, rf_nk, rf_nt, rd_fa, rd_af, rd_fl, rd_al, rd_lf, rd_la, rd_leq, rd_lne, rd_fr, rd_ar, ne_eq, Nat.reduceEqDiff, not_false_eq_true])
          exact h3_ j9_ u0_ u1_
        · intro j9_ u0_ u1_
          (try simp only [rd_eq, rd_ne, rf_eq, rf_nk, rf_nt, rd_fa, rd_af, rd_fl, rd_al, rd_lf, rd_la, rd_leq, rd_lne, rd_fr, rd_ar, ne_eq, Nat.reduceEqDiff, not_false_eq_true])
          by_cases z9_ : j9_ = i_
          · rw [z9_, if_pos rfl, s106_]; exact congrFun f185_ _
          · rw [if_neg (by omega)]; exact h4_ j9_ u0_ (by omega)
        · exact hKx39_
        · omega
set_option maxHeartbeats 2000000 in
set_option maxRecDepth 20000 in
theorem vc_420f {sc_ : Nat × (Nat → Int)} (c_ : Int) (F_ : Int) (N_ : Int) (d_ : Int) (S0_ : sm_S) (hI_ : gi S0_) (hd_ : dmp F_ N_ d_ S0_) (hc_ : 0 ≤ c_ ∧ c_ ≤ 3) (hmd_ : mad F_ S0_) (hl_ : (S0_.1 13 0 134) = 0) (hg_ : 0 ≤ (S0_.1 13 0 129) ∧ (S0_.1 13 0 129) ≤ 150) (hlb_ : 0 ≤ (S0_.1 13 0 106) ∧ (S0_.1 13 0 106) ≤ 2) (ho_ : (∀ k_ : Int, 0 ≤ k_ → k_ < S0_.2.2.1 156 0 d_.toNat → S0_.2.2.1 231 0 (16 * c_ + k_).toNat < F_ - 1 + S0_.1 13 0 129) ∧ ∀ k_ : Int, 0 ≤ k_ → k_ < S0_.2.2.1 155 0 d_.toNat → S0_.2.2.1 232 0 (6 * c_ + k_).toNat < F_ - 1 + S0_.1 13 0 129) : sm_T (mt_P sc_) 1 420 (0, [some (.inr (.inr (some (13, 0)))), some (.inl c_), none, none], [], S0_) (fun ro9_ => ∃ u_ S1_, ro9_ = (.inl u_, S1_, 0) ∧ vq_420f c_ F_ N_ d_ S0_ u_ S1_) := by
  have hF_ : ai_fr (sx_W vw_420f) S0_ S0_ := ai_fr_rf
  have hK_ : rcf c_.toNat S0_ S0_ := rcf_rf
  have d1_ := hd_.1
  refine sm_T_go 4 (c1 := (6, [some (.inr (.inr (some (13, 0)))), some (.inl c_), none, none], [.inl 1, .inl c_, .inr (.inr (some (222, 0)))], S0_)) rfl ?_
  refine sm_T_zas1 (n := 4) rfl rfl (by omega) (by omega) (by omega) ?_
  have hIx1_ : gi (sm_aI S0_ 222 0 c_.toNat 1) := gi_aI hI_ (show 0 ≤ 1 ∧ 1 ≤ 1 from ⟨by omega, by omega⟩)
  have hFx2_ : ai_fr (sx_W vw_420f) S0_ (sm_aI S0_ 222 0 c_.toNat 1) := ai_fr_tr hF_ (ai_fr_aI rfl)
  have hKx3_ : rcf c_.toNat S0_ (sm_aI S0_ 222 0 c_.toNat 1) := rcf_aI hK_ (Or.inr (by rw [show rcs 222 = 1 from rfl]; omega))
  have bx4_ : 0 ≤ S0_.1 13 0 105 ∧ S0_.1 13 0 105 ≤ 5 := hI_.1 13 0 105 rfl
  refine sm_T_go 7 (c1 := (20, [some (.inr (.inr (some (13, 0)))), some (.inl c_), none, none], [.inl (S0_.1 13 0 105), .inr (.inr (some (154, 0))), .inl c_, .inr (.inr (some (223, 0)))], sm_aI S0_ 222 0 c_.toNat 1)) rfl ?_
  refine sm_T_iald (n := 6) rfl rfl (by omega) (by omega) ?_
  have bx5_ : 0 ≤ S0_.2.2.1 154 0 (S0_.1 13 0 105).toNat ∧ S0_.2.2.1 154 0 (S0_.1 13 0 105).toNat ≤ 12 := hI_.2 154 0 _
  refine sm_T_go 0 (c1 := (21, [some (.inr (.inr (some (13, 0)))), some (.inl c_), none, none], [.inl (S0_.2.2.1 154 0 (S0_.1 13 0 105).toNat), .inl c_, .inr (.inr (some (223, 0)))], sm_aI S0_ 222 0 c_.toNat 1)) rfl ?_
  refine sm_T_iast (n := 4) rfl rfl (by omega) (by omega) ?_
  have hIx6_ : gi (sm_aI (sm_aI S0_ 222 0 c_.toNat 1) 223 0 c_.toNat (S0_.2.2.1 154 0 (S0_.1 13 0 105).toNat)) := gi_aI hIx1_ (show 0 ≤ (S0_.2.2.1 154 0 (S0_.1 13 0 105).toNat) ∧ (S0_.2.2.1 154 0 (S0_.1 13 0 105).toNat) ≤ 12 from ⟨by omega, by omega⟩)
  have hFx7_ : ai_fr (sx_W vw_420f) S0_ (sm_aI (sm_aI S0_ 222 0 c_.toNat 1) 223 0 c_.toNat (S0_.2.2.1 154 0 (S0_.1 13 0 105).toNat)) := ai_fr_tr hFx2_ (ai_fr_aI rfl)
  have hKx8_ : rcf c_.toNat S0_ (sm_aI (sm_aI S0_ 222 0 c_.toNat 1) 223 0 c_.toNat (S0_.2.2.1 154 0 (S0_.1 13 0 105).toNat)) := rcf_aI hKx3_ (Or.inr (by rw [show rcs 223 = 1 from rfl]; omega))
  refine sm_T_go 7 (c1 := (35, [some (.inr (.inr (some (13, 0)))), some (.inl c_), none, none], [.inl (S0_.1 13 0 105), .inr (.inr (some (155, 0))), .inl c_, .inr (.inr (some (224, 0)))], sm_aI (sm_aI S0_ 222 0 c_.toNat 1) 223 0 c_.toNat (S0_.2.2.1 154 0 (S0_.1 13 0 105).toNat))) rfl ?_
  refine sm_T_iald (n := 6) rfl rfl (by omega) (by omega) ?_
  have bx9_ : 0 ≤ S0_.2.2.1 155 0 (S0_.1 13 0 105).toNat ∧ S0_.2.2.1 155 0 (S0_.1 13 0 105).toNat ≤ 6 := hI_.2 155 0 _
  refine sm_T_go 0 (c1 := (36, [some (.inr (.inr (some (13, 0)))), some (.inl c_), none, none], [.inl (S0_.2.2.1 155 0 (S0_.1 13 0 105).toNat), .inl c_, .inr (.inr (some (224, 0)))], sm_aI (sm_aI S0_ 222 0 c_.toNat 1) 223 0 c_.toNat (S0_.2.2.1 154 0 (S0_.1 13 0 105).toNat))) rfl ?_
  refine sm_T_iast (n := 4) rfl rfl (by omega) (by omega) ?_
  have hIx10_ : gi (sm_aI (sm_aI (sm_aI S0_ 222 0 c_.toNat 1) 223 0 c_.toNat (S0_.2.2.1 154 0 (S0_.1 13 0 105).toNat)) 224 0 c_.toNat (S0_.2.2.1 155 0 (S0_.1 13 0 105).toNat)) := gi_aI hIx6_ (show 0 ≤ (S0_.2.2.1 155 0 (S0_.1 13 0 105).toNat) ∧ (S0_.2.2.1 155 0 (S0_.1 13 0 105).toNat) ≤ 6 from ⟨by omega, by omega⟩)
  have hFx11_ : ai_fr (sx_W vw_420f) S0_ (sm_aI (sm_aI (sm_aI S0_ 222 0 c_.toNat 1) 223 0 c_.toNat (S0_.2.2.1 154 0 (S0_.1 13 0 105).toNat)) 224 0 c_.toNat (S0_.2.2.1 155 0 (S0_.1 13 0 105).toNat)) := ai_fr_tr hFx7_ (ai_fr_aI rfl)
  have hKx12_ : rcf c_.toNat S0_ (sm_aI (sm_aI (sm_aI S0_ 222 0 c_.toNat 1) 223 0 c_.toNat (S0_.2.2.1 154 0 (S0_.1 13 0 105).toNat)) 224 0 c_.toNat (S0_.2.2.1 155 0 (S0_.1 13 0 105).toNat)) := rcf_aI hKx8_ (Or.inr (by rw [show rcs 224 = 1 from rfl]; omega))
  refine sm_T_go 7 (c1 := (50, [some (.inr (.inr (some (13, 0)))), some (.inl c_), none, none], [.inl (S0_.1 13 0 105), .inr (.inr (some (156, 0))), .inl c_, .inr (.inr (some (225, 0)))], sm_aI (sm_aI (sm_aI S0_ 222 0 c_.toNat 1) 223 0 c_.toNat (S0_.2.2.1 154 0 (S0_.1 13 0 105).toNat)) 224 0 c_.toNat (S0_.2.2.1 155 0 (S0_.1 13 0 105).toNat))) rfl ?_
  refine sm_T_iald (n := 6) rfl rfl (by omega) (by omega) ?_
  have bx13_ : 0 ≤ S0_.2.2.1 156 0 (S0_.1 13 0 105).toNat ∧ S0_.2.2.1 156 0 (S0_.1 13 0 105).toNat ≤ 16 := hI_.2 156 0 _
  refine sm_T_go 0 (c1 := (51, [some (.inr (.inr (some (13, 0)))), some (.inl c_), none, none], [.inl (S0_.2.2.1 156 0 (S0_.1 13 0 105).toNat), .inl c_, .inr (.inr (some (225, 0)))], sm_aI (sm_aI (sm_aI S0_ 222 0 c_.toNat 1) 223 0 c_.toNat (S0_.2.2.1 154 0 (S0_.1 13 0 105).toNat)) 224 0 c_.toNat (S0_.2.2.1 155 0 (S0_.1 13 0 105).toNat))) rfl ?_
  refine sm_T_iast (n := 4) rfl rfl (by omega) (by omega) ?_
  have hIx14_ : gi (sm_aI (sm_aI (sm_aI (sm_aI S0_ 222 0 c_.toNat 1) 223 0 c_.toNat (S0_.2.2.1 154 0 (S0_.1 13 0 105).toNat)) 224 0 c_.toNat (S0_.2.2.1 155 0 (S0_.1 13 0 105).toNat)) 225 0 c_.toNat (S0_.2.2.1 156 0 (S0_.1 13 0 105).toNat)) := gi_aI hIx10_ (show 0 ≤ (S0_.2.2.1 156 0 (S0_.1 13 0 105).toNat) ∧ (S0_.2.2.1 156 0 (S0_.1 13 0 105).toNat) ≤ 16 from ⟨by omega, by omega⟩)
  have hFx15_ : ai_fr (sx_W vw_420f) S0_ (sm_aI (sm_aI (sm_aI (sm_aI S0_ 222 0 c_.toNat 1) 223 0 c_.toNat (S0_.2.2.1 154 0 (S0_.1 13 0 105).toNat)) 224 0 c_.toNat (S0_.2.2.1 155 0 (S0_.1 13 0 105).toNat)) 225 0 c_.toNat (S0_.2.2.1 156 0 (S0_.1 13 0 105).toNat)) := ai_fr_tr hFx11_ (ai_fr_aI rfl)
  have hKx16_ : rcf c_.toNat S0_ (sm_aI (sm_aI (sm_aI (sm_aI S0_ 222 0 c_.toNat 1) 223 0 c_.toNat (S0_.2.2.1 154 0 (S0_.1 13 0 105).toNat)) 224 0 c_.toNat (S0_.2.2.1 155 0 (S0_.1 13 0 105).toNat)) 225 0 c_.toNat (S0_.2.2.1 156 0 (S0_.1 13 0 105).toNat)) := rcf_aI hKx12_ (Or.inr (by rw [show rcs 225 = 1 from rfl]; omega))
  refine sm_T_go 7 (c1 := (65, [some (.inr (.inr (some (13, 0)))), some (.inl c_), none, none], [.inl (S0_.1 13 0 105), .inr (.inr (some (157, 0))), .inl c_, .inr (.inr (some (226, 0)))], sm_aI (sm_aI (sm_aI (sm_aI S0_ 222 0 c_.toNat 1) 223 0 c_.toNat (S0_.2.2.1 154 0 (S0_.1 13 0 105).toNat)) 224 0 c_.toNat (S0_.2.2.1 155 0 (S0_.1 13 0 105).toNat)) 225 0 c_.toNat (S0_.2.2.1 156 0 (S0_.1 13 0 105).toNat))) rfl ?_
  refine sm_T_iald (n := 6) rfl rfl (by omega) (by omega) ?_
  have bx17_ : 0 ≤ S0_.2.2.1 157 0 (S0_.1 13 0 105).toNat ∧ S0_.2.2.1 157 0 (S0_.1 13 0 105).toNat ≤ 63 := hI_.2 157 0 _
  refine sm_T_go 0 (c1 := (66, [some (.inr (.inr (some (13, 0)))), some (.inl c_), none, none], [.inl (S0_.2.2.1 157 0 (S0_.1 13 0 105).toNat), .inl c_, .inr (.inr (some (226, 0)))], sm_aI (sm_aI (sm_aI (sm_aI S0_ 222 0 c_.toNat 1) 223 0 c_.toNat (S0_.2.2.1 154 0 (S0_.1 13 0 105).toNat)) 224 0 c_.toNat (S0_.2.2.1 155 0 (S0_.1 13 0 105).toNat)) 225 0 c_.toNat (S0_.2.2.1 156 0 (S0_.1 13 0 105).toNat))) rfl ?_
  refine sm_T_iast (n := 4) rfl rfl (by omega) (by omega) ?_
  have hIx18_ : gi (sm_aI (sm_aI (sm_aI (sm_aI (sm_aI S0_ 222 0 c_.toNat 1) 223 0 c_.toNat (S0_.2.2.1 154 0 (S0_.1 13 0 105).toNat)) 224 0 c_.toNat (S0_.2.2.1 155 0 (S0_.1 13 0 105).toNat)) 225 0 c_.toNat (S0_.2.2.1 156 0 (S0_.1 13 0 105).toNat)) 226 0 c_.toNat (S0_.2.2.1 157 0 (S0_.1 13 0 105).toNat)) := gi_aI hIx14_ (show 0 ≤ (S0_.2.2.1 157 0 (S0_.1 13 0 105).toNat) ∧ (S0_.2.2.1 157 0 (S0_.1 13 0 105).toNat) ≤ 63 from ⟨by omega, by omega⟩)
  have hFx19_ : ai_fr (sx_W vw_420f) S0_ (sm_aI (sm_aI (sm_aI (sm_aI (sm_aI S0_ 222 0 c_.toNat 1) 223 0 c_.toNat (S0_.2.2.1 154 0 (S0_.1 13 0 105).toNat)) 224 0 c_.toNat (S0_.2.2.1 155 0 (S0_.1 13 0 105).toNat)) 225 0 c_.toNat (S0_.2.2.1 156 0 (S0_.1 13 0 105).toNat)) 226 0 c_.toNat (S0_.2.2.1 157 0 (S0_.1 13 0 105).toNat)) := ai_fr_tr hFx15_ (ai_fr_aI rfl)
  have hKx20_ : rcf c_.toNat S0_ (sm_aI (sm_aI (sm_aI (sm_aI (sm_aI S0_ 222 0 c_.toNat 1) 223 0 c_.toNat (S0_.2.2.1 154 0 (S0_.1 13 0 105).toNat)) 224 0 c_.toNat (S0_.2.2.1 155 0 (S0_.1 13 0 105).toNat)) 225 0 c_.toNat (S0_.2.2.1 156 0 (S0_.1 13 0 105).toNat)) 226 0 c_.toNat (S0_.2.2.1 157 0 (S0_.1 13 0 105).toNat)) := rcf_aI hKx16_ (Or.inr (by rw [show rcs 226 = 1 from rfl]; omega))
  refine sm_T_go 6 (c1 := (77, [some (.inr (.inr (some (13, 0)))), some (.inl c_), none, none], [.inl c_, .inr (.inr (some (226, 0))), .inl c_, .inr (.inr (some (227, 0)))], sm_aI (sm_aI (sm_aI (sm_aI (sm_aI S0_ 222 0 c_.toNat 1) 223 0 c_.toNat (S0_.2.2.1 154 0 (S0_.1 13 0 105).toNat)) 224 0 c_.toNat (S0_.2.2.1 155 0 (S0_.1 13 0 105).toNat)) 225 0 c_.toNat (S0_.2.2.1 156 0 (S0_.1 13 0 105).toNat)) 226 0 c_.toNat (S0_.2.2.1 157 0 (S0_.1 13 0 105).toNat))) rfl ?_
  refine sm_T_iald (n := 4) rfl rfl (by omega) (by omega) ?_
  have bx21_ : 0 ≤ (sm_aI (sm_aI (sm_aI (sm_aI (sm_aI S0_ 222 0 c_.toNat 1) 223 0 c_.toNat (S0_.2.2.1 154 0 (S0_.1 13 0 105).toNat)) 224 0 c_.toNat (S0_.2.2.1 155 0 (S0_.1 13 0 105).toNat)) 225 0 c_.toNat (S0_.2.2.1 156 0 (S0_.1 13 0 105).toNat)) 226 0 c_.toNat (S0_.2.2.1 157 0 (S0_.1 13 0 105).toNat)).2.2.1 226 0 c_.toNat ∧ (sm_aI (sm_aI (sm_aI (sm_aI (sm_aI S0_ 222 0 c_.toNat 1) 223 0 c_.toNat (S0_.2.2.1 154 0 (S0_.1 13 0 105).toNat)) 224 0 c_.toNat (S0_.2.2.1 155 0 (S0_.1 13 0 105).toNat)) 225 0 c_.toNat (S0_.2.2.1 156 0 (S0_.1 13 0 105).toNat)) 226 0 c_.toNat (S0_.2.2.1 157 0 (S0_.1 13 0 105).toNat)).2.2.1 226 0 c_.toNat ≤ 63 := hIx18_.2 226 0 _
  refine sm_T_go 0 (c1 := (78, [some (.inr (.inr (some (13, 0)))), some (.inl c_), none, none], [.inl ((sm_aI (sm_aI (sm_aI (sm_aI (sm_aI S0_ 222 0 c_.toNat 1) 223 0 c_.toNat (S0_.2.2.1 154 0 (S0_.1 13 0 105).toNat)) 224 0 c_.toNat (S0_.2.2.1 155 0 (S0_.1 13 0 105).toNat)) 225 0 c_.toNat (S0_.2.2.1 156 0 (S0_.1 13 0 105).toNat)) 226 0 c_.toNat (S0_.2.2.1 157 0 (S0_.1 13 0 105).toNat)).2.2.1 226 0 c_.toNat), .inl c_, .inr (.inr (some (227, 0)))], sm_aI (sm_aI (sm_aI (sm_aI (sm_aI S0_ 222 0 c_.toNat 1) 223 0 c_.toNat (S0_.2.2.1 154 0 (S0_.1 13 0 105).toNat)) 224 0 c_.toNat (S0_.2.2.1 155 0 (S0_.1 13 0 105).toNat)) 225 0 c_.toNat (S0_.2.2.1 156 0 (S0_.1 13 0 105).toNat)) 226 0 c_.toNat (S0_.2.2.1 157 0 (S0_.1 13 0 105).toNat))) rfl ?_
  refine sm_T_iast (n := 4) rfl rfl (by omega) (by omega) ?_
  have hIx22_ : gi (sm_aI (sm_aI (sm_aI (sm_aI (sm_aI (sm_aI S0_ 222 0 c_.toNat 1) 223 0 c_.toNat (S0_.2.2.1 154 0 (S0_.1 13 0 105).toNat)) 224 0 c_.toNat (S0_.2.2.1 155 0 (S0_.1 13 0 105).toNat)) 225 0 c_.toNat (S0_.2.2.1 156 0 (S0_.1 13 0 105).toNat)) 226 0 c_.toNat (S0_.2.2.1 157 0 (S0_.1 13 0 105).toNat)) 227 0 c_.toNat ((sm_aI (sm_aI (sm_aI (sm_aI (sm_aI S0_ 222 0 c_.toNat 1) 223 0 c_.toNat (S0_.2.2.1 154 0 (S0_.1 13 0 105).toNat)) 224 0 c_.toNat (S0_.2.2.1 155 0 (S0_.1 13 0 105).toNat)) 225 0 c_.toNat (S0_.2.2.1 156 0 (S0_.1 13 0 105).toNat)) 226 0 c_.toNat (S0_.2.2.1 157 0 (S0_.1 13 0 105).toNat)).2.2.1 226 0 c_.toNat)) := gi_aI hIx18_ (show 0 ≤ ((sm_aI (sm_aI (sm_aI (sm_aI (sm_aI S0_ 222 0 c_.toNat 1) 223 0 c_.toNat (S0_.2.2.1 154 0 (S0_.1 13 0 105).toNat)) 224 0 c_.toNat (S0_.2.2.1 155 0 (S0_.1 13 0 105).toNat)) 225 0 c_.toNat (S0_.2.2.1 156 0 (S0_.1 13 0 105).toNat)) 226 0 c_.toNat (S0_.2.2.1 157 0 (S0_.1 13 0 105).toNat)).2.2.1 226 0 c_.toNat) ∧ ((sm_aI (sm_aI (sm_aI (sm_aI (sm_aI S0_ 222 0 c_.toNat 1) 223 0 c_.toNat (S0_.2.2.1 154 0 (S0_.1 13 0 105).toNat)) 224 0 c_.toNat (S0_.2.2.1 155 0 (S0_.1 13 0 105).toNat)) 225 0 c_.toNat (S0_.2.2.1 156 0 (S0_.1 13 0 105).toNat)) 226 0 c_.toNat (S0_.2.2.1 157 0 (S0_.1 13 0 105).toNat)).2.2.1 226 0 c_.toNat) ≤ 63 from ⟨by omega, by omega⟩)
  have hFx23_ : ai_fr (sx_W vw_420f) S0_ (sm_aI (sm_aI (sm_aI (sm_aI (sm_aI (sm_aI S0_ 222 0 c_.toNat 1) 223 0 c_.toNat (S0_.2.2.1 154 0 (S0_.1 13 0 105).toNat)) 224 0 c_.toNat (S0_.2.2.1 155 0 (S0_.1 13 0 105).toNat)) 225 0 c_.toNat (S0_.2.2.1 156 0 (S0_.1 13 0 105).toNat)) 226 0 c_.toNat (S0_.2.2.1 157 0 (S0_.1 13 0 105).toNat)) 227 0 c_.toNat ((sm_aI (sm_aI (sm_aI (sm_aI (sm_aI S0_ 222 0 c_.toNat 1) 223 0 c_.toNat (S0_.2.2.1 154 0 (S0_.1 13 0 105).toNat)) 224 0 c_.toNat (S0_.2.2.1 155 0 (S0_.1 13 0 105).toNat)) 225 0 c_.toNat (S0_.2.2.1 156 0 (S0_.1 13 0 105).toNat)) 226 0 c_.toNat (S0_.2.2.1 157 0 (S0_.1 13 0 105).toNat)).2.2.1 226 0 c_.toNat)) := ai_fr_tr hFx19_ (ai_fr_aI rfl)
  have hKx24_ : rcf c_.toNat S0_ (sm_aI (sm_aI (sm_aI (sm_aI (sm_aI (sm_aI S0_ 222 0 c_.toNat 1) 223 0 c_.toNat (S0_.2.2.1 154 0 (S0_.1 13 0 105).toNat)) 224 0 c_.toNat (S0_.2.2.1 155 0 (S0_.1 13 0 105).toNat)) 225 0 c_.toNat (S0_.2.2.1 156 0 (S0_.1 13 0 105).toNat)) 226 0 c_.toNat (S0_.2.2.1 157 0 (S0_.1 13 0 105).toNat)) 227 0 c_.toNat ((sm_aI (sm_aI (sm_aI (sm_aI (sm_aI S0_ 222 0 c_.toNat 1) 223 0 c_.toNat (S0_.2.2.1 154 0 (S0_.1 13 0 105).toNat)) 224 0 c_.toNat (S0_.2.2.1 155 0 (S0_.1 13 0 105).toNat)) 225 0 c_.toNat (S0_.2.2.1 156 0 (S0_.1 13 0 105).toNat)) 226 0 c_.toNat (S0_.2.2.1 157 0 (S0_.1 13 0 105).toNat)).2.2.1 226 0 c_.toNat)) := rcf_aI hKx20_ (Or.inr (by rw [show rcs 227 = 1 from rfl]; omega))
  have bx25_ : 0 ≤ S0_.1 13 0 129 ∧ S0_.1 13 0 129 ≤ 8191 := hI_.1 13 0 129 rfl
  refine sm_T_go 5 (c1 := (88, [some (.inr (.inr (some (13, 0)))), some (.inl c_), none, none], [.inl (S0_.1 13 0 129), .inl c_, .inr (.inr (some (228, 0)))], sm_aI (sm_aI (sm_aI (sm_aI (sm_aI (sm_aI S0_ 222 0 c_.toNat 1) 223 0 c_.toNat (S0_.2.2.1 154 0 (S0_.1 13 0 105).toNat)) 224 0 c_.toNat (S0_.2.2.1 155 0 (S0_.1 13 0 105).toNat)) 225 0 c_.toNat (S0_.2.2.1 156 0 (S0_.1 13 0 105).toNat)) 226 0 c_.toNat (S0_.2.2.1 157 0 (S0_.1 13 0 105).toNat)) 227 0 c_.toNat ((sm_aI (sm_aI (sm_aI (sm_aI (sm_aI S0_ 222 0 c_.toNat 1) 223 0 c_.toNat (S0_.2.2.1 154 0 (S0_.1 13 0 105).toNat)) 224 0 c_.toNat (S0_.2.2.1 155 0 (S0_.1 13 0 105).toNat)) 225 0 c_.toNat (S0_.2.2.1 156 0 (S0_.1 13 0 105).toNat)) 226 0 c_.toNat (S0_.2.2.1 157 0 (S0_.1 13 0 105).toNat)).2.2.1 226 0 c_.toNat))) rfl ?_
  refine sm_T_iast (n := 4) rfl rfl (by omega) (by omega) ?_
  have hIx26_ : gi (sm_aI (sm_aI (sm_aI (sm_aI (sm_aI (sm_aI (sm_aI S0_ 222 0 c_.toNat 1) 223 0 c_.toNat (S0_.2.2.1 154 0 (S0_.1 13 0 105).toNat)) 224 0 c_.toNat (S0_.2.2.1 155 0 (S0_.1 13 0 105).toNat)) 225 0 c_.toNat (S0_.2.2.1 156 0 (S0_.1 13 0 105).toNat)) 226 0 c_.toNat (S0_.2.2.1 157 0 (S0_.1 13 0 105).toNat)) 227 0 c_.toNat ((sm_aI (sm_aI (sm_aI (sm_aI (sm_aI S0_ 222 0 c_.toNat 1) 223 0 c_.toNat (S0_.2.2.1 154 0 (S0_.1 13 0 105).toNat)) 224 0 c_.toNat (S0_.2.2.1 155 0 (S0_.1 13 0 105).toNat)) 225 0 c_.toNat (S0_.2.2.1 156 0 (S0_.1 13 0 105).toNat)) 226 0 c_.toNat (S0_.2.2.1 157 0 (S0_.1 13 0 105).toNat)).2.2.1 226 0 c_.toNat)) 228 0 c_.toNat (S0_.1 13 0 129)) := gi_aI hIx22_ (show 0 ≤ (S0_.1 13 0 129) ∧ (S0_.1 13 0 129) ≤ 150 from ⟨by omega, by omega⟩)
  have hFx27_ : ai_fr (sx_W vw_420f) S0_ (sm_aI (sm_aI (sm_aI (sm_aI (sm_aI (sm_aI (sm_aI S0_ 222 0 c_.toNat 1) 223 0 c_.toNat (S0_.2.2.1 154 0 (S0_.1 13 0 105).toNat)) 224 0 c_.toNat (S0_.2.2.1 155 0 (S0_.1 13 0 105).toNat)) 225 0 c_.toNat (S0_.2.2.1 156 0 (S0_.1 13 0 105).toNat)) 226 0 c_.toNat (S0_.2.2.1 157 0 (S0_.1 13 0 105).toNat)) 227 0 c_.toNat ((sm_aI (sm_aI (sm_aI (sm_aI (sm_aI S0_ 222 0 c_.toNat 1) 223 0 c_.toNat (S0_.2.2.1 154 0 (S0_.1 13 0 105).toNat)) 224 0 c_.toNat (S0_.2.2.1 155 0 (S0_.1 13 0 105).toNat)) 225 0 c_.toNat (S0_.2.2.1 156 0 (S0_.1 13 0 105).toNat)) 226 0 c_.toNat (S0_.2.2.1 157 0 (S0_.1 13 0 105).toNat)).2.2.1 226 0 c_.toNat)) 228 0 c_.toNat (S0_.1 13 0 129)) := ai_fr_tr hFx23_ (ai_fr_aI rfl)
  have hKx28_ : rcf c_.toNat S0_ (sm_aI (sm_aI (sm_aI (sm_aI (sm_aI (sm_aI (sm_aI S0_ 222 0 c_.toNat 1) 223 0 c_.toNat (S0_.2.2.1 154 0 (S0_.1 13 0 105).toNat)) 224 0 c_.toNat (S0_.2.2.1 155 0 (S0_.1 13 0 105).toNat)) 225 0 c_.toNat (S0_.2.2.1 156 0 (S0_.1 13 0 105).toNat)) 226 0 c_.toNat (S0_.2.2.1 157 0 (S0_.1 13 0 105).toNat)) 227 0 c_.toNat ((sm_aI (sm_aI (sm_aI (sm_aI (sm_aI S0_ 222 0 c_.toNat 1) 223 0 c_.toNat (S0_.2.2.1 154 0 (S0_.1 13 0 105).toNat)) 224 0 c_.toNat (S0_.2.2.1 155 0 (S0_.1 13 0 105).toNat)) 225 0 c_.toNat (S0_.2.2.1 156 0 (S0_.1 13 0 105).toNat)) 226 0 c_.toNat (S0_.2.2.1 157 0 (S0_.1 13 0 105).toNat)).2.2.1 226 0 c_.toNat)) 228 0 c_.toNat (S0_.1 13 0 129)) := rcf_aI hKx24_ (Or.inr (by rw [show rcs 228 = 1 from rfl]; omega))
  refine sm_T_go 2 (c1 := (91, [some (.inr (.inr (some (13, 0)))), some (.inl c_), some (.inl 0), none], [], sm_aI (sm_aI (sm_aI (sm_aI (sm_aI (sm_aI (sm_aI S0_ 222 0 c_.toNat 1) 223 0 c_.toNat (S0_.2.2.1 154 0 (S0_.1 13 0 105).toNat)) 224 0 c_.toNat (S0_.2.2.1 155 0 (S0_.1 13 0 105).toNat)) 225 0 c_.toNat (S0_.2.2.1 156 0 (S0_.1 13 0 105).toNat)) 226 0 c_.toNat (S0_.2.2.1 157 0 (S0_.1 13 0 105).toNat)) 227 0 c_.toNat ((sm_aI (sm_aI (sm_aI (sm_aI (sm_aI S0_ 222 0 c_.toNat 1) 223 0 c_.toNat (S0_.2.2.1 154 0 (S0_.1 13 0 105).toNat)) 224 0 c_.toNat (S0_.2.2.1 155 0 (S0_.1 13 0 105).toNat)) 225 0 c_.toNat (S0_.2.2.1 156 0 (S0_.1 13 0 105).toNat)) 226 0 c_.toNat (S0_.2.2.1 157 0 (S0_.1 13 0 105).toNat)).2.2.1 226 0 c_.toNat)) 228 0 c_.toNat (S0_.1 13 0 129))) rfl ?_
  refine (vl_420f c_ F_ N_ d_ S0_ hd_ hc_ hmd_ hl_ hg_ hlb_ ho_ _).1 0 (sm_aI (sm_aI (sm_aI (sm_aI (sm_aI (sm_aI (sm_aI S0_ 222 0 c_.toNat 1) 223 0 c_.toNat (S0_.2.2.1 154 0 (S0_.1 13 0 105).toNat)) 224 0 c_.toNat (S0_.2.2.1 155 0 (S0_.1 13 0 105).toNat)) 225 0 c_.toNat (S0_.2.2.1 156 0 (S0_.1 13 0 105).toNat)) 226 0 c_.toNat (S0_.2.2.1 157 0 (S0_.1 13 0 105).toNat)) 227 0 c_.toNat ((sm_aI (sm_aI (sm_aI (sm_aI (sm_aI S0_ 222 0 c_.toNat 1) 223 0 c_.toNat (S0_.2.2.1 154 0 (S0_.1 13 0 105).toNat)) 224 0 c_.toNat (S0_.2.2.1 155 0 (S0_.1 13 0 105).toNat)) 225 0 c_.toNat (S0_.2.2.1 156 0 (S0_.1 13 0 105).toNat)) 226 0 c_.toNat (S0_.2.2.1 157 0 (S0_.1 13 0 105).toNat)).2.2.1 226 0 c_.toNat)) 228 0 c_.toNat (S0_.1 13 0 129)) hIx26_ hFx27_ ⟨?_, ?_, ?_, ?_, ?_, ?_, ?_, trivial⟩ (Nat.lt_succ_self _)
  · omega
  · (try simp only [rd_eq, rd_ne, rf_eq, rf_nk, rf_nt, rd_fa, rd_af, rd_fl, rd_al, rd_lf, rd_la, rd_leq, rd_lne, rd_fr, rd_ar, ne_eq, Nat.reduceEqDiff, not_false_eq_true])
    rw [d1_.2.2.1]
    exact ⟨rfl, rfl, rfl, rfl, rfl, rfl⟩
  · (try simp only [rd_eq, rd_ne, rf_eq, rf_nk, rf_nt, rd_fa, rd_af, rd_fl, rd_al, rd_lf, rd_la, rd_leq, rd_lne, rd_fr, rd_ar, ne_eq, Nat.reduceEqDiff, not_false_eq_true])
    first | rfl | exact if_pos trivial | exact if_pos rfl
  · ((repeat (refine rne_aI ?_ rfl)); first | exact hun_ | exact rne_rf)
  · (intro j9_ u0_ u1_; exfalso; omega)
  · (intro j9_ u0_ u1_; exfalso; omega)
  · exact hKx28_
/-! M_.map -/
def vw_419f : sx_Wl := ([(13, 0), (13, 105), (13, 106), (13, 107), (13, 108), (13, 114), (13, 123), (13, 127), (13, 129), (13, 134), (13, 137)], [199, 200, 201, 202, 203, 204, 205, 206, 207, 208, 209, 210, 211, 212, 213, 214, 215, 216, 217, 218, 219, 220, 221, 222, 223, 224, 225, 226, 227, 228, 229, 230, 231, 232, 233, 234, 235, 236, 237, 240, 251, 263, 272, 289, 294], [])
def vq_419f (a1_ : Int) (a2_ : Int) (F_ : Int) (N_ : Int) (S0_ : sm_S) (u_ : Option sm_V) (S1_ : sm_S) : Prop := ∃ v_ : Int, u_ = some (.inl v_) ∧ gi S1_ ∧ ai_fr (sx_W vw_419f) S0_ S1_ ∧ ((-2147483648 ≤ v_ ∧ v_ ≤ 2147483647) ∧ jR S1_ ∧ ((0 ≤ S1_.1 13 0 127 ∧ S1_.1 13 0 127 ≤ S0_.1 13 0 127 + 65000) ∧ ∀ x_ : Nat, -(S1_.1 13 0 127) ≤ S1_.2.2.1 213 0 x_ ∧ S1_.2.2.1 213 0 x_ ≤ S1_.1 13 0 127) ∧ ((S1_.1 13 0 0 = 1 ∧ S1_.2.2.1 = S0_.2.2.1 ∧ ¬ ora_map a1_ a2_ S0_) ∨ (S1_.1 13 0 0 = 2 ∧ S1_.2.2.1 = S0_.2.2.1 ∧ ora_map a1_ a2_ S0_ ∧ ¬ ∃ c_ : Int, frr c_ S0_) ∨ (S1_.1 13 0 0 = 0 ∧ ∃ c_ : Int, (ora_map a1_ a2_ S0_ ∧ frr c_ S0_) ∧ ((v_ = c_ ∧ rnw9 c_ S0_ S1_) ∨ (v_ ≠ c_ ∧ rne9 S0_ S1_)) ∧ mpr F_ N_ a1_ a2_ c_ S0_ S1_ v_)))
set_option maxHeartbeats 4000000 in
set_option maxRecDepth 20000 in
theorem vl_419f {sc_ : Nat × (Nat → Int)} (a1_ : Int) (a2_ : Int) (F_ : Int) (N_ : Int) (S0_ : sm_S) (ha1_ : (-2147483648) ≤ a1_ ∧ a1_ ≤ 2147483647) (ha2_ : (-2147483648) ≤ a2_ ∧ a2_ ≤ 2147483647) (hJ_ : jR S0_) (hF0_ : F_ = S0_.2.2.1 160 0 a1_.toNat) (hN0_ : N_ = S0_.2.2.1 159 0 a1_.toNat) (hsw : imq (0 ≤ a1_ ∧ a1_ < 6 ∧ S0_.2.2.1 153 0 a1_.toNat = 1) (swd F_.toNat N_.toNat (mql a1_ S0_) (mqh a1_ S0_) (mqs a1_ S0_))) (hrd0_ : 0 ≤ S0_.1 13 0 127 ∧ S0_.1 13 0 127 ≤ 1999900000) (hmb0_ : ∀ x_ : Nat, -(S0_.1 13 0 127) ≤ S0_.2.2.1 213 0 x_ ∧ S0_.2.2.1 213 0 x_ ≤ S0_.1 13 0 127) : ∀ nn_ : Nat, (∀ (c_ : Int) (gd_ : Int) (i_ : Int) (S_ : sm_S), gi S_ → ai_fr (sx_W vw_419f) S0_ S_ → ((0 ≤ a1_ ∧ a1_ ≤ 5 ∧ 0 ≤ a2_ ∧ a2_ ≤ 2 ∧ 0 ≤ c_ ∧ c_ ≤ 3 ∧ (gd_ = 0 ∨ gd_ = 1) ∧ F_ ≤ i_ ∧ i_ ≤ N_) ∧ (dmp F_ N_ a1_ S_) ∧ (S_.1 13 0 106 = a2_) ∧ (rtd F_ a1_ (S_.2.2.1 156 0 a1_.toNat) (S_.2.2.1 155 0 a1_.toNat) S_) ∧ (S_.1 13 0 107 = -1 ∨ S_.2.2.1 185 0 (12 * S_.1 13 0 106 + S_.1 13 0 107).toNat = 1) ∧ (rcf c_.toNat S0_ S_) ∧ (S_.2.2.1 222 0 c_.toNat = 0) ∧ (rcm F_ N_ a1_ S_) ∧ (S_.1 13 0 0 = 0) ∧ (S_.1 13 0 107 = rfv S_.2.2.1 a2_ (S_.2.2.1 184 0 a2_.toNat).toNat ∧ S_.1 13 0 108 = if S_.1 13 0 107 = -1 then 1000000000 else S_.2.2.1 187 0 (12 * a2_ + S_.1 13 0 107).toNat) ∧ (ora_map a1_ a2_ S0_ ∧ frr c_ S0_) ∧ (rne9 S0_ S_) ∧ (lgn F_ N_ S_) ∧ (∀ n9_ : Int, F_ ≤ n9_ → n9_ < i_ → S_.2.2.1 202 0 n9_.toNat = 1 → wok2 F_ n9_ S_) ∧ (gd_ = 1 → ∀ n9_ : Int, F_ ≤ n9_ → n9_ < i_ → S_.2.2.1 202 0 n9_.toNat = 1 → S_.2.2.1 203 0 n9_.toNat = 1 → S_.2.2.1 210 0 (2 * n9_).toNat < 1000000000) ∧ (∀ j9_ : Int, 2 * F_ ≤ j9_ → j9_ < 2 * i_ → S_.2.2.1 218 0 j9_.toNat = -1) ∧ (∀ x_ : Nat, rtn F_ N_ S_ x_ → (x_ : Int) < i_ → rnw F_ (rtn F_ N_ S_) S_ x_) ∧ (imq (gd_ = 0) (∃ x_ : Nat, rtn F_ N_ S_ x_ ∧ (x_ : Int) < i_ ∧ S_.2.2.1 203 0 x_ = 1 ∧ 1000000000 ≤ S_.2.2.1 210 0 (2 * x_))) ∧ ((0 ≤ S_.1 13 0 127 ∧ S_.1 13 0 127 ≤ S0_.1 13 0 127 + 64 * (i_ - F_)) ∧ ∀ x_ : Nat, -(S_.1 13 0 127) ≤ S_.2.2.1 213 0 x_ ∧ S_.2.2.1 213 0 x_ ≤ S_.1 13 0 127) ∧ True) → ((90000 - i_).toNat) < nn_ → sm_T (mt_P sc_) 5 419 (118, [some (.inr (.inr (some (13, 0)))), some (.inl a1_), some (.inl a2_), some (.inl c_), some (.inl gd_), some (.inl i_)], [], S_) (fun ro9_ => ∃ u_ S1_, ro9_ = (.inl u_, S1_, 0) ∧ vq_419f a1_ a2_ F_ N_ S0_ u_ S1_)) ∧ (∀ (c_ : Int) (gd_ : Int) (i_ : Int) (S_ : sm_S), gi S_ → ai_fr (sx_W vw_419f) S0_ S_ → ((0 ≤ a1_ ∧ a1_ ≤ 5 ∧ 0 ≤ a2_ ∧ a2_ ≤ 2 ∧ 0 ≤ c_ ∧ c_ ≤ 3 ∧ (gd_ = 0 ∨ gd_ = 1) ∧ 0 ≤ i_ ∧ i_ ≤ N_) ∧ (dmp F_ N_ a1_ S_) ∧ (S_.1 13 0 106 = a2_) ∧ (rtd F_ a1_ (S_.2.2.1 156 0 a1_.toNat) (S_.2.2.1 155 0 a1_.toNat) S_) ∧ (S_.1 13 0 107 = -1 ∨ S_.2.2.1 185 0 (12 * S_.1 13 0 106 + S_.1 13 0 107).toNat = 1) ∧ (rcf c_.toNat S0_ S_) ∧ (S_.2.2.1 222 0 c_.toNat = 0) ∧ (rcm F_ N_ a1_ S_) ∧ (S_.1 13 0 0 = 0) ∧ (S_.1 13 0 107 = rfv S_.2.2.1 a2_ (S_.2.2.1 184 0 a2_.toNat).toNat ∧ S_.1 13 0 108 = if S_.1 13 0 107 = -1 then 1000000000 else S_.2.2.1 187 0 (12 * a2_ + S_.1 13 0 107).toNat) ∧ (ora_map a1_ a2_ S0_ ∧ frr c_ S0_) ∧ (rne9 S0_ S_) ∧ (wal9 F_ N_ S_) ∧ (gd_ = 1 → gdr F_ N_ S_) ∧ (rall F_ N_ S_) ∧ (imq (gd_ = 0) (∃ x_ : Nat, rtn F_ N_ S_ x_ ∧ S_.2.2.1 203 0 x_ = 1 ∧ 1000000000 ≤ S_.2.2.1 210 0 (2 * x_))) ∧ ((0 ≤ S_.1 13 0 127 ∧ S_.1 13 0 127 ≤ S0_.1 13 0 127 + 65000) ∧ ∀ x_ : Nat, -(S_.1 13 0 127) ≤ S_.2.2.1 213 0 x_ ∧ S_.2.2.1 213 0 x_ ≤ S_.1 13 0 127) ∧ (∀ j9_ : Int, 2 * F_ ≤ j9_ → j9_ < 2 * N_ → S_.2.2.1 218 0 j9_.toNat = -1) ∧ (∀ j9_ : Int, 0 ≤ j9_ → j9_ < i_ → S_.2.2.1 219 0 j9_.toNat = -1) ∧ True) → ((70000 - i_).toNat) < nn_ → sm_T (mt_P sc_) 5 419 (213, [some (.inr (.inr (some (13, 0)))), some (.inl a1_), some (.inl a2_), some (.inl c_), some (.inl gd_), some (.inl i_)], [], S_) (fun ro9_ => ∃ u_ S1_, ro9_ = (.inl u_, S1_, 0) ∧ vq_419f a1_ a2_ F_ N_ S0_ u_ S1_)) ∧ (∀ (c_ : Int) (gd_ : Int) (i_ : Int) (S_ : sm_S), gi S_ → ai_fr (sx_W vw_419f) S0_ S_ → ((0 ≤ a1_ ∧ a1_ ≤ 5 ∧ 0 ≤ a2_ ∧ a2_ ≤ 2 ∧ 0 ≤ c_ ∧ c_ ≤ 3 ∧ (gd_ = 0 ∨ gd_ = 1) ∧ 0 ≤ i_ ∧ i_ ≤ S_.2.2.1 156 0 a1_.toNat) ∧ (dmp F_ N_ a1_ S_) ∧ (S_.1 13 0 106 = a2_) ∧ (rtd F_ a1_ (S_.2.2.1 156 0 a1_.toNat) (S_.2.2.1 155 0 a1_.toNat) S_) ∧ (S_.1 13 0 107 = -1 ∨ S_.2.2.1 185 0 (12 * S_.1 13 0 106 + S_.1 13 0 107).toNat = 1) ∧ (rcf c_.toNat S0_ S_) ∧ (S_.2.2.1 222 0 c_.toNat = 0) ∧ (rcm F_ N_ a1_ S_) ∧ (S_.1 13 0 0 = 0) ∧ (S_.1 13 0 107 = rfv S_.2.2.1 a2_ (S_.2.2.1 184 0 a2_.toNat).toNat ∧ S_.1 13 0 108 = if S_.1 13 0 107 = -1 then 1000000000 else S_.2.2.1 187 0 (12 * a2_ + S_.1 13 0 107).toNat) ∧ (ora_map a1_ a2_ S0_ ∧ frr c_ S0_) ∧ (rne9 S0_ S_) ∧ (wal9 F_ N_ S_) ∧ (gd_ = 1 → gdr F_ N_ S_) ∧ (rall F_ N_ S_) ∧ (imq (gd_ = 0) (∃ x_ : Nat, rtn F_ N_ S_ x_ ∧ S_.2.2.1 203 0 x_ = 1 ∧ 1000000000 ≤ S_.2.2.1 210 0 (2 * x_))) ∧ ((0 ≤ S_.1 13 0 127 ∧ S_.1 13 0 127 ≤ S0_.1 13 0 127 + 65000) ∧ ∀ x_ : Nat, -(S_.1 13 0 127) ≤ S_.2.2.1 213 0 x_ ∧ S_.2.2.1 213 0 x_ ≤ S_.1 13 0 127) ∧ (gst F_ N_ S_) ∧ (gd_ = 1 → ∀ k9_ : Int, 0 ≤ k9_ → k9_ < i_ → S_.2.2.1 231 0 (16 * c_ + k9_).toNat < F_ - 1 + S_.1 13 0 129) ∧ (imq (gd_ = 1) (rqz F_ N_ a1_ (i_.toNat) (ntc c_ (S_.2.2.1 156 0 a1_.toNat) S_) S_)) ∧ True) → ((50000 - i_).toNat) < nn_ → sm_T (mt_P sc_) 5 419 (251, [some (.inr (.inr (some (13, 0)))), some (.inl a1_), some (.inl a2_), some (.inl c_), some (.inl gd_), some (.inl i_)], [], S_) (fun ro9_ => ∃ u_ S1_, ro9_ = (.inl u_, S1_, 0) ∧ vq_419f a1_ a2_ F_ N_ S0_ u_ S1_)) ∧ (∀ (c_ : Int) (gd_ : Int) (i_ : Int) (S_ : sm_S), gi S_ → ai_fr (sx_W vw_419f) S0_ S_ → ((0 ≤ a1_ ∧ a1_ ≤ 5 ∧ 0 ≤ a2_ ∧ a2_ ≤ 2 ∧ 0 ≤ c_ ∧ c_ ≤ 3 ∧ (gd_ = 0 ∨ gd_ = 1) ∧ 0 ≤ i_ ∧ i_ ≤ S_.2.2.1 155 0 a1_.toNat) ∧ (dmp F_ N_ a1_ S_) ∧ (S_.1 13 0 106 = a2_) ∧ (rtd F_ a1_ (S_.2.2.1 156 0 a1_.toNat) (S_.2.2.1 155 0 a1_.toNat) S_) ∧ (S_.1 13 0 107 = -1 ∨ S_.2.2.1 185 0 (12 * S_.1 13 0 106 + S_.1 13 0 107).toNat = 1) ∧ (rcf c_.toNat S0_ S_) ∧ (S_.2.2.1 222 0 c_.toNat = 0) ∧ (rcm F_ N_ a1_ S_) ∧ (S_.1 13 0 0 = 0) ∧ (S_.1 13 0 107 = rfv S_.2.2.1 a2_ (S_.2.2.1 184 0 a2_.toNat).toNat ∧ S_.1 13 0 108 = if S_.1 13 0 107 = -1 then 1000000000 else S_.2.2.1 187 0 (12 * a2_ + S_.1 13 0 107).toNat) ∧ (ora_map a1_ a2_ S0_ ∧ frr c_ S0_) ∧ (rne9 S0_ S_) ∧ (wal9 F_ N_ S_) ∧ (gd_ = 1 → gdr F_ N_ S_) ∧ (rall F_ N_ S_) ∧ (imq (gd_ = 0) (∃ x_ : Nat, rtn F_ N_ S_ x_ ∧ S_.2.2.1 203 0 x_ = 1 ∧ 1000000000 ≤ S_.2.2.1 210 0 (2 * x_))) ∧ ((0 ≤ S_.1 13 0 127 ∧ S_.1 13 0 127 ≤ S0_.1 13 0 127 + 65000) ∧ ∀ x_ : Nat, -(S_.1 13 0 127) ≤ S_.2.2.1 213 0 x_ ∧ S_.2.2.1 213 0 x_ ≤ S_.1 13 0 127) ∧ (gst F_ N_ S_) ∧ (gd_ = 1 → ∀ k9_ : Int, 0 ≤ k9_ → k9_ < S_.2.2.1 156 0 a1_.toNat → S_.2.2.1 231 0 (16 * c_ + k9_).toNat < F_ - 1 + S_.1 13 0 129) ∧ (gd_ = 1 → ∀ k9_ : Int, 0 ≤ k9_ → k9_ < i_ → S_.2.2.1 232 0 (6 * c_ + k9_).toNat < F_ - 1 + S_.1 13 0 129) ∧ (imq (gd_ = 1) (rqz F_ N_ a1_ ((S_.2.2.1 156 0 a1_.toNat).toNat + i_.toNat) (ntc c_ (S_.2.2.1 156 0 a1_.toNat) S_) S_)) ∧ True) → ((30000 - i_).toNat) < nn_ → sm_T (mt_P sc_) 5 419 (304, [some (.inr (.inr (some (13, 0)))), some (.inl a1_), some (.inl a2_), some (.inl c_), some (.inl gd_), some (.inl i_)], [], S_) (fun ro9_ => ∃ u_ S1_, ro9_ = (.inl u_, S1_, 0) ∧ vq_419f a1_ a2_ F_ N_ S0_ u_ S1_)) := by
  intro nn_
  induction nn_ with
  | zero => exact ⟨fun _ _ _ _ _ _ _ h_ => absurd h_ (Nat.not_lt_zero _), fun _ _ _ _ _ _ _ h_ => absurd h_ (Nat.not_lt_zero _), fun _ _ _ _ _ _ _ h_ => absurd h_ (Nat.not_lt_zero _), fun _ _ _ _ _ _ _ h_ => absurd h_ (Nat.not_lt_zero _)⟩
  | succ nn_ ih_ =>
    refine ⟨?_, ?_, ?_, ?_⟩
    · rintro c_ gd_ i_ S_ hI_ hF_ ⟨h0_, hd_, hlb_, hr_, hiv_, hk_, ht_, hrc_, hcd_, hiw_, hok_, hun_, hl_, hw_, hgr_, hn2_, hrn_, hbd_, hrd_, -⟩ hm_
      have d1_ := hd_.1
      have rd1_ := hrd_.1
      have f160_ : S_.2.2.1 160 0 (S_.1 13 0 105).toNat = F_ := by (rw [d1_.2.2.1]; exact d1_.2.2.2.1)
      have c156_ : 0 ≤ S_.2.2.1 156 0 a1_.toNat ∧ S_.2.2.1 156 0 a1_.toNat ≤ 16 := hI_.2 156 0 _
      have c155_ : 0 ≤ S_.2.2.1 155 0 a1_.toNat ∧ S_.2.2.1 155 0 a1_.toNat ≤ 6 := hI_.2 155 0 _
      have c134_ : 0 ≤ S_.1 13 0 134 ∧ S_.1 13 0 134 ≤ 1 := hI_.1 13 0 134 rfl
      have c106_ : 0 ≤ S_.1 13 0 106 ∧ S_.1 13 0 106 ≤ 2 := hI_.1 13 0 106 rfl
      refine sm_T_go 4 (c1 := (125, [some (.inr (.inr (some (13, 0)))), some (.inl a1_), some (.inl a2_), some (.inl c_), some (.inl gd_), some (.inl i_)], [.inl a1_, .inr (.inr (some (159, 0))), .inl i_], S_)) rfl ?_
      refine sm_T_iald (n := 6) rfl rfl (by omega) (by omega) ?_
      have bx1_ : 0 ≤ S_.2.2.1 159 0 a1_.toNat ∧ S_.2.2.1 159 0 a1_.toNat ≤ 1013 := hI_.2 159 0 _
      refine sm_T_br (a := 3) (z := 84) rfl (fun cx2_ => ?_) (fun cx2_ => ?_)
      · have cx2_ : (S_.2.2.1 159 0 a1_.toNat) ≤ i_ := of_decide_eq_true cx2_
        refine sm_T_go 2 (c1 := (213, [some (.inr (.inr (some (13, 0)))), some (.inl a1_), some (.inl a2_), some (.inl c_), some (.inl gd_), some (.inl 0)], [], S_)) rfl ?_
        refine ih_.2.1 c_ gd_ 0 S_ hI_ hF_ ⟨?_, ?_, ?_, ?_, ?_, ?_, ?_, ?_, ?_, ?_, ?_, ?_, ?_, ?_, ?_, ?_, ?_, ?_, ?_, trivial⟩ ?_
        · omega
        · exact hd_
        · exact hlb_
        · exact hr_
        · exact hiv_
        · exact hk_
        · exact ht_
        · exact hrc_
        · exact hcd_
        · exact hiw_
        · exact hok_
        · exact hun_
        · (intro n9_ u0_ u1_ u2_; exact hw_ n9_ u0_ (by omega) u2_)
        · (intro G9_ n9_ u0_ u1_ u2_ u3_; exact hgr_ G9_ n9_ u0_ (by omega) u2_ u3_)
        · (intro x_ hx_; exact hrn_ x_ hx_ (by (have z9_ := hx_.2.1; omega)))
        · refine fun z9_ => ?_
          obtain ⟨x9_, a9_, b9_, c9_, k9_⟩ := hbd_ z9_
          exact ⟨x9_, a9_, c9_, k9_⟩
        · exact ⟨⟨by omega, by omega⟩, hrd_.2⟩
        · (intro j9_ u0_ u1_; exact hn2_ j9_ u0_ (by omega))
        · (intro j9_ u0_ u1_; exfalso; omega)
        · omega
      · have cx2_ : ¬ ((S_.2.2.1 159 0 a1_.toNat) ≤ i_) := of_decide_eq_false cx2_
        refine sm_T_go 3 (c1 := (135, [some (.inr (.inr (some (13, 0)))), some (.inl a1_), some (.inl a2_), some (.inl c_), some (.inl gd_), some (.inl i_)], [.inl i_, .inr (.inr (some (202, 0)))], S_)) rfl ?_
        refine sm_T_zald (n := 2048) rfl rfl (by omega) (by omega) ?_
        have bx3_ : 0 ≤ S_.2.2.1 202 0 i_.toNat ∧ S_.2.2.1 202 0 i_.toNat ≤ 1 := hI_.2 202 0 _
        refine sm_T_b0 (a := 0) (z := 46) rfl (fun cx4_ => ?_) (fun cx4_ => ?_)
        · have cx4_ : (S_.2.2.1 202 0 i_.toNat) = 0 := of_decide_eq_true cx4_
          refine sm_T_go 4 (c1 := (189, [some (.inr (.inr (some (13, 0)))), some (.inl a1_), some (.inl a2_), some (.inl c_), some (.inl gd_), some (.inl i_)], [.inl i_, .inl 2, .inr (.inr (some (218, 0)))], S_)) rfl ?_
          refine sm_T_bin (w := 2 * i_) rfl (bi_mul (by omega) (by omega) (by omega)) ?_ -- pc_ 189
          refine sm_T_go 1 (c1 := (191, [some (.inr (.inr (some (13, 0)))), some (.inl a1_), some (.inl a2_), some (.inl c_), some (.inl gd_), some (.inl i_)], [.inl (-1), .inl (2 * i_), .inr (.inr (some (218, 0)))], S_)) rfl ?_
          refine sm_T_iast (n := 4096) rfl rfl (by omega) (by omega) ?_
          have hIx5_ : gi (sm_aI S_ 218 0 (2 * i_).toNat (-1)) := gi_aI hI_ (show (-2) ≤ (-1) ∧ (-1) ≤ 9000 from ⟨by omega, by omega⟩)
          have hFx6_ : ai_fr (sx_W vw_419f) S0_ (sm_aI S_ 218 0 (2 * i_).toNat (-1)) := ai_fr_tr hF_ (ai_fr_aI rfl)
          refine sm_T_go 4 (c1 := (199, [some (.inr (.inr (some (13, 0)))), some (.inl a1_), some (.inl a2_), some (.inl c_), some (.inl gd_), some (.inl i_)], [.inl i_, .inl 2, .inr (.inr (some (218, 0)))], sm_aI S_ 218 0 (2 * i_).toNat (-1))) rfl ?_
          refine sm_T_bin (w := 2 * i_) rfl (bi_mul (by omega) (by omega) (by omega)) ?_ -- pc_ 199
          refine sm_T_go 1 (c1 := (201, [some (.inr (.inr (some (13, 0)))), some (.inl a1_), some (.inl a2_), some (.inl c_), some (.inl gd_), some (.inl i_)], [.inl 1, .inl (2 * i_), .inr (.inr (some (218, 0)))], sm_aI S_ 218 0 (2 * i_).toNat (-1))) rfl ?_
          refine sm_T_bin (w := 2 * i_ + 1) rfl (bi_add (by omega) (by omega) (by omega)) ?_ -- pc_ 201
          refine sm_T_go 1 (c1 := (203, [some (.inr (.inr (some (13, 0)))), some (.inl a1_), some (.inl a2_), some (.inl c_), some (.inl gd_), some (.inl i_)], [.inl (-1), .inl (2 * i_ + 1), .inr (.inr (some (218, 0)))], sm_aI S_ 218 0 (2 * i_).toNat (-1))) rfl ?_
          refine sm_T_iast (n := 4096) rfl rfl (by omega) (by omega) ?_
          have hIx7_ : gi (sm_aI (sm_aI S_ 218 0 (2 * i_).toNat (-1)) 218 0 (2 * i_ + 1).toNat (-1)) := gi_aI hIx5_ (show (-2) ≤ (-1) ∧ (-1) ≤ 9000 from ⟨by omega, by omega⟩)
          have hFx8_ : ai_fr (sx_W vw_419f) S0_ (sm_aI (sm_aI S_ 218 0 (2 * i_).toNat (-1)) 218 0 (2 * i_ + 1).toNat (-1)) := ai_fr_tr hFx6_ (ai_fr_aI rfl)
          refine sm_T_inc (a := 5) (z := 1) (v := i_) (w := i_ + 1) rfl rfl (by omega) (by omega) (by omega) ?_ -- pc_ 204
          refine sm_T_go 1 (c1 := (118, [some (.inr (.inr (some (13, 0)))), some (.inl a1_), some (.inl a2_), some (.inl c_), some (.inl gd_), some (.inl (i_ + 1))], [], sm_aI (sm_aI S_ 218 0 (2 * i_).toNat (-1)) 218 0 (2 * i_ + 1).toNat (-1))) rfl ?_
          refine ih_.1 c_ gd_ (i_ + 1) (sm_aI (sm_aI S_ 218 0 (2 * i_).toNat (-1)) 218 0 (2 * i_ + 1).toNat (-1)) hIx7_ hFx8_ ⟨?_, ?_, ?_, ?_, ?_, ?_, ?_, ?_, ?_, ?_, ?_, ?_, ?_, ?_, ?_, ?_, ?_, ?_, ?_, trivial⟩ ?_
          · omega
          · have fT_ : ai_fr (sx_W w118) S_ ((sm_aI (sm_aI S_ 218 0 (2 * i_).toNat (-1)) 218 0 (2 * i_ + 1).toNat (-1))) := by
              first
              | (have y8_ := f142_; exact ai_fr_tr (ai_fr_tr (fr_le f142_ rfl) (ai_fr_aI rfl)) (ai_fr_aI rfl))
              | exact ai_fr_tr (ai_fr_aI rfl) (ai_fr_aI rfl)
            exact dmp_fr hd_ fT_
          · have fT_ : ai_fr (sx_W w118) S_ ((sm_aI (sm_aI S_ 218 0 (2 * i_).toNat (-1)) 218 0 (2 * i_ + 1).toNat (-1))) := by
              first
              | (have y8_ := f142_; exact ai_fr_tr (ai_fr_tr (fr_le f142_ rfl) (ai_fr_aI rfl)) (ai_fr_aI rfl))
              | exact ai_fr_tr (ai_fr_aI rfl) (ai_fr_aI rfl)
            rw [fT_.1 13 0 106 rfl]
            exact hlb_
          · have fT_ : ai_fr (sx_W w118) S_ ((sm_aI (sm_aI S_ 218 0 (2 * i_).toNat (-1)) 218 0 (2 * i_ + 1).toNat (-1))) := by
              first
              | (have y8_ := f142_; exact ai_fr_tr (ai_fr_tr (fr_le f142_ rfl) (ai_fr_aI rfl)) (ai_fr_aI rfl))
              | exact ai_fr_tr (ai_fr_aI rfl) (ai_fr_aI rfl)
            exact rtd_fr hr_ fT_
          · have fT_ : ai_fr (sx_W w118) S_ ((sm_aI (sm_aI S_ 218 0 (2 * i_).toNat (-1)) 218 0 (2 * i_ + 1).toNat (-1))) := by
              first
              | (have y8_ := f142_; exact ai_fr_tr (ai_fr_tr (fr_le f142_ rfl) (ai_fr_aI rfl)) (ai_fr_aI rfl))
              | exact ai_fr_tr (ai_fr_aI rfl) (ai_fr_aI rfl)
            rw [fT_.1 13 0 107 rfl, fT_.1 13 0 106 rfl, fr_arr (t := 185) (i := 0) fT_ rfl]
            exact hiv_
          · have fT_ : ai_fr (sx_W w118) S_ ((sm_aI (sm_aI S_ 218 0 (2 * i_).toNat (-1)) 218 0 (2 * i_ + 1).toNat (-1))) := by
              first
              | (have y8_ := f142_; exact ai_fr_tr (ai_fr_tr (fr_le f142_ rfl) (ai_fr_aI rfl)) (ai_fr_aI rfl))
              | exact ai_fr_tr (ai_fr_aI rfl) (ai_fr_aI rfl)
            exact rcf_tr hk_ (rcf_fr fT_ rfl)
          · have fT_ : ai_fr (sx_W w118) S_ ((sm_aI (sm_aI S_ 218 0 (2 * i_).toNat (-1)) 218 0 (2 * i_ + 1).toNat (-1))) := by
              first
              | (have y8_ := f142_; exact ai_fr_tr (ai_fr_tr (fr_le f142_ rfl) (ai_fr_aI rfl)) (ai_fr_aI rfl))
              | exact ai_fr_tr (ai_fr_aI rfl) (ai_fr_aI rfl)
            rw [fr_arr (t := 222) (i := 0) fT_ rfl]
            exact ht_
          · have fT_ : ai_fr (sx_W w118) S_ ((sm_aI (sm_aI S_ 218 0 (2 * i_).toNat (-1)) 218 0 (2 * i_ + 1).toNat (-1))) := by
              first
              | (have y8_ := f142_; exact ai_fr_tr (ai_fr_tr (fr_le f142_ rfl) (ai_fr_aI rfl)) (ai_fr_aI rfl))
              | exact ai_fr_tr (ai_fr_aI rfl) (ai_fr_aI rfl)
            exact (rcm_fr hrc_ fT_).1
          · have fT_ : ai_fr (sx_W w118) S_ ((sm_aI (sm_aI S_ 218 0 (2 * i_).toNat (-1)) 218 0 (2 * i_ + 1).toNat (-1))) := by
              first
              | (have y8_ := f142_; exact ai_fr_tr (ai_fr_tr (fr_le f142_ rfl) (ai_fr_aI rfl)) (ai_fr_aI rfl))
              | exact ai_fr_tr (ai_fr_aI rfl) (ai_fr_aI rfl)
            exact (fT_.1 13 0 0 rfl).trans hcd_
          · have fT_ : ai_fr (sx_W w118) S_ ((sm_aI (sm_aI S_ 218 0 (2 * i_).toNat (-1)) 218 0 (2 * i_ + 1).toNat (-1))) := by
              first
              | (have y8_ := f142_; exact ai_fr_tr (ai_fr_tr (fr_le f142_ rfl) (ai_fr_aI rfl)) (ai_fr_aI rfl))
              | exact ai_fr_tr (ai_fr_aI rfl) (ai_fr_aI rfl)
            rw [rfv_cg (fr_arr (t := 185) (i := 0) fT_ rfl) (fr_arr (t := 186) (i := 0) fT_ rfl) (fr_arr (t := 187) (i := 0) fT_ rfl), fT_.1 13 0 107 rfl, fT_.1 13 0 108 rfl, fr_arr (t := 184) (i := 0) fT_ rfl, fr_arr (t := 187) (i := 0) fT_ rfl]
            exact hiw_
          · exact hok_
          · have fT_ : ai_fr (sx_W w118) S_ ((sm_aI (sm_aI S_ 218 0 (2 * i_).toNat (-1)) 218 0 (2 * i_ + 1).toNat (-1))) := by
              first
              | (have y8_ := f142_; exact ai_fr_tr (ai_fr_tr (fr_le f142_ rfl) (ai_fr_aI rfl)) (ai_fr_aI rfl))
              | exact ai_fr_tr (ai_fr_aI rfl) (ai_fr_aI rfl)
            exact rne_fr hun_ fT_
          · have fT_ : ai_fr (sx_W w118) S_ ((sm_aI (sm_aI S_ 218 0 (2 * i_).toNat (-1)) 218 0 (2 * i_ + 1).toNat (-1))) := by
              first
              | (have y8_ := f142_; exact ai_fr_tr (ai_fr_tr (fr_le f142_ rfl) (ai_fr_aI rfl)) (ai_fr_aI rfl))
              | exact ai_fr_tr (ai_fr_aI rfl) (ai_fr_aI rfl)
            exact lgn_cg hl_ (fr_arr fT_ rfl) (fr_arr fT_ rfl) (fr_arr fT_ rfl)
          · have fT_ : ai_fr (sx_W w118) S_ ((sm_aI (sm_aI S_ 218 0 (2 * i_).toNat (-1)) 218 0 (2 * i_ + 1).toNat (-1))) := by
              first
              | (have y8_ := f142_; exact ai_fr_tr (ai_fr_tr (fr_le f142_ rfl) (ai_fr_aI rfl)) (ai_fr_aI rfl))
              | exact ai_fr_tr (ai_fr_aI rfl) (ai_fr_aI rfl)
            intro n9_ u0_ u1_ u2_
            rw [fr_arr (t := 202) (i := 0) fT_ rfl] at u2_
            refine wok2_a (wok2_a ?_)
            first
            | (have y8_ := e142_; by_cases z9_ : n9_ = i_; (subst z9_; exact e142_.1); exact wok2_cg i142_ (hw_ n9_ u0_ (by omega) u2_) e142_.2 (by omega) (by omega) (fr_arr f142_ rfl) (f142_.1 13 0 106 rfl) (f142_.1 13 0 108 rfl) (fr_arr f142_ rfl) (fr_arr f142_ rfl))
            | exact hw_ n9_ u0_ (by (have z9_ : n9_ ≠ i_ := fun z9_ => by (subst z9_; omega)); omega) u2_
          · intro G9_ n9_ u0_ u1_ u2_ u3_
            (try simp only [rd_eq, rd_ne, rf_eq, rf_nk, rf_nt, rd_fa, rd_af, rd_fl, rd_al, rd_lf, rd_la, rd_leq, rd_lne, rd_fr, rd_ar, ne_eq, Nat.reduceEqDiff, not_false_eq_true] at *)
            first
            | (exfalso; omega)
            | (have y8_ := e142_; have u4_ := u3_; rw [g202_] at u2_; rw [g203_] at u3_; by_cases z9_ : n9_ = i_; (subst z9_; omega); (rw [(e142_.2.2 (2 * n9_).toNat (by omega)).1]; exact hgr_ (by omega) n9_ u0_ (by omega) u2_ u3_))
            | (have z9_ : n9_ ≠ i_ := fun z9_ => by (subst z9_; omega)
               exact hgr_ G9_ n9_ u0_ (by omega) u2_ u3_)
          · intro j9_ u0_ u1_
            (try simp only [rd_eq, rd_ne, rf_eq, rf_nk, rf_nt, rd_fa, rd_af, rd_fl, rd_al, rd_lf, rd_la, rd_leq, rd_lne, rd_fr, rd_ar, ne_eq, Nat.reduceEqDiff, not_false_eq_true])
            split
            · rfl
            · split
              · rfl
              · first | (have y8_ := e142_; rw [g218_]; exact hn2_ j9_ u0_ (by omega)) | exact hn2_ j9_ u0_ (by omega)
          · have fB_ : ai_fr (sx_W ([], [218], [])) S_ ((sm_aI (sm_aI S_ 218 0 (2 * i_).toNat (-1)) 218 0 (2 * i_ + 1).toNat (-1))) := ai_fr_tr (ai_fr_aI rfl) (ai_fr_aI rfl)
            intro x_ hx_ u1_
            first
            | (have y8_ := RN142_; have t9_ := (rcm_fr RC142_.1 fB_).2; rw [t9_, RC142_.2] at hx_; rw [t9_, RC142_.2]; exact rnw_fr (TR142_ x_ hx_) (RN142_ x_ hx_ (by omega)) i142_ fB_)
            | (have t9_ := (rcm_fr hrc_ fB_).2; rw [t9_] at hx_; rw [t9_]; exact rnw_fr (hrc_.2 x_ hx_).1 (hrn_ x_ hx_ (by (have z9_ : (x_ : Int) ≠ i_ := fun z9_ => by (have y9_ := hx_.2.2; rw [show x_ = i_.toNat by omega] at y9_; omega)); omega)) hI_ fB_)
          · have fB_ : ai_fr (sx_W ([], [218], [])) S_ ((sm_aI (sm_aI S_ 218 0 (2 * i_).toNat (-1)) 218 0 (2 * i_ + 1).toNat (-1))) := ai_fr_tr (ai_fr_aI rfl) (ai_fr_aI rfl)
            refine fun z9_ => ?_
            first
            | (exfalso; omega)
            | (have y8_ := e142_; have t9_ := (rcm_fr RC142_.1 fB_).2; by_cases y9_ : gd_ = 0; (obtain ⟨x9_, a9_, b9_, c9_, k9_⟩ := hbd_ y9_; exact ⟨x9_, by (rw [t9_, RC142_.2]; exact a9_), by omega, by (rw [fr_arr (t := 203) (i := 0) fB_ rfl, g203_]; exact c9_), by (rw [fr_arr (t := 210) (i := 0) fB_ rfl, (e142_.2.2 (2 * x9_) (by omega)).1]; exact k9_)⟩); exact ⟨i_.toNat, by (rw [t9_, RC142_.2]; exact T142_), by omega, by (rw [fr_arr (t := 203) (i := 0) fB_ rfl]; omega), by (rw [fr_arr (t := 210) (i := 0) fB_ rfl, show 2 * i_.toNat = (2 * i_).toNat by omega]; omega)⟩)
            | (obtain ⟨x9_, a9_, b9_, c9_, k9_⟩ := hbd_ (by omega); exact ⟨x9_, by (rw [(rcm_fr hrc_ fB_).2]; exact a9_), by omega, by (rw [fr_arr (t := 203) (i := 0) fB_ rfl]; exact c9_), by (rw [fr_arr (t := 210) (i := 0) fB_ rfl]; exact k9_)⟩)
          · have fB_ : ai_fr (sx_W ([], [218], [])) S_ ((sm_aI (sm_aI S_ 218 0 (2 * i_).toNat (-1)) 218 0 (2 * i_ + 1).toNat (-1))) := ai_fr_tr (ai_fr_aI rfl) (ai_fr_aI rfl)
            rw [fB_.1 13 0 127 rfl, fr_arr (t := 213) (i := 0) fB_ rfl]
            first | (have y8_ := d142_; exact ⟨⟨by omega, by omega⟩, d142_.2.2⟩) | exact ⟨⟨by omega, by omega⟩, hrd_.2⟩
          · omega
        · have cx4_ : ¬ ((S_.2.2.1 202 0 i_.toNat) = 0) := of_decide_eq_false cx4_
          refine sm_T_go 2 (c1 := (142, [some (.inr (.inr (some (13, 0)))), some (.inl a1_), some (.inl a2_), some (.inl c_), some (.inl gd_), some (.inl i_)], [.inl i_, .inr (.inr (some (13, 0)))], S_)) rfl ?_
          refine sm_T_cal (d1 := 4) (Q1 := vq_407n i_ F_ N_ (rtn F_ N_ S_) S_) rfl rfl (by decide) (vc_407n i_ F_ N_ (rtn F_ N_ S_) S_ hI_ (by (intro x9_ u0_ u1_ u2_; exact rcm_d hrc_ x9_ u0_ u1_ (by omega) u2_)) (by (intro m9_; exact Nat.le_trans ((hrc_.2 i_.toNat ⟨by omega, by omega, by omega⟩).2 m9_) (by decide))) (by exact (hrc_.2 i_.toNat ⟨by omega, by omega, by omega⟩).1) (by omega) (by exact hrd_.2) (by exact f160_) (by omega) (by omega) (by exact hl_)) (fun u_ Sx9_ px12_ => ?_)
          obtain ⟨rfl, hIx10_, hFx11_, px12_⟩ := px12_
          have hFx13_ : ai_fr (sx_W vw_419f) S0_ Sx9_ := ai_fr_tr hF_ (fr_le hFx11_ rfl)
          have e142_ := (px12_).1
          have d142_ := (px12_).2.1
          have f142_ := hFx11_
          have T142_ : rtn F_ N_ S_ i_.toNat := ⟨by omega, by omega, by omega⟩
          have RC142_ := rcm_fr hrc_ hFx11_
          have RN142_ : ∀ x_ : Nat, rtn F_ N_ S_ x_ → (x_ : Int) < i_ + 1 → rnw F_ (rtn F_ N_ S_) Sx9_ x_ := fun x_ hx_ u1_ => by (by_cases z9_ : (x_ : Int) = i_; (rw [show x_ = i_.toNat by omega]; have x9_ := (px12_).2.2; rw [show (2 * i_).toNat = 2 * i_.toNat by omega, show (2 * i_ + 1).toNat = 2 * i_.toNat + 1 by omega] at x9_; exact rnw_nw (hrc_.2 i_.toNat T142_).1 x9_ (fr_arr hFx11_ rfl) (fr_arr hFx11_ rfl) (fr_arr hFx11_ rfl) (fr_arr hFx11_ rfl) (fr_arr hFx11_ rfl) (fr_arr hFx11_ rfl) (fr_arr hFx11_ rfl) (hFx11_.1 13 0 106 rfl) (hFx11_.1 13 0 108 rfl) (fun j_ hj_ => (e142_.2.2 j_ (by omega)).1)); exact rnw_cg (hrc_.2 x_ hx_).1 (hrn_ x_ hx_ (by omega)) (fr_arr hFx11_ rfl) (fr_arr hFx11_ rfl) (fr_arr hFx11_ rfl) (fr_arr hFx11_ rfl) (fr_arr hFx11_ rfl) (fr_arr hFx11_ rfl) (fr_arr hFx11_ rfl) (hFx11_.1 13 0 106 rfl) (hFx11_.1 13 0 108 rfl) (fun j_ hj_ => (e142_.2.2 j_ (by omega)).1) (fun j_ h1_ h2_ => ⟨(e142_.2.1.1 j_ (by omega)).1, (e142_.2.1.1 j_ (by omega)).2.1, (e142_.2.1.1 j_ (by omega)).2.2, (e142_.2.2 j_ (by omega)).2⟩) (fun j_ h1_ h2_ => e142_.2.1.2 j_ (by omega)) (fun k_ => (hI_.2 185 0 k_).2))
          have TR142_ : ∀ x_ : Nat, rtn F_ N_ S_ x_ → trh (rnn F_ Sx9_) (rcu Sx9_) (rhq Sx9_) x_ (rtn F_ N_ S_) := fun x_ hx_ => by (have z9_ := (RC142_.1.2 x_ (by (rw [RC142_.2]; exact hx_))).1; rw [RC142_.2] at z9_; exact z9_)
          have i142_ : gi Sx9_ := hIx10_
          have g202_ : Sx9_.2.2.1 202 0 = S_.2.2.1 202 0 := fr_arr hFx11_ rfl
          have g203_ : Sx9_.2.2.1 203 0 = S_.2.2.1 203 0 := fr_arr hFx11_ rfl
          have g218_ : Sx9_.2.2.1 218 0 = S_.2.2.1 218 0 := fr_arr hFx11_ rfl
          refine sm_T_go 1 (c1 := (147, [some (.inr (.inr (some (13, 0)))), some (.inl a1_), some (.inl a2_), some (.inl c_), some (.inl gd_), some (.inl i_)], [.inl gd_], Sx9_)) rfl ?_
          refine sm_T_b0 (a := 0) (z := 32) rfl (fun cx14_ => ?_) (fun cx14_ => ?_)
          · have cx14_ : gd_ = 0 := of_decide_eq_true cx14_
            refine sm_T_go 6 (c1 := (189, [some (.inr (.inr (some (13, 0)))), some (.inl a1_), some (.inl a2_), some (.inl c_), some (.inl 0), some (.inl i_)], [.inl i_, .inl 2, .inr (.inr (some (218, 0)))], Sx9_)) rfl ?_
            refine sm_T_bin (w := 2 * i_) rfl (bi_mul (by omega) (by omega) (by omega)) ?_ -- pc_ 189
            refine sm_T_go 1 (c1 := (191, [some (.inr (.inr (some (13, 0)))), some (.inl a1_), some (.inl a2_), some (.inl c_), some (.inl 0), some (.inl i_)], [.inl (-1), .inl (2 * i_), .inr (.inr (some (218, 0)))], Sx9_)) rfl ?_
            refine sm_T_iast (n := 4096) rfl rfl (by omega) (by omega) ?_
            have hIx15_ : gi (sm_aI Sx9_ 218 0 (2 * i_).toNat (-1)) := gi_aI hIx10_ (show (-2) ≤ (-1) ∧ (-1) ≤ 9000 from ⟨by omega, by omega⟩)
            have hFx16_ : ai_fr (sx_W vw_419f) S0_ (sm_aI Sx9_ 218 0 (2 * i_).toNat (-1)) := ai_fr_tr hFx13_ (ai_fr_aI rfl)
            refine sm_T_go 4 (c1 := (199, [some (.inr (.inr (some (13, 0)))), some (.inl a1_), some (.inl a2_), some (.inl c_), some (.inl 0), some (.inl i_)], [.inl i_, .inl 2, .inr (.inr (some (218, 0)))], sm_aI Sx9_ 218 0 (2 * i_).toNat (-1))) rfl ?_
            refine sm_T_bin (w := 2 * i_) rfl (bi_mul (by omega) (by omega) (by omega)) ?_ -- pc_ 199
            refine sm_T_go 1 (c1 := (201, [some (.inr (.inr (some (13, 0)))), some (.inl a1_), some (.inl a2_), some (.inl c_), some (.inl 0), some (.inl i_)], [.inl 1, .inl (2 * i_), .inr (.inr (some (218, 0)))], sm_aI Sx9_ 218 0 (2 * i_).toNat (-1))) rfl ?_
            refine sm_T_bin (w := 2 * i_ + 1) rfl (bi_add (by omega) (by omega) (by omega)) ?_ -- pc_ 201
            refine sm_T_go 1 (c1 := (203, [some (.inr (.inr (some (13, 0)))), some (.inl a1_), some (.inl a2_), some (.inl c_), some (.inl 0), some (.inl i_)], [.inl (-1), .inl (2 * i_ + 1), .inr (.inr (some (218, 0)))], sm_aI Sx9_ 218 0 (2 * i_).toNat (-1))) rfl ?_
            refine sm_T_iast (n := 4096) rfl rfl (by omega) (by omega) ?_
            have hIx17_ : gi (sm_aI (sm_aI Sx9_ 218 0 (2 * i_).toNat (-1)) 218 0 (2 * i_ + 1).toNat (-1)) := gi_aI hIx15_ (show (-2) ≤ (-1) ∧ (-1) ≤ 9000 from ⟨by omega, by omega⟩)
            have hFx18_ : ai_fr (sx_W vw_419f) S0_ (sm_aI (sm_aI Sx9_ 218 0 (2 * i_).toNat (-1)) 218 0 (2 * i_ + 1).toNat (-1)) := ai_fr_tr hFx16_ (ai_fr_aI rfl)
            refine sm_T_inc (a := 5) (z := 1) (v := i_) (w := i_ + 1) rfl rfl (by omega) (by omega) (by omega) ?_ -- pc_ 204
            refine sm_T_go 1 (c1 := (118, [some (.inr (.inr (some (13, 0)))), some (.inl a1_), some (.inl a2_), some (.inl c_), some (.inl 0), some (.inl (i_ + 1))], [], sm_aI (sm_aI Sx9_ 218 0 (2 * i_).toNat (-1)) 218 0 (2 * i_ + 1).toNat (-1))) rfl ?_
            refine ih_.1 c_ 0 (i_ + 1) (sm_aI (sm_aI Sx9_ 218 0 (2 * i_).toNat (-1)) 218 0 (2 * i_ + 1).toNat (-1)) hIx17_ hFx18_ ⟨?_, ?_, ?_, ?_, ?_, ?_, ?_, ?_, ?_, ?_, ?_, ?_, ?_, ?_, ?_, ?_, ?_, ?_, ?_, trivial⟩ ?_
            · omega
            · have fT_ : ai_fr (sx_W w118) S_ ((sm_aI (sm_aI Sx9_ 218 0 (2 * i_).toNat (-1)) 218 0 (2 * i_ + 1).toNat (-1))) := by
                first
                | (have y8_ := f142_; exact ai_fr_tr (ai_fr_tr (fr_le f142_ rfl) (ai_fr_aI rfl)) (ai_fr_aI rfl))
                | exact ai_fr_tr (ai_fr_aI rfl) (ai_fr_aI rfl)
              exact dmp_fr hd_ fT_
            · have fT_ : ai_fr (sx_W w118) S_ ((sm_aI (sm_aI Sx9_ 218 0 (2 * i_).toNat (-1)) 218 0 (2 * i_ + 1).toNat (-1))) := by
                first
                | (have y8_ := f142_; exact ai_fr_tr (ai_fr_tr (fr_le f142_ rfl) (ai_fr_aI rfl)) (ai_fr_aI rfl))
                | exact ai_fr_tr (ai_fr_aI rfl) (ai_fr_aI rfl)
              rw [fT_.1 13 0 106 rfl]
              exact hlb_
            · have fT_ : ai_fr (sx_W w118) S_ ((sm_aI (sm_aI Sx9_ 218 0 (2 * i_).toNat (-1)) 218 0 (2 * i_ + 1).toNat (-1))) := by
                first
                | (have y8_ := f142_; exact ai_fr_tr (ai_fr_tr (fr_le f142_ rfl) (ai_fr_aI rfl)) (ai_fr_aI rfl))
                | exact ai_fr_tr (ai_fr_aI rfl) (ai_fr_aI rfl)
              exact rtd_fr hr_ fT_
            · have fT_ : ai_fr (sx_W w118) S_ ((sm_aI (sm_aI Sx9_ 218 0 (2 * i_).toNat (-1)) 218 0 (2 * i_ + 1).toNat (-1))) := by
                first
                | (have y8_ := f142_; exact ai_fr_tr (ai_fr_tr (fr_le f142_ rfl) (ai_fr_aI rfl)) (ai_fr_aI rfl))
                | exact ai_fr_tr (ai_fr_aI rfl) (ai_fr_aI rfl)
              rw [fT_.1 13 0 107 rfl, fT_.1 13 0 106 rfl, fr_arr (t := 185) (i := 0) fT_ rfl]
              exact hiv_
            · have fT_ : ai_fr (sx_W w118) S_ ((sm_aI (sm_aI Sx9_ 218 0 (2 * i_).toNat (-1)) 218 0 (2 * i_ + 1).toNat (-1))) := by
                first
                | (have y8_ := f142_; exact ai_fr_tr (ai_fr_tr (fr_le f142_ rfl) (ai_fr_aI rfl)) (ai_fr_aI rfl))
                | exact ai_fr_tr (ai_fr_aI rfl) (ai_fr_aI rfl)
              exact rcf_tr hk_ (rcf_fr fT_ rfl)
            · have fT_ : ai_fr (sx_W w118) S_ ((sm_aI (sm_aI Sx9_ 218 0 (2 * i_).toNat (-1)) 218 0 (2 * i_ + 1).toNat (-1))) := by
                first
                | (have y8_ := f142_; exact ai_fr_tr (ai_fr_tr (fr_le f142_ rfl) (ai_fr_aI rfl)) (ai_fr_aI rfl))
                | exact ai_fr_tr (ai_fr_aI rfl) (ai_fr_aI rfl)
              rw [fr_arr (t := 222) (i := 0) fT_ rfl]
              exact ht_
            · have fT_ : ai_fr (sx_W w118) S_ ((sm_aI (sm_aI Sx9_ 218 0 (2 * i_).toNat (-1)) 218 0 (2 * i_ + 1).toNat (-1))) := by
                first
                | (have y8_ := f142_; exact ai_fr_tr (ai_fr_tr (fr_le f142_ rfl) (ai_fr_aI rfl)) (ai_fr_aI rfl))
                | exact ai_fr_tr (ai_fr_aI rfl) (ai_fr_aI rfl)
              exact (rcm_fr hrc_ fT_).1
            · have fT_ : ai_fr (sx_W w118) S_ ((sm_aI (sm_aI Sx9_ 218 0 (2 * i_).toNat (-1)) 218 0 (2 * i_ + 1).toNat (-1))) := by
                first
                | (have y8_ := f142_; exact ai_fr_tr (ai_fr_tr (fr_le f142_ rfl) (ai_fr_aI rfl)) (ai_fr_aI rfl))
                | exact ai_fr_tr (ai_fr_aI rfl) (ai_fr_aI rfl)
              exact (fT_.1 13 0 0 rfl).trans hcd_
            · have fT_ : ai_fr (sx_W w118) S_ ((sm_aI (sm_aI Sx9_ 218 0 (2 * i_).toNat (-1)) 218 0 (2 * i_ + 1).toNat (-1))) := by
                first
                | (have y8_ := f142_; exact ai_fr_tr (ai_fr_tr (fr_le f142_ rfl) (ai_fr_aI rfl)) (ai_fr_aI rfl))
                | exact ai_fr_tr (ai_fr_aI rfl) (ai_fr_aI rfl)
              rw [rfv_cg (fr_arr (t := 185) (i := 0) fT_ rfl) (fr_arr (t := 186) (i := 0) fT_ rfl) (fr_arr (t := 187) (i := 0) fT_ rfl), fT_.1 13 0 107 rfl, fT_.1 13 0 108 rfl, fr_arr (t := 184) (i := 0) fT_ rfl, fr_arr (t := 187) (i := 0) fT_ rfl]
              exact hiw_
            · exact hok_
            · have fT_ : ai_fr (sx_W w118) S_ ((sm_aI (sm_aI Sx9_ 218 0 (2 * i_).toNat (-1)) 218 0 (2 * i_ + 1).toNat (-1))) := by
                first
                | (have y8_ := f142_; exact ai_fr_tr (ai_fr_tr (fr_le f142_ rfl) (ai_fr_aI rfl)) (ai_fr_aI rfl))
                | exact ai_fr_tr (ai_fr_aI rfl) (ai_fr_aI rfl)
              exact rne_fr hun_ fT_
            · have fT_ : ai_fr (sx_W w118) S_ ((sm_aI (sm_aI Sx9_ 218 0 (2 * i_).toNat (-1)) 218 0 (2 * i_ + 1).toNat (-1))) := by
                first
                | (have y8_ := f142_; exact ai_fr_tr (ai_fr_tr (fr_le f142_ rfl) (ai_fr_aI rfl)) (ai_fr_aI rfl))
                | exact ai_fr_tr (ai_fr_aI rfl) (ai_fr_aI rfl)
              exact lgn_cg hl_ (fr_arr fT_ rfl) (fr_arr fT_ rfl) (fr_arr fT_ rfl)
            · have fT_ : ai_fr (sx_W w118) S_ ((sm_aI (sm_aI Sx9_ 218 0 (2 * i_).toNat (-1)) 218 0 (2 * i_ + 1).toNat (-1))) := by
                first
                | (have y8_ := f142_; exact ai_fr_tr (ai_fr_tr (fr_le f142_ rfl) (ai_fr_aI rfl)) (ai_fr_aI rfl))
                | exact ai_fr_tr (ai_fr_aI rfl) (ai_fr_aI rfl)
              intro n9_ u0_ u1_ u2_
              rw [fr_arr (t := 202) (i := 0) fT_ rfl] at u2_
              refine wok2_a (wok2_a ?_)
              first
              | (have y8_ := e142_; by_cases z9_ : n9_ = i_; (subst z9_; exact e142_.1); exact wok2_cg i142_ (hw_ n9_ u0_ (by omega) u2_) e142_.2 (by omega) (by omega) (fr_arr f142_ rfl) (f142_.1 13 0 106 rfl) (f142_.1 13 0 108 rfl) (fr_arr f142_ rfl) (fr_arr f142_ rfl))
              | exact hw_ n9_ u0_ (by (have z9_ : n9_ ≠ i_ := fun z9_ => by (subst z9_; omega)); omega) u2_
            · intro G9_ n9_ u0_ u1_ u2_ u3_
              (try simp only [rd_eq, rd_ne, rf_eq, rf_nk, rf_nt, rd_fa, rd_af, rd_fl, rd_al, rd_lf, rd_la, rd_leq, rd_lne, rd_fr, rd_ar, ne_eq, Nat.reduceEqDiff, not_false_eq_true] at *)
              first
              | (exfalso; omega)
              | (have y8_ := e142_; have u4_ := u3_; rw [g202_] at u2_; rw [g203_] at u3_; by_cases z9_ : n9_ = i_; (subst z9_; omega); (rw [(e142_.2.2 (2 * n9_).toNat (by omega)).1]; exact hgr_ (by omega) n9_ u0_ (by omega) u2_ u3_))
              | (have z9_ : n9_ ≠ i_ := fun z9_ => by (subst z9_; omega)
                 exact hgr_ G9_ n9_ u0_ (by omega) u2_ u3_)
            · intro j9_ u0_ u1_
              (try simp only [rd_eq, rd_ne, rf_eq, rf_nk, rf_nt, rd_fa, rd_af, rd_fl, rd_al, rd_lf, rd_la, rd_leq, rd_lne, rd_fr, rd_ar, ne_eq, Nat.reduceEqDiff, not_false_eq_true])
              split
              · rfl
              · split
                · rfl
                · first | (have y8_ := e142_; rw [g218_]; exact hn2_ j9_ u0_ (by omega)) | exact hn2_ j9_ u0_ (by omega)
            · have fB_ : ai_fr (sx_W ([], [218], [])) Sx9_ ((sm_aI (sm_aI Sx9_ 218 0 (2 * i_).toNat (-1)) 218 0 (2 * i_ + 1).toNat (-1))) := ai_fr_tr (ai_fr_aI rfl) (ai_fr_aI rfl)
              intro x_ hx_ u1_
              first
              | (have y8_ := RN142_; have t9_ := (rcm_fr RC142_.1 fB_).2; rw [t9_, RC142_.2] at hx_; rw [t9_, RC142_.2]; exact rnw_fr (TR142_ x_ hx_) (RN142_ x_ hx_ (by omega)) i142_ fB_)
              | (have t9_ := (rcm_fr hrc_ fB_).2; rw [t9_] at hx_; rw [t9_]; exact rnw_fr (hrc_.2 x_ hx_).1 (hrn_ x_ hx_ (by (have z9_ : (x_ : Int) ≠ i_ := fun z9_ => by (have y9_ := hx_.2.2; rw [show x_ = i_.toNat by omega] at y9_; omega)); omega)) hI_ fB_)
            · have fB_ : ai_fr (sx_W ([], [218], [])) Sx9_ ((sm_aI (sm_aI Sx9_ 218 0 (2 * i_).toNat (-1)) 218 0 (2 * i_ + 1).toNat (-1))) := ai_fr_tr (ai_fr_aI rfl) (ai_fr_aI rfl)
              refine fun z9_ => ?_
              first
              | (exfalso; omega)
              | (have y8_ := e142_; have t9_ := (rcm_fr RC142_.1 fB_).2; by_cases y9_ : gd_ = 0; (obtain ⟨x9_, a9_, b9_, c9_, k9_⟩ := hbd_ y9_; exact ⟨x9_, by (rw [t9_, RC142_.2]; exact a9_), by omega, by (rw [fr_arr (t := 203) (i := 0) fB_ rfl, g203_]; exact c9_), by (rw [fr_arr (t := 210) (i := 0) fB_ rfl, (e142_.2.2 (2 * x9_) (by omega)).1]; exact k9_)⟩); exact ⟨i_.toNat, by (rw [t9_, RC142_.2]; exact T142_), by omega, by (rw [fr_arr (t := 203) (i := 0) fB_ rfl]; omega), by (rw [fr_arr (t := 210) (i := 0) fB_ rfl, show 2 * i_.toNat = (2 * i_).toNat by omega]; omega)⟩)
              | (obtain ⟨x9_, a9_, b9_, c9_, k9_⟩ := hbd_ (by omega); exact ⟨x9_, by (rw [(rcm_fr hrc_ fB_).2]; exact a9_), by omega, by (rw [fr_arr (t := 203) (i := 0) fB_ rfl]; exact c9_), by (rw [fr_arr (t := 210) (i := 0) fB_ rfl]; exact k9_)⟩)
            · have fB_ : ai_fr (sx_W ([], [218], [])) Sx9_ ((sm_aI (sm_aI Sx9_ 218 0 (2 * i_).toNat (-1)) 218 0 (2 * i_ + 1).toNat (-1))) := ai_fr_tr (ai_fr_aI rfl) (ai_fr_aI rfl)
              rw [fB_.1 13 0 127 rfl, fr_arr (t := 213) (i := 0) fB_ rfl]
              first | (have y8_ := d142_; exact ⟨⟨by omega, by omega⟩, d142_.2.2⟩) | exact ⟨⟨by omega, by omega⟩, hrd_.2⟩
            · omega
          · have cx14_ : ¬ (gd_ = 0) := of_decide_eq_false cx14_
            refine sm_T_go 3 (c1 := (156, [some (.inr (.inr (some (13, 0)))), some (.inl a1_), some (.inl a2_), some (.inl c_), some (.inl gd_), some (.inl i_)], [.inl i_, .inr (.inr (some (203, 0)))], Sx9_)) rfl ?_
            refine sm_T_zald (n := 2048) rfl rfl (by omega) (by omega) ?_
            have bx19_ : 0 ≤ Sx9_.2.2.1 203 0 i_.toNat ∧ Sx9_.2.2.1 203 0 i_.toNat ≤ 1 := hIx10_.2 203 0 _
            refine sm_T_b0 (a := 0) (z := 18) rfl (fun cx20_ => ?_) (fun cx20_ => ?_)
            · have cx20_ : (Sx9_.2.2.1 203 0 i_.toNat) = 0 := of_decide_eq_true cx20_
              refine sm_T_go 7 (c1 := (189, [some (.inr (.inr (some (13, 0)))), some (.inl a1_), some (.inl a2_), some (.inl c_), some (.inl 1), some (.inl i_)], [.inl i_, .inl 2, .inr (.inr (some (218, 0)))], Sx9_)) rfl ?_
              refine sm_T_bin (w := 2 * i_) rfl (bi_mul (by omega) (by omega) (by omega)) ?_ -- pc_ 189
              refine sm_T_go 1 (c1 := (191, [some (.inr (.inr (some (13, 0)))), some (.inl a1_), some (.inl a2_), some (.inl c_), some (.inl 1), some (.inl i_)], [.inl (-1), .inl (2 * i_), .inr (.inr (some (218, 0)))], Sx9_)) rfl ?_
              refine sm_T_iast (n := 4096) rfl rfl (by omega) (by omega) ?_
              have hIx21_ : gi (sm_aI Sx9_ 218 0 (2 * i_).toNat (-1)) := gi_aI hIx10_ (show (-2) ≤ (-1) ∧ (-1) ≤ 9000 from ⟨by omega, by omega⟩)
              have hFx22_ : ai_fr (sx_W vw_419f) S0_ (sm_aI Sx9_ 218 0 (2 * i_).toNat (-1)) := ai_fr_tr hFx13_ (ai_fr_aI rfl)
              refine sm_T_go 4 (c1 := (199, [some (.inr (.inr (some (13, 0)))), some (.inl a1_), some (.inl a2_), some (.inl c_), some (.inl 1), some (.inl i_)], [.inl i_, .inl 2, .inr (.inr (some (218, 0)))], sm_aI Sx9_ 218 0 (2 * i_).toNat (-1))) rfl ?_
              refine sm_T_bin (w := 2 * i_) rfl (bi_mul (by omega) (by omega) (by omega)) ?_ -- pc_ 199
              refine sm_T_go 1 (c1 := (201, [some (.inr (.inr (some (13, 0)))), some (.inl a1_), some (.inl a2_), some (.inl c_), some (.inl 1), some (.inl i_)], [.inl 1, .inl (2 * i_), .inr (.inr (some (218, 0)))], sm_aI Sx9_ 218 0 (2 * i_).toNat (-1))) rfl ?_
              refine sm_T_bin (w := 2 * i_ + 1) rfl (bi_add (by omega) (by omega) (by omega)) ?_ -- pc_ 201
              refine sm_T_go 1 (c1 := (203, [some (.inr (.inr (some (13, 0)))), some (.inl a1_), some (.inl a2_), some (.inl c_), some (.inl 1), some (.inl i_)], [.inl (-1), .inl (2 * i_ + 1), .inr (.inr (some (218, 0)))], sm_aI Sx9_ 218 0 (2 * i_).toNat (-1))) rfl ?_
              refine sm_T_iast (n := 4096) rfl rfl (by omega) (by omega) ?_
              have hIx23_ : gi (sm_aI (sm_aI Sx9_ 218 0 (2 * i_).toNat (-1)) 218 0 (2 * i_ + 1).toNat (-1)) := gi_aI hIx21_ (show (-2) ≤ (-1) ∧ (-1) ≤ 9000 from ⟨by omega, by omega⟩)
              have hFx24_ : ai_fr (sx_W vw_419f) S0_ (sm_aI (sm_aI Sx9_ 218 0 (2 * i_).toNat (-1)) 218 0 (2 * i_ + 1).toNat (-1)) := ai_fr_tr hFx22_ (ai_fr_aI rfl)
              refine sm_T_inc (a := 5) (z := 1) (v := i_) (w := i_ + 1) rfl rfl (by omega) (by omega) (by omega) ?_ -- pc_ 204
              refine sm_T_go 1 (c1 := (118, [some (.inr (.inr (some (13, 0)))), some (.inl a1_), some (.inl a2_), some (.inl c_), some (.inl 1), some (.inl (i_ + 1))], [], sm_aI (sm_aI Sx9_ 218 0 (2 * i_).toNat (-1)) 218 0 (2 * i_ + 1).toNat (-1))) rfl ?_
              refine ih_.1 c_ 1 (i_ + 1) (sm_aI (sm_aI Sx9_ 218 0 (2 * i_).toNat (-1)) 218 0 (2 * i_ + 1).toNat (-1)) hIx23_ hFx24_ ⟨?_, ?_, ?_, ?_, ?_, ?_, ?_, ?_, ?_, ?_, ?_, ?_, ?_, ?_, ?_, ?_, ?_, ?_, ?_, trivial⟩ ?_
              · omega
              · have fT_ : ai_fr (sx_W w118) S_ ((sm_aI (sm_aI Sx9_ 218 0 (2 * i_).toNat (-1)) 218 0 (2 * i_ + 1).toNat (-1))) := by
                  first
                  | (have y8_ := f142_; exact ai_fr_tr (ai_fr_tr (fr_le f142_ rfl) (ai_fr_aI rfl)) (ai_fr_aI rfl))
                  | exact ai_fr_tr (ai_fr_aI rfl) (ai_fr_aI rfl)
                exact dmp_fr hd_ fT_
              · have fT_ : ai_fr (sx_W w118) S_ ((sm_aI (sm_aI Sx9_ 218 0 (2 * i_).toNat (-1)) 218 0 (2 * i_ + 1).toNat (-1))) := by
                  first
                  | (have y8_ := f142_; exact ai_fr_tr (ai_fr_tr (fr_le f142_ rfl) (ai_fr_aI rfl)) (ai_fr_aI rfl))
                  | exact ai_fr_tr (ai_fr_aI rfl) (ai_fr_aI rfl)
                rw [fT_.1 13 0 106 rfl]
                exact hlb_
              · have fT_ : ai_fr (sx_W w118) S_ ((sm_aI (sm_aI Sx9_ 218 0 (2 * i_).toNat (-1)) 218 0 (2 * i_ + 1).toNat (-1))) := by
                  first
                  | (have y8_ := f142_; exact ai_fr_tr (ai_fr_tr (fr_le f142_ rfl) (ai_fr_aI rfl)) (ai_fr_aI rfl))
                  | exact ai_fr_tr (ai_fr_aI rfl) (ai_fr_aI rfl)
                exact rtd_fr hr_ fT_
              · have fT_ : ai_fr (sx_W w118) S_ ((sm_aI (sm_aI Sx9_ 218 0 (2 * i_).toNat (-1)) 218 0 (2 * i_ + 1).toNat (-1))) := by
                  first
                  | (have y8_ := f142_; exact ai_fr_tr (ai_fr_tr (fr_le f142_ rfl) (ai_fr_aI rfl)) (ai_fr_aI rfl))
                  | exact ai_fr_tr (ai_fr_aI rfl) (ai_fr_aI rfl)
                rw [fT_.1 13 0 107 rfl, fT_.1 13 0 106 rfl, fr_arr (t := 185) (i := 0) fT_ rfl]
                exact hiv_
              · have fT_ : ai_fr (sx_W w118) S_ ((sm_aI (sm_aI Sx9_ 218 0 (2 * i_).toNat (-1)) 218 0 (2 * i_ + 1).toNat (-1))) := by
                  first
                  | (have y8_ := f142_; exact ai_fr_tr (ai_fr_tr (fr_le f142_ rfl) (ai_fr_aI rfl)) (ai_fr_aI rfl))
                  | exact ai_fr_tr (ai_fr_aI rfl) (ai_fr_aI rfl)
                exact rcf_tr hk_ (rcf_fr fT_ rfl)
              · have fT_ : ai_fr (sx_W w118) S_ ((sm_aI (sm_aI Sx9_ 218 0 (2 * i_).toNat (-1)) 218 0 (2 * i_ + 1).toNat (-1))) := by
                  first
                  | (have y8_ := f142_; exact ai_fr_tr (ai_fr_tr (fr_le f142_ rfl) (ai_fr_aI rfl)) (ai_fr_aI rfl))
                  | exact ai_fr_tr (ai_fr_aI rfl) (ai_fr_aI rfl)
                rw [fr_arr (t := 222) (i := 0) fT_ rfl]
                exact ht_
              · have fT_ : ai_fr (sx_W w118) S_ ((sm_aI (sm_aI Sx9_ 218 0 (2 * i_).toNat (-1)) 218 0 (2 * i_ + 1).toNat (-1))) := by
                  first
                  | (have y8_ := f142_; exact ai_fr_tr (ai_fr_tr (fr_le f142_ rfl) (ai_fr_aI rfl)) (ai_fr_aI rfl))
                  | exact ai_fr_tr (ai_fr_aI rfl) (ai_fr_aI rfl)
                exact (rcm_fr hrc_ fT_).1
              · have fT_ : ai_fr (sx_W w118) S_ ((sm_aI (sm_aI Sx9_ 218 0 (2 * i_).toNat (-1)) 218 0 (2 * i_ + 1).toNat (-1))) := by
                  first
                  | (have y8_ := f142_; exact ai_fr_tr (ai_fr_tr (fr_le f142_ rfl) (ai_fr_aI rfl)) (ai_fr_aI rfl))
                  | exact ai_fr_tr (ai_fr_aI rfl) (ai_fr_aI rfl)
                exact (fT_.1 13 0 0 rfl).trans hcd_
              · have fT_ : ai_fr (sx_W w118) S_ ((sm_aI (sm_aI Sx9_ 218 0 (2 * i_).toNat (-1)) 218 0 (2 * i_ + 1).toNat (-1))) := by
                  first
                  | (have y8_ := f142_; exact ai_fr_tr (ai_fr_tr (fr_le f142_ rfl) (ai_fr_aI rfl)) (ai_fr_aI rfl))
                  | exact ai_fr_tr (ai_fr_aI rfl) (ai_fr_aI rfl)
                rw [rfv_cg (fr_arr (t := 185) (i := 0) fT_ rfl) (fr_arr (t := 186) (i := 0) fT_ rfl) (fr_arr (t := 187) (i := 0) fT_ rfl), fT_.1 13 0 107 rfl, fT_.1 13 0 108 rfl, fr_arr (t := 184) (i := 0) fT_ rfl, fr_arr (t := 187) (i := 0) fT_ rfl]
                exact hiw_
              · exact hok_
              · have fT_ : ai_fr (sx_W w118) S_ ((sm_aI (sm_aI Sx9_ 218 0 (2 * i_).toNat (-1)) 218 0 (2 * i_ + 1).toNat (-1))) := by
                  first
                  | (have y8_ := f142_; exact ai_fr_tr (ai_fr_tr (fr_le f142_ rfl) (ai_fr_aI rfl)) (ai_fr_aI rfl))
                  | exact ai_fr_tr (ai_fr_aI rfl) (ai_fr_aI rfl)
                exact rne_fr hun_ fT_
              · have fT_ : ai_fr (sx_W w118) S_ ((sm_aI (sm_aI Sx9_ 218 0 (2 * i_).toNat (-1)) 218 0 (2 * i_ + 1).toNat (-1))) := by
                  first
                  | (have y8_ := f142_; exact ai_fr_tr (ai_fr_tr (fr_le f142_ rfl) (ai_fr_aI rfl)) (ai_fr_aI rfl))
                  | exact ai_fr_tr (ai_fr_aI rfl) (ai_fr_aI rfl)
                exact lgn_cg hl_ (fr_arr fT_ rfl) (fr_arr fT_ rfl) (fr_arr fT_ rfl)
              · have fT_ : ai_fr (sx_W w118) S_ ((sm_aI (sm_aI Sx9_ 218 0 (2 * i_).toNat (-1)) 218 0 (2 * i_ + 1).toNat (-1))) := by
                  first
                  | (have y8_ := f142_; exact ai_fr_tr (ai_fr_tr (fr_le f142_ rfl) (ai_fr_aI rfl)) (ai_fr_aI rfl))
                  | exact ai_fr_tr (ai_fr_aI rfl) (ai_fr_aI rfl)
                intro n9_ u0_ u1_ u2_
                rw [fr_arr (t := 202) (i := 0) fT_ rfl] at u2_
                refine wok2_a (wok2_a ?_)
                first
                | (have y8_ := e142_; by_cases z9_ : n9_ = i_; (subst z9_; exact e142_.1); exact wok2_cg i142_ (hw_ n9_ u0_ (by omega) u2_) e142_.2 (by omega) (by omega) (fr_arr f142_ rfl) (f142_.1 13 0 106 rfl) (f142_.1 13 0 108 rfl) (fr_arr f142_ rfl) (fr_arr f142_ rfl))
                | exact hw_ n9_ u0_ (by (have z9_ : n9_ ≠ i_ := fun z9_ => by (subst z9_; omega)); omega) u2_
              · intro G9_ n9_ u0_ u1_ u2_ u3_
                (try simp only [rd_eq, rd_ne, rf_eq, rf_nk, rf_nt, rd_fa, rd_af, rd_fl, rd_al, rd_lf, rd_la, rd_leq, rd_lne, rd_fr, rd_ar, ne_eq, Nat.reduceEqDiff, not_false_eq_true] at *)
                first
                | (exfalso; omega)
                | (have y8_ := e142_; have u4_ := u3_; rw [g202_] at u2_; rw [g203_] at u3_; by_cases z9_ : n9_ = i_; (subst z9_; omega); (rw [(e142_.2.2 (2 * n9_).toNat (by omega)).1]; exact hgr_ (by omega) n9_ u0_ (by omega) u2_ u3_))
                | (have z9_ : n9_ ≠ i_ := fun z9_ => by (subst z9_; omega)
                   exact hgr_ G9_ n9_ u0_ (by omega) u2_ u3_)
              · intro j9_ u0_ u1_
                (try simp only [rd_eq, rd_ne, rf_eq, rf_nk, rf_nt, rd_fa, rd_af, rd_fl, rd_al, rd_lf, rd_la, rd_leq, rd_lne, rd_fr, rd_ar, ne_eq, Nat.reduceEqDiff, not_false_eq_true])
                split
                · rfl
                · split
                  · rfl
                  · first | (have y8_ := e142_; rw [g218_]; exact hn2_ j9_ u0_ (by omega)) | exact hn2_ j9_ u0_ (by omega)
              · have fB_ : ai_fr (sx_W ([], [218], [])) Sx9_ ((sm_aI (sm_aI Sx9_ 218 0 (2 * i_).toNat (-1)) 218 0 (2 * i_ + 1).toNat (-1))) := ai_fr_tr (ai_fr_aI rfl) (ai_fr_aI rfl)
                intro x_ hx_ u1_
                first
                | (have y8_ := RN142_; have t9_ := (rcm_fr RC142_.1 fB_).2; rw [t9_, RC142_.2] at hx_; rw [t9_, RC142_.2]; exact rnw_fr (TR142_ x_ hx_) (RN142_ x_ hx_ (by omega)) i142_ fB_)
                | (have t9_ := (rcm_fr hrc_ fB_).2; rw [t9_] at hx_; rw [t9_]; exact rnw_fr (hrc_.2 x_ hx_).1 (hrn_ x_ hx_ (by (have z9_ : (x_ : Int) ≠ i_ := fun z9_ => by (have y9_ := hx_.2.2; rw [show x_ = i_.toNat by omega] at y9_; omega)); omega)) hI_ fB_)
              · have fB_ : ai_fr (sx_W ([], [218], [])) Sx9_ ((sm_aI (sm_aI Sx9_ 218 0 (2 * i_).toNat (-1)) 218 0 (2 * i_ + 1).toNat (-1))) := ai_fr_tr (ai_fr_aI rfl) (ai_fr_aI rfl)
                refine fun z9_ => ?_
                first
                | (exfalso; omega)
                | (have y8_ := e142_; have t9_ := (rcm_fr RC142_.1 fB_).2; by_cases y9_ : gd_ = 0; (obtain ⟨x9_, a9_, b9_, c9_, k9_⟩ := hbd_ y9_; exact ⟨x9_, by (rw [t9_, RC142_.2]; exact a9_), by omega, by (rw [fr_arr (t := 203) (i := 0) fB_ rfl, g203_]; exact c9_), by (rw [fr_arr (t := 210) (i := 0) fB_ rfl, (e142_.2.2 (2 * x9_) (by omega)).1]; exact k9_)⟩); exact ⟨i_.toNat, by (rw [t9_, RC142_.2]; exact T142_), by omega, by (rw [fr_arr (t := 203) (i := 0) fB_ rfl]; omega), by (rw [fr_arr (t := 210) (i := 0) fB_ rfl, show 2 * i_.toNat = (2 * i_).toNat by omega]; omega)⟩)
                | (obtain ⟨x9_, a9_, b9_, c9_, k9_⟩ := hbd_ (by omega); exact ⟨x9_, by (rw [(rcm_fr hrc_ fB_).2]; exact a9_), by omega, by (rw [fr_arr (t := 203) (i := 0) fB_ rfl]; exact c9_), by (rw [fr_arr (t := 210) (i := 0) fB_ rfl]; exact k9_)⟩)
              · have fB_ : ai_fr (sx_W ([], [218], [])) Sx9_ ((sm_aI (sm_aI Sx9_ 218 0 (2 * i_).toNat (-1)) 218 0 (2 * i_ + 1).toNat (-1))) := ai_fr_tr (ai_fr_aI rfl) (ai_fr_aI rfl)
                rw [fB_.1 13 0 127 rfl, fr_arr (t := 213) (i := 0) fB_ rfl]
                first | (have y8_ := d142_; exact ⟨⟨by omega, by omega⟩, d142_.2.2⟩) | exact ⟨⟨by omega, by omega⟩, hrd_.2⟩
              · omega
            · have cx20_ : ¬ ((Sx9_.2.2.1 203 0 i_.toNat) = 0) := of_decide_eq_false cx20_
              refine sm_T_go 4 (c1 := (167, [some (.inr (.inr (some (13, 0)))), some (.inl a1_), some (.inl a2_), some (.inl c_), some (.inl gd_), some (.inl i_)], [.inl i_, .inl 2, .inr (.inr (some (210, 0)))], Sx9_)) rfl ?_
              refine sm_T_bin (w := 2 * i_) rfl (bi_mul (by omega) (by omega) (by omega)) ?_ -- pc_ 167
              refine sm_T_iald (n := 4096) rfl rfl (by omega) (by omega) ?_
              have bx25_ : 0 ≤ Sx9_.2.2.1 210 0 (2 * i_).toNat ∧ Sx9_.2.2.1 210 0 (2 * i_).toNat ≤ 1000000000 := hIx10_.2 210 0 _
              refine sm_T_nt (u := some (.inl 1000000000)) (S1 := Sx9_) rfl rfl rfl ?_
              refine sm_T_br (a := 3) (z := 7) rfl (fun cx26_ => ?_) (fun cx26_ => ?_)
              · have cx26_ : 1000000000 ≤ (Sx9_.2.2.1 210 0 (2 * i_).toNat) := of_decide_eq_true cx26_
                refine sm_T_go 6 (c1 := (189, [some (.inr (.inr (some (13, 0)))), some (.inl a1_), some (.inl a2_), some (.inl c_), some (.inl 0), some (.inl i_)], [.inl i_, .inl 2, .inr (.inr (some (218, 0)))], Sx9_)) rfl ?_
                refine sm_T_bin (w := 2 * i_) rfl (bi_mul (by omega) (by omega) (by omega)) ?_ -- pc_ 189
                refine sm_T_go 1 (c1 := (191, [some (.inr (.inr (some (13, 0)))), some (.inl a1_), some (.inl a2_), some (.inl c_), some (.inl 0), some (.inl i_)], [.inl (-1), .inl (2 * i_), .inr (.inr (some (218, 0)))], Sx9_)) rfl ?_
                refine sm_T_iast (n := 4096) rfl rfl (by omega) (by omega) ?_
                have hIx27_ : gi (sm_aI Sx9_ 218 0 (2 * i_).toNat (-1)) := gi_aI hIx10_ (show (-2) ≤ (-1) ∧ (-1) ≤ 9000 from ⟨by omega, by omega⟩)
                have hFx28_ : ai_fr (sx_W vw_419f) S0_ (sm_aI Sx9_ 218 0 (2 * i_).toNat (-1)) := ai_fr_tr hFx13_ (ai_fr_aI rfl)
                refine sm_T_go 4 (c1 := (199, [some (.inr (.inr (some (13, 0)))), some (.inl a1_), some (.inl a2_), some (.inl c_), some (.inl 0), some (.inl i_)], [.inl i_, .inl 2, .inr (.inr (some (218, 0)))], sm_aI Sx9_ 218 0 (2 * i_).toNat (-1))) rfl ?_
                refine sm_T_bin (w := 2 * i_) rfl (bi_mul (by omega) (by omega) (by omega)) ?_ -- pc_ 199
                refine sm_T_go 1 (c1 := (201, [some (.inr (.inr (some (13, 0)))), some (.inl a1_), some (.inl a2_), some (.inl c_), some (.inl 0), some (.inl i_)], [.inl 1, .inl (2 * i_), .inr (.inr (some (218, 0)))], sm_aI Sx9_ 218 0 (2 * i_).toNat (-1))) rfl ?_
                refine sm_T_bin (w := 2 * i_ + 1) rfl (bi_add (by omega) (by omega) (by omega)) ?_ -- pc_ 201
                refine sm_T_go 1 (c1 := (203, [some (.inr (.inr (some (13, 0)))), some (.inl a1_), some (.inl a2_), some (.inl c_), some (.inl 0), some (.inl i_)], [.inl (-1), .inl (2 * i_ + 1), .inr (.inr (some (218, 0)))], sm_aI Sx9_ 218 0 (2 * i_).toNat (-1))) rfl ?_
                refine sm_T_iast (n := 4096) rfl rfl (by omega) (by omega) ?_
                have hIx29_ : gi (sm_aI (sm_aI Sx9_ 218 0 (2 * i_).toNat (-1)) 218 0 (2 * i_ + 1).toNat (-1)) := gi_aI hIx27_ (show (-2) ≤ (-1) ∧ (-1) ≤ 9000 from ⟨by omega, by omega⟩)
                have hFx30_ : ai_fr (sx_W vw_419f) S0_ (sm_aI (sm_aI Sx9_ 218 0 (2 * i_).toNat (-1)) 218 0 (2 * i_ + 1).toNat (-1)) := ai_fr_tr hFx28_ (ai_fr_aI rfl)
                refine sm_T_inc (a := 5) (z := 1) (v := i_) (w := i_ + 1) rfl rfl (by omega) (by omega) (by omega) ?_ -- pc_ 204
                refine sm_T_go 1 (c1 := (118, [some (.inr (.inr (some (13, 0)))), some (.inl a1_), some (.inl a2_), some (.inl c_), some (.inl 0), some (.inl (i_ + 1))], [], sm_aI (sm_aI Sx9_ 218 0 (2 * i_).toNat (-1)) 218 0 (2 * i_ + 1).toNat (-1))) rfl ?_
                refine ih_.1 c_ 0 (i_ + 1) (sm_aI (sm_aI Sx9_ 218 0 (2 * i_).toNat (-1)) 218 0 (2 * i_ + 1).toNat (-1)) hIx29_ hFx30_ ⟨?_, ?_, ?_, ?_, ?_, ?_, ?_, ?_, ?_, ?_, ?_, ?_, ?_, ?_, ?_, ?_, ?_, ?_, ?_, trivial⟩ ?_
                · omega
                · have fT_ : ai_fr (sx_W w118) S_ ((sm_aI (sm_aI Sx9_ 218 0 (2 * i_).toNat (-1)) 218 0 (2 * i_ + 1).toNat (-1))) := by
                    first
                    | (have y8_ := f142_; exact ai_fr_tr (ai_fr_tr (fr_le f142_ rfl) (ai_fr_aI rfl)) (ai_fr_aI rfl))
                    | exact ai_fr_tr (ai_fr_aI rfl) (ai_fr_aI rfl)
                  exact dmp_fr hd_ fT_
                · have fT_ : ai_fr (sx_W w118) S_ ((sm_aI (sm_aI Sx9_ 218 0 (2 * i_).toNat (-1)) 218 0 (2 * i_ + 1).toNat (-1))) := by
                    first
                    | (have y8_ := f142_; exact ai_fr_tr (ai_fr_tr (fr_le f142_ rfl) (ai_fr_aI rfl)) (ai_fr_aI rfl))
                    | exact ai_fr_tr (ai_fr_aI rfl) (ai_fr_aI rfl)
                  rw [fT_.1 13 0 106 rfl]
                  exact hlb_
                · have fT_ : ai_fr (sx_W w118) S_ ((sm_aI (sm_aI Sx9_ 218 0 (2 * i_).toNat (-1)) 218 0 (2 * i_ + 1).toNat (-1))) := by
                    first
                    | (have y8_ := f142_; exact ai_fr_tr (ai_fr_tr (fr_le f142_ rfl) (ai_fr_aI rfl)) (ai_fr_aI rfl))
                    | exact ai_fr_tr (ai_fr_aI rfl) (ai_fr_aI rfl)
                  exact rtd_fr hr_ fT_
                · have fT_ : ai_fr (sx_W w118) S_ ((sm_aI (sm_aI Sx9_ 218 0 (2 * i_).toNat (-1)) 218 0 (2 * i_ + 1).toNat (-1))) := by
                    first
                    | (have y8_ := f142_; exact ai_fr_tr (ai_fr_tr (fr_le f142_ rfl) (ai_fr_aI rfl)) (ai_fr_aI rfl))
                    | exact ai_fr_tr (ai_fr_aI rfl) (ai_fr_aI rfl)
                  rw [fT_.1 13 0 107 rfl, fT_.1 13 0 106 rfl, fr_arr (t := 185) (i := 0) fT_ rfl]
                  exact hiv_
                · have fT_ : ai_fr (sx_W w118) S_ ((sm_aI (sm_aI Sx9_ 218 0 (2 * i_).toNat (-1)) 218 0 (2 * i_ + 1).toNat (-1))) := by
                    first
                    | (have y8_ := f142_; exact ai_fr_tr (ai_fr_tr (fr_le f142_ rfl) (ai_fr_aI rfl)) (ai_fr_aI rfl))
                    | exact ai_fr_tr (ai_fr_aI rfl) (ai_fr_aI rfl)
                  exact rcf_tr hk_ (rcf_fr fT_ rfl)
                · have fT_ : ai_fr (sx_W w118) S_ ((sm_aI (sm_aI Sx9_ 218 0 (2 * i_).toNat (-1)) 218 0 (2 * i_ + 1).toNat (-1))) := by
                    first
                    | (have y8_ := f142_; exact ai_fr_tr (ai_fr_tr (fr_le f142_ rfl) (ai_fr_aI rfl)) (ai_fr_aI rfl))
                    | exact ai_fr_tr (ai_fr_aI rfl) (ai_fr_aI rfl)
                  rw [fr_arr (t := 222) (i := 0) fT_ rfl]
                  exact ht_
                · have fT_ : ai_fr (sx_W w118) S_ ((sm_aI (sm_aI Sx9_ 218 0 (2 * i_).toNat (-1)) 218 0 (2 * i_ + 1).toNat (-1))) := by
                    first
                    | (have y8_ := f142_; exact ai_fr_tr (ai_fr_tr (fr_le f142_ rfl) (ai_fr_aI rfl)) (ai_fr_aI rfl))
                    | exact ai_fr_tr (ai_fr_aI rfl) (ai_fr_aI rfl)
                  exact (rcm_fr hrc_ fT_).1
                · have fT_ : ai_fr (sx_W w118) S_ ((sm_aI (sm_aI Sx9_ 218 0 (2 * i_).toNat (-1)) 218 0 (2 * i_ + 1).toNat (-1))) := by
                    first
                    | (have y8_ := f142_; exact ai_fr_tr (ai_fr_tr (fr_le f142_ rfl) (ai_fr_aI rfl)) (ai_fr_aI rfl))
                    | exact ai_fr_tr (ai_fr_aI rfl) (ai_fr_aI rfl)
                  exact (fT_.1 13 0 0 rfl).trans hcd_
                · have fT_ : ai_fr (sx_W w118) S_ ((sm_aI (sm_aI Sx9_ 218 0 (2 * i_).toNat (-1)) 218 0 (2 * i_ + 1).toNat (-1))) := by
                    first
                    | (have y8_ := f142_; exact ai_fr_tr (ai_fr_tr (fr_le f142_ rfl) (ai_fr_aI rfl)) (ai_fr_aI rfl))
                    | exact ai_fr_tr (ai_fr_aI rfl) (ai_fr_aI rfl)
                  rw [rfv_cg (fr_arr (t := 185) (i := 0) fT_ rfl) (fr_arr (t := 186) (i := 0) fT_ rfl) (fr_arr (t := 187) (i := 0) fT_ rfl), fT_.1 13 0 107 rfl, fT_.1 13 0 108 rfl, fr_arr (t := 184) (i := 0) fT_ rfl, fr_arr (t := 187) (i := 0) fT_ rfl]
                  exact hiw_
                · exact hok_
                · have fT_ : ai_fr (sx_W w118) S_ ((sm_aI (sm_aI Sx9_ 218 0 (2 * i_).toNat (-1)) 218 0 (2 * i_ + 1).toNat (-1))) := by
                    first
                    | (have y8_ := f142_; exact ai_fr_tr (ai_fr_tr (fr_le f142_ rfl) (ai_fr_aI rfl)) (ai_fr_aI rfl))
                    | exact ai_fr_tr (ai_fr_aI rfl) (ai_fr_aI rfl)
                  exact rne_fr hun_ fT_
                · have fT_ : ai_fr (sx_W w118) S_ ((sm_aI (sm_aI Sx9_ 218 0 (2 * i_).toNat (-1)) 218 0 (2 * i_ + 1).toNat (-1))) := by
                    first
                    | (have y8_ := f142_; exact ai_fr_tr (ai_fr_tr (fr_le f142_ rfl) (ai_fr_aI rfl)) (ai_fr_aI rfl))
                    | exact ai_fr_tr (ai_fr_aI rfl) (ai_fr_aI rfl)
                  exact lgn_cg hl_ (fr_arr fT_ rfl) (fr_arr fT_ rfl) (fr_arr fT_ rfl)
                · have fT_ : ai_fr (sx_W w118) S_ ((sm_aI (sm_aI Sx9_ 218 0 (2 * i_).toNat (-1)) 218 0 (2 * i_ + 1).toNat (-1))) := by
                    first
                    | (have y8_ := f142_; exact ai_fr_tr (ai_fr_tr (fr_le f142_ rfl) (ai_fr_aI rfl)) (ai_fr_aI rfl))
                    | exact ai_fr_tr (ai_fr_aI rfl) (ai_fr_aI rfl)
                  intro n9_ u0_ u1_ u2_
                  rw [fr_arr (t := 202) (i := 0) fT_ rfl] at u2_
                  refine wok2_a (wok2_a ?_)
                  first
                  | (have y8_ := e142_; by_cases z9_ : n9_ = i_; (subst z9_; exact e142_.1); exact wok2_cg i142_ (hw_ n9_ u0_ (by omega) u2_) e142_.2 (by omega) (by omega) (fr_arr f142_ rfl) (f142_.1 13 0 106 rfl) (f142_.1 13 0 108 rfl) (fr_arr f142_ rfl) (fr_arr f142_ rfl))
                  | exact hw_ n9_ u0_ (by (have z9_ : n9_ ≠ i_ := fun z9_ => by (subst z9_; omega)); omega) u2_
                · intro G9_ n9_ u0_ u1_ u2_ u3_
                  (try simp only [rd_eq, rd_ne, rf_eq, rf_nk, rf_nt, rd_fa, rd_af, rd_fl, rd_al, rd_lf, rd_la, rd_leq, rd_lne, rd_fr, rd_ar, ne_eq, Nat.reduceEqDiff, not_false_eq_true] at *)
                  first
                  | (exfalso; omega)
                  | (have y8_ := e142_; have u4_ := u3_; rw [g202_] at u2_; rw [g203_] at u3_; by_cases z9_ : n9_ = i_; (subst z9_; omega); (rw [(e142_.2.2 (2 * n9_).toNat (by omega)).1]; exact hgr_ (by omega) n9_ u0_ (by omega) u2_ u3_))
                  | (have z9_ : n9_ ≠ i_ := fun z9_ => by (subst z9_; omega)
                     exact hgr_ G9_ n9_ u0_ (by omega) u2_ u3_)
                · intro j9_ u0_ u1_
                  (try simp only [rd_eq, rd_ne, rf_eq, rf_nk, rf_nt, rd_fa, rd_af, rd_fl, rd_al, rd_lf, rd_la, rd_leq, rd_lne, rd_fr, rd_ar, ne_eq, Nat.reduceEqDiff, not_false_eq_true])
                  split
                  · rfl
                  · split
                    · rfl
                    · first | (have y8_ := e142_; rw [g218_]; exact hn2_ j9_ u0_ (by omega)) | exact hn2_ j9_ u0_ (by omega)
                · have fB_ : ai_fr (sx_W ([], [218], [])) Sx9_ ((sm_aI (sm_aI Sx9_ 218 0 (2 * i_).toNat (-1)) 218 0 (2 * i_ + 1).toNat (-1))) := ai_fr_tr (ai_fr_aI rfl) (ai_fr_aI rfl)
                  intro x_ hx_ u1_
                  first
                  | (have y8_ := RN142_; have t9_ := (rcm_fr RC142_.1 fB_).2; rw [t9_, RC142_.2] at hx_; rw [t9_, RC142_.2]; exact rnw_fr (TR142_ x_ hx_) (RN142_ x_ hx_ (by omega)) i142_ fB_)
                  | (have t9_ := (rcm_fr hrc_ fB_).2; rw [t9_] at hx_; rw [t9_]; exact rnw_fr (hrc_.2 x_ hx_).1 (hrn_ x_ hx_ (by (have z9_ : (x_ : Int) ≠ i_ := fun z9_ => by (have y9_ := hx_.2.2; rw [show x_ = i_.toNat by omega] at y9_; omega)); omega)) hI_ fB_)
                · have fB_ : ai_fr (sx_W ([], [218], [])) Sx9_ ((sm_aI (sm_aI Sx9_ 218 0 (2 * i_).toNat (-1)) 218 0 (2 * i_ + 1).toNat (-1))) := ai_fr_tr (ai_fr_aI rfl) (ai_fr_aI rfl)
                  refine fun z9_ => ?_
                  first
                  | (exfalso; omega)
                  | (have y8_ := e142_; have t9_ := (rcm_fr RC142_.1 fB_).2; by_cases y9_ : gd_ = 0; (obtain ⟨x9_, a9_, b9_, c9_, k9_⟩ := hbd_ y9_; exact ⟨x9_, by (rw [t9_, RC142_.2]; exact a9_), by omega, by (rw [fr_arr (t := 203) (i := 0) fB_ rfl, g203_]; exact c9_), by (rw [fr_arr (t := 210) (i := 0) fB_ rfl, (e142_.2.2 (2 * x9_) (by omega)).1]; exact k9_)⟩); exact ⟨i_.toNat, by (rw [t9_, RC142_.2]; exact T142_), by omega, by (rw [fr_arr (t := 203) (i := 0) fB_ rfl]; omega), by (rw [fr_arr (t := 210) (i := 0) fB_ rfl, show 2 * i_.toNat = (2 * i_).toNat by omega]; omega)⟩)
                  | (obtain ⟨x9_, a9_, b9_, c9_, k9_⟩ := hbd_ (by omega); exact ⟨x9_, by (rw [(rcm_fr hrc_ fB_).2]; exact a9_), by omega, by (rw [fr_arr (t := 203) (i := 0) fB_ rfl]; exact c9_), by (rw [fr_arr (t := 210) (i := 0) fB_ rfl]; exact k9_)⟩)
                · have fB_ : ai_fr (sx_W ([], [218], [])) Sx9_ ((sm_aI (sm_aI Sx9_ 218 0 (2 * i_).toNat (-1)) 218 0 (2 * i_ + 1).toNat (-1))) := ai_fr_tr (ai_fr_aI rfl) (ai_fr_aI rfl)
                  rw [fB_.1 13 0 127 rfl, fr_arr (t := 213) (i := 0) fB_ rfl]
                  first | (have y8_ := d142_; exact ⟨⟨by omega, by omega⟩, d142_.2.2⟩) | exact ⟨⟨by omega, by omega⟩, hrd_.2⟩
                · omega
              · have cx26_ : ¬ (1000000000 ≤ (Sx9_.2.2.1 210 0 (2 * i_).toNat)) := of_decide_eq_false cx26_
                refine sm_T_go 7 (c1 := (189, [some (.inr (.inr (some (13, 0)))), some (.inl a1_), some (.inl a2_), some (.inl c_), some (.inl 1), some (.inl i_)], [.inl i_, .inl 2, .inr (.inr (some (218, 0)))], Sx9_)) rfl ?_
                refine sm_T_bin (w := 2 * i_) rfl (bi_mul (by omega) (by omega) (by omega)) ?_ -- pc_ 189
                refine sm_T_go 1 (c1 := (191, [some (.inr (.inr (some (13, 0)))), some (.inl a1_), some (.inl a2_), some (.inl c_), some (.inl 1), some (.inl i_)], [.inl (-1), .inl (2 * i_), .inr (.inr (some (218, 0)))], Sx9_)) rfl ?_
                refine sm_T_iast (n := 4096) rfl rfl (by omega) (by omega) ?_
                have hIx31_ : gi (sm_aI Sx9_ 218 0 (2 * i_).toNat (-1)) := gi_aI hIx10_ (show (-2) ≤ (-1) ∧ (-1) ≤ 9000 from ⟨by omega, by omega⟩)
                have hFx32_ : ai_fr (sx_W vw_419f) S0_ (sm_aI Sx9_ 218 0 (2 * i_).toNat (-1)) := ai_fr_tr hFx13_ (ai_fr_aI rfl)
                refine sm_T_go 4 (c1 := (199, [some (.inr (.inr (some (13, 0)))), some (.inl a1_), some (.inl a2_), some (.inl c_), some (.inl 1), some (.inl i_)], [.inl i_, .inl 2, .inr (.inr (some (218, 0)))], sm_aI Sx9_ 218 0 (2 * i_).toNat (-1))) rfl ?_
                refine sm_T_bin (w := 2 * i_) rfl (bi_mul (by omega) (by omega) (by omega)) ?_ -- pc_ 199
                refine sm_T_go 1 (c1 := (201, [some (.inr (.inr (some (13, 0)))), some (.inl a1_), some (.inl a2_), some (.inl c_), some (.inl 1), some (.inl i_)], [.inl 1, .inl (2 * i_), .inr (.inr (some (218, 0)))], sm_aI Sx9_ 218 0 (2 * i_).toNat (-1))) rfl ?_
                refine sm_T_bin (w := 2 * i_ + 1) rfl (bi_add (by omega) (by omega) (by omega)) ?_ -- pc_ 201
                refine sm_T_go 1 (c1 := (203, [some (.inr (.inr (some (13, 0)))), some (.inl a1_), some (.inl a2_), some (.inl c_), some (.inl 1), some (.inl i_)], [.inl (-1), .inl (2 * i_ + 1), .inr (.inr (some (218, 0)))], sm_aI Sx9_ 218 0 (2 * i_).toNat (-1))) rfl ?_
                refine sm_T_iast (n := 4096) rfl rfl (by omega) (by omega) ?_
                have hIx33_ : gi (sm_aI (sm_aI Sx9_ 218 0 (2 * i_).toNat (-1)) 218 0 (2 * i_ + 1).toNat (-1)) := gi_aI hIx31_ (show (-2) ≤ (-1) ∧ (-1) ≤ 9000 from ⟨by omega, by omega⟩)
                have hFx34_ : ai_fr (sx_W vw_419f) S0_ (sm_aI (sm_aI Sx9_ 218 0 (2 * i_).toNat (-1)) 218 0 (2 * i_ + 1).toNat (-1)) := ai_fr_tr hFx32_ (ai_fr_aI rfl)
                refine sm_T_inc (a := 5) (z := 1) (v := i_) (w := i_ + 1) rfl rfl (by omega) (by omega) (by omega) ?_ -- pc_ 204
                refine sm_T_go 1 (c1 := (118, [some (.inr (.inr (some (13, 0)))), some (.inl a1_), some (.inl a2_), some (.inl c_), some (.inl 1), some (.inl (i_ + 1))], [], sm_aI (sm_aI Sx9_ 218 0 (2 * i_).toNat (-1)) 218 0 (2 * i_ + 1).toNat (-1))) rfl ?_
                refine ih_.1 c_ 1 (i_ + 1) (sm_aI (sm_aI Sx9_ 218 0 (2 * i_).toNat (-1)) 218 0 (2 * i_ + 1).toNat (-1)) hIx33_ hFx34_ ⟨?_, ?_, ?_, ?_, ?_, ?_, ?_, ?_, ?_, ?_, ?_, ?_, ?_, ?_, ?_, ?_, ?_, ?_, ?_, trivial⟩ ?_
                · omega
                · have fT_ : ai_fr (sx_W w118) S_ ((sm_aI (sm_aI Sx9_ 218 0 (2 * i_).toNat (-1)) 218 0 (2 * i_ + 1).toNat (-1))) := by
                    first
                    | (have y8_ := f142_; exact ai_fr_tr (ai_fr_tr (fr_le f142_ rfl) (ai_fr_aI rfl)) (ai_fr_aI rfl))
                    | exact ai_fr_tr (ai_fr_aI rfl) (ai_fr_aI rfl)
                  exact dmp_fr hd_ fT_
                · have fT_ : ai_fr (sx_W w118) S_ ((sm_aI (sm_aI Sx9_ 218 0 (2 * i_).toNat (-1)) 218 0 (2 * i_ + 1).toNat (-1))) := by
                    first
                    | (have y8_ := f142_; exact ai_fr_tr (ai_fr_tr (fr_le f142_ rfl) (ai_fr_aI rfl)) (ai_fr_aI rfl))
                    | exact ai_fr_tr (ai_fr_aI rfl) (ai_fr_aI rfl)
                  rw [fT_.1 13 0 106 rfl]
                  exact hlb_
                · have fT_ : ai_fr (sx_W w118) S_ ((sm_aI (sm_aI Sx9_ 218 0 (2 * i_).toNat (-1)) 218 0 (2 * i_ + 1).toNat (-1))) := by
                    first
                    | (have y8_ := f142_; exact ai_fr_tr (ai_fr_tr (fr_le f142_ rfl) (ai_fr_aI rfl)) (ai_fr_aI rfl))
                    | exact ai_fr_tr (ai_fr_aI rfl) (ai_fr_aI rfl)
                  exact rtd_fr hr_ fT_
                · have fT_ : ai_fr (sx_W w118) S_ ((sm_aI (sm_aI Sx9_ 218 0 (2 * i_).toNat (-1)) 218 0 (2 * i_ + 1).toNat (-1))) := by
                    first
                    | (have y8_ := f142_; exact ai_fr_tr (ai_fr_tr (fr_le f142_ rfl) (ai_fr_aI rfl)) (ai_fr_aI rfl))
                    | exact ai_fr_tr (ai_fr_aI rfl) (ai_fr_aI rfl)
                  rw [fT_.1 13 0 107 rfl, fT_.1 13 0 106 rfl, fr_arr (t := 185) (i := 0) fT_ rfl]
                  exact hiv_
                · have fT_ : ai_fr (sx_W w118) S_ ((sm_aI (sm_aI Sx9_ 218 0 (2 * i_).toNat (-1)) 218 0 (2 * i_ + 1).toNat (-1))) := by
                    first
                    | (have y8_ := f142_; exact ai_fr_tr (ai_fr_tr (fr_le f142_ rfl) (ai_fr_aI rfl)) (ai_fr_aI rfl))
                    | exact ai_fr_tr (ai_fr_aI rfl) (ai_fr_aI rfl)
                  exact rcf_tr hk_ (rcf_fr fT_ rfl)
                · have fT_ : ai_fr (sx_W w118) S_ ((sm_aI (sm_aI Sx9_ 218 0 (2 * i_).toNat (-1)) 218 0 (2 * i_ + 1).toNat (-1))) := by
                    first
                    | (have y8_ := f142_; exact ai_fr_tr (ai_fr_tr (fr_le f142_ rfl) (ai_fr_aI rfl)) (ai_fr_aI rfl))
                    | exact ai_fr_tr (ai_fr_aI rfl) (ai_fr_aI rfl)
                  rw [fr_arr (t := 222) (i := 0) fT_ rfl]
                  exact ht_
                · have fT_ : ai_fr (sx_W w118) S_ ((sm_aI (sm_aI Sx9_ 218 0 (2 * i_).toNat (-1)) 218 0 (2 * i_ + 1).toNat (-1))) := by
                    first
                    | (have y8_ := f142_; exact ai_fr_tr (ai_fr_tr (fr_le f142_ rfl) (ai_fr_aI rfl)) (ai_fr_aI rfl))
                    | exact ai_fr_tr (ai_fr_aI rfl) (ai_fr_aI rfl)
                  exact (rcm_fr hrc_ fT_).1
                · have fT_ : ai_fr (sx_W w118) S_ ((sm_aI (sm_aI Sx9_ 218 0 (2 * i_).toNat (-1)) 218 0 (2 * i_ + 1).toNat (-1))) := by
                    first
                    | (have y8_ := f142_; exact ai_fr_tr (ai_fr_tr (fr_le f142_ rfl) (ai_fr_aI rfl)) (ai_fr_aI rfl))
                    | exact ai_fr_tr (ai_fr_aI rfl) (ai_fr_aI rfl)
                  exact (fT_.1 13 0 0 rfl).trans hcd_
                · have fT_ : ai_fr (sx_W w118) S_ ((sm_aI (sm_aI Sx9_ 218 0 (2 * i_).toNat (-1)) 218 0 (2 * i_ + 1).toNat (-1))) := by
                    first
                    | (have y8_ := f142_; exact ai_fr_tr (ai_fr_tr (fr_le f142_ rfl) (ai_fr_aI rfl)) (ai_fr_aI rfl))
                    | exact ai_fr_tr (ai_fr_aI rfl) (ai_fr_aI rfl)
                  rw [rfv_cg (fr_arr (t := 185) (i := 0) fT_ rfl) (fr_arr (t := 186) (i := 0) fT_ rfl) (fr_arr (t := 187) (i := 0) fT_ rfl), fT_.1 13 0 107 rfl, fT_.1 13 0 108 rfl, fr_arr (t := 184) (i := 0) fT_ rfl, fr_arr (t := 187) (i := 0) fT_ rfl]
                  exact hiw_
                · exact hok_
                · have fT_ : ai_fr (sx_W w118) S_ ((sm_aI (sm_aI Sx9_ 218 0 (2 * i_).toNat (-1)) 218 0 (2 * i_ + 1).toNat (-1))) := by
                    first
                    | (have y8_ := f142_; exact ai_fr_tr (ai_fr_tr (fr_le f142_ rfl) (ai_fr_aI rfl)) (ai_fr_aI rfl))
                    | exact ai_fr_tr (ai_fr_aI rfl) (ai_fr_aI rfl)
                  exact rne_fr hun_ fT_
                · have fT_ : ai_fr (sx_W w118) S_ ((sm_aI (sm_aI Sx9_ 218 0 (2 * i_).toNat (-1)) 218 0 (2 * i_ + 1).toNat (-1))) := by
                    first
                    | (have y8_ := f142_; exact ai_fr_tr (ai_fr_tr (fr_le f142_ rfl) (ai_fr_aI rfl)) (ai_fr_aI rfl))
                    | exact ai_fr_tr (ai_fr_aI rfl) (ai_fr_aI rfl)
                  exact lgn_cg hl_ (fr_arr fT_ rfl) (fr_arr fT_ rfl) (fr_arr fT_ rfl)
                · have fT_ : ai_fr (sx_W w118) S_ ((sm_aI (sm_aI Sx9_ 218 0 (2 * i_).toNat (-1)) 218 0 (2 * i_ + 1).toNat (-1))) := by
                    first
                    | (have y8_ := f142_; exact ai_fr_tr (ai_fr_tr (fr_le f142_ rfl) (ai_fr_aI rfl)) (ai_fr_aI rfl))
                    | exact ai_fr_tr (ai_fr_aI rfl) (ai_fr_aI rfl)
                  intro n9_ u0_ u1_ u2_
                  rw [fr_arr (t := 202) (i := 0) fT_ rfl] at u2_
                  refine wok2_a (wok2_a ?_)
                  first
                  | (have y8_ := e142_; by_cases z9_ : n9_ = i_; (subst z9_; exact e142_.1); exact wok2_cg i142_ (hw_ n9_ u0_ (by omega) u2_) e142_.2 (by omega) (by omega) (fr_arr f142_ rfl) (f142_.1 13 0 106 rfl) (f142_.1 13 0 108 rfl) (fr_arr f142_ rfl) (fr_arr f142_ rfl))
                  | exact hw_ n9_ u0_ (by (have z9_ : n9_ ≠ i_ := fun z9_ => by (subst z9_; omega)); omega) u2_
                · intro G9_ n9_ u0_ u1_ u2_ u3_
                  (try simp only [rd_eq, rd_ne, rf_eq, rf_nk, rf_nt, rd_fa, rd_af, rd_fl, rd_al, rd_lf, rd_la, rd_leq, rd_lne, rd_fr, rd_ar, ne_eq, Nat.reduceEqDiff, not_false_eq_true] at *)
                  first
                  | (exfalso; omega)
                  | (have y8_ := e142_; have u4_ := u3_; rw [g202_] at u2_; rw [g203_] at u3_; by_cases z9_ : n9_ = i_; (subst z9_; omega); (rw [(e142_.2.2 (2 * n9_).toNat (by omega)).1]; exact hgr_ (by omega) n9_ u0_ (by omega) u2_ u3_))
                  | (have z9_ : n9_ ≠ i_ := fun z9_ => by (subst z9_; omega)
                     exact hgr_ G9_ n9_ u0_ (by omega) u2_ u3_)
                · intro j9_ u0_ u1_
                  (try simp only [rd_eq, rd_ne, rf_eq, rf_nk, rf_nt, rd_fa, rd_af, rd_fl, rd_al, rd_lf, rd_la, rd_leq, rd_lne, rd_fr, rd_ar, ne_eq, Nat.reduceEqDiff, not_false_eq_true])
                  split
                  · rfl
                  · split
                    · rfl
                    · first | (have y8_ := e142_; rw [g218_]; exact hn2_ j9_ u0_ (by omega)) | exact hn2_ j9_ u0_ (by omega)
                · have fB_ : ai_fr (sx_W ([], [218], [])) Sx9_ ((sm_aI (sm_aI Sx9_ 218 0 (2 * i_).toNat (-1)) 218 0 (2 * i_ + 1).toNat (-1))) := ai_fr_tr (ai_fr_aI rfl) (ai_fr_aI rfl)
                  intro x_ hx_ u1_
                  first
                  | (have y8_ := RN142_; have t9_ := (rcm_fr RC142_.1 fB_).2; rw [t9_, RC142_.2] at hx_; rw [t9_, RC142_.2]; exact rnw_fr (TR142_ x_ hx_) (RN142_ x_ hx_ (by omega)) i142_ fB_)
                  | (have t9_ := (rcm_fr hrc_ fB_).2; rw [t9_] at hx_; rw [t9_]; exact rnw_fr (hrc_.2 x_ hx_).1 (hrn_ x_ hx_ (by (have z9_ : (x_ : Int) ≠ i_ := fun z9_ => by (have y9_ := hx_.2.2; rw [show x_ = i_.toNat by omega] at y9_; omega)); omega)) hI_ fB_)
                · have fB_ : ai_fr (sx_W ([], [218], [])) Sx9_ ((sm_aI (sm_aI Sx9_ 218 0 (2 * i_).toNat (-1)) 218 0 (2 * i_ + 1).toNat (-1))) := ai_fr_tr (ai_fr_aI rfl) (ai_fr_aI rfl)
                  refine fun z9_ => ?_
                  first
                  | (exfalso; omega)
                  | (have y8_ := e142_; have t9_ := (rcm_fr RC142_.1 fB_).2; by_cases y9_ : gd_ = 0; (obtain ⟨x9_, a9_, b9_, c9_, k9_⟩ := hbd_ y9_; exact ⟨x9_, by (rw [t9_, RC142_.2]; exact a9_), by omega, by (rw [fr_arr (t := 203) (i := 0) fB_ rfl, g203_]; exact c9_), by (rw [fr_arr (t := 210) (i := 0) fB_ rfl, (e142_.2.2 (2 * x9_) (by omega)).1]; exact k9_)⟩); exact ⟨i_.toNat, by (rw [t9_, RC142_.2]; exact T142_), by omega, by (rw [fr_arr (t := 203) (i := 0) fB_ rfl]; omega), by (rw [fr_arr (t := 210) (i := 0) fB_ rfl, show 2 * i_.toNat = (2 * i_).toNat by omega]; omega)⟩)
                  | (obtain ⟨x9_, a9_, b9_, c9_, k9_⟩ := hbd_ (by omega); exact ⟨x9_, by (rw [(rcm_fr hrc_ fB_).2]; exact a9_), by omega, by (rw [fr_arr (t := 203) (i := 0) fB_ rfl]; exact c9_), by (rw [fr_arr (t := 210) (i := 0) fB_ rfl]; exact k9_)⟩)
                · have fB_ : ai_fr (sx_W ([], [218], [])) Sx9_ ((sm_aI (sm_aI Sx9_ 218 0 (2 * i_).toNat (-1)) 218 0 (2 * i_ + 1).toNat (-1))) := ai_fr_tr (ai_fr_aI rfl) (ai_fr_aI rfl)
                  rw [fB_.1 13 0 127 rfl, fr_arr (t := 213) (i := 0) fB_ rfl]
                  first | (have y8_ := d142_; exact ⟨⟨by omega, by omega⟩, d142_.2.2⟩) | exact ⟨⟨by omega, by omega⟩, hrd_.2⟩
                · omega
    · rintro c_ gd_ i_ S_ hI_ hF_ ⟨h0_, hd_, hlb_, hr_, hiv_, hk_, ht_, hrc_, hcd_, hiw_, hok_, hun_, hal_, hgd_, hra_, hbd_, hrd_, hn2_, hn3_, -⟩ hm_
      have d1_ := hd_.1
      have rd1_ := hrd_.1
      have f160_ : S_.2.2.1 160 0 (S_.1 13 0 105).toNat = F_ := by (rw [d1_.2.2.1]; exact d1_.2.2.2.1)
      have c156_ : 0 ≤ S_.2.2.1 156 0 a1_.toNat ∧ S_.2.2.1 156 0 a1_.toNat ≤ 16 := hI_.2 156 0 _
      have c155_ : 0 ≤ S_.2.2.1 155 0 a1_.toNat ∧ S_.2.2.1 155 0 a1_.toNat ≤ 6 := hI_.2 155 0 _
      have c134_ : 0 ≤ S_.1 13 0 134 ∧ S_.1 13 0 134 ≤ 1 := hI_.1 13 0 134 rfl
      have c106_ : 0 ≤ S_.1 13 0 106 ∧ S_.1 13 0 106 ≤ 2 := hI_.1 13 0 106 rfl
      refine sm_T_go 4 (c1 := (220, [some (.inr (.inr (some (13, 0)))), some (.inl a1_), some (.inl a2_), some (.inl c_), some (.inl gd_), some (.inl i_)], [.inl a1_, .inr (.inr (some (159, 0))), .inl i_], S_)) rfl ?_
      refine sm_T_iald (n := 6) rfl rfl (by omega) (by omega) ?_
      have bx1_ : 0 ≤ S_.2.2.1 159 0 a1_.toNat ∧ S_.2.2.1 159 0 a1_.toNat ≤ 1013 := hI_.2 159 0 _
      refine sm_T_br (a := 3) (z := 17) rfl (fun cx2_ => ?_) (fun cx2_ => ?_)
      · have cx2_ : (S_.2.2.1 159 0 a1_.toNat) ≤ i_ := of_decide_eq_true cx2_
        have hIx3_ : gi (sm_pI S_ 13 0 129 0) := gi_pI hI_ (show 0 ≤ 0 ∧ 0 ≤ 8191 from ⟨by omega, by omega⟩)
        have hFx4_ : ai_fr (sx_W vw_419f) S0_ (sm_pI S_ 13 0 129 0) := ai_fr_tr hF_ (ai_fr_pI rfl)
        have hIx5_ : gi (sm_pI (sm_pI S_ 13 0 129 0) 13 0 134 0) := gi_pI hIx3_ (show 0 ≤ 0 ∧ 0 ≤ 1 from ⟨by omega, by omega⟩)
        have hFx6_ : ai_fr (sx_W vw_419f) S0_ (sm_pI (sm_pI S_ 13 0 129 0) 13 0 134 0) := ai_fr_tr hFx4_ (ai_fr_pI rfl)
        refine sm_T_go 8 (c1 := (251, [some (.inr (.inr (some (13, 0)))), some (.inl a1_), some (.inl a2_), some (.inl c_), some (.inl gd_), some (.inl 0)], [], sm_pI (sm_pI S_ 13 0 129 0) 13 0 134 0)) rfl ?_
        refine ih_.2.2.1 c_ gd_ 0 (sm_pI (sm_pI S_ 13 0 129 0) 13 0 134 0) hIx5_ hFx6_ ⟨?_, ?_, ?_, ?_, ?_, ?_, ?_, ?_, ?_, ?_, ?_, ?_, ?_, ?_, ?_, ?_, ?_, ?_, ?_, ?_, trivial⟩ ?_
        · have fT_ : ai_fr (sx_W ([(13, 129), (13, 134)], [], [])) S_ ((sm_pI (sm_pI S_ 13 0 129 0) 13 0 134 0)) := ai_fr_tr (ai_fr_pI rfl) (ai_fr_pI rfl)
          rw [fr_arr (t := 156) (i := 0) fT_ rfl]
          omega
        · have fT_ : ai_fr (sx_W ([(13, 129), (13, 134)], [], [])) S_ ((sm_pI (sm_pI S_ 13 0 129 0) 13 0 134 0)) := ai_fr_tr (ai_fr_pI rfl) (ai_fr_pI rfl)
          exact dmp_fr hd_ fT_
        · have fT_ : ai_fr (sx_W ([(13, 129), (13, 134)], [], [])) S_ ((sm_pI (sm_pI S_ 13 0 129 0) 13 0 134 0)) := ai_fr_tr (ai_fr_pI rfl) (ai_fr_pI rfl)
          rw [fT_.1 13 0 106 rfl]
          exact hlb_
        · have fT_ : ai_fr (sx_W ([(13, 129), (13, 134)], [], [])) S_ ((sm_pI (sm_pI S_ 13 0 129 0) 13 0 134 0)) := ai_fr_tr (ai_fr_pI rfl) (ai_fr_pI rfl)
          exact rtd_fr hr_ fT_
        · have fT_ : ai_fr (sx_W ([(13, 129), (13, 134)], [], [])) S_ ((sm_pI (sm_pI S_ 13 0 129 0) 13 0 134 0)) := ai_fr_tr (ai_fr_pI rfl) (ai_fr_pI rfl)
          rw [fT_.1 13 0 107 rfl, fT_.1 13 0 106 rfl, fr_arr (t := 185) (i := 0) fT_ rfl]
          exact hiv_
        · have fT_ : ai_fr (sx_W ([(13, 129), (13, 134)], [], [])) S_ ((sm_pI (sm_pI S_ 13 0 129 0) 13 0 134 0)) := ai_fr_tr (ai_fr_pI rfl) (ai_fr_pI rfl)
          exact rcf_tr hk_ (rcf_fr fT_ rfl)
        · have fT_ : ai_fr (sx_W ([(13, 129), (13, 134)], [], [])) S_ ((sm_pI (sm_pI S_ 13 0 129 0) 13 0 134 0)) := ai_fr_tr (ai_fr_pI rfl) (ai_fr_pI rfl)
          rw [fr_arr (t := 222) (i := 0) fT_ rfl]
          exact ht_
        · have fT_ : ai_fr (sx_W ([(13, 129), (13, 134)], [], [])) S_ ((sm_pI (sm_pI S_ 13 0 129 0) 13 0 134 0)) := ai_fr_tr (ai_fr_pI rfl) (ai_fr_pI rfl)
          exact (rcm_fr hrc_ fT_).1
        · have fT_ : ai_fr (sx_W ([(13, 129), (13, 134)], [], [])) S_ ((sm_pI (sm_pI S_ 13 0 129 0) 13 0 134 0)) := ai_fr_tr (ai_fr_pI rfl) (ai_fr_pI rfl)
          exact (fT_.1 13 0 0 rfl).trans hcd_
        · have fT_ : ai_fr (sx_W ([(13, 129), (13, 134)], [], [])) S_ ((sm_pI (sm_pI S_ 13 0 129 0) 13 0 134 0)) := ai_fr_tr (ai_fr_pI rfl) (ai_fr_pI rfl)
          rw [rfv_cg (fr_arr (t := 185) (i := 0) fT_ rfl) (fr_arr (t := 186) (i := 0) fT_ rfl) (fr_arr (t := 187) (i := 0) fT_ rfl), fT_.1 13 0 107 rfl, fT_.1 13 0 108 rfl, fr_arr (t := 184) (i := 0) fT_ rfl, fr_arr (t := 187) (i := 0) fT_ rfl]
          exact hiw_
        · exact hok_
        · have fT_ : ai_fr (sx_W ([(13, 129), (13, 134)], [], [])) S_ ((sm_pI (sm_pI S_ 13 0 129 0) 13 0 134 0)) := ai_fr_tr (ai_fr_pI rfl) (ai_fr_pI rfl)
          exact rne_fr hun_ fT_
        · have fT_ : ai_fr (sx_W ([(13, 129), (13, 134)], [], [])) S_ ((sm_pI (sm_pI S_ 13 0 129 0) 13 0 134 0)) := ai_fr_tr (ai_fr_pI rfl) (ai_fr_pI rfl)
          exact wal9_cg hal_ (fr_arr fT_ rfl) (fr_arr fT_ rfl) (fr_arr fT_ rfl) (fr_arr fT_ rfl) (fr_arr fT_ rfl) (fr_arr fT_ rfl) (fr_arr fT_ rfl) (fr_arr fT_ rfl) (fr_arr fT_ rfl) (fT_.1 13 0 106 rfl) (fT_.1 13 0 108 rfl)
        · have fT_ : ai_fr (sx_W ([(13, 129), (13, 134)], [], [])) S_ ((sm_pI (sm_pI S_ 13 0 129 0) 13 0 134 0)) := ai_fr_tr (ai_fr_pI rfl) (ai_fr_pI rfl)
          exact fun G9_ => gdr_cg (hgd_ G9_) (fr_arr fT_ rfl) (fr_arr fT_ rfl) (fr_arr fT_ rfl)
        · have fT_ : ai_fr (sx_W ([(13, 129), (13, 134)], [], [])) S_ ((sm_pI (sm_pI S_ 13 0 129 0) 13 0 134 0)) := ai_fr_tr (ai_fr_pI rfl) (ai_fr_pI rfl)
          intro x_ hx_
          have t9_ := (rcm_fr hrc_ fT_).2
          rw [t9_] at hx_ ⊢
          exact rnw_fr (hrc_.2 x_ hx_).1 (hra_ x_ hx_) hI_ fT_
        · have fT_ : ai_fr (sx_W ([(13, 129), (13, 134)], [], [])) S_ ((sm_pI (sm_pI S_ 13 0 129 0) 13 0 134 0)) := ai_fr_tr (ai_fr_pI rfl) (ai_fr_pI rfl)
          refine fun z9_ => ?_
          obtain ⟨x9_, a9_, c9_, d9_⟩ := hbd_ z9_
          exact ⟨x9_, by (rw [(rcm_fr hrc_ fT_).2]; exact a9_), by (rw [fr_arr (t := 203) (i := 0) fT_ rfl]; exact c9_), by (rw [fr_arr (t := 210) (i := 0) fT_ rfl]; exact d9_)⟩
        · have fT_ : ai_fr (sx_W ([(13, 129), (13, 134)], [], [])) S_ ((sm_pI (sm_pI S_ 13 0 129 0) 13 0 134 0)) := ai_fr_tr (ai_fr_pI rfl) (ai_fr_pI rfl)
          rw [fT_.1 13 0 127 rfl, fr_arr (t := 213) (i := 0) fT_ rfl]
          exact hrd_
        · exact gst_0 (by omega) (by (try simp only [rd_eq, rd_ne, rf_eq, rf_nk, rf_nt, rd_fa, rd_af, rd_fl, rd_al, rd_lf, rd_la, rd_leq, rd_lne, rd_fr, rd_ar, ne_eq, Nat.reduceEqDiff, not_false_eq_true])) hn2_ (fun j9_ u0_ u1_ => hn3_ j9_ u0_ (by omega))
        · (intro G9_ k9_ u0_ u1_; exfalso; omega)
        · exact fun _ => rqz_0 (by omega) (by (try simp only [rd_eq, rd_ne, rf_eq, rf_nk, rf_nt, rd_fa, rd_af, rd_fl, rd_al, rd_lf, rd_la, rd_leq, rd_lne, rd_fr, rd_ar, ne_eq, Nat.reduceEqDiff, not_false_eq_true])) (by (try simp only [rd_eq, rd_ne, rf_eq, rf_nk, rf_nt, rd_fa, rd_af, rd_fl, rd_al, rd_lf, rd_la, rd_leq, rd_lne, rd_fr, rd_ar, ne_eq, Nat.reduceEqDiff, not_false_eq_true])) hn2_ (fun j9_ u0_ u1_ => hn3_ j9_ u0_ (by omega))
        · omega
      · have cx2_ : ¬ ((S_.2.2.1 159 0 a1_.toNat) ≤ i_) := of_decide_eq_false cx2_
        refine sm_T_go 4 (c1 := (231, [some (.inr (.inr (some (13, 0)))), some (.inl a1_), some (.inl a2_), some (.inl c_), some (.inl gd_), some (.inl i_)], [.inl (-1), .inl i_, .inr (.inr (some (219, 0)))], S_)) rfl ?_
        refine sm_T_iast (n := 2048) rfl rfl (by omega) (by omega) ?_
        have hIx7_ : gi (sm_aI S_ 219 0 i_.toNat (-1)) := gi_aI hI_ (show (-2) ≤ (-1) ∧ (-1) ≤ 9000 from ⟨by omega, by omega⟩)
        have hFx8_ : ai_fr (sx_W vw_419f) S0_ (sm_aI S_ 219 0 i_.toNat (-1)) := ai_fr_tr hF_ (ai_fr_aI rfl)
        refine sm_T_inc (a := 5) (z := 1) (v := i_) (w := i_ + 1) rfl rfl (by omega) (by omega) (by omega) ?_ -- pc_ 232
        refine sm_T_go 1 (c1 := (213, [some (.inr (.inr (some (13, 0)))), some (.inl a1_), some (.inl a2_), some (.inl c_), some (.inl gd_), some (.inl (i_ + 1))], [], sm_aI S_ 219 0 i_.toNat (-1))) rfl ?_
        refine ih_.2.1 c_ gd_ (i_ + 1) (sm_aI S_ 219 0 i_.toNat (-1)) hIx7_ hFx8_ ⟨?_, ?_, ?_, ?_, ?_, ?_, ?_, ?_, ?_, ?_, ?_, ?_, ?_, ?_, ?_, ?_, ?_, ?_, ?_, trivial⟩ ?_
        · omega
        · have fT_ : ai_fr (sx_W ([], [219], [])) S_ ((sm_aI S_ 219 0 i_.toNat (-1))) := ai_fr_aI rfl
          exact dmp_fr hd_ fT_
        · have fT_ : ai_fr (sx_W ([], [219], [])) S_ ((sm_aI S_ 219 0 i_.toNat (-1))) := ai_fr_aI rfl
          rw [fT_.1 13 0 106 rfl]
          exact hlb_
        · have fT_ : ai_fr (sx_W ([], [219], [])) S_ ((sm_aI S_ 219 0 i_.toNat (-1))) := ai_fr_aI rfl
          exact rtd_fr hr_ fT_
        · have fT_ : ai_fr (sx_W ([], [219], [])) S_ ((sm_aI S_ 219 0 i_.toNat (-1))) := ai_fr_aI rfl
          rw [fT_.1 13 0 107 rfl, fT_.1 13 0 106 rfl, fr_arr (t := 185) (i := 0) fT_ rfl]
          exact hiv_
        · have fT_ : ai_fr (sx_W ([], [219], [])) S_ ((sm_aI S_ 219 0 i_.toNat (-1))) := ai_fr_aI rfl
          exact rcf_tr hk_ (rcf_fr fT_ rfl)
        · have fT_ : ai_fr (sx_W ([], [219], [])) S_ ((sm_aI S_ 219 0 i_.toNat (-1))) := ai_fr_aI rfl
          rw [fr_arr (t := 222) (i := 0) fT_ rfl]
          exact ht_
        · have fT_ : ai_fr (sx_W ([], [219], [])) S_ ((sm_aI S_ 219 0 i_.toNat (-1))) := ai_fr_aI rfl
          exact (rcm_fr hrc_ fT_).1
        · have fT_ : ai_fr (sx_W ([], [219], [])) S_ ((sm_aI S_ 219 0 i_.toNat (-1))) := ai_fr_aI rfl
          exact (fT_.1 13 0 0 rfl).trans hcd_
        · have fT_ : ai_fr (sx_W ([], [219], [])) S_ ((sm_aI S_ 219 0 i_.toNat (-1))) := ai_fr_aI rfl
          rw [rfv_cg (fr_arr (t := 185) (i := 0) fT_ rfl) (fr_arr (t := 186) (i := 0) fT_ rfl) (fr_arr (t := 187) (i := 0) fT_ rfl), fT_.1 13 0 107 rfl, fT_.1 13 0 108 rfl, fr_arr (t := 184) (i := 0) fT_ rfl, fr_arr (t := 187) (i := 0) fT_ rfl]
          exact hiw_
        · exact hok_
        · have fT_ : ai_fr (sx_W ([], [219], [])) S_ ((sm_aI S_ 219 0 i_.toNat (-1))) := ai_fr_aI rfl
          exact rne_fr hun_ fT_
        · have fT_ : ai_fr (sx_W ([], [219], [])) S_ ((sm_aI S_ 219 0 i_.toNat (-1))) := ai_fr_aI rfl
          exact wal9_cg hal_ (fr_arr fT_ rfl) (fr_arr fT_ rfl) (fr_arr fT_ rfl) (fr_arr fT_ rfl) (fr_arr fT_ rfl) (fr_arr fT_ rfl) (fr_arr fT_ rfl) (fr_arr fT_ rfl) (fr_arr fT_ rfl) (fT_.1 13 0 106 rfl) (fT_.1 13 0 108 rfl)
        · have fT_ : ai_fr (sx_W ([], [219], [])) S_ ((sm_aI S_ 219 0 i_.toNat (-1))) := ai_fr_aI rfl
          exact fun G9_ => gdr_cg (hgd_ G9_) (fr_arr fT_ rfl) (fr_arr fT_ rfl) (fr_arr fT_ rfl)
        · have fT_ : ai_fr (sx_W ([], [219], [])) S_ ((sm_aI S_ 219 0 i_.toNat (-1))) := ai_fr_aI rfl
          intro x_ hx_
          have t9_ := (rcm_fr hrc_ fT_).2
          rw [t9_] at hx_ ⊢
          exact rnw_fr (hrc_.2 x_ hx_).1 (hra_ x_ hx_) hI_ fT_
        · have fT_ : ai_fr (sx_W ([], [219], [])) S_ ((sm_aI S_ 219 0 i_.toNat (-1))) := ai_fr_aI rfl
          refine fun z9_ => ?_
          obtain ⟨x9_, a9_, c9_, d9_⟩ := hbd_ z9_
          exact ⟨x9_, by (rw [(rcm_fr hrc_ fT_).2]; exact a9_), by (rw [fr_arr (t := 203) (i := 0) fT_ rfl]; exact c9_), by (rw [fr_arr (t := 210) (i := 0) fT_ rfl]; exact d9_)⟩
        · have fT_ : ai_fr (sx_W ([], [219], [])) S_ ((sm_aI S_ 219 0 i_.toNat (-1))) := ai_fr_aI rfl
          rw [fT_.1 13 0 127 rfl, fr_arr (t := 213) (i := 0) fT_ rfl]
          exact hrd_
        · have fT_ : ai_fr (sx_W ([], [219], [])) S_ ((sm_aI S_ 219 0 i_.toNat (-1))) := ai_fr_aI rfl
          rw [fr_arr (t := 218) (i := 0) fT_ rfl]
          exact hn2_
        · intro j9_ u0_ u1_
          (try simp only [rd_eq, rd_ne, rf_eq, rf_nk, rf_nt, rd_fa, rd_af, rd_fl, rd_al, rd_lf, rd_la, rd_leq, rd_lne, rd_fr, rd_ar, ne_eq, Nat.reduceEqDiff, not_false_eq_true])
          split
          · rfl
          · exact hn3_ j9_ u0_ (by omega)
        · omega
    · rintro c_ gd_ i_ S_ hI_ hF_ ⟨h0_, hd_, hlb_, hr_, hiv_, hk_, ht_, hrc_, hcd_, hiw_, hok_, hun_, hal_, hgd_, hra_, hbd_, hrd_, hgs_, ho_, hq_, -⟩ hm_
      have d1_ := hd_.1
      have rd1_ := hrd_.1
      have f160_ : S_.2.2.1 160 0 (S_.1 13 0 105).toNat = F_ := by (rw [d1_.2.2.1]; exact d1_.2.2.2.1)
      have c156_ : 0 ≤ S_.2.2.1 156 0 a1_.toNat ∧ S_.2.2.1 156 0 a1_.toNat ≤ 16 := hI_.2 156 0 _
      have c155_ : 0 ≤ S_.2.2.1 155 0 a1_.toNat ∧ S_.2.2.1 155 0 a1_.toNat ≤ 6 := hI_.2 155 0 _
      have c134_ : 0 ≤ S_.1 13 0 134 ∧ S_.1 13 0 134 ≤ 1 := hI_.1 13 0 134 rfl
      have c106_ : 0 ≤ S_.1 13 0 106 ∧ S_.1 13 0 106 ≤ 2 := hI_.1 13 0 106 rfl
      refine sm_T_go 4 (c1 := (258, [some (.inr (.inr (some (13, 0)))), some (.inl a1_), some (.inl a2_), some (.inl c_), some (.inl gd_), some (.inl i_)], [.inl a1_, .inr (.inr (some (156, 0))), .inl i_], S_)) rfl ?_
      refine sm_T_iald (n := 6) rfl rfl (by omega) (by omega) ?_
      have bx1_ : 0 ≤ S_.2.2.1 156 0 a1_.toNat ∧ S_.2.2.1 156 0 a1_.toNat ≤ 16 := hI_.2 156 0 _
      refine sm_T_br (a := 3) (z := 42) rfl (fun cx2_ => ?_) (fun cx2_ => ?_)
      · have cx2_ : (S_.2.2.1 156 0 a1_.toNat) ≤ i_ := of_decide_eq_true cx2_
        refine sm_T_go 2 (c1 := (304, [some (.inr (.inr (some (13, 0)))), some (.inl a1_), some (.inl a2_), some (.inl c_), some (.inl gd_), some (.inl 0)], [], S_)) rfl ?_
        refine ih_.2.2.2 c_ gd_ 0 S_ hI_ hF_ ⟨?_, ?_, ?_, ?_, ?_, ?_, ?_, ?_, ?_, ?_, ?_, ?_, ?_, ?_, ?_, ?_, ?_, ?_, ?_, ?_, ?_, trivial⟩ ?_
        · omega
        · exact hd_
        · exact hlb_
        · exact hr_
        · exact hiv_
        · exact hk_
        · exact ht_
        · exact hrc_
        · exact hcd_
        · exact hiw_
        · exact hok_
        · exact hun_
        · exact hal_
        · exact hgd_
        · exact hra_
        · exact hbd_
        · exact hrd_
        · exact hgs_
        · (intro G9_ k9_ u0_ u1_; first | (exfalso; omega) | exact ho_ G9_ k9_ u0_ (by omega))
        · (intro G9_ k9_ u0_ u1_; exfalso; omega)
        · refine fun G9_ => ?_
          first
          | (exfalso; omega)
          | (rw [show (S_.2.2.1 156 0 a1_.toNat).toNat + (0 : Int).toNat = i_.toNat by omega]; exact hq_ G9_)
        · omega
      · have cx2_ : ¬ ((S_.2.2.1 156 0 a1_.toNat) ≤ i_) := of_decide_eq_false cx2_
        refine sm_T_go 1 (c1 := (264, [some (.inr (.inr (some (13, 0)))), some (.inl a1_), some (.inl a2_), some (.inl c_), some (.inl gd_), some (.inl i_)], [.inl gd_], S_)) rfl ?_
        refine sm_T_b0 (a := 0) (z := 37) rfl (fun cx3_ => ?_) (fun cx3_ => ?_)
        · have cx3_ : gd_ = 0 := of_decide_eq_true cx3_
          refine sm_T_go 2 (c1 := (304, [some (.inr (.inr (some (13, 0)))), some (.inl a1_), some (.inl a2_), some (.inl c_), some (.inl gd_), some (.inl 0)], [], S_)) rfl ?_
          refine ih_.2.2.2 c_ gd_ 0 S_ hI_ hF_ ⟨?_, ?_, ?_, ?_, ?_, ?_, ?_, ?_, ?_, ?_, ?_, ?_, ?_, ?_, ?_, ?_, ?_, ?_, ?_, ?_, ?_, trivial⟩ ?_
          · omega
          · exact hd_
          · exact hlb_
          · exact hr_
          · exact hiv_
          · exact hk_
          · exact ht_
          · exact hrc_
          · exact hcd_
          · exact hiw_
          · exact hok_
          · exact hun_
          · exact hal_
          · exact hgd_
          · exact hra_
          · exact hbd_
          · exact hrd_
          · exact hgs_
          · (intro G9_ k9_ u0_ u1_; first | (exfalso; omega) | exact ho_ G9_ k9_ u0_ (by omega))
          · (intro G9_ k9_ u0_ u1_; exfalso; omega)
          · refine fun G9_ => ?_
            first
            | (exfalso; omega)
            | (rw [show (S_.2.2.1 156 0 a1_.toNat).toNat + (0 : Int).toNat = i_.toNat by omega]; exact hq_ G9_)
          · omega
        · have cx3_ : ¬ (gd_ = 0) := of_decide_eq_false cx3_
          obtain ⟨M9_, g9_, rm9_, z9x, l9x, x9x, n9x⟩ := hq_ (by omega)
          refine sm_T_go 4 (c1 := (274, [some (.inr (.inr (some (13, 0)))), some (.inl a1_), some (.inl a2_), some (.inl c_), some (.inl gd_), some (.inl i_)], [.inl c_, .inl 16, .inr (.inr (some (231, 0)))], S_)) rfl ?_
          refine sm_T_bin (w := 16 * c_) rfl (bi_mul (by omega) (by omega) (by omega)) ?_ -- pc_ 274
          refine sm_T_go 1 (c1 := (277, [some (.inr (.inr (some (13, 0)))), some (.inl a1_), some (.inl a2_), some (.inl c_), some (.inl gd_), some (.inl i_)], [.inl i_, .inl (16 * c_), .inr (.inr (some (231, 0)))], S_)) rfl ?_
          refine sm_T_bin (w := 16 * c_ + i_) rfl (bi_add (by omega) (by omega) (by omega)) ?_ -- pc_ 277
          refine sm_T_go 5 (c1 := (286, [some (.inr (.inr (some (13, 0)))), some (.inl a1_), some (.inl a2_), some (.inl c_), some (.inl gd_), some (.inl i_)], [.inl a1_, .inl 16, .inr (.inr (some (167, 0))), .inr (.inr (some (13, 0))), .inl (16 * c_ + i_), .inr (.inr (some (231, 0)))], S_)) rfl ?_
          refine sm_T_bin (w := 16 * a1_) rfl (bi_mul (by omega) (by omega) (by omega)) ?_ -- pc_ 286
          refine sm_T_go 1 (c1 := (289, [some (.inr (.inr (some (13, 0)))), some (.inl a1_), some (.inl a2_), some (.inl c_), some (.inl gd_), some (.inl i_)], [.inl i_, .inl (16 * a1_), .inr (.inr (some (167, 0))), .inr (.inr (some (13, 0))), .inl (16 * c_ + i_), .inr (.inr (some (231, 0)))], S_)) rfl ?_
          refine sm_T_bin (w := 16 * a1_ + i_) rfl (bi_add (by omega) (by omega) (by omega)) ?_ -- pc_ 289
          refine sm_T_iald (n := 96) rfl rfl (by omega) (by omega) ?_
          have bx4_ : 0 ≤ S_.2.2.1 167 0 (16 * a1_ + i_).toNat ∧ S_.2.2.1 167 0 (16 * a1_ + i_).toNat ≤ 2047 := hI_.2 167 0 _
          refine sm_T_cal (d1 := 4) (Q1 := vq_418n (S_.2.2.1 167 0 (16 * a1_ + i_).toNat) F_ N_ a1_ g9_ S_) rfl rfl (by decide) (vc_418n (S_.2.2.1 167 0 (16 * a1_ + i_).toNat) F_ N_ a1_ g9_ S_ hI_ (by exact hd_) (by exact hal_) (by exact hgd_ (by omega)) (by exact hiv_) (by exact hgs_) (by exact z9x) (by exact l9x) (by exact (dmp_l hd_ (k_ := i_)).1 (by omega) (by omega)) (by exact hr_.1 i_ (by omega) (by omega))) (fun u_ Sx5_ px8_ => ?_)
          obtain ⟨vx10_, rfl, hIx6_, hFx7_, px8_⟩ := px8_
          have hFx9_ : ai_fr (sx_W vw_419f) S0_ Sx5_ := ai_fr_tr hF_ (fr_le hFx7_ rfl)
          have e291_ := (px8_).1
          have X291_ := (px8_).2
          have l9l := (dmp_l hd_ (k_ := i_)).1 (by omega) (by omega)
          have L291_ := mqL_o (d_ := a1_) (S_ := S_) (i_ := i_) (l_ := S_.2.2.1 167 0 (16 * a1_ + i_).toNat) (by omega) (by omega) (by omega) rfl l9l.1
          have b291_ := mqL_b hd_ l9l.1 l9l.2
          rw [← L291_] at X291_ b291_
          have RQ291_ : ∀ nt9_ : Nat → Int, (∀ j_, j_ < i_.toNat → nt9_ j_ = ntc c_ (S_.2.2.1 156 0 a1_.toNat) S_ j_) → nt9_ i_.toNat = vx10_ → rqz F_ N_ a1_ (i_.toNat + 1) nt9_ Sx5_ := fun nt9_ e0_ e1_ => rqz_s ⟨M9_, g9_, rm9_, x9x, n9x, X291_⟩ hI_ hal_ (hgd_ (by omega)) (by omega) (by omega) (fun _ => ⟨by (rw [b291_.1]; exact b291_.2), by (rw [b291_.1]; exact hr_.1 i_ (by omega) (by omega))⟩) hFx7_ e0_ e1_
          have f291_ := hFx7_
          have g0_ := hgs_.1.1
          have g1_ := e291_.1.1
          refine sm_T_iast (n := 64) rfl rfl (by omega) (by omega) ?_
          have hIx11_ : gi (sm_aI Sx5_ 231 0 (16 * c_ + i_).toNat vx10_) := gi_aI hIx6_ (show (-2) ≤ vx10_ ∧ vx10_ ≤ 9000 from ⟨by omega, by omega⟩)
          have hFx12_ : ai_fr (sx_W vw_419f) S0_ (sm_aI Sx5_ 231 0 (16 * c_ + i_).toNat vx10_) := ai_fr_tr hFx9_ (ai_fr_aI rfl)
          refine sm_T_inc (a := 5) (z := 1) (v := i_) (w := i_ + 1) rfl rfl (by omega) (by omega) (by omega) ?_ -- pc_ 295
          refine sm_T_go 1 (c1 := (251, [some (.inr (.inr (some (13, 0)))), some (.inl a1_), some (.inl a2_), some (.inl c_), some (.inl gd_), some (.inl (i_ + 1))], [], sm_aI Sx5_ 231 0 (16 * c_ + i_).toNat vx10_)) rfl ?_
          refine ih_.2.2.1 c_ gd_ (i_ + 1) (sm_aI Sx5_ 231 0 (16 * c_ + i_).toNat vx10_) hIx11_ hFx12_ ⟨?_, ?_, ?_, ?_, ?_, ?_, ?_, ?_, ?_, ?_, ?_, ?_, ?_, ?_, ?_, ?_, ?_, ?_, ?_, ?_, trivial⟩ ?_
          · have fT_ : ai_fr (sx_W w251) S_ ((sm_aI Sx5_ 231 0 (16 * c_ + i_).toNat vx10_)) := ai_fr_tr (fr_le f291_ rfl) (ai_fr_aI rfl)
            rw [fr_arr (t := 156) (i := 0) fT_ rfl]
            omega
          · have fT_ : ai_fr (sx_W w251) S_ ((sm_aI Sx5_ 231 0 (16 * c_ + i_).toNat vx10_)) := ai_fr_tr (fr_le f291_ rfl) (ai_fr_aI rfl)
            exact dmp_fr hd_ fT_
          · have fT_ : ai_fr (sx_W w251) S_ ((sm_aI Sx5_ 231 0 (16 * c_ + i_).toNat vx10_)) := ai_fr_tr (fr_le f291_ rfl) (ai_fr_aI rfl)
            rw [fT_.1 13 0 106 rfl]
            exact hlb_
          · have fT_ : ai_fr (sx_W w251) S_ ((sm_aI Sx5_ 231 0 (16 * c_ + i_).toNat vx10_)) := ai_fr_tr (fr_le f291_ rfl) (ai_fr_aI rfl)
            exact rtd_fr hr_ fT_
          · have fT_ : ai_fr (sx_W w251) S_ ((sm_aI Sx5_ 231 0 (16 * c_ + i_).toNat vx10_)) := ai_fr_tr (fr_le f291_ rfl) (ai_fr_aI rfl)
            rw [fT_.1 13 0 107 rfl, fT_.1 13 0 106 rfl, fr_arr (t := 185) (i := 0) fT_ rfl]
            exact hiv_
          · have fT_ : ai_fr (sx_W w251) S_ ((sm_aI Sx5_ 231 0 (16 * c_ + i_).toNat vx10_)) := ai_fr_tr (fr_le f291_ rfl) (ai_fr_aI rfl)
            exact rcf_aI (rcf_tr hk_ (rcf_fr f291_ rfl)) (Or.inr ⟨by (rw [show rcs 231 = 16 from rfl]; omega), by (rw [show rcs 231 = 16 from rfl]; omega)⟩)
          · have fT_ : ai_fr (sx_W w251) S_ ((sm_aI Sx5_ 231 0 (16 * c_ + i_).toNat vx10_)) := ai_fr_tr (fr_le f291_ rfl) (ai_fr_aI rfl)
            rw [fr_arr (t := 222) (i := 0) fT_ rfl]
            exact ht_
          · have fT_ : ai_fr (sx_W w251) S_ ((sm_aI Sx5_ 231 0 (16 * c_ + i_).toNat vx10_)) := ai_fr_tr (fr_le f291_ rfl) (ai_fr_aI rfl)
            exact (rcm_fr hrc_ fT_).1
          · have fT_ : ai_fr (sx_W w251) S_ ((sm_aI Sx5_ 231 0 (16 * c_ + i_).toNat vx10_)) := ai_fr_tr (fr_le f291_ rfl) (ai_fr_aI rfl)
            exact (fT_.1 13 0 0 rfl).trans hcd_
          · have fT_ : ai_fr (sx_W w251) S_ ((sm_aI Sx5_ 231 0 (16 * c_ + i_).toNat vx10_)) := ai_fr_tr (fr_le f291_ rfl) (ai_fr_aI rfl)
            rw [rfv_cg (fr_arr (t := 185) (i := 0) fT_ rfl) (fr_arr (t := 186) (i := 0) fT_ rfl) (fr_arr (t := 187) (i := 0) fT_ rfl), fT_.1 13 0 107 rfl, fT_.1 13 0 108 rfl, fr_arr (t := 184) (i := 0) fT_ rfl, fr_arr (t := 187) (i := 0) fT_ rfl]
            exact hiw_
          · exact hok_
          · have fT_ : ai_fr (sx_W w251) S_ ((sm_aI Sx5_ 231 0 (16 * c_ + i_).toNat vx10_)) := ai_fr_tr (fr_le f291_ rfl) (ai_fr_aI rfl)
            exact rne_fr hun_ fT_
          · have fT_ : ai_fr (sx_W w251) S_ ((sm_aI Sx5_ 231 0 (16 * c_ + i_).toNat vx10_)) := ai_fr_tr (fr_le f291_ rfl) (ai_fr_aI rfl)
            exact wal9_cg hal_ (fr_arr fT_ rfl) (fr_arr fT_ rfl) (fr_arr fT_ rfl) (fr_arr fT_ rfl) (fr_arr fT_ rfl) (fr_arr fT_ rfl) (fr_arr fT_ rfl) (fr_arr fT_ rfl) (fr_arr fT_ rfl) (fT_.1 13 0 106 rfl) (fT_.1 13 0 108 rfl)
          · have fT_ : ai_fr (sx_W w251) S_ ((sm_aI Sx5_ 231 0 (16 * c_ + i_).toNat vx10_)) := ai_fr_tr (fr_le f291_ rfl) (ai_fr_aI rfl)
            exact fun G9_ => gdr_cg (hgd_ G9_) (fr_arr fT_ rfl) (fr_arr fT_ rfl) (fr_arr fT_ rfl)
          · have fT_ : ai_fr (sx_W w251) S_ ((sm_aI Sx5_ 231 0 (16 * c_ + i_).toNat vx10_)) := ai_fr_tr (fr_le f291_ rfl) (ai_fr_aI rfl)
            intro x_ hx_
            have t9_ := (rcm_fr hrc_ fT_).2
            rw [t9_] at hx_ ⊢
            exact rnw_fr (hrc_.2 x_ hx_).1 (hra_ x_ hx_) hI_ fT_
          · have fT_ : ai_fr (sx_W w251) S_ ((sm_aI Sx5_ 231 0 (16 * c_ + i_).toNat vx10_)) := ai_fr_tr (fr_le f291_ rfl) (ai_fr_aI rfl)
            refine fun z9_ => ?_
            obtain ⟨x9_, a9_, c9_, d9_⟩ := hbd_ z9_
            exact ⟨x9_, by (rw [(rcm_fr hrc_ fT_).2]; exact a9_), by (rw [fr_arr (t := 203) (i := 0) fT_ rfl]; exact c9_), by (rw [fr_arr (t := 210) (i := 0) fT_ rfl]; exact d9_)⟩
          · have fT_ : ai_fr (sx_W w251) S_ ((sm_aI Sx5_ 231 0 (16 * c_ + i_).toNat vx10_)) := ai_fr_tr (fr_le f291_ rfl) (ai_fr_aI rfl)
            rw [fT_.1 13 0 127 rfl, fr_arr (t := 213) (i := 0) fT_ rfl]
            exact hrd_
          · exact gst_a e291_.1 (Or.inl rfl)
          · intro G9_ k9_ u0_ u1_
            (try simp only [rd_eq, rd_ne, rf_eq, rf_nk, rf_nt, rd_fa, rd_af, rd_fl, rd_al, rd_lf, rd_la, rd_leq, rd_lne, rd_fr, rd_ar, ne_eq, Nat.reduceEqDiff, not_false_eq_true])
            by_cases z9_ : k9_ = i_
            · rw [z9_, if_pos rfl]; omega
            · rw [if_neg (by omega), fr_arr (t := 231) (i := 0) f291_ rfl]; have w9_ := ho_ G9_ k9_ u0_ (by omega); omega
          · have fT_ : ai_fr (sx_W w251) S_ ((sm_aI Sx5_ 231 0 (16 * c_ + i_).toNat vx10_)) := ai_fr_tr (fr_le f291_ rfl) (ai_fr_aI rfl)
            refine fun G9_ => ?_
            have fB_ : ai_fr (sx_W ([], [231], [])) Sx5_ ((sm_aI Sx5_ 231 0 (16 * c_ + i_).toNat vx10_)) := ai_fr_aI rfl
            rw [show (i_ + 1).toNat = i_.toNat + 1 by omega]
            refine rqz_fr (RQ291_ _ (fun j_ hj_ => ?_) ?_) fB_
            · unfold ntc
              rw [fr_arr (t := 156) (i := 0) fT_ rfl, if_pos (by omega), if_pos (by omega), rd_eq, if_neg (by omega), fr_arr (t := 231) (i := 0) f291_ rfl]
            · unfold ntc
              rw [fr_arr (t := 156) (i := 0) fT_ rfl, if_pos (by omega), rd_eq, if_pos (by omega)]
          · omega
    · rintro c_ gd_ i_ S_ hI_ hF_ ⟨h0_, hd_, hlb_, hr_, hiv_, hk_, ht_, hrc_, hcd_, hiw_, hok_, hun_, hal_, hgd_, hra_, hbd_, hrd_, hgs_, ho_, hp_, hq_, -⟩ hm_
      have d1_ := hd_.1
      have rd1_ := hrd_.1
      have f160_ : S_.2.2.1 160 0 (S_.1 13 0 105).toNat = F_ := by (rw [d1_.2.2.1]; exact d1_.2.2.2.1)
      have c156_ : 0 ≤ S_.2.2.1 156 0 a1_.toNat ∧ S_.2.2.1 156 0 a1_.toNat ≤ 16 := hI_.2 156 0 _
      have c155_ : 0 ≤ S_.2.2.1 155 0 a1_.toNat ∧ S_.2.2.1 155 0 a1_.toNat ≤ 6 := hI_.2 155 0 _
      have c134_ : 0 ≤ S_.1 13 0 134 ∧ S_.1 13 0 134 ≤ 1 := hI_.1 13 0 134 rfl
      have c106_ : 0 ≤ S_.1 13 0 106 ∧ S_.1 13 0 106 ≤ 2 := hI_.1 13 0 106 rfl
      refine sm_T_go 4 (c1 := (311, [some (.inr (.inr (some (13, 0)))), some (.inl a1_), some (.inl a2_), some (.inl c_), some (.inl gd_), some (.inl i_)], [.inl a1_, .inr (.inr (some (155, 0))), .inl i_], S_)) rfl ?_
      refine sm_T_iald (n := 6) rfl rfl (by omega) (by omega) ?_
      have bx1_ : 0 ≤ S_.2.2.1 155 0 a1_.toNat ∧ S_.2.2.1 155 0 a1_.toNat ≤ 6 := hI_.2 155 0 _
      refine sm_T_br (a := 3) (z := 42) rfl (fun cx2_ => ?_) (fun cx2_ => ?_)
      · have cx2_ : (S_.2.2.1 155 0 a1_.toNat) ≤ i_ := of_decide_eq_true cx2_
        refine sm_T_go 1 (c1 := (356, [some (.inr (.inr (some (13, 0)))), some (.inl a1_), some (.inl a2_), some (.inl c_), some (.inl gd_), some (.inl i_)], [.inl gd_], S_)) rfl ?_
        refine sm_T_b0 (a := 0) (z := 10) rfl (fun cx3_ => ?_) (fun cx3_ => ?_)
        · have cx3_ : gd_ = 0 := of_decide_eq_true cx3_
          refine sm_T_go 1 (c1 := (367, [some (.inr (.inr (some (13, 0)))), some (.inl a1_), some (.inl a2_), some (.inl c_), some (.inl gd_), some (.inl i_)], [.inl (-1)], S_)) rfl ?_
          refine sm_T_ri rfl ⟨_, _, rfl, _, rfl, hI_, hF_, ?_⟩
          refine ⟨⟨by omega, by omega⟩, jR_cf hJ_ hI_ hF_ rfl hk_ (fun z9_ => absurd z9_ (by omega)), ⟨rd1_, hrd_.2⟩, Or.inr (Or.inr ⟨hcd_, c_, hok_, Or.inr ⟨by omega, hun_⟩, ⟨hd_, hrc_, hra_, hal_, hr_⟩, ⟨hlb_, hiw_.1, hiw_.2⟩, ⟨hk_, fun _ => ht_⟩, ?_⟩)⟩
          first | exact Or.inl ⟨rfl, hbd_ (by omega)⟩ | exact Or.inr ⟨hgd_ (by omega), by (have z9_ := hq_ (by omega); rw [show (S_.2.2.1 156 0 a1_.toNat).toNat + i_.toNat = mqk a1_ S_ by (unfold mqk; omega)] at z9_; exact z9_), Or.inl ⟨rfl, by omega⟩⟩
        · have cx3_ : ¬ (gd_ = 0) := of_decide_eq_false cx3_
          have bx4_ : 0 ≤ S_.1 13 0 134 ∧ S_.1 13 0 134 ≤ 1 := hI_.1 13 0 134 rfl
          refine sm_T_go 2 (c1 := (363, [some (.inr (.inr (some (13, 0)))), some (.inl a1_), some (.inl a2_), some (.inl c_), some (.inl gd_), some (.inl i_)], [.inl (S_.1 13 0 134)], S_)) rfl ?_
          refine sm_T_b0 (a := 0) (z := 5) rfl (fun cx5_ => ?_) (fun cx5_ => ?_)
          · have cx5_ : (S_.1 13 0 134) = 0 := of_decide_eq_true cx5_
            have bx6_ : 0 ≤ S_.1 13 0 129 ∧ S_.1 13 0 129 ≤ 8191 := hI_.1 13 0 129 rfl
            refine sm_T_go 3 (c1 := (375, [some (.inr (.inr (some (13, 0)))), some (.inl a1_), some (.inl a2_), some (.inl c_), some (.inl gd_), some (.inl i_)], [.inl 150, .inl (S_.1 13 0 129)], S_)) rfl ?_
            refine sm_T_br (a := 5) (z := 6) rfl (fun cx7_ => ?_) (fun cx7_ => ?_)
            · have cx7_ : (S_.1 13 0 129) ≤ 150 := of_decide_eq_true cx7_
              refine sm_T_go 2 (c1 := (383, [some (.inr (.inr (some (13, 0)))), some (.inl a1_), some (.inl a2_), some (.inl c_), some (.inl gd_), some (.inl i_)], [.inl c_, .inr (.inr (some (13, 0)))], S_)) rfl ?_
              refine sm_T_cal (d1 := 1) (Q1 := vq_420f c_ F_ N_ a1_ S_) rfl rfl (by decide) (vc_420f c_ F_ N_ a1_ S_ hI_ (by exact hd_) (by omega) (by exact hgs_.2.2.2) (by omega) (by (have g0_ := hgs_.1.1; omega)) (by omega) (by exact ⟨ho_ (by omega), fun k9_ u0_ u1_ => hp_ (by omega) k9_ u0_ (by omega)⟩)) (fun u_ Sx8_ px11_ => ?_)
              obtain ⟨rfl, hIx9_, hFx10_, px11_⟩ := px11_
              have hFx12_ : ai_fr (sx_W vw_419f) S0_ Sx8_ := ai_fr_tr hF_ (fr_le hFx10_ rfl)
              obtain ⟨dx13_, px11_⟩ := px11_
              have ex14_ : Sx8_.1 13 0 129 = S_.1 13 0 129 := hFx10_.1 13 0 129 rfl
              have ex15_ : Sx8_.1 13 0 134 = S_.1 13 0 134 := hFx10_.1 13 0 134 rfl
              have e383_ := (px11_).1
              have K383_ := (px11_).2.1
              have R383_ := (px11_).2.2
              have f383_ := hFx10_
              have i383_ := hIx9_
              have k383_ := dx13_
              have RC383_ := rcm_fr hrc_ hFx10_
              have NT383_ : ∀ j_, j_ < mqk a1_ S_ → ntc c_ (Sx8_.2.2.1 156 0 a1_.toNat) Sx8_ j_ = ntc c_ (S_.2.2.1 156 0 a1_.toNat) S_ j_ := fun j_ _ => by (unfold ntc; rw [fr_arr (t := 156) (i := 0) hFx10_ rfl, K383_.2.2.2.2.2.2.1, K383_.2.2.2.2.2.2.2.1])
              refine sm_T_go 1 (c1 := (387, [some (.inr (.inr (some (13, 0)))), some (.inl a1_), some (.inl a2_), some (.inl c_), some (.inl gd_), some (.inl i_)], [.inl c_], Sx8_)) rfl ?_
              refine sm_T_ri rfl ⟨_, _, rfl, _, rfl, hIx9_, hFx12_, ?_⟩
              refine ⟨⟨by omega, by omega⟩, jR_cf hJ_ hIx9_ hFx12_ rfl (rcf_tr hk_ k383_) (fun z9_ => by (rw [show ((c_.toNat : Nat) : Int) = c_ by omega]; exact e383_)), ⟨?_, ?_⟩, Or.inr (Or.inr ⟨(f383_.1 13 0 0 rfl).trans hcd_, c_, hok_, Or.inl ⟨rfl, rnw_tr hun_ R383_⟩, ⟨dmp_fr hd_ f383_, RC383_.1, ?_, wal9_cg hal_ (fr_arr f383_ rfl) (fr_arr f383_ rfl) (fr_arr f383_ rfl) (fr_arr f383_ rfl) (fr_arr f383_ rfl) (fr_arr f383_ rfl) (fr_arr f383_ rfl) (fr_arr f383_ rfl) (fr_arr f383_ rfl) (f383_.1 13 0 106 rfl) (f383_.1 13 0 108 rfl), rtd_fr hr_ f383_⟩, ⟨(f383_.1 13 0 106 rfl).trans hlb_, ?_⟩, ⟨rcf_tr hk_ k383_, fun z9_ => absurd rfl z9_⟩, Or.inr ⟨gdr_cg (hgd_ (by omega)) (fr_arr f383_ rfl) (fr_arr f383_ rfl) (fr_arr f383_ rfl), ?_, Or.inr (Or.inr ⟨rfl, (f383_.1 13 0 134 rfl).trans (by omega), by (rw [f383_.1 13 0 129 rfl]; omega), kcp_fr K383_ f383_⟩)⟩⟩)⟩
              · rw [f383_.1 13 0 127 rfl]; exact rd1_
              · rw [f383_.1 13 0 127 rfl, fr_arr (t := 213) (i := 0) f383_ rfl]; exact hrd_.2
              · intro x_ hx_
                rw [RC383_.2] at hx_ ⊢
                exact rnw_fr (hrc_.2 x_ hx_).1 (hra_ x_ hx_) hI_ f383_
              · rw [rfv_cg (fr_arr (t := 185) (i := 0) f383_ rfl) (fr_arr (t := 186) (i := 0) f383_ rfl) (fr_arr (t := 187) (i := 0) f383_ rfl), f383_.1 13 0 107 rfl, f383_.1 13 0 108 rfl, fr_arr (t := 184) (i := 0) f383_ rfl, fr_arr (t := 187) (i := 0) f383_ rfl]
                exact hiw_
              · have q9_ := by (have z9_ := hq_ (by omega); rw [show (S_.2.2.1 156 0 a1_.toNat).toNat + i_.toNat = mqk a1_ S_ by (unfold mqk; omega)] at z9_; exact z9_)
                rw [show mqk a1_ Sx8_ = mqk a1_ S_ from (mq_fr f383_).2.2.2.1]
                exact rqz_nt (rqz_fr q9_ f383_) NT383_
            · have cx7_ : ¬ ((S_.1 13 0 129) ≤ 150) := of_decide_eq_false cx7_
              refine sm_T_go 1 (c1 := (380, [some (.inr (.inr (some (13, 0)))), some (.inl a1_), some (.inl a2_), some (.inl c_), some (.inl gd_), some (.inl i_)], [.inl (-2)], S_)) rfl ?_
              refine sm_T_ri rfl ⟨_, _, rfl, _, rfl, hI_, hF_, ?_⟩
              refine ⟨⟨by omega, by omega⟩, jR_cf hJ_ hI_ hF_ rfl hk_ (fun z9_ => absurd z9_ (by omega)), ⟨rd1_, hrd_.2⟩, Or.inr (Or.inr ⟨hcd_, c_, hok_, Or.inr ⟨by omega, hun_⟩, ⟨hd_, hrc_, hra_, hal_, hr_⟩, ⟨hlb_, hiw_.1, hiw_.2⟩, ⟨hk_, fun _ => ht_⟩, Or.inr ⟨hgd_ (by omega), by (have z9_ := hq_ (by omega); rw [show (S_.2.2.1 156 0 a1_.toNat).toNat + i_.toNat = mqk a1_ S_ by (unfold mqk; omega)] at z9_; exact z9_), Or.inr (Or.inl ⟨rfl, by omega, by omega⟩)⟩⟩)⟩
          · have cx5_ : ¬ ((S_.1 13 0 134) = 0) := of_decide_eq_false cx5_
            refine sm_T_go 1 (c1 := (367, [some (.inr (.inr (some (13, 0)))), some (.inl a1_), some (.inl a2_), some (.inl c_), some (.inl gd_), some (.inl i_)], [.inl (-1)], S_)) rfl ?_
            refine sm_T_ri rfl ⟨_, _, rfl, _, rfl, hI_, hF_, ?_⟩
            refine ⟨⟨by omega, by omega⟩, jR_cf hJ_ hI_ hF_ rfl hk_ (fun z9_ => absurd z9_ (by omega)), ⟨rd1_, hrd_.2⟩, Or.inr (Or.inr ⟨hcd_, c_, hok_, Or.inr ⟨by omega, hun_⟩, ⟨hd_, hrc_, hra_, hal_, hr_⟩, ⟨hlb_, hiw_.1, hiw_.2⟩, ⟨hk_, fun _ => ht_⟩, ?_⟩)⟩
            first | exact Or.inl ⟨rfl, hbd_ (by omega)⟩ | exact Or.inr ⟨hgd_ (by omega), by (have z9_ := hq_ (by omega); rw [show (S_.2.2.1 156 0 a1_.toNat).toNat + i_.toNat = mqk a1_ S_ by (unfold mqk; omega)] at z9_; exact z9_), Or.inl ⟨rfl, by omega⟩⟩
      · have cx2_ : ¬ ((S_.2.2.1 155 0 a1_.toNat) ≤ i_) := of_decide_eq_false cx2_
        refine sm_T_go 1 (c1 := (317, [some (.inr (.inr (some (13, 0)))), some (.inl a1_), some (.inl a2_), some (.inl c_), some (.inl gd_), some (.inl i_)], [.inl gd_], S_)) rfl ?_
        refine sm_T_b0 (a := 0) (z := 37) rfl (fun cx16_ => ?_) (fun cx16_ => ?_)
        · have cx16_ : gd_ = 0 := of_decide_eq_true cx16_
          refine sm_T_go 1 (c1 := (356, [some (.inr (.inr (some (13, 0)))), some (.inl a1_), some (.inl a2_), some (.inl c_), some (.inl gd_), some (.inl i_)], [.inl gd_], S_)) rfl ?_
          refine sm_T_b0 (a := 0) (z := 10) rfl (fun cx17_ => ?_) (fun cx17_ => ?_)
          · have cx17_ : gd_ = 0 := of_decide_eq_true cx17_
            refine sm_T_go 1 (c1 := (367, [some (.inr (.inr (some (13, 0)))), some (.inl a1_), some (.inl a2_), some (.inl c_), some (.inl gd_), some (.inl i_)], [.inl (-1)], S_)) rfl ?_
            refine sm_T_ri rfl ⟨_, _, rfl, _, rfl, hI_, hF_, ?_⟩
            refine ⟨⟨by omega, by omega⟩, jR_cf hJ_ hI_ hF_ rfl hk_ (fun z9_ => absurd z9_ (by omega)), ⟨rd1_, hrd_.2⟩, Or.inr (Or.inr ⟨hcd_, c_, hok_, Or.inr ⟨by omega, hun_⟩, ⟨hd_, hrc_, hra_, hal_, hr_⟩, ⟨hlb_, hiw_.1, hiw_.2⟩, ⟨hk_, fun _ => ht_⟩, ?_⟩)⟩
            first | exact Or.inl ⟨rfl, hbd_ (by omega)⟩ | exact Or.inr ⟨hgd_ (by omega), by (have z9_ := hq_ (by omega); rw [show (S_.2.2.1 156 0 a1_.toNat).toNat + i_.toNat = mqk a1_ S_ by (unfold mqk; omega)] at z9_; exact z9_), Or.inl ⟨rfl, by omega⟩⟩
          · have cx17_ : ¬ (gd_ = 0) := of_decide_eq_false cx17_
            exfalso; omega
        · have cx16_ : ¬ (gd_ = 0) := of_decide_eq_false cx16_
          obtain ⟨M9_, g9_, rm9_, z9x, l9x, x9x, n9x⟩ := hq_ (by omega)
          refine sm_T_go 4 (c1 := (327, [some (.inr (.inr (some (13, 0)))), some (.inl a1_), some (.inl a2_), some (.inl c_), some (.inl gd_), some (.inl i_)], [.inl c_, .inl 6, .inr (.inr (some (232, 0)))], S_)) rfl ?_
          refine sm_T_bin (w := 6 * c_) rfl (bi_mul (by omega) (by omega) (by omega)) ?_ -- pc_ 327
          refine sm_T_go 1 (c1 := (330, [some (.inr (.inr (some (13, 0)))), some (.inl a1_), some (.inl a2_), some (.inl c_), some (.inl gd_), some (.inl i_)], [.inl i_, .inl (6 * c_), .inr (.inr (some (232, 0)))], S_)) rfl ?_
          refine sm_T_bin (w := 6 * c_ + i_) rfl (bi_add (by omega) (by omega) (by omega)) ?_ -- pc_ 330
          refine sm_T_go 5 (c1 := (339, [some (.inr (.inr (some (13, 0)))), some (.inl a1_), some (.inl a2_), some (.inl c_), some (.inl gd_), some (.inl i_)], [.inl a1_, .inl 6, .inr (.inr (some (168, 0))), .inr (.inr (some (13, 0))), .inl (6 * c_ + i_), .inr (.inr (some (232, 0)))], S_)) rfl ?_
          refine sm_T_bin (w := 6 * a1_) rfl (bi_mul (by omega) (by omega) (by omega)) ?_ -- pc_ 339
          refine sm_T_go 1 (c1 := (342, [some (.inr (.inr (some (13, 0)))), some (.inl a1_), some (.inl a2_), some (.inl c_), some (.inl gd_), some (.inl i_)], [.inl i_, .inl (6 * a1_), .inr (.inr (some (168, 0))), .inr (.inr (some (13, 0))), .inl (6 * c_ + i_), .inr (.inr (some (232, 0)))], S_)) rfl ?_
          refine sm_T_bin (w := 6 * a1_ + i_) rfl (bi_add (by omega) (by omega) (by omega)) ?_ -- pc_ 342
          refine sm_T_iald (n := 36) rfl rfl (by omega) (by omega) ?_
          have bx18_ : 0 ≤ S_.2.2.1 168 0 (6 * a1_ + i_).toNat ∧ S_.2.2.1 168 0 (6 * a1_ + i_).toNat ≤ 2047 := hI_.2 168 0 _
          refine sm_T_cal (d1 := 4) (Q1 := vq_418n (S_.2.2.1 168 0 (6 * a1_ + i_).toNat) F_ N_ a1_ g9_ S_) rfl rfl (by decide) (vc_418n (S_.2.2.1 168 0 (6 * a1_ + i_).toNat) F_ N_ a1_ g9_ S_ hI_ (by exact hd_) (by exact hal_) (by exact hgd_ (by omega)) (by exact hiv_) (by exact hgs_) (by exact z9x) (by exact l9x) (by exact (dmp_l hd_ (k_ := i_)).2 (by omega) (by omega)) (by exact hr_.2 i_ (by omega) (by omega))) (fun u_ Sx19_ px22_ => ?_)
          obtain ⟨vx24_, rfl, hIx20_, hFx21_, px22_⟩ := px22_
          have hFx23_ : ai_fr (sx_W vw_419f) S0_ Sx19_ := ai_fr_tr hF_ (fr_le hFx21_ rfl)
          have e344_ := (px22_).1
          have X344_ := (px22_).2
          have l9l := (dmp_l hd_ (k_ := i_)).2 (by omega) (by omega)
          have L344_ := mqL_n (d_ := a1_) (S_ := S_) (i_ := i_) (l_ := S_.2.2.1 168 0 (6 * a1_ + i_).toNat) (by omega) (by omega) rfl l9l.1
          have b344_ := mqL_b hd_ l9l.1 l9l.2
          rw [← L344_] at X344_ b344_
          have RQ344_ : ∀ nt9_ : Nat → Int, (∀ j_, j_ < ((S_.2.2.1 156 0 a1_.toNat).toNat + i_.toNat) → nt9_ j_ = ntc c_ (S_.2.2.1 156 0 a1_.toNat) S_ j_) → nt9_ ((S_.2.2.1 156 0 a1_.toNat).toNat + i_.toNat) = vx24_ → rqz F_ N_ a1_ (((S_.2.2.1 156 0 a1_.toNat).toNat + i_.toNat) + 1) nt9_ Sx19_ := fun nt9_ e0_ e1_ => rqz_s ⟨M9_, g9_, rm9_, x9x, n9x, X344_⟩ hI_ hal_ (hgd_ (by omega)) (by omega) (by omega) (fun _ => ⟨by (rw [b344_.1]; exact b344_.2), by (rw [b344_.1]; exact hr_.2 i_ (by omega) (by omega))⟩) hFx21_ e0_ e1_
          have f344_ := hFx21_
          have g0_ := hgs_.1.1
          have g1_ := e344_.1.1
          refine sm_T_iast (n := 24) rfl rfl (by omega) (by omega) ?_
          have hIx25_ : gi (sm_aI Sx19_ 232 0 (6 * c_ + i_).toNat vx24_) := gi_aI hIx20_ (show (-2) ≤ vx24_ ∧ vx24_ ≤ 9000 from ⟨by omega, by omega⟩)
          have hFx26_ : ai_fr (sx_W vw_419f) S0_ (sm_aI Sx19_ 232 0 (6 * c_ + i_).toNat vx24_) := ai_fr_tr hFx23_ (ai_fr_aI rfl)
          refine sm_T_inc (a := 5) (z := 1) (v := i_) (w := i_ + 1) rfl rfl (by omega) (by omega) (by omega) ?_ -- pc_ 348
          refine sm_T_go 1 (c1 := (304, [some (.inr (.inr (some (13, 0)))), some (.inl a1_), some (.inl a2_), some (.inl c_), some (.inl gd_), some (.inl (i_ + 1))], [], sm_aI Sx19_ 232 0 (6 * c_ + i_).toNat vx24_)) rfl ?_
          refine ih_.2.2.2 c_ gd_ (i_ + 1) (sm_aI Sx19_ 232 0 (6 * c_ + i_).toNat vx24_) hIx25_ hFx26_ ⟨?_, ?_, ?_, ?_, ?_, ?_, ?_, ?_, ?_, ?_, ?_, ?_, ?_, ?_, ?_, ?_, ?_, ?_, ?_, ?_, ?_, trivial⟩ ?_
          · have fT_ : ai_fr (sx_W w304) S_ ((sm_aI Sx19_ 232 0 (6 * c_ + i_).toNat vx24_)) := ai_fr_tr (fr_le f344_ rfl) (ai_fr_aI rfl)
            rw [fr_arr (t := 155) (i := 0) fT_ rfl]
            omega
          · have fT_ : ai_fr (sx_W w304) S_ ((sm_aI Sx19_ 232 0 (6 * c_ + i_).toNat vx24_)) := ai_fr_tr (fr_le f344_ rfl) (ai_fr_aI rfl)
            exact dmp_fr hd_ fT_
          · have fT_ : ai_fr (sx_W w304) S_ ((sm_aI Sx19_ 232 0 (6 * c_ + i_).toNat vx24_)) := ai_fr_tr (fr_le f344_ rfl) (ai_fr_aI rfl)
            rw [fT_.1 13 0 106 rfl]
            exact hlb_
          · have fT_ : ai_fr (sx_W w304) S_ ((sm_aI Sx19_ 232 0 (6 * c_ + i_).toNat vx24_)) := ai_fr_tr (fr_le f344_ rfl) (ai_fr_aI rfl)
            exact rtd_fr hr_ fT_
          · have fT_ : ai_fr (sx_W w304) S_ ((sm_aI Sx19_ 232 0 (6 * c_ + i_).toNat vx24_)) := ai_fr_tr (fr_le f344_ rfl) (ai_fr_aI rfl)
            rw [fT_.1 13 0 107 rfl, fT_.1 13 0 106 rfl, fr_arr (t := 185) (i := 0) fT_ rfl]
            exact hiv_
          · have fT_ : ai_fr (sx_W w304) S_ ((sm_aI Sx19_ 232 0 (6 * c_ + i_).toNat vx24_)) := ai_fr_tr (fr_le f344_ rfl) (ai_fr_aI rfl)
            exact rcf_aI (rcf_tr hk_ (rcf_fr f344_ rfl)) (Or.inr ⟨by (rw [show rcs 232 = 6 from rfl]; omega), by (rw [show rcs 232 = 6 from rfl]; omega)⟩)
          · have fT_ : ai_fr (sx_W w304) S_ ((sm_aI Sx19_ 232 0 (6 * c_ + i_).toNat vx24_)) := ai_fr_tr (fr_le f344_ rfl) (ai_fr_aI rfl)
            rw [fr_arr (t := 222) (i := 0) fT_ rfl]
            exact ht_
          · have fT_ : ai_fr (sx_W w304) S_ ((sm_aI Sx19_ 232 0 (6 * c_ + i_).toNat vx24_)) := ai_fr_tr (fr_le f344_ rfl) (ai_fr_aI rfl)
            exact (rcm_fr hrc_ fT_).1
          · have fT_ : ai_fr (sx_W w304) S_ ((sm_aI Sx19_ 232 0 (6 * c_ + i_).toNat vx24_)) := ai_fr_tr (fr_le f344_ rfl) (ai_fr_aI rfl)
            exact (fT_.1 13 0 0 rfl).trans hcd_
          · have fT_ : ai_fr (sx_W w304) S_ ((sm_aI Sx19_ 232 0 (6 * c_ + i_).toNat vx24_)) := ai_fr_tr (fr_le f344_ rfl) (ai_fr_aI rfl)
            rw [rfv_cg (fr_arr (t := 185) (i := 0) fT_ rfl) (fr_arr (t := 186) (i := 0) fT_ rfl) (fr_arr (t := 187) (i := 0) fT_ rfl), fT_.1 13 0 107 rfl, fT_.1 13 0 108 rfl, fr_arr (t := 184) (i := 0) fT_ rfl, fr_arr (t := 187) (i := 0) fT_ rfl]
            exact hiw_
          · exact hok_
          · have fT_ : ai_fr (sx_W w304) S_ ((sm_aI Sx19_ 232 0 (6 * c_ + i_).toNat vx24_)) := ai_fr_tr (fr_le f344_ rfl) (ai_fr_aI rfl)
            exact rne_fr hun_ fT_
          · have fT_ : ai_fr (sx_W w304) S_ ((sm_aI Sx19_ 232 0 (6 * c_ + i_).toNat vx24_)) := ai_fr_tr (fr_le f344_ rfl) (ai_fr_aI rfl)
            exact wal9_cg hal_ (fr_arr fT_ rfl) (fr_arr fT_ rfl) (fr_arr fT_ rfl) (fr_arr fT_ rfl) (fr_arr fT_ rfl) (fr_arr fT_ rfl) (fr_arr fT_ rfl) (fr_arr fT_ rfl) (fr_arr fT_ rfl) (fT_.1 13 0 106 rfl) (fT_.1 13 0 108 rfl)
          · have fT_ : ai_fr (sx_W w304) S_ ((sm_aI Sx19_ 232 0 (6 * c_ + i_).toNat vx24_)) := ai_fr_tr (fr_le f344_ rfl) (ai_fr_aI rfl)
            exact fun G9_ => gdr_cg (hgd_ G9_) (fr_arr fT_ rfl) (fr_arr fT_ rfl) (fr_arr fT_ rfl)
          · have fT_ : ai_fr (sx_W w304) S_ ((sm_aI Sx19_ 232 0 (6 * c_ + i_).toNat vx24_)) := ai_fr_tr (fr_le f344_ rfl) (ai_fr_aI rfl)
            intro x_ hx_
            have t9_ := (rcm_fr hrc_ fT_).2
            rw [t9_] at hx_ ⊢
            exact rnw_fr (hrc_.2 x_ hx_).1 (hra_ x_ hx_) hI_ fT_
          · have fT_ : ai_fr (sx_W w304) S_ ((sm_aI Sx19_ 232 0 (6 * c_ + i_).toNat vx24_)) := ai_fr_tr (fr_le f344_ rfl) (ai_fr_aI rfl)
            refine fun z9_ => ?_
            obtain ⟨x9_, a9_, c9_, d9_⟩ := hbd_ z9_
            exact ⟨x9_, by (rw [(rcm_fr hrc_ fT_).2]; exact a9_), by (rw [fr_arr (t := 203) (i := 0) fT_ rfl]; exact c9_), by (rw [fr_arr (t := 210) (i := 0) fT_ rfl]; exact d9_)⟩
          · have fT_ : ai_fr (sx_W w304) S_ ((sm_aI Sx19_ 232 0 (6 * c_ + i_).toNat vx24_)) := ai_fr_tr (fr_le f344_ rfl) (ai_fr_aI rfl)
            rw [fT_.1 13 0 127 rfl, fr_arr (t := 213) (i := 0) fT_ rfl]
            exact hrd_
          · exact gst_a e344_.1 (Or.inr rfl)
          · have fT_ : ai_fr (sx_W w304) S_ ((sm_aI Sx19_ 232 0 (6 * c_ + i_).toNat vx24_)) := ai_fr_tr (fr_le f344_ rfl) (ai_fr_aI rfl)
            intro G9_ k9_ u0_ u1_
            rw [fr_arr (t := 156) (i := 0) fT_ rfl] at u1_
            rw [fr_arr (t := 231) (i := 0) fT_ rfl]
            (try simp only [rd_eq, rd_ne, rf_eq, rf_nk, rf_nt, rd_fa, rd_af, rd_fl, rd_al, rd_lf, rd_la, rd_leq, rd_lne, rd_fr, rd_ar, ne_eq, Nat.reduceEqDiff, not_false_eq_true])
            have w9_ := ho_ G9_ k9_ u0_ u1_
            omega
          · intro G9_ k9_ u0_ u1_
            (try simp only [rd_eq, rd_ne, rf_eq, rf_nk, rf_nt, rd_fa, rd_af, rd_fl, rd_al, rd_lf, rd_la, rd_leq, rd_lne, rd_fr, rd_ar, ne_eq, Nat.reduceEqDiff, not_false_eq_true])
            by_cases z9_ : k9_ = i_
            · rw [z9_, if_pos rfl]; omega
            · rw [if_neg (by omega), fr_arr (t := 232) (i := 0) f344_ rfl]; have w9_ := hp_ G9_ k9_ u0_ (by omega); omega
          · have fT_ : ai_fr (sx_W w304) S_ ((sm_aI Sx19_ 232 0 (6 * c_ + i_).toNat vx24_)) := ai_fr_tr (fr_le f344_ rfl) (ai_fr_aI rfl)
            refine fun G9_ => ?_
            have fB_ : ai_fr (sx_W ([], [232], [])) Sx19_ ((sm_aI Sx19_ 232 0 (6 * c_ + i_).toNat vx24_)) := ai_fr_aI rfl
            rw [fr_arr (t := 156) (i := 0) fT_ rfl, show (S_.2.2.1 156 0 a1_.toNat).toNat + (i_ + 1).toNat = (S_.2.2.1 156 0 a1_.toNat).toNat + i_.toNat + 1 by omega]
            refine rqz_fr (RQ344_ _ (fun j_ hj_ => ?_) ?_) fB_
            · unfold ntc
              by_cases z9_ : (j_ : Int) < S_.2.2.1 156 0 a1_.toNat
              · rw [if_pos z9_, if_pos z9_, fr_arr (t := 231) (i := 0) fT_ rfl]
              · rw [if_neg z9_, if_neg z9_, rd_eq, if_neg (by omega), fr_arr (t := 232) (i := 0) f344_ rfl]
            · unfold ntc
              rw [if_neg (by omega), rd_eq, if_pos (by omega)]
          · omega
set_option maxHeartbeats 4000000 in
set_option maxRecDepth 20000 in
theorem vc_419f {sc_ : Nat × (Nat → Int)} (a1_ : Int) (a2_ : Int) (F_ : Int) (N_ : Int) (S0_ : sm_S) (hI_ : gi S0_) (ha1_ : (-2147483648) ≤ a1_ ∧ a1_ ≤ 2147483647) (ha2_ : (-2147483648) ≤ a2_ ∧ a2_ ≤ 2147483647) (hJ_ : jR S0_) (hF0_ : F_ = S0_.2.2.1 160 0 a1_.toNat) (hN0_ : N_ = S0_.2.2.1 159 0 a1_.toNat) (hsw : imq (0 ≤ a1_ ∧ a1_ < 6 ∧ S0_.2.2.1 153 0 a1_.toNat = 1) (swd F_.toNat N_.toNat (mql a1_ S0_) (mqh a1_ S0_) (mqs a1_ S0_))) (hrd0_ : 0 ≤ S0_.1 13 0 127 ∧ S0_.1 13 0 127 ≤ 1999900000) (hmb0_ : ∀ x_ : Nat, -(S0_.1 13 0 127) ≤ S0_.2.2.1 213 0 x_ ∧ S0_.2.2.1 213 0 x_ ≤ S0_.1 13 0 127) : sm_T (mt_P sc_) 5 419 (0, [some (.inr (.inr (some (13, 0)))), some (.inl a1_), some (.inl a2_), none, none, none], [], S0_) (fun ro9_ => ∃ u_ S1_, ro9_ = (.inl u_, S1_, 0) ∧ vq_419f a1_ a2_ F_ N_ S0_ u_ S1_) := by
  have hF_ : ai_fr (sx_W vw_419f) S0_ S0_ := ai_fr_rf
  refine sm_T_go 3 (c1 := (5, [some (.inr (.inr (some (13, 0)))), some (.inl a1_), some (.inl a2_), none, none, none], [.inl 4, .inr (.inr (some (222, 0)))], S0_)) rfl ?_
  refine sm_T_cal (d1 := 0) (Q1 := vq_362c 4 S0_) rfl rfl (by decide) (vc_362c 4 S0_ hI_ (by omega)) (fun u_ Sx1_ px4_ => ?_)
  obtain ⟨rfl, vx6_, rfl, px4_⟩ := px4_
  have d5f := px4_
  have FR5_ : imq (vx6_ ≠ -1) (frr vx6_ S0_) := fun z9_ => by (rcases px4_ with y9_ | ⟨u9_, y1_, y2_, y3_, y4_⟩; exact absurd y9_.1 z9_; (rw [y1_]; exact ⟨by omega, by omega, y3_, fun j_ hj_ => y4_ j_ (by omega)⟩))
  have d5_ : vx6_ = -1 ∨ (0 ≤ vx6_ ∧ vx6_ ≤ 3 ∧ S0_.2.2.1 222 0 (vx6_).toNat = 0) := by (rcases px4_ with y9_ | ⟨u9_, y1_, y2_, y3_, y4_⟩; exact Or.inl y9_.1; (right; rw [y1_]; exact ⟨by omega, by omega, y3_⟩))
  refine sm_T_go 4 (c1 := (12, [some (.inr (.inr (some (13, 0)))), some (.inl a1_), some (.inl a2_), some (.inl vx6_), none, none], [.inl a1_, .inr (.inr (some (13, 0))), .inr (.inr (some (13, 0)))], S0_)) rfl ?_
  refine sm_T_cal (d1 := 0) (Q1 := vq_369 a1_ S0_) rfl rfl (by decide) (vc_369 a1_ S0_ hI_ (by omega)) (fun u_ Sx7_ px10_ => ?_)
  obtain ⟨rfl, vx12_, rfl, px10_⟩ := px10_
  have d12_ := px10_
  refine sm_T_b0 (a := 0) (z := 11) rfl (fun cx13_ => ?_) (fun cx13_ => ?_)
  · have cx13_ : vx12_ = 0 := of_decide_eq_true cx13_
    have hIx14_ : gi (sm_pI S0_ 13 0 0 1) := gi_pI hI_ (show 0 ≤ 1 ∧ 1 ≤ 4 from ⟨by omega, by omega⟩)
    have hFx15_ : ai_fr (sx_W vw_419f) S0_ (sm_pI S0_ 13 0 0 1) := ai_fr_tr hF_ (ai_fr_pI rfl)
    refine sm_T_go 7 (c1 := (51, [some (.inr (.inr (some (13, 0)))), some (.inl a1_), some (.inl a2_), some (.inl vx6_), none, none], [.inl 0], sm_pI S0_ 13 0 0 1)) rfl ?_
    refine sm_T_ri rfl ⟨_, _, rfl, _, rfl, hIx14_, hFx15_, ?_⟩
    refine ⟨⟨by omega, by omega⟩, hJ_, ⟨⟨hrd0_.1, by (show S0_.1 13 0 127 ≤ S0_.1 13 0 127 + 65000; omega)⟩, hmb0_⟩, ?_⟩
    first | exact Or.inl ⟨rf_eq, rfl, by (unfold ora_map; omega)⟩ | exact Or.inr (Or.inl ⟨rf_eq, rfl, by (unfold ora_map; omega), fun ⟨c9_, k1_, k2_, k3_, k4_⟩ => by (rcases d5f with y9_ | ⟨u9_, y1_, y2_, y3_, y4_⟩; (have z9_ := y9_.2 c9_.toNat (by omega); omega); omega)⟩)
  · have cx13_ : ¬ (vx12_ = 0) := of_decide_eq_false cx13_
    refine sm_T_go 2 (c1 := (20, [some (.inr (.inr (some (13, 0)))), some (.inl a1_), some (.inl a2_), some (.inl vx6_), none, none], [.inl a2_, .inr (.inr (some (13, 0))), .inr (.inr (some (13, 0)))], S0_)) rfl ?_
    refine sm_T_cal (d1 := 0) (Q1 := vq_370 a2_ S0_) rfl rfl (by decide) (vc_370 a2_ S0_ hI_ (by omega)) (fun u_ Sx16_ px19_ => ?_)
    obtain ⟨rfl, vx21_, rfl, px19_⟩ := px19_
    have d20_ := px19_
    refine sm_T_b0 (a := 1) (z := 7) rfl (fun cx22_ => ?_) (fun cx22_ => ?_)
    · have cx22_ : vx21_ ≠ 0 := of_decide_eq_true cx22_
      refine sm_T_go 2 (c1 := (32, [some (.inr (.inr (some (13, 0)))), some (.inl a1_), some (.inl a2_), some (.inl vx6_), none, none], [.inl (-1), .inl vx6_, .inr (.inr (some (13, 0)))], S0_)) rfl ?_
      refine sm_T_br (a := 1) (z := 7) rfl (fun cx23_ => ?_) (fun cx23_ => ?_)
      · have cx23_ : vx6_ ≠ (-1) := of_decide_eq_true cx23_
        have hIx24_ : gi (sm_pI S0_ 13 0 0 0) := gi_pI hI_ (show 0 ≤ 0 ∧ 0 ≤ 4 from ⟨by omega, by omega⟩)
        have hFx25_ : ai_fr (sx_W vw_419f) S0_ (sm_pI S0_ 13 0 0 0) := ai_fr_tr hF_ (ai_fr_pI rfl)
        have hIx26_ : gi (sm_pI (sm_pI S0_ 13 0 0 0) 13 0 105 a1_) := gi_pI hIx24_ (show 0 ≤ a1_ ∧ a1_ ≤ 5 from ⟨by omega, by omega⟩)
        have hFx27_ : ai_fr (sx_W vw_419f) S0_ (sm_pI (sm_pI S0_ 13 0 0 0) 13 0 105 a1_) := ai_fr_tr hFx25_ (ai_fr_pI rfl)
        have hIx28_ : gi (sm_pI (sm_pI (sm_pI S0_ 13 0 0 0) 13 0 105 a1_) 13 0 106 a2_) := gi_pI hIx26_ (show 0 ≤ a2_ ∧ a2_ ≤ 2 from ⟨by omega, by omega⟩)
        have hFx29_ : ai_fr (sx_W vw_419f) S0_ (sm_pI (sm_pI (sm_pI S0_ 13 0 0 0) 13 0 105 a1_) 13 0 106 a2_) := ai_fr_tr hFx27_ (ai_fr_pI rfl)
        refine sm_T_go 14 (c1 := (65, [some (.inr (.inr (some (13, 0)))), some (.inl a1_), some (.inl a2_), some (.inl vx6_), none, none], [.inl a2_, .inr (.inr (some (13, 0))), .inr (.inr (some (13, 0)))], sm_pI (sm_pI (sm_pI S0_ 13 0 0 0) 13 0 105 a1_) 13 0 106 a2_)) rfl ?_
        refine sm_T_cal (d1 := 0) (Q1 := vq_379v a2_ (sm_pI (sm_pI (sm_pI S0_ 13 0 0 0) 13 0 105 a1_) 13 0 106 a2_)) rfl rfl (by decide) (vc_379v a2_ (sm_pI (sm_pI (sm_pI S0_ 13 0 0 0) 13 0 105 a1_) 13 0 106 a2_) hIx28_ (by omega)) (fun u_ Sx30_ px33_ => ?_)
        obtain ⟨rfl, vx35_, rfl, px33_⟩ := px33_
        have p65_ := px33_
        obtain ⟨w65_, hw65_⟩ : ∃ w9_ : Int, w9_ = vx35_ := ⟨_, rfl⟩
        have e65_ : (-1 ≤ vx35_ ∧ vx35_ ≤ 11) ∧ (vx35_ = -1 ∨ (0 ≤ vx35_ ∧ vx35_ ≤ 11 ∧ S0_.2.2.1 185 0 (12 * a2_ + vx35_).toNat = 1)) := ⟨p65_.2, by (have z9_ := rfv_b (A_ := S0_.2.2.1) (a_ := a2_) (S0_.2.2.1 184 0 a2_.toNat).toNat; have y9_ := p65_.1; rw [← (show vx35_ = rfv S0_.2.2.1 a2_ (S0_.2.2.1 184 0 a2_.toNat).toNat from y9_)] at z9_; rcases z9_ with z9_ | z9_; exact Or.inl z9_; exact Or.inr ⟨z9_.1, p65_.2.2, z9_.2.2⟩)⟩
        have D9_ : dRk a1_.toNat S0_ := hJ_.1 a1_.toNat (by omega) (by omega)
        have B9_ : 1 ≤ F_ ∧ F_ ≤ 13 ∧ F_ ≤ N_ ∧ N_ ≤ 1013 := by (obtain ⟨F1_, I9_, R9_, N1_, k1_, -⟩ := D9_; omega)
        have C9_ := d5_.resolve_left (by omega)
        have hIx36_ : gi (sm_pI (sm_pI (sm_pI (sm_pI S0_ 13 0 0 0) 13 0 105 a1_) 13 0 106 a2_) 13 0 107 vx35_) := gi_pI hIx28_ (show (-1) ≤ vx35_ ∧ vx35_ ≤ 11 from ⟨by omega, by omega⟩)
        have hFx37_ : ai_fr (sx_W vw_419f) S0_ (sm_pI (sm_pI (sm_pI (sm_pI S0_ 13 0 0 0) 13 0 105 a1_) 13 0 106 a2_) 13 0 107 vx35_) := ai_fr_tr hFx29_ (ai_fr_pI rfl)
        refine sm_T_go 5 (c1 := (77, [some (.inr (.inr (some (13, 0)))), some (.inl a1_), some (.inl a2_), some (.inl vx6_), none, none], [.inl (-1), .inl vx35_, .inr (.inr (some (13, 0)))], sm_pI (sm_pI (sm_pI (sm_pI S0_ 13 0 0 0) 13 0 105 a1_) 13 0 106 a2_) 13 0 107 vx35_)) rfl ?_
        refine sm_T_br (a := 1) (z := 9) rfl (fun cx38_ => ?_) (fun cx38_ => ?_)
        · have cx38_ : vx35_ ≠ (-1) := of_decide_eq_true cx38_
          refine sm_T_go 4 (c1 := (93, [some (.inr (.inr (some (13, 0)))), some (.inl a1_), some (.inl a2_), some (.inl vx6_), none, none], [.inl a2_, .inl 12, .inr (.inr (some (187, 0))), .inr (.inr (some (13, 0)))], sm_pI (sm_pI (sm_pI (sm_pI S0_ 13 0 0 0) 13 0 105 a1_) 13 0 106 a2_) 13 0 107 vx35_)) rfl ?_
          refine sm_T_bin (w := 12 * a2_) rfl (bi_mul (by omega) (by omega) (by omega)) ?_ -- pc_ 93
          refine sm_T_go 2 (c1 := (98, [some (.inr (.inr (some (13, 0)))), some (.inl a1_), some (.inl a2_), some (.inl vx6_), none, none], [.inl vx35_, .inl (12 * a2_), .inr (.inr (some (187, 0))), .inr (.inr (some (13, 0)))], sm_pI (sm_pI (sm_pI (sm_pI S0_ 13 0 0 0) 13 0 105 a1_) 13 0 106 a2_) 13 0 107 vx35_)) rfl ?_
          refine sm_T_bin (w := 12 * a2_ + vx35_) rfl (bi_add (by omega) (by omega) (by omega)) ?_ -- pc_ 98
          refine sm_T_iald (n := 36) rfl rfl (by omega) (by omega) ?_
          have bx39_ : 0 ≤ S0_.2.2.1 187 0 (12 * a2_ + vx35_).toNat ∧ S0_.2.2.1 187 0 (12 * a2_ + vx35_).toNat ≤ 1000 := hI_.2 187 0 _
          have hIx40_ : gi (sm_pI (sm_pI (sm_pI (sm_pI (sm_pI S0_ 13 0 0 0) 13 0 105 a1_) 13 0 106 a2_) 13 0 107 vx35_) 13 0 108 (S0_.2.2.1 187 0 (12 * a2_ + vx35_).toNat)) := gi_pI hIx36_ (show 0 ≤ (S0_.2.2.1 187 0 (12 * a2_ + vx35_).toNat) ∧ (S0_.2.2.1 187 0 (12 * a2_ + vx35_).toNat) ≤ 1000000000 from ⟨by omega, by omega⟩)
          have hFx41_ : ai_fr (sx_W vw_419f) S0_ (sm_pI (sm_pI (sm_pI (sm_pI (sm_pI S0_ 13 0 0 0) 13 0 105 a1_) 13 0 106 a2_) 13 0 107 vx35_) 13 0 108 (S0_.2.2.1 187 0 (12 * a2_ + vx35_).toNat)) := ai_fr_tr hFx37_ (ai_fr_pI rfl)
          refine sm_T_go 2 (c1 := (104, [some (.inr (.inr (some (13, 0)))), some (.inl a1_), some (.inl a2_), some (.inl vx6_), none, none], [.inr (.inr (some (13, 0)))], sm_pI (sm_pI (sm_pI (sm_pI (sm_pI S0_ 13 0 0 0) 13 0 105 a1_) 13 0 106 a2_) 13 0 107 vx35_) 13 0 108 (S0_.2.2.1 187 0 (12 * a2_ + vx35_).toNat))) rfl ?_
          refine sm_T_cal (d1 := 2) (Q1 := vq_394n F_ N_ a1_ (sm_pI (sm_pI (sm_pI (sm_pI (sm_pI S0_ 13 0 0 0) 13 0 105 a1_) 13 0 106 a2_) 13 0 107 vx35_) 13 0 108 (S0_.2.2.1 187 0 (12 * a2_ + vx35_).toNat))) rfl rfl (by decide) (vc_394n F_ N_ a1_ (sm_pI (sm_pI (sm_pI (sm_pI (sm_pI S0_ 13 0 0 0) 13 0 105 a1_) 13 0 106 a2_) 13 0 107 vx35_) 13 0 108 (S0_.2.2.1 187 0 (12 * a2_ + vx35_).toNat)) hIx40_ (by exact ⟨⟨by omega, by omega, by (try simp only [rd_eq, rd_ne, rf_eq, rf_nk, rf_nt, rd_fa, rd_af, rd_fl, rd_al, rd_lf, rd_la, rd_leq, rd_lne, rd_fr, rd_ar, ne_eq, Nat.reduceEqDiff, not_false_eq_true]), by (show S0_.2.2.1 160 0 a1_.toNat = F_; omega), by (show S0_.2.2.1 159 0 a1_.toNat = N_; omega), by omega, by omega, by omega, by omega⟩, D9_⟩)) (fun u_ Sx42_ px45_ => ?_)
          obtain ⟨rfl, hIx43_, hFx44_, px45_⟩ := px45_
          have hFx46_ : ai_fr (sx_W vw_419f) S0_ Sx42_ := ai_fr_tr hFx41_ (fr_le hFx44_ rfl)
          have e104_ := (px45_).1
          have k104_ : ∀ c9_ : Nat, rcf c9_ ((sm_pI (sm_pI (sm_pI (sm_pI (sm_pI S0_ 13 0 0 0) 13 0 105 a1_) 13 0 106 a2_) 13 0 107 vx35_) 13 0 108 (S0_.2.2.1 187 0 (12 * a2_ + vx35_).toNat))) Sx42_ := fun c9_ => rcf_fr hFx44_ rfl
          have f104_ := hFx44_
          have M4_ : dmp F_ N_ a1_ (sm_pI (sm_pI (sm_pI (sm_pI (sm_pI S0_ 13 0 0 0) 13 0 105 a1_) 13 0 106 a2_) 13 0 107 vx35_) 13 0 108 (S0_.2.2.1 187 0 (12 * a2_ + vx35_).toNat)) := ⟨⟨by omega, by omega, by (try simp only [rd_eq, rd_ne, rf_eq, rf_nk, rf_nt, rd_fa, rd_af, rd_fl, rd_al, rd_lf, rd_la, rd_leq, rd_lne, rd_fr, rd_ar, ne_eq, Nat.reduceEqDiff, not_false_eq_true]), by (show S0_.2.2.1 160 0 a1_.toNat = F_; omega), by (show S0_.2.2.1 159 0 a1_.toNat = N_; omega), by omega, by omega, by omega, by omega⟩, D9_⟩
          have RC104_ : rcm F_ N_ a1_ Sx42_ := rcm_n M4_ (hsw (by omega)) (dmp_fr M4_ hFx44_) (mq_fr hFx44_) (px45_).2.2.1 (px45_).2.1 (px45_).2.2.2
          have x127_ : Sx42_.1 13 0 127 = S0_.1 13 0 127 := (hFx44_.1 13 0 127 rfl).trans (by (try simp only [rd_eq, rd_ne, rf_eq, rf_nk, rf_nt, rd_fa, rd_af, rd_fl, rd_al, rd_lf, rd_la, rd_leq, rd_lne, rd_fr, rd_ar, ne_eq, Nat.reduceEqDiff, not_false_eq_true]))
          have x000_ : Sx42_.1 13 0 0 = 0 := (hFx44_.1 13 0 0 rfl).trans (by (try simp only [rd_eq, rd_ne, rf_eq, rf_nk, rf_nt, rd_fa, rd_af, rd_fl, rd_al, rd_lf, rd_la, rd_leq, rd_lne, rd_fr, rd_ar, ne_eq, Nat.reduceEqDiff, not_false_eq_true]))
          have x213_ : Sx42_.2.2.1 213 0 = ((sm_pI (sm_pI (sm_pI (sm_pI (sm_pI S0_ 13 0 0 0) 13 0 105 a1_) 13 0 106 a2_) 13 0 107 vx35_) 13 0 108 (S0_.2.2.1 187 0 (12 * a2_ + vx35_).toNat))).2.2.1 213 0 := fr_arr (t := 213) (i := 0) hFx44_ rfl
          have x184_ : Sx42_.2.2.1 184 0 = ((sm_pI (sm_pI (sm_pI (sm_pI (sm_pI S0_ 13 0 0 0) 13 0 105 a1_) 13 0 106 a2_) 13 0 107 vx35_) 13 0 108 (S0_.2.2.1 187 0 (12 * a2_ + vx35_).toNat))).2.2.1 184 0 := fr_arr (t := 184) (i := 0) hFx44_ rfl
          have x185_ : Sx42_.2.2.1 185 0 = ((sm_pI (sm_pI (sm_pI (sm_pI (sm_pI S0_ 13 0 0 0) 13 0 105 a1_) 13 0 106 a2_) 13 0 107 vx35_) 13 0 108 (S0_.2.2.1 187 0 (12 * a2_ + vx35_).toNat))).2.2.1 185 0 := fr_arr (t := 185) (i := 0) hFx44_ rfl
          have x186_ : Sx42_.2.2.1 186 0 = ((sm_pI (sm_pI (sm_pI (sm_pI (sm_pI S0_ 13 0 0 0) 13 0 105 a1_) 13 0 106 a2_) 13 0 107 vx35_) 13 0 108 (S0_.2.2.1 187 0 (12 * a2_ + vx35_).toNat))).2.2.1 186 0 := fr_arr (t := 186) (i := 0) hFx44_ rfl
          have x187_ : Sx42_.2.2.1 187 0 = ((sm_pI (sm_pI (sm_pI (sm_pI (sm_pI S0_ 13 0 0 0) 13 0 105 a1_) 13 0 106 a2_) 13 0 107 vx35_) 13 0 108 (S0_.2.2.1 187 0 (12 * a2_ + vx35_).toNat))).2.2.1 187 0 := fr_arr (t := 187) (i := 0) hFx44_ rfl
          have x107_ : Sx42_.1 13 0 107 = w65_ := (hFx44_.1 13 0 107 rfl).trans (by (rw [hw65_]; (try simp only [rd_eq, rd_ne, rf_eq, rf_nk, rf_nt, rd_fa, rd_af, rd_fl, rd_al, rd_lf, rd_la, rd_leq, rd_lne, rd_fr, rd_ar, ne_eq, Nat.reduceEqDiff, not_false_eq_true])))
          have x108_ : Sx42_.1 13 0 108 = if w65_ = -1 then 1000000000 else S0_.2.2.1 187 0 (12 * a2_ + w65_).toNat := (hFx44_.1 13 0 108 rfl).trans (by (rw [hw65_]; (try simp only [rd_eq, rd_ne, rf_eq, rf_nk, rf_nt, rd_fa, rd_af, rd_fl, rd_al, rd_lf, rd_la, rd_leq, rd_lne, rd_fr, rd_ar, ne_eq, Nat.reduceEqDiff, not_false_eq_true]); first | (rw [if_pos (by omega)]) | (rw [if_neg (by omega)])))
          have x160_ : Sx42_.2.2.1 160 0 a1_.toNat = F_ := (dmp_fr M4_ hFx44_).1.2.2.2.1
          have x106_ : Sx42_.1 13 0 106 = a2_ := (hFx44_.1 13 0 106 rfl).trans (by (try simp only [rd_eq, rd_ne, rf_eq, rf_nk, rf_nt, rd_fa, rd_af, rd_fl, rd_al, rd_lf, rd_la, rd_leq, rd_lne, rd_fr, rd_ar, ne_eq, Nat.reduceEqDiff, not_false_eq_true]))
          have y156_ : Sx42_.2.2.1 156 0 = ((sm_pI (sm_pI (sm_pI (sm_pI (sm_pI S0_ 13 0 0 0) 13 0 105 a1_) 13 0 106 a2_) 13 0 107 vx35_) 13 0 108 (S0_.2.2.1 187 0 (12 * a2_ + vx35_).toNat))).2.2.1 156 0 := fr_arr (t := 156) (i := 0) hFx44_ rfl
          have y155_ : Sx42_.2.2.1 155 0 = ((sm_pI (sm_pI (sm_pI (sm_pI (sm_pI S0_ 13 0 0 0) 13 0 105 a1_) 13 0 106 a2_) 13 0 107 vx35_) 13 0 108 (S0_.2.2.1 187 0 (12 * a2_ + vx35_).toNat))).2.2.1 155 0 := fr_arr (t := 155) (i := 0) hFx44_ rfl
          have v104_ : Sx42_.1 13 0 107 = -1 ∨ Sx42_.2.2.1 185 0 (12 * Sx42_.1 13 0 106 + Sx42_.1 13 0 107).toNat = 1 := by (rw [hFx44_.1 13 0 107 rfl, x106_, fr_arr (t := 185) (i := 0) hFx44_ rfl]; (try simp only [rd_eq, rd_ne, rf_eq, rf_nk, rf_nt, rd_fa, rd_af, rd_fl, rd_al, rd_lf, rd_la, rd_leq, rd_lne, rd_fr, rd_ar, ne_eq, Nat.reduceEqDiff, not_false_eq_true]); rcases e65_.2 with y9_ | y9_; exact Or.inl y9_; exact Or.inr y9_.2.2)
          refine sm_T_go 5 (c1 := (115, [some (.inr (.inr (some (13, 0)))), some (.inl a1_), some (.inl a2_), some (.inl vx6_), some (.inl 1), none], [.inl a1_, .inr (.inr (some (160, 0)))], Sx42_)) rfl ?_
          refine sm_T_iald (n := 6) rfl rfl (by omega) (by omega) ?_
          have bx47_ : 0 ≤ Sx42_.2.2.1 160 0 a1_.toNat ∧ Sx42_.2.2.1 160 0 a1_.toNat ≤ 19 := hIx43_.2 160 0 _
          refine sm_T_go 1 (c1 := (118, [some (.inr (.inr (some (13, 0)))), some (.inl a1_), some (.inl a2_), some (.inl vx6_), some (.inl 1), some (.inl (Sx42_.2.2.1 160 0 a1_.toNat))], [], Sx42_)) rfl ?_
          refine (vl_419f a1_ a2_ F_ N_ S0_ ha1_ ha2_ hJ_ hF0_ hN0_ hsw hrd0_ hmb0_ _).1 vx6_ 1 (Sx42_.2.2.1 160 0 a1_.toNat) Sx42_ hIx43_ hFx46_ ⟨?_, ?_, ?_, ?_, ?_, ?_, ?_, ?_, ?_, ?_, ?_, ?_, ?_, ?_, ?_, ?_, ?_, ?_, ?_, trivial⟩ (Nat.lt_succ_self _)
          · omega
          · exact dmp_fr M4_ f104_
          · exact x106_
          · (rw [y156_, y155_]; exact e104_.2)
          · exact v104_
          · exact k104_ _
          · exact (congrFun (fr_arr (t := 222) (i := 0) f104_ rfl) _).trans C9_.2.2
          · exact RC104_
          · exact x000_
          · rw [x107_, x108_, rfv_cg (B_ := S0_.2.2.1) x185_ x186_ x187_, x184_, x187_]
            exact ⟨hw65_.trans p65_.1, rfl⟩
          · exact ⟨by (unfold ora_map; omega), FR5_ (by omega)⟩
          · exact fun t9_ ht9_ => (rne_fr rne_rf f104_ (by rfl) t9_ ht9_)
          · exact e104_.1
          · (intro n9_ u0_ u1_; exfalso; omega)
          · (intro G9_ n9_ u0_ u1_; exfalso; omega)
          · (intro j9_ u0_ u1_; exfalso; omega)
          · (intro x_ hx_ u1_; exfalso; have z9_ := hx_.1; omega)
          · (refine fun z9_ => ?_; exfalso; omega)
          · rw [x127_, x213_]
            exact ⟨⟨hrd0_.1, by omega⟩, hmb0_⟩
        · have cx38_ : ¬ (vx35_ ≠ (-1)) := of_decide_eq_false cx38_
          refine sm_T_nt (u := some (.inl 1000000000)) (S1 := sm_pI (sm_pI (sm_pI (sm_pI S0_ 13 0 0 0) 13 0 105 a1_) 13 0 106 a2_) 13 0 107 vx35_) rfl rfl rfl ?_
          have hIx48_ : gi (sm_pI (sm_pI (sm_pI (sm_pI (sm_pI S0_ 13 0 0 0) 13 0 105 a1_) 13 0 106 a2_) 13 0 107 vx35_) 13 0 108 1000000000) := gi_pI hIx36_ (show 0 ≤ 1000000000 ∧ 1000000000 ≤ 1000000000 from ⟨by omega, by omega⟩)
          have hFx49_ : ai_fr (sx_W vw_419f) S0_ (sm_pI (sm_pI (sm_pI (sm_pI (sm_pI S0_ 13 0 0 0) 13 0 105 a1_) 13 0 106 a2_) 13 0 107 vx35_) 13 0 108 1000000000) := ai_fr_tr hFx37_ (ai_fr_pI rfl)
          refine sm_T_go 3 (c1 := (104, [some (.inr (.inr (some (13, 0)))), some (.inl a1_), some (.inl a2_), some (.inl vx6_), none, none], [.inr (.inr (some (13, 0)))], sm_pI (sm_pI (sm_pI (sm_pI (sm_pI S0_ 13 0 0 0) 13 0 105 a1_) 13 0 106 a2_) 13 0 107 vx35_) 13 0 108 1000000000)) rfl ?_
          refine sm_T_cal (d1 := 2) (Q1 := vq_394n F_ N_ a1_ (sm_pI (sm_pI (sm_pI (sm_pI (sm_pI S0_ 13 0 0 0) 13 0 105 a1_) 13 0 106 a2_) 13 0 107 vx35_) 13 0 108 1000000000)) rfl rfl (by decide) (vc_394n F_ N_ a1_ (sm_pI (sm_pI (sm_pI (sm_pI (sm_pI S0_ 13 0 0 0) 13 0 105 a1_) 13 0 106 a2_) 13 0 107 vx35_) 13 0 108 1000000000) hIx48_ (by exact ⟨⟨by omega, by omega, by (try simp only [rd_eq, rd_ne, rf_eq, rf_nk, rf_nt, rd_fa, rd_af, rd_fl, rd_al, rd_lf, rd_la, rd_leq, rd_lne, rd_fr, rd_ar, ne_eq, Nat.reduceEqDiff, not_false_eq_true]), by (show S0_.2.2.1 160 0 a1_.toNat = F_; omega), by (show S0_.2.2.1 159 0 a1_.toNat = N_; omega), by omega, by omega, by omega, by omega⟩, D9_⟩)) (fun u_ Sx50_ px53_ => ?_)
          obtain ⟨rfl, hIx51_, hFx52_, px53_⟩ := px53_
          have hFx54_ : ai_fr (sx_W vw_419f) S0_ Sx50_ := ai_fr_tr hFx49_ (fr_le hFx52_ rfl)
          have e104_ := (px53_).1
          have k104_ : ∀ c9_ : Nat, rcf c9_ ((sm_pI (sm_pI (sm_pI (sm_pI (sm_pI S0_ 13 0 0 0) 13 0 105 a1_) 13 0 106 a2_) 13 0 107 vx35_) 13 0 108 1000000000)) Sx50_ := fun c9_ => rcf_fr hFx52_ rfl
          have f104_ := hFx52_
          have M4_ : dmp F_ N_ a1_ (sm_pI (sm_pI (sm_pI (sm_pI (sm_pI S0_ 13 0 0 0) 13 0 105 a1_) 13 0 106 a2_) 13 0 107 vx35_) 13 0 108 1000000000) := ⟨⟨by omega, by omega, by (try simp only [rd_eq, rd_ne, rf_eq, rf_nk, rf_nt, rd_fa, rd_af, rd_fl, rd_al, rd_lf, rd_la, rd_leq, rd_lne, rd_fr, rd_ar, ne_eq, Nat.reduceEqDiff, not_false_eq_true]), by (show S0_.2.2.1 160 0 a1_.toNat = F_; omega), by (show S0_.2.2.1 159 0 a1_.toNat = N_; omega), by omega, by omega, by omega, by omega⟩, D9_⟩
          have RC104_ : rcm F_ N_ a1_ Sx50_ := rcm_n M4_ (hsw (by omega)) (dmp_fr M4_ hFx52_) (mq_fr hFx52_) (px53_).2.2.1 (px53_).2.1 (px53_).2.2.2
          have x127_ : Sx50_.1 13 0 127 = S0_.1 13 0 127 := (hFx52_.1 13 0 127 rfl).trans (by (try simp only [rd_eq, rd_ne, rf_eq, rf_nk, rf_nt, rd_fa, rd_af, rd_fl, rd_al, rd_lf, rd_la, rd_leq, rd_lne, rd_fr, rd_ar, ne_eq, Nat.reduceEqDiff, not_false_eq_true]))
          have x000_ : Sx50_.1 13 0 0 = 0 := (hFx52_.1 13 0 0 rfl).trans (by (try simp only [rd_eq, rd_ne, rf_eq, rf_nk, rf_nt, rd_fa, rd_af, rd_fl, rd_al, rd_lf, rd_la, rd_leq, rd_lne, rd_fr, rd_ar, ne_eq, Nat.reduceEqDiff, not_false_eq_true]))
          have x213_ : Sx50_.2.2.1 213 0 = ((sm_pI (sm_pI (sm_pI (sm_pI (sm_pI S0_ 13 0 0 0) 13 0 105 a1_) 13 0 106 a2_) 13 0 107 vx35_) 13 0 108 1000000000)).2.2.1 213 0 := fr_arr (t := 213) (i := 0) hFx52_ rfl
          have x184_ : Sx50_.2.2.1 184 0 = ((sm_pI (sm_pI (sm_pI (sm_pI (sm_pI S0_ 13 0 0 0) 13 0 105 a1_) 13 0 106 a2_) 13 0 107 vx35_) 13 0 108 1000000000)).2.2.1 184 0 := fr_arr (t := 184) (i := 0) hFx52_ rfl
          have x185_ : Sx50_.2.2.1 185 0 = ((sm_pI (sm_pI (sm_pI (sm_pI (sm_pI S0_ 13 0 0 0) 13 0 105 a1_) 13 0 106 a2_) 13 0 107 vx35_) 13 0 108 1000000000)).2.2.1 185 0 := fr_arr (t := 185) (i := 0) hFx52_ rfl
          have x186_ : Sx50_.2.2.1 186 0 = ((sm_pI (sm_pI (sm_pI (sm_pI (sm_pI S0_ 13 0 0 0) 13 0 105 a1_) 13 0 106 a2_) 13 0 107 vx35_) 13 0 108 1000000000)).2.2.1 186 0 := fr_arr (t := 186) (i := 0) hFx52_ rfl
          have x187_ : Sx50_.2.2.1 187 0 = ((sm_pI (sm_pI (sm_pI (sm_pI (sm_pI S0_ 13 0 0 0) 13 0 105 a1_) 13 0 106 a2_) 13 0 107 vx35_) 13 0 108 1000000000)).2.2.1 187 0 := fr_arr (t := 187) (i := 0) hFx52_ rfl
          have x107_ : Sx50_.1 13 0 107 = w65_ := (hFx52_.1 13 0 107 rfl).trans (by (rw [hw65_]; (try simp only [rd_eq, rd_ne, rf_eq, rf_nk, rf_nt, rd_fa, rd_af, rd_fl, rd_al, rd_lf, rd_la, rd_leq, rd_lne, rd_fr, rd_ar, ne_eq, Nat.reduceEqDiff, not_false_eq_true])))
          have x108_ : Sx50_.1 13 0 108 = if w65_ = -1 then 1000000000 else S0_.2.2.1 187 0 (12 * a2_ + w65_).toNat := (hFx52_.1 13 0 108 rfl).trans (by (rw [hw65_]; (try simp only [rd_eq, rd_ne, rf_eq, rf_nk, rf_nt, rd_fa, rd_af, rd_fl, rd_al, rd_lf, rd_la, rd_leq, rd_lne, rd_fr, rd_ar, ne_eq, Nat.reduceEqDiff, not_false_eq_true]); first | (rw [if_pos (by omega)]) | (rw [if_neg (by omega)])))
          have x160_ : Sx50_.2.2.1 160 0 a1_.toNat = F_ := (dmp_fr M4_ hFx52_).1.2.2.2.1
          have x106_ : Sx50_.1 13 0 106 = a2_ := (hFx52_.1 13 0 106 rfl).trans (by (try simp only [rd_eq, rd_ne, rf_eq, rf_nk, rf_nt, rd_fa, rd_af, rd_fl, rd_al, rd_lf, rd_la, rd_leq, rd_lne, rd_fr, rd_ar, ne_eq, Nat.reduceEqDiff, not_false_eq_true]))
          have y156_ : Sx50_.2.2.1 156 0 = ((sm_pI (sm_pI (sm_pI (sm_pI (sm_pI S0_ 13 0 0 0) 13 0 105 a1_) 13 0 106 a2_) 13 0 107 vx35_) 13 0 108 1000000000)).2.2.1 156 0 := fr_arr (t := 156) (i := 0) hFx52_ rfl
          have y155_ : Sx50_.2.2.1 155 0 = ((sm_pI (sm_pI (sm_pI (sm_pI (sm_pI S0_ 13 0 0 0) 13 0 105 a1_) 13 0 106 a2_) 13 0 107 vx35_) 13 0 108 1000000000)).2.2.1 155 0 := fr_arr (t := 155) (i := 0) hFx52_ rfl
          have v104_ : Sx50_.1 13 0 107 = -1 ∨ Sx50_.2.2.1 185 0 (12 * Sx50_.1 13 0 106 + Sx50_.1 13 0 107).toNat = 1 := by (rw [hFx52_.1 13 0 107 rfl, x106_, fr_arr (t := 185) (i := 0) hFx52_ rfl]; (try simp only [rd_eq, rd_ne, rf_eq, rf_nk, rf_nt, rd_fa, rd_af, rd_fl, rd_al, rd_lf, rd_la, rd_leq, rd_lne, rd_fr, rd_ar, ne_eq, Nat.reduceEqDiff, not_false_eq_true]); rcases e65_.2 with y9_ | y9_; exact Or.inl y9_; exact Or.inr y9_.2.2)
          refine sm_T_go 5 (c1 := (115, [some (.inr (.inr (some (13, 0)))), some (.inl a1_), some (.inl a2_), some (.inl vx6_), some (.inl 1), none], [.inl a1_, .inr (.inr (some (160, 0)))], Sx50_)) rfl ?_
          refine sm_T_iald (n := 6) rfl rfl (by omega) (by omega) ?_
          have bx55_ : 0 ≤ Sx50_.2.2.1 160 0 a1_.toNat ∧ Sx50_.2.2.1 160 0 a1_.toNat ≤ 19 := hIx51_.2 160 0 _
          refine sm_T_go 1 (c1 := (118, [some (.inr (.inr (some (13, 0)))), some (.inl a1_), some (.inl a2_), some (.inl vx6_), some (.inl 1), some (.inl (Sx50_.2.2.1 160 0 a1_.toNat))], [], Sx50_)) rfl ?_
          refine (vl_419f a1_ a2_ F_ N_ S0_ ha1_ ha2_ hJ_ hF0_ hN0_ hsw hrd0_ hmb0_ _).1 vx6_ 1 (Sx50_.2.2.1 160 0 a1_.toNat) Sx50_ hIx51_ hFx54_ ⟨?_, ?_, ?_, ?_, ?_, ?_, ?_, ?_, ?_, ?_, ?_, ?_, ?_, ?_, ?_, ?_, ?_, ?_, ?_, trivial⟩ (Nat.lt_succ_self _)
          · omega
          · exact dmp_fr M4_ f104_
          · exact x106_
          · (rw [y156_, y155_]; exact e104_.2)
          · exact v104_
          · exact k104_ _
          · exact (congrFun (fr_arr (t := 222) (i := 0) f104_ rfl) _).trans C9_.2.2
          · exact RC104_
          · exact x000_
          · rw [x107_, x108_, rfv_cg (B_ := S0_.2.2.1) x185_ x186_ x187_, x184_, x187_]
            exact ⟨hw65_.trans p65_.1, rfl⟩
          · exact ⟨by (unfold ora_map; omega), FR5_ (by omega)⟩
          · exact fun t9_ ht9_ => (rne_fr rne_rf f104_ (by rfl) t9_ ht9_)
          · exact e104_.1
          · (intro n9_ u0_ u1_; exfalso; omega)
          · (intro G9_ n9_ u0_ u1_; exfalso; omega)
          · (intro j9_ u0_ u1_; exfalso; omega)
          · (intro x_ hx_ u1_; exfalso; have z9_ := hx_.1; omega)
          · (refine fun z9_ => ?_; exfalso; omega)
          · rw [x127_, x213_]
            exact ⟨⟨hrd0_.1, by omega⟩, hmb0_⟩
      · have cx23_ : ¬ (vx6_ ≠ (-1)) := of_decide_eq_false cx23_
        have hIx56_ : gi (sm_pI S0_ 13 0 0 2) := gi_pI hI_ (show 0 ≤ 2 ∧ 2 ≤ 4 from ⟨by omega, by omega⟩)
        have hFx57_ : ai_fr (sx_W vw_419f) S0_ (sm_pI S0_ 13 0 0 2) := ai_fr_tr hF_ (ai_fr_pI rfl)
        refine sm_T_go 7 (c1 := (51, [some (.inr (.inr (some (13, 0)))), some (.inl a1_), some (.inl a2_), some (.inl vx6_), none, none], [.inl 0], sm_pI S0_ 13 0 0 2)) rfl ?_
        refine sm_T_ri rfl ⟨_, _, rfl, _, rfl, hIx56_, hFx57_, ?_⟩
        refine ⟨⟨by omega, by omega⟩, hJ_, ⟨⟨hrd0_.1, by (show S0_.1 13 0 127 ≤ S0_.1 13 0 127 + 65000; omega)⟩, hmb0_⟩, ?_⟩
        first | exact Or.inl ⟨rf_eq, rfl, by (unfold ora_map; omega)⟩ | exact Or.inr (Or.inl ⟨rf_eq, rfl, by (unfold ora_map; omega), fun ⟨c9_, k1_, k2_, k3_, k4_⟩ => by (rcases d5f with y9_ | ⟨u9_, y1_, y2_, y3_, y4_⟩; (have z9_ := y9_.2 c9_.toNat (by omega); omega); omega)⟩)
    · have cx22_ : ¬ (vx21_ ≠ 0) := of_decide_eq_false cx22_
      have hIx58_ : gi (sm_pI S0_ 13 0 0 1) := gi_pI hI_ (show 0 ≤ 1 ∧ 1 ≤ 4 from ⟨by omega, by omega⟩)
      have hFx59_ : ai_fr (sx_W vw_419f) S0_ (sm_pI S0_ 13 0 0 1) := ai_fr_tr hF_ (ai_fr_pI rfl)
      refine sm_T_go 7 (c1 := (51, [some (.inr (.inr (some (13, 0)))), some (.inl a1_), some (.inl a2_), some (.inl vx6_), none, none], [.inl 0], sm_pI S0_ 13 0 0 1)) rfl ?_
      refine sm_T_ri rfl ⟨_, _, rfl, _, rfl, hIx58_, hFx59_, ?_⟩
      refine ⟨⟨by omega, by omega⟩, hJ_, ⟨⟨hrd0_.1, by (show S0_.1 13 0 127 ≤ S0_.1 13 0 127 + 65000; omega)⟩, hmb0_⟩, ?_⟩
      first | exact Or.inl ⟨rf_eq, rfl, by (unfold ora_map; omega)⟩ | exact Or.inr (Or.inl ⟨rf_eq, rfl, by (unfold ora_map; omega), fun ⟨c9_, k1_, k2_, k3_, k4_⟩ => by (rcases d5f with y9_ | ⟨u9_, y1_, y2_, y3_, y4_⟩; (have z9_ := y9_.2 c9_.toNat (by omega); omega); omega)⟩)
/-! M_.alter -/
def vw_428f : sx_Wl := ([(13, 0)], [229, 289, 294], [])
def vq_428f (a1_ : Int) (a2_ : Int) (a3_ : Int) (S0_ : sm_S) (u_ : Option sm_V) (S1_ : sm_S) : Prop := ∃ v_ : Int, u_ = some (.inl v_) ∧ gi S1_ ∧ ai_fr (sx_W vw_428f) S0_ S1_ ∧ (((-2147483648) ≤ v_ ∧ v_ ≤ 2147483647) ∧ (jR S1_ ∧ ((S1_.1 13 0 0 = 1 ∧ ¬ ora_alter a1_ a2_ a3_ S0_ ∧ S1_.2.2.1 = S0_.2.2.1) ∨ (S1_.1 13 0 0 = 2 ∧ ora_alter a1_ a2_ a3_ S0_ ∧ ¬ okr_alter a1_ a2_ a3_ S0_ ∧ S1_.2.2.1 = S0_.2.2.1) ∨ (S1_.1 13 0 0 = 0 ∧ okr_alter a1_ a2_ a3_ S0_ ∧ v_ = S0_.2.2.1 229 0 (150 * a1_ + a2_).toNat ∧ (∀ j_ : Nat, S1_.2.2.1 289 0 j_ = if j_ = a1_.toNat then -1 else S0_.2.2.1 289 0 j_) ∧ (∀ j_ : Nat, S1_.2.2.1 294 0 j_ = if 1280 * a1_.toNat ≤ j_ ∧ j_ < 1280 * a1_.toNat + 1280 then 0 else S0_.2.2.1 294 0 j_) ∧ ∀ j_, S1_.2.2.1 229 0 j_ = if j_ = (150 * a1_ + a2_).toNat then a3_ else S0_.2.2.1 229 0 j_))))
set_option maxHeartbeats 400000 in
set_option maxRecDepth 20000 in
theorem vc_428f {sc_ : Nat × (Nat → Int)} (a1_ : Int) (a2_ : Int) (a3_ : Int) (S0_ : sm_S) (hI_ : gi S0_) (ha1_ : (-2147483648) ≤ a1_ ∧ a1_ ≤ 2147483647) (ha2_ : (-2147483648) ≤ a2_ ∧ a2_ ≤ 2147483647) (ha3_ : (-2147483648) ≤ a3_ ∧ a3_ ≤ 2147483647) (hJ_ : jR S0_) : sm_T (mt_P sc_) 1 428 (0, [some (.inr (.inr (some (13, 0)))), some (.inl a1_), some (.inl a2_), some (.inl a3_), none], [], S0_) (fun ro9_ => ∃ u_ S1_, ro9_ = (.inl u_, S1_, 0) ∧ vq_428f a1_ a2_ a3_ S0_ u_ S1_) := by
  have hF_ : ai_fr (sx_W vw_428f) S0_ S0_ := ai_fr_rf
  refine sm_T_go 3 (c1 := (3, [some (.inr (.inr (some (13, 0)))), some (.inl a1_), some (.inl a2_), some (.inl a3_), none], [.inl a1_, .inr (.inr (some (13, 0))), .inr (.inr (some (13, 0)))], S0_)) rfl ?_
  refine sm_T_cal (d1 := 0) (Q1 := vq_371 a1_ S0_) rfl rfl (by decide) (vc_371 a1_ S0_ hI_ (by omega)) (fun u_ Sx1_ px4_ => ?_)
  obtain ⟨rfl, vx6_, rfl, px4_⟩ := px4_
  have d3_ := px4_
  refine sm_T_b0 (a := 0) (z := 31) rfl (fun cx7_ => ?_) (fun cx7_ => ?_)
  · have cx7_ : vx6_ = 0 := of_decide_eq_true cx7_
    have hIx8_ : gi (sm_pI S0_ 13 0 0 1) := gi_pI hI_ (show 0 ≤ 1 ∧ 1 ≤ 4 from ⟨by omega, by omega⟩)
    have hFx9_ : ai_fr (sx_W vw_428f) S0_ (sm_pI S0_ 13 0 0 1) := ai_fr_tr hF_ (ai_fr_pI rfl)
    refine sm_T_go 7 (c1 := (82, [some (.inr (.inr (some (13, 0)))), some (.inl a1_), some (.inl a2_), some (.inl a3_), none], [.inl 0], sm_pI S0_ 13 0 0 1)) rfl ?_
    refine sm_T_ri rfl ⟨_, _, rfl, _, rfl, hIx8_, hFx9_, ?_⟩
    first | exact ⟨⟨by omega, by omega⟩, hJ_, Or.inl ⟨rf_eq, by (unfold ora_alter; omega), rfl⟩⟩ | exact ⟨⟨by omega, by omega⟩, hJ_, Or.inr (Or.inl ⟨rf_eq, by (unfold ora_alter; omega), by (unfold okr_alter ora_alter; omega), rfl⟩)⟩ | exact ⟨⟨by omega, by omega⟩, j119_, Or.inr (Or.inr ⟨by (rw [k119_]; (try simp only [rd_eq, rd_ne, rf_eq, rf_nk, rf_nt, rd_fa, rd_af, ne_eq, Nat.reduceEqDiff, not_false_eq_true])), by (unfold okr_alter ora_alter; omega), by first | rfl | omega, p119_, q119_, fun j_ => by (rw [r119_]; (try simp only [rd_eq, rd_ne, rf_eq, rf_nk, rf_nt, rd_fa, rd_af, ne_eq, Nat.reduceEqDiff, not_false_eq_true]); try rfl)⟩)⟩
  · have cx7_ : ¬ (vx6_ = 0) := of_decide_eq_false cx7_
    refine sm_T_go 1 (c1 := (10, [some (.inr (.inr (some (13, 0)))), some (.inl a1_), some (.inl a2_), some (.inl a3_), none], [.inl a2_, .inr (.inr (some (13, 0)))], S0_)) rfl ?_
    refine sm_T_b0 (a := 2) (z := 27) rfl (fun cx10_ => ?_) (fun cx10_ => ?_)
    · have cx10_ : a2_ < 0 := of_decide_eq_true cx10_
      have hIx11_ : gi (sm_pI S0_ 13 0 0 1) := gi_pI hI_ (show 0 ≤ 1 ∧ 1 ≤ 4 from ⟨by omega, by omega⟩)
      have hFx12_ : ai_fr (sx_W vw_428f) S0_ (sm_pI S0_ 13 0 0 1) := ai_fr_tr hF_ (ai_fr_pI rfl)
      refine sm_T_go 7 (c1 := (82, [some (.inr (.inr (some (13, 0)))), some (.inl a1_), some (.inl a2_), some (.inl a3_), none], [.inl 0], sm_pI S0_ 13 0 0 1)) rfl ?_
      refine sm_T_ri rfl ⟨_, _, rfl, _, rfl, hIx11_, hFx12_, ?_⟩
      first | exact ⟨⟨by omega, by omega⟩, hJ_, Or.inl ⟨rf_eq, by (unfold ora_alter; omega), rfl⟩⟩ | exact ⟨⟨by omega, by omega⟩, hJ_, Or.inr (Or.inl ⟨rf_eq, by (unfold ora_alter; omega), by (unfold okr_alter ora_alter; omega), rfl⟩)⟩ | exact ⟨⟨by omega, by omega⟩, j119_, Or.inr (Or.inr ⟨by (rw [k119_]; (try simp only [rd_eq, rd_ne, rf_eq, rf_nk, rf_nt, rd_fa, rd_af, ne_eq, Nat.reduceEqDiff, not_false_eq_true])), by (unfold okr_alter ora_alter; omega), by first | rfl | omega, p119_, q119_, fun j_ => by (rw [r119_]; (try simp only [rd_eq, rd_ne, rf_eq, rf_nk, rf_nt, rd_fa, rd_af, ne_eq, Nat.reduceEqDiff, not_false_eq_true]); try rfl)⟩)⟩
    · have cx10_ : ¬ (a2_ < 0) := of_decide_eq_false cx10_
      refine sm_T_go 4 (c1 := (19, [some (.inr (.inr (some (13, 0)))), some (.inl a1_), some (.inl a2_), some (.inl a3_), none], [.inl a1_, .inr (.inr (some (228, 0))), .inl a2_, .inr (.inr (some (13, 0)))], S0_)) rfl ?_
      refine sm_T_iald (n := 4) rfl rfl (by omega) (by omega) ?_
      have bx13_ : 0 ≤ S0_.2.2.1 228 0 a1_.toNat ∧ S0_.2.2.1 228 0 a1_.toNat ≤ 150 := hI_.2 228 0 _
      refine sm_T_br (a := 3) (z := 17) rfl (fun cx14_ => ?_) (fun cx14_ => ?_)
      · have cx14_ : (S0_.2.2.1 228 0 a1_.toNat) ≤ a2_ := of_decide_eq_true cx14_
        have hIx15_ : gi (sm_pI S0_ 13 0 0 1) := gi_pI hI_ (show 0 ≤ 1 ∧ 1 ≤ 4 from ⟨by omega, by omega⟩)
        have hFx16_ : ai_fr (sx_W vw_428f) S0_ (sm_pI S0_ 13 0 0 1) := ai_fr_tr hF_ (ai_fr_pI rfl)
        refine sm_T_go 7 (c1 := (82, [some (.inr (.inr (some (13, 0)))), some (.inl a1_), some (.inl a2_), some (.inl a3_), none], [.inl 0], sm_pI S0_ 13 0 0 1)) rfl ?_
        refine sm_T_ri rfl ⟨_, _, rfl, _, rfl, hIx15_, hFx16_, ?_⟩
        first | exact ⟨⟨by omega, by omega⟩, hJ_, Or.inl ⟨rf_eq, by (unfold ora_alter; omega), rfl⟩⟩ | exact ⟨⟨by omega, by omega⟩, hJ_, Or.inr (Or.inl ⟨rf_eq, by (unfold ora_alter; omega), by (unfold okr_alter ora_alter; omega), rfl⟩)⟩ | exact ⟨⟨by omega, by omega⟩, j119_, Or.inr (Or.inr ⟨by (rw [k119_]; (try simp only [rd_eq, rd_ne, rf_eq, rf_nk, rf_nt, rd_fa, rd_af, ne_eq, Nat.reduceEqDiff, not_false_eq_true])), by (unfold okr_alter ora_alter; omega), by first | rfl | omega, p119_, q119_, fun j_ => by (rw [r119_]; (try simp only [rd_eq, rd_ne, rf_eq, rf_nk, rf_nt, rd_fa, rd_af, ne_eq, Nat.reduceEqDiff, not_false_eq_true]); try rfl)⟩)⟩
      · have cx14_ : ¬ ((S0_.2.2.1 228 0 a1_.toNat) ≤ a2_) := of_decide_eq_false cx14_
        refine sm_T_go 1 (c1 := (24, [some (.inr (.inr (some (13, 0)))), some (.inl a1_), some (.inl a2_), some (.inl a3_), none], [.inl a3_, .inr (.inr (some (13, 0)))], S0_)) rfl ?_
        refine sm_T_b0 (a := 2) (z := 13) rfl (fun cx17_ => ?_) (fun cx17_ => ?_)
        · have cx17_ : a3_ < 0 := of_decide_eq_true cx17_
          have hIx18_ : gi (sm_pI S0_ 13 0 0 1) := gi_pI hI_ (show 0 ≤ 1 ∧ 1 ≤ 4 from ⟨by omega, by omega⟩)
          have hFx19_ : ai_fr (sx_W vw_428f) S0_ (sm_pI S0_ 13 0 0 1) := ai_fr_tr hF_ (ai_fr_pI rfl)
          refine sm_T_go 7 (c1 := (82, [some (.inr (.inr (some (13, 0)))), some (.inl a1_), some (.inl a2_), some (.inl a3_), none], [.inl 0], sm_pI S0_ 13 0 0 1)) rfl ?_
          refine sm_T_ri rfl ⟨_, _, rfl, _, rfl, hIx18_, hFx19_, ?_⟩
          first | exact ⟨⟨by omega, by omega⟩, hJ_, Or.inl ⟨rf_eq, by (unfold ora_alter; omega), rfl⟩⟩ | exact ⟨⟨by omega, by omega⟩, hJ_, Or.inr (Or.inl ⟨rf_eq, by (unfold ora_alter; omega), by (unfold okr_alter ora_alter; omega), rfl⟩)⟩ | exact ⟨⟨by omega, by omega⟩, j119_, Or.inr (Or.inr ⟨by (rw [k119_]; (try simp only [rd_eq, rd_ne, rf_eq, rf_nk, rf_nt, rd_fa, rd_af, ne_eq, Nat.reduceEqDiff, not_false_eq_true])), by (unfold okr_alter ora_alter; omega), by first | rfl | omega, p119_, q119_, fun j_ => by (rw [r119_]; (try simp only [rd_eq, rd_ne, rf_eq, rf_nk, rf_nt, rd_fa, rd_af, ne_eq, Nat.reduceEqDiff, not_false_eq_true]); try rfl)⟩)⟩
        · have cx17_ : ¬ (a3_ < 0) := of_decide_eq_false cx17_
          refine sm_T_go 4 (c1 := (33, [some (.inr (.inr (some (13, 0)))), some (.inl a1_), some (.inl a2_), some (.inl a3_), none], [.inl a1_, .inr (.inr (some (233, 0))), .inl a3_, .inr (.inr (some (13, 0)))], S0_)) rfl ?_
          refine sm_T_iald (n := 4) rfl rfl (by omega) (by omega) ?_
          have bx20_ : 0 ≤ S0_.2.2.1 233 0 a1_.toNat ∧ S0_.2.2.1 233 0 a1_.toNat ≤ 12 := hI_.2 233 0 _
          refine sm_T_br (a := 2) (z := 7) rfl (fun cx21_ => ?_) (fun cx21_ => ?_)
          · have cx21_ : a3_ < (S0_.2.2.1 233 0 a1_.toNat) := of_decide_eq_true cx21_
            refine sm_T_go 4 (c1 := (48, [some (.inr (.inr (some (13, 0)))), some (.inl a1_), some (.inl a2_), some (.inl a3_), none], [.inl a1_, .inl 12, .inr (.inr (some (234, 0))), .inr (.inr (some (13, 0)))], S0_)) rfl ?_
            refine sm_T_bin (w := 12 * a1_) rfl (bi_mul (by omega) (by omega) (by omega)) ?_ -- pc_ 48
            refine sm_T_go 1 (c1 := (50, [some (.inr (.inr (some (13, 0)))), some (.inl a1_), some (.inl a2_), some (.inl a3_), none], [.inl a3_, .inl (12 * a1_), .inr (.inr (some (234, 0))), .inr (.inr (some (13, 0)))], S0_)) rfl ?_
            refine sm_T_bin (w := 12 * a1_ + a3_) rfl (bi_add (by omega) (by omega) (by omega)) ?_ -- pc_ 50
            refine sm_T_iald (n := 48) rfl rfl (by omega) (by omega) ?_
            have bx22_ : 0 ≤ S0_.2.2.1 234 0 (12 * a1_ + a3_).toNat ∧ S0_.2.2.1 234 0 (12 * a1_ + a3_).toNat ≤ 3 := hI_.2 234 0 _
            refine sm_T_go 5 (c1 := (59, [some (.inr (.inr (some (13, 0)))), some (.inl a1_), some (.inl a2_), some (.inl a3_), none], [.inl a2_, .inl a1_, .inr (.inr (some (13, 0))), .inr (.inr (some (234, 0))), .inl (S0_.2.2.1 234 0 (12 * a1_ + a3_).toNat), .inr (.inr (some (13, 0)))], S0_)) rfl ?_
            refine sm_T_cal (d1 := 0) (Q1 := vq_421 a1_ a2_ S0_) rfl rfl (by decide) (vc_421 a1_ a2_ S0_ hI_ (by omega) (by omega)) (fun u_ Sx23_ px26_ => ?_)
            obtain ⟨rfl, vx28_, rfl, px26_⟩ := px26_
            have e59_ := px26_
            have c59_ : S0_.2.2.1 234 0 (vx28_).toNat = S0_.2.2.1 234 0 (12 * a1_ + S0_.2.2.1 229 0 (150 * a1_ + a2_).toNat).toNat := by rw [e59_.2]
            refine sm_T_iald (n := 48) rfl rfl (by omega) (by omega) ?_
            have bx29_ : 0 ≤ S0_.2.2.1 234 0 vx28_.toNat ∧ S0_.2.2.1 234 0 vx28_.toNat ≤ 3 := hI_.2 234 0 _
            refine sm_T_br (a := 0) (z := 7) rfl (fun cx30_ => ?_) (fun cx30_ => ?_)
            · have cx30_ : (S0_.2.2.1 234 0 (12 * a1_ + a3_).toNat) = (S0_.2.2.1 234 0 vx28_.toNat) := of_decide_eq_true cx30_
              have K9_ : cRk a1_ S0_ := hJ_.2 a1_ (by omega) (by omega) (by omega)
              obtain ⟨K1_, K2_, K3_, K4_, K5_, K6_, K7_⟩ := K9_
              have hIx31_ : gi (sm_pI S0_ 13 0 0 0) := gi_pI hI_ (show 0 ≤ 0 ∧ 0 ≤ 4 from ⟨by omega, by omega⟩)
              have hFx32_ : ai_fr (sx_W vw_428f) S0_ (sm_pI S0_ 13 0 0 0) := ai_fr_tr hF_ (ai_fr_pI rfl)
              refine sm_T_go 9 (c1 := (91, [some (.inr (.inr (some (13, 0)))), some (.inl a1_), some (.inl a2_), some (.inl a3_), none], [.inl a1_, .inl 150, .inr (.inr (some (229, 0)))], sm_pI S0_ 13 0 0 0)) rfl ?_
              refine sm_T_bin (w := 150 * a1_) rfl (bi_mul (by omega) (by omega) (by omega)) ?_ -- pc_ 91
              refine sm_T_go 1 (c1 := (93, [some (.inr (.inr (some (13, 0)))), some (.inl a1_), some (.inl a2_), some (.inl a3_), none], [.inl a2_, .inl (150 * a1_), .inr (.inr (some (229, 0)))], sm_pI S0_ 13 0 0 0)) rfl ?_
              refine sm_T_bin (w := 150 * a1_ + a2_) rfl (bi_add (by omega) (by omega) (by omega)) ?_ -- pc_ 93
              refine sm_T_iald (n := 600) rfl rfl (by omega) (by omega) ?_
              have bx33_ : 0 ≤ S0_.2.2.1 229 0 (150 * a1_ + a2_).toNat ∧ S0_.2.2.1 229 0 (150 * a1_ + a2_).toNat ≤ 11 := hI_.2 229 0 _
              refine sm_T_go 5 (c1 := (105, [some (.inr (.inr (some (13, 0)))), some (.inl a1_), some (.inl a2_), some (.inl a3_), some (.inl (S0_.2.2.1 229 0 (150 * a1_ + a2_).toNat))], [.inl a1_, .inl 150, .inr (.inr (some (229, 0)))], sm_pI S0_ 13 0 0 0)) rfl ?_
              refine sm_T_bin (w := 150 * a1_) rfl (bi_mul (by omega) (by omega) (by omega)) ?_ -- pc_ 105
              refine sm_T_go 1 (c1 := (107, [some (.inr (.inr (some (13, 0)))), some (.inl a1_), some (.inl a2_), some (.inl a3_), some (.inl (S0_.2.2.1 229 0 (150 * a1_ + a2_).toNat))], [.inl a2_, .inl (150 * a1_), .inr (.inr (some (229, 0)))], sm_pI S0_ 13 0 0 0)) rfl ?_
              refine sm_T_bin (w := 150 * a1_ + a2_) rfl (bi_add (by omega) (by omega) (by omega)) ?_ -- pc_ 107
              refine sm_T_go 1 (c1 := (109, [some (.inr (.inr (some (13, 0)))), some (.inl a1_), some (.inl a2_), some (.inl a3_), some (.inl (S0_.2.2.1 229 0 (150 * a1_ + a2_).toNat))], [.inl a3_, .inl (150 * a1_ + a2_), .inr (.inr (some (229, 0)))], sm_pI S0_ 13 0 0 0)) rfl ?_
              refine sm_T_iast (n := 600) rfl rfl (by omega) (by omega) ?_
              have hIx34_ : gi (sm_aI (sm_pI S0_ 13 0 0 0) 229 0 (150 * a1_ + a2_).toNat a3_) := gi_aI hIx31_ (show 0 ≤ a3_ ∧ a3_ ≤ 11 from ⟨by omega, by omega⟩)
              have hFx35_ : ai_fr (sx_W vw_428f) S0_ (sm_aI (sm_pI S0_ 13 0 0 0) 229 0 (150 * a1_ + a2_).toNat a3_) := ai_fr_tr hFx32_ (ai_fr_aI rfl)
              refine sm_T_go 4 (c1 := (116, [some (.inr (.inr (some (13, 0)))), some (.inl a1_), some (.inl a2_), some (.inl a3_), some (.inl (S0_.2.2.1 229 0 (150 * a1_ + a2_).toNat))], [.inl (-1), .inl a1_, .inr (.inr (some (289, 0)))], sm_aI (sm_pI S0_ 13 0 0 0) 229 0 (150 * a1_ + a2_).toNat a3_)) rfl ?_
              refine sm_T_iast (n := 4) rfl rfl (by omega) (by omega) ?_
              have hIx36_ : gi (sm_aI (sm_aI (sm_pI S0_ 13 0 0 0) 229 0 (150 * a1_ + a2_).toNat a3_) 289 0 a1_.toNat (-1)) := gi_aI hIx34_ (show (-1) ≤ (-1) ∧ (-1) ≤ 1224 from ⟨by omega, by omega⟩)
              have hFx37_ : ai_fr (sx_W vw_428f) S0_ (sm_aI (sm_aI (sm_pI S0_ 13 0 0 0) 229 0 (150 * a1_ + a2_).toNat a3_) 289 0 a1_.toNat (-1)) := ai_fr_tr hFx35_ (ai_fr_aI rfl)
              refine sm_T_go 2 (c1 := (119, [some (.inr (.inr (some (13, 0)))), some (.inl a1_), some (.inl a2_), some (.inl a3_), some (.inl (S0_.2.2.1 229 0 (150 * a1_ + a2_).toNat))], [.inl a1_, .inr (.inr (some (13, 0)))], sm_aI (sm_aI (sm_pI S0_ 13 0 0 0) 229 0 (150 * a1_ + a2_).toNat a3_) 289 0 a1_.toNat (-1))) rfl ?_
              refine sm_T_cal (d1 := 0) (Q1 := vq_519f a1_ (sm_aI (sm_aI (sm_pI S0_ 13 0 0 0) 229 0 (150 * a1_ + a2_).toNat a3_) 289 0 a1_.toNat (-1))) rfl rfl (by decide) (vc_519f a1_ (sm_aI (sm_aI (sm_pI S0_ 13 0 0 0) 229 0 (150 * a1_ + a2_).toNat a3_) 289 0 a1_.toNat (-1)) hIx36_ (by omega)) (fun u_ Sx38_ px41_ => ?_)
              obtain ⟨rfl, hIx39_, hFx40_, px41_⟩ := px41_
              have hFx42_ : ai_fr (sx_W vw_428f) S0_ Sx38_ := ai_fr_tr hFx37_ (fr_le hFx40_ rfl)
              have q119_ : ∀ j_ : Nat, Sx38_.2.2.1 294 0 j_ = if 1280 * a1_.toNat ≤ j_ ∧ j_ < 1280 * a1_.toNat + 1280 then 0 else S0_.2.2.1 294 0 j_ := fun j_ => (px41_ j_)
              have p119_ : ∀ j_ : Nat, Sx38_.2.2.1 289 0 j_ = if j_ = a1_.toNat then -1 else S0_.2.2.1 289 0 j_ := fun j_ => by (rw [fr_arr (t := 289) (i := 0) hFx40_ rfl]; (try simp only [rd_eq, rd_ne, rf_eq, rf_nk, rf_nt, rd_fa, rd_af, rd_fl, rd_al, rd_lf, rd_la, rd_leq, rd_lne, rd_fr, rd_ar, ne_eq, Nat.reduceEqDiff, not_false_eq_true]); try rfl)
              have r119_ : Sx38_.2.2.1 229 0 = ((sm_aI (sm_aI (sm_pI S0_ 13 0 0 0) 229 0 (150 * a1_ + a2_).toNat a3_) 289 0 a1_.toNat (-1))).2.2.1 229 0 := fr_arr (t := 229) (i := 0) hFx40_ rfl
              have k119_ : Sx38_.1 13 0 0 = ((sm_aI (sm_aI (sm_pI S0_ 13 0 0 0) 229 0 (150 * a1_ + a2_).toNat a3_) 289 0 a1_.toNat (-1))).1 13 0 0 := hFx40_.1 13 0 0 rfl
              have j119_ : jR Sx38_ := jR_fr (S_ := (sm_aI (sm_aI (sm_pI S0_ 13 0 0 0) 229 0 (150 * a1_ + a2_).toNat a3_) 289 0 a1_.toNat (-1))) (jR_fr (S_ := sm_aI (sm_pI S0_ 13 0 0 0) 229 0 (150 * a1_ + a2_).toNat a3_) (w_ := ([], [289], [])) (jR_al (S_ := sm_pI S0_ 13 0 0 0) hJ_ ⟨by omega, by omega⟩ ⟨by omega, by omega⟩ (gi_aI (gi_pI hI_ (by decide)) (show 0 ≤ a3_ ∧ a3_ ≤ 11 by omega)) (by rw [show 12 * a1_ + (sm_pI S0_ 13 0 0 0).2.2.1 229 0 (150 * a1_ + a2_).toNat = 12 * a1_ + S0_.2.2.1 229 0 (150 * a1_ + a2_).toNat from rfl, ← e59_.2]; show S0_.2.2.1 234 0 _ = S0_.2.2.1 234 0 _; omega)) (by assumption) (ai_fr_aI rfl)) hIx39_ hFx40_
              refine sm_T_go 1 (c1 := (124, [some (.inr (.inr (some (13, 0)))), some (.inl a1_), some (.inl a2_), some (.inl a3_), some (.inl (S0_.2.2.1 229 0 (150 * a1_ + a2_).toNat))], [.inl (S0_.2.2.1 229 0 (150 * a1_ + a2_).toNat)], Sx38_)) rfl ?_
              refine sm_T_ri rfl ⟨_, _, rfl, _, rfl, hIx39_, hFx42_, ?_⟩
              first | exact ⟨⟨by omega, by omega⟩, hJ_, Or.inl ⟨rf_eq, by (unfold ora_alter; omega), rfl⟩⟩ | exact ⟨⟨by omega, by omega⟩, hJ_, Or.inr (Or.inl ⟨rf_eq, by (unfold ora_alter; omega), by (unfold okr_alter ora_alter; omega), rfl⟩)⟩ | exact ⟨⟨by omega, by omega⟩, j119_, Or.inr (Or.inr ⟨by (rw [k119_]; (try simp only [rd_eq, rd_ne, rf_eq, rf_nk, rf_nt, rd_fa, rd_af, ne_eq, Nat.reduceEqDiff, not_false_eq_true])), by (unfold okr_alter ora_alter; omega), by first | rfl | omega, p119_, q119_, fun j_ => by (rw [r119_]; (try simp only [rd_eq, rd_ne, rf_eq, rf_nk, rf_nt, rd_fa, rd_af, ne_eq, Nat.reduceEqDiff, not_false_eq_true]); try rfl)⟩)⟩
            · have cx30_ : ¬ ((S0_.2.2.1 234 0 (12 * a1_ + a3_).toNat) = (S0_.2.2.1 234 0 vx28_.toNat)) := of_decide_eq_false cx30_
              have hIx43_ : gi (sm_pI S0_ 13 0 0 2) := gi_pI hI_ (show 0 ≤ 2 ∧ 2 ≤ 4 from ⟨by omega, by omega⟩)
              have hFx44_ : ai_fr (sx_W vw_428f) S0_ (sm_pI S0_ 13 0 0 2) := ai_fr_tr hF_ (ai_fr_pI rfl)
              refine sm_T_go 7 (c1 := (82, [some (.inr (.inr (some (13, 0)))), some (.inl a1_), some (.inl a2_), some (.inl a3_), none], [.inl 0], sm_pI S0_ 13 0 0 2)) rfl ?_
              refine sm_T_ri rfl ⟨_, _, rfl, _, rfl, hIx43_, hFx44_, ?_⟩
              first | exact ⟨⟨by omega, by omega⟩, hJ_, Or.inl ⟨rf_eq, by (unfold ora_alter; omega), rfl⟩⟩ | exact ⟨⟨by omega, by omega⟩, hJ_, Or.inr (Or.inl ⟨rf_eq, by (unfold ora_alter; omega), by (unfold okr_alter ora_alter; omega), rfl⟩)⟩ | exact ⟨⟨by omega, by omega⟩, j119_, Or.inr (Or.inr ⟨by (rw [k119_]; (try simp only [rd_eq, rd_ne, rf_eq, rf_nk, rf_nt, rd_fa, rd_af, ne_eq, Nat.reduceEqDiff, not_false_eq_true])), by (unfold okr_alter ora_alter; omega), by first | rfl | omega, p119_, q119_, fun j_ => by (rw [r119_]; (try simp only [rd_eq, rd_ne, rf_eq, rf_nk, rf_nt, rd_fa, rd_af, ne_eq, Nat.reduceEqDiff, not_false_eq_true]); try rfl)⟩)⟩
          · have cx21_ : ¬ (a3_ < (S0_.2.2.1 233 0 a1_.toNat)) := of_decide_eq_false cx21_
            have hIx45_ : gi (sm_pI S0_ 13 0 0 1) := gi_pI hI_ (show 0 ≤ 1 ∧ 1 ≤ 4 from ⟨by omega, by omega⟩)
            have hFx46_ : ai_fr (sx_W vw_428f) S0_ (sm_pI S0_ 13 0 0 1) := ai_fr_tr hF_ (ai_fr_pI rfl)
            refine sm_T_go 7 (c1 := (82, [some (.inr (.inr (some (13, 0)))), some (.inl a1_), some (.inl a2_), some (.inl a3_), none], [.inl 0], sm_pI S0_ 13 0 0 1)) rfl ?_
            refine sm_T_ri rfl ⟨_, _, rfl, _, rfl, hIx45_, hFx46_, ?_⟩
            first | exact ⟨⟨by omega, by omega⟩, hJ_, Or.inl ⟨rf_eq, by (unfold ora_alter; omega), rfl⟩⟩ | exact ⟨⟨by omega, by omega⟩, hJ_, Or.inr (Or.inl ⟨rf_eq, by (unfold ora_alter; omega), by (unfold okr_alter ora_alter; omega), rfl⟩)⟩ | exact ⟨⟨by omega, by omega⟩, j119_, Or.inr (Or.inr ⟨by (rw [k119_]; (try simp only [rd_eq, rd_ne, rf_eq, rf_nk, rf_nt, rd_fa, rd_af, ne_eq, Nat.reduceEqDiff, not_false_eq_true])), by (unfold okr_alter ora_alter; omega), by first | rfl | omega, p119_, q119_, fun j_ => by (rw [r119_]; (try simp only [rd_eq, rd_ne, rf_eq, rf_nk, rf_nt, rd_fa, rd_af, ne_eq, Nat.reduceEqDiff, not_false_eq_true]); try rfl)⟩)⟩
