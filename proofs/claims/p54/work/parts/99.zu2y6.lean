/-! the reference: patterns of a set; written by wip/p55/gen/vg -/

/-! the_ reference's sets -/
def rB9 (c_ : Int) (S_ : sm_S) : Int := 2 ^ (S_.2.2.1 223 0 c_.toNat + S_.2.2.1 224 0 c_.toNat).toNat
def rshU (c_ : Int) (S_ : sm_S) (P_ : Nat → Nat → Bool) : Prop := ∀ (f_ p_ : Nat) (b_ : Bool), (f_ : Int) < fco c_ S_ → (p_ : Int) < rB9 c_ S_ → rshq c_ S_ (f_ : Int) p_ b_ → b_ = P_ f_ p_
/-- pattern k_ of_ the_ set_ shows fault f_, as_ it_ is_ kept -/
def rbw (c_ : Int) (S_ : sm_S) (k_ f_ : Nat) : Bool := lbt (S_.2.2.2 292 0 (20 * (1280 * c_.toNat + k_) + f_ / 64)) (f_ % 64)
def rlt9 (c_ : Int) (S_ : sm_S) (P_ : Nat → Nat → Bool) (L_ : List Nat) : Prop := ((L_.length : Nat) : Int) = S_.2.2.1 289 0 c_.toNat ∧ ∀ k_ x_ : Nat, L_[k_]? = some x_ → S_.2.2.1 290 0 (1280 * c_.toNat + k_) = (x_ : Int) ∧ (x_ : Int) < rB9 c_ S_ ∧ ∀ f_ : Nat, (f_ : Int) < fco c_ S_ → rbw c_ S_ k_ f_ = P_ f_ x_
theorem rB_fr {w_ : sx_Wl} {c_ : Int} {S_ S'_ : sm_S} (g_ : ai_fr (sx_W w_) S_ S'_) (r_ : rwf w_ = true := by rfl) : rB9 c_ S'_ = rB9 c_ S_ := by
  unfold rB9
  rw [fr_arr (t := 223) g_ (rwf_0 r_ rfl), fr_arr (t := 224) g_ (rwf_0 r_ rfl)]
theorem rlt_fr {w_ : sx_Wl} {c_ : Int} {S_ S'_ : sm_S} {P_ : Nat → Nat → Bool} {L_ : List Nat} (h_ : rlt9 c_ S_ P_ L_) (g_ : ai_fr (sx_W w_) S_ S'_) (r_ : rwf w_ = true := by rfl) (a_ : (sx_W w_).2.1 289 = false := by rfl) (b_ : (sx_W w_).2.1 290 = false := by rfl) (d_ : (sx_W w_).2.1 292 = false := by rfl) : rlt9 c_ S'_ P_ L_ := by
  unfold rlt9 rbw
  rw [fr_arr (t := 289) g_ a_, fr_arr (t := 290) g_ b_, fr_lon (t_ := 292) (i_ := 0) g_ d_, rB_fr g_ r_, fco_fr g_ r_]
  exact h_
theorem rlt_k {c_ : Int} {S_ : sm_S} {P_ : Nat → Nat → Bool} {L_ : List Nat} {k_ : Int} (h_ : rlt9 c_ S_ P_ L_) (h0_ : 0 ≤ k_) (h1_ : k_ < S_.2.2.1 289 0 c_.toNat) : ∃ x_ : Nat, L_[k_.toNat]? = some x_ ∧ S_.2.2.1 290 0 (1280 * c_.toNat + k_.toNat) = (x_ : Int) ∧ (x_ : Int) < rB9 c_ S_ ∧ ∀ f_ : Nat, (f_ : Int) < fco c_ S_ → rbw c_ S_ k_.toNat f_ = P_ f_ x_ := by
  have l_ := h_.1
  have lt_ : k_.toNat < L_.length := by omega
  have e_ := List.getElem?_eq_getElem lt_
  exact ⟨_, e_, h_.2 _ _ e_⟩
theorem rshU_fr {w_ : sx_Wl} {c_ : Int} {S_ S'_ : sm_S} {P_ : Nat → Nat → Bool} (h_ : rshU c_ S_ P_) (g_ : ai_fr (sx_W w_) S_ S'_) (r_ : rwf w_ = true := by rfl) : rshU c_ S'_ P_ := fun f_ p_ b_ q1_ q2_ q3_ => by
  rw [fco_fr g_ r_] at q1_
  rw [rB_fr g_ r_] at q2_
  exact h_ f_ p_ b_ q1_ q2_ ((rsh_fr g_ r_).mp q3_)
/-- the_ sets of_ other chips stay -/
def rsx (c_ : Int) (S0_ S_ : sm_S) : Prop := (∀ j_, j_ ≠ c_.toNat → S_.2.2.1 289 0 j_ = S0_.2.2.1 289 0 j_) ∧ (∀ j_, (j_ < 1280 * c_.toNat ∨ 1280 * c_.toNat + 1280 ≤ j_) → S_.2.2.1 290 0 j_ = S0_.2.2.1 290 0 j_ ∧ S_.2.2.1 291 0 j_ = S0_.2.2.1 291 0 j_) ∧ ∀ j_, (j_ < 25600 * c_.toNat ∨ 25600 * c_.toNat + 25600 ≤ j_) → S_.2.2.2 292 0 j_ = S0_.2.2.2 292 0 j_
theorem rsx_tr {c_ : Int} {A_ B_ C_ : sm_S} (h_ : rsx c_ A_ B_) (g_ : rsx c_ B_ C_) : rsx c_ A_ C_ := ⟨fun j_ q_ => (g_.1 j_ q_).trans (h_.1 j_ q_), fun j_ q_ => ⟨(g_.2.1 j_ q_).1.trans (h_.2.1 j_ q_).1, (g_.2.1 j_ q_).2.trans (h_.2.1 j_ q_).2⟩, fun j_ q_ => (g_.2.2 j_ q_).trans (h_.2.2 j_ q_)⟩
theorem rsx_fr {w_ : sx_Wl} {c_ : Int} {S_ S'_ : sm_S} (g_ : ai_fr (sx_W w_) S_ S'_) (a_ : (sx_W w_).2.1 289 = false := by rfl) (b_ : (sx_W w_).2.1 290 = false := by rfl) (e_ : (sx_W w_).2.1 291 = false := by rfl) (d_ : (sx_W w_).2.1 292 = false := by rfl) : rsx c_ S_ S'_ := ⟨fun j_ _ => congrFun (fr_arr (t := 289) (i := 0) g_ a_) j_, fun j_ _ => ⟨congrFun (fr_arr (t := 290) (i := 0) g_ b_) j_, congrFun (fr_arr (t := 291) (i := 0) g_ e_) j_⟩, fun j_ _ => congrFun (fr_lon (t_ := 292) (i_ := 0) g_ d_) j_⟩
theorem rsx_of {c_ : Int} {S0_ S_ : sm_S} (a_ : ∀ j_, j_ ≠ c_.toNat → S_.2.2.1 289 0 j_ = S0_.2.2.1 289 0 j_) (b_ : ∀ j_, (j_ < 1280 * c_.toNat ∨ 1280 * c_.toNat + 1280 ≤ j_) → S_.2.2.1 290 0 j_ = S0_.2.2.1 290 0 j_) (e_ : ∀ j_, (j_ < 1280 * c_.toNat ∨ 1280 * c_.toNat + 1280 ≤ j_) → S_.2.2.1 291 0 j_ = S0_.2.2.1 291 0 j_) (d_ : ∀ j_, (j_ < 25600 * c_.toNat ∨ 25600 * c_.toNat + 25600 ≤ j_) → S_.2.2.2 292 0 j_ = S0_.2.2.2 292 0 j_) : rsx c_ S0_ S_ := ⟨a_, fun j_ q_ => ⟨b_ j_ q_, e_ j_ q_⟩, d_⟩
theorem rgh_2 {c_ : Int} {j_ : Nat} {S_ T_ T'_ : sm_S} (h_ : rgh9 c_ j_ S_ T_) (e_ : T'_.2.2.2 293 0 = T_.2.2.2 293 0) : rgh9 c_ j_ S_ T'_ := by
  unfold rgh9 at h_ ⊢
  rw [e_]
  exact h_
theorem lb_s3 : ∀ k_ i_ : Fin 64, lbt (l_s0 1 ((k_ : Nat) : Int)) (i_ : Nat) = decide ((i_ : Nat) = (k_ : Nat)) := by decide +kernel
theorem lb_sh {k_ i_ : Nat} (hk_ : k_ < 64) (hi_ : i_ < 64) : lbt (l_s0 1 (k_ : Int)) i_ = decide (i_ = k_) := lb_s3 ⟨k_, hk_⟩ ⟨i_, hi_⟩
/-- a_ bit_ of_ a_ row_ is_ set_ or stays -/
theorem rb_or {x_ y_ : Int} {f_ f9_ : Nat} {b_ : Bool} (hy_ : (b_ = true ∧ y_ = l_s0 1 ((f_ % 64 : Nat) : Int)) ∨ (b_ = false ∧ y_ = 0)) : lbt (l_4 x_ y_) (f9_ % 64) = (lbt x_ (f9_ % 64) || (b_ && decide (f9_ % 64 = f_ % 64))) := by
  rw [lbt_4]
  rcases hy_ with ⟨h1_, h2_⟩ | ⟨h1_, h2_⟩
  · rw [h1_, h2_, lb_sh (Nat.mod_lt _ (by decide)) (Nat.mod_lt _ (by decide)), Bool.true_and]
  · rw [h1_, h2_, lbt_0, Bool.false_and]
theorem rlt_ap {c_ v_ : Int} {S_ S'_ : sm_S} {P_ : Nat → Nat → Bool} {L_ : List Nat} (h_ : rlt9 c_ S_ P_ L_) (h0_ : 0 ≤ v_ ∧ v_ < rB9 c_ S_) (e1_ : S'_.2.2.1 289 0 c_.toNat = S_.2.2.1 289 0 c_.toNat + 1) (e2_ : ∀ j_ : Nat, S'_.2.2.1 290 0 j_ = if j_ = 1280 * c_.toNat + (S_.2.2.1 289 0 c_.toNat).toNat then v_ else S_.2.2.1 290 0 j_) (e3_ : rB9 c_ S'_ = rB9 c_ S_) (e4_ : fco c_ S'_ = fco c_ S_) (e5_ : ∀ j_ : Nat, (j_ < 20 * (1280 * c_.toNat + (S_.2.2.1 289 0 c_.toNat).toNat) ∨ 20 * (1280 * c_.toNat + (S_.2.2.1 289 0 c_.toNat).toNat) + 20 ≤ j_) → S'_.2.2.2 292 0 j_ = S_.2.2.2 292 0 j_) (e6_ : fco c_ S_ ≤ 1280) (e7_ : ∀ f_ : Nat, (f_ : Int) < fco c_ S_ → rbw c_ S'_ (S_.2.2.1 289 0 c_.toNat).toNat f_ = P_ f_ v_.toNat) : rlt9 c_ S'_ P_ (L_ ++ [v_.toNat]) := by
  have l_ := h_.1
  refine ⟨?_, fun k_ x_ q_ => ?_⟩
  · rw [List.length_append, e1_, ← l_]
    show ((L_.length + 1 : Nat) : Int) = _
    push_cast
    rfl
  · rw [e2_, e3_, e4_]
    by_cases d_ : k_ < L_.length
    · rw [List.getElem?_append_left d_] at q_
      have z_ := h_.2 k_ x_ q_
      rw [if_neg (by omega)]
      refine ⟨z_.1, z_.2.1, fun f_ hf_ => ?_⟩
      have y_ := z_.2.2 f_ hf_
      unfold rbw at y_ ⊢
      rw [e5_ _ (by omega)]
      exact y_
    · rw [List.getElem?_append_right (by omega)] at q_
      have z_ : k_ - L_.length = 0 := by
        cases y_ : k_ - L_.length with
        | zero => rfl
        | succ n_ => rw [y_] at q_; cases q_
      rw [z_] at q_
      have q_ : v_.toNat = x_ := Option.some.inj q_
      have kk_ : k_ = (S_.2.2.1 289 0 c_.toNat).toNat := by omega
      rw [if_pos (by omega), ← q_, kk_]
      exact ⟨by omega, by omega, e7_⟩
theorem rlt_er {c_ : Int} {i_ : Nat} {S_ S'_ : sm_S} {P_ : Nat → Nat → Bool} {L_ : List Nat} (h_ : rlt9 c_ S_ P_ L_) (hi_ : i_ < L_.length) (e1_ : S'_.2.2.1 289 0 c_.toNat = S_.2.2.1 289 0 c_.toNat - 1) (e2_ : ∀ j_ : Nat, j_ < L_.length - 1 → S'_.2.2.1 290 0 (1280 * c_.toNat + j_) = if j_ < i_ then S_.2.2.1 290 0 (1280 * c_.toNat + j_) else S_.2.2.1 290 0 (1280 * c_.toNat + (j_ + 1))) (e3_ : rB9 c_ S'_ = rB9 c_ S_) (e4_ : fco c_ S'_ = fco c_ S_) (e6_ : fco c_ S_ ≤ 1280) (e5_ : ∀ j_ w_ : Nat, j_ < L_.length - 1 → w_ < 20 → S'_.2.2.2 292 0 (20 * (1280 * c_.toNat + j_) + w_) = if j_ < i_ then S_.2.2.2 292 0 (20 * (1280 * c_.toNat + j_) + w_) else S_.2.2.2 292 0 (20 * (1280 * c_.toNat + (j_ + 1)) + w_)) : rlt9 c_ S'_ P_ (L_.eraseIdx i_) := by
  have l_ := h_.1
  have n_ := List.length_eraseIdx_of_lt hi_
  refine ⟨by rw [n_, e1_]; omega, fun j_ x_ q_ => ?_⟩
  have lt_ : j_ < (L_.eraseIdx i_).length := by
    by_cases d_ : j_ < (L_.eraseIdx i_).length
    · exact d_
    · rw [List.getElem?_eq_none (by omega)] at q_
      cases q_
  rw [e2_ j_ (by omega), e3_, e4_]
  rw [List.getElem?_eraseIdx] at q_
  unfold rbw
  by_cases d_ : j_ < i_
  · rw [if_pos d_] at q_ ⊢
    have z_ := h_.2 j_ x_ q_
    refine ⟨z_.1, z_.2.1, fun f_ hf_ => ?_⟩
    rw [e5_ j_ (f_ / 64) (by omega) (by omega), if_pos d_]
    exact z_.2.2 f_ hf_
  · rw [if_neg d_] at q_ ⊢
    have z_ := h_.2 (j_ + 1) x_ q_
    refine ⟨z_.1, z_.2.1, fun f_ hf_ => ?_⟩
    rw [e5_ j_ (f_ / 64) (by omega) (by omega), if_neg d_]
    exact z_.2.2 f_ hf_
/-! M_.isShown -/
def vw_524n : sx_Wl := ([], [], [])
def vq_524n (c_ : Int) (i_ : Int) (f_ : Int) (S0_ : sm_S) (u_ : Option sm_V) (S1_ : sm_S) : Prop := S0_ = S1_ ∧ ∃ v_ : Int, u_ = some (.inl v_) ∧ ((0 ≤ v_ ∧ v_ ≤ 1) ∧ rbw c_ S0_ i_.toNat f_.toNat = decide (v_ = 1))
set_option maxHeartbeats 400000 in
set_option maxRecDepth 20000 in
theorem vc_524n {sc_ : Nat × (Nat → Int)} (c_ : Int) (i_ : Int) (f_ : Int) (S0_ : sm_S) (hI_ : gi S0_) (hc_ : 0 ≤ c_ ∧ c_ ≤ 3) (hi_ : 0 ≤ i_ ∧ i_ ≤ 1279) (hf_ : 0 ≤ f_ ∧ f_ ≤ 1279) : sm_T (mt_P sc_) 0 524 (0, [some (.inr (.inr (some (13, 0)))), some (.inl c_), some (.inl i_), some (.inl f_)], [], S0_) (fun ro9_ => ∃ u_ S1_, ro9_ = (.inl u_, S1_, 0) ∧ vq_524n c_ i_ f_ S0_ u_ S1_) := by
  have hF_ : ai_fr (sx_W vw_524n) S0_ S0_ := ai_fr_rf
  refine sm_T_go 5 (c1 := (10, [some (.inr (.inr (some (13, 0)))), some (.inl c_), some (.inl i_), some (.inl f_)], [.inl c_, .inl 1280, .inl 20, .inr (.inr (some (292, 0)))], S0_)) rfl ?_
  refine sm_T_bin (w := 1280 * c_) rfl (bi_mul (by omega) (by omega) (by omega)) ?_ -- pc_ 10
  refine sm_T_go 1 (c1 := (12, [some (.inr (.inr (some (13, 0)))), some (.inl c_), some (.inl i_), some (.inl f_)], [.inl i_, .inl (1280 * c_), .inl 20, .inr (.inr (some (292, 0)))], S0_)) rfl ?_
  refine sm_T_bin (w := 1280 * c_ + i_) rfl (bi_add (by omega) (by omega) (by omega)) ?_ -- pc_ 12
  refine sm_T_bin (w := 25600 * c_ + 20 * i_) rfl (bi_mul (by omega) (by omega) (by omega)) ?_ -- pc_ 13
  refine sm_T_go 2 (c1 := (17, [some (.inr (.inr (some (13, 0)))), some (.inl c_), some (.inl i_), some (.inl f_)], [.inl 6, .inl f_, .inl (25600 * c_ + 20 * i_), .inr (.inr (some (292, 0)))], S0_)) rfl ?_
  refine sm_T_bin (w := (f_ / 64)) rfl (bi_shr (k := 6) (by decide) (by omega) (by omega)) ?_ -- pc_ 17
  refine sm_T_bin (w := 25600 * c_ + 20 * i_ + (f_ / 64)) rfl (bi_add (by omega) (by omega) (by omega)) ?_ -- pc_ 18
  refine sm_T_lald (n := 102400) rfl rfl (by omega) (by omega) ?_
  refine sm_T_go 2 (c1 := (23, [some (.inr (.inr (some (13, 0)))), some (.inl c_), some (.inl i_), some (.inl f_)], [.inl 63, .inl f_, .inr (.inl (S0_.2.2.2 292 0 (25600 * c_ + 20 * i_ + (f_ / 64)).toNat))], S0_)) rfl ?_
  refine sm_T_bin (w := (f_ % 64)) rfl (bi_msk (k := 6) (by decide)) ?_ -- pc_ 23
  refine sm_T_go 5 (c1 := (29, [some (.inr (.inr (some (13, 0)))), some (.inl c_), some (.inl i_), some (.inl f_)], [.inl (sm_lcmp ((l_3 ((l_s2 ((S0_.2.2.2 292 0 (25600 * c_ + 20 * i_ + (f_ / 64)).toNat)) (f_ % 64))) 1)) 1)], S0_)) rfl ?_
  refine sm_T_b0 (a := 1) (z := 7) rfl (fun cx1_ => ?_) (fun cx1_ => ?_)
  · have cx1_ : (sm_lcmp ((l_3 ((l_s2 ((S0_.2.2.2 292 0 (25600 * c_ + 20 * i_ + (f_ / 64)).toNat)) (f_ % 64))) 1)) 1) ≠ 0 := of_decide_eq_true cx1_
    have b9_ := lb_q (b_ := decide ((0 : Int) = 1)) (by omega) ⟨fun z9_ => absurd z9_ (by decide), fun z9_ => absurd cx1_ z9_⟩
    refine sm_T_go 1 (c1 := (37, [some (.inr (.inr (some (13, 0)))), some (.inl c_), some (.inl i_), some (.inl f_)], [.inl 0], S0_)) rfl ?_
    refine sm_T_rz rfl (by omega) ⟨_, _, rfl, rfl, _, rfl, ?_⟩
    refine ⟨by omega, ?_⟩
    unfold rbw
    rw [show 20 * (1280 * c_.toNat + i_.toNat) + f_.toNat / 64 = (25600 * c_ + 20 * i_ + f_ / 64).toNat by omega, show f_.toNat % 64 = (f_ % 64).toNat by omega]
    exact b9_
  · have cx1_ : ¬ ((sm_lcmp ((l_3 ((l_s2 ((S0_.2.2.2 292 0 (25600 * c_ + 20 * i_ + (f_ / 64)).toNat)) (f_ % 64))) 1)) 1) ≠ 0) := of_decide_eq_false cx1_
    have b9_ := lb_q (b_ := decide ((1 : Int) = 1)) (by omega) ⟨fun _ => cx1_, fun _ => by decide⟩
    refine sm_T_go 2 (c1 := (37, [some (.inr (.inr (some (13, 0)))), some (.inl c_), some (.inl i_), some (.inl f_)], [.inl 1], S0_)) rfl ?_
    refine sm_T_rz rfl (by omega) ⟨_, _, rfl, rfl, _, rfl, ?_⟩
    refine ⟨by omega, ?_⟩
    unfold rbw
    rw [show 20 * (1280 * c_.toNat + i_.toNat) + f_.toNat / 64 = (25600 * c_ + 20 * i_ + f_ / 64).toNat by omega, show f_.toNat % 64 = (f_ % 64).toNat by omega]
    exact b9_
/-! M_.manyShow -/
def vw_526n : sx_Wl := ([], [], [])
def vq_526n (c_ : Int) (f_ : Int) (P_ : Nat → Nat → Bool) (L_ : List Nat) (S0_ : sm_S) (u_ : Option sm_V) (S1_ : sm_S) : Prop := S0_ = S1_ ∧ ∃ v_ : Int, u_ = some (.inl v_) ∧ ((0 ≤ v_ ∧ v_ ≤ 1224) ∧ v_ = ((cn9 (P_ f_.toNat) L_ : Nat) : Int))
set_option maxHeartbeats 400000 in
set_option maxRecDepth 20000 in
theorem vl_526n {sc_ : Nat × (Nat → Int)} (c_ : Int) (f_ : Int) (P_ : Nat → Nat → Bool) (L_ : List Nat) (S0_ : sm_S) (hc_ : 0 ≤ c_ ∧ c_ ≤ 3) (hf_ : 0 ≤ f_ ∧ f_ < fco c_ S0_ ∧ f_ ≤ 1279) (hL_ : imq (0 ≤ S0_.2.2.1 289 0 c_.toNat) (rlt9 c_ S0_ P_ L_)) (hL0_ : imq (S0_.2.2.1 289 0 c_.toNat < 0) (L_ = [])) : ∀ nn_ : Nat, (∀ (n_ : Int) (i_ : Int) (S_ : sm_S), gi S_ → ai_fr (sx_W vw_526n) S0_ S_ → ((0 ≤ i_ ∧ i_ ≤ 1224 ∧ (i_ ≤ S0_.2.2.1 289 0 c_.toNat ∨ i_ = 0) ∧ 0 ≤ n_ ∧ n_ ≤ i_) ∧ (n_ = ((cn9 (P_ f_.toNat) (L_.take i_.toNat) : Nat) : Int)) ∧ (S_ = S0_) ∧ True) → ((5000 - i_).toNat) < nn_ → sm_T (mt_P sc_) 1 526 (5, [some (.inr (.inr (some (13, 0)))), some (.inl c_), some (.inl f_), some (.inl n_), some (.inl i_)], [], S_) (fun ro9_ => ∃ u_ S1_, ro9_ = (.inl u_, S1_, 0) ∧ vq_526n c_ f_ P_ L_ S0_ u_ S1_)) := by
  intro nn_
  induction nn_ with
  | zero => exact fun _ _ _ _ _ _ h_ => absurd h_ (Nat.not_lt_zero _)
  | succ nn_ ih_ =>
    rintro n_ i_ S_ hI_ hF_ ⟨h0_, hc1_, hS_, -⟩ hm_
    subst hS_
    have T9_ : (i_ + 1).toNat = i_.toNat + 1 := by omega
    refine sm_T_go 4 (c1 := (12, [some (.inr (.inr (some (13, 0)))), some (.inl c_), some (.inl f_), some (.inl n_), some (.inl i_)], [.inl c_, .inr (.inr (some (289, 0))), .inl i_], S_)) rfl ?_
    refine sm_T_iald (n := 4) rfl rfl (by omega) (by omega) ?_
    have bx1_ : (-1) ≤ S_.2.2.1 289 0 c_.toNat ∧ S_.2.2.1 289 0 c_.toNat ≤ 1224 := hI_.2 289 0 _
    refine sm_T_br (a := 3) (z := 28) rfl (fun cx2_ => ?_) (fun cx2_ => ?_)
    · have cx2_ : (S_.2.2.1 289 0 c_.toNat) ≤ i_ := of_decide_eq_true cx2_
      refine sm_T_go 1 (c1 := (42, [some (.inr (.inr (some (13, 0)))), some (.inl c_), some (.inl f_), some (.inl n_), some (.inl i_)], [.inl n_], S_)) rfl ?_
      refine sm_T_ri rfl ⟨_, _, rfl, (by first | rfl | exact hS_.symm), _, rfl, ?_⟩
      refine ⟨by omega, ?_⟩
      rw [hc1_, List.take_of_length_le (by (by_cases y9_ : 0 ≤ S_.2.2.1 289 0 c_.toNat; (have z9_ := (hL_ y9_).1; omega); (rw [hL0_ (by omega)]; exact Nat.zero_le _)))]
    · have cx2_ : ¬ ((S_.2.2.1 289 0 c_.toNat) ≤ i_) := of_decide_eq_false cx2_
      obtain ⟨x9_, x1_, x2_, x3_, x4_⟩ := rlt_k (k_ := i_) (hL_ (by omega)) (by omega) (by omega)
      refine sm_T_go 5 (c1 := (22, [some (.inr (.inr (some (13, 0)))), some (.inl c_), some (.inl f_), some (.inl n_), some (.inl i_)], [.inl f_, .inl i_, .inl c_, .inr (.inr (some (13, 0))), .inl n_], S_)) rfl ?_
      refine sm_T_cal (d1 := 0) (Q1 := vq_524n c_ i_ f_ S_) rfl rfl (by decide) (vc_524n c_ i_ f_ S_ hI_ (by exact hc_) (by omega) (by omega)) (fun u_ Sx3_ px6_ => ?_)
      obtain ⟨rfl, vx8_, rfl, px6_⟩ := px6_
      have i22_ := (px6_).1
      have j22_ : P_ f_.toNat x9_ = decide (vx8_ = 1) := (x4_ f_.toNat (by omega)).symm.trans (px6_).2
      refine sm_T_b0 (a := 0) (z := 7) rfl (fun cx9_ => ?_) (fun cx9_ => ?_)
      · have cx9_ : vx8_ = 0 := of_decide_eq_true cx9_
        refine sm_T_go 1 (c1 := (33, [some (.inr (.inr (some (13, 0)))), some (.inl c_), some (.inl f_), some (.inl n_), some (.inl i_)], [.inl 0, .inl n_], S_)) rfl ?_
        refine sm_T_bin (w := n_) rfl (bi_add (by omega) (by omega) (by omega)) ?_ -- pc_ 33
        refine sm_T_go 1 (c1 := (35, [some (.inr (.inr (some (13, 0)))), some (.inl c_), some (.inl f_), some (.inl n_), some (.inl i_)], [], S_)) rfl ?_
        refine sm_T_inc (a := 4) (z := 1) (v := i_) (w := i_ + 1) rfl rfl (by omega) (by omega) (by omega) ?_ -- pc_ 35
        refine sm_T_go 1 (c1 := (5, [some (.inr (.inr (some (13, 0)))), some (.inl c_), some (.inl f_), some (.inl n_), some (.inl (i_ + 1))], [], S_)) rfl ?_
        refine ih_ n_ (i_ + 1) S_ hI_ hF_ ⟨?_, ?_, ?_, trivial⟩ ?_
        · omega
        · (rw [T9_, cn9_t x1_, j22_]; simp only [decide_eq_true_eq]; split <;> (push_cast; omega))
        · rfl
        · omega
      · have cx9_ : ¬ (vx8_ = 0) := of_decide_eq_false cx9_
        refine sm_T_go 2 (c1 := (33, [some (.inr (.inr (some (13, 0)))), some (.inl c_), some (.inl f_), some (.inl n_), some (.inl i_)], [.inl 1, .inl n_], S_)) rfl ?_
        refine sm_T_bin (w := n_ + 1) rfl (bi_add (by omega) (by omega) (by omega)) ?_ -- pc_ 33
        refine sm_T_go 1 (c1 := (35, [some (.inr (.inr (some (13, 0)))), some (.inl c_), some (.inl f_), some (.inl (n_ + 1)), some (.inl i_)], [], S_)) rfl ?_
        refine sm_T_inc (a := 4) (z := 1) (v := i_) (w := i_ + 1) rfl rfl (by omega) (by omega) (by omega) ?_ -- pc_ 35
        refine sm_T_go 1 (c1 := (5, [some (.inr (.inr (some (13, 0)))), some (.inl c_), some (.inl f_), some (.inl (n_ + 1)), some (.inl (i_ + 1))], [], S_)) rfl ?_
        refine ih_ (n_ + 1) (i_ + 1) S_ hI_ hF_ ⟨?_, ?_, ?_, trivial⟩ ?_
        · omega
        · (rw [T9_, cn9_t x1_, j22_]; simp only [decide_eq_true_eq]; split <;> (push_cast; omega))
        · rfl
        · omega
set_option maxHeartbeats 400000 in
set_option maxRecDepth 20000 in
theorem vc_526n {sc_ : Nat × (Nat → Int)} (c_ : Int) (f_ : Int) (P_ : Nat → Nat → Bool) (L_ : List Nat) (S0_ : sm_S) (hI_ : gi S0_) (hc_ : 0 ≤ c_ ∧ c_ ≤ 3) (hf_ : 0 ≤ f_ ∧ f_ < fco c_ S0_ ∧ f_ ≤ 1279) (hL_ : imq (0 ≤ S0_.2.2.1 289 0 c_.toNat) (rlt9 c_ S0_ P_ L_)) (hL0_ : imq (S0_.2.2.1 289 0 c_.toNat < 0) (L_ = [])) : sm_T (mt_P sc_) 1 526 (0, [some (.inr (.inr (some (13, 0)))), some (.inl c_), some (.inl f_), none, none], [], S0_) (fun ro9_ => ∃ u_ S1_, ro9_ = (.inl u_, S1_, 0) ∧ vq_526n c_ f_ P_ L_ S0_ u_ S1_) := by
  have hF_ : ai_fr (sx_W vw_526n) S0_ S0_ := ai_fr_rf
  refine sm_T_go 4 (c1 := (5, [some (.inr (.inr (some (13, 0)))), some (.inl c_), some (.inl f_), some (.inl 0), some (.inl 0)], [], S0_)) rfl ?_
  refine (vl_526n c_ f_ P_ L_ S0_ hc_ hf_ hL_ hL0_ _) 0 0 S0_ hI_ hF_ ⟨?_, ?_, ?_, trivial⟩ (Nat.lt_succ_self _)
  · omega
  · (rw [show (0 : Int).toNat = 0 from rfl, List.take_zero]; rfl)
  · rfl
/-! M_.addPattern -/
def vw_525n : sx_Wl := ([(13, 221), (13, 222)], [238, 289, 290, 291, 292, 293], [])
def vq_525n (c_ : Int) (p_ : Int) (P_ : Nat → Nat → Bool) (L_ : List Nat) (S0_ : sm_S) (u_ : Option sm_V) (S1_ : sm_S) : Prop := u_ = none ∧ gi S1_ ∧ ai_fr (sx_W vw_525n) S0_ S1_ ∧ (rlt9 c_ S1_ P_ (L_ ++ [p_.toNat]) ∧ rsx c_ S0_ S1_ ∧ (∀ j9_ : Nat, S1_.2.2.1 291 0 j9_ = if j9_ = 1280 * c_.toNat + (S0_.2.2.1 289 0 c_.toNat).toNat then 0 else S0_.2.2.1 291 0 j9_) ∧ S1_.2.2.1 289 0 c_.toNat = S0_.2.2.1 289 0 c_.toNat + 1)
set_option maxHeartbeats 2000000 in
set_option maxRecDepth 20000 in
theorem vl_525n {sc_ : Nat × (Nat → Int)} (c_ : Int) (p_ : Int) (P_ : Nat → Nat → Bool) (L_ : List Nat) (S0_ : sm_S) (hc_ : 0 ≤ c_ ∧ c_ ≤ 3) (hx_ : S0_.2.2.1 223 0 c_.toNat + S0_.2.2.1 224 0 c_.toNat ≤ 12) (hg_ : cgt c_ S0_) (ho_ : con c_ S0_) (hp_ : 0 ≤ p_ ∧ p_ < rB9 c_ S0_ ∧ p_ ≤ 4095) (hs_ : 0 ≤ S0_.2.2.1 289 0 c_.toNat ∧ S0_.2.2.1 289 0 c_.toNat ≤ 1223) (hL_ : rlt9 c_ S0_ P_ L_) (hU_ : rshU c_ S0_ P_) : ∀ nn_ : Nat, (∀ (i_ : Int) (k_ : Int) (S_ : sm_S), gi S_ → ai_fr (sx_W vw_525n) S0_ S_ → ((i_ = S0_.2.2.1 289 0 c_.toNat ∧ 0 ≤ k_ ∧ k_ ≤ 20) ∧ (S_.2.2.1 289 0 = S0_.2.2.1 289 0) ∧ (∀ j9_ : Nat, S_.2.2.1 290 0 j9_ = if j9_ = 1280 * c_.toNat + i_.toNat then p_ else S0_.2.2.1 290 0 j9_) ∧ (∀ j9_ : Nat, S_.2.2.1 291 0 j9_ = if j9_ = 1280 * c_.toNat + i_.toNat then 0 else S0_.2.2.1 291 0 j9_) ∧ (∀ j9_ : Nat, S_.2.2.2 292 0 j9_ = if 20 * (1280 * c_.toNat + i_.toNat) ≤ j9_ ∧ j9_ < 20 * (1280 * c_.toNat + i_.toNat) + k_.toNat then 0 else S0_.2.2.2 292 0 j9_) ∧ True) → ((9000 - k_).toNat) < nn_ → sm_T (mt_P sc_) 3 525 (36, [some (.inr (.inr (some (13, 0)))), some (.inl c_), some (.inl p_), some (.inl i_), some (.inl k_), none], [], S_) (fun ro9_ => ∃ u_ S1_, ro9_ = (.inl u_, S1_, 0) ∧ vq_525n c_ p_ P_ L_ S0_ u_ S1_)) ∧ (∀ (i_ : Int) (f_ : Int) (S_ : sm_S), gi S_ → ai_fr (sx_W vw_525n) S0_ S_ → ((i_ = S0_.2.2.1 289 0 c_.toNat ∧ 0 ≤ f_ ∧ f_ ≤ 1224 ∧ f_ ≤ fco c_ S0_) ∧ (S_.2.2.1 289 0 = S0_.2.2.1 289 0) ∧ (∀ j9_ : Nat, S_.2.2.1 290 0 j9_ = if j9_ = 1280 * c_.toNat + i_.toNat then p_ else S0_.2.2.1 290 0 j9_) ∧ (∀ j9_ : Nat, S_.2.2.1 291 0 j9_ = if j9_ = 1280 * c_.toNat + i_.toNat then 0 else S0_.2.2.1 291 0 j9_) ∧ (∀ f9_ : Nat, f9_ < 1280 → rbw c_ S_ i_.toNat f9_ = if (f9_ : Int) < f_ then P_ f9_ p_.toNat else false) ∧ (∀ j9_ : Nat, (j9_ < 20 * (1280 * c_.toNat + i_.toNat) ∨ 20 * (1280 * c_.toNat + i_.toNat) + 20 ≤ j9_) → S_.2.2.2 292 0 j9_ = S0_.2.2.2 292 0 j9_) ∧ (rgh9 c_ (p_ / 64).toNat S_ S_) ∧ True) → ((5000 - f_).toNat) < nn_ → sm_T (mt_P sc_) 3 525 (80, [some (.inr (.inr (some (13, 0)))), some (.inl c_), some (.inl p_), some (.inl i_), some (.inl f_), none], [], S_) (fun ro9_ => ∃ u_ S1_, ro9_ = (.inl u_, S1_, 0) ∧ vq_525n c_ p_ P_ L_ S0_ u_ S1_)) := by
  intro nn_
  induction nn_ with
  | zero => exact ⟨fun _ _ _ _ _ _ h_ => absurd h_ (Nat.not_lt_zero _), fun _ _ _ _ _ _ h_ => absurd h_ (Nat.not_lt_zero _)⟩
  | succ nn_ ih_ =>
    refine ⟨?_, ?_⟩
    · rintro i_ k_ S_ hI_ hF_ ⟨h0_, h4_, h290_, h291_, h292_, -⟩ hm_
      have f223_ : S_.2.2.1 223 0 = S0_.2.2.1 223 0 := fr_arr hF_ rfl
      have f224_ : S_.2.2.1 224 0 = S0_.2.2.1 224 0 := fr_arr hF_ rfl
      have f225_ : S_.2.2.1 225 0 = S0_.2.2.1 225 0 := fr_arr hF_ rfl
      have f228_ : S_.2.2.1 228 0 = S0_.2.2.1 228 0 := fr_arr hF_ rfl
      have x223_ : S_.2.2.1 223 0 c_.toNat = S0_.2.2.1 223 0 c_.toNat := congrFun f223_ _
      have x224_ : S_.2.2.1 224 0 c_.toNat = S0_.2.2.1 224 0 c_.toNat := congrFun f224_ _
      have x225_ : S_.2.2.1 225 0 c_.toNat = S0_.2.2.1 225 0 c_.toNat := congrFun f225_ _
      have x228_ : S_.2.2.1 228 0 c_.toNat = S0_.2.2.1 228 0 c_.toNat := congrFun f228_ _
      have cA_ : 0 ≤ S_.2.2.1 223 0 c_.toNat ∧ S_.2.2.1 223 0 c_.toNat ≤ 12 := hI_.2 223 0 _
      have cB_ : 0 ≤ S_.2.2.1 224 0 c_.toNat ∧ S_.2.2.1 224 0 c_.toNat ≤ 6 := hI_.2 224 0 _
      have cG_ : 0 ≤ S_.2.2.1 228 0 c_.toNat ∧ S_.2.2.1 228 0 c_.toNat ≤ 150 := hI_.2 228 0 _
      have k4_ := cgt_fr hc_.1 hI_ hg_ hF_
      have k5_ := con_fr hc_.1 hI_ ho_ hF_
      have kf_ : fco c_ S_ = fco c_ S0_ := fco_fr hF_
      have fb9_ := fco_b hI_ (show S_.2.2.1 223 0 c_.toNat + S_.2.2.1 224 0 c_.toNat ≤ 12 by omega)
      have hs9_ := hs_
      refine sm_T_go 2 (c1 := (40, [some (.inr (.inr (some (13, 0)))), some (.inl c_), some (.inl p_), some (.inl i_), some (.inl k_), none], [.inl 20, .inl k_], S_)) rfl ?_
      refine sm_T_br (a := 3) (z := 28) rfl (fun cx1_ => ?_) (fun cx1_ => ?_)
      · have cx1_ : 20 ≤ k_ := of_decide_eq_true cx1_
        refine sm_T_go 4 (c1 := (73, [some (.inr (.inr (some (13, 0)))), some (.inl c_), some (.inl p_), some (.inl i_), some (.inl k_), none], [.inl 6, .inl p_, .inl c_, .inr (.inr (some (13, 0)))], S_)) rfl ?_
        refine sm_T_bin (w := (p_ / 64)) rfl (bi_shr (k := 6) (by decide) (by omega) (by omega)) ?_ -- pc_ 73
        refine sm_T_cal (d1 := 2) (Q1 := vq_517n c_ (p_ / 64) S_) rfl rfl (by decide) (vc_517n c_ (p_ / 64) S_ hI_ (by exact hc_) (by omega) (by exact k4_) (by exact k5_) (by omega)) (fun u_ Sx2_ px5_ => ?_)
        obtain ⟨rfl, hIx3_, hFx4_, px5_⟩ := px5_
        have hFx6_ : ai_fr (sx_W vw_525n) S0_ Sx2_ := ai_fr_tr hF_ (fr_le hFx4_ rfl)
        have n74_ : Sx2_.2.2.1 289 0 = S_.2.2.1 289 0 := fr_arr hFx4_ rfl
        have r74_ := rgh_fr px5_ hFx4_
        have n90_ : Sx2_.2.2.1 290 0 = S_.2.2.1 290 0 := fr_arr hFx4_ rfl
        have n91_ : Sx2_.2.2.1 291 0 = S_.2.2.1 291 0 := fr_arr hFx4_ rfl
        have n92_ : Sx2_.2.2.2 292 0 = S_.2.2.2 292 0 := fr_lon (t_ := 292) (i_ := 0) hFx4_ rfl
        refine sm_T_go 2 (c1 := (80, [some (.inr (.inr (some (13, 0)))), some (.inl c_), some (.inl p_), some (.inl i_), some (.inl 0), none], [], Sx2_)) rfl ?_
        refine ih_.2 i_ 0 Sx2_ hIx3_ hFx6_ ⟨?_, ?_, ?_, ?_, ?_, ?_, ?_, trivial⟩ ?_
        · omega
        · (rw [n74_]; exact h4_)
        · (rw [n90_]; exact h290_)
        · (rw [n91_]; exact h291_)
        · intro f9_ hf9_
          unfold rbw
          rw [n92_, h292_, if_pos (by omega), lbt_0, if_neg (by omega)]
        · (intro j9_ hj9_; rw [n92_, h292_, if_neg (by omega)])
        · exact r74_
        · omega
      · have cx1_ : ¬ (20 ≤ k_) := of_decide_eq_false cx1_
        refine sm_T_go 5 (c1 := (53, [some (.inr (.inr (some (13, 0)))), some (.inl c_), some (.inl p_), some (.inl i_), some (.inl k_), none], [.inl c_, .inl 1280, .inl 20, .inr (.inr (some (292, 0)))], S_)) rfl ?_
        refine sm_T_bin (w := 1280 * c_) rfl (bi_mul (by omega) (by omega) (by omega)) ?_ -- pc_ 53
        refine sm_T_go 1 (c1 := (55, [some (.inr (.inr (some (13, 0)))), some (.inl c_), some (.inl p_), some (.inl i_), some (.inl k_), none], [.inl i_, .inl (1280 * c_), .inl 20, .inr (.inr (some (292, 0)))], S_)) rfl ?_
        refine sm_T_bin (w := 1280 * c_ + i_) rfl (bi_add (by omega) (by omega) (by omega)) ?_ -- pc_ 55
        refine sm_T_bin (w := 25600 * c_ + 20 * i_) rfl (bi_mul (by omega) (by omega) (by omega)) ?_ -- pc_ 56
        refine sm_T_go 1 (c1 := (59, [some (.inr (.inr (some (13, 0)))), some (.inl c_), some (.inl p_), some (.inl i_), some (.inl k_), none], [.inl k_, .inl (25600 * c_ + 20 * i_), .inr (.inr (some (292, 0)))], S_)) rfl ?_
        refine sm_T_bin (w := 25600 * c_ + 20 * i_ + k_) rfl (bi_add (by omega) (by omega) (by omega)) ?_ -- pc_ 59
        refine sm_T_go 1 (c1 := (61, [some (.inr (.inr (some (13, 0)))), some (.inl c_), some (.inl p_), some (.inl i_), some (.inl k_), none], [.inr (.inl 0), .inl (25600 * c_ + 20 * i_ + k_), .inr (.inr (some (292, 0)))], S_)) rfl ?_
        refine sm_T_last (n := 102400) rfl rfl (by omega) (by omega) ?_
        have hIx7_ : gi (sm_aL S_ 292 0 (25600 * c_ + 20 * i_ + k_).toNat 0) := gi_aL hI_
        have hFx8_ : ai_fr (sx_W vw_525n) S0_ (sm_aL S_ 292 0 (25600 * c_ + 20 * i_ + k_).toNat 0) := ai_fr_tr hF_ (ai_fr_aL rfl)
        refine sm_T_inc (a := 4) (z := 1) (v := k_) (w := k_ + 1) rfl rfl (by omega) (by omega) (by omega) ?_ -- pc_ 62
        refine sm_T_go 1 (c1 := (36, [some (.inr (.inr (some (13, 0)))), some (.inl c_), some (.inl p_), some (.inl i_), some (.inl (k_ + 1)), none], [], sm_aL S_ 292 0 (25600 * c_ + 20 * i_ + k_).toNat 0)) rfl ?_
        refine ih_.1 i_ (k_ + 1) (sm_aL S_ 292 0 (25600 * c_ + 20 * i_ + k_).toNat 0) hIx7_ hFx8_ ⟨?_, ?_, ?_, ?_, ?_, trivial⟩ ?_
        · omega
        · exact h4_
        · exact h290_
        · exact h291_
        · intro j9_
          rw [rd_leq]
          by_cases y9_ : j9_ = (25600 * c_ + 20 * i_ + k_).toNat
          · rw [if_pos y9_, if_pos (by omega)]
          · rw [if_neg y9_, h292_]
            by_cases z9_ : 20 * (1280 * c_.toNat + i_.toNat) ≤ j9_ ∧ j9_ < 20 * (1280 * c_.toNat + i_.toNat) + k_.toNat
            · rw [if_pos z9_, if_pos (by omega)]
            · rw [if_neg z9_, if_neg (by omega)]
        · omega
    · rintro i_ f_ S_ hI_ hF_ ⟨h0_, h4_, h290_, h291_, hb1_, ho9_, hr_, -⟩ hm_
      have f223_ : S_.2.2.1 223 0 = S0_.2.2.1 223 0 := fr_arr hF_ rfl
      have f224_ : S_.2.2.1 224 0 = S0_.2.2.1 224 0 := fr_arr hF_ rfl
      have f225_ : S_.2.2.1 225 0 = S0_.2.2.1 225 0 := fr_arr hF_ rfl
      have f228_ : S_.2.2.1 228 0 = S0_.2.2.1 228 0 := fr_arr hF_ rfl
      have x223_ : S_.2.2.1 223 0 c_.toNat = S0_.2.2.1 223 0 c_.toNat := congrFun f223_ _
      have x224_ : S_.2.2.1 224 0 c_.toNat = S0_.2.2.1 224 0 c_.toNat := congrFun f224_ _
      have x225_ : S_.2.2.1 225 0 c_.toNat = S0_.2.2.1 225 0 c_.toNat := congrFun f225_ _
      have x228_ : S_.2.2.1 228 0 c_.toNat = S0_.2.2.1 228 0 c_.toNat := congrFun f228_ _
      have cA_ : 0 ≤ S_.2.2.1 223 0 c_.toNat ∧ S_.2.2.1 223 0 c_.toNat ≤ 12 := hI_.2 223 0 _
      have cB_ : 0 ≤ S_.2.2.1 224 0 c_.toNat ∧ S_.2.2.1 224 0 c_.toNat ≤ 6 := hI_.2 224 0 _
      have cG_ : 0 ≤ S_.2.2.1 228 0 c_.toNat ∧ S_.2.2.1 228 0 c_.toNat ≤ 150 := hI_.2 228 0 _
      have k4_ := cgt_fr hc_.1 hI_ hg_ hF_
      have k5_ := con_fr hc_.1 hI_ ho_ hF_
      have kf_ : fco c_ S_ = fco c_ S0_ := fco_fr hF_
      have fb9_ := fco_b hI_ (show S_.2.2.1 223 0 c_.toNat + S_.2.2.1 224 0 c_.toNat ≤ 12 by omega)
      have hs9_ := hs_
      have U9_ := rshU_fr hU_ hF_
      have rB9e : rB9 c_ S_ = rB9 c_ S0_ := rB_fr hF_
      have T9_ : (f_ + 1).toNat = f_.toNat + 1 := by omega
      refine sm_T_go 3 (c1 := (84, [some (.inr (.inr (some (13, 0)))), some (.inl c_), some (.inl p_), some (.inl i_), some (.inl f_), none], [.inl c_, .inr (.inr (some (13, 0))), .inl f_], S_)) rfl ?_
      refine sm_T_cal (d1 := 1) (Q1 := vq_514 c_ S_) rfl rfl (by decide) (vc_514 c_ S_ hI_ (by exact hc_) (by omega)) (fun u_ Sx1_ px4_ => ?_)
      obtain ⟨rfl, vx6_, rfl, px4_⟩ := px4_
      have e84_ := px4_
      refine sm_T_br (a := 3) (z := 79) rfl (fun cx7_ => ?_) (fun cx7_ => ?_)
      · have cx7_ : vx6_ ≤ f_ := of_decide_eq_true cx7_
        have x289_ : S_.2.2.1 289 0 c_.toNat = S0_.2.2.1 289 0 c_.toNat := congrFun h4_ _
        refine sm_T_go 4 (c1 := (172, [some (.inr (.inr (some (13, 0)))), some (.inl c_), some (.inl p_), some (.inl i_), some (.inl f_), none], [.inl c_, .inr (.inr (some (289, 0))), .inl c_, .inr (.inr (some (289, 0)))], S_)) rfl ?_
        refine sm_T_iald (n := 4) rfl rfl (by omega) (by omega) ?_
        have bx8_ : (-1) ≤ S_.2.2.1 289 0 c_.toNat ∧ S_.2.2.1 289 0 c_.toNat ≤ 1224 := hI_.2 289 0 _
        refine sm_T_go 1 (c1 := (174, [some (.inr (.inr (some (13, 0)))), some (.inl c_), some (.inl p_), some (.inl i_), some (.inl f_), none], [.inl 1, .inl (S_.2.2.1 289 0 c_.toNat), .inl c_, .inr (.inr (some (289, 0)))], S_)) rfl ?_
        refine sm_T_bin (w := (S_.2.2.1 289 0 c_.toNat) + 1) rfl (bi_add (by omega) (by omega) (by omega)) ?_ -- pc_ 174
        refine sm_T_iast (n := 4) rfl rfl (by omega) (by omega) ?_
        have hIx9_ : gi (sm_aI S_ 289 0 c_.toNat ((S_.2.2.1 289 0 c_.toNat) + 1)) := gi_aI hI_ (show (-1) ≤ (S_.2.2.1 289 0 c_.toNat) + 1 ∧ (S_.2.2.1 289 0 c_.toNat) + 1 ≤ 1224 from ⟨by omega, by omega⟩)
        have hFx10_ : ai_fr (sx_W vw_525n) S0_ (sm_aI S_ 289 0 c_.toNat ((S_.2.2.1 289 0 c_.toNat) + 1)) := ai_fr_tr hF_ (ai_fr_aI rfl)
        refine sm_T_rv rfl ⟨_, _, rfl, rfl, hIx9_, hFx10_, ?_⟩
        have fx9_ : ai_fr (sx_W ([], [289], [])) S_ ((sm_aI S_ 289 0 c_.toNat ((S_.2.2.1 289 0 c_.toNat) + 1))) := ai_fr_aI rfl
        have e289_ : ∀ j9_, ((sm_aI S_ 289 0 c_.toNat ((S_.2.2.1 289 0 c_.toNat) + 1))).2.2.1 289 0 j9_ = if j9_ = c_.toNat then S_.2.2.1 289 0 c_.toNat + 1 else S_.2.2.1 289 0 j9_ := fun j9_ => rd_eq
        have g90_ := congrFun (fr_arr (t := 290) (i := 0) fx9_ rfl)
        have g91_ := congrFun (fr_arr (t := 291) (i := 0) fx9_ rfl)
        have g92_ := congrFun (fr_lon (t_ := 292) (i_ := 0) fx9_ rfl)
        refine ⟨rlt_ap hL_ ⟨hp_.1, hp_.2.1⟩ (by (rw [e289_, if_pos rfl]; omega)) (fun j9_ => by (rw [g90_, h290_, h0_.1])) (rB_fr hFx10_) (fco_fr hFx10_) (fun j9_ hj9_ => by (rw [g92_]; exact ho9_ j9_ (by (rw [h0_.1]; exact hj9_)))) (by omega) (fun f9_ hf9_ => ?_), rsx_of (fun j9_ hj9_ => by (rw [e289_, if_neg hj9_, h4_])) (fun j9_ hj9_ => by (rw [g90_, h290_, if_neg (by omega)])) (fun j9_ hj9_ => by (rw [g91_, h291_, if_neg (by omega)])) (fun j9_ hj9_ => by (rw [g92_]; exact ho9_ j9_ (by omega))), fun j9_ => by (rw [g91_, h291_, h0_.1]), by (rw [e289_, if_pos rfl]; omega)⟩
        have w9_ := hb1_ f9_ (by omega)
        rw [if_pos (by omega)] at w9_
        unfold rbw at w9_ ⊢
        rw [g92_, ← h0_.1]
        exact w9_
      · have cx7_ : ¬ (vx6_ ≤ f_) := of_decide_eq_false cx7_
        refine sm_T_go 4 (c1 := (95, [some (.inr (.inr (some (13, 0)))), some (.inl c_), some (.inl p_), some (.inl i_), some (.inl f_), none], [.inl 6, .inl p_, .inl c_, .inr (.inr (some (13, 0)))], S_)) rfl ?_
        refine sm_T_bin (w := (p_ / 64)) rfl (bi_shr (k := 6) (by decide) (by omega) (by omega)) ?_ -- pc_ 95
        refine sm_T_go 1 (c1 := (98, [some (.inr (.inr (some (13, 0)))), some (.inl c_), some (.inl p_), some (.inl i_), some (.inl f_), none], [.inl f_, .inl (p_ / 64), .inl c_, .inr (.inr (some (13, 0)))], S_)) rfl ?_
        refine sm_T_cal (d1 := 2) (Q1 := vq_518n c_ (p_ / 64) f_ S_) rfl rfl (by decide) (vc_518n c_ (p_ / 64) f_ S_ hI_ (by exact hc_) (by omega) (by exact k4_) (by exact k5_) (by omega) (by omega) (by exact hr_)) (fun u_ Sx11_ px14_ => ?_)
        obtain ⟨vx16_, rfl, hIx12_, hFx13_, px14_⟩ := px14_
        have hFx15_ : ai_fr (sx_W vw_525n) S0_ Sx11_ := ai_fr_tr hF_ (fr_le hFx13_ rfl)
        have n98_ : Sx11_.2.2.1 289 0 = S_.2.2.1 289 0 := fr_arr hFx13_ rfl
        have F98_ := hFx13_
        have n980_ : Sx11_.2.2.1 290 0 = S_.2.2.1 290 0 := fr_arr hFx13_ rfl
        have n981_ : Sx11_.2.2.1 291 0 = S_.2.2.1 291 0 := fr_arr hFx13_ rfl
        have n982_ : Sx11_.2.2.2 292 0 = S_.2.2.2 292 0 := fr_lon (t_ := 292) (i_ := 0) hFx13_ rfl
        have n983_ : Sx11_.2.2.2 293 0 = S_.2.2.2 293 0 := fr_lon (t_ := 293) (i_ := 0) hFx13_ rfl
        have U8_ : ∀ b9_ : Bool, rshq c_ S_ f_ p_.toNat b9_ → b9_ = P_ f_.toNat p_.toNat := fun b9_ h9_ => U9_ f_.toNat p_.toNat b9_ (by omega) (by omega) (by (rw [show ((f_.toNat : Nat) : Int) = f_ by omega]; exact h9_))
        have y98_ := (px14_).1 (p_ % 64).toNat (by omega) (by (by_cases z9_ : 6 ≤ S_.2.2.1 223 0 c_.toNat + S_.2.2.1 224 0 c_.toNat; exact Or.inr z9_; (left; have w8_ := hp_.2.1; rw [← rB9e] at w8_; unfold rB9 at w8_; have w7_ := pw_le (n := (S_.2.2.1 223 0 c_.toNat + S_.2.2.1 224 0 c_.toNat).toNat) (m := 6) (by omega); have w7_ : (2 : Int) ^ (S_.2.2.1 223 0 c_.toNat + S_.2.2.1 224 0 c_.toNat).toNat ≤ 64 := w7_; omega)))
        rw [show 64 * (p_ / 64).toNat + (p_ % 64).toNat = p_.toNat by omega] at y98_
        have p98_ := U8_ _ y98_
        refine sm_T_go 2 (c1 := (104, [some (.inr (.inr (some (13, 0)))), some (.inl c_), some (.inl p_), some (.inl i_), some (.inl f_), none], [.inl 63, .inl p_, .inr (.inl vx16_)], Sx11_)) rfl ?_
        refine sm_T_bin (w := (p_ % 64)) rfl (bi_msk (k := 6) (by decide)) ?_ -- pc_ 104
        refine sm_T_go 5 (c1 := (110, [some (.inr (.inr (some (13, 0)))), some (.inl c_), some (.inl p_), some (.inl i_), some (.inl f_), none], [.inl (sm_lcmp ((l_3 ((l_s2 vx16_ (p_ % 64))) 1)) 1)], Sx11_)) rfl ?_
        refine sm_T_b0 (a := 1) (z := 7) rfl (fun cx17_ => ?_) (fun cx17_ => ?_)
        · have cx17_ : (sm_lcmp ((l_3 ((l_s2 vx16_ (p_ % 64))) 1)) 1) ≠ 0 := of_decide_eq_true cx17_
          have b79_ := lb_q (b_ := false) (by omega) ⟨fun z9_ => absurd z9_ (by decide), fun z9_ => absurd cx17_ z9_⟩
          have is9_ := p98_.symm.trans b79_
          refine sm_T_go 7 (c1 := (130, [some (.inr (.inr (some (13, 0)))), some (.inl c_), some (.inl p_), some (.inl i_), some (.inl f_), some (.inl 0)], [.inl c_, .inl 1280, .inl 20, .inr (.inr (some (292, 0)))], Sx11_)) rfl ?_
          refine sm_T_bin (w := 1280 * c_) rfl (bi_mul (by omega) (by omega) (by omega)) ?_ -- pc_ 130
          refine sm_T_go 1 (c1 := (132, [some (.inr (.inr (some (13, 0)))), some (.inl c_), some (.inl p_), some (.inl i_), some (.inl f_), some (.inl 0)], [.inl i_, .inl (1280 * c_), .inl 20, .inr (.inr (some (292, 0)))], Sx11_)) rfl ?_
          refine sm_T_bin (w := 1280 * c_ + i_) rfl (bi_add (by omega) (by omega) (by omega)) ?_ -- pc_ 132
          refine sm_T_bin (w := 25600 * c_ + 20 * i_) rfl (bi_mul (by omega) (by omega) (by omega)) ?_ -- pc_ 133
          refine sm_T_go 2 (c1 := (138, [some (.inr (.inr (some (13, 0)))), some (.inl c_), some (.inl p_), some (.inl i_), some (.inl f_), some (.inl 0)], [.inl 6, .inl f_, .inl (25600 * c_ + 20 * i_), .inr (.inr (some (292, 0)))], Sx11_)) rfl ?_
          refine sm_T_bin (w := (f_ / 64)) rfl (bi_shr (k := 6) (by decide) (by omega) (by omega)) ?_ -- pc_ 138
          refine sm_T_bin (w := 25600 * c_ + 20 * i_ + (f_ / 64)) rfl (bi_add (by omega) (by omega) (by omega)) ?_ -- pc_ 139
          refine sm_T_go 1 (c1 := (141, [some (.inr (.inr (some (13, 0)))), some (.inl c_), some (.inl p_), some (.inl i_), some (.inl f_), some (.inl 0)], [.inl (25600 * c_ + 20 * i_ + (f_ / 64)), .inr (.inr (some (292, 0))), .inl (25600 * c_ + 20 * i_ + (f_ / 64)), .inr (.inr (some (292, 0)))], Sx11_)) rfl ?_
          refine sm_T_lald (n := 102400) rfl rfl (by omega) (by omega) ?_
          refine sm_T_go 4 (c1 := (159, [some (.inr (.inr (some (13, 0)))), some (.inl c_), some (.inl p_), some (.inl i_), some (.inl f_), some (.inl 0)], [.inr (.inl (l_4 ((Sx11_.2.2.2 292 0 (25600 * c_ + 20 * i_ + (f_ / 64)).toNat)) 0)), .inl (25600 * c_ + 20 * i_ + (f_ / 64)), .inr (.inr (some (292, 0)))], Sx11_)) rfl ?_
          refine sm_T_last (n := 102400) rfl rfl (by omega) (by omega) ?_
          have hIx18_ : gi (sm_aL Sx11_ 292 0 (25600 * c_ + 20 * i_ + (f_ / 64)).toNat ((l_4 ((Sx11_.2.2.2 292 0 (25600 * c_ + 20 * i_ + (f_ / 64)).toNat)) 0))) := gi_aL hIx12_
          have hFx19_ : ai_fr (sx_W vw_525n) S0_ (sm_aL Sx11_ 292 0 (25600 * c_ + 20 * i_ + (f_ / 64)).toNat ((l_4 ((Sx11_.2.2.2 292 0 (25600 * c_ + 20 * i_ + (f_ / 64)).toNat)) 0))) := ai_fr_tr hFx15_ (ai_fr_aL rfl)
          refine sm_T_inc (a := 4) (z := 1) (v := f_) (w := f_ + 1) rfl rfl (by omega) (by omega) (by omega) ?_ -- pc_ 160
          refine sm_T_go 1 (c1 := (80, [some (.inr (.inr (some (13, 0)))), some (.inl c_), some (.inl p_), some (.inl i_), some (.inl (f_ + 1)), some (.inl 0)], [], sm_aL Sx11_ 292 0 (25600 * c_ + 20 * i_ + (f_ / 64)).toNat ((l_4 ((Sx11_.2.2.2 292 0 (25600 * c_ + 20 * i_ + (f_ / 64)).toNat)) 0)))) rfl ?_
          refine sm_T_wk [some (.inr (.inr (some (13, 0)))), some (.inl c_), some (.inl p_), some (.inl i_), some (.inl (f_ + 1)), none] (by exact ⟨rfl, rfl, rfl, rfl, rfl, trivial⟩) ?_
          refine ih_.2 i_ (f_ + 1) (sm_aL Sx11_ 292 0 (25600 * c_ + 20 * i_ + (f_ / 64)).toNat ((l_4 ((Sx11_.2.2.2 292 0 (25600 * c_ + 20 * i_ + (f_ / 64)).toNat)) 0))) hIx18_ hFx19_ ⟨?_, ?_, ?_, ?_, ?_, ?_, ?_, trivial⟩ ?_
          · omega
          · exact n98_.trans h4_
          · (rw [show ((sm_aL Sx11_ 292 0 (25600 * c_ + 20 * i_ + (f_ / 64)).toNat ((l_4 ((Sx11_.2.2.2 292 0 (25600 * c_ + 20 * i_ + (f_ / 64)).toNat)) 0)))).2.2.1 290 0 = S_.2.2.1 290 0 from n980_]; exact h290_)
          · (rw [show ((sm_aL Sx11_ 292 0 (25600 * c_ + 20 * i_ + (f_ / 64)).toNat ((l_4 ((Sx11_.2.2.2 292 0 (25600 * c_ + 20 * i_ + (f_ / 64)).toNat)) 0)))).2.2.1 291 0 = S_.2.2.1 291 0 from n981_]; exact h291_)
          · intro f9_ hf9_
            have w9_ := hb1_ f9_ hf9_
            have ix9_ : (25600 * c_ + 20 * i_ + f_ / 64).toNat = 20 * (1280 * c_.toNat + i_.toNat) + f_.toNat / 64 := by omega
            unfold rbw at w9_ ⊢
            rw [rd_leq, ix9_]
            by_cases y9_ : f9_ / 64 = f_.toNat / 64
            · rw [if_pos (by omega)]
              have o9_ := rb_or (x_ := S_.2.2.2 292 0 (20 * (1280 * c_.toNat + i_.toNat) + f9_ / 64)) (f_ := f_.toNat) (f9_ := f9_) (by first | exact Or.inl ⟨is9_, rfl⟩ | exact Or.inr ⟨is9_, rfl⟩)
              rw [n982_, ← y9_]
              first | (rw [show ((f_.toNat % 64 : Nat) : Int) = f_ % 64 by omega] at o9_; rw [o9_, w9_]) | rw [o9_, w9_]
              by_cases z9_ : f9_ = f_.toNat
              · rw [z9_, if_neg (by omega), if_pos (by omega), decide_eq_true rfl, Bool.false_or, Bool.and_true]
              · rw [decide_eq_false (by omega), Bool.and_false, Bool.or_false]
                by_cases u9_ : (f9_ : Int) < f_
                · rw [if_pos u9_, if_pos (by omega)]
                · rw [if_neg u9_, if_neg (by omega)]
            · rw [if_neg (by omega), n982_, w9_]
              by_cases u9_ : (f9_ : Int) < f_
              · rw [if_pos u9_, if_pos (by omega)]
              · rw [if_neg u9_, if_neg (by omega)]
          · intro j9_ hj9_
            rw [rd_leq, if_neg (by omega), n982_]
            exact ho9_ j9_ hj9_
          · (have fx9_ : ai_fr (sx_W ([], [292], [])) _ ((sm_aL Sx11_ 292 0 (25600 * c_ + 20 * i_ + (f_ / 64)).toNat ((l_4 ((Sx11_.2.2.2 292 0 (25600 * c_ + 20 * i_ + (f_ / 64)).toNat)) 0)))) := ai_fr_aL rfl; exact rgh_fr (rgh_fr (rgh_2 hr_ ((fr_lon (t_ := 293) (i_ := 0) fx9_ rfl).trans n983_)) F98_) fx9_)
          · omega
        · have cx17_ : ¬ ((sm_lcmp ((l_3 ((l_s2 vx16_ (p_ % 64))) 1)) 1) ≠ 0) := of_decide_eq_false cx17_
          have b79_ := lb_q (b_ := true) (by omega) ⟨fun _ => cx17_, fun _ => rfl⟩
          have is9_ := p98_.symm.trans b79_
          refine sm_T_go 8 (c1 := (130, [some (.inr (.inr (some (13, 0)))), some (.inl c_), some (.inl p_), some (.inl i_), some (.inl f_), some (.inl 1)], [.inl c_, .inl 1280, .inl 20, .inr (.inr (some (292, 0)))], Sx11_)) rfl ?_
          refine sm_T_bin (w := 1280 * c_) rfl (bi_mul (by omega) (by omega) (by omega)) ?_ -- pc_ 130
          refine sm_T_go 1 (c1 := (132, [some (.inr (.inr (some (13, 0)))), some (.inl c_), some (.inl p_), some (.inl i_), some (.inl f_), some (.inl 1)], [.inl i_, .inl (1280 * c_), .inl 20, .inr (.inr (some (292, 0)))], Sx11_)) rfl ?_
          refine sm_T_bin (w := 1280 * c_ + i_) rfl (bi_add (by omega) (by omega) (by omega)) ?_ -- pc_ 132
          refine sm_T_bin (w := 25600 * c_ + 20 * i_) rfl (bi_mul (by omega) (by omega) (by omega)) ?_ -- pc_ 133
          refine sm_T_go 2 (c1 := (138, [some (.inr (.inr (some (13, 0)))), some (.inl c_), some (.inl p_), some (.inl i_), some (.inl f_), some (.inl 1)], [.inl 6, .inl f_, .inl (25600 * c_ + 20 * i_), .inr (.inr (some (292, 0)))], Sx11_)) rfl ?_
          refine sm_T_bin (w := (f_ / 64)) rfl (bi_shr (k := 6) (by decide) (by omega) (by omega)) ?_ -- pc_ 138
          refine sm_T_bin (w := 25600 * c_ + 20 * i_ + (f_ / 64)) rfl (bi_add (by omega) (by omega) (by omega)) ?_ -- pc_ 139
          refine sm_T_go 1 (c1 := (141, [some (.inr (.inr (some (13, 0)))), some (.inl c_), some (.inl p_), some (.inl i_), some (.inl f_), some (.inl 1)], [.inl (25600 * c_ + 20 * i_ + (f_ / 64)), .inr (.inr (some (292, 0))), .inl (25600 * c_ + 20 * i_ + (f_ / 64)), .inr (.inr (some (292, 0)))], Sx11_)) rfl ?_
          refine sm_T_lald (n := 102400) rfl rfl (by omega) (by omega) ?_
          refine sm_T_go 5 (c1 := (152, [some (.inr (.inr (some (13, 0)))), some (.inl c_), some (.inl p_), some (.inl i_), some (.inl f_), some (.inl 1)], [.inl 63, .inl f_, .inr (.inl 1), .inr (.inl (Sx11_.2.2.2 292 0 (25600 * c_ + 20 * i_ + (f_ / 64)).toNat)), .inl (25600 * c_ + 20 * i_ + (f_ / 64)), .inr (.inr (some (292, 0)))], Sx11_)) rfl ?_
          refine sm_T_bin (w := (f_ % 64)) rfl (bi_msk (k := 6) (by decide)) ?_ -- pc_ 152
          refine sm_T_go 3 (c1 := (159, [some (.inr (.inr (some (13, 0)))), some (.inl c_), some (.inl p_), some (.inl i_), some (.inl f_), some (.inl 1)], [.inr (.inl (l_4 ((Sx11_.2.2.2 292 0 (25600 * c_ + 20 * i_ + (f_ / 64)).toNat)) ((l_s0 1 (f_ % 64))))), .inl (25600 * c_ + 20 * i_ + (f_ / 64)), .inr (.inr (some (292, 0)))], Sx11_)) rfl ?_
          refine sm_T_last (n := 102400) rfl rfl (by omega) (by omega) ?_
          have hIx20_ : gi (sm_aL Sx11_ 292 0 (25600 * c_ + 20 * i_ + (f_ / 64)).toNat ((l_4 ((Sx11_.2.2.2 292 0 (25600 * c_ + 20 * i_ + (f_ / 64)).toNat)) ((l_s0 1 (f_ % 64)))))) := gi_aL hIx12_
          have hFx21_ : ai_fr (sx_W vw_525n) S0_ (sm_aL Sx11_ 292 0 (25600 * c_ + 20 * i_ + (f_ / 64)).toNat ((l_4 ((Sx11_.2.2.2 292 0 (25600 * c_ + 20 * i_ + (f_ / 64)).toNat)) ((l_s0 1 (f_ % 64)))))) := ai_fr_tr hFx15_ (ai_fr_aL rfl)
          refine sm_T_inc (a := 4) (z := 1) (v := f_) (w := f_ + 1) rfl rfl (by omega) (by omega) (by omega) ?_ -- pc_ 160
          refine sm_T_go 1 (c1 := (80, [some (.inr (.inr (some (13, 0)))), some (.inl c_), some (.inl p_), some (.inl i_), some (.inl (f_ + 1)), some (.inl 1)], [], sm_aL Sx11_ 292 0 (25600 * c_ + 20 * i_ + (f_ / 64)).toNat ((l_4 ((Sx11_.2.2.2 292 0 (25600 * c_ + 20 * i_ + (f_ / 64)).toNat)) ((l_s0 1 (f_ % 64))))))) rfl ?_
          refine sm_T_wk [some (.inr (.inr (some (13, 0)))), some (.inl c_), some (.inl p_), some (.inl i_), some (.inl (f_ + 1)), none] (by exact ⟨rfl, rfl, rfl, rfl, rfl, trivial⟩) ?_
          refine ih_.2 i_ (f_ + 1) (sm_aL Sx11_ 292 0 (25600 * c_ + 20 * i_ + (f_ / 64)).toNat ((l_4 ((Sx11_.2.2.2 292 0 (25600 * c_ + 20 * i_ + (f_ / 64)).toNat)) ((l_s0 1 (f_ % 64)))))) hIx20_ hFx21_ ⟨?_, ?_, ?_, ?_, ?_, ?_, ?_, trivial⟩ ?_
          · omega
          · exact n98_.trans h4_
          · (rw [show ((sm_aL Sx11_ 292 0 (25600 * c_ + 20 * i_ + (f_ / 64)).toNat ((l_4 ((Sx11_.2.2.2 292 0 (25600 * c_ + 20 * i_ + (f_ / 64)).toNat)) ((l_s0 1 (f_ % 64))))))).2.2.1 290 0 = S_.2.2.1 290 0 from n980_]; exact h290_)
          · (rw [show ((sm_aL Sx11_ 292 0 (25600 * c_ + 20 * i_ + (f_ / 64)).toNat ((l_4 ((Sx11_.2.2.2 292 0 (25600 * c_ + 20 * i_ + (f_ / 64)).toNat)) ((l_s0 1 (f_ % 64))))))).2.2.1 291 0 = S_.2.2.1 291 0 from n981_]; exact h291_)
          · intro f9_ hf9_
            have w9_ := hb1_ f9_ hf9_
            have ix9_ : (25600 * c_ + 20 * i_ + f_ / 64).toNat = 20 * (1280 * c_.toNat + i_.toNat) + f_.toNat / 64 := by omega
            unfold rbw at w9_ ⊢
            rw [rd_leq, ix9_]
            by_cases y9_ : f9_ / 64 = f_.toNat / 64
            · rw [if_pos (by omega)]
              have o9_ := rb_or (x_ := S_.2.2.2 292 0 (20 * (1280 * c_.toNat + i_.toNat) + f9_ / 64)) (f_ := f_.toNat) (f9_ := f9_) (by first | exact Or.inl ⟨is9_, rfl⟩ | exact Or.inr ⟨is9_, rfl⟩)
              rw [n982_, ← y9_]
              first | (rw [show ((f_.toNat % 64 : Nat) : Int) = f_ % 64 by omega] at o9_; rw [o9_, w9_]) | rw [o9_, w9_]
              by_cases z9_ : f9_ = f_.toNat
              · rw [z9_, if_neg (by omega), if_pos (by omega), decide_eq_true rfl, Bool.false_or, Bool.and_true]
              · rw [decide_eq_false (by omega), Bool.and_false, Bool.or_false]
                by_cases u9_ : (f9_ : Int) < f_
                · rw [if_pos u9_, if_pos (by omega)]
                · rw [if_neg u9_, if_neg (by omega)]
            · rw [if_neg (by omega), n982_, w9_]
              by_cases u9_ : (f9_ : Int) < f_
              · rw [if_pos u9_, if_pos (by omega)]
              · rw [if_neg u9_, if_neg (by omega)]
          · intro j9_ hj9_
            rw [rd_leq, if_neg (by omega), n982_]
            exact ho9_ j9_ hj9_
          · (have fx9_ : ai_fr (sx_W ([], [292], [])) _ ((sm_aL Sx11_ 292 0 (25600 * c_ + 20 * i_ + (f_ / 64)).toNat ((l_4 ((Sx11_.2.2.2 292 0 (25600 * c_ + 20 * i_ + (f_ / 64)).toNat)) ((l_s0 1 (f_ % 64))))))) := ai_fr_aL rfl; exact rgh_fr (rgh_fr (rgh_2 hr_ ((fr_lon (t_ := 293) (i_ := 0) fx9_ rfl).trans n983_)) F98_) fx9_)
          · omega
set_option maxHeartbeats 2000000 in
set_option maxRecDepth 20000 in
theorem vc_525n {sc_ : Nat × (Nat → Int)} (c_ : Int) (p_ : Int) (P_ : Nat → Nat → Bool) (L_ : List Nat) (S0_ : sm_S) (hI_ : gi S0_) (hc_ : 0 ≤ c_ ∧ c_ ≤ 3) (hx_ : S0_.2.2.1 223 0 c_.toNat + S0_.2.2.1 224 0 c_.toNat ≤ 12) (hg_ : cgt c_ S0_) (ho_ : con c_ S0_) (hp_ : 0 ≤ p_ ∧ p_ < rB9 c_ S0_ ∧ p_ ≤ 4095) (hs_ : 0 ≤ S0_.2.2.1 289 0 c_.toNat ∧ S0_.2.2.1 289 0 c_.toNat ≤ 1223) (hL_ : rlt9 c_ S0_ P_ L_) (hU_ : rshU c_ S0_ P_) : sm_T (mt_P sc_) 3 525 (0, [some (.inr (.inr (some (13, 0)))), some (.inl c_), some (.inl p_), none, none, none], [], S0_) (fun ro9_ => ∃ u_ S1_, ro9_ = (.inl u_, S1_, 0) ∧ vq_525n c_ p_ P_ L_ S0_ u_ S1_) := by
  have hF_ : ai_fr (sx_W vw_525n) S0_ S0_ := ai_fr_rf
  refine sm_T_go 3 (c1 := (5, [some (.inr (.inr (some (13, 0)))), some (.inl c_), some (.inl p_), none, none, none], [.inl c_, .inr (.inr (some (289, 0)))], S0_)) rfl ?_
  refine sm_T_iald (n := 4) rfl rfl (by omega) (by omega) ?_
  have bx1_ : (-1) ≤ S0_.2.2.1 289 0 c_.toNat ∧ S0_.2.2.1 289 0 c_.toNat ≤ 1224 := hI_.2 289 0 _
  refine sm_T_go 5 (c1 := (15, [some (.inr (.inr (some (13, 0)))), some (.inl c_), some (.inl p_), some (.inl (S0_.2.2.1 289 0 c_.toNat)), none, none], [.inl c_, .inl 1280, .inr (.inr (some (290, 0)))], S0_)) rfl ?_
  refine sm_T_bin (w := 1280 * c_) rfl (bi_mul (by omega) (by omega) (by omega)) ?_ -- pc_ 15
  refine sm_T_go 1 (c1 := (17, [some (.inr (.inr (some (13, 0)))), some (.inl c_), some (.inl p_), some (.inl (S0_.2.2.1 289 0 c_.toNat)), none, none], [.inl (S0_.2.2.1 289 0 c_.toNat), .inl (1280 * c_), .inr (.inr (some (290, 0)))], S0_)) rfl ?_
  refine sm_T_bin (w := 1280 * c_ + (S0_.2.2.1 289 0 c_.toNat)) rfl (bi_add (by omega) (by omega) (by omega)) ?_ -- pc_ 17
  refine sm_T_go 1 (c1 := (19, [some (.inr (.inr (some (13, 0)))), some (.inl c_), some (.inl p_), some (.inl (S0_.2.2.1 289 0 c_.toNat)), none, none], [.inl p_, .inl (1280 * c_ + (S0_.2.2.1 289 0 c_.toNat)), .inr (.inr (some (290, 0)))], S0_)) rfl ?_
  refine sm_T_iast (n := 5120) rfl rfl (by omega) (by omega) ?_
  have hIx2_ : gi (sm_aI S0_ 290 0 (1280 * c_ + (S0_.2.2.1 289 0 c_.toNat)).toNat p_) := gi_aI hI_ (show 0 ≤ p_ ∧ p_ ≤ 4095 from ⟨by omega, by omega⟩)
  have hFx3_ : ai_fr (sx_W vw_525n) S0_ (sm_aI S0_ 290 0 (1280 * c_ + (S0_.2.2.1 289 0 c_.toNat)).toNat p_) := ai_fr_tr hF_ (ai_fr_aI rfl)
  refine sm_T_go 4 (c1 := (28, [some (.inr (.inr (some (13, 0)))), some (.inl c_), some (.inl p_), some (.inl (S0_.2.2.1 289 0 c_.toNat)), none, none], [.inl c_, .inl 1280, .inr (.inr (some (291, 0)))], sm_aI S0_ 290 0 (1280 * c_ + (S0_.2.2.1 289 0 c_.toNat)).toNat p_)) rfl ?_
  refine sm_T_bin (w := 1280 * c_) rfl (bi_mul (by omega) (by omega) (by omega)) ?_ -- pc_ 28
  refine sm_T_go 1 (c1 := (30, [some (.inr (.inr (some (13, 0)))), some (.inl c_), some (.inl p_), some (.inl (S0_.2.2.1 289 0 c_.toNat)), none, none], [.inl (S0_.2.2.1 289 0 c_.toNat), .inl (1280 * c_), .inr (.inr (some (291, 0)))], sm_aI S0_ 290 0 (1280 * c_ + (S0_.2.2.1 289 0 c_.toNat)).toNat p_)) rfl ?_
  refine sm_T_bin (w := 1280 * c_ + (S0_.2.2.1 289 0 c_.toNat)) rfl (bi_add (by omega) (by omega) (by omega)) ?_ -- pc_ 30
  refine sm_T_go 1 (c1 := (32, [some (.inr (.inr (some (13, 0)))), some (.inl c_), some (.inl p_), some (.inl (S0_.2.2.1 289 0 c_.toNat)), none, none], [.inl 0, .inl (1280 * c_ + (S0_.2.2.1 289 0 c_.toNat)), .inr (.inr (some (291, 0)))], sm_aI S0_ 290 0 (1280 * c_ + (S0_.2.2.1 289 0 c_.toNat)).toNat p_)) rfl ?_
  refine sm_T_zas1 (n := 5120) rfl rfl (by omega) (by omega) (by omega) ?_
  have hIx4_ : gi (sm_aI (sm_aI S0_ 290 0 (1280 * c_ + (S0_.2.2.1 289 0 c_.toNat)).toNat p_) 291 0 (1280 * c_ + (S0_.2.2.1 289 0 c_.toNat)).toNat 0) := gi_aI hIx2_ (show 0 ≤ 0 ∧ 0 ≤ 1 from ⟨by omega, by omega⟩)
  have hFx5_ : ai_fr (sx_W vw_525n) S0_ (sm_aI (sm_aI S0_ 290 0 (1280 * c_ + (S0_.2.2.1 289 0 c_.toNat)).toNat p_) 291 0 (1280 * c_ + (S0_.2.2.1 289 0 c_.toNat)).toNat 0) := ai_fr_tr hFx3_ (ai_fr_aI rfl)
  refine sm_T_go 2 (c1 := (36, [some (.inr (.inr (some (13, 0)))), some (.inl c_), some (.inl p_), some (.inl (S0_.2.2.1 289 0 c_.toNat)), some (.inl 0), none], [], sm_aI (sm_aI S0_ 290 0 (1280 * c_ + (S0_.2.2.1 289 0 c_.toNat)).toNat p_) 291 0 (1280 * c_ + (S0_.2.2.1 289 0 c_.toNat)).toNat 0)) rfl ?_
  refine (vl_525n c_ p_ P_ L_ S0_ hc_ hx_ hg_ ho_ hp_ hs_ hL_ hU_ _).1 (S0_.2.2.1 289 0 c_.toNat) 0 (sm_aI (sm_aI S0_ 290 0 (1280 * c_ + (S0_.2.2.1 289 0 c_.toNat)).toNat p_) 291 0 (1280 * c_ + (S0_.2.2.1 289 0 c_.toNat)).toNat 0) hIx4_ hFx5_ ⟨?_, ?_, ?_, ?_, ?_, trivial⟩ (Nat.lt_succ_self _)
  · omega
  · (funext j9_; (try simp only [rd_eq, rd_ne, rf_eq, rf_nk, rf_nt, rd_fa, rd_af, rd_fl, rd_al, rd_lf, rd_la, rd_leq, rd_lne, rd_fr, rd_ar, ne_eq, Nat.reduceEqDiff, not_false_eq_true]))
  · (intro j9_; (try simp only [rd_eq, rd_ne, rf_eq, rf_nk, rf_nt, rd_fa, rd_af, rd_fl, rd_al, rd_lf, rd_la, rd_leq, rd_lne, rd_fr, rd_ar, ne_eq, Nat.reduceEqDiff, not_false_eq_true]); rw [show (1280 * c_ + S0_.2.2.1 289 0 c_.toNat).toNat = 1280 * c_.toNat + (S0_.2.2.1 289 0 c_.toNat).toNat by omega])
  · (intro j9_; (try simp only [rd_eq, rd_ne, rf_eq, rf_nk, rf_nt, rd_fa, rd_af, rd_fl, rd_al, rd_lf, rd_la, rd_leq, rd_lne, rd_fr, rd_ar, ne_eq, Nat.reduceEqDiff, not_false_eq_true]); rw [show (1280 * c_ + S0_.2.2.1 289 0 c_.toNat).toNat = 1280 * c_.toNat + (S0_.2.2.1 289 0 c_.toNat).toNat by omega])
  · (intro j9_; rw [if_neg (by omega)]; rfl)
/-! M_.dropPattern -/
def vw_527n : sx_Wl := ([], [289, 290, 292], [])
def vq_527n (c_ : Int) (i_ : Int) (P_ : Nat → Nat → Bool) (L_ : List Nat) (S0_ : sm_S) (u_ : Option sm_V) (S1_ : sm_S) : Prop := u_ = none ∧ gi S1_ ∧ ai_fr (sx_W vw_527n) S0_ S1_ ∧ (rlt9 c_ S1_ P_ (L_.eraseIdx i_.toNat) ∧ rsx c_ S0_ S1_ ∧ S1_.2.2.1 289 0 c_.toNat = S0_.2.2.1 289 0 c_.toNat - 1)
set_option maxHeartbeats 400000 in
set_option maxRecDepth 20000 in
theorem vl_527n {sc_ : Nat × (Nat → Int)} (c_ : Int) (i_ : Int) (P_ : Nat → Nat → Bool) (L_ : List Nat) (S0_ : sm_S) (hc_ : 0 ≤ c_ ∧ c_ ≤ 3) (hi_ : 0 ≤ i_ ∧ i_ < S0_.2.2.1 289 0 c_.toNat) (hL_ : rlt9 c_ S0_ P_ L_) (he_ : fco c_ S0_ ≤ 1280) : ∀ nn_ : Nat, (∀ (k_ : Int) (S_ : sm_S), gi S_ → ai_fr (sx_W vw_527n) S0_ S_ → ((0 ≤ k_ ∧ k_ ≤ 1224 ∧ i_ ≤ k_ ∧ k_ < S0_.2.2.1 289 0 c_.toNat ∧ S0_.2.2.1 289 0 c_.toNat ≤ 1224) ∧ (S_.2.2.1 289 0 c_.toNat = S0_.2.2.1 289 0 c_.toNat - 1) ∧ (rsx c_ S0_ S_) ∧ (∀ j9_ : Nat, S_.2.2.1 290 0 (1280 * c_.toNat + j9_) = if i_.toNat ≤ j9_ ∧ j9_ < k_.toNat then S0_.2.2.1 290 0 (1280 * c_.toNat + (j9_ + 1)) else S0_.2.2.1 290 0 (1280 * c_.toNat + j9_)) ∧ (∀ j9_ w9_ : Nat, w9_ < 20 → S_.2.2.2 292 0 (20 * (1280 * c_.toNat + j9_) + w9_) = if i_.toNat ≤ j9_ ∧ (j9_ < k_.toNat) then S0_.2.2.2 292 0 (20 * (1280 * c_.toNat + (j9_ + 1)) + w9_) else S0_.2.2.2 292 0 (20 * (1280 * c_.toNat + j9_) + w9_)) ∧ True) → ((100 * (5000 - k_) + 90).toNat) < nn_ → sm_T (mt_P sc_) 0 527 (12, [some (.inr (.inr (some (13, 0)))), some (.inl c_), some (.inl i_), some (.inl k_), none], [], S_) (fun ro9_ => ∃ u_ S1_, ro9_ = (.inl u_, S1_, 0) ∧ vq_527n c_ i_ P_ L_ S0_ u_ S1_)) ∧ (∀ (k_ : Int) (j_ : Int) (S_ : sm_S), gi S_ → ai_fr (sx_W vw_527n) S0_ S_ → ((0 ≤ k_ ∧ k_ < 1224 ∧ 0 ≤ j_ ∧ j_ ≤ 20 ∧ i_ ≤ k_ ∧ k_ < S0_.2.2.1 289 0 c_.toNat - 1 ∧ S0_.2.2.1 289 0 c_.toNat ≤ 1224) ∧ (S_.2.2.1 289 0 c_.toNat = S0_.2.2.1 289 0 c_.toNat - 1) ∧ (rsx c_ S0_ S_) ∧ (∀ j9_ : Nat, S_.2.2.1 290 0 (1280 * c_.toNat + j9_) = if i_.toNat ≤ j9_ ∧ j9_ < k_.toNat + 1 then S0_.2.2.1 290 0 (1280 * c_.toNat + (j9_ + 1)) else S0_.2.2.1 290 0 (1280 * c_.toNat + j9_)) ∧ (∀ j9_ w9_ : Nat, w9_ < 20 → S_.2.2.2 292 0 (20 * (1280 * c_.toNat + j9_) + w9_) = if i_.toNat ≤ j9_ ∧ (j9_ < k_.toNat ∨ (j9_ = k_.toNat ∧ (w9_ : Int) < j_)) then S0_.2.2.2 292 0 (20 * (1280 * c_.toNat + (j9_ + 1)) + w9_) else S0_.2.2.2 292 0 (20 * (1280 * c_.toNat + j9_) + w9_)) ∧ True) → ((100 * (5000 - k_) + 80 - j_).toNat) < nn_ → sm_T (mt_P sc_) 0 527 (51, [some (.inr (.inr (some (13, 0)))), some (.inl c_), some (.inl i_), some (.inl k_), some (.inl j_)], [], S_) (fun ro9_ => ∃ u_ S1_, ro9_ = (.inl u_, S1_, 0) ∧ vq_527n c_ i_ P_ L_ S0_ u_ S1_)) := by
  intro nn_
  induction nn_ with
  | zero => exact ⟨fun _ _ _ _ _ h_ => absurd h_ (Nat.not_lt_zero _), fun _ _ _ _ _ _ h_ => absurd h_ (Nat.not_lt_zero _)⟩
  | succ nn_ ih_ =>
    refine ⟨?_, ?_⟩
    · rintro k_ S_ hI_ hF_ ⟨h0_, h4_, hx9_, h290_, h292_, -⟩ hm_
      have T9_ : (k_ + 1).toNat = k_.toNat + 1 := by omega
      refine sm_T_go 4 (c1 := (18, [some (.inr (.inr (some (13, 0)))), some (.inl c_), some (.inl i_), some (.inl k_), none], [.inl c_, .inr (.inr (some (289, 0))), .inl k_], S_)) rfl ?_
      refine sm_T_iald (n := 4) rfl rfl (by omega) (by omega) ?_
      have bx1_ : (-1) ≤ S_.2.2.1 289 0 c_.toNat ∧ S_.2.2.1 289 0 c_.toNat ≤ 1224 := hI_.2 289 0 _
      refine sm_T_br (a := 3) (z := 89) rfl (fun cx2_ => ?_) (fun cx2_ => ?_)
      · have cx2_ : (S_.2.2.1 289 0 c_.toNat) ≤ k_ := of_decide_eq_true cx2_
        refine sm_T_rv rfl ⟨_, _, rfl, rfl, hI_, hF_, ?_⟩
        have l9_ := hL_.1
        refine ⟨rlt_er hL_ (by omega) h4_ (fun j9_ hj9_ => ?_) (rB_fr hF_) (fco_fr hF_) he_ (fun j9_ w9_ hj9_ hw9_ => ?_), hx9_, h4_⟩
        · rw [h290_ j9_]; by_cases y9_ : j9_ < i_.toNat
          · rw [if_neg (by omega), if_pos y9_]
          · rw [if_pos (by omega), if_neg y9_]
        · rw [h292_ j9_ w9_ hw9_]; by_cases y9_ : j9_ < i_.toNat
          · rw [if_neg (by omega), if_pos y9_]
          · rw [if_pos (by omega), if_neg y9_]
      · have cx2_ : ¬ ((S_.2.2.1 289 0 c_.toNat) ≤ k_) := of_decide_eq_false cx2_
        refine sm_T_go 4 (c1 := (30, [some (.inr (.inr (some (13, 0)))), some (.inl c_), some (.inl i_), some (.inl k_), none], [.inl c_, .inl 1280, .inr (.inr (some (290, 0)))], S_)) rfl ?_
        refine sm_T_bin (w := 1280 * c_) rfl (bi_mul (by omega) (by omega) (by omega)) ?_ -- pc_ 30
        refine sm_T_go 1 (c1 := (32, [some (.inr (.inr (some (13, 0)))), some (.inl c_), some (.inl i_), some (.inl k_), none], [.inl k_, .inl (1280 * c_), .inr (.inr (some (290, 0)))], S_)) rfl ?_
        refine sm_T_bin (w := 1280 * c_ + k_) rfl (bi_add (by omega) (by omega) (by omega)) ?_ -- pc_ 32
        refine sm_T_go 4 (c1 := (41, [some (.inr (.inr (some (13, 0)))), some (.inl c_), some (.inl i_), some (.inl k_), none], [.inl c_, .inl 1280, .inr (.inr (some (290, 0))), .inl (1280 * c_ + k_), .inr (.inr (some (290, 0)))], S_)) rfl ?_
        refine sm_T_bin (w := 1280 * c_) rfl (bi_mul (by omega) (by omega) (by omega)) ?_ -- pc_ 41
        refine sm_T_go 1 (c1 := (43, [some (.inr (.inr (some (13, 0)))), some (.inl c_), some (.inl i_), some (.inl k_), none], [.inl k_, .inl (1280 * c_), .inr (.inr (some (290, 0))), .inl (1280 * c_ + k_), .inr (.inr (some (290, 0)))], S_)) rfl ?_
        refine sm_T_bin (w := 1280 * c_ + k_) rfl (bi_add (by omega) (by omega) (by omega)) ?_ -- pc_ 43
        refine sm_T_go 1 (c1 := (45, [some (.inr (.inr (some (13, 0)))), some (.inl c_), some (.inl i_), some (.inl k_), none], [.inl 1, .inl (1280 * c_ + k_), .inr (.inr (some (290, 0))), .inl (1280 * c_ + k_), .inr (.inr (some (290, 0)))], S_)) rfl ?_
        refine sm_T_bin (w := 1280 * c_ + k_ + 1) rfl (bi_add (by omega) (by omega) (by omega)) ?_ -- pc_ 45
        refine sm_T_iald (n := 5120) rfl rfl (by omega) (by omega) ?_
        have bx3_ : 0 ≤ S_.2.2.1 290 0 (1280 * c_ + k_ + 1).toNat ∧ S_.2.2.1 290 0 (1280 * c_ + k_ + 1).toNat ≤ 4095 := hI_.2 290 0 _
        refine sm_T_iast (n := 5120) rfl rfl (by omega) (by omega) ?_
        have hIx4_ : gi (sm_aI S_ 290 0 (1280 * c_ + k_).toNat (S_.2.2.1 290 0 (1280 * c_ + k_ + 1).toNat)) := gi_aI hI_ (show 0 ≤ (S_.2.2.1 290 0 (1280 * c_ + k_ + 1).toNat) ∧ (S_.2.2.1 290 0 (1280 * c_ + k_ + 1).toNat) ≤ 4095 from ⟨by omega, by omega⟩)
        have hFx5_ : ai_fr (sx_W vw_527n) S0_ (sm_aI S_ 290 0 (1280 * c_ + k_).toNat (S_.2.2.1 290 0 (1280 * c_ + k_ + 1).toNat)) := ai_fr_tr hF_ (ai_fr_aI rfl)
        refine sm_T_go 2 (c1 := (51, [some (.inr (.inr (some (13, 0)))), some (.inl c_), some (.inl i_), some (.inl k_), some (.inl 0)], [], sm_aI S_ 290 0 (1280 * c_ + k_).toNat (S_.2.2.1 290 0 (1280 * c_ + k_ + 1).toNat))) rfl ?_
        refine ih_.2 k_ 0 (sm_aI S_ 290 0 (1280 * c_ + k_).toNat (S_.2.2.1 290 0 (1280 * c_ + k_ + 1).toNat)) hIx4_ hFx5_ ⟨?_, ?_, ?_, ?_, ?_, trivial⟩ ?_
        · omega
        · (rw [rd_ne (by decide)]; exact h4_)
        · (refine rsx_tr hx9_ (rsx_of (fun j9_ _ => by (rw [rd_ne (by decide)])) (fun j9_ hj9_ => by (rw [rd_eq, if_neg (by omega)])) (fun j9_ _ => by (rw [rd_ne (by decide)])) (fun j9_ _ => rfl)))
        · intro j9_
          rw [rd_eq]
          by_cases y9_ : j9_ = k_.toNat
          · rw [if_pos (by omega), if_pos (by omega)]
            have w9_ := h290_ (k_.toNat + 1)
            rw [if_neg (by omega)] at w9_
            rw [show (1280 * c_ + k_ + 1).toNat = 1280 * c_.toNat + (k_.toNat + 1) by omega, w9_, y9_]
          · rw [if_neg (by omega), h290_ j9_]
            by_cases z9_ : i_.toNat ≤ j9_ ∧ j9_ < k_.toNat
            · rw [if_pos z9_, if_pos (by omega)]
            · rw [if_neg z9_, if_neg (by omega)]
        · intro j9_ w9_ hw9_
          have y9_ := h292_ j9_ w9_ hw9_
          by_cases z9_ : i_.toNat ≤ j9_ ∧ j9_ < k_.toNat
          · rw [if_pos z9_] at y9_; rw [if_pos (by omega)]; exact y9_
          · rw [if_neg z9_] at y9_; rw [if_neg (by omega)]; exact y9_
        · omega
    · rintro k_ j_ S_ hI_ hF_ ⟨h0_, h4_, hx9_, h290_, h292_, -⟩ hm_
      have T9_ : (k_ + 1).toNat = k_.toNat + 1 := by omega
      refine sm_T_go 2 (c1 := (55, [some (.inr (.inr (some (13, 0)))), some (.inl c_), some (.inl i_), some (.inl k_), some (.inl j_)], [.inl 20, .inl j_], S_)) rfl ?_
      refine sm_T_br (a := 3) (z := 47) rfl (fun cx1_ => ?_) (fun cx1_ => ?_)
      · have cx1_ : 20 ≤ j_ := of_decide_eq_true cx1_
        refine sm_T_inc (a := 3) (z := 1) (v := k_) (w := k_ + 1) rfl rfl (by omega) (by omega) (by omega) ?_ -- pc_ 102
        refine sm_T_go 1 (c1 := (12, [some (.inr (.inr (some (13, 0)))), some (.inl c_), some (.inl i_), some (.inl (k_ + 1)), some (.inl j_)], [], S_)) rfl ?_
        refine sm_T_wk [some (.inr (.inr (some (13, 0)))), some (.inl c_), some (.inl i_), some (.inl (k_ + 1)), none] (by exact ⟨rfl, rfl, rfl, rfl, trivial⟩) ?_
        refine ih_.1 (k_ + 1) S_ hI_ hF_ ⟨?_, ?_, ?_, ?_, ?_, trivial⟩ ?_
        · omega
        · exact h4_
        · exact hx9_
        · (rw [T9_]; exact h290_)
        · intro j9_ w9_ hw9_
          have y9_ := h292_ j9_ w9_ hw9_
          by_cases z9_ : i_.toNat ≤ j9_ ∧ (j9_ < k_.toNat ∨ (j9_ = k_.toNat ∧ (w9_ : Int) < j_))
          · rw [if_pos z9_] at y9_; rw [if_pos (by omega)]; exact y9_
          · rw [if_neg z9_] at y9_; rw [if_neg (by omega)]; exact y9_
        · omega
      · have cx1_ : ¬ (20 ≤ j_) := of_decide_eq_false cx1_
        refine sm_T_go 5 (c1 := (68, [some (.inr (.inr (some (13, 0)))), some (.inl c_), some (.inl i_), some (.inl k_), some (.inl j_)], [.inl c_, .inl 1280, .inl 20, .inr (.inr (some (292, 0)))], S_)) rfl ?_
        refine sm_T_bin (w := 1280 * c_) rfl (bi_mul (by omega) (by omega) (by omega)) ?_ -- pc_ 68
        refine sm_T_go 1 (c1 := (70, [some (.inr (.inr (some (13, 0)))), some (.inl c_), some (.inl i_), some (.inl k_), some (.inl j_)], [.inl k_, .inl (1280 * c_), .inl 20, .inr (.inr (some (292, 0)))], S_)) rfl ?_
        refine sm_T_bin (w := 1280 * c_ + k_) rfl (bi_add (by omega) (by omega) (by omega)) ?_ -- pc_ 70
        refine sm_T_bin (w := 25600 * c_ + 20 * k_) rfl (bi_mul (by omega) (by omega) (by omega)) ?_ -- pc_ 71
        refine sm_T_go 1 (c1 := (74, [some (.inr (.inr (some (13, 0)))), some (.inl c_), some (.inl i_), some (.inl k_), some (.inl j_)], [.inl j_, .inl (25600 * c_ + 20 * k_), .inr (.inr (some (292, 0)))], S_)) rfl ?_
        refine sm_T_bin (w := 25600 * c_ + 20 * k_ + j_) rfl (bi_add (by omega) (by omega) (by omega)) ?_ -- pc_ 74
        refine sm_T_go 5 (c1 := (85, [some (.inr (.inr (some (13, 0)))), some (.inl c_), some (.inl i_), some (.inl k_), some (.inl j_)], [.inl c_, .inl 1280, .inl 20, .inr (.inr (some (292, 0))), .inl (25600 * c_ + 20 * k_ + j_), .inr (.inr (some (292, 0)))], S_)) rfl ?_
        refine sm_T_bin (w := 1280 * c_) rfl (bi_mul (by omega) (by omega) (by omega)) ?_ -- pc_ 85
        refine sm_T_go 1 (c1 := (87, [some (.inr (.inr (some (13, 0)))), some (.inl c_), some (.inl i_), some (.inl k_), some (.inl j_)], [.inl k_, .inl (1280 * c_), .inl 20, .inr (.inr (some (292, 0))), .inl (25600 * c_ + 20 * k_ + j_), .inr (.inr (some (292, 0)))], S_)) rfl ?_
        refine sm_T_bin (w := 1280 * c_ + k_) rfl (bi_add (by omega) (by omega) (by omega)) ?_ -- pc_ 87
        refine sm_T_go 1 (c1 := (89, [some (.inr (.inr (some (13, 0)))), some (.inl c_), some (.inl i_), some (.inl k_), some (.inl j_)], [.inl 1, .inl (1280 * c_ + k_), .inl 20, .inr (.inr (some (292, 0))), .inl (25600 * c_ + 20 * k_ + j_), .inr (.inr (some (292, 0)))], S_)) rfl ?_
        refine sm_T_bin (w := 1280 * c_ + k_ + 1) rfl (bi_add (by omega) (by omega) (by omega)) ?_ -- pc_ 89
        refine sm_T_bin (w := 25600 * c_ + 20 * k_ + 20) rfl (bi_mul (by omega) (by omega) (by omega)) ?_ -- pc_ 90
        refine sm_T_go 1 (c1 := (93, [some (.inr (.inr (some (13, 0)))), some (.inl c_), some (.inl i_), some (.inl k_), some (.inl j_)], [.inl j_, .inl (25600 * c_ + 20 * k_ + 20), .inr (.inr (some (292, 0))), .inl (25600 * c_ + 20 * k_ + j_), .inr (.inr (some (292, 0)))], S_)) rfl ?_
        refine sm_T_bin (w := 25600 * c_ + 20 * k_ + j_ + 20) rfl (bi_add (by omega) (by omega) (by omega)) ?_ -- pc_ 93
        refine sm_T_lald (n := 102400) rfl rfl (by omega) (by omega) ?_
        refine sm_T_last (n := 102400) rfl rfl (by omega) (by omega) ?_
        have hIx2_ : gi (sm_aL S_ 292 0 (25600 * c_ + 20 * k_ + j_).toNat ((S_.2.2.2 292 0 (25600 * c_ + 20 * k_ + j_ + 20).toNat))) := gi_aL hI_
        have hFx3_ : ai_fr (sx_W vw_527n) S0_ (sm_aL S_ 292 0 (25600 * c_ + 20 * k_ + j_).toNat ((S_.2.2.2 292 0 (25600 * c_ + 20 * k_ + j_ + 20).toNat))) := ai_fr_tr hF_ (ai_fr_aL rfl)
        refine sm_T_inc (a := 4) (z := 1) (v := j_) (w := j_ + 1) rfl rfl (by omega) (by omega) (by omega) ?_ -- pc_ 96
        refine sm_T_go 1 (c1 := (51, [some (.inr (.inr (some (13, 0)))), some (.inl c_), some (.inl i_), some (.inl k_), some (.inl (j_ + 1))], [], sm_aL S_ 292 0 (25600 * c_ + 20 * k_ + j_).toNat ((S_.2.2.2 292 0 (25600 * c_ + 20 * k_ + j_ + 20).toNat)))) rfl ?_
        refine ih_.2 k_ (j_ + 1) (sm_aL S_ 292 0 (25600 * c_ + 20 * k_ + j_).toNat ((S_.2.2.2 292 0 (25600 * c_ + 20 * k_ + j_ + 20).toNat))) hIx2_ hFx3_ ⟨?_, ?_, ?_, ?_, ?_, trivial⟩ ?_
        · omega
        · exact h4_
        · (refine rsx_tr hx9_ (rsx_of (fun j9_ _ => rfl) (fun j9_ _ => rfl) (fun j9_ _ => rfl) (fun j9_ hj9_ => by (rw [rd_leq, if_neg (by omega)]))))
        · exact h290_
        · intro j9_ w9_ hw9_
          rw [rd_leq]
          by_cases y9_ : j9_ = k_.toNat ∧ (w9_ : Int) = j_
          · rw [if_pos (by omega), if_pos (by omega)]
            have u9_ := h292_ (k_.toNat + 1) w9_ hw9_
            rw [if_neg (by omega)] at u9_
            rw [show (25600 * c_ + 20 * k_ + j_ + 20).toNat = 20 * (1280 * c_.toNat + (k_.toNat + 1)) + w9_ by omega, u9_, y9_.1]
          · rw [if_neg (by omega), h292_ j9_ w9_ hw9_]
            by_cases z9_ : i_.toNat ≤ j9_ ∧ (j9_ < k_.toNat ∨ (j9_ = k_.toNat ∧ (w9_ : Int) < j_))
            · rw [if_pos z9_, if_pos (by omega)]
            · rw [if_neg z9_, if_neg (by omega)]
        · omega
set_option maxHeartbeats 400000 in
set_option maxRecDepth 20000 in
theorem vc_527n {sc_ : Nat × (Nat → Int)} (c_ : Int) (i_ : Int) (P_ : Nat → Nat → Bool) (L_ : List Nat) (S0_ : sm_S) (hI_ : gi S0_) (hc_ : 0 ≤ c_ ∧ c_ ≤ 3) (hi_ : 0 ≤ i_ ∧ i_ < S0_.2.2.1 289 0 c_.toNat) (hL_ : rlt9 c_ S0_ P_ L_) (he_ : fco c_ S0_ ≤ 1280) : sm_T (mt_P sc_) 0 527 (0, [some (.inr (.inr (some (13, 0)))), some (.inl c_), some (.inl i_), none, none], [], S0_) (fun ro9_ => ∃ u_ S1_, ro9_ = (.inl u_, S1_, 0) ∧ vq_527n c_ i_ P_ L_ S0_ u_ S1_) := by
  have hF_ : ai_fr (sx_W vw_527n) S0_ S0_ := ai_fr_rf
  have q1_ : (-1) ≤ S0_.2.2.1 289 0 c_.toNat ∧ S0_.2.2.1 289 0 c_.toNat ≤ 1224 := hI_.2 289 0 _
  refine sm_T_go 4 (c1 := (6, [some (.inr (.inr (some (13, 0)))), some (.inl c_), some (.inl i_), none, none], [.inl c_, .inr (.inr (some (289, 0))), .inl c_, .inr (.inr (some (289, 0)))], S0_)) rfl ?_
  refine sm_T_iald (n := 4) rfl rfl (by omega) (by omega) ?_
  have bx1_ : (-1) ≤ S0_.2.2.1 289 0 c_.toNat ∧ S0_.2.2.1 289 0 c_.toNat ≤ 1224 := hI_.2 289 0 _
  refine sm_T_go 1 (c1 := (8, [some (.inr (.inr (some (13, 0)))), some (.inl c_), some (.inl i_), none, none], [.inl 1, .inl (S0_.2.2.1 289 0 c_.toNat), .inl c_, .inr (.inr (some (289, 0)))], S0_)) rfl ?_
  refine sm_T_bin (w := (S0_.2.2.1 289 0 c_.toNat) - 1) rfl (bi_sub (by omega) (by omega) (by omega)) ?_ -- pc_ 8
  refine sm_T_iast (n := 4) rfl rfl (by omega) (by omega) ?_
  have hIx2_ : gi (sm_aI S0_ 289 0 c_.toNat ((S0_.2.2.1 289 0 c_.toNat) - 1)) := gi_aI hI_ (show (-1) ≤ (S0_.2.2.1 289 0 c_.toNat) - 1 ∧ (S0_.2.2.1 289 0 c_.toNat) - 1 ≤ 1224 from ⟨by omega, by omega⟩)
  have hFx3_ : ai_fr (sx_W vw_527n) S0_ (sm_aI S0_ 289 0 c_.toNat ((S0_.2.2.1 289 0 c_.toNat) - 1)) := ai_fr_tr hF_ (ai_fr_aI rfl)
  refine sm_T_go 2 (c1 := (12, [some (.inr (.inr (some (13, 0)))), some (.inl c_), some (.inl i_), some (.inl i_), none], [], sm_aI S0_ 289 0 c_.toNat ((S0_.2.2.1 289 0 c_.toNat) - 1))) rfl ?_
  refine (vl_527n c_ i_ P_ L_ S0_ hc_ hi_ hL_ he_ _).1 i_ (sm_aI S0_ 289 0 c_.toNat ((S0_.2.2.1 289 0 c_.toNat) - 1)) hIx2_ hFx3_ ⟨?_, ?_, ?_, ?_, ?_, trivial⟩ (Nat.lt_succ_self _)
  · omega
  · (rw [rd_eq, if_pos rfl])
  · exact rsx_of (fun j9_ hj9_ => by (rw [rd_eq, if_neg hj9_])) (fun j9_ _ => rfl) (fun j9_ _ => rfl) (fun j9_ _ => rfl)
  · (intro j9_; rw [if_neg (by omega)]; rfl)
  · (intro j9_ w9_ hw9_; rw [if_neg (by omega)]; rfl)
