/-! 99.ztZ2 -/
section
/-! the class: machines compared, with what comes out; written by wip/p55/gen/vg -/

/-! the_ class's queue of_ pairs -/
/-- a_ pair is_ d_ steps behind the_ first -/
def chn (u_ : Nat → Int) : Nat → Int → Prop
  | 0, c_ => u_ c_.toNat = -1
  | d_ + 1, c_ => 0 ≤ u_ c_.toNat ∧ chn u_ d_ (u_ c_.toNat)
theorem chn_2 {u_ : Nat → Int} {c_ : Int} : ∀ {d_ : Nat}, chn u_ d_ c_ → u_ c_.toNat ≠ -2
  | 0, h_ => by
    have h_ : u_ c_.toNat = -1 := h_
    omega
  | d_ + 1, h_ => by
    have h_ := h_.1
    omega
theorem chn_up {u_ u'_ : Nat → Int} {N_ : Nat} {p_ : Int} (hu_ : ∀ j_, u'_ j_ = if j_ = N_ then p_ else u_ j_) (hN_ : u_ N_ = -2) : ∀ (d_ : Nat) (c_ : Int), chn u_ d_ c_ → chn u'_ d_ c_
  | 0, c_, h_ => by
    have h_ : u_ c_.toNat = -1 := h_
    show u'_ c_.toNat = -1
    rw [hu_, if_neg (fun z_ => by rw [z_, hN_] at h_; omega)]
    exact h_
  | d_ + 1, c_, h_ => by
    have e_ : u'_ c_.toNat = u_ c_.toNat := by
      rw [hu_, if_neg (fun z_ => by have w_ := h_.1; rw [z_, hN_] at w_; omega)]
    show 0 ≤ u'_ c_.toNat ∧ chn u'_ d_ (u'_ c_.toNat)
    rw [e_]
    exact ⟨h_.1, chn_up hu_ hN_ d_ _ h_.2⟩
def cmD (T_ U_ : Nat → Int) (mk_ : Int) (p_ q_ : Nat) : Prop := i_and (i_xor (T_ p_) (U_ q_)) mk_ ≠ 0
def nx6 (T_ : Nat → Int) (p_ : Nat) : Int := T_ p_ / 65536
def cen (R1_ R2_ : Nat) (Q_ : List (Nat × Nat × Nat)) (tl_ : Int) (u_ q_ : Nat → Int) : Prop := tl_ = (Q_.length : Int) ∧ (∀ j_ a_ b_ d_ : Nat, Q_[j_]? = some (a_, b_, d_) → (a_ < 2 ^ R1_ ∧ b_ < 2 ^ R2_) ∧ q_ j_ = 64 * (a_ : Int) + b_ ∧ chn u_ d_ (64 * (a_ : Int) + b_) ∧ d_ ≤ j_) ∧ ∀ c_, c_ < 4096 → u_ c_ ≠ -2 → ∃ j_ d_ : Nat, Q_[j_]? = some (c_ / 64, c_ % 64, d_)
def ccq (I_ R1_ R2_ : Nat) (D_ : Nat → Nat → Prop) (nA_ nB_ : Nat → Int) (bA_ bB_ k_ i_ : Nat) (tl_ : Int) (u_ q_ : Nat → Int) : Prop := ∃ Q_, bfqs I_ D_ nA_ nB_ bA_ bB_ k_ i_ Q_ ∧ cen R1_ R2_ Q_ tl_ u_ q_
theorem ccq_0 {I_ R1_ R2_ : Nat} {D_ : Nat → Nat → Prop} {nA_ nB_ : Nat → Int} {bA_ bB_ : Nat} {u_ q_ : Nat → Int} {f_ : Int} (hb_ : bA_ < 2 ^ R1_ ∧ bB_ < 2 ^ R2_) (h64_ : bA_ < 64 ∧ bB_ < 64) (hf_ : f_ = 64 * (bA_ : Int) + bB_) (hu_ : ∀ j_, j_ < 4096 → u_ j_ = if j_ = f_.toNat then (-1) else (-2)) (hq_ : q_ 0 = f_) : ccq I_ R1_ R2_ D_ nA_ nB_ bA_ bB_ 0 0 1 u_ q_ := by
  refine ⟨[(bA_, bB_, 0)], bfqs_0, rfl, fun j_ a_ b_ d_ h_ => ?_, fun c_ hc_ h_ => ?_⟩
  · have l_ := (List.getElem?_eq_some_iff.mp h_).1
    have l_ : j_ < 1 := l_
    have m_ := List.mem_singleton.mp (List.mem_of_getElem? h_)
    cases m_
    refine ⟨hb_, by rw [show j_ = 0 by omega, hq_, hf_], ?_, by omega⟩
    show u_ (64 * (bA_ : Int) + bB_).toNat = -1
    rw [hu_ _ (by omega), if_pos (by omega)]
  · have e_ : c_ = f_.toNat := by
      by_cases z_ : c_ = f_.toNat
      · exact z_
      · rw [hu_ c_ hc_, if_neg z_] at h_
        exact absurd rfl h_
    refine ⟨0, 0, ?_⟩
    rw [show c_ / 64 = bA_ by omega, show c_ % 64 = bB_ by omega]
    rfl
theorem ccq_n {I_ R1_ R2_ : Nat} {D_ : Nat → Nat → Prop} {nA_ nB_ : Nat → Int} {bA_ bB_ k_ i_ : Nat} {tl_ : Int} {u_ q_ : Nat → Int} (h_ : ccq I_ R1_ R2_ D_ nA_ nB_ bA_ bB_ k_ i_ tl_ u_ q_) (e_ : i_ = 2 ^ I_) : ccq I_ R1_ R2_ D_ nA_ nB_ bA_ bB_ (k_ + 1) 0 tl_ u_ q_ := by
  obtain ⟨Q_, a_, b_⟩ := h_
  rw [e_] at a_
  exact ⟨Q_, bfqs_n a_, b_⟩
section CC_
variable {I_ R1_ R2_ : Nat} {D_ : Nat → Nat → Prop} {nA_ nB_ : Nat → Int} {bA_ bB_ k_ i_ : Nat} {tl_ pr_ x_ y_ : Int} {u_ q_ u'_ q'_ : Nat → Int}
/-- the_ pair at hand -/
theorem ccq_g (h_ : ccq I_ R1_ R2_ D_ nA_ nB_ bA_ bB_ k_ i_ tl_ u_ q_) (h6_ : R1_ ≤ 6 ∧ R2_ ≤ 6) (hk_ : (k_ : Int) < tl_) (hp_ : q_ k_ = pr_) : ∃ Q_ d_, bfqs I_ D_ nA_ nB_ bA_ bB_ k_ i_ Q_ ∧ cen R1_ R2_ Q_ tl_ u_ q_ ∧ Q_[k_]? = some ((pr_ / 64).toNat, (pr_ % 64).toNat, d_) ∧ chn u_ d_ pr_ ∧ d_ ≤ k_ ∧ 0 ≤ pr_ := by
  obtain ⟨Q_, s_, e1_, e2_, e3_⟩ := h_
  obtain ⟨⟨a_, b_, d_⟩, hx_⟩ : ∃ x_, Q_[k_]? = some x_ := ⟨_, List.getElem?_eq_getElem (by omega)⟩
  obtain ⟨⟨a1_, a2_⟩, a3_, a4_, a5_⟩ := e2_ k_ a_ b_ d_ hx_
  have w_ : 2 ^ R2_ ≤ 2 ^ 6 := Nat.pow_le_pow_right (by decide) h6_.2
  have w_ : 2 ^ R2_ ≤ 64 := w_
  rw [hp_] at a3_
  refine ⟨Q_, d_, s_, ⟨e1_, e2_, e3_⟩, ?_, by rw [a3_]; exact a4_, a5_, by omega⟩
  rw [show (pr_ / 64).toNat = a_ by omega, show (pr_ % 64).toNat = b_ by omega]
  exact hx_
theorem ccq_o (h_ : ccq I_ R1_ R2_ D_ nA_ nB_ bA_ bB_ k_ i_ tl_ u_ q_) (h6_ : R1_ ≤ 6 ∧ R2_ ≤ 6) (hk_ : (k_ : Int) < tl_) (hp_ : q_ k_ = pr_) (hi_ : i_ < 2 ^ I_) (nd_ : ¬ D_ ((pr_ / 64).toNat * 2 ^ I_ + i_) ((pr_ % 64).toNat * 2 ^ I_ + i_)) (hx_ : x_ = nA_ ((pr_ / 64).toNat * 2 ^ I_ + i_)) (hy_ : y_ = nB_ ((pr_ % 64).toNat * 2 ^ I_ + i_)) (bx_ : 0 ≤ x_ ∧ x_ < 64) (by9_ : 0 ≤ y_ ∧ y_ < 64) (hs_ : u_ (64 * x_ + y_).toNat ≠ -2) : ccq I_ R1_ R2_ D_ nA_ nB_ bA_ bB_ k_ (i_ + 1) tl_ u_ q_ := by
  obtain ⟨Q_, d_, s_, e_, hz_, -, -, -⟩ := ccq_g h_ h6_ hk_ hp_
  refine ⟨Q_, bfqs_o s_ hi_ hz_ nd_ ?_, e_⟩
  rw [← hx_, ← hy_]
  obtain ⟨j_, d'_, w_⟩ := e_.2.2 (64 * x_ + y_).toNat (by omega) hs_
  rw [show (64 * x_ + y_).toNat / 64 = x_.toNat by omega, show (64 * x_ + y_).toNat % 64 = y_.toNat by omega] at w_
  exact ⟨j_, d'_, w_⟩
theorem ccq_a (h_ : ccq I_ R1_ R2_ D_ nA_ nB_ bA_ bB_ k_ i_ tl_ u_ q_) (h6_ : R1_ ≤ 6 ∧ R2_ ≤ 6) (hk_ : (k_ : Int) < tl_) (hp_ : q_ k_ = pr_) (hi_ : i_ < 2 ^ I_) (nd_ : ¬ D_ ((pr_ / 64).toNat * 2 ^ I_ + i_) ((pr_ % 64).toNat * 2 ^ I_ + i_)) (hx_ : x_ = nA_ ((pr_ / 64).toNat * 2 ^ I_ + i_)) (hy_ : y_ = nB_ ((pr_ % 64).toNat * 2 ^ I_ + i_)) (bx_ : 0 ≤ x_ ∧ x_ < 2 ^ R1_) (by9_ : 0 ≤ y_ ∧ y_ < 2 ^ R2_) (hs_ : u_ (64 * x_ + y_).toNat = -2) (hu_ : ∀ j_, u'_ j_ = if j_ = (64 * x_ + y_).toNat then pr_ else u_ j_) (hq_ : ∀ j_, q'_ j_ = if j_ = tl_.toNat then 64 * x_ + y_ else q_ j_) : ccq I_ R1_ R2_ D_ nA_ nB_ bA_ bB_ k_ (i_ + 1) (tl_ + 1) u'_ q'_ := by
  obtain ⟨Q_, d_, s_, ⟨e1_, e2_, e3_⟩, hz_, ch_, dk_, p0_⟩ := ccq_g h_ h6_ hk_ hp_
  have tx_ := pw_tn bx_.1 bx_.2
  have ty_ := pw_tn by9_.1 by9_.2
  have w1_ : 2 ^ R1_ ≤ 2 ^ 6 := Nat.pow_le_pow_right (by decide) h6_.1
  have w2_ : 2 ^ R2_ ≤ 2 ^ 6 := Nat.pow_le_pow_right (by decide) h6_.2
  have w1_ : 2 ^ R1_ ≤ 64 := w1_
  have w2_ : 2 ^ R2_ ≤ 64 := w2_
  have up_ := chn_up hu_ hs_
  have lk_ := (List.getElem?_eq_some_iff.mp hz_).1
  have b_ := bfqs_a s_ hi_ hz_ nd_ (by
    rw [← hx_, ← hy_]
    rintro ⟨j_, d'_, w_⟩
    have z_ := chn_2 (e2_ j_ _ _ _ w_).2.2.1
    rw [show (64 * (x_.toNat : Int) + y_.toNat) = 64 * x_ + y_ by omega] at z_
    exact z_ hs_)
  rw [← hx_, ← hy_] at b_
  refine ⟨_, b_, ?_, fun j_ a9_ b9_ d9_ w_ => ?_, fun c_ hc_ w_ => ?_⟩
  · rw [List.length_append, List.length_singleton]
    omega
  · by_cases c_ : j_ < Q_.length
    · rw [List.getElem?_append_left c_] at w_
      obtain ⟨a1_, a2_, a3_, a4_⟩ := e2_ j_ a9_ b9_ d9_ w_
      refine ⟨a1_, ?_, up_ _ _ a3_, a4_⟩
      rw [hq_, if_neg (by omega)]
      exact a2_
    · rw [List.getElem?_append_right (by omega)] at w_
      have l_ := (List.getElem?_eq_some_iff.mp w_).1
      have l_ : j_ - Q_.length < 1 := l_
      have m_ := List.mem_singleton.mp (List.mem_of_getElem? w_)
      cases m_
      refine ⟨⟨tx_, ty_⟩, ?_, ?_, by omega⟩
      · rw [hq_, if_pos (by omega)]
        omega
      · rw [show (64 * (x_.toNat : Int) + y_.toNat) = 64 * x_ + y_ by omega]
        show 0 ≤ u'_ (64 * x_ + y_).toNat ∧ chn u'_ d_ (u'_ (64 * x_ + y_).toNat)
        rw [hu_, if_pos rfl]
        exact ⟨p0_, up_ _ _ ch_⟩
  · by_cases z_ : c_ = (64 * x_ + y_).toNat
    · refine ⟨Q_.length, d_ + 1, ?_⟩
      rw [List.getElem?_append_right (Nat.le_refl _), Nat.sub_self, show c_ / 64 = x_.toNat by omega, show c_ % 64 = y_.toNat by omega]
      rfl
    · rw [hu_, if_neg z_] at w_
      obtain ⟨j_, d'_, v_⟩ := e3_ c_ hc_ w_
      refine ⟨j_, d'_, ?_⟩
      rw [List.getElem?_append_left (List.getElem?_eq_some_iff.mp v_).1]
      exact v_
theorem ccq_d (h_ : ccq I_ R1_ R2_ D_ nA_ nB_ bA_ bB_ k_ i_ tl_ u_ q_) (h6_ : R1_ ≤ 6 ∧ R2_ ≤ 6) (hk_ : (k_ : Int) < tl_) (ht_ : tl_ ≤ 4096) (hp_ : q_ k_ = pr_) (hi_ : i_ < 2 ^ I_) (df_ : D_ ((pr_ / 64).toNat * 2 ^ I_ + i_) ((pr_ % 64).toNat * 2 ^ I_ + i_)) : ∃ d_ : Nat, chn u_ d_ pr_ ∧ d_ ≤ 4095 ∧ bfsp I_ D_ nA_ nB_ bA_ bB_ ((d_ : Int) + 1) := by
  obtain ⟨Q_, d_, s_, e_, hz_, ch_, dk_, -⟩ := ccq_g h_ h6_ hk_ hp_
  exact ⟨d_, ch_, by omega, bfqs_d s_ hi_ hz_ df_⟩
theorem ccq_e (h_ : ccq I_ R1_ R2_ D_ nA_ nB_ bA_ bB_ k_ 0 tl_ u_ q_) (hk_ : tl_ ≤ (k_ : Int)) : bfsp I_ D_ nA_ nB_ bA_ bB_ 0 := by
  obtain ⟨Q_, s_, e1_, -⟩ := h_
  exact bfqs_e s_ (by omega)
end CC_

/-! ChipFlow.keepWitness -/
def vw_277w : sx_Wl := ([(12, 16)], [117], [])
def vq_277w (lp_ : Int) (li_ : Int) (d_ : Nat) (S0_ : sm_S) (u_ : Option sm_V) (S1_ : sm_S) : Prop := u_ = none ∧ gi S1_ ∧ ai_fr (sx_W vw_277w) S0_ S1_ ∧ (S1_.1 12 0 16 = (d_ : Int) + 1)
set_option maxHeartbeats 400000 in
theorem vl_277w {sc_ : Nat × (Nat → Int)} (lp_ : Int) (li_ : Int) (d_ : Nat) (S0_ : sm_S) (hch_ : chn (S0_.2.2.1 113 0) d_ lp_ ∧ d_ ≤ 4095) (hp_ : prf S0_) (h1_ : 0 ≤ lp_ ∧ lp_ ≤ 4095) (h2_ : 0 ≤ li_ ∧ li_ ≤ 4095) (h3_ : S0_.2.2.1 113 0 lp_.toNat ≠ -2) : ∀ nn_ : Nat, (∀ (ck_ : Int) (pr_ : Int) (S_ : sm_S), gi S_ → ai_fr (sx_W vw_277w) S0_ S_ → ((chn (S0_.2.2.1 113 0) (d_ - (ck_ - 1).toNat) pr_ ∧ ck_ - 1 ≤ (d_ : Int)) ∧ (1 ≤ ck_ ∧ ck_ ≤ 4096 ∧ 0 ≤ pr_ ∧ pr_ ≤ 4095) ∧ (S0_.2.2.1 113 0 pr_.toNat ≠ -2) ∧ (pr_ = pit S0_ lp_ (ck_ - 1).toNat) ∧ (∀ i9_ : Nat, (i9_ : Int) < ck_ → 0 ≤ pit S0_ lp_ i9_ ∧ pit S0_ lp_ i9_ ≤ 4095) ∧ True) → ((9000 - ck_).toNat) < nn_ → sm_T (mt_P sc_) 0 277 (5, [some (.inr (.inr (some (12, 0)))), some (.inl lp_), some (.inl li_), some (.inl ck_), some (.inl pr_), none], [], S_) (fun ro9_ => ∃ u_ S1_, ro9_ = (.inl u_, S1_, 0) ∧ vq_277w lp_ li_ d_ S0_ u_ S1_)) ∧ (∀ (ck_ : Int) (pr_ : Int) (kx_ : Int) (S_ : sm_S), gi S_ → ai_fr (sx_W vw_277w) S0_ S_ → ((1 ≤ ck_ ∧ ck_ ≤ 4096 ∧ -1 ≤ kx_ ∧ kx_ ≤ ck_ - 2 ∧ (S_.1 12 0 16) = (d_ : Int) + 1) ∧ (pr_ = pit S0_ lp_ (ck_ - 2 - kx_).toNat) ∧ (∀ i9_ : Nat, (i9_ : Int) < ck_ → 0 ≤ pit S0_ lp_ i9_ ∧ pit S0_ lp_ i9_ ≤ 4095) ∧ True) → ((kx_ + 2).toNat) < nn_ → sm_T (mt_P sc_) 0 277 (60, [some (.inr (.inr (some (12, 0)))), some (.inl lp_), some (.inl li_), some (.inl ck_), some (.inl pr_), some (.inl kx_)], [], S_) (fun ro9_ => ∃ u_ S1_, ro9_ = (.inl u_, S1_, 0) ∧ vq_277w lp_ li_ d_ S0_ u_ S1_)) := by
  intro nn_
  induction nn_ with
  | zero => exact ⟨fun _ _ _ _ _ _ h_ => absurd h_ (Nat.not_lt_zero _), fun _ _ _ _ _ _ _ h_ => absurd h_ (Nat.not_lt_zero _)⟩
  | succ nn_ ih_ =>
    refine ⟨?_, ?_⟩
    · rintro ck_ pr_ S_ hI_ hF_ ⟨hcd_, h0_, ha_, hb_, hc_, -⟩ hm_
      have f113_ : S_.2.2.1 113 0 = S0_.2.2.1 113 0 := fr_arr hF_ rfl
      refine sm_T_go 3 (c1 := (11, [some (.inr (.inr (some (12, 0)))), some (.inl lp_), some (.inl li_), some (.inl ck_), some (.inl pr_), none], [.inl pr_, .inr (.inr (some (113, 0)))], S_)) rfl ?_
      refine sm_T_iald (n := 4096) rfl rfl (by omega) (by omega) ?_
      have bx1_ : (-2) ≤ S_.2.2.1 113 0 pr_.toNat ∧ S_.2.2.1 113 0 pr_.toNat ≤ 4095 := hI_.2 113 0 _
      refine sm_T_go 1 (c1 := (13, [some (.inr (.inr (some (12, 0)))), some (.inl lp_), some (.inl li_), some (.inl ck_), some (.inl pr_), none], [.inl (-1), .inl (S_.2.2.1 113 0 pr_.toNat)], S_)) rfl ?_
      refine sm_T_br (a := 0) (z := 25) rfl (fun cx2_ => ?_) (fun cx2_ => ?_)
      · have cx2_ : (S_.2.2.1 113 0 pr_.toNat) = (-1) := of_decide_eq_true cx2_
        have hIx3_ : gi (sm_pI S_ 12 0 16 ck_) := gi_pI hI_ (show 0 ≤ ck_ ∧ ck_ ≤ 4096 from ⟨by omega, by omega⟩)
        have hFx4_ : ai_fr (sx_W vw_277w) S0_ (sm_pI S_ 12 0 16 ck_) := ai_fr_tr hF_ (ai_fr_pI rfl)
        refine sm_T_go 7 (c1 := (49, [some (.inr (.inr (some (12, 0)))), some (.inl lp_), some (.inl li_), some (.inl ck_), some (.inl pr_), none], [.inl 1, .inl ck_, .inr (.inr (some (117, 0)))], sm_pI S_ 12 0 16 ck_)) rfl ?_
        refine sm_T_bin (w := ck_ - 1) rfl (bi_sub (by omega) (by omega) (by omega)) ?_ -- pc_ 49
        refine sm_T_go 1 (c1 := (51, [some (.inr (.inr (some (12, 0)))), some (.inl lp_), some (.inl li_), some (.inl ck_), some (.inl pr_), none], [.inl li_, .inl (ck_ - 1), .inr (.inr (some (117, 0)))], sm_pI S_ 12 0 16 ck_)) rfl ?_
        refine sm_T_iast (n := 4096) rfl rfl (by omega) (by omega) ?_
        have hIx5_ : gi (sm_aI (sm_pI S_ 12 0 16 ck_) 117 0 (ck_ - 1).toNat li_) := gi_aI hIx3_ (show 0 ≤ li_ ∧ li_ ≤ 4095 from ⟨by omega, by omega⟩)
        have hFx6_ : ai_fr (sx_W vw_277w) S0_ (sm_aI (sm_pI S_ 12 0 16 ck_) 117 0 (ck_ - 1).toNat li_) := ai_fr_tr hFx4_ (ai_fr_aI rfl)
        refine sm_T_go 4 (c1 := (57, [some (.inr (.inr (some (12, 0)))), some (.inl lp_), some (.inl li_), some (.inl ck_), some (.inl lp_), none], [.inl 2, .inl ck_], sm_aI (sm_pI S_ 12 0 16 ck_) 117 0 (ck_ - 1).toNat li_)) rfl ?_
        refine sm_T_bin (w := ck_ - 2) rfl (bi_sub (by omega) (by omega) (by omega)) ?_ -- pc_ 57
        refine sm_T_go 1 (c1 := (60, [some (.inr (.inr (some (12, 0)))), some (.inl lp_), some (.inl li_), some (.inl ck_), some (.inl lp_), some (.inl (ck_ - 2))], [], sm_aI (sm_pI S_ 12 0 16 ck_) 117 0 (ck_ - 1).toNat li_)) rfl ?_
        refine ih_.2 ck_ lp_ (ck_ - 2) (sm_aI (sm_pI S_ 12 0 16 ck_) 117 0 (ck_ - 1).toNat li_) hIx5_ hFx6_ ⟨?_, ?_, ?_, trivial⟩ ?_
        · have cq9_ : ck_ = (d_ : Int) + 1 := by (first | omega | (have z9_ : d_ - (ck_ - 1).toNat = 0 := (by (by_cases z8_ : d_ - (ck_ - 1).toNat = 0; exact z8_; (exfalso; obtain ⟨g9_, hg9_⟩ : ∃ g9_, d_ - (ck_ - 1).toNat = g9_ + 1 := ⟨d_ - (ck_ - 1).toNat - 1, by omega⟩; have y9_ := hcd_.1; rw [hg9_] at y9_; have y8_ := y9_.1; rw [← f113_] at y8_; omega))); omega))
          (simp only [rf_eq, rd_fa, rd_af]; omega)
        · (rw [show (ck_ - 2 - (ck_ - 2)).toNat = 0 by omega]; rfl)
        · exact hc_
        · omega
      · have cx2_ : ¬ ((S_.2.2.1 113 0 pr_.toNat) = (-1)) := of_decide_eq_false cx2_
        have pq9_ := hp_ pr_.toNat (by omega) ha_
        rw [f113_] at cx2_
        have pz9_ : 0 ≤ S0_.2.2.1 113 0 pr_.toNat ∧ S0_.2.2.1 113 0 pr_.toNat ≤ 4095 := ⟨by rcases pq9_ with z_ | z_; exact absurd z_ cx2_; exact z_.1, by have w_ := (hI_.2 113 0 pr_.toNat).2; rw [f113_] at w_; exact w_⟩
        refine sm_T_go 2 (c1 := (20, [some (.inr (.inr (some (12, 0)))), some (.inl lp_), some (.inl li_), some (.inl ck_), some (.inl pr_), none], [.inl 4096, .inl ck_], S_)) rfl ?_
        refine sm_T_br (a := 3) (z := 18) rfl (fun cx7_ => ?_) (fun cx7_ => ?_)
        · have cx7_ : 4096 ≤ ck_ := of_decide_eq_true cx7_
          have hIx8_ : gi (sm_pI S_ 12 0 16 ck_) := gi_pI hI_ (show 0 ≤ ck_ ∧ ck_ ≤ 4096 from ⟨by omega, by omega⟩)
          have hFx9_ : ai_fr (sx_W vw_277w) S0_ (sm_pI S_ 12 0 16 ck_) := ai_fr_tr hF_ (ai_fr_pI rfl)
          refine sm_T_go 7 (c1 := (49, [some (.inr (.inr (some (12, 0)))), some (.inl lp_), some (.inl li_), some (.inl ck_), some (.inl pr_), none], [.inl 1, .inl ck_, .inr (.inr (some (117, 0)))], sm_pI S_ 12 0 16 ck_)) rfl ?_
          refine sm_T_bin (w := ck_ - 1) rfl (bi_sub (by omega) (by omega) (by omega)) ?_ -- pc_ 49
          refine sm_T_go 1 (c1 := (51, [some (.inr (.inr (some (12, 0)))), some (.inl lp_), some (.inl li_), some (.inl ck_), some (.inl pr_), none], [.inl li_, .inl (ck_ - 1), .inr (.inr (some (117, 0)))], sm_pI S_ 12 0 16 ck_)) rfl ?_
          refine sm_T_iast (n := 4096) rfl rfl (by omega) (by omega) ?_
          have hIx10_ : gi (sm_aI (sm_pI S_ 12 0 16 ck_) 117 0 (ck_ - 1).toNat li_) := gi_aI hIx8_ (show 0 ≤ li_ ∧ li_ ≤ 4095 from ⟨by omega, by omega⟩)
          have hFx11_ : ai_fr (sx_W vw_277w) S0_ (sm_aI (sm_pI S_ 12 0 16 ck_) 117 0 (ck_ - 1).toNat li_) := ai_fr_tr hFx9_ (ai_fr_aI rfl)
          refine sm_T_go 4 (c1 := (57, [some (.inr (.inr (some (12, 0)))), some (.inl lp_), some (.inl li_), some (.inl ck_), some (.inl lp_), none], [.inl 2, .inl ck_], sm_aI (sm_pI S_ 12 0 16 ck_) 117 0 (ck_ - 1).toNat li_)) rfl ?_
          refine sm_T_bin (w := ck_ - 2) rfl (bi_sub (by omega) (by omega) (by omega)) ?_ -- pc_ 57
          refine sm_T_go 1 (c1 := (60, [some (.inr (.inr (some (12, 0)))), some (.inl lp_), some (.inl li_), some (.inl ck_), some (.inl lp_), some (.inl (ck_ - 2))], [], sm_aI (sm_pI S_ 12 0 16 ck_) 117 0 (ck_ - 1).toNat li_)) rfl ?_
          refine ih_.2 ck_ lp_ (ck_ - 2) (sm_aI (sm_pI S_ 12 0 16 ck_) 117 0 (ck_ - 1).toNat li_) hIx10_ hFx11_ ⟨?_, ?_, ?_, trivial⟩ ?_
          · have cq9_ : ck_ = (d_ : Int) + 1 := by (first | omega | (have z9_ : d_ - (ck_ - 1).toNat = 0 := (by (by_cases z8_ : d_ - (ck_ - 1).toNat = 0; exact z8_; (exfalso; obtain ⟨g9_, hg9_⟩ : ∃ g9_, d_ - (ck_ - 1).toNat = g9_ + 1 := ⟨d_ - (ck_ - 1).toNat - 1, by omega⟩; have y9_ := hcd_.1; rw [hg9_] at y9_; have y8_ := y9_.1; rw [← f113_] at y8_; omega))); omega))
            (simp only [rf_eq, rd_fa, rd_af]; omega)
          · (rw [show (ck_ - 2 - (ck_ - 2)).toNat = 0 by omega]; rfl)
          · exact hc_
          · omega
        · have cx7_ : ¬ (4096 ≤ ck_) := of_decide_eq_false cx7_
          refine sm_T_inc (a := 3) (z := 1) (v := ck_) (w := ck_ + 1) rfl rfl (by omega) (by omega) (by omega) ?_ -- pc_ 23
          refine sm_T_go 3 (c1 := (32, [some (.inr (.inr (some (12, 0)))), some (.inl lp_), some (.inl li_), some (.inl (ck_ + 1)), some (.inl pr_), none], [.inl pr_, .inr (.inr (some (113, 0)))], S_)) rfl ?_
          refine sm_T_iald (n := 4096) rfl rfl (by omega) (by omega) ?_
          refine sm_T_go 2 (c1 := (5, [some (.inr (.inr (some (12, 0)))), some (.inl lp_), some (.inl li_), some (.inl (ck_ + 1)), some (.inl (S_.2.2.1 113 0 pr_.toNat)), none], [], S_)) rfl ?_
          refine ih_.1 (ck_ + 1) (S_.2.2.1 113 0 pr_.toNat) S_ hI_ hF_ ⟨?_, ?_, ?_, ?_, ?_, trivial⟩ ?_
          · have ne9_ : S0_.2.2.1 113 0 pr_.toNat ≠ -1 := by omega
            have e9_ : d_ - (ck_ - 1).toNat ≠ 0 := fun z9_ => by (have y9_ := hcd_.1; rw [z9_] at y9_; exact ne9_ y9_)
            obtain ⟨g9_, hg9_⟩ : ∃ g9_, d_ - (ck_ - 1).toNat = g9_ + 1 := ⟨d_ - (ck_ - 1).toNat - 1, by omega⟩
            have y9_ := hcd_.1
            rw [hg9_] at y9_
            rw [f113_, show d_ - (ck_ + 1 - 1).toNat = g9_ by omega]
            exact ⟨y9_.2, by omega⟩
          · (rw [f113_]; omega)
          · (rw [f113_]; rcases pq9_ with z_ | z_; (exfalso; omega); exact z_.2)
          · (rw [f113_, show (ck_ + 1 - 1).toNat = (ck_ - 1).toNat + 1 by omega]; show _ = S0_.2.2.1 113 0 (pit S0_ lp_ (ck_ - 1).toNat).toNat; rw [← hb_])
          · intro i9_ hi9_
            by_cases z_ : (i9_ : Int) < ck_
            · exact hc_ i9_ z_
            · rw [show i9_ = (ck_ - 1).toNat + 1 by omega]
              show 0 ≤ S0_.2.2.1 113 0 (pit S0_ lp_ (ck_ - 1).toNat).toNat ∧ S0_.2.2.1 113 0 (pit S0_ lp_ (ck_ - 1).toNat).toNat ≤ 4095
              rw [← hb_]
              exact pz9_
          · omega
    · rintro ck_ pr_ kx_ S_ hI_ hF_ ⟨h0_, hb_, hc_, -⟩ hm_
      have f113_ : S_.2.2.1 113 0 = S0_.2.2.1 113 0 := fr_arr hF_ rfl
      have hq9_ := hc_ (ck_ - 2 - kx_).toNat (by omega)
      rw [← hb_] at hq9_
      refine sm_T_go 1 (c1 := (62, [some (.inr (.inr (some (12, 0)))), some (.inl lp_), some (.inl li_), some (.inl ck_), some (.inl pr_), some (.inl kx_)], [.inl kx_], S_)) rfl ?_
      refine sm_T_b0 (a := 2) (z := 32) rfl (fun cx1_ => ?_) (fun cx1_ => ?_)
      · have cx1_ : kx_ < 0 := of_decide_eq_true cx1_
        refine sm_T_rv rfl ⟨_, _, rfl, rfl, hI_, hF_, ?_⟩
        omega
      · have cx1_ : ¬ (kx_ < 0) := of_decide_eq_false cx1_
        have f2_ : S_.2.2.1 113 0 pr_.toNat = S0_.2.2.1 113 0 pr_.toNat := by rw [f113_]
        refine sm_T_go 6 (c1 := (77, [some (.inr (.inr (some (12, 0)))), some (.inl lp_), some (.inl li_), some (.inl ck_), some (.inl pr_), some (.inl kx_)], [.inl pr_, .inr (.inr (some (114, 0))), .inl kx_, .inr (.inr (some (117, 0)))], S_)) rfl ?_
        refine sm_T_iald (n := 4096) rfl rfl (by omega) (by omega) ?_
        have bx2_ : 0 ≤ S_.2.2.1 114 0 pr_.toNat ∧ S_.2.2.1 114 0 pr_.toNat ≤ 4095 := hI_.2 114 0 _
        refine sm_T_iast (n := 4096) rfl rfl (by omega) (by omega) ?_
        have hIx3_ : gi (sm_aI S_ 117 0 kx_.toNat (S_.2.2.1 114 0 pr_.toNat)) := gi_aI hI_ (show 0 ≤ (S_.2.2.1 114 0 pr_.toNat) ∧ (S_.2.2.1 114 0 pr_.toNat) ≤ 4095 from ⟨by omega, by omega⟩)
        have hFx4_ : ai_fr (sx_W vw_277w) S0_ (sm_aI S_ 117 0 kx_.toNat (S_.2.2.1 114 0 pr_.toNat)) := ai_fr_tr hF_ (ai_fr_aI rfl)
        refine sm_T_go 3 (c1 := (85, [some (.inr (.inr (some (12, 0)))), some (.inl lp_), some (.inl li_), some (.inl ck_), some (.inl pr_), some (.inl kx_)], [.inl pr_, .inr (.inr (some (113, 0)))], sm_aI S_ 117 0 kx_.toNat (S_.2.2.1 114 0 pr_.toNat))) rfl ?_
        refine sm_T_iald (n := 4096) rfl rfl (by omega) (by omega) ?_
        have bx5_ : (-2) ≤ S_.2.2.1 113 0 pr_.toNat ∧ S_.2.2.1 113 0 pr_.toNat ≤ 4095 := hI_.2 113 0 _
        refine sm_T_go 1 (c1 := (88, [some (.inr (.inr (some (12, 0)))), some (.inl lp_), some (.inl li_), some (.inl ck_), some (.inl (S_.2.2.1 113 0 pr_.toNat)), some (.inl kx_)], [], sm_aI S_ 117 0 kx_.toNat (S_.2.2.1 114 0 pr_.toNat))) rfl ?_
        refine sm_T_inc (a := 5) (z := (-1)) (v := kx_) (w := kx_ - 1) rfl rfl (by omega) (by omega) (by omega) ?_ -- pc_ 88
        refine sm_T_go 1 (c1 := (60, [some (.inr (.inr (some (12, 0)))), some (.inl lp_), some (.inl li_), some (.inl ck_), some (.inl (S_.2.2.1 113 0 pr_.toNat)), some (.inl (kx_ - 1))], [], sm_aI S_ 117 0 kx_.toNat (S_.2.2.1 114 0 pr_.toNat))) rfl ?_
        refine ih_.2 ck_ (S_.2.2.1 113 0 pr_.toNat) (kx_ - 1) (sm_aI S_ 117 0 kx_.toNat (S_.2.2.1 114 0 pr_.toNat)) hIx3_ hFx4_ ⟨?_, ?_, ?_, trivial⟩ ?_
        · (simp only [rf_eq, rd_fa, rd_af]; omega)
        · (rw [f113_, show (ck_ - 2 - (kx_ - 1)).toNat = (ck_ - 2 - kx_).toNat + 1 by omega]; show _ = S0_.2.2.1 113 0 (pit S0_ lp_ (ck_ - 2 - kx_).toNat).toNat; rw [← hb_])
        · exact hc_
        · omega
set_option maxHeartbeats 400000 in
theorem vc_277w {sc_ : Nat × (Nat → Int)} (lp_ : Int) (li_ : Int) (d_ : Nat) (S0_ : sm_S) (hI_ : gi S0_) (hch_ : chn (S0_.2.2.1 113 0) d_ lp_ ∧ d_ ≤ 4095) (hp_ : prf S0_) (h1_ : 0 ≤ lp_ ∧ lp_ ≤ 4095) (h2_ : 0 ≤ li_ ∧ li_ ≤ 4095) (h3_ : S0_.2.2.1 113 0 lp_.toNat ≠ -2) : sm_T (mt_P sc_) 0 277 (0, [some (.inr (.inr (some (12, 0)))), some (.inl lp_), some (.inl li_), none, none, none], [], S0_) (fun ro9_ => ∃ u_ S1_, ro9_ = (.inl u_, S1_, 0) ∧ vq_277w lp_ li_ d_ S0_ u_ S1_) := by
  have hF_ : ai_fr (sx_W vw_277w) S0_ S0_ := ai_fr_rf
  refine sm_T_go 4 (c1 := (5, [some (.inr (.inr (some (12, 0)))), some (.inl lp_), some (.inl li_), some (.inl 1), some (.inl lp_), none], [], S0_)) rfl ?_
  refine (vl_277w lp_ li_ d_ S0_ hch_ hp_ h1_ h2_ h3_ _).1 1 lp_ S0_ hI_ hF_ ⟨?_, ?_, ?_, ?_, ?_, trivial⟩ (Nat.lt_succ_self _)
  · exact ⟨hch_.1, by omega⟩
  · omega
  · exact h3_
  · rfl
  · intro i9_ hi9_
    have z_ : i9_ = 0 := by omega
    rw [z_]; exact h1_
/-! ChipFlow.compare -/
def vw_276dw : sx_Wl := ([(12, 16)], [113, 114, 115, 117], [])
def vq_276dw (bg_ : Int) (mk_ : Int) (d1_ : Nat) (dd_ : Nat) (R1_ : Nat) (S0_ : sm_S) (u_ : Option sm_V) (S1_ : sm_S) : Prop := ∃ v_ : Int, u_ = some (.inl v_) ∧ gi S1_ ∧ ai_fr (sx_W vw_276dw) S0_ S1_ ∧ (bfsp (S0_.1 3 dd_ 1).toNat (cmD (S0_.2.2.1 47 (0 + d1_)) (S0_.2.2.1 47 (0 + dd_)) mk_) (nx6 (S0_.2.2.1 47 (0 + d1_))) (nx6 (S0_.2.2.1 47 (0 + dd_))) bg_.toNat (S0_.1 3 dd_ 5).toNat v_)
set_option maxHeartbeats 3000000 in
set_option maxRecDepth 20000 in
theorem vl_276dw {sc_ : Nat × (Nat → Int)} (bg_ : Int) (mk_ : Int) (d1_ : Nat) (dd_ : Nat) (R1_ : Nat) (S0_ : sm_S) (hd_ : dOk dd_ S0_) (hb_ : 0 ≤ bg_ ∧ bg_ < 2 ^ R1_) (hr_ : R1_ ≤ 6 ∧ (R1_ : Int) + S0_.1 3 dd_ 1 ≤ 12) (ht_ : ∀ p9_ : Nat, p9_ < 4096 → 0 ≤ S0_.2.2.1 47 (0 + d1_) p9_ ∧ S0_.2.2.1 47 (0 + d1_) p9_ < 2 ^ (16 + R1_)) : ∀ nn_ : Nat, (∀ (ip9_ : Int) (tl_ : Int) (hd9_ : Int) (S_ : sm_S), gi S_ → ai_fr (sx_W vw_276dw) S0_ S_ → ((prf S_) ∧ (∀ j9_ : Nat, (j9_ : Int) < tl_ → S_.2.2.1 113 0 (S_.2.2.1 115 0 j9_).toNat ≠ -2 ∧ S_.2.2.1 115 0 j9_ / 64 < 2 ^ R1_ ∧ S_.2.2.1 115 0 j9_ % 64 < 2 ^ (S0_.1 3 dd_ 2).toNat) ∧ (tl_ = (cn1 (pn2 (S_.2.2.1 113 0)) 4096 : Int)) ∧ (ccq (S0_.1 3 dd_ 1).toNat R1_ (S0_.1 3 dd_ 2).toNat (cmD (S0_.2.2.1 47 (0 + d1_)) (S0_.2.2.1 47 (0 + dd_)) mk_) (nx6 (S0_.2.2.1 47 (0 + d1_))) (nx6 (S0_.2.2.1 47 (0 + dd_))) bg_.toNat (S0_.1 3 dd_ 5).toNat hd9_.toNat 0 tl_ (S_.2.2.1 113 0) (S_.2.2.1 115 0)) ∧ (1 ≤ tl_ ∧ 0 ≤ hd9_ ∧ hd9_ ≤ 4096 ∧ ip9_ = S0_.1 3 dd_ 1) ∧ True) → ((10000 * (5000 - hd9_) + 5000).toNat) < nn_ → sm_T (mt_P sc_) 1 276 (53, [some (.inr (.inr (some (12, 0)))), some (.inr (.inr (some (47, (0 + d1_))))), some (.inl bg_), some (.inr (.inr (some (3, dd_)))), some (.inl mk_), some (.inl ip9_), none, some (.inl tl_), some (.inl hd9_), none, none, none, none, none, none, none], [], S_) (fun ro9_ => ∃ u_ S1_, ro9_ = (.inl u_, S1_, 0) ∧ vq_276dw bg_ mk_ d1_ dd_ R1_ S0_ u_ S1_)) ∧ (∀ (ip9_ : Int) (tl_ : Int) (hd9_ : Int) (pr_ : Int) (he_ : Int) (te_ : Int) (ip_ : Int) (S_ : sm_S), gi S_ → ai_fr (sx_W vw_276dw) S0_ S_ → ((prf S_) ∧ (∀ j9_ : Nat, (j9_ : Int) < tl_ → S_.2.2.1 113 0 (S_.2.2.1 115 0 j9_).toNat ≠ -2 ∧ S_.2.2.1 115 0 j9_ / 64 < 2 ^ R1_ ∧ S_.2.2.1 115 0 j9_ % 64 < 2 ^ (S0_.1 3 dd_ 2).toNat) ∧ (tl_ = (cn1 (pn2 (S_.2.2.1 113 0)) 4096 : Int)) ∧ (ccq (S0_.1 3 dd_ 1).toNat R1_ (S0_.1 3 dd_ 2).toNat (cmD (S0_.2.2.1 47 (0 + d1_)) (S0_.2.2.1 47 (0 + dd_)) mk_) (nx6 (S0_.2.2.1 47 (0 + d1_))) (nx6 (S0_.2.2.1 47 (0 + dd_))) bg_.toNat (S0_.1 3 dd_ 5).toNat hd9_.toNat ip_.toNat tl_ (S_.2.2.1 113 0) (S_.2.2.1 115 0)) ∧ (S_.2.2.1 115 0 hd9_.toNat = pr_ ∧ hd9_ < tl_) ∧ (ip_.toNat ≤ 2 ^ (S0_.1 3 dd_ 1).toNat) ∧ (1 ≤ tl_ ∧ 0 ≤ hd9_ ∧ hd9_ < 4096 ∧ ip9_ = S0_.1 3 dd_ 1 ∧ 0 ≤ ip_ ∧ ip_ ≤ 4096 ∧ 0 ≤ pr_ ∧ pr_ ≤ 4095) ∧ (he_ = i_shl (pr_ / 64) ip9_ ∧ te_ = i_shl (pr_ % 64) ip9_) ∧ (S_.2.2.1 113 0 pr_.toNat ≠ -2 ∧ pr_ / 64 < 2 ^ R1_ ∧ pr_ % 64 < 2 ^ (S0_.1 3 dd_ 2).toNat) ∧ True) → ((10000 * (5000 - hd9_) + 4500 - ip_).toNat) < nn_ → sm_T (mt_P sc_) 1 276 (100, [some (.inr (.inr (some (12, 0)))), some (.inr (.inr (some (47, (0 + d1_))))), some (.inl bg_), some (.inr (.inr (some (3, dd_)))), some (.inl mk_), some (.inl ip9_), none, some (.inl tl_), some (.inl hd9_), some (.inl pr_), some (.inl he_), some (.inl te_), some (.inl ip_), none, none, none], [], S_) (fun ro9_ => ∃ u_ S1_, ro9_ = (.inl u_, S1_, 0) ∧ vq_276dw bg_ mk_ d1_ dd_ R1_ S0_ u_ S1_)) := by
  intro nn_
  induction nn_ with
  | zero => exact ⟨fun _ _ _ _ _ _ _ h_ => absurd h_ (Nat.not_lt_zero _), fun _ _ _ _ _ _ _ _ _ _ _ h_ => absurd h_ (Nat.not_lt_zero _)⟩
  | succ nn_ ih_ =>
    refine ⟨?_, ?_⟩
    · rintro ip9_ tl_ hd9_ S_ hI_ hF_ ⟨hp_, hq_, hc_, hcq_, h0_, -⟩ hm_
      have J9_ := dOk_b hd_
      have J9a := J9_.1
      have J9b := J9_.2.1
      have J9c := J9_.2.2.1
      have J9t := J9_.2.2.2.2
      have wa_ := pw_le (n := R1_) (m := 6) (by omega)
      have wb := pw_le (n := (S0_.1 3 dd_ 2).toNat) (m := 6) (by omega)
      have wc_ := pw_pos R1_
      have wd_ := pw_pos (S0_.1 3 dd_ 2).toNat
      have fT_ : S_.2.2.1 47 (0 + d1_) = S0_.2.2.1 47 (0 + d1_) := fr_arr hF_ rfl
      have f47_ : S_.2.2.1 47 (0 + dd_) = S0_.2.2.1 47 (0 + dd_) := fr_arr hF_ rfl
      have cl9_ := cn1_le (pn2 (S_.2.2.1 113 0)) 4096
      refine sm_T_go 2 (c1 := (57, [some (.inr (.inr (some (12, 0)))), some (.inr (.inr (some (47, (0 + d1_))))), some (.inl bg_), some (.inr (.inr (some (3, dd_)))), some (.inl mk_), some (.inl ip9_), none, some (.inl tl_), some (.inl hd9_), none, none, none, none, none, none, none], [.inl tl_, .inl hd9_], S_)) rfl ?_
      refine sm_T_br (a := 3) (z := 167) rfl (fun cx1_ => ?_) (fun cx1_ => ?_)
      · have cx1_ : tl_ ≤ hd9_ := of_decide_eq_true cx1_
        refine sm_T_go 1 (c1 := (225, [some (.inr (.inr (some (12, 0)))), some (.inr (.inr (some (47, (0 + d1_))))), some (.inl bg_), some (.inr (.inr (some (3, dd_)))), some (.inl mk_), some (.inl ip9_), none, some (.inl tl_), some (.inl hd9_), none, none, none, none, none, none, none], [.inl 0], S_)) rfl ?_
        refine sm_T_ri rfl ⟨_, _, rfl, _, rfl, hI_, hF_, ?_⟩
        first | (rw [w146_]; exact sp9_) | exact ccq_e hcq_ (by omega)
      · have cx1_ : ¬ (tl_ ≤ hd9_) := of_decide_eq_false cx1_
        refine sm_T_go 2 (c1 := (65, [some (.inr (.inr (some (12, 0)))), some (.inr (.inr (some (47, (0 + d1_))))), some (.inl bg_), some (.inr (.inr (some (3, dd_)))), some (.inl mk_), some (.inl ip9_), none, some (.inl tl_), some (.inl hd9_), none, none, none, none, none, none, none], [.inl 4096, .inl hd9_], S_)) rfl ?_
        refine sm_T_br (a := 3) (z := 159) rfl (fun cx2_ => ?_) (fun cx2_ => ?_)
        · have cx2_ : 4096 ≤ hd9_ := of_decide_eq_true cx2_
          refine sm_T_go 1 (c1 := (225, [some (.inr (.inr (some (12, 0)))), some (.inr (.inr (some (47, (0 + d1_))))), some (.inl bg_), some (.inr (.inr (some (3, dd_)))), some (.inl mk_), some (.inl ip9_), none, some (.inl tl_), some (.inl hd9_), none, none, none, none, none, none, none], [.inl 0], S_)) rfl ?_
          refine sm_T_ri rfl ⟨_, _, rfl, _, rfl, hI_, hF_, ?_⟩
          first | (rw [w146_]; exact sp9_) | exact ccq_e hcq_ (by omega)
        · have cx2_ : ¬ (4096 ≤ hd9_) := of_decide_eq_false cx2_
          have hq9_ := hq_ hd9_.toNat (by omega)
          have qc9_ := hI_.2 115 0 hd9_.toNat
          refine sm_T_go 3 (c1 := (74, [some (.inr (.inr (some (12, 0)))), some (.inr (.inr (some (47, (0 + d1_))))), some (.inl bg_), some (.inr (.inr (some (3, dd_)))), some (.inl mk_), some (.inl ip9_), none, some (.inl tl_), some (.inl hd9_), none, none, none, none, none, none, none], [.inl hd9_, .inr (.inr (some (115, 0)))], S_)) rfl ?_
          refine sm_T_iald (n := 4096) rfl rfl (by omega) (by omega) ?_
          have bx3_ : 0 ≤ S_.2.2.1 115 0 hd9_.toNat ∧ S_.2.2.1 115 0 hd9_.toNat ≤ 4095 := hI_.2 115 0 _
          refine sm_T_go 3 (c1 := (81, [some (.inr (.inr (some (12, 0)))), some (.inr (.inr (some (47, (0 + d1_))))), some (.inl bg_), some (.inr (.inr (some (3, dd_)))), some (.inl mk_), some (.inl ip9_), none, some (.inl tl_), some (.inl hd9_), some (.inl (S_.2.2.1 115 0 hd9_.toNat)), none, none, none, none, none, none], [.inl 6, .inl (S_.2.2.1 115 0 hd9_.toNat)], S_)) rfl ?_
          refine sm_T_bin (w := ((S_.2.2.1 115 0 hd9_.toNat) / 64)) rfl (bi_shr (k := 6) (by decide) (by omega) (by omega)) ?_ -- pc_ 81
          refine sm_T_go 1 (c1 := (84, [some (.inr (.inr (some (12, 0)))), some (.inr (.inr (some (47, (0 + d1_))))), some (.inl bg_), some (.inr (.inr (some (3, dd_)))), some (.inl mk_), some (.inl ip9_), none, some (.inl tl_), some (.inl hd9_), some (.inl (S_.2.2.1 115 0 hd9_.toNat)), none, none, none, none, none, none], [.inl ip9_, .inl ((S_.2.2.1 115 0 hd9_.toNat) / 64)], S_)) rfl ?_
          refine sm_T_bin (w := (i_shl ((S_.2.2.1 115 0 hd9_.toNat) / 64) ip9_)) rfl rfl ?_ -- pc_ 84
          refine sm_T_go 3 (c1 := (91, [some (.inr (.inr (some (12, 0)))), some (.inr (.inr (some (47, (0 + d1_))))), some (.inl bg_), some (.inr (.inr (some (3, dd_)))), some (.inl mk_), some (.inl ip9_), none, some (.inl tl_), some (.inl hd9_), some (.inl (S_.2.2.1 115 0 hd9_.toNat)), some (.inl (i_shl ((S_.2.2.1 115 0 hd9_.toNat) / 64) ip9_)), none, none, none, none, none], [.inl 63, .inl (S_.2.2.1 115 0 hd9_.toNat)], S_)) rfl ?_
          refine sm_T_bin (w := ((S_.2.2.1 115 0 hd9_.toNat) % 64)) rfl (bi_msk (k := 6) (by decide)) ?_ -- pc_ 91
          refine sm_T_go 1 (c1 := (94, [some (.inr (.inr (some (12, 0)))), some (.inr (.inr (some (47, (0 + d1_))))), some (.inl bg_), some (.inr (.inr (some (3, dd_)))), some (.inl mk_), some (.inl ip9_), none, some (.inl tl_), some (.inl hd9_), some (.inl (S_.2.2.1 115 0 hd9_.toNat)), some (.inl (i_shl ((S_.2.2.1 115 0 hd9_.toNat) / 64) ip9_)), none, none, none, none, none], [.inl ip9_, .inl ((S_.2.2.1 115 0 hd9_.toNat) % 64)], S_)) rfl ?_
          refine sm_T_bin (w := (i_shl ((S_.2.2.1 115 0 hd9_.toNat) % 64) ip9_)) rfl rfl ?_ -- pc_ 94
          refine sm_T_go 3 (c1 := (100, [some (.inr (.inr (some (12, 0)))), some (.inr (.inr (some (47, (0 + d1_))))), some (.inl bg_), some (.inr (.inr (some (3, dd_)))), some (.inl mk_), some (.inl ip9_), none, some (.inl tl_), some (.inl hd9_), some (.inl (S_.2.2.1 115 0 hd9_.toNat)), some (.inl (i_shl ((S_.2.2.1 115 0 hd9_.toNat) / 64) ip9_)), some (.inl (i_shl ((S_.2.2.1 115 0 hd9_.toNat) % 64) ip9_)), some (.inl 0), none, none, none], [], S_)) rfl ?_
          refine ih_.2 ip9_ tl_ hd9_ (S_.2.2.1 115 0 hd9_.toNat) (i_shl ((S_.2.2.1 115 0 hd9_.toNat) / 64) ip9_) (i_shl ((S_.2.2.1 115 0 hd9_.toNat) % 64) ip9_) 0 S_ hI_ hF_ ⟨?_, ?_, ?_, ?_, ?_, ?_, ?_, ?_, ?_, trivial⟩ ?_
          · exact hp_
          · exact hq_
          · exact hc_
          · exact hcq_
          · exact ⟨rfl, by omega⟩
          · exact Nat.zero_le _
          · omega
          · exact ⟨rfl, rfl⟩
          · exact hq9_
          · omega
    · rintro ip9_ tl_ hd9_ pr_ he_ te_ ip_ S_ hI_ hF_ ⟨hp_, hq_, hc_, hcq_, hpq_, hip_, h0_, hh_, hz_, -⟩ hm_
      have J9_ := dOk_b hd_
      have J9a := J9_.1
      have J9b := J9_.2.1
      have J9c := J9_.2.2.1
      have J9t := J9_.2.2.2.2
      have wa_ := pw_le (n := R1_) (m := 6) (by omega)
      have wb := pw_le (n := (S0_.1 3 dd_ 2).toNat) (m := 6) (by omega)
      have wc_ := pw_pos R1_
      have wd_ := pw_pos (S0_.1 3 dd_ 2).toNat
      have fT_ : S_.2.2.1 47 (0 + d1_) = S0_.2.2.1 47 (0 + d1_) := fr_arr hF_ rfl
      have f47_ : S_.2.2.1 47 (0 + dd_) = S0_.2.2.1 47 (0 + dd_) := fr_arr hF_ rfl
      have cl9_ := cn1_le (pn2 (S_.2.2.1 113 0)) 4096
      refine sm_T_go 3 (c1 := (105, [some (.inr (.inr (some (12, 0)))), some (.inr (.inr (some (47, (0 + d1_))))), some (.inl bg_), some (.inr (.inr (some (3, dd_)))), some (.inl mk_), some (.inl ip9_), none, some (.inl tl_), some (.inl hd9_), some (.inl pr_), some (.inl he_), some (.inl te_), some (.inl ip_), none, none, none], [.inl ip9_, .inl 1, .inl ip_], S_)) rfl ?_
      refine sm_T_bin (w := (i_shl 1 ip9_)) rfl rfl ?_ -- pc_ 105
      have bx1_ := i_shl1 (e := ip9_) (by omega) (by omega)
      have wp_ := pw_le (n := (ip9_).toNat) (m := 12) (by omega)
      have wp0_ := pw_pos (ip9_).toNat
      have wp1_ : (2 : Int) ^ (ip9_).toNat = 2 ^ (S0_.1 3 dd_ 1).toNat := by rw [show ip9_ = S0_.1 3 dd_ 1 by omega]
      refine sm_T_br (a := 3) (z := 112) rfl (fun cx5_ => ?_) (fun cx5_ => ?_)
      · have cx5_ : (i_shl 1 ip9_) ≤ ip_ := of_decide_eq_true cx5_
        refine sm_T_inc (a := 8) (z := 1) (v := hd9_) (w := hd9_ + 1) rfl rfl (by omega) (by omega) (by omega) ?_ -- pc_ 218
        refine sm_T_go 1 (c1 := (53, [some (.inr (.inr (some (12, 0)))), some (.inr (.inr (some (47, (0 + d1_))))), some (.inl bg_), some (.inr (.inr (some (3, dd_)))), some (.inl mk_), some (.inl ip9_), none, some (.inl tl_), some (.inl (hd9_ + 1)), some (.inl pr_), some (.inl he_), some (.inl te_), some (.inl ip_), none, none, none], [], S_)) rfl ?_
        refine sm_T_wk [some (.inr (.inr (some (12, 0)))), some (.inr (.inr (some (47, (0 + d1_))))), some (.inl bg_), some (.inr (.inr (some (3, dd_)))), some (.inl mk_), some (.inl ip9_), none, some (.inl tl_), some (.inl (hd9_ + 1)), none, none, none, none, none, none, none] (by exact ⟨rfl, rfl, rfl, rfl, rfl, rfl, rfl, rfl, trivial⟩) ?_
        refine ih_.1 ip9_ tl_ (hd9_ + 1) S_ hI_ hF_ ⟨?_, ?_, ?_, ?_, ?_, trivial⟩ ?_
        · exact hp_
        · exact hq_
        · exact hc_
        · rw [show (hd9_ + 1).toNat = hd9_.toNat + 1 by omega]
          exact ccq_n hcq_ (by have z9_ := pw_nn (k_ := (S0_.1 3 dd_ 1).toNat); omega)
        · omega
        · omega
      · have cx5_ : ¬ ((i_shl 1 ip9_) ≤ ip_) := of_decide_eq_false cx5_
        have p1_ := pat_b (s_ := pr_ / 64) (i_ := ip_) (R_ := R1_) (I_ := (S0_.1 3 dd_ 1).toNat) (by omega) (by omega) (by omega)
        have p2_ := pat_b (s_ := pr_ % 64) (i_ := ip_) (R_ := (S0_.1 3 dd_ 2).toNat) (I_ := (S0_.1 3 dd_ 1).toNat) (by omega) (by omega) (by omega)
        have p3_ := pw_le (n := R1_ + (S0_.1 3 dd_ 1).toNat) (m := 12) (by omega)
        have p4_ := pw_le (n := (S0_.1 3 dd_ 2).toNat + (S0_.1 3 dd_ 1).toNat) (m := 12) (by omega)
        rw [show (((S0_.1 3 dd_ 1).toNat : Nat) : Int) = ip9_ by omega, ← hh_.1] at p1_
        rw [show (((S0_.1 3 dd_ 1).toNat : Nat) : Int) = ip9_ by omega, ← hh_.2] at p2_
        have n1p := pat_n (s_ := pr_ / 64) (i_ := ip_) (R_ := R1_) (I_ := (S0_.1 3 dd_ 1).toNat) (by omega) (by omega) (by omega)
        have n2p := pat_n (s_ := pr_ % 64) (i_ := ip_) (R_ := (S0_.1 3 dd_ 2).toNat) (I_ := (S0_.1 3 dd_ 1).toNat) (by omega) (by omega) (by omega)
        rw [show (((S0_.1 3 dd_ 1).toNat : Nat) : Int) = ip9_ by omega, ← hh_.1] at n1p
        rw [show (((S0_.1 3 dd_ 1).toNat : Nat) : Int) = ip9_ by omega, ← hh_.2] at n2p
        have iz9_ : ip_.toNat < 2 ^ (S0_.1 3 dd_ 1).toNat := (by have z9_ := pw_nn (k_ := (S0_.1 3 dd_ 1).toNat); omega)
        have t1_ := ht_ (i_or he_ ip_).toNat (by omega)
        have t2_ := J9t (i_or te_ ip_).toNat (by omega)
        rw [← fT_] at t1_
        rw [← f47_] at t2_
        have n1_ := shr16 t1_
        have n2_ := shr16 t2_
        have o9_ := or64 (a_ := S_.2.2.1 47 (0 + d1_) (i_or he_ ip_).toNat / 65536) (b_ := S_.2.2.1 47 (0 + dd_) (i_or te_ ip_).toNat / 65536) (by omega) (by omega)
        refine sm_T_go 3 (c1 := (114, [some (.inr (.inr (some (12, 0)))), some (.inr (.inr (some (47, (0 + d1_))))), some (.inl bg_), some (.inr (.inr (some (3, dd_)))), some (.inl mk_), some (.inl ip9_), none, some (.inl tl_), some (.inl hd9_), some (.inl pr_), some (.inl he_), some (.inl te_), some (.inl ip_), none, none, none], [.inl ip_, .inl he_, .inr (.inr (some (47, (0 + d1_))))], S_)) rfl ?_
        refine sm_T_bin (w := (i_or he_ ip_)) rfl rfl ?_ -- pc_ 114
        refine sm_T_iald (n := 4096) rfl rfl (by omega) (by omega) ?_
        have bx6_ : 0 ≤ S_.2.2.1 47 (0 + d1_) (i_or he_ ip_).toNat ∧ S_.2.2.1 47 (0 + d1_) (i_or he_ ip_).toNat ≤ 4194303 := hI_.2 47 (0 + d1_) _
        refine sm_T_go 5 (c1 := (126, [some (.inr (.inr (some (12, 0)))), some (.inr (.inr (some (47, (0 + d1_))))), some (.inl bg_), some (.inr (.inr (some (3, dd_)))), some (.inl mk_), some (.inl ip9_), none, some (.inl tl_), some (.inl hd9_), some (.inl pr_), some (.inl he_), some (.inl te_), some (.inl ip_), some (.inl (S_.2.2.1 47 (0 + d1_) (i_or he_ ip_).toNat)), none, none], [.inl ip_, .inl te_, .inr (.inr (some (47, (0 + dd_))))], S_)) rfl ?_
        refine sm_T_bin (w := (i_or te_ ip_)) rfl rfl ?_ -- pc_ 126
        refine sm_T_iald (n := 4096) rfl rfl (by omega) (by omega) ?_
        have bx7_ : 0 ≤ S_.2.2.1 47 (0 + dd_) (i_or te_ ip_).toNat ∧ S_.2.2.1 47 (0 + dd_) (i_or te_ ip_).toNat ≤ 4194303 := hI_.2 47 (0 + dd_) _
        refine sm_T_go 3 (c1 := (134, [some (.inr (.inr (some (12, 0)))), some (.inr (.inr (some (47, (0 + d1_))))), some (.inl bg_), some (.inr (.inr (some (3, dd_)))), some (.inl mk_), some (.inl ip9_), none, some (.inl tl_), some (.inl hd9_), some (.inl pr_), some (.inl he_), some (.inl te_), some (.inl ip_), some (.inl (S_.2.2.1 47 (0 + d1_) (i_or he_ ip_).toNat)), some (.inl (S_.2.2.1 47 (0 + dd_) (i_or te_ ip_).toNat)), none], [.inl (S_.2.2.1 47 (0 + dd_) (i_or te_ ip_).toNat), .inl (S_.2.2.1 47 (0 + d1_) (i_or he_ ip_).toNat)], S_)) rfl ?_
        refine sm_T_bin (w := (i_xor (S_.2.2.1 47 (0 + d1_) (i_or he_ ip_).toNat) (S_.2.2.1 47 (0 + dd_) (i_or te_ ip_).toNat))) rfl rfl ?_ -- pc_ 134
        refine sm_T_go 1 (c1 := (137, [some (.inr (.inr (some (12, 0)))), some (.inr (.inr (some (47, (0 + d1_))))), some (.inl bg_), some (.inr (.inr (some (3, dd_)))), some (.inl mk_), some (.inl ip9_), none, some (.inl tl_), some (.inl hd9_), some (.inl pr_), some (.inl he_), some (.inl te_), some (.inl ip_), some (.inl (S_.2.2.1 47 (0 + d1_) (i_or he_ ip_).toNat)), some (.inl (S_.2.2.1 47 (0 + dd_) (i_or te_ ip_).toNat)), none], [.inl mk_, .inl (i_xor (S_.2.2.1 47 (0 + d1_) (i_or he_ ip_).toNat) (S_.2.2.1 47 (0 + dd_) (i_or te_ ip_).toNat))], S_)) rfl ?_
        refine sm_T_bin (w := (i_and (i_xor (S_.2.2.1 47 (0 + d1_) (i_or he_ ip_).toNat) (S_.2.2.1 47 (0 + dd_) (i_or te_ ip_).toNat)) mk_)) rfl rfl ?_ -- pc_ 137
        refine sm_T_b0 (a := 0) (z := 16) rfl (fun cx8_ => ?_) (fun cx8_ => ?_)
        · have cx8_ : (i_and (i_xor (S_.2.2.1 47 (0 + d1_) (i_or he_ ip_).toNat) (S_.2.2.1 47 (0 + dd_) (i_or te_ ip_).toNat)) mk_) = 0 := of_decide_eq_true cx8_
          have nn9_ : ¬ cmD (S0_.2.2.1 47 (0 + d1_)) (S0_.2.2.1 47 (0 + dd_)) mk_ ((pr_ / 64).toNat * 2 ^ (S0_.1 3 dd_ 1).toNat + ip_.toNat) ((pr_ % 64).toNat * 2 ^ (S0_.1 3 dd_ 1).toNat + ip_.toNat) := fun z9_ => z9_ (by (rw [← n1p, ← n2p, ← fT_, ← f47_]; exact cx8_))
          refine sm_T_go 2 (c1 := (158, [some (.inr (.inr (some (12, 0)))), some (.inr (.inr (some (47, (0 + d1_))))), some (.inl bg_), some (.inr (.inr (some (3, dd_)))), some (.inl mk_), some (.inl ip9_), none, some (.inl tl_), some (.inl hd9_), some (.inl pr_), some (.inl he_), some (.inl te_), some (.inl ip_), some (.inl (S_.2.2.1 47 (0 + d1_) (i_or he_ ip_).toNat)), some (.inl (S_.2.2.1 47 (0 + dd_) (i_or te_ ip_).toNat)), none], [.inl 16, .inl (S_.2.2.1 47 (0 + d1_) (i_or he_ ip_).toNat)], S_)) rfl ?_
          refine sm_T_bin (w := ((S_.2.2.1 47 (0 + d1_) (i_or he_ ip_).toNat) / 65536)) rfl (bi_shr (k := 16) (by decide) (by omega) (by omega)) ?_ -- pc_ 158
          refine sm_T_go 1 (c1 := (161, [some (.inr (.inr (some (12, 0)))), some (.inr (.inr (some (47, (0 + d1_))))), some (.inl bg_), some (.inr (.inr (some (3, dd_)))), some (.inl mk_), some (.inl ip9_), none, some (.inl tl_), some (.inl hd9_), some (.inl pr_), some (.inl he_), some (.inl te_), some (.inl ip_), some (.inl (S_.2.2.1 47 (0 + d1_) (i_or he_ ip_).toNat)), some (.inl (S_.2.2.1 47 (0 + dd_) (i_or te_ ip_).toNat)), none], [.inl 6, .inl ((S_.2.2.1 47 (0 + d1_) (i_or he_ ip_).toNat) / 65536)], S_)) rfl ?_
          refine sm_T_bin (w := 64 * ((S_.2.2.1 47 (0 + d1_) (i_or he_ ip_).toNat) / 65536)) rfl (bi_shl (k := 6) (by decide) (by omega) (by omega) (by omega)) ?_ -- pc_ 161
          refine sm_T_go 2 (c1 := (166, [some (.inr (.inr (some (12, 0)))), some (.inr (.inr (some (47, (0 + d1_))))), some (.inl bg_), some (.inr (.inr (some (3, dd_)))), some (.inl mk_), some (.inl ip9_), none, some (.inl tl_), some (.inl hd9_), some (.inl pr_), some (.inl he_), some (.inl te_), some (.inl ip_), some (.inl (S_.2.2.1 47 (0 + d1_) (i_or he_ ip_).toNat)), some (.inl (S_.2.2.1 47 (0 + dd_) (i_or te_ ip_).toNat)), none], [.inl 16, .inl (S_.2.2.1 47 (0 + dd_) (i_or te_ ip_).toNat), .inl (64 * ((S_.2.2.1 47 (0 + d1_) (i_or he_ ip_).toNat) / 65536))], S_)) rfl ?_
          refine sm_T_bin (w := ((S_.2.2.1 47 (0 + dd_) (i_or te_ ip_).toNat) / 65536)) rfl (bi_shr (k := 16) (by decide) (by omega) (by omega)) ?_ -- pc_ 166
          refine sm_T_bin (w := (i_or (64 * ((S_.2.2.1 47 (0 + d1_) (i_or he_ ip_).toNat) / 65536)) ((S_.2.2.1 47 (0 + dd_) (i_or te_ ip_).toNat) / 65536))) rfl rfl ?_ -- pc_ 167
          refine sm_T_go 4 (c1 := (176, [some (.inr (.inr (some (12, 0)))), some (.inr (.inr (some (47, (0 + d1_))))), some (.inl bg_), some (.inr (.inr (some (3, dd_)))), some (.inl mk_), some (.inl ip9_), none, some (.inl tl_), some (.inl hd9_), some (.inl pr_), some (.inl he_), some (.inl te_), some (.inl ip_), some (.inl (S_.2.2.1 47 (0 + d1_) (i_or he_ ip_).toNat)), some (.inl (S_.2.2.1 47 (0 + dd_) (i_or te_ ip_).toNat)), some (.inl (i_or (64 * ((S_.2.2.1 47 (0 + d1_) (i_or he_ ip_).toNat) / 65536)) ((S_.2.2.1 47 (0 + dd_) (i_or te_ ip_).toNat) / 65536)))], [.inl (i_or (64 * ((S_.2.2.1 47 (0 + d1_) (i_or he_ ip_).toNat) / 65536)) ((S_.2.2.1 47 (0 + dd_) (i_or te_ ip_).toNat) / 65536)), .inr (.inr (some (113, 0)))], S_)) rfl ?_
          refine sm_T_iald (n := 4096) rfl rfl (by omega) (by omega) ?_
          have bx9_ : (-2) ≤ S_.2.2.1 113 0 (i_or (64 * ((S_.2.2.1 47 (0 + d1_) (i_or he_ ip_).toNat) / 65536)) ((S_.2.2.1 47 (0 + dd_) (i_or te_ ip_).toNat) / 65536)).toNat ∧ S_.2.2.1 113 0 (i_or (64 * ((S_.2.2.1 47 (0 + d1_) (i_or he_ ip_).toNat) / 65536)) ((S_.2.2.1 47 (0 + dd_) (i_or te_ ip_).toNat) / 65536)).toNat ≤ 4095 := hI_.2 113 0 _
          refine sm_T_go 1 (c1 := (179, [some (.inr (.inr (some (12, 0)))), some (.inr (.inr (some (47, (0 + d1_))))), some (.inl bg_), some (.inr (.inr (some (3, dd_)))), some (.inl mk_), some (.inl ip9_), none, some (.inl tl_), some (.inl hd9_), some (.inl pr_), some (.inl he_), some (.inl te_), some (.inl ip_), some (.inl (S_.2.2.1 47 (0 + d1_) (i_or he_ ip_).toNat)), some (.inl (S_.2.2.1 47 (0 + dd_) (i_or te_ ip_).toNat)), some (.inl (i_or (64 * ((S_.2.2.1 47 (0 + d1_) (i_or he_ ip_).toNat) / 65536)) ((S_.2.2.1 47 (0 + dd_) (i_or te_ ip_).toNat) / 65536)))], [.inl (-2), .inl (S_.2.2.1 113 0 (i_or (64 * ((S_.2.2.1 47 (0 + d1_) (i_or he_ ip_).toNat) / 65536)) ((S_.2.2.1 47 (0 + dd_) (i_or te_ ip_).toNat) / 65536)).toNat)], S_)) rfl ?_
          refine sm_T_br (a := 1) (z := 33) rfl (fun cx10_ => ?_) (fun cx10_ => ?_)
          · have cx10_ : (S_.2.2.1 113 0 (i_or (64 * ((S_.2.2.1 47 (0 + d1_) (i_or he_ ip_).toNat) / 65536)) ((S_.2.2.1 47 (0 + dd_) (i_or te_ ip_).toNat) / 65536)).toNat) ≠ (-2) := of_decide_eq_true cx10_
            refine sm_T_inc (a := 12) (z := 1) (v := ip_) (w := ip_ + 1) rfl rfl (by omega) (by omega) (by omega) ?_ -- pc_ 212
            refine sm_T_go 1 (c1 := (100, [some (.inr (.inr (some (12, 0)))), some (.inr (.inr (some (47, (0 + d1_))))), some (.inl bg_), some (.inr (.inr (some (3, dd_)))), some (.inl mk_), some (.inl ip9_), none, some (.inl tl_), some (.inl hd9_), some (.inl pr_), some (.inl he_), some (.inl te_), some (.inl (ip_ + 1)), some (.inl (S_.2.2.1 47 (0 + d1_) (i_or he_ ip_).toNat)), some (.inl (S_.2.2.1 47 (0 + dd_) (i_or te_ ip_).toNat)), some (.inl (i_or (64 * ((S_.2.2.1 47 (0 + d1_) (i_or he_ ip_).toNat) / 65536)) ((S_.2.2.1 47 (0 + dd_) (i_or te_ ip_).toNat) / 65536)))], [], S_)) rfl ?_
            refine sm_T_wk [some (.inr (.inr (some (12, 0)))), some (.inr (.inr (some (47, (0 + d1_))))), some (.inl bg_), some (.inr (.inr (some (3, dd_)))), some (.inl mk_), some (.inl ip9_), none, some (.inl tl_), some (.inl hd9_), some (.inl pr_), some (.inl he_), some (.inl te_), some (.inl (ip_ + 1)), none, none, none] (by exact ⟨rfl, rfl, rfl, rfl, rfl, rfl, rfl, rfl, rfl, rfl, rfl, rfl, trivial⟩) ?_
            refine ih_.2 ip9_ tl_ hd9_ pr_ he_ te_ (ip_ + 1) S_ hI_ hF_ ⟨?_, ?_, ?_, ?_, ?_, ?_, ?_, ?_, ?_, trivial⟩ ?_
            · exact hp_
            · exact hq_
            · exact hc_
            · have ax9_ : S_.2.2.1 47 (0 + d1_) (i_or he_ ip_).toNat / 65536 = nx6 (S0_.2.2.1 47 (0 + d1_)) ((pr_ / 64).toNat * 2 ^ (S0_.1 3 dd_ 1).toNat + ip_.toNat) := by (unfold nx6; rw [← n1p, ← fT_])
              have ay9_ : S_.2.2.1 47 (0 + dd_) (i_or te_ ip_).toNat / 65536 = nx6 (S0_.2.2.1 47 (0 + dd_)) ((pr_ % 64).toNat * 2 ^ (S0_.1 3 dd_ 1).toNat + ip_.toNat) := by (unfold nx6; rw [← n2p, ← f47_])
              rw [show (ip_ + 1).toNat = ip_.toNat + 1 by omega]
              refine ccq_o hcq_ (by omega) (by omega) hpq_.1 iz9_ nn9_ ax9_ ay9_ (by omega) (by omega) ?_
              rw [← o9_]
              exact cx10_
            · exact hpq_
            · (have z9_ := pw_nn (k_ := (S0_.1 3 dd_ 1).toNat); omega)
            · omega
            · exact hh_
            · exact hz_
            · omega
          · have cx10_ : ¬ ((S_.2.2.1 113 0 (i_or (64 * ((S_.2.2.1 47 (0 + d1_) (i_or he_ ip_).toNat) / 65536)) ((S_.2.2.1 47 (0 + dd_) (i_or te_ ip_).toNat) / 65536)).toNat) ≠ (-2)) := of_decide_eq_false cx10_
            have lt9_ := cn1_lt (f := pn2 (S_.2.2.1 113 0)) (j := (i_or (64 * (S_.2.2.1 47 (0 + d1_) (i_or he_ ip_).toNat / 65536)) (S_.2.2.1 47 (0 + dd_) (i_or te_ ip_).toNat / 65536)).toNat) (fun y9_ => absurd (pn2_1.mp y9_) cx10_) (n := 4096) (by omega)
            refine sm_T_go 4 (c1 := (190, [some (.inr (.inr (some (12, 0)))), some (.inr (.inr (some (47, (0 + d1_))))), some (.inl bg_), some (.inr (.inr (some (3, dd_)))), some (.inl mk_), some (.inl ip9_), none, some (.inl tl_), some (.inl hd9_), some (.inl pr_), some (.inl he_), some (.inl te_), some (.inl ip_), some (.inl (S_.2.2.1 47 (0 + d1_) (i_or he_ ip_).toNat)), some (.inl (S_.2.2.1 47 (0 + dd_) (i_or te_ ip_).toNat)), some (.inl (i_or (64 * ((S_.2.2.1 47 (0 + d1_) (i_or he_ ip_).toNat) / 65536)) ((S_.2.2.1 47 (0 + dd_) (i_or te_ ip_).toNat) / 65536)))], [.inl pr_, .inl (i_or (64 * ((S_.2.2.1 47 (0 + d1_) (i_or he_ ip_).toNat) / 65536)) ((S_.2.2.1 47 (0 + dd_) (i_or te_ ip_).toNat) / 65536)), .inr (.inr (some (113, 0)))], S_)) rfl ?_
            refine sm_T_iast (n := 4096) rfl rfl (by omega) (by omega) ?_
            have hIx11_ : gi (sm_aI S_ 113 0 (i_or (64 * ((S_.2.2.1 47 (0 + d1_) (i_or he_ ip_).toNat) / 65536)) ((S_.2.2.1 47 (0 + dd_) (i_or te_ ip_).toNat) / 65536)).toNat pr_) := gi_aI hI_ (show (-2) ≤ pr_ ∧ pr_ ≤ 4095 from ⟨by omega, by omega⟩)
            have hFx12_ : ai_fr (sx_W vw_276dw) S0_ (sm_aI S_ 113 0 (i_or (64 * ((S_.2.2.1 47 (0 + d1_) (i_or he_ ip_).toNat) / 65536)) ((S_.2.2.1 47 (0 + dd_) (i_or te_ ip_).toNat) / 65536)).toNat pr_) := ai_fr_tr hF_ (ai_fr_aI rfl)
            refine sm_T_go 4 (c1 := (199, [some (.inr (.inr (some (12, 0)))), some (.inr (.inr (some (47, (0 + d1_))))), some (.inl bg_), some (.inr (.inr (some (3, dd_)))), some (.inl mk_), some (.inl ip9_), none, some (.inl tl_), some (.inl hd9_), some (.inl pr_), some (.inl he_), some (.inl te_), some (.inl ip_), some (.inl (S_.2.2.1 47 (0 + d1_) (i_or he_ ip_).toNat)), some (.inl (S_.2.2.1 47 (0 + dd_) (i_or te_ ip_).toNat)), some (.inl (i_or (64 * ((S_.2.2.1 47 (0 + d1_) (i_or he_ ip_).toNat) / 65536)) ((S_.2.2.1 47 (0 + dd_) (i_or te_ ip_).toNat) / 65536)))], [.inl ip_, .inl (i_or (64 * ((S_.2.2.1 47 (0 + d1_) (i_or he_ ip_).toNat) / 65536)) ((S_.2.2.1 47 (0 + dd_) (i_or te_ ip_).toNat) / 65536)), .inr (.inr (some (114, 0)))], sm_aI S_ 113 0 (i_or (64 * ((S_.2.2.1 47 (0 + d1_) (i_or he_ ip_).toNat) / 65536)) ((S_.2.2.1 47 (0 + dd_) (i_or te_ ip_).toNat) / 65536)).toNat pr_)) rfl ?_
            refine sm_T_iast (n := 4096) rfl rfl (by omega) (by omega) ?_
            have hIx13_ : gi (sm_aI (sm_aI S_ 113 0 (i_or (64 * ((S_.2.2.1 47 (0 + d1_) (i_or he_ ip_).toNat) / 65536)) ((S_.2.2.1 47 (0 + dd_) (i_or te_ ip_).toNat) / 65536)).toNat pr_) 114 0 (i_or (64 * ((S_.2.2.1 47 (0 + d1_) (i_or he_ ip_).toNat) / 65536)) ((S_.2.2.1 47 (0 + dd_) (i_or te_ ip_).toNat) / 65536)).toNat ip_) := gi_aI hIx11_ (show 0 ≤ ip_ ∧ ip_ ≤ 4095 from ⟨by omega, by omega⟩)
            have hFx14_ : ai_fr (sx_W vw_276dw) S0_ (sm_aI (sm_aI S_ 113 0 (i_or (64 * ((S_.2.2.1 47 (0 + d1_) (i_or he_ ip_).toNat) / 65536)) ((S_.2.2.1 47 (0 + dd_) (i_or te_ ip_).toNat) / 65536)).toNat pr_) 114 0 (i_or (64 * ((S_.2.2.1 47 (0 + d1_) (i_or he_ ip_).toNat) / 65536)) ((S_.2.2.1 47 (0 + dd_) (i_or te_ ip_).toNat) / 65536)).toNat ip_) := ai_fr_tr hFx12_ (ai_fr_aI rfl)
            refine sm_T_go 4 (c1 := (208, [some (.inr (.inr (some (12, 0)))), some (.inr (.inr (some (47, (0 + d1_))))), some (.inl bg_), some (.inr (.inr (some (3, dd_)))), some (.inl mk_), some (.inl ip9_), none, some (.inl tl_), some (.inl hd9_), some (.inl pr_), some (.inl he_), some (.inl te_), some (.inl ip_), some (.inl (S_.2.2.1 47 (0 + d1_) (i_or he_ ip_).toNat)), some (.inl (S_.2.2.1 47 (0 + dd_) (i_or te_ ip_).toNat)), some (.inl (i_or (64 * ((S_.2.2.1 47 (0 + d1_) (i_or he_ ip_).toNat) / 65536)) ((S_.2.2.1 47 (0 + dd_) (i_or te_ ip_).toNat) / 65536)))], [.inl (i_or (64 * ((S_.2.2.1 47 (0 + d1_) (i_or he_ ip_).toNat) / 65536)) ((S_.2.2.1 47 (0 + dd_) (i_or te_ ip_).toNat) / 65536)), .inl tl_, .inr (.inr (some (115, 0)))], sm_aI (sm_aI S_ 113 0 (i_or (64 * ((S_.2.2.1 47 (0 + d1_) (i_or he_ ip_).toNat) / 65536)) ((S_.2.2.1 47 (0 + dd_) (i_or te_ ip_).toNat) / 65536)).toNat pr_) 114 0 (i_or (64 * ((S_.2.2.1 47 (0 + d1_) (i_or he_ ip_).toNat) / 65536)) ((S_.2.2.1 47 (0 + dd_) (i_or te_ ip_).toNat) / 65536)).toNat ip_)) rfl ?_
            refine sm_T_iast (n := 4096) rfl rfl (by omega) (by omega) ?_
            have hIx15_ : gi (sm_aI (sm_aI (sm_aI S_ 113 0 (i_or (64 * ((S_.2.2.1 47 (0 + d1_) (i_or he_ ip_).toNat) / 65536)) ((S_.2.2.1 47 (0 + dd_) (i_or te_ ip_).toNat) / 65536)).toNat pr_) 114 0 (i_or (64 * ((S_.2.2.1 47 (0 + d1_) (i_or he_ ip_).toNat) / 65536)) ((S_.2.2.1 47 (0 + dd_) (i_or te_ ip_).toNat) / 65536)).toNat ip_) 115 0 tl_.toNat (i_or (64 * ((S_.2.2.1 47 (0 + d1_) (i_or he_ ip_).toNat) / 65536)) ((S_.2.2.1 47 (0 + dd_) (i_or te_ ip_).toNat) / 65536))) := gi_aI hIx13_ (show 0 ≤ (i_or (64 * ((S_.2.2.1 47 (0 + d1_) (i_or he_ ip_).toNat) / 65536)) ((S_.2.2.1 47 (0 + dd_) (i_or te_ ip_).toNat) / 65536)) ∧ (i_or (64 * ((S_.2.2.1 47 (0 + d1_) (i_or he_ ip_).toNat) / 65536)) ((S_.2.2.1 47 (0 + dd_) (i_or te_ ip_).toNat) / 65536)) ≤ 4095 from ⟨by omega, by omega⟩)
            have hFx16_ : ai_fr (sx_W vw_276dw) S0_ (sm_aI (sm_aI (sm_aI S_ 113 0 (i_or (64 * ((S_.2.2.1 47 (0 + d1_) (i_or he_ ip_).toNat) / 65536)) ((S_.2.2.1 47 (0 + dd_) (i_or te_ ip_).toNat) / 65536)).toNat pr_) 114 0 (i_or (64 * ((S_.2.2.1 47 (0 + d1_) (i_or he_ ip_).toNat) / 65536)) ((S_.2.2.1 47 (0 + dd_) (i_or te_ ip_).toNat) / 65536)).toNat ip_) 115 0 tl_.toNat (i_or (64 * ((S_.2.2.1 47 (0 + d1_) (i_or he_ ip_).toNat) / 65536)) ((S_.2.2.1 47 (0 + dd_) (i_or te_ ip_).toNat) / 65536))) := ai_fr_tr hFx14_ (ai_fr_aI rfl)
            refine sm_T_inc (a := 7) (z := 1) (v := tl_) (w := tl_ + 1) rfl rfl (by omega) (by omega) (by omega) ?_ -- pc_ 209
            refine sm_T_inc (a := 12) (z := 1) (v := ip_) (w := ip_ + 1) rfl rfl (by omega) (by omega) (by omega) ?_ -- pc_ 212
            refine sm_T_go 1 (c1 := (100, [some (.inr (.inr (some (12, 0)))), some (.inr (.inr (some (47, (0 + d1_))))), some (.inl bg_), some (.inr (.inr (some (3, dd_)))), some (.inl mk_), some (.inl ip9_), none, some (.inl (tl_ + 1)), some (.inl hd9_), some (.inl pr_), some (.inl he_), some (.inl te_), some (.inl (ip_ + 1)), some (.inl (S_.2.2.1 47 (0 + d1_) (i_or he_ ip_).toNat)), some (.inl (S_.2.2.1 47 (0 + dd_) (i_or te_ ip_).toNat)), some (.inl (i_or (64 * ((S_.2.2.1 47 (0 + d1_) (i_or he_ ip_).toNat) / 65536)) ((S_.2.2.1 47 (0 + dd_) (i_or te_ ip_).toNat) / 65536)))], [], sm_aI (sm_aI (sm_aI S_ 113 0 (i_or (64 * ((S_.2.2.1 47 (0 + d1_) (i_or he_ ip_).toNat) / 65536)) ((S_.2.2.1 47 (0 + dd_) (i_or te_ ip_).toNat) / 65536)).toNat pr_) 114 0 (i_or (64 * ((S_.2.2.1 47 (0 + d1_) (i_or he_ ip_).toNat) / 65536)) ((S_.2.2.1 47 (0 + dd_) (i_or te_ ip_).toNat) / 65536)).toNat ip_) 115 0 tl_.toNat (i_or (64 * ((S_.2.2.1 47 (0 + d1_) (i_or he_ ip_).toNat) / 65536)) ((S_.2.2.1 47 (0 + dd_) (i_or te_ ip_).toNat) / 65536)))) rfl ?_
            refine sm_T_wk [some (.inr (.inr (some (12, 0)))), some (.inr (.inr (some (47, (0 + d1_))))), some (.inl bg_), some (.inr (.inr (some (3, dd_)))), some (.inl mk_), some (.inl ip9_), none, some (.inl (tl_ + 1)), some (.inl hd9_), some (.inl pr_), some (.inl he_), some (.inl te_), some (.inl (ip_ + 1)), none, none, none] (by exact ⟨rfl, rfl, rfl, rfl, rfl, rfl, rfl, rfl, rfl, rfl, rfl, rfl, trivial⟩) ?_
            refine ih_.2 ip9_ (tl_ + 1) hd9_ pr_ he_ te_ (ip_ + 1) (sm_aI (sm_aI (sm_aI S_ 113 0 (i_or (64 * ((S_.2.2.1 47 (0 + d1_) (i_or he_ ip_).toNat) / 65536)) ((S_.2.2.1 47 (0 + dd_) (i_or te_ ip_).toNat) / 65536)).toNat pr_) 114 0 (i_or (64 * ((S_.2.2.1 47 (0 + d1_) (i_or he_ ip_).toNat) / 65536)) ((S_.2.2.1 47 (0 + dd_) (i_or te_ ip_).toNat) / 65536)).toNat ip_) 115 0 tl_.toNat (i_or (64 * ((S_.2.2.1 47 (0 + d1_) (i_or he_ ip_).toNat) / 65536)) ((S_.2.2.1 47 (0 + dd_) (i_or te_ ip_).toNat) / 65536))) hIx15_ hFx16_ ⟨?_, ?_, ?_, ?_, ?_, ?_, ?_, ?_, ?_, trivial⟩ ?_
            · obtain ⟨NN_, hNN_⟩ : ∃ NN_, NN_ = i_or (64 * (S_.2.2.1 47 (0 + d1_) (i_or he_ ip_).toNat / 65536)) (S_.2.2.1 47 (0 + dd_) (i_or te_ ip_).toNat / 65536) := ⟨_, rfl⟩
              have cx9_ : ¬ (S_.2.2.1 113 0 NN_.toNat ≠ -2) := by (rw [hNN_]; exact cx10_)
              have r1_ : ∀ j9_, ((sm_aI (sm_aI (sm_aI S_ 113 0 (i_or (64 * ((S_.2.2.1 47 (0 + d1_) (i_or he_ ip_).toNat) / 65536)) ((S_.2.2.1 47 (0 + dd_) (i_or te_ ip_).toNat) / 65536)).toNat pr_) 114 0 (i_or (64 * ((S_.2.2.1 47 (0 + d1_) (i_or he_ ip_).toNat) / 65536)) ((S_.2.2.1 47 (0 + dd_) (i_or te_ ip_).toNat) / 65536)).toNat ip_) 115 0 tl_.toNat (i_or (64 * ((S_.2.2.1 47 (0 + d1_) (i_or he_ ip_).toNat) / 65536)) ((S_.2.2.1 47 (0 + dd_) (i_or te_ ip_).toNat) / 65536)))).2.2.1 115 0 j9_ = if j9_ = tl_.toNat then NN_ else S_.2.2.1 115 0 j9_ := fun j9_ => by rw [rd_eq, rd_ne (by decide), rd_ne (by decide), hNN_]
              have r2_ : ∀ j9_, ((sm_aI (sm_aI (sm_aI S_ 113 0 (i_or (64 * ((S_.2.2.1 47 (0 + d1_) (i_or he_ ip_).toNat) / 65536)) ((S_.2.2.1 47 (0 + dd_) (i_or te_ ip_).toNat) / 65536)).toNat pr_) 114 0 (i_or (64 * ((S_.2.2.1 47 (0 + d1_) (i_or he_ ip_).toNat) / 65536)) ((S_.2.2.1 47 (0 + dd_) (i_or te_ ip_).toNat) / 65536)).toNat ip_) 115 0 tl_.toNat (i_or (64 * ((S_.2.2.1 47 (0 + d1_) (i_or he_ ip_).toNat) / 65536)) ((S_.2.2.1 47 (0 + dd_) (i_or te_ ip_).toNat) / 65536)))).2.2.1 113 0 j9_ = if j9_ = NN_.toNat then pr_ else S_.2.2.1 113 0 j9_ := fun j9_ => by rw [rd_ne (by decide), rd_ne (by decide), rd_eq, hNN_]
              intro j9_ hj9_ w9_
              rw [r2_] at w9_ ⊢
              by_cases z9_ : j9_ = NN_.toNat
              · rw [if_pos z9_]; right; rw [r2_]; refine ⟨by omega, ?_⟩; split; omega; exact hz_.1
              · rw [if_neg z9_] at w9_ ⊢; rcases hp_ j9_ hj9_ w9_ with q9_ | q9_
                · left; exact q9_
                · right; refine ⟨q9_.1, ?_⟩; rw [r2_]; split; omega; exact q9_.2
            · obtain ⟨NN_, hNN_⟩ : ∃ NN_, NN_ = i_or (64 * (S_.2.2.1 47 (0 + d1_) (i_or he_ ip_).toNat / 65536)) (S_.2.2.1 47 (0 + dd_) (i_or te_ ip_).toNat / 65536) := ⟨_, rfl⟩
              have cx9_ : ¬ (S_.2.2.1 113 0 NN_.toNat ≠ -2) := by (rw [hNN_]; exact cx10_)
              have r1_ : ∀ j9_, ((sm_aI (sm_aI (sm_aI S_ 113 0 (i_or (64 * ((S_.2.2.1 47 (0 + d1_) (i_or he_ ip_).toNat) / 65536)) ((S_.2.2.1 47 (0 + dd_) (i_or te_ ip_).toNat) / 65536)).toNat pr_) 114 0 (i_or (64 * ((S_.2.2.1 47 (0 + d1_) (i_or he_ ip_).toNat) / 65536)) ((S_.2.2.1 47 (0 + dd_) (i_or te_ ip_).toNat) / 65536)).toNat ip_) 115 0 tl_.toNat (i_or (64 * ((S_.2.2.1 47 (0 + d1_) (i_or he_ ip_).toNat) / 65536)) ((S_.2.2.1 47 (0 + dd_) (i_or te_ ip_).toNat) / 65536)))).2.2.1 115 0 j9_ = if j9_ = tl_.toNat then NN_ else S_.2.2.1 115 0 j9_ := fun j9_ => by rw [rd_eq, rd_ne (by decide), rd_ne (by decide), hNN_]
              have r2_ : ∀ j9_, ((sm_aI (sm_aI (sm_aI S_ 113 0 (i_or (64 * ((S_.2.2.1 47 (0 + d1_) (i_or he_ ip_).toNat) / 65536)) ((S_.2.2.1 47 (0 + dd_) (i_or te_ ip_).toNat) / 65536)).toNat pr_) 114 0 (i_or (64 * ((S_.2.2.1 47 (0 + d1_) (i_or he_ ip_).toNat) / 65536)) ((S_.2.2.1 47 (0 + dd_) (i_or te_ ip_).toNat) / 65536)).toNat ip_) 115 0 tl_.toNat (i_or (64 * ((S_.2.2.1 47 (0 + d1_) (i_or he_ ip_).toNat) / 65536)) ((S_.2.2.1 47 (0 + dd_) (i_or te_ ip_).toNat) / 65536)))).2.2.1 113 0 j9_ = if j9_ = NN_.toNat then pr_ else S_.2.2.1 113 0 j9_ := fun j9_ => by rw [rd_ne (by decide), rd_ne (by decide), rd_eq, hNN_]
              intro j9_ hj9_
              by_cases z9_ : (j9_ : Int) = tl_
              · rw [r1_, if_pos (by omega), r2_, if_pos rfl]; exact ⟨by omega, by omega, by omega⟩
              · have q9_ := hq_ j9_ (by omega)
                rw [r1_, if_neg (by omega), r2_]; refine ⟨?_, q9_.2⟩; split; omega; exact q9_.1
            · obtain ⟨NN_, hNN_⟩ : ∃ NN_, NN_ = i_or (64 * (S_.2.2.1 47 (0 + d1_) (i_or he_ ip_).toNat / 65536)) (S_.2.2.1 47 (0 + dd_) (i_or te_ ip_).toNat / 65536) := ⟨_, rfl⟩
              have cx9_ : ¬ (S_.2.2.1 113 0 NN_.toNat ≠ -2) := by (rw [hNN_]; exact cx10_)
              have r1_ : ∀ j9_, ((sm_aI (sm_aI (sm_aI S_ 113 0 (i_or (64 * ((S_.2.2.1 47 (0 + d1_) (i_or he_ ip_).toNat) / 65536)) ((S_.2.2.1 47 (0 + dd_) (i_or te_ ip_).toNat) / 65536)).toNat pr_) 114 0 (i_or (64 * ((S_.2.2.1 47 (0 + d1_) (i_or he_ ip_).toNat) / 65536)) ((S_.2.2.1 47 (0 + dd_) (i_or te_ ip_).toNat) / 65536)).toNat ip_) 115 0 tl_.toNat (i_or (64 * ((S_.2.2.1 47 (0 + d1_) (i_or he_ ip_).toNat) / 65536)) ((S_.2.2.1 47 (0 + dd_) (i_or te_ ip_).toNat) / 65536)))).2.2.1 115 0 j9_ = if j9_ = tl_.toNat then NN_ else S_.2.2.1 115 0 j9_ := fun j9_ => by rw [rd_eq, rd_ne (by decide), rd_ne (by decide), hNN_]
              have r2_ : ∀ j9_, ((sm_aI (sm_aI (sm_aI S_ 113 0 (i_or (64 * ((S_.2.2.1 47 (0 + d1_) (i_or he_ ip_).toNat) / 65536)) ((S_.2.2.1 47 (0 + dd_) (i_or te_ ip_).toNat) / 65536)).toNat pr_) 114 0 (i_or (64 * ((S_.2.2.1 47 (0 + d1_) (i_or he_ ip_).toNat) / 65536)) ((S_.2.2.1 47 (0 + dd_) (i_or te_ ip_).toNat) / 65536)).toNat ip_) 115 0 tl_.toNat (i_or (64 * ((S_.2.2.1 47 (0 + d1_) (i_or he_ ip_).toNat) / 65536)) ((S_.2.2.1 47 (0 + dd_) (i_or te_ ip_).toNat) / 65536)))).2.2.1 113 0 j9_ = if j9_ = NN_.toNat then pr_ else S_.2.2.1 113 0 j9_ := fun j9_ => by rw [rd_ne (by decide), rd_ne (by decide), rd_eq, hNN_]
              have u9_ := cn1_up (f := pn2 (S_.2.2.1 113 0)) (g := pn2 (((sm_aI (sm_aI (sm_aI S_ 113 0 (i_or (64 * ((S_.2.2.1 47 (0 + d1_) (i_or he_ ip_).toNat) / 65536)) ((S_.2.2.1 47 (0 + dd_) (i_or te_ ip_).toNat) / 65536)).toNat pr_) 114 0 (i_or (64 * ((S_.2.2.1 47 (0 + d1_) (i_or he_ ip_).toNat) / 65536)) ((S_.2.2.1 47 (0 + dd_) (i_or te_ ip_).toNat) / 65536)).toNat ip_) 115 0 tl_.toNat (i_or (64 * ((S_.2.2.1 47 (0 + d1_) (i_or he_ ip_).toNat) / 65536)) ((S_.2.2.1 47 (0 + dd_) (i_or te_ ip_).toNat) / 65536)))).2.2.1 113 0)) (j := NN_.toNat) (fun y9_ => absurd (pn2_1.mp y9_) cx9_) (pn2_1.mpr (by rw [r2_, if_pos rfl]; omega)) (fun k9_ hk9_ => by unfold pn2; rw [r2_, if_neg hk9_]) (n := 4096) (by omega)
              rw [u9_]
              push_cast
              omega
            · obtain ⟨NN_, hNN_⟩ : ∃ NN_, NN_ = i_or (64 * (S_.2.2.1 47 (0 + d1_) (i_or he_ ip_).toNat / 65536)) (S_.2.2.1 47 (0 + dd_) (i_or te_ ip_).toNat / 65536) := ⟨_, rfl⟩
              have cx9_ : ¬ (S_.2.2.1 113 0 NN_.toNat ≠ -2) := by (rw [hNN_]; exact cx10_)
              have r1_ : ∀ j9_, ((sm_aI (sm_aI (sm_aI S_ 113 0 (i_or (64 * ((S_.2.2.1 47 (0 + d1_) (i_or he_ ip_).toNat) / 65536)) ((S_.2.2.1 47 (0 + dd_) (i_or te_ ip_).toNat) / 65536)).toNat pr_) 114 0 (i_or (64 * ((S_.2.2.1 47 (0 + d1_) (i_or he_ ip_).toNat) / 65536)) ((S_.2.2.1 47 (0 + dd_) (i_or te_ ip_).toNat) / 65536)).toNat ip_) 115 0 tl_.toNat (i_or (64 * ((S_.2.2.1 47 (0 + d1_) (i_or he_ ip_).toNat) / 65536)) ((S_.2.2.1 47 (0 + dd_) (i_or te_ ip_).toNat) / 65536)))).2.2.1 115 0 j9_ = if j9_ = tl_.toNat then NN_ else S_.2.2.1 115 0 j9_ := fun j9_ => by rw [rd_eq, rd_ne (by decide), rd_ne (by decide), hNN_]
              have r2_ : ∀ j9_, ((sm_aI (sm_aI (sm_aI S_ 113 0 (i_or (64 * ((S_.2.2.1 47 (0 + d1_) (i_or he_ ip_).toNat) / 65536)) ((S_.2.2.1 47 (0 + dd_) (i_or te_ ip_).toNat) / 65536)).toNat pr_) 114 0 (i_or (64 * ((S_.2.2.1 47 (0 + d1_) (i_or he_ ip_).toNat) / 65536)) ((S_.2.2.1 47 (0 + dd_) (i_or te_ ip_).toNat) / 65536)).toNat ip_) 115 0 tl_.toNat (i_or (64 * ((S_.2.2.1 47 (0 + d1_) (i_or he_ ip_).toNat) / 65536)) ((S_.2.2.1 47 (0 + dd_) (i_or te_ ip_).toNat) / 65536)))).2.2.1 113 0 j9_ = if j9_ = NN_.toNat then pr_ else S_.2.2.1 113 0 j9_ := fun j9_ => by rw [rd_ne (by decide), rd_ne (by decide), rd_eq, hNN_]
              have ax9_ : S_.2.2.1 47 (0 + d1_) (i_or he_ ip_).toNat / 65536 = nx6 (S0_.2.2.1 47 (0 + d1_)) ((pr_ / 64).toNat * 2 ^ (S0_.1 3 dd_ 1).toNat + ip_.toNat) := by (unfold nx6; rw [← n1p, ← fT_])
              have ay9_ : S_.2.2.1 47 (0 + dd_) (i_or te_ ip_).toNat / 65536 = nx6 (S0_.2.2.1 47 (0 + dd_)) ((pr_ % 64).toNat * 2 ^ (S0_.1 3 dd_ 1).toNat + ip_.toNat) := by (unfold nx6; rw [← n2p, ← f47_])
              rw [show (ip_ + 1).toNat = ip_.toNat + 1 by omega]
              rw [o9_] at hNN_
              refine ccq_a hcq_ (by omega) (by omega) hpq_.1 iz9_ nn9_ ax9_ ay9_ n1_ n2_ ?_ (fun j9_ => ?_) (fun j9_ => ?_)
              · rw [← hNN_]; exact Decidable.of_not_not cx9_
              · rw [← hNN_]; exact r2_ j9_
              · rw [← hNN_]; exact r1_ j9_
            · obtain ⟨NN_, hNN_⟩ : ∃ NN_, NN_ = i_or (64 * (S_.2.2.1 47 (0 + d1_) (i_or he_ ip_).toNat / 65536)) (S_.2.2.1 47 (0 + dd_) (i_or te_ ip_).toNat / 65536) := ⟨_, rfl⟩
              have cx9_ : ¬ (S_.2.2.1 113 0 NN_.toNat ≠ -2) := by (rw [hNN_]; exact cx10_)
              have r1_ : ∀ j9_, ((sm_aI (sm_aI (sm_aI S_ 113 0 (i_or (64 * ((S_.2.2.1 47 (0 + d1_) (i_or he_ ip_).toNat) / 65536)) ((S_.2.2.1 47 (0 + dd_) (i_or te_ ip_).toNat) / 65536)).toNat pr_) 114 0 (i_or (64 * ((S_.2.2.1 47 (0 + d1_) (i_or he_ ip_).toNat) / 65536)) ((S_.2.2.1 47 (0 + dd_) (i_or te_ ip_).toNat) / 65536)).toNat ip_) 115 0 tl_.toNat (i_or (64 * ((S_.2.2.1 47 (0 + d1_) (i_or he_ ip_).toNat) / 65536)) ((S_.2.2.1 47 (0 + dd_) (i_or te_ ip_).toNat) / 65536)))).2.2.1 115 0 j9_ = if j9_ = tl_.toNat then NN_ else S_.2.2.1 115 0 j9_ := fun j9_ => by rw [rd_eq, rd_ne (by decide), rd_ne (by decide), hNN_]
              have r2_ : ∀ j9_, ((sm_aI (sm_aI (sm_aI S_ 113 0 (i_or (64 * ((S_.2.2.1 47 (0 + d1_) (i_or he_ ip_).toNat) / 65536)) ((S_.2.2.1 47 (0 + dd_) (i_or te_ ip_).toNat) / 65536)).toNat pr_) 114 0 (i_or (64 * ((S_.2.2.1 47 (0 + d1_) (i_or he_ ip_).toNat) / 65536)) ((S_.2.2.1 47 (0 + dd_) (i_or te_ ip_).toNat) / 65536)).toNat ip_) 115 0 tl_.toNat (i_or (64 * ((S_.2.2.1 47 (0 + d1_) (i_or he_ ip_).toNat) / 65536)) ((S_.2.2.1 47 (0 + dd_) (i_or te_ ip_).toNat) / 65536)))).2.2.1 113 0 j9_ = if j9_ = NN_.toNat then pr_ else S_.2.2.1 113 0 j9_ := fun j9_ => by rw [rd_ne (by decide), rd_ne (by decide), rd_eq, hNN_]
              refine ⟨?_, by omega⟩
              rw [r1_, if_neg (by omega)]
              exact hpq_.1
            · (have z9_ := pw_nn (k_ := (S0_.1 3 dd_ 1).toNat); omega)
            · omega
            · exact hh_
            · obtain ⟨NN_, hNN_⟩ : ∃ NN_, NN_ = i_or (64 * (S_.2.2.1 47 (0 + d1_) (i_or he_ ip_).toNat / 65536)) (S_.2.2.1 47 (0 + dd_) (i_or te_ ip_).toNat / 65536) := ⟨_, rfl⟩
              have cx9_ : ¬ (S_.2.2.1 113 0 NN_.toNat ≠ -2) := by (rw [hNN_]; exact cx10_)
              have r1_ : ∀ j9_, ((sm_aI (sm_aI (sm_aI S_ 113 0 (i_or (64 * ((S_.2.2.1 47 (0 + d1_) (i_or he_ ip_).toNat) / 65536)) ((S_.2.2.1 47 (0 + dd_) (i_or te_ ip_).toNat) / 65536)).toNat pr_) 114 0 (i_or (64 * ((S_.2.2.1 47 (0 + d1_) (i_or he_ ip_).toNat) / 65536)) ((S_.2.2.1 47 (0 + dd_) (i_or te_ ip_).toNat) / 65536)).toNat ip_) 115 0 tl_.toNat (i_or (64 * ((S_.2.2.1 47 (0 + d1_) (i_or he_ ip_).toNat) / 65536)) ((S_.2.2.1 47 (0 + dd_) (i_or te_ ip_).toNat) / 65536)))).2.2.1 115 0 j9_ = if j9_ = tl_.toNat then NN_ else S_.2.2.1 115 0 j9_ := fun j9_ => by rw [rd_eq, rd_ne (by decide), rd_ne (by decide), hNN_]
              have r2_ : ∀ j9_, ((sm_aI (sm_aI (sm_aI S_ 113 0 (i_or (64 * ((S_.2.2.1 47 (0 + d1_) (i_or he_ ip_).toNat) / 65536)) ((S_.2.2.1 47 (0 + dd_) (i_or te_ ip_).toNat) / 65536)).toNat pr_) 114 0 (i_or (64 * ((S_.2.2.1 47 (0 + d1_) (i_or he_ ip_).toNat) / 65536)) ((S_.2.2.1 47 (0 + dd_) (i_or te_ ip_).toNat) / 65536)).toNat ip_) 115 0 tl_.toNat (i_or (64 * ((S_.2.2.1 47 (0 + d1_) (i_or he_ ip_).toNat) / 65536)) ((S_.2.2.1 47 (0 + dd_) (i_or te_ ip_).toNat) / 65536)))).2.2.1 113 0 j9_ = if j9_ = NN_.toNat then pr_ else S_.2.2.1 113 0 j9_ := fun j9_ => by rw [rd_ne (by decide), rd_ne (by decide), rd_eq, hNN_]
              rw [r2_]
              refine ⟨?_, hz_.2⟩
              split
              · omega
              · exact hz_.1
            · omega
        · have cx8_ : ¬ ((i_and (i_xor (S_.2.2.1 47 (0 + d1_) (i_or he_ ip_).toNat) (S_.2.2.1 47 (0 + dd_) (i_or te_ ip_).toNat)) mk_) = 0) := of_decide_eq_false cx8_
          have nz9_ : cmD (S0_.2.2.1 47 (0 + d1_)) (S0_.2.2.1 47 (0 + dd_)) mk_ ((pr_ / 64).toNat * 2 ^ (S0_.1 3 dd_ 1).toNat + ip_.toNat) ((pr_ % 64).toNat * 2 ^ (S0_.1 3 dd_ 1).toNat + ip_.toNat) := fun z9_ => cx8_ (by (rw [n1p, n2p, fT_, f47_]; exact z9_))
          obtain ⟨dp9_, ch9_, dl9_, sp9_⟩ := ccq_d hcq_ (by omega) (by omega) (by omega) hpq_.1 iz9_ nz9_
          refine sm_T_go 3 (c1 := (146, [some (.inr (.inr (some (12, 0)))), some (.inr (.inr (some (47, (0 + d1_))))), some (.inl bg_), some (.inr (.inr (some (3, dd_)))), some (.inl mk_), some (.inl ip9_), none, some (.inl tl_), some (.inl hd9_), some (.inl pr_), some (.inl he_), some (.inl te_), some (.inl ip_), some (.inl (S_.2.2.1 47 (0 + d1_) (i_or he_ ip_).toNat)), some (.inl (S_.2.2.1 47 (0 + dd_) (i_or te_ ip_).toNat)), none], [.inl ip_, .inl pr_, .inr (.inr (some (12, 0)))], S_)) rfl ?_
          refine sm_T_cal (d1 := 0) (Q1 := vq_277w pr_ ip_ dp9_ S_) rfl rfl (by decide) (vc_277w pr_ ip_ dp9_ S_ hI_ (by exact ⟨ch9_, dl9_⟩) (by exact hp_) (by omega) (by omega) (by exact hz_.1)) (fun u_ Sx17_ px20_ => ?_)
          obtain ⟨rfl, hIx18_, hFx19_, px20_⟩ := px20_
          have hFx21_ : ai_fr (sx_W vw_276dw) S0_ Sx17_ := ai_fr_tr hF_ (fr_le hFx19_ rfl)
          have w146_ := px20_
          have bx22_ : 0 ≤ Sx17_.1 12 0 16 ∧ Sx17_.1 12 0 16 ≤ 4096 := hIx18_.1 12 0 16 rfl
          refine sm_T_go 2 (c1 := (153, [some (.inr (.inr (some (12, 0)))), some (.inr (.inr (some (47, (0 + d1_))))), some (.inl bg_), some (.inr (.inr (some (3, dd_)))), some (.inl mk_), some (.inl ip9_), none, some (.inl tl_), some (.inl hd9_), some (.inl pr_), some (.inl he_), some (.inl te_), some (.inl ip_), some (.inl (S_.2.2.1 47 (0 + d1_) (i_or he_ ip_).toNat)), some (.inl (S_.2.2.1 47 (0 + dd_) (i_or te_ ip_).toNat)), none], [.inl (Sx17_.1 12 0 16)], Sx17_)) rfl ?_
          refine sm_T_ri rfl ⟨_, _, rfl, _, rfl, hIx18_, hFx21_, ?_⟩
          first | (rw [w146_]; exact sp9_) | exact ccq_e hcq_ (by omega)
set_option maxHeartbeats 3000000 in
set_option maxRecDepth 20000 in
theorem vc_276dw {sc_ : Nat × (Nat → Int)} (bg_ : Int) (mk_ : Int) (d1_ : Nat) (dd_ : Nat) (R1_ : Nat) (S0_ : sm_S) (hI_ : gi S0_) (hd_ : dOk dd_ S0_) (hb_ : 0 ≤ bg_ ∧ bg_ < 2 ^ R1_) (hr_ : R1_ ≤ 6 ∧ (R1_ : Int) + S0_.1 3 dd_ 1 ≤ 12) (ht_ : ∀ p9_ : Nat, p9_ < 4096 → 0 ≤ S0_.2.2.1 47 (0 + d1_) p9_ ∧ S0_.2.2.1 47 (0 + d1_) p9_ < 2 ^ (16 + R1_)) : sm_T (mt_P sc_) 1 276 (0, [some (.inr (.inr (some (12, 0)))), some (.inr (.inr (some (47, (0 + d1_))))), some (.inl bg_), some (.inr (.inr (some (3, dd_)))), some (.inl mk_), none, none, none, none, none, none, none, none, none, none, none], [], S0_) (fun ro9_ => ∃ u_ S1_, ro9_ = (.inl u_, S1_, 0) ∧ vq_276dw bg_ mk_ d1_ dd_ R1_ S0_ u_ S1_) := by
  have hF_ : ai_fr (sx_W vw_276dw) S0_ S0_ := ai_fr_rf
  have J9_ := dOk_b hd_
  have J9a := J9_.1
  have J9b := J9_.2.1
  have J9c := J9_.2.2.1
  have J9t := J9_.2.2.2.2
  have wa_ := pw_le (n := R1_) (m := 6) (by omega)
  have wb := pw_le (n := (S0_.1 3 dd_ 2).toNat) (m := 6) (by omega)
  have wc_ := pw_pos R1_
  have wd_ := pw_pos (S0_.1 3 dd_ 2).toNat
  have hIx1_ : gi (sm_pI S0_ 12 0 16 0) := gi_pI hI_ (show 0 ≤ 0 ∧ 0 ≤ 4096 from ⟨by omega, by omega⟩)
  have hFx2_ : ai_fr (sx_W vw_276dw) S0_ (sm_pI S0_ 12 0 16 0) := ai_fr_tr hF_ (ai_fr_pI rfl)
  have bx3_ : 0 ≤ S0_.1 3 dd_ 1 ∧ S0_.1 3 dd_ 1 ≤ 320 := hI_.1 3 dd_ 1 rfl
  refine sm_T_go 9 (c1 := (17, [some (.inr (.inr (some (12, 0)))), some (.inr (.inr (some (47, (0 + d1_))))), some (.inl bg_), some (.inr (.inr (some (3, dd_)))), some (.inl mk_), some (.inl (S0_.1 3 dd_ 1)), none, none, none, none, none, none, none, none, none, none], [.inl (-2), .inr (.inr (some (113, 0)))], sm_pI S0_ 12 0 16 0)) rfl ?_
  refine sm_T_cal (d1 := 0) (Q1 := vq_2p (-2) (sm_pI S0_ 12 0 16 0)) rfl rfl (by decide) (vc_2p (-2) (sm_pI S0_ 12 0 16 0) hIx1_ (by decide)) (fun u_ Sx4_ px7_ => ?_)
  obtain ⟨rfl, hIx5_, hFx6_, px7_⟩ := px7_
  have hFx8_ : ai_fr (sx_W vw_276dw) S0_ Sx4_ := ai_fr_tr hFx2_ (fr_le hFx6_ rfl)
  have e17_ := px7_
  have q5_ := hFx6_.1 3 dd_ 5 rfl
  have q1_ := hFx6_.1 3 dd_ 1 rfl
  simp only [rf_nt, rf_nk, ne_eq, Nat.reduceEqDiff, not_false_eq_true] at q5_ q1_
  refine sm_T_go 2 (c1 := (23, [some (.inr (.inr (some (12, 0)))), some (.inr (.inr (some (47, (0 + d1_))))), some (.inl bg_), some (.inr (.inr (some (3, dd_)))), some (.inl mk_), some (.inl (S0_.1 3 dd_ 1)), none, none, none, none, none, none, none, none, none, none], [.inl 6, .inl bg_], Sx4_)) rfl ?_
  refine sm_T_bin (w := 64 * bg_) rfl (bi_shl (k := 6) (by decide) (by omega) (by omega) (by omega)) ?_ -- pc_ 23
  have bx9_ : 0 ≤ Sx4_.1 3 dd_ 5 ∧ Sx4_.1 3 dd_ 5 ≤ 63 := hIx5_.1 3 dd_ 5 rfl
  refine sm_T_go 2 (c1 := (28, [some (.inr (.inr (some (12, 0)))), some (.inr (.inr (some (47, (0 + d1_))))), some (.inl bg_), some (.inr (.inr (some (3, dd_)))), some (.inl mk_), some (.inl (S0_.1 3 dd_ 1)), none, none, none, none, none, none, none, none, none, none], [.inl (Sx4_.1 3 dd_ 5), .inl (64 * bg_)], Sx4_)) rfl ?_
  refine sm_T_bin (w := (i_or (64 * bg_) (Sx4_.1 3 dd_ 5))) rfl rfl ?_ -- pc_ 28
  have bx10_ := or64 (a_ := bg_) (b_ := (Sx4_.1 3 dd_ 5)) (by omega) (by omega)
  refine sm_T_go 5 (c1 := (38, [some (.inr (.inr (some (12, 0)))), some (.inr (.inr (some (47, (0 + d1_))))), some (.inl bg_), some (.inr (.inr (some (3, dd_)))), some (.inl mk_), some (.inl (S0_.1 3 dd_ 1)), some (.inl (i_or (64 * bg_) (Sx4_.1 3 dd_ 5))), none, none, none, none, none, none, none, none, none], [.inl (-1), .inl (i_or (64 * bg_) (Sx4_.1 3 dd_ 5)), .inr (.inr (some (113, 0)))], Sx4_)) rfl ?_
  refine sm_T_iast (n := 4096) rfl rfl (by omega) (by omega) ?_
  have hIx11_ : gi (sm_aI Sx4_ 113 0 (i_or (64 * bg_) (Sx4_.1 3 dd_ 5)).toNat (-1)) := gi_aI hIx5_ (show (-2) ≤ (-1) ∧ (-1) ≤ 4095 from ⟨by omega, by omega⟩)
  have hFx12_ : ai_fr (sx_W vw_276dw) S0_ (sm_aI Sx4_ 113 0 (i_or (64 * bg_) (Sx4_.1 3 dd_ 5)).toNat (-1)) := ai_fr_tr hFx8_ (ai_fr_aI rfl)
  refine sm_T_go 4 (c1 := (46, [some (.inr (.inr (some (12, 0)))), some (.inr (.inr (some (47, (0 + d1_))))), some (.inl bg_), some (.inr (.inr (some (3, dd_)))), some (.inl mk_), some (.inl (S0_.1 3 dd_ 1)), some (.inl (i_or (64 * bg_) (Sx4_.1 3 dd_ 5))), none, none, none, none, none, none, none, none, none], [.inl (i_or (64 * bg_) (Sx4_.1 3 dd_ 5)), .inl 0, .inr (.inr (some (115, 0)))], sm_aI Sx4_ 113 0 (i_or (64 * bg_) (Sx4_.1 3 dd_ 5)).toNat (-1))) rfl ?_
  refine sm_T_iast (n := 4096) rfl rfl (by omega) (by omega) ?_
  have hIx13_ : gi (sm_aI (sm_aI Sx4_ 113 0 (i_or (64 * bg_) (Sx4_.1 3 dd_ 5)).toNat (-1)) 115 0 (0 : Int).toNat (i_or (64 * bg_) (Sx4_.1 3 dd_ 5))) := gi_aI hIx11_ (show 0 ≤ (i_or (64 * bg_) (Sx4_.1 3 dd_ 5)) ∧ (i_or (64 * bg_) (Sx4_.1 3 dd_ 5)) ≤ 4095 from ⟨by omega, by omega⟩)
  have hFx14_ : ai_fr (sx_W vw_276dw) S0_ (sm_aI (sm_aI Sx4_ 113 0 (i_or (64 * bg_) (Sx4_.1 3 dd_ 5)).toNat (-1)) 115 0 (0 : Int).toNat (i_or (64 * bg_) (Sx4_.1 3 dd_ 5))) := ai_fr_tr hFx12_ (ai_fr_aI rfl)
  refine sm_T_go 4 (c1 := (53, [some (.inr (.inr (some (12, 0)))), some (.inr (.inr (some (47, (0 + d1_))))), some (.inl bg_), some (.inr (.inr (some (3, dd_)))), some (.inl mk_), some (.inl (S0_.1 3 dd_ 1)), some (.inl (i_or (64 * bg_) (Sx4_.1 3 dd_ 5))), some (.inl 1), some (.inl 0), none, none, none, none, none, none, none], [], sm_aI (sm_aI Sx4_ 113 0 (i_or (64 * bg_) (Sx4_.1 3 dd_ 5)).toNat (-1)) 115 0 (0 : Int).toNat (i_or (64 * bg_) (Sx4_.1 3 dd_ 5)))) rfl ?_
  refine sm_T_wk [some (.inr (.inr (some (12, 0)))), some (.inr (.inr (some (47, (0 + d1_))))), some (.inl bg_), some (.inr (.inr (some (3, dd_)))), some (.inl mk_), some (.inl (S0_.1 3 dd_ 1)), none, some (.inl 1), some (.inl 0), none, none, none, none, none, none, none] (by exact ⟨rfl, rfl, rfl, rfl, rfl, rfl, rfl, rfl, trivial⟩) ?_
  refine (vl_276dw bg_ mk_ d1_ dd_ R1_ S0_ hd_ hb_ hr_ ht_ _).1 (S0_.1 3 dd_ 1) 1 0 (sm_aI (sm_aI Sx4_ 113 0 (i_or (64 * bg_) (Sx4_.1 3 dd_ 5)).toNat (-1)) 115 0 (0 : Int).toNat (i_or (64 * bg_) (Sx4_.1 3 dd_ 5))) hIx13_ hFx14_ ⟨?_, ?_, ?_, ?_, ?_, trivial⟩ (Nat.lt_succ_self _)
  · obtain ⟨FF_, hFF_⟩ : ∃ FF_, FF_ = i_or (64 * bg_) (Sx4_.1 3 dd_ 5) := ⟨_, rfl⟩
    have r1_ : ((sm_aI (sm_aI Sx4_ 113 0 (i_or (64 * bg_) (Sx4_.1 3 dd_ 5)).toNat (-1)) 115 0 (0 : Int).toNat (i_or (64 * bg_) (Sx4_.1 3 dd_ 5)))).2.2.1 115 0 0 = FF_ := by (rw [rd_eq, if_pos (by decide)]; exact hFF_.symm)
    have r2_ : ∀ j9_, ((sm_aI (sm_aI Sx4_ 113 0 (i_or (64 * bg_) (Sx4_.1 3 dd_ 5)).toNat (-1)) 115 0 (0 : Int).toNat (i_or (64 * bg_) (Sx4_.1 3 dd_ 5)))).2.2.1 113 0 j9_ = if j9_ = FF_.toNat then (-1) else Sx4_.2.2.1 113 0 j9_ := fun j9_ => by rw [rd_ne (by decide), rd_eq, hFF_]
    intro j9_ hj9_ w9_
    rw [r2_] at w9_ ⊢
    left
    by_cases z9_ : j9_ = FF_.toNat
    · rw [if_pos z9_]
    · rw [if_neg z9_, e17_ j9_ hj9_] at w9_
      exact absurd rfl w9_
  · obtain ⟨FF_, hFF_⟩ : ∃ FF_, FF_ = i_or (64 * bg_) (Sx4_.1 3 dd_ 5) := ⟨_, rfl⟩
    have r1_ : ((sm_aI (sm_aI Sx4_ 113 0 (i_or (64 * bg_) (Sx4_.1 3 dd_ 5)).toNat (-1)) 115 0 (0 : Int).toNat (i_or (64 * bg_) (Sx4_.1 3 dd_ 5)))).2.2.1 115 0 0 = FF_ := by (rw [rd_eq, if_pos (by decide)]; exact hFF_.symm)
    have r2_ : ∀ j9_, ((sm_aI (sm_aI Sx4_ 113 0 (i_or (64 * bg_) (Sx4_.1 3 dd_ 5)).toNat (-1)) 115 0 (0 : Int).toNat (i_or (64 * bg_) (Sx4_.1 3 dd_ 5)))).2.2.1 113 0 j9_ = if j9_ = FF_.toNat then (-1) else Sx4_.2.2.1 113 0 j9_ := fun j9_ => by rw [rd_ne (by decide), rd_eq, hFF_]
    intro j9_ hj9_
    have z9_ : j9_ = 0 := by omega
    rw [z9_, r1_, r2_, if_pos rfl]
    exact ⟨by decide, by omega, by omega⟩
  · obtain ⟨FF_, hFF_⟩ : ∃ FF_, FF_ = i_or (64 * bg_) (Sx4_.1 3 dd_ 5) := ⟨_, rfl⟩
    have r1_ : ((sm_aI (sm_aI Sx4_ 113 0 (i_or (64 * bg_) (Sx4_.1 3 dd_ 5)).toNat (-1)) 115 0 (0 : Int).toNat (i_or (64 * bg_) (Sx4_.1 3 dd_ 5)))).2.2.1 115 0 0 = FF_ := by (rw [rd_eq, if_pos (by decide)]; exact hFF_.symm)
    have r2_ : ∀ j9_, ((sm_aI (sm_aI Sx4_ 113 0 (i_or (64 * bg_) (Sx4_.1 3 dd_ 5)).toNat (-1)) 115 0 (0 : Int).toNat (i_or (64 * bg_) (Sx4_.1 3 dd_ 5)))).2.2.1 113 0 j9_ = if j9_ = FF_.toNat then (-1) else Sx4_.2.2.1 113 0 j9_ := fun j9_ => by rw [rd_ne (by decide), rd_eq, hFF_]
    rw [cn1_cg (g := fun k9_ : Nat => if k9_ = FF_.toNat then (1 : Int) else 0) (fun k9_ hk9_ => ?_), cn1_one (j := FF_.toNat) (fun k9_ => ?_) 4096, if_pos (by omega)]
    · rfl
    · constructor
      · intro y9_; by_cases y8_ : k9_ = FF_.toNat; exact y8_; (rw [if_neg y8_] at y9_; exact absurd y9_ (by decide))
      · intro y9_; exact if_pos y9_
    · unfold pn2
      rw [r2_]
      by_cases y9_ : k9_ = FF_.toNat
      · rw [if_pos y9_, if_pos y9_]; rfl
      · rw [if_neg y9_, if_neg y9_, e17_ k9_ hk9_]; rfl
  · obtain ⟨FF_, hFF_⟩ : ∃ FF_, FF_ = i_or (64 * bg_) (Sx4_.1 3 dd_ 5) := ⟨_, rfl⟩
    have r1_ : ((sm_aI (sm_aI Sx4_ 113 0 (i_or (64 * bg_) (Sx4_.1 3 dd_ 5)).toNat (-1)) 115 0 (0 : Int).toNat (i_or (64 * bg_) (Sx4_.1 3 dd_ 5)))).2.2.1 115 0 0 = FF_ := by (rw [rd_eq, if_pos (by decide)]; exact hFF_.symm)
    have r2_ : ∀ j9_, ((sm_aI (sm_aI Sx4_ 113 0 (i_or (64 * bg_) (Sx4_.1 3 dd_ 5)).toNat (-1)) 115 0 (0 : Int).toNat (i_or (64 * bg_) (Sx4_.1 3 dd_ 5)))).2.2.1 113 0 j9_ = if j9_ = FF_.toNat then (-1) else Sx4_.2.2.1 113 0 j9_ := fun j9_ => by rw [rd_ne (by decide), rd_eq, hFF_]
    refine ccq_0 (f_ := FF_) ⟨pw_tn hb_.1 hb_.2, pw_tn (by omega) (by omega)⟩ ⟨by omega, by omega⟩ (by omega) (fun j9_ hj9_ => ?_) r1_
    rw [r2_]
    by_cases z9_ : j9_ = FF_.toNat
    · rw [if_pos z9_, if_pos z9_]
    · rw [if_neg z9_, if_neg z9_]; exact e17_ j9_ hj9_
  · omega
/-! ChipFlow.compare -/
def vw_276sw : sx_Wl := ([(12, 16)], [113, 114, 115, 117], [])
def vq_276sw (bg_ : Int) (mk_ : Int) (dd_ : Nat) (R1_ : Nat) (S0_ : sm_S) (u_ : Option sm_V) (S1_ : sm_S) : Prop := ∃ v_ : Int, u_ = some (.inl v_) ∧ gi S1_ ∧ ai_fr (sx_W vw_276sw) S0_ S1_ ∧ (bfsp (S0_.1 3 dd_ 1).toNat (cmD (S0_.2.2.1 116 0) (S0_.2.2.1 47 (0 + dd_)) mk_) (nx6 (S0_.2.2.1 116 0)) (nx6 (S0_.2.2.1 47 (0 + dd_))) bg_.toNat (S0_.1 3 dd_ 5).toNat v_)
set_option maxHeartbeats 3000000 in
set_option maxRecDepth 20000 in
theorem vl_276sw {sc_ : Nat × (Nat → Int)} (bg_ : Int) (mk_ : Int) (dd_ : Nat) (R1_ : Nat) (S0_ : sm_S) (hd_ : dOk dd_ S0_) (hb_ : 0 ≤ bg_ ∧ bg_ < 2 ^ R1_) (hr_ : R1_ ≤ 6 ∧ (R1_ : Int) + S0_.1 3 dd_ 1 ≤ 12) (ht_ : ∀ p9_ : Nat, p9_ < 4096 → 0 ≤ S0_.2.2.1 116 0 p9_ ∧ S0_.2.2.1 116 0 p9_ < 2 ^ (16 + R1_)) : ∀ nn_ : Nat, (∀ (ip9_ : Int) (tl_ : Int) (hd9_ : Int) (S_ : sm_S), gi S_ → ai_fr (sx_W vw_276sw) S0_ S_ → ((prf S_) ∧ (∀ j9_ : Nat, (j9_ : Int) < tl_ → S_.2.2.1 113 0 (S_.2.2.1 115 0 j9_).toNat ≠ -2 ∧ S_.2.2.1 115 0 j9_ / 64 < 2 ^ R1_ ∧ S_.2.2.1 115 0 j9_ % 64 < 2 ^ (S0_.1 3 dd_ 2).toNat) ∧ (tl_ = (cn1 (pn2 (S_.2.2.1 113 0)) 4096 : Int)) ∧ (ccq (S0_.1 3 dd_ 1).toNat R1_ (S0_.1 3 dd_ 2).toNat (cmD (S0_.2.2.1 116 0) (S0_.2.2.1 47 (0 + dd_)) mk_) (nx6 (S0_.2.2.1 116 0)) (nx6 (S0_.2.2.1 47 (0 + dd_))) bg_.toNat (S0_.1 3 dd_ 5).toNat hd9_.toNat 0 tl_ (S_.2.2.1 113 0) (S_.2.2.1 115 0)) ∧ (1 ≤ tl_ ∧ 0 ≤ hd9_ ∧ hd9_ ≤ 4096 ∧ ip9_ = S0_.1 3 dd_ 1) ∧ True) → ((10000 * (5000 - hd9_) + 5000).toNat) < nn_ → sm_T (mt_P sc_) 1 276 (53, [some (.inr (.inr (some (12, 0)))), some (.inr (.inr (some (116, 0)))), some (.inl bg_), some (.inr (.inr (some (3, dd_)))), some (.inl mk_), some (.inl ip9_), none, some (.inl tl_), some (.inl hd9_), none, none, none, none, none, none, none], [], S_) (fun ro9_ => ∃ u_ S1_, ro9_ = (.inl u_, S1_, 0) ∧ vq_276sw bg_ mk_ dd_ R1_ S0_ u_ S1_)) ∧ (∀ (ip9_ : Int) (tl_ : Int) (hd9_ : Int) (pr_ : Int) (he_ : Int) (te_ : Int) (ip_ : Int) (S_ : sm_S), gi S_ → ai_fr (sx_W vw_276sw) S0_ S_ → ((prf S_) ∧ (∀ j9_ : Nat, (j9_ : Int) < tl_ → S_.2.2.1 113 0 (S_.2.2.1 115 0 j9_).toNat ≠ -2 ∧ S_.2.2.1 115 0 j9_ / 64 < 2 ^ R1_ ∧ S_.2.2.1 115 0 j9_ % 64 < 2 ^ (S0_.1 3 dd_ 2).toNat) ∧ (tl_ = (cn1 (pn2 (S_.2.2.1 113 0)) 4096 : Int)) ∧ (ccq (S0_.1 3 dd_ 1).toNat R1_ (S0_.1 3 dd_ 2).toNat (cmD (S0_.2.2.1 116 0) (S0_.2.2.1 47 (0 + dd_)) mk_) (nx6 (S0_.2.2.1 116 0)) (nx6 (S0_.2.2.1 47 (0 + dd_))) bg_.toNat (S0_.1 3 dd_ 5).toNat hd9_.toNat ip_.toNat tl_ (S_.2.2.1 113 0) (S_.2.2.1 115 0)) ∧ (S_.2.2.1 115 0 hd9_.toNat = pr_ ∧ hd9_ < tl_) ∧ (ip_.toNat ≤ 2 ^ (S0_.1 3 dd_ 1).toNat) ∧ (1 ≤ tl_ ∧ 0 ≤ hd9_ ∧ hd9_ < 4096 ∧ ip9_ = S0_.1 3 dd_ 1 ∧ 0 ≤ ip_ ∧ ip_ ≤ 4096 ∧ 0 ≤ pr_ ∧ pr_ ≤ 4095) ∧ (he_ = i_shl (pr_ / 64) ip9_ ∧ te_ = i_shl (pr_ % 64) ip9_) ∧ (S_.2.2.1 113 0 pr_.toNat ≠ -2 ∧ pr_ / 64 < 2 ^ R1_ ∧ pr_ % 64 < 2 ^ (S0_.1 3 dd_ 2).toNat) ∧ True) → ((10000 * (5000 - hd9_) + 4500 - ip_).toNat) < nn_ → sm_T (mt_P sc_) 1 276 (100, [some (.inr (.inr (some (12, 0)))), some (.inr (.inr (some (116, 0)))), some (.inl bg_), some (.inr (.inr (some (3, dd_)))), some (.inl mk_), some (.inl ip9_), none, some (.inl tl_), some (.inl hd9_), some (.inl pr_), some (.inl he_), some (.inl te_), some (.inl ip_), none, none, none], [], S_) (fun ro9_ => ∃ u_ S1_, ro9_ = (.inl u_, S1_, 0) ∧ vq_276sw bg_ mk_ dd_ R1_ S0_ u_ S1_)) := by
  intro nn_
  induction nn_ with
  | zero => exact ⟨fun _ _ _ _ _ _ _ h_ => absurd h_ (Nat.not_lt_zero _), fun _ _ _ _ _ _ _ _ _ _ _ h_ => absurd h_ (Nat.not_lt_zero _)⟩
  | succ nn_ ih_ =>
    refine ⟨?_, ?_⟩
    · rintro ip9_ tl_ hd9_ S_ hI_ hF_ ⟨hp_, hq_, hc_, hcq_, h0_, -⟩ hm_
      have J9_ := dOk_b hd_
      have J9a := J9_.1
      have J9b := J9_.2.1
      have J9c := J9_.2.2.1
      have J9t := J9_.2.2.2.2
      have wa_ := pw_le (n := R1_) (m := 6) (by omega)
      have wb := pw_le (n := (S0_.1 3 dd_ 2).toNat) (m := 6) (by omega)
      have wc_ := pw_pos R1_
      have wd_ := pw_pos (S0_.1 3 dd_ 2).toNat
      have fT_ : S_.2.2.1 116 0 = S0_.2.2.1 116 0 := fr_arr hF_ rfl
      have f47_ : S_.2.2.1 47 (0 + dd_) = S0_.2.2.1 47 (0 + dd_) := fr_arr hF_ rfl
      have cl9_ := cn1_le (pn2 (S_.2.2.1 113 0)) 4096
      refine sm_T_go 2 (c1 := (57, [some (.inr (.inr (some (12, 0)))), some (.inr (.inr (some (116, 0)))), some (.inl bg_), some (.inr (.inr (some (3, dd_)))), some (.inl mk_), some (.inl ip9_), none, some (.inl tl_), some (.inl hd9_), none, none, none, none, none, none, none], [.inl tl_, .inl hd9_], S_)) rfl ?_
      refine sm_T_br (a := 3) (z := 167) rfl (fun cx1_ => ?_) (fun cx1_ => ?_)
      · have cx1_ : tl_ ≤ hd9_ := of_decide_eq_true cx1_
        refine sm_T_go 1 (c1 := (225, [some (.inr (.inr (some (12, 0)))), some (.inr (.inr (some (116, 0)))), some (.inl bg_), some (.inr (.inr (some (3, dd_)))), some (.inl mk_), some (.inl ip9_), none, some (.inl tl_), some (.inl hd9_), none, none, none, none, none, none, none], [.inl 0], S_)) rfl ?_
        refine sm_T_ri rfl ⟨_, _, rfl, _, rfl, hI_, hF_, ?_⟩
        first | (rw [w146_]; exact sp9_) | exact ccq_e hcq_ (by omega)
      · have cx1_ : ¬ (tl_ ≤ hd9_) := of_decide_eq_false cx1_
        refine sm_T_go 2 (c1 := (65, [some (.inr (.inr (some (12, 0)))), some (.inr (.inr (some (116, 0)))), some (.inl bg_), some (.inr (.inr (some (3, dd_)))), some (.inl mk_), some (.inl ip9_), none, some (.inl tl_), some (.inl hd9_), none, none, none, none, none, none, none], [.inl 4096, .inl hd9_], S_)) rfl ?_
        refine sm_T_br (a := 3) (z := 159) rfl (fun cx2_ => ?_) (fun cx2_ => ?_)
        · have cx2_ : 4096 ≤ hd9_ := of_decide_eq_true cx2_
          refine sm_T_go 1 (c1 := (225, [some (.inr (.inr (some (12, 0)))), some (.inr (.inr (some (116, 0)))), some (.inl bg_), some (.inr (.inr (some (3, dd_)))), some (.inl mk_), some (.inl ip9_), none, some (.inl tl_), some (.inl hd9_), none, none, none, none, none, none, none], [.inl 0], S_)) rfl ?_
          refine sm_T_ri rfl ⟨_, _, rfl, _, rfl, hI_, hF_, ?_⟩
          first | (rw [w146_]; exact sp9_) | exact ccq_e hcq_ (by omega)
        · have cx2_ : ¬ (4096 ≤ hd9_) := of_decide_eq_false cx2_
          have hq9_ := hq_ hd9_.toNat (by omega)
          have qc9_ := hI_.2 115 0 hd9_.toNat
          refine sm_T_go 3 (c1 := (74, [some (.inr (.inr (some (12, 0)))), some (.inr (.inr (some (116, 0)))), some (.inl bg_), some (.inr (.inr (some (3, dd_)))), some (.inl mk_), some (.inl ip9_), none, some (.inl tl_), some (.inl hd9_), none, none, none, none, none, none, none], [.inl hd9_, .inr (.inr (some (115, 0)))], S_)) rfl ?_
          refine sm_T_iald (n := 4096) rfl rfl (by omega) (by omega) ?_
          have bx3_ : 0 ≤ S_.2.2.1 115 0 hd9_.toNat ∧ S_.2.2.1 115 0 hd9_.toNat ≤ 4095 := hI_.2 115 0 _
          refine sm_T_go 3 (c1 := (81, [some (.inr (.inr (some (12, 0)))), some (.inr (.inr (some (116, 0)))), some (.inl bg_), some (.inr (.inr (some (3, dd_)))), some (.inl mk_), some (.inl ip9_), none, some (.inl tl_), some (.inl hd9_), some (.inl (S_.2.2.1 115 0 hd9_.toNat)), none, none, none, none, none, none], [.inl 6, .inl (S_.2.2.1 115 0 hd9_.toNat)], S_)) rfl ?_
          refine sm_T_bin (w := ((S_.2.2.1 115 0 hd9_.toNat) / 64)) rfl (bi_shr (k := 6) (by decide) (by omega) (by omega)) ?_ -- pc_ 81
          refine sm_T_go 1 (c1 := (84, [some (.inr (.inr (some (12, 0)))), some (.inr (.inr (some (116, 0)))), some (.inl bg_), some (.inr (.inr (some (3, dd_)))), some (.inl mk_), some (.inl ip9_), none, some (.inl tl_), some (.inl hd9_), some (.inl (S_.2.2.1 115 0 hd9_.toNat)), none, none, none, none, none, none], [.inl ip9_, .inl ((S_.2.2.1 115 0 hd9_.toNat) / 64)], S_)) rfl ?_
          refine sm_T_bin (w := (i_shl ((S_.2.2.1 115 0 hd9_.toNat) / 64) ip9_)) rfl rfl ?_ -- pc_ 84
          refine sm_T_go 3 (c1 := (91, [some (.inr (.inr (some (12, 0)))), some (.inr (.inr (some (116, 0)))), some (.inl bg_), some (.inr (.inr (some (3, dd_)))), some (.inl mk_), some (.inl ip9_), none, some (.inl tl_), some (.inl hd9_), some (.inl (S_.2.2.1 115 0 hd9_.toNat)), some (.inl (i_shl ((S_.2.2.1 115 0 hd9_.toNat) / 64) ip9_)), none, none, none, none, none], [.inl 63, .inl (S_.2.2.1 115 0 hd9_.toNat)], S_)) rfl ?_
          refine sm_T_bin (w := ((S_.2.2.1 115 0 hd9_.toNat) % 64)) rfl (bi_msk (k := 6) (by decide)) ?_ -- pc_ 91
          refine sm_T_go 1 (c1 := (94, [some (.inr (.inr (some (12, 0)))), some (.inr (.inr (some (116, 0)))), some (.inl bg_), some (.inr (.inr (some (3, dd_)))), some (.inl mk_), some (.inl ip9_), none, some (.inl tl_), some (.inl hd9_), some (.inl (S_.2.2.1 115 0 hd9_.toNat)), some (.inl (i_shl ((S_.2.2.1 115 0 hd9_.toNat) / 64) ip9_)), none, none, none, none, none], [.inl ip9_, .inl ((S_.2.2.1 115 0 hd9_.toNat) % 64)], S_)) rfl ?_
          refine sm_T_bin (w := (i_shl ((S_.2.2.1 115 0 hd9_.toNat) % 64) ip9_)) rfl rfl ?_ -- pc_ 94
          refine sm_T_go 3 (c1 := (100, [some (.inr (.inr (some (12, 0)))), some (.inr (.inr (some (116, 0)))), some (.inl bg_), some (.inr (.inr (some (3, dd_)))), some (.inl mk_), some (.inl ip9_), none, some (.inl tl_), some (.inl hd9_), some (.inl (S_.2.2.1 115 0 hd9_.toNat)), some (.inl (i_shl ((S_.2.2.1 115 0 hd9_.toNat) / 64) ip9_)), some (.inl (i_shl ((S_.2.2.1 115 0 hd9_.toNat) % 64) ip9_)), some (.inl 0), none, none, none], [], S_)) rfl ?_
          refine ih_.2 ip9_ tl_ hd9_ (S_.2.2.1 115 0 hd9_.toNat) (i_shl ((S_.2.2.1 115 0 hd9_.toNat) / 64) ip9_) (i_shl ((S_.2.2.1 115 0 hd9_.toNat) % 64) ip9_) 0 S_ hI_ hF_ ⟨?_, ?_, ?_, ?_, ?_, ?_, ?_, ?_, ?_, trivial⟩ ?_
          · exact hp_
          · exact hq_
          · exact hc_
          · exact hcq_
          · exact ⟨rfl, by omega⟩
          · exact Nat.zero_le _
          · omega
          · exact ⟨rfl, rfl⟩
          · exact hq9_
          · omega
    · rintro ip9_ tl_ hd9_ pr_ he_ te_ ip_ S_ hI_ hF_ ⟨hp_, hq_, hc_, hcq_, hpq_, hip_, h0_, hh_, hz_, -⟩ hm_
      have J9_ := dOk_b hd_
      have J9a := J9_.1
      have J9b := J9_.2.1
      have J9c := J9_.2.2.1
      have J9t := J9_.2.2.2.2
      have wa_ := pw_le (n := R1_) (m := 6) (by omega)
      have wb := pw_le (n := (S0_.1 3 dd_ 2).toNat) (m := 6) (by omega)
      have wc_ := pw_pos R1_
      have wd_ := pw_pos (S0_.1 3 dd_ 2).toNat
      have fT_ : S_.2.2.1 116 0 = S0_.2.2.1 116 0 := fr_arr hF_ rfl
      have f47_ : S_.2.2.1 47 (0 + dd_) = S0_.2.2.1 47 (0 + dd_) := fr_arr hF_ rfl
      have cl9_ := cn1_le (pn2 (S_.2.2.1 113 0)) 4096
      refine sm_T_go 3 (c1 := (105, [some (.inr (.inr (some (12, 0)))), some (.inr (.inr (some (116, 0)))), some (.inl bg_), some (.inr (.inr (some (3, dd_)))), some (.inl mk_), some (.inl ip9_), none, some (.inl tl_), some (.inl hd9_), some (.inl pr_), some (.inl he_), some (.inl te_), some (.inl ip_), none, none, none], [.inl ip9_, .inl 1, .inl ip_], S_)) rfl ?_
      refine sm_T_bin (w := (i_shl 1 ip9_)) rfl rfl ?_ -- pc_ 105
      have bx1_ := i_shl1 (e := ip9_) (by omega) (by omega)
      have wp_ := pw_le (n := (ip9_).toNat) (m := 12) (by omega)
      have wp0_ := pw_pos (ip9_).toNat
      have wp1_ : (2 : Int) ^ (ip9_).toNat = 2 ^ (S0_.1 3 dd_ 1).toNat := by rw [show ip9_ = S0_.1 3 dd_ 1 by omega]
      refine sm_T_br (a := 3) (z := 112) rfl (fun cx5_ => ?_) (fun cx5_ => ?_)
      · have cx5_ : (i_shl 1 ip9_) ≤ ip_ := of_decide_eq_true cx5_
        refine sm_T_inc (a := 8) (z := 1) (v := hd9_) (w := hd9_ + 1) rfl rfl (by omega) (by omega) (by omega) ?_ -- pc_ 218
        refine sm_T_go 1 (c1 := (53, [some (.inr (.inr (some (12, 0)))), some (.inr (.inr (some (116, 0)))), some (.inl bg_), some (.inr (.inr (some (3, dd_)))), some (.inl mk_), some (.inl ip9_), none, some (.inl tl_), some (.inl (hd9_ + 1)), some (.inl pr_), some (.inl he_), some (.inl te_), some (.inl ip_), none, none, none], [], S_)) rfl ?_
        refine sm_T_wk [some (.inr (.inr (some (12, 0)))), some (.inr (.inr (some (116, 0)))), some (.inl bg_), some (.inr (.inr (some (3, dd_)))), some (.inl mk_), some (.inl ip9_), none, some (.inl tl_), some (.inl (hd9_ + 1)), none, none, none, none, none, none, none] (by exact ⟨rfl, rfl, rfl, rfl, rfl, rfl, rfl, rfl, trivial⟩) ?_
        refine ih_.1 ip9_ tl_ (hd9_ + 1) S_ hI_ hF_ ⟨?_, ?_, ?_, ?_, ?_, trivial⟩ ?_
        · exact hp_
        · exact hq_
        · exact hc_
        · rw [show (hd9_ + 1).toNat = hd9_.toNat + 1 by omega]
          exact ccq_n hcq_ (by have z9_ := pw_nn (k_ := (S0_.1 3 dd_ 1).toNat); omega)
        · omega
        · omega
      · have cx5_ : ¬ ((i_shl 1 ip9_) ≤ ip_) := of_decide_eq_false cx5_
        have p1_ := pat_b (s_ := pr_ / 64) (i_ := ip_) (R_ := R1_) (I_ := (S0_.1 3 dd_ 1).toNat) (by omega) (by omega) (by omega)
        have p2_ := pat_b (s_ := pr_ % 64) (i_ := ip_) (R_ := (S0_.1 3 dd_ 2).toNat) (I_ := (S0_.1 3 dd_ 1).toNat) (by omega) (by omega) (by omega)
        have p3_ := pw_le (n := R1_ + (S0_.1 3 dd_ 1).toNat) (m := 12) (by omega)
        have p4_ := pw_le (n := (S0_.1 3 dd_ 2).toNat + (S0_.1 3 dd_ 1).toNat) (m := 12) (by omega)
        rw [show (((S0_.1 3 dd_ 1).toNat : Nat) : Int) = ip9_ by omega, ← hh_.1] at p1_
        rw [show (((S0_.1 3 dd_ 1).toNat : Nat) : Int) = ip9_ by omega, ← hh_.2] at p2_
        have n1p := pat_n (s_ := pr_ / 64) (i_ := ip_) (R_ := R1_) (I_ := (S0_.1 3 dd_ 1).toNat) (by omega) (by omega) (by omega)
        have n2p := pat_n (s_ := pr_ % 64) (i_ := ip_) (R_ := (S0_.1 3 dd_ 2).toNat) (I_ := (S0_.1 3 dd_ 1).toNat) (by omega) (by omega) (by omega)
        rw [show (((S0_.1 3 dd_ 1).toNat : Nat) : Int) = ip9_ by omega, ← hh_.1] at n1p
        rw [show (((S0_.1 3 dd_ 1).toNat : Nat) : Int) = ip9_ by omega, ← hh_.2] at n2p
        have iz9_ : ip_.toNat < 2 ^ (S0_.1 3 dd_ 1).toNat := (by have z9_ := pw_nn (k_ := (S0_.1 3 dd_ 1).toNat); omega)
        have t1_ := ht_ (i_or he_ ip_).toNat (by omega)
        have t2_ := J9t (i_or te_ ip_).toNat (by omega)
        rw [← fT_] at t1_
        rw [← f47_] at t2_
        have n1_ := shr16 t1_
        have n2_ := shr16 t2_
        have o9_ := or64 (a_ := S_.2.2.1 116 0 (i_or he_ ip_).toNat / 65536) (b_ := S_.2.2.1 47 (0 + dd_) (i_or te_ ip_).toNat / 65536) (by omega) (by omega)
        refine sm_T_go 3 (c1 := (114, [some (.inr (.inr (some (12, 0)))), some (.inr (.inr (some (116, 0)))), some (.inl bg_), some (.inr (.inr (some (3, dd_)))), some (.inl mk_), some (.inl ip9_), none, some (.inl tl_), some (.inl hd9_), some (.inl pr_), some (.inl he_), some (.inl te_), some (.inl ip_), none, none, none], [.inl ip_, .inl he_, .inr (.inr (some (116, 0)))], S_)) rfl ?_
        refine sm_T_bin (w := (i_or he_ ip_)) rfl rfl ?_ -- pc_ 114
        refine sm_T_iald (n := 4096) rfl rfl (by omega) (by omega) ?_
        have bx6_ : 0 ≤ S_.2.2.1 116 0 (i_or he_ ip_).toNat ∧ S_.2.2.1 116 0 (i_or he_ ip_).toNat ≤ 0 := hI_.2 116 0 _
        refine sm_T_go 5 (c1 := (126, [some (.inr (.inr (some (12, 0)))), some (.inr (.inr (some (116, 0)))), some (.inl bg_), some (.inr (.inr (some (3, dd_)))), some (.inl mk_), some (.inl ip9_), none, some (.inl tl_), some (.inl hd9_), some (.inl pr_), some (.inl he_), some (.inl te_), some (.inl ip_), some (.inl (S_.2.2.1 116 0 (i_or he_ ip_).toNat)), none, none], [.inl ip_, .inl te_, .inr (.inr (some (47, (0 + dd_))))], S_)) rfl ?_
        refine sm_T_bin (w := (i_or te_ ip_)) rfl rfl ?_ -- pc_ 126
        refine sm_T_iald (n := 4096) rfl rfl (by omega) (by omega) ?_
        have bx7_ : 0 ≤ S_.2.2.1 47 (0 + dd_) (i_or te_ ip_).toNat ∧ S_.2.2.1 47 (0 + dd_) (i_or te_ ip_).toNat ≤ 4194303 := hI_.2 47 (0 + dd_) _
        refine sm_T_go 3 (c1 := (134, [some (.inr (.inr (some (12, 0)))), some (.inr (.inr (some (116, 0)))), some (.inl bg_), some (.inr (.inr (some (3, dd_)))), some (.inl mk_), some (.inl ip9_), none, some (.inl tl_), some (.inl hd9_), some (.inl pr_), some (.inl he_), some (.inl te_), some (.inl ip_), some (.inl (S_.2.2.1 116 0 (i_or he_ ip_).toNat)), some (.inl (S_.2.2.1 47 (0 + dd_) (i_or te_ ip_).toNat)), none], [.inl (S_.2.2.1 47 (0 + dd_) (i_or te_ ip_).toNat), .inl (S_.2.2.1 116 0 (i_or he_ ip_).toNat)], S_)) rfl ?_
        refine sm_T_bin (w := (i_xor (S_.2.2.1 116 0 (i_or he_ ip_).toNat) (S_.2.2.1 47 (0 + dd_) (i_or te_ ip_).toNat))) rfl rfl ?_ -- pc_ 134
        refine sm_T_go 1 (c1 := (137, [some (.inr (.inr (some (12, 0)))), some (.inr (.inr (some (116, 0)))), some (.inl bg_), some (.inr (.inr (some (3, dd_)))), some (.inl mk_), some (.inl ip9_), none, some (.inl tl_), some (.inl hd9_), some (.inl pr_), some (.inl he_), some (.inl te_), some (.inl ip_), some (.inl (S_.2.2.1 116 0 (i_or he_ ip_).toNat)), some (.inl (S_.2.2.1 47 (0 + dd_) (i_or te_ ip_).toNat)), none], [.inl mk_, .inl (i_xor (S_.2.2.1 116 0 (i_or he_ ip_).toNat) (S_.2.2.1 47 (0 + dd_) (i_or te_ ip_).toNat))], S_)) rfl ?_
        refine sm_T_bin (w := (i_and (i_xor (S_.2.2.1 116 0 (i_or he_ ip_).toNat) (S_.2.2.1 47 (0 + dd_) (i_or te_ ip_).toNat)) mk_)) rfl rfl ?_ -- pc_ 137
        refine sm_T_b0 (a := 0) (z := 16) rfl (fun cx8_ => ?_) (fun cx8_ => ?_)
        · have cx8_ : (i_and (i_xor (S_.2.2.1 116 0 (i_or he_ ip_).toNat) (S_.2.2.1 47 (0 + dd_) (i_or te_ ip_).toNat)) mk_) = 0 := of_decide_eq_true cx8_
          have nn9_ : ¬ cmD (S0_.2.2.1 116 0) (S0_.2.2.1 47 (0 + dd_)) mk_ ((pr_ / 64).toNat * 2 ^ (S0_.1 3 dd_ 1).toNat + ip_.toNat) ((pr_ % 64).toNat * 2 ^ (S0_.1 3 dd_ 1).toNat + ip_.toNat) := fun z9_ => z9_ (by (rw [← n1p, ← n2p, ← fT_, ← f47_]; exact cx8_))
          refine sm_T_go 2 (c1 := (158, [some (.inr (.inr (some (12, 0)))), some (.inr (.inr (some (116, 0)))), some (.inl bg_), some (.inr (.inr (some (3, dd_)))), some (.inl mk_), some (.inl ip9_), none, some (.inl tl_), some (.inl hd9_), some (.inl pr_), some (.inl he_), some (.inl te_), some (.inl ip_), some (.inl (S_.2.2.1 116 0 (i_or he_ ip_).toNat)), some (.inl (S_.2.2.1 47 (0 + dd_) (i_or te_ ip_).toNat)), none], [.inl 16, .inl (S_.2.2.1 116 0 (i_or he_ ip_).toNat)], S_)) rfl ?_
          refine sm_T_bin (w := ((S_.2.2.1 116 0 (i_or he_ ip_).toNat) / 65536)) rfl (bi_shr (k := 16) (by decide) (by omega) (by omega)) ?_ -- pc_ 158
          refine sm_T_go 1 (c1 := (161, [some (.inr (.inr (some (12, 0)))), some (.inr (.inr (some (116, 0)))), some (.inl bg_), some (.inr (.inr (some (3, dd_)))), some (.inl mk_), some (.inl ip9_), none, some (.inl tl_), some (.inl hd9_), some (.inl pr_), some (.inl he_), some (.inl te_), some (.inl ip_), some (.inl (S_.2.2.1 116 0 (i_or he_ ip_).toNat)), some (.inl (S_.2.2.1 47 (0 + dd_) (i_or te_ ip_).toNat)), none], [.inl 6, .inl ((S_.2.2.1 116 0 (i_or he_ ip_).toNat) / 65536)], S_)) rfl ?_
          refine sm_T_bin (w := 64 * ((S_.2.2.1 116 0 (i_or he_ ip_).toNat) / 65536)) rfl (bi_shl (k := 6) (by decide) (by omega) (by omega) (by omega)) ?_ -- pc_ 161
          refine sm_T_go 2 (c1 := (166, [some (.inr (.inr (some (12, 0)))), some (.inr (.inr (some (116, 0)))), some (.inl bg_), some (.inr (.inr (some (3, dd_)))), some (.inl mk_), some (.inl ip9_), none, some (.inl tl_), some (.inl hd9_), some (.inl pr_), some (.inl he_), some (.inl te_), some (.inl ip_), some (.inl (S_.2.2.1 116 0 (i_or he_ ip_).toNat)), some (.inl (S_.2.2.1 47 (0 + dd_) (i_or te_ ip_).toNat)), none], [.inl 16, .inl (S_.2.2.1 47 (0 + dd_) (i_or te_ ip_).toNat), .inl (64 * ((S_.2.2.1 116 0 (i_or he_ ip_).toNat) / 65536))], S_)) rfl ?_
          refine sm_T_bin (w := ((S_.2.2.1 47 (0 + dd_) (i_or te_ ip_).toNat) / 65536)) rfl (bi_shr (k := 16) (by decide) (by omega) (by omega)) ?_ -- pc_ 166
          refine sm_T_bin (w := (i_or (64 * ((S_.2.2.1 116 0 (i_or he_ ip_).toNat) / 65536)) ((S_.2.2.1 47 (0 + dd_) (i_or te_ ip_).toNat) / 65536))) rfl rfl ?_ -- pc_ 167
          refine sm_T_go 4 (c1 := (176, [some (.inr (.inr (some (12, 0)))), some (.inr (.inr (some (116, 0)))), some (.inl bg_), some (.inr (.inr (some (3, dd_)))), some (.inl mk_), some (.inl ip9_), none, some (.inl tl_), some (.inl hd9_), some (.inl pr_), some (.inl he_), some (.inl te_), some (.inl ip_), some (.inl (S_.2.2.1 116 0 (i_or he_ ip_).toNat)), some (.inl (S_.2.2.1 47 (0 + dd_) (i_or te_ ip_).toNat)), some (.inl (i_or (64 * ((S_.2.2.1 116 0 (i_or he_ ip_).toNat) / 65536)) ((S_.2.2.1 47 (0 + dd_) (i_or te_ ip_).toNat) / 65536)))], [.inl (i_or (64 * ((S_.2.2.1 116 0 (i_or he_ ip_).toNat) / 65536)) ((S_.2.2.1 47 (0 + dd_) (i_or te_ ip_).toNat) / 65536)), .inr (.inr (some (113, 0)))], S_)) rfl ?_
          refine sm_T_iald (n := 4096) rfl rfl (by omega) (by omega) ?_
          have bx9_ : (-2) ≤ S_.2.2.1 113 0 (i_or (64 * ((S_.2.2.1 116 0 (i_or he_ ip_).toNat) / 65536)) ((S_.2.2.1 47 (0 + dd_) (i_or te_ ip_).toNat) / 65536)).toNat ∧ S_.2.2.1 113 0 (i_or (64 * ((S_.2.2.1 116 0 (i_or he_ ip_).toNat) / 65536)) ((S_.2.2.1 47 (0 + dd_) (i_or te_ ip_).toNat) / 65536)).toNat ≤ 4095 := hI_.2 113 0 _
          refine sm_T_go 1 (c1 := (179, [some (.inr (.inr (some (12, 0)))), some (.inr (.inr (some (116, 0)))), some (.inl bg_), some (.inr (.inr (some (3, dd_)))), some (.inl mk_), some (.inl ip9_), none, some (.inl tl_), some (.inl hd9_), some (.inl pr_), some (.inl he_), some (.inl te_), some (.inl ip_), some (.inl (S_.2.2.1 116 0 (i_or he_ ip_).toNat)), some (.inl (S_.2.2.1 47 (0 + dd_) (i_or te_ ip_).toNat)), some (.inl (i_or (64 * ((S_.2.2.1 116 0 (i_or he_ ip_).toNat) / 65536)) ((S_.2.2.1 47 (0 + dd_) (i_or te_ ip_).toNat) / 65536)))], [.inl (-2), .inl (S_.2.2.1 113 0 (i_or (64 * ((S_.2.2.1 116 0 (i_or he_ ip_).toNat) / 65536)) ((S_.2.2.1 47 (0 + dd_) (i_or te_ ip_).toNat) / 65536)).toNat)], S_)) rfl ?_
          refine sm_T_br (a := 1) (z := 33) rfl (fun cx10_ => ?_) (fun cx10_ => ?_)
          · have cx10_ : (S_.2.2.1 113 0 (i_or (64 * ((S_.2.2.1 116 0 (i_or he_ ip_).toNat) / 65536)) ((S_.2.2.1 47 (0 + dd_) (i_or te_ ip_).toNat) / 65536)).toNat) ≠ (-2) := of_decide_eq_true cx10_
            refine sm_T_inc (a := 12) (z := 1) (v := ip_) (w := ip_ + 1) rfl rfl (by omega) (by omega) (by omega) ?_ -- pc_ 212
            refine sm_T_go 1 (c1 := (100, [some (.inr (.inr (some (12, 0)))), some (.inr (.inr (some (116, 0)))), some (.inl bg_), some (.inr (.inr (some (3, dd_)))), some (.inl mk_), some (.inl ip9_), none, some (.inl tl_), some (.inl hd9_), some (.inl pr_), some (.inl he_), some (.inl te_), some (.inl (ip_ + 1)), some (.inl (S_.2.2.1 116 0 (i_or he_ ip_).toNat)), some (.inl (S_.2.2.1 47 (0 + dd_) (i_or te_ ip_).toNat)), some (.inl (i_or (64 * ((S_.2.2.1 116 0 (i_or he_ ip_).toNat) / 65536)) ((S_.2.2.1 47 (0 + dd_) (i_or te_ ip_).toNat) / 65536)))], [], S_)) rfl ?_
            refine sm_T_wk [some (.inr (.inr (some (12, 0)))), some (.inr (.inr (some (116, 0)))), some (.inl bg_), some (.inr (.inr (some (3, dd_)))), some (.inl mk_), some (.inl ip9_), none, some (.inl tl_), some (.inl hd9_), some (.inl pr_), some (.inl he_), some (.inl te_), some (.inl (ip_ + 1)), none, none, none] (by exact ⟨rfl, rfl, rfl, rfl, rfl, rfl, rfl, rfl, rfl, rfl, rfl, rfl, trivial⟩) ?_
            refine ih_.2 ip9_ tl_ hd9_ pr_ he_ te_ (ip_ + 1) S_ hI_ hF_ ⟨?_, ?_, ?_, ?_, ?_, ?_, ?_, ?_, ?_, trivial⟩ ?_
            · exact hp_
            · exact hq_
            · exact hc_
            · have ax9_ : S_.2.2.1 116 0 (i_or he_ ip_).toNat / 65536 = nx6 (S0_.2.2.1 116 0) ((pr_ / 64).toNat * 2 ^ (S0_.1 3 dd_ 1).toNat + ip_.toNat) := by (unfold nx6; rw [← n1p, ← fT_])
              have ay9_ : S_.2.2.1 47 (0 + dd_) (i_or te_ ip_).toNat / 65536 = nx6 (S0_.2.2.1 47 (0 + dd_)) ((pr_ % 64).toNat * 2 ^ (S0_.1 3 dd_ 1).toNat + ip_.toNat) := by (unfold nx6; rw [← n2p, ← f47_])
              rw [show (ip_ + 1).toNat = ip_.toNat + 1 by omega]
              refine ccq_o hcq_ (by omega) (by omega) hpq_.1 iz9_ nn9_ ax9_ ay9_ (by omega) (by omega) ?_
              rw [← o9_]
              exact cx10_
            · exact hpq_
            · (have z9_ := pw_nn (k_ := (S0_.1 3 dd_ 1).toNat); omega)
            · omega
            · exact hh_
            · exact hz_
            · omega
          · have cx10_ : ¬ ((S_.2.2.1 113 0 (i_or (64 * ((S_.2.2.1 116 0 (i_or he_ ip_).toNat) / 65536)) ((S_.2.2.1 47 (0 + dd_) (i_or te_ ip_).toNat) / 65536)).toNat) ≠ (-2)) := of_decide_eq_false cx10_
            have lt9_ := cn1_lt (f := pn2 (S_.2.2.1 113 0)) (j := (i_or (64 * (S_.2.2.1 116 0 (i_or he_ ip_).toNat / 65536)) (S_.2.2.1 47 (0 + dd_) (i_or te_ ip_).toNat / 65536)).toNat) (fun y9_ => absurd (pn2_1.mp y9_) cx10_) (n := 4096) (by omega)
            refine sm_T_go 4 (c1 := (190, [some (.inr (.inr (some (12, 0)))), some (.inr (.inr (some (116, 0)))), some (.inl bg_), some (.inr (.inr (some (3, dd_)))), some (.inl mk_), some (.inl ip9_), none, some (.inl tl_), some (.inl hd9_), some (.inl pr_), some (.inl he_), some (.inl te_), some (.inl ip_), some (.inl (S_.2.2.1 116 0 (i_or he_ ip_).toNat)), some (.inl (S_.2.2.1 47 (0 + dd_) (i_or te_ ip_).toNat)), some (.inl (i_or (64 * ((S_.2.2.1 116 0 (i_or he_ ip_).toNat) / 65536)) ((S_.2.2.1 47 (0 + dd_) (i_or te_ ip_).toNat) / 65536)))], [.inl pr_, .inl (i_or (64 * ((S_.2.2.1 116 0 (i_or he_ ip_).toNat) / 65536)) ((S_.2.2.1 47 (0 + dd_) (i_or te_ ip_).toNat) / 65536)), .inr (.inr (some (113, 0)))], S_)) rfl ?_
            refine sm_T_iast (n := 4096) rfl rfl (by omega) (by omega) ?_
            have hIx11_ : gi (sm_aI S_ 113 0 (i_or (64 * ((S_.2.2.1 116 0 (i_or he_ ip_).toNat) / 65536)) ((S_.2.2.1 47 (0 + dd_) (i_or te_ ip_).toNat) / 65536)).toNat pr_) := gi_aI hI_ (show (-2) ≤ pr_ ∧ pr_ ≤ 4095 from ⟨by omega, by omega⟩)
            have hFx12_ : ai_fr (sx_W vw_276sw) S0_ (sm_aI S_ 113 0 (i_or (64 * ((S_.2.2.1 116 0 (i_or he_ ip_).toNat) / 65536)) ((S_.2.2.1 47 (0 + dd_) (i_or te_ ip_).toNat) / 65536)).toNat pr_) := ai_fr_tr hF_ (ai_fr_aI rfl)
            refine sm_T_go 4 (c1 := (199, [some (.inr (.inr (some (12, 0)))), some (.inr (.inr (some (116, 0)))), some (.inl bg_), some (.inr (.inr (some (3, dd_)))), some (.inl mk_), some (.inl ip9_), none, some (.inl tl_), some (.inl hd9_), some (.inl pr_), some (.inl he_), some (.inl te_), some (.inl ip_), some (.inl (S_.2.2.1 116 0 (i_or he_ ip_).toNat)), some (.inl (S_.2.2.1 47 (0 + dd_) (i_or te_ ip_).toNat)), some (.inl (i_or (64 * ((S_.2.2.1 116 0 (i_or he_ ip_).toNat) / 65536)) ((S_.2.2.1 47 (0 + dd_) (i_or te_ ip_).toNat) / 65536)))], [.inl ip_, .inl (i_or (64 * ((S_.2.2.1 116 0 (i_or he_ ip_).toNat) / 65536)) ((S_.2.2.1 47 (0 + dd_) (i_or te_ ip_).toNat) / 65536)), .inr (.inr (some (114, 0)))], sm_aI S_ 113 0 (i_or (64 * ((S_.2.2.1 116 0 (i_or he_ ip_).toNat) / 65536)) ((S_.2.2.1 47 (0 + dd_) (i_or te_ ip_).toNat) / 65536)).toNat pr_)) rfl ?_
            refine sm_T_iast (n := 4096) rfl rfl (by omega) (by omega) ?_
            have hIx13_ : gi (sm_aI (sm_aI S_ 113 0 (i_or (64 * ((S_.2.2.1 116 0 (i_or he_ ip_).toNat) / 65536)) ((S_.2.2.1 47 (0 + dd_) (i_or te_ ip_).toNat) / 65536)).toNat pr_) 114 0 (i_or (64 * ((S_.2.2.1 116 0 (i_or he_ ip_).toNat) / 65536)) ((S_.2.2.1 47 (0 + dd_) (i_or te_ ip_).toNat) / 65536)).toNat ip_) := gi_aI hIx11_ (show 0 ≤ ip_ ∧ ip_ ≤ 4095 from ⟨by omega, by omega⟩)
            have hFx14_ : ai_fr (sx_W vw_276sw) S0_ (sm_aI (sm_aI S_ 113 0 (i_or (64 * ((S_.2.2.1 116 0 (i_or he_ ip_).toNat) / 65536)) ((S_.2.2.1 47 (0 + dd_) (i_or te_ ip_).toNat) / 65536)).toNat pr_) 114 0 (i_or (64 * ((S_.2.2.1 116 0 (i_or he_ ip_).toNat) / 65536)) ((S_.2.2.1 47 (0 + dd_) (i_or te_ ip_).toNat) / 65536)).toNat ip_) := ai_fr_tr hFx12_ (ai_fr_aI rfl)
            refine sm_T_go 4 (c1 := (208, [some (.inr (.inr (some (12, 0)))), some (.inr (.inr (some (116, 0)))), some (.inl bg_), some (.inr (.inr (some (3, dd_)))), some (.inl mk_), some (.inl ip9_), none, some (.inl tl_), some (.inl hd9_), some (.inl pr_), some (.inl he_), some (.inl te_), some (.inl ip_), some (.inl (S_.2.2.1 116 0 (i_or he_ ip_).toNat)), some (.inl (S_.2.2.1 47 (0 + dd_) (i_or te_ ip_).toNat)), some (.inl (i_or (64 * ((S_.2.2.1 116 0 (i_or he_ ip_).toNat) / 65536)) ((S_.2.2.1 47 (0 + dd_) (i_or te_ ip_).toNat) / 65536)))], [.inl (i_or (64 * ((S_.2.2.1 116 0 (i_or he_ ip_).toNat) / 65536)) ((S_.2.2.1 47 (0 + dd_) (i_or te_ ip_).toNat) / 65536)), .inl tl_, .inr (.inr (some (115, 0)))], sm_aI (sm_aI S_ 113 0 (i_or (64 * ((S_.2.2.1 116 0 (i_or he_ ip_).toNat) / 65536)) ((S_.2.2.1 47 (0 + dd_) (i_or te_ ip_).toNat) / 65536)).toNat pr_) 114 0 (i_or (64 * ((S_.2.2.1 116 0 (i_or he_ ip_).toNat) / 65536)) ((S_.2.2.1 47 (0 + dd_) (i_or te_ ip_).toNat) / 65536)).toNat ip_)) rfl ?_
            refine sm_T_iast (n := 4096) rfl rfl (by omega) (by omega) ?_
            have hIx15_ : gi (sm_aI (sm_aI (sm_aI S_ 113 0 (i_or (64 * ((S_.2.2.1 116 0 (i_or he_ ip_).toNat) / 65536)) ((S_.2.2.1 47 (0 + dd_) (i_or te_ ip_).toNat) / 65536)).toNat pr_) 114 0 (i_or (64 * ((S_.2.2.1 116 0 (i_or he_ ip_).toNat) / 65536)) ((S_.2.2.1 47 (0 + dd_) (i_or te_ ip_).toNat) / 65536)).toNat ip_) 115 0 tl_.toNat (i_or (64 * ((S_.2.2.1 116 0 (i_or he_ ip_).toNat) / 65536)) ((S_.2.2.1 47 (0 + dd_) (i_or te_ ip_).toNat) / 65536))) := gi_aI hIx13_ (show 0 ≤ (i_or (64 * ((S_.2.2.1 116 0 (i_or he_ ip_).toNat) / 65536)) ((S_.2.2.1 47 (0 + dd_) (i_or te_ ip_).toNat) / 65536)) ∧ (i_or (64 * ((S_.2.2.1 116 0 (i_or he_ ip_).toNat) / 65536)) ((S_.2.2.1 47 (0 + dd_) (i_or te_ ip_).toNat) / 65536)) ≤ 4095 from ⟨by omega, by omega⟩)
            have hFx16_ : ai_fr (sx_W vw_276sw) S0_ (sm_aI (sm_aI (sm_aI S_ 113 0 (i_or (64 * ((S_.2.2.1 116 0 (i_or he_ ip_).toNat) / 65536)) ((S_.2.2.1 47 (0 + dd_) (i_or te_ ip_).toNat) / 65536)).toNat pr_) 114 0 (i_or (64 * ((S_.2.2.1 116 0 (i_or he_ ip_).toNat) / 65536)) ((S_.2.2.1 47 (0 + dd_) (i_or te_ ip_).toNat) / 65536)).toNat ip_) 115 0 tl_.toNat (i_or (64 * ((S_.2.2.1 116 0 (i_or he_ ip_).toNat) / 65536)) ((S_.2.2.1 47 (0 + dd_) (i_or te_ ip_).toNat) / 65536))) := ai_fr_tr hFx14_ (ai_fr_aI rfl)
            refine sm_T_inc (a := 7) (z := 1) (v := tl_) (w := tl_ + 1) rfl rfl (by omega) (by omega) (by omega) ?_ -- pc_ 209
            refine sm_T_inc (a := 12) (z := 1) (v := ip_) (w := ip_ + 1) rfl rfl (by omega) (by omega) (by omega) ?_ -- pc_ 212
            refine sm_T_go 1 (c1 := (100, [some (.inr (.inr (some (12, 0)))), some (.inr (.inr (some (116, 0)))), some (.inl bg_), some (.inr (.inr (some (3, dd_)))), some (.inl mk_), some (.inl ip9_), none, some (.inl (tl_ + 1)), some (.inl hd9_), some (.inl pr_), some (.inl he_), some (.inl te_), some (.inl (ip_ + 1)), some (.inl (S_.2.2.1 116 0 (i_or he_ ip_).toNat)), some (.inl (S_.2.2.1 47 (0 + dd_) (i_or te_ ip_).toNat)), some (.inl (i_or (64 * ((S_.2.2.1 116 0 (i_or he_ ip_).toNat) / 65536)) ((S_.2.2.1 47 (0 + dd_) (i_or te_ ip_).toNat) / 65536)))], [], sm_aI (sm_aI (sm_aI S_ 113 0 (i_or (64 * ((S_.2.2.1 116 0 (i_or he_ ip_).toNat) / 65536)) ((S_.2.2.1 47 (0 + dd_) (i_or te_ ip_).toNat) / 65536)).toNat pr_) 114 0 (i_or (64 * ((S_.2.2.1 116 0 (i_or he_ ip_).toNat) / 65536)) ((S_.2.2.1 47 (0 + dd_) (i_or te_ ip_).toNat) / 65536)).toNat ip_) 115 0 tl_.toNat (i_or (64 * ((S_.2.2.1 116 0 (i_or he_ ip_).toNat) / 65536)) ((S_.2.2.1 47 (0 + dd_) (i_or te_ ip_).toNat) / 65536)))) rfl ?_
            refine sm_T_wk [some (.inr (.inr (some (12, 0)))), some (.inr (.inr (some (116, 0)))), some (.inl bg_), some (.inr (.inr (some (3, dd_)))), some (.inl mk_), some (.inl ip9_), none, some (.inl (tl_ + 1)), some (.inl hd9_), some (.inl pr_), some (.inl he_), some (.inl te_), some (.inl (ip_ + 1)), none, none, none] (by exact ⟨rfl, rfl, rfl, rfl, rfl, rfl, rfl, rfl, rfl, rfl, rfl, rfl, trivial⟩) ?_
            refine ih_.2 ip9_ (tl_ + 1) hd9_ pr_ he_ te_ (ip_ + 1) (sm_aI (sm_aI (sm_aI S_ 113 0 (i_or (64 * ((S_.2.2.1 116 0 (i_or he_ ip_).toNat) / 65536)) ((S_.2.2.1 47 (0 + dd_) (i_or te_ ip_).toNat) / 65536)).toNat pr_) 114 0 (i_or (64 * ((S_.2.2.1 116 0 (i_or he_ ip_).toNat) / 65536)) ((S_.2.2.1 47 (0 + dd_) (i_or te_ ip_).toNat) / 65536)).toNat ip_) 115 0 tl_.toNat (i_or (64 * ((S_.2.2.1 116 0 (i_or he_ ip_).toNat) / 65536)) ((S_.2.2.1 47 (0 + dd_) (i_or te_ ip_).toNat) / 65536))) hIx15_ hFx16_ ⟨?_, ?_, ?_, ?_, ?_, ?_, ?_, ?_, ?_, trivial⟩ ?_
            · obtain ⟨NN_, hNN_⟩ : ∃ NN_, NN_ = i_or (64 * (S_.2.2.1 116 0 (i_or he_ ip_).toNat / 65536)) (S_.2.2.1 47 (0 + dd_) (i_or te_ ip_).toNat / 65536) := ⟨_, rfl⟩
              have cx9_ : ¬ (S_.2.2.1 113 0 NN_.toNat ≠ -2) := by (rw [hNN_]; exact cx10_)
              have r1_ : ∀ j9_, ((sm_aI (sm_aI (sm_aI S_ 113 0 (i_or (64 * ((S_.2.2.1 116 0 (i_or he_ ip_).toNat) / 65536)) ((S_.2.2.1 47 (0 + dd_) (i_or te_ ip_).toNat) / 65536)).toNat pr_) 114 0 (i_or (64 * ((S_.2.2.1 116 0 (i_or he_ ip_).toNat) / 65536)) ((S_.2.2.1 47 (0 + dd_) (i_or te_ ip_).toNat) / 65536)).toNat ip_) 115 0 tl_.toNat (i_or (64 * ((S_.2.2.1 116 0 (i_or he_ ip_).toNat) / 65536)) ((S_.2.2.1 47 (0 + dd_) (i_or te_ ip_).toNat) / 65536)))).2.2.1 115 0 j9_ = if j9_ = tl_.toNat then NN_ else S_.2.2.1 115 0 j9_ := fun j9_ => by rw [rd_eq, rd_ne (by decide), rd_ne (by decide), hNN_]
              have r2_ : ∀ j9_, ((sm_aI (sm_aI (sm_aI S_ 113 0 (i_or (64 * ((S_.2.2.1 116 0 (i_or he_ ip_).toNat) / 65536)) ((S_.2.2.1 47 (0 + dd_) (i_or te_ ip_).toNat) / 65536)).toNat pr_) 114 0 (i_or (64 * ((S_.2.2.1 116 0 (i_or he_ ip_).toNat) / 65536)) ((S_.2.2.1 47 (0 + dd_) (i_or te_ ip_).toNat) / 65536)).toNat ip_) 115 0 tl_.toNat (i_or (64 * ((S_.2.2.1 116 0 (i_or he_ ip_).toNat) / 65536)) ((S_.2.2.1 47 (0 + dd_) (i_or te_ ip_).toNat) / 65536)))).2.2.1 113 0 j9_ = if j9_ = NN_.toNat then pr_ else S_.2.2.1 113 0 j9_ := fun j9_ => by rw [rd_ne (by decide), rd_ne (by decide), rd_eq, hNN_]
              intro j9_ hj9_ w9_
              rw [r2_] at w9_ ⊢
              by_cases z9_ : j9_ = NN_.toNat
              · rw [if_pos z9_]; right; rw [r2_]; refine ⟨by omega, ?_⟩; split; omega; exact hz_.1
              · rw [if_neg z9_] at w9_ ⊢; rcases hp_ j9_ hj9_ w9_ with q9_ | q9_
                · left; exact q9_
                · right; refine ⟨q9_.1, ?_⟩; rw [r2_]; split; omega; exact q9_.2
            · obtain ⟨NN_, hNN_⟩ : ∃ NN_, NN_ = i_or (64 * (S_.2.2.1 116 0 (i_or he_ ip_).toNat / 65536)) (S_.2.2.1 47 (0 + dd_) (i_or te_ ip_).toNat / 65536) := ⟨_, rfl⟩
              have cx9_ : ¬ (S_.2.2.1 113 0 NN_.toNat ≠ -2) := by (rw [hNN_]; exact cx10_)
              have r1_ : ∀ j9_, ((sm_aI (sm_aI (sm_aI S_ 113 0 (i_or (64 * ((S_.2.2.1 116 0 (i_or he_ ip_).toNat) / 65536)) ((S_.2.2.1 47 (0 + dd_) (i_or te_ ip_).toNat) / 65536)).toNat pr_) 114 0 (i_or (64 * ((S_.2.2.1 116 0 (i_or he_ ip_).toNat) / 65536)) ((S_.2.2.1 47 (0 + dd_) (i_or te_ ip_).toNat) / 65536)).toNat ip_) 115 0 tl_.toNat (i_or (64 * ((S_.2.2.1 116 0 (i_or he_ ip_).toNat) / 65536)) ((S_.2.2.1 47 (0 + dd_) (i_or te_ ip_).toNat) / 65536)))).2.2.1 115 0 j9_ = if j9_ = tl_.toNat then NN_ else S_.2.2.1 115 0 j9_ := fun j9_ => by rw [rd_eq, rd_ne (by decide), rd_ne (by decide), hNN_]
              have r2_ : ∀ j9_, ((sm_aI (sm_aI (sm_aI S_ 113 0 (i_or (64 * ((S_.2.2.1 116 0 (i_or he_ ip_).toNat) / 65536)) ((S_.2.2.1 47 (0 + dd_) (i_or te_ ip_).toNat) / 65536)).toNat pr_) 114 0 (i_or (64 * ((S_.2.2.1 116 0 (i_or he_ ip_).toNat) / 65536)) ((S_.2.2.1 47 (0 + dd_) (i_or te_ ip_).toNat) / 65536)).toNat ip_) 115 0 tl_.toNat (i_or (64 * ((S_.2.2.1 116 0 (i_or he_ ip_).toNat) / 65536)) ((S_.2.2.1 47 (0 + dd_) (i_or te_ ip_).toNat) / 65536)))).2.2.1 113 0 j9_ = if j9_ = NN_.toNat then pr_ else S_.2.2.1 113 0 j9_ := fun j9_ => by rw [rd_ne (by decide), rd_ne (by decide), rd_eq, hNN_]
              intro j9_ hj9_
              by_cases z9_ : (j9_ : Int) = tl_
              · rw [r1_, if_pos (by omega), r2_, if_pos rfl]; exact ⟨by omega, by omega, by omega⟩
              · have q9_ := hq_ j9_ (by omega)
                rw [r1_, if_neg (by omega), r2_]; refine ⟨?_, q9_.2⟩; split; omega; exact q9_.1
            · obtain ⟨NN_, hNN_⟩ : ∃ NN_, NN_ = i_or (64 * (S_.2.2.1 116 0 (i_or he_ ip_).toNat / 65536)) (S_.2.2.1 47 (0 + dd_) (i_or te_ ip_).toNat / 65536) := ⟨_, rfl⟩
              have cx9_ : ¬ (S_.2.2.1 113 0 NN_.toNat ≠ -2) := by (rw [hNN_]; exact cx10_)
              have r1_ : ∀ j9_, ((sm_aI (sm_aI (sm_aI S_ 113 0 (i_or (64 * ((S_.2.2.1 116 0 (i_or he_ ip_).toNat) / 65536)) ((S_.2.2.1 47 (0 + dd_) (i_or te_ ip_).toNat) / 65536)).toNat pr_) 114 0 (i_or (64 * ((S_.2.2.1 116 0 (i_or he_ ip_).toNat) / 65536)) ((S_.2.2.1 47 (0 + dd_) (i_or te_ ip_).toNat) / 65536)).toNat ip_) 115 0 tl_.toNat (i_or (64 * ((S_.2.2.1 116 0 (i_or he_ ip_).toNat) / 65536)) ((S_.2.2.1 47 (0 + dd_) (i_or te_ ip_).toNat) / 65536)))).2.2.1 115 0 j9_ = if j9_ = tl_.toNat then NN_ else S_.2.2.1 115 0 j9_ := fun j9_ => by rw [rd_eq, rd_ne (by decide), rd_ne (by decide), hNN_]
              have r2_ : ∀ j9_, ((sm_aI (sm_aI (sm_aI S_ 113 0 (i_or (64 * ((S_.2.2.1 116 0 (i_or he_ ip_).toNat) / 65536)) ((S_.2.2.1 47 (0 + dd_) (i_or te_ ip_).toNat) / 65536)).toNat pr_) 114 0 (i_or (64 * ((S_.2.2.1 116 0 (i_or he_ ip_).toNat) / 65536)) ((S_.2.2.1 47 (0 + dd_) (i_or te_ ip_).toNat) / 65536)).toNat ip_) 115 0 tl_.toNat (i_or (64 * ((S_.2.2.1 116 0 (i_or he_ ip_).toNat) / 65536)) ((S_.2.2.1 47 (0 + dd_) (i_or te_ ip_).toNat) / 65536)))).2.2.1 113 0 j9_ = if j9_ = NN_.toNat then pr_ else S_.2.2.1 113 0 j9_ := fun j9_ => by rw [rd_ne (by decide), rd_ne (by decide), rd_eq, hNN_]
              have u9_ := cn1_up (f := pn2 (S_.2.2.1 113 0)) (g := pn2 (((sm_aI (sm_aI (sm_aI S_ 113 0 (i_or (64 * ((S_.2.2.1 116 0 (i_or he_ ip_).toNat) / 65536)) ((S_.2.2.1 47 (0 + dd_) (i_or te_ ip_).toNat) / 65536)).toNat pr_) 114 0 (i_or (64 * ((S_.2.2.1 116 0 (i_or he_ ip_).toNat) / 65536)) ((S_.2.2.1 47 (0 + dd_) (i_or te_ ip_).toNat) / 65536)).toNat ip_) 115 0 tl_.toNat (i_or (64 * ((S_.2.2.1 116 0 (i_or he_ ip_).toNat) / 65536)) ((S_.2.2.1 47 (0 + dd_) (i_or te_ ip_).toNat) / 65536)))).2.2.1 113 0)) (j := NN_.toNat) (fun y9_ => absurd (pn2_1.mp y9_) cx9_) (pn2_1.mpr (by rw [r2_, if_pos rfl]; omega)) (fun k9_ hk9_ => by unfold pn2; rw [r2_, if_neg hk9_]) (n := 4096) (by omega)
              rw [u9_]
              push_cast
              omega
            · obtain ⟨NN_, hNN_⟩ : ∃ NN_, NN_ = i_or (64 * (S_.2.2.1 116 0 (i_or he_ ip_).toNat / 65536)) (S_.2.2.1 47 (0 + dd_) (i_or te_ ip_).toNat / 65536) := ⟨_, rfl⟩
              have cx9_ : ¬ (S_.2.2.1 113 0 NN_.toNat ≠ -2) := by (rw [hNN_]; exact cx10_)
              have r1_ : ∀ j9_, ((sm_aI (sm_aI (sm_aI S_ 113 0 (i_or (64 * ((S_.2.2.1 116 0 (i_or he_ ip_).toNat) / 65536)) ((S_.2.2.1 47 (0 + dd_) (i_or te_ ip_).toNat) / 65536)).toNat pr_) 114 0 (i_or (64 * ((S_.2.2.1 116 0 (i_or he_ ip_).toNat) / 65536)) ((S_.2.2.1 47 (0 + dd_) (i_or te_ ip_).toNat) / 65536)).toNat ip_) 115 0 tl_.toNat (i_or (64 * ((S_.2.2.1 116 0 (i_or he_ ip_).toNat) / 65536)) ((S_.2.2.1 47 (0 + dd_) (i_or te_ ip_).toNat) / 65536)))).2.2.1 115 0 j9_ = if j9_ = tl_.toNat then NN_ else S_.2.2.1 115 0 j9_ := fun j9_ => by rw [rd_eq, rd_ne (by decide), rd_ne (by decide), hNN_]
              have r2_ : ∀ j9_, ((sm_aI (sm_aI (sm_aI S_ 113 0 (i_or (64 * ((S_.2.2.1 116 0 (i_or he_ ip_).toNat) / 65536)) ((S_.2.2.1 47 (0 + dd_) (i_or te_ ip_).toNat) / 65536)).toNat pr_) 114 0 (i_or (64 * ((S_.2.2.1 116 0 (i_or he_ ip_).toNat) / 65536)) ((S_.2.2.1 47 (0 + dd_) (i_or te_ ip_).toNat) / 65536)).toNat ip_) 115 0 tl_.toNat (i_or (64 * ((S_.2.2.1 116 0 (i_or he_ ip_).toNat) / 65536)) ((S_.2.2.1 47 (0 + dd_) (i_or te_ ip_).toNat) / 65536)))).2.2.1 113 0 j9_ = if j9_ = NN_.toNat then pr_ else S_.2.2.1 113 0 j9_ := fun j9_ => by rw [rd_ne (by decide), rd_ne (by decide), rd_eq, hNN_]
              have ax9_ : S_.2.2.1 116 0 (i_or he_ ip_).toNat / 65536 = nx6 (S0_.2.2.1 116 0) ((pr_ / 64).toNat * 2 ^ (S0_.1 3 dd_ 1).toNat + ip_.toNat) := by (unfold nx6; rw [← n1p, ← fT_])
              have ay9_ : S_.2.2.1 47 (0 + dd_) (i_or te_ ip_).toNat / 65536 = nx6 (S0_.2.2.1 47 (0 + dd_)) ((pr_ % 64).toNat * 2 ^ (S0_.1 3 dd_ 1).toNat + ip_.toNat) := by (unfold nx6; rw [← n2p, ← f47_])
              rw [show (ip_ + 1).toNat = ip_.toNat + 1 by omega]
              rw [o9_] at hNN_
              refine ccq_a hcq_ (by omega) (by omega) hpq_.1 iz9_ nn9_ ax9_ ay9_ n1_ n2_ ?_ (fun j9_ => ?_) (fun j9_ => ?_)
              · rw [← hNN_]; exact Decidable.of_not_not cx9_
              · rw [← hNN_]; exact r2_ j9_
              · rw [← hNN_]; exact r1_ j9_
            · obtain ⟨NN_, hNN_⟩ : ∃ NN_, NN_ = i_or (64 * (S_.2.2.1 116 0 (i_or he_ ip_).toNat / 65536)) (S_.2.2.1 47 (0 + dd_) (i_or te_ ip_).toNat / 65536) := ⟨_, rfl⟩
              have cx9_ : ¬ (S_.2.2.1 113 0 NN_.toNat ≠ -2) := by (rw [hNN_]; exact cx10_)
              have r1_ : ∀ j9_, ((sm_aI (sm_aI (sm_aI S_ 113 0 (i_or (64 * ((S_.2.2.1 116 0 (i_or he_ ip_).toNat) / 65536)) ((S_.2.2.1 47 (0 + dd_) (i_or te_ ip_).toNat) / 65536)).toNat pr_) 114 0 (i_or (64 * ((S_.2.2.1 116 0 (i_or he_ ip_).toNat) / 65536)) ((S_.2.2.1 47 (0 + dd_) (i_or te_ ip_).toNat) / 65536)).toNat ip_) 115 0 tl_.toNat (i_or (64 * ((S_.2.2.1 116 0 (i_or he_ ip_).toNat) / 65536)) ((S_.2.2.1 47 (0 + dd_) (i_or te_ ip_).toNat) / 65536)))).2.2.1 115 0 j9_ = if j9_ = tl_.toNat then NN_ else S_.2.2.1 115 0 j9_ := fun j9_ => by rw [rd_eq, rd_ne (by decide), rd_ne (by decide), hNN_]
              have r2_ : ∀ j9_, ((sm_aI (sm_aI (sm_aI S_ 113 0 (i_or (64 * ((S_.2.2.1 116 0 (i_or he_ ip_).toNat) / 65536)) ((S_.2.2.1 47 (0 + dd_) (i_or te_ ip_).toNat) / 65536)).toNat pr_) 114 0 (i_or (64 * ((S_.2.2.1 116 0 (i_or he_ ip_).toNat) / 65536)) ((S_.2.2.1 47 (0 + dd_) (i_or te_ ip_).toNat) / 65536)).toNat ip_) 115 0 tl_.toNat (i_or (64 * ((S_.2.2.1 116 0 (i_or he_ ip_).toNat) / 65536)) ((S_.2.2.1 47 (0 + dd_) (i_or te_ ip_).toNat) / 65536)))).2.2.1 113 0 j9_ = if j9_ = NN_.toNat then pr_ else S_.2.2.1 113 0 j9_ := fun j9_ => by rw [rd_ne (by decide), rd_ne (by decide), rd_eq, hNN_]
              refine ⟨?_, by omega⟩
              rw [r1_, if_neg (by omega)]
              exact hpq_.1
            · (have z9_ := pw_nn (k_ := (S0_.1 3 dd_ 1).toNat); omega)
            · omega
            · exact hh_
            · obtain ⟨NN_, hNN_⟩ : ∃ NN_, NN_ = i_or (64 * (S_.2.2.1 116 0 (i_or he_ ip_).toNat / 65536)) (S_.2.2.1 47 (0 + dd_) (i_or te_ ip_).toNat / 65536) := ⟨_, rfl⟩
              have cx9_ : ¬ (S_.2.2.1 113 0 NN_.toNat ≠ -2) := by (rw [hNN_]; exact cx10_)
              have r1_ : ∀ j9_, ((sm_aI (sm_aI (sm_aI S_ 113 0 (i_or (64 * ((S_.2.2.1 116 0 (i_or he_ ip_).toNat) / 65536)) ((S_.2.2.1 47 (0 + dd_) (i_or te_ ip_).toNat) / 65536)).toNat pr_) 114 0 (i_or (64 * ((S_.2.2.1 116 0 (i_or he_ ip_).toNat) / 65536)) ((S_.2.2.1 47 (0 + dd_) (i_or te_ ip_).toNat) / 65536)).toNat ip_) 115 0 tl_.toNat (i_or (64 * ((S_.2.2.1 116 0 (i_or he_ ip_).toNat) / 65536)) ((S_.2.2.1 47 (0 + dd_) (i_or te_ ip_).toNat) / 65536)))).2.2.1 115 0 j9_ = if j9_ = tl_.toNat then NN_ else S_.2.2.1 115 0 j9_ := fun j9_ => by rw [rd_eq, rd_ne (by decide), rd_ne (by decide), hNN_]
              have r2_ : ∀ j9_, ((sm_aI (sm_aI (sm_aI S_ 113 0 (i_or (64 * ((S_.2.2.1 116 0 (i_or he_ ip_).toNat) / 65536)) ((S_.2.2.1 47 (0 + dd_) (i_or te_ ip_).toNat) / 65536)).toNat pr_) 114 0 (i_or (64 * ((S_.2.2.1 116 0 (i_or he_ ip_).toNat) / 65536)) ((S_.2.2.1 47 (0 + dd_) (i_or te_ ip_).toNat) / 65536)).toNat ip_) 115 0 tl_.toNat (i_or (64 * ((S_.2.2.1 116 0 (i_or he_ ip_).toNat) / 65536)) ((S_.2.2.1 47 (0 + dd_) (i_or te_ ip_).toNat) / 65536)))).2.2.1 113 0 j9_ = if j9_ = NN_.toNat then pr_ else S_.2.2.1 113 0 j9_ := fun j9_ => by rw [rd_ne (by decide), rd_ne (by decide), rd_eq, hNN_]
              rw [r2_]
              refine ⟨?_, hz_.2⟩
              split
              · omega
              · exact hz_.1
            · omega
        · have cx8_ : ¬ ((i_and (i_xor (S_.2.2.1 116 0 (i_or he_ ip_).toNat) (S_.2.2.1 47 (0 + dd_) (i_or te_ ip_).toNat)) mk_) = 0) := of_decide_eq_false cx8_
          have nz9_ : cmD (S0_.2.2.1 116 0) (S0_.2.2.1 47 (0 + dd_)) mk_ ((pr_ / 64).toNat * 2 ^ (S0_.1 3 dd_ 1).toNat + ip_.toNat) ((pr_ % 64).toNat * 2 ^ (S0_.1 3 dd_ 1).toNat + ip_.toNat) := fun z9_ => cx8_ (by (rw [n1p, n2p, fT_, f47_]; exact z9_))
          obtain ⟨dp9_, ch9_, dl9_, sp9_⟩ := ccq_d hcq_ (by omega) (by omega) (by omega) hpq_.1 iz9_ nz9_
          refine sm_T_go 3 (c1 := (146, [some (.inr (.inr (some (12, 0)))), some (.inr (.inr (some (116, 0)))), some (.inl bg_), some (.inr (.inr (some (3, dd_)))), some (.inl mk_), some (.inl ip9_), none, some (.inl tl_), some (.inl hd9_), some (.inl pr_), some (.inl he_), some (.inl te_), some (.inl ip_), some (.inl (S_.2.2.1 116 0 (i_or he_ ip_).toNat)), some (.inl (S_.2.2.1 47 (0 + dd_) (i_or te_ ip_).toNat)), none], [.inl ip_, .inl pr_, .inr (.inr (some (12, 0)))], S_)) rfl ?_
          refine sm_T_cal (d1 := 0) (Q1 := vq_277w pr_ ip_ dp9_ S_) rfl rfl (by decide) (vc_277w pr_ ip_ dp9_ S_ hI_ (by exact ⟨ch9_, dl9_⟩) (by exact hp_) (by omega) (by omega) (by exact hz_.1)) (fun u_ Sx17_ px20_ => ?_)
          obtain ⟨rfl, hIx18_, hFx19_, px20_⟩ := px20_
          have hFx21_ : ai_fr (sx_W vw_276sw) S0_ Sx17_ := ai_fr_tr hF_ (fr_le hFx19_ rfl)
          have w146_ := px20_
          have bx22_ : 0 ≤ Sx17_.1 12 0 16 ∧ Sx17_.1 12 0 16 ≤ 4096 := hIx18_.1 12 0 16 rfl
          refine sm_T_go 2 (c1 := (153, [some (.inr (.inr (some (12, 0)))), some (.inr (.inr (some (116, 0)))), some (.inl bg_), some (.inr (.inr (some (3, dd_)))), some (.inl mk_), some (.inl ip9_), none, some (.inl tl_), some (.inl hd9_), some (.inl pr_), some (.inl he_), some (.inl te_), some (.inl ip_), some (.inl (S_.2.2.1 116 0 (i_or he_ ip_).toNat)), some (.inl (S_.2.2.1 47 (0 + dd_) (i_or te_ ip_).toNat)), none], [.inl (Sx17_.1 12 0 16)], Sx17_)) rfl ?_
          refine sm_T_ri rfl ⟨_, _, rfl, _, rfl, hIx18_, hFx21_, ?_⟩
          first | (rw [w146_]; exact sp9_) | exact ccq_e hcq_ (by omega)
set_option maxHeartbeats 3000000 in
set_option maxRecDepth 20000 in
theorem vc_276sw {sc_ : Nat × (Nat → Int)} (bg_ : Int) (mk_ : Int) (dd_ : Nat) (R1_ : Nat) (S0_ : sm_S) (hI_ : gi S0_) (hd_ : dOk dd_ S0_) (hb_ : 0 ≤ bg_ ∧ bg_ < 2 ^ R1_) (hr_ : R1_ ≤ 6 ∧ (R1_ : Int) + S0_.1 3 dd_ 1 ≤ 12) (ht_ : ∀ p9_ : Nat, p9_ < 4096 → 0 ≤ S0_.2.2.1 116 0 p9_ ∧ S0_.2.2.1 116 0 p9_ < 2 ^ (16 + R1_)) : sm_T (mt_P sc_) 1 276 (0, [some (.inr (.inr (some (12, 0)))), some (.inr (.inr (some (116, 0)))), some (.inl bg_), some (.inr (.inr (some (3, dd_)))), some (.inl mk_), none, none, none, none, none, none, none, none, none, none, none], [], S0_) (fun ro9_ => ∃ u_ S1_, ro9_ = (.inl u_, S1_, 0) ∧ vq_276sw bg_ mk_ dd_ R1_ S0_ u_ S1_) := by
  have hF_ : ai_fr (sx_W vw_276sw) S0_ S0_ := ai_fr_rf
  have J9_ := dOk_b hd_
  have J9a := J9_.1
  have J9b := J9_.2.1
  have J9c := J9_.2.2.1
  have J9t := J9_.2.2.2.2
  have wa_ := pw_le (n := R1_) (m := 6) (by omega)
  have wb := pw_le (n := (S0_.1 3 dd_ 2).toNat) (m := 6) (by omega)
  have wc_ := pw_pos R1_
  have wd_ := pw_pos (S0_.1 3 dd_ 2).toNat
  have hIx1_ : gi (sm_pI S0_ 12 0 16 0) := gi_pI hI_ (show 0 ≤ 0 ∧ 0 ≤ 4096 from ⟨by omega, by omega⟩)
  have hFx2_ : ai_fr (sx_W vw_276sw) S0_ (sm_pI S0_ 12 0 16 0) := ai_fr_tr hF_ (ai_fr_pI rfl)
  have bx3_ : 0 ≤ S0_.1 3 dd_ 1 ∧ S0_.1 3 dd_ 1 ≤ 320 := hI_.1 3 dd_ 1 rfl
  refine sm_T_go 9 (c1 := (17, [some (.inr (.inr (some (12, 0)))), some (.inr (.inr (some (116, 0)))), some (.inl bg_), some (.inr (.inr (some (3, dd_)))), some (.inl mk_), some (.inl (S0_.1 3 dd_ 1)), none, none, none, none, none, none, none, none, none, none], [.inl (-2), .inr (.inr (some (113, 0)))], sm_pI S0_ 12 0 16 0)) rfl ?_
  refine sm_T_cal (d1 := 0) (Q1 := vq_2p (-2) (sm_pI S0_ 12 0 16 0)) rfl rfl (by decide) (vc_2p (-2) (sm_pI S0_ 12 0 16 0) hIx1_ (by decide)) (fun u_ Sx4_ px7_ => ?_)
  obtain ⟨rfl, hIx5_, hFx6_, px7_⟩ := px7_
  have hFx8_ : ai_fr (sx_W vw_276sw) S0_ Sx4_ := ai_fr_tr hFx2_ (fr_le hFx6_ rfl)
  have e17_ := px7_
  have q5_ := hFx6_.1 3 dd_ 5 rfl
  have q1_ := hFx6_.1 3 dd_ 1 rfl
  simp only [rf_nt, rf_nk, ne_eq, Nat.reduceEqDiff, not_false_eq_true] at q5_ q1_
  refine sm_T_go 2 (c1 := (23, [some (.inr (.inr (some (12, 0)))), some (.inr (.inr (some (116, 0)))), some (.inl bg_), some (.inr (.inr (some (3, dd_)))), some (.inl mk_), some (.inl (S0_.1 3 dd_ 1)), none, none, none, none, none, none, none, none, none, none], [.inl 6, .inl bg_], Sx4_)) rfl ?_
  refine sm_T_bin (w := 64 * bg_) rfl (bi_shl (k := 6) (by decide) (by omega) (by omega) (by omega)) ?_ -- pc_ 23
  have bx9_ : 0 ≤ Sx4_.1 3 dd_ 5 ∧ Sx4_.1 3 dd_ 5 ≤ 63 := hIx5_.1 3 dd_ 5 rfl
  refine sm_T_go 2 (c1 := (28, [some (.inr (.inr (some (12, 0)))), some (.inr (.inr (some (116, 0)))), some (.inl bg_), some (.inr (.inr (some (3, dd_)))), some (.inl mk_), some (.inl (S0_.1 3 dd_ 1)), none, none, none, none, none, none, none, none, none, none], [.inl (Sx4_.1 3 dd_ 5), .inl (64 * bg_)], Sx4_)) rfl ?_
  refine sm_T_bin (w := (i_or (64 * bg_) (Sx4_.1 3 dd_ 5))) rfl rfl ?_ -- pc_ 28
  have bx10_ := or64 (a_ := bg_) (b_ := (Sx4_.1 3 dd_ 5)) (by omega) (by omega)
  refine sm_T_go 5 (c1 := (38, [some (.inr (.inr (some (12, 0)))), some (.inr (.inr (some (116, 0)))), some (.inl bg_), some (.inr (.inr (some (3, dd_)))), some (.inl mk_), some (.inl (S0_.1 3 dd_ 1)), some (.inl (i_or (64 * bg_) (Sx4_.1 3 dd_ 5))), none, none, none, none, none, none, none, none, none], [.inl (-1), .inl (i_or (64 * bg_) (Sx4_.1 3 dd_ 5)), .inr (.inr (some (113, 0)))], Sx4_)) rfl ?_
  refine sm_T_iast (n := 4096) rfl rfl (by omega) (by omega) ?_
  have hIx11_ : gi (sm_aI Sx4_ 113 0 (i_or (64 * bg_) (Sx4_.1 3 dd_ 5)).toNat (-1)) := gi_aI hIx5_ (show (-2) ≤ (-1) ∧ (-1) ≤ 4095 from ⟨by omega, by omega⟩)
  have hFx12_ : ai_fr (sx_W vw_276sw) S0_ (sm_aI Sx4_ 113 0 (i_or (64 * bg_) (Sx4_.1 3 dd_ 5)).toNat (-1)) := ai_fr_tr hFx8_ (ai_fr_aI rfl)
  refine sm_T_go 4 (c1 := (46, [some (.inr (.inr (some (12, 0)))), some (.inr (.inr (some (116, 0)))), some (.inl bg_), some (.inr (.inr (some (3, dd_)))), some (.inl mk_), some (.inl (S0_.1 3 dd_ 1)), some (.inl (i_or (64 * bg_) (Sx4_.1 3 dd_ 5))), none, none, none, none, none, none, none, none, none], [.inl (i_or (64 * bg_) (Sx4_.1 3 dd_ 5)), .inl 0, .inr (.inr (some (115, 0)))], sm_aI Sx4_ 113 0 (i_or (64 * bg_) (Sx4_.1 3 dd_ 5)).toNat (-1))) rfl ?_
  refine sm_T_iast (n := 4096) rfl rfl (by omega) (by omega) ?_
  have hIx13_ : gi (sm_aI (sm_aI Sx4_ 113 0 (i_or (64 * bg_) (Sx4_.1 3 dd_ 5)).toNat (-1)) 115 0 (0 : Int).toNat (i_or (64 * bg_) (Sx4_.1 3 dd_ 5))) := gi_aI hIx11_ (show 0 ≤ (i_or (64 * bg_) (Sx4_.1 3 dd_ 5)) ∧ (i_or (64 * bg_) (Sx4_.1 3 dd_ 5)) ≤ 4095 from ⟨by omega, by omega⟩)
  have hFx14_ : ai_fr (sx_W vw_276sw) S0_ (sm_aI (sm_aI Sx4_ 113 0 (i_or (64 * bg_) (Sx4_.1 3 dd_ 5)).toNat (-1)) 115 0 (0 : Int).toNat (i_or (64 * bg_) (Sx4_.1 3 dd_ 5))) := ai_fr_tr hFx12_ (ai_fr_aI rfl)
  refine sm_T_go 4 (c1 := (53, [some (.inr (.inr (some (12, 0)))), some (.inr (.inr (some (116, 0)))), some (.inl bg_), some (.inr (.inr (some (3, dd_)))), some (.inl mk_), some (.inl (S0_.1 3 dd_ 1)), some (.inl (i_or (64 * bg_) (Sx4_.1 3 dd_ 5))), some (.inl 1), some (.inl 0), none, none, none, none, none, none, none], [], sm_aI (sm_aI Sx4_ 113 0 (i_or (64 * bg_) (Sx4_.1 3 dd_ 5)).toNat (-1)) 115 0 (0 : Int).toNat (i_or (64 * bg_) (Sx4_.1 3 dd_ 5)))) rfl ?_
  refine sm_T_wk [some (.inr (.inr (some (12, 0)))), some (.inr (.inr (some (116, 0)))), some (.inl bg_), some (.inr (.inr (some (3, dd_)))), some (.inl mk_), some (.inl (S0_.1 3 dd_ 1)), none, some (.inl 1), some (.inl 0), none, none, none, none, none, none, none] (by exact ⟨rfl, rfl, rfl, rfl, rfl, rfl, rfl, rfl, trivial⟩) ?_
  refine (vl_276sw bg_ mk_ dd_ R1_ S0_ hd_ hb_ hr_ ht_ _).1 (S0_.1 3 dd_ 1) 1 0 (sm_aI (sm_aI Sx4_ 113 0 (i_or (64 * bg_) (Sx4_.1 3 dd_ 5)).toNat (-1)) 115 0 (0 : Int).toNat (i_or (64 * bg_) (Sx4_.1 3 dd_ 5))) hIx13_ hFx14_ ⟨?_, ?_, ?_, ?_, ?_, trivial⟩ (Nat.lt_succ_self _)
  · obtain ⟨FF_, hFF_⟩ : ∃ FF_, FF_ = i_or (64 * bg_) (Sx4_.1 3 dd_ 5) := ⟨_, rfl⟩
    have r1_ : ((sm_aI (sm_aI Sx4_ 113 0 (i_or (64 * bg_) (Sx4_.1 3 dd_ 5)).toNat (-1)) 115 0 (0 : Int).toNat (i_or (64 * bg_) (Sx4_.1 3 dd_ 5)))).2.2.1 115 0 0 = FF_ := by (rw [rd_eq, if_pos (by decide)]; exact hFF_.symm)
    have r2_ : ∀ j9_, ((sm_aI (sm_aI Sx4_ 113 0 (i_or (64 * bg_) (Sx4_.1 3 dd_ 5)).toNat (-1)) 115 0 (0 : Int).toNat (i_or (64 * bg_) (Sx4_.1 3 dd_ 5)))).2.2.1 113 0 j9_ = if j9_ = FF_.toNat then (-1) else Sx4_.2.2.1 113 0 j9_ := fun j9_ => by rw [rd_ne (by decide), rd_eq, hFF_]
    intro j9_ hj9_ w9_
    rw [r2_] at w9_ ⊢
    left
    by_cases z9_ : j9_ = FF_.toNat
    · rw [if_pos z9_]
    · rw [if_neg z9_, e17_ j9_ hj9_] at w9_
      exact absurd rfl w9_
  · obtain ⟨FF_, hFF_⟩ : ∃ FF_, FF_ = i_or (64 * bg_) (Sx4_.1 3 dd_ 5) := ⟨_, rfl⟩
    have r1_ : ((sm_aI (sm_aI Sx4_ 113 0 (i_or (64 * bg_) (Sx4_.1 3 dd_ 5)).toNat (-1)) 115 0 (0 : Int).toNat (i_or (64 * bg_) (Sx4_.1 3 dd_ 5)))).2.2.1 115 0 0 = FF_ := by (rw [rd_eq, if_pos (by decide)]; exact hFF_.symm)
    have r2_ : ∀ j9_, ((sm_aI (sm_aI Sx4_ 113 0 (i_or (64 * bg_) (Sx4_.1 3 dd_ 5)).toNat (-1)) 115 0 (0 : Int).toNat (i_or (64 * bg_) (Sx4_.1 3 dd_ 5)))).2.2.1 113 0 j9_ = if j9_ = FF_.toNat then (-1) else Sx4_.2.2.1 113 0 j9_ := fun j9_ => by rw [rd_ne (by decide), rd_eq, hFF_]
    intro j9_ hj9_
    have z9_ : j9_ = 0 := by omega
    rw [z9_, r1_, r2_, if_pos rfl]
    exact ⟨by decide, by omega, by omega⟩
  · obtain ⟨FF_, hFF_⟩ : ∃ FF_, FF_ = i_or (64 * bg_) (Sx4_.1 3 dd_ 5) := ⟨_, rfl⟩
    have r1_ : ((sm_aI (sm_aI Sx4_ 113 0 (i_or (64 * bg_) (Sx4_.1 3 dd_ 5)).toNat (-1)) 115 0 (0 : Int).toNat (i_or (64 * bg_) (Sx4_.1 3 dd_ 5)))).2.2.1 115 0 0 = FF_ := by (rw [rd_eq, if_pos (by decide)]; exact hFF_.symm)
    have r2_ : ∀ j9_, ((sm_aI (sm_aI Sx4_ 113 0 (i_or (64 * bg_) (Sx4_.1 3 dd_ 5)).toNat (-1)) 115 0 (0 : Int).toNat (i_or (64 * bg_) (Sx4_.1 3 dd_ 5)))).2.2.1 113 0 j9_ = if j9_ = FF_.toNat then (-1) else Sx4_.2.2.1 113 0 j9_ := fun j9_ => by rw [rd_ne (by decide), rd_eq, hFF_]
    rw [cn1_cg (g := fun k9_ : Nat => if k9_ = FF_.toNat then (1 : Int) else 0) (fun k9_ hk9_ => ?_), cn1_one (j := FF_.toNat) (fun k9_ => ?_) 4096, if_pos (by omega)]
    · rfl
    · constructor
      · intro y9_; by_cases y8_ : k9_ = FF_.toNat; exact y8_; (rw [if_neg y8_] at y9_; exact absurd y9_ (by decide))
      · intro y9_; exact if_pos y9_
    · unfold pn2
      rw [r2_]
      by_cases y9_ : k9_ = FF_.toNat
      · rw [if_pos y9_, if_pos y9_]; rfl
      · rw [if_neg y9_, if_neg y9_, e17_ k9_ hk9_]; rfl
  · obtain ⟨FF_, hFF_⟩ : ∃ FF_, FF_ = i_or (64 * bg_) (Sx4_.1 3 dd_ 5) := ⟨_, rfl⟩
    have r1_ : ((sm_aI (sm_aI Sx4_ 113 0 (i_or (64 * bg_) (Sx4_.1 3 dd_ 5)).toNat (-1)) 115 0 (0 : Int).toNat (i_or (64 * bg_) (Sx4_.1 3 dd_ 5)))).2.2.1 115 0 0 = FF_ := by (rw [rd_eq, if_pos (by decide)]; exact hFF_.symm)
    have r2_ : ∀ j9_, ((sm_aI (sm_aI Sx4_ 113 0 (i_or (64 * bg_) (Sx4_.1 3 dd_ 5)).toNat (-1)) 115 0 (0 : Int).toNat (i_or (64 * bg_) (Sx4_.1 3 dd_ 5)))).2.2.1 113 0 j9_ = if j9_ = FF_.toNat then (-1) else Sx4_.2.2.1 113 0 j9_ := fun j9_ => by rw [rd_ne (by decide), rd_eq, hFF_]
    refine ccq_0 (f_ := FF_) ⟨pw_tn hb_.1 hb_.2, pw_tn (by omega) (by omega)⟩ ⟨by omega, by omega⟩ (by omega) (fun j9_ hj9_ => ?_) r1_
    rw [r2_]
    by_cases z9_ : j9_ = FF_.toNat
    · rw [if_pos z9_, if_pos z9_]
    · rw [if_neg z9_, if_neg z9_]; exact e17_ j9_ hj9_
  · omega
end
/-! 99.ztZ3 -/
section
/-! the reference: machines compared, with what comes out; written by wip/p55/gen/vg -/

/-! the_ reference's queue of_ pairs -/
theorem pat_m {s_ i_ : Int} {R_ I_ : Nat} (hs_ : 0 ≤ s_ ∧ s_ < 2 ^ R_) (hi_ : 0 ≤ i_ ∧ i_ < 2 ^ I_) (h_ : R_ + I_ ≤ 12) : (i_or i_ (i_shl s_ (I_ : Int))).toNat = s_.toNat * 2 ^ I_ + i_.toNat := by
  rw [i_or_c]
  exact pat_n hs_ hi_ h_
def neD (A_ B_ : Nat → Int) (p_ q_ : Nat) : Prop := A_ p_ ≠ B_ q_
def ren (R1_ R2_ : Nat) (Q_ : List (Nat × Nat × Nat)) (mn : Int) (q_ cl_ s_ : Nat → Int) : Prop := mn = (Q_.length : Int) ∧ (∀ j_ a_ b_ d_ : Nat, Q_[j_]? = some (a_, b_, d_) → (a_ < 2 ^ R1_ ∧ b_ < 2 ^ R2_) ∧ q_ j_ = 64 * (b_ : Int) + a_ ∧ cl_ j_ = (d_ : Int) ∧ s_ (64 * b_ + a_) = 1) ∧ ∀ c_, c_ < 4096 → s_ c_ = 1 → ∃ j_ d_ : Nat, Q_[j_]? = some (c_ % 64, c_ / 64, d_)
def rcq (I_ R1_ R2_ : Nat) (D_ : Nat → Nat → Prop) (nA_ nB_ : Nat → Int) (bA_ bB_ k_ i_ : Nat) (mn : Int) (q_ cl_ s_ : Nat → Int) : Prop := ∃ Q_, bfqs I_ D_ nA_ nB_ bA_ bB_ k_ i_ Q_ ∧ ren R1_ R2_ Q_ mn q_ cl_ s_
theorem rcq_0 {I_ R1_ R2_ : Nat} {D_ : Nat → Nat → Prop} {nA_ nB_ : Nat → Int} {bA_ bB_ : Nat} {q_ cl_ s_ : Nat → Int} {f_ : Int} (hb_ : bA_ < 2 ^ R1_ ∧ bB_ < 2 ^ R2_) (h64_ : bA_ < 64 ∧ bB_ < 64) (hf_ : f_ = 64 * (bB_ : Int) + bA_) (hq_ : q_ 0 = f_) (hc_ : cl_ 0 = 0) (hs_ : ∀ j_, j_ < 4096 → s_ j_ = if j_ = f_.toNat then 1 else 0) : rcq I_ R1_ R2_ D_ nA_ nB_ bA_ bB_ 0 0 1 q_ cl_ s_ := by
  refine ⟨[(bA_, bB_, 0)], bfqs_0, rfl, fun j_ a_ b_ d_ h_ => ?_, fun c_ hc9_ h_ => ?_⟩
  · have l_ := (List.getElem?_eq_some_iff.mp h_).1
    have l_ : j_ < 1 := l_
    have m_ := List.mem_singleton.mp (List.mem_of_getElem? h_)
    cases m_
    refine ⟨hb_, by rw [show j_ = 0 by omega, hq_, hf_], by rw [show j_ = 0 by omega, hc_]; rfl, ?_⟩
    rw [hs_ _ (by omega), if_pos (by omega)]
  · have e_ : c_ = f_.toNat := by
      by_cases z_ : c_ = f_.toNat
      · exact z_
      · rw [hs_ c_ hc9_, if_neg z_] at h_
        exact absurd h_ (by decide)
    refine ⟨0, 0, ?_⟩
    rw [show c_ % 64 = bA_ by omega, show c_ / 64 = bB_ by omega]
    rfl
theorem rcq_n {I_ R1_ R2_ : Nat} {D_ : Nat → Nat → Prop} {nA_ nB_ : Nat → Int} {bA_ bB_ k_ i_ : Nat} {mn : Int} {q_ cl_ s_ : Nat → Int} (h_ : rcq I_ R1_ R2_ D_ nA_ nB_ bA_ bB_ k_ i_ mn q_ cl_ s_) (e_ : i_ = 2 ^ I_) : rcq I_ R1_ R2_ D_ nA_ nB_ bA_ bB_ (k_ + 1) 0 mn q_ cl_ s_ := by
  obtain ⟨Q_, a_, b_⟩ := h_
  rw [e_] at a_
  exact ⟨Q_, bfqs_n a_, b_⟩
section RC_
variable {I_ R1_ R2_ : Nat} {D_ : Nat → Nat → Prop} {nA_ nB_ : Nat → Int} {bA_ bB_ k_ i_ : Nat} {mn a_ b_ x_ y_ : Int} {q_ cl_ s_ q'_ cl'_ s'_ : Nat → Int}
theorem rcq_g (h_ : rcq I_ R1_ R2_ D_ nA_ nB_ bA_ bB_ k_ i_ mn q_ cl_ s_) (h6_ : R1_ ≤ 6 ∧ R2_ ≤ 6) (hk_ : (k_ : Int) < mn) (ha_ : 0 ≤ a_ ∧ a_ < 64) (hp_ : q_ k_ = 64 * b_ + a_) : ∃ Q_ d_, bfqs I_ D_ nA_ nB_ bA_ bB_ k_ i_ Q_ ∧ ren R1_ R2_ Q_ mn q_ cl_ s_ ∧ Q_[k_]? = some (a_.toNat, b_.toNat, d_) ∧ cl_ k_ = (d_ : Int) := by
  obtain ⟨Q_, s9_, e1_, e2_, e3_⟩ := h_
  obtain ⟨⟨a9_, b9_, d_⟩, hx_⟩ : ∃ x_, Q_[k_]? = some x_ := ⟨_, List.getElem?_eq_getElem (by omega)⟩
  obtain ⟨⟨a1_, a2_⟩, a3_, a4_, a5_⟩ := e2_ k_ a9_ b9_ d_ hx_
  have w_ : 2 ^ R1_ ≤ 2 ^ 6 := Nat.pow_le_pow_right (by decide) h6_.1
  have w_ : 2 ^ R1_ ≤ 64 := w_
  rw [hp_] at a3_
  refine ⟨Q_, d_, s9_, ⟨e1_, e2_, e3_⟩, ?_, a4_⟩
  rw [show a_.toNat = a9_ by omega, show b_.toNat = b9_ by omega]
  exact hx_
theorem rcq_o (h_ : rcq I_ R1_ R2_ D_ nA_ nB_ bA_ bB_ k_ i_ mn q_ cl_ s_) (h6_ : R1_ ≤ 6 ∧ R2_ ≤ 6) (hk_ : (k_ : Int) < mn) (ha_ : 0 ≤ a_ ∧ a_ < 64) (hp_ : q_ k_ = 64 * b_ + a_) (hi_ : i_ < 2 ^ I_) (nd_ : ¬ D_ (a_.toNat * 2 ^ I_ + i_) (b_.toNat * 2 ^ I_ + i_)) (hx_ : x_ = nA_ (a_.toNat * 2 ^ I_ + i_)) (hy_ : y_ = nB_ (b_.toNat * 2 ^ I_ + i_)) (bx_ : 0 ≤ x_ ∧ x_ < 64) (by9_ : 0 ≤ y_ ∧ y_ < 64) (hs_ : s_ (64 * y_ + x_).toNat = 1) : rcq I_ R1_ R2_ D_ nA_ nB_ bA_ bB_ k_ (i_ + 1) mn q_ cl_ s_ := by
  obtain ⟨Q_, d_, s9_, e_, hz_, -⟩ := rcq_g h_ h6_ hk_ ha_ hp_
  refine ⟨Q_, bfqs_o s9_ hi_ hz_ nd_ ?_, e_⟩
  rw [← hx_, ← hy_]
  obtain ⟨j_, d'_, w_⟩ := e_.2.2 (64 * y_ + x_).toNat (by omega) hs_
  rw [show (64 * y_ + x_).toNat % 64 = x_.toNat by omega, show (64 * y_ + x_).toNat / 64 = y_.toNat by omega] at w_
  exact ⟨j_, d'_, w_⟩
theorem rcq_a (h_ : rcq I_ R1_ R2_ D_ nA_ nB_ bA_ bB_ k_ i_ mn q_ cl_ s_) (h6_ : R1_ ≤ 6 ∧ R2_ ≤ 6) (hk_ : (k_ : Int) < mn) (ha_ : 0 ≤ a_ ∧ a_ < 64) (hp_ : q_ k_ = 64 * b_ + a_) (hi_ : i_ < 2 ^ I_) (nd_ : ¬ D_ (a_.toNat * 2 ^ I_ + i_) (b_.toNat * 2 ^ I_ + i_)) (hx_ : x_ = nA_ (a_.toNat * 2 ^ I_ + i_)) (hy_ : y_ = nB_ (b_.toNat * 2 ^ I_ + i_)) (bx_ : 0 ≤ x_ ∧ x_ < 2 ^ R1_) (by9_ : 0 ≤ y_ ∧ y_ < 2 ^ R2_) (hs_ : s_ (64 * y_ + x_).toNat ≠ 1) (hq_ : ∀ j_, q'_ j_ = if j_ = mn.toNat then 64 * y_ + x_ else q_ j_) (hc_ : ∀ j_, cl'_ j_ = if j_ = mn.toNat then cl_ k_ + 1 else cl_ j_) (hu_ : ∀ j_, s'_ j_ = if j_ = (64 * y_ + x_).toNat then 1 else s_ j_) : rcq I_ R1_ R2_ D_ nA_ nB_ bA_ bB_ k_ (i_ + 1) (mn + 1) q'_ cl'_ s'_ := by
  obtain ⟨Q_, d_, s9_, ⟨e1_, e2_, e3_⟩, hz_, ck_⟩ := rcq_g h_ h6_ hk_ ha_ hp_
  have tx_ := pw_tn bx_.1 bx_.2
  have ty_ := pw_tn by9_.1 by9_.2
  have w1_ : 2 ^ R1_ ≤ 2 ^ 6 := Nat.pow_le_pow_right (by decide) h6_.1
  have w2_ : 2 ^ R2_ ≤ 2 ^ 6 := Nat.pow_le_pow_right (by decide) h6_.2
  have w1_ : 2 ^ R1_ ≤ 64 := w1_
  have w2_ : 2 ^ R2_ ≤ 64 := w2_
  have b_ := bfqs_a s9_ hi_ hz_ nd_ (by
    rw [← hx_, ← hy_]
    rintro ⟨j_, d'_, w_⟩
    have z_ := (e2_ j_ _ _ _ w_).2.2.2
    rw [show 64 * y_.toNat + x_.toNat = (64 * y_ + x_).toNat by omega] at z_
    exact hs_ z_)
  rw [← hx_, ← hy_] at b_
  refine ⟨_, b_, ?_, fun j_ a9_ b9_ d9_ w_ => ?_, fun c_ hc9_ w_ => ?_⟩
  · rw [List.length_append, List.length_singleton]
    omega
  · by_cases c_ : j_ < Q_.length
    · rw [List.getElem?_append_left c_] at w_
      obtain ⟨a1_, a2_, a3_, a4_⟩ := e2_ j_ a9_ b9_ d9_ w_
      refine ⟨a1_, ?_, ?_, ?_⟩
      · rw [hq_, if_neg (by omega)]
        exact a2_
      · rw [hc_, if_neg (by omega)]
        exact a3_
      · rw [hu_]
        split
        · rfl
        · exact a4_
    · rw [List.getElem?_append_right (by omega)] at w_
      have l_ := (List.getElem?_eq_some_iff.mp w_).1
      have l_ : j_ - Q_.length < 1 := l_
      have m_ := List.mem_singleton.mp (List.mem_of_getElem? w_)
      cases m_
      refine ⟨⟨tx_, ty_⟩, ?_, ?_, ?_⟩
      · rw [hq_, if_pos (by omega)]
        omega
      · rw [hc_, if_pos (by omega), ck_]
        omega
      · rw [hu_, if_pos (by omega)]
  · by_cases z_ : c_ = (64 * y_ + x_).toNat
    · refine ⟨Q_.length, d_ + 1, ?_⟩
      rw [List.getElem?_append_right (Nat.le_refl _), Nat.sub_self, show c_ % 64 = x_.toNat by omega, show c_ / 64 = y_.toNat by omega]
      rfl
    · rw [hu_, if_neg z_] at w_
      obtain ⟨j_, d'_, v_⟩ := e3_ c_ hc9_ w_
      refine ⟨j_, d'_, ?_⟩
      rw [List.getElem?_append_left (List.getElem?_eq_some_iff.mp v_).1]
      exact v_
theorem rcq_d (h_ : rcq I_ R1_ R2_ D_ nA_ nB_ bA_ bB_ k_ i_ mn q_ cl_ s_) (h6_ : R1_ ≤ 6 ∧ R2_ ≤ 6) (hk_ : (k_ : Int) < mn) (ha_ : 0 ≤ a_ ∧ a_ < 64) (hp_ : q_ k_ = 64 * b_ + a_) (hi_ : i_ < 2 ^ I_) (df_ : D_ (a_.toNat * 2 ^ I_ + i_) (b_.toNat * 2 ^ I_ + i_)) : bfsp I_ D_ nA_ nB_ bA_ bB_ (cl_ k_ + 1) := by
  obtain ⟨Q_, d_, s9_, e_, hz_, ck_⟩ := rcq_g h_ h6_ hk_ ha_ hp_
  rw [ck_]
  exact bfqs_d s9_ hi_ hz_ df_
theorem rcq_e (h_ : rcq I_ R1_ R2_ D_ nA_ nB_ bA_ bB_ k_ 0 mn q_ cl_ s_) (hk_ : mn ≤ (k_ : Int)) : bfsp I_ D_ nA_ nB_ bA_ bB_ 0 := by
  obtain ⟨Q_, s9_, e1_, -⟩ := h_
  exact bfqs_e s9_ (by omega)
end RC_

/-! M_.tellWitness -/
def vw_385w : sx_Wl := ([(13, 95)], [189], [])
def vq_385w (pl_ : Int) (ip_ : Int) (S0_ : sm_S) (u_ : Option sm_V) (S1_ : sm_S) : Prop := ∃ v_ : Int, u_ = some (.inl v_) ∧ gi S1_ ∧ ai_fr (sx_W vw_385w) S0_ S1_ ∧ ((0 ≤ v_ ∧ v_ ≤ 4096) ∧ v_ = S0_.2.2.1 197 0 pl_.toNat + 1)
set_option maxHeartbeats 400000 in
set_option maxRecDepth 20000 in
theorem vl_385w {sc_ : Nat × (Nat → Int)} (pl_ : Int) (ip_ : Int) (S0_ : sm_S) (hp_ : 0 ≤ pl_ ∧ pl_ ≤ 4095) (hi_ : 0 ≤ ip_ ∧ ip_ ≤ 4095) : ∀ nn_ : Nat, (∀ (mn : Int) (k_ : Int) (i_ : Int) (S_ : sm_S), gi S_ → ai_fr (sx_W vw_385w) S0_ S_ → ((mn = S0_.2.2.1 197 0 pl_.toNat + 1) ∧ (1 ≤ mn ∧ mn ≤ 4096 ∧ -1 ≤ i_ ∧ i_ ≤ mn - 2 ∧ 0 ≤ k_ ∧ k_ ≤ 4095) ∧ True) → ((i_ + 2).toNat) < nn_ → sm_T (mt_P sc_) 0 385 (31, [some (.inr (.inr (some (13, 0)))), some (.inl pl_), some (.inl ip_), some (.inl mn), some (.inl k_), some (.inl i_)], [], S_) (fun ro9_ => ∃ u_ S1_, ro9_ = (.inl u_, S1_, 0) ∧ vq_385w pl_ ip_ S0_ u_ S1_)) := by
  intro nn_
  induction nn_ with
  | zero => exact fun _ _ _ _ _ _ _ h_ => absurd h_ (Nat.not_lt_zero _)
  | succ nn_ ih_ =>
    rintro mn k_ i_ S_ hI_ hF_ ⟨hm9_, h0_, -⟩ hm_
    refine sm_T_go 1 (c1 := (33, [some (.inr (.inr (some (13, 0)))), some (.inl pl_), some (.inl ip_), some (.inl mn), some (.inl k_), some (.inl i_)], [.inl i_], S_)) rfl ?_
    refine sm_T_b0 (a := 2) (z := 32) rfl (fun cx1_ => ?_) (fun cx1_ => ?_)
    · have cx1_ : i_ < 0 := of_decide_eq_true cx1_
      refine sm_T_go 1 (c1 := (66, [some (.inr (.inr (some (13, 0)))), some (.inl pl_), some (.inl ip_), some (.inl mn), some (.inl k_), some (.inl i_)], [.inl mn], S_)) rfl ?_
      refine sm_T_ri rfl ⟨_, _, rfl, _, rfl, hI_, hF_, ?_⟩
      exact ⟨by omega, hm9_⟩
    · have cx1_ : ¬ (i_ < 0) := of_decide_eq_false cx1_
      refine sm_T_go 6 (c1 := (48, [some (.inr (.inr (some (13, 0)))), some (.inl pl_), some (.inl ip_), some (.inl mn), some (.inl k_), some (.inl i_)], [.inl k_, .inr (.inr (some (196, 0))), .inl i_, .inr (.inr (some (189, 0)))], S_)) rfl ?_
      refine sm_T_iald (n := 4096) rfl rfl (by omega) (by omega) ?_
      have bx2_ : 0 ≤ S_.2.2.1 196 0 k_.toNat ∧ S_.2.2.1 196 0 k_.toNat ≤ 4095 := hI_.2 196 0 _
      refine sm_T_iast (n := 4200) rfl rfl (by omega) (by omega) ?_
      have hIx3_ : gi (sm_aI S_ 189 0 i_.toNat (S_.2.2.1 196 0 k_.toNat)) := gi_aI hI_ (show 0 ≤ (S_.2.2.1 196 0 k_.toNat) ∧ (S_.2.2.1 196 0 k_.toNat) ≤ 4095 from ⟨by omega, by omega⟩)
      have hFx4_ : ai_fr (sx_W vw_385w) S0_ (sm_aI S_ 189 0 i_.toNat (S_.2.2.1 196 0 k_.toNat)) := ai_fr_tr hF_ (ai_fr_aI rfl)
      refine sm_T_go 3 (c1 := (56, [some (.inr (.inr (some (13, 0)))), some (.inl pl_), some (.inl ip_), some (.inl mn), some (.inl k_), some (.inl i_)], [.inl k_, .inr (.inr (some (195, 0)))], sm_aI S_ 189 0 i_.toNat (S_.2.2.1 196 0 k_.toNat))) rfl ?_
      refine sm_T_iald (n := 4096) rfl rfl (by omega) (by omega) ?_
      have bx5_ : 0 ≤ S_.2.2.1 195 0 k_.toNat ∧ S_.2.2.1 195 0 k_.toNat ≤ 4095 := hI_.2 195 0 _
      refine sm_T_go 1 (c1 := (59, [some (.inr (.inr (some (13, 0)))), some (.inl pl_), some (.inl ip_), some (.inl mn), some (.inl (S_.2.2.1 195 0 k_.toNat)), some (.inl i_)], [], sm_aI S_ 189 0 i_.toNat (S_.2.2.1 196 0 k_.toNat))) rfl ?_
      refine sm_T_inc (a := 5) (z := (-1)) (v := i_) (w := i_ - 1) rfl rfl (by omega) (by omega) (by omega) ?_ -- pc_ 59
      refine sm_T_go 1 (c1 := (31, [some (.inr (.inr (some (13, 0)))), some (.inl pl_), some (.inl ip_), some (.inl mn), some (.inl (S_.2.2.1 195 0 k_.toNat)), some (.inl (i_ - 1))], [], sm_aI S_ 189 0 i_.toNat (S_.2.2.1 196 0 k_.toNat))) rfl ?_
      refine ih_ mn (S_.2.2.1 195 0 k_.toNat) (i_ - 1) (sm_aI S_ 189 0 i_.toNat (S_.2.2.1 196 0 k_.toNat)) hIx3_ hFx4_ ⟨?_, ?_, trivial⟩ ?_
      · first | exact hm9_ | rfl | omega
      · omega
      · omega
set_option maxHeartbeats 400000 in
set_option maxRecDepth 20000 in
theorem vc_385w {sc_ : Nat × (Nat → Int)} (pl_ : Int) (ip_ : Int) (S0_ : sm_S) (hI_ : gi S0_) (hp_ : 0 ≤ pl_ ∧ pl_ ≤ 4095) (hi_ : 0 ≤ ip_ ∧ ip_ ≤ 4095) : sm_T (mt_P sc_) 0 385 (0, [some (.inr (.inr (some (13, 0)))), some (.inl pl_), some (.inl ip_), none, none, none], [], S0_) (fun ro9_ => ∃ u_ S1_, ro9_ = (.inl u_, S1_, 0) ∧ vq_385w pl_ ip_ S0_ u_ S1_) := by
  have hF_ : ai_fr (sx_W vw_385w) S0_ S0_ := ai_fr_rf
  refine sm_T_go 3 (c1 := (5, [some (.inr (.inr (some (13, 0)))), some (.inl pl_), some (.inl ip_), none, none, none], [.inl pl_, .inr (.inr (some (197, 0)))], S0_)) rfl ?_
  refine sm_T_iald (n := 4096) rfl rfl (by omega) (by omega) ?_
  have bx1_ : 0 ≤ S0_.2.2.1 197 0 pl_.toNat ∧ S0_.2.2.1 197 0 pl_.toNat ≤ 4095 := hI_.2 197 0 _
  refine sm_T_go 1 (c1 := (7, [some (.inr (.inr (some (13, 0)))), some (.inl pl_), some (.inl ip_), none, none, none], [.inl 1, .inl (S0_.2.2.1 197 0 pl_.toNat)], S0_)) rfl ?_
  refine sm_T_bin (w := (S0_.2.2.1 197 0 pl_.toNat) + 1) rfl (bi_add (by omega) (by omega) (by omega)) ?_ -- pc_ 7
  have hIx2_ : gi (sm_pI S0_ 13 0 95 ((S0_.2.2.1 197 0 pl_.toNat) + 1)) := gi_pI hI_ (show 0 ≤ (S0_.2.2.1 197 0 pl_.toNat) + 1 ∧ (S0_.2.2.1 197 0 pl_.toNat) + 1 ≤ 4097 from ⟨by omega, by omega⟩)
  have hFx3_ : ai_fr (sx_W vw_385w) S0_ (sm_pI S0_ 13 0 95 ((S0_.2.2.1 197 0 pl_.toNat) + 1)) := ai_fr_tr hF_ (ai_fr_pI rfl)
  refine sm_T_go 8 (c1 := (20, [some (.inr (.inr (some (13, 0)))), some (.inl pl_), some (.inl ip_), some (.inl ((S0_.2.2.1 197 0 pl_.toNat) + 1)), none, none], [.inl 1, .inl ((S0_.2.2.1 197 0 pl_.toNat) + 1), .inr (.inr (some (189, 0)))], sm_pI S0_ 13 0 95 ((S0_.2.2.1 197 0 pl_.toNat) + 1))) rfl ?_
  refine sm_T_bin (w := (S0_.2.2.1 197 0 pl_.toNat)) rfl (bi_sub (by omega) (by omega) (by omega)) ?_ -- pc_ 20
  refine sm_T_go 1 (c1 := (22, [some (.inr (.inr (some (13, 0)))), some (.inl pl_), some (.inl ip_), some (.inl ((S0_.2.2.1 197 0 pl_.toNat) + 1)), none, none], [.inl ip_, .inl (S0_.2.2.1 197 0 pl_.toNat), .inr (.inr (some (189, 0)))], sm_pI S0_ 13 0 95 ((S0_.2.2.1 197 0 pl_.toNat) + 1))) rfl ?_
  refine sm_T_iast (n := 4200) rfl rfl (by omega) (by omega) ?_
  have hIx4_ : gi (sm_aI (sm_pI S0_ 13 0 95 ((S0_.2.2.1 197 0 pl_.toNat) + 1)) 189 0 (S0_.2.2.1 197 0 pl_.toNat).toNat ip_) := gi_aI hIx2_ (show 0 ≤ ip_ ∧ ip_ ≤ 4095 from ⟨by omega, by omega⟩)
  have hFx5_ : ai_fr (sx_W vw_385w) S0_ (sm_aI (sm_pI S0_ 13 0 95 ((S0_.2.2.1 197 0 pl_.toNat) + 1)) 189 0 (S0_.2.2.1 197 0 pl_.toNat).toNat ip_) := ai_fr_tr hFx3_ (ai_fr_aI rfl)
  refine sm_T_go 4 (c1 := (28, [some (.inr (.inr (some (13, 0)))), some (.inl pl_), some (.inl ip_), some (.inl ((S0_.2.2.1 197 0 pl_.toNat) + 1)), some (.inl pl_), none], [.inl 2, .inl ((S0_.2.2.1 197 0 pl_.toNat) + 1)], sm_aI (sm_pI S0_ 13 0 95 ((S0_.2.2.1 197 0 pl_.toNat) + 1)) 189 0 (S0_.2.2.1 197 0 pl_.toNat).toNat ip_)) rfl ?_
  refine sm_T_bin (w := (S0_.2.2.1 197 0 pl_.toNat) - 1) rfl (bi_sub (by omega) (by omega) (by omega)) ?_ -- pc_ 28
  refine sm_T_go 1 (c1 := (31, [some (.inr (.inr (some (13, 0)))), some (.inl pl_), some (.inl ip_), some (.inl ((S0_.2.2.1 197 0 pl_.toNat) + 1)), some (.inl pl_), some (.inl ((S0_.2.2.1 197 0 pl_.toNat) - 1))], [], sm_aI (sm_pI S0_ 13 0 95 ((S0_.2.2.1 197 0 pl_.toNat) + 1)) 189 0 (S0_.2.2.1 197 0 pl_.toNat).toNat ip_)) rfl ?_
  refine (vl_385w pl_ ip_ S0_ hp_ hi_ _) ((S0_.2.2.1 197 0 pl_.toNat) + 1) pl_ ((S0_.2.2.1 197 0 pl_.toNat) - 1) (sm_aI (sm_pI S0_ 13 0 95 ((S0_.2.2.1 197 0 pl_.toNat) + 1)) 189 0 (S0_.2.2.1 197 0 pl_.toNat).toNat ip_) hIx4_ hFx5_ ⟨?_, ?_, trivial⟩ (Nat.lt_succ_self _)
  · first | exact hm9_ | rfl | omega
  · omega
/-! M_.search -/
def vw_386w : sx_Wl := ([(13, 95)], [189, 194, 195, 196, 197, 198], [])
def vq_386w (ip_ : Int) (bA_ : Int) (bB_ : Int) (sA_ : Nat) (sB_ : Nat) (S0_ : sm_S) (u_ : Option sm_V) (S1_ : sm_S) : Prop := ∃ v_ : Int, u_ = some (.inl v_) ∧ gi S1_ ∧ ai_fr (sx_W vw_386w) S0_ S1_ ∧ ((0 ≤ v_ ∧ v_ ≤ 4096) ∧ bfsp ip_.toNat (neD (S0_.2.2.1 190 0) (S0_.2.2.1 192 0)) (S0_.2.2.1 191 0) (S0_.2.2.1 193 0) bA_.toNat bB_.toNat v_)
set_option maxHeartbeats 3000000 in
set_option maxRecDepth 20000 in
theorem vl_386w {sc_ : Nat × (Nat → Int)} (ip_ : Int) (bA_ : Int) (bB_ : Int) (sA_ : Nat) (sB_ : Nat) (S0_ : sm_S) (hi_ : 0 ≤ ip_ ∧ ip_ + sA_ ≤ 12 ∧ ip_ + sB_ ≤ 12 ∧ sA_ ≤ 6 ∧ sB_ ≤ 6) (hbA_ : 0 ≤ bA_ ∧ bA_ < 2 ^ sA_) (hbB_ : 0 ≤ bB_ ∧ bB_ < 2 ^ sB_) (htA_ : ∀ p9_ : Nat, p9_ < 2 ^ (ip_.toNat + sA_) → 0 ≤ S0_.2.2.1 191 0 p9_ ∧ S0_.2.2.1 191 0 p9_ < 2 ^ sA_) (htB_ : ∀ p9_ : Nat, p9_ < 2 ^ (ip_.toNat + sB_) → 0 ≤ S0_.2.2.1 193 0 p9_ ∧ S0_.2.2.1 193 0 p9_ < 2 ^ sB_) : ∀ nn_ : Nat, (∀ (k_ : Int) (S_ : sm_S), gi S_ → ai_fr (sx_W vw_386w) S0_ S_ → ((0 ≤ k_ ∧ k_ ≤ 4096) ∧ (∀ j9_ : Nat, (j9_ : Int) < k_ → S_.2.2.1 198 0 j9_ = 0) ∧ True) → ((90000000 - k_).toNat) < nn_ → sm_T (mt_P sc_) 1 386 (8, [some (.inr (.inr (some (13, 0)))), some (.inl ip_), some (.inl bA_), some (.inl bB_), some (.inl k_), none, none, none, none, none], [], S_) (fun ro9_ => ∃ u_ S1_, ro9_ = (.inl u_, S1_, 0) ∧ vq_386w ip_ bA_ bB_ sA_ sB_ S0_ u_ S1_)) ∧ (∀ (mn : Int) (k_ : Int) (S_ : sm_S), gi S_ → ai_fr (sx_W vw_386w) S0_ S_ → ((∀ j9_ : Nat, (j9_ : Int) < mn → S_.2.2.1 194 0 j9_ % 64 < 2 ^ sA_ ∧ S_.2.2.1 194 0 j9_ / 64 < 2 ^ sB_ ∧ S_.2.2.1 197 0 j9_ ≤ (j9_ : Int)) ∧ (mn = (cn1 (S_.2.2.1 198 0) 4096 : Int)) ∧ (rcq ip_.toNat sA_ sB_ (neD (S0_.2.2.1 190 0) (S0_.2.2.1 192 0)) (S0_.2.2.1 191 0) (S0_.2.2.1 193 0) bA_.toNat bB_.toNat k_.toNat 0 mn (S_.2.2.1 194 0) (S_.2.2.1 197 0) (S_.2.2.1 198 0)) ∧ (1 ≤ mn ∧ 0 ≤ k_ ∧ k_ ≤ mn) ∧ True) → ((10000 * (5000 - k_) + 9000).toNat) < nn_ → sm_T (mt_P sc_) 1 386 (67, [some (.inr (.inr (some (13, 0)))), some (.inl ip_), some (.inl bA_), some (.inl bB_), some (.inl mn), some (.inl k_), none, none, none, none], [], S_) (fun ro9_ => ∃ u_ S1_, ro9_ = (.inl u_, S1_, 0) ∧ vq_386w ip_ bA_ bB_ sA_ sB_ S0_ u_ S1_)) ∧ (∀ (mn : Int) (k_ : Int) (a_ : Int) (b_ : Int) (i_ : Int) (S_ : sm_S), gi S_ → ai_fr (sx_W vw_386w) S0_ S_ → ((∀ j9_ : Nat, (j9_ : Int) < mn → S_.2.2.1 194 0 j9_ % 64 < 2 ^ sA_ ∧ S_.2.2.1 194 0 j9_ / 64 < 2 ^ sB_ ∧ S_.2.2.1 197 0 j9_ ≤ (j9_ : Int)) ∧ (mn = (cn1 (S_.2.2.1 198 0) 4096 : Int)) ∧ (rcq ip_.toNat sA_ sB_ (neD (S0_.2.2.1 190 0) (S0_.2.2.1 192 0)) (S0_.2.2.1 191 0) (S0_.2.2.1 193 0) bA_.toNat bB_.toNat k_.toNat i_.toNat mn (S_.2.2.1 194 0) (S_.2.2.1 197 0) (S_.2.2.1 198 0)) ∧ (S_.2.2.1 194 0 k_.toNat = 64 * b_ + a_) ∧ (1 ≤ mn ∧ 0 ≤ k_ ∧ k_ < mn ∧ 0 ≤ i_ ∧ i_ ≤ 2 ^ ip_.toNat) ∧ (0 ≤ a_ ∧ a_ < 2 ^ sA_ ∧ 0 ≤ b_ ∧ b_ < 2 ^ sB_) ∧ True) → ((10000 * (5000 - k_) + 8000 - i_).toNat) < nn_ → sm_T (mt_P sc_) 1 386 (101, [some (.inr (.inr (some (13, 0)))), some (.inl ip_), some (.inl bA_), some (.inl bB_), some (.inl mn), some (.inl k_), some (.inl a_), some (.inl b_), some (.inl i_), none], [], S_) (fun ro9_ => ∃ u_ S1_, ro9_ = (.inl u_, S1_, 0) ∧ vq_386w ip_ bA_ bB_ sA_ sB_ S0_ u_ S1_)) := by
  intro nn_
  induction nn_ with
  | zero => exact ⟨fun _ _ _ _ _ h_ => absurd h_ (Nat.not_lt_zero _), fun _ _ _ _ _ _ h_ => absurd h_ (Nat.not_lt_zero _), fun _ _ _ _ _ _ _ _ _ h_ => absurd h_ (Nat.not_lt_zero _)⟩
  | succ nn_ ih_ =>
    refine ⟨?_, ?_, ?_⟩
    · rintro k_ S_ hI_ hF_ ⟨h0_, h1_, -⟩ hm_
      have w1_ := pw_le (n := sA_) (m := 6) (by omega)
      have w2_ := pw_le (n := sB_) (m := 6) (by omega)
      have w3_ := pw_pos sA_
      have w4_ := pw_pos sB_
      have w5_ := pw_le (n := ip_.toNat) (m := 12) (by omega)
      have w6_ := pw_pos ip_.toNat
      have f191_ : S_.2.2.1 191 0 = S0_.2.2.1 191 0 := fr_arr hF_ rfl
      have f190_ : S_.2.2.1 190 0 = S0_.2.2.1 190 0 := fr_arr hF_ rfl
      have f192_ : S_.2.2.1 192 0 = S0_.2.2.1 192 0 := fr_arr hF_ rfl
      have f193_ : S_.2.2.1 193 0 = S0_.2.2.1 193 0 := fr_arr hF_ rfl
      have cl9_ := cn1_le (S_.2.2.1 198 0) 4096
      have s9_ := i_shl1 (e := ip_) (by omega) (by omega)
      refine sm_T_go 2 (c1 := (13, [some (.inr (.inr (some (13, 0)))), some (.inl ip_), some (.inl bA_), some (.inl bB_), some (.inl k_), none, none, none, none, none], [.inl 4096, .inl k_], S_)) rfl ?_
      refine sm_T_br (a := 3) (z := 17) rfl (fun cx1_ => ?_) (fun cx1_ => ?_)
      · have cx1_ : 4096 ≤ k_ := of_decide_eq_true cx1_
        refine sm_T_go 8 (c1 := (42, [some (.inr (.inr (some (13, 0)))), some (.inl ip_), some (.inl bA_), some (.inl bB_), some (.inl 1), none, none, none, none, none], [.inl 6, .inl bB_, .inl bA_, .inl 0, .inr (.inr (some (194, 0)))], S_)) rfl ?_
        refine sm_T_bin (w := 64 * bB_) rfl (bi_shl (k := 6) (by decide) (by omega) (by omega) (by omega)) ?_ -- pc_ 42
        refine sm_T_bin (w := (i_or bA_ (64 * bB_))) rfl rfl ?_ -- pc_ 43
        have bx2_ := or64c (a_ := bB_) (b_ := bA_) (by omega) (by omega)
        refine sm_T_iast (n := 4096) rfl rfl (by omega) (by omega) ?_
        have hIx3_ : gi (sm_aI S_ 194 0 (0 : Int).toNat (i_or bA_ (64 * bB_))) := gi_aI hI_ (show 0 ≤ (i_or bA_ (64 * bB_)) ∧ (i_or bA_ (64 * bB_)) ≤ 4095 from ⟨by omega, by omega⟩)
        have hFx4_ : ai_fr (sx_W vw_386w) S0_ (sm_aI S_ 194 0 (0 : Int).toNat (i_or bA_ (64 * bB_))) := ai_fr_tr hF_ (ai_fr_aI rfl)
        refine sm_T_go 4 (c1 := (51, [some (.inr (.inr (some (13, 0)))), some (.inl ip_), some (.inl bA_), some (.inl bB_), some (.inl 1), none, none, none, none, none], [.inl 0, .inl 0, .inr (.inr (some (197, 0)))], sm_aI S_ 194 0 (0 : Int).toNat (i_or bA_ (64 * bB_)))) rfl ?_
        refine sm_T_iast (n := 4096) rfl rfl (by omega) (by omega) ?_
        have hIx5_ : gi (sm_aI (sm_aI S_ 194 0 (0 : Int).toNat (i_or bA_ (64 * bB_))) 197 0 (0 : Int).toNat 0) := gi_aI hIx3_ (show 0 ≤ 0 ∧ 0 ≤ 4095 from ⟨by omega, by omega⟩)
        have hFx6_ : ai_fr (sx_W vw_386w) S0_ (sm_aI (sm_aI S_ 194 0 (0 : Int).toNat (i_or bA_ (64 * bB_))) 197 0 (0 : Int).toNat 0) := ai_fr_tr hFx4_ (ai_fr_aI rfl)
        refine sm_T_go 5 (c1 := (61, [some (.inr (.inr (some (13, 0)))), some (.inl ip_), some (.inl bA_), some (.inl bB_), some (.inl 1), none, none, none, none, none], [.inl 0, .inr (.inr (some (194, 0))), .inr (.inr (some (198, 0)))], sm_aI (sm_aI S_ 194 0 (0 : Int).toNat (i_or bA_ (64 * bB_))) 197 0 (0 : Int).toNat 0)) rfl ?_
        refine sm_T_iald (n := 4096) rfl rfl (by omega) (by omega) ?_
        have bx7_ : 0 ≤ (sm_aI (sm_aI S_ 194 0 (0 : Int).toNat (i_or bA_ (64 * bB_))) 197 0 (0 : Int).toNat 0).2.2.1 194 0 (0 : Int).toNat ∧ (sm_aI (sm_aI S_ 194 0 (0 : Int).toNat (i_or bA_ (64 * bB_))) 197 0 (0 : Int).toNat 0).2.2.1 194 0 (0 : Int).toNat ≤ 4095 := hIx5_.2 194 0 _
        refine sm_T_go 1 (c1 := (63, [some (.inr (.inr (some (13, 0)))), some (.inl ip_), some (.inl bA_), some (.inl bB_), some (.inl 1), none, none, none, none, none], [.inl 1, .inl ((sm_aI (sm_aI S_ 194 0 (0 : Int).toNat (i_or bA_ (64 * bB_))) 197 0 (0 : Int).toNat 0).2.2.1 194 0 (0 : Int).toNat), .inr (.inr (some (198, 0)))], sm_aI (sm_aI S_ 194 0 (0 : Int).toNat (i_or bA_ (64 * bB_))) 197 0 (0 : Int).toNat 0)) rfl ?_
        refine sm_T_zas1 (n := 4096) rfl rfl (by omega) (by omega) (by omega) ?_
        have hIx8_ : gi (sm_aI (sm_aI (sm_aI S_ 194 0 (0 : Int).toNat (i_or bA_ (64 * bB_))) 197 0 (0 : Int).toNat 0) 198 0 ((sm_aI (sm_aI S_ 194 0 (0 : Int).toNat (i_or bA_ (64 * bB_))) 197 0 (0 : Int).toNat 0).2.2.1 194 0 (0 : Int).toNat).toNat 1) := gi_aI hIx5_ (show 0 ≤ 1 ∧ 1 ≤ 1 from ⟨by omega, by omega⟩)
        have hFx9_ : ai_fr (sx_W vw_386w) S0_ (sm_aI (sm_aI (sm_aI S_ 194 0 (0 : Int).toNat (i_or bA_ (64 * bB_))) 197 0 (0 : Int).toNat 0) 198 0 ((sm_aI (sm_aI S_ 194 0 (0 : Int).toNat (i_or bA_ (64 * bB_))) 197 0 (0 : Int).toNat 0).2.2.1 194 0 (0 : Int).toNat).toNat 1) := ai_fr_tr hFx6_ (ai_fr_aI rfl)
        refine sm_T_go 2 (c1 := (67, [some (.inr (.inr (some (13, 0)))), some (.inl ip_), some (.inl bA_), some (.inl bB_), some (.inl 1), some (.inl 0), none, none, none, none], [], sm_aI (sm_aI (sm_aI S_ 194 0 (0 : Int).toNat (i_or bA_ (64 * bB_))) 197 0 (0 : Int).toNat 0) 198 0 ((sm_aI (sm_aI S_ 194 0 (0 : Int).toNat (i_or bA_ (64 * bB_))) 197 0 (0 : Int).toNat 0).2.2.1 194 0 (0 : Int).toNat).toNat 1)) rfl ?_
        refine ih_.2.1 1 0 (sm_aI (sm_aI (sm_aI S_ 194 0 (0 : Int).toNat (i_or bA_ (64 * bB_))) 197 0 (0 : Int).toNat 0) 198 0 ((sm_aI (sm_aI S_ 194 0 (0 : Int).toNat (i_or bA_ (64 * bB_))) 197 0 (0 : Int).toNat 0).2.2.1 194 0 (0 : Int).toNat).toNat 1) hIx8_ hFx9_ ⟨?_, ?_, ?_, ?_, trivial⟩ ?_
        · obtain ⟨FF_, hFF_⟩ : ∃ FF_, FF_ = i_or bA_ (64 * bB_) := ⟨_, rfl⟩
          have g9_ : 0 ≤ FF_ ∧ FF_ ≤ 4095 ∧ FF_ % 64 = bA_ ∧ FF_ / 64 = bB_ := by (rw [hFF_]; omega)
          have r1_ : ∀ j9_, ((sm_aI (sm_aI (sm_aI S_ 194 0 (0 : Int).toNat (i_or bA_ (64 * bB_))) 197 0 (0 : Int).toNat 0) 198 0 ((sm_aI (sm_aI S_ 194 0 (0 : Int).toNat (i_or bA_ (64 * bB_))) 197 0 (0 : Int).toNat 0).2.2.1 194 0 (0 : Int).toNat).toNat 1)).2.2.1 194 0 j9_ = if j9_ = 0 then FF_ else S_.2.2.1 194 0 j9_ := fun j9_ => by (rw [rd_ne (by decide), rd_ne (by decide), rd_eq, hFF_]; rfl)
          have r0_ : (sm_aI (sm_aI S_ 194 0 (0 : Int).toNat (i_or bA_ (64 * bB_))) 197 0 (0 : Int).toNat 0).2.2.1 194 0 (0 : Int).toNat = i_or bA_ (64 * bB_) := by (rw [rd_ne (show 194 ≠ 197 by decide), rd_eq, if_pos rfl])
          have r2_ : ∀ j9_, ((sm_aI (sm_aI (sm_aI S_ 194 0 (0 : Int).toNat (i_or bA_ (64 * bB_))) 197 0 (0 : Int).toNat 0) 198 0 ((sm_aI (sm_aI S_ 194 0 (0 : Int).toNat (i_or bA_ (64 * bB_))) 197 0 (0 : Int).toNat 0).2.2.1 194 0 (0 : Int).toNat).toNat 1)).2.2.1 198 0 j9_ = if j9_ = FF_.toNat then 1 else S_.2.2.1 198 0 j9_ := fun j9_ => by (rw [rd_eq, r0_, rd_ne (show 198 ≠ 197 by decide), rd_ne (show 198 ≠ 194 by decide), hFF_])
          have r3_ : ∀ j9_, ((sm_aI (sm_aI (sm_aI S_ 194 0 (0 : Int).toNat (i_or bA_ (64 * bB_))) 197 0 (0 : Int).toNat 0) 198 0 ((sm_aI (sm_aI S_ 194 0 (0 : Int).toNat (i_or bA_ (64 * bB_))) 197 0 (0 : Int).toNat 0).2.2.1 194 0 (0 : Int).toNat).toNat 1)).2.2.1 197 0 j9_ = if j9_ = 0 then 0 else S_.2.2.1 197 0 j9_ := fun j9_ => by (rw [rd_ne (by decide), rd_eq, rd_ne (by decide)]; rfl)
          intro j9_ hj9_
          have z9_ : j9_ = 0 := by omega
          rw [z9_, r1_, r3_, if_pos rfl, if_pos rfl]
          exact ⟨by omega, by omega, by omega⟩
        · obtain ⟨FF_, hFF_⟩ : ∃ FF_, FF_ = i_or bA_ (64 * bB_) := ⟨_, rfl⟩
          have g9_ : 0 ≤ FF_ ∧ FF_ ≤ 4095 ∧ FF_ % 64 = bA_ ∧ FF_ / 64 = bB_ := by (rw [hFF_]; omega)
          have r1_ : ∀ j9_, ((sm_aI (sm_aI (sm_aI S_ 194 0 (0 : Int).toNat (i_or bA_ (64 * bB_))) 197 0 (0 : Int).toNat 0) 198 0 ((sm_aI (sm_aI S_ 194 0 (0 : Int).toNat (i_or bA_ (64 * bB_))) 197 0 (0 : Int).toNat 0).2.2.1 194 0 (0 : Int).toNat).toNat 1)).2.2.1 194 0 j9_ = if j9_ = 0 then FF_ else S_.2.2.1 194 0 j9_ := fun j9_ => by (rw [rd_ne (by decide), rd_ne (by decide), rd_eq, hFF_]; rfl)
          have r0_ : (sm_aI (sm_aI S_ 194 0 (0 : Int).toNat (i_or bA_ (64 * bB_))) 197 0 (0 : Int).toNat 0).2.2.1 194 0 (0 : Int).toNat = i_or bA_ (64 * bB_) := by (rw [rd_ne (show 194 ≠ 197 by decide), rd_eq, if_pos rfl])
          have r2_ : ∀ j9_, ((sm_aI (sm_aI (sm_aI S_ 194 0 (0 : Int).toNat (i_or bA_ (64 * bB_))) 197 0 (0 : Int).toNat 0) 198 0 ((sm_aI (sm_aI S_ 194 0 (0 : Int).toNat (i_or bA_ (64 * bB_))) 197 0 (0 : Int).toNat 0).2.2.1 194 0 (0 : Int).toNat).toNat 1)).2.2.1 198 0 j9_ = if j9_ = FF_.toNat then 1 else S_.2.2.1 198 0 j9_ := fun j9_ => by (rw [rd_eq, r0_, rd_ne (show 198 ≠ 197 by decide), rd_ne (show 198 ≠ 194 by decide), hFF_])
          have r3_ : ∀ j9_, ((sm_aI (sm_aI (sm_aI S_ 194 0 (0 : Int).toNat (i_or bA_ (64 * bB_))) 197 0 (0 : Int).toNat 0) 198 0 ((sm_aI (sm_aI S_ 194 0 (0 : Int).toNat (i_or bA_ (64 * bB_))) 197 0 (0 : Int).toNat 0).2.2.1 194 0 (0 : Int).toNat).toNat 1)).2.2.1 197 0 j9_ = if j9_ = 0 then 0 else S_.2.2.1 197 0 j9_ := fun j9_ => by (rw [rd_ne (by decide), rd_eq, rd_ne (by decide)]; rfl)
          rw [cn1_cg (g := fun k9_ : Nat => if k9_ = FF_.toNat then (1 : Int) else 0) (fun k9_ hk9_ => ?_), cn1_one (j := FF_.toNat) (fun k9_ => ?_) 4096, if_pos (by omega)]
          · rfl
          · constructor
            · intro y9_; by_cases y8_ : k9_ = FF_.toNat; exact y8_; (rw [if_neg y8_] at y9_; exact absurd y9_ (by decide))
            · intro y9_; exact if_pos y9_
          · rw [r2_]
            by_cases y9_ : k9_ = FF_.toNat
            · rw [if_pos y9_, if_pos y9_]
            · rw [if_neg y9_, if_neg y9_, h1_ k9_ (by omega)]
        · obtain ⟨FF_, hFF_⟩ : ∃ FF_, FF_ = i_or bA_ (64 * bB_) := ⟨_, rfl⟩
          have g9_ : 0 ≤ FF_ ∧ FF_ ≤ 4095 ∧ FF_ % 64 = bA_ ∧ FF_ / 64 = bB_ := by (rw [hFF_]; omega)
          have r1_ : ∀ j9_, ((sm_aI (sm_aI (sm_aI S_ 194 0 (0 : Int).toNat (i_or bA_ (64 * bB_))) 197 0 (0 : Int).toNat 0) 198 0 ((sm_aI (sm_aI S_ 194 0 (0 : Int).toNat (i_or bA_ (64 * bB_))) 197 0 (0 : Int).toNat 0).2.2.1 194 0 (0 : Int).toNat).toNat 1)).2.2.1 194 0 j9_ = if j9_ = 0 then FF_ else S_.2.2.1 194 0 j9_ := fun j9_ => by (rw [rd_ne (by decide), rd_ne (by decide), rd_eq, hFF_]; rfl)
          have r0_ : (sm_aI (sm_aI S_ 194 0 (0 : Int).toNat (i_or bA_ (64 * bB_))) 197 0 (0 : Int).toNat 0).2.2.1 194 0 (0 : Int).toNat = i_or bA_ (64 * bB_) := by (rw [rd_ne (show 194 ≠ 197 by decide), rd_eq, if_pos rfl])
          have r2_ : ∀ j9_, ((sm_aI (sm_aI (sm_aI S_ 194 0 (0 : Int).toNat (i_or bA_ (64 * bB_))) 197 0 (0 : Int).toNat 0) 198 0 ((sm_aI (sm_aI S_ 194 0 (0 : Int).toNat (i_or bA_ (64 * bB_))) 197 0 (0 : Int).toNat 0).2.2.1 194 0 (0 : Int).toNat).toNat 1)).2.2.1 198 0 j9_ = if j9_ = FF_.toNat then 1 else S_.2.2.1 198 0 j9_ := fun j9_ => by (rw [rd_eq, r0_, rd_ne (show 198 ≠ 197 by decide), rd_ne (show 198 ≠ 194 by decide), hFF_])
          have r3_ : ∀ j9_, ((sm_aI (sm_aI (sm_aI S_ 194 0 (0 : Int).toNat (i_or bA_ (64 * bB_))) 197 0 (0 : Int).toNat 0) 198 0 ((sm_aI (sm_aI S_ 194 0 (0 : Int).toNat (i_or bA_ (64 * bB_))) 197 0 (0 : Int).toNat 0).2.2.1 194 0 (0 : Int).toNat).toNat 1)).2.2.1 197 0 j9_ = if j9_ = 0 then 0 else S_.2.2.1 197 0 j9_ := fun j9_ => by (rw [rd_ne (by decide), rd_eq, rd_ne (by decide)]; rfl)
          refine rcq_0 (f_ := FF_) ⟨pw_tn hbA_.1 hbA_.2, pw_tn hbB_.1 hbB_.2⟩ ⟨by omega, by omega⟩ (by omega) (by rw [r1_, if_pos rfl]) (by rw [r3_, if_pos rfl]) (fun j9_ hj9_ => ?_)
          rw [r2_]
          by_cases z9_ : j9_ = FF_.toNat
          · rw [if_pos z9_, if_pos z9_]
          · rw [if_neg z9_, if_neg z9_]; exact h1_ j9_ (by omega)
        · omega
        · omega
      · have cx1_ : ¬ (4096 ≤ k_) := of_decide_eq_false cx1_
        refine sm_T_go 4 (c1 := (23, [some (.inr (.inr (some (13, 0)))), some (.inl ip_), some (.inl bA_), some (.inl bB_), some (.inl k_), none, none, none, none, none], [.inl 0, .inl k_, .inr (.inr (some (198, 0)))], S_)) rfl ?_
        refine sm_T_zas1 (n := 4096) rfl rfl (by omega) (by omega) (by omega) ?_
        have hIx10_ : gi (sm_aI S_ 198 0 k_.toNat 0) := gi_aI hI_ (show 0 ≤ 0 ∧ 0 ≤ 1 from ⟨by omega, by omega⟩)
        have hFx11_ : ai_fr (sx_W vw_386w) S0_ (sm_aI S_ 198 0 k_.toNat 0) := ai_fr_tr hF_ (ai_fr_aI rfl)
        refine sm_T_inc (a := 4) (z := 1) (v := k_) (w := k_ + 1) rfl rfl (by omega) (by omega) (by omega) ?_ -- pc_ 24
        refine sm_T_go 1 (c1 := (8, [some (.inr (.inr (some (13, 0)))), some (.inl ip_), some (.inl bA_), some (.inl bB_), some (.inl (k_ + 1)), none, none, none, none, none], [], sm_aI S_ 198 0 k_.toNat 0)) rfl ?_
        refine ih_.1 (k_ + 1) (sm_aI S_ 198 0 k_.toNat 0) hIx10_ hFx11_ ⟨?_, ?_, trivial⟩ ?_
        · omega
        · intro j9_ hj9_
          rw [rd_eq]
          by_cases z9_ : j9_ = k_.toNat
          · rw [if_pos z9_]
          · rw [if_neg z9_]; exact h1_ j9_ (by omega)
        · omega
    · rintro mn k_ S_ hI_ hF_ ⟨hq_, hc_, hcq_, h0_, -⟩ hm_
      have w1_ := pw_le (n := sA_) (m := 6) (by omega)
      have w2_ := pw_le (n := sB_) (m := 6) (by omega)
      have w3_ := pw_pos sA_
      have w4_ := pw_pos sB_
      have w5_ := pw_le (n := ip_.toNat) (m := 12) (by omega)
      have w6_ := pw_pos ip_.toNat
      have f191_ : S_.2.2.1 191 0 = S0_.2.2.1 191 0 := fr_arr hF_ rfl
      have f190_ : S_.2.2.1 190 0 = S0_.2.2.1 190 0 := fr_arr hF_ rfl
      have f192_ : S_.2.2.1 192 0 = S0_.2.2.1 192 0 := fr_arr hF_ rfl
      have f193_ : S_.2.2.1 193 0 = S0_.2.2.1 193 0 := fr_arr hF_ rfl
      have cl9_ := cn1_le (S_.2.2.1 198 0) 4096
      have s9_ := i_shl1 (e := ip_) (by omega) (by omega)
      refine sm_T_go 2 (c1 := (71, [some (.inr (.inr (some (13, 0)))), some (.inl ip_), some (.inl bA_), some (.inl bB_), some (.inl mn), some (.inl k_), none, none, none, none], [.inl mn, .inl k_], S_)) rfl ?_
      refine sm_T_br (a := 3) (z := 180) rfl (fun cx1_ => ?_) (fun cx1_ => ?_)
      · have cx1_ : mn ≤ k_ := of_decide_eq_true cx1_
        refine sm_T_go 1 (c1 := (252, [some (.inr (.inr (some (13, 0)))), some (.inl ip_), some (.inl bA_), some (.inl bB_), some (.inl mn), some (.inl k_), none, none, none, none], [.inl 0], S_)) rfl ?_
        refine sm_T_ri rfl ⟨_, _, rfl, _, rfl, hI_, hF_, ?_⟩
        first | exact ⟨w141_.1, by (rw [w141_.2]; exact sp9_)⟩ | exact ⟨by omega, rcq_e hcq_ (by omega)⟩
      · have cx1_ : ¬ (mn ≤ k_) := of_decide_eq_false cx1_
        have q9_ := hq_ k_.toNat (by omega)
        refine sm_T_go 3 (c1 := (80, [some (.inr (.inr (some (13, 0)))), some (.inl ip_), some (.inl bA_), some (.inl bB_), some (.inl mn), some (.inl k_), none, none, none, none], [.inl k_, .inr (.inr (some (194, 0)))], S_)) rfl ?_
        refine sm_T_iald (n := 4096) rfl rfl (by omega) (by omega) ?_
        have bx2_ : 0 ≤ S_.2.2.1 194 0 k_.toNat ∧ S_.2.2.1 194 0 k_.toNat ≤ 4095 := hI_.2 194 0 _
        refine sm_T_go 1 (c1 := (83, [some (.inr (.inr (some (13, 0)))), some (.inl ip_), some (.inl bA_), some (.inl bB_), some (.inl mn), some (.inl k_), none, none, none, none], [.inl 63, .inl (S_.2.2.1 194 0 k_.toNat)], S_)) rfl ?_
        refine sm_T_bin (w := ((S_.2.2.1 194 0 k_.toNat) % 64)) rfl (bi_msk (k := 6) (by decide)) ?_ -- pc_ 83
        refine sm_T_go 4 (c1 := (92, [some (.inr (.inr (some (13, 0)))), some (.inl ip_), some (.inl bA_), some (.inl bB_), some (.inl mn), some (.inl k_), some (.inl ((S_.2.2.1 194 0 k_.toNat) % 64)), none, none, none], [.inl k_, .inr (.inr (some (194, 0)))], S_)) rfl ?_
        refine sm_T_iald (n := 4096) rfl rfl (by omega) (by omega) ?_
        refine sm_T_go 1 (c1 := (95, [some (.inr (.inr (some (13, 0)))), some (.inl ip_), some (.inl bA_), some (.inl bB_), some (.inl mn), some (.inl k_), some (.inl ((S_.2.2.1 194 0 k_.toNat) % 64)), none, none, none], [.inl 6, .inl (S_.2.2.1 194 0 k_.toNat)], S_)) rfl ?_
        refine sm_T_bin (w := ((S_.2.2.1 194 0 k_.toNat) / 64)) rfl (bi_shr (k := 6) (by decide) (by omega) (by omega)) ?_ -- pc_ 95
        refine sm_T_go 3 (c1 := (101, [some (.inr (.inr (some (13, 0)))), some (.inl ip_), some (.inl bA_), some (.inl bB_), some (.inl mn), some (.inl k_), some (.inl ((S_.2.2.1 194 0 k_.toNat) % 64)), some (.inl ((S_.2.2.1 194 0 k_.toNat) / 64)), some (.inl 0), none], [], S_)) rfl ?_
        refine ih_.2.2 mn k_ ((S_.2.2.1 194 0 k_.toNat) % 64) ((S_.2.2.1 194 0 k_.toNat) / 64) 0 S_ hI_ hF_ ⟨?_, ?_, ?_, ?_, ?_, ?_, trivial⟩ ?_
        · exact hq_
        · exact hc_
        · exact hcq_
        · omega
        · omega
        · omega
        · omega
    · rintro mn k_ a_ b_ i_ S_ hI_ hF_ ⟨hq_, hc_, hcq_, hab_, h0_, h2_, -⟩ hm_
      have w1_ := pw_le (n := sA_) (m := 6) (by omega)
      have w2_ := pw_le (n := sB_) (m := 6) (by omega)
      have w3_ := pw_pos sA_
      have w4_ := pw_pos sB_
      have w5_ := pw_le (n := ip_.toNat) (m := 12) (by omega)
      have w6_ := pw_pos ip_.toNat
      have f191_ : S_.2.2.1 191 0 = S0_.2.2.1 191 0 := fr_arr hF_ rfl
      have f190_ : S_.2.2.1 190 0 = S0_.2.2.1 190 0 := fr_arr hF_ rfl
      have f192_ : S_.2.2.1 192 0 = S0_.2.2.1 192 0 := fr_arr hF_ rfl
      have f193_ : S_.2.2.1 193 0 = S0_.2.2.1 193 0 := fr_arr hF_ rfl
      have cl9_ := cn1_le (S_.2.2.1 198 0) 4096
      have s9_ := i_shl1 (e := ip_) (by omega) (by omega)
      refine sm_T_go 3 (c1 := (105, [some (.inr (.inr (some (13, 0)))), some (.inl ip_), some (.inl bA_), some (.inl bB_), some (.inl mn), some (.inl k_), some (.inl a_), some (.inl b_), some (.inl i_), none], [.inl ip_, .inl 1, .inl i_], S_)) rfl ?_
      refine sm_T_bin (w := (i_shl 1 ip_)) rfl rfl ?_ -- pc_ 105
      refine sm_T_br (a := 3) (z := 139) rfl (fun cx1_ => ?_) (fun cx1_ => ?_)
      · have cx1_ : (i_shl 1 ip_) ≤ i_ := of_decide_eq_true cx1_
        refine sm_T_inc (a := 5) (z := 1) (v := k_) (w := k_ + 1) rfl rfl (by omega) (by omega) (by omega) ?_ -- pc_ 245
        refine sm_T_go 1 (c1 := (67, [some (.inr (.inr (some (13, 0)))), some (.inl ip_), some (.inl bA_), some (.inl bB_), some (.inl mn), some (.inl (k_ + 1)), some (.inl a_), some (.inl b_), some (.inl i_), none], [], S_)) rfl ?_
        refine sm_T_wk [some (.inr (.inr (some (13, 0)))), some (.inl ip_), some (.inl bA_), some (.inl bB_), some (.inl mn), some (.inl (k_ + 1)), none, none, none, none] (by exact ⟨rfl, rfl, rfl, rfl, rfl, rfl, trivial⟩) ?_
        refine ih_.2.1 mn (k_ + 1) S_ hI_ hF_ ⟨?_, ?_, ?_, ?_, trivial⟩ ?_
        · exact hq_
        · exact hc_
        · rw [show (k_ + 1).toNat = k_.toNat + 1 by omega]
          exact rcq_n hcq_ (by have z9_ := pw_nn (k_ := ip_.toNat); omega)
        · omega
        · omega
      · have cx1_ : ¬ ((i_shl 1 ip_) ≤ i_) := of_decide_eq_false cx1_
        have p1_ := pat_c (s_ := a_) (i_ := i_) (R_ := sA_) (I_ := ip_.toNat) (by omega) (by omega) (by omega)
        have p2_ := pat_c (s_ := b_) (i_ := i_) (R_ := sB_) (I_ := ip_.toNat) (by omega) (by omega) (by omega)
        rw [show ((ip_.toNat : Nat) : Int) = ip_ by omega] at p1_ p2_
        have n1p := pat_m (s_ := a_) (i_ := i_) (R_ := sA_) (I_ := ip_.toNat) (by omega) (by omega) (by omega)
        have n2p := pat_m (s_ := b_) (i_ := i_) (R_ := sB_) (I_ := ip_.toNat) (by omega) (by omega) (by omega)
        rw [show ((ip_.toNat : Nat) : Int) = ip_ by omega] at n1p n2p
        have iz9_ : i_.toNat < 2 ^ ip_.toNat := (by have z9_ := pw_nn (k_ := ip_.toNat); omega)
        have p3_ := pw_le (n := sA_ + ip_.toNat) (m := 12) (by omega)
        have p4_ := pw_le (n := sB_ + ip_.toNat) (m := 12) (by omega)
        have t1_ := htA_ (i_or i_ (i_shl a_ ip_)).toNat (pn_lt (by omega) (by rw [Nat.add_comm]; omega))
        have t2_ := htB_ (i_or i_ (i_shl b_ ip_)).toNat (pn_lt (by omega) (by rw [Nat.add_comm]; omega))
        rw [← f191_] at t1_
        rw [← f193_] at t2_
        have q9_ := hq_ k_.toNat (by omega)
        refine sm_T_go 5 (c1 := (118, [some (.inr (.inr (some (13, 0)))), some (.inl ip_), some (.inl bA_), some (.inl bB_), some (.inl mn), some (.inl k_), some (.inl a_), some (.inl b_), some (.inl i_), none], [.inl ip_, .inl a_, .inl i_, .inr (.inr (some (190, 0)))], S_)) rfl ?_
        refine sm_T_bin (w := (i_shl a_ ip_)) rfl rfl ?_ -- pc_ 118
        refine sm_T_bin (w := (i_or i_ (i_shl a_ ip_))) rfl rfl ?_ -- pc_ 119
        refine sm_T_iald (n := 4096) rfl rfl (by omega) (by omega) ?_
        have bx2_ : 0 ≤ S_.2.2.1 190 0 (i_or i_ (i_shl a_ ip_)).toNat ∧ S_.2.2.1 190 0 (i_or i_ (i_shl a_ ip_)).toNat ≤ 65535 := hI_.2 190 0 _
        refine sm_T_go 5 (c1 := (130, [some (.inr (.inr (some (13, 0)))), some (.inl ip_), some (.inl bA_), some (.inl bB_), some (.inl mn), some (.inl k_), some (.inl a_), some (.inl b_), some (.inl i_), none], [.inl ip_, .inl b_, .inl i_, .inr (.inr (some (192, 0))), .inl (S_.2.2.1 190 0 (i_or i_ (i_shl a_ ip_)).toNat)], S_)) rfl ?_
        refine sm_T_bin (w := (i_shl b_ ip_)) rfl rfl ?_ -- pc_ 130
        refine sm_T_bin (w := (i_or i_ (i_shl b_ ip_))) rfl rfl ?_ -- pc_ 131
        refine sm_T_iald (n := 4096) rfl rfl (by omega) (by omega) ?_
        have bx3_ : 0 ≤ S_.2.2.1 192 0 (i_or i_ (i_shl b_ ip_)).toNat ∧ S_.2.2.1 192 0 (i_or i_ (i_shl b_ ip_)).toNat ≤ 65535 := hI_.2 192 0 _
        refine sm_T_br (a := 0) (z := 12) rfl (fun cx4_ => ?_) (fun cx4_ => ?_)
        · have cx4_ : (S_.2.2.1 190 0 (i_or i_ (i_shl a_ ip_)).toNat) = (S_.2.2.1 192 0 (i_or i_ (i_shl b_ ip_)).toNat) := of_decide_eq_true cx4_
          have nn9_ : ¬ neD (S0_.2.2.1 190 0) (S0_.2.2.1 192 0) (a_.toNat * 2 ^ ip_.toNat + i_.toNat) (b_.toNat * 2 ^ ip_.toNat + i_.toNat) := fun z9_ => z9_ (by (rw [← n1p, ← n2p, ← f190_, ← f192_]; exact cx4_))
          refine sm_T_go 5 (c1 := (154, [some (.inr (.inr (some (13, 0)))), some (.inl ip_), some (.inl bA_), some (.inl bB_), some (.inl mn), some (.inl k_), some (.inl a_), some (.inl b_), some (.inl i_), none], [.inl ip_, .inl a_, .inl i_, .inr (.inr (some (191, 0)))], S_)) rfl ?_
          refine sm_T_bin (w := (i_shl a_ ip_)) rfl rfl ?_ -- pc_ 154
          refine sm_T_bin (w := (i_or i_ (i_shl a_ ip_))) rfl rfl ?_ -- pc_ 155
          refine sm_T_iald (n := 4096) rfl rfl (by omega) (by omega) ?_
          have bx5_ : 0 ≤ S_.2.2.1 191 0 (i_or i_ (i_shl a_ ip_)).toNat ∧ S_.2.2.1 191 0 (i_or i_ (i_shl a_ ip_)).toNat ≤ 63 := hI_.2 191 0 _
          refine sm_T_go 5 (c1 := (166, [some (.inr (.inr (some (13, 0)))), some (.inl ip_), some (.inl bA_), some (.inl bB_), some (.inl mn), some (.inl k_), some (.inl a_), some (.inl b_), some (.inl i_), none], [.inl ip_, .inl b_, .inl i_, .inr (.inr (some (193, 0))), .inl (S_.2.2.1 191 0 (i_or i_ (i_shl a_ ip_)).toNat)], S_)) rfl ?_
          refine sm_T_bin (w := (i_shl b_ ip_)) rfl rfl ?_ -- pc_ 166
          refine sm_T_bin (w := (i_or i_ (i_shl b_ ip_))) rfl rfl ?_ -- pc_ 167
          refine sm_T_iald (n := 4096) rfl rfl (by omega) (by omega) ?_
          have bx6_ : 0 ≤ S_.2.2.1 193 0 (i_or i_ (i_shl b_ ip_)).toNat ∧ S_.2.2.1 193 0 (i_or i_ (i_shl b_ ip_)).toNat ≤ 63 := hI_.2 193 0 _
          refine sm_T_go 1 (c1 := (171, [some (.inr (.inr (some (13, 0)))), some (.inl ip_), some (.inl bA_), some (.inl bB_), some (.inl mn), some (.inl k_), some (.inl a_), some (.inl b_), some (.inl i_), none], [.inl 6, .inl (S_.2.2.1 193 0 (i_or i_ (i_shl b_ ip_)).toNat), .inl (S_.2.2.1 191 0 (i_or i_ (i_shl a_ ip_)).toNat)], S_)) rfl ?_
          refine sm_T_bin (w := 64 * (S_.2.2.1 193 0 (i_or i_ (i_shl b_ ip_)).toNat)) rfl (bi_shl (k := 6) (by decide) (by omega) (by omega) (by omega)) ?_ -- pc_ 171
          refine sm_T_bin (w := (i_or (S_.2.2.1 191 0 (i_or i_ (i_shl a_ ip_)).toNat) (64 * (S_.2.2.1 193 0 (i_or i_ (i_shl b_ ip_)).toNat)))) rfl rfl ?_ -- pc_ 172
          have bx7_ := or64c (a_ := S_.2.2.1 193 0 (i_or i_ (i_shl b_ ip_)).toNat) (b_ := S_.2.2.1 191 0 (i_or i_ (i_shl a_ ip_)).toNat) (by omega) (by omega)
          refine sm_T_go 4 (c1 := (181, [some (.inr (.inr (some (13, 0)))), some (.inl ip_), some (.inl bA_), some (.inl bB_), some (.inl mn), some (.inl k_), some (.inl a_), some (.inl b_), some (.inl i_), some (.inl (i_or (S_.2.2.1 191 0 (i_or i_ (i_shl a_ ip_)).toNat) (64 * (S_.2.2.1 193 0 (i_or i_ (i_shl b_ ip_)).toNat))))], [.inl (i_or (S_.2.2.1 191 0 (i_or i_ (i_shl a_ ip_)).toNat) (64 * (S_.2.2.1 193 0 (i_or i_ (i_shl b_ ip_)).toNat))), .inr (.inr (some (198, 0)))], S_)) rfl ?_
          refine sm_T_zald (n := 4096) rfl rfl (by omega) (by omega) ?_
          have bx8_ : 0 ≤ S_.2.2.1 198 0 (i_or (S_.2.2.1 191 0 (i_or i_ (i_shl a_ ip_)).toNat) (64 * (S_.2.2.1 193 0 (i_or i_ (i_shl b_ ip_)).toNat))).toNat ∧ S_.2.2.1 198 0 (i_or (S_.2.2.1 191 0 (i_or i_ (i_shl a_ ip_)).toNat) (64 * (S_.2.2.1 193 0 (i_or i_ (i_shl b_ ip_)).toNat))).toNat ≤ 1 := hI_.2 198 0 _
          refine sm_T_b0 (a := 1) (z := 57) rfl (fun cx9_ => ?_) (fun cx9_ => ?_)
          · have cx9_ : (S_.2.2.1 198 0 (i_or (S_.2.2.1 191 0 (i_or i_ (i_shl a_ ip_)).toNat) (64 * (S_.2.2.1 193 0 (i_or i_ (i_shl b_ ip_)).toNat))).toNat) ≠ 0 := of_decide_eq_true cx9_
            refine sm_T_inc (a := 8) (z := 1) (v := i_) (w := i_ + 1) rfl rfl (by omega) (by omega) (by omega) ?_ -- pc_ 239
            refine sm_T_go 1 (c1 := (101, [some (.inr (.inr (some (13, 0)))), some (.inl ip_), some (.inl bA_), some (.inl bB_), some (.inl mn), some (.inl k_), some (.inl a_), some (.inl b_), some (.inl (i_ + 1)), some (.inl (i_or (S_.2.2.1 191 0 (i_or i_ (i_shl a_ ip_)).toNat) (64 * (S_.2.2.1 193 0 (i_or i_ (i_shl b_ ip_)).toNat))))], [], S_)) rfl ?_
            refine sm_T_wk [some (.inr (.inr (some (13, 0)))), some (.inl ip_), some (.inl bA_), some (.inl bB_), some (.inl mn), some (.inl k_), some (.inl a_), some (.inl b_), some (.inl (i_ + 1)), none] (by exact ⟨rfl, rfl, rfl, rfl, rfl, rfl, rfl, rfl, rfl, trivial⟩) ?_
            refine ih_.2.2 mn k_ a_ b_ (i_ + 1) S_ hI_ hF_ ⟨?_, ?_, ?_, ?_, ?_, ?_, trivial⟩ ?_
            · exact hq_
            · exact hc_
            · have ax9_ : S_.2.2.1 191 0 (i_or i_ (i_shl a_ ip_)).toNat = S0_.2.2.1 191 0 (a_.toNat * 2 ^ ip_.toNat + i_.toNat) := by (rw [← n1p, ← f191_])
              have ay9_ : S_.2.2.1 193 0 (i_or i_ (i_shl b_ ip_)).toNat = S0_.2.2.1 193 0 (b_.toNat * 2 ^ ip_.toNat + i_.toNat) := by (rw [← n2p, ← f193_])
              rw [show (i_ + 1).toNat = i_.toNat + 1 by omega]
              refine rcq_o hcq_ (by omega) (by omega) (by omega) hab_ iz9_ nn9_ ax9_ ay9_ (by omega) (by omega) ?_
              have o9_ := or64c (a_ := S_.2.2.1 193 0 (i_or i_ (i_shl b_ ip_)).toNat) (b_ := S_.2.2.1 191 0 (i_or i_ (i_shl a_ ip_)).toNat) (by omega) (by omega)
              rw [← o9_]
              omega
            · exact hab_
            · omega
            · omega
            · omega
          · have cx9_ : ¬ ((S_.2.2.1 198 0 (i_or (S_.2.2.1 191 0 (i_or i_ (i_shl a_ ip_)).toNat) (64 * (S_.2.2.1 193 0 (i_or i_ (i_shl b_ ip_)).toNat))).toNat) ≠ 0) := of_decide_eq_false cx9_
            have lt9_ := cn1_lt (f := S_.2.2.1 198 0) (j := (i_or (S_.2.2.1 191 0 (i_or i_ (i_shl a_ ip_)).toNat) (64 * (S_.2.2.1 193 0 (i_or i_ (i_shl b_ ip_)).toNat))).toNat) (by omega) (n := 4096) (by omega)
            refine sm_T_go 4 (c1 := (192, [some (.inr (.inr (some (13, 0)))), some (.inl ip_), some (.inl bA_), some (.inl bB_), some (.inl mn), some (.inl k_), some (.inl a_), some (.inl b_), some (.inl i_), some (.inl (i_or (S_.2.2.1 191 0 (i_or i_ (i_shl a_ ip_)).toNat) (64 * (S_.2.2.1 193 0 (i_or i_ (i_shl b_ ip_)).toNat))))], [.inl 1, .inl (i_or (S_.2.2.1 191 0 (i_or i_ (i_shl a_ ip_)).toNat) (64 * (S_.2.2.1 193 0 (i_or i_ (i_shl b_ ip_)).toNat))), .inr (.inr (some (198, 0)))], S_)) rfl ?_
            refine sm_T_zas1 (n := 4096) rfl rfl (by omega) (by omega) (by omega) ?_
            have hIx10_ : gi (sm_aI S_ 198 0 (i_or (S_.2.2.1 191 0 (i_or i_ (i_shl a_ ip_)).toNat) (64 * (S_.2.2.1 193 0 (i_or i_ (i_shl b_ ip_)).toNat))).toNat 1) := gi_aI hI_ (show 0 ≤ 1 ∧ 1 ≤ 1 from ⟨by omega, by omega⟩)
            have hFx11_ : ai_fr (sx_W vw_386w) S0_ (sm_aI S_ 198 0 (i_or (S_.2.2.1 191 0 (i_or i_ (i_shl a_ ip_)).toNat) (64 * (S_.2.2.1 193 0 (i_or i_ (i_shl b_ ip_)).toNat))).toNat 1) := ai_fr_tr hF_ (ai_fr_aI rfl)
            refine sm_T_go 4 (c1 := (201, [some (.inr (.inr (some (13, 0)))), some (.inl ip_), some (.inl bA_), some (.inl bB_), some (.inl mn), some (.inl k_), some (.inl a_), some (.inl b_), some (.inl i_), some (.inl (i_or (S_.2.2.1 191 0 (i_or i_ (i_shl a_ ip_)).toNat) (64 * (S_.2.2.1 193 0 (i_or i_ (i_shl b_ ip_)).toNat))))], [.inl (i_or (S_.2.2.1 191 0 (i_or i_ (i_shl a_ ip_)).toNat) (64 * (S_.2.2.1 193 0 (i_or i_ (i_shl b_ ip_)).toNat))), .inl mn, .inr (.inr (some (194, 0)))], sm_aI S_ 198 0 (i_or (S_.2.2.1 191 0 (i_or i_ (i_shl a_ ip_)).toNat) (64 * (S_.2.2.1 193 0 (i_or i_ (i_shl b_ ip_)).toNat))).toNat 1)) rfl ?_
            refine sm_T_iast (n := 4096) rfl rfl (by omega) (by omega) ?_
            have hIx12_ : gi (sm_aI (sm_aI S_ 198 0 (i_or (S_.2.2.1 191 0 (i_or i_ (i_shl a_ ip_)).toNat) (64 * (S_.2.2.1 193 0 (i_or i_ (i_shl b_ ip_)).toNat))).toNat 1) 194 0 mn.toNat (i_or (S_.2.2.1 191 0 (i_or i_ (i_shl a_ ip_)).toNat) (64 * (S_.2.2.1 193 0 (i_or i_ (i_shl b_ ip_)).toNat)))) := gi_aI hIx10_ (show 0 ≤ (i_or (S_.2.2.1 191 0 (i_or i_ (i_shl a_ ip_)).toNat) (64 * (S_.2.2.1 193 0 (i_or i_ (i_shl b_ ip_)).toNat))) ∧ (i_or (S_.2.2.1 191 0 (i_or i_ (i_shl a_ ip_)).toNat) (64 * (S_.2.2.1 193 0 (i_or i_ (i_shl b_ ip_)).toNat))) ≤ 4095 from ⟨by omega, by omega⟩)
            have hFx13_ : ai_fr (sx_W vw_386w) S0_ (sm_aI (sm_aI S_ 198 0 (i_or (S_.2.2.1 191 0 (i_or i_ (i_shl a_ ip_)).toNat) (64 * (S_.2.2.1 193 0 (i_or i_ (i_shl b_ ip_)).toNat))).toNat 1) 194 0 mn.toNat (i_or (S_.2.2.1 191 0 (i_or i_ (i_shl a_ ip_)).toNat) (64 * (S_.2.2.1 193 0 (i_or i_ (i_shl b_ ip_)).toNat)))) := ai_fr_tr hFx11_ (ai_fr_aI rfl)
            refine sm_T_go 4 (c1 := (210, [some (.inr (.inr (some (13, 0)))), some (.inl ip_), some (.inl bA_), some (.inl bB_), some (.inl mn), some (.inl k_), some (.inl a_), some (.inl b_), some (.inl i_), some (.inl (i_or (S_.2.2.1 191 0 (i_or i_ (i_shl a_ ip_)).toNat) (64 * (S_.2.2.1 193 0 (i_or i_ (i_shl b_ ip_)).toNat))))], [.inl k_, .inl mn, .inr (.inr (some (195, 0)))], sm_aI (sm_aI S_ 198 0 (i_or (S_.2.2.1 191 0 (i_or i_ (i_shl a_ ip_)).toNat) (64 * (S_.2.2.1 193 0 (i_or i_ (i_shl b_ ip_)).toNat))).toNat 1) 194 0 mn.toNat (i_or (S_.2.2.1 191 0 (i_or i_ (i_shl a_ ip_)).toNat) (64 * (S_.2.2.1 193 0 (i_or i_ (i_shl b_ ip_)).toNat))))) rfl ?_
            refine sm_T_iast (n := 4096) rfl rfl (by omega) (by omega) ?_
            have hIx14_ : gi (sm_aI (sm_aI (sm_aI S_ 198 0 (i_or (S_.2.2.1 191 0 (i_or i_ (i_shl a_ ip_)).toNat) (64 * (S_.2.2.1 193 0 (i_or i_ (i_shl b_ ip_)).toNat))).toNat 1) 194 0 mn.toNat (i_or (S_.2.2.1 191 0 (i_or i_ (i_shl a_ ip_)).toNat) (64 * (S_.2.2.1 193 0 (i_or i_ (i_shl b_ ip_)).toNat)))) 195 0 mn.toNat k_) := gi_aI hIx12_ (show 0 ≤ k_ ∧ k_ ≤ 4095 from ⟨by omega, by omega⟩)
            have hFx15_ : ai_fr (sx_W vw_386w) S0_ (sm_aI (sm_aI (sm_aI S_ 198 0 (i_or (S_.2.2.1 191 0 (i_or i_ (i_shl a_ ip_)).toNat) (64 * (S_.2.2.1 193 0 (i_or i_ (i_shl b_ ip_)).toNat))).toNat 1) 194 0 mn.toNat (i_or (S_.2.2.1 191 0 (i_or i_ (i_shl a_ ip_)).toNat) (64 * (S_.2.2.1 193 0 (i_or i_ (i_shl b_ ip_)).toNat)))) 195 0 mn.toNat k_) := ai_fr_tr hFx13_ (ai_fr_aI rfl)
            refine sm_T_go 4 (c1 := (219, [some (.inr (.inr (some (13, 0)))), some (.inl ip_), some (.inl bA_), some (.inl bB_), some (.inl mn), some (.inl k_), some (.inl a_), some (.inl b_), some (.inl i_), some (.inl (i_or (S_.2.2.1 191 0 (i_or i_ (i_shl a_ ip_)).toNat) (64 * (S_.2.2.1 193 0 (i_or i_ (i_shl b_ ip_)).toNat))))], [.inl i_, .inl mn, .inr (.inr (some (196, 0)))], sm_aI (sm_aI (sm_aI S_ 198 0 (i_or (S_.2.2.1 191 0 (i_or i_ (i_shl a_ ip_)).toNat) (64 * (S_.2.2.1 193 0 (i_or i_ (i_shl b_ ip_)).toNat))).toNat 1) 194 0 mn.toNat (i_or (S_.2.2.1 191 0 (i_or i_ (i_shl a_ ip_)).toNat) (64 * (S_.2.2.1 193 0 (i_or i_ (i_shl b_ ip_)).toNat)))) 195 0 mn.toNat k_)) rfl ?_
            refine sm_T_iast (n := 4096) rfl rfl (by omega) (by omega) ?_
            have hIx16_ : gi (sm_aI (sm_aI (sm_aI (sm_aI S_ 198 0 (i_or (S_.2.2.1 191 0 (i_or i_ (i_shl a_ ip_)).toNat) (64 * (S_.2.2.1 193 0 (i_or i_ (i_shl b_ ip_)).toNat))).toNat 1) 194 0 mn.toNat (i_or (S_.2.2.1 191 0 (i_or i_ (i_shl a_ ip_)).toNat) (64 * (S_.2.2.1 193 0 (i_or i_ (i_shl b_ ip_)).toNat)))) 195 0 mn.toNat k_) 196 0 mn.toNat i_) := gi_aI hIx14_ (show 0 ≤ i_ ∧ i_ ≤ 4095 from ⟨by omega, by omega⟩)
            have hFx17_ : ai_fr (sx_W vw_386w) S0_ (sm_aI (sm_aI (sm_aI (sm_aI S_ 198 0 (i_or (S_.2.2.1 191 0 (i_or i_ (i_shl a_ ip_)).toNat) (64 * (S_.2.2.1 193 0 (i_or i_ (i_shl b_ ip_)).toNat))).toNat 1) 194 0 mn.toNat (i_or (S_.2.2.1 191 0 (i_or i_ (i_shl a_ ip_)).toNat) (64 * (S_.2.2.1 193 0 (i_or i_ (i_shl b_ ip_)).toNat)))) 195 0 mn.toNat k_) 196 0 mn.toNat i_) := ai_fr_tr hFx15_ (ai_fr_aI rfl)
            refine sm_T_go 6 (c1 := (232, [some (.inr (.inr (some (13, 0)))), some (.inl ip_), some (.inl bA_), some (.inl bB_), some (.inl mn), some (.inl k_), some (.inl a_), some (.inl b_), some (.inl i_), some (.inl (i_or (S_.2.2.1 191 0 (i_or i_ (i_shl a_ ip_)).toNat) (64 * (S_.2.2.1 193 0 (i_or i_ (i_shl b_ ip_)).toNat))))], [.inl k_, .inr (.inr (some (197, 0))), .inl mn, .inr (.inr (some (197, 0)))], sm_aI (sm_aI (sm_aI (sm_aI S_ 198 0 (i_or (S_.2.2.1 191 0 (i_or i_ (i_shl a_ ip_)).toNat) (64 * (S_.2.2.1 193 0 (i_or i_ (i_shl b_ ip_)).toNat))).toNat 1) 194 0 mn.toNat (i_or (S_.2.2.1 191 0 (i_or i_ (i_shl a_ ip_)).toNat) (64 * (S_.2.2.1 193 0 (i_or i_ (i_shl b_ ip_)).toNat)))) 195 0 mn.toNat k_) 196 0 mn.toNat i_)) rfl ?_
            refine sm_T_iald (n := 4096) rfl rfl (by omega) (by omega) ?_
            have bx18_ : 0 ≤ S_.2.2.1 197 0 k_.toNat ∧ S_.2.2.1 197 0 k_.toNat ≤ 4095 := hI_.2 197 0 _
            refine sm_T_go 1 (c1 := (234, [some (.inr (.inr (some (13, 0)))), some (.inl ip_), some (.inl bA_), some (.inl bB_), some (.inl mn), some (.inl k_), some (.inl a_), some (.inl b_), some (.inl i_), some (.inl (i_or (S_.2.2.1 191 0 (i_or i_ (i_shl a_ ip_)).toNat) (64 * (S_.2.2.1 193 0 (i_or i_ (i_shl b_ ip_)).toNat))))], [.inl 1, .inl (S_.2.2.1 197 0 k_.toNat), .inl mn, .inr (.inr (some (197, 0)))], sm_aI (sm_aI (sm_aI (sm_aI S_ 198 0 (i_or (S_.2.2.1 191 0 (i_or i_ (i_shl a_ ip_)).toNat) (64 * (S_.2.2.1 193 0 (i_or i_ (i_shl b_ ip_)).toNat))).toNat 1) 194 0 mn.toNat (i_or (S_.2.2.1 191 0 (i_or i_ (i_shl a_ ip_)).toNat) (64 * (S_.2.2.1 193 0 (i_or i_ (i_shl b_ ip_)).toNat)))) 195 0 mn.toNat k_) 196 0 mn.toNat i_)) rfl ?_
            refine sm_T_bin (w := (S_.2.2.1 197 0 k_.toNat) + 1) rfl (bi_add (by omega) (by omega) (by omega)) ?_ -- pc_ 234
            refine sm_T_iast (n := 4096) rfl rfl (by omega) (by omega) ?_
            have hIx19_ : gi (sm_aI (sm_aI (sm_aI (sm_aI (sm_aI S_ 198 0 (i_or (S_.2.2.1 191 0 (i_or i_ (i_shl a_ ip_)).toNat) (64 * (S_.2.2.1 193 0 (i_or i_ (i_shl b_ ip_)).toNat))).toNat 1) 194 0 mn.toNat (i_or (S_.2.2.1 191 0 (i_or i_ (i_shl a_ ip_)).toNat) (64 * (S_.2.2.1 193 0 (i_or i_ (i_shl b_ ip_)).toNat)))) 195 0 mn.toNat k_) 196 0 mn.toNat i_) 197 0 mn.toNat ((S_.2.2.1 197 0 k_.toNat) + 1)) := gi_aI hIx16_ (show 0 ≤ (S_.2.2.1 197 0 k_.toNat) + 1 ∧ (S_.2.2.1 197 0 k_.toNat) + 1 ≤ 4095 from ⟨by omega, by omega⟩)
            have hFx20_ : ai_fr (sx_W vw_386w) S0_ (sm_aI (sm_aI (sm_aI (sm_aI (sm_aI S_ 198 0 (i_or (S_.2.2.1 191 0 (i_or i_ (i_shl a_ ip_)).toNat) (64 * (S_.2.2.1 193 0 (i_or i_ (i_shl b_ ip_)).toNat))).toNat 1) 194 0 mn.toNat (i_or (S_.2.2.1 191 0 (i_or i_ (i_shl a_ ip_)).toNat) (64 * (S_.2.2.1 193 0 (i_or i_ (i_shl b_ ip_)).toNat)))) 195 0 mn.toNat k_) 196 0 mn.toNat i_) 197 0 mn.toNat ((S_.2.2.1 197 0 k_.toNat) + 1)) := ai_fr_tr hFx17_ (ai_fr_aI rfl)
            refine sm_T_inc (a := 4) (z := 1) (v := mn) (w := mn + 1) rfl rfl (by omega) (by omega) (by omega) ?_ -- pc_ 236
            refine sm_T_inc (a := 8) (z := 1) (v := i_) (w := i_ + 1) rfl rfl (by omega) (by omega) (by omega) ?_ -- pc_ 239
            refine sm_T_go 1 (c1 := (101, [some (.inr (.inr (some (13, 0)))), some (.inl ip_), some (.inl bA_), some (.inl bB_), some (.inl (mn + 1)), some (.inl k_), some (.inl a_), some (.inl b_), some (.inl (i_ + 1)), some (.inl (i_or (S_.2.2.1 191 0 (i_or i_ (i_shl a_ ip_)).toNat) (64 * (S_.2.2.1 193 0 (i_or i_ (i_shl b_ ip_)).toNat))))], [], sm_aI (sm_aI (sm_aI (sm_aI (sm_aI S_ 198 0 (i_or (S_.2.2.1 191 0 (i_or i_ (i_shl a_ ip_)).toNat) (64 * (S_.2.2.1 193 0 (i_or i_ (i_shl b_ ip_)).toNat))).toNat 1) 194 0 mn.toNat (i_or (S_.2.2.1 191 0 (i_or i_ (i_shl a_ ip_)).toNat) (64 * (S_.2.2.1 193 0 (i_or i_ (i_shl b_ ip_)).toNat)))) 195 0 mn.toNat k_) 196 0 mn.toNat i_) 197 0 mn.toNat ((S_.2.2.1 197 0 k_.toNat) + 1))) rfl ?_
            refine sm_T_wk [some (.inr (.inr (some (13, 0)))), some (.inl ip_), some (.inl bA_), some (.inl bB_), some (.inl (mn + 1)), some (.inl k_), some (.inl a_), some (.inl b_), some (.inl (i_ + 1)), none] (by exact ⟨rfl, rfl, rfl, rfl, rfl, rfl, rfl, rfl, rfl, trivial⟩) ?_
            refine ih_.2.2 (mn + 1) k_ a_ b_ (i_ + 1) (sm_aI (sm_aI (sm_aI (sm_aI (sm_aI S_ 198 0 (i_or (S_.2.2.1 191 0 (i_or i_ (i_shl a_ ip_)).toNat) (64 * (S_.2.2.1 193 0 (i_or i_ (i_shl b_ ip_)).toNat))).toNat 1) 194 0 mn.toNat (i_or (S_.2.2.1 191 0 (i_or i_ (i_shl a_ ip_)).toNat) (64 * (S_.2.2.1 193 0 (i_or i_ (i_shl b_ ip_)).toNat)))) 195 0 mn.toNat k_) 196 0 mn.toNat i_) 197 0 mn.toNat ((S_.2.2.1 197 0 k_.toNat) + 1)) hIx19_ hFx20_ ⟨?_, ?_, ?_, ?_, ?_, ?_, trivial⟩ ?_
            · obtain ⟨NN_, hNN_⟩ : ∃ NN_, NN_ = i_or (S_.2.2.1 191 0 (i_or i_ (i_shl a_ ip_)).toNat) (64 * (S_.2.2.1 193 0 (i_or i_ (i_shl b_ ip_)).toNat)) := ⟨_, rfl⟩
              have g9_ : 0 ≤ NN_ ∧ NN_ ≤ 4095 ∧ NN_ % 64 < 2 ^ sA_ ∧ NN_ / 64 < 2 ^ sB_ := by (rw [hNN_]; omega)
              have x9_ : S_.2.2.1 198 0 NN_.toNat ≠ 1 := by (rw [hNN_]; omega)
              have r1_ : ∀ j9_, ((sm_aI (sm_aI (sm_aI (sm_aI (sm_aI S_ 198 0 (i_or (S_.2.2.1 191 0 (i_or i_ (i_shl a_ ip_)).toNat) (64 * (S_.2.2.1 193 0 (i_or i_ (i_shl b_ ip_)).toNat))).toNat 1) 194 0 mn.toNat (i_or (S_.2.2.1 191 0 (i_or i_ (i_shl a_ ip_)).toNat) (64 * (S_.2.2.1 193 0 (i_or i_ (i_shl b_ ip_)).toNat)))) 195 0 mn.toNat k_) 196 0 mn.toNat i_) 197 0 mn.toNat ((S_.2.2.1 197 0 k_.toNat) + 1))).2.2.1 194 0 j9_ = if j9_ = mn.toNat then NN_ else S_.2.2.1 194 0 j9_ := fun j9_ => by (rw [rd_ne (by decide), rd_ne (by decide), rd_ne (by decide), rd_eq, rd_ne (by decide), hNN_])
              have r2_ : ∀ j9_, ((sm_aI (sm_aI (sm_aI (sm_aI (sm_aI S_ 198 0 (i_or (S_.2.2.1 191 0 (i_or i_ (i_shl a_ ip_)).toNat) (64 * (S_.2.2.1 193 0 (i_or i_ (i_shl b_ ip_)).toNat))).toNat 1) 194 0 mn.toNat (i_or (S_.2.2.1 191 0 (i_or i_ (i_shl a_ ip_)).toNat) (64 * (S_.2.2.1 193 0 (i_or i_ (i_shl b_ ip_)).toNat)))) 195 0 mn.toNat k_) 196 0 mn.toNat i_) 197 0 mn.toNat ((S_.2.2.1 197 0 k_.toNat) + 1))).2.2.1 198 0 j9_ = if j9_ = NN_.toNat then 1 else S_.2.2.1 198 0 j9_ := fun j9_ => by (rw [rd_ne (by decide), rd_ne (by decide), rd_ne (by decide), rd_ne (by decide), rd_eq, hNN_])
              have r3_ : ∀ j9_, ((sm_aI (sm_aI (sm_aI (sm_aI (sm_aI S_ 198 0 (i_or (S_.2.2.1 191 0 (i_or i_ (i_shl a_ ip_)).toNat) (64 * (S_.2.2.1 193 0 (i_or i_ (i_shl b_ ip_)).toNat))).toNat 1) 194 0 mn.toNat (i_or (S_.2.2.1 191 0 (i_or i_ (i_shl a_ ip_)).toNat) (64 * (S_.2.2.1 193 0 (i_or i_ (i_shl b_ ip_)).toNat)))) 195 0 mn.toNat k_) 196 0 mn.toNat i_) 197 0 mn.toNat ((S_.2.2.1 197 0 k_.toNat) + 1))).2.2.1 197 0 j9_ = if j9_ = mn.toNat then S_.2.2.1 197 0 k_.toNat + 1 else S_.2.2.1 197 0 j9_ := fun j9_ => by (rw [rd_eq, rd_ne (by decide), rd_ne (by decide), rd_ne (by decide), rd_ne (by decide)])
              intro j9_ hj9_
              by_cases z9_ : j9_ = mn.toNat
              · rw [r1_, r3_, if_pos z9_, if_pos z9_]; exact ⟨by omega, by omega, by omega⟩
              · rw [r1_, r3_, if_neg z9_, if_neg z9_]; exact hq_ j9_ (by omega)
            · obtain ⟨NN_, hNN_⟩ : ∃ NN_, NN_ = i_or (S_.2.2.1 191 0 (i_or i_ (i_shl a_ ip_)).toNat) (64 * (S_.2.2.1 193 0 (i_or i_ (i_shl b_ ip_)).toNat)) := ⟨_, rfl⟩
              have g9_ : 0 ≤ NN_ ∧ NN_ ≤ 4095 ∧ NN_ % 64 < 2 ^ sA_ ∧ NN_ / 64 < 2 ^ sB_ := by (rw [hNN_]; omega)
              have x9_ : S_.2.2.1 198 0 NN_.toNat ≠ 1 := by (rw [hNN_]; omega)
              have r1_ : ∀ j9_, ((sm_aI (sm_aI (sm_aI (sm_aI (sm_aI S_ 198 0 (i_or (S_.2.2.1 191 0 (i_or i_ (i_shl a_ ip_)).toNat) (64 * (S_.2.2.1 193 0 (i_or i_ (i_shl b_ ip_)).toNat))).toNat 1) 194 0 mn.toNat (i_or (S_.2.2.1 191 0 (i_or i_ (i_shl a_ ip_)).toNat) (64 * (S_.2.2.1 193 0 (i_or i_ (i_shl b_ ip_)).toNat)))) 195 0 mn.toNat k_) 196 0 mn.toNat i_) 197 0 mn.toNat ((S_.2.2.1 197 0 k_.toNat) + 1))).2.2.1 194 0 j9_ = if j9_ = mn.toNat then NN_ else S_.2.2.1 194 0 j9_ := fun j9_ => by (rw [rd_ne (by decide), rd_ne (by decide), rd_ne (by decide), rd_eq, rd_ne (by decide), hNN_])
              have r2_ : ∀ j9_, ((sm_aI (sm_aI (sm_aI (sm_aI (sm_aI S_ 198 0 (i_or (S_.2.2.1 191 0 (i_or i_ (i_shl a_ ip_)).toNat) (64 * (S_.2.2.1 193 0 (i_or i_ (i_shl b_ ip_)).toNat))).toNat 1) 194 0 mn.toNat (i_or (S_.2.2.1 191 0 (i_or i_ (i_shl a_ ip_)).toNat) (64 * (S_.2.2.1 193 0 (i_or i_ (i_shl b_ ip_)).toNat)))) 195 0 mn.toNat k_) 196 0 mn.toNat i_) 197 0 mn.toNat ((S_.2.2.1 197 0 k_.toNat) + 1))).2.2.1 198 0 j9_ = if j9_ = NN_.toNat then 1 else S_.2.2.1 198 0 j9_ := fun j9_ => by (rw [rd_ne (by decide), rd_ne (by decide), rd_ne (by decide), rd_ne (by decide), rd_eq, hNN_])
              have r3_ : ∀ j9_, ((sm_aI (sm_aI (sm_aI (sm_aI (sm_aI S_ 198 0 (i_or (S_.2.2.1 191 0 (i_or i_ (i_shl a_ ip_)).toNat) (64 * (S_.2.2.1 193 0 (i_or i_ (i_shl b_ ip_)).toNat))).toNat 1) 194 0 mn.toNat (i_or (S_.2.2.1 191 0 (i_or i_ (i_shl a_ ip_)).toNat) (64 * (S_.2.2.1 193 0 (i_or i_ (i_shl b_ ip_)).toNat)))) 195 0 mn.toNat k_) 196 0 mn.toNat i_) 197 0 mn.toNat ((S_.2.2.1 197 0 k_.toNat) + 1))).2.2.1 197 0 j9_ = if j9_ = mn.toNat then S_.2.2.1 197 0 k_.toNat + 1 else S_.2.2.1 197 0 j9_ := fun j9_ => by (rw [rd_eq, rd_ne (by decide), rd_ne (by decide), rd_ne (by decide), rd_ne (by decide)])
              have u9_ := cn1_up (f := S_.2.2.1 198 0) (g := ((sm_aI (sm_aI (sm_aI (sm_aI (sm_aI S_ 198 0 (i_or (S_.2.2.1 191 0 (i_or i_ (i_shl a_ ip_)).toNat) (64 * (S_.2.2.1 193 0 (i_or i_ (i_shl b_ ip_)).toNat))).toNat 1) 194 0 mn.toNat (i_or (S_.2.2.1 191 0 (i_or i_ (i_shl a_ ip_)).toNat) (64 * (S_.2.2.1 193 0 (i_or i_ (i_shl b_ ip_)).toNat)))) 195 0 mn.toNat k_) 196 0 mn.toNat i_) 197 0 mn.toNat ((S_.2.2.1 197 0 k_.toNat) + 1))).2.2.1 198 0) (j := NN_.toNat) x9_ (by rw [r2_, if_pos rfl]) (fun k9_ hk9_ => by rw [r2_, if_neg hk9_]) (n := 4096) (by omega)
              rw [u9_]
              push_cast
              omega
            · obtain ⟨NN_, hNN_⟩ : ∃ NN_, NN_ = i_or (S_.2.2.1 191 0 (i_or i_ (i_shl a_ ip_)).toNat) (64 * (S_.2.2.1 193 0 (i_or i_ (i_shl b_ ip_)).toNat)) := ⟨_, rfl⟩
              have g9_ : 0 ≤ NN_ ∧ NN_ ≤ 4095 ∧ NN_ % 64 < 2 ^ sA_ ∧ NN_ / 64 < 2 ^ sB_ := by (rw [hNN_]; omega)
              have x9_ : S_.2.2.1 198 0 NN_.toNat ≠ 1 := by (rw [hNN_]; omega)
              have r1_ : ∀ j9_, ((sm_aI (sm_aI (sm_aI (sm_aI (sm_aI S_ 198 0 (i_or (S_.2.2.1 191 0 (i_or i_ (i_shl a_ ip_)).toNat) (64 * (S_.2.2.1 193 0 (i_or i_ (i_shl b_ ip_)).toNat))).toNat 1) 194 0 mn.toNat (i_or (S_.2.2.1 191 0 (i_or i_ (i_shl a_ ip_)).toNat) (64 * (S_.2.2.1 193 0 (i_or i_ (i_shl b_ ip_)).toNat)))) 195 0 mn.toNat k_) 196 0 mn.toNat i_) 197 0 mn.toNat ((S_.2.2.1 197 0 k_.toNat) + 1))).2.2.1 194 0 j9_ = if j9_ = mn.toNat then NN_ else S_.2.2.1 194 0 j9_ := fun j9_ => by (rw [rd_ne (by decide), rd_ne (by decide), rd_ne (by decide), rd_eq, rd_ne (by decide), hNN_])
              have r2_ : ∀ j9_, ((sm_aI (sm_aI (sm_aI (sm_aI (sm_aI S_ 198 0 (i_or (S_.2.2.1 191 0 (i_or i_ (i_shl a_ ip_)).toNat) (64 * (S_.2.2.1 193 0 (i_or i_ (i_shl b_ ip_)).toNat))).toNat 1) 194 0 mn.toNat (i_or (S_.2.2.1 191 0 (i_or i_ (i_shl a_ ip_)).toNat) (64 * (S_.2.2.1 193 0 (i_or i_ (i_shl b_ ip_)).toNat)))) 195 0 mn.toNat k_) 196 0 mn.toNat i_) 197 0 mn.toNat ((S_.2.2.1 197 0 k_.toNat) + 1))).2.2.1 198 0 j9_ = if j9_ = NN_.toNat then 1 else S_.2.2.1 198 0 j9_ := fun j9_ => by (rw [rd_ne (by decide), rd_ne (by decide), rd_ne (by decide), rd_ne (by decide), rd_eq, hNN_])
              have r3_ : ∀ j9_, ((sm_aI (sm_aI (sm_aI (sm_aI (sm_aI S_ 198 0 (i_or (S_.2.2.1 191 0 (i_or i_ (i_shl a_ ip_)).toNat) (64 * (S_.2.2.1 193 0 (i_or i_ (i_shl b_ ip_)).toNat))).toNat 1) 194 0 mn.toNat (i_or (S_.2.2.1 191 0 (i_or i_ (i_shl a_ ip_)).toNat) (64 * (S_.2.2.1 193 0 (i_or i_ (i_shl b_ ip_)).toNat)))) 195 0 mn.toNat k_) 196 0 mn.toNat i_) 197 0 mn.toNat ((S_.2.2.1 197 0 k_.toNat) + 1))).2.2.1 197 0 j9_ = if j9_ = mn.toNat then S_.2.2.1 197 0 k_.toNat + 1 else S_.2.2.1 197 0 j9_ := fun j9_ => by (rw [rd_eq, rd_ne (by decide), rd_ne (by decide), rd_ne (by decide), rd_ne (by decide)])
              have ax9_ : S_.2.2.1 191 0 (i_or i_ (i_shl a_ ip_)).toNat = S0_.2.2.1 191 0 (a_.toNat * 2 ^ ip_.toNat + i_.toNat) := by (rw [← n1p, ← f191_])
              have ay9_ : S_.2.2.1 193 0 (i_or i_ (i_shl b_ ip_)).toNat = S0_.2.2.1 193 0 (b_.toNat * 2 ^ ip_.toNat + i_.toNat) := by (rw [← n2p, ← f193_])
              rw [show (i_ + 1).toNat = i_.toNat + 1 by omega]
              have o9_ := or64c (a_ := S_.2.2.1 193 0 (i_or i_ (i_shl b_ ip_)).toNat) (b_ := S_.2.2.1 191 0 (i_or i_ (i_shl a_ ip_)).toNat) (by omega) (by omega)
              rw [o9_] at hNN_
              refine rcq_a hcq_ (by omega) (by omega) (by omega) hab_ iz9_ nn9_ ax9_ ay9_ t1_ t2_ ?_ (fun j9_ => ?_) (fun j9_ => ?_) (fun j9_ => ?_)
              · rw [← hNN_]; exact x9_
              · rw [← hNN_]; exact r1_ j9_
              · exact r3_ j9_
              · rw [← hNN_]; exact r2_ j9_
            · obtain ⟨NN_, hNN_⟩ : ∃ NN_, NN_ = i_or (S_.2.2.1 191 0 (i_or i_ (i_shl a_ ip_)).toNat) (64 * (S_.2.2.1 193 0 (i_or i_ (i_shl b_ ip_)).toNat)) := ⟨_, rfl⟩
              have g9_ : 0 ≤ NN_ ∧ NN_ ≤ 4095 ∧ NN_ % 64 < 2 ^ sA_ ∧ NN_ / 64 < 2 ^ sB_ := by (rw [hNN_]; omega)
              have x9_ : S_.2.2.1 198 0 NN_.toNat ≠ 1 := by (rw [hNN_]; omega)
              have r1_ : ∀ j9_, ((sm_aI (sm_aI (sm_aI (sm_aI (sm_aI S_ 198 0 (i_or (S_.2.2.1 191 0 (i_or i_ (i_shl a_ ip_)).toNat) (64 * (S_.2.2.1 193 0 (i_or i_ (i_shl b_ ip_)).toNat))).toNat 1) 194 0 mn.toNat (i_or (S_.2.2.1 191 0 (i_or i_ (i_shl a_ ip_)).toNat) (64 * (S_.2.2.1 193 0 (i_or i_ (i_shl b_ ip_)).toNat)))) 195 0 mn.toNat k_) 196 0 mn.toNat i_) 197 0 mn.toNat ((S_.2.2.1 197 0 k_.toNat) + 1))).2.2.1 194 0 j9_ = if j9_ = mn.toNat then NN_ else S_.2.2.1 194 0 j9_ := fun j9_ => by (rw [rd_ne (by decide), rd_ne (by decide), rd_ne (by decide), rd_eq, rd_ne (by decide), hNN_])
              have r2_ : ∀ j9_, ((sm_aI (sm_aI (sm_aI (sm_aI (sm_aI S_ 198 0 (i_or (S_.2.2.1 191 0 (i_or i_ (i_shl a_ ip_)).toNat) (64 * (S_.2.2.1 193 0 (i_or i_ (i_shl b_ ip_)).toNat))).toNat 1) 194 0 mn.toNat (i_or (S_.2.2.1 191 0 (i_or i_ (i_shl a_ ip_)).toNat) (64 * (S_.2.2.1 193 0 (i_or i_ (i_shl b_ ip_)).toNat)))) 195 0 mn.toNat k_) 196 0 mn.toNat i_) 197 0 mn.toNat ((S_.2.2.1 197 0 k_.toNat) + 1))).2.2.1 198 0 j9_ = if j9_ = NN_.toNat then 1 else S_.2.2.1 198 0 j9_ := fun j9_ => by (rw [rd_ne (by decide), rd_ne (by decide), rd_ne (by decide), rd_ne (by decide), rd_eq, hNN_])
              have r3_ : ∀ j9_, ((sm_aI (sm_aI (sm_aI (sm_aI (sm_aI S_ 198 0 (i_or (S_.2.2.1 191 0 (i_or i_ (i_shl a_ ip_)).toNat) (64 * (S_.2.2.1 193 0 (i_or i_ (i_shl b_ ip_)).toNat))).toNat 1) 194 0 mn.toNat (i_or (S_.2.2.1 191 0 (i_or i_ (i_shl a_ ip_)).toNat) (64 * (S_.2.2.1 193 0 (i_or i_ (i_shl b_ ip_)).toNat)))) 195 0 mn.toNat k_) 196 0 mn.toNat i_) 197 0 mn.toNat ((S_.2.2.1 197 0 k_.toNat) + 1))).2.2.1 197 0 j9_ = if j9_ = mn.toNat then S_.2.2.1 197 0 k_.toNat + 1 else S_.2.2.1 197 0 j9_ := fun j9_ => by (rw [rd_eq, rd_ne (by decide), rd_ne (by decide), rd_ne (by decide), rd_ne (by decide)])
              rw [r1_, if_neg (by omega)]
              exact hab_
            · omega
            · omega
            · omega
        · have cx4_ : ¬ ((S_.2.2.1 190 0 (i_or i_ (i_shl a_ ip_)).toNat) = (S_.2.2.1 192 0 (i_or i_ (i_shl b_ ip_)).toNat)) := of_decide_eq_false cx4_
          have nz9_ : neD (S0_.2.2.1 190 0) (S0_.2.2.1 192 0) (a_.toNat * 2 ^ ip_.toNat + i_.toNat) (b_.toNat * 2 ^ ip_.toNat + i_.toNat) := fun z9_ => cx4_ (by (rw [n1p, n2p, f190_, f192_]; exact z9_))
          have sp9_ := rcq_d hcq_ (by omega) (by omega) (by omega) hab_ iz9_ nz9_
          refine sm_T_go 3 (c1 := (141, [some (.inr (.inr (some (13, 0)))), some (.inl ip_), some (.inl bA_), some (.inl bB_), some (.inl mn), some (.inl k_), some (.inl a_), some (.inl b_), some (.inl i_), none], [.inl i_, .inl k_, .inr (.inr (some (13, 0)))], S_)) rfl ?_
          refine sm_T_cal (d1 := 0) (Q1 := vq_385w k_ i_ S_) rfl rfl (by decide) (vc_385w k_ i_ S_ hI_ (by omega) (by omega)) (fun u_ Sx21_ px24_ => ?_)
          obtain ⟨vx26_, rfl, hIx22_, hFx23_, px24_⟩ := px24_
          have hFx25_ : ai_fr (sx_W vw_386w) S0_ Sx21_ := ai_fr_tr hF_ (fr_le hFx23_ rfl)
          have w141_ := px24_
          refine sm_T_ri rfl ⟨_, _, rfl, _, rfl, hIx22_, hFx25_, ?_⟩
          first | exact ⟨w141_.1, by (rw [w141_.2]; exact sp9_)⟩ | exact ⟨by omega, rcq_e hcq_ (by omega)⟩
set_option maxHeartbeats 3000000 in
set_option maxRecDepth 20000 in
theorem vc_386w {sc_ : Nat × (Nat → Int)} (ip_ : Int) (bA_ : Int) (bB_ : Int) (sA_ : Nat) (sB_ : Nat) (S0_ : sm_S) (hI_ : gi S0_) (hi_ : 0 ≤ ip_ ∧ ip_ + sA_ ≤ 12 ∧ ip_ + sB_ ≤ 12 ∧ sA_ ≤ 6 ∧ sB_ ≤ 6) (hbA_ : 0 ≤ bA_ ∧ bA_ < 2 ^ sA_) (hbB_ : 0 ≤ bB_ ∧ bB_ < 2 ^ sB_) (htA_ : ∀ p9_ : Nat, p9_ < 2 ^ (ip_.toNat + sA_) → 0 ≤ S0_.2.2.1 191 0 p9_ ∧ S0_.2.2.1 191 0 p9_ < 2 ^ sA_) (htB_ : ∀ p9_ : Nat, p9_ < 2 ^ (ip_.toNat + sB_) → 0 ≤ S0_.2.2.1 193 0 p9_ ∧ S0_.2.2.1 193 0 p9_ < 2 ^ sB_) : sm_T (mt_P sc_) 1 386 (0, [some (.inr (.inr (some (13, 0)))), some (.inl ip_), some (.inl bA_), some (.inl bB_), none, none, none, none, none, none], [], S0_) (fun ro9_ => ∃ u_ S1_, ro9_ = (.inl u_, S1_, 0) ∧ vq_386w ip_ bA_ bB_ sA_ sB_ S0_ u_ S1_) := by
  have hF_ : ai_fr (sx_W vw_386w) S0_ S0_ := ai_fr_rf
  have w1_ := pw_le (n := sA_) (m := 6) (by omega)
  have w2_ := pw_le (n := sB_) (m := 6) (by omega)
  have w3_ := pw_pos sA_
  have w4_ := pw_pos sB_
  have w5_ := pw_le (n := ip_.toNat) (m := 12) (by omega)
  have w6_ := pw_pos ip_.toNat
  have hIx1_ : gi (sm_pI S0_ 13 0 95 0) := gi_pI hI_ (show 0 ≤ 0 ∧ 0 ≤ 4097 from ⟨by omega, by omega⟩)
  have hFx2_ : ai_fr (sx_W vw_386w) S0_ (sm_pI S0_ 13 0 95 0) := ai_fr_tr hF_ (ai_fr_pI rfl)
  refine sm_T_go 5 (c1 := (8, [some (.inr (.inr (some (13, 0)))), some (.inl ip_), some (.inl bA_), some (.inl bB_), some (.inl 0), none, none, none, none, none], [], sm_pI S0_ 13 0 95 0)) rfl ?_
  refine (vl_386w ip_ bA_ bB_ sA_ sB_ S0_ hi_ hbA_ hbB_ htA_ htB_ _).1 0 (sm_pI S0_ 13 0 95 0) hIx1_ hFx2_ ⟨?_, ?_, trivial⟩ (Nat.lt_succ_self _)
  · omega
  · (intro j9_ hj9_; exfalso; omega)
end
