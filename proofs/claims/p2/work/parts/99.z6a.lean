/-! the class: libraries; written by wip/p55/gen/vg -/

/-! calls that throw, where a_ handler is_ or where others are_ -/
theorem sm_T_calg {P_ : sm_P} {d_ d1_ mid_ pc_ n0_ a_ b_ v_ ex_ : Nat} {z_ : Int} {L_ : sm_L} {st_ : List sm_V} {S_ : sm_S} {Q_ : sm_R → Prop} {Q1_ : Option sm_V → sm_S → Prop} {Q2_ : sm_S → Prop} (hx_ : P_.1 mid_ pc_ = some (40, n0_, a_, b_, v_, z_))
    (hc_ : (L_.length = (P_.2.1 mid_).2 && (st_.take b_).length = b_ && ((st_.drop b_).map sm_cat).sum ≤ 8 && (v_ = 1 || sm_rcv (P_.2.1 a_).1 (st_.take b_).reverse) && (sm_vsl (st_.take b_).reverse).length ≤ (P_.2.1 a_).2) = true)
    (hd_ : d1_ ≤ d_) (hsub : sm_T P_ d1_ a_ (0, sm_ent (P_.2.1 a_).2 (st_.take b_).reverse, [], S_) (fun r_ => (∃ u_ S1_, r_ = (.inl u_, S1_, 0) ∧ Q1_ u_ S1_) ∨ ∃ S1_, r_ = (.inr ex_, S1_, 1) ∧ Q2_ S1_))
    (hh_ : sm_fh (P_.2.2.1 mid_) pc_ ex_ = none) (hv_ : sm_cov (P_.2.2.1 mid_) pc_ = false) (kx_ : ∀ S1_, Q2_ S1_ → Q_ (.inr ex_, S1_, 1))
    (kn_ : ∀ u_ S1_, Q1_ u_ S1_ → sm_T P_ (d_ + 1) mid_ (pc_ + 3, L_, u_.toList ++ st_.drop b_, S1_) Q_) : sm_T P_ (d_ + 1) mid_ (pc_, L_, st_, S_) Q_ := by
  refine sm_T_call hx_ hc_ (hsub.deep hd_) (fun u_ S1_ k1_ q_ => ?_) (fun ex2_ S1_ k1_ q_ => ?_)
  · rcases q_ with ⟨u'_, S1'_, e_, q_⟩ | ⟨S1'_, e_, q_⟩
    · cases e_
      exact (kn_ _ _ q_).mono (fun r_ h_ => by rw [sm_add_0]; exact h_)
    · cases e_
  · rcases q_ with ⟨u'_, S1'_, e_, q_⟩ | ⟨S1'_, e_, q_⟩
    · cases e_
    · cases e_
      rw [hh_]
      exact ⟨hv_, kx_ _ q_⟩
theorem sm_T_calh {P_ : sm_P} {d_ d1_ mid_ pc_ n0_ a_ b_ v_ ex_ h_ n'_ a'_ b'_ v'_ : Nat} {z_ z'_ : Int} {L_ : sm_L} {st_ : List sm_V} {S_ : sm_S} {Q_ : sm_R → Prop} {Q1_ : Option sm_V → sm_S → Prop} {Q2_ : sm_S → Prop} (hx_ : P_.1 mid_ pc_ = some (40, n0_, a_, b_, v_, z_))
    (hc_ : (L_.length = (P_.2.1 mid_).2 && (st_.take b_).length = b_ && ((st_.drop b_).map sm_cat).sum ≤ 8 && (v_ = 1 || sm_rcv (P_.2.1 a_).1 (st_.take b_).reverse) && (sm_vsl (st_.take b_).reverse).length ≤ (P_.2.1 a_).2) = true)
    (hd_ : d1_ ≤ d_) (hsub : sm_T P_ d1_ a_ (0, sm_ent (P_.2.1 a_).2 (st_.take b_).reverse, [], S_) (fun r_ => (∃ u_ S1_, r_ = (.inl u_, S1_, 0) ∧ Q1_ u_ S1_) ∨ ∃ S1_, r_ = (.inr ex_, S1_, 1) ∧ Q2_ S1_))
    (hh_ : sm_fh (P_.2.2.1 mid_) pc_ ex_ = some h_) (h7_ : P_.1 mid_ h_ = some (7, n'_, a'_, b'_, v'_, z'_)) (ha_ : a'_ < L_.length) (kx_ : ∀ S1_, Q2_ S1_ → sm_T P_ (d_ + 1) mid_ (h_ + n'_, sm_s0 L_ a'_, [], S1_) (fun r_ => Q_ (sm_add 1 r_)))
    (kn_ : ∀ u_ S1_, Q1_ u_ S1_ → sm_T P_ (d_ + 1) mid_ (pc_ + 3, L_, u_.toList ++ st_.drop b_, S1_) Q_) : sm_T P_ (d_ + 1) mid_ (pc_, L_, st_, S_) Q_ := by
  refine sm_T_call hx_ hc_ (hsub.deep hd_) (fun u_ S1_ k1_ q_ => ?_) (fun ex2_ S1_ k1_ q_ => ?_)
  · rcases q_ with ⟨u'_, S1'_, e_, q_⟩ | ⟨S1'_, e_, q_⟩
    · cases e_
      exact (kn_ _ _ q_).mono (fun r_ h_ => by rw [sm_add_0]; exact h_)
    · cases e_
  · rcases q_ with ⟨u'_, S1'_, e_, q_⟩ | ⟨S1'_, e_, q_⟩
    · cases e_
    · cases e_
      rw [hh_]
      exact ⟨_, _, _, _, _, h7_, ha_, kx_ _ q_⟩
/-! ChipFlow.freeLibrary -/
def vw_274 : sx_Wl := ([], [], [])
def vq_274  (S0_ : sm_S) (u_ : Option sm_V) (S1_ : sm_S) : Prop := S0_ = S1_ ∧ ∃ v_ : Int, u_ = some (.inl v_) ∧ ((v_ = -1 ∧ ∀ j_ : Nat, j_ < 3 → S1_.1 5 j_ 0 = 1) ∨ (∃ u_ : Nat, v_ = (u_ : Int) ∧ u_ < 3 ∧ S1_.1 5 u_ 0 = 0 ∧ ∀ j_ : Nat, j_ < u_ → S1_.1 5 j_ 0 = 1))
set_option maxHeartbeats 400000 in
theorem vl_274 {sc_ : Nat × (Nat → Int)}  (S0_ : sm_S)  : ∀ nn_ : Nat, (∀ (i_ : Int) (S_ : sm_S), gi S_ → ai_fr (sx_W vw_274) S0_ S_ → ((0 ≤ i_ ∧ i_ ≤ 3) ∧ (∀ j_ : Nat, j_ < i_.toNat → S_.1 5 j_ 0 = 1) ∧ (S_ = S0_) ∧ True) → ((20 - i_).toNat) < nn_ → sm_T (mt_P sc_) 0 274 (2, [some (.inr (.inr (some (12, 0)))), some (.inl i_)], [], S_) (fun r_ => ∃ u_ S1_, r_ = (.inl u_, S1_, 0) ∧ vq_274  S0_ u_ S1_)) := by
  intro nn_
  induction nn_ with
  | zero => exact fun _ _ _ _ _ h_ => absurd h_ (Nat.not_lt_zero _)
  | succ nn_ ih_ =>
    rintro i_ S_ hI_ hF_ ⟨h0_, h1_, hS_, -⟩ hm_
    refine sm_T_go 2 (c1 := (4, [some (.inr (.inr (some (12, 0)))), some (.inl i_)], [.inl 3, .inl i_], S_)) rfl ?_
    refine sm_T_br (a := 3) (z := 23) rfl (fun cx1_ => ?_) (fun cx1_ => ?_)
    · have cx1_ : 3 ≤ i_ := of_decide_eq_true cx1_
      refine sm_T_go 1 (c1 := (28, [some (.inr (.inr (some (12, 0)))), some (.inl i_)], [.inl (-1)], S_)) rfl ?_
      refine sm_T_ri rfl ⟨_, _, rfl, (by first | rfl | exact hS_.symm), _, rfl, ?_⟩
      left
      exact ⟨rfl, fun j_ hj_ => h1_ j_ (by omega)⟩
    · have cx1_ : ¬ (3 ≤ i_) := of_decide_eq_false cx1_
      refine sm_T_go 3 (c1 := (12, [some (.inr (.inr (some (12, 0)))), some (.inl i_)], [.inl i_, .inr (.inr (some (111, 0)))], S_)) rfl ?_
      refine sm_T_aald (t0 := 5) (n := 3) rfl rfl (by omega) (by omega) ?_
      have bx2_ : 0 ≤ S_.1 5 i_.toNat 0 ∧ S_.1 5 i_.toNat 0 ≤ 1 := hI_.1 5 i_.toNat 0 rfl
      refine sm_T_go 1 (c1 := (16, [some (.inr (.inr (some (12, 0)))), some (.inl i_)], [.inl (S_.1 5 i_.toNat 0)], S_)) rfl ?_
      refine sm_T_b0 (a := 1) (z := 5) rfl (fun cx3_ => ?_) (fun cx3_ => ?_)
      · have cx3_ : (S_.1 5 i_.toNat 0) ≠ 0 := of_decide_eq_true cx3_
        refine sm_T_inc (a := 1) (z := 1) (v := i_) (w := i_ + 1) rfl rfl (by omega) (by omega) (by omega) ?_
        refine sm_T_go 1 (c1 := (2, [some (.inr (.inr (some (12, 0)))), some (.inl (i_ + 1))], [], S_)) rfl ?_
        refine ih_ (i_ + 1) S_ hI_ hF_ ⟨?_, ?_, ?_, trivial⟩ ?_
        · omega
        · intro j_ hj_
          by_cases z_ : j_ = i_.toNat
          · rw [z_]; omega
          · exact h1_ j_ (by omega)
        · first | rfl | exact hS_
        · omega
      · have cx3_ : ¬ ((S_.1 5 i_.toNat 0) ≠ 0) := of_decide_eq_false cx3_
        refine sm_T_go 1 (c1 := (20, [some (.inr (.inr (some (12, 0)))), some (.inl i_)], [.inl i_], S_)) rfl ?_
        refine sm_T_ri rfl ⟨_, _, rfl, (by first | rfl | exact hS_.symm), _, rfl, ?_⟩
        right
        exact ⟨i_.toNat, by omega, by omega, by omega, h1_⟩
set_option maxHeartbeats 400000 in
theorem vc_274 {sc_ : Nat × (Nat → Int)}  (S0_ : sm_S) (hI_ : gi S0_)  : sm_T (mt_P sc_) 0 274 (0, [some (.inr (.inr (some (12, 0)))), none], [], S0_) (fun r_ => ∃ u_ S1_, r_ = (.inl u_, S1_, 0) ∧ vq_274  S0_ u_ S1_) := by
  have hF_ : ai_fr (sx_W vw_274) S0_ S0_ := ai_fr_rf
  refine sm_T_go 2 (c1 := (2, [some (.inr (.inr (some (12, 0)))), some (.inl 0)], [], S0_)) rfl ?_
  refine (vl_274 S0_ _) 0 S0_ hI_ hF_ ⟨?_, ?_, ?_, trivial⟩ (Nat.lt_succ_self _)
  · omega
  · (intro j_ hj_; exact absurd hj_ (Nat.not_lt_zero _))
  · first | rfl | exact hS_
