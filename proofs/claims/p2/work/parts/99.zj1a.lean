/-! calls that throw; written by wip/p55/gen/vg -/

/-! calls that throw one_ of_ several; arithmetic that may_ wrap -/
theorem sm_T_cale {P_ : sm_P} {d_ d1_ mid_ pc_ n0_ a_ b_ v_ : Nat} {z_ : Int} {L_ : sm_L} {st_ : List sm_V} {S_ : sm_S} {Q_ : sm_R → Prop} {Q1_ : Option sm_V → sm_S → Prop} {Q2_ : Nat → sm_S → Prop} (hx_ : P_.1 mid_ pc_ = some (40, n0_, a_, b_, v_, z_))
    (hc_ : (L_.length = (P_.2.1 mid_).2 && (st_.take b_).length = b_ && ((st_.drop b_).map sm_cat).sum ≤ 8 && (v_ = 1 || sm_rcv (P_.2.1 a_).1 (st_.take b_).reverse) && (sm_vsl (st_.take b_).reverse).length ≤ (P_.2.1 a_).2) = true)
    (hd_ : d1_ ≤ d_) (hsub : sm_T P_ d1_ a_ (0, sm_ent (P_.2.1 a_).2 (st_.take b_).reverse, [], S_) (fun r_ => (∃ u_ S1_, r_ = (.inl u_, S1_, 0) ∧ Q1_ u_ S1_) ∨ ∃ ex_ S1_, r_ = (.inr ex_, S1_, 1) ∧ Q2_ ex_ S1_))
    (hh_ : P_.2.2.1 mid_ = []) (kx_ : ∀ ex_ S1_, Q2_ ex_ S1_ → Q_ (.inr ex_, S1_, 1))
    (kn_ : ∀ u_ S1_, Q1_ u_ S1_ → sm_T P_ (d_ + 1) mid_ (pc_ + 3, L_, u_.toList ++ st_.drop b_, S1_) Q_) : sm_T P_ (d_ + 1) mid_ (pc_, L_, st_, S_) Q_ := by
  refine sm_T_call hx_ hc_ (hsub.deep hd_) (fun u_ S1_ k1_ q_ => ?_) (fun ex_ S1_ k1_ q_ => ?_)
  · rcases q_ with ⟨u'_, S1'_, e_, q_⟩ | ⟨ex'_, S1'_, e_, q_⟩
    · cases e_
      exact (kn_ _ _ q_).mono (fun r_ h_ => by rw [sm_add_0]; exact h_)
    · cases e_
  · rcases q_ with ⟨u'_, S1'_, e_, q_⟩ | ⟨ex'_, S1'_, e_, q_⟩
    · cases e_
    · cases e_
      rw [hh_]
      exact ⟨rfl, kx_ _ _ q_⟩
def i_add (x_ y_ : Int) : Int := (Int32.ofInt x_ + Int32.ofInt y_).toInt
def i_sub (x_ y_ : Int) : Int := (Int32.ofInt x_ - Int32.ofInt y_).toInt
def i_mul (x_ y_ : Int) : Int := (Int32.ofInt x_ * Int32.ofInt y_).toInt
theorem i_add_r (x_ y_ : Int) : -2147483648 ≤ i_add x_ y_ ∧ i_add x_ y_ ≤ 2147483647 := ⟨Int32.le_toInt _, by have := Int32.toInt_lt (Int32.ofInt x_ + Int32.ofInt y_); unfold i_add; omega⟩
theorem i_sub_r (x_ y_ : Int) : -2147483648 ≤ i_sub x_ y_ ∧ i_sub x_ y_ ≤ 2147483647 := ⟨Int32.le_toInt _, by have := Int32.toInt_lt (Int32.ofInt x_ - Int32.ofInt y_); unfold i_sub; omega⟩
theorem i_mul_r (x_ y_ : Int) : -2147483648 ≤ i_mul x_ y_ ∧ i_mul x_ y_ ≤ 2147483647 := ⟨Int32.le_toInt _, by have := Int32.toInt_lt (Int32.ofInt x_ * Int32.ofInt y_); unfold i_mul; omega⟩
/-- all_ designs that are_ there are_ right -/
def dAll (S_ : sm_S) : Prop := ∀ i_, i_ < 6 → S_.1 3 i_ 0 = 1 → dOk i_ S_
/-! ChipFlow.needThere -/
def vw_265e : sx_Wl := ([], [], [])
def vq_265e (k_ : Int) (S0_ : sm_S) (u_ : Option sm_V) (S1_ : sm_S) : Prop := u_ = none ∧ gi S1_ ∧ ai_fr (sx_W vw_265e) S0_ S1_ ∧ (k_ ≠ 0 ∧ S0_ = S1_)
def vx_265e (k_ : Int) (S0_ : sm_S) (S1_ : sm_S) : Prop := gi S1_ ∧ ai_fr (sx_W vw_265e) S0_ S1_ ∧ (k_ = 0 ∧ S1_ = S0_)
set_option maxHeartbeats 400000 in
theorem vc_265e {sc_ : Nat × (Nat → Int)} (k_ : Int) (S0_ : sm_S) (hI_ : gi S0_)  : sm_T (mt_P sc_) 0 265 (0, [some (.inl k_)], [], S0_) (fun ro9_ => (∃ u_ S1_, ro9_ = (.inl u_, S1_, 0) ∧ vq_265e k_ S0_ u_ S1_) ∨ ∃ ex_ S1_, ro9_ = (.inr ex_, S1_, 1) ∧ ex_ ∈ ([0] : List Nat) ∧ vx_265e k_ S0_ S1_) := by
  have hF_ : ai_fr (sx_W vw_265e) S0_ S0_ := ai_fr_rf
  refine sm_T_go 1 (c1 := (1, [some (.inl k_)], [.inl k_], S0_)) rfl ?_
  refine sm_T_b0 (a := 1) (z := 11) rfl (fun cx1_ => ?_) (fun cx1_ => ?_)
  · have cx1_ : k_ ≠ 0 := of_decide_eq_true cx1_
    refine sm_T_rv rfl (Or.inl ⟨_, _, rfl, rfl, hI_, hF_, ?_⟩)
    exact ⟨by omega, rfl⟩
  · have cx1_ : ¬ (k_ ≠ 0) := of_decide_eq_false cx1_
    refine sm_T_th rfl rfl (Or.inr ⟨_, _, rfl, by decide, hI_, hF_, ?_⟩)
    exact ⟨by omega, rfl⟩
