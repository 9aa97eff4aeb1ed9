/-! bits; other chips; written by wip/p55/gen/vg -/

/-! bits of_ numbers, roughly -/
theorem i_and_n (x_ y_ : Int) : -2147483648 ≤ i_and x_ y_ ∧ i_and x_ y_ ≤ 2147483647 := sm_ni_toInt _
theorem i_xor_n (x_ y_ : Int) : -2147483648 ≤ i_xor x_ y_ ∧ i_xor x_ y_ ≤ 2147483647 := sm_ni_toInt _
theorem i_shl_n (x_ y_ : Int) : -2147483648 ≤ i_shl x_ y_ ∧ i_shl x_ y_ ≤ 2147483647 := sm_ni_toInt _
theorem i_shr_n (x_ y_ : Int) : -2147483648 ≤ i_shr x_ y_ ∧ i_shr x_ y_ ≤ 2147483647 := sm_ni_toInt _
theorem i_ushr_n (x_ y_ : Int) : -2147483648 ≤ i_ushr x_ y_ ∧ i_ushr x_ y_ ≤ 2147483647 := sm_ni_toInt _
theorem l_l2i_n (x_ : Int) : -2147483648 ≤ l_l2i x_ ∧ l_l2i x_ ≤ 2147483647 := sm_ni_toInt _
theorem i_and_p {x_ y_ : Int} (hx_ : 0 ≤ x_ ∧ x_ ≤ 2147483647) (hy_ : 0 ≤ y_ ∧ y_ ≤ 2147483647) : 0 ≤ i_and x_ y_ ∧ i_and x_ y_ ≤ x_ ∧ i_and x_ y_ ≤ y_ := by
  have e_ : i_and x_ y_ = ((x_.toNat &&& y_.toNat : Nat) : Int) := bt_and_nat hx_.1 (by omega) hy_.1 (by omega)
  have h_ : (x_.toNat &&& y_.toNat) ≤ y_.toNat := Nat.and_le_right
  have g_ : (x_.toNat &&& y_.toNat) ≤ x_.toNat := Nat.and_le_left
  rw [e_]
  omega
theorem sm_T_incw {P_ : sm_P} {d_ mid_ pc_ n0_ a_ b_ e_ : Nat} {z_ v_ : Int} {L_ : sm_L} {st_ : List sm_V} {S_ : sm_S} {Q_ : sm_R → Prop} (hx_ : P_.1 mid_ pc_ = some (8, n0_, a_, b_, e_, z_)) (hL_ : L_.getD a_ none = some (.inl v_)) (k_ : sm_T P_ d_ mid_ (pc_ + n0_, sm_s1 L_ a_ (.inl (i_add v_ z_)), st_, S_) Q_) : sm_T P_ d_ mid_ (pc_, L_, st_, S_) Q_ := by
  refine sm_T_stp hx_ (Nat.le_of_ble_eq_true rfl) ?_ k_
  simp only [sm_stp, hL_]
  rfl
def i_neg (x_ : Int) : Int := (-(Int32.ofInt x_)).toInt
theorem i_neg_r (x_ : Int) : -2147483648 ≤ i_neg x_ ∧ i_neg x_ ≤ 2147483647 := sm_ni_toInt _
theorem sm_T_negw {P_ : sm_P} {d_ mid_ pc_ n0_ b_ e_ : Nat} {z_ x_ : Int} {L_ : sm_L} {r_ : List sm_V} {S_ : sm_S} {Q_ : sm_R → Prop} (hx_ : P_.1 mid_ pc_ = some (13, n0_, 4, b_, e_, z_)) (k_ : sm_T P_ d_ mid_ (pc_ + n0_, L_, .inl (i_neg x_) :: r_, S_) Q_) : sm_T P_ d_ mid_ (pc_, L_, .inl x_ :: r_, S_) Q_ := by
  refine sm_T_stp hx_ (Nat.le_of_ble_eq_true rfl) ?_ k_
  simp only [sm_stp]
  rfl
theorem mul_b {x_ y_ X_ Y_ Z_ : Int} (hx_ : 0 ≤ x_ ∧ x_ ≤ X_) (hy_ : 0 ≤ y_ ∧ y_ ≤ Y_) (hz_ : X_ * Y_ = Z_) : 0 ≤ x_ * y_ ∧ x_ * y_ ≤ Z_ := by
  refine ⟨Int.mul_nonneg hx_.1 hy_.1, ?_⟩
  rw [← hz_]
  exact Int.mul_le_mul hx_.2 hy_.2 hy_.1 (by omega)
theorem i_and_y (x_ : Int) {y_ : Int} (hy_ : 0 ≤ y_ ∧ y_ ≤ 2147483647) : 0 ≤ i_and x_ y_ ∧ i_and x_ y_ ≤ y_ := by
  have e_ : (Int32.ofInt y_).toInt = y_ := Int32.toInt_ofInt_of_le (by omega) (by omega)
  unfold i_and
  generalize Int32.ofInt x_ = a_ at *
  generalize Int32.ofInt y_ = b_ at *
  have e1_ : (a_ &&& b_).toInt = (a_.toBitVec &&& b_.toBitVec).toInt := rfl
  have e2_ : b_.toInt = b_.toBitVec.toInt := rfl
  rw [e1_]
  rw [e2_] at e_
  generalize a_.toBitVec = u_ at *
  generalize b_.toBitVec = w_ at *
  have l_ : (u_ &&& w_).toNat ≤ w_.toNat := by rw [BitVec.toNat_and]; exact Nat.and_le_right
  have n0_ := w_.isLt
  rw [BitVec.toInt_eq_toNat_cond] at e_ ⊢
  split at e_ <;> split <;> omega
theorem i_and_x {x_ : Int} (y_ : Int) (hx_ : 0 ≤ x_ ∧ x_ ≤ 2147483647) : 0 ≤ i_and x_ y_ ∧ i_and x_ y_ ≤ x_ := by
  have e_ : i_and x_ y_ = i_and y_ x_ := by
    unfold i_and
    rw [Int32.and_comm]
  rw [e_]
  exact i_and_y y_ hx_
theorem i_shr_p {x_ e_ : Int} (h0_ : 0 ≤ e_) (h1_ : e_ ≤ 31) (hx_ : 0 ≤ x_ ∧ x_ ≤ 2147483647) : 0 ≤ i_shr x_ e_ ∧ i_shr x_ e_ ≤ x_ := by
  rw [i_shrv h0_ h1_ (by omega)]
  have p_ := pw_pos e_.toNat
  exact ⟨Int.ediv_nonneg hx_.1 (by omega), Int.ediv_le_self _ hx_.1⟩
theorem i_shl_1 {x_ e_ : Int} (hx_ : x_ = 1) (h_ : 0 ≤ e_ ∧ e_ ≤ 12) : 1 ≤ i_shl x_ e_ ∧ i_shl x_ e_ ≤ 4096 := by
  rw [hx_, i_shl1 h_.1 (by omega)]
  have p_ := pw_pos e_.toNat
  have q_ := pw_le (n := e_.toNat) (m := 12) (by omega)
  omega
theorem rd_ne_ {S_ : sm_S} {t'_ i'_ t_ i_ k_ : Nat} {z_ : Int} (h_ : t'_ ≠ t_) : (sm_aI S_ t_ i_ k_ z_).2.2.1 t'_ i'_ = S_.2.2.1 t'_ i'_ := funext fun _ => rd_ne h_
/-! other chips stay as_ they were -/
def ckn (t_ : Nat) : Bool := t_ == 0 || t_ == 2 || t_ == 4 || t_ == 5 || (decide (14 ≤ t_) && decide (t_ < 26)) || (decide (34 ≤ t_) && decide (t_ < 42)) || (decide (48 ≤ t_) && decide (t_ < 59))
def cof (t_ : Nat) : Nat := if t_ = 5 ∨ (55 ≤ t_ ∧ t_ < 59) then 3 else 0
def cdf (ii_ : Nat) (S_ S'_ : sm_S) : Prop := ∀ t_, ckn t_ = true → ∀ i_, i_ ≠ cof t_ + ii_ → (∀ k_, S'_.1 t_ i_ k_ = S_.1 t_ i_ k_) ∧ S'_.2.2.1 t_ i_ = S_.2.2.1 t_ i_
theorem cdf_rf {ii_ : Nat} {S_ : sm_S} : cdf ii_ S_ S_ := fun _ _ _ _ => ⟨fun _ => rfl, rfl⟩
theorem cdf_tr {ii_ : Nat} {S_ S'_ S2_ : sm_S} (h_ : cdf ii_ S_ S'_) (g_ : cdf ii_ S'_ S2_) : cdf ii_ S_ S2_ := fun t_ ht_ i_ hi_ => ⟨fun k_ => ((g_ t_ ht_ i_ hi_).1 k_).trans ((h_ t_ ht_ i_ hi_).1 k_), (g_ t_ ht_ i_ hi_).2.trans (h_ t_ ht_ i_ hi_).2⟩
theorem cdf_cg {ii_ jj_ : Nat} {S_ S'_ : sm_S} (e_ : ii_ = jj_) (h_ : cdf ii_ S_ S'_) : cdf jj_ S_ S'_ := e_ ▸ h_
def cwf (w_ : sx_Wl) : Bool := w_.1.all (fun q_ => !ckn q_.1) && w_.2.1.all (fun t_ => !ckn t_)
theorem cdf_fr {w_ : sx_Wl} {ii_ : Nat} {S_ S'_ : sm_S} (g_ : ai_fr (sx_W w_) S_ S'_) (h_ : cwf w_ = true) : cdf ii_ S_ S'_ := fun t_ ht_ i_ _ => by
  unfold cwf at h_
  rw [Bool.and_eq_true] at h_
  refine ⟨fun k_ => g_.1 t_ i_ k_ ?_, fr_arr g_ ?_⟩
  · unfold sx_W
    rw [List.any_eq_false]
    intro q_ hq_ z_
    have u_ := List.all_eq_true.mp h_.1 q_ hq_
    rw [Bool.and_eq_true] at z_
    have e_ : q_.1 = t_ := of_decide_eq_true z_.1
    rw [e_, ht_] at u_
    exact absurd u_ (by decide)
  · unfold sx_W
    rw [List.any_eq_false]
    intro q_ hq_ z_
    have u_ := List.all_eq_true.mp h_.2 q_ hq_
    have e_ : q_ = t_ := of_decide_eq_true z_
    rw [e_, ht_] at u_
    exact absurd u_ (by decide)
theorem cdf_pI {ii_ t_ i_ k_ : Nat} {S_ S'_ : sm_S} {v_ : Int} (h_ : cdf ii_ S_ S'_) (g_ : ckn t_ = false ∨ i_ = cof t_ + ii_) : cdf ii_ S_ (sm_pI S'_ t_ i_ k_ v_) := fun t1_ ht_ j_ hj_ => ⟨fun k1_ => by
  rw [← (h_ t1_ ht_ j_ hj_).1 k1_]
  exact sm_up_ne (fun z_ => by
    have z1_ := z_.1
    subst z1_
    rcases g_ with g_ | g_
    · rw [ht_] at g_; exact absurd g_ (by decide)
    · exact hj_ (z_.2.1.trans g_)), (h_ t1_ ht_ j_ hj_).2⟩
theorem cdf_aI {ii_ t_ i_ k_ : Nat} {S_ S'_ : sm_S} {v_ : Int} (h_ : cdf ii_ S_ S'_) (g_ : ckn t_ = false ∨ i_ = cof t_ + ii_) : cdf ii_ S_ (sm_aI S'_ t_ i_ k_ v_) := fun t1_ ht_ j_ hj_ => ⟨(h_ t1_ ht_ j_ hj_).1, by
  rw [← (h_ t1_ ht_ j_ hj_).2]
  funext k1_
  exact sm_up_ne (fun z_ => by
    have z1_ := z_.1
    subst z1_
    rcases g_ with g_ | g_
    · rw [ht_] at g_; exact absurd g_ (by decide)
    · exact hj_ (z_.2.1.trans g_))⟩
theorem cdf_aL {ii_ t_ i_ k_ : Nat} {S_ S'_ : sm_S} {v_ : Int} (h_ : cdf ii_ S_ S'_) : cdf ii_ S_ (sm_aL S'_ t_ i_ k_ v_) := h_
theorem cdf_pR {ii_ t_ i_ k_ : Nat} {S_ S'_ : sm_S} {v_ : Option Nat} (h_ : cdf ii_ S_ S'_) : cdf ii_ S_ (sm_pR S'_ t_ i_ k_ v_) := h_
theorem cdf_ac {ii_ t_ i_ t1_ i1_ a_ c_ k_ : Nat} {S_ S'_ : sm_S} (h_ : cdf ii_ S_ S'_) (g_ : ckn t1_ = false ∨ i1_ = cof t1_ + ii_) : cdf ii_ S_ (sm_acI S'_ t_ i_ t1_ i1_ a_ c_ k_) := fun t2_ ht_ j_ hj_ => ⟨(h_ t2_ ht_ j_ hj_).1, by
  rw [← (h_ t2_ ht_ j_ hj_).2]
  exact sm_acI_ne (fun z_ => by
    have z1_ := z_.1
    subst z1_
    rcases g_ with g_ | g_
    · rw [ht_] at g_; exact absurd g_ (by decide)
    · exact hj_ (z_.2.trans g_))⟩
theorem cdf_acL {ii_ t_ i_ t1_ i1_ a_ c_ k_ : Nat} {S_ S'_ : sm_S} (h_ : cdf ii_ S_ S'_) : cdf ii_ S_ (sm_acL S'_ t_ i_ t1_ i1_ a_ c_ k_) := h_
