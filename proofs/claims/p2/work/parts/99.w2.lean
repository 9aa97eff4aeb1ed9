/-! what stays true of the parser; written by wip/p55/gen/vg -/

/-! bytes joined -/
theorem i_by {x_ y_ : Int} (hx_ : 0 ≤ x_ ∧ x_ ≤ 255) (hy_ : 0 ≤ y_ ∧ y_ ≤ 255) : (0 ≤ i_or x_ y_ ∧ i_or x_ y_ ≤ 255) ∧ (0 ≤ i_xor x_ y_ ∧ i_xor x_ y_ ≤ 255) ∧ (0 ≤ i_and x_ y_ ∧ i_and x_ y_ ≤ 255) := by
  have h1_ : (x_.toNat ||| y_.toNat) < 2 ^ 8 := Nat.or_lt_two_pow (by omega) (by omega)
  have h2_ : (x_.toNat ^^^ y_.toNat) < 2 ^ 8 := Nat.xor_lt_two_pow (by omega) (by omega)
  have h3_ : (x_.toNat &&& y_.toNat) < 2 ^ 8 := Nat.and_lt_two_pow _ (by omega)
  have e1_ : i_or x_ y_ = ((x_.toNat ||| y_.toNat : Nat) : Int) := bt_or_nat hx_.1 (by omega) hy_.1 (by omega)
  have e2_ : i_xor x_ y_ = ((x_.toNat ^^^ y_.toNat : Nat) : Int) := bt_xor_nat hx_.1 (by omega) hy_.1 (by omega)
  have e3_ : i_and x_ y_ = ((x_.toNat &&& y_.toNat : Nat) : Int) := bt_and_nat hx_.1 (by omega) hy_.1 (by omega)
  rw [e1_, e2_, e3_]
  omega
theorem p_lo_b {k_ x_ y_ : Int} (hx_ : 0 ≤ x_ ∧ x_ ≤ 255) (hy_ : 0 ≤ y_ ∧ y_ ≤ 255) : 0 ≤ p_lo k_ x_ y_ ∧ p_lo k_ x_ y_ ≤ 255 := by
  have h_ := i_by hx_ hy_
  unfold p_lo
  split
  · exact h_.1
  · split
    · exact h_.2.1
    · exact h_.2.2
/-! the_ operators that wait -/
def o_ok (md_ : Bool) : List (Int × Nat) → Prop
  | [] => True
  | x_ :: o_ => (x_.1 = -1 ∨ x_.1 = -2 ∨ (md_ = false ∧ (x_.1 = -3 ∨ x_.1 = -4)) ∨ (1 ≤ x_.1 ∧ x_.1 ≤ 5 ∧ (md_ = true → x_.1 ≤ 3) ∧ o_tp o_ < x_.1)) ∧ x_.2 ≤ 1280 ∧ o_ok md_ o_
def o_hl : List (Int × Nat) → Nat
  | [] => 0
  | x_ :: o_ => (if x_.1 = -4 then 2 else if x_.1 = -3 then 1 else if x_.1 < 0 then 0 else 1) + o_hl o_
theorem o_tp5 {md_ : Bool} : ∀ {o_ : List (Int × Nat)}, o_ok md_ o_ → -4 ≤ o_tp o_ ∧ o_tp o_ ≤ 5
  | [], _ => ⟨by decide, by decide⟩
  | x_ :: o_, h_ => by
    have h1_ := h_.1
    show -4 ≤ x_.1 ∧ x_.1 ≤ 5
    omega
theorem o_len {md_ : Bool} : ∀ {o_ : List (Int × Nat)}, o_ok md_ o_ → (o_.length : Int) ≤ 6 * o_mk o_ + (if 0 < o_tp o_ then o_tp o_ else 0) ∧ (o_hl o_ : Int) ≤ 7 * o_mk o_ + (if 0 < o_tp o_ then o_tp o_ else 0)
  | [], _ => ⟨by decide, by decide⟩
  | x_ :: o_, h_ => by
    have h1_ := h_.1
    have ih_ := o_len h_.2.2
    have h5_ := o_tp5 h_.2.2
    have e1_ : o_tp (x_ :: o_) = x_.1 := rfl
    have e2_ : o_mk (x_ :: o_) = (if x_.1 < 0 then 1 else 0) + o_mk o_ := rfl
    have e3_ : o_hl (x_ :: o_) = (if x_.1 = -4 then 2 else if x_.1 = -3 then 1 else if x_.1 < 0 then 0 else 1) + o_hl o_ := rfl
    rw [e1_, e2_, e3_, List.length_cons]
    have ih2_ : (o_.length : Int) ≤ 6 * o_mk o_ + 5 ∧ (o_hl o_ : Int) ≤ 7 * o_mk o_ + 5 := by
      split at ih_ <;> omega
    by_cases g_ : x_.1 < 0
    · rw [if_pos g_, if_neg (show ¬ 0 < x_.1 by omega)]
      constructor
      · omega
      · split
        · omega
        · split <;> omega
    · have g1_ : 1 ≤ x_.1 ∧ o_tp o_ < x_.1 := by
        rcases h1_ with z_ | z_ | z_ | z_
        · exfalso; omega
        · exfalso; omega
        · exfalso; omega
        · exact ⟨z_.1, z_.2.2.2⟩
      rw [if_neg g_, if_pos (show 0 < x_.1 by omega), if_neg (show ¬ x_.1 = -4 by omega), if_neg (show ¬ x_.1 = -3 by omega), if_neg g_]
      split at ih_ <;> omega
theorem o_lim {md_ : Bool} {o_ : List (Int × Nat)} (h_ : o_ok md_ o_) (hm_ : o_mk o_ ≤ 60) : o_.length ≤ 365 ∧ o_hl o_ ≤ 425 := by
  have h1_ := o_len h_
  have h5_ := o_tp5 h_
  split at h1_ <;> omega
def h_ok (h_ : List Int) : Prop := ∀ x_, x_ ∈ h_ → 0 ≤ x_ ∧ x_ ≤ 255
theorem h_ok_c {x_ : Int} {h_ : List Int} : h_ok (x_ :: h_) ↔ (0 ≤ x_ ∧ x_ ≤ 255) ∧ h_ok h_ := by
  unfold h_ok
  constructor
  · intro g_
    exact ⟨g_ x_ (List.mem_cons_self ..), fun y_ hy_ => g_ y_ (List.mem_cons_of_mem _ hy_)⟩
  · intro g_ y_ hy_
    rcases List.mem_cons.mp hy_ with e_ | e_
    · rw [e_]; exact g_.1
    · exact g_.2 y_ e_
/-- what holds of_ operators, held values and code, with so_ many values more than the_ operators want -/
def s_ok (md_ : Bool) (k_ : Nat) (s_ : pO) : Prop := o_ok md_ s_.1 ∧ o_mk s_.1 ≤ 60 ∧ s_.2.1.length = o_hl s_.1 + k_ ∧ h_ok s_.2.1
theorem p_ap_ok {md_ : Bool} {k_ : Int} {q_ : Nat} {a_ b_ : Int} {c_ : List Int} {r_ : Int × List Int} (ha_ : 0 ≤ a_ ∧ a_ ≤ 255) (hb_ : 0 ≤ b_ ∧ b_ ≤ 255) (h_ : p_ap md_ k_ q_ a_ b_ c_ = .inr r_) : (0 ≤ r_.1 ∧ r_.1 ≤ 255) ∧ r_.2.length ≤ c_.length + 1 := by
  unfold p_ap at h_
  split at h_
  · cases h_
    exact ⟨p_lo_b ha_ hb_, by simp⟩
  · split at h_
    · cases h_
      refine ⟨?_, by simp⟩
      show 0 ≤ (if k_ = 4 then (1 : Int) else a_) ∧ _
      split <;> omega
    · cases h_
theorem s_ok_ap {md_ : Bool} {k_ : Int} {q_ : Nat} {o_ : List (Int × Nat)} {a_ b_ v_ : Int} {h_ c_ c'_ : List Int} (h1_ : 1 ≤ k_) (hv_ : 0 ≤ v_ ∧ v_ ≤ 255) (s_ : s_ok md_ 1 ((k_, q_) :: o_, b_ :: a_ :: h_, c_)) : s_ok md_ 1 (o_, v_ :: h_, c'_) := by
  obtain ⟨s1_, s2_, s3_, s4_⟩ := s_
  refine ⟨s1_.2.2, ?_, ?_, ?_⟩
  · simp only [o_mk] at s2_
    show o_mk o_ ≤ 60
    omega
  · simp only [o_hl, List.length_cons] at s3_ ⊢
    repeat' split at s3_
    all_goals omega
  · exact h_ok_c.mpr ⟨hv_, (h_ok_c.mp (h_ok_c.mp s4_).2).2⟩
theorem s_ok_2 {md_ : Bool} {k_ : Int} {q_ : Nat} {o_ : List (Int × Nat)} {h_ c_ : List Int} (h1_ : 1 ≤ k_) (s_ : s_ok md_ 1 ((k_, q_) :: o_, h_, c_)) : ∃ b_ a_ g_, h_ = b_ :: a_ :: g_ := by
  have s3_ := s_.2.2.1
  simp only [o_hl] at s3_
  match h_, s3_ with
  | [], s3_ => exact absurd s3_ (by simp)
  | [x_], s3_ =>
    exfalso
    simp only [List.length_cons, List.length_nil] at s3_
    repeat' split at s3_
    all_goals omega
  | b_ :: a_ :: g_, _ => exact ⟨b_, a_, g_, rfl⟩
theorem p_se_ok {md_ : Bool} {ls_ : Int} (h1_ : 1 ≤ ls_) : ∀ (o_ : List (Int × Nat)) (h_ c_ : List Int) (s_ : pO), s_ok md_ 1 (o_, h_, c_) → p_se md_ ls_ o_ h_ c_ = .inr s_ → s_ok md_ 1 s_ ∧ o_mk s_.1 = o_mk o_ ∧ s_.2.2.length + s_.1.length ≤ c_.length + o_.length ∧ o_tp s_.1 < ls_
  | [], h_, c_, s_, hs_, e_ => by
    rw [p_se] at e_
    cases e_
    exact ⟨hs_, rfl, Nat.le_refl _, by show (0 : Int) < ls_; omega⟩
    all_goals (intros; simp_all)
  | (k_, q_) :: o_, h_, c_, s_, hs_, e_ => by
    by_cases g_ : ls_ ≤ k_
    · obtain ⟨b_, a_, h_, rfl⟩ := s_ok_2 (by omega) hs_
      rw [p_se, if_pos g_] at e_
      cases hp_ : p_ap md_ k_ q_ a_ b_ c_ with
      | inl x_ => rw [hp_] at e_; cases e_
      | inr r_ =>
        rw [hp_] at e_
        have hh_ := h_ok_c.mp hs_.2.2.2
        have hb_ := p_ap_ok (h_ok_c.mp hh_.2).1 hh_.1 hp_
        have ih_ := p_se_ok h1_ o_ (r_.1 :: h_) r_.2 s_ (s_ok_ap (by omega) hb_.1 hs_) e_
        refine ⟨ih_.1, ?_, ?_, ih_.2.2.2⟩
        · rw [ih_.2.1]
          simp only [o_mk]
          rw [if_neg (by omega)]
          omega
        · have := ih_.2.2.1
          simp only [List.length_cons]
          omega
    · have : p_se md_ ls_ ((k_, q_) :: o_) h_ c_ = .inr ((k_, q_) :: o_, h_, c_) := by
        cases h_ with
        | nil => unfold p_se; rfl
        | cons x_ h_ =>
          cases h_ with
          | nil => unfold p_se; rfl
          | cons y_ h_ => rw [p_se, if_neg g_]
      rw [this] at e_
      cases e_
      exact ⟨hs_, rfl, Nat.le_refl _, by show k_ < ls_; omega⟩
theorem s_ok_3 {md_ : Bool} {q_ : Nat} {o_ : List (Int × Nat)} {h_ c_ : List Int} (s_ : s_ok md_ 1 ((-4, q_) :: o_, h_, c_)) : ∃ b_ a_ d_ g_, h_ = b_ :: a_ :: d_ :: g_ := by
  have s3_ := s_.2.2.1
  simp only [o_hl, if_true] at s3_
  match h_, s3_ with
  | [], s3_ => exact absurd s3_ (by simp)
  | [x_], s3_ => exfalso; simp only [List.length_cons, List.length_nil] at s3_; omega
  | [x_, y_], s3_ => exfalso; simp only [List.length_cons, List.length_nil] at s3_; omega
  | b_ :: a_ :: d_ :: g_, _ => exact ⟨b_, a_, d_, g_, rfl⟩
theorem p_sa_4 {md_ : Bool} {q_ : Nat} {o_ : List (Int × Nat)} {h_ c_ : List Int} : p_sa md_ ((-4, q_) :: o_) h_ c_ = pb (p_ch q_ h_ c_) fun r_ => p_sa md_ o_ r_.1 r_.2 := by
  match h_ with
  | [] => rw [p_sa, if_pos rfl]; all_goals (intros; simp_all)
  | [x_] => rw [p_sa, if_pos rfl]; all_goals (intros; simp_all)
  | x_ :: y_ :: h_ => rw [p_sa, if_pos rfl]
theorem p_sa_1 {md_ : Bool} {k_ a_ b_ : Int} {q_ : Nat} {o_ : List (Int × Nat)} {h_ c_ : List Int} (h1_ : 1 ≤ k_) : p_sa md_ ((k_, q_) :: o_) (b_ :: a_ :: h_) c_ = pb (p_ap md_ k_ q_ a_ b_ c_) fun r_ => p_sa md_ o_ (r_.1 :: h_) r_.2 := by
  rw [p_sa, if_neg (by omega), if_pos h1_]
theorem p_sa_n {md_ : Bool} {k_ : Int} {q_ : Nat} {o_ : List (Int × Nat)} {h_ c_ : List Int} (g_ : k_ ≠ -4) (h1_ : ¬ 1 ≤ k_) : p_sa md_ ((k_, q_) :: o_) h_ c_ = .inr ((k_, q_) :: o_, h_, c_) := by
  match h_ with
  | [] => rw [p_sa, if_neg g_, if_neg h1_]; all_goals (intros; simp_all)
  | [x_] => rw [p_sa, if_neg g_, if_neg h1_]; all_goals (intros; simp_all)
  | x_ :: y_ :: h_ => rw [p_sa, if_neg g_, if_neg h1_]
theorem p_sa_ok {md_ : Bool} : ∀ (o_ : List (Int × Nat)) (h_ c_ : List Int) (s_ : pO), s_ok md_ 1 (o_, h_, c_) → p_sa md_ o_ h_ c_ = .inr s_ → s_ok md_ 1 s_ ∧ s_.2.2.length + s_.1.length ≤ c_.length + o_.length ∧ o_tp s_.1 < 1 ∧ o_tp s_.1 ≠ -4
  | [], h_, c_, s_, hs_, e_ => by
    rw [p_sa] at e_
    cases e_
    exact ⟨hs_, Nat.le_refl _, by show (0 : Int) < 1; decide, by show (0 : Int) ≠ -4; decide⟩
  | (k_, q_) :: o_, h_, c_, s_, hs_, e_ => by
    by_cases g_ : k_ = -4
    · subst g_
      rw [p_sa_4] at e_
      obtain ⟨b_, a_, d_, h_, rfl⟩ := s_ok_3 hs_
      by_cases hab_ : a_ = b_
      · have hc_ : p_ch q_ (b_ :: a_ :: d_ :: h_) c_ = .inr (a_ :: h_, 7 :: c_) := if_pos hab_
        rw [hc_] at e_
        obtain ⟨s1_, s2_, s3_, s4_⟩ := hs_
        have hh_ := h_ok_c.mp s4_
        have h2_ := h_ok_c.mp hh_.2
        have h3_ := h_ok_c.mp h2_.2
        have ih_ := p_sa_ok o_ (a_ :: h_) (7 :: c_) s_ ⟨s1_.2.2, by simp only [o_mk] at s2_; show o_mk o_ ≤ 60; omega, by simp only [o_hl, List.length_cons, if_true] at s3_ ⊢; omega, h_ok_c.mpr ⟨h2_.1, h3_.2⟩⟩ e_
        refine ⟨ih_.1, ?_, ih_.2.2⟩
        have := ih_.2.1
        simp only [List.length_cons] at this ⊢
        omega
      · have hc_ : p_ch q_ (b_ :: a_ :: d_ :: h_) c_ = .inl (13, q_) := if_neg hab_
        rw [hc_] at e_
        cases e_
    · by_cases g1_ : 1 ≤ k_
      · obtain ⟨b_, a_, h_, rfl⟩ := s_ok_2 g1_ hs_
        rw [p_sa_1 g1_] at e_
        cases hp_ : p_ap md_ k_ q_ a_ b_ c_ with
        | inl x_ => rw [hp_] at e_; cases e_
        | inr r_ =>
          rw [hp_] at e_
          have hh_ := h_ok_c.mp hs_.2.2.2
          have hb_ := p_ap_ok (h_ok_c.mp hh_.2).1 hh_.1 hp_
          have ih_ := p_sa_ok o_ (r_.1 :: h_) r_.2 s_ (s_ok_ap g1_ hb_.1 hs_) e_
          refine ⟨ih_.1, ?_, ih_.2.2⟩
          have := ih_.2.1
          simp only [List.length_cons]
          omega
      · rw [p_sa_n g_ g1_] at e_
        cases e_
        exact ⟨hs_, Nat.le_refl _, by show k_ < 1; omega, g_⟩

