/-! the class: limits told; written by wip/p55/gen/vg -/

/-! limits -/
def lt1 (A_ : pA) (m_ : Nat) (S_ : sm_S) : Prop := S_.2.2.1 30 0 m_ = mc (su (t_is (S_.2.2.1 30 0) A_ m_) (A_.1 m_)) ∧ S_.2.2.1 31 0 m_ = mc (su (t_rg (S_.2.2.1 31 0) A_ m_) (A_.1 m_))
theorem er1_fr {w_ : sx_Wl} {b_ : Nat → Int} {n_ m_ : Nat} {A_ : pA} {S_ S'_ : sm_S} (y_ : er1 b_ n_ A_ m_ S_) (f_ : ai_fr (sx_W w_) S_ S'_) (h0_ : (sx_W w_).2.1 77 = false) (h1_ : (sx_W w_).2.1 78 = false) (h2_ : (sx_W w_).2.1 79 = false) (h3_ : (sx_W w_).2.1 80 = false) (h4_ : (sx_W w_).2.1 81 = false) : er1 b_ n_ A_ m_ S'_ := by
  unfold er1 at y_ ⊢
  rw [fr_arr f_ h0_, fr_arr f_ h1_, fr_arr f_ h2_, fr_arr f_ h3_, fr_arr f_ h4_]
  exact y_
theorem sm_mc (x_ : Int) : sm_mn x_ 100000 = mc x_ := by
  have z_ := sm_mn_d x_ 100000
  unfold mc
  split <;> omega
theorem lm_both {b_ : Nat → Int} {n_ M_ : Nat} {A_ : pA} {S_ S'_ : sm_S} (hA_ : ∀ m_, m_ < M_ → a_ok b_ n_ A_ m_) (h1_ : ∀ m_, m_ < M_ → rs1 A_ m_ S_) (h2_ : ∀ m_, m_ < M_ → lt1 A_ m_ S'_) (hM_ : 1 ≤ M_) : p_lm (S_.2.2.1 135 0 (M_ - 1)) (S_.2.2.1 132 0 (M_ - 1)) (S_.2.2.1 134 0 (M_ - 1)) (S_.2.2.1 133 0 (M_ - 1)) = p_lm (S'_.2.2.1 30 0 (M_ - 1)) (su (t_in A_ 0 (M_ - 1)) (A_.1 (M_ - 1))) (S'_.2.2.1 31 0 (M_ - 1)) (su (t_in A_ 1 (M_ - 1)) (A_.1 (M_ - 1))) := by
  have k_ := sat_eq (r1_ := S_.2.2.1 134 0) (r2_ := S'_.2.2.1 31 0) (i1_ := S_.2.2.1 135 0) (i2_ := S'_.2.2.1 30 0) hA_ (fun m_ hm_ => (h1_ m_ hm_).2.2.1) (fun m_ hm_ => (h2_ m_ hm_).2) (fun m_ hm_ => (h1_ m_ hm_).2.2.2) (fun m_ hm_ => (h2_ m_ hm_).1) M_ (M_ - 1) (by omega) (by omega)
  have q_ := h1_ (M_ - 1) (by omega)
  have a_ := (hA_ (M_ - 1) (by omega)).2 (M_ - 1) (Nat.le_refl _)
  have c_ := su_b (f_ := t_in A_ 0 (M_ - 1)) (c_ := 8) (k_ := A_.1 (M_ - 1)) (fun j_ hj_ => by
    have z_ := (a_.2 j_ hj_).2.2.1
    unfold t_in
    split <;> omega)
  rw [k_.1.1, k_.2.1, q_.1, q_.2.1, lm_sat k_.2.2 k_.1.2 c_.1]
theorem lt1_up {b_ : Nat → Int} {n_ m_ : Nat} {A_ : pA} {S_ S'_ : sm_S} (hA_ : a_ok b_ n_ A_ m_) (h_ : ∀ k_, k_ < m_ → lt1 A_ k_ S_) (h0_ : ∀ j_, S'_.2.2.1 30 0 j_ = if j_ = m_ then mc (su (t_is (S_.2.2.1 30 0) A_ m_) (A_.1 m_)) else S_.2.2.1 30 0 j_) (h1_ : ∀ j_, S'_.2.2.1 31 0 j_ = if j_ = m_ then mc (su (t_rg (S_.2.2.1 31 0) A_ m_) (A_.1 m_)) else S_.2.2.1 31 0 j_) : ∀ k_, k_ < m_ + 1 → lt1 A_ k_ S'_ := by
  intro k_ hk_
  have dt_ : ∀ s_, s_ < A_.1 k_ → A_.2.2.1 (40 * k_ + s_) = 5 → (A_.2.2.2.2 (40 * k_ + s_)).toNat ≠ m_ := by
    intro s_ hs_ h5_
    have := ((hA_.2 k_ (by omega)).2 s_ hs_).2.2.2.2.1 h5_
    omega
  have e0_ : su (t_is (S'_.2.2.1 30 0) A_ k_) (A_.1 k_) = su (t_is (S_.2.2.1 30 0) A_ k_) (A_.1 k_) := su_cg (fun s_ hs_ => by
    unfold t_is
    by_cases z2_ : A_.2.2.1 (40 * k_ + s_) = 5
    · rw [if_pos z2_, if_pos z2_, h0_, if_neg (dt_ s_ hs_ z2_)]
    · rw [if_neg z2_, if_neg z2_])
  have e1_ : su (t_rg (S'_.2.2.1 31 0) A_ k_) (A_.1 k_) = su (t_rg (S_.2.2.1 31 0) A_ k_) (A_.1 k_) := su_cg (fun s_ hs_ => by
    unfold t_rg
    by_cases z_ : A_.2.2.1 (40 * k_ + s_) = 3 ∨ A_.2.2.1 (40 * k_ + s_) = 4
    · rw [if_pos z_, if_pos z_]
    · rw [if_neg z_, if_neg z_]
      by_cases z2_ : A_.2.2.1 (40 * k_ + s_) = 5
      · rw [if_pos z2_, if_pos z2_, h1_, if_neg (dt_ s_ hs_ z2_)]
      · rw [if_neg z2_, if_neg z2_])
  unfold lt1
  rw [e0_, e1_, h0_, h1_]
  by_cases e_ : k_ = m_
  · rw [if_pos e_, if_pos e_, e_]
    exact ⟨rfl, rfl⟩
  · rw [if_neg e_, if_neg e_]
    exact h_ k_ (by omega)
