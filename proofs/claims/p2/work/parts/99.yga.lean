/-! the reference: widths; written by wip/p55/gen/vg -/

/-! widths -/
theorem wi_w {b_ : Nat → Int} {n_ p_ : Nat} {e_ : Int × Nat} (hk_ : lx_kd b_ n_ p_ = 58) (h_ : pb (p_ad b_ n_ p_) (p_du b_ n_ 2) = .inl e_) : p_wi b_ n_ p_ = .inl e_ := by
  unfold p_wi
  rw [if_pos hk_]
  cases h1_ : p_ad b_ n_ p_ with
  | inl z_ => rw [h1_] at h_; cases h_; rfl
  | inr q_ =>
    rw [h1_, pb_r rfl] at h_
    rw [pb_r rfl]
    unfold p_du at h_
    unfold p_nu
    split at h_
    · cases h_
    · rename_i g_
      cases h_
      rw [if_neg g_]
      rfl
theorem wi_r {b_ : Nat → Int} {n_ p_ q_ : Nat} (hk_ : lx_kd b_ n_ p_ = 58) (h_ : pb (p_ad b_ n_ p_) (p_du b_ n_ 2) = .inr q_) : lx_kd b_ n_ q_ = 2 ∧ p_wi b_ n_ p_ = if lx_vl b_ n_ q_ < 1 ∨ 8 < lx_vl b_ n_ q_ then .inl (12, q_) else pb (p_ad b_ n_ q_) fun r_ => .inr (r_, lx_vl b_ n_ q_) := by
  obtain ⟨r_, h1_, h2_⟩ := pb_inr h_
  unfold p_du at h2_
  split at h2_
  · rename_i g_
    cases h2_
    refine ⟨g_, ?_⟩
    unfold p_wi
    rw [if_pos hk_, pb_r h1_]
    unfold p_nu
    rw [if_pos g_]
    split <;> rfl
  · cases h2_
def p_w1 (b_ : Nat → Int) (n_ p_ : Nat) : pE Nat := pb (p_wi b_ n_ p_) fun u_ => .inr u_.1
