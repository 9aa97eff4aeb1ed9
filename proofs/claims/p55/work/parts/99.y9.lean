/-! the reference: constants; written by wip/p55/gen/vg -/

/-! constants -/
def p_c3 (b_ : Nat → Int) (n_ p_ : Nat) : pE Nat := pb (pb (pb (.inr p_) (p_ad b_ n_)) (p_nd b_ n_ 64)) (p_du b_ n_ 2)
theorem c3_w {b_ : Nat → Int} {n_ p_ : Nat} {e_ : Int × Nat} (h_ : p_c3 b_ n_ p_ = .inl e_) : p_co b_ n_ p_ = .inl e_ := by
  unfold p_c3 at h_
  rw [pb_r rfl] at h_
  unfold p_co
  cases h1_ : p_ad b_ n_ p_ with
  | inl z_ => rw [h1_] at h_; cases h_; rfl
  | inr q_ =>
    rw [h1_, pb_r rfl] at h_
    rw [pb_r rfl]
    unfold p_nd at h_
    split at h_
    · rename_i g_
      rw [if_pos g_]
      cases h2_ : p_ad b_ n_ q_ with
      | inl z_ => rw [h2_] at h_; cases h_; rfl
      | inr r_ =>
        rw [h2_, pb_r rfl] at h_
        rw [pb_r rfl]
        unfold p_du at h_
        unfold p_nu
        split at h_
        · cases h_
        · rename_i g2_
          cases h_
          rw [if_neg g2_]
          rfl
    · rename_i g_
      cases h_
      rw [if_neg g_]
theorem c3_r {b_ : Nat → Int} {n_ p_ r_ : Nat} (h_ : p_c3 b_ n_ p_ = .inr r_) : lx_kd b_ n_ r_ = 2 ∧ p_co b_ n_ p_ = if lx_vl b_ n_ r_ < 1 ∨ 8 < lx_vl b_ n_ r_ then .inl (12, r_) else pb (p_ad b_ n_ r_) fun u_ => if lx_vl b_ n_ p_ / 2 ^ (lx_vl b_ n_ r_).toNat = 0 then .inr (u_, lx_vl b_ n_ r_, [cw 8 (lx_vl b_ n_ r_) (lx_vl b_ n_ p_)]) else .inl (12, p_) := by
  obtain ⟨r1_, h1_, h2_⟩ := pb_inr h_
  obtain ⟨q_, h3_, h4_⟩ := pb_inr h1_
  rw [pb_r rfl] at h3_
  unfold p_nd at h4_
  split at h4_
  · rename_i g_
    unfold p_du at h2_
    split at h2_
    · rename_i g2_
      cases h2_
      refine ⟨g2_, ?_⟩
      unfold p_co
      rw [pb_r h3_, if_pos g_, pb_r h4_]
      unfold p_nu
      rw [if_pos g2_]
      split
      · rfl
      · rfl
    · cases h2_
  · cases h4_
theorem shl_ge {x_ w_ : Int} (hx_ : 0 ≤ x_) (hw_ : 1 ≤ w_ ∧ w_ ≤ 8) : i_shl 1 w_ ≤ x_ ↔ ¬ (x_ / 2 ^ w_.toNat = 0) := by
  rw [i_shl1 (by omega) (by omega)]
  have h1_ := pw_8 w_.toNat (by omega)
  generalize (2 : Int) ^ w_.toNat = y_ at *
  constructor
  · intro h_
    have := Int.le_ediv_of_mul_le (show 0 < y_ by omega) (show 1 * y_ ≤ x_ by omega)
    omega
  · intro h_
    by_cases g_ : y_ ≤ x_
    · exact g_
    · exact absurd (Int.ediv_eq_zero_of_lt hx_ (by omega)) h_
