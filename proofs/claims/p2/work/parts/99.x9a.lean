/-! the class reader: widths, tables of names; written by wip/p55/gen/vg -/

/-! lemmas -/
theorem p_nn_ok {b_ : Nat → Int} {n_ K_ p_ r_ : Nat} {f_ : Nat → Nat} {w_ : Int} (h_ : p_nn b_ n_ K_ f_ w_ p_ = .inr r_) : (K_ : Int) ≠ w_ ∧ lx_kd b_ n_ p_ = 1 ∧ p_ad b_ n_ p_ = .inr r_ := by
  unfold p_nn at h_
  split at h_
  · rename_i g_
    split at h_
    · split at h_
      · cases h_
      · rename_i g1_
        exact ⟨g1_, g_, h_⟩
    · cases h_
  · cases h_
theorem p_nd_ok {b_ : Nat → Int} {n_ p_ r_ : Nat} {w_ : Int} (hw_ : w_ ≠ 0) (hp_ : p_ ≤ n_) (h_ : p_nd b_ n_ w_ p_ = .inr r_) : lx_kd b_ n_ p_ = w_ ∧ p_ < r_ ∧ r_ ≤ n_ ∧ lx_kd b_ n_ r_ ≠ -1 := by
  unfold p_nd at h_
  split at h_
  · rename_i g_
    have := p_ad_ok hp_ (by omega) h_
    exact ⟨g_, this.2⟩
  · cases h_
