/-! bits -/
def p_bp (b_ : Nat → Int) (n_ : Nat) (wd_ : Int) (p_ : Nat) : pE Nat := pb (p_nu b_ n_ 0 (wd_ - 1) p_) fun _ => p_ad b_ n_ p_
theorem bp_bi {b_ : Nat → Int} {n_ p_ : Nat} {wd_ : Int} {l_ : List Int} : p_bi b_ n_ wd_ l_ p_ = pb (p_bp b_ n_ wd_ p_) fun q_ => .inr (q_, 1, cw 11 (lx_vl b_ n_ p_) 0 :: l_) := by
  unfold p_bi p_bp
  cases h_ : p_nu b_ n_ 0 (wd_ - 1) p_ with
  | inl e_ => rfl
  | inr v_ =>
    have h1_ := (p_nu_ok h_).2.1
    subst h1_
    rw [pb_r rfl, pb_r rfl]
theorem bp_w {b_ : Nat → Int} {n_ : Nat} {wd_ : Int} {x_ : pE Nat} {e_ : Int × Nat} (h_ : pb x_ (p_du b_ n_ 2) = .inl e_) : pb x_ (p_bp b_ n_ wd_) = .inl e_ := by
  cases x_ with
  | inl z_ => exact h_
  | inr p_ =>
    rw [pb_r rfl] at h_ ⊢
    unfold p_du at h_
    unfold p_bp p_nu
    split at h_
    · cases h_
    · rename_i g_
      cases h_
      rw [if_neg g_]
      rfl
theorem bp_r {b_ : Nat → Int} {n_ r_ : Nat} {wd_ : Int} {x_ : pE Nat} (h_ : pb x_ (p_du b_ n_ 2) = .inr r_) : lx_kd b_ n_ r_ = 2 ∧ pb x_ (p_bp b_ n_ wd_) = if lx_vl b_ n_ r_ < 0 ∨ wd_ - 1 < lx_vl b_ n_ r_ then .inl (12, r_) else p_ad b_ n_ r_ := by
  obtain ⟨p_, h1_, h2_⟩ := pb_inr h_
  subst h1_
  unfold p_du at h2_
  split at h2_
  · rename_i g_
    cases h2_
    refine ⟨g_, ?_⟩
    rw [pb_r rfl]
    unfold p_bp p_nu
    rw [if_pos g_]
    split <;> rfl
  · cases h2_
theorem lx_de_g {b_ : Nat → Int} {n_ : Nat} : ∀ (f_ p_ k_ : Nat), n_ - p_ ≤ f_ → p_ ≤ k_ → k_ < lx_de b_ n_ p_ → lx_g (b_ k_)
  | 0, p_, k_, hf_, hk_, h_ => by
    rw [lx_f_go, if_neg (by omega)] at h_
    omega
  | f_ + 1, p_, k_, hf_, hk_, h_ => by
    rw [lx_f_go] at h_
    split at h_
    · rename_i g_
      by_cases e_ : k_ = p_
      · rw [e_]; exact g_.2
      · exact lx_de_g f_ (p_ + 1) k_ (by omega) (by omega) h_
    · omega
theorem lx_vl_0 {b_ : Nat → Int} {n_ p_ : Nat} (h_ : lx_kd b_ n_ p_ = 2) : 0 ≤ lx_vl b_ n_ p_ := by
  unfold lx_kd at h_
  split at h_
  · omega
  · rename_i g_
    have h1_ := lx_wk_7 (lx_pk b_ p_ (lx_ne b_ n_ p_ - p_))
    split at h_
    · split at h_ <;> omega
    · split at h_
      · rename_i g2_
        unfold lx_vl
        refine (lx_v_b (b := b_) (p := p_) (k := min (lx_de b_ n_ p_ - p_) 6) (by omega) (fun j_ hj_ => ?_)).1
        exact lx_de_g (n_ - p_) p_ (p_ + j_) (Nat.le_refl _) (by omega) (by omega)
      · have h2_ := lx_sk_b (b := b_) (n := n_) (p := p_)
        split at h_ <;> omega
