/-! the reference: names, second pass; written by wip/p55/gen/vg -/

/-! names -/
theorem na_r {b_ : Nat → Int} {n_ M_ p_ : Nat} {A_ : pA} {r_ : Nat × Int × List Int} (h_ : p_na b_ n_ A_ M_ p_ = .inr r_) : ∃ s9_ q_ : Nat, p_fn b_ n_ A_ M_ p_ = (s9_ : Int) ∧ s9_ < A_.1 M_ ∧ p_ad b_ n_ p_ = .inr q_ ∧ ((lx_kd b_ n_ q_ ≠ 46 ∧ A_.2.2.1 (40 * M_ + s9_) ≠ 5 ∧ r_ = (q_, A_.2.2.2.1 (40 * M_ + s9_), [cw 9 (s9_ : Int) 0])) ∨ (lx_kd b_ n_ q_ = 46 ∧ ∃ q2_, p_ad b_ n_ q_ = .inr q2_ ∧ ((lx_kd b_ n_ q2_ = 1 ∧ A_.2.2.1 (40 * M_ + s9_) = 5 ∧ p_pa b_ n_ A_ (s9_ : Int) (A_.2.2.2.2 (40 * M_ + s9_)).toNat q2_ = .inr r_) ∨ (lx_kd b_ n_ q2_ = 2 ∧ A_.2.2.1 (40 * M_ + s9_) ≠ 5 ∧ ∃ u_, p_bp b_ n_ (A_.2.2.2.1 (40 * M_ + s9_)) q2_ = .inr u_ ∧ r_ = (u_, 1, [cw 11 (lx_vl b_ n_ q2_) 0, cw 9 (s9_ : Int) 0]))))) := by
  by_cases hf_ : p_fn b_ n_ A_ M_ p_ = -1
  · rw [na_0 hf_] at h_
    cases h_
  · obtain ⟨s9_, q1_, q2_, q3_, -⟩ := p_fn_b (b_ := b_) (n_ := n_) (A_ := A_) (m_ := M_) (p_ := p_) hf_
    cases hq_ : p_ad b_ n_ p_ with
    | inl e_ => rw [na_1 q1_ hq_] at h_; cases h_
    | inr q_ =>
      refine ⟨s9_, q_, q1_, q2_, rfl, ?_⟩
      by_cases k46_ : lx_kd b_ n_ q_ = 46
      · right
        refine ⟨k46_, ?_⟩
        cases hr_ : p_ad b_ n_ q_ with
        | inl e_ => rw [na_3 q1_ hq_ k46_ hr_] at h_; cases h_
        | inr u_ =>
          refine ⟨u_, rfl, ?_⟩
          by_cases k1_ : lx_kd b_ n_ u_ = 1
          · left
            rw [na_4 q1_ hq_ k46_ hr_ k1_] at h_
            split at h_
            · rename_i g_
              exact ⟨k1_, g_, h_⟩
            · cases h_
          · right
            by_cases k2_ : lx_kd b_ n_ u_ = 2
            · rw [na_5 q1_ hq_ k46_ hr_ k2_] at h_
              split at h_
              · cases h_
              · rename_i g_
                rw [bp_bi] at h_
                obtain ⟨v_, h5_, h6_⟩ := pb_inr h_
                cases h6_
                exact ⟨k2_, g_, v_, h5_, rfl⟩
            · rw [na_6 q1_ hq_ k46_ hr_ k1_ k2_] at h_
              cases h_
      · left
        rw [na_2 q1_ hq_ k46_] at h_
        split at h_
        · cases h_
        · rename_i g_
          cases h_
          exact ⟨k46_, g_, rfl⟩
