/-! the reference: items; written by wip/p55/gen/vg -/

/-! items -/
def z_is (b_ : Nat → Int) (n_ : Nat) (a_ : Nat × Nat × Int) : pE ((Nat × Nat × Int) × Nat) := pb (p_nd b_ n_ 59 a_.2.1) fun y_ => .inr (a_, y_)
def k_in (A_ : pA) (M_ : Nat) (c_ : List Int) (a_ : (Nat × Nat × Int) × Nat) : pT := (a_te A_ M_ a_.1.1 0 a_.1.2.2 0, c_, a_.2)
theorem in_eq {b_ : Nat → Int} {n_ M_ p_ : Nat} {A_ : pA} {c_ : List Int} : p_in b_ n_ A_ M_ c_ p_ = pb (pb (z_wi b_ n_ A_ M_ p_) (z_is b_ n_)) fun a_ => .inr (k_in A_ M_ c_ a_) := by
  unfold p_in z_wi z_nw
  simp only [pb_as, pb_ir]
  refine congrArg (pb (p_ad b_ n_ p_)) (funext fun q_ => congrArg (pb _) (funext fun r_ => congrArg (pb _) (funext fun u_ => ?_)))
  show _ = pb (z_is b_ n_ (q_, u_)) _
  unfold z_is
  rw [pb_as]
  rfl
theorem in_ok {b_ : Nat → Int} {n_ M_ p_ : Nat} {A_ : pA} {c_ : List Int} {r_ : pT} (hA_ : a_ok b_ n_ A_ M_) (hp_ : p_ ≤ n_) (hk_ : lx_kd b_ n_ p_ ≠ 0) (hc_ : c_.length ≤ 3 * p_) (h_ : p_in b_ n_ A_ M_ c_ p_ = .inr r_) : a_ok b_ n_ r_.1 M_ ∧ r_.2.1.length ≤ 3 * r_.2.2 ∧ p_ < r_.2.2 := by
  rw [in_eq] at h_
  obtain ⟨a_, h1_, h_⟩ := pb_inr h_
  cases h_
  obtain ⟨a0_, h3_, h1_⟩ := pb_inr h1_
  obtain ⟨y_, h5_, h1_⟩ := pb_inr h1_
  cases h1_
  have k1_ := z_wi_ok hp_ hk_ h3_
  have k3_ := nd_ok k1_.2.2.2.1 (by decide) h5_
  have k5_ := (hA_.2 M_ (Nat.le_refl M_)).1
  have k6_ := k1_.2.1
  have k7_ : a0_.2.1 < y_ := k3_.1
  have k8_ := k1_.2.2.1
  refine ⟨a_te_ok hA_ (by omega) k1_.1 (by decide) ⟨by have := k1_.2.2.2.2.2.1; show (0 : Int) ≤ a0_.2.2; omega, k1_.2.2.2.2.2.2⟩ (fun _ => k1_.2.2.2.2.2.1) (fun z_ => absurd z_ (by decide)) (by decide), ?_, ?_⟩
  · show c_.length ≤ 3 * y_
    omega
  · show p_ < y_
    omega
def p_i2 (b_ : Nat → Int) (n_ : Nat) (A_ : pA) (N_ : Nat → Nat) (M_ : Nat) (c_ : List Int) (p_ : Nat) : pE pT := (p_it b_ n_ A_ N_ M_ c_ p_).getD (.inl (2, p_))
theorem i2_1 {b_ : Nat → Int} {n_ M_ p_ : Nat} {A_ : pA} {N_ : Nat → Nat} {c_ : List Int} (h_ : lx_kd b_ n_ p_ = 4) : p_i2 b_ n_ A_ N_ M_ c_ p_ = p_in b_ n_ A_ M_ c_ p_ := by
  unfold p_i2 p_it
  rw [if_pos h_]
  rfl
theorem i2_2 {b_ : Nat → Int} {n_ M_ p_ : Nat} {A_ : pA} {N_ : Nat → Nat} {c_ : List Int} (h_ : lx_kd b_ n_ p_ = 5) : p_i2 b_ n_ A_ N_ M_ c_ p_ = p_va b_ n_ A_ M_ 1 c_ p_ := by
  unfold p_i2 p_it
  rw [if_neg (by omega), if_pos h_]
  rfl
theorem i2_3 {b_ : Nat → Int} {n_ M_ p_ : Nat} {A_ : pA} {N_ : Nat → Nat} {c_ : List Int} (h_ : lx_kd b_ n_ p_ = 6) : p_i2 b_ n_ A_ N_ M_ c_ p_ = p_va b_ n_ A_ M_ 2 c_ p_ := by
  unfold p_i2 p_it
  rw [if_neg (by omega), if_neg (by omega), if_pos h_]
  rfl
theorem i2_4 {b_ : Nat → Int} {n_ M_ p_ : Nat} {A_ : pA} {N_ : Nat → Nat} {c_ : List Int} (h_ : lx_kd b_ n_ p_ = 7) : p_i2 b_ n_ A_ N_ M_ c_ p_ = p_re b_ n_ A_ M_ c_ p_ := by
  unfold p_i2 p_it
  rw [if_neg (by omega), if_neg (by omega), if_neg (by omega), if_pos h_]
  rfl
theorem i2_5 {b_ : Nat → Int} {n_ M_ p_ : Nat} {A_ : pA} {N_ : Nat → Nat} {c_ : List Int} (h_ : lx_kd b_ n_ p_ = 8) : p_i2 b_ n_ A_ N_ M_ c_ p_ = p_us b_ n_ A_ N_ M_ c_ p_ := by
  unfold p_i2 p_it
  rw [if_neg (by omega), if_neg (by omega), if_neg (by omega), if_neg (by omega), if_pos h_]
  rfl
theorem i2_6 {b_ : Nat → Int} {n_ M_ p_ : Nat} {A_ : pA} {N_ : Nat → Nat} {c_ : List Int} (h_ : ∀ k_ : Int, 4 ≤ k_ → k_ ≤ 8 → lx_kd b_ n_ p_ ≠ k_) : p_i2 b_ n_ A_ N_ M_ c_ p_ = if lx_kd b_ n_ p_ = 1 then p_ne b_ n_ A_ M_ c_ p_ else .inl (2, p_) := by
  unfold p_i2 p_it
  rw [if_neg (h_ 4 (by decide) (by decide)), if_neg (h_ 5 (by decide) (by decide)), if_neg (h_ 6 (by decide) (by decide)), if_neg (h_ 7 (by decide) (by decide)), if_neg (h_ 8 (by decide) (by decide))]
  split <;> rfl
theorem i2_ok {b_ : Nat → Int} {n_ M_ p_ : Nat} {A_ : pA} {N_ : Nat → Nat} {c_ : List Int} {r_ : pT} (hn_ : n_ ≤ 1280) (hA_ : a_ok b_ n_ A_ M_) (hp_ : p_ ≤ n_) (hc_ : c_.length ≤ 3 * p_) (h_ : p_i2 b_ n_ A_ N_ M_ c_ p_ = .inr r_) : p_ < r_.2.2 := by
  by_cases g4_ : lx_kd b_ n_ p_ = 4
  · rw [i2_1 g4_] at h_; exact (in_ok hA_ hp_ (by omega) hc_ h_).2.2
  · by_cases g5_ : lx_kd b_ n_ p_ = 5
    · rw [i2_2 g5_] at h_; exact (va_ok hn_ hA_ (by decide) hp_ (by omega) hc_ h_).2.2
    · by_cases g6_ : lx_kd b_ n_ p_ = 6
      · rw [i2_3 g6_] at h_; exact (va_ok hn_ hA_ (by decide) hp_ (by omega) hc_ h_).2.2
      · by_cases g7_ : lx_kd b_ n_ p_ = 7
        · rw [i2_4 g7_] at h_; exact (re_ok hA_ hp_ (by omega) hc_ h_).2.2
        · by_cases g8_ : lx_kd b_ n_ p_ = 8
          · rw [i2_5 g8_] at h_; exact (us_ok hn_ hA_ hp_ (by omega) hc_ h_).2.2
          · rw [i2_6 (fun k_ h1_ h2_ => by omega)] at h_
            exact (ne_ok hn_ hA_ hp_ hc_ h_).2.2.1
