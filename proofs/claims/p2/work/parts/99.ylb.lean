/-! values -/
def z_nw (b_ : Nat → Int) (n_ : Nat) (A_ : pA) (M_ p_ : Nat) : pE (Nat × Nat) := pb (p_ad b_ n_ p_) fun q_ => pb (p_nw b_ n_ A_ M_ q_) fun r_ => .inr (q_, r_)
def z_wi (b_ : Nat → Int) (n_ : Nat) (A_ : pA) (M_ p_ : Nat) : pE (Nat × Nat × Int) := pb (z_nw b_ n_ A_ M_ p_) fun a_ => pb (p_wi b_ n_ a_.2) fun u_ => .inr (a_.1, u_)
theorem z_nw_ok {b_ : Nat → Int} {n_ M_ p_ : Nat} {A_ : pA} {a_ : Nat × Nat} (hp_ : p_ ≤ n_) (hk_ : lx_kd b_ n_ p_ ≠ 0) (h_ : z_nw b_ n_ A_ M_ p_ = .inr a_) : nmp b_ n_ a_.1 ∧ A_.1 M_ ≠ 40 ∧ p_ < a_.1 ∧ a_.1 < a_.2 ∧ a_.2 ≤ n_ ∧ lx_kd b_ n_ a_.2 ≠ -1 := by
  obtain ⟨q_, h1_, h_⟩ := pb_inr h_
  obtain ⟨r_, h2_, h_⟩ := pb_inr h_
  cases h_
  have k1_ := p_ad_ok hp_ hk_ h1_
  have k2_ := nw_ok h2_
  have k3_ := p_ad_ok k1_.2.2.1 (by omega) k2_.2.2
  exact ⟨⟨k1_.2.2.1, k2_.1⟩, k2_.2.1, k1_.2.1, k3_.2.1, k3_.2.2.1, k3_.2.2.2⟩
theorem z_wi_ok {b_ : Nat → Int} {n_ M_ p_ : Nat} {A_ : pA} {a_ : Nat × Nat × Int} (hp_ : p_ ≤ n_) (hk_ : lx_kd b_ n_ p_ ≠ 0) (h_ : z_wi b_ n_ A_ M_ p_ = .inr a_) : nmp b_ n_ a_.1 ∧ A_.1 M_ ≠ 40 ∧ p_ + 1 < a_.2.1 ∧ a_.2.1 ≤ n_ ∧ lx_kd b_ n_ a_.2.1 ≠ -1 ∧ 1 ≤ a_.2.2 ∧ a_.2.2 ≤ 8 := by
  obtain ⟨q_, h1_, h_⟩ := pb_inr h_
  obtain ⟨r_, h2_, h_⟩ := pb_inr h_
  cases h_
  have k1_ := z_nw_ok hp_ hk_ h1_
  have k2_ := p_wi_ok k1_.2.2.2.2.1 k1_.2.2.2.2.2 h2_
  have k3_ := k1_.2.2.1
  have k4_ := k1_.2.2.2.1
  exact ⟨k1_.1, k1_.2.1, by show p_ + 1 < r_.1; omega, k2_.2.1, k2_.2.2.1, k2_.2.2.2⟩
abbrev pV : Type := (Nat × Nat × Int) × pR
def z_va (b_ : Nat → Int) (n_ : Nat) (A_ : pA) (M_ : Nat) (c_ : List Int) (p_ : Nat) : pE pV := pb (z_wi b_ n_ A_ M_ p_) fun a_ => pb (p_nd b_ n_ 61 a_.2.1) fun v_ => pb (p_xd b_ n_ A_ M_ c_ v_) fun x_ => .inr (a_, x_)
def z_vw (a_ : pV) : pE pV := if h_tp a_.2.2.1 = a_.1.2.2 then .inr a_ else .inl (13, a_.1.2.1)
def z_vs (b_ : Nat → Int) (n_ : Nat) (a_ : pV) : pE (pV × Nat) := pb (p_nd b_ n_ 59 a_.2.1) fun y_ => .inr (a_, y_)
def k_va (A_ : pA) (M_ : Nat) (so_ : Int) (a_ : pV × Nat) : pT := (a_te A_ M_ a_.1.1.1 so_ a_.1.1.2.2 0, cw 12 (A_.1 M_) 0 :: a_.1.2.2.2, a_.2)
theorem va_eq {b_ : Nat → Int} {n_ M_ p_ : Nat} {A_ : pA} {so_ : Int} {c_ : List Int} : p_va b_ n_ A_ M_ so_ c_ p_ = pb (pb (pb (z_va b_ n_ A_ M_ c_ p_) z_vw) (z_vs b_ n_)) fun a_ => .inr (k_va A_ M_ so_ a_) := by
  unfold p_va z_va z_wi z_nw
  simp only [pb_as, pb_ir]
  refine congrArg (pb (p_ad b_ n_ p_)) (funext fun q_ => congrArg (pb _) (funext fun r_ => congrArg (pb _) (funext fun u_ => congrArg (pb _) (funext fun v_ => congrArg (pb _) (funext fun x_ => ?_)))))
  unfold z_vw
  show _ = pb (if h_tp x_.2.1 = u_.2 then .inr ((q_, u_), x_) else .inl (13, u_.1)) _
  by_cases g_ : h_tp x_.2.1 = u_.2
  · rw [if_pos g_, if_pos g_]
    show _ = pb (pb (p_nd b_ n_ 59 x_.1) fun y_ => .inr (((q_, u_), x_), y_)) _
    rw [pb_as]
    rfl
  · rw [if_neg g_, if_neg g_]
    rfl
theorem va_ok {b_ : Nat → Int} {n_ M_ p_ : Nat} {A_ : pA} {so_ : Int} {c_ : List Int} {r_ : pT} (hn_ : n_ ≤ 1280) (hA_ : a_ok b_ n_ A_ M_) (hso_ : 0 ≤ so_ ∧ so_ ≤ 2) (hp_ : p_ ≤ n_) (hk_ : lx_kd b_ n_ p_ ≠ 0) (hc_ : c_.length ≤ 3 * p_) (h_ : p_va b_ n_ A_ M_ so_ c_ p_ = .inr r_) : a_ok b_ n_ r_.1 M_ ∧ r_.2.1.length ≤ 3 * r_.2.2 ∧ p_ < r_.2.2 := by
  rw [va_eq] at h_
  obtain ⟨a_, h1_, h_⟩ := pb_inr h_
  cases h_
  obtain ⟨a1_, h2_, h1_⟩ := pb_inr h1_
  obtain ⟨a0_, h3_, h2_⟩ := pb_inr h2_
  obtain ⟨a2_, h4_, h3_⟩ := pb_inr h3_
  obtain ⟨v_, h5_, h3_⟩ := pb_inr h3_
  obtain ⟨x_, h6_, h3_⟩ := pb_inr h3_
  cases h3_
  have k1_ := z_wi_ok hp_ hk_ h4_
  have k2_ := nd_ok k1_.2.2.2.1 (by decide) h5_
  have k3_ := xd_ok hn_ hA_ k2_.2.1 k2_.2.2.1 (by omega) h6_
  unfold z_vw at h2_
  split at h2_
  · cases h2_
    obtain ⟨y_, h7_, h1_⟩ := pb_inr h1_
    cases h1_
    have k4_ := nd_ok k3_.2.1 (by decide) h7_
    have k5_ := (hA_.2 M_ (Nat.le_refl M_)).1
    have k6_ := k1_.2.1
    refine ⟨a_te_ok hA_ (by omega) k1_.1 (by omega) ⟨by have := k1_.2.2.2.2.2.1; show (0 : Int) ≤ a2_.2.2; omega, k1_.2.2.2.2.2.2⟩ (fun _ => k1_.2.2.2.2.2.1) (fun z_ => by omega) (by decide), ?_, ?_⟩
    · show x_.2.2.length + 1 ≤ 3 * y_
      have := k3_.2.2.2.2.2
      have : x_.1 < y_ := k4_.1
      omega
    · show p_ < y_
      have : x_.1 < y_ := k4_.1
      have := k3_.1
      have := k2_.1
      have := k1_.2.2.1
      omega
  · cases h2_
