/-! the reference: registers told; written by wip/p55/gen/vg -/

/-! registers -/
theorem rb_w {b_ : Nat → Int} {n_ p_ : Nat} {w_ : Int} {e_ : Int × Nat} (hk_ : lx_kd b_ n_ p_ = 61) (h_ : pb (p_ad b_ n_ p_) (p_du b_ n_ 2) = .inl e_) : p_rb b_ n_ w_ p_ = .inl e_ := by
  unfold p_rb
  rw [if_pos hk_]
  cases h1_ : p_ad b_ n_ p_ with
  | inl z_ => rw [h1_] at h_; cases h_; rfl
  | inr q_ =>
    rw [h1_, pb_r rfl] at h_
    rw [pb_r rfl]
    unfold p_du at h_
    unfold p_nu
    split at h_
    · cases h_
    · rename_i g_
      cases h_
      rw [if_neg g_]
      rfl
theorem rb_r {b_ : Nat → Int} {n_ p_ q_ : Nat} {w_ : Int} (hk_ : lx_kd b_ n_ p_ = 61) (h_ : pb (p_ad b_ n_ p_) (p_du b_ n_ 2) = .inr q_) : lx_kd b_ n_ q_ = 2 ∧ p_rb b_ n_ w_ p_ = if lx_vl b_ n_ q_ < 0 ∨ 2 ^ w_.toNat - 1 < lx_vl b_ n_ q_ then .inl (12, q_) else pb (p_ad b_ n_ q_) fun r_ => .inr (r_, lx_vl b_ n_ q_) := by
  obtain ⟨r_, h1_, h2_⟩ := pb_inr h_
  unfold p_du at h2_
  split at h2_
  · rename_i g_
    cases h2_
    refine ⟨g_, ?_⟩
    unfold p_rb
    rw [if_pos hk_, pb_r h1_]
    unfold p_nu
    rw [if_pos g_]
    split <;> rfl
  · cases h2_
theorem rb_ok {b_ : Nat → Int} {n_ p_ : Nat} {w_ : Int} {z_ : Nat × Int} (hp_ : p_ ≤ n_) (hk_ : lx_kd b_ n_ p_ ≠ -1) (hw_ : 1 ≤ w_ ∧ w_ ≤ 8) (h_ : p_rb b_ n_ w_ p_ = .inr z_) : p_ ≤ z_.1 ∧ z_.1 ≤ n_ ∧ lx_kd b_ n_ z_.1 ≠ -1 ∧ 0 ≤ z_.2 ∧ z_.2 ≤ 255 := by
  unfold p_rb at h_
  split at h_
  · obtain ⟨q_, h1_, h_⟩ := pb_inr h_
    obtain ⟨x_, h2_, h_⟩ := pb_inr h_
    obtain ⟨r_, h3_, h_⟩ := pb_inr h_
    cases h_
    have k1_ := p_ad_ok hp_ (by omega) h1_
    have k2_ := p_nu_ok h2_
    have k3_ := p_ad_ok k1_.2.2.1 (by omega) h3_
    have k4_ := pw_8 w_.toNat (by omega)
    exact ⟨by show p_ ≤ r_; omega, k3_.2.2.1, k3_.2.2.2, k2_.2.2.1, by show x_ ≤ 255; omega⟩
  · cases h_
    exact ⟨Nat.le_refl _, hp_, hk_, by show (0 : Int) ≤ 0; decide, by show (0 : Int) ≤ 255; decide⟩
abbrev pG : Type := (Nat × Nat × Int) × (Nat × Int)
def z_rb (b_ : Nat → Int) (n_ : Nat) (a_ : Nat × Nat × Int) : pE pG := pb (p_rb b_ n_ a_.2.2 a_.2.1) fun z_ => .inr (a_, z_)
def z_re (b_ : Nat → Int) (n_ : Nat) (A_ : pA) (M_ p_ : Nat) : pE pG := pb (z_wi b_ n_ A_ M_ p_) (z_rb b_ n_)
def z_rs (b_ : Nat → Int) (n_ : Nat) (a_ : pG) : pE (pG × Nat) := pb (p_nd b_ n_ 59 a_.2.1) fun y_ => .inr (a_, y_)
def k_re (A_ : pA) (M_ : Nat) (c_ : List Int) (a_ : pG × Nat) : pT := (a_te A_ M_ a_.1.1.1 3 a_.1.1.2.2 a_.1.2.2, cw 13 (A_.1 M_) 0 :: c_, a_.2)
theorem re_eq {b_ : Nat → Int} {n_ M_ p_ : Nat} {A_ : pA} {c_ : List Int} : p_re b_ n_ A_ M_ c_ p_ = pb (pb (z_re b_ n_ A_ M_ p_) (z_rs b_ n_)) fun a_ => .inr (k_re A_ M_ c_ a_) := by
  unfold p_re z_re z_wi z_nw
  simp only [pb_as, pb_ir]
  refine congrArg (pb (p_ad b_ n_ p_)) (funext fun q_ => congrArg (pb _) (funext fun r_ => congrArg (pb _) (funext fun u_ => ?_)))
  unfold z_rb
  rw [pb_as]
  refine congrArg (pb _) (funext fun z_ => ?_)
  show _ = pb (z_rs b_ n_ ((q_, u_), z_)) _
  unfold z_rs
  rw [pb_as]
  rfl
theorem re_ok {b_ : Nat → Int} {n_ M_ p_ : Nat} {A_ : pA} {c_ : List Int} {r_ : pT} (hA_ : a_ok b_ n_ A_ M_) (hp_ : p_ ≤ n_) (hk_ : lx_kd b_ n_ p_ ≠ 0) (hc_ : c_.length ≤ 3 * p_) (h_ : p_re b_ n_ A_ M_ c_ p_ = .inr r_) : a_ok b_ n_ r_.1 M_ ∧ r_.2.1.length ≤ 3 * r_.2.2 ∧ p_ < r_.2.2 := by
  rw [re_eq] at h_
  obtain ⟨a_, h1_, h_⟩ := pb_inr h_
  cases h_
  obtain ⟨a1_, h2_, h1_⟩ := pb_inr h1_
  obtain ⟨a0_, h3_, h2_⟩ := pb_inr h2_
  obtain ⟨z_, h4_, h2_⟩ := pb_inr h2_
  cases h2_
  obtain ⟨y_, h5_, h1_⟩ := pb_inr h1_
  cases h1_
  have k1_ := z_wi_ok hp_ hk_ h3_
  have k2_ := rb_ok k1_.2.2.2.1 k1_.2.2.2.2.1 k1_.2.2.2.2.2 h4_
  have k3_ := nd_ok k2_.2.1 (by decide) h5_
  have k5_ := (hA_.2 M_ (Nat.le_refl M_)).1
  have k6_ := k1_.2.1
  have k7_ : z_.1 < y_ := k3_.1
  have k8_ := k1_.2.2.1
  have k9_ := k2_.1
  refine ⟨a_te_ok hA_ (by omega) k1_.1 (by decide) ⟨by have := k1_.2.2.2.2.2.1; show (0 : Int) ≤ a0_.2.2; omega, k1_.2.2.2.2.2.2⟩ (fun _ => k1_.2.2.2.2.2.1) (fun z_ => absurd z_ (by decide)) k2_.2.2.2, ?_, ?_⟩
  · show c_.length + 1 ≤ 3 * y_
    omega
  · show p_ < y_
    omega
theorem rg_il {α β : Type} {b_ : Nat → Int} {n_ T_ : Nat} {z_ : pE α} {f_ : α → pE β} {ps_ : α → Nat} {pt_ : β → Nat} {e_ : Int × Nat} {S_ : sm_S} (h_ : rg b_ n_ T_ (pb z_ fun a_ => .inr (ps_ a_)) S_) (he_ : z_ = .inl e_) : rg b_ n_ T_ (pb (pb z_ f_) fun r_ => .inr (pt_ r_)) S_ := by
  subst he_
  exact h_
theorem rg_st {α β : Type} {b_ : Nat → Int} {n_ T_ : Nat} {z_ : pE α} {f_ : α → pE β} {pt_ : β → Nat} {a_ : α} {x_ : pE Nat} {S_ : sm_S} (h_ : rg b_ n_ T_ x_ S_) (ha_ : z_ = .inr a_) (hf_ : (pb (f_ a_) fun r_ => .inr (pt_ r_)) = x_) : rg b_ n_ T_ (pb (pb z_ f_) fun r_ => .inr (pt_ r_)) S_ := by
  subst ha_
  show rg b_ n_ T_ (pb (f_ a_) fun r_ => .inr (pt_ r_)) S_
  rw [hf_]
  exact h_
