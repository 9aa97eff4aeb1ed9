/-! the reference: values told; written by wip/p55/gen/vg -/

/-! chains -/
theorem pb_as {α β γ : Type} {z_ : pE α} {f_ : α → pE β} {g_ : β → pE γ} : pb (pb z_ f_) g_ = pb z_ fun a_ => pb (f_ a_) g_ := by cases z_ <;> rfl
theorem pb_ir {α β : Type} {a_ : α} {f_ : α → pE β} : pb (.inr a_) f_ = f_ a_ := rfl
theorem pb_il {α β : Type} {e_ : Int × Nat} {f_ : α → pE β} : pb (.inl e_) f_ = .inl e_ := rfl
theorem pb_id {α : Type} {z_ : pE α} : (pb z_ fun a_ => .inr a_) = z_ := by cases z_ <;> rfl
theorem pb_it {α β : Type} {c_ : Prop} [Decidable c_] {x_ y_ : pE α} {f_ : α → pE β} : pb (if c_ then x_ else y_) f_ = if c_ then pb x_ f_ else pb y_ f_ := by split <;> rfl
theorem rg_pb {α β : Type} {b_ : Nat → Int} {n_ T_ : Nat} {z_ : pE α} {f_ : α → pE β} {ps_ : α → Nat} {pt_ : β → Nat} {g_ : Nat → pE Nat} {S_ : sm_S} (h_ : rg b_ n_ T_ (pb (pb z_ fun a_ => .inr (ps_ a_)) g_) S_) (hg_ : ∀ a_, z_ = .inr a_ → g_ (ps_ a_) = pb (f_ a_) fun r_ => .inr (pt_ r_)) : rg b_ n_ T_ (pb (pb z_ f_) fun r_ => .inr (pt_ r_)) S_ := by
  cases z_ with
  | inl e_ => exact h_
  | inr a_ =>
    have h1_ : rg b_ n_ T_ (g_ (ps_ a_)) S_ := h_
    rw [hg_ a_ rfl] at h1_
    exact h1_
theorem rg_at {α : Type} {b_ : Nat → Int} {n_ T_ : Nat} {z_ : pE α} {ps_ : α → Nat} {S_ : sm_S} {a_ : α} (h_ : rg b_ n_ T_ (pb z_ fun a_ => .inr (ps_ a_)) S_) (e_ : z_ = .inr a_) : rg b_ n_ T_ (.inr (ps_ a_)) S_ := by
  subst e_
  exact h_
theorem rg_le {b_ : Nat → Int} {n_ T_ p_ : Nat} {S_ : sm_S} (ht_ : rtab b_ n_ T_ S_) (h_ : rg b_ n_ T_ (.inr p_) S_) : p_ ≤ n_ ∧ lx_kd b_ n_ p_ ≠ -1 ∧ S_.2.2.1 120 0 (S_.1 13 0 9).toNat = (p_ : Int) := by
  obtain ⟨i_, h1_, h2_⟩ := h_.2
  have h3_ := rp_at ht_ h2_
  exact ⟨h3_.2.2.2.1, h2_.2.2.1, by rw [show (S_.1 13 0 9).toNat = i_ by omega]; exact h3_.2.1⟩
theorem rg_rt {α : Type} {b_ : Nat → Int} {n_ T_ : Nat} {z_ : pE α} {ps_ : α → Nat} {S_ : sm_S} (h_ : rg b_ n_ T_ (pb z_ fun a_ => .inr (ps_ a_)) S_) (h0_ : S_.1 13 0 10 = 0) : ∃ a_, z_ = .inr a_ := by
  cases z_ with
  | inl e_ => exact absurd (h_.1.symm.trans h0_) h_.2.2
  | inr a_ => exact ⟨a_, rfl⟩
theorem rg_wr {α : Type} {b_ : Nat → Int} {n_ T_ : Nat} {z_ : pE α} {ps_ : α → Nat} {S_ : sm_S} (h_ : rg b_ n_ T_ (pb z_ fun a_ => .inr (ps_ a_)) S_) (h0_ : S_.1 13 0 10 ≠ 0) : ∃ e_, z_ = .inl e_ := by
  cases z_ with
  | inl e_ => exact ⟨e_, rfl⟩
  | inr a_ => exact absurd h_.1 h0_
/-- a_ flaw that names a_ place -/
theorem rg_fb {α : Type} {b_ : Nat → Int} {n_ T_ : Nat} {z_ : pE α} {ps_ : α → Nat} {f_ : α → pE α} {S_ S'_ : sm_S} {fl_ : Int} {pl_ : Nat} (h_ : rg b_ n_ T_ (pb z_ fun a_ => .inr (ps_ a_)) S_) (h0_ : S_.1 13 0 10 = 0) (hf_ : ∀ a_, z_ = .inr a_ → f_ a_ = .inl (fl_, pl_)) (hfl_ : fl_ ≠ 0) (h1_ : (S_.1 13 0 10 ≠ 0 ∧ S'_.1 13 0 10 = S_.1 13 0 10 ∧ S'_.1 13 0 11 = S_.1 13 0 11) ∨ (S_.1 13 0 10 = 0 ∧ S'_.1 13 0 10 = fl_ ∧ S'_.1 13 0 11 = (pl_ : Int))) : rg b_ n_ T_ (pb (pb z_ f_) fun a_ => .inr (ps_ a_)) S'_ := by
  obtain ⟨a_, rfl⟩ := rg_rt h_ h0_
  rcases h1_ with w_ | w_
  · exact absurd h0_ w_.1
  · show rg b_ n_ T_ (pb (f_ a_) fun a_ => .inr (ps_ a_)) S'_
    rw [hf_ a_ rfl]
    exact ⟨w_.2.1, w_.2.2, hfl_⟩
theorem rg_ok {α : Type} {b_ : Nat → Int} {n_ T_ : Nat} {z_ : pE α} {ps_ : α → Nat} {f_ : α → pE α} {S_ : sm_S} (h_ : rg b_ n_ T_ (pb z_ fun a_ => .inr (ps_ a_)) S_) (hf_ : ∀ a_, z_ = .inr a_ → f_ a_ = .inr a_) : rg b_ n_ T_ (pb (pb z_ f_) fun a_ => .inr (ps_ a_)) S_ := by
  cases z_ with
  | inl e_ => exact h_
  | inr a_ =>
    show rg b_ n_ T_ (pb (f_ a_) fun a_ => .inr (ps_ a_)) S_
    rw [hf_ a_ rfl]
    exact h_
theorem nd_ok {b_ : Nat → Int} {n_ p_ q_ : Nat} {s_ : Int} (hp_ : p_ ≤ n_) (hs_ : s_ ≠ 0) (h_ : p_nd b_ n_ s_ p_ = .inr q_) : p_ < q_ ∧ q_ ≤ n_ ∧ lx_kd b_ n_ q_ ≠ -1 ∧ lx_kd b_ n_ p_ = s_ := by
  unfold p_nd at h_
  split at h_
  · rename_i g_
    have := p_ad_ok hp_ (by omega) h_
    exact ⟨this.2.1, this.2.2.1, this.2.2.2, g_⟩
  · cases h_
theorem nw_ok {b_ : Nat → Int} {n_ M_ p_ r_ : Nat} {A_ : pA} (h_ : p_nw b_ n_ A_ M_ p_ = .inr r_) : lx_kd b_ n_ p_ = 1 ∧ A_.1 M_ ≠ 40 ∧ p_ad b_ n_ p_ = .inr r_ := by
  unfold p_nw p_nn at h_
  split at h_
  · rename_i g_
    split at h_
    · split at h_
      · cases h_
      · rename_i g2_
        exact ⟨g_, by omega, h_⟩
    · cases h_
  · cases h_
/-- between the_ items of_ a_ module -/
def rm (b_ : Nat → Int) (n_ T_ M_ : Nat) (y_ : pE pT) (S_ : sm_S) : Prop := rg b_ n_ T_ (pb y_ fun r_ => .inr r_.2.2) S_ ∧ ∀ r_, y_ = .inr r_ → a_ok b_ n_ r_.1 M_ ∧ (∀ m_, m_ ≤ M_ → re1 b_ n_ T_ r_.1 m_ S_) ∧ (∀ m_, m_ ≤ M_ → rs1 r_.1 m_ S_) ∧ r_.2.1.length ≤ 3 * r_.2.2
theorem rs1_fr {w_ : sx_Wl} {A_ : pA} {m_ : Nat} {S_ S'_ : sm_S} (h_ : rs1 A_ m_ S_) (g_ : ai_fr (sx_W w_) S_ S'_) (h0_ : (sx_W w_).2.1 132 = false) (h1_ : (sx_W w_).2.1 133 = false) (h2_ : (sx_W w_).2.1 134 = false) (h3_ : (sx_W w_).2.1 135 = false) : rs1 A_ m_ S'_ := by
  unfold rs1 at h_ ⊢
  rw [fr_arr g_ h0_, fr_arr g_ h1_, fr_arr g_ h2_, fr_arr g_ h3_]
  exact h_
theorem xd_0 {b_ : Nat → Int} {n_ M_ K_ p_ : Nat} {A_ : pA} {f_ : Nat → Nat} {c_ : List Int} : p_ex b_ n_ (mdo 0) (p_pm b_ n_ (mdo 0) A_ M_ K_ f_) c_ p_ = p_xd b_ n_ A_ M_ c_ p_ := by
  unfold p_xd p_pm
  rw [show mdo 0 = false from rfl, if_neg (by decide)]
theorem pm_0 {b_ : Nat → Int} {n_ M_ K_ : Nat} {A_ : pA} {f_ : Nat → Nat} (h_ : a_ok b_ n_ A_ M_) : pr_ok b_ n_ (p_pm b_ n_ (mdo 0) A_ M_ K_ f_) := by
  unfold p_pm
  rw [show mdo 0 = false from rfl, if_neg (by decide)]
  exact pd_ok h_
theorem xd_ok {b_ : Nat → Int} {n_ M_ p_ : Nat} {A_ : pA} {c_ : List Int} {r_ : pR} (hn_ : n_ ≤ 1280) (hA_ : a_ok b_ n_ A_ M_) (hp_ : p_ ≤ n_) (hk_ : lx_kd b_ n_ p_ ≠ -1) (hc_ : c_.length ≤ 3 * p_) (e_ : p_xd b_ n_ A_ M_ c_ p_ = .inr r_) : p_ < r_.1 ∧ r_.1 ≤ n_ ∧ lx_kd b_ n_ r_.1 ≠ -1 ∧ r_.2.1.length = 1 ∧ h_ok r_.2.1 ∧ r_.2.2.length ≤ 3 * r_.1 := pex_ok hn_ (pd_ok hA_) hp_ hk_ hc_ e_
theorem en_0 {b_ : Nat → Int} {n_ T_ M_ K_ : Nat} {A_ : pA} {f_ : Nat → Nat} {S_ : sm_S} (h1_ : a_ok b_ n_ A_ M_) (h2_ : S_.1 13 0 28 = (M_ : Int)) (h3_ : ∀ m_, m_ ≤ M_ → re1 b_ n_ T_ A_ m_ S_) : r_en b_ n_ T_ 0 A_ M_ K_ f_ S_ := ⟨fun _ => ⟨h1_, h2_, h3_⟩, fun z_ => absurd z_ (by decide)⟩
theorem vs_1 {g_ : List Int} {S_ : sm_S} (h_ : vs 0 g_ S_) (h1_ : g_.length = 1) : S_.2.2.1 138 0 0 = h_tp g_ := by
  cases g_ with
  | nil => cases h1_
  | cons a_ l_ =>
    cases l_ with
    | nil => exact (h_.2.1 (by decide)).1
    | cons a2_ l2_ => simp only [List.length_cons] at h1_; omega
