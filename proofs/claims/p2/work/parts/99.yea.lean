/-! the reference: operands; written by wip/p55/gen/vg -/

/-! operands -/
theorem wl_op {b_ : Nat → Int} {n_ T_ i_ p_ : Nat} {t_ : Bool} {o_ : List (Int × Nat)} {w_ : List (Int × Int)} (h_ : wt b_ n_ T_ t_ o_ w_) (hp_ : rtp b_ n_ T_ (i_ : Int) p_) : wl b_ n_ T_ ((if t_ = true then -2 else -1, p_) :: o_) ((40, (i_ : Int)) :: w_) := by
  refine ⟨(i_ : Int), w_, ?_, hp_, ?_⟩
  · cases t_ <;> rfl
  · rcases h_ with ⟨h1_, h2_⟩ | ⟨u_, h1_, h2_⟩
    · subst h1_
      exact Or.inl ⟨by decide, h2_⟩
    · right
      refine ⟨by cases t_ <;> decide, u_, ?_, h2_⟩
      rw [h1_]
      cases t_ <;> rfl
theorem ws_top {z_ : Int} {y_ : Int × Int} {u_ : List (Int × Int)} {k_ : Nat} {S_ : sm_S} (h_ : ws (y_ :: u_) S_) (hk_ : k_ = u_.length) : ws ((y_.1, z_) :: u_) (sm_aI S_ 137 0 k_ z_) := by
  refine ⟨h_.1, ?_, ?_⟩
  · exact stk_ot h_.2.1 (by decide)
  · exact stk_pu (by rw [List.length_map]; exact hk_) rfl h_.2.2.2
theorem rp_rtp {b_ : Nat → Int} {n_ T_ i_ p_ : Nat} {S_ : sm_S} (ht_ : rtab b_ n_ T_ S_) (h_ : rp b_ n_ T_ i_ p_) (hk_ : lx_kd b_ n_ p_ ≠ 0) : rtp b_ n_ T_ (i_ : Int) p_ := by
  have h1_ := rp_at ht_ h_
  have h2_ : p_ < n_ := by
    by_cases g_ : p_ < n_
    · exact g_
    · exfalso
      apply hk_
      rw [show p_ = n_ by have := h1_.2.2.2.1; omega]
      exact lx_kd_n
  exact ⟨i_, rfl, h1_.2.2.2.2.1.mpr h2_, h_.2.1, h2_⟩
def r_en (b_ : Nat → Int) (n_ T_ : Nat) (mo_ : Int) (A_ : pA) (M_ K_ : Nat) (f_ : Nat → Nat) (S_ : sm_S) : Prop := (mo_ = 0 → a_ok b_ n_ A_ M_ ∧ S_.1 13 0 28 = (M_ : Int) ∧ ∀ m_, m_ ≤ M_ → re1 b_ n_ T_ A_ m_ S_) ∧ (mo_ = 2 → inr_ b_ n_ T_ K_ f_ S_)
theorem vs_137 {mo_ z_ : Int} {k_ : Nat} {g_ : List Int} {S_ : sm_S} (h_ : vs mo_ g_ S_) : vs mo_ g_ (sm_aI S_ 137 0 k_ z_) := ⟨h_.1, fun q_ => stk_ot (h_.2.1 q_) (by decide), fun q_ => stk_8o (h_.2.2 q_) (by decide)⟩
theorem vs_pu {mo_ x_ : Int} {g_ : List Int} {S'_ : sm_S} (h0_ : S'_.1 13 0 34 = (g_.length : Int) + 1) (h1_ : mo_ ≠ 2 → stk (S'_.2.2.1 138 0) (x_ :: g_)) (h2_ : mo_ = 2 → stk (fun j_ => S'_.2.2.1 139 0 (8 * j_)) (x_ :: g_)) : vs mo_ (x_ :: g_) S'_ := ⟨by rw [h0_, List.length_cons]; push_cast; rfl, h1_, h2_⟩
theorem x1_b : i_xor 1 1 = 0 ∧ i_xor 0 1 = 1 := by decide +kernel
