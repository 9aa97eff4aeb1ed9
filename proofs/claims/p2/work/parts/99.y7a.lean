/-! the reference: turning; written by wip/p55/gen/vg -/

/-! turning -/
theorem ti_f {md_ : Bool} {h_ c_ : List Int} : (p_ti md_ false h_ c_).1 = h_ := rfl
theorem ti_t {mo_ x_ : Int} {g_ c_ : List Int} : (p_ti (mdo mo_) true (x_ :: g_) c_).1 = (if mo_ = 2 then i_xor x_ 255 else x_) :: g_ := by
  unfold p_ti p_tn mdo
  rw [if_pos rfl]
  by_cases z_ : mo_ = 2
  · rw [if_pos (decide_eq_true z_), if_pos z_]
  · rw [if_neg (by rw [decide_eq_false z_]; decide), if_neg z_]
theorem wt_tp {b_ : Nat → Int} {n_ T_ : Nat} {md_ t_ : Bool} {o_ : List (Int × Nat)} {w_ : List (Int × Int)} (h_ : wt b_ n_ T_ t_ o_ w_) (ho_ : o_ok md_ o_) : (w_tp w_ = 33 → ∃ u_, w_ = (33, if t_ = true then 1 else 0) :: u_ ∧ wl b_ n_ T_ o_ u_) ∧ (w_tp w_ ≠ 33 → t_ = false ∧ wl b_ n_ T_ o_ w_) := by
  rcases h_ with h_ | ⟨u_, h1_, h2_⟩
  · exact ⟨fun z_ => absurd z_ (wl_tp h_.2 ho_).1, fun _ => h_⟩
  · exact ⟨fun _ => ⟨u_, h1_, h2_⟩, fun z_ => absurd (by rw [h1_]; rfl) z_⟩
theorem ws_pop {y_ : Int × Int} {u_ : List (Int × Int)} {S_ S'_ : sm_S} (h_ : ws (y_ :: u_) S_) (h0_ : S'_.1 13 0 32 = S_.1 13 0 32 - 1) (h1_ : S'_.2.2.1 136 0 = S_.2.2.1 136 0) (h2_ : S'_.2.2.1 137 0 = S_.2.2.1 137 0) : ws u_ S'_ := by
  refine ⟨?_, by rw [h1_]; exact h_.2.1.2, by rw [h2_]; exact h_.2.2.2⟩
  rw [h0_, h_.1, List.length_cons]
  push_cast
  omega
/-- one_ literal of_ eight is_ turned -/
theorem vs_8 {mo_ x_ : Int} {g_ : List Int} {k_ i_ : Nat} {z_ : Int} {S_ : sm_S} (h0_ : S_.1 13 0 34 = (g_.length : Int) + 1) (h1_ : mo_ ≠ 2 → stk (S_.2.2.1 138 0) (x_ :: g_)) (h2_ : mo_ = 2 → stk (fun j_ => S_.2.2.1 139 0 (8 * j_)) ((if k_ = 0 then x_ else i_xor x_ 255) :: g_)) (hk_ : k_ < 8) (hi_ : i_ = 8 * g_.length + k_) (hz_ : mo_ = 2 → k_ = 0 → z_ = i_xor x_ 255) : (mo_ ≠ 2 → stk ((sm_aI S_ 139 0 i_ z_).2.2.1 138 0) (x_ :: g_)) ∧ (mo_ = 2 → stk (fun j_ => (sm_aI S_ 139 0 i_ z_).2.2.1 139 0 (8 * j_)) ((if k_ + 1 = 0 then x_ else i_xor x_ 255) :: g_)) := by
  refine ⟨fun q_ => stk_ot (h1_ q_) (by decide), fun q_ => ?_⟩
  have h3_ := h2_ q_
  rw [if_neg (by omega)]
  by_cases e_ : k_ = 0
  · rw [if_pos e_] at h3_
    exact stk_8p (by omega) (hz_ q_ e_) h3_.2
  · rw [if_neg e_] at h3_
    refine stk_cg (fun j_ hj_ => ?_) h3_
    show (sm_aI S_ 139 0 i_ z_).2.2.1 139 0 (8 * j_) = _
    rw [rd_eq, if_neg (by simp only [List.length_cons] at hj_; omega)]
