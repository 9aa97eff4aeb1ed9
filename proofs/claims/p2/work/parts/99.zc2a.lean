/-! the reference: joining; written by wip/p55/gen/vg -/

/-! joining -/
theorem rgl_st {F_ : Nat} {G_ : pGr} {S_ : sm_S} {k_ : Nat} {z_ : Int} (h_ : rgl F_ G_ S_) : rgl F_ G_ (sm_aI S_ 139 0 k_ z_) := rgl_fr (w_ := ([], [139], [])) h_ (ai_fr_aI rfl) rfl rfl rfl rfl rfl rfl
theorem rd_self {S_ : sm_S} {k_ j_ : Nat} : (sm_aI S_ 139 0 k_ (S_.2.2.1 139 0 k_)).2.2.1 139 0 j_ = S_.2.2.1 139 0 j_ := by
  rw [rd_eq]
  by_cases e_ : j_ = k_
  · rw [if_pos e_, e_]
  · rw [if_neg e_]
