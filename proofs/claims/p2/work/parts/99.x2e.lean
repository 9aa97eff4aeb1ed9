/-! switch -/
theorem sm_swb {x_ lo_ : Int} {ts_ : List Nat} {df_ : Nat} (ex_ : List Nat) (h_ : ((List.range ts_.length).all fun k_ => ex_.any (fun e_ => decide (e_ = k_)) || decide (ts_[k_]? = some df_)) = true) (hy_ : ∀ k_, k_ ∈ ex_ → x_ ≠ lo_ + (k_ : Nat)) : (if x_ < lo_ then none else ts_[(x_ - lo_).toNat]?).getD df_ = df_ := by
  by_cases g_ : x_ < lo_ ∨ lo_ + (ts_.length : Nat) ≤ x_
  · exact sm_swd g_
  · have h1_ := List.all_eq_true.mp h_ (x_ - lo_).toNat (List.mem_range.mpr (by omega))
    rw [if_neg (by omega)]
    simp only [Bool.or_eq_true, decide_eq_true_eq, List.any_eq_true] at h1_
    rcases h1_ with ⟨e_, he_, h2_⟩ | h1_
    · exfalso; exact hy_ e_ he_ (by omega)
    · rw [h1_]; rfl
