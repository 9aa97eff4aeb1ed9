/-! the class: operating; written by wip/p55/gen/vg -/

/-! operating -/
theorem map_mid {f_ : Int → Int} {e_ r_ : List Int} {a_ : Int} : (e_ ++ [a_]).map f_ ++ r_ = (e_.map f_ ++ [f_ a_]) ++ r_ := by
  rw [List.map_append]
  rfl
theorem g_sa_c {F_ : Nat} {G_ : pGr} {a_ b_ : Int} {x_ y_ : List Int} : g_sa F_ G_ (a_ :: x_) (b_ :: y_) = ([(g_s1 F_ (g_xo F_ G_ a_ b_).2 (i_xor (g_xo F_ G_ a_ b_).1 1) x_ y_).1], (g_s1 F_ (g_xo F_ G_ a_ b_).2 (i_xor (g_xo F_ G_ a_ b_).1 1) x_ y_).2) := rfl
theorem g_bw3 {F_ : Nat} : g_bw F_ 3 = g_an F_ := if_pos rfl
theorem g_bw1 {F_ : Nat} : g_bw F_ 1 = g_or F_ := by
  unfold g_bw
  rw [if_neg (by decide), if_pos rfl]
theorem g_bw2 {F_ : Nat} {k_ : Int} (h3_ : k_ ≠ 3) (h1_ : k_ ≠ 1) : g_bw F_ k_ = g_xo F_ := by
  unfold g_bw
  rw [if_neg h3_, if_neg h1_]
