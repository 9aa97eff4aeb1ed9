/-! sums -/
theorem cgl_st {dd_ F_ : Nat} {G_ : pGr} {S_ : sm_S} {k_ : Nat} {z_ : Int} (h_ : cgl dd_ F_ G_ S_) : cgl dd_ F_ G_ (sm_aI S_ 27 0 k_ z_) := cgl_fr (w_ := ([], [27], [])) h_ (ai_fr_aI rfl) rfl rfl rfl rfl rfl rfl rfl rfl
theorem g_su_c {F_ : Nat} {G_ : pGr} {c_ a_ b_ : Int} {x_ y_ d_ : List Int} : (d_ ++ (g_su F_ G_ c_ (a_ :: x_) (b_ :: y_)).1, (g_su F_ G_ c_ (a_ :: x_) (b_ :: y_)).2) = ((d_ ++ [(g_s3 F_ G_ c_ a_ b_).1]) ++ (g_su F_ (g_s3 F_ G_ c_ a_ b_).2.2 (g_s3 F_ G_ c_ a_ b_).2.1 x_ y_).1, (g_su F_ (g_s3 F_ G_ c_ a_ b_).2.2 (g_s3 F_ G_ c_ a_ b_).2.1 x_ y_).2) := by
  rw [List.append_assoc]
  rfl
theorem g_z2_c {op_ : pGr → Int → Int → Int × pGr} {G_ : pGr} {a_ b_ : Int} {x_ y_ d_ : List Int} : (d_ ++ (g_z2 op_ G_ (a_ :: x_) (b_ :: y_)).1, (g_z2 op_ G_ (a_ :: x_) (b_ :: y_)).2) = ((d_ ++ [(op_ G_ a_ b_).1]) ++ (g_z2 op_ (op_ G_ a_ b_).2 x_ y_).1, (g_z2 op_ (op_ G_ a_ b_).2 x_ y_).2) := by
  rw [List.append_assoc]
  rfl
