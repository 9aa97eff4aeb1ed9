/-! the class: choices; written by wip/p55/gen/vg -/

/-! operators -/
theorem rwv_ap {st_ st'_ : Nat → Int} {p_ q_ : Nat} {d_ : List Int} {z_ : Int} (h_ : rwv st_ p_ d_) (hq_ : q_ = p_ + d_.length) (hs_ : ∀ k_, st'_ k_ = if k_ = q_ then z_ else st_ k_) : rwv st'_ p_ (d_ ++ [z_]) := by
  intro k_ x_ e_
  rw [hs_]
  by_cases g_ : k_ < d_.length
  · rw [if_neg (by omega)]
    rw [List.getElem?_append_left g_] at e_
    exact h_ k_ x_ e_
  · rw [List.getElem?_append_right (by omega)] at e_
    by_cases g2_ : k_ = d_.length
    · rw [if_pos (by omega)]
      rw [show k_ - d_.length = 0 by omega] at e_
      exact Option.some.inj e_
    · rw [show k_ - d_.length = (k_ - d_.length - 1) + 1 by omega, List.getElem?_cons_succ] at e_
      simp at e_
theorem e_op6 {F_ : Nat} {G_ : pGr} {V_ : gV} {r_ : pGr × gV} (h_ : e_op F_ 6 G_ V_ = some r_) : ∃ x_ l_, V_ = x_ :: l_ ∧ r_ = (G_, x_.map (fun z_ => i_xor z_ 1) :: l_) := by
  unfold e_op at h_
  rw [if_pos rfl] at h_
  cases V_ with
  | nil => cases h_
  | cons x_ l_ => cases h_; exact ⟨x_, l_, rfl, rfl⟩
theorem e_op7 {F_ : Nat} {G_ : pGr} {V_ : gV} {r_ : pGr × gV} (h_ : e_op F_ 7 G_ V_ = some r_) : ∃ e_ a_ c_ l_, V_ = e_ :: a_ :: [c_] :: l_ ∧ a_.length = e_.length ∧ r_ = ((g_ch F_ c_ G_ a_ e_).2, (g_ch F_ c_ G_ a_ e_).1 :: l_) := by
  unfold e_op at h_
  rw [if_neg (by decide), if_pos rfl] at h_
  split at h_
  · rename_i e_ a_ c_ l_
    split at h_
    · rename_i g_
      cases h_
      exact ⟨e_, a_, c_, l_, rfl, g_.1, rfl⟩
    · cases h_
  · cases h_
theorem e_opb {F_ : Nat} {k_ : Int} {G_ : pGr} {V_ : gV} {r_ : pGr × gV} (h_ : e_op F_ k_ G_ V_ = some r_) (h6_ : k_ ≠ 6) (h7_ : k_ ≠ 7) : (1 ≤ k_ ∧ k_ ≤ 5) ∧ ∃ y_ x_ l_, V_ = y_ :: x_ :: l_ ∧ x_.length = y_.length ∧ 1 ≤ x_.length ∧ r_ = ((g_op F_ k_ G_ x_ y_).2, (g_op F_ k_ G_ x_ y_).1 :: l_) := by
  unfold e_op at h_
  rw [if_neg h6_, if_neg h7_] at h_
  split at h_
  · rename_i g0_
    split at h_
    · rename_i y_ x_ l_
      split at h_
      · rename_i g_
        cases h_
        exact ⟨g0_, y_, x_, l_, rfl, g_.1, g_.2, rfl⟩
      · cases h_
    · cases h_
  · cases h_
theorem g_op5 {F_ : Nat} {G_ : pGr} {x_ y_ : List Int} : g_op F_ 5 G_ x_ y_ = g_su F_ G_ 0 x_ y_ := if_pos rfl
theorem g_op4 {F_ : Nat} {G_ : pGr} {x_ y_ : List Int} : g_op F_ 4 G_ x_ y_ = g_sa F_ G_ x_ y_ := by
  unfold g_op
  rw [if_neg (by decide), if_pos rfl]
theorem g_opw {F_ : Nat} {k_ : Int} {G_ : pGr} {x_ y_ : List Int} (h5_ : k_ ≠ 5) (h4_ : k_ ≠ 4) : g_op F_ k_ G_ x_ y_ = g_z2 (g_bw F_ k_) G_ x_ y_ := by
  unfold g_op
  rw [if_neg h5_, if_neg h4_]
def cstk (G_ : pGr) (V_ : gV) (S_ : sm_S) : Prop := S_.1 1 0 6 = (V_.length : Int) ∧ svl (G_.length ≤ 1000) (S_.2.2.1 27 0) (S_.2.2.1 28 0) V_
/-- the_ top_ of_ the_ stack anew -/
theorem svl_tp {ok_ ok'_ : Prop} {st_ st'_ wd_ wd'_ : Nat → Int} {l_ : gV} {v_ : List Int} (h_ : svl ok_ st_ wd_ l_) (h0_ : ok'_ → ok_) (h1_ : ∀ j_, j_ < 8 * l_.length → st'_ j_ = st_ j_) (h2_ : ∀ j_, j_ < l_.length → wd'_ j_ = wd_ j_) (h3_ : wd'_ l_.length = (v_.length : Int)) (h4_ : 1 ≤ v_.length ∧ v_.length ≤ 8) (h5_ : ok'_ → rwv st'_ (8 * l_.length) v_) : svl ok'_ st'_ wd'_ (v_ :: l_) := ⟨h3_, h4_, h5_, svl_up h_ h0_ h1_ h2_⟩
