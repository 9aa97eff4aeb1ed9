/-! the class reader: modules; written by wip/p55/gen/vg -/

/-! modules -/
def a_bm (A_ : pA) (M_ : Nat) : pA := (fun m_ => if m_ = M_ then 0 else A_.1 m_, A_.2)
def n_up (N_ : Nat → Nat) (M_ q_ : Nat) : Nat → Nat := fun m_ => if m_ = M_ then q_ else N_ m_
def p_bm (b_ : Nat → Int) (n_ : Nat) (A_ : pA) (N_ : Nat → Nat) (M_ p_ : Nat) : pE (pA × (Nat → Nat) × Nat) := pb (p_nd b_ n_ 3 p_) fun q_ => if lx_kd b_ n_ q_ = 1 then (if p_fm b_ n_ N_ M_ q_ = -1 then (if M_ = 16 then .inl (15, q_) else pb (p_ad b_ n_ q_) fun r_ => pb (p_nd b_ n_ 123 r_) fun u_ => .inr (a_bm A_ M_, n_up N_ M_ q_, u_)) else .inl (10, q_)) else .inl (2, q_)
def p_en (b_ : Nat → Int) (n_ : Nat) (A_ : pA) (N_ : Nat → Nat) (M_ p_ : Nat) : pE (Option (pA × (Nat → Nat) × Nat)) := pb (p_nd b_ n_ 125 p_) fun r_ => if lx_kd b_ n_ r_ = 0 then .inr none else pb (p_bm b_ n_ A_ N_ (M_ + 1) r_) fun x_ => .inr (some x_)
def nc (b_ : Nat → Int) (n_ : Nat) (N_ : Nat → Nat) (M_ : Nat) (S_ : sm_S) : Prop := S_.2.2.1 75 0 M_ = (16 * N_ M_ + lx_sz b_ n_ (N_ M_) : Nat) ∧ nmp b_ n_ (N_ M_)
theorem nc_fr {w_ : sx_Wl} {S_ S'_ : sm_S} {b_ : Nat → Int} {n_ M_ : Nat} {N_ : Nat → Nat} (x_ : nc b_ n_ N_ M_ S_) (g_ : ai_fr (sx_W w_) S_ S'_) (h0_ : (sx_W w_).2.1 75 = false) : nc b_ n_ N_ M_ S'_ := by
  unfold nc at x_ ⊢
  rw [fr_arr g_ h0_]
  exact x_
def br (b_ : Nat → Int) (n_ : Nat) (A_ : pA) (N_ : Nat → Nat) (M_ : Nat) (c_ : List Int) (S_ : sm_S) : Prop := S_.1 7 0 3 = (M_ : Int) ∧ M_ ≤ 16 ∧ (∀ m_, m_ < M_ → a_ok b_ n_ A_ m_ ∧ er1 b_ n_ A_ m_ S_) ∧ nr b_ n_ N_ M_ S_ ∧ cr c_ S_
theorem br_fr {w_ : sx_Wl} {S_ S'_ : sm_S} {b_ : Nat → Int} {n_ M_ : Nat} {A_ : pA} {N_ : Nat → Nat} {c_ : List Int} (x_ : br b_ n_ A_ N_ M_ c_ S_) (g_ : ai_fr (sx_W w_) S_ S'_) (h0_ : (sx_W w_).2.1 77 = false) (h1_ : (sx_W w_).2.1 78 = false) (h2_ : (sx_W w_).2.1 79 = false) (h3_ : (sx_W w_).2.1 80 = false) (h4_ : (sx_W w_).2.1 81 = false) (h5_ : (sx_W w_).1 7 3 = false) (h6_ : (sx_W w_).2.1 75 = false) (h7_ : (sx_W w_).2.2 7 11 = false) (h8_ : (sx_W w_).1 7 2 = false) (h9_ : (sx_W w_).2.1 74 = false) : br b_ n_ A_ N_ M_ c_ S'_ := by
  refine ⟨(g_.1 7 0 3 h5_).trans x_.1, x_.2.1, fun m_ hm_ => ⟨(x_.2.2.1 m_ hm_).1, ?_⟩, nr_fr x_.2.2.2.1 g_ h6_, cr_fr x_.2.2.2.2 g_ h7_ h8_ h9_⟩
  have y_ := (x_.2.2.1 m_ hm_).2
  unfold er1 at y_ ⊢
  rw [fr_arr g_ h0_, fr_arr g_ h1_, fr_arr g_ h2_, fr_arr g_ h3_, fr_arr g_ h4_]
  exact y_
theorem er1_77 {b_ : Nat → Int} {n_ m_ M_ : Nat} {A_ : pA} {S_ S'_ : sm_S} (h_ : er1 b_ n_ A_ m_ S_) (hm_ : m_ ≠ M_) (g_ : ai_fr (sx_W ([], [75, 77], [])) S_ S'_) (hk_ : S'_.2.2.1 77 0 m_ = S_.2.2.1 77 0 m_) : er1 b_ n_ (a_bm A_ M_) m_ S'_ := by
  unfold er1 at h_ ⊢
  rw [fr_arr (t := 78) g_ rfl, fr_arr (t := 79) g_ rfl, fr_arr (t := 80) g_ rfl, fr_arr (t := 81) g_ rfl, hk_, show (a_bm A_ M_).1 m_ = A_.1 m_ from if_neg hm_]
  exact h_
theorem a_bm_ok {b_ : Nat → Int} {n_ M_ : Nat} {A_ : pA} (h_ : ∀ m_, m_ < M_ → a_ok b_ n_ A_ m_) (hM_ : M_ ≤ 15) : a_ok b_ n_ (a_bm A_ M_) M_ := by
  refine ⟨hM_, fun m_ hm_ => ?_⟩
  by_cases e_ : m_ = M_
  · have e1_ : (a_bm A_ M_).1 m_ = 0 := if_pos e_
    rw [e1_]
    exact ⟨Nat.zero_le _, fun s_ hs_ => absurd hs_ (Nat.not_lt_zero _)⟩
  · have e1_ : (a_bm A_ M_).1 m_ = A_.1 m_ := if_neg e_
    rw [e1_]
    exact (h_ m_ (by omega)).2 m_ (Nat.le_refl _)
theorem a_ok_le {b_ : Nat → Int} {n_ M_ m_ : Nat} {A_ : pA} (h_ : a_ok b_ n_ A_ M_) (hm_ : m_ ≤ M_) : a_ok b_ n_ A_ m_ := ⟨by have := h_.1; omega, fun k_ hk_ => h_.2 k_ (by omega)⟩
theorem bm_st {b_ : Nat → Int} {n_ M_ q_ i_ : Nat} {A_ : pA} {N_ : Nat → Nat} {c_ : List Int} {S_ : sm_S} {x_ : Int} (hb_ : br b_ n_ A_ N_ M_ c_ S_) (hc_ : ct b_ n_ q_ S_) (h1_ : M_ ≠ 16) (h2_ : nmp b_ n_ q_) (h3_ : x_ = (16 * q_ + lx_sz b_ n_ q_ : Nat)) (hi_ : i_ = M_) : ct b_ n_ q_ (sm_aI (sm_aI S_ 75 0 i_ x_) 77 0 i_ 0) ∧ dr b_ n_ (a_bm A_ M_) (n_up N_ M_ q_) M_ c_ (sm_aI (sm_aI S_ 75 0 i_ x_) 77 0 i_ 0) ∧ nc b_ n_ (n_up N_ M_ q_) M_ (sm_aI (sm_aI S_ 75 0 i_ x_) 77 0 i_ 0) := by
  subst hi_
  have f_ : ai_fr (sx_W ([], [75, 77], [])) S_ (sm_aI (sm_aI S_ 75 0 i_ x_) 77 0 i_ 0) := ai_fr_tr (ai_fr_aI rfl) (ai_fr_aI rfl)
  have e75_ : ∀ m_, (sm_aI (sm_aI S_ 75 0 i_ x_) 77 0 i_ 0).2.2.1 75 0 m_ = if m_ = i_ then x_ else S_.2.2.1 75 0 m_ := by
    intro m_
    rw [rd_ne (by decide), rd_eq]
  have e77_ : ∀ m_, (sm_aI (sm_aI S_ 75 0 i_ x_) 77 0 i_ 0).2.2.1 77 0 m_ = if m_ = i_ then 0 else S_.2.2.1 77 0 m_ := by
    intro m_
    rw [rd_eq, rd_ne (by decide)]
  have hM_ := hb_.2.1
  refine ⟨ct_fr hc_ f_ rfl rfl rfl rfl rfl rfl rfl, ⟨⟨hb_.1, a_bm_ok (fun m_ hm_ => (hb_.2.2.1 m_ hm_).1) (by omega), fun m_ hm_ => ?_⟩, ⟨by omega, fun m_ hm_ => ?_⟩, cr_fr hb_.2.2.2.2 f_ rfl rfl rfl⟩, ?_⟩
  · by_cases e_ : m_ = i_
    · have e1_ : (a_bm A_ i_).1 m_ = 0 := if_pos e_
      unfold er1
      rw [e77_, if_pos e_, e1_]
      exact ⟨rfl, fun s_ hs_ => absurd hs_ (Nat.not_lt_zero _)⟩
    · exact er1_77 (hb_.2.2.1 m_ (by omega)).2 e_ f_ (by rw [e77_, if_neg e_])
  · have y_ := hb_.2.2.2.1.2 m_ hm_
    rw [e75_, if_neg (by omega), show n_up N_ i_ q_ m_ = N_ m_ from if_neg (by omega)]
    exact y_
  · unfold nc
    rw [e75_, if_pos rfl, show n_up N_ i_ q_ i_ = q_ from if_pos rfl]
    exact ⟨h3_, h2_⟩
