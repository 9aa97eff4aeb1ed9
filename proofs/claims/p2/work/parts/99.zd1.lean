/-! tables that grow; code on top; written by wip/p55/gen/vg -/

/-! a_ table and what it_ grows to_ -/
def a_ex (A_ B_ : pA) (M_ : Nat) : Prop := A_.1 M_ ≤ B_.1 M_ ∧ (∀ m_, m_ < M_ → A_.1 m_ = B_.1 m_) ∧ ∀ m_ s_, m_ ≤ M_ → s_ < A_.1 m_ → A_.2.1 (40 * m_ + s_) = B_.2.1 (40 * m_ + s_) ∧ A_.2.2.2.1 (40 * m_ + s_) = B_.2.2.2.1 (40 * m_ + s_) ∧ A_.2.2.2.2 (40 * m_ + s_) = B_.2.2.2.2 (40 * m_ + s_) ∧ (A_.2.2.1 (40 * m_ + s_) = B_.2.2.1 (40 * m_ + s_) ∨ (A_.2.2.1 (40 * m_ + s_) = 3 ∧ B_.2.2.1 (40 * m_ + s_) = 4))
theorem fn_ex {b_ : Nat → Int} {n_ M_ m_ p_ s_ : Nat} {A_ B_ : pA} (h_ : a_ex A_ B_ M_) (hm_ : m_ ≤ M_) (e_ : p_fn b_ n_ A_ m_ p_ = (s_ : Int)) : p_fn b_ n_ B_ m_ p_ = (s_ : Int) ∧ s_ < A_.1 m_ := by
  have e0_ : p_fd (fun s_ => nm_q b_ n_ (A_.2.1 (40 * m_ + s_)) p_) (A_.1 m_) = (s_ : Int) := e_
  have e1_ : p_fd (fun s_ => nm_q b_ n_ (B_.2.1 (40 * m_ + s_)) p_) (A_.1 m_) = (s_ : Int) := by
    rw [← e0_]
    refine p_fd_cg (fun j_ hj_ => ?_)
    show nm_q b_ n_ (B_.2.1 (40 * m_ + j_)) p_ = nm_q b_ n_ (A_.2.1 (40 * m_ + j_)) p_
    rw [(h_.2.2 m_ j_ hm_ hj_).1]
  have le_ : A_.1 m_ ≤ B_.1 m_ := by
    by_cases z_ : m_ = M_
    · rw [z_]; exact h_.1
    · rw [h_.2.1 m_ (by omega)]
      exact Nat.le_refl _
  have e2_ := p_fd_st (f_ := fun s_ => nm_q b_ n_ (B_.2.1 (40 * m_ + s_)) p_) (k_ := A_.1 m_) (by rw [e1_]; omega) (B_.1 m_ - A_.1 m_)
  rw [show A_.1 m_ + (B_.1 m_ - A_.1 m_) = B_.1 m_ by omega, e1_] at e2_
  exact ⟨e2_, (p_fd_f e0_).2⟩
theorem pa_ex {b_ : Nat → Int} {n_ M_ d_ p_ : Nat} {A_ B_ : pA} {s_ : Int} {r_ : Nat × Int × List Int} (h_ : a_ex A_ B_ M_) (hd_ : d_ ≤ M_) (e_ : p_pa b_ n_ A_ s_ d_ p_ = .inr r_) : p_pa b_ n_ B_ s_ d_ p_ = .inr r_ := by
  obtain ⟨o9_, q_, q1_, q2_, q3_, q4_, q5_⟩ := pa_r e_
  have f1_ := (fn_ex (p_ := p_) h_ hd_ q1_).1
  have x_ := h_.2.2 d_ o9_ hd_ q2_
  have s1_ : B_.2.2.1 (40 * d_ + o9_) = 1 := by
    rcases x_.2.2.2 with z_ | z_
    · rw [← z_]; exact q3_
    · omega
  have f2_ : (p_fn b_ n_ B_ d_ p_).toNat = o9_ := by rw [f1_]; rfl
  unfold p_pa
  rw [f2_, if_neg (by rw [f1_, s1_]; rintro (z_ | z_); omega; exact z_ rfl), pb_r q4_, f1_]
  rcases q5_ with ⟨z1_, z2_⟩ | ⟨z1_, u_, v_, z2_, z3_, z4_⟩
  · rw [if_neg z1_, ← x_.2.1, z2_]
  · rw [if_pos z1_, pb_r z2_, bp_bi, ← x_.2.1, pb_r z3_, z4_]
theorem na_ex {b_ : Nat → Int} {n_ M_ p_ : Nat} {A_ B_ : pA} {r_ : Nat × Int × List Int} (hA_ : a_ok b_ n_ A_ M_) (h_ : a_ex A_ B_ M_) (e_ : p_na b_ n_ A_ M_ p_ = .inr r_) : p_na b_ n_ B_ M_ p_ = .inr r_ ∧ p_fn b_ n_ B_ M_ p_ < (A_.1 M_ : Int) := by
  obtain ⟨s9_, q_, q1_, q2_, q3_, q4_⟩ := na_r e_
  have f1_ := fn_ex (p_ := p_) h_ (Nat.le_refl M_) q1_
  have x_ := h_.2.2 M_ s9_ (Nat.le_refl M_) q2_
  have s5_ : B_.2.2.1 (40 * M_ + s9_) = 5 ↔ A_.2.2.1 (40 * M_ + s9_) = 5 := by
    rcases x_.2.2.2 with z_ | z_ <;> omega
  refine ⟨?_, by rw [f1_.1]; omega⟩
  rcases q4_ with ⟨z1_, z2_, z3_⟩ | ⟨z1_, u_, z2_, z3_⟩
  · rw [na_2 f1_.1 q3_ z1_, if_neg (fun w_ => z2_ (s5_.mp w_)), ← x_.2.1, z3_]
  · rcases z3_ with ⟨z3_, z4_, z5_⟩ | ⟨z3_, z4_, v_, z5_, z6_⟩
    · have d5_ := ((hA_.2 M_ (Nat.le_refl _)).2 s9_ q2_).2.2.2.2.1 z4_
      rw [na_4 f1_.1 q3_ z1_ z2_ z3_, if_pos (s5_.mpr z4_), ← x_.2.2.1]
      exact pa_ex h_ (by omega) z5_
    · rw [na_5 f1_.1 q3_ z1_ z2_ z3_, if_neg (fun w_ => z4_ (s5_.mp w_)), bp_bi, ← x_.2.1, pb_r z5_, z6_]
theorem pd_ex {b_ : Nat → Int} {n_ M_ p_ : Nat} {A_ B_ : pA} {r_ : Nat × Int × List Int} (hA_ : a_ok b_ n_ A_ M_) (h_ : a_ex A_ B_ M_) (e_ : p_pd b_ n_ A_ M_ p_ = .inr r_) : p_pd b_ n_ B_ M_ p_ = .inr r_ ∧ (lx_kd b_ n_ p_ = 1 → p_fn b_ n_ B_ M_ p_ < (A_.1 M_ : Int)) := by
  unfold p_pd at e_ ⊢
  by_cases k2_ : lx_kd b_ n_ p_ = 2
  · rw [if_pos k2_] at e_ ⊢
    exact ⟨e_, fun z_ => by omega⟩
  · rw [if_neg k2_] at e_ ⊢
    by_cases k1_ : lx_kd b_ n_ p_ = 1
    · rw [if_pos k1_] at e_ ⊢
      have q_ := na_ex hA_ h_ e_
      exact ⟨q_.1, fun _ => q_.2⟩
    · rw [if_neg k1_] at e_
      cases e_
/-! the_ code comes on_ top_ of_ what is_ there -/
def pm {α β : Type} (f_ : α → β) (x_ : pE α) : pE β := pb x_ fun a_ => .inr (f_ a_)
def aO (c_ : List Int) (s_ : pO) : pO := (s_.1, s_.2.1, s_.2.2 ++ c_)
def aX (c_ : List Int) (x_ : pX) : pX := (x_.1, x_.2.1, x_.2.2.1, x_.2.2.2.1, x_.2.2.2.2.1, x_.2.2.2.2.2 ++ c_)
def aR (c_ : List Int) (r_ : pR) : pR := (r_.1, r_.2.1, r_.2.2 ++ c_)
def aS (c_ : List Int) (z_ : pX ⊕ pR) : pX ⊕ pR := match z_ with
  | .inl x_ => .inl (aX c_ x_)
  | .inr r_ => .inr (aR c_ r_)
theorem pm_r {α β : Type} {f_ : α → β} {a_ : α} : pm f_ (.inr a_ : pE α) = .inr (f_ a_) := rfl
theorem pm_b {α β γ : Type} {f_ : β → γ} {x_ : pE α} {g_ : α → pE β} : pm f_ (pb x_ g_) = pb x_ fun a_ => pm f_ (g_ a_) := by
  cases x_ <;> rfl
theorem ap_f {k_ : Int} {q_ : Nat} {a_ d_ : Int} {c_ : List Int} : p_ap false k_ q_ a_ d_ c_ = if a_ = d_ then .inr (if k_ = 4 then 1 else a_, k_ :: c_) else .inl (13, q_) := by
  unfold p_ap
  rw [if_neg (by decide)]
theorem se_ac {ls_ : Int} {c_ : List Int} : ∀ (o_ : List (Int × Nat)) (h_ l_ : List Int), p_se false ls_ o_ h_ (l_ ++ c_) = pm (aO c_) (p_se false ls_ o_ h_ l_)
  | [], h_, l_ => by rw [p_se, p_se] <;> first | rfl | (intros; simp_all)
  | (k_, q_) :: o_, [], l_ => by rw [p_se, p_se] <;> first | rfl | (intros; simp_all)
  | (k_, q_) :: o_, [x_], l_ => by rw [p_se, p_se] <;> first | rfl | (intros; simp_all)
  | (k_, q_) :: o_, y_ :: x_ :: h_, l_ => by
    rw [p_se, p_se]
    by_cases g_ : ls_ ≤ k_
    · rw [if_pos g_, if_pos g_]
      rw [ap_f, ap_f]
      by_cases e_ : x_ = y_
      · rw [if_pos e_, if_pos e_]
        exact se_ac o_ _ (k_ :: l_)
      · rw [if_neg e_, if_neg e_]
        rfl
    · rw [if_neg g_, if_neg g_]
      rfl
theorem sa_ac {c_ : List Int} : ∀ (o_ : List (Int × Nat)) (h_ l_ : List Int), p_sa false o_ h_ (l_ ++ c_) = pm (aO c_) (p_sa false o_ h_ l_)
  | [], h_, l_ => by rw [p_sa, p_sa]; rfl
  | (k_, q_) :: o_, h_, l_ => by
    have key_ : ∀ c1_ : List Int, p_sa false ((k_, q_) :: o_) h_ c1_ = if k_ = -4 then pb (p_ch q_ h_ c1_) fun r_ => p_sa false o_ r_.1 r_.2 else if 1 ≤ k_ then (match h_ with
      | y_ :: x_ :: h_ => pb (p_ap false k_ q_ x_ y_ c1_) fun r_ => p_sa false o_ (r_.1 :: h_) r_.2
      | h_ => .inr ((k_, q_) :: o_, h_, c1_)) else .inr ((k_, q_) :: o_, h_, c1_) := fun c1_ => by
      conv => lhs; unfold p_sa
      cases h_ with
      | nil => rfl
      | cons y_ h_ =>
        cases h_ with
        | nil => rfl
        | cons x_ h_ => rfl
    rw [key_, key_]
    by_cases g4_ : k_ = -4
    · rw [if_pos g4_, if_pos g4_]
      match h_ with
      | [] => rfl
      | [_] => rfl
      | [_, _] => rfl
      | x_ :: y_ :: z_ :: h_ =>
        by_cases e_ : y_ = x_
        · rw [show p_ch q_ (x_ :: y_ :: z_ :: h_) (l_ ++ c_) = .inr (y_ :: h_, 7 :: (l_ ++ c_)) from if_pos e_, show p_ch q_ (x_ :: y_ :: z_ :: h_) l_ = .inr (y_ :: h_, 7 :: l_) from if_pos e_]
          exact sa_ac o_ _ (7 :: l_)
        · rw [show p_ch q_ (x_ :: y_ :: z_ :: h_) (l_ ++ c_) = .inl (13, q_) from if_neg e_, show p_ch q_ (x_ :: y_ :: z_ :: h_) l_ = .inl (13, q_) from if_neg e_]
          rfl
    · rw [if_neg g4_, if_neg g4_]
      by_cases g1_ : 1 ≤ k_
      · rw [if_pos g1_, if_pos g1_]
        match h_ with
        | [] => rfl
        | [_] => rfl
        | y_ :: x_ :: h_ =>
          show pb (p_ap false k_ q_ x_ y_ (l_ ++ c_)) (fun r_ => p_sa false o_ (r_.1 :: h_) r_.2) = pm (aO c_) (pb (p_ap false k_ q_ x_ y_ l_) (fun r_ => p_sa false o_ (r_.1 :: h_) r_.2))
          rw [ap_f, ap_f]
          by_cases e_ : x_ = y_
          · rw [if_pos e_, if_pos e_]
            exact sa_ac o_ _ (k_ :: l_)
          · rw [if_neg e_, if_neg e_]
            rfl
      · rw [if_neg g1_, if_neg g1_]
        rfl
theorem ti_ac {t_ : Bool} {h_ l_ c_ : List Int} : p_ti false t_ h_ (l_ ++ c_) = ((p_ti false t_ h_ l_).1, (p_ti false t_ h_ l_).2 ++ c_) := by
  cases t_ <;> rfl
theorem B3_ac {b_ : Nat → Int} {n_ p_ : Nat} {c_ : List Int} {s_ : pO} : p_B3 b_ n_ false p_ (aO c_ s_) = pm (aS c_) (p_B3 b_ n_ false p_ s_) := by
  obtain ⟨o_, h_, l_⟩ := s_
  cases o_ with
  | nil => rfl
  | cons x_ o_ =>
    obtain ⟨k_, q_⟩ := x_
    by_cases k3_ : k_ = -3
    · subst k3_
      show p_B3 b_ n_ false p_ ((-3, q_) :: o_, h_, l_ ++ c_) = pm (aS c_) (p_B3 b_ n_ false p_ ((-3, q_) :: o_, h_, l_))
      rw [b3_q, b3_q, pm_b]
      rfl
    · show p_B3 b_ n_ false p_ ((k_, q_) :: o_, h_, l_ ++ c_) = pm (aS c_) (p_B3 b_ n_ false p_ ((k_, q_) :: o_, h_, l_))
      rw [b3_c k3_, b3_c k3_, pm_b, ti_ac]
      rfl
theorem B2_ac {b_ : Nat → Int} {n_ p_ : Nat} {c_ : List Int} {s_ : pO} : p_B2 b_ n_ false p_ (aO c_ s_) = pm (aS c_) (p_B2 b_ n_ false p_ s_) := by
  obtain ⟨o_, h_, l_⟩ := s_
  unfold p_B2
  by_cases k_ : lx_kd b_ n_ p_ = 63
  · rw [if_pos ⟨rfl, k_⟩, if_pos ⟨rfl, k_⟩]
    show pb (p_se false 1 o_ h_ (l_ ++ c_)) _ = pm (aS c_) (pb (p_se false 1 o_ h_ l_) _)
    rw [se_ac]
    cases p_se false 1 o_ h_ l_ with
    | inl e_ => rfl
    | inr s_ =>
      show (if o_mk s_.1 = 60 then (.inl (3, p_) : pE (pX ⊕ pR)) else _) = pm (aS c_) (if o_mk s_.1 = 60 then .inl (3, p_) else _)
      by_cases z1_ : o_mk s_.1 = 60
      · rw [if_pos z1_, if_pos z1_]; rfl
      · rw [if_neg z1_, if_neg z1_]
        show (if h_tp s_.2.1 ≠ 1 then (.inl (13, p_) : pE (pX ⊕ pR)) else _) = pm (aS c_) (if h_tp s_.2.1 ≠ 1 then .inl (13, p_) else _)
        by_cases z2_ : h_tp s_.2.1 ≠ 1
        · rw [if_pos z2_, if_pos z2_]; rfl
        · rw [if_neg z2_, if_neg z2_, pm_b]; rfl
  · rw [if_neg (fun z_ => k_ z_.2), if_neg (fun z_ => k_ z_.2)]
    show pb (p_sa false o_ h_ (l_ ++ c_)) _ = pm (aS c_) (pb (p_sa false o_ h_ l_) _)
    rw [sa_ac]
    cases p_sa false o_ h_ l_ with
    | inl e_ => rfl
    | inr s_ => exact B3_ac
theorem B1_ac {b_ : Nat → Int} {n_ p_ : Nat} {L_ : Int} {c_ : List Int} {s_ : pO} : p_B1 b_ n_ false p_ L_ (aO c_ s_) = pm (aS c_) (p_B1 b_ n_ false p_ L_ s_) := by
  unfold p_B1
  show (if 0 < L_ ∧ (L_ ≠ 4 ∨ o_tp s_.1 ≠ 4) then _ else _) = pm (aS c_) (if 0 < L_ ∧ (L_ ≠ 4 ∨ o_tp s_.1 ≠ 4) then _ else _)
  by_cases g_ : 0 < L_ ∧ (L_ ≠ 4 ∨ o_tp s_.1 ≠ 4)
  · rw [if_pos g_, if_pos g_, pm_b]; rfl
  · rw [if_neg g_, if_neg g_]; exact B2_ac
theorem st_ac {b_ : Nat → Int} {n_ : Nat} {pr_ : pPr} {c_ : List Int} {x_ : pX} : p_st b_ n_ false pr_ (aX c_ x_) = pm (aS c_) (p_st b_ n_ false pr_ x_) := by
  obtain ⟨ph_, t_, p_, o_, h_, l_⟩ := x_
  unfold p_st
  show (if ph_ = 0 then p_sA b_ n_ false pr_ t_ p_ o_ h_ (l_ ++ c_) else p_sB b_ n_ false p_ o_ h_ (l_ ++ c_)) = pm (aS c_) (if ph_ = 0 then p_sA b_ n_ false pr_ t_ p_ o_ h_ l_ else p_sB b_ n_ false p_ o_ h_ l_)
  by_cases z_ : ph_ = 0
  · rw [if_pos z_, if_pos z_]
    unfold p_sA
    by_cases k1_ : lx_kd b_ n_ p_ = 33
    · rw [if_pos k1_, if_pos k1_, pm_b]; rfl
    · rw [if_neg k1_, if_neg k1_]
      by_cases k2_ : lx_kd b_ n_ p_ = 40
      · rw [if_pos k2_, if_pos k2_]
        by_cases k3_ : o_mk o_ = 60
        · rw [if_pos k3_, if_pos k3_]; rfl
        · rw [if_neg k3_, if_neg k3_, pm_b]; rfl
      · rw [if_neg k2_, if_neg k2_, pm_b]
        cases pr_ p_ with
        | inl e_ => rfl
        | inr r_ =>
          show (.inr (.inl (1, false, r_.1, o_, (p_ti false t_ (r_.2.1 :: h_) (r_.2.2 ++ (l_ ++ c_))).1, (p_ti false t_ (r_.2.1 :: h_) (r_.2.2 ++ (l_ ++ c_))).2)) : pE (pX ⊕ pR)) = _
          rw [← List.append_assoc, ti_ac]
          rfl
  · rw [if_neg z_, if_neg z_]
    unfold p_sB
    by_cases k1_ : 0 < p_lv false (lx_kd b_ n_ p_)
    · rw [if_pos k1_, if_pos k1_, se_ac]
      cases p_se false (if p_lv false (lx_kd b_ n_ p_) = 4 then 5 else p_lv false (lx_kd b_ n_ p_)) o_ h_ l_ with
      | inl e_ => rfl
      | inr s_ => exact B1_ac
    · rw [if_neg k1_, if_neg k1_]
      exact B2_ac (s_ := (o_, h_, l_))
theorem xr_ac {b_ : Nat → Int} {n_ : Nat} {pr_ : pPr} {c_ : List Int} : ∀ (f_ : Nat) (x_ : pX), p_xr b_ n_ false pr_ f_ (aX c_ x_) = (p_xr b_ n_ false pr_ f_ x_).map (pm (aR c_))
  | 0, x_ => rfl
  | f_ + 1, x_ => by
    rw [p_xr, p_xr, st_ac]
    cases p_st b_ n_ false pr_ x_ with
    | inl e_ => rfl
    | inr z_ =>
      cases z_ with
      | inl y_ => exact xr_ac f_ y_
      | inr r_ => rfl
theorem ex_ac {b_ : Nat → Int} {n_ p_ : Nat} {pr_ : pPr} {c_ : List Int} {r_ : pR} (h_ : p_ex b_ n_ false pr_ c_ p_ = .inr r_) : ∃ k_, p_ex b_ n_ false pr_ [] p_ = .inr (r_.1, r_.2.1, k_) ∧ r_.2.2 = k_ ++ c_ := by
  unfold p_ex at h_ ⊢
  have q_ := xr_ac (b_ := b_) (n_ := n_) (pr_ := pr_) (c_ := c_) (n_ + 1) (0, false, p_, [], [], [])
  rw [show aX c_ (0, false, p_, [], [], []) = (0, false, p_, [], [], c_) from rfl] at q_
  rw [q_] at h_
  cases e_ : p_xr b_ n_ false pr_ (n_ + 1) (0, false, p_, [], [], []) with
  | none => rw [e_] at h_; cases h_
  | some y_ =>
    rw [e_] at h_
    cases y_ with
    | inl z_ => cases h_
    | inr s_ =>
      have h_ : (.inr (aR c_ s_) : pE pR) = .inr r_ := h_
      cases h_
      exact ⟨s_.2.2, rfl, rfl⟩
