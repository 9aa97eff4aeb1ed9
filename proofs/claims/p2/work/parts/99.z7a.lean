/-! the class: limits; written by wip/p55/gen/vg -/

/-! sums that are_ cut_ off_ at different heights -/
def mc (x_ : Int) : Int := if 100000 < x_ then 100000 else x_
theorem mc_b {x_ : Int} (h_ : 0 ≤ x_) : 0 ≤ mc x_ ∧ mc x_ ≤ 100000 := by
  unfold mc
  split <;> omega
theorem mn_mc {x_ : Int} : mn (mc x_) = mn x_ := by
  unfold mn mc
  repeat' split
  all_goals omega
theorem mn_ad {x_ y_ z_ w_ : Int} (hx_ : 0 ≤ x_) (hy_ : 0 ≤ y_) (hz_ : 0 ≤ z_) (hw_ : 0 ≤ w_) (h1_ : mn x_ = mn z_) (h2_ : mn y_ = mn w_) : mn (x_ + y_) = mn (z_ + w_) := by
  unfold mn at h1_ h2_ ⊢
  repeat' split at h1_
  all_goals repeat' split at h2_
  all_goals repeat' split
  all_goals omega
theorem su_mn {f_ g_ : Nat → Int} : ∀ {k_ : Nat}, (∀ j_, j_ < k_ → 0 ≤ f_ j_ ∧ 0 ≤ g_ j_ ∧ mn (f_ j_) = mn (g_ j_)) → 0 ≤ su f_ k_ ∧ 0 ≤ su g_ k_ ∧ mn (su f_ k_) = mn (su g_ k_)
  | 0, _ => ⟨Int.le_refl _, Int.le_refl _, rfl⟩
  | k_ + 1, h_ => by
    have h1_ := su_mn (f_ := f_) (g_ := g_) (k_ := k_) (fun j_ hj_ => h_ j_ (by omega))
    have h2_ := h_ k_ (by omega)
    refine ⟨?_, ?_, ?_⟩
    · show 0 ≤ su f_ k_ + f_ k_
      omega
    · show 0 ≤ su g_ k_ + g_ k_
      omega
    · exact mn_ad h1_.1 h2_.1 h1_.2.1 h2_.2.1 h1_.2.2 h2_.2.2
/-- both tables of_ a_ module's sums are_ the_ same below a_ thousand -/
theorem sat_eq {b_ : Nat → Int} {n_ M_ : Nat} {A_ : pA} {r1_ r2_ i1_ i2_ : Nat → Int} (hA_ : ∀ m_, m_ < M_ → a_ok b_ n_ A_ m_) (h1_ : ∀ m_, m_ < M_ → r1_ m_ = mn (su (t_rg r1_ A_ m_) (A_.1 m_))) (h2_ : ∀ m_, m_ < M_ → r2_ m_ = mc (su (t_rg r2_ A_ m_) (A_.1 m_))) (h3_ : ∀ m_, m_ < M_ → i1_ m_ = mn (su (t_is i1_ A_ m_) (A_.1 m_))) (h4_ : ∀ m_, m_ < M_ → i2_ m_ = mc (su (t_is i2_ A_ m_) (A_.1 m_))) : ∀ k_ m_, m_ < k_ → m_ < M_ → (r1_ m_ = mn (r2_ m_) ∧ 0 ≤ r2_ m_) ∧ (i1_ m_ = mn (i2_ m_) ∧ 0 ≤ i2_ m_) := by
  intro k_
  induction k_ with
  | zero => intro m_ hm_; exact absurd hm_ (Nat.not_lt_zero _)
  | succ k_ ih_ =>
    intro m_ hm_ hM_
    have a1_ := (hA_ m_ hM_).2 m_ (Nat.le_refl m_)
    have dt_ : ∀ s_, s_ < A_.1 m_ → A_.2.2.1 (40 * m_ + s_) = 5 → (A_.2.2.2.2 (40 * m_ + s_)).toNat < m_ := by
      intro s_ hs_ h5_
      have := (a1_.2 s_ hs_).2.2.2.2.1 h5_
      omega
    have q1_ := su_mn (f_ := t_rg r1_ A_ m_) (g_ := t_rg r2_ A_ m_) (k_ := A_.1 m_) (fun s_ hs_ => by
      have w_ := (a1_.2 s_ hs_).2.2.1
      unfold t_rg
      by_cases z_ : A_.2.2.1 (40 * m_ + s_) = 3 ∨ A_.2.2.1 (40 * m_ + s_) = 4
      · rw [if_pos z_, if_pos z_]; exact ⟨w_.1, w_.1, rfl⟩
      · rw [if_neg z_, if_neg z_]
        by_cases z2_ : A_.2.2.1 (40 * m_ + s_) = 5
        · have d_ := dt_ s_ hs_ z2_
          have e_ := (ih_ (A_.2.2.2.2 (40 * m_ + s_)).toNat (by omega) (by omega)).1
          rw [if_pos z2_, if_pos z2_, e_.1]
          have mb_ := mn_b e_.2
          refine ⟨mb_.1, e_.2, ?_⟩
          unfold mn
          repeat' split
          all_goals omega
        · rw [if_neg z2_, if_neg z2_]; exact ⟨Int.le_refl _, Int.le_refl _, rfl⟩)
    have q2_ := su_mn (f_ := t_is i1_ A_ m_) (g_ := t_is i2_ A_ m_) (k_ := A_.1 m_) (fun s_ hs_ => by
      unfold t_is
      by_cases z2_ : A_.2.2.1 (40 * m_ + s_) = 5
      · have d_ := dt_ s_ hs_ z2_
        have e_ := (ih_ (A_.2.2.2.2 (40 * m_ + s_)).toNat (by omega) (by omega)).2
        rw [if_pos z2_, if_pos z2_, e_.1]
        have mb_ := mn_b e_.2
        refine ⟨by omega, by omega, ?_⟩
        unfold mn
        repeat' split
        all_goals omega
      · rw [if_neg z2_, if_neg z2_]; exact ⟨Int.le_refl _, Int.le_refl _, rfl⟩)
    rw [h1_ m_ hM_, h2_ m_ hM_, h3_ m_ hM_, h4_ m_ hM_, mn_mc, mn_mc]
    exact ⟨⟨q1_.2.2, (mc_b q1_.2.1).1⟩, q2_.2.2, (mc_b q2_.2.1).1⟩
theorem lm_sat {i_ r_ x_ y_ : Int} (hi_ : 0 ≤ i_) (hr_ : 0 ≤ r_) (hx_ : 0 ≤ x_) : p_lm (mn i_) x_ (mn r_) y_ = p_lm i_ x_ r_ y_ := by
  unfold p_lm mn
  repeat' split
  all_goals first | rfl | (exfalso; omega)
/-! Builder.bitsOf -/
def vw_33 : sx_Wl := ([], [], [])
def vq_33 (m_ : Int) (so_ : Int) (b_ : Nat → Int) (n_ : Nat) (A_ : pA) (mm_ : Nat) (S0_ : sm_S) (u_ : Option sm_V) (S1_ : sm_S) : Prop := S0_ = S1_ ∧ ∃ v_ : Int, u_ = some (.inl v_) ∧ (v_ = su (t_in A_ so_ mm_) (A_.1 mm_) ∧ 0 ≤ v_ ∧ v_ ≤ 320)
set_option maxHeartbeats 400000 in
theorem vl_33 {sc_ : Nat × (Nat → Int)} (m_ : Int) (so_ : Int) (b_ : Nat → Int) (n_ : Nat) (A_ : pA) (mm_ : Nat) (S0_ : sm_S) (hm1_ : m_ = (mm_ : Int) ∧ mm_ ≤ 15) (hr_ : er1 b_ n_ A_ mm_ S0_) (hA_ : a_ok b_ n_ A_ mm_) : ∀ nn_ : Nat, (∀ (c_ : Int) (k_ : Int) (S_ : sm_S), gi S_ → ai_fr (sx_W vw_33) S0_ S_ → ((0 ≤ k_ ∧ k_ ≤ (A_.1 mm_ : Int)) ∧ (c_ = su (t_in A_ so_ mm_) k_.toNat) ∧ (S_ = S0_) ∧ True) → (((A_.1 mm_ : Int) - k_).toNat) < nn_ → sm_T (mt_P sc_) 0 33 (5, [some (.inr (.inr (some (1, 0)))), some (.inl m_), some (.inl so_), some (.inl c_), some (.inl k_)], [], S_) (fun r_ => ∃ u_ S1_, r_ = (.inl u_, S1_, 0) ∧ vq_33 m_ so_ b_ n_ A_ mm_ S0_ u_ S1_)) := by
  intro nn_
  induction nn_ with
  | zero => exact fun _ _ _ _ _ _ h_ => absurd h_ (Nat.not_lt_zero _)
  | succ nn_ ih_ =>
    rintro c_ k_ S_ hI_ hF_ ⟨h0_, h1_, hS_, -⟩ hm_
    have A40_ := (hA_.2 mm_ (Nat.le_refl _)).1
    have hK_ : S_.2.2.1 77 0 m_.toNat = (A_.1 mm_ : Int) := by rw [hS_, show m_.toNat = mm_ by omega]; exact hr_.1
    have cb_ := su_b (f_ := t_in A_ so_ mm_) (c_ := 8) (k_ := k_.toNat) (fun j_ hj_ => by have z_ := ((hA_.2 mm_ (Nat.le_refl _)).2 j_ (by omega)).2.2.1; unfold t_in; split <;> omega)
    have sv_ : k_ < (A_.1 mm_ : Int) → S_.2.2.1 79 0 (40 * m_ + k_).toNat = A_.2.2.1 (40 * mm_ + k_.toNat) ∧ S_.2.2.1 80 0 (40 * m_ + k_).toNat = A_.2.2.2.1 (40 * mm_ + k_.toNat) := by intro z_; rw [hS_, show (40 * m_ + k_).toNat = 40 * mm_ + k_.toNat by omega]; exact ⟨(hr_.2 k_.toNat (by omega)).2.1, (hr_.2 k_.toNat (by omega)).2.2.1⟩
    refine sm_T_go 5 (c1 := (15, [some (.inr (.inr (some (1, 0)))), some (.inl m_), some (.inl so_), some (.inl c_), some (.inl k_)], [.inl m_, .inr (.inr (some (77, 0))), .inl k_], S_)) rfl ?_
    refine sm_T_iald (n := 17) rfl rfl (by omega) (by omega) ?_
    have bx1_ : 0 ≤ S_.2.2.1 77 0 m_.toNat ∧ S_.2.2.1 77 0 m_.toNat ≤ 40 := hI_.2 77 0 _
    refine sm_T_br (a := 3) (z := 46) rfl (fun cx2_ => ?_) (fun cx2_ => ?_)
    · have cx2_ : (S_.2.2.1 77 0 m_.toNat) ≤ k_ := of_decide_eq_true cx2_
      refine sm_T_go 1 (c1 := (63, [some (.inr (.inr (some (1, 0)))), some (.inl m_), some (.inl so_), some (.inl c_), some (.inl k_)], [.inl c_], S_)) rfl ?_
      refine sm_T_ri rfl ⟨_, _, rfl, (by first | rfl | exact hS_.symm), _, rfl, ?_⟩
      refine ⟨?_, by omega, by omega⟩
      rw [show A_.1 mm_ = k_.toNat by omega]
      exact h1_
    · have cx2_ : ¬ ((S_.2.2.1 77 0 m_.toNat) ≤ k_) := of_decide_eq_false cx2_
      refine sm_T_go 5 (c1 := (29, [some (.inr (.inr (some (1, 0)))), some (.inl m_), some (.inl so_), some (.inl c_), some (.inl k_)], [.inl 40, .inl m_, .inr (.inr (some (79, 0)))], S_)) rfl ?_
      refine sm_T_bin (w := 40 * m_) rfl (bi_mul (by omega) (by omega) (by omega)) ?_
      refine sm_T_go 1 (c1 := (32, [some (.inr (.inr (some (1, 0)))), some (.inl m_), some (.inl so_), some (.inl c_), some (.inl k_)], [.inl k_, .inl (40 * m_), .inr (.inr (some (79, 0)))], S_)) rfl ?_
      refine sm_T_bin (w := 40 * m_ + k_) rfl (bi_add (by omega) (by omega) (by omega)) ?_
      refine sm_T_iald (n := 640) rfl rfl (by omega) (by omega) ?_
      have bx3_ : 0 ≤ S_.2.2.1 79 0 (40 * m_ + k_).toNat ∧ S_.2.2.1 79 0 (40 * m_ + k_).toNat ≤ 5 := hI_.2 79 0 _
      refine sm_T_go 1 (c1 := (35, [some (.inr (.inr (some (1, 0)))), some (.inl m_), some (.inl so_), some (.inl c_), some (.inl k_)], [.inl so_, .inl (S_.2.2.1 79 0 (40 * m_ + k_).toNat)], S_)) rfl ?_
      refine sm_T_br (a := 1) (z := 21) rfl (fun cx4_ => ?_) (fun cx4_ => ?_)
      · have cx4_ : (S_.2.2.1 79 0 (40 * m_ + k_).toNat) ≠ so_ := of_decide_eq_true cx4_
        refine sm_T_inc (a := 4) (z := 1) (v := k_) (w := k_ + 1) rfl rfl (by omega) (by omega) (by omega) ?_
        refine sm_T_go 1 (c1 := (5, [some (.inr (.inr (some (1, 0)))), some (.inl m_), some (.inl so_), some (.inl c_), some (.inl (k_ + 1))], [], S_)) rfl ?_
        refine ih_ c_ (k_ + 1) S_ hI_ hF_ ⟨?_, ?_, ?_, trivial⟩ ?_
        · omega
        · have s9_ := sv_ (by omega)
          rw [show (k_ + 1).toNat = k_.toNat + 1 by omega]
          show _ = su (t_in A_ so_ mm_) k_.toNat + (if A_.2.2.1 (40 * mm_ + k_.toNat) = so_ then A_.2.2.2.1 (40 * mm_ + k_.toNat) else 0)
          first | (rw [if_pos (by omega)]; omega) | (rw [if_neg (by omega)]; omega)
        · first | rfl | exact hS_
        · omega
      · have cx4_ : ¬ ((S_.2.2.1 79 0 (40 * m_ + k_).toNat) ≠ so_) := of_decide_eq_false cx4_
        refine sm_T_go 6 (c1 := (49, [some (.inr (.inr (some (1, 0)))), some (.inl m_), some (.inl so_), some (.inl c_), some (.inl k_)], [.inl 40, .inl m_, .inr (.inr (some (80, 0))), .inl c_], S_)) rfl ?_
        refine sm_T_bin (w := 40 * m_) rfl (bi_mul (by omega) (by omega) (by omega)) ?_
        refine sm_T_go 1 (c1 := (52, [some (.inr (.inr (some (1, 0)))), some (.inl m_), some (.inl so_), some (.inl c_), some (.inl k_)], [.inl k_, .inl (40 * m_), .inr (.inr (some (80, 0))), .inl c_], S_)) rfl ?_
        refine sm_T_bin (w := 40 * m_ + k_) rfl (bi_add (by omega) (by omega) (by omega)) ?_
        refine sm_T_iald (n := 640) rfl rfl (by omega) (by omega) ?_
        have bx5_ : 0 ≤ S_.2.2.1 80 0 (40 * m_ + k_).toNat ∧ S_.2.2.1 80 0 (40 * m_ + k_).toNat ≤ 8 := hI_.2 80 0 _
        refine sm_T_bin (w := c_ + (S_.2.2.1 80 0 (40 * m_ + k_).toNat)) rfl (bi_add (by omega) (by omega) (by omega)) ?_
        refine sm_T_go 1 (c1 := (56, [some (.inr (.inr (some (1, 0)))), some (.inl m_), some (.inl so_), some (.inl (c_ + (S_.2.2.1 80 0 (40 * m_ + k_).toNat))), some (.inl k_)], [], S_)) rfl ?_
        refine sm_T_inc (a := 4) (z := 1) (v := k_) (w := k_ + 1) rfl rfl (by omega) (by omega) (by omega) ?_
        refine sm_T_go 1 (c1 := (5, [some (.inr (.inr (some (1, 0)))), some (.inl m_), some (.inl so_), some (.inl (c_ + (S_.2.2.1 80 0 (40 * m_ + k_).toNat))), some (.inl (k_ + 1))], [], S_)) rfl ?_
        refine ih_ (c_ + (S_.2.2.1 80 0 (40 * m_ + k_).toNat)) (k_ + 1) S_ hI_ hF_ ⟨?_, ?_, ?_, trivial⟩ ?_
        · omega
        · have s9_ := sv_ (by omega)
          rw [show (k_ + 1).toNat = k_.toNat + 1 by omega]
          show _ = su (t_in A_ so_ mm_) k_.toNat + (if A_.2.2.1 (40 * mm_ + k_.toNat) = so_ then A_.2.2.2.1 (40 * mm_ + k_.toNat) else 0)
          first | (rw [if_pos (by omega)]; omega) | (rw [if_neg (by omega)]; omega)
        · first | rfl | exact hS_
        · omega
set_option maxHeartbeats 400000 in
theorem vc_33 {sc_ : Nat × (Nat → Int)} (m_ : Int) (so_ : Int) (b_ : Nat → Int) (n_ : Nat) (A_ : pA) (mm_ : Nat) (S0_ : sm_S) (hI_ : gi S0_) (hm1_ : m_ = (mm_ : Int) ∧ mm_ ≤ 15) (hr_ : er1 b_ n_ A_ mm_ S0_) (hA_ : a_ok b_ n_ A_ mm_) : sm_T (mt_P sc_) 0 33 (0, [some (.inr (.inr (some (1, 0)))), some (.inl m_), some (.inl so_), none, none], [], S0_) (fun r_ => ∃ u_ S1_, r_ = (.inl u_, S1_, 0) ∧ vq_33 m_ so_ b_ n_ A_ mm_ S0_ u_ S1_) := by
  have hF_ : ai_fr (sx_W vw_33) S0_ S0_ := ai_fr_rf
  refine sm_T_go 4 (c1 := (5, [some (.inr (.inr (some (1, 0)))), some (.inl m_), some (.inl so_), some (.inl 0), some (.inl 0)], [], S0_)) rfl ?_
  refine (vl_33 m_ so_ b_ n_ A_ mm_ S0_ hm1_ hr_ hA_ _) 0 0 S0_ hI_ hF_ ⟨?_, ?_, ?_, trivial⟩ (Nat.lt_succ_self _)
  · omega
  · rfl
  · first | rfl | exact hS_
