/-! the class: the graph begins; written by wip/p55/gen/vg -/

/-! the_ graph begins -/
theorem cn1_0 {f_ : Nat → Int} : ∀ {n_ : Nat}, (∀ k_, k_ < n_ → f_ k_ ≠ 1) → cn1 f_ n_ = 0
  | 0, _ => rfl
  | n_ + 1, h_ => by
    unfold cn1
    rw [cn1_0 (fun k_ hk_ => h_ k_ (by omega)), if_neg (h_ n_ (by omega))]
theorem bkr_0 {F_ : Nat} {u_ : Nat → Int} (h_ : ∀ j_, j_ < 4096 → u_ j_ = 0) : bkr F_ [] u_ := by
  refine ⟨fun j_ hj_ => Or.inl (h_ j_ hj_), fun k_ x_ y_ e_ => by simp at e_, ?_⟩
  exact cn1_0 (fun k_ hk_ => by unfold nz; rw [if_pos (h_ k_ hk_)]; decide)
/-- the_ inputs' values at the_ beginning -/
def ein (A_ : pA) (m_ s_ : Nat) : List Int := if s_ < A_.1 m_ ∧ A_.2.2.1 (40 * m_ + s_) = 0 then r_bt 0 (su (t_in A_ 0 m_) s_).toNat (A_.2.2.2.1 (40 * m_ + s_)).toNat else []
theorem ein_o {b_ : Nat → Int} {n_ m_ : Nat} {A_ : pA} (hA_ : a_ok b_ n_ A_ m_) : oin A_ m_ (A_.1 m_) (ein A_ m_) := by
  refine ⟨fun s_ hs_ h0_ _ => ?_, fun s_ hs_ h0_ => ?_⟩
  · have w_ := ((hA_.2 m_ (Nat.le_refl _)).2 s_ hs_).2.2.1
    unfold ein
    rw [if_pos ⟨hs_, h0_⟩, r_bt_l]
    omega
  · unfold ein
    rw [if_neg (fun z_ => h0_ z_.2)]
/-! java/util/Arrays.fill -/
def vw_2b : sx_Wl := ([], [29], [])
def vq_2b (v0_ : Int) (S0_ : sm_S) (u_ : Option sm_V) (S1_ : sm_S) : Prop := u_ = none ∧ gi S1_ ∧ ai_fr (sx_W vw_2b) S0_ S1_ ∧ (∀ j_, j_ < 4096 → S1_.2.2.1 29 0 j_ = v0_)
set_option maxHeartbeats 400000 in
theorem vl_2b {sc_ : Nat × (Nat → Int)} (v0_ : Int) (S0_ : sm_S) (hv_ : (-1) ≤ v0_ ∧ v0_ ≤ 1012) : ∀ nn_ : Nat, (∀ (k_ : Int) (S_ : sm_S), gi S_ → ai_fr (sx_W vw_2b) S0_ S_ → ((0 ≤ k_ ∧ k_ ≤ 4096) ∧ (∀ j_, j_ < k_.toNat → S_.2.2.1 29 0 j_ = v0_) ∧ True) → ((4096 - k_).toNat) < nn_ → sm_T (mt_P sc_) 0 2 (5, [some (.inr (.inr (some (29, 0)))), some (.inl v0_), some (.inl k_), some (.inl 4096)], [], S_) (fun ro9_ => ∃ u_ S1_, ro9_ = (.inl u_, S1_, 0) ∧ vq_2b v0_ S0_ u_ S1_)) := by
  intro nn_
  induction nn_ with
  | zero => exact fun _ _ _ _ _ h_ => absurd h_ (Nat.not_lt_zero _)
  | succ nn_ ih_ =>
    rintro k_ S_ hI_ hF_ ⟨h0_, h1_, -⟩ hm_
    refine sm_T_go 2 (c1 := (7, [some (.inr (.inr (some (29, 0)))), some (.inl v0_), some (.inl k_), some (.inl 4096)], [.inl 4096, .inl k_], S_)) rfl ?_
    refine sm_T_br (a := 3) (z := 13) rfl (fun cx1_ => ?_) (fun cx1_ => ?_)
    · have cx1_ : 4096 ≤ k_ := of_decide_eq_true cx1_
      refine sm_T_rv rfl ⟨_, _, rfl, rfl, hI_, hF_, ?_⟩
      exact fun j_ hj_ => h1_ j_ (by omega)
    · have cx1_ : ¬ (4096 ≤ k_) := of_decide_eq_false cx1_
      refine sm_T_go 3 (c1 := (13, [some (.inr (.inr (some (29, 0)))), some (.inl v0_), some (.inl k_), some (.inl 4096)], [.inl v0_, .inl k_, .inr (.inr (some (29, 0)))], S_)) rfl ?_
      refine sm_T_iast (n := 4096) rfl rfl (by omega) (by omega) ?_
      have hIx2_ : gi (sm_aI S_ 29 0 k_.toNat v0_) := gi_aI hI_ (show (-1) ≤ v0_ ∧ v0_ ≤ 1012 from ⟨by omega, by omega⟩)
      have hFx3_ : ai_fr (sx_W vw_2b) S0_ (sm_aI S_ 29 0 k_.toNat v0_) := ai_fr_tr hF_ (ai_fr_aI rfl)
      refine sm_T_inc (a := 2) (z := 1) (v := k_) (w := k_ + 1) rfl rfl (by omega) (by omega) (by omega) ?_
      refine sm_T_go 1 (c1 := (5, [some (.inr (.inr (some (29, 0)))), some (.inl v0_), some (.inl (k_ + 1)), some (.inl 4096)], [], sm_aI S_ 29 0 k_.toNat v0_)) rfl ?_
      refine ih_ (k_ + 1) (sm_aI S_ 29 0 k_.toNat v0_) hIx2_ hFx3_ ⟨?_, ?_, trivial⟩ ?_
      · omega
      · intro j_ hj_
        rw [rd_eq]
        by_cases z_ : j_ = k_.toNat
        · rw [if_pos z_]
        · rw [if_neg z_]; exact h1_ j_ (by omega)
      · omega
set_option maxHeartbeats 400000 in
theorem vc_2b {sc_ : Nat × (Nat → Int)} (v0_ : Int) (S0_ : sm_S) (hI_ : gi S0_) (hv_ : (-1) ≤ v0_ ∧ v0_ ≤ 1012) : sm_T (mt_P sc_) 0 2 (0, [some (.inr (.inr (some (29, 0)))), some (.inl v0_), none, none], [], S0_) (fun ro9_ => ∃ u_ S1_, ro9_ = (.inl u_, S1_, 0) ∧ vq_2b v0_ S0_ u_ S1_) := by
  have hF_ : ai_fr (sx_W vw_2b) S0_ S0_ := ai_fr_rf
  refine sm_T_go 5 (c1 := (5, [some (.inr (.inr (some (29, 0)))), some (.inl v0_), some (.inl 0), some (.inl 4096)], [], S0_)) rfl ?_
  refine (vl_2b v0_ S0_ hv_ _) 0 S0_ hI_ hF_ ⟨?_, ?_, trivial⟩ (Nat.lt_succ_self _)
  · omega
  · (intro j_ hj_; exact absurd hj_ (Nat.not_lt_zero _))
