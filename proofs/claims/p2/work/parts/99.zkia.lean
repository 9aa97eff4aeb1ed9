/-! nets in a row; written by wip/p55/gen/vg -/

/-! all_ nets routed -/
/-- a_ row_ of_ nets with two_ pins at least, each once, but_ for_ a_ hole -/
def rrw (bb_ : Nat) (n_ k_ h_ : Int) (S_ : sm_S) : Prop := (∀ i_ : Nat, (i_ : Int) ≤ k_ → (i_ : Int) ≠ h_ → (0 ≤ S_.2.2.1 91 0 i_ ∧ S_.2.2.1 91 0 i_ < n_) ∧ 1 < S_.2.2.1 20 (0 + bb_) (S_.2.2.1 91 0 i_).toNat) ∧ ∀ i_ j_ : Nat, i_ < j_ → (j_ : Int) ≤ k_ → (i_ : Int) ≠ h_ → (j_ : Int) ≠ h_ → S_.2.2.1 91 0 i_ ≠ S_.2.2.1 91 0 j_
theorem rrw_mv {bb_ : Nat} {n_ k_ h_ : Int} {S_ : sm_S} (g_ : rrw bb_ n_ k_ h_ S_) (h0_ : 1 ≤ h_ ∧ h_ ≤ k_) : rrw bb_ n_ k_ (h_ - 1) (sm_aI S_ 91 0 h_.toNat (S_.2.2.1 91 0 (h_ - 1).toNat)) := by
  have r_ : ∀ i_, (sm_aI S_ 91 0 h_.toNat (S_.2.2.1 91 0 (h_ - 1).toNat)).2.2.1 91 0 i_ = if i_ = h_.toNat then S_.2.2.1 91 0 (h_ - 1).toNat else S_.2.2.1 91 0 i_ := fun i_ => rd_eq
  have q_ : (sm_aI S_ 91 0 h_.toNat (S_.2.2.1 91 0 (h_ - 1).toNat)).2.2.1 20 (0 + bb_) = S_.2.2.1 20 (0 + bb_) := rd_ne_ (by decide)
  refine ⟨fun i_ hi_ hn_ => ?_, fun i_ j_ hij_ hj_ hi_ hn_ => ?_⟩
  · rw [q_, r_]
    by_cases z_ : i_ = h_.toNat
    · rw [if_pos z_]; exact g_.1 (h_ - 1).toNat (by omega) (by omega)
    · rw [if_neg z_]; exact g_.1 i_ hi_ (by omega)
  · rw [r_, r_]
    by_cases z_ : i_ = h_.toNat
    · rw [if_pos z_, if_neg (by omega)]
      exact g_.2 (h_ - 1).toNat j_ (by omega) hj_ (by omega) (by omega)
    · rw [if_neg z_]
      by_cases y_ : j_ = h_.toNat
      · rw [if_pos y_]
        exact g_.2 i_ (h_ - 1).toNat (by omega) (by omega) (by omega) (by omega)
      · rw [if_neg y_]
        exact g_.2 i_ j_ hij_ hj_ (by omega) (by omega)
theorem rrw_in {bb_ : Nat} {n_ k_ h_ : Int} {S_ S'_ : sm_S} (g_ : rrw bb_ n_ k_ h_ S_) (h0_ : 0 ≤ h_ ∧ h_ ≤ k_) (n0_ : 0 ≤ n_) (hp_ : 1 < S_.2.2.1 20 (0 + bb_) n_.toNat) (r_ : ∀ i_, S'_.2.2.1 91 0 i_ = if i_ = h_.toNat then n_ else S_.2.2.1 91 0 i_) (q_ : S'_.2.2.1 20 (0 + bb_) = S_.2.2.1 20 (0 + bb_)) : rrw bb_ (n_ + 1) (k_ + 1) (k_ + 1) S'_ := by
  refine ⟨fun i_ hi_ hn_ => ?_, fun i_ j_ hij_ hj_ hi_ hn_ => ?_⟩
  · rw [q_, r_]
    by_cases z_ : i_ = h_.toNat
    · rw [if_pos z_]; exact ⟨by omega, hp_⟩
    · rw [if_neg z_]
      have a_ := g_.1 i_ (by omega) (by omega)
      exact ⟨by omega, a_.2⟩
  · rw [r_, r_]
    by_cases z_ : i_ = h_.toNat
    · rw [if_pos z_, if_neg (by omega)]
      have a_ := g_.1 j_ (by omega) (by omega)
      omega
    · rw [if_neg z_]
      by_cases y_ : j_ = h_.toNat
      · rw [if_pos y_]
        have a_ := g_.1 i_ (by omega) (by omega)
        omega
      · rw [if_neg y_]
        exact g_.2 i_ j_ hij_ (by omega) (by omega) (by omega)
theorem rrw_up {bb_ : Nat} {n_ k_ : Int} {S_ S'_ : sm_S} (g_ : rrw bb_ n_ k_ k_ S_) (r_ : S'_.2.2.1 91 0 = S_.2.2.1 91 0) (q_ : S'_.2.2.1 20 (0 + bb_) = S_.2.2.1 20 (0 + bb_)) {m_ : Int} (h_ : n_ ≤ m_) : rrw bb_ m_ k_ k_ S'_ := by
  unfold rrw
  rw [r_, q_]
  exact ⟨fun i_ hi_ hn_ => by have a_ := g_.1 i_ hi_ hn_; exact ⟨by omega, a_.2⟩, g_.2⟩
/-- pins of_ a_ placed board lie_ on_ it_ -/
theorem rpt_of {bb_ ci_ : Nat} {S_ : sm_S} (h_ : bpn bb_ S_) (hl_ : bpl bb_ ci_ S_) (hp_ : bpp bb_ ci_ S_) (hr_ : 0 < S_.1 0 bb_ 1) (hs_ : 0 ≤ S_.1 0 bb_ 0) (c18_ : ∀ k_, 0 ≤ S_.2.2.1 18 (0 + bb_) k_ ∧ S_.2.2.1 18 (0 + bb_) k_ ≤ 651) (c14_ : ∀ k_, 0 ≤ S_.2.2.1 14 (0 + bb_) k_) (c15_ : ∀ k_, 0 ≤ S_.2.2.1 15 (0 + bb_) k_) (hL_ : S_.1 8 0 2 = S_.1 0 bb_ 2 * (S_.1 0 bb_ 0 + 2)) : rpt bb_ S_ := by
  intro c_ hc_ k_ hk_
  have a_ := (h_ c_ hc_).2 k_ hk_
  obtain ⟨l1_, l2_⟩ := hl_ hr_
  unfold ppk
  obtain ⟨p_, hq_⟩ : ∃ p_, p_ = S_.2.2.1 18 (0 + bb_) ((S_.2.2.1 19 (0 + bb_) c_).toNat + k_) := ⟨_, rfl⟩
  have b_ := c18_ ((S_.2.2.1 19 (0 + bb_) c_).toNat + k_)
  rw [← hq_] at a_ b_ ⊢
  have w_ := hp_ p_.toNat (by omega) (by omega)
  have key_ : (0 ≤ ppy bb_ S_ p_ ∧ ppy bb_ S_ p_ ≤ S_.1 0 bb_ 2 - 1) ∧ 0 ≤ ppx bb_ S_ p_ ∧ ppx bb_ S_ p_ ≤ S_.1 0 bb_ 0 + 1 := by
    unfold ppy ppx
    by_cases z_ : p_ < 624
    · rw [if_pos z_, if_pos z_]
      have e_ := w_.1 (by omega)
      have f_ := l2_ (p_.toNat / 4) e_.1
      have g1_ := c14_ (p_ / 4).toNat
      have g2_ := c15_ (p_ / 4).toNat
      rw [show (p_ / 4).toNat = p_.toNat / 4 by omega] at g1_ g2_ ⊢
      omega
    · rw [if_neg z_, if_neg z_]
      by_cases y_ : p_ < 636
      · rw [if_pos y_, if_pos y_]
        have e_ := w_.2.1 (by omega) (by omega)
        omega
      · rw [if_neg y_, if_neg y_]
        have e_ := w_.2.2 (by omega)
        omega
  obtain ⟨Y_, hY_⟩ : ∃ Y_, Y_ = ppy bb_ S_ p_ := ⟨_, rfl⟩
  obtain ⟨X_, hX_⟩ : ∃ X_, X_ = ppx bb_ S_ p_ := ⟨_, rfl⟩
  unfold ppt
  rw [← hY_, ← hX_] at key_ ⊢
  have m1_ : Y_ * (S_.1 0 bb_ 0 + 2) ≤ (S_.1 0 bb_ 2 - 1) * (S_.1 0 bb_ 0 + 2) := Int.mul_le_mul_of_nonneg_right key_.1.2 (by omega)
  have m2_ : 0 ≤ Y_ * (S_.1 0 bb_ 0 + 2) := Int.mul_nonneg key_.1.1 (by omega)
  rw [Int.sub_mul, Int.one_mul, ← hL_] at m1_
  omega
/-! java/util/Arrays.fill -/
def vw_2k5 : sx_Wl := ([], [85], [])
def vq_2k5 (v0_ : Int) (S0_ : sm_S) (u_ : Option sm_V) (S1_ : sm_S) : Prop := u_ = none ∧ gi S1_ ∧ ai_fr (sx_W vw_2k5) S0_ S1_ ∧ (∀ j_, j_ < 4712 → S1_.2.2.1 85 0 j_ = v0_)
set_option maxHeartbeats 400000 in
theorem vl_2k5 {sc_ : Nat × (Nat → Int)} (v0_ : Int) (S0_ : sm_S) (hv_ : (-1) ≤ v0_ ∧ v0_ ≤ 161) : ∀ nn_ : Nat, (∀ (k_ : Int) (S_ : sm_S), gi S_ → ai_fr (sx_W vw_2k5) S0_ S_ → ((0 ≤ k_ ∧ k_ ≤ 4712) ∧ (∀ j_, j_ < k_.toNat → S_.2.2.1 85 0 j_ = v0_) ∧ True) → ((4712 - k_).toNat) < nn_ → sm_T (mt_P sc_) 0 2 (5, [some (.inr (.inr (some (85, 0)))), some (.inl v0_), some (.inl k_), some (.inl 4712)], [], S_) (fun ro9_ => ∃ u_ S1_, ro9_ = (.inl u_, S1_, 0) ∧ vq_2k5 v0_ S0_ u_ S1_)) := by
  intro nn_
  induction nn_ with
  | zero => exact fun _ _ _ _ _ h_ => absurd h_ (Nat.not_lt_zero _)
  | succ nn_ ih_ =>
    rintro k_ S_ hI_ hF_ ⟨h0_, h1_, -⟩ hm_
    refine sm_T_go 2 (c1 := (7, [some (.inr (.inr (some (85, 0)))), some (.inl v0_), some (.inl k_), some (.inl 4712)], [.inl 4712, .inl k_], S_)) rfl ?_
    refine sm_T_br (a := 3) (z := 13) rfl (fun cx1_ => ?_) (fun cx1_ => ?_)
    · have cx1_ : 4712 ≤ k_ := of_decide_eq_true cx1_
      refine sm_T_rv rfl ⟨_, _, rfl, rfl, hI_, hF_, ?_⟩
      exact fun j_ hj_ => h1_ j_ (by omega)
    · have cx1_ : ¬ (4712 ≤ k_) := of_decide_eq_false cx1_
      refine sm_T_go 3 (c1 := (13, [some (.inr (.inr (some (85, 0)))), some (.inl v0_), some (.inl k_), some (.inl 4712)], [.inl v0_, .inl k_, .inr (.inr (some (85, 0)))], S_)) rfl ?_
      refine sm_T_iast (n := 4712) rfl rfl (by omega) (by omega) ?_
      have hIx2_ : gi (sm_aI S_ 85 0 k_.toNat v0_) := gi_aI hI_ (show (-1) ≤ v0_ ∧ v0_ ≤ 161 from ⟨by omega, by omega⟩)
      have hFx3_ : ai_fr (sx_W vw_2k5) S0_ (sm_aI S_ 85 0 k_.toNat v0_) := ai_fr_tr hF_ (ai_fr_aI rfl)
      refine sm_T_inc (a := 2) (z := 1) (v := k_) (w := k_ + 1) rfl rfl (by omega) (by omega) (by omega) ?_ -- pc_ 14
      refine sm_T_go 1 (c1 := (5, [some (.inr (.inr (some (85, 0)))), some (.inl v0_), some (.inl (k_ + 1)), some (.inl 4712)], [], sm_aI S_ 85 0 k_.toNat v0_)) rfl ?_
      refine ih_ (k_ + 1) (sm_aI S_ 85 0 k_.toNat v0_) hIx2_ hFx3_ ⟨?_, ?_, trivial⟩ ?_
      · omega
      · intro j_ hj_
        rw [rd_eq]
        by_cases z_ : j_ = k_.toNat
        · rw [if_pos z_]
        · rw [if_neg z_]; exact h1_ j_ (by omega)
      · omega
set_option maxHeartbeats 400000 in
theorem vc_2k5 {sc_ : Nat × (Nat → Int)} (v0_ : Int) (S0_ : sm_S) (hI_ : gi S0_) (hv_ : (-1) ≤ v0_ ∧ v0_ ≤ 161) : sm_T (mt_P sc_) 0 2 (0, [some (.inr (.inr (some (85, 0)))), some (.inl v0_), none, none], [], S0_) (fun ro9_ => ∃ u_ S1_, ro9_ = (.inl u_, S1_, 0) ∧ vq_2k5 v0_ S0_ u_ S1_) := by
  have hF_ : ai_fr (sx_W vw_2k5) S0_ S0_ := ai_fr_rf
  refine sm_T_go 5 (c1 := (5, [some (.inr (.inr (some (85, 0)))), some (.inl v0_), some (.inl 0), some (.inl 4712)], [], S0_)) rfl ?_
  refine (vl_2k5 v0_ S0_ hv_ _) 0 S0_ hI_ hF_ ⟨?_, ?_, trivial⟩ (Nat.lt_succ_self _)
  · omega
  · (intro j_ hj_; exact absurd hj_ (Nat.not_lt_zero _))
