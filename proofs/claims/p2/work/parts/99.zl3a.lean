/-! boxes drawn; written by wip/p55/gen/vg -/

/-! boxes counted, then drawn -/
def ssm (f_ : Nat → Int) : Nat → Int
  | 0 => 0
  | n_ + 1 => ssm f_ n_ + f_ n_
theorem ssm_s (f_ : Nat → Int) (n_ : Nat) : ssm f_ (n_ + 1) = ssm f_ n_ + f_ n_ := rfl
theorem ssm_mo {f_ : Nat → Int} (h_ : ∀ k_, 0 ≤ f_ k_) {n_ : Nat} : ∀ {m_ : Nat}, n_ ≤ m_ → ssm f_ n_ ≤ ssm f_ m_
  | 0, q_ => by rw [show n_ = 0 by omega]; exact Int.le_refl _
  | m_ + 1, q_ => by
    by_cases z_ : n_ = m_ + 1
    · rw [z_]; exact Int.le_refl _
    · have a_ := ssm_mo h_ (n_ := n_) (m_ := m_) (by omega)
      have b_ := h_ m_
      rw [ssm_s]; omega
theorem ssm_0 {f_ : Nat → Int} (h_ : ∀ k_, 0 ≤ f_ k_) (n_ : Nat) : 0 ≤ ssm f_ n_ := ssm_mo h_ (n_ := 0) (Nat.zero_le n_)
theorem ssm_cg {f_ g_ : Nat → Int} : ∀ {n_ : Nat}, (∀ k_, k_ < n_ → f_ k_ = g_ k_) → ssm f_ n_ = ssm g_ n_
  | 0, _ => rfl
  | n_ + 1, h_ => by rw [ssm_s, ssm_s, ssm_cg (fun k_ hk_ => h_ k_ (by omega)), h_ n_ (by omega)]
def btf (bb_ : Nat) (S_ : sm_S) (c_ : Nat) : Int := (btot bb_ S_ (c_ : Int) : Int)
theorem btf_0 (bb_ : Nat) (S_ : sm_S) (c_ : Nat) : 0 ≤ btf bb_ S_ c_ := Int.natCast_nonneg _
theorem btot_le {bb_ : Nat} {S_ : sm_S} (h0_ : 0 ≤ S_.1 0 bb_ 0 ∧ S_.1 0 bb_ 0 ≤ 60) (h2_ : 0 ≤ S_.1 0 bb_ 2 ∧ S_.1 0 bb_ 2 ≤ 38) (c_ : Int) : btot bb_ S_ c_ ≤ 7068 := by
  have a_ := cg_le (g_ := gt0 bb_ S_) (c_ := c_) (w_ := gtw bb_ S_) (gth bb_ S_)
  have b_ := cg_le (g_ := gt1 bb_ S_) (c_ := c_) (w_ := gth bb_ S_) (gtw bb_ S_)
  have d_ := cg_le (g_ := gt2 bb_ S_) (c_ := c_) (w_ := gtw bb_ S_) (gth bb_ S_)
  have w_ : gtw bb_ S_ ≤ 62 := by show Int.toNat _ ≤ 62; omega
  have h_ : gth bb_ S_ ≤ 38 := by show Int.toNat _ ≤ 38; omega
  have m_ := Nat.mul_le_mul h_ w_
  rw [Nat.mul_comm (gtw bb_ S_) (gth bb_ S_)] at b_
  unfold btot
  omega
theorem btot_cg {bb_ : Nat} {S_ S'_ : sm_S} (a_ : S'_.2.2.1 22 (0 + bb_) = S_.2.2.1 22 (0 + bb_)) (b_ : S'_.2.2.1 23 (0 + bb_) = S_.2.2.1 23 (0 + bb_)) (e0_ : S'_.1 0 bb_ 0 = S_.1 0 bb_ 0) (e2_ : S'_.1 0 bb_ 2 = S_.1 0 bb_ 2) : btot bb_ S'_ = btot bb_ S_ := by
  unfold btot gt0 gt1 gt2 gtw gth
  rw [a_, b_, e0_, e2_]
theorem cne_z {f_ : Nat → Int} {c_ : Int} {n_ : Nat} (h_ : ∀ k_, f_ k_ ≠ c_) : cne f_ c_ n_ = 0 := cne_0 (fun k_ _ => h_ k_)
theorem cg_z {g_ : Nat → Nat → Int} {c_ : Int} {w_ : Nat} (h_ : ∀ y_ x_, g_ y_ x_ ≠ c_) : ∀ y_, cg g_ c_ w_ y_ = 0
  | 0 => rfl
  | y_ + 1 => by rw [cg_s, cg_z h_ y_, cne_z (h_ y_)]
/-- nets that own_ nothing have no_ boxes -/
theorem btot_z {bb_ : Nat} {S_ : sm_S} {c_ : Int} (hc_ : 0 ≤ c_) (h_ : ∀ k_, S_.2.2.1 22 (0 + bb_) k_ ≠ c_) : btot bb_ S_ c_ = 0 := by
  have n_ : (-1 : Int) ≠ c_ := by omega
  unfold btot
  rw [cg_z, cg_z, cg_z]
  · intro y_ x_
    unfold gt2 tk2
    split
    · exact n_
    · exact h_ _
  · intro y_ x_
    unfold gt1 tk1
    split
    · exact n_
    · split
      · exact n_
      · exact h_ _
  · intro y_ x_
    unfold gt0 tk0
    split
    · exact n_
    · split
      · exact n_
      · exact h_ _
/-! java/util/Arrays.fill -/
def vw_2n9 : sx_Wl := ([], [49], [])
def vq_2n9 (v0_ : Int) (ii_ : Nat) (S0_ : sm_S) (u_ : Option sm_V) (S1_ : sm_S) : Prop := u_ = none ∧ gi S1_ ∧ ai_fr (sx_W vw_2n9) S0_ S1_ ∧ (cdf ii_ S0_ S1_ ∧ (∀ j_, j_ < 162 → S1_.2.2.1 49 (0 + ii_) j_ = v0_))
set_option maxHeartbeats 400000 in
theorem vl_2n9 {sc_ : Nat × (Nat → Int)} (v0_ : Int) (ii_ : Nat) (S0_ : sm_S) (hv_ : 0 ≤ v0_ ∧ v0_ ≤ 20000) : ∀ nn_ : Nat, (∀ (k_ : Int) (S_ : sm_S), gi S_ → ai_fr (sx_W vw_2n9) S0_ S_ → ((0 ≤ k_ ∧ k_ ≤ 162) ∧ (∀ j_, j_ < k_.toNat → S_.2.2.1 49 (0 + ii_) j_ = v0_) ∧ (cdf ii_ S0_ S_) ∧ True) → ((162 - k_).toNat) < nn_ → sm_T (mt_P sc_) 0 2 (5, [some (.inr (.inr (some (49, (0 + ii_))))), some (.inl v0_), some (.inl k_), some (.inl 162)], [], S_) (fun ro9_ => ∃ u_ S1_, ro9_ = (.inl u_, S1_, 0) ∧ vq_2n9 v0_ ii_ S0_ u_ S1_)) := by
  intro nn_
  induction nn_ with
  | zero => exact fun _ _ _ _ _ h_ => absurd h_ (Nat.not_lt_zero _)
  | succ nn_ ih_ =>
    rintro k_ S_ hI_ hF_ ⟨h0_, h1_, hC_, -⟩ hm_
    refine sm_T_go 2 (c1 := (7, [some (.inr (.inr (some (49, (0 + ii_))))), some (.inl v0_), some (.inl k_), some (.inl 162)], [.inl 162, .inl k_], S_)) rfl ?_
    refine sm_T_br (a := 3) (z := 13) rfl (fun cx1_ => ?_) (fun cx1_ => ?_)
    · have cx1_ : 162 ≤ k_ := of_decide_eq_true cx1_
      refine sm_T_rv rfl ⟨_, _, rfl, rfl, hI_, hF_, ?_⟩
      refine ⟨hC_, ?_⟩
      exact fun j_ hj_ => h1_ j_ (by omega)
    · have cx1_ : ¬ (162 ≤ k_) := of_decide_eq_false cx1_
      refine sm_T_go 3 (c1 := (13, [some (.inr (.inr (some (49, (0 + ii_))))), some (.inl v0_), some (.inl k_), some (.inl 162)], [.inl v0_, .inl k_, .inr (.inr (some (49, (0 + ii_))))], S_)) rfl ?_
      refine sm_T_iast (n := 162) rfl rfl (by omega) (by omega) ?_
      have hIx2_ : gi (sm_aI S_ 49 (0 + ii_) k_.toNat v0_) := gi_aI hI_ (show 0 ≤ v0_ ∧ v0_ ≤ 20000 from ⟨by omega, by omega⟩)
      have hFx3_ : ai_fr (sx_W vw_2n9) S0_ (sm_aI S_ 49 (0 + ii_) k_.toNat v0_) := ai_fr_tr hF_ (ai_fr_aI rfl)
      have hCx4_ : cdf ii_ S0_ (sm_aI S_ 49 (0 + ii_) k_.toNat v0_) := cdf_aI hC_ (Or.inr (by rw [show cof 49 = 0 from rfl] <;> omega))
      refine sm_T_inc (a := 2) (z := 1) (v := k_) (w := k_ + 1) rfl rfl (by omega) (by omega) (by omega) ?_ -- pc_ 14
      refine sm_T_go 1 (c1 := (5, [some (.inr (.inr (some (49, (0 + ii_))))), some (.inl v0_), some (.inl (k_ + 1)), some (.inl 162)], [], sm_aI S_ 49 (0 + ii_) k_.toNat v0_)) rfl ?_
      refine ih_ (k_ + 1) (sm_aI S_ 49 (0 + ii_) k_.toNat v0_) hIx2_ hFx3_ ⟨?_, ?_, ?_, trivial⟩ ?_
      · omega
      · intro j_ hj_
        rw [rd_eq]
        by_cases z_ : j_ = k_.toNat
        · rw [if_pos z_]
        · rw [if_neg z_]; exact h1_ j_ (by omega)
      · exact hCx4_
      · omega
set_option maxHeartbeats 400000 in
theorem vc_2n9 {sc_ : Nat × (Nat → Int)} (v0_ : Int) (ii_ : Nat) (S0_ : sm_S) (hI_ : gi S0_) (hv_ : 0 ≤ v0_ ∧ v0_ ≤ 20000) : sm_T (mt_P sc_) 0 2 (0, [some (.inr (.inr (some (49, (0 + ii_))))), some (.inl v0_), none, none], [], S0_) (fun ro9_ => ∃ u_ S1_, ro9_ = (.inl u_, S1_, 0) ∧ vq_2n9 v0_ ii_ S0_ u_ S1_) := by
  have hF_ : ai_fr (sx_W vw_2n9) S0_ S0_ := ai_fr_rf
  have hC_ : cdf ii_ S0_ S0_ := cdf_rf
  refine sm_T_go 5 (c1 := (5, [some (.inr (.inr (some (49, (0 + ii_))))), some (.inl v0_), some (.inl 0), some (.inl 162)], [], S0_)) rfl ?_
  refine (vl_2n9 v0_ ii_ S0_ hv_ _) 0 S0_ hI_ hF_ ⟨?_, ?_, ?_, trivial⟩ (Nat.lt_succ_self _)
  · omega
  · (intro j_ hj_; exact absurd hj_ (Nat.not_lt_zero _))
  · exact hC_
