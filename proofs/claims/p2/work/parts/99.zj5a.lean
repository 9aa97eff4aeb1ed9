/-! machines compared; written by wip/p55/gen/vg -/

/-! machines compared -/
/-- pairs of_ states met_: each has_ one_ before it_, or is_ the_ first -/
def prf (S_ : sm_S) : Prop := ∀ j_ : Nat, j_ < 4096 → S_.2.2.1 113 0 j_ ≠ -2 → S_.2.2.1 113 0 j_ = -1 ∨ (0 ≤ S_.2.2.1 113 0 j_ ∧ S_.2.2.1 113 0 (S_.2.2.1 113 0 j_).toNat ≠ -2)
def pit (S_ : sm_S) (p_ : Int) : Nat → Int
  | 0 => p_
  | n_ + 1 => S_.2.2.1 113 0 (pit S_ p_ n_).toNat
theorem prf_cg {S_ S'_ : sm_S} (e_ : S'_.2.2.1 113 0 = S_.2.2.1 113 0) (h_ : prf S_) : prf S'_ := by
  unfold prf
  rw [e_]
  exact h_
def pn2 (f_ : Nat → Int) (k_ : Nat) : Int := if f_ k_ = -2 then 0 else 1
theorem pn2_1 {f_ : Nat → Int} {k_ : Nat} : pn2 f_ k_ = 1 ↔ f_ k_ ≠ -2 := by
  unfold pn2
  split
  · rename_i h_
    exact ⟨fun z_ => absurd z_ (by decide), fun z_ => absurd h_ z_⟩
  · rename_i h_
    exact ⟨fun _ => h_, fun _ => rfl⟩
theorem or64 {a_ b_ : Int} (ha_ : 0 ≤ a_ ∧ a_ < 64) (hb_ : 0 ≤ b_ ∧ b_ < 64) : i_or (64 * a_) b_ = 64 * a_ + b_ := by
  have e_ : i_or (64 * a_) b_ = (((64 * a_).toNat ||| b_.toNat : Nat) : Int) := bt_or_nat (by omega) (by omega) hb_.1 (by omega)
  rw [e_]
  have q_ : a_.toNat <<< 6 + b_.toNat = a_.toNat <<< 6 ||| b_.toNat := Nat.shiftLeft_add_eq_or_of_lt (by omega) _
  have z_ : (64 * a_).toNat = a_.toNat <<< 6 := by rw [Nat.shiftLeft_eq]; omega
  rw [z_, ← q_, Nat.shiftLeft_eq]
  omega
/-! java/util/Arrays.fill -/
def vw_2p : sx_Wl := ([], [113], [])
def vq_2p (v0_ : Int) (S0_ : sm_S) (u_ : Option sm_V) (S1_ : sm_S) : Prop := u_ = none ∧ gi S1_ ∧ ai_fr (sx_W vw_2p) S0_ S1_ ∧ (∀ j_, j_ < 4096 → S1_.2.2.1 113 0 j_ = v0_)
set_option maxHeartbeats 400000 in
theorem vl_2p {sc_ : Nat × (Nat → Int)} (v0_ : Int) (S0_ : sm_S) (hv_ : (-2) ≤ v0_ ∧ v0_ ≤ 4095) : ∀ nn_ : Nat, (∀ (k_ : Int) (S_ : sm_S), gi S_ → ai_fr (sx_W vw_2p) S0_ S_ → ((0 ≤ k_ ∧ k_ ≤ 4096) ∧ (∀ j_, j_ < k_.toNat → S_.2.2.1 113 0 j_ = v0_) ∧ True) → ((4096 - k_).toNat) < nn_ → sm_T (mt_P sc_) 0 2 (5, [some (.inr (.inr (some (113, 0)))), some (.inl v0_), some (.inl k_), some (.inl 4096)], [], S_) (fun ro9_ => ∃ u_ S1_, ro9_ = (.inl u_, S1_, 0) ∧ vq_2p v0_ S0_ u_ S1_)) := by
  intro nn_
  induction nn_ with
  | zero => exact fun _ _ _ _ _ h_ => absurd h_ (Nat.not_lt_zero _)
  | succ nn_ ih_ =>
    rintro k_ S_ hI_ hF_ ⟨h0_, h1_, -⟩ hm_
    refine sm_T_go 2 (c1 := (7, [some (.inr (.inr (some (113, 0)))), some (.inl v0_), some (.inl k_), some (.inl 4096)], [.inl 4096, .inl k_], S_)) rfl ?_
    refine sm_T_br (a := 3) (z := 13) rfl (fun cx1_ => ?_) (fun cx1_ => ?_)
    · have cx1_ : 4096 ≤ k_ := of_decide_eq_true cx1_
      refine sm_T_rv rfl ⟨_, _, rfl, rfl, hI_, hF_, ?_⟩
      exact fun j_ hj_ => h1_ j_ (by omega)
    · have cx1_ : ¬ (4096 ≤ k_) := of_decide_eq_false cx1_
      refine sm_T_go 3 (c1 := (13, [some (.inr (.inr (some (113, 0)))), some (.inl v0_), some (.inl k_), some (.inl 4096)], [.inl v0_, .inl k_, .inr (.inr (some (113, 0)))], S_)) rfl ?_
      refine sm_T_iast (n := 4096) rfl rfl (by omega) (by omega) ?_
      have hIx2_ : gi (sm_aI S_ 113 0 k_.toNat v0_) := gi_aI hI_ (show (-2) ≤ v0_ ∧ v0_ ≤ 4095 from ⟨by omega, by omega⟩)
      have hFx3_ : ai_fr (sx_W vw_2p) S0_ (sm_aI S_ 113 0 k_.toNat v0_) := ai_fr_tr hF_ (ai_fr_aI rfl)
      refine sm_T_inc (a := 2) (z := 1) (v := k_) (w := k_ + 1) rfl rfl (by omega) (by omega) (by omega) ?_ -- pc_ 14
      refine sm_T_go 1 (c1 := (5, [some (.inr (.inr (some (113, 0)))), some (.inl v0_), some (.inl (k_ + 1)), some (.inl 4096)], [], sm_aI S_ 113 0 k_.toNat v0_)) rfl ?_
      refine ih_ (k_ + 1) (sm_aI S_ 113 0 k_.toNat v0_) hIx2_ hFx3_ ⟨?_, ?_, trivial⟩ ?_
      · omega
      · intro j_ hj_
        rw [rd_eq]
        by_cases z_ : j_ = k_.toNat
        · rw [if_pos z_]
        · rw [if_neg z_]; exact h1_ j_ (by omega)
      · omega
set_option maxHeartbeats 400000 in
theorem vc_2p {sc_ : Nat × (Nat → Int)} (v0_ : Int) (S0_ : sm_S) (hI_ : gi S0_) (hv_ : (-2) ≤ v0_ ∧ v0_ ≤ 4095) : sm_T (mt_P sc_) 0 2 (0, [some (.inr (.inr (some (113, 0)))), some (.inl v0_), none, none], [], S0_) (fun ro9_ => ∃ u_ S1_, ro9_ = (.inl u_, S1_, 0) ∧ vq_2p v0_ S0_ u_ S1_) := by
  have hF_ : ai_fr (sx_W vw_2p) S0_ S0_ := ai_fr_rf
  refine sm_T_go 5 (c1 := (5, [some (.inr (.inr (some (113, 0)))), some (.inl v0_), some (.inl 0), some (.inl 4096)], [], S0_)) rfl ?_
  refine (vl_2p v0_ S0_ hv_ _) 0 S0_ hI_ hF_ ⟨?_, ?_, trivial⟩ (Nat.lt_succ_self _)
  · omega
  · (intro j_ hj_; exact absurd hj_ (Nat.not_lt_zero _))
