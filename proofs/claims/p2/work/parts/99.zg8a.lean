/-! the class: tables and states; written by wip/p55/gen/vg -/

/-! tables and states -/
theorem l_bit {x_ : Int} : l_l2i (l_3 x_ 1) = 0 ∨ l_l2i (l_3 x_ 1) = 1 := by
  have e_ : l_3 x_ 1 = (Int64.ofInt x_ &&& 1).toInt := rfl
  have two_ : Int64.ofInt x_ &&& 1 = 0 ∨ Int64.ofInt x_ &&& 1 = 1 := i64_1 _
  rw [e_]
  rcases two_ with z_ | z_
  · rw [z_]; left; decide
  · rw [z_]; right; decide
theorem bsh {x_ e_ : Int} {k_ : Nat} (hx_ : x_ = 0 ∨ x_ = 1) (h0_ : 0 ≤ e_) (h1_ : e_ < (k_ : Int)) (hk_ : k_ ≤ 22) : 0 ≤ i_shl x_ e_ ∧ i_shl x_ e_ < 2 ^ k_ := by
  have p1_ : (2 : Int) ^ e_.toNat < 2 ^ k_ := by
    have q_ : (2 : Int) ^ (e_.toNat + 1) ≤ 2 ^ k_ := pw_le (by omega)
    have q2_ := pw_pos e_.toNat
    rw [pw_add] at q_
    omega
  have p2_ := pw_pos e_.toNat
  have p3_ : (2 : Int) ^ k_ ≤ 2 ^ 22 := pw_le hk_
  have v_ := i_shlv (x_ := x_) (e_ := e_) h0_ (by omega) (by omega) (by rcases hx_ with z_ | z_ <;> rw [z_] <;> omega)
  rw [v_]
  rcases hx_ with z_ | z_
  · rw [z_]; omega
  · rw [z_]; omega
/-- a_ design's tables -/
def dtb (dd_ : Nat) (S_ : sm_S) : Prop := ∀ p_ : Nat, p_ < 4096 → 0 ≤ S_.2.2.1 47 (0 + dd_) p_ ∧ S_.2.2.1 47 (0 + dd_) p_ < 2 ^ (16 + (S_.1 3 dd_ 2).toNat)
theorem shr16 {x_ : Int} {R_ : Nat} (h_ : 0 ≤ x_ ∧ x_ < 2 ^ (16 + R_)) : 0 ≤ x_ / 65536 ∧ x_ / 65536 < 2 ^ R_ := by
  rw [pw_add] at h_
  omega
/-! java/util/Arrays.fill -/
def vw_2t : sx_Wl := ([], [47], [])
def vq_2t (v0_ : Int) (dd_ : Nat) (S0_ : sm_S) (u_ : Option sm_V) (S1_ : sm_S) : Prop := u_ = none ∧ gi S1_ ∧ ai_fr (sx_W vw_2t) S0_ S1_ ∧ (idf dd_ S0_ S1_ ∧ (∀ j_, j_ < 4096 → S1_.2.2.1 47 (0 + dd_) j_ = v0_))
set_option maxHeartbeats 400000 in
theorem vl_2t {sc_ : Nat × (Nat → Int)} (v0_ : Int) (dd_ : Nat) (S0_ : sm_S) (hv_ : 0 ≤ v0_ ∧ v0_ ≤ 4194303) : ∀ nn_ : Nat, (∀ (k_ : Int) (S_ : sm_S), gi S_ → ai_fr (sx_W vw_2t) S0_ S_ → ((0 ≤ k_ ∧ k_ ≤ 4096) ∧ (∀ j_, j_ < k_.toNat → S_.2.2.1 47 (0 + dd_) j_ = v0_) ∧ (idf dd_ S0_ S_) ∧ True) → ((4096 - k_).toNat) < nn_ → sm_T (mt_P sc_) 0 2 (5, [some (.inr (.inr (some (47, (0 + dd_))))), some (.inl v0_), some (.inl k_), some (.inl 4096)], [], S_) (fun ro9_ => ∃ u_ S1_, ro9_ = (.inl u_, S1_, 0) ∧ vq_2t v0_ dd_ S0_ u_ S1_)) := by
  intro nn_
  induction nn_ with
  | zero => exact fun _ _ _ _ _ h_ => absurd h_ (Nat.not_lt_zero _)
  | succ nn_ ih_ =>
    rintro k_ S_ hI_ hF_ ⟨h0_, h1_, hD_, -⟩ hm_
    refine sm_T_go 2 (c1 := (7, [some (.inr (.inr (some (47, (0 + dd_))))), some (.inl v0_), some (.inl k_), some (.inl 4096)], [.inl 4096, .inl k_], S_)) rfl ?_
    refine sm_T_br (a := 3) (z := 13) rfl (fun cx1_ => ?_) (fun cx1_ => ?_)
    · have cx1_ : 4096 ≤ k_ := of_decide_eq_true cx1_
      refine sm_T_rv rfl ⟨_, _, rfl, rfl, hI_, hF_, ?_⟩
      refine ⟨hD_, ?_⟩
      exact fun j_ hj_ => h1_ j_ (by omega)
    · have cx1_ : ¬ (4096 ≤ k_) := of_decide_eq_false cx1_
      refine sm_T_go 3 (c1 := (13, [some (.inr (.inr (some (47, (0 + dd_))))), some (.inl v0_), some (.inl k_), some (.inl 4096)], [.inl v0_, .inl k_, .inr (.inr (some (47, (0 + dd_))))], S_)) rfl ?_
      refine sm_T_iast (n := 4096) rfl rfl (by omega) (by omega) ?_
      have hIx2_ : gi (sm_aI S_ 47 (0 + dd_) k_.toNat v0_) := gi_aI hI_ (show 0 ≤ v0_ ∧ v0_ ≤ 4194303 from ⟨by omega, by omega⟩)
      have hFx3_ : ai_fr (sx_W vw_2t) S0_ (sm_aI S_ 47 (0 + dd_) k_.toNat v0_) := ai_fr_tr hF_ (ai_fr_aI rfl)
      have hDx4_ : idf dd_ S0_ (sm_aI S_ 47 (0 + dd_) k_.toNat v0_) := idf_aI hD_ (Or.inr rfl)
      refine sm_T_inc (a := 2) (z := 1) (v := k_) (w := k_ + 1) rfl rfl (by omega) (by omega) (by omega) ?_
      refine sm_T_go 1 (c1 := (5, [some (.inr (.inr (some (47, (0 + dd_))))), some (.inl v0_), some (.inl (k_ + 1)), some (.inl 4096)], [], sm_aI S_ 47 (0 + dd_) k_.toNat v0_)) rfl ?_
      refine ih_ (k_ + 1) (sm_aI S_ 47 (0 + dd_) k_.toNat v0_) hIx2_ hFx3_ ⟨?_, ?_, ?_, trivial⟩ ?_
      · omega
      · intro j_ hj_
        rw [rd_eq]
        by_cases z_ : j_ = k_.toNat
        · rw [if_pos z_]
        · rw [if_neg z_]; exact h1_ j_ (by omega)
      · exact hDx4_
      · omega
set_option maxHeartbeats 400000 in
theorem vc_2t {sc_ : Nat × (Nat → Int)} (v0_ : Int) (dd_ : Nat) (S0_ : sm_S) (hI_ : gi S0_) (hv_ : 0 ≤ v0_ ∧ v0_ ≤ 4194303) : sm_T (mt_P sc_) 0 2 (0, [some (.inr (.inr (some (47, (0 + dd_))))), some (.inl v0_), none, none], [], S0_) (fun ro9_ => ∃ u_ S1_, ro9_ = (.inl u_, S1_, 0) ∧ vq_2t v0_ dd_ S0_ u_ S1_) := by
  have hF_ : ai_fr (sx_W vw_2t) S0_ S0_ := ai_fr_rf
  have hD_ : idf dd_ S0_ S0_ := idf_rf
  refine sm_T_go 5 (c1 := (5, [some (.inr (.inr (some (47, (0 + dd_))))), some (.inl v0_), some (.inl 0), some (.inl 4096)], [], S0_)) rfl ?_
  refine (vl_2t v0_ dd_ S0_ hv_ _) 0 S0_ hI_ hF_ ⟨?_, ?_, ?_, trivial⟩ (Nat.lt_succ_self _)
  · omega
  · (intro j_ hj_; exact absurd hj_ (Nat.not_lt_zero _))
  · exact hD_
