/-! what is needed; written by wip/p55/gen/vg -/

/-! what a_ needed node is_ made of_ -/
theorem nd_p {dd_ F_ : Nat} {S_ : sm_S} {u_ : Nat → Int} {x_ : Nat} (hg_ : dgr dd_ F_ S_) (hs_ : swp dd_ F_ S_) (hk_ : mkd dd_ F_ S_ u_) (n13_ : S_.1 3 dd_ 4 ≤ 1013) (h1_ : F_ ≤ x_) (h2_ : (x_ : Int) < S_.1 3 dd_ 4) (h3_ : u_ x_ = 1) :
    (1 ≤ srp dd_ S_ (S_.2.2.1 42 (0 + dd_) x_) ∧ srp dd_ S_ (S_.2.2.1 42 (0 + dd_) x_) < x_ ∧ u_ (srp dd_ S_ (S_.2.2.1 42 (0 + dd_) x_)) = 1) ∧ (1 ≤ srp dd_ S_ (S_.2.2.1 43 (0 + dd_) x_) ∧ srp dd_ S_ (S_.2.2.1 43 (0 + dd_) x_) < x_ ∧ u_ (srp dd_ S_ (S_.2.2.1 43 (0 + dd_) x_)) = 1) ∧ srp dd_ S_ (S_.2.2.1 42 (0 + dd_) x_) ≠ srp dd_ S_ (S_.2.2.1 43 (0 + dd_) x_) := by
  have g_ := hg_.2.2 x_ h1_ h2_
  have a_ := srp_b hs_ (l_ := S_.2.2.1 42 (0 + dd_) x_) (by omega) (by omega)
  have b_ := srp_b hs_ (l_ := S_.2.2.1 43 (0 + dd_) x_) (by omega) (by omega)
  have c_ := hk_.2.2 x_ h1_ h2_ h3_
  have d_ : S_.2.2.1 44 (0 + dd_) x_ = 2 * (x_ : Int) := by
    rcases hk_.1 x_ (by omega) with z_ | z_
    · rw [z_] at h3_; exact absurd h3_ (by decide)
    · exact z_.2.2
  have e_ := (hs_.2 x_ h2_).2.2 h1_ d_
  have e1_ : (srp dd_ S_ (S_.2.2.1 42 (0 + dd_) x_) : Int) = S_.2.2.1 44 (0 + dd_) (S_.2.2.1 42 (0 + dd_) x_ / 2).toNat / 2 := by unfold srp; omega
  have e2_ : (srp dd_ S_ (S_.2.2.1 43 (0 + dd_) x_) : Int) = S_.2.2.1 44 (0 + dd_) (S_.2.2.1 43 (0 + dd_) x_ / 2).toNat / 2 := by unfold srp; omega
  obtain ⟨m1_, m2_, m3⟩ := e_
  exact ⟨⟨by omega, by omega, c_.1⟩, ⟨by omega, by omega, c_.2⟩, by omega⟩
/-- nodes below n_ that are_ needed -/
def npd (n_ : Int) (u_ : Nat → Int) (x_ : Int) : Prop := 1 ≤ x_ ∧ x_ < n_ ∧ u_ x_.toNat = 1
theorem mms_fr {w_ : sx_Wl} {P_ : Int → Prop} {S_ S'_ : sm_S} {k_ h_ : Int} (g_ : mms P_ S_ k_ h_) (f_ : ai_fr (sx_W w_) S_ S'_) (a_ : (sx_W w_).2.1 68 = false := by rfl) : mms P_ S'_ k_ h_ := fun i_ hi_ hn_ => by
  rw [(f_.2.2 68 a_ 0 i_).1]
  exact g_ i_ hi_ hn_
theorem mcs_fr {w_ : sx_Wl} {P_ : Int → Prop} {S_ S'_ : sm_S} (g_ : mcs P_ S_) (f_ : ai_fr (sx_W w_) S_ S'_) (a_ : (sx_W w_).2.1 65 = false := by rfl) (b_ : (sx_W w_).1 6 11 = false := by rfl) : mcs P_ S'_ := fun c_ hc_ => by
  rw [f_.1 6 0 11 b_] at hc_
  rw [(f_.2.2 65 a_ 0 (3 * c_)).1, (f_.2.2 65 a_ 0 (3 * c_ + 1)).1, (f_.2.2 65 a_ 0 (3 * c_ + 2)).1]
  exact g_ c_ hc_
theorem mms_0 {P_ : Int → Prop} {S_ : sm_S} : mms P_ S_ 0 0 := fun i_ hi_ hn_ => by exfalso; omega
theorem mcs_a {P_ : Int → Prop} {S_ : sm_S} (g_ : mcs P_ S_) {i_ k_ : Int} (hi_ : 0 ≤ i_ ∧ i_ < S_.1 6 0 11) (hk_ : 0 ≤ k_ ∧ k_ ≤ 2) (hn_ : S_.2.2.1 65 0 (3 * i_ + k_).toNat ≠ -1) : P_ (S_.2.2.1 65 0 (3 * i_ + k_).toNat) := by
  have q_ := g_ i_.toNat (by omega)
  have c_ : k_ = 0 ∨ k_ = 1 ∨ k_ = 2 := by omega
  rcases c_ with c_ | c_ | c_
  · rw [show (3 * i_ + k_).toNat = 3 * i_.toNat by omega]; exact q_.1
  · rw [show (3 * i_ + k_).toNat = 3 * i_.toNat + 1 by omega]; exact q_.2.1
  · rw [show (3 * i_ + k_).toNat = 3 * i_.toNat + 2 by omega] at hn_ ⊢
    exact q_.2.2.resolve_left hn_
theorem vt3 {k_ : Int} (h_ : 0 ≤ k_ ∧ k_ ≤ 2) : 0 ≤ st_at 3 k_ ∧ st_at 3 k_ ≤ 255 := by
  have c_ : k_ = 0 ∨ k_ = 1 ∨ k_ = 2 := by omega
  rcases c_ with c_ | c_ | c_ <;> rw [c_] <;> decide
/-! java/util/Arrays.fill -/
def vw_2m9 : sx_Wl := ([], [59], [])
def vq_2m9 (v0_ : Int) (S0_ : sm_S) (u_ : Option sm_V) (S1_ : sm_S) : Prop := u_ = none ∧ gi S1_ ∧ ai_fr (sx_W vw_2m9) S0_ S1_ ∧ (∀ j_, j_ < 1013 → S1_.2.2.1 59 0 j_ = v0_)
set_option maxHeartbeats 400000 in
theorem vl_2m9 {sc_ : Nat × (Nat → Int)} (v0_ : Int) (S0_ : sm_S) (hv_ : 0 ≤ v0_ ∧ v0_ ≤ 1) : ∀ nn_ : Nat, (∀ (k_ : Int) (S_ : sm_S), gi S_ → ai_fr (sx_W vw_2m9) S0_ S_ → ((0 ≤ k_ ∧ k_ ≤ 1013) ∧ (∀ j_, j_ < k_.toNat → S_.2.2.1 59 0 j_ = v0_) ∧ True) → ((1013 - k_).toNat) < nn_ → sm_T (mt_P sc_) 0 2 (5, [some (.inr (.inr (some (59, 0)))), some (.inl v0_), some (.inl k_), some (.inl 1013)], [], S_) (fun ro9_ => ∃ u_ S1_, ro9_ = (.inl u_, S1_, 0) ∧ vq_2m9 v0_ S0_ u_ S1_)) := by
  intro nn_
  induction nn_ with
  | zero => exact fun _ _ _ _ _ h_ => absurd h_ (Nat.not_lt_zero _)
  | succ nn_ ih_ =>
    rintro k_ S_ hI_ hF_ ⟨h0_, h1_, -⟩ hm_
    refine sm_T_go 2 (c1 := (7, [some (.inr (.inr (some (59, 0)))), some (.inl v0_), some (.inl k_), some (.inl 1013)], [.inl 1013, .inl k_], S_)) rfl ?_
    refine sm_T_br (a := 3) (z := 13) rfl (fun cx1_ => ?_) (fun cx1_ => ?_)
    · have cx1_ : 1013 ≤ k_ := of_decide_eq_true cx1_
      refine sm_T_rv rfl ⟨_, _, rfl, rfl, hI_, hF_, ?_⟩
      exact fun j_ hj_ => h1_ j_ (by omega)
    · have cx1_ : ¬ (1013 ≤ k_) := of_decide_eq_false cx1_
      refine sm_T_go 3 (c1 := (13, [some (.inr (.inr (some (59, 0)))), some (.inl v0_), some (.inl k_), some (.inl 1013)], [.inl v0_, .inl k_, .inr (.inr (some (59, 0)))], S_)) rfl ?_
      refine sm_T_iast (n := 1013) rfl rfl (by omega) (by omega) ?_
      have hIx2_ : gi (sm_aI S_ 59 0 k_.toNat v0_) := gi_aI hI_ (show 0 ≤ v0_ ∧ v0_ ≤ 1 from ⟨by omega, by omega⟩)
      have hFx3_ : ai_fr (sx_W vw_2m9) S0_ (sm_aI S_ 59 0 k_.toNat v0_) := ai_fr_tr hF_ (ai_fr_aI rfl)
      refine sm_T_inc (a := 2) (z := 1) (v := k_) (w := k_ + 1) rfl rfl (by omega) (by omega) (by omega) ?_ -- pc_ 14
      refine sm_T_go 1 (c1 := (5, [some (.inr (.inr (some (59, 0)))), some (.inl v0_), some (.inl (k_ + 1)), some (.inl 1013)], [], sm_aI S_ 59 0 k_.toNat v0_)) rfl ?_
      refine ih_ (k_ + 1) (sm_aI S_ 59 0 k_.toNat v0_) hIx2_ hFx3_ ⟨?_, ?_, trivial⟩ ?_
      · omega
      · intro j_ hj_
        rw [rd_eq]
        by_cases z_ : j_ = k_.toNat
        · rw [if_pos z_]
        · rw [if_neg z_]; exact h1_ j_ (by omega)
      · omega
set_option maxHeartbeats 400000 in
theorem vc_2m9 {sc_ : Nat × (Nat → Int)} (v0_ : Int) (S0_ : sm_S) (hI_ : gi S0_) (hv_ : 0 ≤ v0_ ∧ v0_ ≤ 1) : sm_T (mt_P sc_) 0 2 (0, [some (.inr (.inr (some (59, 0)))), some (.inl v0_), none, none], [], S0_) (fun ro9_ => ∃ u_ S1_, ro9_ = (.inl u_, S1_, 0) ∧ vq_2m9 v0_ S0_ u_ S1_) := by
  have hF_ : ai_fr (sx_W vw_2m9) S0_ S0_ := ai_fr_rf
  refine sm_T_go 5 (c1 := (5, [some (.inr (.inr (some (59, 0)))), some (.inl v0_), some (.inl 0), some (.inl 1013)], [], S0_)) rfl ?_
  refine (vl_2m9 v0_ S0_ hv_ _) 0 S0_ hI_ hF_ ⟨?_, ?_, trivial⟩ (Nat.lt_succ_self _)
  · omega
  · (intro j_ hj_; exact absurd hj_ (Nat.not_lt_zero _))
