/-! Router.firstOpen -/
def vw_156 : sx_Wl := ([], [], [])
def vq_156 (bb_ : Nat) (n_ : Int) (S0_ : sm_S) (u_ : Option sm_V) (S1_ : sm_S) : Prop := S0_ = S1_ ∧ ∃ v_ : Int, u_ = some (.inl v_) ∧ (v_ = -1 ∨ ((0 ≤ v_ ∧ v_ < n_) ∧ 1 < S0_.2.2.1 20 (0 + bb_) v_.toNat ∧ S0_.2.2.1 24 (0 + bb_) v_.toNat ≠ 0))
set_option maxHeartbeats 400000 in
theorem vl_156 {sc_ : Nat × (Nat → Int)} (bb_ : Nat) (n_ : Int) (S0_ : sm_S) (hb_ : S0_.2.1 8 0 0 = some bb_) (hn_ : n_ ≤ 162) (hr_ : rrw bb_ n_ (S0_.1 8 0 13) (S0_.1 8 0 13) S0_) : ∀ nn_ : Nat, (∀ (k_ : Int) (S_ : sm_S), gi S_ → ai_fr (sx_W vw_156) S0_ S_ → ((0 ≤ k_ ∧ k_ ≤ 162) ∧ (S_ = S0_) ∧ True) → ((1000 - k_).toNat) < nn_ → sm_T (mt_P sc_) 0 156 (2, [some (.inr (.inr (some (8, 0)))), some (.inl k_)], [], S_) (fun ro9_ => ∃ u_ S1_, ro9_ = (.inl u_, S1_, 0) ∧ vq_156 bb_ n_ S0_ u_ S1_)) := by
  intro nn_
  induction nn_ with
  | zero => exact fun _ _ _ _ _ h_ => absurd h_ (Nat.not_lt_zero _)
  | succ nn_ ih_ =>
    rintro k_ S_ hI_ hF_ ⟨h0_, hS_, -⟩ hm_
    have bx1_ : 0 ≤ S_.1 8 0 13 ∧ S_.1 8 0 13 ≤ 162 := hI_.1 8 0 13 rfl
    refine sm_T_go 3 (c1 := (7, [some (.inr (.inr (some (8, 0)))), some (.inl k_)], [.inl (S_.1 8 0 13), .inl k_], S_)) rfl ?_
    refine sm_T_br (a := 3) (z := 33) rfl (fun cx2_ => ?_) (fun cx2_ => ?_)
    · have cx2_ : (S_.1 8 0 13) ≤ k_ := of_decide_eq_true cx2_
      refine sm_T_go 1 (c1 := (41, [some (.inr (.inr (some (8, 0)))), some (.inl k_)], [.inl (-1)], S_)) rfl ?_
      refine sm_T_ri rfl ⟨_, _, rfl, (by first | rfl | exact hS_.symm), _, rfl, ?_⟩
      (left; rfl)
    · have cx2_ : ¬ ((S_.1 8 0 13) ≤ k_) := of_decide_eq_false cx2_
      have g9_ := hr_.1 k_.toNat (by rw [← hS_]; omega) (by rw [← hS_]; omega)
      rw [← hS_] at g9_
      refine sm_T_go 1 (c1 := (11, [some (.inr (.inr (some (8, 0)))), some (.inl k_)], [.inr (.inr (some (8, 0)))], S_)) rfl ?_
      refine sm_T_gr rfl rfl ((hF_.2.1 8 0 0 rfl).trans hb_) ?_
      refine sm_T_go 4 (c1 := (22, [some (.inr (.inr (some (8, 0)))), some (.inl k_)], [.inl k_, .inr (.inr (some (91, 0))), .inr (.inr (some (24, (0 + bb_))))], S_)) rfl ?_
      refine sm_T_iald (n := 162) rfl rfl (by omega) (by omega) ?_
      have bx3_ : 0 ≤ S_.2.2.1 91 0 k_.toNat ∧ S_.2.2.1 91 0 k_.toNat ≤ 161 := hI_.2 91 0 _
      refine sm_T_iald (n := 162) rfl rfl (by omega) (by omega) ?_
      have bx4_ : 0 ≤ S_.2.2.1 24 (0 + bb_) (S_.2.2.1 91 0 k_.toNat).toNat ∧ S_.2.2.1 24 (0 + bb_) (S_.2.2.1 91 0 k_.toNat).toNat ≤ 1 := hI_.2 24 (0 + bb_) _
      refine sm_T_b0 (a := 0) (z := 10) rfl (fun cx5_ => ?_) (fun cx5_ => ?_)
      · have cx5_ : (S_.2.2.1 24 (0 + bb_) (S_.2.2.1 91 0 k_.toNat).toNat) = 0 := of_decide_eq_true cx5_
        refine sm_T_inc (a := 1) (z := 1) (v := k_) (w := k_ + 1) rfl rfl (by omega) (by omega) (by omega) ?_ -- pc_ 34
        refine sm_T_go 1 (c1 := (2, [some (.inr (.inr (some (8, 0)))), some (.inl (k_ + 1))], [], S_)) rfl ?_
        refine ih_ (k_ + 1) S_ hI_ hF_ ⟨?_, ?_, trivial⟩ ?_
        · omega
        · first | rfl | exact hS_
        · omega
      · have cx5_ : ¬ ((S_.2.2.1 24 (0 + bb_) (S_.2.2.1 91 0 k_.toNat).toNat) = 0) := of_decide_eq_false cx5_
        refine sm_T_go 3 (c1 := (32, [some (.inr (.inr (some (8, 0)))), some (.inl k_)], [.inl k_, .inr (.inr (some (91, 0)))], S_)) rfl ?_
        refine sm_T_iald (n := 162) rfl rfl (by omega) (by omega) ?_
        refine sm_T_ri rfl ⟨_, _, rfl, (by first | rfl | exact hS_.symm), _, rfl, ?_⟩
        right
        rw [← hS_]
        exact ⟨g9_.1, g9_.2, by omega⟩
set_option maxHeartbeats 400000 in
theorem vc_156 {sc_ : Nat × (Nat → Int)} (bb_ : Nat) (n_ : Int) (S0_ : sm_S) (hI_ : gi S0_) (hb_ : S0_.2.1 8 0 0 = some bb_) (hn_ : n_ ≤ 162) (hr_ : rrw bb_ n_ (S0_.1 8 0 13) (S0_.1 8 0 13) S0_) : sm_T (mt_P sc_) 0 156 (0, [some (.inr (.inr (some (8, 0)))), none], [], S0_) (fun ro9_ => ∃ u_ S1_, ro9_ = (.inl u_, S1_, 0) ∧ vq_156 bb_ n_ S0_ u_ S1_) := by
  have hF_ : ai_fr (sx_W vw_156) S0_ S0_ := ai_fr_rf
  refine sm_T_go 2 (c1 := (2, [some (.inr (.inr (some (8, 0)))), some (.inl 0)], [], S0_)) rfl ?_
  refine (vl_156 bb_ n_ S0_ hb_ hn_ hr_ _) 0 S0_ hI_ hF_ ⟨?_, ?_, trivial⟩ (Nat.lt_succ_self _)
  · omega
  · first | rfl | exact hS_
