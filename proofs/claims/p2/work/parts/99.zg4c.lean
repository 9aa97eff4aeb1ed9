/-! Design.rootAt -/
def vw_65 : sx_Wl := ([], [], [])
def vq_65 (k_ : Int) (dd_ : Nat) (S0_ : sm_S) (u_ : Option sm_V) (S1_ : sm_S) : Prop := S0_ = S1_ ∧ ∃ v_ : Int, u_ = some (.inl v_) ∧ (v_ = rtv dd_ S0_ k_ ∧ 0 ≤ v_ ∧ v_ < 2 * S0_.1 3 dd_ 4)
set_option maxHeartbeats 400000 in
theorem vc_65 {sc_ : Nat × (Nat → Int)} (k_ : Int) (dd_ : Nat) (S0_ : sm_S) (hI_ : gi S0_) (hx_ : drt dd_ S0_) (hk_ : 0 ≤ k_ ∧ k_ < S0_.1 3 dd_ 3 + S0_.1 3 dd_ 2) : sm_T (mt_P sc_) 0 65 (0, [some (.inr (.inr (some (3, dd_)))), some (.inl k_)], [], S0_) (fun ro9_ => ∃ u_ S1_, ro9_ = (.inl u_, S1_, 0) ∧ vq_65 k_ dd_ S0_ u_ S1_) := by
  have hF_ : ai_fr (sx_W vw_65) S0_ S0_ := ai_fr_rf
  have x1_ := hx_.1
  have bx1_ : 0 ≤ S0_.1 3 dd_ 3 ∧ S0_.1 3 dd_ 3 ≤ 320 := hI_.1 3 dd_ 3 rfl
  refine sm_T_go 3 (c1 := (5, [some (.inr (.inr (some (3, dd_)))), some (.inl k_)], [.inl (S0_.1 3 dd_ 3), .inl k_], S0_)) rfl ?_
  refine sm_T_br (a := 3) (z := 12) rfl (fun cx2_ => ?_) (fun cx2_ => ?_)
  · have cx2_ : (S0_.1 3 dd_ 3) ≤ k_ := of_decide_eq_true cx2_
    have w9_ := hx_.2.2 (k_ - S0_.1 3 dd_ 3).toNat (by omega)
    refine sm_T_go 5 (c1 := (26, [some (.inr (.inr (some (3, dd_)))), some (.inl k_)], [.inl (S0_.1 3 dd_ 3), .inl k_, .inr (.inr (some (46, (0 + dd_))))], S0_)) rfl ?_
    refine sm_T_bin (w := k_ - (S0_.1 3 dd_ 3)) rfl (bi_sub (by omega) (by omega) (by omega)) ?_
    refine sm_T_iald (n := 6) rfl rfl (by omega) (by omega) ?_
    have bx3_ : 0 ≤ S0_.2.2.1 46 (0 + dd_) (k_ - (S0_.1 3 dd_ 3)).toNat ∧ S0_.2.2.1 46 (0 + dd_) (k_ - (S0_.1 3 dd_ 3)).toNat ≤ 2025 := hI_.2 46 (0 + dd_) _
    refine sm_T_ri rfl ⟨_, _, rfl, rfl, _, rfl, ?_⟩
    refine ⟨?_, w9_⟩
    unfold rtv
    first | rw [if_pos (by omega)] | rw [if_neg (by omega)]
  · have cx2_ : ¬ ((S0_.1 3 dd_ 3) ≤ k_) := of_decide_eq_false cx2_
    have w9_ := hx_.2.1 k_.toNat (by omega)
    refine sm_T_go 3 (c1 := (13, [some (.inr (.inr (some (3, dd_)))), some (.inl k_)], [.inl k_, .inr (.inr (some (45, (0 + dd_))))], S0_)) rfl ?_
    refine sm_T_iald (n := 16) rfl rfl (by omega) (by omega) ?_
    have bx4_ : 0 ≤ S0_.2.2.1 45 (0 + dd_) k_.toNat ∧ S0_.2.2.1 45 (0 + dd_) k_.toNat ≤ 2025 := hI_.2 45 (0 + dd_) _
    refine sm_T_go 1 (c1 := (28, [some (.inr (.inr (some (3, dd_)))), some (.inl k_)], [.inl (S0_.2.2.1 45 (0 + dd_) k_.toNat)], S0_)) rfl ?_
    refine sm_T_ri rfl ⟨_, _, rfl, rfl, _, rfl, ?_⟩
    refine ⟨?_, w9_⟩
    unfold rtv
    first | rw [if_pos (by omega)] | rw [if_neg (by omega)]
