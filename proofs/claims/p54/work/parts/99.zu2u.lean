/-! the class: chips asked; written by wip/p55/gen/vg -/
/-! Chip.gateInputs -/
def vw_59n : sx_Wl := ([], [], [])
def vq_59n (a1_ : Int) (ii_ : Nat) (S0_ : sm_S) (u_ : Option sm_V) (S1_ : sm_S) : Prop := S0_ = S1_ ∧ ∃ v_ : Int, u_ = some (.inl v_) ∧ (v_ = S1_.2.2.1 55 (0 + (3 + ii_)) (S1_.2.2.1 35 (0 + ii_) a1_.toNat).toNat)
set_option maxHeartbeats 400000 in
theorem vc_59n {sc_ : Nat × (Nat → Int)} (a1_ : Int) (ii_ : Nat) (S0_ : sm_S) (hI_ : gi S0_) (ha1_ : 0 ≤ a1_ ∧ a1_ ≤ 149) : sm_T (mt_P sc_) 0 59 (0, [some (.inr (.inr (some (2, ii_)))), some (.inl a1_)], [], S0_) (fun ro9_ => ∃ u_ S1_, ro9_ = (.inl u_, S1_, 0) ∧ vq_59n a1_ ii_ S0_ u_ S1_) := by
  have hF_ : ai_fr (sx_W vw_59n) S0_ S0_ := ai_fr_rf
  refine sm_T_go 6 (c1 := (12, [some (.inr (.inr (some (2, ii_)))), some (.inl a1_)], [.inl a1_, .inr (.inr (some (35, (0 + ii_)))), .inr (.inr (some (55, (0 + (3 + ii_)))))], S0_)) rfl ?_
  refine sm_T_iald (n := 150) rfl rfl (by omega) (by omega) ?_
  have bx1_ : 0 ≤ S0_.2.2.1 35 (0 + ii_) a1_.toNat ∧ S0_.2.2.1 35 (0 + ii_) a1_.toNat ≤ 11 := hI_.2 35 (0 + ii_) _
  refine sm_T_iald (n := 12) rfl rfl (by omega) (by omega) ?_
  have bx2_ : 0 ≤ S0_.2.2.1 55 (0 + (3 + ii_)) (S0_.2.2.1 35 (0 + ii_) a1_.toNat).toNat ∧ S0_.2.2.1 55 (0 + (3 + ii_)) (S0_.2.2.1 35 (0 + ii_) a1_.toNat).toNat ≤ 3 := hI_.2 55 (0 + (3 + ii_)) _
  refine sm_T_ri rfl ⟨_, _, rfl, rfl, _, rfl, ?_⟩
  rfl
/-! ChipFlow.netOf -/
/-! ChipFlow.gate -/
/-! ChipFlow.isThere -/
def oka_alter (kk_ g_ cl_ : Int) (S_ : sm_S) : Prop := (0 ≤ kk_ ∧ kk_ < 4 ∧ S_.1 2 kk_.toNat 0 = 1) ∧ (0 ≤ g_ ∧ g_ < S_.1 2 kk_.toNat 8) ∧ (0 ≤ cl_ ∧ cl_ < S_.1 5 (3 + kk_.toNat) 1)
def okc_alter (kk_ g_ cl_ : Int) (S_ : sm_S) : Prop := oka_alter kk_ g_ cl_ S_ ∧ S_.2.2.1 55 (0 + (3 + kk_.toNat)) cl_.toNat = S_.2.2.1 55 (0 + (3 + kk_.toNat)) (S_.2.2.1 35 (0 + kk_.toNat) g_.toNat).toNat
/-! ChipFlow.alter -/
