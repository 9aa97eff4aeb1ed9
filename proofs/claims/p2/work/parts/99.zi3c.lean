/-! M_.sweptLiteral -/
def vw_355 : sx_Wl := ([], [], [])
def vq_355 (l_ : Int) (S0_ : sm_S) (u_ : Option sm_V) (S1_ : sm_S) : Prop := S0_ = S1_ ∧ ∃ v_ : Int, u_ = some (.inl v_) ∧ (v_ = i_xor (S0_.2.2.1 172 0 (l_ / 2).toNat) (l_ % 2))
set_option maxHeartbeats 400000 in
theorem vc_355 {sc_ : Nat × (Nat → Int)} (l_ : Int) (S0_ : sm_S) (hI_ : gi S0_) (hl_ : 0 ≤ l_ ∧ l_ ≤ 2047) : sm_T (mt_P sc_) 0 355 (0, [some (.inr (.inr (some (13, 0)))), some (.inl l_)], [], S0_) (fun ro9_ => ∃ u_ S1_, ro9_ = (.inl u_, S1_, 0) ∧ vq_355 l_ S0_ u_ S1_) := by
  have hF_ : ai_fr (sx_W vw_355) S0_ S0_ := ai_fr_rf
  refine sm_T_go 4 (c1 := (6, [some (.inr (.inr (some (13, 0)))), some (.inl l_)], [.inl 1, .inl l_, .inr (.inr (some (172, 0)))], S0_)) rfl ?_
  refine sm_T_bin (w := (l_ / 2)) rfl (bi_shr (k := 1) (by decide) (by omega) (by omega)) ?_
  refine sm_T_iald (n := 2048) rfl rfl (by omega) (by omega) ?_
  have bx1_ : 0 ≤ S0_.2.2.1 172 0 (l_ / 2).toNat ∧ S0_.2.2.1 172 0 (l_ / 2).toNat ≤ 2025 := hI_.2 172 0 _
  refine sm_T_go 2 (c1 := (10, [some (.inr (.inr (some (13, 0)))), some (.inl l_)], [.inl 1, .inl l_, .inl (S0_.2.2.1 172 0 (l_ / 2).toNat)], S0_)) rfl ?_
  refine sm_T_bin (w := (l_ % 2)) rfl (bi_msk (k := 1) (by decide)) ?_
  refine sm_T_bin (w := (i_xor (S0_.2.2.1 172 0 (l_ / 2).toNat) (l_ % 2))) rfl rfl ?_
  refine sm_T_ri rfl ⟨_, _, rfl, rfl, _, rfl, ?_⟩
  omega
