/-! Times.changesOf -/
def vw_208 : sx_Wl := ([], [], [])
def vq_208 (a1_ : Int) (S0_ : sm_S) (u_ : Option sm_V) (S1_ : sm_S) : Prop := S0_ = S1_ ∧ ∃ v_ : Int, u_ = some (.inl v_) ∧ (True)
set_option maxHeartbeats 400000 in
theorem vc_208 {sc_ : Nat × (Nat → Int)} (a1_ : Int) (S0_ : sm_S) (hI_ : gi S0_) (h1_ : 0 ≤ a1_ ∧ a1_ ≤ 161) : sm_T (mt_P sc_) 0 208 (0, [some (.inr (.inr (some (11, 0)))), some (.inl a1_)], [], S0_) (fun ro9_ => ∃ u_ S1_, ro9_ = (.inl u_, S1_, 0) ∧ vq_208 a1_ S0_ u_ S1_) := by
  have hF_ : ai_fr (sx_W vw_208) S0_ S0_ := ai_fr_rf
  refine sm_T_go 4 (c1 := (6, [some (.inr (.inr (some (11, 0)))), some (.inl a1_)], [.inl 1, .inl a1_, .inr (.inr (some (108, 0)))], S0_)) rfl ?_
  refine sm_T_bin (w := a1_ + 1) rfl (bi_add (by omega) (by omega) (by omega)) ?_ -- pc_ 6
  refine sm_T_iald (n := 163) rfl rfl (by omega) (by omega) ?_
  have bx1_ : 0 ≤ S0_.2.2.1 108 0 (a1_ + 1).toNat ∧ S0_.2.2.1 108 0 (a1_ + 1).toNat ≤ 20000 := hI_.2 108 0 _
  refine sm_T_go 3 (c1 := (13, [some (.inr (.inr (some (11, 0)))), some (.inl a1_)], [.inl a1_, .inr (.inr (some (108, 0))), .inl (S0_.2.2.1 108 0 (a1_ + 1).toNat)], S0_)) rfl ?_
  refine sm_T_iald (n := 163) rfl rfl (by omega) (by omega) ?_
  have bx2_ : 0 ≤ S0_.2.2.1 108 0 a1_.toNat ∧ S0_.2.2.1 108 0 a1_.toNat ≤ 20000 := hI_.2 108 0 _
  refine sm_T_bin (w := (S0_.2.2.1 108 0 (a1_ + 1).toNat) - (S0_.2.2.1 108 0 a1_.toNat)) rfl (bi_sub (by omega) (by omega) (by omega)) ?_ -- pc_ 14
  refine sm_T_ri rfl ⟨_, _, rfl, rfl, _, rfl, ?_⟩
  trivial
