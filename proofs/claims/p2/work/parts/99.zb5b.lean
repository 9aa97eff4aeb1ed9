/-! Builder.cellOf -/
def vw_35 : sx_Wl := ([], [], [])
def vq_35 (f_ : Int) (s_ : Int) (S0_ : sm_S) (u_ : Option sm_V) (S1_ : sm_S) : Prop := S0_ = S1_ ∧ ∃ v_ : Int, u_ = some (.inl v_) ∧ (v_ = 8 * (40 * f_ + s_))
set_option maxHeartbeats 400000 in
theorem vc_35 {sc_ : Nat × (Nat → Int)} (f_ : Int) (s_ : Int) (S0_ : sm_S) (hI_ : gi S0_) (hf_ : 0 ≤ f_ ∧ f_ ≤ 100000) (hs_ : 0 ≤ s_ ∧ s_ ≤ 100000) : sm_T (mt_P sc_) 0 35 (0, [some (.inl f_), some (.inl s_)], [], S0_) (fun ro9_ => ∃ u_ S1_, ro9_ = (.inl u_, S1_, 0) ∧ vq_35 f_ s_ S0_ u_ S1_) := by
  have hF_ : ai_fr (sx_W vw_35) S0_ S0_ := ai_fr_rf
  refine sm_T_go 2 (c1 := (3, [some (.inl f_), some (.inl s_)], [.inl 40, .inl f_], S0_)) rfl ?_
  refine sm_T_bin (w := 40 * f_) rfl (bi_mul (by omega) (by omega) (by omega)) ?_
  refine sm_T_go 1 (c1 := (5, [some (.inl f_), some (.inl s_)], [.inl s_, .inl (40 * f_)], S0_)) rfl ?_
  refine sm_T_bin (w := 40 * f_ + s_) rfl (bi_add (by omega) (by omega) (by omega)) ?_
  refine sm_T_go 1 (c1 := (8, [some (.inl f_), some (.inl s_)], [.inl 8, .inl (40 * f_ + s_)], S0_)) rfl ?_
  refine sm_T_bin (w := 320 * f_ + 8 * s_) rfl (bi_mul (by omega) (by omega) (by omega)) ?_
  refine sm_T_ri rfl ⟨_, _, rfl, rfl, _, rfl, ?_⟩
  omega
