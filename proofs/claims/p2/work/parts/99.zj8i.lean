/-! Board.pinPoint -/
def vw_19 : sx_Wl := ([], [], [])
def vq_19 (a1_ : Int) (ii_ : Nat) (S0_ : sm_S) (u_ : Option sm_V) (S1_ : sm_S) : Prop := S0_ = S1_ ∧ ∃ v_ : Int, u_ = some (.inl v_) ∧ ((0 ≤ v_ ∧ v_ ≤ 2358) ∧ v_ = ppt ii_ S0_ a1_)
set_option maxHeartbeats 400000 in
theorem vc_19 {sc_ : Nat × (Nat → Int)} (a1_ : Int) (ii_ : Nat) (S0_ : sm_S) (hI_ : gi S0_) (h1_ : 0 ≤ a1_ ∧ a1_ ≤ 651) : sm_T (mt_P sc_) 1 19 (0, [some (.inr (.inr (some (0, ii_)))), some (.inl a1_)], [], S0_) (fun ro9_ => ∃ u_ S1_, ro9_ = (.inl u_, S1_, 0) ∧ vq_19 a1_ ii_ S0_ u_ S1_) := by
  have hF_ : ai_fr (sx_W vw_19) S0_ S0_ := ai_fr_rf
  refine sm_T_go 2 (c1 := (2, [some (.inr (.inr (some (0, ii_)))), some (.inl a1_)], [.inl a1_, .inr (.inr (some (0, ii_)))], S0_)) rfl ?_
  refine sm_T_cal (d1 := 0) (Q1 := vq_18 a1_ ii_ S0_) rfl rfl (by decide) (vc_18 a1_ ii_ S0_ hI_ (by omega)) (fun u_ Sx1_ px4_ => ?_)
  obtain ⟨rfl, vx6_, rfl, px4_⟩ := px4_
  have y9_ := px4_
  have bx7_ : 0 ≤ S0_.1 0 ii_ 0 ∧ S0_.1 0 ii_ 0 ≤ 60 := hI_.1 0 ii_ 0 rfl
  refine sm_T_go 3 (c1 := (10, [some (.inr (.inr (some (0, ii_)))), some (.inl a1_)], [.inl 2, .inl (S0_.1 0 ii_ 0), .inl vx6_], S0_)) rfl ?_
  refine sm_T_bin (w := (S0_.1 0 ii_ 0) + 2) rfl (bi_add (by omega) (by omega) (by omega)) ?_ -- pc_ 10
  have bx8_ := mul_b (x_ := vx6_) (y_ := ((S0_.1 0 ii_ 0) + 2)) (X_ := 37) (Y_ := 62) (Z_ := 2294) (by omega) (by omega) (by decide)
  refine sm_T_bin (w := (vx6_ * ((S0_.1 0 ii_ 0) + 2))) rfl (bi_mul rfl (by omega) (by omega)) ?_ -- pc_ 11
  refine sm_T_go 2 (c1 := (14, [some (.inr (.inr (some (0, ii_)))), some (.inl a1_)], [.inl a1_, .inr (.inr (some (0, ii_))), .inl (vx6_ * ((S0_.1 0 ii_ 0) + 2))], S0_)) rfl ?_
  refine sm_T_cal (d1 := 0) (Q1 := vq_17 a1_ ii_ S0_) rfl rfl (by decide) (vc_17 a1_ ii_ S0_ hI_ (by omega)) (fun u_ Sx9_ px12_ => ?_)
  obtain ⟨rfl, vx14_, rfl, px12_⟩ := px12_
  have x9_ := px12_
  refine sm_T_bin (w := (vx6_ * ((S0_.1 0 ii_ 0) + 2)) + vx14_) rfl (bi_add (by omega) (by omega) (by omega)) ?_ -- pc_ 17
  refine sm_T_ri rfl ⟨_, _, rfl, rfl, _, rfl, ?_⟩
  refine ⟨by omega, ?_⟩
  unfold ppt
  rw [← y9_.2, ← x9_.2]
