/-! M_.xor -/
def vw_330 : sx_Wl := ([(13, 37)], [140, 141, 142, 143], [])
def vq_330 (x_ : Int) (y_ : Int) (F_ : Nat) (G_ : pGr) (A_ : Int) (B_ : Int) (S0_ : sm_S) (u_ : Option sm_V) (S1_ : sm_S) : Prop := ∃ v_ : Int, u_ = some (.inl v_) ∧ gi S1_ ∧ ai_fr (sx_W vw_330) S0_ S1_ ∧ (rgl F_ (g_xo F_ G_ A_ B_).2 S1_ ∧ (imq ((g_xo F_ G_ A_ B_).2.length ≤ 1001) (v_ = (g_xo F_ G_ A_ B_).1)) ∧ (0 ≤ v_ ∧ v_ ≤ 2047))
set_option maxHeartbeats 400000 in
theorem vc_330 {sc_ : Nat × (Nat → Int)} (x_ : Int) (y_ : Int) (F_ : Nat) (G_ : pGr) (A_ : Int) (B_ : Int) (S0_ : sm_S) (hI_ : gi S0_) (hg_ : rgl F_ G_ S0_) (hx_ : 0 ≤ x_ ∧ x_ ≤ 2047) (hy_ : 0 ≤ y_ ∧ y_ ≤ 2047) (hab_ : imq (G_.length ≤ 1001) (x_ = A_ ∧ y_ = B_)) : sm_T (mt_P sc_) 2 330 (0, [some (.inr (.inr (some (13, 0)))), some (.inl x_), some (.inl y_), none, none], [], S0_) (fun ro9_ => ∃ u_ S1_, ro9_ = (.inl u_, S1_, 0) ∧ vq_330 x_ y_ F_ G_ A_ B_ S0_ u_ S1_) := by
  have hF_ : ai_fr (sx_W vw_330) S0_ S0_ := ai_fr_rf
  refine sm_T_go 4 (c1 := (4, [some (.inr (.inr (some (13, 0)))), some (.inl x_), some (.inl y_), none, none], [.inl 1, .inl y_, .inl x_, .inr (.inr (some (13, 0)))], S0_)) rfl ?_
  refine sm_T_bin (w := (i_xor y_ 1)) rfl rfl ?_
  have bx1_ := i_x1 (x_ := y_) (by omega)
  refine sm_T_cal (d1 := 0) (Q1 := vq_328 x_ (i_xor y_ 1) F_ G_ A_ (i_xor B_ 1) S0_) rfl rfl (by decide) (vc_328 x_ (i_xor y_ 1) F_ G_ A_ (i_xor B_ 1) S0_ hI_ (by exact hg_) (by omega) (by omega) (by (intro z_; have q_ := hab_ z_; rw [q_.1, q_.2]; exact ⟨rfl, rfl⟩))) (fun u_ Sx2_ px5_ => ?_)
  obtain ⟨vx7_, rfl, hIx3_, hFx4_, px5_⟩ := px5_
  have hFx6_ : ai_fr (sx_W vw_330) S0_ Sx2_ := ai_fr_tr hF_ (fr_le hFx4_ rfl)
  have e5_ := px5_
  have l5_ := g_an_le (F_ := F_) (G_ := G_) (a_ := A_) (b_ := i_xor B_ 1)
  refine sm_T_go 4 (c1 := (12, [some (.inr (.inr (some (13, 0)))), some (.inl x_), some (.inl y_), some (.inl vx7_), none], [.inl 1, .inl x_, .inr (.inr (some (13, 0)))], Sx2_)) rfl ?_
  refine sm_T_bin (w := (i_xor x_ 1)) rfl rfl ?_
  have bx8_ := i_x1 (x_ := x_) (by omega)
  refine sm_T_go 1 (c1 := (14, [some (.inr (.inr (some (13, 0)))), some (.inl x_), some (.inl y_), some (.inl vx7_), none], [.inl y_, .inl (i_xor x_ 1), .inr (.inr (some (13, 0)))], Sx2_)) rfl ?_
  refine sm_T_cal (d1 := 0) (Q1 := vq_328 (i_xor x_ 1) y_ F_ (g_an F_ G_ A_ (i_xor B_ 1)).2 (i_xor A_ 1) B_ Sx2_) rfl rfl (by decide) (vc_328 (i_xor x_ 1) y_ F_ (g_an F_ G_ A_ (i_xor B_ 1)).2 (i_xor A_ 1) B_ Sx2_ hIx3_ (by exact e5_.1) (by omega) (by omega) (by (intro z_; have q_ := hab_ (by omega); rw [q_.1, q_.2]; exact ⟨rfl, rfl⟩))) (fun u_ Sx9_ px12_ => ?_)
  obtain ⟨vx14_, rfl, hIx10_, hFx11_, px12_⟩ := px12_
  have hFx13_ : ai_fr (sx_W vw_330) S0_ Sx9_ := ai_fr_tr hFx6_ (fr_le hFx11_ rfl)
  have e18_ := px12_
  have l18_ := g_an_le (F_ := F_) (G_ := (g_an F_ G_ A_ (i_xor B_ 1)).2) (a_ := i_xor A_ 1) (b_ := B_)
  refine sm_T_go 4 (c1 := (23, [some (.inr (.inr (some (13, 0)))), some (.inl x_), some (.inl y_), some (.inl vx7_), some (.inl vx14_)], [.inl vx14_, .inl vx7_, .inr (.inr (some (13, 0)))], Sx9_)) rfl ?_
  refine sm_T_cal (d1 := 1) (Q1 := vq_329 vx7_ vx14_ F_ (g_an F_ (g_an F_ G_ A_ (i_xor B_ 1)).2 (i_xor A_ 1) B_).2 (g_an F_ G_ A_ (i_xor B_ 1)).1 (g_an F_ (g_an F_ G_ A_ (i_xor B_ 1)).2 (i_xor A_ 1) B_).1 Sx9_) rfl rfl (by decide) (vc_329 vx7_ vx14_ F_ (g_an F_ (g_an F_ G_ A_ (i_xor B_ 1)).2 (i_xor A_ 1) B_).2 (g_an F_ G_ A_ (i_xor B_ 1)).1 (g_an F_ (g_an F_ G_ A_ (i_xor B_ 1)).2 (i_xor A_ 1) B_).1 Sx9_ hIx10_ (by exact e18_.1) (by omega) (by omega) (by (intro z_; exact ⟨e5_.2.1 (by omega), e18_.2.1 z_⟩))) (fun u_ Sx15_ px18_ => ?_)
  obtain ⟨vx20_, rfl, hIx16_, hFx17_, px18_⟩ := px18_
  have hFx19_ : ai_fr (sx_W vw_330) S0_ Sx15_ := ai_fr_tr hFx13_ (fr_le hFx17_ rfl)
  have e23_ := px18_
  refine sm_T_ri rfl ⟨_, _, rfl, _, rfl, hIx16_, hFx19_, ?_⟩
  exact e23_
