/-! M_.or -/
def vw_329 : sx_Wl := ([(13, 37)], [140, 141, 142, 143], [])
def vq_329 (x_ : Int) (y_ : Int) (F_ : Nat) (G_ : pGr) (A_ : Int) (B_ : Int) (S0_ : sm_S) (u_ : Option sm_V) (S1_ : sm_S) : Prop := ∃ v_ : Int, u_ = some (.inl v_) ∧ gi S1_ ∧ ai_fr (sx_W vw_329) S0_ S1_ ∧ (rgl F_ (g_or F_ G_ A_ B_).2 S1_ ∧ (imq ((g_or F_ G_ A_ B_).2.length ≤ 1001) (v_ = (g_or F_ G_ A_ B_).1)) ∧ (0 ≤ v_ ∧ v_ ≤ 2047))
set_option maxHeartbeats 400000 in
theorem vc_329 {sc_ : Nat × (Nat → Int)} (x_ : Int) (y_ : Int) (F_ : Nat) (G_ : pGr) (A_ : Int) (B_ : Int) (S0_ : sm_S) (hI_ : gi S0_) (hg_ : rgl F_ G_ S0_) (hx_ : 0 ≤ x_ ∧ x_ ≤ 2047) (hy_ : 0 ≤ y_ ∧ y_ ≤ 2047) (hab_ : imq (G_.length ≤ 1001) (x_ = A_ ∧ y_ = B_)) : sm_T (mt_P sc_) 1 329 (0, [some (.inr (.inr (some (13, 0)))), some (.inl x_), some (.inl y_)], [], S0_) (fun ro9_ => ∃ u_ S1_, ro9_ = (.inl u_, S1_, 0) ∧ vq_329 x_ y_ F_ G_ A_ B_ S0_ u_ S1_) := by
  have hF_ : ai_fr (sx_W vw_329) S0_ S0_ := ai_fr_rf
  refine sm_T_go 4 (c1 := (4, [some (.inr (.inr (some (13, 0)))), some (.inl x_), some (.inl y_)], [.inl 1, .inl x_, .inr (.inr (some (13, 0))), .inl 1], S0_)) rfl ?_
  refine sm_T_bin (w := (i_xor x_ 1)) rfl rfl ?_
  first | have bx1_ := (i_xc (x_ := x_) (y_ := 1)).trans (i_x1 (x_ := 1) (by omega)) | have bx1_ := i_x1 (x_ := x_) (by omega)
  refine sm_T_go 2 (c1 := (7, [some (.inr (.inr (some (13, 0)))), some (.inl x_), some (.inl y_)], [.inl 1, .inl y_, .inl (i_xor x_ 1), .inr (.inr (some (13, 0))), .inl 1], S0_)) rfl ?_
  refine sm_T_bin (w := (i_xor y_ 1)) rfl rfl ?_
  first | have bx2_ := (i_xc (x_ := y_) (y_ := 1)).trans (i_x1 (x_ := 1) (by omega)) | have bx2_ := i_x1 (x_ := y_) (by omega)
  refine sm_T_cal (d1 := 0) (Q1 := vq_328 (i_xor x_ 1) (i_xor y_ 1) F_ G_ (i_xor A_ 1) (i_xor B_ 1) S0_) rfl rfl (by decide) (vc_328 (i_xor x_ 1) (i_xor y_ 1) F_ G_ (i_xor A_ 1) (i_xor B_ 1) S0_ hI_ (by exact hg_) (by omega) (by omega) (by (intro z_; have q_ := hab_ z_; rw [q_.1, q_.2]; exact ⟨rfl, rfl⟩))) (fun u_ Sx3_ px6_ => ?_)
  obtain ⟨vx8_, rfl, hIx4_, hFx5_, px6_⟩ := px6_
  have hFx7_ : ai_fr (sx_W vw_329) S0_ Sx3_ := ai_fr_tr hF_ (fr_le hFx5_ rfl)
  have e7_ := px6_
  refine sm_T_bin (w := (i_xor 1 vx8_)) rfl rfl ?_
  first | have bx9_ := (i_xc (x_ := 1) (y_ := vx8_)).trans (i_x1 (x_ := vx8_) (by omega)) | have bx9_ := i_x1 (x_ := 1) (by omega)
  refine sm_T_ri rfl ⟨_, _, rfl, _, rfl, hIx4_, hFx7_, ?_⟩
  refine ⟨e7_.1, fun z_ => ?_, by omega⟩
  show _ = i_xor _ 1
  rw [i_xc, e7_.2.1 z_]
