/-! Builder.differ -/
def vw_43 : sx_Wl := ([(1, 8), (3, 4)], [29, 42, 43], [])
def vq_43 (x_ : Int) (y_ : Int) (dd_ : Nat) (F_ : Nat) (G_ : pGr) (A_ : Int) (B_ : Int) (S0_ : sm_S) (u_ : Option sm_V) (S1_ : sm_S) : Prop := ∃ v_ : Int, u_ = some (.inl v_) ∧ gi S1_ ∧ ai_fr (sx_W vw_43) S0_ S1_ ∧ (idf dd_ S0_ S1_ ∧ (cgl dd_ F_ (g_xo F_ G_ A_ B_).2 S1_ ∧ (imq ((g_xo F_ G_ A_ B_).2.length ≤ 1000) (v_ = (g_xo F_ G_ A_ B_).1)) ∧ (0 ≤ v_ ∧ v_ ≤ 2025)))
set_option maxHeartbeats 400000 in
theorem vc_43 {sc_ : Nat × (Nat → Int)} (x_ : Int) (y_ : Int) (dd_ : Nat) (F_ : Nat) (G_ : pGr) (A_ : Int) (B_ : Int) (S0_ : sm_S) (hI_ : gi S0_) (hd_ : S0_.2.1 1 0 1 = some dd_) (hg_ : cgl dd_ F_ G_ S0_) (hx_ : 0 ≤ x_ ∧ x_ ≤ 2025) (hy_ : 0 ≤ y_ ∧ y_ ≤ 2025) (hab_ : imq (G_.length ≤ 1000) (x_ = A_ ∧ y_ = B_)) : sm_T (mt_P sc_) 2 43 (0, [some (.inr (.inr (some (1, 0)))), some (.inl x_), some (.inl y_), none], [], S0_) (fun ro9_ => ∃ u_ S1_, ro9_ = (.inl u_, S1_, 0) ∧ vq_43 x_ y_ dd_ F_ G_ A_ B_ S0_ u_ S1_) := by
  have hF_ : ai_fr (sx_W vw_43) S0_ S0_ := ai_fr_rf
  have hD_ : idf dd_ S0_ S0_ := idf_rf
  refine sm_T_go 4 (c1 := (4, [some (.inr (.inr (some (1, 0)))), some (.inl x_), some (.inl y_), none], [.inl 1, .inl y_, .inl x_, .inr (.inr (some (1, 0)))], S0_)) rfl ?_
  refine sm_T_bin (w := (i_xor y_ 1)) rfl rfl ?_
  have bx1_ := i_x1 (x_ := y_) (by omega)
  refine sm_T_cal (d1 := 1) (Q1 := vq_44 x_ (i_xor y_ 1) dd_ F_ G_ A_ (i_xor B_ 1) S0_) rfl rfl (by decide) (vc_44 x_ (i_xor y_ 1) dd_ F_ G_ A_ (i_xor B_ 1) S0_ hI_ (by exact hd_) (by exact hg_) (by omega) (by omega) (by (intro z_; have q_ := hab_ z_; rw [q_.1, q_.2]; exact ⟨rfl, rfl⟩))) (fun u_ Sx2_ px5_ => ?_)
  obtain ⟨vx7_, rfl, hIx3_, hFx4_, px5_⟩ := px5_
  have hFx6_ : ai_fr (sx_W vw_43) S0_ Sx2_ := ai_fr_tr hF_ (fr_le hFx4_ rfl)
  obtain ⟨dx9_, px5_⟩ := px5_
  have hDx8_ : idf dd_ S0_ Sx2_ := idf_tr hD_ dx9_
  have e5_ := px5_
  have l5_ := g_an_le (F_ := F_) (G_ := G_) (a_ := A_) (b_ := i_xor B_ 1)
  refine sm_T_go 4 (c1 := (12, [some (.inr (.inr (some (1, 0)))), some (.inl x_), some (.inl y_), some (.inl vx7_)], [.inl 1, .inl vx7_, .inr (.inr (some (1, 0)))], Sx2_)) rfl ?_
  refine sm_T_bin (w := (i_xor vx7_ 1)) rfl rfl ?_
  have bx10_ := i_x1 (x_ := vx7_) (by omega)
  refine sm_T_go 3 (c1 := (16, [some (.inr (.inr (some (1, 0)))), some (.inl x_), some (.inl y_), some (.inl vx7_)], [.inl 1, .inl x_, .inr (.inr (some (1, 0))), .inl (i_xor vx7_ 1), .inr (.inr (some (1, 0)))], Sx2_)) rfl ?_
  refine sm_T_bin (w := (i_xor x_ 1)) rfl rfl ?_
  have bx11_ := i_x1 (x_ := x_) (by omega)
  refine sm_T_go 1 (c1 := (18, [some (.inr (.inr (some (1, 0)))), some (.inl x_), some (.inl y_), some (.inl vx7_)], [.inl y_, .inl (i_xor x_ 1), .inr (.inr (some (1, 0))), .inl (i_xor vx7_ 1), .inr (.inr (some (1, 0)))], Sx2_)) rfl ?_
  refine sm_T_cal (d1 := 1) (Q1 := vq_44 (i_xor x_ 1) y_ dd_ F_ (g_an F_ G_ A_ (i_xor B_ 1)).2 (i_xor A_ 1) B_ Sx2_) rfl rfl (by decide) (vc_44 (i_xor x_ 1) y_ dd_ F_ (g_an F_ G_ A_ (i_xor B_ 1)).2 (i_xor A_ 1) B_ Sx2_ hIx3_ (by exact cgl_d e5_.1) (by exact e5_.1) (by omega) (by omega) (by (intro z_; have q_ := hab_ (by omega); rw [q_.1, q_.2]; exact ⟨rfl, rfl⟩))) (fun u_ Sx12_ px15_ => ?_)
  obtain ⟨vx17_, rfl, hIx13_, hFx14_, px15_⟩ := px15_
  have hFx16_ : ai_fr (sx_W vw_43) S0_ Sx12_ := ai_fr_tr hFx6_ (fr_le hFx14_ rfl)
  obtain ⟨dx19_, px15_⟩ := px15_
  have hDx18_ : idf dd_ S0_ Sx12_ := idf_tr hDx8_ dx19_
  have e18_ := px15_
  have l18_ := g_an_le (F_ := F_) (G_ := (g_an F_ G_ A_ (i_xor B_ 1)).2) (a_ := i_xor A_ 1) (b_ := B_)
  refine sm_T_go 1 (c1 := (22, [some (.inr (.inr (some (1, 0)))), some (.inl x_), some (.inl y_), some (.inl vx7_)], [.inl 1, .inl vx17_, .inl (i_xor vx7_ 1), .inr (.inr (some (1, 0)))], Sx12_)) rfl ?_
  refine sm_T_bin (w := (i_xor vx17_ 1)) rfl rfl ?_
  have bx20_ := i_x1 (x_ := vx17_) (by omega)
  refine sm_T_cal (d1 := 1) (Q1 := vq_44 (i_xor vx7_ 1) (i_xor vx17_ 1) dd_ F_ (g_an F_ (g_an F_ G_ A_ (i_xor B_ 1)).2 (i_xor A_ 1) B_).2 (i_xor (g_an F_ G_ A_ (i_xor B_ 1)).1 1) (i_xor (g_an F_ (g_an F_ G_ A_ (i_xor B_ 1)).2 (i_xor A_ 1) B_).1 1) Sx12_) rfl rfl (by decide) (vc_44 (i_xor vx7_ 1) (i_xor vx17_ 1) dd_ F_ (g_an F_ (g_an F_ G_ A_ (i_xor B_ 1)).2 (i_xor A_ 1) B_).2 (i_xor (g_an F_ G_ A_ (i_xor B_ 1)).1 1) (i_xor (g_an F_ (g_an F_ G_ A_ (i_xor B_ 1)).2 (i_xor A_ 1) B_).1 1) Sx12_ hIx13_ (by exact cgl_d e18_.1) (by exact e18_.1) (by omega) (by omega) (by (intro z_; rw [e18_.2.1 z_, e5_.2.1 (by omega)]; exact ⟨rfl, rfl⟩))) (fun u_ Sx21_ px24_ => ?_)
  obtain ⟨vx26_, rfl, hIx22_, hFx23_, px24_⟩ := px24_
  have hFx25_ : ai_fr (sx_W vw_43) S0_ Sx21_ := ai_fr_tr hFx16_ (fr_le hFx23_ rfl)
  obtain ⟨dx28_, px24_⟩ := px24_
  have hDx27_ : idf dd_ S0_ Sx21_ := idf_tr hDx18_ dx28_
  have e23_ := px24_
  refine sm_T_go 1 (c1 := (27, [some (.inr (.inr (some (1, 0)))), some (.inl x_), some (.inl y_), some (.inl vx7_)], [.inl 1, .inl vx26_], Sx21_)) rfl ?_
  refine sm_T_bin (w := (i_xor vx26_ 1)) rfl rfl ?_
  have bx29_ := i_x1 (x_ := vx26_) (by omega)
  refine sm_T_ri rfl ⟨_, _, rfl, _, rfl, hIx22_, hFx25_, ?_⟩
  refine ⟨hDx27_, ?_⟩
  refine ⟨e23_.1, fun z_ => ?_, by omega⟩
  show _ = i_xor _ 1
  rw [e23_.2.1 z_]

