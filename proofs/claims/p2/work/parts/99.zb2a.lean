/-! the class: OR, XOR, sums; written by wip/p55/gen/vg -/
/-! Builder.either -/
def vw_42 : sx_Wl := ([(1, 8), (3, 4)], [29, 42, 43], [])
def vq_42 (x_ : Int) (y_ : Int) (dd_ : Nat) (F_ : Nat) (G_ : pGr) (A_ : Int) (B_ : Int) (S0_ : sm_S) (u_ : Option sm_V) (S1_ : sm_S) : Prop := ∃ v_ : Int, u_ = some (.inl v_) ∧ gi S1_ ∧ ai_fr (sx_W vw_42) S0_ S1_ ∧ (idf dd_ S0_ S1_ ∧ (cgl dd_ F_ (g_or F_ G_ A_ B_).2 S1_ ∧ (imq ((g_or F_ G_ A_ B_).2.length ≤ 1000) (v_ = (g_or F_ G_ A_ B_).1)) ∧ (0 ≤ v_ ∧ v_ ≤ 2025)))
set_option maxHeartbeats 400000 in
theorem vc_42 {sc_ : Nat × (Nat → Int)} (x_ : Int) (y_ : Int) (dd_ : Nat) (F_ : Nat) (G_ : pGr) (A_ : Int) (B_ : Int) (S0_ : sm_S) (hI_ : gi S0_) (hd_ : S0_.2.1 1 0 1 = some dd_) (hg_ : cgl dd_ F_ G_ S0_) (hx_ : 0 ≤ x_ ∧ x_ ≤ 2025) (hy_ : 0 ≤ y_ ∧ y_ ≤ 2025) (hab_ : imq (G_.length ≤ 1000) (x_ = A_ ∧ y_ = B_)) : sm_T (mt_P sc_) 2 42 (0, [some (.inr (.inr (some (1, 0)))), some (.inl x_), some (.inl y_)], [], S0_) (fun ro9_ => ∃ u_ S1_, ro9_ = (.inl u_, S1_, 0) ∧ vq_42 x_ y_ dd_ F_ G_ A_ B_ S0_ u_ S1_) := by
  have hF_ : ai_fr (sx_W vw_42) S0_ S0_ := ai_fr_rf
  have hD_ : idf dd_ S0_ S0_ := idf_rf
  refine sm_T_go 3 (c1 := (3, [some (.inr (.inr (some (1, 0)))), some (.inl x_), some (.inl y_)], [.inl 1, .inl x_, .inr (.inr (some (1, 0)))], S0_)) rfl ?_
  refine sm_T_bin (w := (i_xor x_ 1)) rfl rfl ?_
  have bx1_ := i_x1 (x_ := x_) (by omega)
  refine sm_T_go 2 (c1 := (6, [some (.inr (.inr (some (1, 0)))), some (.inl x_), some (.inl y_)], [.inl 1, .inl y_, .inl (i_xor x_ 1), .inr (.inr (some (1, 0)))], S0_)) rfl ?_
  refine sm_T_bin (w := (i_xor y_ 1)) rfl rfl ?_
  have bx2_ := i_x1 (x_ := y_) (by omega)
  refine sm_T_cal (d1 := 1) (Q1 := vq_44 (i_xor x_ 1) (i_xor y_ 1) dd_ F_ G_ (i_xor A_ 1) (i_xor B_ 1) S0_) rfl rfl (by decide) (vc_44 (i_xor x_ 1) (i_xor y_ 1) dd_ F_ G_ (i_xor A_ 1) (i_xor B_ 1) S0_ hI_ (by exact hd_) (by exact hg_) (by omega) (by omega) (by (intro z_; have q_ := hab_ z_; rw [q_.1, q_.2]; exact ⟨rfl, rfl⟩))) (fun u_ Sx3_ px6_ => ?_)
  obtain ⟨vx8_, rfl, hIx4_, hFx5_, px6_⟩ := px6_
  have hFx7_ : ai_fr (sx_W vw_42) S0_ Sx3_ := ai_fr_tr hF_ (fr_le hFx5_ rfl)
  obtain ⟨dx10_, px6_⟩ := px6_
  have hDx9_ : idf dd_ S0_ Sx3_ := idf_tr hD_ dx10_
  have e7_ := px6_
  refine sm_T_go 1 (c1 := (11, [some (.inr (.inr (some (1, 0)))), some (.inl x_), some (.inl y_)], [.inl 1, .inl vx8_], Sx3_)) rfl ?_
  refine sm_T_bin (w := (i_xor vx8_ 1)) rfl rfl ?_
  have bx11_ := i_x1 (x_ := vx8_) (by omega)
  refine sm_T_ri rfl ⟨_, _, rfl, _, rfl, hIx4_, hFx7_, ?_⟩
  refine ⟨hDx9_, ?_⟩
  refine ⟨e7_.1, fun z_ => ?_, by omega⟩
  show _ = i_xor _ 1
  rw [e7_.2.1 z_]
