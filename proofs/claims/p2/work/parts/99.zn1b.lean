/-! Mapper.highNode -/
def vw_93 : sx_Wl := ([], [], [])
def vq_93 (a1_ : Int) (dd_ : Nat) (S0_ : sm_S) (u_ : Option sm_V) (S1_ : sm_S) : Prop := S0_ = S1_ ∧ ∃ v_ : Int, u_ = some (.inl v_) ∧ ((0 ≤ v_ ∧ v_ ≤ 1012) ∧ ∀ F_ : Nat, dgr dd_ F_ S0_ → swp dd_ F_ S0_ → (F_ : Int) ≤ a1_ → a1_ < S0_.1 3 dd_ 4 → v_ = (srp dd_ S0_ (S0_.2.2.1 43 (0 + dd_) a1_.toNat) : Int))
set_option maxHeartbeats 400000 in
theorem vc_93 {sc_ : Nat × (Nat → Int)} (a1_ : Int) (dd_ : Nat) (S0_ : sm_S) (hI_ : gi S0_) (hd_ : S0_.2.1 6 0 0 = some dd_) (h1_ : 0 ≤ a1_ ∧ a1_ ≤ 1012) : sm_T (mt_P sc_) 1 93 (0, [some (.inr (.inr (some (6, 0)))), some (.inl a1_)], [], S0_) (fun ro9_ => ∃ u_ S1_, ro9_ = (.inl u_, S1_, 0) ∧ vq_93 a1_ dd_ S0_ u_ S1_) := by
  have hF_ : ai_fr (sx_W vw_93) S0_ S0_ := ai_fr_rf
  refine sm_T_go 1 (c1 := (1, [some (.inr (.inr (some (6, 0)))), some (.inl a1_)], [.inr (.inr (some (6, 0)))], S0_)) rfl ?_
  refine sm_T_gr rfl rfl ((hF_.2.1 6 0 0 rfl).trans hd_) ?_
  refine sm_T_go 1 (c1 := (5, [some (.inr (.inr (some (6, 0)))), some (.inl a1_)], [.inr (.inr (some (6, 0))), .inr (.inr (some (3, dd_)))], S0_)) rfl ?_
  refine sm_T_gr rfl rfl ((hF_.2.1 6 0 0 rfl).trans hd_) ?_
  refine sm_T_go 2 (c1 := (12, [some (.inr (.inr (some (6, 0)))), some (.inl a1_)], [.inl a1_, .inr (.inr (some (43, (0 + dd_)))), .inr (.inr (some (3, dd_)))], S0_)) rfl ?_
  refine sm_T_iald (n := 1013) rfl rfl (by omega) (by omega) ?_
  have bx1_ : 0 ≤ S0_.2.2.1 43 (0 + dd_) a1_.toNat ∧ S0_.2.2.1 43 (0 + dd_) a1_.toNat ≤ 2025 := hI_.2 43 (0 + dd_) _
  refine sm_T_cal (d1 := 0) (Q1 := vq_64 (S0_.2.2.1 43 (0 + dd_) a1_.toNat) dd_ S0_) rfl rfl (by decide) (vc_64 (S0_.2.2.1 43 (0 + dd_) a1_.toNat) dd_ S0_ hI_ (by omega)) (fun u_ Sx2_ px5_ => ?_)
  obtain ⟨rfl, vx7_, rfl, px5_⟩ := px5_
  have e13_ := px5_
  have c44_ : 0 ≤ S0_.2.2.1 44 (0 + dd_) (S0_.2.2.1 43 (0 + dd_) a1_.toNat / 2).toNat ∧ S0_.2.2.1 44 (0 + dd_) (S0_.2.2.1 43 (0 + dd_) a1_.toNat / 2).toNat ≤ 2025 := hI_.2 44 (0 + dd_) _
  have x13_ := swx c44_ (show 0 ≤ S0_.2.2.1 43 (0 + dd_) a1_.toNat % 2 ∧ S0_.2.2.1 43 (0 + dd_) a1_.toNat % 2 ≤ 1 by omega)
  refine sm_T_go 1 (c1 := (17, [some (.inr (.inr (some (6, 0)))), some (.inl a1_)], [.inl 1, .inl vx7_], S0_)) rfl ?_
  refine sm_T_bin (w := (vx7_ / 2)) rfl (bi_shr (k := 1) (by decide) (by omega) (by omega)) ?_ -- pc_ 17
  refine sm_T_ri rfl ⟨_, _, rfl, rfl, _, rfl, ?_⟩
  refine ⟨by omega, fun F_ hg_ hs_ u_ w_ => ?_⟩
  have n13_ : S0_.1 3 dd_ 4 ≤ 1013 := (hI_.1 3 dd_ 4 rfl).2
  have g9_ := hg_.2.2 a1_.toNat (by omega) (by omega)
  have s9_ := swl_n hs_ (l_ := S0_.2.2.1 43 (0 + dd_) a1_.toNat) (by omega) (by omega) (by omega)
  rw [e13_]
  exact s9_.1
