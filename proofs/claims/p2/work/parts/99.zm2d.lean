/-! Times.removeAt -/
def vw_202 : sx_Wl := ([(11, 5)], [102], [])
def vq_202 (a1_ : Int) (S0_ : sm_S) (u_ : Option sm_V) (S1_ : sm_S) : Prop := u_ = none ∧ gi S1_ ∧ ai_fr (sx_W vw_202) S0_ S1_ ∧ (tpo S1_)
set_option maxHeartbeats 400000 in
theorem vc_202 {sc_ : Nat × (Nat → Int)} (a1_ : Int) (S0_ : sm_S) (hI_ : gi S0_) (h1_ : 0 ≤ a1_ ∧ a1_ < S0_.1 11 0 5) (hp_ : tpo S0_) : sm_T (mt_P sc_) 0 202 (0, [some (.inr (.inr (some (11, 0)))), some (.inl a1_), none], [], S0_) (fun ro9_ => ∃ u_ S1_, ro9_ = (.inl u_, S1_, 0) ∧ vq_202 a1_ S0_ u_ S1_) := by
  have hF_ : ai_fr (sx_W vw_202) S0_ S0_ := ai_fr_rf
  have p40_ := hp_.1
  refine sm_T_go 3 (c1 := (5, [some (.inr (.inr (some (11, 0)))), some (.inl a1_), none], [.inl a1_, .inr (.inr (some (102, 0)))], S0_)) rfl ?_
  refine sm_T_iald (n := 41) rfl rfl (by omega) (by omega) ?_
  have bx1_ : 0 ≤ S0_.2.2.1 102 0 a1_.toNat ∧ S0_.2.2.1 102 0 a1_.toNat ≤ 40 := hI_.2 102 0 _
  refine sm_T_go 5 (c1 := (13, [some (.inr (.inr (some (11, 0)))), some (.inl a1_), some (.inl (S0_.2.2.1 102 0 a1_.toNat))], [.inl 1, .inl a1_, .inr (.inr (some (102, 0)))], S0_)) rfl ?_
  refine sm_T_bin (w := a1_ + 1) rfl (bi_add (by omega) (by omega) (by omega)) ?_ -- pc_ 13
  refine sm_T_go 5 (c1 := (22, [some (.inr (.inr (some (11, 0)))), some (.inl a1_), some (.inl (S0_.2.2.1 102 0 a1_.toNat))], [.inl a1_, .inl 40, .inl a1_, .inr (.inr (some (102, 0))), .inl (a1_ + 1), .inr (.inr (some (102, 0)))], S0_)) rfl ?_
  refine sm_T_bin (w := -a1_ + 40) rfl (bi_sub (by omega) (by omega) (by omega)) ?_ -- pc_ 22
  refine sm_T_nt (u := none) (S1 := sm_acI S0_ 102 0 102 0 (a1_ + 1).toNat a1_.toNat (-a1_ + 40).toNat) rfl rfl (nt_acI (sc := sc_) (t := 102) (i := 0) (t' := 102) (i' := 0) (x := a1_ + 1) (y := a1_) (m := -a1_ + 40) (n := 41) (n1 := 41) rfl rfl (by omega) (by omega) (by omega) (by omega) (by omega)) ?_
  have hIx2_ : gi (sm_acI S0_ 102 0 102 0 (a1_ + 1).toNat a1_.toNat (-a1_ + 40).toNat) := gi_ac hI_ (by decide) (by decide)
  have hFx3_ : ai_fr (sx_W vw_202) S0_ (sm_acI S0_ 102 0 102 0 (a1_ + 1).toNat a1_.toNat (-a1_ + 40).toNat) := ai_fr_tr hF_ (fr_ac rfl)
  refine sm_T_go 4 (c1 := (33, [some (.inr (.inr (some (11, 0)))), some (.inl a1_), some (.inl (S0_.2.2.1 102 0 a1_.toNat))], [.inl (S0_.2.2.1 102 0 a1_.toNat), .inl 40, .inr (.inr (some (102, 0)))], sm_acI S0_ 102 0 102 0 (a1_ + 1).toNat a1_.toNat (-a1_ + 40).toNat)) rfl ?_
  refine sm_T_iast (n := 41) rfl rfl (by omega) (by omega) ?_
  have hIx4_ : gi (sm_aI (sm_acI S0_ 102 0 102 0 (a1_ + 1).toNat a1_.toNat (-a1_ + 40).toNat) 102 0 (40 : Int).toNat (S0_.2.2.1 102 0 a1_.toNat)) := gi_aI hIx2_ (show 0 ≤ (S0_.2.2.1 102 0 a1_.toNat) ∧ (S0_.2.2.1 102 0 a1_.toNat) ≤ 40 from ⟨by omega, by omega⟩)
  have hFx5_ : ai_fr (sx_W vw_202) S0_ (sm_aI (sm_acI S0_ 102 0 102 0 (a1_ + 1).toNat a1_.toNat (-a1_ + 40).toNat) 102 0 (40 : Int).toNat (S0_.2.2.1 102 0 a1_.toNat)) := ai_fr_tr hFx3_ (ai_fr_aI rfl)
  have bx6_ : 0 ≤ S0_.1 11 0 5 ∧ S0_.1 11 0 5 ≤ 41 := hI_.1 11 0 5 rfl
  refine sm_T_go 4 (c1 := (40, [some (.inr (.inr (some (11, 0)))), some (.inl a1_), some (.inl (S0_.2.2.1 102 0 a1_.toNat))], [.inl 1, .inl (S0_.1 11 0 5), .inr (.inr (some (11, 0)))], sm_aI (sm_acI S0_ 102 0 102 0 (a1_ + 1).toNat a1_.toNat (-a1_ + 40).toNat) 102 0 (40 : Int).toNat (S0_.2.2.1 102 0 a1_.toNat))) rfl ?_
  refine sm_T_bin (w := (S0_.1 11 0 5) - 1) rfl (bi_sub (by omega) (by omega) (by omega)) ?_ -- pc_ 40
  have hIx7_ : gi (sm_pI (sm_aI (sm_acI S0_ 102 0 102 0 (a1_ + 1).toNat a1_.toNat (-a1_ + 40).toNat) 102 0 (40 : Int).toNat (S0_.2.2.1 102 0 a1_.toNat)) 11 0 5 ((S0_.1 11 0 5) - 1)) := gi_pI hIx4_ (show 0 ≤ (S0_.1 11 0 5) - 1 ∧ (S0_.1 11 0 5) - 1 ≤ 41 from ⟨by omega, by omega⟩)
  have hFx8_ : ai_fr (sx_W vw_202) S0_ (sm_pI (sm_aI (sm_acI S0_ 102 0 102 0 (a1_ + 1).toNat a1_.toNat (-a1_ + 40).toNat) 102 0 (40 : Int).toNat (S0_.2.2.1 102 0 a1_.toNat)) 11 0 5 ((S0_.1 11 0 5) - 1)) := ai_fr_tr hFx5_ (ai_fr_pI rfl)
  refine sm_T_go 1 (c1 := (44, [some (.inr (.inr (some (11, 0)))), some (.inl a1_), some (.inl (S0_.2.2.1 102 0 a1_.toNat))], [], sm_pI (sm_aI (sm_acI S0_ 102 0 102 0 (a1_ + 1).toNat a1_.toNat (-a1_ + 40).toNat) 102 0 (40 : Int).toNat (S0_.2.2.1 102 0 a1_.toNat)) 11 0 5 ((S0_.1 11 0 5) - 1))) rfl ?_
  refine sm_T_rv rfl ⟨_, _, rfl, rfl, hIx7_, hFx8_, ?_⟩
  refine ⟨by show S0_.1 11 0 5 - 1 ≤ 40; omega, ?_⟩
  intro i_ hi_ hn_
  have hi2_ : (i_ : Int) ≤ S0_.1 11 0 5 - 1 := hi_
  have hn2_ : (i_ : Int) ≠ S0_.1 11 0 5 - 1 := hn_
  have o9_ : ((sm_pI (sm_aI (sm_acI S0_ 102 0 102 0 (a1_ + 1).toNat a1_.toNat (-a1_ + 40).toNat) 102 0 (40 : Int).toNat (S0_.2.2.1 102 0 a1_.toNat)) 11 0 5 ((S0_.1 11 0 5) - 1))).2.2.1 102 0 i_ = sm_cp (S0_.2.2.1 102 0) (S0_.2.2.1 102 0) (a1_ + 1).toNat a1_.toNat (-a1_ + 40).toNat i_ := by rw [rd_fa, rd_eq, if_neg (by show i_ ≠ 40; omega), sm_acI_at]
  rw [o9_]
  by_cases y9_ : a1_.toNat ≤ i_
  · rw [cp_at y9_ (by omega), show (a1_ + 1).toNat + (i_ - a1_.toNat) = i_ + 1 by omega]; exact hp_.2 (i_ + 1) (by omega) (by omega)
  · rw [cp_ot (by omega)]; exact hp_.2 i_ (by omega) (by omega)
