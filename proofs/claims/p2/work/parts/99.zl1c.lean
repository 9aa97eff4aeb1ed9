/-! Layout.removeBox -/
def vw_70 : sx_Wl := ([(4, 1), (4, 9), (4, 10)], [48], [])
def vq_70 (a1_ : Int) (ii_ : Nat) (S0_ : sm_S) (u_ : Option sm_V) (S1_ : sm_S) : Prop := u_ = none ∧ gi S1_ ∧ ai_fr (sx_W vw_70) S0_ S1_ ∧ (cdf ii_ S0_ S1_ ∧ (True))
set_option maxHeartbeats 400000 in
theorem vc_70 {sc_ : Nat × (Nat → Int)} (a1_ : Int) (ii_ : Nat) (S0_ : sm_S) (hI_ : gi S0_) (h1_ : 0 ≤ a1_ ∧ a1_ < S0_.1 4 ii_ 1) : sm_T (mt_P sc_) 1 70 (0, [some (.inr (.inr (some (4, ii_)))), some (.inl a1_), none], [], S0_) (fun ro9_ => ∃ u_ S1_, ro9_ = (.inl u_, S1_, 0) ∧ vq_70 a1_ ii_ S0_ u_ S1_) := by
  have hF_ : ai_fr (sx_W vw_70) S0_ S0_ := ai_fr_rf
  have hC_ : cdf ii_ S0_ S0_ := cdf_rf
  have bx1_ : 0 ≤ S0_.1 4 ii_ 1 ∧ S0_.1 4 ii_ 1 ≤ 2000 := hI_.1 4 ii_ 1 rfl
  refine sm_T_go 3 (c1 := (5, [some (.inr (.inr (some (4, ii_)))), some (.inl a1_), none], [.inl 1, .inl (S0_.1 4 ii_ 1)], S0_)) rfl ?_
  refine sm_T_bin (w := (S0_.1 4 ii_ 1) - 1) rfl (bi_sub (by omega) (by omega) (by omega)) ?_ -- pc_ 5
  refine sm_T_go 1 (c1 := (7, [some (.inr (.inr (some (4, ii_)))), some (.inl a1_), none], [.inl a1_, .inl ((S0_.1 4 ii_ 1) - 1)], S0_)) rfl ?_
  refine sm_T_bin (w := (S0_.1 4 ii_ 1) - a1_ - 1) rfl (bi_sub (by omega) (by omega) (by omega)) ?_ -- pc_ 7
  refine sm_T_go 6 (c1 := (16, [some (.inr (.inr (some (4, ii_)))), some (.inl a1_), some (.inl ((S0_.1 4 ii_ 1) - a1_ - 1))], [.inl 1, .inl a1_, .inl 5, .inr (.inr (some (48, (0 + ii_))))], S0_)) rfl ?_
  refine sm_T_bin (w := a1_ + 1) rfl (bi_add (by omega) (by omega) (by omega)) ?_ -- pc_ 16
  refine sm_T_bin (w := 5 * a1_ + 5) rfl (bi_mul (by omega) (by omega) (by omega)) ?_ -- pc_ 17
  refine sm_T_go 4 (c1 := (24, [some (.inr (.inr (some (4, ii_)))), some (.inl a1_), some (.inl ((S0_.1 4 ii_ 1) - a1_ - 1))], [.inl a1_, .inl 5, .inr (.inr (some (48, (0 + ii_)))), .inl (5 * a1_ + 5), .inr (.inr (some (48, (0 + ii_))))], S0_)) rfl ?_
  refine sm_T_bin (w := 5 * a1_) rfl (bi_mul (by omega) (by omega) (by omega)) ?_ -- pc_ 24
  refine sm_T_go 2 (c1 := (27, [some (.inr (.inr (some (4, ii_)))), some (.inl a1_), some (.inl ((S0_.1 4 ii_ 1) - a1_ - 1))], [.inl ((S0_.1 4 ii_ 1) - a1_ - 1), .inl 5, .inl (5 * a1_), .inr (.inr (some (48, (0 + ii_)))), .inl (5 * a1_ + 5), .inr (.inr (some (48, (0 + ii_))))], S0_)) rfl ?_
  refine sm_T_bin (w := 5 * (S0_.1 4 ii_ 1) - 5 * a1_ - 5) rfl (bi_mul (by omega) (by omega) (by omega)) ?_ -- pc_ 27
  refine sm_T_nt (u := none) (S1 := sm_acI S0_ 48 (0 + ii_) 48 (0 + ii_) (5 * a1_ + 5).toNat (5 * a1_).toNat (5 * (S0_.1 4 ii_ 1) - 5 * a1_ - 5).toNat) rfl rfl (nt_acI (sc := sc_) (t := 48) (i := (0 + ii_)) (t' := 48) (i' := (0 + ii_)) (x := 5 * a1_ + 5) (y := 5 * a1_) (m := 5 * (S0_.1 4 ii_ 1) - 5 * a1_ - 5) (n := 10000) (n1 := 10000) rfl rfl (by omega) (by omega) (by omega) (by omega) (by omega)) ?_
  have hIx2_ : gi (sm_acI S0_ 48 (0 + ii_) 48 (0 + ii_) (5 * a1_ + 5).toNat (5 * a1_).toNat (5 * (S0_.1 4 ii_ 1) - 5 * a1_ - 5).toNat) := gi_ac hI_ (by decide) (by decide)
  have hFx3_ : ai_fr (sx_W vw_70) S0_ (sm_acI S0_ 48 (0 + ii_) 48 (0 + ii_) (5 * a1_ + 5).toNat (5 * a1_).toNat (5 * (S0_.1 4 ii_ 1) - 5 * a1_ - 5).toNat) := ai_fr_tr hF_ (fr_ac rfl)
  have hCx4_ : cdf ii_ S0_ (sm_acI S0_ 48 (0 + ii_) 48 (0 + ii_) (5 * a1_ + 5).toNat (5 * a1_).toNat (5 * (S0_.1 4 ii_ 1) - 5 * a1_ - 5).toNat) := cdf_ac hC_ (Or.inr (by rw [show cof 48 = 0 from rfl] <;> omega))
  refine sm_T_go 4 (c1 := (37, [some (.inr (.inr (some (4, ii_)))), some (.inl a1_), some (.inl ((S0_.1 4 ii_ 1) - a1_ - 1))], [.inl 1, .inl (S0_.1 4 ii_ 1), .inr (.inr (some (4, ii_)))], sm_acI S0_ 48 (0 + ii_) 48 (0 + ii_) (5 * a1_ + 5).toNat (5 * a1_).toNat (5 * (S0_.1 4 ii_ 1) - 5 * a1_ - 5).toNat)) rfl ?_
  refine sm_T_bin (w := (S0_.1 4 ii_ 1) - 1) rfl (bi_sub (by omega) (by omega) (by omega)) ?_ -- pc_ 37
  have hIx5_ : gi (sm_pI (sm_acI S0_ 48 (0 + ii_) 48 (0 + ii_) (5 * a1_ + 5).toNat (5 * a1_).toNat (5 * (S0_.1 4 ii_ 1) - 5 * a1_ - 5).toNat) 4 ii_ 1 ((S0_.1 4 ii_ 1) - 1)) := gi_pI hIx2_ (show 0 ≤ (S0_.1 4 ii_ 1) - 1 ∧ (S0_.1 4 ii_ 1) - 1 ≤ 2000 from ⟨by omega, by omega⟩)
  have hFx6_ : ai_fr (sx_W vw_70) S0_ (sm_pI (sm_acI S0_ 48 (0 + ii_) 48 (0 + ii_) (5 * a1_ + 5).toNat (5 * a1_).toNat (5 * (S0_.1 4 ii_ 1) - 5 * a1_ - 5).toNat) 4 ii_ 1 ((S0_.1 4 ii_ 1) - 1)) := ai_fr_tr hFx3_ (ai_fr_pI rfl)
  have hCx7_ : cdf ii_ S0_ (sm_pI (sm_acI S0_ 48 (0 + ii_) 48 (0 + ii_) (5 * a1_ + 5).toNat (5 * a1_).toNat (5 * (S0_.1 4 ii_ 1) - 5 * a1_ - 5).toNat) 4 ii_ 1 ((S0_.1 4 ii_ 1) - 1)) := cdf_pI hCx4_ (Or.inr (by rw [show cof 4 = 0 from rfl] <;> omega))
  refine sm_T_go 2 (c1 := (42, [some (.inr (.inr (some (4, ii_)))), some (.inl a1_), some (.inl ((S0_.1 4 ii_ 1) - a1_ - 1))], [.inr (.inr (some (4, ii_)))], sm_pI (sm_acI S0_ 48 (0 + ii_) 48 (0 + ii_) (5 * a1_ + 5).toNat (5 * a1_).toNat (5 * (S0_.1 4 ii_ 1) - 5 * a1_ - 5).toNat) 4 ii_ 1 ((S0_.1 4 ii_ 1) - 1))) rfl ?_
  refine sm_T_cal (d1 := 0) (Q1 := vq_68 ii_ (sm_pI (sm_acI S0_ 48 (0 + ii_) 48 (0 + ii_) (5 * a1_ + 5).toNat (5 * a1_).toNat (5 * (S0_.1 4 ii_ 1) - 5 * a1_ - 5).toNat) 4 ii_ 1 ((S0_.1 4 ii_ 1) - 1))) rfl rfl (by decide) (vc_68 ii_ (sm_pI (sm_acI S0_ 48 (0 + ii_) 48 (0 + ii_) (5 * a1_ + 5).toNat (5 * a1_).toNat (5 * (S0_.1 4 ii_ 1) - 5 * a1_ - 5).toNat) 4 ii_ 1 ((S0_.1 4 ii_ 1) - 1)) hIx5_ ) (fun u_ Sx8_ px11_ => ?_)
  obtain ⟨rfl, hIx9_, hFx10_, px11_⟩ := px11_
  have hFx12_ : ai_fr (sx_W vw_70) S0_ Sx8_ := ai_fr_tr hFx6_ (fr_le hFx10_ rfl)
  obtain ⟨dx14_, px11_⟩ := px11_
  have hCx13_ : cdf ii_ S0_ Sx8_ := cdf_tr hCx7_ (cdf_cg (by omega) dx14_)
  refine sm_T_rv rfl ⟨_, _, rfl, rfl, hIx9_, hFx12_, ?_⟩
  refine ⟨hCx13_, ?_⟩
  trivial
