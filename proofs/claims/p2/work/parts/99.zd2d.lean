/-! M_.makeRegister -/
def vw_344 : sx_Wl := ([(13, 9), (13, 52), (13, 53)], [144, 150, 151], [])
def vq_344 (nm_ : Int) (b_ : Nat → Int) (n_ : Nat) (T_ : Nat) (p_ : Nat) (uu_ : Nat) (f_ : Nat) (q_ : Nat) (A_ : pA) (M_ : Nat) (s_ : Nat) (fr_ : Nat) (wd_ : Nat) (R_ : Nat) (I_ : Nat) (S0_ : sm_S) (u_ : Option sm_V) (S1_ : sm_S) : Prop := u_ = none ∧ gi S1_ ∧ ai_fr (sx_W vw_344) S0_ S1_ ∧ (rg b_ n_ T_ (.inr q_) S1_ ∧ (S1_.1 13 0 53) = ((R_ + wd_ : Nat) : Int) ∧ (∀ j_, S1_.2.2.1 150 0 j_ = if j_ = 40 * fr_ + s_ then (R_ : Int) else S0_.2.2.1 150 0 j_) ∧ rwv (S1_.2.2.1 144 0) (8 * (40 * fr_ + s_)) (r_bt I_ R_ wd_) ∧ (∀ j_, j_ < 8 * (40 * fr_ + s_) ∨ 8 * (40 * fr_ + s_) + 8 ≤ j_ → S1_.2.2.1 144 0 j_ = S0_.2.2.1 144 0 j_) ∧ rnS S1_)
set_option maxHeartbeats 1500000 in
theorem vl_344 {sc_ : Nat × (Nat → Int)} (nm_ : Int) (b_ : Nat → Int) (n_ : Nat) (T_ : Nat) (p_ : Nat) (uu_ : Nat) (f_ : Nat) (q_ : Nat) (A_ : pA) (M_ : Nat) (s_ : Nat) (fr_ : Nat) (wd_ : Nat) (R_ : Nat) (I_ : Nat) (S0_ : sm_S) (ht_ : rtab b_ n_ T_ S0_) (hx_ : rg b_ n_ T_ (.inr p_) S0_) (hn_ : nxs b_ n_ 59 f_ p_ uu_) (hq_ : p_ad b_ n_ uu_ = .inr q_) (hf_ : (S0_.1 13 0 29) = (fr_ : Int) ∧ fr_ ≤ 15) (hn1_ : nm_ = (s_ : Int) ∧ s_ < A_.1 M_ ∧ A_.1 M_ ≤ 40 ∧ M_ ≤ 15) (hmd_ : (S0_.1 13 0 28) = (M_ : Int)) (hw_ : S0_.2.2.1 129 0 (40 * M_ + s_) = (wd_ : Int) ∧ 1 ≤ wd_ ∧ wd_ ≤ 8) (hR_ : (S0_.1 13 0 53) = (R_ : Int) ∧ R_ + wd_ ≤ 6) (hms_ : 1 ≤ (S0_.1 13 0 12) ∧ (S0_.1 13 0 12) ≤ 16) (hI1_ : S0_.2.2.1 132 0 ((S0_.1 13 0 12) - 1).toNat = (I_ : Int) ∧ I_ ≤ 12) (hrn_ : rnS S0_) (hnf_ : 1 + (I_ : Int) + R_ + wd_ ≤ (S0_.1 13 0 37)) : ∀ nn_ : Nat, (∀ (kx_ : Int) (k_ : Int) (S_ : sm_S), gi S_ → ai_fr (sx_W vw_344) S0_ S_ → (((0 ≤ k_ ∧ k_ ≤ (wd_ : Int)) ∧ kx_ = 40 * (M_ : Int) + s_ ∧ (S_.1 13 0 53) = (R_ : Int) + k_) ∧ (rg b_ n_ T_ (.inr p_) S_) ∧ (∀ j_, S_.2.2.1 150 0 j_ = if j_ = 40 * fr_ + s_ then (R_ : Int) else S0_.2.2.1 150 0 j_) ∧ (rwv (S_.2.2.1 144 0) (8 * (40 * fr_ + s_)) (r_bt I_ R_ k_.toNat)) ∧ (∀ j_, j_ < 8 * (40 * fr_ + s_) ∨ 8 * (40 * fr_ + s_) + 8 ≤ j_ → S_.2.2.1 144 0 j_ = S0_.2.2.1 144 0 j_) ∧ (rnS S_) ∧ True) → (((wd_ : Int) - k_).toNat) < nn_ → sm_T (mt_P sc_) 2 344 (30, [some (.inr (.inr (some (13, 0)))), some (.inl nm_), some (.inl kx_), some (.inl k_), none], [], S_) (fun ro9_ => ∃ u_ S1_, ro9_ = (.inl u_, S1_, 0) ∧ vq_344 nm_ b_ n_ T_ p_ uu_ f_ q_ A_ M_ s_ fr_ wd_ R_ I_ S0_ u_ S1_)) := by
  intro nn_
  induction nn_ with
  | zero => exact fun _ _ _ _ _ _ h_ => absurd h_ (Nat.not_lt_zero _)
  | succ nn_ ih_ =>
    rintro kx_ k_ S_ hI_ hF_ ⟨h0_, h4_, h5_, h1_, h2_, h6_, -⟩ hm_
    have f1_ : S_.1 13 0 29 = (fr_ : Int) := (hF_.1 13 0 29 rfl).trans hf_.1
    have m1_ : S_.1 13 0 12 = S0_.1 13 0 12 := hF_.1 13 0 12 rfl
    have w1_ : S_.2.2.1 129 0 kx_.toNat = (wd_ : Int) := by rw [fr_arr (t := 129) (i := 0) hF_ rfl, show kx_.toNat = 40 * M_ + s_ by omega]; exact hw_.1
    have i1_ : S_.2.2.1 132 0 (S_.1 13 0 12 - 1).toNat = (I_ : Int) := by rw [fr_arr (t := 132) (i := 0) hF_ rfl, m1_]; exact hI1_.1
    have ht1_ := rtab_fr ht_ hF_ rfl rfl rfl rfl rfl
    have hwb_ := hw_.2
    have hib_ := hI1_.2
    have n37_ : S_.1 13 0 37 = S0_.1 13 0 37 := hF_.1 13 0 37 rfl
    refine sm_T_go 4 (c1 := (36, [some (.inr (.inr (some (13, 0)))), some (.inl nm_), some (.inl kx_), some (.inl k_), none], [.inl kx_, .inr (.inr (some (129, 0))), .inl k_], S_)) rfl ?_
    refine sm_T_iald (n := 640) rfl rfl (by omega) (by omega) ?_
    have bx1_ : 0 ≤ S_.2.2.1 129 0 kx_.toNat ∧ S_.2.2.1 129 0 kx_.toNat ≤ 8 := hI_.2 129 0 _
    refine sm_T_br (a := 3) (z := 97) rfl (fun cx2_ => ?_) (fun cx2_ => ?_)
    · have cx2_ : (S_.2.2.1 129 0 kx_.toNat) ≤ k_ := of_decide_eq_true cx2_
      refine sm_T_go 2 (c1 := (137, [some (.inr (.inr (some (13, 0)))), some (.inl nm_), some (.inl kx_), some (.inl k_), none], [.inl 59, .inr (.inr (some (13, 0)))], S_)) rfl ?_
      refine sm_T_cal (d1 := 1) (Q1 := vq_343 59 b_ n_ T_ p_ uu_ f_ q_ S_) rfl rfl (by decide) (vc_343 59 b_ n_ T_ p_ uu_ f_ q_ S_ hI_ (by exact ht1_) (by exact h4_) (by exact hn_) (by exact hq_) (by decide)) (fun u_ Sx3_ px6_ => ?_)
      obtain ⟨rfl, hIx4_, hFx5_, px6_⟩ := px6_
      have hFx7_ : ai_fr (sx_W vw_344) S0_ Sx3_ := ai_fr_tr hF_ (fr_le hFx5_ rfl)
      have e137_ := px6_
      have u137_ := hFx5_.1 13 0 53 rfl
      have a137_ := fr_arr (t := 150) (i := 0) hFx5_ rfl
      have b137_ := fr_arr (t := 144) (i := 0) hFx5_ rfl
      have c137_ := rnS_fr h6_ hFx5_ rfl rfl rfl rfl
      refine sm_T_rv rfl ⟨_, _, rfl, rfl, hIx4_, hFx7_, ?_⟩
      refine ⟨e137_, by rw [u137_]; push_cast; omega, fun j_ => by rw [a137_]; exact h5_ j_, by rw [b137_, show wd_ = k_.toNat by omega]; exact h1_, fun j_ hj_ => by rw [b137_]; exact h2_ j_ hj_, c137_⟩
    · have cx2_ : ¬ ((S_.2.2.1 129 0 kx_.toNat) ≤ k_) := of_decide_eq_false cx2_
      have bx8_ : 0 ≤ S_.1 13 0 12 ∧ S_.1 13 0 12 ≤ 16 := hI_.1 13 0 12 rfl
      refine sm_T_go 7 (c1 := (51, [some (.inr (.inr (some (13, 0)))), some (.inl nm_), some (.inl kx_), some (.inl k_), none], [.inl 1, .inl (S_.1 13 0 12), .inr (.inr (some (132, 0))), .inl 1, .inl 2], S_)) rfl ?_
      refine sm_T_bin (w := (S_.1 13 0 12) - 1) rfl (bi_sub (by omega) (by omega) (by omega)) ?_
      refine sm_T_iald (n := 16) rfl rfl (by omega) (by omega) ?_
      have bx9_ : 0 ≤ S_.2.2.1 132 0 ((S_.1 13 0 12) - 1).toNat ∧ S_.2.2.1 132 0 ((S_.1 13 0 12) - 1).toNat ≤ 320 := hI_.2 132 0 _
      refine sm_T_bin (w := (S_.2.2.1 132 0 ((S_.1 13 0 12) - 1).toNat) + 1) rfl (bi_add (by omega) (by omega) (by omega)) ?_
      have bx10_ : 0 ≤ S_.1 13 0 53 ∧ S_.1 13 0 53 ≤ 6 := hI_.1 13 0 53 rfl
      refine sm_T_go 2 (c1 := (58, [some (.inr (.inr (some (13, 0)))), some (.inl nm_), some (.inl kx_), some (.inl k_), none], [.inl (S_.1 13 0 53), .inl ((S_.2.2.1 132 0 ((S_.1 13 0 12) - 1).toNat) + 1), .inl 2], S_)) rfl ?_
      refine sm_T_bin (w := (S_.2.2.1 132 0 ((S_.1 13 0 12) - 1).toNat) + (S_.1 13 0 53) + 1) rfl (bi_add (by omega) (by omega) (by omega)) ?_
      refine sm_T_bin (w := 2 * (S_.2.2.1 132 0 ((S_.1 13 0 12) - 1).toNat) + 2 * (S_.1 13 0 53) + 2) rfl (bi_mul (by omega) (by omega) (by omega)) ?_
      have bx11_ : 0 ≤ S_.1 13 0 29 ∧ S_.1 13 0 29 ≤ 16 := hI_.1 13 0 29 rfl
      refine sm_T_go 7 (c1 := (74, [some (.inr (.inr (some (13, 0)))), some (.inl nm_), some (.inl kx_), some (.inl k_), some (.inl (2 * (S_.2.2.1 132 0 ((S_.1 13 0 12) - 1).toNat) + 2 * (S_.1 13 0 53) + 2))], [.inl (S_.1 13 0 29), .inl 40, .inl 8, .inr (.inr (some (144, 0)))], S_)) rfl ?_
      refine sm_T_bin (w := 40 * (S_.1 13 0 29)) rfl (bi_mul (by omega) (by omega) (by omega)) ?_
      refine sm_T_go 1 (c1 := (76, [some (.inr (.inr (some (13, 0)))), some (.inl nm_), some (.inl kx_), some (.inl k_), some (.inl (2 * (S_.2.2.1 132 0 ((S_.1 13 0 12) - 1).toNat) + 2 * (S_.1 13 0 53) + 2))], [.inl nm_, .inl (40 * (S_.1 13 0 29)), .inl 8, .inr (.inr (some (144, 0)))], S_)) rfl ?_
      refine sm_T_bin (w := 40 * (S_.1 13 0 29) + nm_) rfl (bi_add (by omega) (by omega) (by omega)) ?_
      refine sm_T_bin (w := 320 * (S_.1 13 0 29) + 8 * nm_) rfl (bi_mul (by omega) (by omega) (by omega)) ?_
      refine sm_T_go 1 (c1 := (79, [some (.inr (.inr (some (13, 0)))), some (.inl nm_), some (.inl kx_), some (.inl k_), some (.inl (2 * (S_.2.2.1 132 0 ((S_.1 13 0 12) - 1).toNat) + 2 * (S_.1 13 0 53) + 2))], [.inl k_, .inl (320 * (S_.1 13 0 29) + 8 * nm_), .inr (.inr (some (144, 0)))], S_)) rfl ?_
      refine sm_T_bin (w := 320 * (S_.1 13 0 29) + 8 * nm_ + k_) rfl (bi_add (by omega) (by omega) (by omega)) ?_
      refine sm_T_go 1 (c1 := (82, [some (.inr (.inr (some (13, 0)))), some (.inl nm_), some (.inl kx_), some (.inl k_), some (.inl (2 * (S_.2.2.1 132 0 ((S_.1 13 0 12) - 1).toNat) + 2 * (S_.1 13 0 53) + 2))], [.inl (2 * (S_.2.2.1 132 0 ((S_.1 13 0 12) - 1).toNat) + 2 * (S_.1 13 0 53) + 2), .inl (320 * (S_.1 13 0 29) + 8 * nm_ + k_), .inr (.inr (some (144, 0)))], S_)) rfl ?_
      refine sm_T_iast (n := 5120) rfl rfl (by omega) (by omega) ?_
      have hIx12_ : gi (sm_aI S_ 144 0 (320 * (S_.1 13 0 29) + 8 * nm_ + k_).toNat (2 * (S_.2.2.1 132 0 ((S_.1 13 0 12) - 1).toNat) + 2 * (S_.1 13 0 53) + 2)) := gi_aI hI_ (show 0 ≤ 2 * (S_.2.2.1 132 0 ((S_.1 13 0 12) - 1).toNat) + 2 * (S_.1 13 0 53) + 2 ∧ 2 * (S_.2.2.1 132 0 ((S_.1 13 0 12) - 1).toNat) + 2 * (S_.1 13 0 53) + 2 ≤ 2047 from ⟨by omega, by omega⟩)
      have hFx13_ : ai_fr (sx_W vw_344) S0_ (sm_aI S_ 144 0 (320 * (S_.1 13 0 29) + 8 * nm_ + k_).toNat (2 * (S_.2.2.1 132 0 ((S_.1 13 0 12) - 1).toNat) + 2 * (S_.1 13 0 53) + 2)) := ai_fr_tr hF_ (ai_fr_aI rfl)
      refine sm_T_go 5 (c1 := (93, [some (.inr (.inr (some (13, 0)))), some (.inl nm_), some (.inl kx_), some (.inl k_), some (.inl (2 * (S_.2.2.1 132 0 ((S_.1 13 0 12) - 1).toNat) + 2 * (S_.1 13 0 53) + 2))], [.inl (2 * (S_.2.2.1 132 0 ((S_.1 13 0 12) - 1).toNat) + 2 * (S_.1 13 0 53) + 2), .inl (S_.1 13 0 53), .inr (.inr (some (151, 0)))], sm_aI S_ 144 0 (320 * (S_.1 13 0 29) + 8 * nm_ + k_).toNat (2 * (S_.2.2.1 132 0 ((S_.1 13 0 12) - 1).toNat) + 2 * (S_.1 13 0 53) + 2))) rfl ?_
      refine sm_T_iast (n := 1024) rfl rfl (by omega) (by omega) ?_
      have hIx14_ : gi (sm_aI (sm_aI S_ 144 0 (320 * (S_.1 13 0 29) + 8 * nm_ + k_).toNat (2 * (S_.2.2.1 132 0 ((S_.1 13 0 12) - 1).toNat) + 2 * (S_.1 13 0 53) + 2)) 151 0 (S_.1 13 0 53).toNat (2 * (S_.2.2.1 132 0 ((S_.1 13 0 12) - 1).toNat) + 2 * (S_.1 13 0 53) + 2)) := gi_aI hIx12_ (show 0 ≤ 2 * (S_.2.2.1 132 0 ((S_.1 13 0 12) - 1).toNat) + 2 * (S_.1 13 0 53) + 2 ∧ 2 * (S_.2.2.1 132 0 ((S_.1 13 0 12) - 1).toNat) + 2 * (S_.1 13 0 53) + 2 ≤ 2047 from ⟨by omega, by omega⟩)
      have hFx15_ : ai_fr (sx_W vw_344) S0_ (sm_aI (sm_aI S_ 144 0 (320 * (S_.1 13 0 29) + 8 * nm_ + k_).toNat (2 * (S_.2.2.1 132 0 ((S_.1 13 0 12) - 1).toNat) + 2 * (S_.1 13 0 53) + 2)) 151 0 (S_.1 13 0 53).toNat (2 * (S_.2.2.1 132 0 ((S_.1 13 0 12) - 1).toNat) + 2 * (S_.1 13 0 53) + 2)) := ai_fr_tr hFx13_ (ai_fr_aI rfl)
      have bx16_ : 0 ≤ S_.1 13 0 52 ∧ S_.1 13 0 52 ≤ 63 := hI_.1 13 0 52 rfl
      refine sm_T_go 6 (c1 := (104, [some (.inr (.inr (some (13, 0)))), some (.inl nm_), some (.inl kx_), some (.inl k_), some (.inl (2 * (S_.2.2.1 132 0 ((S_.1 13 0 12) - 1).toNat) + 2 * (S_.1 13 0 53) + 2))], [.inl kx_, .inr (.inr (some (130, 0))), .inl (S_.1 13 0 52), .inr (.inr (some (13, 0)))], sm_aI (sm_aI S_ 144 0 (320 * (S_.1 13 0 29) + 8 * nm_ + k_).toNat (2 * (S_.2.2.1 132 0 ((S_.1 13 0 12) - 1).toNat) + 2 * (S_.1 13 0 53) + 2)) 151 0 (S_.1 13 0 53).toNat (2 * (S_.2.2.1 132 0 ((S_.1 13 0 12) - 1).toNat) + 2 * (S_.1 13 0 53) + 2))) rfl ?_
      refine sm_T_iald (n := 640) rfl rfl (by omega) (by omega) ?_
      have bx17_ : 0 ≤ S_.2.2.1 130 0 kx_.toNat ∧ S_.2.2.1 130 0 kx_.toNat ≤ 2147483647 := hI_.2 130 0 _
      refine sm_T_go 1 (c1 := (106, [some (.inr (.inr (some (13, 0)))), some (.inl nm_), some (.inl kx_), some (.inl k_), some (.inl (2 * (S_.2.2.1 132 0 ((S_.1 13 0 12) - 1).toNat) + 2 * (S_.1 13 0 53) + 2))], [.inl k_, .inl (S_.2.2.1 130 0 kx_.toNat), .inl (S_.1 13 0 52), .inr (.inr (some (13, 0)))], sm_aI (sm_aI S_ 144 0 (320 * (S_.1 13 0 29) + 8 * nm_ + k_).toNat (2 * (S_.2.2.1 132 0 ((S_.1 13 0 12) - 1).toNat) + 2 * (S_.1 13 0 53) + 2)) 151 0 (S_.1 13 0 53).toNat (2 * (S_.2.2.1 132 0 ((S_.1 13 0 12) - 1).toNat) + 2 * (S_.1 13 0 53) + 2))) rfl ?_
      refine sm_T_bin (w := (i_shr (S_.2.2.1 130 0 kx_.toNat) k_)) rfl rfl ?_
      refine sm_T_go 1 (c1 := (108, [some (.inr (.inr (some (13, 0)))), some (.inl nm_), some (.inl kx_), some (.inl k_), some (.inl (2 * (S_.2.2.1 132 0 ((S_.1 13 0 12) - 1).toNat) + 2 * (S_.1 13 0 53) + 2))], [.inl 1, .inl (i_shr (S_.2.2.1 130 0 kx_.toNat) k_), .inl (S_.1 13 0 52), .inr (.inr (some (13, 0)))], sm_aI (sm_aI S_ 144 0 (320 * (S_.1 13 0 29) + 8 * nm_ + k_).toNat (2 * (S_.2.2.1 132 0 ((S_.1 13 0 12) - 1).toNat) + 2 * (S_.1 13 0 53) + 2)) 151 0 (S_.1 13 0 53).toNat (2 * (S_.2.2.1 132 0 ((S_.1 13 0 12) - 1).toNat) + 2 * (S_.1 13 0 53) + 2))) rfl ?_
      refine sm_T_bin (w := ((i_shr (S_.2.2.1 130 0 kx_.toNat) k_) % 2)) rfl (bi_msk (k := 1) (by decide)) ?_
      refine sm_T_go 2 (c1 := (113, [some (.inr (.inr (some (13, 0)))), some (.inl nm_), some (.inl kx_), some (.inl k_), some (.inl (2 * (S_.2.2.1 132 0 ((S_.1 13 0 12) - 1).toNat) + 2 * (S_.1 13 0 53) + 2))], [.inl (S_.1 13 0 53), .inl ((i_shr (S_.2.2.1 130 0 kx_.toNat) k_) % 2), .inl (S_.1 13 0 52), .inr (.inr (some (13, 0)))], sm_aI (sm_aI S_ 144 0 (320 * (S_.1 13 0 29) + 8 * nm_ + k_).toNat (2 * (S_.2.2.1 132 0 ((S_.1 13 0 12) - 1).toNat) + 2 * (S_.1 13 0 53) + 2)) 151 0 (S_.1 13 0 53).toNat (2 * (S_.2.2.1 132 0 ((S_.1 13 0 12) - 1).toNat) + 2 * (S_.1 13 0 53) + 2))) rfl ?_
      refine sm_T_bin (w := (i_shl ((i_shr (S_.2.2.1 130 0 kx_.toNat) k_) % 2) (S_.1 13 0 53))) rfl rfl ?_
      have bx18_ := i_shb (x_ := ((i_shr (S_.2.2.1 130 0 kx_.toNat) k_) % 2)) (y_ := (S_.1 13 0 53)) (by omega) (by omega)
      refine sm_T_bin (w := (i_or (S_.1 13 0 52) (i_shl ((i_shr (S_.2.2.1 130 0 kx_.toNat) k_) % 2) (S_.1 13 0 53)))) rfl rfl ?_
      have bx19_ := i_orb (x_ := (S_.1 13 0 52)) (y_ := (i_shl ((i_shr (S_.2.2.1 130 0 kx_.toNat) k_) % 2) (S_.1 13 0 53))) (by omega) (by omega)
      have hIx20_ : gi (sm_pI (sm_aI (sm_aI S_ 144 0 (320 * (S_.1 13 0 29) + 8 * nm_ + k_).toNat (2 * (S_.2.2.1 132 0 ((S_.1 13 0 12) - 1).toNat) + 2 * (S_.1 13 0 53) + 2)) 151 0 (S_.1 13 0 53).toNat (2 * (S_.2.2.1 132 0 ((S_.1 13 0 12) - 1).toNat) + 2 * (S_.1 13 0 53) + 2)) 13 0 52 (i_or (S_.1 13 0 52) (i_shl ((i_shr (S_.2.2.1 130 0 kx_.toNat) k_) % 2) (S_.1 13 0 53)))) := gi_pI hIx14_ (show 0 ≤ (i_or (S_.1 13 0 52) (i_shl ((i_shr (S_.2.2.1 130 0 kx_.toNat) k_) % 2) (S_.1 13 0 53))) ∧ (i_or (S_.1 13 0 52) (i_shl ((i_shr (S_.2.2.1 130 0 kx_.toNat) k_) % 2) (S_.1 13 0 53))) ≤ 63 from ⟨by omega, by omega⟩)
      have hFx21_ : ai_fr (sx_W vw_344) S0_ (sm_pI (sm_aI (sm_aI S_ 144 0 (320 * (S_.1 13 0 29) + 8 * nm_ + k_).toNat (2 * (S_.2.2.1 132 0 ((S_.1 13 0 12) - 1).toNat) + 2 * (S_.1 13 0 53) + 2)) 151 0 (S_.1 13 0 53).toNat (2 * (S_.2.2.1 132 0 ((S_.1 13 0 12) - 1).toNat) + 2 * (S_.1 13 0 53) + 2)) 13 0 52 (i_or (S_.1 13 0 52) (i_shl ((i_shr (S_.2.2.1 130 0 kx_.toNat) k_) % 2) (S_.1 13 0 53)))) := ai_fr_tr hFx15_ (ai_fr_pI rfl)
      refine sm_T_go 5 (c1 := (124, [some (.inr (.inr (some (13, 0)))), some (.inl nm_), some (.inl kx_), some (.inl k_), some (.inl (2 * (S_.2.2.1 132 0 ((S_.1 13 0 12) - 1).toNat) + 2 * (S_.1 13 0 53) + 2))], [.inl 1, .inl (S_.1 13 0 53), .inr (.inr (some (13, 0)))], sm_pI (sm_aI (sm_aI S_ 144 0 (320 * (S_.1 13 0 29) + 8 * nm_ + k_).toNat (2 * (S_.2.2.1 132 0 ((S_.1 13 0 12) - 1).toNat) + 2 * (S_.1 13 0 53) + 2)) 151 0 (S_.1 13 0 53).toNat (2 * (S_.2.2.1 132 0 ((S_.1 13 0 12) - 1).toNat) + 2 * (S_.1 13 0 53) + 2)) 13 0 52 (i_or (S_.1 13 0 52) (i_shl ((i_shr (S_.2.2.1 130 0 kx_.toNat) k_) % 2) (S_.1 13 0 53))))) rfl ?_
      refine sm_T_bin (w := (S_.1 13 0 53) + 1) rfl (bi_add (by omega) (by omega) (by omega)) ?_
      have hIx22_ : gi (sm_pI (sm_pI (sm_aI (sm_aI S_ 144 0 (320 * (S_.1 13 0 29) + 8 * nm_ + k_).toNat (2 * (S_.2.2.1 132 0 ((S_.1 13 0 12) - 1).toNat) + 2 * (S_.1 13 0 53) + 2)) 151 0 (S_.1 13 0 53).toNat (2 * (S_.2.2.1 132 0 ((S_.1 13 0 12) - 1).toNat) + 2 * (S_.1 13 0 53) + 2)) 13 0 52 (i_or (S_.1 13 0 52) (i_shl ((i_shr (S_.2.2.1 130 0 kx_.toNat) k_) % 2) (S_.1 13 0 53)))) 13 0 53 ((S_.1 13 0 53) + 1)) := gi_pI hIx20_ (show 0 ≤ (S_.1 13 0 53) + 1 ∧ (S_.1 13 0 53) + 1 ≤ 6 from ⟨by omega, by omega⟩)
      have hFx23_ : ai_fr (sx_W vw_344) S0_ (sm_pI (sm_pI (sm_aI (sm_aI S_ 144 0 (320 * (S_.1 13 0 29) + 8 * nm_ + k_).toNat (2 * (S_.2.2.1 132 0 ((S_.1 13 0 12) - 1).toNat) + 2 * (S_.1 13 0 53) + 2)) 151 0 (S_.1 13 0 53).toNat (2 * (S_.2.2.1 132 0 ((S_.1 13 0 12) - 1).toNat) + 2 * (S_.1 13 0 53) + 2)) 13 0 52 (i_or (S_.1 13 0 52) (i_shl ((i_shr (S_.2.2.1 130 0 kx_.toNat) k_) % 2) (S_.1 13 0 53)))) 13 0 53 ((S_.1 13 0 53) + 1)) := ai_fr_tr hFx21_ (ai_fr_pI rfl)
      refine sm_T_go 1 (c1 := (128, [some (.inr (.inr (some (13, 0)))), some (.inl nm_), some (.inl kx_), some (.inl k_), some (.inl (2 * (S_.2.2.1 132 0 ((S_.1 13 0 12) - 1).toNat) + 2 * (S_.1 13 0 53) + 2))], [], sm_pI (sm_pI (sm_aI (sm_aI S_ 144 0 (320 * (S_.1 13 0 29) + 8 * nm_ + k_).toNat (2 * (S_.2.2.1 132 0 ((S_.1 13 0 12) - 1).toNat) + 2 * (S_.1 13 0 53) + 2)) 151 0 (S_.1 13 0 53).toNat (2 * (S_.2.2.1 132 0 ((S_.1 13 0 12) - 1).toNat) + 2 * (S_.1 13 0 53) + 2)) 13 0 52 (i_or (S_.1 13 0 52) (i_shl ((i_shr (S_.2.2.1 130 0 kx_.toNat) k_) % 2) (S_.1 13 0 53)))) 13 0 53 ((S_.1 13 0 53) + 1))) rfl ?_
      refine sm_T_inc (a := 3) (z := 1) (v := k_) (w := k_ + 1) rfl rfl (by omega) (by omega) (by omega) ?_
      refine sm_T_go 1 (c1 := (30, [some (.inr (.inr (some (13, 0)))), some (.inl nm_), some (.inl kx_), some (.inl (k_ + 1)), some (.inl (2 * (S_.2.2.1 132 0 ((S_.1 13 0 12) - 1).toNat) + 2 * (S_.1 13 0 53) + 2))], [], sm_pI (sm_pI (sm_aI (sm_aI S_ 144 0 (320 * (S_.1 13 0 29) + 8 * nm_ + k_).toNat (2 * (S_.2.2.1 132 0 ((S_.1 13 0 12) - 1).toNat) + 2 * (S_.1 13 0 53) + 2)) 151 0 (S_.1 13 0 53).toNat (2 * (S_.2.2.1 132 0 ((S_.1 13 0 12) - 1).toNat) + 2 * (S_.1 13 0 53) + 2)) 13 0 52 (i_or (S_.1 13 0 52) (i_shl ((i_shr (S_.2.2.1 130 0 kx_.toNat) k_) % 2) (S_.1 13 0 53)))) 13 0 53 ((S_.1 13 0 53) + 1))) rfl ?_
      refine sm_T_wk [some (.inr (.inr (some (13, 0)))), some (.inl nm_), some (.inl kx_), some (.inl (k_ + 1)), none] (by exact ⟨rfl, rfl, rfl, rfl, trivial⟩) ?_
      refine ih_ kx_ (k_ + 1) (sm_pI (sm_pI (sm_aI (sm_aI S_ 144 0 (320 * (S_.1 13 0 29) + 8 * nm_ + k_).toNat (2 * (S_.2.2.1 132 0 ((S_.1 13 0 12) - 1).toNat) + 2 * (S_.1 13 0 53) + 2)) 151 0 (S_.1 13 0 53).toNat (2 * (S_.2.2.1 132 0 ((S_.1 13 0 12) - 1).toNat) + 2 * (S_.1 13 0 53) + 2)) 13 0 52 (i_or (S_.1 13 0 52) (i_shl ((i_shr (S_.2.2.1 130 0 kx_.toNat) k_) % 2) (S_.1 13 0 53)))) 13 0 53 ((S_.1 13 0 53) + 1)) hIx22_ hFx23_ ⟨?_, ?_, ?_, ?_, ?_, ?_, trivial⟩ ?_
      · (try simp only [rd_eq, rd_ne, rf_eq, rf_nk, rf_nt, rd_fa, rd_af, rd_fl, rd_al, rd_lf, rd_la, rd_leq, rd_lne, rd_fr, rd_ar, ne_eq, Nat.reduceEqDiff, not_false_eq_true]); omega
      · exact h4_
      · (intro j_; (try simp only [rd_eq, rd_ne, rf_eq, rf_nk, rf_nt, rd_fa, rd_af, rd_fl, rd_al, rd_lf, rd_la, rd_leq, rd_lne, rd_fr, rd_ar, ne_eq, Nat.reduceEqDiff, not_false_eq_true]); exact h5_ j_)
      · rw [show (k_ + 1).toNat = k_.toNat + 1 by omega, r_bt_s]
        refine rwv_ap (q_ := 8 * (40 * fr_ + s_) + k_.toNat) h1_ (by rw [r_bt_l]) (fun j9_ => ?_)
        (try simp only [rd_eq, rd_ne, rf_eq, rf_nk, rf_nt, rd_fa, rd_af, rd_fl, rd_al, rd_lf, rd_la, rd_leq, rd_lne, rd_fr, rd_ar, ne_eq, Nat.reduceEqDiff, not_false_eq_true])
        have ec : (320 * S_.1 13 0 29 + 8 * nm_ + k_).toNat = 8 * (40 * fr_ + s_) + k_.toNat := by omega
        rw [ec]
        by_cases q9_ : j9_ = 8 * (40 * fr_ + s_) + k_.toNat
        · rw [if_pos q9_, if_pos q9_]; push_cast; omega
        · rw [if_neg q9_, if_neg q9_]
      · intro j_ hj_
        (try simp only [rd_eq, rd_ne, rf_eq, rf_nk, rf_nt, rd_fa, rd_af, rd_fl, rd_al, rd_lf, rd_la, rd_leq, rd_lne, rd_fr, rd_ar, ne_eq, Nat.reduceEqDiff, not_false_eq_true])
        rw [if_neg (by omega)]
        exact h2_ j_ hj_
      · obtain ⟨u9_, hu9_⟩ : ∃ u9_ : Nat, S_.1 13 0 53 = (u9_ : Int) := ⟨R_ + k_.toNat, by omega⟩
        have a6_ := h6_.1
        have c6_ := h6_.2
        rw [hu9_, Int.toNat_natCast] at a6_
        refine ⟨?_, fun k9_ hk9_ => ?_⟩
        · (try simp only [rd_eq, rd_ne, rf_eq, rf_nk, rf_nt, rd_fa, rd_af, rd_fl, rd_al, rd_lf, rd_la, rd_leq, rd_lne, rd_fr, rd_ar, ne_eq, Nat.reduceEqDiff, not_false_eq_true]); rw [hu9_, show ((u9_ : Int) + 1).toNat = u9_ + 1 by omega]; exact bg_up a6_.1 a6_.2 (by omega) (by omega)
        · (try simp only [rd_eq, rd_ne, rf_eq, rf_nk, rf_nt, rd_fa, rd_af, rd_fl, rd_al, rd_lf, rd_la, rd_leq, rd_lne, rd_fr, rd_ar, ne_eq, Nat.reduceEqDiff, not_false_eq_true]); simp only [rf_eq, rf_nk, rd_fa, ne_eq, Nat.reduceEqDiff, not_false_eq_true] at hk9_; by_cases q9_ : k9_ = (S_.1 13 0 53).toNat; (rw [if_pos q9_]; omega); (rw [if_neg q9_]; exact c6_ k9_ (by omega))
      · omega
set_option maxHeartbeats 1500000 in
theorem vc_344 {sc_ : Nat × (Nat → Int)} (nm_ : Int) (b_ : Nat → Int) (n_ : Nat) (T_ : Nat) (p_ : Nat) (uu_ : Nat) (f_ : Nat) (q_ : Nat) (A_ : pA) (M_ : Nat) (s_ : Nat) (fr_ : Nat) (wd_ : Nat) (R_ : Nat) (I_ : Nat) (S0_ : sm_S) (hI_ : gi S0_) (ht_ : rtab b_ n_ T_ S0_) (hx_ : rg b_ n_ T_ (.inr p_) S0_) (hn_ : nxs b_ n_ 59 f_ p_ uu_) (hq_ : p_ad b_ n_ uu_ = .inr q_) (hf_ : (S0_.1 13 0 29) = (fr_ : Int) ∧ fr_ ≤ 15) (hn1_ : nm_ = (s_ : Int) ∧ s_ < A_.1 M_ ∧ A_.1 M_ ≤ 40 ∧ M_ ≤ 15) (hmd_ : (S0_.1 13 0 28) = (M_ : Int)) (hw_ : S0_.2.2.1 129 0 (40 * M_ + s_) = (wd_ : Int) ∧ 1 ≤ wd_ ∧ wd_ ≤ 8) (hR_ : (S0_.1 13 0 53) = (R_ : Int) ∧ R_ + wd_ ≤ 6) (hms_ : 1 ≤ (S0_.1 13 0 12) ∧ (S0_.1 13 0 12) ≤ 16) (hI1_ : S0_.2.2.1 132 0 ((S0_.1 13 0 12) - 1).toNat = (I_ : Int) ∧ I_ ≤ 12) (hrn_ : rnS S0_) (hnf_ : 1 + (I_ : Int) + R_ + wd_ ≤ (S0_.1 13 0 37)) : sm_T (mt_P sc_) 2 344 (0, [some (.inr (.inr (some (13, 0)))), some (.inl nm_), none, none, none], [], S0_) (fun ro9_ => ∃ u_ S1_, ro9_ = (.inl u_, S1_, 0) ∧ vq_344 nm_ b_ n_ T_ p_ uu_ f_ q_ A_ M_ s_ fr_ wd_ R_ I_ S0_ u_ S1_) := by
  have hF_ : ai_fr (sx_W vw_344) S0_ S0_ := ai_fr_rf
  have bx1_ : 0 ≤ S0_.1 13 0 28 ∧ S0_.1 13 0 28 ≤ 15 := hI_.1 13 0 28 rfl
  refine sm_T_go 3 (c1 := (6, [some (.inr (.inr (some (13, 0)))), some (.inl nm_), none, none, none], [.inl (S0_.1 13 0 28), .inl 40], S0_)) rfl ?_
  refine sm_T_bin (w := 40 * (S0_.1 13 0 28)) rfl (bi_mul (by omega) (by omega) (by omega)) ?_
  refine sm_T_go 1 (c1 := (8, [some (.inr (.inr (some (13, 0)))), some (.inl nm_), none, none, none], [.inl nm_, .inl (40 * (S0_.1 13 0 28))], S0_)) rfl ?_
  refine sm_T_bin (w := 40 * (S0_.1 13 0 28) + nm_) rfl (bi_add (by omega) (by omega) (by omega)) ?_
  have bx2_ : 0 ≤ S0_.1 13 0 29 ∧ S0_.1 13 0 29 ≤ 16 := hI_.1 13 0 29 rfl
  refine sm_T_go 6 (c1 := (20, [some (.inr (.inr (some (13, 0)))), some (.inl nm_), some (.inl (40 * (S0_.1 13 0 28) + nm_)), none, none], [.inl (S0_.1 13 0 29), .inl 40, .inr (.inr (some (150, 0)))], S0_)) rfl ?_
  refine sm_T_bin (w := 40 * (S0_.1 13 0 29)) rfl (bi_mul (by omega) (by omega) (by omega)) ?_
  refine sm_T_go 1 (c1 := (22, [some (.inr (.inr (some (13, 0)))), some (.inl nm_), some (.inl (40 * (S0_.1 13 0 28) + nm_)), none, none], [.inl nm_, .inl (40 * (S0_.1 13 0 29)), .inr (.inr (some (150, 0)))], S0_)) rfl ?_
  refine sm_T_bin (w := 40 * (S0_.1 13 0 29) + nm_) rfl (bi_add (by omega) (by omega) (by omega)) ?_
  have bx3_ : 0 ≤ S0_.1 13 0 53 ∧ S0_.1 13 0 53 ≤ 6 := hI_.1 13 0 53 rfl
  refine sm_T_go 2 (c1 := (27, [some (.inr (.inr (some (13, 0)))), some (.inl nm_), some (.inl (40 * (S0_.1 13 0 28) + nm_)), none, none], [.inl (S0_.1 13 0 53), .inl (40 * (S0_.1 13 0 29) + nm_), .inr (.inr (some (150, 0)))], S0_)) rfl ?_
  refine sm_T_iast (n := 640) rfl rfl (by omega) (by omega) ?_
  have hIx4_ : gi (sm_aI S0_ 150 0 (40 * (S0_.1 13 0 29) + nm_).toNat (S0_.1 13 0 53)) := gi_aI hI_ (show 0 ≤ (S0_.1 13 0 53) ∧ (S0_.1 13 0 53) ≤ 6 from ⟨by omega, by omega⟩)
  have hFx5_ : ai_fr (sx_W vw_344) S0_ (sm_aI S0_ 150 0 (40 * (S0_.1 13 0 29) + nm_).toNat (S0_.1 13 0 53)) := ai_fr_tr hF_ (ai_fr_aI rfl)
  refine sm_T_go 2 (c1 := (30, [some (.inr (.inr (some (13, 0)))), some (.inl nm_), some (.inl (40 * (S0_.1 13 0 28) + nm_)), some (.inl 0), none], [], sm_aI S0_ 150 0 (40 * (S0_.1 13 0 29) + nm_).toNat (S0_.1 13 0 53))) rfl ?_
  refine (vl_344 nm_ b_ n_ T_ p_ uu_ f_ q_ A_ M_ s_ fr_ wd_ R_ I_ S0_ ht_ hx_ hn_ hq_ hf_ hn1_ hmd_ hw_ hR_ hms_ hI1_ hrn_ hnf_ _) (40 * (S0_.1 13 0 28) + nm_) 0 (sm_aI S0_ 150 0 (40 * (S0_.1 13 0 29) + nm_).toNat (S0_.1 13 0 53)) hIx4_ hFx5_ ⟨?_, ?_, ?_, ?_, ?_, ?_, trivial⟩ (Nat.lt_succ_self _)
  · (try simp only [rd_eq, rd_ne, rf_eq, rf_nk, rf_nt, rd_fa, rd_af, rd_fl, rd_al, rd_lf, rd_la, rd_leq, rd_lne, rd_fr, rd_ar, ne_eq, Nat.reduceEqDiff, not_false_eq_true]); omega
  · exact hx_
  · (intro j_; (try simp only [rd_eq, rd_ne, rf_eq, rf_nk, rf_nt, rd_fa, rd_af, rd_fl, rd_al, rd_lf, rd_la, rd_leq, rd_lne, rd_fr, rd_ar, ne_eq, Nat.reduceEqDiff, not_false_eq_true]); rw [hR_.1, show (40 * S0_.1 13 0 29 + nm_).toNat = 40 * fr_ + s_ by omega])
  · (intro k9_ z9_ e9_; simp [r_bt] at e9_)
  · (intro j_ hj_; exact rd_ne (by decide))
  · exact rnS_fr (w_ := ([], [150], [])) hrn_ (ai_fr_aI rfl) rfl rfl rfl rfl
