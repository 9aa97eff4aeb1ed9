/-! Times.makeWave -/
def vw_205 : sx_Wl := ([(11, 13), (11, 14), (11, 15), (11, 16)], [99, 107, 108, 109], [(11, 12)])
def vq_205 (a2_ : Int) (a3_ : Int) (cc_ : Nat) (S0_ : sm_S) (u_ : Option sm_V) (S1_ : sm_S) : Prop := u_ = none ∧ gi S1_ ∧ ai_fr (sx_W vw_205) S0_ S1_ ∧ (True)
set_option maxHeartbeats 400000 in
theorem vl_205 {sc_ : Nat × (Nat → Int)} (a2_ : Int) (a3_ : Int) (cc_ : Nat) (S0_ : sm_S) (hs_ : S0_.1 2 cc_ 1 + S0_.1 2 cc_ 2 ≤ 12) (h2_ : 0 ≤ a2_ ∧ a2_ ≤ 4095) (h3_ : 0 ≤ a3_ ∧ a3_ ≤ 4095) : ∀ nn_ : Nat, (∀ (n_ : Int) (S_ : sm_S), gi S_ → ai_fr (sx_W vw_205) S0_ S_ → ((0 ≤ n_ ∧ n_ ≤ 162) ∧ True) → ((500 - n_).toNat) < nn_ → sm_T (mt_P sc_) 2 205 (85, [some (.inr (.inr (some (11, 0)))), some (.inr (.inr (some (2, cc_)))), some (.inl a2_), some (.inl a3_), some (.inl n_)], [], S_) (fun ro9_ => ∃ u_ S1_, ro9_ = (.inl u_, S1_, 0) ∧ vq_205 a2_ a3_ cc_ S0_ u_ S1_)) := by
  intro nn_
  induction nn_ with
  | zero => exact fun _ _ _ _ _ h_ => absurd h_ (Nat.not_lt_zero _)
  | succ nn_ ih_ =>
    rintro n_ S_ hI_ hF_ ⟨h0_, -⟩ hm_
    have z1_ : S_.1 2 cc_ 1 = S0_.1 2 cc_ 1 := hF_.1 2 cc_ 1 rfl
    have z2_ : S_.1 2 cc_ 2 = S0_.1 2 cc_ 2 := hF_.1 2 cc_ 2 rfl
    have cg9_ : 0 ≤ S_.1 2 cc_ 8 ∧ S_.1 2 cc_ 8 ≤ 150 := hI_.1 2 cc_ 8 rfl
    have ci_ : 0 ≤ S_.1 2 cc_ 1 ∧ S_.1 2 cc_ 1 ≤ 12 := hI_.1 2 cc_ 1 rfl
    have cr : 0 ≤ S_.1 2 cc_ 2 ∧ S_.1 2 cc_ 2 ≤ 6 := hI_.1 2 cc_ 2 rfl
    refine sm_T_go 2 (c1 := (88, [some (.inr (.inr (some (11, 0)))), some (.inr (.inr (some (2, cc_)))), some (.inl a2_), some (.inl a3_), some (.inl n_)], [.inr (.inr (some (2, cc_))), .inl n_], S_)) rfl ?_
    refine sm_T_cal (d1 := 0) (Q1 := vq_55 cc_ S_) rfl rfl (by decide) (vc_55 cc_ S_ hI_ ) (fun u_ Sx1_ px4_ => ?_)
    obtain ⟨rfl, vx6_, rfl, px4_⟩ := px4_
    have nt88_ := px4_.2
    refine sm_T_br (a := 3) (z := 87) rfl (fun cx7_ => ?_) (fun cx7_ => ?_)
    · have cx7_ : vx6_ ≤ n_ := of_decide_eq_true cx7_
      refine sm_T_rv rfl ⟨_, _, rfl, rfl, hI_, hF_, ?_⟩
      trivial
    · have cx7_ : ¬ (vx6_ ≤ n_) := of_decide_eq_false cx7_
      have bx8_ : 0 ≤ S_.1 11 0 16 ∧ S_.1 11 0 16 ≤ 1 := hI_.1 11 0 16 rfl
      refine sm_T_go 2 (c1 := (98, [some (.inr (.inr (some (11, 0)))), some (.inr (.inr (some (2, cc_)))), some (.inl a2_), some (.inl a3_), some (.inl n_)], [.inl (S_.1 11 0 16)], S_)) rfl ?_
      refine sm_T_b0 (a := 1) (z := 80) rfl (fun cx9_ => ?_) (fun cx9_ => ?_)
      · have cx9_ : (S_.1 11 0 16) ≠ 0 := of_decide_eq_true cx9_
        refine sm_T_rv rfl ⟨_, _, rfl, rfl, hI_, hF_, ?_⟩
        trivial
      · have cx9_ : ¬ ((S_.1 11 0 16) ≠ 0) := of_decide_eq_false cx9_
        refine sm_T_go 4 (c1 := (108, [some (.inr (.inr (some (11, 0)))), some (.inr (.inr (some (2, cc_)))), some (.inl a2_), some (.inl a3_), some (.inl n_)], [.inl 1, .inl n_, .inr (.inr (some (108, 0)))], S_)) rfl ?_
        refine sm_T_bin (w := n_ + 1) rfl (bi_add (by omega) (by omega) (by omega)) ?_ -- pc_ 108
        refine sm_T_go 3 (c1 := (115, [some (.inr (.inr (some (11, 0)))), some (.inr (.inr (some (2, cc_)))), some (.inl a2_), some (.inl a3_), some (.inl n_)], [.inl n_, .inr (.inr (some (108, 0))), .inl (n_ + 1), .inr (.inr (some (108, 0)))], S_)) rfl ?_
        refine sm_T_iald (n := 163) rfl rfl (by omega) (by omega) ?_
        have bx10_ : 0 ≤ S_.2.2.1 108 0 n_.toNat ∧ S_.2.2.1 108 0 n_.toNat ≤ 20000 := hI_.2 108 0 _
        refine sm_T_iast (n := 163) rfl rfl (by omega) (by omega) ?_
        have hIx11_ : gi (sm_aI S_ 108 0 (n_ + 1).toNat (S_.2.2.1 108 0 n_.toNat)) := gi_aI hI_ (show 0 ≤ (S_.2.2.1 108 0 n_.toNat) ∧ (S_.2.2.1 108 0 n_.toNat) ≤ 20000 from ⟨by omega, by omega⟩)
        have hFx12_ : ai_fr (sx_W vw_205) S0_ (sm_aI S_ 108 0 (n_ + 1).toNat (S_.2.2.1 108 0 n_.toNat)) := ai_fr_tr hF_ (ai_fr_aI rfl)
        refine sm_T_go 2 (c1 := (120, [some (.inr (.inr (some (11, 0)))), some (.inr (.inr (some (2, cc_)))), some (.inl a2_), some (.inl a3_), some (.inl n_)], [.inr (.inr (some (2, cc_))), .inl n_], sm_aI S_ 108 0 (n_ + 1).toNat (S_.2.2.1 108 0 n_.toNat))) rfl ?_
        refine sm_T_cal (d1 := 0) (Q1 := vq_54 cc_ (sm_aI S_ 108 0 (n_ + 1).toNat (S_.2.2.1 108 0 n_.toNat))) rfl rfl (by decide) (vc_54 cc_ (sm_aI S_ 108 0 (n_ + 1).toNat (S_.2.2.1 108 0 n_.toNat)) hIx11_ ) (fun u_ Sx13_ px16_ => ?_)
        obtain ⟨rfl, vx18_, rfl, px16_⟩ := px16_
        have fg120_ := px16_.2
        simp only [rd_af] at fg120_
        refine sm_T_br (a := 3) (z := 42) rfl (fun cx19_ => ?_) (fun cx19_ => ?_)
        · have cx19_ : vx18_ ≤ n_ := of_decide_eq_true cx19_
          refine sm_T_go 3 (c1 := (169, [some (.inr (.inr (some (11, 0)))), some (.inr (.inr (some (2, cc_)))), some (.inl a2_), some (.inl a3_), some (.inl n_)], [.inl n_, .inr (.inr (some (2, cc_))), .inr (.inr (some (11, 0)))], sm_aI S_ 108 0 (n_ + 1).toNat (S_.2.2.1 108 0 n_.toNat))) rfl ?_
          refine sm_T_cal (d1 := 1) (Q1 := vq_207 n_ cc_ (sm_aI S_ 108 0 (n_ + 1).toNat (S_.2.2.1 108 0 n_.toNat))) rfl rfl (by decide) (vc_207 n_ cc_ (sm_aI S_ 108 0 (n_ + 1).toNat (S_.2.2.1 108 0 n_.toNat)) hIx11_ (by (simp only [rd_af]; omega)) (by (simp only [rd_af]; omega))) (fun u_ Sx20_ px23_ => ?_)
          obtain ⟨rfl, hIx21_, hFx22_, px23_⟩ := px23_
          have hFx24_ : ai_fr (sx_W vw_205) S0_ Sx20_ := ai_fr_tr hFx12_ (fr_le hFx22_ rfl)
          refine sm_T_inc (a := 4) (z := 1) (v := n_) (w := n_ + 1) rfl rfl (by omega) (by omega) (by omega) ?_ -- pc_ 172
          refine sm_T_go 1 (c1 := (85, [some (.inr (.inr (some (11, 0)))), some (.inr (.inr (some (2, cc_)))), some (.inl a2_), some (.inl a3_), some (.inl (n_ + 1))], [], Sx20_)) rfl ?_
          refine ih_ (n_ + 1) Sx20_ hIx21_ hFx24_ ⟨?_, trivial⟩ ?_
          · omega
          · omega
        · have cx19_ : ¬ (vx18_ ≤ n_) := of_decide_eq_false cx19_
          refine sm_T_go 5 (c1 := (135, [some (.inr (.inr (some (11, 0)))), some (.inr (.inr (some (2, cc_)))), some (.inl a2_), some (.inl a3_), some (.inl n_)], [.inl n_, .inl a2_, .inl n_, .inr (.inr (some (107, 0)))], sm_aI S_ 108 0 (n_ + 1).toNat (S_.2.2.1 108 0 n_.toNat))) rfl ?_
          refine sm_T_bin (w := (i_shr a2_ n_)) rfl rfl ?_ -- pc_ 135
          first | have bx25_ := i_shr_p (x_ := a2_) (e_ := n_) (by omega) (by omega) (by omega) | have bx25_ := i_shr_n a2_ n_
          refine sm_T_go 1 (c1 := (137, [some (.inr (.inr (some (11, 0)))), some (.inr (.inr (some (2, cc_)))), some (.inl a2_), some (.inl a3_), some (.inl n_)], [.inl 1, .inl (i_shr a2_ n_), .inl n_, .inr (.inr (some (107, 0)))], sm_aI S_ 108 0 (n_ + 1).toNat (S_.2.2.1 108 0 n_.toNat))) rfl ?_
          refine sm_T_bin (w := ((i_shr a2_ n_) % 2)) rfl (bi_msk (k := 1) (by decide)) ?_ -- pc_ 137
          refine sm_T_iast (n := 162) rfl rfl (by omega) (by omega) ?_
          have hIx26_ : gi (sm_aI (sm_aI S_ 108 0 (n_ + 1).toNat (S_.2.2.1 108 0 n_.toNat)) 107 0 n_.toNat ((i_shr a2_ n_) % 2)) := gi_aI hIx11_ (show 0 ≤ ((i_shr a2_ n_) % 2) ∧ ((i_shr a2_ n_) % 2) ≤ 1 from ⟨by omega, by omega⟩)
          have hFx27_ : ai_fr (sx_W vw_205) S0_ (sm_aI (sm_aI S_ 108 0 (n_ + 1).toNat (S_.2.2.1 108 0 n_.toNat)) 107 0 n_.toNat ((i_shr a2_ n_) % 2)) := ai_fr_tr hFx12_ (ai_fr_aI rfl)
          refine sm_T_go 3 (c1 := (145, [some (.inr (.inr (some (11, 0)))), some (.inr (.inr (some (2, cc_)))), some (.inl a2_), some (.inl a3_), some (.inl n_)], [.inl n_, .inr (.inr (some (107, 0)))], sm_aI (sm_aI S_ 108 0 (n_ + 1).toNat (S_.2.2.1 108 0 n_.toNat)) 107 0 n_.toNat ((i_shr a2_ n_) % 2))) rfl ?_
          refine sm_T_iald (n := 162) rfl rfl (by omega) (by omega) ?_
          have bx28_ : 0 ≤ (sm_aI (sm_aI S_ 108 0 (n_ + 1).toNat (S_.2.2.1 108 0 n_.toNat)) 107 0 n_.toNat ((i_shr a2_ n_) % 2)).2.2.1 107 0 n_.toNat ∧ (sm_aI (sm_aI S_ 108 0 (n_ + 1).toNat (S_.2.2.1 108 0 n_.toNat)) 107 0 n_.toNat ((i_shr a2_ n_) % 2)).2.2.1 107 0 n_.toNat ≤ 1 := hIx26_.2 107 0 _
          refine sm_T_go 2 (c1 := (149, [some (.inr (.inr (some (11, 0)))), some (.inr (.inr (some (2, cc_)))), some (.inl a2_), some (.inl a3_), some (.inl n_)], [.inl n_, .inl a3_, .inl ((sm_aI (sm_aI S_ 108 0 (n_ + 1).toNat (S_.2.2.1 108 0 n_.toNat)) 107 0 n_.toNat ((i_shr a2_ n_) % 2)).2.2.1 107 0 n_.toNat)], sm_aI (sm_aI S_ 108 0 (n_ + 1).toNat (S_.2.2.1 108 0 n_.toNat)) 107 0 n_.toNat ((i_shr a2_ n_) % 2))) rfl ?_
          refine sm_T_bin (w := (i_shr a3_ n_)) rfl rfl ?_ -- pc_ 149
          first | have bx29_ := i_shr_p (x_ := a3_) (e_ := n_) (by omega) (by omega) (by omega) | have bx29_ := i_shr_n a3_ n_
          refine sm_T_go 1 (c1 := (151, [some (.inr (.inr (some (11, 0)))), some (.inr (.inr (some (2, cc_)))), some (.inl a2_), some (.inl a3_), some (.inl n_)], [.inl 1, .inl (i_shr a3_ n_), .inl ((sm_aI (sm_aI S_ 108 0 (n_ + 1).toNat (S_.2.2.1 108 0 n_.toNat)) 107 0 n_.toNat ((i_shr a2_ n_) % 2)).2.2.1 107 0 n_.toNat)], sm_aI (sm_aI S_ 108 0 (n_ + 1).toNat (S_.2.2.1 108 0 n_.toNat)) 107 0 n_.toNat ((i_shr a2_ n_) % 2))) rfl ?_
          refine sm_T_bin (w := ((i_shr a3_ n_) % 2)) rfl (bi_msk (k := 1) (by decide)) ?_ -- pc_ 151
          refine sm_T_br (a := 0) (z := 20) rfl (fun cx30_ => ?_) (fun cx30_ => ?_)
          · have cx30_ : ((sm_aI (sm_aI S_ 108 0 (n_ + 1).toNat (S_.2.2.1 108 0 n_.toNat)) 107 0 n_.toNat ((i_shr a2_ n_) % 2)).2.2.1 107 0 n_.toNat) = ((i_shr a3_ n_) % 2) := of_decide_eq_true cx30_
            refine sm_T_inc (a := 4) (z := 1) (v := n_) (w := n_ + 1) rfl rfl (by omega) (by omega) (by omega) ?_ -- pc_ 172
            refine sm_T_go 1 (c1 := (85, [some (.inr (.inr (some (11, 0)))), some (.inr (.inr (some (2, cc_)))), some (.inl a2_), some (.inl a3_), some (.inl (n_ + 1))], [], sm_aI (sm_aI S_ 108 0 (n_ + 1).toNat (S_.2.2.1 108 0 n_.toNat)) 107 0 n_.toNat ((i_shr a2_ n_) % 2))) rfl ?_
            refine ih_ (n_ + 1) (sm_aI (sm_aI S_ 108 0 (n_ + 1).toNat (S_.2.2.1 108 0 n_.toNat)) 107 0 n_.toNat ((i_shr a2_ n_) % 2)) hIx26_ hFx27_ ⟨?_, trivial⟩ ?_
            · omega
            · omega
          · have cx30_ : ¬ (((sm_aI (sm_aI S_ 108 0 (n_ + 1).toNat (S_.2.2.1 108 0 n_.toNat)) 107 0 n_.toNat ((i_shr a2_ n_) % 2)).2.2.1 107 0 n_.toNat) = ((i_shr a3_ n_) % 2)) := of_decide_eq_false cx30_
            refine sm_T_go 3 (c1 := (159, [some (.inr (.inr (some (11, 0)))), some (.inr (.inr (some (2, cc_)))), some (.inl a2_), some (.inl a3_), some (.inl n_)], [.inl 0, .inl n_, .inr (.inr (some (11, 0)))], sm_aI (sm_aI S_ 108 0 (n_ + 1).toNat (S_.2.2.1 108 0 n_.toNat)) 107 0 n_.toNat ((i_shr a2_ n_) % 2))) rfl ?_
            refine sm_T_cal (d1 := 0) (Q1 := vq_206 n_ 0 (sm_aI (sm_aI S_ 108 0 (n_ + 1).toNat (S_.2.2.1 108 0 n_.toNat)) 107 0 n_.toNat ((i_shr a2_ n_) % 2))) rfl rfl (by decide) (vc_206 n_ 0 (sm_aI (sm_aI S_ 108 0 (n_ + 1).toNat (S_.2.2.1 108 0 n_.toNat)) 107 0 n_.toNat ((i_shr a2_ n_) % 2)) hIx26_ (by omega) (by omega)) (fun u_ Sx31_ px34_ => ?_)
            obtain ⟨rfl, hIx32_, hFx33_, px34_⟩ := px34_
            have hFx35_ : ai_fr (sx_W vw_205) S0_ Sx31_ := ai_fr_tr hFx27_ (fr_le hFx33_ rfl)
            refine sm_T_go 1 (c1 := (172, [some (.inr (.inr (some (11, 0)))), some (.inr (.inr (some (2, cc_)))), some (.inl a2_), some (.inl a3_), some (.inl n_)], [], Sx31_)) rfl ?_
            refine sm_T_inc (a := 4) (z := 1) (v := n_) (w := n_ + 1) rfl rfl (by omega) (by omega) (by omega) ?_ -- pc_ 172
            refine sm_T_go 1 (c1 := (85, [some (.inr (.inr (some (11, 0)))), some (.inr (.inr (some (2, cc_)))), some (.inl a2_), some (.inl a3_), some (.inl (n_ + 1))], [], Sx31_)) rfl ?_
            refine ih_ (n_ + 1) Sx31_ hIx32_ hFx35_ ⟨?_, trivial⟩ ?_
            · omega
            · omega
set_option maxHeartbeats 400000 in
theorem vc_205 {sc_ : Nat × (Nat → Int)} (a2_ : Int) (a3_ : Int) (cc_ : Nat) (S0_ : sm_S) (hI_ : gi S0_) (hs_ : S0_.1 2 cc_ 1 + S0_.1 2 cc_ 2 ≤ 12) (h2_ : 0 ≤ a2_ ∧ a2_ ≤ 4095) (h3_ : 0 ≤ a3_ ∧ a3_ ≤ 4095) : sm_T (mt_P sc_) 2 205 (0, [some (.inr (.inr (some (11, 0)))), some (.inr (.inr (some (2, cc_)))), some (.inl a2_), some (.inl a3_), none], [], S0_) (fun ro9_ => ∃ u_ S1_, ro9_ = (.inl u_, S1_, 0) ∧ vq_205 a2_ a3_ cc_ S0_ u_ S1_) := by
  have hF_ : ai_fr (sx_W vw_205) S0_ S0_ := ai_fr_rf
  refine sm_T_go 1 (c1 := (1, [some (.inr (.inr (some (11, 0)))), some (.inr (.inr (some (2, cc_)))), some (.inl a2_), some (.inl a3_), none], [.inr (.inr (some (11, 0)))], S0_)) rfl ?_
  cases qx1_ : S0_.2.1 11 0 12 with
  | none =>
    refine sm_T_gr rfl rfl qx1_ ?_
    refine sm_T_go 1 (c1 := (5, [some (.inr (.inr (some (11, 0)))), some (.inr (.inr (some (2, cc_)))), some (.inl a2_), some (.inl a3_), none], [.inr (.inr (some (2, cc_))), .inr (.inr none)], S0_)) rfl ?_
    refine sm_T_acn (x_ := none) (y_ := some (2, cc_)) rfl rfl (fun cx3_ => ?_) (fun cx3_ => ?_)
    · cases cx3_
    · skip
      have hIx4_ : gi (sm_pR S0_ 11 0 12 (some cc_)) := gi_pR hI_
      have hFx5_ : ai_fr (sx_W vw_205) S0_ (sm_pR S0_ 11 0 12 (some cc_)) := ai_fr_tr hF_ (ai_fr_pR rfl)
      have bx6_ : (-2147483648) ≤ S0_.1 0 (0 + cc_) 16 ∧ S0_.1 0 (0 + cc_) 16 ≤ 2147483647 := hI_.1 0 (0 + cc_) 16 rfl
      have hIx7_ : gi (sm_pI (sm_pR S0_ 11 0 12 (some cc_)) 11 0 13 (S0_.1 0 (0 + cc_) 16)) := gi_pI hIx4_ (show (-2147483648) ≤ (S0_.1 0 (0 + cc_) 16) ∧ (S0_.1 0 (0 + cc_) 16) ≤ 2147483647 from ⟨by omega, by omega⟩)
      have hFx8_ : ai_fr (sx_W vw_205) S0_ (sm_pI (sm_pR S0_ 11 0 12 (some cc_)) 11 0 13 (S0_.1 0 (0 + cc_) 16)) := ai_fr_tr hFx5_ (ai_fr_pI rfl)
      have hIx9_ : gi (sm_pI (sm_pI (sm_pR S0_ 11 0 12 (some cc_)) 11 0 13 (S0_.1 0 (0 + cc_) 16)) 11 0 14 a2_) := gi_pI hIx7_ (show 0 ≤ a2_ ∧ a2_ ≤ 4095 from ⟨by omega, by omega⟩)
      have hFx10_ : ai_fr (sx_W vw_205) S0_ (sm_pI (sm_pI (sm_pR S0_ 11 0 12 (some cc_)) 11 0 13 (S0_.1 0 (0 + cc_) 16)) 11 0 14 a2_) := ai_fr_tr hFx8_ (ai_fr_pI rfl)
      have hIx11_ : gi (sm_pI (sm_pI (sm_pI (sm_pR S0_ 11 0 12 (some cc_)) 11 0 13 (S0_.1 0 (0 + cc_) 16)) 11 0 14 a2_) 11 0 15 a3_) := gi_pI hIx9_ (show 0 ≤ a3_ ∧ a3_ ≤ 4095 from ⟨by omega, by omega⟩)
      have hFx12_ : ai_fr (sx_W vw_205) S0_ (sm_pI (sm_pI (sm_pI (sm_pR S0_ 11 0 12 (some cc_)) 11 0 13 (S0_.1 0 (0 + cc_) 16)) 11 0 14 a2_) 11 0 15 a3_) := ai_fr_tr hFx10_ (ai_fr_pI rfl)
      have hIx13_ : gi (sm_pI (sm_pI (sm_pI (sm_pI (sm_pR S0_ 11 0 12 (some cc_)) 11 0 13 (S0_.1 0 (0 + cc_) 16)) 11 0 14 a2_) 11 0 15 a3_) 11 0 16 0) := gi_pI hIx11_ (show 0 ≤ 0 ∧ 0 ≤ 1 from ⟨by omega, by omega⟩)
      have hFx14_ : ai_fr (sx_W vw_205) S0_ (sm_pI (sm_pI (sm_pI (sm_pI (sm_pR S0_ 11 0 12 (some cc_)) 11 0 13 (S0_.1 0 (0 + cc_) 16)) 11 0 14 a2_) 11 0 15 a3_) 11 0 16 0) := ai_fr_tr hFx12_ (ai_fr_pI rfl)
      refine sm_T_go 19 (c1 := (72, [some (.inr (.inr (some (11, 0)))), some (.inr (.inr (some (2, cc_)))), some (.inl a2_), some (.inl a3_), none], [.inr (.inr (some (2, cc_))), .inr (.inr (some (11, 0)))], sm_pI (sm_pI (sm_pI (sm_pI (sm_pR S0_ 11 0 12 (some cc_)) 11 0 13 (S0_.1 0 (0 + cc_) 16)) 11 0 14 a2_) 11 0 15 a3_) 11 0 16 0)) rfl ?_
      refine sm_T_cal (d1 := 1) (Q1 := vq_196 cc_ (sm_pI (sm_pI (sm_pI (sm_pI (sm_pR S0_ 11 0 12 (some cc_)) 11 0 13 (S0_.1 0 (0 + cc_) 16)) 11 0 14 a2_) 11 0 15 a3_) 11 0 16 0)) rfl rfl (by decide) (vc_196 cc_ (sm_pI (sm_pI (sm_pI (sm_pI (sm_pR S0_ 11 0 12 (some cc_)) 11 0 13 (S0_.1 0 (0 + cc_) 16)) 11 0 14 a2_) 11 0 15 a3_) 11 0 16 0) hIx13_ (by exact hs_)) (fun u_ Sx15_ px18_ => ?_)
      obtain ⟨rfl, hIx16_, hFx17_, px18_⟩ := px18_
      have hFx19_ : ai_fr (sx_W vw_205) S0_ Sx15_ := ai_fr_tr hFx14_ (fr_le hFx17_ rfl)
      refine sm_T_go 4 (c1 := (81, [some (.inr (.inr (some (11, 0)))), some (.inr (.inr (some (2, cc_)))), some (.inl a2_), some (.inl a3_), none], [.inl 0, .inl 0, .inr (.inr (some (108, 0)))], Sx15_)) rfl ?_
      refine sm_T_iast (n := 163) rfl rfl (by omega) (by omega) ?_
      have hIx20_ : gi (sm_aI Sx15_ 108 0 (0 : Int).toNat 0) := gi_aI hIx16_ (show 0 ≤ 0 ∧ 0 ≤ 20000 from ⟨by omega, by omega⟩)
      have hFx21_ : ai_fr (sx_W vw_205) S0_ (sm_aI Sx15_ 108 0 (0 : Int).toNat 0) := ai_fr_tr hFx19_ (ai_fr_aI rfl)
      refine sm_T_go 2 (c1 := (85, [some (.inr (.inr (some (11, 0)))), some (.inr (.inr (some (2, cc_)))), some (.inl a2_), some (.inl a3_), some (.inl 0)], [], sm_aI Sx15_ 108 0 (0 : Int).toNat 0)) rfl ?_
      refine (vl_205 a2_ a3_ cc_ S0_ hs_ h2_ h3_ _) 0 (sm_aI Sx15_ 108 0 (0 : Int).toNat 0) hIx20_ hFx21_ ⟨?_, trivial⟩ (Nat.lt_succ_self _)
      · omega
  | some jx2_ =>
    refine sm_T_gr rfl rfl qx1_ ?_
    refine sm_T_go 1 (c1 := (5, [some (.inr (.inr (some (11, 0)))), some (.inr (.inr (some (2, cc_)))), some (.inl a2_), some (.inl a3_), none], [.inr (.inr (some (2, cc_))), .inr (.inr (some (2, jx2_)))], S0_)) rfl ?_
    refine sm_T_acn (x_ := some (2, jx2_)) (y_ := some (2, cc_)) rfl rfl (fun cx22_ => ?_) (fun cx22_ => ?_)
    · have cx22_ : jx2_ = cc_ := congrArg Prod.snd (Option.some.inj cx22_)
      have bx23_ : (-2147483648) ≤ S0_.1 11 0 13 ∧ S0_.1 11 0 13 ≤ 2147483647 := hI_.1 11 0 13 rfl
      have bx24_ : (-2147483648) ≤ S0_.1 0 (0 + cc_) 16 ∧ S0_.1 0 (0 + cc_) 16 ≤ 2147483647 := hI_.1 0 (0 + cc_) 16 rfl
      refine sm_T_go 5 (c1 := (19, [some (.inr (.inr (some (11, 0)))), some (.inr (.inr (some (2, cc_)))), some (.inl a2_), some (.inl a3_), none], [.inl (S0_.1 0 (0 + cc_) 16), .inl (S0_.1 11 0 13)], S0_)) rfl ?_
      refine sm_T_br (a := 1) (z := 20) rfl (fun cx25_ => ?_) (fun cx25_ => ?_)
      · have cx25_ : (S0_.1 11 0 13) ≠ (S0_.1 0 (0 + cc_) 16) := of_decide_eq_true cx25_
        have hIx26_ : gi (sm_pR S0_ 11 0 12 (some cc_)) := gi_pR hI_
        have hFx27_ : ai_fr (sx_W vw_205) S0_ (sm_pR S0_ 11 0 12 (some cc_)) := ai_fr_tr hF_ (ai_fr_pR rfl)
        have hIx28_ : gi (sm_pI (sm_pR S0_ 11 0 12 (some cc_)) 11 0 13 (S0_.1 0 (0 + cc_) 16)) := gi_pI hIx26_ (show (-2147483648) ≤ (S0_.1 0 (0 + cc_) 16) ∧ (S0_.1 0 (0 + cc_) 16) ≤ 2147483647 from ⟨by omega, by omega⟩)
        have hFx29_ : ai_fr (sx_W vw_205) S0_ (sm_pI (sm_pR S0_ 11 0 12 (some cc_)) 11 0 13 (S0_.1 0 (0 + cc_) 16)) := ai_fr_tr hFx27_ (ai_fr_pI rfl)
        have hIx30_ : gi (sm_pI (sm_pI (sm_pR S0_ 11 0 12 (some cc_)) 11 0 13 (S0_.1 0 (0 + cc_) 16)) 11 0 14 a2_) := gi_pI hIx28_ (show 0 ≤ a2_ ∧ a2_ ≤ 4095 from ⟨by omega, by omega⟩)
        have hFx31_ : ai_fr (sx_W vw_205) S0_ (sm_pI (sm_pI (sm_pR S0_ 11 0 12 (some cc_)) 11 0 13 (S0_.1 0 (0 + cc_) 16)) 11 0 14 a2_) := ai_fr_tr hFx29_ (ai_fr_pI rfl)
        have hIx32_ : gi (sm_pI (sm_pI (sm_pI (sm_pR S0_ 11 0 12 (some cc_)) 11 0 13 (S0_.1 0 (0 + cc_) 16)) 11 0 14 a2_) 11 0 15 a3_) := gi_pI hIx30_ (show 0 ≤ a3_ ∧ a3_ ≤ 4095 from ⟨by omega, by omega⟩)
        have hFx33_ : ai_fr (sx_W vw_205) S0_ (sm_pI (sm_pI (sm_pI (sm_pR S0_ 11 0 12 (some cc_)) 11 0 13 (S0_.1 0 (0 + cc_) 16)) 11 0 14 a2_) 11 0 15 a3_) := ai_fr_tr hFx31_ (ai_fr_pI rfl)
        have hIx34_ : gi (sm_pI (sm_pI (sm_pI (sm_pI (sm_pR S0_ 11 0 12 (some cc_)) 11 0 13 (S0_.1 0 (0 + cc_) 16)) 11 0 14 a2_) 11 0 15 a3_) 11 0 16 0) := gi_pI hIx32_ (show 0 ≤ 0 ∧ 0 ≤ 1 from ⟨by omega, by omega⟩)
        have hFx35_ : ai_fr (sx_W vw_205) S0_ (sm_pI (sm_pI (sm_pI (sm_pI (sm_pR S0_ 11 0 12 (some cc_)) 11 0 13 (S0_.1 0 (0 + cc_) 16)) 11 0 14 a2_) 11 0 15 a3_) 11 0 16 0) := ai_fr_tr hFx33_ (ai_fr_pI rfl)
        refine sm_T_go 19 (c1 := (72, [some (.inr (.inr (some (11, 0)))), some (.inr (.inr (some (2, cc_)))), some (.inl a2_), some (.inl a3_), none], [.inr (.inr (some (2, cc_))), .inr (.inr (some (11, 0)))], sm_pI (sm_pI (sm_pI (sm_pI (sm_pR S0_ 11 0 12 (some cc_)) 11 0 13 (S0_.1 0 (0 + cc_) 16)) 11 0 14 a2_) 11 0 15 a3_) 11 0 16 0)) rfl ?_
        refine sm_T_cal (d1 := 1) (Q1 := vq_196 cc_ (sm_pI (sm_pI (sm_pI (sm_pI (sm_pR S0_ 11 0 12 (some cc_)) 11 0 13 (S0_.1 0 (0 + cc_) 16)) 11 0 14 a2_) 11 0 15 a3_) 11 0 16 0)) rfl rfl (by decide) (vc_196 cc_ (sm_pI (sm_pI (sm_pI (sm_pI (sm_pR S0_ 11 0 12 (some cc_)) 11 0 13 (S0_.1 0 (0 + cc_) 16)) 11 0 14 a2_) 11 0 15 a3_) 11 0 16 0) hIx34_ (by exact hs_)) (fun u_ Sx36_ px39_ => ?_)
        obtain ⟨rfl, hIx37_, hFx38_, px39_⟩ := px39_
        have hFx40_ : ai_fr (sx_W vw_205) S0_ Sx36_ := ai_fr_tr hFx35_ (fr_le hFx38_ rfl)
        refine sm_T_go 4 (c1 := (81, [some (.inr (.inr (some (11, 0)))), some (.inr (.inr (some (2, cc_)))), some (.inl a2_), some (.inl a3_), none], [.inl 0, .inl 0, .inr (.inr (some (108, 0)))], Sx36_)) rfl ?_
        refine sm_T_iast (n := 163) rfl rfl (by omega) (by omega) ?_
        have hIx41_ : gi (sm_aI Sx36_ 108 0 (0 : Int).toNat 0) := gi_aI hIx37_ (show 0 ≤ 0 ∧ 0 ≤ 20000 from ⟨by omega, by omega⟩)
        have hFx42_ : ai_fr (sx_W vw_205) S0_ (sm_aI Sx36_ 108 0 (0 : Int).toNat 0) := ai_fr_tr hFx40_ (ai_fr_aI rfl)
        refine sm_T_go 2 (c1 := (85, [some (.inr (.inr (some (11, 0)))), some (.inr (.inr (some (2, cc_)))), some (.inl a2_), some (.inl a3_), some (.inl 0)], [], sm_aI Sx36_ 108 0 (0 : Int).toNat 0)) rfl ?_
        refine (vl_205 a2_ a3_ cc_ S0_ hs_ h2_ h3_ _) 0 (sm_aI Sx36_ 108 0 (0 : Int).toNat 0) hIx41_ hFx42_ ⟨?_, trivial⟩ (Nat.lt_succ_self _)
        · omega
      · have cx25_ : ¬ ((S0_.1 11 0 13) ≠ (S0_.1 0 (0 + cc_) 16)) := of_decide_eq_false cx25_
        have bx43_ : 0 ≤ S0_.1 11 0 14 ∧ S0_.1 11 0 14 ≤ 4095 := hI_.1 11 0 14 rfl
        refine sm_T_go 3 (c1 := (27, [some (.inr (.inr (some (11, 0)))), some (.inr (.inr (some (2, cc_)))), some (.inl a2_), some (.inl a3_), none], [.inl a2_, .inl (S0_.1 11 0 14)], S0_)) rfl ?_
        refine sm_T_br (a := 1) (z := 12) rfl (fun cx44_ => ?_) (fun cx44_ => ?_)
        · have cx44_ : (S0_.1 11 0 14) ≠ a2_ := of_decide_eq_true cx44_
          have hIx45_ : gi (sm_pR S0_ 11 0 12 (some cc_)) := gi_pR hI_
          have hFx46_ : ai_fr (sx_W vw_205) S0_ (sm_pR S0_ 11 0 12 (some cc_)) := ai_fr_tr hF_ (ai_fr_pR rfl)
          have hIx47_ : gi (sm_pI (sm_pR S0_ 11 0 12 (some cc_)) 11 0 13 (S0_.1 0 (0 + cc_) 16)) := gi_pI hIx45_ (show (-2147483648) ≤ (S0_.1 0 (0 + cc_) 16) ∧ (S0_.1 0 (0 + cc_) 16) ≤ 2147483647 from ⟨by omega, by omega⟩)
          have hFx48_ : ai_fr (sx_W vw_205) S0_ (sm_pI (sm_pR S0_ 11 0 12 (some cc_)) 11 0 13 (S0_.1 0 (0 + cc_) 16)) := ai_fr_tr hFx46_ (ai_fr_pI rfl)
          have hIx49_ : gi (sm_pI (sm_pI (sm_pR S0_ 11 0 12 (some cc_)) 11 0 13 (S0_.1 0 (0 + cc_) 16)) 11 0 14 a2_) := gi_pI hIx47_ (show 0 ≤ a2_ ∧ a2_ ≤ 4095 from ⟨by omega, by omega⟩)
          have hFx50_ : ai_fr (sx_W vw_205) S0_ (sm_pI (sm_pI (sm_pR S0_ 11 0 12 (some cc_)) 11 0 13 (S0_.1 0 (0 + cc_) 16)) 11 0 14 a2_) := ai_fr_tr hFx48_ (ai_fr_pI rfl)
          have hIx51_ : gi (sm_pI (sm_pI (sm_pI (sm_pR S0_ 11 0 12 (some cc_)) 11 0 13 (S0_.1 0 (0 + cc_) 16)) 11 0 14 a2_) 11 0 15 a3_) := gi_pI hIx49_ (show 0 ≤ a3_ ∧ a3_ ≤ 4095 from ⟨by omega, by omega⟩)
          have hFx52_ : ai_fr (sx_W vw_205) S0_ (sm_pI (sm_pI (sm_pI (sm_pR S0_ 11 0 12 (some cc_)) 11 0 13 (S0_.1 0 (0 + cc_) 16)) 11 0 14 a2_) 11 0 15 a3_) := ai_fr_tr hFx50_ (ai_fr_pI rfl)
          have hIx53_ : gi (sm_pI (sm_pI (sm_pI (sm_pI (sm_pR S0_ 11 0 12 (some cc_)) 11 0 13 (S0_.1 0 (0 + cc_) 16)) 11 0 14 a2_) 11 0 15 a3_) 11 0 16 0) := gi_pI hIx51_ (show 0 ≤ 0 ∧ 0 ≤ 1 from ⟨by omega, by omega⟩)
          have hFx54_ : ai_fr (sx_W vw_205) S0_ (sm_pI (sm_pI (sm_pI (sm_pI (sm_pR S0_ 11 0 12 (some cc_)) 11 0 13 (S0_.1 0 (0 + cc_) 16)) 11 0 14 a2_) 11 0 15 a3_) 11 0 16 0) := ai_fr_tr hFx52_ (ai_fr_pI rfl)
          refine sm_T_go 19 (c1 := (72, [some (.inr (.inr (some (11, 0)))), some (.inr (.inr (some (2, cc_)))), some (.inl a2_), some (.inl a3_), none], [.inr (.inr (some (2, cc_))), .inr (.inr (some (11, 0)))], sm_pI (sm_pI (sm_pI (sm_pI (sm_pR S0_ 11 0 12 (some cc_)) 11 0 13 (S0_.1 0 (0 + cc_) 16)) 11 0 14 a2_) 11 0 15 a3_) 11 0 16 0)) rfl ?_
          refine sm_T_cal (d1 := 1) (Q1 := vq_196 cc_ (sm_pI (sm_pI (sm_pI (sm_pI (sm_pR S0_ 11 0 12 (some cc_)) 11 0 13 (S0_.1 0 (0 + cc_) 16)) 11 0 14 a2_) 11 0 15 a3_) 11 0 16 0)) rfl rfl (by decide) (vc_196 cc_ (sm_pI (sm_pI (sm_pI (sm_pI (sm_pR S0_ 11 0 12 (some cc_)) 11 0 13 (S0_.1 0 (0 + cc_) 16)) 11 0 14 a2_) 11 0 15 a3_) 11 0 16 0) hIx53_ (by exact hs_)) (fun u_ Sx55_ px58_ => ?_)
          obtain ⟨rfl, hIx56_, hFx57_, px58_⟩ := px58_
          have hFx59_ : ai_fr (sx_W vw_205) S0_ Sx55_ := ai_fr_tr hFx54_ (fr_le hFx57_ rfl)
          refine sm_T_go 4 (c1 := (81, [some (.inr (.inr (some (11, 0)))), some (.inr (.inr (some (2, cc_)))), some (.inl a2_), some (.inl a3_), none], [.inl 0, .inl 0, .inr (.inr (some (108, 0)))], Sx55_)) rfl ?_
          refine sm_T_iast (n := 163) rfl rfl (by omega) (by omega) ?_
          have hIx60_ : gi (sm_aI Sx55_ 108 0 (0 : Int).toNat 0) := gi_aI hIx56_ (show 0 ≤ 0 ∧ 0 ≤ 20000 from ⟨by omega, by omega⟩)
          have hFx61_ : ai_fr (sx_W vw_205) S0_ (sm_aI Sx55_ 108 0 (0 : Int).toNat 0) := ai_fr_tr hFx59_ (ai_fr_aI rfl)
          refine sm_T_go 2 (c1 := (85, [some (.inr (.inr (some (11, 0)))), some (.inr (.inr (some (2, cc_)))), some (.inl a2_), some (.inl a3_), some (.inl 0)], [], sm_aI Sx55_ 108 0 (0 : Int).toNat 0)) rfl ?_
          refine (vl_205 a2_ a3_ cc_ S0_ hs_ h2_ h3_ _) 0 (sm_aI Sx55_ 108 0 (0 : Int).toNat 0) hIx60_ hFx61_ ⟨?_, trivial⟩ (Nat.lt_succ_self _)
          · omega
        · have cx44_ : ¬ ((S0_.1 11 0 14) ≠ a2_) := of_decide_eq_false cx44_
          have bx62_ : 0 ≤ S0_.1 11 0 15 ∧ S0_.1 11 0 15 ≤ 4095 := hI_.1 11 0 15 rfl
          refine sm_T_go 3 (c1 := (35, [some (.inr (.inr (some (11, 0)))), some (.inr (.inr (some (2, cc_)))), some (.inl a2_), some (.inl a3_), none], [.inl a3_, .inl (S0_.1 11 0 15)], S0_)) rfl ?_
          refine sm_T_br (a := 1) (z := 4) rfl (fun cx63_ => ?_) (fun cx63_ => ?_)
          · have cx63_ : (S0_.1 11 0 15) ≠ a3_ := of_decide_eq_true cx63_
            have hIx64_ : gi (sm_pR S0_ 11 0 12 (some cc_)) := gi_pR hI_
            have hFx65_ : ai_fr (sx_W vw_205) S0_ (sm_pR S0_ 11 0 12 (some cc_)) := ai_fr_tr hF_ (ai_fr_pR rfl)
            have hIx66_ : gi (sm_pI (sm_pR S0_ 11 0 12 (some cc_)) 11 0 13 (S0_.1 0 (0 + cc_) 16)) := gi_pI hIx64_ (show (-2147483648) ≤ (S0_.1 0 (0 + cc_) 16) ∧ (S0_.1 0 (0 + cc_) 16) ≤ 2147483647 from ⟨by omega, by omega⟩)
            have hFx67_ : ai_fr (sx_W vw_205) S0_ (sm_pI (sm_pR S0_ 11 0 12 (some cc_)) 11 0 13 (S0_.1 0 (0 + cc_) 16)) := ai_fr_tr hFx65_ (ai_fr_pI rfl)
            have hIx68_ : gi (sm_pI (sm_pI (sm_pR S0_ 11 0 12 (some cc_)) 11 0 13 (S0_.1 0 (0 + cc_) 16)) 11 0 14 a2_) := gi_pI hIx66_ (show 0 ≤ a2_ ∧ a2_ ≤ 4095 from ⟨by omega, by omega⟩)
            have hFx69_ : ai_fr (sx_W vw_205) S0_ (sm_pI (sm_pI (sm_pR S0_ 11 0 12 (some cc_)) 11 0 13 (S0_.1 0 (0 + cc_) 16)) 11 0 14 a2_) := ai_fr_tr hFx67_ (ai_fr_pI rfl)
            have hIx70_ : gi (sm_pI (sm_pI (sm_pI (sm_pR S0_ 11 0 12 (some cc_)) 11 0 13 (S0_.1 0 (0 + cc_) 16)) 11 0 14 a2_) 11 0 15 a3_) := gi_pI hIx68_ (show 0 ≤ a3_ ∧ a3_ ≤ 4095 from ⟨by omega, by omega⟩)
            have hFx71_ : ai_fr (sx_W vw_205) S0_ (sm_pI (sm_pI (sm_pI (sm_pR S0_ 11 0 12 (some cc_)) 11 0 13 (S0_.1 0 (0 + cc_) 16)) 11 0 14 a2_) 11 0 15 a3_) := ai_fr_tr hFx69_ (ai_fr_pI rfl)
            have hIx72_ : gi (sm_pI (sm_pI (sm_pI (sm_pI (sm_pR S0_ 11 0 12 (some cc_)) 11 0 13 (S0_.1 0 (0 + cc_) 16)) 11 0 14 a2_) 11 0 15 a3_) 11 0 16 0) := gi_pI hIx70_ (show 0 ≤ 0 ∧ 0 ≤ 1 from ⟨by omega, by omega⟩)
            have hFx73_ : ai_fr (sx_W vw_205) S0_ (sm_pI (sm_pI (sm_pI (sm_pI (sm_pR S0_ 11 0 12 (some cc_)) 11 0 13 (S0_.1 0 (0 + cc_) 16)) 11 0 14 a2_) 11 0 15 a3_) 11 0 16 0) := ai_fr_tr hFx71_ (ai_fr_pI rfl)
            refine sm_T_go 19 (c1 := (72, [some (.inr (.inr (some (11, 0)))), some (.inr (.inr (some (2, cc_)))), some (.inl a2_), some (.inl a3_), none], [.inr (.inr (some (2, cc_))), .inr (.inr (some (11, 0)))], sm_pI (sm_pI (sm_pI (sm_pI (sm_pR S0_ 11 0 12 (some cc_)) 11 0 13 (S0_.1 0 (0 + cc_) 16)) 11 0 14 a2_) 11 0 15 a3_) 11 0 16 0)) rfl ?_
            refine sm_T_cal (d1 := 1) (Q1 := vq_196 cc_ (sm_pI (sm_pI (sm_pI (sm_pI (sm_pR S0_ 11 0 12 (some cc_)) 11 0 13 (S0_.1 0 (0 + cc_) 16)) 11 0 14 a2_) 11 0 15 a3_) 11 0 16 0)) rfl rfl (by decide) (vc_196 cc_ (sm_pI (sm_pI (sm_pI (sm_pI (sm_pR S0_ 11 0 12 (some cc_)) 11 0 13 (S0_.1 0 (0 + cc_) 16)) 11 0 14 a2_) 11 0 15 a3_) 11 0 16 0) hIx72_ (by exact hs_)) (fun u_ Sx74_ px77_ => ?_)
            obtain ⟨rfl, hIx75_, hFx76_, px77_⟩ := px77_
            have hFx78_ : ai_fr (sx_W vw_205) S0_ Sx74_ := ai_fr_tr hFx73_ (fr_le hFx76_ rfl)
            refine sm_T_go 4 (c1 := (81, [some (.inr (.inr (some (11, 0)))), some (.inr (.inr (some (2, cc_)))), some (.inl a2_), some (.inl a3_), none], [.inl 0, .inl 0, .inr (.inr (some (108, 0)))], Sx74_)) rfl ?_
            refine sm_T_iast (n := 163) rfl rfl (by omega) (by omega) ?_
            have hIx79_ : gi (sm_aI Sx74_ 108 0 (0 : Int).toNat 0) := gi_aI hIx75_ (show 0 ≤ 0 ∧ 0 ≤ 20000 from ⟨by omega, by omega⟩)
            have hFx80_ : ai_fr (sx_W vw_205) S0_ (sm_aI Sx74_ 108 0 (0 : Int).toNat 0) := ai_fr_tr hFx78_ (ai_fr_aI rfl)
            refine sm_T_go 2 (c1 := (85, [some (.inr (.inr (some (11, 0)))), some (.inr (.inr (some (2, cc_)))), some (.inl a2_), some (.inl a3_), some (.inl 0)], [], sm_aI Sx74_ 108 0 (0 : Int).toNat 0)) rfl ?_
            refine (vl_205 a2_ a3_ cc_ S0_ hs_ h2_ h3_ _) 0 (sm_aI Sx74_ 108 0 (0 : Int).toNat 0) hIx79_ hFx80_ ⟨?_, trivial⟩ (Nat.lt_succ_self _)
            · omega
          · have cx63_ : ¬ ((S0_.1 11 0 15) ≠ a3_) := of_decide_eq_false cx63_
            refine sm_T_rv rfl ⟨_, _, rfl, rfl, hI_, hF_, ?_⟩
            trivial
    · skip
      have hIx81_ : gi (sm_pR S0_ 11 0 12 (some cc_)) := gi_pR hI_
      have hFx82_ : ai_fr (sx_W vw_205) S0_ (sm_pR S0_ 11 0 12 (some cc_)) := ai_fr_tr hF_ (ai_fr_pR rfl)
      have bx83_ : (-2147483648) ≤ S0_.1 0 (0 + cc_) 16 ∧ S0_.1 0 (0 + cc_) 16 ≤ 2147483647 := hI_.1 0 (0 + cc_) 16 rfl
      have hIx84_ : gi (sm_pI (sm_pR S0_ 11 0 12 (some cc_)) 11 0 13 (S0_.1 0 (0 + cc_) 16)) := gi_pI hIx81_ (show (-2147483648) ≤ (S0_.1 0 (0 + cc_) 16) ∧ (S0_.1 0 (0 + cc_) 16) ≤ 2147483647 from ⟨by omega, by omega⟩)
      have hFx85_ : ai_fr (sx_W vw_205) S0_ (sm_pI (sm_pR S0_ 11 0 12 (some cc_)) 11 0 13 (S0_.1 0 (0 + cc_) 16)) := ai_fr_tr hFx82_ (ai_fr_pI rfl)
      have hIx86_ : gi (sm_pI (sm_pI (sm_pR S0_ 11 0 12 (some cc_)) 11 0 13 (S0_.1 0 (0 + cc_) 16)) 11 0 14 a2_) := gi_pI hIx84_ (show 0 ≤ a2_ ∧ a2_ ≤ 4095 from ⟨by omega, by omega⟩)
      have hFx87_ : ai_fr (sx_W vw_205) S0_ (sm_pI (sm_pI (sm_pR S0_ 11 0 12 (some cc_)) 11 0 13 (S0_.1 0 (0 + cc_) 16)) 11 0 14 a2_) := ai_fr_tr hFx85_ (ai_fr_pI rfl)
      have hIx88_ : gi (sm_pI (sm_pI (sm_pI (sm_pR S0_ 11 0 12 (some cc_)) 11 0 13 (S0_.1 0 (0 + cc_) 16)) 11 0 14 a2_) 11 0 15 a3_) := gi_pI hIx86_ (show 0 ≤ a3_ ∧ a3_ ≤ 4095 from ⟨by omega, by omega⟩)
      have hFx89_ : ai_fr (sx_W vw_205) S0_ (sm_pI (sm_pI (sm_pI (sm_pR S0_ 11 0 12 (some cc_)) 11 0 13 (S0_.1 0 (0 + cc_) 16)) 11 0 14 a2_) 11 0 15 a3_) := ai_fr_tr hFx87_ (ai_fr_pI rfl)
      have hIx90_ : gi (sm_pI (sm_pI (sm_pI (sm_pI (sm_pR S0_ 11 0 12 (some cc_)) 11 0 13 (S0_.1 0 (0 + cc_) 16)) 11 0 14 a2_) 11 0 15 a3_) 11 0 16 0) := gi_pI hIx88_ (show 0 ≤ 0 ∧ 0 ≤ 1 from ⟨by omega, by omega⟩)
      have hFx91_ : ai_fr (sx_W vw_205) S0_ (sm_pI (sm_pI (sm_pI (sm_pI (sm_pR S0_ 11 0 12 (some cc_)) 11 0 13 (S0_.1 0 (0 + cc_) 16)) 11 0 14 a2_) 11 0 15 a3_) 11 0 16 0) := ai_fr_tr hFx89_ (ai_fr_pI rfl)
      refine sm_T_go 19 (c1 := (72, [some (.inr (.inr (some (11, 0)))), some (.inr (.inr (some (2, cc_)))), some (.inl a2_), some (.inl a3_), none], [.inr (.inr (some (2, cc_))), .inr (.inr (some (11, 0)))], sm_pI (sm_pI (sm_pI (sm_pI (sm_pR S0_ 11 0 12 (some cc_)) 11 0 13 (S0_.1 0 (0 + cc_) 16)) 11 0 14 a2_) 11 0 15 a3_) 11 0 16 0)) rfl ?_
      refine sm_T_cal (d1 := 1) (Q1 := vq_196 cc_ (sm_pI (sm_pI (sm_pI (sm_pI (sm_pR S0_ 11 0 12 (some cc_)) 11 0 13 (S0_.1 0 (0 + cc_) 16)) 11 0 14 a2_) 11 0 15 a3_) 11 0 16 0)) rfl rfl (by decide) (vc_196 cc_ (sm_pI (sm_pI (sm_pI (sm_pI (sm_pR S0_ 11 0 12 (some cc_)) 11 0 13 (S0_.1 0 (0 + cc_) 16)) 11 0 14 a2_) 11 0 15 a3_) 11 0 16 0) hIx90_ (by exact hs_)) (fun u_ Sx92_ px95_ => ?_)
      obtain ⟨rfl, hIx93_, hFx94_, px95_⟩ := px95_
      have hFx96_ : ai_fr (sx_W vw_205) S0_ Sx92_ := ai_fr_tr hFx91_ (fr_le hFx94_ rfl)
      refine sm_T_go 4 (c1 := (81, [some (.inr (.inr (some (11, 0)))), some (.inr (.inr (some (2, cc_)))), some (.inl a2_), some (.inl a3_), none], [.inl 0, .inl 0, .inr (.inr (some (108, 0)))], Sx92_)) rfl ?_
      refine sm_T_iast (n := 163) rfl rfl (by omega) (by omega) ?_
      have hIx97_ : gi (sm_aI Sx92_ 108 0 (0 : Int).toNat 0) := gi_aI hIx93_ (show 0 ≤ 0 ∧ 0 ≤ 20000 from ⟨by omega, by omega⟩)
      have hFx98_ : ai_fr (sx_W vw_205) S0_ (sm_aI Sx92_ 108 0 (0 : Int).toNat 0) := ai_fr_tr hFx96_ (ai_fr_aI rfl)
      refine sm_T_go 2 (c1 := (85, [some (.inr (.inr (some (11, 0)))), some (.inr (.inr (some (2, cc_)))), some (.inl a2_), some (.inl a3_), some (.inl 0)], [], sm_aI Sx92_ 108 0 (0 : Int).toNat 0)) rfl ?_
      refine (vl_205 a2_ a3_ cc_ S0_ hs_ h2_ h3_ _) 0 (sm_aI Sx92_ 108 0 (0 : Int).toNat 0) hIx97_ hFx98_ ⟨?_, trivial⟩ (Nat.lt_succ_self _)
      · omega
