/-! Times.findPaths -/
def vw_199 : sx_Wl := ([(11, 4), (11, 5), (11, 11)], [99, 101, 102, 103, 104, 105, 106], [(11, 3)])
def vq_199 (cc_ : Nat) (S0_ : sm_S) (u_ : Option sm_V) (S1_ : sm_S) : Prop := u_ = none ∧ gi S1_ ∧ ai_fr (sx_W vw_199) S0_ S1_ ∧ (tpo S1_)
set_option maxHeartbeats 2000000 in
set_option maxRecDepth 20000 in
theorem vl_199 {sc_ : Nat × (Nat → Int)} (cc_ : Nat) (S0_ : sm_S) (hs_ : S0_.1 2 cc_ 1 + S0_.1 2 cc_ 2 ≤ 12) (hp_ : tpo S0_) : ∀ nn_ : Nat, (∀ (k_ : Int) (S_ : sm_S), gi S_ → ai_fr (sx_W vw_199) S0_ S_ → ((0 ≤ k_ ∧ k_ ≤ 41 ∧ S_.1 11 0 5 = 0) ∧ True) → ((9000000 - k_).toNat) < nn_ → sm_T (mt_P sc_) 3 199 (56, [some (.inr (.inr (some (11, 0)))), some (.inr (.inr (some (2, cc_)))), some (.inl k_), none, none], [], S_) (fun ro9_ => ∃ u_ S1_, ro9_ = (.inl u_, S1_, 0) ∧ vq_199 cc_ S0_ u_ S1_)) ∧ (∀ (n_ : Int) (S_ : sm_S), gi S_ → ai_fr (sx_W vw_199) S0_ S_ → ((0 ≤ n_ ∧ n_ ≤ 12) ∧ (tpo S_) ∧ True) → ((5000000 - n_).toNat) < nn_ → sm_T (mt_P sc_) 3 199 (77, [some (.inr (.inr (some (11, 0)))), some (.inr (.inr (some (2, cc_)))), some (.inl n_), none, none], [], S_) (fun ro9_ => ∃ u_ S1_, ro9_ = (.inl u_, S1_, 0) ∧ vq_199 cc_ S0_ u_ S1_)) ∧ (∀ (dn_ : Int) (gd_ : Int) (S_ : sm_S), gi S_ → ai_fr (sx_W vw_199) S0_ S_ → ((0 ≤ dn_ ∧ dn_ ≤ 41 ∧ 0 ≤ gd_ ∧ gd_ ≤ 1000000) ∧ (tpo S_) ∧ True) → ((2000000 - gd_).toNat) < nn_ → sm_T (mt_P sc_) 3 199 (123, [some (.inr (.inr (some (11, 0)))), some (.inr (.inr (some (2, cc_)))), some (.inl dn_), some (.inl gd_), none], [], S_) (fun ro9_ => ∃ u_ S1_, ro9_ = (.inl u_, S1_, 0) ∧ vq_199 cc_ S0_ u_ S1_)) := by
  intro nn_
  induction nn_ with
  | zero => exact ⟨fun _ _ _ _ _ h_ => absurd h_ (Nat.not_lt_zero _), fun _ _ _ _ _ h_ => absurd h_ (Nat.not_lt_zero _), fun _ _ _ _ _ _ h_ => absurd h_ (Nat.not_lt_zero _)⟩
  | succ nn_ ih_ =>
    refine ⟨?_, ?_, ?_⟩
    · rintro k_ S_ hI_ hF_ ⟨h0_, -⟩ hm_
      have z1_ : S_.1 2 cc_ 1 = S0_.1 2 cc_ 1 := hF_.1 2 cc_ 1 rfl
      have z2_ : S_.1 2 cc_ 2 = S0_.1 2 cc_ 2 := hF_.1 2 cc_ 2 rfl
      have cg9_ : 0 ≤ S_.1 2 cc_ 8 ∧ S_.1 2 cc_ 8 ≤ 150 := hI_.1 2 cc_ 8 rfl
      have ci_ : 0 ≤ S_.1 2 cc_ 1 ∧ S_.1 2 cc_ 1 ≤ 12 := hI_.1 2 cc_ 1 rfl
      have cr : 0 ≤ S_.1 2 cc_ 2 ∧ S_.1 2 cc_ 2 ≤ 6 := hI_.1 2 cc_ 2 rfl
      refine sm_T_go 2 (c1 := (59, [some (.inr (.inr (some (11, 0)))), some (.inr (.inr (some (2, cc_)))), some (.inl k_), none, none], [.inl 40, .inl k_], S_)) rfl ?_
      refine sm_T_br (a := 4) (z := 16) rfl (fun cx1_ => ?_) (fun cx1_ => ?_)
      · have cx1_ : 40 < k_ := of_decide_eq_true cx1_
        refine sm_T_go 2 (c1 := (77, [some (.inr (.inr (some (11, 0)))), some (.inr (.inr (some (2, cc_)))), some (.inl 0), none, none], [], S_)) rfl ?_
        refine ih_.2.1 0 S_ hI_ hF_ ⟨?_, ?_, trivial⟩ ?_
        · omega
        · (refine ⟨by omega, fun i_ hi_ hn_ => ?_⟩; exfalso; omega)
        · omega
      · have cx1_ : ¬ (40 < k_) := of_decide_eq_false cx1_
        refine sm_T_go 4 (c1 := (68, [some (.inr (.inr (some (11, 0)))), some (.inr (.inr (some (2, cc_)))), some (.inl k_), none, none], [.inl k_, .inl k_, .inr (.inr (some (102, 0)))], S_)) rfl ?_
        refine sm_T_iast (n := 41) rfl rfl (by omega) (by omega) ?_
        have hIx2_ : gi (sm_aI S_ 102 0 k_.toNat k_) := gi_aI hI_ (show 0 ≤ k_ ∧ k_ ≤ 40 from ⟨by omega, by omega⟩)
        have hFx3_ : ai_fr (sx_W vw_199) S0_ (sm_aI S_ 102 0 k_.toNat k_) := ai_fr_tr hF_ (ai_fr_aI rfl)
        refine sm_T_inc (a := 2) (z := 1) (v := k_) (w := k_ + 1) rfl rfl (by omega) (by omega) (by omega) ?_ -- pc_ 69
        refine sm_T_go 1 (c1 := (56, [some (.inr (.inr (some (11, 0)))), some (.inr (.inr (some (2, cc_)))), some (.inl (k_ + 1)), none, none], [], sm_aI S_ 102 0 k_.toNat k_)) rfl ?_
        refine ih_.1 (k_ + 1) (sm_aI S_ 102 0 k_.toNat k_) hIx2_ hFx3_ ⟨?_, trivial⟩ ?_
        · (refine ⟨by omega, by omega, ?_⟩; show S_.1 11 0 5 = 0; omega)
        · omega
    · rintro n_ S_ hI_ hF_ ⟨h0_, ht_, -⟩ hm_
      have z1_ : S_.1 2 cc_ 1 = S0_.1 2 cc_ 1 := hF_.1 2 cc_ 1 rfl
      have z2_ : S_.1 2 cc_ 2 = S0_.1 2 cc_ 2 := hF_.1 2 cc_ 2 rfl
      have cg9_ : 0 ≤ S_.1 2 cc_ 8 ∧ S_.1 2 cc_ 8 ≤ 150 := hI_.1 2 cc_ 8 rfl
      have ci_ : 0 ≤ S_.1 2 cc_ 1 ∧ S_.1 2 cc_ 1 ≤ 12 := hI_.1 2 cc_ 1 rfl
      have cr : 0 ≤ S_.1 2 cc_ 2 ∧ S_.1 2 cc_ 2 ≤ 6 := hI_.1 2 cc_ 2 rfl
      refine sm_T_go 2 (c1 := (79, [some (.inr (.inr (some (11, 0)))), some (.inr (.inr (some (2, cc_)))), some (.inl n_), none, none], [.inr (.inr (some (2, cc_))), .inl n_], S_)) rfl ?_
      refine sm_T_cal (d1 := 0) (Q1 := vq_54 cc_ S_) rfl rfl (by decide) (vc_54 cc_ S_ hI_ ) (fun u_ Sx1_ px4_ => ?_)
      obtain ⟨rfl, vx6_, rfl, px4_⟩ := px4_
      have fg79_ := px4_.2
      refine sm_T_br (a := 3) (z := 37) rfl (fun cx7_ => ?_) (fun cx7_ => ?_)
      · have cx7_ : vx6_ ≤ n_ := of_decide_eq_true cx7_
        refine sm_T_go 4 (c1 := (123, [some (.inr (.inr (some (11, 0)))), some (.inr (.inr (some (2, cc_)))), some (.inl 0), some (.inl 0), none], [], S_)) rfl ?_
        refine ih_.2.2 0 0 S_ hI_ hF_ ⟨?_, ?_, trivial⟩ ?_
        · omega
        · exact ht_
        · omega
      · have cx7_ : ¬ (vx6_ ≤ n_) := of_decide_eq_false cx7_
        have hIx8_ : gi (sm_pI S_ 11 0 11 0) := gi_pI hI_ (show 0 ≤ 0 ∧ 0 ≤ 152 from ⟨by omega, by omega⟩)
        have hFx9_ : ai_fr (sx_W vw_199) S0_ (sm_pI S_ 11 0 11 0) := ai_fr_tr hF_ (ai_fr_pI rfl)
        refine sm_T_go 8 (c1 := (97, [some (.inr (.inr (some (11, 0)))), some (.inr (.inr (some (2, cc_)))), some (.inl n_), none, none], [.inl n_, .inr (.inr (some (99, 0))), .inl n_, .inr (.inr (some (11, 0)))], sm_pI S_ 11 0 11 0)) rfl ?_
        refine sm_T_iald (n := 162) rfl rfl (by omega) (by omega) ?_
        have bx10_ : (-2147483648) ≤ S_.2.2.1 99 0 n_.toNat ∧ S_.2.2.1 99 0 n_.toNat ≤ 2147483647 := hI_.2 99 0 _
        refine sm_T_go 4 (c1 := (106, [some (.inr (.inr (some (11, 0)))), some (.inr (.inr (some (2, cc_)))), some (.inl n_), none, none], [.inl 162, .inl n_, .inr (.inr (some (101, 0))), .inl (S_.2.2.1 99 0 n_.toNat), .inl n_, .inr (.inr (some (11, 0)))], sm_pI S_ 11 0 11 0)) rfl ?_
        refine sm_T_bin (w := 162 * n_) rfl (bi_mul (by omega) (by omega) (by omega)) ?_ -- pc_ 106
        refine sm_T_go 1 (c1 := (108, [some (.inr (.inr (some (11, 0)))), some (.inr (.inr (some (2, cc_)))), some (.inl n_), none, none], [.inl n_, .inl (162 * n_), .inr (.inr (some (101, 0))), .inl (S_.2.2.1 99 0 n_.toNat), .inl n_, .inr (.inr (some (11, 0)))], sm_pI S_ 11 0 11 0)) rfl ?_
        refine sm_T_bin (w := 163 * n_) rfl (bi_add (by omega) (by omega) (by omega)) ?_ -- pc_ 108
        refine sm_T_iald (n := 1944) rfl rfl (by omega) (by omega) ?_
        have bx11_ : (-2147483648) ≤ S_.2.2.1 101 0 (163 * n_).toNat ∧ S_.2.2.1 101 0 (163 * n_).toNat ≤ 2147483647 := hI_.2 101 0 _
        refine sm_T_go 0 (c1 := (110, [some (.inr (.inr (some (11, 0)))), some (.inr (.inr (some (2, cc_)))), some (.inl n_), none, none], [.inl (S_.2.2.1 101 0 (163 * n_).toNat), .inl (S_.2.2.1 99 0 n_.toNat), .inl n_, .inr (.inr (some (11, 0)))], sm_pI S_ 11 0 11 0)) rfl ?_
        refine sm_T_cal (d1 := 1) (Q1 := vq_203 n_ (S_.2.2.1 99 0 n_.toNat) (S_.2.2.1 101 0 (163 * n_).toNat) (sm_pI S_ 11 0 11 0)) rfl rfl (by decide) (vc_203 n_ (S_.2.2.1 99 0 n_.toNat) (S_.2.2.1 101 0 (163 * n_).toNat) (sm_pI S_ 11 0 11 0) hIx8_ (by exact ht_) (by exact ⟨fun j_ hj_ => absurd hj_ (by show ¬ ((j_ : Int) < 0); omega), fun hj_ => absurd hj_ (by show ¬ ((0 : Int) < 0); omega)⟩) (by omega) (by (intro _; omega))) (fun u_ Sx12_ px15_ => ?_)
        obtain ⟨rfl, hIx13_, hFx14_, px15_⟩ := px15_
        have hFx16_ : ai_fr (sx_W vw_199) S0_ Sx12_ := ai_fr_tr hFx9_ (fr_le hFx14_ rfl)
        have o110_ := px15_
        refine sm_T_inc (a := 2) (z := 1) (v := n_) (w := n_ + 1) rfl rfl (by omega) (by omega) (by omega) ?_ -- pc_ 113
        refine sm_T_go 1 (c1 := (77, [some (.inr (.inr (some (11, 0)))), some (.inr (.inr (some (2, cc_)))), some (.inl (n_ + 1)), none, none], [], Sx12_)) rfl ?_
        refine ih_.2.1 (n_ + 1) Sx12_ hIx13_ hFx16_ ⟨?_, ?_, trivial⟩ ?_
        · omega
        · exact o110_
        · omega
    · rintro dn_ gd_ S_ hI_ hF_ ⟨h0_, ht_, -⟩ hm_
      have z1_ : S_.1 2 cc_ 1 = S0_.1 2 cc_ 1 := hF_.1 2 cc_ 1 rfl
      have z2_ : S_.1 2 cc_ 2 = S0_.1 2 cc_ 2 := hF_.1 2 cc_ 2 rfl
      have cg9_ : 0 ≤ S_.1 2 cc_ 8 ∧ S_.1 2 cc_ 8 ≤ 150 := hI_.1 2 cc_ 8 rfl
      have ci_ : 0 ≤ S_.1 2 cc_ 1 ∧ S_.1 2 cc_ 1 ≤ 12 := hI_.1 2 cc_ 1 rfl
      have cr : 0 ≤ S_.1 2 cc_ 2 ∧ S_.1 2 cc_ 2 ≤ 6 := hI_.1 2 cc_ 2 rfl
      have cp_ : 0 ≤ S_.1 11 0 5 ∧ S_.1 11 0 5 ≤ 41 := hI_.1 11 0 5 rfl
      refine sm_T_go 1 (c1 := (124, [some (.inr (.inr (some (11, 0)))), some (.inr (.inr (some (2, cc_)))), some (.inl dn_), some (.inl gd_), none], [.inl gd_], S_)) rfl ?_
      refine sm_T_nt (u := some (.inl 1000000)) (S1 := S_) rfl rfl rfl ?_
      refine sm_T_br (a := 3) (z := 64) rfl (fun cx1_ => ?_) (fun cx1_ => ?_)
      · have cx1_ : 1000000 ≤ gd_ := of_decide_eq_true cx1_
        refine sm_T_rv rfl ⟨_, _, rfl, rfl, hI_, hF_, ?_⟩
        exact ht_
      · have cx1_ : ¬ (1000000 ≤ gd_) := of_decide_eq_false cx1_
        have bx2_ : 0 ≤ S_.1 11 0 5 ∧ S_.1 11 0 5 ≤ 41 := hI_.1 11 0 5 rfl
        refine sm_T_go 3 (c1 := (134, [some (.inr (.inr (some (11, 0)))), some (.inr (.inr (some (2, cc_)))), some (.inl dn_), some (.inl gd_), none], [.inl (S_.1 11 0 5), .inl dn_], S_)) rfl ?_
        refine sm_T_br (a := 3) (z := 56) rfl (fun cx3_ => ?_) (fun cx3_ => ?_)
        · have cx3_ : (S_.1 11 0 5) ≤ dn_ := of_decide_eq_true cx3_
          refine sm_T_rv rfl ⟨_, _, rfl, rfl, hI_, hF_, ?_⟩
          exact ht_
        · have cx3_ : ¬ ((S_.1 11 0 5) ≤ dn_) := of_decide_eq_false cx3_
          have t9_ := ht_.2 dn_.toNat (by omega) (by omega)
          have t1_ := t9_.1
          have t2_ := t9_.2.1
          have c9_ : 0 ≤ S_.2.2.1 102 0 dn_.toNat ∧ S_.2.2.1 102 0 dn_.toNat ≤ 40 := hI_.2 102 0 _
          refine sm_T_go 3 (c1 := (142, [some (.inr (.inr (some (11, 0)))), some (.inr (.inr (some (2, cc_)))), some (.inl dn_), some (.inl gd_), none], [.inl dn_, .inr (.inr (some (102, 0)))], S_)) rfl ?_
          refine sm_T_iald (n := 41) rfl rfl (by omega) (by omega) ?_
          have bx4_ : 0 ≤ S_.2.2.1 102 0 dn_.toNat ∧ S_.2.2.1 102 0 dn_.toNat ≤ 40 := hI_.2 102 0 _
          refine sm_T_go 5 (c1 := (154, [some (.inr (.inr (some (11, 0)))), some (.inr (.inr (some (2, cc_)))), some (.inl dn_), some (.inl gd_), some (.inl (S_.2.2.1 102 0 dn_.toNat))], [.inl 152, .inl (S_.2.2.1 102 0 dn_.toNat), .inr (.inr (some (105, 0)))], S_)) rfl ?_
          refine sm_T_bin (w := 152 * (S_.2.2.1 102 0 dn_.toNat)) rfl (bi_mul (by omega) (by omega) (by omega)) ?_ -- pc_ 154
          refine sm_T_go 3 (c1 := (161, [some (.inr (.inr (some (11, 0)))), some (.inr (.inr (some (2, cc_)))), some (.inl dn_), some (.inl gd_), some (.inl (S_.2.2.1 102 0 dn_.toNat))], [.inl (S_.2.2.1 102 0 dn_.toNat), .inr (.inr (some (104, 0))), .inl (152 * (S_.2.2.1 102 0 dn_.toNat)), .inr (.inr (some (105, 0)))], S_)) rfl ?_
          refine sm_T_iald (n := 41) rfl rfl (by omega) (by omega) ?_
          have bx5_ : 0 ≤ S_.2.2.1 104 0 (S_.2.2.1 102 0 dn_.toNat).toNat ∧ S_.2.2.1 104 0 (S_.2.2.1 102 0 dn_.toNat).toNat ≤ 152 := hI_.2 104 0 _
          refine sm_T_bin (w := 152 * (S_.2.2.1 102 0 dn_.toNat) + (S_.2.2.1 104 0 (S_.2.2.1 102 0 dn_.toNat).toNat)) rfl (bi_add (by omega) (by omega) (by omega)) ?_ -- pc_ 162
          refine sm_T_go 1 (c1 := (164, [some (.inr (.inr (some (11, 0)))), some (.inr (.inr (some (2, cc_)))), some (.inl dn_), some (.inl gd_), some (.inl (S_.2.2.1 102 0 dn_.toNat))], [.inl 1, .inl (152 * (S_.2.2.1 102 0 dn_.toNat) + (S_.2.2.1 104 0 (S_.2.2.1 102 0 dn_.toNat).toNat)), .inr (.inr (some (105, 0)))], S_)) rfl ?_
          refine sm_T_bin (w := 152 * (S_.2.2.1 102 0 dn_.toNat) + (S_.2.2.1 104 0 (S_.2.2.1 102 0 dn_.toNat).toNat) - 1) rfl (bi_sub (by omega) (by omega) (by omega)) ?_ -- pc_ 164
          refine sm_T_iald (n := 6232) rfl rfl (by omega) (by omega) ?_
          have bx6_ : 0 ≤ S_.2.2.1 105 0 (152 * (S_.2.2.1 102 0 dn_.toNat) + (S_.2.2.1 104 0 (S_.2.2.1 102 0 dn_.toNat).toNat) - 1).toNat ∧ S_.2.2.1 105 0 (152 * (S_.2.2.1 102 0 dn_.toNat) + (S_.2.2.1 104 0 (S_.2.2.1 102 0 dn_.toNat).toNat) - 1).toNat ≤ 10161 := hI_.2 105 0 _
          refine sm_T_go 1 (c1 := (169, [some (.inr (.inr (some (11, 0)))), some (.inr (.inr (some (2, cc_)))), some (.inl dn_), some (.inl gd_), some (.inl (S_.2.2.1 102 0 dn_.toNat))], [.inl 10000, .inl (S_.2.2.1 105 0 (152 * (S_.2.2.1 102 0 dn_.toNat) + (S_.2.2.1 104 0 (S_.2.2.1 102 0 dn_.toNat).toNat) - 1).toNat)], S_)) rfl ?_
          refine sm_T_br (a := 2) (z := 9) rfl (fun cx7_ => ?_) (fun cx7_ => ?_)
          · have cx7_ : (S_.2.2.1 105 0 (152 * (S_.2.2.1 102 0 dn_.toNat) + (S_.2.2.1 104 0 (S_.2.2.1 102 0 dn_.toNat).toNat) - 1).toNat) < 10000 := of_decide_eq_true cx7_
            refine sm_T_go 3 (c1 := (181, [some (.inr (.inr (some (11, 0)))), some (.inr (.inr (some (2, cc_)))), some (.inl dn_), some (.inl gd_), some (.inl (S_.2.2.1 102 0 dn_.toNat))], [.inl dn_, .inr (.inr (some (2, cc_))), .inr (.inr (some (11, 0)))], S_)) rfl ?_
            refine sm_T_cal (d1 := 2) (Q1 := vq_201 dn_ cc_ S_) rfl rfl (by decide) (vc_201 dn_ cc_ S_ hI_ (by omega) (by exact ht_) (by omega) (by omega)) (fun u_ Sx8_ px11_ => ?_)
            obtain ⟨rfl, hIx9_, hFx10_, px11_⟩ := px11_
            have hFx12_ : ai_fr (sx_W vw_199) S0_ Sx8_ := ai_fr_tr hF_ (fr_le hFx10_ rfl)
            have o181_ := px11_
            refine sm_T_inc (a := 3) (z := 1) (v := gd_) (w := gd_ + 1) rfl rfl (by omega) (by omega) (by omega) ?_ -- pc_ 184
            refine sm_T_go 1 (c1 := (123, [some (.inr (.inr (some (11, 0)))), some (.inr (.inr (some (2, cc_)))), some (.inl dn_), some (.inl (gd_ + 1)), some (.inl (S_.2.2.1 102 0 dn_.toNat))], [], Sx8_)) rfl ?_
            refine sm_T_wk [some (.inr (.inr (some (11, 0)))), some (.inr (.inr (some (2, cc_)))), some (.inl dn_), some (.inl (gd_ + 1)), none] (by exact ⟨rfl, rfl, rfl, rfl, trivial⟩) ?_
            refine ih_.2.2 dn_ (gd_ + 1) Sx8_ hIx9_ hFx12_ ⟨?_, ?_, trivial⟩ ?_
            · omega
            · first | exact ht_ | exact o181_
            · omega
          · have cx7_ : ¬ ((S_.2.2.1 105 0 (152 * (S_.2.2.1 102 0 dn_.toNat) + (S_.2.2.1 104 0 (S_.2.2.1 102 0 dn_.toNat).toNat) - 1).toNat) < 10000) := of_decide_eq_false cx7_
            refine sm_T_inc (a := 2) (z := 1) (v := dn_) (w := dn_ + 1) rfl rfl (by omega) (by omega) (by omega) ?_ -- pc_ 172
            refine sm_T_go 1 (c1 := (184, [some (.inr (.inr (some (11, 0)))), some (.inr (.inr (some (2, cc_)))), some (.inl (dn_ + 1)), some (.inl gd_), some (.inl (S_.2.2.1 102 0 dn_.toNat))], [], S_)) rfl ?_
            refine sm_T_inc (a := 3) (z := 1) (v := gd_) (w := gd_ + 1) rfl rfl (by omega) (by omega) (by omega) ?_ -- pc_ 184
            refine sm_T_go 1 (c1 := (123, [some (.inr (.inr (some (11, 0)))), some (.inr (.inr (some (2, cc_)))), some (.inl (dn_ + 1)), some (.inl (gd_ + 1)), some (.inl (S_.2.2.1 102 0 dn_.toNat))], [], S_)) rfl ?_
            refine sm_T_wk [some (.inr (.inr (some (11, 0)))), some (.inr (.inr (some (2, cc_)))), some (.inl (dn_ + 1)), some (.inl (gd_ + 1)), none] (by exact ⟨rfl, rfl, rfl, rfl, trivial⟩) ?_
            refine ih_.2.2 (dn_ + 1) (gd_ + 1) S_ hI_ hF_ ⟨?_, ?_, trivial⟩ ?_
            · omega
            · first | exact ht_ | exact o181_
            · omega
set_option maxHeartbeats 2000000 in
set_option maxRecDepth 20000 in
theorem vc_199 {sc_ : Nat × (Nat → Int)} (cc_ : Nat) (S0_ : sm_S) (hI_ : gi S0_) (hs_ : S0_.1 2 cc_ 1 + S0_.1 2 cc_ 2 ≤ 12) (hp_ : tpo S0_) : sm_T (mt_P sc_) 3 199 (0, [some (.inr (.inr (some (11, 0)))), some (.inr (.inr (some (2, cc_)))), none, none, none], [], S0_) (fun ro9_ => ∃ u_ S1_, ro9_ = (.inl u_, S1_, 0) ∧ vq_199 cc_ S0_ u_ S1_) := by
  have hF_ : ai_fr (sx_W vw_199) S0_ S0_ := ai_fr_rf
  refine sm_T_go 1 (c1 := (1, [some (.inr (.inr (some (11, 0)))), some (.inr (.inr (some (2, cc_)))), none, none, none], [.inr (.inr (some (11, 0)))], S0_)) rfl ?_
  cases qx1_ : S0_.2.1 11 0 3 with
  | none =>
    refine sm_T_gr rfl rfl qx1_ ?_
    refine sm_T_go 1 (c1 := (5, [some (.inr (.inr (some (11, 0)))), some (.inr (.inr (some (2, cc_)))), none, none, none], [.inr (.inr (some (2, cc_))), .inr (.inr none)], S0_)) rfl ?_
    refine sm_T_acn (x_ := none) (y_ := some (2, cc_)) rfl rfl (fun cx3_ => ?_) (fun cx3_ => ?_)
    · cases cx3_
    · skip
      have hIx4_ : gi (sm_pR S0_ 11 0 3 (some cc_)) := gi_pR hI_
      have hFx5_ : ai_fr (sx_W vw_199) S0_ (sm_pR S0_ 11 0 3 (some cc_)) := ai_fr_tr hF_ (ai_fr_pR rfl)
      have bx6_ : (-2147483648) ≤ S0_.1 0 (0 + cc_) 16 ∧ S0_.1 0 (0 + cc_) 16 ≤ 2147483647 := hI_.1 0 (0 + cc_) 16 rfl
      have hIx7_ : gi (sm_pI (sm_pR S0_ 11 0 3 (some cc_)) 11 0 4 (S0_.1 0 (0 + cc_) 16)) := gi_pI hIx4_ (show (-2147483648) ≤ (S0_.1 0 (0 + cc_) 16) ∧ (S0_.1 0 (0 + cc_) 16) ≤ 2147483647 from ⟨by omega, by omega⟩)
      have hFx8_ : ai_fr (sx_W vw_199) S0_ (sm_pI (sm_pR S0_ 11 0 3 (some cc_)) 11 0 4 (S0_.1 0 (0 + cc_) 16)) := ai_fr_tr hFx5_ (ai_fr_pI rfl)
      refine sm_T_go 10 (c1 := (41, [some (.inr (.inr (some (11, 0)))), some (.inr (.inr (some (2, cc_)))), none, none, none], [.inr (.inr (some (2, cc_))), .inr (.inr (some (11, 0)))], sm_pI (sm_pR S0_ 11 0 3 (some cc_)) 11 0 4 (S0_.1 0 (0 + cc_) 16))) rfl ?_
      refine sm_T_cal (d1 := 1) (Q1 := vq_196 cc_ (sm_pI (sm_pR S0_ 11 0 3 (some cc_)) 11 0 4 (S0_.1 0 (0 + cc_) 16))) rfl rfl (by decide) (vc_196 cc_ (sm_pI (sm_pR S0_ 11 0 3 (some cc_)) 11 0 4 (S0_.1 0 (0 + cc_) 16)) hIx7_ (by exact hs_)) (fun u_ Sx9_ px12_ => ?_)
      obtain ⟨rfl, hIx10_, hFx11_, px12_⟩ := px12_
      have hFx13_ : ai_fr (sx_W vw_199) S0_ Sx9_ := ai_fr_tr hFx8_ (fr_le hFx11_ rfl)
      refine sm_T_go 2 (c1 := (46, [some (.inr (.inr (some (11, 0)))), some (.inr (.inr (some (2, cc_)))), none, none, none], [.inr (.inr (some (2, cc_))), .inr (.inr (some (11, 0)))], Sx9_)) rfl ?_
      refine sm_T_cal (d1 := 1) (Q1 := vq_200 cc_ Sx9_) rfl rfl (by decide) (vc_200 cc_ Sx9_ hIx10_ (by (have q1_ := hFx13_.1 2 cc_ 1 rfl; have q2_ := hFx13_.1 2 cc_ 2 rfl; omega))) (fun u_ Sx14_ px17_ => ?_)
      obtain ⟨rfl, hIx15_, hFx16_, px17_⟩ := px17_
      have hFx18_ : ai_fr (sx_W vw_199) S0_ Sx14_ := ai_fr_tr hFx13_ (fr_le hFx16_ rfl)
      have hIx19_ : gi (sm_pI Sx14_ 11 0 5 0) := gi_pI hIx15_ (show 0 ≤ 0 ∧ 0 ≤ 41 from ⟨by omega, by omega⟩)
      have hFx20_ : ai_fr (sx_W vw_199) S0_ (sm_pI Sx14_ 11 0 5 0) := ai_fr_tr hFx18_ (ai_fr_pI rfl)
      refine sm_T_go 5 (c1 := (56, [some (.inr (.inr (some (11, 0)))), some (.inr (.inr (some (2, cc_)))), some (.inl 0), none, none], [], sm_pI Sx14_ 11 0 5 0)) rfl ?_
      refine (vl_199 cc_ S0_ hs_ hp_ _).1 0 (sm_pI Sx14_ 11 0 5 0) hIx19_ hFx20_ ⟨?_, trivial⟩ (Nat.lt_succ_self _)
      · (refine ⟨by omega, by omega, rfl⟩)
  | some jx2_ =>
    refine sm_T_gr rfl rfl qx1_ ?_
    refine sm_T_go 1 (c1 := (5, [some (.inr (.inr (some (11, 0)))), some (.inr (.inr (some (2, cc_)))), none, none, none], [.inr (.inr (some (2, cc_))), .inr (.inr (some (2, jx2_)))], S0_)) rfl ?_
    refine sm_T_acn (x_ := some (2, jx2_)) (y_ := some (2, cc_)) rfl rfl (fun cx21_ => ?_) (fun cx21_ => ?_)
    · have cx21_ : jx2_ = cc_ := congrArg Prod.snd (Option.some.inj cx21_)
      have bx22_ : (-2147483648) ≤ S0_.1 11 0 4 ∧ S0_.1 11 0 4 ≤ 2147483647 := hI_.1 11 0 4 rfl
      have bx23_ : (-2147483648) ≤ S0_.1 0 (0 + cc_) 16 ∧ S0_.1 0 (0 + cc_) 16 ≤ 2147483647 := hI_.1 0 (0 + cc_) 16 rfl
      refine sm_T_go 5 (c1 := (19, [some (.inr (.inr (some (11, 0)))), some (.inr (.inr (some (2, cc_)))), none, none, none], [.inl (S0_.1 0 (0 + cc_) 16), .inl (S0_.1 11 0 4)], S0_)) rfl ?_
      refine sm_T_br (a := 1) (z := 4) rfl (fun cx24_ => ?_) (fun cx24_ => ?_)
      · have cx24_ : (S0_.1 11 0 4) ≠ (S0_.1 0 (0 + cc_) 16) := of_decide_eq_true cx24_
        have hIx25_ : gi (sm_pR S0_ 11 0 3 (some cc_)) := gi_pR hI_
        have hFx26_ : ai_fr (sx_W vw_199) S0_ (sm_pR S0_ 11 0 3 (some cc_)) := ai_fr_tr hF_ (ai_fr_pR rfl)
        have hIx27_ : gi (sm_pI (sm_pR S0_ 11 0 3 (some cc_)) 11 0 4 (S0_.1 0 (0 + cc_) 16)) := gi_pI hIx25_ (show (-2147483648) ≤ (S0_.1 0 (0 + cc_) 16) ∧ (S0_.1 0 (0 + cc_) 16) ≤ 2147483647 from ⟨by omega, by omega⟩)
        have hFx28_ : ai_fr (sx_W vw_199) S0_ (sm_pI (sm_pR S0_ 11 0 3 (some cc_)) 11 0 4 (S0_.1 0 (0 + cc_) 16)) := ai_fr_tr hFx26_ (ai_fr_pI rfl)
        refine sm_T_go 10 (c1 := (41, [some (.inr (.inr (some (11, 0)))), some (.inr (.inr (some (2, cc_)))), none, none, none], [.inr (.inr (some (2, cc_))), .inr (.inr (some (11, 0)))], sm_pI (sm_pR S0_ 11 0 3 (some cc_)) 11 0 4 (S0_.1 0 (0 + cc_) 16))) rfl ?_
        refine sm_T_cal (d1 := 1) (Q1 := vq_196 cc_ (sm_pI (sm_pR S0_ 11 0 3 (some cc_)) 11 0 4 (S0_.1 0 (0 + cc_) 16))) rfl rfl (by decide) (vc_196 cc_ (sm_pI (sm_pR S0_ 11 0 3 (some cc_)) 11 0 4 (S0_.1 0 (0 + cc_) 16)) hIx27_ (by exact hs_)) (fun u_ Sx29_ px32_ => ?_)
        obtain ⟨rfl, hIx30_, hFx31_, px32_⟩ := px32_
        have hFx33_ : ai_fr (sx_W vw_199) S0_ Sx29_ := ai_fr_tr hFx28_ (fr_le hFx31_ rfl)
        refine sm_T_go 2 (c1 := (46, [some (.inr (.inr (some (11, 0)))), some (.inr (.inr (some (2, cc_)))), none, none, none], [.inr (.inr (some (2, cc_))), .inr (.inr (some (11, 0)))], Sx29_)) rfl ?_
        refine sm_T_cal (d1 := 1) (Q1 := vq_200 cc_ Sx29_) rfl rfl (by decide) (vc_200 cc_ Sx29_ hIx30_ (by (have q1_ := hFx33_.1 2 cc_ 1 rfl; have q2_ := hFx33_.1 2 cc_ 2 rfl; omega))) (fun u_ Sx34_ px37_ => ?_)
        obtain ⟨rfl, hIx35_, hFx36_, px37_⟩ := px37_
        have hFx38_ : ai_fr (sx_W vw_199) S0_ Sx34_ := ai_fr_tr hFx33_ (fr_le hFx36_ rfl)
        have hIx39_ : gi (sm_pI Sx34_ 11 0 5 0) := gi_pI hIx35_ (show 0 ≤ 0 ∧ 0 ≤ 41 from ⟨by omega, by omega⟩)
        have hFx40_ : ai_fr (sx_W vw_199) S0_ (sm_pI Sx34_ 11 0 5 0) := ai_fr_tr hFx38_ (ai_fr_pI rfl)
        refine sm_T_go 5 (c1 := (56, [some (.inr (.inr (some (11, 0)))), some (.inr (.inr (some (2, cc_)))), some (.inl 0), none, none], [], sm_pI Sx34_ 11 0 5 0)) rfl ?_
        refine (vl_199 cc_ S0_ hs_ hp_ _).1 0 (sm_pI Sx34_ 11 0 5 0) hIx39_ hFx40_ ⟨?_, trivial⟩ (Nat.lt_succ_self _)
        · (refine ⟨by omega, by omega, rfl⟩)
      · have cx24_ : ¬ ((S0_.1 11 0 4) ≠ (S0_.1 0 (0 + cc_) 16)) := of_decide_eq_false cx24_
        refine sm_T_rv rfl ⟨_, _, rfl, rfl, hI_, hF_, ?_⟩
        exact hp_
    · skip
      have hIx41_ : gi (sm_pR S0_ 11 0 3 (some cc_)) := gi_pR hI_
      have hFx42_ : ai_fr (sx_W vw_199) S0_ (sm_pR S0_ 11 0 3 (some cc_)) := ai_fr_tr hF_ (ai_fr_pR rfl)
      have bx43_ : (-2147483648) ≤ S0_.1 0 (0 + cc_) 16 ∧ S0_.1 0 (0 + cc_) 16 ≤ 2147483647 := hI_.1 0 (0 + cc_) 16 rfl
      have hIx44_ : gi (sm_pI (sm_pR S0_ 11 0 3 (some cc_)) 11 0 4 (S0_.1 0 (0 + cc_) 16)) := gi_pI hIx41_ (show (-2147483648) ≤ (S0_.1 0 (0 + cc_) 16) ∧ (S0_.1 0 (0 + cc_) 16) ≤ 2147483647 from ⟨by omega, by omega⟩)
      have hFx45_ : ai_fr (sx_W vw_199) S0_ (sm_pI (sm_pR S0_ 11 0 3 (some cc_)) 11 0 4 (S0_.1 0 (0 + cc_) 16)) := ai_fr_tr hFx42_ (ai_fr_pI rfl)
      refine sm_T_go 10 (c1 := (41, [some (.inr (.inr (some (11, 0)))), some (.inr (.inr (some (2, cc_)))), none, none, none], [.inr (.inr (some (2, cc_))), .inr (.inr (some (11, 0)))], sm_pI (sm_pR S0_ 11 0 3 (some cc_)) 11 0 4 (S0_.1 0 (0 + cc_) 16))) rfl ?_
      refine sm_T_cal (d1 := 1) (Q1 := vq_196 cc_ (sm_pI (sm_pR S0_ 11 0 3 (some cc_)) 11 0 4 (S0_.1 0 (0 + cc_) 16))) rfl rfl (by decide) (vc_196 cc_ (sm_pI (sm_pR S0_ 11 0 3 (some cc_)) 11 0 4 (S0_.1 0 (0 + cc_) 16)) hIx44_ (by exact hs_)) (fun u_ Sx46_ px49_ => ?_)
      obtain ⟨rfl, hIx47_, hFx48_, px49_⟩ := px49_
      have hFx50_ : ai_fr (sx_W vw_199) S0_ Sx46_ := ai_fr_tr hFx45_ (fr_le hFx48_ rfl)
      refine sm_T_go 2 (c1 := (46, [some (.inr (.inr (some (11, 0)))), some (.inr (.inr (some (2, cc_)))), none, none, none], [.inr (.inr (some (2, cc_))), .inr (.inr (some (11, 0)))], Sx46_)) rfl ?_
      refine sm_T_cal (d1 := 1) (Q1 := vq_200 cc_ Sx46_) rfl rfl (by decide) (vc_200 cc_ Sx46_ hIx47_ (by (have q1_ := hFx50_.1 2 cc_ 1 rfl; have q2_ := hFx50_.1 2 cc_ 2 rfl; omega))) (fun u_ Sx51_ px54_ => ?_)
      obtain ⟨rfl, hIx52_, hFx53_, px54_⟩ := px54_
      have hFx55_ : ai_fr (sx_W vw_199) S0_ Sx51_ := ai_fr_tr hFx50_ (fr_le hFx53_ rfl)
      have hIx56_ : gi (sm_pI Sx51_ 11 0 5 0) := gi_pI hIx52_ (show 0 ≤ 0 ∧ 0 ≤ 41 from ⟨by omega, by omega⟩)
      have hFx57_ : ai_fr (sx_W vw_199) S0_ (sm_pI Sx51_ 11 0 5 0) := ai_fr_tr hFx55_ (ai_fr_pI rfl)
      refine sm_T_go 5 (c1 := (56, [some (.inr (.inr (some (11, 0)))), some (.inr (.inr (some (2, cc_)))), some (.inl 0), none, none], [], sm_pI Sx51_ 11 0 5 0)) rfl ?_
      refine (vl_199 cc_ S0_ hs_ hp_ _).1 0 (sm_pI Sx51_ 11 0 5 0) hIx56_ hFx57_ ⟨?_, trivial⟩ (Nat.lt_succ_self _)
      · (refine ⟨by omega, by omega, rfl⟩)
