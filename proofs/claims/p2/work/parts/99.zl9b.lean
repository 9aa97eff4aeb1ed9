/-! Tester.fillTable -/
def vw_169 : sx_Wl := ([(9, 1), (9, 2), (9, 3)], [34, 92, 93, 94, 96], [(9, 0)])
def vq_169 (cc_ : Nat) (S0_ : sm_S) (u_ : Option sm_V) (S1_ : sm_S) : Prop := u_ = none ∧ gi S1_ ∧ ai_fr (sx_W vw_169) S0_ S1_ ∧ (cdf cc_ S0_ S1_ ∧ (ctb cc_ S1_))
set_option maxHeartbeats 2000000 in
theorem vl_169 {sc_ : Nat × (Nat → Int)} (cc_ : Nat) (S0_ : sm_S) (hs_ : S0_.1 2 cc_ 1 + S0_.1 2 cc_ 2 ≤ 12) : ∀ nn_ : Nat, (∀ (pt_ : Int) (e_ : Int) (S_ : sm_S), gi S_ → ai_fr (sx_W vw_169) S0_ S_ → ((0 ≤ e_ ∧ e_ ≤ 22 ∧ 0 ≤ pt_ ∧ pt_ ≤ 4096) ∧ (∀ p9_ : Nat, p9_ < 4096 → 0 ≤ S_.2.2.1 34 (0 + cc_) p9_ ∧ S_.2.2.1 34 (0 + cc_) p9_ < 2 ^ (16 + (S0_.1 2 cc_ 2).toNat)) ∧ (cdf cc_ S0_ S_) ∧ True) → ((10000 * (100 - e_) + 9000).toNat) < nn_ → sm_T (mt_P sc_) 4 169 (22, [some (.inr (.inr (some (9, 0)))), some (.inr (.inr (some (2, cc_)))), some (.inl pt_), some (.inl e_), none, none, none, none], [], S_) (fun ro9_ => ∃ u_ S1_, ro9_ = (.inl u_, S1_, 0) ∧ vq_169 cc_ S0_ u_ S1_)) ∧ (∀ (pt_ : Int) (e_ : Int) (nt_ : Int) (sh_ : Int) (p_ : Int) (S_ : sm_S), gi S_ → ai_fr (sx_W vw_169) S0_ S_ → ((0 ≤ e_ ∧ e_ < 22 ∧ 0 ≤ pt_ ∧ pt_ ≤ 4096 ∧ 0 ≤ p_ ∧ p_ ≤ pt_ ∧ -2 ≤ nt_ ∧ nt_ ≤ 161 ∧ 0 ≤ sh_ ∧ sh_ < 16 + S0_.1 2 cc_ 2) ∧ (∀ p9_ : Nat, p9_ < 4096 → 0 ≤ S_.2.2.1 34 (0 + cc_) p9_ ∧ S_.2.2.1 34 (0 + cc_) p9_ < 2 ^ (16 + (S0_.1 2 cc_ 2).toNat)) ∧ (cdf cc_ S0_ S_) ∧ True) → ((10000 * (100 - e_) + 8000 - p_).toNat) < nn_ → sm_T (mt_P sc_) 4 169 (63, [some (.inr (.inr (some (9, 0)))), some (.inr (.inr (some (2, cc_)))), some (.inl pt_), some (.inl e_), some (.inl nt_), some (.inl sh_), some (.inl p_), none], [], S_) (fun ro9_ => ∃ u_ S1_, ro9_ = (.inl u_, S1_, 0) ∧ vq_169 cc_ S0_ u_ S1_)) := by
  intro nn_
  induction nn_ with
  | zero => exact ⟨fun _ _ _ _ _ _ h_ => absurd h_ (Nat.not_lt_zero _), fun _ _ _ _ _ _ _ _ _ h_ => absurd h_ (Nat.not_lt_zero _)⟩
  | succ nn_ ih_ =>
    refine ⟨?_, ?_⟩
    · rintro pt_ e_ S_ hI_ hF_ ⟨h0_, ht_, hC_, -⟩ hm_
      have z1_ : S_.1 2 cc_ 1 = S0_.1 2 cc_ 1 := hF_.1 2 cc_ 1 rfl
      have z2_ : S_.1 2 cc_ 2 = S0_.1 2 cc_ 2 := hF_.1 2 cc_ 2 rfl
      have z3_ : S_.1 2 cc_ 3 = S0_.1 2 cc_ 3 := hF_.1 2 cc_ 3 rfl
      have co_ : 0 ≤ S_.1 2 cc_ 3 ∧ S_.1 2 cc_ 3 ≤ 16 := hI_.1 2 cc_ 3 rfl
      have cr : 0 ≤ S_.1 2 cc_ 2 ∧ S_.1 2 cc_ 2 ≤ 6 := hI_.1 2 cc_ 2 rfl
      have ci_ : 0 ≤ S_.1 2 cc_ 1 ∧ S_.1 2 cc_ 1 ≤ 12 := hI_.1 2 cc_ 1 rfl
      have pw9_ := pw_le (n := 16 + (S0_.1 2 cc_ 2).toNat) (m := 22) (by omega)
      refine sm_T_go 2 (c1 := (24, [some (.inr (.inr (some (9, 0)))), some (.inr (.inr (some (2, cc_)))), some (.inl pt_), some (.inl e_), none, none, none, none], [.inr (.inr (some (2, cc_))), .inl e_], S_)) rfl ?_
      refine sm_T_cal (d1 := 0) (Q1 := vq_57 cc_ S_) rfl rfl (by decide) (vc_57 cc_ S_ hI_ ) (fun u_ Sx1_ px4_ => ?_)
      obtain ⟨rfl, vx6_, rfl, px4_⟩ := px4_
      have g24_ := px4_
      refine sm_T_br (a := 3) (z := 108) rfl (fun cx7_ => ?_) (fun cx7_ => ?_)
      · have cx7_ : vx6_ ≤ e_ := of_decide_eq_true cx7_
        refine sm_T_rv rfl ⟨_, _, rfl, rfl, hI_, hF_, ?_⟩
        refine ⟨hC_, ?_⟩
        intro p9_ hp9_
        rw [z2_]
        exact ht_ p9_ hp9_
      · have cx7_ : ¬ (vx6_ ≤ e_) := of_decide_eq_false cx7_
        refine sm_T_go 2 (c1 := (32, [some (.inr (.inr (some (9, 0)))), some (.inr (.inr (some (2, cc_)))), some (.inl pt_), some (.inl e_), none, none, none, none], [.inl e_, .inr (.inr (some (2, cc_)))], S_)) rfl ?_
        refine sm_T_cal (d1 := 0) (Q1 := vq_58 e_ cc_ S_) rfl rfl (by decide) (vc_58 e_ cc_ S_ hI_ (by omega)) (fun u_ Sx8_ px11_ => ?_)
        obtain ⟨rfl, vx13_, rfl, px11_⟩ := px11_
        have g32_ := px11_
        have bx14_ : 0 ≤ S_.1 2 cc_ 3 ∧ S_.1 2 cc_ 3 ≤ 16 := hI_.1 2 cc_ 3 rfl
        refine sm_T_go 4 (c1 := (42, [some (.inr (.inr (some (9, 0)))), some (.inr (.inr (some (2, cc_)))), some (.inl pt_), some (.inl e_), some (.inl vx13_), none, none, none], [.inl (S_.1 2 cc_ 3), .inl e_], S_)) rfl ?_
        refine sm_T_br (a := 3) (z := 7) rfl (fun cx15_ => ?_) (fun cx15_ => ?_)
        · have cx15_ : (S_.1 2 cc_ 3) ≤ e_ := of_decide_eq_true cx15_
          refine sm_T_go 2 (c1 := (52, [some (.inr (.inr (some (9, 0)))), some (.inr (.inr (some (2, cc_)))), some (.inl pt_), some (.inl e_), some (.inl vx13_), none, none, none], [.inl e_, .inl 16], S_)) rfl ?_
          refine sm_T_bin (w := e_ + 16) rfl (bi_add (by omega) (by omega) (by omega)) ?_ -- pc_ 52
          refine sm_T_go 2 (c1 := (57, [some (.inr (.inr (some (9, 0)))), some (.inr (.inr (some (2, cc_)))), some (.inl pt_), some (.inl e_), some (.inl vx13_), none, none, none], [.inl (S_.1 2 cc_ 3), .inl (e_ + 16)], S_)) rfl ?_
          refine sm_T_bin (w := e_ - (S_.1 2 cc_ 3) + 16) rfl (bi_sub (by omega) (by omega) (by omega)) ?_ -- pc_ 57
          refine sm_T_go 3 (c1 := (63, [some (.inr (.inr (some (9, 0)))), some (.inr (.inr (some (2, cc_)))), some (.inl pt_), some (.inl e_), some (.inl vx13_), some (.inl (e_ - (S_.1 2 cc_ 3) + 16)), some (.inl 0), none], [], S_)) rfl ?_
          refine ih_.2 pt_ e_ vx13_ (e_ - (S_.1 2 cc_ 3) + 16) 0 S_ hI_ hF_ ⟨?_, ?_, ?_, trivial⟩ ?_
          · omega
          · exact ht_
          · exact hC_
          · omega
        · have cx15_ : ¬ ((S_.1 2 cc_ 3) ≤ e_) := of_decide_eq_false cx15_
          refine sm_T_go 5 (c1 := (63, [some (.inr (.inr (some (9, 0)))), some (.inr (.inr (some (2, cc_)))), some (.inl pt_), some (.inl e_), some (.inl vx13_), some (.inl e_), some (.inl 0), none], [], S_)) rfl ?_
          refine ih_.2 pt_ e_ vx13_ e_ 0 S_ hI_ hF_ ⟨?_, ?_, ?_, trivial⟩ ?_
          · omega
          · exact ht_
          · exact hC_
          · omega
    · rintro pt_ e_ nt_ sh_ p_ S_ hI_ hF_ ⟨h0_, ht_, hC_, -⟩ hm_
      have z1_ : S_.1 2 cc_ 1 = S0_.1 2 cc_ 1 := hF_.1 2 cc_ 1 rfl
      have z2_ : S_.1 2 cc_ 2 = S0_.1 2 cc_ 2 := hF_.1 2 cc_ 2 rfl
      have z3_ : S_.1 2 cc_ 3 = S0_.1 2 cc_ 3 := hF_.1 2 cc_ 3 rfl
      have co_ : 0 ≤ S_.1 2 cc_ 3 ∧ S_.1 2 cc_ 3 ≤ 16 := hI_.1 2 cc_ 3 rfl
      have cr : 0 ≤ S_.1 2 cc_ 2 ∧ S_.1 2 cc_ 2 ≤ 6 := hI_.1 2 cc_ 2 rfl
      have ci_ : 0 ≤ S_.1 2 cc_ 1 ∧ S_.1 2 cc_ 1 ≤ 12 := hI_.1 2 cc_ 1 rfl
      have pw9_ := pw_le (n := 16 + (S0_.1 2 cc_ 2).toNat) (m := 22) (by omega)
      refine sm_T_go 2 (c1 := (66, [some (.inr (.inr (some (9, 0)))), some (.inr (.inr (some (2, cc_)))), some (.inl pt_), some (.inl e_), some (.inl nt_), some (.inl sh_), some (.inl p_), none], [.inl pt_, .inl p_], S_)) rfl ?_
      refine sm_T_br (a := 3) (z := 63) rfl (fun cx1_ => ?_) (fun cx1_ => ?_)
      · have cx1_ : pt_ ≤ p_ := of_decide_eq_true cx1_
        refine sm_T_inc (a := 3) (z := 1) (v := e_) (w := e_ + 1) rfl rfl (by omega) (by omega) (by omega) ?_ -- pc_ 129
        refine sm_T_go 1 (c1 := (22, [some (.inr (.inr (some (9, 0)))), some (.inr (.inr (some (2, cc_)))), some (.inl pt_), some (.inl (e_ + 1)), some (.inl nt_), some (.inl sh_), some (.inl p_), none], [], S_)) rfl ?_
        refine sm_T_wk [some (.inr (.inr (some (9, 0)))), some (.inr (.inr (some (2, cc_)))), some (.inl pt_), some (.inl (e_ + 1)), none, none, none, none] (by exact ⟨rfl, rfl, rfl, rfl, trivial⟩) ?_
        refine ih_.1 pt_ (e_ + 1) S_ hI_ hF_ ⟨?_, ?_, ?_, trivial⟩ ?_
        · omega
        · exact ht_
        · exact hC_
        · omega
      · have cx1_ : ¬ (pt_ ≤ p_) := of_decide_eq_false cx1_
        refine sm_T_go 1 (c1 := (71, [some (.inr (.inr (some (9, 0)))), some (.inr (.inr (some (2, cc_)))), some (.inl pt_), some (.inl e_), some (.inl nt_), some (.inl sh_), some (.inl p_), none], [.inl nt_], S_)) rfl ?_
        refine sm_T_b0 (a := 3) (z := 10) rfl (fun cx2_ => ?_) (fun cx2_ => ?_)
        · have cx2_ : 0 ≤ nt_ := of_decide_eq_true cx2_
          have bt9_ := l_bit (x_ := l_s1 (S_.2.2.2 92 0 (64 * nt_ + p_ / 64).toNat) (p_ % 64))
          have bs9_ := bsh (k_ := 16 + (S0_.1 2 cc_ 2).toNat) bt9_ (show 0 ≤ sh_ by omega) (by omega) (by omega)
          have or9_ := i_orp (x_ := S_.2.2.1 34 (0 + cc_) p_.toNat) (k_ := 16 + (S0_.1 2 cc_ 2).toNat) (by omega) (ht_ p_.toNat (by omega)) bs9_
          refine sm_T_go 4 (c1 := (89, [some (.inr (.inr (some (9, 0)))), some (.inr (.inr (some (2, cc_)))), some (.inl pt_), some (.inl e_), some (.inl nt_), some (.inl sh_), some (.inl p_), none], [.inl 64, .inl nt_, .inr (.inr (some (92, 0)))], S_)) rfl ?_
          refine sm_T_bin (w := 64 * nt_) rfl (bi_mul (by omega) (by omega) (by omega)) ?_ -- pc_ 89
          refine sm_T_go 2 (c1 := (94, [some (.inr (.inr (some (9, 0)))), some (.inr (.inr (some (2, cc_)))), some (.inl pt_), some (.inl e_), some (.inl nt_), some (.inl sh_), some (.inl p_), none], [.inl 6, .inl p_, .inl (64 * nt_), .inr (.inr (some (92, 0)))], S_)) rfl ?_
          refine sm_T_bin (w := (p_ / 64)) rfl (bi_shr (k := 6) (by decide) (by omega) (by omega)) ?_ -- pc_ 94
          refine sm_T_bin (w := 64 * nt_ + (p_ / 64)) rfl (bi_add (by omega) (by omega) (by omega)) ?_ -- pc_ 95
          refine sm_T_lald (n := 10368) rfl rfl (by omega) (by omega) ?_
          refine sm_T_go 2 (c1 := (101, [some (.inr (.inr (some (9, 0)))), some (.inr (.inr (some (2, cc_)))), some (.inl pt_), some (.inl e_), some (.inl nt_), some (.inl sh_), some (.inl p_), none], [.inl 63, .inl p_, .inr (.inl (S_.2.2.2 92 0 (64 * nt_ + (p_ / 64)).toNat))], S_)) rfl ?_
          refine sm_T_bin (w := (p_ % 64)) rfl (bi_msk (k := 6) (by decide)) ?_ -- pc_ 101
          have bx3_ := l_l2i_n ((l_3 ((l_s1 ((S_.2.2.2 92 0 (64 * nt_ + (p_ / 64)).toNat)) (p_ % 64))) 1))
          refine sm_T_go 9 (c1 := (115, [some (.inr (.inr (some (9, 0)))), some (.inr (.inr (some (2, cc_)))), some (.inl pt_), some (.inl e_), some (.inl nt_), some (.inl sh_), some (.inl p_), some (.inl (l_l2i ((l_3 ((l_s1 ((S_.2.2.2 92 0 (64 * nt_ + (p_ / 64)).toNat)) (p_ % 64))) 1))))], [.inl p_, .inr (.inr (some (34, (0 + cc_)))), .inl p_, .inr (.inr (some (34, (0 + cc_))))], S_)) rfl ?_
          refine sm_T_iald (n := 4096) rfl rfl (by omega) (by omega) ?_
          have bx4_ : 0 ≤ S_.2.2.1 34 (0 + cc_) p_.toNat ∧ S_.2.2.1 34 (0 + cc_) p_.toNat ≤ 4194303 := hI_.2 34 (0 + cc_) _
          refine sm_T_go 2 (c1 := (120, [some (.inr (.inr (some (9, 0)))), some (.inr (.inr (some (2, cc_)))), some (.inl pt_), some (.inl e_), some (.inl nt_), some (.inl sh_), some (.inl p_), some (.inl (l_l2i ((l_3 ((l_s1 ((S_.2.2.2 92 0 (64 * nt_ + (p_ / 64)).toNat)) (p_ % 64))) 1))))], [.inl sh_, .inl (l_l2i ((l_3 ((l_s1 ((S_.2.2.2 92 0 (64 * nt_ + (p_ / 64)).toNat)) (p_ % 64))) 1))), .inl (S_.2.2.1 34 (0 + cc_) p_.toNat), .inl p_, .inr (.inr (some (34, (0 + cc_))))], S_)) rfl ?_
          refine sm_T_bin (w := (i_shl (l_l2i ((l_3 ((l_s1 ((S_.2.2.2 92 0 (64 * nt_ + (p_ / 64)).toNat)) (p_ % 64))) 1))) sh_)) rfl rfl ?_ -- pc_ 120
          refine sm_T_bin (w := (i_or (S_.2.2.1 34 (0 + cc_) p_.toNat) (i_shl (l_l2i ((l_3 ((l_s1 ((S_.2.2.2 92 0 (64 * nt_ + (p_ / 64)).toNat)) (p_ % 64))) 1))) sh_))) rfl rfl ?_ -- pc_ 121
          refine sm_T_iast (n := 4096) rfl rfl (by omega) (by omega) ?_
          have hIx5_ : gi (sm_aI S_ 34 (0 + cc_) p_.toNat (i_or (S_.2.2.1 34 (0 + cc_) p_.toNat) (i_shl (l_l2i ((l_3 ((l_s1 ((S_.2.2.2 92 0 (64 * nt_ + (p_ / 64)).toNat)) (p_ % 64))) 1))) sh_))) := gi_aI hI_ (show 0 ≤ (i_or (S_.2.2.1 34 (0 + cc_) p_.toNat) (i_shl (l_l2i ((l_3 ((l_s1 ((S_.2.2.2 92 0 (64 * nt_ + (p_ / 64)).toNat)) (p_ % 64))) 1))) sh_)) ∧ (i_or (S_.2.2.1 34 (0 + cc_) p_.toNat) (i_shl (l_l2i ((l_3 ((l_s1 ((S_.2.2.2 92 0 (64 * nt_ + (p_ / 64)).toNat)) (p_ % 64))) 1))) sh_)) ≤ 4194303 from ⟨by omega, by omega⟩)
          have hFx6_ : ai_fr (sx_W vw_169) S0_ (sm_aI S_ 34 (0 + cc_) p_.toNat (i_or (S_.2.2.1 34 (0 + cc_) p_.toNat) (i_shl (l_l2i ((l_3 ((l_s1 ((S_.2.2.2 92 0 (64 * nt_ + (p_ / 64)).toNat)) (p_ % 64))) 1))) sh_))) := ai_fr_tr hF_ (ai_fr_aI rfl)
          have hCx7_ : cdf cc_ S0_ (sm_aI S_ 34 (0 + cc_) p_.toNat (i_or (S_.2.2.1 34 (0 + cc_) p_.toNat) (i_shl (l_l2i ((l_3 ((l_s1 ((S_.2.2.2 92 0 (64 * nt_ + (p_ / 64)).toNat)) (p_ % 64))) 1))) sh_))) := cdf_aI hC_ (Or.inr (by rw [show cof 34 = 0 from rfl] <;> omega))
          refine sm_T_inc (a := 6) (z := 1) (v := p_) (w := p_ + 1) rfl rfl (by omega) (by omega) (by omega) ?_ -- pc_ 123
          refine sm_T_go 1 (c1 := (63, [some (.inr (.inr (some (9, 0)))), some (.inr (.inr (some (2, cc_)))), some (.inl pt_), some (.inl e_), some (.inl nt_), some (.inl sh_), some (.inl (p_ + 1)), some (.inl (l_l2i ((l_3 ((l_s1 ((S_.2.2.2 92 0 (64 * nt_ + (p_ / 64)).toNat)) (p_ % 64))) 1))))], [], sm_aI S_ 34 (0 + cc_) p_.toNat (i_or (S_.2.2.1 34 (0 + cc_) p_.toNat) (i_shl (l_l2i ((l_3 ((l_s1 ((S_.2.2.2 92 0 (64 * nt_ + (p_ / 64)).toNat)) (p_ % 64))) 1))) sh_)))) rfl ?_
          refine sm_T_wk [some (.inr (.inr (some (9, 0)))), some (.inr (.inr (some (2, cc_)))), some (.inl pt_), some (.inl e_), some (.inl nt_), some (.inl sh_), some (.inl (p_ + 1)), none] (by exact ⟨rfl, rfl, rfl, rfl, rfl, rfl, rfl, trivial⟩) ?_
          refine ih_.2 pt_ e_ nt_ sh_ (p_ + 1) (sm_aI S_ 34 (0 + cc_) p_.toNat (i_or (S_.2.2.1 34 (0 + cc_) p_.toNat) (i_shl (l_l2i ((l_3 ((l_s1 ((S_.2.2.2 92 0 (64 * nt_ + (p_ / 64)).toNat)) (p_ % 64))) 1))) sh_))) hIx5_ hFx6_ ⟨?_, ?_, ?_, trivial⟩ ?_
          · omega
          · intro p9_ hp9_
            rw [rd_eq]
            by_cases z9_ : p9_ = p_.toNat
            · rw [if_pos z9_]; first | exact or9_ | exact or8_
            · rw [if_neg z9_]; exact ht_ p9_ hp9_
          · exact hCx7_
          · omega
        · have cx2_ : ¬ (0 ≤ nt_) := of_decide_eq_false cx2_
          have bt8_ : -nt_ - 1 = 0 ∨ -nt_ - 1 = 1 := by omega
          have bs8_ := bsh (k_ := 16 + (S0_.1 2 cc_ 2).toNat) bt8_ (show 0 ≤ sh_ by omega) (by omega) (by omega)
          have or8_ := i_orp (x_ := S_.2.2.1 34 (0 + cc_) p_.toNat) (k_ := 16 + (S0_.1 2 cc_ 2).toNat) (by omega) (ht_ p_.toNat (by omega)) bs8_
          refine sm_T_go 2 (c1 := (77, [some (.inr (.inr (some (9, 0)))), some (.inr (.inr (some (2, cc_)))), some (.inl pt_), some (.inl e_), some (.inl nt_), some (.inl sh_), some (.inl p_), none], [.inl nt_, .inl (-1)], S_)) rfl ?_
          refine sm_T_bin (w := -nt_ - 1) rfl (bi_sub (by omega) (by omega) (by omega)) ?_ -- pc_ 77
          refine sm_T_go 6 (c1 := (115, [some (.inr (.inr (some (9, 0)))), some (.inr (.inr (some (2, cc_)))), some (.inl pt_), some (.inl e_), some (.inl nt_), some (.inl sh_), some (.inl p_), some (.inl (-nt_ - 1))], [.inl p_, .inr (.inr (some (34, (0 + cc_)))), .inl p_, .inr (.inr (some (34, (0 + cc_))))], S_)) rfl ?_
          refine sm_T_iald (n := 4096) rfl rfl (by omega) (by omega) ?_
          have bx8_ : 0 ≤ S_.2.2.1 34 (0 + cc_) p_.toNat ∧ S_.2.2.1 34 (0 + cc_) p_.toNat ≤ 4194303 := hI_.2 34 (0 + cc_) _
          refine sm_T_go 2 (c1 := (120, [some (.inr (.inr (some (9, 0)))), some (.inr (.inr (some (2, cc_)))), some (.inl pt_), some (.inl e_), some (.inl nt_), some (.inl sh_), some (.inl p_), some (.inl (-nt_ - 1))], [.inl sh_, .inl (-nt_ - 1), .inl (S_.2.2.1 34 (0 + cc_) p_.toNat), .inl p_, .inr (.inr (some (34, (0 + cc_))))], S_)) rfl ?_
          refine sm_T_bin (w := (i_shl (-nt_ - 1) sh_)) rfl rfl ?_ -- pc_ 120
          refine sm_T_bin (w := (i_or (S_.2.2.1 34 (0 + cc_) p_.toNat) (i_shl (-nt_ - 1) sh_))) rfl rfl ?_ -- pc_ 121
          refine sm_T_iast (n := 4096) rfl rfl (by omega) (by omega) ?_
          have hIx9_ : gi (sm_aI S_ 34 (0 + cc_) p_.toNat (i_or (S_.2.2.1 34 (0 + cc_) p_.toNat) (i_shl (-nt_ - 1) sh_))) := gi_aI hI_ (show 0 ≤ (i_or (S_.2.2.1 34 (0 + cc_) p_.toNat) (i_shl (-nt_ - 1) sh_)) ∧ (i_or (S_.2.2.1 34 (0 + cc_) p_.toNat) (i_shl (-nt_ - 1) sh_)) ≤ 4194303 from ⟨by omega, by omega⟩)
          have hFx10_ : ai_fr (sx_W vw_169) S0_ (sm_aI S_ 34 (0 + cc_) p_.toNat (i_or (S_.2.2.1 34 (0 + cc_) p_.toNat) (i_shl (-nt_ - 1) sh_))) := ai_fr_tr hF_ (ai_fr_aI rfl)
          have hCx11_ : cdf cc_ S0_ (sm_aI S_ 34 (0 + cc_) p_.toNat (i_or (S_.2.2.1 34 (0 + cc_) p_.toNat) (i_shl (-nt_ - 1) sh_))) := cdf_aI hC_ (Or.inr (by rw [show cof 34 = 0 from rfl] <;> omega))
          refine sm_T_inc (a := 6) (z := 1) (v := p_) (w := p_ + 1) rfl rfl (by omega) (by omega) (by omega) ?_ -- pc_ 123
          refine sm_T_go 1 (c1 := (63, [some (.inr (.inr (some (9, 0)))), some (.inr (.inr (some (2, cc_)))), some (.inl pt_), some (.inl e_), some (.inl nt_), some (.inl sh_), some (.inl (p_ + 1)), some (.inl (-nt_ - 1))], [], sm_aI S_ 34 (0 + cc_) p_.toNat (i_or (S_.2.2.1 34 (0 + cc_) p_.toNat) (i_shl (-nt_ - 1) sh_)))) rfl ?_
          refine sm_T_wk [some (.inr (.inr (some (9, 0)))), some (.inr (.inr (some (2, cc_)))), some (.inl pt_), some (.inl e_), some (.inl nt_), some (.inl sh_), some (.inl (p_ + 1)), none] (by exact ⟨rfl, rfl, rfl, rfl, rfl, rfl, rfl, trivial⟩) ?_
          refine ih_.2 pt_ e_ nt_ sh_ (p_ + 1) (sm_aI S_ 34 (0 + cc_) p_.toNat (i_or (S_.2.2.1 34 (0 + cc_) p_.toNat) (i_shl (-nt_ - 1) sh_))) hIx9_ hFx10_ ⟨?_, ?_, ?_, trivial⟩ ?_
          · omega
          · intro p9_ hp9_
            rw [rd_eq]
            by_cases z9_ : p9_ = p_.toNat
            · rw [if_pos z9_]; first | exact or9_ | exact or8_
            · rw [if_neg z9_]; exact ht_ p9_ hp9_
          · exact hCx11_
          · omega
set_option maxHeartbeats 2000000 in
theorem vc_169 {sc_ : Nat × (Nat → Int)} (cc_ : Nat) (S0_ : sm_S) (hI_ : gi S0_) (hs_ : S0_.1 2 cc_ 1 + S0_.1 2 cc_ 2 ≤ 12) : sm_T (mt_P sc_) 4 169 (0, [some (.inr (.inr (some (9, 0)))), some (.inr (.inr (some (2, cc_)))), none, none, none, none, none, none], [], S0_) (fun ro9_ => ∃ u_ S1_, ro9_ = (.inl u_, S1_, 0) ∧ vq_169 cc_ S0_ u_ S1_) := by
  have hF_ : ai_fr (sx_W vw_169) S0_ S0_ := ai_fr_rf
  have hC_ : cdf cc_ S0_ S0_ := cdf_rf
  refine sm_T_go 2 (c1 := (2, [some (.inr (.inr (some (9, 0)))), some (.inr (.inr (some (2, cc_)))), none, none, none, none, none, none], [.inr (.inr (some (2, cc_))), .inr (.inr (some (9, 0)))], S0_)) rfl ?_
  refine sm_T_cal (d1 := 3) (Q1 := vq_168 cc_ S0_) rfl rfl (by decide) (vc_168 cc_ S0_ hI_ (by omega)) (fun u_ Sx1_ px4_ => ?_)
  obtain ⟨rfl, hIx2_, hFx3_, px4_⟩ := px4_
  have hFx5_ : ai_fr (sx_W vw_169) S0_ Sx1_ := ai_fr_tr hF_ (fr_le hFx3_ rfl)
  have hCx6_ : cdf cc_ S0_ Sx1_ := cdf_tr hC_ (cdf_fr hFx3_ rfl)
  have q1_ := hFx3_.1 2 cc_ 1 rfl
  have q2_ := hFx3_.1 2 cc_ 2 rfl
  refine sm_T_go 3 (c1 := (10, [some (.inr (.inr (some (9, 0)))), some (.inr (.inr (some (2, cc_)))), none, none, none, none, none, none], [.inl 0, .inr (.inr (some (34, (0 + cc_))))], Sx1_)) rfl ?_
  refine sm_T_cal (d1 := 0) (Q1 := vq_2c4 0 cc_ Sx1_) rfl rfl (by decide) (vc_2c4 0 cc_ Sx1_ hIx2_ (by decide)) (fun u_ Sx7_ px10_ => ?_)
  obtain ⟨rfl, hIx8_, hFx9_, px10_⟩ := px10_
  have hFx11_ : ai_fr (sx_W vw_169) S0_ Sx7_ := ai_fr_tr hFx5_ (fr_le hFx9_ rfl)
  obtain ⟨dx13_, px10_⟩ := px10_
  have hCx12_ : cdf cc_ S0_ Sx7_ := cdf_tr hCx6_ (cdf_cg (by omega) dx13_)
  have e10 := px10_
  have q1b := hFx9_.1 2 cc_ 1 rfl
  have q2b := hFx9_.1 2 cc_ 2 rfl
  refine sm_T_go 2 (c1 := (15, [some (.inr (.inr (some (9, 0)))), some (.inr (.inr (some (2, cc_)))), none, none, none, none, none, none], [.inr (.inr (some (2, cc_))), .inl 1], Sx7_)) rfl ?_
  refine sm_T_cal (d1 := 0) (Q1 := vq_54 cc_ Sx7_) rfl rfl (by decide) (vc_54 cc_ Sx7_ hIx8_ ) (fun u_ Sx14_ px17_ => ?_)
  obtain ⟨rfl, vx19_, rfl, px17_⟩ := px17_
  have g15_ := px17_
  refine sm_T_bin (w := (i_shl 1 vx19_)) rfl rfl ?_ -- pc_ 18
  have bx20_ := i_shl1 (e := vx19_) (by omega) (by omega)
  have p5_ := pw_le (n := (vx19_).toNat) (m := 12) (by omega)
  have p6_ := pw_pos (vx19_).toNat
  refine sm_T_go 3 (c1 := (22, [some (.inr (.inr (some (9, 0)))), some (.inr (.inr (some (2, cc_)))), some (.inl (i_shl 1 vx19_)), some (.inl 0), none, none, none, none], [], Sx7_)) rfl ?_
  refine (vl_169 cc_ S0_ hs_ _).1 (i_shl 1 vx19_) 0 Sx7_ hIx8_ hFx11_ ⟨?_, ?_, ?_, trivial⟩ (Nat.lt_succ_self _)
  · omega
  · (intro p9_ hp9_; rw [e10 p9_ hp9_]; exact ⟨Int.le_refl _, pw_pos _⟩)
  · exact hCx12_
