/-! the class: alter and map, with the tester; written by wip/p55/gen/vg -/
/-! Tester.fillTable -/
def vw_169f : sx_Wl := ([(9, 1), (9, 2), (9, 3)], [34, 92, 93, 94, 96], [(9, 0)])
def vq_169f (cc_ : Nat) (S0_ : sm_S) (u_ : Option sm_V) (S1_ : sm_S) : Prop := u_ = none ∧ gi S1_ ∧ ai_fr (sx_W vw_169f) S0_ S1_ ∧ (cdf cc_ S0_ S1_ ∧ (ctb cc_ S1_ ∧ (S1_.1 9 0 1 = S0_.1 2 cc_ 19 ∧ S1_.2.1 9 0 0 = some cc_) ∧ tok9 cc_ S1_ ∧ kctb cc_ S1_))
set_option maxHeartbeats 2000000 in
theorem vl_169f {sc_ : Nat × (Nat → Int)} (cc_ : Nat) (S0_ : sm_S) (hs_ : S0_.1 2 cc_ 1 + S0_.1 2 cc_ 2 ≤ 12) (hn_ : S0_.2.1 9 0 0 = some cc_ → S0_.1 9 0 1 ≠ S0_.1 2 cc_ 19) : ∀ nn_ : Nat, (∀ (pt_ : Int) (e_ : Int) (S_ : sm_S), gi S_ → ai_fr (sx_W vw_169f) S0_ S_ → ((0 ≤ e_ ∧ e_ ≤ 22 ∧ e_ ≤ S0_.1 2 cc_ 3 + S0_.1 2 cc_ 2 ∧ 0 ≤ pt_ ∧ pt_ ≤ 4096) ∧ (∀ p9_ : Nat, p9_ < 4096 → 0 ≤ S_.2.2.1 34 (0 + cc_) p9_ ∧ S_.2.2.1 34 (0 + cc_) p9_ < 2 ^ (16 + (S0_.1 2 cc_ 2).toNat)) ∧ (pt_ = 2 ^ (S0_.1 2 cc_ 1 + S0_.1 2 cc_ 2).toNat) ∧ (tok9 cc_ S_) ∧ (S_.1 9 0 1 = S0_.1 2 cc_ 19 ∧ S_.2.1 9 0 0 = some cc_) ∧ (∀ q9_ : Nat, (q9_ : Int) < pt_ → S_.2.2.1 34 (0 + cc_) q9_ = ktw (S0_.1 2 cc_ 3).toNat (S_.2.2.2 92 0) (ket cc_ S0_) e_.toNat q9_) ∧ (cdf cc_ S0_ S_) ∧ True) → ((10000 * (100 - e_) + 9000).toNat) < nn_ → sm_T (mt_P sc_) 4 169 (22, [some (.inr (.inr (some (9, 0)))), some (.inr (.inr (some (2, cc_)))), some (.inl pt_), some (.inl e_), none, none, none, none], [], S_) (fun ro9_ => ∃ u_ S1_, ro9_ = (.inl u_, S1_, 0) ∧ vq_169f cc_ S0_ u_ S1_)) ∧ (∀ (pt_ : Int) (e_ : Int) (nt_ : Int) (sh_ : Int) (p_ : Int) (S_ : sm_S), gi S_ → ai_fr (sx_W vw_169f) S0_ S_ → ((0 ≤ e_ ∧ e_ < 22 ∧ e_ < S0_.1 2 cc_ 3 + S0_.1 2 cc_ 2 ∧ 0 ≤ pt_ ∧ pt_ ≤ 4096 ∧ 0 ≤ p_ ∧ p_ ≤ pt_ ∧ -2 ≤ nt_ ∧ nt_ ≤ 161 ∧ 0 ≤ sh_ ∧ sh_ < 16 + S0_.1 2 cc_ 2) ∧ (∀ p9_ : Nat, p9_ < 4096 → 0 ≤ S_.2.2.1 34 (0 + cc_) p9_ ∧ S_.2.2.1 34 (0 + cc_) p9_ < 2 ^ (16 + (S0_.1 2 cc_ 2).toNat)) ∧ (pt_ = 2 ^ (S0_.1 2 cc_ 1 + S0_.1 2 cc_ 2).toNat) ∧ (tok9 cc_ S_) ∧ (S_.1 9 0 1 = S0_.1 2 cc_ 19 ∧ S_.2.1 9 0 0 = some cc_) ∧ (nt_ = ket cc_ S0_ e_.toNat ∧ sh_ = (sht (S0_.1 2 cc_ 3).toNat e_.toNat : Int)) ∧ (∀ q9_ : Nat, (q9_ : Int) < pt_ → S_.2.2.1 34 (0 + cc_) q9_ = if (q9_ : Int) < p_ then ktw (S0_.1 2 cc_ 3).toNat (S_.2.2.2 92 0) (ket cc_ S0_) (e_.toNat + 1) q9_ else ktw (S0_.1 2 cc_ 3).toNat (S_.2.2.2 92 0) (ket cc_ S0_) e_.toNat q9_) ∧ (cdf cc_ S0_ S_) ∧ True) → ((10000 * (100 - e_) + 8000 - p_).toNat) < nn_ → sm_T (mt_P sc_) 4 169 (63, [some (.inr (.inr (some (9, 0)))), some (.inr (.inr (some (2, cc_)))), some (.inl pt_), some (.inl e_), some (.inl nt_), some (.inl sh_), some (.inl p_), none], [], S_) (fun ro9_ => ∃ u_ S1_, ro9_ = (.inl u_, S1_, 0) ∧ vq_169f cc_ S0_ u_ S1_)) := by
  intro nn_
  induction nn_ with
  | zero => exact ⟨fun _ _ _ _ _ _ h_ => absurd h_ (Nat.not_lt_zero _), fun _ _ _ _ _ _ _ _ _ h_ => absurd h_ (Nat.not_lt_zero _)⟩
  | succ nn_ ih_ =>
    refine ⟨?_, ?_⟩
    · rintro pt_ e_ S_ hI_ hF_ ⟨h0_, ht_, hpt_, hkv_, hst_, hv_, hC_, -⟩ hm_
      have z1_ : S_.1 2 cc_ 1 = S0_.1 2 cc_ 1 := hF_.1 2 cc_ 1 rfl
      have z2_ : S_.1 2 cc_ 2 = S0_.1 2 cc_ 2 := hF_.1 2 cc_ 2 rfl
      have z3_ : S_.1 2 cc_ 3 = S0_.1 2 cc_ 3 := hF_.1 2 cc_ 3 rfl
      have co_ : 0 ≤ S_.1 2 cc_ 3 ∧ S_.1 2 cc_ 3 ≤ 16 := hI_.1 2 cc_ 3 rfl
      have cr : 0 ≤ S_.1 2 cc_ 2 ∧ S_.1 2 cc_ 2 ≤ 6 := hI_.1 2 cc_ 2 rfl
      have ci_ : 0 ≤ S_.1 2 cc_ 1 ∧ S_.1 2 cc_ 1 ≤ 12 := hI_.1 2 cc_ 1 rfl
      have pw9_ := pw_le (n := 16 + (S0_.1 2 cc_ 2).toNat) (m := 22) (by omega)
      refine sm_T_go 2 (c1 := (24, [some (.inr (.inr (some (9, 0)))), some (.inr (.inr (some (2, cc_)))), some (.inl pt_), some (.inl e_), none, none, none, none], [.inr (.inr (some (2, cc_))), .inl e_], S_)) rfl ?_
      refine sm_T_cal (d1 := 0) (Q1 := vq_57 cc_ S_) rfl rfl (by decide) (vc_57 cc_ S_ hI_ ) (fun u_ Sx1_ px4_ => ?_)
      obtain ⟨rfl, vx6_, rfl, px4_⟩ := px4_
      have g24_ := px4_
      refine sm_T_br (a := 3) (z := 108) rfl (fun cx7_ => ?_) (fun cx7_ => ?_)
      · have cx7_ : vx6_ ≤ e_ := of_decide_eq_true cx7_
        refine sm_T_rv rfl ⟨_, _, rfl, rfl, hI_, hF_, ?_⟩
        refine ⟨hC_, ?_⟩
        refine ⟨fun p9_ hp9_ => ?_, hst_, hkv_, kctb_of hkv_.1 (by omega) (fun q9_ hq9_ => ?_)⟩
        · rw [z2_]; exact ht_ p9_ hp9_
        · have w9_ := hv_ q9_ (by (rw [hpt_, ← z1_, ← z2_]; exact hq9_)); rw [show e_.toNat = (S0_.1 2 cc_ 3).toNat + (S0_.1 2 cc_ 2).toNat by omega] at w9_; rw [ket_fr hF_, z2_, z3_]; exact w9_
      · have cx7_ : ¬ (vx6_ ≤ e_) := of_decide_eq_false cx7_
        refine sm_T_go 2 (c1 := (32, [some (.inr (.inr (some (9, 0)))), some (.inr (.inr (some (2, cc_)))), some (.inl pt_), some (.inl e_), none, none, none, none], [.inl e_, .inr (.inr (some (2, cc_)))], S_)) rfl ?_
        refine sm_T_cal (d1 := 0) (Q1 := vq_58n e_ cc_ S_) rfl rfl (by decide) (vc_58n e_ cc_ S_ hI_ (by omega)) (fun u_ Sx8_ px11_ => ?_)
        obtain ⟨rfl, vx13_, rfl, px11_⟩ := px11_
        have g32_ := px11_.1
        have g32n := px11_.2
        rw [ket_fr hF_] at g32n
        have bx14_ : 0 ≤ S_.1 2 cc_ 3 ∧ S_.1 2 cc_ 3 ≤ 16 := hI_.1 2 cc_ 3 rfl
        refine sm_T_go 4 (c1 := (42, [some (.inr (.inr (some (9, 0)))), some (.inr (.inr (some (2, cc_)))), some (.inl pt_), some (.inl e_), some (.inl vx13_), none, none, none], [.inl (S_.1 2 cc_ 3), .inl e_], S_)) rfl ?_
        refine sm_T_br (a := 3) (z := 7) rfl (fun cx15_ => ?_) (fun cx15_ => ?_)
        · have cx15_ : (S_.1 2 cc_ 3) ≤ e_ := of_decide_eq_true cx15_
          refine sm_T_go 2 (c1 := (52, [some (.inr (.inr (some (9, 0)))), some (.inr (.inr (some (2, cc_)))), some (.inl pt_), some (.inl e_), some (.inl vx13_), none, none, none], [.inl e_, .inl 16], S_)) rfl ?_
          refine sm_T_bin (w := e_ + 16) rfl (bi_add (by omega) (by omega) (by omega)) ?_ -- pc_ 52
          refine sm_T_go 2 (c1 := (57, [some (.inr (.inr (some (9, 0)))), some (.inr (.inr (some (2, cc_)))), some (.inl pt_), some (.inl e_), some (.inl vx13_), none, none, none], [.inl (S_.1 2 cc_ 3), .inl (e_ + 16)], S_)) rfl ?_
          refine sm_T_bin (w := e_ - (S_.1 2 cc_ 3) + 16) rfl (bi_sub (by omega) (by omega) (by omega)) ?_ -- pc_ 57
          refine sm_T_go 3 (c1 := (63, [some (.inr (.inr (some (9, 0)))), some (.inr (.inr (some (2, cc_)))), some (.inl pt_), some (.inl e_), some (.inl vx13_), some (.inl (e_ - (S_.1 2 cc_ 3) + 16)), some (.inl 0), none], [], S_)) rfl ?_
          refine ih_.2 pt_ e_ vx13_ (e_ - (S_.1 2 cc_ 3) + 16) 0 S_ hI_ hF_ ⟨?_, ?_, ?_, ?_, ?_, ?_, ?_, ?_, trivial⟩ ?_
          · omega
          · exact ht_
          · exact hpt_
          · exact hkv_
          · exact hst_
          · refine ⟨g32n, ?_⟩
            unfold sht; split <;> omega
          · (intro q9_ hq9_; rw [if_neg (by omega)]; exact hv_ q9_ hq9_)
          · exact hC_
          · omega
        · have cx15_ : ¬ ((S_.1 2 cc_ 3) ≤ e_) := of_decide_eq_false cx15_
          refine sm_T_go 5 (c1 := (63, [some (.inr (.inr (some (9, 0)))), some (.inr (.inr (some (2, cc_)))), some (.inl pt_), some (.inl e_), some (.inl vx13_), some (.inl e_), some (.inl 0), none], [], S_)) rfl ?_
          refine ih_.2 pt_ e_ vx13_ e_ 0 S_ hI_ hF_ ⟨?_, ?_, ?_, ?_, ?_, ?_, ?_, ?_, trivial⟩ ?_
          · omega
          · exact ht_
          · exact hpt_
          · exact hkv_
          · exact hst_
          · refine ⟨g32n, ?_⟩
            unfold sht; split <;> omega
          · (intro q9_ hq9_; rw [if_neg (by omega)]; exact hv_ q9_ hq9_)
          · exact hC_
          · omega
    · rintro pt_ e_ nt_ sh_ p_ S_ hI_ hF_ ⟨h0_, ht_, hpt_, hkv_, hst_, hls_, hv_, hC_, -⟩ hm_
      have z1_ : S_.1 2 cc_ 1 = S0_.1 2 cc_ 1 := hF_.1 2 cc_ 1 rfl
      have z2_ : S_.1 2 cc_ 2 = S0_.1 2 cc_ 2 := hF_.1 2 cc_ 2 rfl
      have z3_ : S_.1 2 cc_ 3 = S0_.1 2 cc_ 3 := hF_.1 2 cc_ 3 rfl
      have co_ : 0 ≤ S_.1 2 cc_ 3 ∧ S_.1 2 cc_ 3 ≤ 16 := hI_.1 2 cc_ 3 rfl
      have cr : 0 ≤ S_.1 2 cc_ 2 ∧ S_.1 2 cc_ 2 ≤ 6 := hI_.1 2 cc_ 2 rfl
      have ci_ : 0 ≤ S_.1 2 cc_ 1 ∧ S_.1 2 cc_ 1 ≤ 12 := hI_.1 2 cc_ 1 rfl
      have pw9_ := pw_le (n := 16 + (S0_.1 2 cc_ 2).toNat) (m := 22) (by omega)
      refine sm_T_go 2 (c1 := (66, [some (.inr (.inr (some (9, 0)))), some (.inr (.inr (some (2, cc_)))), some (.inl pt_), some (.inl e_), some (.inl nt_), some (.inl sh_), some (.inl p_), none], [.inl pt_, .inl p_], S_)) rfl ?_
      refine sm_T_br (a := 3) (z := 63) rfl (fun cx1_ => ?_) (fun cx1_ => ?_)
      · have cx1_ : pt_ ≤ p_ := of_decide_eq_true cx1_
        refine sm_T_inc (a := 3) (z := 1) (v := e_) (w := e_ + 1) rfl rfl (by omega) (by omega) (by omega) ?_ -- pc_ 129
        refine sm_T_go 1 (c1 := (22, [some (.inr (.inr (some (9, 0)))), some (.inr (.inr (some (2, cc_)))), some (.inl pt_), some (.inl (e_ + 1)), some (.inl nt_), some (.inl sh_), some (.inl p_), none], [], S_)) rfl ?_
        refine sm_T_wk [some (.inr (.inr (some (9, 0)))), some (.inr (.inr (some (2, cc_)))), some (.inl pt_), some (.inl (e_ + 1)), none, none, none, none] (by exact ⟨rfl, rfl, rfl, rfl, trivial⟩) ?_
        refine ih_.1 pt_ (e_ + 1) S_ hI_ hF_ ⟨?_, ?_, ?_, ?_, ?_, ?_, ?_, trivial⟩ ?_
        · omega
        · exact ht_
        · exact hpt_
        · exact hkv_
        · exact hst_
        · (intro q9_ hq9_; rw [show (e_ + 1).toNat = e_.toNat + 1 by omega]; have w9_ := hv_ q9_ hq9_; rw [if_pos (by omega)] at w9_; exact w9_)
        · exact hC_
        · omega
      · have cx1_ : ¬ (pt_ ≤ p_) := of_decide_eq_false cx1_
        refine sm_T_go 1 (c1 := (71, [some (.inr (.inr (some (9, 0)))), some (.inr (.inr (some (2, cc_)))), some (.inl pt_), some (.inl e_), some (.inl nt_), some (.inl sh_), some (.inl p_), none], [.inl nt_], S_)) rfl ?_
        refine sm_T_b0 (a := 3) (z := 10) rfl (fun cx2_ => ?_) (fun cx2_ => ?_)
        · have cx2_ : 0 ≤ nt_ := of_decide_eq_true cx2_
          have bt9_ := l_bit (x_ := l_s1 (S_.2.2.2 92 0 (64 * nt_ + p_ / 64).toNat) (p_ % 64))
          have bv9_ : l_l2i (l_3 (l_s1 (S_.2.2.2 92 0 (64 * nt_ + p_ / 64).toNat) (p_ % 64)) 1) = if nev (fun n_ => pvl (S_.2.2.2 92 0) n_ p_.toNat) (ket cc_ S0_ e_.toNat) = true then 1 else 0 := by (rw [← hls_.1]; exact nev_p (by omega) (by omega))
          have bs9_ := bsh (k_ := 16 + (S0_.1 2 cc_ 2).toNat) bt9_ (show 0 ≤ sh_ by omega) (by omega) (by omega)
          have or9_ := i_orp (x_ := S_.2.2.1 34 (0 + cc_) p_.toNat) (k_ := 16 + (S0_.1 2 cc_ 2).toNat) (by omega) (ht_ p_.toNat (by omega)) bs9_
          refine sm_T_go 4 (c1 := (89, [some (.inr (.inr (some (9, 0)))), some (.inr (.inr (some (2, cc_)))), some (.inl pt_), some (.inl e_), some (.inl nt_), some (.inl sh_), some (.inl p_), none], [.inl 64, .inl nt_, .inr (.inr (some (92, 0)))], S_)) rfl ?_
          refine sm_T_bin (w := 64 * nt_) rfl (bi_mul (by omega) (by omega) (by omega)) ?_ -- pc_ 89
          refine sm_T_go 2 (c1 := (94, [some (.inr (.inr (some (9, 0)))), some (.inr (.inr (some (2, cc_)))), some (.inl pt_), some (.inl e_), some (.inl nt_), some (.inl sh_), some (.inl p_), none], [.inl 6, .inl p_, .inl (64 * nt_), .inr (.inr (some (92, 0)))], S_)) rfl ?_
          refine sm_T_bin (w := (p_ / 64)) rfl (bi_shr (k := 6) (by decide) (by omega) (by omega)) ?_ -- pc_ 94
          refine sm_T_bin (w := 64 * nt_ + (p_ / 64)) rfl (bi_add (by omega) (by omega) (by omega)) ?_ -- pc_ 95
          refine sm_T_lald (n := 10368) rfl rfl (by omega) (by omega) ?_
          refine sm_T_go 2 (c1 := (101, [some (.inr (.inr (some (9, 0)))), some (.inr (.inr (some (2, cc_)))), some (.inl pt_), some (.inl e_), some (.inl nt_), some (.inl sh_), some (.inl p_), none], [.inl 63, .inl p_, .inr (.inl (S_.2.2.2 92 0 (64 * nt_ + (p_ / 64)).toNat))], S_)) rfl ?_
          refine sm_T_bin (w := (p_ % 64)) rfl (bi_msk (k := 6) (by decide)) ?_ -- pc_ 101
          have bx3_ := l_l2i_n ((l_3 ((l_s1 ((S_.2.2.2 92 0 (64 * nt_ + (p_ / 64)).toNat)) (p_ % 64))) 1))
          refine sm_T_go 9 (c1 := (115, [some (.inr (.inr (some (9, 0)))), some (.inr (.inr (some (2, cc_)))), some (.inl pt_), some (.inl e_), some (.inl nt_), some (.inl sh_), some (.inl p_), some (.inl (l_l2i ((l_3 ((l_s1 ((S_.2.2.2 92 0 (64 * nt_ + (p_ / 64)).toNat)) (p_ % 64))) 1))))], [.inl p_, .inr (.inr (some (34, (0 + cc_)))), .inl p_, .inr (.inr (some (34, (0 + cc_))))], S_)) rfl ?_
          refine sm_T_iald (n := 4096) rfl rfl (by omega) (by omega) ?_
          have bx4_ : 0 ≤ S_.2.2.1 34 (0 + cc_) p_.toNat ∧ S_.2.2.1 34 (0 + cc_) p_.toNat ≤ 4194303 := hI_.2 34 (0 + cc_) _
          refine sm_T_go 2 (c1 := (120, [some (.inr (.inr (some (9, 0)))), some (.inr (.inr (some (2, cc_)))), some (.inl pt_), some (.inl e_), some (.inl nt_), some (.inl sh_), some (.inl p_), some (.inl (l_l2i ((l_3 ((l_s1 ((S_.2.2.2 92 0 (64 * nt_ + (p_ / 64)).toNat)) (p_ % 64))) 1))))], [.inl sh_, .inl (l_l2i ((l_3 ((l_s1 ((S_.2.2.2 92 0 (64 * nt_ + (p_ / 64)).toNat)) (p_ % 64))) 1))), .inl (S_.2.2.1 34 (0 + cc_) p_.toNat), .inl p_, .inr (.inr (some (34, (0 + cc_))))], S_)) rfl ?_
          refine sm_T_bin (w := (i_shl (l_l2i ((l_3 ((l_s1 ((S_.2.2.2 92 0 (64 * nt_ + (p_ / 64)).toNat)) (p_ % 64))) 1))) sh_)) rfl rfl ?_ -- pc_ 120
          refine sm_T_bin (w := (i_or (S_.2.2.1 34 (0 + cc_) p_.toNat) (i_shl (l_l2i ((l_3 ((l_s1 ((S_.2.2.2 92 0 (64 * nt_ + (p_ / 64)).toNat)) (p_ % 64))) 1))) sh_))) rfl rfl ?_ -- pc_ 121
          refine sm_T_iast (n := 4096) rfl rfl (by omega) (by omega) ?_
          have hIx5_ : gi (sm_aI S_ 34 (0 + cc_) p_.toNat (i_or (S_.2.2.1 34 (0 + cc_) p_.toNat) (i_shl (l_l2i ((l_3 ((l_s1 ((S_.2.2.2 92 0 (64 * nt_ + (p_ / 64)).toNat)) (p_ % 64))) 1))) sh_))) := gi_aI hI_ (show 0 ≤ (i_or (S_.2.2.1 34 (0 + cc_) p_.toNat) (i_shl (l_l2i ((l_3 ((l_s1 ((S_.2.2.2 92 0 (64 * nt_ + (p_ / 64)).toNat)) (p_ % 64))) 1))) sh_)) ∧ (i_or (S_.2.2.1 34 (0 + cc_) p_.toNat) (i_shl (l_l2i ((l_3 ((l_s1 ((S_.2.2.2 92 0 (64 * nt_ + (p_ / 64)).toNat)) (p_ % 64))) 1))) sh_)) ≤ 4194303 from ⟨by omega, by omega⟩)
          have hFx6_ : ai_fr (sx_W vw_169f) S0_ (sm_aI S_ 34 (0 + cc_) p_.toNat (i_or (S_.2.2.1 34 (0 + cc_) p_.toNat) (i_shl (l_l2i ((l_3 ((l_s1 ((S_.2.2.2 92 0 (64 * nt_ + (p_ / 64)).toNat)) (p_ % 64))) 1))) sh_))) := ai_fr_tr hF_ (ai_fr_aI rfl)
          have hCx7_ : cdf cc_ S0_ (sm_aI S_ 34 (0 + cc_) p_.toNat (i_or (S_.2.2.1 34 (0 + cc_) p_.toNat) (i_shl (l_l2i ((l_3 ((l_s1 ((S_.2.2.2 92 0 (64 * nt_ + (p_ / 64)).toNat)) (p_ % 64))) 1))) sh_))) := cdf_aI hC_ (Or.inr (by rw [show cof 34 = 0 from rfl] <;> omega))
          refine sm_T_inc (a := 6) (z := 1) (v := p_) (w := p_ + 1) rfl rfl (by omega) (by omega) (by omega) ?_ -- pc_ 123
          refine sm_T_go 1 (c1 := (63, [some (.inr (.inr (some (9, 0)))), some (.inr (.inr (some (2, cc_)))), some (.inl pt_), some (.inl e_), some (.inl nt_), some (.inl sh_), some (.inl (p_ + 1)), some (.inl (l_l2i ((l_3 ((l_s1 ((S_.2.2.2 92 0 (64 * nt_ + (p_ / 64)).toNat)) (p_ % 64))) 1))))], [], sm_aI S_ 34 (0 + cc_) p_.toNat (i_or (S_.2.2.1 34 (0 + cc_) p_.toNat) (i_shl (l_l2i ((l_3 ((l_s1 ((S_.2.2.2 92 0 (64 * nt_ + (p_ / 64)).toNat)) (p_ % 64))) 1))) sh_)))) rfl ?_
          refine sm_T_wk [some (.inr (.inr (some (9, 0)))), some (.inr (.inr (some (2, cc_)))), some (.inl pt_), some (.inl e_), some (.inl nt_), some (.inl sh_), some (.inl (p_ + 1)), none] (by exact ⟨rfl, rfl, rfl, rfl, rfl, rfl, rfl, trivial⟩) ?_
          refine ih_.2 pt_ e_ nt_ sh_ (p_ + 1) (sm_aI S_ 34 (0 + cc_) p_.toNat (i_or (S_.2.2.1 34 (0 + cc_) p_.toNat) (i_shl (l_l2i ((l_3 ((l_s1 ((S_.2.2.2 92 0 (64 * nt_ + (p_ / 64)).toNat)) (p_ % 64))) 1))) sh_))) hIx5_ hFx6_ ⟨?_, ?_, ?_, ?_, ?_, ?_, ?_, ?_, trivial⟩ ?_
          · omega
          · intro p9_ hp9_
            rw [rd_eq]
            by_cases z9_ : p9_ = p_.toNat
            · rw [if_pos z9_]; first | exact or9_ | exact or8_
            · rw [if_neg z9_]; exact ht_ p9_ hp9_
          · exact hpt_
          · exact tok_f9 (w_ := ([], [34], [])) hkv_ (ai_fr_aI rfl)
          · exact hst_
          · exact hls_
          · intro q9_ hq9_
            rw [rd_eq]
            by_cases z9_ : q9_ = p_.toNat
            · have w9_ := hv_ p_.toNat (by omega)
              rw [if_neg (by omega)] at w9_
              rw [if_pos z9_, if_pos (by omega), w9_, z9_, show sh_ = (sht (S0_.1 2 cc_ 3).toNat e_.toNat : Int) from hls_.2]
              exact ktw_or (by omega) (sht_b (r_ := 6) (by omega) (by decide) (by omega)) (by first | exact bv8_ | exact bv9_)
            · rw [if_neg z9_]
              have w9_ := hv_ q9_ hq9_
              by_cases y9_ : (q9_ : Int) < p_
              · rw [if_pos y9_] at w9_; rw [if_pos (by omega)]; exact w9_
              · rw [if_neg y9_] at w9_; rw [if_neg (by omega)]; exact w9_
          · exact hCx7_
          · omega
        · have cx2_ : ¬ (0 ≤ nt_) := of_decide_eq_false cx2_
          have bt8_ : -nt_ - 1 = 0 ∨ -nt_ - 1 = 1 := by omega
          have bv8_ : -nt_ - 1 = if nev (fun n_ => pvl (S_.2.2.2 92 0) n_ p_.toNat) (ket cc_ S0_ e_.toNat) = true then 1 else 0 := by (rw [← hls_.1]; exact nev_m (by omega))
          have bs8_ := bsh (k_ := 16 + (S0_.1 2 cc_ 2).toNat) bt8_ (show 0 ≤ sh_ by omega) (by omega) (by omega)
          have or8_ := i_orp (x_ := S_.2.2.1 34 (0 + cc_) p_.toNat) (k_ := 16 + (S0_.1 2 cc_ 2).toNat) (by omega) (ht_ p_.toNat (by omega)) bs8_
          refine sm_T_go 2 (c1 := (77, [some (.inr (.inr (some (9, 0)))), some (.inr (.inr (some (2, cc_)))), some (.inl pt_), some (.inl e_), some (.inl nt_), some (.inl sh_), some (.inl p_), none], [.inl nt_, .inl (-1)], S_)) rfl ?_
          refine sm_T_bin (w := -nt_ - 1) rfl (bi_sub (by omega) (by omega) (by omega)) ?_ -- pc_ 77
          refine sm_T_go 6 (c1 := (115, [some (.inr (.inr (some (9, 0)))), some (.inr (.inr (some (2, cc_)))), some (.inl pt_), some (.inl e_), some (.inl nt_), some (.inl sh_), some (.inl p_), some (.inl (-nt_ - 1))], [.inl p_, .inr (.inr (some (34, (0 + cc_)))), .inl p_, .inr (.inr (some (34, (0 + cc_))))], S_)) rfl ?_
          refine sm_T_iald (n := 4096) rfl rfl (by omega) (by omega) ?_
          have bx8_ : 0 ≤ S_.2.2.1 34 (0 + cc_) p_.toNat ∧ S_.2.2.1 34 (0 + cc_) p_.toNat ≤ 4194303 := hI_.2 34 (0 + cc_) _
          refine sm_T_go 2 (c1 := (120, [some (.inr (.inr (some (9, 0)))), some (.inr (.inr (some (2, cc_)))), some (.inl pt_), some (.inl e_), some (.inl nt_), some (.inl sh_), some (.inl p_), some (.inl (-nt_ - 1))], [.inl sh_, .inl (-nt_ - 1), .inl (S_.2.2.1 34 (0 + cc_) p_.toNat), .inl p_, .inr (.inr (some (34, (0 + cc_))))], S_)) rfl ?_
          refine sm_T_bin (w := (i_shl (-nt_ - 1) sh_)) rfl rfl ?_ -- pc_ 120
          refine sm_T_bin (w := (i_or (S_.2.2.1 34 (0 + cc_) p_.toNat) (i_shl (-nt_ - 1) sh_))) rfl rfl ?_ -- pc_ 121
          refine sm_T_iast (n := 4096) rfl rfl (by omega) (by omega) ?_
          have hIx9_ : gi (sm_aI S_ 34 (0 + cc_) p_.toNat (i_or (S_.2.2.1 34 (0 + cc_) p_.toNat) (i_shl (-nt_ - 1) sh_))) := gi_aI hI_ (show 0 ≤ (i_or (S_.2.2.1 34 (0 + cc_) p_.toNat) (i_shl (-nt_ - 1) sh_)) ∧ (i_or (S_.2.2.1 34 (0 + cc_) p_.toNat) (i_shl (-nt_ - 1) sh_)) ≤ 4194303 from ⟨by omega, by omega⟩)
          have hFx10_ : ai_fr (sx_W vw_169f) S0_ (sm_aI S_ 34 (0 + cc_) p_.toNat (i_or (S_.2.2.1 34 (0 + cc_) p_.toNat) (i_shl (-nt_ - 1) sh_))) := ai_fr_tr hF_ (ai_fr_aI rfl)
          have hCx11_ : cdf cc_ S0_ (sm_aI S_ 34 (0 + cc_) p_.toNat (i_or (S_.2.2.1 34 (0 + cc_) p_.toNat) (i_shl (-nt_ - 1) sh_))) := cdf_aI hC_ (Or.inr (by rw [show cof 34 = 0 from rfl] <;> omega))
          refine sm_T_inc (a := 6) (z := 1) (v := p_) (w := p_ + 1) rfl rfl (by omega) (by omega) (by omega) ?_ -- pc_ 123
          refine sm_T_go 1 (c1 := (63, [some (.inr (.inr (some (9, 0)))), some (.inr (.inr (some (2, cc_)))), some (.inl pt_), some (.inl e_), some (.inl nt_), some (.inl sh_), some (.inl (p_ + 1)), some (.inl (-nt_ - 1))], [], sm_aI S_ 34 (0 + cc_) p_.toNat (i_or (S_.2.2.1 34 (0 + cc_) p_.toNat) (i_shl (-nt_ - 1) sh_)))) rfl ?_
          refine sm_T_wk [some (.inr (.inr (some (9, 0)))), some (.inr (.inr (some (2, cc_)))), some (.inl pt_), some (.inl e_), some (.inl nt_), some (.inl sh_), some (.inl (p_ + 1)), none] (by exact ⟨rfl, rfl, rfl, rfl, rfl, rfl, rfl, trivial⟩) ?_
          refine ih_.2 pt_ e_ nt_ sh_ (p_ + 1) (sm_aI S_ 34 (0 + cc_) p_.toNat (i_or (S_.2.2.1 34 (0 + cc_) p_.toNat) (i_shl (-nt_ - 1) sh_))) hIx9_ hFx10_ ⟨?_, ?_, ?_, ?_, ?_, ?_, ?_, ?_, trivial⟩ ?_
          · omega
          · intro p9_ hp9_
            rw [rd_eq]
            by_cases z9_ : p9_ = p_.toNat
            · rw [if_pos z9_]; first | exact or9_ | exact or8_
            · rw [if_neg z9_]; exact ht_ p9_ hp9_
          · exact hpt_
          · exact tok_f9 (w_ := ([], [34], [])) hkv_ (ai_fr_aI rfl)
          · exact hst_
          · exact hls_
          · intro q9_ hq9_
            rw [rd_eq]
            by_cases z9_ : q9_ = p_.toNat
            · have w9_ := hv_ p_.toNat (by omega)
              rw [if_neg (by omega)] at w9_
              rw [if_pos z9_, if_pos (by omega), w9_, z9_, show sh_ = (sht (S0_.1 2 cc_ 3).toNat e_.toNat : Int) from hls_.2]
              exact ktw_or (by omega) (sht_b (r_ := 6) (by omega) (by decide) (by omega)) (by first | exact bv8_ | exact bv9_)
            · rw [if_neg z9_]
              have w9_ := hv_ q9_ hq9_
              by_cases y9_ : (q9_ : Int) < p_
              · rw [if_pos y9_] at w9_; rw [if_pos (by omega)]; exact w9_
              · rw [if_neg y9_] at w9_; rw [if_neg (by omega)]; exact w9_
          · exact hCx11_
          · omega
set_option maxHeartbeats 2000000 in
theorem vc_169f {sc_ : Nat × (Nat → Int)} (cc_ : Nat) (S0_ : sm_S) (hI_ : gi S0_) (hs_ : S0_.1 2 cc_ 1 + S0_.1 2 cc_ 2 ≤ 12) (hn_ : S0_.2.1 9 0 0 = some cc_ → S0_.1 9 0 1 ≠ S0_.1 2 cc_ 19) : sm_T (mt_P sc_) 4 169 (0, [some (.inr (.inr (some (9, 0)))), some (.inr (.inr (some (2, cc_)))), none, none, none, none, none, none], [], S0_) (fun ro9_ => ∃ u_ S1_, ro9_ = (.inl u_, S1_, 0) ∧ vq_169f cc_ S0_ u_ S1_) := by
  have hF_ : ai_fr (sx_W vw_169f) S0_ S0_ := ai_fr_rf
  have hC_ : cdf cc_ S0_ S0_ := cdf_rf
  have c3o : 0 ≤ S0_.1 2 cc_ 3 ∧ S0_.1 2 cc_ 3 ≤ 16 := hI_.1 2 cc_ 3 rfl
  have c2o : 0 ≤ S0_.1 2 cc_ 2 ∧ S0_.1 2 cc_ 2 ≤ 6 := hI_.1 2 cc_ 2 rfl
  refine sm_T_go 2 (c1 := (2, [some (.inr (.inr (some (9, 0)))), some (.inr (.inr (some (2, cc_)))), none, none, none, none, none, none], [.inr (.inr (some (2, cc_))), .inr (.inr (some (9, 0)))], S0_)) rfl ?_
  refine sm_T_cal (d1 := 3) (Q1 := vq_168f cc_ S0_) rfl rfl (by decide) (vc_168f cc_ S0_ hI_ (by omega) (by exact fun a9_ b9_ => absurd b9_ (hn_ a9_))) (fun u_ Sx1_ px4_ => ?_)
  obtain ⟨rfl, hIx2_, hFx3_, px4_⟩ := px4_
  have hFx5_ : ai_fr (sx_W vw_169f) S0_ Sx1_ := ai_fr_tr hF_ (fr_le hFx3_ rfl)
  have hCx6_ : cdf cc_ S0_ Sx1_ := cdf_tr hC_ (cdf_fr hFx3_ rfl)
  have q1_ := hFx3_.1 2 cc_ 1 rfl
  have q2_ := hFx3_.1 2 cc_ 2 rfl
  have q3_ := hFx3_.1 2 cc_ 3 rfl
  have k2_ := (px4_).2
  refine sm_T_go 3 (c1 := (10, [some (.inr (.inr (some (9, 0)))), some (.inr (.inr (some (2, cc_)))), none, none, none, none, none, none], [.inl 0, .inr (.inr (some (34, (0 + cc_))))], Sx1_)) rfl ?_
  refine sm_T_cal (d1 := 0) (Q1 := vq_2c4 0 cc_ Sx1_) rfl rfl (by decide) (vc_2c4 0 cc_ Sx1_ hIx2_ (by decide)) (fun u_ Sx7_ px10_ => ?_)
  obtain ⟨rfl, hIx8_, hFx9_, px10_⟩ := px10_
  have hFx11_ : ai_fr (sx_W vw_169f) S0_ Sx7_ := ai_fr_tr hFx5_ (fr_le hFx9_ rfl)
  obtain ⟨dx13_, px10_⟩ := px10_
  have hCx12_ : cdf cc_ S0_ Sx7_ := cdf_tr hCx6_ (cdf_cg (by omega) dx13_)
  have e10 := px10_
  have f10_ := hFx9_
  have q1b := hFx9_.1 2 cc_ 1 rfl
  have q2b := hFx9_.1 2 cc_ 2 rfl
  refine sm_T_go 2 (c1 := (15, [some (.inr (.inr (some (9, 0)))), some (.inr (.inr (some (2, cc_)))), none, none, none, none, none, none], [.inr (.inr (some (2, cc_))), .inl 1], Sx7_)) rfl ?_
  refine sm_T_cal (d1 := 0) (Q1 := vq_54 cc_ Sx7_) rfl rfl (by decide) (vc_54 cc_ Sx7_ hIx8_ ) (fun u_ Sx14_ px17_ => ?_)
  obtain ⟨rfl, vx19_, rfl, px17_⟩ := px17_
  have g15_ := px17_
  have g15b : vx19_ = S0_.1 2 cc_ 1 + S0_.1 2 cc_ 2 := by omega
  refine sm_T_bin (w := (i_shl 1 vx19_)) rfl rfl ?_ -- pc_ 18
  have bx20_ := i_shl1 (e := vx19_) (by omega) (by omega)
  have p5_ := pw_le (n := (vx19_).toNat) (m := 12) (by omega)
  have p6_ := pw_pos (vx19_).toNat
  refine sm_T_go 3 (c1 := (22, [some (.inr (.inr (some (9, 0)))), some (.inr (.inr (some (2, cc_)))), some (.inl (i_shl 1 vx19_)), some (.inl 0), none, none, none, none], [], Sx7_)) rfl ?_
  refine (vl_169f cc_ S0_ hs_ hn_ _).1 (i_shl 1 vx19_) 0 Sx7_ hIx8_ hFx11_ ⟨?_, ?_, ?_, ?_, ?_, ?_, ?_, trivial⟩ (Nat.lt_succ_self _)
  · omega
  · (intro p9_ hp9_; rw [e10 p9_ hp9_]; exact ⟨Int.le_refl _, pw_pos _⟩)
  · (rw [← g15b]; first | assumption | omega)
  · exact tok_f9 k2_.2.2 f10_
  · exact ⟨(f10_.1 9 0 1 rfl).trans k2_.2.1, (f10_.2.1 9 0 0 rfl).trans k2_.1⟩
  · (intro q9_ hq9_; rw [e10 q9_ (by omega)]; rfl)
  · exact hCx12_
/-! ChipFlow.alter -/
def vw_234f : sx_Wl := ([(0, 16), (2, 15), (2, 19), (9, 1), (9, 2), (9, 3)], [34, 35, 92, 93, 94, 96], [(9, 0)])
def vq_234f (kk_ : Int) (g_ : Int) (cl_ : Int) (S0_ : sm_S) (u_ : Option sm_V) (S1_ : sm_S) : Prop := ∃ v_ : Int, u_ = some (.inl v_) ∧ gi S1_ ∧ ai_fr (sx_W vw_234f) S0_ S1_ ∧ (cdf kk_.toNat S0_ S1_ ∧ ((tsf kk_.toNat S1_ ∧ S1_.1 2 kk_.toNat 19 = S0_.1 2 kk_.toNat 19 + 1 ∧ tok9 kk_.toNat S1_ ∧ S1_.1 2 kk_.toNat 15 = -1) ∧ jC S1_ ∧ okc_alter kk_ g_ cl_ S0_ ∧ v_ = S0_.2.2.1 35 (0 + kk_.toNat) g_.toNat ∧ ∀ j_, S1_.2.2.1 35 (0 + kk_.toNat) j_ = if j_ = g_.toNat then cl_ else S0_.2.2.1 35 (0 + kk_.toNat) j_))
def vx_234f (kk_ : Int) (g_ : Int) (cl_ : Int) (S0_ : sm_S) (ex_ : Nat) (S1_ : sm_S) : Prop := gi S1_ ∧ ai_fr (sx_W vw_234f) S0_ S1_ ∧ (S1_ = S0_ ∧ ((ex_ = 0 ∧ ¬ oka_alter kk_ g_ cl_ S0_) ∨ (ex_ = 1 ∧ oka_alter kk_ g_ cl_ S0_ ∧ ¬ okc_alter kk_ g_ cl_ S0_)))
set_option maxHeartbeats 400000 in
theorem vc_234f {sc_ : Nat × (Nat → Int)} (kk_ : Int) (g_ : Int) (cl_ : Int) (S0_ : sm_S) (hI_ : gi S0_) (hJ_ : jC S0_) (hts_ : tsk kk_.toNat S0_) : sm_T (mt_P sc_) 5 234 (0, [some (.inr (.inr (some (12, 0)))), some (.inl kk_), some (.inl g_), some (.inl cl_), none, none], [], S0_) (fun ro9_ => (∃ u_ S1_, ro9_ = (.inl u_, S1_, 0) ∧ vq_234f kk_ g_ cl_ S0_ u_ S1_) ∨ ∃ ex_ S1_, ro9_ = (.inr ex_, S1_, 1) ∧ ex_ ∈ ([0, 1] : List Nat) ∧ vx_234f kk_ g_ cl_ S0_ ex_ S1_) := by
  have hF_ : ai_fr (sx_W vw_234f) S0_ S0_ := ai_fr_rf
  have hC_ : cdf kk_.toNat S0_ S0_ := cdf_rf
  have hts1_ := hts_.1
  refine sm_T_go 2 (c1 := (2, [some (.inr (.inr (some (12, 0)))), some (.inl kk_), some (.inl g_), some (.inl cl_), none, none], [.inl kk_, .inr (.inr (some (12, 0)))], S0_)) rfl ?_
  refine sm_T_cale (d1_ := 1) (Q1_ := vq_272t kk_ S0_) (Q2_ := (fun ex_ S1_ => ex_ ∈ ([0] : List Nat) ∧ vx_272t kk_ S0_ S1_)) rfl rfl (by decide) (vc_272t kk_ S0_ hI_ ) rfl (fun xx6_ Sx1_ px4_ => ?_) (fun u_ Sx1_ px4_ => ?_)
  · obtain ⟨px4m, hIx2_, hFx3_, px4_⟩ := px4_
    refine Or.inr ⟨_, _, rfl, by first | exact px4m | (simp only [List.mem_cons, List.not_mem_nil, or_false] at px4m ⊢; omega), hIx2_, ai_fr_tr hF_ (fr_le hFx3_ rfl), ?_⟩
    exact ⟨px4_.1, Or.inl ⟨List.mem_singleton.mp px4m, fun y9_ => px4_.2 y9_.1⟩⟩
  obtain ⟨rfl, -, -, rfl, px4_⟩ := px4_
  have a9_ := px4_
  have J9_ := hJ_.2.1 kk_.toNat (by omega) a9_.2
  have J1_ := J9_.1
  have q9_ := a9_.2
  have c8_ : 0 ≤ S0_.1 2 (kk_.toNat) 8 ∧ S0_.1 2 (kk_.toNat) 8 ≤ 150 := hI_.1 2 (kk_.toNat) 8 rfl
  have c1_ : 0 ≤ S0_.1 2 (kk_.toNat) 1 ∧ S0_.1 2 (kk_.toNat) 1 ≤ 12 := hI_.1 2 (kk_.toNat) 1 rfl
  have c2_ : 0 ≤ S0_.1 2 (kk_.toNat) 2 ∧ S0_.1 2 (kk_.toNat) 2 ≤ 6 := hI_.1 2 (kk_.toNat) 2 rfl
  refine sm_T_go 2 (c1 := (8, [some (.inr (.inr (some (12, 0)))), some (.inl kk_), some (.inl g_), some (.inl cl_), some (.inr (.inr (some (2, kk_.toNat)))), none], [.inl g_], S0_)) rfl ?_
  refine sm_T_b0 (a := 2) (z := 16) rfl (fun cx7_ => ?_) (fun cx7_ => ?_)
  · have cx7_ : g_ < 0 := of_decide_eq_true cx7_
    refine sm_T_go 1 (c1 := (25, [some (.inr (.inr (some (12, 0)))), some (.inl kk_), some (.inl g_), some (.inl cl_), some (.inr (.inr (some (2, kk_.toNat)))), none], [.inl 0], S0_)) rfl ?_
    refine sm_T_cale (d1_ := 0) (Q1_ := vq_265e 0 S0_) (Q2_ := (fun ex_ S1_ => ex_ ∈ ([0] : List Nat) ∧ vx_265e 0 S0_ S1_)) rfl rfl (by decide) (vc_265e 0 S0_ hI_ ) rfl (fun xx13_ Sx8_ px11_ => ?_) (fun u_ Sx8_ px11_ => ?_)
    · obtain ⟨px11m, hIx9_, hFx10_, px11_⟩ := px11_
      refine Or.inr ⟨_, _, rfl, by first | exact px11m | (simp only [List.mem_cons, List.not_mem_nil, or_false] at px11m ⊢; omega), hIx9_, ai_fr_tr hF_ (fr_le hFx10_ rfl), ?_⟩
      first | exact ⟨px11_.2, Or.inl ⟨List.mem_singleton.mp px11m, by (have y9_ := px11_.1; unfold oka_alter; omega)⟩⟩ | exact ⟨px11_.2, Or.inr ⟨List.mem_singleton.mp px11m, by (unfold oka_alter; omega), by (have y9_ := px11_.1; unfold okc_alter oka_alter; omega)⟩⟩
    · exact absurd rfl px11_.2.2.2.1
  · have cx7_ : ¬ (g_ < 0) := of_decide_eq_false cx7_
    have bx14_ : 0 ≤ S0_.1 2 kk_.toNat 8 ∧ S0_.1 2 kk_.toNat 8 ≤ 150 := hI_.1 2 kk_.toNat 8 rfl
    refine sm_T_go 3 (c1 := (17, [some (.inr (.inr (some (12, 0)))), some (.inl kk_), some (.inl g_), some (.inl cl_), some (.inr (.inr (some (2, kk_.toNat)))), none], [.inl (S0_.1 2 kk_.toNat 8), .inl g_], S0_)) rfl ?_
    refine sm_T_br (a := 3) (z := 7) rfl (fun cx15_ => ?_) (fun cx15_ => ?_)
    · have cx15_ : (S0_.1 2 kk_.toNat 8) ≤ g_ := of_decide_eq_true cx15_
      refine sm_T_go 1 (c1 := (25, [some (.inr (.inr (some (12, 0)))), some (.inl kk_), some (.inl g_), some (.inl cl_), some (.inr (.inr (some (2, kk_.toNat)))), none], [.inl 0], S0_)) rfl ?_
      refine sm_T_cale (d1_ := 0) (Q1_ := vq_265e 0 S0_) (Q2_ := (fun ex_ S1_ => ex_ ∈ ([0] : List Nat) ∧ vx_265e 0 S0_ S1_)) rfl rfl (by decide) (vc_265e 0 S0_ hI_ ) rfl (fun xx21_ Sx16_ px19_ => ?_) (fun u_ Sx16_ px19_ => ?_)
      · obtain ⟨px19m, hIx17_, hFx18_, px19_⟩ := px19_
        refine Or.inr ⟨_, _, rfl, by first | exact px19m | (simp only [List.mem_cons, List.not_mem_nil, or_false] at px19m ⊢; omega), hIx17_, ai_fr_tr hF_ (fr_le hFx18_ rfl), ?_⟩
        first | exact ⟨px19_.2, Or.inl ⟨List.mem_singleton.mp px19m, by (have y9_ := px19_.1; unfold oka_alter; omega)⟩⟩ | exact ⟨px19_.2, Or.inr ⟨List.mem_singleton.mp px19m, by (unfold oka_alter; omega), by (have y9_ := px19_.1; unfold okc_alter oka_alter; omega)⟩⟩
      · exact absurd rfl px19_.2.2.2.1
    · have cx15_ : ¬ ((S0_.1 2 kk_.toNat 8) ≤ g_) := of_decide_eq_false cx15_
      refine sm_T_go 2 (c1 := (25, [some (.inr (.inr (some (12, 0)))), some (.inl kk_), some (.inl g_), some (.inl cl_), some (.inr (.inr (some (2, kk_.toNat)))), none], [.inl 1], S0_)) rfl ?_
      refine sm_T_cale (d1_ := 0) (Q1_ := vq_265e 1 S0_) (Q2_ := (fun ex_ S1_ => ex_ ∈ ([0] : List Nat) ∧ vx_265e 1 S0_ S1_)) rfl rfl (by decide) (vc_265e 1 S0_ hI_ ) rfl (fun xx27_ Sx22_ px25_ => ?_) (fun u_ Sx22_ px25_ => ?_)
      · exact absurd px25_.2.2.2.1 (by decide)
      obtain ⟨rfl, -, -, px25_, rfl⟩ := px25_
      refine sm_T_go 1 (c1 := (29, [some (.inr (.inr (some (12, 0)))), some (.inl kk_), some (.inl g_), some (.inl cl_), some (.inr (.inr (some (2, kk_.toNat)))), none], [.inl cl_], S0_)) rfl ?_
      refine sm_T_b0 (a := 2) (z := 19) rfl (fun cx28_ => ?_) (fun cx28_ => ?_)
      · have cx28_ : cl_ < 0 := of_decide_eq_true cx28_
        refine sm_T_go 1 (c1 := (49, [some (.inr (.inr (some (12, 0)))), some (.inl kk_), some (.inl g_), some (.inl cl_), some (.inr (.inr (some (2, kk_.toNat)))), none], [.inl 0], S0_)) rfl ?_
        refine sm_T_cale (d1_ := 0) (Q1_ := vq_265e 0 S0_) (Q2_ := (fun ex_ S1_ => ex_ ∈ ([0] : List Nat) ∧ vx_265e 0 S0_ S1_)) rfl rfl (by decide) (vc_265e 0 S0_ hI_ ) rfl (fun xx34_ Sx29_ px32_ => ?_) (fun u_ Sx29_ px32_ => ?_)
        · obtain ⟨px32m, hIx30_, hFx31_, px32_⟩ := px32_
          refine Or.inr ⟨_, _, rfl, by first | exact px32m | (simp only [List.mem_cons, List.not_mem_nil, or_false] at px32m ⊢; omega), hIx30_, ai_fr_tr hF_ (fr_le hFx31_ rfl), ?_⟩
          first | exact ⟨px32_.2, Or.inl ⟨List.mem_singleton.mp px32m, by (have y9_ := px32_.1; unfold oka_alter; omega)⟩⟩ | exact ⟨px32_.2, Or.inr ⟨List.mem_singleton.mp px32m, by (unfold oka_alter; omega), by (have y9_ := px32_.1; unfold okc_alter oka_alter; omega)⟩⟩
        · exact absurd rfl px32_.2.2.2.1
      · have cx28_ : ¬ (cl_ < 0) := of_decide_eq_false cx28_
        have bx35_ : 0 ≤ S0_.1 5 (3 + kk_.toNat) 1 ∧ S0_.1 5 (3 + kk_.toNat) 1 ≤ 12 := hI_.1 5 (3 + kk_.toNat) 1 rfl
        refine sm_T_go 4 (c1 := (41, [some (.inr (.inr (some (12, 0)))), some (.inl kk_), some (.inl g_), some (.inl cl_), some (.inr (.inr (some (2, kk_.toNat)))), none], [.inl (S0_.1 5 (3 + kk_.toNat) 1), .inl cl_], S0_)) rfl ?_
        refine sm_T_br (a := 3) (z := 7) rfl (fun cx36_ => ?_) (fun cx36_ => ?_)
        · have cx36_ : (S0_.1 5 (3 + kk_.toNat) 1) ≤ cl_ := of_decide_eq_true cx36_
          refine sm_T_go 1 (c1 := (49, [some (.inr (.inr (some (12, 0)))), some (.inl kk_), some (.inl g_), some (.inl cl_), some (.inr (.inr (some (2, kk_.toNat)))), none], [.inl 0], S0_)) rfl ?_
          refine sm_T_cale (d1_ := 0) (Q1_ := vq_265e 0 S0_) (Q2_ := (fun ex_ S1_ => ex_ ∈ ([0] : List Nat) ∧ vx_265e 0 S0_ S1_)) rfl rfl (by decide) (vc_265e 0 S0_ hI_ ) rfl (fun xx42_ Sx37_ px40_ => ?_) (fun u_ Sx37_ px40_ => ?_)
          · obtain ⟨px40m, hIx38_, hFx39_, px40_⟩ := px40_
            refine Or.inr ⟨_, _, rfl, by first | exact px40m | (simp only [List.mem_cons, List.not_mem_nil, or_false] at px40m ⊢; omega), hIx38_, ai_fr_tr hF_ (fr_le hFx39_ rfl), ?_⟩
            first | exact ⟨px40_.2, Or.inl ⟨List.mem_singleton.mp px40m, by (have y9_ := px40_.1; unfold oka_alter; omega)⟩⟩ | exact ⟨px40_.2, Or.inr ⟨List.mem_singleton.mp px40m, by (unfold oka_alter; omega), by (have y9_ := px40_.1; unfold okc_alter oka_alter; omega)⟩⟩
          · exact absurd rfl px40_.2.2.2.1
        · have cx36_ : ¬ ((S0_.1 5 (3 + kk_.toNat) 1) ≤ cl_) := of_decide_eq_false cx36_
          refine sm_T_go 2 (c1 := (49, [some (.inr (.inr (some (12, 0)))), some (.inl kk_), some (.inl g_), some (.inl cl_), some (.inr (.inr (some (2, kk_.toNat)))), none], [.inl 1], S0_)) rfl ?_
          refine sm_T_cale (d1_ := 0) (Q1_ := vq_265e 1 S0_) (Q2_ := (fun ex_ S1_ => ex_ ∈ ([0] : List Nat) ∧ vx_265e 1 S0_ S1_)) rfl rfl (by decide) (vc_265e 1 S0_ hI_ ) rfl (fun xx48_ Sx43_ px46_ => ?_) (fun u_ Sx43_ px46_ => ?_)
          · exact absurd px46_.2.2.2.1 (by decide)
          obtain ⟨rfl, -, -, px46_, rfl⟩ := px46_
          refine sm_T_go 4 (c1 := (61, [some (.inr (.inr (some (12, 0)))), some (.inl kk_), some (.inl g_), some (.inl cl_), some (.inr (.inr (some (2, kk_.toNat)))), none], [.inl cl_, .inr (.inr (some (55, (0 + (3 + kk_.toNat)))))], S0_)) rfl ?_
          refine sm_T_iald (n := 12) rfl rfl (by omega) (by omega) ?_
          have bx49_ : 0 ≤ S0_.2.2.1 55 (0 + (3 + kk_.toNat)) cl_.toNat ∧ S0_.2.2.1 55 (0 + (3 + kk_.toNat)) cl_.toNat ≤ 3 := hI_.2 55 (0 + (3 + kk_.toNat)) _
          refine sm_T_go 2 (c1 := (65, [some (.inr (.inr (some (12, 0)))), some (.inl kk_), some (.inl g_), some (.inl cl_), some (.inr (.inr (some (2, kk_.toNat)))), none], [.inl g_, .inr (.inr (some (2, kk_.toNat))), .inl (S0_.2.2.1 55 (0 + (3 + kk_.toNat)) cl_.toNat)], S0_)) rfl ?_
          refine sm_T_cal (d1 := 0) (Q1 := vq_59n g_ kk_.toNat S0_) rfl rfl (by decide) (vc_59n g_ kk_.toNat S0_ hI_ (by omega)) (fun u_ Sx50_ px53_ => ?_)
          obtain ⟨rfl, vx55_, rfl, px53_⟩ := px53_
          have g65_ := px53_
          refine sm_T_br (a := 1) (z := 7) rfl (fun cx56_ => ?_) (fun cx56_ => ?_)
          · have cx56_ : (S0_.2.2.1 55 (0 + (3 + kk_.toNat)) cl_.toNat) ≠ vx55_ := of_decide_eq_true cx56_
            refine sm_T_go 1 (c1 := (76, [some (.inr (.inr (some (12, 0)))), some (.inl kk_), some (.inl g_), some (.inl cl_), some (.inr (.inr (some (2, kk_.toNat)))), none], [.inl 0], S0_)) rfl ?_
            refine sm_T_cale (d1_ := 0) (Q1_ := vq_266e 0 S0_) (Q2_ := (fun ex_ S1_ => ex_ ∈ ([1] : List Nat) ∧ vx_266e 0 S0_ S1_)) rfl rfl (by decide) (vc_266e 0 S0_ hI_ ) rfl (fun xx62_ Sx57_ px60_ => ?_) (fun u_ Sx57_ px60_ => ?_)
            · obtain ⟨px60m, hIx58_, hFx59_, px60_⟩ := px60_
              refine Or.inr ⟨_, _, rfl, by first | exact px60m | (simp only [List.mem_cons, List.not_mem_nil, or_false] at px60m ⊢; omega), hIx58_, ai_fr_tr hF_ (fr_le hFx59_ rfl), ?_⟩
              first | exact ⟨px60_.2, Or.inl ⟨List.mem_singleton.mp px60m, by (have y9_ := px60_.1; unfold oka_alter; omega)⟩⟩ | exact ⟨px60_.2, Or.inr ⟨List.mem_singleton.mp px60m, by (unfold oka_alter; omega), by (have y9_ := px60_.1; unfold okc_alter oka_alter; omega)⟩⟩
            · exact absurd rfl px60_.2.2.2.1
          · have cx56_ : ¬ ((S0_.2.2.1 55 (0 + (3 + kk_.toNat)) cl_.toNat) ≠ vx55_) := of_decide_eq_false cx56_
            refine sm_T_go 2 (c1 := (76, [some (.inr (.inr (some (12, 0)))), some (.inl kk_), some (.inl g_), some (.inl cl_), some (.inr (.inr (some (2, kk_.toNat)))), none], [.inl 1], S0_)) rfl ?_
            refine sm_T_cale (d1_ := 0) (Q1_ := vq_266e 1 S0_) (Q2_ := (fun ex_ S1_ => ex_ ∈ ([1] : List Nat) ∧ vx_266e 1 S0_ S1_)) rfl rfl (by decide) (vc_266e 1 S0_ hI_ ) rfl (fun xx68_ Sx63_ px66_ => ?_) (fun u_ Sx63_ px66_ => ?_)
            · exact absurd px66_.2.2.2.1 (by decide)
            obtain ⟨rfl, -, -, px66_, rfl⟩ := px66_
            refine sm_T_go 3 (c1 := (85, [some (.inr (.inr (some (12, 0)))), some (.inl kk_), some (.inl g_), some (.inl cl_), some (.inr (.inr (some (2, kk_.toNat)))), none], [.inl g_, .inr (.inr (some (35, (0 + kk_.toNat))))], S0_)) rfl ?_
            refine sm_T_iald (n := 150) rfl rfl (by omega) (by omega) ?_
            have bx69_ : 0 ≤ S0_.2.2.1 35 (0 + kk_.toNat) g_.toNat ∧ S0_.2.2.1 35 (0 + kk_.toNat) g_.toNat ≤ 11 := hI_.2 35 (0 + kk_.toNat) _
            refine sm_T_go 5 (c1 := (95, [some (.inr (.inr (some (12, 0)))), some (.inl kk_), some (.inl g_), some (.inl cl_), some (.inr (.inr (some (2, kk_.toNat)))), some (.inl (S0_.2.2.1 35 (0 + kk_.toNat) g_.toNat))], [.inl cl_, .inl g_, .inr (.inr (some (35, (0 + kk_.toNat))))], S0_)) rfl ?_
            refine sm_T_iast (n := 150) rfl rfl (by omega) (by omega) ?_
            have hIx70_ : gi (sm_aI S0_ 35 (0 + kk_.toNat) g_.toNat cl_) := gi_aI hI_ (show 0 ≤ cl_ ∧ cl_ ≤ 11 from ⟨by omega, by omega⟩)
            have hFx71_ : ai_fr (sx_W vw_234f) S0_ (sm_aI S0_ 35 (0 + kk_.toNat) g_.toNat cl_) := ai_fr_tr hF_ (ai_fr_aI rfl)
            have hCx72_ : cdf kk_.toNat S0_ (sm_aI S0_ 35 (0 + kk_.toNat) g_.toNat cl_) := cdf_aI hC_ (Or.inr (by rw [show cof 35 = 0 from rfl] <;> omega))
            have hIx73_ : gi (sm_pI (sm_aI S0_ 35 (0 + kk_.toNat) g_.toNat cl_) 2 kk_.toNat 15 (-1)) := gi_pI hIx70_ (show (-1) ≤ (-1) ∧ (-1) ≤ 1224 from ⟨by omega, by omega⟩)
            have hFx74_ : ai_fr (sx_W vw_234f) S0_ (sm_pI (sm_aI S0_ 35 (0 + kk_.toNat) g_.toNat cl_) 2 kk_.toNat 15 (-1)) := ai_fr_tr hFx71_ (ai_fr_pI rfl)
            have hCx75_ : cdf kk_.toNat S0_ (sm_pI (sm_aI S0_ 35 (0 + kk_.toNat) g_.toNat cl_) 2 kk_.toNat 15 (-1)) := cdf_pI hCx72_ (Or.inr (by rw [show cof 2 = 0 from rfl] <;> omega))
            have bx76_ : (-2147483648) ≤ S0_.1 2 kk_.toNat 19 ∧ S0_.1 2 kk_.toNat 19 ≤ 2147483647 := hI_.1 2 kk_.toNat 19 rfl
            have ex77_ : (sm_pI (sm_aI S0_ 35 (0 + kk_.toNat) g_.toNat cl_) 2 kk_.toNat 15 (-1)).1 2 kk_.toNat 19 = (S0_.1 2 kk_.toNat 19) := by (try simp only [rf_eq, rf_nk, rf_nt, rd_fa, rd_af, ne_eq, Nat.reduceEqDiff, not_false_eq_true])
            refine sm_T_go 7 (c1 := (109, [some (.inr (.inr (some (12, 0)))), some (.inl kk_), some (.inl g_), some (.inl cl_), some (.inr (.inr (some (2, kk_.toNat)))), some (.inl (S0_.2.2.1 35 (0 + kk_.toNat) g_.toNat))], [.inl 1, .inl ((sm_pI (sm_aI S0_ 35 (0 + kk_.toNat) g_.toNat cl_) 2 kk_.toNat 15 (-1)).1 2 kk_.toNat 19), .inr (.inr (some (2, kk_.toNat)))], sm_pI (sm_aI S0_ 35 (0 + kk_.toNat) g_.toNat cl_) 2 kk_.toNat 15 (-1))) rfl ?_
            refine sm_T_bin (w := ((sm_pI (sm_aI S0_ 35 (0 + kk_.toNat) g_.toNat cl_) 2 kk_.toNat 15 (-1)).1 2 kk_.toNat 19) + 1) rfl (bi_add (by omega) (by omega) (by omega)) ?_ -- pc_ 109
            have hIx78_ : gi (sm_pI (sm_pI (sm_aI S0_ 35 (0 + kk_.toNat) g_.toNat cl_) 2 kk_.toNat 15 (-1)) 2 kk_.toNat 19 (((sm_pI (sm_aI S0_ 35 (0 + kk_.toNat) g_.toNat cl_) 2 kk_.toNat 15 (-1)).1 2 kk_.toNat 19) + 1)) := gi_pI hIx73_ (show (-2147483648) ≤ ((sm_pI (sm_aI S0_ 35 (0 + kk_.toNat) g_.toNat cl_) 2 kk_.toNat 15 (-1)).1 2 kk_.toNat 19) + 1 ∧ ((sm_pI (sm_aI S0_ 35 (0 + kk_.toNat) g_.toNat cl_) 2 kk_.toNat 15 (-1)).1 2 kk_.toNat 19) + 1 ≤ 2147483647 from ⟨by omega, by omega⟩)
            have hFx79_ : ai_fr (sx_W vw_234f) S0_ (sm_pI (sm_pI (sm_aI S0_ 35 (0 + kk_.toNat) g_.toNat cl_) 2 kk_.toNat 15 (-1)) 2 kk_.toNat 19 (((sm_pI (sm_aI S0_ 35 (0 + kk_.toNat) g_.toNat cl_) 2 kk_.toNat 15 (-1)).1 2 kk_.toNat 19) + 1)) := ai_fr_tr hFx74_ (ai_fr_pI rfl)
            have hCx80_ : cdf kk_.toNat S0_ (sm_pI (sm_pI (sm_aI S0_ 35 (0 + kk_.toNat) g_.toNat cl_) 2 kk_.toNat 15 (-1)) 2 kk_.toNat 19 (((sm_pI (sm_aI S0_ 35 (0 + kk_.toNat) g_.toNat cl_) 2 kk_.toNat 15 (-1)).1 2 kk_.toNat 19) + 1)) := cdf_pI hCx75_ (Or.inr (by rw [show cof 2 = 0 from rfl] <;> omega))
            have bx81_ : (-2147483648) ≤ S0_.1 0 (0 + kk_.toNat) 16 ∧ S0_.1 0 (0 + kk_.toNat) 16 ≤ 2147483647 := hI_.1 0 (0 + kk_.toNat) 16 rfl
            refine sm_T_go 6 (c1 := (123, [some (.inr (.inr (some (12, 0)))), some (.inl kk_), some (.inl g_), some (.inl cl_), some (.inr (.inr (some (2, kk_.toNat)))), some (.inl (S0_.2.2.1 35 (0 + kk_.toNat) g_.toNat))], [.inl 1, .inl (S0_.1 0 (0 + kk_.toNat) 16), .inr (.inr (some (0, (0 + kk_.toNat))))], sm_pI (sm_pI (sm_aI S0_ 35 (0 + kk_.toNat) g_.toNat cl_) 2 kk_.toNat 15 (-1)) 2 kk_.toNat 19 (((sm_pI (sm_aI S0_ 35 (0 + kk_.toNat) g_.toNat cl_) 2 kk_.toNat 15 (-1)).1 2 kk_.toNat 19) + 1))) rfl ?_
            refine sm_T_bin (w := (i_add (S0_.1 0 (0 + kk_.toNat) 16) 1)) rfl rfl ?_ -- pc_ 123
            have bx82_ := i_add_r (S0_.1 0 (0 + kk_.toNat) 16) 1
            have hIx83_ : gi (sm_pI (sm_pI (sm_pI (sm_aI S0_ 35 (0 + kk_.toNat) g_.toNat cl_) 2 kk_.toNat 15 (-1)) 2 kk_.toNat 19 (((sm_pI (sm_aI S0_ 35 (0 + kk_.toNat) g_.toNat cl_) 2 kk_.toNat 15 (-1)).1 2 kk_.toNat 19) + 1)) 0 (0 + kk_.toNat) 16 (i_add (S0_.1 0 (0 + kk_.toNat) 16) 1)) := gi_pI hIx78_ (show (-2147483648) ≤ (i_add (S0_.1 0 (0 + kk_.toNat) 16) 1) ∧ (i_add (S0_.1 0 (0 + kk_.toNat) 16) 1) ≤ 2147483647 from ⟨by omega, by omega⟩)
            have hFx84_ : ai_fr (sx_W vw_234f) S0_ (sm_pI (sm_pI (sm_pI (sm_aI S0_ 35 (0 + kk_.toNat) g_.toNat cl_) 2 kk_.toNat 15 (-1)) 2 kk_.toNat 19 (((sm_pI (sm_aI S0_ 35 (0 + kk_.toNat) g_.toNat cl_) 2 kk_.toNat 15 (-1)).1 2 kk_.toNat 19) + 1)) 0 (0 + kk_.toNat) 16 (i_add (S0_.1 0 (0 + kk_.toNat) 16) 1)) := ai_fr_tr hFx79_ (ai_fr_pI rfl)
            have hCx85_ : cdf kk_.toNat S0_ (sm_pI (sm_pI (sm_pI (sm_aI S0_ 35 (0 + kk_.toNat) g_.toNat cl_) 2 kk_.toNat 15 (-1)) 2 kk_.toNat 19 (((sm_pI (sm_aI S0_ 35 (0 + kk_.toNat) g_.toNat cl_) 2 kk_.toNat 15 (-1)).1 2 kk_.toNat 19) + 1)) 0 (0 + kk_.toNat) 16 (i_add (S0_.1 0 (0 + kk_.toNat) 16) 1)) := cdf_pI hCx80_ (Or.inr (by rw [show cof 0 = 0 from rfl] <;> omega))
            refine sm_T_go 4 (c1 := (133, [some (.inr (.inr (some (12, 0)))), some (.inl kk_), some (.inl g_), some (.inl cl_), some (.inr (.inr (some (2, kk_.toNat)))), some (.inl (S0_.2.2.1 35 (0 + kk_.toNat) g_.toNat))], [.inr (.inr (some (2, kk_.toNat))), .inr (.inr (some (9, 0)))], sm_pI (sm_pI (sm_pI (sm_aI S0_ 35 (0 + kk_.toNat) g_.toNat cl_) 2 kk_.toNat 15 (-1)) 2 kk_.toNat 19 (((sm_pI (sm_aI S0_ 35 (0 + kk_.toNat) g_.toNat cl_) 2 kk_.toNat 15 (-1)).1 2 kk_.toNat 19) + 1)) 0 (0 + kk_.toNat) 16 (i_add (S0_.1 0 (0 + kk_.toNat) 16) 1))) rfl ?_
            refine sm_T_cal (d1 := 4) (Q1 := vq_169f kk_.toNat (sm_pI (sm_pI (sm_pI (sm_aI S0_ 35 (0 + kk_.toNat) g_.toNat cl_) 2 kk_.toNat 15 (-1)) 2 kk_.toNat 19 (((sm_pI (sm_aI S0_ 35 (0 + kk_.toNat) g_.toNat cl_) 2 kk_.toNat 15 (-1)).1 2 kk_.toNat 19) + 1)) 0 (0 + kk_.toNat) 16 (i_add (S0_.1 0 (0 + kk_.toNat) 16) 1))) rfl rfl (by decide) (vc_169f kk_.toNat (sm_pI (sm_pI (sm_pI (sm_aI S0_ 35 (0 + kk_.toNat) g_.toNat cl_) 2 kk_.toNat 15 (-1)) 2 kk_.toNat 19 (((sm_pI (sm_aI S0_ 35 (0 + kk_.toNat) g_.toNat cl_) 2 kk_.toNat 15 (-1)).1 2 kk_.toNat 19) + 1)) 0 (0 + kk_.toNat) 16 (i_add (S0_.1 0 (0 + kk_.toNat) 16) 1)) hIx83_ (by (simp only [rf_nk, rf_nt, rd_af, ne_eq, Nat.reduceEqDiff, not_false_eq_true]; omega)) (by (intro z9_; have y9_ := hts_.2 z9_; simp only [rf_eq, rf_nk, rf_nt, rd_af, rd_fa, ne_eq, Nat.reduceEqDiff, not_false_eq_true]; omega))) (fun u_ Sx86_ px89_ => ?_)
            obtain ⟨rfl, hIx87_, hFx88_, px89_⟩ := px89_
            have hFx90_ : ai_fr (sx_W vw_234f) S0_ Sx86_ := ai_fr_tr hFx84_ (fr_le hFx88_ rfl)
            obtain ⟨dx92_, px89_⟩ := px89_
            have hCx91_ : cdf kk_.toNat S0_ Sx86_ := cdf_tr hCx85_ (cdf_cg (by omega) dx92_)
            have p133_ := (px89_).1
            have t133_ := (px89_).2
            have l133_ : Sx86_.1 2 kk_.toNat 19 = ((sm_pI (sm_pI (sm_pI (sm_aI S0_ 35 (0 + kk_.toNat) g_.toNat cl_) 2 kk_.toNat 15 (-1)) 2 kk_.toNat 19 (((sm_pI (sm_aI S0_ 35 (0 + kk_.toNat) g_.toNat cl_) 2 kk_.toNat 15 (-1)).1 2 kk_.toNat 19) + 1)) 0 (0 + kk_.toNat) 16 (i_add (S0_.1 0 (0 + kk_.toNat) 16) 1))).1 2 kk_.toNat 19 := hFx88_.1 2 kk_.toNat 19 rfl
            have n133_ : Sx86_.1 2 kk_.toNat 15 = ((sm_pI (sm_pI (sm_pI (sm_aI S0_ 35 (0 + kk_.toNat) g_.toNat cl_) 2 kk_.toNat 15 (-1)) 2 kk_.toNat 19 (((sm_pI (sm_aI S0_ 35 (0 + kk_.toNat) g_.toNat cl_) 2 kk_.toNat 15 (-1)).1 2 kk_.toNat 19) + 1)) 0 (0 + kk_.toNat) 16 (i_add (S0_.1 0 (0 + kk_.toNat) 16) 1))).1 2 kk_.toNat 15 := hFx88_.1 2 kk_.toNat 15 rfl
            have o133_ : ((sm_pI (sm_pI (sm_pI (sm_aI S0_ 35 (0 + kk_.toNat) g_.toNat cl_) 2 kk_.toNat 15 (-1)) 2 kk_.toNat 19 (((sm_pI (sm_aI S0_ 35 (0 + kk_.toNat) g_.toNat cl_) 2 kk_.toNat 15 (-1)).1 2 kk_.toNat 19) + 1)) 0 (0 + kk_.toNat) 16 (i_add (S0_.1 0 (0 + kk_.toNat) 16) 1))).1 2 kk_.toNat 15 = -1 := by (simp only [rf_eq, rf_nk, rf_nt, rd_af, rd_fa, ne_eq, Nat.reduceEqDiff, not_false_eq_true]; try rfl)
            have m133_ : ((sm_pI (sm_pI (sm_pI (sm_aI S0_ 35 (0 + kk_.toNat) g_.toNat cl_) 2 kk_.toNat 15 (-1)) 2 kk_.toNat 19 (((sm_pI (sm_aI S0_ 35 (0 + kk_.toNat) g_.toNat cl_) 2 kk_.toNat 15 (-1)).1 2 kk_.toNat 19) + 1)) 0 (0 + kk_.toNat) 16 (i_add (S0_.1 0 (0 + kk_.toNat) 16) 1))).1 2 kk_.toNat 19 = S0_.1 2 kk_.toNat 19 + 1 := by (simp only [rf_eq, rf_nk, rf_nt, rd_af, rd_fa, ne_eq, Nat.reduceEqDiff, not_false_eq_true]; try rfl)
            have r133_ : Sx86_.2.2.1 35 (0 + kk_.toNat) = ((sm_pI (sm_pI (sm_pI (sm_aI S0_ 35 (0 + kk_.toNat) g_.toNat cl_) 2 kk_.toNat 15 (-1)) 2 kk_.toNat 19 (((sm_pI (sm_aI S0_ 35 (0 + kk_.toNat) g_.toNat cl_) 2 kk_.toNat 15 (-1)).1 2 kk_.toNat 19) + 1)) 0 (0 + kk_.toNat) 16 (i_add (S0_.1 0 (0 + kk_.toNat) 16) 1))).2.2.1 35 (0 + kk_.toNat) := fr_arr (t := 35) (i := 0 + kk_.toNat) hFx88_ rfl
            refine sm_T_go 1 (c1 := (138, [some (.inr (.inr (some (12, 0)))), some (.inl kk_), some (.inl g_), some (.inl cl_), some (.inr (.inr (some (2, kk_.toNat)))), some (.inl (S0_.2.2.1 35 (0 + kk_.toNat) g_.toNat))], [.inl (S0_.2.2.1 35 (0 + kk_.toNat) g_.toNat)], Sx86_)) rfl ?_
            refine sm_T_ri rfl (Or.inl ⟨_, _, rfl, _, rfl, hIx87_, hFx90_, ?_⟩)
            refine ⟨hCx91_, ?_⟩
            refine ⟨⟨⟨t133_.2.2, t133_.1.2, t133_.1.1.trans l133_.symm⟩, l133_.trans m133_, t133_.2.1, n133_.trans o133_⟩, ?_, by (unfold okc_alter oka_alter; omega), rfl, fun j_ => by (rw [r133_]; (try simp only [rd_eq, rd_ne, rf_eq, rf_nk, rf_nt, rd_fa, rd_af, ne_eq, Nat.reduceEqDiff, not_false_eq_true]); try rfl)⟩; exact ⟨dAll_fr hJ_.1 hFx90_ (by decide) (by decide), cAll_cd hJ_.2.1 hCx91_ (fun _ => cOk_tb J9_ hFx90_ (by decide) (by decide) (by decide) p133_), tpo_fr hJ_.2.2.1 hFx90_, shn_fr hJ_.2.2.2 hFx90_⟩
/-! Chip.start -/
def vw_53f : sx_Wl := ([(2, 1), (2, 2), (2, 3), (2, 4), (2, 5), (2, 8), (2, 14), (2, 15), (2, 19), (5, 1), (5, 2)], [39, 55, 56, 57, 58], [])
def vq_53f (ii_ : Nat) (dd_ : Nat) (ll_ : Nat) (S0_ : sm_S) (u_ : Option sm_V) (S1_ : sm_S) : Prop := u_ = none ∧ gi S1_ ∧ ai_fr (sx_W vw_53f) S0_ S1_ ∧ (cdf ii_ S0_ S1_ ∧ ((S1_.1 2 ii_ 1 = S0_.1 3 dd_ 1 ∧ S1_.1 2 ii_ 2 = S0_.1 3 dd_ 2 ∧ S1_.1 2 ii_ 3 = S0_.1 3 dd_ 3 ∧ S1_.1 2 ii_ 4 = S0_.1 3 dd_ 5 ∧ S1_.1 2 ii_ 5 = S0_.1 3 dd_ 5 ∧ S1_.1 2 ii_ 8 = 0) ∧ clc ii_ ll_ S0_ S1_ ∧ S1_.1 2 ii_ 19 = S0_.1 2 ii_ 19 + 1 ∧ S1_.1 2 ii_ 15 = -1))
set_option maxHeartbeats 400000 in
theorem vc_53f {sc_ : Nat × (Nat → Int)} (ii_ : Nat) (dd_ : Nat) (ll_ : Nat) (S0_ : sm_S) (hI_ : gi S0_) (hd_ : dOk dd_ S0_) (hls_ : 0 ≤ S0_.1 2 ii_ 19 ∧ S0_.1 2 ii_ 19 ≤ 1000000) : sm_T (mt_P sc_) 1 53 (0, [some (.inr (.inr (some (2, ii_)))), some (.inr (.inr (some (3, dd_)))), some (.inr (.inr (some (5, ll_))))], [], S0_) (fun ro9_ => ∃ u_ S1_, ro9_ = (.inl u_, S1_, 0) ∧ vq_53f ii_ dd_ ll_ S0_ u_ S1_) := by
  have hF_ : ai_fr (sx_W vw_53f) S0_ S0_ := ai_fr_rf
  have hC_ : cdf ii_ S0_ S0_ := cdf_rf
  have J9_ := dOk_b hd_
  have J9a := J9_.1
  have J9b := J9_.2.1
  have J9c := J9_.2.2.1
  have pw9_ := pw_le (n := (S0_.1 3 dd_ 2).toNat) (m := 6) (by omega)
  have bx1_ : 0 ≤ S0_.1 3 dd_ 1 ∧ S0_.1 3 dd_ 1 ≤ 320 := hI_.1 3 dd_ 1 rfl
  have hIx2_ : gi (sm_pI S0_ 2 ii_ 1 (S0_.1 3 dd_ 1)) := gi_pI hI_ (show 0 ≤ (S0_.1 3 dd_ 1) ∧ (S0_.1 3 dd_ 1) ≤ 12 from ⟨by omega, by omega⟩)
  have hFx3_ : ai_fr (sx_W vw_53f) S0_ (sm_pI S0_ 2 ii_ 1 (S0_.1 3 dd_ 1)) := ai_fr_tr hF_ (ai_fr_pI rfl)
  have hCx4_ : cdf ii_ S0_ (sm_pI S0_ 2 ii_ 1 (S0_.1 3 dd_ 1)) := cdf_pI hC_ (Or.inr (by rw [show cof 2 = 0 from rfl] <;> omega))
  have bx5_ : 0 ≤ S0_.1 3 dd_ 2 ∧ S0_.1 3 dd_ 2 ≤ 100000 := hI_.1 3 dd_ 2 rfl
  have hIx6_ : gi (sm_pI (sm_pI S0_ 2 ii_ 1 (S0_.1 3 dd_ 1)) 2 ii_ 2 (S0_.1 3 dd_ 2)) := gi_pI hIx2_ (show 0 ≤ (S0_.1 3 dd_ 2) ∧ (S0_.1 3 dd_ 2) ≤ 6 from ⟨by omega, by omega⟩)
  have hFx7_ : ai_fr (sx_W vw_53f) S0_ (sm_pI (sm_pI S0_ 2 ii_ 1 (S0_.1 3 dd_ 1)) 2 ii_ 2 (S0_.1 3 dd_ 2)) := ai_fr_tr hFx3_ (ai_fr_pI rfl)
  have hCx8_ : cdf ii_ S0_ (sm_pI (sm_pI S0_ 2 ii_ 1 (S0_.1 3 dd_ 1)) 2 ii_ 2 (S0_.1 3 dd_ 2)) := cdf_pI hCx4_ (Or.inr (by rw [show cof 2 = 0 from rfl] <;> omega))
  have bx9_ : 0 ≤ S0_.1 3 dd_ 3 ∧ S0_.1 3 dd_ 3 ≤ 320 := hI_.1 3 dd_ 3 rfl
  have hIx10_ : gi (sm_pI (sm_pI (sm_pI S0_ 2 ii_ 1 (S0_.1 3 dd_ 1)) 2 ii_ 2 (S0_.1 3 dd_ 2)) 2 ii_ 3 (S0_.1 3 dd_ 3)) := gi_pI hIx6_ (show 0 ≤ (S0_.1 3 dd_ 3) ∧ (S0_.1 3 dd_ 3) ≤ 16 from ⟨by omega, by omega⟩)
  have hFx11_ : ai_fr (sx_W vw_53f) S0_ (sm_pI (sm_pI (sm_pI S0_ 2 ii_ 1 (S0_.1 3 dd_ 1)) 2 ii_ 2 (S0_.1 3 dd_ 2)) 2 ii_ 3 (S0_.1 3 dd_ 3)) := ai_fr_tr hFx7_ (ai_fr_pI rfl)
  have hCx12_ : cdf ii_ S0_ (sm_pI (sm_pI (sm_pI S0_ 2 ii_ 1 (S0_.1 3 dd_ 1)) 2 ii_ 2 (S0_.1 3 dd_ 2)) 2 ii_ 3 (S0_.1 3 dd_ 3)) := cdf_pI hCx8_ (Or.inr (by rw [show cof 2 = 0 from rfl] <;> omega))
  have bx13_ : 0 ≤ S0_.1 3 dd_ 5 ∧ S0_.1 3 dd_ 5 ≤ 63 := hI_.1 3 dd_ 5 rfl
  have hIx14_ : gi (sm_pI (sm_pI (sm_pI (sm_pI S0_ 2 ii_ 1 (S0_.1 3 dd_ 1)) 2 ii_ 2 (S0_.1 3 dd_ 2)) 2 ii_ 3 (S0_.1 3 dd_ 3)) 2 ii_ 4 (S0_.1 3 dd_ 5)) := gi_pI hIx10_ (show 0 ≤ (S0_.1 3 dd_ 5) ∧ (S0_.1 3 dd_ 5) ≤ 63 from ⟨by omega, by omega⟩)
  have hFx15_ : ai_fr (sx_W vw_53f) S0_ (sm_pI (sm_pI (sm_pI (sm_pI S0_ 2 ii_ 1 (S0_.1 3 dd_ 1)) 2 ii_ 2 (S0_.1 3 dd_ 2)) 2 ii_ 3 (S0_.1 3 dd_ 3)) 2 ii_ 4 (S0_.1 3 dd_ 5)) := ai_fr_tr hFx11_ (ai_fr_pI rfl)
  have hCx16_ : cdf ii_ S0_ (sm_pI (sm_pI (sm_pI (sm_pI S0_ 2 ii_ 1 (S0_.1 3 dd_ 1)) 2 ii_ 2 (S0_.1 3 dd_ 2)) 2 ii_ 3 (S0_.1 3 dd_ 3)) 2 ii_ 4 (S0_.1 3 dd_ 5)) := cdf_pI hCx12_ (Or.inr (by rw [show cof 2 = 0 from rfl] <;> omega))
  have hIx17_ : gi (sm_pI (sm_pI (sm_pI (sm_pI (sm_pI S0_ 2 ii_ 1 (S0_.1 3 dd_ 1)) 2 ii_ 2 (S0_.1 3 dd_ 2)) 2 ii_ 3 (S0_.1 3 dd_ 3)) 2 ii_ 4 (S0_.1 3 dd_ 5)) 2 ii_ 5 (S0_.1 3 dd_ 5)) := gi_pI hIx14_ (show 0 ≤ (S0_.1 3 dd_ 5) ∧ (S0_.1 3 dd_ 5) ≤ 63 from ⟨by omega, by omega⟩)
  have hFx18_ : ai_fr (sx_W vw_53f) S0_ (sm_pI (sm_pI (sm_pI (sm_pI (sm_pI S0_ 2 ii_ 1 (S0_.1 3 dd_ 1)) 2 ii_ 2 (S0_.1 3 dd_ 2)) 2 ii_ 3 (S0_.1 3 dd_ 3)) 2 ii_ 4 (S0_.1 3 dd_ 5)) 2 ii_ 5 (S0_.1 3 dd_ 5)) := ai_fr_tr hFx15_ (ai_fr_pI rfl)
  have hCx19_ : cdf ii_ S0_ (sm_pI (sm_pI (sm_pI (sm_pI (sm_pI S0_ 2 ii_ 1 (S0_.1 3 dd_ 1)) 2 ii_ 2 (S0_.1 3 dd_ 2)) 2 ii_ 3 (S0_.1 3 dd_ 3)) 2 ii_ 4 (S0_.1 3 dd_ 5)) 2 ii_ 5 (S0_.1 3 dd_ 5)) := cdf_pI hCx16_ (Or.inr (by rw [show cof 2 = 0 from rfl] <;> omega))
  refine sm_T_go 23 (c1 := (45, [some (.inr (.inr (some (2, ii_)))), some (.inr (.inr (some (3, dd_)))), some (.inr (.inr (some (5, ll_))))], [.inr (.inr (some (5, ll_))), .inr (.inr (some (5, (3 + ii_))))], sm_pI (sm_pI (sm_pI (sm_pI (sm_pI S0_ 2 ii_ 1 (S0_.1 3 dd_ 1)) 2 ii_ 2 (S0_.1 3 dd_ 2)) 2 ii_ 3 (S0_.1 3 dd_ 3)) 2 ii_ 4 (S0_.1 3 dd_ 5)) 2 ii_ 5 (S0_.1 3 dd_ 5))) rfl ?_
  refine sm_T_cal (d1 := 0) (Q1 := vq_90n ii_ ll_ (sm_pI (sm_pI (sm_pI (sm_pI (sm_pI S0_ 2 ii_ 1 (S0_.1 3 dd_ 1)) 2 ii_ 2 (S0_.1 3 dd_ 2)) 2 ii_ 3 (S0_.1 3 dd_ 3)) 2 ii_ 4 (S0_.1 3 dd_ 5)) 2 ii_ 5 (S0_.1 3 dd_ 5))) rfl rfl (by decide) (vc_90n ii_ ll_ (sm_pI (sm_pI (sm_pI (sm_pI (sm_pI S0_ 2 ii_ 1 (S0_.1 3 dd_ 1)) 2 ii_ 2 (S0_.1 3 dd_ 2)) 2 ii_ 3 (S0_.1 3 dd_ 3)) 2 ii_ 4 (S0_.1 3 dd_ 5)) 2 ii_ 5 (S0_.1 3 dd_ 5)) hIx17_ ) (fun u_ Sx20_ px23_ => ?_)
  obtain ⟨rfl, hIx21_, hFx22_, px23_⟩ := px23_
  have hFx24_ : ai_fr (sx_W vw_53f) S0_ Sx20_ := ai_fr_tr hFx18_ (fr_le hFx22_ rfl)
  obtain ⟨dx26_, px23_⟩ := px23_
  have hCx25_ : cdf ii_ S0_ Sx20_ := cdf_tr hCx19_ (cdf_cg (by omega) dx26_)
  have u19_ := hFx22_.1 2 ii_ 19 rfl
  simp only [rf_eq, rf_nt, rf_nk, rd_fa, rd_af, ne_eq, Nat.reduceEqDiff, not_false_eq_true] at u19_
  have L45_ : clc ii_ ll_ S0_ Sx20_ := by (have z9_ := px23_; unfold clc at z9_ ⊢; (try simp only [rf_eq, rf_nt, rf_nk, rd_fa, rd_af, ne_eq, Nat.reduceEqDiff, not_false_eq_true] at z9_); exact z9_)
  have u1_ := hFx22_.1 2 ii_ 1 rfl
  have u2_ := hFx22_.1 2 ii_ 2 rfl
  have u3_ := hFx22_.1 2 ii_ 3 rfl
  have u4_ := hFx22_.1 2 ii_ 4 rfl
  have u5_ := hFx22_.1 2 ii_ 5 rfl
  simp only [rf_eq, rf_nt, rf_nk, rd_fa, rd_af, ne_eq, Nat.reduceEqDiff, not_false_eq_true] at u1_ u2_ u3_ u4_ u5_
  have hIx27_ : gi (sm_pI Sx20_ 2 ii_ 8 0) := gi_pI hIx21_ (show 0 ≤ 0 ∧ 0 ≤ 150 from ⟨by omega, by omega⟩)
  have hFx28_ : ai_fr (sx_W vw_53f) S0_ (sm_pI Sx20_ 2 ii_ 8 0) := ai_fr_tr hFx24_ (ai_fr_pI rfl)
  have hCx29_ : cdf ii_ S0_ (sm_pI Sx20_ 2 ii_ 8 0) := cdf_pI hCx25_ (Or.inr (by rw [show cof 2 = 0 from rfl] <;> omega))
  refine sm_T_go 6 (c1 := (58, [some (.inr (.inr (some (2, ii_)))), some (.inr (.inr (some (3, dd_)))), some (.inr (.inr (some (5, ll_))))], [.inl 0, .inr (.inr (some (39, (0 + ii_))))], sm_pI Sx20_ 2 ii_ 8 0)) rfl ?_
  refine sm_T_cal (d1 := 0) (Q1 := vq_2e9 0 ii_ (sm_pI Sx20_ 2 ii_ 8 0)) rfl rfl (by decide) (vc_2e9 0 ii_ (sm_pI Sx20_ 2 ii_ 8 0) hIx27_ (by decide)) (fun u_ Sx30_ px33_ => ?_)
  obtain ⟨rfl, hIx31_, hFx32_, px33_⟩ := px33_
  have hFx34_ : ai_fr (sx_W vw_53f) S0_ Sx30_ := ai_fr_tr hFx28_ (fr_le hFx32_ rfl)
  obtain ⟨dx36_, px33_⟩ := px33_
  have hCx35_ : cdf ii_ S0_ Sx30_ := cdf_tr hCx29_ (cdf_cg (by omega) dx36_)
  have w19_ := hFx32_.1 2 ii_ 19 rfl
  simp only [rf_eq, rf_nt, rf_nk, rd_fa, rd_af, ne_eq, Nat.reduceEqDiff, not_false_eq_true] at w19_
  have L58_ : clc ii_ ll_ S0_ Sx30_ := by (have z9_ := L45_; unfold clc at z9_ ⊢; rw [hFx32_.1 5 (3 + ii_) 1 rfl, hFx32_.1 5 (3 + ii_) 2 rfl, fr_arr (t := 55) (i := 0 + (3 + ii_)) hFx32_ rfl, fr_arr (t := 56) (i := 0 + (3 + ii_)) hFx32_ rfl, fr_arr (t := 57) (i := 0 + (3 + ii_)) hFx32_ rfl, fr_arr (t := 58) (i := 0 + (3 + ii_)) hFx32_ rfl]; (try simp only [rf_eq, rf_nt, rf_nk, rd_fa, rd_af, ne_eq, Nat.reduceEqDiff, not_false_eq_true]); exact z9_)
  have w1_ := hFx32_.1 2 ii_ 1 rfl
  have w2_ := hFx32_.1 2 ii_ 2 rfl
  have w3_ := hFx32_.1 2 ii_ 3 rfl
  have w4_ := hFx32_.1 2 ii_ 4 rfl
  have w5_ := hFx32_.1 2 ii_ 5 rfl
  have w8_ := hFx32_.1 2 ii_ 8 rfl
  simp only [rf_eq, rf_nt, rf_nk, rd_fa, rd_af, ne_eq, Nat.reduceEqDiff, not_false_eq_true] at w1_ w2_ w3_ w4_ w5_ w8_
  have hIx37_ : gi (sm_pI Sx30_ 2 ii_ 14 0) := gi_pI hIx31_ (show 0 ≤ 0 ∧ 0 ≤ 40 from ⟨by omega, by omega⟩)
  have hFx38_ : ai_fr (sx_W vw_53f) S0_ (sm_pI Sx30_ 2 ii_ 14 0) := ai_fr_tr hFx34_ (ai_fr_pI rfl)
  have hCx39_ : cdf ii_ S0_ (sm_pI Sx30_ 2 ii_ 14 0) := cdf_pI hCx35_ (Or.inr (by rw [show cof 2 = 0 from rfl] <;> omega))
  have hIx40_ : gi (sm_pI (sm_pI Sx30_ 2 ii_ 14 0) 2 ii_ 15 (-1)) := gi_pI hIx37_ (show (-1) ≤ (-1) ∧ (-1) ≤ 1224 from ⟨by omega, by omega⟩)
  have hFx41_ : ai_fr (sx_W vw_53f) S0_ (sm_pI (sm_pI Sx30_ 2 ii_ 14 0) 2 ii_ 15 (-1)) := ai_fr_tr hFx38_ (ai_fr_pI rfl)
  have hCx42_ : cdf ii_ S0_ (sm_pI (sm_pI Sx30_ 2 ii_ 14 0) 2 ii_ 15 (-1)) := cdf_pI hCx39_ (Or.inr (by rw [show cof 2 = 0 from rfl] <;> omega))
  have bx43_ : (-2147483648) ≤ Sx30_.1 2 ii_ 19 ∧ Sx30_.1 2 ii_ 19 ≤ 2147483647 := hIx31_.1 2 ii_ 19 rfl
  have ex44_ : (sm_pI (sm_pI Sx30_ 2 ii_ 14 0) 2 ii_ 15 (-1)).1 2 ii_ 19 = (Sx30_.1 2 ii_ 19) := by (try simp only [rf_eq, rf_nk, rf_nt, rd_fa, rd_af, ne_eq, Nat.reduceEqDiff, not_false_eq_true])
  refine sm_T_go 10 (c1 := (77, [some (.inr (.inr (some (2, ii_)))), some (.inr (.inr (some (3, dd_)))), some (.inr (.inr (some (5, ll_))))], [.inl 1, .inl ((sm_pI (sm_pI Sx30_ 2 ii_ 14 0) 2 ii_ 15 (-1)).1 2 ii_ 19), .inr (.inr (some (2, ii_)))], sm_pI (sm_pI Sx30_ 2 ii_ 14 0) 2 ii_ 15 (-1))) rfl ?_
  refine sm_T_bin (w := ((sm_pI (sm_pI Sx30_ 2 ii_ 14 0) 2 ii_ 15 (-1)).1 2 ii_ 19) + 1) rfl (bi_add (by omega) (by omega) (by omega)) ?_ -- pc_ 77
  have hIx45_ : gi (sm_pI (sm_pI (sm_pI Sx30_ 2 ii_ 14 0) 2 ii_ 15 (-1)) 2 ii_ 19 (((sm_pI (sm_pI Sx30_ 2 ii_ 14 0) 2 ii_ 15 (-1)).1 2 ii_ 19) + 1)) := gi_pI hIx40_ (show (-2147483648) ≤ ((sm_pI (sm_pI Sx30_ 2 ii_ 14 0) 2 ii_ 15 (-1)).1 2 ii_ 19) + 1 ∧ ((sm_pI (sm_pI Sx30_ 2 ii_ 14 0) 2 ii_ 15 (-1)).1 2 ii_ 19) + 1 ≤ 2147483647 from ⟨by omega, by omega⟩)
  have hFx46_ : ai_fr (sx_W vw_53f) S0_ (sm_pI (sm_pI (sm_pI Sx30_ 2 ii_ 14 0) 2 ii_ 15 (-1)) 2 ii_ 19 (((sm_pI (sm_pI Sx30_ 2 ii_ 14 0) 2 ii_ 15 (-1)).1 2 ii_ 19) + 1)) := ai_fr_tr hFx41_ (ai_fr_pI rfl)
  have hCx47_ : cdf ii_ S0_ (sm_pI (sm_pI (sm_pI Sx30_ 2 ii_ 14 0) 2 ii_ 15 (-1)) 2 ii_ 19 (((sm_pI (sm_pI Sx30_ 2 ii_ 14 0) 2 ii_ 15 (-1)).1 2 ii_ 19) + 1)) := cdf_pI hCx42_ (Or.inr (by rw [show cof 2 = 0 from rfl] <;> omega))
  refine sm_T_go 1 (c1 := (81, [some (.inr (.inr (some (2, ii_)))), some (.inr (.inr (some (3, dd_)))), some (.inr (.inr (some (5, ll_))))], [], sm_pI (sm_pI (sm_pI Sx30_ 2 ii_ 14 0) 2 ii_ 15 (-1)) 2 ii_ 19 (((sm_pI (sm_pI Sx30_ 2 ii_ 14 0) 2 ii_ 15 (-1)).1 2 ii_ 19) + 1))) rfl ?_
  refine sm_T_rv rfl ⟨_, _, rfl, rfl, hIx45_, hFx46_, ?_⟩
  refine ⟨hCx47_, ?_⟩
  refine ⟨?_, ?_, ?_, ?_⟩
  · simp only [rf_eq, rf_nt, rf_nk, rd_fa, rd_af, ne_eq, Nat.reduceEqDiff, not_false_eq_true]
    exact ⟨by omega, by omega, by omega, by omega, by omega, by omega⟩
  · have z9_ := L58_
    unfold clc at z9_ ⊢
    simp only [rf_eq, rf_nt, rf_nk, rd_fa, rd_af, ne_eq, Nat.reduceEqDiff, not_false_eq_true]
    exact z9_
  · simp only [rf_eq, rf_nt, rf_nk, rd_fa, rd_af, ne_eq, Nat.reduceEqDiff, not_false_eq_true]
    omega
  · simp only [rf_eq, rf_nt, rf_nk, rd_fa, rd_af, ne_eq, Nat.reduceEqDiff, not_false_eq_true]
/-! Mapper.build -/
def vw_91f : sx_Wl := ([(0, 1), (0, 11), (0, 16), (2, 1), (2, 2), (2, 3), (2, 4), (2, 5), (2, 8), (2, 14), (2, 15), (2, 19), (4, 0), (5, 1), (5, 2), (6, 11), (6, 13)], [16, 17, 18, 19, 20, 21, 35, 36, 37, 38, 39, 55, 56, 57, 58, 59, 60, 61, 62, 63, 64, 65, 66, 67, 68, 69, 70, 71, 72, 73], [(6, 0), (6, 1)])
def vq_91f (dd_ : Nat) (ll_ : Nat) (cc_ : Nat) (F_ : Nat) (S0_ : sm_S) (u_ : Option sm_V) (S1_ : sm_S) : Prop := ∃ v_ : Int, u_ = some (.inl v_) ∧ gi S1_ ∧ ai_fr (sx_W vw_91f) S0_ S1_ ∧ (cdf cc_ S0_ S1_ ∧ (((S1_.1 2 cc_ 19 = S0_.1 2 cc_ 19 ∨ S1_.1 2 cc_ 19 = S0_.1 2 cc_ 19 + 1) ∧ imq (v_ = 0) (S1_.1 2 cc_ 19 = S0_.1 2 cc_ 19 + 1 ∧ S1_.1 2 cc_ 15 = -1)) ∧ ((v_ = 0 ∧ (S1_.1 2 cc_ 1 = S0_.1 3 dd_ 1 ∧ S1_.1 2 cc_ 2 = S0_.1 3 dd_ 2 ∧ S1_.1 2 cc_ 3 = S0_.1 3 dd_ 3 ∧ S1_.1 2 cc_ 4 = S0_.1 3 dd_ 5 ∧ S1_.1 2 cc_ 5 = S0_.1 3 dd_ 5) ∧ bpn (0 + cc_) S1_ ∧ bpp (0 + cc_) cc_ S1_ ∧ S1_.1 0 (0 + cc_) 1 = 0 ∧ S1_.1 0 (0 + cc_) 11 = 0 ∧ S1_.1 4 (0 + (0 + cc_)) 0 = 0) ∨ v_ = -1 ∨ v_ = -2) ∧ imq (v_ = 0) (clc cc_ ll_ S1_ S1_) ∧ bcm dd_ F_ S1_ ∧ bvw ll_ S1_ ∧ ((v_ = -1 ∧ ((∃ n_ : Nat, btn dd_ F_ S1_ n_ ∧ S1_.2.2.1 60 0 n_ ≠ 0 ∧ 268435456 ≤ S1_.2.2.1 61 0 (2 * n_) ∧ ∀ x_, btn dd_ F_ S1_ x_ → x_ ≤ n_ → cnw dd_ F_ ll_ (btn dd_ F_ S1_) S1_ x_) ∨ (ball dd_ F_ ll_ S1_ ∧ S1_.1 5 ll_ 2 = -1 ∧ ∃ i_ : Int, 0 ≤ i_ ∧ i_ < S0_.1 3 dd_ 3 + S0_.1 3 dd_ 2 ∧ 1 < slv dd_ S1_ i_ ∧ slv dd_ S1_ i_ % 2 = 1))) ∨ (v_ ≠ -1 ∧ ball dd_ F_ ll_ S1_ ∧ (S1_.1 5 ll_ 2 ≠ -1 ∨ ∀ i_ : Int, 0 ≤ i_ → i_ < S0_.1 3 dd_ 3 + S0_.1 3 dd_ 2 → slv dd_ S1_ i_ ≤ 1 ∨ slv dd_ S1_ i_ % 2 = 0) ∧ ∃ M_ : Nat → Int, inm (F_ : Int) M_ ∧ ((v_ = -2 ∧ 150 < (rtq (cpn ll_ S1_) (cpv (F_ : Int) S1_) (cgc ll_ S1_) ((F_ : Int) - 1) (fun j_ => slv dd_ S1_ (j_ : Int)) (S0_.1 3 dd_ 3 + S0_.1 3 dd_ 2).toNat (M_, [])).2.length) ∨ (v_ = 0 ∧ ∃ g9_ : List (Int × List Int), cgz cc_ S1_ g9_ ∧ (S1_.2.2.1 72 0, g9_) = rtq (cpn ll_ S1_) (cpv (F_ : Int) S1_) (cgc ll_ S1_) ((F_ : Int) - 1) (fun j_ => slv dd_ S1_ (j_ : Int)) (S0_.1 3 dd_ 3 + S0_.1 3 dd_ 2).toNat (M_, []) ∧ ∀ j_ : Nat, j_ < (S0_.1 3 dd_ 3 + S0_.1 3 dd_ 2).toNat → (if (j_ : Int) < S0_.1 3 dd_ 3 then S1_.2.2.1 37 (0 + cc_) j_ else S1_.2.2.1 38 (0 + cc_) (j_ - (S0_.1 3 dd_ 3).toNat)) = ntq (fun j_ => slv dd_ S1_ (j_ : Int)) (S1_.2.2.1 72 0) j_))))))
set_option maxHeartbeats 4000000 in
theorem vl_91f {sc_ : Nat × (Nat → Int)} (dd_ : Nat) (ll_ : Nat) (cc_ : Nat) (F_ : Nat) (S0_ : sm_S) (hls_ : 0 ≤ S0_.1 2 cc_ 19 ∧ S0_.1 2 cc_ 19 ≤ 1000000) (hsw : swd F_ (S0_.1 3 dd_ 4).toNat (S0_.2.2.1 42 (0 + dd_)) (S0_.2.2.1 43 (0 + dd_)) (S0_.2.2.1 44 (0 + dd_))) (hok_ : dOk dd_ S0_) (hg_ : dgr dd_ F_ S0_) (hr_ : drt dd_ S0_) (hs_ : swp dd_ F_ S0_) (hl_ : ll_ < 3) : ∀ nn_ : Nat, (∀ (n_ : Int) (S_ : sm_S), gi S_ → ai_fr (sx_W vw_91f) S0_ S_ → (((F_ : Int) ≤ n_ ∧ n_ ≤ S0_.1 3 dd_ 4) ∧ (S_.2.1 6 0 0 = some dd_) ∧ (S_.2.1 6 0 1 = some ll_) ∧ (mkd dd_ F_ S_ (S_.2.2.1 59 0)) ∧ (rtm dd_ S_) ∧ (wal (1 + S0_.1 3 dd_ 1 + S0_.1 3 dd_ 2) n_ ll_ S_) ∧ (S_.1 2 cc_ 19 = S0_.1 2 cc_ 19) ∧ (bcm dd_ F_ S_) ∧ (bvw ll_ S_) ∧ (∀ x_ : Nat, btn dd_ F_ S_ x_ → (x_ : Int) < n_ → cnw dd_ F_ ll_ (btn dd_ F_ S_) S_ x_ ∧ (S_.2.2.1 60 0 x_ ≠ 0 → S_.2.2.1 61 0 (2 * x_) < 268435456)) ∧ (cdf cc_ S0_ S_) ∧ True) → ((9000 - n_).toNat) < nn_ → sm_T (mt_P sc_) 6 91 (39, [some (.inr (.inr (some (6, 0)))), some (.inr (.inr (some (3, dd_)))), some (.inr (.inr (some (5, ll_)))), some (.inr (.inr (some (2, cc_)))), some (.inl n_)], [], S_) (fun ro9_ => ∃ u_ S1_, ro9_ = (.inl u_, S1_, 0) ∧ vq_91f dd_ ll_ cc_ F_ S0_ u_ S1_)) := by
  intro nn_
  induction nn_ with
  | zero => exact fun _ _ _ _ _ h_ => absurd h_ (Nat.not_lt_zero _)
  | succ nn_ ih_ =>
    rintro n_ S_ hI_ hF_ ⟨h0_, htk_, htk2_, hk_, hrr_, hwl_, h19_, hbc_, hvw_, hcn_, hC_, -⟩ hm_
    have f1_ : S_.1 3 dd_ 1 = S0_.1 3 dd_ 1 := hF_.1 3 dd_ 1 rfl
    have f2_ : S_.1 3 dd_ 2 = S0_.1 3 dd_ 2 := hF_.1 3 dd_ 2 rfl
    have f3_ : S_.1 3 dd_ 3 = S0_.1 3 dd_ 3 := hF_.1 3 dd_ 3 rfl
    have f4_ : S_.1 3 dd_ 4 = S0_.1 3 dd_ 4 := hF_.1 3 dd_ 4 rfl
    have f6_ : S_.1 3 dd_ 5 = S0_.1 3 dd_ 5 := hF_.1 3 dd_ 5 rfl
    have g1_ := hg_.1
    have g2_ := hg_.2.1
    have cN_ : 0 ≤ S_.1 3 dd_ 4 ∧ S_.1 3 dd_ 4 ≤ 1013 := hI_.1 3 dd_ 4 rfl
    refine sm_T_go 2 (c1 := (42, [some (.inr (.inr (some (6, 0)))), some (.inr (.inr (some (3, dd_)))), some (.inr (.inr (some (5, ll_)))), some (.inr (.inr (some (2, cc_)))), some (.inl n_)], [.inr (.inr (some (6, 0))), .inl n_], S_)) rfl ?_
    refine sm_T_gr rfl rfl htk_ ?_
    have bx1_ : 0 ≤ S_.1 3 dd_ 4 ∧ S_.1 3 dd_ 4 ≤ 1013 := hI_.1 3 dd_ 4 rfl
    refine sm_T_go 1 (c1 := (48, [some (.inr (.inr (some (6, 0)))), some (.inr (.inr (some (3, dd_)))), some (.inr (.inr (some (5, ll_)))), some (.inr (.inr (some (2, cc_)))), some (.inl n_)], [.inl (S_.1 3 dd_ 4), .inl n_], S_)) rfl ?_
    refine sm_T_br (a := 3) (z := 51) rfl (fun cx2_ => ?_) (fun cx2_ => ?_)
    · have cx2_ : (S_.1 3 dd_ 4) ≤ n_ := of_decide_eq_true cx2_
      have A9_ : ball dd_ F_ ll_ S_ := ⟨fun x_ hx_ => (hcn_ x_ hx_ (by (have z9_ := hx_.2.1; omega))).1, fun x_ hx_ => (hcn_ x_ hx_ (by (have z9_ := hx_.2.1; omega))).2⟩
      have W9_ : wal (1 + S0_.1 3 dd_ 1 + S0_.1 3 dd_ 2) (S_.1 3 dd_ 4) ll_ S_ := by (rw [f4_, show S0_.1 3 dd_ 4 = n_ by omega]; exact hwl_)
      refine sm_T_go 1 (c1 := (100, [some (.inr (.inr (some (6, 0)))), some (.inr (.inr (some (3, dd_)))), some (.inr (.inr (some (5, ll_)))), some (.inr (.inr (some (2, cc_)))), some (.inl n_)], [.inr (.inr (some (6, 0)))], S_)) rfl ?_
      refine sm_T_gr rfl rfl htk2_ ?_
      have bx3_ : (-1) ≤ S_.1 5 ll_ 2 ∧ S_.1 5 ll_ 2 ≤ 11 := hI_.1 5 ll_ 2 rfl
      refine sm_T_go 2 (c1 := (107, [some (.inr (.inr (some (6, 0)))), some (.inr (.inr (some (3, dd_)))), some (.inr (.inr (some (5, ll_)))), some (.inr (.inr (some (2, cc_)))), some (.inl n_)], [.inl (-1), .inl (S_.1 5 ll_ 2)], S_)) rfl ?_
      refine sm_T_br (a := 1) (z := 12) rfl (fun cx4_ => ?_) (fun cx4_ => ?_)
      · have cx4_ : (S_.1 5 ll_ 2) ≠ (-1) := of_decide_eq_true cx4_
        have R9_ : rgt dd_ ll_ S_ := rgt_of (dgr_fr hg_ hF_ rfl rfl rfl rfl rfl) (drt_fr hr_ hF_ rfl rfl rfl rfl rfl) (swp_fr hs_ hF_ rfl rfl rfl rfl) hk_ (by omega) hrr_ (by rw [f1_, f2_]; exact W9_) (Or.inl (by omega))
        have IVx_ : S_.1 5 ll_ 2 ≠ -1 ∨ ∀ i_ : Int, 0 ≤ i_ → i_ < S0_.1 3 dd_ 3 + S0_.1 3 dd_ 2 → slv dd_ S_ i_ ≤ 1 ∨ slv dd_ S_ i_ % 2 = 0 := Or.inl (by omega)
        refine sm_T_go 2 (c1 := (121, [some (.inr (.inr (some (6, 0)))), some (.inr (.inr (some (3, dd_)))), some (.inr (.inr (some (5, ll_)))), some (.inr (.inr (some (2, cc_)))), some (.inl n_)], [.inr (.inr (some (6, 0))), .inr (.inr (some (2, cc_)))], S_)) rfl ?_
        refine sm_T_gr rfl rfl htk_ ?_
        refine sm_T_go 1 (c1 := (125, [some (.inr (.inr (some (6, 0)))), some (.inr (.inr (some (3, dd_)))), some (.inr (.inr (some (5, ll_)))), some (.inr (.inr (some (2, cc_)))), some (.inl n_)], [.inr (.inr (some (6, 0))), .inr (.inr (some (3, dd_))), .inr (.inr (some (2, cc_)))], S_)) rfl ?_
        refine sm_T_gr rfl rfl htk2_ ?_
        refine sm_T_cal (d1 := 1) (Q1 := vq_53f cc_ dd_ ll_ S_) rfl rfl (by decide) (vc_53f cc_ dd_ ll_ S_ hI_ (by exact dOk_fr hok_ hF_ (by decide) (by decide)) (by (first | (rw [h19_]; exact hls_) | omega))) (fun u_ Sx5_ px8_ => ?_)
        obtain ⟨rfl, hIx6_, hFx7_, px8_⟩ := px8_
        have hFx9_ : ai_fr (sx_W vw_91f) S0_ Sx5_ := ai_fr_tr hF_ (fr_le hFx7_ rfl)
        obtain ⟨dx11_, px8_⟩ := px8_
        have hCx10_ : cdf cc_ S0_ Sx5_ := cdf_tr hC_ (cdf_cg (by omega) dx11_)
        have tx12_ : Sx5_.2.1 6 0 1 = some ll_ := (hFx7_.2.1 6 0 1 rfl).trans htk2_
        have tx13_ : Sx5_.2.1 6 0 0 = some dd_ := (hFx7_.2.1 6 0 0 rfl).trans htk_
        have ex14_ : Sx5_.1 3 dd_ 4 = S_.1 3 dd_ 4 := hFx7_.1 3 dd_ 4 rfl
        have c128_ := (px8_).1
        have L128_ := (px8_).2.1
        have s128_ : Sx5_.1 2 cc_ 19 = S0_.1 2 cc_ 19 + 1 := by (have z9_ := (px8_).2.2.1; rw [z9_]; first | rw [h19_] | omega)
        have sz128_ : Sx5_.1 2 cc_ 15 = -1 := (px8_).2.2.2
        have g128_ := hFx7_
        refine sm_T_go 2 (c1 := (133, [some (.inr (.inr (some (6, 0)))), some (.inr (.inr (some (3, dd_)))), some (.inr (.inr (some (5, ll_)))), some (.inr (.inr (some (2, cc_)))), some (.inl n_)], [.inr (.inr (some (2, cc_))), .inr (.inr (some (6, 0)))], Sx5_)) rfl ?_
        refine sm_T_cal (d1 := 5) (Q1 := vq_109n dd_ ll_ cc_ Sx5_) rfl rfl (by decide) (vc_109n dd_ ll_ cc_ Sx5_ hIx6_ (by omega) (by exact tx13_) (by exact tx12_) (by (rw [g128_.1 3 dd_ 1 rfl, g128_.1 3 dd_ 2 rfl, g128_.1 3 dd_ 4 rfl, f1_, f2_]; exact wal_cd W9_ g128_ hC_ hCx10_ hl_)) (by omega) (by exact drt_fr hr_ hFx9_ rfl rfl rfl rfl rfl) (by (rw [g128_.1 3 dd_ 1 rfl, g128_.1 3 dd_ 2 rfl]; omega)) (by exact rgt_cd R9_ g128_ hC_ hCx10_ hl_)) (fun u_ Sx15_ px18_ => ?_)
        obtain ⟨vx20_, rfl, hIx16_, hFx17_, px18_⟩ := px18_
        have hFx19_ : ai_fr (sx_W vw_91f) S0_ Sx15_ := ai_fr_tr hFx9_ (fr_le hFx17_ rfl)
        obtain ⟨dx22_, px18_⟩ := px18_
        have hCx21_ : cdf cc_ S0_ Sx15_ := cdf_tr hCx10_ (cdf_cg (by omega) dx22_)
        have tx23_ : Sx15_.2.1 6 0 1 = some ll_ := (hFx17_.2.1 6 0 1 rfl).trans tx12_
        have tx24_ : Sx15_.2.1 6 0 0 = some dd_ := (hFx17_.2.1 6 0 0 rfl).trans tx13_
        have sz133_ := (hFx17_.1 2 cc_ 15 rfl).trans sz128_
        have s133_ := (hFx17_.1 2 cc_ 19 rfl).trans s128_
        have v133_ := (px18_).1
        obtain ⟨M9_, inm9_, X133_⟩ := (px18_).2
        have l133_ := cdf_l hC_ hCx21_ hl_
        have L133_ : clc cc_ ll_ Sx15_ Sx15_ := by (have z9_ := L128_; unfold clc at z9_ ⊢; rw [hFx17_.1 5 (3 + cc_) 1 rfl, hFx17_.1 5 (3 + cc_) 2 rfl, fr_arr (t := 55) (i := 0 + (3 + cc_)) hFx17_ rfl, fr_arr (t := 56) (i := 0 + (3 + cc_)) hFx17_ rfl, fr_arr (t := 57) (i := 0 + (3 + cc_)) hFx17_ rfl, fr_arr (t := 58) (i := 0 + (3 + cc_)) hFx17_ rfl, l133_.1 1, l133_.1 2, l133_.2.1, l133_.2.2.1, l133_.2.2.2.1, l133_.2.2.2.2]; exact z9_)
        have BB133_ : bcm dd_ F_ Sx15_ ∧ btn dd_ F_ Sx15_ = btn dd_ F_ S_ ∧ cnn F_ Sx15_ = cnn F_ S_ ∧ ccl dd_ Sx15_ = ccl dd_ S_ ∧ cch dd_ Sx15_ = cch dd_ S_ := by (have z9_ := bcm_fr hbc_ g128_; have y9_ := bcm_fr z9_.1 hFx17_; exact ⟨y9_.1, y9_.2.1.trans z9_.2.1, y9_.2.2.1.trans z9_.2.2.1, y9_.2.2.2.1.trans z9_.2.2.2.1, y9_.2.2.2.2.trans z9_.2.2.2.2⟩)
        have VV133_ : bvw ll_ Sx15_ := bvw_cg hvw_ (l133_.1 1) l133_.2.1 l133_.2.2.1 ((fr_arr hFx17_ rfl).trans (fr_arr g128_ rfl))
        have AL133_ : ball dd_ F_ ll_ Sx15_ := ball_cg hbc_ A9_ BB133_ ((fr_arr hFx17_ rfl).trans (fr_arr g128_ rfl)) ((fr_arr hFx17_ rfl).trans (fr_arr g128_ rfl)) ((fr_arr hFx17_ rfl).trans (fr_arr g128_ rfl)) ((fr_arr hFx17_ rfl).trans (fr_arr g128_ rfl)) ((fr_arr hFx17_ rfl).trans (fr_arr g128_ rfl)) l133_.2.1 l133_.2.2.2.1 (l133_.1 1) (l133_.1 2) ((fr_arr hFx17_ rfl).trans (fr_arr g128_ rfl)) ((fr_arr hFx17_ rfl).trans (fr_arr g128_ rfl)) ((fr_arr hFx17_ rfl).trans (fr_arr g128_ rfl)) ((fr_arr hFx17_ rfl).trans (fr_arr g128_ rfl)) (fun k_ => (hI_.2 55 (0 + ll_) k_).2)
        have SL133_ : slv dd_ Sx15_ = slv dd_ S_ := by (funext i_; unfold slv rtv; rw [(hFx17_.1 3 dd_ 3 rfl).trans (g128_.1 3 dd_ 3 rfl), (fr_arr (t := 44) (i := 0 + dd_) hFx17_ rfl).trans (fr_arr (t := 44) (i := 0 + dd_) g128_ rfl), (fr_arr (t := 45) (i := 0 + dd_) hFx17_ rfl).trans (fr_arr (t := 45) (i := 0 + dd_) g128_ rfl), (fr_arr (t := 46) (i := 0 + dd_) hFx17_ rfl).trans (fr_arr (t := 46) (i := 0 + dd_) g128_ rfl)])
        have IV133_ : Sx15_.1 5 ll_ 2 ≠ -1 ∨ ∀ i_ : Int, 0 ≤ i_ → i_ < S0_.1 3 dd_ 3 + S0_.1 3 dd_ 2 → slv dd_ Sx15_ i_ ≤ 1 ∨ slv dd_ Sx15_ i_ % 2 = 0 := by (rw [l133_.1 2, SL133_]; exact IVx_)
        have RT133_ : ∀ M_ : Nat → Int, rtq (cpn ll_ Sx15_) (cpv (F_ : Int) Sx15_) (cgc ll_ Sx15_) ((F_ : Int) - 1) (fun j_ => slv dd_ Sx15_ (j_ : Int)) (S0_.1 3 dd_ 3 + S0_.1 3 dd_ 2).toNat (M_, []) = rtq (cpn ll_ Sx5_) (cpv (1 + Sx5_.1 3 dd_ 1 + Sx5_.1 3 dd_ 2) Sx5_) (cgc ll_ Sx5_) (Sx5_.1 2 cc_ 1 + Sx5_.1 2 cc_ 2) (fun j_ => slv dd_ Sx5_ (j_ : Int)) (Sx5_.1 3 dd_ 3 + Sx5_.1 3 dd_ 2).toNat (M_, []) := fun M_ => by (have h3_ := g128_.1 3 dd_ 3 rfl; have h2_ := g128_.1 3 dd_ 2 rfl; have h1_ := g128_.1 3 dd_ 1 rfl; have y1_ : cpn ll_ Sx15_ = cpn ll_ Sx5_ := (by funext u_; unfold cpn; rw [fr_arr (t := 62) (i := 0) hFx17_ rfl, fr_arr (t := 55) (i := 0 + ll_) hFx17_ rfl]); have y2_ : cgc ll_ Sx15_ = cgc ll_ Sx5_ := (by funext u_; unfold cgc; rw [fr_arr (t := 62) (i := 0) hFx17_ rfl, hFx17_.1 5 ll_ 2 rfl]); have y3_ : cpv (F_ : Int) Sx15_ = cpv (1 + Sx5_.1 3 dd_ 1 + Sx5_.1 3 dd_ 2) Sx5_ := (by funext u_ k_; unfold cpv; rw [fr_arr (t := 60) (i := 0) hFx17_ rfl, fr_arr (t := 62) (i := 0) hFx17_ rfl, fr_arr (t := 63) (i := 0) hFx17_ rfl, fr_arr (t := 64) (i := 0) hFx17_ rfl, show (F_ : Int) = 1 + Sx5_.1 3 dd_ 1 + Sx5_.1 3 dd_ 2 by omega]); have y4_ : slv dd_ Sx15_ = slv dd_ Sx5_ := (by funext i_; unfold slv rtv; rw [hFx17_.1 3 dd_ 3 rfl, fr_arr (t := 44) (i := 0 + dd_) hFx17_ rfl, fr_arr (t := 45) (i := 0 + dd_) hFx17_ rfl, fr_arr (t := 46) (i := 0 + dd_) hFx17_ rfl]); rw [y1_, y2_, y3_, y4_, show (F_ : Int) - 1 = Sx5_.1 2 cc_ 1 + Sx5_.1 2 cc_ 2 by omega, show (S0_.1 3 dd_ 3 + S0_.1 3 dd_ 2).toNat = (Sx5_.1 3 dd_ 3 + Sx5_.1 3 dd_ 2).toNat by omega])
        have inm9f : inm (F_ : Int) M9_ := by (have h1_ := g128_.1 3 dd_ 1 rfl; have h2_ := g128_.1 3 dd_ 2 rfl; rw [show (F_ : Int) = 1 + Sx5_.1 3 dd_ 1 + Sx5_.1 3 dd_ 2 by omega]; exact inm9_)
        have c133_ : ∀ k_, Sx15_.2.2.1 55 (0 + ll_) k_ ≤ 3 := fun k_ => (hIx16_.2 55 (0 + ll_) k_).2
        have SY133_ : slv dd_ Sx15_ = slv dd_ Sx5_ := by (funext i_; unfold slv rtv; rw [hFx17_.1 3 dd_ 3 rfl, fr_arr (t := 44) (i := 0 + dd_) hFx17_ rfl, fr_arr (t := 45) (i := 0 + dd_) hFx17_ rfl, fr_arr (t := 46) (i := 0 + dd_) hFx17_ rfl])
        have Z133_ : ∀ g9_ : List (Int × List Int), (Sx15_.2.2.1 72 0, g9_) = rtq (cpn ll_ Sx5_) (cpv (1 + Sx5_.1 3 dd_ 1 + Sx5_.1 3 dd_ 2) Sx5_) (cgc ll_ Sx5_) (Sx5_.1 2 cc_ 1 + Sx5_.1 2 cc_ 2) (fun j_ => slv dd_ Sx5_ (j_ : Int)) (Sx5_.1 3 dd_ 3 + Sx5_.1 3 dd_ 2).toNat (M9_, []) → (Sx15_.2.2.1 72 0, g9_) = rtq (cpn ll_ Sx15_) (cpv (F_ : Int) Sx15_) (cgc ll_ Sx15_) ((F_ : Int) - 1) (fun j_ => slv dd_ Sx15_ (j_ : Int)) (S0_.1 3 dd_ 3 + S0_.1 3 dd_ 2).toNat (M9_, []) := fun g9_ h9_ => h9_.trans (RT133_ M9_).symm
        have N133_ : (∀ j_ : Nat, j_ < (Sx5_.1 3 dd_ 3 + Sx5_.1 3 dd_ 2).toNat → (if (j_ : Int) < Sx5_.1 3 dd_ 3 then Sx15_.2.2.1 37 (0 + cc_) j_ else Sx15_.2.2.1 38 (0 + cc_) (j_ - (Sx5_.1 3 dd_ 3).toNat)) = ntq (fun j_ => slv dd_ Sx5_ (j_ : Int)) (Sx15_.2.2.1 72 0) j_) → ∀ j_ : Nat, j_ < (S0_.1 3 dd_ 3 + S0_.1 3 dd_ 2).toNat → (if (j_ : Int) < S0_.1 3 dd_ 3 then Sx15_.2.2.1 37 (0 + cc_) j_ else Sx15_.2.2.1 38 (0 + cc_) (j_ - (S0_.1 3 dd_ 3).toNat)) = ntq (fun j_ => slv dd_ Sx15_ (j_ : Int)) (Sx15_.2.2.1 72 0) j_ := fun n9_ => by (have h3_ := g128_.1 3 dd_ 3 rfl; have h2_ := g128_.1 3 dd_ 2 rfl; rw [show Sx5_.1 3 dd_ 3 = S0_.1 3 dd_ 3 by omega, show Sx5_.1 3 dd_ 2 = S0_.1 3 dd_ 2 by omega] at n9_; rw [SY133_]; exact n9_)
        have d1_ := hFx17_.1 2 cc_ 1 rfl
        have d2_ := hFx17_.1 2 cc_ 2 rfl
        have d3_ := hFx17_.1 2 cc_ 3 rfl
        have d4_ := hFx17_.1 2 cc_ 4 rfl
        have d5_ := hFx17_.1 2 cc_ 5 rfl
        refine sm_T_b0 (a := 1) (z := 6) rfl (fun cx25_ => ?_) (fun cx25_ => ?_)
        · have cx25_ : vx20_ ≠ 0 := of_decide_eq_true cx25_
          refine sm_T_go 3 (c1 := (147, [some (.inr (.inr (some (6, 0)))), some (.inr (.inr (some (3, dd_)))), some (.inr (.inr (some (5, ll_)))), some (.inr (.inr (some (2, cc_)))), some (.inl n_)], [.inr (.inr (some (2, cc_))), .inr (.inr (some (0, (0 + cc_))))], Sx15_)) rfl ?_
          refine sm_T_cal (d1 := 2) (Q1 := vq_11 (0 + cc_) cc_ Sx15_) rfl rfl (by decide) (vc_11 (0 + cc_) cc_ Sx15_ hIx16_ (by omega)) (fun u_ Sx26_ px29_ => ?_)
          obtain ⟨rfl, hIx27_, hFx28_, px29_⟩ := px29_
          have hFx30_ : ai_fr (sx_W vw_91f) S0_ Sx26_ := ai_fr_tr hFx19_ (fr_le hFx28_ rfl)
          obtain ⟨dx32_, px29_⟩ := px29_
          have hCx31_ : cdf cc_ S0_ Sx26_ := cdf_tr hCx21_ (cdf_cg (by omega) dx32_)
          have tx33_ : Sx26_.2.1 6 0 1 = some ll_ := (hFx28_.2.1 6 0 1 rfl).trans tx23_
          have tx34_ : Sx26_.2.1 6 0 0 = some dd_ := (hFx28_.2.1 6 0 0 rfl).trans tx24_
          have sz147_ := (hFx28_.1 2 cc_ 15 rfl).trans sz133_
          have s147_ := (hFx28_.1 2 cc_ 19 rfl).trans s133_
          have b147_ := px29_
          have L147_ : clc cc_ ll_ Sx26_ Sx26_ := by (have z9_ := L133_; unfold clc at z9_ ⊢; rw [hFx28_.1 5 (3 + cc_) 1 rfl, hFx28_.1 5 (3 + cc_) 2 rfl, hFx28_.1 5 ll_ 1 rfl, hFx28_.1 5 ll_ 2 rfl, fr_arr (t := 55) (i := 0 + (3 + cc_)) hFx28_ rfl, fr_arr (t := 56) (i := 0 + (3 + cc_)) hFx28_ rfl, fr_arr (t := 57) (i := 0 + (3 + cc_)) hFx28_ rfl, fr_arr (t := 58) (i := 0 + (3 + cc_)) hFx28_ rfl, fr_arr (t := 55) (i := 0 + ll_) hFx28_ rfl, fr_arr (t := 56) (i := 0 + ll_) hFx28_ rfl, fr_arr (t := 57) (i := 0 + ll_) hFx28_ rfl, fr_arr (t := 58) (i := 0 + ll_) hFx28_ rfl]; exact z9_)
          have F147_ := hFx28_
          have BB147_ := bcm_fr BB133_.1 hFx28_
          have VV147_ : bvw ll_ Sx26_ := bvw_cg VV133_ (hFx28_.1 5 ll_ 1 rfl) (fr_arr hFx28_ rfl) (fr_arr hFx28_ rfl) (fr_arr hFx28_ rfl)
          have AL147_ : ball dd_ F_ ll_ Sx26_ := ball_cg BB133_.1 AL133_ BB147_ (fr_arr hFx28_ rfl) (fr_arr hFx28_ rfl) (fr_arr hFx28_ rfl) (fr_arr hFx28_ rfl) (fr_arr hFx28_ rfl) (fr_arr hFx28_ rfl) (fr_arr hFx28_ rfl) (hFx28_.1 5 ll_ 1 rfl) (hFx28_.1 5 ll_ 2 rfl) (fr_arr hFx28_ rfl) (fr_arr hFx28_ rfl) (fr_arr hFx28_ rfl) (fr_arr hFx28_ rfl) c133_
          have SL147_ : slv dd_ Sx26_ = slv dd_ Sx15_ := by (funext i_; unfold slv rtv; rw [hFx28_.1 3 dd_ 3 rfl, fr_arr (t := 44) (i := 0 + dd_) hFx28_ rfl, fr_arr (t := 45) (i := 0 + dd_) hFx28_ rfl, fr_arr (t := 46) (i := 0 + dd_) hFx28_ rfl])
          have IV147_ : Sx26_.1 5 ll_ 2 ≠ -1 ∨ ∀ i_ : Int, 0 ≤ i_ → i_ < S0_.1 3 dd_ 3 + S0_.1 3 dd_ 2 → slv dd_ Sx26_ i_ ≤ 1 ∨ slv dd_ Sx26_ i_ % 2 = 0 := by (rw [hFx28_.1 5 ll_ 2 rfl, SL147_]; exact IV133_)
          have RT147_ : ∀ M_ : Nat → Int, rtq (cpn ll_ Sx26_) (cpv (F_ : Int) Sx26_) (cgc ll_ Sx26_) ((F_ : Int) - 1) (fun j_ => slv dd_ Sx26_ (j_ : Int)) (S0_.1 3 dd_ 3 + S0_.1 3 dd_ 2).toNat (M_, []) = rtq (cpn ll_ Sx15_) (cpv (F_ : Int) Sx15_) (cgc ll_ Sx15_) ((F_ : Int) - 1) (fun j_ => slv dd_ Sx15_ (j_ : Int)) (S0_.1 3 dd_ 3 + S0_.1 3 dd_ 2).toNat (M_, []) := fun M_ => by (have y1_ : cpn ll_ Sx26_ = cpn ll_ Sx15_ := (by funext u_; unfold cpn; rw [fr_arr (t := 62) (i := 0) hFx28_ rfl, fr_arr (t := 55) (i := 0 + ll_) hFx28_ rfl]); have y2_ : cgc ll_ Sx26_ = cgc ll_ Sx15_ := (by funext u_; unfold cgc; rw [fr_arr (t := 62) (i := 0) hFx28_ rfl, hFx28_.1 5 ll_ 2 rfl]); have y3_ : cpv (F_ : Int) Sx26_ = cpv (F_ : Int) Sx15_ := (by funext u_ k_; unfold cpv; rw [fr_arr (t := 60) (i := 0) hFx28_ rfl, fr_arr (t := 62) (i := 0) hFx28_ rfl, fr_arr (t := 63) (i := 0) hFx28_ rfl, fr_arr (t := 64) (i := 0) hFx28_ rfl]); rw [y1_, y2_, y3_, SL147_])
          have x1_ := hFx28_.1 2 cc_ 1 rfl
          have x2_ := hFx28_.1 2 cc_ 2 rfl
          have x3_ := hFx28_.1 2 cc_ 3 rfl
          have x4_ := hFx28_.1 2 cc_ 4 rfl
          have x5_ := hFx28_.1 2 cc_ 5 rfl
          refine sm_T_go 1 (c1 := (151, [some (.inr (.inr (some (6, 0)))), some (.inr (.inr (some (3, dd_)))), some (.inr (.inr (some (5, ll_)))), some (.inr (.inr (some (2, cc_)))), some (.inl n_)], [.inl 0], Sx26_)) rfl ?_
          refine sm_T_ri rfl ⟨_, _, rfl, _, rfl, hIx27_, hFx30_, ?_⟩
          refine ⟨hCx31_, ?_⟩
          obtain ⟨g9_, c9_, x9_, n9_⟩ := X133_.1 (by omega)
          refine ⟨⟨Or.inr s147_, fun _ => ⟨s147_, sz147_⟩⟩, Or.inl ⟨rfl, by omega, b147_⟩, fun _ => L147_, BB147_.1, VV147_, Or.inr ⟨by decide, AL147_, IV147_, M9_, inm9f, Or.inr ⟨rfl, g9_, cgz_fr c9_ F147_, ?_, fun j_ hj_ => ?_⟩⟩⟩
          · rw [RT147_ M9_, fr_arr (t := 72) (i := 0) F147_ rfl]; exact Z133_ g9_ x9_
          · rw [SL147_, fr_arr (t := 72) (i := 0) F147_ rfl, fr_arr (t := 37) (i := 0 + cc_) F147_ rfl, fr_arr (t := 38) (i := 0 + cc_) F147_ rfl]; exact N133_ n9_ j_ hj_
        · have cx25_ : ¬ (vx20_ ≠ 0) := of_decide_eq_false cx25_
          refine sm_T_go 1 (c1 := (141, [some (.inr (.inr (some (6, 0)))), some (.inr (.inr (some (3, dd_)))), some (.inr (.inr (some (5, ll_)))), some (.inr (.inr (some (2, cc_)))), some (.inl n_)], [.inl (-2)], Sx15_)) rfl ?_
          refine sm_T_ri rfl ⟨_, _, rfl, _, rfl, hIx16_, hFx19_, ?_⟩
          refine ⟨hCx21_, ?_⟩
          refine ⟨⟨Or.inr s133_, fun u9_ => absurd u9_ (by decide)⟩, Or.inr (Or.inr rfl), fun u9_ => absurd u9_ (by decide), BB133_.1, VV133_, Or.inr ⟨by decide, AL133_, IV133_, M9_, inm9f, Or.inl ⟨rfl, ?_⟩⟩⟩
          rw [RT133_ M9_]
          exact X133_.2 (by omega)
      · have cx4_ : ¬ ((S_.1 5 ll_ 2) ≠ (-1)) := of_decide_eq_false cx4_
        refine sm_T_go 1 (c1 := (111, [some (.inr (.inr (some (6, 0)))), some (.inr (.inr (some (3, dd_)))), some (.inr (.inr (some (5, ll_)))), some (.inr (.inr (some (2, cc_)))), some (.inl n_)], [.inr (.inr (some (6, 0)))], S_)) rfl ?_
        refine sm_T_cal (d1 := 1) (Q1 := vq_96n dd_ S_) rfl rfl (by decide) (vc_96n dd_ S_ hI_ (by exact htk_) (by exact drt_fr hr_ hF_ rfl rfl rfl rfl rfl)) (fun u_ Sx35_ px38_ => ?_)
        obtain ⟨rfl, vx40_, rfl, px38_⟩ := px38_
        have w111_ := (px38_).2.1
        have i111_ := (px38_).2.2
        refine sm_T_b0 (a := 0) (z := 5) rfl (fun cx41_ => ?_) (fun cx41_ => ?_)
        · have cx41_ : vx40_ = 0 := of_decide_eq_true cx41_
          have R9_ : rgt dd_ ll_ S_ := rgt_of (dgr_fr hg_ hF_ rfl rfl rfl rfl rfl) (drt_fr hr_ hF_ rfl rfl rfl rfl rfl) (swp_fr hs_ hF_ rfl rfl rfl rfl) hk_ (by omega) hrr_ (by rw [f1_, f2_]; exact W9_) (Or.inr (w111_ (by omega)))
          have IVx_ : S_.1 5 ll_ 2 ≠ -1 ∨ ∀ i_ : Int, 0 ≤ i_ → i_ < S0_.1 3 dd_ 3 + S0_.1 3 dd_ 2 → slv dd_ S_ i_ ≤ 1 ∨ slv dd_ S_ i_ % 2 = 0 := Or.inr (by (rw [← f3_, ← f2_]; exact w111_ (by omega)))
          refine sm_T_go 2 (c1 := (121, [some (.inr (.inr (some (6, 0)))), some (.inr (.inr (some (3, dd_)))), some (.inr (.inr (some (5, ll_)))), some (.inr (.inr (some (2, cc_)))), some (.inl n_)], [.inr (.inr (some (6, 0))), .inr (.inr (some (2, cc_)))], S_)) rfl ?_
          refine sm_T_gr rfl rfl htk_ ?_
          refine sm_T_go 1 (c1 := (125, [some (.inr (.inr (some (6, 0)))), some (.inr (.inr (some (3, dd_)))), some (.inr (.inr (some (5, ll_)))), some (.inr (.inr (some (2, cc_)))), some (.inl n_)], [.inr (.inr (some (6, 0))), .inr (.inr (some (3, dd_))), .inr (.inr (some (2, cc_)))], S_)) rfl ?_
          refine sm_T_gr rfl rfl htk2_ ?_
          refine sm_T_cal (d1 := 1) (Q1 := vq_53f cc_ dd_ ll_ S_) rfl rfl (by decide) (vc_53f cc_ dd_ ll_ S_ hI_ (by exact dOk_fr hok_ hF_ (by decide) (by decide)) (by (first | (rw [h19_]; exact hls_) | omega))) (fun u_ Sx42_ px45_ => ?_)
          obtain ⟨rfl, hIx43_, hFx44_, px45_⟩ := px45_
          have hFx46_ : ai_fr (sx_W vw_91f) S0_ Sx42_ := ai_fr_tr hF_ (fr_le hFx44_ rfl)
          obtain ⟨dx48_, px45_⟩ := px45_
          have hCx47_ : cdf cc_ S0_ Sx42_ := cdf_tr hC_ (cdf_cg (by omega) dx48_)
          have tx49_ : Sx42_.2.1 6 0 1 = some ll_ := (hFx44_.2.1 6 0 1 rfl).trans htk2_
          have tx50_ : Sx42_.2.1 6 0 0 = some dd_ := (hFx44_.2.1 6 0 0 rfl).trans htk_
          have ex51_ : Sx42_.1 3 dd_ 4 = S_.1 3 dd_ 4 := hFx44_.1 3 dd_ 4 rfl
          have c128_ := (px45_).1
          have L128_ := (px45_).2.1
          have s128_ : Sx42_.1 2 cc_ 19 = S0_.1 2 cc_ 19 + 1 := by (have z9_ := (px45_).2.2.1; rw [z9_]; first | rw [h19_] | omega)
          have sz128_ : Sx42_.1 2 cc_ 15 = -1 := (px45_).2.2.2
          have g128_ := hFx44_
          refine sm_T_go 2 (c1 := (133, [some (.inr (.inr (some (6, 0)))), some (.inr (.inr (some (3, dd_)))), some (.inr (.inr (some (5, ll_)))), some (.inr (.inr (some (2, cc_)))), some (.inl n_)], [.inr (.inr (some (2, cc_))), .inr (.inr (some (6, 0)))], Sx42_)) rfl ?_
          refine sm_T_cal (d1 := 5) (Q1 := vq_109n dd_ ll_ cc_ Sx42_) rfl rfl (by decide) (vc_109n dd_ ll_ cc_ Sx42_ hIx43_ (by omega) (by exact tx50_) (by exact tx49_) (by (rw [g128_.1 3 dd_ 1 rfl, g128_.1 3 dd_ 2 rfl, g128_.1 3 dd_ 4 rfl, f1_, f2_]; exact wal_cd W9_ g128_ hC_ hCx47_ hl_)) (by omega) (by exact drt_fr hr_ hFx46_ rfl rfl rfl rfl rfl) (by (rw [g128_.1 3 dd_ 1 rfl, g128_.1 3 dd_ 2 rfl]; omega)) (by exact rgt_cd R9_ g128_ hC_ hCx47_ hl_)) (fun u_ Sx52_ px55_ => ?_)
          obtain ⟨vx57_, rfl, hIx53_, hFx54_, px55_⟩ := px55_
          have hFx56_ : ai_fr (sx_W vw_91f) S0_ Sx52_ := ai_fr_tr hFx46_ (fr_le hFx54_ rfl)
          obtain ⟨dx59_, px55_⟩ := px55_
          have hCx58_ : cdf cc_ S0_ Sx52_ := cdf_tr hCx47_ (cdf_cg (by omega) dx59_)
          have tx60_ : Sx52_.2.1 6 0 1 = some ll_ := (hFx54_.2.1 6 0 1 rfl).trans tx49_
          have tx61_ : Sx52_.2.1 6 0 0 = some dd_ := (hFx54_.2.1 6 0 0 rfl).trans tx50_
          have sz133_ := (hFx54_.1 2 cc_ 15 rfl).trans sz128_
          have s133_ := (hFx54_.1 2 cc_ 19 rfl).trans s128_
          have v133_ := (px55_).1
          obtain ⟨M9_, inm9_, X133_⟩ := (px55_).2
          have l133_ := cdf_l hC_ hCx58_ hl_
          have L133_ : clc cc_ ll_ Sx52_ Sx52_ := by (have z9_ := L128_; unfold clc at z9_ ⊢; rw [hFx54_.1 5 (3 + cc_) 1 rfl, hFx54_.1 5 (3 + cc_) 2 rfl, fr_arr (t := 55) (i := 0 + (3 + cc_)) hFx54_ rfl, fr_arr (t := 56) (i := 0 + (3 + cc_)) hFx54_ rfl, fr_arr (t := 57) (i := 0 + (3 + cc_)) hFx54_ rfl, fr_arr (t := 58) (i := 0 + (3 + cc_)) hFx54_ rfl, l133_.1 1, l133_.1 2, l133_.2.1, l133_.2.2.1, l133_.2.2.2.1, l133_.2.2.2.2]; exact z9_)
          have BB133_ : bcm dd_ F_ Sx52_ ∧ btn dd_ F_ Sx52_ = btn dd_ F_ S_ ∧ cnn F_ Sx52_ = cnn F_ S_ ∧ ccl dd_ Sx52_ = ccl dd_ S_ ∧ cch dd_ Sx52_ = cch dd_ S_ := by (have z9_ := bcm_fr hbc_ g128_; have y9_ := bcm_fr z9_.1 hFx54_; exact ⟨y9_.1, y9_.2.1.trans z9_.2.1, y9_.2.2.1.trans z9_.2.2.1, y9_.2.2.2.1.trans z9_.2.2.2.1, y9_.2.2.2.2.trans z9_.2.2.2.2⟩)
          have VV133_ : bvw ll_ Sx52_ := bvw_cg hvw_ (l133_.1 1) l133_.2.1 l133_.2.2.1 ((fr_arr hFx54_ rfl).trans (fr_arr g128_ rfl))
          have AL133_ : ball dd_ F_ ll_ Sx52_ := ball_cg hbc_ A9_ BB133_ ((fr_arr hFx54_ rfl).trans (fr_arr g128_ rfl)) ((fr_arr hFx54_ rfl).trans (fr_arr g128_ rfl)) ((fr_arr hFx54_ rfl).trans (fr_arr g128_ rfl)) ((fr_arr hFx54_ rfl).trans (fr_arr g128_ rfl)) ((fr_arr hFx54_ rfl).trans (fr_arr g128_ rfl)) l133_.2.1 l133_.2.2.2.1 (l133_.1 1) (l133_.1 2) ((fr_arr hFx54_ rfl).trans (fr_arr g128_ rfl)) ((fr_arr hFx54_ rfl).trans (fr_arr g128_ rfl)) ((fr_arr hFx54_ rfl).trans (fr_arr g128_ rfl)) ((fr_arr hFx54_ rfl).trans (fr_arr g128_ rfl)) (fun k_ => (hI_.2 55 (0 + ll_) k_).2)
          have SL133_ : slv dd_ Sx52_ = slv dd_ S_ := by (funext i_; unfold slv rtv; rw [(hFx54_.1 3 dd_ 3 rfl).trans (g128_.1 3 dd_ 3 rfl), (fr_arr (t := 44) (i := 0 + dd_) hFx54_ rfl).trans (fr_arr (t := 44) (i := 0 + dd_) g128_ rfl), (fr_arr (t := 45) (i := 0 + dd_) hFx54_ rfl).trans (fr_arr (t := 45) (i := 0 + dd_) g128_ rfl), (fr_arr (t := 46) (i := 0 + dd_) hFx54_ rfl).trans (fr_arr (t := 46) (i := 0 + dd_) g128_ rfl)])
          have IV133_ : Sx52_.1 5 ll_ 2 ≠ -1 ∨ ∀ i_ : Int, 0 ≤ i_ → i_ < S0_.1 3 dd_ 3 + S0_.1 3 dd_ 2 → slv dd_ Sx52_ i_ ≤ 1 ∨ slv dd_ Sx52_ i_ % 2 = 0 := by (rw [l133_.1 2, SL133_]; exact IVx_)
          have RT133_ : ∀ M_ : Nat → Int, rtq (cpn ll_ Sx52_) (cpv (F_ : Int) Sx52_) (cgc ll_ Sx52_) ((F_ : Int) - 1) (fun j_ => slv dd_ Sx52_ (j_ : Int)) (S0_.1 3 dd_ 3 + S0_.1 3 dd_ 2).toNat (M_, []) = rtq (cpn ll_ Sx42_) (cpv (1 + Sx42_.1 3 dd_ 1 + Sx42_.1 3 dd_ 2) Sx42_) (cgc ll_ Sx42_) (Sx42_.1 2 cc_ 1 + Sx42_.1 2 cc_ 2) (fun j_ => slv dd_ Sx42_ (j_ : Int)) (Sx42_.1 3 dd_ 3 + Sx42_.1 3 dd_ 2).toNat (M_, []) := fun M_ => by (have h3_ := g128_.1 3 dd_ 3 rfl; have h2_ := g128_.1 3 dd_ 2 rfl; have h1_ := g128_.1 3 dd_ 1 rfl; have y1_ : cpn ll_ Sx52_ = cpn ll_ Sx42_ := (by funext u_; unfold cpn; rw [fr_arr (t := 62) (i := 0) hFx54_ rfl, fr_arr (t := 55) (i := 0 + ll_) hFx54_ rfl]); have y2_ : cgc ll_ Sx52_ = cgc ll_ Sx42_ := (by funext u_; unfold cgc; rw [fr_arr (t := 62) (i := 0) hFx54_ rfl, hFx54_.1 5 ll_ 2 rfl]); have y3_ : cpv (F_ : Int) Sx52_ = cpv (1 + Sx42_.1 3 dd_ 1 + Sx42_.1 3 dd_ 2) Sx42_ := (by funext u_ k_; unfold cpv; rw [fr_arr (t := 60) (i := 0) hFx54_ rfl, fr_arr (t := 62) (i := 0) hFx54_ rfl, fr_arr (t := 63) (i := 0) hFx54_ rfl, fr_arr (t := 64) (i := 0) hFx54_ rfl, show (F_ : Int) = 1 + Sx42_.1 3 dd_ 1 + Sx42_.1 3 dd_ 2 by omega]); have y4_ : slv dd_ Sx52_ = slv dd_ Sx42_ := (by funext i_; unfold slv rtv; rw [hFx54_.1 3 dd_ 3 rfl, fr_arr (t := 44) (i := 0 + dd_) hFx54_ rfl, fr_arr (t := 45) (i := 0 + dd_) hFx54_ rfl, fr_arr (t := 46) (i := 0 + dd_) hFx54_ rfl]); rw [y1_, y2_, y3_, y4_, show (F_ : Int) - 1 = Sx42_.1 2 cc_ 1 + Sx42_.1 2 cc_ 2 by omega, show (S0_.1 3 dd_ 3 + S0_.1 3 dd_ 2).toNat = (Sx42_.1 3 dd_ 3 + Sx42_.1 3 dd_ 2).toNat by omega])
          have inm9f : inm (F_ : Int) M9_ := by (have h1_ := g128_.1 3 dd_ 1 rfl; have h2_ := g128_.1 3 dd_ 2 rfl; rw [show (F_ : Int) = 1 + Sx42_.1 3 dd_ 1 + Sx42_.1 3 dd_ 2 by omega]; exact inm9_)
          have c133_ : ∀ k_, Sx52_.2.2.1 55 (0 + ll_) k_ ≤ 3 := fun k_ => (hIx53_.2 55 (0 + ll_) k_).2
          have SY133_ : slv dd_ Sx52_ = slv dd_ Sx42_ := by (funext i_; unfold slv rtv; rw [hFx54_.1 3 dd_ 3 rfl, fr_arr (t := 44) (i := 0 + dd_) hFx54_ rfl, fr_arr (t := 45) (i := 0 + dd_) hFx54_ rfl, fr_arr (t := 46) (i := 0 + dd_) hFx54_ rfl])
          have Z133_ : ∀ g9_ : List (Int × List Int), (Sx52_.2.2.1 72 0, g9_) = rtq (cpn ll_ Sx42_) (cpv (1 + Sx42_.1 3 dd_ 1 + Sx42_.1 3 dd_ 2) Sx42_) (cgc ll_ Sx42_) (Sx42_.1 2 cc_ 1 + Sx42_.1 2 cc_ 2) (fun j_ => slv dd_ Sx42_ (j_ : Int)) (Sx42_.1 3 dd_ 3 + Sx42_.1 3 dd_ 2).toNat (M9_, []) → (Sx52_.2.2.1 72 0, g9_) = rtq (cpn ll_ Sx52_) (cpv (F_ : Int) Sx52_) (cgc ll_ Sx52_) ((F_ : Int) - 1) (fun j_ => slv dd_ Sx52_ (j_ : Int)) (S0_.1 3 dd_ 3 + S0_.1 3 dd_ 2).toNat (M9_, []) := fun g9_ h9_ => h9_.trans (RT133_ M9_).symm
          have N133_ : (∀ j_ : Nat, j_ < (Sx42_.1 3 dd_ 3 + Sx42_.1 3 dd_ 2).toNat → (if (j_ : Int) < Sx42_.1 3 dd_ 3 then Sx52_.2.2.1 37 (0 + cc_) j_ else Sx52_.2.2.1 38 (0 + cc_) (j_ - (Sx42_.1 3 dd_ 3).toNat)) = ntq (fun j_ => slv dd_ Sx42_ (j_ : Int)) (Sx52_.2.2.1 72 0) j_) → ∀ j_ : Nat, j_ < (S0_.1 3 dd_ 3 + S0_.1 3 dd_ 2).toNat → (if (j_ : Int) < S0_.1 3 dd_ 3 then Sx52_.2.2.1 37 (0 + cc_) j_ else Sx52_.2.2.1 38 (0 + cc_) (j_ - (S0_.1 3 dd_ 3).toNat)) = ntq (fun j_ => slv dd_ Sx52_ (j_ : Int)) (Sx52_.2.2.1 72 0) j_ := fun n9_ => by (have h3_ := g128_.1 3 dd_ 3 rfl; have h2_ := g128_.1 3 dd_ 2 rfl; rw [show Sx42_.1 3 dd_ 3 = S0_.1 3 dd_ 3 by omega, show Sx42_.1 3 dd_ 2 = S0_.1 3 dd_ 2 by omega] at n9_; rw [SY133_]; exact n9_)
          have d1_ := hFx54_.1 2 cc_ 1 rfl
          have d2_ := hFx54_.1 2 cc_ 2 rfl
          have d3_ := hFx54_.1 2 cc_ 3 rfl
          have d4_ := hFx54_.1 2 cc_ 4 rfl
          have d5_ := hFx54_.1 2 cc_ 5 rfl
          refine sm_T_b0 (a := 1) (z := 6) rfl (fun cx62_ => ?_) (fun cx62_ => ?_)
          · have cx62_ : vx57_ ≠ 0 := of_decide_eq_true cx62_
            refine sm_T_go 3 (c1 := (147, [some (.inr (.inr (some (6, 0)))), some (.inr (.inr (some (3, dd_)))), some (.inr (.inr (some (5, ll_)))), some (.inr (.inr (some (2, cc_)))), some (.inl n_)], [.inr (.inr (some (2, cc_))), .inr (.inr (some (0, (0 + cc_))))], Sx52_)) rfl ?_
            refine sm_T_cal (d1 := 2) (Q1 := vq_11 (0 + cc_) cc_ Sx52_) rfl rfl (by decide) (vc_11 (0 + cc_) cc_ Sx52_ hIx53_ (by omega)) (fun u_ Sx63_ px66_ => ?_)
            obtain ⟨rfl, hIx64_, hFx65_, px66_⟩ := px66_
            have hFx67_ : ai_fr (sx_W vw_91f) S0_ Sx63_ := ai_fr_tr hFx56_ (fr_le hFx65_ rfl)
            obtain ⟨dx69_, px66_⟩ := px66_
            have hCx68_ : cdf cc_ S0_ Sx63_ := cdf_tr hCx58_ (cdf_cg (by omega) dx69_)
            have tx70_ : Sx63_.2.1 6 0 1 = some ll_ := (hFx65_.2.1 6 0 1 rfl).trans tx60_
            have tx71_ : Sx63_.2.1 6 0 0 = some dd_ := (hFx65_.2.1 6 0 0 rfl).trans tx61_
            have sz147_ := (hFx65_.1 2 cc_ 15 rfl).trans sz133_
            have s147_ := (hFx65_.1 2 cc_ 19 rfl).trans s133_
            have b147_ := px66_
            have L147_ : clc cc_ ll_ Sx63_ Sx63_ := by (have z9_ := L133_; unfold clc at z9_ ⊢; rw [hFx65_.1 5 (3 + cc_) 1 rfl, hFx65_.1 5 (3 + cc_) 2 rfl, hFx65_.1 5 ll_ 1 rfl, hFx65_.1 5 ll_ 2 rfl, fr_arr (t := 55) (i := 0 + (3 + cc_)) hFx65_ rfl, fr_arr (t := 56) (i := 0 + (3 + cc_)) hFx65_ rfl, fr_arr (t := 57) (i := 0 + (3 + cc_)) hFx65_ rfl, fr_arr (t := 58) (i := 0 + (3 + cc_)) hFx65_ rfl, fr_arr (t := 55) (i := 0 + ll_) hFx65_ rfl, fr_arr (t := 56) (i := 0 + ll_) hFx65_ rfl, fr_arr (t := 57) (i := 0 + ll_) hFx65_ rfl, fr_arr (t := 58) (i := 0 + ll_) hFx65_ rfl]; exact z9_)
            have F147_ := hFx65_
            have BB147_ := bcm_fr BB133_.1 hFx65_
            have VV147_ : bvw ll_ Sx63_ := bvw_cg VV133_ (hFx65_.1 5 ll_ 1 rfl) (fr_arr hFx65_ rfl) (fr_arr hFx65_ rfl) (fr_arr hFx65_ rfl)
            have AL147_ : ball dd_ F_ ll_ Sx63_ := ball_cg BB133_.1 AL133_ BB147_ (fr_arr hFx65_ rfl) (fr_arr hFx65_ rfl) (fr_arr hFx65_ rfl) (fr_arr hFx65_ rfl) (fr_arr hFx65_ rfl) (fr_arr hFx65_ rfl) (fr_arr hFx65_ rfl) (hFx65_.1 5 ll_ 1 rfl) (hFx65_.1 5 ll_ 2 rfl) (fr_arr hFx65_ rfl) (fr_arr hFx65_ rfl) (fr_arr hFx65_ rfl) (fr_arr hFx65_ rfl) c133_
            have SL147_ : slv dd_ Sx63_ = slv dd_ Sx52_ := by (funext i_; unfold slv rtv; rw [hFx65_.1 3 dd_ 3 rfl, fr_arr (t := 44) (i := 0 + dd_) hFx65_ rfl, fr_arr (t := 45) (i := 0 + dd_) hFx65_ rfl, fr_arr (t := 46) (i := 0 + dd_) hFx65_ rfl])
            have IV147_ : Sx63_.1 5 ll_ 2 ≠ -1 ∨ ∀ i_ : Int, 0 ≤ i_ → i_ < S0_.1 3 dd_ 3 + S0_.1 3 dd_ 2 → slv dd_ Sx63_ i_ ≤ 1 ∨ slv dd_ Sx63_ i_ % 2 = 0 := by (rw [hFx65_.1 5 ll_ 2 rfl, SL147_]; exact IV133_)
            have RT147_ : ∀ M_ : Nat → Int, rtq (cpn ll_ Sx63_) (cpv (F_ : Int) Sx63_) (cgc ll_ Sx63_) ((F_ : Int) - 1) (fun j_ => slv dd_ Sx63_ (j_ : Int)) (S0_.1 3 dd_ 3 + S0_.1 3 dd_ 2).toNat (M_, []) = rtq (cpn ll_ Sx52_) (cpv (F_ : Int) Sx52_) (cgc ll_ Sx52_) ((F_ : Int) - 1) (fun j_ => slv dd_ Sx52_ (j_ : Int)) (S0_.1 3 dd_ 3 + S0_.1 3 dd_ 2).toNat (M_, []) := fun M_ => by (have y1_ : cpn ll_ Sx63_ = cpn ll_ Sx52_ := (by funext u_; unfold cpn; rw [fr_arr (t := 62) (i := 0) hFx65_ rfl, fr_arr (t := 55) (i := 0 + ll_) hFx65_ rfl]); have y2_ : cgc ll_ Sx63_ = cgc ll_ Sx52_ := (by funext u_; unfold cgc; rw [fr_arr (t := 62) (i := 0) hFx65_ rfl, hFx65_.1 5 ll_ 2 rfl]); have y3_ : cpv (F_ : Int) Sx63_ = cpv (F_ : Int) Sx52_ := (by funext u_ k_; unfold cpv; rw [fr_arr (t := 60) (i := 0) hFx65_ rfl, fr_arr (t := 62) (i := 0) hFx65_ rfl, fr_arr (t := 63) (i := 0) hFx65_ rfl, fr_arr (t := 64) (i := 0) hFx65_ rfl]); rw [y1_, y2_, y3_, SL147_])
            have x1_ := hFx65_.1 2 cc_ 1 rfl
            have x2_ := hFx65_.1 2 cc_ 2 rfl
            have x3_ := hFx65_.1 2 cc_ 3 rfl
            have x4_ := hFx65_.1 2 cc_ 4 rfl
            have x5_ := hFx65_.1 2 cc_ 5 rfl
            refine sm_T_go 1 (c1 := (151, [some (.inr (.inr (some (6, 0)))), some (.inr (.inr (some (3, dd_)))), some (.inr (.inr (some (5, ll_)))), some (.inr (.inr (some (2, cc_)))), some (.inl n_)], [.inl 0], Sx63_)) rfl ?_
            refine sm_T_ri rfl ⟨_, _, rfl, _, rfl, hIx64_, hFx67_, ?_⟩
            refine ⟨hCx68_, ?_⟩
            obtain ⟨g9_, c9_, x9_, n9_⟩ := X133_.1 (by omega)
            refine ⟨⟨Or.inr s147_, fun _ => ⟨s147_, sz147_⟩⟩, Or.inl ⟨rfl, by omega, b147_⟩, fun _ => L147_, BB147_.1, VV147_, Or.inr ⟨by decide, AL147_, IV147_, M9_, inm9f, Or.inr ⟨rfl, g9_, cgz_fr c9_ F147_, ?_, fun j_ hj_ => ?_⟩⟩⟩
            · rw [RT147_ M9_, fr_arr (t := 72) (i := 0) F147_ rfl]; exact Z133_ g9_ x9_
            · rw [SL147_, fr_arr (t := 72) (i := 0) F147_ rfl, fr_arr (t := 37) (i := 0 + cc_) F147_ rfl, fr_arr (t := 38) (i := 0 + cc_) F147_ rfl]; exact N133_ n9_ j_ hj_
          · have cx62_ : ¬ (vx57_ ≠ 0) := of_decide_eq_false cx62_
            refine sm_T_go 1 (c1 := (141, [some (.inr (.inr (some (6, 0)))), some (.inr (.inr (some (3, dd_)))), some (.inr (.inr (some (5, ll_)))), some (.inr (.inr (some (2, cc_)))), some (.inl n_)], [.inl (-2)], Sx52_)) rfl ?_
            refine sm_T_ri rfl ⟨_, _, rfl, _, rfl, hIx53_, hFx56_, ?_⟩
            refine ⟨hCx58_, ?_⟩
            refine ⟨⟨Or.inr s133_, fun u9_ => absurd u9_ (by decide)⟩, Or.inr (Or.inr rfl), fun u9_ => absurd u9_ (by decide), BB133_.1, VV133_, Or.inr ⟨by decide, AL133_, IV133_, M9_, inm9f, Or.inl ⟨rfl, ?_⟩⟩⟩
            rw [RT133_ M9_]
            exact X133_.2 (by omega)
        · have cx41_ : ¬ (vx40_ = 0) := of_decide_eq_false cx41_
          refine sm_T_go 1 (c1 := (118, [some (.inr (.inr (some (6, 0)))), some (.inr (.inr (some (3, dd_)))), some (.inr (.inr (some (5, ll_)))), some (.inr (.inr (some (2, cc_)))), some (.inl n_)], [.inl (-1)], S_)) rfl ?_
          refine sm_T_ri rfl ⟨_, _, rfl, _, rfl, hI_, hF_, ?_⟩
          refine ⟨hC_, ?_⟩
          refine ⟨⟨Or.inl h19_, fun u9_ => absurd u9_ (by decide)⟩, Or.inr (Or.inl rfl), fun u9_ => absurd u9_ (by decide), hbc_, hvw_, Or.inl ⟨rfl, Or.inr ⟨A9_, by omega, ?_⟩⟩⟩
          have z9_ := i111_ (by omega)
          rw [← f3_, ← f2_]
          exact z9_
    · have cx2_ : ¬ ((S_.1 3 dd_ 4) ≤ n_) := of_decide_eq_false cx2_
      refine sm_T_go 3 (c1 := (57, [some (.inr (.inr (some (6, 0)))), some (.inr (.inr (some (3, dd_)))), some (.inr (.inr (some (5, ll_)))), some (.inr (.inr (some (2, cc_)))), some (.inl n_)], [.inl n_, .inr (.inr (some (59, 0)))], S_)) rfl ?_
      refine sm_T_iald (n := 1013) rfl rfl (by omega) (by omega) ?_
      have bx72_ : 0 ≤ S_.2.2.1 59 0 n_.toNat ∧ S_.2.2.1 59 0 n_.toNat ≤ 1 := hI_.2 59 0 _
      refine sm_T_b0 (a := 0) (z := 35) rfl (fun cx73_ => ?_) (fun cx73_ => ?_)
      · have cx73_ : (S_.2.2.1 59 0 n_.toNat) = 0 := of_decide_eq_true cx73_
        refine sm_T_inc (a := 4) (z := 1) (v := n_) (w := n_ + 1) rfl rfl (by omega) (by omega) (by omega) ?_ -- pc_ 93
        refine sm_T_go 1 (c1 := (39, [some (.inr (.inr (some (6, 0)))), some (.inr (.inr (some (3, dd_)))), some (.inr (.inr (some (5, ll_)))), some (.inr (.inr (some (2, cc_)))), some (.inl (n_ + 1))], [], S_)) rfl ?_
        refine ih_ (n_ + 1) S_ hI_ hF_ ⟨?_, ?_, ?_, ?_, ?_, ?_, ?_, ?_, ?_, ?_, ?_, trivial⟩ ?_
        · omega
        · exact htk_
        · exact htk2_
        · first | exact hk_ | exact m64_
        · first | exact hrr_ | exact r64_
        · first | exact wal_z hwl_ (by omega) (by omega) | exact w64_ (Or.inl (by omega)) | exact w64_ (Or.inr (by omega)) | exact w64_ (Or.inr (by rw [← t64_]; omega))
        · first | exact s64_.trans h19_ | exact h19_
        · first | (have y8_ := B64_; exact B64_.1) | exact hbc_
        · first | (have y8_ := V64_; exact V64_) | exact hvw_
        · first | (have y8_ := C64_; intro x_ hx_ u_; rw [B64_.2.1] at hx_ ⊢; by_cases z9_ : (x_ : Int) < n_; exact D64_ x_ hx_ z9_; (rw [show x_ = n_.toNat by omega]; exact ⟨C64_, fun y9_ => by first | (exfalso; omega) | omega | (rw [← t64_]; omega)⟩)) | (intro x_ hx_ u_; by_cases z9_ : (x_ : Int) < n_; exact hcn_ x_ hx_ z9_; (exfalso; have y9_ := hx_.2.2; rw [show x_ = n_.toNat by omega] at y9_; omega))
        · exact hC_
        · omega
      · have cx73_ : ¬ ((S_.2.2.1 59 0 n_.toNat) = 0) := of_decide_eq_false cx73_
        have T9_ : btn dd_ F_ S_ n_.toNat := ⟨by omega, by omega, by (rcases (hbc_.1 n_.toNat (by omega)).1 with z9_ | z9_; (exfalso; omega); exact z9_)⟩
        have TR9_ := hbc_.2.2 n_.toNat T9_
        refine sm_T_go 2 (c1 := (64, [some (.inr (.inr (some (6, 0)))), some (.inr (.inr (some (3, dd_)))), some (.inr (.inr (some (5, ll_)))), some (.inr (.inr (some (2, cc_)))), some (.inl n_)], [.inl n_, .inr (.inr (some (6, 0)))], S_)) rfl ?_
        refine sm_T_cal (d1 := 4) (Q1 := vq_99n n_ dd_ F_ ll_ (btn dd_ F_ S_) S_) rfl rfl (by decide) (vc_99n n_ dd_ F_ ll_ (btn dd_ F_ S_) S_ hI_ (by exact htk_) (by exact htk2_) (by exact dgr_fr hg_ hF_ rfl rfl rfl rfl rfl) (by exact swp_fr hs_ hF_ rfl rfl rfl rfl) (by exact hk_) (by omega) (by omega) (by exact TR9_.1) (by (intro m9_; exact Nat.le_trans (TR9_.2 m9_) (by decide)))) (fun u_ Sx74_ px77_ => ?_)
        obtain ⟨rfl, hIx75_, hFx76_, px77_⟩ := px77_
        have hFx78_ : ai_fr (sx_W vw_91f) S0_ Sx74_ := ai_fr_tr hF_ (fr_le hFx76_ rfl)
        have hCx79_ : cdf cc_ S0_ Sx74_ := cdf_tr hC_ (cdf_fr hFx76_ rfl)
        have tx80_ : Sx74_.2.1 6 0 1 = some ll_ := (hFx76_.2.1 6 0 1 rfl).trans htk2_
        have tx81_ : Sx74_.2.1 6 0 0 = some dd_ := (hFx76_.2.1 6 0 0 rfl).trans htk_
        have ex82_ : Sx74_.1 3 dd_ 4 = S_.1 3 dd_ 4 := hFx76_.1 3 dd_ 4 rfl
        have s64_ := hFx76_.1 2 cc_ 19 rfl
        have p64_ := (px77_).1
        rw [f1_, f2_] at p64_
        have B64_ := bcm_fr hbc_ hFx76_
        have V64_ : bvw ll_ Sx74_ := bvw_cg hvw_ (hFx76_.1 5 ll_ 1 rfl) (fr_arr hFx76_ rfl) (fr_arr hFx76_ rfl) (fr_arr hFx76_ rfl)
        have W64_ := p64_.2.2
        have C64_ : cnw dd_ F_ ll_ (btn dd_ F_ S_) Sx74_ n_.toNat := by (have x9_ := (px77_).2; rw [show (2 * n_).toNat = 2 * n_.toNat by omega, show (2 * n_ + 1).toNat = 2 * n_.toNat + 1 by omega] at x9_; exact cnw_nw TR9_.1 (by omega) x9_ (fr_arr hFx76_ rfl) (fr_arr hFx76_ rfl) (fr_arr hFx76_ rfl) (fr_arr hFx76_ rfl) (fr_arr hFx76_ rfl) (fr_arr hFx76_ rfl) (fr_arr hFx76_ rfl) (hFx76_.1 5 ll_ 1 rfl) (hFx76_.1 5 ll_ 2 rfl) (fun j_ hj_ => (W64_.1 j_ (by omega) (by omega)).1))
        have D64_ : ∀ x_ : Nat, btn dd_ F_ S_ x_ → (x_ : Int) < n_ → cnw dd_ F_ ll_ (btn dd_ F_ S_) Sx74_ x_ ∧ (Sx74_.2.2.1 60 0 x_ ≠ 0 → Sx74_.2.2.1 61 0 (2 * x_) < 268435456) := fun x_ hx_ hl9_ => by (have z9_ := hcn_ x_ hx_ hl9_; refine ⟨cnw_cg (hbc_.2.2 x_ hx_).1 z9_.1 (fr_arr hFx76_ rfl) (fr_arr hFx76_ rfl) (fr_arr hFx76_ rfl) (fr_arr hFx76_ rfl) (fr_arr hFx76_ rfl) (fr_arr hFx76_ rfl) (fr_arr hFx76_ rfl) (hFx76_.1 5 ll_ 1 rfl) (hFx76_.1 5 ll_ 2 rfl) (fun j_ hj_ => (W64_.1 j_ (by omega) (by omega)).1) (fun j_ h1_ h2_ => ⟨(W64_.1 j_ (by omega) (by omega)).2.1, (W64_.1 j_ (by omega) (by omega)).2.2⟩) (fun j_ h1_ h2_ => W64_.2 j_ (by omega)) (fun k_ => (hI_.2 55 (0 + ll_) k_).2), fun y9_ => ?_⟩; rw [fr_arr (t := 60) (i := 0) hFx76_ rfl] at y9_; rw [(W64_.1 (2 * x_) (by omega) (by omega)).1]; exact z9_.2 y9_)
        have e64_ : ((n_.toNat : Nat) : Int) = n_ := by omega
        have w64_ : (Sx74_.2.2.1 60 0 n_.toNat = 0 ∨ Sx74_.2.2.1 61 0 (2 * n_.toNat) < 268435456) → wal (1 + S0_.1 3 dd_ 1 + S0_.1 3 dd_ 2) (n_ + 1) ll_ Sx74_ := fun z9_ => by (have y9_ := wal_s (n_ := n_.toNat) (by rw [e64_]; exact hwl_) p64_.2.2 (by rw [e64_, show 2 * n_.toNat = (2 * n_).toNat by omega, show (2 * n_).toNat + 1 = (2 * n_ + 1).toNat by omega]; exact p64_.1) (by rw [e64_, show 2 * n_.toNat = (2 * n_).toNat by omega, show (2 * n_).toNat + 1 = (2 * n_ + 1).toNat by omega]; exact p64_.2.1) (fun k9_ => (hI_.2 55 (0 + ll_) k9_).2) (fr_arr hFx76_ rfl) (fr_arr hFx76_ rfl) (fr_arr hFx76_ rfl) (hFx76_.1 5 ll_ 2 rfl) z9_; rw [e64_] at y9_; exact y9_)
        have m64_ := mkd_fr hk_ hFx76_
        have r64_ := rtm_fr hrr_ hFx76_
        have t64_ : (2 * n_).toNat = 2 * n_.toNat := by omega
        refine sm_T_go 3 (c1 := (73, [some (.inr (.inr (some (6, 0)))), some (.inr (.inr (some (3, dd_)))), some (.inr (.inr (some (5, ll_)))), some (.inr (.inr (some (2, cc_)))), some (.inl n_)], [.inl n_, .inr (.inr (some (60, 0)))], Sx74_)) rfl ?_
        refine sm_T_iald (n := 1013) rfl rfl (by omega) (by omega) ?_
        have bx83_ : (-2147483648) ≤ Sx74_.2.2.1 60 0 n_.toNat ∧ Sx74_.2.2.1 60 0 n_.toNat ≤ 2147483647 := hIx75_.2 60 0 _
        refine sm_T_b0 (a := 0) (z := 19) rfl (fun cx84_ => ?_) (fun cx84_ => ?_)
        · have cx84_ : (Sx74_.2.2.1 60 0 n_.toNat) = 0 := of_decide_eq_true cx84_
          refine sm_T_inc (a := 4) (z := 1) (v := n_) (w := n_ + 1) rfl rfl (by omega) (by omega) (by omega) ?_ -- pc_ 93
          refine sm_T_go 1 (c1 := (39, [some (.inr (.inr (some (6, 0)))), some (.inr (.inr (some (3, dd_)))), some (.inr (.inr (some (5, ll_)))), some (.inr (.inr (some (2, cc_)))), some (.inl (n_ + 1))], [], Sx74_)) rfl ?_
          refine ih_ (n_ + 1) Sx74_ hIx75_ hFx78_ ⟨?_, ?_, ?_, ?_, ?_, ?_, ?_, ?_, ?_, ?_, ?_, trivial⟩ ?_
          · omega
          · exact tx81_
          · exact tx80_
          · first | exact hk_ | exact m64_
          · first | exact hrr_ | exact r64_
          · first | exact wal_z hwl_ (by omega) (by omega) | exact w64_ (Or.inl (by omega)) | exact w64_ (Or.inr (by omega)) | exact w64_ (Or.inr (by rw [← t64_]; omega))
          · first | exact s64_.trans h19_ | exact h19_
          · first | (have y8_ := B64_; exact B64_.1) | exact hbc_
          · first | (have y8_ := V64_; exact V64_) | exact hvw_
          · first | (have y8_ := C64_; intro x_ hx_ u_; rw [B64_.2.1] at hx_ ⊢; by_cases z9_ : (x_ : Int) < n_; exact D64_ x_ hx_ z9_; (rw [show x_ = n_.toNat by omega]; exact ⟨C64_, fun y9_ => by first | (exfalso; omega) | omega | (rw [← t64_]; omega)⟩)) | (intro x_ hx_ u_; by_cases z9_ : (x_ : Int) < n_; exact hcn_ x_ hx_ z9_; (exfalso; have y9_ := hx_.2.2; rw [show x_ = n_.toNat by omega] at y9_; omega))
          · exact hCx79_
          · omega
        · have cx84_ : ¬ ((Sx74_.2.2.1 60 0 n_.toNat) = 0) := of_decide_eq_false cx84_
          refine sm_T_go 4 (c1 := (84, [some (.inr (.inr (some (6, 0)))), some (.inr (.inr (some (3, dd_)))), some (.inr (.inr (some (5, ll_)))), some (.inr (.inr (some (2, cc_)))), some (.inl n_)], [.inl n_, .inl 2, .inr (.inr (some (61, 0)))], Sx74_)) rfl ?_
          refine sm_T_bin (w := 2 * n_) rfl (bi_mul (by omega) (by omega) (by omega)) ?_ -- pc_ 84
          refine sm_T_iald (n := 2026) rfl rfl (by omega) (by omega) ?_
          have bx85_ : 0 ≤ Sx74_.2.2.1 61 0 (2 * n_).toNat ∧ Sx74_.2.2.1 61 0 (2 * n_).toNat ≤ 268435456 := hIx75_.2 61 0 _
          refine sm_T_nt (u := some (.inl 268435456)) (S1 := Sx74_) rfl rfl rfl ?_
          refine sm_T_br (a := 2) (z := 5) rfl (fun cx86_ => ?_) (fun cx86_ => ?_)
          · have cx86_ : (Sx74_.2.2.1 61 0 (2 * n_).toNat) < 268435456 := of_decide_eq_true cx86_
            refine sm_T_inc (a := 4) (z := 1) (v := n_) (w := n_ + 1) rfl rfl (by omega) (by omega) (by omega) ?_ -- pc_ 93
            refine sm_T_go 1 (c1 := (39, [some (.inr (.inr (some (6, 0)))), some (.inr (.inr (some (3, dd_)))), some (.inr (.inr (some (5, ll_)))), some (.inr (.inr (some (2, cc_)))), some (.inl (n_ + 1))], [], Sx74_)) rfl ?_
            refine ih_ (n_ + 1) Sx74_ hIx75_ hFx78_ ⟨?_, ?_, ?_, ?_, ?_, ?_, ?_, ?_, ?_, ?_, ?_, trivial⟩ ?_
            · omega
            · exact tx81_
            · exact tx80_
            · first | exact hk_ | exact m64_
            · first | exact hrr_ | exact r64_
            · first | exact wal_z hwl_ (by omega) (by omega) | exact w64_ (Or.inl (by omega)) | exact w64_ (Or.inr (by omega)) | exact w64_ (Or.inr (by rw [← t64_]; omega))
            · first | exact s64_.trans h19_ | exact h19_
            · first | (have y8_ := B64_; exact B64_.1) | exact hbc_
            · first | (have y8_ := V64_; exact V64_) | exact hvw_
            · first | (have y8_ := C64_; intro x_ hx_ u_; rw [B64_.2.1] at hx_ ⊢; by_cases z9_ : (x_ : Int) < n_; exact D64_ x_ hx_ z9_; (rw [show x_ = n_.toNat by omega]; exact ⟨C64_, fun y9_ => by first | (exfalso; omega) | omega | (rw [← t64_]; omega)⟩)) | (intro x_ hx_ u_; by_cases z9_ : (x_ : Int) < n_; exact hcn_ x_ hx_ z9_; (exfalso; have y9_ := hx_.2.2; rw [show x_ = n_.toNat by omega] at y9_; omega))
            · exact hCx79_
            · omega
          · have cx86_ : ¬ ((Sx74_.2.2.1 61 0 (2 * n_).toNat) < 268435456) := of_decide_eq_false cx86_
            refine sm_T_go 1 (c1 := (92, [some (.inr (.inr (some (6, 0)))), some (.inr (.inr (some (3, dd_)))), some (.inr (.inr (some (5, ll_)))), some (.inr (.inr (some (2, cc_)))), some (.inl n_)], [.inl (-1)], Sx74_)) rfl ?_
            refine sm_T_ri rfl ⟨_, _, rfl, _, rfl, hIx75_, hFx78_, ?_⟩
            refine ⟨hCx79_, ?_⟩
            refine ⟨⟨Or.inl (s64_.trans h19_), fun u9_ => absurd u9_ (by decide)⟩, Or.inr (Or.inl rfl), fun u9_ => absurd u9_ (by decide), B64_.1, V64_, Or.inl ⟨rfl, Or.inl ⟨n_.toNat, by (rw [B64_.2.1]; exact T9_), by omega, by (rw [← t64_]; omega), fun x_ hx_ hl9_ => ?_⟩⟩⟩
            rw [B64_.2.1] at hx_ ⊢
            by_cases z9_ : (x_ : Int) < n_
            · exact (D64_ x_ hx_ z9_).1
            · rw [show x_ = n_.toNat by omega]; exact C64_
set_option maxHeartbeats 4000000 in
theorem vc_91f {sc_ : Nat × (Nat → Int)} (dd_ : Nat) (ll_ : Nat) (cc_ : Nat) (F_ : Nat) (S0_ : sm_S) (hI_ : gi S0_) (hls_ : 0 ≤ S0_.1 2 cc_ 19 ∧ S0_.1 2 cc_ 19 ≤ 1000000) (hsw : swd F_ (S0_.1 3 dd_ 4).toNat (S0_.2.2.1 42 (0 + dd_)) (S0_.2.2.1 43 (0 + dd_)) (S0_.2.2.1 44 (0 + dd_))) (hok_ : dOk dd_ S0_) (hg_ : dgr dd_ F_ S0_) (hr_ : drt dd_ S0_) (hs_ : swp dd_ F_ S0_) (hl_ : ll_ < 3) : sm_T (mt_P sc_) 6 91 (0, [some (.inr (.inr (some (6, 0)))), some (.inr (.inr (some (3, dd_)))), some (.inr (.inr (some (5, ll_)))), some (.inr (.inr (some (2, cc_)))), none], [], S0_) (fun ro9_ => ∃ u_ S1_, ro9_ = (.inl u_, S1_, 0) ∧ vq_91f dd_ ll_ cc_ F_ S0_ u_ S1_) := by
  have hF_ : ai_fr (sx_W vw_91f) S0_ S0_ := ai_fr_rf
  have hC_ : cdf cc_ S0_ S0_ := cdf_rf
  have g1_ := hg_.1
  have g2_ := hg_.2.1
  have r1_ := hr_.1
  have hIx1_ : gi (sm_pR S0_ 6 0 0 (some dd_)) := gi_pR hI_
  have hFx2_ : ai_fr (sx_W vw_91f) S0_ (sm_pR S0_ 6 0 0 (some dd_)) := ai_fr_tr hF_ (ai_fr_pR rfl)
  have tx3_ : (sm_pR S0_ 6 0 0 (some dd_)).2.1 6 0 0 = some dd_ := (sm_up_self (f := S0_.2.1) (t := 6) (i := 0) (k := 0) (v := some dd_))
  have hCx4_ : cdf cc_ S0_ (sm_pR S0_ 6 0 0 (some dd_)) := cdf_pR hC_
  have hIx5_ : gi (sm_pR (sm_pR S0_ 6 0 0 (some dd_)) 6 0 1 (some ll_)) := gi_pR hIx1_
  have hFx6_ : ai_fr (sx_W vw_91f) S0_ (sm_pR (sm_pR S0_ 6 0 0 (some dd_)) 6 0 1 (some ll_)) := ai_fr_tr hFx2_ (ai_fr_pR rfl)
  have tx7_ : (sm_pR (sm_pR S0_ 6 0 0 (some dd_)) 6 0 1 (some ll_)).2.1 6 0 0 = some dd_ := (sm_up_ne (f := (sm_pR S0_ 6 0 0 (some dd_)).2.1) (t := 6) (i := 0) (k := 1) (v := some ll_) (by decide)).trans tx3_
  have tx8_ : (sm_pR (sm_pR S0_ 6 0 0 (some dd_)) 6 0 1 (some ll_)).2.1 6 0 1 = some ll_ := sm_up_self (f := (sm_pR S0_ 6 0 0 (some dd_)).2.1) (t := 6) (i := 0) (k := 1) (v := some ll_)
  have hCx9_ : cdf cc_ S0_ (sm_pR (sm_pR S0_ 6 0 0 (some dd_)) 6 0 1 (some ll_)) := cdf_pR hCx4_
  refine sm_T_go 7 (c1 := (11, [some (.inr (.inr (some (6, 0)))), some (.inr (.inr (some (3, dd_)))), some (.inr (.inr (some (5, ll_)))), some (.inr (.inr (some (2, cc_)))), none], [.inr (.inr (some (6, 0)))], sm_pR (sm_pR S0_ 6 0 0 (some dd_)) 6 0 1 (some ll_))) rfl ?_
  refine sm_T_gr rfl rfl tx7_ ?_
  refine sm_T_go 2 (c1 := (18, [some (.inr (.inr (some (6, 0)))), some (.inr (.inr (some (3, dd_)))), some (.inr (.inr (some (5, ll_)))), some (.inr (.inr (some (2, cc_)))), none], [.inr (.inr (some (59, 0))), .inr (.inr (some (3, dd_)))], sm_pR (sm_pR S0_ 6 0 0 (some dd_)) 6 0 1 (some ll_))) rfl ?_
  refine sm_T_cal (d1 := 1) (Q1 := vq_67mn dd_ F_ (sm_pR (sm_pR S0_ 6 0 0 (some dd_)) 6 0 1 (some ll_))) rfl rfl (by decide) (vc_67mn dd_ F_ (sm_pR (sm_pR S0_ 6 0 0 (some dd_)) 6 0 1 (some ll_)) hIx5_ (by exact dgr_fr hg_ hFx6_ rfl rfl rfl rfl rfl) (by exact drt_fr hr_ hFx6_ rfl rfl rfl rfl rfl) (by exact swp_fr hs_ hFx6_ rfl rfl rfl rfl)) (fun u_ Sx10_ px13_ => ?_)
  obtain ⟨vx15_, rfl, hIx11_, hFx12_, px13_⟩ := px13_
  have hFx14_ : ai_fr (sx_W vw_91f) S0_ Sx10_ := ai_fr_tr hFx6_ (fr_le hFx12_ rfl)
  have hCx16_ : cdf cc_ S0_ Sx10_ := cdf_tr hCx9_ (cdf_fr hFx12_ rfl)
  have tx17_ : Sx10_.2.1 6 0 1 = some ll_ := (hFx12_.2.1 6 0 1 rfl).trans tx8_
  have tx18_ : Sx10_.2.1 6 0 0 = some dd_ := (hFx12_.2.1 6 0 0 rfl).trans tx7_
  have s18_ := hFx12_.1 2 cc_ 19 rfl
  have k18_ := (px13_).1.2
  have b18_ := bnd_fr (dd_ := dd_) (F_ := F_) hFx12_
  have nf18_ : ∀ q_ : Nat, (q_ : Int) < Sx10_.1 3 dd_ 4 → (Sx10_.2.2.1 59 0 q_ = 0 ∨ Sx10_.2.2.1 59 0 q_ = 1) ∧ (Sx10_.2.2.1 59 0 q_ = 1 ↔ bnd9 dd_ F_ Sx10_ q_ = true) := fun q_ hq_ => by (have c9_ : Sx10_.1 3 dd_ 4 ≤ 1013 := (hIx11_.1 3 dd_ 4 rfl).2; refine ⟨by (rcases k18_.1 q_ (by omega) with z9_ | z9_; exact Or.inl z9_; exact Or.inr z9_.1), ?_⟩; rw [b18_.1]; exact (px13_).2.2 q_ (by (have z9_ := hFx12_.1 3 dd_ 4 rfl; omega)))
  refine sm_T_go 2 (c1 := (23, [some (.inr (.inr (some (6, 0)))), some (.inr (.inr (some (3, dd_)))), some (.inr (.inr (some (5, ll_)))), some (.inr (.inr (some (2, cc_)))), none], [.inr (.inr (some (6, 0)))], Sx10_)) rfl ?_
  refine sm_T_cal (d1 := 2) (Q1 := vq_95n dd_ F_ Sx10_) rfl rfl (by decide) (vc_95n dd_ F_ Sx10_ hIx11_ (by exact tx18_) (by exact drt_fr hr_ hFx14_ rfl rfl rfl rfl rfl) (by exact dgr_fr hg_ hFx14_ rfl rfl rfl rfl rfl) (by exact swp_fr hs_ hFx14_ rfl rfl rfl rfl) (by exact nf18_)) (fun u_ Sx19_ px22_ => ?_)
  obtain ⟨rfl, hIx20_, hFx21_, px22_⟩ := px22_
  have hFx23_ : ai_fr (sx_W vw_91f) S0_ Sx19_ := ai_fr_tr hFx14_ (fr_le hFx21_ rfl)
  have hCx24_ : cdf cc_ S0_ Sx19_ := cdf_tr hCx16_ (cdf_fr hFx21_ rfl)
  have tx25_ : Sx19_.2.1 6 0 1 = some ll_ := (hFx21_.2.1 6 0 1 rfl).trans tx17_
  have tx26_ : Sx19_.2.1 6 0 0 = some dd_ := (hFx21_.2.1 6 0 0 rfl).trans tx18_
  have s23_ := hFx21_.1 2 cc_ 19 rfl
  have q23_ : rtm dd_ Sx19_ := rtm_of (px22_).2 hFx21_
  have k23_ := mkd_fr k18_ hFx21_
  have b23_ := bnd_fr (dd_ := dd_) (F_ := F_) hFx21_
  have z23_ := hFx21_.1 3 dd_ 4 rfl
  have y23_ : Sx19_.2.2.1 59 0 = _ := fr_arr (t := 59) (i := 0) hFx21_ rfl
  have nf23_ : ∀ q_ : Nat, (q_ : Int) < Sx19_.1 3 dd_ 4 → (Sx19_.2.2.1 59 0 q_ = 0 ∨ Sx19_.2.2.1 59 0 q_ = 1) ∧ (Sx19_.2.2.1 59 0 q_ = 1 ↔ bnd9 dd_ F_ Sx19_ q_ = true) := fun q_ hq_ => by (rw [y23_, b23_.1]; exact nf18_ q_ (by omega))
  have u23_ : ∀ q_ : Nat, (q_ : Int) < Sx19_.1 3 dd_ 4 → Sx19_.2.2.1 60 0 q_ = if 1 < bus dd_ F_ Sx19_ q_ then 1 else 0 := fun q_ hq_ => by (rw [b23_.2]; exact (px22_).1 q_ (by omega))
  have B23_ : bcm dd_ F_ Sx19_ := bcm_of (dgr_fr hg_ hFx23_ rfl rfl rfl rfl rfl) (swp_fr hs_ hFx23_ rfl rfl rfl rfl) k23_ (by (rw [hFx23_.1 3 dd_ 4 rfl, fr_arr (t := 42) (i := 0 + dd_) hFx23_ rfl, fr_arr (t := 43) (i := 0 + dd_) hFx23_ rfl, fr_arr (t := 44) (i := 0 + dd_) hFx23_ rfl]; exact hsw)) ((hIx20_).1 3 dd_ 4 rfl).2 nf23_ u23_
  refine sm_T_go 1 (c1 := (27, [some (.inr (.inr (some (6, 0)))), some (.inr (.inr (some (3, dd_)))), some (.inr (.inr (some (5, ll_)))), some (.inr (.inr (some (2, cc_)))), none], [.inr (.inr (some (6, 0)))], Sx19_)) rfl ?_
  refine sm_T_cal (d1 := 1) (Q1 := vq_97n ll_ Sx19_) rfl rfl (by decide) (vc_97n ll_ Sx19_ hIx20_ (by exact tx25_)) (fun u_ Sx27_ px30_ => ?_)
  obtain ⟨rfl, hIx28_, hFx29_, px30_⟩ := px30_
  have hFx31_ : ai_fr (sx_W vw_91f) S0_ Sx27_ := ai_fr_tr hFx23_ (fr_le hFx29_ rfl)
  have hCx32_ : cdf cc_ S0_ Sx27_ := cdf_tr hCx24_ (cdf_fr hFx29_ rfl)
  have tx33_ : Sx27_.2.1 6 0 1 = some ll_ := (hFx29_.2.1 6 0 1 rfl).trans tx25_
  have tx34_ : Sx27_.2.1 6 0 0 = some dd_ := (hFx29_.2.1 6 0 0 rfl).trans tx26_
  have s27_ := hFx29_.1 2 cc_ 19 rfl
  have B27_ := (bcm_fr B23_ hFx29_).1
  have V27_ : bvw ll_ Sx27_ := fun c_ v_ a_ b_ d_ => by (rw [hFx29_.1 5 ll_ 1 rfl] at a_; rw [fr_arr (t := 55) (i := 0 + ll_) hFx29_ rfl] at b_ d_; have z9_ := px30_ c_ v_ a_ b_ d_; unfold vwd at z9_ ⊢; rw [fr_arr (t := 55) (i := 0 + ll_) hFx29_ rfl, fr_arr (t := 56) (i := 0 + ll_) hFx29_ rfl]; exact z9_)
  have q27_ := rtm_fr q23_ hFx29_
  have k27_ := mkd_fr k23_ hFx29_
  have z1_ := hFx31_.1 3 dd_ 1 rfl
  have z2_ := hFx31_.1 3 dd_ 2 rfl
  refine sm_T_go 1 (c1 := (31, [some (.inr (.inr (some (6, 0)))), some (.inr (.inr (some (3, dd_)))), some (.inr (.inr (some (5, ll_)))), some (.inr (.inr (some (2, cc_)))), none], [.inr (.inr (some (6, 0)))], Sx27_)) rfl ?_
  refine sm_T_gr rfl rfl tx34_ ?_
  refine sm_T_cal (d1 := 0) (Q1 := vq_63 dd_ Sx27_) rfl rfl (by decide) (vc_63 dd_ Sx27_ hIx28_ (by omega)) (fun u_ Sx35_ px38_ => ?_)
  obtain ⟨rfl, vx40_, rfl, px38_⟩ := px38_
  have a34_ := px38_
  refine sm_T_go 1 (c1 := (39, [some (.inr (.inr (some (6, 0)))), some (.inr (.inr (some (3, dd_)))), some (.inr (.inr (some (5, ll_)))), some (.inr (.inr (some (2, cc_)))), some (.inl vx40_)], [], Sx27_)) rfl ?_
  refine (vl_91f dd_ ll_ cc_ F_ S0_ hls_ hsw hok_ hg_ hr_ hs_ hl_ _) vx40_ Sx27_ hIx28_ hFx31_ ⟨?_, ?_, ?_, ?_, ?_, ?_, ?_, ?_, ?_, ?_, ?_, trivial⟩ (Nat.lt_succ_self _)
  · omega
  · exact tx34_
  · exact tx33_
  · exact k27_
  · exact q27_
  · (intro k9_ u9_ w9_ y9_; exfalso; omega)
  · exact s27_.trans (s23_.trans s18_)
  · exact B27_
  · exact V27_
  · (intro x_ hx_ u_; exfalso; have z9_ := hx_.1; omega)
  · exact hCx32_

/-- what map_ does to_ the_ tester and the_ new_ chip's set_ -/
def mpu (cc_ : Nat) (S0_ S1_ : sm_S) : Prop := (S1_.1 2 cc_ 0 = 0 ∧ S1_.1 9 0 2 = S0_.1 9 0 2 ∧ S1_.1 9 0 3 = S0_.1 9 0 3 ∧ S1_.2.2.2 92 0 = S0_.2.2.2 92 0 ∧ S1_.2.2.2 95 0 = S0_.2.2.2 95 0 ∧ S1_.2.2.1 96 0 = S0_.2.2.1 96 0) ∨ ((tok9 cc_ S1_ ∧ S1_.1 2 cc_ 15 = -1) ∧ S1_.2.1 9 0 0 = some cc_ ∧ S1_.1 9 0 1 = S1_.1 2 cc_ 19)
/-! ChipFlow.map -/
def vw_230f : sx_Wl := ([(0, 1), (0, 11), (0, 16), (2, 0), (2, 1), (2, 2), (2, 3), (2, 4), (2, 5), (2, 8), (2, 14), (2, 15), (2, 19), (4, 0), (5, 1), (5, 2), (6, 11), (6, 13), (9, 1), (9, 2), (9, 3)], [16, 17, 18, 19, 20, 21, 34, 35, 36, 37, 38, 39, 55, 56, 57, 58, 59, 60, 61, 62, 63, 64, 65, 66, 67, 68, 69, 70, 71, 72, 73, 92, 93, 94, 96], [(6, 0), (6, 1), (9, 0)])
def vq_230f (aa_ : Int) (lb_ : Int) (S0_ : sm_S) (u_ : Option sm_V) (S1_ : sm_S) : Prop := ∃ v_ : Int, u_ = some (.inl v_) ∧ gi S1_ ∧ ai_fr (sx_W vw_230f) S0_ S1_ ∧ (jC S1_ ∧ lbs S0_ S1_ ∧ oka_map aa_ lb_ S0_ ∧ ∃ cc_ F_ : Nat, mpt cc_ S0_ S1_ ∧ mpu cc_ S0_ S1_ ∧ fch cc_ S0_ ∧ mpc aa_.toNat F_ lb_.toNat cc_ S0_ S1_ v_)
def vx_230f (aa_ : Int) (lb_ : Int) (S0_ : sm_S) (ex_ : Nat) (S1_ : sm_S) : Prop := gi S1_ ∧ ai_fr (sx_W vw_230f) S0_ S1_ ∧ (S1_ = S0_ ∧ ((ex_ = 0 ∧ ¬ oka_map aa_ lb_ S0_) ∨ (ex_ = 3 ∧ oka_map aa_ lb_ S0_ ∧ ¬ ∃ c_ : Nat, fch c_ S0_)))
set_option maxHeartbeats 400000 in
theorem vc_230f {sc_ : Nat × (Nat → Int)} (aa_ : Int) (lb_ : Int) (S0_ : sm_S) (hI_ : gi S0_) (hJ_ : jC S0_) (hts_ : ∀ c9_ : Nat, c9_ < 4 → tsk c9_ S0_) (hsw : imq (0 ≤ aa_ ∧ aa_ < 6 ∧ S0_.1 3 aa_.toNat 0 = 1) (swd (1 + S0_.1 3 aa_.toNat 1 + S0_.1 3 aa_.toNat 2).toNat (S0_.1 3 aa_.toNat 4).toNat (S0_.2.2.1 42 (0 + aa_.toNat)) (S0_.2.2.1 43 (0 + aa_.toNat)) (S0_.2.2.1 44 (0 + aa_.toNat)))) : sm_T (mt_P sc_) 7 230 (0, [some (.inr (.inr (some (12, 0)))), some (.inl aa_), some (.inl lb_), none, none, none, none], [], S0_) (fun ro9_ => (∃ u_ S1_, ro9_ = (.inl u_, S1_, 0) ∧ vq_230f aa_ lb_ S0_ u_ S1_) ∨ ∃ ex_ S1_, ro9_ = (.inr ex_, S1_, 1) ∧ ex_ ∈ ([0, 3] : List Nat) ∧ vx_230f aa_ lb_ S0_ ex_ S1_) := by
  have hF_ : ai_fr (sx_W vw_230f) S0_ S0_ := ai_fr_rf
  refine sm_T_go 2 (c1 := (2, [some (.inr (.inr (some (12, 0)))), some (.inl aa_), some (.inl lb_), none, none, none, none], [.inl aa_, .inr (.inr (some (12, 0)))], S0_)) rfl ?_
  refine sm_T_cale (d1_ := 1) (Q1_ := vq_270t aa_ S0_) (Q2_ := (fun ex_ S1_ => ex_ ∈ ([0] : List Nat) ∧ vx_270t aa_ S0_ S1_)) rfl rfl (by decide) (vc_270t aa_ S0_ hI_ ) rfl (fun xx6_ Sx1_ px4_ => ?_) (fun u_ Sx1_ px4_ => ?_)
  · obtain ⟨px4m, hIx2_, hFx3_, px4_⟩ := px4_
    refine Or.inr ⟨_, _, rfl, by first | exact px4m | (simp only [List.mem_cons, List.not_mem_nil, or_false] at px4m ⊢; omega), hIx2_, ai_fr_tr hF_ (fr_le hFx3_ rfl), ?_⟩
    exact ⟨px4_.1, Or.inl ⟨List.mem_singleton.mp px4m, fun y9_ => px4_.2 y9_.1⟩⟩
  obtain ⟨rfl, -, -, rfl, px4_⟩ := px4_
  have d1_ := px4_
  have k1_ := hJ_.1 aa_.toNat (by omega) d1_.2
  have b1_ := dOk_b k1_
  have x1_ := b1_.1
  have y1_ := b1_.2.1
  obtain ⟨F9_, hg9_, hr9_, hs9_, -⟩ := hJ_.1 aa_.toNat (by omega) d1_.2
  refine sm_T_go 3 (c1 := (8, [some (.inr (.inr (some (12, 0)))), some (.inl aa_), some (.inl lb_), some (.inr (.inr (some (3, aa_.toNat)))), none, none, none], [.inl lb_, .inr (.inr (some (12, 0)))], S0_)) rfl ?_
  refine sm_T_cale (d1_ := 1) (Q1_ := vq_271t lb_ S0_) (Q2_ := (fun ex_ S1_ => ex_ ∈ ([0] : List Nat) ∧ vx_271t lb_ S0_ S1_)) rfl rfl (by decide) (vc_271t lb_ S0_ hI_ ) rfl (fun xx12_ Sx7_ px10_ => ?_) (fun u_ Sx7_ px10_ => ?_)
  · obtain ⟨px10m, hIx8_, hFx9_, px10_⟩ := px10_
    refine Or.inr ⟨_, _, rfl, by first | exact px10m | (simp only [List.mem_cons, List.not_mem_nil, or_false] at px10m ⊢; omega), hIx8_, ai_fr_tr hF_ (fr_le hFx9_ rfl), ?_⟩
    exact ⟨px10_.1, Or.inl ⟨List.mem_singleton.mp px10m, fun y9_ => px10_.2 y9_.2⟩⟩
  obtain ⟨rfl, -, -, rfl, px10_⟩ := px10_
  have l8_ := px10_
  refine sm_T_go 2 (c1 := (14, [some (.inr (.inr (some (12, 0)))), some (.inl aa_), some (.inl lb_), some (.inr (.inr (some (3, aa_.toNat)))), some (.inr (.inr (some (5, lb_.toNat)))), none, none], [.inr (.inr (some (12, 0)))], S0_)) rfl ?_
  refine sm_T_cal (d1 := 0) (Q1 := vq_275n  S0_) rfl rfl (by decide) (vc_275n  S0_ hI_ ) (fun u_ Sx13_ px16_ => ?_)
  obtain ⟨rfl, vx18_, rfl, px16_⟩ := px16_
  have g14_ := px16_
  have FR14_ : imq (vx18_ ≠ -1) (fch (vx18_).toNat S0_) := fun z9_ => by (rcases px16_ with y9_ | ⟨u9_, y1_, y2_, y3_, y4_⟩; exact absurd y9_.1 z9_; (rw [y1_]; exact ⟨y2_, y3_, y4_⟩))
  have f14_ : vx18_ = -1 ∨ (0 ≤ vx18_ ∧ vx18_ < 4 ∧ S0_.1 2 (vx18_).toNat 0 = 0) := by (rcases px16_ with y9_ | ⟨u9_, y1_, y2_, y3_, y4_⟩; exact Or.inl y9_.1; (right; rw [y1_]; exact ⟨by omega, by omega, y3_⟩))
  refine sm_T_go 3 (c1 := (22, [some (.inr (.inr (some (12, 0)))), some (.inl aa_), some (.inl lb_), some (.inr (.inr (some (3, aa_.toNat)))), some (.inr (.inr (some (5, lb_.toNat)))), some (.inl vx18_), none], [.inl (-1), .inl vx18_], S0_)) rfl ?_
  refine sm_T_br (a := 0) (z := 7) rfl (fun cx19_ => ?_) (fun cx19_ => ?_)
  · have cx19_ : vx18_ = (-1) := of_decide_eq_true cx19_
    refine sm_T_go 1 (c1 := (30, [some (.inr (.inr (some (12, 0)))), some (.inl aa_), some (.inl lb_), some (.inr (.inr (some (3, aa_.toNat)))), some (.inr (.inr (some (5, lb_.toNat)))), some (.inl vx18_), none], [.inl 0], S0_)) rfl ?_
    refine sm_T_cale (d1_ := 0) (Q1_ := vq_268e 0 S0_) (Q2_ := (fun ex_ S1_ => ex_ ∈ ([3] : List Nat) ∧ vx_268e 0 S0_ S1_)) rfl rfl (by decide) (vc_268e 0 S0_ hI_ ) rfl (fun xx25_ Sx20_ px23_ => ?_) (fun u_ Sx20_ px23_ => ?_)
    · obtain ⟨px23m, hIx21_, hFx22_, px23_⟩ := px23_
      refine Or.inr ⟨_, _, rfl, by first | exact px23m | (simp only [List.mem_cons, List.not_mem_nil, or_false] at px23m ⊢; omega), hIx21_, ai_fr_tr hF_ (fr_le hFx22_ rfl), ?_⟩
      exact ⟨px23_.2, Or.inr ⟨List.mem_singleton.mp px23m, by (unfold oka_map; omega), fun ⟨c9_, k1x, k2x, k3x⟩ => by (rcases g14_ with y9_ | ⟨u9_, y1_, y2_, y3_, y4_⟩; (have z9_ := y9_.2 c9_ k1x; omega); omega)⟩⟩
    · exact absurd rfl px23_.2.2.2.1
  · have cx19_ : ¬ (vx18_ = (-1)) := of_decide_eq_false cx19_
    refine sm_T_go 2 (c1 := (30, [some (.inr (.inr (some (12, 0)))), some (.inl aa_), some (.inl lb_), some (.inr (.inr (some (3, aa_.toNat)))), some (.inr (.inr (some (5, lb_.toNat)))), some (.inl vx18_), none], [.inl 1], S0_)) rfl ?_
    refine sm_T_cale (d1_ := 0) (Q1_ := vq_268e 1 S0_) (Q2_ := (fun ex_ S1_ => ex_ ∈ ([3] : List Nat) ∧ vx_268e 1 S0_ S1_)) rfl rfl (by decide) (vc_268e 1 S0_ hI_ ) rfl (fun xx31_ Sx26_ px29_ => ?_) (fun u_ Sx26_ px29_ => ?_)
    · exact absurd px29_.2.2.2.1 (by decide)
    obtain ⟨rfl, -, -, px29_, rfl⟩ := px29_
    refine sm_T_go 7 (c1 := (46, [some (.inr (.inr (some (12, 0)))), some (.inl aa_), some (.inl lb_), some (.inr (.inr (some (3, aa_.toNat)))), some (.inr (.inr (some (5, lb_.toNat)))), some (.inl vx18_), none], [.inl vx18_, .inr (.inr (some (112, 0))), .inr (.inr (some (5, lb_.toNat))), .inr (.inr (some (3, aa_.toNat))), .inr (.inr (some (6, 0)))], S0_)) rfl ?_
    refine sm_T_aald (t0 := 6) (n := 4) rfl rfl (by omega) (by omega) ?_
    refine sm_T_cal (d1 := 6) (Q1 := vq_91f aa_.toNat lb_.toNat vx18_.toNat F9_ S0_) rfl rfl (by decide) (vc_91f aa_.toNat lb_.toNat vx18_.toNat F9_ S0_ hI_ (by exact (hts_ _ (by omega)).1) (by (have z9_ := hsw (by omega); have g91_ := hg9_.1; have g92_ := hg9_.2.1; rw [show (1 + S0_.1 3 aa_.toNat 1 + S0_.1 3 aa_.toNat 2).toNat = F9_ by omega] at z9_; exact z9_)) (by exact k1_) (by exact hg9_) (by exact hr9_) (by exact hs9_) (by omega)) (fun u_ Sx32_ px35_ => ?_)
    obtain ⟨vx37_, rfl, hIx33_, hFx34_, px35_⟩ := px35_
    have hFx36_ : ai_fr (sx_W vw_230f) S0_ Sx32_ := ai_fr_tr hF_ (fr_le hFx34_ rfl)
    obtain ⟨dx38_, px35_⟩ := px35_
    have c47_ := dx38_
    have s47_ := (px35_).1
    have t47a := hFx34_.2.1 9 0 0 rfl
    have t47b := hFx34_.1 9 0 1 rfl
    have t47c := hFx34_.1 9 0 2 rfl
    have t47d := hFx34_.1 9 0 3 rfl
    have t47e := fr_lon (t_ := 92) (i_ := 0) hFx34_ rfl
    have t47f := fr_lon (t_ := 95) (i_ := 0) hFx34_ rfl
    have t47g := fr_arr (t := 96) (i := 0) hFx34_ rfl
    have p47_ := (px35_).2.1
    have L47_ := (px35_).2.2.1
    have BC47_ := (px35_).2.2.2.1
    have BV47_ := (px35_).2.2.2.2.1
    have PC47_ := bpc_of (px35_).2.2.2.2.2 (hFx34_.1 3 aa_.toNat 3 rfl) (hFx34_.1 3 aa_.toNat 2 rfl)
    have i47_ := hIx33_
    have g91_ := hg9_.1
    have g92_ := hg9_.2.1
    have z47_ := hFx34_.1 3 aa_.toNat 1 rfl
    have y47_ := hFx34_.1 3 aa_.toNat 2 rfl
    have x47_ := hFx34_.1 3 aa_.toNat 3 rfl
    have w47_ := hFx34_.1 3 aa_.toNat 5 rfl
    have u470_ := FR14_ (by omega)
    have u47_ := fun q9_ => hFx34_.1 2 q9_ 0 rfl
    refine sm_T_go 2 (c1 := (54, [some (.inr (.inr (some (12, 0)))), some (.inl aa_), some (.inl lb_), some (.inr (.inr (some (3, aa_.toNat)))), some (.inr (.inr (some (5, lb_.toNat)))), some (.inl vx18_), some (.inl vx37_)], [.inl vx37_], Sx32_)) rfl ?_
    refine sm_T_b0 (a := 0) (z := 6) rfl (fun cx39_ => ?_) (fun cx39_ => ?_)
    · have cx39_ : vx37_ = 0 := of_decide_eq_true cx39_
      have p46_ := p47_.resolve_right (by omega)
      have e1_ := p46_.2.1.1
      have e2_ := p46_.2.1.2.1
      refine sm_T_go 5 (c1 := (70, [some (.inr (.inr (some (12, 0)))), some (.inl aa_), some (.inl lb_), some (.inr (.inr (some (3, aa_.toNat)))), some (.inr (.inr (some (5, lb_.toNat)))), some (.inl vx18_), some (.inl vx37_)], [.inl vx18_, .inr (.inr (some (112, 0))), .inr (.inr (some (9, 0)))], Sx32_)) rfl ?_
      refine sm_T_aald (t0 := 6) (n := 4) rfl rfl (by omega) (by omega) ?_
      refine sm_T_cal (d1 := 4) (Q1 := vq_169f vx18_.toNat Sx32_) rfl rfl (by decide) (vc_169f vx18_.toNat Sx32_ hIx33_ (by omega) (by (intro z9_; have y9_ := (hts_ _ u470_.1).2 (t47a.symm.trans z9_); have x9_ := s47_.2 (by omega); omega))) (fun u_ Sx40_ px43_ => ?_)
      obtain ⟨rfl, hIx41_, hFx42_, px43_⟩ := px43_
      have hFx44_ : ai_fr (sx_W vw_230f) S0_ Sx40_ := ai_fr_tr hFx36_ (fr_le hFx42_ rfl)
      obtain ⟨dx45_, px43_⟩ := px43_
      have c71_ := dx45_
      have p71_ := (px43_).1
      have k71_ := (px43_).2
      have l71_ := fun q9_ => hFx42_.1 2 q9_ 19 rfl
      have m71_ := fun q9_ => hFx42_.1 2 q9_ 15 rfl
      have g71_ := hFx42_
      refine sm_T_go 3 (c1 := (80, [some (.inr (.inr (some (12, 0)))), some (.inl aa_), some (.inl lb_), some (.inr (.inr (some (3, aa_.toNat)))), some (.inr (.inr (some (5, lb_.toNat)))), some (.inl vx18_), some (.inl vx37_)], [.inl vx18_, .inr (.inr (some (112, 0)))], Sx40_)) rfl ?_
      refine sm_T_aald (t0 := 6) (n := 4) rfl rfl (by omega) (by omega) ?_
      have hIx46_ : gi (sm_pI Sx40_ 2 vx18_.toNat 0 1) := gi_pI hIx41_ (show 0 ≤ 1 ∧ 1 ≤ 1 from ⟨by omega, by omega⟩)
      have hFx47_ : ai_fr (sx_W vw_230f) S0_ (sm_pI Sx40_ 2 vx18_.toNat 0 1) := ai_fr_tr hFx44_ (ai_fr_pI rfl)
      refine sm_T_go 3 (c1 := (87, [some (.inr (.inr (some (12, 0)))), some (.inl aa_), some (.inl lb_), some (.inr (.inr (some (3, aa_.toNat)))), some (.inr (.inr (some (5, lb_.toNat)))), some (.inl vx18_), some (.inl vx37_)], [.inl vx18_], sm_pI Sx40_ 2 vx18_.toNat 0 1)) rfl ?_
      refine sm_T_ri rfl (Or.inl ⟨_, _, rfl, _, rfl, hIx46_, hFx47_, ?_⟩)
      have CD87_ : cdf _ S0_ ((sm_pI Sx40_ 2 vx18_.toNat 0 1)) := cdf_pI (cdf_tr c47_ c71_) (Or.inr (by rw [cof_0 (by decide) (by decide)]; omega))
      have G87_ : ai_fr (sx_W w87) _ ((sm_pI Sx40_ 2 vx18_.toNat 0 1)) := ai_fr_tr (fr_le g71_ rfl) (ai_fr_pI rfl)
      have B87_ := bcm_fr BC47_ G87_
      have K87_ : ai_fr (sx_W ([(2, 0)], [], [])) _ ((sm_pI Sx40_ 2 vx18_.toNat 0 1)) := ai_fr_pI rfl
      refine ⟨?_, cdf_lb CD87_, by (unfold oka_map; omega), _, F9_, Or.inr ⟨⟨kctb_fr k71_.2.2 K87_, (K87_.2.1 9 0 0 rfl).trans k71_.1.2, ((K87_.1 9 0 1 rfl).trans k71_.1.1).trans ((K87_.1 2 _ 19 rfl).trans (l71_ _)).symm⟩, ((K87_.1 2 _ 19 rfl).trans (l71_ _)).trans (s47_.2 (by omega)).1⟩, Or.inr ⟨⟨tok_f9 k71_.2.1 K87_, ((K87_.1 2 _ 15 rfl).trans (m71_ _)).trans (s47_.2 (by omega)).2⟩, (K87_.2.1 9 0 0 rfl).trans k71_.1.2, ((K87_.1 9 0 1 rfl).trans k71_.1.1).trans ((K87_.1 2 _ 19 rfl).trans (l71_ _)).symm⟩, u470_, ⟨by (have a9_ := G87_.1 3 aa_.toNat 1 rfl; have b9_ := G87_.1 3 aa_.toNat 2 rfl; omega), B87_.1, bvw_cg BV47_ (G87_.1 5 lb_.toNat 1 rfl) (fr_arr G87_ rfl) (fr_arr G87_ rfl) (fr_arr G87_ rfl)⟩, CD87_, _, bpc_fr BC47_ PC47_ G87_ (fun k9_ => (i47_.2 55 _ k9_).2), Or.inr ⟨by omega, by omega, rf_eq, ?_, ?_⟩⟩
      rotate_left
      · have z9_ := L47_ (by omega)
        unfold clc at z9_ ⊢
        rw [G87_.1 5 _ 1 rfl, G87_.1 5 _ 2 rfl, G87_.1 5 lb_.toNat 1 rfl, G87_.1 5 lb_.toNat 2 rfl, fr_arr (t := 55) (i := 0 + (3 + _)) G87_ rfl, fr_arr (t := 56) (i := 0 + (3 + _)) G87_ rfl, fr_arr (t := 57) (i := 0 + (3 + _)) G87_ rfl, fr_arr (t := 58) (i := 0 + (3 + _)) G87_ rfl, fr_arr (t := 55) (i := 0 + lb_.toNat) G87_ rfl, fr_arr (t := 56) (i := 0 + lb_.toNat) G87_ rfl, fr_arr (t := 57) (i := 0 + lb_.toNat) G87_ rfl, fr_arr (t := 58) (i := 0 + lb_.toNat) G87_ rfl]
        exact z9_
      · (try simp only [rd_eq, rd_ne, rf_eq, rf_nk, rf_nt, rd_fa, rd_af, rd_fl, rd_al, rd_lf, rd_la, rd_leq, rd_lne, rd_fr, rd_ar, ne_eq, Nat.reduceEqDiff, not_false_eq_true])
        rw [g71_.1 2 _ 1 rfl, g71_.1 2 _ 2 rfl, g71_.1 2 _ 3 rfl, g71_.1 2 _ 4 rfl, g71_.1 2 _ 5 rfl, g71_.1 3 aa_.toNat 1 rfl, g71_.1 3 aa_.toNat 2 rfl, g71_.1 3 aa_.toNat 3 rfl, g71_.1 3 aa_.toNat 5 rfl, z47_, y47_, x47_, w47_]
        exact p46_.2.1
      exact ⟨dAll_fr hJ_.1 hFx47_ (by decide) (by decide), cAll_cd hJ_.2.1 (cdf_pI (cdf_tr c47_ c71_) (Or.inr (by rw [cof_0 (by decide) (by decide)]; omega))) (fun _ => cOk_us (cOk_nw k1_ p46_.2.1 p46_.2.2.1 p46_.2.2.2.1 p46_.2.2.2.2.1 p46_.2.2.2.2.2.1 g71_ (by decide) (by decide) (by decide) p71_)), tpo_fr hJ_.2.2.1 hFx47_, shn_fr hJ_.2.2.2 hFx47_⟩
    · have cx39_ : ¬ (vx37_ = 0) := of_decide_eq_false cx39_
      refine sm_T_go 1 (c1 := (59, [some (.inr (.inr (some (12, 0)))), some (.inl aa_), some (.inl lb_), some (.inr (.inr (some (3, aa_.toNat)))), some (.inr (.inr (some (5, lb_.toNat)))), some (.inl vx18_), some (.inl vx37_)], [.inl vx37_], Sx32_)) rfl ?_
      refine sm_T_ri rfl (Or.inl ⟨_, _, rfl, _, rfl, hIx33_, hFx36_, ?_⟩)
      refine ⟨?_, cdf_lb c47_, by (unfold oka_map; omega), _, F9_, Or.inl ⟨by (rw [u47_]; exact u470_.2.1), s47_.1, t47a, t47b⟩, Or.inl ⟨by (rw [u47_]; exact u470_.2.1), t47c, t47d, t47e, t47f, t47g⟩, u470_, ⟨by omega, BC47_, BV47_⟩, c47_, _, PC47_, Or.inl ⟨by omega, rfl, by (rw [u47_]; exact u470_.2.1)⟩⟩
      exact ⟨dAll_fr hJ_.1 hFx36_ (by decide) (by decide), cAll_cd hJ_.2.1 c47_ (fun q9_ => absurd (u470_.2.1.symm.trans ((u47_ _).symm.trans q9_)) (by decide)), tpo_fr hJ_.2.2.1 hFx36_, shn_fr hJ_.2.2.2 hFx36_⟩
