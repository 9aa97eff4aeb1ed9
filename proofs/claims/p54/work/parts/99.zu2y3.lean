/-! the class: the set is made; written by wip/p55/gen/vg -/

/-! the_ set_, while patterns go_ -/
def exm9 (P_ : Nat → Nat → Bool) (N_ cc_ : Nat) (T_ : List Nat) (S_ : sm_S) (k_ : Int) : Prop := ∃ M_ : List Nat, tls cc_ S_ M_ ∧ (∀ j_ : Nat, j_ < N_ → S_.2.2.1 97 0 j_ = ((cn9 (P_ j_) M_ : Nat) : Int)) ∧ prn9 P_ N_ (k_ + 1).toNat M_ = T_
theorem prn9_s {P_ : Nat → Nat → Bool} {N_ k_ : Nat} {M_ T_ : List Nat} {x_ : Int} {b_ : Int} (hx_ : 0 ≤ x_) (e_ : prn9 P_ N_ (x_ + 1).toNat M_ = T_) (hk_ : k_ = x_.toNat) (g_ : gos9 P_ N_ M_ k_ = decide (b_ = 1)) : prn9 P_ N_ (x_ - 1 + 1).toNat (if b_ = 1 then M_.eraseIdx k_ else M_) = T_ := by
  rw [show (x_ - 1 + 1).toNat = k_ by omega]
  rw [show (x_ + 1).toNat = k_ + 1 by omega] at e_
  have e_ : prn9 P_ N_ k_ (if gos9 P_ N_ M_ k_ = true then M_.eraseIdx k_ else M_) = T_ := e_
  rw [g_] at e_
  by_cases c_ : b_ = 1
  · rw [decide_eq_true c_, if_pos rfl] at e_
    rw [if_pos c_]
    exact e_
  · rw [decide_eq_false c_, if_neg (by decide)] at e_
    rw [if_neg c_]
    exact e_
/-! Tester.removePattern -/
def vw_182n : sx_Wl := ([(2, 15)], [40, 97], [])
def vq_182n (a2_ : Int) (a3_ : Int) (cc_ : Nat) (P_ : Nat → Nat → Bool) (L_ : List Nat) (S0_ : sm_S) (u_ : Option sm_V) (S1_ : sm_S) : Prop := u_ = none ∧ gi S1_ ∧ ai_fr (sx_W vw_182n) S0_ S1_ ∧ (cdf cc_ S0_ S1_ ∧ (tls cc_ S1_ (L_.eraseIdx a2_.toNat) ∧ (∀ f9_ : Nat, (f9_ : Int) < a3_ → S1_.2.2.1 97 0 f9_ = ((cn9 (P_ f9_) (L_.eraseIdx a2_.toNat) : Nat) : Int)) ∧ S1_.1 2 cc_ 15 = S0_.1 2 cc_ 15 - 1))
set_option maxHeartbeats 400000 in
theorem vl_182n {sc_ : Nat × (Nat → Int)} (a2_ : Int) (a3_ : Int) (cc_ : Nat) (P_ : Nat → Nat → Bool) (L_ : List Nat) (S0_ : sm_S) (h3_ : 0 ≤ a3_ ∧ a3_ ≤ cfu9 cc_ S0_ ∧ a3_ ≤ 1224) (h2_ : 0 ≤ a2_ ∧ a2_ < S0_.1 2 cc_ 15) (hra_ : ∀ f9_ : Nat, (f9_ : Int) < a3_ → S0_.2.2.1 96 0 f9_ ≠ 0) (hta_ : ∀ f9_ : Nat, (f9_ : Int) < a3_ → S0_.2.2.1 97 0 f9_ = ((cn9 (P_ f9_) L_ : Nat) : Int)) (ht_ : tok9 cc_ S0_) (hU_ : shU cc_ S0_ P_) (hL_ : tls cc_ S0_ L_) (hB_ : cB9 cc_ S0_ ≤ 4096) : ∀ nn_ : Nat, (∀ (f_ : Int) (S_ : sm_S), gi S_ → ai_fr (sx_W vw_182n) S0_ S_ → ((0 ≤ f_ ∧ f_ ≤ a3_) ∧ (S_.1 2 cc_ 15 = S0_.1 2 cc_ 15) ∧ (S_.2.2.1 40 (0 + cc_) = S0_.2.2.1 40 (0 + cc_)) ∧ (∀ f9_ : Nat, (f9_ : Int) < a3_ → S_.2.2.1 97 0 f9_ = ((cn9 (P_ f9_) (if (f9_ : Int) < f_ then (L_.eraseIdx a2_.toNat) else L_) : Nat) : Int)) ∧ (cdf cc_ S0_ S_) ∧ True) → ((2000 - f_).toNat) < nn_ → sm_T (mt_P sc_) 1 182 (3, [some (.inr (.inr (some (9, 0)))), some (.inr (.inr (some (2, cc_)))), some (.inl a2_), some (.inl a3_), some (.inl f_)], [], S_) (fun ro9_ => ∃ u_ S1_, ro9_ = (.inl u_, S1_, 0) ∧ vq_182n a2_ a3_ cc_ P_ L_ S0_ u_ S1_)) := by
  intro nn_
  induction nn_ with
  | zero => exact fun _ _ _ _ _ h_ => absurd h_ (Nat.not_lt_zero _)
  | succ nn_ ih_ =>
    rintro f_ S_ hI_ hF_ ⟨h0_, h5_, h40_, ht1_, hC_, -⟩ hm_
    have cz_ : (-1) ≤ S_.1 2 cc_ 15 ∧ S_.1 2 cc_ 15 ≤ 1224 := hI_.1 2 cc_ 15 rfl
    have L9_ := hL_.1
    obtain ⟨x9_, x1_, x2_, x3_⟩ := tls_k (k_ := a2_) hL_ (by omega) (by omega)
    have x2s : S_.2.2.1 40 (0 + cc_) a2_.toNat = (x9_ : Int) := by (rw [h40_]; exact x2_)
    have s95_ := fr_lon (t_ := 95) (i_ := 0) hF_ rfl
    have T9_ : (f_ + 1).toNat = f_.toNat + 1 := by omega
    have cl9_ := cn9_l (p_ := P_ f_.toNat) (l_ := L_)
    refine sm_T_go 2 (c1 := (6, [some (.inr (.inr (some (9, 0)))), some (.inr (.inr (some (2, cc_)))), some (.inl a2_), some (.inl a3_), some (.inl f_)], [.inl a3_, .inl f_], S_)) rfl ?_
    refine sm_T_br (a := 3) (z := 39) rfl (fun cx1_ => ?_) (fun cx1_ => ?_)
    · have cx1_ : a3_ ≤ f_ := of_decide_eq_true cx1_
      refine sm_T_go 4 (c1 := (51, [some (.inr (.inr (some (9, 0)))), some (.inr (.inr (some (2, cc_)))), some (.inl a2_), some (.inl a3_), some (.inl f_)], [.inl 1, .inl a2_, .inr (.inr (some (40, (0 + cc_))))], S_)) rfl ?_
      refine sm_T_bin (w := a2_ + 1) rfl (bi_add (by omega) (by omega) (by omega)) ?_ -- pc_ 51
      have bx2_ : (-1) ≤ S_.1 2 cc_ 15 ∧ S_.1 2 cc_ 15 ≤ 1224 := hI_.1 2 cc_ 15 rfl
      refine sm_T_go 6 (c1 := (62, [some (.inr (.inr (some (9, 0)))), some (.inr (.inr (some (2, cc_)))), some (.inl a2_), some (.inl a3_), some (.inl f_)], [.inl 1, .inl (S_.1 2 cc_ 15), .inl a2_, .inr (.inr (some (40, (0 + cc_)))), .inl (a2_ + 1), .inr (.inr (some (40, (0 + cc_))))], S_)) rfl ?_
      refine sm_T_bin (w := (S_.1 2 cc_ 15) - 1) rfl (bi_sub (by omega) (by omega) (by omega)) ?_ -- pc_ 62
      refine sm_T_go 1 (c1 := (64, [some (.inr (.inr (some (9, 0)))), some (.inr (.inr (some (2, cc_)))), some (.inl a2_), some (.inl a3_), some (.inl f_)], [.inl a2_, .inl ((S_.1 2 cc_ 15) - 1), .inl a2_, .inr (.inr (some (40, (0 + cc_)))), .inl (a2_ + 1), .inr (.inr (some (40, (0 + cc_))))], S_)) rfl ?_
      refine sm_T_bin (w := (S_.1 2 cc_ 15) - a2_ - 1) rfl (bi_sub (by omega) (by omega) (by omega)) ?_ -- pc_ 64
      refine sm_T_nt (u := none) (S1 := sm_acI S_ 40 (0 + cc_) 40 (0 + cc_) (a2_ + 1).toNat a2_.toNat ((S_.1 2 cc_ 15) - a2_ - 1).toNat) rfl rfl (nt_acI (sc := sc_) (t := 40) (i := (0 + cc_)) (t' := 40) (i' := (0 + cc_)) (x := a2_ + 1) (y := a2_) (m := (S_.1 2 cc_ 15) - a2_ - 1) (n := 1224) (n1 := 1224) rfl rfl (by omega) (by omega) (by omega) (by omega) (by omega)) ?_
      have hIx3_ : gi (sm_acI S_ 40 (0 + cc_) 40 (0 + cc_) (a2_ + 1).toNat a2_.toNat ((S_.1 2 cc_ 15) - a2_ - 1).toNat) := gi_ac hI_ (by decide) (by decide)
      have hFx4_ : ai_fr (sx_W vw_182n) S0_ (sm_acI S_ 40 (0 + cc_) 40 (0 + cc_) (a2_ + 1).toNat a2_.toNat ((S_.1 2 cc_ 15) - a2_ - 1).toNat) := ai_fr_tr hF_ (fr_ac rfl)
      have hCx5_ : cdf cc_ S0_ (sm_acI S_ 40 (0 + cc_) 40 (0 + cc_) (a2_ + 1).toNat a2_.toNat ((S_.1 2 cc_ 15) - a2_ - 1).toNat) := cdf_ac hC_ (Or.inr (by rw [show cof 40 = 0 from rfl] <;> omega))
      refine sm_T_go 4 (c1 := (74, [some (.inr (.inr (some (9, 0)))), some (.inr (.inr (some (2, cc_)))), some (.inl a2_), some (.inl a3_), some (.inl f_)], [.inl 1, .inl (S_.1 2 cc_ 15), .inr (.inr (some (2, cc_)))], sm_acI S_ 40 (0 + cc_) 40 (0 + cc_) (a2_ + 1).toNat a2_.toNat ((S_.1 2 cc_ 15) - a2_ - 1).toNat)) rfl ?_
      refine sm_T_bin (w := (S_.1 2 cc_ 15) - 1) rfl (bi_sub (by omega) (by omega) (by omega)) ?_ -- pc_ 74
      have hIx6_ : gi (sm_pI (sm_acI S_ 40 (0 + cc_) 40 (0 + cc_) (a2_ + 1).toNat a2_.toNat ((S_.1 2 cc_ 15) - a2_ - 1).toNat) 2 cc_ 15 ((S_.1 2 cc_ 15) - 1)) := gi_pI hIx3_ (show (-1) ≤ (S_.1 2 cc_ 15) - 1 ∧ (S_.1 2 cc_ 15) - 1 ≤ 1224 from ⟨by omega, by omega⟩)
      have hFx7_ : ai_fr (sx_W vw_182n) S0_ (sm_pI (sm_acI S_ 40 (0 + cc_) 40 (0 + cc_) (a2_ + 1).toNat a2_.toNat ((S_.1 2 cc_ 15) - a2_ - 1).toNat) 2 cc_ 15 ((S_.1 2 cc_ 15) - 1)) := ai_fr_tr hFx4_ (ai_fr_pI rfl)
      have hCx8_ : cdf cc_ S0_ (sm_pI (sm_acI S_ 40 (0 + cc_) 40 (0 + cc_) (a2_ + 1).toNat a2_.toNat ((S_.1 2 cc_ 15) - a2_ - 1).toNat) 2 cc_ 15 ((S_.1 2 cc_ 15) - 1)) := cdf_pI hCx5_ (Or.inr (by rw [show cof 2 = 0 from rfl] <;> omega))
      refine sm_T_go 1 (c1 := (78, [some (.inr (.inr (some (9, 0)))), some (.inr (.inr (some (2, cc_)))), some (.inl a2_), some (.inl a3_), some (.inl f_)], [], sm_pI (sm_acI S_ 40 (0 + cc_) 40 (0 + cc_) (a2_ + 1).toNat a2_.toNat ((S_.1 2 cc_ 15) - a2_ - 1).toNat) 2 cc_ 15 ((S_.1 2 cc_ 15) - 1))) rfl ?_
      refine sm_T_rv rfl ⟨_, _, rfl, rfl, hIx6_, hFx7_, ?_⟩
      refine ⟨hCx8_, ?_⟩
      have fx9_ : ai_fr (sx_W ([(2, 15)], [40], [])) S_ ((sm_pI (sm_acI S_ 40 (0 + cc_) 40 (0 + cc_) (a2_ + 1).toNat a2_.toNat ((S_.1 2 cc_ 15) - a2_ - 1).toNat) 2 cc_ 15 ((S_.1 2 cc_ 15) - 1))) := ai_fr_tr (fr_ac rfl) (ai_fr_pI rfl)
      refine ⟨tls_er (k_ := a2_.toNat) hL_ (by omega) (by (rw [rf_eq]; omega)) (fun j9_ hj9_ => ?_) (cB_fr hFx7_), fun f9_ hf9_ => ?_, by (rw [rf_eq]; omega)⟩
      · show (sm_acI _ _ _ _ _ _ _ _).2.2.1 40 (0 + cc_) j9_ = _
        rw [sm_acI_at, h40_]
        show (if _ then _ else _) = _
        by_cases y9_ : j9_ < a2_.toNat
        · rw [if_neg (by omega), if_pos y9_]
        · rw [if_pos (by omega), if_neg y9_]; exact congrArg _ (by omega)
      · rw [fr_arr (t := 97) (i := 0) fx9_ rfl]; have w9_ := ht1_ f9_ hf9_; rw [if_pos (by omega)] at w9_; exact w9_
    · have cx1_ : ¬ (a3_ ≤ f_) := of_decide_eq_false cx1_
      have tv9_ := ht1_ f_.toNat (by omega)
      rw [if_neg (by omega)] at tv9_
      refine sm_T_go 4 (c1 := (16, [some (.inr (.inr (some (9, 0)))), some (.inr (.inr (some (2, cc_)))), some (.inl a2_), some (.inl a3_), some (.inl f_)], [.inl f_, .inr (.inr (some (97, 0))), .inl f_, .inr (.inr (some (97, 0)))], S_)) rfl ?_
      refine sm_T_iald (n := 1224) rfl rfl (by omega) (by omega) ?_
      have bx9_ : (-2147483648) ≤ S_.2.2.1 97 0 f_.toNat ∧ S_.2.2.1 97 0 f_.toNat ≤ 2147483647 := hI_.2 97 0 _
      refine sm_T_go 4 (c1 := (23, [some (.inr (.inr (some (9, 0)))), some (.inr (.inr (some (2, cc_)))), some (.inl a2_), some (.inl a3_), some (.inl f_)], [.inl a2_, .inr (.inr (some (40, (0 + cc_)))), .inr (.inr (some (9, 0))), .inl (S_.2.2.1 97 0 f_.toNat), .inl f_, .inr (.inr (some (97, 0)))], S_)) rfl ?_
      refine sm_T_iald (n := 1224) rfl rfl (by omega) (by omega) ?_
      have bx10_ : 0 ≤ S_.2.2.1 40 (0 + cc_) a2_.toNat ∧ S_.2.2.1 40 (0 + cc_) a2_.toNat ≤ 4095 := hI_.2 40 (0 + cc_) _
      refine sm_T_go 1 (c1 := (26, [some (.inr (.inr (some (9, 0)))), some (.inr (.inr (some (2, cc_)))), some (.inl a2_), some (.inl a3_), some (.inl f_)], [.inl f_, .inl (S_.2.2.1 40 (0 + cc_) a2_.toNat), .inr (.inr (some (9, 0))), .inl (S_.2.2.1 97 0 f_.toNat), .inl f_, .inr (.inr (some (97, 0)))], S_)) rfl ?_
      refine sm_T_cal (d1 := 0) (Q1 := vq_176n (S_.2.2.1 40 (0 + cc_) a2_.toNat) f_ S_) rfl rfl (by decide) (vc_176n (S_.2.2.1 40 (0 + cc_) a2_.toNat) f_ S_ hI_ (by omega) (by omega)) (fun u_ Sx11_ px14_ => ?_)
      obtain ⟨rfl, vx16_, rfl, px14_⟩ := px14_
      have i26_ := (px14_).1
      have er9_ := cn9_er (P_ f_.toNat) L_ a2_.toNat x9_ x1_
      have j26_ : P_ f_.toNat x9_ = decide (vx16_ = 1) := by (have y8_ := (px14_).2; rw [x2s, Int.toNat_natCast, s95_] at y8_; exact (shk_P (p_ := x9_) hU_ ht_ (by omega) (hra_ f_.toNat (by omega)) x3_).symm.trans y8_)
      rw [j26_] at er9_
      simp only [decide_eq_true_eq] at er9_
      refine sm_T_b0 (a := 0) (z := 7) rfl (fun cx17_ => ?_) (fun cx17_ => ?_)
      · have cx17_ : vx16_ = 0 := of_decide_eq_true cx17_
        refine sm_T_go 1 (c1 := (37, [some (.inr (.inr (some (9, 0)))), some (.inr (.inr (some (2, cc_)))), some (.inl a2_), some (.inl a3_), some (.inl f_)], [.inl 0, .inl (S_.2.2.1 97 0 f_.toNat), .inl f_, .inr (.inr (some (97, 0)))], S_)) rfl ?_
        refine sm_T_bin (w := (S_.2.2.1 97 0 f_.toNat)) rfl (bi_sub (by omega) (by omega) (by omega)) ?_ -- pc_ 37
        refine sm_T_iast (n := 1224) rfl rfl (by omega) (by omega) ?_
        have hIx18_ : gi (sm_aI S_ 97 0 f_.toNat (S_.2.2.1 97 0 f_.toNat)) := gi_aI hI_ (show (-2147483648) ≤ (S_.2.2.1 97 0 f_.toNat) ∧ (S_.2.2.1 97 0 f_.toNat) ≤ 2147483647 from ⟨by omega, by omega⟩)
        have hFx19_ : ai_fr (sx_W vw_182n) S0_ (sm_aI S_ 97 0 f_.toNat (S_.2.2.1 97 0 f_.toNat)) := ai_fr_tr hF_ (ai_fr_aI rfl)
        have hCx20_ : cdf cc_ S0_ (sm_aI S_ 97 0 f_.toNat (S_.2.2.1 97 0 f_.toNat)) := cdf_aI hC_ (Or.inl rfl)
        refine sm_T_inc (a := 4) (z := 1) (v := f_) (w := f_ + 1) rfl rfl (by omega) (by omega) (by omega) ?_ -- pc_ 39
        refine sm_T_go 1 (c1 := (3, [some (.inr (.inr (some (9, 0)))), some (.inr (.inr (some (2, cc_)))), some (.inl a2_), some (.inl a3_), some (.inl (f_ + 1))], [], sm_aI S_ 97 0 f_.toNat (S_.2.2.1 97 0 f_.toNat))) rfl ?_
        refine ih_ (f_ + 1) (sm_aI S_ 97 0 f_.toNat (S_.2.2.1 97 0 f_.toNat)) hIx18_ hFx19_ ⟨?_, ?_, ?_, ?_, ?_, trivial⟩ ?_
        · omega
        · exact h5_
        · (have fx9_ : ai_fr (sx_W ([], [97], [])) S_ ((sm_aI S_ 97 0 f_.toNat (S_.2.2.1 97 0 f_.toNat))) := ai_fr_aI rfl; exact (fr_arr (t := 40) (i := 0 + cc_) fx9_ rfl).trans h40_)
        · intro f9_ hf9_
          rw [rd_eq]
          by_cases y9_ : f9_ = f_.toNat
          · rw [if_pos y9_, if_pos (by omega), y9_]; split at er9_ <;> omega
          · rw [if_neg y9_]; have w9_ := ht1_ f9_ hf9_; by_cases z9_ : (f9_ : Int) < f_
            · rw [if_pos z9_] at w9_; rw [if_pos (by omega)]; exact w9_
            · rw [if_neg z9_] at w9_; rw [if_neg (by omega)]; exact w9_
        · exact hCx20_
        · omega
      · have cx17_ : ¬ (vx16_ = 0) := of_decide_eq_false cx17_
        refine sm_T_go 2 (c1 := (37, [some (.inr (.inr (some (9, 0)))), some (.inr (.inr (some (2, cc_)))), some (.inl a2_), some (.inl a3_), some (.inl f_)], [.inl 1, .inl (S_.2.2.1 97 0 f_.toNat), .inl f_, .inr (.inr (some (97, 0)))], S_)) rfl ?_
        refine sm_T_bin (w := (S_.2.2.1 97 0 f_.toNat) - 1) rfl (bi_sub (by omega) (by omega) (by omega)) ?_ -- pc_ 37
        refine sm_T_iast (n := 1224) rfl rfl (by omega) (by omega) ?_
        have hIx21_ : gi (sm_aI S_ 97 0 f_.toNat ((S_.2.2.1 97 0 f_.toNat) - 1)) := gi_aI hI_ (show (-2147483648) ≤ (S_.2.2.1 97 0 f_.toNat) - 1 ∧ (S_.2.2.1 97 0 f_.toNat) - 1 ≤ 2147483647 from ⟨by omega, by omega⟩)
        have hFx22_ : ai_fr (sx_W vw_182n) S0_ (sm_aI S_ 97 0 f_.toNat ((S_.2.2.1 97 0 f_.toNat) - 1)) := ai_fr_tr hF_ (ai_fr_aI rfl)
        have hCx23_ : cdf cc_ S0_ (sm_aI S_ 97 0 f_.toNat ((S_.2.2.1 97 0 f_.toNat) - 1)) := cdf_aI hC_ (Or.inl rfl)
        refine sm_T_inc (a := 4) (z := 1) (v := f_) (w := f_ + 1) rfl rfl (by omega) (by omega) (by omega) ?_ -- pc_ 39
        refine sm_T_go 1 (c1 := (3, [some (.inr (.inr (some (9, 0)))), some (.inr (.inr (some (2, cc_)))), some (.inl a2_), some (.inl a3_), some (.inl (f_ + 1))], [], sm_aI S_ 97 0 f_.toNat ((S_.2.2.1 97 0 f_.toNat) - 1))) rfl ?_
        refine ih_ (f_ + 1) (sm_aI S_ 97 0 f_.toNat ((S_.2.2.1 97 0 f_.toNat) - 1)) hIx21_ hFx22_ ⟨?_, ?_, ?_, ?_, ?_, trivial⟩ ?_
        · omega
        · exact h5_
        · (have fx9_ : ai_fr (sx_W ([], [97], [])) S_ ((sm_aI S_ 97 0 f_.toNat ((S_.2.2.1 97 0 f_.toNat) - 1))) := ai_fr_aI rfl; exact (fr_arr (t := 40) (i := 0 + cc_) fx9_ rfl).trans h40_)
        · intro f9_ hf9_
          rw [rd_eq]
          by_cases y9_ : f9_ = f_.toNat
          · rw [if_pos y9_, if_pos (by omega), y9_]; split at er9_ <;> omega
          · rw [if_neg y9_]; have w9_ := ht1_ f9_ hf9_; by_cases z9_ : (f9_ : Int) < f_
            · rw [if_pos z9_] at w9_; rw [if_pos (by omega)]; exact w9_
            · rw [if_neg z9_] at w9_; rw [if_neg (by omega)]; exact w9_
        · exact hCx23_
        · omega
set_option maxHeartbeats 400000 in
theorem vc_182n {sc_ : Nat × (Nat → Int)} (a2_ : Int) (a3_ : Int) (cc_ : Nat) (P_ : Nat → Nat → Bool) (L_ : List Nat) (S0_ : sm_S) (hI_ : gi S0_) (h3_ : 0 ≤ a3_ ∧ a3_ ≤ cfu9 cc_ S0_ ∧ a3_ ≤ 1224) (h2_ : 0 ≤ a2_ ∧ a2_ < S0_.1 2 cc_ 15) (hra_ : ∀ f9_ : Nat, (f9_ : Int) < a3_ → S0_.2.2.1 96 0 f9_ ≠ 0) (hta_ : ∀ f9_ : Nat, (f9_ : Int) < a3_ → S0_.2.2.1 97 0 f9_ = ((cn9 (P_ f9_) L_ : Nat) : Int)) (ht_ : tok9 cc_ S0_) (hU_ : shU cc_ S0_ P_) (hL_ : tls cc_ S0_ L_) (hB_ : cB9 cc_ S0_ ≤ 4096) : sm_T (mt_P sc_) 1 182 (0, [some (.inr (.inr (some (9, 0)))), some (.inr (.inr (some (2, cc_)))), some (.inl a2_), some (.inl a3_), none], [], S0_) (fun ro9_ => ∃ u_ S1_, ro9_ = (.inl u_, S1_, 0) ∧ vq_182n a2_ a3_ cc_ P_ L_ S0_ u_ S1_) := by
  have hF_ : ai_fr (sx_W vw_182n) S0_ S0_ := ai_fr_rf
  have hC_ : cdf cc_ S0_ S0_ := cdf_rf
  have cz_ : (-1) ≤ S0_.1 2 cc_ 15 ∧ S0_.1 2 cc_ 15 ≤ 1224 := hI_.1 2 cc_ 15 rfl
  refine sm_T_go 2 (c1 := (3, [some (.inr (.inr (some (9, 0)))), some (.inr (.inr (some (2, cc_)))), some (.inl a2_), some (.inl a3_), some (.inl 0)], [], S0_)) rfl ?_
  refine (vl_182n a2_ a3_ cc_ P_ L_ S0_ h3_ h2_ hra_ hta_ ht_ hU_ hL_ hB_ _) 0 S0_ hI_ hF_ ⟨?_, ?_, ?_, ?_, ?_, trivial⟩ (Nat.lt_succ_self _)
  · omega
  · rfl
  · rfl
  · (intro f9_ hf9_; rw [if_neg (by omega)]; exact hta_ f9_ hf9_)
  · exact hC_
/-! Tester.makeSet -/
def vw_179n : sx_Wl := ([(2, 15), (9, 1), (9, 2), (9, 3)], [40, 41, 92, 93, 94, 95, 96, 97], [(9, 0)])
def vq_179n (cc_ : Nat) (P_ : Nat → Nat → Bool) (le_ : Nat → Int) (S0_ : sm_S) (u_ : Option sm_V) (S1_ : sm_S) : Prop := u_ = none ∧ gi S1_ ∧ ai_fr (sx_W vw_179n) S0_ S1_ ∧ (cdf cc_ S0_ S1_ ∧ (shn S1_ ∧ tkk S0_ S1_ ∧ tls cc_ S1_ (tst9 P_ le_ (cfu9 cc_ S0_).toNat) ∧ ∀ k9_ : Nat, k9_ < 1224 → S1_.2.2.1 41 (0 + cc_) k9_ = 0))
set_option maxHeartbeats 2000000 in
theorem vl_179n {sc_ : Nat × (Nat → Int)} (cc_ : Nat) (P_ : Nat → Nat → Bool) (le_ : Nat → Int) (S0_ : sm_S) (htp_ : tpr cc_ S0_) (hn_ : shn S0_) (hp_ : tkp cc_ S0_) (hU_ : shU cc_ S0_ P_) (hle_ : leU cc_ S0_ le_) : ∀ nn_ : Nat, (∀ (al_ : Int) (f_ : Int) (S_ : sm_S), gi S_ → ai_fr (sx_W vw_179n) S0_ S_ → ((0 ≤ al_ ∧ al_ ≤ 1224 ∧ al_ = cfu9 cc_ S0_ ∧ 0 ≤ f_ ∧ f_ ≤ al_) ∧ (0 ≤ S_.1 2 cc_ 15 ∧ S_.1 2 cc_ 15 ≤ f_) ∧ (tls cc_ S_ (bst9 P_ le_ f_.toNat)) ∧ (shn S_) ∧ (tkk S0_ S_) ∧ (∀ j9_ : Nat, (j9_ : Int) < f_ → S_.2.2.1 96 0 j9_ ≠ 0) ∧ (imq (0 < f_) (tkw9 cc_ S_)) ∧ (cdf cc_ S0_ S_) ∧ True) → ((90000 - f_).toNat) < nn_ → sm_T (mt_P sc_) 6 179 (12, [some (.inr (.inr (some (9, 0)))), some (.inr (.inr (some (2, cc_)))), some (.inl al_), some (.inl f_), none], [], S_) (fun ro9_ => ∃ u_ S1_, ro9_ = (.inl u_, S1_, 0) ∧ vq_179n cc_ P_ le_ S0_ u_ S1_)) ∧ (∀ (al_ : Int) (f_ : Int) (S_ : sm_S), gi S_ → ai_fr (sx_W vw_179n) S0_ S_ → ((0 ≤ al_ ∧ al_ ≤ 1224 ∧ al_ = cfu9 cc_ S0_ ∧ 0 ≤ f_ ∧ f_ ≤ al_) ∧ (0 ≤ S_.1 2 cc_ 15 ∧ S_.1 2 cc_ 15 ≤ 1224) ∧ (tls cc_ S_ (bst9 P_ le_ al_.toNat)) ∧ (shn S_) ∧ (tkk S0_ S_) ∧ (∀ j9_ : Nat, (j9_ : Int) < al_ → S_.2.2.1 96 0 j9_ ≠ 0) ∧ (imq (0 < al_) (tkw9 cc_ S_)) ∧ (∀ j9_ : Nat, (j9_ : Int) < f_ → S_.2.2.1 97 0 j9_ = ((cn9 (P_ j9_) (bst9 P_ le_ al_.toNat) : Nat) : Int)) ∧ (cdf cc_ S0_ S_) ∧ True) → ((60000 - f_).toNat) < nn_ → sm_T (mt_P sc_) 6 179 (69, [some (.inr (.inr (some (9, 0)))), some (.inr (.inr (some (2, cc_)))), some (.inl al_), some (.inl f_), none], [], S_) (fun ro9_ => ∃ u_ S1_, ro9_ = (.inl u_, S1_, 0) ∧ vq_179n cc_ P_ le_ S0_ u_ S1_)) ∧ (∀ (al_ : Int) (k_ : Int) (S_ : sm_S), gi S_ → ai_fr (sx_W vw_179n) S0_ S_ → ((0 ≤ al_ ∧ al_ ≤ 1224 ∧ al_ = cfu9 cc_ S0_ ∧ -1 ≤ k_ ∧ k_ < S_.1 2 cc_ 15 ∧ S_.1 2 cc_ 15 ≤ 1224) ∧ (k_ = -1 ∨ 0 < al_) ∧ (exm9 P_ al_.toNat cc_ (tst9 P_ le_ (cfu9 cc_ S0_).toNat) S_ k_) ∧ (shn S_) ∧ (tkk S0_ S_) ∧ (∀ j9_ : Nat, (j9_ : Int) < al_ → S_.2.2.1 96 0 j9_ ≠ 0) ∧ (imq (0 < al_) (tkw9 cc_ S_)) ∧ (cdf cc_ S0_ S_) ∧ True) → ((k_ + 5).toNat) < nn_ → sm_T (mt_P sc_) 6 179 (99, [some (.inr (.inr (some (9, 0)))), some (.inr (.inr (some (2, cc_)))), some (.inl al_), some (.inl k_), none], [], S_) (fun ro9_ => ∃ u_ S1_, ro9_ = (.inl u_, S1_, 0) ∧ vq_179n cc_ P_ le_ S0_ u_ S1_)) := by
  intro nn_
  induction nn_ with
  | zero => exact ⟨fun _ _ _ _ _ _ h_ => absurd h_ (Nat.not_lt_zero _), fun _ _ _ _ _ _ h_ => absurd h_ (Nat.not_lt_zero _), fun _ _ _ _ _ _ h_ => absurd h_ (Nat.not_lt_zero _)⟩
  | succ nn_ ih_ =>
    refine ⟨?_, ?_, ?_⟩
    · rintro al_ f_ S_ hI_ hF_ ⟨h0_, h5_, hls_, hn1_, hT_, hrd_, hw_, hC_, -⟩ hm_
      have z1_ : S_.1 2 cc_ 1 = S0_.1 2 cc_ 1 := hF_.1 2 cc_ 1 rfl
      have z2_ : S_.1 2 cc_ 2 = S0_.1 2 cc_ 2 := hF_.1 2 cc_ 2 rfl
      have z9a := htp_.1
      have z9b := htp_.2.2
      have tp9_ := tpr_fr htp_ hF_
      have cf9_ : cfu9 cc_ S_ = cfu9 cc_ S0_ := (cfu_fr (cc_ := cc_) hF_).1
      have fq9_ := cfu_q9 hI_ (show S_.1 2 cc_ 1 + S_.1 2 cc_ 2 ≤ 12 by omega)
      have T9_ : (f_ + 1).toNat = f_.toNat + 1 := by omega
      refine sm_T_go 2 (c1 := (14, [some (.inr (.inr (some (9, 0)))), some (.inr (.inr (some (2, cc_)))), some (.inl al_), some (.inl f_), none], [.inl al_, .inl f_], S_)) rfl ?_
      refine sm_T_br (a := 3) (z := 53) rfl (fun cx1_ => ?_) (fun cx1_ => ?_)
      · have cx1_ : al_ ≤ f_ := of_decide_eq_true cx1_
        refine sm_T_go 2 (c1 := (69, [some (.inr (.inr (some (9, 0)))), some (.inr (.inr (some (2, cc_)))), some (.inl al_), some (.inl 0), none], [], S_)) rfl ?_
        refine ih_.2.1 al_ 0 S_ hI_ hF_ ⟨?_, ?_, ?_, ?_, ?_, ?_, ?_, ?_, ?_, trivial⟩ ?_
        · omega
        · omega
        · (rw [show al_.toNat = f_.toNat by omega]; exact hls_)
        · exact hn1_
        · exact hT_
        · (rw [show al_ = f_ by omega]; exact hrd_)
        · (rw [show al_ = f_ by omega]; exact hw_)
        · (intro j9_ hj9_; exfalso; omega)
        · exact hC_
        · omega
      · have cx1_ : ¬ (al_ ≤ f_) := of_decide_eq_false cx1_
        refine sm_T_go 3 (c1 := (20, [some (.inr (.inr (some (9, 0)))), some (.inr (.inr (some (2, cc_)))), some (.inl al_), some (.inl f_), none], [.inl f_, .inr (.inr (some (2, cc_))), .inr (.inr (some (9, 0)))], S_)) rfl ?_
        refine sm_T_cal (d1 := 5) (Q1 := vq_177n f_ cc_ S_) rfl rfl (by decide) (vc_177n f_ cc_ S_ hI_ (by exact tpr_fr htp_ hF_) (by omega) (by exact hn1_) (by exact hT_.1 cc_ hp_)) (fun u_ Sx2_ px5_ => ?_)
        obtain ⟨vx7_, rfl, hIx3_, hFx4_, px5_⟩ := px5_
        have hFx6_ : ai_fr (sx_W vw_179n) S0_ Sx2_ := ai_fr_tr hF_ (fr_le hFx4_ rfl)
        have hCx8_ : cdf cc_ S0_ Sx2_ := cdf_tr hC_ (cdf_fr hFx4_ rfl)
        have p20_ := px5_
        have W20_ : tkw9 cc_ Sx2_ := ⟨⟨p20_.2.1.1, p20_.2.1.2.trans (hFx4_.1 2 cc_ 19 rfl).symm⟩, p20_.2.2.2.1⟩
        have T20_ : tkk S0_ Sx2_ := tkk_w W20_
        have s20_ := hFx4_.1 2 cc_ 15 rfl
        have cf20_ : cfu9 cc_ Sx2_ = cfu9 cc_ S0_ := (cfu_fr (cc_ := cc_) hFx6_).1
        have l20_ : vx7_ = le_ f_.toNat := hle_ f_.toNat vx7_ (by omega) (by (rw [show ((f_.toNat : Nat) : Int) = f_ by omega]; exact csl_fr hF_ p20_.2.2.2.2.2.2))
        have b20_ : vx7_ = -1 ∨ (0 ≤ vx7_ ∧ vx7_ < cB9 cc_ Sx2_) := by (rw [cB_fr (cc_ := cc_) hFx4_]; exact csl_b p20_.2.2.2.2.2.2)
        have ls20_ := tls_fr hls_ hFx4_
        have r20_ : ∀ j9_ : Nat, (j9_ : Int) < f_ + 1 → Sx2_.2.2.1 96 0 j9_ ≠ 0 := fun j9_ hj9_ => by (by_cases y9_ : j9_ = f_.toNat; (rw [y9_]; exact p20_.2.2.2.2.1); (exact p20_.1 j9_ (hw_ (by omega)).1.1 (hw_ (by omega)).1.2 (hrd_ j9_ (by omega))))
        refine sm_T_go 3 (c1 := (28, [some (.inr (.inr (some (9, 0)))), some (.inr (.inr (some (2, cc_)))), some (.inl al_), some (.inl f_), some (.inl vx7_)], [.inl (-1), .inl vx7_], Sx2_)) rfl ?_
        refine sm_T_br (a := 0) (z := 33) rfl (fun cx9_ => ?_) (fun cx9_ => ?_)
        · have cx9_ : vx7_ = (-1) := of_decide_eq_true cx9_
          refine sm_T_inc (a := 3) (z := 1) (v := f_) (w := f_ + 1) rfl rfl (by omega) (by omega) (by omega) ?_ -- pc_ 61
          refine sm_T_go 1 (c1 := (12, [some (.inr (.inr (some (9, 0)))), some (.inr (.inr (some (2, cc_)))), some (.inl al_), some (.inl (f_ + 1)), some (.inl vx7_)], [], Sx2_)) rfl ?_
          refine sm_T_wk [some (.inr (.inr (some (9, 0)))), some (.inr (.inr (some (2, cc_)))), some (.inl al_), some (.inl (f_ + 1)), none] (by exact ⟨rfl, rfl, rfl, rfl, trivial⟩) ?_
          refine ih_.1 al_ (f_ + 1) Sx2_ hIx3_ hFx6_ ⟨?_, ?_, ?_, ?_, ?_, ?_, ?_, ?_, trivial⟩ ?_
          · omega
          · (first | omega | (rw [rf_eq]; omega))
          · first | (rw [T9_, bst9_0 (by (intro y9_; omega))]; exact ls20_) | (rw [T9_, bst9_1 ⟨by omega, by omega⟩, ← l20_]; refine tls_ap ls20_ (by omega) (by rw [rf_eq]) (fun k9_ => ?_) (cB_fr (show ai_fr (sx_W ([(2, 15)], [40], [])) _ (Sx2_) from ai_fr_tr (ai_fr_aI rfl) (ai_fr_pI rfl))); exact rd_eq)
          · first | exact p20_.2.2.1 | (have fx9_ : ai_fr (sx_W ([(2, 15)], [40], [])) _ (Sx2_) := ai_fr_tr (ai_fr_aI rfl) (ai_fr_pI rfl); exact shn_fr p20_.2.2.1 fx9_)
          · first | exact T20_ | (have fx9_ : ai_fr (sx_W ([(2, 15)], [40], [])) _ (Sx2_) := ai_fr_tr (ai_fr_aI rfl) (ai_fr_pI rfl); exact tkk_tr T20_ (tkk_fr fx9_))
          · first | exact r20_ | (have fx9_ : ai_fr (sx_W ([(2, 15)], [40], [])) _ (Sx2_) := ai_fr_tr (ai_fr_aI rfl) (ai_fr_pI rfl); intro j9_ hj9_; rw [fr_arr (t := 96) (i := 0) fx9_ rfl]; exact r20_ j9_ hj9_)
          · first | exact fun _ => W20_ | (have fx9_ : ai_fr (sx_W ([(2, 15)], [40], [])) _ (Sx2_) := ai_fr_tr (ai_fr_aI rfl) (ai_fr_pI rfl); exact fun _ => tkw_fr W20_ fx9_)
          · exact hCx8_
          · omega
        · have cx9_ : ¬ (vx7_ = (-1)) := of_decide_eq_false cx9_
          refine sm_T_go 3 (c1 := (34, [some (.inr (.inr (some (9, 0)))), some (.inr (.inr (some (2, cc_)))), some (.inl al_), some (.inl f_), some (.inl vx7_)], [.inl f_, .inr (.inr (some (2, cc_))), .inr (.inr (some (9, 0)))], Sx2_)) rfl ?_
          refine sm_T_cal (d1 := 1) (Q1 := vq_180n f_ cc_ P_ (bst9 P_ le_ f_.toNat) Sx2_) rfl rfl (by decide) (vc_180n f_ cc_ P_ (bst9 P_ le_ f_.toNat) Sx2_ hIx3_ (by omega) (by exact p20_.2.2.2.1) (by exact p20_.2.2.2.2.1) (by exact shU_fr hU_ hFx6_) (by exact ls20_) (by exact cB_b (tpr_fr htp_ hFx6_).1)) (fun u_ Sx10_ px13_ => ?_)
          obtain ⟨rfl, vx15_, rfl, px13_⟩ := px13_
          have q34_ := px13_
          refine sm_T_b0 (a := 1) (z := 24) rfl (fun cx16_ => ?_) (fun cx16_ => ?_)
          · have cx16_ : vx15_ ≠ 0 := of_decide_eq_true cx16_
            refine sm_T_inc (a := 3) (z := 1) (v := f_) (w := f_ + 1) rfl rfl (by omega) (by omega) (by omega) ?_ -- pc_ 61
            refine sm_T_go 1 (c1 := (12, [some (.inr (.inr (some (9, 0)))), some (.inr (.inr (some (2, cc_)))), some (.inl al_), some (.inl (f_ + 1)), some (.inl vx7_)], [], Sx2_)) rfl ?_
            refine sm_T_wk [some (.inr (.inr (some (9, 0)))), some (.inr (.inr (some (2, cc_)))), some (.inl al_), some (.inl (f_ + 1)), none] (by exact ⟨rfl, rfl, rfl, rfl, trivial⟩) ?_
            refine ih_.1 al_ (f_ + 1) Sx2_ hIx3_ hFx6_ ⟨?_, ?_, ?_, ?_, ?_, ?_, ?_, ?_, trivial⟩ ?_
            · omega
            · (first | omega | (rw [rf_eq]; omega))
            · first | (rw [T9_, bst9_0 (by (intro y9_; omega))]; exact ls20_) | (rw [T9_, bst9_1 ⟨by omega, by omega⟩, ← l20_]; refine tls_ap ls20_ (by omega) (by rw [rf_eq]) (fun k9_ => ?_) (cB_fr (show ai_fr (sx_W ([(2, 15)], [40], [])) _ (Sx2_) from ai_fr_tr (ai_fr_aI rfl) (ai_fr_pI rfl))); exact rd_eq)
            · first | exact p20_.2.2.1 | (have fx9_ : ai_fr (sx_W ([(2, 15)], [40], [])) _ (Sx2_) := ai_fr_tr (ai_fr_aI rfl) (ai_fr_pI rfl); exact shn_fr p20_.2.2.1 fx9_)
            · first | exact T20_ | (have fx9_ : ai_fr (sx_W ([(2, 15)], [40], [])) _ (Sx2_) := ai_fr_tr (ai_fr_aI rfl) (ai_fr_pI rfl); exact tkk_tr T20_ (tkk_fr fx9_))
            · first | exact r20_ | (have fx9_ : ai_fr (sx_W ([(2, 15)], [40], [])) _ (Sx2_) := ai_fr_tr (ai_fr_aI rfl) (ai_fr_pI rfl); intro j9_ hj9_; rw [fr_arr (t := 96) (i := 0) fx9_ rfl]; exact r20_ j9_ hj9_)
            · first | exact fun _ => W20_ | (have fx9_ : ai_fr (sx_W ([(2, 15)], [40], [])) _ (Sx2_) := ai_fr_tr (ai_fr_aI rfl) (ai_fr_pI rfl); exact fun _ => tkw_fr W20_ fx9_)
            · exact hCx8_
            · omega
          · have cx16_ : ¬ (vx15_ ≠ 0) := of_decide_eq_false cx16_
            have bx17_ : (-1) ≤ Sx2_.1 2 cc_ 15 ∧ Sx2_.1 2 cc_ 15 ≤ 1224 := hIx3_.1 2 cc_ 15 rfl
            refine sm_T_go 5 (c1 := (50, [some (.inr (.inr (some (9, 0)))), some (.inr (.inr (some (2, cc_)))), some (.inl al_), some (.inl f_), some (.inl vx7_)], [.inl vx7_, .inl (Sx2_.1 2 cc_ 15), .inr (.inr (some (40, (0 + cc_))))], Sx2_)) rfl ?_
            refine sm_T_iast (n := 1224) rfl rfl (by omega) (by omega) ?_
            have hIx18_ : gi (sm_aI Sx2_ 40 (0 + cc_) (Sx2_.1 2 cc_ 15).toNat vx7_) := gi_aI hIx3_ (show 0 ≤ vx7_ ∧ vx7_ ≤ 4095 from ⟨by omega, by omega⟩)
            have hFx19_ : ai_fr (sx_W vw_179n) S0_ (sm_aI Sx2_ 40 (0 + cc_) (Sx2_.1 2 cc_ 15).toNat vx7_) := ai_fr_tr hFx6_ (ai_fr_aI rfl)
            have hCx20_ : cdf cc_ S0_ (sm_aI Sx2_ 40 (0 + cc_) (Sx2_.1 2 cc_ 15).toNat vx7_) := cdf_aI hCx8_ (Or.inr (by rw [show cof 40 = 0 from rfl] <;> omega))
            refine sm_T_go 4 (c1 := (57, [some (.inr (.inr (some (9, 0)))), some (.inr (.inr (some (2, cc_)))), some (.inl al_), some (.inl f_), some (.inl vx7_)], [.inl 1, .inl (Sx2_.1 2 cc_ 15), .inr (.inr (some (2, cc_)))], sm_aI Sx2_ 40 (0 + cc_) (Sx2_.1 2 cc_ 15).toNat vx7_)) rfl ?_
            refine sm_T_bin (w := (Sx2_.1 2 cc_ 15) + 1) rfl (bi_add (by omega) (by omega) (by omega)) ?_ -- pc_ 57
            have hIx21_ : gi (sm_pI (sm_aI Sx2_ 40 (0 + cc_) (Sx2_.1 2 cc_ 15).toNat vx7_) 2 cc_ 15 ((Sx2_.1 2 cc_ 15) + 1)) := gi_pI hIx18_ (show (-1) ≤ (Sx2_.1 2 cc_ 15) + 1 ∧ (Sx2_.1 2 cc_ 15) + 1 ≤ 1224 from ⟨by omega, by omega⟩)
            have hFx22_ : ai_fr (sx_W vw_179n) S0_ (sm_pI (sm_aI Sx2_ 40 (0 + cc_) (Sx2_.1 2 cc_ 15).toNat vx7_) 2 cc_ 15 ((Sx2_.1 2 cc_ 15) + 1)) := ai_fr_tr hFx19_ (ai_fr_pI rfl)
            have hCx23_ : cdf cc_ S0_ (sm_pI (sm_aI Sx2_ 40 (0 + cc_) (Sx2_.1 2 cc_ 15).toNat vx7_) 2 cc_ 15 ((Sx2_.1 2 cc_ 15) + 1)) := cdf_pI hCx20_ (Or.inr (by rw [show cof 2 = 0 from rfl] <;> omega))
            refine sm_T_go 1 (c1 := (61, [some (.inr (.inr (some (9, 0)))), some (.inr (.inr (some (2, cc_)))), some (.inl al_), some (.inl f_), some (.inl vx7_)], [], sm_pI (sm_aI Sx2_ 40 (0 + cc_) (Sx2_.1 2 cc_ 15).toNat vx7_) 2 cc_ 15 ((Sx2_.1 2 cc_ 15) + 1))) rfl ?_
            refine sm_T_inc (a := 3) (z := 1) (v := f_) (w := f_ + 1) rfl rfl (by omega) (by omega) (by omega) ?_ -- pc_ 61
            refine sm_T_go 1 (c1 := (12, [some (.inr (.inr (some (9, 0)))), some (.inr (.inr (some (2, cc_)))), some (.inl al_), some (.inl (f_ + 1)), some (.inl vx7_)], [], sm_pI (sm_aI Sx2_ 40 (0 + cc_) (Sx2_.1 2 cc_ 15).toNat vx7_) 2 cc_ 15 ((Sx2_.1 2 cc_ 15) + 1))) rfl ?_
            refine sm_T_wk [some (.inr (.inr (some (9, 0)))), some (.inr (.inr (some (2, cc_)))), some (.inl al_), some (.inl (f_ + 1)), none] (by exact ⟨rfl, rfl, rfl, rfl, trivial⟩) ?_
            refine ih_.1 al_ (f_ + 1) (sm_pI (sm_aI Sx2_ 40 (0 + cc_) (Sx2_.1 2 cc_ 15).toNat vx7_) 2 cc_ 15 ((Sx2_.1 2 cc_ 15) + 1)) hIx21_ hFx22_ ⟨?_, ?_, ?_, ?_, ?_, ?_, ?_, ?_, trivial⟩ ?_
            · omega
            · (first | omega | (rw [rf_eq]; omega))
            · first | (rw [T9_, bst9_0 (by (intro y9_; omega))]; exact ls20_) | (rw [T9_, bst9_1 ⟨by omega, by omega⟩, ← l20_]; refine tls_ap ls20_ (by omega) (by rw [rf_eq]) (fun k9_ => ?_) (cB_fr (show ai_fr (sx_W ([(2, 15)], [40], [])) _ ((sm_pI (sm_aI Sx2_ 40 (0 + cc_) (Sx2_.1 2 cc_ 15).toNat vx7_) 2 cc_ 15 ((Sx2_.1 2 cc_ 15) + 1))) from ai_fr_tr (ai_fr_aI rfl) (ai_fr_pI rfl))); exact rd_eq)
            · first | exact p20_.2.2.1 | (have fx9_ : ai_fr (sx_W ([(2, 15)], [40], [])) _ ((sm_pI (sm_aI Sx2_ 40 (0 + cc_) (Sx2_.1 2 cc_ 15).toNat vx7_) 2 cc_ 15 ((Sx2_.1 2 cc_ 15) + 1))) := ai_fr_tr (ai_fr_aI rfl) (ai_fr_pI rfl); exact shn_fr p20_.2.2.1 fx9_)
            · first | exact T20_ | (have fx9_ : ai_fr (sx_W ([(2, 15)], [40], [])) _ ((sm_pI (sm_aI Sx2_ 40 (0 + cc_) (Sx2_.1 2 cc_ 15).toNat vx7_) 2 cc_ 15 ((Sx2_.1 2 cc_ 15) + 1))) := ai_fr_tr (ai_fr_aI rfl) (ai_fr_pI rfl); exact tkk_tr T20_ (tkk_fr fx9_))
            · first | exact r20_ | (have fx9_ : ai_fr (sx_W ([(2, 15)], [40], [])) _ ((sm_pI (sm_aI Sx2_ 40 (0 + cc_) (Sx2_.1 2 cc_ 15).toNat vx7_) 2 cc_ 15 ((Sx2_.1 2 cc_ 15) + 1))) := ai_fr_tr (ai_fr_aI rfl) (ai_fr_pI rfl); intro j9_ hj9_; rw [fr_arr (t := 96) (i := 0) fx9_ rfl]; exact r20_ j9_ hj9_)
            · first | exact fun _ => W20_ | (have fx9_ : ai_fr (sx_W ([(2, 15)], [40], [])) _ ((sm_pI (sm_aI Sx2_ 40 (0 + cc_) (Sx2_.1 2 cc_ 15).toNat vx7_) 2 cc_ 15 ((Sx2_.1 2 cc_ 15) + 1))) := ai_fr_tr (ai_fr_aI rfl) (ai_fr_pI rfl); exact fun _ => tkw_fr W20_ fx9_)
            · exact hCx23_
            · omega
    · rintro al_ f_ S_ hI_ hF_ ⟨h0_, h5_, hls_, hn1_, hT_, hrd_, hw_, hta_, hC_, -⟩ hm_
      have z1_ : S_.1 2 cc_ 1 = S0_.1 2 cc_ 1 := hF_.1 2 cc_ 1 rfl
      have z2_ : S_.1 2 cc_ 2 = S0_.1 2 cc_ 2 := hF_.1 2 cc_ 2 rfl
      have z9a := htp_.1
      have z9b := htp_.2.2
      have tp9_ := tpr_fr htp_ hF_
      have cf9_ : cfu9 cc_ S_ = cfu9 cc_ S0_ := (cfu_fr (cc_ := cc_) hF_).1
      have fq9_ := cfu_q9 hI_ (show S_.1 2 cc_ 1 + S_.1 2 cc_ 2 ≤ 12 by omega)
      refine sm_T_go 2 (c1 := (71, [some (.inr (.inr (some (9, 0)))), some (.inr (.inr (some (2, cc_)))), some (.inl al_), some (.inl f_), none], [.inl al_, .inl f_], S_)) rfl ?_
      refine sm_T_br (a := 3) (z := 21) rfl (fun cx1_ => ?_) (fun cx1_ => ?_)
      · have cx1_ : al_ ≤ f_ := of_decide_eq_true cx1_
        have bx2_ : (-1) ≤ S_.1 2 cc_ 15 ∧ S_.1 2 cc_ 15 ≤ 1224 := hI_.1 2 cc_ 15 rfl
        refine sm_T_go 3 (c1 := (97, [some (.inr (.inr (some (9, 0)))), some (.inr (.inr (some (2, cc_)))), some (.inl al_), some (.inl f_), none], [.inl 1, .inl (S_.1 2 cc_ 15)], S_)) rfl ?_
        refine sm_T_bin (w := (S_.1 2 cc_ 15) - 1) rfl (bi_sub (by omega) (by omega) (by omega)) ?_ -- pc_ 97
        refine sm_T_go 1 (c1 := (99, [some (.inr (.inr (some (9, 0)))), some (.inr (.inr (some (2, cc_)))), some (.inl al_), some (.inl ((S_.1 2 cc_ 15) - 1)), none], [], S_)) rfl ?_
        refine ih_.2.2 al_ ((S_.1 2 cc_ 15) - 1) S_ hI_ hF_ ⟨?_, ?_, ?_, ?_, ?_, ?_, ?_, ?_, trivial⟩ ?_
        · omega
        · (have y9_ := hls_.1; have y8_ := bst9_l (P_ := P_) (le_ := le_) al_.toNat; omega)
        · exact ⟨bst9 P_ le_ al_.toNat, hls_, fun j9_ hj9_ => hta_ j9_ (by omega), by (rw [show (S_.1 2 cc_ 15 - 1 + 1).toNat = (bst9 P_ le_ al_.toNat).length by (have y9_ := hls_.1; omega), show (cfu9 cc_ S0_).toNat = al_.toNat by omega]; rfl)⟩
        · exact hn1_
        · exact hT_
        · exact hrd_
        · exact hw_
        · exact hC_
        · omega
      · have cx1_ : ¬ (al_ ≤ f_) := of_decide_eq_false cx1_
        refine sm_T_go 6 (c1 := (82, [some (.inr (.inr (some (9, 0)))), some (.inr (.inr (some (2, cc_)))), some (.inl al_), some (.inl f_), none], [.inl f_, .inr (.inr (some (2, cc_))), .inr (.inr (some (9, 0))), .inl f_, .inr (.inr (some (97, 0)))], S_)) rfl ?_
        refine sm_T_cal (d1 := 1) (Q1 := vq_180n f_ cc_ P_ (bst9 P_ le_ al_.toNat) S_) rfl rfl (by decide) (vc_180n f_ cc_ P_ (bst9 P_ le_ al_.toNat) S_ hI_ (by omega) (by exact (hw_ (by omega)).2) (by exact hrd_ f_.toNat (by omega)) (by exact shU_fr hU_ hF_) (by exact hls_) (by exact cB_b (tpr_fr htp_ hF_).1)) (fun u_ Sx3_ px6_ => ?_)
        obtain ⟨rfl, vx8_, rfl, px6_⟩ := px6_
        have q82_ := px6_
        refine sm_T_iast (n := 1224) rfl rfl (by omega) (by omega) ?_
        have hIx9_ : gi (sm_aI S_ 97 0 f_.toNat vx8_) := gi_aI hI_ (show (-2147483648) ≤ vx8_ ∧ vx8_ ≤ 2147483647 from ⟨by omega, by omega⟩)
        have hFx10_ : ai_fr (sx_W vw_179n) S0_ (sm_aI S_ 97 0 f_.toNat vx8_) := ai_fr_tr hF_ (ai_fr_aI rfl)
        have hCx11_ : cdf cc_ S0_ (sm_aI S_ 97 0 f_.toNat vx8_) := cdf_aI hC_ (Or.inl rfl)
        refine sm_T_inc (a := 3) (z := 1) (v := f_) (w := f_ + 1) rfl rfl (by omega) (by omega) (by omega) ?_ -- pc_ 86
        refine sm_T_go 1 (c1 := (69, [some (.inr (.inr (some (9, 0)))), some (.inr (.inr (some (2, cc_)))), some (.inl al_), some (.inl (f_ + 1)), none], [], sm_aI S_ 97 0 f_.toNat vx8_)) rfl ?_
        refine ih_.2.1 al_ (f_ + 1) (sm_aI S_ 97 0 f_.toNat vx8_) hIx9_ hFx10_ ⟨?_, ?_, ?_, ?_, ?_, ?_, ?_, ?_, ?_, trivial⟩ ?_
        · omega
        · (simp only [rd_af]; omega)
        · (have fx9_ : ai_fr (sx_W ([], [97], [])) S_ ((sm_aI S_ 97 0 f_.toNat vx8_)) := ai_fr_aI rfl; exact tls_fr hls_ fx9_)
        · (have fx9_ : ai_fr (sx_W ([], [97], [])) S_ ((sm_aI S_ 97 0 f_.toNat vx8_)) := ai_fr_aI rfl; exact shn_fr hn1_ fx9_)
        · (have fx9_ : ai_fr (sx_W ([], [97], [])) S_ ((sm_aI S_ 97 0 f_.toNat vx8_)) := ai_fr_aI rfl; exact tkk_tr hT_ (tkk_fr fx9_))
        · (have fx9_ : ai_fr (sx_W ([], [97], [])) S_ ((sm_aI S_ 97 0 f_.toNat vx8_)) := ai_fr_aI rfl; intro j9_ hj9_; rw [fr_arr (t := 96) (i := 0) fx9_ rfl]; exact hrd_ j9_ hj9_)
        · (have fx9_ : ai_fr (sx_W ([], [97], [])) S_ ((sm_aI S_ 97 0 f_.toNat vx8_)) := ai_fr_aI rfl; exact fun q9_ => tkw_fr (hw_ q9_) fx9_)
        · intro j9_ hj9_
          rw [rd_eq]
          by_cases y9_ : j9_ = f_.toNat
          · rw [if_pos y9_, y9_]; exact q82_.2
          · rw [if_neg y9_]; exact hta_ j9_ (by omega)
        · exact hCx11_
        · omega
    · rintro al_ k_ S_ hI_ hF_ ⟨h0_, h6_, hM_, hn1_, hT_, hrd_, hw_, hC_, -⟩ hm_
      have z1_ : S_.1 2 cc_ 1 = S0_.1 2 cc_ 1 := hF_.1 2 cc_ 1 rfl
      have z2_ : S_.1 2 cc_ 2 = S0_.1 2 cc_ 2 := hF_.1 2 cc_ 2 rfl
      have z9a := htp_.1
      have z9b := htp_.2.2
      have tp9_ := tpr_fr htp_ hF_
      have cf9_ : cfu9 cc_ S_ = cfu9 cc_ S0_ := (cfu_fr (cc_ := cc_) hF_).1
      have fq9_ := cfu_q9 hI_ (show S_.1 2 cc_ 1 + S_.1 2 cc_ 2 ≤ 12 by omega)
      obtain ⟨M9_, m1_, m2_, m3⟩ := hM_
      have N9_ := m1_.1
      refine sm_T_go 1 (c1 := (100, [some (.inr (.inr (some (9, 0)))), some (.inr (.inr (some (2, cc_)))), some (.inl al_), some (.inl k_), none], [.inl k_], S_)) rfl ?_
      refine sm_T_b0 (a := 2) (z := 30) rfl (fun cx1_ => ?_) (fun cx1_ => ?_)
      · have cx1_ : k_ < 0 := of_decide_eq_true cx1_
        refine sm_T_go 3 (c1 := (135, [some (.inr (.inr (some (9, 0)))), some (.inr (.inr (some (2, cc_)))), some (.inl al_), some (.inl k_), none], [.inl 0, .inr (.inr (some (41, (0 + cc_))))], S_)) rfl ?_
        refine sm_T_cal (d1 := 0) (Q1 := vq_2f1 0 cc_ S_) rfl rfl (by decide) (vc_2f1 0 cc_ S_ hI_ (by decide)) (fun u_ Sx2_ px5_ => ?_)
        obtain ⟨rfl, hIx3_, hFx4_, px5_⟩ := px5_
        have hFx6_ : ai_fr (sx_W vw_179n) S0_ Sx2_ := ai_fr_tr hF_ (fr_le hFx4_ rfl)
        obtain ⟨dx8_, px5_⟩ := px5_
        have hCx7_ : cdf cc_ S0_ Sx2_ := cdf_tr hC_ (cdf_cg (by omega) dx8_)
        have n135_ := shn_fr hn1_ hFx4_
        have e135_ := px5_
        have T135_ := tkk_tr hT_ (tkk_fr hFx4_)
        have l135_ := tls_fr m1_ hFx4_
        refine sm_T_rv rfl ⟨_, _, rfl, rfl, hIx3_, hFx6_, ?_⟩
        refine ⟨hCx7_, ?_⟩
        rw [show (k_ + 1).toNat = 0 by omega] at m3
        have m3 : M9_ = tst9 P_ le_ (cfu9 cc_ S0_).toNat := m3
        rw [← m3]
        exact ⟨n135_, T135_, l135_, e135_⟩
      · have cx1_ : ¬ (k_ < 0) := of_decide_eq_false cx1_
        obtain ⟨x9_, x1_, x2_, x3_⟩ := tls_k (k_ := k_) m1_ (by omega) (by omega)
        have cb9_ := cB_b tp9_.1
        have tk9_ : tok9 cc_ S_ := (hw_ (by omega)).2
        refine sm_T_go 4 (c1 := (109, [some (.inr (.inr (some (9, 0)))), some (.inr (.inr (some (2, cc_)))), some (.inl al_), some (.inl k_), none], [.inl k_, .inr (.inr (some (40, (0 + cc_)))), .inr (.inr (some (9, 0)))], S_)) rfl ?_
        refine sm_T_iald (n := 1224) rfl rfl (by omega) (by omega) ?_
        have bx9_ : 0 ≤ S_.2.2.1 40 (0 + cc_) k_.toNat ∧ S_.2.2.1 40 (0 + cc_) k_.toNat ≤ 4095 := hI_.2 40 (0 + cc_) _
        refine sm_T_go 1 (c1 := (111, [some (.inr (.inr (some (9, 0)))), some (.inr (.inr (some (2, cc_)))), some (.inl al_), some (.inl k_), none], [.inl al_, .inl (S_.2.2.1 40 (0 + cc_) k_.toNat), .inr (.inr (some (9, 0)))], S_)) rfl ?_
        refine sm_T_cal (d1 := 1) (Q1 := vq_181n (S_.2.2.1 40 (0 + cc_) k_.toNat) al_ cc_ P_ M9_ S_) rfl rfl (by decide) (vc_181n (S_.2.2.1 40 (0 + cc_) k_.toNat) al_ cc_ P_ M9_ S_ hI_ (by omega) (by omega) (by exact tk9_) (by exact hrd_) (by exact fun f9_ hf9_ => m2_ f9_ (by omega)) (by exact shU_fr hU_ hF_)) (fun u_ Sx10_ px13_ => ?_)
        obtain ⟨rfl, vx15_, rfl, px13_⟩ := px13_
        have i111_ := (px13_).1
        have g111_ : gos9 P_ al_.toNat M9_ k_.toNat = decide (vx15_ = 1) := by (rw [(px13_).2]; unfold gos9; rw [gtD9 x1_, x2_, Int.toNat_natCast])
        have e111_ := prn9_s (by omega) m3 rfl g111_
        refine sm_T_b0 (a := 0) (z := 10) rfl (fun cx16_ => ?_) (fun cx16_ => ?_)
        · have cx16_ : vx15_ = 0 := of_decide_eq_true cx16_
          refine sm_T_inc (a := 3) (z := (-1)) (v := k_) (w := k_ - 1) rfl rfl (by omega) (by omega) (by omega) ?_ -- pc_ 124
          refine sm_T_go 1 (c1 := (99, [some (.inr (.inr (some (9, 0)))), some (.inr (.inr (some (2, cc_)))), some (.inl al_), some (.inl (k_ - 1)), none], [], S_)) rfl ?_
          refine ih_.2.2 al_ (k_ - 1) S_ hI_ hF_ ⟨?_, ?_, ?_, ?_, ?_, ?_, ?_, ?_, trivial⟩ ?_
          · (first | omega | (have y9_ := r121_.2.2; omega))
          · omega
          · first | (rw [if_neg (by omega)] at e111_; exact ⟨M9_, m1_, m2_, e111_⟩) | (rw [if_pos (by omega)] at e111_; exact ⟨_, r121_.1, fun j9_ hj9_ => r121_.2.1 j9_ (by omega), e111_⟩)
          · first | exact hn1_ | exact n121_
          · first | exact hT_ | exact tkk_tr hT_ (tkk_fr F121_)
          · first | exact hrd_ | (intro j9_ hj9_; rw [fr_arr (t := 96) (i := 0) F121_ rfl]; exact hrd_ j9_ hj9_)
          · first | exact hw_ | exact fun q9_ => tkw_fr (hw_ q9_) F121_
          · exact hC_
          · omega
        · have cx16_ : ¬ (vx15_ = 0) := of_decide_eq_false cx16_
          refine sm_T_go 4 (c1 := (121, [some (.inr (.inr (some (9, 0)))), some (.inr (.inr (some (2, cc_)))), some (.inl al_), some (.inl k_), none], [.inl al_, .inl k_, .inr (.inr (some (2, cc_))), .inr (.inr (some (9, 0)))], S_)) rfl ?_
          refine sm_T_cal (d1 := 1) (Q1 := vq_182n k_ al_ cc_ P_ M9_ S_) rfl rfl (by decide) (vc_182n k_ al_ cc_ P_ M9_ S_ hI_ (by omega) (by omega) (by exact hrd_) (by exact fun f9_ hf9_ => m2_ f9_ (by omega)) (by exact tk9_) (by exact shU_fr hU_ hF_) (by exact m1_) (by exact cb9_)) (fun u_ Sx17_ px20_ => ?_)
          obtain ⟨rfl, hIx18_, hFx19_, px20_⟩ := px20_
          have hFx21_ : ai_fr (sx_W vw_179n) S0_ Sx17_ := ai_fr_tr hF_ (fr_le hFx19_ rfl)
          obtain ⟨dx23_, px20_⟩ := px20_
          have hCx22_ : cdf cc_ S0_ Sx17_ := cdf_tr hC_ (cdf_cg (by omega) dx23_)
          have r121_ := px20_
          have F121_ := hFx19_
          have n121_ := shn_fr hn1_ hFx19_
          refine sm_T_inc (a := 3) (z := (-1)) (v := k_) (w := k_ - 1) rfl rfl (by omega) (by omega) (by omega) ?_ -- pc_ 124
          refine sm_T_go 1 (c1 := (99, [some (.inr (.inr (some (9, 0)))), some (.inr (.inr (some (2, cc_)))), some (.inl al_), some (.inl (k_ - 1)), none], [], Sx17_)) rfl ?_
          refine ih_.2.2 al_ (k_ - 1) Sx17_ hIx18_ hFx21_ ⟨?_, ?_, ?_, ?_, ?_, ?_, ?_, ?_, trivial⟩ ?_
          · (first | omega | (have y9_ := r121_.2.2; omega))
          · omega
          · first | (rw [if_neg (by omega)] at e111_; exact ⟨M9_, m1_, m2_, e111_⟩) | (rw [if_pos (by omega)] at e111_; exact ⟨_, r121_.1, fun j9_ hj9_ => r121_.2.1 j9_ (by omega), e111_⟩)
          · first | exact hn1_ | exact n121_
          · first | exact hT_ | exact tkk_tr hT_ (tkk_fr F121_)
          · first | exact hrd_ | (intro j9_ hj9_; rw [fr_arr (t := 96) (i := 0) F121_ rfl]; exact hrd_ j9_ hj9_)
          · first | exact hw_ | exact fun q9_ => tkw_fr (hw_ q9_) F121_
          · exact hCx22_
          · omega
set_option maxHeartbeats 2000000 in
theorem vc_179n {sc_ : Nat × (Nat → Int)} (cc_ : Nat) (P_ : Nat → Nat → Bool) (le_ : Nat → Int) (S0_ : sm_S) (hI_ : gi S0_) (htp_ : tpr cc_ S0_) (hn_ : shn S0_) (hp_ : tkp cc_ S0_) (hU_ : shU cc_ S0_ P_) (hle_ : leU cc_ S0_ le_) : sm_T (mt_P sc_) 6 179 (0, [some (.inr (.inr (some (9, 0)))), some (.inr (.inr (some (2, cc_)))), none, none, none], [], S0_) (fun ro9_ => ∃ u_ S1_, ro9_ = (.inl u_, S1_, 0) ∧ vq_179n cc_ P_ le_ S0_ u_ S1_) := by
  have hF_ : ai_fr (sx_W vw_179n) S0_ S0_ := ai_fr_rf
  have hC_ : cdf cc_ S0_ S0_ := cdf_rf
  have fq9_ := cfu_q9 hI_ htp_.1
  have fz9_ : 0 ≤ cfu9 cc_ S0_ := by (have y9_ := htp_.2.2; unfold cfu9 cnc; omega)
  have hIx1_ : gi (sm_pI S0_ 2 cc_ 15 0) := gi_pI hI_ (show (-1) ≤ 0 ∧ 0 ≤ 1224 from ⟨by omega, by omega⟩)
  have hFx2_ : ai_fr (sx_W vw_179n) S0_ (sm_pI S0_ 2 cc_ 15 0) := ai_fr_tr hF_ (ai_fr_pI rfl)
  have hCx3_ : cdf cc_ S0_ (sm_pI S0_ 2 cc_ 15 0) := cdf_pI hC_ (Or.inr (by rw [show cof 2 = 0 from rfl] <;> omega))
  refine sm_T_go 4 (c1 := (6, [some (.inr (.inr (some (9, 0)))), some (.inr (.inr (some (2, cc_)))), none, none, none], [.inr (.inr (some (2, cc_)))], sm_pI S0_ 2 cc_ 15 0)) rfl ?_
  refine sm_T_cal (d1 := 1) (Q1 := vq_62n cc_ (sm_pI S0_ 2 cc_ 15 0)) rfl rfl (by decide) (vc_62n cc_ (sm_pI S0_ 2 cc_ 15 0) hIx1_ (by (simp only [rf_nk, ne_eq, Nat.reduceEqDiff, not_false_eq_true]; exact htp_.1))) (fun u_ Sx4_ px7_ => ?_)
  obtain ⟨rfl, vx9_, rfl, px7_⟩ := px7_
  have fx0_ : ai_fr (sx_W ([(2, 15)], [], [])) S0_ ((sm_pI S0_ 2 cc_ 15 0)) := ai_fr_pI rfl
  have fc6_ : vx9_ = cfu9 cc_ S0_ := by (rw [(px7_).2]; exact (cfu_fr (cc_ := cc_) fx0_).1)
  have fc6b := (px7_).1
  refine sm_T_go 3 (c1 := (12, [some (.inr (.inr (some (9, 0)))), some (.inr (.inr (some (2, cc_)))), some (.inl vx9_), some (.inl 0), none], [], sm_pI S0_ 2 cc_ 15 0)) rfl ?_
  refine (vl_179n cc_ P_ le_ S0_ htp_ hn_ hp_ hU_ hle_ _).1 vx9_ 0 (sm_pI S0_ 2 cc_ 15 0) hIx1_ hFx2_ ⟨?_, ?_, ?_, ?_, ?_, ?_, ?_, ?_, trivial⟩ (Nat.lt_succ_self _)
  · omega
  · (rw [rf_eq]; omega)
  · (refine ⟨?_, fun k9_ x9_ q9_ => ?_⟩; (rw [rf_eq]; rfl); (cases q9_))
  · exact hn_
  · exact tkk_fr fx0_
  · (intro j9_ hj9_; exfalso; omega)
  · (intro q9_; exfalso; omega)
  · exact hCx3_
