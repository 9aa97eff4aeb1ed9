/-! 99.ztL -/
section
/-! next values and beginning: the reference; written by wip/p55/gen/vg -/

/-! next values and beginning: the_ reference -/
/-- the_ reference holds them -/
def rxn (R_ : Nat) (x_ : gN) (S_ : sm_S) : Prop := S_.1 13 0 52 = x_.2 ∧ ∀ i_, i_ < R_ → S_.2.2.1 151 0 i_ = x_.1 i_
theorem rxn_fr {w_ : sx_Wl} {R_ : Nat} {x_ : gN} {S_ S'_ : sm_S} (h_ : rxn R_ x_ S_) (g_ : ai_fr (sx_W w_) S_ S'_) (h2_ : (sx_W w_).1 13 52 = false := by rfl) (h4_ : (sx_W w_).2.1 151 = false := by rfl) : rxn R_ x_ S'_ := by
  unfold rxn
  rw [g_.1 13 0 52 h2_, fr_arr (t := 151) g_ h4_]
  exact h_
theorem nnx_t {p_ : Nat} {y_ : List Int} {N_ : Nat → Int} {k_ : Nat} (hk_ : k_ < y_.length) (i_ : Nat) : nnx p_ (y_.take (k_ + 1)) N_ i_ = if i_ = p_ + k_ then y_.getD k_ 0 else nnx p_ (y_.take k_) N_ i_ := by
  unfold nnx
  rw [List.length_take, List.length_take, Nat.min_eq_left (by omega), Nat.min_eq_left (by omega)]
  by_cases c_ : i_ = p_ + k_
  · subst c_
    rw [if_pos (by omega), if_pos rfl, show p_ + k_ - p_ = k_ by omega, List.getD_eq_getElem?_getD, List.getD_eq_getElem?_getD, List.getElem?_take, if_pos (by omega)]
  · rw [if_neg c_]
    by_cases d_ : p_ ≤ i_ ∧ i_ < p_ + k_
    · rw [if_pos (by omega), if_pos d_, List.getD_eq_getElem?_getD, List.getD_eq_getElem?_getD, List.getElem?_take, List.getElem?_take, if_pos (by omega), if_pos (by omega)]
    · rw [if_neg (by omega), if_neg d_]

/-! M_.makeRegister -/
def vw_344n : sx_Wl := ([(13, 9), (13, 52), (13, 53)], [144, 150, 151], [])
def vq_344n (nm_ : Int) (b_ : Nat → Int) (n_ : Nat) (T_ : Nat) (p_ : Nat) (uu_ : Nat) (f_ : Nat) (q_ : Nat) (A_ : pA) (M_ : Nat) (s_ : Nat) (fr_ : Nat) (wd_ : Nat) (R_ : Nat) (I_ : Nat) (det_ : Int) (x0_ : gN) (S0_ : sm_S) (u_ : Option sm_V) (S1_ : sm_S) : Prop := u_ = none ∧ gi S1_ ∧ ai_fr (sx_W vw_344n) S0_ S1_ ∧ (rg b_ n_ T_ (.inr q_) S1_ ∧ (S1_.1 13 0 53) = ((R_ + wd_ : Nat) : Int) ∧ (∀ j_, S1_.2.2.1 150 0 j_ = if j_ = 40 * fr_ + s_ then (R_ : Int) else S0_.2.2.1 150 0 j_) ∧ rwv (S1_.2.2.1 144 0) (8 * (40 * fr_ + s_)) (r_bt I_ R_ wd_) ∧ (∀ j_, j_ < 8 * (40 * fr_ + s_) ∨ 8 * (40 * fr_ + s_) + 8 ≤ j_ → S1_.2.2.1 144 0 j_ = S0_.2.2.1 144 0 j_) ∧ rnS S1_ ∧ rxn (R_ + wd_) (nho I_ R_ wd_ x0_.1, bho det_ R_ wd_ x0_.2) S1_)
set_option maxHeartbeats 1500000 in
theorem vl_344n {sc_ : Nat × (Nat → Int)} (nm_ : Int) (b_ : Nat → Int) (n_ : Nat) (T_ : Nat) (p_ : Nat) (uu_ : Nat) (f_ : Nat) (q_ : Nat) (A_ : pA) (M_ : Nat) (s_ : Nat) (fr_ : Nat) (wd_ : Nat) (R_ : Nat) (I_ : Nat) (det_ : Int) (x0_ : gN) (S0_ : sm_S) (ht_ : rtab b_ n_ T_ S0_) (hx_ : rg b_ n_ T_ (.inr p_) S0_) (hn_ : nxs b_ n_ 59 f_ p_ uu_) (hq_ : p_ad b_ n_ uu_ = .inr q_) (hf_ : (S0_.1 13 0 29) = (fr_ : Int) ∧ fr_ ≤ 15) (hn1_ : nm_ = (s_ : Int) ∧ s_ < A_.1 M_ ∧ A_.1 M_ ≤ 40 ∧ M_ ≤ 15) (hmd_ : (S0_.1 13 0 28) = (M_ : Int)) (hw_ : S0_.2.2.1 129 0 (40 * M_ + s_) = (wd_ : Int) ∧ 1 ≤ wd_ ∧ wd_ ≤ 8) (hR_ : (S0_.1 13 0 53) = (R_ : Int) ∧ R_ + wd_ ≤ 6) (hms_ : 1 ≤ (S0_.1 13 0 12) ∧ (S0_.1 13 0 12) ≤ 16) (hI1_ : S0_.2.2.1 132 0 ((S0_.1 13 0 12) - 1).toNat = (I_ : Int) ∧ I_ ≤ 12) (hrn_ : rnS S0_) (hnf_ : 1 + (I_ : Int) + R_ + wd_ ≤ (S0_.1 13 0 37)) (hdt_ : S0_.2.2.1 130 0 (40 * M_ + s_) = det_) (hx0_ : rxn R_ x0_ S0_) : ∀ nn_ : Nat, (∀ (kx_ : Int) (k_ : Int) (S_ : sm_S), gi S_ → ai_fr (sx_W vw_344n) S0_ S_ → (((0 ≤ k_ ∧ k_ ≤ (wd_ : Int)) ∧ kx_ = 40 * (M_ : Int) + s_ ∧ (S_.1 13 0 53) = (R_ : Int) + k_) ∧ (rg b_ n_ T_ (.inr p_) S_) ∧ (∀ j_, S_.2.2.1 150 0 j_ = if j_ = 40 * fr_ + s_ then (R_ : Int) else S0_.2.2.1 150 0 j_) ∧ (rwv (S_.2.2.1 144 0) (8 * (40 * fr_ + s_)) (r_bt I_ R_ k_.toNat)) ∧ (∀ j_, j_ < 8 * (40 * fr_ + s_) ∨ 8 * (40 * fr_ + s_) + 8 ≤ j_ → S_.2.2.1 144 0 j_ = S0_.2.2.1 144 0 j_) ∧ (rnS S_) ∧ (rxn (R_ + k_.toNat) (nho I_ R_ k_.toNat x0_.1, bho det_ R_ k_.toNat x0_.2) S_) ∧ True) → (((wd_ : Int) - k_).toNat) < nn_ → sm_T (mt_P sc_) 2 344 (30, [some (.inr (.inr (some (13, 0)))), some (.inl nm_), some (.inl kx_), some (.inl k_), none], [], S_) (fun ro9_ => ∃ u_ S1_, ro9_ = (.inl u_, S1_, 0) ∧ vq_344n nm_ b_ n_ T_ p_ uu_ f_ q_ A_ M_ s_ fr_ wd_ R_ I_ det_ x0_ S0_ u_ S1_)) := by
  intro nn_
  induction nn_ with
  | zero => exact fun _ _ _ _ _ _ h_ => absurd h_ (Nat.not_lt_zero _)
  | succ nn_ ih_ =>
    rintro kx_ k_ S_ hI_ hF_ ⟨h0_, h4_, h5_, h1_, h2_, h6_, h8_, -⟩ hm_
    have f1_ : S_.1 13 0 29 = (fr_ : Int) := (hF_.1 13 0 29 rfl).trans hf_.1
    have m1_ : S_.1 13 0 12 = S0_.1 13 0 12 := hF_.1 13 0 12 rfl
    have w1_ : S_.2.2.1 129 0 kx_.toNat = (wd_ : Int) := by rw [fr_arr (t := 129) (i := 0) hF_ rfl, show kx_.toNat = 40 * M_ + s_ by omega]; exact hw_.1
    have d1_ : S_.2.2.1 130 0 kx_.toNat = det_ := by rw [fr_arr (t := 130) (i := 0) hF_ rfl, show kx_.toNat = 40 * M_ + s_ by omega]; exact hdt_
    have i1_ : S_.2.2.1 132 0 (S_.1 13 0 12 - 1).toNat = (I_ : Int) := by rw [fr_arr (t := 132) (i := 0) hF_ rfl, m1_]; exact hI1_.1
    have ht1_ := rtab_fr ht_ hF_ rfl rfl rfl rfl rfl
    have hwb_ := hw_.2
    have hib_ := hI1_.2
    have n37_ : S_.1 13 0 37 = S0_.1 13 0 37 := hF_.1 13 0 37 rfl
    refine sm_T_go 4 (c1 := (36, [some (.inr (.inr (some (13, 0)))), some (.inl nm_), some (.inl kx_), some (.inl k_), none], [.inl kx_, .inr (.inr (some (129, 0))), .inl k_], S_)) rfl ?_
    refine sm_T_iald (n := 640) rfl rfl (by omega) (by omega) ?_
    have bx1_ : 0 ≤ S_.2.2.1 129 0 kx_.toNat ∧ S_.2.2.1 129 0 kx_.toNat ≤ 8 := hI_.2 129 0 _
    refine sm_T_br (a := 3) (z := 97) rfl (fun cx2_ => ?_) (fun cx2_ => ?_)
    · have cx2_ : (S_.2.2.1 129 0 kx_.toNat) ≤ k_ := of_decide_eq_true cx2_
      refine sm_T_go 2 (c1 := (137, [some (.inr (.inr (some (13, 0)))), some (.inl nm_), some (.inl kx_), some (.inl k_), none], [.inl 59, .inr (.inr (some (13, 0)))], S_)) rfl ?_
      refine sm_T_cal (d1 := 1) (Q1 := vq_343 59 b_ n_ T_ p_ uu_ f_ q_ S_) rfl rfl (by decide) (vc_343 59 b_ n_ T_ p_ uu_ f_ q_ S_ hI_ (by exact ht1_) (by exact h4_) (by exact hn_) (by exact hq_) (by decide)) (fun u_ Sx3_ px6_ => ?_)
      obtain ⟨rfl, hIx4_, hFx5_, px6_⟩ := px6_
      have hFx7_ : ai_fr (sx_W vw_344n) S0_ Sx3_ := ai_fr_tr hF_ (fr_le hFx5_ rfl)
      have e137_ := px6_
      have u137_ := hFx5_.1 13 0 53 rfl
      have a137_ := fr_arr (t := 150) (i := 0) hFx5_ rfl
      have b137_ := fr_arr (t := 144) (i := 0) hFx5_ rfl
      have c137_ := rnS_fr h6_ hFx5_ rfl rfl rfl rfl
      have x137_ := rxn_fr h8_ hFx5_
      refine sm_T_rv rfl ⟨_, _, rfl, rfl, hIx4_, hFx7_, ?_⟩
      refine ⟨e137_, by rw [u137_]; push_cast; omega, fun j_ => by rw [a137_]; exact h5_ j_, by rw [b137_, show wd_ = k_.toNat by omega]; exact h1_, fun j_ hj_ => by rw [b137_]; exact h2_ j_ hj_, c137_, by (rw [show k_.toNat = wd_ by omega] at x137_; exact x137_)⟩
    · have cx2_ : ¬ ((S_.2.2.1 129 0 kx_.toNat) ≤ k_) := of_decide_eq_false cx2_
      have bx8_ : 0 ≤ S_.1 13 0 12 ∧ S_.1 13 0 12 ≤ 16 := hI_.1 13 0 12 rfl
      refine sm_T_go 7 (c1 := (51, [some (.inr (.inr (some (13, 0)))), some (.inl nm_), some (.inl kx_), some (.inl k_), none], [.inl 1, .inl (S_.1 13 0 12), .inr (.inr (some (132, 0))), .inl 1, .inl 2], S_)) rfl ?_
      refine sm_T_bin (w := (S_.1 13 0 12) - 1) rfl (bi_sub (by omega) (by omega) (by omega)) ?_
      refine sm_T_iald (n := 16) rfl rfl (by omega) (by omega) ?_
      have bx9_ : 0 ≤ S_.2.2.1 132 0 ((S_.1 13 0 12) - 1).toNat ∧ S_.2.2.1 132 0 ((S_.1 13 0 12) - 1).toNat ≤ 320 := hI_.2 132 0 _
      refine sm_T_bin (w := (S_.2.2.1 132 0 ((S_.1 13 0 12) - 1).toNat) + 1) rfl (bi_add (by omega) (by omega) (by omega)) ?_
      have bx10_ : 0 ≤ S_.1 13 0 53 ∧ S_.1 13 0 53 ≤ 6 := hI_.1 13 0 53 rfl
      refine sm_T_go 2 (c1 := (58, [some (.inr (.inr (some (13, 0)))), some (.inl nm_), some (.inl kx_), some (.inl k_), none], [.inl (S_.1 13 0 53), .inl ((S_.2.2.1 132 0 ((S_.1 13 0 12) - 1).toNat) + 1), .inl 2], S_)) rfl ?_
      refine sm_T_bin (w := (S_.2.2.1 132 0 ((S_.1 13 0 12) - 1).toNat) + (S_.1 13 0 53) + 1) rfl (bi_add (by omega) (by omega) (by omega)) ?_
      refine sm_T_bin (w := 2 * (S_.2.2.1 132 0 ((S_.1 13 0 12) - 1).toNat) + 2 * (S_.1 13 0 53) + 2) rfl (bi_mul (by omega) (by omega) (by omega)) ?_
      have bx11_ : 0 ≤ S_.1 13 0 29 ∧ S_.1 13 0 29 ≤ 16 := hI_.1 13 0 29 rfl
      refine sm_T_go 7 (c1 := (74, [some (.inr (.inr (some (13, 0)))), some (.inl nm_), some (.inl kx_), some (.inl k_), some (.inl (2 * (S_.2.2.1 132 0 ((S_.1 13 0 12) - 1).toNat) + 2 * (S_.1 13 0 53) + 2))], [.inl (S_.1 13 0 29), .inl 40, .inl 8, .inr (.inr (some (144, 0)))], S_)) rfl ?_
      refine sm_T_bin (w := 40 * (S_.1 13 0 29)) rfl (bi_mul (by omega) (by omega) (by omega)) ?_
      refine sm_T_go 1 (c1 := (76, [some (.inr (.inr (some (13, 0)))), some (.inl nm_), some (.inl kx_), some (.inl k_), some (.inl (2 * (S_.2.2.1 132 0 ((S_.1 13 0 12) - 1).toNat) + 2 * (S_.1 13 0 53) + 2))], [.inl nm_, .inl (40 * (S_.1 13 0 29)), .inl 8, .inr (.inr (some (144, 0)))], S_)) rfl ?_
      refine sm_T_bin (w := 40 * (S_.1 13 0 29) + nm_) rfl (bi_add (by omega) (by omega) (by omega)) ?_
      refine sm_T_bin (w := 320 * (S_.1 13 0 29) + 8 * nm_) rfl (bi_mul (by omega) (by omega) (by omega)) ?_
      refine sm_T_go 1 (c1 := (79, [some (.inr (.inr (some (13, 0)))), some (.inl nm_), some (.inl kx_), some (.inl k_), some (.inl (2 * (S_.2.2.1 132 0 ((S_.1 13 0 12) - 1).toNat) + 2 * (S_.1 13 0 53) + 2))], [.inl k_, .inl (320 * (S_.1 13 0 29) + 8 * nm_), .inr (.inr (some (144, 0)))], S_)) rfl ?_
      refine sm_T_bin (w := 320 * (S_.1 13 0 29) + 8 * nm_ + k_) rfl (bi_add (by omega) (by omega) (by omega)) ?_
      refine sm_T_go 1 (c1 := (82, [some (.inr (.inr (some (13, 0)))), some (.inl nm_), some (.inl kx_), some (.inl k_), some (.inl (2 * (S_.2.2.1 132 0 ((S_.1 13 0 12) - 1).toNat) + 2 * (S_.1 13 0 53) + 2))], [.inl (2 * (S_.2.2.1 132 0 ((S_.1 13 0 12) - 1).toNat) + 2 * (S_.1 13 0 53) + 2), .inl (320 * (S_.1 13 0 29) + 8 * nm_ + k_), .inr (.inr (some (144, 0)))], S_)) rfl ?_
      refine sm_T_iast (n := 5120) rfl rfl (by omega) (by omega) ?_
      have hIx12_ : gi (sm_aI S_ 144 0 (320 * (S_.1 13 0 29) + 8 * nm_ + k_).toNat (2 * (S_.2.2.1 132 0 ((S_.1 13 0 12) - 1).toNat) + 2 * (S_.1 13 0 53) + 2)) := gi_aI hI_ (show 0 ≤ 2 * (S_.2.2.1 132 0 ((S_.1 13 0 12) - 1).toNat) + 2 * (S_.1 13 0 53) + 2 ∧ 2 * (S_.2.2.1 132 0 ((S_.1 13 0 12) - 1).toNat) + 2 * (S_.1 13 0 53) + 2 ≤ 2047 from ⟨by omega, by omega⟩)
      have hFx13_ : ai_fr (sx_W vw_344n) S0_ (sm_aI S_ 144 0 (320 * (S_.1 13 0 29) + 8 * nm_ + k_).toNat (2 * (S_.2.2.1 132 0 ((S_.1 13 0 12) - 1).toNat) + 2 * (S_.1 13 0 53) + 2)) := ai_fr_tr hF_ (ai_fr_aI rfl)
      refine sm_T_go 5 (c1 := (93, [some (.inr (.inr (some (13, 0)))), some (.inl nm_), some (.inl kx_), some (.inl k_), some (.inl (2 * (S_.2.2.1 132 0 ((S_.1 13 0 12) - 1).toNat) + 2 * (S_.1 13 0 53) + 2))], [.inl (2 * (S_.2.2.1 132 0 ((S_.1 13 0 12) - 1).toNat) + 2 * (S_.1 13 0 53) + 2), .inl (S_.1 13 0 53), .inr (.inr (some (151, 0)))], sm_aI S_ 144 0 (320 * (S_.1 13 0 29) + 8 * nm_ + k_).toNat (2 * (S_.2.2.1 132 0 ((S_.1 13 0 12) - 1).toNat) + 2 * (S_.1 13 0 53) + 2))) rfl ?_
      refine sm_T_iast (n := 1024) rfl rfl (by omega) (by omega) ?_
      have hIx14_ : gi (sm_aI (sm_aI S_ 144 0 (320 * (S_.1 13 0 29) + 8 * nm_ + k_).toNat (2 * (S_.2.2.1 132 0 ((S_.1 13 0 12) - 1).toNat) + 2 * (S_.1 13 0 53) + 2)) 151 0 (S_.1 13 0 53).toNat (2 * (S_.2.2.1 132 0 ((S_.1 13 0 12) - 1).toNat) + 2 * (S_.1 13 0 53) + 2)) := gi_aI hIx12_ (show 0 ≤ 2 * (S_.2.2.1 132 0 ((S_.1 13 0 12) - 1).toNat) + 2 * (S_.1 13 0 53) + 2 ∧ 2 * (S_.2.2.1 132 0 ((S_.1 13 0 12) - 1).toNat) + 2 * (S_.1 13 0 53) + 2 ≤ 2047 from ⟨by omega, by omega⟩)
      have hFx15_ : ai_fr (sx_W vw_344n) S0_ (sm_aI (sm_aI S_ 144 0 (320 * (S_.1 13 0 29) + 8 * nm_ + k_).toNat (2 * (S_.2.2.1 132 0 ((S_.1 13 0 12) - 1).toNat) + 2 * (S_.1 13 0 53) + 2)) 151 0 (S_.1 13 0 53).toNat (2 * (S_.2.2.1 132 0 ((S_.1 13 0 12) - 1).toNat) + 2 * (S_.1 13 0 53) + 2)) := ai_fr_tr hFx13_ (ai_fr_aI rfl)
      have bx16_ : 0 ≤ S_.1 13 0 52 ∧ S_.1 13 0 52 ≤ 63 := hI_.1 13 0 52 rfl
      refine sm_T_go 6 (c1 := (104, [some (.inr (.inr (some (13, 0)))), some (.inl nm_), some (.inl kx_), some (.inl k_), some (.inl (2 * (S_.2.2.1 132 0 ((S_.1 13 0 12) - 1).toNat) + 2 * (S_.1 13 0 53) + 2))], [.inl kx_, .inr (.inr (some (130, 0))), .inl (S_.1 13 0 52), .inr (.inr (some (13, 0)))], sm_aI (sm_aI S_ 144 0 (320 * (S_.1 13 0 29) + 8 * nm_ + k_).toNat (2 * (S_.2.2.1 132 0 ((S_.1 13 0 12) - 1).toNat) + 2 * (S_.1 13 0 53) + 2)) 151 0 (S_.1 13 0 53).toNat (2 * (S_.2.2.1 132 0 ((S_.1 13 0 12) - 1).toNat) + 2 * (S_.1 13 0 53) + 2))) rfl ?_
      refine sm_T_iald (n := 640) rfl rfl (by omega) (by omega) ?_
      have bx17_ : 0 ≤ S_.2.2.1 130 0 kx_.toNat ∧ S_.2.2.1 130 0 kx_.toNat ≤ 2147483647 := hI_.2 130 0 _
      refine sm_T_go 1 (c1 := (106, [some (.inr (.inr (some (13, 0)))), some (.inl nm_), some (.inl kx_), some (.inl k_), some (.inl (2 * (S_.2.2.1 132 0 ((S_.1 13 0 12) - 1).toNat) + 2 * (S_.1 13 0 53) + 2))], [.inl k_, .inl (S_.2.2.1 130 0 kx_.toNat), .inl (S_.1 13 0 52), .inr (.inr (some (13, 0)))], sm_aI (sm_aI S_ 144 0 (320 * (S_.1 13 0 29) + 8 * nm_ + k_).toNat (2 * (S_.2.2.1 132 0 ((S_.1 13 0 12) - 1).toNat) + 2 * (S_.1 13 0 53) + 2)) 151 0 (S_.1 13 0 53).toNat (2 * (S_.2.2.1 132 0 ((S_.1 13 0 12) - 1).toNat) + 2 * (S_.1 13 0 53) + 2))) rfl ?_
      refine sm_T_bin (w := (i_shr (S_.2.2.1 130 0 kx_.toNat) k_)) rfl rfl ?_
      refine sm_T_go 1 (c1 := (108, [some (.inr (.inr (some (13, 0)))), some (.inl nm_), some (.inl kx_), some (.inl k_), some (.inl (2 * (S_.2.2.1 132 0 ((S_.1 13 0 12) - 1).toNat) + 2 * (S_.1 13 0 53) + 2))], [.inl 1, .inl (i_shr (S_.2.2.1 130 0 kx_.toNat) k_), .inl (S_.1 13 0 52), .inr (.inr (some (13, 0)))], sm_aI (sm_aI S_ 144 0 (320 * (S_.1 13 0 29) + 8 * nm_ + k_).toNat (2 * (S_.2.2.1 132 0 ((S_.1 13 0 12) - 1).toNat) + 2 * (S_.1 13 0 53) + 2)) 151 0 (S_.1 13 0 53).toNat (2 * (S_.2.2.1 132 0 ((S_.1 13 0 12) - 1).toNat) + 2 * (S_.1 13 0 53) + 2))) rfl ?_
      refine sm_T_bin (w := ((i_shr (S_.2.2.1 130 0 kx_.toNat) k_) % 2)) rfl (bi_msk (k := 1) (by decide)) ?_
      refine sm_T_go 2 (c1 := (113, [some (.inr (.inr (some (13, 0)))), some (.inl nm_), some (.inl kx_), some (.inl k_), some (.inl (2 * (S_.2.2.1 132 0 ((S_.1 13 0 12) - 1).toNat) + 2 * (S_.1 13 0 53) + 2))], [.inl (S_.1 13 0 53), .inl ((i_shr (S_.2.2.1 130 0 kx_.toNat) k_) % 2), .inl (S_.1 13 0 52), .inr (.inr (some (13, 0)))], sm_aI (sm_aI S_ 144 0 (320 * (S_.1 13 0 29) + 8 * nm_ + k_).toNat (2 * (S_.2.2.1 132 0 ((S_.1 13 0 12) - 1).toNat) + 2 * (S_.1 13 0 53) + 2)) 151 0 (S_.1 13 0 53).toNat (2 * (S_.2.2.1 132 0 ((S_.1 13 0 12) - 1).toNat) + 2 * (S_.1 13 0 53) + 2))) rfl ?_
      refine sm_T_bin (w := (i_shl ((i_shr (S_.2.2.1 130 0 kx_.toNat) k_) % 2) (S_.1 13 0 53))) rfl rfl ?_
      have bx18_ := i_shb (x_ := ((i_shr (S_.2.2.1 130 0 kx_.toNat) k_) % 2)) (y_ := (S_.1 13 0 53)) (by omega) (by omega)
      refine sm_T_bin (w := (i_or (S_.1 13 0 52) (i_shl ((i_shr (S_.2.2.1 130 0 kx_.toNat) k_) % 2) (S_.1 13 0 53)))) rfl rfl ?_
      have bx19_ := i_orb (x_ := (S_.1 13 0 52)) (y_ := (i_shl ((i_shr (S_.2.2.1 130 0 kx_.toNat) k_) % 2) (S_.1 13 0 53))) (by omega) (by omega)
      have hIx20_ : gi (sm_pI (sm_aI (sm_aI S_ 144 0 (320 * (S_.1 13 0 29) + 8 * nm_ + k_).toNat (2 * (S_.2.2.1 132 0 ((S_.1 13 0 12) - 1).toNat) + 2 * (S_.1 13 0 53) + 2)) 151 0 (S_.1 13 0 53).toNat (2 * (S_.2.2.1 132 0 ((S_.1 13 0 12) - 1).toNat) + 2 * (S_.1 13 0 53) + 2)) 13 0 52 (i_or (S_.1 13 0 52) (i_shl ((i_shr (S_.2.2.1 130 0 kx_.toNat) k_) % 2) (S_.1 13 0 53)))) := gi_pI hIx14_ (show 0 ≤ (i_or (S_.1 13 0 52) (i_shl ((i_shr (S_.2.2.1 130 0 kx_.toNat) k_) % 2) (S_.1 13 0 53))) ∧ (i_or (S_.1 13 0 52) (i_shl ((i_shr (S_.2.2.1 130 0 kx_.toNat) k_) % 2) (S_.1 13 0 53))) ≤ 63 from ⟨by omega, by omega⟩)
      have hFx21_ : ai_fr (sx_W vw_344n) S0_ (sm_pI (sm_aI (sm_aI S_ 144 0 (320 * (S_.1 13 0 29) + 8 * nm_ + k_).toNat (2 * (S_.2.2.1 132 0 ((S_.1 13 0 12) - 1).toNat) + 2 * (S_.1 13 0 53) + 2)) 151 0 (S_.1 13 0 53).toNat (2 * (S_.2.2.1 132 0 ((S_.1 13 0 12) - 1).toNat) + 2 * (S_.1 13 0 53) + 2)) 13 0 52 (i_or (S_.1 13 0 52) (i_shl ((i_shr (S_.2.2.1 130 0 kx_.toNat) k_) % 2) (S_.1 13 0 53)))) := ai_fr_tr hFx15_ (ai_fr_pI rfl)
      refine sm_T_go 5 (c1 := (124, [some (.inr (.inr (some (13, 0)))), some (.inl nm_), some (.inl kx_), some (.inl k_), some (.inl (2 * (S_.2.2.1 132 0 ((S_.1 13 0 12) - 1).toNat) + 2 * (S_.1 13 0 53) + 2))], [.inl 1, .inl (S_.1 13 0 53), .inr (.inr (some (13, 0)))], sm_pI (sm_aI (sm_aI S_ 144 0 (320 * (S_.1 13 0 29) + 8 * nm_ + k_).toNat (2 * (S_.2.2.1 132 0 ((S_.1 13 0 12) - 1).toNat) + 2 * (S_.1 13 0 53) + 2)) 151 0 (S_.1 13 0 53).toNat (2 * (S_.2.2.1 132 0 ((S_.1 13 0 12) - 1).toNat) + 2 * (S_.1 13 0 53) + 2)) 13 0 52 (i_or (S_.1 13 0 52) (i_shl ((i_shr (S_.2.2.1 130 0 kx_.toNat) k_) % 2) (S_.1 13 0 53))))) rfl ?_
      refine sm_T_bin (w := (S_.1 13 0 53) + 1) rfl (bi_add (by omega) (by omega) (by omega)) ?_
      have hIx22_ : gi (sm_pI (sm_pI (sm_aI (sm_aI S_ 144 0 (320 * (S_.1 13 0 29) + 8 * nm_ + k_).toNat (2 * (S_.2.2.1 132 0 ((S_.1 13 0 12) - 1).toNat) + 2 * (S_.1 13 0 53) + 2)) 151 0 (S_.1 13 0 53).toNat (2 * (S_.2.2.1 132 0 ((S_.1 13 0 12) - 1).toNat) + 2 * (S_.1 13 0 53) + 2)) 13 0 52 (i_or (S_.1 13 0 52) (i_shl ((i_shr (S_.2.2.1 130 0 kx_.toNat) k_) % 2) (S_.1 13 0 53)))) 13 0 53 ((S_.1 13 0 53) + 1)) := gi_pI hIx20_ (show 0 ≤ (S_.1 13 0 53) + 1 ∧ (S_.1 13 0 53) + 1 ≤ 6 from ⟨by omega, by omega⟩)
      have hFx23_ : ai_fr (sx_W vw_344n) S0_ (sm_pI (sm_pI (sm_aI (sm_aI S_ 144 0 (320 * (S_.1 13 0 29) + 8 * nm_ + k_).toNat (2 * (S_.2.2.1 132 0 ((S_.1 13 0 12) - 1).toNat) + 2 * (S_.1 13 0 53) + 2)) 151 0 (S_.1 13 0 53).toNat (2 * (S_.2.2.1 132 0 ((S_.1 13 0 12) - 1).toNat) + 2 * (S_.1 13 0 53) + 2)) 13 0 52 (i_or (S_.1 13 0 52) (i_shl ((i_shr (S_.2.2.1 130 0 kx_.toNat) k_) % 2) (S_.1 13 0 53)))) 13 0 53 ((S_.1 13 0 53) + 1)) := ai_fr_tr hFx21_ (ai_fr_pI rfl)
      refine sm_T_go 1 (c1 := (128, [some (.inr (.inr (some (13, 0)))), some (.inl nm_), some (.inl kx_), some (.inl k_), some (.inl (2 * (S_.2.2.1 132 0 ((S_.1 13 0 12) - 1).toNat) + 2 * (S_.1 13 0 53) + 2))], [], sm_pI (sm_pI (sm_aI (sm_aI S_ 144 0 (320 * (S_.1 13 0 29) + 8 * nm_ + k_).toNat (2 * (S_.2.2.1 132 0 ((S_.1 13 0 12) - 1).toNat) + 2 * (S_.1 13 0 53) + 2)) 151 0 (S_.1 13 0 53).toNat (2 * (S_.2.2.1 132 0 ((S_.1 13 0 12) - 1).toNat) + 2 * (S_.1 13 0 53) + 2)) 13 0 52 (i_or (S_.1 13 0 52) (i_shl ((i_shr (S_.2.2.1 130 0 kx_.toNat) k_) % 2) (S_.1 13 0 53)))) 13 0 53 ((S_.1 13 0 53) + 1))) rfl ?_
      refine sm_T_inc (a := 3) (z := 1) (v := k_) (w := k_ + 1) rfl rfl (by omega) (by omega) (by omega) ?_
      refine sm_T_go 1 (c1 := (30, [some (.inr (.inr (some (13, 0)))), some (.inl nm_), some (.inl kx_), some (.inl (k_ + 1)), some (.inl (2 * (S_.2.2.1 132 0 ((S_.1 13 0 12) - 1).toNat) + 2 * (S_.1 13 0 53) + 2))], [], sm_pI (sm_pI (sm_aI (sm_aI S_ 144 0 (320 * (S_.1 13 0 29) + 8 * nm_ + k_).toNat (2 * (S_.2.2.1 132 0 ((S_.1 13 0 12) - 1).toNat) + 2 * (S_.1 13 0 53) + 2)) 151 0 (S_.1 13 0 53).toNat (2 * (S_.2.2.1 132 0 ((S_.1 13 0 12) - 1).toNat) + 2 * (S_.1 13 0 53) + 2)) 13 0 52 (i_or (S_.1 13 0 52) (i_shl ((i_shr (S_.2.2.1 130 0 kx_.toNat) k_) % 2) (S_.1 13 0 53)))) 13 0 53 ((S_.1 13 0 53) + 1))) rfl ?_
      refine sm_T_wk [some (.inr (.inr (some (13, 0)))), some (.inl nm_), some (.inl kx_), some (.inl (k_ + 1)), none] (by exact ⟨rfl, rfl, rfl, rfl, trivial⟩) ?_
      refine ih_ kx_ (k_ + 1) (sm_pI (sm_pI (sm_aI (sm_aI S_ 144 0 (320 * (S_.1 13 0 29) + 8 * nm_ + k_).toNat (2 * (S_.2.2.1 132 0 ((S_.1 13 0 12) - 1).toNat) + 2 * (S_.1 13 0 53) + 2)) 151 0 (S_.1 13 0 53).toNat (2 * (S_.2.2.1 132 0 ((S_.1 13 0 12) - 1).toNat) + 2 * (S_.1 13 0 53) + 2)) 13 0 52 (i_or (S_.1 13 0 52) (i_shl ((i_shr (S_.2.2.1 130 0 kx_.toNat) k_) % 2) (S_.1 13 0 53)))) 13 0 53 ((S_.1 13 0 53) + 1)) hIx22_ hFx23_ ⟨?_, ?_, ?_, ?_, ?_, ?_, ?_, trivial⟩ ?_
      · (try simp only [rd_eq, rd_ne, rf_eq, rf_nk, rf_nt, rd_fa, rd_af, rd_fl, rd_al, rd_lf, rd_la, rd_leq, rd_lne, rd_fr, rd_ar, ne_eq, Nat.reduceEqDiff, not_false_eq_true]); omega
      · exact h4_
      · (intro j_; (try simp only [rd_eq, rd_ne, rf_eq, rf_nk, rf_nt, rd_fa, rd_af, rd_fl, rd_al, rd_lf, rd_la, rd_leq, rd_lne, rd_fr, rd_ar, ne_eq, Nat.reduceEqDiff, not_false_eq_true]); exact h5_ j_)
      · rw [show (k_ + 1).toNat = k_.toNat + 1 by omega, r_bt_s]
        refine rwv_ap (q_ := 8 * (40 * fr_ + s_) + k_.toNat) h1_ (by rw [r_bt_l]) (fun j9_ => ?_)
        (try simp only [rd_eq, rd_ne, rf_eq, rf_nk, rf_nt, rd_fa, rd_af, rd_fl, rd_al, rd_lf, rd_la, rd_leq, rd_lne, rd_fr, rd_ar, ne_eq, Nat.reduceEqDiff, not_false_eq_true])
        have ec : (320 * S_.1 13 0 29 + 8 * nm_ + k_).toNat = 8 * (40 * fr_ + s_) + k_.toNat := by omega
        rw [ec]
        by_cases q9_ : j9_ = 8 * (40 * fr_ + s_) + k_.toNat
        · rw [if_pos q9_, if_pos q9_]; push_cast; omega
        · rw [if_neg q9_, if_neg q9_]
      · intro j_ hj_
        (try simp only [rd_eq, rd_ne, rf_eq, rf_nk, rf_nt, rd_fa, rd_af, rd_fl, rd_al, rd_lf, rd_la, rd_leq, rd_lne, rd_fr, rd_ar, ne_eq, Nat.reduceEqDiff, not_false_eq_true])
        rw [if_neg (by omega)]
        exact h2_ j_ hj_
      · obtain ⟨u9_, hu9_⟩ : ∃ u9_ : Nat, S_.1 13 0 53 = (u9_ : Int) := ⟨R_ + k_.toNat, by omega⟩
        have a6_ := h6_.1
        have c6_ := h6_.2
        rw [hu9_, Int.toNat_natCast] at a6_
        refine ⟨?_, fun k9_ hk9_ => ?_⟩
        · (try simp only [rd_eq, rd_ne, rf_eq, rf_nk, rf_nt, rd_fa, rd_af, rd_fl, rd_al, rd_lf, rd_la, rd_leq, rd_lne, rd_fr, rd_ar, ne_eq, Nat.reduceEqDiff, not_false_eq_true]); rw [hu9_, show ((u9_ : Int) + 1).toNat = u9_ + 1 by omega]; exact bg_up a6_.1 a6_.2 (by omega) (by omega)
        · (try simp only [rd_eq, rd_ne, rf_eq, rf_nk, rf_nt, rd_fa, rd_af, rd_fl, rd_al, rd_lf, rd_la, rd_leq, rd_lne, rd_fr, rd_ar, ne_eq, Nat.reduceEqDiff, not_false_eq_true]); simp only [rf_eq, rf_nk, rd_fa, ne_eq, Nat.reduceEqDiff, not_false_eq_true] at hk9_; by_cases q9_ : k9_ = (S_.1 13 0 53).toNat; (rw [if_pos q9_]; omega); (rw [if_neg q9_]; exact c6_ k9_ (by omega))
      · have r9_ : (S_.1 13 0 53) = ((R_ + k_.toNat : Nat) : Int) := by omega
        have d8_ : S_.1 13 0 52 = bho det_ R_ k_.toNat x0_.2 := h8_.1
        refine ⟨?_, fun i9_ hi9_ => ?_⟩
        · rw [show (k_ + 1).toNat = k_.toNat + 1 by omega]; show _ = bho det_ R_ (k_.toNat + 1) x0_.2; rw [bho_s, show ((k_.toNat : Nat) : Int) = k_ by omega]; (try simp only [rd_eq, rd_ne, rf_eq, rf_nk, rf_nt, rd_fa, rd_af, rd_fl, rd_al, rd_lf, rd_la, rd_leq, rd_lne, rd_fr, rd_ar, ne_eq, Nat.reduceEqDiff, not_false_eq_true]); rw [r9_, d1_, d8_]
        · have q8_ := h8_.2 i9_; show _ = nho I_ R_ (k_ + 1).toNat x0_.1 i9_; rw [show (k_ + 1).toNat = k_.toNat + 1 by omega]; (try simp only [rd_eq, rd_ne, rf_eq, rf_nk, rf_nt, rd_fa, rd_af, rd_fl, rd_al, rd_lf, rd_la, rd_leq, rd_lne, rd_fr, rd_ar, ne_eq, Nat.reduceEqDiff, not_false_eq_true]); by_cases q9_ : i9_ = (S_.1 13 0 53).toNat; (rw [if_pos q9_]; unfold nho; rw [if_pos (by omega)]; push_cast; omega); (rw [if_neg q9_]; refine (q8_ (by omega)).trans ?_; show nho I_ R_ k_.toNat x0_.1 i9_ = _; unfold nho; by_cases q7_ : R_ ≤ i9_ ∧ i9_ < R_ + k_.toNat; (rw [if_pos q7_, if_pos (by omega)]); (rw [if_neg q7_, if_neg (by omega)]))
      · omega
set_option maxHeartbeats 1500000 in
theorem vc_344n {sc_ : Nat × (Nat → Int)} (nm_ : Int) (b_ : Nat → Int) (n_ : Nat) (T_ : Nat) (p_ : Nat) (uu_ : Nat) (f_ : Nat) (q_ : Nat) (A_ : pA) (M_ : Nat) (s_ : Nat) (fr_ : Nat) (wd_ : Nat) (R_ : Nat) (I_ : Nat) (det_ : Int) (x0_ : gN) (S0_ : sm_S) (hI_ : gi S0_) (ht_ : rtab b_ n_ T_ S0_) (hx_ : rg b_ n_ T_ (.inr p_) S0_) (hn_ : nxs b_ n_ 59 f_ p_ uu_) (hq_ : p_ad b_ n_ uu_ = .inr q_) (hf_ : (S0_.1 13 0 29) = (fr_ : Int) ∧ fr_ ≤ 15) (hn1_ : nm_ = (s_ : Int) ∧ s_ < A_.1 M_ ∧ A_.1 M_ ≤ 40 ∧ M_ ≤ 15) (hmd_ : (S0_.1 13 0 28) = (M_ : Int)) (hw_ : S0_.2.2.1 129 0 (40 * M_ + s_) = (wd_ : Int) ∧ 1 ≤ wd_ ∧ wd_ ≤ 8) (hR_ : (S0_.1 13 0 53) = (R_ : Int) ∧ R_ + wd_ ≤ 6) (hms_ : 1 ≤ (S0_.1 13 0 12) ∧ (S0_.1 13 0 12) ≤ 16) (hI1_ : S0_.2.2.1 132 0 ((S0_.1 13 0 12) - 1).toNat = (I_ : Int) ∧ I_ ≤ 12) (hrn_ : rnS S0_) (hnf_ : 1 + (I_ : Int) + R_ + wd_ ≤ (S0_.1 13 0 37)) (hdt_ : S0_.2.2.1 130 0 (40 * M_ + s_) = det_) (hx0_ : rxn R_ x0_ S0_) : sm_T (mt_P sc_) 2 344 (0, [some (.inr (.inr (some (13, 0)))), some (.inl nm_), none, none, none], [], S0_) (fun ro9_ => ∃ u_ S1_, ro9_ = (.inl u_, S1_, 0) ∧ vq_344n nm_ b_ n_ T_ p_ uu_ f_ q_ A_ M_ s_ fr_ wd_ R_ I_ det_ x0_ S0_ u_ S1_) := by
  have hF_ : ai_fr (sx_W vw_344n) S0_ S0_ := ai_fr_rf
  have bx1_ : 0 ≤ S0_.1 13 0 28 ∧ S0_.1 13 0 28 ≤ 15 := hI_.1 13 0 28 rfl
  refine sm_T_go 3 (c1 := (6, [some (.inr (.inr (some (13, 0)))), some (.inl nm_), none, none, none], [.inl (S0_.1 13 0 28), .inl 40], S0_)) rfl ?_
  refine sm_T_bin (w := 40 * (S0_.1 13 0 28)) rfl (bi_mul (by omega) (by omega) (by omega)) ?_
  refine sm_T_go 1 (c1 := (8, [some (.inr (.inr (some (13, 0)))), some (.inl nm_), none, none, none], [.inl nm_, .inl (40 * (S0_.1 13 0 28))], S0_)) rfl ?_
  refine sm_T_bin (w := 40 * (S0_.1 13 0 28) + nm_) rfl (bi_add (by omega) (by omega) (by omega)) ?_
  have bx2_ : 0 ≤ S0_.1 13 0 29 ∧ S0_.1 13 0 29 ≤ 16 := hI_.1 13 0 29 rfl
  refine sm_T_go 6 (c1 := (20, [some (.inr (.inr (some (13, 0)))), some (.inl nm_), some (.inl (40 * (S0_.1 13 0 28) + nm_)), none, none], [.inl (S0_.1 13 0 29), .inl 40, .inr (.inr (some (150, 0)))], S0_)) rfl ?_
  refine sm_T_bin (w := 40 * (S0_.1 13 0 29)) rfl (bi_mul (by omega) (by omega) (by omega)) ?_
  refine sm_T_go 1 (c1 := (22, [some (.inr (.inr (some (13, 0)))), some (.inl nm_), some (.inl (40 * (S0_.1 13 0 28) + nm_)), none, none], [.inl nm_, .inl (40 * (S0_.1 13 0 29)), .inr (.inr (some (150, 0)))], S0_)) rfl ?_
  refine sm_T_bin (w := 40 * (S0_.1 13 0 29) + nm_) rfl (bi_add (by omega) (by omega) (by omega)) ?_
  have bx3_ : 0 ≤ S0_.1 13 0 53 ∧ S0_.1 13 0 53 ≤ 6 := hI_.1 13 0 53 rfl
  refine sm_T_go 2 (c1 := (27, [some (.inr (.inr (some (13, 0)))), some (.inl nm_), some (.inl (40 * (S0_.1 13 0 28) + nm_)), none, none], [.inl (S0_.1 13 0 53), .inl (40 * (S0_.1 13 0 29) + nm_), .inr (.inr (some (150, 0)))], S0_)) rfl ?_
  refine sm_T_iast (n := 640) rfl rfl (by omega) (by omega) ?_
  have hIx4_ : gi (sm_aI S0_ 150 0 (40 * (S0_.1 13 0 29) + nm_).toNat (S0_.1 13 0 53)) := gi_aI hI_ (show 0 ≤ (S0_.1 13 0 53) ∧ (S0_.1 13 0 53) ≤ 6 from ⟨by omega, by omega⟩)
  have hFx5_ : ai_fr (sx_W vw_344n) S0_ (sm_aI S0_ 150 0 (40 * (S0_.1 13 0 29) + nm_).toNat (S0_.1 13 0 53)) := ai_fr_tr hF_ (ai_fr_aI rfl)
  refine sm_T_go 2 (c1 := (30, [some (.inr (.inr (some (13, 0)))), some (.inl nm_), some (.inl (40 * (S0_.1 13 0 28) + nm_)), some (.inl 0), none], [], sm_aI S0_ 150 0 (40 * (S0_.1 13 0 29) + nm_).toNat (S0_.1 13 0 53))) rfl ?_
  refine (vl_344n nm_ b_ n_ T_ p_ uu_ f_ q_ A_ M_ s_ fr_ wd_ R_ I_ det_ x0_ S0_ ht_ hx_ hn_ hq_ hf_ hn1_ hmd_ hw_ hR_ hms_ hI1_ hrn_ hnf_ hdt_ hx0_ _) (40 * (S0_.1 13 0 28) + nm_) 0 (sm_aI S0_ 150 0 (40 * (S0_.1 13 0 29) + nm_).toNat (S0_.1 13 0 53)) hIx4_ hFx5_ ⟨?_, ?_, ?_, ?_, ?_, ?_, ?_, trivial⟩ (Nat.lt_succ_self _)
  · (try simp only [rd_eq, rd_ne, rf_eq, rf_nk, rf_nt, rd_fa, rd_af, rd_fl, rd_al, rd_lf, rd_la, rd_leq, rd_lne, rd_fr, rd_ar, ne_eq, Nat.reduceEqDiff, not_false_eq_true]); omega
  · exact hx_
  · (intro j_; (try simp only [rd_eq, rd_ne, rf_eq, rf_nk, rf_nt, rd_fa, rd_af, rd_fl, rd_al, rd_lf, rd_la, rd_leq, rd_lne, rd_fr, rd_ar, ne_eq, Nat.reduceEqDiff, not_false_eq_true]); rw [hR_.1, show (40 * S0_.1 13 0 29 + nm_).toNat = 40 * fr_ + s_ by omega])
  · (intro k9_ z9_ e9_; simp [r_bt] at e9_)
  · (intro j_ hj_; exact rd_ne (by decide))
  · exact rnS_fr (w_ := ([], [150], [])) hrn_ (ai_fr_aI rfl) rfl rfl rfl rfl
  · refine ⟨hx0_.1, fun i9_ hi9_ => ?_⟩
    rw [rd_ne (by decide)]
    show S0_.2.2.1 151 0 i9_ = nho I_ R_ 0 x0_.1 i9_
    unfold nho
    rw [if_neg (by omega)]
    exact hx0_.2 i9_ (by omega)
/-! M_.makeNext -/
def vw_347n : sx_Wl := ([(13, 9), (13, 10), (13, 11), (13, 32), (13, 33), (13, 34), (13, 37)], [136, 137, 138, 139, 140, 141, 142, 143, 151], [])
def vq_347n (b_ : Nat → Int) (n_ : Nat) (T_ : Nat) (F_ : Nat) (I_ : Nat) (A_ : pA) (B_ : pA) (X_ : Nat → gQ → gE → Option (gQ × gE)) (M_ : Nat) (fr_ : Nat) (q0_ : gQ) (E_ : gE) (O_ : gO) (p_ : Nat) (s_ : Nat) (p1_ : Nat) (p2_ : Nat) (xr : pR) (y_ : Nat) (rb : Nat) (R_ : Nat) (x0_ : gN) (S0_ : sm_S) (u_ : Option sm_V) (S1_ : sm_S) : Prop := u_ = none ∧ gi S1_ ∧ ai_fr (sx_W vw_347n) S0_ S1_ ∧ ((rg b_ n_ T_ (.inr y_) S1_ ∧ ∃ G_ v9_, ev F_ I_ B_ X_ M_ (q0_, E_, O_, []) xr.2.2 = some ((G_, q0_.2), E_, O_, [v9_]) ∧ h_tp xr.2.1 = (v9_.length : Int) ∧ (1 ≤ v9_.length ∧ v9_.length ≤ 8) ∧ rgl F_ G_ S1_ ∧ imq (S1_.1 13 0 37 - S1_.1 13 0 38 ≤ 1000) (rxn R_ (nnx rb v9_ x0_.1, x0_.2) S1_)) ∧ imq (S1_.1 13 0 37 - S1_.1 13 0 38 ≤ 1000) (rnS S1_))
set_option maxHeartbeats 1500000 in
theorem vl_347n {sc_ : Nat × (Nat → Int)} (b_ : Nat → Int) (n_ : Nat) (T_ : Nat) (F_ : Nat) (I_ : Nat) (A_ : pA) (B_ : pA) (X_ : Nat → gQ → gE → Option (gQ × gE)) (M_ : Nat) (fr_ : Nat) (q0_ : gQ) (E_ : gE) (O_ : gO) (p_ : Nat) (s_ : Nat) (p1_ : Nat) (p2_ : Nat) (xr : pR) (y_ : Nat) (rb : Nat) (R_ : Nat) (x0_ : gN) (S0_ : sm_S) (ht_ : rtab b_ n_ T_ S0_) (hx_ : rg b_ n_ T_ (.inr p_) S0_) (hm1_ : (S0_.1 13 0 27) = 1) (hen_ : r_e1 b_ n_ T_ B_ M_ fr_ S0_) (hA_ : a_ok b_ n_ A_ M_) (hxx_ : a_ex A_ B_ M_) (hX_ : ∀ d_ q_ e_ z_, X_ d_ q_ e_ = some z_ → q_.1.length ≤ z_.1.1.length) (hte_ : ten B_ M_ (A_.1 M_) E_ O_) (hev_ : rev fr_ (A_.1 M_) E_ O_ (q0_.1.length ≤ 1001) S0_) (hg_ : rgl F_ q0_.1 S0_) (hk_ : lx_kd b_ n_ p_ = 1) (hfn_ : p_fn b_ n_ A_ M_ p_ = (s_ : Int)) (ha1_ : p_ad b_ n_ p_ = .inr p1_) (hk256_ : lx_kd b_ n_ p1_ = 256) (ha2_ : p_ad b_ n_ p1_ = .inr p2_) (hxr_ : p_ex b_ n_ false (p_pd b_ n_ A_ M_) [] p2_ = .inr xr) (h59_ : p_nd b_ n_ 59 xr.1 = .inr y_) (hrb_ : S0_.2.2.1 150 0 (40 * fr_ + s_) = (rb : Int)) (hrn_ : rnS S0_) (hlw_ : lwS F_ (q0_, E_, O_, [])) (hXw_ : lwX F_ I_ X_) (hRF_ : 1 + I_ + q0_.2.1 ≤ F_) (hwd_ : h_tp xr.2.1 = B_.2.2.2.1 (40 * M_ + s_)) (hx0_ : rxn R_ x0_ S0_) : ∀ nn_ : Nat, (∀ (nv_ : Int) (kx_ : Int) (k_ : Int) (S_ : sm_S), gi S_ → ai_fr (sx_W vw_347n) S0_ S_ → ((0 ≤ k_ ∧ nv_ = (s_ : Int) ∧ kx_ = 40 * (M_ : Int) + s_ ∧ s_ < 40) ∧ (rg b_ n_ T_ (.inr xr.1) S_) ∧ (∃ G_ v9_, ev F_ I_ B_ X_ M_ (q0_, E_, O_, []) xr.2.2 = some ((G_, q0_.2), E_, O_, [v9_]) ∧ h_tp xr.2.1 = (v9_.length : Int) ∧ (1 ≤ v9_.length ∧ v9_.length ≤ 8) ∧ rgl F_ G_ S_ ∧ imq (S_.1 13 0 37 - S_.1 13 0 38 ≤ 1000) (rxn R_ (nnx rb (v9_.take k_.toNat) x0_.1, x0_.2) S_ ∧ rwv (S_.2.2.1 139 0) 0 v9_)) ∧ (imq (S_.1 13 0 37 - S_.1 13 0 38 ≤ 1000) (rnS S_ ∧ ∀ j9_ : Nat, (j9_ : Int) < B_.2.2.2.1 (40 * M_ + s_) → 0 ≤ S_.2.2.1 139 0 j9_ ∧ S_.2.2.1 139 0 j9_ < 2 * S_.1 13 0 37)) ∧ True) → ((9 - k_).toNat) < nn_ → sm_T (mt_P sc_) 9 347 (39, [some (.inr (.inr (some (13, 0)))), some (.inl nv_), some (.inl kx_), some (.inl k_)], [], S_) (fun ro9_ => ∃ u_ S1_, ro9_ = (.inl u_, S1_, 0) ∧ vq_347n b_ n_ T_ F_ I_ A_ B_ X_ M_ fr_ q0_ E_ O_ p_ s_ p1_ p2_ xr y_ rb R_ x0_ S0_ u_ S1_)) := by
  intro nn_
  induction nn_ with
  | zero => exact fun _ _ _ _ _ _ _ h_ => absurd h_ (Nat.not_lt_zero _)
  | succ nn_ ih_ =>
    rintro nv_ kx_ k_ S_ hI_ hF_ ⟨h0_, h1_, h2_, h3_, -⟩ hm_
    obtain ⟨G_, v9_, z1_, z2_, z3_, z4_, z5_⟩ := h2_
    have rb1_ : S_.2.2.1 150 0 (40 * fr_ + s_) = (rb : Int) := by rw [fr_arr (t := 150) (i := 0) hF_ rfl]; exact hrb_
    have wE_ : S_.2.2.1 129 0 kx_.toNat = B_.2.2.2.1 (40 * M_ + s_) := by have f1_ := fn_ex (p_ := p_) hxx_ (Nat.le_refl M_) hfn_; have sB_ : s_ < B_.1 M_ := Nat.lt_of_lt_of_le f1_.2 hxx_.1; rw [fr_arr (t := 129) (i := 0) hF_ rfl, show kx_.toNat = 40 * M_ + s_ by omega, ((hen_.2.2.2 M_ (Nat.le_refl _)).2 s_ sB_).2.2.1]
    have ht1_ := rtab_fr ht_ hF_ rfl rfl rfl rfl rfl
    have M15_ := hA_.1
    have wB_ : S_.2.2.1 129 0 kx_.toNat ≤ 8 := by have f1_ := fn_ex (p_ := p_) hxx_ (Nat.le_refl M_) hfn_; have sB_ : s_ < B_.1 M_ := Nat.lt_of_lt_of_le f1_.2 hxx_.1; rw [fr_arr (t := 129) (i := 0) hF_ rfl, show kx_.toNat = 40 * M_ + s_ by omega, ((hen_.2.2.2 M_ (Nat.le_refl _)).2 s_ sB_).2.2.1]; exact ((hen_.1.2 M_ (Nat.le_refl _)).2 s_ sB_).2.2.1.2
    have f9_ : S_.1 13 0 29 = (fr_ : Int) := (hF_.1 13 0 29 rfl).trans hen_.2.2.1.1
    have fb_ := hen_.2.2.1.2
    refine sm_T_go 4 (c1 := (45, [some (.inr (.inr (some (13, 0)))), some (.inl nv_), some (.inl kx_), some (.inl k_)], [.inl kx_, .inr (.inr (some (129, 0))), .inl k_], S_)) rfl ?_
    refine sm_T_iald (n := 640) rfl rfl (by omega) (by omega) ?_
    have bx1_ : 0 ≤ S_.2.2.1 129 0 kx_.toNat ∧ S_.2.2.1 129 0 kx_.toNat ≤ 8 := hI_.2 129 0 _
    refine sm_T_br (a := 3) (z := 36) rfl (fun cx2_ => ?_) (fun cx2_ => ?_)
    · have cx2_ : (S_.2.2.1 129 0 kx_.toNat) ≤ k_ := of_decide_eq_true cx2_
      refine sm_T_go 2 (c1 := (85, [some (.inr (.inr (some (13, 0)))), some (.inl nv_), some (.inl kx_), some (.inl k_)], [.inl 59, .inr (.inr (some (13, 0)))], S_)) rfl ?_
      refine sm_T_cal (d1 := 3) (Q1 := vq_300 59 b_ n_ T_ (.inr xr.1) S_) rfl rfl (by decide) (vc_300 59 b_ n_ T_ (.inr xr.1) S_ hI_ (by exact ht1_) (by exact h1_) (by decide)) (fun u_ Sx3_ px6_ => ?_)
      obtain ⟨rfl, hIx4_, hFx5_, px6_⟩ := px6_
      have hFx7_ : ai_fr (sx_W vw_347n) S0_ Sx3_ := ai_fr_tr hF_ (fr_le hFx5_ rfl)
      have g85_ := px6_
      rw [pb_r rfl, h59_] at g85_
      have r85_ := rgl_fr z4_ hFx5_ rfl rfl rfl rfl rfl rfl
      have w85_ : imq (Sx3_.1 13 0 37 - Sx3_.1 13 0 38 ≤ 1000) (rxn R_ (nnx rb v9_ x0_.1, x0_.2) Sx3_) := fun q9_ => by (have y9_ := (z5_ (by rw [hFx5_.1 13 0 37 rfl, hFx5_.1 13 0 38 rfl] at q9_; exact q9_)).1; rw [List.take_of_length_le (by omega)] at y9_; exact rxn_fr y9_ hFx5_)
      have n85_ : imq (Sx3_.1 13 0 37 - Sx3_.1 13 0 38 ≤ 1000) (rnS Sx3_) := fun q9_ => rnS_fr (h3_ (by rw [hFx5_.1 13 0 37 rfl, hFx5_.1 13 0 38 rfl] at q9_; exact q9_)).1 hFx5_ rfl rfl rfl rfl
      refine sm_T_rv rfl ⟨_, _, rfl, rfl, hIx4_, hFx7_, ?_⟩
      exact ⟨⟨g85_, G_, v9_, z1_, z2_, z3_, r85_, w85_⟩, n85_⟩
    · have cx2_ : ¬ ((S_.2.2.1 129 0 kx_.toNat) ≤ k_) := of_decide_eq_false cx2_
      have bx8_ : 0 ≤ S_.1 13 0 29 ∧ S_.1 13 0 29 ≤ 16 := hI_.1 13 0 29 rfl
      refine sm_T_go 7 (c1 := (63, [some (.inr (.inr (some (13, 0)))), some (.inl nv_), some (.inl kx_), some (.inl k_)], [.inl (S_.1 13 0 29), .inl 40, .inr (.inr (some (150, 0))), .inr (.inr (some (151, 0)))], S_)) rfl ?_
      refine sm_T_bin (w := 40 * (S_.1 13 0 29)) rfl (bi_mul (by omega) (by omega) (by omega)) ?_
      refine sm_T_go 1 (c1 := (65, [some (.inr (.inr (some (13, 0)))), some (.inl nv_), some (.inl kx_), some (.inl k_)], [.inl nv_, .inl (40 * (S_.1 13 0 29)), .inr (.inr (some (150, 0))), .inr (.inr (some (151, 0)))], S_)) rfl ?_
      refine sm_T_bin (w := 40 * (S_.1 13 0 29) + nv_) rfl (bi_add (by omega) (by omega) (by omega)) ?_
      refine sm_T_iald (n := 640) rfl rfl (by omega) (by omega) ?_
      have bx9_ : 0 ≤ S_.2.2.1 150 0 (40 * (S_.1 13 0 29) + nv_).toNat ∧ S_.2.2.1 150 0 (40 * (S_.1 13 0 29) + nv_).toNat ≤ 6 := hI_.2 150 0 _
      refine sm_T_go 1 (c1 := (68, [some (.inr (.inr (some (13, 0)))), some (.inl nv_), some (.inl kx_), some (.inl k_)], [.inl k_, .inl (S_.2.2.1 150 0 (40 * (S_.1 13 0 29) + nv_).toNat), .inr (.inr (some (151, 0)))], S_)) rfl ?_
      refine sm_T_bin (w := (S_.2.2.1 150 0 (40 * (S_.1 13 0 29) + nv_).toNat) + k_) rfl (bi_add (by omega) (by omega) (by omega)) ?_
      refine sm_T_go 3 (c1 := (74, [some (.inr (.inr (some (13, 0)))), some (.inl nv_), some (.inl kx_), some (.inl k_)], [.inl k_, .inr (.inr (some (139, 0))), .inl ((S_.2.2.1 150 0 (40 * (S_.1 13 0 29) + nv_).toNat) + k_), .inr (.inr (some (151, 0)))], S_)) rfl ?_
      refine sm_T_iald (n := 8192) rfl rfl (by omega) (by omega) ?_
      have bx10_ : 0 ≤ S_.2.2.1 139 0 k_.toNat ∧ S_.2.2.1 139 0 k_.toNat ≤ 2047 := hI_.2 139 0 _
      refine sm_T_iast (n := 1024) rfl rfl (by omega) (by omega) ?_
      have hIx11_ : gi (sm_aI S_ 151 0 ((S_.2.2.1 150 0 (40 * (S_.1 13 0 29) + nv_).toNat) + k_).toNat (S_.2.2.1 139 0 k_.toNat)) := gi_aI hI_ (show 0 ≤ (S_.2.2.1 139 0 k_.toNat) ∧ (S_.2.2.1 139 0 k_.toNat) ≤ 2047 from ⟨by omega, by omega⟩)
      have hFx12_ : ai_fr (sx_W vw_347n) S0_ (sm_aI S_ 151 0 ((S_.2.2.1 150 0 (40 * (S_.1 13 0 29) + nv_).toNat) + k_).toNat (S_.2.2.1 139 0 k_.toNat)) := ai_fr_tr hF_ (ai_fr_aI rfl)
      refine sm_T_inc (a := 3) (z := 1) (v := k_) (w := k_ + 1) rfl rfl (by omega) (by omega) (by omega) ?_
      refine sm_T_go 1 (c1 := (39, [some (.inr (.inr (some (13, 0)))), some (.inl nv_), some (.inl kx_), some (.inl (k_ + 1))], [], sm_aI S_ 151 0 ((S_.2.2.1 150 0 (40 * (S_.1 13 0 29) + nv_).toNat) + k_).toNat (S_.2.2.1 139 0 k_.toNat))) rfl ?_
      refine ih_ nv_ kx_ (k_ + 1) (sm_aI S_ 151 0 ((S_.2.2.1 150 0 (40 * (S_.1 13 0 29) + nv_).toNat) + k_).toNat (S_.2.2.1 139 0 k_.toNat)) hIx11_ hFx12_ ⟨?_, ?_, ?_, ?_, trivial⟩ ?_
      · omega
      · exact h1_
      · refine ⟨G_, v9_, z1_, z2_, z3_, rgl_fr (w_ := ([], [151], [])) z4_ (ai_fr_aI rfl) rfl rfl rfl rfl rfl rfl, fun q9_ => ?_⟩
        obtain ⟨y1_, y2_⟩ := z5_ q9_
        have rb2_ : S_.2.2.1 150 0 (40 * S_.1 13 0 29 + nv_).toNat = (rb : Int) := by rw [show (40 * S_.1 13 0 29 + nv_).toNat = 40 * fr_ + s_ by omega]; exact rb1_
        have kl_ : k_.toNat < v9_.length := by omega
        have e9_ := y2_ k_.toNat v9_[k_.toNat] (List.getElem?_eq_getElem kl_)
        rw [Nat.zero_add] at e9_
        refine ⟨⟨y1_.1, fun i9_ hi9_ => ?_⟩, fun a9_ b9_ c9_ => by rw [rd_ne (by decide)]; exact y2_ a9_ b9_ c9_⟩
        have y8_ := y1_.2 i9_ hi9_
        show _ = nnx rb (v9_.take (k_ + 1).toNat) x0_.1 i9_
        rw [show (k_ + 1).toNat = k_.toNat + 1 by omega, nnx_t kl_, rd_eq, show (_ : Int).toNat = rb + k_.toNat from by omega]
        by_cases q7_ : i9_ = rb + k_.toNat
        · rw [if_pos q7_, if_pos q7_, e9_, List.getD_eq_getElem?_getD, List.getElem?_eq_getElem kl_]; rfl
        · rw [if_neg q7_, if_neg q7_]; exact y8_
      · intro q9_
        obtain ⟨y1_, y2_⟩ := h3_ q9_
        refine ⟨⟨y1_.1, fun k9_ hk9_ => ?_⟩, fun j9_ hj9_ => ?_⟩
        · rw [rd_eq]; split; (exact y2_ k_.toNat (by omega)); exact y1_.2 k9_ hk9_
        · rw [rd_ne (by decide)]; exact y2_ j9_ hj9_
      · omega
set_option maxHeartbeats 1500000 in
theorem vc_347n {sc_ : Nat × (Nat → Int)} (b_ : Nat → Int) (n_ : Nat) (T_ : Nat) (F_ : Nat) (I_ : Nat) (A_ : pA) (B_ : pA) (X_ : Nat → gQ → gE → Option (gQ × gE)) (M_ : Nat) (fr_ : Nat) (q0_ : gQ) (E_ : gE) (O_ : gO) (p_ : Nat) (s_ : Nat) (p1_ : Nat) (p2_ : Nat) (xr : pR) (y_ : Nat) (rb : Nat) (R_ : Nat) (x0_ : gN) (S0_ : sm_S) (hI_ : gi S0_) (ht_ : rtab b_ n_ T_ S0_) (hx_ : rg b_ n_ T_ (.inr p_) S0_) (hm1_ : (S0_.1 13 0 27) = 1) (hen_ : r_e1 b_ n_ T_ B_ M_ fr_ S0_) (hA_ : a_ok b_ n_ A_ M_) (hxx_ : a_ex A_ B_ M_) (hX_ : ∀ d_ q_ e_ z_, X_ d_ q_ e_ = some z_ → q_.1.length ≤ z_.1.1.length) (hte_ : ten B_ M_ (A_.1 M_) E_ O_) (hev_ : rev fr_ (A_.1 M_) E_ O_ (q0_.1.length ≤ 1001) S0_) (hg_ : rgl F_ q0_.1 S0_) (hk_ : lx_kd b_ n_ p_ = 1) (hfn_ : p_fn b_ n_ A_ M_ p_ = (s_ : Int)) (ha1_ : p_ad b_ n_ p_ = .inr p1_) (hk256_ : lx_kd b_ n_ p1_ = 256) (ha2_ : p_ad b_ n_ p1_ = .inr p2_) (hxr_ : p_ex b_ n_ false (p_pd b_ n_ A_ M_) [] p2_ = .inr xr) (h59_ : p_nd b_ n_ 59 xr.1 = .inr y_) (hrb_ : S0_.2.2.1 150 0 (40 * fr_ + s_) = (rb : Int)) (hrn_ : rnS S0_) (hlw_ : lwS F_ (q0_, E_, O_, [])) (hXw_ : lwX F_ I_ X_) (hRF_ : 1 + I_ + q0_.2.1 ≤ F_) (hwd_ : h_tp xr.2.1 = B_.2.2.2.1 (40 * M_ + s_)) (hx0_ : rxn R_ x0_ S0_) : sm_T (mt_P sc_) 9 347 (0, [some (.inr (.inr (some (13, 0)))), none, none, none], [], S0_) (fun ro9_ => ∃ u_ S1_, ro9_ = (.inl u_, S1_, 0) ∧ vq_347n b_ n_ T_ F_ I_ A_ B_ X_ M_ fr_ q0_ E_ O_ p_ s_ p1_ p2_ xr y_ rb R_ x0_ S0_ u_ S1_) := by
  have hF_ : ai_fr (sx_W vw_347n) S0_ S0_ := ai_fr_rf
  obtain ⟨i_, hi_⟩ := id hx_.2
  have hi9_ := hi_.2.1
  have hT_ := ht_.2.1
  have rt1_ := rp_rtk ht_ hi_.2 hk_
  have f1_ := fn_ex (p_ := p_) hxx_ (Nat.le_refl M_) hfn_
  have M15_ := hA_.1
  have A40_ := (hA_.2 M_ (Nat.le_refl _)).1
  have bx1_ : 0 ≤ S0_.1 13 0 28 ∧ S0_.1 13 0 28 ≤ 15 := hI_.1 13 0 28 rfl
  have bx2_ : 0 ≤ S0_.1 13 0 9 ∧ S0_.1 13 0 9 ≤ 1280 := hI_.1 13 0 9 rfl
  refine sm_T_go 5 (c1 := (9, [some (.inr (.inr (some (13, 0)))), none, none, none], [.inl (S0_.1 13 0 9), .inl (S0_.1 13 0 28), .inr (.inr (some (13, 0)))], S0_)) rfl ?_
  refine sm_T_cal (d1 := 1) (Q1 := vq_302 (S0_.1 13 0 28) (S0_.1 13 0 9) b_ n_ T_ B_ M_ p_ S0_) rfl rfl (by decide) (vc_302 (S0_.1 13 0 28) (S0_.1 13 0 9) b_ n_ T_ B_ M_ p_ S0_ hI_ (by exact ht_) (by exact ⟨hen_.2.1, hen_.1.1⟩) (by exact hen_.2.2.2 M_ (Nat.le_refl _)) (by exact (hen_.1.2 M_ (Nat.le_refl _)).1) (by rw [hi_.1]; exact rt1_.1)) (fun u_ Sx3_ px6_ => ?_)
  obtain ⟨rfl, vx8_, rfl, px6_⟩ := px6_
  have e9_ := px6_.trans f1_.1
  have kx0_ : (40 * S0_.1 13 0 28 + vx8_).toNat = 40 * M_ + s_ := by have q9_ := hen_.2.1; omega
  have rp := rg_p2 (x_ := S0_.1 13 0 9 + 2) ht_ hx_ (by omega) ha1_ (by omega) ha2_ rfl
  have rp2_ := rp.2
  have t33_ : rtab b_ n_ T_ (sm_pI S0_ 13 0 9 (S0_.1 13 0 9 + 2)) := rtab_fr (w_ := ([(13, 9)], [], [])) ht_ (ai_fr_pI rfl) rfl rfl rfl rfl rfl
  refine sm_T_go 4 (c1 := (19, [some (.inr (.inr (some (13, 0)))), some (.inl vx8_), none, none], [.inl (S0_.1 13 0 28), .inl 40], S0_)) rfl ?_
  refine sm_T_bin (w := 40 * (S0_.1 13 0 28)) rfl (bi_mul (by omega) (by omega) (by omega)) ?_
  refine sm_T_go 1 (c1 := (21, [some (.inr (.inr (some (13, 0)))), some (.inl vx8_), none, none], [.inl vx8_, .inl (40 * (S0_.1 13 0 28))], S0_)) rfl ?_
  refine sm_T_bin (w := 40 * (S0_.1 13 0 28) + vx8_) rfl (bi_add (by omega) (by omega) (by omega)) ?_
  refine sm_T_go 5 (c1 := (29, [some (.inr (.inr (some (13, 0)))), some (.inl vx8_), some (.inl (40 * (S0_.1 13 0 28) + vx8_)), none], [.inl 2, .inl (S0_.1 13 0 9), .inr (.inr (some (13, 0)))], S0_)) rfl ?_
  refine sm_T_bin (w := (S0_.1 13 0 9) + 2) rfl (bi_add (by omega) (by omega) (by omega)) ?_
  have hIx9_ : gi (sm_pI S0_ 13 0 9 ((S0_.1 13 0 9) + 2)) := gi_pI hI_ (show 0 ≤ (S0_.1 13 0 9) + 2 ∧ (S0_.1 13 0 9) + 2 ≤ 1280 from ⟨by omega, by omega⟩)
  have hFx10_ : ai_fr (sx_W vw_347n) S0_ (sm_pI S0_ 13 0 9 ((S0_.1 13 0 9) + 2)) := ai_fr_tr hF_ (ai_fr_pI rfl)
  refine sm_T_go 2 (c1 := (34, [some (.inr (.inr (some (13, 0)))), some (.inl vx8_), some (.inl (40 * (S0_.1 13 0 28) + vx8_)), none], [.inr (.inr (some (13, 0)))], sm_pI S0_ 13 0 9 ((S0_.1 13 0 9) + 2))) rfl ?_
  refine sm_T_cal (d1 := 8) (Q1 := vq_321g b_ n_ T_ F_ I_ B_ X_ M_ (q0_, E_, O_, []) (p_pd b_ n_ A_ M_) (A_.1 M_) fr_ p2_ xr (sm_pI S0_ 13 0 9 ((S0_.1 13 0 9) + 2))) rfl rfl (by decide) (vc_321g b_ n_ T_ F_ I_ B_ X_ M_ (q0_, E_, O_, []) (p_pd b_ n_ A_ M_) (A_.1 M_) fr_ p2_ xr (sm_pI S0_ 13 0 9 ((S0_.1 13 0 9) + 2)) hIx9_ (by exact t33_) (by exact pd_ok hA_) (by (intro p9_ r9_ h9_; exact pd_ex hA_ hxx_ h9_)) (by exact hX_) (by exact hen_) (by exact hte_) (by exact hev_) (by exact rp.1) (by exact hm1_) (by exact ⟨rfl, rgl_fr (w_ := ([(13, 9)], [], [])) hg_ (ai_fr_pI rfl) rfl rfl rfl rfl rfl rfl⟩) (by exact hxr_)) (fun u_ Sx11_ px14_ => ?_)
  obtain ⟨rfl, hIx12_, hFx13_, px14_⟩ := px14_
  have hFx15_ : ai_fr (sx_W vw_347n) S0_ Sx11_ := ai_fr_tr hFx10_ (fr_le hFx13_ rfl)
  obtain ⟨g34_, G1_, v1_, x1_, x2_, x3_, x4_, x5_, x6_⟩ := px14_
  have gl34_ : q0_.1.length ≤ G1_.length := ev_le hX_ x1_
  have F34_ := hFx13_
  have rb34_ := rgl_b x5_
  have H3_ : imq (Sx11_.1 13 0 37 - Sx11_.1 13 0 38 ≤ 1000) (rnS Sx11_ ∧ ∀ j9_ : Nat, (j9_ : Int) < B_.2.2.2.1 (40 * M_ + s_) → 0 ≤ Sx11_.2.2.1 139 0 j9_ ∧ Sx11_.2.2.1 139 0 j9_ < 2 * Sx11_.1 13 0 37) := by (intro q9_; have l9_ : G1_.length ≤ 1000 := rb34_.2.2.2.2.mp q9_; have n9_ := rgl_n x5_ (by omega); have m9_ := rgl_n hg_ (by omega); have W9_ := ev_w hXw_ x1_ (by show F_ + G1_.length ≤ 1023; omega) hRF_ hlw_; refine ⟨rnS_up hrn_ (hFx13_.1 13 0 52 rfl) (hFx13_.1 13 0 53 rfl) ((fr_arr (t := 151) hFx13_ rfl).trans rfl) (by omega), fun j9_ h9_ => ?_⟩; have e9_ := rwv_lz (x6_ (by omega)) (lwV_c.mp W9_.2.2.2).1 (k_ := j9_) (by omega); rw [Nat.zero_add] at e9_; rw [n9_]; exact e9_)
  refine sm_T_go 2 (c1 := (39, [some (.inr (.inr (some (13, 0)))), some (.inl vx8_), some (.inl (40 * (S0_.1 13 0 28) + vx8_)), some (.inl 0)], [], Sx11_)) rfl ?_
  refine (vl_347n b_ n_ T_ F_ I_ A_ B_ X_ M_ fr_ q0_ E_ O_ p_ s_ p1_ p2_ xr y_ rb R_ x0_ S0_ ht_ hx_ hm1_ hen_ hA_ hxx_ hX_ hte_ hev_ hg_ hk_ hfn_ ha1_ hk256_ ha2_ hxr_ h59_ hrb_ hrn_ hlw_ hXw_ hRF_ hwd_ hx0_ _) vx8_ (40 * (S0_.1 13 0 28) + vx8_) 0 Sx11_ hIx12_ hFx15_ ⟨?_, ?_, ?_, ?_, trivial⟩ (Nat.lt_succ_self _)
  · (have q9_ := hen_.2.1); omega
  · exact g34_
  · refine ⟨G1_, v1_, x1_, x2_, x3_, x5_, fun q9_ => ⟨?_, x6_ (by have l9_ : G1_.length ≤ 1000 := rb34_.2.2.2.2.mp q9_; omega)⟩⟩
    refine ⟨(F34_.1 13 0 52 rfl).trans hx0_.1, fun i9_ hi9_ => ?_⟩
    refine (congrFun (fr_arr (t := 151) (i := 0) F34_ rfl) i9_).trans ((hx0_.2 i9_ hi9_).trans ?_)
    show x0_.1 i9_ = nnx rb [] x0_.1 i9_
    unfold nnx
    rw [if_neg (by simp only [List.length_nil]; omega)]
  · exact H3_
end
/-! 99.ztM -/
section
/-! code that leaves next values and beginning alone; written by wip/p55/gen/vg -/

/-! code that leaves next values and beginning alone -/
def wpl (c_ : List Int) : Prop := ∀ w_, w_ ∈ c_ → w_ % 32 ≠ 13 ∧ w_ % 32 ≠ 14 ∧ w_ % 32 ≠ 17
theorem nw_pl {I_ m_ : Nat} {A_ : pA} {Y_ : Nat → gQ → gE → gN → gN} {w_ : Int} {s_ : gS} {x_ : gN} (h_ : w_ % 32 ≠ 13 ∧ w_ % 32 ≠ 14 ∧ w_ % 32 ≠ 17) : nw I_ A_ Y_ m_ w_ s_ x_ = x_ := by
  by_cases c_ : w_ % 32 ≤ 11
  · exact nw_o h_.2.2 c_
  · rw [nw_s h_.2.2 c_]
    exact nst_o h_.1 h_.2.1
theorem ncd_pl {F_ I_ m_ : Nat} {A_ : pA} {X_ : Nat → gQ → gE → Option (gQ × gE)} {Y_ : Nat → gQ → gE → gN → gN} : ∀ (c_ : List Int) (s_ : gS) (x_ : gN), wpl c_ → ncd F_ I_ A_ X_ Y_ m_ c_ s_ x_ = x_
  | [], s_, x_, _ => rfl
  | w_ :: c_, s_, x_, h_ => by
    cases e_ : ew F_ I_ A_ X_ m_ w_ s_ with
    | none =>
      show (match ew F_ I_ A_ X_ m_ w_ s_ with
        | some s1_ => ncd F_ I_ A_ X_ Y_ m_ c_ s1_ (nw I_ A_ Y_ m_ w_ s_ x_)
        | none => x_) = x_
      rw [e_]
    | some s1_ =>
      rw [ncd_c e_, nw_pl (h_ w_ (List.mem_cons_self ..))]
      exact ncd_pl c_ s1_ x_ (fun v_ hv_ => h_ v_ (List.mem_cons_of_mem _ hv_))
theorem ncd_ap {F_ I_ m_ : Nat} {A_ : pA} {X_ : Nat → gQ → gE → Option (gQ × gE)} {Y_ : Nat → gQ → gE → gN → gN} {c2_ : List Int} {s1_ : gS} : ∀ (c_ : List Int) (s_ : gS) (x_ : gN), ec F_ I_ A_ X_ m_ c_ s_ = some s1_ → ncd F_ I_ A_ X_ Y_ m_ (c_ ++ c2_) s_ x_ = ncd F_ I_ A_ X_ Y_ m_ c2_ s1_ (ncd F_ I_ A_ X_ Y_ m_ c_ s_ x_)
  | [], s_, x_, h_ => by
    have h_ : some s_ = some s1_ := h_
    cases h_
    rfl
  | w_ :: c_, s_, x_, h_ => by
    cases e_ : ew F_ I_ A_ X_ m_ w_ s_ with
    | none =>
      have h_ : (match ew F_ I_ A_ X_ m_ w_ s_ with
        | some s2_ => ec F_ I_ A_ X_ m_ c_ s2_
        | none => none) = some s1_ := h_
      rw [e_] at h_
      cases h_
    | some s2_ =>
      have h_ : (match ew F_ I_ A_ X_ m_ w_ s_ with
        | some s2_ => ec F_ I_ A_ X_ m_ c_ s2_
        | none => none) = some s1_ := h_
      rw [e_] at h_
      rw [List.cons_append, ncd_c e_, ncd_c e_]
      exact ncd_ap c_ s2_ _ h_
theorem ew_pl {F_ I_ J_ m_ : Nat} {A_ : pA} {X_ Z_ : Nat → gQ → gE → Option (gQ × gE)} {w_ : Int} {s_ : gS} (h_ : w_ % 32 ≠ 13 ∧ w_ % 32 ≠ 14 ∧ w_ % 32 ≠ 17) : ew F_ I_ A_ X_ m_ w_ s_ = ew F_ J_ A_ Z_ m_ w_ s_ := by
  obtain ⟨h3_, h4_, h7_⟩ := h_
  unfold ew e_st
  first | simp only [h3_, h4_, h7_, ↓reduceIte] | simp only [h3_, h4_, h7_, if_false] | simp [h3_, h4_, h7_]
theorem wpl_of {F_ m_ : Nat} {A_ : pA} : ∀ (c_ : List Int) (s_ : gS), 7 ≤ s_.1.2.1 → (∀ I_ : Nat, ∃ s'_, ec F_ I_ A_ (fun _ _ _ => none) m_ c_ s_ = some s'_) → wpl c_
  | [], s_, _, _ => fun v_ hv_ => by cases hv_
  | w_ :: c_, s_, h7_, h_ => by
    have g_ : ∀ I_ : Nat, ∃ s1_ s'_, ew F_ I_ A_ (fun _ _ _ => none) m_ w_ s_ = some s1_ ∧ ec F_ I_ A_ (fun _ _ _ => none) m_ c_ s1_ = some s'_ := by
      intro I_
      obtain ⟨s'_, hs_⟩ := h_ I_
      have hs_ : (match ew F_ I_ A_ (fun _ _ _ => none) m_ w_ s_ with
        | some s1_ => ec F_ I_ A_ (fun _ _ _ => none) m_ c_ s1_
        | none => none) = some s'_ := hs_
      cases e_ : ew F_ I_ A_ (fun _ _ _ => none) m_ w_ s_ with
      | none => rw [e_] at hs_; cases hs_
      | some s1_ => rw [e_] at hs_; exact ⟨s1_, s'_, rfl, hs_⟩
    have g17_ : w_ % 32 ≠ 17 := by
      intro e_
      obtain ⟨s1_, s'_, g1_, g2_⟩ := g_ 0
      obtain ⟨o_, z_, w1_, w2_, w3_, w4_, w5_, w6_, w7_⟩ := ew17 g1_ e_
      cases w6_
    have g13_ : w_ % 32 ≠ 13 := by
      intro e_
      obtain ⟨s1_, s'_, g1_, g2_⟩ := g_ 0
      have g3_ := ew_s g1_ g17_ (by omega)
      rw [e_] at g3_
      have g4_ := e_st13 g3_
      have g5_ := g4_.2.2.2.2.1
      omega
    have g14_ : w_ % 32 ≠ 14 := by
      intro e_
      obtain ⟨s1_, s'_, g1_, g2_⟩ := g_ ((s_.2.1 (w_ / 32 % 64).toNat).headD 0).toNat
      have g3_ := ew_s g1_ g17_ (by omega)
      rw [e_] at g3_
      obtain ⟨-, x_, l_, hx_, q_⟩ := e_stp g3_ (by decide) (by decide)
      rcases q_ with q_ | ⟨-, z_, y_, hz_, hz2_, -, -⟩ | q_
      · exact absurd q_.1 (by decide)
      · rw [hz_] at hz2_
        have hz3_ : 2 * (1 + (z_.toNat : Int)) ≤ z_ := hz2_
        omega
      · exact absurd q_.1 (by decide)
    obtain ⟨s1_, s'_, g1_, g2_⟩ := g_ 0
    have R1_ : s_.1.2.1 ≤ s1_.1.2.1 := ew_R (fun d_ q_ e_ z_ hz_ => by cases hz_) g1_
    have T_ := wpl_of c_ s1_ (by omega) (fun I_ => by
      obtain ⟨s2_, s3_, k1_, k2_⟩ := g_ I_
      rw [ew_pl (J_ := 0) (Z_ := fun _ _ _ => none) ⟨g13_, g14_, g17_⟩, g1_] at k1_
      cases k1_
      exact ⟨s3_, k2_⟩)
    intro v_ hv_
    rcases List.mem_cons.mp hv_ with rfl | hv_
    · exact ⟨g13_, g14_, g17_⟩
    · exact T_ v_ hv_
theorem ex_pl {b_ : Nat → Int} {n_ m_ p_ : Nat} {A_ B_ : pA} {E_ : gE} {O_ : gO} {r_ : pR} (hn_ : n_ ≤ 1280) (hA_ : a_ok b_ n_ A_ m_) (hB_ : a_ok b_ n_ B_ m_) (hx_ : a_ex A_ B_ m_) (ht_ : ten B_ m_ (A_.1 m_) E_ O_) (hp_ : p_ ≤ n_) (hk_ : lx_kd b_ n_ p_ ≠ -1) (e_ : p_ex b_ n_ false (p_pd b_ n_ A_ m_) [] p_ = .inr r_) : wpl r_.2.2 := by
  intro w_ hw_
  refine wpl_of (F_ := 1) (A_ := B_) (m_ := m_) r_.2.2.reverse (([], 7, 0), E_, O_, []) (Nat.le_refl 7) (fun I_ => ?_) w_ (List.mem_reverse.mpr hw_)
  obtain ⟨G_, v_, h1_, -⟩ := ex_tot (F_ := 1) (I_ := I_) (A_ := B_) (X_ := fun _ _ _ => none) (m_ := m_) (s0_ := (([], 7, 0), E_, O_, [])) hn_ (pd_ok hA_) (pd_ev hA_ hB_ hx_ ht_) hp_ hk_ rfl e_
  exact ⟨_, h1_⟩
theorem wpl_ap {c_ d_ : List Int} (h_ : wpl c_) (g_ : wpl d_) : wpl (c_ ++ d_) := fun w_ hw_ => (List.mem_append.mp hw_).elim (h_ w_) (g_ w_)
theorem wpl_c {w_ : Int} {c_ : List Int} (h_ : w_ % 32 ≠ 13 ∧ w_ % 32 ≠ 14 ∧ w_ % 32 ≠ 17) (g_ : wpl c_) : wpl (w_ :: c_) := fun v_ hv_ => by
  rcases List.mem_cons.mp hv_ with rfl | hv_
  · exact h_
  · exact g_ v_ hv_
theorem wpl_n : wpl [] := fun v_ hv_ => by cases hv_
theorem wpl_r {c_ : List Int} (h_ : wpl c_) : wpl c_.reverse := fun v_ hv_ => h_ v_ (List.mem_reverse.mp hv_)
theorem ach_pl {b_ : Nat → Int} {n_ m_ d_ K_ : Nat} {A_ B_ : pA} {E_ : gE} {O_ : gO} (hn_ : n_ ≤ 1280) (hA_ : a_ok b_ n_ A_ m_) (hB_ : a_ok b_ n_ B_ m_) (hx_ : a_ex A_ B_ m_) (ht_ : ten B_ m_ (A_.1 m_) E_ O_) : ∀ (l_ : List (pR × Nat)) (k_ p_ pe_ : Nat) (c_ : List Int), ach b_ n_ A_ m_ d_ l_ k_ p_ pe_ → p_ ≤ n_ → lx_kd b_ n_ p_ ≠ -1 → wpl c_ → wpl (acd K_ l_ c_)
  | [], _, _, _, _, h_, _, _, _ => h_.elim
  | xi_ :: l_, k_, p_, pe_, c_, h_, hp_, hk_, hc_ => by
    obtain ⟨h1_, h2_, h3_, h4_⟩ := h_
    have w1_ : wpl (cw 16 (K_ : Int) (xi_.2 : Int) :: (xi_.1.2.2 ++ c_)) := wpl_c (by unfold cw; omega) (wpl_ap (ex_pl hn_ hA_ hB_ hx_ ht_ hp_ hk_ h2_) hc_)
    show wpl (acd K_ l_ (cw 16 (K_ : Int) (xi_.2 : Int) :: (xi_.1.2.2 ++ c_)))
    rcases h4_ with ⟨rfl, -⟩ | ⟨-, k44_, p1_, hp1_, hl_⟩
    · exact w1_
    · have xk_ := pex_ok hn_ (pd_ok hA_) hp_ hk_ (Nat.zero_le _) h2_
      obtain ⟨-, -, a1_, a2_⟩ := p_ad_ok xk_.2.1 (by omega) hp1_
      exact ach_pl hn_ hA_ hB_ hx_ ht_ l_ (xi_.2 + 1) p1_ pe_ _ hl_ a1_ a2_ w1_
end
/-! 99.ztN -/
section
/-! next values and beginning: fuel; written by wip/p55/gen/vg -/

/-! next values and beginning: more fuel changes nothing -/
theorem nw_mo {F_ I_ m_ : Nat} {A_ : pA} {X_ : Nat → gQ → gE → Option (gQ × gE)} {Y_ Y2_ : Nat → gQ → gE → gN → gN} {w_ : Int} {s_ r_ : gS} (hY_ : ∀ d_ q_ e_ z_, X_ d_ q_ e_ = some z_ → ∀ x_, Y2_ d_ q_ e_ x_ = Y_ d_ q_ e_ x_) (h_ : ew F_ I_ A_ X_ m_ w_ s_ = some r_) (x_ : gN) : nw I_ A_ Y2_ m_ w_ s_ x_ = nw I_ A_ Y_ m_ w_ s_ x_ := by
  by_cases c_ : w_ % 32 = 17
  · obtain ⟨o_, z_, w1_, w2_, w3_, w4_, w5_, w6_, w7_⟩ := ew17 h_ c_
    rw [nw_17 c_ w1_, nw_17 c_ w1_]
    exact hY_ _ _ _ _ w6_ x_
  · by_cases d_ : w_ % 32 ≤ 11
    · rw [nw_o c_ d_, nw_o c_ d_]
    · rw [nw_s c_ d_, nw_s c_ d_]
theorem ncd_mo {F_ I_ m_ : Nat} {A_ : pA} {X_ X2_ : Nat → gQ → gE → Option (gQ × gE)} {Y_ Y2_ : Nat → gQ → gE → gN → gN} (hX_ : ∀ d_ q_ e_ z_, X_ d_ q_ e_ = some z_ → X2_ d_ q_ e_ = some z_) (hY_ : ∀ d_ q_ e_ z_, X_ d_ q_ e_ = some z_ → ∀ x_, Y2_ d_ q_ e_ x_ = Y_ d_ q_ e_ x_) : ∀ (c_ : List Int) (s_ r_ : gS) (x_ : gN), ec F_ I_ A_ X_ m_ c_ s_ = some r_ → ncd F_ I_ A_ X2_ Y2_ m_ c_ s_ x_ = ncd F_ I_ A_ X_ Y_ m_ c_ s_ x_
  | [], s_, r_, x_, _ => rfl
  | w_ :: c_, s_, r_, x_, h_ => by
    cases e_ : ew F_ I_ A_ X_ m_ w_ s_ with
    | none =>
      have h_ : (match ew F_ I_ A_ X_ m_ w_ s_ with
        | some s2_ => ec F_ I_ A_ X_ m_ c_ s2_
        | none => none) = some r_ := h_
      rw [e_] at h_
      cases h_
    | some s2_ =>
      have h_ : (match ew F_ I_ A_ X_ m_ w_ s_ with
        | some s2_ => ec F_ I_ A_ X_ m_ c_ s2_
        | none => none) = some r_ := h_
      rw [e_] at h_
      rw [ncd_c e_, ncd_c (ew_mo hX_ e_), nw_mo hY_ e_]
      exact ncd_mo hX_ hY_ c_ s2_ r_ _ h_
theorem exm_ec {F_ I_ d_ f_ : Nat} {A_ : pA} {C_ : Nat → List Int} {q_ : gQ} {e_ : gE} {z_ : gQ × gE} (h_ : exm F_ I_ A_ C_ (f_ + 1) d_ q_ e_ = some z_) : ∃ r_, ec F_ I_ A_ (exm F_ I_ A_ C_ f_) d_ (C_ d_) (q_, e_, fun _ => none, []) = some r_ := by
  rw [exm] at h_
  cases hs_ : ec F_ I_ A_ (exm F_ I_ A_ C_ f_) d_ (C_ d_) (q_, e_, fun _ => none, []) with
  | none => rw [hs_] at h_; cases h_
  | some s_ => exact ⟨s_, rfl⟩
theorem nxm_mo {F_ I_ : Nat} {A_ : pA} {C_ : Nat → List Int} : ∀ (f_ d_ : Nat) (q_ : gQ) (e_ : gE) (z_ : gQ × gE), exm F_ I_ A_ C_ f_ d_ q_ e_ = some z_ → ∀ x_, nxm F_ I_ A_ C_ (f_ + 1) d_ q_ e_ x_ = nxm F_ I_ A_ C_ f_ d_ q_ e_ x_
  | 0, d_, q_, e_, z_, h_, x_ => by cases h_
  | f_ + 1, d_, q_, e_, z_, h_, x_ => by
    obtain ⟨r_, hr_⟩ := exm_ec h_
    show ncd F_ I_ A_ (exm F_ I_ A_ C_ (f_ + 1)) (nxm F_ I_ A_ C_ (f_ + 1)) d_ (C_ d_) (q_, e_, fun _ => none, []) x_ = ncd F_ I_ A_ (exm F_ I_ A_ C_ f_) (nxm F_ I_ A_ C_ f_) d_ (C_ d_) (q_, e_, fun _ => none, []) x_
    exact ncd_mo (fun d_ q_ e_ z_ => exm_mo f_ d_ q_ e_ z_) (fun d_ q_ e_ z_ hz_ y_ => nxm_mo f_ d_ q_ e_ z_ hz_ y_) (C_ d_) _ r_ x_ hr_
/-- what the_ fold over a_ module's code comes to_, with as_ much fuel as_ the_ modules in it_ have -/
theorem nxm_ev {F_ I_ d_ f_ : Nat} {A_ : pA} {C_ : Nat → List Int} {q_ : gQ} {e_ : gE} {z_ : gQ × gE} {x_ : gN} (h_ : exm F_ I_ A_ C_ (f_ + 1) d_ q_ e_ = some z_) : nxm F_ I_ A_ C_ (f_ + 1) d_ q_ e_ x_ = ncd F_ I_ A_ (exm F_ I_ A_ C_ (f_ + 1)) (nxm F_ I_ A_ C_ (f_ + 1)) d_ (C_ d_) (q_, e_, fun _ => none, []) x_ := by
  obtain ⟨r_, hr_⟩ := exm_ec h_
  show ncd F_ I_ A_ (exm F_ I_ A_ C_ f_) (nxm F_ I_ A_ C_ f_) d_ (C_ d_) (q_, e_, fun _ => none, []) x_ = _
  exact (ncd_mo (fun d_ q_ e_ z_ => exm_mo f_ d_ q_ e_ z_) (fun d_ q_ e_ z_ hz_ y_ => nxm_mo f_ d_ q_ e_ z_ hz_ y_) (C_ d_) _ r_ x_ hr_).symm
end
/-! 99.ztO -/
section
/-! next values and beginning: the frames of the reference; written by wip/p55/gen/vg -/

/-! where a_ frame's registers stand -/
def rbt (B_ : pA) (I_ M_ fr_ K_ : Nat) (E_ : gE) (S_ : sm_S) : Prop := ∀ s_ : Nat, s_ < K_ → B_.2.2.1 (40 * M_ + s_) = 3 ∨ B_.2.2.1 (40 * M_ + s_) = 4 → ∃ (r_ : Nat) (y_ : List Int), E_ s_ = 2 * ((1 + I_ + r_ : Nat) : Int) :: y_ ∧ S_.2.2.1 150 0 (40 * fr_ + s_) = (r_ : Int)
theorem rbt_0 {B_ : pA} {I_ M_ fr_ : Nat} {E_ : gE} {S_ : sm_S} : rbt B_ I_ M_ fr_ 0 E_ S_ := fun s_ hs_ => absurd hs_ (Nat.not_lt_zero _)
theorem rbt_cg {B_ : pA} {I_ M_ fr_ K_ : Nat} {E_ : gE} {S_ S'_ : sm_S} (h_ : rbt B_ I_ M_ fr_ K_ E_ S_) (hK_ : K_ ≤ 40) (e_ : ∀ j_, j_ < 40 * (fr_ + 1) → S'_.2.2.1 150 0 j_ = S_.2.2.1 150 0 j_) : rbt B_ I_ M_ fr_ K_ E_ S'_ := by
  intro s_ hs_ q_
  obtain ⟨r_, y_, h1_, h2_⟩ := h_ s_ hs_ q_
  exact ⟨r_, y_, h1_, (e_ _ (by omega)).trans h2_⟩
theorem rbt_eq {B_ : pA} {I_ M_ fr_ K_ : Nat} {E_ : gE} {S_ S'_ : sm_S} (h_ : rbt B_ I_ M_ fr_ K_ E_ S_) (e_ : S'_.2.2.1 150 0 = S_.2.2.1 150 0) : rbt B_ I_ M_ fr_ K_ E_ S'_ := by
  intro s_ hs_ q_
  obtain ⟨r_, y_, h1_, h2_⟩ := h_ s_ hs_ q_
  exact ⟨r_, y_, h1_, (congrFun e_ _).trans h2_⟩
theorem rbt_i {B_ : pA} {I_ M_ fr_ K_ : Nat} {E_ E'_ : gE} {S_ S'_ : sm_S} (h_ : rbt B_ I_ M_ fr_ K_ E_ S_) (hs_ : B_.2.2.1 (40 * M_ + K_) ≠ 3 ∧ B_.2.2.1 (40 * M_ + K_) ≠ 4) (e_ : S'_.2.2.1 150 0 = S_.2.2.1 150 0) (hE_ : ∀ s_, s_ < K_ → E'_ s_ = E_ s_) : rbt B_ I_ M_ fr_ (K_ + 1) E'_ S'_ := by
  intro s_ hk_ q_
  by_cases c_ : s_ = K_
  · rw [c_] at q_
    rcases q_ with q_ | q_
    · exact absurd q_ hs_.1
    · exact absurd q_ hs_.2
  · obtain ⟨r_, y_, h1_, h2_⟩ := h_ s_ (by omega) q_
    exact ⟨r_, y_, (hE_ s_ (by omega)).trans h1_, (congrFun e_ _).trans h2_⟩
theorem rbt_k {B_ : pA} {I_ M_ fr_ K_ wd_ R_ : Nat} {E_ : gE} {S_ S'_ : sm_S} (h_ : rbt B_ I_ M_ fr_ K_ E_ S_) (hw_ : 1 ≤ wd_) (e_ : ∀ j_, S'_.2.2.1 150 0 j_ = if j_ = 40 * fr_ + K_ then (R_ : Int) else S_.2.2.1 150 0 j_) : rbt B_ I_ M_ fr_ (K_ + 1) (up1 E_ K_ (r_bt I_ R_ wd_)) S'_ := by
  intro s_ hk_ q_
  by_cases c_ : s_ = K_
  · obtain ⟨y_, hy_⟩ := r_bt_c (I_ := I_) (R_ := R_) hw_
    refine ⟨R_, y_, ?_, ?_⟩
    · show (if s_ = K_ then r_bt I_ R_ wd_ else E_ s_) = _
      rw [if_pos c_]
      exact hy_
    · rw [e_, if_pos (by omega)]
  · obtain ⟨r_, y_, h1_, h2_⟩ := h_ s_ (by omega) q_
    refine ⟨r_, y_, ?_, ?_⟩
    · show (if s_ = K_ then r_bt I_ R_ wd_ else E_ s_) = _
      rw [if_neg c_]
      exact h1_
    · rw [e_, if_neg (by omega)]
      exact h2_
theorem up1_o {E_ : gE} {K_ s_ : Nat} {v_ : List Int} (h_ : s_ ≠ K_) : (up1 E_ K_ v_) s_ = E_ s_ := if_neg h_
/-! the_ frames, with what they still do_ to_ next values and beginning -/
def beN (b_ : Nat → Int) (n_ T_ F_ I_ tp_ : Nat) (B_ : pA) (N_ : Nat → Nat) (X_ : Nat → gQ → gE → Option (gQ × gE)) (Y_ : Nat → gQ → gE → gN → gN) (S_ : sm_S) (z_ : gQ × gE) : Nat → Nat → gQ → gE → Nat → (gN → gN) → Prop
  | 0, _, q_, e_, w_, g_ => z_ = (q_, e_) ∧ w_ = 0 ∧ g_ = fun x_ => x_
  | fr_ + 1, d_, q_, e_, w_, g_ => ∃ (M_ f_ : Nat) (A_ : pA) (c_ : List Int) (p_ : Nat) (ce_ rest : List Int) (K_ : Nat) (E_ : gE) (O_ : gO) (i_ : Nat) (q'_ : gQ) (E'_ : gE) (O'_ : gO) (w'_ : Nat) (g'_ : gN → gN), (S_.2.2.1 146 0 fr_ = (M_ : Int) ∧ S_.2.2.1 148 0 (fr_ + 1) = (K_ : Int) ∧ S_.2.2.1 147 0 (fr_ + 1) = (i_ : Int) ∧ S_.2.2.1 149 0 fr_ = (K_ : Int) + 1) ∧ rp b_ n_ T_ i_ p_ ∧ mch b_ n_ B_ N_ M_ f_ A_ c_ p_ ce_ ∧ ce_ = rest ++ c_ ∧ (A_.1 M_ = K_ + 1 ∧ d_ < M_ ∧ fr_ + M_ ≤ tp_ ∧ K_ < B_.1 M_) ∧ (B_.2.2.1 (40 * M_ + K_) = 5 ∧ B_.2.2.2.2 (40 * M_ + K_) = (d_ : Int)) ∧ tst B_ I_ M_ K_ E_ O_ ∧ (∀ s_, s_ < 40 → (E_ s_).length ≤ 8) ∧ (∀ s_, B_.1 M_ ≤ s_ → E_ s_ = []) ∧ (∀ s_, K_ ≤ s_ → O_ s_ = none) ∧ (∀ s_ o_, O_ s_ = some o_ → ∀ o1_, o1_ < 40 → (o_ o1_).length ≤ 8) ∧ (rev fr_ K_ E_ O_ (q_.1.length ≤ 1001) S_ ∧ lwB F_ q_ E_ O_ ∧ rbt B_ I_ M_ fr_ K_ E_ S_) ∧ ev F_ I_ B_ X_ M_ (q_, E_, up1 O_ K_ (some e_), []) rest = some (q'_, E'_, O'_, []) ∧ (w_ = (1301 - p_) + w'_ ∧ g_ = fun x_ => g'_ (ncd F_ I_ B_ X_ Y_ M_ rest.reverse (q_, E_, up1 O_ K_ (some e_), []) x_)) ∧ beN b_ n_ T_ F_ I_ tp_ B_ N_ X_ Y_ S_ z_ fr_ M_ q'_ E'_ w'_ g'_
theorem beN_be {b_ : Nat → Int} {n_ T_ F_ I_ tp_ : Nat} {B_ : pA} {N_ : Nat → Nat} {X_ : Nat → gQ → gE → Option (gQ × gE)} {Y_ : Nat → gQ → gE → gN → gN} {S_ : sm_S} {z_ : gQ × gE} : ∀ (fr_ d_ : Nat) (q_ : gQ) (e_ : gE) (w_ : Nat) (g_ : gN → gN), beN b_ n_ T_ F_ I_ tp_ B_ N_ X_ Y_ S_ z_ fr_ d_ q_ e_ w_ g_ → bel b_ n_ T_ F_ I_ tp_ B_ N_ X_ S_ z_ fr_ d_ q_ e_ w_
  | 0, d_, q_, e_, w_, g_, h_ => ⟨h_.1, h_.2.1⟩
  | fr_ + 1, d_, q_, e_, w_, g_, h_ => by
    obtain ⟨M_, f_, A_, c_, p_, ce_, rest, K_, E_, O_, i_, q'_, E'_, O'_, w'_, g'_, h1_, h2_, h3_, h4_, h5_, h6_, h7_, h8_, h9_, h10_, h11_, h12_, h13_, h14_, h15_⟩ := h_
    exact ⟨M_, f_, A_, c_, p_, ce_, rest, K_, E_, O_, i_, q'_, E'_, O'_, w'_, h1_, h2_, h3_, h4_, h5_, h6_, h7_, h8_, h9_, h10_, h11_, ⟨h12_.1, h12_.2.1⟩, h13_, h14_.1, beN_be fr_ M_ q'_ E'_ w'_ g'_ h15_⟩
theorem beN_fr {b_ : Nat → Int} {n_ T_ F_ I_ tp_ : Nat} {B_ : pA} {N_ : Nat → Nat} {X_ : Nat → gQ → gE → Option (gQ × gE)} {Y_ : Nat → gQ → gE → gN → gN} {S_ S'_ : sm_S} {z_ : gQ × gE} : ∀ (fr_ d_ : Nat) (q_ : gQ) (e_ : gE) (w_ : Nat) (g_ : gN → gN), beN b_ n_ T_ F_ I_ tp_ B_ N_ X_ Y_ S_ z_ fr_ d_ q_ e_ w_ g_ → (∀ j_, j_ < fr_ → S'_.2.2.1 146 0 j_ = S_.2.2.1 146 0 j_ ∧ S'_.2.2.1 149 0 j_ = S_.2.2.1 149 0 j_) → (∀ j_, j_ ≤ fr_ → S'_.2.2.1 147 0 j_ = S_.2.2.1 147 0 j_ ∧ S'_.2.2.1 148 0 j_ = S_.2.2.1 148 0 j_) → (∀ j_, j_ < 8 * (40 * fr_) → S'_.2.2.1 144 0 j_ = S_.2.2.1 144 0 j_) → (∀ j_, j_ < 8 * (40 * (40 * fr_)) → S'_.2.2.1 145 0 j_ = S_.2.2.1 145 0 j_) → (∀ j_, j_ < 40 * fr_ → S'_.2.2.1 150 0 j_ = S_.2.2.1 150 0 j_) → beN b_ n_ T_ F_ I_ tp_ B_ N_ X_ Y_ S'_ z_ fr_ d_ q_ e_ w_ g_
  | 0, d_, q_, e_, w_, g_, h_, _, _, _, _, _ => h_
  | fr_ + 1, d_, q_, e_, w_, g_, h_, a1_, a2_, a3_, a4_, a5_ => by
    obtain ⟨M_, f_, A_, c_, p_, ce_, rest, K_, E_, O_, i_, q'_, E'_, O'_, w'_, g'_, h1_, h2_, h3_, h4_, h5_, h6_, h7_, h8_, h9_, h10_, h11_, h12_, h13_, h14_, h15_⟩ := h_
    have K40_ : K_ ≤ 40 := by
      have := (mch_ex h3_).1.2 M_ (Nat.le_refl _)
      omega
    refine ⟨M_, f_, A_, c_, p_, ce_, rest, K_, E_, O_, i_, q'_, E'_, O'_, w'_, g'_, ?_, h2_, h3_, h4_, h5_, h6_, h7_, h8_, h9_, h10_, h11_, ⟨rev_l2 h12_.1 K40_ id h8_ h11_ (fun j_ hj_ => a3_ j_ hj_) (fun j_ hj_ => a4_ j_ hj_), h12_.2.1, rbt_cg h12_.2.2 K40_ (fun j_ hj_ => a5_ j_ hj_)⟩, h13_, h14_, beN_fr fr_ M_ q'_ E'_ w'_ g'_ h15_ (fun j_ hj_ => a1_ j_ (by omega)) (fun j_ hj_ => a2_ j_ (by omega)) (fun j_ hj_ => a3_ j_ (by omega)) (fun j_ hj_ => a4_ j_ (by omega)) (fun j_ hj_ => a5_ j_ (by omega))⟩
    rw [(a1_ fr_ (by omega)).1, (a1_ fr_ (by omega)).2, (a2_ (fr_ + 1) (by omega)).1, (a2_ (fr_ + 1) (by omega)).2]
    exact h1_
/-- the_ state of_ the_ work, with what has_ been done to_ next values and beginning -/
def giN (b_ : Nat → Int) (n_ T_ F_ I_ tp_ : Nat) (B_ : pA) (N_ : Nat → Nat) (X_ : Nat → gQ → gE → Option (gQ × gE)) (Y_ : Nat → gQ → gE → gN → gN) (z_ : gQ × gE) (zx_ : gN) (mu_ fr_ M_ f_ : Nat) (A_ : pA) (c_ : List Int) (p_ : Nat) (ce_ rest : List Int) (E_ : gE) (O_ : gO) (q_ : gQ) (q'_ : gQ) (E'_ : gE) (O'_ : gO) (w_ : Nat) (g_ : gN → gN) (x_ : gN) (S_ : sm_S) : Prop := gin b_ n_ T_ F_ I_ tp_ B_ N_ X_ z_ mu_ fr_ M_ f_ A_ c_ p_ ce_ rest E_ O_ q_ q'_ E'_ O'_ w_ S_ ∧ beN b_ n_ T_ F_ I_ tp_ B_ N_ X_ Y_ S_ z_ fr_ M_ q'_ E'_ w_ g_ ∧ rbt B_ I_ M_ fr_ (A_.1 M_) E_ S_ ∧ g_ (ncd F_ I_ B_ X_ Y_ M_ rest.reverse (q_, E_, O_, []) x_) = zx_ ∧ imq (S_.1 13 0 37 - S_.1 13 0 38 ≤ 1000) (rxn q_.2.1 x_ S_)
def giM (b_ : Nat → Int) (n_ T_ F_ I_ tp_ : Nat) (B_ : pA) (N_ : Nat → Nat) (X_ : Nat → gQ → gE → Option (gQ × gE)) (Y_ : Nat → gQ → gE → gN → gN) (z_ : gQ × gE) (zx_ : gN) (mu_ : Nat) (S_ : sm_S) : Prop := ∃ fr_ M_ f_ A_ c_ p_ ce_ rest E_ O_ q_ q'_ E'_ O'_ w_ g_ x_, giN b_ n_ T_ F_ I_ tp_ B_ N_ X_ Y_ z_ zx_ mu_ fr_ M_ f_ A_ c_ p_ ce_ rest E_ O_ q_ q'_ E'_ O'_ w_ g_ x_ S_
/-- what an_ item leaves -/
def pNx (F_ I_ : Nat) (B_ : pA) (X_ : Nat → gQ → gE → Option (gQ × gE)) (Y_ : Nat → gQ → gE → gN → gN) (M_ fr_ K_ : Nat) (kk_ : List Int) (q0_ : gQ) (E_ : gE) (O_ : gO) (x0_ : gN) (q1_ : gQ) (E1_ : gE) (S0_ S1_ : sm_S) : Prop := rbt B_ I_ M_ fr_ K_ E1_ S1_ ∧ (∀ j_, j_ < 40 * fr_ → S1_.2.2.1 150 0 j_ = S0_.2.2.1 150 0 j_) ∧ imq (S1_.1 13 0 37 - S1_.1 13 0 38 ≤ 1000) (rxn q1_.2.1 (ncd F_ I_ B_ X_ Y_ M_ kk_.reverse (q0_, E_, O_, []) x0_) S1_)
def p8x (kk_ : List Int) (q0_ : gQ) (x0_ : gN) (S0_ S1_ : sm_S) : Prop := S1_.2.2.1 150 0 = S0_.2.2.1 150 0 ∧ wpl kk_.tail ∧ imq (S1_.1 13 0 37 - S1_.1 13 0 38 ≤ 1000) (rxn q0_.2.1 x0_ S1_)
theorem gin_r0 {b_ : Nat → Int} {n_ T_ F_ I_ tp_ : Nat} {B_ : pA} {N_ : Nat → Nat} {z_ : gQ × gE} {mu_ fr_ M_ f_ : Nat} {A_ : pA} {c_ : List Int} {p_ : Nat} {ce_ rest : List Int} {E_ : gE} {O_ : gO} {q_ q'_ : gQ} {E'_ : gE} {O'_ : gO} {w_ : Nat} {S_ : sm_S} {X_ : Nat → gQ → gE → Option (gQ × gE)} (h_ : gin b_ n_ T_ F_ I_ tp_ B_ N_ X_ z_ mu_ fr_ M_ f_ A_ c_ p_ ce_ rest E_ O_ q_ q'_ E'_ O'_ w_ S_) (hk_ : lx_kd b_ n_ p_ = 125) : rest = [] := by
  obtain ⟨h1_, h2_, h3_, h4_, -⟩ := h_
  cases f_ with
  | zero => exact h3_.elim
  | succ f1_ =>
    obtain ⟨⟨m1_, m2_, m3, m4_⟩, m5_⟩ := h3_
    rcases m5_ with ⟨z1_, z2_, z3_⟩ | ⟨rr_, z1_, z2_⟩
    · rw [z3_] at h4_
      have e_ := congrArg List.length h4_
      rw [List.length_append] at e_
      exact List.eq_nil_of_length_eq_zero (by omega)
    · exfalso
      unfold p_it at z1_
      rw [if_neg (by omega), if_neg (by omega), if_neg (by omega), if_neg (by omega), if_neg (by omega), if_neg (by omega)] at z1_
      cases z1_
section GN_
variable {b_ : Nat → Int} {n_ T_ F_ I_ tp_ : Nat} {B_ : pA} {N_ : Nat → Nat} {C_ : Nat → List Int} {z_ : gQ × gE} {zx_ : gN} {mu_ fr_ M_ f_ : Nat} {A_ : pA} {c_ : List Int} {p_ : Nat} {ce_ rest : List Int} {E_ : gE} {O_ : gO} {q_ q'_ : gQ} {E'_ : gE} {O'_ : gO} {w_ : Nat} {g_ : gN → gN} {x_ : gN} {S_ S1_ : sm_S}
theorem giN_it {X_ : Nat → gQ → gE → Option (gQ × gE)} {Y_ : Nat → gQ → gE → gN → gN} {rr_ : pT} {kk_ rest1 : List Int} {q1_ : gQ} {E1_ : gE} {O1_ : gO} {V1_ : gV} (h_ : giN b_ n_ T_ F_ I_ tp_ B_ N_ X_ Y_ z_ zx_ mu_ fr_ M_ f_ A_ c_ p_ ce_ rest E_ O_ q_ q'_ E'_ O'_ w_ g_ x_ S_) (i2_ : rr_.2.1 = kk_ ++ c_) (i6_ : ce_ = rest1 ++ rr_.2.1) (i4_ : ev F_ I_ B_ X_ M_ (q_, E_, O_, []) kk_ = some (q1_, E1_, O1_, V1_)) : g_ (ncd F_ I_ B_ X_ Y_ M_ rest1.reverse (q1_, E1_, O1_, V1_) (ncd F_ I_ B_ X_ Y_ M_ kk_.reverse (q_, E_, O_, []) x_)) = zx_ := by
  obtain ⟨G_, hb_, hr_, hg_, hx_⟩ := h_
  have h4_ := G_.2.2.2.1
  have r1_ : rest = rest1 ++ kk_ := by
    rw [h4_, i2_, ← List.append_assoc] at i6_
    exact List.append_cancel_right i6_
  have i5_ : ec F_ I_ B_ X_ M_ kk_.reverse (q_, E_, O_, []) = some (q1_, E1_, O1_, V1_) := i4_
  rw [r1_, List.reverse_append, ncd_ap kk_.reverse _ _ i5_] at hg_
  exact hg_
theorem giN_N {X_ : Nat → gQ → gE → Option (gQ × gE)} {Y_ : Nat → gQ → gE → gN → gN} {f1_ : Nat} {rr_ : pT} {kk_ rest1 : List Int} {q1_ : gQ} {E1_ : gE} {O1_ : gO} {V1_ : gV} (hn_ : n_ ≤ 1280) (h_ : giN b_ n_ T_ F_ I_ tp_ B_ N_ X_ Y_ z_ zx_ mu_ fr_ M_ f_ A_ c_ p_ ce_ rest E_ O_ q_ q'_ E'_ O'_ w_ g_ x_ S_) (hkk_ : rr_.2.1 = kk_ ++ c_) (hm_ : mch b_ n_ B_ N_ M_ f1_ rr_.1 rr_.2.1 rr_.2.2 ce_) (hc_ : ce_ = rest1 ++ rr_.2.1) (hv_ : ev F_ I_ B_ X_ M_ (q1_, E1_, O1_, V1_) rest1 = some (q'_, E'_, O'_, [])) (hp_ : p_ < rr_.2.2 ∧ rr_.2.2 ≤ n_) (hK_ : A_.1 M_ ≤ rr_.1.1 M_) (h45_ : S1_.2.2.1 145 0 = S_.2.2.1 145 0) (hXw_ : lwX F_ I_ X_) (hF13_ : F_ ≤ 13) (hek_ : ev F_ I_ B_ X_ M_ (q_, E_, O_, []) kk_ = some (q1_, E1_, O1_, V1_)) (hRF_ : 1 + I_ + q1_.2.1 ≤ F_) (hN_ : pN b_ n_ T_ F_ I_ B_ M_ fr_ (rr_.1.1 M_) q_.2.2 q1_ E1_ O_ O1_ V1_ rr_.2.2 S_ S1_) (hx_ : pNx F_ I_ B_ X_ Y_ M_ fr_ (rr_.1.1 M_) kk_ q_ E_ O_ x_ q1_ E1_ S_ S1_) : ∃ mu1_, mu1_ < mu_ ∧ giM b_ n_ T_ F_ I_ tp_ B_ N_ X_ Y_ z_ zx_ mu1_ S1_ := by
  have hz_ := giN_it h_ hkk_ hc_ hek_
  obtain ⟨G_, hb_, hr_, hg_, hx0_⟩ := h_
  obtain ⟨mu1_, l1_, G1_⟩ := gin_N hn_ G_ hm_ hc_ hv_ hp_ hK_ h45_ hXw_ hF13_ hek_ hRF_ hN_
  obtain ⟨k1_, k2_, k3_, k4_, k5_, k6_, k7_, k8_, k9_, ka_, kb_, kc_, kd_, ke_⟩ := hN_
  obtain ⟨x1_, x2_, x3_⟩ := hx_
  subst kd_
  refine ⟨mu1_, l1_, fr_, M_, f1_, rr_.1, rr_.2.1, rr_.2.2, ce_, rest1, E1_, O1_, q1_, q'_, E'_, O'_, w_, g_, ncd F_ I_ B_ X_ Y_ M_ kk_.reverse (q_, E_, O_, []) x_, G1_, ?_, x1_, hz_, x3_⟩
  refine beN_fr fr_ M_ q'_ E'_ w_ g_ hb_ (fun j_ hj_ => ⟨congrFun k7_.1 j_, ?_⟩) (fun j_ hj_ => ⟨congrFun k7_.2.1 j_, congrFun k7_.2.2 j_⟩) k9_ (fun j_ hj_ => congrFun h45_ j_) x2_
  rw [k8_, if_neg (by omega)]
theorem giN_8 {f1_ : Nat} {rr_ : pT} {kk_ rest1 : List Int} {q1_ : gQ} {E1_ : gE} {O1_ : gO} {V1_ : gV} (hn_ : n_ ≤ 1280) (hmo_ : ∀ m_, m_ ≤ tp_ → gmd b_ n_ T_ B_ N_ C_ m_ S_) (h_ : giN b_ n_ T_ F_ I_ tp_ B_ N_ (exm F_ I_ B_ C_ 16) (nxm F_ I_ B_ C_ 16) z_ zx_ mu_ fr_ M_ f_ A_ c_ p_ ce_ rest E_ O_ q_ q'_ E'_ O'_ w_ g_ x_ S_) (hkk_ : rr_.2.1 = kk_ ++ c_) (hm_ : mch b_ n_ B_ N_ M_ f1_ rr_.1 rr_.2.1 rr_.2.2 ce_) (hc_ : ce_ = rest1 ++ rr_.2.1) (he_ : ev F_ I_ B_ (exm F_ I_ B_ C_ 16) M_ (q_, E_, O_, []) kk_ = some (q1_, E1_, O1_, V1_)) (hv_ : ev F_ I_ B_ (exm F_ I_ B_ C_ 16) M_ (q1_, E1_, O1_, V1_) rest1 = some (q'_, E'_, O'_, [])) (hp_ : p_ < rr_.2.2 ∧ rr_.2.2 ≤ n_) (h45_ : S1_.2.2.1 145 0 = S_.2.2.1 145 0) (hF13_ : F_ ≤ 13) (hRz_ : 1 + I_ + z_.1.2.1 ≤ F_) (h8_ : p8 b_ n_ T_ F_ I_ B_ (exm F_ I_ B_ C_ 16) M_ fr_ (A_.1 M_) q_ E_ O_ kk_ (rr_.1.1 M_) rr_.2.2 S_ S1_) (hx8_ : p8x kk_ q_ x_ S_ S1_) : ∃ mu1_, mu1_ < mu_ ∧ giM b_ n_ T_ F_ I_ tp_ B_ N_ (exm F_ I_ B_ C_ 16) (nxm F_ I_ B_ C_ 16) z_ zx_ mu1_ S1_ := by
  have hz_ := giN_it h_ hkk_ hc_ he_
  obtain ⟨G0_, hb_, hr_, hg_, hx0_⟩ := h_
  obtain ⟨h1_, h2_, h3_, h4_, h5_, h6_, h7_, hEB_, h9_, h10_, h11_, h12_, h13_, h14_, h15_, h16_⟩ := G0_
  obtain ⟨d_, k8_, G_, o_, i9_, g1_, g2_, g3_, g4_, g5_, g6_, g7_, g8_, g9_, gz_, ga_, gb_, gc_, gd_, ge_, gf_, gg_⟩ := h8_
  obtain ⟨t1_, t2_, t3_⟩ := hx8_
  have A40_ := (hB_40 h3_)
  subst g1_
  rw [ev_c g7_] at he_
  obtain ⟨e1_, e2_, e3_⟩ := cw_d (k_ := 17) (a_ := (A_.1 M_ : Int)) (d_ := (d_ : Int)) (by omega) (by omega)
  obtain ⟨o'_, z2_, w1_, w2_, w3_, w4_, w5_, w6_, w7_⟩ := ew17 he_ e1_
  have g17_ : ∀ x9_ : gN, nw I_ B_ (nxm F_ I_ B_ C_ 16) M_ (cw 17 (A_.1 M_ : Int) (d_ : Int)) ((G_, q_.2.1, q_.2.2 + 1), E_, up1 O_ (A_.1 M_) (some o_), []) x9_ = nxm F_ I_ B_ C_ 16 d_ (G_, q_.2.1, q_.2.2 + 1) o'_ x9_ := by
    intro x9_
    rw [nw_17 e1_ w1_, e3_, Int.toNat_natCast]
  have n17_ : ncd F_ I_ B_ (exm F_ I_ B_ C_ 16) (nxm F_ I_ B_ C_ 16) M_ (cw 17 (A_.1 M_ : Int) (d_ : Int) :: k8_).reverse (q_, E_, O_, []) x_ = nxm F_ I_ B_ C_ 16 d_ (G_, q_.2.1, q_.2.2 + 1) o'_ x_ := by
    have c8_ : ec F_ I_ B_ (exm F_ I_ B_ C_ 16) M_ k8_.reverse (q_, E_, O_, []) = some ((G_, q_.2.1, q_.2.2 + 1), E_, up1 O_ (A_.1 M_) (some o_), []) := g7_
    rw [List.reverse_cons, ncd_ap k8_.reverse _ _ c8_, ncd_pl k8_.reverse _ _ (wpl_r t2_), ncd_c he_]
    exact g17_ x_
  rw [n17_] at hz_
  rw [e2_, Int.toNat_natCast] at w1_ w7_
  rw [e3_, Int.toNat_natCast] at w6_
  have oo_ : o'_ = o_ := by
    have w1_ : (if A_.1 M_ = A_.1 M_ then some o_ else O_ (A_.1 M_)) = some o'_ := w1_
    rw [if_pos rfl] at w1_
    exact (Option.some.inj w1_).symm
  subst oo_
  have w7_ : (q1_, E1_, O1_, V1_) = (z2_.1, E_, up1 (up1 O_ (A_.1 M_) (some o'_)) (A_.1 M_) (some z2_.2), []) := w7_
  rw [up1_2] at w7_
  rw [w7_] at hv_ hz_
  have w6_ : exm F_ I_ B_ C_ 16 d_ (G_, q_.2.1, q_.2.2 + 1) o'_ = some z2_ := w6_
  have w6n : nxm F_ I_ B_ C_ 16 d_ (G_, q_.2.1, q_.2.2 + 1) o'_ x_ = ncd F_ I_ B_ (exm F_ I_ B_ C_ 16) (nxm F_ I_ B_ C_ 16) d_ (C_ d_) ((G_, q_.2.1, q_.2.2 + 1), o'_, fun _ => none, []) x_ := nxm_ev (f_ := 15) w6_
  rw [w6n] at hz_
  obtain ⟨O2_, x1_⟩ := exm_ev w6_
  obtain ⟨f2_, A2_, c2_, u_, ce2_, i2_, y1_, y2_, y3_, y4_, y5_⟩ := hmo_ d_ (by omega)
  have l1_ : q_.1.length ≤ G_.length := ev_le exm_hX g7_
  have l2_ : G_.length ≤ z2_.1.1.length := exm_hX _ _ _ _ w6_
  obtain ⟨m1_, m2_, m3, m4_, m5_, m6_, m7_, m8_⟩ := gd_
  have XW_ := exm_w (F_ := F_) (I_ := I_) (A_ := B_) (C_ := C_) 16
  have r1_ : z2_.1.2.1 ≤ q'_.2.1 := ev_R XW_ hv_
  have r2_ : q'_.2.1 ≤ z_.1.2.1 := bel_R XW_ _ _ _ _ _ h15_
  have r3_ : q_.2.1 ≤ z2_.1.2.1 := (XW_ _ _ _ _ w6_).2.1
  have LS_ : G_.length ≤ 1001 → lwS F_ ((G_, q_.2.1, q_.2.2 + 1), E_, up1 O_ (A_.1 M_) (some o'_), []) := fun ok_ => ev_w XW_ g7_ (by show F_ + G_.length ≤ 1023; omega) (by show 1 + I_ + q_.2.1 ≤ F_; omega) (h11_.2 (Nat.le_trans l1_ ok_))
  have LW_ : lwG F_ (G_, q_.2.1, q_.2.2 + 1) o'_ (fun _ => none) := fun ok_ => ⟨(LS_ ok_).1, (LS_ ok_).2.2.1 (A_.1 M_) o'_ (if_pos rfl), (fun a_ o_ e_ => by cases e_), (fun v_ hv_ => by cases hv_)⟩
  have LB_ : lwB F_ z2_.1 E_ O_ := fun ok_ => ⟨fun s_ => lwl_up (by show F_ + q_.1.length ≤ F_ + z2_.1.1.length; omega) ((h11_.2 (by omega)).2.1 s_), fun s_ o_ e_ t_ => lwl_up (by show F_ + q_.1.length ≤ F_ + z2_.1.1.length; omega) ((h11_.2 (by omega)).2.2.1 s_ o_ e_ t_)⟩
  have ub_ := (mch_ex y1_).2.2.1
  have BN_ : beN b_ n_ T_ F_ I_ tp_ B_ N_ (exm F_ I_ B_ C_ 16) (nxm F_ I_ B_ C_ 16) S1_ z_ (fr_ + 1) d_ z2_.1 z2_.2 ((1301 - rr_.2.2) + w_) (fun x9_ => g_ (ncd F_ I_ B_ (exm F_ I_ B_ C_ 16) (nxm F_ I_ B_ C_ 16) M_ rest1.reverse (z2_.1, E_, up1 O_ (A_.1 M_) (some z2_.2), []) x9_)) := by
    refine ⟨M_, f1_, rr_.1, rr_.2.1, rr_.2.2, ce_, rest1, A_.1 M_, E_, O_, i9_, q'_, E'_, O'_, w_, g_, ⟨?_, ?_, ?_, ?_⟩, gc_, hm_, hc_, ⟨g4_, g2_, h5_, g3_⟩, ⟨g5_, g6_⟩, h6_, h7_, hEB_, h9_, h10_, ⟨rev_lo h11_.1 (fun z9_ => Nat.le_trans l1_ (Nat.le_trans l2_ z9_)) h7_ ge_ h45_, LB_, rbt_eq hr_ t1_⟩, hv_, ⟨rfl, rfl⟩, ?_⟩
    · rw [m1_, if_neg (by omega), rd_ne (by decide)]; exact h1_.2.2.2.1
    · rw [m3, if_pos rfl]
    · rw [m2_, if_pos rfl]
    · rw [m4_, if_neg (by omega), rd_eq, if_pos rfl]
    · refine beN_fr fr_ M_ q'_ E'_ w_ g_ hb_ (fun j_ hj_ => ⟨?_, ?_⟩) (fun j_ hj_ => ⟨?_, ?_⟩) (fun j_ hj_ => ge_ j_ (by omega)) (fun j_ hj_ => congrFun h45_ j_) (fun j_ hj_ => congrFun t1_ j_)
      · rw [m1_, if_neg (by omega), rd_ne (by decide)]
      · rw [m4_, if_neg (by omega), rd_eq, if_neg (by omega)]
      · rw [m2_, if_neg (by omega), rd_ne (by decide)]
      · rw [m3, if_neg (by omega), rd_ne (by decide)]
  refine ⟨(300 - (q_.2.2 + 1)) * 3000 + (1301 - u_) + ((1301 - rr_.2.2) + w_), by omega, fr_ + 1, d_, f2_, A2_, c2_, u_, ce2_, (C_ d_).reverse, o'_, fun _ => none, (G_, q_.2.1, q_.2.2 + 1), z2_.1, z2_.2, O2_, (1301 - rr_.2.2) + w_, _, x_, ⟨⟨?_, m5_, gg_.trans h1_.2.2.1, ?_, ?_⟩, ⟨m8_, i2_, ?_, y4_⟩, y1_, y3_, by omega, ?_, g9_, gz_, fun s_ _ => rfl, (fun s_ o9_ e9_ => by cases e9_), ?_, gb_, ?_, x1_, beN_be _ _ _ _ _ _ BN_, rfl⟩, BN_, ?_, ?_, t3_⟩
  · rw [m6_]; push_cast; rfl
  · rw [m1_, if_pos rfl]
  · rw [m4_, if_pos rfl, y2_]; rfl
  · rw [m7_, rd_ne (by decide)]; exact y5_
  · rw [y2_]; exact tst_0 g8_
  · rw [y2_]; exact ⟨gf_, LW_⟩
  · show q_.2.2 + 1 ≤ 201; omega
  · rw [y2_]; exact rbt_0
  · rw [List.reverse_reverse]; exact hz_
theorem giN_D {X_ : Nat → gQ → gE → Option (gQ × gE)} {Y_ : Nat → gQ → gE → gN → gN} (h_ : giN b_ n_ T_ F_ I_ tp_ B_ N_ X_ Y_ z_ zx_ mu_ 0 M_ f_ A_ c_ p_ ce_ rest E_ O_ q_ q'_ E'_ O'_ w_ g_ x_ S_) (hk_ : lx_kd b_ n_ p_ = 125) : zx_ = x_ := by
  obtain ⟨G_, hb_, hr_, hg_, hx0_⟩ := h_
  have hr0_ := gin_r0 G_ hk_
  obtain ⟨b1_, b2_, b3_⟩ := hb_
  rw [hr0_, b3_] at hg_
  exact hg_.symm
theorem giN_L {X_ : Nat → gQ → gE → Option (gQ × gE)} {Y_ : Nat → gQ → gE → gN → gN} {K_ : Nat} (hn_ : n_ ≤ 1280) (h_ : giN b_ n_ T_ F_ I_ tp_ B_ N_ X_ Y_ z_ zx_ mu_ (fr_ + 1) M_ f_ A_ c_ p_ ce_ rest E_ O_ q_ q'_ E'_ O'_ w_ g_ x_ S_) (hk_ : lx_kd b_ n_ p_ = 125) (hK_ : S_.2.2.1 148 0 (fr_ + 1) = (K_ : Int)) (p1_ : S1_.1 13 0 29 = (fr_ : Int)) (p2_ : ∀ o1_ k1_ : Nat, o1_ < B_.1 M_ → k1_ < 8 → S1_.2.2.1 145 0 (8 * (40 * (40 * fr_ + K_) + o1_) + k1_) = S_.2.2.1 144 0 (8 * (40 * (fr_ + 1) + o1_) + k1_)) (p3_ : ∀ j_, j_ < 8 * (40 * (40 * fr_ + K_)) ∨ 8 * (40 * (40 * fr_ + K_)) + 320 ≤ j_ → S1_.2.2.1 145 0 j_ = S_.2.2.1 145 0 j_) (p4_ : S1_.1 13 0 9 = S_.2.2.1 147 0 (fr_ + 1)) (p5_ : S1_.1 13 0 28 = S_.2.2.1 146 0 fr_) (f4_ : S1_.2.2.1 144 0 = S_.2.2.1 144 0) (f6_ : S1_.2.2.1 146 0 = S_.2.2.1 146 0) (f7_ : S1_.2.2.1 147 0 = S_.2.2.1 147 0) (f8 : S1_.2.2.1 148 0 = S_.2.2.1 148 0) (f9_ : S1_.2.2.1 149 0 = S_.2.2.1 149 0) (fu_ : S1_.1 13 0 53 = S_.1 13 0 53) (ff_ : S1_.1 13 0 10 = S_.1 13 0 10) (fg_ : rgl F_ q_.1 S_ → rgl F_ q_.1 S1_) (fa_ : S1_.2.2.1 150 0 = S_.2.2.1 150 0) (fb_ : imq (S1_.1 13 0 37 - S1_.1 13 0 38 ≤ 1000) (rxn q_.2.1 x_ S1_)) : ∃ mu1_, mu1_ < mu_ ∧ giM b_ n_ T_ F_ I_ tp_ B_ N_ X_ Y_ z_ zx_ mu1_ S1_ := by
  obtain ⟨G0_, hb_, hr_, hg_, hx0_⟩ := h_
  obtain ⟨e1_, e2_, e3_⟩ := gin_e G0_ hk_
  have hr0_ := gin_r0 G0_ hk_
  obtain ⟨h1_, h2_, h3_, h4_, h5_, h6_, h7_, h8_, h9_, h10_, h11_, h12_, h13_, h14_, h15_, h16_⟩ := G0_
  subst e2_
  subst e3_
  rw [hr0_] at hg_
  have hg_ : g_ x_ = zx_ := hg_
  obtain ⟨M0_, f0_, A0_, c0_, p0_, ce0_, rest0, K0_, E0_, O0_, i_, q2_, E2_, O2_, w'_, g'_, b1_, b2_, b3_, b4_, b5_, b6_, b7_, b8_, b9_, b10_, b11_, b12_, b13_, ⟨b14_, b14g⟩, b15_⟩ := hb_
  rw [b14g] at hg_
  have hg_ : g'_ (ncd F_ I_ B_ X_ Y_ M0_ rest0.reverse (q'_, E0_, up1 O0_ K0_ (some E'_), []) x_) = zx_ := hg_
  have kk_ : K0_ = K_ := by
    have := b1_.2.1
    omega
  subst kk_
  have k40_ := hB_40 b3_
  have pn_ := (mch_ex h3_).2.2.1
  have up_ : ∀ s_ o_, up1 O0_ K0_ (some E'_) s_ = some o_ → (s_ = K0_ ∧ o_ = E'_) ∨ (s_ ≠ K0_ ∧ O0_ s_ = some o_) := by
    intro s_ o_ e_
    have e_ : (if s_ = K0_ then some E'_ else O0_ s_) = some o_ := e_
    by_cases q9_ : s_ = K0_
    · rw [if_pos q9_] at e_
      exact Or.inl ⟨q9_, (Option.some.inj e_).symm⟩
    · rw [if_neg q9_] at e_
      exact Or.inr ⟨q9_, e_⟩
  have BN_ : beN b_ n_ T_ F_ I_ tp_ B_ N_ X_ Y_ S1_ z_ fr_ M0_ q2_ E2_ w'_ g'_ := beN_fr fr_ M0_ q2_ E2_ w'_ g'_ b15_ (fun j_ _ => ⟨congrFun f6_ j_, congrFun f9_ j_⟩) (fun j_ _ => ⟨congrFun f7_ j_, congrFun f8 j_⟩) (fun j_ _ => congrFun f4_ j_) (fun j_ hj_ => p3_ j_ (by omega)) (fun j_ _ => congrFun fa_ j_)
  have RB_ : rbt B_ I_ M0_ fr_ (A0_.1 M0_) E0_ S1_ := by
    rw [b5_.1]
    exact rbt_i b12_.2.2 ⟨by rw [b6_.1]; decide, by rw [b6_.1]; decide⟩ fa_ (fun s_ _ => rfl)
  refine ⟨(300 - q'_.2.2) * 3000 + (1301 - p0_) + w'_, by omega, fr_, M0_, f0_, A0_, c0_, p0_, ce0_, rest0, E0_, up1 O0_ K0_ (some E'_), q'_, q2_, E2_, O2_, w'_, g'_, x_, ⟨⟨p1_, p5_.trans b1_.1, fu_.trans h1_.2.2.1, ?_, ?_⟩, ⟨ff_.trans h2_.1, i_, p4_.trans b1_.2.2.1, b2_⟩, b3_, b4_, by omega, ?_, b8_, b9_, ?_, ?_, ?_, fg_ h12_, h13_, b13_, beN_be _ _ _ _ _ _ BN_, rfl⟩, BN_, RB_, hg_, fb_⟩
  · rw [f6_]; exact b1_.1
  · rw [f9_, b1_.2.2.2, b5_.1]; push_cast; rfl
  · rw [b5_.1]
    refine tst_us b7_ b5_.2.2.2 b6_.1 ?_
    rw [b6_.2, Int.toNat_natCast]
    intro o1_ ho1_ hs_
    exact (h6_.1.2 o1_ (by omega)).1 hs_
  · intro s_ hs_
    rw [b5_.1] at hs_
    show (if s_ = K0_ then some E'_ else O0_ s_) = none
    rw [if_neg (by omega)]
    exact b10_ s_ (by omega)
  · intro s_ o_ e_ o1_ ho1_
    rcases up_ s_ o_ e_ with ⟨u1_, u2_⟩ | ⟨u1_, u2_⟩
    · rw [u2_]; exact h7_ o1_ ho1_
    · exact b11_ s_ o_ u2_ o1_ ho1_
  · refine ⟨?_, fun ok_ => ⟨(h11_.2 ok_).1, (b12_.2.1 ok_).1, fun s_ o_ e_ t_ => ?_, fun v_ hv_ => by cases hv_⟩⟩
    rotate_left
    · rcases up_ s_ o_ e_ with ⟨u1_, u2_⟩ | ⟨u1_, u2_⟩
      · rw [u2_]; exact (h11_.2 ok_).2.1 t_
      · exact (b12_.2.1 ok_).2 s_ o_ u2_ t_
    intro ok_
    obtain ⟨v1_, v2_⟩ := b12_.1 ok_
    obtain ⟨v3_, -⟩ := h11_.1 ok_
    rw [b5_.1]
    refine ⟨fun s_ hs_ => by rw [f4_]; exact v1_ s_ hs_, fun s_ o_ hs_ e_ o1_ ho1_ => ?_⟩
    rcases up_ s_ o_ e_ with ⟨u1_, u2_⟩ | ⟨u1_, u2_⟩
    · rw [u1_, u2_]
      by_cases oB_ : o1_ < B_.1 M_
      · have l8_ := h7_ o1_ ho1_
        intro k9_ z9_ e9_
        have kl_ : k9_ < (E'_ o1_).length := by
          by_cases q9_ : k9_ < (E'_ o1_).length
          · exact q9_
          · rw [List.getElem?_eq_none (by omega)] at e9_
            cases e9_
        rw [p2_ o1_ k9_ oB_ (by omega)]
        exact v3_ o1_ ho1_ k9_ z9_ e9_
      · rw [h8_ o1_ (by omega)]
        intro k9_ z9_ e9_
        simp at e9_
    · have l8_ := b11_ s_ o_ u2_ o1_ ho1_
      exact rwv_cg (v2_ s_ o_ (by omega) u2_ o1_ ho1_) (fun k9_ hk9_ => p3_ _ (by omega))
end GN_
end
/-! 99.ztP -/
section
/-! next values and beginning: items; written by wip/p55/gen/vg -/

/-! next values and beginning: items -/
section MQ_
variable {b_ : Nat → Int} {n_ F_ I_ M_ : Nat} {A_ B_ : pA} {N_ : Nat → Nat} {X_ : Nat → gQ → gE → Option (gQ × gE)} {Y_ : Nat → gQ → gE → gN → gN}
variable {p_ : Nat} {rr_ : pT} {c_ kk_ : List Int} {q0_ q1_ : gQ} {E_ E1_ : gE} {O_ O1_ : gO} {V1_ : gV} {x0_ : gN}
theorem mq_in (hit_ : p_it b_ n_ A_ N_ M_ c_ p_ = some (.inr rr_)) (hkd_ : lx_kd b_ n_ p_ = 4) (hkk_ : rr_.2.1 = kk_ ++ c_) (hxr_ : a_ex rr_.1 B_ M_) : kk_ = [] ∧ B_.2.2.1 (40 * M_ + A_.1 M_) = 0 := by
  unfold p_it at hit_
  rw [if_pos hkd_] at hit_
  obtain ⟨q_, r1_, u_, y_, h1_, h2_, h3_, h4_, h5_⟩ := in_r (Option.some.inj hit_)
  subst h5_
  obtain ⟨x1_, x2_, x3_, x4_⟩ := te_ex hxr_
  refine ⟨?_, ?_⟩
  · have hkk_ : c_ = kk_ ++ c_ := hkk_
    have e_ := congrArg List.length hkk_
    rw [List.length_append] at e_
    exact List.eq_nil_of_length_eq_zero (by omega)
  · rcases x4_ with z_ | z_
    · exact z_
    · exact absurd z_.1 (by decide)
theorem mq_re (hit_ : p_it b_ n_ A_ N_ M_ c_ p_ = some (.inr rr_)) (hkd_ : lx_kd b_ n_ p_ = 7) (hkk_ : rr_.2.1 = kk_ ++ c_) : kk_ = [cw 13 (A_.1 M_ : Int) 0] := by
  unfold p_it at hit_
  rw [if_neg (by omega), if_neg (by omega), if_neg (by omega), if_pos hkd_] at hit_
  obtain ⟨q_, r1_, u_, z_, y_, h1_, h2_, h3_, h4_, h5_, h6_⟩ := re_r (Option.some.inj hit_)
  subst h6_
  have hkk_ : [cw 13 (A_.1 M_ : Int) 0] ++ c_ = kk_ ++ c_ := hkk_
  exact (List.append_cancel_right hkk_).symm
theorem mq_va (hn_ : n_ ≤ 1280) (hA_ : a_ok b_ n_ A_ M_) (hxx_ : a_ex A_ B_ M_) (hpn : p_ ≤ n_) (hit_ : p_it b_ n_ A_ N_ M_ c_ p_ = some (.inr rr_)) (hkd_ : lx_kd b_ n_ p_ = 5 ∨ lx_kd b_ n_ p_ = 6) (hB_ : a_ok b_ n_ B_ M_) (hkk_ : rr_.2.1 = kk_ ++ c_) (hxr_ : a_ex rr_.1 B_ M_) (hev_ : ev F_ I_ B_ X_ M_ (q0_, E_, O_, []) kk_ = some (q1_, E1_, O1_, V1_)) (hts_ : tst B_ I_ M_ (A_.1 M_) E_ O_) : ∃ uu_ f_ v_ : Nat, ∃ xr : pR, nxs b_ n_ 61 f_ p_ uu_ ∧ p_ad b_ n_ uu_ = .inr v_ ∧ p_ex b_ n_ false (p_pd b_ n_ A_ M_) [] v_ = .inr xr ∧ p_nd b_ n_ 59 xr.1 = .inr rr_.2.2 ∧ A_.1 M_ < B_.1 M_ ∧ rr_.1.1 M_ = A_.1 M_ + 1 ∧ (wpl kk_ ∧ B_.2.2.1 (40 * M_ + A_.1 M_) ≠ 3 ∧ B_.2.2.1 (40 * M_ + A_.1 M_) ≠ 4) ∧ ∀ (G_ : pGr) (v9_ : List Int), ev F_ I_ B_ X_ M_ (q0_, E_, O_, []) xr.2.2 = some ((G_, q0_.2), E_, O_, [v9_]) → h_tp xr.2.1 = (v9_.length : Int) → v9_.length ≤ 8 → q1_ = (G_, q0_.2) ∧ E1_ = up1 E_ (A_.1 M_) v9_ ∧ O1_ = O_ ∧ tst B_ I_ M_ (rr_.1.1 M_) E1_ O_ ∧ V1_ = [] := by
  obtain ⟨so_, hso_, hva_⟩ : ∃ so_ : Int, (so_ = 1 ∨ so_ = 2) ∧ p_va b_ n_ A_ M_ so_ c_ p_ = .inr rr_ := by
    unfold p_it at hit_
    rw [if_neg (by omega)] at hit_
    by_cases k5_ : lx_kd b_ n_ p_ = 5
    · rw [if_pos k5_] at hit_
      exact ⟨1, Or.inl rfl, Option.some.inj hit_⟩
    · rw [if_neg k5_, if_pos (by omega)] at hit_
      exact ⟨2, Or.inr rfl, Option.some.inj hit_⟩
  obtain ⟨q_, r1_, u_, v_, x_, y_, h1_, h2_, h3_, h4_, h5_, h6_, h7_, h8_⟩ := va_r hva_
  subst h8_
  obtain ⟨k_, e1_, e2_⟩ := ex_ac h5_
  have k0_ : kk_ = cw 12 (A_.1 M_ : Int) 0 :: k_ := by
    have hkk_ : cw 12 (A_.1 M_ : Int) 0 :: x_.2.2 = kk_ ++ c_ := hkk_
    rw [e2_, ← List.cons_append] at hkk_
    exact (List.append_cancel_right hkk_).symm
  subst k0_
  obtain ⟨n1_, n2_⟩ := nd_r h4_
  obtain ⟨a1_, a2_, a3_⟩ := p_nn_ok h2_
  obtain ⟨f1_, g1_⟩ := wi_nx (s_ := 61) (f_ := 0) h3_ (by decide) ⟨rfl, n1_⟩
  obtain ⟨x1_, x2_, x3_, x4_⟩ := te_ex hxr_
  have B40_ := (hB_.2 M_ (Nat.le_refl _)).1
  have x4_ : B_.2.2.1 (40 * M_ + A_.1 M_) = so_ := by rcases x4_ with z_ | z_; exact z_; omega
  have b1_ := p_ad_ok hpn (by omega) h1_
  have b2_ := p_ad_ok b1_.2.2.1 (by omega) a3_
  have b3_ := p_wi_ok b2_.2.2.1 b2_.2.2.2 h3_
  have b4_ := p_ad_ok b3_.2.1 (by omega) n2_
  have wk_ : wpl k_ := ex_pl (r_ := (x_.1, x_.2.1, k_)) hn_ hA_ hB_ hxx_ hts_.1 b4_.2.2.1 b4_.2.2.2 e1_
  refine ⟨u_.1, _, v_, (x_.1, x_.2.1, k_), nxs_s (by omega) (by omega) h1_ (nxs_s (by omega) (by omega) a3_ g1_), n2_, e1_, h7_, x1_, te_f.1, ⟨wpl_c (by unfold cw; omega) wk_, by omega, by omega⟩, fun G_ v9_ d1_ d2_ d3_ => ?_⟩
  have d1_ : ev F_ I_ B_ X_ M_ (q0_, E_, O_, []) k_ = some ((G_, q0_.2), E_, O_, [v9_]) := d1_
  have d2_ : h_tp x_.2.1 = (v9_.length : Int) := d2_
  rw [ev_c d1_] at hev_
  have w3_ := ew_i (by decide) (by omega) hev_
  rw [Int.toNat_natCast] at w3_
  have hO_ : O_ (A_.1 M_) = none := (hts_.2.2.1 (A_.1 M_) (Nat.le_refl _) x1_ (by omega)).2
  rw [st12 x1_ hO_ d3_] at w3_
  cases w3_
  refine ⟨rfl, rfl, rfl, ?_, rfl⟩
  show tst B_ I_ M_ ((a_te A_ M_ q_ so_ u_.2 0).1 M_) _ O_
  rw [te_f.1]
  exact tst_up hts_ x1_ (by omega) (by omega) (fun z_ => by omega)
theorem mq_ne (hn_ : n_ ≤ 1280) (hB_ : a_ok b_ n_ B_ M_) (hxx_ : a_ex A_ B_ M_) (hte_ : ten B_ M_ (A_.1 M_) E_ O_) (hpn : p_ ≤ n_) (hit_ : p_it b_ n_ A_ N_ M_ c_ p_ = some (.inr rr_)) (hkd_ : lx_kd b_ n_ p_ = 1) (hA_ : a_ok b_ n_ A_ M_) (hkk_ : rr_.2.1 = kk_ ++ c_) (hev_ : ev F_ I_ B_ X_ M_ (q0_, E_, O_, []) kk_ = some (q1_, E1_, O1_, V1_)) : ∃ s_ r1_ r2_ : Nat, ∃ xr : pR, p_fn b_ n_ A_ M_ p_ = (s_ : Int) ∧ p_ad b_ n_ p_ = .inr r1_ ∧ lx_kd b_ n_ r1_ = 256 ∧ p_ad b_ n_ r1_ = .inr r2_ ∧ p_ex b_ n_ false (p_pd b_ n_ A_ M_) [] r2_ = .inr xr ∧ p_nd b_ n_ 59 xr.1 = .inr rr_.2.2 ∧ rr_.1.1 M_ = A_.1 M_ ∧ (h_tp xr.2.1 = A_.2.2.2.1 (40 * M_ + s_) ∧ s_ < A_.1 M_) ∧ (kk_ = cw 14 (s_ : Int) 0 :: xr.2.2 ∧ wpl xr.2.2 ∧ (B_.2.2.1 (40 * M_ + s_) = 3 ∨ B_.2.2.1 (40 * M_ + s_) = 4)) ∧ ∀ (G_ : pGr) (v9_ : List Int), ev F_ I_ B_ X_ M_ (q0_, E_, O_, []) xr.2.2 = some ((G_, q0_.2), E_, O_, [v9_]) → q1_ = (G_, q0_.2) ∧ E1_ = E_ ∧ O1_ = O_ ∧ V1_ = [] := by
  unfold p_it at hit_
  rw [if_neg (by omega), if_neg (by omega), if_neg (by omega), if_neg (by omega), if_neg (by omega), if_pos hkd_] at hit_
  obtain ⟨s_, q_, r1_, x_, y_, h1_, h2_, h3_, h4_, h5_, h6_, h7_, h8_, h9_⟩ := ne_r (Option.some.inj hit_)
  subst h9_
  obtain ⟨k_, e1_, e2_⟩ := ex_ac h6_
  have k0_ : kk_ = cw 14 (s_ : Int) 0 :: k_ := by
    have hkk_ : cw 14 (s_ : Int) 0 :: x_.2.2 = kk_ ++ c_ := hkk_
    rw [e2_, ← List.cons_append] at hkk_
    exact (List.append_cancel_right hkk_).symm
  subst k0_
  obtain ⟨n1_, n2_⟩ := nd_r h5_
  have A40_ := (hA_.2 M_ (Nat.le_refl _)).1
  have b1_ := p_ad_ok hpn (by omega) h4_
  have b2_ := p_ad_ok b1_.2.2.1 (by omega) n2_
  have wk_ : wpl k_ := ex_pl (r_ := (x_.1, x_.2.1, k_)) hn_ hA_ hB_ hxx_ hte_ b2_.2.2.1 b2_.2.2.2 e1_
  have s3_ : B_.2.2.1 (40 * M_ + s_) = 3 ∨ B_.2.2.1 (40 * M_ + s_) = 4 := by
    rcases (hxx_.2.2 M_ s_ (Nat.le_refl _) h2_).2.2.2 with y9_ | y9_
    · exact Or.inl (y9_.symm.trans h3_)
    · exact Or.inr y9_.2
  refine ⟨s_, q_, r1_, (x_.1, x_.2.1, k_), h1_, h4_, n1_, n2_, e1_, h8_, rfl, ⟨h7_, h2_⟩, ⟨rfl, wk_, s3_⟩, fun G_ v9_ d1_ => ?_⟩
  have d1_ : ev F_ I_ B_ X_ M_ (q0_, E_, O_, []) k_ = some ((G_, q0_.2), E_, O_, [v9_]) := d1_
  rw [ev_c d1_] at hev_
  have w3_ := ew_i (by decide) (by omega) hev_
  exact m_st14 w3_
theorem mq_us {d_ p1_ p2_ p3_ p4_ pe_ K_ : Nat} {l_ : List (pR × Nat)} (hn_ : n_ ≤ 1280) (hA_ : a_ok b_ n_ A_ M_) (hB_ : a_ok b_ n_ B_ M_) (hxx_ : a_ex A_ B_ M_) (hte_ : ten B_ M_ (A_.1 M_) E_ O_) (hpn : p_ ≤ n_) (ha1_ : p_ad b_ n_ p_ = .inr p1_) (hk_ : lx_kd b_ n_ p_ ≠ 0 ∧ lx_kd b_ n_ p1_ ≠ 0 ∧ lx_kd b_ n_ p2_ ≠ 0) (ha2_ : p_ad b_ n_ p1_ = .inr p2_) (ha3_ : p_ad b_ n_ p2_ = .inr p3_) (h40_ : p_nd b_ n_ 40 p3_ = .inr p4_) (hu_ : uch b_ n_ A_ M_ d_ l_ 0 p4_ pe_) : wpl (acd K_ l_ [cw 15 (K_ : Int) 0]) := by
  have b1_ := p_ad_ok hpn hk_.1 ha1_
  have b2_ := p_ad_ok b1_.2.2.1 hk_.2.1 ha2_
  have b3_ := p_ad_ok b2_.2.2.1 hk_.2.2 ha3_
  have b4_ := p_nd_ok (by decide) b3_.2.2.1 h40_
  have w15_ : wpl [cw 15 (K_ : Int) 0] := wpl_c (by unfold cw; omega) wpl_n
  rcases hu_ with ⟨h1_, -⟩ | h1_
  · rw [h1_]
    exact w15_
  · exact ach_pl hn_ hA_ hB_ hxx_ hte_ l_ 0 p4_ pe_ _ h1_ b4_.2.2.1 b4_.2.2.2 w15_
theorem nx_re (hkk_ : kk_ = [cw 13 (A_.1 M_ : Int) 0]) (hB_ : B_.1 M_ ≤ 40) (hA_ : A_.1 M_ < B_.1 M_) (hev_ : ev F_ I_ B_ X_ M_ (q0_, E_, O_, []) kk_ = some (q1_, E1_, O1_, V1_)) : ncd F_ I_ B_ X_ Y_ M_ kk_.reverse (q0_, E_, O_, []) x0_ = (nho I_ q0_.2.1 (B_.2.2.2.1 (40 * M_ + A_.1 M_)).toNat x0_.1, bho (B_.2.2.2.2 (40 * M_ + A_.1 M_)) q0_.2.1 (B_.2.2.2.1 (40 * M_ + A_.1 M_)).toNat x0_.2) := by
  subst hkk_
  obtain ⟨s_, w1_, w2_⟩ := ev_cw hev_
  rw [ev_n] at w1_
  cases w1_
  obtain ⟨e1_, e2_, e3_⟩ := cw_d (k_ := 13) (a_ := (A_.1 M_ : Int)) (d_ := 0) (by omega) (by omega)
  have n1_ : nw I_ B_ Y_ M_ (cw 13 (A_.1 M_ : Int) 0) (q0_, E_, O_, []) x0_ = nst I_ B_ M_ 13 (A_.1 M_) (q0_, E_, O_, []) x0_ := by
    rw [nw_s (by omega) (by omega), e1_, e2_, Int.toNat_natCast]
  show ncd F_ I_ B_ X_ Y_ M_ [cw 13 (A_.1 M_ : Int) 0] (q0_, E_, O_, []) x0_ = _
  rw [ncd_c w2_]
  refine n1_.trans ?_
  exact nst_h
theorem nx_ne {s_ r_ : Nat} {k_ : List Int} {G_ : pGr} {v9_ y_ : List Int} (hkk_ : kk_ = cw 14 (s_ : Int) 0 :: k_) (hw_ : wpl k_) (hs_ : s_ < 40) (hk_ : ev F_ I_ B_ X_ M_ (q0_, E_, O_, []) k_ = some ((G_, q0_.2), E_, O_, [v9_])) (hE_ : E_ s_ = 2 * ((1 + I_ + r_ : Nat) : Int) :: y_) (hev_ : ev F_ I_ B_ X_ M_ (q0_, E_, O_, []) kk_ = some (q1_, E1_, O1_, V1_)) : ncd F_ I_ B_ X_ Y_ M_ kk_.reverse (q0_, E_, O_, []) x0_ = (nnx r_ v9_ x0_.1, x0_.2) := by
  subst hkk_
  rw [ev_c hk_] at hev_
  obtain ⟨e1_, e2_, e3_⟩ := cw_d (k_ := 14) (a_ := (s_ : Int)) (d_ := 0) (by omega) (by omega)
  have c8_ : ec F_ I_ B_ X_ M_ k_.reverse (q0_, E_, O_, []) = some ((G_, q0_.2), E_, O_, [v9_]) := hk_
  rw [List.reverse_cons, ncd_ap k_.reverse _ _ c8_, ncd_pl k_.reverse _ _ (wpl_r hw_), ncd_c hev_]
  have n1_ : nw I_ B_ Y_ M_ (cw 14 (s_ : Int) 0) ((G_, q0_.2), E_, O_, [v9_]) x0_ = nst I_ B_ M_ 14 s_ ((G_, q0_.2), E_, O_, [v9_]) x0_ := by
    rw [nw_s (by omega) (by omega), e1_, e2_, Int.toNat_natCast]
  have n2_ : nst I_ B_ M_ 14 s_ ((G_, q0_.2), E_, O_, [v9_]) x0_ = (nnx (2 * ((1 + I_ + r_ : Nat) : Int) / 2 - 1 - I_).toNat v9_ x0_.1, x0_.2) := nst_n (l_ := []) (y2_ := y_) rfl hE_
  rw [show (2 * ((1 + I_ + r_ : Nat) : Int) / 2 - 1 - I_).toNat = r_ by omega] at n2_
  exact n1_.trans n2_
end MQ_
/-! M_.makeItem -/
def vw_348n : sx_Wl := ([(13, 9), (13, 10), (13, 11), (13, 28), (13, 29), (13, 32), (13, 33), (13, 34), (13, 37), (13, 52), (13, 53)], [136, 137, 138, 139, 140, 141, 142, 143, 144, 146, 147, 148, 149, 150, 151, 152], [])
def vq_348n (b_ : Nat → Int) (n_ : Nat) (T_ : Nat) (F_ : Nat) (I_ : Nat) (A_ : pA) (B_ : pA) (X_ : Nat → gQ → gE → Option (gQ × gE)) (M_ : Nat) (fr_ : Nat) (q0_ : gQ) (E_ : gE) (O_ : gO) (p_ : Nat) (N_ : Nat → Nat) (c_ : List Int) (kk_ : List Int) (rr_ : pT) (q1_ : gQ) (E1_ : gE) (O1_ : gO) (V1_ : gV) (Y_ : Nat → gQ → gE → gN → gN) (x0_ : gN) (S0_ : sm_S) (u_ : Option sm_V) (S1_ : sm_S) : Prop := u_ = none ∧ gi S1_ ∧ ai_fr (sx_W vw_348n) S0_ S1_ ∧ (((imq (lx_kd b_ n_ p_ ≠ 8) (pN b_ n_ T_ F_ I_ B_ M_ fr_ (rr_.1.1 M_) q0_.2.2 q1_ E1_ O_ O1_ V1_ rr_.2.2 S0_ S1_) ∧ imq (lx_kd b_ n_ p_ = 8) (p8 b_ n_ T_ F_ I_ B_ X_ M_ fr_ (A_.1 M_) q0_ E_ O_ kk_ (rr_.1.1 M_) rr_.2.2 S0_ S1_)) ∧ imq (S1_.1 13 0 37 - S1_.1 13 0 38 ≤ 1000) (rnS S1_)) ∧ imq (lx_kd b_ n_ p_ ≠ 8) (pNx F_ I_ B_ X_ Y_ M_ fr_ (rr_.1.1 M_) kk_ q0_ E_ O_ x0_ q1_ E1_ S0_ S1_) ∧ imq (lx_kd b_ n_ p_ = 8) (p8x kk_ q0_ x0_ S0_ S1_))
set_option maxHeartbeats 2000000 in
theorem vc_348n {sc_ : Nat × (Nat → Int)} (b_ : Nat → Int) (n_ : Nat) (T_ : Nat) (F_ : Nat) (I_ : Nat) (A_ : pA) (B_ : pA) (X_ : Nat → gQ → gE → Option (gQ × gE)) (M_ : Nat) (fr_ : Nat) (q0_ : gQ) (E_ : gE) (O_ : gO) (p_ : Nat) (N_ : Nat → Nat) (c_ : List Int) (kk_ : List Int) (rr_ : pT) (q1_ : gQ) (E1_ : gE) (O1_ : gO) (V1_ : gV) (Y_ : Nat → gQ → gE → gN → gN) (x0_ : gN) (S0_ : sm_S) (hI_ : gi S0_) (ht_ : rtab b_ n_ T_ S0_) (hx_ : rg b_ n_ T_ (.inr p_) S0_) (hm1_ : (S0_.1 13 0 27) = 1) (hen_ : r_e1 b_ n_ T_ B_ M_ fr_ S0_) (hA_ : a_ok b_ n_ A_ M_) (hxx_ : a_ex A_ B_ M_) (hX_ : ∀ d_ q_ e_ z_, X_ d_ q_ e_ = some z_ → q_.1.length ≤ z_.1.1.length) (hte_ : ten B_ M_ (A_.1 M_) E_ O_) (hev_ : rev fr_ (A_.1 M_) E_ O_ (q0_.1.length ≤ 1001) S0_) (hg_ : rgl F_ q0_.1 S0_) (hts_ : tst B_ I_ M_ (A_.1 M_) E_ O_) (hit_ : p_it b_ n_ A_ N_ M_ c_ p_ = some (.inr rr_)) (hkk_ : rr_.2.1 = kk_ ++ c_) (hxr_ : a_ex rr_.1 B_ M_) (hec_ : ev F_ I_ B_ X_ M_ (q0_, E_, O_, []) kk_ = some (q1_, E1_, O1_, V1_)) (hEB_ : ∀ s_, B_.1 M_ ≤ s_ → E_ s_ = []) (hE8_ : ∀ s_, s_ < 40 → (E_ s_).length ≤ 8) (hON_ : ∀ s_, A_.1 M_ ≤ s_ → O_ s_ = none) (hR_ : (S0_.1 13 0 53) = (q0_.2.1 : Int)) (hms_ : 1 ≤ (S0_.1 13 0 12) ∧ (S0_.1 13 0 12) ≤ 16) (hI1_ : S0_.2.2.1 132 0 ((S0_.1 13 0 12) - 1).toNat = (I_ : Int) ∧ I_ ≤ 12) (htd_ : S0_.2.2.1 149 0 fr_ = (A_.1 M_ : Int)) (hfm_ : fr_ + M_ ≤ 15) (hrn_ : rnS S0_) (hlw_ : lwS F_ (q0_, E_, O_, [])) (hXw_ : lwX F_ I_ X_) (hRF_ : 1 + I_ + q1_.2.1 ≤ F_) (hpn : p_ ≤ n_) (hrb_ : rbt B_ I_ M_ fr_ (A_.1 M_) E_ S0_) (hx0_ : rxn q0_.2.1 x0_ S0_) : sm_T (mt_P sc_) 10 348 (0, [some (.inr (.inr (some (13, 0)))), none], [], S0_) (fun ro9_ => ∃ u_ S1_, ro9_ = (.inl u_, S1_, 0) ∧ vq_348n b_ n_ T_ F_ I_ A_ B_ X_ M_ fr_ q0_ E_ O_ p_ N_ c_ kk_ rr_ q1_ E1_ O1_ V1_ Y_ x0_ S0_ u_ S1_) := by
  have hF_ : ai_fr (sx_W vw_348n) S0_ S0_ := ai_fr_rf
  obtain ⟨i_, hi_⟩ := id hx_.2
  have ra_ := rp_at ht_ hi_.2
  have rk_ := r_st_3 (lx_kd_r hi_.2.2.2.1)
  have hT_ := ht_.2.1
  have hi9_ := hi_.2.1
  have e4_ : (S0_.1 13 0 9).toNat = i_ := by omega
  have fr1_ := hen_.2.2.1.1
  have frb_ := hen_.2.2.1.2
  have ex9_ : (S0_.1 13 0 29).toNat = fr_ := by omega
  have M15_ := hA_.1
  have A40_ := (hA_.2 M_ (Nat.le_refl _)).1
  have B40_ := (hen_.1.2 M_ (Nat.le_refl _)).1
  have t2_ : ∀ x_ y_, rtab b_ n_ T_ (sm_aI S0_ 149 0 x_ y_) := fun x_ y_ => rtab_fr (w_ := ([], [149], [])) ht_ (ai_fr_aI rfl) rfl rfl rfl rfl rfl
  have g2_ : ∀ x_ y_, rg b_ n_ T_ (.inr p_) (sm_aI S0_ 149 0 x_ y_) := fun x_ y_ => rg_fr (w_ := ([], [149], [])) hx_ (ai_fr_aI rfl) rfl rfl rfl
  have en2_ : ∀ x_ y_, r_e1 b_ n_ T_ B_ M_ fr_ (sm_aI S0_ 149 0 x_ y_) := fun x_ y_ => ⟨hen_.1, hen_.2.1, hen_.2.2.1, fun m_ hm_ => re1_fr (w_ := ([], [149], [])) (hen_.2.2.2 m_ hm_) (ai_fr_aI rfl) rfl rfl rfl rfl rfl rfl⟩
  have ev2_ : ∀ x_ y_, rev fr_ (A_.1 M_) E_ O_ (q0_.1.length ≤ 1001) (sm_aI S0_ 149 0 x_ y_) := fun x_ y_ => rev_fr (w_ := ([], [149], [])) hev_ (ai_fr_aI rfl) rfl rfl
  have rn2_ : ∀ x_ y_, rnS (sm_aI S0_ 149 0 x_ y_) := fun x_ y_ => rnS_fr (w_ := ([], [149], [])) hrn_ (ai_fr_aI rfl) rfl rfl rfl rfl
  have xn2_ : ∀ x_ y_, rxn q0_.2.1 x0_ (sm_aI S0_ 149 0 x_ y_) := fun x_ y_ => rxn_fr (w_ := ([], [149], [])) hx0_ (ai_fr_aI rfl)
  have gg2_ : ∀ x_ y_, rgl F_ q0_.1 (sm_aI S0_ 149 0 x_ y_) := fun x_ y_ => rgl_fr (w_ := ([], [149], [])) hg_ (ai_fr_aI rfl) rfl rfl rfl rfl rfl rfl
  have bx1_ : 0 ≤ S0_.1 13 0 9 ∧ S0_.1 13 0 9 ≤ 1280 := hI_.1 13 0 9 rfl
  refine sm_T_go 4 (c1 := (8, [some (.inr (.inr (some (13, 0)))), none], [.inl (S0_.1 13 0 9), .inr (.inr (some (119, 0)))], S0_)) rfl ?_
  refine sm_T_bald (n := 65537) rfl rfl (by omega) (by omega) ?_
  have bx2_ : (-128) ≤ S0_.2.2.1 119 0 (S0_.1 13 0 9).toNat ∧ S0_.2.2.1 119 0 (S0_.1 13 0 9).toNat ≤ 127 := hI_.2 119 0 _
  refine sm_T_go 1 (c1 := (10, [some (.inr (.inr (some (13, 0)))), none], [.inl 1, .inl (S0_.2.2.1 119 0 (S0_.1 13 0 9).toNat)], S0_)) rfl ?_
  refine sm_T_br (a := 1) (z := 8) rfl (fun cx3_ => ?_) (fun cx3_ => ?_)
  · have cx3_ : (S0_.2.2.1 119 0 (S0_.1 13 0 9).toNat) ≠ 1 := of_decide_eq_true cx3_
    have k1_ : lx_kd b_ n_ p_ ≠ 1 := fun z_ => by have z2_ := rk_.2.1.mpr z_; rw [← ra_.1] at z2_; rw [e4_] at cx3_; omega
    have K1_ := it_K hit_ k1_
    have K2_ := hxr_.1
    have s146_ : ∀ x_ y_ t_, t_ ≠ 149 → (sm_aI S0_ 149 0 x_ y_).2.2.1 t_ 0 = S0_.2.2.1 t_ 0 := fun x_ y_ t_ ht9_ => funext fun j_ => rd_ne ht9_
    have s149_ : ∀ j_, (sm_aI S0_ 149 0 (S0_.1 13 0 29).toNat (S0_.2.2.1 149 0 (S0_.1 13 0 29).toNat + 1)).2.2.1 149 0 j_ = if j_ = fr_ then (A_.1 M_ : Int) + 1 else S0_.2.2.1 149 0 j_ := fun j_ => by rw [rd_eq, ex9_, htd_]
    have t149_ : S0_.2.2.1 149 0 (S0_.1 13 0 29).toNat = (A_.1 M_ : Int) := by rw [ex9_]; exact htd_
    have bx4_ : 0 ≤ S0_.1 13 0 29 ∧ S0_.1 13 0 29 ≤ 16 := hI_.1 13 0 29 rfl
    refine sm_T_go 4 (c1 := (26, [some (.inr (.inr (some (13, 0)))), none], [.inl (S0_.1 13 0 29), .inr (.inr (some (149, 0)))], S0_)) rfl ?_
    refine sm_T_iald (n := 16) rfl rfl (by omega) (by omega) ?_
    have bx5_ : 0 ≤ S0_.2.2.1 149 0 (S0_.1 13 0 29).toNat ∧ S0_.2.2.1 149 0 (S0_.1 13 0 29).toNat ≤ 40 := hI_.2 149 0 _
    refine sm_T_go 6 (c1 := (37, [some (.inr (.inr (some (13, 0)))), some (.inl (S0_.2.2.1 149 0 (S0_.1 13 0 29).toNat))], [.inl (S0_.1 13 0 29), .inr (.inr (some (149, 0))), .inl (S0_.1 13 0 29), .inr (.inr (some (149, 0)))], S0_)) rfl ?_
    refine sm_T_iald (n := 16) rfl rfl (by omega) (by omega) ?_
    refine sm_T_go 1 (c1 := (39, [some (.inr (.inr (some (13, 0)))), some (.inl (S0_.2.2.1 149 0 (S0_.1 13 0 29).toNat))], [.inl 1, .inl (S0_.2.2.1 149 0 (S0_.1 13 0 29).toNat), .inl (S0_.1 13 0 29), .inr (.inr (some (149, 0)))], S0_)) rfl ?_
    refine sm_T_bin (w := (S0_.2.2.1 149 0 (S0_.1 13 0 29).toNat) + 1) rfl (bi_add (by omega) (by omega) (by omega)) ?_
    refine sm_T_iast (n := 16) rfl rfl (by omega) (by omega) ?_
    have hIx6_ : gi (sm_aI S0_ 149 0 (S0_.1 13 0 29).toNat ((S0_.2.2.1 149 0 (S0_.1 13 0 29).toNat) + 1)) := gi_aI hI_ (show 0 ≤ (S0_.2.2.1 149 0 (S0_.1 13 0 29).toNat) + 1 ∧ (S0_.2.2.1 149 0 (S0_.1 13 0 29).toNat) + 1 ≤ 40 from ⟨by omega, by omega⟩)
    have hFx7_ : ai_fr (sx_W vw_348n) S0_ (sm_aI S0_ 149 0 (S0_.1 13 0 29).toNat ((S0_.2.2.1 149 0 (S0_.1 13 0 29).toNat) + 1)) := ai_fr_tr hF_ (ai_fr_aI rfl)
    refine sm_T_go 2 (c1 := (43, [some (.inr (.inr (some (13, 0)))), some (.inl (S0_.2.2.1 149 0 (S0_.1 13 0 29).toNat))], [.inl 2, .inr (.inr (some (13, 0)))], sm_aI S0_ 149 0 (S0_.1 13 0 29).toNat ((S0_.2.2.1 149 0 (S0_.1 13 0 29).toNat) + 1))) rfl ?_
    refine sm_T_cal (d1 := 0) (Q1 := vq_296 2 b_ n_ T_ (.inr p_) (sm_aI S0_ 149 0 (S0_.1 13 0 29).toNat ((S0_.2.2.1 149 0 (S0_.1 13 0 29).toNat) + 1))) rfl rfl (by decide) (vc_296 2 b_ n_ T_ (.inr p_) (sm_aI S0_ 149 0 (S0_.1 13 0 29).toNat ((S0_.2.2.1 149 0 (S0_.1 13 0 29).toNat) + 1)) hIx6_ (by exact t2_ _ _) (by exact g2_ _ _) (by decide)) (fun u_ Sx8_ px11_ => ?_)
    obtain ⟨rfl, vx13_, rfl, px11_⟩ := px11_
    have e43_ := px11_.2 p_ rfl
    have r43_ := px11_.1
    refine sm_T_b0 (a := 0) (z := 12) rfl (fun cx14_ => ?_) (fun cx14_ => ?_)
    · have cx14_ : vx13_ = 0 := of_decide_eq_true cx14_
      have n4_ : lx_kd b_ n_ p_ ≠ 4 := fun z_ => by have := e43_.mpr z_; omega
      refine sm_T_go 2 (c1 := (60, [some (.inr (.inr (some (13, 0)))), some (.inl (S0_.2.2.1 149 0 (S0_.1 13 0 29).toNat))], [.inl 5, .inr (.inr (some (13, 0)))], sm_aI S0_ 149 0 (S0_.1 13 0 29).toNat ((S0_.2.2.1 149 0 (S0_.1 13 0 29).toNat) + 1))) rfl ?_
      refine sm_T_cal (d1 := 0) (Q1 := vq_296 5 b_ n_ T_ (.inr p_) (sm_aI S0_ 149 0 (S0_.1 13 0 29).toNat ((S0_.2.2.1 149 0 (S0_.1 13 0 29).toNat) + 1))) rfl rfl (by decide) (vc_296 5 b_ n_ T_ (.inr p_) (sm_aI S0_ 149 0 (S0_.1 13 0 29).toNat ((S0_.2.2.1 149 0 (S0_.1 13 0 29).toNat) + 1)) hIx6_ (by exact t2_ _ _) (by exact g2_ _ _) (by decide)) (fun u_ Sx15_ px18_ => ?_)
      obtain ⟨rfl, vx20_, rfl, px18_⟩ := px18_
      have e60_ := px18_.2 p_ rfl
      have r60_ := px18_.1
      refine sm_T_b0 (a := 0) (z := 11) rfl (fun cx21_ => ?_) (fun cx21_ => ?_)
      · have cx21_ : vx20_ = 0 := of_decide_eq_true cx21_
        have n7_ : lx_kd b_ n_ p_ ≠ 7 := fun z_ => by have := e60_.mpr z_; omega
        refine sm_T_go 2 (c1 := (77, [some (.inr (.inr (some (13, 0)))), some (.inl (S0_.2.2.1 149 0 (S0_.1 13 0 29).toNat))], [.inl 6, .inr (.inr (some (13, 0)))], sm_aI S0_ 149 0 (S0_.1 13 0 29).toNat ((S0_.2.2.1 149 0 (S0_.1 13 0 29).toNat) + 1))) rfl ?_
        refine sm_T_cal (d1 := 0) (Q1 := vq_296 6 b_ n_ T_ (.inr p_) (sm_aI S0_ 149 0 (S0_.1 13 0 29).toNat ((S0_.2.2.1 149 0 (S0_.1 13 0 29).toNat) + 1))) rfl rfl (by decide) (vc_296 6 b_ n_ T_ (.inr p_) (sm_aI S0_ 149 0 (S0_.1 13 0 29).toNat ((S0_.2.2.1 149 0 (S0_.1 13 0 29).toNat) + 1)) hIx6_ (by exact t2_ _ _) (by exact g2_ _ _) (by decide)) (fun u_ Sx22_ px25_ => ?_)
        obtain ⟨rfl, vx27_, rfl, px25_⟩ := px25_
        have e77_ := px25_.2 p_ rfl
        have r77_ := px25_.1
        refine sm_T_b0 (a := 0) (z := 11) rfl (fun cx28_ => ?_) (fun cx28_ => ?_)
        · have cx28_ : vx27_ = 0 := of_decide_eq_true cx28_
          have n8_ : lx_kd b_ n_ p_ ≠ 8 := fun z_ => by have := e77_.mpr z_; omega
          have k56_ : lx_kd b_ n_ p_ = 5 ∨ lx_kd b_ n_ p_ = 6 := by by_cases z5_ : lx_kd b_ n_ p_ = 5; exact Or.inl z5_; (by_cases z6_ : lx_kd b_ n_ p_ = 6; exact Or.inr z6_; (exfalso; have q9_ := hit_; unfold p_it at q9_; rw [if_neg n4_, if_neg z5_, if_neg z6_, if_neg n7_, if_neg n8_, if_neg k1_] at q9_; cases q9_))
          obtain ⟨uu_, f_, v_, xr, w1_, w2_, w3_, w4_, w5_, w6_, wq_, w7_⟩ := mq_va ht_.1 hA_ hxx_ hpn hit_ k56_ hen_.1 hkk_ hxr_ hec_ hts_
          refine sm_T_go 2 (c1 := (94, [some (.inr (.inr (some (13, 0)))), some (.inl (S0_.2.2.1 149 0 (S0_.1 13 0 29).toNat))], [.inl 61, .inr (.inr (some (13, 0)))], sm_aI S0_ 149 0 (S0_.1 13 0 29).toNat ((S0_.2.2.1 149 0 (S0_.1 13 0 29).toNat) + 1))) rfl ?_
          refine sm_T_cal (d1 := 1) (Q1 := vq_343 61 b_ n_ T_ p_ uu_ f_ v_ (sm_aI S0_ 149 0 (S0_.1 13 0 29).toNat ((S0_.2.2.1 149 0 (S0_.1 13 0 29).toNat) + 1))) rfl rfl (by decide) (vc_343 61 b_ n_ T_ p_ uu_ f_ v_ (sm_aI S0_ 149 0 (S0_.1 13 0 29).toNat ((S0_.2.2.1 149 0 (S0_.1 13 0 29).toNat) + 1)) hIx6_ (by exact t2_ _ _) (by exact g2_ _ _) (by exact w1_) (by exact w2_) (by decide)) (fun u_ Sx29_ px32_ => ?_)
          obtain ⟨rfl, hIx30_, hFx31_, px32_⟩ := px32_
          have hFx33_ : ai_fr (sx_W vw_348n) S0_ Sx29_ := ai_fr_tr hFx7_ (fr_le hFx31_ rfl)
          have g94_ := px32_
          have t94_ := rtab_fr (t2_ _ _) hFx31_ rfl rfl rfl rfl rfl
          have e94_ : r_e1 b_ n_ T_ B_ M_ fr_ Sx29_ := ⟨hen_.1, (hFx31_.1 13 0 28 rfl).trans hen_.2.1, ⟨(hFx31_.1 13 0 29 rfl).trans hen_.2.2.1.1, hen_.2.2.1.2⟩, fun m_ hm_ => re1_fr ((en2_ _ _).2.2.2 m_ hm_) hFx31_ rfl rfl rfl rfl rfl rfl⟩
          have v94_ := rev_fr (ev2_ _ _) hFx31_ rfl rfl
          have G94_ := rgl_fr (gg2_ _ _) hFx31_ rfl rfl rfl rfl rfl rfl
          have m94_ := (hFx31_.1 13 0 27 rfl).trans hm1_
          have u94_ := (hFx31_.1 13 0 53 rfl).trans hR_
          have x94_ := rxn_fr (xn2_ _ _) hFx31_
          have c94_ : Sx29_.1 13 0 52 = S0_.1 13 0 52 ∧ Sx29_.1 13 0 53 = S0_.1 13 0 53 := ⟨hFx31_.1 13 0 52 rfl, hFx31_.1 13 0 53 rfl⟩
          have i94_ : Sx29_.1 13 0 28 = S0_.1 13 0 28 ∧ Sx29_.1 13 0 29 = S0_.1 13 0 29 := ⟨hFx31_.1 13 0 28 rfl, hFx31_.1 13 0 29 rfl⟩
          have j94_ := fun t_ (q9_ : (sx_W vw_343).2.1 t_ = false) (q8_ : t_ ≠ 149) => (fr_arr (t := t_) (i := 0) hFx31_ q9_).trans (s146_ _ _ t_ q8_)
          have l94_ : ∀ j_, Sx29_.2.2.1 149 0 j_ = if j_ = fr_ then (A_.1 M_ : Int) + 1 else S0_.2.2.1 149 0 j_ := fun j_ => (congrFun (fr_arr (t := 149) (i := 0) hFx31_ rfl) j_).trans (s149_ j_)
          refine sm_T_go 1 (c1 := (98, [some (.inr (.inr (some (13, 0)))), some (.inl (S0_.2.2.1 149 0 (S0_.1 13 0 29).toNat))], [.inr (.inr (some (13, 0)))], Sx29_)) rfl ?_
          refine sm_T_cal (d1 := 8) (Q1 := vq_321g b_ n_ T_ F_ I_ B_ X_ M_ (q0_, E_, O_, []) (p_pd b_ n_ A_ M_) (A_.1 M_) fr_ v_ xr Sx29_) rfl rfl (by decide) (vc_321g b_ n_ T_ F_ I_ B_ X_ M_ (q0_, E_, O_, []) (p_pd b_ n_ A_ M_) (A_.1 M_) fr_ v_ xr Sx29_ hIx30_ (by exact t94_) (by exact pd_ok hA_) (by (intro p9_ r9_ h9_; exact pd_ex hA_ hxx_ h9_)) (by exact hX_) (by exact e94_) (by exact hte_) (by exact v94_) (by exact g94_) (by exact m94_) (by exact ⟨rfl, G94_⟩) (by exact w3_)) (fun u_ Sx34_ px37_ => ?_)
          obtain ⟨rfl, hIx35_, hFx36_, px37_⟩ := px37_
          have hFx38_ : ai_fr (sx_W vw_348n) S0_ Sx34_ := ai_fr_tr hFx33_ (fr_le hFx36_ rfl)
          obtain ⟨g98_, G1_, v1_, x1_, x2_, x3_, x4_, x5_, x6_⟩ := px37_
          obtain ⟨y1_, y2_, y3_, y4_, y5_⟩ := w7_ G1_ v1_ x1_ x2_ x3_.2
          have gl_ : q0_.1.length ≤ G1_.length := ev_le hX_ x1_
          have F98_ := hFx36_
          have x98_ := rxn_fr x94_ hFx36_
          have t98_ := rtab_fr t94_ hFx36_ rfl rfl rfl rfl rfl
          refine sm_T_go 2 (c1 := (103, [some (.inr (.inr (some (13, 0)))), some (.inl (S0_.2.2.1 149 0 (S0_.1 13 0 29).toNat))], [.inl (S0_.2.2.1 149 0 (S0_.1 13 0 29).toNat), .inr (.inr (some (13, 0)))], Sx34_)) rfl ?_
          refine sm_T_cal (d1 := 0) (Q1 := vq_342 (S0_.2.2.1 149 0 (S0_.1 13 0 29).toNat) fr_ Sx34_) rfl rfl (by decide) (vc_342 (S0_.2.2.1 149 0 (S0_.1 13 0 29).toNat) fr_ Sx34_ hIx35_ (by exact ⟨(F98_.1 13 0 29 rfl).trans e94_.2.2.1.1, frb_⟩) (by omega)) (fun u_ Sx39_ px42_ => ?_)
          obtain ⟨rfl, hIx40_, hFx41_, px42_⟩ := px42_
          have hFx43_ : ai_fr (sx_W vw_348n) S0_ Sx39_ := ai_fr_tr hFx38_ (fr_le hFx41_ rfl)
          obtain ⟨r103_, l103_⟩ := px42_
          have nt_ : (S0_.2.2.1 149 0 (S0_.1 13 0 29).toNat).toNat = A_.1 M_ := by omega
          rw [nt_] at r103_ l103_
          have F103_ := hFx41_
          have x103_ := rxn_fr x98_ hFx41_
          have t103_ := rtab_fr t98_ hFx41_ rfl rfl rfl rfl rfl
          have g103_ := rg_fr g98_ hFx41_ rfl rfl rfl
          refine sm_T_go 2 (c1 := (109, [some (.inr (.inr (some (13, 0)))), some (.inl (S0_.2.2.1 149 0 (S0_.1 13 0 29).toNat))], [.inl 59, .inr (.inr (some (13, 0)))], Sx39_)) rfl ?_
          refine sm_T_cal (d1 := 3) (Q1 := vq_300 59 b_ n_ T_ (.inr xr.1) Sx39_) rfl rfl (by decide) (vc_300 59 b_ n_ T_ (.inr xr.1) Sx39_ hIx40_ (by exact t103_) (by exact g103_) (by decide)) (fun u_ Sx44_ px47_ => ?_)
          obtain ⟨rfl, hIx45_, hFx46_, px47_⟩ := px47_
          have hFx48_ : ai_fr (sx_W vw_348n) S0_ Sx44_ := ai_fr_tr hFx43_ (fr_le hFx46_ rfl)
          have g109_ := px47_
          have QQ_ : imq (Sx44_.1 13 0 37 - Sx44_.1 13 0 38 ≤ 1000) (rnS Sx44_) := by (intro q9_; have GG_ := rgl_fr (rgl_fr x5_ F103_ rfl rfl rfl rfl rfl rfl) hFx46_ rfl rfl rfl rfl rfl rfl; have l9_ : G1_.length ≤ 1000 := (rgl_b GG_).2.2.2.2.mp q9_; have n9_ := rgl_n GG_ (by omega); have m9_ := rgl_n hg_ (by omega); exact rnS_up hrn_ ((hFx46_.1 13 0 52 rfl).trans ((F103_.1 13 0 52 rfl).trans ((F98_.1 13 0 52 rfl).trans c94_.1))) ((hFx46_.1 13 0 53 rfl).trans ((F103_.1 13 0 53 rfl).trans ((F98_.1 13 0 53 rfl).trans c94_.2))) ((fr_arr hFx46_ rfl).trans ((fr_arr F103_ rfl).trans ((fr_arr F98_ rfl).trans (j94_ 151 rfl (by decide))))) (by omega))
          rw [pb_r rfl, w4_] at g109_
          have a109_ : Sx44_.2.2.1 144 0 = _ := fr_arr hFx46_ rfl
          have rw9_ : G1_.length ≤ 1001 → rwv (Sx44_.2.2.1 144 0) (8 * (40 * fr_ + A_.1 M_)) v1_ := fun z_ k9_ z9_ e9_ => by (have kl_ : k9_ < v1_.length := by by_cases q_ : k9_ < v1_.length; exact q_; (rw [List.getElem?_eq_none (by omega)] at e9_; cases e9_)); (have x8_ := x3_.2); (have q8_ := x6_ z_ k9_ z9_ e9_); rw [Nat.zero_add] at q8_; rw [a109_, r103_ k9_ (by omega)]; exact q8_
          have low9_ : ∀ j_, j_ < 8 * (40 * fr_ + A_.1 M_) ∨ 8 * (40 * fr_ + A_.1 M_) + 8 ≤ j_ → Sx44_.2.2.1 144 0 j_ = _ := fun j_ hj_ => by rw [a109_, l103_ j_ hj_, fr_arr F98_ rfl]
          have PP_ : imq (lx_kd b_ n_ p_ ≠ 8) (pN b_ n_ T_ F_ I_ B_ M_ fr_ (rr_.1.1 M_) q0_.2.2 q1_ E1_ O_ O1_ V1_ rr_.2.2 S0_ Sx44_) ∧ imq (lx_kd b_ n_ p_ = 8) (p8 b_ n_ T_ F_ I_ B_ X_ M_ fr_ (A_.1 M_) q0_ E_ O_ kk_ (rr_.1.1 M_) rr_.2.2 S0_ Sx44_) := by rw [y1_, y2_, y3_, y5_]; exact ⟨fun _ => ⟨g109_, rgl_fr (rgl_fr x5_ F103_ rfl rfl rfl rfl rfl rfl) hFx46_ rfl rfl rfl rfl rfl rfl, by rw [w6_]; exact rev_k v94_ (fun z_ => Nat.le_trans gl_ z_) (by omega) hE8_ (hON_ _ (Nat.le_refl _)) low9_ ((fr_arr hFx46_ rfl).trans ((fr_arr F103_ rfl).trans (fr_arr F98_ rfl))) rw9_, (hFx46_.1 13 0 53 rfl).trans ((F103_.1 13 0 53 rfl).trans ((F98_.1 13 0 53 rfl).trans u94_)), up_8 hE8_ x3_.2, ⟨(hFx46_.1 13 0 28 rfl).trans ((F103_.1 13 0 28 rfl).trans ((F98_.1 13 0 28 rfl).trans i94_.1)), (hFx46_.1 13 0 29 rfl).trans ((F103_.1 13 0 29 rfl).trans ((F98_.1 13 0 29 rfl).trans i94_.2))⟩, ⟨(fr_arr hFx46_ rfl).trans ((fr_arr F103_ rfl).trans ((fr_arr F98_ rfl).trans (j94_ 146 rfl (by decide)))), (fr_arr hFx46_ rfl).trans ((fr_arr F103_ rfl).trans ((fr_arr F98_ rfl).trans (j94_ 147 rfl (by decide)))), (fr_arr hFx46_ rfl).trans ((fr_arr F103_ rfl).trans ((fr_arr F98_ rfl).trans (j94_ 148 rfl (by decide))))⟩, by rw [w6_]; exact fun j_ => (congrFun ((fr_arr hFx46_ rfl).trans ((fr_arr F103_ rfl).trans (fr_arr F98_ rfl))) j_).trans (l94_ j_), fun j_ hj_ => (low9_ j_ (by omega)).trans (congrFun (j94_ 144 rfl (by decide)) j_), by rw [y2_] at y4_; exact y4_, rfl, rfl, rfl, up_B hEB_ w5_⟩, fun z_ => by omega⟩
          have a150_ : Sx44_.2.2.1 150 0 = S0_.2.2.1 150 0 := (fr_arr hFx46_ rfl).trans ((fr_arr F103_ rfl).trans ((fr_arr F98_ rfl).trans (j94_ 150 rfl (by decide))))
          have PX_ : imq (lx_kd b_ n_ p_ ≠ 8) (pNx F_ I_ B_ X_ Y_ M_ fr_ (rr_.1.1 M_) kk_ q0_ E_ O_ x0_ q1_ E1_ S0_ Sx44_) ∧ imq (lx_kd b_ n_ p_ = 8) (p8x kk_ q0_ x0_ S0_ Sx44_) := by rw [y1_, y2_, w6_]; exact ⟨fun _ => ⟨rbt_i hrb_ wq_.2 a150_ (fun s_ hs_ => up1_o (by omega)), fun j_ _ => congrFun a150_ j_, fun q9_ => by rw [ncd_pl kk_.reverse _ _ (wpl_r wq_.1)]; exact rxn_fr x103_ hFx46_⟩, fun z_ => by omega⟩
          refine sm_T_rv rfl ⟨_, _, rfl, rfl, hIx45_, hFx48_, ?_⟩
          exact ⟨⟨PP_, QQ_⟩, PX_⟩
        · have cx28_ : ¬ (vx27_ = 0) := of_decide_eq_false cx28_
          have k8_ : lx_kd b_ n_ p_ = 8 := e77_.mp (by omega)
          obtain ⟨d_, p1_, p2_, p3_, p4_, p5_, pe_, l_, w1_, w2_, w3_, w4_, w5_, w6_, w7_, w8_, w9_, wa_, wb, wc_, wd_, we_, wf_, wg_, wh_⟩ := mk_us hit_ k8_ hen_.1 hkk_ hxr_ hec_ hts_
          have wq_ := mq_us (K_ := A_.1 M_) ht_.1 hA_ hen_.1 hxx_ hte_ hpn w5_ w6_ w7_ w8_ w9_ wa_
          refine sm_T_go 2 (c1 := (85, [some (.inr (.inr (some (13, 0)))), some (.inl (S0_.2.2.1 149 0 (S0_.1 13 0 29).toNat))], [.inl (S0_.2.2.1 149 0 (S0_.1 13 0 29).toNat), .inr (.inr (some (13, 0)))], sm_aI S0_ 149 0 (S0_.1 13 0 29).toNat ((S0_.2.2.1 149 0 (S0_.1 13 0 29).toNat) + 1))) rfl ?_
          refine sm_T_cal (d1 := 9) (Q1 := vq_345 (S0_.2.2.1 149 0 (S0_.1 13 0 29).toNat) b_ n_ T_ F_ I_ A_ B_ X_ M_ fr_ q0_ E_ O_ p_ d_ p1_ p2_ p3_ p4_ p5_ pe_ rr_.2.2 l_ (sm_aI S0_ 149 0 (S0_.1 13 0 29).toNat ((S0_.2.2.1 149 0 (S0_.1 13 0 29).toNat) + 1))) rfl rfl (by decide) (vc_345 (S0_.2.2.1 149 0 (S0_.1 13 0 29).toNat) b_ n_ T_ F_ I_ A_ B_ X_ M_ fr_ q0_ E_ O_ p_ d_ p1_ p2_ p3_ p4_ p5_ pe_ rr_.2.2 l_ (sm_aI S0_ 149 0 (S0_.1 13 0 29).toNat ((S0_.2.2.1 149 0 (S0_.1 13 0 29).toNat) + 1)) hIx6_ (by exact t2_ _ _) (by exact g2_ _ _) (by exact hm1_) (by exact en2_ _ _) (by exact hA_) (by exact hxx_) (by exact hX_) (by exact hte_) (by exact ev2_ _ _) (by exact gg2_ _ _) (by exact ⟨w1_, by omega, t149_, w2_⟩) (by exact w3_) (by exact w5_) (by exact w6_) (by exact w7_) (by exact w8_) (by exact w9_) (by exact wa_) (by exact wb) (by exact wc_) (by exact wd_) (by exact we_) (by exact wf_) (by exact hE8_)) (fun u_ Sx49_ px52_ => ?_)
          obtain ⟨rfl, hIx50_, hFx51_, px52_⟩ := px52_
          have hFx53_ : ai_fr (sx_W vw_348n) S0_ Sx49_ := ai_fr_tr hFx7_ (fr_le hFx51_ rfl)
          obtain ⟨G_, o_, i9_, v1_, v2_, v3_, vz_, v4_, v5_, v6_, v7_, v8_⟩ := px52_
          rw [ex9_, htd_] at v6_
          have QQ_ : imq (Sx49_.1 13 0 37 - Sx49_.1 13 0 38 ≤ 1000) (rnS Sx49_) := by (intro q9_; have l9_ : G_.length ≤ 1000 := (rgl_b v4_).2.2.2.2.mp q9_; have l8_ : q0_.1.length ≤ G_.length := ev_le hX_ v1_; have n9_ := rgl_n v4_ (by omega); have m9_ := rgl_n hg_ (by omega); exact rnS_up hrn_ (hFx51_.1 13 0 52 rfl) (hFx51_.1 13 0 53 rfl) ((fr_arr (t := 151) hFx51_ rfl).trans (s146_ _ _ _ (by decide))) (by omega))
          have PP_ : imq (lx_kd b_ n_ p_ ≠ 8) (pN b_ n_ T_ F_ I_ B_ M_ fr_ (rr_.1.1 M_) q0_.2.2 q1_ E1_ O_ O1_ V1_ rr_.2.2 S0_ Sx49_) ∧ imq (lx_kd b_ n_ p_ = 8) (p8 b_ n_ T_ F_ I_ B_ X_ M_ fr_ (A_.1 M_) q0_ E_ O_ kk_ (rr_.1.1 M_) rr_.2.2 S0_ Sx49_) := ⟨fun z_ => absurd k8_ z_, fun _ => ⟨d_, _, G_, o_, i9_, wg_, w1_, w2_, wh_, w4_, w3_, v1_, v2_, v3_, vz_, wf_, v4_, v5_, v6_, fun j_ hj_ => (v7_ j_ hj_).trans (congrFun (s146_ _ _ _ (by decide)) j_), v8_, hFx51_.1 13 0 53 rfl⟩⟩
          have PX_ : imq (lx_kd b_ n_ p_ ≠ 8) (pNx F_ I_ B_ X_ Y_ M_ fr_ (rr_.1.1 M_) kk_ q0_ E_ O_ x0_ q1_ E1_ S0_ Sx49_) ∧ imq (lx_kd b_ n_ p_ = 8) (p8x kk_ q0_ x0_ S0_ Sx49_) := ⟨fun z_ => absurd k8_ z_, fun _ => ⟨(fr_arr (t := 150) (i := 0) hFx51_ rfl).trans (s146_ _ _ _ (by decide)), by rw [wg_]; exact wq_, fun q9_ => rxn_fr (xn2_ _ _) hFx51_⟩⟩
          refine sm_T_go 1 (c1 := (112, [some (.inr (.inr (some (13, 0)))), some (.inl (S0_.2.2.1 149 0 (S0_.1 13 0 29).toNat))], [], Sx49_)) rfl ?_
          refine sm_T_rv rfl ⟨_, _, rfl, rfl, hIx50_, hFx53_, ?_⟩
          exact ⟨⟨PP_, QQ_⟩, PX_⟩
      · have cx21_ : ¬ (vx20_ = 0) := of_decide_eq_false cx21_
        have k7_ : lx_kd b_ n_ p_ = 7 := e60_.mp (by omega)
        obtain ⟨uu_, f_, wd_, w1_, w2_, w3_, w4_, w5_, w6_, w7_, w8_, w9_, wa_, wz_⟩ := mk_re hit_ k7_ hen_.1 hkk_ hxr_ hec_ hts_
        have wq_ := mq_re hit_ k7_ hkk_
        have w4a := w4_.1
        have w4b := w4_.2
        refine sm_T_go 2 (c1 := (68, [some (.inr (.inr (some (13, 0)))), some (.inl (S0_.2.2.1 149 0 (S0_.1 13 0 29).toNat))], [.inl (S0_.2.2.1 149 0 (S0_.1 13 0 29).toNat), .inr (.inr (some (13, 0)))], sm_aI S0_ 149 0 (S0_.1 13 0 29).toNat ((S0_.2.2.1 149 0 (S0_.1 13 0 29).toNat) + 1))) rfl ?_
        refine sm_T_cal (d1 := 2) (Q1 := vq_344n (S0_.2.2.1 149 0 (S0_.1 13 0 29).toNat) b_ n_ T_ p_ uu_ f_ rr_.2.2 B_ M_ (A_.1 M_) fr_ wd_ q0_.2.1 I_ (B_.2.2.2.2 (40 * M_ + A_.1 M_)) x0_ (sm_aI S0_ 149 0 (S0_.1 13 0 29).toNat ((S0_.2.2.1 149 0 (S0_.1 13 0 29).toNat) + 1))) rfl rfl (by decide) (vc_344n (S0_.2.2.1 149 0 (S0_.1 13 0 29).toNat) b_ n_ T_ p_ uu_ f_ rr_.2.2 B_ M_ (A_.1 M_) fr_ wd_ q0_.2.1 I_ (B_.2.2.2.2 (40 * M_ + A_.1 M_)) x0_ (sm_aI S0_ 149 0 (S0_.1 13 0 29).toNat ((S0_.2.2.1 149 0 (S0_.1 13 0 29).toNat) + 1)) hIx6_ (by exact t2_ _ _) (by exact g2_ _ _) (by exact w1_) (by exact w2_) (by exact ⟨fr1_, frb_⟩) (by exact ⟨t149_, w3_, B40_, M15_⟩) (by exact hen_.2.1) (by exact ⟨by rw [s146_ _ _ _ (by decide), ((hen_.2.2.2 M_ (Nat.le_refl _)).2 (A_.1 M_) w3_).2.2.1]; exact w4a, w4b⟩) (by exact ⟨hR_, w5_⟩) (by exact hms_) (by rw [s146_ _ _ _ (by decide)]; exact hI1_) (by exact rn2_ _ _) (by (have q9_ := (rgl_b hg_).2.2.1; rw [w6_] at hRF_; have q8_ : 1 + I_ + (q0_.2.1 + wd_) ≤ F_ := hRF_; show 1 + (I_ : Int) + q0_.2.1 + wd_ ≤ S0_.1 13 0 37; omega)) (by (rw [s146_ _ _ _ (by decide)]; exact ((hen_.2.2.2 M_ (Nat.le_refl _)).2 (A_.1 M_) w3_).2.2.2.1)) (by exact xn2_ _ _)) (fun u_ Sx54_ px57_ => ?_)
        obtain ⟨rfl, hIx55_, hFx56_, px57_⟩ := px57_
        have hFx58_ : ai_fr (sx_W vw_348n) S0_ Sx54_ := ai_fr_tr hFx7_ (fr_le hFx56_ rfl)
        obtain ⟨g68_, u68_, b68_, v68_, l68_, rn68_, xn68_⟩ := px57_
        have b69_ : ∀ j_, Sx54_.2.2.1 150 0 j_ = if j_ = 40 * fr_ + A_.1 M_ then (q0_.2.1 : Int) else S0_.2.2.1 150 0 j_ := fun j_ => (b68_ j_).trans (by rw [s146_ _ _ 150 (by decide)])
        have QQ_ : imq (Sx54_.1 13 0 37 - Sx54_.1 13 0 38 ≤ 1000) (rnS Sx54_) := fun _ => rn68_
        have PP_ : imq (lx_kd b_ n_ p_ ≠ 8) (pN b_ n_ T_ F_ I_ B_ M_ fr_ (rr_.1.1 M_) q0_.2.2 q1_ E1_ O_ O1_ V1_ rr_.2.2 S0_ Sx54_) ∧ imq (lx_kd b_ n_ p_ = 8) (p8 b_ n_ T_ F_ I_ B_ X_ M_ fr_ (A_.1 M_) q0_ E_ O_ kk_ (rr_.1.1 M_) rr_.2.2 S0_ Sx54_) := by rw [w6_, w7_, w8_, wz_]; exact ⟨fun _ => ⟨g68_, rgl_fr (gg2_ _ _) hFx56_ rfl rfl rfl rfl rfl rfl, by rw [wa_]; exact rev_k (ev2_ _ _) id (by omega) hE8_ (hON_ _ (Nat.le_refl _)) l68_ (fr_arr hFx56_ rfl) (fun _ => v68_), u68_, up_8 hE8_ (by rw [r_bt_l]; omega), ⟨hFx56_.1 13 0 28 rfl, hFx56_.1 13 0 29 rfl⟩, ⟨(fr_arr hFx56_ rfl).trans (s146_ _ _ _ (by decide)), (fr_arr hFx56_ rfl).trans (s146_ _ _ _ (by decide)), (fr_arr hFx56_ rfl).trans (s146_ _ _ _ (by decide))⟩, by rw [wa_]; exact fun j_ => (congrFun (fr_arr (t := 149) (i := 0) hFx56_ rfl) j_).trans (s149_ j_), fun j_ hj_ => (l68_ j_ (by omega)).trans (congrFun (s146_ _ _ _ (by decide)) j_), by rw [w7_] at w9_; exact w9_, rfl, rfl, rfl, up_B hEB_ w3_⟩, fun z_ => by omega⟩
        have PX_ : imq (lx_kd b_ n_ p_ ≠ 8) (pNx F_ I_ B_ X_ Y_ M_ fr_ (rr_.1.1 M_) kk_ q0_ E_ O_ x0_ q1_ E1_ S0_ Sx54_) ∧ imq (lx_kd b_ n_ p_ = 8) (p8x kk_ q0_ x0_ S0_ Sx54_) := by rw [w6_, w7_, wa_]; exact ⟨fun _ => ⟨rbt_k hrb_ w4b.1 b69_, fun j_ hj_ => by rw [b69_, if_neg (by omega)], fun q9_ => by rw [nx_re wq_ B40_ w3_ hec_, show (B_.2.2.2.1 (40 * M_ + A_.1 M_)).toNat = wd_ by omega]; exact xn68_⟩, fun z_ => by omega⟩
        refine sm_T_go 1 (c1 := (112, [some (.inr (.inr (some (13, 0)))), some (.inl (S0_.2.2.1 149 0 (S0_.1 13 0 29).toNat))], [], Sx54_)) rfl ?_
        refine sm_T_rv rfl ⟨_, _, rfl, rfl, hIx55_, hFx58_, ?_⟩
        exact ⟨⟨PP_, QQ_⟩, PX_⟩
    · have cx14_ : ¬ (vx13_ = 0) := of_decide_eq_false cx14_
      have k4_ : lx_kd b_ n_ p_ = 4 := e43_.mp (by omega)
      obtain ⟨uu_, f_, w1_, w2_, w3_, w4_, w5_, w6_, w7_, wz_⟩ := mk_in hit_ k4_ hkk_ hxr_ hec_ hts_
      have wq_ := mq_in hit_ k4_ hkk_ hxr_
      refine sm_T_go 2 (c1 := (52, [some (.inr (.inr (some (13, 0)))), some (.inl (S0_.2.2.1 149 0 (S0_.1 13 0 29).toNat))], [.inl 59, .inr (.inr (some (13, 0)))], sm_aI S0_ 149 0 (S0_.1 13 0 29).toNat ((S0_.2.2.1 149 0 (S0_.1 13 0 29).toNat) + 1))) rfl ?_
      refine sm_T_cal (d1 := 1) (Q1 := vq_343 59 b_ n_ T_ p_ uu_ f_ rr_.2.2 (sm_aI S0_ 149 0 (S0_.1 13 0 29).toNat ((S0_.2.2.1 149 0 (S0_.1 13 0 29).toNat) + 1))) rfl rfl (by decide) (vc_343 59 b_ n_ T_ p_ uu_ f_ rr_.2.2 (sm_aI S0_ 149 0 (S0_.1 13 0 29).toNat ((S0_.2.2.1 149 0 (S0_.1 13 0 29).toNat) + 1)) hIx6_ (by exact t2_ _ _) (by exact g2_ _ _) (by exact w1_) (by exact w2_) (by decide)) (fun u_ Sx59_ px62_ => ?_)
      obtain ⟨rfl, hIx60_, hFx61_, px62_⟩ := px62_
      have hFx63_ : ai_fr (sx_W vw_348n) S0_ Sx59_ := ai_fr_tr hFx7_ (fr_le hFx61_ rfl)
      have QQ_ : imq (Sx59_.1 13 0 37 - Sx59_.1 13 0 38 ≤ 1000) (rnS Sx59_) := fun _ => rnS_fr (rn2_ _ _) hFx61_ rfl rfl rfl rfl
      have PP_ : imq (lx_kd b_ n_ p_ ≠ 8) (pN b_ n_ T_ F_ I_ B_ M_ fr_ (rr_.1.1 M_) q0_.2.2 q1_ E1_ O_ O1_ V1_ rr_.2.2 S0_ Sx59_) ∧ imq (lx_kd b_ n_ p_ = 8) (p8 b_ n_ T_ F_ I_ B_ X_ M_ fr_ (A_.1 M_) q0_ E_ O_ kk_ (rr_.1.1 M_) rr_.2.2 S0_ Sx59_) := by rw [w3_, w4_, w5_, wz_]; exact ⟨fun _ => ⟨px62_, rgl_fr (gg2_ _ _) hFx61_ rfl rfl rfl rfl rfl rfl, by rw [w7_]; exact rev_i (rev_fr (ev2_ _ _) hFx61_ rfl rfl) id (hON_ _ (Nat.le_refl _)), (hFx61_.1 13 0 53 rfl).trans hR_, hE8_, ⟨hFx61_.1 13 0 28 rfl, hFx61_.1 13 0 29 rfl⟩, ⟨(fr_arr hFx61_ rfl).trans (s146_ _ _ _ (by decide)), (fr_arr hFx61_ rfl).trans (s146_ _ _ _ (by decide)), (fr_arr hFx61_ rfl).trans (s146_ _ _ _ (by decide))⟩, by rw [w7_]; exact fun j_ => (congrFun (fr_arr (t := 149) (i := 0) hFx61_ rfl) j_).trans (s149_ j_), fun j_ _ => congrFun ((fr_arr hFx61_ rfl).trans (s146_ _ _ _ (by decide))) j_, w6_, rfl, rfl, rfl, hEB_⟩, fun z_ => by omega⟩
      have a150_ : Sx59_.2.2.1 150 0 = S0_.2.2.1 150 0 := (fr_arr (t := 150) (i := 0) hFx61_ rfl).trans (s146_ _ _ _ (by decide))
      have PX_ : imq (lx_kd b_ n_ p_ ≠ 8) (pNx F_ I_ B_ X_ Y_ M_ fr_ (rr_.1.1 M_) kk_ q0_ E_ O_ x0_ q1_ E1_ S0_ Sx59_) ∧ imq (lx_kd b_ n_ p_ = 8) (p8x kk_ q0_ x0_ S0_ Sx59_) := by rw [w3_, w4_, w7_, wq_.1]; exact ⟨fun _ => ⟨rbt_i hrb_ ⟨by rw [wq_.2]; decide, by rw [wq_.2]; decide⟩ a150_ (fun s_ _ => rfl), fun j_ _ => congrFun a150_ j_, fun q9_ => rxn_fr (xn2_ _ _) hFx61_⟩, fun z_ => by omega⟩
      refine sm_T_go 1 (c1 := (112, [some (.inr (.inr (some (13, 0)))), some (.inl (S0_.2.2.1 149 0 (S0_.1 13 0 29).toNat))], [], Sx59_)) rfl ?_
      refine sm_T_rv rfl ⟨_, _, rfl, rfl, hIx60_, hFx63_, ?_⟩
      exact ⟨⟨PP_, QQ_⟩, PX_⟩
  · have cx3_ : ¬ ((S0_.2.2.1 119 0 (S0_.1 13 0 9).toNat) ≠ 1) := of_decide_eq_false cx3_
    have k1_ : lx_kd b_ n_ p_ = 1 := rk_.2.1.mp (by rw [← ra_.1]; rw [e4_] at cx3_; omega)
    obtain ⟨s_, r1_, r2_, xr, w1_, w2_, w3_, w4_, w5_, w6_, w7_, wz_, wq_, w8_⟩ := mq_ne ht_.1 hen_.1 hxx_ hte_ hpn hit_ k1_ hA_ hkk_ hec_
    refine sm_T_go 1 (c1 := (14, [some (.inr (.inr (some (13, 0)))), none], [.inr (.inr (some (13, 0)))], S0_)) rfl ?_
    refine sm_T_cal (d1 := 9) (Q1 := vq_347n b_ n_ T_ F_ I_ A_ B_ X_ M_ fr_ q0_ E_ O_ p_ s_ r1_ r2_ xr rr_.2.2 (S0_.2.2.1 150 0 (40 * fr_ + s_)).toNat q0_.2.1 x0_ S0_) rfl rfl (by decide) (vc_347n b_ n_ T_ F_ I_ A_ B_ X_ M_ fr_ q0_ E_ O_ p_ s_ r1_ r2_ xr rr_.2.2 (S0_.2.2.1 150 0 (40 * fr_ + s_)).toNat q0_.2.1 x0_ S0_ hI_ (by exact ht_) (by exact hx_) (by exact hm1_) (by exact hen_) (by exact hA_) (by exact hxx_) (by exact hX_) (by exact hte_) (by exact hev_) (by exact hg_) (by exact k1_) (by exact w1_) (by exact w2_) (by exact w3_) (by exact w4_) (by exact w5_) (by exact w6_) (by (have q9_ : 0 ≤ S0_.2.2.1 150 0 (40 * fr_ + s_) ∧ S0_.2.2.1 150 0 (40 * fr_ + s_) ≤ 6 := hI_.2 150 0 _; omega)) (by exact hrn_) (by exact hlw_) (by exact hXw_) (by (have q9_ : q0_.2.1 ≤ q1_.2.1 := ev_R hXw_ hec_; omega)) (by (rw [wz_.1]; exact (hxx_.2.2 M_ s_ (Nat.le_refl _) wz_.2).2.1)) (by exact hx0_)) (fun u_ Sx64_ px67_ => ?_)
    obtain ⟨rfl, hIx65_, hFx66_, px67_⟩ := px67_
    have hFx68_ : ai_fr (sx_W vw_348n) S0_ Sx64_ := ai_fr_tr hF_ (fr_le hFx66_ rfl)
    obtain ⟨⟨g14_, G_, v9_, d1_, d2_, d3_, d4_, d5_⟩, QQ_⟩ := px67_
    obtain ⟨rg9_, yg9_, rg1_, rg2_⟩ := hrb_ s_ wz_.2 wq_.2.2
    have rgn_ : (S0_.2.2.1 150 0 (40 * fr_ + s_)).toNat = rg9_ := by omega
    rw [rgn_] at d5_
    have s40_ : s_ < 40 := by (have s41_ := wz_.2; omega)
    obtain ⟨x1_, x2_, x3_, x4_⟩ := w8_ G_ v9_ d1_
    have gl_ : q0_.1.length ≤ G_.length := ev_le hX_ d1_
    have PP_ : imq (lx_kd b_ n_ p_ ≠ 8) (pN b_ n_ T_ F_ I_ B_ M_ fr_ (rr_.1.1 M_) q0_.2.2 q1_ E1_ O_ O1_ V1_ rr_.2.2 S0_ Sx64_) ∧ imq (lx_kd b_ n_ p_ = 8) (p8 b_ n_ T_ F_ I_ B_ X_ M_ fr_ (A_.1 M_) q0_ E_ O_ kk_ (rr_.1.1 M_) rr_.2.2 S0_ Sx64_) := by rw [x1_, x2_, x3_, x4_, w7_]; exact ⟨fun _ => ⟨g14_, d4_, rev_m (rev_fr hev_ hFx66_ rfl rfl) (fun z_ => Nat.le_trans gl_ z_), (hFx66_.1 13 0 53 rfl).trans hR_, hE8_, ⟨hFx66_.1 13 0 28 rfl, hFx66_.1 13 0 29 rfl⟩, ⟨fr_arr hFx66_ rfl, fr_arr hFx66_ rfl, fr_arr hFx66_ rfl⟩, fun j_ => (congrFun (fr_arr (t := 149) (i := 0) hFx66_ rfl) j_).trans (by by_cases z_ : j_ = fr_; (rw [if_pos z_, z_]; exact htd_); (rw [if_neg z_])), fun j_ _ => congrFun (fr_arr hFx66_ rfl) j_, hts_, rfl, rfl, rfl, hEB_⟩, fun z_ => by omega⟩
    have PX_ : imq (lx_kd b_ n_ p_ ≠ 8) (pNx F_ I_ B_ X_ Y_ M_ fr_ (rr_.1.1 M_) kk_ q0_ E_ O_ x0_ q1_ E1_ S0_ Sx64_) ∧ imq (lx_kd b_ n_ p_ = 8) (p8x kk_ q0_ x0_ S0_ Sx64_) := by rw [x1_, x2_, w7_]; exact ⟨fun _ => ⟨rbt_eq hrb_ (fr_arr hFx66_ rfl), fun j_ _ => congrFun (fr_arr (t := 150) (i := 0) hFx66_ rfl) j_, fun q9_ => by rw [nx_ne wq_.1 wq_.2.1 s40_ d1_ rg1_ hec_]; exact d5_ q9_⟩, fun z_ => by omega⟩
    refine sm_T_rv rfl ⟨_, _, rfl, rfl, hIx65_, hFx68_, ?_⟩
    exact ⟨⟨PP_, QQ_⟩, PX_⟩
end
/-! 99.ztQ -/
section
/-! next values and beginning: the graph of the reference; written by wip/p55/gen/vg -/

/-! next values and beginning: the_ graph -/
def nx0 : gN := (fun _ => 0, 0)
theorem giN_0 {b_ : Nat → Int} {n_ T_ F_ I_ tp_ : Nat} {B_ : pA} {N_ : Nat → Nat} {C_ : Nat → List Int} {z_ : gQ × gE} {zx_ : gN} {S0_ S_ : sm_S} (hq_ : gq0 tp_ F_ S0_ S_) (hF_ : 1 ≤ F_ ∧ F_ ≤ 13) (hA_ : a_ok b_ n_ B_ tp_) (hg_ : gmd b_ n_ T_ B_ N_ C_ tp_ S0_) (hz_ : exm F_ I_ B_ C_ 16 tp_ ([], 0, 1) (ein B_ tp_) = some z_) (hzx_ : nxm F_ I_ B_ C_ 16 tp_ ([], 0, 1) (ein B_ tp_) nx0 = zx_) (h52_ : S_.1 13 0 52 = 0) (hsu_ : 1 + su (t_in B_ 0 tp_) (B_.1 tp_) ≤ (F_ : Int)) (hr_ : ∀ s_, s_ < 40 → rwv (S_.2.2.1 144 0) (8 * s_) (ein B_ tp_ s_)) : ∃ mu_, mu_ < 900000 ∧ giM b_ n_ T_ F_ I_ tp_ B_ N_ (exm F_ I_ B_ C_ 16) (nxm F_ I_ B_ C_ 16) z_ zx_ mu_ S_ := by
  obtain ⟨q1_, q2_, q3_, q4_, q5_, q6_, q7_, q8_, q9_, qa_, qb_⟩ := hq_
  obtain ⟨f_, A_, c0_, u_, ce_, i_, h1_, h2_, h3_, h4_, h5_⟩ := hg_
  obtain ⟨O'_, x1_⟩ := exm_ev hz_
  have x2_ : nxm F_ I_ B_ C_ 16 tp_ ([], 0, 1) (ein B_ tp_) nx0 = ncd F_ I_ B_ (exm F_ I_ B_ C_ 16) (nxm F_ I_ B_ C_ 16) tp_ (C_ tp_) (([], 0, 1), ein B_ tp_, fun _ => none, []) nx0 := nxm_ev (f_ := 15) hz_
  have LW_ : lwG F_ ([], 0, 1) (ein B_ tp_) (fun _ => none) := fun _ => ⟨⟨hF_.1, fun k_ x_ y_ e_ => by simp at e_⟩, (fun a_ => ein_w hA_ hsu_ (Nat.le_add_right _ _) a_), (fun a_ o_ e_ => by cases e_), (fun v_ hv_ => by cases hv_)⟩
  refine ⟨(300 - 1) * 3000 + (1301 - u_) + 0, by omega, 0, tp_, f_, A_, c0_, u_, ce_, (C_ tp_).reverse, ein B_ tp_, fun _ => none, ([], 0, 1), z_.1, z_.2, O'_, 0, fun x_ => x_, nx0, ⟨⟨q3_, q2_, q5_, q9_, by rw [h2_]; exact qa_⟩, ⟨q6_, i_, q1_.trans h5_, h4_⟩, h1_, h3_, by omega, ?_, (ein_8 hA_).1, (ein_8 hA_).2, fun _ _ => rfl, (fun s_ o_ e_ => by cases e_), ⟨?_, LW_⟩, rgl_0 q8_ q7_ hF_ qb_, by show (1 : Nat) ≤ 201; decide, x1_, ⟨rfl, rfl⟩, rfl⟩, ⟨rfl, rfl, rfl⟩, ?_, ?_, ?_⟩
  · rw [h2_]; exact tst_0 (ein_o hA_)
  · rw [h2_]
    exact fun _ => ⟨fun s_ hs_ => by rw [show 8 * (40 * 0 + s_) = 8 * s_ by omega]; exact hr_ s_ hs_, fun s_ o_ hs_ => absurd hs_ (Nat.not_lt_zero _)⟩
  · rw [h2_]; exact rbt_0
  · rw [List.reverse_reverse, ← hzx_]; exact x2_.symm
  · exact fun _ => ⟨h52_, fun i_ hi_ => absurd hi_ (Nat.not_lt_zero _)⟩
/-! M_.makeGraph -/
def vw_349n : sx_Wl := ([(13, 9), (13, 10), (13, 11), (13, 27), (13, 28), (13, 29), (13, 32), (13, 33), (13, 34), (13, 37), (13, 38), (13, 52), (13, 53)], [136, 137, 138, 139, 140, 141, 142, 143, 144, 145, 146, 147, 148, 149, 150, 151, 152], [])
def vq_349n (b_ : Nat → Int) (n_ : Nat) (T_ : Nat) (F_ : Nat) (I_ : Nat) (Rg_ : Nat) (tp_ : Nat) (B_ : pA) (N_ : Nat → Nat) (C_ : Nat → List Int) (z_ : gQ × gE) (zx_ : gN) (S0_ : sm_S) (u_ : Option sm_V) (S1_ : sm_S) : Prop := u_ = none ∧ gi S1_ ∧ ai_fr (sx_W vw_349n) S0_ S1_ ∧ (imq (z_.1.1.length ≤ 1000) (S1_.1 13 0 10 = 0 ∧ rgl F_ z_.1.1 S1_ ∧ (rnS S1_ ∧ S1_.1 13 0 53 = (z_.1.2.1 : Int) ∧ rxn z_.1.2.1 zx_ S1_ ∧ ∀ s9_, s9_ < 40 → rwv (S1_.2.2.1 144 0) (8 * s9_) (z_.2 s9_))) ∧ imq (1000 < z_.1.1.length) (S1_.1 13 0 10 = 23 ∧ S1_.1 13 0 11 = S0_.2.2.1 120 0 (S0_.2.2.1 124 0 tp_).toNat))
set_option maxHeartbeats 3000000 in
set_option maxRecDepth 20000 in
theorem vl_349n {sc_ : Nat × (Nat → Int)} (b_ : Nat → Int) (n_ : Nat) (T_ : Nat) (F_ : Nat) (I_ : Nat) (Rg_ : Nat) (tp_ : Nat) (B_ : pA) (N_ : Nat → Nat) (C_ : Nat → List Int) (z_ : gQ × gE) (zx_ : gN) (S0_ : sm_S) (ht_ : rtab b_ n_ T_ S0_) (hf_ : (S0_.1 13 0 10) = 0) (hmo_ : (S0_.1 13 0 12) = (tp_ : Int) + 1 ∧ tp_ ≤ 15) (hre_ : ∀ m_, m_ ≤ tp_ → re1 b_ n_ T_ B_ m_ S0_ ∧ a_ok b_ n_ B_ m_) (hgm_ : ∀ m_, m_ ≤ tp_ → gmd b_ n_ T_ B_ N_ C_ m_ S0_) (hI1_ : S0_.2.2.1 132 0 tp_ = (I_ : Int)) (hR1_ : S0_.2.2.1 134 0 tp_ = (Rg_ : Int)) (hFn_ : F_ = 1 + I_ + Rg_ ∧ I_ + Rg_ ≤ 12) (hsu_ : su (t_in B_ 0 tp_) (B_.1 tp_) = (I_ : Int)) (hz_ : exm F_ I_ B_ C_ 16 tp_ ([], 0, 1) (ein B_ tp_) = some z_) (hzR_ : z_.1.2.1 = Rg_) (hzx_ : nxm F_ I_ B_ C_ 16 tp_ ([], 0, 1) (ein B_ tp_) nx0 = zx_) : ∀ nn_ : Nat, (∀ (top_ : Int) (i_ : Int) (S_ : sm_S), gi S_ → ai_fr (sx_W vw_349n) S0_ S_ → ((0 ≤ i_ ∧ i_ ≤ 4096 ∧ top_ = (tp_ : Int)) ∧ (∀ j_, j_ < i_.toNat → S_.2.2.1 142 0 j_ = 0) ∧ (S_.1 13 0 27 = 1 ∧ S_.1 13 0 29 = 0 ∧ S_.1 13 0 37 = (F_ : Int) ∧ S_.1 13 0 38 = (F_ : Int) ∧ S_.1 13 0 10 = 0) ∧ True) → ((2000000 - i_).toNat) < nn_ → sm_T (mt_P sc_) 11 349 (46, [some (.inr (.inr (some (13, 0)))), some (.inl top_), some (.inl i_), none, none], [], S_) (fun ro9_ => ∃ u_ S1_, ro9_ = (.inl u_, S1_, 0) ∧ vq_349n b_ n_ T_ F_ I_ Rg_ tp_ B_ N_ C_ z_ zx_ S0_ u_ S1_)) ∧ (∀ (top_ : Int) (nd_ : Int) (k_ : Int) (S_ : sm_S), gi S_ → ai_fr (sx_W vw_349n) S0_ S_ → ((0 ≤ k_ ∧ k_ ≤ (B_.1 tp_ : Int) ∧ top_ = (tp_ : Int) ∧ nd_ = 1 + su (t_in B_ 0 tp_) k_.toNat) ∧ (∀ s9_ : Nat, s9_ < k_.toNat → rwv (S_.2.2.1 144 0) (8 * s9_) (ein B_ tp_ s9_) ∧ (ein B_ tp_ s9_).length ≤ 8) ∧ (gq0 tp_ F_ S0_ S_) ∧ (S_.1 13 0 52 = 0) ∧ True) → ((1000000 + 20 * (50 - k_) + 10).toNat) < nn_ → sm_T (mt_P sc_) 11 349 (87, [some (.inr (.inr (some (13, 0)))), some (.inl top_), some (.inl nd_), some (.inl k_), none], [], S_) (fun ro9_ => ∃ u_ S1_, ro9_ = (.inl u_, S1_, 0) ∧ vq_349n b_ n_ T_ F_ I_ Rg_ tp_ B_ N_ C_ z_ zx_ S0_ u_ S1_)) ∧ (∀ (top_ : Int) (nd_ : Int) (k_ : Int) (j_ : Int) (S_ : sm_S), gi S_ → ai_fr (sx_W vw_349n) S0_ S_ → ((0 ≤ k_ ∧ k_ < (B_.1 tp_ : Int) ∧ top_ = (tp_ : Int) ∧ nd_ = 1 + su (t_in B_ 0 tp_) k_.toNat + j_ ∧ 0 ≤ j_ ∧ j_ ≤ B_.2.2.2.1 (40 * tp_ + k_.toNat) ∧ (0 < j_ → B_.2.2.1 (40 * tp_ + k_.toNat) = 0)) ∧ (∀ s9_ : Nat, s9_ < k_.toNat → rwv (S_.2.2.1 144 0) (8 * s9_) (ein B_ tp_ s9_) ∧ (ein B_ tp_ s9_).length ≤ 8) ∧ (rwv (S_.2.2.1 144 0) (8 * k_.toNat) (r_bt 0 (su (t_in B_ 0 tp_) k_.toNat).toNat j_.toNat)) ∧ (gq0 tp_ F_ S0_ S_) ∧ (S_.1 13 0 52 = 0) ∧ True) → ((1000000 + 20 * (50 - k_) + 9 - j_).toNat) < nn_ → sm_T (mt_P sc_) 11 349 (100, [some (.inr (.inr (some (13, 0)))), some (.inl top_), some (.inl nd_), some (.inl k_), some (.inl j_)], [], S_) (fun ro9_ => ∃ u_ S1_, ro9_ = (.inl u_, S1_, 0) ∧ vq_349n b_ n_ T_ F_ I_ Rg_ tp_ B_ N_ C_ z_ zx_ S0_ u_ S1_)) ∧ (∀ (top_ : Int) (dn_ : Int) (mu_ : Int) (S_ : sm_S), gi S_ → ai_fr (sx_W vw_349n) S0_ S_ → (((dn_ = 0 ∧ 0 ≤ mu_ ∧ giM b_ n_ T_ F_ I_ tp_ B_ N_ (exm F_ I_ B_ C_ 16) (nxm F_ I_ B_ C_ 16) z_ zx_ mu_.toNat S_) ∨ (dn_ = 1 ∧ mu_ = -1 ∧ rgl F_ z_.1.1 S_ ∧ z_.1.1.length ≤ 1000 ∧ S_.1 13 0 10 = 0 ∧ (rnS S_ ∧ S_.1 13 0 53 = (z_.1.2.1 : Int) ∧ rxn z_.1.2.1 zx_ S_ ∧ ∀ s9_, s9_ < 40 → rwv (S_.2.2.1 144 0) (8 * s9_) (z_.2 s9_)))) ∧ (S_.1 13 0 27 = 1) ∧ (top_ = (tp_ : Int)) ∧ (imq (S_.1 13 0 37 - S_.1 13 0 38 ≤ 1000) (rnS S_)) ∧ True) → ((mu_ + 1).toNat) < nn_ → sm_T (mt_P sc_) 11 349 (163, [some (.inr (.inr (some (13, 0)))), some (.inl top_), none, some (.inl dn_), none], [], S_) (fun ro9_ => ∃ u_ S1_, ro9_ = (.inl u_, S1_, 0) ∧ vq_349n b_ n_ T_ F_ I_ Rg_ tp_ B_ N_ C_ z_ zx_ S0_ u_ S1_)) := by
  intro nn_
  induction nn_ with
  | zero => exact ⟨fun _ _ _ _ _ _ h_ => absurd h_ (Nat.not_lt_zero _), fun _ _ _ _ _ _ _ h_ => absurd h_ (Nat.not_lt_zero _), fun _ _ _ _ _ _ _ _ h_ => absurd h_ (Nat.not_lt_zero _), fun _ _ _ _ _ _ _ h_ => absurd h_ (Nat.not_lt_zero _)⟩
  | succ nn_ ih_ =>
    refine ⟨?_, ?_, ?_, ?_⟩
    · rintro top_ i_ S_ hI_ hF_ ⟨h0_, h1_, hq_, -⟩ hm_
      have ht1_ := rtab_fr ht_ hF_ rfl rfl rfl rfl rfl
      have mo1_ : S_.1 13 0 12 = (tp_ : Int) + 1 := (hF_.1 13 0 12 rfl).trans hmo_.1
      have tp15_ := hmo_.2
      have hB_ := (hre_ tp_ (Nat.le_refl _)).2
      have B40_ := (hB_.2 tp_ (Nat.le_refl _)).1
      refine sm_T_go 2 (c1 := (50, [some (.inr (.inr (some (13, 0)))), some (.inl top_), some (.inl i_), none, none], [.inl 4096, .inl i_], S_)) rfl ?_
      refine sm_T_br (a := 3) (z := 16) rfl (fun cx1_ => ?_) (fun cx1_ => ?_)
      · have cx1_ : 4096 ≤ i_ := of_decide_eq_true cx1_
        have hIx2_ : gi (sm_pI S_ 13 0 53 0) := gi_pI hI_ (show 0 ≤ 0 ∧ 0 ≤ 6 from ⟨by omega, by omega⟩)
        have hFx3_ : ai_fr (sx_W vw_349n) S0_ (sm_pI S_ 13 0 53 0) := ai_fr_tr hF_ (ai_fr_pI rfl)
        have hIx4_ : gi (sm_pI (sm_pI S_ 13 0 53 0) 13 0 52 0) := gi_pI hIx2_ (show 0 ≤ 0 ∧ 0 ≤ 63 from ⟨by omega, by omega⟩)
        have hFx5_ : ai_fr (sx_W vw_349n) S0_ (sm_pI (sm_pI S_ 13 0 53 0) 13 0 52 0) := ai_fr_tr hFx3_ (ai_fr_pI rfl)
        refine sm_T_go 10 (c1 := (80, [some (.inr (.inr (some (13, 0)))), some (.inl top_), some (.inl i_), none, none], [.inl 0, .inl 0, .inl top_, .inr (.inr (some (13, 0)))], sm_pI (sm_pI S_ 13 0 53 0) 13 0 52 0)) rfl ?_
        refine sm_T_cal (d1 := 0) (Q1 := vq_341 top_ 0 0 0 (sm_pI (sm_pI S_ 13 0 53 0) 13 0 52 0)) rfl rfl (by decide) (vc_341 top_ 0 0 0 (sm_pI (sm_pI S_ 13 0 53 0) 13 0 52 0) hIx4_ (by (refine ⟨?_, by decide⟩; (have q9_ := hq_.2.1); (try simp only [rd_eq, rd_ne, rf_eq, rf_nk, rf_nt, rd_fa, rd_af, rd_fl, rd_al, rd_lf, rd_la, rd_leq, rd_lne, rd_fr, rd_ar, ne_eq, Nat.reduceEqDiff, not_false_eq_true]); omega)) (by omega) (by decide) (by decide)) (fun u_ Sx6_ px9_ => ?_)
        obtain ⟨rfl, hIx7_, hFx8_, px9_⟩ := px9_
        have hFx10_ : ai_fr (sx_W vw_349n) S0_ Sx6_ := ai_fr_tr hFx5_ (fr_le hFx8_ rfl)
        obtain ⟨e1_, e2_, e3_, e4_, e5_, e6_⟩ := px9_
        have b80_ : Sx6_.1 13 0 52 = 0 := (hFx8_.1 13 0 52 rfl).trans (by (try simp only [rd_eq, rd_ne, rf_eq, rf_nk, rf_nt, rd_fa, rd_af, rd_fl, rd_al, rd_lf, rd_la, rd_leq, rd_lne, rd_fr, rd_ar, ne_eq, Nat.reduceEqDiff, not_false_eq_true]))
        have Q80_ : gq0 tp_ F_ S0_ Sx6_ := by (refine ⟨e6_.trans ?_, e5_.trans ?_, (hFx8_.1 13 0 29 rfl).trans ?_, (hFx8_.1 13 0 27 rfl).trans ?_, (hFx8_.1 13 0 53 rfl).trans ?_, (hFx8_.1 13 0 10 rfl).trans ?_, (hFx8_.1 13 0 37 rfl).trans ?_, (hFx8_.1 13 0 38 rfl).trans ?_, (e1_ 0).trans ?_, (e4_ 0).trans ?_, fun c_ hc_ => (congrFun (fr_arr (t := 142) (i := 0) hFx8_ rfl) c_).trans (h1_ c_ (by omega))⟩); (rw [show top_.toNat = tp_ by omega]; exact congrFun (fr_arr (t := 125) (i := 0) hF_ rfl) tp_); (exact h0_.2.2); ((try simp only [rd_eq, rd_ne, rf_eq, rf_nk, rf_nt, rd_fa, rd_af, rd_fl, rd_al, rd_lf, rd_la, rd_leq, rd_lne, rd_fr, rd_ar, ne_eq, Nat.reduceEqDiff, not_false_eq_true]); exact hq_.2.1); ((try simp only [rd_eq, rd_ne, rf_eq, rf_nk, rf_nt, rd_fa, rd_af, rd_fl, rd_al, rd_lf, rd_la, rd_leq, rd_lne, rd_fr, rd_ar, ne_eq, Nat.reduceEqDiff, not_false_eq_true]); exact hq_.1); ((try simp only [rd_eq, rd_ne, rf_eq, rf_nk, rf_nt, rd_fa, rd_af, rd_fl, rd_al, rd_lf, rd_la, rd_leq, rd_lne, rd_fr, rd_ar, ne_eq, Nat.reduceEqDiff, not_false_eq_true])); ((try simp only [rd_eq, rd_ne, rf_eq, rf_nk, rf_nt, rd_fa, rd_af, rd_fl, rd_al, rd_lf, rd_la, rd_leq, rd_lne, rd_fr, rd_ar, ne_eq, Nat.reduceEqDiff, not_false_eq_true]); exact hq_.2.2.2.2); ((try simp only [rd_eq, rd_ne, rf_eq, rf_nk, rf_nt, rd_fa, rd_af, rd_fl, rd_al, rd_lf, rd_la, rd_leq, rd_lne, rd_fr, rd_ar, ne_eq, Nat.reduceEqDiff, not_false_eq_true]); exact hq_.2.2.1); ((try simp only [rd_eq, rd_ne, rf_eq, rf_nk, rf_nt, rd_fa, rd_af, rd_fl, rd_al, rd_lf, rd_la, rd_leq, rd_lne, rd_fr, rd_ar, ne_eq, Nat.reduceEqDiff, not_false_eq_true]); exact hq_.2.2.2.1); (rw [if_pos rfl]; exact h0_.2.2); (rw [if_pos rfl])
        refine sm_T_go 4 (c1 := (87, [some (.inr (.inr (some (13, 0)))), some (.inl top_), some (.inl 1), some (.inl 0), none], [], Sx6_)) rfl ?_
        refine ih_.2.1 top_ 1 0 Sx6_ hIx7_ hFx10_ ⟨?_, ?_, ?_, ?_, trivial⟩ ?_
        · exact ⟨by decide, by omega, h0_.2.2, rfl⟩
        · (intro j_ hj_; exact absurd hj_ (Nat.not_lt_zero _))
        · exact Q80_
        · exact b80_
        · omega
      · have cx1_ : ¬ (4096 ≤ i_) := of_decide_eq_false cx1_
        refine sm_T_go 4 (c1 := (59, [some (.inr (.inr (some (13, 0)))), some (.inl top_), some (.inl i_), none, none], [.inl 0, .inl i_, .inr (.inr (some (142, 0)))], S_)) rfl ?_
        refine sm_T_iast (n := 4096) rfl rfl (by omega) (by omega) ?_
        have hIx11_ : gi (sm_aI S_ 142 0 i_.toNat 0) := gi_aI hI_ (show 0 ≤ 0 ∧ 0 ≤ 1023 from ⟨by omega, by omega⟩)
        have hFx12_ : ai_fr (sx_W vw_349n) S0_ (sm_aI S_ 142 0 i_.toNat 0) := ai_fr_tr hF_ (ai_fr_aI rfl)
        refine sm_T_inc (a := 2) (z := 1) (v := i_) (w := i_ + 1) rfl rfl (by omega) (by omega) (by omega) ?_
        refine sm_T_go 1 (c1 := (46, [some (.inr (.inr (some (13, 0)))), some (.inl top_), some (.inl (i_ + 1)), none, none], [], sm_aI S_ 142 0 i_.toNat 0)) rfl ?_
        refine ih_.1 top_ (i_ + 1) (sm_aI S_ 142 0 i_.toNat 0) hIx11_ hFx12_ ⟨?_, ?_, ?_, trivial⟩ ?_
        · omega
        · intro j_ hj_
          rw [rd_eq]
          by_cases w9_ : j_ = i_.toNat
          · rw [if_pos w9_]
          · rw [if_neg w9_]; exact h1_ j_ (by omega)
        · exact hq_
        · omega
    · rintro top_ nd_ k_ S_ hI_ hF_ ⟨h0_, h1_, hq_, hbg_, -⟩ hm_
      have ht1_ := rtab_fr ht_ hF_ rfl rfl rfl rfl rfl
      have mo1_ : S_.1 13 0 12 = (tp_ : Int) + 1 := (hF_.1 13 0 12 rfl).trans hmo_.1
      have tp15_ := hmo_.2
      have hB_ := (hre_ tp_ (Nat.le_refl _)).2
      have B40_ := (hB_.2 tp_ (Nat.le_refl _)).1
      have cn_ : S_.2.2.1 126 0 top_.toNat = (B_.1 tp_ : Int) := by rw [fr_arr (t := 126) (i := 0) hF_ rfl, show top_.toNat = tp_ by omega]; exact (hre_ tp_ (Nat.le_refl _)).1.1
      have cb_ := su_el (f_ := t_in B_ 0 tp_) (k_ := B_.1 tp_) (fun j_ hj_ => by have z_ := ((hB_.2 tp_ (Nat.le_refl _)).2 j_ hj_).2.2.1; unfold t_in; split <;> omega)
      have sv_ : k_ < (B_.1 tp_ : Int) → S_.2.2.1 128 0 (40 * top_ + k_).toNat = r_s2 (B_.2.2.1 (40 * tp_ + k_.toNat)) ∧ S_.2.2.1 129 0 (40 * top_ + k_).toNat = B_.2.2.2.1 (40 * tp_ + k_.toNat) ∧ (r_s2 (B_.2.2.1 (40 * tp_ + k_.toNat)) = 1 ↔ B_.2.2.1 (40 * tp_ + k_.toNat) = 0) := by intro z_; rw [fr_arr (t := 128) (i := 0) hF_ rfl, fr_arr (t := 129) (i := 0) hF_ rfl, show (40 * top_ + k_).toNat = 40 * tp_ + k_.toNat by omega]; exact ⟨((hre_ tp_ (Nat.le_refl _)).1.2 k_.toNat (by omega)).2.1, ((hre_ tp_ (Nat.le_refl _)).1.2 k_.toNat (by omega)).2.2.1, by have q_ := g_in_0 hB_ (Nat.le_refl tp_) (show k_.toNat < B_.1 tp_ by omega); unfold g_in at q_; exact decide_eq_decide.mp q_⟩
      have s1_ : k_ < (B_.1 tp_ : Int) → su (t_in B_ 0 tp_) (k_.toNat + 1) = su (t_in B_ 0 tp_) k_.toNat + t_in B_ 0 tp_ k_.toNat ∧ su (t_in B_ 0 tp_) (k_.toNat + 1) ≤ su (t_in B_ 0 tp_) (B_.1 tp_) ∧ 0 ≤ su (t_in B_ 0 tp_) k_.toNat := fun z_ => ⟨rfl, (cb_.2.2 (k_.toNat + 1) (by omega)).2, (cb_.2.2 k_.toNat (by omega)).1⟩
      refine sm_T_go 4 (c1 := (93, [some (.inr (.inr (some (13, 0)))), some (.inl top_), some (.inl nd_), some (.inl k_), none], [.inl top_, .inr (.inr (some (126, 0))), .inl k_], S_)) rfl ?_
      refine sm_T_iald (n := 16) rfl rfl (by omega) (by omega) ?_
      have bx1_ : 0 ≤ S_.2.2.1 126 0 top_.toNat ∧ S_.2.2.1 126 0 top_.toNat ≤ 40 := hI_.2 126 0 _
      refine sm_T_br (a := 3) (z := 67) rfl (fun cx2_ => ?_) (fun cx2_ => ?_)
      · have cx2_ : (S_.2.2.1 126 0 top_.toNat) ≤ k_ := of_decide_eq_true cx2_
        obtain ⟨mg_, mg1_, mg2_⟩ : ∃ mg_ : Int, (0 ≤ mg_ ∧ mg_ < 900000) ∧ giM b_ n_ T_ F_ I_ tp_ B_ N_ (exm F_ I_ B_ C_ 16) (nxm F_ I_ B_ C_ 16) z_ zx_ mg_.toNat S_ := by obtain ⟨m9_, y1_, y2_⟩ := giN_0 (N_ := N_) hq_ (by omega) hB_ (hgm_ tp_ (Nat.le_refl _)) hz_ hzx_ hbg_ (by omega) (fun s9_ hs9_ => by by_cases w9_ : s9_ < k_.toNat; exact (h1_ s9_ w9_).1; (rw [(ein_8 hB_).2 s9_ (by omega)]; intro k9_ z9_ e9_; simp at e9_)); exact ⟨(m9_ : Int), by omega, by rw [Int.toNat_natCast]; exact y2_⟩
        refine sm_T_go 2 (c1 := (163, [some (.inr (.inr (some (13, 0)))), some (.inl top_), some (.inl nd_), some (.inl 0), none], [], S_)) rfl ?_
        refine sm_T_wk [some (.inr (.inr (some (13, 0)))), some (.inl top_), none, some (.inl 0), none] (by exact ⟨rfl, rfl, rfl, trivial⟩) ?_
        refine ih_.2.2.2 top_ 0 mg_ S_ hI_ hF_ ⟨?_, ?_, ?_, ?_, trivial⟩ ?_
        · exact Or.inl ⟨rfl, mg1_.1, mg2_⟩
        · exact hq_.2.2.2.1
        · exact h0_.2.2.1
        · exact fun _ => ⟨by rw [hbg_, hq_.2.2.2.2.1]; exact ⟨Int.le_refl _, (by decide : (0 : Int) < 2 ^ 0)⟩, fun k9_ hk9_ => by rw [hq_.2.2.2.2.1] at hk9_; omega⟩
        · omega
      · have cx2_ : ¬ ((S_.2.2.1 126 0 top_.toNat) ≤ k_) := of_decide_eq_false cx2_
        have sv1_ := sv_ (by omega)
        have s2_ := s1_ (by omega)
        have wb := ((hB_.2 tp_ (Nat.le_refl _)).2 k_.toNat (by omega)).2.2.1
        refine sm_T_go 2 (c1 := (100, [some (.inr (.inr (some (13, 0)))), some (.inl top_), some (.inl nd_), some (.inl k_), some (.inl 0)], [], S_)) rfl ?_
        refine ih_.2.2.1 top_ nd_ k_ 0 S_ hI_ hF_ ⟨?_, ?_, ?_, ?_, ?_, trivial⟩ ?_
        · omega
        · exact h1_
        · (intro k9_ z9_ e9_; simp [r_bt] at e9_)
        · exact hq_
        · exact hbg_
        · omega
    · rintro top_ nd_ k_ j_ S_ hI_ hF_ ⟨h0_, h1_, h2_, hq_, hbg_, -⟩ hm_
      have ht1_ := rtab_fr ht_ hF_ rfl rfl rfl rfl rfl
      have mo1_ : S_.1 13 0 12 = (tp_ : Int) + 1 := (hF_.1 13 0 12 rfl).trans hmo_.1
      have tp15_ := hmo_.2
      have hB_ := (hre_ tp_ (Nat.le_refl _)).2
      have B40_ := (hB_.2 tp_ (Nat.le_refl _)).1
      have cn_ : S_.2.2.1 126 0 top_.toNat = (B_.1 tp_ : Int) := by rw [fr_arr (t := 126) (i := 0) hF_ rfl, show top_.toNat = tp_ by omega]; exact (hre_ tp_ (Nat.le_refl _)).1.1
      have cb_ := su_el (f_ := t_in B_ 0 tp_) (k_ := B_.1 tp_) (fun j_ hj_ => by have z_ := ((hB_.2 tp_ (Nat.le_refl _)).2 j_ hj_).2.2.1; unfold t_in; split <;> omega)
      have sv_ : k_ < (B_.1 tp_ : Int) → S_.2.2.1 128 0 (40 * top_ + k_).toNat = r_s2 (B_.2.2.1 (40 * tp_ + k_.toNat)) ∧ S_.2.2.1 129 0 (40 * top_ + k_).toNat = B_.2.2.2.1 (40 * tp_ + k_.toNat) ∧ (r_s2 (B_.2.2.1 (40 * tp_ + k_.toNat)) = 1 ↔ B_.2.2.1 (40 * tp_ + k_.toNat) = 0) := by intro z_; rw [fr_arr (t := 128) (i := 0) hF_ rfl, fr_arr (t := 129) (i := 0) hF_ rfl, show (40 * top_ + k_).toNat = 40 * tp_ + k_.toNat by omega]; exact ⟨((hre_ tp_ (Nat.le_refl _)).1.2 k_.toNat (by omega)).2.1, ((hre_ tp_ (Nat.le_refl _)).1.2 k_.toNat (by omega)).2.2.1, by have q_ := g_in_0 hB_ (Nat.le_refl tp_) (show k_.toNat < B_.1 tp_ by omega); unfold g_in at q_; exact decide_eq_decide.mp q_⟩
      have s1_ : k_ < (B_.1 tp_ : Int) → su (t_in B_ 0 tp_) (k_.toNat + 1) = su (t_in B_ 0 tp_) k_.toNat + t_in B_ 0 tp_ k_.toNat ∧ su (t_in B_ 0 tp_) (k_.toNat + 1) ≤ su (t_in B_ 0 tp_) (B_.1 tp_) ∧ 0 ≤ su (t_in B_ 0 tp_) k_.toNat := fun z_ => ⟨rfl, (cb_.2.2 (k_.toNat + 1) (by omega)).2, (cb_.2.2 k_.toNat (by omega)).1⟩
      have sv1_ := sv_ (by omega)
      have s2_ := s1_ (by omega)
      have wb := ((hB_.2 tp_ (Nat.le_refl _)).2 k_.toNat (by omega)).2.2.1
      refine sm_T_go 5 (c1 := (109, [some (.inr (.inr (some (13, 0)))), some (.inl top_), some (.inl nd_), some (.inl k_), some (.inl j_)], [.inl top_, .inl 40, .inr (.inr (some (129, 0))), .inl j_], S_)) rfl ?_
      refine sm_T_bin (w := 40 * top_) rfl (bi_mul (by omega) (by omega) (by omega)) ?_
      refine sm_T_go 1 (c1 := (111, [some (.inr (.inr (some (13, 0)))), some (.inl top_), some (.inl nd_), some (.inl k_), some (.inl j_)], [.inl k_, .inl (40 * top_), .inr (.inr (some (129, 0))), .inl j_], S_)) rfl ?_
      refine sm_T_bin (w := 40 * top_ + k_) rfl (bi_add (by omega) (by omega) (by omega)) ?_
      refine sm_T_iald (n := 640) rfl rfl (by omega) (by omega) ?_
      have bx1_ : 0 ≤ S_.2.2.1 129 0 (40 * top_ + k_).toNat ∧ S_.2.2.1 129 0 (40 * top_ + k_).toNat ≤ 8 := hI_.2 129 0 _
      refine sm_T_br (a := 3) (z := 42) rfl (fun cx2_ => ?_) (fun cx2_ => ?_)
      · have cx2_ : (S_.2.2.1 129 0 (40 * top_ + k_).toNat) ≤ j_ := of_decide_eq_true cx2_
        refine sm_T_inc (a := 3) (z := 1) (v := k_) (w := k_ + 1) rfl rfl (by omega) (by omega) (by omega) ?_
        refine sm_T_go 1 (c1 := (87, [some (.inr (.inr (some (13, 0)))), some (.inl top_), some (.inl nd_), some (.inl (k_ + 1)), some (.inl j_)], [], S_)) rfl ?_
        refine sm_T_wk [some (.inr (.inr (some (13, 0)))), some (.inl top_), some (.inl nd_), some (.inl (k_ + 1)), none] (by exact ⟨rfl, rfl, rfl, rfl, trivial⟩) ?_
        refine ih_.2.1 top_ nd_ (k_ + 1) S_ hI_ hF_ ⟨?_, ?_, ?_, ?_, trivial⟩ ?_
        · have t9_ : t_in B_ 0 tp_ k_.toNat = j_ := by unfold t_in; split <;> omega
          rw [show (k_ + 1).toNat = k_.toNat + 1 by omega]
          omega
        · intro s9_ hs9_
          by_cases z9_ : s9_ < k_.toNat
          · exact h1_ s9_ z9_
          · have z8_ : s9_ = k_.toNat := by omega
            by_cases k0_ : B_.2.2.1 (40 * tp_ + k_.toNat) = 0
            · have e0_ : ein B_ tp_ s9_ = r_bt 0 (su (t_in B_ 0 tp_) k_.toNat).toNat j_.toNat := by unfold ein; rw [z8_, if_pos ⟨by omega, k0_⟩, show (B_.2.2.2.1 (40 * tp_ + k_.toNat)).toNat = j_.toNat by omega]
              rw [e0_, z8_, r_bt_l]; exact ⟨h2_, by omega⟩
            · have e0_ : ein B_ tp_ s9_ = [] := by unfold ein; rw [z8_, if_neg (fun q_ => k0_ q_.2)]
              rw [e0_]; exact ⟨fun k9_ z9_ e9_ => by simp at e9_, by simp⟩
        · exact hq_
        · exact hbg_
        · omega
      · have cx2_ : ¬ ((S_.2.2.1 129 0 (40 * top_ + k_).toNat) ≤ j_) := of_decide_eq_false cx2_
        refine sm_T_go 4 (c1 := (123, [some (.inr (.inr (some (13, 0)))), some (.inl top_), some (.inl nd_), some (.inl k_), some (.inl j_)], [.inl top_, .inl 40, .inr (.inr (some (128, 0)))], S_)) rfl ?_
        refine sm_T_bin (w := 40 * top_) rfl (bi_mul (by omega) (by omega) (by omega)) ?_
        refine sm_T_go 1 (c1 := (125, [some (.inr (.inr (some (13, 0)))), some (.inl top_), some (.inl nd_), some (.inl k_), some (.inl j_)], [.inl k_, .inl (40 * top_), .inr (.inr (some (128, 0)))], S_)) rfl ?_
        refine sm_T_bin (w := 40 * top_ + k_) rfl (bi_add (by omega) (by omega) (by omega)) ?_
        refine sm_T_iald (n := 640) rfl rfl (by omega) (by omega) ?_
        have bx3_ : 0 ≤ S_.2.2.1 128 0 (40 * top_ + k_).toNat ∧ S_.2.2.1 128 0 (40 * top_ + k_).toNat ≤ 5 := hI_.2 128 0 _
        refine sm_T_go 1 (c1 := (128, [some (.inr (.inr (some (13, 0)))), some (.inl top_), some (.inl nd_), some (.inl k_), some (.inl j_)], [.inl 1, .inl (S_.2.2.1 128 0 (40 * top_ + k_).toNat)], S_)) rfl ?_
        refine sm_T_br (a := 1) (z := 27) rfl (fun cx4_ => ?_) (fun cx4_ => ?_)
        · have cx4_ : (S_.2.2.1 128 0 (40 * top_ + k_).toNat) ≠ 1 := of_decide_eq_true cx4_
          refine sm_T_inc (a := 3) (z := 1) (v := k_) (w := k_ + 1) rfl rfl (by omega) (by omega) (by omega) ?_
          refine sm_T_go 1 (c1 := (87, [some (.inr (.inr (some (13, 0)))), some (.inl top_), some (.inl nd_), some (.inl (k_ + 1)), some (.inl j_)], [], S_)) rfl ?_
          refine sm_T_wk [some (.inr (.inr (some (13, 0)))), some (.inl top_), some (.inl nd_), some (.inl (k_ + 1)), none] (by exact ⟨rfl, rfl, rfl, rfl, trivial⟩) ?_
          refine ih_.2.1 top_ nd_ (k_ + 1) S_ hI_ hF_ ⟨?_, ?_, ?_, ?_, trivial⟩ ?_
          · have t9_ : t_in B_ 0 tp_ k_.toNat = j_ := by unfold t_in; split <;> omega
            rw [show (k_ + 1).toNat = k_.toNat + 1 by omega]
            omega
          · intro s9_ hs9_
            by_cases z9_ : s9_ < k_.toNat
            · exact h1_ s9_ z9_
            · have z8_ : s9_ = k_.toNat := by omega
              by_cases k0_ : B_.2.2.1 (40 * tp_ + k_.toNat) = 0
              · have e0_ : ein B_ tp_ s9_ = r_bt 0 (su (t_in B_ 0 tp_) k_.toNat).toNat j_.toNat := by unfold ein; rw [z8_, if_pos ⟨by omega, k0_⟩, show (B_.2.2.2.1 (40 * tp_ + k_.toNat)).toNat = j_.toNat by omega]
                rw [e0_, z8_, r_bt_l]; exact ⟨h2_, by omega⟩
              · have e0_ : ein B_ tp_ s9_ = [] := by unfold ein; rw [z8_, if_neg (fun q_ => k0_ q_.2)]
                rw [e0_]; exact ⟨fun k9_ z9_ e9_ => by simp at e9_, by simp⟩
          · exact hq_
          · exact hbg_
          · omega
        · have cx4_ : ¬ ((S_.2.2.1 128 0 (40 * top_ + k_).toNat) ≠ 1) := of_decide_eq_false cx4_
          have k0_ : B_.2.2.1 (40 * tp_ + k_.toNat) = 0 := sv1_.2.2.mp (by rw [← sv1_.1]; omega)
          have tn0_ : t_in B_ 0 tp_ k_.toNat = B_.2.2.2.1 (40 * tp_ + k_.toNat) := by unfold t_in; rw [if_pos k0_]
          have sw_ := sv1_.2.1
          refine sm_T_go 4 (c1 := (138, [some (.inr (.inr (some (13, 0)))), some (.inl top_), some (.inl nd_), some (.inl k_), some (.inl j_)], [.inl k_, .inl 8, .inr (.inr (some (144, 0)))], S_)) rfl ?_
          refine sm_T_bin (w := 8 * k_) rfl (bi_mul (by omega) (by omega) (by omega)) ?_
          refine sm_T_go 1 (c1 := (141, [some (.inr (.inr (some (13, 0)))), some (.inl top_), some (.inl nd_), some (.inl k_), some (.inl j_)], [.inl j_, .inl (8 * k_), .inr (.inr (some (144, 0)))], S_)) rfl ?_
          refine sm_T_bin (w := 8 * k_ + j_) rfl (bi_add (by omega) (by omega) (by omega)) ?_
          refine sm_T_go 2 (c1 := (144, [some (.inr (.inr (some (13, 0)))), some (.inl top_), some (.inl nd_), some (.inl k_), some (.inl j_)], [.inl nd_, .inl 2, .inl (8 * k_ + j_), .inr (.inr (some (144, 0)))], S_)) rfl ?_
          refine sm_T_bin (w := 2 * nd_) rfl (bi_mul (by omega) (by omega) (by omega)) ?_
          refine sm_T_iast (n := 5120) rfl rfl (by omega) (by omega) ?_
          have hIx5_ : gi (sm_aI S_ 144 0 (8 * k_ + j_).toNat (2 * nd_)) := gi_aI hI_ (show 0 ≤ 2 * nd_ ∧ 2 * nd_ ≤ 2047 from ⟨by omega, by omega⟩)
          have hFx6_ : ai_fr (sx_W vw_349n) S0_ (sm_aI S_ 144 0 (8 * k_ + j_).toNat (2 * nd_)) := ai_fr_tr hF_ (ai_fr_aI rfl)
          refine sm_T_inc (a := 2) (z := 1) (v := nd_) (w := nd_ + 1) rfl rfl (by omega) (by omega) (by omega) ?_
          refine sm_T_inc (a := 4) (z := 1) (v := j_) (w := j_ + 1) rfl rfl (by omega) (by omega) (by omega) ?_
          refine sm_T_go 1 (c1 := (100, [some (.inr (.inr (some (13, 0)))), some (.inl top_), some (.inl (nd_ + 1)), some (.inl k_), some (.inl (j_ + 1))], [], sm_aI S_ 144 0 (8 * k_ + j_).toNat (2 * nd_))) rfl ?_
          refine ih_.2.2.1 top_ (nd_ + 1) k_ (j_ + 1) (sm_aI S_ 144 0 (8 * k_ + j_).toNat (2 * nd_)) hIx5_ hFx6_ ⟨?_, ?_, ?_, ?_, ?_, trivial⟩ ?_
          · omega
          · intro s9_ hs9_
            have w_ := h1_ s9_ hs9_
            exact ⟨rwv_cg w_.1 (fun k9_ hk9_ => by have w2_ := w_.2; rw [rd_eq, if_neg (by omega)]), w_.2⟩
          · rw [show (j_ + 1).toNat = j_.toNat + 1 by omega, r_bt_s]
            refine rwv_ap (q_ := 8 * k_.toNat + j_.toNat) h2_ (by rw [r_bt_l]) (fun j9_ => ?_)
            rw [rd_eq, show (_ : Int).toNat = 8 * k_.toNat + j_.toNat from by omega]
            by_cases q9_ : j9_ = 8 * k_.toNat + j_.toNat
            · rw [if_pos q9_, if_pos q9_]; push_cast; omega
            · rw [if_neg q9_, if_neg q9_]
          · exact gq0_fr (w_ := ([], [144], [])) hq_ (ai_fr_aI rfl) rfl rfl rfl rfl rfl rfl rfl rfl rfl rfl rfl
          · exact hbg_
          · omega
    · rintro top_ dn_ mu_ S_ hI_ hF_ ⟨h0_, hm1_, h2_, h3_, -⟩ hm_
      have ht1_ := rtab_fr ht_ hF_ rfl rfl rfl rfl rfl
      have mo1_ : S_.1 13 0 12 = (tp_ : Int) + 1 := (hF_.1 13 0 12 rfl).trans hmo_.1
      have tp15_ := hmo_.2
      have hB_ := (hre_ tp_ (Nat.le_refl _)).2
      have B40_ := (hB_.2 tp_ (Nat.le_refl _)).1
      refine sm_T_go 1 (c1 := (164, [some (.inr (.inr (some (13, 0)))), some (.inl top_), none, some (.inl dn_), none], [.inl dn_], S_)) rfl ?_
      refine sm_T_b0 (a := 1) (z := 53) rfl (fun cx1_ => ?_) (fun cx1_ => ?_)
      · have cx1_ : dn_ ≠ 0 := of_decide_eq_true cx1_
        have PP_ : rgl F_ z_.1.1 S_ ∧ z_.1.1.length ≤ 1000 ∧ S_.1 13 0 10 = 0 ∧ (rnS S_ ∧ S_.1 13 0 53 = (z_.1.2.1 : Int) ∧ rxn z_.1.2.1 zx_ S_ ∧ ∀ s9_, s9_ < 40 → rwv (S_.2.2.1 144 0) (8 * s9_) (z_.2 s9_)) := by rcases h0_ with z9_ | z9_; (exfalso; have := z9_.1; omega); exact z9_.2.2
        have PQ_ : imq (z_.1.1.length ≤ 1000) (S_.1 13 0 10 = 0 ∧ rgl F_ z_.1.1 S_ ∧ (rnS S_ ∧ S_.1 13 0 53 = (z_.1.2.1 : Int) ∧ rxn z_.1.2.1 zx_ S_ ∧ ∀ s9_, s9_ < 40 → rwv (S_.2.2.1 144 0) (8 * s9_) (z_.2 s9_))) ∧ imq (1000 < z_.1.1.length) (S_.1 13 0 10 = 23 ∧ S_.1 13 0 11 = S0_.2.2.1 120 0 (S0_.2.2.1 124 0 tp_).toNat) := ⟨fun _ => ⟨PP_.2.2.1, PP_.1, PP_.2.2.2⟩, fun z9_ => by have := PP_.2.1; omega⟩
        refine sm_T_go 1 (c1 := (218, [some (.inr (.inr (some (13, 0)))), some (.inl top_), none, some (.inl dn_), none], [.inl dn_], S_)) rfl ?_
        refine sm_T_b0 (a := 1) (z := 15) rfl (fun cx2_ => ?_) (fun cx2_ => ?_)
        · have cx2_ : dn_ ≠ 0 := of_decide_eq_true cx2_
          refine sm_T_rv rfl ⟨_, _, rfl, rfl, hI_, hF_, ?_⟩
          exact PQ_
        · have cx2_ : ¬ (dn_ ≠ 0) := of_decide_eq_false cx2_
          exfalso; omega
      · have cx1_ : ¬ (dn_ ≠ 0) := of_decide_eq_false cx1_
        have hgi_ : 0 ≤ mu_ ∧ giM b_ n_ T_ F_ I_ tp_ B_ N_ (exm F_ I_ B_ C_ 16) (nxm F_ I_ B_ C_ 16) z_ zx_ mu_.toNat S_ := by rcases h0_ with z9_ | z9_; exact z9_.2; (exfalso; have := z9_.1; omega)
        obtain ⟨hmu_, fr_, M_, f_, A_, c_, p_, ce_, rest, E_, O_, q_, q9_, E9_, O9_, w_, gk_, x9_, GN_⟩ := hgi_
        have G_ := GN_.1
        have G0_ := G_
        obtain ⟨g1_, g2_, g3_, g4_, g5_, g6_, g7_, g8_, g9_, ga_, gb_, gc_, gd_, ge_, gf_, gg_⟩ := G_
        have lb_ := rgl_b gc_
        have lz := gin_le exm_hX G0_
        have lb1_ := lb_.1
        have lb2_ := lb_.2.2.1
        have lb3_ := lb_.2.2.2.1
        have lb4_ := lb_.2.2.2.2
        have g11_ := g1_.1
        have hrn0_ := h3_
        have bx3_ : 0 ≤ S_.1 13 0 37 ∧ S_.1 13 0 37 ≤ 1014 := hI_.1 13 0 37 rfl
        have bx4_ : 0 ≤ S_.1 13 0 38 ∧ S_.1 13 0 38 ≤ 19 := hI_.1 13 0 38 rfl
        refine sm_T_go 4 (c1 := (175, [some (.inr (.inr (some (13, 0)))), some (.inl top_), none, some (.inl dn_), none], [.inl (S_.1 13 0 38), .inl (S_.1 13 0 37)], S_)) rfl ?_
        refine sm_T_bin (w := (S_.1 13 0 37) - (S_.1 13 0 38)) rfl (bi_sub (by omega) (by omega) (by omega)) ?_
        refine sm_T_go 1 (c1 := (179, [some (.inr (.inr (some (13, 0)))), some (.inl top_), none, some (.inl dn_), none], [.inl 1000, .inl ((S_.1 13 0 37) - (S_.1 13 0 38))], S_)) rfl ?_
        refine sm_T_br (a := 4) (z := 38) rfl (fun cx5_ => ?_) (fun cx5_ => ?_)
        · have cx5_ : 1000 < (S_.1 13 0 37) - (S_.1 13 0 38) := of_decide_eq_true cx5_
          refine sm_T_go 1 (c1 := (218, [some (.inr (.inr (some (13, 0)))), some (.inl top_), none, some (.inl dn_), none], [.inl dn_], S_)) rfl ?_
          refine sm_T_b0 (a := 1) (z := 15) rfl (fun cx6_ => ?_) (fun cx6_ => ?_)
          · have cx6_ : dn_ ≠ 0 := of_decide_eq_true cx6_
            exfalso; omega
          · have cx6_ : ¬ (dn_ ≠ 0) := of_decide_eq_false cx6_
            refine sm_T_go 5 (c1 := (229, [some (.inr (.inr (some (13, 0)))), some (.inl top_), none, some (.inl dn_), none], [.inl top_, .inr (.inr (some (124, 0))), .inl 23, .inr (.inr (some (13, 0)))], S_)) rfl ?_
            refine sm_T_iald (n := 16) rfl rfl (by omega) (by omega) ?_
            have bx7_ : 0 ≤ S_.2.2.1 124 0 top_.toNat ∧ S_.2.2.1 124 0 top_.toNat ≤ 1280 := hI_.2 124 0 _
            refine sm_T_cal (d1 := 0) (Q1 := vq_294 23 (S_.2.2.1 124 0 top_.toNat) S_) rfl rfl (by decide) (vc_294 23 (S_.2.2.1 124 0 top_.toNat) S_ hI_ (by decide) (by omega)) (fun u_ Sx8_ px11_ => ?_)
            obtain ⟨rfl, hIx9_, hFx10_, px11_⟩ := px11_
            have hFx12_ : ai_fr (sx_W vw_349n) S0_ Sx8_ := ai_fr_tr hF_ (fr_le hFx10_ rfl)
            have ex13_ : Sx8_.1 13 0 37 = S_.1 13 0 37 := hFx10_.1 13 0 37 rfl
            have ex14_ : Sx8_.1 13 0 38 = S_.1 13 0 38 := hFx10_.1 13 0 38 rfl
            have PQ_ : imq (z_.1.1.length ≤ 1000) (Sx8_.1 13 0 10 = 0 ∧ rgl F_ z_.1.1 Sx8_ ∧ (rnS Sx8_ ∧ Sx8_.1 13 0 53 = (z_.1.2.1 : Int) ∧ rxn z_.1.2.1 zx_ Sx8_ ∧ ∀ s9_, s9_ < 40 → rwv (Sx8_.2.2.1 144 0) (8 * s9_) (z_.2 s9_))) ∧ imq (1000 < z_.1.1.length) (Sx8_.1 13 0 10 = 23 ∧ Sx8_.1 13 0 11 = S0_.2.2.1 120 0 (S0_.2.2.1 124 0 tp_).toNat) := ⟨fun z9_ => by omega, fun _ => by rcases px11_ with x_ | x_; (exact absurd g2_.1 x_.1); (refine ⟨x_.2.1, x_.2.2.trans ?_⟩; rw [fr_arr (t := 120) (i := 0) hF_ rfl, fr_arr (t := 124) (i := 0) hF_ rfl, show top_.toNat = tp_ by omega])⟩
            refine sm_T_rv rfl ⟨_, _, rfl, rfl, hIx9_, hFx12_, ?_⟩
            exact PQ_
        · have cx5_ : ¬ (1000 < (S_.1 13 0 37) - (S_.1 13 0 38)) := of_decide_eq_false cx5_
          refine sm_T_go 2 (c1 := (185, [some (.inr (.inr (some (13, 0)))), some (.inl top_), none, some (.inl dn_), none], [.inl 125, .inr (.inr (some (13, 0)))], S_)) rfl ?_
          refine sm_T_cal (d1 := 0) (Q1 := vq_295 125 b_ n_ T_ (.inr p_) S_) rfl rfl (by decide) (vc_295 125 b_ n_ T_ (.inr p_) S_ hI_ (by exact ht1_) (by exact g2_) (by decide)) (fun u_ Sx15_ px18_ => ?_)
          obtain ⟨rfl, vx20_, rfl, px18_⟩ := px18_
          have e185_ := px18_.2 p_ rfl
          have r185_ := px18_.1.1
          refine sm_T_b0 (a := 1) (z := 10) rfl (fun cx21_ => ?_) (fun cx21_ => ?_)
          · have cx21_ : vx20_ ≠ 0 := of_decide_eq_true cx21_
            have k125_ : lx_kd b_ n_ p_ = 125 := e185_.mp (by omega)
            have bx22_ : 0 ≤ S_.1 13 0 29 ∧ S_.1 13 0 29 ≤ 16 := hI_.1 13 0 29 rfl
            refine sm_T_go 2 (c1 := (202, [some (.inr (.inr (some (13, 0)))), some (.inl top_), none, some (.inl dn_), none], [.inl (S_.1 13 0 29)], S_)) rfl ?_
            refine sm_T_b0 (a := 5) (z := 10) rfl (fun cx23_ => ?_) (fun cx23_ => ?_)
            · have cx23_ : (S_.1 13 0 29) ≤ 0 := of_decide_eq_true cx23_
              have fr0_ : fr_ = 0 := by omega
              subst fr0_
              have zz_ := gin_D G0_ k125_
              have zy_ := giN_D GN_ k125_
              have GR_ : ∀ s9_, s9_ < 40 → rwv (S_.2.2.1 144 0) (8 * s9_) (E_ s9_) := by (intro s9_ hs9_; have e9_ := gin_e G0_ k125_; by_cases y9_ : s9_ < A_.1 M_; (have w9_ := (gb_.1 (by omega)).1 s9_ (by omega); rw [show 8 * (40 * 0 + s9_) = 8 * s9_ by omega] at w9_; exact w9_); (rw [g8_ s9_ (by rw [← e9_.1]; omega)]; intro k9_ z9_ e8_; simp at e8_))
              obtain ⟨mg_, mg1_⟩ : ∃ mg_ : Int, mg_ = -1 := ⟨-1, rfl⟩
              have m27_ := hm1_
              have H3_ := h3_
              refine sm_T_go 3 (c1 := (163, [some (.inr (.inr (some (13, 0)))), some (.inl top_), none, some (.inl 1), none], [], S_)) rfl ?_
              refine ih_.2.2.2 top_ 1 mg_ S_ hI_ hF_ ⟨?_, ?_, ?_, ?_, trivial⟩ ?_
              · first | exact Or.inl ⟨by omega, mg1_.1, mg2_⟩ | (refine Or.inr ⟨rfl, mg1_, ?_, ?_, g2_.1, ?_, ?_, ?_, ?_⟩; (rw [zz_]; exact gc_); (rw [zz_]; show q_.1.length ≤ 1000; omega); (exact hrn0_ (by omega)); (rw [zz_]; exact g1_.2.2.1); (rw [zz_, zy_]; exact GN_.2.2.2.2 (by omega)); (intro s9_ hs9_; rw [zz_]; exact GR_ s9_ hs9_))
              · exact m27_
              · exact h2_
              · exact H3_
              · omega
            · have cx23_ : ¬ ((S_.1 13 0 29) ≤ 0) := of_decide_eq_false cx23_
              obtain ⟨fr0_, hfr_⟩ : ∃ fr0_, fr_ = fr0_ + 1 := ⟨fr_ - 1, by omega⟩
              subst hfr_
              obtain ⟨K_, y1_, y2_, y3_, y4_, -⟩ := gin_L0 tp15_ G0_
              refine sm_T_go 1 (c1 := (206, [some (.inr (.inr (some (13, 0)))), some (.inl top_), none, some (.inl dn_), none], [.inr (.inr (some (13, 0)))], S_)) rfl ?_
              refine sm_T_cal (d1 := 0) (Q1 := vq_346 fr0_ M_ K_ (B_.1 M_) S_) rfl rfl (by decide) (vc_346 fr0_ M_ K_ (B_.1 M_) S_ hI_ (by omega) (by exact ⟨g1_.2.1, y3_⟩) (by exact ⟨y1_, y2_⟩) (by exact ⟨(re1_fr (hre_ M_ (by omega)).1 hF_ rfl rfl rfl rfl rfl rfl).1, ((a_ok_le hB_ (show M_ ≤ tp_ by omega)).2 M_ (Nat.le_refl _)).1⟩)) (fun u_ Sx24_ px27_ => ?_)
              obtain ⟨rfl, hIx25_, hFx26_, px27_⟩ := px27_
              have hFx28_ : ai_fr (sx_W vw_349n) S0_ Sx24_ := ai_fr_tr hF_ (fr_le hFx26_ rfl)
              have ex29_ : Sx24_.1 13 0 37 = S_.1 13 0 37 := hFx26_.1 13 0 37 rfl
              have ex30_ : Sx24_.1 13 0 38 = S_.1 13 0 38 := hFx26_.1 13 0 38 rfl
              obtain ⟨x1_, x2_, x3_, x4_, x5_⟩ := px27_
              obtain ⟨mg_, mg1_, mg2_⟩ : ∃ mg_ : Int, (0 ≤ mg_ ∧ mg_ < mu_) ∧ giM b_ n_ T_ F_ I_ tp_ B_ N_ (exm F_ I_ B_ C_ 16) (nxm F_ I_ B_ C_ 16) z_ zx_ mg_.toNat Sx24_ := by obtain ⟨m9_, v1_, v2_⟩ := giN_L ht_.1 GN_ k125_ y1_ x1_ x2_ x3_ x4_ x5_ (fr_arr hFx26_ rfl) (fr_arr hFx26_ rfl) (fr_arr hFx26_ rfl) (fr_arr hFx26_ rfl) (fr_arr hFx26_ rfl) (hFx26_.1 13 0 53 rfl) (hFx26_.1 13 0 10 rfl) (fun z9_ => rgl_fr z9_ hFx26_ rfl rfl rfl rfl rfl rfl) (fr_arr (t := 150) hFx26_ rfl) (fun q7_ => rxn_fr (GN_.2.2.2.2 (by omega)) hFx26_); exact ⟨(m9_ : Int), by omega, by rw [Int.toNat_natCast]; exact v2_⟩
              have m27_ := (hFx26_.1 13 0 27 rfl).trans hm1_
              have H3_ : imq (Sx24_.1 13 0 37 - Sx24_.1 13 0 38 ≤ 1000) (rnS Sx24_) := fun q7_ => rnS_fr (hrn0_ (by omega)) hFx26_ rfl rfl rfl rfl
              refine sm_T_go 1 (c1 := (163, [some (.inr (.inr (some (13, 0)))), some (.inl top_), none, some (.inl dn_), none], [], Sx24_)) rfl ?_
              refine ih_.2.2.2 top_ dn_ mg_ Sx24_ hIx25_ hFx28_ ⟨?_, ?_, ?_, ?_, trivial⟩ ?_
              · first | exact Or.inl ⟨by omega, mg1_.1, mg2_⟩ | (refine Or.inr ⟨rfl, mg1_, ?_, ?_, g2_.1, ?_, ?_, ?_, ?_⟩; (rw [zz_]; exact gc_); (rw [zz_]; show q_.1.length ≤ 1000; omega); (exact hrn0_ (by omega)); (rw [zz_]; exact g1_.2.2.1); (rw [zz_, zy_]; exact GN_.2.2.2.2 (by omega)); (intro s9_ hs9_; rw [zz_]; exact GR_ s9_ hs9_))
              · exact m27_
              · exact h2_
              · exact H3_
              · omega
          · have cx21_ : ¬ (vx20_ ≠ 0) := of_decide_eq_false cx21_
            have k125_ : lx_kd b_ n_ p_ ≠ 125 := fun z9_ => by have := e185_.mpr z9_; omega
            obtain ⟨f1_, rr_, kk_, rest1, q1_, E1_, O1_, V1_, i1_, i2_, i3_, i4_, i5_, i6_, i7_, i8_, i9_⟩ := gin_it ht_.1 G0_ k125_
            have mx_ := mch_ex g3_
            have M15_ := mx_.1.1
            refine sm_T_go 1 (c1 := (192, [some (.inr (.inr (some (13, 0)))), some (.inl top_), none, some (.inl dn_), none], [.inr (.inr (some (13, 0)))], S_)) rfl ?_
            refine sm_T_cal (d1 := 10) (Q1 := vq_348n b_ n_ T_ F_ I_ A_ B_ (exm F_ I_ B_ C_ 16) M_ fr_ q_ E_ O_ p_ N_ c_ kk_ rr_ q1_ E1_ O1_ V1_ (nxm F_ I_ B_ C_ 16) x9_ S_) rfl rfl (by decide) (vc_348n b_ n_ T_ F_ I_ A_ B_ (exm F_ I_ B_ C_ 16) M_ fr_ q_ E_ O_ p_ N_ c_ kk_ rr_ q1_ E1_ O1_ V1_ (nxm F_ I_ B_ C_ 16) x9_ S_ hI_ (by exact ht1_) (by exact g2_) (by exact hm1_) (by exact ⟨a_ok_le hB_ (by omega), g1_.2.1, ⟨g1_.1, by omega⟩, fun m_ hm_ => re1_fr (hre_ m_ (by omega)).1 hF_ rfl rfl rfl rfl rfl rfl⟩) (by exact mx_.1) (by exact mx_.2.1) (by exact exm_hX) (by exact g6_.1) (by exact gb_.1) (by exact gc_) (by exact g6_) (by exact i1_) (by exact i2_) (by exact i3_) (by exact i4_) (by exact g8_) (by exact g7_) (by exact g9_) (by exact g1_.2.2.1) (by omega) (by (refine ⟨?_, by omega⟩; rw [fr_arr (t := 132) (i := 0) hF_ rfl, show (S_.1 13 0 12 - 1).toNat = tp_ by omega]; exact hI1_)) (by exact g1_.2.2.2.2) (by omega) (by exact hrn0_ (by omega)) (by exact gb_.2 (by omega)) (by exact exm_w 16) (by (have q7_ : q1_.2.1 ≤ q9_.2.1 := ev_R (exm_w 16) i7_; have q8_ := gin_R (exm_w 16) G0_; omega)) (by exact mx_.2.2.1) (by exact GN_.2.2.1) (by exact GN_.2.2.2.2 (by omega))) (fun u_ Sx31_ px34_ => ?_)
            obtain ⟨rfl, hIx32_, hFx33_, px34_⟩ := px34_
            have hFx35_ : ai_fr (sx_W vw_349n) S0_ Sx31_ := ai_fr_tr hF_ (fr_le hFx33_ rfl)
            have ex36_ : Sx31_.1 13 0 38 = S_.1 13 0 38 := hFx33_.1 13 0 38 rfl
            obtain ⟨mg_, mg1_, mg2_⟩ : ∃ mg_ : Int, (0 ≤ mg_ ∧ mg_ < mu_) ∧ giM b_ n_ T_ F_ I_ tp_ B_ N_ (exm F_ I_ B_ C_ 16) (nxm F_ I_ B_ C_ 16) z_ zx_ mg_.toNat Sx31_ := by by_cases k8_ : lx_kd b_ n_ p_ = 8; (obtain ⟨m9_, y1_, y2_⟩ := giN_8 ht_.1 (fun m_ hm_ => gmd_fr (hgm_ m_ hm_) hF_ rfl) GN_ i2_ i5_ i6_ i4_ i7_ i8_ (fr_arr hFx33_ rfl) (by omega) (by omega) (px34_.1.1.2 k8_) (px34_.2.2 k8_); exact ⟨(m9_ : Int), by omega, by rw [Int.toNat_natCast]; exact y2_⟩); (obtain ⟨m9_, y1_, y2_⟩ := giN_N (kk_ := kk_) ht_.1 GN_ i2_ i5_ i6_ i7_ i8_ i9_ (fr_arr hFx33_ rfl) (exm_w 16) (by omega) i4_ (by have q7_ : q1_.2.1 ≤ q9_.2.1 := ev_R (exm_w 16) i7_; have q8_ := gin_R (exm_w 16) G0_; omega) (px34_.1.1.1 k8_) (px34_.2.1 k8_); exact ⟨(m9_ : Int), by omega, by rw [Int.toNat_natCast]; exact y2_⟩)
            have m27_ := (hFx33_.1 13 0 27 rfl).trans hm1_
            have H3_ := px34_.1.2
            refine sm_T_go 1 (c1 := (163, [some (.inr (.inr (some (13, 0)))), some (.inl top_), none, some (.inl dn_), none], [], Sx31_)) rfl ?_
            refine ih_.2.2.2 top_ dn_ mg_ Sx31_ hIx32_ hFx35_ ⟨?_, ?_, ?_, ?_, trivial⟩ ?_
            · first | exact Or.inl ⟨by omega, mg1_.1, mg2_⟩ | (refine Or.inr ⟨rfl, mg1_, ?_, ?_, g2_.1, ?_, ?_, ?_, ?_⟩; (rw [zz_]; exact gc_); (rw [zz_]; show q_.1.length ≤ 1000; omega); (exact hrn0_ (by omega)); (rw [zz_]; exact g1_.2.2.1); (rw [zz_, zy_]; exact GN_.2.2.2.2 (by omega)); (intro s9_ hs9_; rw [zz_]; exact GR_ s9_ hs9_))
            · exact m27_
            · exact h2_
            · exact H3_
            · omega
set_option maxHeartbeats 3000000 in
set_option maxRecDepth 20000 in
theorem vc_349n {sc_ : Nat × (Nat → Int)} (b_ : Nat → Int) (n_ : Nat) (T_ : Nat) (F_ : Nat) (I_ : Nat) (Rg_ : Nat) (tp_ : Nat) (B_ : pA) (N_ : Nat → Nat) (C_ : Nat → List Int) (z_ : gQ × gE) (zx_ : gN) (S0_ : sm_S) (hI_ : gi S0_) (ht_ : rtab b_ n_ T_ S0_) (hf_ : (S0_.1 13 0 10) = 0) (hmo_ : (S0_.1 13 0 12) = (tp_ : Int) + 1 ∧ tp_ ≤ 15) (hre_ : ∀ m_, m_ ≤ tp_ → re1 b_ n_ T_ B_ m_ S0_ ∧ a_ok b_ n_ B_ m_) (hgm_ : ∀ m_, m_ ≤ tp_ → gmd b_ n_ T_ B_ N_ C_ m_ S0_) (hI1_ : S0_.2.2.1 132 0 tp_ = (I_ : Int)) (hR1_ : S0_.2.2.1 134 0 tp_ = (Rg_ : Int)) (hFn_ : F_ = 1 + I_ + Rg_ ∧ I_ + Rg_ ≤ 12) (hsu_ : su (t_in B_ 0 tp_) (B_.1 tp_) = (I_ : Int)) (hz_ : exm F_ I_ B_ C_ 16 tp_ ([], 0, 1) (ein B_ tp_) = some z_) (hzR_ : z_.1.2.1 = Rg_) (hzx_ : nxm F_ I_ B_ C_ 16 tp_ ([], 0, 1) (ein B_ tp_) nx0 = zx_) : sm_T (mt_P sc_) 11 349 (0, [some (.inr (.inr (some (13, 0)))), none, none, none, none], [], S0_) (fun ro9_ => ∃ u_ S1_, ro9_ = (.inl u_, S1_, 0) ∧ vq_349n b_ n_ T_ F_ I_ Rg_ tp_ B_ N_ C_ z_ zx_ S0_ u_ S1_) := by
  have hF_ : ai_fr (sx_W vw_349n) S0_ S0_ := ai_fr_rf
  have tp15_ := hmo_.2
  have tpe_ : (S0_.1 13 0 12 - 1).toNat = tp_ := by omega
  have i1_ : S0_.2.2.1 132 0 (S0_.1 13 0 12 - 1).toNat = (I_ : Int) := by rw [tpe_]; exact hI1_
  have i2_ : S0_.2.2.1 134 0 (S0_.1 13 0 12 - 1).toNat = (Rg_ : Int) := by rw [tpe_]; exact hR1_
  have bx1_ : 0 ≤ S0_.1 13 0 12 ∧ S0_.1 13 0 12 ≤ 16 := hI_.1 13 0 12 rfl
  refine sm_T_go 3 (c1 := (5, [some (.inr (.inr (some (13, 0)))), none, none, none, none], [.inl 1, .inl (S0_.1 13 0 12)], S0_)) rfl ?_
  refine sm_T_bin (w := (S0_.1 13 0 12) - 1) rfl (bi_sub (by omega) (by omega) (by omega)) ?_
  have hIx2_ : gi (sm_pI S0_ 13 0 27 1) := gi_pI hI_ (show 0 ≤ 1 ∧ 1 ≤ 2 from ⟨by omega, by omega⟩)
  have hFx3_ : ai_fr (sx_W vw_349n) S0_ (sm_pI S0_ 13 0 27 1) := ai_fr_tr hF_ (ai_fr_pI rfl)
  have hIx4_ : gi (sm_pI (sm_pI S0_ 13 0 27 1) 13 0 29 0) := gi_pI hIx2_ (show 0 ≤ 0 ∧ 0 ≤ 16 from ⟨by omega, by omega⟩)
  have hFx5_ : ai_fr (sx_W vw_349n) S0_ (sm_pI (sm_pI S0_ 13 0 27 1) 13 0 29 0) := ai_fr_tr hFx3_ (ai_fr_pI rfl)
  refine sm_T_go 12 (c1 := (24, [some (.inr (.inr (some (13, 0)))), some (.inl ((S0_.1 13 0 12) - 1)), none, none, none], [.inl ((S0_.1 13 0 12) - 1), .inr (.inr (some (132, 0))), .inl 1, .inr (.inr (some (13, 0)))], sm_pI (sm_pI S0_ 13 0 27 1) 13 0 29 0)) rfl ?_
  refine sm_T_iald (n := 16) rfl rfl (by omega) (by omega) ?_
  have bx6_ : 0 ≤ S0_.2.2.1 132 0 ((S0_.1 13 0 12) - 1).toNat ∧ S0_.2.2.1 132 0 ((S0_.1 13 0 12) - 1).toNat ≤ 320 := hI_.2 132 0 _
  refine sm_T_go 0 (c1 := (25, [some (.inr (.inr (some (13, 0)))), some (.inl ((S0_.1 13 0 12) - 1)), none, none, none], [.inl (S0_.2.2.1 132 0 ((S0_.1 13 0 12) - 1).toNat), .inl 1, .inr (.inr (some (13, 0)))], sm_pI (sm_pI S0_ 13 0 27 1) 13 0 29 0)) rfl ?_
  refine sm_T_bin (w := (S0_.2.2.1 132 0 ((S0_.1 13 0 12) - 1).toNat) + 1) rfl (bi_add (by omega) (by omega) (by omega)) ?_
  refine sm_T_go 3 (c1 := (31, [some (.inr (.inr (some (13, 0)))), some (.inl ((S0_.1 13 0 12) - 1)), none, none, none], [.inl ((S0_.1 13 0 12) - 1), .inr (.inr (some (134, 0))), .inl ((S0_.2.2.1 132 0 ((S0_.1 13 0 12) - 1).toNat) + 1), .inr (.inr (some (13, 0)))], sm_pI (sm_pI S0_ 13 0 27 1) 13 0 29 0)) rfl ?_
  refine sm_T_iald (n := 16) rfl rfl (by omega) (by omega) ?_
  have bx7_ : 0 ≤ S0_.2.2.1 134 0 ((S0_.1 13 0 12) - 1).toNat ∧ S0_.2.2.1 134 0 ((S0_.1 13 0 12) - 1).toNat ≤ 1073741823 := hI_.2 134 0 _
  refine sm_T_go 0 (c1 := (32, [some (.inr (.inr (some (13, 0)))), some (.inl ((S0_.1 13 0 12) - 1)), none, none, none], [.inl (S0_.2.2.1 134 0 ((S0_.1 13 0 12) - 1).toNat), .inl ((S0_.2.2.1 132 0 ((S0_.1 13 0 12) - 1).toNat) + 1), .inr (.inr (some (13, 0)))], sm_pI (sm_pI S0_ 13 0 27 1) 13 0 29 0)) rfl ?_
  refine sm_T_bin (w := (S0_.2.2.1 132 0 ((S0_.1 13 0 12) - 1).toNat) + (S0_.2.2.1 134 0 ((S0_.1 13 0 12) - 1).toNat) + 1) rfl (bi_add (by omega) (by omega) (by omega)) ?_
  have hIx8_ : gi (sm_pI (sm_pI (sm_pI S0_ 13 0 27 1) 13 0 29 0) 13 0 37 ((S0_.2.2.1 132 0 ((S0_.1 13 0 12) - 1).toNat) + (S0_.2.2.1 134 0 ((S0_.1 13 0 12) - 1).toNat) + 1)) := gi_pI hIx4_ (show 0 ≤ (S0_.2.2.1 132 0 ((S0_.1 13 0 12) - 1).toNat) + (S0_.2.2.1 134 0 ((S0_.1 13 0 12) - 1).toNat) + 1 ∧ (S0_.2.2.1 132 0 ((S0_.1 13 0 12) - 1).toNat) + (S0_.2.2.1 134 0 ((S0_.1 13 0 12) - 1).toNat) + 1 ≤ 1014 from ⟨by omega, by omega⟩)
  have hFx9_ : ai_fr (sx_W vw_349n) S0_ (sm_pI (sm_pI (sm_pI S0_ 13 0 27 1) 13 0 29 0) 13 0 37 ((S0_.2.2.1 132 0 ((S0_.1 13 0 12) - 1).toNat) + (S0_.2.2.1 134 0 ((S0_.1 13 0 12) - 1).toNat) + 1)) := ai_fr_tr hFx5_ (ai_fr_pI rfl)
  have hIx10_ : gi (sm_pI (sm_pI (sm_pI (sm_pI S0_ 13 0 27 1) 13 0 29 0) 13 0 37 ((S0_.2.2.1 132 0 ((S0_.1 13 0 12) - 1).toNat) + (S0_.2.2.1 134 0 ((S0_.1 13 0 12) - 1).toNat) + 1)) 13 0 38 ((S0_.2.2.1 132 0 ((S0_.1 13 0 12) - 1).toNat) + (S0_.2.2.1 134 0 ((S0_.1 13 0 12) - 1).toNat) + 1)) := gi_pI hIx8_ (show 0 ≤ (S0_.2.2.1 132 0 ((S0_.1 13 0 12) - 1).toNat) + (S0_.2.2.1 134 0 ((S0_.1 13 0 12) - 1).toNat) + 1 ∧ (S0_.2.2.1 132 0 ((S0_.1 13 0 12) - 1).toNat) + (S0_.2.2.1 134 0 ((S0_.1 13 0 12) - 1).toNat) + 1 ≤ 19 from ⟨by omega, by omega⟩)
  have hFx11_ : ai_fr (sx_W vw_349n) S0_ (sm_pI (sm_pI (sm_pI (sm_pI S0_ 13 0 27 1) 13 0 29 0) 13 0 37 ((S0_.2.2.1 132 0 ((S0_.1 13 0 12) - 1).toNat) + (S0_.2.2.1 134 0 ((S0_.1 13 0 12) - 1).toNat) + 1)) 13 0 38 ((S0_.2.2.1 132 0 ((S0_.1 13 0 12) - 1).toNat) + (S0_.2.2.1 134 0 ((S0_.1 13 0 12) - 1).toNat) + 1)) := ai_fr_tr hFx9_ (ai_fr_pI rfl)
  refine sm_T_go 7 (c1 := (46, [some (.inr (.inr (some (13, 0)))), some (.inl ((S0_.1 13 0 12) - 1)), some (.inl 0), none, none], [], sm_pI (sm_pI (sm_pI (sm_pI S0_ 13 0 27 1) 13 0 29 0) 13 0 37 ((S0_.2.2.1 132 0 ((S0_.1 13 0 12) - 1).toNat) + (S0_.2.2.1 134 0 ((S0_.1 13 0 12) - 1).toNat) + 1)) 13 0 38 ((S0_.2.2.1 132 0 ((S0_.1 13 0 12) - 1).toNat) + (S0_.2.2.1 134 0 ((S0_.1 13 0 12) - 1).toNat) + 1))) rfl ?_
  refine (vl_349n b_ n_ T_ F_ I_ Rg_ tp_ B_ N_ C_ z_ zx_ S0_ ht_ hf_ hmo_ hre_ hgm_ hI1_ hR1_ hFn_ hsu_ hz_ hzR_ hzx_ _).1 ((S0_.1 13 0 12) - 1) 0 (sm_pI (sm_pI (sm_pI (sm_pI S0_ 13 0 27 1) 13 0 29 0) 13 0 37 ((S0_.2.2.1 132 0 ((S0_.1 13 0 12) - 1).toNat) + (S0_.2.2.1 134 0 ((S0_.1 13 0 12) - 1).toNat) + 1)) 13 0 38 ((S0_.2.2.1 132 0 ((S0_.1 13 0 12) - 1).toNat) + (S0_.2.2.1 134 0 ((S0_.1 13 0 12) - 1).toNat) + 1)) hIx10_ hFx11_ ⟨?_, ?_, ?_, trivial⟩ (Nat.lt_succ_self _)
  · exact ⟨by decide, by decide, by omega⟩
  · (intro j_ hj_; exact absurd hj_ (Nat.not_lt_zero _))
  · (refine ⟨?_, ?_, ?_, ?_, ?_⟩ <;> (try simp only [rd_eq, rd_ne, rf_eq, rf_nk, rf_nt, rd_fa, rd_af, rd_fl, rd_al, rd_lf, rd_la, rd_leq, rd_lne, rd_fr, rd_ar, ne_eq, Nat.reduceEqDiff, not_false_eq_true]) <;> omega)
end
/-! 99.ztU -/
section
/-! rows of values, bit by bit; written by wip/p55/gen/vg -/

/-! bits of_ rows -/
def lbt (x_ : Int) (i_ : Nat) : Bool := (Int64.ofInt x_).toBitVec.getLsbD i_
theorem lbt_3 {x_ y_ : Int} {i_ : Nat} : lbt (l_3 x_ y_) i_ = (lbt x_ i_ && lbt y_ i_) := by
  unfold lbt l_3
  rw [Int64.ofInt_toInt, Int64.toBitVec_and, BitVec.getLsbD_and]
theorem lbt_5 {x_ y_ : Int} {i_ : Nat} : lbt (l_5 x_ y_) i_ = Bool.xor (lbt x_ i_) (lbt y_ i_) := by
  unfold lbt l_5
  rw [Int64.ofInt_toInt, Int64.toBitVec_xor, BitVec.getLsbD_xor]
theorem lbt_e {x_ y_ : Int} (hx_ : lcn x_) (hy_ : lcn y_) (h_ : ∀ i_, i_ < 64 → lbt x_ i_ = lbt y_ i_) : x_ = y_ := by
  have e_ : Int64.ofInt x_ = Int64.ofInt y_ := Int64.toBitVec_inj.mp (BitVec.eq_of_getLsbD_eq (fun i_ hi_ => h_ i_ hi_))
  have q_ : (Int64.ofInt x_).toInt = (Int64.ofInt y_).toInt := by rw [e_]
  exact hx_.symm.trans (q_.trans hy_)
theorem lbt_0 {i_ : Nat} : lbt 0 i_ = false := by
  have h_ := lbt_5 (x_ := 0) (y_ := 0) (i_ := i_)
  rw [l5_self, Bool.xor_self] at h_
  exact h_
theorem lbt_m1 : ∀ i_ : Fin 64, lbt (-1) (i_ : Nat) = true := by decide +kernel
theorem lbt_m {i_ : Nat} (h_ : i_ < 64) : lbt (-1) i_ = true := lbt_m1 ⟨i_, h_⟩
theorem lbt_k1 : ∀ b_ : Fin 6, ∀ i_ : Fin 64, lbt (l_1 (l_s0 1 (i_shl 1 ((b_ : Nat) : Int))) 1) (i_ : Nat) = decide ((i_ : Nat) < 2 ^ (b_ : Nat)) := by decide +kernel
theorem lbt_k {b_ i_ : Nat} (hb_ : b_ < 6) (hi_ : i_ < 64) : lbt (l_1 (l_s0 1 (i_shl 1 (b_ : Int))) 1) i_ = decide (i_ < 2 ^ b_) := lbt_k1 ⟨b_, hb_⟩ ⟨i_, hi_⟩
/-- words of_ a_ row_, and what is_ cut_ off_ -/
def wmk (bi_ : Int) (W_ : Nat) (mk_ : Int) : Prop := (6 ≤ bi_ ∧ bi_ ≤ 12 ∧ W_ = 2 ^ (bi_ - 6).toNat ∧ mk_ = -1) ∨ (0 ≤ bi_ ∧ bi_ < 6 ∧ W_ = 1 ∧ mk_ = l_1 (l_s0 1 (i_shl 1 bi_)) 1)
theorem wmk_r : wmk 12 64 (-1) := Or.inl ⟨by decide, by decide, by decide, rfl⟩
theorem p2_le {a_ b_ : Nat} (h_ : a_ ≤ b_) : 2 ^ a_ ≤ 2 ^ b_ := Nat.pow_le_pow_right (by decide) h_
theorem wmk_q {bi_ W_ q_ : Nat} {mk_ : Int} (h_ : wmk (bi_ : Int) W_ mk_) (hq_ : q_ < 2 ^ bi_) : q_ / 64 < W_ ∧ lbt mk_ (q_ % 64) = true := by
  rcases h_ with ⟨h1_, h2_, h3_, h4_⟩ | ⟨h1_, h2_, h3_, h4_⟩
  · obtain ⟨c_, rfl⟩ : ∃ c_, bi_ = 6 + c_ := ⟨bi_ - 6, by omega⟩
    rw [show (((6 + c_ : Nat) : Int) - 6).toNat = c_ by omega] at h3_
    rw [Nat.pow_add] at hq_
    have hq_ : q_ < 64 * 2 ^ c_ := hq_
    rw [h3_, h4_]
    exact ⟨by omega, lbt_m (Nat.mod_lt _ (by decide))⟩
  · have l_ := p2_le (show bi_ ≤ 5 by omega)
    have l_ : 2 ^ bi_ ≤ 32 := l_
    rw [h3_, h4_, lbt_k (by omega) (Nat.mod_lt _ (by decide))]
    exact ⟨by omega, decide_eq_true (by omega)⟩
theorem wmk_i {bi_ W_ j_ i_ : Nat} {mk_ : Int} (h_ : wmk (bi_ : Int) W_ mk_) (hj_ : j_ < W_) (hi_ : i_ < 64) (hm_ : lbt mk_ i_ = true) : 64 * j_ + i_ < 2 ^ bi_ := by
  rcases h_ with ⟨h1_, h2_, h3_, h4_⟩ | ⟨h1_, h2_, h3_, h4_⟩
  · obtain ⟨c_, rfl⟩ : ∃ c_, bi_ = 6 + c_ := ⟨bi_ - 6, by omega⟩
    rw [show (((6 + c_ : Nat) : Int) - 6).toNat = c_ by omega] at h3_
    rw [Nat.pow_add]
    show 64 * j_ + i_ < 64 * 2 ^ c_
    rw [h3_] at hj_
    omega
  · rw [h4_, lbt_k (by omega) hi_] at hm_
    have := of_decide_eq_true hm_
    omega
theorem wmk_c {bi_ W_ : Nat} {mk_ : Int} (h_ : wmk (bi_ : Int) W_ mk_) : lcn mk_ ∧ mk_ ≠ 0 ∧ bi_ ≤ 12 ∧ 0 < W_ := by
  rcases h_ with ⟨h1_, h2_, h3_, h4_⟩ | ⟨h1_, h2_, h3_, h4_⟩
  · rw [h4_]
    exact ⟨mkm.1, mkm.2.2, by omega, by rw [h3_]; exact Nat.two_pow_pos _⟩
  · have k_ := mkb (b_ := (bi_ : Int)) (by omega)
    rw [h4_]
    exact ⟨k_.1, k_.2.2, by omega, by omega⟩
/-- the_ row_ of_ an_ input or a_ register -/
def bwv (k_ w_ : Nat) : Int := if k_ < 6 then st_at 2 (k_ : Int) else if w_ / 2 ^ (k_ - 6) % 2 = 1 then -1 else 0
theorem bwv_1 : ∀ k_ : Fin 6, lcn (st_at 2 ((k_ : Nat) : Int)) ∧ ∀ i_ : Fin 64, lbt (st_at 2 ((k_ : Nat) : Int)) (i_ : Nat) = decide ((i_ : Nat) / 2 ^ (k_ : Nat) % 2 = 1) := by
  unfold lcn
  decide +kernel
theorem bwv_c {k_ w_ : Nat} : lcn (bwv k_ w_) := by
  unfold bwv
  split
  · rename_i h_
    exact (bwv_1 ⟨k_, h_⟩).1
  · split
    · exact mkm.1
    · exact lcn_c.1
theorem bwv_b {k_ w_ i_ : Nat} (hk_ : k_ ≤ 11) (hi_ : i_ < 64) : lbt (bwv k_ w_) i_ = Nat.testBit (64 * w_ + i_) k_ := by
  rw [Nat.testBit_eq_decide_div_mod_eq]
  unfold bwv
  by_cases c_ : k_ < 6
  · rw [if_pos c_, (bwv_1 ⟨k_, c_⟩).2 ⟨i_, hi_⟩]
    have e_ : i_ / 2 ^ k_ % 2 = (64 * w_ + i_) / 2 ^ k_ % 2 := by
      have q_ : k_ = 0 ∨ k_ = 1 ∨ k_ = 2 ∨ k_ = 3 ∨ k_ = 4 ∨ k_ = 5 := by omega
      rcases q_ with rfl | rfl | rfl | rfl | rfl | rfl <;> omega
    show decide (i_ / 2 ^ k_ % 2 = 1) = decide ((64 * w_ + i_) / 2 ^ k_ % 2 = 1)
    rw [e_]
  · rw [if_neg c_]
    have e_ : (64 * w_ + i_) / 2 ^ k_ % 2 = w_ / 2 ^ (k_ - 6) % 2 := by
      have q_ : k_ = 6 ∨ k_ = 7 ∨ k_ = 8 ∨ k_ = 9 ∨ k_ = 10 ∨ k_ = 11 := by omega
      rcases q_ with rfl | rfl | rfl | rfl | rfl | rfl <;> omega
    rw [e_]
    by_cases d_ : w_ / 2 ^ (k_ - 6) % 2 = 1
    · rw [if_pos d_, lbt_m hi_]
      exact (decide_eq_true d_).symm
    · rw [if_neg d_, lbt_0]
      exact (decide_eq_false d_).symm
def srb (F_ n_ w_ : Nat) (mk_ : Int) (R_ : Nat → Int) : Prop := ∀ j_, j_ < w_ → 1 ≤ n_ → n_ < F_ → R_ (64 * n_ + j_) = l_3 (bwv (n_ - 1) j_) mk_
/-- all_ rows of_ a_ graph -/
def fwr (F_ N_ W_ : Nat) (mk_ : Int) (lo_ hi_ R_ : Nat → Int) : Prop := ∀ n_, n_ < N_ → srw F_ n_ W_ mk_ lo_ hi_ R_ ∧ srb F_ n_ W_ mk_ R_
/-- what a_ node, a_ literal is_ at a_ pattern -/
def pvl (R_ : Nat → Int) (n_ q_ : Nat) : Bool := lbt (R_ (64 * n_ + q_ / 64)) (q_ % 64)
def ltv (v_ : Nat → Nat → Bool) (l_ : Int) (q_ : Nat) : Bool := Bool.xor (v_ (l_ / 2).toNat q_) (decide (l_ % 2 = 1))
theorem wlt_b {R_ : Nat → Int} {l_ : Int} {q_ : Nat} : lbt (wlt R_ l_ (q_ / 64)) (q_ % 64) = ltv (pvl R_) l_ q_ := by
  unfold wlt ltv pvl
  by_cases c_ : l_ % 2 = 0
  · rw [if_pos c_, decide_eq_false (by omega), Bool.xor_false]
  · rw [if_neg c_, lbt_5, lbt_m (Nat.mod_lt _ (by decide)), decide_eq_true (by omega)]
/-- the_ values of_ a_ graph's nodes -/
def nvr (F_ N_ P_ : Nat) (lo_ hi_ : Nat → Int) (v_ : Nat → Nat → Bool) : Prop := ∀ q_, q_ < P_ → (0 < N_ → v_ 0 q_ = false) ∧ (∀ n_, 1 ≤ n_ → n_ < F_ → n_ < N_ → v_ n_ q_ = Nat.testBit q_ (n_ - 1)) ∧ ∀ n_, F_ ≤ n_ → n_ < N_ → v_ n_ q_ = (ltv v_ (lo_ n_) q_ && ltv v_ (hi_ n_) q_)
theorem nvr_of {F_ N_ W_ bi_ : Nat} {mk_ : Int} {lo_ hi_ R_ : Nat → Int} (h_ : fwr F_ N_ W_ mk_ lo_ hi_ R_) (hw_ : wmk (bi_ : Int) W_ mk_) (hF_ : F_ ≤ 13) : nvr F_ N_ (2 ^ bi_) lo_ hi_ (pvl R_) := by
  intro q_ hq_
  obtain ⟨w1_, w2_⟩ := wmk_q hw_ hq_
  refine ⟨fun hN_ => ?_, fun n_ h1_ h2_ h3_ => ?_, fun n_ h1_ h2_ => ?_⟩
  · have e_ := ((h_ 0 hN_).1 (q_ / 64) w1_).2.2 rfl
    unfold pvl
    rw [e_]
    exact lbt_0
  · have e_ := (h_ n_ h3_).2 (q_ / 64) w1_ h1_ h2_
    unfold pvl
    rw [e_, lbt_3, w2_, Bool.and_true, bwv_b (by omega) (Nat.mod_lt _ (by decide)), show 64 * (q_ / 64) + q_ % 64 = q_ by omega]
  · have e_ := ((h_ n_ h2_).1 (q_ / 64) w1_).2.1 h1_
    show lbt (R_ (64 * n_ + q_ / 64)) (q_ % 64) = _
    rw [e_, lbt_3, w2_, Bool.and_true, lbt_3, wlt_b, wlt_b]
theorem ltv_cg {v_ u_ : Nat → Nat → Bool} {l_ : Int} {q_ q'_ : Nat} (h_ : v_ (l_ / 2).toNat q_ = u_ (l_ / 2).toNat q'_) : ltv v_ l_ q_ = ltv u_ l_ q'_ := by
  unfold ltv
  rw [h_]
theorem nvr_u {F_ N_ P_ Q_ : Nat} {lo_ hi_ lo'_ hi'_ : Nat → Int} {v_ u_ : Nat → Nat → Bool} (hg_ : glo F_ N_ lo_ hi_) (e_ : ∀ n_, F_ ≤ n_ → n_ < N_ → lo'_ n_ = lo_ n_ ∧ hi'_ n_ = hi_ n_) (h_ : nvr F_ N_ P_ lo_ hi_ v_) (g_ : nvr F_ N_ Q_ lo'_ hi'_ u_) : ∀ (m_ n_ : Nat), n_ < m_ → n_ < N_ → ∀ q_, q_ < P_ → q_ < Q_ → v_ n_ q_ = u_ n_ q_
  | 0, n_, hm_, _, _, _, _ => absurd hm_ (Nat.not_lt_zero _)
  | m_ + 1, n_, hm_, hN_, q_, hp_, hq_ => by
    obtain ⟨a1_, a2_, a3_⟩ := h_ q_ hp_
    obtain ⟨b1_, b2_, b3_⟩ := g_ q_ hq_
    by_cases c_ : n_ = 0
    · rw [c_, a1_ (by omega), b1_ (by omega)]
    · by_cases d_ : n_ < F_
      · rw [a2_ n_ (by omega) d_ hN_, b2_ n_ (by omega) d_ hN_]
      · have x_ := hg_ n_ (by omega) hN_
        have y_ := e_ n_ (by omega) hN_
        rw [a3_ n_ (by omega) hN_, b3_ n_ (by omega) hN_, y_.1, y_.2, ltv_cg (u_ := u_) (nvr_u hg_ e_ h_ g_ m_ _ (by omega) (by omega) q_ hp_ hq_), ltv_cg (u_ := u_) (nvr_u hg_ e_ h_ g_ m_ _ (by omega) (by omega) q_ hp_ hq_)]
/-- a_ value hangs on_ the_ inputs and registers alone -/
theorem nvr_p {F_ N_ P_ b_ : Nat} {lo_ hi_ : Nat → Int} {v_ : Nat → Nat → Bool} (hg_ : glo F_ N_ lo_ hi_) (hb_ : F_ ≤ b_ + 1) (h_ : nvr F_ N_ P_ lo_ hi_ v_) : ∀ (m_ n_ : Nat), n_ < m_ → n_ < N_ → ∀ q_, q_ < P_ → v_ n_ q_ = v_ n_ (q_ % 2 ^ b_)
  | 0, n_, hm_, _, _, _ => absurd hm_ (Nat.not_lt_zero _)
  | m_ + 1, n_, hm_, hN_, q_, hp_ => by
    have hp2_ : q_ % 2 ^ b_ < P_ := Nat.lt_of_le_of_lt (Nat.mod_le _ _) hp_
    obtain ⟨a1_, a2_, a3_⟩ := h_ q_ hp_
    obtain ⟨b1_, b2_, b3_⟩ := h_ (q_ % 2 ^ b_) hp2_
    by_cases c_ : n_ = 0
    · rw [c_, a1_ (by omega), b1_ (by omega)]
    · by_cases d_ : n_ < F_
      · rw [a2_ n_ (by omega) d_ hN_, b2_ n_ (by omega) d_ hN_, Nat.testBit_mod_two_pow, decide_eq_true (show n_ - 1 < b_ by omega), Bool.true_and]
      · have x_ := hg_ n_ (by omega) hN_
        rw [a3_ n_ (by omega) hN_, b3_ n_ (by omega) hN_, ltv_cg (u_ := v_) (nvr_p hg_ hb_ h_ m_ _ (by omega) (by omega) q_ hp_), ltv_cg (u_ := v_) (nvr_p hg_ hb_ h_ m_ _ (by omega) (by omega) q_ hp_)]
/-- alike over all_ patterns, turned or not -/
def pal (v_ : Nat → Nat → Bool) (P_ n_ p_ : Nat) (s_ : Bool) : Prop := ∀ q_, q_ < P_ → v_ n_ q_ = Bool.xor (v_ p_ q_) s_
theorem lik_pal {W_ bi_ n_ p_ : Nat} {mk_ t_ : Int} {R_ : Nat → Int} (hw_ : wmk (bi_ : Int) W_ mk_) (ht_ : tmk mk_ t_) (h_ : lik W_ R_ n_ p_ t_) : pal (pvl R_) (2 ^ bi_) n_ p_ (decide (t_ ≠ 0)) := by
  intro q_ hq_
  obtain ⟨w1_, w2_⟩ := wmk_q hw_ hq_
  show lbt (R_ (64 * n_ + q_ / 64)) (q_ % 64) = _
  rw [h_ (q_ / 64) w1_, lbt_5]
  rcases ht_ with ht_ | ht_
  · rw [ht_, lbt_0]
    rfl
  · rw [ht_, w2_, decide_eq_true (wmk_c hw_).2.1]
    rfl
theorem pal_lik {W_ bi_ n_ p_ : Nat} {mk_ : Int} {s_ : Bool} {R_ : Nat → Int} (hw_ : wmk (bi_ : Int) W_ mk_) (hn_ : rok W_ mk_ R_ n_) (hp_ : rok W_ mk_ R_ p_) (h_ : pal (pvl R_) (2 ^ bi_) n_ p_ s_) : lik W_ R_ n_ p_ (if s_ = true then mk_ else 0) := by
  have mt_ : tmk mk_ (if s_ = true then mk_ else 0) := by
    split
    · exact Or.inr rfl
    · exact Or.inl rfl
  intro w_ hw2_
  refine lbt_e (rok_c hn_ w_ hw2_) lcn_5 (fun i_ hi_ => ?_)
  rw [lbt_5]
  by_cases c_ : lbt mk_ i_ = true
  · have q_ := h_ (64 * w_ + i_) (wmk_i hw_ hw2_ hi_ c_)
    unfold pvl at q_
    rw [show (64 * w_ + i_) / 64 = w_ by omega, show (64 * w_ + i_) % 64 = i_ by omega] at q_
    rw [q_]
    cases s_
    · rw [if_neg (by decide), lbt_0]
    · rw [if_pos rfl, c_]
  · have c0_ : lbt mk_ i_ = false := by
      cases z_ : lbt mk_ i_
      · rfl
      · exact absurd z_ c_
    have x1_ : lbt (R_ (64 * n_ + w_)) i_ = false := by
      rw [← hn_ w_ hw2_, lbt_3, c0_, Bool.and_false]
    have x2_ : lbt (R_ (64 * p_ + w_)) i_ = false := by
      rw [← hp_ w_ hw2_, lbt_3, c0_, Bool.and_false]
    have x3_ : lbt (if s_ = true then mk_ else 0) i_ = false := by
      rcases mt_ with z_ | z_
      · rw [z_]; exact lbt_0
      · rw [z_]; exact c0_
    rw [x1_, x2_, x3_]
    rfl
/-- whom the_ nodes below n_ stand for_, by rows -/
def swl (W_ : Nat) (mk_ : Int) (R_ : Nat → Int) (n_ : Nat) (sf_ : Nat → Int) : Prop := ∀ m_, m_ < n_ → (sf_ m_ = 2 * (m_ : Int) ∧ ∀ p_, sPn sf_ m_ p_ → ∀ t_, tmk mk_ t_ → ¬ lik W_ R_ m_ p_ t_) ∨ ∃ p_ t_, sPn sf_ m_ p_ ∧ tmk mk_ t_ ∧ lik W_ R_ m_ p_ t_ ∧ sf_ m_ = 2 * (p_ : Int) + (if t_ = 0 then 0 else 1)
/-- by patterns -/
def swc (P_ N_ : Nat) (v_ : Nat → Nat → Bool) (sf_ : Nat → Int) : Prop := ∀ m_, m_ < N_ → (sf_ m_ = 2 * (m_ : Int) ∧ ∀ p_, sPn sf_ m_ p_ → ∀ s_, ¬ pal v_ P_ m_ p_ s_) ∨ ∃ p_ s_, sPn sf_ m_ p_ ∧ pal v_ P_ m_ p_ s_ ∧ sf_ m_ = 2 * (p_ : Int) + (if s_ = true then 1 else 0)
theorem swl_c {W_ bi_ N_ : Nat} {mk_ : Int} {R_ sf_ : Nat → Int} (hw_ : wmk (bi_ : Int) W_ mk_) (hr_ : ∀ n_, n_ < N_ → rok W_ mk_ R_ n_) (h_ : swl W_ mk_ R_ N_ sf_) : swc (2 ^ bi_) N_ (pvl R_) sf_ := by
  intro m_ hm_
  rcases h_ m_ hm_ with ⟨h1_, h2_⟩ | ⟨p_, t_, h1_, h2_, h3_, h4_⟩
  · refine Or.inl ⟨h1_, fun p_ hp_ s_ hs_ => ?_⟩
    have k_ := pal_lik hw_ (hr_ m_ hm_) (hr_ p_ (by have := hp_.1; omega)) hs_
    refine h2_ p_ hp_ _ ?_ k_
    split
    · exact Or.inr rfl
    · exact Or.inl rfl
  · refine Or.inr ⟨p_, decide (t_ ≠ 0), h1_, lik_pal hw_ h2_ h3_, ?_⟩
    rw [h4_]
    by_cases c_ : t_ = 0
    · rw [if_pos c_, if_neg (by rw [decide_eq_false (fun z_ => z_ c_)]; decide)]
    · rw [if_neg c_, if_pos (decide_eq_true c_)]
theorem pal_cg {v_ u_ : Nat → Nat → Bool} {P_ Q_ n_ p_ : Nat} {s_ : Bool} (hn_ : ∀ q_, q_ < P_ → v_ n_ q_ = u_ n_ (q_ % Q_)) (hp_ : ∀ q_, q_ < P_ → v_ p_ q_ = u_ p_ (q_ % Q_)) (hQ_ : 0 < Q_) (h_ : pal u_ Q_ n_ p_ s_) : pal v_ P_ n_ p_ s_ := fun q_ hq_ => by
  rw [hn_ q_ hq_, hp_ q_ hq_]
  exact h_ _ (Nat.mod_lt _ hQ_)
/-- the_ patterns of_ the_ inputs and registers are_ enough -/
theorem swc_p {F_ N_ b_ bi_ : Nat} {lo_ hi_ sf_ : Nat → Int} {v_ : Nat → Nat → Bool} (hg_ : glo F_ N_ lo_ hi_) (hb_ : F_ ≤ b_ + 1) (hbi_ : b_ ≤ bi_) (hv_ : nvr F_ N_ (2 ^ bi_) lo_ hi_ v_) (h_ : swc (2 ^ bi_) N_ v_ sf_) : swc (2 ^ b_) N_ v_ sf_ := by
  have le_ := p2_le hbi_
  have up_ : ∀ m_ p_ s_, m_ < N_ → p_ < N_ → pal v_ (2 ^ b_) m_ p_ s_ → pal v_ (2 ^ bi_) m_ p_ s_ := fun m_ p_ s_ hm_ hp_ k_ => pal_cg (fun q_ hq_ => nvr_p hg_ hb_ hv_ (m_ + 1) m_ (Nat.lt_succ_self m_) hm_ q_ hq_) (fun q_ hq_ => nvr_p hg_ hb_ hv_ (p_ + 1) p_ (Nat.lt_succ_self p_) hp_ q_ hq_) (Nat.two_pow_pos _) k_
  intro m_ hm_
  rcases h_ m_ hm_ with ⟨h1_, h2_⟩ | ⟨p_, s_, h1_, h2_, h3_⟩
  · exact Or.inl ⟨h1_, fun p_ hp_ s_ hs_ => h2_ p_ hp_ s_ (up_ m_ p_ s_ hm_ (by have := hp_.1; omega) hs_)⟩
  · exact Or.inr ⟨p_, s_, h1_, fun q_ hq_ => h2_ q_ (by omega), h3_⟩
theorem swc_v {P_ N_ : Nat} {v_ u_ : Nat → Nat → Bool} {sf_ : Nat → Int} (e_ : ∀ n_, n_ < N_ → ∀ q_, q_ < P_ → v_ n_ q_ = u_ n_ q_) (h_ : swc P_ N_ v_ sf_) : swc P_ N_ u_ sf_ := by
  intro m_ hm_
  rcases h_ m_ hm_ with ⟨h1_, h2_⟩ | ⟨p_, s_, h1_, h2_, h3_⟩
  · exact Or.inl ⟨h1_, fun p_ hp_ s_ hs_ => h2_ p_ hp_ s_ (fun q_ hq_ => by
      have k_ := hp_.1
      rw [e_ m_ hm_ q_ hq_, e_ p_ (by omega) q_ hq_]
      exact hs_ q_ hq_)⟩
  · refine Or.inr ⟨p_, s_, h1_, fun q_ hq_ => ?_, h3_⟩
    have k_ := h1_.1
    rw [← e_ m_ hm_ q_ hq_, ← e_ p_ (by omega) q_ hq_]
    exact h2_ q_ hq_
/-- of_ two_ nodes that stand for_ themselves none is_ like the_ other -/
theorem swc_no {P_ N_ n_ p_ r_ : Nat} {v_ : Nat → Nat → Bool} {sf_ : Nat → Int} {s_ t_ : Bool} (h_ : swc P_ N_ v_ sf_) (hn_ : n_ < N_) (h1_ : sPn sf_ n_ p_) (h2_ : sPn sf_ n_ r_) (k1_ : pal v_ P_ n_ p_ s_) (k2_ : pal v_ P_ n_ r_ t_) (hl_ : p_ < r_) : False := by
  have a1_ := h1_.1
  have a2_ := h2_.1
  have a3_ := h2_.2
  rcases h_ r_ (by omega) with ⟨-, g_⟩ | ⟨x_, y_, g1_, g2_, g3_⟩
  · refine g_ p_ ⟨hl_, h1_.2⟩ (Bool.xor s_ t_) (fun q_ hq_ => ?_)
    have c1_ := k1_ q_ hq_
    have c2_ := k2_ q_ hq_
    rw [c1_] at c2_
    revert c2_
    cases v_ p_ q_ <;> cases v_ r_ q_ <;> cases s_ <;> cases t_ <;> decide
  · have b1_ := g1_.1
    rw [a3_] at g3_
    revert g3_
    cases y_
    · intro g3_
      rw [if_neg (by decide)] at g3_
      omega
    · intro g3_
      rw [if_pos rfl] at g3_
      omega
theorem swc_u {P_ N_ : Nat} {v_ : Nat → Nat → Bool} {sf_ sg_ : Nat → Int} (hP_ : 0 < P_) (h_ : swc P_ N_ v_ sf_) (g_ : swc P_ N_ v_ sg_) : ∀ (m_ n_ : Nat), n_ < m_ → n_ < N_ → sf_ n_ = sg_ n_
  | 0, n_, hm_, _ => absurd hm_ (Nat.not_lt_zero _)
  | m_ + 1, n_, hm_, hN_ => by
    have ih_ : ∀ k_, k_ < n_ → sf_ k_ = sg_ k_ := fun k_ hk_ => swc_u hP_ h_ g_ m_ k_ (by omega) (by omega)
    have fg_ : ∀ p_, sPn sf_ n_ p_ → sPn sg_ n_ p_ := fun p_ hp_ => ⟨hp_.1, by rw [← ih_ p_ hp_.1]; exact hp_.2⟩
    have gf_ : ∀ p_, sPn sg_ n_ p_ → sPn sf_ n_ p_ := fun p_ hp_ => ⟨hp_.1, by rw [ih_ p_ hp_.1]; exact hp_.2⟩
    rcases h_ n_ hN_ with ⟨h1_, h2_⟩ | ⟨p_, s_, h1_, h2_, h3_⟩
    · rcases g_ n_ hN_ with ⟨g1_, g2_⟩ | ⟨r_, t_, g1_, g2_, g3_⟩
      · rw [h1_, g1_]
      · exact absurd g2_ (h2_ r_ (gf_ r_ g1_) t_)
    · rcases g_ n_ hN_ with ⟨g1_, g2_⟩ | ⟨r_, t_, g1_, g2_, g3_⟩
      · exact absurd h2_ (g2_ p_ (fg_ p_ h1_) s_)
      · rcases Nat.lt_trichotomy p_ r_ with c_ | c_ | c_
        · exact (swc_no h_ hN_ h1_ (gf_ r_ g1_) h2_ g2_ c_).elim
        · subst c_
          have c1_ := h2_ 0 hP_
          have c2_ := g2_ 0 hP_
          rw [c1_] at c2_
          have st_ : s_ = t_ := by
            revert c2_
            cases v_ p_ 0 <;> cases s_ <;> cases t_ <;> decide
          rw [h3_, g3_, st_]
        · exact (swc_no h_ hN_ (gf_ r_ g1_) h1_ g2_ h2_ c_).elim
/-- whom the_ nodes of_ a_ graph stand for_ -/
def swd (F_ N_ : Nat) (lo_ hi_ sf_ : Nat → Int) : Prop := ∃ (bi_ W_ : Nat) (mk_ : Int) (R_ : Nat → Int), F_ ≤ bi_ + 1 ∧ wmk (bi_ : Int) W_ mk_ ∧ fwr F_ N_ W_ mk_ lo_ hi_ R_ ∧ swl W_ mk_ R_ N_ sf_
theorem swd_u {F_ N_ : Nat} {lo_ hi_ sf_ lo'_ hi'_ sg_ : Nat → Int} (hF_ : 1 ≤ F_ ∧ F_ ≤ 13) (hg_ : glo F_ N_ lo_ hi_) (e_ : ∀ n_, F_ ≤ n_ → n_ < N_ → lo'_ n_ = lo_ n_ ∧ hi'_ n_ = hi_ n_) (h_ : swd F_ N_ lo_ hi_ sf_) (g_ : swd F_ N_ lo'_ hi'_ sg_) : ∀ n_, n_ < N_ → sf_ n_ = sg_ n_ := by
  obtain ⟨b1_, W1_, m1_, R1_, x1_, x2_, x3_, x4_⟩ := h_
  obtain ⟨b2_, W2_, m2_, R2_, y1_, y2_, y3_, y4_⟩ := g_
  have hg2_ : glo F_ N_ lo'_ hi'_ := fun k_ h1_ h2_ => by
    rw [(e_ k_ h1_ h2_).1, (e_ k_ h1_ h2_).2]
    exact hg_ k_ h1_ h2_
  have v1_ := nvr_of x3_ x2_ hF_.2
  have v2_ := nvr_of y3_ y2_ hF_.2
  have c1_ := swc_p (b_ := F_ - 1) hg_ (by omega) (by omega) v1_ (swl_c x2_ (fun n_ hn_ w_ hw_ => ((x3_ n_ hn_).1 w_ hw_).1) x4_)
  have c2_ := swc_p (b_ := F_ - 1) hg2_ (by omega) (by omega) v2_ (swl_c y2_ (fun n_ hn_ w_ hw_ => ((y3_ n_ hn_).1 w_ hw_).1) y4_)
  have l1_ := p2_le (show F_ - 1 ≤ b1_ by omega)
  have l2_ := p2_le (show F_ - 1 ≤ b2_ by omega)
  have c3_ := swc_v (fun n_ hn_ q_ hq_ => (nvr_u hg_ e_ v1_ v2_ (n_ + 1) n_ (Nat.lt_succ_self n_) hn_ q_ (by omega) (by omega))) c1_
  exact fun n_ hn_ => swc_u (Nat.two_pow_pos _) c3_ c2_ (n_ + 1) n_ (Nat.lt_succ_self n_) hn_
/-! the_ steps of_ a_ sweep -/
theorem swl_0 {W_ : Nat} {mk_ : Int} {R_ sf_ : Nat → Int} : swl W_ mk_ R_ 0 sf_ := fun m_ hm_ => absurd hm_ (Nat.not_lt_zero _)
theorem swl_cg {W_ n_ : Nat} {mk_ : Int} {R_ Q_ sf_ sg_ : Nat → Int} (h_ : swl W_ mk_ R_ n_ sf_) (hW_ : W_ ≤ 64) (hQ_ : ∀ j_, j_ < 64 * n_ → Q_ j_ = R_ j_) (hs_ : ∀ k_, k_ < n_ → sg_ k_ = sf_ k_) : swl W_ mk_ Q_ n_ sg_ := by
  have lk_ : ∀ m_ p_ t_, m_ < n_ → p_ < n_ → (lik W_ Q_ m_ p_ t_ ↔ lik W_ R_ m_ p_ t_) := fun m_ p_ t_ hm_ hp_ => ⟨fun k_ => lik_cg k_ (fun w_ hw_ => (hQ_ _ (by omega)).symm) (fun w_ hw_ => (hQ_ _ (by omega)).symm), fun k_ => lik_cg k_ (fun w_ hw_ => hQ_ _ (by omega)) (fun w_ hw_ => hQ_ _ (by omega))⟩
  intro m_ hm_
  have sp_ : ∀ p_, sPn sg_ m_ p_ ↔ sPn sf_ m_ p_ := fun p_ => sPn_sf (fun k_ hk_ => hs_ k_ (by omega))
  rw [hs_ m_ hm_]
  rcases h_ m_ hm_ with ⟨h1_, h2_⟩ | ⟨p_, t_, h1_, h2_, h3_, h4_⟩
  · exact Or.inl ⟨h1_, fun p_ hp_ t_ ht_ k_ => h2_ p_ ((sp_ p_).mp hp_) t_ ht_ ((lk_ m_ p_ t_ hm_ (by have := hp_.1; omega)).mp k_)⟩
  · exact Or.inr ⟨p_, t_, (sp_ p_).mpr h1_, h2_, (lk_ m_ p_ t_ hm_ (by have := h1_.1; omega)).mpr h3_, h4_⟩
theorem swl_s {W_ n_ : Nat} {mk_ : Int} {R_ sf_ : Nat → Int} (h_ : swl W_ mk_ R_ n_ sf_) (g_ : (sf_ n_ = 2 * (n_ : Int) ∧ ∀ p_, sPn sf_ n_ p_ → ∀ t_, tmk mk_ t_ → ¬ lik W_ R_ n_ p_ t_) ∨ ∃ p_ t_, sPn sf_ n_ p_ ∧ tmk mk_ t_ ∧ lik W_ R_ n_ p_ t_ ∧ sf_ n_ = 2 * (p_ : Int) + (if t_ = 0 then 0 else 1)) : swl W_ mk_ R_ (n_ + 1) sf_ := by
  intro m_ hm_
  by_cases c_ : m_ = n_
  · rw [c_]
    exact g_
  · exact h_ m_ (by omega)
theorem srw_cw {F_ n_ W_ : Nat} {mk_ : Int} {lo_ hi_ R_ Q_ : Nat → Int} (hg_ : F_ ≤ n_ → 2 ≤ lo_ n_ ∧ lo_ n_ < hi_ n_ ∧ hi_ n_ < 2 * (n_ : Int)) (hW_ : W_ ≤ 64) (h_ : srw F_ n_ W_ mk_ lo_ hi_ R_) (e_ : ∀ k_, k_ < 64 * (n_ + 1) → Q_ k_ = R_ k_) : srw F_ n_ W_ mk_ lo_ hi_ Q_ := by
  intro j_ hj_
  have q_ := h_ j_ hj_
  rw [e_ _ (by omega)]
  refine ⟨q_.1, fun a_ => ?_, q_.2.2⟩
  have g_ := hg_ a_
  rw [wlt_cg (R_ := R_) (e_ _ (by omega)), wlt_cg (R_ := R_) (e_ _ (by omega))]
  exact q_.2.1 a_
theorem srb_cg {F_ n_ W_ : Nat} {mk_ : Int} {R_ Q_ : Nat → Int} (h_ : srb F_ n_ W_ mk_ R_) (hW_ : W_ ≤ 64) (e_ : ∀ k_, k_ < 64 * (n_ + 1) → Q_ k_ = R_ k_) : srb F_ n_ W_ mk_ Q_ := fun j_ hj_ a_ b_ => (e_ _ (by omega)).trans (h_ j_ hj_ a_ b_)
theorem fwr_cg {F_ n_ N_ W_ : Nat} {mk_ : Int} {lo_ hi_ R_ Q_ : Nat → Int} (hg_ : glo F_ N_ lo_ hi_) (hN_ : n_ ≤ N_) (hW_ : W_ ≤ 64) (h_ : fwr F_ n_ W_ mk_ lo_ hi_ R_) (e_ : ∀ k_, k_ < 64 * n_ → Q_ k_ = R_ k_) : fwr F_ n_ W_ mk_ lo_ hi_ Q_ := fun m_ hm_ => ⟨srw_cw (fun a_ => hg_ m_ a_ (by omega)) hW_ (h_ m_ hm_).1 (fun k_ hk_ => e_ k_ (by omega)), srb_cg (h_ m_ hm_).2 hW_ (fun k_ hk_ => e_ k_ (by omega))⟩
theorem fwr_s {F_ n_ W_ : Nat} {mk_ : Int} {lo_ hi_ R_ : Nat → Int} (h_ : fwr F_ n_ W_ mk_ lo_ hi_ R_) (h1_ : srw F_ n_ W_ mk_ lo_ hi_ R_) (h2_ : srb F_ n_ W_ mk_ R_) : fwr F_ (n_ + 1) W_ mk_ lo_ hi_ R_ := fun m_ hm_ => by
  by_cases c_ : m_ = n_
  · rw [c_]
    exact ⟨h1_, h2_⟩
  · exact h_ m_ (by omega)
theorem srb_up {F_ n_ w_ : Nat} {mk_ row_ : Int} {R_ Q_ : Nat → Int} (h_ : srb F_ n_ w_ mk_ R_) (e_ : ∀ k_, Q_ k_ = if k_ = 64 * n_ + w_ then l_3 row_ mk_ else R_ k_) (h1_ : 1 ≤ n_ → n_ < F_ → row_ = bwv (n_ - 1) w_) : srb F_ n_ (w_ + 1) mk_ Q_ := by
  intro j_ hj_ a_ b_
  rw [e_]
  by_cases c_ : j_ = w_
  · rw [if_pos (by omega), c_, h1_ a_ b_]
  · rw [if_neg (by omega)]
    exact h_ j_ (by omega) a_ b_
theorem wmk_64 {bi_ W_ : Nat} {mk_ : Int} (h_ : wmk (bi_ : Int) W_ mk_) : W_ ≤ 64 := by
  rcases h_ with ⟨h1_, h2_, h3_, h4_⟩ | ⟨h1_, h2_, h3_, h4_⟩
  · have l_ := p2_le (show ((bi_ : Int) - 6).toNat ≤ 6 by omega)
    rw [h3_]
    exact l_
  · omega
theorem swd_cg {F_ N_ : Nat} {lo_ hi_ sf_ lo'_ hi'_ sg_ : Nat → Int} (h_ : swd F_ N_ lo_ hi_ sf_) (e_ : ∀ k_, k_ < N_ → lo'_ k_ = lo_ k_ ∧ hi'_ k_ = hi_ k_ ∧ sg_ k_ = sf_ k_) : swd F_ N_ lo'_ hi'_ sg_ := by
  obtain ⟨bi_, W_, mk_, R_, h1_, h2_, h3_, h4_⟩ := h_
  refine ⟨bi_, W_, mk_, R_, h1_, h2_, fun n_ hn_ => ⟨fun j_ hj_ => ?_, (h3_ n_ hn_).2⟩, swl_cg h4_ (wmk_64 h2_) (fun _ _ => rfl) (fun k_ hk_ => (e_ k_ hk_).2.2)⟩
  have q_ := (h3_ n_ hn_).1 j_ hj_
  refine ⟨q_.1, fun a_ => ?_, q_.2.2⟩
  rw [(e_ n_ hn_).1, (e_ n_ hn_).2.1]
  exact q_.2.1 a_
theorem p2_tn {k_ : Nat} {x_ : Int} (h_ : x_ = 2 ^ k_) : x_.toNat = 2 ^ k_ := by
  rw [h_, show (2 : Int) ^ k_ = ((2 ^ k_ : Nat) : Int) by push_cast; rfl]
  exact Int.toNat_natCast _
end
/-! 99.ztV -/
section
/-! the class: the sweep, with its meaning; written by wip/p55/gen/vg -/

theorem bsv {b_ w_ : Int} (hb_ : 6 ≤ b_ ∧ b_ ≤ 11) (hw_ : 0 ≤ w_ ∧ w_ ≤ 63) : i_shr w_ (b_ - 6) % 2 = ((w_.toNat / 2 ^ (b_.toNat - 6) % 2 : Nat) : Int) := by
  obtain ⟨u_, rfl⟩ : ∃ u_ : Nat, w_ = (u_ : Int) := ⟨w_.toNat, by omega⟩
  rw [i_shrv (by omega) (by omega) (by omega), show (b_ - 6).toNat = b_.toNat - 6 by omega, Int.toNat_natCast]
  push_cast
  rfl
/-- the_ rows as_ the_ sweep leaves them -/
def swq (dd_ F_ : Nat) (S_ : sm_S) : Prop := ∃ (W_ : Nat) (mk_ : Int), wmk ((F_ : Int) - 1) W_ mk_ ∧ S_.1 1 0 13 = (W_ : Int) ∧ fwr F_ (S_.1 3 dd_ 4).toNat W_ mk_ (S_.2.2.1 42 (0 + dd_)) (S_.2.2.1 43 (0 + dd_)) (S_.2.2.2 32 0) ∧ swl W_ mk_ (S_.2.2.2 32 0) (S_.1 3 dd_ 4).toNat (S_.2.2.1 44 (0 + dd_))
theorem swq_d {dd_ F_ : Nat} {S_ : sm_S} (hF_ : 1 ≤ F_) (h_ : swq dd_ F_ S_) : swd F_ (S_.1 3 dd_ 4).toNat (S_.2.2.1 42 (0 + dd_)) (S_.2.2.1 43 (0 + dd_)) (S_.2.2.1 44 (0 + dd_)) := by
  obtain ⟨W_, mk_, h1_, h2_, h3_, h4_⟩ := h_
  exact ⟨F_ - 1, W_, mk_, _, by omega, by rw [show ((F_ - 1 : Nat) : Int) = (F_ : Int) - 1 by omega]; exact h1_, h3_, h4_⟩

/-! Builder.bitWord -/
def vw_49n : sx_Wl := ([], [], [])
def vq_49n (b_ : Int) (w_ : Int) (S0_ : sm_S) (u_ : Option sm_V) (S1_ : sm_S) : Prop := S0_ = S1_ ∧ ∃ v_ : Int, u_ = some (.inr (.inl v_)) ∧ (v_ = bwv b_.toNat w_.toNat)
set_option maxHeartbeats 400000 in
theorem vc_49n {sc_ : Nat × (Nat → Int)} (b_ : Int) (w_ : Int) (S0_ : sm_S) (hI_ : gi S0_) (hb_ : 0 ≤ b_ ∧ b_ ≤ 11) (hw_ : 0 ≤ w_ ∧ w_ ≤ 63) : sm_T (mt_P sc_) 0 49 (0, [some (.inl b_), some (.inl w_)], [], S0_) (fun ro9_ => ∃ u_ S1_, ro9_ = (.inl u_, S1_, 0) ∧ vq_49n b_ w_ S0_ u_ S1_) := by
  have hF_ : ai_fr (sx_W vw_49n) S0_ S0_ := ai_fr_rf
  refine sm_T_go 2 (c1 := (3, [some (.inl b_), some (.inl w_)], [.inl 6, .inl b_], S0_)) rfl ?_
  refine sm_T_br (a := 3) (z := 9) rfl (fun cx1_ => ?_) (fun cx1_ => ?_)
  · have cx1_ : 6 ≤ b_ := of_decide_eq_true cx1_
    refine sm_T_go 3 (c1 := (16, [some (.inl b_), some (.inl w_)], [.inl 6, .inl b_, .inl w_], S0_)) rfl ?_
    refine sm_T_bin (w := b_ - 6) rfl (bi_sub (by omega) (by omega) (by omega)) ?_
    refine sm_T_bin (w := (i_shr w_ (b_ - 6))) rfl rfl ?_
    refine sm_T_go 1 (c1 := (19, [some (.inl b_), some (.inl w_)], [.inl 1, .inl (i_shr w_ (b_ - 6))], S0_)) rfl ?_
    refine sm_T_bin (w := ((i_shr w_ (b_ - 6)) % 2)) rfl (bi_msk (k := 1) (by decide)) ?_
    refine sm_T_b0 (a := 1) (z := 7) rfl (fun cx2_ => ?_) (fun cx2_ => ?_)
    · have cx2_ : ((i_shr w_ (b_ - 6)) % 2) ≠ 0 := of_decide_eq_true cx2_
      refine sm_T_nt (u := some (.inr (.inl (-1)))) (S1 := S0_) rfl rfl rfl ?_
      refine sm_T_rl rfl ⟨_, _, rfl, rfl, _, rfl, ?_⟩
      unfold bwv; first | (rw [if_pos (by omega), show ((b_.toNat : Nat) : Int) = b_ by omega]) | (rw [if_neg (by omega), if_pos (by (have q9_ := bsv (b_ := b_) (w_ := w_) (by omega) (by omega); omega))]) | (rw [if_neg (by omega), if_neg (by (have q9_ := bsv (b_ := b_) (w_ := w_) (by omega) (by omega); omega))])
    · have cx2_ : ¬ (((i_shr w_ (b_ - 6)) % 2) ≠ 0) := of_decide_eq_false cx2_
      refine sm_T_go 2 (c1 := (30, [some (.inl b_), some (.inl w_)], [.inr (.inl 0)], S0_)) rfl ?_
      refine sm_T_rl rfl ⟨_, _, rfl, rfl, _, rfl, ?_⟩
      unfold bwv; first | (rw [if_pos (by omega), show ((b_.toNat : Nat) : Int) = b_ by omega]) | (rw [if_neg (by omega), if_pos (by (have q9_ := bsv (b_ := b_) (w_ := w_) (by omega) (by omega); omega))]) | (rw [if_neg (by omega), if_neg (by (have q9_ := bsv (b_ := b_) (w_ := w_) (by omega) (by omega); omega))])
  · have cx1_ : ¬ (6 ≤ b_) := of_decide_eq_false cx1_
    refine sm_T_nt (u := some (.inr (.inr (some (298, 0))))) (S1 := S0_) rfl rfl rfl ?_
    refine sm_T_go 1 (c1 := (10, [some (.inl b_), some (.inl w_)], [.inl b_, .inr (.inr (some (298, 0)))], S0_)) rfl ?_
    refine sm_T_nt (u := some (.inr (.inl (st_at 2 b_)))) (S1 := S0_) rfl rfl (nt_stl (sc := sc_) (j := 2) (n := 6) (by decide) rfl rfl (by omega) (by omega)) ?_
    refine sm_T_rl rfl ⟨_, _, rfl, rfl, _, rfl, ?_⟩
    unfold bwv; first | (rw [if_pos (by omega), show ((b_.toNat : Nat) : Int) = b_ by omega]) | (rw [if_neg (by omega), if_pos (by (have q9_ := bsv (b_ := b_) (w_ := w_) (by omega) (by omega); omega))]) | (rw [if_neg (by omega), if_neg (by (have q9_ := bsv (b_ := b_) (w_ := w_) (by omega) (by omega); omega))])
/-! Builder.sweep -/
def vw_47n : sx_Wl := ([(1, 13)], [29, 32, 44], [])
def vq_47n (dd_ : Nat) (F_ : Nat) (S0_ : sm_S) (u_ : Option sm_V) (S1_ : sm_S) : Prop := u_ = none ∧ gi S1_ ∧ ai_fr (sx_W vw_47n) S0_ S1_ ∧ (idf dd_ S0_ S1_ ∧ (swp dd_ F_ S1_ ∧ swq dd_ F_ S1_))
set_option maxHeartbeats 4000000 in
set_option maxRecDepth 20000 in
theorem vl_47n {sc_ : Nat × (Nat → Int)} (dd_ : Nat) (F_ : Nat) (S0_ : sm_S) (hd_ : S0_.2.1 1 0 1 = some dd_) (hg_ : dgr dd_ F_ S0_) : ∀ nn_ : Nat, (∀ (bi_ : Int) (mk_ : Int) (n_ : Int) (Wz_ : Int) (S_ : sm_S), gi S_ → ai_fr (sx_W vw_47n) S0_ S_ → (((S_.1 1 0 13) = Wz_ ∧ 1 ≤ Wz_ ∧ Wz_ ≤ 64) ∧ (lcn mk_ ∧ l_3 mk_ 1 = 1 ∧ mk_ ≠ 0) ∧ (0 ≤ n_ ∧ n_ ≤ S0_.1 3 dd_ 4) ∧ (sw1 F_ Wz_.toNat n_.toNat mk_ (S0_.2.2.1 42 (0 + dd_)) (S0_.2.2.1 43 (0 + dd_)) (S_.2.2.1 44 (0 + dd_)) (S_.2.2.2 32 0)) ∧ (0 < n_ → S_.2.2.1 44 (0 + dd_) 0 = 0 ∧ ∀ w9_, w9_ < Wz_.toNat → S_.2.2.2 32 0 w9_ = 0) ∧ (bks (sPn (S_.2.2.1 44 (0 + dd_)) n_.toNat) n_.toNat (hrw Wz_.toNat mk_ (S_.2.2.2 32 0)) (S_.2.2.1 29 0)) ∧ (fwr F_ n_.toNat Wz_.toNat mk_ (S0_.2.2.1 42 (0 + dd_)) (S0_.2.2.1 43 (0 + dd_)) (S_.2.2.2 32 0)) ∧ (swl Wz_.toNat mk_ (S_.2.2.2 32 0) n_.toNat (S_.2.2.1 44 (0 + dd_))) ∧ (wmk bi_ Wz_.toNat mk_ ∧ bi_ = (F_ : Int) - 1) ∧ (idf dd_ S0_ S_) ∧ True) → ((1000 * (1100 - n_) + 200).toNat) < nn_ → sm_T (mt_P sc_) 1 47 (67, [some (.inr (.inr (some (1, 0)))), some (.inl bi_), some (.inr (.inl mk_)), none, some (.inl n_), none, none, none, none, none, none, none, none], [], S_) (fun ro9_ => ∃ u_ S1_, ro9_ = (.inl u_, S1_, 0) ∧ vq_47n dd_ F_ S0_ u_ S1_)) ∧ (∀ (bi_ : Int) (mk_ : Int) (n_ : Int) (an_ : Int) (hs_ : Int) (w_ : Int) (Wz_ : Int) (S_ : sm_S), gi S_ → ai_fr (sx_W vw_47n) S0_ S_ → (((S_.1 1 0 13) = Wz_ ∧ 1 ≤ Wz_ ∧ Wz_ ≤ 64) ∧ (lcn mk_ ∧ l_3 mk_ 1 = 1 ∧ mk_ ≠ 0) ∧ (0 ≤ n_ ∧ n_ < S0_.1 3 dd_ 4 ∧ 0 ≤ w_ ∧ w_ ≤ Wz_ ∧ ((an_ = 1 ∧ (F_ : Int) ≤ n_) ∨ (an_ = 0 ∧ n_ < (F_ : Int)))) ∧ (sw1 F_ Wz_.toNat n_.toNat mk_ (S0_.2.2.1 42 (0 + dd_)) (S0_.2.2.1 43 (0 + dd_)) (S_.2.2.1 44 (0 + dd_)) (S_.2.2.2 32 0)) ∧ (0 < n_ → S_.2.2.1 44 (0 + dd_) 0 = 0 ∧ ∀ w9_, w9_ < Wz_.toNat → S_.2.2.2 32 0 w9_ = 0) ∧ (bks (sPn (S_.2.2.1 44 (0 + dd_)) n_.toNat) n_.toNat (hrw Wz_.toNat mk_ (S_.2.2.2 32 0)) (S_.2.2.1 29 0)) ∧ (hs_ = hsw (nrw mk_ (S_.2.2.2 32 0) n_.toNat) w_.toNat) ∧ (srw F_ n_.toNat w_.toNat mk_ (S0_.2.2.1 42 (0 + dd_)) (S0_.2.2.1 43 (0 + dd_)) (S_.2.2.2 32 0)) ∧ (fwr F_ n_.toNat Wz_.toNat mk_ (S0_.2.2.1 42 (0 + dd_)) (S0_.2.2.1 43 (0 + dd_)) (S_.2.2.2 32 0)) ∧ (swl Wz_.toNat mk_ (S_.2.2.2 32 0) n_.toNat (S_.2.2.1 44 (0 + dd_))) ∧ (wmk bi_ Wz_.toNat mk_ ∧ bi_ = (F_ : Int) - 1) ∧ (srb F_ n_.toNat w_.toNat mk_ (S_.2.2.2 32 0)) ∧ (idf dd_ S0_ S_) ∧ True) → ((1000 * (1100 - n_) + 100 - w_).toNat) < nn_ → sm_T (mt_P sc_) 1 47 (104, [some (.inr (.inr (some (1, 0)))), some (.inl bi_), some (.inr (.inl mk_)), none, some (.inl n_), some (.inl an_), some (.inr (.inl hs_)), none, some (.inl w_), none, none, none, none], [], S_) (fun ro9_ => ∃ u_ S1_, ro9_ = (.inl u_, S1_, 0) ∧ vq_47n dd_ F_ S0_ u_ S1_)) := by
  intro nn_
  induction nn_ with
  | zero => exact ⟨fun _ _ _ _ _ _ _ _ h_ => absurd h_ (Nat.not_lt_zero _), fun _ _ _ _ _ _ _ _ _ _ _ h_ => absurd h_ (Nat.not_lt_zero _)⟩
  | succ nn_ ih_ =>
    refine ⟨?_, ?_⟩
    · rintro bi_ mk_ n_ Wz_ S_ hI_ hF_ ⟨hW_, hmk_, h0_, h1_, h2_, h3_, h6_, h7_, h9_, hD_, -⟩ hm_
      have g1_ := hg_.1
      have g2_ := hg_.2.1
      have e4_ : S_.1 3 dd_ 4 = S0_.1 3 dd_ 4 := hF_.1 3 dd_ 4 rfl
      have e1_ : S_.1 3 dd_ 1 = S0_.1 3 dd_ 1 := hF_.1 3 dd_ 1 rfl
      have e2_ : S_.1 3 dd_ 2 = S0_.1 3 dd_ 2 := hF_.1 3 dd_ 2 rfl
      have f42_ : S_.2.2.1 42 (0 + dd_) = S0_.2.2.1 42 (0 + dd_) := fr_arr hF_ rfl
      have f43_ : S_.2.2.1 43 (0 + dd_) = S0_.2.2.1 43 (0 + dd_) := fr_arr hF_ rfl
      refine sm_T_go 2 (c1 := (70, [some (.inr (.inr (some (1, 0)))), some (.inl bi_), some (.inr (.inl mk_)), none, some (.inl n_), none, none, none, none, none, none, none, none], [.inr (.inr (some (1, 0))), .inl n_], S_)) rfl ?_
      refine sm_T_gr rfl rfl ((hF_.2.1 1 0 1 rfl).trans hd_) ?_
      have bx1_ : 0 ≤ S_.1 3 dd_ 4 ∧ S_.1 3 dd_ 4 ≤ 1013 := hI_.1 3 dd_ 4 rfl
      refine sm_T_go 1 (c1 := (76, [some (.inr (.inr (some (1, 0)))), some (.inl bi_), some (.inr (.inl mk_)), none, some (.inl n_), none, none, none, none, none, none, none, none], [.inl (S_.1 3 dd_ 4), .inl n_], S_)) rfl ?_
      refine sm_T_br (a := 3) (z := 197) rfl (fun cx2_ => ?_) (fun cx2_ => ?_)
      · have cx2_ : (S_.1 3 dd_ 4) ≤ n_ := of_decide_eq_true cx2_
        refine sm_T_rv rfl ⟨_, _, rfl, rfl, hI_, hF_, ?_⟩
        refine ⟨hD_, ?_⟩
        have n9_ : S_.1 3 dd_ 4 = n_ := by omega
        refine ⟨⟨(h2_ (by omega)).1, fun m9_ hm9_ => ?_⟩, Wz_.toNat, mk_, ?_, by omega, ?_, ?_⟩
        · rw [f42_, f43_]; exact (h1_ m9_ (by omega)).1
        · rw [← h9_.2]; exact h9_.1
        · rw [f42_, f43_, show (S_.1 3 dd_ 4).toNat = n_.toNat by omega]; exact h6_
        · rw [show (S_.1 3 dd_ 4).toNat = n_.toNat by omega]; exact h7_
      · have cx2_ : ¬ ((S_.1 3 dd_ 4) ≤ n_) := of_decide_eq_false cx2_
        refine sm_T_go 2 (c1 := (82, [some (.inr (.inr (some (1, 0)))), some (.inl bi_), some (.inr (.inl mk_)), none, some (.inl n_), none, none, none, none, none, none, none, none], [.inr (.inr (some (1, 0))), .inl n_], S_)) rfl ?_
        refine sm_T_gr rfl rfl ((hF_.2.1 1 0 1 rfl).trans hd_) ?_
        refine sm_T_cal (d1 := 0) (Q1 := vq_63 dd_ S_) rfl rfl (by decide) (vc_63 dd_ S_ hI_ (by omega)) (fun u_ Sx3_ px6_ => ?_)
        obtain ⟨rfl, vx8_, rfl, px6_⟩ := px6_
        have e85_ := px6_
        refine sm_T_br (a := 2) (z := 7) rfl (fun cx9_ => ?_) (fun cx9_ => ?_)
        · have cx9_ : n_ < vx8_ := of_decide_eq_true cx9_
          refine sm_T_go 6 (c1 := (104, [some (.inr (.inr (some (1, 0)))), some (.inl bi_), some (.inr (.inl mk_)), none, some (.inl n_), some (.inl 0), some (.inr (.inl 0)), none, some (.inl 0), none, none, none, none], [], S_)) rfl ?_
          refine ih_.2 bi_ mk_ n_ 0 0 0 Wz_ S_ hI_ hF_ ⟨?_, ?_, ?_, ?_, ?_, ?_, ?_, ?_, ?_, ?_, ?_, ?_, ?_, trivial⟩ ?_
          · exact hW_
          · exact hmk_
          · omega
          · exact h1_
          · exact h2_
          · exact h3_
          · rfl
          · (intro j9_ hj9_; exact absurd hj9_ (Nat.not_lt_zero _))
          · exact h6_
          · exact h7_
          · exact h9_
          · (intro j9_ hj9_; exact absurd hj9_ (Nat.not_lt_zero _))
          · exact hD_
          · omega
        · have cx9_ : ¬ (n_ < vx8_) := of_decide_eq_false cx9_
          refine sm_T_go 7 (c1 := (104, [some (.inr (.inr (some (1, 0)))), some (.inl bi_), some (.inr (.inl mk_)), none, some (.inl n_), some (.inl 1), some (.inr (.inl 0)), none, some (.inl 0), none, none, none, none], [], S_)) rfl ?_
          refine ih_.2 bi_ mk_ n_ 1 0 0 Wz_ S_ hI_ hF_ ⟨?_, ?_, ?_, ?_, ?_, ?_, ?_, ?_, ?_, ?_, ?_, ?_, ?_, trivial⟩ ?_
          · exact hW_
          · exact hmk_
          · omega
          · exact h1_
          · exact h2_
          · exact h3_
          · rfl
          · (intro j9_ hj9_; exact absurd hj9_ (Nat.not_lt_zero _))
          · exact h6_
          · exact h7_
          · exact h9_
          · (intro j9_ hj9_; exact absurd hj9_ (Nat.not_lt_zero _))
          · exact hD_
          · omega
    · rintro bi_ mk_ n_ an_ hs_ w_ Wz_ S_ hI_ hF_ ⟨hW_, hmk_, h0_, h1_, h2_, h3_, h4_, h5_, h6_, h7_, h9_, h8_, hD_, -⟩ hm_
      have g1_ := hg_.1
      have g2_ := hg_.2.1
      have e4_ : S_.1 3 dd_ 4 = S0_.1 3 dd_ 4 := hF_.1 3 dd_ 4 rfl
      have e1_ : S_.1 3 dd_ 1 = S0_.1 3 dd_ 1 := hF_.1 3 dd_ 1 rfl
      have e2_ : S_.1 3 dd_ 2 = S0_.1 3 dd_ 2 := hF_.1 3 dd_ 2 rfl
      have f42_ : S_.2.2.1 42 (0 + dd_) = S0_.2.2.1 42 (0 + dd_) := fr_arr hF_ rfl
      have f43_ : S_.2.2.1 43 (0 + dd_) = S0_.2.2.1 43 (0 + dd_) := fr_arr hF_ rfl
      have bx1_ : 0 ≤ S_.1 1 0 13 ∧ S_.1 1 0 13 ≤ 64 := hI_.1 1 0 13 rfl
      refine sm_T_go 3 (c1 := (110, [some (.inr (.inr (some (1, 0)))), some (.inl bi_), some (.inr (.inl mk_)), none, some (.inl n_), some (.inl an_), some (.inr (.inl hs_)), none, some (.inl w_), none, none, none, none], [.inl (S_.1 1 0 13), .inl w_], S_)) rfl ?_
      refine sm_T_br (a := 3) (z := 138) rfl (fun cx2_ => ?_) (fun cx2_ => ?_)
      · have cx2_ : (S_.1 1 0 13) ≤ w_ := of_decide_eq_true cx2_
        refine sm_T_go 1 (c1 := (249, [some (.inr (.inr (some (1, 0)))), some (.inl bi_), some (.inr (.inl mk_)), none, some (.inl n_), some (.inl an_), some (.inr (.inl hs_)), none, some (.inl w_), none, none, none, none], [.inr (.inr (some (1, 0)))], S_)) rfl ?_
        refine sm_T_gr rfl rfl ((hF_.2.1 1 0 1 rfl).trans hd_) ?_
        refine sm_T_go 6 (c1 := (263, [some (.inr (.inr (some (1, 0)))), some (.inl bi_), some (.inr (.inl mk_)), none, some (.inl n_), some (.inl an_), some (.inr (.inl hs_)), none, some (.inl w_), none, none, none, none], [.inr (.inl mk_), .inr (.inl hs_), .inl n_, .inr (.inr (some (1, 0))), .inl n_, .inr (.inr (some (44, (0 + dd_))))], S_)) rfl ?_
        refine sm_T_cal (d1 := 0) (Q1 := vq_50 n_ hs_ mk_ (sPn (S_.2.2.1 44 (0 + dd_)) n_.toNat) n_.toNat Wz_.toNat n_.toNat S_) rfl rfl (by decide) (vc_50 n_ hs_ mk_ (sPn (S_.2.2.1 44 (0 + dd_)) n_.toNat) n_.toNat Wz_.toNat n_.toNat S_ hI_ (by omega) (by omega) (by exact ⟨h3_, by omega⟩) (by exact fun m9_ h9_ => h9_.1) (by exact hmk_) (by (rw [show Wz_.toNat = w_.toNat by omega]; exact h4_)) (by (intro m9_ h9_; rcases h9_ with h9_ | h9_; (exact (h1_ m9_ h9_.1).2.1); (rw [h9_]; exact fun w9_ hw9_ => (h5_ w9_ (by omega)).1)))) (fun u_ Sx3_ px6_ => ?_)
        obtain ⟨vx8_, rfl, hIx4_, hFx5_, px6_⟩ := px6_
        have hFx7_ : ai_fr (sx_W vw_47n) S0_ Sx3_ := ai_fr_tr hF_ (fr_le hFx5_ rfl)
        have hDx9_ : idf dd_ S0_ Sx3_ := idf_tr hD_ (idf_fr hFx5_ (by decide) (by decide))
        have ex10_ : Sx3_.1 1 0 13 = S_.1 1 0 13 := hFx5_.1 1 0 13 rfl
        have e263_ := px6_
        have r9_ : Sx3_.2.2.2 32 0 = S_.2.2.2 32 0 := fr_lon hFx5_ rfl
        have s9_ : Sx3_.2.2.1 44 (0 + dd_) = S_.2.2.1 44 (0 + dd_) := fr_arr hFx5_ rfl
        have w9_ := hFx5_.1 1 0 13 rfl
        have SG_ : ∀ k9_, (sm_aI Sx3_ 44 (0 + dd_) n_.toNat vx8_).2.2.1 44 (0 + dd_) k9_ = if k9_ = n_.toNat then vx8_ else S_.2.2.1 44 (0 + dd_) k9_ := fun k9_ => by rw [← s9_]; exact rd_eq
        have SB_ : (sm_aI Sx3_ 44 (0 + dd_) n_.toNat vx8_).2.2.1 29 0 = Sx3_.2.2.1 29 0 := funext fun k9_ => rd_ne (by decide)
        have v9_ : 0 ≤ vx8_ ∧ vx8_ ≤ 2 * n_ + 1 := by rcases e263_ with ⟨m9_, t9_, q1_, q2_, q3_, q4_, q5_⟩ | q9_; (have := q1_.1; rw [q4_]; split <;> omega); (have := q9_.1; omega)
        refine sm_T_iast (n := 1013) rfl rfl (by omega) (by omega) ?_
        have hIx11_ : gi (sm_aI Sx3_ 44 (0 + dd_) n_.toNat vx8_) := gi_aI hIx4_ (show 0 ≤ vx8_ ∧ vx8_ ≤ 2025 from ⟨by omega, by omega⟩)
        have hFx12_ : ai_fr (sx_W vw_47n) S0_ (sm_aI Sx3_ 44 (0 + dd_) n_.toNat vx8_) := ai_fr_tr hFx7_ (ai_fr_aI rfl)
        have hDx13_ : idf dd_ S0_ (sm_aI Sx3_ 44 (0 + dd_) n_.toNat vx8_) := idf_aI hDx9_ (Or.inr rfl)
        refine sm_T_inc (a := 4) (z := 1) (v := n_) (w := n_ + 1) rfl rfl (by omega) (by omega) (by omega) ?_
        refine sm_T_go 1 (c1 := (67, [some (.inr (.inr (some (1, 0)))), some (.inl bi_), some (.inr (.inl mk_)), none, some (.inl (n_ + 1)), some (.inl an_), some (.inr (.inl hs_)), none, some (.inl w_), none, none, none, none], [], sm_aI Sx3_ 44 (0 + dd_) n_.toNat vx8_)) rfl ?_
        refine sm_T_wk [some (.inr (.inr (some (1, 0)))), some (.inl bi_), some (.inr (.inl mk_)), none, some (.inl (n_ + 1)), none, none, none, none, none, none, none, none] (by exact ⟨rfl, rfl, rfl, rfl, trivial⟩) ?_
        refine ih_.1 bi_ mk_ (n_ + 1) Wz_ (sm_aI Sx3_ 44 (0 + dd_) n_.toNat vx8_) hIx11_ hFx12_ ⟨?_, ?_, ?_, ?_, ?_, ?_, ?_, ?_, ?_, ?_, trivial⟩ ?_
        · (clear e263_; refine ⟨?_, hW_.2⟩; (try simp only [rd_af]); omega)
        · exact hmk_
        · (clear e263_; omega)
        · rw [rd_al, r9_, show (n_ + 1).toNat = n_.toNat + 1 by omega]
          rcases e263_ with ⟨m9_, t9_, q1_, q2_, q3_, q4_, q5_⟩ | ⟨q1_, q2_, q3_⟩
          · exact sw_fd (N_ := n_.toNat + 1) (glo_of hg_ (by omega)) (by omega) h1_ (fun w9_ hw9_ => (h5_ w9_ (by omega)).1) q1_ q2_ q3_ q4_ SG_
          · have sg_ := fun k9_ => (SG_ k9_).trans (show _ = (if k9_ = n_.toNat then 2 * ((n_.toNat : Nat) : Int) else S_.2.2.1 44 (0 + dd_) k9_) by rw [q1_])
            exact sw_nw (N_ := n_.toNat + 1) (glo_of hg_ (by omega)) g1_.2.1.1 (by omega) (by omega) hmk_.1 h1_ (fun z9_ => (h2_ (by omega)).2) (fun w9_ hw9_ => (h5_ w9_ (by omega)).1) (fun a9_ w9_ hw9_ => (h5_ w9_ (by omega)).2.1 a9_) q3_ sg_ (fun z9_ => (h2_ (by omega)).1)
        · intro z9_
          rw [rd_al, r9_]
          by_cases n0_ : n_ = 0
          · refine ⟨?_, fun w9_ hw9_ => ?_⟩
            · rw [rd_eq, if_pos (by omega)]; rcases e263_ with ⟨m9_, t9_, q1_, q2_, q3_, q4_, q5_⟩ | ⟨q1_, q2_, q3_⟩; (have := q1_.1; omega); omega
            · have := (h5_ w9_ (by omega)).2.2 (by omega); rw [show 64 * n_.toNat + w9_ = w9_ by omega] at this; exact this
          · have q9_ := h2_ (by omega)
            refine ⟨?_, q9_.2⟩
            rw [rd_eq, if_neg (by omega), s9_]; exact q9_.1
        · rw [rd_al, r9_, show (n_ + 1).toNat = n_.toNat + 1 by omega]
          rw [SB_]
          rcases e263_ with ⟨m9_, t9_, q1_, q2_, q3_, q4_, q5_⟩ | ⟨q1_, q2_, q3_⟩
          · rw [q5_]; exact bks_cg h3_ (fun m8_ => sPn_cg SG_ (by have := q1_.1; rw [q4_]; split <;> omega)) (by omega) (fun _ _ => rfl)
          · have sg_ := fun k9_ => (SG_ k9_).trans (show _ = (if k9_ = n_.toNat then 2 * ((n_.toNat : Nat) : Int) else S_.2.2.1 44 (0 + dd_) k9_) by rw [q1_])
            exact bks_cg q2_ (fun m8_ => sPn_nw sg_) (Nat.le_refl _) (fun _ _ => rfl)
        · rw [rd_al, r9_, show (n_ + 1).toNat = n_.toNat + 1 by omega]
          have we_ : Wz_.toNat = w_.toNat := by clear e263_; omega
          rw [we_] at h6_ ⊢
          exact fwr_s h6_ h5_ h8_
        · rw [rd_al, r9_, show (n_ + 1).toNat = n_.toNat + 1 by omega]
          refine swl_s (swl_cg h7_ (by omega) (fun _ _ => rfl) (fun k9_ hk9_ => (SG_ k9_).trans (if_neg (by omega)))) ?_
          rcases e263_ with ⟨m9_, t9_, q1_, q2_, q3_, q4_, q5_⟩ | ⟨q1_, q2_, q3_⟩
          · exact Or.inr ⟨m9_, t9_, (sPn_sf (fun k9_ hk9_ => (SG_ k9_).trans (if_neg (by omega)))).mpr q1_, q2_, q3_, (SG_ n_.toNat).trans ((if_pos rfl).trans q4_)⟩
          · exact Or.inl ⟨(SG_ n_.toNat).trans ((if_pos rfl).trans q1_), fun p9_ hp9_ => q3_ p9_ ((sPn_sf (fun k9_ hk9_ => (SG_ k9_).trans (if_neg (by omega)))).mp hp9_)⟩
        · exact h9_
        · exact hDx13_
        · (clear e263_; omega)
      · have cx2_ : ¬ ((S_.1 1 0 13) ≤ w_) := of_decide_eq_false cx2_
        refine sm_T_go 1 (c1 := (115, [some (.inr (.inr (some (1, 0)))), some (.inl bi_), some (.inr (.inl mk_)), none, some (.inl n_), some (.inl an_), some (.inr (.inl hs_)), none, some (.inl w_), none, none, none, none], [.inl an_], S_)) rfl ?_
        refine sm_T_b0 (a := 0) (z := 39) rfl (fun cx14_ => ?_) (fun cx14_ => ?_)
        · have cx14_ : an_ = 0 := of_decide_eq_true cx14_
          refine sm_T_go 1 (c1 := (156, [some (.inr (.inr (some (1, 0)))), some (.inl bi_), some (.inr (.inl mk_)), none, some (.inl n_), some (.inl an_), some (.inr (.inl hs_)), none, some (.inl w_), none, none, none, none], [.inl n_], S_)) rfl ?_
          refine sm_T_b0 (a := 1) (z := 7) rfl (fun cx15_ => ?_) (fun cx15_ => ?_)
          · have cx15_ : n_ ≠ 0 := of_decide_eq_true cx15_
            refine sm_T_go 2 (c1 := (166, [some (.inr (.inr (some (1, 0)))), some (.inl bi_), some (.inr (.inl mk_)), none, some (.inl n_), some (.inl an_), some (.inr (.inl hs_)), none, some (.inl w_), none, none, none, none], [.inl 1, .inl n_], S_)) rfl ?_
            refine sm_T_bin (w := n_ - 1) rfl (bi_sub (by omega) (by omega) (by omega)) ?_
            refine sm_T_go 1 (c1 := (169, [some (.inr (.inr (some (1, 0)))), some (.inl bi_), some (.inr (.inl mk_)), none, some (.inl n_), some (.inl an_), some (.inr (.inl hs_)), none, some (.inl w_), none, none, none, none], [.inl w_, .inl (n_ - 1)], S_)) rfl ?_
            refine sm_T_cal (d1 := 0) (Q1 := vq_49n (n_ - 1) w_ S_) rfl rfl (by decide) (vc_49n (n_ - 1) w_ S_ hI_ (by omega) (by omega)) (fun u_ Sx16_ px19_ => ?_)
            obtain ⟨rfl, vx21_, rfl, px19_⟩ := px19_
            have e169_ := px19_
            refine sm_T_go 5 (c1 := (182, [some (.inr (.inr (some (1, 0)))), some (.inl bi_), some (.inr (.inl mk_)), none, some (.inl n_), some (.inl an_), some (.inr (.inl hs_)), none, some (.inl w_), some (.inr (.inl vx21_)), none, none, none], [.inl 64, .inl n_, .inr (.inr (some (32, 0)))], S_)) rfl ?_
            refine sm_T_bin (w := 64 * n_) rfl (bi_mul (by omega) (by omega) (by omega)) ?_
            refine sm_T_go 1 (c1 := (185, [some (.inr (.inr (some (1, 0)))), some (.inl bi_), some (.inr (.inl mk_)), none, some (.inl n_), some (.inl an_), some (.inr (.inl hs_)), none, some (.inl w_), some (.inr (.inl vx21_)), none, none, none], [.inl w_, .inl (64 * n_), .inr (.inr (some (32, 0)))], S_)) rfl ?_
            refine sm_T_bin (w := 64 * n_ + w_) rfl (bi_add (by omega) (by omega) (by omega)) ?_
            refine sm_T_go 3 (c1 := (190, [some (.inr (.inr (some (1, 0)))), some (.inl bi_), some (.inr (.inl mk_)), none, some (.inl n_), some (.inl an_), some (.inr (.inl hs_)), none, some (.inl w_), some (.inr (.inl vx21_)), none, none, none], [.inr (.inl (l_3 vx21_ mk_)), .inl (64 * n_ + w_), .inr (.inr (some (32, 0)))], S_)) rfl ?_
            refine sm_T_last (n := 64832) rfl rfl (by omega) (by omega) ?_
            have hIx22_ : gi (sm_aL S_ 32 0 (64 * n_ + w_).toNat ((l_3 vx21_ mk_))) := gi_aL hI_
            have hFx23_ : ai_fr (sx_W vw_47n) S0_ (sm_aL S_ 32 0 (64 * n_ + w_).toNat ((l_3 vx21_ mk_))) := ai_fr_tr hF_ (ai_fr_aL rfl)
            have hDx24_ : idf dd_ S0_ (sm_aL S_ 32 0 (64 * n_ + w_).toNat ((l_3 vx21_ mk_))) := idf_aL hD_
            refine sm_T_go 4 (c1 := (199, [some (.inr (.inr (some (1, 0)))), some (.inl bi_), some (.inr (.inl mk_)), none, some (.inl n_), some (.inl an_), some (.inr (.inl hs_)), none, some (.inl w_), some (.inr (.inl vx21_)), none, none, none], [.inl 64, .inl n_, .inr (.inr (some (32, 0)))], sm_aL S_ 32 0 (64 * n_ + w_).toNat ((l_3 vx21_ mk_)))) rfl ?_
            refine sm_T_bin (w := 64 * n_) rfl (bi_mul (by omega) (by omega) (by omega)) ?_
            refine sm_T_lald (n := 64832) rfl rfl (by omega) (by omega) ?_
            refine sm_T_go 4 (c1 := (205, [some (.inr (.inr (some (1, 0)))), some (.inl bi_), some (.inr (.inl mk_)), none, some (.inl n_), some (.inl an_), some (.inr (.inl hs_)), none, some (.inl w_), some (.inr (.inl vx21_)), none, none, none], [.inl (sm_lcmp ((l_3 (((sm_aL S_ 32 0 (64 * n_ + w_).toNat ((l_3 vx21_ mk_))).2.2.2 32 0 (64 * n_).toNat)) 1)) 0)], sm_aL S_ 32 0 (64 * n_ + w_).toNat ((l_3 vx21_ mk_)))) rfl ?_
            refine sm_T_b0 (a := 1) (z := 10) rfl (fun cx25_ => ?_) (fun cx25_ => ?_)
            · have cx25_ : (sm_lcmp ((l_3 (((sm_aL S_ 32 0 (64 * n_ + w_).toNat ((l_3 vx21_ mk_))).2.2.2 32 0 (64 * n_).toNat)) 1)) 0) ≠ 0 := of_decide_eq_true cx25_
              refine sm_T_go 1 (c1 := (217, [some (.inr (.inr (some (1, 0)))), some (.inl bi_), some (.inr (.inl mk_)), none, some (.inl n_), some (.inl an_), some (.inr (.inl hs_)), none, some (.inl w_), some (.inr (.inl vx21_)), none, none, none], [.inr (.inl vx21_)], sm_aL S_ 32 0 (64 * n_ + w_).toNat ((l_3 vx21_ mk_)))) rfl ?_
              refine sm_T_nt (u := some (.inr (.inl (-1)))) (S1 := sm_aL S_ 32 0 (64 * n_ + w_).toNat ((l_3 vx21_ mk_))) rfl rfl rfl ?_
              refine sm_T_go 5 (c1 := (227, [some (.inr (.inr (some (1, 0)))), some (.inl bi_), some (.inr (.inl mk_)), none, some (.inl n_), some (.inl an_), some (.inr (.inl hs_)), none, some (.inl w_), some (.inr (.inl vx21_)), none, some (.inr (.inl (l_3 ((l_5 vx21_ (-1))) mk_))), none], [.inr (.inl hs_)], sm_aL S_ 32 0 (64 * n_ + w_).toNat ((l_3 vx21_ mk_)))) rfl ?_
              refine sm_T_nt (u := some (.inr (.inl 31))) (S1 := sm_aL S_ 32 0 (64 * n_ + w_).toNat ((l_3 vx21_ mk_))) rfl rfl rfl ?_
              refine sm_T_go 8 (c1 := (242, [some (.inr (.inr (some (1, 0)))), some (.inl bi_), some (.inr (.inl mk_)), none, some (.inl n_), some (.inl an_), some (.inr (.inl (l_0 ((l_2 hs_ 31)) ((l_5 ((l_3 ((l_5 vx21_ (-1))) mk_)) ((l_s2 ((l_3 ((l_5 vx21_ (-1))) mk_)) 29))))))), none, some (.inl w_), some (.inr (.inl vx21_)), none, some (.inr (.inl (l_3 ((l_5 vx21_ (-1))) mk_))), none], [], sm_aL S_ 32 0 (64 * n_ + w_).toNat ((l_3 vx21_ mk_)))) rfl ?_
              refine sm_T_inc (a := 8) (z := 1) (v := w_) (w := w_ + 1) rfl rfl (by omega) (by omega) (by omega) ?_
              refine sm_T_go 1 (c1 := (104, [some (.inr (.inr (some (1, 0)))), some (.inl bi_), some (.inr (.inl mk_)), none, some (.inl n_), some (.inl an_), some (.inr (.inl (l_0 ((l_2 hs_ 31)) ((l_5 ((l_3 ((l_5 vx21_ (-1))) mk_)) ((l_s2 ((l_3 ((l_5 vx21_ (-1))) mk_)) 29))))))), none, some (.inl (w_ + 1)), some (.inr (.inl vx21_)), none, some (.inr (.inl (l_3 ((l_5 vx21_ (-1))) mk_))), none], [], sm_aL S_ 32 0 (64 * n_ + w_).toNat ((l_3 vx21_ mk_)))) rfl ?_
              refine sm_T_wk [some (.inr (.inr (some (1, 0)))), some (.inl bi_), some (.inr (.inl mk_)), none, some (.inl n_), some (.inl an_), some (.inr (.inl (l_0 ((l_2 hs_ 31)) ((l_5 ((l_3 ((l_5 vx21_ (-1))) mk_)) ((l_s2 ((l_3 ((l_5 vx21_ (-1))) mk_)) 29))))))), none, some (.inl (w_ + 1)), none, none, none, none] (by exact ⟨rfl, rfl, rfl, rfl, rfl, rfl, rfl, trivial⟩) ?_
              refine ih_.2 bi_ mk_ n_ an_ ((l_0 ((l_2 hs_ 31)) ((l_5 ((l_3 ((l_5 vx21_ (-1))) mk_)) ((l_s2 ((l_3 ((l_5 vx21_ (-1))) mk_)) 29)))))) (w_ + 1) Wz_ (sm_aL S_ 32 0 (64 * n_ + w_).toNat ((l_3 vx21_ mk_))) hIx22_ hFx23_ ⟨?_, ?_, ?_, ?_, ?_, ?_, ?_, ?_, ?_, ?_, ?_, ?_, ?_, trivial⟩ ?_
              · exact hW_
              · exact hmk_
              · omega
              · exact sw1_cg h1_ (by omega) (fun j9_ hj9_ => by rw [rd_leq, if_neg (by omega)])
              · (intro z9_; refine ⟨(h2_ z9_).1, fun w9_ hw9_ => ?_⟩; rw [rd_leq, if_neg (by omega)]; exact (h2_ z9_).2 w9_ hw9_)
              · exact bks_cg h3_ (fun _ => Iff.rfl) (Nat.le_refl _) (fun m9_ hm9_ => (hrw_cg (fun w9_ hw9_ => by have := hm9_.1; rw [rd_leq, if_neg (by omega)]) (by omega)).symm)
              · rw [show (w_ + 1).toNat = w_.toNat + 1 by omega]
                refine hsw_up hmk_.1 h4_ (fun k9_ => by rw [show 64 * n_.toNat + w_.toNat = (64 * n_ + w_).toNat by omega]; exact rd_leq) ?_
                rw [show (64 * n_).toNat = 64 * n_.toNat by omega] at cx25_
                first | exact Or.inl ⟨lc_0.mp (by omega), rfl⟩ | exact Or.inr ⟨fun q9_ => cx25_ (lc_0.mpr q9_), rfl⟩
              · rw [show (w_ + 1).toNat = w_.toNat + 1 by omega]
                refine srw_up (fun a9_ => hg_.2.2 n_.toNat a9_ (by omega)) (by omega) h5_ (fun k9_ => by rw [show 64 * n_.toNat + w_.toNat = (64 * n_ + w_).toNat by omega]; exact rd_leq) (fun a9_ => ?_) (fun a9_ => ?_)
                · first | (exfalso; omega) | (rw [e131_, e147_, f42_, f43_])
                · first | rfl | (exfalso; omega)
              · exact fwr_cg (N_ := n_.toNat) (glo_of hg_ (by omega)) (Nat.le_refl _) (by omega) h6_ (fun j9_ hj9_ => by rw [rd_leq, if_neg (by omega)])
              · exact swl_cg h7_ (by omega) (fun j9_ hj9_ => by rw [rd_leq, if_neg (by omega)]) (fun k9_ hk9_ => rfl)
              · exact h9_
              · rw [show (w_ + 1).toNat = w_.toNat + 1 by omega]
                refine srb_up h8_ (fun k9_ => by rw [show 64 * n_.toNat + w_.toNat = (64 * n_ + w_).toNat by omega]; exact rd_leq) (fun a9_ b9_ => ?_)
                first | (exfalso; omega) | (rw [e169_, show (n_ - 1).toNat = n_.toNat - 1 by omega])
              · exact hDx24_
              · omega
            · have cx25_ : ¬ ((sm_lcmp ((l_3 (((sm_aL S_ 32 0 (64 * n_ + w_).toNat ((l_3 vx21_ mk_))).2.2.2 32 0 (64 * n_).toNat)) 1)) 0) ≠ 0) := of_decide_eq_false cx25_
              refine sm_T_go 6 (c1 := (227, [some (.inr (.inr (some (1, 0)))), some (.inl bi_), some (.inr (.inl mk_)), none, some (.inl n_), some (.inl an_), some (.inr (.inl hs_)), none, some (.inl w_), some (.inr (.inl vx21_)), none, some (.inr (.inl (l_3 vx21_ mk_))), none], [.inr (.inl hs_)], sm_aL S_ 32 0 (64 * n_ + w_).toNat ((l_3 vx21_ mk_)))) rfl ?_
              refine sm_T_nt (u := some (.inr (.inl 31))) (S1 := sm_aL S_ 32 0 (64 * n_ + w_).toNat ((l_3 vx21_ mk_))) rfl rfl rfl ?_
              refine sm_T_go 8 (c1 := (242, [some (.inr (.inr (some (1, 0)))), some (.inl bi_), some (.inr (.inl mk_)), none, some (.inl n_), some (.inl an_), some (.inr (.inl (l_0 ((l_2 hs_ 31)) ((l_5 ((l_3 vx21_ mk_)) ((l_s2 ((l_3 vx21_ mk_)) 29))))))), none, some (.inl w_), some (.inr (.inl vx21_)), none, some (.inr (.inl (l_3 vx21_ mk_))), none], [], sm_aL S_ 32 0 (64 * n_ + w_).toNat ((l_3 vx21_ mk_)))) rfl ?_
              refine sm_T_inc (a := 8) (z := 1) (v := w_) (w := w_ + 1) rfl rfl (by omega) (by omega) (by omega) ?_
              refine sm_T_go 1 (c1 := (104, [some (.inr (.inr (some (1, 0)))), some (.inl bi_), some (.inr (.inl mk_)), none, some (.inl n_), some (.inl an_), some (.inr (.inl (l_0 ((l_2 hs_ 31)) ((l_5 ((l_3 vx21_ mk_)) ((l_s2 ((l_3 vx21_ mk_)) 29))))))), none, some (.inl (w_ + 1)), some (.inr (.inl vx21_)), none, some (.inr (.inl (l_3 vx21_ mk_))), none], [], sm_aL S_ 32 0 (64 * n_ + w_).toNat ((l_3 vx21_ mk_)))) rfl ?_
              refine sm_T_wk [some (.inr (.inr (some (1, 0)))), some (.inl bi_), some (.inr (.inl mk_)), none, some (.inl n_), some (.inl an_), some (.inr (.inl (l_0 ((l_2 hs_ 31)) ((l_5 ((l_3 vx21_ mk_)) ((l_s2 ((l_3 vx21_ mk_)) 29))))))), none, some (.inl (w_ + 1)), none, none, none, none] (by exact ⟨rfl, rfl, rfl, rfl, rfl, rfl, rfl, trivial⟩) ?_
              refine ih_.2 bi_ mk_ n_ an_ ((l_0 ((l_2 hs_ 31)) ((l_5 ((l_3 vx21_ mk_)) ((l_s2 ((l_3 vx21_ mk_)) 29)))))) (w_ + 1) Wz_ (sm_aL S_ 32 0 (64 * n_ + w_).toNat ((l_3 vx21_ mk_))) hIx22_ hFx23_ ⟨?_, ?_, ?_, ?_, ?_, ?_, ?_, ?_, ?_, ?_, ?_, ?_, ?_, trivial⟩ ?_
              · exact hW_
              · exact hmk_
              · omega
              · exact sw1_cg h1_ (by omega) (fun j9_ hj9_ => by rw [rd_leq, if_neg (by omega)])
              · (intro z9_; refine ⟨(h2_ z9_).1, fun w9_ hw9_ => ?_⟩; rw [rd_leq, if_neg (by omega)]; exact (h2_ z9_).2 w9_ hw9_)
              · exact bks_cg h3_ (fun _ => Iff.rfl) (Nat.le_refl _) (fun m9_ hm9_ => (hrw_cg (fun w9_ hw9_ => by have := hm9_.1; rw [rd_leq, if_neg (by omega)]) (by omega)).symm)
              · rw [show (w_ + 1).toNat = w_.toNat + 1 by omega]
                refine hsw_up hmk_.1 h4_ (fun k9_ => by rw [show 64 * n_.toNat + w_.toNat = (64 * n_ + w_).toNat by omega]; exact rd_leq) ?_
                rw [show (64 * n_).toNat = 64 * n_.toNat by omega] at cx25_
                first | exact Or.inl ⟨lc_0.mp (by omega), rfl⟩ | exact Or.inr ⟨fun q9_ => cx25_ (lc_0.mpr q9_), rfl⟩
              · rw [show (w_ + 1).toNat = w_.toNat + 1 by omega]
                refine srw_up (fun a9_ => hg_.2.2 n_.toNat a9_ (by omega)) (by omega) h5_ (fun k9_ => by rw [show 64 * n_.toNat + w_.toNat = (64 * n_ + w_).toNat by omega]; exact rd_leq) (fun a9_ => ?_) (fun a9_ => ?_)
                · first | (exfalso; omega) | (rw [e131_, e147_, f42_, f43_])
                · first | rfl | (exfalso; omega)
              · exact fwr_cg (N_ := n_.toNat) (glo_of hg_ (by omega)) (Nat.le_refl _) (by omega) h6_ (fun j9_ hj9_ => by rw [rd_leq, if_neg (by omega)])
              · exact swl_cg h7_ (by omega) (fun j9_ hj9_ => by rw [rd_leq, if_neg (by omega)]) (fun k9_ hk9_ => rfl)
              · exact h9_
              · rw [show (w_ + 1).toNat = w_.toNat + 1 by omega]
                refine srb_up h8_ (fun k9_ => by rw [show 64 * n_.toNat + w_.toNat = (64 * n_ + w_).toNat by omega]; exact rd_leq) (fun a9_ b9_ => ?_)
                first | (exfalso; omega) | (rw [e169_, show (n_ - 1).toNat = n_.toNat - 1 by omega])
              · exact hDx24_
              · omega
          · have cx15_ : ¬ (n_ ≠ 0) := of_decide_eq_false cx15_
            refine sm_T_go 7 (c1 := (182, [some (.inr (.inr (some (1, 0)))), some (.inl bi_), some (.inr (.inl mk_)), none, some (.inl n_), some (.inl an_), some (.inr (.inl hs_)), none, some (.inl w_), some (.inr (.inl 0)), none, none, none], [.inl 64, .inl n_, .inr (.inr (some (32, 0)))], S_)) rfl ?_
            refine sm_T_bin (w := 64 * n_) rfl (bi_mul (by omega) (by omega) (by omega)) ?_
            refine sm_T_go 1 (c1 := (185, [some (.inr (.inr (some (1, 0)))), some (.inl bi_), some (.inr (.inl mk_)), none, some (.inl n_), some (.inl an_), some (.inr (.inl hs_)), none, some (.inl w_), some (.inr (.inl 0)), none, none, none], [.inl w_, .inl (64 * n_), .inr (.inr (some (32, 0)))], S_)) rfl ?_
            refine sm_T_bin (w := 64 * n_ + w_) rfl (bi_add (by omega) (by omega) (by omega)) ?_
            refine sm_T_go 3 (c1 := (190, [some (.inr (.inr (some (1, 0)))), some (.inl bi_), some (.inr (.inl mk_)), none, some (.inl n_), some (.inl an_), some (.inr (.inl hs_)), none, some (.inl w_), some (.inr (.inl 0)), none, none, none], [.inr (.inl (l_3 0 mk_)), .inl (64 * n_ + w_), .inr (.inr (some (32, 0)))], S_)) rfl ?_
            refine sm_T_last (n := 64832) rfl rfl (by omega) (by omega) ?_
            have hIx26_ : gi (sm_aL S_ 32 0 (64 * n_ + w_).toNat ((l_3 0 mk_))) := gi_aL hI_
            have hFx27_ : ai_fr (sx_W vw_47n) S0_ (sm_aL S_ 32 0 (64 * n_ + w_).toNat ((l_3 0 mk_))) := ai_fr_tr hF_ (ai_fr_aL rfl)
            have hDx28_ : idf dd_ S0_ (sm_aL S_ 32 0 (64 * n_ + w_).toNat ((l_3 0 mk_))) := idf_aL hD_
            refine sm_T_go 4 (c1 := (199, [some (.inr (.inr (some (1, 0)))), some (.inl bi_), some (.inr (.inl mk_)), none, some (.inl n_), some (.inl an_), some (.inr (.inl hs_)), none, some (.inl w_), some (.inr (.inl 0)), none, none, none], [.inl 64, .inl n_, .inr (.inr (some (32, 0)))], sm_aL S_ 32 0 (64 * n_ + w_).toNat ((l_3 0 mk_)))) rfl ?_
            refine sm_T_bin (w := 64 * n_) rfl (bi_mul (by omega) (by omega) (by omega)) ?_
            refine sm_T_lald (n := 64832) rfl rfl (by omega) (by omega) ?_
            refine sm_T_go 4 (c1 := (205, [some (.inr (.inr (some (1, 0)))), some (.inl bi_), some (.inr (.inl mk_)), none, some (.inl n_), some (.inl an_), some (.inr (.inl hs_)), none, some (.inl w_), some (.inr (.inl 0)), none, none, none], [.inl (sm_lcmp ((l_3 (((sm_aL S_ 32 0 (64 * n_ + w_).toNat ((l_3 0 mk_))).2.2.2 32 0 (64 * n_).toNat)) 1)) 0)], sm_aL S_ 32 0 (64 * n_ + w_).toNat ((l_3 0 mk_)))) rfl ?_
            refine sm_T_b0 (a := 1) (z := 10) rfl (fun cx29_ => ?_) (fun cx29_ => ?_)
            · have cx29_ : (sm_lcmp ((l_3 (((sm_aL S_ 32 0 (64 * n_ + w_).toNat ((l_3 0 mk_))).2.2.2 32 0 (64 * n_).toNat)) 1)) 0) ≠ 0 := of_decide_eq_true cx29_
              refine sm_T_go 1 (c1 := (217, [some (.inr (.inr (some (1, 0)))), some (.inl bi_), some (.inr (.inl mk_)), none, some (.inl n_), some (.inl an_), some (.inr (.inl hs_)), none, some (.inl w_), some (.inr (.inl 0)), none, none, none], [.inr (.inl 0)], sm_aL S_ 32 0 (64 * n_ + w_).toNat ((l_3 0 mk_)))) rfl ?_
              refine sm_T_nt (u := some (.inr (.inl (-1)))) (S1 := sm_aL S_ 32 0 (64 * n_ + w_).toNat ((l_3 0 mk_))) rfl rfl rfl ?_
              refine sm_T_go 5 (c1 := (227, [some (.inr (.inr (some (1, 0)))), some (.inl bi_), some (.inr (.inl mk_)), none, some (.inl n_), some (.inl an_), some (.inr (.inl hs_)), none, some (.inl w_), some (.inr (.inl 0)), none, some (.inr (.inl (l_3 ((l_5 0 (-1))) mk_))), none], [.inr (.inl hs_)], sm_aL S_ 32 0 (64 * n_ + w_).toNat ((l_3 0 mk_)))) rfl ?_
              refine sm_T_nt (u := some (.inr (.inl 31))) (S1 := sm_aL S_ 32 0 (64 * n_ + w_).toNat ((l_3 0 mk_))) rfl rfl rfl ?_
              refine sm_T_go 8 (c1 := (242, [some (.inr (.inr (some (1, 0)))), some (.inl bi_), some (.inr (.inl mk_)), none, some (.inl n_), some (.inl an_), some (.inr (.inl (l_0 ((l_2 hs_ 31)) ((l_5 ((l_3 ((l_5 0 (-1))) mk_)) ((l_s2 ((l_3 ((l_5 0 (-1))) mk_)) 29))))))), none, some (.inl w_), some (.inr (.inl 0)), none, some (.inr (.inl (l_3 ((l_5 0 (-1))) mk_))), none], [], sm_aL S_ 32 0 (64 * n_ + w_).toNat ((l_3 0 mk_)))) rfl ?_
              refine sm_T_inc (a := 8) (z := 1) (v := w_) (w := w_ + 1) rfl rfl (by omega) (by omega) (by omega) ?_
              refine sm_T_go 1 (c1 := (104, [some (.inr (.inr (some (1, 0)))), some (.inl bi_), some (.inr (.inl mk_)), none, some (.inl n_), some (.inl an_), some (.inr (.inl (l_0 ((l_2 hs_ 31)) ((l_5 ((l_3 ((l_5 0 (-1))) mk_)) ((l_s2 ((l_3 ((l_5 0 (-1))) mk_)) 29))))))), none, some (.inl (w_ + 1)), some (.inr (.inl 0)), none, some (.inr (.inl (l_3 ((l_5 0 (-1))) mk_))), none], [], sm_aL S_ 32 0 (64 * n_ + w_).toNat ((l_3 0 mk_)))) rfl ?_
              refine sm_T_wk [some (.inr (.inr (some (1, 0)))), some (.inl bi_), some (.inr (.inl mk_)), none, some (.inl n_), some (.inl an_), some (.inr (.inl (l_0 ((l_2 hs_ 31)) ((l_5 ((l_3 ((l_5 0 (-1))) mk_)) ((l_s2 ((l_3 ((l_5 0 (-1))) mk_)) 29))))))), none, some (.inl (w_ + 1)), none, none, none, none] (by exact ⟨rfl, rfl, rfl, rfl, rfl, rfl, rfl, trivial⟩) ?_
              refine ih_.2 bi_ mk_ n_ an_ ((l_0 ((l_2 hs_ 31)) ((l_5 ((l_3 ((l_5 0 (-1))) mk_)) ((l_s2 ((l_3 ((l_5 0 (-1))) mk_)) 29)))))) (w_ + 1) Wz_ (sm_aL S_ 32 0 (64 * n_ + w_).toNat ((l_3 0 mk_))) hIx26_ hFx27_ ⟨?_, ?_, ?_, ?_, ?_, ?_, ?_, ?_, ?_, ?_, ?_, ?_, ?_, trivial⟩ ?_
              · exact hW_
              · exact hmk_
              · omega
              · exact sw1_cg h1_ (by omega) (fun j9_ hj9_ => by rw [rd_leq, if_neg (by omega)])
              · (intro z9_; refine ⟨(h2_ z9_).1, fun w9_ hw9_ => ?_⟩; rw [rd_leq, if_neg (by omega)]; exact (h2_ z9_).2 w9_ hw9_)
              · exact bks_cg h3_ (fun _ => Iff.rfl) (Nat.le_refl _) (fun m9_ hm9_ => (hrw_cg (fun w9_ hw9_ => by have := hm9_.1; rw [rd_leq, if_neg (by omega)]) (by omega)).symm)
              · rw [show (w_ + 1).toNat = w_.toNat + 1 by omega]
                refine hsw_up hmk_.1 h4_ (fun k9_ => by rw [show 64 * n_.toNat + w_.toNat = (64 * n_ + w_).toNat by omega]; exact rd_leq) ?_
                rw [show (64 * n_).toNat = 64 * n_.toNat by omega] at cx29_
                first | exact Or.inl ⟨lc_0.mp (by omega), rfl⟩ | exact Or.inr ⟨fun q9_ => cx29_ (lc_0.mpr q9_), rfl⟩
              · rw [show (w_ + 1).toNat = w_.toNat + 1 by omega]
                refine srw_up (fun a9_ => hg_.2.2 n_.toNat a9_ (by omega)) (by omega) h5_ (fun k9_ => by rw [show 64 * n_.toNat + w_.toNat = (64 * n_ + w_).toNat by omega]; exact rd_leq) (fun a9_ => ?_) (fun a9_ => ?_)
                · first | (exfalso; omega) | (rw [e131_, e147_, f42_, f43_])
                · first | rfl | (exfalso; omega)
              · exact fwr_cg (N_ := n_.toNat) (glo_of hg_ (by omega)) (Nat.le_refl _) (by omega) h6_ (fun j9_ hj9_ => by rw [rd_leq, if_neg (by omega)])
              · exact swl_cg h7_ (by omega) (fun j9_ hj9_ => by rw [rd_leq, if_neg (by omega)]) (fun k9_ hk9_ => rfl)
              · exact h9_
              · rw [show (w_ + 1).toNat = w_.toNat + 1 by omega]
                refine srb_up h8_ (fun k9_ => by rw [show 64 * n_.toNat + w_.toNat = (64 * n_ + w_).toNat by omega]; exact rd_leq) (fun a9_ b9_ => ?_)
                first | (exfalso; omega) | (rw [e169_, show (n_ - 1).toNat = n_.toNat - 1 by omega])
              · exact hDx28_
              · omega
            · have cx29_ : ¬ ((sm_lcmp ((l_3 (((sm_aL S_ 32 0 (64 * n_ + w_).toNat ((l_3 0 mk_))).2.2.2 32 0 (64 * n_).toNat)) 1)) 0) ≠ 0) := of_decide_eq_false cx29_
              refine sm_T_go 6 (c1 := (227, [some (.inr (.inr (some (1, 0)))), some (.inl bi_), some (.inr (.inl mk_)), none, some (.inl n_), some (.inl an_), some (.inr (.inl hs_)), none, some (.inl w_), some (.inr (.inl 0)), none, some (.inr (.inl (l_3 0 mk_))), none], [.inr (.inl hs_)], sm_aL S_ 32 0 (64 * n_ + w_).toNat ((l_3 0 mk_)))) rfl ?_
              refine sm_T_nt (u := some (.inr (.inl 31))) (S1 := sm_aL S_ 32 0 (64 * n_ + w_).toNat ((l_3 0 mk_))) rfl rfl rfl ?_
              refine sm_T_go 8 (c1 := (242, [some (.inr (.inr (some (1, 0)))), some (.inl bi_), some (.inr (.inl mk_)), none, some (.inl n_), some (.inl an_), some (.inr (.inl (l_0 ((l_2 hs_ 31)) ((l_5 ((l_3 0 mk_)) ((l_s2 ((l_3 0 mk_)) 29))))))), none, some (.inl w_), some (.inr (.inl 0)), none, some (.inr (.inl (l_3 0 mk_))), none], [], sm_aL S_ 32 0 (64 * n_ + w_).toNat ((l_3 0 mk_)))) rfl ?_
              refine sm_T_inc (a := 8) (z := 1) (v := w_) (w := w_ + 1) rfl rfl (by omega) (by omega) (by omega) ?_
              refine sm_T_go 1 (c1 := (104, [some (.inr (.inr (some (1, 0)))), some (.inl bi_), some (.inr (.inl mk_)), none, some (.inl n_), some (.inl an_), some (.inr (.inl (l_0 ((l_2 hs_ 31)) ((l_5 ((l_3 0 mk_)) ((l_s2 ((l_3 0 mk_)) 29))))))), none, some (.inl (w_ + 1)), some (.inr (.inl 0)), none, some (.inr (.inl (l_3 0 mk_))), none], [], sm_aL S_ 32 0 (64 * n_ + w_).toNat ((l_3 0 mk_)))) rfl ?_
              refine sm_T_wk [some (.inr (.inr (some (1, 0)))), some (.inl bi_), some (.inr (.inl mk_)), none, some (.inl n_), some (.inl an_), some (.inr (.inl (l_0 ((l_2 hs_ 31)) ((l_5 ((l_3 0 mk_)) ((l_s2 ((l_3 0 mk_)) 29))))))), none, some (.inl (w_ + 1)), none, none, none, none] (by exact ⟨rfl, rfl, rfl, rfl, rfl, rfl, rfl, trivial⟩) ?_
              refine ih_.2 bi_ mk_ n_ an_ ((l_0 ((l_2 hs_ 31)) ((l_5 ((l_3 0 mk_)) ((l_s2 ((l_3 0 mk_)) 29)))))) (w_ + 1) Wz_ (sm_aL S_ 32 0 (64 * n_ + w_).toNat ((l_3 0 mk_))) hIx26_ hFx27_ ⟨?_, ?_, ?_, ?_, ?_, ?_, ?_, ?_, ?_, ?_, ?_, ?_, ?_, trivial⟩ ?_
              · exact hW_
              · exact hmk_
              · omega
              · exact sw1_cg h1_ (by omega) (fun j9_ hj9_ => by rw [rd_leq, if_neg (by omega)])
              · (intro z9_; refine ⟨(h2_ z9_).1, fun w9_ hw9_ => ?_⟩; rw [rd_leq, if_neg (by omega)]; exact (h2_ z9_).2 w9_ hw9_)
              · exact bks_cg h3_ (fun _ => Iff.rfl) (Nat.le_refl _) (fun m9_ hm9_ => (hrw_cg (fun w9_ hw9_ => by have := hm9_.1; rw [rd_leq, if_neg (by omega)]) (by omega)).symm)
              · rw [show (w_ + 1).toNat = w_.toNat + 1 by omega]
                refine hsw_up hmk_.1 h4_ (fun k9_ => by rw [show 64 * n_.toNat + w_.toNat = (64 * n_ + w_).toNat by omega]; exact rd_leq) ?_
                rw [show (64 * n_).toNat = 64 * n_.toNat by omega] at cx29_
                first | exact Or.inl ⟨lc_0.mp (by omega), rfl⟩ | exact Or.inr ⟨fun q9_ => cx29_ (lc_0.mpr q9_), rfl⟩
              · rw [show (w_ + 1).toNat = w_.toNat + 1 by omega]
                refine srw_up (fun a9_ => hg_.2.2 n_.toNat a9_ (by omega)) (by omega) h5_ (fun k9_ => by rw [show 64 * n_.toNat + w_.toNat = (64 * n_ + w_).toNat by omega]; exact rd_leq) (fun a9_ => ?_) (fun a9_ => ?_)
                · first | (exfalso; omega) | (rw [e131_, e147_, f42_, f43_])
                · first | rfl | (exfalso; omega)
              · exact fwr_cg (N_ := n_.toNat) (glo_of hg_ (by omega)) (Nat.le_refl _) (by omega) h6_ (fun j9_ hj9_ => by rw [rd_leq, if_neg (by omega)])
              · exact swl_cg h7_ (by omega) (fun j9_ hj9_ => by rw [rd_leq, if_neg (by omega)]) (fun k9_ hk9_ => rfl)
              · exact h9_
              · rw [show (w_ + 1).toNat = w_.toNat + 1 by omega]
                refine srb_up h8_ (fun k9_ => by rw [show 64 * n_.toNat + w_.toNat = (64 * n_ + w_).toNat by omega]; exact rd_leq) (fun a9_ b9_ => ?_)
                first | (exfalso; omega) | (rw [e169_, show (n_ - 1).toNat = n_.toNat - 1 by omega])
              · exact hDx28_
              · omega
        · have cx14_ : ¬ (an_ = 0) := of_decide_eq_false cx14_
          refine sm_T_go 2 (c1 := (120, [some (.inr (.inr (some (1, 0)))), some (.inl bi_), some (.inr (.inl mk_)), none, some (.inl n_), some (.inl an_), some (.inr (.inl hs_)), none, some (.inl w_), none, none, none, none], [.inr (.inr (some (1, 0))), .inr (.inr (some (1, 0)))], S_)) rfl ?_
          refine sm_T_gr rfl rfl ((hF_.2.1 1 0 1 rfl).trans hd_) ?_
          refine sm_T_go 2 (c1 := (128, [some (.inr (.inr (some (1, 0)))), some (.inl bi_), some (.inr (.inl mk_)), none, some (.inl n_), some (.inl an_), some (.inr (.inl hs_)), none, some (.inl w_), none, none, none, none], [.inl n_, .inr (.inr (some (42, (0 + dd_)))), .inr (.inr (some (1, 0)))], S_)) rfl ?_
          refine sm_T_iald (n := 1013) rfl rfl (by omega) (by omega) ?_
          have bx30_ : 0 ≤ S_.2.2.1 42 (0 + dd_) n_.toNat ∧ S_.2.2.1 42 (0 + dd_) n_.toNat ≤ 2025 := hI_.2 42 (0 + dd_) _
          refine sm_T_go 1 (c1 := (131, [some (.inr (.inr (some (1, 0)))), some (.inl bi_), some (.inr (.inl mk_)), none, some (.inl n_), some (.inl an_), some (.inr (.inl hs_)), none, some (.inl w_), none, none, none, none], [.inl w_, .inl (S_.2.2.1 42 (0 + dd_) n_.toNat), .inr (.inr (some (1, 0)))], S_)) rfl ?_
          refine sm_T_cal (d1 := 0) (Q1 := vq_48 (S_.2.2.1 42 (0 + dd_) n_.toNat) w_ S_) rfl rfl (by decide) (vc_48 (S_.2.2.1 42 (0 + dd_) n_.toNat) w_ S_ hI_ (by omega) (by omega)) (fun u_ Sx31_ px34_ => ?_)
          obtain ⟨rfl, vx36_, rfl, px34_⟩ := px34_
          have e131_ := px34_
          refine sm_T_go 2 (c1 := (136, [some (.inr (.inr (some (1, 0)))), some (.inl bi_), some (.inr (.inl mk_)), none, some (.inl n_), some (.inl an_), some (.inr (.inl hs_)), none, some (.inl w_), none, none, none, none], [.inr (.inr (some (1, 0))), .inr (.inr (some (1, 0))), .inr (.inl vx36_)], S_)) rfl ?_
          refine sm_T_gr rfl rfl ((hF_.2.1 1 0 1 rfl).trans hd_) ?_
          refine sm_T_go 2 (c1 := (144, [some (.inr (.inr (some (1, 0)))), some (.inl bi_), some (.inr (.inl mk_)), none, some (.inl n_), some (.inl an_), some (.inr (.inl hs_)), none, some (.inl w_), none, none, none, none], [.inl n_, .inr (.inr (some (43, (0 + dd_)))), .inr (.inr (some (1, 0))), .inr (.inl vx36_)], S_)) rfl ?_
          refine sm_T_iald (n := 1013) rfl rfl (by omega) (by omega) ?_
          have bx37_ : 0 ≤ S_.2.2.1 43 (0 + dd_) n_.toNat ∧ S_.2.2.1 43 (0 + dd_) n_.toNat ≤ 2025 := hI_.2 43 (0 + dd_) _
          refine sm_T_go 1 (c1 := (147, [some (.inr (.inr (some (1, 0)))), some (.inl bi_), some (.inr (.inl mk_)), none, some (.inl n_), some (.inl an_), some (.inr (.inl hs_)), none, some (.inl w_), none, none, none, none], [.inl w_, .inl (S_.2.2.1 43 (0 + dd_) n_.toNat), .inr (.inr (some (1, 0))), .inr (.inl vx36_)], S_)) rfl ?_
          refine sm_T_cal (d1 := 0) (Q1 := vq_48 (S_.2.2.1 43 (0 + dd_) n_.toNat) w_ S_) rfl rfl (by decide) (vc_48 (S_.2.2.1 43 (0 + dd_) n_.toNat) w_ S_ hI_ (by omega) (by omega)) (fun u_ Sx38_ px41_ => ?_)
          obtain ⟨rfl, vx43_, rfl, px41_⟩ := px41_
          have e147_ := px41_
          refine sm_T_go 7 (c1 := (182, [some (.inr (.inr (some (1, 0)))), some (.inl bi_), some (.inr (.inl mk_)), none, some (.inl n_), some (.inl an_), some (.inr (.inl hs_)), none, some (.inl w_), some (.inr (.inl (l_3 vx36_ vx43_))), none, none, none], [.inl 64, .inl n_, .inr (.inr (some (32, 0)))], S_)) rfl ?_
          refine sm_T_bin (w := 64 * n_) rfl (bi_mul (by omega) (by omega) (by omega)) ?_
          refine sm_T_go 1 (c1 := (185, [some (.inr (.inr (some (1, 0)))), some (.inl bi_), some (.inr (.inl mk_)), none, some (.inl n_), some (.inl an_), some (.inr (.inl hs_)), none, some (.inl w_), some (.inr (.inl (l_3 vx36_ vx43_))), none, none, none], [.inl w_, .inl (64 * n_), .inr (.inr (some (32, 0)))], S_)) rfl ?_
          refine sm_T_bin (w := 64 * n_ + w_) rfl (bi_add (by omega) (by omega) (by omega)) ?_
          refine sm_T_go 3 (c1 := (190, [some (.inr (.inr (some (1, 0)))), some (.inl bi_), some (.inr (.inl mk_)), none, some (.inl n_), some (.inl an_), some (.inr (.inl hs_)), none, some (.inl w_), some (.inr (.inl (l_3 vx36_ vx43_))), none, none, none], [.inr (.inl (l_3 ((l_3 vx36_ vx43_)) mk_)), .inl (64 * n_ + w_), .inr (.inr (some (32, 0)))], S_)) rfl ?_
          refine sm_T_last (n := 64832) rfl rfl (by omega) (by omega) ?_
          have hIx44_ : gi (sm_aL S_ 32 0 (64 * n_ + w_).toNat ((l_3 ((l_3 vx36_ vx43_)) mk_))) := gi_aL hI_
          have hFx45_ : ai_fr (sx_W vw_47n) S0_ (sm_aL S_ 32 0 (64 * n_ + w_).toNat ((l_3 ((l_3 vx36_ vx43_)) mk_))) := ai_fr_tr hF_ (ai_fr_aL rfl)
          have hDx46_ : idf dd_ S0_ (sm_aL S_ 32 0 (64 * n_ + w_).toNat ((l_3 ((l_3 vx36_ vx43_)) mk_))) := idf_aL hD_
          refine sm_T_go 4 (c1 := (199, [some (.inr (.inr (some (1, 0)))), some (.inl bi_), some (.inr (.inl mk_)), none, some (.inl n_), some (.inl an_), some (.inr (.inl hs_)), none, some (.inl w_), some (.inr (.inl (l_3 vx36_ vx43_))), none, none, none], [.inl 64, .inl n_, .inr (.inr (some (32, 0)))], sm_aL S_ 32 0 (64 * n_ + w_).toNat ((l_3 ((l_3 vx36_ vx43_)) mk_)))) rfl ?_
          refine sm_T_bin (w := 64 * n_) rfl (bi_mul (by omega) (by omega) (by omega)) ?_
          refine sm_T_lald (n := 64832) rfl rfl (by omega) (by omega) ?_
          refine sm_T_go 4 (c1 := (205, [some (.inr (.inr (some (1, 0)))), some (.inl bi_), some (.inr (.inl mk_)), none, some (.inl n_), some (.inl an_), some (.inr (.inl hs_)), none, some (.inl w_), some (.inr (.inl (l_3 vx36_ vx43_))), none, none, none], [.inl (sm_lcmp ((l_3 (((sm_aL S_ 32 0 (64 * n_ + w_).toNat ((l_3 ((l_3 vx36_ vx43_)) mk_))).2.2.2 32 0 (64 * n_).toNat)) 1)) 0)], sm_aL S_ 32 0 (64 * n_ + w_).toNat ((l_3 ((l_3 vx36_ vx43_)) mk_)))) rfl ?_
          refine sm_T_b0 (a := 1) (z := 10) rfl (fun cx47_ => ?_) (fun cx47_ => ?_)
          · have cx47_ : (sm_lcmp ((l_3 (((sm_aL S_ 32 0 (64 * n_ + w_).toNat ((l_3 ((l_3 vx36_ vx43_)) mk_))).2.2.2 32 0 (64 * n_).toNat)) 1)) 0) ≠ 0 := of_decide_eq_true cx47_
            refine sm_T_go 1 (c1 := (217, [some (.inr (.inr (some (1, 0)))), some (.inl bi_), some (.inr (.inl mk_)), none, some (.inl n_), some (.inl an_), some (.inr (.inl hs_)), none, some (.inl w_), some (.inr (.inl (l_3 vx36_ vx43_))), none, none, none], [.inr (.inl (l_3 vx36_ vx43_))], sm_aL S_ 32 0 (64 * n_ + w_).toNat ((l_3 ((l_3 vx36_ vx43_)) mk_)))) rfl ?_
            refine sm_T_nt (u := some (.inr (.inl (-1)))) (S1 := sm_aL S_ 32 0 (64 * n_ + w_).toNat ((l_3 ((l_3 vx36_ vx43_)) mk_))) rfl rfl rfl ?_
            refine sm_T_go 5 (c1 := (227, [some (.inr (.inr (some (1, 0)))), some (.inl bi_), some (.inr (.inl mk_)), none, some (.inl n_), some (.inl an_), some (.inr (.inl hs_)), none, some (.inl w_), some (.inr (.inl (l_3 vx36_ vx43_))), none, some (.inr (.inl (l_3 ((l_5 ((l_3 vx36_ vx43_)) (-1))) mk_))), none], [.inr (.inl hs_)], sm_aL S_ 32 0 (64 * n_ + w_).toNat ((l_3 ((l_3 vx36_ vx43_)) mk_)))) rfl ?_
            refine sm_T_nt (u := some (.inr (.inl 31))) (S1 := sm_aL S_ 32 0 (64 * n_ + w_).toNat ((l_3 ((l_3 vx36_ vx43_)) mk_))) rfl rfl rfl ?_
            refine sm_T_go 8 (c1 := (242, [some (.inr (.inr (some (1, 0)))), some (.inl bi_), some (.inr (.inl mk_)), none, some (.inl n_), some (.inl an_), some (.inr (.inl (l_0 ((l_2 hs_ 31)) ((l_5 ((l_3 ((l_5 ((l_3 vx36_ vx43_)) (-1))) mk_)) ((l_s2 ((l_3 ((l_5 ((l_3 vx36_ vx43_)) (-1))) mk_)) 29))))))), none, some (.inl w_), some (.inr (.inl (l_3 vx36_ vx43_))), none, some (.inr (.inl (l_3 ((l_5 ((l_3 vx36_ vx43_)) (-1))) mk_))), none], [], sm_aL S_ 32 0 (64 * n_ + w_).toNat ((l_3 ((l_3 vx36_ vx43_)) mk_)))) rfl ?_
            refine sm_T_inc (a := 8) (z := 1) (v := w_) (w := w_ + 1) rfl rfl (by omega) (by omega) (by omega) ?_
            refine sm_T_go 1 (c1 := (104, [some (.inr (.inr (some (1, 0)))), some (.inl bi_), some (.inr (.inl mk_)), none, some (.inl n_), some (.inl an_), some (.inr (.inl (l_0 ((l_2 hs_ 31)) ((l_5 ((l_3 ((l_5 ((l_3 vx36_ vx43_)) (-1))) mk_)) ((l_s2 ((l_3 ((l_5 ((l_3 vx36_ vx43_)) (-1))) mk_)) 29))))))), none, some (.inl (w_ + 1)), some (.inr (.inl (l_3 vx36_ vx43_))), none, some (.inr (.inl (l_3 ((l_5 ((l_3 vx36_ vx43_)) (-1))) mk_))), none], [], sm_aL S_ 32 0 (64 * n_ + w_).toNat ((l_3 ((l_3 vx36_ vx43_)) mk_)))) rfl ?_
            refine sm_T_wk [some (.inr (.inr (some (1, 0)))), some (.inl bi_), some (.inr (.inl mk_)), none, some (.inl n_), some (.inl an_), some (.inr (.inl (l_0 ((l_2 hs_ 31)) ((l_5 ((l_3 ((l_5 ((l_3 vx36_ vx43_)) (-1))) mk_)) ((l_s2 ((l_3 ((l_5 ((l_3 vx36_ vx43_)) (-1))) mk_)) 29))))))), none, some (.inl (w_ + 1)), none, none, none, none] (by exact ⟨rfl, rfl, rfl, rfl, rfl, rfl, rfl, trivial⟩) ?_
            refine ih_.2 bi_ mk_ n_ an_ ((l_0 ((l_2 hs_ 31)) ((l_5 ((l_3 ((l_5 ((l_3 vx36_ vx43_)) (-1))) mk_)) ((l_s2 ((l_3 ((l_5 ((l_3 vx36_ vx43_)) (-1))) mk_)) 29)))))) (w_ + 1) Wz_ (sm_aL S_ 32 0 (64 * n_ + w_).toNat ((l_3 ((l_3 vx36_ vx43_)) mk_))) hIx44_ hFx45_ ⟨?_, ?_, ?_, ?_, ?_, ?_, ?_, ?_, ?_, ?_, ?_, ?_, ?_, trivial⟩ ?_
            · exact hW_
            · exact hmk_
            · omega
            · exact sw1_cg h1_ (by omega) (fun j9_ hj9_ => by rw [rd_leq, if_neg (by omega)])
            · (intro z9_; refine ⟨(h2_ z9_).1, fun w9_ hw9_ => ?_⟩; rw [rd_leq, if_neg (by omega)]; exact (h2_ z9_).2 w9_ hw9_)
            · exact bks_cg h3_ (fun _ => Iff.rfl) (Nat.le_refl _) (fun m9_ hm9_ => (hrw_cg (fun w9_ hw9_ => by have := hm9_.1; rw [rd_leq, if_neg (by omega)]) (by omega)).symm)
            · rw [show (w_ + 1).toNat = w_.toNat + 1 by omega]
              refine hsw_up hmk_.1 h4_ (fun k9_ => by rw [show 64 * n_.toNat + w_.toNat = (64 * n_ + w_).toNat by omega]; exact rd_leq) ?_
              rw [show (64 * n_).toNat = 64 * n_.toNat by omega] at cx47_
              first | exact Or.inl ⟨lc_0.mp (by omega), rfl⟩ | exact Or.inr ⟨fun q9_ => cx47_ (lc_0.mpr q9_), rfl⟩
            · rw [show (w_ + 1).toNat = w_.toNat + 1 by omega]
              refine srw_up (fun a9_ => hg_.2.2 n_.toNat a9_ (by omega)) (by omega) h5_ (fun k9_ => by rw [show 64 * n_.toNat + w_.toNat = (64 * n_ + w_).toNat by omega]; exact rd_leq) (fun a9_ => ?_) (fun a9_ => ?_)
              · first | (exfalso; omega) | (rw [e131_, e147_, f42_, f43_])
              · first | rfl | (exfalso; omega)
            · exact fwr_cg (N_ := n_.toNat) (glo_of hg_ (by omega)) (Nat.le_refl _) (by omega) h6_ (fun j9_ hj9_ => by rw [rd_leq, if_neg (by omega)])
            · exact swl_cg h7_ (by omega) (fun j9_ hj9_ => by rw [rd_leq, if_neg (by omega)]) (fun k9_ hk9_ => rfl)
            · exact h9_
            · rw [show (w_ + 1).toNat = w_.toNat + 1 by omega]
              refine srb_up h8_ (fun k9_ => by rw [show 64 * n_.toNat + w_.toNat = (64 * n_ + w_).toNat by omega]; exact rd_leq) (fun a9_ b9_ => ?_)
              first | (exfalso; omega) | (rw [e169_, show (n_ - 1).toNat = n_.toNat - 1 by omega])
            · exact hDx46_
            · omega
          · have cx47_ : ¬ ((sm_lcmp ((l_3 (((sm_aL S_ 32 0 (64 * n_ + w_).toNat ((l_3 ((l_3 vx36_ vx43_)) mk_))).2.2.2 32 0 (64 * n_).toNat)) 1)) 0) ≠ 0) := of_decide_eq_false cx47_
            refine sm_T_go 6 (c1 := (227, [some (.inr (.inr (some (1, 0)))), some (.inl bi_), some (.inr (.inl mk_)), none, some (.inl n_), some (.inl an_), some (.inr (.inl hs_)), none, some (.inl w_), some (.inr (.inl (l_3 vx36_ vx43_))), none, some (.inr (.inl (l_3 ((l_3 vx36_ vx43_)) mk_))), none], [.inr (.inl hs_)], sm_aL S_ 32 0 (64 * n_ + w_).toNat ((l_3 ((l_3 vx36_ vx43_)) mk_)))) rfl ?_
            refine sm_T_nt (u := some (.inr (.inl 31))) (S1 := sm_aL S_ 32 0 (64 * n_ + w_).toNat ((l_3 ((l_3 vx36_ vx43_)) mk_))) rfl rfl rfl ?_
            refine sm_T_go 8 (c1 := (242, [some (.inr (.inr (some (1, 0)))), some (.inl bi_), some (.inr (.inl mk_)), none, some (.inl n_), some (.inl an_), some (.inr (.inl (l_0 ((l_2 hs_ 31)) ((l_5 ((l_3 ((l_3 vx36_ vx43_)) mk_)) ((l_s2 ((l_3 ((l_3 vx36_ vx43_)) mk_)) 29))))))), none, some (.inl w_), some (.inr (.inl (l_3 vx36_ vx43_))), none, some (.inr (.inl (l_3 ((l_3 vx36_ vx43_)) mk_))), none], [], sm_aL S_ 32 0 (64 * n_ + w_).toNat ((l_3 ((l_3 vx36_ vx43_)) mk_)))) rfl ?_
            refine sm_T_inc (a := 8) (z := 1) (v := w_) (w := w_ + 1) rfl rfl (by omega) (by omega) (by omega) ?_
            refine sm_T_go 1 (c1 := (104, [some (.inr (.inr (some (1, 0)))), some (.inl bi_), some (.inr (.inl mk_)), none, some (.inl n_), some (.inl an_), some (.inr (.inl (l_0 ((l_2 hs_ 31)) ((l_5 ((l_3 ((l_3 vx36_ vx43_)) mk_)) ((l_s2 ((l_3 ((l_3 vx36_ vx43_)) mk_)) 29))))))), none, some (.inl (w_ + 1)), some (.inr (.inl (l_3 vx36_ vx43_))), none, some (.inr (.inl (l_3 ((l_3 vx36_ vx43_)) mk_))), none], [], sm_aL S_ 32 0 (64 * n_ + w_).toNat ((l_3 ((l_3 vx36_ vx43_)) mk_)))) rfl ?_
            refine sm_T_wk [some (.inr (.inr (some (1, 0)))), some (.inl bi_), some (.inr (.inl mk_)), none, some (.inl n_), some (.inl an_), some (.inr (.inl (l_0 ((l_2 hs_ 31)) ((l_5 ((l_3 ((l_3 vx36_ vx43_)) mk_)) ((l_s2 ((l_3 ((l_3 vx36_ vx43_)) mk_)) 29))))))), none, some (.inl (w_ + 1)), none, none, none, none] (by exact ⟨rfl, rfl, rfl, rfl, rfl, rfl, rfl, trivial⟩) ?_
            refine ih_.2 bi_ mk_ n_ an_ ((l_0 ((l_2 hs_ 31)) ((l_5 ((l_3 ((l_3 vx36_ vx43_)) mk_)) ((l_s2 ((l_3 ((l_3 vx36_ vx43_)) mk_)) 29)))))) (w_ + 1) Wz_ (sm_aL S_ 32 0 (64 * n_ + w_).toNat ((l_3 ((l_3 vx36_ vx43_)) mk_))) hIx44_ hFx45_ ⟨?_, ?_, ?_, ?_, ?_, ?_, ?_, ?_, ?_, ?_, ?_, ?_, ?_, trivial⟩ ?_
            · exact hW_
            · exact hmk_
            · omega
            · exact sw1_cg h1_ (by omega) (fun j9_ hj9_ => by rw [rd_leq, if_neg (by omega)])
            · (intro z9_; refine ⟨(h2_ z9_).1, fun w9_ hw9_ => ?_⟩; rw [rd_leq, if_neg (by omega)]; exact (h2_ z9_).2 w9_ hw9_)
            · exact bks_cg h3_ (fun _ => Iff.rfl) (Nat.le_refl _) (fun m9_ hm9_ => (hrw_cg (fun w9_ hw9_ => by have := hm9_.1; rw [rd_leq, if_neg (by omega)]) (by omega)).symm)
            · rw [show (w_ + 1).toNat = w_.toNat + 1 by omega]
              refine hsw_up hmk_.1 h4_ (fun k9_ => by rw [show 64 * n_.toNat + w_.toNat = (64 * n_ + w_).toNat by omega]; exact rd_leq) ?_
              rw [show (64 * n_).toNat = 64 * n_.toNat by omega] at cx47_
              first | exact Or.inl ⟨lc_0.mp (by omega), rfl⟩ | exact Or.inr ⟨fun q9_ => cx47_ (lc_0.mpr q9_), rfl⟩
            · rw [show (w_ + 1).toNat = w_.toNat + 1 by omega]
              refine srw_up (fun a9_ => hg_.2.2 n_.toNat a9_ (by omega)) (by omega) h5_ (fun k9_ => by rw [show 64 * n_.toNat + w_.toNat = (64 * n_ + w_).toNat by omega]; exact rd_leq) (fun a9_ => ?_) (fun a9_ => ?_)
              · first | (exfalso; omega) | (rw [e131_, e147_, f42_, f43_])
              · first | rfl | (exfalso; omega)
            · exact fwr_cg (N_ := n_.toNat) (glo_of hg_ (by omega)) (Nat.le_refl _) (by omega) h6_ (fun j9_ hj9_ => by rw [rd_leq, if_neg (by omega)])
            · exact swl_cg h7_ (by omega) (fun j9_ hj9_ => by rw [rd_leq, if_neg (by omega)]) (fun k9_ hk9_ => rfl)
            · exact h9_
            · rw [show (w_ + 1).toNat = w_.toNat + 1 by omega]
              refine srb_up h8_ (fun k9_ => by rw [show 64 * n_.toNat + w_.toNat = (64 * n_ + w_).toNat by omega]; exact rd_leq) (fun a9_ b9_ => ?_)
              first | (exfalso; omega) | (rw [e169_, show (n_ - 1).toNat = n_.toNat - 1 by omega])
            · exact hDx46_
            · omega
set_option maxHeartbeats 4000000 in
set_option maxRecDepth 20000 in
theorem vc_47n {sc_ : Nat × (Nat → Int)} (dd_ : Nat) (F_ : Nat) (S0_ : sm_S) (hI_ : gi S0_) (hd_ : S0_.2.1 1 0 1 = some dd_) (hg_ : dgr dd_ F_ S0_) : sm_T (mt_P sc_) 1 47 (0, [some (.inr (.inr (some (1, 0)))), none, none, none, none, none, none, none, none, none, none, none, none], [], S0_) (fun ro9_ => ∃ u_ S1_, ro9_ = (.inl u_, S1_, 0) ∧ vq_47n dd_ F_ S0_ u_ S1_) := by
  have hF_ : ai_fr (sx_W vw_47n) S0_ S0_ := ai_fr_rf
  have hD_ : idf dd_ S0_ S0_ := idf_rf
  have g1_ := hg_.1
  have g2_ := hg_.2.1
  refine sm_T_go 1 (c1 := (1, [some (.inr (.inr (some (1, 0)))), none, none, none, none, none, none, none, none, none, none, none, none], [.inr (.inr (some (1, 0)))], S0_)) rfl ?_
  refine sm_T_gr rfl rfl ((hF_.2.1 1 0 1 rfl).trans hd_) ?_
  have bx1_ : 0 ≤ S0_.1 3 dd_ 1 ∧ S0_.1 3 dd_ 1 ≤ 320 := hI_.1 3 dd_ 1 rfl
  refine sm_T_go 2 (c1 := (8, [some (.inr (.inr (some (1, 0)))), none, none, none, none, none, none, none, none, none, none, none, none], [.inr (.inr (some (1, 0))), .inl (S0_.1 3 dd_ 1)], S0_)) rfl ?_
  refine sm_T_gr rfl rfl ((hF_.2.1 1 0 1 rfl).trans hd_) ?_
  have bx2_ : 0 ≤ S0_.1 3 dd_ 2 ∧ S0_.1 3 dd_ 2 ≤ 100000 := hI_.1 3 dd_ 2 rfl
  refine sm_T_go 1 (c1 := (14, [some (.inr (.inr (some (1, 0)))), none, none, none, none, none, none, none, none, none, none, none, none], [.inl (S0_.1 3 dd_ 2), .inl (S0_.1 3 dd_ 1)], S0_)) rfl ?_
  refine sm_T_bin (w := (S0_.1 3 dd_ 1) + (S0_.1 3 dd_ 2)) rfl (bi_add (by omega) (by omega) (by omega)) ?_
  refine sm_T_go 4 (c1 := (20, [some (.inr (.inr (some (1, 0)))), some (.inl ((S0_.1 3 dd_ 1) + (S0_.1 3 dd_ 2))), none, none, none, none, none, none, none, none, none, none, none], [.inl 6, .inl ((S0_.1 3 dd_ 1) + (S0_.1 3 dd_ 2)), .inr (.inr (some (1, 0)))], S0_)) rfl ?_
  refine sm_T_br (a := 4) (z := 7) rfl (fun cx3_ => ?_) (fun cx3_ => ?_)
  · have cx3_ : 6 < (S0_.1 3 dd_ 1) + (S0_.1 3 dd_ 2) := of_decide_eq_true cx3_
    refine sm_T_go 3 (c1 := (31, [some (.inr (.inr (some (1, 0)))), some (.inl ((S0_.1 3 dd_ 1) + (S0_.1 3 dd_ 2))), none, none, none, none, none, none, none, none, none, none, none], [.inl 6, .inl ((S0_.1 3 dd_ 1) + (S0_.1 3 dd_ 2)), .inl 1, .inr (.inr (some (1, 0)))], S0_)) rfl ?_
    refine sm_T_bin (w := (S0_.1 3 dd_ 1) + (S0_.1 3 dd_ 2) - 6) rfl (bi_sub (by omega) (by omega) (by omega)) ?_
    refine sm_T_bin (w := (i_shl 1 ((S0_.1 3 dd_ 1) + (S0_.1 3 dd_ 2) - 6))) rfl rfl ?_
    have bx4_ := i_shl1 (e := ((S0_.1 3 dd_ 1) + (S0_.1 3 dd_ 2) - 6)) (by omega) (by omega)
    have hp_ := pw_le (n := (((S0_.1 3 dd_ 1) + (S0_.1 3 dd_ 2) - 6)).toNat) (m := 6) (by omega)
    have hp0_ := pw_pos (((S0_.1 3 dd_ 1) + (S0_.1 3 dd_ 2) - 6)).toNat
    have hIx7_ : gi (sm_pI S0_ 1 0 13 (i_shl 1 ((S0_.1 3 dd_ 1) + (S0_.1 3 dd_ 2) - 6))) := gi_pI hI_ (show 0 ≤ (i_shl 1 ((S0_.1 3 dd_ 1) + (S0_.1 3 dd_ 2) - 6)) ∧ (i_shl 1 ((S0_.1 3 dd_ 1) + (S0_.1 3 dd_ 2) - 6)) ≤ 64 from ⟨by omega, by omega⟩)
    have hFx8_ : ai_fr (sx_W vw_47n) S0_ (sm_pI S0_ 1 0 13 (i_shl 1 ((S0_.1 3 dd_ 1) + (S0_.1 3 dd_ 2) - 6))) := ai_fr_tr hF_ (ai_fr_pI rfl)
    have hDx9_ : idf dd_ S0_ (sm_pI S0_ 1 0 13 (i_shl 1 ((S0_.1 3 dd_ 1) + (S0_.1 3 dd_ 2) - 6))) := idf_pI hD_ (Or.inl (by decide))
    refine sm_T_go 3 (c1 := (39, [some (.inr (.inr (some (1, 0)))), some (.inl ((S0_.1 3 dd_ 1) + (S0_.1 3 dd_ 2))), none, none, none, none, none, none, none, none, none, none, none], [.inl 6, .inl ((S0_.1 3 dd_ 1) + (S0_.1 3 dd_ 2))], sm_pI S0_ 1 0 13 (i_shl 1 ((S0_.1 3 dd_ 1) + (S0_.1 3 dd_ 2) - 6)))) rfl ?_
    refine sm_T_br (a := 2) (z := 9) rfl (fun cx10_ => ?_) (fun cx10_ => ?_)
    · have cx10_ : (S0_.1 3 dd_ 1) + (S0_.1 3 dd_ 2) < 6 := of_decide_eq_true cx10_
      exfalso; omega
    · have cx10_ : ¬ ((S0_.1 3 dd_ 1) + (S0_.1 3 dd_ 2) < 6) := of_decide_eq_false cx10_
      refine sm_T_nt (u := some (.inr (.inl (-1)))) (S1 := sm_pI S0_ 1 0 13 (i_shl 1 ((S0_.1 3 dd_ 1) + (S0_.1 3 dd_ 2) - 6))) rfl rfl rfl ?_
      refine sm_T_go 5 (c1 := (61, [some (.inr (.inr (some (1, 0)))), some (.inl ((S0_.1 3 dd_ 1) + (S0_.1 3 dd_ 2))), some (.inr (.inl (-1))), none, none, none, none, none, none, none, none, none, none], [.inl (-1), .inr (.inr (some (29, 0)))], sm_pI S0_ 1 0 13 (i_shl 1 ((S0_.1 3 dd_ 1) + (S0_.1 3 dd_ 2) - 6)))) rfl ?_
      refine sm_T_cal (d1 := 0) (Q1 := vq_2b (-1) (sm_pI S0_ 1 0 13 (i_shl 1 ((S0_.1 3 dd_ 1) + (S0_.1 3 dd_ 2) - 6)))) rfl rfl (by decide) (vc_2b (-1) (sm_pI S0_ 1 0 13 (i_shl 1 ((S0_.1 3 dd_ 1) + (S0_.1 3 dd_ 2) - 6))) hIx7_ (by decide)) (fun u_ Sx11_ px14_ => ?_)
      obtain ⟨rfl, hIx12_, hFx13_, px14_⟩ := px14_
      have hFx15_ : ai_fr (sx_W vw_47n) S0_ Sx11_ := ai_fr_tr hFx8_ (fr_le hFx13_ rfl)
      have hDx16_ : idf dd_ S0_ Sx11_ := idf_tr hDx9_ (idf_fr hFx13_ (by decide) (by decide))
      have e61_ := px14_
      have w61_ := hFx13_.1 1 0 13 rfl
      simp only [rf_eq] at w61_
      refine sm_T_go 2 (c1 := (67, [some (.inr (.inr (some (1, 0)))), some (.inl ((S0_.1 3 dd_ 1) + (S0_.1 3 dd_ 2))), some (.inr (.inl (-1))), none, some (.inl 0), none, none, none, none, none, none, none, none], [], Sx11_)) rfl ?_
      refine (vl_47n dd_ F_ S0_ hd_ hg_ _).1 ((S0_.1 3 dd_ 1) + (S0_.1 3 dd_ 2)) (-1) 0 (Sx11_.1 1 0 13) Sx11_ hIx12_ hFx15_ ⟨?_, ?_, ?_, ?_, ?_, ?_, ?_, ?_, ?_, ?_, trivial⟩ (Nat.lt_succ_self _)
      · omega
      · first | exact mkm | exact mkb (by omega)
      · (have g1_ := hg_.1; have g2_ := hg_.2.1; omega)
      · (intro m9_ hm9_; exact absurd hm9_ (Nat.not_lt_zero _))
      · (intro z9_; exact absurd z9_ (by decide))
      · exact bks_0 (fun j9_ hj9_ => e61_ j9_ hj9_) (fun m9_ hm9_ => absurd hm9_.1 (Nat.not_lt_zero _))
      · (intro m9_ hm9_; exact absurd hm9_ (Nat.not_lt_zero _))
      · exact swl_0
      · first | exact ⟨Or.inl ⟨by omega, by omega, by (first | exact p2_tn (by omega) | (refine (p2_tn (k_ := 0) (by omega)).trans ?_; congr 1; omega)), rfl⟩, by omega⟩ | exact ⟨Or.inr ⟨by omega, by omega, by omega, rfl⟩, by omega⟩
      · exact hDx16_
  · have cx3_ : ¬ (6 < (S0_.1 3 dd_ 1) + (S0_.1 3 dd_ 2)) := of_decide_eq_false cx3_
    have hIx17_ : gi (sm_pI S0_ 1 0 13 1) := gi_pI hI_ (show 0 ≤ 1 ∧ 1 ≤ 64 from ⟨by omega, by omega⟩)
    have hFx18_ : ai_fr (sx_W vw_47n) S0_ (sm_pI S0_ 1 0 13 1) := ai_fr_tr hF_ (ai_fr_pI rfl)
    have hDx19_ : idf dd_ S0_ (sm_pI S0_ 1 0 13 1) := idf_pI hD_ (Or.inl (by decide))
    refine sm_T_go 5 (c1 := (39, [some (.inr (.inr (some (1, 0)))), some (.inl ((S0_.1 3 dd_ 1) + (S0_.1 3 dd_ 2))), none, none, none, none, none, none, none, none, none, none, none], [.inl 6, .inl ((S0_.1 3 dd_ 1) + (S0_.1 3 dd_ 2))], sm_pI S0_ 1 0 13 1)) rfl ?_
    refine sm_T_br (a := 2) (z := 9) rfl (fun cx20_ => ?_) (fun cx20_ => ?_)
    · have cx20_ : (S0_.1 3 dd_ 1) + (S0_.1 3 dd_ 2) < 6 := of_decide_eq_true cx20_
      refine sm_T_go 3 (c1 := (51, [some (.inr (.inr (some (1, 0)))), some (.inl ((S0_.1 3 dd_ 1) + (S0_.1 3 dd_ 2))), none, none, none, none, none, none, none, none, none, none, none], [.inl ((S0_.1 3 dd_ 1) + (S0_.1 3 dd_ 2)), .inl 1, .inr (.inl 1)], sm_pI S0_ 1 0 13 1)) rfl ?_
      refine sm_T_bin (w := (i_shl 1 ((S0_.1 3 dd_ 1) + (S0_.1 3 dd_ 2)))) rfl rfl ?_
      have bx21_ := i_shl1 (e := ((S0_.1 3 dd_ 1) + (S0_.1 3 dd_ 2))) (by omega) (by omega)
      have hp_ := pw_le (n := (((S0_.1 3 dd_ 1) + (S0_.1 3 dd_ 2))).toNat) (m := 6) (by omega)
      have hp0_ := pw_pos (((S0_.1 3 dd_ 1) + (S0_.1 3 dd_ 2))).toNat
      refine sm_T_go 7 (c1 := (61, [some (.inr (.inr (some (1, 0)))), some (.inl ((S0_.1 3 dd_ 1) + (S0_.1 3 dd_ 2))), some (.inr (.inl (l_1 ((l_s0 1 (i_shl 1 ((S0_.1 3 dd_ 1) + (S0_.1 3 dd_ 2))))) 1))), none, none, none, none, none, none, none, none, none, none], [.inl (-1), .inr (.inr (some (29, 0)))], sm_pI S0_ 1 0 13 1)) rfl ?_
      refine sm_T_cal (d1 := 0) (Q1 := vq_2b (-1) (sm_pI S0_ 1 0 13 1)) rfl rfl (by decide) (vc_2b (-1) (sm_pI S0_ 1 0 13 1) hIx17_ (by decide)) (fun u_ Sx24_ px27_ => ?_)
      obtain ⟨rfl, hIx25_, hFx26_, px27_⟩ := px27_
      have hFx28_ : ai_fr (sx_W vw_47n) S0_ Sx24_ := ai_fr_tr hFx18_ (fr_le hFx26_ rfl)
      have hDx29_ : idf dd_ S0_ Sx24_ := idf_tr hDx19_ (idf_fr hFx26_ (by decide) (by decide))
      have e61_ := px27_
      have w61_ := hFx26_.1 1 0 13 rfl
      simp only [rf_eq] at w61_
      refine sm_T_go 2 (c1 := (67, [some (.inr (.inr (some (1, 0)))), some (.inl ((S0_.1 3 dd_ 1) + (S0_.1 3 dd_ 2))), some (.inr (.inl (l_1 ((l_s0 1 (i_shl 1 ((S0_.1 3 dd_ 1) + (S0_.1 3 dd_ 2))))) 1))), none, some (.inl 0), none, none, none, none, none, none, none, none], [], Sx24_)) rfl ?_
      refine (vl_47n dd_ F_ S0_ hd_ hg_ _).1 ((S0_.1 3 dd_ 1) + (S0_.1 3 dd_ 2)) ((l_1 ((l_s0 1 (i_shl 1 ((S0_.1 3 dd_ 1) + (S0_.1 3 dd_ 2))))) 1)) 0 (Sx24_.1 1 0 13) Sx24_ hIx25_ hFx28_ ⟨?_, ?_, ?_, ?_, ?_, ?_, ?_, ?_, ?_, ?_, trivial⟩ (Nat.lt_succ_self _)
      · omega
      · first | exact mkm | exact mkb (by omega)
      · (have g1_ := hg_.1; have g2_ := hg_.2.1; omega)
      · (intro m9_ hm9_; exact absurd hm9_ (Nat.not_lt_zero _))
      · (intro z9_; exact absurd z9_ (by decide))
      · exact bks_0 (fun j9_ hj9_ => e61_ j9_ hj9_) (fun m9_ hm9_ => absurd hm9_.1 (Nat.not_lt_zero _))
      · (intro m9_ hm9_; exact absurd hm9_ (Nat.not_lt_zero _))
      · exact swl_0
      · first | exact ⟨Or.inl ⟨by omega, by omega, by (first | exact p2_tn (by omega) | (refine (p2_tn (k_ := 0) (by omega)).trans ?_; congr 1; omega)), rfl⟩, by omega⟩ | exact ⟨Or.inr ⟨by omega, by omega, by omega, rfl⟩, by omega⟩
      · exact hDx29_
    · have cx20_ : ¬ ((S0_.1 3 dd_ 1) + (S0_.1 3 dd_ 2) < 6) := of_decide_eq_false cx20_
      refine sm_T_nt (u := some (.inr (.inl (-1)))) (S1 := sm_pI S0_ 1 0 13 1) rfl rfl rfl ?_
      refine sm_T_go 5 (c1 := (61, [some (.inr (.inr (some (1, 0)))), some (.inl ((S0_.1 3 dd_ 1) + (S0_.1 3 dd_ 2))), some (.inr (.inl (-1))), none, none, none, none, none, none, none, none, none, none], [.inl (-1), .inr (.inr (some (29, 0)))], sm_pI S0_ 1 0 13 1)) rfl ?_
      refine sm_T_cal (d1 := 0) (Q1 := vq_2b (-1) (sm_pI S0_ 1 0 13 1)) rfl rfl (by decide) (vc_2b (-1) (sm_pI S0_ 1 0 13 1) hIx17_ (by decide)) (fun u_ Sx30_ px33_ => ?_)
      obtain ⟨rfl, hIx31_, hFx32_, px33_⟩ := px33_
      have hFx34_ : ai_fr (sx_W vw_47n) S0_ Sx30_ := ai_fr_tr hFx18_ (fr_le hFx32_ rfl)
      have hDx35_ : idf dd_ S0_ Sx30_ := idf_tr hDx19_ (idf_fr hFx32_ (by decide) (by decide))
      have e61_ := px33_
      have w61_ := hFx32_.1 1 0 13 rfl
      simp only [rf_eq] at w61_
      refine sm_T_go 2 (c1 := (67, [some (.inr (.inr (some (1, 0)))), some (.inl ((S0_.1 3 dd_ 1) + (S0_.1 3 dd_ 2))), some (.inr (.inl (-1))), none, some (.inl 0), none, none, none, none, none, none, none, none], [], Sx30_)) rfl ?_
      refine (vl_47n dd_ F_ S0_ hd_ hg_ _).1 ((S0_.1 3 dd_ 1) + (S0_.1 3 dd_ 2)) (-1) 0 (Sx30_.1 1 0 13) Sx30_ hIx31_ hFx34_ ⟨?_, ?_, ?_, ?_, ?_, ?_, ?_, ?_, ?_, ?_, trivial⟩ (Nat.lt_succ_self _)
      · omega
      · first | exact mkm | exact mkb (by omega)
      · (have g1_ := hg_.1; have g2_ := hg_.2.1; omega)
      · (intro m9_ hm9_; exact absurd hm9_ (Nat.not_lt_zero _))
      · (intro z9_; exact absurd z9_ (by decide))
      · exact bks_0 (fun j9_ hj9_ => e61_ j9_ hj9_) (fun m9_ hm9_ => absurd hm9_.1 (Nat.not_lt_zero _))
      · (intro m9_ hm9_; exact absurd hm9_ (Nat.not_lt_zero _))
      · exact swl_0
      · first | exact ⟨Or.inl ⟨by omega, by omega, by (first | exact p2_tn (by omega) | (refine (p2_tn (k_ := 0) (by omega)).trans ?_; congr 1; omega)), rfl⟩, by omega⟩ | exact ⟨Or.inr ⟨by omega, by omega, by omega, rfl⟩, by omega⟩
      · exact hDx35_
end
