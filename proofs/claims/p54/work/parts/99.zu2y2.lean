/-! the class: patterns, faults, suspects; written by wip/p55/gen/vg -/

/-! what the_ tester wants of_ a_ chip -/
def tpr (cc_ : Nat) (S_ : sm_S) : Prop := S_.1 2 cc_ 1 + S_.1 2 cc_ 2 ≤ 12 ∧ (∀ g9_ : Nat, g9_ < (S_.1 2 cc_ 8).toNat → gio (S_.1 2 cc_ 1 + S_.1 2 cc_ 2).toNat g9_ (kcN cc_ S_ g9_) (kcA cc_ S_ g9_)) ∧ (0 ≤ S_.1 2 cc_ 1 ∧ 0 ≤ S_.1 2 cc_ 2 ∧ 0 ≤ S_.1 2 cc_ 8)
theorem tpr_fr {w_ : sx_Wl} {cc_ : Nat} {S_ S'_ : sm_S} (h_ : tpr cc_ S_) (f_ : ai_fr (sx_W w_) S_ S'_) (h1_ : (sx_W w_).2.1 35 = false := by rfl) (h2_ : (sx_W w_).2.1 36 = false := by rfl) (h3_ : (sx_W w_).2.1 55 = false := by rfl) (h4_ : (sx_W w_).2.1 56 = false := by rfl) (h5_ : (sx_W w_).1 2 1 = false := by rfl) (h6_ : (sx_W w_).1 2 2 = false := by rfl) (h7_ : (sx_W w_).1 2 8 = false := by rfl) : tpr cc_ S'_ := by
  have k_ := kcX_fr (cc_ := cc_) f_ h1_ h2_ h3_ h4_
  unfold tpr
  rw [k_.2.1, k_.2.2, f_.1 2 cc_ 1 h5_, f_.1 2 cc_ 2 h6_, f_.1 2 cc_ 8 h7_]
  exact h_
theorem cB_b {cc_ : Nat} {S_ : sm_S} (h_ : S_.1 2 cc_ 1 + S_.1 2 cc_ 2 ≤ 12) : cB9 cc_ S_ ≤ 4096 := by
  have p_ := pw_le (n := (S_.1 2 cc_ 1 + S_.1 2 cc_ 2).toNat) (m := 12) (by omega)
  exact p_
/-- the_ least patterns -/
def leU (cc_ : Nat) (S_ : sm_S) (le_ : Nat → Int) : Prop := ∀ (f_ : Nat) (v_ : Int), (f_ : Int) < cfu9 cc_ S_ → csl cc_ S_ (f_ : Int) v_ → v_ = le_ f_
theorem spr9_s {Q_ : Nat → Bool} {n_ : Nat} (a_ : spr9 Q_ n_ = true) (b_ : Q_ n_ = true) : spr9 Q_ (n_ + 1) = true := by
  show (spr9 Q_ n_ && Q_ n_) = true
  rw [a_, b_]
  rfl
/-! Tester.leastPattern -/
def vw_177n : sx_Wl := ([(9, 1), (9, 2), (9, 3)], [92, 93, 94, 95, 96], [(9, 0)])
def vq_177n (a2_ : Int) (cc_ : Nat) (S0_ : sm_S) (u_ : Option sm_V) (S1_ : sm_S) : Prop := ∃ v_ : Int, u_ = some (.inl v_) ∧ gi S1_ ∧ ai_fr (sx_W vw_177n) S0_ S1_ ∧ (rdm cc_ S0_ S1_ ∧ (S1_.2.1 9 0 0 = some cc_ ∧ S1_.1 9 0 1 = S0_.1 2 cc_ 19) ∧ shn S1_ ∧ tok9 cc_ S1_ ∧ S1_.2.2.1 96 0 a2_.toNat ≠ 0 ∧ (-1 ≤ v_ ∧ v_ ≤ 4095) ∧ csl cc_ S0_ a2_ v_)
set_option maxHeartbeats 400000 in
theorem vl_177n {sc_ : Nat × (Nat → Int)} (a2_ : Int) (cc_ : Nat) (S0_ : sm_S) (htp_ : tpr cc_ S0_) (h2_ : 0 ≤ a2_ ∧ a2_ < cfu9 cc_ S0_) (hn_ : shn S0_) (hp_ : tkp cc_ S0_) : ∀ nn_ : Nat, (∀ (w_ : Int) (S_ : sm_S), gi S_ → ai_fr (sx_W vw_177n) S0_ S_ → ((0 ≤ w_ ∧ w_ ≤ 64) ∧ (rdm cc_ S0_ S_ ∧ (S_.2.1 9 0 0 = some cc_ ∧ S_.1 9 0 1 = S0_.1 2 cc_ 19) ∧ shn S_ ∧ tok9 cc_ S_ ∧ S_.2.2.1 96 0 a2_.toNat ≠ 0) ∧ (∀ j9_ : Nat, (j9_ : Int) < w_ → S_.2.2.2 95 0 (64 * a2_.toNat + j9_) = 0) ∧ True) → ((100 - w_).toNat) < nn_ → sm_T (mt_P sc_) 5 177 (8, [some (.inr (.inr (some (9, 0)))), some (.inr (.inr (some (2, cc_)))), some (.inl a2_), some (.inl w_), none, none], [], S_) (fun ro9_ => ∃ u_ S1_, ro9_ = (.inl u_, S1_, 0) ∧ vq_177n a2_ cc_ S0_ u_ S1_)) := by
  intro nn_
  induction nn_ with
  | zero => exact fun _ _ _ _ _ h_ => absurd h_ (Nat.not_lt_zero _)
  | succ nn_ ih_ =>
    rintro w_ S_ hI_ hF_ ⟨h0_, hk_, hz_, -⟩ hm_
    have cw : 0 ≤ S_.1 9 0 2 ∧ S_.1 9 0 2 ≤ 64 := hI_.1 9 0 2 rfl
    have z1_ : S_.1 2 cc_ 1 = S0_.1 2 cc_ 1 := hF_.1 2 cc_ 1 rfl
    have z2_ : S_.1 2 cc_ 2 = S0_.1 2 cc_ 2 := hF_.1 2 cc_ 2 rfl
    have z9a := htp_.1
    have z9b := htp_.2.2
    have tp9_ := tpr_fr htp_ hF_
    have cf9_ : cfu9 cc_ S_ = cfu9 cc_ S0_ := (cfu_fr (cc_ := cc_) hF_).1
    have fq9_ := cfu_q9 hI_ (show S_.1 2 cc_ 1 + S_.1 2 cc_ 2 ≤ 12 by omega)
    have sk9_ : shk9 cc_ S_ a2_.toNat := hk_.2.2.2.1.2.2 a2_.toNat (by omega) hk_.2.2.2.2
    have bx1_ : 0 ≤ S_.1 9 0 2 ∧ S_.1 9 0 2 ≤ 64 := hI_.1 9 0 2 rfl
    refine sm_T_go 3 (c1 := (13, [some (.inr (.inr (some (9, 0)))), some (.inr (.inr (some (2, cc_)))), some (.inl a2_), some (.inl w_), none, none], [.inl (S_.1 9 0 2), .inl w_], S_)) rfl ?_
    refine sm_T_br (a := 3) (z := 40) rfl (fun cx2_ => ?_) (fun cx2_ => ?_)
    · have cx2_ : (S_.1 9 0 2) ≤ w_ := of_decide_eq_true cx2_
      refine sm_T_go 1 (c1 := (54, [some (.inr (.inr (some (9, 0)))), some (.inr (.inr (some (2, cc_)))), some (.inl a2_), some (.inl w_), none, none], [.inl (-1)], S_)) rfl ?_
      refine sm_T_ri rfl ⟨_, _, rfl, _, rfl, hI_, hF_, ?_⟩
      have cs8_ := csl_no sk9_ hk_.2.2.2.1.2.1 (fun j9_ hj9_ => hz_ j9_ (by omega))
      rw [show ((a2_.toNat : Nat) : Int) = a2_ by omega] at cs8_
      exact ⟨hk_.1, hk_.2.1, hk_.2.2.1, hk_.2.2.2.1, hk_.2.2.2.2, by omega, csl_fr hF_ cs8_⟩
    · have cx2_ : ¬ ((S_.1 9 0 2) ≤ w_) := of_decide_eq_false cx2_
      refine sm_T_go 4 (c1 := (23, [some (.inr (.inr (some (9, 0)))), some (.inr (.inr (some (2, cc_)))), some (.inl a2_), some (.inl w_), none, none], [.inl 64, .inl a2_, .inr (.inr (some (95, 0)))], S_)) rfl ?_
      refine sm_T_bin (w := 64 * a2_) rfl (bi_mul (by omega) (by omega) (by omega)) ?_ -- pc_ 23
      refine sm_T_go 1 (c1 := (25, [some (.inr (.inr (some (9, 0)))), some (.inr (.inr (some (2, cc_)))), some (.inl a2_), some (.inl w_), none, none], [.inl w_, .inl (64 * a2_), .inr (.inr (some (95, 0)))], S_)) rfl ?_
      refine sm_T_bin (w := 64 * a2_ + w_) rfl (bi_add (by omega) (by omega) (by omega)) ?_ -- pc_ 25
      refine sm_T_lald (n := 78336) rfl rfl (by omega) (by omega) ?_
      refine sm_T_go 4 (c1 := (33, [some (.inr (.inr (some (9, 0)))), some (.inr (.inr (some (2, cc_)))), some (.inl a2_), some (.inl w_), some (.inr (.inl (S_.2.2.2 95 0 (64 * a2_ + w_).toNat))), none], [.inl (sm_lcmp ((S_.2.2.2 95 0 (64 * a2_ + w_).toNat)) 0)], S_)) rfl ?_
      refine sm_T_b0 (a := 0) (z := 14) rfl (fun cx3_ => ?_) (fun cx3_ => ?_)
      · have cx3_ : (sm_lcmp ((S_.2.2.2 95 0 (64 * a2_ + w_).toNat)) 0) = 0 := of_decide_eq_true cx3_
        have lz9_ : S_.2.2.2 95 0 (64 * a2_ + w_).toNat = 0 := lcmp_0.mp cx3_
        refine sm_T_inc (a := 3) (z := 1) (v := w_) (w := w_ + 1) rfl rfl (by omega) (by omega) (by omega) ?_ -- pc_ 47
        refine sm_T_go 1 (c1 := (8, [some (.inr (.inr (some (9, 0)))), some (.inr (.inr (some (2, cc_)))), some (.inl a2_), some (.inl (w_ + 1)), some (.inr (.inl (S_.2.2.2 95 0 (64 * a2_ + w_).toNat))), none], [], S_)) rfl ?_
        refine sm_T_wk [some (.inr (.inr (some (9, 0)))), some (.inr (.inr (some (2, cc_)))), some (.inl a2_), some (.inl (w_ + 1)), none, none] (by exact ⟨rfl, rfl, rfl, rfl, trivial⟩) ?_
        refine ih_ (w_ + 1) S_ hI_ hF_ ⟨?_, ?_, ?_, trivial⟩ ?_
        · omega
        · exact hk_
        · intro j9_ hj9_
          by_cases y9_ : (j9_ : Int) < w_
          · exact hz_ j9_ y9_
          · rw [show 64 * a2_.toNat + j9_ = (64 * a2_ + w_).toNat by omega]; exact lz9_
        · omega
      · have cx3_ : ¬ ((sm_lcmp ((S_.2.2.2 95 0 (64 * a2_ + w_).toNat)) 0) = 0) := of_decide_eq_false cx3_
        have lq9_ : S_.2.2.2 95 0 (64 * a2_ + w_).toNat ≠ 0 := by (intro q9_; apply cx3_; rw [q9_]; decide)
        refine sm_T_go 2 (c1 := (39, [some (.inr (.inr (some (9, 0)))), some (.inr (.inr (some (2, cc_)))), some (.inl a2_), some (.inl w_), some (.inr (.inl (S_.2.2.2 95 0 (64 * a2_ + w_).toNat))), none], [.inl w_, .inl 64], S_)) rfl ?_
        refine sm_T_bin (w := 64 * w_) rfl (bi_mul (by omega) (by omega) (by omega)) ?_ -- pc_ 39
        refine sm_T_go 1 (c1 := (42, [some (.inr (.inr (some (9, 0)))), some (.inr (.inr (some (2, cc_)))), some (.inl a2_), some (.inl w_), some (.inr (.inl (S_.2.2.2 95 0 (64 * a2_ + w_).toNat))), none], [.inr (.inl (S_.2.2.2 95 0 (64 * a2_ + w_).toNat)), .inl (64 * w_)], S_)) rfl ?_
        refine sm_T_cal (d1 := 1) (Q1 := vq_9n ((S_.2.2.2 95 0 (64 * a2_ + w_).toNat)) S_) rfl rfl (by decide) (vc_9n ((S_.2.2.2 95 0 (64 * a2_ + w_).toNat)) S_ hI_ (by exact hk_.2.2.1 _)) (fun u_ Sx4_ px7_ => ?_)
        obtain ⟨rfl, vx9_, rfl, px7_⟩ := px7_
        have t9_ := px7_
        have t8_ := t9_.2 lq9_
        have cs9_ := csl_of (w_ := w_.toNat) (k_ := (vx9_).toNat) sk9_ hk_.2.2.2.1.2.1 (by omega) (by omega) (by omega) (by (have y9_ := t8_.1; omega)) (fun j9_ hj9_ => hz_ j9_ (by omega)) (by (rw [show 64 * a2_.toNat + w_.toNat = (64 * a2_ + w_).toNat by omega]; exact t8_.2.1)) (by (rw [show 64 * a2_.toNat + w_.toNat = (64 * a2_ + w_).toNat by omega]; exact t8_.2.2))
        rw [show 64 * ((w_.toNat : Nat) : Int) + (((vx9_).toNat : Nat) : Int) = 64 * w_ + vx9_ by omega, show ((a2_.toNat : Nat) : Int) = a2_ by omega] at cs9_
        refine sm_T_bin (w := 64 * w_ + vx9_) rfl (bi_add (by omega) (by omega) (by omega)) ?_ -- pc_ 45
        refine sm_T_ri rfl ⟨_, _, rfl, _, rfl, hI_, hF_, ?_⟩
        have y9_ := t8_.1
        exact ⟨hk_.1, hk_.2.1, hk_.2.2.1, hk_.2.2.2.1, hk_.2.2.2.2, by omega, csl_fr hF_ cs9_⟩
set_option maxHeartbeats 400000 in
theorem vc_177n {sc_ : Nat × (Nat → Int)} (a2_ : Int) (cc_ : Nat) (S0_ : sm_S) (hI_ : gi S0_) (htp_ : tpr cc_ S0_) (h2_ : 0 ≤ a2_ ∧ a2_ < cfu9 cc_ S0_) (hn_ : shn S0_) (hp_ : tkp cc_ S0_) : sm_T (mt_P sc_) 5 177 (0, [some (.inr (.inr (some (9, 0)))), some (.inr (.inr (some (2, cc_)))), some (.inl a2_), none, none, none], [], S0_) (fun ro9_ => ∃ u_ S1_, ro9_ = (.inl u_, S1_, 0) ∧ vq_177n a2_ cc_ S0_ u_ S1_) := by
  have hF_ : ai_fr (sx_W vw_177n) S0_ S0_ := ai_fr_rf
  have fq9_ := cfu_q9 hI_ htp_.1
  refine sm_T_go 3 (c1 := (3, [some (.inr (.inr (some (9, 0)))), some (.inr (.inr (some (2, cc_)))), some (.inl a2_), none, none, none], [.inl a2_, .inr (.inr (some (2, cc_))), .inr (.inr (some (9, 0)))], S0_)) rfl ?_
  refine sm_T_cal (d1 := 4) (Q1 := vq_174n a2_ cc_ S0_) rfl rfl (by decide) (vc_174n a2_ cc_ S0_ hI_ (by exact htp_.1) (by exact h2_) (by exact hn_) (by exact hp_) (by exact htp_.2.1) (by exact htp_.2.2)) (fun u_ Sx1_ px4_ => ?_)
  obtain ⟨rfl, hIx2_, hFx3_, px4_⟩ := px4_
  have hFx5_ : ai_fr (sx_W vw_177n) S0_ Sx1_ := ai_fr_tr hF_ (fr_le hFx3_ rfl)
  have f3_ := px4_
  refine sm_T_go 2 (c1 := (8, [some (.inr (.inr (some (9, 0)))), some (.inr (.inr (some (2, cc_)))), some (.inl a2_), some (.inl 0), none, none], [], Sx1_)) rfl ?_
  refine (vl_177n a2_ cc_ S0_ htp_ h2_ hn_ hp_ _) 0 Sx1_ hIx2_ hFx5_ ⟨?_, ?_, ?_, trivial⟩ (Nat.lt_succ_self _)
  · omega
  · exact f3_
  · (intro j9_ hj9_; exfalso; omega)
/-! Tester.countHidden -/
def vw_178n : sx_Wl := ([(9, 1), (9, 2), (9, 3)], [92, 93, 94, 95, 96], [(9, 0)])
def vq_178n (cc_ : Nat) (le_ : Nat → Int) (S0_ : sm_S) (u_ : Option sm_V) (S1_ : sm_S) : Prop := ∃ v_ : Int, u_ = some (.inl v_) ∧ gi S1_ ∧ ai_fr (sx_W vw_178n) S0_ S1_ ∧ (shn S1_ ∧ tkk S0_ S1_ ∧ v_ = ((sn9 (fun f9_ => if le_ f9_ = -1 then 1 else 0) (cfu9 cc_ S0_).toNat : Nat) : Int))
set_option maxHeartbeats 400000 in
theorem vl_178n {sc_ : Nat × (Nat → Int)} (cc_ : Nat) (le_ : Nat → Int) (S0_ : sm_S) (htp_ : tpr cc_ S0_) (hn_ : shn S0_) (hp_ : tkp cc_ S0_) (hle_ : leU cc_ S0_ le_) : ∀ nn_ : Nat, (∀ (hd_ : Int) (f_ : Int) (S_ : sm_S), gi S_ → ai_fr (sx_W vw_178n) S0_ S_ → ((0 ≤ f_ ∧ f_ ≤ 1224 ∧ f_ ≤ cfu9 cc_ S0_ ∧ 0 ≤ hd_ ∧ hd_ ≤ f_) ∧ (hd_ = ((sn9 (fun f9_ => if le_ f9_ = -1 then 1 else 0) f_.toNat : Nat) : Int)) ∧ (shn S_) ∧ (tkk S0_ S_) ∧ True) → ((2000 - f_).toNat) < nn_ → sm_T (mt_P sc_) 6 178 (4, [some (.inr (.inr (some (9, 0)))), some (.inr (.inr (some (2, cc_)))), some (.inl hd_), some (.inl f_)], [], S_) (fun ro9_ => ∃ u_ S1_, ro9_ = (.inl u_, S1_, 0) ∧ vq_178n cc_ le_ S0_ u_ S1_)) := by
  intro nn_
  induction nn_ with
  | zero => exact fun _ _ _ _ _ _ h_ => absurd h_ (Nat.not_lt_zero _)
  | succ nn_ ih_ =>
    rintro hd_ f_ S_ hI_ hF_ ⟨h0_, hc_, hn1_, hT_, -⟩ hm_
    have z1_ : S_.1 2 cc_ 1 = S0_.1 2 cc_ 1 := hF_.1 2 cc_ 1 rfl
    have z2_ : S_.1 2 cc_ 2 = S0_.1 2 cc_ 2 := hF_.1 2 cc_ 2 rfl
    have z9a := htp_.1
    have z9b := htp_.2.2
    have tp9_ := tpr_fr htp_ hF_
    have cf9_ : cfu9 cc_ S_ = cfu9 cc_ S0_ := (cfu_fr (cc_ := cc_) hF_).1
    have fq9_ := cfu_q9 hI_ (show S_.1 2 cc_ 1 + S_.1 2 cc_ 2 ≤ 12 by omega)
    have T9_ : (f_ + 1).toNat = f_.toNat + 1 := by omega
    have s9_ : sn9 (fun f9_ => if le_ f9_ = -1 then 1 else 0) (f_.toNat + 1) = sn9 (fun f9_ => if le_ f9_ = -1 then 1 else 0) f_.toNat + (if le_ f_.toNat = -1 then 1 else 0) := rfl
    refine sm_T_go 2 (c1 := (6, [some (.inr (.inr (some (9, 0)))), some (.inr (.inr (some (2, cc_)))), some (.inl hd_), some (.inl f_)], [.inr (.inr (some (2, cc_))), .inl f_], S_)) rfl ?_
    refine sm_T_cal (d1 := 1) (Q1 := vq_62n cc_ S_) rfl rfl (by decide) (vc_62n cc_ S_ hI_ (by omega)) (fun u_ Sx1_ px4_ => ?_)
    obtain ⟨rfl, vx6_, rfl, px4_⟩ := px4_
    have fc6_ := px4_
    refine sm_T_br (a := 3) (z := 27) rfl (fun cx7_ => ?_) (fun cx7_ => ?_)
    · have cx7_ : vx6_ ≤ f_ := of_decide_eq_true cx7_
      refine sm_T_go 1 (c1 := (37, [some (.inr (.inr (some (9, 0)))), some (.inr (.inr (some (2, cc_)))), some (.inl hd_), some (.inl f_)], [.inl hd_], S_)) rfl ?_
      refine sm_T_ri rfl ⟨_, _, rfl, _, rfl, hI_, hF_, ?_⟩
      refine ⟨hn1_, hT_, ?_⟩
      rw [show (cfu9 cc_ S0_).toNat = f_.toNat by omega]
      exact hc_
    · have cx7_ : ¬ (vx6_ ≤ f_) := of_decide_eq_false cx7_
      refine sm_T_go 4 (c1 := (16, [some (.inr (.inr (some (9, 0)))), some (.inr (.inr (some (2, cc_)))), some (.inl hd_), some (.inl f_)], [.inl f_, .inr (.inr (some (2, cc_))), .inr (.inr (some (9, 0))), .inl hd_], S_)) rfl ?_
      refine sm_T_cal (d1 := 5) (Q1 := vq_177n f_ cc_ S_) rfl rfl (by decide) (vc_177n f_ cc_ S_ hI_ (by exact tpr_fr htp_ hF_) (by omega) (by exact hn1_) (by exact hT_.1 cc_ hp_)) (fun u_ Sx8_ px11_ => ?_)
      obtain ⟨vx13_, rfl, hIx9_, hFx10_, px11_⟩ := px11_
      have hFx12_ : ai_fr (sx_W vw_178n) S0_ Sx8_ := ai_fr_tr hF_ (fr_le hFx10_ rfl)
      have p16_ := px11_
      have T16_ : tkk S0_ Sx8_ := tkk_w ⟨⟨p16_.2.1.1, p16_.2.1.2.trans (hFx10_.1 2 cc_ 19 rfl).symm⟩, p16_.2.2.2.1⟩
      have l16_ : vx13_ = le_ f_.toNat := hle_ f_.toNat vx13_ (by omega) (by (rw [show ((f_.toNat : Nat) : Int) = f_ by omega]; exact csl_fr hF_ p16_.2.2.2.2.2.2))
      refine sm_T_go 1 (c1 := (20, [some (.inr (.inr (some (9, 0)))), some (.inr (.inr (some (2, cc_)))), some (.inl hd_), some (.inl f_)], [.inl (-1), .inl vx13_, .inl hd_], Sx8_)) rfl ?_
      refine sm_T_br (a := 1) (z := 7) rfl (fun cx14_ => ?_) (fun cx14_ => ?_)
      · have cx14_ : vx13_ ≠ (-1) := of_decide_eq_true cx14_
        refine sm_T_go 1 (c1 := (28, [some (.inr (.inr (some (9, 0)))), some (.inr (.inr (some (2, cc_)))), some (.inl hd_), some (.inl f_)], [.inl 0, .inl hd_], Sx8_)) rfl ?_
        refine sm_T_bin (w := hd_) rfl (bi_add (by omega) (by omega) (by omega)) ?_ -- pc_ 28
        refine sm_T_go 1 (c1 := (30, [some (.inr (.inr (some (9, 0)))), some (.inr (.inr (some (2, cc_)))), some (.inl hd_), some (.inl f_)], [], Sx8_)) rfl ?_
        refine sm_T_inc (a := 3) (z := 1) (v := f_) (w := f_ + 1) rfl rfl (by omega) (by omega) (by omega) ?_ -- pc_ 30
        refine sm_T_go 1 (c1 := (4, [some (.inr (.inr (some (9, 0)))), some (.inr (.inr (some (2, cc_)))), some (.inl hd_), some (.inl (f_ + 1))], [], Sx8_)) rfl ?_
        refine ih_ hd_ (f_ + 1) Sx8_ hIx9_ hFx12_ ⟨?_, ?_, ?_, ?_, trivial⟩ ?_
        · omega
        · (rw [T9_, s9_]; split <;> (push_cast; omega))
        · exact p16_.2.2.1
        · exact T16_
        · omega
      · have cx14_ : ¬ (vx13_ ≠ (-1)) := of_decide_eq_false cx14_
        refine sm_T_go 2 (c1 := (28, [some (.inr (.inr (some (9, 0)))), some (.inr (.inr (some (2, cc_)))), some (.inl hd_), some (.inl f_)], [.inl 1, .inl hd_], Sx8_)) rfl ?_
        refine sm_T_bin (w := hd_ + 1) rfl (bi_add (by omega) (by omega) (by omega)) ?_ -- pc_ 28
        refine sm_T_go 1 (c1 := (30, [some (.inr (.inr (some (9, 0)))), some (.inr (.inr (some (2, cc_)))), some (.inl (hd_ + 1)), some (.inl f_)], [], Sx8_)) rfl ?_
        refine sm_T_inc (a := 3) (z := 1) (v := f_) (w := f_ + 1) rfl rfl (by omega) (by omega) (by omega) ?_ -- pc_ 30
        refine sm_T_go 1 (c1 := (4, [some (.inr (.inr (some (9, 0)))), some (.inr (.inr (some (2, cc_)))), some (.inl (hd_ + 1)), some (.inl (f_ + 1))], [], Sx8_)) rfl ?_
        refine ih_ (hd_ + 1) (f_ + 1) Sx8_ hIx9_ hFx12_ ⟨?_, ?_, ?_, ?_, trivial⟩ ?_
        · omega
        · (rw [T9_, s9_]; split <;> (push_cast; omega))
        · exact p16_.2.2.1
        · exact T16_
        · omega
set_option maxHeartbeats 400000 in
theorem vc_178n {sc_ : Nat × (Nat → Int)} (cc_ : Nat) (le_ : Nat → Int) (S0_ : sm_S) (hI_ : gi S0_) (htp_ : tpr cc_ S0_) (hn_ : shn S0_) (hp_ : tkp cc_ S0_) (hle_ : leU cc_ S0_ le_) : sm_T (mt_P sc_) 6 178 (0, [some (.inr (.inr (some (9, 0)))), some (.inr (.inr (some (2, cc_)))), none, none], [], S0_) (fun ro9_ => ∃ u_ S1_, ro9_ = (.inl u_, S1_, 0) ∧ vq_178n cc_ le_ S0_ u_ S1_) := by
  have hF_ : ai_fr (sx_W vw_178n) S0_ S0_ := ai_fr_rf
  have fq9_ := cfu_q9 hI_ htp_.1
  have fz9_ : 0 ≤ cfu9 cc_ S0_ := by (have y9_ := htp_.2.2; unfold cfu9 cnc; omega)
  refine sm_T_go 4 (c1 := (4, [some (.inr (.inr (some (9, 0)))), some (.inr (.inr (some (2, cc_)))), some (.inl 0), some (.inl 0)], [], S0_)) rfl ?_
  refine (vl_178n cc_ le_ S0_ htp_ hn_ hp_ hle_ _) 0 0 S0_ hI_ hF_ ⟨?_, ?_, ?_, ?_, trivial⟩ (Nat.lt_succ_self _)
  · omega
  · (rw [show (0 : Int).toNat = 0 from rfl]; rfl)
  · exact hn_
  · exact tkk_rf
/-! Tester.showing -/
def vw_180n : sx_Wl := ([], [], [])
def vq_180n (a2_ : Int) (cc_ : Nat) (P_ : Nat → Nat → Bool) (L_ : List Nat) (S0_ : sm_S) (u_ : Option sm_V) (S1_ : sm_S) : Prop := S0_ = S1_ ∧ ∃ v_ : Int, u_ = some (.inl v_) ∧ ((0 ≤ v_ ∧ v_ ≤ 1224) ∧ v_ = ((cn9 (P_ a2_.toNat) L_ : Nat) : Int))
set_option maxHeartbeats 400000 in
theorem vl_180n {sc_ : Nat × (Nat → Int)} (a2_ : Int) (cc_ : Nat) (P_ : Nat → Nat → Bool) (L_ : List Nat) (S0_ : sm_S) (h2_ : 0 ≤ a2_ ∧ a2_ < cfu9 cc_ S0_ ∧ a2_ ≤ 1223) (ht_ : tok9 cc_ S0_) (hr_ : S0_.2.2.1 96 0 a2_.toNat ≠ 0) (hU_ : shU cc_ S0_ P_) (hL_ : tls cc_ S0_ L_) (hB_ : cB9 cc_ S0_ ≤ 4096) : ∀ nn_ : Nat, (∀ (ct : Int) (k_ : Int) (S_ : sm_S), gi S_ → ai_fr (sx_W vw_180n) S0_ S_ → ((0 ≤ k_ ∧ k_ ≤ 1224 ∧ (k_ ≤ S0_.1 2 cc_ 15 ∨ k_ = 0) ∧ 0 ≤ ct ∧ ct ≤ k_) ∧ (ct = ((cn9 (P_ a2_.toNat) (L_.take k_.toNat) : Nat) : Int)) ∧ (S_ = S0_) ∧ True) → ((2000 - k_).toNat) < nn_ → sm_T (mt_P sc_) 1 180 (5, [some (.inr (.inr (some (9, 0)))), some (.inr (.inr (some (2, cc_)))), some (.inl a2_), some (.inl ct), some (.inl k_)], [], S_) (fun ro9_ => ∃ u_ S1_, ro9_ = (.inl u_, S1_, 0) ∧ vq_180n a2_ cc_ P_ L_ S0_ u_ S1_)) := by
  intro nn_
  induction nn_ with
  | zero => exact fun _ _ _ _ _ _ h_ => absurd h_ (Nat.not_lt_zero _)
  | succ nn_ ih_ =>
    rintro ct k_ S_ hI_ hF_ ⟨h0_, hc_, hS_, -⟩ hm_
    subst hS_
    have cz_ : (-1) ≤ S_.1 2 cc_ 15 ∧ S_.1 2 cc_ 15 ≤ 1224 := hI_.1 2 cc_ 15 rfl
    have T9_ : (k_ + 1).toNat = k_.toNat + 1 := by omega
    have L9_ := hL_.1
    have bx1_ : (-1) ≤ S_.1 2 cc_ 15 ∧ S_.1 2 cc_ 15 ≤ 1224 := hI_.1 2 cc_ 15 rfl
    refine sm_T_go 3 (c1 := (11, [some (.inr (.inr (some (9, 0)))), some (.inr (.inr (some (2, cc_)))), some (.inl a2_), some (.inl ct), some (.inl k_)], [.inl (S_.1 2 cc_ 15), .inl k_], S_)) rfl ?_
    refine sm_T_br (a := 3) (z := 32) rfl (fun cx2_ => ?_) (fun cx2_ => ?_)
    · have cx2_ : (S_.1 2 cc_ 15) ≤ k_ := of_decide_eq_true cx2_
      refine sm_T_go 1 (c1 := (44, [some (.inr (.inr (some (9, 0)))), some (.inr (.inr (some (2, cc_)))), some (.inl a2_), some (.inl ct), some (.inl k_)], [.inl ct], S_)) rfl ?_
      refine sm_T_ri rfl ⟨_, _, rfl, (by first | rfl | exact hS_.symm), _, rfl, ?_⟩
      refine ⟨by omega, ?_⟩
      rw [hc_, List.take_of_length_le (by omega)]
    · have cx2_ : ¬ ((S_.1 2 cc_ 15) ≤ k_) := of_decide_eq_false cx2_
      obtain ⟨x9_, x1_, x2_, x3_⟩ := tls_k (k_ := k_) hL_ (by omega) (by omega)
      refine sm_T_go 5 (c1 := (22, [some (.inr (.inr (some (9, 0)))), some (.inr (.inr (some (2, cc_)))), some (.inl a2_), some (.inl ct), some (.inl k_)], [.inl k_, .inr (.inr (some (40, (0 + cc_)))), .inr (.inr (some (9, 0))), .inl ct], S_)) rfl ?_
      refine sm_T_iald (n := 1224) rfl rfl (by omega) (by omega) ?_
      have bx3_ : 0 ≤ S_.2.2.1 40 (0 + cc_) k_.toNat ∧ S_.2.2.1 40 (0 + cc_) k_.toNat ≤ 4095 := hI_.2 40 (0 + cc_) _
      refine sm_T_go 1 (c1 := (24, [some (.inr (.inr (some (9, 0)))), some (.inr (.inr (some (2, cc_)))), some (.inl a2_), some (.inl ct), some (.inl k_)], [.inl a2_, .inl (S_.2.2.1 40 (0 + cc_) k_.toNat), .inr (.inr (some (9, 0))), .inl ct], S_)) rfl ?_
      refine sm_T_cal (d1 := 0) (Q1 := vq_176n (S_.2.2.1 40 (0 + cc_) k_.toNat) a2_ S_) rfl rfl (by decide) (vc_176n (S_.2.2.1 40 (0 + cc_) k_.toNat) a2_ S_ hI_ (by omega) (by omega)) (fun u_ Sx4_ px7_ => ?_)
      obtain ⟨rfl, vx9_, rfl, px7_⟩ := px7_
      have i24_ := (px7_).1
      have j24_ : P_ a2_.toNat x9_ = decide (vx9_ = 1) := by (have y8_ := (px7_).2; rw [x2_, Int.toNat_natCast] at y8_; exact (shk_P (p_ := x9_) hU_ ht_ (by omega) hr_ x3_).symm.trans y8_)
      refine sm_T_b0 (a := 0) (z := 7) rfl (fun cx10_ => ?_) (fun cx10_ => ?_)
      · have cx10_ : vx9_ = 0 := of_decide_eq_true cx10_
        refine sm_T_go 1 (c1 := (35, [some (.inr (.inr (some (9, 0)))), some (.inr (.inr (some (2, cc_)))), some (.inl a2_), some (.inl ct), some (.inl k_)], [.inl 0, .inl ct], S_)) rfl ?_
        refine sm_T_bin (w := ct) rfl (bi_add (by omega) (by omega) (by omega)) ?_ -- pc_ 35
        refine sm_T_go 1 (c1 := (37, [some (.inr (.inr (some (9, 0)))), some (.inr (.inr (some (2, cc_)))), some (.inl a2_), some (.inl ct), some (.inl k_)], [], S_)) rfl ?_
        refine sm_T_inc (a := 4) (z := 1) (v := k_) (w := k_ + 1) rfl rfl (by omega) (by omega) (by omega) ?_ -- pc_ 37
        refine sm_T_go 1 (c1 := (5, [some (.inr (.inr (some (9, 0)))), some (.inr (.inr (some (2, cc_)))), some (.inl a2_), some (.inl ct), some (.inl (k_ + 1))], [], S_)) rfl ?_
        refine ih_ ct (k_ + 1) S_ hI_ hF_ ⟨?_, ?_, ?_, trivial⟩ ?_
        · omega
        · (rw [T9_, cn9_t x1_, j24_]; simp only [decide_eq_true_eq]; split <;> (push_cast; omega))
        · rfl
        · omega
      · have cx10_ : ¬ (vx9_ = 0) := of_decide_eq_false cx10_
        refine sm_T_go 2 (c1 := (35, [some (.inr (.inr (some (9, 0)))), some (.inr (.inr (some (2, cc_)))), some (.inl a2_), some (.inl ct), some (.inl k_)], [.inl 1, .inl ct], S_)) rfl ?_
        refine sm_T_bin (w := ct + 1) rfl (bi_add (by omega) (by omega) (by omega)) ?_ -- pc_ 35
        refine sm_T_go 1 (c1 := (37, [some (.inr (.inr (some (9, 0)))), some (.inr (.inr (some (2, cc_)))), some (.inl a2_), some (.inl (ct + 1)), some (.inl k_)], [], S_)) rfl ?_
        refine sm_T_inc (a := 4) (z := 1) (v := k_) (w := k_ + 1) rfl rfl (by omega) (by omega) (by omega) ?_ -- pc_ 37
        refine sm_T_go 1 (c1 := (5, [some (.inr (.inr (some (9, 0)))), some (.inr (.inr (some (2, cc_)))), some (.inl a2_), some (.inl (ct + 1)), some (.inl (k_ + 1))], [], S_)) rfl ?_
        refine ih_ (ct + 1) (k_ + 1) S_ hI_ hF_ ⟨?_, ?_, ?_, trivial⟩ ?_
        · omega
        · (rw [T9_, cn9_t x1_, j24_]; simp only [decide_eq_true_eq]; split <;> (push_cast; omega))
        · rfl
        · omega
set_option maxHeartbeats 400000 in
theorem vc_180n {sc_ : Nat × (Nat → Int)} (a2_ : Int) (cc_ : Nat) (P_ : Nat → Nat → Bool) (L_ : List Nat) (S0_ : sm_S) (hI_ : gi S0_) (h2_ : 0 ≤ a2_ ∧ a2_ < cfu9 cc_ S0_ ∧ a2_ ≤ 1223) (ht_ : tok9 cc_ S0_) (hr_ : S0_.2.2.1 96 0 a2_.toNat ≠ 0) (hU_ : shU cc_ S0_ P_) (hL_ : tls cc_ S0_ L_) (hB_ : cB9 cc_ S0_ ≤ 4096) : sm_T (mt_P sc_) 1 180 (0, [some (.inr (.inr (some (9, 0)))), some (.inr (.inr (some (2, cc_)))), some (.inl a2_), none, none], [], S0_) (fun ro9_ => ∃ u_ S1_, ro9_ = (.inl u_, S1_, 0) ∧ vq_180n a2_ cc_ P_ L_ S0_ u_ S1_) := by
  have hF_ : ai_fr (sx_W vw_180n) S0_ S0_ := ai_fr_rf
  refine sm_T_go 4 (c1 := (5, [some (.inr (.inr (some (9, 0)))), some (.inr (.inr (some (2, cc_)))), some (.inl a2_), some (.inl 0), some (.inl 0)], [], S0_)) rfl ?_
  refine (vl_180n a2_ cc_ P_ L_ S0_ h2_ ht_ hr_ hU_ hL_ hB_ _) 0 0 S0_ hI_ hF_ ⟨?_, ?_, ?_, trivial⟩ (Nat.lt_succ_self _)
  · omega
  · (rw [show (0 : Int).toNat = 0 from rfl, List.take_zero]; rfl)
  · rfl
/-! Tester.isSpare -/
def vw_181n : sx_Wl := ([], [], [])
def vq_181n (a1_ : Int) (a2_ : Int) (cc_ : Nat) (P_ : Nat → Nat → Bool) (L_ : List Nat) (S0_ : sm_S) (u_ : Option sm_V) (S1_ : sm_S) : Prop := S0_ = S1_ ∧ ∃ v_ : Int, u_ = some (.inl v_) ∧ ((0 ≤ v_ ∧ v_ ≤ 1) ∧ decide (v_ = 1) = spr9 (fun f9_ => !(decide (cn9 (P_ f9_) L_ = 1) && P_ f9_ a1_.toNat)) a2_.toNat)
set_option maxHeartbeats 400000 in
theorem vl_181n {sc_ : Nat × (Nat → Int)} (a1_ : Int) (a2_ : Int) (cc_ : Nat) (P_ : Nat → Nat → Bool) (L_ : List Nat) (S0_ : sm_S) (h1_ : 0 ≤ a1_ ∧ a1_ < cB9 cc_ S0_ ∧ cB9 cc_ S0_ ≤ 4096) (h2_ : 0 ≤ a2_ ∧ a2_ ≤ cfu9 cc_ S0_ ∧ a2_ ≤ 1224) (ht_ : tok9 cc_ S0_) (hra_ : ∀ f9_ : Nat, (f9_ : Int) < a2_ → S0_.2.2.1 96 0 f9_ ≠ 0) (hta_ : ∀ f9_ : Nat, (f9_ : Int) < a2_ → S0_.2.2.1 97 0 f9_ = ((cn9 (P_ f9_) L_ : Nat) : Int)) (hU_ : shU cc_ S0_ P_) : ∀ nn_ : Nat, (∀ (f_ : Int) (S_ : sm_S), gi S_ → ai_fr (sx_W vw_181n) S0_ S_ → ((0 ≤ f_ ∧ f_ ≤ a2_) ∧ (spr9 (fun f9_ => !(decide (cn9 (P_ f9_) L_ = 1) && P_ f9_ a1_.toNat)) f_.toNat = true) ∧ (S_ = S0_) ∧ True) → ((2000 - f_).toNat) < nn_ → sm_T (mt_P sc_) 1 181 (2, [some (.inr (.inr (some (9, 0)))), some (.inl a1_), some (.inl a2_), some (.inl f_)], [], S_) (fun ro9_ => ∃ u_ S1_, ro9_ = (.inl u_, S1_, 0) ∧ vq_181n a1_ a2_ cc_ P_ L_ S0_ u_ S1_)) := by
  intro nn_
  induction nn_ with
  | zero => exact fun _ _ _ _ _ h_ => absurd h_ (Nat.not_lt_zero _)
  | succ nn_ ih_ =>
    rintro f_ S_ hI_ hF_ ⟨h0_, hc_, hS_, -⟩ hm_
    subst hS_
    have T9_ : (f_ + 1).toNat = f_.toNat + 1 := by omega
    refine sm_T_go 2 (c1 := (4, [some (.inr (.inr (some (9, 0)))), some (.inl a1_), some (.inl a2_), some (.inl f_)], [.inl a2_, .inl f_], S_)) rfl ?_
    refine sm_T_br (a := 3) (z := 30) rfl (fun cx1_ => ?_) (fun cx1_ => ?_)
    · have cx1_ : a2_ ≤ f_ := of_decide_eq_true cx1_
      refine sm_T_go 1 (c1 := (35, [some (.inr (.inr (some (9, 0)))), some (.inl a1_), some (.inl a2_), some (.inl f_)], [.inl 1], S_)) rfl ?_
      refine sm_T_rz rfl (by omega) ⟨_, _, rfl, (by first | rfl | exact hS_.symm), _, rfl, ?_⟩
      refine ⟨by omega, ?_⟩
      rw [show a2_.toNat = f_.toNat by omega, hc_]
      rfl
    · have cx1_ : ¬ (a2_ ≤ f_) := of_decide_eq_false cx1_
      refine sm_T_go 3 (c1 := (12, [some (.inr (.inr (some (9, 0)))), some (.inl a1_), some (.inl a2_), some (.inl f_)], [.inl f_, .inr (.inr (some (97, 0)))], S_)) rfl ?_
      refine sm_T_iald (n := 1224) rfl rfl (by omega) (by omega) ?_
      have bx2_ : (-2147483648) ≤ S_.2.2.1 97 0 f_.toNat ∧ S_.2.2.1 97 0 f_.toNat ≤ 2147483647 := hI_.2 97 0 _
      refine sm_T_go 1 (c1 := (14, [some (.inr (.inr (some (9, 0)))), some (.inl a1_), some (.inl a2_), some (.inl f_)], [.inl 1, .inl (S_.2.2.1 97 0 f_.toNat)], S_)) rfl ?_
      refine sm_T_br (a := 1) (z := 14) rfl (fun cx3_ => ?_) (fun cx3_ => ?_)
      · have cx3_ : (S_.2.2.1 97 0 f_.toNat) ≠ 1 := of_decide_eq_true cx3_
        have t9_ : (!(decide (cn9 (P_ f_.toNat) L_ = 1) && P_ f_.toNat a1_.toNat)) = true := by (rw [decide_eq_false (show ¬ cn9 (P_ f_.toNat) L_ = 1 by (have y9_ := hta_ f_.toNat (by omega); omega)), Bool.false_and]; rfl)
        refine sm_T_inc (a := 3) (z := 1) (v := f_) (w := f_ + 1) rfl rfl (by omega) (by omega) (by omega) ?_ -- pc_ 28
        refine sm_T_go 1 (c1 := (2, [some (.inr (.inr (some (9, 0)))), some (.inl a1_), some (.inl a2_), some (.inl (f_ + 1))], [], S_)) rfl ?_
        refine ih_ (f_ + 1) S_ hI_ hF_ ⟨?_, ?_, ?_, trivial⟩ ?_
        · omega
        · (rw [T9_]; first | exact spr9_s hc_ t9_ | exact spr9_s hc_ (t9_ (by omega)))
        · rfl
        · omega
      · have cx3_ : ¬ ((S_.2.2.1 97 0 f_.toNat) ≠ 1) := of_decide_eq_false cx3_
        refine sm_T_go 3 (c1 := (20, [some (.inr (.inr (some (9, 0)))), some (.inl a1_), some (.inl a2_), some (.inl f_)], [.inl f_, .inl a1_, .inr (.inr (some (9, 0)))], S_)) rfl ?_
        refine sm_T_cal (d1 := 0) (Q1 := vq_176n a1_ f_ S_) rfl rfl (by decide) (vc_176n a1_ f_ S_ hI_ (by omega) (by omega)) (fun u_ Sx4_ px7_ => ?_)
        obtain ⟨rfl, vx9_, rfl, px7_⟩ := px7_
        have i20_ := (px7_).1
        have j20_ : P_ f_.toNat a1_.toNat = decide (vx9_ = 1) := (shk_P (p_ := a1_.toNat) hU_ ht_ (by omega) (hra_ f_.toNat (by omega)) (by omega)).symm.trans (px7_).2
        have t8f : vx9_ ≠ 0 → (!(decide (cn9 (P_ f_.toNat) L_ = 1) && P_ f_.toNat a1_.toNat)) = false := fun q9_ => by (rw [decide_eq_true (show cn9 (P_ f_.toNat) L_ = 1 by (have y9_ := hta_ f_.toNat (by omega); omega)), j20_, decide_eq_true (show vx9_ = 1 by omega)]; rfl)
        have t9_ : vx9_ = 0 → (!(decide (cn9 (P_ f_.toNat) L_ = 1) && P_ f_.toNat a1_.toNat)) = true := fun q9_ => by (rw [j20_, decide_eq_false (show ¬ vx9_ = 1 by omega), Bool.and_false]; rfl)
        refine sm_T_b0 (a := 0) (z := 5) rfl (fun cx10_ => ?_) (fun cx10_ => ?_)
        · have cx10_ : vx9_ = 0 := of_decide_eq_true cx10_
          refine sm_T_inc (a := 3) (z := 1) (v := f_) (w := f_ + 1) rfl rfl (by omega) (by omega) (by omega) ?_ -- pc_ 28
          refine sm_T_go 1 (c1 := (2, [some (.inr (.inr (some (9, 0)))), some (.inl a1_), some (.inl a2_), some (.inl (f_ + 1))], [], S_)) rfl ?_
          refine ih_ (f_ + 1) S_ hI_ hF_ ⟨?_, ?_, ?_, trivial⟩ ?_
          · omega
          · (rw [T9_]; first | exact spr9_s hc_ t9_ | exact spr9_s hc_ (t9_ (by omega)))
          · rfl
          · omega
        · have cx10_ : ¬ (vx9_ = 0) := of_decide_eq_false cx10_
          refine sm_T_go 1 (c1 := (27, [some (.inr (.inr (some (9, 0)))), some (.inl a1_), some (.inl a2_), some (.inl f_)], [.inl 0], S_)) rfl ?_
          refine sm_T_rz rfl (by omega) ⟨_, _, rfl, (by first | rfl | exact hS_.symm), _, rfl, ?_⟩
          refine ⟨by omega, ?_⟩
          rw [spr9_f (Q_ := (fun f9_ => !(decide (cn9 (P_ f9_) L_ = 1) && P_ f9_ a1_.toNat))) (m_ := f_.toNat) (t8f (by omega)) (show f_.toNat < a2_.toNat by omega)]
          rfl
set_option maxHeartbeats 400000 in
theorem vc_181n {sc_ : Nat × (Nat → Int)} (a1_ : Int) (a2_ : Int) (cc_ : Nat) (P_ : Nat → Nat → Bool) (L_ : List Nat) (S0_ : sm_S) (hI_ : gi S0_) (h1_ : 0 ≤ a1_ ∧ a1_ < cB9 cc_ S0_ ∧ cB9 cc_ S0_ ≤ 4096) (h2_ : 0 ≤ a2_ ∧ a2_ ≤ cfu9 cc_ S0_ ∧ a2_ ≤ 1224) (ht_ : tok9 cc_ S0_) (hra_ : ∀ f9_ : Nat, (f9_ : Int) < a2_ → S0_.2.2.1 96 0 f9_ ≠ 0) (hta_ : ∀ f9_ : Nat, (f9_ : Int) < a2_ → S0_.2.2.1 97 0 f9_ = ((cn9 (P_ f9_) L_ : Nat) : Int)) (hU_ : shU cc_ S0_ P_) : sm_T (mt_P sc_) 1 181 (0, [some (.inr (.inr (some (9, 0)))), some (.inl a1_), some (.inl a2_), none], [], S0_) (fun ro9_ => ∃ u_ S1_, ro9_ = (.inl u_, S1_, 0) ∧ vq_181n a1_ a2_ cc_ P_ L_ S0_ u_ S1_) := by
  have hF_ : ai_fr (sx_W vw_181n) S0_ S0_ := ai_fr_rf
  refine sm_T_go 2 (c1 := (2, [some (.inr (.inr (some (9, 0)))), some (.inl a1_), some (.inl a2_), some (.inl 0)], [], S0_)) rfl ?_
  refine (vl_181n a1_ a2_ cc_ P_ L_ S0_ h1_ h2_ ht_ hra_ hta_ hU_ _) 0 S0_ hI_ hF_ ⟨?_, ?_, ?_, trivial⟩ (Nat.lt_succ_self _)
  · omega
  · rfl
  · rfl
/-! Tester.countShownBySet -/
def vw_183n : sx_Wl := ([(9, 1), (9, 2), (9, 3)], [92, 93, 94, 95, 96], [(9, 0)])
def vq_183n (cc_ : Nat) (P_ : Nat → Nat → Bool) (L_ : List Nat) (S0_ : sm_S) (u_ : Option sm_V) (S1_ : sm_S) : Prop := ∃ v_ : Int, u_ = some (.inl v_) ∧ gi S1_ ∧ ai_fr (sx_W vw_183n) S0_ S1_ ∧ (shn S1_ ∧ tkk S0_ S1_ ∧ v_ = ((sn9 (fun f9_ => if 0 < cn9 (P_ f9_) L_ then 1 else 0) (cfu9 cc_ S0_).toNat : Nat) : Int))
set_option maxHeartbeats 400000 in
theorem vl_183n {sc_ : Nat × (Nat → Int)} (cc_ : Nat) (P_ : Nat → Nat → Bool) (L_ : List Nat) (S0_ : sm_S) (htp_ : tpr cc_ S0_) (hn_ : shn S0_) (hp_ : tkp cc_ S0_) (hU_ : shU cc_ S0_ P_) (hL_ : tls cc_ S0_ L_) : ∀ nn_ : Nat, (∀ (hd_ : Int) (f_ : Int) (S_ : sm_S), gi S_ → ai_fr (sx_W vw_183n) S0_ S_ → ((0 ≤ f_ ∧ f_ ≤ 1224 ∧ f_ ≤ cfu9 cc_ S0_ ∧ 0 ≤ hd_ ∧ hd_ ≤ f_) ∧ (hd_ = ((sn9 (fun f9_ => if 0 < cn9 (P_ f9_) L_ then 1 else 0) f_.toNat : Nat) : Int)) ∧ (shn S_) ∧ (tkk S0_ S_) ∧ True) → ((2000 - f_).toNat) < nn_ → sm_T (mt_P sc_) 5 183 (4, [some (.inr (.inr (some (9, 0)))), some (.inr (.inr (some (2, cc_)))), some (.inl hd_), some (.inl f_)], [], S_) (fun ro9_ => ∃ u_ S1_, ro9_ = (.inl u_, S1_, 0) ∧ vq_183n cc_ P_ L_ S0_ u_ S1_)) := by
  intro nn_
  induction nn_ with
  | zero => exact fun _ _ _ _ _ _ h_ => absurd h_ (Nat.not_lt_zero _)
  | succ nn_ ih_ =>
    rintro hd_ f_ S_ hI_ hF_ ⟨h0_, hc_, hn1_, hT_, -⟩ hm_
    have z1_ : S_.1 2 cc_ 1 = S0_.1 2 cc_ 1 := hF_.1 2 cc_ 1 rfl
    have z2_ : S_.1 2 cc_ 2 = S0_.1 2 cc_ 2 := hF_.1 2 cc_ 2 rfl
    have z9a := htp_.1
    have z9b := htp_.2.2
    have tp9_ := tpr_fr htp_ hF_
    have cf9_ : cfu9 cc_ S_ = cfu9 cc_ S0_ := (cfu_fr (cc_ := cc_) hF_).1
    have fq9_ := cfu_q9 hI_ (show S_.1 2 cc_ 1 + S_.1 2 cc_ 2 ≤ 12 by omega)
    have T9_ : (f_ + 1).toNat = f_.toNat + 1 := by omega
    have s9_ : sn9 (fun f9_ => if 0 < cn9 (P_ f9_) L_ then 1 else 0) (f_.toNat + 1) = sn9 (fun f9_ => if 0 < cn9 (P_ f9_) L_ then 1 else 0) f_.toNat + (if 0 < cn9 (P_ f_.toNat) L_ then 1 else 0) := rfl
    refine sm_T_go 2 (c1 := (6, [some (.inr (.inr (some (9, 0)))), some (.inr (.inr (some (2, cc_)))), some (.inl hd_), some (.inl f_)], [.inr (.inr (some (2, cc_))), .inl f_], S_)) rfl ?_
    refine sm_T_cal (d1 := 1) (Q1 := vq_62n cc_ S_) rfl rfl (by decide) (vc_62n cc_ S_ hI_ (by omega)) (fun u_ Sx1_ px4_ => ?_)
    obtain ⟨rfl, vx6_, rfl, px4_⟩ := px4_
    have fc6_ := px4_
    refine sm_T_br (a := 3) (z := 32) rfl (fun cx7_ => ?_) (fun cx7_ => ?_)
    · have cx7_ : vx6_ ≤ f_ := of_decide_eq_true cx7_
      refine sm_T_go 1 (c1 := (42, [some (.inr (.inr (some (9, 0)))), some (.inr (.inr (some (2, cc_)))), some (.inl hd_), some (.inl f_)], [.inl hd_], S_)) rfl ?_
      refine sm_T_ri rfl ⟨_, _, rfl, _, rfl, hI_, hF_, ?_⟩
      refine ⟨hn1_, hT_, ?_⟩
      rw [show (cfu9 cc_ S0_).toNat = f_.toNat by omega]
      exact hc_
    · have cx7_ : ¬ (vx6_ ≤ f_) := of_decide_eq_false cx7_
      refine sm_T_go 3 (c1 := (15, [some (.inr (.inr (some (9, 0)))), some (.inr (.inr (some (2, cc_)))), some (.inl hd_), some (.inl f_)], [.inl f_, .inr (.inr (some (2, cc_))), .inr (.inr (some (9, 0)))], S_)) rfl ?_
      refine sm_T_cal (d1 := 4) (Q1 := vq_174n f_ cc_ S_) rfl rfl (by decide) (vc_174n f_ cc_ S_ hI_ (by exact tp9_.1) (by omega) (by exact hn1_) (by exact hT_.1 cc_ hp_) (by exact tp9_.2.1) (by exact tp9_.2.2)) (fun u_ Sx8_ px11_ => ?_)
      obtain ⟨rfl, hIx9_, hFx10_, px11_⟩ := px11_
      have hFx12_ : ai_fr (sx_W vw_183n) S0_ Sx8_ := ai_fr_tr hF_ (fr_le hFx10_ rfl)
      have p15_ := px11_
      have T15_ : tkk S0_ Sx8_ := tkk_w ⟨⟨p15_.2.1.1, p15_.2.1.2.trans (hFx10_.1 2 cc_ 19 rfl).symm⟩, p15_.2.2.2.1⟩
      have cf15_ : cfu9 cc_ Sx8_ = cfu9 cc_ S0_ := (cfu_fr (cc_ := cc_) hFx12_).1
      refine sm_T_go 4 (c1 := (22, [some (.inr (.inr (some (9, 0)))), some (.inr (.inr (some (2, cc_)))), some (.inl hd_), some (.inl f_)], [.inl f_, .inr (.inr (some (2, cc_))), .inr (.inr (some (9, 0))), .inl hd_], Sx8_)) rfl ?_
      refine sm_T_cal (d1 := 1) (Q1 := vq_180n f_ cc_ P_ L_ Sx8_) rfl rfl (by decide) (vc_180n f_ cc_ P_ L_ Sx8_ hIx9_ (by omega) (by exact p15_.2.2.2.1) (by exact p15_.2.2.2.2) (by exact shU_fr hU_ hFx12_) (by exact tls_fr hL_ hFx12_) (by exact cB_b (tpr_fr htp_ hFx12_).1)) (fun u_ Sx13_ px16_ => ?_)
      obtain ⟨rfl, vx18_, rfl, px16_⟩ := px16_
      have q22_ := px16_
      refine sm_T_b0 (a := 5) (z := 7) rfl (fun cx19_ => ?_) (fun cx19_ => ?_)
      · have cx19_ : vx18_ ≤ 0 := of_decide_eq_true cx19_
        refine sm_T_go 1 (c1 := (33, [some (.inr (.inr (some (9, 0)))), some (.inr (.inr (some (2, cc_)))), some (.inl hd_), some (.inl f_)], [.inl 0, .inl hd_], Sx8_)) rfl ?_
        refine sm_T_bin (w := hd_) rfl (bi_add (by omega) (by omega) (by omega)) ?_ -- pc_ 33
        refine sm_T_go 1 (c1 := (35, [some (.inr (.inr (some (9, 0)))), some (.inr (.inr (some (2, cc_)))), some (.inl hd_), some (.inl f_)], [], Sx8_)) rfl ?_
        refine sm_T_inc (a := 3) (z := 1) (v := f_) (w := f_ + 1) rfl rfl (by omega) (by omega) (by omega) ?_ -- pc_ 35
        refine sm_T_go 1 (c1 := (4, [some (.inr (.inr (some (9, 0)))), some (.inr (.inr (some (2, cc_)))), some (.inl hd_), some (.inl (f_ + 1))], [], Sx8_)) rfl ?_
        refine ih_ hd_ (f_ + 1) Sx8_ hIx9_ hFx12_ ⟨?_, ?_, ?_, ?_, trivial⟩ ?_
        · omega
        · (rw [T9_, s9_]; split <;> (push_cast; omega))
        · exact p15_.2.2.1
        · exact T15_
        · omega
      · have cx19_ : ¬ (vx18_ ≤ 0) := of_decide_eq_false cx19_
        refine sm_T_go 2 (c1 := (33, [some (.inr (.inr (some (9, 0)))), some (.inr (.inr (some (2, cc_)))), some (.inl hd_), some (.inl f_)], [.inl 1, .inl hd_], Sx8_)) rfl ?_
        refine sm_T_bin (w := hd_ + 1) rfl (bi_add (by omega) (by omega) (by omega)) ?_ -- pc_ 33
        refine sm_T_go 1 (c1 := (35, [some (.inr (.inr (some (9, 0)))), some (.inr (.inr (some (2, cc_)))), some (.inl (hd_ + 1)), some (.inl f_)], [], Sx8_)) rfl ?_
        refine sm_T_inc (a := 3) (z := 1) (v := f_) (w := f_ + 1) rfl rfl (by omega) (by omega) (by omega) ?_ -- pc_ 35
        refine sm_T_go 1 (c1 := (4, [some (.inr (.inr (some (9, 0)))), some (.inr (.inr (some (2, cc_)))), some (.inl (hd_ + 1)), some (.inl (f_ + 1))], [], Sx8_)) rfl ?_
        refine ih_ (hd_ + 1) (f_ + 1) Sx8_ hIx9_ hFx12_ ⟨?_, ?_, ?_, ?_, trivial⟩ ?_
        · omega
        · (rw [T9_, s9_]; split <;> (push_cast; omega))
        · exact p15_.2.2.1
        · exact T15_
        · omega
set_option maxHeartbeats 400000 in
theorem vc_183n {sc_ : Nat × (Nat → Int)} (cc_ : Nat) (P_ : Nat → Nat → Bool) (L_ : List Nat) (S0_ : sm_S) (hI_ : gi S0_) (htp_ : tpr cc_ S0_) (hn_ : shn S0_) (hp_ : tkp cc_ S0_) (hU_ : shU cc_ S0_ P_) (hL_ : tls cc_ S0_ L_) : sm_T (mt_P sc_) 5 183 (0, [some (.inr (.inr (some (9, 0)))), some (.inr (.inr (some (2, cc_)))), none, none], [], S0_) (fun ro9_ => ∃ u_ S1_, ro9_ = (.inl u_, S1_, 0) ∧ vq_183n cc_ P_ L_ S0_ u_ S1_) := by
  have hF_ : ai_fr (sx_W vw_183n) S0_ S0_ := ai_fr_rf
  have fq9_ := cfu_q9 hI_ htp_.1
  have fz9_ : 0 ≤ cfu9 cc_ S0_ := by (have y9_ := htp_.2.2; unfold cfu9 cnc; omega)
  refine sm_T_go 4 (c1 := (4, [some (.inr (.inr (some (9, 0)))), some (.inr (.inr (some (2, cc_)))), some (.inl 0), some (.inl 0)], [], S0_)) rfl ?_
  refine (vl_183n cc_ P_ L_ S0_ htp_ hn_ hp_ hU_ hL_ _) 0 0 S0_ hI_ hF_ ⟨?_, ?_, ?_, ?_, trivial⟩ (Nat.lt_succ_self _)
  · omega
  · (rw [show (0 : Int).toNat = 0 from rfl]; rfl)
  · exact hn_
  · exact tkk_rf
/-! Tester.suspectOf -/
def vw_184n : sx_Wl := ([(9, 1), (9, 2), (9, 3)], [92, 93, 94, 95, 96], [(9, 0)])
def vq_184n (a2_ : Int) (cc_ : Nat) (P_ : Nat → Nat → Bool) (L_ : List Nat) (fa_ : Nat → Bool) (S0_ : sm_S) (u_ : Option sm_V) (S1_ : sm_S) : Prop := ∃ v_ : Int, u_ = some (.inl v_) ∧ gi S1_ ∧ ai_fr (sx_W vw_184n) S0_ S1_ ∧ (shn S1_ ∧ tkk S0_ S1_ ∧ kth9 (sus9 P_ L_ fa_) (cfu9 cc_ S0_).toNat a2_ v_)
set_option maxHeartbeats 400000 in
theorem vl_184n {sc_ : Nat × (Nat → Int)} (a2_ : Int) (cc_ : Nat) (P_ : Nat → Nat → Bool) (L_ : List Nat) (fa_ : Nat → Bool) (S0_ : sm_S) (htp_ : tpr cc_ S0_) (h2_ : 0 ≤ a2_ ∧ a2_ ≤ 2147483647) (hn_ : shn S0_) (hp_ : tkp cc_ S0_) (hU_ : shU cc_ S0_ P_) (hL_ : tls cc_ S0_ L_) (hfa_ : ∀ k9_ : Nat, (k9_ : Int) < S0_.1 2 cc_ 15 → fa_ k9_ = decide (S0_.2.2.1 41 (0 + cc_) k9_ ≠ 0)) : ∀ nn_ : Nat, (∀ (rs_ : Int) (f_ : Int) (S_ : sm_S), gi S_ → ai_fr (sx_W vw_184n) S0_ S_ → ((0 ≤ f_ ∧ f_ ≤ 1224 ∧ f_ ≤ cfu9 cc_ S0_) ∧ (rs_ = a2_ - ((sn9 (fun f9_ => if sus9 P_ L_ fa_ f9_ = true then 1 else 0) f_.toNat : Nat) : Int) ∧ 0 ≤ rs_) ∧ (shn S_) ∧ (tkk S0_ S_) ∧ True) → ((10000 * (2000 - f_) + 9000).toNat) < nn_ → sm_T (mt_P sc_) 5 184 (5, [some (.inr (.inr (some (9, 0)))), some (.inr (.inr (some (2, cc_)))), some (.inl a2_), some (.inl rs_), some (.inl f_), none, none], [], S_) (fun ro9_ => ∃ u_ S1_, ro9_ = (.inl u_, S1_, 0) ∧ vq_184n a2_ cc_ P_ L_ fa_ S0_ u_ S1_)) ∧ (∀ (rs_ : Int) (f_ : Int) (sp_ : Int) (k_ : Int) (S_ : sm_S), gi S_ → ai_fr (sx_W vw_184n) S0_ S_ → ((0 ≤ f_ ∧ f_ < 1224 ∧ f_ < cfu9 cc_ S0_ ∧ 0 ≤ k_ ∧ k_ ≤ 1224 ∧ (k_ ≤ S0_.1 2 cc_ 15 ∨ k_ = 0) ∧ 0 ≤ sp_ ∧ sp_ ≤ 1) ∧ (rs_ = a2_ - ((sn9 (fun f9_ => if sus9 P_ L_ fa_ f9_ = true then 1 else 0) f_.toNat : Nat) : Int) ∧ 0 ≤ rs_) ∧ (imq (sp_ = 1) (0 < cn9 (P_ f_.toNat) L_ ∧ spr9 (fun k9_ => P_ f_.toNat (L_.getD k9_ 0) == fa_ k9_) k_.toNat = true) ∧ imq (sp_ = 0) (sus9 P_ L_ fa_ f_.toNat = false)) ∧ ((S_.2.1 9 0 0 = some cc_ ∧ S_.1 9 0 1 = S0_.1 2 cc_ 19) ∧ shn S_ ∧ tok9 cc_ S_ ∧ S_.2.2.1 96 0 f_.toNat ≠ 0) ∧ (tkk S0_ S_) ∧ True) → ((10000 * (2000 - f_) + 8000 - k_).toNat) < nn_ → sm_T (mt_P sc_) 5 184 (41, [some (.inr (.inr (some (9, 0)))), some (.inr (.inr (some (2, cc_)))), some (.inl a2_), some (.inl rs_), some (.inl f_), some (.inl sp_), some (.inl k_)], [], S_) (fun ro9_ => ∃ u_ S1_, ro9_ = (.inl u_, S1_, 0) ∧ vq_184n a2_ cc_ P_ L_ fa_ S0_ u_ S1_)) := by
  intro nn_
  induction nn_ with
  | zero => exact ⟨fun _ _ _ _ _ _ h_ => absurd h_ (Nat.not_lt_zero _), fun _ _ _ _ _ _ _ _ h_ => absurd h_ (Nat.not_lt_zero _)⟩
  | succ nn_ ih_ =>
    refine ⟨?_, ?_⟩
    · rintro rs_ f_ S_ hI_ hF_ ⟨h0_, hc_, hn1_, hT_, -⟩ hm_
      have z1_ : S_.1 2 cc_ 1 = S0_.1 2 cc_ 1 := hF_.1 2 cc_ 1 rfl
      have z2_ : S_.1 2 cc_ 2 = S0_.1 2 cc_ 2 := hF_.1 2 cc_ 2 rfl
      have z9a := htp_.1
      have z9b := htp_.2.2
      have tp9_ := tpr_fr htp_ hF_
      have cf9_ : cfu9 cc_ S_ = cfu9 cc_ S0_ := (cfu_fr (cc_ := cc_) hF_).1
      have fq9_ := cfu_q9 hI_ (show S_.1 2 cc_ 1 + S_.1 2 cc_ 2 ≤ 12 by omega)
      have cz_ : (-1) ≤ S_.1 2 cc_ 15 ∧ S_.1 2 cc_ 15 ≤ 1224 := hI_.1 2 cc_ 15 rfl
      have T9_ : (f_ + 1).toNat = f_.toNat + 1 := by omega
      have s9_ : sn9 (fun f9_ => if sus9 P_ L_ fa_ f9_ = true then 1 else 0) (f_.toNat + 1) = sn9 (fun f9_ => if sus9 P_ L_ fa_ f9_ = true then 1 else 0) f_.toNat + (if sus9 P_ L_ fa_ f_.toNat = true then 1 else 0) := rfl
      have z15_ : S_.1 2 cc_ 15 = S0_.1 2 cc_ 15 := hF_.1 2 cc_ 15 rfl
      have g41_ : S_.2.2.1 41 (0 + cc_) = S0_.2.2.1 41 (0 + cc_) := fr_arr hF_ rfl
      have tl9_ := tls_fr hL_ hF_
      have L9_ := hL_.1
      refine sm_T_go 2 (c1 := (8, [some (.inr (.inr (some (9, 0)))), some (.inr (.inr (some (2, cc_)))), some (.inl a2_), some (.inl rs_), some (.inl f_), none, none], [.inr (.inr (some (2, cc_))), .inl f_], S_)) rfl ?_
      refine sm_T_cal (d1 := 1) (Q1 := vq_62n cc_ S_) rfl rfl (by decide) (vc_62n cc_ S_ hI_ (by omega)) (fun u_ Sx1_ px4_ => ?_)
      obtain ⟨rfl, vx6_, rfl, px4_⟩ := px4_
      have fc8_ := px4_
      refine sm_T_br (a := 3) (z := 109) rfl (fun cx7_ => ?_) (fun cx7_ => ?_)
      · have cx7_ : vx6_ ≤ f_ := of_decide_eq_true cx7_
        refine sm_T_go 1 (c1 := (121, [some (.inr (.inr (some (9, 0)))), some (.inr (.inr (some (2, cc_)))), some (.inl a2_), some (.inl rs_), some (.inl f_), none, none], [.inl (-1)], S_)) rfl ?_
        refine sm_T_ri rfl ⟨_, _, rfl, _, rfl, hI_, hF_, ?_⟩
        refine ⟨hn1_, hT_, Or.inl ⟨rfl, ?_⟩⟩
        rw [show (cfu9 cc_ S0_).toNat = f_.toNat by omega]
        omega
      · have cx7_ : ¬ (vx6_ ≤ f_) := of_decide_eq_false cx7_
        refine sm_T_go 3 (c1 := (18, [some (.inr (.inr (some (9, 0)))), some (.inr (.inr (some (2, cc_)))), some (.inl a2_), some (.inl rs_), some (.inl f_), none, none], [.inl f_, .inr (.inr (some (2, cc_))), .inr (.inr (some (9, 0)))], S_)) rfl ?_
        refine sm_T_cal (d1 := 4) (Q1 := vq_174n f_ cc_ S_) rfl rfl (by decide) (vc_174n f_ cc_ S_ hI_ (by exact tp9_.1) (by omega) (by exact hn1_) (by exact hT_.1 cc_ hp_) (by exact tp9_.2.1) (by exact tp9_.2.2)) (fun u_ Sx8_ px11_ => ?_)
        obtain ⟨rfl, hIx9_, hFx10_, px11_⟩ := px11_
        have hFx12_ : ai_fr (sx_W vw_184n) S0_ Sx8_ := ai_fr_tr hF_ (fr_le hFx10_ rfl)
        have p18_ := px11_
        have T18_ : tkk S0_ Sx8_ := tkk_w ⟨⟨p18_.2.1.1, p18_.2.1.2.trans (hFx10_.1 2 cc_ 19 rfl).symm⟩, p18_.2.2.2.1⟩
        have cf18_ : cfu9 cc_ Sx8_ = cfu9 cc_ S0_ := (cfu_fr (cc_ := cc_) hFx12_).1
        refine sm_T_go 3 (c1 := (25, [some (.inr (.inr (some (9, 0)))), some (.inr (.inr (some (2, cc_)))), some (.inl a2_), some (.inl rs_), some (.inl f_), none, none], [.inl f_, .inr (.inr (some (2, cc_))), .inr (.inr (some (9, 0)))], Sx8_)) rfl ?_
        refine sm_T_cal (d1 := 1) (Q1 := vq_180n f_ cc_ P_ L_ Sx8_) rfl rfl (by decide) (vc_180n f_ cc_ P_ L_ Sx8_ hIx9_ (by omega) (by exact p18_.2.2.2.1) (by exact p18_.2.2.2.2) (by exact shU_fr hU_ hFx12_) (by exact tls_fr hL_ hFx12_) (by exact cB_b (tpr_fr htp_ hFx12_).1)) (fun u_ Sx13_ px16_ => ?_)
        obtain ⟨rfl, vx18_, rfl, px16_⟩ := px16_
        have q25_ := px16_
        refine sm_T_b0 (a := 5) (z := 7) rfl (fun cx19_ => ?_) (fun cx19_ => ?_)
        · have cx19_ : vx18_ ≤ 0 := of_decide_eq_true cx19_
          refine sm_T_go 4 (c1 := (41, [some (.inr (.inr (some (9, 0)))), some (.inr (.inr (some (2, cc_)))), some (.inl a2_), some (.inl rs_), some (.inl f_), some (.inl 0), some (.inl 0)], [], Sx8_)) rfl ?_
          refine ih_.2 rs_ f_ 0 0 Sx8_ hIx9_ hFx12_ ⟨?_, ?_, ?_, ?_, ?_, trivial⟩ ?_
          · omega
          · exact hc_
          · first | exact ⟨fun _ => ⟨by omega, rfl⟩, fun q9_ => absurd q9_ (by decide)⟩ | exact ⟨fun q9_ => absurd q9_ (by decide), fun _ => by (unfold sus9; rw [decide_eq_false (by omega), Bool.false_and])⟩
          · exact ⟨⟨p18_.2.1.1, p18_.2.1.2.trans (hF_.1 2 cc_ 19 rfl)⟩, p18_.2.2⟩
          · exact T18_
          · omega
        · have cx19_ : ¬ (vx18_ ≤ 0) := of_decide_eq_false cx19_
          refine sm_T_go 5 (c1 := (41, [some (.inr (.inr (some (9, 0)))), some (.inr (.inr (some (2, cc_)))), some (.inl a2_), some (.inl rs_), some (.inl f_), some (.inl 1), some (.inl 0)], [], Sx8_)) rfl ?_
          refine ih_.2 rs_ f_ 1 0 Sx8_ hIx9_ hFx12_ ⟨?_, ?_, ?_, ?_, ?_, trivial⟩ ?_
          · omega
          · exact hc_
          · first | exact ⟨fun _ => ⟨by omega, rfl⟩, fun q9_ => absurd q9_ (by decide)⟩ | exact ⟨fun q9_ => absurd q9_ (by decide), fun _ => by (unfold sus9; rw [decide_eq_false (by omega), Bool.false_and])⟩
          · exact ⟨⟨p18_.2.1.1, p18_.2.1.2.trans (hF_.1 2 cc_ 19 rfl)⟩, p18_.2.2⟩
          · exact T18_
          · omega
    · rintro rs_ f_ sp_ k_ S_ hI_ hF_ ⟨h0_, hc_, hq_, hk_, hT_, -⟩ hm_
      have z1_ : S_.1 2 cc_ 1 = S0_.1 2 cc_ 1 := hF_.1 2 cc_ 1 rfl
      have z2_ : S_.1 2 cc_ 2 = S0_.1 2 cc_ 2 := hF_.1 2 cc_ 2 rfl
      have z9a := htp_.1
      have z9b := htp_.2.2
      have tp9_ := tpr_fr htp_ hF_
      have cf9_ : cfu9 cc_ S_ = cfu9 cc_ S0_ := (cfu_fr (cc_ := cc_) hF_).1
      have fq9_ := cfu_q9 hI_ (show S_.1 2 cc_ 1 + S_.1 2 cc_ 2 ≤ 12 by omega)
      have cz_ : (-1) ≤ S_.1 2 cc_ 15 ∧ S_.1 2 cc_ 15 ≤ 1224 := hI_.1 2 cc_ 15 rfl
      have T9_ : (f_ + 1).toNat = f_.toNat + 1 := by omega
      have s9_ : sn9 (fun f9_ => if sus9 P_ L_ fa_ f9_ = true then 1 else 0) (f_.toNat + 1) = sn9 (fun f9_ => if sus9 P_ L_ fa_ f9_ = true then 1 else 0) f_.toNat + (if sus9 P_ L_ fa_ f_.toNat = true then 1 else 0) := rfl
      have z15_ : S_.1 2 cc_ 15 = S0_.1 2 cc_ 15 := hF_.1 2 cc_ 15 rfl
      have g41_ : S_.2.2.1 41 (0 + cc_) = S0_.2.2.1 41 (0 + cc_) := fr_arr hF_ rfl
      have tl9_ := tls_fr hL_ hF_
      have L9_ := hL_.1
      have T9k : (k_ + 1).toNat = k_.toNat + 1 := by omega
      have bx1_ : (-1) ≤ S_.1 2 cc_ 15 ∧ S_.1 2 cc_ 15 ≤ 1224 := hI_.1 2 cc_ 15 rfl
      refine sm_T_go 3 (c1 := (47, [some (.inr (.inr (some (9, 0)))), some (.inr (.inr (some (2, cc_)))), some (.inl a2_), some (.inl rs_), some (.inl f_), some (.inl sp_), some (.inl k_)], [.inl (S_.1 2 cc_ 15), .inl k_], S_)) rfl ?_
      refine sm_T_br (a := 3) (z := 52) rfl (fun cx2_ => ?_) (fun cx2_ => ?_)
      · have cx2_ : (S_.1 2 cc_ 15) ≤ k_ := of_decide_eq_true cx2_
        refine sm_T_go 1 (c1 := (101, [some (.inr (.inr (some (9, 0)))), some (.inr (.inr (some (2, cc_)))), some (.inl a2_), some (.inl rs_), some (.inl f_), some (.inl sp_), some (.inl k_)], [.inl sp_], S_)) rfl ?_
        refine sm_T_b0 (a := 0) (z := 13) rfl (fun cx3_ => ?_) (fun cx3_ => ?_)
        · have cx3_ : sp_ = 0 := of_decide_eq_true cx3_
          refine sm_T_inc (a := 4) (z := 1) (v := f_) (w := f_ + 1) rfl rfl (by omega) (by omega) (by omega) ?_ -- pc_ 114
          refine sm_T_go 1 (c1 := (5, [some (.inr (.inr (some (9, 0)))), some (.inr (.inr (some (2, cc_)))), some (.inl a2_), some (.inl rs_), some (.inl (f_ + 1)), some (.inl sp_), some (.inl k_)], [], S_)) rfl ?_
          refine sm_T_wk [some (.inr (.inr (some (9, 0)))), some (.inr (.inr (some (2, cc_)))), some (.inl a2_), some (.inl rs_), some (.inl (f_ + 1)), none, none] (by exact ⟨rfl, rfl, rfl, rfl, rfl, trivial⟩) ?_
          refine ih_.1 rs_ (f_ + 1) S_ hI_ hF_ ⟨?_, ?_, ?_, ?_, trivial⟩ ?_
          · omega
          · have sb9_ := sn9_b (g_ := (fun f9_ => if sus9 P_ L_ fa_ f9_ = true then 1 else 0)) (M_ := 1) (fun k9_ => by (show (if _ then _ else _ : Nat) ≤ 1; split <;> decide)) f_.toNat
            first | (exfalso; omega) | (have u9_ := hq_.2 (by omega); rw [T9_, s9_, u9_, if_neg (by decide)]; omega) | (have y9_ := hq_.1 (by omega); have u9_ : sus9 P_ L_ fa_ f_.toNat = true := (by (unfold sus9; rw [decide_eq_true y9_.1, show L_.length = k_.toNat by omega, y9_.2]; rfl)); rw [T9_, s9_, u9_, if_pos rfl]; push_cast; omega)
          · exact hk_.2.1
          · exact hT_
          · omega
        · have cx3_ : ¬ (sp_ = 0) := of_decide_eq_false cx3_
          refine sm_T_go 1 (c1 := (105, [some (.inr (.inr (some (9, 0)))), some (.inr (.inr (some (2, cc_)))), some (.inl a2_), some (.inl rs_), some (.inl f_), some (.inl sp_), some (.inl k_)], [.inl rs_], S_)) rfl ?_
          refine sm_T_b0 (a := 1) (z := 6) rfl (fun cx4_ => ?_) (fun cx4_ => ?_)
          · have cx4_ : rs_ ≠ 0 := of_decide_eq_true cx4_
            refine sm_T_inc (a := 3) (z := (-1)) (v := rs_) (w := rs_ - 1) rfl rfl (by omega) (by omega) (by omega) ?_ -- pc_ 111
            refine sm_T_inc (a := 4) (z := 1) (v := f_) (w := f_ + 1) rfl rfl (by omega) (by omega) (by omega) ?_ -- pc_ 114
            refine sm_T_go 1 (c1 := (5, [some (.inr (.inr (some (9, 0)))), some (.inr (.inr (some (2, cc_)))), some (.inl a2_), some (.inl (rs_ - 1)), some (.inl (f_ + 1)), some (.inl sp_), some (.inl k_)], [], S_)) rfl ?_
            refine sm_T_wk [some (.inr (.inr (some (9, 0)))), some (.inr (.inr (some (2, cc_)))), some (.inl a2_), some (.inl (rs_ - 1)), some (.inl (f_ + 1)), none, none] (by exact ⟨rfl, rfl, rfl, rfl, rfl, trivial⟩) ?_
            refine ih_.1 (rs_ - 1) (f_ + 1) S_ hI_ hF_ ⟨?_, ?_, ?_, ?_, trivial⟩ ?_
            · omega
            · have sb9_ := sn9_b (g_ := (fun f9_ => if sus9 P_ L_ fa_ f9_ = true then 1 else 0)) (M_ := 1) (fun k9_ => by (show (if _ then _ else _ : Nat) ≤ 1; split <;> decide)) f_.toNat
              first | (exfalso; omega) | (have u9_ := hq_.2 (by omega); rw [T9_, s9_, u9_, if_neg (by decide)]; omega) | (have y9_ := hq_.1 (by omega); have u9_ : sus9 P_ L_ fa_ f_.toNat = true := (by (unfold sus9; rw [decide_eq_true y9_.1, show L_.length = k_.toNat by omega, y9_.2]; rfl)); rw [T9_, s9_, u9_, if_pos rfl]; push_cast; omega)
            · exact hk_.2.1
            · exact hT_
            · omega
          · have cx4_ : ¬ (rs_ ≠ 0) := of_decide_eq_false cx4_
            refine sm_T_go 1 (c1 := (110, [some (.inr (.inr (some (9, 0)))), some (.inr (.inr (some (2, cc_)))), some (.inl a2_), some (.inl rs_), some (.inl f_), some (.inl sp_), some (.inl k_)], [.inl f_], S_)) rfl ?_
            refine sm_T_ri rfl ⟨_, _, rfl, _, rfl, hI_, hF_, ?_⟩
            have y9_ := hq_.1 (by omega)
            have u9_ : sus9 P_ L_ fa_ f_.toNat = true := by (unfold sus9; rw [decide_eq_true y9_.1, show L_.length = k_.toNat by omega, y9_.2]; rfl)
            exact ⟨hk_.2.1, hT_, Or.inr ⟨f_.toNat, by omega, by omega, u9_, by omega⟩⟩
      · have cx2_ : ¬ ((S_.1 2 cc_ 15) ≤ k_) := of_decide_eq_false cx2_
        refine sm_T_go 1 (c1 := (52, [some (.inr (.inr (some (9, 0)))), some (.inr (.inr (some (2, cc_)))), some (.inl a2_), some (.inl rs_), some (.inl f_), some (.inl sp_), some (.inl k_)], [.inl sp_], S_)) rfl ?_
        refine sm_T_b0 (a := 0) (z := 47) rfl (fun cx5_ => ?_) (fun cx5_ => ?_)
        · have cx5_ : sp_ = 0 := of_decide_eq_true cx5_
          refine sm_T_go 1 (c1 := (101, [some (.inr (.inr (some (9, 0)))), some (.inr (.inr (some (2, cc_)))), some (.inl a2_), some (.inl rs_), some (.inl f_), some (.inl sp_), some (.inl k_)], [.inl sp_], S_)) rfl ?_
          refine sm_T_b0 (a := 0) (z := 13) rfl (fun cx6_ => ?_) (fun cx6_ => ?_)
          · have cx6_ : sp_ = 0 := of_decide_eq_true cx6_
            refine sm_T_inc (a := 4) (z := 1) (v := f_) (w := f_ + 1) rfl rfl (by omega) (by omega) (by omega) ?_ -- pc_ 114
            refine sm_T_go 1 (c1 := (5, [some (.inr (.inr (some (9, 0)))), some (.inr (.inr (some (2, cc_)))), some (.inl a2_), some (.inl rs_), some (.inl (f_ + 1)), some (.inl sp_), some (.inl k_)], [], S_)) rfl ?_
            refine sm_T_wk [some (.inr (.inr (some (9, 0)))), some (.inr (.inr (some (2, cc_)))), some (.inl a2_), some (.inl rs_), some (.inl (f_ + 1)), none, none] (by exact ⟨rfl, rfl, rfl, rfl, rfl, trivial⟩) ?_
            refine ih_.1 rs_ (f_ + 1) S_ hI_ hF_ ⟨?_, ?_, ?_, ?_, trivial⟩ ?_
            · omega
            · have sb9_ := sn9_b (g_ := (fun f9_ => if sus9 P_ L_ fa_ f9_ = true then 1 else 0)) (M_ := 1) (fun k9_ => by (show (if _ then _ else _ : Nat) ≤ 1; split <;> decide)) f_.toNat
              first | (exfalso; omega) | (have u9_ := hq_.2 (by omega); rw [T9_, s9_, u9_, if_neg (by decide)]; omega) | (have y9_ := hq_.1 (by omega); have u9_ : sus9 P_ L_ fa_ f_.toNat = true := (by (unfold sus9; rw [decide_eq_true y9_.1, show L_.length = k_.toNat by omega, y9_.2]; rfl)); rw [T9_, s9_, u9_, if_pos rfl]; push_cast; omega)
            · exact hk_.2.1
            · exact hT_
            · omega
          · have cx6_ : ¬ (sp_ = 0) := of_decide_eq_false cx6_
            exfalso; omega
        · have cx5_ : ¬ (sp_ = 0) := of_decide_eq_false cx5_
          obtain ⟨x9_, x1_, x2_, x3_⟩ := tls_k (k_ := k_) tl9_ (by omega) (by omega)
          have cb9_ := cB_b tp9_.1
          have hq1_ := hq_.1 (by omega)
          refine sm_T_go 4 (c1 := (62, [some (.inr (.inr (some (9, 0)))), some (.inr (.inr (some (2, cc_)))), some (.inl a2_), some (.inl rs_), some (.inl f_), some (.inl sp_), some (.inl k_)], [.inl k_, .inr (.inr (some (40, (0 + cc_)))), .inr (.inr (some (9, 0)))], S_)) rfl ?_
          refine sm_T_iald (n := 1224) rfl rfl (by omega) (by omega) ?_
          have bx7_ : 0 ≤ S_.2.2.1 40 (0 + cc_) k_.toNat ∧ S_.2.2.1 40 (0 + cc_) k_.toNat ≤ 4095 := hI_.2 40 (0 + cc_) _
          refine sm_T_go 1 (c1 := (65, [some (.inr (.inr (some (9, 0)))), some (.inr (.inr (some (2, cc_)))), some (.inl a2_), some (.inl rs_), some (.inl f_), some (.inl sp_), some (.inl k_)], [.inl f_, .inl (S_.2.2.1 40 (0 + cc_) k_.toNat), .inr (.inr (some (9, 0)))], S_)) rfl ?_
          refine sm_T_cal (d1 := 0) (Q1 := vq_176n (S_.2.2.1 40 (0 + cc_) k_.toNat) f_ S_) rfl rfl (by decide) (vc_176n (S_.2.2.1 40 (0 + cc_) k_.toNat) f_ S_ hI_ (by omega) (by omega)) (fun u_ Sx8_ px11_ => ?_)
          obtain ⟨rfl, vx13_, rfl, px11_⟩ := px11_
          have i65_ := (px11_).1
          have j65_ : P_ f_.toNat x9_ = decide (vx13_ = 1) := by (have y8_ := (px11_).2; rw [x2_, Int.toNat_natCast] at y8_; exact (shk_P (p_ := x9_) (shU_fr hU_ hF_) hk_.2.2.1 (by omega) hk_.2.2.2 x3_).symm.trans y8_)
          have f65_ : fa_ k_.toNat = decide (S_.2.2.1 41 (0 + cc_) k_.toNat ≠ 0) := by (rw [g41_]; exact hfa_ k_.toNat (by omega))
          have q65_ : (P_ f_.toNat x9_ == fa_ k_.toNat) = true ↔ (vx13_ = 1 ↔ S_.2.2.1 41 (0 + cc_) k_.toNat ≠ 0) := by (rw [j65_, f65_]; exact ⟨fun h9_ => decide_eq_decide.mp (eq_of_beq h9_), fun h9_ => beq_iff_eq.mpr (decide_eq_decide.mpr h9_)⟩)
          have e65_ : ∀ b9_ : Bool, (P_ f_.toNat x9_ == fa_ k_.toNat) = b9_ → (b9_ = true → imq ((1 : Int) = 1) (0 < cn9 (P_ f_.toNat) L_ ∧ spr9 (fun k9_ => P_ f_.toNat (L_.getD k9_ 0) == fa_ k9_) (k_.toNat + 1) = true)) ∧ (b9_ = false → sus9 P_ L_ fa_ f_.toNat = false) := fun b9_ hb9_ => by
            refine ⟨fun q9_ _ => ⟨hq1_.1, spr9_s hq1_.2 ?_⟩, fun q9_ => ?_⟩
            · show (P_ f_.toNat (L_.getD k_.toNat 0) == fa_ k_.toNat) = true
              rw [gtD9 x1_, hb9_, q9_]
            · unfold sus9
              rw [spr9_f (Q_ := (fun k9_ => P_ f_.toNat (L_.getD k9_ 0) == fa_ k9_)) (m_ := k_.toNat) (show (P_ f_.toNat (L_.getD k_.toNat 0) == fa_ k_.toNat) = false by (rw [gtD9 x1_, hb9_, q9_])) (show k_.toNat < L_.length by omega), Bool.and_false]
          refine sm_T_go 3 (c1 := (74, [some (.inr (.inr (some (9, 0)))), some (.inr (.inr (some (2, cc_)))), some (.inl a2_), some (.inl rs_), some (.inl f_), some (.inl sp_), some (.inl k_)], [.inl k_, .inr (.inr (some (41, (0 + cc_)))), .inl vx13_], S_)) rfl ?_
          refine sm_T_iald (n := 1224) rfl rfl (by omega) (by omega) ?_
          have bx14_ : 0 ≤ S_.2.2.1 41 (0 + cc_) k_.toNat ∧ S_.2.2.1 41 (0 + cc_) k_.toNat ≤ 1 := hI_.2 41 (0 + cc_) _
          refine sm_T_b0 (a := 0) (z := 7) rfl (fun cx15_ => ?_) (fun cx15_ => ?_)
          · have cx15_ : (S_.2.2.1 41 (0 + cc_) k_.toNat) = 0 := of_decide_eq_true cx15_
            refine sm_T_go 1 (c1 := (83, [some (.inr (.inr (some (9, 0)))), some (.inr (.inr (some (2, cc_)))), some (.inl a2_), some (.inl rs_), some (.inl f_), some (.inl sp_), some (.inl k_)], [.inl 0, .inl vx13_], S_)) rfl ?_
            refine sm_T_br (a := 1) (z := 7) rfl (fun cx16_ => ?_) (fun cx16_ => ?_)
            · have cx16_ : vx13_ ≠ 0 := of_decide_eq_true cx16_
              refine sm_T_go 2 (c1 := (93, [some (.inr (.inr (some (9, 0)))), some (.inr (.inr (some (2, cc_)))), some (.inl a2_), some (.inl rs_), some (.inl f_), some (.inl 0), some (.inl k_)], [], S_)) rfl ?_
              refine sm_T_inc (a := 6) (z := 1) (v := k_) (w := k_ + 1) rfl rfl (by omega) (by omega) (by omega) ?_ -- pc_ 93
              refine sm_T_go 1 (c1 := (41, [some (.inr (.inr (some (9, 0)))), some (.inr (.inr (some (2, cc_)))), some (.inl a2_), some (.inl rs_), some (.inl f_), some (.inl 0), some (.inl (k_ + 1))], [], S_)) rfl ?_
              refine ih_.2 rs_ f_ 0 (k_ + 1) S_ hI_ hF_ ⟨?_, ?_, ?_, ?_, ?_, trivial⟩ ?_
              · omega
              · exact hc_
              · rw [T9k]
                first | exact ⟨(e65_ true (q65_.mpr (by omega))).1 rfl, fun q9_ => absurd q9_ (by decide)⟩ | exact ⟨fun q9_ => absurd q9_ (by decide), fun _ => (e65_ false (Bool.eq_false_iff.mpr (fun h9_ => by (have u9_ := q65_.mp h9_; omega)))).2 rfl⟩
              · exact hk_
              · exact hT_
              · omega
            · have cx16_ : ¬ (vx13_ ≠ 0) := of_decide_eq_false cx16_
              refine sm_T_go 3 (c1 := (93, [some (.inr (.inr (some (9, 0)))), some (.inr (.inr (some (2, cc_)))), some (.inl a2_), some (.inl rs_), some (.inl f_), some (.inl 1), some (.inl k_)], [], S_)) rfl ?_
              refine sm_T_inc (a := 6) (z := 1) (v := k_) (w := k_ + 1) rfl rfl (by omega) (by omega) (by omega) ?_ -- pc_ 93
              refine sm_T_go 1 (c1 := (41, [some (.inr (.inr (some (9, 0)))), some (.inr (.inr (some (2, cc_)))), some (.inl a2_), some (.inl rs_), some (.inl f_), some (.inl 1), some (.inl (k_ + 1))], [], S_)) rfl ?_
              refine ih_.2 rs_ f_ 1 (k_ + 1) S_ hI_ hF_ ⟨?_, ?_, ?_, ?_, ?_, trivial⟩ ?_
              · omega
              · exact hc_
              · rw [T9k]
                first | exact ⟨(e65_ true (q65_.mpr (by omega))).1 rfl, fun q9_ => absurd q9_ (by decide)⟩ | exact ⟨fun q9_ => absurd q9_ (by decide), fun _ => (e65_ false (Bool.eq_false_iff.mpr (fun h9_ => by (have u9_ := q65_.mp h9_; omega)))).2 rfl⟩
              · exact hk_
              · exact hT_
              · omega
          · have cx15_ : ¬ ((S_.2.2.1 41 (0 + cc_) k_.toNat) = 0) := of_decide_eq_false cx15_
            refine sm_T_go 2 (c1 := (83, [some (.inr (.inr (some (9, 0)))), some (.inr (.inr (some (2, cc_)))), some (.inl a2_), some (.inl rs_), some (.inl f_), some (.inl sp_), some (.inl k_)], [.inl 1, .inl vx13_], S_)) rfl ?_
            refine sm_T_br (a := 1) (z := 7) rfl (fun cx17_ => ?_) (fun cx17_ => ?_)
            · have cx17_ : vx13_ ≠ 1 := of_decide_eq_true cx17_
              refine sm_T_go 2 (c1 := (93, [some (.inr (.inr (some (9, 0)))), some (.inr (.inr (some (2, cc_)))), some (.inl a2_), some (.inl rs_), some (.inl f_), some (.inl 0), some (.inl k_)], [], S_)) rfl ?_
              refine sm_T_inc (a := 6) (z := 1) (v := k_) (w := k_ + 1) rfl rfl (by omega) (by omega) (by omega) ?_ -- pc_ 93
              refine sm_T_go 1 (c1 := (41, [some (.inr (.inr (some (9, 0)))), some (.inr (.inr (some (2, cc_)))), some (.inl a2_), some (.inl rs_), some (.inl f_), some (.inl 0), some (.inl (k_ + 1))], [], S_)) rfl ?_
              refine ih_.2 rs_ f_ 0 (k_ + 1) S_ hI_ hF_ ⟨?_, ?_, ?_, ?_, ?_, trivial⟩ ?_
              · omega
              · exact hc_
              · rw [T9k]
                first | exact ⟨(e65_ true (q65_.mpr (by omega))).1 rfl, fun q9_ => absurd q9_ (by decide)⟩ | exact ⟨fun q9_ => absurd q9_ (by decide), fun _ => (e65_ false (Bool.eq_false_iff.mpr (fun h9_ => by (have u9_ := q65_.mp h9_; omega)))).2 rfl⟩
              · exact hk_
              · exact hT_
              · omega
            · have cx17_ : ¬ (vx13_ ≠ 1) := of_decide_eq_false cx17_
              refine sm_T_go 3 (c1 := (93, [some (.inr (.inr (some (9, 0)))), some (.inr (.inr (some (2, cc_)))), some (.inl a2_), some (.inl rs_), some (.inl f_), some (.inl 1), some (.inl k_)], [], S_)) rfl ?_
              refine sm_T_inc (a := 6) (z := 1) (v := k_) (w := k_ + 1) rfl rfl (by omega) (by omega) (by omega) ?_ -- pc_ 93
              refine sm_T_go 1 (c1 := (41, [some (.inr (.inr (some (9, 0)))), some (.inr (.inr (some (2, cc_)))), some (.inl a2_), some (.inl rs_), some (.inl f_), some (.inl 1), some (.inl (k_ + 1))], [], S_)) rfl ?_
              refine ih_.2 rs_ f_ 1 (k_ + 1) S_ hI_ hF_ ⟨?_, ?_, ?_, ?_, ?_, trivial⟩ ?_
              · omega
              · exact hc_
              · rw [T9k]
                first | exact ⟨(e65_ true (q65_.mpr (by omega))).1 rfl, fun q9_ => absurd q9_ (by decide)⟩ | exact ⟨fun q9_ => absurd q9_ (by decide), fun _ => (e65_ false (Bool.eq_false_iff.mpr (fun h9_ => by (have u9_ := q65_.mp h9_; omega)))).2 rfl⟩
              · exact hk_
              · exact hT_
              · omega
set_option maxHeartbeats 400000 in
theorem vc_184n {sc_ : Nat × (Nat → Int)} (a2_ : Int) (cc_ : Nat) (P_ : Nat → Nat → Bool) (L_ : List Nat) (fa_ : Nat → Bool) (S0_ : sm_S) (hI_ : gi S0_) (htp_ : tpr cc_ S0_) (h2_ : 0 ≤ a2_ ∧ a2_ ≤ 2147483647) (hn_ : shn S0_) (hp_ : tkp cc_ S0_) (hU_ : shU cc_ S0_ P_) (hL_ : tls cc_ S0_ L_) (hfa_ : ∀ k9_ : Nat, (k9_ : Int) < S0_.1 2 cc_ 15 → fa_ k9_ = decide (S0_.2.2.1 41 (0 + cc_) k9_ ≠ 0)) : sm_T (mt_P sc_) 5 184 (0, [some (.inr (.inr (some (9, 0)))), some (.inr (.inr (some (2, cc_)))), some (.inl a2_), none, none, none, none], [], S0_) (fun ro9_ => ∃ u_ S1_, ro9_ = (.inl u_, S1_, 0) ∧ vq_184n a2_ cc_ P_ L_ fa_ S0_ u_ S1_) := by
  have hF_ : ai_fr (sx_W vw_184n) S0_ S0_ := ai_fr_rf
  have fq9_ := cfu_q9 hI_ htp_.1
  have fz9_ : 0 ≤ cfu9 cc_ S0_ := by (have y9_ := htp_.2.2; unfold cfu9 cnc; omega)
  refine sm_T_go 4 (c1 := (5, [some (.inr (.inr (some (9, 0)))), some (.inr (.inr (some (2, cc_)))), some (.inl a2_), some (.inl a2_), some (.inl 0), none, none], [], S0_)) rfl ?_
  refine (vl_184n a2_ cc_ P_ L_ fa_ S0_ htp_ h2_ hn_ hp_ hU_ hL_ hfa_ _).1 a2_ 0 S0_ hI_ hF_ ⟨?_, ?_, ?_, ?_, trivial⟩ (Nat.lt_succ_self _)
  · omega
  · (rw [show (0 : Int).toNat = 0 from rfl]; show a2_ = a2_ - ((0 : Nat) : Int) ∧ _; omega)
  · exact hn_
  · exact tkk_rf
