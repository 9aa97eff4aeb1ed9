/-! the reference: equal, never; written by wip/p55/gen/vg -/
/-! M_.layA -/
def vw_387w : sx_Wl := ([], [190, 191], [])
def vq_387w (d_ : Int) (S0_ : sm_S) (u_ : Option sm_V) (S1_ : sm_S) : Prop := u_ = none ∧ gi S1_ ∧ ai_fr (sx_W vw_387w) S0_ S1_ ∧ ((∀ p9_ : Nat, p9_ < 2 ^ ((S0_.2.2.1 154 0 d_.toNat).toNat + (S0_.2.2.1 155 0 d_.toNat).toNat) → 0 ≤ S1_.2.2.1 191 0 p9_ ∧ S1_.2.2.1 191 0 p9_ < 2 ^ (S0_.2.2.1 155 0 d_.toNat).toNat) ∧ (∀ p9_ : Nat, p9_ < 2 ^ ((S0_.2.2.1 154 0 d_.toNat).toNat + (S0_.2.2.1 155 0 d_.toNat).toNat) → S1_.2.2.1 190 0 p9_ = S0_.2.2.1 169 0 (4096 * d_.toNat + p9_) ∧ S1_.2.2.1 191 0 p9_ = S0_.2.2.1 170 0 (4096 * d_.toNat + p9_)))
set_option maxHeartbeats 400000 in
set_option maxRecDepth 20000 in
theorem vl_387w {sc_ : Nat × (Nat → Int)} (d_ : Int) (S0_ : sm_S) (hd_ : 0 ≤ d_ ∧ d_ ≤ 5) (hk_ : dRk d_.toNat S0_) : ∀ nn_ : Nat, (∀ (p_ : Int) (S_ : sm_S), gi S_ → ai_fr (sx_W vw_387w) S0_ S_ → ((0 ≤ p_ ∧ p_ ≤ 2 ^ ((S0_.2.2.1 154 0 d_.toNat).toNat + (S0_.2.2.1 155 0 d_.toNat).toNat)) ∧ (∀ p9_ : Nat, (p9_ : Int) < p_ → 0 ≤ S_.2.2.1 191 0 p9_ ∧ S_.2.2.1 191 0 p9_ < 2 ^ (S0_.2.2.1 155 0 d_.toNat).toNat) ∧ (∀ p9_ : Nat, (p9_ : Int) < p_ → S_.2.2.1 190 0 p9_ = S0_.2.2.1 169 0 (4096 * d_.toNat + p9_) ∧ S_.2.2.1 191 0 p9_ = S0_.2.2.1 170 0 (4096 * d_.toNat + p9_)) ∧ True) → ((5000 - p_).toNat) < nn_ → sm_T (mt_P sc_) 0 387 (2, [some (.inr (.inr (some (13, 0)))), some (.inl d_), some (.inl p_)], [], S_) (fun ro9_ => ∃ u_ S1_, ro9_ = (.inl u_, S1_, 0) ∧ vq_387w d_ S0_ u_ S1_)) := by
  intro nn_
  induction nn_ with
  | zero => exact fun _ _ _ _ _ h_ => absurd h_ (Nat.not_lt_zero _)
  | succ nn_ ih_ =>
    rintro p_ S_ hI_ hF_ ⟨h0_, h1_, h3_, -⟩ hm_
    obtain ⟨J1_, J2_, J3_, J4_⟩ := dRk_b hk_
    have w1_ := pw_le (n := (S0_.2.2.1 154 0 d_.toNat).toNat + (S0_.2.2.1 155 0 d_.toNat).toNat) (m := 12) (by omega)
    have w2_ := pw_pos ((S0_.2.2.1 154 0 d_.toNat).toNat + (S0_.2.2.1 155 0 d_.toNat).toNat)
    have w3_ : ((2 ^ ((S0_.2.2.1 154 0 d_.toNat).toNat + (S0_.2.2.1 155 0 d_.toNat).toNat) : Nat) : Int) = (2 : Int) ^ ((S0_.2.2.1 154 0 d_.toNat).toNat + (S0_.2.2.1 155 0 d_.toNat).toNat) := by push_cast; rfl
    have f154_ : S_.2.2.1 154 0 = S0_.2.2.1 154 0 := fr_arr hF_ rfl
    have f155_ : S_.2.2.1 155 0 = S0_.2.2.1 155 0 := fr_arr hF_ rfl
    have f169_ : S_.2.2.1 169 0 = S0_.2.2.1 169 0 := fr_arr hF_ rfl
    have f170_ : S_.2.2.1 170 0 = S0_.2.2.1 170 0 := fr_arr hF_ rfl
    have s9_ : i_shl 1 (S_.2.2.1 154 0 d_.toNat + S_.2.2.1 155 0 d_.toNat) = 2 ^ ((S0_.2.2.1 154 0 d_.toNat).toNat + (S0_.2.2.1 155 0 d_.toNat).toNat) := by (rw [f154_, f155_, i_shl1 (by omega) (by omega), show (S0_.2.2.1 154 0 d_.toNat + S0_.2.2.1 155 0 d_.toNat).toNat = (S0_.2.2.1 154 0 d_.toNat).toNat + (S0_.2.2.1 155 0 d_.toNat).toNat by omega])
    refine sm_T_go 5 (c1 := (9, [some (.inr (.inr (some (13, 0)))), some (.inl d_), some (.inl p_)], [.inl d_, .inr (.inr (some (154, 0))), .inl 1, .inl p_], S_)) rfl ?_
    refine sm_T_iald (n := 6) rfl rfl (by omega) (by omega) ?_
    have bx1_ : 0 ≤ S_.2.2.1 154 0 d_.toNat ∧ S_.2.2.1 154 0 d_.toNat ≤ 12 := hI_.2 154 0 _
    refine sm_T_go 3 (c1 := (15, [some (.inr (.inr (some (13, 0)))), some (.inl d_), some (.inl p_)], [.inl d_, .inr (.inr (some (155, 0))), .inl (S_.2.2.1 154 0 d_.toNat), .inl 1, .inl p_], S_)) rfl ?_
    refine sm_T_iald (n := 6) rfl rfl (by omega) (by omega) ?_
    have bx2_ : 0 ≤ S_.2.2.1 155 0 d_.toNat ∧ S_.2.2.1 155 0 d_.toNat ≤ 6 := hI_.2 155 0 _
    refine sm_T_bin (w := (S_.2.2.1 154 0 d_.toNat) + (S_.2.2.1 155 0 d_.toNat)) rfl (bi_add (by omega) (by omega) (by omega)) ?_ -- pc_ 16
    refine sm_T_bin (w := (i_shl 1 ((S_.2.2.1 154 0 d_.toNat) + (S_.2.2.1 155 0 d_.toNat)))) rfl rfl ?_ -- pc_ 17
    refine sm_T_br (a := 3) (z := 45) rfl (fun cx3_ => ?_) (fun cx3_ => ?_)
    · have cx3_ : (i_shl 1 ((S_.2.2.1 154 0 d_.toNat) + (S_.2.2.1 155 0 d_.toNat))) ≤ p_ := of_decide_eq_true cx3_
      refine sm_T_rv rfl ⟨_, _, rfl, rfl, hI_, hF_, ?_⟩
      exact ⟨fun p9_ hp9_ => h1_ p9_ (by omega), fun p9_ hp9_ => h3_ p9_ (by omega)⟩
    · have cx3_ : ¬ ((i_shl 1 ((S_.2.2.1 154 0 d_.toNat) + (S_.2.2.1 155 0 d_.toNat))) ≤ p_) := of_decide_eq_false cx3_
      have t9_ := J4_ p_.toNat (by omega)
      rw [← f170_, show 4096 * d_.toNat + p_.toNat = (4096 * d_ + p_).toNat by omega] at t9_
      refine sm_T_go 7 (c1 := (34, [some (.inr (.inr (some (13, 0)))), some (.inl d_), some (.inl p_)], [.inl d_, .inl 4096, .inr (.inr (some (169, 0))), .inl p_, .inr (.inr (some (190, 0)))], S_)) rfl ?_
      refine sm_T_bin (w := 4096 * d_) rfl (bi_mul (by omega) (by omega) (by omega)) ?_ -- pc_ 34
      refine sm_T_go 1 (c1 := (36, [some (.inr (.inr (some (13, 0)))), some (.inl d_), some (.inl p_)], [.inl p_, .inl (4096 * d_), .inr (.inr (some (169, 0))), .inl p_, .inr (.inr (some (190, 0)))], S_)) rfl ?_
      refine sm_T_bin (w := 4096 * d_ + p_) rfl (bi_add (by omega) (by omega) (by omega)) ?_ -- pc_ 36
      refine sm_T_iald (n := 24576) rfl rfl (by omega) (by omega) ?_
      have bx4_ : 0 ≤ S_.2.2.1 169 0 (4096 * d_ + p_).toNat ∧ S_.2.2.1 169 0 (4096 * d_ + p_).toNat ≤ 65535 := hI_.2 169 0 _
      refine sm_T_iast (n := 4096) rfl rfl (by omega) (by omega) ?_
      have hIx5_ : gi (sm_aI S_ 190 0 p_.toNat (S_.2.2.1 169 0 (4096 * d_ + p_).toNat)) := gi_aI hI_ (show 0 ≤ (S_.2.2.1 169 0 (4096 * d_ + p_).toNat) ∧ (S_.2.2.1 169 0 (4096 * d_ + p_).toNat) ≤ 65535 from ⟨by omega, by omega⟩)
      have hFx6_ : ai_fr (sx_W vw_387w) S0_ (sm_aI S_ 190 0 p_.toNat (S_.2.2.1 169 0 (4096 * d_ + p_).toNat)) := ai_fr_tr hF_ (ai_fr_aI rfl)
      refine sm_T_go 7 (c1 := (52, [some (.inr (.inr (some (13, 0)))), some (.inl d_), some (.inl p_)], [.inl d_, .inl 4096, .inr (.inr (some (170, 0))), .inl p_, .inr (.inr (some (191, 0)))], sm_aI S_ 190 0 p_.toNat (S_.2.2.1 169 0 (4096 * d_ + p_).toNat))) rfl ?_
      refine sm_T_bin (w := 4096 * d_) rfl (bi_mul (by omega) (by omega) (by omega)) ?_ -- pc_ 52
      refine sm_T_go 1 (c1 := (54, [some (.inr (.inr (some (13, 0)))), some (.inl d_), some (.inl p_)], [.inl p_, .inl (4096 * d_), .inr (.inr (some (170, 0))), .inl p_, .inr (.inr (some (191, 0)))], sm_aI S_ 190 0 p_.toNat (S_.2.2.1 169 0 (4096 * d_ + p_).toNat))) rfl ?_
      refine sm_T_bin (w := 4096 * d_ + p_) rfl (bi_add (by omega) (by omega) (by omega)) ?_ -- pc_ 54
      refine sm_T_iald (n := 24576) rfl rfl (by omega) (by omega) ?_
      have bx7_ : 0 ≤ S_.2.2.1 170 0 (4096 * d_ + p_).toNat ∧ S_.2.2.1 170 0 (4096 * d_ + p_).toNat ≤ 63 := hI_.2 170 0 _
      refine sm_T_go 0 (c1 := (56, [some (.inr (.inr (some (13, 0)))), some (.inl d_), some (.inl p_)], [.inl (S_.2.2.1 170 0 (4096 * d_ + p_).toNat), .inl p_, .inr (.inr (some (191, 0)))], sm_aI S_ 190 0 p_.toNat (S_.2.2.1 169 0 (4096 * d_ + p_).toNat))) rfl ?_
      refine sm_T_iast (n := 4096) rfl rfl (by omega) (by omega) ?_
      have hIx8_ : gi (sm_aI (sm_aI S_ 190 0 p_.toNat (S_.2.2.1 169 0 (4096 * d_ + p_).toNat)) 191 0 p_.toNat (S_.2.2.1 170 0 (4096 * d_ + p_).toNat)) := gi_aI hIx5_ (show 0 ≤ (S_.2.2.1 170 0 (4096 * d_ + p_).toNat) ∧ (S_.2.2.1 170 0 (4096 * d_ + p_).toNat) ≤ 63 from ⟨by omega, by omega⟩)
      have hFx9_ : ai_fr (sx_W vw_387w) S0_ (sm_aI (sm_aI S_ 190 0 p_.toNat (S_.2.2.1 169 0 (4096 * d_ + p_).toNat)) 191 0 p_.toNat (S_.2.2.1 170 0 (4096 * d_ + p_).toNat)) := ai_fr_tr hFx6_ (ai_fr_aI rfl)
      refine sm_T_inc (a := 2) (z := 1) (v := p_) (w := p_ + 1) rfl rfl (by omega) (by omega) (by omega) ?_ -- pc_ 57
      refine sm_T_go 1 (c1 := (2, [some (.inr (.inr (some (13, 0)))), some (.inl d_), some (.inl (p_ + 1))], [], sm_aI (sm_aI S_ 190 0 p_.toNat (S_.2.2.1 169 0 (4096 * d_ + p_).toNat)) 191 0 p_.toNat (S_.2.2.1 170 0 (4096 * d_ + p_).toNat))) rfl ?_
      refine ih_ (p_ + 1) (sm_aI (sm_aI S_ 190 0 p_.toNat (S_.2.2.1 169 0 (4096 * d_ + p_).toNat)) 191 0 p_.toNat (S_.2.2.1 170 0 (4096 * d_ + p_).toNat)) hIx8_ hFx9_ ⟨?_, ?_, ?_, trivial⟩ ?_
      · omega
      · intro p9_ hp9_
        rw [rd_eq]
        by_cases z9_ : p9_ = p_.toNat
        · rw [if_pos z9_]; first | exact t9_ | (rw [rd_ne (by decide)]; exact t9_)
        · rw [if_neg z9_, rd_ne (by decide)]; exact h1_ p9_ (by omega)
      · intro p9_ hp9_
        by_cases z9_ : p9_ = p_.toNat
        · have u9_ : 4096 * d_.toNat + p9_ = (4096 * d_ + p_).toNat := by omega
          rw [u9_, ← f169_, ← f170_]
          refine ⟨?_, ?_⟩
          · rw [rd_ne (by decide), rd_eq, if_pos z9_]
          · rw [rd_eq, if_pos z9_]; try (first | rfl | rw [rd_ne (by decide)])
        · have w9_ := h3_ p9_ (by omega)
          refine ⟨?_, ?_⟩
          · rw [rd_ne (by decide), rd_eq, if_neg z9_]; exact w9_.1
          · rw [rd_eq, if_neg z9_, rd_ne (by decide)]; exact w9_.2
      · omega
set_option maxHeartbeats 400000 in
set_option maxRecDepth 20000 in
theorem vc_387w {sc_ : Nat × (Nat → Int)} (d_ : Int) (S0_ : sm_S) (hI_ : gi S0_) (hd_ : 0 ≤ d_ ∧ d_ ≤ 5) (hk_ : dRk d_.toNat S0_) : sm_T (mt_P sc_) 0 387 (0, [some (.inr (.inr (some (13, 0)))), some (.inl d_), none], [], S0_) (fun ro9_ => ∃ u_ S1_, ro9_ = (.inl u_, S1_, 0) ∧ vq_387w d_ S0_ u_ S1_) := by
  have hF_ : ai_fr (sx_W vw_387w) S0_ S0_ := ai_fr_rf
  obtain ⟨J1_, J2_, J3_, J4_⟩ := dRk_b hk_
  have w1_ := pw_le (n := (S0_.2.2.1 154 0 d_.toNat).toNat + (S0_.2.2.1 155 0 d_.toNat).toNat) (m := 12) (by omega)
  have w2_ := pw_pos ((S0_.2.2.1 154 0 d_.toNat).toNat + (S0_.2.2.1 155 0 d_.toNat).toNat)
  have w3_ : ((2 ^ ((S0_.2.2.1 154 0 d_.toNat).toNat + (S0_.2.2.1 155 0 d_.toNat).toNat) : Nat) : Int) = (2 : Int) ^ ((S0_.2.2.1 154 0 d_.toNat).toNat + (S0_.2.2.1 155 0 d_.toNat).toNat) := by push_cast; rfl
  refine sm_T_go 2 (c1 := (2, [some (.inr (.inr (some (13, 0)))), some (.inl d_), some (.inl 0)], [], S0_)) rfl ?_
  refine (vl_387w d_ S0_ hd_ hk_ _) 0 S0_ hI_ hF_ ⟨?_, ?_, ?_, trivial⟩ (Nat.lt_succ_self _)
  · omega
  · (intro p9_ hp9_; exfalso; omega)
  · (intro p9_ hp9_; exfalso; omega)
/-! M_.layB -/
def vw_388w : sx_Wl := ([], [192, 193], [])
def vq_388w (d_ : Int) (S0_ : sm_S) (u_ : Option sm_V) (S1_ : sm_S) : Prop := u_ = none ∧ gi S1_ ∧ ai_fr (sx_W vw_388w) S0_ S1_ ∧ ((∀ p9_ : Nat, p9_ < 2 ^ ((S0_.2.2.1 154 0 d_.toNat).toNat + (S0_.2.2.1 155 0 d_.toNat).toNat) → 0 ≤ S1_.2.2.1 193 0 p9_ ∧ S1_.2.2.1 193 0 p9_ < 2 ^ (S0_.2.2.1 155 0 d_.toNat).toNat) ∧ (∀ p9_ : Nat, p9_ < 2 ^ ((S0_.2.2.1 154 0 d_.toNat).toNat + (S0_.2.2.1 155 0 d_.toNat).toNat) → S1_.2.2.1 192 0 p9_ = S0_.2.2.1 169 0 (4096 * d_.toNat + p9_) ∧ S1_.2.2.1 193 0 p9_ = S0_.2.2.1 170 0 (4096 * d_.toNat + p9_)))
set_option maxHeartbeats 400000 in
set_option maxRecDepth 20000 in
theorem vl_388w {sc_ : Nat × (Nat → Int)} (d_ : Int) (S0_ : sm_S) (hd_ : 0 ≤ d_ ∧ d_ ≤ 5) (hk_ : dRk d_.toNat S0_) : ∀ nn_ : Nat, (∀ (p_ : Int) (S_ : sm_S), gi S_ → ai_fr (sx_W vw_388w) S0_ S_ → ((0 ≤ p_ ∧ p_ ≤ 2 ^ ((S0_.2.2.1 154 0 d_.toNat).toNat + (S0_.2.2.1 155 0 d_.toNat).toNat)) ∧ (∀ p9_ : Nat, (p9_ : Int) < p_ → 0 ≤ S_.2.2.1 193 0 p9_ ∧ S_.2.2.1 193 0 p9_ < 2 ^ (S0_.2.2.1 155 0 d_.toNat).toNat) ∧ (∀ p9_ : Nat, (p9_ : Int) < p_ → S_.2.2.1 192 0 p9_ = S0_.2.2.1 169 0 (4096 * d_.toNat + p9_) ∧ S_.2.2.1 193 0 p9_ = S0_.2.2.1 170 0 (4096 * d_.toNat + p9_)) ∧ True) → ((5000 - p_).toNat) < nn_ → sm_T (mt_P sc_) 0 388 (2, [some (.inr (.inr (some (13, 0)))), some (.inl d_), some (.inl p_)], [], S_) (fun ro9_ => ∃ u_ S1_, ro9_ = (.inl u_, S1_, 0) ∧ vq_388w d_ S0_ u_ S1_)) := by
  intro nn_
  induction nn_ with
  | zero => exact fun _ _ _ _ _ h_ => absurd h_ (Nat.not_lt_zero _)
  | succ nn_ ih_ =>
    rintro p_ S_ hI_ hF_ ⟨h0_, h1_, h3_, -⟩ hm_
    obtain ⟨J1_, J2_, J3_, J4_⟩ := dRk_b hk_
    have w1_ := pw_le (n := (S0_.2.2.1 154 0 d_.toNat).toNat + (S0_.2.2.1 155 0 d_.toNat).toNat) (m := 12) (by omega)
    have w2_ := pw_pos ((S0_.2.2.1 154 0 d_.toNat).toNat + (S0_.2.2.1 155 0 d_.toNat).toNat)
    have w3_ : ((2 ^ ((S0_.2.2.1 154 0 d_.toNat).toNat + (S0_.2.2.1 155 0 d_.toNat).toNat) : Nat) : Int) = (2 : Int) ^ ((S0_.2.2.1 154 0 d_.toNat).toNat + (S0_.2.2.1 155 0 d_.toNat).toNat) := by push_cast; rfl
    have f154_ : S_.2.2.1 154 0 = S0_.2.2.1 154 0 := fr_arr hF_ rfl
    have f155_ : S_.2.2.1 155 0 = S0_.2.2.1 155 0 := fr_arr hF_ rfl
    have f169_ : S_.2.2.1 169 0 = S0_.2.2.1 169 0 := fr_arr hF_ rfl
    have f170_ : S_.2.2.1 170 0 = S0_.2.2.1 170 0 := fr_arr hF_ rfl
    have s9_ : i_shl 1 (S_.2.2.1 154 0 d_.toNat + S_.2.2.1 155 0 d_.toNat) = 2 ^ ((S0_.2.2.1 154 0 d_.toNat).toNat + (S0_.2.2.1 155 0 d_.toNat).toNat) := by (rw [f154_, f155_, i_shl1 (by omega) (by omega), show (S0_.2.2.1 154 0 d_.toNat + S0_.2.2.1 155 0 d_.toNat).toNat = (S0_.2.2.1 154 0 d_.toNat).toNat + (S0_.2.2.1 155 0 d_.toNat).toNat by omega])
    refine sm_T_go 5 (c1 := (9, [some (.inr (.inr (some (13, 0)))), some (.inl d_), some (.inl p_)], [.inl d_, .inr (.inr (some (154, 0))), .inl 1, .inl p_], S_)) rfl ?_
    refine sm_T_iald (n := 6) rfl rfl (by omega) (by omega) ?_
    have bx1_ : 0 ≤ S_.2.2.1 154 0 d_.toNat ∧ S_.2.2.1 154 0 d_.toNat ≤ 12 := hI_.2 154 0 _
    refine sm_T_go 3 (c1 := (15, [some (.inr (.inr (some (13, 0)))), some (.inl d_), some (.inl p_)], [.inl d_, .inr (.inr (some (155, 0))), .inl (S_.2.2.1 154 0 d_.toNat), .inl 1, .inl p_], S_)) rfl ?_
    refine sm_T_iald (n := 6) rfl rfl (by omega) (by omega) ?_
    have bx2_ : 0 ≤ S_.2.2.1 155 0 d_.toNat ∧ S_.2.2.1 155 0 d_.toNat ≤ 6 := hI_.2 155 0 _
    refine sm_T_bin (w := (S_.2.2.1 154 0 d_.toNat) + (S_.2.2.1 155 0 d_.toNat)) rfl (bi_add (by omega) (by omega) (by omega)) ?_ -- pc_ 16
    refine sm_T_bin (w := (i_shl 1 ((S_.2.2.1 154 0 d_.toNat) + (S_.2.2.1 155 0 d_.toNat)))) rfl rfl ?_ -- pc_ 17
    refine sm_T_br (a := 3) (z := 45) rfl (fun cx3_ => ?_) (fun cx3_ => ?_)
    · have cx3_ : (i_shl 1 ((S_.2.2.1 154 0 d_.toNat) + (S_.2.2.1 155 0 d_.toNat))) ≤ p_ := of_decide_eq_true cx3_
      refine sm_T_rv rfl ⟨_, _, rfl, rfl, hI_, hF_, ?_⟩
      exact ⟨fun p9_ hp9_ => h1_ p9_ (by omega), fun p9_ hp9_ => h3_ p9_ (by omega)⟩
    · have cx3_ : ¬ ((i_shl 1 ((S_.2.2.1 154 0 d_.toNat) + (S_.2.2.1 155 0 d_.toNat))) ≤ p_) := of_decide_eq_false cx3_
      have t9_ := J4_ p_.toNat (by omega)
      rw [← f170_, show 4096 * d_.toNat + p_.toNat = (4096 * d_ + p_).toNat by omega] at t9_
      refine sm_T_go 7 (c1 := (34, [some (.inr (.inr (some (13, 0)))), some (.inl d_), some (.inl p_)], [.inl d_, .inl 4096, .inr (.inr (some (169, 0))), .inl p_, .inr (.inr (some (192, 0)))], S_)) rfl ?_
      refine sm_T_bin (w := 4096 * d_) rfl (bi_mul (by omega) (by omega) (by omega)) ?_ -- pc_ 34
      refine sm_T_go 1 (c1 := (36, [some (.inr (.inr (some (13, 0)))), some (.inl d_), some (.inl p_)], [.inl p_, .inl (4096 * d_), .inr (.inr (some (169, 0))), .inl p_, .inr (.inr (some (192, 0)))], S_)) rfl ?_
      refine sm_T_bin (w := 4096 * d_ + p_) rfl (bi_add (by omega) (by omega) (by omega)) ?_ -- pc_ 36
      refine sm_T_iald (n := 24576) rfl rfl (by omega) (by omega) ?_
      have bx4_ : 0 ≤ S_.2.2.1 169 0 (4096 * d_ + p_).toNat ∧ S_.2.2.1 169 0 (4096 * d_ + p_).toNat ≤ 65535 := hI_.2 169 0 _
      refine sm_T_iast (n := 4096) rfl rfl (by omega) (by omega) ?_
      have hIx5_ : gi (sm_aI S_ 192 0 p_.toNat (S_.2.2.1 169 0 (4096 * d_ + p_).toNat)) := gi_aI hI_ (show 0 ≤ (S_.2.2.1 169 0 (4096 * d_ + p_).toNat) ∧ (S_.2.2.1 169 0 (4096 * d_ + p_).toNat) ≤ 65535 from ⟨by omega, by omega⟩)
      have hFx6_ : ai_fr (sx_W vw_388w) S0_ (sm_aI S_ 192 0 p_.toNat (S_.2.2.1 169 0 (4096 * d_ + p_).toNat)) := ai_fr_tr hF_ (ai_fr_aI rfl)
      refine sm_T_go 7 (c1 := (52, [some (.inr (.inr (some (13, 0)))), some (.inl d_), some (.inl p_)], [.inl d_, .inl 4096, .inr (.inr (some (170, 0))), .inl p_, .inr (.inr (some (193, 0)))], sm_aI S_ 192 0 p_.toNat (S_.2.2.1 169 0 (4096 * d_ + p_).toNat))) rfl ?_
      refine sm_T_bin (w := 4096 * d_) rfl (bi_mul (by omega) (by omega) (by omega)) ?_ -- pc_ 52
      refine sm_T_go 1 (c1 := (54, [some (.inr (.inr (some (13, 0)))), some (.inl d_), some (.inl p_)], [.inl p_, .inl (4096 * d_), .inr (.inr (some (170, 0))), .inl p_, .inr (.inr (some (193, 0)))], sm_aI S_ 192 0 p_.toNat (S_.2.2.1 169 0 (4096 * d_ + p_).toNat))) rfl ?_
      refine sm_T_bin (w := 4096 * d_ + p_) rfl (bi_add (by omega) (by omega) (by omega)) ?_ -- pc_ 54
      refine sm_T_iald (n := 24576) rfl rfl (by omega) (by omega) ?_
      have bx7_ : 0 ≤ S_.2.2.1 170 0 (4096 * d_ + p_).toNat ∧ S_.2.2.1 170 0 (4096 * d_ + p_).toNat ≤ 63 := hI_.2 170 0 _
      refine sm_T_go 0 (c1 := (56, [some (.inr (.inr (some (13, 0)))), some (.inl d_), some (.inl p_)], [.inl (S_.2.2.1 170 0 (4096 * d_ + p_).toNat), .inl p_, .inr (.inr (some (193, 0)))], sm_aI S_ 192 0 p_.toNat (S_.2.2.1 169 0 (4096 * d_ + p_).toNat))) rfl ?_
      refine sm_T_iast (n := 4096) rfl rfl (by omega) (by omega) ?_
      have hIx8_ : gi (sm_aI (sm_aI S_ 192 0 p_.toNat (S_.2.2.1 169 0 (4096 * d_ + p_).toNat)) 193 0 p_.toNat (S_.2.2.1 170 0 (4096 * d_ + p_).toNat)) := gi_aI hIx5_ (show 0 ≤ (S_.2.2.1 170 0 (4096 * d_ + p_).toNat) ∧ (S_.2.2.1 170 0 (4096 * d_ + p_).toNat) ≤ 63 from ⟨by omega, by omega⟩)
      have hFx9_ : ai_fr (sx_W vw_388w) S0_ (sm_aI (sm_aI S_ 192 0 p_.toNat (S_.2.2.1 169 0 (4096 * d_ + p_).toNat)) 193 0 p_.toNat (S_.2.2.1 170 0 (4096 * d_ + p_).toNat)) := ai_fr_tr hFx6_ (ai_fr_aI rfl)
      refine sm_T_inc (a := 2) (z := 1) (v := p_) (w := p_ + 1) rfl rfl (by omega) (by omega) (by omega) ?_ -- pc_ 57
      refine sm_T_go 1 (c1 := (2, [some (.inr (.inr (some (13, 0)))), some (.inl d_), some (.inl (p_ + 1))], [], sm_aI (sm_aI S_ 192 0 p_.toNat (S_.2.2.1 169 0 (4096 * d_ + p_).toNat)) 193 0 p_.toNat (S_.2.2.1 170 0 (4096 * d_ + p_).toNat))) rfl ?_
      refine ih_ (p_ + 1) (sm_aI (sm_aI S_ 192 0 p_.toNat (S_.2.2.1 169 0 (4096 * d_ + p_).toNat)) 193 0 p_.toNat (S_.2.2.1 170 0 (4096 * d_ + p_).toNat)) hIx8_ hFx9_ ⟨?_, ?_, ?_, trivial⟩ ?_
      · omega
      · intro p9_ hp9_
        rw [rd_eq]
        by_cases z9_ : p9_ = p_.toNat
        · rw [if_pos z9_]; first | exact t9_ | (rw [rd_ne (by decide)]; exact t9_)
        · rw [if_neg z9_, rd_ne (by decide)]; exact h1_ p9_ (by omega)
      · intro p9_ hp9_
        by_cases z9_ : p9_ = p_.toNat
        · have u9_ : 4096 * d_.toNat + p9_ = (4096 * d_ + p_).toNat := by omega
          rw [u9_, ← f169_, ← f170_]
          refine ⟨?_, ?_⟩
          · rw [rd_ne (by decide), rd_eq, if_pos z9_]
          · rw [rd_eq, if_pos z9_]; try (first | rfl | rw [rd_ne (by decide)])
        · have w9_ := h3_ p9_ (by omega)
          refine ⟨?_, ?_⟩
          · rw [rd_ne (by decide), rd_eq, if_neg z9_]; exact w9_.1
          · rw [rd_eq, if_neg z9_, rd_ne (by decide)]; exact w9_.2
      · omega
set_option maxHeartbeats 400000 in
set_option maxRecDepth 20000 in
theorem vc_388w {sc_ : Nat × (Nat → Int)} (d_ : Int) (S0_ : sm_S) (hI_ : gi S0_) (hd_ : 0 ≤ d_ ∧ d_ ≤ 5) (hk_ : dRk d_.toNat S0_) : sm_T (mt_P sc_) 0 388 (0, [some (.inr (.inr (some (13, 0)))), some (.inl d_), none], [], S0_) (fun ro9_ => ∃ u_ S1_, ro9_ = (.inl u_, S1_, 0) ∧ vq_388w d_ S0_ u_ S1_) := by
  have hF_ : ai_fr (sx_W vw_388w) S0_ S0_ := ai_fr_rf
  obtain ⟨J1_, J2_, J3_, J4_⟩ := dRk_b hk_
  have w1_ := pw_le (n := (S0_.2.2.1 154 0 d_.toNat).toNat + (S0_.2.2.1 155 0 d_.toNat).toNat) (m := 12) (by omega)
  have w2_ := pw_pos ((S0_.2.2.1 154 0 d_.toNat).toNat + (S0_.2.2.1 155 0 d_.toNat).toNat)
  have w3_ : ((2 ^ ((S0_.2.2.1 154 0 d_.toNat).toNat + (S0_.2.2.1 155 0 d_.toNat).toNat) : Nat) : Int) = (2 : Int) ^ ((S0_.2.2.1 154 0 d_.toNat).toNat + (S0_.2.2.1 155 0 d_.toNat).toNat) := by push_cast; rfl
  refine sm_T_go 2 (c1 := (2, [some (.inr (.inr (some (13, 0)))), some (.inl d_), some (.inl 0)], [], S0_)) rfl ?_
  refine (vl_388w d_ S0_ hd_ hk_ _) 0 S0_ hI_ hF_ ⟨?_, ?_, ?_, trivial⟩ (Nat.lt_succ_self _)
  · omega
  · (intro p9_ hp9_; exfalso; omega)
  · (intro p9_ hp9_; exfalso; omega)
def ora_equal (a1_ a2_ : Int) (S_ : sm_S) : Prop := (0 ≤ a1_ ∧ a1_ < 6 ∧ S_.2.2.1 153 0 a1_.toNat = 1) ∧ (0 ≤ a2_ ∧ a2_ < 6 ∧ S_.2.2.1 153 0 a2_.toNat = 1)
def okr_equal (a1_ a2_ : Int) (S_ : sm_S) : Prop := ora_equal a1_ a2_ S_ ∧ (S_.2.2.1 154 0 a1_.toNat = S_.2.2.1 154 0 a2_.toNat ∧ S_.2.2.1 156 0 a1_.toNat = S_.2.2.1 156 0 a2_.toNat)
def spr_equal (a1_ a2_ : Int) (S_ : sm_S) (v_ : Int) : Prop := bfsp (S_.2.2.1 154 0 a1_.toNat).toNat (neD (fun p_ => S_.2.2.1 169 0 (4096 * a1_.toNat + p_)) (fun p_ => S_.2.2.1 169 0 (4096 * a2_.toNat + p_))) (fun p_ => S_.2.2.1 170 0 (4096 * a1_.toNat + p_)) (fun p_ => S_.2.2.1 170 0 (4096 * a2_.toNat + p_)) (S_.2.2.1 157 0 a1_.toNat).toNat (S_.2.2.1 157 0 a2_.toNat).toNat v_
/-! M_.equal -/
def vw_389t : sx_Wl := ([(13, 0), (13, 95)], [189, 190, 191, 192, 193, 194, 195, 196, 197, 198], [])
def vq_389t (a1_ : Int) (a2_ : Int) (S0_ : sm_S) (u_ : Option sm_V) (S1_ : sm_S) : Prop := ∃ v_ : Int, u_ = some (.inl v_) ∧ gi S1_ ∧ ai_fr (sx_W vw_389t) S0_ S1_ ∧ (((-2147483648) ≤ v_ ∧ v_ ≤ 2147483647) ∧ (jR S1_ ∧ ((S1_.1 13 0 0 = 1 ∧ ¬ ora_equal a1_ a2_ S0_) ∨ (S1_.1 13 0 0 = 2 ∧ ora_equal a1_ a2_ S0_ ∧ ¬ okr_equal a1_ a2_ S0_) ∨ (S1_.1 13 0 0 = 0 ∧ okr_equal a1_ a2_ S0_ ∧ spr_equal a1_ a2_ S0_ v_))))
set_option maxHeartbeats 400000 in
set_option maxRecDepth 20000 in
theorem vc_389t {sc_ : Nat × (Nat → Int)} (a1_ : Int) (a2_ : Int) (S0_ : sm_S) (hI_ : gi S0_) (ha1_ : (-2147483648) ≤ a1_ ∧ a1_ ≤ 2147483647) (ha2_ : (-2147483648) ≤ a2_ ∧ a2_ ≤ 2147483647) (hJ_ : jR S0_) : sm_T (mt_P sc_) 2 389 (0, [some (.inr (.inr (some (13, 0)))), some (.inl a1_), some (.inl a2_)], [], S0_) (fun ro9_ => ∃ u_ S1_, ro9_ = (.inl u_, S1_, 0) ∧ vq_389t a1_ a2_ S0_ u_ S1_) := by
  have hF_ : ai_fr (sx_W vw_389t) S0_ S0_ := ai_fr_rf
  refine sm_T_go 3 (c1 := (3, [some (.inr (.inr (some (13, 0)))), some (.inl a1_), some (.inl a2_)], [.inl a1_, .inr (.inr (some (13, 0))), .inr (.inr (some (13, 0)))], S0_)) rfl ?_
  refine sm_T_cal (d1 := 0) (Q1 := vq_369 a1_ S0_) rfl rfl (by decide) (vc_369 a1_ S0_ hI_ (by omega)) (fun u_ Sx1_ px4_ => ?_)
  obtain ⟨rfl, vx6_, rfl, px4_⟩ := px4_
  have d3_ := px4_
  refine sm_T_b0 (a := 0) (z := 11) rfl (fun cx7_ => ?_) (fun cx7_ => ?_)
  · have cx7_ : vx6_ = 0 := of_decide_eq_true cx7_
    have hIx8_ : gi (sm_pI S0_ 13 0 0 1) := gi_pI hI_ (show 0 ≤ 1 ∧ 1 ≤ 4 from ⟨by omega, by omega⟩)
    have hFx9_ : ai_fr (sx_W vw_389t) S0_ (sm_pI S0_ 13 0 0 1) := ai_fr_tr hF_ (ai_fr_pI rfl)
    refine sm_T_go 7 (c1 := (67, [some (.inr (.inr (some (13, 0)))), some (.inl a1_), some (.inl a2_)], [.inl 0], sm_pI S0_ 13 0 0 1)) rfl ?_
    refine sm_T_ri rfl ⟨_, _, rfl, _, rfl, hIx8_, hFx9_, ?_⟩
    refine ⟨⟨by omega, by omega⟩, jR_fr hJ_ hIx8_ hFx9_, ?_⟩
    first | exact Or.inl ⟨rf_eq, by (unfold ora_equal; omega)⟩ | exact Or.inr (Or.inl ⟨rf_eq, by (unfold ora_equal; omega), by (unfold okr_equal ora_equal; omega)⟩) | exact Or.inr (Or.inr ⟨cd97_, by (unfold okr_equal ora_equal; omega), sr97_⟩)
  · have cx7_ : ¬ (vx6_ = 0) := of_decide_eq_false cx7_
    refine sm_T_go 2 (c1 := (11, [some (.inr (.inr (some (13, 0)))), some (.inl a1_), some (.inl a2_)], [.inl a2_, .inr (.inr (some (13, 0))), .inr (.inr (some (13, 0)))], S0_)) rfl ?_
    refine sm_T_cal (d1 := 0) (Q1 := vq_369 a2_ S0_) rfl rfl (by decide) (vc_369 a2_ S0_ hI_ (by omega)) (fun u_ Sx10_ px13_ => ?_)
    obtain ⟨rfl, vx15_, rfl, px13_⟩ := px13_
    have d11_ := px13_
    refine sm_T_b0 (a := 1) (z := 7) rfl (fun cx16_ => ?_) (fun cx16_ => ?_)
    · have cx16_ : vx15_ ≠ 0 := of_decide_eq_true cx16_
      refine sm_T_go 3 (c1 := (26, [some (.inr (.inr (some (13, 0)))), some (.inl a1_), some (.inl a2_)], [.inl a1_, .inr (.inr (some (154, 0))), .inr (.inr (some (13, 0)))], S0_)) rfl ?_
      refine sm_T_iald (n := 6) rfl rfl (by omega) (by omega) ?_
      have bx17_ : 0 ≤ S0_.2.2.1 154 0 a1_.toNat ∧ S0_.2.2.1 154 0 a1_.toNat ≤ 12 := hI_.2 154 0 _
      refine sm_T_go 3 (c1 := (32, [some (.inr (.inr (some (13, 0)))), some (.inl a1_), some (.inl a2_)], [.inl a2_, .inr (.inr (some (154, 0))), .inl (S0_.2.2.1 154 0 a1_.toNat), .inr (.inr (some (13, 0)))], S0_)) rfl ?_
      refine sm_T_iald (n := 6) rfl rfl (by omega) (by omega) ?_
      have bx18_ : 0 ≤ S0_.2.2.1 154 0 a2_.toNat ∧ S0_.2.2.1 154 0 a2_.toNat ≤ 12 := hI_.2 154 0 _
      refine sm_T_br (a := 1) (z := 18) rfl (fun cx19_ => ?_) (fun cx19_ => ?_)
      · have cx19_ : (S0_.2.2.1 154 0 a1_.toNat) ≠ (S0_.2.2.1 154 0 a2_.toNat) := of_decide_eq_true cx19_
        have hIx20_ : gi (sm_pI S0_ 13 0 0 2) := gi_pI hI_ (show 0 ≤ 2 ∧ 2 ≤ 4 from ⟨by omega, by omega⟩)
        have hFx21_ : ai_fr (sx_W vw_389t) S0_ (sm_pI S0_ 13 0 0 2) := ai_fr_tr hF_ (ai_fr_pI rfl)
        refine sm_T_go 7 (c1 := (67, [some (.inr (.inr (some (13, 0)))), some (.inl a1_), some (.inl a2_)], [.inl 0], sm_pI S0_ 13 0 0 2)) rfl ?_
        refine sm_T_ri rfl ⟨_, _, rfl, _, rfl, hIx20_, hFx21_, ?_⟩
        refine ⟨⟨by omega, by omega⟩, jR_fr hJ_ hIx20_ hFx21_, ?_⟩
        first | exact Or.inl ⟨rf_eq, by (unfold ora_equal; omega)⟩ | exact Or.inr (Or.inl ⟨rf_eq, by (unfold ora_equal; omega), by (unfold okr_equal ora_equal; omega)⟩) | exact Or.inr (Or.inr ⟨cd97_, by (unfold okr_equal ora_equal; omega), sr97_⟩)
      · have cx19_ : ¬ ((S0_.2.2.1 154 0 a1_.toNat) ≠ (S0_.2.2.1 154 0 a2_.toNat)) := of_decide_eq_false cx19_
        refine sm_T_go 3 (c1 := (41, [some (.inr (.inr (some (13, 0)))), some (.inl a1_), some (.inl a2_)], [.inl a1_, .inr (.inr (some (156, 0))), .inr (.inr (some (13, 0)))], S0_)) rfl ?_
        refine sm_T_iald (n := 6) rfl rfl (by omega) (by omega) ?_
        have bx22_ : 0 ≤ S0_.2.2.1 156 0 a1_.toNat ∧ S0_.2.2.1 156 0 a1_.toNat ≤ 16 := hI_.2 156 0 _
        refine sm_T_go 3 (c1 := (47, [some (.inr (.inr (some (13, 0)))), some (.inl a1_), some (.inl a2_)], [.inl a2_, .inr (.inr (some (156, 0))), .inl (S0_.2.2.1 156 0 a1_.toNat), .inr (.inr (some (13, 0)))], S0_)) rfl ?_
        refine sm_T_iald (n := 6) rfl rfl (by omega) (by omega) ?_
        have bx23_ : 0 ≤ S0_.2.2.1 156 0 a2_.toNat ∧ S0_.2.2.1 156 0 a2_.toNat ≤ 16 := hI_.2 156 0 _
        refine sm_T_br (a := 0) (z := 7) rfl (fun cx24_ => ?_) (fun cx24_ => ?_)
        · have cx24_ : (S0_.2.2.1 156 0 a1_.toNat) = (S0_.2.2.1 156 0 a2_.toNat) := of_decide_eq_true cx24_
          have Da1_ : dRk a1_.toNat S0_ := hJ_.1 a1_.toNat (by omega) (by omega)
          have Da2_ : dRk a2_.toNat S0_ := hJ_.1 a2_.toNat (by omega) (by omega)
          obtain ⟨Ja11_, Ja12_, Ja13_, Ja14_⟩ := dRk_b Da1_
          obtain ⟨Ja21_, Ja22_, Ja23_, Ja24_⟩ := dRk_b Da2_
          have hIx25_ : gi (sm_pI S0_ 13 0 0 0) := gi_pI hI_ (show 0 ≤ 0 ∧ 0 ≤ 4 from ⟨by omega, by omega⟩)
          have hFx26_ : ai_fr (sx_W vw_389t) S0_ (sm_pI S0_ 13 0 0 0) := ai_fr_tr hF_ (ai_fr_pI rfl)
          refine sm_T_go 7 (c1 := (70, [some (.inr (.inr (some (13, 0)))), some (.inl a1_), some (.inl a2_)], [.inl a1_, .inr (.inr (some (13, 0)))], sm_pI S0_ 13 0 0 0)) rfl ?_
          refine sm_T_cal (d1 := 0) (Q1 := vq_387w a1_ (sm_pI S0_ 13 0 0 0)) rfl rfl (by decide) (vc_387w a1_ (sm_pI S0_ 13 0 0 0) hIx25_ (by omega) (by exact dRk_fr Da1_ hFx26_ (by decide))) (fun u_ Sx27_ px30_ => ?_)
          obtain ⟨rfl, hIx28_, hFx29_, px30_⟩ := px30_
          have hFx31_ : ai_fr (sx_W vw_389t) S0_ Sx27_ := ai_fr_tr hFx26_ (fr_le hFx29_ rfl)
          have t70_ := (px30_).1
          have cd70_ : Sx27_.1 13 0 0 = 0 := (hFx29_.1 13 0 0 rfl).trans rf_eq
          have l70_ := (px30_).2
          have u70_ : Sx27_.2.2.1 169 0 = S0_.2.2.1 169 0 := fr_arr hFx31_ rfl
          have u71_ : Sx27_.2.2.1 170 0 = S0_.2.2.1 170 0 := fr_arr hFx31_ rfl
          have g154_ : Sx27_.2.2.1 154 0 = S0_.2.2.1 154 0 := fr_arr hFx31_ rfl
          have g155_ : Sx27_.2.2.1 155 0 = S0_.2.2.1 155 0 := fr_arr hFx31_ rfl
          refine sm_T_go 2 (c1 := (75, [some (.inr (.inr (some (13, 0)))), some (.inl a1_), some (.inl a2_)], [.inl a2_, .inr (.inr (some (13, 0)))], Sx27_)) rfl ?_
          refine sm_T_cal (d1 := 0) (Q1 := vq_388w a2_ Sx27_) rfl rfl (by decide) (vc_388w a2_ Sx27_ hIx28_ (by omega) (by exact dRk_fr Da2_ hFx31_ (by decide))) (fun u_ Sx32_ px35_ => ?_)
          obtain ⟨rfl, hIx33_, hFx34_, px35_⟩ := px35_
          have hFx36_ : ai_fr (sx_W vw_389t) S0_ Sx32_ := ai_fr_tr hFx31_ (fr_le hFx34_ rfl)
          have t75_ := (px35_).1
          have l75_ := (px35_).2
          rw [g154_, g155_] at t75_ l75_
          rw [u70_, u71_] at l75_
          have m75_ : Sx32_.2.2.1 190 0 = _ := fr_arr hFx34_ rfl
          have n75_ : Sx32_.2.2.1 191 0 = _ := fr_arr hFx34_ rfl
          have cd75_ : Sx32_.1 13 0 0 = 0 := (hFx34_.1 13 0 0 rfl).trans cd70_
          have ea1154_ : Sx32_.2.2.1 154 0 a1_.toNat = S0_.2.2.1 154 0 a1_.toNat := congrFun (fr_arr hFx36_ rfl) _
          have ea1155_ : Sx32_.2.2.1 155 0 a1_.toNat = S0_.2.2.1 155 0 a1_.toNat := congrFun (fr_arr hFx36_ rfl) _
          have ea1157_ : Sx32_.2.2.1 157 0 a1_.toNat = S0_.2.2.1 157 0 a1_.toNat := congrFun (fr_arr hFx36_ rfl) _
          have ea2154_ : Sx32_.2.2.1 154 0 a2_.toNat = S0_.2.2.1 154 0 a2_.toNat := congrFun (fr_arr hFx36_ rfl) _
          have ea2155_ : Sx32_.2.2.1 155 0 a2_.toNat = S0_.2.2.1 155 0 a2_.toNat := congrFun (fr_arr hFx36_ rfl) _
          have ea2157_ : Sx32_.2.2.1 157 0 a2_.toNat = S0_.2.2.1 157 0 a2_.toNat := congrFun (fr_arr hFx36_ rfl) _
          refine sm_T_go 4 (c1 := (84, [some (.inr (.inr (some (13, 0)))), some (.inl a1_), some (.inl a2_)], [.inl a1_, .inr (.inr (some (154, 0))), .inr (.inr (some (13, 0)))], Sx32_)) rfl ?_
          refine sm_T_iald (n := 6) rfl rfl (by omega) (by omega) ?_
          have bx37_ : 0 ≤ Sx32_.2.2.1 154 0 a1_.toNat ∧ Sx32_.2.2.1 154 0 a1_.toNat ≤ 12 := hIx33_.2 154 0 _
          refine sm_T_go 3 (c1 := (90, [some (.inr (.inr (some (13, 0)))), some (.inl a1_), some (.inl a2_)], [.inl a1_, .inr (.inr (some (157, 0))), .inl (Sx32_.2.2.1 154 0 a1_.toNat), .inr (.inr (some (13, 0)))], Sx32_)) rfl ?_
          refine sm_T_iald (n := 6) rfl rfl (by omega) (by omega) ?_
          have bx38_ : 0 ≤ Sx32_.2.2.1 157 0 a1_.toNat ∧ Sx32_.2.2.1 157 0 a1_.toNat ≤ 63 := hIx33_.2 157 0 _
          refine sm_T_go 3 (c1 := (96, [some (.inr (.inr (some (13, 0)))), some (.inl a1_), some (.inl a2_)], [.inl a2_, .inr (.inr (some (157, 0))), .inl (Sx32_.2.2.1 157 0 a1_.toNat), .inl (Sx32_.2.2.1 154 0 a1_.toNat), .inr (.inr (some (13, 0)))], Sx32_)) rfl ?_
          refine sm_T_iald (n := 6) rfl rfl (by omega) (by omega) ?_
          have bx39_ : 0 ≤ Sx32_.2.2.1 157 0 a2_.toNat ∧ Sx32_.2.2.1 157 0 a2_.toNat ≤ 63 := hIx33_.2 157 0 _
          refine sm_T_cal (d1 := 1) (Q1 := vq_386w (Sx32_.2.2.1 154 0 a1_.toNat) (Sx32_.2.2.1 157 0 a1_.toNat) (Sx32_.2.2.1 157 0 a2_.toNat) (S0_.2.2.1 155 0 a1_.toNat).toNat (S0_.2.2.1 155 0 a2_.toNat).toNat Sx32_) rfl rfl (by decide) (vc_386w (Sx32_.2.2.1 154 0 a1_.toNat) (Sx32_.2.2.1 157 0 a1_.toNat) (Sx32_.2.2.1 157 0 a2_.toNat) (S0_.2.2.1 155 0 a1_.toNat).toNat (S0_.2.2.1 155 0 a2_.toNat).toNat Sx32_ hIx33_ (by omega) (by (rw [ea1157_]; exact Ja12_)) (by (rw [ea2157_]; exact Ja22_)) (by (rw [ea1154_, n75_]; exact t70_)) (by (rw [ea1154_, show S0_.2.2.1 154 0 a1_.toNat = S0_.2.2.1 154 0 a2_.toNat by omega]; exact t75_))) (fun u_ Sx40_ px43_ => ?_)
          obtain ⟨vx45_, rfl, hIx41_, hFx42_, px43_⟩ := px43_
          have hFx44_ : ai_fr (sx_W vw_389t) S0_ Sx40_ := ai_fr_tr hFx36_ (fr_le hFx42_ rfl)
          have b97_ := (px43_).1
          have cd97_ : Sx40_.1 13 0 0 = 0 := (hFx42_.1 13 0 0 rfl).trans cd75_
          have sr97_ : spr_equal a1_ a2_ S0_ vx45_ := by (have z9_ := (px43_).2; rw [ea1154_, ea1157_, ea2157_] at z9_; exact bfsp_cg (RA_ := (S0_.2.2.1 155 0 a1_.toNat).toNat) (RB_ := (S0_.2.2.1 155 0 a2_.toNat).toNat) (fun p9_ hp9_ => ⟨by (rw [n75_]; exact (l70_ p9_ hp9_).2.symm), by (rw [n75_]; exact t70_ p9_ hp9_)⟩) (fun p9_ hp9_ => by (rw [show S0_.2.2.1 154 0 a1_.toNat = S0_.2.2.1 154 0 a2_.toNat by omega] at hp9_; exact ⟨(l75_ p9_ hp9_).2.symm, t75_ p9_ hp9_⟩)) ⟨pw_tn Ja12_.1 Ja12_.2, pw_tn Ja22_.1 Ja22_.2⟩ (fun p9_ q9_ hp9_ hq9_ => by (rw [show S0_.2.2.1 154 0 a1_.toNat = S0_.2.2.1 154 0 a2_.toNat by omega] at hq9_; unfold neD; rw [m75_, (l70_ p9_ hp9_).1, (l75_ q9_ hq9_).1] <;> exact Iff.rfl)) z9_)
          refine sm_T_ri rfl ⟨_, _, rfl, _, rfl, hIx41_, hFx44_, ?_⟩
          refine ⟨⟨by omega, by omega⟩, jR_fr hJ_ hIx41_ hFx44_, ?_⟩
          first | exact Or.inl ⟨rf_eq, by (unfold ora_equal; omega)⟩ | exact Or.inr (Or.inl ⟨rf_eq, by (unfold ora_equal; omega), by (unfold okr_equal ora_equal; omega)⟩) | exact Or.inr (Or.inr ⟨cd97_, by (unfold okr_equal ora_equal; omega), sr97_⟩)
        · have cx24_ : ¬ ((S0_.2.2.1 156 0 a1_.toNat) = (S0_.2.2.1 156 0 a2_.toNat)) := of_decide_eq_false cx24_
          have hIx46_ : gi (sm_pI S0_ 13 0 0 2) := gi_pI hI_ (show 0 ≤ 2 ∧ 2 ≤ 4 from ⟨by omega, by omega⟩)
          have hFx47_ : ai_fr (sx_W vw_389t) S0_ (sm_pI S0_ 13 0 0 2) := ai_fr_tr hF_ (ai_fr_pI rfl)
          refine sm_T_go 7 (c1 := (67, [some (.inr (.inr (some (13, 0)))), some (.inl a1_), some (.inl a2_)], [.inl 0], sm_pI S0_ 13 0 0 2)) rfl ?_
          refine sm_T_ri rfl ⟨_, _, rfl, _, rfl, hIx46_, hFx47_, ?_⟩
          refine ⟨⟨by omega, by omega⟩, jR_fr hJ_ hIx46_ hFx47_, ?_⟩
          first | exact Or.inl ⟨rf_eq, by (unfold ora_equal; omega)⟩ | exact Or.inr (Or.inl ⟨rf_eq, by (unfold ora_equal; omega), by (unfold okr_equal ora_equal; omega)⟩) | exact Or.inr (Or.inr ⟨cd97_, by (unfold okr_equal ora_equal; omega), sr97_⟩)
    · have cx16_ : ¬ (vx15_ ≠ 0) := of_decide_eq_false cx16_
      have hIx48_ : gi (sm_pI S0_ 13 0 0 1) := gi_pI hI_ (show 0 ≤ 1 ∧ 1 ≤ 4 from ⟨by omega, by omega⟩)
      have hFx49_ : ai_fr (sx_W vw_389t) S0_ (sm_pI S0_ 13 0 0 1) := ai_fr_tr hF_ (ai_fr_pI rfl)
      refine sm_T_go 7 (c1 := (67, [some (.inr (.inr (some (13, 0)))), some (.inl a1_), some (.inl a2_)], [.inl 0], sm_pI S0_ 13 0 0 1)) rfl ?_
      refine sm_T_ri rfl ⟨_, _, rfl, _, rfl, hIx48_, hFx49_, ?_⟩
      refine ⟨⟨by omega, by omega⟩, jR_fr hJ_ hIx48_ hFx49_, ?_⟩
      first | exact Or.inl ⟨rf_eq, by (unfold ora_equal; omega)⟩ | exact Or.inr (Or.inl ⟨rf_eq, by (unfold ora_equal; omega), by (unfold okr_equal ora_equal; omega)⟩) | exact Or.inr (Or.inr ⟨cd97_, by (unfold okr_equal ora_equal; omega), sr97_⟩)
def okr_never (a1_ a2_ : Int) (S_ : sm_S) : Prop := (0 ≤ a1_ ∧ a1_ < 6 ∧ S_.2.2.1 153 0 a1_.toNat = 1) ∧ (0 ≤ a2_ ∧ a2_ < S_.2.2.1 156 0 a1_.toNat)
def nvD (T_ : Nat → Int) (k_ : Int) (p_ q_ : Nat) : Prop := i_and (i_shr (T_ p_) k_) 1 ≠ 0
def spr_never (a1_ a2_ : Int) (S_ : sm_S) (v_ : Int) : Prop := bfsp (S_.2.2.1 154 0 a1_.toNat).toNat (nvD (fun p_ => S_.2.2.1 169 0 (4096 * a1_.toNat + p_)) a2_) (fun p_ => S_.2.2.1 170 0 (4096 * a1_.toNat + p_)) (fun _ => 0) (S_.2.2.1 157 0 a1_.toNat).toNat 0 v_
/-! M_.never -/
def vw_390t : sx_Wl := ([(13, 0), (13, 95)], [189, 190, 191, 192, 193, 194, 195, 196, 197, 198], [])
def vq_390t (a1_ : Int) (a2_ : Int) (S0_ : sm_S) (u_ : Option sm_V) (S1_ : sm_S) : Prop := ∃ v_ : Int, u_ = some (.inl v_) ∧ gi S1_ ∧ ai_fr (sx_W vw_390t) S0_ S1_ ∧ ((-2147483648 ≤ v_ ∧ v_ ≤ 2147483647) ∧ jR S1_ ∧ ((S1_.1 13 0 0 = 1 ∧ ¬ okr_never a1_ a2_ S0_) ∨ (S1_.1 13 0 0 = 0 ∧ okr_never a1_ a2_ S0_ ∧ spr_never a1_ a2_ S0_ v_)))
set_option maxHeartbeats 400000 in
set_option maxRecDepth 20000 in
theorem vl_390t {sc_ : Nat × (Nat → Int)} (a1_ : Int) (a2_ : Int) (S0_ : sm_S) (ha1_ : (-2147483648) ≤ a1_ ∧ a1_ ≤ 2147483647) (ha2_ : (-2147483648) ≤ a2_ ∧ a2_ ≤ 2147483647) (hJ_ : jR S0_) : ∀ nn_ : Nat, (∀ (p_ : Int) (S_ : sm_S), gi S_ → ai_fr (sx_W vw_390t) S0_ S_ → ((0 ≤ a1_ ∧ a1_ < 6 ∧ 0 ≤ a2_ ∧ a2_ < 16 ∧ 0 ≤ p_ ∧ p_ ≤ 4096) ∧ (dRk a1_.toNat S0_) ∧ (okr_never a1_ a2_ S0_) ∧ (S_.1 13 0 0 = 0) ∧ (∀ p9_ : Nat, p9_ < 2 ^ ((S0_.2.2.1 154 0 a1_.toNat).toNat + (S0_.2.2.1 155 0 a1_.toNat).toNat) → S_.2.2.1 190 0 p9_ = (if (p9_ : Int) < p_ then i_and (i_shr (S0_.2.2.1 169 0 (4096 * a1_.toNat + p9_)) a2_) 1 else S0_.2.2.1 169 0 (4096 * a1_.toNat + p9_)) ∧ S_.2.2.1 191 0 p9_ = S0_.2.2.1 170 0 (4096 * a1_.toNat + p9_)) ∧ (∀ p9_ : Nat, (p9_ : Int) < p_ → S_.2.2.1 192 0 p9_ = 0) ∧ (∀ p9_ : Nat, p9_ < 2 ^ ((S0_.2.2.1 154 0 a1_.toNat).toNat + (S0_.2.2.1 155 0 a1_.toNat).toNat) → 0 ≤ S_.2.2.1 191 0 p9_ ∧ S_.2.2.1 191 0 p9_ < 2 ^ (S0_.2.2.1 155 0 a1_.toNat).toNat) ∧ (∀ p9_ : Nat, (p9_ : Int) < p_ → S_.2.2.1 193 0 p9_ = 0) ∧ True) → ((5000 - p_).toNat) < nn_ → sm_T (mt_P sc_) 2 390 (47, [some (.inr (.inr (some (13, 0)))), some (.inl a1_), some (.inl a2_), some (.inl p_)], [], S_) (fun ro9_ => ∃ u_ S1_, ro9_ = (.inl u_, S1_, 0) ∧ vq_390t a1_ a2_ S0_ u_ S1_)) := by
  intro nn_
  induction nn_ with
  | zero => exact fun _ _ _ _ _ h_ => absurd h_ (Nat.not_lt_zero _)
  | succ nn_ ih_ =>
    rintro p_ S_ hI_ hF_ ⟨h0_, hD_, hok_, hcd_, h3_, h4_, h1_, h2_, -⟩ hm_
    obtain ⟨Ja11_, Ja12_, Ja13_, Ja14_⟩ := dRk_b hD_
    have ea1154_ : S_.2.2.1 154 0 a1_.toNat = S0_.2.2.1 154 0 a1_.toNat := congrFun (fr_arr hF_ rfl) _
    have ea1155_ : S_.2.2.1 155 0 a1_.toNat = S0_.2.2.1 155 0 a1_.toNat := congrFun (fr_arr hF_ rfl) _
    have ea1157_ : S_.2.2.1 157 0 a1_.toNat = S0_.2.2.1 157 0 a1_.toNat := congrFun (fr_arr hF_ rfl) _
    refine sm_T_go 2 (c1 := (51, [some (.inr (.inr (some (13, 0)))), some (.inl a1_), some (.inl a2_), some (.inl p_)], [.inl 4096, .inl p_], S_)) rfl ?_
    refine sm_T_br (a := 3) (z := 39) rfl (fun cx1_ => ?_) (fun cx1_ => ?_)
    · have cx1_ : 4096 ≤ p_ := of_decide_eq_true cx1_
      refine sm_T_go 4 (c1 := (96, [some (.inr (.inr (some (13, 0)))), some (.inl a1_), some (.inl a2_), some (.inl p_)], [.inl a1_, .inr (.inr (some (154, 0))), .inr (.inr (some (13, 0)))], S_)) rfl ?_
      refine sm_T_iald (n := 6) rfl rfl (by omega) (by omega) ?_
      have bx2_ : 0 ≤ S_.2.2.1 154 0 a1_.toNat ∧ S_.2.2.1 154 0 a1_.toNat ≤ 12 := hI_.2 154 0 _
      refine sm_T_go 3 (c1 := (102, [some (.inr (.inr (some (13, 0)))), some (.inl a1_), some (.inl a2_), some (.inl p_)], [.inl a1_, .inr (.inr (some (157, 0))), .inl (S_.2.2.1 154 0 a1_.toNat), .inr (.inr (some (13, 0)))], S_)) rfl ?_
      refine sm_T_iald (n := 6) rfl rfl (by omega) (by omega) ?_
      have bx3_ : 0 ≤ S_.2.2.1 157 0 a1_.toNat ∧ S_.2.2.1 157 0 a1_.toNat ≤ 63 := hI_.2 157 0 _
      refine sm_T_go 1 (c1 := (104, [some (.inr (.inr (some (13, 0)))), some (.inl a1_), some (.inl a2_), some (.inl p_)], [.inl 0, .inl (S_.2.2.1 157 0 a1_.toNat), .inl (S_.2.2.1 154 0 a1_.toNat), .inr (.inr (some (13, 0)))], S_)) rfl ?_
      refine sm_T_cal (d1 := 1) (Q1 := vq_386w (S_.2.2.1 154 0 a1_.toNat) (S_.2.2.1 157 0 a1_.toNat) 0 (S0_.2.2.1 155 0 a1_.toNat).toNat 0 S_) rfl rfl (by decide) (vc_386w (S_.2.2.1 154 0 a1_.toNat) (S_.2.2.1 157 0 a1_.toNat) 0 (S0_.2.2.1 155 0 a1_.toNat).toNat 0 S_ hI_ (by omega) (by (rw [ea1157_]; exact Ja12_)) (by decide) (by (rw [ea1154_]; exact h1_)) (by (intro p9_ hp9_; have w9_ := Nat.pow_le_pow_right (show 0 < 2 by decide) (show (S_.2.2.1 154 0 a1_.toNat).toNat + 0 ≤ 12 by omega); rw [h2_ p9_ (by omega)]; decide))) (fun u_ Sx4_ px7_ => ?_)
      obtain ⟨vx9_, rfl, hIx5_, hFx6_, px7_⟩ := px7_
      have hFx8_ : ai_fr (sx_W vw_390t) S0_ Sx4_ := ai_fr_tr hF_ (fr_le hFx6_ rfl)
      have b104_ := (px7_).1
      have cd104_ : Sx4_.1 13 0 0 = 0 := (hFx6_.1 13 0 0 rfl).trans hcd_
      have sr104_ : spr_never a1_ a2_ S0_ vx9_ := by (have z9_ := (px7_).2; rw [ea1154_, ea1157_] at z9_; exact bfsp_cg (RA_ := (S0_.2.2.1 155 0 a1_.toNat).toNat) (RB_ := 0) (fun p9_ hp9_ => ⟨(h3_ p9_ hp9_).2.symm, h1_ p9_ hp9_⟩) (fun p9_ hp9_ => by (have w9_ := Nat.pow_le_pow_right (show 0 < 2 by decide) (show (S0_.2.2.1 154 0 a1_.toNat).toNat + 0 ≤ 12 by omega); rw [h2_ p9_ (by omega)]; exact ⟨rfl, by decide, by decide⟩)) ⟨pw_tn Ja12_.1 Ja12_.2, by decide⟩ (fun p9_ q9_ hp9_ hq9_ => by (have w9_ := Nat.pow_le_pow_right (show 0 < 2 by decide) (show (S0_.2.2.1 154 0 a1_.toNat).toNat + 0 ≤ 12 by omega); have w8_ := Nat.pow_le_pow_right (show 0 < 2 by decide) (show (S0_.2.2.1 154 0 a1_.toNat).toNat + (S0_.2.2.1 155 0 a1_.toNat).toNat ≤ 12 by omega); unfold neD nvD; rw [(h3_ p9_ hp9_).1, if_pos (by omega), h4_ q9_ (by omega)] <;> exact Iff.rfl)) z9_)
      refine sm_T_ri rfl ⟨_, _, rfl, _, rfl, hIx5_, hFx8_, ?_⟩
      refine ⟨⟨by omega, by omega⟩, jR_fr hJ_ hIx5_ hFx8_, ?_⟩
      first | exact Or.inl ⟨rf_eq, by (unfold okr_never; omega)⟩ | exact Or.inr ⟨cd104_, hok_, sr104_⟩
    · have cx1_ : ¬ (4096 ≤ p_) := of_decide_eq_false cx1_
      refine sm_T_go 6 (c1 := (64, [some (.inr (.inr (some (13, 0)))), some (.inl a1_), some (.inl a2_), some (.inl p_)], [.inl p_, .inr (.inr (some (190, 0))), .inl p_, .inr (.inr (some (190, 0)))], S_)) rfl ?_
      refine sm_T_iald (n := 4096) rfl rfl (by omega) (by omega) ?_
      have bx10_ : 0 ≤ S_.2.2.1 190 0 p_.toNat ∧ S_.2.2.1 190 0 p_.toNat ≤ 65535 := hI_.2 190 0 _
      refine sm_T_go 1 (c1 := (66, [some (.inr (.inr (some (13, 0)))), some (.inl a1_), some (.inl a2_), some (.inl p_)], [.inl a2_, .inl (S_.2.2.1 190 0 p_.toNat), .inl p_, .inr (.inr (some (190, 0)))], S_)) rfl ?_
      refine sm_T_bin (w := (i_shr (S_.2.2.1 190 0 p_.toNat) a2_)) rfl rfl ?_ -- pc_ 66
      have bx11_ := i_shr_p (x_ := (S_.2.2.1 190 0 p_.toNat)) (e_ := a2_) (by omega) (by omega) (by omega)
      refine sm_T_go 1 (c1 := (68, [some (.inr (.inr (some (13, 0)))), some (.inl a1_), some (.inl a2_), some (.inl p_)], [.inl 1, .inl (i_shr (S_.2.2.1 190 0 p_.toNat) a2_), .inl p_, .inr (.inr (some (190, 0)))], S_)) rfl ?_
      refine sm_T_bin (w := ((i_shr (S_.2.2.1 190 0 p_.toNat) a2_) % 2)) rfl (bi_msk (k := 1) (by decide)) ?_ -- pc_ 68
      refine sm_T_iast (n := 4096) rfl rfl (by omega) (by omega) ?_
      have hIx12_ : gi (sm_aI S_ 190 0 p_.toNat ((i_shr (S_.2.2.1 190 0 p_.toNat) a2_) % 2)) := gi_aI hI_ (show 0 ≤ ((i_shr (S_.2.2.1 190 0 p_.toNat) a2_) % 2) ∧ ((i_shr (S_.2.2.1 190 0 p_.toNat) a2_) % 2) ≤ 65535 from ⟨by omega, by omega⟩)
      have hFx13_ : ai_fr (sx_W vw_390t) S0_ (sm_aI S_ 190 0 p_.toNat ((i_shr (S_.2.2.1 190 0 p_.toNat) a2_) % 2)) := ai_fr_tr hF_ (ai_fr_aI rfl)
      refine sm_T_go 4 (c1 := (76, [some (.inr (.inr (some (13, 0)))), some (.inl a1_), some (.inl a2_), some (.inl p_)], [.inl 0, .inl p_, .inr (.inr (some (192, 0)))], sm_aI S_ 190 0 p_.toNat ((i_shr (S_.2.2.1 190 0 p_.toNat) a2_) % 2))) rfl ?_
      refine sm_T_iast (n := 4096) rfl rfl (by omega) (by omega) ?_
      have hIx14_ : gi (sm_aI (sm_aI S_ 190 0 p_.toNat ((i_shr (S_.2.2.1 190 0 p_.toNat) a2_) % 2)) 192 0 p_.toNat 0) := gi_aI hIx12_ (show 0 ≤ 0 ∧ 0 ≤ 65535 from ⟨by omega, by omega⟩)
      have hFx15_ : ai_fr (sx_W vw_390t) S0_ (sm_aI (sm_aI S_ 190 0 p_.toNat ((i_shr (S_.2.2.1 190 0 p_.toNat) a2_) % 2)) 192 0 p_.toNat 0) := ai_fr_tr hFx13_ (ai_fr_aI rfl)
      refine sm_T_go 4 (c1 := (83, [some (.inr (.inr (some (13, 0)))), some (.inl a1_), some (.inl a2_), some (.inl p_)], [.inl 0, .inl p_, .inr (.inr (some (193, 0)))], sm_aI (sm_aI S_ 190 0 p_.toNat ((i_shr (S_.2.2.1 190 0 p_.toNat) a2_) % 2)) 192 0 p_.toNat 0)) rfl ?_
      refine sm_T_iast (n := 4096) rfl rfl (by omega) (by omega) ?_
      have hIx16_ : gi (sm_aI (sm_aI (sm_aI S_ 190 0 p_.toNat ((i_shr (S_.2.2.1 190 0 p_.toNat) a2_) % 2)) 192 0 p_.toNat 0) 193 0 p_.toNat 0) := gi_aI hIx14_ (show 0 ≤ 0 ∧ 0 ≤ 63 from ⟨by omega, by omega⟩)
      have hFx17_ : ai_fr (sx_W vw_390t) S0_ (sm_aI (sm_aI (sm_aI S_ 190 0 p_.toNat ((i_shr (S_.2.2.1 190 0 p_.toNat) a2_) % 2)) 192 0 p_.toNat 0) 193 0 p_.toNat 0) := ai_fr_tr hFx15_ (ai_fr_aI rfl)
      refine sm_T_inc (a := 3) (z := 1) (v := p_) (w := p_ + 1) rfl rfl (by omega) (by omega) (by omega) ?_ -- pc_ 84
      refine sm_T_go 1 (c1 := (47, [some (.inr (.inr (some (13, 0)))), some (.inl a1_), some (.inl a2_), some (.inl (p_ + 1))], [], sm_aI (sm_aI (sm_aI S_ 190 0 p_.toNat ((i_shr (S_.2.2.1 190 0 p_.toNat) a2_) % 2)) 192 0 p_.toNat 0) 193 0 p_.toNat 0)) rfl ?_
      refine ih_ (p_ + 1) (sm_aI (sm_aI (sm_aI S_ 190 0 p_.toNat ((i_shr (S_.2.2.1 190 0 p_.toNat) a2_) % 2)) 192 0 p_.toNat 0) 193 0 p_.toNat 0) hIx16_ hFx17_ ⟨?_, ?_, ?_, ?_, ?_, ?_, ?_, ?_, trivial⟩ ?_
      · omega
      · exact hD_
      · exact hok_
      · exact hcd_
      · intro p9_ hp9_
        have w9_ := h3_ p9_ hp9_
        refine ⟨?_, by (rw [rd_ne (by decide), rd_ne (by decide), rd_ne (by decide)]; exact w9_.2)⟩
        rw [rd_ne (by decide), rd_ne (by decide), rd_eq]
        by_cases z9_ : p9_ = p_.toNat
        · rw [if_pos z9_, if_pos (by omega)]; have y9_ := w9_.1; rw [if_neg (by omega), z9_] at y9_; rw [y9_, z9_]; exact (Option.some.inj (show some (i_and _ 1) = some (_ % 2) from bi_msk (k := 1) (by decide))).symm
        · rw [if_neg z9_]; by_cases x9_ : (p9_ : Int) < p_
          · rw [if_pos (by omega)]; have y9_ := w9_.1; rw [if_pos x9_] at y9_; exact y9_
          · rw [if_neg (by omega)]; have y9_ := w9_.1; rw [if_neg x9_] at y9_; exact y9_
      · intro p9_ hp9_
        rw [rd_ne (by decide), rd_eq]
        split
        · rfl
        · rw [rd_ne (by decide)]; exact h4_ p9_ (by omega)
      · intro p9_ hp9_
        rw [rd_ne (by decide), rd_ne (by decide), rd_ne (by decide)]
        exact h1_ p9_ hp9_
      · intro p9_ hp9_
        rw [rd_eq]
        split
        · rfl
        · rw [rd_ne (by decide), rd_ne (by decide)]; exact h2_ p9_ (by omega)
      · omega
set_option maxHeartbeats 400000 in
set_option maxRecDepth 20000 in
theorem vc_390t {sc_ : Nat × (Nat → Int)} (a1_ : Int) (a2_ : Int) (S0_ : sm_S) (hI_ : gi S0_) (ha1_ : (-2147483648) ≤ a1_ ∧ a1_ ≤ 2147483647) (ha2_ : (-2147483648) ≤ a2_ ∧ a2_ ≤ 2147483647) (hJ_ : jR S0_) : sm_T (mt_P sc_) 2 390 (0, [some (.inr (.inr (some (13, 0)))), some (.inl a1_), some (.inl a2_), none], [], S0_) (fun ro9_ => ∃ u_ S1_, ro9_ = (.inl u_, S1_, 0) ∧ vq_390t a1_ a2_ S0_ u_ S1_) := by
  have hF_ : ai_fr (sx_W vw_390t) S0_ S0_ := ai_fr_rf
  refine sm_T_go 3 (c1 := (3, [some (.inr (.inr (some (13, 0)))), some (.inl a1_), some (.inl a2_), none], [.inl a1_, .inr (.inr (some (13, 0))), .inr (.inr (some (13, 0)))], S0_)) rfl ?_
  refine sm_T_cal (d1 := 0) (Q1 := vq_369 a1_ S0_) rfl rfl (by decide) (vc_369 a1_ S0_ hI_ (by omega)) (fun u_ Sx1_ px4_ => ?_)
  obtain ⟨rfl, vx6_, rfl, px4_⟩ := px4_
  have d3_ := px4_
  refine sm_T_b0 (a := 0) (z := 17) rfl (fun cx7_ => ?_) (fun cx7_ => ?_)
  · have cx7_ : vx6_ = 0 := of_decide_eq_true cx7_
    have hIx8_ : gi (sm_pI S0_ 13 0 0 1) := gi_pI hI_ (show 0 ≤ 1 ∧ 1 ≤ 4 from ⟨by omega, by omega⟩)
    have hFx9_ : ai_fr (sx_W vw_390t) S0_ (sm_pI S0_ 13 0 0 1) := ai_fr_tr hF_ (ai_fr_pI rfl)
    refine sm_T_go 7 (c1 := (39, [some (.inr (.inr (some (13, 0)))), some (.inl a1_), some (.inl a2_), none], [.inl 0], sm_pI S0_ 13 0 0 1)) rfl ?_
    refine sm_T_ri rfl ⟨_, _, rfl, _, rfl, hIx8_, hFx9_, ?_⟩
    refine ⟨⟨by omega, by omega⟩, jR_fr hJ_ hIx8_ hFx9_, ?_⟩
    first | exact Or.inl ⟨rf_eq, by (unfold okr_never; omega)⟩ | exact Or.inr ⟨cd104_, hok_, sr104_⟩
  · have cx7_ : ¬ (vx6_ = 0) := of_decide_eq_false cx7_
    refine sm_T_go 1 (c1 := (10, [some (.inr (.inr (some (13, 0)))), some (.inl a1_), some (.inl a2_), none], [.inl a2_, .inr (.inr (some (13, 0)))], S0_)) rfl ?_
    refine sm_T_b0 (a := 2) (z := 13) rfl (fun cx10_ => ?_) (fun cx10_ => ?_)
    · have cx10_ : a2_ < 0 := of_decide_eq_true cx10_
      have hIx11_ : gi (sm_pI S0_ 13 0 0 1) := gi_pI hI_ (show 0 ≤ 1 ∧ 1 ≤ 4 from ⟨by omega, by omega⟩)
      have hFx12_ : ai_fr (sx_W vw_390t) S0_ (sm_pI S0_ 13 0 0 1) := ai_fr_tr hF_ (ai_fr_pI rfl)
      refine sm_T_go 7 (c1 := (39, [some (.inr (.inr (some (13, 0)))), some (.inl a1_), some (.inl a2_), none], [.inl 0], sm_pI S0_ 13 0 0 1)) rfl ?_
      refine sm_T_ri rfl ⟨_, _, rfl, _, rfl, hIx11_, hFx12_, ?_⟩
      refine ⟨⟨by omega, by omega⟩, jR_fr hJ_ hIx11_ hFx12_, ?_⟩
      first | exact Or.inl ⟨rf_eq, by (unfold okr_never; omega)⟩ | exact Or.inr ⟨cd104_, hok_, sr104_⟩
    · have cx10_ : ¬ (a2_ < 0) := of_decide_eq_false cx10_
      refine sm_T_go 4 (c1 := (19, [some (.inr (.inr (some (13, 0)))), some (.inl a1_), some (.inl a2_), none], [.inl a1_, .inr (.inr (some (156, 0))), .inl a2_, .inr (.inr (some (13, 0)))], S0_)) rfl ?_
      refine sm_T_iald (n := 6) rfl rfl (by omega) (by omega) ?_
      have bx13_ : 0 ≤ S0_.2.2.1 156 0 a1_.toNat ∧ S0_.2.2.1 156 0 a1_.toNat ≤ 16 := hI_.2 156 0 _
      refine sm_T_br (a := 2) (z := 7) rfl (fun cx14_ => ?_) (fun cx14_ => ?_)
      · have cx14_ : a2_ < (S0_.2.2.1 156 0 a1_.toNat) := of_decide_eq_true cx14_
        have Da1_ : dRk a1_.toNat S0_ := hJ_.1 a1_.toNat (by omega) (by omega)
        have hIx15_ : gi (sm_pI S0_ 13 0 0 0) := gi_pI hI_ (show 0 ≤ 0 ∧ 0 ≤ 4 from ⟨by omega, by omega⟩)
        have hFx16_ : ai_fr (sx_W vw_390t) S0_ (sm_pI S0_ 13 0 0 0) := ai_fr_tr hF_ (ai_fr_pI rfl)
        refine sm_T_go 7 (c1 := (42, [some (.inr (.inr (some (13, 0)))), some (.inl a1_), some (.inl a2_), none], [.inl a1_, .inr (.inr (some (13, 0)))], sm_pI S0_ 13 0 0 0)) rfl ?_
        refine sm_T_cal (d1 := 0) (Q1 := vq_387w a1_ (sm_pI S0_ 13 0 0 0)) rfl rfl (by decide) (vc_387w a1_ (sm_pI S0_ 13 0 0 0) hIx15_ (by omega) (by exact dRk_fr Da1_ hFx16_ (by decide))) (fun u_ Sx17_ px20_ => ?_)
        obtain ⟨rfl, hIx18_, hFx19_, px20_⟩ := px20_
        have hFx21_ : ai_fr (sx_W vw_390t) S0_ Sx17_ := ai_fr_tr hFx16_ (fr_le hFx19_ rfl)
        have t42_ := (px20_).1
        have l42_ := (px20_).2
        have cd42_ : Sx17_.1 13 0 0 = 0 := (hFx19_.1 13 0 0 rfl).trans rf_eq
        refine sm_T_go 2 (c1 := (47, [some (.inr (.inr (some (13, 0)))), some (.inl a1_), some (.inl a2_), some (.inl 0)], [], Sx17_)) rfl ?_
        refine (vl_390t a1_ a2_ S0_ ha1_ ha2_ hJ_ _) 0 Sx17_ hIx18_ hFx21_ ⟨?_, ?_, ?_, ?_, ?_, ?_, ?_, ?_, trivial⟩ (Nat.lt_succ_self _)
        · omega
        · exact Da1_
        · (unfold okr_never; omega)
        · exact cd42_
        · (intro p9_ hp9_; have w9_ := l42_ p9_ hp9_; rw [if_neg (by omega)]; exact w9_)
        · (intro p9_ hp9_; exfalso; omega)
        · exact t42_
        · (intro p9_ hp9_; exfalso; omega)
      · have cx14_ : ¬ (a2_ < (S0_.2.2.1 156 0 a1_.toNat)) := of_decide_eq_false cx14_
        have hIx22_ : gi (sm_pI S0_ 13 0 0 1) := gi_pI hI_ (show 0 ≤ 1 ∧ 1 ≤ 4 from ⟨by omega, by omega⟩)
        have hFx23_ : ai_fr (sx_W vw_390t) S0_ (sm_pI S0_ 13 0 0 1) := ai_fr_tr hF_ (ai_fr_pI rfl)
        refine sm_T_go 7 (c1 := (39, [some (.inr (.inr (some (13, 0)))), some (.inl a1_), some (.inl a2_), none], [.inl 0], sm_pI S0_ 13 0 0 1)) rfl ?_
        refine sm_T_ri rfl ⟨_, _, rfl, _, rfl, hIx22_, hFx23_, ?_⟩
        refine ⟨⟨by omega, by omega⟩, jR_fr hJ_ hIx22_ hFx23_, ?_⟩
        first | exact Or.inl ⟨rf_eq, by (unfold okr_never; omega)⟩ | exact Or.inr ⟨cd104_, hok_, sr104_⟩
