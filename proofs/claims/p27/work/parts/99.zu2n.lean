/-! the reference: equal, never; written by wip/p55/gen/vg -/
/-! M_.layA -/
/-! M_.layB -/
def vw_388w : sx_Wl := ([], [192, 193], [])
def vq_388w (d_ : Int) (S0_ : sm_S) (u_ : Option sm_V) (S1_ : sm_S) : Prop := u_ = none ∧ gi S1_ ∧ ai_fr (sx_W vw_388w) S0_ S1_ ∧ ((∀ p9_ : Nat, p9_ < 2 ^ ((S0_.2.2.1 154 0 d_.toNat).toNat + (S0_.2.2.1 155 0 d_.toNat).toNat) → 0 ≤ S1_.2.2.1 193 0 p9_ ∧ S1_.2.2.1 193 0 p9_ < 2 ^ (S0_.2.2.1 155 0 d_.toNat).toNat) ∧ (∀ p9_ : Nat, p9_ < 2 ^ ((S0_.2.2.1 154 0 d_.toNat).toNat + (S0_.2.2.1 155 0 d_.toNat).toNat) → S1_.2.2.1 192 0 p9_ = S0_.2.2.1 169 0 (4096 * d_.toNat + p9_) ∧ S1_.2.2.1 193 0 p9_ = S0_.2.2.1 170 0 (4096 * d_.toNat + p9_)))
set_option maxHeartbeats 400000 in
set_option maxRecDepth 20000 in
theorem vl_388w {sc_ : Nat × (Nat → Int)} (d_ : Int) (S0_ : sm_S) (hd_ : 0 ≤ d_ ∧ d_ ≤ 5) (hk_ : dRk d_.toNat S0_) : ∀ nn_ : Nat, (∀ (p_ : Int) (S_ : sm_S), gi S_ → ai_fr (sx_W vw_388w) S0_ S_ → ((0 ≤ p_ ∧ p_ ≤ 2 ^ ((S0_.2.2.1 154 0 d_.toNat).toNat + (S0_.2.2.1 155 0 d_.toNat).toNat)) ∧ (∀ p9_ : Nat, (p9_ : Int) < p_ → 0 ≤ S_.2.2.1 193 0 p9_ ∧ S_.2.2.1 193 0 p9_ < 2 ^ (S0_.2.2.1 155 0 d_.toNat).toNat) ∧ (∀ p9_ : Nat, (p9_ : Int) < p_ → S_.2.2.1 192 0 p9_ = S0_.2.2.1 169 0 (4096 * d_.toNat + p9_) ∧ S_.2.2.1 193 0 p9_ = S0_.2.2.1 170 0 (4096 * d_.toNat + p9_)) ∧ True) → ((5000 - p_).toNat) < nn_ → sm_T (mt_P sc_) 0 388 (2, [some (.inr (.inr (some (13, 0)))), some (.inl d_), some (.inl p_)], [], S_) (fun ro9_ => ∃ u_ S1_, ro9_ = (.inl u_, S1_, 0) ∧ vq_388w d_ S0_ u_ S1_)) := by
  intro nn_
  induction nn_ with
  | zero => exact fun _ _ _ _ _ h_ => absurd h_ (Nat.not_lt_zero _)
  | succ nn_ ih_ =>
    rintro p_ S_ hI_ hF_ ⟨h0_, h1_, h3_, -⟩ hm_
    obtain ⟨J1_, J2_, J3_, J4_⟩ := dRk_b hk_
    have w1_ := pw_le (n := (S0_.2.2.1 154 0 d_.toNat).toNat + (S0_.2.2.1 155 0 d_.toNat).toNat) (m := 12) (by omega)
    have w2_ := pw_pos ((S0_.2.2.1 154 0 d_.toNat).toNat + (S0_.2.2.1 155 0 d_.toNat).toNat)
    have w3_ : ((2 ^ ((S0_.2.2.1 154 0 d_.toNat).toNat + (S0_.2.2.1 155 0 d_.toNat).toNat) : Nat) : Int) = (2 : Int) ^ ((S0_.2.2.1 154 0 d_.toNat).toNat + (S0_.2.2.1 155 0 d_.toNat).toNat) := by push_cast; rfl
    have f154_ : S_.2.2.1 154 0 = S0_.2.2.1 154 0 := fr_arr hF_ rfl
    have f155_ : S_.2.2.1 155 0 = S0_.2.2.1 155 0 := fr_arr hF_ rfl
    have f169_ : S_.2.2.1 169 0 = S0_.2.2.1 169 0 := fr_arr hF_ rfl
    have f170_ : S_.2.2.1 170 0 = S0_.2.2.1 170 0 := fr_arr hF_ rfl
    have s9_ : i_shl 1 (S_.2.2.1 154 0 d_.toNat + S_.2.2.1 155 0 d_.toNat) = 2 ^ ((S0_.2.2.1 154 0 d_.toNat).toNat + (S0_.2.2.1 155 0 d_.toNat).toNat) := by (rw [f154_, f155_, i_shl1 (by omega) (by omega), show (S0_.2.2.1 154 0 d_.toNat + S0_.2.2.1 155 0 d_.toNat).toNat = (S0_.2.2.1 154 0 d_.toNat).toNat + (S0_.2.2.1 155 0 d_.toNat).toNat by omega])
    refine sm_T_go 5 (c1 := (9, [some (.inr (.inr (some (13, 0)))), some (.inl d_), some (.inl p_)], [.inl d_, .inr (.inr (some (154, 0))), .inl 1, .inl p_], S_)) rfl ?_
    refine sm_T_iald (n := 6) rfl rfl (by omega) (by omega) ?_
    have bx1_ : 0 ≤ S_.2.2.1 154 0 d_.toNat ∧ S_.2.2.1 154 0 d_.toNat ≤ 12 := hI_.2 154 0 _
    refine sm_T_go 3 (c1 := (15, [some (.inr (.inr (some (13, 0)))), some (.inl d_), some (.inl p_)], [.inl d_, .inr (.inr (some (155, 0))), .inl (S_.2.2.1 154 0 d_.toNat), .inl 1, .inl p_], S_)) rfl ?_
    refine sm_T_iald (n := 6) rfl rfl (by omega) (by omega) ?_
    have bx2_ : 0 ≤ S_.2.2.1 155 0 d_.toNat ∧ S_.2.2.1 155 0 d_.toNat ≤ 6 := hI_.2 155 0 _
    refine sm_T_bin (w := (S_.2.2.1 154 0 d_.toNat) + (S_.2.2.1 155 0 d_.toNat)) rfl (bi_add (by omega) (by omega) (by omega)) ?_ -- pc_ 16
    refine sm_T_bin (w := (i_shl 1 ((S_.2.2.1 154 0 d_.toNat) + (S_.2.2.1 155 0 d_.toNat)))) rfl rfl ?_ -- pc_ 17
    refine sm_T_br (a := 3) (z := 45) rfl (fun cx3_ => ?_) (fun cx3_ => ?_)
    · have cx3_ : (i_shl 1 ((S_.2.2.1 154 0 d_.toNat) + (S_.2.2.1 155 0 d_.toNat))) ≤ p_ := of_decide_eq_true cx3_
      refine sm_T_rv rfl ⟨_, _, rfl, rfl, hI_, hF_, ?_⟩
      exact ⟨fun p9_ hp9_ => h1_ p9_ (by omega), fun p9_ hp9_ => h3_ p9_ (by omega)⟩
    · have cx3_ : ¬ ((i_shl 1 ((S_.2.2.1 154 0 d_.toNat) + (S_.2.2.1 155 0 d_.toNat))) ≤ p_) := of_decide_eq_false cx3_
      have t9_ := J4_ p_.toNat (by omega)
      rw [← f170_, show 4096 * d_.toNat + p_.toNat = (4096 * d_ + p_).toNat by omega] at t9_
      refine sm_T_go 7 (c1 := (34, [some (.inr (.inr (some (13, 0)))), some (.inl d_), some (.inl p_)], [.inl d_, .inl 4096, .inr (.inr (some (169, 0))), .inl p_, .inr (.inr (some (192, 0)))], S_)) rfl ?_
      refine sm_T_bin (w := 4096 * d_) rfl (bi_mul (by omega) (by omega) (by omega)) ?_ -- pc_ 34
      refine sm_T_go 1 (c1 := (36, [some (.inr (.inr (some (13, 0)))), some (.inl d_), some (.inl p_)], [.inl p_, .inl (4096 * d_), .inr (.inr (some (169, 0))), .inl p_, .inr (.inr (some (192, 0)))], S_)) rfl ?_
      refine sm_T_bin (w := 4096 * d_ + p_) rfl (bi_add (by omega) (by omega) (by omega)) ?_ -- pc_ 36
      refine sm_T_iald (n := 24576) rfl rfl (by omega) (by omega) ?_
      have bx4_ : 0 ≤ S_.2.2.1 169 0 (4096 * d_ + p_).toNat ∧ S_.2.2.1 169 0 (4096 * d_ + p_).toNat ≤ 65535 := hI_.2 169 0 _
      refine sm_T_iast (n := 4096) rfl rfl (by omega) (by omega) ?_
      have hIx5_ : gi (sm_aI S_ 192 0 p_.toNat (S_.2.2.1 169 0 (4096 * d_ + p_).toNat)) := gi_aI hI_ (show 0 ≤ (S_.2.2.1 169 0 (4096 * d_ + p_).toNat) ∧ (S_.2.2.1 169 0 (4096 * d_ + p_).toNat) ≤ 65535 from ⟨by omega, by omega⟩)
      have hFx6_ : ai_fr (sx_W vw_388w) S0_ (sm_aI S_ 192 0 p_.toNat (S_.2.2.1 169 0 (4096 * d_ + p_).toNat)) := ai_fr_tr hF_ (ai_fr_aI rfl)
      refine sm_T_go 7 (c1 := (52, [some (.inr (.inr (some (13, 0)))), some (.inl d_), some (.inl p_)], [.inl d_, .inl 4096, .inr (.inr (some (170, 0))), .inl p_, .inr (.inr (some (193, 0)))], sm_aI S_ 192 0 p_.toNat (S_.2.2.1 169 0 (4096 * d_ + p_).toNat))) rfl ?_
      refine sm_T_bin (w := 4096 * d_) rfl (bi_mul (by omega) (by omega) (by omega)) ?_ -- pc_ 52
      refine sm_T_go 1 (c1 := (54, [some (.inr (.inr (some (13, 0)))), some (.inl d_), some (.inl p_)], [.inl p_, .inl (4096 * d_), .inr (.inr (some (170, 0))), .inl p_, .inr (.inr (some (193, 0)))], sm_aI S_ 192 0 p_.toNat (S_.2.2.1 169 0 (4096 * d_ + p_).toNat))) rfl ?_
      refine sm_T_bin (w := 4096 * d_ + p_) rfl (bi_add (by omega) (by omega) (by omega)) ?_ -- pc_ 54
      refine sm_T_iald (n := 24576) rfl rfl (by omega) (by omega) ?_
      have bx7_ : 0 ≤ S_.2.2.1 170 0 (4096 * d_ + p_).toNat ∧ S_.2.2.1 170 0 (4096 * d_ + p_).toNat ≤ 63 := hI_.2 170 0 _
      refine sm_T_go 0 (c1 := (56, [some (.inr (.inr (some (13, 0)))), some (.inl d_), some (.inl p_)], [.inl (S_.2.2.1 170 0 (4096 * d_ + p_).toNat), .inl p_, .inr (.inr (some (193, 0)))], sm_aI S_ 192 0 p_.toNat (S_.2.2.1 169 0 (4096 * d_ + p_).toNat))) rfl ?_
      refine sm_T_iast (n := 4096) rfl rfl (by omega) (by omega) ?_
      have hIx8_ : gi (sm_aI (sm_aI S_ 192 0 p_.toNat (S_.2.2.1 169 0 (4096 * d_ + p_).toNat)) 193 0 p_.toNat (S_.2.2.1 170 0 (4096 * d_ + p_).toNat)) := gi_aI hIx5_ (show 0 ≤ (S_.2.2.1 170 0 (4096 * d_ + p_).toNat) ∧ (S_.2.2.1 170 0 (4096 * d_ + p_).toNat) ≤ 63 from ⟨by omega, by omega⟩)
      have hFx9_ : ai_fr (sx_W vw_388w) S0_ (sm_aI (sm_aI S_ 192 0 p_.toNat (S_.2.2.1 169 0 (4096 * d_ + p_).toNat)) 193 0 p_.toNat (S_.2.2.1 170 0 (4096 * d_ + p_).toNat)) := ai_fr_tr hFx6_ (ai_fr_aI rfl)
      refine sm_T_inc (a := 2) (z := 1) (v := p_) (w := p_ + 1) rfl rfl (by omega) (by omega) (by omega) ?_ -- pc_ 57
      refine sm_T_go 1 (c1 := (2, [some (.inr (.inr (some (13, 0)))), some (.inl d_), some (.inl (p_ + 1))], [], sm_aI (sm_aI S_ 192 0 p_.toNat (S_.2.2.1 169 0 (4096 * d_ + p_).toNat)) 193 0 p_.toNat (S_.2.2.1 170 0 (4096 * d_ + p_).toNat))) rfl ?_
      refine ih_ (p_ + 1) (sm_aI (sm_aI S_ 192 0 p_.toNat (S_.2.2.1 169 0 (4096 * d_ + p_).toNat)) 193 0 p_.toNat (S_.2.2.1 170 0 (4096 * d_ + p_).toNat)) hIx8_ hFx9_ ⟨?_, ?_, ?_, trivial⟩ ?_
      · omega
      · intro p9_ hp9_
        rw [rd_eq]
        by_cases z9_ : p9_ = p_.toNat
        · rw [if_pos z9_]; first | exact t9_ | (rw [rd_ne (by decide)]; exact t9_)
        · rw [if_neg z9_, rd_ne (by decide)]; exact h1_ p9_ (by omega)
      · intro p9_ hp9_
        by_cases z9_ : p9_ = p_.toNat
        · have u9_ : 4096 * d_.toNat + p9_ = (4096 * d_ + p_).toNat := by omega
          rw [u9_, ← f169_, ← f170_]
          refine ⟨?_, ?_⟩
          · rw [rd_ne (by decide), rd_eq, if_pos z9_]
          · rw [rd_eq, if_pos z9_]; try (first | rfl | rw [rd_ne (by decide)])
        · have w9_ := h3_ p9_ (by omega)
          refine ⟨?_, ?_⟩
          · rw [rd_ne (by decide), rd_eq, if_neg z9_]; exact w9_.1
          · rw [rd_eq, if_neg z9_, rd_ne (by decide)]; exact w9_.2
      · omega
set_option maxHeartbeats 400000 in
set_option maxRecDepth 20000 in
theorem vc_388w {sc_ : Nat × (Nat → Int)} (d_ : Int) (S0_ : sm_S) (hI_ : gi S0_) (hd_ : 0 ≤ d_ ∧ d_ ≤ 5) (hk_ : dRk d_.toNat S0_) : sm_T (mt_P sc_) 0 388 (0, [some (.inr (.inr (some (13, 0)))), some (.inl d_), none], [], S0_) (fun ro9_ => ∃ u_ S1_, ro9_ = (.inl u_, S1_, 0) ∧ vq_388w d_ S0_ u_ S1_) := by
  have hF_ : ai_fr (sx_W vw_388w) S0_ S0_ := ai_fr_rf
  obtain ⟨J1_, J2_, J3_, J4_⟩ := dRk_b hk_
  have w1_ := pw_le (n := (S0_.2.2.1 154 0 d_.toNat).toNat + (S0_.2.2.1 155 0 d_.toNat).toNat) (m := 12) (by omega)
  have w2_ := pw_pos ((S0_.2.2.1 154 0 d_.toNat).toNat + (S0_.2.2.1 155 0 d_.toNat).toNat)
  have w3_ : ((2 ^ ((S0_.2.2.1 154 0 d_.toNat).toNat + (S0_.2.2.1 155 0 d_.toNat).toNat) : Nat) : Int) = (2 : Int) ^ ((S0_.2.2.1 154 0 d_.toNat).toNat + (S0_.2.2.1 155 0 d_.toNat).toNat) := by push_cast; rfl
  refine sm_T_go 2 (c1 := (2, [some (.inr (.inr (some (13, 0)))), some (.inl d_), some (.inl 0)], [], S0_)) rfl ?_
  refine (vl_388w d_ S0_ hd_ hk_ _) 0 S0_ hI_ hF_ ⟨?_, ?_, ?_, trivial⟩ (Nat.lt_succ_self _)
  · omega
  · (intro p9_ hp9_; exfalso; omega)
  · (intro p9_ hp9_; exfalso; omega)
/-! M_.equal -/
/-! M_.never -/
