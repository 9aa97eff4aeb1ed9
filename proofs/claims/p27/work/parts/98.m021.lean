/-! 99.zr3 -/
section
/-! the reference: machines compared; written by wip/p55/gen/vg -/

/-! the_ reference: machines compared -/
theorem or64c {a_ b_ : Int} (ha_ : 0 ≤ a_ ∧ a_ < 64) (hb_ : 0 ≤ b_ ∧ b_ < 64) : i_or b_ (64 * a_) = 64 * a_ + b_ := by
  rw [i_or_c]
  exact or64 ha_ hb_
/-! M_.layA -/
def vw_387 : sx_Wl := ([], [190, 191], [])
def vq_387 (d_ : Int) (S0_ : sm_S) (u_ : Option sm_V) (S1_ : sm_S) : Prop := u_ = none ∧ gi S1_ ∧ ai_fr (sx_W vw_387) S0_ S1_ ∧ (∀ p9_ : Nat, p9_ < 2 ^ ((S0_.2.2.1 154 0 d_.toNat).toNat + (S0_.2.2.1 155 0 d_.toNat).toNat) → 0 ≤ S1_.2.2.1 191 0 p9_ ∧ S1_.2.2.1 191 0 p9_ < 2 ^ (S0_.2.2.1 155 0 d_.toNat).toNat)
set_option maxHeartbeats 400000 in
set_option maxRecDepth 20000 in
theorem vl_387 {sc_ : Nat × (Nat → Int)} (d_ : Int) (S0_ : sm_S) (hd_ : 0 ≤ d_ ∧ d_ ≤ 5) (hk_ : dRk d_.toNat S0_) : ∀ nn_ : Nat, (∀ (p_ : Int) (S_ : sm_S), gi S_ → ai_fr (sx_W vw_387) S0_ S_ → ((0 ≤ p_ ∧ p_ ≤ 2 ^ ((S0_.2.2.1 154 0 d_.toNat).toNat + (S0_.2.2.1 155 0 d_.toNat).toNat)) ∧ (∀ p9_ : Nat, (p9_ : Int) < p_ → 0 ≤ S_.2.2.1 191 0 p9_ ∧ S_.2.2.1 191 0 p9_ < 2 ^ (S0_.2.2.1 155 0 d_.toNat).toNat) ∧ True) → ((5000 - p_).toNat) < nn_ → sm_T (mt_P sc_) 0 387 (2, [some (.inr (.inr (some (13, 0)))), some (.inl d_), some (.inl p_)], [], S_) (fun ro9_ => ∃ u_ S1_, ro9_ = (.inl u_, S1_, 0) ∧ vq_387 d_ S0_ u_ S1_)) := by
  intro nn_
  induction nn_ with
  | zero => exact fun _ _ _ _ _ h_ => absurd h_ (Nat.not_lt_zero _)
  | succ nn_ ih_ =>
    rintro p_ S_ hI_ hF_ ⟨h0_, h1_, -⟩ hm_
    obtain ⟨J1_, J2_, J3_, J4_⟩ := dRk_b hk_
    have w1_ := pw_le (n := (S0_.2.2.1 154 0 d_.toNat).toNat + (S0_.2.2.1 155 0 d_.toNat).toNat) (m := 12) (by omega)
    have w2_ := pw_pos ((S0_.2.2.1 154 0 d_.toNat).toNat + (S0_.2.2.1 155 0 d_.toNat).toNat)
    have w3_ : ((2 ^ ((S0_.2.2.1 154 0 d_.toNat).toNat + (S0_.2.2.1 155 0 d_.toNat).toNat) : Nat) : Int) = (2 : Int) ^ ((S0_.2.2.1 154 0 d_.toNat).toNat + (S0_.2.2.1 155 0 d_.toNat).toNat) := by push_cast; rfl
    have f154_ : S_.2.2.1 154 0 = S0_.2.2.1 154 0 := fr_arr hF_ rfl
    have f155_ : S_.2.2.1 155 0 = S0_.2.2.1 155 0 := fr_arr hF_ rfl
    have f170_ : S_.2.2.1 170 0 = S0_.2.2.1 170 0 := fr_arr hF_ rfl
    have s9_ : i_shl 1 (S_.2.2.1 154 0 d_.toNat + S_.2.2.1 155 0 d_.toNat) = 2 ^ ((S0_.2.2.1 154 0 d_.toNat).toNat + (S0_.2.2.1 155 0 d_.toNat).toNat) := by (rw [f154_, f155_, i_shl1 (by omega) (by omega), show (S0_.2.2.1 154 0 d_.toNat + S0_.2.2.1 155 0 d_.toNat).toNat = (S0_.2.2.1 154 0 d_.toNat).toNat + (S0_.2.2.1 155 0 d_.toNat).toNat by omega])
    refine sm_T_go 5 (c1 := (9, [some (.inr (.inr (some (13, 0)))), some (.inl d_), some (.inl p_)], [.inl d_, .inr (.inr (some (154, 0))), .inl 1, .inl p_], S_)) rfl ?_
    refine sm_T_iald (n := 6) rfl rfl (by omega) (by omega) ?_
    have bx1_ : 0 ≤ S_.2.2.1 154 0 d_.toNat ∧ S_.2.2.1 154 0 d_.toNat ≤ 12 := hI_.2 154 0 _
    refine sm_T_go 3 (c1 := (15, [some (.inr (.inr (some (13, 0)))), some (.inl d_), some (.inl p_)], [.inl d_, .inr (.inr (some (155, 0))), .inl (S_.2.2.1 154 0 d_.toNat), .inl 1, .inl p_], S_)) rfl ?_
    refine sm_T_iald (n := 6) rfl rfl (by omega) (by omega) ?_
    have bx2_ : 0 ≤ S_.2.2.1 155 0 d_.toNat ∧ S_.2.2.1 155 0 d_.toNat ≤ 6 := hI_.2 155 0 _
    refine sm_T_bin (w := (S_.2.2.1 154 0 d_.toNat) + (S_.2.2.1 155 0 d_.toNat)) rfl (bi_add (by omega) (by omega) (by omega)) ?_ -- pc_ 16
    refine sm_T_bin (w := (i_shl 1 ((S_.2.2.1 154 0 d_.toNat) + (S_.2.2.1 155 0 d_.toNat)))) rfl rfl ?_ -- pc_ 17
    refine sm_T_br (a := 3) (z := 45) rfl (fun cx3_ => ?_) (fun cx3_ => ?_)
    · have cx3_ : (i_shl 1 ((S_.2.2.1 154 0 d_.toNat) + (S_.2.2.1 155 0 d_.toNat))) ≤ p_ := of_decide_eq_true cx3_
      refine sm_T_rv rfl ⟨_, _, rfl, rfl, hI_, hF_, ?_⟩
      intro p9_ hp9_
      exact h1_ p9_ (by omega)
    · have cx3_ : ¬ ((i_shl 1 ((S_.2.2.1 154 0 d_.toNat) + (S_.2.2.1 155 0 d_.toNat))) ≤ p_) := of_decide_eq_false cx3_
      have t9_ := J4_ p_.toNat (by omega)
      rw [← f170_, show 4096 * d_.toNat + p_.toNat = (4096 * d_ + p_).toNat by omega] at t9_
      refine sm_T_go 7 (c1 := (34, [some (.inr (.inr (some (13, 0)))), some (.inl d_), some (.inl p_)], [.inl d_, .inl 4096, .inr (.inr (some (169, 0))), .inl p_, .inr (.inr (some (190, 0)))], S_)) rfl ?_
      refine sm_T_bin (w := 4096 * d_) rfl (bi_mul (by omega) (by omega) (by omega)) ?_ -- pc_ 34
      refine sm_T_go 1 (c1 := (36, [some (.inr (.inr (some (13, 0)))), some (.inl d_), some (.inl p_)], [.inl p_, .inl (4096 * d_), .inr (.inr (some (169, 0))), .inl p_, .inr (.inr (some (190, 0)))], S_)) rfl ?_
      refine sm_T_bin (w := 4096 * d_ + p_) rfl (bi_add (by omega) (by omega) (by omega)) ?_ -- pc_ 36
      refine sm_T_iald (n := 24576) rfl rfl (by omega) (by omega) ?_
      have bx4_ : 0 ≤ S_.2.2.1 169 0 (4096 * d_ + p_).toNat ∧ S_.2.2.1 169 0 (4096 * d_ + p_).toNat ≤ 65535 := hI_.2 169 0 _
      refine sm_T_iast (n := 4096) rfl rfl (by omega) (by omega) ?_
      have hIx5_ : gi (sm_aI S_ 190 0 p_.toNat (S_.2.2.1 169 0 (4096 * d_ + p_).toNat)) := gi_aI hI_ (show 0 ≤ (S_.2.2.1 169 0 (4096 * d_ + p_).toNat) ∧ (S_.2.2.1 169 0 (4096 * d_ + p_).toNat) ≤ 65535 from ⟨by omega, by omega⟩)
      have hFx6_ : ai_fr (sx_W vw_387) S0_ (sm_aI S_ 190 0 p_.toNat (S_.2.2.1 169 0 (4096 * d_ + p_).toNat)) := ai_fr_tr hF_ (ai_fr_aI rfl)
      refine sm_T_go 7 (c1 := (52, [some (.inr (.inr (some (13, 0)))), some (.inl d_), some (.inl p_)], [.inl d_, .inl 4096, .inr (.inr (some (170, 0))), .inl p_, .inr (.inr (some (191, 0)))], sm_aI S_ 190 0 p_.toNat (S_.2.2.1 169 0 (4096 * d_ + p_).toNat))) rfl ?_
      refine sm_T_bin (w := 4096 * d_) rfl (bi_mul (by omega) (by omega) (by omega)) ?_ -- pc_ 52
      refine sm_T_go 1 (c1 := (54, [some (.inr (.inr (some (13, 0)))), some (.inl d_), some (.inl p_)], [.inl p_, .inl (4096 * d_), .inr (.inr (some (170, 0))), .inl p_, .inr (.inr (some (191, 0)))], sm_aI S_ 190 0 p_.toNat (S_.2.2.1 169 0 (4096 * d_ + p_).toNat))) rfl ?_
      refine sm_T_bin (w := 4096 * d_ + p_) rfl (bi_add (by omega) (by omega) (by omega)) ?_ -- pc_ 54
      refine sm_T_iald (n := 24576) rfl rfl (by omega) (by omega) ?_
      have bx7_ : 0 ≤ S_.2.2.1 170 0 (4096 * d_ + p_).toNat ∧ S_.2.2.1 170 0 (4096 * d_ + p_).toNat ≤ 63 := hI_.2 170 0 _
      refine sm_T_go 0 (c1 := (56, [some (.inr (.inr (some (13, 0)))), some (.inl d_), some (.inl p_)], [.inl (S_.2.2.1 170 0 (4096 * d_ + p_).toNat), .inl p_, .inr (.inr (some (191, 0)))], sm_aI S_ 190 0 p_.toNat (S_.2.2.1 169 0 (4096 * d_ + p_).toNat))) rfl ?_
      refine sm_T_iast (n := 4096) rfl rfl (by omega) (by omega) ?_
      have hIx8_ : gi (sm_aI (sm_aI S_ 190 0 p_.toNat (S_.2.2.1 169 0 (4096 * d_ + p_).toNat)) 191 0 p_.toNat (S_.2.2.1 170 0 (4096 * d_ + p_).toNat)) := gi_aI hIx5_ (show 0 ≤ (S_.2.2.1 170 0 (4096 * d_ + p_).toNat) ∧ (S_.2.2.1 170 0 (4096 * d_ + p_).toNat) ≤ 63 from ⟨by omega, by omega⟩)
      have hFx9_ : ai_fr (sx_W vw_387) S0_ (sm_aI (sm_aI S_ 190 0 p_.toNat (S_.2.2.1 169 0 (4096 * d_ + p_).toNat)) 191 0 p_.toNat (S_.2.2.1 170 0 (4096 * d_ + p_).toNat)) := ai_fr_tr hFx6_ (ai_fr_aI rfl)
      refine sm_T_inc (a := 2) (z := 1) (v := p_) (w := p_ + 1) rfl rfl (by omega) (by omega) (by omega) ?_ -- pc_ 57
      refine sm_T_go 1 (c1 := (2, [some (.inr (.inr (some (13, 0)))), some (.inl d_), some (.inl (p_ + 1))], [], sm_aI (sm_aI S_ 190 0 p_.toNat (S_.2.2.1 169 0 (4096 * d_ + p_).toNat)) 191 0 p_.toNat (S_.2.2.1 170 0 (4096 * d_ + p_).toNat))) rfl ?_
      refine ih_ (p_ + 1) (sm_aI (sm_aI S_ 190 0 p_.toNat (S_.2.2.1 169 0 (4096 * d_ + p_).toNat)) 191 0 p_.toNat (S_.2.2.1 170 0 (4096 * d_ + p_).toNat)) hIx8_ hFx9_ ⟨?_, ?_, trivial⟩ ?_
      · omega
      · intro p9_ hp9_
        rw [rd_eq]
        by_cases z9_ : p9_ = p_.toNat
        · rw [if_pos z9_]; first | exact t9_ | (rw [rd_ne (by decide)]; exact t9_)
        · rw [if_neg z9_, rd_ne (by decide)]; exact h1_ p9_ (by omega)
      · omega
set_option maxHeartbeats 400000 in
set_option maxRecDepth 20000 in
theorem vc_387 {sc_ : Nat × (Nat → Int)} (d_ : Int) (S0_ : sm_S) (hI_ : gi S0_) (hd_ : 0 ≤ d_ ∧ d_ ≤ 5) (hk_ : dRk d_.toNat S0_) : sm_T (mt_P sc_) 0 387 (0, [some (.inr (.inr (some (13, 0)))), some (.inl d_), none], [], S0_) (fun ro9_ => ∃ u_ S1_, ro9_ = (.inl u_, S1_, 0) ∧ vq_387 d_ S0_ u_ S1_) := by
  have hF_ : ai_fr (sx_W vw_387) S0_ S0_ := ai_fr_rf
  obtain ⟨J1_, J2_, J3_, J4_⟩ := dRk_b hk_
  have w1_ := pw_le (n := (S0_.2.2.1 154 0 d_.toNat).toNat + (S0_.2.2.1 155 0 d_.toNat).toNat) (m := 12) (by omega)
  have w2_ := pw_pos ((S0_.2.2.1 154 0 d_.toNat).toNat + (S0_.2.2.1 155 0 d_.toNat).toNat)
  have w3_ : ((2 ^ ((S0_.2.2.1 154 0 d_.toNat).toNat + (S0_.2.2.1 155 0 d_.toNat).toNat) : Nat) : Int) = (2 : Int) ^ ((S0_.2.2.1 154 0 d_.toNat).toNat + (S0_.2.2.1 155 0 d_.toNat).toNat) := by push_cast; rfl
  refine sm_T_go 2 (c1 := (2, [some (.inr (.inr (some (13, 0)))), some (.inl d_), some (.inl 0)], [], S0_)) rfl ?_
  refine (vl_387 d_ S0_ hd_ hk_ _) 0 S0_ hI_ hF_ ⟨?_, ?_, trivial⟩ (Nat.lt_succ_self _)
  · omega
  · (intro p9_ hp9_; exfalso; omega)
/-! M_.layB -/
def vw_388 : sx_Wl := ([], [192, 193], [])
def vq_388 (d_ : Int) (S0_ : sm_S) (u_ : Option sm_V) (S1_ : sm_S) : Prop := u_ = none ∧ gi S1_ ∧ ai_fr (sx_W vw_388) S0_ S1_ ∧ (∀ p9_ : Nat, p9_ < 2 ^ ((S0_.2.2.1 154 0 d_.toNat).toNat + (S0_.2.2.1 155 0 d_.toNat).toNat) → 0 ≤ S1_.2.2.1 193 0 p9_ ∧ S1_.2.2.1 193 0 p9_ < 2 ^ (S0_.2.2.1 155 0 d_.toNat).toNat)
set_option maxHeartbeats 400000 in
set_option maxRecDepth 20000 in
theorem vl_388 {sc_ : Nat × (Nat → Int)} (d_ : Int) (S0_ : sm_S) (hd_ : 0 ≤ d_ ∧ d_ ≤ 5) (hk_ : dRk d_.toNat S0_) : ∀ nn_ : Nat, (∀ (p_ : Int) (S_ : sm_S), gi S_ → ai_fr (sx_W vw_388) S0_ S_ → ((0 ≤ p_ ∧ p_ ≤ 2 ^ ((S0_.2.2.1 154 0 d_.toNat).toNat + (S0_.2.2.1 155 0 d_.toNat).toNat)) ∧ (∀ p9_ : Nat, (p9_ : Int) < p_ → 0 ≤ S_.2.2.1 193 0 p9_ ∧ S_.2.2.1 193 0 p9_ < 2 ^ (S0_.2.2.1 155 0 d_.toNat).toNat) ∧ True) → ((5000 - p_).toNat) < nn_ → sm_T (mt_P sc_) 0 388 (2, [some (.inr (.inr (some (13, 0)))), some (.inl d_), some (.inl p_)], [], S_) (fun ro9_ => ∃ u_ S1_, ro9_ = (.inl u_, S1_, 0) ∧ vq_388 d_ S0_ u_ S1_)) := by
  intro nn_
  induction nn_ with
  | zero => exact fun _ _ _ _ _ h_ => absurd h_ (Nat.not_lt_zero _)
  | succ nn_ ih_ =>
    rintro p_ S_ hI_ hF_ ⟨h0_, h1_, -⟩ hm_
    obtain ⟨J1_, J2_, J3_, J4_⟩ := dRk_b hk_
    have w1_ := pw_le (n := (S0_.2.2.1 154 0 d_.toNat).toNat + (S0_.2.2.1 155 0 d_.toNat).toNat) (m := 12) (by omega)
    have w2_ := pw_pos ((S0_.2.2.1 154 0 d_.toNat).toNat + (S0_.2.2.1 155 0 d_.toNat).toNat)
    have w3_ : ((2 ^ ((S0_.2.2.1 154 0 d_.toNat).toNat + (S0_.2.2.1 155 0 d_.toNat).toNat) : Nat) : Int) = (2 : Int) ^ ((S0_.2.2.1 154 0 d_.toNat).toNat + (S0_.2.2.1 155 0 d_.toNat).toNat) := by push_cast; rfl
    have f154_ : S_.2.2.1 154 0 = S0_.2.2.1 154 0 := fr_arr hF_ rfl
    have f155_ : S_.2.2.1 155 0 = S0_.2.2.1 155 0 := fr_arr hF_ rfl
    have f170_ : S_.2.2.1 170 0 = S0_.2.2.1 170 0 := fr_arr hF_ rfl
    have s9_ : i_shl 1 (S_.2.2.1 154 0 d_.toNat + S_.2.2.1 155 0 d_.toNat) = 2 ^ ((S0_.2.2.1 154 0 d_.toNat).toNat + (S0_.2.2.1 155 0 d_.toNat).toNat) := by (rw [f154_, f155_, i_shl1 (by omega) (by omega), show (S0_.2.2.1 154 0 d_.toNat + S0_.2.2.1 155 0 d_.toNat).toNat = (S0_.2.2.1 154 0 d_.toNat).toNat + (S0_.2.2.1 155 0 d_.toNat).toNat by omega])
    refine sm_T_go 5 (c1 := (9, [some (.inr (.inr (some (13, 0)))), some (.inl d_), some (.inl p_)], [.inl d_, .inr (.inr (some (154, 0))), .inl 1, .inl p_], S_)) rfl ?_
    refine sm_T_iald (n := 6) rfl rfl (by omega) (by omega) ?_
    have bx1_ : 0 ≤ S_.2.2.1 154 0 d_.toNat ∧ S_.2.2.1 154 0 d_.toNat ≤ 12 := hI_.2 154 0 _
    refine sm_T_go 3 (c1 := (15, [some (.inr (.inr (some (13, 0)))), some (.inl d_), some (.inl p_)], [.inl d_, .inr (.inr (some (155, 0))), .inl (S_.2.2.1 154 0 d_.toNat), .inl 1, .inl p_], S_)) rfl ?_
    refine sm_T_iald (n := 6) rfl rfl (by omega) (by omega) ?_
    have bx2_ : 0 ≤ S_.2.2.1 155 0 d_.toNat ∧ S_.2.2.1 155 0 d_.toNat ≤ 6 := hI_.2 155 0 _
    refine sm_T_bin (w := (S_.2.2.1 154 0 d_.toNat) + (S_.2.2.1 155 0 d_.toNat)) rfl (bi_add (by omega) (by omega) (by omega)) ?_ -- pc_ 16
    refine sm_T_bin (w := (i_shl 1 ((S_.2.2.1 154 0 d_.toNat) + (S_.2.2.1 155 0 d_.toNat)))) rfl rfl ?_ -- pc_ 17
    refine sm_T_br (a := 3) (z := 45) rfl (fun cx3_ => ?_) (fun cx3_ => ?_)
    · have cx3_ : (i_shl 1 ((S_.2.2.1 154 0 d_.toNat) + (S_.2.2.1 155 0 d_.toNat))) ≤ p_ := of_decide_eq_true cx3_
      refine sm_T_rv rfl ⟨_, _, rfl, rfl, hI_, hF_, ?_⟩
      intro p9_ hp9_
      exact h1_ p9_ (by omega)
    · have cx3_ : ¬ ((i_shl 1 ((S_.2.2.1 154 0 d_.toNat) + (S_.2.2.1 155 0 d_.toNat))) ≤ p_) := of_decide_eq_false cx3_
      have t9_ := J4_ p_.toNat (by omega)
      rw [← f170_, show 4096 * d_.toNat + p_.toNat = (4096 * d_ + p_).toNat by omega] at t9_
      refine sm_T_go 7 (c1 := (34, [some (.inr (.inr (some (13, 0)))), some (.inl d_), some (.inl p_)], [.inl d_, .inl 4096, .inr (.inr (some (169, 0))), .inl p_, .inr (.inr (some (192, 0)))], S_)) rfl ?_
      refine sm_T_bin (w := 4096 * d_) rfl (bi_mul (by omega) (by omega) (by omega)) ?_ -- pc_ 34
      refine sm_T_go 1 (c1 := (36, [some (.inr (.inr (some (13, 0)))), some (.inl d_), some (.inl p_)], [.inl p_, .inl (4096 * d_), .inr (.inr (some (169, 0))), .inl p_, .inr (.inr (some (192, 0)))], S_)) rfl ?_
      refine sm_T_bin (w := 4096 * d_ + p_) rfl (bi_add (by omega) (by omega) (by omega)) ?_ -- pc_ 36
      refine sm_T_iald (n := 24576) rfl rfl (by omega) (by omega) ?_
      have bx4_ : 0 ≤ S_.2.2.1 169 0 (4096 * d_ + p_).toNat ∧ S_.2.2.1 169 0 (4096 * d_ + p_).toNat ≤ 65535 := hI_.2 169 0 _
      refine sm_T_iast (n := 4096) rfl rfl (by omega) (by omega) ?_
      have hIx5_ : gi (sm_aI S_ 192 0 p_.toNat (S_.2.2.1 169 0 (4096 * d_ + p_).toNat)) := gi_aI hI_ (show 0 ≤ (S_.2.2.1 169 0 (4096 * d_ + p_).toNat) ∧ (S_.2.2.1 169 0 (4096 * d_ + p_).toNat) ≤ 65535 from ⟨by omega, by omega⟩)
      have hFx6_ : ai_fr (sx_W vw_388) S0_ (sm_aI S_ 192 0 p_.toNat (S_.2.2.1 169 0 (4096 * d_ + p_).toNat)) := ai_fr_tr hF_ (ai_fr_aI rfl)
      refine sm_T_go 7 (c1 := (52, [some (.inr (.inr (some (13, 0)))), some (.inl d_), some (.inl p_)], [.inl d_, .inl 4096, .inr (.inr (some (170, 0))), .inl p_, .inr (.inr (some (193, 0)))], sm_aI S_ 192 0 p_.toNat (S_.2.2.1 169 0 (4096 * d_ + p_).toNat))) rfl ?_
      refine sm_T_bin (w := 4096 * d_) rfl (bi_mul (by omega) (by omega) (by omega)) ?_ -- pc_ 52
      refine sm_T_go 1 (c1 := (54, [some (.inr (.inr (some (13, 0)))), some (.inl d_), some (.inl p_)], [.inl p_, .inl (4096 * d_), .inr (.inr (some (170, 0))), .inl p_, .inr (.inr (some (193, 0)))], sm_aI S_ 192 0 p_.toNat (S_.2.2.1 169 0 (4096 * d_ + p_).toNat))) rfl ?_
      refine sm_T_bin (w := 4096 * d_ + p_) rfl (bi_add (by omega) (by omega) (by omega)) ?_ -- pc_ 54
      refine sm_T_iald (n := 24576) rfl rfl (by omega) (by omega) ?_
      have bx7_ : 0 ≤ S_.2.2.1 170 0 (4096 * d_ + p_).toNat ∧ S_.2.2.1 170 0 (4096 * d_ + p_).toNat ≤ 63 := hI_.2 170 0 _
      refine sm_T_go 0 (c1 := (56, [some (.inr (.inr (some (13, 0)))), some (.inl d_), some (.inl p_)], [.inl (S_.2.2.1 170 0 (4096 * d_ + p_).toNat), .inl p_, .inr (.inr (some (193, 0)))], sm_aI S_ 192 0 p_.toNat (S_.2.2.1 169 0 (4096 * d_ + p_).toNat))) rfl ?_
      refine sm_T_iast (n := 4096) rfl rfl (by omega) (by omega) ?_
      have hIx8_ : gi (sm_aI (sm_aI S_ 192 0 p_.toNat (S_.2.2.1 169 0 (4096 * d_ + p_).toNat)) 193 0 p_.toNat (S_.2.2.1 170 0 (4096 * d_ + p_).toNat)) := gi_aI hIx5_ (show 0 ≤ (S_.2.2.1 170 0 (4096 * d_ + p_).toNat) ∧ (S_.2.2.1 170 0 (4096 * d_ + p_).toNat) ≤ 63 from ⟨by omega, by omega⟩)
      have hFx9_ : ai_fr (sx_W vw_388) S0_ (sm_aI (sm_aI S_ 192 0 p_.toNat (S_.2.2.1 169 0 (4096 * d_ + p_).toNat)) 193 0 p_.toNat (S_.2.2.1 170 0 (4096 * d_ + p_).toNat)) := ai_fr_tr hFx6_ (ai_fr_aI rfl)
      refine sm_T_inc (a := 2) (z := 1) (v := p_) (w := p_ + 1) rfl rfl (by omega) (by omega) (by omega) ?_ -- pc_ 57
      refine sm_T_go 1 (c1 := (2, [some (.inr (.inr (some (13, 0)))), some (.inl d_), some (.inl (p_ + 1))], [], sm_aI (sm_aI S_ 192 0 p_.toNat (S_.2.2.1 169 0 (4096 * d_ + p_).toNat)) 193 0 p_.toNat (S_.2.2.1 170 0 (4096 * d_ + p_).toNat))) rfl ?_
      refine ih_ (p_ + 1) (sm_aI (sm_aI S_ 192 0 p_.toNat (S_.2.2.1 169 0 (4096 * d_ + p_).toNat)) 193 0 p_.toNat (S_.2.2.1 170 0 (4096 * d_ + p_).toNat)) hIx8_ hFx9_ ⟨?_, ?_, trivial⟩ ?_
      · omega
      · intro p9_ hp9_
        rw [rd_eq]
        by_cases z9_ : p9_ = p_.toNat
        · rw [if_pos z9_]; first | exact t9_ | (rw [rd_ne (by decide)]; exact t9_)
        · rw [if_neg z9_, rd_ne (by decide)]; exact h1_ p9_ (by omega)
      · omega
set_option maxHeartbeats 400000 in
set_option maxRecDepth 20000 in
theorem vc_388 {sc_ : Nat × (Nat → Int)} (d_ : Int) (S0_ : sm_S) (hI_ : gi S0_) (hd_ : 0 ≤ d_ ∧ d_ ≤ 5) (hk_ : dRk d_.toNat S0_) : sm_T (mt_P sc_) 0 388 (0, [some (.inr (.inr (some (13, 0)))), some (.inl d_), none], [], S0_) (fun ro9_ => ∃ u_ S1_, ro9_ = (.inl u_, S1_, 0) ∧ vq_388 d_ S0_ u_ S1_) := by
  have hF_ : ai_fr (sx_W vw_388) S0_ S0_ := ai_fr_rf
  obtain ⟨J1_, J2_, J3_, J4_⟩ := dRk_b hk_
  have w1_ := pw_le (n := (S0_.2.2.1 154 0 d_.toNat).toNat + (S0_.2.2.1 155 0 d_.toNat).toNat) (m := 12) (by omega)
  have w2_ := pw_pos ((S0_.2.2.1 154 0 d_.toNat).toNat + (S0_.2.2.1 155 0 d_.toNat).toNat)
  have w3_ : ((2 ^ ((S0_.2.2.1 154 0 d_.toNat).toNat + (S0_.2.2.1 155 0 d_.toNat).toNat) : Nat) : Int) = (2 : Int) ^ ((S0_.2.2.1 154 0 d_.toNat).toNat + (S0_.2.2.1 155 0 d_.toNat).toNat) := by push_cast; rfl
  refine sm_T_go 2 (c1 := (2, [some (.inr (.inr (some (13, 0)))), some (.inl d_), some (.inl 0)], [], S0_)) rfl ?_
  refine (vl_388 d_ S0_ hd_ hk_ _) 0 S0_ hI_ hF_ ⟨?_, ?_, trivial⟩ (Nat.lt_succ_self _)
  · omega
  · (intro p9_ hp9_; exfalso; omega)
/-! M_.tellWitness -/
def vw_385 : sx_Wl := ([(13, 95)], [189], [])
def vq_385 (pl_ : Int) (ip_ : Int) (S0_ : sm_S) (u_ : Option sm_V) (S1_ : sm_S) : Prop := ∃ v_ : Int, u_ = some (.inl v_) ∧ gi S1_ ∧ ai_fr (sx_W vw_385) S0_ S1_ ∧ (0 ≤ v_ ∧ v_ ≤ 4096)
set_option maxHeartbeats 400000 in
set_option maxRecDepth 20000 in
theorem vl_385 {sc_ : Nat × (Nat → Int)} (pl_ : Int) (ip_ : Int) (S0_ : sm_S) (hp_ : 0 ≤ pl_ ∧ pl_ ≤ 4095) (hi_ : 0 ≤ ip_ ∧ ip_ ≤ 4095) : ∀ nn_ : Nat, (∀ (mn : Int) (k_ : Int) (i_ : Int) (S_ : sm_S), gi S_ → ai_fr (sx_W vw_385) S0_ S_ → ((1 ≤ mn ∧ mn ≤ 4096 ∧ -1 ≤ i_ ∧ i_ ≤ mn - 2 ∧ 0 ≤ k_ ∧ k_ ≤ 4095) ∧ True) → ((i_ + 2).toNat) < nn_ → sm_T (mt_P sc_) 0 385 (31, [some (.inr (.inr (some (13, 0)))), some (.inl pl_), some (.inl ip_), some (.inl mn), some (.inl k_), some (.inl i_)], [], S_) (fun ro9_ => ∃ u_ S1_, ro9_ = (.inl u_, S1_, 0) ∧ vq_385 pl_ ip_ S0_ u_ S1_)) := by
  intro nn_
  induction nn_ with
  | zero => exact fun _ _ _ _ _ _ _ h_ => absurd h_ (Nat.not_lt_zero _)
  | succ nn_ ih_ =>
    rintro mn k_ i_ S_ hI_ hF_ ⟨h0_, -⟩ hm_
    refine sm_T_go 1 (c1 := (33, [some (.inr (.inr (some (13, 0)))), some (.inl pl_), some (.inl ip_), some (.inl mn), some (.inl k_), some (.inl i_)], [.inl i_], S_)) rfl ?_
    refine sm_T_b0 (a := 2) (z := 32) rfl (fun cx1_ => ?_) (fun cx1_ => ?_)
    · have cx1_ : i_ < 0 := of_decide_eq_true cx1_
      refine sm_T_go 1 (c1 := (66, [some (.inr (.inr (some (13, 0)))), some (.inl pl_), some (.inl ip_), some (.inl mn), some (.inl k_), some (.inl i_)], [.inl mn], S_)) rfl ?_
      refine sm_T_ri rfl ⟨_, _, rfl, _, rfl, hI_, hF_, ?_⟩
      omega
    · have cx1_ : ¬ (i_ < 0) := of_decide_eq_false cx1_
      refine sm_T_go 6 (c1 := (48, [some (.inr (.inr (some (13, 0)))), some (.inl pl_), some (.inl ip_), some (.inl mn), some (.inl k_), some (.inl i_)], [.inl k_, .inr (.inr (some (196, 0))), .inl i_, .inr (.inr (some (189, 0)))], S_)) rfl ?_
      refine sm_T_iald (n := 4096) rfl rfl (by omega) (by omega) ?_
      have bx2_ : 0 ≤ S_.2.2.1 196 0 k_.toNat ∧ S_.2.2.1 196 0 k_.toNat ≤ 4095 := hI_.2 196 0 _
      refine sm_T_iast (n := 4200) rfl rfl (by omega) (by omega) ?_
      have hIx3_ : gi (sm_aI S_ 189 0 i_.toNat (S_.2.2.1 196 0 k_.toNat)) := gi_aI hI_ (show 0 ≤ (S_.2.2.1 196 0 k_.toNat) ∧ (S_.2.2.1 196 0 k_.toNat) ≤ 4095 from ⟨by omega, by omega⟩)
      have hFx4_ : ai_fr (sx_W vw_385) S0_ (sm_aI S_ 189 0 i_.toNat (S_.2.2.1 196 0 k_.toNat)) := ai_fr_tr hF_ (ai_fr_aI rfl)
      refine sm_T_go 3 (c1 := (56, [some (.inr (.inr (some (13, 0)))), some (.inl pl_), some (.inl ip_), some (.inl mn), some (.inl k_), some (.inl i_)], [.inl k_, .inr (.inr (some (195, 0)))], sm_aI S_ 189 0 i_.toNat (S_.2.2.1 196 0 k_.toNat))) rfl ?_
      refine sm_T_iald (n := 4096) rfl rfl (by omega) (by omega) ?_
      have bx5_ : 0 ≤ S_.2.2.1 195 0 k_.toNat ∧ S_.2.2.1 195 0 k_.toNat ≤ 4095 := hI_.2 195 0 _
      refine sm_T_go 1 (c1 := (59, [some (.inr (.inr (some (13, 0)))), some (.inl pl_), some (.inl ip_), some (.inl mn), some (.inl (S_.2.2.1 195 0 k_.toNat)), some (.inl i_)], [], sm_aI S_ 189 0 i_.toNat (S_.2.2.1 196 0 k_.toNat))) rfl ?_
      refine sm_T_inc (a := 5) (z := (-1)) (v := i_) (w := i_ - 1) rfl rfl (by omega) (by omega) (by omega) ?_ -- pc_ 59
      refine sm_T_go 1 (c1 := (31, [some (.inr (.inr (some (13, 0)))), some (.inl pl_), some (.inl ip_), some (.inl mn), some (.inl (S_.2.2.1 195 0 k_.toNat)), some (.inl (i_ - 1))], [], sm_aI S_ 189 0 i_.toNat (S_.2.2.1 196 0 k_.toNat))) rfl ?_
      refine ih_ mn (S_.2.2.1 195 0 k_.toNat) (i_ - 1) (sm_aI S_ 189 0 i_.toNat (S_.2.2.1 196 0 k_.toNat)) hIx3_ hFx4_ ⟨?_, trivial⟩ ?_
      · omega
      · omega
set_option maxHeartbeats 400000 in
set_option maxRecDepth 20000 in
theorem vc_385 {sc_ : Nat × (Nat → Int)} (pl_ : Int) (ip_ : Int) (S0_ : sm_S) (hI_ : gi S0_) (hp_ : 0 ≤ pl_ ∧ pl_ ≤ 4095) (hi_ : 0 ≤ ip_ ∧ ip_ ≤ 4095) : sm_T (mt_P sc_) 0 385 (0, [some (.inr (.inr (some (13, 0)))), some (.inl pl_), some (.inl ip_), none, none, none], [], S0_) (fun ro9_ => ∃ u_ S1_, ro9_ = (.inl u_, S1_, 0) ∧ vq_385 pl_ ip_ S0_ u_ S1_) := by
  have hF_ : ai_fr (sx_W vw_385) S0_ S0_ := ai_fr_rf
  refine sm_T_go 3 (c1 := (5, [some (.inr (.inr (some (13, 0)))), some (.inl pl_), some (.inl ip_), none, none, none], [.inl pl_, .inr (.inr (some (197, 0)))], S0_)) rfl ?_
  refine sm_T_iald (n := 4096) rfl rfl (by omega) (by omega) ?_
  have bx1_ : 0 ≤ S0_.2.2.1 197 0 pl_.toNat ∧ S0_.2.2.1 197 0 pl_.toNat ≤ 4095 := hI_.2 197 0 _
  refine sm_T_go 1 (c1 := (7, [some (.inr (.inr (some (13, 0)))), some (.inl pl_), some (.inl ip_), none, none, none], [.inl 1, .inl (S0_.2.2.1 197 0 pl_.toNat)], S0_)) rfl ?_
  refine sm_T_bin (w := (S0_.2.2.1 197 0 pl_.toNat) + 1) rfl (bi_add (by omega) (by omega) (by omega)) ?_ -- pc_ 7
  have hIx2_ : gi (sm_pI S0_ 13 0 95 ((S0_.2.2.1 197 0 pl_.toNat) + 1)) := gi_pI hI_ (show 0 ≤ (S0_.2.2.1 197 0 pl_.toNat) + 1 ∧ (S0_.2.2.1 197 0 pl_.toNat) + 1 ≤ 4097 from ⟨by omega, by omega⟩)
  have hFx3_ : ai_fr (sx_W vw_385) S0_ (sm_pI S0_ 13 0 95 ((S0_.2.2.1 197 0 pl_.toNat) + 1)) := ai_fr_tr hF_ (ai_fr_pI rfl)
  refine sm_T_go 8 (c1 := (20, [some (.inr (.inr (some (13, 0)))), some (.inl pl_), some (.inl ip_), some (.inl ((S0_.2.2.1 197 0 pl_.toNat) + 1)), none, none], [.inl 1, .inl ((S0_.2.2.1 197 0 pl_.toNat) + 1), .inr (.inr (some (189, 0)))], sm_pI S0_ 13 0 95 ((S0_.2.2.1 197 0 pl_.toNat) + 1))) rfl ?_
  refine sm_T_bin (w := (S0_.2.2.1 197 0 pl_.toNat)) rfl (bi_sub (by omega) (by omega) (by omega)) ?_ -- pc_ 20
  refine sm_T_go 1 (c1 := (22, [some (.inr (.inr (some (13, 0)))), some (.inl pl_), some (.inl ip_), some (.inl ((S0_.2.2.1 197 0 pl_.toNat) + 1)), none, none], [.inl ip_, .inl (S0_.2.2.1 197 0 pl_.toNat), .inr (.inr (some (189, 0)))], sm_pI S0_ 13 0 95 ((S0_.2.2.1 197 0 pl_.toNat) + 1))) rfl ?_
  refine sm_T_iast (n := 4200) rfl rfl (by omega) (by omega) ?_
  have hIx4_ : gi (sm_aI (sm_pI S0_ 13 0 95 ((S0_.2.2.1 197 0 pl_.toNat) + 1)) 189 0 (S0_.2.2.1 197 0 pl_.toNat).toNat ip_) := gi_aI hIx2_ (show 0 ≤ ip_ ∧ ip_ ≤ 4095 from ⟨by omega, by omega⟩)
  have hFx5_ : ai_fr (sx_W vw_385) S0_ (sm_aI (sm_pI S0_ 13 0 95 ((S0_.2.2.1 197 0 pl_.toNat) + 1)) 189 0 (S0_.2.2.1 197 0 pl_.toNat).toNat ip_) := ai_fr_tr hFx3_ (ai_fr_aI rfl)
  refine sm_T_go 4 (c1 := (28, [some (.inr (.inr (some (13, 0)))), some (.inl pl_), some (.inl ip_), some (.inl ((S0_.2.2.1 197 0 pl_.toNat) + 1)), some (.inl pl_), none], [.inl 2, .inl ((S0_.2.2.1 197 0 pl_.toNat) + 1)], sm_aI (sm_pI S0_ 13 0 95 ((S0_.2.2.1 197 0 pl_.toNat) + 1)) 189 0 (S0_.2.2.1 197 0 pl_.toNat).toNat ip_)) rfl ?_
  refine sm_T_bin (w := (S0_.2.2.1 197 0 pl_.toNat) - 1) rfl (bi_sub (by omega) (by omega) (by omega)) ?_ -- pc_ 28
  refine sm_T_go 1 (c1 := (31, [some (.inr (.inr (some (13, 0)))), some (.inl pl_), some (.inl ip_), some (.inl ((S0_.2.2.1 197 0 pl_.toNat) + 1)), some (.inl pl_), some (.inl ((S0_.2.2.1 197 0 pl_.toNat) - 1))], [], sm_aI (sm_pI S0_ 13 0 95 ((S0_.2.2.1 197 0 pl_.toNat) + 1)) 189 0 (S0_.2.2.1 197 0 pl_.toNat).toNat ip_)) rfl ?_
  refine (vl_385 pl_ ip_ S0_ hp_ hi_ _) ((S0_.2.2.1 197 0 pl_.toNat) + 1) pl_ ((S0_.2.2.1 197 0 pl_.toNat) - 1) (sm_aI (sm_pI S0_ 13 0 95 ((S0_.2.2.1 197 0 pl_.toNat) + 1)) 189 0 (S0_.2.2.1 197 0 pl_.toNat).toNat ip_) hIx4_ hFx5_ ⟨?_, trivial⟩ (Nat.lt_succ_self _)
  · omega
/-! M_.search -/
def vw_386 : sx_Wl := ([(13, 95)], [189, 194, 195, 196, 197, 198], [])
def vq_386 (ip_ : Int) (bA_ : Int) (bB_ : Int) (sA_ : Nat) (sB_ : Nat) (S0_ : sm_S) (u_ : Option sm_V) (S1_ : sm_S) : Prop := ∃ v_ : Int, u_ = some (.inl v_) ∧ gi S1_ ∧ ai_fr (sx_W vw_386) S0_ S1_ ∧ (0 ≤ v_ ∧ v_ ≤ 4096)
set_option maxHeartbeats 2000000 in
set_option maxRecDepth 20000 in
theorem vl_386 {sc_ : Nat × (Nat → Int)} (ip_ : Int) (bA_ : Int) (bB_ : Int) (sA_ : Nat) (sB_ : Nat) (S0_ : sm_S) (hi_ : 0 ≤ ip_ ∧ ip_ + sA_ ≤ 12 ∧ ip_ + sB_ ≤ 12 ∧ sA_ ≤ 6 ∧ sB_ ≤ 6) (hbA_ : 0 ≤ bA_ ∧ bA_ < 2 ^ sA_) (hbB_ : 0 ≤ bB_ ∧ bB_ < 2 ^ sB_) (htA_ : ∀ p9_ : Nat, p9_ < 2 ^ (ip_.toNat + sA_) → 0 ≤ S0_.2.2.1 191 0 p9_ ∧ S0_.2.2.1 191 0 p9_ < 2 ^ sA_) (htB_ : ∀ p9_ : Nat, p9_ < 2 ^ (ip_.toNat + sB_) → 0 ≤ S0_.2.2.1 193 0 p9_ ∧ S0_.2.2.1 193 0 p9_ < 2 ^ sB_) : ∀ nn_ : Nat, (∀ (k_ : Int) (S_ : sm_S), gi S_ → ai_fr (sx_W vw_386) S0_ S_ → ((0 ≤ k_ ∧ k_ ≤ 4096) ∧ (∀ j9_ : Nat, (j9_ : Int) < k_ → S_.2.2.1 198 0 j9_ = 0) ∧ True) → ((90000000 - k_).toNat) < nn_ → sm_T (mt_P sc_) 1 386 (8, [some (.inr (.inr (some (13, 0)))), some (.inl ip_), some (.inl bA_), some (.inl bB_), some (.inl k_), none, none, none, none, none], [], S_) (fun ro9_ => ∃ u_ S1_, ro9_ = (.inl u_, S1_, 0) ∧ vq_386 ip_ bA_ bB_ sA_ sB_ S0_ u_ S1_)) ∧ (∀ (mn : Int) (k_ : Int) (S_ : sm_S), gi S_ → ai_fr (sx_W vw_386) S0_ S_ → ((∀ j9_ : Nat, (j9_ : Int) < mn → S_.2.2.1 194 0 j9_ % 64 < 2 ^ sA_ ∧ S_.2.2.1 194 0 j9_ / 64 < 2 ^ sB_ ∧ S_.2.2.1 197 0 j9_ ≤ (j9_ : Int)) ∧ (mn = (cn1 (S_.2.2.1 198 0) 4096 : Int)) ∧ (1 ≤ mn ∧ 0 ≤ k_ ∧ k_ ≤ mn) ∧ True) → ((10000 * (5000 - k_) + 9000).toNat) < nn_ → sm_T (mt_P sc_) 1 386 (67, [some (.inr (.inr (some (13, 0)))), some (.inl ip_), some (.inl bA_), some (.inl bB_), some (.inl mn), some (.inl k_), none, none, none, none], [], S_) (fun ro9_ => ∃ u_ S1_, ro9_ = (.inl u_, S1_, 0) ∧ vq_386 ip_ bA_ bB_ sA_ sB_ S0_ u_ S1_)) ∧ (∀ (mn : Int) (k_ : Int) (a_ : Int) (b_ : Int) (i_ : Int) (S_ : sm_S), gi S_ → ai_fr (sx_W vw_386) S0_ S_ → ((∀ j9_ : Nat, (j9_ : Int) < mn → S_.2.2.1 194 0 j9_ % 64 < 2 ^ sA_ ∧ S_.2.2.1 194 0 j9_ / 64 < 2 ^ sB_ ∧ S_.2.2.1 197 0 j9_ ≤ (j9_ : Int)) ∧ (mn = (cn1 (S_.2.2.1 198 0) 4096 : Int)) ∧ (1 ≤ mn ∧ 0 ≤ k_ ∧ k_ < mn ∧ 0 ≤ i_ ∧ i_ ≤ 2 ^ ip_.toNat) ∧ (0 ≤ a_ ∧ a_ < 2 ^ sA_ ∧ 0 ≤ b_ ∧ b_ < 2 ^ sB_) ∧ True) → ((10000 * (5000 - k_) + 8000 - i_).toNat) < nn_ → sm_T (mt_P sc_) 1 386 (101, [some (.inr (.inr (some (13, 0)))), some (.inl ip_), some (.inl bA_), some (.inl bB_), some (.inl mn), some (.inl k_), some (.inl a_), some (.inl b_), some (.inl i_), none], [], S_) (fun ro9_ => ∃ u_ S1_, ro9_ = (.inl u_, S1_, 0) ∧ vq_386 ip_ bA_ bB_ sA_ sB_ S0_ u_ S1_)) := by
  intro nn_
  induction nn_ with
  | zero => exact ⟨fun _ _ _ _ _ h_ => absurd h_ (Nat.not_lt_zero _), fun _ _ _ _ _ _ h_ => absurd h_ (Nat.not_lt_zero _), fun _ _ _ _ _ _ _ _ _ h_ => absurd h_ (Nat.not_lt_zero _)⟩
  | succ nn_ ih_ =>
    refine ⟨?_, ?_, ?_⟩
    · rintro k_ S_ hI_ hF_ ⟨h0_, h1_, -⟩ hm_
      have w1_ := pw_le (n := sA_) (m := 6) (by omega)
      have w2_ := pw_le (n := sB_) (m := 6) (by omega)
      have w3_ := pw_pos sA_
      have w4_ := pw_pos sB_
      have w5_ := pw_le (n := ip_.toNat) (m := 12) (by omega)
      have w6_ := pw_pos ip_.toNat
      have f191_ : S_.2.2.1 191 0 = S0_.2.2.1 191 0 := fr_arr hF_ rfl
      have f193_ : S_.2.2.1 193 0 = S0_.2.2.1 193 0 := fr_arr hF_ rfl
      have cl9_ := cn1_le (S_.2.2.1 198 0) 4096
      have s9_ := i_shl1 (e := ip_) (by omega) (by omega)
      refine sm_T_go 2 (c1 := (13, [some (.inr (.inr (some (13, 0)))), some (.inl ip_), some (.inl bA_), some (.inl bB_), some (.inl k_), none, none, none, none, none], [.inl 4096, .inl k_], S_)) rfl ?_
      refine sm_T_br (a := 3) (z := 17) rfl (fun cx1_ => ?_) (fun cx1_ => ?_)
      · have cx1_ : 4096 ≤ k_ := of_decide_eq_true cx1_
        refine sm_T_go 8 (c1 := (42, [some (.inr (.inr (some (13, 0)))), some (.inl ip_), some (.inl bA_), some (.inl bB_), some (.inl 1), none, none, none, none, none], [.inl 6, .inl bB_, .inl bA_, .inl 0, .inr (.inr (some (194, 0)))], S_)) rfl ?_
        refine sm_T_bin (w := 64 * bB_) rfl (bi_shl (k := 6) (by decide) (by omega) (by omega) (by omega)) ?_ -- pc_ 42
        refine sm_T_bin (w := (i_or bA_ (64 * bB_))) rfl rfl ?_ -- pc_ 43
        have bx2_ := or64c (a_ := bB_) (b_ := bA_) (by omega) (by omega)
        refine sm_T_iast (n := 4096) rfl rfl (by omega) (by omega) ?_
        have hIx3_ : gi (sm_aI S_ 194 0 (0 : Int).toNat (i_or bA_ (64 * bB_))) := gi_aI hI_ (show 0 ≤ (i_or bA_ (64 * bB_)) ∧ (i_or bA_ (64 * bB_)) ≤ 4095 from ⟨by omega, by omega⟩)
        have hFx4_ : ai_fr (sx_W vw_386) S0_ (sm_aI S_ 194 0 (0 : Int).toNat (i_or bA_ (64 * bB_))) := ai_fr_tr hF_ (ai_fr_aI rfl)
        refine sm_T_go 4 (c1 := (51, [some (.inr (.inr (some (13, 0)))), some (.inl ip_), some (.inl bA_), some (.inl bB_), some (.inl 1), none, none, none, none, none], [.inl 0, .inl 0, .inr (.inr (some (197, 0)))], sm_aI S_ 194 0 (0 : Int).toNat (i_or bA_ (64 * bB_)))) rfl ?_
        refine sm_T_iast (n := 4096) rfl rfl (by omega) (by omega) ?_
        have hIx5_ : gi (sm_aI (sm_aI S_ 194 0 (0 : Int).toNat (i_or bA_ (64 * bB_))) 197 0 (0 : Int).toNat 0) := gi_aI hIx3_ (show 0 ≤ 0 ∧ 0 ≤ 4095 from ⟨by omega, by omega⟩)
        have hFx6_ : ai_fr (sx_W vw_386) S0_ (sm_aI (sm_aI S_ 194 0 (0 : Int).toNat (i_or bA_ (64 * bB_))) 197 0 (0 : Int).toNat 0) := ai_fr_tr hFx4_ (ai_fr_aI rfl)
        refine sm_T_go 5 (c1 := (61, [some (.inr (.inr (some (13, 0)))), some (.inl ip_), some (.inl bA_), some (.inl bB_), some (.inl 1), none, none, none, none, none], [.inl 0, .inr (.inr (some (194, 0))), .inr (.inr (some (198, 0)))], sm_aI (sm_aI S_ 194 0 (0 : Int).toNat (i_or bA_ (64 * bB_))) 197 0 (0 : Int).toNat 0)) rfl ?_
        refine sm_T_iald (n := 4096) rfl rfl (by omega) (by omega) ?_
        have bx7_ : 0 ≤ (sm_aI (sm_aI S_ 194 0 (0 : Int).toNat (i_or bA_ (64 * bB_))) 197 0 (0 : Int).toNat 0).2.2.1 194 0 (0 : Int).toNat ∧ (sm_aI (sm_aI S_ 194 0 (0 : Int).toNat (i_or bA_ (64 * bB_))) 197 0 (0 : Int).toNat 0).2.2.1 194 0 (0 : Int).toNat ≤ 4095 := hIx5_.2 194 0 _
        refine sm_T_go 1 (c1 := (63, [some (.inr (.inr (some (13, 0)))), some (.inl ip_), some (.inl bA_), some (.inl bB_), some (.inl 1), none, none, none, none, none], [.inl 1, .inl ((sm_aI (sm_aI S_ 194 0 (0 : Int).toNat (i_or bA_ (64 * bB_))) 197 0 (0 : Int).toNat 0).2.2.1 194 0 (0 : Int).toNat), .inr (.inr (some (198, 0)))], sm_aI (sm_aI S_ 194 0 (0 : Int).toNat (i_or bA_ (64 * bB_))) 197 0 (0 : Int).toNat 0)) rfl ?_
        refine sm_T_zas1 (n := 4096) rfl rfl (by omega) (by omega) (by omega) ?_
        have hIx8_ : gi (sm_aI (sm_aI (sm_aI S_ 194 0 (0 : Int).toNat (i_or bA_ (64 * bB_))) 197 0 (0 : Int).toNat 0) 198 0 ((sm_aI (sm_aI S_ 194 0 (0 : Int).toNat (i_or bA_ (64 * bB_))) 197 0 (0 : Int).toNat 0).2.2.1 194 0 (0 : Int).toNat).toNat 1) := gi_aI hIx5_ (show 0 ≤ 1 ∧ 1 ≤ 1 from ⟨by omega, by omega⟩)
        have hFx9_ : ai_fr (sx_W vw_386) S0_ (sm_aI (sm_aI (sm_aI S_ 194 0 (0 : Int).toNat (i_or bA_ (64 * bB_))) 197 0 (0 : Int).toNat 0) 198 0 ((sm_aI (sm_aI S_ 194 0 (0 : Int).toNat (i_or bA_ (64 * bB_))) 197 0 (0 : Int).toNat 0).2.2.1 194 0 (0 : Int).toNat).toNat 1) := ai_fr_tr hFx6_ (ai_fr_aI rfl)
        refine sm_T_go 2 (c1 := (67, [some (.inr (.inr (some (13, 0)))), some (.inl ip_), some (.inl bA_), some (.inl bB_), some (.inl 1), some (.inl 0), none, none, none, none], [], sm_aI (sm_aI (sm_aI S_ 194 0 (0 : Int).toNat (i_or bA_ (64 * bB_))) 197 0 (0 : Int).toNat 0) 198 0 ((sm_aI (sm_aI S_ 194 0 (0 : Int).toNat (i_or bA_ (64 * bB_))) 197 0 (0 : Int).toNat 0).2.2.1 194 0 (0 : Int).toNat).toNat 1)) rfl ?_
        refine ih_.2.1 1 0 (sm_aI (sm_aI (sm_aI S_ 194 0 (0 : Int).toNat (i_or bA_ (64 * bB_))) 197 0 (0 : Int).toNat 0) 198 0 ((sm_aI (sm_aI S_ 194 0 (0 : Int).toNat (i_or bA_ (64 * bB_))) 197 0 (0 : Int).toNat 0).2.2.1 194 0 (0 : Int).toNat).toNat 1) hIx8_ hFx9_ ⟨?_, ?_, ?_, trivial⟩ ?_
        · obtain ⟨FF_, hFF_⟩ : ∃ FF_, FF_ = i_or bA_ (64 * bB_) := ⟨_, rfl⟩
          have g9_ : 0 ≤ FF_ ∧ FF_ ≤ 4095 ∧ FF_ % 64 = bA_ ∧ FF_ / 64 = bB_ := by (rw [hFF_]; omega)
          have r1_ : ∀ j9_, ((sm_aI (sm_aI (sm_aI S_ 194 0 (0 : Int).toNat (i_or bA_ (64 * bB_))) 197 0 (0 : Int).toNat 0) 198 0 ((sm_aI (sm_aI S_ 194 0 (0 : Int).toNat (i_or bA_ (64 * bB_))) 197 0 (0 : Int).toNat 0).2.2.1 194 0 (0 : Int).toNat).toNat 1)).2.2.1 194 0 j9_ = if j9_ = 0 then FF_ else S_.2.2.1 194 0 j9_ := fun j9_ => by (rw [rd_ne (by decide), rd_ne (by decide), rd_eq, hFF_]; rfl)
          have r0_ : (sm_aI (sm_aI S_ 194 0 (0 : Int).toNat (i_or bA_ (64 * bB_))) 197 0 (0 : Int).toNat 0).2.2.1 194 0 (0 : Int).toNat = i_or bA_ (64 * bB_) := by (rw [rd_ne (show 194 ≠ 197 by decide), rd_eq, if_pos rfl])
          have r2_ : ∀ j9_, ((sm_aI (sm_aI (sm_aI S_ 194 0 (0 : Int).toNat (i_or bA_ (64 * bB_))) 197 0 (0 : Int).toNat 0) 198 0 ((sm_aI (sm_aI S_ 194 0 (0 : Int).toNat (i_or bA_ (64 * bB_))) 197 0 (0 : Int).toNat 0).2.2.1 194 0 (0 : Int).toNat).toNat 1)).2.2.1 198 0 j9_ = if j9_ = FF_.toNat then 1 else S_.2.2.1 198 0 j9_ := fun j9_ => by (rw [rd_eq, r0_, rd_ne (show 198 ≠ 197 by decide), rd_ne (show 198 ≠ 194 by decide), hFF_])
          have r3_ : ∀ j9_, ((sm_aI (sm_aI (sm_aI S_ 194 0 (0 : Int).toNat (i_or bA_ (64 * bB_))) 197 0 (0 : Int).toNat 0) 198 0 ((sm_aI (sm_aI S_ 194 0 (0 : Int).toNat (i_or bA_ (64 * bB_))) 197 0 (0 : Int).toNat 0).2.2.1 194 0 (0 : Int).toNat).toNat 1)).2.2.1 197 0 j9_ = if j9_ = 0 then 0 else S_.2.2.1 197 0 j9_ := fun j9_ => by (rw [rd_ne (by decide), rd_eq, rd_ne (by decide)]; rfl)
          intro j9_ hj9_
          have z9_ : j9_ = 0 := by omega
          rw [z9_, r1_, r3_, if_pos rfl, if_pos rfl]
          exact ⟨by omega, by omega, by omega⟩
        · obtain ⟨FF_, hFF_⟩ : ∃ FF_, FF_ = i_or bA_ (64 * bB_) := ⟨_, rfl⟩
          have g9_ : 0 ≤ FF_ ∧ FF_ ≤ 4095 ∧ FF_ % 64 = bA_ ∧ FF_ / 64 = bB_ := by (rw [hFF_]; omega)
          have r1_ : ∀ j9_, ((sm_aI (sm_aI (sm_aI S_ 194 0 (0 : Int).toNat (i_or bA_ (64 * bB_))) 197 0 (0 : Int).toNat 0) 198 0 ((sm_aI (sm_aI S_ 194 0 (0 : Int).toNat (i_or bA_ (64 * bB_))) 197 0 (0 : Int).toNat 0).2.2.1 194 0 (0 : Int).toNat).toNat 1)).2.2.1 194 0 j9_ = if j9_ = 0 then FF_ else S_.2.2.1 194 0 j9_ := fun j9_ => by (rw [rd_ne (by decide), rd_ne (by decide), rd_eq, hFF_]; rfl)
          have r0_ : (sm_aI (sm_aI S_ 194 0 (0 : Int).toNat (i_or bA_ (64 * bB_))) 197 0 (0 : Int).toNat 0).2.2.1 194 0 (0 : Int).toNat = i_or bA_ (64 * bB_) := by (rw [rd_ne (show 194 ≠ 197 by decide), rd_eq, if_pos rfl])
          have r2_ : ∀ j9_, ((sm_aI (sm_aI (sm_aI S_ 194 0 (0 : Int).toNat (i_or bA_ (64 * bB_))) 197 0 (0 : Int).toNat 0) 198 0 ((sm_aI (sm_aI S_ 194 0 (0 : Int).toNat (i_or bA_ (64 * bB_))) 197 0 (0 : Int).toNat 0).2.2.1 194 0 (0 : Int).toNat).toNat 1)).2.2.1 198 0 j9_ = if j9_ = FF_.toNat then 1 else S_.2.2.1 198 0 j9_ := fun j9_ => by (rw [rd_eq, r0_, rd_ne (show 198 ≠ 197 by decide), rd_ne (show 198 ≠ 194 by decide), hFF_])
          have r3_ : ∀ j9_, ((sm_aI (sm_aI (sm_aI S_ 194 0 (0 : Int).toNat (i_or bA_ (64 * bB_))) 197 0 (0 : Int).toNat 0) 198 0 ((sm_aI (sm_aI S_ 194 0 (0 : Int).toNat (i_or bA_ (64 * bB_))) 197 0 (0 : Int).toNat 0).2.2.1 194 0 (0 : Int).toNat).toNat 1)).2.2.1 197 0 j9_ = if j9_ = 0 then 0 else S_.2.2.1 197 0 j9_ := fun j9_ => by (rw [rd_ne (by decide), rd_eq, rd_ne (by decide)]; rfl)
          rw [cn1_cg (g := fun k9_ : Nat => if k9_ = FF_.toNat then (1 : Int) else 0) (fun k9_ hk9_ => ?_), cn1_one (j := FF_.toNat) (fun k9_ => ?_) 4096, if_pos (by omega)]
          · rfl
          · constructor
            · intro y9_; by_cases y8_ : k9_ = FF_.toNat; exact y8_; (rw [if_neg y8_] at y9_; exact absurd y9_ (by decide))
            · intro y9_; exact if_pos y9_
          · rw [r2_]
            by_cases y9_ : k9_ = FF_.toNat
            · rw [if_pos y9_, if_pos y9_]
            · rw [if_neg y9_, if_neg y9_, h1_ k9_ (by omega)]
        · omega
        · omega
      · have cx1_ : ¬ (4096 ≤ k_) := of_decide_eq_false cx1_
        refine sm_T_go 4 (c1 := (23, [some (.inr (.inr (some (13, 0)))), some (.inl ip_), some (.inl bA_), some (.inl bB_), some (.inl k_), none, none, none, none, none], [.inl 0, .inl k_, .inr (.inr (some (198, 0)))], S_)) rfl ?_
        refine sm_T_zas1 (n := 4096) rfl rfl (by omega) (by omega) (by omega) ?_
        have hIx10_ : gi (sm_aI S_ 198 0 k_.toNat 0) := gi_aI hI_ (show 0 ≤ 0 ∧ 0 ≤ 1 from ⟨by omega, by omega⟩)
        have hFx11_ : ai_fr (sx_W vw_386) S0_ (sm_aI S_ 198 0 k_.toNat 0) := ai_fr_tr hF_ (ai_fr_aI rfl)
        refine sm_T_inc (a := 4) (z := 1) (v := k_) (w := k_ + 1) rfl rfl (by omega) (by omega) (by omega) ?_ -- pc_ 24
        refine sm_T_go 1 (c1 := (8, [some (.inr (.inr (some (13, 0)))), some (.inl ip_), some (.inl bA_), some (.inl bB_), some (.inl (k_ + 1)), none, none, none, none, none], [], sm_aI S_ 198 0 k_.toNat 0)) rfl ?_
        refine ih_.1 (k_ + 1) (sm_aI S_ 198 0 k_.toNat 0) hIx10_ hFx11_ ⟨?_, ?_, trivial⟩ ?_
        · omega
        · intro j9_ hj9_
          rw [rd_eq]
          by_cases z9_ : j9_ = k_.toNat
          · rw [if_pos z9_]
          · rw [if_neg z9_]; exact h1_ j9_ (by omega)
        · omega
    · rintro mn k_ S_ hI_ hF_ ⟨hq_, hc_, h0_, -⟩ hm_
      have w1_ := pw_le (n := sA_) (m := 6) (by omega)
      have w2_ := pw_le (n := sB_) (m := 6) (by omega)
      have w3_ := pw_pos sA_
      have w4_ := pw_pos sB_
      have w5_ := pw_le (n := ip_.toNat) (m := 12) (by omega)
      have w6_ := pw_pos ip_.toNat
      have f191_ : S_.2.2.1 191 0 = S0_.2.2.1 191 0 := fr_arr hF_ rfl
      have f193_ : S_.2.2.1 193 0 = S0_.2.2.1 193 0 := fr_arr hF_ rfl
      have cl9_ := cn1_le (S_.2.2.1 198 0) 4096
      have s9_ := i_shl1 (e := ip_) (by omega) (by omega)
      refine sm_T_go 2 (c1 := (71, [some (.inr (.inr (some (13, 0)))), some (.inl ip_), some (.inl bA_), some (.inl bB_), some (.inl mn), some (.inl k_), none, none, none, none], [.inl mn, .inl k_], S_)) rfl ?_
      refine sm_T_br (a := 3) (z := 180) rfl (fun cx1_ => ?_) (fun cx1_ => ?_)
      · have cx1_ : mn ≤ k_ := of_decide_eq_true cx1_
        refine sm_T_go 1 (c1 := (252, [some (.inr (.inr (some (13, 0)))), some (.inl ip_), some (.inl bA_), some (.inl bB_), some (.inl mn), some (.inl k_), none, none, none, none], [.inl 0], S_)) rfl ?_
        refine sm_T_ri rfl ⟨_, _, rfl, _, rfl, hI_, hF_, ?_⟩
        omega
      · have cx1_ : ¬ (mn ≤ k_) := of_decide_eq_false cx1_
        have q9_ := hq_ k_.toNat (by omega)
        refine sm_T_go 3 (c1 := (80, [some (.inr (.inr (some (13, 0)))), some (.inl ip_), some (.inl bA_), some (.inl bB_), some (.inl mn), some (.inl k_), none, none, none, none], [.inl k_, .inr (.inr (some (194, 0)))], S_)) rfl ?_
        refine sm_T_iald (n := 4096) rfl rfl (by omega) (by omega) ?_
        have bx2_ : 0 ≤ S_.2.2.1 194 0 k_.toNat ∧ S_.2.2.1 194 0 k_.toNat ≤ 4095 := hI_.2 194 0 _
        refine sm_T_go 1 (c1 := (83, [some (.inr (.inr (some (13, 0)))), some (.inl ip_), some (.inl bA_), some (.inl bB_), some (.inl mn), some (.inl k_), none, none, none, none], [.inl 63, .inl (S_.2.2.1 194 0 k_.toNat)], S_)) rfl ?_
        refine sm_T_bin (w := ((S_.2.2.1 194 0 k_.toNat) % 64)) rfl (bi_msk (k := 6) (by decide)) ?_ -- pc_ 83
        refine sm_T_go 4 (c1 := (92, [some (.inr (.inr (some (13, 0)))), some (.inl ip_), some (.inl bA_), some (.inl bB_), some (.inl mn), some (.inl k_), some (.inl ((S_.2.2.1 194 0 k_.toNat) % 64)), none, none, none], [.inl k_, .inr (.inr (some (194, 0)))], S_)) rfl ?_
        refine sm_T_iald (n := 4096) rfl rfl (by omega) (by omega) ?_
        refine sm_T_go 1 (c1 := (95, [some (.inr (.inr (some (13, 0)))), some (.inl ip_), some (.inl bA_), some (.inl bB_), some (.inl mn), some (.inl k_), some (.inl ((S_.2.2.1 194 0 k_.toNat) % 64)), none, none, none], [.inl 6, .inl (S_.2.2.1 194 0 k_.toNat)], S_)) rfl ?_
        refine sm_T_bin (w := ((S_.2.2.1 194 0 k_.toNat) / 64)) rfl (bi_shr (k := 6) (by decide) (by omega) (by omega)) ?_ -- pc_ 95
        refine sm_T_go 3 (c1 := (101, [some (.inr (.inr (some (13, 0)))), some (.inl ip_), some (.inl bA_), some (.inl bB_), some (.inl mn), some (.inl k_), some (.inl ((S_.2.2.1 194 0 k_.toNat) % 64)), some (.inl ((S_.2.2.1 194 0 k_.toNat) / 64)), some (.inl 0), none], [], S_)) rfl ?_
        refine ih_.2.2 mn k_ ((S_.2.2.1 194 0 k_.toNat) % 64) ((S_.2.2.1 194 0 k_.toNat) / 64) 0 S_ hI_ hF_ ⟨?_, ?_, ?_, ?_, trivial⟩ ?_
        · exact hq_
        · exact hc_
        · omega
        · omega
        · omega
    · rintro mn k_ a_ b_ i_ S_ hI_ hF_ ⟨hq_, hc_, h0_, h2_, -⟩ hm_
      have w1_ := pw_le (n := sA_) (m := 6) (by omega)
      have w2_ := pw_le (n := sB_) (m := 6) (by omega)
      have w3_ := pw_pos sA_
      have w4_ := pw_pos sB_
      have w5_ := pw_le (n := ip_.toNat) (m := 12) (by omega)
      have w6_ := pw_pos ip_.toNat
      have f191_ : S_.2.2.1 191 0 = S0_.2.2.1 191 0 := fr_arr hF_ rfl
      have f193_ : S_.2.2.1 193 0 = S0_.2.2.1 193 0 := fr_arr hF_ rfl
      have cl9_ := cn1_le (S_.2.2.1 198 0) 4096
      have s9_ := i_shl1 (e := ip_) (by omega) (by omega)
      refine sm_T_go 3 (c1 := (105, [some (.inr (.inr (some (13, 0)))), some (.inl ip_), some (.inl bA_), some (.inl bB_), some (.inl mn), some (.inl k_), some (.inl a_), some (.inl b_), some (.inl i_), none], [.inl ip_, .inl 1, .inl i_], S_)) rfl ?_
      refine sm_T_bin (w := (i_shl 1 ip_)) rfl rfl ?_ -- pc_ 105
      refine sm_T_br (a := 3) (z := 139) rfl (fun cx1_ => ?_) (fun cx1_ => ?_)
      · have cx1_ : (i_shl 1 ip_) ≤ i_ := of_decide_eq_true cx1_
        refine sm_T_inc (a := 5) (z := 1) (v := k_) (w := k_ + 1) rfl rfl (by omega) (by omega) (by omega) ?_ -- pc_ 245
        refine sm_T_go 1 (c1 := (67, [some (.inr (.inr (some (13, 0)))), some (.inl ip_), some (.inl bA_), some (.inl bB_), some (.inl mn), some (.inl (k_ + 1)), some (.inl a_), some (.inl b_), some (.inl i_), none], [], S_)) rfl ?_
        refine sm_T_wk [some (.inr (.inr (some (13, 0)))), some (.inl ip_), some (.inl bA_), some (.inl bB_), some (.inl mn), some (.inl (k_ + 1)), none, none, none, none] (by exact ⟨rfl, rfl, rfl, rfl, rfl, rfl, trivial⟩) ?_
        refine ih_.2.1 mn (k_ + 1) S_ hI_ hF_ ⟨?_, ?_, ?_, trivial⟩ ?_
        · exact hq_
        · exact hc_
        · omega
        · omega
      · have cx1_ : ¬ ((i_shl 1 ip_) ≤ i_) := of_decide_eq_false cx1_
        have p1_ := pat_c (s_ := a_) (i_ := i_) (R_ := sA_) (I_ := ip_.toNat) (by omega) (by omega) (by omega)
        have p2_ := pat_c (s_ := b_) (i_ := i_) (R_ := sB_) (I_ := ip_.toNat) (by omega) (by omega) (by omega)
        rw [show ((ip_.toNat : Nat) : Int) = ip_ by omega] at p1_ p2_
        have p3_ := pw_le (n := sA_ + ip_.toNat) (m := 12) (by omega)
        have p4_ := pw_le (n := sB_ + ip_.toNat) (m := 12) (by omega)
        have t1_ := htA_ (i_or i_ (i_shl a_ ip_)).toNat (pn_lt (by omega) (by rw [Nat.add_comm]; omega))
        have t2_ := htB_ (i_or i_ (i_shl b_ ip_)).toNat (pn_lt (by omega) (by rw [Nat.add_comm]; omega))
        rw [← f191_] at t1_
        rw [← f193_] at t2_
        have q9_ := hq_ k_.toNat (by omega)
        refine sm_T_go 5 (c1 := (118, [some (.inr (.inr (some (13, 0)))), some (.inl ip_), some (.inl bA_), some (.inl bB_), some (.inl mn), some (.inl k_), some (.inl a_), some (.inl b_), some (.inl i_), none], [.inl ip_, .inl a_, .inl i_, .inr (.inr (some (190, 0)))], S_)) rfl ?_
        refine sm_T_bin (w := (i_shl a_ ip_)) rfl rfl ?_ -- pc_ 118
        refine sm_T_bin (w := (i_or i_ (i_shl a_ ip_))) rfl rfl ?_ -- pc_ 119
        refine sm_T_iald (n := 4096) rfl rfl (by omega) (by omega) ?_
        have bx2_ : 0 ≤ S_.2.2.1 190 0 (i_or i_ (i_shl a_ ip_)).toNat ∧ S_.2.2.1 190 0 (i_or i_ (i_shl a_ ip_)).toNat ≤ 65535 := hI_.2 190 0 _
        refine sm_T_go 5 (c1 := (130, [some (.inr (.inr (some (13, 0)))), some (.inl ip_), some (.inl bA_), some (.inl bB_), some (.inl mn), some (.inl k_), some (.inl a_), some (.inl b_), some (.inl i_), none], [.inl ip_, .inl b_, .inl i_, .inr (.inr (some (192, 0))), .inl (S_.2.2.1 190 0 (i_or i_ (i_shl a_ ip_)).toNat)], S_)) rfl ?_
        refine sm_T_bin (w := (i_shl b_ ip_)) rfl rfl ?_ -- pc_ 130
        refine sm_T_bin (w := (i_or i_ (i_shl b_ ip_))) rfl rfl ?_ -- pc_ 131
        refine sm_T_iald (n := 4096) rfl rfl (by omega) (by omega) ?_
        have bx3_ : 0 ≤ S_.2.2.1 192 0 (i_or i_ (i_shl b_ ip_)).toNat ∧ S_.2.2.1 192 0 (i_or i_ (i_shl b_ ip_)).toNat ≤ 65535 := hI_.2 192 0 _
        refine sm_T_br (a := 0) (z := 12) rfl (fun cx4_ => ?_) (fun cx4_ => ?_)
        · have cx4_ : (S_.2.2.1 190 0 (i_or i_ (i_shl a_ ip_)).toNat) = (S_.2.2.1 192 0 (i_or i_ (i_shl b_ ip_)).toNat) := of_decide_eq_true cx4_
          refine sm_T_go 5 (c1 := (154, [some (.inr (.inr (some (13, 0)))), some (.inl ip_), some (.inl bA_), some (.inl bB_), some (.inl mn), some (.inl k_), some (.inl a_), some (.inl b_), some (.inl i_), none], [.inl ip_, .inl a_, .inl i_, .inr (.inr (some (191, 0)))], S_)) rfl ?_
          refine sm_T_bin (w := (i_shl a_ ip_)) rfl rfl ?_ -- pc_ 154
          refine sm_T_bin (w := (i_or i_ (i_shl a_ ip_))) rfl rfl ?_ -- pc_ 155
          refine sm_T_iald (n := 4096) rfl rfl (by omega) (by omega) ?_
          have bx5_ : 0 ≤ S_.2.2.1 191 0 (i_or i_ (i_shl a_ ip_)).toNat ∧ S_.2.2.1 191 0 (i_or i_ (i_shl a_ ip_)).toNat ≤ 63 := hI_.2 191 0 _
          refine sm_T_go 5 (c1 := (166, [some (.inr (.inr (some (13, 0)))), some (.inl ip_), some (.inl bA_), some (.inl bB_), some (.inl mn), some (.inl k_), some (.inl a_), some (.inl b_), some (.inl i_), none], [.inl ip_, .inl b_, .inl i_, .inr (.inr (some (193, 0))), .inl (S_.2.2.1 191 0 (i_or i_ (i_shl a_ ip_)).toNat)], S_)) rfl ?_
          refine sm_T_bin (w := (i_shl b_ ip_)) rfl rfl ?_ -- pc_ 166
          refine sm_T_bin (w := (i_or i_ (i_shl b_ ip_))) rfl rfl ?_ -- pc_ 167
          refine sm_T_iald (n := 4096) rfl rfl (by omega) (by omega) ?_
          have bx6_ : 0 ≤ S_.2.2.1 193 0 (i_or i_ (i_shl b_ ip_)).toNat ∧ S_.2.2.1 193 0 (i_or i_ (i_shl b_ ip_)).toNat ≤ 63 := hI_.2 193 0 _
          refine sm_T_go 1 (c1 := (171, [some (.inr (.inr (some (13, 0)))), some (.inl ip_), some (.inl bA_), some (.inl bB_), some (.inl mn), some (.inl k_), some (.inl a_), some (.inl b_), some (.inl i_), none], [.inl 6, .inl (S_.2.2.1 193 0 (i_or i_ (i_shl b_ ip_)).toNat), .inl (S_.2.2.1 191 0 (i_or i_ (i_shl a_ ip_)).toNat)], S_)) rfl ?_
          refine sm_T_bin (w := 64 * (S_.2.2.1 193 0 (i_or i_ (i_shl b_ ip_)).toNat)) rfl (bi_shl (k := 6) (by decide) (by omega) (by omega) (by omega)) ?_ -- pc_ 171
          refine sm_T_bin (w := (i_or (S_.2.2.1 191 0 (i_or i_ (i_shl a_ ip_)).toNat) (64 * (S_.2.2.1 193 0 (i_or i_ (i_shl b_ ip_)).toNat)))) rfl rfl ?_ -- pc_ 172
          have bx7_ := or64c (a_ := S_.2.2.1 193 0 (i_or i_ (i_shl b_ ip_)).toNat) (b_ := S_.2.2.1 191 0 (i_or i_ (i_shl a_ ip_)).toNat) (by omega) (by omega)
          refine sm_T_go 4 (c1 := (181, [some (.inr (.inr (some (13, 0)))), some (.inl ip_), some (.inl bA_), some (.inl bB_), some (.inl mn), some (.inl k_), some (.inl a_), some (.inl b_), some (.inl i_), some (.inl (i_or (S_.2.2.1 191 0 (i_or i_ (i_shl a_ ip_)).toNat) (64 * (S_.2.2.1 193 0 (i_or i_ (i_shl b_ ip_)).toNat))))], [.inl (i_or (S_.2.2.1 191 0 (i_or i_ (i_shl a_ ip_)).toNat) (64 * (S_.2.2.1 193 0 (i_or i_ (i_shl b_ ip_)).toNat))), .inr (.inr (some (198, 0)))], S_)) rfl ?_
          refine sm_T_zald (n := 4096) rfl rfl (by omega) (by omega) ?_
          have bx8_ : 0 ≤ S_.2.2.1 198 0 (i_or (S_.2.2.1 191 0 (i_or i_ (i_shl a_ ip_)).toNat) (64 * (S_.2.2.1 193 0 (i_or i_ (i_shl b_ ip_)).toNat))).toNat ∧ S_.2.2.1 198 0 (i_or (S_.2.2.1 191 0 (i_or i_ (i_shl a_ ip_)).toNat) (64 * (S_.2.2.1 193 0 (i_or i_ (i_shl b_ ip_)).toNat))).toNat ≤ 1 := hI_.2 198 0 _
          refine sm_T_b0 (a := 1) (z := 57) rfl (fun cx9_ => ?_) (fun cx9_ => ?_)
          · have cx9_ : (S_.2.2.1 198 0 (i_or (S_.2.2.1 191 0 (i_or i_ (i_shl a_ ip_)).toNat) (64 * (S_.2.2.1 193 0 (i_or i_ (i_shl b_ ip_)).toNat))).toNat) ≠ 0 := of_decide_eq_true cx9_
            refine sm_T_inc (a := 8) (z := 1) (v := i_) (w := i_ + 1) rfl rfl (by omega) (by omega) (by omega) ?_ -- pc_ 239
            refine sm_T_go 1 (c1 := (101, [some (.inr (.inr (some (13, 0)))), some (.inl ip_), some (.inl bA_), some (.inl bB_), some (.inl mn), some (.inl k_), some (.inl a_), some (.inl b_), some (.inl (i_ + 1)), some (.inl (i_or (S_.2.2.1 191 0 (i_or i_ (i_shl a_ ip_)).toNat) (64 * (S_.2.2.1 193 0 (i_or i_ (i_shl b_ ip_)).toNat))))], [], S_)) rfl ?_
            refine sm_T_wk [some (.inr (.inr (some (13, 0)))), some (.inl ip_), some (.inl bA_), some (.inl bB_), some (.inl mn), some (.inl k_), some (.inl a_), some (.inl b_), some (.inl (i_ + 1)), none] (by exact ⟨rfl, rfl, rfl, rfl, rfl, rfl, rfl, rfl, rfl, trivial⟩) ?_
            refine ih_.2.2 mn k_ a_ b_ (i_ + 1) S_ hI_ hF_ ⟨?_, ?_, ?_, ?_, trivial⟩ ?_
            · exact hq_
            · exact hc_
            · omega
            · omega
            · omega
          · have cx9_ : ¬ ((S_.2.2.1 198 0 (i_or (S_.2.2.1 191 0 (i_or i_ (i_shl a_ ip_)).toNat) (64 * (S_.2.2.1 193 0 (i_or i_ (i_shl b_ ip_)).toNat))).toNat) ≠ 0) := of_decide_eq_false cx9_
            have lt9_ := cn1_lt (f := S_.2.2.1 198 0) (j := (i_or (S_.2.2.1 191 0 (i_or i_ (i_shl a_ ip_)).toNat) (64 * (S_.2.2.1 193 0 (i_or i_ (i_shl b_ ip_)).toNat))).toNat) (by omega) (n := 4096) (by omega)
            refine sm_T_go 4 (c1 := (192, [some (.inr (.inr (some (13, 0)))), some (.inl ip_), some (.inl bA_), some (.inl bB_), some (.inl mn), some (.inl k_), some (.inl a_), some (.inl b_), some (.inl i_), some (.inl (i_or (S_.2.2.1 191 0 (i_or i_ (i_shl a_ ip_)).toNat) (64 * (S_.2.2.1 193 0 (i_or i_ (i_shl b_ ip_)).toNat))))], [.inl 1, .inl (i_or (S_.2.2.1 191 0 (i_or i_ (i_shl a_ ip_)).toNat) (64 * (S_.2.2.1 193 0 (i_or i_ (i_shl b_ ip_)).toNat))), .inr (.inr (some (198, 0)))], S_)) rfl ?_
            refine sm_T_zas1 (n := 4096) rfl rfl (by omega) (by omega) (by omega) ?_
            have hIx10_ : gi (sm_aI S_ 198 0 (i_or (S_.2.2.1 191 0 (i_or i_ (i_shl a_ ip_)).toNat) (64 * (S_.2.2.1 193 0 (i_or i_ (i_shl b_ ip_)).toNat))).toNat 1) := gi_aI hI_ (show 0 ≤ 1 ∧ 1 ≤ 1 from ⟨by omega, by omega⟩)
            have hFx11_ : ai_fr (sx_W vw_386) S0_ (sm_aI S_ 198 0 (i_or (S_.2.2.1 191 0 (i_or i_ (i_shl a_ ip_)).toNat) (64 * (S_.2.2.1 193 0 (i_or i_ (i_shl b_ ip_)).toNat))).toNat 1) := ai_fr_tr hF_ (ai_fr_aI rfl)
            refine sm_T_go 4 (c1 := (201, [some (.inr (.inr (some (13, 0)))), some (.inl ip_), some (.inl bA_), some (.inl bB_), some (.inl mn), some (.inl k_), some (.inl a_), some (.inl b_), some (.inl i_), some (.inl (i_or (S_.2.2.1 191 0 (i_or i_ (i_shl a_ ip_)).toNat) (64 * (S_.2.2.1 193 0 (i_or i_ (i_shl b_ ip_)).toNat))))], [.inl (i_or (S_.2.2.1 191 0 (i_or i_ (i_shl a_ ip_)).toNat) (64 * (S_.2.2.1 193 0 (i_or i_ (i_shl b_ ip_)).toNat))), .inl mn, .inr (.inr (some (194, 0)))], sm_aI S_ 198 0 (i_or (S_.2.2.1 191 0 (i_or i_ (i_shl a_ ip_)).toNat) (64 * (S_.2.2.1 193 0 (i_or i_ (i_shl b_ ip_)).toNat))).toNat 1)) rfl ?_
            refine sm_T_iast (n := 4096) rfl rfl (by omega) (by omega) ?_
            have hIx12_ : gi (sm_aI (sm_aI S_ 198 0 (i_or (S_.2.2.1 191 0 (i_or i_ (i_shl a_ ip_)).toNat) (64 * (S_.2.2.1 193 0 (i_or i_ (i_shl b_ ip_)).toNat))).toNat 1) 194 0 mn.toNat (i_or (S_.2.2.1 191 0 (i_or i_ (i_shl a_ ip_)).toNat) (64 * (S_.2.2.1 193 0 (i_or i_ (i_shl b_ ip_)).toNat)))) := gi_aI hIx10_ (show 0 ≤ (i_or (S_.2.2.1 191 0 (i_or i_ (i_shl a_ ip_)).toNat) (64 * (S_.2.2.1 193 0 (i_or i_ (i_shl b_ ip_)).toNat))) ∧ (i_or (S_.2.2.1 191 0 (i_or i_ (i_shl a_ ip_)).toNat) (64 * (S_.2.2.1 193 0 (i_or i_ (i_shl b_ ip_)).toNat))) ≤ 4095 from ⟨by omega, by omega⟩)
            have hFx13_ : ai_fr (sx_W vw_386) S0_ (sm_aI (sm_aI S_ 198 0 (i_or (S_.2.2.1 191 0 (i_or i_ (i_shl a_ ip_)).toNat) (64 * (S_.2.2.1 193 0 (i_or i_ (i_shl b_ ip_)).toNat))).toNat 1) 194 0 mn.toNat (i_or (S_.2.2.1 191 0 (i_or i_ (i_shl a_ ip_)).toNat) (64 * (S_.2.2.1 193 0 (i_or i_ (i_shl b_ ip_)).toNat)))) := ai_fr_tr hFx11_ (ai_fr_aI rfl)
            refine sm_T_go 4 (c1 := (210, [some (.inr (.inr (some (13, 0)))), some (.inl ip_), some (.inl bA_), some (.inl bB_), some (.inl mn), some (.inl k_), some (.inl a_), some (.inl b_), some (.inl i_), some (.inl (i_or (S_.2.2.1 191 0 (i_or i_ (i_shl a_ ip_)).toNat) (64 * (S_.2.2.1 193 0 (i_or i_ (i_shl b_ ip_)).toNat))))], [.inl k_, .inl mn, .inr (.inr (some (195, 0)))], sm_aI (sm_aI S_ 198 0 (i_or (S_.2.2.1 191 0 (i_or i_ (i_shl a_ ip_)).toNat) (64 * (S_.2.2.1 193 0 (i_or i_ (i_shl b_ ip_)).toNat))).toNat 1) 194 0 mn.toNat (i_or (S_.2.2.1 191 0 (i_or i_ (i_shl a_ ip_)).toNat) (64 * (S_.2.2.1 193 0 (i_or i_ (i_shl b_ ip_)).toNat))))) rfl ?_
            refine sm_T_iast (n := 4096) rfl rfl (by omega) (by omega) ?_
            have hIx14_ : gi (sm_aI (sm_aI (sm_aI S_ 198 0 (i_or (S_.2.2.1 191 0 (i_or i_ (i_shl a_ ip_)).toNat) (64 * (S_.2.2.1 193 0 (i_or i_ (i_shl b_ ip_)).toNat))).toNat 1) 194 0 mn.toNat (i_or (S_.2.2.1 191 0 (i_or i_ (i_shl a_ ip_)).toNat) (64 * (S_.2.2.1 193 0 (i_or i_ (i_shl b_ ip_)).toNat)))) 195 0 mn.toNat k_) := gi_aI hIx12_ (show 0 ≤ k_ ∧ k_ ≤ 4095 from ⟨by omega, by omega⟩)
            have hFx15_ : ai_fr (sx_W vw_386) S0_ (sm_aI (sm_aI (sm_aI S_ 198 0 (i_or (S_.2.2.1 191 0 (i_or i_ (i_shl a_ ip_)).toNat) (64 * (S_.2.2.1 193 0 (i_or i_ (i_shl b_ ip_)).toNat))).toNat 1) 194 0 mn.toNat (i_or (S_.2.2.1 191 0 (i_or i_ (i_shl a_ ip_)).toNat) (64 * (S_.2.2.1 193 0 (i_or i_ (i_shl b_ ip_)).toNat)))) 195 0 mn.toNat k_) := ai_fr_tr hFx13_ (ai_fr_aI rfl)
            refine sm_T_go 4 (c1 := (219, [some (.inr (.inr (some (13, 0)))), some (.inl ip_), some (.inl bA_), some (.inl bB_), some (.inl mn), some (.inl k_), some (.inl a_), some (.inl b_), some (.inl i_), some (.inl (i_or (S_.2.2.1 191 0 (i_or i_ (i_shl a_ ip_)).toNat) (64 * (S_.2.2.1 193 0 (i_or i_ (i_shl b_ ip_)).toNat))))], [.inl i_, .inl mn, .inr (.inr (some (196, 0)))], sm_aI (sm_aI (sm_aI S_ 198 0 (i_or (S_.2.2.1 191 0 (i_or i_ (i_shl a_ ip_)).toNat) (64 * (S_.2.2.1 193 0 (i_or i_ (i_shl b_ ip_)).toNat))).toNat 1) 194 0 mn.toNat (i_or (S_.2.2.1 191 0 (i_or i_ (i_shl a_ ip_)).toNat) (64 * (S_.2.2.1 193 0 (i_or i_ (i_shl b_ ip_)).toNat)))) 195 0 mn.toNat k_)) rfl ?_
            refine sm_T_iast (n := 4096) rfl rfl (by omega) (by omega) ?_
            have hIx16_ : gi (sm_aI (sm_aI (sm_aI (sm_aI S_ 198 0 (i_or (S_.2.2.1 191 0 (i_or i_ (i_shl a_ ip_)).toNat) (64 * (S_.2.2.1 193 0 (i_or i_ (i_shl b_ ip_)).toNat))).toNat 1) 194 0 mn.toNat (i_or (S_.2.2.1 191 0 (i_or i_ (i_shl a_ ip_)).toNat) (64 * (S_.2.2.1 193 0 (i_or i_ (i_shl b_ ip_)).toNat)))) 195 0 mn.toNat k_) 196 0 mn.toNat i_) := gi_aI hIx14_ (show 0 ≤ i_ ∧ i_ ≤ 4095 from ⟨by omega, by omega⟩)
            have hFx17_ : ai_fr (sx_W vw_386) S0_ (sm_aI (sm_aI (sm_aI (sm_aI S_ 198 0 (i_or (S_.2.2.1 191 0 (i_or i_ (i_shl a_ ip_)).toNat) (64 * (S_.2.2.1 193 0 (i_or i_ (i_shl b_ ip_)).toNat))).toNat 1) 194 0 mn.toNat (i_or (S_.2.2.1 191 0 (i_or i_ (i_shl a_ ip_)).toNat) (64 * (S_.2.2.1 193 0 (i_or i_ (i_shl b_ ip_)).toNat)))) 195 0 mn.toNat k_) 196 0 mn.toNat i_) := ai_fr_tr hFx15_ (ai_fr_aI rfl)
            refine sm_T_go 6 (c1 := (232, [some (.inr (.inr (some (13, 0)))), some (.inl ip_), some (.inl bA_), some (.inl bB_), some (.inl mn), some (.inl k_), some (.inl a_), some (.inl b_), some (.inl i_), some (.inl (i_or (S_.2.2.1 191 0 (i_or i_ (i_shl a_ ip_)).toNat) (64 * (S_.2.2.1 193 0 (i_or i_ (i_shl b_ ip_)).toNat))))], [.inl k_, .inr (.inr (some (197, 0))), .inl mn, .inr (.inr (some (197, 0)))], sm_aI (sm_aI (sm_aI (sm_aI S_ 198 0 (i_or (S_.2.2.1 191 0 (i_or i_ (i_shl a_ ip_)).toNat) (64 * (S_.2.2.1 193 0 (i_or i_ (i_shl b_ ip_)).toNat))).toNat 1) 194 0 mn.toNat (i_or (S_.2.2.1 191 0 (i_or i_ (i_shl a_ ip_)).toNat) (64 * (S_.2.2.1 193 0 (i_or i_ (i_shl b_ ip_)).toNat)))) 195 0 mn.toNat k_) 196 0 mn.toNat i_)) rfl ?_
            refine sm_T_iald (n := 4096) rfl rfl (by omega) (by omega) ?_
            have bx18_ : 0 ≤ S_.2.2.1 197 0 k_.toNat ∧ S_.2.2.1 197 0 k_.toNat ≤ 4095 := hI_.2 197 0 _
            refine sm_T_go 1 (c1 := (234, [some (.inr (.inr (some (13, 0)))), some (.inl ip_), some (.inl bA_), some (.inl bB_), some (.inl mn), some (.inl k_), some (.inl a_), some (.inl b_), some (.inl i_), some (.inl (i_or (S_.2.2.1 191 0 (i_or i_ (i_shl a_ ip_)).toNat) (64 * (S_.2.2.1 193 0 (i_or i_ (i_shl b_ ip_)).toNat))))], [.inl 1, .inl (S_.2.2.1 197 0 k_.toNat), .inl mn, .inr (.inr (some (197, 0)))], sm_aI (sm_aI (sm_aI (sm_aI S_ 198 0 (i_or (S_.2.2.1 191 0 (i_or i_ (i_shl a_ ip_)).toNat) (64 * (S_.2.2.1 193 0 (i_or i_ (i_shl b_ ip_)).toNat))).toNat 1) 194 0 mn.toNat (i_or (S_.2.2.1 191 0 (i_or i_ (i_shl a_ ip_)).toNat) (64 * (S_.2.2.1 193 0 (i_or i_ (i_shl b_ ip_)).toNat)))) 195 0 mn.toNat k_) 196 0 mn.toNat i_)) rfl ?_
            refine sm_T_bin (w := (S_.2.2.1 197 0 k_.toNat) + 1) rfl (bi_add (by omega) (by omega) (by omega)) ?_ -- pc_ 234
            refine sm_T_iast (n := 4096) rfl rfl (by omega) (by omega) ?_
            have hIx19_ : gi (sm_aI (sm_aI (sm_aI (sm_aI (sm_aI S_ 198 0 (i_or (S_.2.2.1 191 0 (i_or i_ (i_shl a_ ip_)).toNat) (64 * (S_.2.2.1 193 0 (i_or i_ (i_shl b_ ip_)).toNat))).toNat 1) 194 0 mn.toNat (i_or (S_.2.2.1 191 0 (i_or i_ (i_shl a_ ip_)).toNat) (64 * (S_.2.2.1 193 0 (i_or i_ (i_shl b_ ip_)).toNat)))) 195 0 mn.toNat k_) 196 0 mn.toNat i_) 197 0 mn.toNat ((S_.2.2.1 197 0 k_.toNat) + 1)) := gi_aI hIx16_ (show 0 ≤ (S_.2.2.1 197 0 k_.toNat) + 1 ∧ (S_.2.2.1 197 0 k_.toNat) + 1 ≤ 4095 from ⟨by omega, by omega⟩)
            have hFx20_ : ai_fr (sx_W vw_386) S0_ (sm_aI (sm_aI (sm_aI (sm_aI (sm_aI S_ 198 0 (i_or (S_.2.2.1 191 0 (i_or i_ (i_shl a_ ip_)).toNat) (64 * (S_.2.2.1 193 0 (i_or i_ (i_shl b_ ip_)).toNat))).toNat 1) 194 0 mn.toNat (i_or (S_.2.2.1 191 0 (i_or i_ (i_shl a_ ip_)).toNat) (64 * (S_.2.2.1 193 0 (i_or i_ (i_shl b_ ip_)).toNat)))) 195 0 mn.toNat k_) 196 0 mn.toNat i_) 197 0 mn.toNat ((S_.2.2.1 197 0 k_.toNat) + 1)) := ai_fr_tr hFx17_ (ai_fr_aI rfl)
            refine sm_T_inc (a := 4) (z := 1) (v := mn) (w := mn + 1) rfl rfl (by omega) (by omega) (by omega) ?_ -- pc_ 236
            refine sm_T_inc (a := 8) (z := 1) (v := i_) (w := i_ + 1) rfl rfl (by omega) (by omega) (by omega) ?_ -- pc_ 239
            refine sm_T_go 1 (c1 := (101, [some (.inr (.inr (some (13, 0)))), some (.inl ip_), some (.inl bA_), some (.inl bB_), some (.inl (mn + 1)), some (.inl k_), some (.inl a_), some (.inl b_), some (.inl (i_ + 1)), some (.inl (i_or (S_.2.2.1 191 0 (i_or i_ (i_shl a_ ip_)).toNat) (64 * (S_.2.2.1 193 0 (i_or i_ (i_shl b_ ip_)).toNat))))], [], sm_aI (sm_aI (sm_aI (sm_aI (sm_aI S_ 198 0 (i_or (S_.2.2.1 191 0 (i_or i_ (i_shl a_ ip_)).toNat) (64 * (S_.2.2.1 193 0 (i_or i_ (i_shl b_ ip_)).toNat))).toNat 1) 194 0 mn.toNat (i_or (S_.2.2.1 191 0 (i_or i_ (i_shl a_ ip_)).toNat) (64 * (S_.2.2.1 193 0 (i_or i_ (i_shl b_ ip_)).toNat)))) 195 0 mn.toNat k_) 196 0 mn.toNat i_) 197 0 mn.toNat ((S_.2.2.1 197 0 k_.toNat) + 1))) rfl ?_
            refine sm_T_wk [some (.inr (.inr (some (13, 0)))), some (.inl ip_), some (.inl bA_), some (.inl bB_), some (.inl (mn + 1)), some (.inl k_), some (.inl a_), some (.inl b_), some (.inl (i_ + 1)), none] (by exact ⟨rfl, rfl, rfl, rfl, rfl, rfl, rfl, rfl, rfl, trivial⟩) ?_
            refine ih_.2.2 (mn + 1) k_ a_ b_ (i_ + 1) (sm_aI (sm_aI (sm_aI (sm_aI (sm_aI S_ 198 0 (i_or (S_.2.2.1 191 0 (i_or i_ (i_shl a_ ip_)).toNat) (64 * (S_.2.2.1 193 0 (i_or i_ (i_shl b_ ip_)).toNat))).toNat 1) 194 0 mn.toNat (i_or (S_.2.2.1 191 0 (i_or i_ (i_shl a_ ip_)).toNat) (64 * (S_.2.2.1 193 0 (i_or i_ (i_shl b_ ip_)).toNat)))) 195 0 mn.toNat k_) 196 0 mn.toNat i_) 197 0 mn.toNat ((S_.2.2.1 197 0 k_.toNat) + 1)) hIx19_ hFx20_ ⟨?_, ?_, ?_, ?_, trivial⟩ ?_
            · obtain ⟨NN_, hNN_⟩ : ∃ NN_, NN_ = i_or (S_.2.2.1 191 0 (i_or i_ (i_shl a_ ip_)).toNat) (64 * (S_.2.2.1 193 0 (i_or i_ (i_shl b_ ip_)).toNat)) := ⟨_, rfl⟩
              have g9_ : 0 ≤ NN_ ∧ NN_ ≤ 4095 ∧ NN_ % 64 < 2 ^ sA_ ∧ NN_ / 64 < 2 ^ sB_ := by (rw [hNN_]; omega)
              have x9_ : S_.2.2.1 198 0 NN_.toNat ≠ 1 := by (rw [hNN_]; omega)
              have r1_ : ∀ j9_, ((sm_aI (sm_aI (sm_aI (sm_aI (sm_aI S_ 198 0 (i_or (S_.2.2.1 191 0 (i_or i_ (i_shl a_ ip_)).toNat) (64 * (S_.2.2.1 193 0 (i_or i_ (i_shl b_ ip_)).toNat))).toNat 1) 194 0 mn.toNat (i_or (S_.2.2.1 191 0 (i_or i_ (i_shl a_ ip_)).toNat) (64 * (S_.2.2.1 193 0 (i_or i_ (i_shl b_ ip_)).toNat)))) 195 0 mn.toNat k_) 196 0 mn.toNat i_) 197 0 mn.toNat ((S_.2.2.1 197 0 k_.toNat) + 1))).2.2.1 194 0 j9_ = if j9_ = mn.toNat then NN_ else S_.2.2.1 194 0 j9_ := fun j9_ => by (rw [rd_ne (by decide), rd_ne (by decide), rd_ne (by decide), rd_eq, rd_ne (by decide), hNN_])
              have r2_ : ∀ j9_, ((sm_aI (sm_aI (sm_aI (sm_aI (sm_aI S_ 198 0 (i_or (S_.2.2.1 191 0 (i_or i_ (i_shl a_ ip_)).toNat) (64 * (S_.2.2.1 193 0 (i_or i_ (i_shl b_ ip_)).toNat))).toNat 1) 194 0 mn.toNat (i_or (S_.2.2.1 191 0 (i_or i_ (i_shl a_ ip_)).toNat) (64 * (S_.2.2.1 193 0 (i_or i_ (i_shl b_ ip_)).toNat)))) 195 0 mn.toNat k_) 196 0 mn.toNat i_) 197 0 mn.toNat ((S_.2.2.1 197 0 k_.toNat) + 1))).2.2.1 198 0 j9_ = if j9_ = NN_.toNat then 1 else S_.2.2.1 198 0 j9_ := fun j9_ => by (rw [rd_ne (by decide), rd_ne (by decide), rd_ne (by decide), rd_ne (by decide), rd_eq, hNN_])
              have r3_ : ∀ j9_, ((sm_aI (sm_aI (sm_aI (sm_aI (sm_aI S_ 198 0 (i_or (S_.2.2.1 191 0 (i_or i_ (i_shl a_ ip_)).toNat) (64 * (S_.2.2.1 193 0 (i_or i_ (i_shl b_ ip_)).toNat))).toNat 1) 194 0 mn.toNat (i_or (S_.2.2.1 191 0 (i_or i_ (i_shl a_ ip_)).toNat) (64 * (S_.2.2.1 193 0 (i_or i_ (i_shl b_ ip_)).toNat)))) 195 0 mn.toNat k_) 196 0 mn.toNat i_) 197 0 mn.toNat ((S_.2.2.1 197 0 k_.toNat) + 1))).2.2.1 197 0 j9_ = if j9_ = mn.toNat then S_.2.2.1 197 0 k_.toNat + 1 else S_.2.2.1 197 0 j9_ := fun j9_ => by (rw [rd_eq, rd_ne (by decide), rd_ne (by decide), rd_ne (by decide), rd_ne (by decide)])
              intro j9_ hj9_
              by_cases z9_ : j9_ = mn.toNat
              · rw [r1_, r3_, if_pos z9_, if_pos z9_]; exact ⟨by omega, by omega, by omega⟩
              · rw [r1_, r3_, if_neg z9_, if_neg z9_]; exact hq_ j9_ (by omega)
            · obtain ⟨NN_, hNN_⟩ : ∃ NN_, NN_ = i_or (S_.2.2.1 191 0 (i_or i_ (i_shl a_ ip_)).toNat) (64 * (S_.2.2.1 193 0 (i_or i_ (i_shl b_ ip_)).toNat)) := ⟨_, rfl⟩
              have g9_ : 0 ≤ NN_ ∧ NN_ ≤ 4095 ∧ NN_ % 64 < 2 ^ sA_ ∧ NN_ / 64 < 2 ^ sB_ := by (rw [hNN_]; omega)
              have x9_ : S_.2.2.1 198 0 NN_.toNat ≠ 1 := by (rw [hNN_]; omega)
              have r1_ : ∀ j9_, ((sm_aI (sm_aI (sm_aI (sm_aI (sm_aI S_ 198 0 (i_or (S_.2.2.1 191 0 (i_or i_ (i_shl a_ ip_)).toNat) (64 * (S_.2.2.1 193 0 (i_or i_ (i_shl b_ ip_)).toNat))).toNat 1) 194 0 mn.toNat (i_or (S_.2.2.1 191 0 (i_or i_ (i_shl a_ ip_)).toNat) (64 * (S_.2.2.1 193 0 (i_or i_ (i_shl b_ ip_)).toNat)))) 195 0 mn.toNat k_) 196 0 mn.toNat i_) 197 0 mn.toNat ((S_.2.2.1 197 0 k_.toNat) + 1))).2.2.1 194 0 j9_ = if j9_ = mn.toNat then NN_ else S_.2.2.1 194 0 j9_ := fun j9_ => by (rw [rd_ne (by decide), rd_ne (by decide), rd_ne (by decide), rd_eq, rd_ne (by decide), hNN_])
              have r2_ : ∀ j9_, ((sm_aI (sm_aI (sm_aI (sm_aI (sm_aI S_ 198 0 (i_or (S_.2.2.1 191 0 (i_or i_ (i_shl a_ ip_)).toNat) (64 * (S_.2.2.1 193 0 (i_or i_ (i_shl b_ ip_)).toNat))).toNat 1) 194 0 mn.toNat (i_or (S_.2.2.1 191 0 (i_or i_ (i_shl a_ ip_)).toNat) (64 * (S_.2.2.1 193 0 (i_or i_ (i_shl b_ ip_)).toNat)))) 195 0 mn.toNat k_) 196 0 mn.toNat i_) 197 0 mn.toNat ((S_.2.2.1 197 0 k_.toNat) + 1))).2.2.1 198 0 j9_ = if j9_ = NN_.toNat then 1 else S_.2.2.1 198 0 j9_ := fun j9_ => by (rw [rd_ne (by decide), rd_ne (by decide), rd_ne (by decide), rd_ne (by decide), rd_eq, hNN_])
              have r3_ : ∀ j9_, ((sm_aI (sm_aI (sm_aI (sm_aI (sm_aI S_ 198 0 (i_or (S_.2.2.1 191 0 (i_or i_ (i_shl a_ ip_)).toNat) (64 * (S_.2.2.1 193 0 (i_or i_ (i_shl b_ ip_)).toNat))).toNat 1) 194 0 mn.toNat (i_or (S_.2.2.1 191 0 (i_or i_ (i_shl a_ ip_)).toNat) (64 * (S_.2.2.1 193 0 (i_or i_ (i_shl b_ ip_)).toNat)))) 195 0 mn.toNat k_) 196 0 mn.toNat i_) 197 0 mn.toNat ((S_.2.2.1 197 0 k_.toNat) + 1))).2.2.1 197 0 j9_ = if j9_ = mn.toNat then S_.2.2.1 197 0 k_.toNat + 1 else S_.2.2.1 197 0 j9_ := fun j9_ => by (rw [rd_eq, rd_ne (by decide), rd_ne (by decide), rd_ne (by decide), rd_ne (by decide)])
              have u9_ := cn1_up (f := S_.2.2.1 198 0) (g := ((sm_aI (sm_aI (sm_aI (sm_aI (sm_aI S_ 198 0 (i_or (S_.2.2.1 191 0 (i_or i_ (i_shl a_ ip_)).toNat) (64 * (S_.2.2.1 193 0 (i_or i_ (i_shl b_ ip_)).toNat))).toNat 1) 194 0 mn.toNat (i_or (S_.2.2.1 191 0 (i_or i_ (i_shl a_ ip_)).toNat) (64 * (S_.2.2.1 193 0 (i_or i_ (i_shl b_ ip_)).toNat)))) 195 0 mn.toNat k_) 196 0 mn.toNat i_) 197 0 mn.toNat ((S_.2.2.1 197 0 k_.toNat) + 1))).2.2.1 198 0) (j := NN_.toNat) x9_ (by rw [r2_, if_pos rfl]) (fun k9_ hk9_ => by rw [r2_, if_neg hk9_]) (n := 4096) (by omega)
              rw [u9_]
              push_cast
              omega
            · omega
            · omega
            · omega
        · have cx4_ : ¬ ((S_.2.2.1 190 0 (i_or i_ (i_shl a_ ip_)).toNat) = (S_.2.2.1 192 0 (i_or i_ (i_shl b_ ip_)).toNat)) := of_decide_eq_false cx4_
          refine sm_T_go 3 (c1 := (141, [some (.inr (.inr (some (13, 0)))), some (.inl ip_), some (.inl bA_), some (.inl bB_), some (.inl mn), some (.inl k_), some (.inl a_), some (.inl b_), some (.inl i_), none], [.inl i_, .inl k_, .inr (.inr (some (13, 0)))], S_)) rfl ?_
          refine sm_T_cal (d1 := 0) (Q1 := vq_385 k_ i_ S_) rfl rfl (by decide) (vc_385 k_ i_ S_ hI_ (by omega) (by omega)) (fun u_ Sx21_ px24_ => ?_)
          obtain ⟨vx26_, rfl, hIx22_, hFx23_, px24_⟩ := px24_
          have hFx25_ : ai_fr (sx_W vw_386) S0_ Sx21_ := ai_fr_tr hF_ (fr_le hFx23_ rfl)
          refine sm_T_ri rfl ⟨_, _, rfl, _, rfl, hIx22_, hFx25_, ?_⟩
          omega
set_option maxHeartbeats 2000000 in
set_option maxRecDepth 20000 in
theorem vc_386 {sc_ : Nat × (Nat → Int)} (ip_ : Int) (bA_ : Int) (bB_ : Int) (sA_ : Nat) (sB_ : Nat) (S0_ : sm_S) (hI_ : gi S0_) (hi_ : 0 ≤ ip_ ∧ ip_ + sA_ ≤ 12 ∧ ip_ + sB_ ≤ 12 ∧ sA_ ≤ 6 ∧ sB_ ≤ 6) (hbA_ : 0 ≤ bA_ ∧ bA_ < 2 ^ sA_) (hbB_ : 0 ≤ bB_ ∧ bB_ < 2 ^ sB_) (htA_ : ∀ p9_ : Nat, p9_ < 2 ^ (ip_.toNat + sA_) → 0 ≤ S0_.2.2.1 191 0 p9_ ∧ S0_.2.2.1 191 0 p9_ < 2 ^ sA_) (htB_ : ∀ p9_ : Nat, p9_ < 2 ^ (ip_.toNat + sB_) → 0 ≤ S0_.2.2.1 193 0 p9_ ∧ S0_.2.2.1 193 0 p9_ < 2 ^ sB_) : sm_T (mt_P sc_) 1 386 (0, [some (.inr (.inr (some (13, 0)))), some (.inl ip_), some (.inl bA_), some (.inl bB_), none, none, none, none, none, none], [], S0_) (fun ro9_ => ∃ u_ S1_, ro9_ = (.inl u_, S1_, 0) ∧ vq_386 ip_ bA_ bB_ sA_ sB_ S0_ u_ S1_) := by
  have hF_ : ai_fr (sx_W vw_386) S0_ S0_ := ai_fr_rf
  have w1_ := pw_le (n := sA_) (m := 6) (by omega)
  have w2_ := pw_le (n := sB_) (m := 6) (by omega)
  have w3_ := pw_pos sA_
  have w4_ := pw_pos sB_
  have w5_ := pw_le (n := ip_.toNat) (m := 12) (by omega)
  have w6_ := pw_pos ip_.toNat
  have hIx1_ : gi (sm_pI S0_ 13 0 95 0) := gi_pI hI_ (show 0 ≤ 0 ∧ 0 ≤ 4097 from ⟨by omega, by omega⟩)
  have hFx2_ : ai_fr (sx_W vw_386) S0_ (sm_pI S0_ 13 0 95 0) := ai_fr_tr hF_ (ai_fr_pI rfl)
  refine sm_T_go 5 (c1 := (8, [some (.inr (.inr (some (13, 0)))), some (.inl ip_), some (.inl bA_), some (.inl bB_), some (.inl 0), none, none, none, none, none], [], sm_pI S0_ 13 0 95 0)) rfl ?_
  refine (vl_386 ip_ bA_ bB_ sA_ sB_ S0_ hi_ hbA_ hbB_ htA_ htB_ _).1 0 (sm_pI S0_ 13 0 95 0) hIx1_ hFx2_ ⟨?_, ?_, trivial⟩ (Nat.lt_succ_self _)
  · omega
  · (intro j9_ hj9_; exfalso; omega)
/-! M_.equal -/
def vw_389 : sx_Wl := ([(13, 0), (13, 95)], [189, 190, 191, 192, 193, 194, 195, 196, 197, 198], [])
def vq_389 (a1_ : Int) (a2_ : Int) (S0_ : sm_S) (u_ : Option sm_V) (S1_ : sm_S) : Prop := ∃ v_ : Int, u_ = some (.inl v_) ∧ gi S1_ ∧ ai_fr (sx_W vw_389) S0_ S1_ ∧ (((-2147483648) ≤ v_ ∧ v_ ≤ 2147483647) ∧ (jR S1_))
set_option maxHeartbeats 400000 in
set_option maxRecDepth 20000 in
theorem vc_389 {sc_ : Nat × (Nat → Int)} (a1_ : Int) (a2_ : Int) (S0_ : sm_S) (hI_ : gi S0_) (ha1_ : (-2147483648) ≤ a1_ ∧ a1_ ≤ 2147483647) (ha2_ : (-2147483648) ≤ a2_ ∧ a2_ ≤ 2147483647) (hJ_ : jR S0_) : sm_T (mt_P sc_) 2 389 (0, [some (.inr (.inr (some (13, 0)))), some (.inl a1_), some (.inl a2_)], [], S0_) (fun ro9_ => ∃ u_ S1_, ro9_ = (.inl u_, S1_, 0) ∧ vq_389 a1_ a2_ S0_ u_ S1_) := by
  have hF_ : ai_fr (sx_W vw_389) S0_ S0_ := ai_fr_rf
  refine sm_T_go 3 (c1 := (3, [some (.inr (.inr (some (13, 0)))), some (.inl a1_), some (.inl a2_)], [.inl a1_, .inr (.inr (some (13, 0))), .inr (.inr (some (13, 0)))], S0_)) rfl ?_
  refine sm_T_cal (d1 := 0) (Q1 := vq_369 a1_ S0_) rfl rfl (by decide) (vc_369 a1_ S0_ hI_ (by omega)) (fun u_ Sx1_ px4_ => ?_)
  obtain ⟨rfl, vx6_, rfl, px4_⟩ := px4_
  have d3_ := px4_
  refine sm_T_b0 (a := 0) (z := 11) rfl (fun cx7_ => ?_) (fun cx7_ => ?_)
  · have cx7_ : vx6_ = 0 := of_decide_eq_true cx7_
    have hIx8_ : gi (sm_pI S0_ 13 0 0 1) := gi_pI hI_ (show 0 ≤ 1 ∧ 1 ≤ 4 from ⟨by omega, by omega⟩)
    have hFx9_ : ai_fr (sx_W vw_389) S0_ (sm_pI S0_ 13 0 0 1) := ai_fr_tr hF_ (ai_fr_pI rfl)
    refine sm_T_go 7 (c1 := (67, [some (.inr (.inr (some (13, 0)))), some (.inl a1_), some (.inl a2_)], [.inl 0], sm_pI S0_ 13 0 0 1)) rfl ?_
    refine sm_T_ri rfl ⟨_, _, rfl, _, rfl, hIx8_, hFx9_, ?_⟩
    refine ⟨⟨by omega, by omega⟩, jR_fr hJ_ hIx8_ hFx9_⟩
  · have cx7_ : ¬ (vx6_ = 0) := of_decide_eq_false cx7_
    refine sm_T_go 2 (c1 := (11, [some (.inr (.inr (some (13, 0)))), some (.inl a1_), some (.inl a2_)], [.inl a2_, .inr (.inr (some (13, 0))), .inr (.inr (some (13, 0)))], S0_)) rfl ?_
    refine sm_T_cal (d1 := 0) (Q1 := vq_369 a2_ S0_) rfl rfl (by decide) (vc_369 a2_ S0_ hI_ (by omega)) (fun u_ Sx10_ px13_ => ?_)
    obtain ⟨rfl, vx15_, rfl, px13_⟩ := px13_
    have d11_ := px13_
    refine sm_T_b0 (a := 1) (z := 7) rfl (fun cx16_ => ?_) (fun cx16_ => ?_)
    · have cx16_ : vx15_ ≠ 0 := of_decide_eq_true cx16_
      refine sm_T_go 3 (c1 := (26, [some (.inr (.inr (some (13, 0)))), some (.inl a1_), some (.inl a2_)], [.inl a1_, .inr (.inr (some (154, 0))), .inr (.inr (some (13, 0)))], S0_)) rfl ?_
      refine sm_T_iald (n := 6) rfl rfl (by omega) (by omega) ?_
      have bx17_ : 0 ≤ S0_.2.2.1 154 0 a1_.toNat ∧ S0_.2.2.1 154 0 a1_.toNat ≤ 12 := hI_.2 154 0 _
      refine sm_T_go 3 (c1 := (32, [some (.inr (.inr (some (13, 0)))), some (.inl a1_), some (.inl a2_)], [.inl a2_, .inr (.inr (some (154, 0))), .inl (S0_.2.2.1 154 0 a1_.toNat), .inr (.inr (some (13, 0)))], S0_)) rfl ?_
      refine sm_T_iald (n := 6) rfl rfl (by omega) (by omega) ?_
      have bx18_ : 0 ≤ S0_.2.2.1 154 0 a2_.toNat ∧ S0_.2.2.1 154 0 a2_.toNat ≤ 12 := hI_.2 154 0 _
      refine sm_T_br (a := 1) (z := 18) rfl (fun cx19_ => ?_) (fun cx19_ => ?_)
      · have cx19_ : (S0_.2.2.1 154 0 a1_.toNat) ≠ (S0_.2.2.1 154 0 a2_.toNat) := of_decide_eq_true cx19_
        have hIx20_ : gi (sm_pI S0_ 13 0 0 2) := gi_pI hI_ (show 0 ≤ 2 ∧ 2 ≤ 4 from ⟨by omega, by omega⟩)
        have hFx21_ : ai_fr (sx_W vw_389) S0_ (sm_pI S0_ 13 0 0 2) := ai_fr_tr hF_ (ai_fr_pI rfl)
        refine sm_T_go 7 (c1 := (67, [some (.inr (.inr (some (13, 0)))), some (.inl a1_), some (.inl a2_)], [.inl 0], sm_pI S0_ 13 0 0 2)) rfl ?_
        refine sm_T_ri rfl ⟨_, _, rfl, _, rfl, hIx20_, hFx21_, ?_⟩
        refine ⟨⟨by omega, by omega⟩, jR_fr hJ_ hIx20_ hFx21_⟩
      · have cx19_ : ¬ ((S0_.2.2.1 154 0 a1_.toNat) ≠ (S0_.2.2.1 154 0 a2_.toNat)) := of_decide_eq_false cx19_
        refine sm_T_go 3 (c1 := (41, [some (.inr (.inr (some (13, 0)))), some (.inl a1_), some (.inl a2_)], [.inl a1_, .inr (.inr (some (156, 0))), .inr (.inr (some (13, 0)))], S0_)) rfl ?_
        refine sm_T_iald (n := 6) rfl rfl (by omega) (by omega) ?_
        have bx22_ : 0 ≤ S0_.2.2.1 156 0 a1_.toNat ∧ S0_.2.2.1 156 0 a1_.toNat ≤ 16 := hI_.2 156 0 _
        refine sm_T_go 3 (c1 := (47, [some (.inr (.inr (some (13, 0)))), some (.inl a1_), some (.inl a2_)], [.inl a2_, .inr (.inr (some (156, 0))), .inl (S0_.2.2.1 156 0 a1_.toNat), .inr (.inr (some (13, 0)))], S0_)) rfl ?_
        refine sm_T_iald (n := 6) rfl rfl (by omega) (by omega) ?_
        have bx23_ : 0 ≤ S0_.2.2.1 156 0 a2_.toNat ∧ S0_.2.2.1 156 0 a2_.toNat ≤ 16 := hI_.2 156 0 _
        refine sm_T_br (a := 0) (z := 7) rfl (fun cx24_ => ?_) (fun cx24_ => ?_)
        · have cx24_ : (S0_.2.2.1 156 0 a1_.toNat) = (S0_.2.2.1 156 0 a2_.toNat) := of_decide_eq_true cx24_
          have Da1_ : dRk a1_.toNat S0_ := hJ_.1 a1_.toNat (by omega) (by omega)
          have Da2_ : dRk a2_.toNat S0_ := hJ_.1 a2_.toNat (by omega) (by omega)
          obtain ⟨Ja11_, Ja12_, Ja13_, Ja14_⟩ := dRk_b Da1_
          obtain ⟨Ja21_, Ja22_, Ja23_, Ja24_⟩ := dRk_b Da2_
          have hIx25_ : gi (sm_pI S0_ 13 0 0 0) := gi_pI hI_ (show 0 ≤ 0 ∧ 0 ≤ 4 from ⟨by omega, by omega⟩)
          have hFx26_ : ai_fr (sx_W vw_389) S0_ (sm_pI S0_ 13 0 0 0) := ai_fr_tr hF_ (ai_fr_pI rfl)
          refine sm_T_go 7 (c1 := (70, [some (.inr (.inr (some (13, 0)))), some (.inl a1_), some (.inl a2_)], [.inl a1_, .inr (.inr (some (13, 0)))], sm_pI S0_ 13 0 0 0)) rfl ?_
          refine sm_T_cal (d1 := 0) (Q1 := vq_387 a1_ (sm_pI S0_ 13 0 0 0)) rfl rfl (by decide) (vc_387 a1_ (sm_pI S0_ 13 0 0 0) hIx25_ (by omega) (by exact dRk_fr Da1_ hFx26_ (by decide))) (fun u_ Sx27_ px30_ => ?_)
          obtain ⟨rfl, hIx28_, hFx29_, px30_⟩ := px30_
          have hFx31_ : ai_fr (sx_W vw_389) S0_ Sx27_ := ai_fr_tr hFx26_ (fr_le hFx29_ rfl)
          have t70_ := px30_
          have g154_ : Sx27_.2.2.1 154 0 = S0_.2.2.1 154 0 := fr_arr hFx31_ rfl
          have g155_ : Sx27_.2.2.1 155 0 = S0_.2.2.1 155 0 := fr_arr hFx31_ rfl
          refine sm_T_go 2 (c1 := (75, [some (.inr (.inr (some (13, 0)))), some (.inl a1_), some (.inl a2_)], [.inl a2_, .inr (.inr (some (13, 0)))], Sx27_)) rfl ?_
          refine sm_T_cal (d1 := 0) (Q1 := vq_388 a2_ Sx27_) rfl rfl (by decide) (vc_388 a2_ Sx27_ hIx28_ (by omega) (by exact dRk_fr Da2_ hFx31_ (by decide))) (fun u_ Sx32_ px35_ => ?_)
          obtain ⟨rfl, hIx33_, hFx34_, px35_⟩ := px35_
          have hFx36_ : ai_fr (sx_W vw_389) S0_ Sx32_ := ai_fr_tr hFx31_ (fr_le hFx34_ rfl)
          have t75_ := px35_
          rw [g154_, g155_] at t75_
          have n75_ : Sx32_.2.2.1 191 0 = _ := fr_arr hFx34_ rfl
          have ea1154_ : Sx32_.2.2.1 154 0 a1_.toNat = S0_.2.2.1 154 0 a1_.toNat := congrFun (fr_arr hFx36_ rfl) _
          have ea1155_ : Sx32_.2.2.1 155 0 a1_.toNat = S0_.2.2.1 155 0 a1_.toNat := congrFun (fr_arr hFx36_ rfl) _
          have ea1157_ : Sx32_.2.2.1 157 0 a1_.toNat = S0_.2.2.1 157 0 a1_.toNat := congrFun (fr_arr hFx36_ rfl) _
          have ea2154_ : Sx32_.2.2.1 154 0 a2_.toNat = S0_.2.2.1 154 0 a2_.toNat := congrFun (fr_arr hFx36_ rfl) _
          have ea2155_ : Sx32_.2.2.1 155 0 a2_.toNat = S0_.2.2.1 155 0 a2_.toNat := congrFun (fr_arr hFx36_ rfl) _
          have ea2157_ : Sx32_.2.2.1 157 0 a2_.toNat = S0_.2.2.1 157 0 a2_.toNat := congrFun (fr_arr hFx36_ rfl) _
          refine sm_T_go 4 (c1 := (84, [some (.inr (.inr (some (13, 0)))), some (.inl a1_), some (.inl a2_)], [.inl a1_, .inr (.inr (some (154, 0))), .inr (.inr (some (13, 0)))], Sx32_)) rfl ?_
          refine sm_T_iald (n := 6) rfl rfl (by omega) (by omega) ?_
          have bx37_ : 0 ≤ Sx32_.2.2.1 154 0 a1_.toNat ∧ Sx32_.2.2.1 154 0 a1_.toNat ≤ 12 := hIx33_.2 154 0 _
          refine sm_T_go 3 (c1 := (90, [some (.inr (.inr (some (13, 0)))), some (.inl a1_), some (.inl a2_)], [.inl a1_, .inr (.inr (some (157, 0))), .inl (Sx32_.2.2.1 154 0 a1_.toNat), .inr (.inr (some (13, 0)))], Sx32_)) rfl ?_
          refine sm_T_iald (n := 6) rfl rfl (by omega) (by omega) ?_
          have bx38_ : 0 ≤ Sx32_.2.2.1 157 0 a1_.toNat ∧ Sx32_.2.2.1 157 0 a1_.toNat ≤ 63 := hIx33_.2 157 0 _
          refine sm_T_go 3 (c1 := (96, [some (.inr (.inr (some (13, 0)))), some (.inl a1_), some (.inl a2_)], [.inl a2_, .inr (.inr (some (157, 0))), .inl (Sx32_.2.2.1 157 0 a1_.toNat), .inl (Sx32_.2.2.1 154 0 a1_.toNat), .inr (.inr (some (13, 0)))], Sx32_)) rfl ?_
          refine sm_T_iald (n := 6) rfl rfl (by omega) (by omega) ?_
          have bx39_ : 0 ≤ Sx32_.2.2.1 157 0 a2_.toNat ∧ Sx32_.2.2.1 157 0 a2_.toNat ≤ 63 := hIx33_.2 157 0 _
          refine sm_T_cal (d1 := 1) (Q1 := vq_386 (Sx32_.2.2.1 154 0 a1_.toNat) (Sx32_.2.2.1 157 0 a1_.toNat) (Sx32_.2.2.1 157 0 a2_.toNat) (S0_.2.2.1 155 0 a1_.toNat).toNat (S0_.2.2.1 155 0 a2_.toNat).toNat Sx32_) rfl rfl (by decide) (vc_386 (Sx32_.2.2.1 154 0 a1_.toNat) (Sx32_.2.2.1 157 0 a1_.toNat) (Sx32_.2.2.1 157 0 a2_.toNat) (S0_.2.2.1 155 0 a1_.toNat).toNat (S0_.2.2.1 155 0 a2_.toNat).toNat Sx32_ hIx33_ (by omega) (by (rw [ea1157_]; exact Ja12_)) (by (rw [ea2157_]; exact Ja22_)) (by (rw [ea1154_, n75_]; exact t70_)) (by (rw [ea1154_, show S0_.2.2.1 154 0 a1_.toNat = S0_.2.2.1 154 0 a2_.toNat by omega]; exact t75_))) (fun u_ Sx40_ px43_ => ?_)
          obtain ⟨vx45_, rfl, hIx41_, hFx42_, px43_⟩ := px43_
          have hFx44_ : ai_fr (sx_W vw_389) S0_ Sx40_ := ai_fr_tr hFx36_ (fr_le hFx42_ rfl)
          refine sm_T_ri rfl ⟨_, _, rfl, _, rfl, hIx41_, hFx44_, ?_⟩
          refine ⟨⟨by omega, by omega⟩, jR_fr hJ_ hIx41_ hFx44_⟩
        · have cx24_ : ¬ ((S0_.2.2.1 156 0 a1_.toNat) = (S0_.2.2.1 156 0 a2_.toNat)) := of_decide_eq_false cx24_
          have hIx46_ : gi (sm_pI S0_ 13 0 0 2) := gi_pI hI_ (show 0 ≤ 2 ∧ 2 ≤ 4 from ⟨by omega, by omega⟩)
          have hFx47_ : ai_fr (sx_W vw_389) S0_ (sm_pI S0_ 13 0 0 2) := ai_fr_tr hF_ (ai_fr_pI rfl)
          refine sm_T_go 7 (c1 := (67, [some (.inr (.inr (some (13, 0)))), some (.inl a1_), some (.inl a2_)], [.inl 0], sm_pI S0_ 13 0 0 2)) rfl ?_
          refine sm_T_ri rfl ⟨_, _, rfl, _, rfl, hIx46_, hFx47_, ?_⟩
          refine ⟨⟨by omega, by omega⟩, jR_fr hJ_ hIx46_ hFx47_⟩
    · have cx16_ : ¬ (vx15_ ≠ 0) := of_decide_eq_false cx16_
      have hIx48_ : gi (sm_pI S0_ 13 0 0 1) := gi_pI hI_ (show 0 ≤ 1 ∧ 1 ≤ 4 from ⟨by omega, by omega⟩)
      have hFx49_ : ai_fr (sx_W vw_389) S0_ (sm_pI S0_ 13 0 0 1) := ai_fr_tr hF_ (ai_fr_pI rfl)
      refine sm_T_go 7 (c1 := (67, [some (.inr (.inr (some (13, 0)))), some (.inl a1_), some (.inl a2_)], [.inl 0], sm_pI S0_ 13 0 0 1)) rfl ?_
      refine sm_T_ri rfl ⟨_, _, rfl, _, rfl, hIx48_, hFx49_, ?_⟩
      refine ⟨⟨by omega, by omega⟩, jR_fr hJ_ hIx48_ hFx49_⟩
/-! M_.never -/
def vw_390 : sx_Wl := ([(13, 0), (13, 95)], [189, 190, 191, 192, 193, 194, 195, 196, 197, 198], [])
def vq_390 (a1_ : Int) (a2_ : Int) (S0_ : sm_S) (u_ : Option sm_V) (S1_ : sm_S) : Prop := ∃ v_ : Int, u_ = some (.inl v_) ∧ gi S1_ ∧ ai_fr (sx_W vw_390) S0_ S1_ ∧ ((-2147483648 ≤ v_ ∧ v_ ≤ 2147483647) ∧ jR S1_)
set_option maxHeartbeats 400000 in
set_option maxRecDepth 20000 in
theorem vl_390 {sc_ : Nat × (Nat → Int)} (a1_ : Int) (a2_ : Int) (S0_ : sm_S) (ha1_ : (-2147483648) ≤ a1_ ∧ a1_ ≤ 2147483647) (ha2_ : (-2147483648) ≤ a2_ ∧ a2_ ≤ 2147483647) (hJ_ : jR S0_) : ∀ nn_ : Nat, (∀ (p_ : Int) (S_ : sm_S), gi S_ → ai_fr (sx_W vw_390) S0_ S_ → ((0 ≤ a1_ ∧ a1_ < 6 ∧ 0 ≤ a2_ ∧ a2_ < 16 ∧ 0 ≤ p_ ∧ p_ ≤ 4096) ∧ (dRk a1_.toNat S0_) ∧ (∀ p9_ : Nat, p9_ < 2 ^ ((S0_.2.2.1 154 0 a1_.toNat).toNat + (S0_.2.2.1 155 0 a1_.toNat).toNat) → 0 ≤ S_.2.2.1 191 0 p9_ ∧ S_.2.2.1 191 0 p9_ < 2 ^ (S0_.2.2.1 155 0 a1_.toNat).toNat) ∧ (∀ p9_ : Nat, (p9_ : Int) < p_ → S_.2.2.1 193 0 p9_ = 0) ∧ True) → ((5000 - p_).toNat) < nn_ → sm_T (mt_P sc_) 2 390 (47, [some (.inr (.inr (some (13, 0)))), some (.inl a1_), some (.inl a2_), some (.inl p_)], [], S_) (fun ro9_ => ∃ u_ S1_, ro9_ = (.inl u_, S1_, 0) ∧ vq_390 a1_ a2_ S0_ u_ S1_)) := by
  intro nn_
  induction nn_ with
  | zero => exact fun _ _ _ _ _ h_ => absurd h_ (Nat.not_lt_zero _)
  | succ nn_ ih_ =>
    rintro p_ S_ hI_ hF_ ⟨h0_, hD_, h1_, h2_, -⟩ hm_
    obtain ⟨Ja11_, Ja12_, Ja13_, Ja14_⟩ := dRk_b hD_
    have ea1154_ : S_.2.2.1 154 0 a1_.toNat = S0_.2.2.1 154 0 a1_.toNat := congrFun (fr_arr hF_ rfl) _
    have ea1155_ : S_.2.2.1 155 0 a1_.toNat = S0_.2.2.1 155 0 a1_.toNat := congrFun (fr_arr hF_ rfl) _
    have ea1157_ : S_.2.2.1 157 0 a1_.toNat = S0_.2.2.1 157 0 a1_.toNat := congrFun (fr_arr hF_ rfl) _
    refine sm_T_go 2 (c1 := (51, [some (.inr (.inr (some (13, 0)))), some (.inl a1_), some (.inl a2_), some (.inl p_)], [.inl 4096, .inl p_], S_)) rfl ?_
    refine sm_T_br (a := 3) (z := 39) rfl (fun cx1_ => ?_) (fun cx1_ => ?_)
    · have cx1_ : 4096 ≤ p_ := of_decide_eq_true cx1_
      refine sm_T_go 4 (c1 := (96, [some (.inr (.inr (some (13, 0)))), some (.inl a1_), some (.inl a2_), some (.inl p_)], [.inl a1_, .inr (.inr (some (154, 0))), .inr (.inr (some (13, 0)))], S_)) rfl ?_
      refine sm_T_iald (n := 6) rfl rfl (by omega) (by omega) ?_
      have bx2_ : 0 ≤ S_.2.2.1 154 0 a1_.toNat ∧ S_.2.2.1 154 0 a1_.toNat ≤ 12 := hI_.2 154 0 _
      refine sm_T_go 3 (c1 := (102, [some (.inr (.inr (some (13, 0)))), some (.inl a1_), some (.inl a2_), some (.inl p_)], [.inl a1_, .inr (.inr (some (157, 0))), .inl (S_.2.2.1 154 0 a1_.toNat), .inr (.inr (some (13, 0)))], S_)) rfl ?_
      refine sm_T_iald (n := 6) rfl rfl (by omega) (by omega) ?_
      have bx3_ : 0 ≤ S_.2.2.1 157 0 a1_.toNat ∧ S_.2.2.1 157 0 a1_.toNat ≤ 63 := hI_.2 157 0 _
      refine sm_T_go 1 (c1 := (104, [some (.inr (.inr (some (13, 0)))), some (.inl a1_), some (.inl a2_), some (.inl p_)], [.inl 0, .inl (S_.2.2.1 157 0 a1_.toNat), .inl (S_.2.2.1 154 0 a1_.toNat), .inr (.inr (some (13, 0)))], S_)) rfl ?_
      refine sm_T_cal (d1 := 1) (Q1 := vq_386 (S_.2.2.1 154 0 a1_.toNat) (S_.2.2.1 157 0 a1_.toNat) 0 (S0_.2.2.1 155 0 a1_.toNat).toNat 0 S_) rfl rfl (by decide) (vc_386 (S_.2.2.1 154 0 a1_.toNat) (S_.2.2.1 157 0 a1_.toNat) 0 (S0_.2.2.1 155 0 a1_.toNat).toNat 0 S_ hI_ (by omega) (by (rw [ea1157_]; exact Ja12_)) (by decide) (by (rw [ea1154_]; exact h1_)) (by (intro p9_ hp9_; have w9_ := Nat.pow_le_pow_right (show 0 < 2 by decide) (show (S_.2.2.1 154 0 a1_.toNat).toNat + 0 ≤ 12 by omega); rw [h2_ p9_ (by omega)]; decide))) (fun u_ Sx4_ px7_ => ?_)
      obtain ⟨vx9_, rfl, hIx5_, hFx6_, px7_⟩ := px7_
      have hFx8_ : ai_fr (sx_W vw_390) S0_ Sx4_ := ai_fr_tr hF_ (fr_le hFx6_ rfl)
      refine sm_T_ri rfl ⟨_, _, rfl, _, rfl, hIx5_, hFx8_, ?_⟩
      exact ⟨⟨by omega, by omega⟩, jR_fr hJ_ hIx5_ hFx8_⟩
    · have cx1_ : ¬ (4096 ≤ p_) := of_decide_eq_false cx1_
      refine sm_T_go 6 (c1 := (64, [some (.inr (.inr (some (13, 0)))), some (.inl a1_), some (.inl a2_), some (.inl p_)], [.inl p_, .inr (.inr (some (190, 0))), .inl p_, .inr (.inr (some (190, 0)))], S_)) rfl ?_
      refine sm_T_iald (n := 4096) rfl rfl (by omega) (by omega) ?_
      have bx10_ : 0 ≤ S_.2.2.1 190 0 p_.toNat ∧ S_.2.2.1 190 0 p_.toNat ≤ 65535 := hI_.2 190 0 _
      refine sm_T_go 1 (c1 := (66, [some (.inr (.inr (some (13, 0)))), some (.inl a1_), some (.inl a2_), some (.inl p_)], [.inl a2_, .inl (S_.2.2.1 190 0 p_.toNat), .inl p_, .inr (.inr (some (190, 0)))], S_)) rfl ?_
      refine sm_T_bin (w := (i_shr (S_.2.2.1 190 0 p_.toNat) a2_)) rfl rfl ?_ -- pc_ 66
      have bx11_ := i_shr_p (x_ := (S_.2.2.1 190 0 p_.toNat)) (e_ := a2_) (by omega) (by omega) (by omega)
      refine sm_T_go 1 (c1 := (68, [some (.inr (.inr (some (13, 0)))), some (.inl a1_), some (.inl a2_), some (.inl p_)], [.inl 1, .inl (i_shr (S_.2.2.1 190 0 p_.toNat) a2_), .inl p_, .inr (.inr (some (190, 0)))], S_)) rfl ?_
      refine sm_T_bin (w := ((i_shr (S_.2.2.1 190 0 p_.toNat) a2_) % 2)) rfl (bi_msk (k := 1) (by decide)) ?_ -- pc_ 68
      refine sm_T_iast (n := 4096) rfl rfl (by omega) (by omega) ?_
      have hIx12_ : gi (sm_aI S_ 190 0 p_.toNat ((i_shr (S_.2.2.1 190 0 p_.toNat) a2_) % 2)) := gi_aI hI_ (show 0 ≤ ((i_shr (S_.2.2.1 190 0 p_.toNat) a2_) % 2) ∧ ((i_shr (S_.2.2.1 190 0 p_.toNat) a2_) % 2) ≤ 65535 from ⟨by omega, by omega⟩)
      have hFx13_ : ai_fr (sx_W vw_390) S0_ (sm_aI S_ 190 0 p_.toNat ((i_shr (S_.2.2.1 190 0 p_.toNat) a2_) % 2)) := ai_fr_tr hF_ (ai_fr_aI rfl)
      refine sm_T_go 4 (c1 := (76, [some (.inr (.inr (some (13, 0)))), some (.inl a1_), some (.inl a2_), some (.inl p_)], [.inl 0, .inl p_, .inr (.inr (some (192, 0)))], sm_aI S_ 190 0 p_.toNat ((i_shr (S_.2.2.1 190 0 p_.toNat) a2_) % 2))) rfl ?_
      refine sm_T_iast (n := 4096) rfl rfl (by omega) (by omega) ?_
      have hIx14_ : gi (sm_aI (sm_aI S_ 190 0 p_.toNat ((i_shr (S_.2.2.1 190 0 p_.toNat) a2_) % 2)) 192 0 p_.toNat 0) := gi_aI hIx12_ (show 0 ≤ 0 ∧ 0 ≤ 65535 from ⟨by omega, by omega⟩)
      have hFx15_ : ai_fr (sx_W vw_390) S0_ (sm_aI (sm_aI S_ 190 0 p_.toNat ((i_shr (S_.2.2.1 190 0 p_.toNat) a2_) % 2)) 192 0 p_.toNat 0) := ai_fr_tr hFx13_ (ai_fr_aI rfl)
      refine sm_T_go 4 (c1 := (83, [some (.inr (.inr (some (13, 0)))), some (.inl a1_), some (.inl a2_), some (.inl p_)], [.inl 0, .inl p_, .inr (.inr (some (193, 0)))], sm_aI (sm_aI S_ 190 0 p_.toNat ((i_shr (S_.2.2.1 190 0 p_.toNat) a2_) % 2)) 192 0 p_.toNat 0)) rfl ?_
      refine sm_T_iast (n := 4096) rfl rfl (by omega) (by omega) ?_
      have hIx16_ : gi (sm_aI (sm_aI (sm_aI S_ 190 0 p_.toNat ((i_shr (S_.2.2.1 190 0 p_.toNat) a2_) % 2)) 192 0 p_.toNat 0) 193 0 p_.toNat 0) := gi_aI hIx14_ (show 0 ≤ 0 ∧ 0 ≤ 63 from ⟨by omega, by omega⟩)
      have hFx17_ : ai_fr (sx_W vw_390) S0_ (sm_aI (sm_aI (sm_aI S_ 190 0 p_.toNat ((i_shr (S_.2.2.1 190 0 p_.toNat) a2_) % 2)) 192 0 p_.toNat 0) 193 0 p_.toNat 0) := ai_fr_tr hFx15_ (ai_fr_aI rfl)
      refine sm_T_inc (a := 3) (z := 1) (v := p_) (w := p_ + 1) rfl rfl (by omega) (by omega) (by omega) ?_ -- pc_ 84
      refine sm_T_go 1 (c1 := (47, [some (.inr (.inr (some (13, 0)))), some (.inl a1_), some (.inl a2_), some (.inl (p_ + 1))], [], sm_aI (sm_aI (sm_aI S_ 190 0 p_.toNat ((i_shr (S_.2.2.1 190 0 p_.toNat) a2_) % 2)) 192 0 p_.toNat 0) 193 0 p_.toNat 0)) rfl ?_
      refine ih_ (p_ + 1) (sm_aI (sm_aI (sm_aI S_ 190 0 p_.toNat ((i_shr (S_.2.2.1 190 0 p_.toNat) a2_) % 2)) 192 0 p_.toNat 0) 193 0 p_.toNat 0) hIx16_ hFx17_ ⟨?_, ?_, ?_, ?_, trivial⟩ ?_
      · omega
      · exact hD_
      · intro p9_ hp9_
        rw [rd_ne (by decide), rd_ne (by decide), rd_ne (by decide)]
        exact h1_ p9_ hp9_
      · intro p9_ hp9_
        rw [rd_eq]
        split
        · rfl
        · rw [rd_ne (by decide), rd_ne (by decide)]; exact h2_ p9_ (by omega)
      · omega
set_option maxHeartbeats 400000 in
set_option maxRecDepth 20000 in
theorem vc_390 {sc_ : Nat × (Nat → Int)} (a1_ : Int) (a2_ : Int) (S0_ : sm_S) (hI_ : gi S0_) (ha1_ : (-2147483648) ≤ a1_ ∧ a1_ ≤ 2147483647) (ha2_ : (-2147483648) ≤ a2_ ∧ a2_ ≤ 2147483647) (hJ_ : jR S0_) : sm_T (mt_P sc_) 2 390 (0, [some (.inr (.inr (some (13, 0)))), some (.inl a1_), some (.inl a2_), none], [], S0_) (fun ro9_ => ∃ u_ S1_, ro9_ = (.inl u_, S1_, 0) ∧ vq_390 a1_ a2_ S0_ u_ S1_) := by
  have hF_ : ai_fr (sx_W vw_390) S0_ S0_ := ai_fr_rf
  refine sm_T_go 3 (c1 := (3, [some (.inr (.inr (some (13, 0)))), some (.inl a1_), some (.inl a2_), none], [.inl a1_, .inr (.inr (some (13, 0))), .inr (.inr (some (13, 0)))], S0_)) rfl ?_
  refine sm_T_cal (d1 := 0) (Q1 := vq_369 a1_ S0_) rfl rfl (by decide) (vc_369 a1_ S0_ hI_ (by omega)) (fun u_ Sx1_ px4_ => ?_)
  obtain ⟨rfl, vx6_, rfl, px4_⟩ := px4_
  have d3_ := px4_
  refine sm_T_b0 (a := 0) (z := 17) rfl (fun cx7_ => ?_) (fun cx7_ => ?_)
  · have cx7_ : vx6_ = 0 := of_decide_eq_true cx7_
    have hIx8_ : gi (sm_pI S0_ 13 0 0 1) := gi_pI hI_ (show 0 ≤ 1 ∧ 1 ≤ 4 from ⟨by omega, by omega⟩)
    have hFx9_ : ai_fr (sx_W vw_390) S0_ (sm_pI S0_ 13 0 0 1) := ai_fr_tr hF_ (ai_fr_pI rfl)
    refine sm_T_go 7 (c1 := (39, [some (.inr (.inr (some (13, 0)))), some (.inl a1_), some (.inl a2_), none], [.inl 0], sm_pI S0_ 13 0 0 1)) rfl ?_
    refine sm_T_ri rfl ⟨_, _, rfl, _, rfl, hIx8_, hFx9_, ?_⟩
    exact ⟨⟨by omega, by omega⟩, jR_fr hJ_ hIx8_ hFx9_⟩
  · have cx7_ : ¬ (vx6_ = 0) := of_decide_eq_false cx7_
    refine sm_T_go 1 (c1 := (10, [some (.inr (.inr (some (13, 0)))), some (.inl a1_), some (.inl a2_), none], [.inl a2_, .inr (.inr (some (13, 0)))], S0_)) rfl ?_
    refine sm_T_b0 (a := 2) (z := 13) rfl (fun cx10_ => ?_) (fun cx10_ => ?_)
    · have cx10_ : a2_ < 0 := of_decide_eq_true cx10_
      have hIx11_ : gi (sm_pI S0_ 13 0 0 1) := gi_pI hI_ (show 0 ≤ 1 ∧ 1 ≤ 4 from ⟨by omega, by omega⟩)
      have hFx12_ : ai_fr (sx_W vw_390) S0_ (sm_pI S0_ 13 0 0 1) := ai_fr_tr hF_ (ai_fr_pI rfl)
      refine sm_T_go 7 (c1 := (39, [some (.inr (.inr (some (13, 0)))), some (.inl a1_), some (.inl a2_), none], [.inl 0], sm_pI S0_ 13 0 0 1)) rfl ?_
      refine sm_T_ri rfl ⟨_, _, rfl, _, rfl, hIx11_, hFx12_, ?_⟩
      exact ⟨⟨by omega, by omega⟩, jR_fr hJ_ hIx11_ hFx12_⟩
    · have cx10_ : ¬ (a2_ < 0) := of_decide_eq_false cx10_
      refine sm_T_go 4 (c1 := (19, [some (.inr (.inr (some (13, 0)))), some (.inl a1_), some (.inl a2_), none], [.inl a1_, .inr (.inr (some (156, 0))), .inl a2_, .inr (.inr (some (13, 0)))], S0_)) rfl ?_
      refine sm_T_iald (n := 6) rfl rfl (by omega) (by omega) ?_
      have bx13_ : 0 ≤ S0_.2.2.1 156 0 a1_.toNat ∧ S0_.2.2.1 156 0 a1_.toNat ≤ 16 := hI_.2 156 0 _
      refine sm_T_br (a := 2) (z := 7) rfl (fun cx14_ => ?_) (fun cx14_ => ?_)
      · have cx14_ : a2_ < (S0_.2.2.1 156 0 a1_.toNat) := of_decide_eq_true cx14_
        have Da1_ : dRk a1_.toNat S0_ := hJ_.1 a1_.toNat (by omega) (by omega)
        have hIx15_ : gi (sm_pI S0_ 13 0 0 0) := gi_pI hI_ (show 0 ≤ 0 ∧ 0 ≤ 4 from ⟨by omega, by omega⟩)
        have hFx16_ : ai_fr (sx_W vw_390) S0_ (sm_pI S0_ 13 0 0 0) := ai_fr_tr hF_ (ai_fr_pI rfl)
        refine sm_T_go 7 (c1 := (42, [some (.inr (.inr (some (13, 0)))), some (.inl a1_), some (.inl a2_), none], [.inl a1_, .inr (.inr (some (13, 0)))], sm_pI S0_ 13 0 0 0)) rfl ?_
        refine sm_T_cal (d1 := 0) (Q1 := vq_387 a1_ (sm_pI S0_ 13 0 0 0)) rfl rfl (by decide) (vc_387 a1_ (sm_pI S0_ 13 0 0 0) hIx15_ (by omega) (by exact dRk_fr Da1_ hFx16_ (by decide))) (fun u_ Sx17_ px20_ => ?_)
        obtain ⟨rfl, hIx18_, hFx19_, px20_⟩ := px20_
        have hFx21_ : ai_fr (sx_W vw_390) S0_ Sx17_ := ai_fr_tr hFx16_ (fr_le hFx19_ rfl)
        have t42_ := px20_
        refine sm_T_go 2 (c1 := (47, [some (.inr (.inr (some (13, 0)))), some (.inl a1_), some (.inl a2_), some (.inl 0)], [], Sx17_)) rfl ?_
        refine (vl_390 a1_ a2_ S0_ ha1_ ha2_ hJ_ _) 0 Sx17_ hIx18_ hFx21_ ⟨?_, ?_, ?_, ?_, trivial⟩ (Nat.lt_succ_self _)
        · omega
        · exact Da1_
        · exact t42_
        · (intro p9_ hp9_; exfalso; omega)
      · have cx14_ : ¬ (a2_ < (S0_.2.2.1 156 0 a1_.toNat)) := of_decide_eq_false cx14_
        have hIx22_ : gi (sm_pI S0_ 13 0 0 1) := gi_pI hI_ (show 0 ≤ 1 ∧ 1 ≤ 4 from ⟨by omega, by omega⟩)
        have hFx23_ : ai_fr (sx_W vw_390) S0_ (sm_pI S0_ 13 0 0 1) := ai_fr_tr hF_ (ai_fr_pI rfl)
        refine sm_T_go 7 (c1 := (39, [some (.inr (.inr (some (13, 0)))), some (.inl a1_), some (.inl a2_), none], [.inl 0], sm_pI S0_ 13 0 0 1)) rfl ?_
        refine sm_T_ri rfl ⟨_, _, rfl, _, rfl, hIx22_, hFx23_, ?_⟩
        exact ⟨⟨by omega, by omega⟩, jR_fr hJ_ hIx22_ hFx23_⟩
end
