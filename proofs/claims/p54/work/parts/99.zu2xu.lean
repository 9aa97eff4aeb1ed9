/-! the class: how many faults; written by wip/p55/gen/vg -/
/-! Chip.faultCount -/
def vw_62n : sx_Wl := ([], [], [])
def vq_62n (ii_ : Nat) (S0_ : sm_S) (u_ : Option sm_V) (S1_ : sm_S) : Prop := S0_ = S1_ ∧ ∃ v_ : Int, u_ = some (.inl v_) ∧ ((0 ≤ v_ ∧ v_ ≤ 1224) ∧ v_ = cfu9 ii_ S0_)
set_option maxHeartbeats 400000 in
theorem vl_62n {sc_ : Nat × (Nat → Int)} (ii_ : Nat) (S0_ : sm_S) (hs_ : S0_.1 2 ii_ 1 + S0_.1 2 ii_ 2 ≤ 12) : ∀ nn_ : Nat, (∀ (pn_ : Int) (g_ : Int) (S_ : sm_S), gi S_ → ai_fr (sx_W vw_62n) S0_ S_ → ((0 ≤ g_ ∧ g_ ≤ S0_.1 2 ii_ 8 ∧ S0_.1 2 ii_ 8 ≤ 150 ∧ 0 ≤ pn_ ∧ pn_ ≤ 3 * g_) ∧ (pn_ = ((sn9 (cgs ii_ S0_) g_.toNat : Nat) : Int)) ∧ (S_ = S0_) ∧ True) → ((1000 - g_).toNat) < nn_ → sm_T (mt_P sc_) 1 62 (4, [some (.inr (.inr (some (2, ii_)))), some (.inl pn_), some (.inl g_)], [], S_) (fun ro9_ => ∃ u_ S1_, ro9_ = (.inl u_, S1_, 0) ∧ vq_62n ii_ S0_ u_ S1_)) := by
  intro nn_
  induction nn_ with
  | zero => exact fun _ _ _ _ _ _ h_ => absurd h_ (Nat.not_lt_zero _)
  | succ nn_ ih_ =>
    rintro pn_ g_ S_ hI_ hF_ ⟨h0_, h1_, hS_, -⟩ hm_
    subst hS_
    have s9_ := sn9_s (cgs ii_ S_) g_.toNat
    have T9_ : (g_ + 1).toNat = g_.toNat + 1 := by omega
    have bx1_ : 0 ≤ S_.1 2 ii_ 8 ∧ S_.1 2 ii_ 8 ≤ 150 := hI_.1 2 ii_ 8 rfl
    refine sm_T_go 3 (c1 := (9, [some (.inr (.inr (some (2, ii_)))), some (.inl pn_), some (.inl g_)], [.inl (S_.1 2 ii_ 8), .inl g_], S_)) rfl ?_
    refine sm_T_br (a := 3) (z := 17) rfl (fun cx2_ => ?_) (fun cx2_ => ?_)
    · have cx2_ : (S_.1 2 ii_ 8) ≤ g_ := of_decide_eq_true cx2_
      refine sm_T_go 2 (c1 := (28, [some (.inr (.inr (some (2, ii_)))), some (.inl pn_), some (.inl g_)], [.inr (.inr (some (2, ii_))), .inl 2], S_)) rfl ?_
      refine sm_T_cal (d1 := 0) (Q1 := vq_55 ii_ S_) rfl rfl (by decide) (vc_55 ii_ S_ hI_ ) (fun u_ Sx3_ px6_ => ?_)
      obtain ⟨rfl, vx8_, rfl, px6_⟩ := px6_
      refine sm_T_bin (w := 2 * vx8_) rfl (bi_mul (by omega) (by omega) (by omega)) ?_ -- pc_ 31
      refine sm_T_go 2 (c1 := (34, [some (.inr (.inr (some (2, ii_)))), some (.inl pn_), some (.inl g_)], [.inl pn_, .inl 2, .inl (2 * vx8_)], S_)) rfl ?_
      refine sm_T_bin (w := 2 * pn_) rfl (bi_mul (by omega) (by omega) (by omega)) ?_ -- pc_ 34
      refine sm_T_bin (w := 2 * vx8_ + 2 * pn_) rfl (bi_add (by omega) (by omega) (by omega)) ?_ -- pc_ 35
      refine sm_T_ri rfl ⟨_, _, rfl, (by first | rfl | exact hS_.symm), _, rfl, ?_⟩
      have e9_ : g_.toNat = (S_.1 2 ii_ 8).toNat := by omega
      rw [e9_] at h1_
      refine ⟨by omega, ?_⟩
      unfold cfu9 cnc
      omega
    · have cx2_ : ¬ ((S_.1 2 ii_ 8) ≤ g_) := of_decide_eq_false cx2_
      refine sm_T_go 3 (c1 := (15, [some (.inr (.inr (some (2, ii_)))), some (.inl pn_), some (.inl g_)], [.inl g_, .inr (.inr (some (2, ii_))), .inl pn_], S_)) rfl ?_
      refine sm_T_cal (d1 := 0) (Q1 := vq_59 g_ ii_ S_) rfl rfl (by decide) (vc_59 g_ ii_ S_ hI_ (by omega)) (fun u_ Sx9_ px12_ => ?_)
      obtain ⟨rfl, vx14_, rfl, px12_⟩ := px12_
      have g9_ := px12_.1
      have c13_ : vx14_ = ((cgs ii_ S_ g_.toNat : Nat) : Int) := by (have y9_ := px12_; unfold cgs kcN; omega)
      refine sm_T_bin (w := pn_ + vx14_) rfl (bi_add (by omega) (by omega) (by omega)) ?_ -- pc_ 18
      refine sm_T_go 1 (c1 := (20, [some (.inr (.inr (some (2, ii_)))), some (.inl (pn_ + vx14_)), some (.inl g_)], [], S_)) rfl ?_
      refine sm_T_inc (a := 2) (z := 1) (v := g_) (w := g_ + 1) rfl rfl (by omega) (by omega) (by omega) ?_ -- pc_ 20
      refine sm_T_go 1 (c1 := (4, [some (.inr (.inr (some (2, ii_)))), some (.inl (pn_ + vx14_)), some (.inl (g_ + 1))], [], S_)) rfl ?_
      refine ih_ (pn_ + vx14_) (g_ + 1) S_ hI_ hF_ ⟨?_, ?_, ?_, trivial⟩ ?_
      · omega
      · (rw [T9_, s9_]; push_cast; omega)
      · rfl
      · omega
set_option maxHeartbeats 400000 in
theorem vc_62n {sc_ : Nat × (Nat → Int)} (ii_ : Nat) (S0_ : sm_S) (hI_ : gi S0_) (hs_ : S0_.1 2 ii_ 1 + S0_.1 2 ii_ 2 ≤ 12) : sm_T (mt_P sc_) 1 62 (0, [some (.inr (.inr (some (2, ii_)))), none, none], [], S0_) (fun ro9_ => ∃ u_ S1_, ro9_ = (.inl u_, S1_, 0) ∧ vq_62n ii_ S0_ u_ S1_) := by
  have hF_ : ai_fr (sx_W vw_62n) S0_ S0_ := ai_fr_rf
  refine sm_T_go 4 (c1 := (4, [some (.inr (.inr (some (2, ii_)))), some (.inl 0), some (.inl 0)], [], S0_)) rfl ?_
  refine (vl_62n ii_ S0_ hs_ _) 0 0 S0_ hI_ hF_ ⟨?_, ?_, ?_, trivial⟩ (Nat.lt_succ_self _)
  · (have q9_ : 0 ≤ S0_.1 2 ii_ 8 ∧ S0_.1 2 ii_ 8 ≤ 150 := hI_.1 2 ii_ 8 rfl; omega)
  · (rw [show (0 : Int).toNat = 0 from rfl]; rfl)
  · rfl
