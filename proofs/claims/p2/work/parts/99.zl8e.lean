/-! Tester.isSpare -/
def vw_181 : sx_Wl := ([], [], [])
def vq_181 (a1_ : Int) (a2_ : Int) (S0_ : sm_S) (u_ : Option sm_V) (S1_ : sm_S) : Prop := S0_ = S1_ ∧ ∃ v_ : Int, u_ = some (.inl v_) ∧ (0 ≤ v_ ∧ v_ ≤ 1)
set_option maxHeartbeats 400000 in
theorem vl_181 {sc_ : Nat × (Nat → Int)} (a1_ : Int) (a2_ : Int) (S0_ : sm_S) (h1_ : 0 ≤ a1_ ∧ a1_ ≤ 4095) (h2_ : 0 ≤ a2_ ∧ a2_ ≤ 1224) : ∀ nn_ : Nat, (∀ (f_ : Int) (S_ : sm_S), gi S_ → ai_fr (sx_W vw_181) S0_ S_ → ((0 ≤ f_ ∧ f_ ≤ a2_) ∧ (S_ = S0_) ∧ True) → ((2000 - f_).toNat) < nn_ → sm_T (mt_P sc_) 1 181 (2, [some (.inr (.inr (some (9, 0)))), some (.inl a1_), some (.inl a2_), some (.inl f_)], [], S_) (fun ro9_ => ∃ u_ S1_, ro9_ = (.inl u_, S1_, 0) ∧ vq_181 a1_ a2_ S0_ u_ S1_)) := by
  intro nn_
  induction nn_ with
  | zero => exact fun _ _ _ _ _ h_ => absurd h_ (Nat.not_lt_zero _)
  | succ nn_ ih_ =>
    rintro f_ S_ hI_ hF_ ⟨h0_, hS_, -⟩ hm_
    refine sm_T_go 2 (c1 := (4, [some (.inr (.inr (some (9, 0)))), some (.inl a1_), some (.inl a2_), some (.inl f_)], [.inl a2_, .inl f_], S_)) rfl ?_
    refine sm_T_br (a := 3) (z := 30) rfl (fun cx1_ => ?_) (fun cx1_ => ?_)
    · have cx1_ : a2_ ≤ f_ := of_decide_eq_true cx1_
      refine sm_T_go 1 (c1 := (35, [some (.inr (.inr (some (9, 0)))), some (.inl a1_), some (.inl a2_), some (.inl f_)], [.inl 1], S_)) rfl ?_
      refine sm_T_rz rfl (by omega) ⟨_, _, rfl, (by first | rfl | exact hS_.symm), _, rfl, ?_⟩
      omega
    · have cx1_ : ¬ (a2_ ≤ f_) := of_decide_eq_false cx1_
      refine sm_T_go 3 (c1 := (12, [some (.inr (.inr (some (9, 0)))), some (.inl a1_), some (.inl a2_), some (.inl f_)], [.inl f_, .inr (.inr (some (97, 0)))], S_)) rfl ?_
      refine sm_T_iald (n := 1224) rfl rfl (by omega) (by omega) ?_
      have bx2_ : (-2147483648) ≤ S_.2.2.1 97 0 f_.toNat ∧ S_.2.2.1 97 0 f_.toNat ≤ 2147483647 := hI_.2 97 0 _
      refine sm_T_go 1 (c1 := (14, [some (.inr (.inr (some (9, 0)))), some (.inl a1_), some (.inl a2_), some (.inl f_)], [.inl 1, .inl (S_.2.2.1 97 0 f_.toNat)], S_)) rfl ?_
      refine sm_T_br (a := 1) (z := 14) rfl (fun cx3_ => ?_) (fun cx3_ => ?_)
      · have cx3_ : (S_.2.2.1 97 0 f_.toNat) ≠ 1 := of_decide_eq_true cx3_
        refine sm_T_inc (a := 3) (z := 1) (v := f_) (w := f_ + 1) rfl rfl (by omega) (by omega) (by omega) ?_ -- pc_ 28
        refine sm_T_go 1 (c1 := (2, [some (.inr (.inr (some (9, 0)))), some (.inl a1_), some (.inl a2_), some (.inl (f_ + 1))], [], S_)) rfl ?_
        refine ih_ (f_ + 1) S_ hI_ hF_ ⟨?_, ?_, trivial⟩ ?_
        · omega
        · first | rfl | exact hS_
        · omega
      · have cx3_ : ¬ ((S_.2.2.1 97 0 f_.toNat) ≠ 1) := of_decide_eq_false cx3_
        refine sm_T_go 3 (c1 := (20, [some (.inr (.inr (some (9, 0)))), some (.inl a1_), some (.inl a2_), some (.inl f_)], [.inl f_, .inl a1_, .inr (.inr (some (9, 0)))], S_)) rfl ?_
        refine sm_T_cal (d1 := 0) (Q1 := vq_176 a1_ f_ S_) rfl rfl (by decide) (vc_176 a1_ f_ S_ hI_ (by omega) (by omega)) (fun u_ Sx4_ px7_ => ?_)
        obtain ⟨rfl, vx9_, rfl, px7_⟩ := px7_
        have i20_ := px7_
        refine sm_T_b0 (a := 0) (z := 5) rfl (fun cx10_ => ?_) (fun cx10_ => ?_)
        · have cx10_ : vx9_ = 0 := of_decide_eq_true cx10_
          refine sm_T_inc (a := 3) (z := 1) (v := f_) (w := f_ + 1) rfl rfl (by omega) (by omega) (by omega) ?_ -- pc_ 28
          refine sm_T_go 1 (c1 := (2, [some (.inr (.inr (some (9, 0)))), some (.inl a1_), some (.inl a2_), some (.inl (f_ + 1))], [], S_)) rfl ?_
          refine ih_ (f_ + 1) S_ hI_ hF_ ⟨?_, ?_, trivial⟩ ?_
          · omega
          · first | rfl | exact hS_
          · omega
        · have cx10_ : ¬ (vx9_ = 0) := of_decide_eq_false cx10_
          refine sm_T_go 1 (c1 := (27, [some (.inr (.inr (some (9, 0)))), some (.inl a1_), some (.inl a2_), some (.inl f_)], [.inl 0], S_)) rfl ?_
          refine sm_T_rz rfl (by omega) ⟨_, _, rfl, (by first | rfl | exact hS_.symm), _, rfl, ?_⟩
          omega
set_option maxHeartbeats 400000 in
theorem vc_181 {sc_ : Nat × (Nat → Int)} (a1_ : Int) (a2_ : Int) (S0_ : sm_S) (hI_ : gi S0_) (h1_ : 0 ≤ a1_ ∧ a1_ ≤ 4095) (h2_ : 0 ≤ a2_ ∧ a2_ ≤ 1224) : sm_T (mt_P sc_) 1 181 (0, [some (.inr (.inr (some (9, 0)))), some (.inl a1_), some (.inl a2_), none], [], S0_) (fun ro9_ => ∃ u_ S1_, ro9_ = (.inl u_, S1_, 0) ∧ vq_181 a1_ a2_ S0_ u_ S1_) := by
  have hF_ : ai_fr (sx_W vw_181) S0_ S0_ := ai_fr_rf
  refine sm_T_go 2 (c1 := (2, [some (.inr (.inr (some (9, 0)))), some (.inl a1_), some (.inl a2_), some (.inl 0)], [], S0_)) rfl ?_
  refine (vl_181 a1_ a2_ S0_ h1_ h2_ _) 0 S0_ hI_ hF_ ⟨?_, ?_, trivial⟩ (Nat.lt_succ_self _)
  · omega
  · first | rfl | exact hS_
