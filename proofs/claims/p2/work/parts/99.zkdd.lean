/-! Router.before -/
def vw_166 : sx_Wl := ([], [], [])
def vq_166 (a1_ : Int) (a2_ : Int) (S0_ : sm_S) (u_ : Option sm_V) (S1_ : sm_S) : Prop := S0_ = S1_ ∧ ∃ v_ : Int, u_ = some (.inl v_) ∧ ((v_ = -1 ∧ ∀ d_, 0 ≤ d_ → d_ < 5 → nb (S0_.1 8 0 1) (S0_.1 8 0 2) a1_ d_ = -1 ∨ S0_.2.2.1 86 0 (nb (S0_.1 8 0 1) (S0_.1 8 0 2) a1_ d_).toNat ≠ a2_) ∨ ((0 ≤ v_ ∧ v_ < 2 * S0_.1 8 0 2) ∧ S0_.2.2.1 86 0 v_.toNat = a2_))
set_option maxHeartbeats 400000 in
theorem vl_166 {sc_ : Nat × (Nat → Int)} (a1_ : Int) (a2_ : Int) (S0_ : sm_S) (hg_ : rgw S0_) (h1_ : 0 ≤ a1_ ∧ a1_ < 2 * S0_.1 8 0 2) : ∀ nn_ : Nat, (∀ (d9_ : Int) (S_ : sm_S), gi S_ → ai_fr (sx_W vw_166) S0_ S_ → ((0 ≤ d9_ ∧ d9_ ≤ 5) ∧ (∀ d_, 0 ≤ d_ → d_ < d9_ → nb (S0_.1 8 0 1) (S0_.1 8 0 2) a1_ d_ = -1 ∨ S0_.2.2.1 86 0 (nb (S0_.1 8 0 1) (S0_.1 8 0 2) a1_ d_).toNat ≠ a2_) ∧ (S_ = S0_) ∧ True) → ((10 - d9_).toNat) < nn_ → sm_T (mt_P sc_) 1 166 (2, [some (.inr (.inr (some (8, 0)))), some (.inl a1_), some (.inl a2_), some (.inl d9_), none], [], S_) (fun ro9_ => ∃ u_ S1_, ro9_ = (.inl u_, S1_, 0) ∧ vq_166 a1_ a2_ S0_ u_ S1_)) := by
  intro nn_
  induction nn_ with
  | zero => exact fun _ _ _ _ _ h_ => absurd h_ (Nat.not_lt_zero _)
  | succ nn_ ih_ =>
    rintro d9_ S_ hI_ hF_ ⟨h0_, hd_, hS_, -⟩ hm_
    have cL_ : 0 ≤ S_.1 8 0 2 ∧ S_.1 8 0 2 ≤ 2356 := hI_.1 8 0 2 rfl
    rw [hS_] at cL_
    refine sm_T_go 2 (c1 := (4, [some (.inr (.inr (some (8, 0)))), some (.inl a1_), some (.inl a2_), some (.inl d9_), none], [.inl 5, .inl d9_], S_)) rfl ?_
    refine sm_T_br (a := 3) (z := 37) rfl (fun cx1_ => ?_) (fun cx1_ => ?_)
    · have cx1_ : 5 ≤ d9_ := of_decide_eq_true cx1_
      refine sm_T_go 1 (c1 := (42, [some (.inr (.inr (some (8, 0)))), some (.inl a1_), some (.inl a2_), some (.inl d9_), none], [.inl (-1)], S_)) rfl ?_
      refine sm_T_ri rfl ⟨_, _, rfl, (by first | rfl | exact hS_.symm), _, rfl, ?_⟩
      left
      exact ⟨rfl, fun d_ u_ w_ => hd_ d_ u_ (by omega)⟩
    · have cx1_ : ¬ (5 ≤ d9_) := of_decide_eq_false cx1_
      refine sm_T_go 3 (c1 := (10, [some (.inr (.inr (some (8, 0)))), some (.inl a1_), some (.inl a2_), some (.inl d9_), none], [.inl d9_, .inl a1_, .inr (.inr (some (8, 0)))], S_)) rfl ?_
      refine sm_T_cal (d1 := 0) (Q1 := vq_164 a1_ d9_ S_) rfl rfl (by decide) (vc_164 a1_ d9_ S_ hI_ (by (rw [hS_]; exact hg_)) (by (rw [hS_]; omega)) (by omega)) (fun u_ Sx2_ px5_ => ?_)
      obtain ⟨rfl, vx7_, rfl, px5_⟩ := px5_
      have n9_ := px5_
      rw [hS_] at n9_
      have r9_ := nb_r (d := d9_) (show 0 < S0_.1 8 0 1 from hg_.1) (show 0 < S0_.1 8 0 2 from hg_.2.1) h1_
      rw [← n9_] at r9_
      refine sm_T_go 3 (c1 := (18, [some (.inr (.inr (some (8, 0)))), some (.inl a1_), some (.inl a2_), some (.inl d9_), some (.inl vx7_)], [.inl (-1), .inl vx7_], S_)) rfl ?_
      refine sm_T_br (a := 0) (z := 17) rfl (fun cx8_ => ?_) (fun cx8_ => ?_)
      · have cx8_ : vx7_ = (-1) := of_decide_eq_true cx8_
        refine sm_T_inc (a := 3) (z := 1) (v := d9_) (w := d9_ + 1) rfl rfl (by omega) (by omega) (by omega) ?_ -- pc_ 35
        refine sm_T_go 1 (c1 := (2, [some (.inr (.inr (some (8, 0)))), some (.inl a1_), some (.inl a2_), some (.inl (d9_ + 1)), some (.inl vx7_)], [], S_)) rfl ?_
        refine sm_T_wk [some (.inr (.inr (some (8, 0)))), some (.inl a1_), some (.inl a2_), some (.inl (d9_ + 1)), none] (by exact ⟨rfl, rfl, rfl, rfl, trivial⟩) ?_
        refine ih_ (d9_ + 1) S_ hI_ hF_ ⟨?_, ?_, ?_, trivial⟩ ?_
        · omega
        · intro d_ u_ w_
          by_cases y9_ : d_ = d9_
          · rw [y9_, ← n9_]; first | (left; omega) | (right; rw [← hS_]; omega)
          · exact hd_ d_ u_ (by omega)
        · first | rfl | exact hS_
        · omega
      · have cx8_ : ¬ (vx7_ = (-1)) := of_decide_eq_false cx8_
        refine sm_T_go 3 (c1 := (27, [some (.inr (.inr (some (8, 0)))), some (.inl a1_), some (.inl a2_), some (.inl d9_), some (.inl vx7_)], [.inl vx7_, .inr (.inr (some (86, 0)))], S_)) rfl ?_
        refine sm_T_iald (n := 4712) rfl rfl (by omega) (by omega) ?_
        have bx9_ : (-1) ≤ S_.2.2.1 86 0 vx7_.toNat ∧ S_.2.2.1 86 0 vx7_.toNat ≤ 100000 := hI_.2 86 0 _
        refine sm_T_go 1 (c1 := (29, [some (.inr (.inr (some (8, 0)))), some (.inl a1_), some (.inl a2_), some (.inl d9_), some (.inl vx7_)], [.inl a2_, .inl (S_.2.2.1 86 0 vx7_.toNat)], S_)) rfl ?_
        refine sm_T_br (a := 1) (z := 6) rfl (fun cx10_ => ?_) (fun cx10_ => ?_)
        · have cx10_ : (S_.2.2.1 86 0 vx7_.toNat) ≠ a2_ := of_decide_eq_true cx10_
          refine sm_T_inc (a := 3) (z := 1) (v := d9_) (w := d9_ + 1) rfl rfl (by omega) (by omega) (by omega) ?_ -- pc_ 35
          refine sm_T_go 1 (c1 := (2, [some (.inr (.inr (some (8, 0)))), some (.inl a1_), some (.inl a2_), some (.inl (d9_ + 1)), some (.inl vx7_)], [], S_)) rfl ?_
          refine sm_T_wk [some (.inr (.inr (some (8, 0)))), some (.inl a1_), some (.inl a2_), some (.inl (d9_ + 1)), none] (by exact ⟨rfl, rfl, rfl, rfl, trivial⟩) ?_
          refine ih_ (d9_ + 1) S_ hI_ hF_ ⟨?_, ?_, ?_, trivial⟩ ?_
          · omega
          · intro d_ u_ w_
            by_cases y9_ : d_ = d9_
            · rw [y9_, ← n9_]; first | (left; omega) | (right; rw [← hS_]; omega)
            · exact hd_ d_ u_ (by omega)
          · first | rfl | exact hS_
          · omega
        · have cx10_ : ¬ ((S_.2.2.1 86 0 vx7_.toNat) ≠ a2_) := of_decide_eq_false cx10_
          refine sm_T_go 1 (c1 := (34, [some (.inr (.inr (some (8, 0)))), some (.inl a1_), some (.inl a2_), some (.inl d9_), some (.inl vx7_)], [.inl vx7_], S_)) rfl ?_
          refine sm_T_ri rfl ⟨_, _, rfl, (by first | rfl | exact hS_.symm), _, rfl, ?_⟩
          right
          rw [hS_] at *
          exact ⟨by omega, by omega⟩
set_option maxHeartbeats 400000 in
theorem vc_166 {sc_ : Nat × (Nat → Int)} (a1_ : Int) (a2_ : Int) (S0_ : sm_S) (hI_ : gi S0_) (hg_ : rgw S0_) (h1_ : 0 ≤ a1_ ∧ a1_ < 2 * S0_.1 8 0 2) : sm_T (mt_P sc_) 1 166 (0, [some (.inr (.inr (some (8, 0)))), some (.inl a1_), some (.inl a2_), none, none], [], S0_) (fun ro9_ => ∃ u_ S1_, ro9_ = (.inl u_, S1_, 0) ∧ vq_166 a1_ a2_ S0_ u_ S1_) := by
  have hF_ : ai_fr (sx_W vw_166) S0_ S0_ := ai_fr_rf
  have cL_ : 0 ≤ S0_.1 8 0 2 ∧ S0_.1 8 0 2 ≤ 2356 := hI_.1 8 0 2 rfl
  refine sm_T_go 2 (c1 := (2, [some (.inr (.inr (some (8, 0)))), some (.inl a1_), some (.inl a2_), some (.inl 0), none], [], S0_)) rfl ?_
  refine (vl_166 a1_ a2_ S0_ hg_ h1_ _) 0 S0_ hI_ hF_ ⟨?_, ?_, ?_, trivial⟩ (Nat.lt_succ_self _)
  · omega
  · (intro d_ u_ w_; exfalso; omega)
  · first | rfl | exact hS_
