/-! Reader.nextInput -/
def vw_130 : sx_Wl := ([], [], [])
def vq_130 (m_ : Int) (k_ : Int) (b_ : Nat → Int) (n_ : Nat) (A_ : pA) (M_ : Nat) (mm_ : Nat) (k0_ : Nat) (S0_ : sm_S) (u_ : Option sm_V) (S1_ : sm_S) : Prop := S0_ = S1_ ∧ ∃ v_ : Int, u_ = some (.inl v_) ∧ (v_ = p_ni A_ mm_ k0_)
set_option maxHeartbeats 400000 in
theorem vl_130 {sc_ : Nat × (Nat → Int)} (m_ : Int) (k_ : Int) (b_ : Nat → Int) (n_ : Nat) (A_ : pA) (M_ : Nat) (mm_ : Nat) (k0_ : Nat) (S0_ : sm_S) (hd_ : er b_ n_ A_ M_ S0_) (hmd_ : m_ = (mm_ : Int) ∧ mm_ ≤ M_) (hk_ : k_ = (k0_ : Int)) (hk1_ : k0_ ≤ A_.1 mm_) : ∀ nn_ : Nat, (∀ (s_ : Int) (S_ : sm_S), gi S_ → ai_fr (sx_W vw_130) S0_ S_ → ((k_ ≤ s_ ∧ s_ ≤ (A_.1 mm_ : Int)) ∧ (p_fd (fun s_ => decide (k0_ ≤ s_) && decide (A_.2.2.1 (40 * mm_ + s_) = 0)) s_.toNat = -1) ∧ (S_ = S0_) ∧ True) → (((A_.1 mm_ : Int) - s_).toNat) < nn_ → sm_T (mt_P sc_) 0 130 (2, [some (.inr (.inr (some (7, 0)))), some (.inl m_), some (.inl k_), some (.inl s_)], [], S_) (fun r_ => ∃ u_ S1_, r_ = (.inl u_, S1_, 0) ∧ vq_130 m_ k_ b_ n_ A_ M_ mm_ k0_ S0_ u_ S1_)) := by
  intro nn_
  induction nn_ with
  | zero => exact fun _ _ _ _ _ h_ => absurd h_ (Nat.not_lt_zero _)
  | succ nn_ ih_ =>
    rintro s_ S_ hI_ hF_ ⟨h0_, h1_, hS_, -⟩ hm_
    have hA_ := (hd_.2.1.2 mm_ hmd_.2).1
    have hM1_ := hd_.2.1.1
    have hK_ : S_.2.2.1 77 0 m_.toNat = (A_.1 mm_ : Int) := by rw [hS_, show m_.toNat = mm_ by omega]; exact (hd_.2.2 mm_ hmd_.2).1
    have hs9_ : s_ < (A_.1 mm_ : Int) → S_.2.2.1 79 0 (40 * m_ + s_).toNat = A_.2.2.1 (40 * mm_ + s_.toNat) := by intro z_; rw [hS_, show (40 * m_ + s_).toNat = 40 * mm_ + s_.toNat by omega]; exact ((hd_.2.2 mm_ hmd_.2).2 s_.toNat (by omega)).2.1
    refine sm_T_go 4 (c1 := (8, [some (.inr (.inr (some (7, 0)))), some (.inl m_), some (.inl k_), some (.inl s_)], [.inl m_, .inr (.inr (some (77, 0))), .inl s_], S_)) rfl ?_
    refine sm_T_iald (n := 17) rfl rfl (by omega) (by omega) ?_
    have bx1_ : 0 ≤ S_.2.2.1 77 0 m_.toNat ∧ S_.2.2.1 77 0 m_.toNat ≤ 40 := hI_.2 77 0 _
    refine sm_T_br (a := 3) (z := 25) rfl (fun cx2_ => ?_) (fun cx2_ => ?_)
    · have cx2_ : (S_.2.2.1 77 0 m_.toNat) ≤ s_ := of_decide_eq_true cx2_
      refine sm_T_go 1 (c1 := (35, [some (.inr (.inr (some (7, 0)))), some (.inl m_), some (.inl k_), some (.inl s_)], [.inl (-1)], S_)) rfl ?_
      refine sm_T_ri rfl ⟨_, _, rfl, (by first | rfl | exact hS_.symm), _, rfl, ?_⟩
      unfold p_ni
      rw [show A_.1 mm_ = s_.toNat by omega]
      exact h1_.symm
    · have cx2_ : ¬ ((S_.2.2.1 77 0 m_.toNat) ≤ s_) := of_decide_eq_false cx2_
      refine sm_T_go 4 (c1 := (19, [some (.inr (.inr (some (7, 0)))), some (.inl m_), some (.inl k_), some (.inl s_)], [.inl 40, .inl m_, .inr (.inr (some (79, 0)))], S_)) rfl ?_
      refine sm_T_bin (w := 40 * m_) rfl (bi_mul (by omega) (by omega) (by omega)) ?_
      refine sm_T_go 1 (c1 := (21, [some (.inr (.inr (some (7, 0)))), some (.inl m_), some (.inl k_), some (.inl s_)], [.inl s_, .inl (40 * m_), .inr (.inr (some (79, 0)))], S_)) rfl ?_
      refine sm_T_bin (w := 40 * m_ + s_) rfl (bi_add (by omega) (by omega) (by omega)) ?_
      refine sm_T_iald (n := 640) rfl rfl (by omega) (by omega) ?_
      have bx3_ : 0 ≤ S_.2.2.1 79 0 (40 * m_ + s_).toNat ∧ S_.2.2.1 79 0 (40 * m_ + s_).toNat ≤ 5 := hI_.2 79 0 _
      refine sm_T_b0 (a := 1) (z := 5) rfl (fun cx4_ => ?_) (fun cx4_ => ?_)
      · have cx4_ : (S_.2.2.1 79 0 (40 * m_ + s_).toNat) ≠ 0 := of_decide_eq_true cx4_
        refine sm_T_inc (a := 3) (z := 1) (v := s_) (w := s_ + 1) rfl rfl (by omega) (by omega) (by omega) ?_
        refine sm_T_go 1 (c1 := (2, [some (.inr (.inr (some (7, 0)))), some (.inl m_), some (.inl k_), some (.inl (s_ + 1))], [], S_)) rfl ?_
        refine ih_ (s_ + 1) S_ hI_ hF_ ⟨?_, ?_, ?_, trivial⟩ ?_
        · omega
        · have e9_ := hs9_ (by omega)
          rw [show (s_ + 1).toNat = s_.toNat + 1 by omega]
          refine p_fd_nx h1_ ?_
          rw [Bool.and_eq_false_iff]; right; exact decide_eq_false (by omega)
        · first | rfl | exact hS_
        · omega
      · have cx4_ : ¬ ((S_.2.2.1 79 0 (40 * m_ + s_).toNat) ≠ 0) := of_decide_eq_false cx4_
        refine sm_T_go 1 (c1 := (27, [some (.inr (.inr (some (7, 0)))), some (.inl m_), some (.inl k_), some (.inl s_)], [.inl s_], S_)) rfl ?_
        refine sm_T_ri rfl ⟨_, _, rfl, (by first | rfl | exact hS_.symm), _, rfl, ?_⟩
        have e9_ := hs9_ (by omega)
        unfold p_ni
        rw [p_fd_go h1_ ?_ (show s_.toNat < A_.1 mm_ by omega)]
        · omega
        · rw [Bool.and_eq_true, decide_eq_true_eq, decide_eq_true_eq]; exact ⟨by omega, by omega⟩
set_option maxHeartbeats 400000 in
theorem vc_130 {sc_ : Nat × (Nat → Int)} (m_ : Int) (k_ : Int) (b_ : Nat → Int) (n_ : Nat) (A_ : pA) (M_ : Nat) (mm_ : Nat) (k0_ : Nat) (S0_ : sm_S) (hI_ : gi S0_) (hd_ : er b_ n_ A_ M_ S0_) (hmd_ : m_ = (mm_ : Int) ∧ mm_ ≤ M_) (hk_ : k_ = (k0_ : Int)) (hk1_ : k0_ ≤ A_.1 mm_) : sm_T (mt_P sc_) 0 130 (0, [some (.inr (.inr (some (7, 0)))), some (.inl m_), some (.inl k_), none], [], S0_) (fun r_ => ∃ u_ S1_, r_ = (.inl u_, S1_, 0) ∧ vq_130 m_ k_ b_ n_ A_ M_ mm_ k0_ S0_ u_ S1_) := by
  have hF_ : ai_fr (sx_W vw_130) S0_ S0_ := ai_fr_rf
  refine sm_T_go 2 (c1 := (2, [some (.inr (.inr (some (7, 0)))), some (.inl m_), some (.inl k_), some (.inl k_)], [], S0_)) rfl ?_
  refine (vl_130 m_ k_ b_ n_ A_ M_ mm_ k0_ S0_ hd_ hmd_ hk_ hk1_ _) k_ S0_ hI_ hF_ ⟨?_, ?_, ?_, trivial⟩ (Nat.lt_succ_self _)
  · omega
  · rw [hk_]
    have : ∀ j_, j_ ≤ k0_ → p_fd (fun s_ => decide (k0_ ≤ s_) && decide (A_.2.2.1 (40 * mm_ + s_) = 0)) j_ = -1 := by intro j_; induction j_ with | zero => (intro _; rfl) | succ j_ ih_ => (intro hj_; exact p_fd_nx (ih_ (by omega)) (by rw [decide_eq_false (by omega)]; rfl))
    exact this k0_ (Nat.le_refl _)
  · first | rfl | exact hS_
