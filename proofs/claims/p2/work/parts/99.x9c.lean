/-! Reader.findModule -/
def vw_118 : sx_Wl := ([], [], [])
def vq_118 (y_ : Int) (b_ : Nat → Int) (n_ : Nat) (N_ : Nat → Nat) (M_ : Nat) (q_ : Nat) (S0_ : sm_S) (u_ : Option sm_V) (S1_ : sm_S) : Prop := S0_ = S1_ ∧ ∃ v_ : Int, u_ = some (.inl v_) ∧ (v_ = p_fm b_ n_ N_ M_ q_)
set_option maxHeartbeats 400000 in
theorem vl_118 {sc_ : Nat × (Nat → Int)} (y_ : Int) (b_ : Nat → Int) (n_ : Nat) (N_ : Nat → Nat) (M_ : Nat) (q_ : Nat) (S0_ : sm_S) (hb_ : S0_.2.2.1 98 0 = b_) (hn1_ : n_ ≤ 1280) (hmd_ : (S0_.1 7 0 3) = (M_ : Int)) (hr_ : nr b_ n_ N_ M_ S0_) (hy_ : y_ = (16 * q_ + lx_sz b_ n_ q_ : Nat)) (hq_ : nmp b_ n_ q_) : ∀ nn_ : Nat, (∀ (s_ : Int) (S_ : sm_S), gi S_ → ai_fr (sx_W vw_118) S0_ S_ → ((0 ≤ s_ ∧ s_ ≤ (M_ : Int)) ∧ (p_fd (fun m_ => nm_q b_ n_ (N_ m_) q_) s_.toNat = -1) ∧ (S_ = S0_) ∧ True) → (((M_ : Int) - s_).toNat) < nn_ → sm_T (mt_P sc_) 1 118 (2, [some (.inr (.inr (some (7, 0)))), some (.inl y_), some (.inl s_)], [], S_) (fun r_ => ∃ u_ S1_, r_ = (.inl u_, S1_, 0) ∧ vq_118 y_ b_ n_ N_ M_ q_ S0_ u_ S1_)) := by
  intro nn_
  induction nn_ with
  | zero => exact fun _ _ _ _ _ h_ => absurd h_ (Nat.not_lt_zero _)
  | succ nn_ ih_ =>
    rintro s_ S_ hI_ hF_ ⟨h0_, h1_, hS_, -⟩ hm_
    have hb1_ : S_.2.2.1 98 0 = b_ := by rw [hS_]; exact hb_
    obtain ⟨r1_, r2_⟩ := hr_
    have hK_ : S_.1 7 0 3 = (M_ : Int) := by rw [hS_]; exact hmd_
    have bx1_ : 0 ≤ S_.1 7 0 3 ∧ S_.1 7 0 3 ≤ 16 := hI_.1 7 0 3 rfl
    refine sm_T_go 3 (c1 := (7, [some (.inr (.inr (some (7, 0)))), some (.inl y_), some (.inl s_)], [.inl (S_.1 7 0 3), .inl s_], S_)) rfl ?_
    refine sm_T_br (a := 3) (z := 28) rfl (fun cx2_ => ?_) (fun cx2_ => ?_)
    · have cx2_ : (S_.1 7 0 3) ≤ s_ := of_decide_eq_true cx2_
      refine sm_T_go 1 (c1 := (36, [some (.inr (.inr (some (7, 0)))), some (.inl y_), some (.inl s_)], [.inl (-1)], S_)) rfl ?_
      refine sm_T_ri rfl ⟨_, _, rfl, (by first | rfl | exact hS_.symm), _, rfl, ?_⟩
      unfold p_fm
      rw [show M_ = s_.toNat by omega]
      exact h1_.symm
    · have cx2_ : ¬ ((S_.1 7 0 3) ≤ s_) := of_decide_eq_false cx2_
      refine sm_T_go 5 (c1 := (19, [some (.inr (.inr (some (7, 0)))), some (.inl y_), some (.inl s_)], [.inl s_, .inr (.inr (some (75, 0))), .inr (.inr (some (10, 0)))], S_)) rfl ?_
      refine sm_T_iald (n := 16) rfl rfl (by omega) (by omega) ?_
      have bx3_ : 0 ≤ S_.2.2.1 75 0 s_.toNat ∧ S_.2.2.1 75 0 s_.toNat ≤ 65535 := hI_.2 75 0 _
      refine sm_T_go 1 (c1 := (21, [some (.inr (.inr (some (7, 0)))), some (.inl y_), some (.inl s_)], [.inl y_, .inl (S_.2.2.1 75 0 s_.toNat), .inr (.inr (some (10, 0)))], S_)) rfl ?_
      refine sm_T_cal (d1 := 0) (Q1 := vq_190 (S_.2.2.1 75 0 s_.toNat) y_ b_ n_ (N_ s_.toNat) q_ S_) rfl rfl (by decide) (vc_190 (S_.2.2.1 75 0 s_.toNat) y_ b_ n_ (N_ s_.toNat) q_ S_ hI_ (by exact hb1_) (by exact hn1_) (by rw [hS_]; exact (r2_ s_.toNat (by omega)).1) (by exact hy_) (by exact (r2_ s_.toNat (by omega)).2) (by exact hq_)) (fun u_ Sx4_ px7_ => ?_)
      obtain ⟨rfl, vx9_, rfl, px7_⟩ := px7_
      have e28_ := px7_
      refine sm_T_b0 (a := 0) (z := 5) rfl (fun cx10_ => ?_) (fun cx10_ => ?_)
      · have cx10_ : vx9_ = 0 := of_decide_eq_true cx10_
        refine sm_T_inc (a := 2) (z := 1) (v := s_) (w := s_ + 1) rfl rfl (by omega) (by omega) (by omega) ?_
        refine sm_T_go 1 (c1 := (2, [some (.inr (.inr (some (7, 0)))), some (.inl y_), some (.inl (s_ + 1))], [], S_)) rfl ?_
        refine ih_ (s_ + 1) S_ hI_ hF_ ⟨?_, ?_, ?_, trivial⟩ ?_
        · omega
        · rw [show (s_ + 1).toNat = s_.toNat + 1 by omega]
          refine p_fd_nx h1_ ?_
          by_cases g_ : nm_q b_ n_ (N_ s_.toNat) q_ = true
          · rw [if_pos g_] at e28_
            omega
          · exact Bool.eq_false_iff.mpr g_
        · first | rfl | exact hS_
        · omega
      · have cx10_ : ¬ (vx9_ = 0) := of_decide_eq_false cx10_
        refine sm_T_go 1 (c1 := (28, [some (.inr (.inr (some (7, 0)))), some (.inl y_), some (.inl s_)], [.inl s_], S_)) rfl ?_
        refine sm_T_ri rfl ⟨_, _, rfl, (by first | rfl | exact hS_.symm), _, rfl, ?_⟩
        unfold p_fm
        rw [p_fd_go h1_ ?_ (show s_.toNat < M_ by omega)]
        · omega
        · by_cases g_ : nm_q b_ n_ (N_ s_.toNat) q_ = true
          · exact g_
          · rw [if_neg g_] at e28_
            omega
set_option maxHeartbeats 400000 in
theorem vc_118 {sc_ : Nat × (Nat → Int)} (y_ : Int) (b_ : Nat → Int) (n_ : Nat) (N_ : Nat → Nat) (M_ : Nat) (q_ : Nat) (S0_ : sm_S) (hI_ : gi S0_) (hb_ : S0_.2.2.1 98 0 = b_) (hn1_ : n_ ≤ 1280) (hmd_ : (S0_.1 7 0 3) = (M_ : Int)) (hr_ : nr b_ n_ N_ M_ S0_) (hy_ : y_ = (16 * q_ + lx_sz b_ n_ q_ : Nat)) (hq_ : nmp b_ n_ q_) : sm_T (mt_P sc_) 1 118 (0, [some (.inr (.inr (some (7, 0)))), some (.inl y_), none], [], S0_) (fun r_ => ∃ u_ S1_, r_ = (.inl u_, S1_, 0) ∧ vq_118 y_ b_ n_ N_ M_ q_ S0_ u_ S1_) := by
  have hF_ : ai_fr (sx_W vw_118) S0_ S0_ := ai_fr_rf
  refine sm_T_go 2 (c1 := (2, [some (.inr (.inr (some (7, 0)))), some (.inl y_), some (.inl 0)], [], S0_)) rfl ?_
  refine (vl_118 y_ b_ n_ N_ M_ q_ S0_ hb_ hn1_ hmd_ hr_ hy_ hq_ _) 0 S0_ hI_ hF_ ⟨?_, ?_, ?_, trivial⟩ (Nat.lt_succ_self _)
  · omega
  · rfl
  · first | rfl | exact hS_
