/-! M_.nameOf -/
def vw_302 : sx_Wl := ([], [], [])
def vq_302 (m_ : Int) (t_ : Int) (b_ : Nat → Int) (n_ : Nat) (T_ : Nat) (A_ : pA) (mm_ : Nat) (q_ : Nat) (S0_ : sm_S) (u_ : Option sm_V) (S1_ : sm_S) : Prop := S0_ = S1_ ∧ ∃ v_ : Int, u_ = some (.inl v_) ∧ (v_ = p_fn b_ n_ A_ mm_ q_)
set_option maxHeartbeats 400000 in
theorem vl_302 {sc_ : Nat × (Nat → Int)} (m_ : Int) (t_ : Int) (b_ : Nat → Int) (n_ : Nat) (T_ : Nat) (A_ : pA) (mm_ : Nat) (q_ : Nat) (S0_ : sm_S) (ht_ : rtab b_ n_ T_ S0_) (hmm_ : m_ = (mm_ : Int) ∧ mm_ ≤ 15) (hr_ : re1 b_ n_ T_ A_ mm_ S0_) (hA_ : A_.1 mm_ ≤ 40) (hq_ : rtk b_ n_ T_ t_ q_) : ∀ nn_ : Nat, (∀ (s_ : Int) (S_ : sm_S), gi S_ → ai_fr (sx_W vw_302) S0_ S_ → ((0 ≤ s_ ∧ s_ ≤ (A_.1 mm_ : Int)) ∧ (p_fd (fun s_ => nm_q b_ n_ (A_.2.1 (40 * mm_ + s_)) q_) s_.toNat = -1) ∧ (S_ = S0_) ∧ True) → (((A_.1 mm_ : Int) - s_).toNat) < nn_ → sm_T (mt_P sc_) 1 302 (2, [some (.inr (.inr (some (13, 0)))), some (.inl m_), some (.inl t_), some (.inl s_)], [], S_) (fun r_ => ∃ u_ S1_, r_ = (.inl u_, S1_, 0) ∧ vq_302 m_ t_ b_ n_ T_ A_ mm_ q_ S0_ u_ S1_)) := by
  intro nn_
  induction nn_ with
  | zero => exact fun _ _ _ _ _ h_ => absurd h_ (Nat.not_lt_zero _)
  | succ nn_ ih_ =>
    rintro s_ S_ hI_ hF_ ⟨h0_, h1_, hS_, -⟩ hm_
    have ht1_ : rtab b_ n_ T_ S_ := by rw [hS_]; exact ht_
    obtain ⟨r1_, r2_⟩ := hr_
    have hK_ : S_.2.2.1 126 0 m_.toNat = (A_.1 mm_ : Int) := by rw [hS_, show m_.toNat = mm_ by omega]; exact r1_
    refine sm_T_go 4 (c1 := (8, [some (.inr (.inr (some (13, 0)))), some (.inl m_), some (.inl t_), some (.inl s_)], [.inl m_, .inr (.inr (some (126, 0))), .inl s_], S_)) rfl ?_
    refine sm_T_iald (n := 16) rfl rfl (by omega) (by omega) ?_
    have bx1_ : 0 ≤ S_.2.2.1 126 0 m_.toNat ∧ S_.2.2.1 126 0 m_.toNat ≤ 40 := hI_.2 126 0 _
    refine sm_T_br (a := 3) (z := 30) rfl (fun cx2_ => ?_) (fun cx2_ => ?_)
    · have cx2_ : (S_.2.2.1 126 0 m_.toNat) ≤ s_ := of_decide_eq_true cx2_
      refine sm_T_go 1 (c1 := (40, [some (.inr (.inr (some (13, 0)))), some (.inl m_), some (.inl t_), some (.inl s_)], [.inl (-1)], S_)) rfl ?_
      refine sm_T_ri rfl ⟨_, _, rfl, (by first | rfl | exact hS_.symm), _, rfl, ?_⟩
      unfold p_fn
      rw [show A_.1 mm_ = s_.toNat by omega]
      exact h1_.symm
    · have cx2_ : ¬ ((S_.2.2.1 126 0 m_.toNat) ≤ s_) := of_decide_eq_false cx2_
      refine sm_T_go 5 (c1 := (20, [some (.inr (.inr (some (13, 0)))), some (.inl m_), some (.inl t_), some (.inl s_)], [.inl m_, .inl 40, .inr (.inr (some (127, 0))), .inr (.inr (some (13, 0)))], S_)) rfl ?_
      refine sm_T_bin (w := 40 * m_) rfl (bi_mul (by omega) (by omega) (by omega)) ?_
      refine sm_T_go 1 (c1 := (22, [some (.inr (.inr (some (13, 0)))), some (.inl m_), some (.inl t_), some (.inl s_)], [.inl s_, .inl (40 * m_), .inr (.inr (some (127, 0))), .inr (.inr (some (13, 0)))], S_)) rfl ?_
      refine sm_T_bin (w := 40 * m_ + s_) rfl (bi_add (by omega) (by omega) (by omega)) ?_
      refine sm_T_iald (n := 640) rfl rfl (by omega) (by omega) ?_
      have bx3_ : 0 ≤ S_.2.2.1 127 0 (40 * m_ + s_).toNat ∧ S_.2.2.1 127 0 (40 * m_ + s_).toNat ≤ 1280 := hI_.2 127 0 _
      refine sm_T_go 1 (c1 := (25, [some (.inr (.inr (some (13, 0)))), some (.inl m_), some (.inl t_), some (.inl s_)], [.inl t_, .inl (S_.2.2.1 127 0 (40 * m_ + s_).toNat), .inr (.inr (some (13, 0)))], S_)) rfl ?_
      refine sm_T_cal (d1 := 0) (Q1 := vq_301 (S_.2.2.1 127 0 (40 * m_ + s_).toNat) t_ b_ n_ T_ (A_.2.1 (40 * mm_ + s_.toNat)) q_ S_) rfl rfl (by decide) (vc_301 (S_.2.2.1 127 0 (40 * m_ + s_).toNat) t_ b_ n_ T_ (A_.2.1 (40 * mm_ + s_.toNat)) q_ S_ hI_ (by exact ht1_) (by (rw [hS_, show (40 * m_ + s_).toNat = 40 * mm_ + s_.toNat by omega]; exact (r2_ s_.toNat (by omega)).1)) (by exact hq_)) (fun u_ Sx4_ px7_ => ?_)
      obtain ⟨rfl, vx9_, rfl, px7_⟩ := px7_
      have e28_ := px7_
      refine sm_T_b0 (a := 0) (z := 5) rfl (fun cx10_ => ?_) (fun cx10_ => ?_)
      · have cx10_ : vx9_ = 0 := of_decide_eq_true cx10_
        refine sm_T_inc (a := 3) (z := 1) (v := s_) (w := s_ + 1) rfl rfl (by omega) (by omega) (by omega) ?_
        refine sm_T_go 1 (c1 := (2, [some (.inr (.inr (some (13, 0)))), some (.inl m_), some (.inl t_), some (.inl (s_ + 1))], [], S_)) rfl ?_
        refine ih_ (s_ + 1) S_ hI_ hF_ ⟨?_, ?_, ?_, trivial⟩ ?_
        · omega
        · rw [show (s_ + 1).toNat = s_.toNat + 1 by omega]
          refine p_fd_nx h1_ ?_
          by_cases g_ : nm_q b_ n_ (A_.2.1 (40 * mm_ + s_.toNat)) q_ = true
          · rw [if_pos g_] at e28_
            omega
          · exact Bool.eq_false_iff.mpr g_
        · first | rfl | exact hS_
        · omega
      · have cx10_ : ¬ (vx9_ = 0) := of_decide_eq_false cx10_
        refine sm_T_go 1 (c1 := (32, [some (.inr (.inr (some (13, 0)))), some (.inl m_), some (.inl t_), some (.inl s_)], [.inl s_], S_)) rfl ?_
        refine sm_T_ri rfl ⟨_, _, rfl, (by first | rfl | exact hS_.symm), _, rfl, ?_⟩
        unfold p_fn
        rw [p_fd_go h1_ ?_ (show s_.toNat < A_.1 mm_ by omega)]
        · omega
        · by_cases g_ : nm_q b_ n_ (A_.2.1 (40 * mm_ + s_.toNat)) q_ = true
          · exact g_
          · rw [if_neg g_] at e28_
            omega
set_option maxHeartbeats 400000 in
theorem vc_302 {sc_ : Nat × (Nat → Int)} (m_ : Int) (t_ : Int) (b_ : Nat → Int) (n_ : Nat) (T_ : Nat) (A_ : pA) (mm_ : Nat) (q_ : Nat) (S0_ : sm_S) (hI_ : gi S0_) (ht_ : rtab b_ n_ T_ S0_) (hmm_ : m_ = (mm_ : Int) ∧ mm_ ≤ 15) (hr_ : re1 b_ n_ T_ A_ mm_ S0_) (hA_ : A_.1 mm_ ≤ 40) (hq_ : rtk b_ n_ T_ t_ q_) : sm_T (mt_P sc_) 1 302 (0, [some (.inr (.inr (some (13, 0)))), some (.inl m_), some (.inl t_), none], [], S0_) (fun r_ => ∃ u_ S1_, r_ = (.inl u_, S1_, 0) ∧ vq_302 m_ t_ b_ n_ T_ A_ mm_ q_ S0_ u_ S1_) := by
  have hF_ : ai_fr (sx_W vw_302) S0_ S0_ := ai_fr_rf
  refine sm_T_go 2 (c1 := (2, [some (.inr (.inr (some (13, 0)))), some (.inl m_), some (.inl t_), some (.inl 0)], [], S0_)) rfl ?_
  refine (vl_302 m_ t_ b_ n_ T_ A_ mm_ q_ S0_ ht_ hmm_ hr_ hA_ hq_ _) 0 S0_ hI_ hF_ ⟨?_, ?_, ?_, trivial⟩ (Nat.lt_succ_self _)
  · omega
  · rfl
  · first | rfl | exact hS_
