/-! M_.nthOf -/
def vw_304 : sx_Wl := ([], [], [])
def vq_304 (m_ : Int) (so_ : Int) (k_ : Int) (b_ : Nat → Int) (n_ : Nat) (T_ : Nat) (A_ : pA) (mm_ : Nat) (S0_ : sm_S) (u_ : Option sm_V) (S1_ : sm_S) : Prop := S0_ = S1_ ∧ ∃ v_ : Int, u_ = some (.inl v_) ∧ ((v_ = -1 ∧ (p_cn (fun s_ => decide (r_s2 (A_.2.2.1 (40 * mm_ + s_)) = so_)) (A_.1 mm_) : Int) ≤ k_) ∨ ∃ u_ : Nat, v_ = (u_ : Int) ∧ u_ < A_.1 mm_ ∧ (fun s_ => decide (r_s2 (A_.2.2.1 (40 * mm_ + s_)) = so_)) u_ = true ∧ (p_cn (fun s_ => decide (r_s2 (A_.2.2.1 (40 * mm_ + s_)) = so_)) u_ : Int) = k_)
set_option maxHeartbeats 400000 in
theorem vl_304 {sc_ : Nat × (Nat → Int)} (m_ : Int) (so_ : Int) (k_ : Int) (b_ : Nat → Int) (n_ : Nat) (T_ : Nat) (A_ : pA) (mm_ : Nat) (S0_ : sm_S) (hmm_ : m_ = (mm_ : Int) ∧ mm_ ≤ 15) (hr_ : re1 b_ n_ T_ A_ mm_ S0_) (hA_ : A_.1 mm_ ≤ 40) (hk_ : 0 ≤ k_ ∧ k_ ≤ 2000) : ∀ nn_ : Nat, (∀ (r_ : Int) (i_ : Int) (S_ : sm_S), gi S_ → ai_fr (sx_W vw_304) S0_ S_ → ((0 ≤ i_ ∧ i_ ≤ (A_.1 mm_ : Int)) ∧ (0 ≤ r_ ∧ r_ = k_ - (p_cn (fun s_ => decide (r_s2 (A_.2.2.1 (40 * mm_ + s_)) = so_)) i_.toNat : Int)) ∧ (S_ = S0_) ∧ True) → (((A_.1 mm_ : Int) - i_).toNat) < nn_ → sm_T (mt_P sc_) 0 304 (6, [some (.inr (.inr (some (13, 0)))), some (.inl m_), some (.inl so_), some (.inl k_), some (.inl r_), some (.inl i_)], [], S_) (fun r_ => ∃ u_ S1_, r_ = (.inl u_, S1_, 0) ∧ vq_304 m_ so_ k_ b_ n_ T_ A_ mm_ S0_ u_ S1_)) := by
  intro nn_
  induction nn_ with
  | zero => exact fun _ _ _ _ _ _ h_ => absurd h_ (Nat.not_lt_zero _)
  | succ nn_ ih_ =>
    rintro r_ i_ S_ hI_ hF_ ⟨h0_, h1_, hS_, -⟩ hm_
    have hK_ : S_.2.2.1 126 0 m_.toNat = (A_.1 mm_ : Int) := by rw [hS_, show m_.toNat = mm_ by omega]; exact hr_.1
    have cb_ := p_cn_b (g_ := (fun s_ => decide (r_s2 (A_.2.2.1 (40 * mm_ + s_)) = so_))) i_.toNat
    have sv_ : i_ < (A_.1 mm_ : Int) → S_.2.2.1 128 0 (40 * m_ + i_).toNat = r_s2 (A_.2.2.1 (40 * mm_ + i_.toNat)) := by intro z_; rw [hS_, show (40 * m_ + i_).toNat = 40 * mm_ + i_.toNat by omega]; exact (hr_.2 i_.toNat (by omega)).2.1
    refine sm_T_go 4 (c1 := (13, [some (.inr (.inr (some (13, 0)))), some (.inl m_), some (.inl so_), some (.inl k_), some (.inl r_), some (.inl i_)], [.inl m_, .inr (.inr (some (126, 0))), .inl i_], S_)) rfl ?_
    refine sm_T_iald (n := 16) rfl rfl (by omega) (by omega) ?_
    have bx1_ : 0 ≤ S_.2.2.1 126 0 m_.toNat ∧ S_.2.2.1 126 0 m_.toNat ≤ 40 := hI_.2 126 0 _
    refine sm_T_br (a := 3) (z := 36) rfl (fun cx2_ => ?_) (fun cx2_ => ?_)
    · have cx2_ : (S_.2.2.1 126 0 m_.toNat) ≤ i_ := of_decide_eq_true cx2_
      refine sm_T_go 1 (c1 := (51, [some (.inr (.inr (some (13, 0)))), some (.inl m_), some (.inl so_), some (.inl k_), some (.inl r_), some (.inl i_)], [.inl (-1)], S_)) rfl ?_
      refine sm_T_ri rfl ⟨_, _, rfl, (by first | rfl | exact hS_.symm), _, rfl, ?_⟩
      left
      refine ⟨rfl, ?_⟩
      rw [show A_.1 mm_ = i_.toNat by omega]
      omega
    · have cx2_ : ¬ ((S_.2.2.1 126 0 m_.toNat) ≤ i_) := of_decide_eq_false cx2_
      refine sm_T_go 4 (c1 := (24, [some (.inr (.inr (some (13, 0)))), some (.inl m_), some (.inl so_), some (.inl k_), some (.inl r_), some (.inl i_)], [.inl m_, .inl 40, .inr (.inr (some (128, 0)))], S_)) rfl ?_
      refine sm_T_bin (w := 40 * m_) rfl (bi_mul (by omega) (by omega) (by omega)) ?_
      refine sm_T_go 1 (c1 := (27, [some (.inr (.inr (some (13, 0)))), some (.inl m_), some (.inl so_), some (.inl k_), some (.inl r_), some (.inl i_)], [.inl i_, .inl (40 * m_), .inr (.inr (some (128, 0)))], S_)) rfl ?_
      refine sm_T_bin (w := 40 * m_ + i_) rfl (bi_add (by omega) (by omega) (by omega)) ?_
      refine sm_T_iald (n := 640) rfl rfl (by omega) (by omega) ?_
      have bx3_ : 0 ≤ S_.2.2.1 128 0 (40 * m_ + i_).toNat ∧ S_.2.2.1 128 0 (40 * m_ + i_).toNat ≤ 5 := hI_.2 128 0 _
      refine sm_T_go 1 (c1 := (30, [some (.inr (.inr (some (13, 0)))), some (.inl m_), some (.inl so_), some (.inl k_), some (.inl r_), some (.inl i_)], [.inl so_, .inl (S_.2.2.1 128 0 (40 * m_ + i_).toNat)], S_)) rfl ?_
      refine sm_T_br (a := 1) (z := 14) rfl (fun cx4_ => ?_) (fun cx4_ => ?_)
      · have cx4_ : (S_.2.2.1 128 0 (40 * m_ + i_).toNat) ≠ so_ := of_decide_eq_true cx4_
        refine sm_T_inc (a := 5) (z := 1) (v := i_) (w := i_ + 1) rfl rfl (by omega) (by omega) (by omega) ?_
        refine sm_T_go 1 (c1 := (6, [some (.inr (.inr (some (13, 0)))), some (.inl m_), some (.inl so_), some (.inl k_), some (.inl r_), some (.inl (i_ + 1))], [], S_)) rfl ?_
        refine ih_ r_ (i_ + 1) S_ hI_ hF_ ⟨?_, ?_, ?_, trivial⟩ ?_
        · omega
        · have s9_ := sv_ (by omega)
          rw [show (i_ + 1).toNat = i_.toNat + 1 by omega, p_cn]
          first | (rw [if_pos (decide_eq_true (by omega))]; push_cast; omega) | (rw [if_neg (by rw [decide_eq_false (by omega)]; decide)]; push_cast; omega)
        · first | rfl | exact hS_
        · omega
      · have cx4_ : ¬ ((S_.2.2.1 128 0 (40 * m_ + i_).toNat) ≠ so_) := of_decide_eq_false cx4_
        refine sm_T_go 1 (c1 := (35, [some (.inr (.inr (some (13, 0)))), some (.inl m_), some (.inl so_), some (.inl k_), some (.inl r_), some (.inl i_)], [.inl r_], S_)) rfl ?_
        refine sm_T_b0 (a := 1) (z := 6) rfl (fun cx5_ => ?_) (fun cx5_ => ?_)
        · have cx5_ : r_ ≠ 0 := of_decide_eq_true cx5_
          refine sm_T_inc (a := 4) (z := (-1)) (v := r_) (w := r_ - 1) rfl rfl (by omega) (by omega) (by omega) ?_
          refine sm_T_inc (a := 5) (z := 1) (v := i_) (w := i_ + 1) rfl rfl (by omega) (by omega) (by omega) ?_
          refine sm_T_go 1 (c1 := (6, [some (.inr (.inr (some (13, 0)))), some (.inl m_), some (.inl so_), some (.inl k_), some (.inl (r_ - 1)), some (.inl (i_ + 1))], [], S_)) rfl ?_
          refine ih_ (r_ - 1) (i_ + 1) S_ hI_ hF_ ⟨?_, ?_, ?_, trivial⟩ ?_
          · omega
          · have s9_ := sv_ (by omega)
            rw [show (i_ + 1).toNat = i_.toNat + 1 by omega, p_cn]
            first | (rw [if_pos (decide_eq_true (by omega))]; push_cast; omega) | (rw [if_neg (by rw [decide_eq_false (by omega)]; decide)]; push_cast; omega)
          · first | rfl | exact hS_
          · omega
        · have cx5_ : ¬ (r_ ≠ 0) := of_decide_eq_false cx5_
          refine sm_T_go 1 (c1 := (40, [some (.inr (.inr (some (13, 0)))), some (.inl m_), some (.inl so_), some (.inl k_), some (.inl r_), some (.inl i_)], [.inl i_], S_)) rfl ?_
          refine sm_T_ri rfl ⟨_, _, rfl, (by first | rfl | exact hS_.symm), _, rfl, ?_⟩
          right
          exact ⟨i_.toNat, by omega, by omega, decide_eq_true (by have := sv_ (by omega); omega), by omega⟩
set_option maxHeartbeats 400000 in
theorem vc_304 {sc_ : Nat × (Nat → Int)} (m_ : Int) (so_ : Int) (k_ : Int) (b_ : Nat → Int) (n_ : Nat) (T_ : Nat) (A_ : pA) (mm_ : Nat) (S0_ : sm_S) (hI_ : gi S0_) (hmm_ : m_ = (mm_ : Int) ∧ mm_ ≤ 15) (hr_ : re1 b_ n_ T_ A_ mm_ S0_) (hA_ : A_.1 mm_ ≤ 40) (hk_ : 0 ≤ k_ ∧ k_ ≤ 2000) : sm_T (mt_P sc_) 0 304 (0, [some (.inr (.inr (some (13, 0)))), some (.inl m_), some (.inl so_), some (.inl k_), none, none], [], S0_) (fun r_ => ∃ u_ S1_, r_ = (.inl u_, S1_, 0) ∧ vq_304 m_ so_ k_ b_ n_ T_ A_ mm_ S0_ u_ S1_) := by
  have hF_ : ai_fr (sx_W vw_304) S0_ S0_ := ai_fr_rf
  refine sm_T_go 4 (c1 := (6, [some (.inr (.inr (some (13, 0)))), some (.inl m_), some (.inl so_), some (.inl k_), some (.inl k_), some (.inl 0)], [], S0_)) rfl ?_
  refine (vl_304 m_ so_ k_ b_ n_ T_ A_ mm_ S0_ hmm_ hr_ hA_ hk_ _) k_ 0 S0_ hI_ hF_ ⟨?_, ?_, ?_, trivial⟩ (Nat.lt_succ_self _)
  · omega
  · refine ⟨hk_.1, ?_⟩
    show k_ = k_ - ((0 : Nat) : Int)
    omega
  · first | rfl | exact hS_
