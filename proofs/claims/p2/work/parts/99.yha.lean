/-! the reference: how many of a sort; written by wip/p55/gen/vg -/

/-! how_ many of_ a_ sort -/
def p_cn (g_ : Nat → Bool) : Nat → Nat
  | 0 => 0
  | k_ + 1 => p_cn g_ k_ + if g_ k_ = true then 1 else 0
theorem p_cn_b {g_ : Nat → Bool} : ∀ k_, p_cn g_ k_ ≤ k_
  | 0 => Nat.le_refl _
  | k_ + 1 => by
    have := p_cn_b (g_ := g_) k_
    unfold p_cn
    split <;> omega
/-! M_.manyOf -/
def vw_305 : sx_Wl := ([], [], [])
def vq_305 (m_ : Int) (so_ : Int) (b_ : Nat → Int) (n_ : Nat) (T_ : Nat) (A_ : pA) (mm_ : Nat) (S0_ : sm_S) (u_ : Option sm_V) (S1_ : sm_S) : Prop := S0_ = S1_ ∧ ∃ v_ : Int, u_ = some (.inl v_) ∧ (v_ = (p_cn (fun s_ => decide (r_s2 (A_.2.2.1 (40 * mm_ + s_)) = so_)) (A_.1 mm_) : Nat))
set_option maxHeartbeats 400000 in
theorem vl_305 {sc_ : Nat × (Nat → Int)} (m_ : Int) (so_ : Int) (b_ : Nat → Int) (n_ : Nat) (T_ : Nat) (A_ : pA) (mm_ : Nat) (S0_ : sm_S) (hmm_ : m_ = (mm_ : Int) ∧ mm_ ≤ 15) (hr_ : re1 b_ n_ T_ A_ mm_ S0_) (hA_ : A_.1 mm_ ≤ 40) : ∀ nn_ : Nat, (∀ (c_ : Int) (k_ : Int) (S_ : sm_S), gi S_ → ai_fr (sx_W vw_305) S0_ S_ → ((0 ≤ k_ ∧ k_ ≤ (A_.1 mm_ : Int)) ∧ (c_ = (p_cn (fun s_ => decide (r_s2 (A_.2.2.1 (40 * mm_ + s_)) = so_)) k_.toNat : Nat)) ∧ (S_ = S0_) ∧ True) → (((A_.1 mm_ : Int) - k_).toNat) < nn_ → sm_T (mt_P sc_) 0 305 (5, [some (.inr (.inr (some (13, 0)))), some (.inl m_), some (.inl so_), some (.inl c_), some (.inl k_)], [], S_) (fun r_ => ∃ u_ S1_, r_ = (.inl u_, S1_, 0) ∧ vq_305 m_ so_ b_ n_ T_ A_ mm_ S0_ u_ S1_)) := by
  intro nn_
  induction nn_ with
  | zero => exact fun _ _ _ _ _ _ h_ => absurd h_ (Nat.not_lt_zero _)
  | succ nn_ ih_ =>
    rintro c_ k_ S_ hI_ hF_ ⟨h0_, h1_, hS_, -⟩ hm_
    have hK_ : S_.2.2.1 126 0 m_.toNat = (A_.1 mm_ : Int) := by rw [hS_, show m_.toNat = mm_ by omega]; exact hr_.1
    have cb_ := p_cn_b (g_ := fun s_ => decide (r_s2 (A_.2.2.1 (40 * mm_ + s_)) = so_)) k_.toNat
    have sv_ : k_ < (A_.1 mm_ : Int) → S_.2.2.1 128 0 (40 * m_ + k_).toNat = r_s2 (A_.2.2.1 (40 * mm_ + k_.toNat)) := by intro z_; rw [hS_, show (40 * m_ + k_).toNat = 40 * mm_ + k_.toNat by omega]; exact (hr_.2 k_.toNat (by omega)).2.1
    refine sm_T_go 4 (c1 := (12, [some (.inr (.inr (some (13, 0)))), some (.inl m_), some (.inl so_), some (.inl c_), some (.inl k_)], [.inl m_, .inr (.inr (some (126, 0))), .inl k_], S_)) rfl ?_
    refine sm_T_iald (n := 16) rfl rfl (by omega) (by omega) ?_
    have bx1_ : 0 ≤ S_.2.2.1 126 0 m_.toNat ∧ S_.2.2.1 126 0 m_.toNat ≤ 40 := hI_.2 126 0 _
    refine sm_T_br (a := 3) (z := 33) rfl (fun cx2_ => ?_) (fun cx2_ => ?_)
    · have cx2_ : (S_.2.2.1 126 0 m_.toNat) ≤ k_ := of_decide_eq_true cx2_
      refine sm_T_go 1 (c1 := (47, [some (.inr (.inr (some (13, 0)))), some (.inl m_), some (.inl so_), some (.inl c_), some (.inl k_)], [.inl c_], S_)) rfl ?_
      refine sm_T_ri rfl ⟨_, _, rfl, (by first | rfl | exact hS_.symm), _, rfl, ?_⟩
      rw [show A_.1 mm_ = k_.toNat by omega]
      exact h1_
    · have cx2_ : ¬ ((S_.2.2.1 126 0 m_.toNat) ≤ k_) := of_decide_eq_false cx2_
      refine sm_T_go 5 (c1 := (24, [some (.inr (.inr (some (13, 0)))), some (.inl m_), some (.inl so_), some (.inl c_), some (.inl k_)], [.inl m_, .inl 40, .inr (.inr (some (128, 0))), .inl c_], S_)) rfl ?_
      refine sm_T_bin (w := 40 * m_) rfl (bi_mul (by omega) (by omega) (by omega)) ?_
      refine sm_T_go 1 (c1 := (27, [some (.inr (.inr (some (13, 0)))), some (.inl m_), some (.inl so_), some (.inl c_), some (.inl k_)], [.inl k_, .inl (40 * m_), .inr (.inr (some (128, 0))), .inl c_], S_)) rfl ?_
      refine sm_T_bin (w := 40 * m_ + k_) rfl (bi_add (by omega) (by omega) (by omega)) ?_
      refine sm_T_iald (n := 640) rfl rfl (by omega) (by omega) ?_
      have bx3_ : 0 ≤ S_.2.2.1 128 0 (40 * m_ + k_).toNat ∧ S_.2.2.1 128 0 (40 * m_ + k_).toNat ≤ 5 := hI_.2 128 0 _
      refine sm_T_go 1 (c1 := (30, [some (.inr (.inr (some (13, 0)))), some (.inl m_), some (.inl so_), some (.inl c_), some (.inl k_)], [.inl so_, .inl (S_.2.2.1 128 0 (40 * m_ + k_).toNat), .inl c_], S_)) rfl ?_
      refine sm_T_br (a := 1) (z := 7) rfl (fun cx4_ => ?_) (fun cx4_ => ?_)
      · have cx4_ : (S_.2.2.1 128 0 (40 * m_ + k_).toNat) ≠ so_ := of_decide_eq_true cx4_
        refine sm_T_go 1 (c1 := (38, [some (.inr (.inr (some (13, 0)))), some (.inl m_), some (.inl so_), some (.inl c_), some (.inl k_)], [.inl 0, .inl c_], S_)) rfl ?_
        refine sm_T_bin (w := c_) rfl (bi_add (by omega) (by omega) (by omega)) ?_
        refine sm_T_go 1 (c1 := (40, [some (.inr (.inr (some (13, 0)))), some (.inl m_), some (.inl so_), some (.inl c_), some (.inl k_)], [], S_)) rfl ?_
        refine sm_T_inc (a := 4) (z := 1) (v := k_) (w := k_ + 1) rfl rfl (by omega) (by omega) (by omega) ?_
        refine sm_T_go 1 (c1 := (5, [some (.inr (.inr (some (13, 0)))), some (.inl m_), some (.inl so_), some (.inl c_), some (.inl (k_ + 1))], [], S_)) rfl ?_
        refine ih_ c_ (k_ + 1) S_ hI_ hF_ ⟨?_, ?_, ?_, trivial⟩ ?_
        · omega
        · have s9_ := sv_ (by omega)
          rw [show (k_ + 1).toNat = k_.toNat + 1 by omega, p_cn]
          first | (rw [if_pos (decide_eq_true (by omega))]; push_cast; omega) | (rw [if_neg (by rw [decide_eq_false (by omega)]; decide)]; push_cast; omega)
        · first | rfl | exact hS_
        · omega
      · have cx4_ : ¬ ((S_.2.2.1 128 0 (40 * m_ + k_).toNat) ≠ so_) := of_decide_eq_false cx4_
        refine sm_T_go 2 (c1 := (38, [some (.inr (.inr (some (13, 0)))), some (.inl m_), some (.inl so_), some (.inl c_), some (.inl k_)], [.inl 1, .inl c_], S_)) rfl ?_
        refine sm_T_bin (w := c_ + 1) rfl (bi_add (by omega) (by omega) (by omega)) ?_
        refine sm_T_go 1 (c1 := (40, [some (.inr (.inr (some (13, 0)))), some (.inl m_), some (.inl so_), some (.inl (c_ + 1)), some (.inl k_)], [], S_)) rfl ?_
        refine sm_T_inc (a := 4) (z := 1) (v := k_) (w := k_ + 1) rfl rfl (by omega) (by omega) (by omega) ?_
        refine sm_T_go 1 (c1 := (5, [some (.inr (.inr (some (13, 0)))), some (.inl m_), some (.inl so_), some (.inl (c_ + 1)), some (.inl (k_ + 1))], [], S_)) rfl ?_
        refine ih_ (c_ + 1) (k_ + 1) S_ hI_ hF_ ⟨?_, ?_, ?_, trivial⟩ ?_
        · omega
        · have s9_ := sv_ (by omega)
          rw [show (k_ + 1).toNat = k_.toNat + 1 by omega, p_cn]
          first | (rw [if_pos (decide_eq_true (by omega))]; push_cast; omega) | (rw [if_neg (by rw [decide_eq_false (by omega)]; decide)]; push_cast; omega)
        · first | rfl | exact hS_
        · omega
set_option maxHeartbeats 400000 in
theorem vc_305 {sc_ : Nat × (Nat → Int)} (m_ : Int) (so_ : Int) (b_ : Nat → Int) (n_ : Nat) (T_ : Nat) (A_ : pA) (mm_ : Nat) (S0_ : sm_S) (hI_ : gi S0_) (hmm_ : m_ = (mm_ : Int) ∧ mm_ ≤ 15) (hr_ : re1 b_ n_ T_ A_ mm_ S0_) (hA_ : A_.1 mm_ ≤ 40) : sm_T (mt_P sc_) 0 305 (0, [some (.inr (.inr (some (13, 0)))), some (.inl m_), some (.inl so_), none, none], [], S0_) (fun r_ => ∃ u_ S1_, r_ = (.inl u_, S1_, 0) ∧ vq_305 m_ so_ b_ n_ T_ A_ mm_ S0_ u_ S1_) := by
  have hF_ : ai_fr (sx_W vw_305) S0_ S0_ := ai_fr_rf
  refine sm_T_go 4 (c1 := (5, [some (.inr (.inr (some (13, 0)))), some (.inl m_), some (.inl so_), some (.inl 0), some (.inl 0)], [], S0_)) rfl ?_
  refine (vl_305 m_ so_ b_ n_ T_ A_ mm_ S0_ hmm_ hr_ hA_ _) 0 0 S0_ hI_ hF_ ⟨?_, ?_, ?_, trivial⟩ (Nat.lt_succ_self _)
  · omega
  · rfl
  · first | rfl | exact hS_
