/-! the least bit that is set; written by wip/p55/gen/vg -/

/-! the_ least bit_ that is_ set_ -/
theorem lst9 {P_ : Nat → Bool} : ∀ (n_ m_ : Nat), m_ < n_ → P_ m_ = true → ∃ k_, k_ ≤ m_ ∧ P_ k_ = true ∧ ∀ j_, j_ < k_ → P_ j_ = false
  | 0, m_, h_, _ => absurd h_ (Nat.not_lt_zero _)
  | n_ + 1, m_, h_, p_ => by
    by_cases c_ : ∃ j_, j_ < m_ ∧ P_ j_ = true
    · obtain ⟨j_, hj_, pj_⟩ := c_
      obtain ⟨k_, k1_, k2_, k3_⟩ := lst9 n_ j_ (by omega) pj_
      exact ⟨k_, by omega, k2_, k3_⟩
    · refine ⟨m_, Nat.le_refl m_, p_, fun j_ hj_ => ?_⟩
      cases q_ : P_ j_
      · rfl
      · exact absurd ⟨j_, hj_, q_⟩ c_
theorem nz_n {a_ k_ : Nat} (h_ : Nat.testBit a_ k_ = true) (l_ : ∀ j_, j_ < k_ → Nat.testBit a_ j_ = false) : 1 ≤ a_ ∧ ∀ j_, ((!(Nat.testBit a_ j_)) && Nat.testBit (a_ - 1) j_) = decide (j_ < k_) := by
  have m0_ : a_ % 2 ^ k_ = 0 := Nat.eq_of_testBit_eq (fun i_ => by
    rw [Nat.testBit_mod_two_pow, Nat.zero_testBit]
    by_cases c_ : i_ < k_
    · rw [l_ i_ c_, Bool.and_false]
    · rw [decide_eq_false c_, Bool.false_and])
  have p_ : 0 < 2 ^ k_ := Nat.pow_pos (by decide)
  obtain ⟨q_, hq_⟩ : ∃ q_, a_ = 2 ^ k_ * q_ := ⟨a_ / 2 ^ k_, (Nat.mul_div_cancel' (Nat.dvd_of_mod_eq_zero m0_)).symm⟩
  have t0_ : ∀ j_, Nat.testBit a_ j_ = if j_ < k_ then Nat.testBit 0 j_ else Nat.testBit q_ (j_ - k_) := fun j_ => by
    have z_ := Nat.testBit_two_pow_mul_add q_ p_ j_
    rw [Nat.add_zero, ← hq_] at z_
    exact z_
  have o_ : q_ % 2 = 1 := by
    rw [t0_ k_, if_neg (Nat.lt_irrefl k_), Nat.sub_self, Nat.testBit_zero] at h_
    exact of_decide_eq_true h_
  obtain ⟨r_, rfl⟩ : ∃ r_, q_ = r_ + 1 := ⟨q_ - 1, by omega⟩
  have e_ : a_ = 2 ^ k_ * r_ + 2 ^ k_ := by rw [hq_, Nat.mul_succ]
  have e1_ : a_ - 1 = 2 ^ k_ * r_ + (2 ^ k_ - 1) := by
    rw [e_]
    exact Nat.add_sub_assoc p_ _
  have t1_ : ∀ j_, Nat.testBit (a_ - 1) j_ = if j_ < k_ then Nat.testBit (2 ^ k_ - 1) j_ else Nat.testBit r_ (j_ - k_) := fun j_ => by
    rw [e1_]
    exact Nat.testBit_two_pow_mul_add r_ (Nat.sub_lt p_ (by decide)) j_
  refine ⟨?_, fun j_ => ?_⟩
  · rw [e_]
    exact Nat.le_trans p_ (Nat.le_add_left _ _)
  · rw [t0_ j_, t1_ j_]
    by_cases c_ : j_ < k_
    · rw [if_pos c_, if_pos c_, Nat.zero_testBit, Nat.testBit_two_pow_sub_one, decide_eq_true c_]
      rfl
    · rw [if_neg c_, if_neg c_, decide_eq_false c_]
      cases j_ - k_ with
      | zero =>
        rw [Nat.testBit_zero, Nat.testBit_zero, decide_eq_false (show ¬ r_ % 2 = 1 by omega), Bool.and_false]
      | succ i_ =>
        rw [Nat.testBit_succ, Nat.testBit_succ, show (r_ + 1) / 2 = r_ / 2 by omega]
        cases Nat.testBit (r_ / 2) i_ <;> rfl
/-- a_ bit_ of_ an_ int_ -/
def ibt (a_ : Int) (j_ : Nat) : Bool := (Int32.ofInt a_).toBitVec.getLsbD j_
theorem ibt_l {x_ : Int} {j_ : Nat} (hj_ : j_ < 32) : ibt (l_l2i x_) j_ = lbt x_ j_ := by
  unfold ibt l_l2i lbt
  rw [Int32.ofInt_toInt]
  show ((Int64.ofInt x_).toBitVec.signExtend 32).getLsbD j_ = _
  rw [BitVec.getLsbD_signExtend, decide_eq_true hj_, Bool.true_and, if_pos (by omega)]
theorem ibt_h {x_ : Int} {j_ : Nat} (hj_ : j_ < 32) : ibt (l_l2i (l_s2 x_ 32)) j_ = lbt x_ (32 + j_) := by
  unfold ibt l_l2i l_s2 lbt
  rw [Int32.ofInt_toInt, Int64.ofInt_toInt]
  show (((Int64.ofInt x_).toBitVec >>> 32).signExtend 32).getLsbD j_ = _
  rw [BitVec.getLsbD_signExtend, decide_eq_true hj_, Bool.true_and, if_pos (by omega), BitVec.getLsbD_ushiftRight]
theorem ibt_x {a_ : Int} (h_ : -2147483648 ≤ a_ ∧ a_ ≤ 2147483647) (n_ : a_ ≠ 0) : ∃ k_, k_ < 32 ∧ ibt a_ k_ = true ∧ ∀ j_, j_ < k_ → ibt a_ j_ = false := by
  have e_ : (Int32.ofInt a_).toInt = a_ := Int32.toInt_ofInt_of_le (by omega) (by omega)
  by_cases c_ : ∃ j_, j_ < 32 ∧ ibt a_ j_ = true
  · obtain ⟨j_, hj_, pj_⟩ := c_
    obtain ⟨k_, k1_, k2_, k3_⟩ := lst9 (P_ := ibt a_) 32 j_ hj_ pj_
    exact ⟨k_, by omega, k2_, k3_⟩
  · exfalso
    apply n_
    have z_ : (Int32.ofInt a_).toBitVec = 0 := by
      apply BitVec.eq_of_getLsbD_eq
      intro i_ hi_
      cases q_ : (Int32.ofInt a_).toBitVec.getLsbD i_
      · exact (BitVec.getLsbD_zero).symm
      · exact absurd ⟨i_, hi_, q_⟩ c_
    have z2_ : Int32.ofInt a_ = 0 := Int32.toBitVec_inj.mp z_
    rw [← e_, z2_]
    rfl
theorem nz_b {A_ : BitVec 32} {k_ : Nat} (hk_ : k_ < 32) (h_ : A_.getLsbD k_ = true) (l_ : ∀ j_, j_ < k_ → A_.getLsbD j_ = false) : (~~~A_ &&& (A_ - 1#32)).toNat = 2 ^ k_ - 1 := by
  obtain ⟨n1_, n2_⟩ := nz_n (a_ := A_.toNat) (k_ := k_) h_ l_
  have lt_ := A_.isLt
  have e_ : (A_ - 1#32).toNat = A_.toNat - 1 := by
    rw [BitVec.toNat_sub]
    have o_ : (1#32 : BitVec 32).toNat = 1 := rfl
    rw [o_]
    omega
  have pl_ : 2 ^ k_ ≤ 2 ^ 31 := Nat.pow_le_pow_right (by decide) (by omega)
  have pp_ : 0 < 2 ^ k_ := Nat.pow_pos (by decide)
  refine Nat.eq_of_testBit_eq (fun j_ => ?_)
  rw [Nat.testBit_two_pow_sub_one, ← n2_ j_, ← e_]
  show (~~~A_ &&& (A_ - 1#32)).getLsbD j_ = ((!A_.getLsbD j_) && (A_ - 1#32).getLsbD j_)
  rw [BitVec.getLsbD_and, BitVec.getLsbD_not]
  by_cases c_ : j_ < 32
  · rw [decide_eq_true c_, Bool.true_and]
  · rw [BitVec.getLsbD_of_ge (A_ - 1#32) j_ (by omega), Bool.and_false, Bool.and_false]
theorem nz_i {a_ : Int} {k_ : Nat} (hk_ : k_ < 32) (h_ : ibt a_ k_ = true) (l_ : ∀ j_, j_ < k_ → ibt a_ j_ = false) : i_and (i_xor a_ (-1)) (i_sub a_ 1) = 2 ^ k_ - 1 := by
  have b_ := nz_b hk_ h_ l_
  unfold i_and i_xor i_sub
  rw [Int32.ofInt_toInt, Int32.ofInt_toInt]
  have q_ : Int32.ofInt a_ ^^^ Int32.ofInt (-1) = ~~~(Int32.ofInt a_) := by
    show Int32.ofInt a_ ^^^ -1 = _
    exact Int32.xor_neg_one
  rw [q_]
  show (~~~(Int32.ofInt a_).toBitVec &&& ((Int32.ofInt a_).toBitVec - 1#32)).toInt = _
  have pl_ : 2 ^ k_ ≤ 2 ^ 31 := Nat.pow_le_pow_right (by decide) (by omega)
  have pp_ : 0 < 2 ^ k_ := Nat.pow_pos (by decide)
  rw [BitVec.toInt_eq_toNat_cond, b_, if_pos (by omega)]
  have cs_ : ((2 ^ k_ : Nat) : Int) = (2 : Int) ^ k_ := by push_cast; rfl
  rw [← cs_]
  omega
theorem ntz_m {a_ : Int} (h_ : -2147483648 ≤ a_ ∧ a_ ≤ 2147483647) (n_ : a_ ≠ 0) : ∃ k_ : Nat, k_ < 32 ∧ i_and (i_xor a_ (-1)) (i_sub a_ 1) = 2 ^ k_ - 1 ∧ ibt a_ k_ = true ∧ ∀ j_, j_ < k_ → ibt a_ j_ = false := by
  obtain ⟨k_, k1_, k2_, k3_⟩ := ibt_x h_ n_
  exact ⟨k_, k1_, nz_i k1_ k2_ k3_, k2_, k3_⟩
def nz1 (i_ n_ : Int) : Int := n_ + i_ / 2
def nz2 (i_ n_ : Int) : Int := if 4 < i_ then nz1 (i_ / 4) (n_ + 2) else nz1 i_ n_
def nz4 (i_ n_ : Int) : Int := if 16 < i_ then nz2 (i_ / 16) (n_ + 4) else nz2 i_ n_
def nz8 (i_ n_ : Int) : Int := if 256 < i_ then nz4 (i_ / 256) (n_ + 8) else nz4 i_ n_
def nz16 (i_ : Int) : Int := if 65536 < i_ then nz8 (i_ / 65536) 17 else nz8 i_ 1
theorem nz_k : ∀ k_ : Fin 32, 1 ≤ (k_ : Nat) → nz16 (2 ^ (k_ : Nat) - 1) = ((k_ : Nat) : Int) := by decide +kernel
def nzp (a_ v_ : Int) : Prop := v_ ≤ 31 ∧ ibt a_ v_.toNat = true ∧ ∀ j_ : Nat, j_ < v_.toNat → ibt a_ j_ = false
theorem nz_f {a_ m_ v_ : Int} (h_ : ∃ k_ : Nat, k_ < 32 ∧ m_ = 2 ^ k_ - 1 ∧ ibt a_ k_ = true ∧ ∀ j_, j_ < k_ → ibt a_ j_ = false) (e_ : v_ = nz16 m_) (p_ : 0 < m_) : nzp a_ v_ := by
  obtain ⟨k_, k1_, k2_, k3_, k4_⟩ := h_
  have c_ : 1 ≤ k_ := by
    cases k_ with
    | zero => rw [k2_] at p_; exact absurd p_ (by decide)
    | succ i_ => omega
  have z_ := nz_k ⟨k_, k1_⟩ c_
  have z_ : nz16 (2 ^ k_ - 1) = (k_ : Int) := z_
  rw [e_, k2_, z_]
  exact ⟨by omega, by rw [Int.toNat_natCast]; exact k3_, fun j_ hj_ => k4_ j_ (by rw [Int.toNat_natCast] at hj_; exact hj_)⟩
theorem nz_f0 {a_ m_ v_ : Int} (h_ : ∃ k_ : Nat, k_ < 32 ∧ m_ = 2 ^ k_ - 1 ∧ ibt a_ k_ = true ∧ ∀ j_, j_ < k_ → ibt a_ j_ = false) (e_ : m_ = 0 → v_ = 0) (p_ : m_ ≤ 0) : nzp a_ v_ := by
  obtain ⟨k_, k1_, k2_, k3_, k4_⟩ := h_
  have c_ : k_ = 0 := by
    cases k_ with
    | zero => rfl
    | succ i_ =>
      exfalso
      have q_ := pw_pos i_
      have s_ : (2 : Int) ^ (i_ + 1) = 2 ^ i_ * 2 := by rw [Int.pow_succ]
      omega
  subst c_
  have z_ := e_ k2_
  rw [z_]
  exact ⟨by decide, k3_, k4_⟩
/-- the_ least bit_ of_ a_ long -/
def lzp (y_ v_ : Int) : Prop := v_ ≤ 63 ∧ lbt y_ v_.toNat = true ∧ ∀ j_ : Nat, j_ < v_.toNat → lbt y_ j_ = false
theorem lz_l {y_ v_ : Int} (h0_ : 0 ≤ v_) (h_ : nzp (l_l2i y_) v_) : lzp y_ v_ := by
  obtain ⟨h1_, h2_, h3_⟩ := h_
  exact ⟨by omega, by rw [← ibt_l (by omega)]; exact h2_, fun j_ hj_ => by rw [← ibt_l (by omega)]; exact h3_ j_ hj_⟩
theorem lz_h {y_ v_ : Int} (h0_ : 0 ≤ v_) (z_ : l_l2i y_ = 0) (h_ : nzp (l_l2i (l_s2 y_ 32)) v_) : lzp y_ (32 + v_) := by
  obtain ⟨h1_, h2_, h3_⟩ := h_
  refine ⟨by omega, ?_, fun j_ hj_ => ?_⟩
  · rw [show (32 + v_).toNat = 32 + v_.toNat by omega, ← ibt_h (by omega)]
    exact h2_
  · by_cases c_ : j_ < 32
    · rw [← ibt_l c_, z_]
      unfold ibt
      rw [show Int32.ofInt 0 = 0 from rfl]
      exact BitVec.getLsbD_zero
    · have q_ := h3_ (j_ - 32) (by omega)
      rw [ibt_h (by omega), show 32 + (j_ - 32) = j_ by omega] at q_
      exact q_
/-! java/lang/Integer.numberOfTrailingZeros -/
def vw_10n : sx_Wl := ([], [], [])
def vq_10n (a0_ : Int) (S0_ : sm_S) (u_ : Option sm_V) (S1_ : sm_S) : Prop := S0_ = S1_ ∧ ∃ v_ : Int, u_ = some (.inl v_) ∧ ((0 ≤ v_ ∧ v_ ≤ 32) ∧ (a0_ ≠ 0 → nzp a0_ v_))
set_option maxHeartbeats 400000 in
theorem vc_10n {sc_ : Nat × (Nat → Int)} (a0_ : Int) (S0_ : sm_S) (hI_ : gi S0_) (h0_ : -2147483648 ≤ a0_ ∧ a0_ ≤ 2147483647) : sm_T (mt_P sc_) 0 10 (0, [some (.inl a0_), none], [], S0_) (fun ro9_ => ∃ u_ S1_, ro9_ = (.inl u_, S1_, 0) ∧ vq_10n a0_ S0_ u_ S1_) := by
  have hF_ : ai_fr (sx_W vw_10n) S0_ S0_ := ai_fr_rf
  refine sm_T_go 2 (c1 := (2, [some (.inl a0_), none], [.inl (-1), .inl a0_], S0_)) rfl ?_
  refine sm_T_bin (w := (i_xor a0_ (-1))) rfl rfl ?_ -- pc_ 2
  refine sm_T_go 2 (c1 := (5, [some (.inl a0_), none], [.inl 1, .inl a0_, .inl (i_xor a0_ (-1))], S0_)) rfl ?_
  refine sm_T_bin (w := (i_sub a0_ 1)) rfl rfl ?_ -- pc_ 5
  have bx1_ := i_sub_r a0_ 1
  refine sm_T_bin (w := (i_and (i_xor a0_ (-1)) (i_sub a0_ 1))) rfl rfl ?_ -- pc_ 6
  have bx2_ := i_and_n (i_xor a0_ (-1)) (i_sub a0_ 1)
  refine sm_T_go 2 (c1 := (9, [some (.inl (i_and (i_xor a0_ (-1)) (i_sub a0_ 1))), none], [.inl (i_and (i_xor a0_ (-1)) (i_sub a0_ 1))], S0_)) rfl ?_
  refine sm_T_b0 (a := 4) (z := 8) rfl (fun cx3_ => ?_) (fun cx3_ => ?_)
  · have cx3_ : 0 < (i_and (i_xor a0_ (-1)) (i_sub a0_ 1)) := of_decide_eq_true cx3_
    refine sm_T_go 3 (c1 := (20, [some (.inl (i_and (i_xor a0_ (-1)) (i_sub a0_ 1))), some (.inl 1)], [.inl (i_and (i_xor a0_ (-1)) (i_sub a0_ 1))], S0_)) rfl ?_
    refine sm_T_nt (u := some (.inl 65536)) (S1 := S0_) rfl rfl rfl ?_
    refine sm_T_br (a := 5) (z := 11) rfl (fun cx4_ => ?_) (fun cx4_ => ?_)
    · have cx4_ : (i_and (i_xor a0_ (-1)) (i_sub a0_ 1)) ≤ 65536 := of_decide_eq_true cx4_
      refine sm_T_go 2 (c1 := (38, [some (.inl (i_and (i_xor a0_ (-1)) (i_sub a0_ 1))), some (.inl 1)], [.inl 256, .inl (i_and (i_xor a0_ (-1)) (i_sub a0_ 1))], S0_)) rfl ?_
      refine sm_T_br (a := 5) (z := 11) rfl (fun cx5_ => ?_) (fun cx5_ => ?_)
      · have cx5_ : (i_and (i_xor a0_ (-1)) (i_sub a0_ 1)) ≤ 256 := of_decide_eq_true cx5_
        refine sm_T_go 2 (c1 := (52, [some (.inl (i_and (i_xor a0_ (-1)) (i_sub a0_ 1))), some (.inl 1)], [.inl 16, .inl (i_and (i_xor a0_ (-1)) (i_sub a0_ 1))], S0_)) rfl ?_
        refine sm_T_br (a := 5) (z := 10) rfl (fun cx6_ => ?_) (fun cx6_ => ?_)
        · have cx6_ : (i_and (i_xor a0_ (-1)) (i_sub a0_ 1)) ≤ 16 := of_decide_eq_true cx6_
          refine sm_T_go 2 (c1 := (64, [some (.inl (i_and (i_xor a0_ (-1)) (i_sub a0_ 1))), some (.inl 1)], [.inl 4, .inl (i_and (i_xor a0_ (-1)) (i_sub a0_ 1))], S0_)) rfl ?_
          refine sm_T_br (a := 5) (z := 10) rfl (fun cx7_ => ?_) (fun cx7_ => ?_)
          · have cx7_ : (i_and (i_xor a0_ (-1)) (i_sub a0_ 1)) ≤ 4 := of_decide_eq_true cx7_
            refine sm_T_go 3 (c1 := (77, [some (.inl (i_and (i_xor a0_ (-1)) (i_sub a0_ 1))), some (.inl 1)], [.inl 1, .inl (i_and (i_xor a0_ (-1)) (i_sub a0_ 1)), .inl 1], S0_)) rfl ?_
            refine sm_T_bin (w := (i_ushr (i_and (i_xor a0_ (-1)) (i_sub a0_ 1)) 1)) rfl rfl ?_ -- pc_ 77
            have bx8_ := i_ushw (x_ := (i_and (i_xor a0_ (-1)) (i_sub a0_ 1))) (e_ := 1) (k_ := 1) (m_ := 2) (by decide) (by decide) (by omega) (by decide)
            refine sm_T_bin (w := (i_ushr (i_and (i_xor a0_ (-1)) (i_sub a0_ 1)) 1) + 1) rfl (bi_add (by omega) (by omega) (by omega)) ?_ -- pc_ 78
            refine sm_T_ri rfl ⟨_, _, rfl, rfl, _, rfl, ?_⟩
            refine ⟨by omega, fun q9_ => ?_⟩
            refine nz_f (ntz_m h0_ q9_) ?_ (by omega)
            (unfold nz16; (first | rw [if_pos (by omega)] | rw [if_neg (by omega)]); unfold nz8; (first | rw [if_pos (by omega)] | rw [if_neg (by omega)]); unfold nz4; (first | rw [if_pos (by omega)] | rw [if_neg (by omega)]); unfold nz2; (first | rw [if_pos (by omega)] | rw [if_neg (by omega)]); unfold nz1; omega)
          · have cx7_ : ¬ ((i_and (i_xor a0_ (-1)) (i_sub a0_ 1)) ≤ 4) := of_decide_eq_false cx7_
            refine sm_T_inc (a := 1) (z := 2) (v := 1) (w := 3) rfl rfl (by omega) (by omega) (by omega) ?_ -- pc_ 67
            refine sm_T_go 2 (c1 := (72, [some (.inl (i_and (i_xor a0_ (-1)) (i_sub a0_ 1))), some (.inl 3)], [.inl 2, .inl (i_and (i_xor a0_ (-1)) (i_sub a0_ 1))], S0_)) rfl ?_
            refine sm_T_bin (w := (i_ushr (i_and (i_xor a0_ (-1)) (i_sub a0_ 1)) 2)) rfl rfl ?_ -- pc_ 72
            have bx9_ := i_ushw (x_ := (i_and (i_xor a0_ (-1)) (i_sub a0_ 1))) (e_ := 2) (k_ := 2) (m_ := 4) (by decide) (by decide) (by omega) (by decide)
            refine sm_T_go 4 (c1 := (77, [some (.inl (i_ushr (i_and (i_xor a0_ (-1)) (i_sub a0_ 1)) 2)), some (.inl 3)], [.inl 1, .inl (i_ushr (i_and (i_xor a0_ (-1)) (i_sub a0_ 1)) 2), .inl 3], S0_)) rfl ?_
            refine sm_T_bin (w := (i_ushr (i_ushr (i_and (i_xor a0_ (-1)) (i_sub a0_ 1)) 2) 1)) rfl rfl ?_ -- pc_ 77
            have bx10_ := i_ushw (x_ := (i_ushr (i_and (i_xor a0_ (-1)) (i_sub a0_ 1)) 2)) (e_ := 1) (k_ := 1) (m_ := 2) (by decide) (by decide) (by omega) (by decide)
            refine sm_T_bin (w := (i_ushr (i_ushr (i_and (i_xor a0_ (-1)) (i_sub a0_ 1)) 2) 1) + 3) rfl (bi_add (by omega) (by omega) (by omega)) ?_ -- pc_ 78
            refine sm_T_ri rfl ⟨_, _, rfl, rfl, _, rfl, ?_⟩
            refine ⟨by omega, fun q9_ => ?_⟩
            refine nz_f (ntz_m h0_ q9_) ?_ (by omega)
            (unfold nz16; (first | rw [if_pos (by omega)] | rw [if_neg (by omega)]); unfold nz8; (first | rw [if_pos (by omega)] | rw [if_neg (by omega)]); unfold nz4; (first | rw [if_pos (by omega)] | rw [if_neg (by omega)]); unfold nz2; (first | rw [if_pos (by omega)] | rw [if_neg (by omega)]); unfold nz1; omega)
        · have cx6_ : ¬ ((i_and (i_xor a0_ (-1)) (i_sub a0_ 1)) ≤ 16) := of_decide_eq_false cx6_
          refine sm_T_inc (a := 1) (z := 4) (v := 1) (w := 5) rfl rfl (by omega) (by omega) (by omega) ?_ -- pc_ 55
          refine sm_T_go 2 (c1 := (60, [some (.inl (i_and (i_xor a0_ (-1)) (i_sub a0_ 1))), some (.inl 5)], [.inl 4, .inl (i_and (i_xor a0_ (-1)) (i_sub a0_ 1))], S0_)) rfl ?_
          refine sm_T_bin (w := (i_ushr (i_and (i_xor a0_ (-1)) (i_sub a0_ 1)) 4)) rfl rfl ?_ -- pc_ 60
          have bx11_ := i_ushw (x_ := (i_and (i_xor a0_ (-1)) (i_sub a0_ 1))) (e_ := 4) (k_ := 4) (m_ := 16) (by decide) (by decide) (by omega) (by decide)
          refine sm_T_go 3 (c1 := (64, [some (.inl (i_ushr (i_and (i_xor a0_ (-1)) (i_sub a0_ 1)) 4)), some (.inl 5)], [.inl 4, .inl (i_ushr (i_and (i_xor a0_ (-1)) (i_sub a0_ 1)) 4)], S0_)) rfl ?_
          refine sm_T_br (a := 5) (z := 10) rfl (fun cx12_ => ?_) (fun cx12_ => ?_)
          · have cx12_ : (i_ushr (i_and (i_xor a0_ (-1)) (i_sub a0_ 1)) 4) ≤ 4 := of_decide_eq_true cx12_
            refine sm_T_go 3 (c1 := (77, [some (.inl (i_ushr (i_and (i_xor a0_ (-1)) (i_sub a0_ 1)) 4)), some (.inl 5)], [.inl 1, .inl (i_ushr (i_and (i_xor a0_ (-1)) (i_sub a0_ 1)) 4), .inl 5], S0_)) rfl ?_
            refine sm_T_bin (w := (i_ushr (i_ushr (i_and (i_xor a0_ (-1)) (i_sub a0_ 1)) 4) 1)) rfl rfl ?_ -- pc_ 77
            have bx13_ := i_ushw (x_ := (i_ushr (i_and (i_xor a0_ (-1)) (i_sub a0_ 1)) 4)) (e_ := 1) (k_ := 1) (m_ := 2) (by decide) (by decide) (by omega) (by decide)
            refine sm_T_bin (w := (i_ushr (i_ushr (i_and (i_xor a0_ (-1)) (i_sub a0_ 1)) 4) 1) + 5) rfl (bi_add (by omega) (by omega) (by omega)) ?_ -- pc_ 78
            refine sm_T_ri rfl ⟨_, _, rfl, rfl, _, rfl, ?_⟩
            refine ⟨by omega, fun q9_ => ?_⟩
            refine nz_f (ntz_m h0_ q9_) ?_ (by omega)
            (unfold nz16; (first | rw [if_pos (by omega)] | rw [if_neg (by omega)]); unfold nz8; (first | rw [if_pos (by omega)] | rw [if_neg (by omega)]); unfold nz4; (first | rw [if_pos (by omega)] | rw [if_neg (by omega)]); unfold nz2; (first | rw [if_pos (by omega)] | rw [if_neg (by omega)]); unfold nz1; omega)
          · have cx12_ : ¬ ((i_ushr (i_and (i_xor a0_ (-1)) (i_sub a0_ 1)) 4) ≤ 4) := of_decide_eq_false cx12_
            refine sm_T_inc (a := 1) (z := 2) (v := 5) (w := 7) rfl rfl (by omega) (by omega) (by omega) ?_ -- pc_ 67
            refine sm_T_go 2 (c1 := (72, [some (.inl (i_ushr (i_and (i_xor a0_ (-1)) (i_sub a0_ 1)) 4)), some (.inl 7)], [.inl 2, .inl (i_ushr (i_and (i_xor a0_ (-1)) (i_sub a0_ 1)) 4)], S0_)) rfl ?_
            refine sm_T_bin (w := (i_ushr (i_ushr (i_and (i_xor a0_ (-1)) (i_sub a0_ 1)) 4) 2)) rfl rfl ?_ -- pc_ 72
            have bx14_ := i_ushw (x_ := (i_ushr (i_and (i_xor a0_ (-1)) (i_sub a0_ 1)) 4)) (e_ := 2) (k_ := 2) (m_ := 4) (by decide) (by decide) (by omega) (by decide)
            refine sm_T_go 4 (c1 := (77, [some (.inl (i_ushr (i_ushr (i_and (i_xor a0_ (-1)) (i_sub a0_ 1)) 4) 2)), some (.inl 7)], [.inl 1, .inl (i_ushr (i_ushr (i_and (i_xor a0_ (-1)) (i_sub a0_ 1)) 4) 2), .inl 7], S0_)) rfl ?_
            refine sm_T_bin (w := (i_ushr (i_ushr (i_ushr (i_and (i_xor a0_ (-1)) (i_sub a0_ 1)) 4) 2) 1)) rfl rfl ?_ -- pc_ 77
            have bx15_ := i_ushw (x_ := (i_ushr (i_ushr (i_and (i_xor a0_ (-1)) (i_sub a0_ 1)) 4) 2)) (e_ := 1) (k_ := 1) (m_ := 2) (by decide) (by decide) (by omega) (by decide)
            refine sm_T_bin (w := (i_ushr (i_ushr (i_ushr (i_and (i_xor a0_ (-1)) (i_sub a0_ 1)) 4) 2) 1) + 7) rfl (bi_add (by omega) (by omega) (by omega)) ?_ -- pc_ 78
            refine sm_T_ri rfl ⟨_, _, rfl, rfl, _, rfl, ?_⟩
            refine ⟨by omega, fun q9_ => ?_⟩
            refine nz_f (ntz_m h0_ q9_) ?_ (by omega)
            (unfold nz16; (first | rw [if_pos (by omega)] | rw [if_neg (by omega)]); unfold nz8; (first | rw [if_pos (by omega)] | rw [if_neg (by omega)]); unfold nz4; (first | rw [if_pos (by omega)] | rw [if_neg (by omega)]); unfold nz2; (first | rw [if_pos (by omega)] | rw [if_neg (by omega)]); unfold nz1; omega)
      · have cx5_ : ¬ ((i_and (i_xor a0_ (-1)) (i_sub a0_ 1)) ≤ 256) := of_decide_eq_false cx5_
        refine sm_T_inc (a := 1) (z := 8) (v := 1) (w := 9) rfl rfl (by omega) (by omega) (by omega) ?_ -- pc_ 41
        refine sm_T_go 2 (c1 := (47, [some (.inl (i_and (i_xor a0_ (-1)) (i_sub a0_ 1))), some (.inl 9)], [.inl 8, .inl (i_and (i_xor a0_ (-1)) (i_sub a0_ 1))], S0_)) rfl ?_
        refine sm_T_bin (w := (i_ushr (i_and (i_xor a0_ (-1)) (i_sub a0_ 1)) 8)) rfl rfl ?_ -- pc_ 47
        have bx16_ := i_ushw (x_ := (i_and (i_xor a0_ (-1)) (i_sub a0_ 1))) (e_ := 8) (k_ := 8) (m_ := 256) (by decide) (by decide) (by omega) (by decide)
        refine sm_T_go 3 (c1 := (52, [some (.inl (i_ushr (i_and (i_xor a0_ (-1)) (i_sub a0_ 1)) 8)), some (.inl 9)], [.inl 16, .inl (i_ushr (i_and (i_xor a0_ (-1)) (i_sub a0_ 1)) 8)], S0_)) rfl ?_
        refine sm_T_br (a := 5) (z := 10) rfl (fun cx17_ => ?_) (fun cx17_ => ?_)
        · have cx17_ : (i_ushr (i_and (i_xor a0_ (-1)) (i_sub a0_ 1)) 8) ≤ 16 := of_decide_eq_true cx17_
          refine sm_T_go 2 (c1 := (64, [some (.inl (i_ushr (i_and (i_xor a0_ (-1)) (i_sub a0_ 1)) 8)), some (.inl 9)], [.inl 4, .inl (i_ushr (i_and (i_xor a0_ (-1)) (i_sub a0_ 1)) 8)], S0_)) rfl ?_
          refine sm_T_br (a := 5) (z := 10) rfl (fun cx18_ => ?_) (fun cx18_ => ?_)
          · have cx18_ : (i_ushr (i_and (i_xor a0_ (-1)) (i_sub a0_ 1)) 8) ≤ 4 := of_decide_eq_true cx18_
            refine sm_T_go 3 (c1 := (77, [some (.inl (i_ushr (i_and (i_xor a0_ (-1)) (i_sub a0_ 1)) 8)), some (.inl 9)], [.inl 1, .inl (i_ushr (i_and (i_xor a0_ (-1)) (i_sub a0_ 1)) 8), .inl 9], S0_)) rfl ?_
            refine sm_T_bin (w := (i_ushr (i_ushr (i_and (i_xor a0_ (-1)) (i_sub a0_ 1)) 8) 1)) rfl rfl ?_ -- pc_ 77
            have bx19_ := i_ushw (x_ := (i_ushr (i_and (i_xor a0_ (-1)) (i_sub a0_ 1)) 8)) (e_ := 1) (k_ := 1) (m_ := 2) (by decide) (by decide) (by omega) (by decide)
            refine sm_T_bin (w := (i_ushr (i_ushr (i_and (i_xor a0_ (-1)) (i_sub a0_ 1)) 8) 1) + 9) rfl (bi_add (by omega) (by omega) (by omega)) ?_ -- pc_ 78
            refine sm_T_ri rfl ⟨_, _, rfl, rfl, _, rfl, ?_⟩
            refine ⟨by omega, fun q9_ => ?_⟩
            refine nz_f (ntz_m h0_ q9_) ?_ (by omega)
            (unfold nz16; (first | rw [if_pos (by omega)] | rw [if_neg (by omega)]); unfold nz8; (first | rw [if_pos (by omega)] | rw [if_neg (by omega)]); unfold nz4; (first | rw [if_pos (by omega)] | rw [if_neg (by omega)]); unfold nz2; (first | rw [if_pos (by omega)] | rw [if_neg (by omega)]); unfold nz1; omega)
          · have cx18_ : ¬ ((i_ushr (i_and (i_xor a0_ (-1)) (i_sub a0_ 1)) 8) ≤ 4) := of_decide_eq_false cx18_
            refine sm_T_inc (a := 1) (z := 2) (v := 9) (w := 11) rfl rfl (by omega) (by omega) (by omega) ?_ -- pc_ 67
            refine sm_T_go 2 (c1 := (72, [some (.inl (i_ushr (i_and (i_xor a0_ (-1)) (i_sub a0_ 1)) 8)), some (.inl 11)], [.inl 2, .inl (i_ushr (i_and (i_xor a0_ (-1)) (i_sub a0_ 1)) 8)], S0_)) rfl ?_
            refine sm_T_bin (w := (i_ushr (i_ushr (i_and (i_xor a0_ (-1)) (i_sub a0_ 1)) 8) 2)) rfl rfl ?_ -- pc_ 72
            have bx20_ := i_ushw (x_ := (i_ushr (i_and (i_xor a0_ (-1)) (i_sub a0_ 1)) 8)) (e_ := 2) (k_ := 2) (m_ := 4) (by decide) (by decide) (by omega) (by decide)
            refine sm_T_go 4 (c1 := (77, [some (.inl (i_ushr (i_ushr (i_and (i_xor a0_ (-1)) (i_sub a0_ 1)) 8) 2)), some (.inl 11)], [.inl 1, .inl (i_ushr (i_ushr (i_and (i_xor a0_ (-1)) (i_sub a0_ 1)) 8) 2), .inl 11], S0_)) rfl ?_
            refine sm_T_bin (w := (i_ushr (i_ushr (i_ushr (i_and (i_xor a0_ (-1)) (i_sub a0_ 1)) 8) 2) 1)) rfl rfl ?_ -- pc_ 77
            have bx21_ := i_ushw (x_ := (i_ushr (i_ushr (i_and (i_xor a0_ (-1)) (i_sub a0_ 1)) 8) 2)) (e_ := 1) (k_ := 1) (m_ := 2) (by decide) (by decide) (by omega) (by decide)
            refine sm_T_bin (w := (i_ushr (i_ushr (i_ushr (i_and (i_xor a0_ (-1)) (i_sub a0_ 1)) 8) 2) 1) + 11) rfl (bi_add (by omega) (by omega) (by omega)) ?_ -- pc_ 78
            refine sm_T_ri rfl ⟨_, _, rfl, rfl, _, rfl, ?_⟩
            refine ⟨by omega, fun q9_ => ?_⟩
            refine nz_f (ntz_m h0_ q9_) ?_ (by omega)
            (unfold nz16; (first | rw [if_pos (by omega)] | rw [if_neg (by omega)]); unfold nz8; (first | rw [if_pos (by omega)] | rw [if_neg (by omega)]); unfold nz4; (first | rw [if_pos (by omega)] | rw [if_neg (by omega)]); unfold nz2; (first | rw [if_pos (by omega)] | rw [if_neg (by omega)]); unfold nz1; omega)
        · have cx17_ : ¬ ((i_ushr (i_and (i_xor a0_ (-1)) (i_sub a0_ 1)) 8) ≤ 16) := of_decide_eq_false cx17_
          refine sm_T_inc (a := 1) (z := 4) (v := 9) (w := 13) rfl rfl (by omega) (by omega) (by omega) ?_ -- pc_ 55
          refine sm_T_go 2 (c1 := (60, [some (.inl (i_ushr (i_and (i_xor a0_ (-1)) (i_sub a0_ 1)) 8)), some (.inl 13)], [.inl 4, .inl (i_ushr (i_and (i_xor a0_ (-1)) (i_sub a0_ 1)) 8)], S0_)) rfl ?_
          refine sm_T_bin (w := (i_ushr (i_ushr (i_and (i_xor a0_ (-1)) (i_sub a0_ 1)) 8) 4)) rfl rfl ?_ -- pc_ 60
          have bx22_ := i_ushw (x_ := (i_ushr (i_and (i_xor a0_ (-1)) (i_sub a0_ 1)) 8)) (e_ := 4) (k_ := 4) (m_ := 16) (by decide) (by decide) (by omega) (by decide)
          refine sm_T_go 3 (c1 := (64, [some (.inl (i_ushr (i_ushr (i_and (i_xor a0_ (-1)) (i_sub a0_ 1)) 8) 4)), some (.inl 13)], [.inl 4, .inl (i_ushr (i_ushr (i_and (i_xor a0_ (-1)) (i_sub a0_ 1)) 8) 4)], S0_)) rfl ?_
          refine sm_T_br (a := 5) (z := 10) rfl (fun cx23_ => ?_) (fun cx23_ => ?_)
          · have cx23_ : (i_ushr (i_ushr (i_and (i_xor a0_ (-1)) (i_sub a0_ 1)) 8) 4) ≤ 4 := of_decide_eq_true cx23_
            refine sm_T_go 3 (c1 := (77, [some (.inl (i_ushr (i_ushr (i_and (i_xor a0_ (-1)) (i_sub a0_ 1)) 8) 4)), some (.inl 13)], [.inl 1, .inl (i_ushr (i_ushr (i_and (i_xor a0_ (-1)) (i_sub a0_ 1)) 8) 4), .inl 13], S0_)) rfl ?_
            refine sm_T_bin (w := (i_ushr (i_ushr (i_ushr (i_and (i_xor a0_ (-1)) (i_sub a0_ 1)) 8) 4) 1)) rfl rfl ?_ -- pc_ 77
            have bx24_ := i_ushw (x_ := (i_ushr (i_ushr (i_and (i_xor a0_ (-1)) (i_sub a0_ 1)) 8) 4)) (e_ := 1) (k_ := 1) (m_ := 2) (by decide) (by decide) (by omega) (by decide)
            refine sm_T_bin (w := (i_ushr (i_ushr (i_ushr (i_and (i_xor a0_ (-1)) (i_sub a0_ 1)) 8) 4) 1) + 13) rfl (bi_add (by omega) (by omega) (by omega)) ?_ -- pc_ 78
            refine sm_T_ri rfl ⟨_, _, rfl, rfl, _, rfl, ?_⟩
            refine ⟨by omega, fun q9_ => ?_⟩
            refine nz_f (ntz_m h0_ q9_) ?_ (by omega)
            (unfold nz16; (first | rw [if_pos (by omega)] | rw [if_neg (by omega)]); unfold nz8; (first | rw [if_pos (by omega)] | rw [if_neg (by omega)]); unfold nz4; (first | rw [if_pos (by omega)] | rw [if_neg (by omega)]); unfold nz2; (first | rw [if_pos (by omega)] | rw [if_neg (by omega)]); unfold nz1; omega)
          · have cx23_ : ¬ ((i_ushr (i_ushr (i_and (i_xor a0_ (-1)) (i_sub a0_ 1)) 8) 4) ≤ 4) := of_decide_eq_false cx23_
            refine sm_T_inc (a := 1) (z := 2) (v := 13) (w := 15) rfl rfl (by omega) (by omega) (by omega) ?_ -- pc_ 67
            refine sm_T_go 2 (c1 := (72, [some (.inl (i_ushr (i_ushr (i_and (i_xor a0_ (-1)) (i_sub a0_ 1)) 8) 4)), some (.inl 15)], [.inl 2, .inl (i_ushr (i_ushr (i_and (i_xor a0_ (-1)) (i_sub a0_ 1)) 8) 4)], S0_)) rfl ?_
            refine sm_T_bin (w := (i_ushr (i_ushr (i_ushr (i_and (i_xor a0_ (-1)) (i_sub a0_ 1)) 8) 4) 2)) rfl rfl ?_ -- pc_ 72
            have bx25_ := i_ushw (x_ := (i_ushr (i_ushr (i_and (i_xor a0_ (-1)) (i_sub a0_ 1)) 8) 4)) (e_ := 2) (k_ := 2) (m_ := 4) (by decide) (by decide) (by omega) (by decide)
            refine sm_T_go 4 (c1 := (77, [some (.inl (i_ushr (i_ushr (i_ushr (i_and (i_xor a0_ (-1)) (i_sub a0_ 1)) 8) 4) 2)), some (.inl 15)], [.inl 1, .inl (i_ushr (i_ushr (i_ushr (i_and (i_xor a0_ (-1)) (i_sub a0_ 1)) 8) 4) 2), .inl 15], S0_)) rfl ?_
            refine sm_T_bin (w := (i_ushr (i_ushr (i_ushr (i_ushr (i_and (i_xor a0_ (-1)) (i_sub a0_ 1)) 8) 4) 2) 1)) rfl rfl ?_ -- pc_ 77
            have bx26_ := i_ushw (x_ := (i_ushr (i_ushr (i_ushr (i_and (i_xor a0_ (-1)) (i_sub a0_ 1)) 8) 4) 2)) (e_ := 1) (k_ := 1) (m_ := 2) (by decide) (by decide) (by omega) (by decide)
            refine sm_T_bin (w := (i_ushr (i_ushr (i_ushr (i_ushr (i_and (i_xor a0_ (-1)) (i_sub a0_ 1)) 8) 4) 2) 1) + 15) rfl (bi_add (by omega) (by omega) (by omega)) ?_ -- pc_ 78
            refine sm_T_ri rfl ⟨_, _, rfl, rfl, _, rfl, ?_⟩
            refine ⟨by omega, fun q9_ => ?_⟩
            refine nz_f (ntz_m h0_ q9_) ?_ (by omega)
            (unfold nz16; (first | rw [if_pos (by omega)] | rw [if_neg (by omega)]); unfold nz8; (first | rw [if_pos (by omega)] | rw [if_neg (by omega)]); unfold nz4; (first | rw [if_pos (by omega)] | rw [if_neg (by omega)]); unfold nz2; (first | rw [if_pos (by omega)] | rw [if_neg (by omega)]); unfold nz1; omega)
    · have cx4_ : ¬ ((i_and (i_xor a0_ (-1)) (i_sub a0_ 1)) ≤ 65536) := of_decide_eq_false cx4_
      refine sm_T_inc (a := 1) (z := 16) (v := 1) (w := 17) rfl rfl (by omega) (by omega) (by omega) ?_ -- pc_ 26
      refine sm_T_go 2 (c1 := (32, [some (.inl (i_and (i_xor a0_ (-1)) (i_sub a0_ 1))), some (.inl 17)], [.inl 16, .inl (i_and (i_xor a0_ (-1)) (i_sub a0_ 1))], S0_)) rfl ?_
      refine sm_T_bin (w := (i_ushr (i_and (i_xor a0_ (-1)) (i_sub a0_ 1)) 16)) rfl rfl ?_ -- pc_ 32
      have bx27_ := i_ushw (x_ := (i_and (i_xor a0_ (-1)) (i_sub a0_ 1))) (e_ := 16) (k_ := 16) (m_ := 65536) (by decide) (by decide) (by omega) (by decide)
      refine sm_T_go 3 (c1 := (38, [some (.inl (i_ushr (i_and (i_xor a0_ (-1)) (i_sub a0_ 1)) 16)), some (.inl 17)], [.inl 256, .inl (i_ushr (i_and (i_xor a0_ (-1)) (i_sub a0_ 1)) 16)], S0_)) rfl ?_
      refine sm_T_br (a := 5) (z := 11) rfl (fun cx28_ => ?_) (fun cx28_ => ?_)
      · have cx28_ : (i_ushr (i_and (i_xor a0_ (-1)) (i_sub a0_ 1)) 16) ≤ 256 := of_decide_eq_true cx28_
        refine sm_T_go 2 (c1 := (52, [some (.inl (i_ushr (i_and (i_xor a0_ (-1)) (i_sub a0_ 1)) 16)), some (.inl 17)], [.inl 16, .inl (i_ushr (i_and (i_xor a0_ (-1)) (i_sub a0_ 1)) 16)], S0_)) rfl ?_
        refine sm_T_br (a := 5) (z := 10) rfl (fun cx29_ => ?_) (fun cx29_ => ?_)
        · have cx29_ : (i_ushr (i_and (i_xor a0_ (-1)) (i_sub a0_ 1)) 16) ≤ 16 := of_decide_eq_true cx29_
          refine sm_T_go 2 (c1 := (64, [some (.inl (i_ushr (i_and (i_xor a0_ (-1)) (i_sub a0_ 1)) 16)), some (.inl 17)], [.inl 4, .inl (i_ushr (i_and (i_xor a0_ (-1)) (i_sub a0_ 1)) 16)], S0_)) rfl ?_
          refine sm_T_br (a := 5) (z := 10) rfl (fun cx30_ => ?_) (fun cx30_ => ?_)
          · have cx30_ : (i_ushr (i_and (i_xor a0_ (-1)) (i_sub a0_ 1)) 16) ≤ 4 := of_decide_eq_true cx30_
            refine sm_T_go 3 (c1 := (77, [some (.inl (i_ushr (i_and (i_xor a0_ (-1)) (i_sub a0_ 1)) 16)), some (.inl 17)], [.inl 1, .inl (i_ushr (i_and (i_xor a0_ (-1)) (i_sub a0_ 1)) 16), .inl 17], S0_)) rfl ?_
            refine sm_T_bin (w := (i_ushr (i_ushr (i_and (i_xor a0_ (-1)) (i_sub a0_ 1)) 16) 1)) rfl rfl ?_ -- pc_ 77
            have bx31_ := i_ushw (x_ := (i_ushr (i_and (i_xor a0_ (-1)) (i_sub a0_ 1)) 16)) (e_ := 1) (k_ := 1) (m_ := 2) (by decide) (by decide) (by omega) (by decide)
            refine sm_T_bin (w := (i_ushr (i_ushr (i_and (i_xor a0_ (-1)) (i_sub a0_ 1)) 16) 1) + 17) rfl (bi_add (by omega) (by omega) (by omega)) ?_ -- pc_ 78
            refine sm_T_ri rfl ⟨_, _, rfl, rfl, _, rfl, ?_⟩
            refine ⟨by omega, fun q9_ => ?_⟩
            refine nz_f (ntz_m h0_ q9_) ?_ (by omega)
            (unfold nz16; (first | rw [if_pos (by omega)] | rw [if_neg (by omega)]); unfold nz8; (first | rw [if_pos (by omega)] | rw [if_neg (by omega)]); unfold nz4; (first | rw [if_pos (by omega)] | rw [if_neg (by omega)]); unfold nz2; (first | rw [if_pos (by omega)] | rw [if_neg (by omega)]); unfold nz1; omega)
          · have cx30_ : ¬ ((i_ushr (i_and (i_xor a0_ (-1)) (i_sub a0_ 1)) 16) ≤ 4) := of_decide_eq_false cx30_
            refine sm_T_inc (a := 1) (z := 2) (v := 17) (w := 19) rfl rfl (by omega) (by omega) (by omega) ?_ -- pc_ 67
            refine sm_T_go 2 (c1 := (72, [some (.inl (i_ushr (i_and (i_xor a0_ (-1)) (i_sub a0_ 1)) 16)), some (.inl 19)], [.inl 2, .inl (i_ushr (i_and (i_xor a0_ (-1)) (i_sub a0_ 1)) 16)], S0_)) rfl ?_
            refine sm_T_bin (w := (i_ushr (i_ushr (i_and (i_xor a0_ (-1)) (i_sub a0_ 1)) 16) 2)) rfl rfl ?_ -- pc_ 72
            have bx32_ := i_ushw (x_ := (i_ushr (i_and (i_xor a0_ (-1)) (i_sub a0_ 1)) 16)) (e_ := 2) (k_ := 2) (m_ := 4) (by decide) (by decide) (by omega) (by decide)
            refine sm_T_go 4 (c1 := (77, [some (.inl (i_ushr (i_ushr (i_and (i_xor a0_ (-1)) (i_sub a0_ 1)) 16) 2)), some (.inl 19)], [.inl 1, .inl (i_ushr (i_ushr (i_and (i_xor a0_ (-1)) (i_sub a0_ 1)) 16) 2), .inl 19], S0_)) rfl ?_
            refine sm_T_bin (w := (i_ushr (i_ushr (i_ushr (i_and (i_xor a0_ (-1)) (i_sub a0_ 1)) 16) 2) 1)) rfl rfl ?_ -- pc_ 77
            have bx33_ := i_ushw (x_ := (i_ushr (i_ushr (i_and (i_xor a0_ (-1)) (i_sub a0_ 1)) 16) 2)) (e_ := 1) (k_ := 1) (m_ := 2) (by decide) (by decide) (by omega) (by decide)
            refine sm_T_bin (w := (i_ushr (i_ushr (i_ushr (i_and (i_xor a0_ (-1)) (i_sub a0_ 1)) 16) 2) 1) + 19) rfl (bi_add (by omega) (by omega) (by omega)) ?_ -- pc_ 78
            refine sm_T_ri rfl ⟨_, _, rfl, rfl, _, rfl, ?_⟩
            refine ⟨by omega, fun q9_ => ?_⟩
            refine nz_f (ntz_m h0_ q9_) ?_ (by omega)
            (unfold nz16; (first | rw [if_pos (by omega)] | rw [if_neg (by omega)]); unfold nz8; (first | rw [if_pos (by omega)] | rw [if_neg (by omega)]); unfold nz4; (first | rw [if_pos (by omega)] | rw [if_neg (by omega)]); unfold nz2; (first | rw [if_pos (by omega)] | rw [if_neg (by omega)]); unfold nz1; omega)
        · have cx29_ : ¬ ((i_ushr (i_and (i_xor a0_ (-1)) (i_sub a0_ 1)) 16) ≤ 16) := of_decide_eq_false cx29_
          refine sm_T_inc (a := 1) (z := 4) (v := 17) (w := 21) rfl rfl (by omega) (by omega) (by omega) ?_ -- pc_ 55
          refine sm_T_go 2 (c1 := (60, [some (.inl (i_ushr (i_and (i_xor a0_ (-1)) (i_sub a0_ 1)) 16)), some (.inl 21)], [.inl 4, .inl (i_ushr (i_and (i_xor a0_ (-1)) (i_sub a0_ 1)) 16)], S0_)) rfl ?_
          refine sm_T_bin (w := (i_ushr (i_ushr (i_and (i_xor a0_ (-1)) (i_sub a0_ 1)) 16) 4)) rfl rfl ?_ -- pc_ 60
          have bx34_ := i_ushw (x_ := (i_ushr (i_and (i_xor a0_ (-1)) (i_sub a0_ 1)) 16)) (e_ := 4) (k_ := 4) (m_ := 16) (by decide) (by decide) (by omega) (by decide)
          refine sm_T_go 3 (c1 := (64, [some (.inl (i_ushr (i_ushr (i_and (i_xor a0_ (-1)) (i_sub a0_ 1)) 16) 4)), some (.inl 21)], [.inl 4, .inl (i_ushr (i_ushr (i_and (i_xor a0_ (-1)) (i_sub a0_ 1)) 16) 4)], S0_)) rfl ?_
          refine sm_T_br (a := 5) (z := 10) rfl (fun cx35_ => ?_) (fun cx35_ => ?_)
          · have cx35_ : (i_ushr (i_ushr (i_and (i_xor a0_ (-1)) (i_sub a0_ 1)) 16) 4) ≤ 4 := of_decide_eq_true cx35_
            refine sm_T_go 3 (c1 := (77, [some (.inl (i_ushr (i_ushr (i_and (i_xor a0_ (-1)) (i_sub a0_ 1)) 16) 4)), some (.inl 21)], [.inl 1, .inl (i_ushr (i_ushr (i_and (i_xor a0_ (-1)) (i_sub a0_ 1)) 16) 4), .inl 21], S0_)) rfl ?_
            refine sm_T_bin (w := (i_ushr (i_ushr (i_ushr (i_and (i_xor a0_ (-1)) (i_sub a0_ 1)) 16) 4) 1)) rfl rfl ?_ -- pc_ 77
            have bx36_ := i_ushw (x_ := (i_ushr (i_ushr (i_and (i_xor a0_ (-1)) (i_sub a0_ 1)) 16) 4)) (e_ := 1) (k_ := 1) (m_ := 2) (by decide) (by decide) (by omega) (by decide)
            refine sm_T_bin (w := (i_ushr (i_ushr (i_ushr (i_and (i_xor a0_ (-1)) (i_sub a0_ 1)) 16) 4) 1) + 21) rfl (bi_add (by omega) (by omega) (by omega)) ?_ -- pc_ 78
            refine sm_T_ri rfl ⟨_, _, rfl, rfl, _, rfl, ?_⟩
            refine ⟨by omega, fun q9_ => ?_⟩
            refine nz_f (ntz_m h0_ q9_) ?_ (by omega)
            (unfold nz16; (first | rw [if_pos (by omega)] | rw [if_neg (by omega)]); unfold nz8; (first | rw [if_pos (by omega)] | rw [if_neg (by omega)]); unfold nz4; (first | rw [if_pos (by omega)] | rw [if_neg (by omega)]); unfold nz2; (first | rw [if_pos (by omega)] | rw [if_neg (by omega)]); unfold nz1; omega)
          · have cx35_ : ¬ ((i_ushr (i_ushr (i_and (i_xor a0_ (-1)) (i_sub a0_ 1)) 16) 4) ≤ 4) := of_decide_eq_false cx35_
            refine sm_T_inc (a := 1) (z := 2) (v := 21) (w := 23) rfl rfl (by omega) (by omega) (by omega) ?_ -- pc_ 67
            refine sm_T_go 2 (c1 := (72, [some (.inl (i_ushr (i_ushr (i_and (i_xor a0_ (-1)) (i_sub a0_ 1)) 16) 4)), some (.inl 23)], [.inl 2, .inl (i_ushr (i_ushr (i_and (i_xor a0_ (-1)) (i_sub a0_ 1)) 16) 4)], S0_)) rfl ?_
            refine sm_T_bin (w := (i_ushr (i_ushr (i_ushr (i_and (i_xor a0_ (-1)) (i_sub a0_ 1)) 16) 4) 2)) rfl rfl ?_ -- pc_ 72
            have bx37_ := i_ushw (x_ := (i_ushr (i_ushr (i_and (i_xor a0_ (-1)) (i_sub a0_ 1)) 16) 4)) (e_ := 2) (k_ := 2) (m_ := 4) (by decide) (by decide) (by omega) (by decide)
            refine sm_T_go 4 (c1 := (77, [some (.inl (i_ushr (i_ushr (i_ushr (i_and (i_xor a0_ (-1)) (i_sub a0_ 1)) 16) 4) 2)), some (.inl 23)], [.inl 1, .inl (i_ushr (i_ushr (i_ushr (i_and (i_xor a0_ (-1)) (i_sub a0_ 1)) 16) 4) 2), .inl 23], S0_)) rfl ?_
            refine sm_T_bin (w := (i_ushr (i_ushr (i_ushr (i_ushr (i_and (i_xor a0_ (-1)) (i_sub a0_ 1)) 16) 4) 2) 1)) rfl rfl ?_ -- pc_ 77
            have bx38_ := i_ushw (x_ := (i_ushr (i_ushr (i_ushr (i_and (i_xor a0_ (-1)) (i_sub a0_ 1)) 16) 4) 2)) (e_ := 1) (k_ := 1) (m_ := 2) (by decide) (by decide) (by omega) (by decide)
            refine sm_T_bin (w := (i_ushr (i_ushr (i_ushr (i_ushr (i_and (i_xor a0_ (-1)) (i_sub a0_ 1)) 16) 4) 2) 1) + 23) rfl (bi_add (by omega) (by omega) (by omega)) ?_ -- pc_ 78
            refine sm_T_ri rfl ⟨_, _, rfl, rfl, _, rfl, ?_⟩
            refine ⟨by omega, fun q9_ => ?_⟩
            refine nz_f (ntz_m h0_ q9_) ?_ (by omega)
            (unfold nz16; (first | rw [if_pos (by omega)] | rw [if_neg (by omega)]); unfold nz8; (first | rw [if_pos (by omega)] | rw [if_neg (by omega)]); unfold nz4; (first | rw [if_pos (by omega)] | rw [if_neg (by omega)]); unfold nz2; (first | rw [if_pos (by omega)] | rw [if_neg (by omega)]); unfold nz1; omega)
      · have cx28_ : ¬ ((i_ushr (i_and (i_xor a0_ (-1)) (i_sub a0_ 1)) 16) ≤ 256) := of_decide_eq_false cx28_
        refine sm_T_inc (a := 1) (z := 8) (v := 17) (w := 25) rfl rfl (by omega) (by omega) (by omega) ?_ -- pc_ 41
        refine sm_T_go 2 (c1 := (47, [some (.inl (i_ushr (i_and (i_xor a0_ (-1)) (i_sub a0_ 1)) 16)), some (.inl 25)], [.inl 8, .inl (i_ushr (i_and (i_xor a0_ (-1)) (i_sub a0_ 1)) 16)], S0_)) rfl ?_
        refine sm_T_bin (w := (i_ushr (i_ushr (i_and (i_xor a0_ (-1)) (i_sub a0_ 1)) 16) 8)) rfl rfl ?_ -- pc_ 47
        have bx39_ := i_ushw (x_ := (i_ushr (i_and (i_xor a0_ (-1)) (i_sub a0_ 1)) 16)) (e_ := 8) (k_ := 8) (m_ := 256) (by decide) (by decide) (by omega) (by decide)
        refine sm_T_go 3 (c1 := (52, [some (.inl (i_ushr (i_ushr (i_and (i_xor a0_ (-1)) (i_sub a0_ 1)) 16) 8)), some (.inl 25)], [.inl 16, .inl (i_ushr (i_ushr (i_and (i_xor a0_ (-1)) (i_sub a0_ 1)) 16) 8)], S0_)) rfl ?_
        refine sm_T_br (a := 5) (z := 10) rfl (fun cx40_ => ?_) (fun cx40_ => ?_)
        · have cx40_ : (i_ushr (i_ushr (i_and (i_xor a0_ (-1)) (i_sub a0_ 1)) 16) 8) ≤ 16 := of_decide_eq_true cx40_
          refine sm_T_go 2 (c1 := (64, [some (.inl (i_ushr (i_ushr (i_and (i_xor a0_ (-1)) (i_sub a0_ 1)) 16) 8)), some (.inl 25)], [.inl 4, .inl (i_ushr (i_ushr (i_and (i_xor a0_ (-1)) (i_sub a0_ 1)) 16) 8)], S0_)) rfl ?_
          refine sm_T_br (a := 5) (z := 10) rfl (fun cx41_ => ?_) (fun cx41_ => ?_)
          · have cx41_ : (i_ushr (i_ushr (i_and (i_xor a0_ (-1)) (i_sub a0_ 1)) 16) 8) ≤ 4 := of_decide_eq_true cx41_
            refine sm_T_go 3 (c1 := (77, [some (.inl (i_ushr (i_ushr (i_and (i_xor a0_ (-1)) (i_sub a0_ 1)) 16) 8)), some (.inl 25)], [.inl 1, .inl (i_ushr (i_ushr (i_and (i_xor a0_ (-1)) (i_sub a0_ 1)) 16) 8), .inl 25], S0_)) rfl ?_
            refine sm_T_bin (w := (i_ushr (i_ushr (i_ushr (i_and (i_xor a0_ (-1)) (i_sub a0_ 1)) 16) 8) 1)) rfl rfl ?_ -- pc_ 77
            have bx42_ := i_ushw (x_ := (i_ushr (i_ushr (i_and (i_xor a0_ (-1)) (i_sub a0_ 1)) 16) 8)) (e_ := 1) (k_ := 1) (m_ := 2) (by decide) (by decide) (by omega) (by decide)
            refine sm_T_bin (w := (i_ushr (i_ushr (i_ushr (i_and (i_xor a0_ (-1)) (i_sub a0_ 1)) 16) 8) 1) + 25) rfl (bi_add (by omega) (by omega) (by omega)) ?_ -- pc_ 78
            refine sm_T_ri rfl ⟨_, _, rfl, rfl, _, rfl, ?_⟩
            refine ⟨by omega, fun q9_ => ?_⟩
            refine nz_f (ntz_m h0_ q9_) ?_ (by omega)
            (unfold nz16; (first | rw [if_pos (by omega)] | rw [if_neg (by omega)]); unfold nz8; (first | rw [if_pos (by omega)] | rw [if_neg (by omega)]); unfold nz4; (first | rw [if_pos (by omega)] | rw [if_neg (by omega)]); unfold nz2; (first | rw [if_pos (by omega)] | rw [if_neg (by omega)]); unfold nz1; omega)
          · have cx41_ : ¬ ((i_ushr (i_ushr (i_and (i_xor a0_ (-1)) (i_sub a0_ 1)) 16) 8) ≤ 4) := of_decide_eq_false cx41_
            refine sm_T_inc (a := 1) (z := 2) (v := 25) (w := 27) rfl rfl (by omega) (by omega) (by omega) ?_ -- pc_ 67
            refine sm_T_go 2 (c1 := (72, [some (.inl (i_ushr (i_ushr (i_and (i_xor a0_ (-1)) (i_sub a0_ 1)) 16) 8)), some (.inl 27)], [.inl 2, .inl (i_ushr (i_ushr (i_and (i_xor a0_ (-1)) (i_sub a0_ 1)) 16) 8)], S0_)) rfl ?_
            refine sm_T_bin (w := (i_ushr (i_ushr (i_ushr (i_and (i_xor a0_ (-1)) (i_sub a0_ 1)) 16) 8) 2)) rfl rfl ?_ -- pc_ 72
            have bx43_ := i_ushw (x_ := (i_ushr (i_ushr (i_and (i_xor a0_ (-1)) (i_sub a0_ 1)) 16) 8)) (e_ := 2) (k_ := 2) (m_ := 4) (by decide) (by decide) (by omega) (by decide)
            refine sm_T_go 4 (c1 := (77, [some (.inl (i_ushr (i_ushr (i_ushr (i_and (i_xor a0_ (-1)) (i_sub a0_ 1)) 16) 8) 2)), some (.inl 27)], [.inl 1, .inl (i_ushr (i_ushr (i_ushr (i_and (i_xor a0_ (-1)) (i_sub a0_ 1)) 16) 8) 2), .inl 27], S0_)) rfl ?_
            refine sm_T_bin (w := (i_ushr (i_ushr (i_ushr (i_ushr (i_and (i_xor a0_ (-1)) (i_sub a0_ 1)) 16) 8) 2) 1)) rfl rfl ?_ -- pc_ 77
            have bx44_ := i_ushw (x_ := (i_ushr (i_ushr (i_ushr (i_and (i_xor a0_ (-1)) (i_sub a0_ 1)) 16) 8) 2)) (e_ := 1) (k_ := 1) (m_ := 2) (by decide) (by decide) (by omega) (by decide)
            refine sm_T_bin (w := (i_ushr (i_ushr (i_ushr (i_ushr (i_and (i_xor a0_ (-1)) (i_sub a0_ 1)) 16) 8) 2) 1) + 27) rfl (bi_add (by omega) (by omega) (by omega)) ?_ -- pc_ 78
            refine sm_T_ri rfl ⟨_, _, rfl, rfl, _, rfl, ?_⟩
            refine ⟨by omega, fun q9_ => ?_⟩
            refine nz_f (ntz_m h0_ q9_) ?_ (by omega)
            (unfold nz16; (first | rw [if_pos (by omega)] | rw [if_neg (by omega)]); unfold nz8; (first | rw [if_pos (by omega)] | rw [if_neg (by omega)]); unfold nz4; (first | rw [if_pos (by omega)] | rw [if_neg (by omega)]); unfold nz2; (first | rw [if_pos (by omega)] | rw [if_neg (by omega)]); unfold nz1; omega)
        · have cx40_ : ¬ ((i_ushr (i_ushr (i_and (i_xor a0_ (-1)) (i_sub a0_ 1)) 16) 8) ≤ 16) := of_decide_eq_false cx40_
          refine sm_T_inc (a := 1) (z := 4) (v := 25) (w := 29) rfl rfl (by omega) (by omega) (by omega) ?_ -- pc_ 55
          refine sm_T_go 2 (c1 := (60, [some (.inl (i_ushr (i_ushr (i_and (i_xor a0_ (-1)) (i_sub a0_ 1)) 16) 8)), some (.inl 29)], [.inl 4, .inl (i_ushr (i_ushr (i_and (i_xor a0_ (-1)) (i_sub a0_ 1)) 16) 8)], S0_)) rfl ?_
          refine sm_T_bin (w := (i_ushr (i_ushr (i_ushr (i_and (i_xor a0_ (-1)) (i_sub a0_ 1)) 16) 8) 4)) rfl rfl ?_ -- pc_ 60
          have bx45_ := i_ushw (x_ := (i_ushr (i_ushr (i_and (i_xor a0_ (-1)) (i_sub a0_ 1)) 16) 8)) (e_ := 4) (k_ := 4) (m_ := 16) (by decide) (by decide) (by omega) (by decide)
          refine sm_T_go 3 (c1 := (64, [some (.inl (i_ushr (i_ushr (i_ushr (i_and (i_xor a0_ (-1)) (i_sub a0_ 1)) 16) 8) 4)), some (.inl 29)], [.inl 4, .inl (i_ushr (i_ushr (i_ushr (i_and (i_xor a0_ (-1)) (i_sub a0_ 1)) 16) 8) 4)], S0_)) rfl ?_
          refine sm_T_br (a := 5) (z := 10) rfl (fun cx46_ => ?_) (fun cx46_ => ?_)
          · have cx46_ : (i_ushr (i_ushr (i_ushr (i_and (i_xor a0_ (-1)) (i_sub a0_ 1)) 16) 8) 4) ≤ 4 := of_decide_eq_true cx46_
            refine sm_T_go 3 (c1 := (77, [some (.inl (i_ushr (i_ushr (i_ushr (i_and (i_xor a0_ (-1)) (i_sub a0_ 1)) 16) 8) 4)), some (.inl 29)], [.inl 1, .inl (i_ushr (i_ushr (i_ushr (i_and (i_xor a0_ (-1)) (i_sub a0_ 1)) 16) 8) 4), .inl 29], S0_)) rfl ?_
            refine sm_T_bin (w := (i_ushr (i_ushr (i_ushr (i_ushr (i_and (i_xor a0_ (-1)) (i_sub a0_ 1)) 16) 8) 4) 1)) rfl rfl ?_ -- pc_ 77
            have bx47_ := i_ushw (x_ := (i_ushr (i_ushr (i_ushr (i_and (i_xor a0_ (-1)) (i_sub a0_ 1)) 16) 8) 4)) (e_ := 1) (k_ := 1) (m_ := 2) (by decide) (by decide) (by omega) (by decide)
            refine sm_T_bin (w := (i_ushr (i_ushr (i_ushr (i_ushr (i_and (i_xor a0_ (-1)) (i_sub a0_ 1)) 16) 8) 4) 1) + 29) rfl (bi_add (by omega) (by omega) (by omega)) ?_ -- pc_ 78
            refine sm_T_ri rfl ⟨_, _, rfl, rfl, _, rfl, ?_⟩
            refine ⟨by omega, fun q9_ => ?_⟩
            refine nz_f (ntz_m h0_ q9_) ?_ (by omega)
            (unfold nz16; (first | rw [if_pos (by omega)] | rw [if_neg (by omega)]); unfold nz8; (first | rw [if_pos (by omega)] | rw [if_neg (by omega)]); unfold nz4; (first | rw [if_pos (by omega)] | rw [if_neg (by omega)]); unfold nz2; (first | rw [if_pos (by omega)] | rw [if_neg (by omega)]); unfold nz1; omega)
          · have cx46_ : ¬ ((i_ushr (i_ushr (i_ushr (i_and (i_xor a0_ (-1)) (i_sub a0_ 1)) 16) 8) 4) ≤ 4) := of_decide_eq_false cx46_
            refine sm_T_inc (a := 1) (z := 2) (v := 29) (w := 31) rfl rfl (by omega) (by omega) (by omega) ?_ -- pc_ 67
            refine sm_T_go 2 (c1 := (72, [some (.inl (i_ushr (i_ushr (i_ushr (i_and (i_xor a0_ (-1)) (i_sub a0_ 1)) 16) 8) 4)), some (.inl 31)], [.inl 2, .inl (i_ushr (i_ushr (i_ushr (i_and (i_xor a0_ (-1)) (i_sub a0_ 1)) 16) 8) 4)], S0_)) rfl ?_
            refine sm_T_bin (w := (i_ushr (i_ushr (i_ushr (i_ushr (i_and (i_xor a0_ (-1)) (i_sub a0_ 1)) 16) 8) 4) 2)) rfl rfl ?_ -- pc_ 72
            have bx48_ := i_ushw (x_ := (i_ushr (i_ushr (i_ushr (i_and (i_xor a0_ (-1)) (i_sub a0_ 1)) 16) 8) 4)) (e_ := 2) (k_ := 2) (m_ := 4) (by decide) (by decide) (by omega) (by decide)
            refine sm_T_go 4 (c1 := (77, [some (.inl (i_ushr (i_ushr (i_ushr (i_ushr (i_and (i_xor a0_ (-1)) (i_sub a0_ 1)) 16) 8) 4) 2)), some (.inl 31)], [.inl 1, .inl (i_ushr (i_ushr (i_ushr (i_ushr (i_and (i_xor a0_ (-1)) (i_sub a0_ 1)) 16) 8) 4) 2), .inl 31], S0_)) rfl ?_
            refine sm_T_bin (w := (i_ushr (i_ushr (i_ushr (i_ushr (i_ushr (i_and (i_xor a0_ (-1)) (i_sub a0_ 1)) 16) 8) 4) 2) 1)) rfl rfl ?_ -- pc_ 77
            have bx49_ := i_ushw (x_ := (i_ushr (i_ushr (i_ushr (i_ushr (i_and (i_xor a0_ (-1)) (i_sub a0_ 1)) 16) 8) 4) 2)) (e_ := 1) (k_ := 1) (m_ := 2) (by decide) (by decide) (by omega) (by decide)
            refine sm_T_bin (w := (i_ushr (i_ushr (i_ushr (i_ushr (i_ushr (i_and (i_xor a0_ (-1)) (i_sub a0_ 1)) 16) 8) 4) 2) 1) + 31) rfl (bi_add (by omega) (by omega) (by omega)) ?_ -- pc_ 78
            refine sm_T_ri rfl ⟨_, _, rfl, rfl, _, rfl, ?_⟩
            refine ⟨by omega, fun q9_ => ?_⟩
            refine nz_f (ntz_m h0_ q9_) ?_ (by omega)
            (unfold nz16; (first | rw [if_pos (by omega)] | rw [if_neg (by omega)]); unfold nz8; (first | rw [if_pos (by omega)] | rw [if_neg (by omega)]); unfold nz4; (first | rw [if_pos (by omega)] | rw [if_neg (by omega)]); unfold nz2; (first | rw [if_pos (by omega)] | rw [if_neg (by omega)]); unfold nz1; omega)
  · have cx3_ : ¬ (0 < (i_and (i_xor a0_ (-1)) (i_sub a0_ 1))) := of_decide_eq_false cx3_
    refine sm_T_go 2 (c1 := (15, [some (.inl (i_and (i_xor a0_ (-1)) (i_sub a0_ 1))), none], [.inl 32, .inl (i_and (i_xor a0_ (-1)) (i_sub a0_ 1))], S0_)) rfl ?_
    refine sm_T_bin (w := (i_and (i_and (i_xor a0_ (-1)) (i_sub a0_ 1)) 32)) rfl rfl ?_ -- pc_ 15
    have bx50_ := i_and_y (i_and (i_xor a0_ (-1)) (i_sub a0_ 1)) (y_ := 32) (by decide)
    have zz9_ : (i_and (i_xor a0_ (-1)) (i_sub a0_ 1)) = 0 → i_and (i_and (i_xor a0_ (-1)) (i_sub a0_ 1)) 32 = 0 := fun q9_ => by (rw [q9_]; decide)
    refine sm_T_ri rfl ⟨_, _, rfl, rfl, _, rfl, ?_⟩
    refine ⟨by omega, fun q9_ => ?_⟩
    exact nz_f0 (ntz_m h0_ q9_) zz9_ (by omega)
/-! java/lang/Long.numberOfTrailingZeros -/
def vw_9n : sx_Wl := ([], [], [])
def vq_9n (y0_ : Int) (S0_ : sm_S) (u_ : Option sm_V) (S1_ : sm_S) : Prop := S0_ = S1_ ∧ ∃ v_ : Int, u_ = some (.inl v_) ∧ ((0 ≤ v_ ∧ v_ ≤ 64) ∧ (y0_ ≠ 0 → lzp y0_ v_))
set_option maxHeartbeats 400000 in
theorem vc_9n {sc_ : Nat × (Nat → Int)} (y0_ : Int) (S0_ : sm_S) (hI_ : gi S0_) (h0_ : nl9 y0_) : sm_T (mt_P sc_) 1 9 (0, [some (.inr (.inl y0_)), none, none], [], S0_) (fun ro9_ => ∃ u_ S1_, ro9_ = (.inl u_, S1_, 0) ∧ vq_9n y0_ S0_ u_ S1_) := by
  have hF_ : ai_fr (sx_W vw_9n) S0_ S0_ := ai_fr_rf
  have bx1_ := l_l2i_n y0_
  refine sm_T_go 4 (c1 := (4, [some (.inr (.inl y0_)), none, some (.inl (l_l2i y0_))], [.inl (l_l2i y0_)], S0_)) rfl ?_
  refine sm_T_b0 (a := 1) (z := 17) rfl (fun cx2_ => ?_) (fun cx2_ => ?_)
  · have cx2_ : (l_l2i y0_) ≠ 0 := of_decide_eq_true cx2_
    have ly9_ : l_l2i y0_ ≠ 0 := by omega
    refine sm_T_go 1 (c1 := (22, [some (.inr (.inl y0_)), none, some (.inl (l_l2i y0_))], [.inl (l_l2i y0_)], S0_)) rfl ?_
    refine sm_T_cal (d1 := 0) (Q1 := vq_10n (l_l2i y0_) S0_) rfl rfl (by decide) (vc_10n (l_l2i y0_) S0_ hI_ (by omega)) (fun u_ Sx3_ px6_ => ?_)
    obtain ⟨rfl, vx8_, rfl, px6_⟩ := px6_
    have p9_ := px6_
    refine sm_T_ri rfl ⟨_, _, rfl, rfl, _, rfl, ?_⟩
    first | (refine ⟨by omega, fun q9_ => ?_⟩; have w9_ := lz_h (by omega) lx9_ (p9_.2 (fun u9_ => q9_ (lz9_ u9_))); first | exact w9_ | (rw [Int.add_comm] at w9_; exact w9_)) | (exact ⟨by omega, fun _ => lz_l (by omega) (p9_.2 ly9_)⟩)
  · have cx2_ : ¬ ((l_l2i y0_) ≠ 0) := of_decide_eq_false cx2_
    have lx9_ : l_l2i y0_ = 0 := by omega
    have lz9_ := fun q9_ => l64z h0_ lx9_ q9_
    have bx9_ := l_l2i_n ((l_s2 y0_ 32))
    refine sm_T_go 5 (c1 := (14, [some (.inr (.inl y0_)), none, some (.inl (l_l2i y0_))], [.inl (l_l2i ((l_s2 y0_ 32))), .inl 32], S0_)) rfl ?_
    refine sm_T_cal (d1 := 0) (Q1 := vq_10n (l_l2i ((l_s2 y0_ 32))) S0_) rfl rfl (by decide) (vc_10n (l_l2i ((l_s2 y0_ 32))) S0_ hI_ (by omega)) (fun u_ Sx10_ px13_ => ?_)
    obtain ⟨rfl, vx15_, rfl, px13_⟩ := px13_
    have p9_ := px13_
    refine sm_T_bin (w := vx15_ + 32) rfl (bi_add (by omega) (by omega) (by omega)) ?_ -- pc_ 17
    refine sm_T_go 1 (c1 := (25, [some (.inr (.inl y0_)), none, some (.inl (l_l2i y0_))], [.inl (vx15_ + 32)], S0_)) rfl ?_
    refine sm_T_ri rfl ⟨_, _, rfl, rfl, _, rfl, ?_⟩
    first | (refine ⟨by omega, fun q9_ => ?_⟩; have w9_ := lz_h (by omega) lx9_ (p9_.2 (fun u9_ => q9_ (lz9_ u9_))); first | exact w9_ | (rw [Int.add_comm] at w9_; exact w9_)) | (exact ⟨by omega, fun _ => lz_l (by omega) (p9_.2 ly9_)⟩)
