/-! 99.zl5a -/
section
/-! trailing zeros; written by wip/p55/gen/vg -/

/-! bits and trailing zeros; references compared -/
theorem xm1 {a_ : Int} (h_ : -2147483648 ≤ a_ ∧ a_ ≤ 2147483647) : i_xor a_ (-1) = -1 - a_ := by
  unfold i_xor
  have e_ : (Int32.ofInt a_).toInt = a_ := Int32.toInt_ofInt_of_le (by omega) (by omega)
  have q_ : Int32.ofInt a_ ^^^ Int32.ofInt (-1) = ~~~(Int32.ofInt a_) := by
    show Int32.ofInt a_ ^^^ -1 = _
    exact Int32.xor_neg_one
  rw [q_, Int32.toInt_not, e_]
  rw [Int.bmod_eq_of_le (by omega) (by omega)]
  omega
theorem l64z {x_ : Int} (h_ : -9223372036854775808 ≤ x_ ∧ x_ < 9223372036854775808) (h1_ : l_l2i x_ = 0) (h2_ : l_l2i (l_s2 x_ 32) = 0) : x_ = 0 := by
  have e_ : (Int64.ofInt x_).toInt = x_ := Int64.toInt_ofInt_of_le (by omega) (by omega)
  unfold l_l2i l_s2 at *
  rw [Int64.ofInt_toInt] at h2_
  generalize Int64.ofInt x_ = a_ at *
  rw [← e_]
  have p1_ : a_.toBitVec.signExtend 32 = 0 := by
    have z_ : a_.toInt32 = 0 := Int32.toInt_inj.mp h1_
    have z2_ : a_.toInt32.toBitVec = 0 := by rw [z_]; rfl
    exact z2_
  have p2_ : (a_.toBitVec >>> 32).signExtend 32 = 0 := by
    have z_ : ((a_.toUInt64 >>> ((Int32.ofInt 32).toInt64.toUInt64 &&& Int64.toUInt64 63)).toInt64).toInt32 = 0 := Int32.toInt_inj.mp h2_
    have z2_ : (((a_.toUInt64 >>> ((Int32.ofInt 32).toInt64.toUInt64 &&& Int64.toUInt64 63)).toInt64).toInt32).toBitVec = 0 := by rw [z_]; rfl
    exact z2_
  have p3_ : a_.toBitVec = 0 := by
    apply BitVec.eq_of_getLsbD_eq
    intro i_ hi_
    by_cases c_ : i_ < 32
    · have t_ := congrArg (fun b_ => b_.getLsbD i_) p1_
      simp only [BitVec.getLsbD_signExtend] at t_
      simpa [c_, hi_] using t_
    · have t_ := congrArg (fun b_ => b_.getLsbD (i_ - 32)) p2_
      simp only [BitVec.getLsbD_signExtend, BitVec.getLsbD_ushiftRight] at t_
      rw [show 32 + (i_ - 32) = i_ by omega] at t_
      simpa [show i_ - 32 < 32 by omega, show i_ - 32 < 64 by omega] using t_
  have p4_ : a_ = 0 := Int64.toBitVec_inj.mp p3_
  rw [p4_]
  rfl
theorem i_ushv {x_ : Int} {k_ : Nat} (hk_ : k_ < 32) (h_ : 0 ≤ x_ ∧ x_ ≤ 2147483647) : i_ushr x_ (k_ : Int) = x_ / 2 ^ k_ := by
  unfold i_ushr
  have e_ : (Int32.ofInt x_).toInt = x_ := Int32.toInt_ofInt_of_le (by omega) (by omega)
  have n_ : (Int32.ofInt x_).toUInt32.toNat = x_.toNat := by
    show (Int32.ofInt x_).toBitVec.toNat = x_.toNat
    have q_ : (Int32.ofInt x_).toBitVec.toInt = x_ := e_
    rw [BitVec.toInt_eq_toNat_cond] at q_
    have l_ := (Int32.ofInt x_).toBitVec.isLt
    split at q_ <;> omega
  have m_ : ((Int32.ofInt (k_ : Int)).toUInt32 &&& Int32.toUInt32 31).toNat = k_ := by
    have c_ : ∀ j_ : Fin 32, ((Int32.ofInt ((j_.val : Nat) : Int)).toUInt32 &&& Int32.toUInt32 31).toNat = j_.val := by decide
    exact c_ ⟨k_, hk_⟩
  obtain ⟨u_, hu_⟩ : ∃ u_, u_ = (Int32.ofInt x_).toUInt32 >>> ((Int32.ofInt (k_ : Int)).toUInt32 &&& Int32.toUInt32 31) := ⟨_, rfl⟩
  have v_ : u_.toNat = x_.toNat / 2 ^ k_ := by
    rw [hu_, UInt32.toNat_shiftRight, n_, m_, Nat.mod_eq_of_lt hk_, Nat.shiftRight_eq_div_pow]
  rw [← hu_]
  show u_.toBitVec.toInt = _
  rw [BitVec.toInt_eq_toNat_cond]
  have w_ : u_.toBitVec.toNat = x_.toNat / 2 ^ k_ := v_
  have b_ : x_.toNat / 2 ^ k_ ≤ x_.toNat := Nat.div_le_self _ _
  rw [w_, if_pos (by omega), Int.natCast_ediv]
  have z_ : ((x_.toNat : Nat) : Int) = x_ := by omega
  rw [z_]
  norm_cast
theorem i_ushw {x_ e_ m_ : Int} {k_ : Nat} (he_ : e_ = (k_ : Int)) (hk_ : k_ < 32) (h_ : 0 ≤ x_ ∧ x_ ≤ 2147483647) (hm_ : (2 : Int) ^ k_ = m_) : i_ushr x_ e_ = x_ / m_ := by
  rw [he_, i_ushv hk_ h_, hm_]
theorem ntz_y {a_ : Int} (h_ : -2147483648 ≤ a_ ∧ a_ ≤ 2147483647) (hn_ : i_and (i_xor a_ (-1)) (i_sub a_ 1) < 0) : a_ = 0 := by
  by_cases z_ : a_ = 0
  · exact z_
  · exfalso
    by_cases p_ : a_ < 0
    · have x_ := i_and_x (x_ := i_xor a_ (-1)) (i_sub a_ 1) (by rw [xm1 h_]; omega)
      omega
    · have e_ : i_sub a_ 1 = a_ - 1 := by
        unfold i_sub
        have e1_ : (Int32.ofInt a_).toInt = a_ := Int32.toInt_ofInt_of_le (by omega) (by omega)
        have e2_ : (Int32.ofInt (1 : Int)).toInt = 1 := by decide
        rw [Int32.toInt_sub, e1_, e2_, Int.bmod_eq_of_le (by omega) (by omega)]
      have y_ := i_and_y (i_xor a_ (-1)) (y_ := i_sub a_ 1) (by omega)
      omega
theorem sm_T_acn {P_ : sm_P} {d_ mid_ pc_ a_ b_ v_ : Nat} {z_ : Int} {L_ : sm_L} {r_ : List sm_V} {S_ : sm_S} {Q_ : sm_R → Prop} {x_ y_ : Option (Nat × Nat)} (hx_ : P_.1 mid_ pc_ = some (20, 3, a_, b_, v_, z_)) (hk_ : (x_.all (fun q_ => decide (q_.1 < 14)) && y_.all (fun q_ => decide (q_.1 < 14))) = true) (kt_ : x_ = y_ → sm_T P_ d_ mid_ (pc_ + 3, L_, r_, S_) Q_) (kf_ : x_ ≠ y_ → sm_T P_ d_ mid_ (((pc_ : Int) + z_).toNat, L_, r_, S_) Q_) : sm_T P_ d_ mid_ (pc_, L_, .inr (.inr y_) :: .inr (.inr x_) :: r_, S_) Q_ := by
  by_cases e_ : x_ = y_
  · exact sm_T_stp hx_ (Nat.le_of_ble_eq_true rfl) (c1 := (pc_ + 3, L_, r_, S_)) (by simp only [sm_stp, hk_, if_true]; rw [if_pos e_]) (kt_ e_)
  · exact sm_T_stp hx_ (Nat.le_of_ble_eq_true rfl) (c1 := (((pc_ : Int) + z_).toNat, L_, r_, S_)) (by simp only [sm_stp, hk_, if_true]; rw [if_neg e_]) (kf_ e_)
def nl9 (x_ : Int) : Prop := -9223372036854775808 ≤ x_ ∧ x_ < 9223372036854775808
theorem nl9_i (x_ : Int64) : nl9 x_.toInt := ⟨Int64.le_toInt x_, Int64.toInt_lt x_⟩
/-! java/lang/Integer.numberOfTrailingZeros -/
def vw_10 : sx_Wl := ([], [], [])
def vq_10 (a0_ : Int) (S0_ : sm_S) (u_ : Option sm_V) (S1_ : sm_S) : Prop := S0_ = S1_ ∧ ∃ v_ : Int, u_ = some (.inl v_) ∧ ((0 ≤ v_ ∧ v_ ≤ 32) ∧ (a0_ ≠ 0 → v_ ≤ 31))
set_option maxHeartbeats 400000 in
theorem vc_10 {sc_ : Nat × (Nat → Int)} (a0_ : Int) (S0_ : sm_S) (hI_ : gi S0_) (h0_ : -2147483648 ≤ a0_ ∧ a0_ ≤ 2147483647) : sm_T (mt_P sc_) 0 10 (0, [some (.inl a0_), none], [], S0_) (fun ro9_ => ∃ u_ S1_, ro9_ = (.inl u_, S1_, 0) ∧ vq_10 a0_ S0_ u_ S1_) := by
  have hF_ : ai_fr (sx_W vw_10) S0_ S0_ := ai_fr_rf
  refine sm_T_go 2 (c1 := (2, [some (.inl a0_), none], [.inl (-1), .inl a0_], S0_)) rfl ?_
  refine sm_T_bin (w := (i_xor a0_ (-1))) rfl rfl ?_ -- pc_ 2
  refine sm_T_go 2 (c1 := (5, [some (.inl a0_), none], [.inl 1, .inl a0_, .inl (i_xor a0_ (-1))], S0_)) rfl ?_
  refine sm_T_bin (w := (i_sub a0_ 1)) rfl rfl ?_ -- pc_ 5
  have bx1_ := i_sub_r a0_ 1
  refine sm_T_bin (w := (i_and (i_xor a0_ (-1)) (i_sub a0_ 1))) rfl rfl ?_ -- pc_ 6
  have bx2_ := i_and_n (i_xor a0_ (-1)) (i_sub a0_ 1)
  have ny9_ := fun hn9_ => ntz_y h0_ hn9_
  refine sm_T_go 2 (c1 := (9, [some (.inl (i_and (i_xor a0_ (-1)) (i_sub a0_ 1))), none], [.inl (i_and (i_xor a0_ (-1)) (i_sub a0_ 1))], S0_)) rfl ?_
  refine sm_T_b0 (a := 4) (z := 8) rfl (fun cx4_ => ?_) (fun cx4_ => ?_)
  · have cx4_ : 0 < (i_and (i_xor a0_ (-1)) (i_sub a0_ 1)) := of_decide_eq_true cx4_
    refine sm_T_go 3 (c1 := (20, [some (.inl (i_and (i_xor a0_ (-1)) (i_sub a0_ 1))), some (.inl 1)], [.inl (i_and (i_xor a0_ (-1)) (i_sub a0_ 1))], S0_)) rfl ?_
    refine sm_T_nt (u := some (.inl 65536)) (S1 := S0_) rfl rfl rfl ?_
    refine sm_T_br (a := 5) (z := 11) rfl (fun cx5_ => ?_) (fun cx5_ => ?_)
    · have cx5_ : (i_and (i_xor a0_ (-1)) (i_sub a0_ 1)) ≤ 65536 := of_decide_eq_true cx5_
      refine sm_T_go 2 (c1 := (38, [some (.inl (i_and (i_xor a0_ (-1)) (i_sub a0_ 1))), some (.inl 1)], [.inl 256, .inl (i_and (i_xor a0_ (-1)) (i_sub a0_ 1))], S0_)) rfl ?_
      refine sm_T_br (a := 5) (z := 11) rfl (fun cx6_ => ?_) (fun cx6_ => ?_)
      · have cx6_ : (i_and (i_xor a0_ (-1)) (i_sub a0_ 1)) ≤ 256 := of_decide_eq_true cx6_
        refine sm_T_go 2 (c1 := (52, [some (.inl (i_and (i_xor a0_ (-1)) (i_sub a0_ 1))), some (.inl 1)], [.inl 16, .inl (i_and (i_xor a0_ (-1)) (i_sub a0_ 1))], S0_)) rfl ?_
        refine sm_T_br (a := 5) (z := 10) rfl (fun cx7_ => ?_) (fun cx7_ => ?_)
        · have cx7_ : (i_and (i_xor a0_ (-1)) (i_sub a0_ 1)) ≤ 16 := of_decide_eq_true cx7_
          refine sm_T_go 2 (c1 := (64, [some (.inl (i_and (i_xor a0_ (-1)) (i_sub a0_ 1))), some (.inl 1)], [.inl 4, .inl (i_and (i_xor a0_ (-1)) (i_sub a0_ 1))], S0_)) rfl ?_
          refine sm_T_br (a := 5) (z := 10) rfl (fun cx8_ => ?_) (fun cx8_ => ?_)
          · have cx8_ : (i_and (i_xor a0_ (-1)) (i_sub a0_ 1)) ≤ 4 := of_decide_eq_true cx8_
            refine sm_T_go 3 (c1 := (77, [some (.inl (i_and (i_xor a0_ (-1)) (i_sub a0_ 1))), some (.inl 1)], [.inl 1, .inl (i_and (i_xor a0_ (-1)) (i_sub a0_ 1)), .inl 1], S0_)) rfl ?_
            refine sm_T_bin (w := (i_ushr (i_and (i_xor a0_ (-1)) (i_sub a0_ 1)) 1)) rfl rfl ?_ -- pc_ 77
            have bx9_ := i_ushw (x_ := (i_and (i_xor a0_ (-1)) (i_sub a0_ 1))) (e_ := 1) (k_ := 1) (m_ := 2) (by decide) (by decide) (by omega) (by decide)
            refine sm_T_bin (w := (i_ushr (i_and (i_xor a0_ (-1)) (i_sub a0_ 1)) 1) + 1) rfl (bi_add (by omega) (by omega) (by omega)) ?_ -- pc_ 78
            refine sm_T_ri rfl ⟨_, _, rfl, rfl, _, rfl, ?_⟩
            refine ⟨by omega, fun _ => by omega⟩
          · have cx8_ : ¬ ((i_and (i_xor a0_ (-1)) (i_sub a0_ 1)) ≤ 4) := of_decide_eq_false cx8_
            refine sm_T_inc (a := 1) (z := 2) (v := 1) (w := 3) rfl rfl (by omega) (by omega) (by omega) ?_ -- pc_ 67
            refine sm_T_go 2 (c1 := (72, [some (.inl (i_and (i_xor a0_ (-1)) (i_sub a0_ 1))), some (.inl 3)], [.inl 2, .inl (i_and (i_xor a0_ (-1)) (i_sub a0_ 1))], S0_)) rfl ?_
            refine sm_T_bin (w := (i_ushr (i_and (i_xor a0_ (-1)) (i_sub a0_ 1)) 2)) rfl rfl ?_ -- pc_ 72
            have bx10_ := i_ushw (x_ := (i_and (i_xor a0_ (-1)) (i_sub a0_ 1))) (e_ := 2) (k_ := 2) (m_ := 4) (by decide) (by decide) (by omega) (by decide)
            refine sm_T_go 4 (c1 := (77, [some (.inl (i_ushr (i_and (i_xor a0_ (-1)) (i_sub a0_ 1)) 2)), some (.inl 3)], [.inl 1, .inl (i_ushr (i_and (i_xor a0_ (-1)) (i_sub a0_ 1)) 2), .inl 3], S0_)) rfl ?_
            refine sm_T_bin (w := (i_ushr (i_ushr (i_and (i_xor a0_ (-1)) (i_sub a0_ 1)) 2) 1)) rfl rfl ?_ -- pc_ 77
            have bx11_ := i_ushw (x_ := (i_ushr (i_and (i_xor a0_ (-1)) (i_sub a0_ 1)) 2)) (e_ := 1) (k_ := 1) (m_ := 2) (by decide) (by decide) (by omega) (by decide)
            refine sm_T_bin (w := (i_ushr (i_ushr (i_and (i_xor a0_ (-1)) (i_sub a0_ 1)) 2) 1) + 3) rfl (bi_add (by omega) (by omega) (by omega)) ?_ -- pc_ 78
            refine sm_T_ri rfl ⟨_, _, rfl, rfl, _, rfl, ?_⟩
            refine ⟨by omega, fun _ => by omega⟩
        · have cx7_ : ¬ ((i_and (i_xor a0_ (-1)) (i_sub a0_ 1)) ≤ 16) := of_decide_eq_false cx7_
          refine sm_T_inc (a := 1) (z := 4) (v := 1) (w := 5) rfl rfl (by omega) (by omega) (by omega) ?_ -- pc_ 55
          refine sm_T_go 2 (c1 := (60, [some (.inl (i_and (i_xor a0_ (-1)) (i_sub a0_ 1))), some (.inl 5)], [.inl 4, .inl (i_and (i_xor a0_ (-1)) (i_sub a0_ 1))], S0_)) rfl ?_
          refine sm_T_bin (w := (i_ushr (i_and (i_xor a0_ (-1)) (i_sub a0_ 1)) 4)) rfl rfl ?_ -- pc_ 60
          have bx12_ := i_ushw (x_ := (i_and (i_xor a0_ (-1)) (i_sub a0_ 1))) (e_ := 4) (k_ := 4) (m_ := 16) (by decide) (by decide) (by omega) (by decide)
          refine sm_T_go 3 (c1 := (64, [some (.inl (i_ushr (i_and (i_xor a0_ (-1)) (i_sub a0_ 1)) 4)), some (.inl 5)], [.inl 4, .inl (i_ushr (i_and (i_xor a0_ (-1)) (i_sub a0_ 1)) 4)], S0_)) rfl ?_
          refine sm_T_br (a := 5) (z := 10) rfl (fun cx13_ => ?_) (fun cx13_ => ?_)
          · have cx13_ : (i_ushr (i_and (i_xor a0_ (-1)) (i_sub a0_ 1)) 4) ≤ 4 := of_decide_eq_true cx13_
            refine sm_T_go 3 (c1 := (77, [some (.inl (i_ushr (i_and (i_xor a0_ (-1)) (i_sub a0_ 1)) 4)), some (.inl 5)], [.inl 1, .inl (i_ushr (i_and (i_xor a0_ (-1)) (i_sub a0_ 1)) 4), .inl 5], S0_)) rfl ?_
            refine sm_T_bin (w := (i_ushr (i_ushr (i_and (i_xor a0_ (-1)) (i_sub a0_ 1)) 4) 1)) rfl rfl ?_ -- pc_ 77
            have bx14_ := i_ushw (x_ := (i_ushr (i_and (i_xor a0_ (-1)) (i_sub a0_ 1)) 4)) (e_ := 1) (k_ := 1) (m_ := 2) (by decide) (by decide) (by omega) (by decide)
            refine sm_T_bin (w := (i_ushr (i_ushr (i_and (i_xor a0_ (-1)) (i_sub a0_ 1)) 4) 1) + 5) rfl (bi_add (by omega) (by omega) (by omega)) ?_ -- pc_ 78
            refine sm_T_ri rfl ⟨_, _, rfl, rfl, _, rfl, ?_⟩
            refine ⟨by omega, fun _ => by omega⟩
          · have cx13_ : ¬ ((i_ushr (i_and (i_xor a0_ (-1)) (i_sub a0_ 1)) 4) ≤ 4) := of_decide_eq_false cx13_
            refine sm_T_inc (a := 1) (z := 2) (v := 5) (w := 7) rfl rfl (by omega) (by omega) (by omega) ?_ -- pc_ 67
            refine sm_T_go 2 (c1 := (72, [some (.inl (i_ushr (i_and (i_xor a0_ (-1)) (i_sub a0_ 1)) 4)), some (.inl 7)], [.inl 2, .inl (i_ushr (i_and (i_xor a0_ (-1)) (i_sub a0_ 1)) 4)], S0_)) rfl ?_
            refine sm_T_bin (w := (i_ushr (i_ushr (i_and (i_xor a0_ (-1)) (i_sub a0_ 1)) 4) 2)) rfl rfl ?_ -- pc_ 72
            have bx15_ := i_ushw (x_ := (i_ushr (i_and (i_xor a0_ (-1)) (i_sub a0_ 1)) 4)) (e_ := 2) (k_ := 2) (m_ := 4) (by decide) (by decide) (by omega) (by decide)
            refine sm_T_go 4 (c1 := (77, [some (.inl (i_ushr (i_ushr (i_and (i_xor a0_ (-1)) (i_sub a0_ 1)) 4) 2)), some (.inl 7)], [.inl 1, .inl (i_ushr (i_ushr (i_and (i_xor a0_ (-1)) (i_sub a0_ 1)) 4) 2), .inl 7], S0_)) rfl ?_
            refine sm_T_bin (w := (i_ushr (i_ushr (i_ushr (i_and (i_xor a0_ (-1)) (i_sub a0_ 1)) 4) 2) 1)) rfl rfl ?_ -- pc_ 77
            have bx16_ := i_ushw (x_ := (i_ushr (i_ushr (i_and (i_xor a0_ (-1)) (i_sub a0_ 1)) 4) 2)) (e_ := 1) (k_ := 1) (m_ := 2) (by decide) (by decide) (by omega) (by decide)
            refine sm_T_bin (w := (i_ushr (i_ushr (i_ushr (i_and (i_xor a0_ (-1)) (i_sub a0_ 1)) 4) 2) 1) + 7) rfl (bi_add (by omega) (by omega) (by omega)) ?_ -- pc_ 78
            refine sm_T_ri rfl ⟨_, _, rfl, rfl, _, rfl, ?_⟩
            refine ⟨by omega, fun _ => by omega⟩
      · have cx6_ : ¬ ((i_and (i_xor a0_ (-1)) (i_sub a0_ 1)) ≤ 256) := of_decide_eq_false cx6_
        refine sm_T_inc (a := 1) (z := 8) (v := 1) (w := 9) rfl rfl (by omega) (by omega) (by omega) ?_ -- pc_ 41
        refine sm_T_go 2 (c1 := (47, [some (.inl (i_and (i_xor a0_ (-1)) (i_sub a0_ 1))), some (.inl 9)], [.inl 8, .inl (i_and (i_xor a0_ (-1)) (i_sub a0_ 1))], S0_)) rfl ?_
        refine sm_T_bin (w := (i_ushr (i_and (i_xor a0_ (-1)) (i_sub a0_ 1)) 8)) rfl rfl ?_ -- pc_ 47
        have bx17_ := i_ushw (x_ := (i_and (i_xor a0_ (-1)) (i_sub a0_ 1))) (e_ := 8) (k_ := 8) (m_ := 256) (by decide) (by decide) (by omega) (by decide)
        refine sm_T_go 3 (c1 := (52, [some (.inl (i_ushr (i_and (i_xor a0_ (-1)) (i_sub a0_ 1)) 8)), some (.inl 9)], [.inl 16, .inl (i_ushr (i_and (i_xor a0_ (-1)) (i_sub a0_ 1)) 8)], S0_)) rfl ?_
        refine sm_T_br (a := 5) (z := 10) rfl (fun cx18_ => ?_) (fun cx18_ => ?_)
        · have cx18_ : (i_ushr (i_and (i_xor a0_ (-1)) (i_sub a0_ 1)) 8) ≤ 16 := of_decide_eq_true cx18_
          refine sm_T_go 2 (c1 := (64, [some (.inl (i_ushr (i_and (i_xor a0_ (-1)) (i_sub a0_ 1)) 8)), some (.inl 9)], [.inl 4, .inl (i_ushr (i_and (i_xor a0_ (-1)) (i_sub a0_ 1)) 8)], S0_)) rfl ?_
          refine sm_T_br (a := 5) (z := 10) rfl (fun cx19_ => ?_) (fun cx19_ => ?_)
          · have cx19_ : (i_ushr (i_and (i_xor a0_ (-1)) (i_sub a0_ 1)) 8) ≤ 4 := of_decide_eq_true cx19_
            refine sm_T_go 3 (c1 := (77, [some (.inl (i_ushr (i_and (i_xor a0_ (-1)) (i_sub a0_ 1)) 8)), some (.inl 9)], [.inl 1, .inl (i_ushr (i_and (i_xor a0_ (-1)) (i_sub a0_ 1)) 8), .inl 9], S0_)) rfl ?_
            refine sm_T_bin (w := (i_ushr (i_ushr (i_and (i_xor a0_ (-1)) (i_sub a0_ 1)) 8) 1)) rfl rfl ?_ -- pc_ 77
            have bx20_ := i_ushw (x_ := (i_ushr (i_and (i_xor a0_ (-1)) (i_sub a0_ 1)) 8)) (e_ := 1) (k_ := 1) (m_ := 2) (by decide) (by decide) (by omega) (by decide)
            refine sm_T_bin (w := (i_ushr (i_ushr (i_and (i_xor a0_ (-1)) (i_sub a0_ 1)) 8) 1) + 9) rfl (bi_add (by omega) (by omega) (by omega)) ?_ -- pc_ 78
            refine sm_T_ri rfl ⟨_, _, rfl, rfl, _, rfl, ?_⟩
            refine ⟨by omega, fun _ => by omega⟩
          · have cx19_ : ¬ ((i_ushr (i_and (i_xor a0_ (-1)) (i_sub a0_ 1)) 8) ≤ 4) := of_decide_eq_false cx19_
            refine sm_T_inc (a := 1) (z := 2) (v := 9) (w := 11) rfl rfl (by omega) (by omega) (by omega) ?_ -- pc_ 67
            refine sm_T_go 2 (c1 := (72, [some (.inl (i_ushr (i_and (i_xor a0_ (-1)) (i_sub a0_ 1)) 8)), some (.inl 11)], [.inl 2, .inl (i_ushr (i_and (i_xor a0_ (-1)) (i_sub a0_ 1)) 8)], S0_)) rfl ?_
            refine sm_T_bin (w := (i_ushr (i_ushr (i_and (i_xor a0_ (-1)) (i_sub a0_ 1)) 8) 2)) rfl rfl ?_ -- pc_ 72
            have bx21_ := i_ushw (x_ := (i_ushr (i_and (i_xor a0_ (-1)) (i_sub a0_ 1)) 8)) (e_ := 2) (k_ := 2) (m_ := 4) (by decide) (by decide) (by omega) (by decide)
            refine sm_T_go 4 (c1 := (77, [some (.inl (i_ushr (i_ushr (i_and (i_xor a0_ (-1)) (i_sub a0_ 1)) 8) 2)), some (.inl 11)], [.inl 1, .inl (i_ushr (i_ushr (i_and (i_xor a0_ (-1)) (i_sub a0_ 1)) 8) 2), .inl 11], S0_)) rfl ?_
            refine sm_T_bin (w := (i_ushr (i_ushr (i_ushr (i_and (i_xor a0_ (-1)) (i_sub a0_ 1)) 8) 2) 1)) rfl rfl ?_ -- pc_ 77
            have bx22_ := i_ushw (x_ := (i_ushr (i_ushr (i_and (i_xor a0_ (-1)) (i_sub a0_ 1)) 8) 2)) (e_ := 1) (k_ := 1) (m_ := 2) (by decide) (by decide) (by omega) (by decide)
            refine sm_T_bin (w := (i_ushr (i_ushr (i_ushr (i_and (i_xor a0_ (-1)) (i_sub a0_ 1)) 8) 2) 1) + 11) rfl (bi_add (by omega) (by omega) (by omega)) ?_ -- pc_ 78
            refine sm_T_ri rfl ⟨_, _, rfl, rfl, _, rfl, ?_⟩
            refine ⟨by omega, fun _ => by omega⟩
        · have cx18_ : ¬ ((i_ushr (i_and (i_xor a0_ (-1)) (i_sub a0_ 1)) 8) ≤ 16) := of_decide_eq_false cx18_
          refine sm_T_inc (a := 1) (z := 4) (v := 9) (w := 13) rfl rfl (by omega) (by omega) (by omega) ?_ -- pc_ 55
          refine sm_T_go 2 (c1 := (60, [some (.inl (i_ushr (i_and (i_xor a0_ (-1)) (i_sub a0_ 1)) 8)), some (.inl 13)], [.inl 4, .inl (i_ushr (i_and (i_xor a0_ (-1)) (i_sub a0_ 1)) 8)], S0_)) rfl ?_
          refine sm_T_bin (w := (i_ushr (i_ushr (i_and (i_xor a0_ (-1)) (i_sub a0_ 1)) 8) 4)) rfl rfl ?_ -- pc_ 60
          have bx23_ := i_ushw (x_ := (i_ushr (i_and (i_xor a0_ (-1)) (i_sub a0_ 1)) 8)) (e_ := 4) (k_ := 4) (m_ := 16) (by decide) (by decide) (by omega) (by decide)
          refine sm_T_go 3 (c1 := (64, [some (.inl (i_ushr (i_ushr (i_and (i_xor a0_ (-1)) (i_sub a0_ 1)) 8) 4)), some (.inl 13)], [.inl 4, .inl (i_ushr (i_ushr (i_and (i_xor a0_ (-1)) (i_sub a0_ 1)) 8) 4)], S0_)) rfl ?_
          refine sm_T_br (a := 5) (z := 10) rfl (fun cx24_ => ?_) (fun cx24_ => ?_)
          · have cx24_ : (i_ushr (i_ushr (i_and (i_xor a0_ (-1)) (i_sub a0_ 1)) 8) 4) ≤ 4 := of_decide_eq_true cx24_
            refine sm_T_go 3 (c1 := (77, [some (.inl (i_ushr (i_ushr (i_and (i_xor a0_ (-1)) (i_sub a0_ 1)) 8) 4)), some (.inl 13)], [.inl 1, .inl (i_ushr (i_ushr (i_and (i_xor a0_ (-1)) (i_sub a0_ 1)) 8) 4), .inl 13], S0_)) rfl ?_
            refine sm_T_bin (w := (i_ushr (i_ushr (i_ushr (i_and (i_xor a0_ (-1)) (i_sub a0_ 1)) 8) 4) 1)) rfl rfl ?_ -- pc_ 77
            have bx25_ := i_ushw (x_ := (i_ushr (i_ushr (i_and (i_xor a0_ (-1)) (i_sub a0_ 1)) 8) 4)) (e_ := 1) (k_ := 1) (m_ := 2) (by decide) (by decide) (by omega) (by decide)
            refine sm_T_bin (w := (i_ushr (i_ushr (i_ushr (i_and (i_xor a0_ (-1)) (i_sub a0_ 1)) 8) 4) 1) + 13) rfl (bi_add (by omega) (by omega) (by omega)) ?_ -- pc_ 78
            refine sm_T_ri rfl ⟨_, _, rfl, rfl, _, rfl, ?_⟩
            refine ⟨by omega, fun _ => by omega⟩
          · have cx24_ : ¬ ((i_ushr (i_ushr (i_and (i_xor a0_ (-1)) (i_sub a0_ 1)) 8) 4) ≤ 4) := of_decide_eq_false cx24_
            refine sm_T_inc (a := 1) (z := 2) (v := 13) (w := 15) rfl rfl (by omega) (by omega) (by omega) ?_ -- pc_ 67
            refine sm_T_go 2 (c1 := (72, [some (.inl (i_ushr (i_ushr (i_and (i_xor a0_ (-1)) (i_sub a0_ 1)) 8) 4)), some (.inl 15)], [.inl 2, .inl (i_ushr (i_ushr (i_and (i_xor a0_ (-1)) (i_sub a0_ 1)) 8) 4)], S0_)) rfl ?_
            refine sm_T_bin (w := (i_ushr (i_ushr (i_ushr (i_and (i_xor a0_ (-1)) (i_sub a0_ 1)) 8) 4) 2)) rfl rfl ?_ -- pc_ 72
            have bx26_ := i_ushw (x_ := (i_ushr (i_ushr (i_and (i_xor a0_ (-1)) (i_sub a0_ 1)) 8) 4)) (e_ := 2) (k_ := 2) (m_ := 4) (by decide) (by decide) (by omega) (by decide)
            refine sm_T_go 4 (c1 := (77, [some (.inl (i_ushr (i_ushr (i_ushr (i_and (i_xor a0_ (-1)) (i_sub a0_ 1)) 8) 4) 2)), some (.inl 15)], [.inl 1, .inl (i_ushr (i_ushr (i_ushr (i_and (i_xor a0_ (-1)) (i_sub a0_ 1)) 8) 4) 2), .inl 15], S0_)) rfl ?_
            refine sm_T_bin (w := (i_ushr (i_ushr (i_ushr (i_ushr (i_and (i_xor a0_ (-1)) (i_sub a0_ 1)) 8) 4) 2) 1)) rfl rfl ?_ -- pc_ 77
            have bx27_ := i_ushw (x_ := (i_ushr (i_ushr (i_ushr (i_and (i_xor a0_ (-1)) (i_sub a0_ 1)) 8) 4) 2)) (e_ := 1) (k_ := 1) (m_ := 2) (by decide) (by decide) (by omega) (by decide)
            refine sm_T_bin (w := (i_ushr (i_ushr (i_ushr (i_ushr (i_and (i_xor a0_ (-1)) (i_sub a0_ 1)) 8) 4) 2) 1) + 15) rfl (bi_add (by omega) (by omega) (by omega)) ?_ -- pc_ 78
            refine sm_T_ri rfl ⟨_, _, rfl, rfl, _, rfl, ?_⟩
            refine ⟨by omega, fun _ => by omega⟩
    · have cx5_ : ¬ ((i_and (i_xor a0_ (-1)) (i_sub a0_ 1)) ≤ 65536) := of_decide_eq_false cx5_
      refine sm_T_inc (a := 1) (z := 16) (v := 1) (w := 17) rfl rfl (by omega) (by omega) (by omega) ?_ -- pc_ 26
      refine sm_T_go 2 (c1 := (32, [some (.inl (i_and (i_xor a0_ (-1)) (i_sub a0_ 1))), some (.inl 17)], [.inl 16, .inl (i_and (i_xor a0_ (-1)) (i_sub a0_ 1))], S0_)) rfl ?_
      refine sm_T_bin (w := (i_ushr (i_and (i_xor a0_ (-1)) (i_sub a0_ 1)) 16)) rfl rfl ?_ -- pc_ 32
      have bx28_ := i_ushw (x_ := (i_and (i_xor a0_ (-1)) (i_sub a0_ 1))) (e_ := 16) (k_ := 16) (m_ := 65536) (by decide) (by decide) (by omega) (by decide)
      refine sm_T_go 3 (c1 := (38, [some (.inl (i_ushr (i_and (i_xor a0_ (-1)) (i_sub a0_ 1)) 16)), some (.inl 17)], [.inl 256, .inl (i_ushr (i_and (i_xor a0_ (-1)) (i_sub a0_ 1)) 16)], S0_)) rfl ?_
      refine sm_T_br (a := 5) (z := 11) rfl (fun cx29_ => ?_) (fun cx29_ => ?_)
      · have cx29_ : (i_ushr (i_and (i_xor a0_ (-1)) (i_sub a0_ 1)) 16) ≤ 256 := of_decide_eq_true cx29_
        refine sm_T_go 2 (c1 := (52, [some (.inl (i_ushr (i_and (i_xor a0_ (-1)) (i_sub a0_ 1)) 16)), some (.inl 17)], [.inl 16, .inl (i_ushr (i_and (i_xor a0_ (-1)) (i_sub a0_ 1)) 16)], S0_)) rfl ?_
        refine sm_T_br (a := 5) (z := 10) rfl (fun cx30_ => ?_) (fun cx30_ => ?_)
        · have cx30_ : (i_ushr (i_and (i_xor a0_ (-1)) (i_sub a0_ 1)) 16) ≤ 16 := of_decide_eq_true cx30_
          refine sm_T_go 2 (c1 := (64, [some (.inl (i_ushr (i_and (i_xor a0_ (-1)) (i_sub a0_ 1)) 16)), some (.inl 17)], [.inl 4, .inl (i_ushr (i_and (i_xor a0_ (-1)) (i_sub a0_ 1)) 16)], S0_)) rfl ?_
          refine sm_T_br (a := 5) (z := 10) rfl (fun cx31_ => ?_) (fun cx31_ => ?_)
          · have cx31_ : (i_ushr (i_and (i_xor a0_ (-1)) (i_sub a0_ 1)) 16) ≤ 4 := of_decide_eq_true cx31_
            refine sm_T_go 3 (c1 := (77, [some (.inl (i_ushr (i_and (i_xor a0_ (-1)) (i_sub a0_ 1)) 16)), some (.inl 17)], [.inl 1, .inl (i_ushr (i_and (i_xor a0_ (-1)) (i_sub a0_ 1)) 16), .inl 17], S0_)) rfl ?_
            refine sm_T_bin (w := (i_ushr (i_ushr (i_and (i_xor a0_ (-1)) (i_sub a0_ 1)) 16) 1)) rfl rfl ?_ -- pc_ 77
            have bx32_ := i_ushw (x_ := (i_ushr (i_and (i_xor a0_ (-1)) (i_sub a0_ 1)) 16)) (e_ := 1) (k_ := 1) (m_ := 2) (by decide) (by decide) (by omega) (by decide)
            refine sm_T_bin (w := (i_ushr (i_ushr (i_and (i_xor a0_ (-1)) (i_sub a0_ 1)) 16) 1) + 17) rfl (bi_add (by omega) (by omega) (by omega)) ?_ -- pc_ 78
            refine sm_T_ri rfl ⟨_, _, rfl, rfl, _, rfl, ?_⟩
            refine ⟨by omega, fun _ => by omega⟩
          · have cx31_ : ¬ ((i_ushr (i_and (i_xor a0_ (-1)) (i_sub a0_ 1)) 16) ≤ 4) := of_decide_eq_false cx31_
            refine sm_T_inc (a := 1) (z := 2) (v := 17) (w := 19) rfl rfl (by omega) (by omega) (by omega) ?_ -- pc_ 67
            refine sm_T_go 2 (c1 := (72, [some (.inl (i_ushr (i_and (i_xor a0_ (-1)) (i_sub a0_ 1)) 16)), some (.inl 19)], [.inl 2, .inl (i_ushr (i_and (i_xor a0_ (-1)) (i_sub a0_ 1)) 16)], S0_)) rfl ?_
            refine sm_T_bin (w := (i_ushr (i_ushr (i_and (i_xor a0_ (-1)) (i_sub a0_ 1)) 16) 2)) rfl rfl ?_ -- pc_ 72
            have bx33_ := i_ushw (x_ := (i_ushr (i_and (i_xor a0_ (-1)) (i_sub a0_ 1)) 16)) (e_ := 2) (k_ := 2) (m_ := 4) (by decide) (by decide) (by omega) (by decide)
            refine sm_T_go 4 (c1 := (77, [some (.inl (i_ushr (i_ushr (i_and (i_xor a0_ (-1)) (i_sub a0_ 1)) 16) 2)), some (.inl 19)], [.inl 1, .inl (i_ushr (i_ushr (i_and (i_xor a0_ (-1)) (i_sub a0_ 1)) 16) 2), .inl 19], S0_)) rfl ?_
            refine sm_T_bin (w := (i_ushr (i_ushr (i_ushr (i_and (i_xor a0_ (-1)) (i_sub a0_ 1)) 16) 2) 1)) rfl rfl ?_ -- pc_ 77
            have bx34_ := i_ushw (x_ := (i_ushr (i_ushr (i_and (i_xor a0_ (-1)) (i_sub a0_ 1)) 16) 2)) (e_ := 1) (k_ := 1) (m_ := 2) (by decide) (by decide) (by omega) (by decide)
            refine sm_T_bin (w := (i_ushr (i_ushr (i_ushr (i_and (i_xor a0_ (-1)) (i_sub a0_ 1)) 16) 2) 1) + 19) rfl (bi_add (by omega) (by omega) (by omega)) ?_ -- pc_ 78
            refine sm_T_ri rfl ⟨_, _, rfl, rfl, _, rfl, ?_⟩
            refine ⟨by omega, fun _ => by omega⟩
        · have cx30_ : ¬ ((i_ushr (i_and (i_xor a0_ (-1)) (i_sub a0_ 1)) 16) ≤ 16) := of_decide_eq_false cx30_
          refine sm_T_inc (a := 1) (z := 4) (v := 17) (w := 21) rfl rfl (by omega) (by omega) (by omega) ?_ -- pc_ 55
          refine sm_T_go 2 (c1 := (60, [some (.inl (i_ushr (i_and (i_xor a0_ (-1)) (i_sub a0_ 1)) 16)), some (.inl 21)], [.inl 4, .inl (i_ushr (i_and (i_xor a0_ (-1)) (i_sub a0_ 1)) 16)], S0_)) rfl ?_
          refine sm_T_bin (w := (i_ushr (i_ushr (i_and (i_xor a0_ (-1)) (i_sub a0_ 1)) 16) 4)) rfl rfl ?_ -- pc_ 60
          have bx35_ := i_ushw (x_ := (i_ushr (i_and (i_xor a0_ (-1)) (i_sub a0_ 1)) 16)) (e_ := 4) (k_ := 4) (m_ := 16) (by decide) (by decide) (by omega) (by decide)
          refine sm_T_go 3 (c1 := (64, [some (.inl (i_ushr (i_ushr (i_and (i_xor a0_ (-1)) (i_sub a0_ 1)) 16) 4)), some (.inl 21)], [.inl 4, .inl (i_ushr (i_ushr (i_and (i_xor a0_ (-1)) (i_sub a0_ 1)) 16) 4)], S0_)) rfl ?_
          refine sm_T_br (a := 5) (z := 10) rfl (fun cx36_ => ?_) (fun cx36_ => ?_)
          · have cx36_ : (i_ushr (i_ushr (i_and (i_xor a0_ (-1)) (i_sub a0_ 1)) 16) 4) ≤ 4 := of_decide_eq_true cx36_
            refine sm_T_go 3 (c1 := (77, [some (.inl (i_ushr (i_ushr (i_and (i_xor a0_ (-1)) (i_sub a0_ 1)) 16) 4)), some (.inl 21)], [.inl 1, .inl (i_ushr (i_ushr (i_and (i_xor a0_ (-1)) (i_sub a0_ 1)) 16) 4), .inl 21], S0_)) rfl ?_
            refine sm_T_bin (w := (i_ushr (i_ushr (i_ushr (i_and (i_xor a0_ (-1)) (i_sub a0_ 1)) 16) 4) 1)) rfl rfl ?_ -- pc_ 77
            have bx37_ := i_ushw (x_ := (i_ushr (i_ushr (i_and (i_xor a0_ (-1)) (i_sub a0_ 1)) 16) 4)) (e_ := 1) (k_ := 1) (m_ := 2) (by decide) (by decide) (by omega) (by decide)
            refine sm_T_bin (w := (i_ushr (i_ushr (i_ushr (i_and (i_xor a0_ (-1)) (i_sub a0_ 1)) 16) 4) 1) + 21) rfl (bi_add (by omega) (by omega) (by omega)) ?_ -- pc_ 78
            refine sm_T_ri rfl ⟨_, _, rfl, rfl, _, rfl, ?_⟩
            refine ⟨by omega, fun _ => by omega⟩
          · have cx36_ : ¬ ((i_ushr (i_ushr (i_and (i_xor a0_ (-1)) (i_sub a0_ 1)) 16) 4) ≤ 4) := of_decide_eq_false cx36_
            refine sm_T_inc (a := 1) (z := 2) (v := 21) (w := 23) rfl rfl (by omega) (by omega) (by omega) ?_ -- pc_ 67
            refine sm_T_go 2 (c1 := (72, [some (.inl (i_ushr (i_ushr (i_and (i_xor a0_ (-1)) (i_sub a0_ 1)) 16) 4)), some (.inl 23)], [.inl 2, .inl (i_ushr (i_ushr (i_and (i_xor a0_ (-1)) (i_sub a0_ 1)) 16) 4)], S0_)) rfl ?_
            refine sm_T_bin (w := (i_ushr (i_ushr (i_ushr (i_and (i_xor a0_ (-1)) (i_sub a0_ 1)) 16) 4) 2)) rfl rfl ?_ -- pc_ 72
            have bx38_ := i_ushw (x_ := (i_ushr (i_ushr (i_and (i_xor a0_ (-1)) (i_sub a0_ 1)) 16) 4)) (e_ := 2) (k_ := 2) (m_ := 4) (by decide) (by decide) (by omega) (by decide)
            refine sm_T_go 4 (c1 := (77, [some (.inl (i_ushr (i_ushr (i_ushr (i_and (i_xor a0_ (-1)) (i_sub a0_ 1)) 16) 4) 2)), some (.inl 23)], [.inl 1, .inl (i_ushr (i_ushr (i_ushr (i_and (i_xor a0_ (-1)) (i_sub a0_ 1)) 16) 4) 2), .inl 23], S0_)) rfl ?_
            refine sm_T_bin (w := (i_ushr (i_ushr (i_ushr (i_ushr (i_and (i_xor a0_ (-1)) (i_sub a0_ 1)) 16) 4) 2) 1)) rfl rfl ?_ -- pc_ 77
            have bx39_ := i_ushw (x_ := (i_ushr (i_ushr (i_ushr (i_and (i_xor a0_ (-1)) (i_sub a0_ 1)) 16) 4) 2)) (e_ := 1) (k_ := 1) (m_ := 2) (by decide) (by decide) (by omega) (by decide)
            refine sm_T_bin (w := (i_ushr (i_ushr (i_ushr (i_ushr (i_and (i_xor a0_ (-1)) (i_sub a0_ 1)) 16) 4) 2) 1) + 23) rfl (bi_add (by omega) (by omega) (by omega)) ?_ -- pc_ 78
            refine sm_T_ri rfl ⟨_, _, rfl, rfl, _, rfl, ?_⟩
            refine ⟨by omega, fun _ => by omega⟩
      · have cx29_ : ¬ ((i_ushr (i_and (i_xor a0_ (-1)) (i_sub a0_ 1)) 16) ≤ 256) := of_decide_eq_false cx29_
        refine sm_T_inc (a := 1) (z := 8) (v := 17) (w := 25) rfl rfl (by omega) (by omega) (by omega) ?_ -- pc_ 41
        refine sm_T_go 2 (c1 := (47, [some (.inl (i_ushr (i_and (i_xor a0_ (-1)) (i_sub a0_ 1)) 16)), some (.inl 25)], [.inl 8, .inl (i_ushr (i_and (i_xor a0_ (-1)) (i_sub a0_ 1)) 16)], S0_)) rfl ?_
        refine sm_T_bin (w := (i_ushr (i_ushr (i_and (i_xor a0_ (-1)) (i_sub a0_ 1)) 16) 8)) rfl rfl ?_ -- pc_ 47
        have bx40_ := i_ushw (x_ := (i_ushr (i_and (i_xor a0_ (-1)) (i_sub a0_ 1)) 16)) (e_ := 8) (k_ := 8) (m_ := 256) (by decide) (by decide) (by omega) (by decide)
        refine sm_T_go 3 (c1 := (52, [some (.inl (i_ushr (i_ushr (i_and (i_xor a0_ (-1)) (i_sub a0_ 1)) 16) 8)), some (.inl 25)], [.inl 16, .inl (i_ushr (i_ushr (i_and (i_xor a0_ (-1)) (i_sub a0_ 1)) 16) 8)], S0_)) rfl ?_
        refine sm_T_br (a := 5) (z := 10) rfl (fun cx41_ => ?_) (fun cx41_ => ?_)
        · have cx41_ : (i_ushr (i_ushr (i_and (i_xor a0_ (-1)) (i_sub a0_ 1)) 16) 8) ≤ 16 := of_decide_eq_true cx41_
          refine sm_T_go 2 (c1 := (64, [some (.inl (i_ushr (i_ushr (i_and (i_xor a0_ (-1)) (i_sub a0_ 1)) 16) 8)), some (.inl 25)], [.inl 4, .inl (i_ushr (i_ushr (i_and (i_xor a0_ (-1)) (i_sub a0_ 1)) 16) 8)], S0_)) rfl ?_
          refine sm_T_br (a := 5) (z := 10) rfl (fun cx42_ => ?_) (fun cx42_ => ?_)
          · have cx42_ : (i_ushr (i_ushr (i_and (i_xor a0_ (-1)) (i_sub a0_ 1)) 16) 8) ≤ 4 := of_decide_eq_true cx42_
            refine sm_T_go 3 (c1 := (77, [some (.inl (i_ushr (i_ushr (i_and (i_xor a0_ (-1)) (i_sub a0_ 1)) 16) 8)), some (.inl 25)], [.inl 1, .inl (i_ushr (i_ushr (i_and (i_xor a0_ (-1)) (i_sub a0_ 1)) 16) 8), .inl 25], S0_)) rfl ?_
            refine sm_T_bin (w := (i_ushr (i_ushr (i_ushr (i_and (i_xor a0_ (-1)) (i_sub a0_ 1)) 16) 8) 1)) rfl rfl ?_ -- pc_ 77
            have bx43_ := i_ushw (x_ := (i_ushr (i_ushr (i_and (i_xor a0_ (-1)) (i_sub a0_ 1)) 16) 8)) (e_ := 1) (k_ := 1) (m_ := 2) (by decide) (by decide) (by omega) (by decide)
            refine sm_T_bin (w := (i_ushr (i_ushr (i_ushr (i_and (i_xor a0_ (-1)) (i_sub a0_ 1)) 16) 8) 1) + 25) rfl (bi_add (by omega) (by omega) (by omega)) ?_ -- pc_ 78
            refine sm_T_ri rfl ⟨_, _, rfl, rfl, _, rfl, ?_⟩
            refine ⟨by omega, fun _ => by omega⟩
          · have cx42_ : ¬ ((i_ushr (i_ushr (i_and (i_xor a0_ (-1)) (i_sub a0_ 1)) 16) 8) ≤ 4) := of_decide_eq_false cx42_
            refine sm_T_inc (a := 1) (z := 2) (v := 25) (w := 27) rfl rfl (by omega) (by omega) (by omega) ?_ -- pc_ 67
            refine sm_T_go 2 (c1 := (72, [some (.inl (i_ushr (i_ushr (i_and (i_xor a0_ (-1)) (i_sub a0_ 1)) 16) 8)), some (.inl 27)], [.inl 2, .inl (i_ushr (i_ushr (i_and (i_xor a0_ (-1)) (i_sub a0_ 1)) 16) 8)], S0_)) rfl ?_
            refine sm_T_bin (w := (i_ushr (i_ushr (i_ushr (i_and (i_xor a0_ (-1)) (i_sub a0_ 1)) 16) 8) 2)) rfl rfl ?_ -- pc_ 72
            have bx44_ := i_ushw (x_ := (i_ushr (i_ushr (i_and (i_xor a0_ (-1)) (i_sub a0_ 1)) 16) 8)) (e_ := 2) (k_ := 2) (m_ := 4) (by decide) (by decide) (by omega) (by decide)
            refine sm_T_go 4 (c1 := (77, [some (.inl (i_ushr (i_ushr (i_ushr (i_and (i_xor a0_ (-1)) (i_sub a0_ 1)) 16) 8) 2)), some (.inl 27)], [.inl 1, .inl (i_ushr (i_ushr (i_ushr (i_and (i_xor a0_ (-1)) (i_sub a0_ 1)) 16) 8) 2), .inl 27], S0_)) rfl ?_
            refine sm_T_bin (w := (i_ushr (i_ushr (i_ushr (i_ushr (i_and (i_xor a0_ (-1)) (i_sub a0_ 1)) 16) 8) 2) 1)) rfl rfl ?_ -- pc_ 77
            have bx45_ := i_ushw (x_ := (i_ushr (i_ushr (i_ushr (i_and (i_xor a0_ (-1)) (i_sub a0_ 1)) 16) 8) 2)) (e_ := 1) (k_ := 1) (m_ := 2) (by decide) (by decide) (by omega) (by decide)
            refine sm_T_bin (w := (i_ushr (i_ushr (i_ushr (i_ushr (i_and (i_xor a0_ (-1)) (i_sub a0_ 1)) 16) 8) 2) 1) + 27) rfl (bi_add (by omega) (by omega) (by omega)) ?_ -- pc_ 78
            refine sm_T_ri rfl ⟨_, _, rfl, rfl, _, rfl, ?_⟩
            refine ⟨by omega, fun _ => by omega⟩
        · have cx41_ : ¬ ((i_ushr (i_ushr (i_and (i_xor a0_ (-1)) (i_sub a0_ 1)) 16) 8) ≤ 16) := of_decide_eq_false cx41_
          refine sm_T_inc (a := 1) (z := 4) (v := 25) (w := 29) rfl rfl (by omega) (by omega) (by omega) ?_ -- pc_ 55
          refine sm_T_go 2 (c1 := (60, [some (.inl (i_ushr (i_ushr (i_and (i_xor a0_ (-1)) (i_sub a0_ 1)) 16) 8)), some (.inl 29)], [.inl 4, .inl (i_ushr (i_ushr (i_and (i_xor a0_ (-1)) (i_sub a0_ 1)) 16) 8)], S0_)) rfl ?_
          refine sm_T_bin (w := (i_ushr (i_ushr (i_ushr (i_and (i_xor a0_ (-1)) (i_sub a0_ 1)) 16) 8) 4)) rfl rfl ?_ -- pc_ 60
          have bx46_ := i_ushw (x_ := (i_ushr (i_ushr (i_and (i_xor a0_ (-1)) (i_sub a0_ 1)) 16) 8)) (e_ := 4) (k_ := 4) (m_ := 16) (by decide) (by decide) (by omega) (by decide)
          refine sm_T_go 3 (c1 := (64, [some (.inl (i_ushr (i_ushr (i_ushr (i_and (i_xor a0_ (-1)) (i_sub a0_ 1)) 16) 8) 4)), some (.inl 29)], [.inl 4, .inl (i_ushr (i_ushr (i_ushr (i_and (i_xor a0_ (-1)) (i_sub a0_ 1)) 16) 8) 4)], S0_)) rfl ?_
          refine sm_T_br (a := 5) (z := 10) rfl (fun cx47_ => ?_) (fun cx47_ => ?_)
          · have cx47_ : (i_ushr (i_ushr (i_ushr (i_and (i_xor a0_ (-1)) (i_sub a0_ 1)) 16) 8) 4) ≤ 4 := of_decide_eq_true cx47_
            refine sm_T_go 3 (c1 := (77, [some (.inl (i_ushr (i_ushr (i_ushr (i_and (i_xor a0_ (-1)) (i_sub a0_ 1)) 16) 8) 4)), some (.inl 29)], [.inl 1, .inl (i_ushr (i_ushr (i_ushr (i_and (i_xor a0_ (-1)) (i_sub a0_ 1)) 16) 8) 4), .inl 29], S0_)) rfl ?_
            refine sm_T_bin (w := (i_ushr (i_ushr (i_ushr (i_ushr (i_and (i_xor a0_ (-1)) (i_sub a0_ 1)) 16) 8) 4) 1)) rfl rfl ?_ -- pc_ 77
            have bx48_ := i_ushw (x_ := (i_ushr (i_ushr (i_ushr (i_and (i_xor a0_ (-1)) (i_sub a0_ 1)) 16) 8) 4)) (e_ := 1) (k_ := 1) (m_ := 2) (by decide) (by decide) (by omega) (by decide)
            refine sm_T_bin (w := (i_ushr (i_ushr (i_ushr (i_ushr (i_and (i_xor a0_ (-1)) (i_sub a0_ 1)) 16) 8) 4) 1) + 29) rfl (bi_add (by omega) (by omega) (by omega)) ?_ -- pc_ 78
            refine sm_T_ri rfl ⟨_, _, rfl, rfl, _, rfl, ?_⟩
            refine ⟨by omega, fun _ => by omega⟩
          · have cx47_ : ¬ ((i_ushr (i_ushr (i_ushr (i_and (i_xor a0_ (-1)) (i_sub a0_ 1)) 16) 8) 4) ≤ 4) := of_decide_eq_false cx47_
            refine sm_T_inc (a := 1) (z := 2) (v := 29) (w := 31) rfl rfl (by omega) (by omega) (by omega) ?_ -- pc_ 67
            refine sm_T_go 2 (c1 := (72, [some (.inl (i_ushr (i_ushr (i_ushr (i_and (i_xor a0_ (-1)) (i_sub a0_ 1)) 16) 8) 4)), some (.inl 31)], [.inl 2, .inl (i_ushr (i_ushr (i_ushr (i_and (i_xor a0_ (-1)) (i_sub a0_ 1)) 16) 8) 4)], S0_)) rfl ?_
            refine sm_T_bin (w := (i_ushr (i_ushr (i_ushr (i_ushr (i_and (i_xor a0_ (-1)) (i_sub a0_ 1)) 16) 8) 4) 2)) rfl rfl ?_ -- pc_ 72
            have bx49_ := i_ushw (x_ := (i_ushr (i_ushr (i_ushr (i_and (i_xor a0_ (-1)) (i_sub a0_ 1)) 16) 8) 4)) (e_ := 2) (k_ := 2) (m_ := 4) (by decide) (by decide) (by omega) (by decide)
            refine sm_T_go 4 (c1 := (77, [some (.inl (i_ushr (i_ushr (i_ushr (i_ushr (i_and (i_xor a0_ (-1)) (i_sub a0_ 1)) 16) 8) 4) 2)), some (.inl 31)], [.inl 1, .inl (i_ushr (i_ushr (i_ushr (i_ushr (i_and (i_xor a0_ (-1)) (i_sub a0_ 1)) 16) 8) 4) 2), .inl 31], S0_)) rfl ?_
            refine sm_T_bin (w := (i_ushr (i_ushr (i_ushr (i_ushr (i_ushr (i_and (i_xor a0_ (-1)) (i_sub a0_ 1)) 16) 8) 4) 2) 1)) rfl rfl ?_ -- pc_ 77
            have bx50_ := i_ushw (x_ := (i_ushr (i_ushr (i_ushr (i_ushr (i_and (i_xor a0_ (-1)) (i_sub a0_ 1)) 16) 8) 4) 2)) (e_ := 1) (k_ := 1) (m_ := 2) (by decide) (by decide) (by omega) (by decide)
            refine sm_T_bin (w := (i_ushr (i_ushr (i_ushr (i_ushr (i_ushr (i_and (i_xor a0_ (-1)) (i_sub a0_ 1)) 16) 8) 4) 2) 1) + 31) rfl (bi_add (by omega) (by omega) (by omega)) ?_ -- pc_ 78
            refine sm_T_ri rfl ⟨_, _, rfl, rfl, _, rfl, ?_⟩
            refine ⟨by omega, fun _ => by omega⟩
  · have cx4_ : ¬ (0 < (i_and (i_xor a0_ (-1)) (i_sub a0_ 1))) := of_decide_eq_false cx4_
    refine sm_T_go 2 (c1 := (15, [some (.inl (i_and (i_xor a0_ (-1)) (i_sub a0_ 1))), none], [.inl 32, .inl (i_and (i_xor a0_ (-1)) (i_sub a0_ 1))], S0_)) rfl ?_
    refine sm_T_bin (w := (i_and (i_and (i_xor a0_ (-1)) (i_sub a0_ 1)) 32)) rfl rfl ?_ -- pc_ 15
    have bx51_ := i_and_y (i_and (i_xor a0_ (-1)) (i_sub a0_ 1)) (y_ := 32) (by decide)
    have zz9_ : (i_and (i_xor a0_ (-1)) (i_sub a0_ 1)) = 0 → i_and (i_and (i_xor a0_ (-1)) (i_sub a0_ 1)) 32 = 0 := fun q9_ => by (rw [q9_]; decide)
    refine sm_T_ri rfl ⟨_, _, rfl, rfl, _, rfl, ?_⟩
    refine ⟨by omega, fun q9_ => ?_⟩
    have w9_ : i_and (i_xor a0_ (-1)) (i_sub a0_ 1) = 0 := by (by_cases u9_ : i_and (i_xor a0_ (-1)) (i_sub a0_ 1) < 0; exact absurd (ny9_ u9_) q9_; omega)
    rw [zz9_ w9_]
    decide
end
/-! 99.zl5b -/
section
/-! java/lang/Long.numberOfTrailingZeros -/
def vw_9 : sx_Wl := ([], [], [])
def vq_9 (y0_ : Int) (S0_ : sm_S) (u_ : Option sm_V) (S1_ : sm_S) : Prop := S0_ = S1_ ∧ ∃ v_ : Int, u_ = some (.inl v_) ∧ ((0 ≤ v_ ∧ v_ ≤ 64) ∧ (y0_ ≠ 0 → v_ ≤ 63))
set_option maxHeartbeats 400000 in
theorem vc_9 {sc_ : Nat × (Nat → Int)} (y0_ : Int) (S0_ : sm_S) (hI_ : gi S0_) (h0_ : nl9 y0_) : sm_T (mt_P sc_) 1 9 (0, [some (.inr (.inl y0_)), none, none], [], S0_) (fun ro9_ => ∃ u_ S1_, ro9_ = (.inl u_, S1_, 0) ∧ vq_9 y0_ S0_ u_ S1_) := by
  have hF_ : ai_fr (sx_W vw_9) S0_ S0_ := ai_fr_rf
  have bx1_ := l_l2i_n y0_
  refine sm_T_go 4 (c1 := (4, [some (.inr (.inl y0_)), none, some (.inl (l_l2i y0_))], [.inl (l_l2i y0_)], S0_)) rfl ?_
  refine sm_T_b0 (a := 1) (z := 17) rfl (fun cx2_ => ?_) (fun cx2_ => ?_)
  · have cx2_ : (l_l2i y0_) ≠ 0 := of_decide_eq_true cx2_
    refine sm_T_go 1 (c1 := (22, [some (.inr (.inl y0_)), none, some (.inl (l_l2i y0_))], [.inl (l_l2i y0_)], S0_)) rfl ?_
    refine sm_T_cal (d1 := 0) (Q1 := vq_10 (l_l2i y0_) S0_) rfl rfl (by decide) (vc_10 (l_l2i y0_) S0_ hI_ (by omega)) (fun u_ Sx3_ px6_ => ?_)
    obtain ⟨rfl, vx8_, rfl, px6_⟩ := px6_
    have p9_ := px6_
    refine sm_T_ri rfl ⟨_, _, rfl, rfl, _, rfl, ?_⟩
    first | (refine ⟨by omega, fun q9_ => ?_⟩; have w9_ := p9_.2 (fun u9_ => q9_ (lz9_ u9_)); omega) | (exact ⟨by omega, fun _ => by omega⟩)
  · have cx2_ : ¬ ((l_l2i y0_) ≠ 0) := of_decide_eq_false cx2_
    have lz9_ := fun q9_ => l64z h0_ (by omega) q9_
    have bx9_ := l_l2i_n ((l_s2 y0_ 32))
    refine sm_T_go 5 (c1 := (14, [some (.inr (.inl y0_)), none, some (.inl (l_l2i y0_))], [.inl (l_l2i ((l_s2 y0_ 32))), .inl 32], S0_)) rfl ?_
    refine sm_T_cal (d1 := 0) (Q1 := vq_10 (l_l2i ((l_s2 y0_ 32))) S0_) rfl rfl (by decide) (vc_10 (l_l2i ((l_s2 y0_ 32))) S0_ hI_ (by omega)) (fun u_ Sx10_ px13_ => ?_)
    obtain ⟨rfl, vx15_, rfl, px13_⟩ := px13_
    have p9_ := px13_
    refine sm_T_bin (w := vx15_ + 32) rfl (bi_add (by omega) (by omega) (by omega)) ?_ -- pc_ 17
    refine sm_T_go 1 (c1 := (25, [some (.inr (.inl y0_)), none, some (.inl (l_l2i y0_))], [.inl (vx15_ + 32)], S0_)) rfl ?_
    refine sm_T_ri rfl ⟨_, _, rfl, rfl, _, rfl, ?_⟩
    first | (refine ⟨by omega, fun q9_ => ?_⟩; have w9_ := p9_.2 (fun u9_ => q9_ (lz9_ u9_)); omega) | (exact ⟨by omega, fun _ => by omega⟩)
end
/-! 99.zl6a -/
section
/-! tests: gates worked out; written by wip/p55/gen/vg -/

/-! tests -/
def shn (S_ : sm_S) : Prop := ∀ k_, nl9 (S_.2.2.2 95 0 k_)
theorem shn_fr {w_ : sx_Wl} {S_ S'_ : sm_S} (h_ : shn S_) (g_ : ai_fr (sx_W w_) S_ S'_) (a_ : (sx_W w_).2.1 95 = false := by rfl) : shn S'_ := fun k_ => by
  rw [(g_.2.2 95 a_ 0 k_).2]
  exact h_ k_
theorem nl9_0 : nl9 0 := by unfold nl9; decide
theorem nl9_4 (x_ y_ : Int) : nl9 (l_4 x_ y_) := nl9_i _
end
/-! 99.zl6b -/
section
/-! Chip.faultCount -/
def vw_62 : sx_Wl := ([], [], [])
def vq_62 (ii_ : Nat) (S0_ : sm_S) (u_ : Option sm_V) (S1_ : sm_S) : Prop := S0_ = S1_ ∧ ∃ v_ : Int, u_ = some (.inl v_) ∧ (0 ≤ v_ ∧ v_ ≤ 1224)
set_option maxHeartbeats 400000 in
theorem vl_62 {sc_ : Nat × (Nat → Int)} (ii_ : Nat) (S0_ : sm_S) (hs_ : S0_.1 2 ii_ 1 + S0_.1 2 ii_ 2 ≤ 12) : ∀ nn_ : Nat, (∀ (pn_ : Int) (g_ : Int) (S_ : sm_S), gi S_ → ai_fr (sx_W vw_62) S0_ S_ → ((0 ≤ g_ ∧ g_ ≤ 150 ∧ 0 ≤ pn_ ∧ pn_ ≤ 3 * g_) ∧ (S_ = S0_) ∧ True) → ((1000 - g_).toNat) < nn_ → sm_T (mt_P sc_) 1 62 (4, [some (.inr (.inr (some (2, ii_)))), some (.inl pn_), some (.inl g_)], [], S_) (fun ro9_ => ∃ u_ S1_, ro9_ = (.inl u_, S1_, 0) ∧ vq_62 ii_ S0_ u_ S1_)) := by
  intro nn_
  induction nn_ with
  | zero => exact fun _ _ _ _ _ _ h_ => absurd h_ (Nat.not_lt_zero _)
  | succ nn_ ih_ =>
    rintro pn_ g_ S_ hI_ hF_ ⟨h0_, hS_, -⟩ hm_
    have hz9_ : S_.1 2 ii_ 1 + S_.1 2 ii_ 2 ≤ 12 := by (rw [hS_]; exact hs_)
    have bx1_ : 0 ≤ S_.1 2 ii_ 8 ∧ S_.1 2 ii_ 8 ≤ 150 := hI_.1 2 ii_ 8 rfl
    refine sm_T_go 3 (c1 := (9, [some (.inr (.inr (some (2, ii_)))), some (.inl pn_), some (.inl g_)], [.inl (S_.1 2 ii_ 8), .inl g_], S_)) rfl ?_
    refine sm_T_br (a := 3) (z := 17) rfl (fun cx2_ => ?_) (fun cx2_ => ?_)
    · have cx2_ : (S_.1 2 ii_ 8) ≤ g_ := of_decide_eq_true cx2_
      refine sm_T_go 2 (c1 := (28, [some (.inr (.inr (some (2, ii_)))), some (.inl pn_), some (.inl g_)], [.inr (.inr (some (2, ii_))), .inl 2], S_)) rfl ?_
      refine sm_T_cal (d1 := 0) (Q1 := vq_55 ii_ S_) rfl rfl (by decide) (vc_55 ii_ S_ hI_ ) (fun u_ Sx3_ px6_ => ?_)
      obtain ⟨rfl, vx8_, rfl, px6_⟩ := px6_
      refine sm_T_bin (w := 2 * vx8_) rfl (bi_mul (by omega) (by omega) (by omega)) ?_ -- pc_ 31
      refine sm_T_go 2 (c1 := (34, [some (.inr (.inr (some (2, ii_)))), some (.inl pn_), some (.inl g_)], [.inl pn_, .inl 2, .inl (2 * vx8_)], S_)) rfl ?_
      refine sm_T_bin (w := 2 * pn_) rfl (bi_mul (by omega) (by omega) (by omega)) ?_ -- pc_ 34
      refine sm_T_bin (w := 2 * vx8_ + 2 * pn_) rfl (bi_add (by omega) (by omega) (by omega)) ?_ -- pc_ 35
      refine sm_T_ri rfl ⟨_, _, rfl, (by first | rfl | exact hS_.symm), _, rfl, ?_⟩
      omega
    · have cx2_ : ¬ ((S_.1 2 ii_ 8) ≤ g_) := of_decide_eq_false cx2_
      refine sm_T_go 3 (c1 := (15, [some (.inr (.inr (some (2, ii_)))), some (.inl pn_), some (.inl g_)], [.inl g_, .inr (.inr (some (2, ii_))), .inl pn_], S_)) rfl ?_
      refine sm_T_cal (d1 := 0) (Q1 := vq_59 g_ ii_ S_) rfl rfl (by decide) (vc_59 g_ ii_ S_ hI_ (by omega)) (fun u_ Sx9_ px12_ => ?_)
      obtain ⟨rfl, vx14_, rfl, px12_⟩ := px12_
      refine sm_T_bin (w := pn_ + vx14_) rfl (bi_add (by omega) (by omega) (by omega)) ?_ -- pc_ 18
      refine sm_T_go 1 (c1 := (20, [some (.inr (.inr (some (2, ii_)))), some (.inl (pn_ + vx14_)), some (.inl g_)], [], S_)) rfl ?_
      refine sm_T_inc (a := 2) (z := 1) (v := g_) (w := g_ + 1) rfl rfl (by omega) (by omega) (by omega) ?_ -- pc_ 20
      refine sm_T_go 1 (c1 := (4, [some (.inr (.inr (some (2, ii_)))), some (.inl (pn_ + vx14_)), some (.inl (g_ + 1))], [], S_)) rfl ?_
      refine ih_ (pn_ + vx14_) (g_ + 1) S_ hI_ hF_ ⟨?_, ?_, trivial⟩ ?_
      · omega
      · first | rfl | exact hS_
      · omega
set_option maxHeartbeats 400000 in
theorem vc_62 {sc_ : Nat × (Nat → Int)} (ii_ : Nat) (S0_ : sm_S) (hI_ : gi S0_) (hs_ : S0_.1 2 ii_ 1 + S0_.1 2 ii_ 2 ≤ 12) : sm_T (mt_P sc_) 1 62 (0, [some (.inr (.inr (some (2, ii_)))), none, none], [], S0_) (fun ro9_ => ∃ u_ S1_, ro9_ = (.inl u_, S1_, 0) ∧ vq_62 ii_ S0_ u_ S1_) := by
  have hF_ : ai_fr (sx_W vw_62) S0_ S0_ := ai_fr_rf
  refine sm_T_go 4 (c1 := (4, [some (.inr (.inr (some (2, ii_)))), some (.inl 0), some (.inl 0)], [], S0_)) rfl ?_
  refine (vl_62 ii_ S0_ hs_ _) 0 0 S0_ hI_ hF_ ⟨?_, ?_, trivial⟩ (Nat.lt_succ_self _)
  · omega
  · first | rfl | exact hS_
end
/-! 99.zl6c -/
section
/-! Chip.gateArea -/
def vw_60 : sx_Wl := ([], [], [])
def vq_60 (ii_ : Nat) (S0_ : sm_S) (u_ : Option sm_V) (S1_ : sm_S) : Prop := S0_ = S1_ ∧ ∃ v_ : Int, u_ = some (.inl v_) ∧ (((-2147483648) ≤ v_ ∧ v_ ≤ 2147483647))
set_option maxHeartbeats 400000 in
theorem vl_60 {sc_ : Nat × (Nat → Int)} (ii_ : Nat) (S0_ : sm_S)  : ∀ nn_ : Nat, (∀ (x1_ : Int) (x2_ : Int) (S_ : sm_S), gi S_ → ai_fr (sx_W vw_60) S0_ S_ → (((-2147483648) ≤ x1_ ∧ x1_ ≤ 2147483647 ∧ 0 ≤ x2_ ∧ x2_ ≤ 150) ∧ (S_ = S0_) ∧ True) → ((4379 * 24 + 29 * (-x2_ + 150) + 24 : Int).toNat) < nn_ → sm_T (mt_P sc_) 0 60 (4, [some (.inr (.inr (some (2, ii_)))), some (.inl x1_), some (.inl x2_)], [], S_) (fun ro9_ => ∃ u_ S1_, ro9_ = (.inl u_, S1_, 0) ∧ vq_60 ii_ S0_ u_ S1_)) := by
  intro nn_
  induction nn_ with
  | zero => exact fun _ _ _ _ _ _ h_ => absurd h_ (Nat.not_lt_zero _)
  | succ nn_ ih_ =>
    rintro x1_ x2_ S_ hI_ hF_ ⟨b0_, hS_, -⟩ hm_
    have bx1_ : 0 ≤ S_.1 2 ii_ 8 ∧ S_.1 2 ii_ 8 ≤ 150 := hI_.1 2 ii_ 8 rfl
    refine sm_T_go 3 (c1 := (9, [some (.inr (.inr (some (2, ii_)))), some (.inl x1_), some (.inl x2_)], [.inl (S_.1 2 ii_ 8), .inl x2_], S_)) rfl ?_
    refine sm_T_br (a := 3) (z := 26) rfl (fun cx2_ => ?_) (fun cx2_ => ?_)
    · have cx2_ : (S_.1 2 ii_ 8) ≤ x2_ := of_decide_eq_true cx2_
      refine sm_T_go 1 (c1 := (36, [some (.inr (.inr (some (2, ii_)))), some (.inl x1_), some (.inl x2_)], [.inl x1_], S_)) rfl ?_
      refine sm_T_ri rfl ⟨_, _, rfl, (by first | rfl | exact hS_.symm), _, rfl, ?_⟩
      refine ⟨by omega, by omega⟩
    · have cx2_ : ¬ ((S_.1 2 ii_ 8) ≤ x2_) := of_decide_eq_false cx2_
      refine sm_T_go 7 (c1 := (25, [some (.inr (.inr (some (2, ii_)))), some (.inl x1_), some (.inl x2_)], [.inl x2_, .inr (.inr (some (35, (0 + ii_)))), .inr (.inr (some (57, (0 + (3 + ii_))))), .inl x1_], S_)) rfl ?_
      refine sm_T_iald (n := 150) rfl rfl (by omega) (by omega) ?_
      have bx3_ : 0 ≤ S_.2.2.1 35 (0 + ii_) x2_.toNat ∧ S_.2.2.1 35 (0 + ii_) x2_.toNat ≤ 11 := hI_.2 35 (0 + ii_) _
      refine sm_T_iald (n := 12) rfl rfl (by omega) (by omega) ?_
      have bx4_ : 0 ≤ S_.2.2.1 57 (0 + (3 + ii_)) (S_.2.2.1 35 (0 + ii_) x2_.toNat).toNat ∧ S_.2.2.1 57 (0 + (3 + ii_)) (S_.2.2.1 35 (0 + ii_) x2_.toNat).toNat ≤ 1000 := hI_.2 57 (0 + (3 + ii_)) _
      refine sm_T_bin (w := (i_add x1_ (S_.2.2.1 57 (0 + (3 + ii_)) (S_.2.2.1 35 (0 + ii_) x2_.toNat).toNat))) rfl rfl ?_ -- pc_ 27
      have bx5_ := i_add_r x1_ (S_.2.2.1 57 (0 + (3 + ii_)) (S_.2.2.1 35 (0 + ii_) x2_.toNat).toNat)
      refine sm_T_go 1 (c1 := (29, [some (.inr (.inr (some (2, ii_)))), some (.inl (i_add x1_ (S_.2.2.1 57 (0 + (3 + ii_)) (S_.2.2.1 35 (0 + ii_) x2_.toNat).toNat))), some (.inl x2_)], [], S_)) rfl ?_
      refine sm_T_inc (a := 2) (z := 1) (v := x2_) (w := x2_ + 1) rfl rfl (by omega) (by omega) (by omega) ?_ -- pc_ 29
      refine sm_T_go 1 (c1 := (4, [some (.inr (.inr (some (2, ii_)))), some (.inl (i_add x1_ (S_.2.2.1 57 (0 + (3 + ii_)) (S_.2.2.1 35 (0 + ii_) x2_.toNat).toNat))), some (.inl (x2_ + 1))], [], S_)) rfl ?_
      refine ih_ (i_add x1_ (S_.2.2.1 57 (0 + (3 + ii_)) (S_.2.2.1 35 (0 + ii_) x2_.toNat).toNat)) (x2_ + 1) S_ hI_ hF_ ⟨?_, ?_, trivial⟩ ?_
      · omega
      · first | rfl | exact hS_
      · omega
set_option maxHeartbeats 400000 in
theorem vc_60 {sc_ : Nat × (Nat → Int)} (ii_ : Nat) (S0_ : sm_S) (hI_ : gi S0_)  : sm_T (mt_P sc_) 0 60 (0, [some (.inr (.inr (some (2, ii_)))), none, none], [], S0_) (fun ro9_ => ∃ u_ S1_, ro9_ = (.inl u_, S1_, 0) ∧ vq_60 ii_ S0_ u_ S1_) := by
  have hF_ : ai_fr (sx_W vw_60) S0_ S0_ := ai_fr_rf
  refine sm_T_go 4 (c1 := (4, [some (.inr (.inr (some (2, ii_)))), some (.inl 0), some (.inl 0)], [], S0_)) rfl ?_
  refine (vl_60 ii_ S0_ _) 0 0 S0_ hI_ hF_ ⟨?_, ?_, trivial⟩ (Nat.lt_succ_self _)
  · omega
  · first | rfl | exact hS_
end
/-! 99.zl6e -/
section
/-! Tester.oneInput -/
def vw_170 : sx_Wl := ([], [], [])
def vq_170 (a0_ : Int) (y1_ : Int) (S0_ : sm_S) (u_ : Option sm_V) (S1_ : sm_S) : Prop := S0_ = S1_ ∧ ∃ v_ : Int, u_ = some (.inr (.inl v_)) ∧ (True)
set_option maxHeartbeats 400000 in
theorem vc_170 {sc_ : Nat × (Nat → Int)} (a0_ : Int) (y1_ : Int) (S0_ : sm_S) (hI_ : gi S0_) (h0_ : -2147483648 ≤ a0_ ∧ a0_ ≤ 2147483647) : sm_T (mt_P sc_) 0 170 (0, [some (.inl a0_), some (.inr (.inl y1_)), none], [], S0_) (fun ro9_ => ∃ u_ S1_, ro9_ = (.inl u_, S1_, 0) ∧ vq_170 a0_ y1_ S0_ u_ S1_) := by
  have hF_ : ai_fr (sx_W vw_170) S0_ S0_ := ai_fr_rf
  refine sm_T_go 2 (c1 := (2, [some (.inl a0_), some (.inr (.inl y1_)), none], [.inl 1, .inl a0_], S0_)) rfl ?_
  refine sm_T_bin (w := (a0_ % 2)) rfl (bi_msk (k := 1) (by decide)) ?_ -- pc_ 2
  refine sm_T_b0 (a := 1) (z := 7) rfl (fun cx1_ => ?_) (fun cx1_ => ?_)
  · have cx1_ : (a0_ % 2) ≠ 0 := of_decide_eq_true cx1_
    refine sm_T_go 1 (c1 := (11, [some (.inl a0_), some (.inr (.inl y1_)), none], [.inr (.inl y1_)], S0_)) rfl ?_
    refine sm_T_nt (u := some (.inr (.inl (-1)))) (S1 := S0_) rfl rfl rfl ?_
    refine sm_T_go 3 (c1 := (17, [some (.inl a0_), some (.inr (.inl y1_)), none], [.inl 2, .inl a0_, .inr (.inl (l_5 y1_ (-1)))], S0_)) rfl ?_
    refine sm_T_bin (w := (i_and a0_ 2)) rfl rfl ?_ -- pc_ 17
    first | have bx2_ := i_and_p (x_ := a0_) (y_ := 2) (by omega) (by omega) | have bx2_ := i_and_y a0_ (y_ := 2) (by omega) | have bx2_ := i_and_x (x_ := a0_) 2 (by omega) | have bx2_ := i_and_n a0_ 2
    refine sm_T_b0 (a := 1) (z := 7) rfl (fun cx3_ => ?_) (fun cx3_ => ?_)
    · have cx3_ : (i_and a0_ 2) ≠ 0 := of_decide_eq_true cx3_
      refine sm_T_go 2 (c1 := (27, [some (.inl a0_), some (.inr (.inl y1_)), none], [.inr (.inl (l_4 ((l_5 y1_ (-1))) y1_))], S0_)) rfl ?_
      refine sm_T_rl rfl ⟨_, _, rfl, rfl, _, rfl, ?_⟩
      trivial
    · have cx3_ : ¬ ((i_and a0_ 2) ≠ 0) := of_decide_eq_false cx3_
      refine sm_T_go 3 (c1 := (27, [some (.inl a0_), some (.inr (.inl y1_)), none], [.inr (.inl (l_4 ((l_5 y1_ (-1))) 0))], S0_)) rfl ?_
      refine sm_T_rl rfl ⟨_, _, rfl, rfl, _, rfl, ?_⟩
      trivial
  · have cx1_ : ¬ ((a0_ % 2) ≠ 0) := of_decide_eq_false cx1_
    refine sm_T_go 4 (c1 := (17, [some (.inl a0_), some (.inr (.inl y1_)), none], [.inl 2, .inl a0_, .inr (.inl 0)], S0_)) rfl ?_
    refine sm_T_bin (w := (i_and a0_ 2)) rfl rfl ?_ -- pc_ 17
    first | have bx4_ := i_and_p (x_ := a0_) (y_ := 2) (by omega) (by omega) | have bx4_ := i_and_y a0_ (y_ := 2) (by omega) | have bx4_ := i_and_x (x_ := a0_) 2 (by omega) | have bx4_ := i_and_n a0_ 2
    refine sm_T_b0 (a := 1) (z := 7) rfl (fun cx5_ => ?_) (fun cx5_ => ?_)
    · have cx5_ : (i_and a0_ 2) ≠ 0 := of_decide_eq_true cx5_
      refine sm_T_go 2 (c1 := (27, [some (.inl a0_), some (.inr (.inl y1_)), none], [.inr (.inl (l_4 0 y1_))], S0_)) rfl ?_
      refine sm_T_rl rfl ⟨_, _, rfl, rfl, _, rfl, ?_⟩
      trivial
    · have cx5_ : ¬ ((i_and a0_ 2) ≠ 0) := of_decide_eq_false cx5_
      refine sm_T_go 3 (c1 := (27, [some (.inl a0_), some (.inr (.inl y1_)), none], [.inr (.inl (l_4 0 0))], S0_)) rfl ?_
      refine sm_T_rl rfl ⟨_, _, rfl, rfl, _, rfl, ?_⟩
      trivial
end
/-! 99.zl6f -/
section
/-! Tester.twoInputs -/
def vw_171 : sx_Wl := ([], [], [])
def vq_171 (a0_ : Int) (y1_ : Int) (y3_ : Int) (S0_ : sm_S) (u_ : Option sm_V) (S1_ : sm_S) : Prop := S0_ = S1_ ∧ ∃ v_ : Int, u_ = some (.inr (.inl v_)) ∧ (True)
set_option maxHeartbeats 400000 in
theorem vc_171 {sc_ : Nat × (Nat → Int)} (a0_ : Int) (y1_ : Int) (y3_ : Int) (S0_ : sm_S) (hI_ : gi S0_) (h0_ : 0 ≤ a0_ ∧ a0_ ≤ 255) : sm_T (mt_P sc_) 1 171 (0, [some (.inl a0_), some (.inr (.inl y1_)), none, some (.inr (.inl y3_)), none], [], S0_) (fun ro9_ => ∃ u_ S1_, ro9_ = (.inl u_, S1_, 0) ∧ vq_171 a0_ y1_ y3_ S0_ u_ S1_) := by
  have hF_ : ai_fr (sx_W vw_171) S0_ S0_ := ai_fr_rf
  refine sm_T_go 1 (c1 := (1, [some (.inl a0_), some (.inr (.inl y1_)), none, some (.inr (.inl y3_)), none], [.inr (.inl y3_)], S0_)) rfl ?_
  refine sm_T_nt (u := some (.inr (.inl (-1)))) (S1 := S0_) rfl rfl rfl ?_
  refine sm_T_go 3 (c1 := (7, [some (.inl a0_), some (.inr (.inl y1_)), none, some (.inr (.inl y3_)), none], [.inr (.inl y1_), .inl a0_, .inr (.inl (l_5 y3_ (-1)))], S0_)) rfl ?_
  refine sm_T_cal (d1 := 0) (Q1 := vq_170 a0_ y1_ S0_) rfl rfl (by decide) (vc_170 a0_ y1_ S0_ hI_ (by omega)) (fun u_ Sx1_ px4_ => ?_)
  obtain ⟨rfl, vx6_, rfl, px4_⟩ := px4_
  refine sm_T_go 4 (c1 := (14, [some (.inl a0_), some (.inr (.inl y1_)), none, some (.inr (.inl y3_)), none], [.inl 2, .inl a0_, .inr (.inl y3_), .inr (.inl (l_3 ((l_5 y3_ (-1))) vx6_))], S0_)) rfl ?_
  refine sm_T_bin (w := (a0_ / 4)) rfl (bi_shr (k := 2) (by decide) (by omega) (by omega)) ?_ -- pc_ 14
  refine sm_T_go 1 (c1 := (16, [some (.inl a0_), some (.inr (.inl y1_)), none, some (.inr (.inl y3_)), none], [.inr (.inl y1_), .inl (a0_ / 4), .inr (.inl y3_), .inr (.inl (l_3 ((l_5 y3_ (-1))) vx6_))], S0_)) rfl ?_
  refine sm_T_cal (d1 := 0) (Q1 := vq_170 (a0_ / 4) y1_ S0_) rfl rfl (by decide) (vc_170 (a0_ / 4) y1_ S0_ hI_ (by omega)) (fun u_ Sx7_ px10_ => ?_)
  obtain ⟨rfl, vx12_, rfl, px10_⟩ := px10_
  refine sm_T_go 2 (c1 := (21, [some (.inl a0_), some (.inr (.inl y1_)), none, some (.inr (.inl y3_)), none], [.inr (.inl (l_4 ((l_3 ((l_5 y3_ (-1))) vx6_)) ((l_3 y3_ vx12_))))], S0_)) rfl ?_
  refine sm_T_rl rfl ⟨_, _, rfl, rfl, _, rfl, ?_⟩
  trivial
end
/-! 99.zl6g -/
section
/-! Tester.inputWord -/
def vw_172 : sx_Wl := ([], [], [])
def vq_172 (a1_ : Int) (a2_ : Int) (a3_ : Int) (cc_ : Nat) (S0_ : sm_S) (u_ : Option sm_V) (S1_ : sm_S) : Prop := S0_ = S1_ ∧ ∃ v_ : Int, u_ = some (.inr (.inl v_)) ∧ (True)
set_option maxHeartbeats 400000 in
theorem vc_172 {sc_ : Nat × (Nat → Int)} (a1_ : Int) (a2_ : Int) (a3_ : Int) (cc_ : Nat) (S0_ : sm_S) (hI_ : gi S0_) (hb_ : S0_.2.1 9 0 0 = some cc_) (h1_ : 0 ≤ a1_ ∧ a1_ ≤ 149) (h2_ : 0 ≤ a2_ ∧ a2_ ≤ 2) (h3_ : 0 ≤ a3_ ∧ a3_ ≤ 63) : sm_T (mt_P sc_) 0 172 (0, [some (.inr (.inr (some (9, 0)))), some (.inl a1_), some (.inl a2_), some (.inl a3_), none], [], S0_) (fun ro9_ => ∃ u_ S1_, ro9_ = (.inl u_, S1_, 0) ∧ vq_172 a1_ a2_ a3_ cc_ S0_ u_ S1_) := by
  have hF_ : ai_fr (sx_W vw_172) S0_ S0_ := ai_fr_rf
  refine sm_T_go 1 (c1 := (1, [some (.inr (.inr (some (9, 0)))), some (.inl a1_), some (.inl a2_), some (.inl a3_), none], [.inr (.inr (some (9, 0)))], S0_)) rfl ?_
  refine sm_T_gr rfl rfl ((hF_.2.1 9 0 0 rfl).trans hb_) ?_
  refine sm_T_go 3 (c1 := (9, [some (.inr (.inr (some (9, 0)))), some (.inl a1_), some (.inl a2_), some (.inl a3_), none], [.inl a1_, .inl 3, .inr (.inr (some (36, (0 + cc_))))], S0_)) rfl ?_
  refine sm_T_bin (w := 3 * a1_) rfl (bi_mul (by omega) (by omega) (by omega)) ?_ -- pc_ 9
  refine sm_T_go 1 (c1 := (11, [some (.inr (.inr (some (9, 0)))), some (.inl a1_), some (.inl a2_), some (.inl a3_), none], [.inl a2_, .inl (3 * a1_), .inr (.inr (some (36, (0 + cc_))))], S0_)) rfl ?_
  refine sm_T_bin (w := 3 * a1_ + a2_) rfl (bi_add (by omega) (by omega) (by omega)) ?_ -- pc_ 11
  refine sm_T_iald (n := 450) rfl rfl (by omega) (by omega) ?_
  have bx1_ : 0 ≤ S0_.2.2.1 36 (0 + cc_) (3 * a1_ + a2_).toNat ∧ S0_.2.2.1 36 (0 + cc_) (3 * a1_ + a2_).toNat ≤ 161 := hI_.2 36 (0 + cc_) _
  refine sm_T_go 4 (c1 := (21, [some (.inr (.inr (some (9, 0)))), some (.inl a1_), some (.inl a2_), some (.inl a3_), some (.inl (S0_.2.2.1 36 (0 + cc_) (3 * a1_ + a2_).toNat))], [.inl (S0_.2.2.1 36 (0 + cc_) (3 * a1_ + a2_).toNat), .inr (.inr (some (94, 0)))], S0_)) rfl ?_
  refine sm_T_iald (n := 162) rfl rfl (by omega) (by omega) ?_
  have bx2_ : 0 ≤ S0_.2.2.1 94 0 (S0_.2.2.1 36 (0 + cc_) (3 * a1_ + a2_).toNat).toNat ∧ S0_.2.2.1 94 0 (S0_.2.2.1 36 (0 + cc_) (3 * a1_ + a2_).toNat).toNat ≤ 1 := hI_.2 94 0 _
  refine sm_T_b0 (a := 0) (z := 18) rfl (fun cx3_ => ?_) (fun cx3_ => ?_)
  · have cx3_ : (S0_.2.2.1 94 0 (S0_.2.2.1 36 (0 + cc_) (3 * a1_ + a2_).toNat).toNat) = 0 := of_decide_eq_true cx3_
    refine sm_T_go 4 (c1 := (48, [some (.inr (.inr (some (9, 0)))), some (.inl a1_), some (.inl a2_), some (.inl a3_), some (.inl (S0_.2.2.1 36 (0 + cc_) (3 * a1_ + a2_).toNat))], [.inl 64, .inl (S0_.2.2.1 36 (0 + cc_) (3 * a1_ + a2_).toNat), .inr (.inr (some (92, 0)))], S0_)) rfl ?_
    refine sm_T_bin (w := 64 * (S0_.2.2.1 36 (0 + cc_) (3 * a1_ + a2_).toNat)) rfl (bi_mul (by omega) (by omega) (by omega)) ?_ -- pc_ 48
    refine sm_T_go 1 (c1 := (50, [some (.inr (.inr (some (9, 0)))), some (.inl a1_), some (.inl a2_), some (.inl a3_), some (.inl (S0_.2.2.1 36 (0 + cc_) (3 * a1_ + a2_).toNat))], [.inl a3_, .inl (64 * (S0_.2.2.1 36 (0 + cc_) (3 * a1_ + a2_).toNat)), .inr (.inr (some (92, 0)))], S0_)) rfl ?_
    refine sm_T_bin (w := 64 * (S0_.2.2.1 36 (0 + cc_) (3 * a1_ + a2_).toNat) + a3_) rfl (bi_add (by omega) (by omega) (by omega)) ?_ -- pc_ 50
    refine sm_T_lald (n := 10368) rfl rfl (by omega) (by omega) ?_
    refine sm_T_rl rfl ⟨_, _, rfl, rfl, _, rfl, ?_⟩
    trivial
  · have cx3_ : ¬ ((S0_.2.2.1 94 0 (S0_.2.2.1 36 (0 + cc_) (3 * a1_ + a2_).toNat).toNat) = 0) := of_decide_eq_false cx3_
    refine sm_T_go 4 (c1 := (33, [some (.inr (.inr (some (9, 0)))), some (.inl a1_), some (.inl a2_), some (.inl a3_), some (.inl (S0_.2.2.1 36 (0 + cc_) (3 * a1_ + a2_).toNat))], [.inl 64, .inl (S0_.2.2.1 36 (0 + cc_) (3 * a1_ + a2_).toNat), .inr (.inr (some (93, 0)))], S0_)) rfl ?_
    refine sm_T_bin (w := 64 * (S0_.2.2.1 36 (0 + cc_) (3 * a1_ + a2_).toNat)) rfl (bi_mul (by omega) (by omega) (by omega)) ?_ -- pc_ 33
    refine sm_T_go 1 (c1 := (35, [some (.inr (.inr (some (9, 0)))), some (.inl a1_), some (.inl a2_), some (.inl a3_), some (.inl (S0_.2.2.1 36 (0 + cc_) (3 * a1_ + a2_).toNat))], [.inl a3_, .inl (64 * (S0_.2.2.1 36 (0 + cc_) (3 * a1_ + a2_).toNat)), .inr (.inr (some (93, 0)))], S0_)) rfl ?_
    refine sm_T_bin (w := 64 * (S0_.2.2.1 36 (0 + cc_) (3 * a1_ + a2_).toNat) + a3_) rfl (bi_add (by omega) (by omega) (by omega)) ?_ -- pc_ 35
    refine sm_T_lald (n := 10368) rfl rfl (by omega) (by omega) ?_
    refine sm_T_go 1 (c1 := (52, [some (.inr (.inr (some (9, 0)))), some (.inl a1_), some (.inl a2_), some (.inl a3_), some (.inl (S0_.2.2.1 36 (0 + cc_) (3 * a1_ + a2_).toNat))], [.inr (.inl (S0_.2.2.2 93 0 (64 * (S0_.2.2.1 36 (0 + cc_) (3 * a1_ + a2_).toNat) + a3_).toNat))], S0_)) rfl ?_
    refine sm_T_rl rfl ⟨_, _, rfl, rfl, _, rfl, ?_⟩
    trivial
end
/-! 99.zl6h -/
section
/-! Tester.workGate -/
def vw_173 : sx_Wl := ([], [93], [])
def vq_173 (a1_ : Int) (a2_ : Int) (y3_ : Int) (cc_ : Nat) (S0_ : sm_S) (u_ : Option sm_V) (S1_ : sm_S) : Prop := ∃ v_ : Int, u_ = some (.inl v_) ∧ gi S1_ ∧ ai_fr (sx_W vw_173) S0_ S1_ ∧ (0 ≤ v_ ∧ v_ ≤ 1)
set_option maxHeartbeats 400000 in
set_option maxRecDepth 20000 in
theorem vl_173 {sc_ : Nat × (Nat → Int)} (a1_ : Int) (a2_ : Int) (y3_ : Int) (cc_ : Nat) (S0_ : sm_S) (hb_ : S0_.2.1 9 0 0 = some cc_) (hs_ : S0_.1 2 cc_ 1 + S0_.1 2 cc_ 2 ≤ 12) (h1_ : 0 ≤ a1_ ∧ a1_ ≤ 149) : ∀ nn_ : Nat, (∀ (y3_ : Int) (is_ : Int) (tb_ : Int) (to_ : Int) (df_ : Int) (w_ : Int) (S_ : sm_S), gi S_ → ai_fr (sx_W vw_173) S0_ S_ → ((0 ≤ is_ ∧ is_ ≤ 3 ∧ 0 ≤ tb_ ∧ tb_ ≤ 255 ∧ 0 ≤ to_ ∧ to_ ≤ 10304 ∧ 0 ≤ w_ ∧ w_ ≤ 64) ∧ True) → ((100 * (100 - w_) + 50).toNat) < nn_ → sm_T (mt_P sc_) 2 173 (52, [some (.inr (.inr (some (9, 0)))), some (.inl a1_), some (.inl a2_), some (.inr (.inl y3_)), none, some (.inl is_), some (.inl tb_), some (.inl to_), some (.inr (.inl df_)), none, some (.inl w_), none, none, none, none, none, none, none, none], [], S_) (fun ro9_ => ∃ u_ S1_, ro9_ = (.inl u_, S1_, 0) ∧ vq_173 a1_ a2_ y3_ cc_ S0_ u_ S1_)) ∧ (∀ (y3_ : Int) (is_ : Int) (tb_ : Int) (to_ : Int) (df_ : Int) (w_ : Int) (u1_ : Int) (S_ : sm_S), gi S_ → ai_fr (sx_W vw_173) S0_ S_ → ((0 ≤ is_ ∧ is_ ≤ 3 ∧ 0 ≤ tb_ ∧ tb_ ≤ 255 ∧ 0 ≤ to_ ∧ to_ ≤ 10304 ∧ 0 ≤ w_ ∧ w_ < 64) ∧ True) → ((100 * (100 - w_) + 40).toNat) < nn_ → sm_T (mt_P sc_) 2 173 (79, [some (.inr (.inr (some (9, 0)))), some (.inl a1_), some (.inl a2_), some (.inr (.inl y3_)), none, some (.inl is_), some (.inl tb_), some (.inl to_), some (.inr (.inl df_)), none, some (.inl w_), some (.inr (.inl u1_)), none, none, none, none, none, none, none], [], S_) (fun ro9_ => ∃ u_ S1_, ro9_ = (.inl u_, S1_, 0) ∧ vq_173 a1_ a2_ y3_ cc_ S0_ u_ S1_)) ∧ (∀ (y3_ : Int) (is_ : Int) (tb_ : Int) (to_ : Int) (df_ : Int) (w_ : Int) (u1_ : Int) (u2_ : Int) (S_ : sm_S), gi S_ → ai_fr (sx_W vw_173) S0_ S_ → ((0 ≤ is_ ∧ is_ ≤ 3 ∧ 0 ≤ tb_ ∧ tb_ ≤ 255 ∧ 0 ≤ to_ ∧ to_ ≤ 10304 ∧ 0 ≤ w_ ∧ w_ < 64) ∧ True) → ((100 * (100 - w_) + 30).toNat) < nn_ → sm_T (mt_P sc_) 2 173 (108, [some (.inr (.inr (some (9, 0)))), some (.inl a1_), some (.inl a2_), some (.inr (.inl y3_)), none, some (.inl is_), some (.inl tb_), some (.inl to_), some (.inr (.inl df_)), none, some (.inl w_), some (.inr (.inl u1_)), none, some (.inr (.inl u2_)), none, none, none, none, none], [], S_) (fun ro9_ => ∃ u_ S1_, ro9_ = (.inl u_, S1_, 0) ∧ vq_173 a1_ a2_ y3_ cc_ S0_ u_ S1_)) ∧ (∀ (y3_ : Int) (is_ : Int) (tb_ : Int) (to_ : Int) (df_ : Int) (w_ : Int) (u1_ : Int) (u2_ : Int) (u3_ : Int) (S_ : sm_S), gi S_ → ai_fr (sx_W vw_173) S0_ S_ → ((0 ≤ is_ ∧ is_ ≤ 3 ∧ 0 ≤ tb_ ∧ tb_ ≤ 255 ∧ 0 ≤ to_ ∧ to_ ≤ 10304 ∧ 0 ≤ w_ ∧ w_ < 64) ∧ True) → ((100 * (100 - w_) + 20).toNat) < nn_ → sm_T (mt_P sc_) 2 173 (137, [some (.inr (.inr (some (9, 0)))), some (.inl a1_), some (.inl a2_), some (.inr (.inl y3_)), none, some (.inl is_), some (.inl tb_), some (.inl to_), some (.inr (.inl df_)), none, some (.inl w_), some (.inr (.inl u1_)), none, some (.inr (.inl u2_)), none, some (.inr (.inl u3_)), none, none, none], [], S_) (fun ro9_ => ∃ u_ S1_, ro9_ = (.inl u_, S1_, 0) ∧ vq_173 a1_ a2_ y3_ cc_ S0_ u_ S1_)) ∧ (∀ (y3_ : Int) (is_ : Int) (tb_ : Int) (to_ : Int) (df_ : Int) (w_ : Int) (u1_ : Int) (u2_ : Int) (u3_ : Int) (u4_ : Int) (S_ : sm_S), gi S_ → ai_fr (sx_W vw_173) S0_ S_ → ((0 ≤ is_ ∧ is_ ≤ 3 ∧ 0 ≤ tb_ ∧ tb_ ≤ 255 ∧ 0 ≤ to_ ∧ to_ ≤ 10304 ∧ 0 ≤ w_ ∧ w_ < 64) ∧ True) → ((100 * (100 - w_) + 10).toNat) < nn_ → sm_T (mt_P sc_) 2 173 (180, [some (.inr (.inr (some (9, 0)))), some (.inl a1_), some (.inl a2_), some (.inr (.inl y3_)), none, some (.inl is_), some (.inl tb_), some (.inl to_), some (.inr (.inl df_)), none, some (.inl w_), some (.inr (.inl u1_)), none, some (.inr (.inl u2_)), none, some (.inr (.inl u3_)), none, some (.inr (.inl u4_)), none], [], S_) (fun ro9_ => ∃ u_ S1_, ro9_ = (.inl u_, S1_, 0) ∧ vq_173 a1_ a2_ y3_ cc_ S0_ u_ S1_)) := by
  intro nn_
  induction nn_ with
  | zero => exact ⟨fun _ _ _ _ _ _ _ _ _ _ h_ => absurd h_ (Nat.not_lt_zero _), fun _ _ _ _ _ _ _ _ _ _ _ h_ => absurd h_ (Nat.not_lt_zero _), fun _ _ _ _ _ _ _ _ _ _ _ _ h_ => absurd h_ (Nat.not_lt_zero _), fun _ _ _ _ _ _ _ _ _ _ _ _ _ h_ => absurd h_ (Nat.not_lt_zero _), fun _ _ _ _ _ _ _ _ _ _ _ _ _ _ h_ => absurd h_ (Nat.not_lt_zero _)⟩
  | succ nn_ ih_ =>
    refine ⟨?_, ?_, ?_, ?_, ?_⟩
    · rintro y3_ is_ tb_ to_ df_ w_ S_ hI_ hF_ ⟨h0_, -⟩ hm_
      have cw : 0 ≤ S_.1 9 0 2 ∧ S_.1 9 0 2 ≤ 64 := hI_.1 9 0 2 rfl
      have bx1_ : 0 ≤ S_.1 9 0 2 ∧ S_.1 9 0 2 ≤ 64 := hI_.1 9 0 2 rfl
      refine sm_T_go 3 (c1 := (58, [some (.inr (.inr (some (9, 0)))), some (.inl a1_), some (.inl a2_), some (.inr (.inl y3_)), none, some (.inl is_), some (.inl tb_), some (.inl to_), some (.inr (.inl df_)), none, some (.inl w_), none, none, none, none, none, none, none, none], [.inl (S_.1 9 0 2), .inl w_], S_)) rfl ?_
      refine sm_T_br (a := 3) (z := 163) rfl (fun cx2_ => ?_) (fun cx2_ => ?_)
      · have cx2_ : (S_.1 9 0 2) ≤ w_ := of_decide_eq_true cx2_
        refine sm_T_go 3 (c1 := (225, [some (.inr (.inr (some (9, 0)))), some (.inl a1_), some (.inl a2_), some (.inr (.inl y3_)), none, some (.inl is_), some (.inl tb_), some (.inl to_), some (.inr (.inl df_)), none, some (.inl w_), none, none, none, none, none, none, none, none], [.inl (sm_lcmp df_ 0)], S_)) rfl ?_
        refine sm_T_b0 (a := 0) (z := 7) rfl (fun cx3_ => ?_) (fun cx3_ => ?_)
        · have cx3_ : (sm_lcmp df_ 0) = 0 := of_decide_eq_true cx3_
          refine sm_T_go 1 (c1 := (233, [some (.inr (.inr (some (9, 0)))), some (.inl a1_), some (.inl a2_), some (.inr (.inl y3_)), none, some (.inl is_), some (.inl tb_), some (.inl to_), some (.inr (.inl df_)), none, some (.inl w_), none, none, none, none, none, none, none, none], [.inl 0], S_)) rfl ?_
          refine sm_T_rz rfl (by omega) ⟨_, _, rfl, _, rfl, hI_, hF_, ?_⟩
          omega
        · have cx3_ : ¬ ((sm_lcmp df_ 0) = 0) := of_decide_eq_false cx3_
          refine sm_T_go 2 (c1 := (233, [some (.inr (.inr (some (9, 0)))), some (.inl a1_), some (.inl a2_), some (.inr (.inl y3_)), none, some (.inl is_), some (.inl tb_), some (.inl to_), some (.inr (.inl df_)), none, some (.inl w_), none, none, none, none, none, none, none, none], [.inl 1], S_)) rfl ?_
          refine sm_T_rz rfl (by omega) ⟨_, _, rfl, _, rfl, hI_, hF_, ?_⟩
          omega
      · have cx2_ : ¬ ((S_.1 9 0 2) ≤ w_) := of_decide_eq_false cx2_
        refine sm_T_go 1 (c1 := (62, [some (.inr (.inr (some (9, 0)))), some (.inl a1_), some (.inl a2_), some (.inr (.inl y3_)), none, some (.inl is_), some (.inl tb_), some (.inl to_), some (.inr (.inl df_)), none, some (.inl w_), none, none, none, none, none, none, none, none], [.inl a2_], S_)) rfl ?_
        refine sm_T_b0 (a := 1) (z := 7) rfl (fun cx4_ => ?_) (fun cx4_ => ?_)
        · have cx4_ : a2_ ≠ 0 := of_decide_eq_true cx4_
          refine sm_T_go 4 (c1 := (74, [some (.inr (.inr (some (9, 0)))), some (.inl a1_), some (.inl a2_), some (.inr (.inl y3_)), none, some (.inl is_), some (.inl tb_), some (.inl to_), some (.inr (.inl df_)), none, some (.inl w_), none, none, none, none, none, none, none, none], [.inl w_, .inl 0, .inl a1_, .inr (.inr (some (9, 0)))], S_)) rfl ?_
          refine sm_T_cal (d1 := 0) (Q1 := vq_172 a1_ 0 w_ cc_ S_) rfl rfl (by decide) (vc_172 a1_ 0 w_ cc_ S_ hI_ (by exact (hF_.2.1 9 0 0 rfl).trans hb_) (by omega) (by decide) (by omega)) (fun u_ Sx5_ px8_ => ?_)
          obtain ⟨rfl, vx10_, rfl, px8_⟩ := px8_
          refine sm_T_go 1 (c1 := (79, [some (.inr (.inr (some (9, 0)))), some (.inl a1_), some (.inl a2_), some (.inr (.inl y3_)), none, some (.inl is_), some (.inl tb_), some (.inl to_), some (.inr (.inl df_)), none, some (.inl w_), some (.inr (.inl vx10_)), none, none, none, none, none, none, none], [], S_)) rfl ?_
          refine ih_.2.1 y3_ is_ tb_ to_ df_ w_ vx10_ S_ hI_ hF_ ⟨?_, trivial⟩ ?_
          · omega
          · omega
        · have cx4_ : ¬ (a2_ ≠ 0) := of_decide_eq_false cx4_
          refine sm_T_go 3 (c1 := (79, [some (.inr (.inr (some (9, 0)))), some (.inl a1_), some (.inl a2_), some (.inr (.inl y3_)), none, some (.inl is_), some (.inl tb_), some (.inl to_), some (.inr (.inl df_)), none, some (.inl w_), some (.inr (.inl y3_)), none, none, none, none, none, none, none], [], S_)) rfl ?_
          refine ih_.2.1 y3_ is_ tb_ to_ df_ w_ y3_ S_ hI_ hF_ ⟨?_, trivial⟩ ?_
          · omega
          · omega
    · rintro y3_ is_ tb_ to_ df_ w_ u1_ S_ hI_ hF_ ⟨h0_, -⟩ hm_
      have cw : 0 ≤ S_.1 9 0 2 ∧ S_.1 9 0 2 ≤ 64 := hI_.1 9 0 2 rfl
      refine sm_T_go 2 (c1 := (82, [some (.inr (.inr (some (9, 0)))), some (.inl a1_), some (.inl a2_), some (.inr (.inl y3_)), none, some (.inl is_), some (.inl tb_), some (.inl to_), some (.inr (.inl df_)), none, some (.inl w_), some (.inr (.inl u1_)), none, none, none, none, none, none, none], [.inl 2, .inl is_], S_)) rfl ?_
      refine sm_T_br (a := 3) (z := 7) rfl (fun cx1_ => ?_) (fun cx1_ => ?_)
      · have cx1_ : 2 ≤ is_ := of_decide_eq_true cx1_
        refine sm_T_go 2 (c1 := (91, [some (.inr (.inr (some (9, 0)))), some (.inl a1_), some (.inl a2_), some (.inr (.inl y3_)), none, some (.inl is_), some (.inl tb_), some (.inl to_), some (.inr (.inl df_)), none, some (.inl w_), some (.inr (.inl u1_)), none, none, none, none, none, none, none], [.inl 1, .inl a2_], S_)) rfl ?_
        refine sm_T_br (a := 1) (z := 7) rfl (fun cx2_ => ?_) (fun cx2_ => ?_)
        · have cx2_ : a2_ ≠ 1 := of_decide_eq_true cx2_
          refine sm_T_go 4 (c1 := (103, [some (.inr (.inr (some (9, 0)))), some (.inl a1_), some (.inl a2_), some (.inr (.inl y3_)), none, some (.inl is_), some (.inl tb_), some (.inl to_), some (.inr (.inl df_)), none, some (.inl w_), some (.inr (.inl u1_)), none, none, none, none, none, none, none], [.inl w_, .inl 1, .inl a1_, .inr (.inr (some (9, 0)))], S_)) rfl ?_
          refine sm_T_cal (d1 := 0) (Q1 := vq_172 a1_ 1 w_ cc_ S_) rfl rfl (by decide) (vc_172 a1_ 1 w_ cc_ S_ hI_ (by exact (hF_.2.1 9 0 0 rfl).trans hb_) (by omega) (by decide) (by omega)) (fun u_ Sx3_ px6_ => ?_)
          obtain ⟨rfl, vx8_, rfl, px6_⟩ := px6_
          refine sm_T_go 1 (c1 := (108, [some (.inr (.inr (some (9, 0)))), some (.inl a1_), some (.inl a2_), some (.inr (.inl y3_)), none, some (.inl is_), some (.inl tb_), some (.inl to_), some (.inr (.inl df_)), none, some (.inl w_), some (.inr (.inl u1_)), none, some (.inr (.inl vx8_)), none, none, none, none, none], [], S_)) rfl ?_
          refine ih_.2.2.1 y3_ is_ tb_ to_ df_ w_ u1_ vx8_ S_ hI_ hF_ ⟨?_, trivial⟩ ?_
          · omega
          · omega
        · have cx2_ : ¬ (a2_ ≠ 1) := of_decide_eq_false cx2_
          refine sm_T_go 3 (c1 := (108, [some (.inr (.inr (some (9, 0)))), some (.inl a1_), some (.inl a2_), some (.inr (.inl y3_)), none, some (.inl is_), some (.inl tb_), some (.inl to_), some (.inr (.inl df_)), none, some (.inl w_), some (.inr (.inl u1_)), none, some (.inr (.inl y3_)), none, none, none, none, none], [], S_)) rfl ?_
          refine ih_.2.2.1 y3_ is_ tb_ to_ df_ w_ u1_ y3_ S_ hI_ hF_ ⟨?_, trivial⟩ ?_
          · omega
          · omega
      · have cx1_ : ¬ (2 ≤ is_) := of_decide_eq_false cx1_
        refine sm_T_go 3 (c1 := (108, [some (.inr (.inr (some (9, 0)))), some (.inl a1_), some (.inl a2_), some (.inr (.inl y3_)), none, some (.inl is_), some (.inl tb_), some (.inl to_), some (.inr (.inl df_)), none, some (.inl w_), some (.inr (.inl u1_)), none, some (.inr (.inl 0)), none, none, none, none, none], [], S_)) rfl ?_
        refine ih_.2.2.1 y3_ is_ tb_ to_ df_ w_ u1_ 0 S_ hI_ hF_ ⟨?_, trivial⟩ ?_
        · omega
        · omega
    · rintro y3_ is_ tb_ to_ df_ w_ u1_ u2_ S_ hI_ hF_ ⟨h0_, -⟩ hm_
      have cw : 0 ≤ S_.1 9 0 2 ∧ S_.1 9 0 2 ≤ 64 := hI_.1 9 0 2 rfl
      refine sm_T_go 2 (c1 := (111, [some (.inr (.inr (some (9, 0)))), some (.inl a1_), some (.inl a2_), some (.inr (.inl y3_)), none, some (.inl is_), some (.inl tb_), some (.inl to_), some (.inr (.inl df_)), none, some (.inl w_), some (.inr (.inl u1_)), none, some (.inr (.inl u2_)), none, none, none, none, none], [.inl 3, .inl is_], S_)) rfl ?_
      refine sm_T_br (a := 3) (z := 7) rfl (fun cx1_ => ?_) (fun cx1_ => ?_)
      · have cx1_ : 3 ≤ is_ := of_decide_eq_true cx1_
        refine sm_T_go 2 (c1 := (120, [some (.inr (.inr (some (9, 0)))), some (.inl a1_), some (.inl a2_), some (.inr (.inl y3_)), none, some (.inl is_), some (.inl tb_), some (.inl to_), some (.inr (.inl df_)), none, some (.inl w_), some (.inr (.inl u1_)), none, some (.inr (.inl u2_)), none, none, none, none, none], [.inl 2, .inl a2_], S_)) rfl ?_
        refine sm_T_br (a := 1) (z := 7) rfl (fun cx2_ => ?_) (fun cx2_ => ?_)
        · have cx2_ : a2_ ≠ 2 := of_decide_eq_true cx2_
          refine sm_T_go 4 (c1 := (132, [some (.inr (.inr (some (9, 0)))), some (.inl a1_), some (.inl a2_), some (.inr (.inl y3_)), none, some (.inl is_), some (.inl tb_), some (.inl to_), some (.inr (.inl df_)), none, some (.inl w_), some (.inr (.inl u1_)), none, some (.inr (.inl u2_)), none, none, none, none, none], [.inl w_, .inl 2, .inl a1_, .inr (.inr (some (9, 0)))], S_)) rfl ?_
          refine sm_T_cal (d1 := 0) (Q1 := vq_172 a1_ 2 w_ cc_ S_) rfl rfl (by decide) (vc_172 a1_ 2 w_ cc_ S_ hI_ (by exact (hF_.2.1 9 0 0 rfl).trans hb_) (by omega) (by decide) (by omega)) (fun u_ Sx3_ px6_ => ?_)
          obtain ⟨rfl, vx8_, rfl, px6_⟩ := px6_
          refine sm_T_go 1 (c1 := (137, [some (.inr (.inr (some (9, 0)))), some (.inl a1_), some (.inl a2_), some (.inr (.inl y3_)), none, some (.inl is_), some (.inl tb_), some (.inl to_), some (.inr (.inl df_)), none, some (.inl w_), some (.inr (.inl u1_)), none, some (.inr (.inl u2_)), none, some (.inr (.inl vx8_)), none, none, none], [], S_)) rfl ?_
          refine ih_.2.2.2.1 y3_ is_ tb_ to_ df_ w_ u1_ u2_ vx8_ S_ hI_ hF_ ⟨?_, trivial⟩ ?_
          · omega
          · omega
        · have cx2_ : ¬ (a2_ ≠ 2) := of_decide_eq_false cx2_
          refine sm_T_go 3 (c1 := (137, [some (.inr (.inr (some (9, 0)))), some (.inl a1_), some (.inl a2_), some (.inr (.inl y3_)), none, some (.inl is_), some (.inl tb_), some (.inl to_), some (.inr (.inl df_)), none, some (.inl w_), some (.inr (.inl u1_)), none, some (.inr (.inl u2_)), none, some (.inr (.inl y3_)), none, none, none], [], S_)) rfl ?_
          refine ih_.2.2.2.1 y3_ is_ tb_ to_ df_ w_ u1_ u2_ y3_ S_ hI_ hF_ ⟨?_, trivial⟩ ?_
          · omega
          · omega
      · have cx1_ : ¬ (3 ≤ is_) := of_decide_eq_false cx1_
        refine sm_T_go 3 (c1 := (137, [some (.inr (.inr (some (9, 0)))), some (.inl a1_), some (.inl a2_), some (.inr (.inl y3_)), none, some (.inl is_), some (.inl tb_), some (.inl to_), some (.inr (.inl df_)), none, some (.inl w_), some (.inr (.inl u1_)), none, some (.inr (.inl u2_)), none, some (.inr (.inl 0)), none, none, none], [], S_)) rfl ?_
        refine ih_.2.2.2.1 y3_ is_ tb_ to_ df_ w_ u1_ u2_ 0 S_ hI_ hF_ ⟨?_, trivial⟩ ?_
        · omega
        · omega
    · rintro y3_ is_ tb_ to_ df_ w_ u1_ u2_ u3_ S_ hI_ hF_ ⟨h0_, -⟩ hm_
      have cw : 0 ≤ S_.1 9 0 2 ∧ S_.1 9 0 2 ≤ 64 := hI_.1 9 0 2 rfl
      refine sm_T_go 3 (c1 := (143, [some (.inr (.inr (some (9, 0)))), some (.inl a1_), some (.inl a2_), some (.inr (.inl y3_)), none, some (.inl is_), some (.inl tb_), some (.inl to_), some (.inr (.inl df_)), none, some (.inl w_), some (.inr (.inl u1_)), none, some (.inr (.inl u2_)), none, some (.inr (.inl u3_)), none, none, none], [.inr (.inl u2_), .inr (.inl u1_), .inl tb_], S_)) rfl ?_
      refine sm_T_cal (d1 := 1) (Q1 := vq_171 tb_ u1_ u2_ S_) rfl rfl (by decide) (vc_171 tb_ u1_ u2_ S_ hI_ (by omega)) (fun u_ Sx1_ px4_ => ?_)
      obtain ⟨rfl, vx6_, rfl, px4_⟩ := px4_
      refine sm_T_go 3 (c1 := (151, [some (.inr (.inr (some (9, 0)))), some (.inl a1_), some (.inl a2_), some (.inr (.inl y3_)), none, some (.inl is_), some (.inl tb_), some (.inl to_), some (.inr (.inl df_)), none, some (.inl w_), some (.inr (.inl u1_)), none, some (.inr (.inl u2_)), none, some (.inr (.inl u3_)), none, some (.inr (.inl vx6_)), none], [.inl 2, .inl is_], S_)) rfl ?_
      refine sm_T_br (a := 5) (z := 29) rfl (fun cx7_ => ?_) (fun cx7_ => ?_)
      · have cx7_ : is_ ≤ 2 := of_decide_eq_true cx7_
        refine sm_T_go 0 (c1 := (180, [some (.inr (.inr (some (9, 0)))), some (.inl a1_), some (.inl a2_), some (.inr (.inl y3_)), none, some (.inl is_), some (.inl tb_), some (.inl to_), some (.inr (.inl df_)), none, some (.inl w_), some (.inr (.inl u1_)), none, some (.inr (.inl u2_)), none, some (.inr (.inl u3_)), none, some (.inr (.inl vx6_)), none], [], S_)) rfl ?_
        refine ih_.2.2.2.2 y3_ is_ tb_ to_ df_ w_ u1_ u2_ u3_ vx6_ S_ hI_ hF_ ⟨?_, trivial⟩ ?_
        · omega
        · omega
      · have cx7_ : ¬ (is_ ≤ 2) := of_decide_eq_false cx7_
        refine sm_T_go 1 (c1 := (156, [some (.inr (.inr (some (9, 0)))), some (.inl a1_), some (.inl a2_), some (.inr (.inl y3_)), none, some (.inl is_), some (.inl tb_), some (.inl to_), some (.inr (.inl df_)), none, some (.inl w_), some (.inr (.inl u1_)), none, some (.inr (.inl u2_)), none, some (.inr (.inl u3_)), none, some (.inr (.inl vx6_)), none], [.inr (.inl u3_)], S_)) rfl ?_
        refine sm_T_nt (u := some (.inr (.inl (-1)))) (S1 := S_) rfl rfl rfl ?_
        refine sm_T_go 6 (c1 := (168, [some (.inr (.inr (some (9, 0)))), some (.inl a1_), some (.inl a2_), some (.inr (.inl y3_)), none, some (.inl is_), some (.inl tb_), some (.inl to_), some (.inr (.inl df_)), none, some (.inl w_), some (.inr (.inl u1_)), none, some (.inr (.inl u2_)), none, some (.inr (.inl u3_)), none, some (.inr (.inl vx6_)), none], [.inl 4, .inl tb_, .inr (.inl u3_), .inr (.inl (l_3 ((l_5 u3_ (-1))) vx6_))], S_)) rfl ?_
        refine sm_T_bin (w := (tb_ / 16)) rfl (bi_shr (k := 4) (by decide) (by omega) (by omega)) ?_ -- pc_ 168
        refine sm_T_go 2 (c1 := (173, [some (.inr (.inr (some (9, 0)))), some (.inl a1_), some (.inl a2_), some (.inr (.inl y3_)), none, some (.inl is_), some (.inl tb_), some (.inl to_), some (.inr (.inl df_)), none, some (.inl w_), some (.inr (.inl u1_)), none, some (.inr (.inl u2_)), none, some (.inr (.inl u3_)), none, some (.inr (.inl vx6_)), none], [.inr (.inl u2_), .inr (.inl u1_), .inl (tb_ / 16), .inr (.inl u3_), .inr (.inl (l_3 ((l_5 u3_ (-1))) vx6_))], S_)) rfl ?_
        refine sm_T_cal (d1 := 1) (Q1 := vq_171 (tb_ / 16) u1_ u2_ S_) rfl rfl (by decide) (vc_171 (tb_ / 16) u1_ u2_ S_ hI_ (by omega)) (fun u_ Sx8_ px11_ => ?_)
        obtain ⟨rfl, vx13_, rfl, px11_⟩ := px11_
        refine sm_T_go 3 (c1 := (180, [some (.inr (.inr (some (9, 0)))), some (.inl a1_), some (.inl a2_), some (.inr (.inl y3_)), none, some (.inl is_), some (.inl tb_), some (.inl to_), some (.inr (.inl df_)), none, some (.inl w_), some (.inr (.inl u1_)), none, some (.inr (.inl u2_)), none, some (.inr (.inl u3_)), none, some (.inr (.inl (l_4 ((l_3 ((l_5 u3_ (-1))) vx6_)) ((l_3 u3_ vx13_))))), none], [], S_)) rfl ?_
        refine ih_.2.2.2.2 y3_ is_ tb_ to_ df_ w_ u1_ u2_ u3_ ((l_4 ((l_3 ((l_5 u3_ (-1))) vx6_)) ((l_3 u3_ vx13_)))) S_ hI_ hF_ ⟨?_, trivial⟩ ?_
        · omega
        · omega
    · rintro y3_ is_ tb_ to_ df_ w_ u1_ u2_ u3_ u4_ S_ hI_ hF_ ⟨h0_, -⟩ hm_
      have cw : 0 ≤ S_.1 9 0 2 ∧ S_.1 9 0 2 ≤ 64 := hI_.1 9 0 2 rfl
      refine sm_T_go 4 (c1 := (188, [some (.inr (.inr (some (9, 0)))), some (.inl a1_), some (.inl a2_), some (.inr (.inl y3_)), none, some (.inl is_), some (.inl tb_), some (.inl to_), some (.inr (.inl df_)), none, some (.inl w_), some (.inr (.inl u1_)), none, some (.inr (.inl u2_)), none, some (.inr (.inl u3_)), none, some (.inr (.inl u4_)), none], [.inl w_, .inl to_, .inr (.inr (some (93, 0)))], S_)) rfl ?_
      refine sm_T_bin (w := to_ + w_) rfl (bi_add (by omega) (by omega) (by omega)) ?_ -- pc_ 188
      refine sm_T_go 1 (c1 := (191, [some (.inr (.inr (some (9, 0)))), some (.inl a1_), some (.inl a2_), some (.inr (.inl y3_)), none, some (.inl is_), some (.inl tb_), some (.inl to_), some (.inr (.inl df_)), none, some (.inl w_), some (.inr (.inl u1_)), none, some (.inr (.inl u2_)), none, some (.inr (.inl u3_)), none, some (.inr (.inl u4_)), none], [.inr (.inl u4_), .inl (to_ + w_), .inr (.inr (some (93, 0)))], S_)) rfl ?_
      refine sm_T_last (n := 10368) rfl rfl (by omega) (by omega) ?_
      have hIx1_ : gi (sm_aL S_ 93 0 (to_ + w_).toNat u4_) := gi_aL hI_
      have hFx2_ : ai_fr (sx_W vw_173) S0_ (sm_aL S_ 93 0 (to_ + w_).toNat u4_) := ai_fr_tr hF_ (ai_fr_aL rfl)
      refine sm_T_go 6 (c1 := (204, [some (.inr (.inr (some (9, 0)))), some (.inl a1_), some (.inl a2_), some (.inr (.inl y3_)), none, some (.inl is_), some (.inl tb_), some (.inl to_), some (.inr (.inl df_)), none, some (.inl w_), some (.inr (.inl u1_)), none, some (.inr (.inl u2_)), none, some (.inr (.inl u3_)), none, some (.inr (.inl u4_)), none], [.inl w_, .inl to_, .inr (.inr (some (92, 0))), .inr (.inl u4_), .inr (.inl df_)], sm_aL S_ 93 0 (to_ + w_).toNat u4_)) rfl ?_
      refine sm_T_bin (w := to_ + w_) rfl (bi_add (by omega) (by omega) (by omega)) ?_ -- pc_ 204
      refine sm_T_lald (n := 10368) rfl rfl (by omega) (by omega) ?_
      refine sm_T_go 6 (c1 := (215, [some (.inr (.inr (some (9, 0)))), some (.inl a1_), some (.inl a2_), some (.inr (.inl y3_)), none, some (.inl is_), some (.inl tb_), some (.inl to_), some (.inr (.inl (l_4 df_ ((l_3 ((l_5 u4_ ((S_.2.2.2 92 0 (to_ + w_).toNat)))) ((sm_aL S_ 93 0 (to_ + w_).toNat u4_).1 9 0 3)))))), none, some (.inl w_), some (.inr (.inl u1_)), none, some (.inr (.inl u2_)), none, some (.inr (.inl u3_)), none, some (.inr (.inl u4_)), none], [], sm_aL S_ 93 0 (to_ + w_).toNat u4_)) rfl ?_
      refine sm_T_inc (a := 10) (z := 1) (v := w_) (w := w_ + 1) rfl rfl (by omega) (by omega) (by omega) ?_ -- pc_ 215
      refine sm_T_go 1 (c1 := (52, [some (.inr (.inr (some (9, 0)))), some (.inl a1_), some (.inl a2_), some (.inr (.inl y3_)), none, some (.inl is_), some (.inl tb_), some (.inl to_), some (.inr (.inl (l_4 df_ ((l_3 ((l_5 u4_ ((S_.2.2.2 92 0 (to_ + w_).toNat)))) ((sm_aL S_ 93 0 (to_ + w_).toNat u4_).1 9 0 3)))))), none, some (.inl (w_ + 1)), some (.inr (.inl u1_)), none, some (.inr (.inl u2_)), none, some (.inr (.inl u3_)), none, some (.inr (.inl u4_)), none], [], sm_aL S_ 93 0 (to_ + w_).toNat u4_)) rfl ?_
      refine sm_T_wk [some (.inr (.inr (some (9, 0)))), some (.inl a1_), some (.inl a2_), some (.inr (.inl y3_)), none, some (.inl is_), some (.inl tb_), some (.inl to_), some (.inr (.inl (l_4 df_ ((l_3 ((l_5 u4_ ((S_.2.2.2 92 0 (to_ + w_).toNat)))) ((sm_aL S_ 93 0 (to_ + w_).toNat u4_).1 9 0 3)))))), none, some (.inl (w_ + 1)), none, none, none, none, none, none, none, none] (by exact ⟨rfl, rfl, rfl, rfl, rfl, rfl, rfl, rfl, rfl, trivial⟩) ?_
      refine ih_.1 y3_ is_ tb_ to_ ((l_4 df_ ((l_3 ((l_5 u4_ ((S_.2.2.2 92 0 (to_ + w_).toNat)))) ((sm_aL S_ 93 0 (to_ + w_).toNat u4_).1 9 0 3))))) (w_ + 1) (sm_aL S_ 93 0 (to_ + w_).toNat u4_) hIx1_ hFx2_ ⟨?_, trivial⟩ ?_
      · omega
      · omega
set_option maxHeartbeats 400000 in
set_option maxRecDepth 20000 in
theorem vc_173 {sc_ : Nat × (Nat → Int)} (a1_ : Int) (a2_ : Int) (y3_ : Int) (cc_ : Nat) (S0_ : sm_S) (hI_ : gi S0_) (hb_ : S0_.2.1 9 0 0 = some cc_) (hs_ : S0_.1 2 cc_ 1 + S0_.1 2 cc_ 2 ≤ 12) (h1_ : 0 ≤ a1_ ∧ a1_ ≤ 149) : sm_T (mt_P sc_) 2 173 (0, [some (.inr (.inr (some (9, 0)))), some (.inl a1_), some (.inl a2_), some (.inr (.inl y3_)), none, none, none, none, none, none, none, none, none, none, none, none, none, none, none], [], S0_) (fun ro9_ => ∃ u_ S1_, ro9_ = (.inl u_, S1_, 0) ∧ vq_173 a1_ a2_ y3_ cc_ S0_ u_ S1_) := by
  have hF_ : ai_fr (sx_W vw_173) S0_ S0_ := ai_fr_rf
  refine sm_T_go 1 (c1 := (1, [some (.inr (.inr (some (9, 0)))), some (.inl a1_), some (.inl a2_), some (.inr (.inl y3_)), none, none, none, none, none, none, none, none, none, none, none, none, none, none, none], [.inr (.inr (some (9, 0)))], S0_)) rfl ?_
  refine sm_T_gr rfl rfl ((hF_.2.1 9 0 0 rfl).trans hb_) ?_
  refine sm_T_go 1 (c1 := (5, [some (.inr (.inr (some (9, 0)))), some (.inl a1_), some (.inl a2_), some (.inr (.inl y3_)), none, none, none, none, none, none, none, none, none, none, none, none, none, none, none], [.inl a1_, .inr (.inr (some (2, cc_)))], S0_)) rfl ?_
  refine sm_T_cal (d1 := 0) (Q1 := vq_59 a1_ cc_ S0_) rfl rfl (by decide) (vc_59 a1_ cc_ S0_ hI_ (by omega)) (fun u_ Sx1_ px4_ => ?_)
  obtain ⟨rfl, vx6_, rfl, px4_⟩ := px4_
  have g5_ := px4_.1
  refine sm_T_go 2 (c1 := (11, [some (.inr (.inr (some (9, 0)))), some (.inl a1_), some (.inl a2_), some (.inr (.inl y3_)), none, some (.inl vx6_), none, none, none, none, none, none, none, none, none, none, none, none, none], [.inr (.inr (some (9, 0)))], S0_)) rfl ?_
  refine sm_T_gr rfl rfl ((hF_.2.1 9 0 0 rfl).trans hb_) ?_
  refine sm_T_go 3 (c1 := (21, [some (.inr (.inr (some (9, 0)))), some (.inl a1_), some (.inl a2_), some (.inr (.inl y3_)), none, some (.inl vx6_), none, none, none, none, none, none, none, none, none, none, none, none, none], [.inr (.inr (some (9, 0))), .inr (.inr (some (56, (0 + (3 + cc_)))))], S0_)) rfl ?_
  refine sm_T_gr rfl rfl ((hF_.2.1 9 0 0 rfl).trans hb_) ?_
  refine sm_T_go 2 (c1 := (28, [some (.inr (.inr (some (9, 0)))), some (.inl a1_), some (.inl a2_), some (.inr (.inl y3_)), none, some (.inl vx6_), none, none, none, none, none, none, none, none, none, none, none, none, none], [.inl a1_, .inr (.inr (some (35, (0 + cc_)))), .inr (.inr (some (56, (0 + (3 + cc_)))))], S0_)) rfl ?_
  refine sm_T_iald (n := 150) rfl rfl (by omega) (by omega) ?_
  have bx7_ : 0 ≤ S0_.2.2.1 35 (0 + cc_) a1_.toNat ∧ S0_.2.2.1 35 (0 + cc_) a1_.toNat ≤ 11 := hI_.2 35 (0 + cc_) _
  refine sm_T_iald (n := 12) rfl rfl (by omega) (by omega) ?_
  have bx8_ : 0 ≤ S0_.2.2.1 56 (0 + (3 + cc_)) (S0_.2.2.1 35 (0 + cc_) a1_.toNat).toNat ∧ S0_.2.2.1 56 (0 + (3 + cc_)) (S0_.2.2.1 35 (0 + cc_) a1_.toNat).toNat ≤ 255 := hI_.2 56 (0 + (3 + cc_)) _
  refine sm_T_go 2 (c1 := (33, [some (.inr (.inr (some (9, 0)))), some (.inl a1_), some (.inl a2_), some (.inr (.inl y3_)), none, some (.inl vx6_), some (.inl (S0_.2.2.1 56 (0 + (3 + cc_)) (S0_.2.2.1 35 (0 + cc_) a1_.toNat).toNat)), none, none, none, none, none, none, none, none, none, none, none, none], [.inr (.inr (some (9, 0)))], S0_)) rfl ?_
  refine sm_T_gr rfl rfl ((hF_.2.1 9 0 0 rfl).trans hb_) ?_
  refine sm_T_cal (d1 := 0) (Q1 := vq_54 cc_ S0_) rfl rfl (by decide) (vc_54 cc_ S0_ hI_ ) (fun u_ Sx9_ px12_ => ?_)
  obtain ⟨rfl, vx14_, rfl, px12_⟩ := px12_
  have g36_ := px12_
  refine sm_T_go 1 (c1 := (40, [some (.inr (.inr (some (9, 0)))), some (.inl a1_), some (.inl a2_), some (.inr (.inl y3_)), none, some (.inl vx6_), some (.inl (S0_.2.2.1 56 (0 + (3 + cc_)) (S0_.2.2.1 35 (0 + cc_) a1_.toNat).toNat)), none, none, none, none, none, none, none, none, none, none, none, none], [.inl a1_, .inl vx14_], S0_)) rfl ?_
  refine sm_T_bin (w := vx14_ + a1_) rfl (bi_add (by omega) (by omega) (by omega)) ?_ -- pc_ 40
  refine sm_T_go 1 (c1 := (43, [some (.inr (.inr (some (9, 0)))), some (.inl a1_), some (.inl a2_), some (.inr (.inl y3_)), none, some (.inl vx6_), some (.inl (S0_.2.2.1 56 (0 + (3 + cc_)) (S0_.2.2.1 35 (0 + cc_) a1_.toNat).toNat)), none, none, none, none, none, none, none, none, none, none, none, none], [.inl 64, .inl (vx14_ + a1_)], S0_)) rfl ?_
  refine sm_T_bin (w := 64 * vx14_ + 64 * a1_) rfl (bi_mul (by omega) (by omega) (by omega)) ?_ -- pc_ 43
  refine sm_T_go 5 (c1 := (52, [some (.inr (.inr (some (9, 0)))), some (.inl a1_), some (.inl a2_), some (.inr (.inl y3_)), none, some (.inl vx6_), some (.inl (S0_.2.2.1 56 (0 + (3 + cc_)) (S0_.2.2.1 35 (0 + cc_) a1_.toNat).toNat)), some (.inl (64 * vx14_ + 64 * a1_)), some (.inr (.inl 0)), none, some (.inl 0), none, none, none, none, none, none, none, none], [], S0_)) rfl ?_
  refine (vl_173 a1_ a2_ y3_ cc_ S0_ hb_ hs_ h1_ _).1 y3_ vx6_ (S0_.2.2.1 56 (0 + (3 + cc_)) (S0_.2.2.1 35 (0 + cc_) a1_.toNat).toNat) (64 * vx14_ + 64 * a1_) 0 0 S0_ hI_ hF_ ⟨?_, trivial⟩ (Nat.lt_succ_self _)
  · omega
end
/-! 99.zl6i -/
section
/-! java/util/Arrays.fill -/
def vw_2t6 : sx_Wl := ([], [96], [])
def vq_2t6 (v0_ : Int) (S0_ : sm_S) (u_ : Option sm_V) (S1_ : sm_S) : Prop := u_ = none ∧ gi S1_ ∧ ai_fr (sx_W vw_2t6) S0_ S1_ ∧ (∀ j_, j_ < 1224 → S1_.2.2.1 96 0 j_ = v0_)
set_option maxHeartbeats 400000 in
theorem vl_2t6 {sc_ : Nat × (Nat → Int)} (v0_ : Int) (S0_ : sm_S) (hv_ : (-2147483648) ≤ v0_ ∧ v0_ ≤ 2147483647) : ∀ nn_ : Nat, (∀ (k_ : Int) (S_ : sm_S), gi S_ → ai_fr (sx_W vw_2t6) S0_ S_ → ((0 ≤ k_ ∧ k_ ≤ 1224) ∧ (∀ j_, j_ < k_.toNat → S_.2.2.1 96 0 j_ = v0_) ∧ True) → ((1224 - k_).toNat) < nn_ → sm_T (mt_P sc_) 0 2 (5, [some (.inr (.inr (some (96, 0)))), some (.inl v0_), some (.inl k_), some (.inl 1224)], [], S_) (fun ro9_ => ∃ u_ S1_, ro9_ = (.inl u_, S1_, 0) ∧ vq_2t6 v0_ S0_ u_ S1_)) := by
  intro nn_
  induction nn_ with
  | zero => exact fun _ _ _ _ _ h_ => absurd h_ (Nat.not_lt_zero _)
  | succ nn_ ih_ =>
    rintro k_ S_ hI_ hF_ ⟨h0_, h1_, -⟩ hm_
    refine sm_T_go 2 (c1 := (7, [some (.inr (.inr (some (96, 0)))), some (.inl v0_), some (.inl k_), some (.inl 1224)], [.inl 1224, .inl k_], S_)) rfl ?_
    refine sm_T_br (a := 3) (z := 13) rfl (fun cx1_ => ?_) (fun cx1_ => ?_)
    · have cx1_ : 1224 ≤ k_ := of_decide_eq_true cx1_
      refine sm_T_rv rfl ⟨_, _, rfl, rfl, hI_, hF_, ?_⟩
      exact fun j_ hj_ => h1_ j_ (by omega)
    · have cx1_ : ¬ (1224 ≤ k_) := of_decide_eq_false cx1_
      refine sm_T_go 3 (c1 := (13, [some (.inr (.inr (some (96, 0)))), some (.inl v0_), some (.inl k_), some (.inl 1224)], [.inl v0_, .inl k_, .inr (.inr (some (96, 0)))], S_)) rfl ?_
      refine sm_T_iast (n := 1224) rfl rfl (by omega) (by omega) ?_
      have hIx2_ : gi (sm_aI S_ 96 0 k_.toNat v0_) := gi_aI hI_ (show (-2147483648) ≤ v0_ ∧ v0_ ≤ 2147483647 from ⟨by omega, by omega⟩)
      have hFx3_ : ai_fr (sx_W vw_2t6) S0_ (sm_aI S_ 96 0 k_.toNat v0_) := ai_fr_tr hF_ (ai_fr_aI rfl)
      refine sm_T_inc (a := 2) (z := 1) (v := k_) (w := k_ + 1) rfl rfl (by omega) (by omega) (by omega) ?_ -- pc_ 14
      refine sm_T_go 1 (c1 := (5, [some (.inr (.inr (some (96, 0)))), some (.inl v0_), some (.inl (k_ + 1)), some (.inl 1224)], [], sm_aI S_ 96 0 k_.toNat v0_)) rfl ?_
      refine ih_ (k_ + 1) (sm_aI S_ 96 0 k_.toNat v0_) hIx2_ hFx3_ ⟨?_, ?_, trivial⟩ ?_
      · omega
      · intro j_ hj_
        rw [rd_eq]
        by_cases z_ : j_ = k_.toNat
        · rw [if_pos z_]
        · rw [if_neg z_]; exact h1_ j_ (by omega)
      · omega
set_option maxHeartbeats 400000 in
theorem vc_2t6 {sc_ : Nat × (Nat → Int)} (v0_ : Int) (S0_ : sm_S) (hI_ : gi S0_) (hv_ : (-2147483648) ≤ v0_ ∧ v0_ ≤ 2147483647) : sm_T (mt_P sc_) 0 2 (0, [some (.inr (.inr (some (96, 0)))), some (.inl v0_), none, none], [], S0_) (fun ro9_ => ∃ u_ S1_, ro9_ = (.inl u_, S1_, 0) ∧ vq_2t6 v0_ S0_ u_ S1_) := by
  have hF_ : ai_fr (sx_W vw_2t6) S0_ S0_ := ai_fr_rf
  refine sm_T_go 5 (c1 := (5, [some (.inr (.inr (some (96, 0)))), some (.inl v0_), some (.inl 0), some (.inl 1224)], [], S0_)) rfl ?_
  refine (vl_2t6 v0_ S0_ hv_ _) 0 S0_ hI_ hF_ ⟨?_, ?_, trivial⟩ (Nat.lt_succ_self _)
  · omega
  · (intro j_ hj_; exact absurd hj_ (Nat.not_lt_zero _))
end
/-! 99.zl6j -/
section
/-! java/util/Arrays.fill -/
def vw_2t4 : sx_Wl := ([], [94], [])
def vq_2t4 (v0_ : Int) (S0_ : sm_S) (u_ : Option sm_V) (S1_ : sm_S) : Prop := u_ = none ∧ gi S1_ ∧ ai_fr (sx_W vw_2t4) S0_ S1_ ∧ (∀ j_, j_ < 162 → S1_.2.2.1 94 0 j_ = v0_)
set_option maxHeartbeats 400000 in
theorem vl_2t4 {sc_ : Nat × (Nat → Int)} (v0_ : Int) (S0_ : sm_S) (hv_ : 0 ≤ v0_ ∧ v0_ ≤ 1) : ∀ nn_ : Nat, (∀ (k_ : Int) (S_ : sm_S), gi S_ → ai_fr (sx_W vw_2t4) S0_ S_ → ((0 ≤ k_ ∧ k_ ≤ 162) ∧ (∀ j_, j_ < k_.toNat → S_.2.2.1 94 0 j_ = v0_) ∧ True) → ((162 - k_).toNat) < nn_ → sm_T (mt_P sc_) 0 2 (5, [some (.inr (.inr (some (94, 0)))), some (.inl v0_), some (.inl k_), some (.inl 162)], [], S_) (fun ro9_ => ∃ u_ S1_, ro9_ = (.inl u_, S1_, 0) ∧ vq_2t4 v0_ S0_ u_ S1_)) := by
  intro nn_
  induction nn_ with
  | zero => exact fun _ _ _ _ _ h_ => absurd h_ (Nat.not_lt_zero _)
  | succ nn_ ih_ =>
    rintro k_ S_ hI_ hF_ ⟨h0_, h1_, -⟩ hm_
    refine sm_T_go 2 (c1 := (7, [some (.inr (.inr (some (94, 0)))), some (.inl v0_), some (.inl k_), some (.inl 162)], [.inl 162, .inl k_], S_)) rfl ?_
    refine sm_T_br (a := 3) (z := 13) rfl (fun cx1_ => ?_) (fun cx1_ => ?_)
    · have cx1_ : 162 ≤ k_ := of_decide_eq_true cx1_
      refine sm_T_rv rfl ⟨_, _, rfl, rfl, hI_, hF_, ?_⟩
      exact fun j_ hj_ => h1_ j_ (by omega)
    · have cx1_ : ¬ (162 ≤ k_) := of_decide_eq_false cx1_
      refine sm_T_go 3 (c1 := (13, [some (.inr (.inr (some (94, 0)))), some (.inl v0_), some (.inl k_), some (.inl 162)], [.inl v0_, .inl k_, .inr (.inr (some (94, 0)))], S_)) rfl ?_
      refine sm_T_iast (n := 162) rfl rfl (by omega) (by omega) ?_
      have hIx2_ : gi (sm_aI S_ 94 0 k_.toNat v0_) := gi_aI hI_ (show 0 ≤ v0_ ∧ v0_ ≤ 1 from ⟨by omega, by omega⟩)
      have hFx3_ : ai_fr (sx_W vw_2t4) S0_ (sm_aI S_ 94 0 k_.toNat v0_) := ai_fr_tr hF_ (ai_fr_aI rfl)
      refine sm_T_inc (a := 2) (z := 1) (v := k_) (w := k_ + 1) rfl rfl (by omega) (by omega) (by omega) ?_ -- pc_ 14
      refine sm_T_go 1 (c1 := (5, [some (.inr (.inr (some (94, 0)))), some (.inl v0_), some (.inl (k_ + 1)), some (.inl 162)], [], sm_aI S_ 94 0 k_.toNat v0_)) rfl ?_
      refine ih_ (k_ + 1) (sm_aI S_ 94 0 k_.toNat v0_) hIx2_ hFx3_ ⟨?_, ?_, trivial⟩ ?_
      · omega
      · intro j_ hj_
        rw [rd_eq]
        by_cases z_ : j_ = k_.toNat
        · rw [if_pos z_]
        · rw [if_neg z_]; exact h1_ j_ (by omega)
      · omega
set_option maxHeartbeats 400000 in
theorem vc_2t4 {sc_ : Nat × (Nat → Int)} (v0_ : Int) (S0_ : sm_S) (hI_ : gi S0_) (hv_ : 0 ≤ v0_ ∧ v0_ ≤ 1) : sm_T (mt_P sc_) 0 2 (0, [some (.inr (.inr (some (94, 0)))), some (.inl v0_), none, none], [], S0_) (fun ro9_ => ∃ u_ S1_, ro9_ = (.inl u_, S1_, 0) ∧ vq_2t4 v0_ S0_ u_ S1_) := by
  have hF_ : ai_fr (sx_W vw_2t4) S0_ S0_ := ai_fr_rf
  refine sm_T_go 5 (c1 := (5, [some (.inr (.inr (some (94, 0)))), some (.inl v0_), some (.inl 0), some (.inl 162)], [], S0_)) rfl ?_
  refine (vl_2t4 v0_ S0_ hv_ _) 0 S0_ hI_ hF_ ⟨?_, ?_, trivial⟩ (Nat.lt_succ_self _)
  · omega
  · (intro j_ hj_; exact absurd hj_ (Nat.not_lt_zero _))
end
/-! 99.zl6k -/
section
/-! Tester.prepare -/
def vw_168 : sx_Wl := ([(9, 1), (9, 2), (9, 3)], [92, 93, 94, 96], [(9, 0)])
def vq_168 (cc_ : Nat) (S0_ : sm_S) (u_ : Option sm_V) (S1_ : sm_S) : Prop := u_ = none ∧ gi S1_ ∧ ai_fr (sx_W vw_168) S0_ S1_ ∧ (S1_.2.1 9 0 0 = some cc_)
set_option maxHeartbeats 400000 in
set_option maxRecDepth 20000 in
theorem vl_168 {sc_ : Nat × (Nat → Int)} (cc_ : Nat) (S0_ : sm_S) (hs_ : S0_.1 2 cc_ 1 + S0_.1 2 cc_ 2 ≤ 12) : ∀ nn_ : Nat, (∀ (bt_ : Int) (n_ : Int) (S_ : sm_S), gi S_ → ai_fr (sx_W vw_168) S0_ S_ → ((0 ≤ bt_ ∧ bt_ ≤ 12 ∧ bt_ = S0_.1 2 cc_ 1 + S0_.1 2 cc_ 2 ∧ 0 ≤ n_ ∧ n_ ≤ bt_) ∧ (S_.2.1 9 0 0 = some cc_) ∧ True) → ((100000 + 100 * (100 - n_) + 90).toNat) < nn_ → sm_T (mt_P sc_) 3 168 (99, [some (.inr (.inr (some (9, 0)))), some (.inr (.inr (some (2, cc_)))), some (.inl bt_), some (.inl n_), none], [], S_) (fun ro9_ => ∃ u_ S1_, ro9_ = (.inl u_, S1_, 0) ∧ vq_168 cc_ S0_ u_ S1_)) ∧ (∀ (bt_ : Int) (n_ : Int) (w_ : Int) (S_ : sm_S), gi S_ → ai_fr (sx_W vw_168) S0_ S_ → ((0 ≤ bt_ ∧ bt_ ≤ 12 ∧ bt_ = S0_.1 2 cc_ 1 + S0_.1 2 cc_ 2 ∧ 0 ≤ n_ ∧ n_ < bt_ ∧ 0 ≤ w_ ∧ w_ ≤ 64) ∧ (S_.2.1 9 0 0 = some cc_) ∧ True) → ((100000 + 100 * (100 - n_) + 80 - w_).toNat) < nn_ → sm_T (mt_P sc_) 3 168 (107, [some (.inr (.inr (some (9, 0)))), some (.inr (.inr (some (2, cc_)))), some (.inl bt_), some (.inl n_), some (.inl w_)], [], S_) (fun ro9_ => ∃ u_ S1_, ro9_ = (.inl u_, S1_, 0) ∧ vq_168 cc_ S0_ u_ S1_)) ∧ (∀ (bt_ : Int) (g_ : Int) (S_ : sm_S), gi S_ → ai_fr (sx_W vw_168) S0_ S_ → ((0 ≤ bt_ ∧ bt_ ≤ 12 ∧ bt_ = S0_.1 2 cc_ 1 + S0_.1 2 cc_ 2 ∧ 0 ≤ g_ ∧ g_ ≤ 150) ∧ (S_.2.1 9 0 0 = some cc_) ∧ True) → ((10000 - g_).toNat) < nn_ → sm_T (mt_P sc_) 3 168 (148, [some (.inr (.inr (some (9, 0)))), some (.inr (.inr (some (2, cc_)))), some (.inl bt_), some (.inl g_), none], [], S_) (fun ro9_ => ∃ u_ S1_, ro9_ = (.inl u_, S1_, 0) ∧ vq_168 cc_ S0_ u_ S1_)) := by
  intro nn_
  induction nn_ with
  | zero => exact ⟨fun _ _ _ _ _ _ h_ => absurd h_ (Nat.not_lt_zero _), fun _ _ _ _ _ _ _ h_ => absurd h_ (Nat.not_lt_zero _), fun _ _ _ _ _ _ h_ => absurd h_ (Nat.not_lt_zero _)⟩
  | succ nn_ ih_ =>
    refine ⟨?_, ?_, ?_⟩
    · rintro bt_ n_ S_ hI_ hF_ ⟨h0_, htk_, -⟩ hm_
      have z1_ : S_.1 2 cc_ 1 = S0_.1 2 cc_ 1 := hF_.1 2 cc_ 1 rfl
      have z2_ : S_.1 2 cc_ 2 = S0_.1 2 cc_ 2 := hF_.1 2 cc_ 2 rfl
      have cw : 0 ≤ S_.1 9 0 2 ∧ S_.1 9 0 2 ≤ 64 := hI_.1 9 0 2 rfl
      have cg9_ : 0 ≤ S_.1 2 cc_ 8 ∧ S_.1 2 cc_ 8 ≤ 150 := hI_.1 2 cc_ 8 rfl
      refine sm_T_go 2 (c1 := (101, [some (.inr (.inr (some (9, 0)))), some (.inr (.inr (some (2, cc_)))), some (.inl bt_), some (.inl n_), none], [.inl bt_, .inl n_], S_)) rfl ?_
      refine sm_T_br (a := 3) (z := 45) rfl (fun cx1_ => ?_) (fun cx1_ => ?_)
      · have cx1_ : bt_ ≤ n_ := of_decide_eq_true cx1_
        refine sm_T_go 2 (c1 := (148, [some (.inr (.inr (some (9, 0)))), some (.inr (.inr (some (2, cc_)))), some (.inl bt_), some (.inl 0), none], [], S_)) rfl ?_
        refine ih_.2.2 bt_ 0 S_ hI_ hF_ ⟨?_, ?_, trivial⟩ ?_
        · omega
        · exact htk_
        · omega
      · have cx1_ : ¬ (bt_ ≤ n_) := of_decide_eq_false cx1_
        refine sm_T_go 2 (c1 := (107, [some (.inr (.inr (some (9, 0)))), some (.inr (.inr (some (2, cc_)))), some (.inl bt_), some (.inl n_), some (.inl 0)], [], S_)) rfl ?_
        refine ih_.2.1 bt_ n_ 0 S_ hI_ hF_ ⟨?_, ?_, trivial⟩ ?_
        · omega
        · exact htk_
        · omega
    · rintro bt_ n_ w_ S_ hI_ hF_ ⟨h0_, htk_, -⟩ hm_
      have z1_ : S_.1 2 cc_ 1 = S0_.1 2 cc_ 1 := hF_.1 2 cc_ 1 rfl
      have z2_ : S_.1 2 cc_ 2 = S0_.1 2 cc_ 2 := hF_.1 2 cc_ 2 rfl
      have cw : 0 ≤ S_.1 9 0 2 ∧ S_.1 9 0 2 ≤ 64 := hI_.1 9 0 2 rfl
      have cg9_ : 0 ≤ S_.1 2 cc_ 8 ∧ S_.1 2 cc_ 8 ≤ 150 := hI_.1 2 cc_ 8 rfl
      have bx1_ : 0 ≤ S_.1 9 0 2 ∧ S_.1 9 0 2 ≤ 64 := hI_.1 9 0 2 rfl
      refine sm_T_go 3 (c1 := (113, [some (.inr (.inr (some (9, 0)))), some (.inr (.inr (some (2, cc_)))), some (.inl bt_), some (.inl n_), some (.inl w_)], [.inl (S_.1 9 0 2), .inl w_], S_)) rfl ?_
      refine sm_T_br (a := 3) (z := 27) rfl (fun cx2_ => ?_) (fun cx2_ => ?_)
      · have cx2_ : (S_.1 9 0 2) ≤ w_ := of_decide_eq_true cx2_
        refine sm_T_inc (a := 3) (z := 1) (v := n_) (w := n_ + 1) rfl rfl (by omega) (by omega) (by omega) ?_ -- pc_ 140
        refine sm_T_go 1 (c1 := (99, [some (.inr (.inr (some (9, 0)))), some (.inr (.inr (some (2, cc_)))), some (.inl bt_), some (.inl (n_ + 1)), some (.inl w_)], [], S_)) rfl ?_
        refine sm_T_wk [some (.inr (.inr (some (9, 0)))), some (.inr (.inr (some (2, cc_)))), some (.inl bt_), some (.inl (n_ + 1)), none] (by exact ⟨rfl, rfl, rfl, rfl, trivial⟩) ?_
        refine ih_.1 bt_ (n_ + 1) S_ hI_ hF_ ⟨?_, ?_, trivial⟩ ?_
        · omega
        · exact htk_
        · omega
      · have cx2_ : ¬ ((S_.1 9 0 2) ≤ w_) := of_decide_eq_false cx2_
        refine sm_T_go 4 (c1 := (123, [some (.inr (.inr (some (9, 0)))), some (.inr (.inr (some (2, cc_)))), some (.inl bt_), some (.inl n_), some (.inl w_)], [.inl 64, .inl n_, .inr (.inr (some (92, 0)))], S_)) rfl ?_
        refine sm_T_bin (w := 64 * n_) rfl (bi_mul (by omega) (by omega) (by omega)) ?_ -- pc_ 123
        refine sm_T_go 1 (c1 := (126, [some (.inr (.inr (some (9, 0)))), some (.inr (.inr (some (2, cc_)))), some (.inl bt_), some (.inl n_), some (.inl w_)], [.inl w_, .inl (64 * n_), .inr (.inr (some (92, 0)))], S_)) rfl ?_
        refine sm_T_bin (w := 64 * n_ + w_) rfl (bi_add (by omega) (by omega) (by omega)) ?_ -- pc_ 126
        refine sm_T_go 2 (c1 := (130, [some (.inr (.inr (some (9, 0)))), some (.inr (.inr (some (2, cc_)))), some (.inl bt_), some (.inl n_), some (.inl w_)], [.inl w_, .inl n_, .inl (64 * n_ + w_), .inr (.inr (some (92, 0)))], S_)) rfl ?_
        refine sm_T_cal (d1 := 0) (Q1 := vq_49 n_ w_ S_) rfl rfl (by decide) (vc_49 n_ w_ S_ hI_ (by omega) (by omega)) (fun u_ Sx3_ px6_ => ?_)
        obtain ⟨rfl, vx8_, rfl, px6_⟩ := px6_
        refine sm_T_last (n := 10368) rfl rfl (by omega) (by omega) ?_
        have hIx9_ : gi (sm_aL S_ 92 0 (64 * n_ + w_).toNat vx8_) := gi_aL hI_
        have hFx10_ : ai_fr (sx_W vw_168) S0_ (sm_aL S_ 92 0 (64 * n_ + w_).toNat vx8_) := ai_fr_tr hF_ (ai_fr_aL rfl)
        refine sm_T_inc (a := 4) (z := 1) (v := w_) (w := w_ + 1) rfl rfl (by omega) (by omega) (by omega) ?_ -- pc_ 134
        refine sm_T_go 1 (c1 := (107, [some (.inr (.inr (some (9, 0)))), some (.inr (.inr (some (2, cc_)))), some (.inl bt_), some (.inl n_), some (.inl (w_ + 1))], [], sm_aL S_ 92 0 (64 * n_ + w_).toNat vx8_)) rfl ?_
        refine ih_.2.1 bt_ n_ (w_ + 1) (sm_aL S_ 92 0 (64 * n_ + w_).toNat vx8_) hIx9_ hFx10_ ⟨?_, ?_, trivial⟩ ?_
        · omega
        · exact htk_
        · omega
    · rintro bt_ g_ S_ hI_ hF_ ⟨h0_, htk_, -⟩ hm_
      have z1_ : S_.1 2 cc_ 1 = S0_.1 2 cc_ 1 := hF_.1 2 cc_ 1 rfl
      have z2_ : S_.1 2 cc_ 2 = S0_.1 2 cc_ 2 := hF_.1 2 cc_ 2 rfl
      have cw : 0 ≤ S_.1 9 0 2 ∧ S_.1 9 0 2 ≤ 64 := hI_.1 9 0 2 rfl
      have cg9_ : 0 ≤ S_.1 2 cc_ 8 ∧ S_.1 2 cc_ 8 ≤ 150 := hI_.1 2 cc_ 8 rfl
      have bx1_ : 0 ≤ S_.1 2 cc_ 8 ∧ S_.1 2 cc_ 8 ≤ 150 := hI_.1 2 cc_ 8 rfl
      refine sm_T_go 3 (c1 := (153, [some (.inr (.inr (some (9, 0)))), some (.inr (.inr (some (2, cc_)))), some (.inl bt_), some (.inl g_), none], [.inl (S_.1 2 cc_ 8), .inl g_], S_)) rfl ?_
      refine sm_T_br (a := 3) (z := 47) rfl (fun cx2_ => ?_) (fun cx2_ => ?_)
      · have cx2_ : (S_.1 2 cc_ 8) ≤ g_ := of_decide_eq_true cx2_
        refine sm_T_rv rfl ⟨_, _, rfl, rfl, hI_, hF_, ?_⟩
        exact htk_
      · have cx2_ : ¬ ((S_.1 2 cc_ 8) ≤ g_) := of_decide_eq_false cx2_
        refine sm_T_go 2 (c1 := (158, [some (.inr (.inr (some (9, 0)))), some (.inr (.inr (some (2, cc_)))), some (.inl bt_), some (.inl g_), none], [.inl g_, .inl bt_], S_)) rfl ?_
        refine sm_T_bin (w := bt_ + g_) rfl (bi_add (by omega) (by omega) (by omega)) ?_ -- pc_ 158
        refine sm_T_go 5 (c1 := (165, [some (.inr (.inr (some (9, 0)))), some (.inr (.inr (some (2, cc_)))), some (.inl bt_), some (.inl g_), some (.inl (bt_ + g_))], [.inr (.inl 0), .inl (-1), .inl g_, .inr (.inr (some (9, 0)))], S_)) rfl ?_
        refine sm_T_cal (d1 := 2) (Q1 := vq_173 g_ (-1) 0 cc_ S_) rfl rfl (by decide) (vc_173 g_ (-1) 0 cc_ S_ hI_ (by exact htk_) (by omega) (by omega)) (fun u_ Sx3_ px6_ => ?_)
        obtain ⟨vx8_, rfl, hIx4_, hFx5_, px6_⟩ := px6_
        have hFx7_ : ai_fr (sx_W vw_168) S0_ Sx3_ := ai_fr_tr hF_ (fr_le hFx5_ rfl)
        have tx9_ : Sx3_.2.1 9 0 0 = some cc_ := (hFx5_.2.1 9 0 0 rfl).trans htk_
        have ex10_ : Sx3_.1 2 cc_ 8 = S_.1 2 cc_ 8 := hFx5_.1 2 cc_ 8 rfl
        refine sm_T_go 5 (c1 := (177, [some (.inr (.inr (some (9, 0)))), some (.inr (.inr (some (2, cc_)))), some (.inl bt_), some (.inl g_), some (.inl (bt_ + g_))], [.inl 64, .inl (bt_ + g_), .inr (.inr (some (93, 0)))], Sx3_)) rfl ?_
        refine sm_T_bin (w := 64 * bt_ + 64 * g_) rfl (bi_mul (by omega) (by omega) (by omega)) ?_ -- pc_ 177
        refine sm_T_go 4 (c1 := (186, [some (.inr (.inr (some (9, 0)))), some (.inr (.inr (some (2, cc_)))), some (.inl bt_), some (.inl g_), some (.inl (bt_ + g_))], [.inl 64, .inl (bt_ + g_), .inr (.inr (some (92, 0))), .inl (64 * bt_ + 64 * g_), .inr (.inr (some (93, 0)))], Sx3_)) rfl ?_
        refine sm_T_bin (w := 64 * bt_ + 64 * g_) rfl (bi_mul (by omega) (by omega) (by omega)) ?_ -- pc_ 186
        have bx11_ : 0 ≤ Sx3_.1 9 0 2 ∧ Sx3_.1 9 0 2 ≤ 64 := hIx4_.1 9 0 2 rfl
        refine sm_T_go 2 (c1 := (191, [some (.inr (.inr (some (9, 0)))), some (.inr (.inr (some (2, cc_)))), some (.inl bt_), some (.inl g_), some (.inl (bt_ + g_))], [.inl (Sx3_.1 9 0 2), .inl (64 * bt_ + 64 * g_), .inr (.inr (some (92, 0))), .inl (64 * bt_ + 64 * g_), .inr (.inr (some (93, 0)))], Sx3_)) rfl ?_
        refine sm_T_nt (u := none) (S1 := sm_acL Sx3_ 93 0 92 0 (64 * bt_ + 64 * g_).toNat (64 * bt_ + 64 * g_).toNat (Sx3_.1 9 0 2).toNat) rfl rfl (nt_acL (sc := sc_) (t := 93) (i := 0) (t' := 92) (i' := 0) (x := 64 * bt_ + 64 * g_) (y := 64 * bt_ + 64 * g_) (m := (Sx3_.1 9 0 2)) (n := 10368) (n1 := 10368) rfl rfl (by omega) (by omega) (by omega) (by omega) (by omega)) ?_
        have hIx12_ : gi (sm_acL Sx3_ 93 0 92 0 (64 * bt_ + 64 * g_).toNat (64 * bt_ + 64 * g_).toNat (Sx3_.1 9 0 2).toNat) := hIx4_
        have hFx13_ : ai_fr (sx_W vw_168) S0_ (sm_acL Sx3_ 93 0 92 0 (64 * bt_ + 64 * g_).toNat (64 * bt_ + 64 * g_).toNat (Sx3_.1 9 0 2).toNat) := ai_fr_tr hFx7_ (fr_acL rfl)
        refine sm_T_inc (a := 3) (z := 1) (v := g_) (w := g_ + 1) rfl rfl (by omega) (by omega) (by omega) ?_ -- pc_ 194
        refine sm_T_go 1 (c1 := (148, [some (.inr (.inr (some (9, 0)))), some (.inr (.inr (some (2, cc_)))), some (.inl bt_), some (.inl (g_ + 1)), some (.inl (bt_ + g_))], [], sm_acL Sx3_ 93 0 92 0 (64 * bt_ + 64 * g_).toNat (64 * bt_ + 64 * g_).toNat (Sx3_.1 9 0 2).toNat)) rfl ?_
        refine sm_T_wk [some (.inr (.inr (some (9, 0)))), some (.inr (.inr (some (2, cc_)))), some (.inl bt_), some (.inl (g_ + 1)), none] (by exact ⟨rfl, rfl, rfl, rfl, trivial⟩) ?_
        refine ih_.2.2 bt_ (g_ + 1) (sm_acL Sx3_ 93 0 92 0 (64 * bt_ + 64 * g_).toNat (64 * bt_ + 64 * g_).toNat (Sx3_.1 9 0 2).toNat) hIx12_ hFx13_ ⟨?_, ?_, trivial⟩ ?_
        · omega
        · exact tx9_
        · omega
set_option maxHeartbeats 400000 in
set_option maxRecDepth 20000 in
theorem vc_168 {sc_ : Nat × (Nat → Int)} (cc_ : Nat) (S0_ : sm_S) (hI_ : gi S0_) (hs_ : S0_.1 2 cc_ 1 + S0_.1 2 cc_ 2 ≤ 12) : sm_T (mt_P sc_) 3 168 (0, [some (.inr (.inr (some (9, 0)))), some (.inr (.inr (some (2, cc_)))), none, none, none], [], S0_) (fun ro9_ => ∃ u_ S1_, ro9_ = (.inl u_, S1_, 0) ∧ vq_168 cc_ S0_ u_ S1_) := by
  have hF_ : ai_fr (sx_W vw_168) S0_ S0_ := ai_fr_rf
  have k1_ : 0 ≤ S0_.1 2 cc_ 1 ∧ S0_.1 2 cc_ 1 ≤ 12 := hI_.1 2 cc_ 1 rfl
  have k2_ : 0 ≤ S0_.1 2 cc_ 2 ∧ S0_.1 2 cc_ 2 ≤ 6 := hI_.1 2 cc_ 2 rfl
  refine sm_T_go 1 (c1 := (1, [some (.inr (.inr (some (9, 0)))), some (.inr (.inr (some (2, cc_)))), none, none, none], [.inr (.inr (some (9, 0)))], S0_)) rfl ?_
  cases qx1_ : S0_.2.1 9 0 0 with
  | none =>
    refine sm_T_gr rfl rfl qx1_ ?_
    refine sm_T_go 1 (c1 := (5, [some (.inr (.inr (some (9, 0)))), some (.inr (.inr (some (2, cc_)))), none, none, none], [.inr (.inr (some (2, cc_))), .inr (.inr none)], S0_)) rfl ?_
    refine sm_T_acn (x_ := none) (y_ := some (2, cc_)) rfl rfl (fun cx3_ => ?_) (fun cx3_ => ?_)
    · cases cx3_
    · skip
      have hIx4_ : gi (sm_pR S0_ 9 0 0 (some cc_)) := gi_pR hI_
      have hFx5_ : ai_fr (sx_W vw_168) S0_ (sm_pR S0_ 9 0 0 (some cc_)) := ai_fr_tr hF_ (ai_fr_pR rfl)
      have tx6_ : (sm_pR S0_ 9 0 0 (some cc_)).2.1 9 0 0 = some cc_ := (sm_up_self (f := S0_.2.1) (t := 9) (i := 0) (k := 0) (v := some cc_))
      have bx7_ : (-2147483648) ≤ S0_.1 2 cc_ 19 ∧ S0_.1 2 cc_ 19 ≤ 2147483647 := hI_.1 2 cc_ 19 rfl
      have hIx8_ : gi (sm_pI (sm_pR S0_ 9 0 0 (some cc_)) 9 0 1 (S0_.1 2 cc_ 19)) := gi_pI hIx4_ (show (-2147483648) ≤ (S0_.1 2 cc_ 19) ∧ (S0_.1 2 cc_ 19) ≤ 2147483647 from ⟨by omega, by omega⟩)
      have hFx9_ : ai_fr (sx_W vw_168) S0_ (sm_pI (sm_pR S0_ 9 0 0 (some cc_)) 9 0 1 (S0_.1 2 cc_ 19)) := ai_fr_tr hFx5_ (ai_fr_pI rfl)
      refine sm_T_go 8 (c1 := (34, [some (.inr (.inr (some (9, 0)))), some (.inr (.inr (some (2, cc_)))), none, none, none], [.inr (.inr (some (2, cc_)))], sm_pI (sm_pR S0_ 9 0 0 (some cc_)) 9 0 1 (S0_.1 2 cc_ 19))) rfl ?_
      refine sm_T_cal (d1 := 0) (Q1 := vq_54 cc_ (sm_pI (sm_pR S0_ 9 0 0 (some cc_)) 9 0 1 (S0_.1 2 cc_ 19))) rfl rfl (by decide) (vc_54 cc_ (sm_pI (sm_pR S0_ 9 0 0 (some cc_)) 9 0 1 (S0_.1 2 cc_ 19)) hIx8_ ) (fun u_ Sx10_ px13_ => ?_)
      obtain ⟨rfl, vx15_, rfl, px13_⟩ := px13_
      have g34_ : vx15_ = S0_.1 2 cc_ 1 + S0_.1 2 cc_ 2 := px13_.2
      refine sm_T_go 4 (c1 := (42, [some (.inr (.inr (some (9, 0)))), some (.inr (.inr (some (2, cc_)))), some (.inl vx15_), none, none], [.inl 6, .inl vx15_, .inr (.inr (some (9, 0)))], sm_pI (sm_pR S0_ 9 0 0 (some cc_)) 9 0 1 (S0_.1 2 cc_ 19))) rfl ?_
      refine sm_T_br (a := 4) (z := 7) rfl (fun cx16_ => ?_) (fun cx16_ => ?_)
      · have cx16_ : 6 < vx15_ := of_decide_eq_true cx16_
        refine sm_T_go 3 (c1 := (53, [some (.inr (.inr (some (9, 0)))), some (.inr (.inr (some (2, cc_)))), some (.inl vx15_), none, none], [.inl 6, .inl vx15_, .inl 1, .inr (.inr (some (9, 0)))], sm_pI (sm_pR S0_ 9 0 0 (some cc_)) 9 0 1 (S0_.1 2 cc_ 19))) rfl ?_
        refine sm_T_bin (w := vx15_ - 6) rfl (bi_sub (by omega) (by omega) (by omega)) ?_ -- pc_ 53
        refine sm_T_bin (w := (i_shl 1 (vx15_ - 6))) rfl rfl ?_ -- pc_ 54
        have bx17_ := i_shl1 (e := (vx15_ - 6)) (by omega) (by omega)
        have p5_ := pw_le (n := ((vx15_ - 6)).toNat) (m := 6) (by omega)
        have p6_ := pw_pos ((vx15_ - 6)).toNat
        have hIx20_ : gi (sm_pI (sm_pI (sm_pR S0_ 9 0 0 (some cc_)) 9 0 1 (S0_.1 2 cc_ 19)) 9 0 2 (i_shl 1 (vx15_ - 6))) := gi_pI hIx8_ (show 0 ≤ (i_shl 1 (vx15_ - 6)) ∧ (i_shl 1 (vx15_ - 6)) ≤ 64 from ⟨by omega, by omega⟩)
        have hFx21_ : ai_fr (sx_W vw_168) S0_ (sm_pI (sm_pI (sm_pR S0_ 9 0 0 (some cc_)) 9 0 1 (S0_.1 2 cc_ 19)) 9 0 2 (i_shl 1 (vx15_ - 6))) := ai_fr_tr hFx9_ (ai_fr_pI rfl)
        refine sm_T_go 4 (c1 := (62, [some (.inr (.inr (some (9, 0)))), some (.inr (.inr (some (2, cc_)))), some (.inl vx15_), none, none], [.inl 6, .inl vx15_, .inr (.inr (some (9, 0)))], sm_pI (sm_pI (sm_pR S0_ 9 0 0 (some cc_)) 9 0 1 (S0_.1 2 cc_ 19)) 9 0 2 (i_shl 1 (vx15_ - 6)))) rfl ?_
        refine sm_T_br (a := 2) (z := 9) rfl (fun cx22_ => ?_) (fun cx22_ => ?_)
        · have cx22_ : vx15_ < 6 := of_decide_eq_true cx22_
          exfalso; omega
        · have cx22_ : ¬ (vx15_ < 6) := of_decide_eq_false cx22_
          refine sm_T_nt (u := some (.inr (.inl (-1)))) (S1 := sm_pI (sm_pI (sm_pR S0_ 9 0 0 (some cc_)) 9 0 1 (S0_.1 2 cc_ 19)) 9 0 2 (i_shl 1 (vx15_ - 6))) rfl rfl rfl ?_
          have hIx23_ : gi (sm_pI (sm_pI (sm_pI (sm_pR S0_ 9 0 0 (some cc_)) 9 0 1 (S0_.1 2 cc_ 19)) 9 0 2 (i_shl 1 (vx15_ - 6))) 9 0 3 (-1)) := gi_pJ hIx20_ rfl
          have hFx24_ : ai_fr (sx_W vw_168) S0_ (sm_pI (sm_pI (sm_pI (sm_pR S0_ 9 0 0 (some cc_)) 9 0 1 (S0_.1 2 cc_ 19)) 9 0 2 (i_shl 1 (vx15_ - 6))) 9 0 3 (-1)) := ai_fr_tr hFx21_ (ai_fr_pI rfl)
          refine sm_T_go 5 (c1 := (86, [some (.inr (.inr (some (9, 0)))), some (.inr (.inr (some (2, cc_)))), some (.inl vx15_), none, none], [.inl 0, .inr (.inr (some (96, 0)))], sm_pI (sm_pI (sm_pI (sm_pR S0_ 9 0 0 (some cc_)) 9 0 1 (S0_.1 2 cc_ 19)) 9 0 2 (i_shl 1 (vx15_ - 6))) 9 0 3 (-1))) rfl ?_
          refine sm_T_cal (d1 := 0) (Q1 := vq_2t6 0 (sm_pI (sm_pI (sm_pI (sm_pR S0_ 9 0 0 (some cc_)) 9 0 1 (S0_.1 2 cc_ 19)) 9 0 2 (i_shl 1 (vx15_ - 6))) 9 0 3 (-1))) rfl rfl (by decide) (vc_2t6 0 (sm_pI (sm_pI (sm_pI (sm_pR S0_ 9 0 0 (some cc_)) 9 0 1 (S0_.1 2 cc_ 19)) 9 0 2 (i_shl 1 (vx15_ - 6))) 9 0 3 (-1)) hIx23_ (by decide)) (fun u_ Sx25_ px28_ => ?_)
          obtain ⟨rfl, hIx26_, hFx27_, px28_⟩ := px28_
          have hFx29_ : ai_fr (sx_W vw_168) S0_ Sx25_ := ai_fr_tr hFx24_ (fr_le hFx27_ rfl)
          have tx30_ : Sx25_.2.1 9 0 0 = some cc_ := (hFx27_.2.1 9 0 0 rfl).trans tx6_
          refine sm_T_go 3 (c1 := (94, [some (.inr (.inr (some (9, 0)))), some (.inr (.inr (some (2, cc_)))), some (.inl vx15_), none, none], [.inl 0, .inr (.inr (some (94, 0)))], Sx25_)) rfl ?_
          refine sm_T_cal (d1 := 0) (Q1 := vq_2t4 0 Sx25_) rfl rfl (by decide) (vc_2t4 0 Sx25_ hIx26_ (by decide)) (fun u_ Sx31_ px34_ => ?_)
          obtain ⟨rfl, hIx32_, hFx33_, px34_⟩ := px34_
          have hFx35_ : ai_fr (sx_W vw_168) S0_ Sx31_ := ai_fr_tr hFx29_ (fr_le hFx33_ rfl)
          have tx36_ : Sx31_.2.1 9 0 0 = some cc_ := (hFx33_.2.1 9 0 0 rfl).trans tx30_
          refine sm_T_go 2 (c1 := (99, [some (.inr (.inr (some (9, 0)))), some (.inr (.inr (some (2, cc_)))), some (.inl vx15_), some (.inl 0), none], [], Sx31_)) rfl ?_
          refine (vl_168 cc_ S0_ hs_ _).1 vx15_ 0 Sx31_ hIx32_ hFx35_ ⟨?_, ?_, trivial⟩ (Nat.lt_succ_self _)
          · omega
          · exact tx36_
      · have cx16_ : ¬ (6 < vx15_) := of_decide_eq_false cx16_
        have hIx37_ : gi (sm_pI (sm_pI (sm_pR S0_ 9 0 0 (some cc_)) 9 0 1 (S0_.1 2 cc_ 19)) 9 0 2 1) := gi_pI hIx8_ (show 0 ≤ 1 ∧ 1 ≤ 64 from ⟨by omega, by omega⟩)
        have hFx38_ : ai_fr (sx_W vw_168) S0_ (sm_pI (sm_pI (sm_pR S0_ 9 0 0 (some cc_)) 9 0 1 (S0_.1 2 cc_ 19)) 9 0 2 1) := ai_fr_tr hFx9_ (ai_fr_pI rfl)
        refine sm_T_go 6 (c1 := (62, [some (.inr (.inr (some (9, 0)))), some (.inr (.inr (some (2, cc_)))), some (.inl vx15_), none, none], [.inl 6, .inl vx15_, .inr (.inr (some (9, 0)))], sm_pI (sm_pI (sm_pR S0_ 9 0 0 (some cc_)) 9 0 1 (S0_.1 2 cc_ 19)) 9 0 2 1)) rfl ?_
        refine sm_T_br (a := 2) (z := 9) rfl (fun cx39_ => ?_) (fun cx39_ => ?_)
        · have cx39_ : vx15_ < 6 := of_decide_eq_true cx39_
          refine sm_T_go 3 (c1 := (74, [some (.inr (.inr (some (9, 0)))), some (.inr (.inr (some (2, cc_)))), some (.inl vx15_), none, none], [.inl vx15_, .inl 1, .inr (.inl 1), .inr (.inr (some (9, 0)))], sm_pI (sm_pI (sm_pR S0_ 9 0 0 (some cc_)) 9 0 1 (S0_.1 2 cc_ 19)) 9 0 2 1)) rfl ?_
          refine sm_T_bin (w := (i_shl 1 vx15_)) rfl rfl ?_ -- pc_ 74
          have hIx40_ : gi (sm_pI (sm_pI (sm_pI (sm_pR S0_ 9 0 0 (some cc_)) 9 0 1 (S0_.1 2 cc_ 19)) 9 0 2 1) 9 0 3 ((l_1 ((l_s0 1 (i_shl 1 vx15_))) 1))) := gi_pJ hIx37_ rfl
          have hFx41_ : ai_fr (sx_W vw_168) S0_ (sm_pI (sm_pI (sm_pI (sm_pR S0_ 9 0 0 (some cc_)) 9 0 1 (S0_.1 2 cc_ 19)) 9 0 2 1) 9 0 3 ((l_1 ((l_s0 1 (i_shl 1 vx15_))) 1))) := ai_fr_tr hFx38_ (ai_fr_pI rfl)
          refine sm_T_go 7 (c1 := (86, [some (.inr (.inr (some (9, 0)))), some (.inr (.inr (some (2, cc_)))), some (.inl vx15_), none, none], [.inl 0, .inr (.inr (some (96, 0)))], sm_pI (sm_pI (sm_pI (sm_pR S0_ 9 0 0 (some cc_)) 9 0 1 (S0_.1 2 cc_ 19)) 9 0 2 1) 9 0 3 ((l_1 ((l_s0 1 (i_shl 1 vx15_))) 1)))) rfl ?_
          refine sm_T_cal (d1 := 0) (Q1 := vq_2t6 0 (sm_pI (sm_pI (sm_pI (sm_pR S0_ 9 0 0 (some cc_)) 9 0 1 (S0_.1 2 cc_ 19)) 9 0 2 1) 9 0 3 ((l_1 ((l_s0 1 (i_shl 1 vx15_))) 1)))) rfl rfl (by decide) (vc_2t6 0 (sm_pI (sm_pI (sm_pI (sm_pR S0_ 9 0 0 (some cc_)) 9 0 1 (S0_.1 2 cc_ 19)) 9 0 2 1) 9 0 3 ((l_1 ((l_s0 1 (i_shl 1 vx15_))) 1))) hIx40_ (by decide)) (fun u_ Sx42_ px45_ => ?_)
          obtain ⟨rfl, hIx43_, hFx44_, px45_⟩ := px45_
          have hFx46_ : ai_fr (sx_W vw_168) S0_ Sx42_ := ai_fr_tr hFx41_ (fr_le hFx44_ rfl)
          have tx47_ : Sx42_.2.1 9 0 0 = some cc_ := (hFx44_.2.1 9 0 0 rfl).trans tx6_
          refine sm_T_go 3 (c1 := (94, [some (.inr (.inr (some (9, 0)))), some (.inr (.inr (some (2, cc_)))), some (.inl vx15_), none, none], [.inl 0, .inr (.inr (some (94, 0)))], Sx42_)) rfl ?_
          refine sm_T_cal (d1 := 0) (Q1 := vq_2t4 0 Sx42_) rfl rfl (by decide) (vc_2t4 0 Sx42_ hIx43_ (by decide)) (fun u_ Sx48_ px51_ => ?_)
          obtain ⟨rfl, hIx49_, hFx50_, px51_⟩ := px51_
          have hFx52_ : ai_fr (sx_W vw_168) S0_ Sx48_ := ai_fr_tr hFx46_ (fr_le hFx50_ rfl)
          have tx53_ : Sx48_.2.1 9 0 0 = some cc_ := (hFx50_.2.1 9 0 0 rfl).trans tx47_
          refine sm_T_go 2 (c1 := (99, [some (.inr (.inr (some (9, 0)))), some (.inr (.inr (some (2, cc_)))), some (.inl vx15_), some (.inl 0), none], [], Sx48_)) rfl ?_
          refine (vl_168 cc_ S0_ hs_ _).1 vx15_ 0 Sx48_ hIx49_ hFx52_ ⟨?_, ?_, trivial⟩ (Nat.lt_succ_self _)
          · omega
          · exact tx53_
        · have cx39_ : ¬ (vx15_ < 6) := of_decide_eq_false cx39_
          refine sm_T_nt (u := some (.inr (.inl (-1)))) (S1 := sm_pI (sm_pI (sm_pR S0_ 9 0 0 (some cc_)) 9 0 1 (S0_.1 2 cc_ 19)) 9 0 2 1) rfl rfl rfl ?_
          have hIx54_ : gi (sm_pI (sm_pI (sm_pI (sm_pR S0_ 9 0 0 (some cc_)) 9 0 1 (S0_.1 2 cc_ 19)) 9 0 2 1) 9 0 3 (-1)) := gi_pJ hIx37_ rfl
          have hFx55_ : ai_fr (sx_W vw_168) S0_ (sm_pI (sm_pI (sm_pI (sm_pR S0_ 9 0 0 (some cc_)) 9 0 1 (S0_.1 2 cc_ 19)) 9 0 2 1) 9 0 3 (-1)) := ai_fr_tr hFx38_ (ai_fr_pI rfl)
          refine sm_T_go 5 (c1 := (86, [some (.inr (.inr (some (9, 0)))), some (.inr (.inr (some (2, cc_)))), some (.inl vx15_), none, none], [.inl 0, .inr (.inr (some (96, 0)))], sm_pI (sm_pI (sm_pI (sm_pR S0_ 9 0 0 (some cc_)) 9 0 1 (S0_.1 2 cc_ 19)) 9 0 2 1) 9 0 3 (-1))) rfl ?_
          refine sm_T_cal (d1 := 0) (Q1 := vq_2t6 0 (sm_pI (sm_pI (sm_pI (sm_pR S0_ 9 0 0 (some cc_)) 9 0 1 (S0_.1 2 cc_ 19)) 9 0 2 1) 9 0 3 (-1))) rfl rfl (by decide) (vc_2t6 0 (sm_pI (sm_pI (sm_pI (sm_pR S0_ 9 0 0 (some cc_)) 9 0 1 (S0_.1 2 cc_ 19)) 9 0 2 1) 9 0 3 (-1)) hIx54_ (by decide)) (fun u_ Sx56_ px59_ => ?_)
          obtain ⟨rfl, hIx57_, hFx58_, px59_⟩ := px59_
          have hFx60_ : ai_fr (sx_W vw_168) S0_ Sx56_ := ai_fr_tr hFx55_ (fr_le hFx58_ rfl)
          have tx61_ : Sx56_.2.1 9 0 0 = some cc_ := (hFx58_.2.1 9 0 0 rfl).trans tx6_
          refine sm_T_go 3 (c1 := (94, [some (.inr (.inr (some (9, 0)))), some (.inr (.inr (some (2, cc_)))), some (.inl vx15_), none, none], [.inl 0, .inr (.inr (some (94, 0)))], Sx56_)) rfl ?_
          refine sm_T_cal (d1 := 0) (Q1 := vq_2t4 0 Sx56_) rfl rfl (by decide) (vc_2t4 0 Sx56_ hIx57_ (by decide)) (fun u_ Sx62_ px65_ => ?_)
          obtain ⟨rfl, hIx63_, hFx64_, px65_⟩ := px65_
          have hFx66_ : ai_fr (sx_W vw_168) S0_ Sx62_ := ai_fr_tr hFx60_ (fr_le hFx64_ rfl)
          have tx67_ : Sx62_.2.1 9 0 0 = some cc_ := (hFx64_.2.1 9 0 0 rfl).trans tx61_
          refine sm_T_go 2 (c1 := (99, [some (.inr (.inr (some (9, 0)))), some (.inr (.inr (some (2, cc_)))), some (.inl vx15_), some (.inl 0), none], [], Sx62_)) rfl ?_
          refine (vl_168 cc_ S0_ hs_ _).1 vx15_ 0 Sx62_ hIx63_ hFx66_ ⟨?_, ?_, trivial⟩ (Nat.lt_succ_self _)
          · omega
          · exact tx67_
  | some jx2_ =>
    refine sm_T_gr rfl rfl qx1_ ?_
    refine sm_T_go 1 (c1 := (5, [some (.inr (.inr (some (9, 0)))), some (.inr (.inr (some (2, cc_)))), none, none, none], [.inr (.inr (some (2, cc_))), .inr (.inr (some (2, jx2_)))], S0_)) rfl ?_
    refine sm_T_acn (x_ := some (2, jx2_)) (y_ := some (2, cc_)) rfl rfl (fun cx68_ => ?_) (fun cx68_ => ?_)
    · have cx68_ : jx2_ = cc_ := congrArg Prod.snd (Option.some.inj cx68_)
      have ce9_ := cx68_
      have bx69_ : (-2147483648) ≤ S0_.1 9 0 1 ∧ S0_.1 9 0 1 ≤ 2147483647 := hI_.1 9 0 1 rfl
      have bx70_ : (-2147483648) ≤ S0_.1 2 cc_ 19 ∧ S0_.1 2 cc_ 19 ≤ 2147483647 := hI_.1 2 cc_ 19 rfl
      refine sm_T_go 4 (c1 := (16, [some (.inr (.inr (some (9, 0)))), some (.inr (.inr (some (2, cc_)))), none, none, none], [.inl (S0_.1 2 cc_ 19), .inl (S0_.1 9 0 1)], S0_)) rfl ?_
      refine sm_T_br (a := 1) (z := 4) rfl (fun cx71_ => ?_) (fun cx71_ => ?_)
      · have cx71_ : (S0_.1 9 0 1) ≠ (S0_.1 2 cc_ 19) := of_decide_eq_true cx71_
        have hIx72_ : gi (sm_pR S0_ 9 0 0 (some cc_)) := gi_pR hI_
        have hFx73_ : ai_fr (sx_W vw_168) S0_ (sm_pR S0_ 9 0 0 (some cc_)) := ai_fr_tr hF_ (ai_fr_pR rfl)
        have tx74_ : (sm_pR S0_ 9 0 0 (some cc_)).2.1 9 0 0 = some cc_ := (sm_up_self (f := S0_.2.1) (t := 9) (i := 0) (k := 0) (v := some cc_))
        have hIx75_ : gi (sm_pI (sm_pR S0_ 9 0 0 (some cc_)) 9 0 1 (S0_.1 2 cc_ 19)) := gi_pI hIx72_ (show (-2147483648) ≤ (S0_.1 2 cc_ 19) ∧ (S0_.1 2 cc_ 19) ≤ 2147483647 from ⟨by omega, by omega⟩)
        have hFx76_ : ai_fr (sx_W vw_168) S0_ (sm_pI (sm_pR S0_ 9 0 0 (some cc_)) 9 0 1 (S0_.1 2 cc_ 19)) := ai_fr_tr hFx73_ (ai_fr_pI rfl)
        refine sm_T_go 8 (c1 := (34, [some (.inr (.inr (some (9, 0)))), some (.inr (.inr (some (2, cc_)))), none, none, none], [.inr (.inr (some (2, cc_)))], sm_pI (sm_pR S0_ 9 0 0 (some cc_)) 9 0 1 (S0_.1 2 cc_ 19))) rfl ?_
        refine sm_T_cal (d1 := 0) (Q1 := vq_54 cc_ (sm_pI (sm_pR S0_ 9 0 0 (some cc_)) 9 0 1 (S0_.1 2 cc_ 19))) rfl rfl (by decide) (vc_54 cc_ (sm_pI (sm_pR S0_ 9 0 0 (some cc_)) 9 0 1 (S0_.1 2 cc_ 19)) hIx75_ ) (fun u_ Sx77_ px80_ => ?_)
        obtain ⟨rfl, vx82_, rfl, px80_⟩ := px80_
        have g34_ : vx82_ = S0_.1 2 cc_ 1 + S0_.1 2 cc_ 2 := px80_.2
        refine sm_T_go 4 (c1 := (42, [some (.inr (.inr (some (9, 0)))), some (.inr (.inr (some (2, cc_)))), some (.inl vx82_), none, none], [.inl 6, .inl vx82_, .inr (.inr (some (9, 0)))], sm_pI (sm_pR S0_ 9 0 0 (some cc_)) 9 0 1 (S0_.1 2 cc_ 19))) rfl ?_
        refine sm_T_br (a := 4) (z := 7) rfl (fun cx83_ => ?_) (fun cx83_ => ?_)
        · have cx83_ : 6 < vx82_ := of_decide_eq_true cx83_
          refine sm_T_go 3 (c1 := (53, [some (.inr (.inr (some (9, 0)))), some (.inr (.inr (some (2, cc_)))), some (.inl vx82_), none, none], [.inl 6, .inl vx82_, .inl 1, .inr (.inr (some (9, 0)))], sm_pI (sm_pR S0_ 9 0 0 (some cc_)) 9 0 1 (S0_.1 2 cc_ 19))) rfl ?_
          refine sm_T_bin (w := vx82_ - 6) rfl (bi_sub (by omega) (by omega) (by omega)) ?_ -- pc_ 53
          refine sm_T_bin (w := (i_shl 1 (vx82_ - 6))) rfl rfl ?_ -- pc_ 54
          have bx84_ := i_shl1 (e := (vx82_ - 6)) (by omega) (by omega)
          have p5_ := pw_le (n := ((vx82_ - 6)).toNat) (m := 6) (by omega)
          have p6_ := pw_pos ((vx82_ - 6)).toNat
          have hIx87_ : gi (sm_pI (sm_pI (sm_pR S0_ 9 0 0 (some cc_)) 9 0 1 (S0_.1 2 cc_ 19)) 9 0 2 (i_shl 1 (vx82_ - 6))) := gi_pI hIx75_ (show 0 ≤ (i_shl 1 (vx82_ - 6)) ∧ (i_shl 1 (vx82_ - 6)) ≤ 64 from ⟨by omega, by omega⟩)
          have hFx88_ : ai_fr (sx_W vw_168) S0_ (sm_pI (sm_pI (sm_pR S0_ 9 0 0 (some cc_)) 9 0 1 (S0_.1 2 cc_ 19)) 9 0 2 (i_shl 1 (vx82_ - 6))) := ai_fr_tr hFx76_ (ai_fr_pI rfl)
          refine sm_T_go 4 (c1 := (62, [some (.inr (.inr (some (9, 0)))), some (.inr (.inr (some (2, cc_)))), some (.inl vx82_), none, none], [.inl 6, .inl vx82_, .inr (.inr (some (9, 0)))], sm_pI (sm_pI (sm_pR S0_ 9 0 0 (some cc_)) 9 0 1 (S0_.1 2 cc_ 19)) 9 0 2 (i_shl 1 (vx82_ - 6)))) rfl ?_
          refine sm_T_br (a := 2) (z := 9) rfl (fun cx89_ => ?_) (fun cx89_ => ?_)
          · have cx89_ : vx82_ < 6 := of_decide_eq_true cx89_
            exfalso; omega
          · have cx89_ : ¬ (vx82_ < 6) := of_decide_eq_false cx89_
            refine sm_T_nt (u := some (.inr (.inl (-1)))) (S1 := sm_pI (sm_pI (sm_pR S0_ 9 0 0 (some cc_)) 9 0 1 (S0_.1 2 cc_ 19)) 9 0 2 (i_shl 1 (vx82_ - 6))) rfl rfl rfl ?_
            have hIx90_ : gi (sm_pI (sm_pI (sm_pI (sm_pR S0_ 9 0 0 (some cc_)) 9 0 1 (S0_.1 2 cc_ 19)) 9 0 2 (i_shl 1 (vx82_ - 6))) 9 0 3 (-1)) := gi_pJ hIx87_ rfl
            have hFx91_ : ai_fr (sx_W vw_168) S0_ (sm_pI (sm_pI (sm_pI (sm_pR S0_ 9 0 0 (some cc_)) 9 0 1 (S0_.1 2 cc_ 19)) 9 0 2 (i_shl 1 (vx82_ - 6))) 9 0 3 (-1)) := ai_fr_tr hFx88_ (ai_fr_pI rfl)
            refine sm_T_go 5 (c1 := (86, [some (.inr (.inr (some (9, 0)))), some (.inr (.inr (some (2, cc_)))), some (.inl vx82_), none, none], [.inl 0, .inr (.inr (some (96, 0)))], sm_pI (sm_pI (sm_pI (sm_pR S0_ 9 0 0 (some cc_)) 9 0 1 (S0_.1 2 cc_ 19)) 9 0 2 (i_shl 1 (vx82_ - 6))) 9 0 3 (-1))) rfl ?_
            refine sm_T_cal (d1 := 0) (Q1 := vq_2t6 0 (sm_pI (sm_pI (sm_pI (sm_pR S0_ 9 0 0 (some cc_)) 9 0 1 (S0_.1 2 cc_ 19)) 9 0 2 (i_shl 1 (vx82_ - 6))) 9 0 3 (-1))) rfl rfl (by decide) (vc_2t6 0 (sm_pI (sm_pI (sm_pI (sm_pR S0_ 9 0 0 (some cc_)) 9 0 1 (S0_.1 2 cc_ 19)) 9 0 2 (i_shl 1 (vx82_ - 6))) 9 0 3 (-1)) hIx90_ (by decide)) (fun u_ Sx92_ px95_ => ?_)
            obtain ⟨rfl, hIx93_, hFx94_, px95_⟩ := px95_
            have hFx96_ : ai_fr (sx_W vw_168) S0_ Sx92_ := ai_fr_tr hFx91_ (fr_le hFx94_ rfl)
            have tx97_ : Sx92_.2.1 9 0 0 = some cc_ := (hFx94_.2.1 9 0 0 rfl).trans tx74_
            refine sm_T_go 3 (c1 := (94, [some (.inr (.inr (some (9, 0)))), some (.inr (.inr (some (2, cc_)))), some (.inl vx82_), none, none], [.inl 0, .inr (.inr (some (94, 0)))], Sx92_)) rfl ?_
            refine sm_T_cal (d1 := 0) (Q1 := vq_2t4 0 Sx92_) rfl rfl (by decide) (vc_2t4 0 Sx92_ hIx93_ (by decide)) (fun u_ Sx98_ px101_ => ?_)
            obtain ⟨rfl, hIx99_, hFx100_, px101_⟩ := px101_
            have hFx102_ : ai_fr (sx_W vw_168) S0_ Sx98_ := ai_fr_tr hFx96_ (fr_le hFx100_ rfl)
            have tx103_ : Sx98_.2.1 9 0 0 = some cc_ := (hFx100_.2.1 9 0 0 rfl).trans tx97_
            refine sm_T_go 2 (c1 := (99, [some (.inr (.inr (some (9, 0)))), some (.inr (.inr (some (2, cc_)))), some (.inl vx82_), some (.inl 0), none], [], Sx98_)) rfl ?_
            refine (vl_168 cc_ S0_ hs_ _).1 vx82_ 0 Sx98_ hIx99_ hFx102_ ⟨?_, ?_, trivial⟩ (Nat.lt_succ_self _)
            · omega
            · exact tx103_
        · have cx83_ : ¬ (6 < vx82_) := of_decide_eq_false cx83_
          have hIx104_ : gi (sm_pI (sm_pI (sm_pR S0_ 9 0 0 (some cc_)) 9 0 1 (S0_.1 2 cc_ 19)) 9 0 2 1) := gi_pI hIx75_ (show 0 ≤ 1 ∧ 1 ≤ 64 from ⟨by omega, by omega⟩)
          have hFx105_ : ai_fr (sx_W vw_168) S0_ (sm_pI (sm_pI (sm_pR S0_ 9 0 0 (some cc_)) 9 0 1 (S0_.1 2 cc_ 19)) 9 0 2 1) := ai_fr_tr hFx76_ (ai_fr_pI rfl)
          refine sm_T_go 6 (c1 := (62, [some (.inr (.inr (some (9, 0)))), some (.inr (.inr (some (2, cc_)))), some (.inl vx82_), none, none], [.inl 6, .inl vx82_, .inr (.inr (some (9, 0)))], sm_pI (sm_pI (sm_pR S0_ 9 0 0 (some cc_)) 9 0 1 (S0_.1 2 cc_ 19)) 9 0 2 1)) rfl ?_
          refine sm_T_br (a := 2) (z := 9) rfl (fun cx106_ => ?_) (fun cx106_ => ?_)
          · have cx106_ : vx82_ < 6 := of_decide_eq_true cx106_
            refine sm_T_go 3 (c1 := (74, [some (.inr (.inr (some (9, 0)))), some (.inr (.inr (some (2, cc_)))), some (.inl vx82_), none, none], [.inl vx82_, .inl 1, .inr (.inl 1), .inr (.inr (some (9, 0)))], sm_pI (sm_pI (sm_pR S0_ 9 0 0 (some cc_)) 9 0 1 (S0_.1 2 cc_ 19)) 9 0 2 1)) rfl ?_
            refine sm_T_bin (w := (i_shl 1 vx82_)) rfl rfl ?_ -- pc_ 74
            have hIx107_ : gi (sm_pI (sm_pI (sm_pI (sm_pR S0_ 9 0 0 (some cc_)) 9 0 1 (S0_.1 2 cc_ 19)) 9 0 2 1) 9 0 3 ((l_1 ((l_s0 1 (i_shl 1 vx82_))) 1))) := gi_pJ hIx104_ rfl
            have hFx108_ : ai_fr (sx_W vw_168) S0_ (sm_pI (sm_pI (sm_pI (sm_pR S0_ 9 0 0 (some cc_)) 9 0 1 (S0_.1 2 cc_ 19)) 9 0 2 1) 9 0 3 ((l_1 ((l_s0 1 (i_shl 1 vx82_))) 1))) := ai_fr_tr hFx105_ (ai_fr_pI rfl)
            refine sm_T_go 7 (c1 := (86, [some (.inr (.inr (some (9, 0)))), some (.inr (.inr (some (2, cc_)))), some (.inl vx82_), none, none], [.inl 0, .inr (.inr (some (96, 0)))], sm_pI (sm_pI (sm_pI (sm_pR S0_ 9 0 0 (some cc_)) 9 0 1 (S0_.1 2 cc_ 19)) 9 0 2 1) 9 0 3 ((l_1 ((l_s0 1 (i_shl 1 vx82_))) 1)))) rfl ?_
            refine sm_T_cal (d1 := 0) (Q1 := vq_2t6 0 (sm_pI (sm_pI (sm_pI (sm_pR S0_ 9 0 0 (some cc_)) 9 0 1 (S0_.1 2 cc_ 19)) 9 0 2 1) 9 0 3 ((l_1 ((l_s0 1 (i_shl 1 vx82_))) 1)))) rfl rfl (by decide) (vc_2t6 0 (sm_pI (sm_pI (sm_pI (sm_pR S0_ 9 0 0 (some cc_)) 9 0 1 (S0_.1 2 cc_ 19)) 9 0 2 1) 9 0 3 ((l_1 ((l_s0 1 (i_shl 1 vx82_))) 1))) hIx107_ (by decide)) (fun u_ Sx109_ px112_ => ?_)
            obtain ⟨rfl, hIx110_, hFx111_, px112_⟩ := px112_
            have hFx113_ : ai_fr (sx_W vw_168) S0_ Sx109_ := ai_fr_tr hFx108_ (fr_le hFx111_ rfl)
            have tx114_ : Sx109_.2.1 9 0 0 = some cc_ := (hFx111_.2.1 9 0 0 rfl).trans tx74_
            refine sm_T_go 3 (c1 := (94, [some (.inr (.inr (some (9, 0)))), some (.inr (.inr (some (2, cc_)))), some (.inl vx82_), none, none], [.inl 0, .inr (.inr (some (94, 0)))], Sx109_)) rfl ?_
            refine sm_T_cal (d1 := 0) (Q1 := vq_2t4 0 Sx109_) rfl rfl (by decide) (vc_2t4 0 Sx109_ hIx110_ (by decide)) (fun u_ Sx115_ px118_ => ?_)
            obtain ⟨rfl, hIx116_, hFx117_, px118_⟩ := px118_
            have hFx119_ : ai_fr (sx_W vw_168) S0_ Sx115_ := ai_fr_tr hFx113_ (fr_le hFx117_ rfl)
            have tx120_ : Sx115_.2.1 9 0 0 = some cc_ := (hFx117_.2.1 9 0 0 rfl).trans tx114_
            refine sm_T_go 2 (c1 := (99, [some (.inr (.inr (some (9, 0)))), some (.inr (.inr (some (2, cc_)))), some (.inl vx82_), some (.inl 0), none], [], Sx115_)) rfl ?_
            refine (vl_168 cc_ S0_ hs_ _).1 vx82_ 0 Sx115_ hIx116_ hFx119_ ⟨?_, ?_, trivial⟩ (Nat.lt_succ_self _)
            · omega
            · exact tx120_
          · have cx106_ : ¬ (vx82_ < 6) := of_decide_eq_false cx106_
            refine sm_T_nt (u := some (.inr (.inl (-1)))) (S1 := sm_pI (sm_pI (sm_pR S0_ 9 0 0 (some cc_)) 9 0 1 (S0_.1 2 cc_ 19)) 9 0 2 1) rfl rfl rfl ?_
            have hIx121_ : gi (sm_pI (sm_pI (sm_pI (sm_pR S0_ 9 0 0 (some cc_)) 9 0 1 (S0_.1 2 cc_ 19)) 9 0 2 1) 9 0 3 (-1)) := gi_pJ hIx104_ rfl
            have hFx122_ : ai_fr (sx_W vw_168) S0_ (sm_pI (sm_pI (sm_pI (sm_pR S0_ 9 0 0 (some cc_)) 9 0 1 (S0_.1 2 cc_ 19)) 9 0 2 1) 9 0 3 (-1)) := ai_fr_tr hFx105_ (ai_fr_pI rfl)
            refine sm_T_go 5 (c1 := (86, [some (.inr (.inr (some (9, 0)))), some (.inr (.inr (some (2, cc_)))), some (.inl vx82_), none, none], [.inl 0, .inr (.inr (some (96, 0)))], sm_pI (sm_pI (sm_pI (sm_pR S0_ 9 0 0 (some cc_)) 9 0 1 (S0_.1 2 cc_ 19)) 9 0 2 1) 9 0 3 (-1))) rfl ?_
            refine sm_T_cal (d1 := 0) (Q1 := vq_2t6 0 (sm_pI (sm_pI (sm_pI (sm_pR S0_ 9 0 0 (some cc_)) 9 0 1 (S0_.1 2 cc_ 19)) 9 0 2 1) 9 0 3 (-1))) rfl rfl (by decide) (vc_2t6 0 (sm_pI (sm_pI (sm_pI (sm_pR S0_ 9 0 0 (some cc_)) 9 0 1 (S0_.1 2 cc_ 19)) 9 0 2 1) 9 0 3 (-1)) hIx121_ (by decide)) (fun u_ Sx123_ px126_ => ?_)
            obtain ⟨rfl, hIx124_, hFx125_, px126_⟩ := px126_
            have hFx127_ : ai_fr (sx_W vw_168) S0_ Sx123_ := ai_fr_tr hFx122_ (fr_le hFx125_ rfl)
            have tx128_ : Sx123_.2.1 9 0 0 = some cc_ := (hFx125_.2.1 9 0 0 rfl).trans tx74_
            refine sm_T_go 3 (c1 := (94, [some (.inr (.inr (some (9, 0)))), some (.inr (.inr (some (2, cc_)))), some (.inl vx82_), none, none], [.inl 0, .inr (.inr (some (94, 0)))], Sx123_)) rfl ?_
            refine sm_T_cal (d1 := 0) (Q1 := vq_2t4 0 Sx123_) rfl rfl (by decide) (vc_2t4 0 Sx123_ hIx124_ (by decide)) (fun u_ Sx129_ px132_ => ?_)
            obtain ⟨rfl, hIx130_, hFx131_, px132_⟩ := px132_
            have hFx133_ : ai_fr (sx_W vw_168) S0_ Sx129_ := ai_fr_tr hFx127_ (fr_le hFx131_ rfl)
            have tx134_ : Sx129_.2.1 9 0 0 = some cc_ := (hFx131_.2.1 9 0 0 rfl).trans tx128_
            refine sm_T_go 2 (c1 := (99, [some (.inr (.inr (some (9, 0)))), some (.inr (.inr (some (2, cc_)))), some (.inl vx82_), some (.inl 0), none], [], Sx129_)) rfl ?_
            refine (vl_168 cc_ S0_ hs_ _).1 vx82_ 0 Sx129_ hIx130_ hFx133_ ⟨?_, ?_, trivial⟩ (Nat.lt_succ_self _)
            · omega
            · exact tx134_
      · have cx71_ : ¬ ((S0_.1 9 0 1) ≠ (S0_.1 2 cc_ 19)) := of_decide_eq_false cx71_
        refine sm_T_rv rfl ⟨_, _, rfl, rfl, hI_, hF_, ?_⟩
        rw [← ce9_]
        exact qx1_
    · skip
      have hIx135_ : gi (sm_pR S0_ 9 0 0 (some cc_)) := gi_pR hI_
      have hFx136_ : ai_fr (sx_W vw_168) S0_ (sm_pR S0_ 9 0 0 (some cc_)) := ai_fr_tr hF_ (ai_fr_pR rfl)
      have tx137_ : (sm_pR S0_ 9 0 0 (some cc_)).2.1 9 0 0 = some cc_ := (sm_up_self (f := S0_.2.1) (t := 9) (i := 0) (k := 0) (v := some cc_))
      have bx138_ : (-2147483648) ≤ S0_.1 2 cc_ 19 ∧ S0_.1 2 cc_ 19 ≤ 2147483647 := hI_.1 2 cc_ 19 rfl
      have hIx139_ : gi (sm_pI (sm_pR S0_ 9 0 0 (some cc_)) 9 0 1 (S0_.1 2 cc_ 19)) := gi_pI hIx135_ (show (-2147483648) ≤ (S0_.1 2 cc_ 19) ∧ (S0_.1 2 cc_ 19) ≤ 2147483647 from ⟨by omega, by omega⟩)
      have hFx140_ : ai_fr (sx_W vw_168) S0_ (sm_pI (sm_pR S0_ 9 0 0 (some cc_)) 9 0 1 (S0_.1 2 cc_ 19)) := ai_fr_tr hFx136_ (ai_fr_pI rfl)
      refine sm_T_go 8 (c1 := (34, [some (.inr (.inr (some (9, 0)))), some (.inr (.inr (some (2, cc_)))), none, none, none], [.inr (.inr (some (2, cc_)))], sm_pI (sm_pR S0_ 9 0 0 (some cc_)) 9 0 1 (S0_.1 2 cc_ 19))) rfl ?_
      refine sm_T_cal (d1 := 0) (Q1 := vq_54 cc_ (sm_pI (sm_pR S0_ 9 0 0 (some cc_)) 9 0 1 (S0_.1 2 cc_ 19))) rfl rfl (by decide) (vc_54 cc_ (sm_pI (sm_pR S0_ 9 0 0 (some cc_)) 9 0 1 (S0_.1 2 cc_ 19)) hIx139_ ) (fun u_ Sx141_ px144_ => ?_)
      obtain ⟨rfl, vx146_, rfl, px144_⟩ := px144_
      have g34_ : vx146_ = S0_.1 2 cc_ 1 + S0_.1 2 cc_ 2 := px144_.2
      refine sm_T_go 4 (c1 := (42, [some (.inr (.inr (some (9, 0)))), some (.inr (.inr (some (2, cc_)))), some (.inl vx146_), none, none], [.inl 6, .inl vx146_, .inr (.inr (some (9, 0)))], sm_pI (sm_pR S0_ 9 0 0 (some cc_)) 9 0 1 (S0_.1 2 cc_ 19))) rfl ?_
      refine sm_T_br (a := 4) (z := 7) rfl (fun cx147_ => ?_) (fun cx147_ => ?_)
      · have cx147_ : 6 < vx146_ := of_decide_eq_true cx147_
        refine sm_T_go 3 (c1 := (53, [some (.inr (.inr (some (9, 0)))), some (.inr (.inr (some (2, cc_)))), some (.inl vx146_), none, none], [.inl 6, .inl vx146_, .inl 1, .inr (.inr (some (9, 0)))], sm_pI (sm_pR S0_ 9 0 0 (some cc_)) 9 0 1 (S0_.1 2 cc_ 19))) rfl ?_
        refine sm_T_bin (w := vx146_ - 6) rfl (bi_sub (by omega) (by omega) (by omega)) ?_ -- pc_ 53
        refine sm_T_bin (w := (i_shl 1 (vx146_ - 6))) rfl rfl ?_ -- pc_ 54
        have bx148_ := i_shl1 (e := (vx146_ - 6)) (by omega) (by omega)
        have p5_ := pw_le (n := ((vx146_ - 6)).toNat) (m := 6) (by omega)
        have p6_ := pw_pos ((vx146_ - 6)).toNat
        have hIx151_ : gi (sm_pI (sm_pI (sm_pR S0_ 9 0 0 (some cc_)) 9 0 1 (S0_.1 2 cc_ 19)) 9 0 2 (i_shl 1 (vx146_ - 6))) := gi_pI hIx139_ (show 0 ≤ (i_shl 1 (vx146_ - 6)) ∧ (i_shl 1 (vx146_ - 6)) ≤ 64 from ⟨by omega, by omega⟩)
        have hFx152_ : ai_fr (sx_W vw_168) S0_ (sm_pI (sm_pI (sm_pR S0_ 9 0 0 (some cc_)) 9 0 1 (S0_.1 2 cc_ 19)) 9 0 2 (i_shl 1 (vx146_ - 6))) := ai_fr_tr hFx140_ (ai_fr_pI rfl)
        refine sm_T_go 4 (c1 := (62, [some (.inr (.inr (some (9, 0)))), some (.inr (.inr (some (2, cc_)))), some (.inl vx146_), none, none], [.inl 6, .inl vx146_, .inr (.inr (some (9, 0)))], sm_pI (sm_pI (sm_pR S0_ 9 0 0 (some cc_)) 9 0 1 (S0_.1 2 cc_ 19)) 9 0 2 (i_shl 1 (vx146_ - 6)))) rfl ?_
        refine sm_T_br (a := 2) (z := 9) rfl (fun cx153_ => ?_) (fun cx153_ => ?_)
        · have cx153_ : vx146_ < 6 := of_decide_eq_true cx153_
          exfalso; omega
        · have cx153_ : ¬ (vx146_ < 6) := of_decide_eq_false cx153_
          refine sm_T_nt (u := some (.inr (.inl (-1)))) (S1 := sm_pI (sm_pI (sm_pR S0_ 9 0 0 (some cc_)) 9 0 1 (S0_.1 2 cc_ 19)) 9 0 2 (i_shl 1 (vx146_ - 6))) rfl rfl rfl ?_
          have hIx154_ : gi (sm_pI (sm_pI (sm_pI (sm_pR S0_ 9 0 0 (some cc_)) 9 0 1 (S0_.1 2 cc_ 19)) 9 0 2 (i_shl 1 (vx146_ - 6))) 9 0 3 (-1)) := gi_pJ hIx151_ rfl
          have hFx155_ : ai_fr (sx_W vw_168) S0_ (sm_pI (sm_pI (sm_pI (sm_pR S0_ 9 0 0 (some cc_)) 9 0 1 (S0_.1 2 cc_ 19)) 9 0 2 (i_shl 1 (vx146_ - 6))) 9 0 3 (-1)) := ai_fr_tr hFx152_ (ai_fr_pI rfl)
          refine sm_T_go 5 (c1 := (86, [some (.inr (.inr (some (9, 0)))), some (.inr (.inr (some (2, cc_)))), some (.inl vx146_), none, none], [.inl 0, .inr (.inr (some (96, 0)))], sm_pI (sm_pI (sm_pI (sm_pR S0_ 9 0 0 (some cc_)) 9 0 1 (S0_.1 2 cc_ 19)) 9 0 2 (i_shl 1 (vx146_ - 6))) 9 0 3 (-1))) rfl ?_
          refine sm_T_cal (d1 := 0) (Q1 := vq_2t6 0 (sm_pI (sm_pI (sm_pI (sm_pR S0_ 9 0 0 (some cc_)) 9 0 1 (S0_.1 2 cc_ 19)) 9 0 2 (i_shl 1 (vx146_ - 6))) 9 0 3 (-1))) rfl rfl (by decide) (vc_2t6 0 (sm_pI (sm_pI (sm_pI (sm_pR S0_ 9 0 0 (some cc_)) 9 0 1 (S0_.1 2 cc_ 19)) 9 0 2 (i_shl 1 (vx146_ - 6))) 9 0 3 (-1)) hIx154_ (by decide)) (fun u_ Sx156_ px159_ => ?_)
          obtain ⟨rfl, hIx157_, hFx158_, px159_⟩ := px159_
          have hFx160_ : ai_fr (sx_W vw_168) S0_ Sx156_ := ai_fr_tr hFx155_ (fr_le hFx158_ rfl)
          have tx161_ : Sx156_.2.1 9 0 0 = some cc_ := (hFx158_.2.1 9 0 0 rfl).trans tx137_
          refine sm_T_go 3 (c1 := (94, [some (.inr (.inr (some (9, 0)))), some (.inr (.inr (some (2, cc_)))), some (.inl vx146_), none, none], [.inl 0, .inr (.inr (some (94, 0)))], Sx156_)) rfl ?_
          refine sm_T_cal (d1 := 0) (Q1 := vq_2t4 0 Sx156_) rfl rfl (by decide) (vc_2t4 0 Sx156_ hIx157_ (by decide)) (fun u_ Sx162_ px165_ => ?_)
          obtain ⟨rfl, hIx163_, hFx164_, px165_⟩ := px165_
          have hFx166_ : ai_fr (sx_W vw_168) S0_ Sx162_ := ai_fr_tr hFx160_ (fr_le hFx164_ rfl)
          have tx167_ : Sx162_.2.1 9 0 0 = some cc_ := (hFx164_.2.1 9 0 0 rfl).trans tx161_
          refine sm_T_go 2 (c1 := (99, [some (.inr (.inr (some (9, 0)))), some (.inr (.inr (some (2, cc_)))), some (.inl vx146_), some (.inl 0), none], [], Sx162_)) rfl ?_
          refine (vl_168 cc_ S0_ hs_ _).1 vx146_ 0 Sx162_ hIx163_ hFx166_ ⟨?_, ?_, trivial⟩ (Nat.lt_succ_self _)
          · omega
          · exact tx167_
      · have cx147_ : ¬ (6 < vx146_) := of_decide_eq_false cx147_
        have hIx168_ : gi (sm_pI (sm_pI (sm_pR S0_ 9 0 0 (some cc_)) 9 0 1 (S0_.1 2 cc_ 19)) 9 0 2 1) := gi_pI hIx139_ (show 0 ≤ 1 ∧ 1 ≤ 64 from ⟨by omega, by omega⟩)
        have hFx169_ : ai_fr (sx_W vw_168) S0_ (sm_pI (sm_pI (sm_pR S0_ 9 0 0 (some cc_)) 9 0 1 (S0_.1 2 cc_ 19)) 9 0 2 1) := ai_fr_tr hFx140_ (ai_fr_pI rfl)
        refine sm_T_go 6 (c1 := (62, [some (.inr (.inr (some (9, 0)))), some (.inr (.inr (some (2, cc_)))), some (.inl vx146_), none, none], [.inl 6, .inl vx146_, .inr (.inr (some (9, 0)))], sm_pI (sm_pI (sm_pR S0_ 9 0 0 (some cc_)) 9 0 1 (S0_.1 2 cc_ 19)) 9 0 2 1)) rfl ?_
        refine sm_T_br (a := 2) (z := 9) rfl (fun cx170_ => ?_) (fun cx170_ => ?_)
        · have cx170_ : vx146_ < 6 := of_decide_eq_true cx170_
          refine sm_T_go 3 (c1 := (74, [some (.inr (.inr (some (9, 0)))), some (.inr (.inr (some (2, cc_)))), some (.inl vx146_), none, none], [.inl vx146_, .inl 1, .inr (.inl 1), .inr (.inr (some (9, 0)))], sm_pI (sm_pI (sm_pR S0_ 9 0 0 (some cc_)) 9 0 1 (S0_.1 2 cc_ 19)) 9 0 2 1)) rfl ?_
          refine sm_T_bin (w := (i_shl 1 vx146_)) rfl rfl ?_ -- pc_ 74
          have hIx171_ : gi (sm_pI (sm_pI (sm_pI (sm_pR S0_ 9 0 0 (some cc_)) 9 0 1 (S0_.1 2 cc_ 19)) 9 0 2 1) 9 0 3 ((l_1 ((l_s0 1 (i_shl 1 vx146_))) 1))) := gi_pJ hIx168_ rfl
          have hFx172_ : ai_fr (sx_W vw_168) S0_ (sm_pI (sm_pI (sm_pI (sm_pR S0_ 9 0 0 (some cc_)) 9 0 1 (S0_.1 2 cc_ 19)) 9 0 2 1) 9 0 3 ((l_1 ((l_s0 1 (i_shl 1 vx146_))) 1))) := ai_fr_tr hFx169_ (ai_fr_pI rfl)
          refine sm_T_go 7 (c1 := (86, [some (.inr (.inr (some (9, 0)))), some (.inr (.inr (some (2, cc_)))), some (.inl vx146_), none, none], [.inl 0, .inr (.inr (some (96, 0)))], sm_pI (sm_pI (sm_pI (sm_pR S0_ 9 0 0 (some cc_)) 9 0 1 (S0_.1 2 cc_ 19)) 9 0 2 1) 9 0 3 ((l_1 ((l_s0 1 (i_shl 1 vx146_))) 1)))) rfl ?_
          refine sm_T_cal (d1 := 0) (Q1 := vq_2t6 0 (sm_pI (sm_pI (sm_pI (sm_pR S0_ 9 0 0 (some cc_)) 9 0 1 (S0_.1 2 cc_ 19)) 9 0 2 1) 9 0 3 ((l_1 ((l_s0 1 (i_shl 1 vx146_))) 1)))) rfl rfl (by decide) (vc_2t6 0 (sm_pI (sm_pI (sm_pI (sm_pR S0_ 9 0 0 (some cc_)) 9 0 1 (S0_.1 2 cc_ 19)) 9 0 2 1) 9 0 3 ((l_1 ((l_s0 1 (i_shl 1 vx146_))) 1))) hIx171_ (by decide)) (fun u_ Sx173_ px176_ => ?_)
          obtain ⟨rfl, hIx174_, hFx175_, px176_⟩ := px176_
          have hFx177_ : ai_fr (sx_W vw_168) S0_ Sx173_ := ai_fr_tr hFx172_ (fr_le hFx175_ rfl)
          have tx178_ : Sx173_.2.1 9 0 0 = some cc_ := (hFx175_.2.1 9 0 0 rfl).trans tx137_
          refine sm_T_go 3 (c1 := (94, [some (.inr (.inr (some (9, 0)))), some (.inr (.inr (some (2, cc_)))), some (.inl vx146_), none, none], [.inl 0, .inr (.inr (some (94, 0)))], Sx173_)) rfl ?_
          refine sm_T_cal (d1 := 0) (Q1 := vq_2t4 0 Sx173_) rfl rfl (by decide) (vc_2t4 0 Sx173_ hIx174_ (by decide)) (fun u_ Sx179_ px182_ => ?_)
          obtain ⟨rfl, hIx180_, hFx181_, px182_⟩ := px182_
          have hFx183_ : ai_fr (sx_W vw_168) S0_ Sx179_ := ai_fr_tr hFx177_ (fr_le hFx181_ rfl)
          have tx184_ : Sx179_.2.1 9 0 0 = some cc_ := (hFx181_.2.1 9 0 0 rfl).trans tx178_
          refine sm_T_go 2 (c1 := (99, [some (.inr (.inr (some (9, 0)))), some (.inr (.inr (some (2, cc_)))), some (.inl vx146_), some (.inl 0), none], [], Sx179_)) rfl ?_
          refine (vl_168 cc_ S0_ hs_ _).1 vx146_ 0 Sx179_ hIx180_ hFx183_ ⟨?_, ?_, trivial⟩ (Nat.lt_succ_self _)
          · omega
          · exact tx184_
        · have cx170_ : ¬ (vx146_ < 6) := of_decide_eq_false cx170_
          refine sm_T_nt (u := some (.inr (.inl (-1)))) (S1 := sm_pI (sm_pI (sm_pR S0_ 9 0 0 (some cc_)) 9 0 1 (S0_.1 2 cc_ 19)) 9 0 2 1) rfl rfl rfl ?_
          have hIx185_ : gi (sm_pI (sm_pI (sm_pI (sm_pR S0_ 9 0 0 (some cc_)) 9 0 1 (S0_.1 2 cc_ 19)) 9 0 2 1) 9 0 3 (-1)) := gi_pJ hIx168_ rfl
          have hFx186_ : ai_fr (sx_W vw_168) S0_ (sm_pI (sm_pI (sm_pI (sm_pR S0_ 9 0 0 (some cc_)) 9 0 1 (S0_.1 2 cc_ 19)) 9 0 2 1) 9 0 3 (-1)) := ai_fr_tr hFx169_ (ai_fr_pI rfl)
          refine sm_T_go 5 (c1 := (86, [some (.inr (.inr (some (9, 0)))), some (.inr (.inr (some (2, cc_)))), some (.inl vx146_), none, none], [.inl 0, .inr (.inr (some (96, 0)))], sm_pI (sm_pI (sm_pI (sm_pR S0_ 9 0 0 (some cc_)) 9 0 1 (S0_.1 2 cc_ 19)) 9 0 2 1) 9 0 3 (-1))) rfl ?_
          refine sm_T_cal (d1 := 0) (Q1 := vq_2t6 0 (sm_pI (sm_pI (sm_pI (sm_pR S0_ 9 0 0 (some cc_)) 9 0 1 (S0_.1 2 cc_ 19)) 9 0 2 1) 9 0 3 (-1))) rfl rfl (by decide) (vc_2t6 0 (sm_pI (sm_pI (sm_pI (sm_pR S0_ 9 0 0 (some cc_)) 9 0 1 (S0_.1 2 cc_ 19)) 9 0 2 1) 9 0 3 (-1)) hIx185_ (by decide)) (fun u_ Sx187_ px190_ => ?_)
          obtain ⟨rfl, hIx188_, hFx189_, px190_⟩ := px190_
          have hFx191_ : ai_fr (sx_W vw_168) S0_ Sx187_ := ai_fr_tr hFx186_ (fr_le hFx189_ rfl)
          have tx192_ : Sx187_.2.1 9 0 0 = some cc_ := (hFx189_.2.1 9 0 0 rfl).trans tx137_
          refine sm_T_go 3 (c1 := (94, [some (.inr (.inr (some (9, 0)))), some (.inr (.inr (some (2, cc_)))), some (.inl vx146_), none, none], [.inl 0, .inr (.inr (some (94, 0)))], Sx187_)) rfl ?_
          refine sm_T_cal (d1 := 0) (Q1 := vq_2t4 0 Sx187_) rfl rfl (by decide) (vc_2t4 0 Sx187_ hIx188_ (by decide)) (fun u_ Sx193_ px196_ => ?_)
          obtain ⟨rfl, hIx194_, hFx195_, px196_⟩ := px196_
          have hFx197_ : ai_fr (sx_W vw_168) S0_ Sx193_ := ai_fr_tr hFx191_ (fr_le hFx195_ rfl)
          have tx198_ : Sx193_.2.1 9 0 0 = some cc_ := (hFx195_.2.1 9 0 0 rfl).trans tx192_
          refine sm_T_go 2 (c1 := (99, [some (.inr (.inr (some (9, 0)))), some (.inr (.inr (some (2, cc_)))), some (.inl vx146_), some (.inl 0), none], [], Sx193_)) rfl ?_
          refine (vl_168 cc_ S0_ hs_ _).1 vx146_ 0 Sx193_ hIx194_ hFx197_ ⟨?_, ?_, trivial⟩ (Nat.lt_succ_self _)
          · omega
          · exact tx198_
end
/-! 99.zl7a -/
section
/-! tests: faults; written by wip/p55/gen/vg -/
/-! java/util/Arrays.fill -/
def vw_5h5 : sx_Wl := ([], [95], [])
def vq_5h5 (fr_ : Int) (to_ : Int) (v0_ : Int) (S0_ : sm_S) (u_ : Option sm_V) (S1_ : sm_S) : Prop := u_ = none ∧ gi S1_ ∧ ai_fr (sx_W vw_5h5) S0_ S1_ ∧ (∀ k_, S1_.2.2.2 95 0 k_ = S0_.2.2.2 95 0 k_ ∨ S1_.2.2.2 95 0 k_ = v0_)
set_option maxHeartbeats 400000 in
theorem vl_5h5 {sc_ : Nat × (Nat → Int)} (fr_ : Int) (to_ : Int) (v0_ : Int) (S0_ : sm_S) (ht_ : 0 ≤ fr_ ∧ fr_ ≤ to_ ∧ to_ ≤ 78336) : ∀ nn_ : Nat, (∀ (k_ : Int) (S_ : sm_S), gi S_ → ai_fr (sx_W vw_5h5) S0_ S_ → ((fr_ ≤ k_ ∧ k_ ≤ to_) ∧ (∀ j_, S_.2.2.2 95 0 j_ = S0_.2.2.2 95 0 j_ ∨ S_.2.2.2 95 0 j_ = v0_) ∧ True) → ((78341 - k_).toNat) < nn_ → sm_T (mt_P sc_) 1 5 (10, [some (.inr (.inr (some (95, 0)))), some (.inl fr_), some (.inl to_), some (.inr (.inl v0_)), none, some (.inl k_)], [], S_) (fun ro9_ => ∃ u_ S1_, ro9_ = (.inl u_, S1_, 0) ∧ vq_5h5 fr_ to_ v0_ S0_ u_ S1_)) := by
  intro nn_
  induction nn_ with
  | zero => exact fun _ _ _ _ _ h_ => absurd h_ (Nat.not_lt_zero _)
  | succ nn_ ih_ =>
    rintro k_ S_ hI_ hF_ ⟨h0_, h1_, -⟩ hm_
    refine sm_T_go 2 (c1 := (13, [some (.inr (.inr (some (95, 0)))), some (.inl fr_), some (.inl to_), some (.inr (.inl v0_)), none, some (.inl k_)], [.inl to_, .inl k_], S_)) rfl ?_
    refine sm_T_br (a := 3) (z := 14) rfl (fun cx1_ => ?_) (fun cx1_ => ?_)
    · have cx1_ : to_ ≤ k_ := of_decide_eq_true cx1_
      refine sm_T_rv rfl ⟨_, _, rfl, rfl, hI_, hF_, ?_⟩
      exact h1_
    · have cx1_ : ¬ (to_ ≤ k_) := of_decide_eq_false cx1_
      refine sm_T_go 3 (c1 := (20, [some (.inr (.inr (some (95, 0)))), some (.inl fr_), some (.inl to_), some (.inr (.inl v0_)), none, some (.inl k_)], [.inr (.inl v0_), .inl k_, .inr (.inr (some (95, 0)))], S_)) rfl ?_
      refine sm_T_last (n := 78336) rfl rfl (by omega) (by omega) ?_
      have hIx2_ : gi (sm_aL S_ 95 0 k_.toNat v0_) := gi_aL hI_
      have hFx3_ : ai_fr (sx_W vw_5h5) S0_ (sm_aL S_ 95 0 k_.toNat v0_) := ai_fr_tr hF_ (ai_fr_aL rfl)
      refine sm_T_inc (a := 5) (z := 1) (v := k_) (w := k_ + 1) rfl rfl (by omega) (by omega) (by omega) ?_ -- pc_ 21
      refine sm_T_go 1 (c1 := (10, [some (.inr (.inr (some (95, 0)))), some (.inl fr_), some (.inl to_), some (.inr (.inl v0_)), none, some (.inl (k_ + 1))], [], sm_aL S_ 95 0 k_.toNat v0_)) rfl ?_
      refine ih_ (k_ + 1) (sm_aL S_ 95 0 k_.toNat v0_) hIx2_ hFx3_ ⟨?_, ?_, trivial⟩ ?_
      · omega
      · intro j_
        rw [rd_leq]
        split
        · right; rfl
        · exact h1_ j_
      · omega
set_option maxHeartbeats 400000 in
theorem vc_5h5 {sc_ : Nat × (Nat → Int)} (fr_ : Int) (to_ : Int) (v0_ : Int) (S0_ : sm_S) (hI_ : gi S0_) (ht_ : 0 ≤ fr_ ∧ fr_ ≤ to_ ∧ to_ ≤ 78336) : sm_T (mt_P sc_) 1 5 (0, [some (.inr (.inr (some (95, 0)))), some (.inl fr_), some (.inl to_), some (.inr (.inl v0_)), none, none], [], S0_) (fun ro9_ => ∃ u_ S1_, ro9_ = (.inl u_, S1_, 0) ∧ vq_5h5 fr_ to_ v0_ S0_ u_ S1_) := by
  have hF_ : ai_fr (sx_W vw_5h5) S0_ S0_ := ai_fr_rf
  refine sm_T_go 4 (c1 := (4, [some (.inr (.inr (some (95, 0)))), some (.inl fr_), some (.inl to_), some (.inr (.inl v0_)), none, none], [.inl to_, .inl fr_, .inl 78336], S0_)) rfl ?_
  refine sm_T_cal (d1 := 0) (Q1 := vq_6 78336 fr_ to_ S0_) rfl rfl (by decide) (vc_6 78336 fr_ to_ S0_ hI_ (by omega)) (fun u_ Sx1_ px4_ => ?_)
  obtain ⟨rfl, hIx2_, hFx3_, px4_⟩ := px4_
  have hFx5_ : ai_fr (sx_W vw_5h5) S0_ Sx1_ := ai_fr_tr hF_ (fr_le hFx3_ rfl)
  refine sm_T_go 2 (c1 := (10, [some (.inr (.inr (some (95, 0)))), some (.inl fr_), some (.inl to_), some (.inr (.inl v0_)), none, some (.inl fr_)], [], Sx1_)) rfl ?_
  refine (vl_5h5 fr_ to_ v0_ S0_ ht_ _) fr_ Sx1_ hIx2_ hFx5_ ⟨?_, ?_, trivial⟩ (Nat.lt_succ_self _)
  · omega
  · (intro j_; first | exact Or.inl rfl | (left; rw [px4_]))
end
/-! 99.zl7b -/
section
/-! java/util/Arrays.fill -/
def vw_5b3 : sx_Wl := ([], [93], [])
def vq_5b3 (fr_ : Int) (to_ : Int) (v0_ : Int) (S0_ : sm_S) (u_ : Option sm_V) (S1_ : sm_S) : Prop := u_ = none ∧ gi S1_ ∧ ai_fr (sx_W vw_5b3) S0_ S1_ ∧ (∀ k_, S1_.2.2.2 93 0 k_ = S0_.2.2.2 93 0 k_ ∨ S1_.2.2.2 93 0 k_ = v0_)
set_option maxHeartbeats 400000 in
theorem vl_5b3 {sc_ : Nat × (Nat → Int)} (fr_ : Int) (to_ : Int) (v0_ : Int) (S0_ : sm_S) (ht_ : 0 ≤ fr_ ∧ fr_ ≤ to_ ∧ to_ ≤ 10368) : ∀ nn_ : Nat, (∀ (k_ : Int) (S_ : sm_S), gi S_ → ai_fr (sx_W vw_5b3) S0_ S_ → ((fr_ ≤ k_ ∧ k_ ≤ to_) ∧ (∀ j_, S_.2.2.2 93 0 j_ = S0_.2.2.2 93 0 j_ ∨ S_.2.2.2 93 0 j_ = v0_) ∧ True) → ((10373 - k_).toNat) < nn_ → sm_T (mt_P sc_) 1 5 (10, [some (.inr (.inr (some (93, 0)))), some (.inl fr_), some (.inl to_), some (.inr (.inl v0_)), none, some (.inl k_)], [], S_) (fun ro9_ => ∃ u_ S1_, ro9_ = (.inl u_, S1_, 0) ∧ vq_5b3 fr_ to_ v0_ S0_ u_ S1_)) := by
  intro nn_
  induction nn_ with
  | zero => exact fun _ _ _ _ _ h_ => absurd h_ (Nat.not_lt_zero _)
  | succ nn_ ih_ =>
    rintro k_ S_ hI_ hF_ ⟨h0_, h1_, -⟩ hm_
    refine sm_T_go 2 (c1 := (13, [some (.inr (.inr (some (93, 0)))), some (.inl fr_), some (.inl to_), some (.inr (.inl v0_)), none, some (.inl k_)], [.inl to_, .inl k_], S_)) rfl ?_
    refine sm_T_br (a := 3) (z := 14) rfl (fun cx1_ => ?_) (fun cx1_ => ?_)
    · have cx1_ : to_ ≤ k_ := of_decide_eq_true cx1_
      refine sm_T_rv rfl ⟨_, _, rfl, rfl, hI_, hF_, ?_⟩
      exact h1_
    · have cx1_ : ¬ (to_ ≤ k_) := of_decide_eq_false cx1_
      refine sm_T_go 3 (c1 := (20, [some (.inr (.inr (some (93, 0)))), some (.inl fr_), some (.inl to_), some (.inr (.inl v0_)), none, some (.inl k_)], [.inr (.inl v0_), .inl k_, .inr (.inr (some (93, 0)))], S_)) rfl ?_
      refine sm_T_last (n := 10368) rfl rfl (by omega) (by omega) ?_
      have hIx2_ : gi (sm_aL S_ 93 0 k_.toNat v0_) := gi_aL hI_
      have hFx3_ : ai_fr (sx_W vw_5b3) S0_ (sm_aL S_ 93 0 k_.toNat v0_) := ai_fr_tr hF_ (ai_fr_aL rfl)
      refine sm_T_inc (a := 5) (z := 1) (v := k_) (w := k_ + 1) rfl rfl (by omega) (by omega) (by omega) ?_ -- pc_ 21
      refine sm_T_go 1 (c1 := (10, [some (.inr (.inr (some (93, 0)))), some (.inl fr_), some (.inl to_), some (.inr (.inl v0_)), none, some (.inl (k_ + 1))], [], sm_aL S_ 93 0 k_.toNat v0_)) rfl ?_
      refine ih_ (k_ + 1) (sm_aL S_ 93 0 k_.toNat v0_) hIx2_ hFx3_ ⟨?_, ?_, trivial⟩ ?_
      · omega
      · intro j_
        rw [rd_leq]
        split
        · right; rfl
        · exact h1_ j_
      · omega
set_option maxHeartbeats 400000 in
theorem vc_5b3 {sc_ : Nat × (Nat → Int)} (fr_ : Int) (to_ : Int) (v0_ : Int) (S0_ : sm_S) (hI_ : gi S0_) (ht_ : 0 ≤ fr_ ∧ fr_ ≤ to_ ∧ to_ ≤ 10368) : sm_T (mt_P sc_) 1 5 (0, [some (.inr (.inr (some (93, 0)))), some (.inl fr_), some (.inl to_), some (.inr (.inl v0_)), none, none], [], S0_) (fun ro9_ => ∃ u_ S1_, ro9_ = (.inl u_, S1_, 0) ∧ vq_5b3 fr_ to_ v0_ S0_ u_ S1_) := by
  have hF_ : ai_fr (sx_W vw_5b3) S0_ S0_ := ai_fr_rf
  refine sm_T_go 4 (c1 := (4, [some (.inr (.inr (some (93, 0)))), some (.inl fr_), some (.inl to_), some (.inr (.inl v0_)), none, none], [.inl to_, .inl fr_, .inl 10368], S0_)) rfl ?_
  refine sm_T_cal (d1 := 0) (Q1 := vq_6 10368 fr_ to_ S0_) rfl rfl (by decide) (vc_6 10368 fr_ to_ S0_ hI_ (by omega)) (fun u_ Sx1_ px4_ => ?_)
  obtain ⟨rfl, hIx2_, hFx3_, px4_⟩ := px4_
  have hFx5_ : ai_fr (sx_W vw_5b3) S0_ Sx1_ := ai_fr_tr hF_ (fr_le hFx3_ rfl)
  refine sm_T_go 2 (c1 := (10, [some (.inr (.inr (some (93, 0)))), some (.inl fr_), some (.inl to_), some (.inr (.inl v0_)), none, some (.inl fr_)], [], Sx1_)) rfl ?_
  refine (vl_5b3 fr_ to_ v0_ S0_ ht_ _) fr_ Sx1_ hIx2_ hFx5_ ⟨?_, ?_, trivial⟩ (Nat.lt_succ_self _)
  · omega
  · (intro j_; first | exact Or.inl rfl | (left; rw [px4_]))
end
/-! 99.zl7c -/
section
/-! Tester.keepShown -/
def vw_175 : sx_Wl := ([], [95], [])
def vq_175 (a1_ : Int) (cc_ : Nat) (S0_ : sm_S) (u_ : Option sm_V) (S1_ : sm_S) : Prop := u_ = none ∧ gi S1_ ∧ ai_fr (sx_W vw_175) S0_ S1_ ∧ (shn S1_)
set_option maxHeartbeats 400000 in
theorem vl_175 {sc_ : Nat × (Nat → Int)} (a1_ : Int) (cc_ : Nat) (S0_ : sm_S) (hb_ : S0_.2.1 9 0 0 = some cc_) (h1_ : 0 ≤ a1_ ∧ a1_ ≤ 1223) (hn_ : shn S0_) : ∀ nn_ : Nat, (∀ (to_ : Int) (e_ : Int) (S_ : sm_S), gi S_ → ai_fr (sx_W vw_175) S0_ S_ → ((to_ = 64 * a1_ ∧ 0 ≤ e_ ∧ e_ ≤ 22) ∧ (shn S_) ∧ True) → ((100 * (100 - e_) + 90).toNat) < nn_ → sm_T (mt_P sc_) 2 175 (20, [some (.inr (.inr (some (9, 0)))), some (.inl a1_), some (.inl to_), some (.inl e_), none, none], [], S_) (fun ro9_ => ∃ u_ S1_, ro9_ = (.inl u_, S1_, 0) ∧ vq_175 a1_ cc_ S0_ u_ S1_)) ∧ (∀ (to_ : Int) (e_ : Int) (nt_ : Int) (w_ : Int) (S_ : sm_S), gi S_ → ai_fr (sx_W vw_175) S0_ S_ → ((to_ = 64 * a1_ ∧ 0 ≤ e_ ∧ e_ < 22 ∧ 0 ≤ nt_ ∧ nt_ ≤ 161 ∧ 0 ≤ w_ ∧ w_ ≤ 64) ∧ (shn S_) ∧ True) → ((100 * (100 - e_) + 80 - w_).toNat) < nn_ → sm_T (mt_P sc_) 2 175 (59, [some (.inr (.inr (some (9, 0)))), some (.inl a1_), some (.inl to_), some (.inl e_), some (.inl nt_), some (.inl w_)], [], S_) (fun ro9_ => ∃ u_ S1_, ro9_ = (.inl u_, S1_, 0) ∧ vq_175 a1_ cc_ S0_ u_ S1_)) := by
  intro nn_
  induction nn_ with
  | zero => exact ⟨fun _ _ _ _ _ _ h_ => absurd h_ (Nat.not_lt_zero _), fun _ _ _ _ _ _ _ _ h_ => absurd h_ (Nat.not_lt_zero _)⟩
  | succ nn_ ih_ =>
    refine ⟨?_, ?_⟩
    · rintro to_ e_ S_ hI_ hF_ ⟨h0_, hn1_, -⟩ hm_
      have z1_ : S_.1 2 cc_ 1 = S0_.1 2 cc_ 1 := hF_.1 2 cc_ 1 rfl
      have z2_ : S_.1 2 cc_ 2 = S0_.1 2 cc_ 2 := hF_.1 2 cc_ 2 rfl
      have co_ : 0 ≤ S_.1 2 cc_ 3 ∧ S_.1 2 cc_ 3 ≤ 16 := hI_.1 2 cc_ 3 rfl
      have cr : 0 ≤ S_.1 2 cc_ 2 ∧ S_.1 2 cc_ 2 ≤ 6 := hI_.1 2 cc_ 2 rfl
      have cw : 0 ≤ S_.1 9 0 2 ∧ S_.1 9 0 2 ≤ 64 := hI_.1 9 0 2 rfl
      refine sm_T_go 2 (c1 := (22, [some (.inr (.inr (some (9, 0)))), some (.inl a1_), some (.inl to_), some (.inl e_), none, none], [.inr (.inr (some (9, 0))), .inl e_], S_)) rfl ?_
      refine sm_T_gr rfl rfl ((hF_.2.1 9 0 0 rfl).trans hb_) ?_
      refine sm_T_cal (d1 := 0) (Q1 := vq_57 cc_ S_) rfl rfl (by decide) (vc_57 cc_ S_ hI_ ) (fun u_ Sx1_ px4_ => ?_)
      obtain ⟨rfl, vx6_, rfl, px4_⟩ := px4_
      have g25_ := px4_
      refine sm_T_br (a := 3) (z := 96) rfl (fun cx7_ => ?_) (fun cx7_ => ?_)
      · have cx7_ : vx6_ ≤ e_ := of_decide_eq_true cx7_
        refine sm_T_rv rfl ⟨_, _, rfl, rfl, hI_, hF_, ?_⟩
        exact hn1_
      · have cx7_ : ¬ (vx6_ ≤ e_) := of_decide_eq_false cx7_
        refine sm_T_go 1 (c1 := (32, [some (.inr (.inr (some (9, 0)))), some (.inl a1_), some (.inl to_), some (.inl e_), none, none], [.inr (.inr (some (9, 0)))], S_)) rfl ?_
        refine sm_T_gr rfl rfl ((hF_.2.1 9 0 0 rfl).trans hb_) ?_
        refine sm_T_go 1 (c1 := (36, [some (.inr (.inr (some (9, 0)))), some (.inl a1_), some (.inl to_), some (.inl e_), none, none], [.inl e_, .inr (.inr (some (2, cc_)))], S_)) rfl ?_
        refine sm_T_cal (d1 := 0) (Q1 := vq_58 e_ cc_ S_) rfl rfl (by decide) (vc_58 e_ cc_ S_ hI_ (by omega)) (fun u_ Sx8_ px11_ => ?_)
        obtain ⟨rfl, vx13_, rfl, px11_⟩ := px11_
        have g36_ := px11_
        refine sm_T_go 2 (c1 := (43, [some (.inr (.inr (some (9, 0)))), some (.inl a1_), some (.inl to_), some (.inl e_), some (.inl vx13_), none], [.inl vx13_], S_)) rfl ?_
        refine sm_T_b0 (a := 2) (z := 75) rfl (fun cx14_ => ?_) (fun cx14_ => ?_)
        · have cx14_ : vx13_ < 0 := of_decide_eq_true cx14_
          refine sm_T_inc (a := 3) (z := 1) (v := e_) (w := e_ + 1) rfl rfl (by omega) (by omega) (by omega) ?_ -- pc_ 118
          refine sm_T_go 1 (c1 := (20, [some (.inr (.inr (some (9, 0)))), some (.inl a1_), some (.inl to_), some (.inl (e_ + 1)), some (.inl vx13_), none], [], S_)) rfl ?_
          refine sm_T_wk [some (.inr (.inr (some (9, 0)))), some (.inl a1_), some (.inl to_), some (.inl (e_ + 1)), none, none] (by exact ⟨rfl, rfl, rfl, rfl, trivial⟩) ?_
          refine ih_.1 to_ (e_ + 1) S_ hI_ hF_ ⟨?_, ?_, trivial⟩ ?_
          · omega
          · exact hn1_
          · omega
        · have cx14_ : ¬ (vx13_ < 0) := of_decide_eq_false cx14_
          refine sm_T_go 3 (c1 := (52, [some (.inr (.inr (some (9, 0)))), some (.inl a1_), some (.inl to_), some (.inl e_), some (.inl vx13_), none], [.inl vx13_, .inr (.inr (some (94, 0)))], S_)) rfl ?_
          refine sm_T_iald (n := 162) rfl rfl (by omega) (by omega) ?_
          have bx15_ : 0 ≤ S_.2.2.1 94 0 vx13_.toNat ∧ S_.2.2.1 94 0 vx13_.toNat ≤ 1 := hI_.2 94 0 _
          refine sm_T_b0 (a := 0) (z := 65) rfl (fun cx16_ => ?_) (fun cx16_ => ?_)
          · have cx16_ : (S_.2.2.1 94 0 vx13_.toNat) = 0 := of_decide_eq_true cx16_
            refine sm_T_inc (a := 3) (z := 1) (v := e_) (w := e_ + 1) rfl rfl (by omega) (by omega) (by omega) ?_ -- pc_ 118
            refine sm_T_go 1 (c1 := (20, [some (.inr (.inr (some (9, 0)))), some (.inl a1_), some (.inl to_), some (.inl (e_ + 1)), some (.inl vx13_), none], [], S_)) rfl ?_
            refine sm_T_wk [some (.inr (.inr (some (9, 0)))), some (.inl a1_), some (.inl to_), some (.inl (e_ + 1)), none, none] (by exact ⟨rfl, rfl, rfl, rfl, trivial⟩) ?_
            refine ih_.1 to_ (e_ + 1) S_ hI_ hF_ ⟨?_, ?_, trivial⟩ ?_
            · omega
            · exact hn1_
            · omega
          · have cx16_ : ¬ ((S_.2.2.1 94 0 vx13_.toNat) = 0) := of_decide_eq_false cx16_
            refine sm_T_go 2 (c1 := (59, [some (.inr (.inr (some (9, 0)))), some (.inl a1_), some (.inl to_), some (.inl e_), some (.inl vx13_), some (.inl 0)], [], S_)) rfl ?_
            refine ih_.2 to_ e_ vx13_ 0 S_ hI_ hF_ ⟨?_, ?_, trivial⟩ ?_
            · omega
            · exact hn1_
            · omega
    · rintro to_ e_ nt_ w_ S_ hI_ hF_ ⟨h0_, hn1_, -⟩ hm_
      have z1_ : S_.1 2 cc_ 1 = S0_.1 2 cc_ 1 := hF_.1 2 cc_ 1 rfl
      have z2_ : S_.1 2 cc_ 2 = S0_.1 2 cc_ 2 := hF_.1 2 cc_ 2 rfl
      have co_ : 0 ≤ S_.1 2 cc_ 3 ∧ S_.1 2 cc_ 3 ≤ 16 := hI_.1 2 cc_ 3 rfl
      have cr : 0 ≤ S_.1 2 cc_ 2 ∧ S_.1 2 cc_ 2 ≤ 6 := hI_.1 2 cc_ 2 rfl
      have cw : 0 ≤ S_.1 9 0 2 ∧ S_.1 9 0 2 ≤ 64 := hI_.1 9 0 2 rfl
      have bx1_ : 0 ≤ S_.1 9 0 2 ∧ S_.1 9 0 2 ≤ 64 := hI_.1 9 0 2 rfl
      refine sm_T_go 3 (c1 := (65, [some (.inr (.inr (some (9, 0)))), some (.inl a1_), some (.inl to_), some (.inl e_), some (.inl nt_), some (.inl w_)], [.inl (S_.1 9 0 2), .inl w_], S_)) rfl ?_
      refine sm_T_br (a := 3) (z := 53) rfl (fun cx2_ => ?_) (fun cx2_ => ?_)
      · have cx2_ : (S_.1 9 0 2) ≤ w_ := of_decide_eq_true cx2_
        refine sm_T_inc (a := 3) (z := 1) (v := e_) (w := e_ + 1) rfl rfl (by omega) (by omega) (by omega) ?_ -- pc_ 118
        refine sm_T_go 1 (c1 := (20, [some (.inr (.inr (some (9, 0)))), some (.inl a1_), some (.inl to_), some (.inl (e_ + 1)), some (.inl nt_), some (.inl w_)], [], S_)) rfl ?_
        refine sm_T_wk [some (.inr (.inr (some (9, 0)))), some (.inl a1_), some (.inl to_), some (.inl (e_ + 1)), none, none] (by exact ⟨rfl, rfl, rfl, rfl, trivial⟩) ?_
        refine ih_.1 to_ (e_ + 1) S_ hI_ hF_ ⟨?_, ?_, trivial⟩ ?_
        · omega
        · exact hn1_
        · omega
      · have cx2_ : ¬ ((S_.1 9 0 2) ≤ w_) := of_decide_eq_false cx2_
        refine sm_T_go 4 (c1 := (75, [some (.inr (.inr (some (9, 0)))), some (.inl a1_), some (.inl to_), some (.inl e_), some (.inl nt_), some (.inl w_)], [.inl w_, .inl to_, .inr (.inr (some (95, 0)))], S_)) rfl ?_
        refine sm_T_bin (w := to_ + w_) rfl (bi_add (by omega) (by omega) (by omega)) ?_ -- pc_ 75
        refine sm_T_go 1 (c1 := (77, [some (.inr (.inr (some (9, 0)))), some (.inl a1_), some (.inl to_), some (.inl e_), some (.inl nt_), some (.inl w_)], [.inl (to_ + w_), .inr (.inr (some (95, 0))), .inl (to_ + w_), .inr (.inr (some (95, 0)))], S_)) rfl ?_
        refine sm_T_lald (n := 78336) rfl rfl (by omega) (by omega) ?_
        refine sm_T_go 4 (c1 := (86, [some (.inr (.inr (some (9, 0)))), some (.inl a1_), some (.inl to_), some (.inl e_), some (.inl nt_), some (.inl w_)], [.inl 64, .inl nt_, .inr (.inr (some (92, 0))), .inr (.inl (S_.2.2.2 95 0 (to_ + w_).toNat)), .inl (to_ + w_), .inr (.inr (some (95, 0)))], S_)) rfl ?_
        refine sm_T_bin (w := 64 * nt_) rfl (bi_mul (by omega) (by omega) (by omega)) ?_ -- pc_ 86
        refine sm_T_go 1 (c1 := (89, [some (.inr (.inr (some (9, 0)))), some (.inl a1_), some (.inl to_), some (.inl e_), some (.inl nt_), some (.inl w_)], [.inl w_, .inl (64 * nt_), .inr (.inr (some (92, 0))), .inr (.inl (S_.2.2.2 95 0 (to_ + w_).toNat)), .inl (to_ + w_), .inr (.inr (some (95, 0)))], S_)) rfl ?_
        refine sm_T_bin (w := 64 * nt_ + w_) rfl (bi_add (by omega) (by omega) (by omega)) ?_ -- pc_ 89
        refine sm_T_lald (n := 10368) rfl rfl (by omega) (by omega) ?_
        refine sm_T_go 4 (c1 := (99, [some (.inr (.inr (some (9, 0)))), some (.inl a1_), some (.inl to_), some (.inl e_), some (.inl nt_), some (.inl w_)], [.inl 64, .inl nt_, .inr (.inr (some (93, 0))), .inr (.inl (S_.2.2.2 92 0 (64 * nt_ + w_).toNat)), .inr (.inl (S_.2.2.2 95 0 (to_ + w_).toNat)), .inl (to_ + w_), .inr (.inr (some (95, 0)))], S_)) rfl ?_
        refine sm_T_bin (w := 64 * nt_) rfl (bi_mul (by omega) (by omega) (by omega)) ?_ -- pc_ 99
        refine sm_T_go 1 (c1 := (102, [some (.inr (.inr (some (9, 0)))), some (.inl a1_), some (.inl to_), some (.inl e_), some (.inl nt_), some (.inl w_)], [.inl w_, .inl (64 * nt_), .inr (.inr (some (93, 0))), .inr (.inl (S_.2.2.2 92 0 (64 * nt_ + w_).toNat)), .inr (.inl (S_.2.2.2 95 0 (to_ + w_).toNat)), .inl (to_ + w_), .inr (.inr (some (95, 0)))], S_)) rfl ?_
        refine sm_T_bin (w := 64 * nt_ + w_) rfl (bi_add (by omega) (by omega) (by omega)) ?_ -- pc_ 102
        refine sm_T_lald (n := 10368) rfl rfl (by omega) (by omega) ?_
        refine sm_T_go 5 (c1 := (111, [some (.inr (.inr (some (9, 0)))), some (.inl a1_), some (.inl to_), some (.inl e_), some (.inl nt_), some (.inl w_)], [.inr (.inl (l_4 ((S_.2.2.2 95 0 (to_ + w_).toNat)) ((l_3 ((l_5 ((S_.2.2.2 92 0 (64 * nt_ + w_).toNat)) ((S_.2.2.2 93 0 (64 * nt_ + w_).toNat)))) (S_.1 9 0 3))))), .inl (to_ + w_), .inr (.inr (some (95, 0)))], S_)) rfl ?_
        refine sm_T_last (n := 78336) rfl rfl (by omega) (by omega) ?_
        have hIx3_ : gi (sm_aL S_ 95 0 (to_ + w_).toNat ((l_4 ((S_.2.2.2 95 0 (to_ + w_).toNat)) ((l_3 ((l_5 ((S_.2.2.2 92 0 (64 * nt_ + w_).toNat)) ((S_.2.2.2 93 0 (64 * nt_ + w_).toNat)))) (S_.1 9 0 3)))))) := gi_aL hI_
        have hFx4_ : ai_fr (sx_W vw_175) S0_ (sm_aL S_ 95 0 (to_ + w_).toNat ((l_4 ((S_.2.2.2 95 0 (to_ + w_).toNat)) ((l_3 ((l_5 ((S_.2.2.2 92 0 (64 * nt_ + w_).toNat)) ((S_.2.2.2 93 0 (64 * nt_ + w_).toNat)))) (S_.1 9 0 3)))))) := ai_fr_tr hF_ (ai_fr_aL rfl)
        refine sm_T_inc (a := 5) (z := 1) (v := w_) (w := w_ + 1) rfl rfl (by omega) (by omega) (by omega) ?_ -- pc_ 112
        refine sm_T_go 1 (c1 := (59, [some (.inr (.inr (some (9, 0)))), some (.inl a1_), some (.inl to_), some (.inl e_), some (.inl nt_), some (.inl (w_ + 1))], [], sm_aL S_ 95 0 (to_ + w_).toNat ((l_4 ((S_.2.2.2 95 0 (to_ + w_).toNat)) ((l_3 ((l_5 ((S_.2.2.2 92 0 (64 * nt_ + w_).toNat)) ((S_.2.2.2 93 0 (64 * nt_ + w_).toNat)))) (S_.1 9 0 3))))))) rfl ?_
        refine ih_.2 to_ e_ nt_ (w_ + 1) (sm_aL S_ 95 0 (to_ + w_).toNat ((l_4 ((S_.2.2.2 95 0 (to_ + w_).toNat)) ((l_3 ((l_5 ((S_.2.2.2 92 0 (64 * nt_ + w_).toNat)) ((S_.2.2.2 93 0 (64 * nt_ + w_).toNat)))) (S_.1 9 0 3)))))) hIx3_ hFx4_ ⟨?_, ?_, trivial⟩ ?_
        · omega
        · intro k_
          rw [rd_leq]
          split
          · exact nl9_4 _ _
          · exact hn1_ k_
        · omega
set_option maxHeartbeats 400000 in
theorem vc_175 {sc_ : Nat × (Nat → Int)} (a1_ : Int) (cc_ : Nat) (S0_ : sm_S) (hI_ : gi S0_) (hb_ : S0_.2.1 9 0 0 = some cc_) (h1_ : 0 ≤ a1_ ∧ a1_ ≤ 1223) (hn_ : shn S0_) : sm_T (mt_P sc_) 2 175 (0, [some (.inr (.inr (some (9, 0)))), some (.inl a1_), none, none, none, none], [], S0_) (fun ro9_ => ∃ u_ S1_, ro9_ = (.inl u_, S1_, 0) ∧ vq_175 a1_ cc_ S0_ u_ S1_) := by
  have hF_ : ai_fr (sx_W vw_175) S0_ S0_ := ai_fr_rf
  refine sm_T_go 2 (c1 := (3, [some (.inr (.inr (some (9, 0)))), some (.inl a1_), none, none, none, none], [.inl 64, .inl a1_], S0_)) rfl ?_
  refine sm_T_bin (w := 64 * a1_) rfl (bi_mul (by omega) (by omega) (by omega)) ?_ -- pc_ 3
  refine sm_T_go 6 (c1 := (13, [some (.inr (.inr (some (9, 0)))), some (.inl a1_), some (.inl (64 * a1_)), none, none, none], [.inl 64, .inl (64 * a1_), .inl (64 * a1_), .inr (.inr (some (95, 0)))], S0_)) rfl ?_
  refine sm_T_bin (w := 64 * a1_ + 64) rfl (bi_add (by omega) (by omega) (by omega)) ?_ -- pc_ 13
  refine sm_T_go 1 (c1 := (15, [some (.inr (.inr (some (9, 0)))), some (.inl a1_), some (.inl (64 * a1_)), none, none, none], [.inr (.inl 0), .inl (64 * a1_ + 64), .inl (64 * a1_), .inr (.inr (some (95, 0)))], S0_)) rfl ?_
  refine sm_T_cal (d1 := 1) (Q1 := vq_5h5 (64 * a1_) (64 * a1_ + 64) 0 S0_) rfl rfl (by decide) (vc_5h5 (64 * a1_) (64 * a1_ + 64) 0 S0_ hI_ (by omega)) (fun u_ Sx1_ px4_ => ?_)
  obtain ⟨rfl, hIx2_, hFx3_, px4_⟩ := px4_
  have hFx5_ : ai_fr (sx_W vw_175) S0_ Sx1_ := ai_fr_tr hF_ (fr_le hFx3_ rfl)
  have f15_ := px4_
  refine sm_T_go 2 (c1 := (20, [some (.inr (.inr (some (9, 0)))), some (.inl a1_), some (.inl (64 * a1_)), some (.inl 0), none, none], [], Sx1_)) rfl ?_
  refine (vl_175 a1_ cc_ S0_ hb_ h1_ hn_ _).1 (64 * a1_) 0 Sx1_ hIx2_ hFx5_ ⟨?_, ?_, trivial⟩ (Nat.lt_succ_self _)
  · omega
  · (intro k_; rcases f15_ k_ with z_ | z_; (rw [z_]; exact hn_ k_); (rw [z_]; exact nl9_0))
end
/-! 99.zl7d -/
section
/-! Tester.workFault -/
def vw_174 : sx_Wl := ([(9, 1), (9, 2), (9, 3)], [92, 93, 94, 95, 96], [(9, 0)])
def vq_174 (a2_ : Int) (cc_ : Nat) (S0_ : sm_S) (u_ : Option sm_V) (S1_ : sm_S) : Prop := u_ = none ∧ gi S1_ ∧ ai_fr (sx_W vw_174) S0_ S1_ ∧ (S1_.2.1 9 0 0 = some cc_ ∧ shn S1_)
set_option maxHeartbeats 2000000 in
set_option maxRecDepth 20000 in
theorem vl_174 {sc_ : Nat × (Nat → Int)} (a2_ : Int) (cc_ : Nat) (S0_ : sm_S) (hs_ : S0_.1 2 cc_ 1 + S0_.1 2 cc_ 2 ≤ 12) (h2_ : 0 ≤ a2_ ∧ a2_ ≤ 1223) (hn_ : shn S0_) : ∀ nn_ : Nat, (∀ (y3_ : Int) (ip_ : Int) (g_ : Int) (S_ : sm_S), gi S_ → ai_fr (sx_W vw_174) S0_ S_ → ((0 ≤ g_ ∧ g_ ≤ 149 ∧ -2147483000 + 3 * (150 - g_) ≤ ip_ ∧ ip_ ≤ 2000) ∧ (S_.2.1 9 0 0 = some cc_) ∧ (shn S_) ∧ True) → ((90000 - g_).toNat) < nn_ → sm_T (mt_P sc_) 4 174 (121, [some (.inr (.inr (some (9, 0)))), some (.inr (.inr (some (2, cc_)))), some (.inl a2_), some (.inr (.inl y3_)), none, none, some (.inl ip_), some (.inl g_), none], [], S_) (fun ro9_ => ∃ u_ S1_, ro9_ = (.inl u_, S1_, 0) ∧ vq_174 a2_ cc_ S0_ u_ S1_)) ∧ (∀ (y3_ : Int) (fm_ : Int) (g_ : Int) (S_ : sm_S), gi S_ → ai_fr (sx_W vw_174) S0_ S_ → ((0 ≤ g_ ∧ g_ ≤ 151) ∧ (S_.2.1 9 0 0 = some cc_) ∧ (shn S_) ∧ True) → ((100 * (200 - g_) + 90).toNat) < nn_ → sm_T (mt_P sc_) 4 174 (199, [some (.inr (.inr (some (9, 0)))), some (.inr (.inr (some (2, cc_)))), some (.inl a2_), some (.inr (.inl y3_)), none, some (.inl fm_), some (.inl g_), none, none], [], S_) (fun ro9_ => ∃ u_ S1_, ro9_ = (.inl u_, S1_, 0) ∧ vq_174 a2_ cc_ S0_ u_ S1_)) ∧ (∀ (y3_ : Int) (fm_ : Int) (g_ : Int) (rc_ : Int) (k_ : Int) (S_ : sm_S), gi S_ → ai_fr (sx_W vw_174) S0_ S_ → ((0 ≤ g_ ∧ g_ < 150 ∧ 0 ≤ rc_ ∧ rc_ ≤ 1 ∧ 0 ≤ k_ ∧ k_ ≤ 3) ∧ (S_.2.1 9 0 0 = some cc_) ∧ (shn S_) ∧ True) → ((100 * (200 - g_) + 80 - k_).toNat) < nn_ → sm_T (mt_P sc_) 4 174 (214, [some (.inr (.inr (some (9, 0)))), some (.inr (.inr (some (2, cc_)))), some (.inl a2_), some (.inr (.inl y3_)), none, some (.inl fm_), some (.inl g_), some (.inl rc_), some (.inl k_)], [], S_) (fun ro9_ => ∃ u_ S1_, ro9_ = (.inl u_, S1_, 0) ∧ vq_174 a2_ cc_ S0_ u_ S1_)) := by
  intro nn_
  induction nn_ with
  | zero => exact ⟨fun _ _ _ _ _ _ _ h_ => absurd h_ (Nat.not_lt_zero _), fun _ _ _ _ _ _ _ h_ => absurd h_ (Nat.not_lt_zero _), fun _ _ _ _ _ _ _ _ _ h_ => absurd h_ (Nat.not_lt_zero _)⟩
  | succ nn_ ih_ =>
    refine ⟨?_, ?_, ?_⟩
    · rintro y3_ ip_ g_ S_ hI_ hF_ ⟨h0_, hck_, hn1_, -⟩ hm_
      have z1_ : S_.1 2 cc_ 1 = S0_.1 2 cc_ 1 := hF_.1 2 cc_ 1 rfl
      have z2_ : S_.1 2 cc_ 2 = S0_.1 2 cc_ 2 := hF_.1 2 cc_ 2 rfl
      have cw : 0 ≤ S_.1 9 0 2 ∧ S_.1 9 0 2 ≤ 64 := hI_.1 9 0 2 rfl
      have cg9_ : 0 ≤ S_.1 2 cc_ 8 ∧ S_.1 2 cc_ 8 ≤ 150 := hI_.1 2 cc_ 8 rfl
      have cq1_ : 0 ≤ S_.1 2 cc_ 1 ∧ S_.1 2 cc_ 1 ≤ 12 := hI_.1 2 cc_ 1 rfl
      have cq2_ : 0 ≤ S_.1 2 cc_ 2 ∧ S_.1 2 cc_ 2 ≤ 6 := hI_.1 2 cc_ 2 rfl
      have bx1_ : 0 ≤ S_.1 2 cc_ 8 ∧ S_.1 2 cc_ 8 ≤ 150 := hI_.1 2 cc_ 8 rfl
      refine sm_T_go 4 (c1 := (128, [some (.inr (.inr (some (9, 0)))), some (.inr (.inr (some (2, cc_)))), some (.inl a2_), some (.inr (.inl y3_)), none, none, some (.inl ip_), some (.inl g_), none], [.inl 1, .inl (S_.1 2 cc_ 8), .inl g_], S_)) rfl ?_
      refine sm_T_bin (w := (S_.1 2 cc_ 8) - 1) rfl (bi_sub (by omega) (by omega) (by omega)) ?_ -- pc_ 128
      refine sm_T_br (a := 3) (z := 31) rfl (fun cx2_ => ?_) (fun cx2_ => ?_)
      · have cx2_ : (S_.1 2 cc_ 8) - 1 ≤ g_ := of_decide_eq_true cx2_
        refine sm_T_go 3 (c1 := (165, [some (.inr (.inr (some (9, 0)))), some (.inr (.inr (some (2, cc_)))), some (.inl a2_), some (.inr (.inl y3_)), none, none, some (.inl ip_), some (.inl g_), none], [.inr (.inr (some (2, cc_))), .inr (.inr (some (94, 0)))], S_)) rfl ?_
        refine sm_T_cal (d1 := 0) (Q1 := vq_54 cc_ S_) rfl rfl (by decide) (vc_54 cc_ S_ hI_ ) (fun u_ Sx3_ px6_ => ?_)
        obtain ⟨rfl, vx8_, rfl, px6_⟩ := px6_
        have m165_ := px6_
        refine sm_T_go 1 (c1 := (170, [some (.inr (.inr (some (9, 0)))), some (.inr (.inr (some (2, cc_)))), some (.inl a2_), some (.inr (.inl y3_)), none, none, some (.inl ip_), some (.inl g_), none], [.inl g_, .inl vx8_, .inr (.inr (some (94, 0)))], S_)) rfl ?_
        refine sm_T_bin (w := vx8_ + g_) rfl (bi_add (by omega) (by omega) (by omega)) ?_ -- pc_ 170
        refine sm_T_go 4 (c1 := (177, [some (.inr (.inr (some (9, 0)))), some (.inr (.inr (some (2, cc_)))), some (.inl a2_), some (.inr (.inl y3_)), none, none, some (.inl ip_), some (.inl g_), none], [.inr (.inl y3_), .inl ip_, .inl g_, .inr (.inr (some (9, 0))), .inl (vx8_ + g_), .inr (.inr (some (94, 0)))], S_)) rfl ?_
        refine sm_T_cal (d1 := 2) (Q1 := vq_173 g_ ip_ y3_ cc_ S_) rfl rfl (by decide) (vc_173 g_ ip_ y3_ cc_ S_ hI_ (by exact hck_) (by omega) (by omega)) (fun u_ Sx9_ px12_ => ?_)
        obtain ⟨vx14_, rfl, hIx10_, hFx11_, px12_⟩ := px12_
        have hFx13_ : ai_fr (sx_W vw_174) S0_ Sx9_ := ai_fr_tr hF_ (fr_le hFx11_ rfl)
        have ex15_ : Sx9_.1 2 cc_ 8 = S_.1 2 cc_ 8 := hFx11_.1 2 cc_ 8 rfl
        have w177_ := px12_
        have n177_ := shn_fr hn1_ hFx11_
        have tk177_ := (hFx11_.2.1 9 0 0 rfl).trans hck_
        refine sm_T_b0 (a := 0) (z := 7) rfl (fun cx16_ => ?_) (fun cx16_ => ?_)
        · have cx16_ : vx14_ = 0 := of_decide_eq_true cx16_
          refine sm_T_go 1 (c1 := (188, [some (.inr (.inr (some (9, 0)))), some (.inr (.inr (some (2, cc_)))), some (.inl a2_), some (.inr (.inl y3_)), none, none, some (.inl ip_), some (.inl g_), none], [.inl 0, .inl (vx8_ + g_), .inr (.inr (some (94, 0)))], Sx9_)) rfl ?_
          refine sm_T_iast (n := 162) rfl rfl (by omega) (by omega) ?_
          have hIx17_ : gi (sm_aI Sx9_ 94 0 (vx8_ + g_).toNat 0) := gi_aI hIx10_ (show 0 ≤ 0 ∧ 0 ≤ 1 from ⟨by omega, by omega⟩)
          have hFx18_ : ai_fr (sx_W vw_174) S0_ (sm_aI Sx9_ 94 0 (vx8_ + g_).toNat 0) := ai_fr_tr hFx13_ (ai_fr_aI rfl)
          refine sm_T_go 2 (c1 := (192, [some (.inr (.inr (some (9, 0)))), some (.inr (.inr (some (2, cc_)))), some (.inl a2_), some (.inr (.inl y3_)), none, none, some (.inl ip_), some (.inl g_), none], [.inl 1, .inl g_], sm_aI Sx9_ 94 0 (vx8_ + g_).toNat 0)) rfl ?_
          refine sm_T_bin (w := g_ + 1) rfl (bi_add (by omega) (by omega) (by omega)) ?_ -- pc_ 192
          refine sm_T_go 3 (c1 := (199, [some (.inr (.inr (some (9, 0)))), some (.inr (.inr (some (2, cc_)))), some (.inl a2_), some (.inr (.inl y3_)), none, some (.inl (g_ + 1)), some (.inl (g_ + 1)), some (.inl g_), none], [], sm_aI Sx9_ 94 0 (vx8_ + g_).toNat 0)) rfl ?_
          refine sm_T_wk [some (.inr (.inr (some (9, 0)))), some (.inr (.inr (some (2, cc_)))), some (.inl a2_), some (.inr (.inl y3_)), none, some (.inl (g_ + 1)), some (.inl (g_ + 1)), none, none] (by exact ⟨rfl, rfl, rfl, rfl, rfl, rfl, trivial⟩) ?_
          refine ih_.2.1 y3_ (g_ + 1) (g_ + 1) (sm_aI Sx9_ 94 0 (vx8_ + g_).toNat 0) hIx17_ hFx18_ ⟨?_, ?_, ?_, trivial⟩ ?_
          · omega
          · exact tk177_
          · exact n177_
          · omega
        · have cx16_ : ¬ (vx14_ = 0) := of_decide_eq_false cx16_
          refine sm_T_go 2 (c1 := (188, [some (.inr (.inr (some (9, 0)))), some (.inr (.inr (some (2, cc_)))), some (.inl a2_), some (.inr (.inl y3_)), none, none, some (.inl ip_), some (.inl g_), none], [.inl 1, .inl (vx8_ + g_), .inr (.inr (some (94, 0)))], Sx9_)) rfl ?_
          refine sm_T_iast (n := 162) rfl rfl (by omega) (by omega) ?_
          have hIx19_ : gi (sm_aI Sx9_ 94 0 (vx8_ + g_).toNat 1) := gi_aI hIx10_ (show 0 ≤ 1 ∧ 1 ≤ 1 from ⟨by omega, by omega⟩)
          have hFx20_ : ai_fr (sx_W vw_174) S0_ (sm_aI Sx9_ 94 0 (vx8_ + g_).toNat 1) := ai_fr_tr hFx13_ (ai_fr_aI rfl)
          refine sm_T_go 2 (c1 := (192, [some (.inr (.inr (some (9, 0)))), some (.inr (.inr (some (2, cc_)))), some (.inl a2_), some (.inr (.inl y3_)), none, none, some (.inl ip_), some (.inl g_), none], [.inl 1, .inl g_], sm_aI Sx9_ 94 0 (vx8_ + g_).toNat 1)) rfl ?_
          refine sm_T_bin (w := g_ + 1) rfl (bi_add (by omega) (by omega) (by omega)) ?_ -- pc_ 192
          refine sm_T_go 3 (c1 := (199, [some (.inr (.inr (some (9, 0)))), some (.inr (.inr (some (2, cc_)))), some (.inl a2_), some (.inr (.inl y3_)), none, some (.inl (g_ + 1)), some (.inl (g_ + 1)), some (.inl g_), none], [], sm_aI Sx9_ 94 0 (vx8_ + g_).toNat 1)) rfl ?_
          refine sm_T_wk [some (.inr (.inr (some (9, 0)))), some (.inr (.inr (some (2, cc_)))), some (.inl a2_), some (.inr (.inl y3_)), none, some (.inl (g_ + 1)), some (.inl (g_ + 1)), none, none] (by exact ⟨rfl, rfl, rfl, rfl, rfl, rfl, trivial⟩) ?_
          refine ih_.2.1 y3_ (g_ + 1) (g_ + 1) (sm_aI Sx9_ 94 0 (vx8_ + g_).toNat 1) hIx19_ hFx20_ ⟨?_, ?_, ?_, trivial⟩ ?_
          · omega
          · exact tk177_
          · exact n177_
          · omega
      · have cx2_ : ¬ ((S_.1 2 cc_ 8) - 1 ≤ g_) := of_decide_eq_false cx2_
        refine sm_T_go 3 (c1 := (137, [some (.inr (.inr (some (9, 0)))), some (.inr (.inr (some (2, cc_)))), some (.inl a2_), some (.inr (.inl y3_)), none, none, some (.inl ip_), some (.inl g_), none], [.inl g_, .inr (.inr (some (2, cc_))), .inl ip_], S_)) rfl ?_
        refine sm_T_cal (d1 := 0) (Q1 := vq_59 g_ cc_ S_) rfl rfl (by decide) (vc_59 g_ cc_ S_ hI_ (by omega)) (fun u_ Sx21_ px24_ => ?_)
        obtain ⟨rfl, vx26_, rfl, px24_⟩ := px24_
        have g137_ := px24_.1
        refine sm_T_br (a := 2) (z := 20) rfl (fun cx27_ => ?_) (fun cx27_ => ?_)
        · have cx27_ : ip_ < vx26_ := of_decide_eq_true cx27_
          refine sm_T_go 3 (c1 := (165, [some (.inr (.inr (some (9, 0)))), some (.inr (.inr (some (2, cc_)))), some (.inl a2_), some (.inr (.inl y3_)), none, none, some (.inl ip_), some (.inl g_), none], [.inr (.inr (some (2, cc_))), .inr (.inr (some (94, 0)))], S_)) rfl ?_
          refine sm_T_cal (d1 := 0) (Q1 := vq_54 cc_ S_) rfl rfl (by decide) (vc_54 cc_ S_ hI_ ) (fun u_ Sx28_ px31_ => ?_)
          obtain ⟨rfl, vx33_, rfl, px31_⟩ := px31_
          have m165_ := px31_
          refine sm_T_go 1 (c1 := (170, [some (.inr (.inr (some (9, 0)))), some (.inr (.inr (some (2, cc_)))), some (.inl a2_), some (.inr (.inl y3_)), none, none, some (.inl ip_), some (.inl g_), none], [.inl g_, .inl vx33_, .inr (.inr (some (94, 0)))], S_)) rfl ?_
          refine sm_T_bin (w := vx33_ + g_) rfl (bi_add (by omega) (by omega) (by omega)) ?_ -- pc_ 170
          refine sm_T_go 4 (c1 := (177, [some (.inr (.inr (some (9, 0)))), some (.inr (.inr (some (2, cc_)))), some (.inl a2_), some (.inr (.inl y3_)), none, none, some (.inl ip_), some (.inl g_), none], [.inr (.inl y3_), .inl ip_, .inl g_, .inr (.inr (some (9, 0))), .inl (vx33_ + g_), .inr (.inr (some (94, 0)))], S_)) rfl ?_
          refine sm_T_cal (d1 := 2) (Q1 := vq_173 g_ ip_ y3_ cc_ S_) rfl rfl (by decide) (vc_173 g_ ip_ y3_ cc_ S_ hI_ (by exact hck_) (by omega) (by omega)) (fun u_ Sx34_ px37_ => ?_)
          obtain ⟨vx39_, rfl, hIx35_, hFx36_, px37_⟩ := px37_
          have hFx38_ : ai_fr (sx_W vw_174) S0_ Sx34_ := ai_fr_tr hF_ (fr_le hFx36_ rfl)
          have ex40_ : Sx34_.1 2 cc_ 8 = S_.1 2 cc_ 8 := hFx36_.1 2 cc_ 8 rfl
          have w177_ := px37_
          have n177_ := shn_fr hn1_ hFx36_
          have tk177_ := (hFx36_.2.1 9 0 0 rfl).trans hck_
          refine sm_T_b0 (a := 0) (z := 7) rfl (fun cx41_ => ?_) (fun cx41_ => ?_)
          · have cx41_ : vx39_ = 0 := of_decide_eq_true cx41_
            refine sm_T_go 1 (c1 := (188, [some (.inr (.inr (some (9, 0)))), some (.inr (.inr (some (2, cc_)))), some (.inl a2_), some (.inr (.inl y3_)), none, none, some (.inl ip_), some (.inl g_), none], [.inl 0, .inl (vx33_ + g_), .inr (.inr (some (94, 0)))], Sx34_)) rfl ?_
            refine sm_T_iast (n := 162) rfl rfl (by omega) (by omega) ?_
            have hIx42_ : gi (sm_aI Sx34_ 94 0 (vx33_ + g_).toNat 0) := gi_aI hIx35_ (show 0 ≤ 0 ∧ 0 ≤ 1 from ⟨by omega, by omega⟩)
            have hFx43_ : ai_fr (sx_W vw_174) S0_ (sm_aI Sx34_ 94 0 (vx33_ + g_).toNat 0) := ai_fr_tr hFx38_ (ai_fr_aI rfl)
            refine sm_T_go 2 (c1 := (192, [some (.inr (.inr (some (9, 0)))), some (.inr (.inr (some (2, cc_)))), some (.inl a2_), some (.inr (.inl y3_)), none, none, some (.inl ip_), some (.inl g_), none], [.inl 1, .inl g_], sm_aI Sx34_ 94 0 (vx33_ + g_).toNat 0)) rfl ?_
            refine sm_T_bin (w := g_ + 1) rfl (bi_add (by omega) (by omega) (by omega)) ?_ -- pc_ 192
            refine sm_T_go 3 (c1 := (199, [some (.inr (.inr (some (9, 0)))), some (.inr (.inr (some (2, cc_)))), some (.inl a2_), some (.inr (.inl y3_)), none, some (.inl (g_ + 1)), some (.inl (g_ + 1)), some (.inl g_), none], [], sm_aI Sx34_ 94 0 (vx33_ + g_).toNat 0)) rfl ?_
            refine sm_T_wk [some (.inr (.inr (some (9, 0)))), some (.inr (.inr (some (2, cc_)))), some (.inl a2_), some (.inr (.inl y3_)), none, some (.inl (g_ + 1)), some (.inl (g_ + 1)), none, none] (by exact ⟨rfl, rfl, rfl, rfl, rfl, rfl, trivial⟩) ?_
            refine ih_.2.1 y3_ (g_ + 1) (g_ + 1) (sm_aI Sx34_ 94 0 (vx33_ + g_).toNat 0) hIx42_ hFx43_ ⟨?_, ?_, ?_, trivial⟩ ?_
            · omega
            · exact tk177_
            · exact n177_
            · omega
          · have cx41_ : ¬ (vx39_ = 0) := of_decide_eq_false cx41_
            refine sm_T_go 2 (c1 := (188, [some (.inr (.inr (some (9, 0)))), some (.inr (.inr (some (2, cc_)))), some (.inl a2_), some (.inr (.inl y3_)), none, none, some (.inl ip_), some (.inl g_), none], [.inl 1, .inl (vx33_ + g_), .inr (.inr (some (94, 0)))], Sx34_)) rfl ?_
            refine sm_T_iast (n := 162) rfl rfl (by omega) (by omega) ?_
            have hIx44_ : gi (sm_aI Sx34_ 94 0 (vx33_ + g_).toNat 1) := gi_aI hIx35_ (show 0 ≤ 1 ∧ 1 ≤ 1 from ⟨by omega, by omega⟩)
            have hFx45_ : ai_fr (sx_W vw_174) S0_ (sm_aI Sx34_ 94 0 (vx33_ + g_).toNat 1) := ai_fr_tr hFx38_ (ai_fr_aI rfl)
            refine sm_T_go 2 (c1 := (192, [some (.inr (.inr (some (9, 0)))), some (.inr (.inr (some (2, cc_)))), some (.inl a2_), some (.inr (.inl y3_)), none, none, some (.inl ip_), some (.inl g_), none], [.inl 1, .inl g_], sm_aI Sx34_ 94 0 (vx33_ + g_).toNat 1)) rfl ?_
            refine sm_T_bin (w := g_ + 1) rfl (bi_add (by omega) (by omega) (by omega)) ?_ -- pc_ 192
            refine sm_T_go 3 (c1 := (199, [some (.inr (.inr (some (9, 0)))), some (.inr (.inr (some (2, cc_)))), some (.inl a2_), some (.inr (.inl y3_)), none, some (.inl (g_ + 1)), some (.inl (g_ + 1)), some (.inl g_), none], [], sm_aI Sx34_ 94 0 (vx33_ + g_).toNat 1)) rfl ?_
            refine sm_T_wk [some (.inr (.inr (some (9, 0)))), some (.inr (.inr (some (2, cc_)))), some (.inl a2_), some (.inr (.inl y3_)), none, some (.inl (g_ + 1)), some (.inl (g_ + 1)), none, none] (by exact ⟨rfl, rfl, rfl, rfl, rfl, rfl, trivial⟩) ?_
            refine ih_.2.1 y3_ (g_ + 1) (g_ + 1) (sm_aI Sx34_ 94 0 (vx33_ + g_).toNat 1) hIx44_ hFx45_ ⟨?_, ?_, ?_, trivial⟩ ?_
            · omega
            · exact tk177_
            · exact n177_
            · omega
        · have cx27_ : ¬ (ip_ < vx26_) := of_decide_eq_false cx27_
          refine sm_T_go 3 (c1 := (148, [some (.inr (.inr (some (9, 0)))), some (.inr (.inr (some (2, cc_)))), some (.inl a2_), some (.inr (.inl y3_)), none, none, some (.inl ip_), some (.inl g_), none], [.inl g_, .inr (.inr (some (2, cc_))), .inl ip_], S_)) rfl ?_
          refine sm_T_cal (d1 := 0) (Q1 := vq_59 g_ cc_ S_) rfl rfl (by decide) (vc_59 g_ cc_ S_ hI_ (by omega)) (fun u_ Sx46_ px49_ => ?_)
          obtain ⟨rfl, vx51_, rfl, px49_⟩ := px49_
          have g148_ := px49_.1
          refine sm_T_bin (w := ip_ - vx51_) rfl (bi_sub (by omega) (by omega) (by omega)) ?_ -- pc_ 151
          refine sm_T_go 1 (c1 := (154, [some (.inr (.inr (some (9, 0)))), some (.inr (.inr (some (2, cc_)))), some (.inl a2_), some (.inr (.inl y3_)), none, none, some (.inl (ip_ - vx51_)), some (.inl g_), none], [], S_)) rfl ?_
          refine sm_T_inc (a := 7) (z := 1) (v := g_) (w := g_ + 1) rfl rfl (by omega) (by omega) (by omega) ?_ -- pc_ 154
          refine sm_T_go 1 (c1 := (121, [some (.inr (.inr (some (9, 0)))), some (.inr (.inr (some (2, cc_)))), some (.inl a2_), some (.inr (.inl y3_)), none, none, some (.inl (ip_ - vx51_)), some (.inl (g_ + 1)), none], [], S_)) rfl ?_
          refine ih_.1 y3_ (ip_ - vx51_) (g_ + 1) S_ hI_ hF_ ⟨?_, ?_, ?_, trivial⟩ ?_
          · omega
          · exact hck_
          · exact hn1_
          · omega
    · rintro y3_ fm_ g_ S_ hI_ hF_ ⟨h0_, hck_, hn1_, -⟩ hm_
      have z1_ : S_.1 2 cc_ 1 = S0_.1 2 cc_ 1 := hF_.1 2 cc_ 1 rfl
      have z2_ : S_.1 2 cc_ 2 = S0_.1 2 cc_ 2 := hF_.1 2 cc_ 2 rfl
      have cw : 0 ≤ S_.1 9 0 2 ∧ S_.1 9 0 2 ≤ 64 := hI_.1 9 0 2 rfl
      have cg9_ : 0 ≤ S_.1 2 cc_ 8 ∧ S_.1 2 cc_ 8 ≤ 150 := hI_.1 2 cc_ 8 rfl
      have cq1_ : 0 ≤ S_.1 2 cc_ 1 ∧ S_.1 2 cc_ 1 ≤ 12 := hI_.1 2 cc_ 1 rfl
      have cq2_ : 0 ≤ S_.1 2 cc_ 2 ∧ S_.1 2 cc_ 2 ≤ 6 := hI_.1 2 cc_ 2 rfl
      have bx1_ : 0 ≤ S_.1 2 cc_ 8 ∧ S_.1 2 cc_ 8 ≤ 150 := hI_.1 2 cc_ 8 rfl
      refine sm_T_go 3 (c1 := (205, [some (.inr (.inr (some (9, 0)))), some (.inr (.inr (some (2, cc_)))), some (.inl a2_), some (.inr (.inl y3_)), none, some (.inl fm_), some (.inl g_), none, none], [.inl (S_.1 2 cc_ 8), .inl g_], S_)) rfl ?_
      refine sm_T_br (a := 3) (z := 93) rfl (fun cx2_ => ?_) (fun cx2_ => ?_)
      · have cx2_ : (S_.1 2 cc_ 8) ≤ g_ := of_decide_eq_true cx2_
        refine sm_T_go 2 (c1 := (300, [some (.inr (.inr (some (9, 0)))), some (.inr (.inr (some (2, cc_)))), some (.inl a2_), some (.inr (.inl y3_)), none, some (.inl fm_), some (.inl g_), none, none], [.inl a2_, .inr (.inr (some (9, 0)))], S_)) rfl ?_
        refine sm_T_cal (d1 := 2) (Q1 := vq_175 a2_ cc_ S_) rfl rfl (by decide) (vc_175 a2_ cc_ S_ hI_ (by exact hck_) (by omega) (by exact hn1_)) (fun u_ Sx3_ px6_ => ?_)
        obtain ⟨rfl, hIx4_, hFx5_, px6_⟩ := px6_
        have hFx7_ : ai_fr (sx_W vw_174) S0_ Sx3_ := ai_fr_tr hF_ (fr_le hFx5_ rfl)
        have ex8_ : Sx3_.1 2 cc_ 8 = S_.1 2 cc_ 8 := hFx5_.1 2 cc_ 8 rfl
        have k300_ := px6_
        have tk300_ := (hFx5_.2.1 9 0 0 rfl).trans hck_
        refine sm_T_rv rfl ⟨_, _, rfl, rfl, hIx4_, hFx7_, ?_⟩
        exact ⟨tk300_, k300_⟩
      · have cx2_ : ¬ ((S_.1 2 cc_ 8) ≤ g_) := of_decide_eq_false cx2_
        refine sm_T_go 4 (c1 := (214, [some (.inr (.inr (some (9, 0)))), some (.inr (.inr (some (2, cc_)))), some (.inl a2_), some (.inr (.inl y3_)), none, some (.inl fm_), some (.inl g_), some (.inl 0), some (.inl 0)], [], S_)) rfl ?_
        refine ih_.2.2 y3_ fm_ g_ 0 0 S_ hI_ hF_ ⟨?_, ?_, ?_, trivial⟩ ?_
        · omega
        · exact hck_
        · exact hn1_
        · omega
    · rintro y3_ fm_ g_ rc_ k_ S_ hI_ hF_ ⟨h0_, hck_, hn1_, -⟩ hm_
      have z1_ : S_.1 2 cc_ 1 = S0_.1 2 cc_ 1 := hF_.1 2 cc_ 1 rfl
      have z2_ : S_.1 2 cc_ 2 = S0_.1 2 cc_ 2 := hF_.1 2 cc_ 2 rfl
      have cw : 0 ≤ S_.1 9 0 2 ∧ S_.1 9 0 2 ≤ 64 := hI_.1 9 0 2 rfl
      have cg9_ : 0 ≤ S_.1 2 cc_ 8 ∧ S_.1 2 cc_ 8 ≤ 150 := hI_.1 2 cc_ 8 rfl
      have cq1_ : 0 ≤ S_.1 2 cc_ 1 ∧ S_.1 2 cc_ 1 ≤ 12 := hI_.1 2 cc_ 1 rfl
      have cq2_ : 0 ≤ S_.1 2 cc_ 2 ∧ S_.1 2 cc_ 2 ≤ 6 := hI_.1 2 cc_ 2 rfl
      refine sm_T_go 3 (c1 := (219, [some (.inr (.inr (some (9, 0)))), some (.inr (.inr (some (2, cc_)))), some (.inl a2_), some (.inr (.inl y3_)), none, some (.inl fm_), some (.inl g_), some (.inl rc_), some (.inl k_)], [.inl g_, .inr (.inr (some (2, cc_))), .inl k_], S_)) rfl ?_
      refine sm_T_cal (d1 := 0) (Q1 := vq_59 g_ cc_ S_) rfl rfl (by decide) (vc_59 g_ cc_ S_ hI_ (by omega)) (fun u_ Sx1_ px4_ => ?_)
      obtain ⟨rfl, vx6_, rfl, px4_⟩ := px4_
      have g219_ := px4_.1
      refine sm_T_br (a := 3) (z := 41) rfl (fun cx7_ => ?_) (fun cx7_ => ?_)
      · have cx7_ : vx6_ ≤ k_ := of_decide_eq_true cx7_
        refine sm_T_go 1 (c1 := (265, [some (.inr (.inr (some (9, 0)))), some (.inr (.inr (some (2, cc_)))), some (.inl a2_), some (.inr (.inl y3_)), none, some (.inl fm_), some (.inl g_), some (.inl rc_), some (.inl k_)], [.inl rc_], S_)) rfl ?_
        refine sm_T_b0 (a := 0) (z := 27) rfl (fun cx8_ => ?_) (fun cx8_ => ?_)
        · have cx8_ : rc_ = 0 := of_decide_eq_true cx8_
          refine sm_T_inc (a := 6) (z := 1) (v := g_) (w := g_ + 1) rfl rfl (by omega) (by omega) (by omega) ?_ -- pc_ 292
          refine sm_T_go 1 (c1 := (199, [some (.inr (.inr (some (9, 0)))), some (.inr (.inr (some (2, cc_)))), some (.inl a2_), some (.inr (.inl y3_)), none, some (.inl fm_), some (.inl (g_ + 1)), some (.inl rc_), some (.inl k_)], [], S_)) rfl ?_
          refine sm_T_wk [some (.inr (.inr (some (9, 0)))), some (.inr (.inr (some (2, cc_)))), some (.inl a2_), some (.inr (.inl y3_)), none, some (.inl fm_), some (.inl (g_ + 1)), none, none] (by exact ⟨rfl, rfl, rfl, rfl, rfl, rfl, trivial⟩) ?_
          refine ih_.2.1 y3_ fm_ (g_ + 1) S_ hI_ hF_ ⟨?_, ?_, ?_, trivial⟩ ?_
          · omega
          · first | exact hck_ | exact tk273_
          · first | exact hn1_ | exact n273_
          · omega
        · have cx8_ : ¬ (rc_ = 0) := of_decide_eq_false cx8_
          refine sm_T_go 4 (c1 := (273, [some (.inr (.inr (some (9, 0)))), some (.inr (.inr (some (2, cc_)))), some (.inl a2_), some (.inr (.inl y3_)), none, some (.inl fm_), some (.inl g_), some (.inl rc_), some (.inl k_)], [.inr (.inl 0), .inl (-1), .inl g_, .inr (.inr (some (9, 0)))], S_)) rfl ?_
          refine sm_T_cal (d1 := 2) (Q1 := vq_173 g_ (-1) 0 cc_ S_) rfl rfl (by decide) (vc_173 g_ (-1) 0 cc_ S_ hI_ (by exact hck_) (by omega) (by omega)) (fun u_ Sx9_ px12_ => ?_)
          obtain ⟨vx14_, rfl, hIx10_, hFx11_, px12_⟩ := px12_
          have hFx13_ : ai_fr (sx_W vw_174) S0_ Sx9_ := ai_fr_tr hF_ (fr_le hFx11_ rfl)
          have w273_ := px12_
          have u1_ := hFx11_.1 2 cc_ 1 rfl
          have u2_ := hFx11_.1 2 cc_ 2 rfl
          have n273_ := shn_fr hn1_ hFx11_
          have tk273_ := (hFx11_.2.1 9 0 0 rfl).trans hck_
          refine sm_T_b0 (a := 0) (z := 16) rfl (fun cx15_ => ?_) (fun cx15_ => ?_)
          · have cx15_ : vx14_ = 0 := of_decide_eq_true cx15_
            refine sm_T_inc (a := 6) (z := 1) (v := g_) (w := g_ + 1) rfl rfl (by omega) (by omega) (by omega) ?_ -- pc_ 292
            refine sm_T_go 1 (c1 := (199, [some (.inr (.inr (some (9, 0)))), some (.inr (.inr (some (2, cc_)))), some (.inl a2_), some (.inr (.inl y3_)), none, some (.inl fm_), some (.inl (g_ + 1)), some (.inl rc_), some (.inl k_)], [], Sx9_)) rfl ?_
            refine sm_T_wk [some (.inr (.inr (some (9, 0)))), some (.inr (.inr (some (2, cc_)))), some (.inl a2_), some (.inr (.inl y3_)), none, some (.inl fm_), some (.inl (g_ + 1)), none, none] (by exact ⟨rfl, rfl, rfl, rfl, rfl, rfl, trivial⟩) ?_
            refine ih_.2.1 y3_ fm_ (g_ + 1) Sx9_ hIx10_ hFx13_ ⟨?_, ?_, ?_, trivial⟩ ?_
            · omega
            · first | exact hck_ | exact tk273_
            · first | exact hn1_ | exact n273_
            · omega
          · have cx15_ : ¬ (vx14_ = 0) := of_decide_eq_false cx15_
            refine sm_T_go 3 (c1 := (284, [some (.inr (.inr (some (9, 0)))), some (.inr (.inr (some (2, cc_)))), some (.inl a2_), some (.inr (.inl y3_)), none, some (.inl fm_), some (.inl g_), some (.inl rc_), some (.inl k_)], [.inr (.inr (some (2, cc_))), .inr (.inr (some (94, 0)))], Sx9_)) rfl ?_
            refine sm_T_cal (d1 := 0) (Q1 := vq_54 cc_ Sx9_) rfl rfl (by decide) (vc_54 cc_ Sx9_ hIx10_ ) (fun u_ Sx16_ px19_ => ?_)
            obtain ⟨rfl, vx21_, rfl, px19_⟩ := px19_
            have m284_ := px19_
            refine sm_T_go 1 (c1 := (289, [some (.inr (.inr (some (9, 0)))), some (.inr (.inr (some (2, cc_)))), some (.inl a2_), some (.inr (.inl y3_)), none, some (.inl fm_), some (.inl g_), some (.inl rc_), some (.inl k_)], [.inl g_, .inl vx21_, .inr (.inr (some (94, 0)))], Sx9_)) rfl ?_
            refine sm_T_bin (w := vx21_ + g_) rfl (bi_add (by omega) (by omega) (by omega)) ?_ -- pc_ 289
            refine sm_T_go 1 (c1 := (291, [some (.inr (.inr (some (9, 0)))), some (.inr (.inr (some (2, cc_)))), some (.inl a2_), some (.inr (.inl y3_)), none, some (.inl fm_), some (.inl g_), some (.inl rc_), some (.inl k_)], [.inl 1, .inl (vx21_ + g_), .inr (.inr (some (94, 0)))], Sx9_)) rfl ?_
            refine sm_T_iast (n := 162) rfl rfl (by omega) (by omega) ?_
            have hIx22_ : gi (sm_aI Sx9_ 94 0 (vx21_ + g_).toNat 1) := gi_aI hIx10_ (show 0 ≤ 1 ∧ 1 ≤ 1 from ⟨by omega, by omega⟩)
            have hFx23_ : ai_fr (sx_W vw_174) S0_ (sm_aI Sx9_ 94 0 (vx21_ + g_).toNat 1) := ai_fr_tr hFx13_ (ai_fr_aI rfl)
            refine sm_T_inc (a := 6) (z := 1) (v := g_) (w := g_ + 1) rfl rfl (by omega) (by omega) (by omega) ?_ -- pc_ 292
            refine sm_T_go 1 (c1 := (199, [some (.inr (.inr (some (9, 0)))), some (.inr (.inr (some (2, cc_)))), some (.inl a2_), some (.inr (.inl y3_)), none, some (.inl fm_), some (.inl (g_ + 1)), some (.inl rc_), some (.inl k_)], [], sm_aI Sx9_ 94 0 (vx21_ + g_).toNat 1)) rfl ?_
            refine sm_T_wk [some (.inr (.inr (some (9, 0)))), some (.inr (.inr (some (2, cc_)))), some (.inl a2_), some (.inr (.inl y3_)), none, some (.inl fm_), some (.inl (g_ + 1)), none, none] (by exact ⟨rfl, rfl, rfl, rfl, rfl, rfl, trivial⟩) ?_
            refine ih_.2.1 y3_ fm_ (g_ + 1) (sm_aI Sx9_ 94 0 (vx21_ + g_).toNat 1) hIx22_ hFx23_ ⟨?_, ?_, ?_, trivial⟩ ?_
            · omega
            · first | exact hck_ | exact tk273_
            · first | exact hn1_ | exact n273_
            · omega
      · have cx7_ : ¬ (vx6_ ≤ k_) := of_decide_eq_false cx7_
        refine sm_T_go 1 (c1 := (227, [some (.inr (.inr (some (9, 0)))), some (.inr (.inr (some (2, cc_)))), some (.inl a2_), some (.inr (.inl y3_)), none, some (.inl fm_), some (.inl g_), some (.inl rc_), some (.inl k_)], [.inl rc_], S_)) rfl ?_
        refine sm_T_b0 (a := 1) (z := 23) rfl (fun cx24_ => ?_) (fun cx24_ => ?_)
        · have cx24_ : rc_ ≠ 0 := of_decide_eq_true cx24_
          refine sm_T_go 3 (c1 := (257, [some (.inr (.inr (some (9, 0)))), some (.inr (.inr (some (2, cc_)))), some (.inl a2_), some (.inr (.inl y3_)), none, some (.inl fm_), some (.inl g_), some (.inl 1), some (.inl k_)], [], S_)) rfl ?_
          refine sm_T_inc (a := 8) (z := 1) (v := k_) (w := k_ + 1) rfl rfl (by omega) (by omega) (by omega) ?_ -- pc_ 257
          refine sm_T_go 1 (c1 := (214, [some (.inr (.inr (some (9, 0)))), some (.inr (.inr (some (2, cc_)))), some (.inl a2_), some (.inr (.inl y3_)), none, some (.inl fm_), some (.inl g_), some (.inl 1), some (.inl (k_ + 1))], [], S_)) rfl ?_
          refine ih_.2.2 y3_ fm_ g_ 1 (k_ + 1) S_ hI_ hF_ ⟨?_, ?_, ?_, trivial⟩ ?_
          · omega
          · exact hck_
          · exact hn1_
          · omega
        · have cx24_ : ¬ (rc_ ≠ 0) := of_decide_eq_false cx24_
          refine sm_T_go 6 (c1 := (241, [some (.inr (.inr (some (9, 0)))), some (.inr (.inr (some (2, cc_)))), some (.inl a2_), some (.inr (.inl y3_)), none, some (.inl fm_), some (.inl g_), some (.inl rc_), some (.inl k_)], [.inl g_, .inl 3, .inr (.inr (some (36, (0 + cc_)))), .inr (.inr (some (94, 0)))], S_)) rfl ?_
          refine sm_T_bin (w := 3 * g_) rfl (bi_mul (by omega) (by omega) (by omega)) ?_ -- pc_ 241
          refine sm_T_go 1 (c1 := (244, [some (.inr (.inr (some (9, 0)))), some (.inr (.inr (some (2, cc_)))), some (.inl a2_), some (.inr (.inl y3_)), none, some (.inl fm_), some (.inl g_), some (.inl rc_), some (.inl k_)], [.inl k_, .inl (3 * g_), .inr (.inr (some (36, (0 + cc_)))), .inr (.inr (some (94, 0)))], S_)) rfl ?_
          refine sm_T_bin (w := 3 * g_ + k_) rfl (bi_add (by omega) (by omega) (by omega)) ?_ -- pc_ 244
          refine sm_T_iald (n := 450) rfl rfl (by omega) (by omega) ?_
          have bx25_ : 0 ≤ S_.2.2.1 36 (0 + cc_) (3 * g_ + k_).toNat ∧ S_.2.2.1 36 (0 + cc_) (3 * g_ + k_).toNat ≤ 161 := hI_.2 36 (0 + cc_) _
          refine sm_T_iald (n := 162) rfl rfl (by omega) (by omega) ?_
          have bx26_ : 0 ≤ S_.2.2.1 94 0 (S_.2.2.1 36 (0 + cc_) (3 * g_ + k_).toNat).toNat ∧ S_.2.2.1 94 0 (S_.2.2.1 36 (0 + cc_) (3 * g_ + k_).toNat).toNat ≤ 1 := hI_.2 94 0 _
          refine sm_T_b0 (a := 0) (z := 7) rfl (fun cx27_ => ?_) (fun cx27_ => ?_)
          · have cx27_ : (S_.2.2.1 94 0 (S_.2.2.1 36 (0 + cc_) (3 * g_ + k_).toNat).toNat) = 0 := of_decide_eq_true cx27_
            refine sm_T_go 2 (c1 := (257, [some (.inr (.inr (some (9, 0)))), some (.inr (.inr (some (2, cc_)))), some (.inl a2_), some (.inr (.inl y3_)), none, some (.inl fm_), some (.inl g_), some (.inl 0), some (.inl k_)], [], S_)) rfl ?_
            refine sm_T_inc (a := 8) (z := 1) (v := k_) (w := k_ + 1) rfl rfl (by omega) (by omega) (by omega) ?_ -- pc_ 257
            refine sm_T_go 1 (c1 := (214, [some (.inr (.inr (some (9, 0)))), some (.inr (.inr (some (2, cc_)))), some (.inl a2_), some (.inr (.inl y3_)), none, some (.inl fm_), some (.inl g_), some (.inl 0), some (.inl (k_ + 1))], [], S_)) rfl ?_
            refine ih_.2.2 y3_ fm_ g_ 0 (k_ + 1) S_ hI_ hF_ ⟨?_, ?_, ?_, trivial⟩ ?_
            · omega
            · exact hck_
            · exact hn1_
            · omega
          · have cx27_ : ¬ ((S_.2.2.1 94 0 (S_.2.2.1 36 (0 + cc_) (3 * g_ + k_).toNat).toNat) = 0) := of_decide_eq_false cx27_
            refine sm_T_go 3 (c1 := (257, [some (.inr (.inr (some (9, 0)))), some (.inr (.inr (some (2, cc_)))), some (.inl a2_), some (.inr (.inl y3_)), none, some (.inl fm_), some (.inl g_), some (.inl 1), some (.inl k_)], [], S_)) rfl ?_
            refine sm_T_inc (a := 8) (z := 1) (v := k_) (w := k_ + 1) rfl rfl (by omega) (by omega) (by omega) ?_ -- pc_ 257
            refine sm_T_go 1 (c1 := (214, [some (.inr (.inr (some (9, 0)))), some (.inr (.inr (some (2, cc_)))), some (.inl a2_), some (.inr (.inl y3_)), none, some (.inl fm_), some (.inl g_), some (.inl 1), some (.inl (k_ + 1))], [], S_)) rfl ?_
            refine ih_.2.2 y3_ fm_ g_ 1 (k_ + 1) S_ hI_ hF_ ⟨?_, ?_, ?_, trivial⟩ ?_
            · omega
            · exact hck_
            · exact hn1_
            · omega
set_option maxHeartbeats 2000000 in
set_option maxRecDepth 20000 in
theorem vc_174 {sc_ : Nat × (Nat → Int)} (a2_ : Int) (cc_ : Nat) (S0_ : sm_S) (hI_ : gi S0_) (hs_ : S0_.1 2 cc_ 1 + S0_.1 2 cc_ 2 ≤ 12) (h2_ : 0 ≤ a2_ ∧ a2_ ≤ 1223) (hn_ : shn S0_) : sm_T (mt_P sc_) 4 174 (0, [some (.inr (.inr (some (9, 0)))), some (.inr (.inr (some (2, cc_)))), some (.inl a2_), none, none, none, none, none, none], [], S0_) (fun ro9_ => ∃ u_ S1_, ro9_ = (.inl u_, S1_, 0) ∧ vq_174 a2_ cc_ S0_ u_ S1_) := by
  have hF_ : ai_fr (sx_W vw_174) S0_ S0_ := ai_fr_rf
  refine sm_T_go 2 (c1 := (2, [some (.inr (.inr (some (9, 0)))), some (.inr (.inr (some (2, cc_)))), some (.inl a2_), none, none, none, none, none, none], [.inr (.inr (some (2, cc_))), .inr (.inr (some (9, 0)))], S0_)) rfl ?_
  refine sm_T_cal (d1 := 3) (Q1 := vq_168 cc_ S0_) rfl rfl (by decide) (vc_168 cc_ S0_ hI_ (by omega)) (fun u_ Sx1_ px4_ => ?_)
  obtain ⟨rfl, hIx2_, hFx3_, px4_⟩ := px4_
  have hFx5_ : ai_fr (sx_W vw_174) S0_ Sx1_ := ai_fr_tr hF_ (fr_le hFx3_ rfl)
  have tk2 := px4_
  have n2_ := shn_fr hn_ hFx3_
  have y1_ := hFx3_.1 2 cc_ 1 rfl
  have y2_ := hFx3_.1 2 cc_ 2 rfl
  have cw2_ : 0 ≤ Sx1_.1 9 0 2 ∧ Sx1_.1 9 0 2 ≤ 64 := hIx2_.1 9 0 2 rfl
  have cg2_ : 0 ≤ Sx1_.1 2 cc_ 8 ∧ Sx1_.1 2 cc_ 8 ≤ 150 := hIx2_.1 2 cc_ 8 rfl
  refine sm_T_go 3 (c1 := (10, [some (.inr (.inr (some (9, 0)))), some (.inr (.inr (some (2, cc_)))), some (.inl a2_), none, none, none, none, none, none], [.inl a2_, .inr (.inr (some (96, 0)))], Sx1_)) rfl ?_
  refine sm_T_iald (n := 1224) rfl rfl (by omega) (by omega) ?_
  have bx6_ : (-2147483648) ≤ Sx1_.2.2.1 96 0 a2_.toNat ∧ Sx1_.2.2.1 96 0 a2_.toNat ≤ 2147483647 := hIx2_.2 96 0 _
  refine sm_T_b0 (a := 0) (z := 4) rfl (fun cx7_ => ?_) (fun cx7_ => ?_)
  · have cx7_ : (Sx1_.2.2.1 96 0 a2_.toNat) = 0 := of_decide_eq_true cx7_
    refine sm_T_go 4 (c1 := (21, [some (.inr (.inr (some (9, 0)))), some (.inr (.inr (some (2, cc_)))), some (.inl a2_), none, none, none, none, none, none], [.inl 1, .inl a2_, .inr (.inr (some (96, 0)))], Sx1_)) rfl ?_
    refine sm_T_iast (n := 1224) rfl rfl (by omega) (by omega) ?_
    have hIx8_ : gi (sm_aI Sx1_ 96 0 a2_.toNat 1) := gi_aI hIx2_ (show (-2147483648) ≤ 1 ∧ 1 ≤ 2147483647 from ⟨by omega, by omega⟩)
    have hFx9_ : ai_fr (sx_W vw_174) S0_ (sm_aI Sx1_ 96 0 a2_.toNat 1) := ai_fr_tr hFx5_ (ai_fr_aI rfl)
    refine sm_T_go 3 (c1 := (27, [some (.inr (.inr (some (9, 0)))), some (.inr (.inr (some (2, cc_)))), some (.inl a2_), none, none, none, none, none, none], [.inl 0, .inr (.inr (some (94, 0)))], sm_aI Sx1_ 96 0 a2_.toNat 1)) rfl ?_
    refine sm_T_cal (d1 := 0) (Q1 := vq_2t4 0 (sm_aI Sx1_ 96 0 a2_.toNat 1)) rfl rfl (by decide) (vc_2t4 0 (sm_aI Sx1_ 96 0 a2_.toNat 1) hIx8_ (by decide)) (fun u_ Sx10_ px13_ => ?_)
    obtain ⟨rfl, hIx11_, hFx12_, px13_⟩ := px13_
    have hFx14_ : ai_fr (sx_W vw_174) S0_ Sx10_ := ai_fr_tr hFx9_ (fr_le hFx12_ rfl)
    have tk27_ := (hFx12_.2.1 9 0 0 rfl).trans tk2
    have n27_ := shn_fr (show shn (sm_aI Sx1_ 96 0 a2_.toNat 1) from n2_) hFx12_
    have x1_ : Sx10_.1 2 cc_ 1 = S0_.1 2 cc_ 1 := hFx14_.1 2 cc_ 1 rfl
    have x2_ : Sx10_.1 2 cc_ 2 = S0_.1 2 cc_ 2 := hFx14_.1 2 cc_ 2 rfl
    have cw3_ : 0 ≤ Sx10_.1 9 0 2 ∧ Sx10_.1 9 0 2 ≤ 64 := hIx11_.1 9 0 2 rfl
    have cg3_ : 0 ≤ Sx10_.1 2 cc_ 8 ∧ Sx10_.1 2 cc_ 8 ≤ 150 := hIx11_.1 2 cc_ 8 rfl
    refine sm_T_go 2 (c1 := (32, [some (.inr (.inr (some (9, 0)))), some (.inr (.inr (some (2, cc_)))), some (.inl a2_), none, none, none, none, none, none], [.inl 1, .inl a2_], Sx10_)) rfl ?_
    refine sm_T_bin (w := (a2_ % 2)) rfl (bi_msk (k := 1) (by decide)) ?_ -- pc_ 32
    refine sm_T_b0 (a := 1) (z := 7) rfl (fun cx15_ => ?_) (fun cx15_ => ?_)
    · have cx15_ : (a2_ % 2) ≠ 0 := of_decide_eq_true cx15_
      refine sm_T_nt (u := some (.inr (.inl (-1)))) (S1 := Sx10_) rfl rfl rfl ?_
      refine sm_T_go 4 (c1 := (47, [some (.inr (.inr (some (9, 0)))), some (.inr (.inr (some (2, cc_)))), some (.inl a2_), some (.inr (.inl (-1))), none, none, none, none, none], [.inr (.inr (some (2, cc_))), .inl 2, .inl a2_], Sx10_)) rfl ?_
      refine sm_T_cal (d1 := 0) (Q1 := vq_55 cc_ Sx10_) rfl rfl (by decide) (vc_55 cc_ Sx10_ hIx11_ ) (fun u_ Sx16_ px19_ => ?_)
      obtain ⟨rfl, vx21_, rfl, px19_⟩ := px19_
      have m47_ := px19_
      refine sm_T_bin (w := 2 * vx21_) rfl (bi_mul (by omega) (by omega) (by omega)) ?_ -- pc_ 50
      refine sm_T_br (a := 3) (z := 57) rfl (fun cx22_ => ?_) (fun cx22_ => ?_)
      · have cx22_ : 2 * vx21_ ≤ a2_ := of_decide_eq_true cx22_
        refine sm_T_go 2 (c1 := (110, [some (.inr (.inr (some (9, 0)))), some (.inr (.inr (some (2, cc_)))), some (.inl a2_), some (.inr (.inl (-1))), none, none, none, none, none], [.inl 2, .inl a2_], Sx10_)) rfl ?_
        refine sm_T_bin (w := (a2_ / 2)) rfl (bi_div (by omega) (by omega) (by omega) (by omega)) ?_ -- pc_ 110
        refine sm_T_go 1 (c1 := (112, [some (.inr (.inr (some (9, 0)))), some (.inr (.inr (some (2, cc_)))), some (.inl a2_), some (.inr (.inl (-1))), none, none, none, none, none], [.inr (.inr (some (2, cc_))), .inl (a2_ / 2)], Sx10_)) rfl ?_
        refine sm_T_cal (d1 := 0) (Q1 := vq_55 cc_ Sx10_) rfl rfl (by decide) (vc_55 cc_ Sx10_ hIx11_ ) (fun u_ Sx23_ px26_ => ?_)
        obtain ⟨rfl, vx28_, rfl, px26_⟩ := px26_
        have m112_ := px26_
        refine sm_T_bin (w := (a2_ / 2) - vx28_) rfl (bi_sub (by omega) (by omega) (by omega)) ?_ -- pc_ 115
        refine sm_T_go 3 (c1 := (121, [some (.inr (.inr (some (9, 0)))), some (.inr (.inr (some (2, cc_)))), some (.inl a2_), some (.inr (.inl (-1))), none, none, some (.inl ((a2_ / 2) - vx28_)), some (.inl 0), none], [], Sx10_)) rfl ?_
        refine (vl_174 a2_ cc_ S0_ hs_ h2_ hn_ _).1 (-1) ((a2_ / 2) - vx28_) 0 Sx10_ hIx11_ hFx14_ ⟨?_, ?_, ?_, trivial⟩ (Nat.lt_succ_self _)
        · omega
        · exact tk27_
        · exact n27_
      · have cx22_ : ¬ (2 * vx21_ ≤ a2_) := of_decide_eq_false cx22_
        refine sm_T_go 2 (c1 := (56, [some (.inr (.inr (some (9, 0)))), some (.inr (.inr (some (2, cc_)))), some (.inl a2_), some (.inr (.inl (-1))), none, none, none, none, none], [.inl 1, .inl a2_], Sx10_)) rfl ?_
        refine sm_T_bin (w := (a2_ / 2)) rfl (bi_shr (k := 1) (by decide) (by omega) (by omega)) ?_ -- pc_ 56
        refine sm_T_go 5 (c1 := (66, [some (.inr (.inr (some (9, 0)))), some (.inr (.inr (some (2, cc_)))), some (.inl a2_), some (.inr (.inl (-1))), none, none, some (.inl (a2_ / 2)), none, none], [.inl 1, .inl (a2_ / 2), .inr (.inr (some (94, 0)))], Sx10_)) rfl ?_
        refine sm_T_iast (n := 162) rfl rfl (by omega) (by omega) ?_
        have hIx29_ : gi (sm_aI Sx10_ 94 0 (a2_ / 2).toNat 1) := gi_aI hIx11_ (show 0 ≤ 1 ∧ 1 ≤ 1 from ⟨by omega, by omega⟩)
        have hFx30_ : ai_fr (sx_W vw_174) S0_ (sm_aI Sx10_ 94 0 (a2_ / 2).toNat 1) := ai_fr_tr hFx14_ (ai_fr_aI rfl)
        refine sm_T_go 4 (c1 := (75, [some (.inr (.inr (some (9, 0)))), some (.inr (.inr (some (2, cc_)))), some (.inl a2_), some (.inr (.inl (-1))), none, none, some (.inl (a2_ / 2)), none, none], [.inl 64, .inl (a2_ / 2), .inr (.inr (some (93, 0)))], sm_aI Sx10_ 94 0 (a2_ / 2).toNat 1)) rfl ?_
        refine sm_T_bin (w := 64 * (a2_ / 2)) rfl (bi_mul (by omega) (by omega) (by omega)) ?_ -- pc_ 75
        refine sm_T_go 2 (c1 := (80, [some (.inr (.inr (some (9, 0)))), some (.inr (.inr (some (2, cc_)))), some (.inl a2_), some (.inr (.inl (-1))), none, none, some (.inl (a2_ / 2)), none, none], [.inl 64, .inl (a2_ / 2), .inl (64 * (a2_ / 2)), .inr (.inr (some (93, 0)))], sm_aI Sx10_ 94 0 (a2_ / 2).toNat 1)) rfl ?_
        refine sm_T_bin (w := 64 * (a2_ / 2)) rfl (bi_mul (by omega) (by omega) (by omega)) ?_ -- pc_ 80
        have bx31_ : 0 ≤ Sx10_.1 9 0 2 ∧ Sx10_.1 9 0 2 ≤ 64 := hIx11_.1 9 0 2 rfl
        refine sm_T_go 2 (c1 := (85, [some (.inr (.inr (some (9, 0)))), some (.inr (.inr (some (2, cc_)))), some (.inl a2_), some (.inr (.inl (-1))), none, none, some (.inl (a2_ / 2)), none, none], [.inl (Sx10_.1 9 0 2), .inl (64 * (a2_ / 2)), .inl (64 * (a2_ / 2)), .inr (.inr (some (93, 0)))], sm_aI Sx10_ 94 0 (a2_ / 2).toNat 1)) rfl ?_
        refine sm_T_bin (w := 64 * (a2_ / 2) + (Sx10_.1 9 0 2)) rfl (bi_add (by omega) (by omega) (by omega)) ?_ -- pc_ 85
        refine sm_T_go 1 (c1 := (87, [some (.inr (.inr (some (9, 0)))), some (.inr (.inr (some (2, cc_)))), some (.inl a2_), some (.inr (.inl (-1))), none, none, some (.inl (a2_ / 2)), none, none], [.inr (.inl (-1)), .inl (64 * (a2_ / 2) + (Sx10_.1 9 0 2)), .inl (64 * (a2_ / 2)), .inr (.inr (some (93, 0)))], sm_aI Sx10_ 94 0 (a2_ / 2).toNat 1)) rfl ?_
        refine sm_T_cal (d1 := 1) (Q1 := vq_5b3 (64 * (a2_ / 2)) (64 * (a2_ / 2) + (Sx10_.1 9 0 2)) (-1) (sm_aI Sx10_ 94 0 (a2_ / 2).toNat 1)) rfl rfl (by decide) (vc_5b3 (64 * (a2_ / 2)) (64 * (a2_ / 2) + (Sx10_.1 9 0 2)) (-1) (sm_aI Sx10_ 94 0 (a2_ / 2).toNat 1) hIx29_ (by omega)) (fun u_ Sx32_ px35_ => ?_)
        obtain ⟨rfl, hIx33_, hFx34_, px35_⟩ := px35_
        have hFx36_ : ai_fr (sx_W vw_174) S0_ Sx32_ := ai_fr_tr hFx30_ (fr_le hFx34_ rfl)
        have tk87_ := (hFx34_.2.1 9 0 0 rfl).trans tk27_
        have n87_ := shn_fr (show shn (sm_aI Sx10_ 94 0 (a2_ / 2).toNat 1) from n27_) hFx34_
        have v1_ : Sx32_.1 2 cc_ 1 = S0_.1 2 cc_ 1 := hFx36_.1 2 cc_ 1 rfl
        have v2_ : Sx32_.1 2 cc_ 2 = S0_.1 2 cc_ 2 := hFx36_.1 2 cc_ 2 rfl
        refine sm_T_go 3 (c1 := (94, [some (.inr (.inr (some (9, 0)))), some (.inr (.inr (some (2, cc_)))), some (.inl a2_), some (.inr (.inl (-1))), none, none, some (.inl (a2_ / 2)), none, none], [.inr (.inr (some (2, cc_))), .inl (a2_ / 2), .inl 0], Sx32_)) rfl ?_
        refine sm_T_cal (d1 := 0) (Q1 := vq_54 cc_ Sx32_) rfl rfl (by decide) (vc_54 cc_ Sx32_ hIx33_ ) (fun u_ Sx37_ px40_ => ?_)
        obtain ⟨rfl, vx42_, rfl, px40_⟩ := px40_
        have m94_ := px40_
        refine sm_T_bin (w := (a2_ / 2) - vx42_) rfl (bi_sub (by omega) (by omega) (by omega)) ?_ -- pc_ 97
        refine sm_T_go 1 (c1 := (99, [some (.inr (.inr (some (9, 0)))), some (.inr (.inr (some (2, cc_)))), some (.inl a2_), some (.inr (.inl (-1))), none, none, some (.inl (a2_ / 2)), none, none], [.inl 1, .inl ((a2_ / 2) - vx42_), .inl 0], Sx32_)) rfl ?_
        refine sm_T_bin (w := (a2_ / 2) - vx42_ + 1) rfl (bi_add (by omega) (by omega) (by omega)) ?_ -- pc_ 99
        refine sm_T_nt (u := some (.inl (sm_mx 0 ((a2_ / 2) - vx42_ + 1)))) (S1 := Sx32_) rfl rfl rfl ?_
        have bx43_ := sm_mx_d 0 ((a2_ / 2) - vx42_ + 1)
        refine sm_T_go 4 (c1 := (199, [some (.inr (.inr (some (9, 0)))), some (.inr (.inr (some (2, cc_)))), some (.inl a2_), some (.inr (.inl (-1))), none, some (.inl (sm_mx 0 ((a2_ / 2) - vx42_ + 1))), some (.inl (sm_mx 0 ((a2_ / 2) - vx42_ + 1))), none, none], [], Sx32_)) rfl ?_
        refine (vl_174 a2_ cc_ S0_ hs_ h2_ hn_ _).2.1 (-1) (sm_mx 0 ((a2_ / 2) - vx42_ + 1)) (sm_mx 0 ((a2_ / 2) - vx42_ + 1)) Sx32_ hIx33_ hFx36_ ⟨?_, ?_, ?_, trivial⟩ (Nat.lt_succ_self _)
        · omega
        · exact tk87_
        · exact n87_
    · have cx15_ : ¬ ((a2_ % 2) ≠ 0) := of_decide_eq_false cx15_
      refine sm_T_go 6 (c1 := (47, [some (.inr (.inr (some (9, 0)))), some (.inr (.inr (some (2, cc_)))), some (.inl a2_), some (.inr (.inl 0)), none, none, none, none, none], [.inr (.inr (some (2, cc_))), .inl 2, .inl a2_], Sx10_)) rfl ?_
      refine sm_T_cal (d1 := 0) (Q1 := vq_55 cc_ Sx10_) rfl rfl (by decide) (vc_55 cc_ Sx10_ hIx11_ ) (fun u_ Sx44_ px47_ => ?_)
      obtain ⟨rfl, vx49_, rfl, px47_⟩ := px47_
      have m47_ := px47_
      refine sm_T_bin (w := 2 * vx49_) rfl (bi_mul (by omega) (by omega) (by omega)) ?_ -- pc_ 50
      refine sm_T_br (a := 3) (z := 57) rfl (fun cx50_ => ?_) (fun cx50_ => ?_)
      · have cx50_ : 2 * vx49_ ≤ a2_ := of_decide_eq_true cx50_
        refine sm_T_go 2 (c1 := (110, [some (.inr (.inr (some (9, 0)))), some (.inr (.inr (some (2, cc_)))), some (.inl a2_), some (.inr (.inl 0)), none, none, none, none, none], [.inl 2, .inl a2_], Sx10_)) rfl ?_
        refine sm_T_bin (w := (a2_ / 2)) rfl (bi_div (by omega) (by omega) (by omega) (by omega)) ?_ -- pc_ 110
        refine sm_T_go 1 (c1 := (112, [some (.inr (.inr (some (9, 0)))), some (.inr (.inr (some (2, cc_)))), some (.inl a2_), some (.inr (.inl 0)), none, none, none, none, none], [.inr (.inr (some (2, cc_))), .inl (a2_ / 2)], Sx10_)) rfl ?_
        refine sm_T_cal (d1 := 0) (Q1 := vq_55 cc_ Sx10_) rfl rfl (by decide) (vc_55 cc_ Sx10_ hIx11_ ) (fun u_ Sx51_ px54_ => ?_)
        obtain ⟨rfl, vx56_, rfl, px54_⟩ := px54_
        have m112_ := px54_
        refine sm_T_bin (w := (a2_ / 2) - vx56_) rfl (bi_sub (by omega) (by omega) (by omega)) ?_ -- pc_ 115
        refine sm_T_go 3 (c1 := (121, [some (.inr (.inr (some (9, 0)))), some (.inr (.inr (some (2, cc_)))), some (.inl a2_), some (.inr (.inl 0)), none, none, some (.inl ((a2_ / 2) - vx56_)), some (.inl 0), none], [], Sx10_)) rfl ?_
        refine (vl_174 a2_ cc_ S0_ hs_ h2_ hn_ _).1 0 ((a2_ / 2) - vx56_) 0 Sx10_ hIx11_ hFx14_ ⟨?_, ?_, ?_, trivial⟩ (Nat.lt_succ_self _)
        · omega
        · exact tk27_
        · exact n27_
      · have cx50_ : ¬ (2 * vx49_ ≤ a2_) := of_decide_eq_false cx50_
        refine sm_T_go 2 (c1 := (56, [some (.inr (.inr (some (9, 0)))), some (.inr (.inr (some (2, cc_)))), some (.inl a2_), some (.inr (.inl 0)), none, none, none, none, none], [.inl 1, .inl a2_], Sx10_)) rfl ?_
        refine sm_T_bin (w := (a2_ / 2)) rfl (bi_shr (k := 1) (by decide) (by omega) (by omega)) ?_ -- pc_ 56
        refine sm_T_go 5 (c1 := (66, [some (.inr (.inr (some (9, 0)))), some (.inr (.inr (some (2, cc_)))), some (.inl a2_), some (.inr (.inl 0)), none, none, some (.inl (a2_ / 2)), none, none], [.inl 1, .inl (a2_ / 2), .inr (.inr (some (94, 0)))], Sx10_)) rfl ?_
        refine sm_T_iast (n := 162) rfl rfl (by omega) (by omega) ?_
        have hIx57_ : gi (sm_aI Sx10_ 94 0 (a2_ / 2).toNat 1) := gi_aI hIx11_ (show 0 ≤ 1 ∧ 1 ≤ 1 from ⟨by omega, by omega⟩)
        have hFx58_ : ai_fr (sx_W vw_174) S0_ (sm_aI Sx10_ 94 0 (a2_ / 2).toNat 1) := ai_fr_tr hFx14_ (ai_fr_aI rfl)
        refine sm_T_go 4 (c1 := (75, [some (.inr (.inr (some (9, 0)))), some (.inr (.inr (some (2, cc_)))), some (.inl a2_), some (.inr (.inl 0)), none, none, some (.inl (a2_ / 2)), none, none], [.inl 64, .inl (a2_ / 2), .inr (.inr (some (93, 0)))], sm_aI Sx10_ 94 0 (a2_ / 2).toNat 1)) rfl ?_
        refine sm_T_bin (w := 64 * (a2_ / 2)) rfl (bi_mul (by omega) (by omega) (by omega)) ?_ -- pc_ 75
        refine sm_T_go 2 (c1 := (80, [some (.inr (.inr (some (9, 0)))), some (.inr (.inr (some (2, cc_)))), some (.inl a2_), some (.inr (.inl 0)), none, none, some (.inl (a2_ / 2)), none, none], [.inl 64, .inl (a2_ / 2), .inl (64 * (a2_ / 2)), .inr (.inr (some (93, 0)))], sm_aI Sx10_ 94 0 (a2_ / 2).toNat 1)) rfl ?_
        refine sm_T_bin (w := 64 * (a2_ / 2)) rfl (bi_mul (by omega) (by omega) (by omega)) ?_ -- pc_ 80
        have bx59_ : 0 ≤ Sx10_.1 9 0 2 ∧ Sx10_.1 9 0 2 ≤ 64 := hIx11_.1 9 0 2 rfl
        refine sm_T_go 2 (c1 := (85, [some (.inr (.inr (some (9, 0)))), some (.inr (.inr (some (2, cc_)))), some (.inl a2_), some (.inr (.inl 0)), none, none, some (.inl (a2_ / 2)), none, none], [.inl (Sx10_.1 9 0 2), .inl (64 * (a2_ / 2)), .inl (64 * (a2_ / 2)), .inr (.inr (some (93, 0)))], sm_aI Sx10_ 94 0 (a2_ / 2).toNat 1)) rfl ?_
        refine sm_T_bin (w := 64 * (a2_ / 2) + (Sx10_.1 9 0 2)) rfl (bi_add (by omega) (by omega) (by omega)) ?_ -- pc_ 85
        refine sm_T_go 1 (c1 := (87, [some (.inr (.inr (some (9, 0)))), some (.inr (.inr (some (2, cc_)))), some (.inl a2_), some (.inr (.inl 0)), none, none, some (.inl (a2_ / 2)), none, none], [.inr (.inl 0), .inl (64 * (a2_ / 2) + (Sx10_.1 9 0 2)), .inl (64 * (a2_ / 2)), .inr (.inr (some (93, 0)))], sm_aI Sx10_ 94 0 (a2_ / 2).toNat 1)) rfl ?_
        refine sm_T_cal (d1 := 1) (Q1 := vq_5b3 (64 * (a2_ / 2)) (64 * (a2_ / 2) + (Sx10_.1 9 0 2)) 0 (sm_aI Sx10_ 94 0 (a2_ / 2).toNat 1)) rfl rfl (by decide) (vc_5b3 (64 * (a2_ / 2)) (64 * (a2_ / 2) + (Sx10_.1 9 0 2)) 0 (sm_aI Sx10_ 94 0 (a2_ / 2).toNat 1) hIx57_ (by omega)) (fun u_ Sx60_ px63_ => ?_)
        obtain ⟨rfl, hIx61_, hFx62_, px63_⟩ := px63_
        have hFx64_ : ai_fr (sx_W vw_174) S0_ Sx60_ := ai_fr_tr hFx58_ (fr_le hFx62_ rfl)
        have tk87_ := (hFx62_.2.1 9 0 0 rfl).trans tk27_
        have n87_ := shn_fr (show shn (sm_aI Sx10_ 94 0 (a2_ / 2).toNat 1) from n27_) hFx62_
        have v1_ : Sx60_.1 2 cc_ 1 = S0_.1 2 cc_ 1 := hFx64_.1 2 cc_ 1 rfl
        have v2_ : Sx60_.1 2 cc_ 2 = S0_.1 2 cc_ 2 := hFx64_.1 2 cc_ 2 rfl
        refine sm_T_go 3 (c1 := (94, [some (.inr (.inr (some (9, 0)))), some (.inr (.inr (some (2, cc_)))), some (.inl a2_), some (.inr (.inl 0)), none, none, some (.inl (a2_ / 2)), none, none], [.inr (.inr (some (2, cc_))), .inl (a2_ / 2), .inl 0], Sx60_)) rfl ?_
        refine sm_T_cal (d1 := 0) (Q1 := vq_54 cc_ Sx60_) rfl rfl (by decide) (vc_54 cc_ Sx60_ hIx61_ ) (fun u_ Sx65_ px68_ => ?_)
        obtain ⟨rfl, vx70_, rfl, px68_⟩ := px68_
        have m94_ := px68_
        refine sm_T_bin (w := (a2_ / 2) - vx70_) rfl (bi_sub (by omega) (by omega) (by omega)) ?_ -- pc_ 97
        refine sm_T_go 1 (c1 := (99, [some (.inr (.inr (some (9, 0)))), some (.inr (.inr (some (2, cc_)))), some (.inl a2_), some (.inr (.inl 0)), none, none, some (.inl (a2_ / 2)), none, none], [.inl 1, .inl ((a2_ / 2) - vx70_), .inl 0], Sx60_)) rfl ?_
        refine sm_T_bin (w := (a2_ / 2) - vx70_ + 1) rfl (bi_add (by omega) (by omega) (by omega)) ?_ -- pc_ 99
        refine sm_T_nt (u := some (.inl (sm_mx 0 ((a2_ / 2) - vx70_ + 1)))) (S1 := Sx60_) rfl rfl rfl ?_
        have bx71_ := sm_mx_d 0 ((a2_ / 2) - vx70_ + 1)
        refine sm_T_go 4 (c1 := (199, [some (.inr (.inr (some (9, 0)))), some (.inr (.inr (some (2, cc_)))), some (.inl a2_), some (.inr (.inl 0)), none, some (.inl (sm_mx 0 ((a2_ / 2) - vx70_ + 1))), some (.inl (sm_mx 0 ((a2_ / 2) - vx70_ + 1))), none, none], [], Sx60_)) rfl ?_
        refine (vl_174 a2_ cc_ S0_ hs_ h2_ hn_ _).2.1 0 (sm_mx 0 ((a2_ / 2) - vx70_ + 1)) (sm_mx 0 ((a2_ / 2) - vx70_ + 1)) Sx60_ hIx61_ hFx64_ ⟨?_, ?_, ?_, trivial⟩ (Nat.lt_succ_self _)
        · omega
        · exact tk87_
        · exact n87_
  · have cx7_ : ¬ ((Sx1_.2.2.1 96 0 a2_.toNat) = 0) := of_decide_eq_false cx7_
    refine sm_T_rv rfl ⟨_, _, rfl, rfl, hIx2_, hFx5_, ?_⟩
    exact ⟨tk2, n2_⟩
end
/-! 99.zl8a -/
section
/-! tests: patterns; written by wip/p55/gen/vg -/
/-! Tester.isShown -/
def vw_176 : sx_Wl := ([], [], [])
def vq_176 (a1_ : Int) (a2_ : Int) (S0_ : sm_S) (u_ : Option sm_V) (S1_ : sm_S) : Prop := S0_ = S1_ ∧ ∃ v_ : Int, u_ = some (.inl v_) ∧ (0 ≤ v_ ∧ v_ ≤ 1)
set_option maxHeartbeats 400000 in
theorem vc_176 {sc_ : Nat × (Nat → Int)} (a1_ : Int) (a2_ : Int) (S0_ : sm_S) (hI_ : gi S0_) (h1_ : 0 ≤ a1_ ∧ a1_ ≤ 4095) (h2_ : 0 ≤ a2_ ∧ a2_ ≤ 1223) : sm_T (mt_P sc_) 0 176 (0, [some (.inr (.inr (some (9, 0)))), some (.inl a1_), some (.inl a2_)], [], S0_) (fun ro9_ => ∃ u_ S1_, ro9_ = (.inl u_, S1_, 0) ∧ vq_176 a1_ a2_ S0_ u_ S1_) := by
  have hF_ : ai_fr (sx_W vw_176) S0_ S0_ := ai_fr_rf
  refine sm_T_go 4 (c1 := (7, [some (.inr (.inr (some (9, 0)))), some (.inl a1_), some (.inl a2_)], [.inl 64, .inl a2_, .inr (.inr (some (95, 0)))], S0_)) rfl ?_
  refine sm_T_bin (w := 64 * a2_) rfl (bi_mul (by omega) (by omega) (by omega)) ?_ -- pc_ 7
  refine sm_T_go 2 (c1 := (11, [some (.inr (.inr (some (9, 0)))), some (.inl a1_), some (.inl a2_)], [.inl 6, .inl a1_, .inl (64 * a2_), .inr (.inr (some (95, 0)))], S0_)) rfl ?_
  refine sm_T_bin (w := (a1_ / 64)) rfl (bi_shr (k := 6) (by decide) (by omega) (by omega)) ?_ -- pc_ 11
  refine sm_T_bin (w := 64 * a2_ + (a1_ / 64)) rfl (bi_add (by omega) (by omega) (by omega)) ?_ -- pc_ 12
  refine sm_T_lald (n := 78336) rfl rfl (by omega) (by omega) ?_
  refine sm_T_go 2 (c1 := (17, [some (.inr (.inr (some (9, 0)))), some (.inl a1_), some (.inl a2_)], [.inl 63, .inl a1_, .inr (.inl (S0_.2.2.2 95 0 (64 * a2_ + (a1_ / 64)).toNat))], S0_)) rfl ?_
  refine sm_T_bin (w := (a1_ % 64)) rfl (bi_msk (k := 6) (by decide)) ?_ -- pc_ 17
  refine sm_T_go 5 (c1 := (23, [some (.inr (.inr (some (9, 0)))), some (.inl a1_), some (.inl a2_)], [.inl (sm_lcmp ((l_3 ((l_s1 ((S0_.2.2.2 95 0 (64 * a2_ + (a1_ / 64)).toNat)) (a1_ % 64))) 1)) 0)], S0_)) rfl ?_
  refine sm_T_b0 (a := 0) (z := 7) rfl (fun cx1_ => ?_) (fun cx1_ => ?_)
  · have cx1_ : (sm_lcmp ((l_3 ((l_s1 ((S0_.2.2.2 95 0 (64 * a2_ + (a1_ / 64)).toNat)) (a1_ % 64))) 1)) 0) = 0 := of_decide_eq_true cx1_
    refine sm_T_go 1 (c1 := (31, [some (.inr (.inr (some (9, 0)))), some (.inl a1_), some (.inl a2_)], [.inl 0], S0_)) rfl ?_
    refine sm_T_rz rfl (by omega) ⟨_, _, rfl, rfl, _, rfl, ?_⟩
    omega
  · have cx1_ : ¬ ((sm_lcmp ((l_3 ((l_s1 ((S0_.2.2.2 95 0 (64 * a2_ + (a1_ / 64)).toNat)) (a1_ % 64))) 1)) 0) = 0) := of_decide_eq_false cx1_
    refine sm_T_go 2 (c1 := (31, [some (.inr (.inr (some (9, 0)))), some (.inl a1_), some (.inl a2_)], [.inl 1], S0_)) rfl ?_
    refine sm_T_rz rfl (by omega) ⟨_, _, rfl, rfl, _, rfl, ?_⟩
    omega
end
/-! 99.zl8b -/
section
/-! Tester.leastPattern -/
def vw_177 : sx_Wl := ([(9, 1), (9, 2), (9, 3)], [92, 93, 94, 95, 96], [(9, 0)])
def vq_177 (a2_ : Int) (cc_ : Nat) (S0_ : sm_S) (u_ : Option sm_V) (S1_ : sm_S) : Prop := ∃ v_ : Int, u_ = some (.inl v_) ∧ gi S1_ ∧ ai_fr (sx_W vw_177) S0_ S1_ ∧ ((-1 ≤ v_ ∧ v_ ≤ 4095) ∧ shn S1_)
set_option maxHeartbeats 400000 in
theorem vl_177 {sc_ : Nat × (Nat → Int)} (a2_ : Int) (cc_ : Nat) (S0_ : sm_S) (hs_ : S0_.1 2 cc_ 1 + S0_.1 2 cc_ 2 ≤ 12) (h2_ : 0 ≤ a2_ ∧ a2_ ≤ 1223) (hn_ : shn S0_) : ∀ nn_ : Nat, (∀ (w_ : Int) (S_ : sm_S), gi S_ → ai_fr (sx_W vw_177) S0_ S_ → ((0 ≤ w_ ∧ w_ ≤ 64) ∧ (shn S_) ∧ True) → ((100 - w_).toNat) < nn_ → sm_T (mt_P sc_) 5 177 (8, [some (.inr (.inr (some (9, 0)))), some (.inr (.inr (some (2, cc_)))), some (.inl a2_), some (.inl w_), none, none], [], S_) (fun ro9_ => ∃ u_ S1_, ro9_ = (.inl u_, S1_, 0) ∧ vq_177 a2_ cc_ S0_ u_ S1_)) := by
  intro nn_
  induction nn_ with
  | zero => exact fun _ _ _ _ _ h_ => absurd h_ (Nat.not_lt_zero _)
  | succ nn_ ih_ =>
    rintro w_ S_ hI_ hF_ ⟨h0_, hn1_, -⟩ hm_
    have cw : 0 ≤ S_.1 9 0 2 ∧ S_.1 9 0 2 ≤ 64 := hI_.1 9 0 2 rfl
    have bx1_ : 0 ≤ S_.1 9 0 2 ∧ S_.1 9 0 2 ≤ 64 := hI_.1 9 0 2 rfl
    refine sm_T_go 3 (c1 := (13, [some (.inr (.inr (some (9, 0)))), some (.inr (.inr (some (2, cc_)))), some (.inl a2_), some (.inl w_), none, none], [.inl (S_.1 9 0 2), .inl w_], S_)) rfl ?_
    refine sm_T_br (a := 3) (z := 40) rfl (fun cx2_ => ?_) (fun cx2_ => ?_)
    · have cx2_ : (S_.1 9 0 2) ≤ w_ := of_decide_eq_true cx2_
      refine sm_T_go 1 (c1 := (54, [some (.inr (.inr (some (9, 0)))), some (.inr (.inr (some (2, cc_)))), some (.inl a2_), some (.inl w_), none, none], [.inl (-1)], S_)) rfl ?_
      refine sm_T_ri rfl ⟨_, _, rfl, _, rfl, hI_, hF_, ?_⟩
      exact ⟨by omega, hn1_⟩
    · have cx2_ : ¬ ((S_.1 9 0 2) ≤ w_) := of_decide_eq_false cx2_
      refine sm_T_go 4 (c1 := (23, [some (.inr (.inr (some (9, 0)))), some (.inr (.inr (some (2, cc_)))), some (.inl a2_), some (.inl w_), none, none], [.inl 64, .inl a2_, .inr (.inr (some (95, 0)))], S_)) rfl ?_
      refine sm_T_bin (w := 64 * a2_) rfl (bi_mul (by omega) (by omega) (by omega)) ?_ -- pc_ 23
      refine sm_T_go 1 (c1 := (25, [some (.inr (.inr (some (9, 0)))), some (.inr (.inr (some (2, cc_)))), some (.inl a2_), some (.inl w_), none, none], [.inl w_, .inl (64 * a2_), .inr (.inr (some (95, 0)))], S_)) rfl ?_
      refine sm_T_bin (w := 64 * a2_ + w_) rfl (bi_add (by omega) (by omega) (by omega)) ?_ -- pc_ 25
      refine sm_T_lald (n := 78336) rfl rfl (by omega) (by omega) ?_
      refine sm_T_go 4 (c1 := (33, [some (.inr (.inr (some (9, 0)))), some (.inr (.inr (some (2, cc_)))), some (.inl a2_), some (.inl w_), some (.inr (.inl (S_.2.2.2 95 0 (64 * a2_ + w_).toNat))), none], [.inl (sm_lcmp ((S_.2.2.2 95 0 (64 * a2_ + w_).toNat)) 0)], S_)) rfl ?_
      refine sm_T_b0 (a := 0) (z := 14) rfl (fun cx3_ => ?_) (fun cx3_ => ?_)
      · have cx3_ : (sm_lcmp ((S_.2.2.2 95 0 (64 * a2_ + w_).toNat)) 0) = 0 := of_decide_eq_true cx3_
        refine sm_T_inc (a := 3) (z := 1) (v := w_) (w := w_ + 1) rfl rfl (by omega) (by omega) (by omega) ?_ -- pc_ 47
        refine sm_T_go 1 (c1 := (8, [some (.inr (.inr (some (9, 0)))), some (.inr (.inr (some (2, cc_)))), some (.inl a2_), some (.inl (w_ + 1)), some (.inr (.inl (S_.2.2.2 95 0 (64 * a2_ + w_).toNat))), none], [], S_)) rfl ?_
        refine sm_T_wk [some (.inr (.inr (some (9, 0)))), some (.inr (.inr (some (2, cc_)))), some (.inl a2_), some (.inl (w_ + 1)), none, none] (by exact ⟨rfl, rfl, rfl, rfl, trivial⟩) ?_
        refine ih_ (w_ + 1) S_ hI_ hF_ ⟨?_, ?_, trivial⟩ ?_
        · omega
        · exact hn1_
        · omega
      · have cx3_ : ¬ ((sm_lcmp ((S_.2.2.2 95 0 (64 * a2_ + w_).toNat)) 0) = 0) := of_decide_eq_false cx3_
        have lq9_ : S_.2.2.2 95 0 (64 * a2_ + w_).toNat ≠ 0 := by (intro q9_; apply cx3_; rw [q9_]; decide)
        refine sm_T_go 2 (c1 := (39, [some (.inr (.inr (some (9, 0)))), some (.inr (.inr (some (2, cc_)))), some (.inl a2_), some (.inl w_), some (.inr (.inl (S_.2.2.2 95 0 (64 * a2_ + w_).toNat))), none], [.inl w_, .inl 64], S_)) rfl ?_
        refine sm_T_bin (w := 64 * w_) rfl (bi_mul (by omega) (by omega) (by omega)) ?_ -- pc_ 39
        refine sm_T_go 1 (c1 := (42, [some (.inr (.inr (some (9, 0)))), some (.inr (.inr (some (2, cc_)))), some (.inl a2_), some (.inl w_), some (.inr (.inl (S_.2.2.2 95 0 (64 * a2_ + w_).toNat))), none], [.inr (.inl (S_.2.2.2 95 0 (64 * a2_ + w_).toNat)), .inl (64 * w_)], S_)) rfl ?_
        refine sm_T_cal (d1 := 1) (Q1 := vq_9 ((S_.2.2.2 95 0 (64 * a2_ + w_).toNat)) S_) rfl rfl (by decide) (vc_9 ((S_.2.2.2 95 0 (64 * a2_ + w_).toNat)) S_ hI_ (by exact hn1_ _)) (fun u_ Sx4_ px7_ => ?_)
        obtain ⟨rfl, vx9_, rfl, px7_⟩ := px7_
        have t9_ := px7_
        refine sm_T_bin (w := 64 * w_ + vx9_) rfl (bi_add (by omega) (by omega) (by omega)) ?_ -- pc_ 45
        refine sm_T_ri rfl ⟨_, _, rfl, _, rfl, hI_, hF_, ?_⟩
        have t8_ := t9_.2 lq9_
        exact ⟨by omega, hn1_⟩
set_option maxHeartbeats 400000 in
theorem vc_177 {sc_ : Nat × (Nat → Int)} (a2_ : Int) (cc_ : Nat) (S0_ : sm_S) (hI_ : gi S0_) (hs_ : S0_.1 2 cc_ 1 + S0_.1 2 cc_ 2 ≤ 12) (h2_ : 0 ≤ a2_ ∧ a2_ ≤ 1223) (hn_ : shn S0_) : sm_T (mt_P sc_) 5 177 (0, [some (.inr (.inr (some (9, 0)))), some (.inr (.inr (some (2, cc_)))), some (.inl a2_), none, none, none], [], S0_) (fun ro9_ => ∃ u_ S1_, ro9_ = (.inl u_, S1_, 0) ∧ vq_177 a2_ cc_ S0_ u_ S1_) := by
  have hF_ : ai_fr (sx_W vw_177) S0_ S0_ := ai_fr_rf
  refine sm_T_go 3 (c1 := (3, [some (.inr (.inr (some (9, 0)))), some (.inr (.inr (some (2, cc_)))), some (.inl a2_), none, none, none], [.inl a2_, .inr (.inr (some (2, cc_))), .inr (.inr (some (9, 0)))], S0_)) rfl ?_
  refine sm_T_cal (d1 := 4) (Q1 := vq_174 a2_ cc_ S0_) rfl rfl (by decide) (vc_174 a2_ cc_ S0_ hI_ (by omega) (by omega) (by omega)) (fun u_ Sx1_ px4_ => ?_)
  obtain ⟨rfl, hIx2_, hFx3_, px4_⟩ := px4_
  have hFx5_ : ai_fr (sx_W vw_177) S0_ Sx1_ := ai_fr_tr hF_ (fr_le hFx3_ rfl)
  have f3_ := px4_
  refine sm_T_go 2 (c1 := (8, [some (.inr (.inr (some (9, 0)))), some (.inr (.inr (some (2, cc_)))), some (.inl a2_), some (.inl 0), none, none], [], Sx1_)) rfl ?_
  refine (vl_177 a2_ cc_ S0_ hs_ h2_ hn_ _) 0 Sx1_ hIx2_ hFx5_ ⟨?_, ?_, trivial⟩ (Nat.lt_succ_self _)
  · omega
  · exact f3_.2
end
/-! 99.zl8c -/
section
/-! Tester.countHidden -/
def vw_178 : sx_Wl := ([(9, 1), (9, 2), (9, 3)], [92, 93, 94, 95, 96], [(9, 0)])
def vq_178 (cc_ : Nat) (S0_ : sm_S) (u_ : Option sm_V) (S1_ : sm_S) : Prop := ∃ v_ : Int, u_ = some (.inl v_) ∧ gi S1_ ∧ ai_fr (sx_W vw_178) S0_ S1_ ∧ (shn S1_)
set_option maxHeartbeats 400000 in
theorem vl_178 {sc_ : Nat × (Nat → Int)} (cc_ : Nat) (S0_ : sm_S) (hs_ : S0_.1 2 cc_ 1 + S0_.1 2 cc_ 2 ≤ 12) (hn_ : shn S0_) : ∀ nn_ : Nat, (∀ (hd_ : Int) (f_ : Int) (S_ : sm_S), gi S_ → ai_fr (sx_W vw_178) S0_ S_ → ((0 ≤ f_ ∧ f_ ≤ 1224 ∧ 0 ≤ hd_ ∧ hd_ ≤ f_) ∧ (shn S_) ∧ True) → ((2000 - f_).toNat) < nn_ → sm_T (mt_P sc_) 6 178 (4, [some (.inr (.inr (some (9, 0)))), some (.inr (.inr (some (2, cc_)))), some (.inl hd_), some (.inl f_)], [], S_) (fun ro9_ => ∃ u_ S1_, ro9_ = (.inl u_, S1_, 0) ∧ vq_178 cc_ S0_ u_ S1_)) := by
  intro nn_
  induction nn_ with
  | zero => exact fun _ _ _ _ _ _ h_ => absurd h_ (Nat.not_lt_zero _)
  | succ nn_ ih_ =>
    rintro hd_ f_ S_ hI_ hF_ ⟨h0_, hn1_, -⟩ hm_
    have z1_ : S_.1 2 cc_ 1 = S0_.1 2 cc_ 1 := hF_.1 2 cc_ 1 rfl
    have z2_ : S_.1 2 cc_ 2 = S0_.1 2 cc_ 2 := hF_.1 2 cc_ 2 rfl
    refine sm_T_go 2 (c1 := (6, [some (.inr (.inr (some (9, 0)))), some (.inr (.inr (some (2, cc_)))), some (.inl hd_), some (.inl f_)], [.inr (.inr (some (2, cc_))), .inl f_], S_)) rfl ?_
    refine sm_T_cal (d1 := 1) (Q1 := vq_62 cc_ S_) rfl rfl (by decide) (vc_62 cc_ S_ hI_ (by omega)) (fun u_ Sx1_ px4_ => ?_)
    obtain ⟨rfl, vx6_, rfl, px4_⟩ := px4_
    have fc6_ := px4_
    refine sm_T_br (a := 3) (z := 27) rfl (fun cx7_ => ?_) (fun cx7_ => ?_)
    · have cx7_ : vx6_ ≤ f_ := of_decide_eq_true cx7_
      refine sm_T_go 1 (c1 := (37, [some (.inr (.inr (some (9, 0)))), some (.inr (.inr (some (2, cc_)))), some (.inl hd_), some (.inl f_)], [.inl hd_], S_)) rfl ?_
      refine sm_T_ri rfl ⟨_, _, rfl, _, rfl, hI_, hF_, ?_⟩
      exact hn1_
    · have cx7_ : ¬ (vx6_ ≤ f_) := of_decide_eq_false cx7_
      refine sm_T_go 4 (c1 := (16, [some (.inr (.inr (some (9, 0)))), some (.inr (.inr (some (2, cc_)))), some (.inl hd_), some (.inl f_)], [.inl f_, .inr (.inr (some (2, cc_))), .inr (.inr (some (9, 0))), .inl hd_], S_)) rfl ?_
      refine sm_T_cal (d1 := 5) (Q1 := vq_177 f_ cc_ S_) rfl rfl (by decide) (vc_177 f_ cc_ S_ hI_ (by omega) (by omega) (by first | exact hn1_ | exact hn_)) (fun u_ Sx8_ px11_ => ?_)
      obtain ⟨vx13_, rfl, hIx9_, hFx10_, px11_⟩ := px11_
      have hFx12_ : ai_fr (sx_W vw_178) S0_ Sx8_ := ai_fr_tr hF_ (fr_le hFx10_ rfl)
      have p16_ := px11_
      refine sm_T_go 1 (c1 := (20, [some (.inr (.inr (some (9, 0)))), some (.inr (.inr (some (2, cc_)))), some (.inl hd_), some (.inl f_)], [.inl (-1), .inl vx13_, .inl hd_], Sx8_)) rfl ?_
      refine sm_T_br (a := 1) (z := 7) rfl (fun cx14_ => ?_) (fun cx14_ => ?_)
      · have cx14_ : vx13_ ≠ (-1) := of_decide_eq_true cx14_
        refine sm_T_go 1 (c1 := (28, [some (.inr (.inr (some (9, 0)))), some (.inr (.inr (some (2, cc_)))), some (.inl hd_), some (.inl f_)], [.inl 0, .inl hd_], Sx8_)) rfl ?_
        refine sm_T_bin (w := hd_) rfl (bi_add (by omega) (by omega) (by omega)) ?_ -- pc_ 28
        refine sm_T_go 1 (c1 := (30, [some (.inr (.inr (some (9, 0)))), some (.inr (.inr (some (2, cc_)))), some (.inl hd_), some (.inl f_)], [], Sx8_)) rfl ?_
        refine sm_T_inc (a := 3) (z := 1) (v := f_) (w := f_ + 1) rfl rfl (by omega) (by omega) (by omega) ?_ -- pc_ 30
        refine sm_T_go 1 (c1 := (4, [some (.inr (.inr (some (9, 0)))), some (.inr (.inr (some (2, cc_)))), some (.inl hd_), some (.inl (f_ + 1))], [], Sx8_)) rfl ?_
        refine ih_ hd_ (f_ + 1) Sx8_ hIx9_ hFx12_ ⟨?_, ?_, trivial⟩ ?_
        · omega
        · exact p16_.2
        · omega
      · have cx14_ : ¬ (vx13_ ≠ (-1)) := of_decide_eq_false cx14_
        refine sm_T_go 2 (c1 := (28, [some (.inr (.inr (some (9, 0)))), some (.inr (.inr (some (2, cc_)))), some (.inl hd_), some (.inl f_)], [.inl 1, .inl hd_], Sx8_)) rfl ?_
        refine sm_T_bin (w := hd_ + 1) rfl (bi_add (by omega) (by omega) (by omega)) ?_ -- pc_ 28
        refine sm_T_go 1 (c1 := (30, [some (.inr (.inr (some (9, 0)))), some (.inr (.inr (some (2, cc_)))), some (.inl (hd_ + 1)), some (.inl f_)], [], Sx8_)) rfl ?_
        refine sm_T_inc (a := 3) (z := 1) (v := f_) (w := f_ + 1) rfl rfl (by omega) (by omega) (by omega) ?_ -- pc_ 30
        refine sm_T_go 1 (c1 := (4, [some (.inr (.inr (some (9, 0)))), some (.inr (.inr (some (2, cc_)))), some (.inl (hd_ + 1)), some (.inl (f_ + 1))], [], Sx8_)) rfl ?_
        refine ih_ (hd_ + 1) (f_ + 1) Sx8_ hIx9_ hFx12_ ⟨?_, ?_, trivial⟩ ?_
        · omega
        · exact p16_.2
        · omega
set_option maxHeartbeats 400000 in
theorem vc_178 {sc_ : Nat × (Nat → Int)} (cc_ : Nat) (S0_ : sm_S) (hI_ : gi S0_) (hs_ : S0_.1 2 cc_ 1 + S0_.1 2 cc_ 2 ≤ 12) (hn_ : shn S0_) : sm_T (mt_P sc_) 6 178 (0, [some (.inr (.inr (some (9, 0)))), some (.inr (.inr (some (2, cc_)))), none, none], [], S0_) (fun ro9_ => ∃ u_ S1_, ro9_ = (.inl u_, S1_, 0) ∧ vq_178 cc_ S0_ u_ S1_) := by
  have hF_ : ai_fr (sx_W vw_178) S0_ S0_ := ai_fr_rf
  refine sm_T_go 4 (c1 := (4, [some (.inr (.inr (some (9, 0)))), some (.inr (.inr (some (2, cc_)))), some (.inl 0), some (.inl 0)], [], S0_)) rfl ?_
  refine (vl_178 cc_ S0_ hs_ hn_ _) 0 0 S0_ hI_ hF_ ⟨?_, ?_, trivial⟩ (Nat.lt_succ_self _)
  · omega
  · exact hn_
end
/-! 99.zl8d -/
section
/-! Tester.showing -/
def vw_180 : sx_Wl := ([], [], [])
def vq_180 (a2_ : Int) (cc_ : Nat) (S0_ : sm_S) (u_ : Option sm_V) (S1_ : sm_S) : Prop := S0_ = S1_ ∧ ∃ v_ : Int, u_ = some (.inl v_) ∧ (0 ≤ v_ ∧ v_ ≤ 1224)
set_option maxHeartbeats 400000 in
theorem vl_180 {sc_ : Nat × (Nat → Int)} (a2_ : Int) (cc_ : Nat) (S0_ : sm_S) (h2_ : 0 ≤ a2_ ∧ a2_ ≤ 1223) : ∀ nn_ : Nat, (∀ (ct : Int) (k_ : Int) (S_ : sm_S), gi S_ → ai_fr (sx_W vw_180) S0_ S_ → ((0 ≤ k_ ∧ k_ ≤ 1224 ∧ 0 ≤ ct ∧ ct ≤ k_) ∧ (S_ = S0_) ∧ True) → ((2000 - k_).toNat) < nn_ → sm_T (mt_P sc_) 1 180 (5, [some (.inr (.inr (some (9, 0)))), some (.inr (.inr (some (2, cc_)))), some (.inl a2_), some (.inl ct), some (.inl k_)], [], S_) (fun ro9_ => ∃ u_ S1_, ro9_ = (.inl u_, S1_, 0) ∧ vq_180 a2_ cc_ S0_ u_ S1_)) := by
  intro nn_
  induction nn_ with
  | zero => exact fun _ _ _ _ _ _ h_ => absurd h_ (Nat.not_lt_zero _)
  | succ nn_ ih_ =>
    rintro ct k_ S_ hI_ hF_ ⟨h0_, hS_, -⟩ hm_
    have cz_ : (-1) ≤ S_.1 2 cc_ 15 ∧ S_.1 2 cc_ 15 ≤ 1224 := hI_.1 2 cc_ 15 rfl
    have bx1_ : (-1) ≤ S_.1 2 cc_ 15 ∧ S_.1 2 cc_ 15 ≤ 1224 := hI_.1 2 cc_ 15 rfl
    refine sm_T_go 3 (c1 := (11, [some (.inr (.inr (some (9, 0)))), some (.inr (.inr (some (2, cc_)))), some (.inl a2_), some (.inl ct), some (.inl k_)], [.inl (S_.1 2 cc_ 15), .inl k_], S_)) rfl ?_
    refine sm_T_br (a := 3) (z := 32) rfl (fun cx2_ => ?_) (fun cx2_ => ?_)
    · have cx2_ : (S_.1 2 cc_ 15) ≤ k_ := of_decide_eq_true cx2_
      refine sm_T_go 1 (c1 := (44, [some (.inr (.inr (some (9, 0)))), some (.inr (.inr (some (2, cc_)))), some (.inl a2_), some (.inl ct), some (.inl k_)], [.inl ct], S_)) rfl ?_
      refine sm_T_ri rfl ⟨_, _, rfl, (by first | rfl | exact hS_.symm), _, rfl, ?_⟩
      omega
    · have cx2_ : ¬ ((S_.1 2 cc_ 15) ≤ k_) := of_decide_eq_false cx2_
      refine sm_T_go 5 (c1 := (22, [some (.inr (.inr (some (9, 0)))), some (.inr (.inr (some (2, cc_)))), some (.inl a2_), some (.inl ct), some (.inl k_)], [.inl k_, .inr (.inr (some (40, (0 + cc_)))), .inr (.inr (some (9, 0))), .inl ct], S_)) rfl ?_
      refine sm_T_iald (n := 1224) rfl rfl (by omega) (by omega) ?_
      have bx3_ : 0 ≤ S_.2.2.1 40 (0 + cc_) k_.toNat ∧ S_.2.2.1 40 (0 + cc_) k_.toNat ≤ 4095 := hI_.2 40 (0 + cc_) _
      refine sm_T_go 1 (c1 := (24, [some (.inr (.inr (some (9, 0)))), some (.inr (.inr (some (2, cc_)))), some (.inl a2_), some (.inl ct), some (.inl k_)], [.inl a2_, .inl (S_.2.2.1 40 (0 + cc_) k_.toNat), .inr (.inr (some (9, 0))), .inl ct], S_)) rfl ?_
      refine sm_T_cal (d1 := 0) (Q1 := vq_176 (S_.2.2.1 40 (0 + cc_) k_.toNat) a2_ S_) rfl rfl (by decide) (vc_176 (S_.2.2.1 40 (0 + cc_) k_.toNat) a2_ S_ hI_ (by omega) (by omega)) (fun u_ Sx4_ px7_ => ?_)
      obtain ⟨rfl, vx9_, rfl, px7_⟩ := px7_
      have i24_ := px7_
      refine sm_T_b0 (a := 0) (z := 7) rfl (fun cx10_ => ?_) (fun cx10_ => ?_)
      · have cx10_ : vx9_ = 0 := of_decide_eq_true cx10_
        refine sm_T_go 1 (c1 := (35, [some (.inr (.inr (some (9, 0)))), some (.inr (.inr (some (2, cc_)))), some (.inl a2_), some (.inl ct), some (.inl k_)], [.inl 0, .inl ct], S_)) rfl ?_
        refine sm_T_bin (w := ct) rfl (bi_add (by omega) (by omega) (by omega)) ?_ -- pc_ 35
        refine sm_T_go 1 (c1 := (37, [some (.inr (.inr (some (9, 0)))), some (.inr (.inr (some (2, cc_)))), some (.inl a2_), some (.inl ct), some (.inl k_)], [], S_)) rfl ?_
        refine sm_T_inc (a := 4) (z := 1) (v := k_) (w := k_ + 1) rfl rfl (by omega) (by omega) (by omega) ?_ -- pc_ 37
        refine sm_T_go 1 (c1 := (5, [some (.inr (.inr (some (9, 0)))), some (.inr (.inr (some (2, cc_)))), some (.inl a2_), some (.inl ct), some (.inl (k_ + 1))], [], S_)) rfl ?_
        refine ih_ ct (k_ + 1) S_ hI_ hF_ ⟨?_, ?_, trivial⟩ ?_
        · omega
        · first | rfl | exact hS_
        · omega
      · have cx10_ : ¬ (vx9_ = 0) := of_decide_eq_false cx10_
        refine sm_T_go 2 (c1 := (35, [some (.inr (.inr (some (9, 0)))), some (.inr (.inr (some (2, cc_)))), some (.inl a2_), some (.inl ct), some (.inl k_)], [.inl 1, .inl ct], S_)) rfl ?_
        refine sm_T_bin (w := ct + 1) rfl (bi_add (by omega) (by omega) (by omega)) ?_ -- pc_ 35
        refine sm_T_go 1 (c1 := (37, [some (.inr (.inr (some (9, 0)))), some (.inr (.inr (some (2, cc_)))), some (.inl a2_), some (.inl (ct + 1)), some (.inl k_)], [], S_)) rfl ?_
        refine sm_T_inc (a := 4) (z := 1) (v := k_) (w := k_ + 1) rfl rfl (by omega) (by omega) (by omega) ?_ -- pc_ 37
        refine sm_T_go 1 (c1 := (5, [some (.inr (.inr (some (9, 0)))), some (.inr (.inr (some (2, cc_)))), some (.inl a2_), some (.inl (ct + 1)), some (.inl (k_ + 1))], [], S_)) rfl ?_
        refine ih_ (ct + 1) (k_ + 1) S_ hI_ hF_ ⟨?_, ?_, trivial⟩ ?_
        · omega
        · first | rfl | exact hS_
        · omega
set_option maxHeartbeats 400000 in
theorem vc_180 {sc_ : Nat × (Nat → Int)} (a2_ : Int) (cc_ : Nat) (S0_ : sm_S) (hI_ : gi S0_) (h2_ : 0 ≤ a2_ ∧ a2_ ≤ 1223) : sm_T (mt_P sc_) 1 180 (0, [some (.inr (.inr (some (9, 0)))), some (.inr (.inr (some (2, cc_)))), some (.inl a2_), none, none], [], S0_) (fun ro9_ => ∃ u_ S1_, ro9_ = (.inl u_, S1_, 0) ∧ vq_180 a2_ cc_ S0_ u_ S1_) := by
  have hF_ : ai_fr (sx_W vw_180) S0_ S0_ := ai_fr_rf
  refine sm_T_go 4 (c1 := (5, [some (.inr (.inr (some (9, 0)))), some (.inr (.inr (some (2, cc_)))), some (.inl a2_), some (.inl 0), some (.inl 0)], [], S0_)) rfl ?_
  refine (vl_180 a2_ cc_ S0_ h2_ _) 0 0 S0_ hI_ hF_ ⟨?_, ?_, trivial⟩ (Nat.lt_succ_self _)
  · omega
  · first | rfl | exact hS_
end
/-! 99.zl8e -/
section
/-! Tester.isSpare -/
def vw_181 : sx_Wl := ([], [], [])
def vq_181 (a1_ : Int) (a2_ : Int) (S0_ : sm_S) (u_ : Option sm_V) (S1_ : sm_S) : Prop := S0_ = S1_ ∧ ∃ v_ : Int, u_ = some (.inl v_) ∧ (0 ≤ v_ ∧ v_ ≤ 1)
set_option maxHeartbeats 400000 in
theorem vl_181 {sc_ : Nat × (Nat → Int)} (a1_ : Int) (a2_ : Int) (S0_ : sm_S) (h1_ : 0 ≤ a1_ ∧ a1_ ≤ 4095) (h2_ : 0 ≤ a2_ ∧ a2_ ≤ 1224) : ∀ nn_ : Nat, (∀ (f_ : Int) (S_ : sm_S), gi S_ → ai_fr (sx_W vw_181) S0_ S_ → ((0 ≤ f_ ∧ f_ ≤ a2_) ∧ (S_ = S0_) ∧ True) → ((2000 - f_).toNat) < nn_ → sm_T (mt_P sc_) 1 181 (2, [some (.inr (.inr (some (9, 0)))), some (.inl a1_), some (.inl a2_), some (.inl f_)], [], S_) (fun ro9_ => ∃ u_ S1_, ro9_ = (.inl u_, S1_, 0) ∧ vq_181 a1_ a2_ S0_ u_ S1_)) := by
  intro nn_
  induction nn_ with
  | zero => exact fun _ _ _ _ _ h_ => absurd h_ (Nat.not_lt_zero _)
  | succ nn_ ih_ =>
    rintro f_ S_ hI_ hF_ ⟨h0_, hS_, -⟩ hm_
    refine sm_T_go 2 (c1 := (4, [some (.inr (.inr (some (9, 0)))), some (.inl a1_), some (.inl a2_), some (.inl f_)], [.inl a2_, .inl f_], S_)) rfl ?_
    refine sm_T_br (a := 3) (z := 30) rfl (fun cx1_ => ?_) (fun cx1_ => ?_)
    · have cx1_ : a2_ ≤ f_ := of_decide_eq_true cx1_
      refine sm_T_go 1 (c1 := (35, [some (.inr (.inr (some (9, 0)))), some (.inl a1_), some (.inl a2_), some (.inl f_)], [.inl 1], S_)) rfl ?_
      refine sm_T_rz rfl (by omega) ⟨_, _, rfl, (by first | rfl | exact hS_.symm), _, rfl, ?_⟩
      omega
    · have cx1_ : ¬ (a2_ ≤ f_) := of_decide_eq_false cx1_
      refine sm_T_go 3 (c1 := (12, [some (.inr (.inr (some (9, 0)))), some (.inl a1_), some (.inl a2_), some (.inl f_)], [.inl f_, .inr (.inr (some (97, 0)))], S_)) rfl ?_
      refine sm_T_iald (n := 1224) rfl rfl (by omega) (by omega) ?_
      have bx2_ : (-2147483648) ≤ S_.2.2.1 97 0 f_.toNat ∧ S_.2.2.1 97 0 f_.toNat ≤ 2147483647 := hI_.2 97 0 _
      refine sm_T_go 1 (c1 := (14, [some (.inr (.inr (some (9, 0)))), some (.inl a1_), some (.inl a2_), some (.inl f_)], [.inl 1, .inl (S_.2.2.1 97 0 f_.toNat)], S_)) rfl ?_
      refine sm_T_br (a := 1) (z := 14) rfl (fun cx3_ => ?_) (fun cx3_ => ?_)
      · have cx3_ : (S_.2.2.1 97 0 f_.toNat) ≠ 1 := of_decide_eq_true cx3_
        refine sm_T_inc (a := 3) (z := 1) (v := f_) (w := f_ + 1) rfl rfl (by omega) (by omega) (by omega) ?_ -- pc_ 28
        refine sm_T_go 1 (c1 := (2, [some (.inr (.inr (some (9, 0)))), some (.inl a1_), some (.inl a2_), some (.inl (f_ + 1))], [], S_)) rfl ?_
        refine ih_ (f_ + 1) S_ hI_ hF_ ⟨?_, ?_, trivial⟩ ?_
        · omega
        · first | rfl | exact hS_
        · omega
      · have cx3_ : ¬ ((S_.2.2.1 97 0 f_.toNat) ≠ 1) := of_decide_eq_false cx3_
        refine sm_T_go 3 (c1 := (20, [some (.inr (.inr (some (9, 0)))), some (.inl a1_), some (.inl a2_), some (.inl f_)], [.inl f_, .inl a1_, .inr (.inr (some (9, 0)))], S_)) rfl ?_
        refine sm_T_cal (d1 := 0) (Q1 := vq_176 a1_ f_ S_) rfl rfl (by decide) (vc_176 a1_ f_ S_ hI_ (by omega) (by omega)) (fun u_ Sx4_ px7_ => ?_)
        obtain ⟨rfl, vx9_, rfl, px7_⟩ := px7_
        have i20_ := px7_
        refine sm_T_b0 (a := 0) (z := 5) rfl (fun cx10_ => ?_) (fun cx10_ => ?_)
        · have cx10_ : vx9_ = 0 := of_decide_eq_true cx10_
          refine sm_T_inc (a := 3) (z := 1) (v := f_) (w := f_ + 1) rfl rfl (by omega) (by omega) (by omega) ?_ -- pc_ 28
          refine sm_T_go 1 (c1 := (2, [some (.inr (.inr (some (9, 0)))), some (.inl a1_), some (.inl a2_), some (.inl (f_ + 1))], [], S_)) rfl ?_
          refine ih_ (f_ + 1) S_ hI_ hF_ ⟨?_, ?_, trivial⟩ ?_
          · omega
          · first | rfl | exact hS_
          · omega
        · have cx10_ : ¬ (vx9_ = 0) := of_decide_eq_false cx10_
          refine sm_T_go 1 (c1 := (27, [some (.inr (.inr (some (9, 0)))), some (.inl a1_), some (.inl a2_), some (.inl f_)], [.inl 0], S_)) rfl ?_
          refine sm_T_rz rfl (by omega) ⟨_, _, rfl, (by first | rfl | exact hS_.symm), _, rfl, ?_⟩
          omega
set_option maxHeartbeats 400000 in
theorem vc_181 {sc_ : Nat × (Nat → Int)} (a1_ : Int) (a2_ : Int) (S0_ : sm_S) (hI_ : gi S0_) (h1_ : 0 ≤ a1_ ∧ a1_ ≤ 4095) (h2_ : 0 ≤ a2_ ∧ a2_ ≤ 1224) : sm_T (mt_P sc_) 1 181 (0, [some (.inr (.inr (some (9, 0)))), some (.inl a1_), some (.inl a2_), none], [], S0_) (fun ro9_ => ∃ u_ S1_, ro9_ = (.inl u_, S1_, 0) ∧ vq_181 a1_ a2_ S0_ u_ S1_) := by
  have hF_ : ai_fr (sx_W vw_181) S0_ S0_ := ai_fr_rf
  refine sm_T_go 2 (c1 := (2, [some (.inr (.inr (some (9, 0)))), some (.inl a1_), some (.inl a2_), some (.inl 0)], [], S0_)) rfl ?_
  refine (vl_181 a1_ a2_ S0_ h1_ h2_ _) 0 S0_ hI_ hF_ ⟨?_, ?_, trivial⟩ (Nat.lt_succ_self _)
  · omega
  · first | rfl | exact hS_
end
/-! 99.zl8f -/
section
/-! Tester.countShownBySet -/
def vw_183 : sx_Wl := ([(9, 1), (9, 2), (9, 3)], [92, 93, 94, 95, 96], [(9, 0)])
def vq_183 (cc_ : Nat) (S0_ : sm_S) (u_ : Option sm_V) (S1_ : sm_S) : Prop := ∃ v_ : Int, u_ = some (.inl v_) ∧ gi S1_ ∧ ai_fr (sx_W vw_183) S0_ S1_ ∧ (shn S1_)
set_option maxHeartbeats 400000 in
theorem vl_183 {sc_ : Nat × (Nat → Int)} (cc_ : Nat) (S0_ : sm_S) (hs_ : S0_.1 2 cc_ 1 + S0_.1 2 cc_ 2 ≤ 12) (hn_ : shn S0_) : ∀ nn_ : Nat, (∀ (hd_ : Int) (f_ : Int) (S_ : sm_S), gi S_ → ai_fr (sx_W vw_183) S0_ S_ → ((0 ≤ f_ ∧ f_ ≤ 1224 ∧ 0 ≤ hd_ ∧ hd_ ≤ f_) ∧ (shn S_) ∧ True) → ((2000 - f_).toNat) < nn_ → sm_T (mt_P sc_) 5 183 (4, [some (.inr (.inr (some (9, 0)))), some (.inr (.inr (some (2, cc_)))), some (.inl hd_), some (.inl f_)], [], S_) (fun ro9_ => ∃ u_ S1_, ro9_ = (.inl u_, S1_, 0) ∧ vq_183 cc_ S0_ u_ S1_)) := by
  intro nn_
  induction nn_ with
  | zero => exact fun _ _ _ _ _ _ h_ => absurd h_ (Nat.not_lt_zero _)
  | succ nn_ ih_ =>
    rintro hd_ f_ S_ hI_ hF_ ⟨h0_, hn1_, -⟩ hm_
    have z1_ : S_.1 2 cc_ 1 = S0_.1 2 cc_ 1 := hF_.1 2 cc_ 1 rfl
    have z2_ : S_.1 2 cc_ 2 = S0_.1 2 cc_ 2 := hF_.1 2 cc_ 2 rfl
    refine sm_T_go 2 (c1 := (6, [some (.inr (.inr (some (9, 0)))), some (.inr (.inr (some (2, cc_)))), some (.inl hd_), some (.inl f_)], [.inr (.inr (some (2, cc_))), .inl f_], S_)) rfl ?_
    refine sm_T_cal (d1 := 1) (Q1 := vq_62 cc_ S_) rfl rfl (by decide) (vc_62 cc_ S_ hI_ (by omega)) (fun u_ Sx1_ px4_ => ?_)
    obtain ⟨rfl, vx6_, rfl, px4_⟩ := px4_
    have fc6_ := px4_
    refine sm_T_br (a := 3) (z := 32) rfl (fun cx7_ => ?_) (fun cx7_ => ?_)
    · have cx7_ : vx6_ ≤ f_ := of_decide_eq_true cx7_
      refine sm_T_go 1 (c1 := (42, [some (.inr (.inr (some (9, 0)))), some (.inr (.inr (some (2, cc_)))), some (.inl hd_), some (.inl f_)], [.inl hd_], S_)) rfl ?_
      refine sm_T_ri rfl ⟨_, _, rfl, _, rfl, hI_, hF_, ?_⟩
      exact hn1_
    · have cx7_ : ¬ (vx6_ ≤ f_) := of_decide_eq_false cx7_
      refine sm_T_go 3 (c1 := (15, [some (.inr (.inr (some (9, 0)))), some (.inr (.inr (some (2, cc_)))), some (.inl hd_), some (.inl f_)], [.inl f_, .inr (.inr (some (2, cc_))), .inr (.inr (some (9, 0)))], S_)) rfl ?_
      refine sm_T_cal (d1 := 4) (Q1 := vq_174 f_ cc_ S_) rfl rfl (by decide) (vc_174 f_ cc_ S_ hI_ (by omega) (by omega) (by first | exact hn1_ | exact hn_)) (fun u_ Sx8_ px11_ => ?_)
      obtain ⟨rfl, hIx9_, hFx10_, px11_⟩ := px11_
      have hFx12_ : ai_fr (sx_W vw_183) S0_ Sx8_ := ai_fr_tr hF_ (fr_le hFx10_ rfl)
      have p15_ := px11_
      refine sm_T_go 4 (c1 := (22, [some (.inr (.inr (some (9, 0)))), some (.inr (.inr (some (2, cc_)))), some (.inl hd_), some (.inl f_)], [.inl f_, .inr (.inr (some (2, cc_))), .inr (.inr (some (9, 0))), .inl hd_], Sx8_)) rfl ?_
      refine sm_T_cal (d1 := 1) (Q1 := vq_180 f_ cc_ Sx8_) rfl rfl (by decide) (vc_180 f_ cc_ Sx8_ hIx9_ (by omega)) (fun u_ Sx13_ px16_ => ?_)
      obtain ⟨rfl, vx18_, rfl, px16_⟩ := px16_
      refine sm_T_b0 (a := 5) (z := 7) rfl (fun cx19_ => ?_) (fun cx19_ => ?_)
      · have cx19_ : vx18_ ≤ 0 := of_decide_eq_true cx19_
        refine sm_T_go 1 (c1 := (33, [some (.inr (.inr (some (9, 0)))), some (.inr (.inr (some (2, cc_)))), some (.inl hd_), some (.inl f_)], [.inl 0, .inl hd_], Sx8_)) rfl ?_
        refine sm_T_bin (w := hd_) rfl (bi_add (by omega) (by omega) (by omega)) ?_ -- pc_ 33
        refine sm_T_go 1 (c1 := (35, [some (.inr (.inr (some (9, 0)))), some (.inr (.inr (some (2, cc_)))), some (.inl hd_), some (.inl f_)], [], Sx8_)) rfl ?_
        refine sm_T_inc (a := 3) (z := 1) (v := f_) (w := f_ + 1) rfl rfl (by omega) (by omega) (by omega) ?_ -- pc_ 35
        refine sm_T_go 1 (c1 := (4, [some (.inr (.inr (some (9, 0)))), some (.inr (.inr (some (2, cc_)))), some (.inl hd_), some (.inl (f_ + 1))], [], Sx8_)) rfl ?_
        refine ih_ hd_ (f_ + 1) Sx8_ hIx9_ hFx12_ ⟨?_, ?_, trivial⟩ ?_
        · omega
        · exact p15_.2
        · omega
      · have cx19_ : ¬ (vx18_ ≤ 0) := of_decide_eq_false cx19_
        refine sm_T_go 2 (c1 := (33, [some (.inr (.inr (some (9, 0)))), some (.inr (.inr (some (2, cc_)))), some (.inl hd_), some (.inl f_)], [.inl 1, .inl hd_], Sx8_)) rfl ?_
        refine sm_T_bin (w := hd_ + 1) rfl (bi_add (by omega) (by omega) (by omega)) ?_ -- pc_ 33
        refine sm_T_go 1 (c1 := (35, [some (.inr (.inr (some (9, 0)))), some (.inr (.inr (some (2, cc_)))), some (.inl (hd_ + 1)), some (.inl f_)], [], Sx8_)) rfl ?_
        refine sm_T_inc (a := 3) (z := 1) (v := f_) (w := f_ + 1) rfl rfl (by omega) (by omega) (by omega) ?_ -- pc_ 35
        refine sm_T_go 1 (c1 := (4, [some (.inr (.inr (some (9, 0)))), some (.inr (.inr (some (2, cc_)))), some (.inl (hd_ + 1)), some (.inl (f_ + 1))], [], Sx8_)) rfl ?_
        refine ih_ (hd_ + 1) (f_ + 1) Sx8_ hIx9_ hFx12_ ⟨?_, ?_, trivial⟩ ?_
        · omega
        · exact p15_.2
        · omega
set_option maxHeartbeats 400000 in
theorem vc_183 {sc_ : Nat × (Nat → Int)} (cc_ : Nat) (S0_ : sm_S) (hI_ : gi S0_) (hs_ : S0_.1 2 cc_ 1 + S0_.1 2 cc_ 2 ≤ 12) (hn_ : shn S0_) : sm_T (mt_P sc_) 5 183 (0, [some (.inr (.inr (some (9, 0)))), some (.inr (.inr (some (2, cc_)))), none, none], [], S0_) (fun ro9_ => ∃ u_ S1_, ro9_ = (.inl u_, S1_, 0) ∧ vq_183 cc_ S0_ u_ S1_) := by
  have hF_ : ai_fr (sx_W vw_183) S0_ S0_ := ai_fr_rf
  refine sm_T_go 4 (c1 := (4, [some (.inr (.inr (some (9, 0)))), some (.inr (.inr (some (2, cc_)))), some (.inl 0), some (.inl 0)], [], S0_)) rfl ?_
  refine (vl_183 cc_ S0_ hs_ hn_ _) 0 0 S0_ hI_ hF_ ⟨?_, ?_, trivial⟩ (Nat.lt_succ_self _)
  · omega
  · exact hn_
end
/-! 99.zl8g -/
section
/-! Tester.suspectOf -/
def vw_184 : sx_Wl := ([(9, 1), (9, 2), (9, 3)], [92, 93, 94, 95, 96], [(9, 0)])
def vq_184 (a2_ : Int) (cc_ : Nat) (S0_ : sm_S) (u_ : Option sm_V) (S1_ : sm_S) : Prop := ∃ v_ : Int, u_ = some (.inl v_) ∧ gi S1_ ∧ ai_fr (sx_W vw_184) S0_ S1_ ∧ (shn S1_)
set_option maxHeartbeats 400000 in
theorem vl_184 {sc_ : Nat × (Nat → Int)} (a2_ : Int) (cc_ : Nat) (S0_ : sm_S) (hs_ : S0_.1 2 cc_ 1 + S0_.1 2 cc_ 2 ≤ 12) (h2_ : -2147483648 ≤ a2_ ∧ a2_ ≤ 2147483647) (hn_ : shn S0_) : ∀ nn_ : Nat, (∀ (rs_ : Int) (f_ : Int) (S_ : sm_S), gi S_ → ai_fr (sx_W vw_184) S0_ S_ → ((0 ≤ f_ ∧ f_ ≤ 1224) ∧ (shn S_) ∧ True) → ((10000 * (2000 - f_) + 9000).toNat) < nn_ → sm_T (mt_P sc_) 5 184 (5, [some (.inr (.inr (some (9, 0)))), some (.inr (.inr (some (2, cc_)))), some (.inl a2_), some (.inl rs_), some (.inl f_), none, none], [], S_) (fun ro9_ => ∃ u_ S1_, ro9_ = (.inl u_, S1_, 0) ∧ vq_184 a2_ cc_ S0_ u_ S1_)) ∧ (∀ (rs_ : Int) (f_ : Int) (sp_ : Int) (k_ : Int) (S_ : sm_S), gi S_ → ai_fr (sx_W vw_184) S0_ S_ → ((0 ≤ f_ ∧ f_ < 1224 ∧ 0 ≤ k_ ∧ k_ ≤ 1224 ∧ 0 ≤ sp_ ∧ sp_ ≤ 1) ∧ (shn S_) ∧ True) → ((10000 * (2000 - f_) + 8000 - k_).toNat) < nn_ → sm_T (mt_P sc_) 5 184 (41, [some (.inr (.inr (some (9, 0)))), some (.inr (.inr (some (2, cc_)))), some (.inl a2_), some (.inl rs_), some (.inl f_), some (.inl sp_), some (.inl k_)], [], S_) (fun ro9_ => ∃ u_ S1_, ro9_ = (.inl u_, S1_, 0) ∧ vq_184 a2_ cc_ S0_ u_ S1_)) := by
  intro nn_
  induction nn_ with
  | zero => exact ⟨fun _ _ _ _ _ _ h_ => absurd h_ (Nat.not_lt_zero _), fun _ _ _ _ _ _ _ _ h_ => absurd h_ (Nat.not_lt_zero _)⟩
  | succ nn_ ih_ =>
    refine ⟨?_, ?_⟩
    · rintro rs_ f_ S_ hI_ hF_ ⟨h0_, hn1_, -⟩ hm_
      have z1_ : S_.1 2 cc_ 1 = S0_.1 2 cc_ 1 := hF_.1 2 cc_ 1 rfl
      have z2_ : S_.1 2 cc_ 2 = S0_.1 2 cc_ 2 := hF_.1 2 cc_ 2 rfl
      have cz_ : (-1) ≤ S_.1 2 cc_ 15 ∧ S_.1 2 cc_ 15 ≤ 1224 := hI_.1 2 cc_ 15 rfl
      refine sm_T_go 2 (c1 := (8, [some (.inr (.inr (some (9, 0)))), some (.inr (.inr (some (2, cc_)))), some (.inl a2_), some (.inl rs_), some (.inl f_), none, none], [.inr (.inr (some (2, cc_))), .inl f_], S_)) rfl ?_
      refine sm_T_cal (d1 := 1) (Q1 := vq_62 cc_ S_) rfl rfl (by decide) (vc_62 cc_ S_ hI_ (by omega)) (fun u_ Sx1_ px4_ => ?_)
      obtain ⟨rfl, vx6_, rfl, px4_⟩ := px4_
      have fc8_ := px4_
      refine sm_T_br (a := 3) (z := 109) rfl (fun cx7_ => ?_) (fun cx7_ => ?_)
      · have cx7_ : vx6_ ≤ f_ := of_decide_eq_true cx7_
        refine sm_T_go 1 (c1 := (121, [some (.inr (.inr (some (9, 0)))), some (.inr (.inr (some (2, cc_)))), some (.inl a2_), some (.inl rs_), some (.inl f_), none, none], [.inl (-1)], S_)) rfl ?_
        refine sm_T_ri rfl ⟨_, _, rfl, _, rfl, hI_, hF_, ?_⟩
        exact hn1_
      · have cx7_ : ¬ (vx6_ ≤ f_) := of_decide_eq_false cx7_
        refine sm_T_go 3 (c1 := (18, [some (.inr (.inr (some (9, 0)))), some (.inr (.inr (some (2, cc_)))), some (.inl a2_), some (.inl rs_), some (.inl f_), none, none], [.inl f_, .inr (.inr (some (2, cc_))), .inr (.inr (some (9, 0)))], S_)) rfl ?_
        refine sm_T_cal (d1 := 4) (Q1 := vq_174 f_ cc_ S_) rfl rfl (by decide) (vc_174 f_ cc_ S_ hI_ (by omega) (by omega) (by first | exact hn1_ | exact hn_)) (fun u_ Sx8_ px11_ => ?_)
        obtain ⟨rfl, hIx9_, hFx10_, px11_⟩ := px11_
        have hFx12_ : ai_fr (sx_W vw_184) S0_ Sx8_ := ai_fr_tr hF_ (fr_le hFx10_ rfl)
        have p18_ := px11_
        refine sm_T_go 3 (c1 := (25, [some (.inr (.inr (some (9, 0)))), some (.inr (.inr (some (2, cc_)))), some (.inl a2_), some (.inl rs_), some (.inl f_), none, none], [.inl f_, .inr (.inr (some (2, cc_))), .inr (.inr (some (9, 0)))], Sx8_)) rfl ?_
        refine sm_T_cal (d1 := 1) (Q1 := vq_180 f_ cc_ Sx8_) rfl rfl (by decide) (vc_180 f_ cc_ Sx8_ hIx9_ (by omega)) (fun u_ Sx13_ px16_ => ?_)
        obtain ⟨rfl, vx18_, rfl, px16_⟩ := px16_
        refine sm_T_b0 (a := 5) (z := 7) rfl (fun cx19_ => ?_) (fun cx19_ => ?_)
        · have cx19_ : vx18_ ≤ 0 := of_decide_eq_true cx19_
          refine sm_T_go 4 (c1 := (41, [some (.inr (.inr (some (9, 0)))), some (.inr (.inr (some (2, cc_)))), some (.inl a2_), some (.inl rs_), some (.inl f_), some (.inl 0), some (.inl 0)], [], Sx8_)) rfl ?_
          refine ih_.2 rs_ f_ 0 0 Sx8_ hIx9_ hFx12_ ⟨?_, ?_, trivial⟩ ?_
          · omega
          · exact p18_.2
          · omega
        · have cx19_ : ¬ (vx18_ ≤ 0) := of_decide_eq_false cx19_
          refine sm_T_go 5 (c1 := (41, [some (.inr (.inr (some (9, 0)))), some (.inr (.inr (some (2, cc_)))), some (.inl a2_), some (.inl rs_), some (.inl f_), some (.inl 1), some (.inl 0)], [], Sx8_)) rfl ?_
          refine ih_.2 rs_ f_ 1 0 Sx8_ hIx9_ hFx12_ ⟨?_, ?_, trivial⟩ ?_
          · omega
          · exact p18_.2
          · omega
    · rintro rs_ f_ sp_ k_ S_ hI_ hF_ ⟨h0_, hn1_, -⟩ hm_
      have z1_ : S_.1 2 cc_ 1 = S0_.1 2 cc_ 1 := hF_.1 2 cc_ 1 rfl
      have z2_ : S_.1 2 cc_ 2 = S0_.1 2 cc_ 2 := hF_.1 2 cc_ 2 rfl
      have cz_ : (-1) ≤ S_.1 2 cc_ 15 ∧ S_.1 2 cc_ 15 ≤ 1224 := hI_.1 2 cc_ 15 rfl
      have bx1_ : (-1) ≤ S_.1 2 cc_ 15 ∧ S_.1 2 cc_ 15 ≤ 1224 := hI_.1 2 cc_ 15 rfl
      refine sm_T_go 3 (c1 := (47, [some (.inr (.inr (some (9, 0)))), some (.inr (.inr (some (2, cc_)))), some (.inl a2_), some (.inl rs_), some (.inl f_), some (.inl sp_), some (.inl k_)], [.inl (S_.1 2 cc_ 15), .inl k_], S_)) rfl ?_
      refine sm_T_br (a := 3) (z := 52) rfl (fun cx2_ => ?_) (fun cx2_ => ?_)
      · have cx2_ : (S_.1 2 cc_ 15) ≤ k_ := of_decide_eq_true cx2_
        refine sm_T_go 1 (c1 := (101, [some (.inr (.inr (some (9, 0)))), some (.inr (.inr (some (2, cc_)))), some (.inl a2_), some (.inl rs_), some (.inl f_), some (.inl sp_), some (.inl k_)], [.inl sp_], S_)) rfl ?_
        refine sm_T_b0 (a := 0) (z := 13) rfl (fun cx3_ => ?_) (fun cx3_ => ?_)
        · have cx3_ : sp_ = 0 := of_decide_eq_true cx3_
          refine sm_T_inc (a := 4) (z := 1) (v := f_) (w := f_ + 1) rfl rfl (by omega) (by omega) (by omega) ?_ -- pc_ 114
          refine sm_T_go 1 (c1 := (5, [some (.inr (.inr (some (9, 0)))), some (.inr (.inr (some (2, cc_)))), some (.inl a2_), some (.inl rs_), some (.inl (f_ + 1)), some (.inl sp_), some (.inl k_)], [], S_)) rfl ?_
          refine sm_T_wk [some (.inr (.inr (some (9, 0)))), some (.inr (.inr (some (2, cc_)))), some (.inl a2_), some (.inl rs_), some (.inl (f_ + 1)), none, none] (by exact ⟨rfl, rfl, rfl, rfl, rfl, trivial⟩) ?_
          refine ih_.1 rs_ (f_ + 1) S_ hI_ hF_ ⟨?_, ?_, trivial⟩ ?_
          · omega
          · exact hn1_
          · omega
        · have cx3_ : ¬ (sp_ = 0) := of_decide_eq_false cx3_
          refine sm_T_go 1 (c1 := (105, [some (.inr (.inr (some (9, 0)))), some (.inr (.inr (some (2, cc_)))), some (.inl a2_), some (.inl rs_), some (.inl f_), some (.inl sp_), some (.inl k_)], [.inl rs_], S_)) rfl ?_
          refine sm_T_b0 (a := 1) (z := 6) rfl (fun cx4_ => ?_) (fun cx4_ => ?_)
          · have cx4_ : rs_ ≠ 0 := of_decide_eq_true cx4_
            refine sm_T_incw (a_ := 3) (z_ := (-1)) (v_ := rs_) rfl rfl ?_ -- pc_ 111
            have bx5_ := i_add_r rs_ (-1)
            refine sm_T_inc (a := 4) (z := 1) (v := f_) (w := f_ + 1) rfl rfl (by omega) (by omega) (by omega) ?_ -- pc_ 114
            refine sm_T_go 1 (c1 := (5, [some (.inr (.inr (some (9, 0)))), some (.inr (.inr (some (2, cc_)))), some (.inl a2_), some (.inl (i_add rs_ (-1))), some (.inl (f_ + 1)), some (.inl sp_), some (.inl k_)], [], S_)) rfl ?_
            refine sm_T_wk [some (.inr (.inr (some (9, 0)))), some (.inr (.inr (some (2, cc_)))), some (.inl a2_), some (.inl (i_add rs_ (-1))), some (.inl (f_ + 1)), none, none] (by exact ⟨rfl, rfl, rfl, rfl, rfl, trivial⟩) ?_
            refine ih_.1 (i_add rs_ (-1)) (f_ + 1) S_ hI_ hF_ ⟨?_, ?_, trivial⟩ ?_
            · omega
            · exact hn1_
            · omega
          · have cx4_ : ¬ (rs_ ≠ 0) := of_decide_eq_false cx4_
            refine sm_T_go 1 (c1 := (110, [some (.inr (.inr (some (9, 0)))), some (.inr (.inr (some (2, cc_)))), some (.inl a2_), some (.inl rs_), some (.inl f_), some (.inl sp_), some (.inl k_)], [.inl f_], S_)) rfl ?_
            refine sm_T_ri rfl ⟨_, _, rfl, _, rfl, hI_, hF_, ?_⟩
            exact hn1_
      · have cx2_ : ¬ ((S_.1 2 cc_ 15) ≤ k_) := of_decide_eq_false cx2_
        refine sm_T_go 1 (c1 := (52, [some (.inr (.inr (some (9, 0)))), some (.inr (.inr (some (2, cc_)))), some (.inl a2_), some (.inl rs_), some (.inl f_), some (.inl sp_), some (.inl k_)], [.inl sp_], S_)) rfl ?_
        refine sm_T_b0 (a := 0) (z := 47) rfl (fun cx6_ => ?_) (fun cx6_ => ?_)
        · have cx6_ : sp_ = 0 := of_decide_eq_true cx6_
          refine sm_T_go 1 (c1 := (101, [some (.inr (.inr (some (9, 0)))), some (.inr (.inr (some (2, cc_)))), some (.inl a2_), some (.inl rs_), some (.inl f_), some (.inl sp_), some (.inl k_)], [.inl sp_], S_)) rfl ?_
          refine sm_T_b0 (a := 0) (z := 13) rfl (fun cx7_ => ?_) (fun cx7_ => ?_)
          · have cx7_ : sp_ = 0 := of_decide_eq_true cx7_
            refine sm_T_inc (a := 4) (z := 1) (v := f_) (w := f_ + 1) rfl rfl (by omega) (by omega) (by omega) ?_ -- pc_ 114
            refine sm_T_go 1 (c1 := (5, [some (.inr (.inr (some (9, 0)))), some (.inr (.inr (some (2, cc_)))), some (.inl a2_), some (.inl rs_), some (.inl (f_ + 1)), some (.inl sp_), some (.inl k_)], [], S_)) rfl ?_
            refine sm_T_wk [some (.inr (.inr (some (9, 0)))), some (.inr (.inr (some (2, cc_)))), some (.inl a2_), some (.inl rs_), some (.inl (f_ + 1)), none, none] (by exact ⟨rfl, rfl, rfl, rfl, rfl, trivial⟩) ?_
            refine ih_.1 rs_ (f_ + 1) S_ hI_ hF_ ⟨?_, ?_, trivial⟩ ?_
            · omega
            · exact hn1_
            · omega
          · have cx7_ : ¬ (sp_ = 0) := of_decide_eq_false cx7_
            exfalso; omega
        · have cx6_ : ¬ (sp_ = 0) := of_decide_eq_false cx6_
          refine sm_T_go 4 (c1 := (62, [some (.inr (.inr (some (9, 0)))), some (.inr (.inr (some (2, cc_)))), some (.inl a2_), some (.inl rs_), some (.inl f_), some (.inl sp_), some (.inl k_)], [.inl k_, .inr (.inr (some (40, (0 + cc_)))), .inr (.inr (some (9, 0)))], S_)) rfl ?_
          refine sm_T_iald (n := 1224) rfl rfl (by omega) (by omega) ?_
          have bx8_ : 0 ≤ S_.2.2.1 40 (0 + cc_) k_.toNat ∧ S_.2.2.1 40 (0 + cc_) k_.toNat ≤ 4095 := hI_.2 40 (0 + cc_) _
          refine sm_T_go 1 (c1 := (65, [some (.inr (.inr (some (9, 0)))), some (.inr (.inr (some (2, cc_)))), some (.inl a2_), some (.inl rs_), some (.inl f_), some (.inl sp_), some (.inl k_)], [.inl f_, .inl (S_.2.2.1 40 (0 + cc_) k_.toNat), .inr (.inr (some (9, 0)))], S_)) rfl ?_
          refine sm_T_cal (d1 := 0) (Q1 := vq_176 (S_.2.2.1 40 (0 + cc_) k_.toNat) f_ S_) rfl rfl (by decide) (vc_176 (S_.2.2.1 40 (0 + cc_) k_.toNat) f_ S_ hI_ (by omega) (by omega)) (fun u_ Sx9_ px12_ => ?_)
          obtain ⟨rfl, vx14_, rfl, px12_⟩ := px12_
          have i65_ := px12_
          refine sm_T_go 3 (c1 := (74, [some (.inr (.inr (some (9, 0)))), some (.inr (.inr (some (2, cc_)))), some (.inl a2_), some (.inl rs_), some (.inl f_), some (.inl sp_), some (.inl k_)], [.inl k_, .inr (.inr (some (41, (0 + cc_)))), .inl vx14_], S_)) rfl ?_
          refine sm_T_iald (n := 1224) rfl rfl (by omega) (by omega) ?_
          have bx15_ : 0 ≤ S_.2.2.1 41 (0 + cc_) k_.toNat ∧ S_.2.2.1 41 (0 + cc_) k_.toNat ≤ 1 := hI_.2 41 (0 + cc_) _
          refine sm_T_b0 (a := 0) (z := 7) rfl (fun cx16_ => ?_) (fun cx16_ => ?_)
          · have cx16_ : (S_.2.2.1 41 (0 + cc_) k_.toNat) = 0 := of_decide_eq_true cx16_
            refine sm_T_go 1 (c1 := (83, [some (.inr (.inr (some (9, 0)))), some (.inr (.inr (some (2, cc_)))), some (.inl a2_), some (.inl rs_), some (.inl f_), some (.inl sp_), some (.inl k_)], [.inl 0, .inl vx14_], S_)) rfl ?_
            refine sm_T_br (a := 1) (z := 7) rfl (fun cx17_ => ?_) (fun cx17_ => ?_)
            · have cx17_ : vx14_ ≠ 0 := of_decide_eq_true cx17_
              refine sm_T_go 2 (c1 := (93, [some (.inr (.inr (some (9, 0)))), some (.inr (.inr (some (2, cc_)))), some (.inl a2_), some (.inl rs_), some (.inl f_), some (.inl 0), some (.inl k_)], [], S_)) rfl ?_
              refine sm_T_inc (a := 6) (z := 1) (v := k_) (w := k_ + 1) rfl rfl (by omega) (by omega) (by omega) ?_ -- pc_ 93
              refine sm_T_go 1 (c1 := (41, [some (.inr (.inr (some (9, 0)))), some (.inr (.inr (some (2, cc_)))), some (.inl a2_), some (.inl rs_), some (.inl f_), some (.inl 0), some (.inl (k_ + 1))], [], S_)) rfl ?_
              refine ih_.2 rs_ f_ 0 (k_ + 1) S_ hI_ hF_ ⟨?_, ?_, trivial⟩ ?_
              · omega
              · exact hn1_
              · omega
            · have cx17_ : ¬ (vx14_ ≠ 0) := of_decide_eq_false cx17_
              refine sm_T_go 3 (c1 := (93, [some (.inr (.inr (some (9, 0)))), some (.inr (.inr (some (2, cc_)))), some (.inl a2_), some (.inl rs_), some (.inl f_), some (.inl 1), some (.inl k_)], [], S_)) rfl ?_
              refine sm_T_inc (a := 6) (z := 1) (v := k_) (w := k_ + 1) rfl rfl (by omega) (by omega) (by omega) ?_ -- pc_ 93
              refine sm_T_go 1 (c1 := (41, [some (.inr (.inr (some (9, 0)))), some (.inr (.inr (some (2, cc_)))), some (.inl a2_), some (.inl rs_), some (.inl f_), some (.inl 1), some (.inl (k_ + 1))], [], S_)) rfl ?_
              refine ih_.2 rs_ f_ 1 (k_ + 1) S_ hI_ hF_ ⟨?_, ?_, trivial⟩ ?_
              · omega
              · exact hn1_
              · omega
          · have cx16_ : ¬ ((S_.2.2.1 41 (0 + cc_) k_.toNat) = 0) := of_decide_eq_false cx16_
            refine sm_T_go 2 (c1 := (83, [some (.inr (.inr (some (9, 0)))), some (.inr (.inr (some (2, cc_)))), some (.inl a2_), some (.inl rs_), some (.inl f_), some (.inl sp_), some (.inl k_)], [.inl 1, .inl vx14_], S_)) rfl ?_
            refine sm_T_br (a := 1) (z := 7) rfl (fun cx18_ => ?_) (fun cx18_ => ?_)
            · have cx18_ : vx14_ ≠ 1 := of_decide_eq_true cx18_
              refine sm_T_go 2 (c1 := (93, [some (.inr (.inr (some (9, 0)))), some (.inr (.inr (some (2, cc_)))), some (.inl a2_), some (.inl rs_), some (.inl f_), some (.inl 0), some (.inl k_)], [], S_)) rfl ?_
              refine sm_T_inc (a := 6) (z := 1) (v := k_) (w := k_ + 1) rfl rfl (by omega) (by omega) (by omega) ?_ -- pc_ 93
              refine sm_T_go 1 (c1 := (41, [some (.inr (.inr (some (9, 0)))), some (.inr (.inr (some (2, cc_)))), some (.inl a2_), some (.inl rs_), some (.inl f_), some (.inl 0), some (.inl (k_ + 1))], [], S_)) rfl ?_
              refine ih_.2 rs_ f_ 0 (k_ + 1) S_ hI_ hF_ ⟨?_, ?_, trivial⟩ ?_
              · omega
              · exact hn1_
              · omega
            · have cx18_ : ¬ (vx14_ ≠ 1) := of_decide_eq_false cx18_
              refine sm_T_go 3 (c1 := (93, [some (.inr (.inr (some (9, 0)))), some (.inr (.inr (some (2, cc_)))), some (.inl a2_), some (.inl rs_), some (.inl f_), some (.inl 1), some (.inl k_)], [], S_)) rfl ?_
              refine sm_T_inc (a := 6) (z := 1) (v := k_) (w := k_ + 1) rfl rfl (by omega) (by omega) (by omega) ?_ -- pc_ 93
              refine sm_T_go 1 (c1 := (41, [some (.inr (.inr (some (9, 0)))), some (.inr (.inr (some (2, cc_)))), some (.inl a2_), some (.inl rs_), some (.inl f_), some (.inl 1), some (.inl (k_ + 1))], [], S_)) rfl ?_
              refine ih_.2 rs_ f_ 1 (k_ + 1) S_ hI_ hF_ ⟨?_, ?_, trivial⟩ ?_
              · omega
              · exact hn1_
              · omega
set_option maxHeartbeats 400000 in
theorem vc_184 {sc_ : Nat × (Nat → Int)} (a2_ : Int) (cc_ : Nat) (S0_ : sm_S) (hI_ : gi S0_) (hs_ : S0_.1 2 cc_ 1 + S0_.1 2 cc_ 2 ≤ 12) (h2_ : -2147483648 ≤ a2_ ∧ a2_ ≤ 2147483647) (hn_ : shn S0_) : sm_T (mt_P sc_) 5 184 (0, [some (.inr (.inr (some (9, 0)))), some (.inr (.inr (some (2, cc_)))), some (.inl a2_), none, none, none, none], [], S0_) (fun ro9_ => ∃ u_ S1_, ro9_ = (.inl u_, S1_, 0) ∧ vq_184 a2_ cc_ S0_ u_ S1_) := by
  have hF_ : ai_fr (sx_W vw_184) S0_ S0_ := ai_fr_rf
  refine sm_T_go 4 (c1 := (5, [some (.inr (.inr (some (9, 0)))), some (.inr (.inr (some (2, cc_)))), some (.inl a2_), some (.inl a2_), some (.inl 0), none, none], [], S0_)) rfl ?_
  refine (vl_184 a2_ cc_ S0_ hs_ h2_ hn_ _).1 a2_ 0 S0_ hI_ hF_ ⟨?_, ?_, trivial⟩ (Nat.lt_succ_self _)
  · omega
  · exact hn_
end
/-! 99.zl8h -/
section
/-! Tester.removePattern -/
def vw_182 : sx_Wl := ([(2, 15)], [40, 97], [])
def vq_182 (a2_ : Int) (a3_ : Int) (cc_ : Nat) (S0_ : sm_S) (u_ : Option sm_V) (S1_ : sm_S) : Prop := u_ = none ∧ gi S1_ ∧ ai_fr (sx_W vw_182) S0_ S1_ ∧ (cdf cc_ S0_ S1_ ∧ (S1_.1 2 cc_ 15 = S0_.1 2 cc_ 15 - 1))
set_option maxHeartbeats 400000 in
theorem vl_182 {sc_ : Nat × (Nat → Int)} (a2_ : Int) (a3_ : Int) (cc_ : Nat) (S0_ : sm_S) (h3_ : 0 ≤ a3_ ∧ a3_ ≤ 1224) (h2_ : 0 ≤ a2_ ∧ a2_ < S0_.1 2 cc_ 15) : ∀ nn_ : Nat, (∀ (f_ : Int) (S_ : sm_S), gi S_ → ai_fr (sx_W vw_182) S0_ S_ → ((0 ≤ f_ ∧ f_ ≤ a3_) ∧ (S_.1 2 cc_ 15 = S0_.1 2 cc_ 15) ∧ (cdf cc_ S0_ S_) ∧ True) → ((2000 - f_).toNat) < nn_ → sm_T (mt_P sc_) 1 182 (3, [some (.inr (.inr (some (9, 0)))), some (.inr (.inr (some (2, cc_)))), some (.inl a2_), some (.inl a3_), some (.inl f_)], [], S_) (fun ro9_ => ∃ u_ S1_, ro9_ = (.inl u_, S1_, 0) ∧ vq_182 a2_ a3_ cc_ S0_ u_ S1_)) := by
  intro nn_
  induction nn_ with
  | zero => exact fun _ _ _ _ _ h_ => absurd h_ (Nat.not_lt_zero _)
  | succ nn_ ih_ =>
    rintro f_ S_ hI_ hF_ ⟨h0_, h5_, hC_, -⟩ hm_
    have cz_ : (-1) ≤ S_.1 2 cc_ 15 ∧ S_.1 2 cc_ 15 ≤ 1224 := hI_.1 2 cc_ 15 rfl
    refine sm_T_go 2 (c1 := (6, [some (.inr (.inr (some (9, 0)))), some (.inr (.inr (some (2, cc_)))), some (.inl a2_), some (.inl a3_), some (.inl f_)], [.inl a3_, .inl f_], S_)) rfl ?_
    refine sm_T_br (a := 3) (z := 39) rfl (fun cx1_ => ?_) (fun cx1_ => ?_)
    · have cx1_ : a3_ ≤ f_ := of_decide_eq_true cx1_
      refine sm_T_go 4 (c1 := (51, [some (.inr (.inr (some (9, 0)))), some (.inr (.inr (some (2, cc_)))), some (.inl a2_), some (.inl a3_), some (.inl f_)], [.inl 1, .inl a2_, .inr (.inr (some (40, (0 + cc_))))], S_)) rfl ?_
      refine sm_T_bin (w := a2_ + 1) rfl (bi_add (by omega) (by omega) (by omega)) ?_ -- pc_ 51
      have bx2_ : (-1) ≤ S_.1 2 cc_ 15 ∧ S_.1 2 cc_ 15 ≤ 1224 := hI_.1 2 cc_ 15 rfl
      refine sm_T_go 6 (c1 := (62, [some (.inr (.inr (some (9, 0)))), some (.inr (.inr (some (2, cc_)))), some (.inl a2_), some (.inl a3_), some (.inl f_)], [.inl 1, .inl (S_.1 2 cc_ 15), .inl a2_, .inr (.inr (some (40, (0 + cc_)))), .inl (a2_ + 1), .inr (.inr (some (40, (0 + cc_))))], S_)) rfl ?_
      refine sm_T_bin (w := (S_.1 2 cc_ 15) - 1) rfl (bi_sub (by omega) (by omega) (by omega)) ?_ -- pc_ 62
      refine sm_T_go 1 (c1 := (64, [some (.inr (.inr (some (9, 0)))), some (.inr (.inr (some (2, cc_)))), some (.inl a2_), some (.inl a3_), some (.inl f_)], [.inl a2_, .inl ((S_.1 2 cc_ 15) - 1), .inl a2_, .inr (.inr (some (40, (0 + cc_)))), .inl (a2_ + 1), .inr (.inr (some (40, (0 + cc_))))], S_)) rfl ?_
      refine sm_T_bin (w := (S_.1 2 cc_ 15) - a2_ - 1) rfl (bi_sub (by omega) (by omega) (by omega)) ?_ -- pc_ 64
      refine sm_T_nt (u := none) (S1 := sm_acI S_ 40 (0 + cc_) 40 (0 + cc_) (a2_ + 1).toNat a2_.toNat ((S_.1 2 cc_ 15) - a2_ - 1).toNat) rfl rfl (nt_acI (sc := sc_) (t := 40) (i := (0 + cc_)) (t' := 40) (i' := (0 + cc_)) (x := a2_ + 1) (y := a2_) (m := (S_.1 2 cc_ 15) - a2_ - 1) (n := 1224) (n1 := 1224) rfl rfl (by omega) (by omega) (by omega) (by omega) (by omega)) ?_
      have hIx3_ : gi (sm_acI S_ 40 (0 + cc_) 40 (0 + cc_) (a2_ + 1).toNat a2_.toNat ((S_.1 2 cc_ 15) - a2_ - 1).toNat) := gi_ac hI_ (by decide) (by decide)
      have hFx4_ : ai_fr (sx_W vw_182) S0_ (sm_acI S_ 40 (0 + cc_) 40 (0 + cc_) (a2_ + 1).toNat a2_.toNat ((S_.1 2 cc_ 15) - a2_ - 1).toNat) := ai_fr_tr hF_ (fr_ac rfl)
      have hCx5_ : cdf cc_ S0_ (sm_acI S_ 40 (0 + cc_) 40 (0 + cc_) (a2_ + 1).toNat a2_.toNat ((S_.1 2 cc_ 15) - a2_ - 1).toNat) := cdf_ac hC_ (Or.inr (by rw [show cof 40 = 0 from rfl] <;> omega))
      refine sm_T_go 4 (c1 := (74, [some (.inr (.inr (some (9, 0)))), some (.inr (.inr (some (2, cc_)))), some (.inl a2_), some (.inl a3_), some (.inl f_)], [.inl 1, .inl (S_.1 2 cc_ 15), .inr (.inr (some (2, cc_)))], sm_acI S_ 40 (0 + cc_) 40 (0 + cc_) (a2_ + 1).toNat a2_.toNat ((S_.1 2 cc_ 15) - a2_ - 1).toNat)) rfl ?_
      refine sm_T_bin (w := (S_.1 2 cc_ 15) - 1) rfl (bi_sub (by omega) (by omega) (by omega)) ?_ -- pc_ 74
      have hIx6_ : gi (sm_pI (sm_acI S_ 40 (0 + cc_) 40 (0 + cc_) (a2_ + 1).toNat a2_.toNat ((S_.1 2 cc_ 15) - a2_ - 1).toNat) 2 cc_ 15 ((S_.1 2 cc_ 15) - 1)) := gi_pI hIx3_ (show (-1) ≤ (S_.1 2 cc_ 15) - 1 ∧ (S_.1 2 cc_ 15) - 1 ≤ 1224 from ⟨by omega, by omega⟩)
      have hFx7_ : ai_fr (sx_W vw_182) S0_ (sm_pI (sm_acI S_ 40 (0 + cc_) 40 (0 + cc_) (a2_ + 1).toNat a2_.toNat ((S_.1 2 cc_ 15) - a2_ - 1).toNat) 2 cc_ 15 ((S_.1 2 cc_ 15) - 1)) := ai_fr_tr hFx4_ (ai_fr_pI rfl)
      have hCx8_ : cdf cc_ S0_ (sm_pI (sm_acI S_ 40 (0 + cc_) 40 (0 + cc_) (a2_ + 1).toNat a2_.toNat ((S_.1 2 cc_ 15) - a2_ - 1).toNat) 2 cc_ 15 ((S_.1 2 cc_ 15) - 1)) := cdf_pI hCx5_ (Or.inr (by rw [show cof 2 = 0 from rfl] <;> omega))
      refine sm_T_go 1 (c1 := (78, [some (.inr (.inr (some (9, 0)))), some (.inr (.inr (some (2, cc_)))), some (.inl a2_), some (.inl a3_), some (.inl f_)], [], sm_pI (sm_acI S_ 40 (0 + cc_) 40 (0 + cc_) (a2_ + 1).toNat a2_.toNat ((S_.1 2 cc_ 15) - a2_ - 1).toNat) 2 cc_ 15 ((S_.1 2 cc_ 15) - 1))) rfl ?_
      refine sm_T_rv rfl ⟨_, _, rfl, rfl, hIx6_, hFx7_, ?_⟩
      refine ⟨hCx8_, ?_⟩
      (rw [rf_eq]; omega)
    · have cx1_ : ¬ (a3_ ≤ f_) := of_decide_eq_false cx1_
      refine sm_T_go 4 (c1 := (16, [some (.inr (.inr (some (9, 0)))), some (.inr (.inr (some (2, cc_)))), some (.inl a2_), some (.inl a3_), some (.inl f_)], [.inl f_, .inr (.inr (some (97, 0))), .inl f_, .inr (.inr (some (97, 0)))], S_)) rfl ?_
      refine sm_T_iald (n := 1224) rfl rfl (by omega) (by omega) ?_
      have bx9_ : (-2147483648) ≤ S_.2.2.1 97 0 f_.toNat ∧ S_.2.2.1 97 0 f_.toNat ≤ 2147483647 := hI_.2 97 0 _
      refine sm_T_go 4 (c1 := (23, [some (.inr (.inr (some (9, 0)))), some (.inr (.inr (some (2, cc_)))), some (.inl a2_), some (.inl a3_), some (.inl f_)], [.inl a2_, .inr (.inr (some (40, (0 + cc_)))), .inr (.inr (some (9, 0))), .inl (S_.2.2.1 97 0 f_.toNat), .inl f_, .inr (.inr (some (97, 0)))], S_)) rfl ?_
      refine sm_T_iald (n := 1224) rfl rfl (by omega) (by omega) ?_
      have bx10_ : 0 ≤ S_.2.2.1 40 (0 + cc_) a2_.toNat ∧ S_.2.2.1 40 (0 + cc_) a2_.toNat ≤ 4095 := hI_.2 40 (0 + cc_) _
      refine sm_T_go 1 (c1 := (26, [some (.inr (.inr (some (9, 0)))), some (.inr (.inr (some (2, cc_)))), some (.inl a2_), some (.inl a3_), some (.inl f_)], [.inl f_, .inl (S_.2.2.1 40 (0 + cc_) a2_.toNat), .inr (.inr (some (9, 0))), .inl (S_.2.2.1 97 0 f_.toNat), .inl f_, .inr (.inr (some (97, 0)))], S_)) rfl ?_
      refine sm_T_cal (d1 := 0) (Q1 := vq_176 (S_.2.2.1 40 (0 + cc_) a2_.toNat) f_ S_) rfl rfl (by decide) (vc_176 (S_.2.2.1 40 (0 + cc_) a2_.toNat) f_ S_ hI_ (by omega) (by omega)) (fun u_ Sx11_ px14_ => ?_)
      obtain ⟨rfl, vx16_, rfl, px14_⟩ := px14_
      have i26_ := px14_
      refine sm_T_b0 (a := 0) (z := 7) rfl (fun cx17_ => ?_) (fun cx17_ => ?_)
      · have cx17_ : vx16_ = 0 := of_decide_eq_true cx17_
        refine sm_T_go 1 (c1 := (37, [some (.inr (.inr (some (9, 0)))), some (.inr (.inr (some (2, cc_)))), some (.inl a2_), some (.inl a3_), some (.inl f_)], [.inl 0, .inl (S_.2.2.1 97 0 f_.toNat), .inl f_, .inr (.inr (some (97, 0)))], S_)) rfl ?_
        refine sm_T_bin (w := (i_sub (S_.2.2.1 97 0 f_.toNat) 0)) rfl rfl ?_ -- pc_ 37
        have bx18_ := i_sub_r (S_.2.2.1 97 0 f_.toNat) 0
        refine sm_T_iast (n := 1224) rfl rfl (by omega) (by omega) ?_
        have hIx19_ : gi (sm_aI S_ 97 0 f_.toNat (i_sub (S_.2.2.1 97 0 f_.toNat) 0)) := gi_aI hI_ (show (-2147483648) ≤ (i_sub (S_.2.2.1 97 0 f_.toNat) 0) ∧ (i_sub (S_.2.2.1 97 0 f_.toNat) 0) ≤ 2147483647 from ⟨by omega, by omega⟩)
        have hFx20_ : ai_fr (sx_W vw_182) S0_ (sm_aI S_ 97 0 f_.toNat (i_sub (S_.2.2.1 97 0 f_.toNat) 0)) := ai_fr_tr hF_ (ai_fr_aI rfl)
        have hCx21_ : cdf cc_ S0_ (sm_aI S_ 97 0 f_.toNat (i_sub (S_.2.2.1 97 0 f_.toNat) 0)) := cdf_aI hC_ (Or.inl rfl)
        refine sm_T_inc (a := 4) (z := 1) (v := f_) (w := f_ + 1) rfl rfl (by omega) (by omega) (by omega) ?_ -- pc_ 39
        refine sm_T_go 1 (c1 := (3, [some (.inr (.inr (some (9, 0)))), some (.inr (.inr (some (2, cc_)))), some (.inl a2_), some (.inl a3_), some (.inl (f_ + 1))], [], sm_aI S_ 97 0 f_.toNat (i_sub (S_.2.2.1 97 0 f_.toNat) 0))) rfl ?_
        refine ih_ (f_ + 1) (sm_aI S_ 97 0 f_.toNat (i_sub (S_.2.2.1 97 0 f_.toNat) 0)) hIx19_ hFx20_ ⟨?_, ?_, ?_, trivial⟩ ?_
        · omega
        · exact h5_
        · exact hCx21_
        · omega
      · have cx17_ : ¬ (vx16_ = 0) := of_decide_eq_false cx17_
        refine sm_T_go 2 (c1 := (37, [some (.inr (.inr (some (9, 0)))), some (.inr (.inr (some (2, cc_)))), some (.inl a2_), some (.inl a3_), some (.inl f_)], [.inl 1, .inl (S_.2.2.1 97 0 f_.toNat), .inl f_, .inr (.inr (some (97, 0)))], S_)) rfl ?_
        refine sm_T_bin (w := (i_sub (S_.2.2.1 97 0 f_.toNat) 1)) rfl rfl ?_ -- pc_ 37
        have bx22_ := i_sub_r (S_.2.2.1 97 0 f_.toNat) 1
        refine sm_T_iast (n := 1224) rfl rfl (by omega) (by omega) ?_
        have hIx23_ : gi (sm_aI S_ 97 0 f_.toNat (i_sub (S_.2.2.1 97 0 f_.toNat) 1)) := gi_aI hI_ (show (-2147483648) ≤ (i_sub (S_.2.2.1 97 0 f_.toNat) 1) ∧ (i_sub (S_.2.2.1 97 0 f_.toNat) 1) ≤ 2147483647 from ⟨by omega, by omega⟩)
        have hFx24_ : ai_fr (sx_W vw_182) S0_ (sm_aI S_ 97 0 f_.toNat (i_sub (S_.2.2.1 97 0 f_.toNat) 1)) := ai_fr_tr hF_ (ai_fr_aI rfl)
        have hCx25_ : cdf cc_ S0_ (sm_aI S_ 97 0 f_.toNat (i_sub (S_.2.2.1 97 0 f_.toNat) 1)) := cdf_aI hC_ (Or.inl rfl)
        refine sm_T_inc (a := 4) (z := 1) (v := f_) (w := f_ + 1) rfl rfl (by omega) (by omega) (by omega) ?_ -- pc_ 39
        refine sm_T_go 1 (c1 := (3, [some (.inr (.inr (some (9, 0)))), some (.inr (.inr (some (2, cc_)))), some (.inl a2_), some (.inl a3_), some (.inl (f_ + 1))], [], sm_aI S_ 97 0 f_.toNat (i_sub (S_.2.2.1 97 0 f_.toNat) 1))) rfl ?_
        refine ih_ (f_ + 1) (sm_aI S_ 97 0 f_.toNat (i_sub (S_.2.2.1 97 0 f_.toNat) 1)) hIx23_ hFx24_ ⟨?_, ?_, ?_, trivial⟩ ?_
        · omega
        · exact h5_
        · exact hCx25_
        · omega
set_option maxHeartbeats 400000 in
theorem vc_182 {sc_ : Nat × (Nat → Int)} (a2_ : Int) (a3_ : Int) (cc_ : Nat) (S0_ : sm_S) (hI_ : gi S0_) (h3_ : 0 ≤ a3_ ∧ a3_ ≤ 1224) (h2_ : 0 ≤ a2_ ∧ a2_ < S0_.1 2 cc_ 15) : sm_T (mt_P sc_) 1 182 (0, [some (.inr (.inr (some (9, 0)))), some (.inr (.inr (some (2, cc_)))), some (.inl a2_), some (.inl a3_), none], [], S0_) (fun ro9_ => ∃ u_ S1_, ro9_ = (.inl u_, S1_, 0) ∧ vq_182 a2_ a3_ cc_ S0_ u_ S1_) := by
  have hF_ : ai_fr (sx_W vw_182) S0_ S0_ := ai_fr_rf
  have hC_ : cdf cc_ S0_ S0_ := cdf_rf
  have cz_ : (-1) ≤ S0_.1 2 cc_ 15 ∧ S0_.1 2 cc_ 15 ≤ 1224 := hI_.1 2 cc_ 15 rfl
  refine sm_T_go 2 (c1 := (3, [some (.inr (.inr (some (9, 0)))), some (.inr (.inr (some (2, cc_)))), some (.inl a2_), some (.inl a3_), some (.inl 0)], [], S0_)) rfl ?_
  refine (vl_182 a2_ a3_ cc_ S0_ h3_ h2_ _) 0 S0_ hI_ hF_ ⟨?_, ?_, ?_, trivial⟩ (Nat.lt_succ_self _)
  · omega
  · rfl
  · exact hC_
end
/-! 99.zl8i -/
section
/-! java/util/Arrays.fill -/
def vw_2f1 : sx_Wl := ([], [41], [])
def vq_2f1 (v0_ : Int) (cc_ : Nat) (S0_ : sm_S) (u_ : Option sm_V) (S1_ : sm_S) : Prop := u_ = none ∧ gi S1_ ∧ ai_fr (sx_W vw_2f1) S0_ S1_ ∧ (cdf cc_ S0_ S1_ ∧ (∀ j_, j_ < 1224 → S1_.2.2.1 41 (0 + cc_) j_ = v0_))
set_option maxHeartbeats 400000 in
theorem vl_2f1 {sc_ : Nat × (Nat → Int)} (v0_ : Int) (cc_ : Nat) (S0_ : sm_S) (hv_ : 0 ≤ v0_ ∧ v0_ ≤ 1) : ∀ nn_ : Nat, (∀ (k_ : Int) (S_ : sm_S), gi S_ → ai_fr (sx_W vw_2f1) S0_ S_ → ((0 ≤ k_ ∧ k_ ≤ 1224) ∧ (∀ j_, j_ < k_.toNat → S_.2.2.1 41 (0 + cc_) j_ = v0_) ∧ (cdf cc_ S0_ S_) ∧ True) → ((1224 - k_).toNat) < nn_ → sm_T (mt_P sc_) 0 2 (5, [some (.inr (.inr (some (41, (0 + cc_))))), some (.inl v0_), some (.inl k_), some (.inl 1224)], [], S_) (fun ro9_ => ∃ u_ S1_, ro9_ = (.inl u_, S1_, 0) ∧ vq_2f1 v0_ cc_ S0_ u_ S1_)) := by
  intro nn_
  induction nn_ with
  | zero => exact fun _ _ _ _ _ h_ => absurd h_ (Nat.not_lt_zero _)
  | succ nn_ ih_ =>
    rintro k_ S_ hI_ hF_ ⟨h0_, h1_, hC_, -⟩ hm_
    refine sm_T_go 2 (c1 := (7, [some (.inr (.inr (some (41, (0 + cc_))))), some (.inl v0_), some (.inl k_), some (.inl 1224)], [.inl 1224, .inl k_], S_)) rfl ?_
    refine sm_T_br (a := 3) (z := 13) rfl (fun cx1_ => ?_) (fun cx1_ => ?_)
    · have cx1_ : 1224 ≤ k_ := of_decide_eq_true cx1_
      refine sm_T_rv rfl ⟨_, _, rfl, rfl, hI_, hF_, ?_⟩
      refine ⟨hC_, ?_⟩
      exact fun j_ hj_ => h1_ j_ (by omega)
    · have cx1_ : ¬ (1224 ≤ k_) := of_decide_eq_false cx1_
      refine sm_T_go 3 (c1 := (13, [some (.inr (.inr (some (41, (0 + cc_))))), some (.inl v0_), some (.inl k_), some (.inl 1224)], [.inl v0_, .inl k_, .inr (.inr (some (41, (0 + cc_))))], S_)) rfl ?_
      refine sm_T_iast (n := 1224) rfl rfl (by omega) (by omega) ?_
      have hIx2_ : gi (sm_aI S_ 41 (0 + cc_) k_.toNat v0_) := gi_aI hI_ (show 0 ≤ v0_ ∧ v0_ ≤ 1 from ⟨by omega, by omega⟩)
      have hFx3_ : ai_fr (sx_W vw_2f1) S0_ (sm_aI S_ 41 (0 + cc_) k_.toNat v0_) := ai_fr_tr hF_ (ai_fr_aI rfl)
      have hCx4_ : cdf cc_ S0_ (sm_aI S_ 41 (0 + cc_) k_.toNat v0_) := cdf_aI hC_ (Or.inr (by rw [show cof 41 = 0 from rfl] <;> omega))
      refine sm_T_inc (a := 2) (z := 1) (v := k_) (w := k_ + 1) rfl rfl (by omega) (by omega) (by omega) ?_ -- pc_ 14
      refine sm_T_go 1 (c1 := (5, [some (.inr (.inr (some (41, (0 + cc_))))), some (.inl v0_), some (.inl (k_ + 1)), some (.inl 1224)], [], sm_aI S_ 41 (0 + cc_) k_.toNat v0_)) rfl ?_
      refine ih_ (k_ + 1) (sm_aI S_ 41 (0 + cc_) k_.toNat v0_) hIx2_ hFx3_ ⟨?_, ?_, ?_, trivial⟩ ?_
      · omega
      · intro j_ hj_
        rw [rd_eq]
        by_cases z_ : j_ = k_.toNat
        · rw [if_pos z_]
        · rw [if_neg z_]; exact h1_ j_ (by omega)
      · exact hCx4_
      · omega
set_option maxHeartbeats 400000 in
theorem vc_2f1 {sc_ : Nat × (Nat → Int)} (v0_ : Int) (cc_ : Nat) (S0_ : sm_S) (hI_ : gi S0_) (hv_ : 0 ≤ v0_ ∧ v0_ ≤ 1) : sm_T (mt_P sc_) 0 2 (0, [some (.inr (.inr (some (41, (0 + cc_))))), some (.inl v0_), none, none], [], S0_) (fun ro9_ => ∃ u_ S1_, ro9_ = (.inl u_, S1_, 0) ∧ vq_2f1 v0_ cc_ S0_ u_ S1_) := by
  have hF_ : ai_fr (sx_W vw_2f1) S0_ S0_ := ai_fr_rf
  have hC_ : cdf cc_ S0_ S0_ := cdf_rf
  refine sm_T_go 5 (c1 := (5, [some (.inr (.inr (some (41, (0 + cc_))))), some (.inl v0_), some (.inl 0), some (.inl 1224)], [], S0_)) rfl ?_
  refine (vl_2f1 v0_ cc_ S0_ hv_ _) 0 S0_ hI_ hF_ ⟨?_, ?_, ?_, trivial⟩ (Nat.lt_succ_self _)
  · omega
  · (intro j_ hj_; exact absurd hj_ (Nat.not_lt_zero _))
  · exact hC_
end
/-! 99.zl8j -/
section
/-! Tester.makeSet -/
def vw_179 : sx_Wl := ([(2, 15), (9, 1), (9, 2), (9, 3)], [40, 41, 92, 93, 94, 95, 96, 97], [(9, 0)])
def vq_179 (cc_ : Nat) (S0_ : sm_S) (u_ : Option sm_V) (S1_ : sm_S) : Prop := u_ = none ∧ gi S1_ ∧ ai_fr (sx_W vw_179) S0_ S1_ ∧ (cdf cc_ S0_ S1_ ∧ (shn S1_))
set_option maxHeartbeats 400000 in
theorem vl_179 {sc_ : Nat × (Nat → Int)} (cc_ : Nat) (S0_ : sm_S) (hs_ : S0_.1 2 cc_ 1 + S0_.1 2 cc_ 2 ≤ 12) (hn_ : shn S0_) : ∀ nn_ : Nat, (∀ (al_ : Int) (f_ : Int) (S_ : sm_S), gi S_ → ai_fr (sx_W vw_179) S0_ S_ → ((0 ≤ al_ ∧ al_ ≤ 1224 ∧ 0 ≤ f_ ∧ f_ ≤ al_) ∧ (0 ≤ S_.1 2 cc_ 15 ∧ S_.1 2 cc_ 15 ≤ f_) ∧ (shn S_) ∧ (cdf cc_ S0_ S_) ∧ True) → ((90000 - f_).toNat) < nn_ → sm_T (mt_P sc_) 6 179 (12, [some (.inr (.inr (some (9, 0)))), some (.inr (.inr (some (2, cc_)))), some (.inl al_), some (.inl f_), none], [], S_) (fun ro9_ => ∃ u_ S1_, ro9_ = (.inl u_, S1_, 0) ∧ vq_179 cc_ S0_ u_ S1_)) ∧ (∀ (al_ : Int) (f_ : Int) (S_ : sm_S), gi S_ → ai_fr (sx_W vw_179) S0_ S_ → ((0 ≤ al_ ∧ al_ ≤ 1224 ∧ 0 ≤ f_ ∧ f_ ≤ al_) ∧ (0 ≤ S_.1 2 cc_ 15 ∧ S_.1 2 cc_ 15 ≤ 1224) ∧ (shn S_) ∧ (cdf cc_ S0_ S_) ∧ True) → ((60000 - f_).toNat) < nn_ → sm_T (mt_P sc_) 6 179 (69, [some (.inr (.inr (some (9, 0)))), some (.inr (.inr (some (2, cc_)))), some (.inl al_), some (.inl f_), none], [], S_) (fun ro9_ => ∃ u_ S1_, ro9_ = (.inl u_, S1_, 0) ∧ vq_179 cc_ S0_ u_ S1_)) ∧ (∀ (al_ : Int) (k_ : Int) (S_ : sm_S), gi S_ → ai_fr (sx_W vw_179) S0_ S_ → ((0 ≤ al_ ∧ al_ ≤ 1224 ∧ -1 ≤ k_ ∧ k_ < S_.1 2 cc_ 15 ∧ S_.1 2 cc_ 15 ≤ 1224) ∧ (shn S_) ∧ (cdf cc_ S0_ S_) ∧ True) → ((k_ + 5).toNat) < nn_ → sm_T (mt_P sc_) 6 179 (99, [some (.inr (.inr (some (9, 0)))), some (.inr (.inr (some (2, cc_)))), some (.inl al_), some (.inl k_), none], [], S_) (fun ro9_ => ∃ u_ S1_, ro9_ = (.inl u_, S1_, 0) ∧ vq_179 cc_ S0_ u_ S1_)) := by
  intro nn_
  induction nn_ with
  | zero => exact ⟨fun _ _ _ _ _ _ h_ => absurd h_ (Nat.not_lt_zero _), fun _ _ _ _ _ _ h_ => absurd h_ (Nat.not_lt_zero _), fun _ _ _ _ _ _ h_ => absurd h_ (Nat.not_lt_zero _)⟩
  | succ nn_ ih_ =>
    refine ⟨?_, ?_, ?_⟩
    · rintro al_ f_ S_ hI_ hF_ ⟨h0_, h5_, hn1_, hC_, -⟩ hm_
      have z1_ : S_.1 2 cc_ 1 = S0_.1 2 cc_ 1 := hF_.1 2 cc_ 1 rfl
      have z2_ : S_.1 2 cc_ 2 = S0_.1 2 cc_ 2 := hF_.1 2 cc_ 2 rfl
      refine sm_T_go 2 (c1 := (14, [some (.inr (.inr (some (9, 0)))), some (.inr (.inr (some (2, cc_)))), some (.inl al_), some (.inl f_), none], [.inl al_, .inl f_], S_)) rfl ?_
      refine sm_T_br (a := 3) (z := 53) rfl (fun cx1_ => ?_) (fun cx1_ => ?_)
      · have cx1_ : al_ ≤ f_ := of_decide_eq_true cx1_
        refine sm_T_go 2 (c1 := (69, [some (.inr (.inr (some (9, 0)))), some (.inr (.inr (some (2, cc_)))), some (.inl al_), some (.inl 0), none], [], S_)) rfl ?_
        refine ih_.2.1 al_ 0 S_ hI_ hF_ ⟨?_, ?_, ?_, ?_, trivial⟩ ?_
        · omega
        · omega
        · exact hn1_
        · exact hC_
        · omega
      · have cx1_ : ¬ (al_ ≤ f_) := of_decide_eq_false cx1_
        refine sm_T_go 3 (c1 := (20, [some (.inr (.inr (some (9, 0)))), some (.inr (.inr (some (2, cc_)))), some (.inl al_), some (.inl f_), none], [.inl f_, .inr (.inr (some (2, cc_))), .inr (.inr (some (9, 0)))], S_)) rfl ?_
        refine sm_T_cal (d1 := 5) (Q1 := vq_177 f_ cc_ S_) rfl rfl (by decide) (vc_177 f_ cc_ S_ hI_ (by omega) (by omega) (by first | exact hn1_ | exact hn_)) (fun u_ Sx2_ px5_ => ?_)
        obtain ⟨vx7_, rfl, hIx3_, hFx4_, px5_⟩ := px5_
        have hFx6_ : ai_fr (sx_W vw_179) S0_ Sx2_ := ai_fr_tr hF_ (fr_le hFx4_ rfl)
        have hCx8_ : cdf cc_ S0_ Sx2_ := cdf_tr hC_ (cdf_fr hFx4_ rfl)
        have p20_ := px5_
        have s20_ := hFx4_.1 2 cc_ 15 rfl
        refine sm_T_go 3 (c1 := (28, [some (.inr (.inr (some (9, 0)))), some (.inr (.inr (some (2, cc_)))), some (.inl al_), some (.inl f_), some (.inl vx7_)], [.inl (-1), .inl vx7_], Sx2_)) rfl ?_
        refine sm_T_br (a := 0) (z := 33) rfl (fun cx9_ => ?_) (fun cx9_ => ?_)
        · have cx9_ : vx7_ = (-1) := of_decide_eq_true cx9_
          refine sm_T_inc (a := 3) (z := 1) (v := f_) (w := f_ + 1) rfl rfl (by omega) (by omega) (by omega) ?_ -- pc_ 61
          refine sm_T_go 1 (c1 := (12, [some (.inr (.inr (some (9, 0)))), some (.inr (.inr (some (2, cc_)))), some (.inl al_), some (.inl (f_ + 1)), some (.inl vx7_)], [], Sx2_)) rfl ?_
          refine sm_T_wk [some (.inr (.inr (some (9, 0)))), some (.inr (.inr (some (2, cc_)))), some (.inl al_), some (.inl (f_ + 1)), none] (by exact ⟨rfl, rfl, rfl, rfl, trivial⟩) ?_
          refine ih_.1 al_ (f_ + 1) Sx2_ hIx3_ hFx6_ ⟨?_, ?_, ?_, ?_, trivial⟩ ?_
          · omega
          · (first | omega | (rw [rf_eq]; omega))
          · exact p20_.2
          · exact hCx8_
          · omega
        · have cx9_ : ¬ (vx7_ = (-1)) := of_decide_eq_false cx9_
          refine sm_T_go 3 (c1 := (34, [some (.inr (.inr (some (9, 0)))), some (.inr (.inr (some (2, cc_)))), some (.inl al_), some (.inl f_), some (.inl vx7_)], [.inl f_, .inr (.inr (some (2, cc_))), .inr (.inr (some (9, 0)))], Sx2_)) rfl ?_
          refine sm_T_cal (d1 := 1) (Q1 := vq_180 f_ cc_ Sx2_) rfl rfl (by decide) (vc_180 f_ cc_ Sx2_ hIx3_ (by omega)) (fun u_ Sx10_ px13_ => ?_)
          obtain ⟨rfl, vx15_, rfl, px13_⟩ := px13_
          have q34_ := px13_
          refine sm_T_b0 (a := 1) (z := 24) rfl (fun cx16_ => ?_) (fun cx16_ => ?_)
          · have cx16_ : vx15_ ≠ 0 := of_decide_eq_true cx16_
            refine sm_T_inc (a := 3) (z := 1) (v := f_) (w := f_ + 1) rfl rfl (by omega) (by omega) (by omega) ?_ -- pc_ 61
            refine sm_T_go 1 (c1 := (12, [some (.inr (.inr (some (9, 0)))), some (.inr (.inr (some (2, cc_)))), some (.inl al_), some (.inl (f_ + 1)), some (.inl vx7_)], [], Sx2_)) rfl ?_
            refine sm_T_wk [some (.inr (.inr (some (9, 0)))), some (.inr (.inr (some (2, cc_)))), some (.inl al_), some (.inl (f_ + 1)), none] (by exact ⟨rfl, rfl, rfl, rfl, trivial⟩) ?_
            refine ih_.1 al_ (f_ + 1) Sx2_ hIx3_ hFx6_ ⟨?_, ?_, ?_, ?_, trivial⟩ ?_
            · omega
            · (first | omega | (rw [rf_eq]; omega))
            · exact p20_.2
            · exact hCx8_
            · omega
          · have cx16_ : ¬ (vx15_ ≠ 0) := of_decide_eq_false cx16_
            have bx17_ : (-1) ≤ Sx2_.1 2 cc_ 15 ∧ Sx2_.1 2 cc_ 15 ≤ 1224 := hIx3_.1 2 cc_ 15 rfl
            refine sm_T_go 5 (c1 := (50, [some (.inr (.inr (some (9, 0)))), some (.inr (.inr (some (2, cc_)))), some (.inl al_), some (.inl f_), some (.inl vx7_)], [.inl vx7_, .inl (Sx2_.1 2 cc_ 15), .inr (.inr (some (40, (0 + cc_))))], Sx2_)) rfl ?_
            refine sm_T_iast (n := 1224) rfl rfl (by omega) (by omega) ?_
            have hIx18_ : gi (sm_aI Sx2_ 40 (0 + cc_) (Sx2_.1 2 cc_ 15).toNat vx7_) := gi_aI hIx3_ (show 0 ≤ vx7_ ∧ vx7_ ≤ 4095 from ⟨by omega, by omega⟩)
            have hFx19_ : ai_fr (sx_W vw_179) S0_ (sm_aI Sx2_ 40 (0 + cc_) (Sx2_.1 2 cc_ 15).toNat vx7_) := ai_fr_tr hFx6_ (ai_fr_aI rfl)
            have hCx20_ : cdf cc_ S0_ (sm_aI Sx2_ 40 (0 + cc_) (Sx2_.1 2 cc_ 15).toNat vx7_) := cdf_aI hCx8_ (Or.inr (by rw [show cof 40 = 0 from rfl] <;> omega))
            refine sm_T_go 4 (c1 := (57, [some (.inr (.inr (some (9, 0)))), some (.inr (.inr (some (2, cc_)))), some (.inl al_), some (.inl f_), some (.inl vx7_)], [.inl 1, .inl (Sx2_.1 2 cc_ 15), .inr (.inr (some (2, cc_)))], sm_aI Sx2_ 40 (0 + cc_) (Sx2_.1 2 cc_ 15).toNat vx7_)) rfl ?_
            refine sm_T_bin (w := (Sx2_.1 2 cc_ 15) + 1) rfl (bi_add (by omega) (by omega) (by omega)) ?_ -- pc_ 57
            have hIx21_ : gi (sm_pI (sm_aI Sx2_ 40 (0 + cc_) (Sx2_.1 2 cc_ 15).toNat vx7_) 2 cc_ 15 ((Sx2_.1 2 cc_ 15) + 1)) := gi_pI hIx18_ (show (-1) ≤ (Sx2_.1 2 cc_ 15) + 1 ∧ (Sx2_.1 2 cc_ 15) + 1 ≤ 1224 from ⟨by omega, by omega⟩)
            have hFx22_ : ai_fr (sx_W vw_179) S0_ (sm_pI (sm_aI Sx2_ 40 (0 + cc_) (Sx2_.1 2 cc_ 15).toNat vx7_) 2 cc_ 15 ((Sx2_.1 2 cc_ 15) + 1)) := ai_fr_tr hFx19_ (ai_fr_pI rfl)
            have hCx23_ : cdf cc_ S0_ (sm_pI (sm_aI Sx2_ 40 (0 + cc_) (Sx2_.1 2 cc_ 15).toNat vx7_) 2 cc_ 15 ((Sx2_.1 2 cc_ 15) + 1)) := cdf_pI hCx20_ (Or.inr (by rw [show cof 2 = 0 from rfl] <;> omega))
            refine sm_T_go 1 (c1 := (61, [some (.inr (.inr (some (9, 0)))), some (.inr (.inr (some (2, cc_)))), some (.inl al_), some (.inl f_), some (.inl vx7_)], [], sm_pI (sm_aI Sx2_ 40 (0 + cc_) (Sx2_.1 2 cc_ 15).toNat vx7_) 2 cc_ 15 ((Sx2_.1 2 cc_ 15) + 1))) rfl ?_
            refine sm_T_inc (a := 3) (z := 1) (v := f_) (w := f_ + 1) rfl rfl (by omega) (by omega) (by omega) ?_ -- pc_ 61
            refine sm_T_go 1 (c1 := (12, [some (.inr (.inr (some (9, 0)))), some (.inr (.inr (some (2, cc_)))), some (.inl al_), some (.inl (f_ + 1)), some (.inl vx7_)], [], sm_pI (sm_aI Sx2_ 40 (0 + cc_) (Sx2_.1 2 cc_ 15).toNat vx7_) 2 cc_ 15 ((Sx2_.1 2 cc_ 15) + 1))) rfl ?_
            refine sm_T_wk [some (.inr (.inr (some (9, 0)))), some (.inr (.inr (some (2, cc_)))), some (.inl al_), some (.inl (f_ + 1)), none] (by exact ⟨rfl, rfl, rfl, rfl, trivial⟩) ?_
            refine ih_.1 al_ (f_ + 1) (sm_pI (sm_aI Sx2_ 40 (0 + cc_) (Sx2_.1 2 cc_ 15).toNat vx7_) 2 cc_ 15 ((Sx2_.1 2 cc_ 15) + 1)) hIx21_ hFx22_ ⟨?_, ?_, ?_, ?_, trivial⟩ ?_
            · omega
            · (first | omega | (rw [rf_eq]; omega))
            · exact p20_.2
            · exact hCx23_
            · omega
    · rintro al_ f_ S_ hI_ hF_ ⟨h0_, h5_, hn1_, hC_, -⟩ hm_
      have z1_ : S_.1 2 cc_ 1 = S0_.1 2 cc_ 1 := hF_.1 2 cc_ 1 rfl
      have z2_ : S_.1 2 cc_ 2 = S0_.1 2 cc_ 2 := hF_.1 2 cc_ 2 rfl
      refine sm_T_go 2 (c1 := (71, [some (.inr (.inr (some (9, 0)))), some (.inr (.inr (some (2, cc_)))), some (.inl al_), some (.inl f_), none], [.inl al_, .inl f_], S_)) rfl ?_
      refine sm_T_br (a := 3) (z := 21) rfl (fun cx1_ => ?_) (fun cx1_ => ?_)
      · have cx1_ : al_ ≤ f_ := of_decide_eq_true cx1_
        have bx2_ : (-1) ≤ S_.1 2 cc_ 15 ∧ S_.1 2 cc_ 15 ≤ 1224 := hI_.1 2 cc_ 15 rfl
        refine sm_T_go 3 (c1 := (97, [some (.inr (.inr (some (9, 0)))), some (.inr (.inr (some (2, cc_)))), some (.inl al_), some (.inl f_), none], [.inl 1, .inl (S_.1 2 cc_ 15)], S_)) rfl ?_
        refine sm_T_bin (w := (S_.1 2 cc_ 15) - 1) rfl (bi_sub (by omega) (by omega) (by omega)) ?_ -- pc_ 97
        refine sm_T_go 1 (c1 := (99, [some (.inr (.inr (some (9, 0)))), some (.inr (.inr (some (2, cc_)))), some (.inl al_), some (.inl ((S_.1 2 cc_ 15) - 1)), none], [], S_)) rfl ?_
        refine ih_.2.2 al_ ((S_.1 2 cc_ 15) - 1) S_ hI_ hF_ ⟨?_, ?_, ?_, trivial⟩ ?_
        · omega
        · exact hn1_
        · exact hC_
        · omega
      · have cx1_ : ¬ (al_ ≤ f_) := of_decide_eq_false cx1_
        refine sm_T_go 6 (c1 := (82, [some (.inr (.inr (some (9, 0)))), some (.inr (.inr (some (2, cc_)))), some (.inl al_), some (.inl f_), none], [.inl f_, .inr (.inr (some (2, cc_))), .inr (.inr (some (9, 0))), .inl f_, .inr (.inr (some (97, 0)))], S_)) rfl ?_
        refine sm_T_cal (d1 := 1) (Q1 := vq_180 f_ cc_ S_) rfl rfl (by decide) (vc_180 f_ cc_ S_ hI_ (by omega)) (fun u_ Sx3_ px6_ => ?_)
        obtain ⟨rfl, vx8_, rfl, px6_⟩ := px6_
        have q82_ := px6_
        refine sm_T_iast (n := 1224) rfl rfl (by omega) (by omega) ?_
        have hIx9_ : gi (sm_aI S_ 97 0 f_.toNat vx8_) := gi_aI hI_ (show (-2147483648) ≤ vx8_ ∧ vx8_ ≤ 2147483647 from ⟨by omega, by omega⟩)
        have hFx10_ : ai_fr (sx_W vw_179) S0_ (sm_aI S_ 97 0 f_.toNat vx8_) := ai_fr_tr hF_ (ai_fr_aI rfl)
        have hCx11_ : cdf cc_ S0_ (sm_aI S_ 97 0 f_.toNat vx8_) := cdf_aI hC_ (Or.inl rfl)
        refine sm_T_inc (a := 3) (z := 1) (v := f_) (w := f_ + 1) rfl rfl (by omega) (by omega) (by omega) ?_ -- pc_ 86
        refine sm_T_go 1 (c1 := (69, [some (.inr (.inr (some (9, 0)))), some (.inr (.inr (some (2, cc_)))), some (.inl al_), some (.inl (f_ + 1)), none], [], sm_aI S_ 97 0 f_.toNat vx8_)) rfl ?_
        refine ih_.2.1 al_ (f_ + 1) (sm_aI S_ 97 0 f_.toNat vx8_) hIx9_ hFx10_ ⟨?_, ?_, ?_, ?_, trivial⟩ ?_
        · omega
        · (simp only [rd_af]; omega)
        · exact hn1_
        · exact hCx11_
        · omega
    · rintro al_ k_ S_ hI_ hF_ ⟨h0_, hn1_, hC_, -⟩ hm_
      have z1_ : S_.1 2 cc_ 1 = S0_.1 2 cc_ 1 := hF_.1 2 cc_ 1 rfl
      have z2_ : S_.1 2 cc_ 2 = S0_.1 2 cc_ 2 := hF_.1 2 cc_ 2 rfl
      refine sm_T_go 1 (c1 := (100, [some (.inr (.inr (some (9, 0)))), some (.inr (.inr (some (2, cc_)))), some (.inl al_), some (.inl k_), none], [.inl k_], S_)) rfl ?_
      refine sm_T_b0 (a := 2) (z := 30) rfl (fun cx1_ => ?_) (fun cx1_ => ?_)
      · have cx1_ : k_ < 0 := of_decide_eq_true cx1_
        refine sm_T_go 3 (c1 := (135, [some (.inr (.inr (some (9, 0)))), some (.inr (.inr (some (2, cc_)))), some (.inl al_), some (.inl k_), none], [.inl 0, .inr (.inr (some (41, (0 + cc_))))], S_)) rfl ?_
        refine sm_T_cal (d1 := 0) (Q1 := vq_2f1 0 cc_ S_) rfl rfl (by decide) (vc_2f1 0 cc_ S_ hI_ (by decide)) (fun u_ Sx2_ px5_ => ?_)
        obtain ⟨rfl, hIx3_, hFx4_, px5_⟩ := px5_
        have hFx6_ : ai_fr (sx_W vw_179) S0_ Sx2_ := ai_fr_tr hF_ (fr_le hFx4_ rfl)
        obtain ⟨dx8_, px5_⟩ := px5_
        have hCx7_ : cdf cc_ S0_ Sx2_ := cdf_tr hC_ (cdf_cg (by omega) dx8_)
        have n135_ := shn_fr hn1_ hFx4_
        refine sm_T_rv rfl ⟨_, _, rfl, rfl, hIx3_, hFx6_, ?_⟩
        refine ⟨hCx7_, ?_⟩
        exact n135_
      · have cx1_ : ¬ (k_ < 0) := of_decide_eq_false cx1_
        refine sm_T_go 4 (c1 := (109, [some (.inr (.inr (some (9, 0)))), some (.inr (.inr (some (2, cc_)))), some (.inl al_), some (.inl k_), none], [.inl k_, .inr (.inr (some (40, (0 + cc_)))), .inr (.inr (some (9, 0)))], S_)) rfl ?_
        refine sm_T_iald (n := 1224) rfl rfl (by omega) (by omega) ?_
        have bx9_ : 0 ≤ S_.2.2.1 40 (0 + cc_) k_.toNat ∧ S_.2.2.1 40 (0 + cc_) k_.toNat ≤ 4095 := hI_.2 40 (0 + cc_) _
        refine sm_T_go 1 (c1 := (111, [some (.inr (.inr (some (9, 0)))), some (.inr (.inr (some (2, cc_)))), some (.inl al_), some (.inl k_), none], [.inl al_, .inl (S_.2.2.1 40 (0 + cc_) k_.toNat), .inr (.inr (some (9, 0)))], S_)) rfl ?_
        refine sm_T_cal (d1 := 1) (Q1 := vq_181 (S_.2.2.1 40 (0 + cc_) k_.toNat) al_ S_) rfl rfl (by decide) (vc_181 (S_.2.2.1 40 (0 + cc_) k_.toNat) al_ S_ hI_ (by omega) (by omega)) (fun u_ Sx10_ px13_ => ?_)
        obtain ⟨rfl, vx15_, rfl, px13_⟩ := px13_
        have i111_ := px13_
        refine sm_T_b0 (a := 0) (z := 10) rfl (fun cx16_ => ?_) (fun cx16_ => ?_)
        · have cx16_ : vx15_ = 0 := of_decide_eq_true cx16_
          refine sm_T_inc (a := 3) (z := (-1)) (v := k_) (w := k_ - 1) rfl rfl (by omega) (by omega) (by omega) ?_ -- pc_ 124
          refine sm_T_go 1 (c1 := (99, [some (.inr (.inr (some (9, 0)))), some (.inr (.inr (some (2, cc_)))), some (.inl al_), some (.inl (k_ - 1)), none], [], S_)) rfl ?_
          refine ih_.2.2 al_ (k_ - 1) S_ hI_ hF_ ⟨?_, ?_, ?_, trivial⟩ ?_
          · omega
          · first | exact hn1_ | exact n121_
          · exact hC_
          · omega
        · have cx16_ : ¬ (vx15_ = 0) := of_decide_eq_false cx16_
          refine sm_T_go 4 (c1 := (121, [some (.inr (.inr (some (9, 0)))), some (.inr (.inr (some (2, cc_)))), some (.inl al_), some (.inl k_), none], [.inl al_, .inl k_, .inr (.inr (some (2, cc_))), .inr (.inr (some (9, 0)))], S_)) rfl ?_
          refine sm_T_cal (d1 := 1) (Q1 := vq_182 k_ al_ cc_ S_) rfl rfl (by decide) (vc_182 k_ al_ cc_ S_ hI_ (by omega) (by omega)) (fun u_ Sx17_ px20_ => ?_)
          obtain ⟨rfl, hIx18_, hFx19_, px20_⟩ := px20_
          have hFx21_ : ai_fr (sx_W vw_179) S0_ Sx17_ := ai_fr_tr hF_ (fr_le hFx19_ rfl)
          obtain ⟨dx23_, px20_⟩ := px20_
          have hCx22_ : cdf cc_ S0_ Sx17_ := cdf_tr hC_ (cdf_cg (by omega) dx23_)
          have r121_ := px20_
          have n121_ := shn_fr hn1_ hFx19_
          refine sm_T_inc (a := 3) (z := (-1)) (v := k_) (w := k_ - 1) rfl rfl (by omega) (by omega) (by omega) ?_ -- pc_ 124
          refine sm_T_go 1 (c1 := (99, [some (.inr (.inr (some (9, 0)))), some (.inr (.inr (some (2, cc_)))), some (.inl al_), some (.inl (k_ - 1)), none], [], Sx17_)) rfl ?_
          refine ih_.2.2 al_ (k_ - 1) Sx17_ hIx18_ hFx21_ ⟨?_, ?_, ?_, trivial⟩ ?_
          · omega
          · first | exact hn1_ | exact n121_
          · exact hCx22_
          · omega
set_option maxHeartbeats 400000 in
theorem vc_179 {sc_ : Nat × (Nat → Int)} (cc_ : Nat) (S0_ : sm_S) (hI_ : gi S0_) (hs_ : S0_.1 2 cc_ 1 + S0_.1 2 cc_ 2 ≤ 12) (hn_ : shn S0_) : sm_T (mt_P sc_) 6 179 (0, [some (.inr (.inr (some (9, 0)))), some (.inr (.inr (some (2, cc_)))), none, none, none], [], S0_) (fun ro9_ => ∃ u_ S1_, ro9_ = (.inl u_, S1_, 0) ∧ vq_179 cc_ S0_ u_ S1_) := by
  have hF_ : ai_fr (sx_W vw_179) S0_ S0_ := ai_fr_rf
  have hC_ : cdf cc_ S0_ S0_ := cdf_rf
  have hIx1_ : gi (sm_pI S0_ 2 cc_ 15 0) := gi_pI hI_ (show (-1) ≤ 0 ∧ 0 ≤ 1224 from ⟨by omega, by omega⟩)
  have hFx2_ : ai_fr (sx_W vw_179) S0_ (sm_pI S0_ 2 cc_ 15 0) := ai_fr_tr hF_ (ai_fr_pI rfl)
  have hCx3_ : cdf cc_ S0_ (sm_pI S0_ 2 cc_ 15 0) := cdf_pI hC_ (Or.inr (by rw [show cof 2 = 0 from rfl] <;> omega))
  refine sm_T_go 4 (c1 := (6, [some (.inr (.inr (some (9, 0)))), some (.inr (.inr (some (2, cc_)))), none, none, none], [.inr (.inr (some (2, cc_)))], sm_pI S0_ 2 cc_ 15 0)) rfl ?_
  refine sm_T_cal (d1 := 1) (Q1 := vq_62 cc_ (sm_pI S0_ 2 cc_ 15 0)) rfl rfl (by decide) (vc_62 cc_ (sm_pI S0_ 2 cc_ 15 0) hIx1_ (by (simp only [rf_nk, ne_eq, Nat.reduceEqDiff, not_false_eq_true]; exact hs_))) (fun u_ Sx4_ px7_ => ?_)
  obtain ⟨rfl, vx9_, rfl, px7_⟩ := px7_
  have fc6_ := px7_
  refine sm_T_go 3 (c1 := (12, [some (.inr (.inr (some (9, 0)))), some (.inr (.inr (some (2, cc_)))), some (.inl vx9_), some (.inl 0), none], [], sm_pI S0_ 2 cc_ 15 0)) rfl ?_
  refine (vl_179 cc_ S0_ hs_ hn_ _).1 vx9_ 0 (sm_pI S0_ 2 cc_ 15 0) hIx1_ hFx2_ ⟨?_, ?_, ?_, ?_, trivial⟩ (Nat.lt_succ_self _)
  · omega
  · (rw [rf_eq]; omega)
  · exact hn_
  · exact hCx3_
end
/-! 99.zl9a -/
section
/-! a chip plays; written by wip/p55/gen/vg -/

/-! a_ chip's table -/
def ctb (cc_ : Nat) (S_ : sm_S) : Prop := ∀ p_ : Nat, p_ < 4096 → 0 ≤ S_.2.2.1 34 (0 + cc_) p_ ∧ S_.2.2.1 34 (0 + cc_) p_ < 2 ^ (16 + (S_.1 2 cc_ 2).toNat)
/-! java/util/Arrays.fill -/
def vw_2c4 : sx_Wl := ([], [34], [])
def vq_2c4 (v0_ : Int) (cc_ : Nat) (S0_ : sm_S) (u_ : Option sm_V) (S1_ : sm_S) : Prop := u_ = none ∧ gi S1_ ∧ ai_fr (sx_W vw_2c4) S0_ S1_ ∧ (cdf cc_ S0_ S1_ ∧ (∀ j_, j_ < 4096 → S1_.2.2.1 34 (0 + cc_) j_ = v0_))
set_option maxHeartbeats 400000 in
theorem vl_2c4 {sc_ : Nat × (Nat → Int)} (v0_ : Int) (cc_ : Nat) (S0_ : sm_S) (hv_ : 0 ≤ v0_ ∧ v0_ ≤ 4194303) : ∀ nn_ : Nat, (∀ (k_ : Int) (S_ : sm_S), gi S_ → ai_fr (sx_W vw_2c4) S0_ S_ → ((0 ≤ k_ ∧ k_ ≤ 4096) ∧ (∀ j_, j_ < k_.toNat → S_.2.2.1 34 (0 + cc_) j_ = v0_) ∧ (cdf cc_ S0_ S_) ∧ True) → ((4096 - k_).toNat) < nn_ → sm_T (mt_P sc_) 0 2 (5, [some (.inr (.inr (some (34, (0 + cc_))))), some (.inl v0_), some (.inl k_), some (.inl 4096)], [], S_) (fun ro9_ => ∃ u_ S1_, ro9_ = (.inl u_, S1_, 0) ∧ vq_2c4 v0_ cc_ S0_ u_ S1_)) := by
  intro nn_
  induction nn_ with
  | zero => exact fun _ _ _ _ _ h_ => absurd h_ (Nat.not_lt_zero _)
  | succ nn_ ih_ =>
    rintro k_ S_ hI_ hF_ ⟨h0_, h1_, hC_, -⟩ hm_
    refine sm_T_go 2 (c1 := (7, [some (.inr (.inr (some (34, (0 + cc_))))), some (.inl v0_), some (.inl k_), some (.inl 4096)], [.inl 4096, .inl k_], S_)) rfl ?_
    refine sm_T_br (a := 3) (z := 13) rfl (fun cx1_ => ?_) (fun cx1_ => ?_)
    · have cx1_ : 4096 ≤ k_ := of_decide_eq_true cx1_
      refine sm_T_rv rfl ⟨_, _, rfl, rfl, hI_, hF_, ?_⟩
      refine ⟨hC_, ?_⟩
      exact fun j_ hj_ => h1_ j_ (by omega)
    · have cx1_ : ¬ (4096 ≤ k_) := of_decide_eq_false cx1_
      refine sm_T_go 3 (c1 := (13, [some (.inr (.inr (some (34, (0 + cc_))))), some (.inl v0_), some (.inl k_), some (.inl 4096)], [.inl v0_, .inl k_, .inr (.inr (some (34, (0 + cc_))))], S_)) rfl ?_
      refine sm_T_iast (n := 4096) rfl rfl (by omega) (by omega) ?_
      have hIx2_ : gi (sm_aI S_ 34 (0 + cc_) k_.toNat v0_) := gi_aI hI_ (show 0 ≤ v0_ ∧ v0_ ≤ 4194303 from ⟨by omega, by omega⟩)
      have hFx3_ : ai_fr (sx_W vw_2c4) S0_ (sm_aI S_ 34 (0 + cc_) k_.toNat v0_) := ai_fr_tr hF_ (ai_fr_aI rfl)
      have hCx4_ : cdf cc_ S0_ (sm_aI S_ 34 (0 + cc_) k_.toNat v0_) := cdf_aI hC_ (Or.inr (by rw [show cof 34 = 0 from rfl] <;> omega))
      refine sm_T_inc (a := 2) (z := 1) (v := k_) (w := k_ + 1) rfl rfl (by omega) (by omega) (by omega) ?_ -- pc_ 14
      refine sm_T_go 1 (c1 := (5, [some (.inr (.inr (some (34, (0 + cc_))))), some (.inl v0_), some (.inl (k_ + 1)), some (.inl 4096)], [], sm_aI S_ 34 (0 + cc_) k_.toNat v0_)) rfl ?_
      refine ih_ (k_ + 1) (sm_aI S_ 34 (0 + cc_) k_.toNat v0_) hIx2_ hFx3_ ⟨?_, ?_, ?_, trivial⟩ ?_
      · omega
      · intro j_ hj_
        rw [rd_eq]
        by_cases z_ : j_ = k_.toNat
        · rw [if_pos z_]
        · rw [if_neg z_]; exact h1_ j_ (by omega)
      · exact hCx4_
      · omega
set_option maxHeartbeats 400000 in
theorem vc_2c4 {sc_ : Nat × (Nat → Int)} (v0_ : Int) (cc_ : Nat) (S0_ : sm_S) (hI_ : gi S0_) (hv_ : 0 ≤ v0_ ∧ v0_ ≤ 4194303) : sm_T (mt_P sc_) 0 2 (0, [some (.inr (.inr (some (34, (0 + cc_))))), some (.inl v0_), none, none], [], S0_) (fun ro9_ => ∃ u_ S1_, ro9_ = (.inl u_, S1_, 0) ∧ vq_2c4 v0_ cc_ S0_ u_ S1_) := by
  have hF_ : ai_fr (sx_W vw_2c4) S0_ S0_ := ai_fr_rf
  have hC_ : cdf cc_ S0_ S0_ := cdf_rf
  refine sm_T_go 5 (c1 := (5, [some (.inr (.inr (some (34, (0 + cc_))))), some (.inl v0_), some (.inl 0), some (.inl 4096)], [], S0_)) rfl ?_
  refine (vl_2c4 v0_ cc_ S0_ hv_ _) 0 S0_ hI_ hF_ ⟨?_, ?_, ?_, trivial⟩ (Nat.lt_succ_self _)
  · omega
  · (intro j_ hj_; exact absurd hj_ (Nat.not_lt_zero _))
  · exact hC_
end
