/-! trailing zeros; written by wip/p55/gen/vg -/

/-! bits and trailing zeros; references compared -/
theorem xm1 {a_ : Int} (h_ : -2147483648 ≤ a_ ∧ a_ ≤ 2147483647) : i_xor a_ (-1) = -1 - a_ := by
  unfold i_xor
  have e_ : (Int32.ofInt a_).toInt = a_ := Int32.toInt_ofInt_of_le (by omega) (by omega)
  have q_ : Int32.ofInt a_ ^^^ Int32.ofInt (-1) = ~~~(Int32.ofInt a_) := by
    show Int32.ofInt a_ ^^^ -1 = _
    exact Int32.xor_neg_one
  rw [q_, Int32.toInt_not, e_]
  rw [Int.bmod_eq_of_le (by omega) (by omega)]
  omega
theorem l64z {x_ : Int} (h_ : -9223372036854775808 ≤ x_ ∧ x_ < 9223372036854775808) (h1_ : l_l2i x_ = 0) (h2_ : l_l2i (l_s2 x_ 32) = 0) : x_ = 0 := by
  have e_ : (Int64.ofInt x_).toInt = x_ := Int64.toInt_ofInt_of_le (by omega) (by omega)
  unfold l_l2i l_s2 at *
  rw [Int64.ofInt_toInt] at h2_
  generalize Int64.ofInt x_ = a_ at *
  rw [← e_]
  have p1_ : a_.toBitVec.signExtend 32 = 0 := by
    have z_ : a_.toInt32 = 0 := Int32.toInt_inj.mp h1_
    have z2_ : a_.toInt32.toBitVec = 0 := by rw [z_]; rfl
    exact z2_
  have p2_ : (a_.toBitVec >>> 32).signExtend 32 = 0 := by
    have z_ : ((a_.toUInt64 >>> ((Int32.ofInt 32).toInt64.toUInt64 &&& Int64.toUInt64 63)).toInt64).toInt32 = 0 := Int32.toInt_inj.mp h2_
    have z2_ : (((a_.toUInt64 >>> ((Int32.ofInt 32).toInt64.toUInt64 &&& Int64.toUInt64 63)).toInt64).toInt32).toBitVec = 0 := by rw [z_]; rfl
    exact z2_
  have p3_ : a_.toBitVec = 0 := by
    apply BitVec.eq_of_getLsbD_eq
    intro i_ hi_
    by_cases c_ : i_ < 32
    · have t_ := congrArg (fun b_ => b_.getLsbD i_) p1_
      simp only [BitVec.getLsbD_signExtend] at t_
      simpa [c_, hi_] using t_
    · have t_ := congrArg (fun b_ => b_.getLsbD (i_ - 32)) p2_
      simp only [BitVec.getLsbD_signExtend, BitVec.getLsbD_ushiftRight] at t_
      rw [show 32 + (i_ - 32) = i_ by omega] at t_
      simpa [show i_ - 32 < 32 by omega, show i_ - 32 < 64 by omega] using t_
  have p4_ : a_ = 0 := Int64.toBitVec_inj.mp p3_
  rw [p4_]
  rfl
theorem i_ushv {x_ : Int} {k_ : Nat} (hk_ : k_ < 32) (h_ : 0 ≤ x_ ∧ x_ ≤ 2147483647) : i_ushr x_ (k_ : Int) = x_ / 2 ^ k_ := by
  unfold i_ushr
  have e_ : (Int32.ofInt x_).toInt = x_ := Int32.toInt_ofInt_of_le (by omega) (by omega)
  have n_ : (Int32.ofInt x_).toUInt32.toNat = x_.toNat := by
    show (Int32.ofInt x_).toBitVec.toNat = x_.toNat
    have q_ : (Int32.ofInt x_).toBitVec.toInt = x_ := e_
    rw [BitVec.toInt_eq_toNat_cond] at q_
    have l_ := (Int32.ofInt x_).toBitVec.isLt
    split at q_ <;> omega
  have m_ : ((Int32.ofInt (k_ : Int)).toUInt32 &&& Int32.toUInt32 31).toNat = k_ := by
    have c_ : ∀ j_ : Fin 32, ((Int32.ofInt ((j_.val : Nat) : Int)).toUInt32 &&& Int32.toUInt32 31).toNat = j_.val := by decide
    exact c_ ⟨k_, hk_⟩
  obtain ⟨u_, hu_⟩ : ∃ u_, u_ = (Int32.ofInt x_).toUInt32 >>> ((Int32.ofInt (k_ : Int)).toUInt32 &&& Int32.toUInt32 31) := ⟨_, rfl⟩
  have v_ : u_.toNat = x_.toNat / 2 ^ k_ := by
    rw [hu_, UInt32.toNat_shiftRight, n_, m_, Nat.mod_eq_of_lt hk_, Nat.shiftRight_eq_div_pow]
  rw [← hu_]
  show u_.toBitVec.toInt = _
  rw [BitVec.toInt_eq_toNat_cond]
  have w_ : u_.toBitVec.toNat = x_.toNat / 2 ^ k_ := v_
  have b_ : x_.toNat / 2 ^ k_ ≤ x_.toNat := Nat.div_le_self _ _
  rw [w_, if_pos (by omega), Int.natCast_ediv]
  have z_ : ((x_.toNat : Nat) : Int) = x_ := by omega
  rw [z_]
  norm_cast
theorem i_ushw {x_ e_ m_ : Int} {k_ : Nat} (he_ : e_ = (k_ : Int)) (hk_ : k_ < 32) (h_ : 0 ≤ x_ ∧ x_ ≤ 2147483647) (hm_ : (2 : Int) ^ k_ = m_) : i_ushr x_ e_ = x_ / m_ := by
  rw [he_, i_ushv hk_ h_, hm_]
theorem ntz_y {a_ : Int} (h_ : -2147483648 ≤ a_ ∧ a_ ≤ 2147483647) (hn_ : i_and (i_xor a_ (-1)) (i_sub a_ 1) < 0) : a_ = 0 := by
  by_cases z_ : a_ = 0
  · exact z_
  · exfalso
    by_cases p_ : a_ < 0
    · have x_ := i_and_x (x_ := i_xor a_ (-1)) (i_sub a_ 1) (by rw [xm1 h_]; omega)
      omega
    · have e_ : i_sub a_ 1 = a_ - 1 := by
        unfold i_sub
        have e1_ : (Int32.ofInt a_).toInt = a_ := Int32.toInt_ofInt_of_le (by omega) (by omega)
        have e2_ : (Int32.ofInt (1 : Int)).toInt = 1 := by decide
        rw [Int32.toInt_sub, e1_, e2_, Int.bmod_eq_of_le (by omega) (by omega)]
      have y_ := i_and_y (i_xor a_ (-1)) (y_ := i_sub a_ 1) (by omega)
      omega
theorem sm_T_acn {P_ : sm_P} {d_ mid_ pc_ a_ b_ v_ : Nat} {z_ : Int} {L_ : sm_L} {r_ : List sm_V} {S_ : sm_S} {Q_ : sm_R → Prop} {x_ y_ : Option (Nat × Nat)} (hx_ : P_.1 mid_ pc_ = some (20, 3, a_, b_, v_, z_)) (hk_ : (x_.all (fun q_ => decide (q_.1 < 14)) && y_.all (fun q_ => decide (q_.1 < 14))) = true) (kt_ : x_ = y_ → sm_T P_ d_ mid_ (pc_ + 3, L_, r_, S_) Q_) (kf_ : x_ ≠ y_ → sm_T P_ d_ mid_ (((pc_ : Int) + z_).toNat, L_, r_, S_) Q_) : sm_T P_ d_ mid_ (pc_, L_, .inr (.inr y_) :: .inr (.inr x_) :: r_, S_) Q_ := by
  by_cases e_ : x_ = y_
  · exact sm_T_stp hx_ (Nat.le_of_ble_eq_true rfl) (c1 := (pc_ + 3, L_, r_, S_)) (by simp only [sm_stp, hk_, if_true]; rw [if_pos e_]) (kt_ e_)
  · exact sm_T_stp hx_ (Nat.le_of_ble_eq_true rfl) (c1 := (((pc_ : Int) + z_).toNat, L_, r_, S_)) (by simp only [sm_stp, hk_, if_true]; rw [if_neg e_]) (kf_ e_)
def nl9 (x_ : Int) : Prop := -9223372036854775808 ≤ x_ ∧ x_ < 9223372036854775808
theorem nl9_i (x_ : Int64) : nl9 x_.toInt := ⟨Int64.le_toInt x_, Int64.toInt_lt x_⟩
/-! java/lang/Integer.numberOfTrailingZeros -/
def vw_10 : sx_Wl := ([], [], [])
def vq_10 (a0_ : Int) (S0_ : sm_S) (u_ : Option sm_V) (S1_ : sm_S) : Prop := S0_ = S1_ ∧ ∃ v_ : Int, u_ = some (.inl v_) ∧ ((0 ≤ v_ ∧ v_ ≤ 32) ∧ (a0_ ≠ 0 → v_ ≤ 31))
set_option maxHeartbeats 400000 in
theorem vc_10 {sc_ : Nat × (Nat → Int)} (a0_ : Int) (S0_ : sm_S) (hI_ : gi S0_) (h0_ : -2147483648 ≤ a0_ ∧ a0_ ≤ 2147483647) : sm_T (mt_P sc_) 0 10 (0, [some (.inl a0_), none], [], S0_) (fun ro9_ => ∃ u_ S1_, ro9_ = (.inl u_, S1_, 0) ∧ vq_10 a0_ S0_ u_ S1_) := by
  have hF_ : ai_fr (sx_W vw_10) S0_ S0_ := ai_fr_rf
  refine sm_T_go 2 (c1 := (2, [some (.inl a0_), none], [.inl (-1), .inl a0_], S0_)) rfl ?_
  refine sm_T_bin (w := (i_xor a0_ (-1))) rfl rfl ?_ -- pc_ 2
  refine sm_T_go 2 (c1 := (5, [some (.inl a0_), none], [.inl 1, .inl a0_, .inl (i_xor a0_ (-1))], S0_)) rfl ?_
  refine sm_T_bin (w := (i_sub a0_ 1)) rfl rfl ?_ -- pc_ 5
  have bx1_ := i_sub_r a0_ 1
  refine sm_T_bin (w := (i_and (i_xor a0_ (-1)) (i_sub a0_ 1))) rfl rfl ?_ -- pc_ 6
  have bx2_ := i_and_n (i_xor a0_ (-1)) (i_sub a0_ 1)
  have ny9_ := fun hn9_ => ntz_y h0_ hn9_
  refine sm_T_go 2 (c1 := (9, [some (.inl (i_and (i_xor a0_ (-1)) (i_sub a0_ 1))), none], [.inl (i_and (i_xor a0_ (-1)) (i_sub a0_ 1))], S0_)) rfl ?_
  refine sm_T_b0 (a := 4) (z := 8) rfl (fun cx4_ => ?_) (fun cx4_ => ?_)
  · have cx4_ : 0 < (i_and (i_xor a0_ (-1)) (i_sub a0_ 1)) := of_decide_eq_true cx4_
    refine sm_T_go 3 (c1 := (20, [some (.inl (i_and (i_xor a0_ (-1)) (i_sub a0_ 1))), some (.inl 1)], [.inl (i_and (i_xor a0_ (-1)) (i_sub a0_ 1))], S0_)) rfl ?_
    refine sm_T_nt (u := some (.inl 65536)) (S1 := S0_) rfl rfl rfl ?_
    refine sm_T_br (a := 5) (z := 11) rfl (fun cx5_ => ?_) (fun cx5_ => ?_)
    · have cx5_ : (i_and (i_xor a0_ (-1)) (i_sub a0_ 1)) ≤ 65536 := of_decide_eq_true cx5_
      refine sm_T_go 2 (c1 := (38, [some (.inl (i_and (i_xor a0_ (-1)) (i_sub a0_ 1))), some (.inl 1)], [.inl 256, .inl (i_and (i_xor a0_ (-1)) (i_sub a0_ 1))], S0_)) rfl ?_
      refine sm_T_br (a := 5) (z := 11) rfl (fun cx6_ => ?_) (fun cx6_ => ?_)
      · have cx6_ : (i_and (i_xor a0_ (-1)) (i_sub a0_ 1)) ≤ 256 := of_decide_eq_true cx6_
        refine sm_T_go 2 (c1 := (52, [some (.inl (i_and (i_xor a0_ (-1)) (i_sub a0_ 1))), some (.inl 1)], [.inl 16, .inl (i_and (i_xor a0_ (-1)) (i_sub a0_ 1))], S0_)) rfl ?_
        refine sm_T_br (a := 5) (z := 10) rfl (fun cx7_ => ?_) (fun cx7_ => ?_)
        · have cx7_ : (i_and (i_xor a0_ (-1)) (i_sub a0_ 1)) ≤ 16 := of_decide_eq_true cx7_
          refine sm_T_go 2 (c1 := (64, [some (.inl (i_and (i_xor a0_ (-1)) (i_sub a0_ 1))), some (.inl 1)], [.inl 4, .inl (i_and (i_xor a0_ (-1)) (i_sub a0_ 1))], S0_)) rfl ?_
          refine sm_T_br (a := 5) (z := 10) rfl (fun cx8_ => ?_) (fun cx8_ => ?_)
          · have cx8_ : (i_and (i_xor a0_ (-1)) (i_sub a0_ 1)) ≤ 4 := of_decide_eq_true cx8_
            refine sm_T_go 3 (c1 := (77, [some (.inl (i_and (i_xor a0_ (-1)) (i_sub a0_ 1))), some (.inl 1)], [.inl 1, .inl (i_and (i_xor a0_ (-1)) (i_sub a0_ 1)), .inl 1], S0_)) rfl ?_
            refine sm_T_bin (w := (i_ushr (i_and (i_xor a0_ (-1)) (i_sub a0_ 1)) 1)) rfl rfl ?_ -- pc_ 77
            have bx9_ := i_ushw (x_ := (i_and (i_xor a0_ (-1)) (i_sub a0_ 1))) (e_ := 1) (k_ := 1) (m_ := 2) (by decide) (by decide) (by omega) (by decide)
            refine sm_T_bin (w := (i_ushr (i_and (i_xor a0_ (-1)) (i_sub a0_ 1)) 1) + 1) rfl (bi_add (by omega) (by omega) (by omega)) ?_ -- pc_ 78
            refine sm_T_ri rfl ⟨_, _, rfl, rfl, _, rfl, ?_⟩
            refine ⟨by omega, fun _ => by omega⟩
          · have cx8_ : ¬ ((i_and (i_xor a0_ (-1)) (i_sub a0_ 1)) ≤ 4) := of_decide_eq_false cx8_
            refine sm_T_inc (a := 1) (z := 2) (v := 1) (w := 3) rfl rfl (by omega) (by omega) (by omega) ?_ -- pc_ 67
            refine sm_T_go 2 (c1 := (72, [some (.inl (i_and (i_xor a0_ (-1)) (i_sub a0_ 1))), some (.inl 3)], [.inl 2, .inl (i_and (i_xor a0_ (-1)) (i_sub a0_ 1))], S0_)) rfl ?_
            refine sm_T_bin (w := (i_ushr (i_and (i_xor a0_ (-1)) (i_sub a0_ 1)) 2)) rfl rfl ?_ -- pc_ 72
            have bx10_ := i_ushw (x_ := (i_and (i_xor a0_ (-1)) (i_sub a0_ 1))) (e_ := 2) (k_ := 2) (m_ := 4) (by decide) (by decide) (by omega) (by decide)
            refine sm_T_go 4 (c1 := (77, [some (.inl (i_ushr (i_and (i_xor a0_ (-1)) (i_sub a0_ 1)) 2)), some (.inl 3)], [.inl 1, .inl (i_ushr (i_and (i_xor a0_ (-1)) (i_sub a0_ 1)) 2), .inl 3], S0_)) rfl ?_
            refine sm_T_bin (w := (i_ushr (i_ushr (i_and (i_xor a0_ (-1)) (i_sub a0_ 1)) 2) 1)) rfl rfl ?_ -- pc_ 77
            have bx11_ := i_ushw (x_ := (i_ushr (i_and (i_xor a0_ (-1)) (i_sub a0_ 1)) 2)) (e_ := 1) (k_ := 1) (m_ := 2) (by decide) (by decide) (by omega) (by decide)
            refine sm_T_bin (w := (i_ushr (i_ushr (i_and (i_xor a0_ (-1)) (i_sub a0_ 1)) 2) 1) + 3) rfl (bi_add (by omega) (by omega) (by omega)) ?_ -- pc_ 78
            refine sm_T_ri rfl ⟨_, _, rfl, rfl, _, rfl, ?_⟩
            refine ⟨by omega, fun _ => by omega⟩
        · have cx7_ : ¬ ((i_and (i_xor a0_ (-1)) (i_sub a0_ 1)) ≤ 16) := of_decide_eq_false cx7_
          refine sm_T_inc (a := 1) (z := 4) (v := 1) (w := 5) rfl rfl (by omega) (by omega) (by omega) ?_ -- pc_ 55
          refine sm_T_go 2 (c1 := (60, [some (.inl (i_and (i_xor a0_ (-1)) (i_sub a0_ 1))), some (.inl 5)], [.inl 4, .inl (i_and (i_xor a0_ (-1)) (i_sub a0_ 1))], S0_)) rfl ?_
          refine sm_T_bin (w := (i_ushr (i_and (i_xor a0_ (-1)) (i_sub a0_ 1)) 4)) rfl rfl ?_ -- pc_ 60
          have bx12_ := i_ushw (x_ := (i_and (i_xor a0_ (-1)) (i_sub a0_ 1))) (e_ := 4) (k_ := 4) (m_ := 16) (by decide) (by decide) (by omega) (by decide)
          refine sm_T_go 3 (c1 := (64, [some (.inl (i_ushr (i_and (i_xor a0_ (-1)) (i_sub a0_ 1)) 4)), some (.inl 5)], [.inl 4, .inl (i_ushr (i_and (i_xor a0_ (-1)) (i_sub a0_ 1)) 4)], S0_)) rfl ?_
          refine sm_T_br (a := 5) (z := 10) rfl (fun cx13_ => ?_) (fun cx13_ => ?_)
          · have cx13_ : (i_ushr (i_and (i_xor a0_ (-1)) (i_sub a0_ 1)) 4) ≤ 4 := of_decide_eq_true cx13_
            refine sm_T_go 3 (c1 := (77, [some (.inl (i_ushr (i_and (i_xor a0_ (-1)) (i_sub a0_ 1)) 4)), some (.inl 5)], [.inl 1, .inl (i_ushr (i_and (i_xor a0_ (-1)) (i_sub a0_ 1)) 4), .inl 5], S0_)) rfl ?_
            refine sm_T_bin (w := (i_ushr (i_ushr (i_and (i_xor a0_ (-1)) (i_sub a0_ 1)) 4) 1)) rfl rfl ?_ -- pc_ 77
            have bx14_ := i_ushw (x_ := (i_ushr (i_and (i_xor a0_ (-1)) (i_sub a0_ 1)) 4)) (e_ := 1) (k_ := 1) (m_ := 2) (by decide) (by decide) (by omega) (by decide)
            refine sm_T_bin (w := (i_ushr (i_ushr (i_and (i_xor a0_ (-1)) (i_sub a0_ 1)) 4) 1) + 5) rfl (bi_add (by omega) (by omega) (by omega)) ?_ -- pc_ 78
            refine sm_T_ri rfl ⟨_, _, rfl, rfl, _, rfl, ?_⟩
            refine ⟨by omega, fun _ => by omega⟩
          · have cx13_ : ¬ ((i_ushr (i_and (i_xor a0_ (-1)) (i_sub a0_ 1)) 4) ≤ 4) := of_decide_eq_false cx13_
            refine sm_T_inc (a := 1) (z := 2) (v := 5) (w := 7) rfl rfl (by omega) (by omega) (by omega) ?_ -- pc_ 67
            refine sm_T_go 2 (c1 := (72, [some (.inl (i_ushr (i_and (i_xor a0_ (-1)) (i_sub a0_ 1)) 4)), some (.inl 7)], [.inl 2, .inl (i_ushr (i_and (i_xor a0_ (-1)) (i_sub a0_ 1)) 4)], S0_)) rfl ?_
            refine sm_T_bin (w := (i_ushr (i_ushr (i_and (i_xor a0_ (-1)) (i_sub a0_ 1)) 4) 2)) rfl rfl ?_ -- pc_ 72
            have bx15_ := i_ushw (x_ := (i_ushr (i_and (i_xor a0_ (-1)) (i_sub a0_ 1)) 4)) (e_ := 2) (k_ := 2) (m_ := 4) (by decide) (by decide) (by omega) (by decide)
            refine sm_T_go 4 (c1 := (77, [some (.inl (i_ushr (i_ushr (i_and (i_xor a0_ (-1)) (i_sub a0_ 1)) 4) 2)), some (.inl 7)], [.inl 1, .inl (i_ushr (i_ushr (i_and (i_xor a0_ (-1)) (i_sub a0_ 1)) 4) 2), .inl 7], S0_)) rfl ?_
            refine sm_T_bin (w := (i_ushr (i_ushr (i_ushr (i_and (i_xor a0_ (-1)) (i_sub a0_ 1)) 4) 2) 1)) rfl rfl ?_ -- pc_ 77
            have bx16_ := i_ushw (x_ := (i_ushr (i_ushr (i_and (i_xor a0_ (-1)) (i_sub a0_ 1)) 4) 2)) (e_ := 1) (k_ := 1) (m_ := 2) (by decide) (by decide) (by omega) (by decide)
            refine sm_T_bin (w := (i_ushr (i_ushr (i_ushr (i_and (i_xor a0_ (-1)) (i_sub a0_ 1)) 4) 2) 1) + 7) rfl (bi_add (by omega) (by omega) (by omega)) ?_ -- pc_ 78
            refine sm_T_ri rfl ⟨_, _, rfl, rfl, _, rfl, ?_⟩
            refine ⟨by omega, fun _ => by omega⟩
      · have cx6_ : ¬ ((i_and (i_xor a0_ (-1)) (i_sub a0_ 1)) ≤ 256) := of_decide_eq_false cx6_
        refine sm_T_inc (a := 1) (z := 8) (v := 1) (w := 9) rfl rfl (by omega) (by omega) (by omega) ?_ -- pc_ 41
        refine sm_T_go 2 (c1 := (47, [some (.inl (i_and (i_xor a0_ (-1)) (i_sub a0_ 1))), some (.inl 9)], [.inl 8, .inl (i_and (i_xor a0_ (-1)) (i_sub a0_ 1))], S0_)) rfl ?_
        refine sm_T_bin (w := (i_ushr (i_and (i_xor a0_ (-1)) (i_sub a0_ 1)) 8)) rfl rfl ?_ -- pc_ 47
        have bx17_ := i_ushw (x_ := (i_and (i_xor a0_ (-1)) (i_sub a0_ 1))) (e_ := 8) (k_ := 8) (m_ := 256) (by decide) (by decide) (by omega) (by decide)
        refine sm_T_go 3 (c1 := (52, [some (.inl (i_ushr (i_and (i_xor a0_ (-1)) (i_sub a0_ 1)) 8)), some (.inl 9)], [.inl 16, .inl (i_ushr (i_and (i_xor a0_ (-1)) (i_sub a0_ 1)) 8)], S0_)) rfl ?_
        refine sm_T_br (a := 5) (z := 10) rfl (fun cx18_ => ?_) (fun cx18_ => ?_)
        · have cx18_ : (i_ushr (i_and (i_xor a0_ (-1)) (i_sub a0_ 1)) 8) ≤ 16 := of_decide_eq_true cx18_
          refine sm_T_go 2 (c1 := (64, [some (.inl (i_ushr (i_and (i_xor a0_ (-1)) (i_sub a0_ 1)) 8)), some (.inl 9)], [.inl 4, .inl (i_ushr (i_and (i_xor a0_ (-1)) (i_sub a0_ 1)) 8)], S0_)) rfl ?_
          refine sm_T_br (a := 5) (z := 10) rfl (fun cx19_ => ?_) (fun cx19_ => ?_)
          · have cx19_ : (i_ushr (i_and (i_xor a0_ (-1)) (i_sub a0_ 1)) 8) ≤ 4 := of_decide_eq_true cx19_
            refine sm_T_go 3 (c1 := (77, [some (.inl (i_ushr (i_and (i_xor a0_ (-1)) (i_sub a0_ 1)) 8)), some (.inl 9)], [.inl 1, .inl (i_ushr (i_and (i_xor a0_ (-1)) (i_sub a0_ 1)) 8), .inl 9], S0_)) rfl ?_
            refine sm_T_bin (w := (i_ushr (i_ushr (i_and (i_xor a0_ (-1)) (i_sub a0_ 1)) 8) 1)) rfl rfl ?_ -- pc_ 77
            have bx20_ := i_ushw (x_ := (i_ushr (i_and (i_xor a0_ (-1)) (i_sub a0_ 1)) 8)) (e_ := 1) (k_ := 1) (m_ := 2) (by decide) (by decide) (by omega) (by decide)
            refine sm_T_bin (w := (i_ushr (i_ushr (i_and (i_xor a0_ (-1)) (i_sub a0_ 1)) 8) 1) + 9) rfl (bi_add (by omega) (by omega) (by omega)) ?_ -- pc_ 78
            refine sm_T_ri rfl ⟨_, _, rfl, rfl, _, rfl, ?_⟩
            refine ⟨by omega, fun _ => by omega⟩
          · have cx19_ : ¬ ((i_ushr (i_and (i_xor a0_ (-1)) (i_sub a0_ 1)) 8) ≤ 4) := of_decide_eq_false cx19_
            refine sm_T_inc (a := 1) (z := 2) (v := 9) (w := 11) rfl rfl (by omega) (by omega) (by omega) ?_ -- pc_ 67
            refine sm_T_go 2 (c1 := (72, [some (.inl (i_ushr (i_and (i_xor a0_ (-1)) (i_sub a0_ 1)) 8)), some (.inl 11)], [.inl 2, .inl (i_ushr (i_and (i_xor a0_ (-1)) (i_sub a0_ 1)) 8)], S0_)) rfl ?_
            refine sm_T_bin (w := (i_ushr (i_ushr (i_and (i_xor a0_ (-1)) (i_sub a0_ 1)) 8) 2)) rfl rfl ?_ -- pc_ 72
            have bx21_ := i_ushw (x_ := (i_ushr (i_and (i_xor a0_ (-1)) (i_sub a0_ 1)) 8)) (e_ := 2) (k_ := 2) (m_ := 4) (by decide) (by decide) (by omega) (by decide)
            refine sm_T_go 4 (c1 := (77, [some (.inl (i_ushr (i_ushr (i_and (i_xor a0_ (-1)) (i_sub a0_ 1)) 8) 2)), some (.inl 11)], [.inl 1, .inl (i_ushr (i_ushr (i_and (i_xor a0_ (-1)) (i_sub a0_ 1)) 8) 2), .inl 11], S0_)) rfl ?_
            refine sm_T_bin (w := (i_ushr (i_ushr (i_ushr (i_and (i_xor a0_ (-1)) (i_sub a0_ 1)) 8) 2) 1)) rfl rfl ?_ -- pc_ 77
            have bx22_ := i_ushw (x_ := (i_ushr (i_ushr (i_and (i_xor a0_ (-1)) (i_sub a0_ 1)) 8) 2)) (e_ := 1) (k_ := 1) (m_ := 2) (by decide) (by decide) (by omega) (by decide)
            refine sm_T_bin (w := (i_ushr (i_ushr (i_ushr (i_and (i_xor a0_ (-1)) (i_sub a0_ 1)) 8) 2) 1) + 11) rfl (bi_add (by omega) (by omega) (by omega)) ?_ -- pc_ 78
            refine sm_T_ri rfl ⟨_, _, rfl, rfl, _, rfl, ?_⟩
            refine ⟨by omega, fun _ => by omega⟩
        · have cx18_ : ¬ ((i_ushr (i_and (i_xor a0_ (-1)) (i_sub a0_ 1)) 8) ≤ 16) := of_decide_eq_false cx18_
          refine sm_T_inc (a := 1) (z := 4) (v := 9) (w := 13) rfl rfl (by omega) (by omega) (by omega) ?_ -- pc_ 55
          refine sm_T_go 2 (c1 := (60, [some (.inl (i_ushr (i_and (i_xor a0_ (-1)) (i_sub a0_ 1)) 8)), some (.inl 13)], [.inl 4, .inl (i_ushr (i_and (i_xor a0_ (-1)) (i_sub a0_ 1)) 8)], S0_)) rfl ?_
          refine sm_T_bin (w := (i_ushr (i_ushr (i_and (i_xor a0_ (-1)) (i_sub a0_ 1)) 8) 4)) rfl rfl ?_ -- pc_ 60
          have bx23_ := i_ushw (x_ := (i_ushr (i_and (i_xor a0_ (-1)) (i_sub a0_ 1)) 8)) (e_ := 4) (k_ := 4) (m_ := 16) (by decide) (by decide) (by omega) (by decide)
          refine sm_T_go 3 (c1 := (64, [some (.inl (i_ushr (i_ushr (i_and (i_xor a0_ (-1)) (i_sub a0_ 1)) 8) 4)), some (.inl 13)], [.inl 4, .inl (i_ushr (i_ushr (i_and (i_xor a0_ (-1)) (i_sub a0_ 1)) 8) 4)], S0_)) rfl ?_
          refine sm_T_br (a := 5) (z := 10) rfl (fun cx24_ => ?_) (fun cx24_ => ?_)
          · have cx24_ : (i_ushr (i_ushr (i_and (i_xor a0_ (-1)) (i_sub a0_ 1)) 8) 4) ≤ 4 := of_decide_eq_true cx24_
            refine sm_T_go 3 (c1 := (77, [some (.inl (i_ushr (i_ushr (i_and (i_xor a0_ (-1)) (i_sub a0_ 1)) 8) 4)), some (.inl 13)], [.inl 1, .inl (i_ushr (i_ushr (i_and (i_xor a0_ (-1)) (i_sub a0_ 1)) 8) 4), .inl 13], S0_)) rfl ?_
            refine sm_T_bin (w := (i_ushr (i_ushr (i_ushr (i_and (i_xor a0_ (-1)) (i_sub a0_ 1)) 8) 4) 1)) rfl rfl ?_ -- pc_ 77
            have bx25_ := i_ushw (x_ := (i_ushr (i_ushr (i_and (i_xor a0_ (-1)) (i_sub a0_ 1)) 8) 4)) (e_ := 1) (k_ := 1) (m_ := 2) (by decide) (by decide) (by omega) (by decide)
            refine sm_T_bin (w := (i_ushr (i_ushr (i_ushr (i_and (i_xor a0_ (-1)) (i_sub a0_ 1)) 8) 4) 1) + 13) rfl (bi_add (by omega) (by omega) (by omega)) ?_ -- pc_ 78
            refine sm_T_ri rfl ⟨_, _, rfl, rfl, _, rfl, ?_⟩
            refine ⟨by omega, fun _ => by omega⟩
          · have cx24_ : ¬ ((i_ushr (i_ushr (i_and (i_xor a0_ (-1)) (i_sub a0_ 1)) 8) 4) ≤ 4) := of_decide_eq_false cx24_
            refine sm_T_inc (a := 1) (z := 2) (v := 13) (w := 15) rfl rfl (by omega) (by omega) (by omega) ?_ -- pc_ 67
            refine sm_T_go 2 (c1 := (72, [some (.inl (i_ushr (i_ushr (i_and (i_xor a0_ (-1)) (i_sub a0_ 1)) 8) 4)), some (.inl 15)], [.inl 2, .inl (i_ushr (i_ushr (i_and (i_xor a0_ (-1)) (i_sub a0_ 1)) 8) 4)], S0_)) rfl ?_
            refine sm_T_bin (w := (i_ushr (i_ushr (i_ushr (i_and (i_xor a0_ (-1)) (i_sub a0_ 1)) 8) 4) 2)) rfl rfl ?_ -- pc_ 72
            have bx26_ := i_ushw (x_ := (i_ushr (i_ushr (i_and (i_xor a0_ (-1)) (i_sub a0_ 1)) 8) 4)) (e_ := 2) (k_ := 2) (m_ := 4) (by decide) (by decide) (by omega) (by decide)
            refine sm_T_go 4 (c1 := (77, [some (.inl (i_ushr (i_ushr (i_ushr (i_and (i_xor a0_ (-1)) (i_sub a0_ 1)) 8) 4) 2)), some (.inl 15)], [.inl 1, .inl (i_ushr (i_ushr (i_ushr (i_and (i_xor a0_ (-1)) (i_sub a0_ 1)) 8) 4) 2), .inl 15], S0_)) rfl ?_
            refine sm_T_bin (w := (i_ushr (i_ushr (i_ushr (i_ushr (i_and (i_xor a0_ (-1)) (i_sub a0_ 1)) 8) 4) 2) 1)) rfl rfl ?_ -- pc_ 77
            have bx27_ := i_ushw (x_ := (i_ushr (i_ushr (i_ushr (i_and (i_xor a0_ (-1)) (i_sub a0_ 1)) 8) 4) 2)) (e_ := 1) (k_ := 1) (m_ := 2) (by decide) (by decide) (by omega) (by decide)
            refine sm_T_bin (w := (i_ushr (i_ushr (i_ushr (i_ushr (i_and (i_xor a0_ (-1)) (i_sub a0_ 1)) 8) 4) 2) 1) + 15) rfl (bi_add (by omega) (by omega) (by omega)) ?_ -- pc_ 78
            refine sm_T_ri rfl ⟨_, _, rfl, rfl, _, rfl, ?_⟩
            refine ⟨by omega, fun _ => by omega⟩
    · have cx5_ : ¬ ((i_and (i_xor a0_ (-1)) (i_sub a0_ 1)) ≤ 65536) := of_decide_eq_false cx5_
      refine sm_T_inc (a := 1) (z := 16) (v := 1) (w := 17) rfl rfl (by omega) (by omega) (by omega) ?_ -- pc_ 26
      refine sm_T_go 2 (c1 := (32, [some (.inl (i_and (i_xor a0_ (-1)) (i_sub a0_ 1))), some (.inl 17)], [.inl 16, .inl (i_and (i_xor a0_ (-1)) (i_sub a0_ 1))], S0_)) rfl ?_
      refine sm_T_bin (w := (i_ushr (i_and (i_xor a0_ (-1)) (i_sub a0_ 1)) 16)) rfl rfl ?_ -- pc_ 32
      have bx28_ := i_ushw (x_ := (i_and (i_xor a0_ (-1)) (i_sub a0_ 1))) (e_ := 16) (k_ := 16) (m_ := 65536) (by decide) (by decide) (by omega) (by decide)
      refine sm_T_go 3 (c1 := (38, [some (.inl (i_ushr (i_and (i_xor a0_ (-1)) (i_sub a0_ 1)) 16)), some (.inl 17)], [.inl 256, .inl (i_ushr (i_and (i_xor a0_ (-1)) (i_sub a0_ 1)) 16)], S0_)) rfl ?_
      refine sm_T_br (a := 5) (z := 11) rfl (fun cx29_ => ?_) (fun cx29_ => ?_)
      · have cx29_ : (i_ushr (i_and (i_xor a0_ (-1)) (i_sub a0_ 1)) 16) ≤ 256 := of_decide_eq_true cx29_
        refine sm_T_go 2 (c1 := (52, [some (.inl (i_ushr (i_and (i_xor a0_ (-1)) (i_sub a0_ 1)) 16)), some (.inl 17)], [.inl 16, .inl (i_ushr (i_and (i_xor a0_ (-1)) (i_sub a0_ 1)) 16)], S0_)) rfl ?_
        refine sm_T_br (a := 5) (z := 10) rfl (fun cx30_ => ?_) (fun cx30_ => ?_)
        · have cx30_ : (i_ushr (i_and (i_xor a0_ (-1)) (i_sub a0_ 1)) 16) ≤ 16 := of_decide_eq_true cx30_
          refine sm_T_go 2 (c1 := (64, [some (.inl (i_ushr (i_and (i_xor a0_ (-1)) (i_sub a0_ 1)) 16)), some (.inl 17)], [.inl 4, .inl (i_ushr (i_and (i_xor a0_ (-1)) (i_sub a0_ 1)) 16)], S0_)) rfl ?_
          refine sm_T_br (a := 5) (z := 10) rfl (fun cx31_ => ?_) (fun cx31_ => ?_)
          · have cx31_ : (i_ushr (i_and (i_xor a0_ (-1)) (i_sub a0_ 1)) 16) ≤ 4 := of_decide_eq_true cx31_
            refine sm_T_go 3 (c1 := (77, [some (.inl (i_ushr (i_and (i_xor a0_ (-1)) (i_sub a0_ 1)) 16)), some (.inl 17)], [.inl 1, .inl (i_ushr (i_and (i_xor a0_ (-1)) (i_sub a0_ 1)) 16), .inl 17], S0_)) rfl ?_
            refine sm_T_bin (w := (i_ushr (i_ushr (i_and (i_xor a0_ (-1)) (i_sub a0_ 1)) 16) 1)) rfl rfl ?_ -- pc_ 77
            have bx32_ := i_ushw (x_ := (i_ushr (i_and (i_xor a0_ (-1)) (i_sub a0_ 1)) 16)) (e_ := 1) (k_ := 1) (m_ := 2) (by decide) (by decide) (by omega) (by decide)
            refine sm_T_bin (w := (i_ushr (i_ushr (i_and (i_xor a0_ (-1)) (i_sub a0_ 1)) 16) 1) + 17) rfl (bi_add (by omega) (by omega) (by omega)) ?_ -- pc_ 78
            refine sm_T_ri rfl ⟨_, _, rfl, rfl, _, rfl, ?_⟩
            refine ⟨by omega, fun _ => by omega⟩
          · have cx31_ : ¬ ((i_ushr (i_and (i_xor a0_ (-1)) (i_sub a0_ 1)) 16) ≤ 4) := of_decide_eq_false cx31_
            refine sm_T_inc (a := 1) (z := 2) (v := 17) (w := 19) rfl rfl (by omega) (by omega) (by omega) ?_ -- pc_ 67
            refine sm_T_go 2 (c1 := (72, [some (.inl (i_ushr (i_and (i_xor a0_ (-1)) (i_sub a0_ 1)) 16)), some (.inl 19)], [.inl 2, .inl (i_ushr (i_and (i_xor a0_ (-1)) (i_sub a0_ 1)) 16)], S0_)) rfl ?_
            refine sm_T_bin (w := (i_ushr (i_ushr (i_and (i_xor a0_ (-1)) (i_sub a0_ 1)) 16) 2)) rfl rfl ?_ -- pc_ 72
            have bx33_ := i_ushw (x_ := (i_ushr (i_and (i_xor a0_ (-1)) (i_sub a0_ 1)) 16)) (e_ := 2) (k_ := 2) (m_ := 4) (by decide) (by decide) (by omega) (by decide)
            refine sm_T_go 4 (c1 := (77, [some (.inl (i_ushr (i_ushr (i_and (i_xor a0_ (-1)) (i_sub a0_ 1)) 16) 2)), some (.inl 19)], [.inl 1, .inl (i_ushr (i_ushr (i_and (i_xor a0_ (-1)) (i_sub a0_ 1)) 16) 2), .inl 19], S0_)) rfl ?_
            refine sm_T_bin (w := (i_ushr (i_ushr (i_ushr (i_and (i_xor a0_ (-1)) (i_sub a0_ 1)) 16) 2) 1)) rfl rfl ?_ -- pc_ 77
            have bx34_ := i_ushw (x_ := (i_ushr (i_ushr (i_and (i_xor a0_ (-1)) (i_sub a0_ 1)) 16) 2)) (e_ := 1) (k_ := 1) (m_ := 2) (by decide) (by decide) (by omega) (by decide)
            refine sm_T_bin (w := (i_ushr (i_ushr (i_ushr (i_and (i_xor a0_ (-1)) (i_sub a0_ 1)) 16) 2) 1) + 19) rfl (bi_add (by omega) (by omega) (by omega)) ?_ -- pc_ 78
            refine sm_T_ri rfl ⟨_, _, rfl, rfl, _, rfl, ?_⟩
            refine ⟨by omega, fun _ => by omega⟩
        · have cx30_ : ¬ ((i_ushr (i_and (i_xor a0_ (-1)) (i_sub a0_ 1)) 16) ≤ 16) := of_decide_eq_false cx30_
          refine sm_T_inc (a := 1) (z := 4) (v := 17) (w := 21) rfl rfl (by omega) (by omega) (by omega) ?_ -- pc_ 55
          refine sm_T_go 2 (c1 := (60, [some (.inl (i_ushr (i_and (i_xor a0_ (-1)) (i_sub a0_ 1)) 16)), some (.inl 21)], [.inl 4, .inl (i_ushr (i_and (i_xor a0_ (-1)) (i_sub a0_ 1)) 16)], S0_)) rfl ?_
          refine sm_T_bin (w := (i_ushr (i_ushr (i_and (i_xor a0_ (-1)) (i_sub a0_ 1)) 16) 4)) rfl rfl ?_ -- pc_ 60
          have bx35_ := i_ushw (x_ := (i_ushr (i_and (i_xor a0_ (-1)) (i_sub a0_ 1)) 16)) (e_ := 4) (k_ := 4) (m_ := 16) (by decide) (by decide) (by omega) (by decide)
          refine sm_T_go 3 (c1 := (64, [some (.inl (i_ushr (i_ushr (i_and (i_xor a0_ (-1)) (i_sub a0_ 1)) 16) 4)), some (.inl 21)], [.inl 4, .inl (i_ushr (i_ushr (i_and (i_xor a0_ (-1)) (i_sub a0_ 1)) 16) 4)], S0_)) rfl ?_
          refine sm_T_br (a := 5) (z := 10) rfl (fun cx36_ => ?_) (fun cx36_ => ?_)
          · have cx36_ : (i_ushr (i_ushr (i_and (i_xor a0_ (-1)) (i_sub a0_ 1)) 16) 4) ≤ 4 := of_decide_eq_true cx36_
            refine sm_T_go 3 (c1 := (77, [some (.inl (i_ushr (i_ushr (i_and (i_xor a0_ (-1)) (i_sub a0_ 1)) 16) 4)), some (.inl 21)], [.inl 1, .inl (i_ushr (i_ushr (i_and (i_xor a0_ (-1)) (i_sub a0_ 1)) 16) 4), .inl 21], S0_)) rfl ?_
            refine sm_T_bin (w := (i_ushr (i_ushr (i_ushr (i_and (i_xor a0_ (-1)) (i_sub a0_ 1)) 16) 4) 1)) rfl rfl ?_ -- pc_ 77
            have bx37_ := i_ushw (x_ := (i_ushr (i_ushr (i_and (i_xor a0_ (-1)) (i_sub a0_ 1)) 16) 4)) (e_ := 1) (k_ := 1) (m_ := 2) (by decide) (by decide) (by omega) (by decide)
            refine sm_T_bin (w := (i_ushr (i_ushr (i_ushr (i_and (i_xor a0_ (-1)) (i_sub a0_ 1)) 16) 4) 1) + 21) rfl (bi_add (by omega) (by omega) (by omega)) ?_ -- pc_ 78
            refine sm_T_ri rfl ⟨_, _, rfl, rfl, _, rfl, ?_⟩
            refine ⟨by omega, fun _ => by omega⟩
          · have cx36_ : ¬ ((i_ushr (i_ushr (i_and (i_xor a0_ (-1)) (i_sub a0_ 1)) 16) 4) ≤ 4) := of_decide_eq_false cx36_
            refine sm_T_inc (a := 1) (z := 2) (v := 21) (w := 23) rfl rfl (by omega) (by omega) (by omega) ?_ -- pc_ 67
            refine sm_T_go 2 (c1 := (72, [some (.inl (i_ushr (i_ushr (i_and (i_xor a0_ (-1)) (i_sub a0_ 1)) 16) 4)), some (.inl 23)], [.inl 2, .inl (i_ushr (i_ushr (i_and (i_xor a0_ (-1)) (i_sub a0_ 1)) 16) 4)], S0_)) rfl ?_
            refine sm_T_bin (w := (i_ushr (i_ushr (i_ushr (i_and (i_xor a0_ (-1)) (i_sub a0_ 1)) 16) 4) 2)) rfl rfl ?_ -- pc_ 72
            have bx38_ := i_ushw (x_ := (i_ushr (i_ushr (i_and (i_xor a0_ (-1)) (i_sub a0_ 1)) 16) 4)) (e_ := 2) (k_ := 2) (m_ := 4) (by decide) (by decide) (by omega) (by decide)
            refine sm_T_go 4 (c1 := (77, [some (.inl (i_ushr (i_ushr (i_ushr (i_and (i_xor a0_ (-1)) (i_sub a0_ 1)) 16) 4) 2)), some (.inl 23)], [.inl 1, .inl (i_ushr (i_ushr (i_ushr (i_and (i_xor a0_ (-1)) (i_sub a0_ 1)) 16) 4) 2), .inl 23], S0_)) rfl ?_
            refine sm_T_bin (w := (i_ushr (i_ushr (i_ushr (i_ushr (i_and (i_xor a0_ (-1)) (i_sub a0_ 1)) 16) 4) 2) 1)) rfl rfl ?_ -- pc_ 77
            have bx39_ := i_ushw (x_ := (i_ushr (i_ushr (i_ushr (i_and (i_xor a0_ (-1)) (i_sub a0_ 1)) 16) 4) 2)) (e_ := 1) (k_ := 1) (m_ := 2) (by decide) (by decide) (by omega) (by decide)
            refine sm_T_bin (w := (i_ushr (i_ushr (i_ushr (i_ushr (i_and (i_xor a0_ (-1)) (i_sub a0_ 1)) 16) 4) 2) 1) + 23) rfl (bi_add (by omega) (by omega) (by omega)) ?_ -- pc_ 78
            refine sm_T_ri rfl ⟨_, _, rfl, rfl, _, rfl, ?_⟩
            refine ⟨by omega, fun _ => by omega⟩
      · have cx29_ : ¬ ((i_ushr (i_and (i_xor a0_ (-1)) (i_sub a0_ 1)) 16) ≤ 256) := of_decide_eq_false cx29_
        refine sm_T_inc (a := 1) (z := 8) (v := 17) (w := 25) rfl rfl (by omega) (by omega) (by omega) ?_ -- pc_ 41
        refine sm_T_go 2 (c1 := (47, [some (.inl (i_ushr (i_and (i_xor a0_ (-1)) (i_sub a0_ 1)) 16)), some (.inl 25)], [.inl 8, .inl (i_ushr (i_and (i_xor a0_ (-1)) (i_sub a0_ 1)) 16)], S0_)) rfl ?_
        refine sm_T_bin (w := (i_ushr (i_ushr (i_and (i_xor a0_ (-1)) (i_sub a0_ 1)) 16) 8)) rfl rfl ?_ -- pc_ 47
        have bx40_ := i_ushw (x_ := (i_ushr (i_and (i_xor a0_ (-1)) (i_sub a0_ 1)) 16)) (e_ := 8) (k_ := 8) (m_ := 256) (by decide) (by decide) (by omega) (by decide)
        refine sm_T_go 3 (c1 := (52, [some (.inl (i_ushr (i_ushr (i_and (i_xor a0_ (-1)) (i_sub a0_ 1)) 16) 8)), some (.inl 25)], [.inl 16, .inl (i_ushr (i_ushr (i_and (i_xor a0_ (-1)) (i_sub a0_ 1)) 16) 8)], S0_)) rfl ?_
        refine sm_T_br (a := 5) (z := 10) rfl (fun cx41_ => ?_) (fun cx41_ => ?_)
        · have cx41_ : (i_ushr (i_ushr (i_and (i_xor a0_ (-1)) (i_sub a0_ 1)) 16) 8) ≤ 16 := of_decide_eq_true cx41_
          refine sm_T_go 2 (c1 := (64, [some (.inl (i_ushr (i_ushr (i_and (i_xor a0_ (-1)) (i_sub a0_ 1)) 16) 8)), some (.inl 25)], [.inl 4, .inl (i_ushr (i_ushr (i_and (i_xor a0_ (-1)) (i_sub a0_ 1)) 16) 8)], S0_)) rfl ?_
          refine sm_T_br (a := 5) (z := 10) rfl (fun cx42_ => ?_) (fun cx42_ => ?_)
          · have cx42_ : (i_ushr (i_ushr (i_and (i_xor a0_ (-1)) (i_sub a0_ 1)) 16) 8) ≤ 4 := of_decide_eq_true cx42_
            refine sm_T_go 3 (c1 := (77, [some (.inl (i_ushr (i_ushr (i_and (i_xor a0_ (-1)) (i_sub a0_ 1)) 16) 8)), some (.inl 25)], [.inl 1, .inl (i_ushr (i_ushr (i_and (i_xor a0_ (-1)) (i_sub a0_ 1)) 16) 8), .inl 25], S0_)) rfl ?_
            refine sm_T_bin (w := (i_ushr (i_ushr (i_ushr (i_and (i_xor a0_ (-1)) (i_sub a0_ 1)) 16) 8) 1)) rfl rfl ?_ -- pc_ 77
            have bx43_ := i_ushw (x_ := (i_ushr (i_ushr (i_and (i_xor a0_ (-1)) (i_sub a0_ 1)) 16) 8)) (e_ := 1) (k_ := 1) (m_ := 2) (by decide) (by decide) (by omega) (by decide)
            refine sm_T_bin (w := (i_ushr (i_ushr (i_ushr (i_and (i_xor a0_ (-1)) (i_sub a0_ 1)) 16) 8) 1) + 25) rfl (bi_add (by omega) (by omega) (by omega)) ?_ -- pc_ 78
            refine sm_T_ri rfl ⟨_, _, rfl, rfl, _, rfl, ?_⟩
            refine ⟨by omega, fun _ => by omega⟩
          · have cx42_ : ¬ ((i_ushr (i_ushr (i_and (i_xor a0_ (-1)) (i_sub a0_ 1)) 16) 8) ≤ 4) := of_decide_eq_false cx42_
            refine sm_T_inc (a := 1) (z := 2) (v := 25) (w := 27) rfl rfl (by omega) (by omega) (by omega) ?_ -- pc_ 67
            refine sm_T_go 2 (c1 := (72, [some (.inl (i_ushr (i_ushr (i_and (i_xor a0_ (-1)) (i_sub a0_ 1)) 16) 8)), some (.inl 27)], [.inl 2, .inl (i_ushr (i_ushr (i_and (i_xor a0_ (-1)) (i_sub a0_ 1)) 16) 8)], S0_)) rfl ?_
            refine sm_T_bin (w := (i_ushr (i_ushr (i_ushr (i_and (i_xor a0_ (-1)) (i_sub a0_ 1)) 16) 8) 2)) rfl rfl ?_ -- pc_ 72
            have bx44_ := i_ushw (x_ := (i_ushr (i_ushr (i_and (i_xor a0_ (-1)) (i_sub a0_ 1)) 16) 8)) (e_ := 2) (k_ := 2) (m_ := 4) (by decide) (by decide) (by omega) (by decide)
            refine sm_T_go 4 (c1 := (77, [some (.inl (i_ushr (i_ushr (i_ushr (i_and (i_xor a0_ (-1)) (i_sub a0_ 1)) 16) 8) 2)), some (.inl 27)], [.inl 1, .inl (i_ushr (i_ushr (i_ushr (i_and (i_xor a0_ (-1)) (i_sub a0_ 1)) 16) 8) 2), .inl 27], S0_)) rfl ?_
            refine sm_T_bin (w := (i_ushr (i_ushr (i_ushr (i_ushr (i_and (i_xor a0_ (-1)) (i_sub a0_ 1)) 16) 8) 2) 1)) rfl rfl ?_ -- pc_ 77
            have bx45_ := i_ushw (x_ := (i_ushr (i_ushr (i_ushr (i_and (i_xor a0_ (-1)) (i_sub a0_ 1)) 16) 8) 2)) (e_ := 1) (k_ := 1) (m_ := 2) (by decide) (by decide) (by omega) (by decide)
            refine sm_T_bin (w := (i_ushr (i_ushr (i_ushr (i_ushr (i_and (i_xor a0_ (-1)) (i_sub a0_ 1)) 16) 8) 2) 1) + 27) rfl (bi_add (by omega) (by omega) (by omega)) ?_ -- pc_ 78
            refine sm_T_ri rfl ⟨_, _, rfl, rfl, _, rfl, ?_⟩
            refine ⟨by omega, fun _ => by omega⟩
        · have cx41_ : ¬ ((i_ushr (i_ushr (i_and (i_xor a0_ (-1)) (i_sub a0_ 1)) 16) 8) ≤ 16) := of_decide_eq_false cx41_
          refine sm_T_inc (a := 1) (z := 4) (v := 25) (w := 29) rfl rfl (by omega) (by omega) (by omega) ?_ -- pc_ 55
          refine sm_T_go 2 (c1 := (60, [some (.inl (i_ushr (i_ushr (i_and (i_xor a0_ (-1)) (i_sub a0_ 1)) 16) 8)), some (.inl 29)], [.inl 4, .inl (i_ushr (i_ushr (i_and (i_xor a0_ (-1)) (i_sub a0_ 1)) 16) 8)], S0_)) rfl ?_
          refine sm_T_bin (w := (i_ushr (i_ushr (i_ushr (i_and (i_xor a0_ (-1)) (i_sub a0_ 1)) 16) 8) 4)) rfl rfl ?_ -- pc_ 60
          have bx46_ := i_ushw (x_ := (i_ushr (i_ushr (i_and (i_xor a0_ (-1)) (i_sub a0_ 1)) 16) 8)) (e_ := 4) (k_ := 4) (m_ := 16) (by decide) (by decide) (by omega) (by decide)
          refine sm_T_go 3 (c1 := (64, [some (.inl (i_ushr (i_ushr (i_ushr (i_and (i_xor a0_ (-1)) (i_sub a0_ 1)) 16) 8) 4)), some (.inl 29)], [.inl 4, .inl (i_ushr (i_ushr (i_ushr (i_and (i_xor a0_ (-1)) (i_sub a0_ 1)) 16) 8) 4)], S0_)) rfl ?_
          refine sm_T_br (a := 5) (z := 10) rfl (fun cx47_ => ?_) (fun cx47_ => ?_)
          · have cx47_ : (i_ushr (i_ushr (i_ushr (i_and (i_xor a0_ (-1)) (i_sub a0_ 1)) 16) 8) 4) ≤ 4 := of_decide_eq_true cx47_
            refine sm_T_go 3 (c1 := (77, [some (.inl (i_ushr (i_ushr (i_ushr (i_and (i_xor a0_ (-1)) (i_sub a0_ 1)) 16) 8) 4)), some (.inl 29)], [.inl 1, .inl (i_ushr (i_ushr (i_ushr (i_and (i_xor a0_ (-1)) (i_sub a0_ 1)) 16) 8) 4), .inl 29], S0_)) rfl ?_
            refine sm_T_bin (w := (i_ushr (i_ushr (i_ushr (i_ushr (i_and (i_xor a0_ (-1)) (i_sub a0_ 1)) 16) 8) 4) 1)) rfl rfl ?_ -- pc_ 77
            have bx48_ := i_ushw (x_ := (i_ushr (i_ushr (i_ushr (i_and (i_xor a0_ (-1)) (i_sub a0_ 1)) 16) 8) 4)) (e_ := 1) (k_ := 1) (m_ := 2) (by decide) (by decide) (by omega) (by decide)
            refine sm_T_bin (w := (i_ushr (i_ushr (i_ushr (i_ushr (i_and (i_xor a0_ (-1)) (i_sub a0_ 1)) 16) 8) 4) 1) + 29) rfl (bi_add (by omega) (by omega) (by omega)) ?_ -- pc_ 78
            refine sm_T_ri rfl ⟨_, _, rfl, rfl, _, rfl, ?_⟩
            refine ⟨by omega, fun _ => by omega⟩
          · have cx47_ : ¬ ((i_ushr (i_ushr (i_ushr (i_and (i_xor a0_ (-1)) (i_sub a0_ 1)) 16) 8) 4) ≤ 4) := of_decide_eq_false cx47_
            refine sm_T_inc (a := 1) (z := 2) (v := 29) (w := 31) rfl rfl (by omega) (by omega) (by omega) ?_ -- pc_ 67
            refine sm_T_go 2 (c1 := (72, [some (.inl (i_ushr (i_ushr (i_ushr (i_and (i_xor a0_ (-1)) (i_sub a0_ 1)) 16) 8) 4)), some (.inl 31)], [.inl 2, .inl (i_ushr (i_ushr (i_ushr (i_and (i_xor a0_ (-1)) (i_sub a0_ 1)) 16) 8) 4)], S0_)) rfl ?_
            refine sm_T_bin (w := (i_ushr (i_ushr (i_ushr (i_ushr (i_and (i_xor a0_ (-1)) (i_sub a0_ 1)) 16) 8) 4) 2)) rfl rfl ?_ -- pc_ 72
            have bx49_ := i_ushw (x_ := (i_ushr (i_ushr (i_ushr (i_and (i_xor a0_ (-1)) (i_sub a0_ 1)) 16) 8) 4)) (e_ := 2) (k_ := 2) (m_ := 4) (by decide) (by decide) (by omega) (by decide)
            refine sm_T_go 4 (c1 := (77, [some (.inl (i_ushr (i_ushr (i_ushr (i_ushr (i_and (i_xor a0_ (-1)) (i_sub a0_ 1)) 16) 8) 4) 2)), some (.inl 31)], [.inl 1, .inl (i_ushr (i_ushr (i_ushr (i_ushr (i_and (i_xor a0_ (-1)) (i_sub a0_ 1)) 16) 8) 4) 2), .inl 31], S0_)) rfl ?_
            refine sm_T_bin (w := (i_ushr (i_ushr (i_ushr (i_ushr (i_ushr (i_and (i_xor a0_ (-1)) (i_sub a0_ 1)) 16) 8) 4) 2) 1)) rfl rfl ?_ -- pc_ 77
            have bx50_ := i_ushw (x_ := (i_ushr (i_ushr (i_ushr (i_ushr (i_and (i_xor a0_ (-1)) (i_sub a0_ 1)) 16) 8) 4) 2)) (e_ := 1) (k_ := 1) (m_ := 2) (by decide) (by decide) (by omega) (by decide)
            refine sm_T_bin (w := (i_ushr (i_ushr (i_ushr (i_ushr (i_ushr (i_and (i_xor a0_ (-1)) (i_sub a0_ 1)) 16) 8) 4) 2) 1) + 31) rfl (bi_add (by omega) (by omega) (by omega)) ?_ -- pc_ 78
            refine sm_T_ri rfl ⟨_, _, rfl, rfl, _, rfl, ?_⟩
            refine ⟨by omega, fun _ => by omega⟩
  · have cx4_ : ¬ (0 < (i_and (i_xor a0_ (-1)) (i_sub a0_ 1))) := of_decide_eq_false cx4_
    refine sm_T_go 2 (c1 := (15, [some (.inl (i_and (i_xor a0_ (-1)) (i_sub a0_ 1))), none], [.inl 32, .inl (i_and (i_xor a0_ (-1)) (i_sub a0_ 1))], S0_)) rfl ?_
    refine sm_T_bin (w := (i_and (i_and (i_xor a0_ (-1)) (i_sub a0_ 1)) 32)) rfl rfl ?_ -- pc_ 15
    have bx51_ := i_and_y (i_and (i_xor a0_ (-1)) (i_sub a0_ 1)) (y_ := 32) (by decide)
    have zz9_ : (i_and (i_xor a0_ (-1)) (i_sub a0_ 1)) = 0 → i_and (i_and (i_xor a0_ (-1)) (i_sub a0_ 1)) 32 = 0 := fun q9_ => by (rw [q9_]; decide)
    refine sm_T_ri rfl ⟨_, _, rfl, rfl, _, rfl, ?_⟩
    refine ⟨by omega, fun q9_ => ?_⟩
    have w9_ : i_and (i_xor a0_ (-1)) (i_sub a0_ 1) = 0 := by (by_cases u9_ : i_and (i_xor a0_ (-1)) (i_sub a0_ 1) < 0; exact absurd (ny9_ u9_) q9_; omega)
    rw [zz9_ w9_]
    decide
