/-! the reference: tokens; written by wip/p55/gen/vg -/
/-! M_.byteAt -/
def vw_282 : sx_Wl := ([], [], [])
def vq_282 (k_ : Int) (b_ : Nat → Int) (n_ : Nat) (S0_ : sm_S) (u_ : Option sm_V) (S1_ : sm_S) : Prop := S0_ = S1_ ∧ ∃ v_ : Int, u_ = some (.inl v_) ∧ (v_ = rb b_ n_ k_.toNat)
theorem vc_282 {sc_ : Nat × (Nat → Int)} (k_ : Int) (b_ : Nat → Int) (n_ : Nat) (S0_ : sm_S) (hI_ : gi S0_) (hb_ : S0_.2.2.1 118 0 = b_) (hn_ : (S0_.1 13 0 2) = (n_ : Int)) (hn1_ : n_ ≤ 1280) (hk_ : 0 ≤ k_) : sm_T (mt_P sc_) 0 282 (0, [some (.inr (.inr (some (13, 0)))), some (.inl k_)], [], S0_) (fun r_ => ∃ u_ S1_, r_ = (.inl u_, S1_, 0) ∧ vq_282 k_ b_ n_ S0_ u_ S1_) := by
  have hF_ : ai_fr (sx_W vw_282) S0_ S0_ := ai_fr_rf
  have b1_ : 0 ≤ S0_.1 13 0 2 ∧ S0_.1 13 0 2 ≤ 1280 := hI_.1 13 0 2 rfl
  refine sm_T_go 3 (c1 := (5, [some (.inr (.inr (some (13, 0)))), some (.inl k_)], [.inl (S0_.1 13 0 2), .inl k_], S0_)) rfl ?_
  refine sm_T_br (a := 3) (z := 16) rfl (fun c2_ => ?_) (fun c2_ => ?_)
  · have c2_ : (S0_.1 13 0 2) ≤ k_ := of_decide_eq_true c2_
    refine sm_T_go 1 (c1 := (22, [some (.inr (.inr (some (13, 0)))), some (.inl k_)], [.inl (-1)], S0_)) rfl ?_
    refine sm_T_ri rfl ⟨_, _, rfl, rfl, _, rfl, ?_⟩
    unfold rb; first | (rw [if_pos (by omega), ← hb_]) | (rw [if_neg (by omega)])
  · have c2_ : ¬ ((S0_.1 13 0 2) ≤ k_) := of_decide_eq_false c2_
    refine sm_T_go 3 (c1 := (13, [some (.inr (.inr (some (13, 0)))), some (.inl k_)], [.inl k_, .inr (.inr (some (118, 0)))], S0_)) rfl ?_
    refine sm_T_bald (n := 65536) rfl rfl (by omega) (by omega) ?_
    have b3_ : (-128) ≤ S0_.2.2.1 118 0 k_.toNat ∧ S0_.2.2.1 118 0 k_.toNat ≤ 127 := hI_.2 118 0 _
    refine sm_T_go 1 (c1 := (17, [some (.inr (.inr (some (13, 0)))), some (.inl k_)], [.inl 255, .inl (S0_.2.2.1 118 0 k_.toNat)], S0_)) rfl ?_
    refine sm_T_bin (w := ((S0_.2.2.1 118 0 k_.toNat) % 256)) rfl (bi_msk (k := 8) (by decide)) ?_
    refine sm_T_go 1 (c1 := (22, [some (.inr (.inr (some (13, 0)))), some (.inl k_)], [.inl ((S0_.2.2.1 118 0 k_.toNat) % 256)], S0_)) rfl ?_
    refine sm_T_ri rfl ⟨_, _, rfl, rfl, _, rfl, ?_⟩
    unfold rb; first | (rw [if_pos (by omega), ← hb_]) | (rw [if_neg (by omega)])
/-! M_.isLetter -/
def vw_283 : sx_Wl := ([], [], [])
def vq_283 (c_ : Int) (S0_ : sm_S) (u_ : Option sm_V) (S1_ : sm_S) : Prop := S0_ = S1_ ∧ ∃ v_ : Int, u_ = some (.inl v_) ∧ (v_ = if lx_l c_ then 1 else 0)
theorem vc_283 {sc_ : Nat × (Nat → Int)} (c_ : Int) (S0_ : sm_S) (hI_ : gi S0_)  : sm_T (mt_P sc_) 0 283 (0, [some (.inl c_)], [], S0_) (fun r_ => ∃ u_ S1_, r_ = (.inl u_, S1_, 0) ∧ vq_283 c_ S0_ u_ S1_) := by
  have hF_ : ai_fr (sx_W vw_283) S0_ S0_ := ai_fr_rf
  refine sm_T_go 2 (c1 := (3, [some (.inl c_)], [.inl 97, .inl c_], S0_)) rfl ?_
  refine sm_T_br (a := 2) (z := 9) rfl (fun c1_ => ?_) (fun c1_ => ?_)
  · have c1_ : c_ < 97 := of_decide_eq_true c1_
    refine sm_T_go 2 (c1 := (15, [some (.inl c_)], [.inl 65, .inl c_], S0_)) rfl ?_
    refine sm_T_br (a := 2) (z := 9) rfl (fun c2_ => ?_) (fun c2_ => ?_)
    · have c2_ : c_ < 65 := of_decide_eq_true c2_
      refine sm_T_go 2 (c1 := (27, [some (.inl c_)], [.inl 95, .inl c_], S0_)) rfl ?_
      refine sm_T_br (a := 1) (z := 7) rfl (fun c3_ => ?_) (fun c3_ => ?_)
      · have c3_ : c_ ≠ 95 := of_decide_eq_true c3_
        refine sm_T_go 1 (c1 := (35, [some (.inl c_)], [.inl 0], S0_)) rfl ?_
        refine sm_T_rz rfl (by omega) ⟨_, _, rfl, rfl, _, rfl, ?_⟩
        first | (rw [if_pos (by omega)]) | (rw [if_neg (by omega)])
      · have c3_ : ¬ (c_ ≠ 95) := of_decide_eq_false c3_
        exfalso; omega
    · have c2_ : ¬ (c_ < 65) := of_decide_eq_false c2_
      refine sm_T_go 2 (c1 := (21, [some (.inl c_)], [.inl 90, .inl c_], S0_)) rfl ?_
      refine sm_T_br (a := 5) (z := 9) rfl (fun c4_ => ?_) (fun c4_ => ?_)
      · have c4_ : c_ ≤ 90 := of_decide_eq_true c4_
        refine sm_T_go 2 (c1 := (35, [some (.inl c_)], [.inl 1], S0_)) rfl ?_
        refine sm_T_rz rfl (by omega) ⟨_, _, rfl, rfl, _, rfl, ?_⟩
        first | (rw [if_pos (by omega)]) | (rw [if_neg (by omega)])
      · have c4_ : ¬ (c_ ≤ 90) := of_decide_eq_false c4_
        refine sm_T_go 2 (c1 := (27, [some (.inl c_)], [.inl 95, .inl c_], S0_)) rfl ?_
        refine sm_T_br (a := 1) (z := 7) rfl (fun c5_ => ?_) (fun c5_ => ?_)
        · have c5_ : c_ ≠ 95 := of_decide_eq_true c5_
          refine sm_T_go 1 (c1 := (35, [some (.inl c_)], [.inl 0], S0_)) rfl ?_
          refine sm_T_rz rfl (by omega) ⟨_, _, rfl, rfl, _, rfl, ?_⟩
          first | (rw [if_pos (by omega)]) | (rw [if_neg (by omega)])
        · have c5_ : ¬ (c_ ≠ 95) := of_decide_eq_false c5_
          refine sm_T_go 2 (c1 := (35, [some (.inl c_)], [.inl 1], S0_)) rfl ?_
          refine sm_T_rz rfl (by omega) ⟨_, _, rfl, rfl, _, rfl, ?_⟩
          first | (rw [if_pos (by omega)]) | (rw [if_neg (by omega)])
  · have c1_ : ¬ (c_ < 97) := of_decide_eq_false c1_
    refine sm_T_go 2 (c1 := (9, [some (.inl c_)], [.inl 122, .inl c_], S0_)) rfl ?_
    refine sm_T_br (a := 5) (z := 21) rfl (fun c6_ => ?_) (fun c6_ => ?_)
    · have c6_ : c_ ≤ 122 := of_decide_eq_true c6_
      refine sm_T_go 2 (c1 := (35, [some (.inl c_)], [.inl 1], S0_)) rfl ?_
      refine sm_T_rz rfl (by omega) ⟨_, _, rfl, rfl, _, rfl, ?_⟩
      first | (rw [if_pos (by omega)]) | (rw [if_neg (by omega)])
    · have c6_ : ¬ (c_ ≤ 122) := of_decide_eq_false c6_
      refine sm_T_go 2 (c1 := (15, [some (.inl c_)], [.inl 65, .inl c_], S0_)) rfl ?_
      refine sm_T_br (a := 2) (z := 9) rfl (fun c7_ => ?_) (fun c7_ => ?_)
      · have c7_ : c_ < 65 := of_decide_eq_true c7_
        exfalso; omega
      · have c7_ : ¬ (c_ < 65) := of_decide_eq_false c7_
        refine sm_T_go 2 (c1 := (21, [some (.inl c_)], [.inl 90, .inl c_], S0_)) rfl ?_
        refine sm_T_br (a := 5) (z := 9) rfl (fun c8_ => ?_) (fun c8_ => ?_)
        · have c8_ : c_ ≤ 90 := of_decide_eq_true c8_
          exfalso; omega
        · have c8_ : ¬ (c_ ≤ 90) := of_decide_eq_false c8_
          refine sm_T_go 2 (c1 := (27, [some (.inl c_)], [.inl 95, .inl c_], S0_)) rfl ?_
          refine sm_T_br (a := 1) (z := 7) rfl (fun c9_ => ?_) (fun c9_ => ?_)
          · have c9_ : c_ ≠ 95 := of_decide_eq_true c9_
            refine sm_T_go 1 (c1 := (35, [some (.inl c_)], [.inl 0], S0_)) rfl ?_
            refine sm_T_rz rfl (by omega) ⟨_, _, rfl, rfl, _, rfl, ?_⟩
            first | (rw [if_pos (by omega)]) | (rw [if_neg (by omega)])
          · have c9_ : ¬ (c_ ≠ 95) := of_decide_eq_false c9_
            exfalso; omega
/-! M_.isDigit -/
def vw_284 : sx_Wl := ([], [], [])
def vq_284 (c_ : Int) (S0_ : sm_S) (u_ : Option sm_V) (S1_ : sm_S) : Prop := S0_ = S1_ ∧ ∃ v_ : Int, u_ = some (.inl v_) ∧ (v_ = if lx_g c_ then 1 else 0)
theorem vc_284 {sc_ : Nat × (Nat → Int)} (c_ : Int) (S0_ : sm_S) (hI_ : gi S0_)  : sm_T (mt_P sc_) 0 284 (0, [some (.inl c_)], [], S0_) (fun r_ => ∃ u_ S1_, r_ = (.inl u_, S1_, 0) ∧ vq_284 c_ S0_ u_ S1_) := by
  have hF_ : ai_fr (sx_W vw_284) S0_ S0_ := ai_fr_rf
  refine sm_T_go 2 (c1 := (3, [some (.inl c_)], [.inl 48, .inl c_], S0_)) rfl ?_
  refine sm_T_br (a := 2) (z := 13) rfl (fun c1_ => ?_) (fun c1_ => ?_)
  · have c1_ : c_ < 48 := of_decide_eq_true c1_
    refine sm_T_go 1 (c1 := (17, [some (.inl c_)], [.inl 0], S0_)) rfl ?_
    refine sm_T_rz rfl (by omega) ⟨_, _, rfl, rfl, _, rfl, ?_⟩
    first | (rw [if_pos (by omega)]) | (rw [if_neg (by omega)])
  · have c1_ : ¬ (c_ < 48) := of_decide_eq_false c1_
    refine sm_T_go 2 (c1 := (9, [some (.inl c_)], [.inl 57, .inl c_], S0_)) rfl ?_
    refine sm_T_br (a := 4) (z := 7) rfl (fun c2_ => ?_) (fun c2_ => ?_)
    · have c2_ : 57 < c_ := of_decide_eq_true c2_
      refine sm_T_go 1 (c1 := (17, [some (.inl c_)], [.inl 0], S0_)) rfl ?_
      refine sm_T_rz rfl (by omega) ⟨_, _, rfl, rfl, _, rfl, ?_⟩
      first | (rw [if_pos (by omega)]) | (rw [if_neg (by omega)])
    · have c2_ : ¬ (57 < c_) := of_decide_eq_false c2_
      refine sm_T_go 2 (c1 := (17, [some (.inl c_)], [.inl 1], S0_)) rfl ?_
      refine sm_T_rz rfl (by omega) ⟨_, _, rfl, rfl, _, rfl, ?_⟩
      first | (rw [if_pos (by omega)]) | (rw [if_neg (by omega)])
/-! M_.isBlank -/
def vw_285 : sx_Wl := ([], [], [])
def vq_285 (c_ : Int) (S0_ : sm_S) (u_ : Option sm_V) (S1_ : sm_S) : Prop := S0_ = S1_ ∧ ∃ v_ : Int, u_ = some (.inl v_) ∧ (v_ = if c_ = 9 ∨ c_ = 10 ∨ c_ = 13 ∨ c_ = 32 then 1 else 0)
theorem vc_285 {sc_ : Nat × (Nat → Int)} (c_ : Int) (S0_ : sm_S) (hI_ : gi S0_)  : sm_T (mt_P sc_) 0 285 (0, [some (.inl c_)], [], S0_) (fun r_ => ∃ u_ S1_, r_ = (.inl u_, S1_, 0) ∧ vq_285 c_ S0_ u_ S1_) := by
  have hF_ : ai_fr (sx_W vw_285) S0_ S0_ := ai_fr_rf
  refine sm_T_go 2 (c1 := (3, [some (.inl c_)], [.inl 9, .inl c_], S0_)) rfl ?_
  refine sm_T_br (a := 0) (z := 21) rfl (fun c1_ => ?_) (fun c1_ => ?_)
  · have c1_ : c_ = 9 := of_decide_eq_true c1_
    refine sm_T_go 2 (c1 := (29, [some (.inl c_)], [.inl 1], S0_)) rfl ?_
    refine sm_T_rz rfl (by omega) ⟨_, _, rfl, rfl, _, rfl, ?_⟩
    first | (rw [if_pos (by omega)]) | (rw [if_neg (by omega)])
  · have c1_ : ¬ (c_ = 9) := of_decide_eq_false c1_
    refine sm_T_go 2 (c1 := (9, [some (.inl c_)], [.inl 10, .inl c_], S0_)) rfl ?_
    refine sm_T_br (a := 0) (z := 15) rfl (fun c2_ => ?_) (fun c2_ => ?_)
    · have c2_ : c_ = 10 := of_decide_eq_true c2_
      refine sm_T_go 2 (c1 := (29, [some (.inl c_)], [.inl 1], S0_)) rfl ?_
      refine sm_T_rz rfl (by omega) ⟨_, _, rfl, rfl, _, rfl, ?_⟩
      first | (rw [if_pos (by omega)]) | (rw [if_neg (by omega)])
    · have c2_ : ¬ (c_ = 10) := of_decide_eq_false c2_
      refine sm_T_go 2 (c1 := (15, [some (.inl c_)], [.inl 13, .inl c_], S0_)) rfl ?_
      refine sm_T_br (a := 0) (z := 9) rfl (fun c3_ => ?_) (fun c3_ => ?_)
      · have c3_ : c_ = 13 := of_decide_eq_true c3_
        refine sm_T_go 2 (c1 := (29, [some (.inl c_)], [.inl 1], S0_)) rfl ?_
        refine sm_T_rz rfl (by omega) ⟨_, _, rfl, rfl, _, rfl, ?_⟩
        first | (rw [if_pos (by omega)]) | (rw [if_neg (by omega)])
      · have c3_ : ¬ (c_ = 13) := of_decide_eq_false c3_
        refine sm_T_go 2 (c1 := (21, [some (.inl c_)], [.inl 32, .inl c_], S0_)) rfl ?_
        refine sm_T_br (a := 1) (z := 7) rfl (fun c4_ => ?_) (fun c4_ => ?_)
        · have c4_ : c_ ≠ 32 := of_decide_eq_true c4_
          refine sm_T_go 1 (c1 := (29, [some (.inl c_)], [.inl 0], S0_)) rfl ?_
          refine sm_T_rz rfl (by omega) ⟨_, _, rfl, rfl, _, rfl, ?_⟩
          first | (rw [if_pos (by omega)]) | (rw [if_neg (by omega)])
        · have c4_ : ¬ (c_ ≠ 32) := of_decide_eq_false c4_
          refine sm_T_go 2 (c1 := (29, [some (.inl c_)], [.inl 1], S0_)) rfl ?_
          refine sm_T_rz rfl (by omega) ⟨_, _, rfl, rfl, _, rfl, ?_⟩
          first | (rw [if_pos (by omega)]) | (rw [if_neg (by omega)])
/-! M_.isSign -/
def vw_289 : sx_Wl := ([], [], [])
def vq_289 (c_ : Int) (S0_ : sm_S) (u_ : Option sm_V) (S1_ : sm_S) : Prop := S0_ = S1_ ∧ ∃ v_ : Int, u_ = some (.inl v_) ∧ (v_ = if lx_sg c_ then 1 else 0)
theorem vc_289 {sc_ : Nat × (Nat → Int)} (c_ : Int) (S0_ : sm_S) (hI_ : gi S0_)  : sm_T (mt_P sc_) 0 289 (0, [some (.inl c_)], [], S0_) (fun r_ => ∃ u_ S1_, r_ = (.inl u_, S1_, 0) ∧ vq_289 c_ S0_ u_ S1_) := by
  have hF_ : ai_fr (sx_W vw_289) S0_ S0_ := ai_fr_rf
  refine sm_T_go 2 (c1 := (3, [some (.inl c_)], [.inl 40, .inl c_], S0_)) rfl ?_
  refine sm_T_br (a := 0) (z := 93) rfl (fun c1_ => ?_) (fun c1_ => ?_)
  · have c1_ : c_ = 40 := of_decide_eq_true c1_
    refine sm_T_go 2 (c1 := (101, [some (.inl c_)], [.inl 1], S0_)) rfl ?_
    refine sm_T_rz rfl (by omega) ⟨_, _, rfl, rfl, _, rfl, ?_⟩
    first | (exact (if_neg (by rintro (hh_ | hh_ | hh_ | hh_ | hh_ | hh_ | hh_ | hh_ | hh_ | hh_ | hh_ | hh_ | hh_ | hh_ | hh_ | hh_) <;> contradiction)).symm) | (rw [if_pos (by omega)])
  · have c1_ : ¬ (c_ = 40) := of_decide_eq_false c1_
    refine sm_T_go 2 (c1 := (9, [some (.inl c_)], [.inl 41, .inl c_], S0_)) rfl ?_
    refine sm_T_br (a := 0) (z := 87) rfl (fun c2_ => ?_) (fun c2_ => ?_)
    · have c2_ : c_ = 41 := of_decide_eq_true c2_
      refine sm_T_go 2 (c1 := (101, [some (.inl c_)], [.inl 1], S0_)) rfl ?_
      refine sm_T_rz rfl (by omega) ⟨_, _, rfl, rfl, _, rfl, ?_⟩
      first | (exact (if_neg (by rintro (hh_ | hh_ | hh_ | hh_ | hh_ | hh_ | hh_ | hh_ | hh_ | hh_ | hh_ | hh_ | hh_ | hh_ | hh_ | hh_) <;> contradiction)).symm) | (rw [if_pos (by omega)])
    · have c2_ : ¬ (c_ = 41) := of_decide_eq_false c2_
      refine sm_T_go 2 (c1 := (15, [some (.inl c_)], [.inl 123, .inl c_], S0_)) rfl ?_
      refine sm_T_br (a := 0) (z := 81) rfl (fun c3_ => ?_) (fun c3_ => ?_)
      · have c3_ : c_ = 123 := of_decide_eq_true c3_
        refine sm_T_go 2 (c1 := (101, [some (.inl c_)], [.inl 1], S0_)) rfl ?_
        refine sm_T_rz rfl (by omega) ⟨_, _, rfl, rfl, _, rfl, ?_⟩
        first | (exact (if_neg (by rintro (hh_ | hh_ | hh_ | hh_ | hh_ | hh_ | hh_ | hh_ | hh_ | hh_ | hh_ | hh_ | hh_ | hh_ | hh_ | hh_) <;> contradiction)).symm) | (rw [if_pos (by omega)])
      · have c3_ : ¬ (c_ = 123) := of_decide_eq_false c3_
        refine sm_T_go 2 (c1 := (21, [some (.inl c_)], [.inl 125, .inl c_], S0_)) rfl ?_
        refine sm_T_br (a := 0) (z := 75) rfl (fun c4_ => ?_) (fun c4_ => ?_)
        · have c4_ : c_ = 125 := of_decide_eq_true c4_
          refine sm_T_go 2 (c1 := (101, [some (.inl c_)], [.inl 1], S0_)) rfl ?_
          refine sm_T_rz rfl (by omega) ⟨_, _, rfl, rfl, _, rfl, ?_⟩
          first | (exact (if_neg (by rintro (hh_ | hh_ | hh_ | hh_ | hh_ | hh_ | hh_ | hh_ | hh_ | hh_ | hh_ | hh_ | hh_ | hh_ | hh_ | hh_) <;> contradiction)).symm) | (rw [if_pos (by omega)])
        · have c4_ : ¬ (c_ = 125) := of_decide_eq_false c4_
          refine sm_T_go 2 (c1 := (27, [some (.inl c_)], [.inl 59, .inl c_], S0_)) rfl ?_
          refine sm_T_br (a := 0) (z := 69) rfl (fun c5_ => ?_) (fun c5_ => ?_)
          · have c5_ : c_ = 59 := of_decide_eq_true c5_
            refine sm_T_go 2 (c1 := (101, [some (.inl c_)], [.inl 1], S0_)) rfl ?_
            refine sm_T_rz rfl (by omega) ⟨_, _, rfl, rfl, _, rfl, ?_⟩
            first | (exact (if_neg (by rintro (hh_ | hh_ | hh_ | hh_ | hh_ | hh_ | hh_ | hh_ | hh_ | hh_ | hh_ | hh_ | hh_ | hh_ | hh_ | hh_) <;> contradiction)).symm) | (rw [if_pos (by omega)])
          · have c5_ : ¬ (c_ = 59) := of_decide_eq_false c5_
            refine sm_T_go 2 (c1 := (33, [some (.inl c_)], [.inl 44, .inl c_], S0_)) rfl ?_
            refine sm_T_br (a := 0) (z := 63) rfl (fun c6_ => ?_) (fun c6_ => ?_)
            · have c6_ : c_ = 44 := of_decide_eq_true c6_
              refine sm_T_go 2 (c1 := (101, [some (.inl c_)], [.inl 1], S0_)) rfl ?_
              refine sm_T_rz rfl (by omega) ⟨_, _, rfl, rfl, _, rfl, ?_⟩
              first | (exact (if_neg (by rintro (hh_ | hh_ | hh_ | hh_ | hh_ | hh_ | hh_ | hh_ | hh_ | hh_ | hh_ | hh_ | hh_ | hh_ | hh_ | hh_) <;> contradiction)).symm) | (rw [if_pos (by omega)])
            · have c6_ : ¬ (c_ = 44) := of_decide_eq_false c6_
              refine sm_T_go 2 (c1 := (39, [some (.inl c_)], [.inl 61, .inl c_], S0_)) rfl ?_
              refine sm_T_br (a := 0) (z := 57) rfl (fun c7_ => ?_) (fun c7_ => ?_)
              · have c7_ : c_ = 61 := of_decide_eq_true c7_
                refine sm_T_go 2 (c1 := (101, [some (.inl c_)], [.inl 1], S0_)) rfl ?_
                refine sm_T_rz rfl (by omega) ⟨_, _, rfl, rfl, _, rfl, ?_⟩
                first | (exact (if_neg (by rintro (hh_ | hh_ | hh_ | hh_ | hh_ | hh_ | hh_ | hh_ | hh_ | hh_ | hh_ | hh_ | hh_ | hh_ | hh_ | hh_) <;> contradiction)).symm) | (rw [if_pos (by omega)])
              · have c7_ : ¬ (c_ = 61) := of_decide_eq_false c7_
                refine sm_T_go 2 (c1 := (45, [some (.inl c_)], [.inl 46, .inl c_], S0_)) rfl ?_
                refine sm_T_br (a := 0) (z := 51) rfl (fun c8_ => ?_) (fun c8_ => ?_)
                · have c8_ : c_ = 46 := of_decide_eq_true c8_
                  refine sm_T_go 2 (c1 := (101, [some (.inl c_)], [.inl 1], S0_)) rfl ?_
                  refine sm_T_rz rfl (by omega) ⟨_, _, rfl, rfl, _, rfl, ?_⟩
                  first | (exact (if_neg (by rintro (hh_ | hh_ | hh_ | hh_ | hh_ | hh_ | hh_ | hh_ | hh_ | hh_ | hh_ | hh_ | hh_ | hh_ | hh_ | hh_) <;> contradiction)).symm) | (rw [if_pos (by omega)])
                · have c8_ : ¬ (c_ = 46) := of_decide_eq_false c8_
                  refine sm_T_go 2 (c1 := (51, [some (.inl c_)], [.inl 58, .inl c_], S0_)) rfl ?_
                  refine sm_T_br (a := 0) (z := 45) rfl (fun c9_ => ?_) (fun c9_ => ?_)
                  · have c9_ : c_ = 58 := of_decide_eq_true c9_
                    refine sm_T_go 2 (c1 := (101, [some (.inl c_)], [.inl 1], S0_)) rfl ?_
                    refine sm_T_rz rfl (by omega) ⟨_, _, rfl, rfl, _, rfl, ?_⟩
                    first | (exact (if_neg (by rintro (hh_ | hh_ | hh_ | hh_ | hh_ | hh_ | hh_ | hh_ | hh_ | hh_ | hh_ | hh_ | hh_ | hh_ | hh_ | hh_) <;> contradiction)).symm) | (rw [if_pos (by omega)])
                  · have c9_ : ¬ (c_ = 58) := of_decide_eq_false c9_
                    refine sm_T_go 2 (c1 := (57, [some (.inl c_)], [.inl 38, .inl c_], S0_)) rfl ?_
                    refine sm_T_br (a := 0) (z := 39) rfl (fun c10_ => ?_) (fun c10_ => ?_)
                    · have c10_ : c_ = 38 := of_decide_eq_true c10_
                      refine sm_T_go 2 (c1 := (101, [some (.inl c_)], [.inl 1], S0_)) rfl ?_
                      refine sm_T_rz rfl (by omega) ⟨_, _, rfl, rfl, _, rfl, ?_⟩
                      first | (exact (if_neg (by rintro (hh_ | hh_ | hh_ | hh_ | hh_ | hh_ | hh_ | hh_ | hh_ | hh_ | hh_ | hh_ | hh_ | hh_ | hh_ | hh_) <;> contradiction)).symm) | (rw [if_pos (by omega)])
                    · have c10_ : ¬ (c_ = 38) := of_decide_eq_false c10_
                      refine sm_T_go 2 (c1 := (63, [some (.inl c_)], [.inl 124, .inl c_], S0_)) rfl ?_
                      refine sm_T_br (a := 0) (z := 33) rfl (fun c11_ => ?_) (fun c11_ => ?_)
                      · have c11_ : c_ = 124 := of_decide_eq_true c11_
                        refine sm_T_go 2 (c1 := (101, [some (.inl c_)], [.inl 1], S0_)) rfl ?_
                        refine sm_T_rz rfl (by omega) ⟨_, _, rfl, rfl, _, rfl, ?_⟩
                        first | (exact (if_neg (by rintro (hh_ | hh_ | hh_ | hh_ | hh_ | hh_ | hh_ | hh_ | hh_ | hh_ | hh_ | hh_ | hh_ | hh_ | hh_ | hh_) <;> contradiction)).symm) | (rw [if_pos (by omega)])
                      · have c11_ : ¬ (c_ = 124) := of_decide_eq_false c11_
                        refine sm_T_go 2 (c1 := (69, [some (.inl c_)], [.inl 94, .inl c_], S0_)) rfl ?_
                        refine sm_T_br (a := 0) (z := 27) rfl (fun c12_ => ?_) (fun c12_ => ?_)
                        · have c12_ : c_ = 94 := of_decide_eq_true c12_
                          refine sm_T_go 2 (c1 := (101, [some (.inl c_)], [.inl 1], S0_)) rfl ?_
                          refine sm_T_rz rfl (by omega) ⟨_, _, rfl, rfl, _, rfl, ?_⟩
                          first | (exact (if_neg (by rintro (hh_ | hh_ | hh_ | hh_ | hh_ | hh_ | hh_ | hh_ | hh_ | hh_ | hh_ | hh_ | hh_ | hh_ | hh_ | hh_) <;> contradiction)).symm) | (rw [if_pos (by omega)])
                        · have c12_ : ¬ (c_ = 94) := of_decide_eq_false c12_
                          refine sm_T_go 2 (c1 := (75, [some (.inl c_)], [.inl 33, .inl c_], S0_)) rfl ?_
                          refine sm_T_br (a := 0) (z := 21) rfl (fun c13_ => ?_) (fun c13_ => ?_)
                          · have c13_ : c_ = 33 := of_decide_eq_true c13_
                            refine sm_T_go 2 (c1 := (101, [some (.inl c_)], [.inl 1], S0_)) rfl ?_
                            refine sm_T_rz rfl (by omega) ⟨_, _, rfl, rfl, _, rfl, ?_⟩
                            first | (exact (if_neg (by rintro (hh_ | hh_ | hh_ | hh_ | hh_ | hh_ | hh_ | hh_ | hh_ | hh_ | hh_ | hh_ | hh_ | hh_ | hh_ | hh_) <;> contradiction)).symm) | (rw [if_pos (by omega)])
                          · have c13_ : ¬ (c_ = 33) := of_decide_eq_false c13_
                            refine sm_T_go 2 (c1 := (81, [some (.inl c_)], [.inl 43, .inl c_], S0_)) rfl ?_
                            refine sm_T_br (a := 0) (z := 15) rfl (fun c14_ => ?_) (fun c14_ => ?_)
                            · have c14_ : c_ = 43 := of_decide_eq_true c14_
                              refine sm_T_go 2 (c1 := (101, [some (.inl c_)], [.inl 1], S0_)) rfl ?_
                              refine sm_T_rz rfl (by omega) ⟨_, _, rfl, rfl, _, rfl, ?_⟩
                              first | (exact (if_neg (by rintro (hh_ | hh_ | hh_ | hh_ | hh_ | hh_ | hh_ | hh_ | hh_ | hh_ | hh_ | hh_ | hh_ | hh_ | hh_ | hh_) <;> contradiction)).symm) | (rw [if_pos (by omega)])
                            · have c14_ : ¬ (c_ = 43) := of_decide_eq_false c14_
                              refine sm_T_go 2 (c1 := (87, [some (.inl c_)], [.inl 63, .inl c_], S0_)) rfl ?_
                              refine sm_T_br (a := 0) (z := 9) rfl (fun c15_ => ?_) (fun c15_ => ?_)
                              · have c15_ : c_ = 63 := of_decide_eq_true c15_
                                refine sm_T_go 2 (c1 := (101, [some (.inl c_)], [.inl 1], S0_)) rfl ?_
                                refine sm_T_rz rfl (by omega) ⟨_, _, rfl, rfl, _, rfl, ?_⟩
                                first | (exact (if_neg (by rintro (hh_ | hh_ | hh_ | hh_ | hh_ | hh_ | hh_ | hh_ | hh_ | hh_ | hh_ | hh_ | hh_ | hh_ | hh_ | hh_) <;> contradiction)).symm) | (rw [if_pos (by omega)])
                              · have c15_ : ¬ (c_ = 63) := of_decide_eq_false c15_
                                refine sm_T_go 2 (c1 := (93, [some (.inl c_)], [.inl 64, .inl c_], S0_)) rfl ?_
                                refine sm_T_br (a := 1) (z := 7) rfl (fun c16_ => ?_) (fun c16_ => ?_)
                                · have c16_ : c_ ≠ 64 := of_decide_eq_true c16_
                                  refine sm_T_go 1 (c1 := (101, [some (.inl c_)], [.inl 0], S0_)) rfl ?_
                                  refine sm_T_rz rfl (by omega) ⟨_, _, rfl, rfl, _, rfl, ?_⟩
                                  first | (exact (if_neg (by rintro (hh_ | hh_ | hh_ | hh_ | hh_ | hh_ | hh_ | hh_ | hh_ | hh_ | hh_ | hh_ | hh_ | hh_ | hh_ | hh_) <;> contradiction)).symm) | (rw [if_pos (by omega)])
                                · have c16_ : ¬ (c_ ≠ 64) := of_decide_eq_false c16_
                                  refine sm_T_go 2 (c1 := (101, [some (.inl c_)], [.inl 1], S0_)) rfl ?_
                                  refine sm_T_rz rfl (by omega) ⟨_, _, rfl, rfl, _, rfl, ?_⟩
                                  first | (exact (if_neg (by rintro (hh_ | hh_ | hh_ | hh_ | hh_ | hh_ | hh_ | hh_ | hh_ | hh_ | hh_ | hh_ | hh_ | hh_ | hh_ | hh_) <;> contradiction)).symm) | (rw [if_pos (by omega)])
/-! M_.skip -/
def vw_286 : sx_Wl := ([], [], [])
def vq_286 (f_ : Int) (b_ : Nat → Int) (n_ : Nat) (p_ : Nat) (S0_ : sm_S) (u_ : Option sm_V) (S1_ : sm_S) : Prop := ∃ v_ : Int, u_ = some (.inl v_) ∧ gi S1_ ∧ ai_fr (sx_W vw_286) S0_ S1_ ∧ (v_ = (lx_k b_ n_ p_ : Nat))
theorem vl_286 {sc_ : Nat × (Nat → Int)} (f_ : Int) (b_ : Nat → Int) (n_ : Nat) (p_ : Nat) (S0_ : sm_S) (hb_ : S0_.2.2.1 118 0 = b_) (hn_ : (S0_.1 13 0 2) = (n_ : Int)) (hn1_ : n_ ≤ 1280) (hp_ : f_ = (p_ : Int)) (hpn_ : p_ ≤ n_) : ∀ nn_ : Nat, (∀ (k_ : Int) (S_ : sm_S), gi S_ → ai_fr (sx_W vw_286) S0_ S_ → ((∃ q_ : Nat, k_ = (q_ : Int) ∧ q_ ≤ n_ ∧ lx_s b_ n_ (n_ - q_) false q_ = lx_k b_ n_ p_) ∧ True) → ((3 * (1300 - k_)).toNat + 1) < nn_ → sm_T (mt_P sc_) 1 286 (2, [some (.inr (.inr (some (13, 0)))), some (.inl f_), some (.inl k_)], [], S_) (fun r_ => ∃ u_ S1_, r_ = (.inl u_, S1_, 0) ∧ vq_286 f_ b_ n_ p_ S0_ u_ S1_)) ∧ (∀ (k_ : Int) (S_ : sm_S), gi S_ → ai_fr (sx_W vw_286) S0_ S_ → ((∃ q_ : Nat, k_ = (q_ : Int) ∧ q_ ≤ n_ ∧ lx_s b_ n_ (n_ - q_) true q_ = lx_k b_ n_ p_) ∧ True) → ((3 * (1300 - k_)).toNat + if rb b_ n_ k_.toNat = 35 then 0 else 2) < nn_ → sm_T (mt_P sc_) 1 286 (33, [some (.inr (.inr (some (13, 0)))), some (.inl f_), some (.inl k_)], [], S_) (fun r_ => ∃ u_ S1_, r_ = (.inl u_, S1_, 0) ∧ vq_286 f_ b_ n_ p_ S0_ u_ S1_)) := by
  intro nn_
  induction nn_ with
  | zero => exact ⟨fun _ _ _ _ _ h_ => absurd h_ (Nat.not_lt_zero _), fun _ _ _ _ _ h_ => absurd h_ (Nat.not_lt_zero _)⟩
  | succ nn_ ih_ =>
    refine ⟨?_, ?_⟩
    · rintro k_ S_ hI_ hF_ ⟨h1_, -⟩ hm_
      have hb1_ : S_.2.2.1 118 0 = b_ := (fr_arr hF_ rfl).trans hb_
      have hn2_ : (S_.1 13 0 2) = (n_ : Int) := (hF_.1 13 0 2 rfl).trans hn_
      have hbb_ : ∀ k_, -128 ≤ b_ k_ ∧ b_ k_ ≤ 127 := fun k_ => by rw [← hb1_]; exact hI_.2 118 0 k_
      obtain ⟨q_, hq_, hqn_, h2_⟩ := h1_
      have ek_ : k_.toNat = q_ := by omega
      have hbq_ := hbb_ q_
      refine sm_T_go 2 (c1 := (4, [some (.inr (.inr (some (13, 0)))), some (.inl f_), some (.inl k_)], [.inl k_, .inr (.inr (some (13, 0)))], S_)) rfl ?_
      refine sm_T_cal (d1 := 0) (Q1 := vq_282 k_ b_ n_ S_) rfl rfl (by decide) (vc_282 k_ b_ n_ S_ hI_ (by exact hb1_) (by exact hn2_) (by exact hn1_) (by omega)) (fun u_ S1_ p4_ => ?_)
      obtain ⟨rfl, v6_, rfl, p4_⟩ := p4_
      rw [ek_] at p4_
      refine sm_T_cal (d1 := 0) (Q1 := vq_285 v6_ S_) rfl rfl (by decide) (vc_285 v6_ S_ hI_ ) (fun u_ S7_ p10_ => ?_)
      obtain ⟨rfl, v12_, rfl, p10_⟩ := p10_
      refine sm_T_b0 (a := 1) (z := 13) rfl (fun c13_ => ?_) (fun c13_ => ?_)
      · have c13_ : v12_ ≠ 0 := of_decide_eq_true c13_
        refine sm_T_go 2 (c1 := (25, [some (.inr (.inr (some (13, 0)))), some (.inl f_), some (.inl k_)], [.inl k_, .inr (.inr (some (13, 0)))], S_)) rfl ?_
        refine sm_T_cal (d1 := 0) (Q1 := vq_282 k_ b_ n_ S_) rfl rfl (by decide) (vc_282 k_ b_ n_ S_ hI_ (by exact hb1_) (by exact hn2_) (by exact hn1_) (by omega)) (fun u_ S14_ p17_ => ?_)
        obtain ⟨rfl, v19_, rfl, p17_⟩ := p17_
        rw [ek_] at p17_
        refine sm_T_go 1 (c1 := (30, [some (.inr (.inr (some (13, 0)))), some (.inl f_), some (.inl k_)], [.inl 35, .inl v19_], S_)) rfl ?_
        refine sm_T_br (a := 1) (z := 27) rfl (fun c20_ => ?_) (fun c20_ => ?_)
        · have c20_ : v19_ ≠ 35 := of_decide_eq_true c20_
          refine sm_T_inc (a := 2) (z := 1) (v := k_) (w := k_ + 1) rfl rfl (by omega) (by omega) (by omega) ?_
          refine sm_T_go 1 (c1 := (2, [some (.inr (.inr (some (13, 0)))), some (.inl f_), some (.inl (k_ + 1))], [], S_)) rfl ?_
          refine ih_.1 (k_ + 1) S_ hI_ hF_ ⟨?_, trivial⟩ ?_
          · unfold rb at *
            have hqq_ : q_ < n_ := by grind
            refine ⟨q_ + 1, by omega, by omega, ?_⟩
            rw [lx_s_go hqq_] at h2_; grind
          · unfold rb at *; grind
        · have c20_ : ¬ (v19_ ≠ 35) := of_decide_eq_false c20_
          refine sm_T_go 0 (c1 := (33, [some (.inr (.inr (some (13, 0)))), some (.inl f_), some (.inl k_)], [], S_)) rfl ?_
          refine ih_.2 k_ S_ hI_ hF_ ⟨?_, trivial⟩ ?_
          · refine ⟨q_, hq_, hqn_, ?_⟩
            unfold rb at *
            have hqq_ : q_ < n_ := by grind
            rw [lx_s_go hqq_] at h2_ ⊢; grind
          · rw [ek_]; rw [if_pos (by omega)]; omega
      · have c13_ : ¬ (v12_ ≠ 0) := of_decide_eq_false c13_
        refine sm_T_go 2 (c1 := (15, [some (.inr (.inr (some (13, 0)))), some (.inl f_), some (.inl k_)], [.inl k_, .inr (.inr (some (13, 0)))], S_)) rfl ?_
        refine sm_T_cal (d1 := 0) (Q1 := vq_282 k_ b_ n_ S_) rfl rfl (by decide) (vc_282 k_ b_ n_ S_ hI_ (by exact hb1_) (by exact hn2_) (by exact hn1_) (by omega)) (fun u_ S21_ p24_ => ?_)
        obtain ⟨rfl, v26_, rfl, p24_⟩ := p24_
        rw [ek_] at p24_
        refine sm_T_go 1 (c1 := (20, [some (.inr (.inr (some (13, 0)))), some (.inl f_), some (.inl k_)], [.inl 35, .inl v26_], S_)) rfl ?_
        refine sm_T_br (a := 1) (z := 43) rfl (fun c27_ => ?_) (fun c27_ => ?_)
        · have c27_ : v26_ ≠ 35 := of_decide_eq_true c27_
          refine sm_T_go 1 (c1 := (64, [some (.inr (.inr (some (13, 0)))), some (.inl f_), some (.inl k_)], [.inl k_], S_)) rfl ?_
          refine sm_T_ri rfl ⟨_, _, rfl, _, rfl, hI_, hF_, ?_⟩
          unfold rb at *
          by_cases hqq_ : q_ < n_
          · rw [lx_s_go hqq_] at h2_; grind
          · rw [lx_s_end (by omega)] at h2_; omega
        · have c27_ : ¬ (v26_ ≠ 35) := of_decide_eq_false c27_
          refine sm_T_go 2 (c1 := (25, [some (.inr (.inr (some (13, 0)))), some (.inl f_), some (.inl k_)], [.inl k_, .inr (.inr (some (13, 0)))], S_)) rfl ?_
          refine sm_T_cal (d1 := 0) (Q1 := vq_282 k_ b_ n_ S_) rfl rfl (by decide) (vc_282 k_ b_ n_ S_ hI_ (by exact hb1_) (by exact hn2_) (by exact hn1_) (by omega)) (fun u_ S28_ p31_ => ?_)
          obtain ⟨rfl, v33_, rfl, p31_⟩ := p31_
          rw [ek_] at p31_
          refine sm_T_go 1 (c1 := (30, [some (.inr (.inr (some (13, 0)))), some (.inl f_), some (.inl k_)], [.inl 35, .inl v33_], S_)) rfl ?_
          refine sm_T_br (a := 1) (z := 27) rfl (fun c34_ => ?_) (fun c34_ => ?_)
          · have c34_ : v33_ ≠ 35 := of_decide_eq_true c34_
            refine sm_T_inc (a := 2) (z := 1) (v := k_) (w := k_ + 1) rfl rfl (by omega) (by omega) (by omega) ?_
            refine sm_T_go 1 (c1 := (2, [some (.inr (.inr (some (13, 0)))), some (.inl f_), some (.inl (k_ + 1))], [], S_)) rfl ?_
            refine ih_.1 (k_ + 1) S_ hI_ hF_ ⟨?_, trivial⟩ ?_
            · unfold rb at *
              have hqq_ : q_ < n_ := by grind
              refine ⟨q_ + 1, by omega, by omega, ?_⟩
              rw [lx_s_go hqq_] at h2_; grind
            · unfold rb at *; grind
          · have c34_ : ¬ (v33_ ≠ 35) := of_decide_eq_false c34_
            refine sm_T_go 0 (c1 := (33, [some (.inr (.inr (some (13, 0)))), some (.inl f_), some (.inl k_)], [], S_)) rfl ?_
            refine ih_.2 k_ S_ hI_ hF_ ⟨?_, trivial⟩ ?_
            · refine ⟨q_, hq_, hqn_, ?_⟩
              unfold rb at *
              have hqq_ : q_ < n_ := by grind
              rw [lx_s_go hqq_] at h2_ ⊢; grind
            · rw [ek_]; rw [if_pos (by omega)]; omega
    · rintro k_ S_ hI_ hF_ ⟨h1_, -⟩ hm_
      have hb1_ : S_.2.2.1 118 0 = b_ := (fr_arr hF_ rfl).trans hb_
      have hn2_ : (S_.1 13 0 2) = (n_ : Int) := (hF_.1 13 0 2 rfl).trans hn_
      have hbb_ : ∀ k_, -128 ≤ b_ k_ ∧ b_ k_ ≤ 127 := fun k_ => by rw [← hb1_]; exact hI_.2 118 0 k_
      obtain ⟨q_, hq_, hqn_, h2_⟩ := h1_
      have ek_ : k_.toNat = q_ := by omega
      have hbq_ := hbb_ q_
      have b1_ : 0 ≤ S_.1 13 0 2 ∧ S_.1 13 0 2 ≤ 1280 := hI_.1 13 0 2 rfl
      refine sm_T_go 3 (c1 := (38, [some (.inr (.inr (some (13, 0)))), some (.inl f_), some (.inl k_)], [.inl (S_.1 13 0 2), .inl k_], S_)) rfl ?_
      refine sm_T_br (a := 3) (z := (-36)) rfl (fun c2_ => ?_) (fun c2_ => ?_)
      · have c2_ : (S_.1 13 0 2) ≤ k_ := of_decide_eq_true c2_
        refine sm_T_go 0 (c1 := (2, [some (.inr (.inr (some (13, 0)))), some (.inl f_), some (.inl k_)], [], S_)) rfl ?_
        refine ih_.1 k_ S_ hI_ hF_ ⟨?_, trivial⟩ ?_
        · refine ⟨q_, hq_, hqn_, ?_⟩
          unfold rb at *
          by_cases hqq_ : q_ < n_
          · rw [lx_s_go hqq_] at h2_ ⊢; grind
          · rw [lx_s_end (by omega)] at h2_ ⊢; exact h2_
        · unfold rb at *; grind
      · have c2_ : ¬ ((S_.1 13 0 2) ≤ k_) := of_decide_eq_false c2_
        refine sm_T_go 2 (c1 := (43, [some (.inr (.inr (some (13, 0)))), some (.inl f_), some (.inl k_)], [.inl k_, .inr (.inr (some (13, 0)))], S_)) rfl ?_
        refine sm_T_cal (d1 := 0) (Q1 := vq_282 k_ b_ n_ S_) rfl rfl (by decide) (vc_282 k_ b_ n_ S_ hI_ (by exact hb1_) (by exact hn2_) (by exact hn1_) (by omega)) (fun u_ S3_ p6_ => ?_)
        obtain ⟨rfl, v8_, rfl, p6_⟩ := p6_
        rw [ek_] at p6_
        refine sm_T_go 1 (c1 := (48, [some (.inr (.inr (some (13, 0)))), some (.inl f_), some (.inl k_)], [.inl 10, .inl v8_], S_)) rfl ?_
        refine sm_T_br (a := 0) (z := (-46)) rfl (fun c9_ => ?_) (fun c9_ => ?_)
        · have c9_ : v8_ = 10 := of_decide_eq_true c9_
          refine sm_T_go 0 (c1 := (2, [some (.inr (.inr (some (13, 0)))), some (.inl f_), some (.inl k_)], [], S_)) rfl ?_
          refine ih_.1 k_ S_ hI_ hF_ ⟨?_, trivial⟩ ?_
          · refine ⟨q_, hq_, hqn_, ?_⟩
            unfold rb at *
            by_cases hqq_ : q_ < n_
            · rw [lx_s_go hqq_] at h2_ ⊢; grind
            · rw [lx_s_end (by omega)] at h2_ ⊢; exact h2_
          · unfold rb at *; grind
        · have c9_ : ¬ (v8_ = 10) := of_decide_eq_false c9_
          refine sm_T_inc (a := 2) (z := 1) (v := k_) (w := k_ + 1) rfl rfl (by omega) (by omega) (by omega) ?_
          refine sm_T_go 1 (c1 := (33, [some (.inr (.inr (some (13, 0)))), some (.inl f_), some (.inl (k_ + 1))], [], S_)) rfl ?_
          refine ih_.2 (k_ + 1) S_ hI_ hF_ ⟨?_, trivial⟩ ?_
          · refine ⟨q_ + 1, by omega, by omega, ?_⟩
            unfold rb at *
            rw [lx_s_go (by omega)] at h2_; grind
          · unfold rb at *; grind
theorem vc_286 {sc_ : Nat × (Nat → Int)} (f_ : Int) (b_ : Nat → Int) (n_ : Nat) (p_ : Nat) (S0_ : sm_S) (hI_ : gi S0_) (hb_ : S0_.2.2.1 118 0 = b_) (hn_ : (S0_.1 13 0 2) = (n_ : Int)) (hn1_ : n_ ≤ 1280) (hp_ : f_ = (p_ : Int)) (hpn_ : p_ ≤ n_) : sm_T (mt_P sc_) 1 286 (0, [some (.inr (.inr (some (13, 0)))), some (.inl f_), none], [], S0_) (fun r_ => ∃ u_ S1_, r_ = (.inl u_, S1_, 0) ∧ vq_286 f_ b_ n_ p_ S0_ u_ S1_) := by
  have hF_ : ai_fr (sx_W vw_286) S0_ S0_ := ai_fr_rf
  refine sm_T_go 2 (c1 := (2, [some (.inr (.inr (some (13, 0)))), some (.inl f_), some (.inl f_)], [], S0_)) rfl ?_
  refine (vl_286 f_ b_ n_ p_ S0_ hb_ hn_ hn1_ hp_ hpn_ _).1 f_ S0_ hI_ hF_ ⟨?_, trivial⟩ (Nat.lt_succ_self _)
  · exact ⟨p_, hp_, hpn_, rfl⟩
/-! M_.word -/
def vw_287 : sx_Wl := ([], [], [])
def vq_287 (a_ : Int) (b_ : Int) (c_ : Int) (d_ : Int) (e_ : Int) (f_ : Int) (S0_ : sm_S) (u_ : Option sm_V) (S1_ : sm_S) : Prop := S0_ = S1_ ∧ ∃ v_ : Int, u_ = some (.inr (.inl v_)) ∧ (v_ = l_4 (l_4 (l_4 (l_4 (l_4 (l_s0 (l_i2l a_) 56) (l_s0 (l_i2l b_) 48)) (l_s0 (l_i2l c_) 40)) (l_s0 (l_i2l d_) 32)) (l_s0 (l_i2l e_) 24)) (l_s0 (l_i2l f_) 16))
theorem vc_287 {sc_ : Nat × (Nat → Int)} (a_ : Int) (b_ : Int) (c_ : Int) (d_ : Int) (e_ : Int) (f_ : Int) (S0_ : sm_S) (hI_ : gi S0_)  : sm_T (mt_P sc_) 0 287 (0, [some (.inl a_), some (.inl b_), some (.inl c_), some (.inl d_), some (.inl e_), some (.inl f_)], [], S0_) (fun r_ => ∃ u_ S1_, r_ = (.inl u_, S1_, 0) ∧ vq_287 a_ b_ c_ d_ e_ f_ S0_ u_ S1_) := by
  have hF_ : ai_fr (sx_W vw_287) S0_ S0_ := ai_fr_rf
  refine sm_T_go 29 (c1 := (37, [some (.inl a_), some (.inl b_), some (.inl c_), some (.inl d_), some (.inl e_), some (.inl f_)], [.inr (.inl (l_4 ((l_4 ((l_4 ((l_4 ((l_4 ((l_s0 ((l_i2l a_)) 56)) ((l_s0 ((l_i2l b_)) 48)))) ((l_s0 ((l_i2l c_)) 40)))) ((l_s0 ((l_i2l d_)) 32)))) ((l_s0 ((l_i2l e_)) 24)))) ((l_s0 ((l_i2l f_)) 16))))], S0_)) rfl ?_
  refine sm_T_rl rfl ⟨_, _, rfl, rfl, _, rfl, ?_⟩
  rfl
/-! M_.wordOf -/
def vw_288 : sx_Wl := ([], [], [])
def vq_288 (x_ : Int) (S0_ : sm_S) (u_ : Option sm_V) (S1_ : sm_S) : Prop := S0_ = S1_ ∧ ∃ v_ : Int, u_ = some (.inl v_) ∧ (v_ = wo x_ 7)
theorem vc_288 {sc_ : Nat × (Nat → Int)} (x_ : Int) (S0_ : sm_S) (hI_ : gi S0_)  : sm_T (mt_P sc_) 1 288 (0, [some (.inr (.inl x_)), none], [], S0_) (fun r_ => ∃ u_ S1_, r_ = (.inl u_, S1_, 0) ∧ vq_288 x_ S0_ u_ S1_) := by
  have hF_ : ai_fr (sx_W vw_288) S0_ S0_ := ai_fr_rf
  refine sm_T_go 7 (c1 := (13, [some (.inr (.inl x_)), none], [.inl 101, .inl 108, .inl 117, .inl 100, .inl 111, .inl 109, .inr (.inl x_)], S0_)) rfl ?_
  refine sm_T_cal (d1 := 0) (Q1 := vq_287 109 111 100 117 108 101 S0_) rfl rfl (by decide) (vc_287 109 111 100 117 108 101 S0_ hI_ ) (fun u_ S1_ p4_ => ?_)
  obtain ⟨rfl, v6_, rfl, p4_⟩ := p4_
  have hw0_ : v6_ = 7885631928041537536 := p4_.trans (by decide +kernel)
  refine sm_T_go 1 (c1 := (17, [some (.inr (.inl x_)), none], [.inl (sm_lcmp x_ v6_)], S0_)) rfl ?_
  refine sm_T_b0 (a := 1) (z := 7) rfl (fun c7_ => ?_) (fun c7_ => ?_)
  · have c7_ : (sm_lcmp x_ v6_) ≠ 0 := of_decide_eq_true c7_
    refine sm_T_go 7 (c1 := (33, [some (.inr (.inl x_)), none], [.inl 0, .inl 0, .inl 0, .inl 0, .inl 110, .inl 105, .inr (.inl x_)], S0_)) rfl ?_
    refine sm_T_cal (d1 := 0) (Q1 := vq_287 105 110 0 0 0 0 S0_) rfl rfl (by decide) (vc_287 105 110 0 0 0 0 S0_ hI_ ) (fun u_ S8_ p11_ => ?_)
    obtain ⟨rfl, v13_, rfl, p11_⟩ := p11_
    have hw1_ : v13_ = 7597009621420605440 := p11_.trans (by decide +kernel)
    refine sm_T_go 1 (c1 := (37, [some (.inr (.inl x_)), none], [.inl (sm_lcmp x_ v13_)], S0_)) rfl ?_
    refine sm_T_b0 (a := 1) (z := 7) rfl (fun c14_ => ?_) (fun c14_ => ?_)
    · have c14_ : (sm_lcmp x_ v13_) ≠ 0 := of_decide_eq_true c14_
      refine sm_T_go 7 (c1 := (54, [some (.inr (.inl x_)), none], [.inl 0, .inl 0, .inl 0, .inl 116, .inl 117, .inl 111, .inr (.inl x_)], S0_)) rfl ?_
      refine sm_T_cal (d1 := 0) (Q1 := vq_287 111 117 116 0 0 0 S0_) rfl rfl (by decide) (vc_287 111 117 116 0 0 0 S0_ hI_ ) (fun u_ S15_ p18_ => ?_)
      obtain ⟨rfl, v20_, rfl, p18_⟩ := p18_
      have hw2_ : v20_ = 8031453053833969664 := p18_.trans (by decide +kernel)
      refine sm_T_go 1 (c1 := (58, [some (.inr (.inl x_)), none], [.inl (sm_lcmp x_ v20_)], S0_)) rfl ?_
      refine sm_T_b0 (a := 1) (z := 7) rfl (fun c21_ => ?_) (fun c21_ => ?_)
      · have c21_ : (sm_lcmp x_ v20_) ≠ 0 := of_decide_eq_true c21_
        refine sm_T_go 7 (c1 := (75, [some (.inr (.inl x_)), none], [.inl 0, .inl 0, .inl 0, .inl 116, .inl 101, .inl 108, .inr (.inl x_)], S0_)) rfl ?_
        refine sm_T_cal (d1 := 0) (Q1 := vq_287 108 101 116 0 0 0 S0_) rfl rfl (by decide) (vc_287 108 101 116 0 0 0 S0_ hI_ ) (fun u_ S22_ p25_ => ?_)
        obtain ⟨rfl, v27_, rfl, p25_⟩ := p25_
        have hw3_ : v27_ = 7810776672092815360 := p25_.trans (by decide +kernel)
        refine sm_T_go 1 (c1 := (79, [some (.inr (.inl x_)), none], [.inl (sm_lcmp x_ v27_)], S0_)) rfl ?_
        refine sm_T_b0 (a := 1) (z := 7) rfl (fun c28_ => ?_) (fun c28_ => ?_)
        · have c28_ : (sm_lcmp x_ v27_) ≠ 0 := of_decide_eq_true c28_
          refine sm_T_go 7 (c1 := (96, [some (.inr (.inl x_)), none], [.inl 0, .inl 0, .inl 0, .inl 103, .inl 101, .inl 114, .inr (.inl x_)], S0_)) rfl ?_
          refine sm_T_cal (d1 := 0) (Q1 := vq_287 114 101 103 0 0 0 S0_) rfl rfl (by decide) (vc_287 114 101 103 0 0 0 S0_ hI_ ) (fun u_ S29_ p32_ => ?_)
          obtain ⟨rfl, v34_, rfl, p32_⟩ := p32_
          have hw4_ : v34_ = 8243107942669221888 := p32_.trans (by decide +kernel)
          refine sm_T_go 1 (c1 := (100, [some (.inr (.inl x_)), none], [.inl (sm_lcmp x_ v34_)], S0_)) rfl ?_
          refine sm_T_b0 (a := 1) (z := 7) rfl (fun c35_ => ?_) (fun c35_ => ?_)
          · have c35_ : (sm_lcmp x_ v34_) ≠ 0 := of_decide_eq_true c35_
            refine sm_T_go 7 (c1 := (117, [some (.inr (.inl x_)), none], [.inl 0, .inl 0, .inl 0, .inl 101, .inl 115, .inl 117, .inr (.inl x_)], S0_)) rfl ?_
            refine sm_T_cal (d1 := 0) (Q1 := vq_287 117 115 101 0 0 0 S0_) rfl rfl (by decide) (vc_287 117 115 101 0 0 0 S0_ hI_ ) (fun u_ S36_ p39_ => ?_)
            obtain ⟨rfl, v41_, rfl, p39_⟩ := p39_
            have hw5_ : v41_ = 8463219175433699328 := p39_.trans (by decide +kernel)
            refine sm_T_go 1 (c1 := (121, [some (.inr (.inl x_)), none], [.inl (sm_lcmp x_ v41_)], S0_)) rfl ?_
            refine sm_T_b0 (a := 1) (z := 8) rfl (fun c42_ => ?_) (fun c42_ => ?_)
            · have c42_ : (sm_lcmp x_ v41_) ≠ 0 := of_decide_eq_true c42_
              refine sm_T_go 7 (c1 := (140, [some (.inr (.inl x_)), none], [.inl 0, .inl 0, .inl 108, .inl 108, .inl 101, .inl 99, .inr (.inl x_)], S0_)) rfl ?_
              refine sm_T_cal (d1 := 0) (Q1 := vq_287 99 101 108 108 0 0 S0_) rfl rfl (by decide) (vc_287 99 101 108 108 0 0 S0_ hI_ ) (fun u_ S43_ p46_ => ?_)
              obtain ⟨rfl, v48_, rfl, p46_⟩ := p46_
              have hw6_ : v48_ = 7162249993514909696 := p46_.trans (by decide +kernel)
              refine sm_T_go 1 (c1 := (144, [some (.inr (.inl x_)), none], [.inl (sm_lcmp x_ v48_)], S0_)) rfl ?_
              refine sm_T_b0 (a := 1) (z := 8) rfl (fun c49_ => ?_) (fun c49_ => ?_)
              · have c49_ : (sm_lcmp x_ v48_) ≠ 0 := of_decide_eq_true c49_
                refine sm_T_go 1 (c1 := (153, [some (.inr (.inl x_)), none], [.inl 0], S0_)) rfl ?_
                refine sm_T_ri rfl ⟨_, _, rfl, rfl, _, rfl, ?_⟩
                simp only [lcmp0, ne_eq, Decidable.not_not] at *
                simp only [wo, wcs, List.getD_cons_zero, List.getD_cons_succ]
                grind
              · have c49_ : ¬ ((sm_lcmp x_ v48_) ≠ 0) := of_decide_eq_false c49_
                refine sm_T_go 2 (c1 := (153, [some (.inr (.inl x_)), none], [.inl 7], S0_)) rfl ?_
                refine sm_T_ri rfl ⟨_, _, rfl, rfl, _, rfl, ?_⟩
                simp only [lcmp0, ne_eq, Decidable.not_not] at *
                simp only [wo, wcs, List.getD_cons_zero, List.getD_cons_succ]
                grind
            · have c42_ : ¬ ((sm_lcmp x_ v41_) ≠ 0) := of_decide_eq_false c42_
              refine sm_T_go 2 (c1 := (153, [some (.inr (.inl x_)), none], [.inl 6], S0_)) rfl ?_
              refine sm_T_ri rfl ⟨_, _, rfl, rfl, _, rfl, ?_⟩
              simp only [lcmp0, ne_eq, Decidable.not_not] at *
              simp only [wo, wcs, List.getD_cons_zero, List.getD_cons_succ]
              grind
          · have c35_ : ¬ ((sm_lcmp x_ v34_) ≠ 0) := of_decide_eq_false c35_
            refine sm_T_go 2 (c1 := (153, [some (.inr (.inl x_)), none], [.inl 5], S0_)) rfl ?_
            refine sm_T_ri rfl ⟨_, _, rfl, rfl, _, rfl, ?_⟩
            simp only [lcmp0, ne_eq, Decidable.not_not] at *
            simp only [wo, wcs, List.getD_cons_zero, List.getD_cons_succ]
            grind
        · have c28_ : ¬ ((sm_lcmp x_ v27_) ≠ 0) := of_decide_eq_false c28_
          refine sm_T_go 2 (c1 := (153, [some (.inr (.inl x_)), none], [.inl 4], S0_)) rfl ?_
          refine sm_T_ri rfl ⟨_, _, rfl, rfl, _, rfl, ?_⟩
          simp only [lcmp0, ne_eq, Decidable.not_not] at *
          simp only [wo, wcs, List.getD_cons_zero, List.getD_cons_succ]
          grind
      · have c21_ : ¬ ((sm_lcmp x_ v20_) ≠ 0) := of_decide_eq_false c21_
        refine sm_T_go 2 (c1 := (153, [some (.inr (.inl x_)), none], [.inl 3], S0_)) rfl ?_
        refine sm_T_ri rfl ⟨_, _, rfl, rfl, _, rfl, ?_⟩
        simp only [lcmp0, ne_eq, Decidable.not_not] at *
        simp only [wo, wcs, List.getD_cons_zero, List.getD_cons_succ]
        grind
    · have c14_ : ¬ ((sm_lcmp x_ v13_) ≠ 0) := of_decide_eq_false c14_
      refine sm_T_go 2 (c1 := (153, [some (.inr (.inl x_)), none], [.inl 2], S0_)) rfl ?_
      refine sm_T_ri rfl ⟨_, _, rfl, rfl, _, rfl, ?_⟩
      simp only [lcmp0, ne_eq, Decidable.not_not] at *
      simp only [wo, wcs, List.getD_cons_zero, List.getD_cons_succ]
      grind
  · have c7_ : ¬ ((sm_lcmp x_ v6_) ≠ 0) := of_decide_eq_false c7_
    refine sm_T_go 2 (c1 := (153, [some (.inr (.inl x_)), none], [.inl 1], S0_)) rfl ?_
    refine sm_T_ri rfl ⟨_, _, rfl, rfl, _, rfl, ?_⟩
    simp only [lcmp0, ne_eq, Decidable.not_not] at *
    simp only [wo, wcs, List.getD_cons_zero, List.getD_cons_succ]
    grind
def hide (P_ : Prop) : Prop := P_
theorem hide_o {R_ : Prop} (h_ : hide R_) : R_ := h_
theorem if01 {v_ : Int} {P_ : Prop} {_ : Decidable P_} (h_ : v_ = if P_ then 1 else 0) : (v_ = 1 ∧ P_) ∨ (v_ = 0 ∧ ¬ P_) := by
  split at h_
  · left; constructor; exact h_; assumption
  · right; constructor; exact h_; assumption
theorem i_or_n (x_ y_ : Int) : -2147483648 ≤ i_or x_ y_ ∧ i_or x_ y_ ≤ 2147483647 := sm_ni_toInt _
theorem wo_b (x_ : Int) : 0 ≤ wo x_ 7 ∧ wo x_ 7 ≤ 7 := by
  simp only [wo]
  repeat' split
  all_goals omega
theorem rb_s {b_ : Nat → Int} {n_ k_ : Nat} (hb_ : -128 ≤ b_ k_ ∧ b_ k_ ≤ 127) : lx_sg (rb b_ n_ k_) ↔ k_ < n_ ∧ lx_sg (b_ k_) := by
  unfold rb
  split
  · rename_i hk_
    by_cases q_ : 0 ≤ b_ k_
    · rw [Int.emod_eq_of_lt q_ (by omega)]
      exact ⟨fun h_ => ⟨hk_, h_⟩, fun h_ => h_.2⟩
    · have e_ : b_ k_ % 256 = b_ k_ + 256 := by omega
      rw [e_]
      constructor
      · intro h_; exfalso; rcases h_ with h_ | h_ | h_ | h_ | h_ | h_ | h_ | h_ | h_ | h_ | h_ | h_ | h_ | h_ | h_ | h_ <;> omega
      · intro h_; exfalso; rcases h_.2 with h_ | h_ | h_ | h_ | h_ | h_ | h_ | h_ | h_ | h_ | h_ | h_ | h_ | h_ | h_ | h_ <;> omega
  · constructor
    · intro h_; exfalso; rcases h_ with h_ | h_ | h_ | h_ | h_ | h_ | h_ | h_ | h_ | h_ | h_ | h_ | h_ | h_ | h_ | h_ <;> omega
    · intro h_; omega
theorem tk_s1 {W_ N_ : Int} (hW_ : 1 ≤ W_ ∧ W_ ≤ 9 ∧ W_ ≠ 2) (hN_ : N_ = if W_ = 1 then 0 else W_ - 2) (h_ : N_ ≤ 0) : 1 = r_so W_ := by
  unfold r_so
  split at hN_
  · rename_i q_; rw [if_neg (by omega), if_pos q_]
  · omega
theorem tk_s6 {W_ N_ : Int} (hW_ : 1 ≤ W_ ∧ W_ ≤ 9 ∧ W_ ≠ 2) (hN_ : N_ = if W_ = 1 then 0 else W_ - 2) (h_ : 0 < N_) : 6 = r_so W_ := by
  unfold r_so
  split at hN_
  · omega
  · rename_i q_; rw [if_neg (by omega), if_neg q_, if_neg (by omega), if_pos (by omega)]
theorem tk_n {W_ N_ x_ : Int} (hW_ : 1 ≤ W_ ∧ W_ ≤ 9 ∧ W_ ≠ 2) (hN_ : N_ = if W_ = 1 then 0 else W_ - 2) : N_ = r_nu W_ x_ := by
  unfold r_nu
  split at hN_
  · rename_i q_; rw [if_pos q_]; exact hN_
  · rename_i q_; rw [if_neg q_, if_neg (by omega), if_pos (by omega)]; exact hN_
theorem tk_g {W_ : Int} (h_ : 33 ≤ W_) : 3 = r_so W_ ∧ ∀ x_, W_ = r_nu W_ x_ := by
  refine ⟨?_, fun x_ => ?_⟩
  · unfold r_so; rw [if_neg (by omega), if_neg (by omega), if_neg (by omega), if_neg (by omega)]
  · unfold r_nu; rw [if_neg (by omega), if_neg (by omega), if_neg (by omega)]
theorem lx_x_b {c_ : Int} (h_ : lx_x c_) : 1 ≤ c_ ∧ c_ < 128 := by omega
