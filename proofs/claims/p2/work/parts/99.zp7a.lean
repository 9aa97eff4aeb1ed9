/-! the face of the class: tests; written by wip/p55/gen/vg -/
/-! Chip.isPattern -/
def vw_61p : sx_Wl := ([], [], [])
def vq_61p (a1_ : Int) (ii_ : Nat) (S0_ : sm_S) (u_ : Option sm_V) (S1_ : sm_S) : Prop := S0_ = S1_ ∧ ∃ v_ : Int, u_ = some (.inl v_) ∧ ((v_ = 0 ∨ v_ = 1) ∧ imq (v_ = 1) (0 ≤ a1_ ∧ a1_ ≤ 4095))
set_option maxHeartbeats 400000 in
theorem vc_61p {sc_ : Nat × (Nat → Int)} (a1_ : Int) (ii_ : Nat) (S0_ : sm_S) (hI_ : gi S0_) (hs_ : S0_.1 2 ii_ 1 + S0_.1 2 ii_ 2 ≤ 12) : sm_T (mt_P sc_) 0 61 (0, [some (.inr (.inr (some (2, ii_)))), some (.inl a1_)], [], S0_) (fun ro9_ => ∃ u_ S1_, ro9_ = (.inl u_, S1_, 0) ∧ vq_61p a1_ ii_ S0_ u_ S1_) := by
  have hF_ : ai_fr (sx_W vw_61p) S0_ S0_ := ai_fr_rf
  have c1_ : 0 ≤ S0_.1 2 ii_ 1 ∧ S0_.1 2 ii_ 1 ≤ 12 := hI_.1 2 ii_ 1 rfl
  have c2_ : 0 ≤ S0_.1 2 ii_ 2 ∧ S0_.1 2 ii_ 2 ≤ 6 := hI_.1 2 ii_ 2 rfl
  refine sm_T_go 1 (c1 := (1, [some (.inr (.inr (some (2, ii_)))), some (.inl a1_)], [.inl a1_], S0_)) rfl ?_
  refine sm_T_b0 (a := 2) (z := 22) rfl (fun cx1_ => ?_) (fun cx1_ => ?_)
  · have cx1_ : a1_ < 0 := of_decide_eq_true cx1_
    refine sm_T_go 1 (c1 := (24, [some (.inr (.inr (some (2, ii_)))), some (.inl a1_)], [.inl 0], S0_)) rfl ?_
    refine sm_T_rz rfl (by omega) ⟨_, _, rfl, rfl, _, rfl, ?_⟩
    first | exact ⟨Or.inr rfl, fun _ => ⟨by omega, by omega⟩⟩ | exact ⟨Or.inl rfl, fun q9_ => absurd q9_ (by decide)⟩
  · have cx1_ : ¬ (a1_ < 0) := of_decide_eq_false cx1_
    have bx2_ : 0 ≤ S0_.1 2 ii_ 1 ∧ S0_.1 2 ii_ 1 ≤ 12 := hI_.1 2 ii_ 1 rfl
    have bx3_ : 0 ≤ S0_.1 2 ii_ 2 ∧ S0_.1 2 ii_ 2 ≤ 6 := hI_.1 2 ii_ 2 rfl
    refine sm_T_go 6 (c1 := (14, [some (.inr (.inr (some (2, ii_)))), some (.inl a1_)], [.inl (S0_.1 2 ii_ 2), .inl (S0_.1 2 ii_ 1), .inl 1, .inl a1_], S0_)) rfl ?_
    refine sm_T_bin (w := (S0_.1 2 ii_ 1) + (S0_.1 2 ii_ 2)) rfl (bi_add (by omega) (by omega) (by omega)) ?_ -- pc_ 14
    refine sm_T_bin (w := (i_shl 1 ((S0_.1 2 ii_ 1) + (S0_.1 2 ii_ 2)))) rfl rfl ?_ -- pc_ 15
    have bx4_ := i_shl1 (e := ((S0_.1 2 ii_ 1) + (S0_.1 2 ii_ 2))) (by omega) (by omega)
    have hp8_ := pw_le (n := (((S0_.1 2 ii_ 1) + (S0_.1 2 ii_ 2))).toNat) (m := 12) (by omega)
    refine sm_T_br (a := 3) (z := 7) rfl (fun cx6_ => ?_) (fun cx6_ => ?_)
    · have cx6_ : (i_shl 1 ((S0_.1 2 ii_ 1) + (S0_.1 2 ii_ 2))) ≤ a1_ := of_decide_eq_true cx6_
      refine sm_T_go 1 (c1 := (24, [some (.inr (.inr (some (2, ii_)))), some (.inl a1_)], [.inl 0], S0_)) rfl ?_
      refine sm_T_rz rfl (by omega) ⟨_, _, rfl, rfl, _, rfl, ?_⟩
      first | exact ⟨Or.inr rfl, fun _ => ⟨by omega, by omega⟩⟩ | exact ⟨Or.inl rfl, fun q9_ => absurd q9_ (by decide)⟩
    · have cx6_ : ¬ ((i_shl 1 ((S0_.1 2 ii_ 1) + (S0_.1 2 ii_ 2))) ≤ a1_) := of_decide_eq_false cx6_
      refine sm_T_go 2 (c1 := (24, [some (.inr (.inr (some (2, ii_)))), some (.inl a1_)], [.inl 1], S0_)) rfl ?_
      refine sm_T_rz rfl (by omega) ⟨_, _, rfl, rfl, _, rfl, ?_⟩
      first | exact ⟨Or.inr rfl, fun _ => ⟨by omega, by omega⟩⟩ | exact ⟨Or.inl rfl, fun q9_ => absurd q9_ (by decide)⟩
