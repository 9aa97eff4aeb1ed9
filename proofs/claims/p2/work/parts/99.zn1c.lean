/-! Mapper.isLeaf -/
def vw_94 : sx_Wl := ([], [], [])
def vq_94 (a1_ : Int) (dd_ : Nat) (S0_ : sm_S) (u_ : Option sm_V) (S1_ : sm_S) : Prop := S0_ = S1_ ∧ ∃ v_ : Int, u_ = some (.inl v_) ∧ ((v_ = 1 ∧ (a1_ < 1 + S0_.1 3 dd_ 1 + S0_.1 3 dd_ 2 ∨ S0_.2.2.1 60 0 a1_.toNat ≠ 0)) ∨ (v_ = 0 ∧ 1 + S0_.1 3 dd_ 1 + S0_.1 3 dd_ 2 ≤ a1_ ∧ S0_.2.2.1 60 0 a1_.toNat = 0))
set_option maxHeartbeats 400000 in
theorem vc_94 {sc_ : Nat × (Nat → Int)} (a1_ : Int) (dd_ : Nat) (S0_ : sm_S) (hI_ : gi S0_) (hd_ : S0_.2.1 6 0 0 = some dd_) (h1_ : 0 ≤ a1_ ∧ a1_ ≤ 1012) : sm_T (mt_P sc_) 1 94 (0, [some (.inr (.inr (some (6, 0)))), some (.inl a1_)], [], S0_) (fun ro9_ => ∃ u_ S1_, ro9_ = (.inl u_, S1_, 0) ∧ vq_94 a1_ dd_ S0_ u_ S1_) := by
  have hF_ : ai_fr (sx_W vw_94) S0_ S0_ := ai_fr_rf
  have c1_ : 0 ≤ S0_.1 3 dd_ 1 ∧ S0_.1 3 dd_ 1 ≤ 320 := hI_.1 3 dd_ 1 rfl
  have c2_ : 0 ≤ S0_.1 3 dd_ 2 ∧ S0_.1 3 dd_ 2 ≤ 100000 := hI_.1 3 dd_ 2 rfl
  refine sm_T_go 2 (c1 := (2, [some (.inr (.inr (some (6, 0)))), some (.inl a1_)], [.inr (.inr (some (6, 0))), .inl a1_], S0_)) rfl ?_
  refine sm_T_gr rfl rfl ((hF_.2.1 6 0 0 rfl).trans hd_) ?_
  refine sm_T_cal (d1 := 0) (Q1 := vq_63 dd_ S0_) rfl rfl (by decide) (vc_63 dd_ S0_ hI_ (by omega)) (fun u_ Sx1_ px4_ => ?_)
  obtain ⟨rfl, vx6_, rfl, px4_⟩ := px4_
  have f5_ := px4_
  refine sm_T_br (a := 2) (z := 12) rfl (fun cx7_ => ?_) (fun cx7_ => ?_)
  · have cx7_ : a1_ < vx6_ := of_decide_eq_true cx7_
    refine sm_T_go 2 (c1 := (25, [some (.inr (.inr (some (6, 0)))), some (.inl a1_)], [.inl 1], S0_)) rfl ?_
    refine sm_T_rz rfl (by omega) ⟨_, _, rfl, rfl, _, rfl, ?_⟩
    omega
  · have cx7_ : ¬ (a1_ < vx6_) := of_decide_eq_false cx7_
    refine sm_T_go 3 (c1 := (16, [some (.inr (.inr (some (6, 0)))), some (.inl a1_)], [.inl a1_, .inr (.inr (some (60, 0)))], S0_)) rfl ?_
    refine sm_T_iald (n := 1013) rfl rfl (by omega) (by omega) ?_
    have bx8_ : (-2147483648) ≤ S0_.2.2.1 60 0 a1_.toNat ∧ S0_.2.2.1 60 0 a1_.toNat ≤ 2147483647 := hI_.2 60 0 _
    refine sm_T_b0 (a := 0) (z := 7) rfl (fun cx9_ => ?_) (fun cx9_ => ?_)
    · have cx9_ : (S0_.2.2.1 60 0 a1_.toNat) = 0 := of_decide_eq_true cx9_
      refine sm_T_go 1 (c1 := (25, [some (.inr (.inr (some (6, 0)))), some (.inl a1_)], [.inl 0], S0_)) rfl ?_
      refine sm_T_rz rfl (by omega) ⟨_, _, rfl, rfl, _, rfl, ?_⟩
      omega
    · have cx9_ : ¬ ((S0_.2.2.1 60 0 a1_.toNat) = 0) := of_decide_eq_false cx9_
      refine sm_T_go 2 (c1 := (25, [some (.inr (.inr (some (6, 0)))), some (.inl a1_)], [.inl 1], S0_)) rfl ?_
      refine sm_T_rz rfl (by omega) ⟨_, _, rfl, rfl, _, rfl, ?_⟩
      omega
def plo (a_ b_ c_ : Int) : Int := if a_ = 2 then st_at 4 (3 * b_ + c_) else st_at 4 (3 * b_ + c_ + 6)
theorem pl2 {i_ : Int} (h_ : i_ = 0 ∨ i_ = 1 ∨ i_ = 3 ∨ i_ = 4) : 0 ≤ st_at 4 i_ ∧ st_at 4 i_ ≤ 1 := by
  rcases h_ with h_ | h_ | h_ | h_ <;> rw [h_] <;> decide
theorem pl3 {i_ : Int} (h_ : 0 ≤ i_ ∧ i_ ≤ 23) : 0 ≤ st_at 4 i_ ∧ st_at 4 i_ ≤ 2 := by
  have c_ : ∀ k_ : Fin 24, 0 ≤ st_at 4 ((k_.val : Nat) : Int) ∧ st_at 4 ((k_.val : Nat) : Int) ≤ 2 := by decide
  have q_ := c_ ⟨i_.toNat, by omega⟩
  rw [show (((⟨i_.toNat, by omega⟩ : Fin 24).val : Nat) : Int) = i_ from by show ((i_.toNat : Nat) : Int) = i_; omega] at q_
  exact q_
