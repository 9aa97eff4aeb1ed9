/-! Board.pinAt -/
def vw_14 : sx_Wl := ([], [], [])
def vq_14 (a1_ : Int) (a2_ : Int) (ii_ : Nat) (S0_ : sm_S) (u_ : Option sm_V) (S1_ : sm_S) : Prop := S0_ = S1_ ∧ ∃ v_ : Int, u_ = some (.inl v_) ∧ ((0 ≤ v_ ∧ v_ ≤ 651) ∧ v_ = S0_.2.2.1 18 (0 + ii_) ((S0_.2.2.1 19 (0 + ii_) a1_.toNat).toNat + a2_.toNat) ∧ S0_.2.2.1 17 (0 + ii_) v_.toNat = a1_)
set_option maxHeartbeats 400000 in
theorem vc_14 {sc_ : Nat × (Nat → Int)} (a1_ : Int) (a2_ : Int) (ii_ : Nat) (S0_ : sm_S) (hI_ : gi S0_) (h1_ : 0 ≤ a1_ ∧ a1_ ≤ 161) (h2_ : 0 ≤ a2_ ∧ a2_ < S0_.2.2.1 20 (0 + ii_) a1_.toNat) (hb_ : bpn ii_ S0_) : sm_T (mt_P sc_) 0 14 (0, [some (.inr (.inr (some (0, ii_)))), some (.inl a1_), some (.inl a2_)], [], S0_) (fun ro9_ => ∃ u_ S1_, ro9_ = (.inl u_, S1_, 0) ∧ vq_14 a1_ a2_ ii_ S0_ u_ S1_) := by
  have hF_ : ai_fr (sx_W vw_14) S0_ S0_ := ai_fr_rf
  have b9_ := hb_ a1_.toNat (by omega)
  have b8_ := b9_.1
  have b7_ := b9_.2 a2_.toNat (by omega)
  have c9_ : 0 ≤ S0_.2.2.1 19 (0 + ii_) a1_.toNat ∧ S0_.2.2.1 19 (0 + ii_) a1_.toNat ≤ 652 := hI_.2 19 (0 + ii_) _
  rw [show ((a1_.toNat : Nat) : Int) = a1_ by omega] at b7_
  have c8_ : 0 ≤ S0_.2.2.1 19 (0 + ii_) a1_.toNat := c9_.1
  have t9_ : (S0_.2.2.1 19 (0 + ii_) a1_.toNat + a2_).toNat = (S0_.2.2.1 19 (0 + ii_) a1_.toNat).toNat + a2_.toNat := by omega
  refine sm_T_go 5 (c1 := (9, [some (.inr (.inr (some (0, ii_)))), some (.inl a1_), some (.inl a2_)], [.inl a1_, .inr (.inr (some (19, (0 + ii_)))), .inr (.inr (some (18, (0 + ii_))))], S0_)) rfl ?_
  refine sm_T_iald (n := 162) rfl rfl (by omega) (by omega) ?_
  have bx1_ : 0 ≤ S0_.2.2.1 19 (0 + ii_) a1_.toNat ∧ S0_.2.2.1 19 (0 + ii_) a1_.toNat ≤ 652 := hI_.2 19 (0 + ii_) _
  refine sm_T_go 1 (c1 := (11, [some (.inr (.inr (some (0, ii_)))), some (.inl a1_), some (.inl a2_)], [.inl a2_, .inl (S0_.2.2.1 19 (0 + ii_) a1_.toNat), .inr (.inr (some (18, (0 + ii_))))], S0_)) rfl ?_
  refine sm_T_bin (w := (S0_.2.2.1 19 (0 + ii_) a1_.toNat) + a2_) rfl (bi_add (by omega) (by omega) (by omega)) ?_ -- pc_ 11
  refine sm_T_iald (n := 652) rfl rfl (by omega) (by omega) ?_
  have bx2_ : 0 ≤ S0_.2.2.1 18 (0 + ii_) ((S0_.2.2.1 19 (0 + ii_) a1_.toNat) + a2_).toNat ∧ S0_.2.2.1 18 (0 + ii_) ((S0_.2.2.1 19 (0 + ii_) a1_.toNat) + a2_).toNat ≤ 651 := hI_.2 18 (0 + ii_) _
  refine sm_T_ri rfl ⟨_, _, rfl, rfl, _, rfl, ?_⟩
  have v9_ := hI_.2 18 (0 + ii_) ((S0_.2.2.1 19 (0 + ii_) a1_.toNat).toNat + a2_.toNat)
  rw [t9_]
  exact ⟨⟨v9_.1, v9_.2⟩, rfl, b7_⟩
