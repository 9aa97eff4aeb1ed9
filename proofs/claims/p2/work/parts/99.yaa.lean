/-! the reference: bits; written by wip/p55/gen/vg -/
/-! M_.copyValue -/
def vw_333 : sx_Wl := ([], [138, 139], [])
def vq_333 (wd_ : Int) (oi_ : Int) (fr_ : Int) (mo_ : Int) (gl_ : Nat) (S0_ : sm_S) (u_ : Option sm_V) (S1_ : sm_S) : Prop := u_ = none ∧ gi S1_ ∧ ai_fr (sx_W vw_333) S0_ S1_ ∧ (∀ l_ : List Int, l_.length = gl_ → stk (S0_.2.2.1 138 0) l_ → stk (S1_.2.2.1 138 0) (wd_ :: l_))
set_option maxHeartbeats 400000 in
theorem vc_333 {sc_ : Nat × (Nat → Int)} (wd_ : Int) (oi_ : Int) (fr_ : Int) (mo_ : Int) (gl_ : Nat) (S0_ : sm_S) (hI_ : gi S0_) (hv_ : (S0_.1 13 0 34) = (gl_ : Int) ∧ gl_ ≤ 1000) (hmo_ : (S0_.1 13 0 27) = mo_) (hm1_ : mo_ ≠ 1) (hwd_ : 0 ≤ wd_ ∧ wd_ ≤ 8) : sm_T (mt_P sc_) 0 333 (0, [some (.inr (.inr (some (13, 0)))), some (.inl wd_), some (.inl oi_), some (.inl fr_), none], [], S0_) (fun r_ => ∃ u_ S1_, r_ = (.inl u_, S1_, 0) ∧ vq_333 wd_ oi_ fr_ mo_ gl_ S0_ u_ S1_) := by
  have hF_ : ai_fr (sx_W vw_333) S0_ S0_ := ai_fr_rf
  have bx1_ : 0 ≤ S0_.1 13 0 34 ∧ S0_.1 13 0 34 ≤ 1023 := hI_.1 13 0 34 rfl
  refine sm_T_go 5 (c1 := (9, [some (.inr (.inr (some (13, 0)))), some (.inl wd_), some (.inl oi_), some (.inl fr_), none], [.inl wd_, .inl (S0_.1 13 0 34), .inr (.inr (some (138, 0)))], S0_)) rfl ?_
  refine sm_T_iast (n := 1024) rfl rfl (by omega) (by omega) ?_
  have hIx2_ : gi (sm_aI S0_ 138 0 (S0_.1 13 0 34).toNat wd_) := gi_aI hI_ (show (-2147483648) ≤ wd_ ∧ wd_ ≤ 2147483647 from ⟨by omega, by omega⟩)
  have hFx3_ : ai_fr (sx_W vw_333) S0_ (sm_aI S0_ 138 0 (S0_.1 13 0 34).toNat wd_) := ai_fr_tr hF_ (ai_fr_aI rfl)
  have bx4_ : 0 ≤ S0_.1 13 0 27 ∧ S0_.1 13 0 27 ≤ 2 := hI_.1 13 0 27 rfl
  refine sm_T_go 8 (c1 := (25, [some (.inr (.inr (some (13, 0)))), some (.inl wd_), some (.inl oi_), some (.inl fr_), some (.inl 0)], [.inl 1, .inl (S0_.1 13 0 27)], sm_aI S0_ 138 0 (S0_.1 13 0 34).toNat wd_)) rfl ?_
  refine sm_T_br (a := 1) (z := 49) rfl (fun cx5_ => ?_) (fun cx5_ => ?_)
  · have cx5_ : (S0_.1 13 0 27) ≠ 1 := of_decide_eq_true cx5_
    refine sm_T_rv rfl ⟨_, _, rfl, rfl, hIx2_, hFx3_, ?_⟩
    intro l_ hl_ hs_
    exact stk_pu (by omega) rfl hs_
  · have cx5_ : ¬ ((S0_.1 13 0 27) ≠ 1) := of_decide_eq_false cx5_
    exfalso; omega

