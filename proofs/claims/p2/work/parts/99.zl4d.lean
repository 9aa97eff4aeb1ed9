/-! Layout.topOf -/
def vw_84 : sx_Wl := ([], [51], [])
def vq_84 (a1_ : Int) (ii_ : Nat) (S0_ : sm_S) (u_ : Option sm_V) (S1_ : sm_S) : Prop := ∃ v_ : Int, u_ = some (.inl v_) ∧ gi S1_ ∧ ai_fr (sx_W vw_84) S0_ S1_ ∧ (cdf ii_ S0_ S1_ ∧ ((0 ≤ v_ ∧ v_ ≤ 1999)))
set_option maxHeartbeats 400000 in
theorem vl_84 {sc_ : Nat × (Nat → Int)} (a1_ : Int) (ii_ : Nat) (S0_ : sm_S) (ha1_ : 0 ≤ a1_ ∧ a1_ ≤ 1999) : ∀ nn_ : Nat, (∀ (x2_ : Int) (x3_ : Int) (S_ : sm_S), gi S_ → ai_fr (sx_W vw_84) S0_ S_ → ((0 ≤ a1_ ∧ a1_ ≤ 1999 ∧ 0 ≤ x2_ ∧ x2_ ≤ 1999 ∧ 0 ≤ x3_ ∧ x3_ ≤ 2000) ∧ (cdf ii_ S0_ S_) ∧ True) → ((78039 * 34 + 39 * (-x3_ + 2000) + 34 : Int).toNat) < nn_ → sm_T (mt_P sc_) 0 84 (4, [some (.inr (.inr (some (4, ii_)))), some (.inl a1_), some (.inl x2_), some (.inl x3_)], [], S_) (fun ro9_ => ∃ u_ S1_, ro9_ = (.inl u_, S1_, 0) ∧ vq_84 a1_ ii_ S0_ u_ S1_)) := by
  intro nn_
  induction nn_ with
  | zero => exact fun _ _ _ _ _ _ h_ => absurd h_ (Nat.not_lt_zero _)
  | succ nn_ ih_ =>
    rintro x2_ x3_ S_ hI_ hF_ ⟨b0_, hC_, -⟩ hm_
    refine sm_T_go 2 (c1 := (8, [some (.inr (.inr (some (4, ii_)))), some (.inl a1_), some (.inl x2_), some (.inl x3_)], [.inl 2000, .inl x3_], S_)) rfl ?_
    refine sm_T_br (a := 3) (z := 43) rfl (fun cx1_ => ?_) (fun cx1_ => ?_)
    · have cx1_ : 2000 ≤ x3_ := of_decide_eq_true cx1_
      refine sm_T_go 1 (c1 := (52, [some (.inr (.inr (some (4, ii_)))), some (.inl a1_), some (.inl x2_), some (.inl x3_)], [.inl x2_], S_)) rfl ?_
      refine sm_T_ri rfl ⟨_, _, rfl, _, rfl, hI_, hF_, ?_⟩
      refine ⟨hC_, ?_⟩
      refine ⟨by omega, by omega⟩
    · have cx1_ : ¬ (2000 ≤ x3_) := of_decide_eq_false cx1_
      refine sm_T_go 3 (c1 := (16, [some (.inr (.inr (some (4, ii_)))), some (.inl a1_), some (.inl x2_), some (.inl x3_)], [.inl x2_, .inr (.inr (some (51, (0 + ii_))))], S_)) rfl ?_
      refine sm_T_iald (n := 2000) rfl rfl (by omega) (by omega) ?_
      have bx2_ : 0 ≤ S_.2.2.1 51 (0 + ii_) x2_.toNat ∧ S_.2.2.1 51 (0 + ii_) x2_.toNat ≤ 1999 := hI_.2 51 (0 + ii_) _
      refine sm_T_go 1 (c1 := (18, [some (.inr (.inr (some (4, ii_)))), some (.inl a1_), some (.inl x2_), some (.inl x3_)], [.inl x2_, .inl (S_.2.2.1 51 (0 + ii_) x2_.toNat)], S_)) rfl ?_
      refine sm_T_br (a := 0) (z := 33) rfl (fun cx3_ => ?_) (fun cx3_ => ?_)
      · have cx3_ : (S_.2.2.1 51 (0 + ii_) x2_.toNat) = x2_ := of_decide_eq_true cx3_
        refine sm_T_go 1 (c1 := (52, [some (.inr (.inr (some (4, ii_)))), some (.inl a1_), some (.inl x2_), some (.inl x3_)], [.inl x2_], S_)) rfl ?_
        refine sm_T_ri rfl ⟨_, _, rfl, _, rfl, hI_, hF_, ?_⟩
        refine ⟨hC_, ?_⟩
        refine ⟨by omega, by omega⟩
      · have cx3_ : ¬ ((S_.2.2.1 51 (0 + ii_) x2_.toNat) = x2_) := of_decide_eq_false cx3_
        refine sm_T_go 8 (c1 := (35, [some (.inr (.inr (some (4, ii_)))), some (.inl a1_), some (.inl x2_), some (.inl x3_)], [.inl x2_, .inr (.inr (some (51, (0 + ii_)))), .inr (.inr (some (51, (0 + ii_)))), .inl x2_, .inr (.inr (some (51, (0 + ii_))))], S_)) rfl ?_
        refine sm_T_iald (n := 2000) rfl rfl (by omega) (by omega) ?_
        refine sm_T_iald (n := 2000) rfl rfl (by omega) (by omega) ?_
        have bx4_ : 0 ≤ S_.2.2.1 51 (0 + ii_) (S_.2.2.1 51 (0 + ii_) x2_.toNat).toNat ∧ S_.2.2.1 51 (0 + ii_) (S_.2.2.1 51 (0 + ii_) x2_.toNat).toNat ≤ 1999 := hI_.2 51 (0 + ii_) _
        refine sm_T_iast (n := 2000) rfl rfl (by omega) (by omega) ?_
        have hIx5_ : gi (sm_aI S_ 51 (0 + ii_) x2_.toNat (S_.2.2.1 51 (0 + ii_) (S_.2.2.1 51 (0 + ii_) x2_.toNat).toNat)) := gi_aI hI_ (show 0 ≤ (S_.2.2.1 51 (0 + ii_) (S_.2.2.1 51 (0 + ii_) x2_.toNat).toNat) ∧ (S_.2.2.1 51 (0 + ii_) (S_.2.2.1 51 (0 + ii_) x2_.toNat).toNat) ≤ 1999 from ⟨by omega, by omega⟩)
        have hFx6_ : ai_fr (sx_W vw_84) S0_ (sm_aI S_ 51 (0 + ii_) x2_.toNat (S_.2.2.1 51 (0 + ii_) (S_.2.2.1 51 (0 + ii_) x2_.toNat).toNat)) := ai_fr_tr hF_ (ai_fr_aI rfl)
        have hCx7_ : cdf ii_ S0_ (sm_aI S_ 51 (0 + ii_) x2_.toNat (S_.2.2.1 51 (0 + ii_) (S_.2.2.1 51 (0 + ii_) x2_.toNat).toNat)) := cdf_aI hC_ (Or.inr (by rw [show cof 51 = 0 from rfl] <;> omega))
        refine sm_T_go 3 (c1 := (43, [some (.inr (.inr (some (4, ii_)))), some (.inl a1_), some (.inl x2_), some (.inl x3_)], [.inl x2_, .inr (.inr (some (51, (0 + ii_))))], sm_aI S_ 51 (0 + ii_) x2_.toNat (S_.2.2.1 51 (0 + ii_) (S_.2.2.1 51 (0 + ii_) x2_.toNat).toNat))) rfl ?_
        refine sm_T_iald (n := 2000) rfl rfl (by omega) (by omega) ?_
        have bx8_ : 0 ≤ (sm_aI S_ 51 (0 + ii_) x2_.toNat (S_.2.2.1 51 (0 + ii_) (S_.2.2.1 51 (0 + ii_) x2_.toNat).toNat)).2.2.1 51 (0 + ii_) x2_.toNat ∧ (sm_aI S_ 51 (0 + ii_) x2_.toNat (S_.2.2.1 51 (0 + ii_) (S_.2.2.1 51 (0 + ii_) x2_.toNat).toNat)).2.2.1 51 (0 + ii_) x2_.toNat ≤ 1999 := hIx5_.2 51 (0 + ii_) _
        refine sm_T_go 1 (c1 := (45, [some (.inr (.inr (some (4, ii_)))), some (.inl a1_), some (.inl ((sm_aI S_ 51 (0 + ii_) x2_.toNat (S_.2.2.1 51 (0 + ii_) (S_.2.2.1 51 (0 + ii_) x2_.toNat).toNat)).2.2.1 51 (0 + ii_) x2_.toNat)), some (.inl x3_)], [], sm_aI S_ 51 (0 + ii_) x2_.toNat (S_.2.2.1 51 (0 + ii_) (S_.2.2.1 51 (0 + ii_) x2_.toNat).toNat))) rfl ?_
        refine sm_T_inc (a := 3) (z := 1) (v := x3_) (w := x3_ + 1) rfl rfl (by omega) (by omega) (by omega) ?_ -- pc_ 45
        refine sm_T_go 1 (c1 := (4, [some (.inr (.inr (some (4, ii_)))), some (.inl a1_), some (.inl ((sm_aI S_ 51 (0 + ii_) x2_.toNat (S_.2.2.1 51 (0 + ii_) (S_.2.2.1 51 (0 + ii_) x2_.toNat).toNat)).2.2.1 51 (0 + ii_) x2_.toNat)), some (.inl (x3_ + 1))], [], sm_aI S_ 51 (0 + ii_) x2_.toNat (S_.2.2.1 51 (0 + ii_) (S_.2.2.1 51 (0 + ii_) x2_.toNat).toNat))) rfl ?_
        refine ih_ ((sm_aI S_ 51 (0 + ii_) x2_.toNat (S_.2.2.1 51 (0 + ii_) (S_.2.2.1 51 (0 + ii_) x2_.toNat).toNat)).2.2.1 51 (0 + ii_) x2_.toNat) (x3_ + 1) (sm_aI S_ 51 (0 + ii_) x2_.toNat (S_.2.2.1 51 (0 + ii_) (S_.2.2.1 51 (0 + ii_) x2_.toNat).toNat)) hIx5_ hFx6_ ⟨?_, ?_, trivial⟩ ?_
        · omega
        · exact hCx7_
        · omega
set_option maxHeartbeats 400000 in
theorem vc_84 {sc_ : Nat × (Nat → Int)} (a1_ : Int) (ii_ : Nat) (S0_ : sm_S) (hI_ : gi S0_) (ha1_ : 0 ≤ a1_ ∧ a1_ ≤ 1999) : sm_T (mt_P sc_) 0 84 (0, [some (.inr (.inr (some (4, ii_)))), some (.inl a1_), none, none], [], S0_) (fun ro9_ => ∃ u_ S1_, ro9_ = (.inl u_, S1_, 0) ∧ vq_84 a1_ ii_ S0_ u_ S1_) := by
  have hF_ : ai_fr (sx_W vw_84) S0_ S0_ := ai_fr_rf
  have hC_ : cdf ii_ S0_ S0_ := cdf_rf
  refine sm_T_go 4 (c1 := (4, [some (.inr (.inr (some (4, ii_)))), some (.inl a1_), some (.inl a1_), some (.inl 0)], [], S0_)) rfl ?_
  refine (vl_84 a1_ ii_ S0_ ha1_ _) a1_ 0 S0_ hI_ hF_ ⟨?_, ?_, trivial⟩ (Nat.lt_succ_self _)
  · omega
  · exact hC_
