/-! Reader.openUp -/
def vw_136 : sx_Wl := ([(7, 14), (7, 17), (10, 6), (10, 7)], [82, 83], [])
def vq_136 (k_ : Int) (md_ : Bool) (o_ : List (Int × Nat)) (g_ : List Int) (c_ : List Int) (b_ : Nat → Int) (n_ : Nat) (p_ : Nat) (S0_ : sm_S) (u_ : Option sm_V) (S1_ : sm_S) : Prop := u_ = none ∧ gi S1_ ∧ ai_fr (sx_W vw_136) S0_ S1_ ∧ (o_mk o_ ≠ 60 ∧ xr md_ ((k_, p_) :: o_) g_ c_ S1_)
def vx_136 (k_ : Int) (md_ : Bool) (o_ : List (Int × Nat)) (g_ : List Int) (c_ : List Int) (b_ : Nat → Int) (n_ : Nat) (p_ : Nat) (S0_ : sm_S) (S1_ : sm_S) : Prop := gi S1_ ∧ ai_fr (sx_W vw_136) S0_ S1_ ∧ (o_mk o_ = 60 ∧ ter S1_ (3, p_))
set_option maxHeartbeats 400000 in
theorem vc_136 {sc_ : Nat × (Nat → Int)} (k_ : Int) (md_ : Bool) (o_ : List (Int × Nat)) (g_ : List Int) (c_ : List Int) (b_ : Nat → Int) (n_ : Nat) (p_ : Nat) (S0_ : sm_S) (hI_ : gi S0_) (hx_ : xr md_ o_ g_ c_ S0_) (hc_ : ct b_ n_ p_ S0_) (hk_ : -4 ≤ k_ ∧ k_ ≤ -1) (ho_ : o_.length ≤ 487) : sm_T (mt_P sc_) 1 136 (0, [some (.inr (.inr (some (7, 0)))), some (.inl k_)], [], S0_) (fun r_ => (∃ u_ S1_, r_ = (.inl u_, S1_, 0) ∧ vq_136 k_ md_ o_ g_ c_ b_ n_ p_ S0_ u_ S1_) ∨ ∃ S1_, r_ = (.inr 2, S1_, 1) ∧ vx_136 k_ md_ o_ g_ c_ b_ n_ p_ S0_ S1_) := by
  have hF_ : ai_fr (sx_W vw_136) S0_ S0_ := ai_fr_rf
  obtain ⟨hx0_, hx1_⟩ := id hx_
  have e3_ := hc_.2.2.2.2.2.1
  have hn1_ := hc_.2.2.1
  have hp1_ := hc_.2.2.2.1
  have bx1_ : 0 ≤ S0_.1 7 0 17 ∧ S0_.1 7 0 17 ≤ 60 := hI_.1 7 0 17 rfl
  refine sm_T_go 3 (c1 := (6, [some (.inr (.inr (some (7, 0)))), some (.inl k_)], [.inl 60, .inl (S0_.1 7 0 17)], S0_)) rfl ?_
  refine sm_T_br (a := 1) (z := 18) rfl (fun cx2_ => ?_) (fun cx2_ => ?_)
  · have cx2_ : (S0_.1 7 0 17) ≠ 60 := of_decide_eq_true cx2_
    refine sm_T_go 4 (c1 := (30, [some (.inr (.inr (some (7, 0)))), some (.inl k_)], [.inl 1, .inl (S0_.1 7 0 17), .inr (.inr (some (7, 0)))], S0_)) rfl ?_
    refine sm_T_bin (w := (S0_.1 7 0 17) + 1) rfl (bi_add (by omega) (by omega) (by omega)) ?_
    have hIx3_ : gi (sm_pI S0_ 7 0 17 ((S0_.1 7 0 17) + 1)) := gi_pI hI_ (show 0 ≤ (S0_.1 7 0 17) + 1 ∧ (S0_.1 7 0 17) + 1 ≤ 60 from ⟨by omega, by omega⟩)
    have hFx4_ : ai_fr (sx_W vw_136) S0_ (sm_pI S0_ 7 0 17 ((S0_.1 7 0 17) + 1)) := ai_fr_tr hF_ (ai_fr_pI rfl)
    refine sm_T_go 3 (c1 := (36, [some (.inr (.inr (some (7, 0)))), some (.inl k_)], [.inl k_, .inr (.inr (some (7, 0)))], sm_pI S0_ 7 0 17 ((S0_.1 7 0 17) + 1))) rfl ?_
    refine sm_T_cal (d1 := 0) (Q1 := vq_137 k_ md_ o_ g_ c_ b_ n_ p_ (sm_pI S0_ 7 0 17 ((S0_.1 7 0 17) + 1))) rfl rfl (by decide) (vc_137 k_ md_ o_ g_ c_ b_ n_ p_ (sm_pI S0_ 7 0 17 ((S0_.1 7 0 17) + 1)) hIx3_ (by exact hx0_) (by exact hc_) (by omega) (by exact ho_)) (fun u_ Sx5_ px8_ => ?_)
    obtain ⟨rfl, hIx6_, hFx7_, px8_⟩ := px8_
    have hFx9_ : ai_fr (sx_W vw_136) S0_ Sx5_ := ai_fr_tr hFx4_ (fr_le hFx7_ rfl)
    have e36_ := px8_
    have f36_ := hFx7_.1 7 0 17 rfl
    refine sm_T_rv rfl (Or.inl ⟨_, _, rfl, rfl, hIx6_, hFx9_, ?_⟩)
    refine ⟨by omega, e36_, ?_⟩
    rw [f36_]
    (try simp only [rd_eq, rd_ne, rf_eq, rf_nk, rf_nt, rd_fa, rd_af, rd_fl, rd_al, rd_lf, rd_la, rd_leq, rd_lne, rd_fr, rd_ar, ne_eq, Nat.reduceEqDiff, not_false_eq_true])
    show _ = (((if k_ < 0 then 1 else 0) + o_mk o_ : Nat) : Int)
    rw [if_pos (by omega)]
    push_cast
    omega
  · have cx2_ : ¬ ((S0_.1 7 0 17) ≠ 60) := of_decide_eq_false cx2_
    have bx10_ : 0 ≤ S0_.1 10 0 3 ∧ S0_.1 10 0 3 ≤ 1280 := hI_.1 10 0 3 rfl
    refine sm_T_go 6 (c1 := (21, [some (.inr (.inr (some (7, 0)))), some (.inl k_)], [.inl (S0_.1 10 0 3), .inl 3, .inr (.inr (some (10, 0)))], S0_)) rfl ?_
    refine sm_T_calx (d1 := 0) (Q1 := vq_187 3 (S0_.1 10 0 3) S0_) (Q2 := vx_187 3 (S0_.1 10 0 3) S0_) rfl rfl (by decide) (vc_187 3 (S0_.1 10 0 3) S0_ hI_ (by decide) (by omega)) rfl (fun Sx11_ px14_ => ?_) (fun u_ Sx11_ px14_ => ?_)
    · obtain ⟨hIx12_, hFx13_, px14_⟩ := px14_
      refine Or.inr ⟨_, rfl, hIx12_, ai_fr_tr hF_ (fr_le hFx13_ rfl), ?_⟩
      exact ⟨by omega, px14_.1, px14_.2.trans e3_⟩
    · exact (px14_.2.2.2).elim
