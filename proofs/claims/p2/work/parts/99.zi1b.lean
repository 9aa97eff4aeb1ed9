/-! M_.base -/
def vw_350 : sx_Wl := ([], [], [])
def vq_350 (k_ : Int) (w_ : Int) (S0_ : sm_S) (u_ : Option sm_V) (S1_ : sm_S) : Prop := S0_ = S1_ ∧ ∃ v_ : Int, u_ = some (.inr (.inl v_)) ∧ (lcn v_)
set_option maxHeartbeats 400000 in
theorem vc_350 {sc_ : Nat × (Nat → Int)} (k_ : Int) (w_ : Int) (S0_ : sm_S) (hI_ : gi S0_) (hb_ : 0 ≤ k_ ∧ k_ ≤ 11) (hw_ : 0 ≤ w_ ∧ w_ ≤ 63) : sm_T (mt_P sc_) 0 350 (0, [some (.inl k_), some (.inl w_)], [], S0_) (fun ro9_ => ∃ u_ S1_, ro9_ = (.inl u_, S1_, 0) ∧ vq_350 k_ w_ S0_ u_ S1_) := by
  have hF_ : ai_fr (sx_W vw_350) S0_ S0_ := ai_fr_rf
  refine sm_T_go 1 (c1 := (1, [some (.inl k_), some (.inl w_)], [.inl k_], S0_)) rfl ?_
  by_cases cx1_ : k_ = 0
  · refine sm_T_sw (t := 40) rfl rfl (by rw [cx1_]; rfl) ?_
    refine sm_T_nt (u := some (.inr (.inl (-6148914691236517206)))) (S1 := S0_) rfl rfl rfl ?_
    refine sm_T_rl rfl ⟨_, _, rfl, rfl, _, rfl, ?_⟩
    first | exact lcn_c.1 | exact lcn_c.2.1 | exact lcn_c.2.2.1 | exact lcn_c.2.2.2.1 | exact lcn_c.2.2.2.2.1 | exact lcn_c.2.2.2.2.2.1 | exact lcn_c.2.2.2.2.2.2.1 | exact lcn_c.2.2.2.2.2.2.2
  by_cases cx2_ : k_ = 1
  · refine sm_T_sw (t := 44) rfl rfl (by rw [cx2_]; rfl) ?_
    refine sm_T_nt (u := some (.inr (.inl (-3689348814741910324)))) (S1 := S0_) rfl rfl rfl ?_
    refine sm_T_rl rfl ⟨_, _, rfl, rfl, _, rfl, ?_⟩
    first | exact lcn_c.1 | exact lcn_c.2.1 | exact lcn_c.2.2.1 | exact lcn_c.2.2.2.1 | exact lcn_c.2.2.2.2.1 | exact lcn_c.2.2.2.2.2.1 | exact lcn_c.2.2.2.2.2.2.1 | exact lcn_c.2.2.2.2.2.2.2
  by_cases cx3_ : k_ = 2
  · refine sm_T_sw (t := 48) rfl rfl (by rw [cx3_]; rfl) ?_
    refine sm_T_nt (u := some (.inr (.inl (-1085102592571150096)))) (S1 := S0_) rfl rfl rfl ?_
    refine sm_T_rl rfl ⟨_, _, rfl, rfl, _, rfl, ?_⟩
    first | exact lcn_c.1 | exact lcn_c.2.1 | exact lcn_c.2.2.1 | exact lcn_c.2.2.2.1 | exact lcn_c.2.2.2.2.1 | exact lcn_c.2.2.2.2.2.1 | exact lcn_c.2.2.2.2.2.2.1 | exact lcn_c.2.2.2.2.2.2.2
  by_cases cx4_ : k_ = 3
  · refine sm_T_sw (t := 52) rfl rfl (by rw [cx4_]; rfl) ?_
    refine sm_T_nt (u := some (.inr (.inl (-71777214294589696)))) (S1 := S0_) rfl rfl rfl ?_
    refine sm_T_rl rfl ⟨_, _, rfl, rfl, _, rfl, ?_⟩
    first | exact lcn_c.1 | exact lcn_c.2.1 | exact lcn_c.2.2.1 | exact lcn_c.2.2.2.1 | exact lcn_c.2.2.2.2.1 | exact lcn_c.2.2.2.2.2.1 | exact lcn_c.2.2.2.2.2.2.1 | exact lcn_c.2.2.2.2.2.2.2
  by_cases cx5_ : k_ = 4
  · refine sm_T_sw (t := 56) rfl rfl (by rw [cx5_]; rfl) ?_
    refine sm_T_nt (u := some (.inr (.inl (-281470681808896)))) (S1 := S0_) rfl rfl rfl ?_
    refine sm_T_rl rfl ⟨_, _, rfl, rfl, _, rfl, ?_⟩
    first | exact lcn_c.1 | exact lcn_c.2.1 | exact lcn_c.2.2.1 | exact lcn_c.2.2.2.1 | exact lcn_c.2.2.2.2.1 | exact lcn_c.2.2.2.2.2.1 | exact lcn_c.2.2.2.2.2.2.1 | exact lcn_c.2.2.2.2.2.2.2
  by_cases cx6_ : k_ = 5
  · refine sm_T_sw (t := 60) rfl rfl (by rw [cx6_]; rfl) ?_
    refine sm_T_nt (u := some (.inr (.inl (-4294967296)))) (S1 := S0_) rfl rfl rfl ?_
    refine sm_T_rl rfl ⟨_, _, rfl, rfl, _, rfl, ?_⟩
    first | exact lcn_c.1 | exact lcn_c.2.1 | exact lcn_c.2.2.1 | exact lcn_c.2.2.2.1 | exact lcn_c.2.2.2.2.1 | exact lcn_c.2.2.2.2.2.1 | exact lcn_c.2.2.2.2.2.2.1 | exact lcn_c.2.2.2.2.2.2.2
  refine sm_T_sw (t := 64) rfl rfl (by (have hh_ : k_ < 0 ∨ 6 ≤ k_ := by omega); rcases hh_ with hh_ | hh_; (exact sm_swd (Or.inl hh_)); (exact sm_swd (Or.inr (by simp only [List.length_cons, List.length_nil]; omega)))) ?_
  refine sm_T_go 3 (c1 := (68, [some (.inl k_), some (.inl w_)], [.inl 6, .inl k_, .inl w_], S0_)) rfl ?_
  refine sm_T_bin (w := k_ - 6) rfl (bi_sub (by omega) (by omega) (by omega)) ?_
  refine sm_T_bin (w := (i_shr w_ (k_ - 6))) rfl rfl ?_
  refine sm_T_go 1 (c1 := (71, [some (.inl k_), some (.inl w_)], [.inl 1, .inl (i_shr w_ (k_ - 6))], S0_)) rfl ?_
  refine sm_T_bin (w := ((i_shr w_ (k_ - 6)) % 2)) rfl (bi_msk (k := 1) (by decide)) ?_
  refine sm_T_go 1 (c1 := (73, [some (.inl k_), some (.inl w_)], [.inl 1, .inl ((i_shr w_ (k_ - 6)) % 2)], S0_)) rfl ?_
  refine sm_T_br (a := 1) (z := 9) rfl (fun cx7_ => ?_) (fun cx7_ => ?_)
  · have cx7_ : ((i_shr w_ (k_ - 6)) % 2) ≠ 1 := of_decide_eq_true cx7_
    refine sm_T_go 1 (c1 := (83, [some (.inl k_), some (.inl w_)], [.inr (.inl 0)], S0_)) rfl ?_
    refine sm_T_rl rfl ⟨_, _, rfl, rfl, _, rfl, ?_⟩
    first | exact lcn_c.1 | exact lcn_c.2.1 | exact lcn_c.2.2.1 | exact lcn_c.2.2.2.1 | exact lcn_c.2.2.2.2.1 | exact lcn_c.2.2.2.2.2.1 | exact lcn_c.2.2.2.2.2.2.1 | exact lcn_c.2.2.2.2.2.2.2
  · have cx7_ : ¬ (((i_shr w_ (k_ - 6)) % 2) ≠ 1) := of_decide_eq_false cx7_
    refine sm_T_nt (u := some (.inr (.inl (-1)))) (S1 := S0_) rfl rfl rfl ?_
    refine sm_T_go 1 (c1 := (83, [some (.inl k_), some (.inl w_)], [.inr (.inl (-1))], S0_)) rfl ?_
    refine sm_T_rl rfl ⟨_, _, rfl, rfl, _, rfl, ?_⟩
    first | exact lcn_c.1 | exact lcn_c.2.1 | exact lcn_c.2.2.1 | exact lcn_c.2.2.2.1 | exact lcn_c.2.2.2.2.1 | exact lcn_c.2.2.2.2.2.1 | exact lcn_c.2.2.2.2.2.2.1 | exact lcn_c.2.2.2.2.2.2.2
