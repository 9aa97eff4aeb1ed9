/-! why calls of the class throw; written by wip/p55/gen/vg -/
/-! ChipFlow.designAt -/
def vw_270t : sx_Wl := ([], [], [])
def vq_270t (k_ : Int) (S0_ : sm_S) (u_ : Option sm_V) (S1_ : sm_S) : Prop := u_ = some (.inr (.inr (some (3, k_.toNat)))) ∧ gi S1_ ∧ ai_fr (sx_W vw_270t) S0_ S1_ ∧ (S0_ = S1_ ∧ (0 ≤ k_ ∧ k_ < 6) ∧ S0_.1 3 k_.toNat 0 = 1)
def vx_270t (k_ : Int) (S0_ : sm_S) (S1_ : sm_S) : Prop := gi S1_ ∧ ai_fr (sx_W vw_270t) S0_ S1_ ∧ (S1_ = S0_ ∧ ¬ (0 ≤ k_ ∧ k_ < 6 ∧ S0_.1 3 k_.toNat 0 = 1))
set_option maxHeartbeats 400000 in
theorem vc_270t {sc_ : Nat × (Nat → Int)} (k_ : Int) (S0_ : sm_S) (hI_ : gi S0_)  : sm_T (mt_P sc_) 1 270 (0, [some (.inr (.inr (some (12, 0)))), some (.inl k_)], [], S0_) (fun ro9_ => (∃ u_ S1_, ro9_ = (.inl u_, S1_, 0) ∧ vq_270t k_ S0_ u_ S1_) ∨ ∃ ex_ S1_, ro9_ = (.inr ex_, S1_, 1) ∧ ex_ ∈ ([0] : List Nat) ∧ vx_270t k_ S0_ S1_) := by
  have hF_ : ai_fr (sx_W vw_270t) S0_ S0_ := ai_fr_rf
  refine sm_T_go 1 (c1 := (1, [some (.inr (.inr (some (12, 0)))), some (.inl k_)], [.inl k_], S0_)) rfl ?_
  refine sm_T_b0 (a := 2) (z := 25) rfl (fun cx1_ => ?_) (fun cx1_ => ?_)
  · have cx1_ : k_ < 0 := of_decide_eq_true cx1_
    refine sm_T_go 1 (c1 := (27, [some (.inr (.inr (some (12, 0)))), some (.inl k_)], [.inl 0], S0_)) rfl ?_
    refine sm_T_cale (d1_ := 0) (Q1_ := vq_265e 0 S0_) (Q2_ := (fun ex_ S1_ => ex_ ∈ ([0] : List Nat) ∧ vx_265e 0 S0_ S1_)) rfl rfl (by decide) (vc_265e 0 S0_ hI_ ) rfl (fun xx7_ Sx2_ px5_ => ?_) (fun u_ Sx2_ px5_ => ?_)
    · obtain ⟨px5m, hIx3_, hFx4_, px5_⟩ := px5_
      refine Or.inr ⟨_, _, rfl, by first | exact px5m | (simp only [List.mem_cons, List.not_mem_nil, or_false] at px5m ⊢; omega), hIx3_, ai_fr_tr hF_ (fr_le hFx4_ rfl), ?_⟩
      exact ⟨px5_.2, by (have y9_ := px5_.1; omega)⟩
    · exact absurd rfl px5_.2.2.2.1
  · have cx1_ : ¬ (k_ < 0) := of_decide_eq_false cx1_
    refine sm_T_go 2 (c1 := (7, [some (.inr (.inr (some (12, 0)))), some (.inl k_)], [.inl 6, .inl k_], S0_)) rfl ?_
    refine sm_T_br (a := 3) (z := 19) rfl (fun cx8_ => ?_) (fun cx8_ => ?_)
    · have cx8_ : 6 ≤ k_ := of_decide_eq_true cx8_
      refine sm_T_go 1 (c1 := (27, [some (.inr (.inr (some (12, 0)))), some (.inl k_)], [.inl 0], S0_)) rfl ?_
      refine sm_T_cale (d1_ := 0) (Q1_ := vq_265e 0 S0_) (Q2_ := (fun ex_ S1_ => ex_ ∈ ([0] : List Nat) ∧ vx_265e 0 S0_ S1_)) rfl rfl (by decide) (vc_265e 0 S0_ hI_ ) rfl (fun xx14_ Sx9_ px12_ => ?_) (fun u_ Sx9_ px12_ => ?_)
      · obtain ⟨px12m, hIx10_, hFx11_, px12_⟩ := px12_
        refine Or.inr ⟨_, _, rfl, by first | exact px12m | (simp only [List.mem_cons, List.not_mem_nil, or_false] at px12m ⊢; omega), hIx10_, ai_fr_tr hF_ (fr_le hFx11_ rfl), ?_⟩
        exact ⟨px12_.2, by (have y9_ := px12_.1; omega)⟩
      · exact absurd rfl px12_.2.2.2.1
    · have cx8_ : ¬ (6 ≤ k_) := of_decide_eq_false cx8_
      refine sm_T_go 3 (c1 := (15, [some (.inr (.inr (some (12, 0)))), some (.inl k_)], [.inl k_, .inr (.inr (some (110, 0)))], S0_)) rfl ?_
      refine sm_T_aald (t0 := 4) (n := 6) rfl rfl (by omega) (by omega) ?_
      have bx15_ : 0 ≤ S0_.1 3 k_.toNat 0 ∧ S0_.1 3 k_.toNat 0 ≤ 1 := hI_.1 3 k_.toNat 0 rfl
      refine sm_T_go 1 (c1 := (19, [some (.inr (.inr (some (12, 0)))), some (.inl k_)], [.inl (S0_.1 3 k_.toNat 0)], S0_)) rfl ?_
      refine sm_T_b0 (a := 0) (z := 7) rfl (fun cx16_ => ?_) (fun cx16_ => ?_)
      · have cx16_ : (S0_.1 3 k_.toNat 0) = 0 := of_decide_eq_true cx16_
        refine sm_T_go 1 (c1 := (27, [some (.inr (.inr (some (12, 0)))), some (.inl k_)], [.inl 0], S0_)) rfl ?_
        refine sm_T_cale (d1_ := 0) (Q1_ := vq_265e 0 S0_) (Q2_ := (fun ex_ S1_ => ex_ ∈ ([0] : List Nat) ∧ vx_265e 0 S0_ S1_)) rfl rfl (by decide) (vc_265e 0 S0_ hI_ ) rfl (fun xx22_ Sx17_ px20_ => ?_) (fun u_ Sx17_ px20_ => ?_)
        · obtain ⟨px20m, hIx18_, hFx19_, px20_⟩ := px20_
          refine Or.inr ⟨_, _, rfl, by first | exact px20m | (simp only [List.mem_cons, List.not_mem_nil, or_false] at px20m ⊢; omega), hIx18_, ai_fr_tr hF_ (fr_le hFx19_ rfl), ?_⟩
          exact ⟨px20_.2, by (have y9_ := px20_.1; omega)⟩
        · exact absurd rfl px20_.2.2.2.1
      · have cx16_ : ¬ ((S0_.1 3 k_.toNat 0) = 0) := of_decide_eq_false cx16_
        refine sm_T_go 2 (c1 := (27, [some (.inr (.inr (some (12, 0)))), some (.inl k_)], [.inl 1], S0_)) rfl ?_
        refine sm_T_cale (d1_ := 0) (Q1_ := vq_265e 1 S0_) (Q2_ := (fun ex_ S1_ => ex_ ∈ ([0] : List Nat) ∧ vx_265e 1 S0_ S1_)) rfl rfl (by decide) (vc_265e 1 S0_ hI_ ) rfl (fun xx28_ Sx23_ px26_ => ?_) (fun u_ Sx23_ px26_ => ?_)
        · exact absurd px26_.2.2.2.1 (by decide)
        obtain ⟨rfl, -, -, px26_, rfl⟩ := px26_
        refine sm_T_go 3 (c1 := (35, [some (.inr (.inr (some (12, 0)))), some (.inl k_)], [.inl k_, .inr (.inr (some (110, 0)))], S0_)) rfl ?_
        refine sm_T_aald (t0 := 4) (n := 6) rfl rfl (by omega) (by omega) ?_
        refine sm_T_ra rfl (Or.inl ⟨_, _, rfl, rfl, hI_, hF_, ?_⟩)
        exact ⟨rfl, by omega, by omega⟩
/-! ChipFlow.libraryAt -/
def vw_271t : sx_Wl := ([], [], [])
def vq_271t (k_ : Int) (S0_ : sm_S) (u_ : Option sm_V) (S1_ : sm_S) : Prop := u_ = some (.inr (.inr (some (5, k_.toNat)))) ∧ gi S1_ ∧ ai_fr (sx_W vw_271t) S0_ S1_ ∧ (S0_ = S1_ ∧ (0 ≤ k_ ∧ k_ < 3) ∧ S0_.1 5 k_.toNat 0 = 1)
def vx_271t (k_ : Int) (S0_ : sm_S) (S1_ : sm_S) : Prop := gi S1_ ∧ ai_fr (sx_W vw_271t) S0_ S1_ ∧ (S1_ = S0_ ∧ ¬ (0 ≤ k_ ∧ k_ < 3 ∧ S0_.1 5 k_.toNat 0 = 1))
set_option maxHeartbeats 400000 in
theorem vc_271t {sc_ : Nat × (Nat → Int)} (k_ : Int) (S0_ : sm_S) (hI_ : gi S0_)  : sm_T (mt_P sc_) 1 271 (0, [some (.inr (.inr (some (12, 0)))), some (.inl k_)], [], S0_) (fun ro9_ => (∃ u_ S1_, ro9_ = (.inl u_, S1_, 0) ∧ vq_271t k_ S0_ u_ S1_) ∨ ∃ ex_ S1_, ro9_ = (.inr ex_, S1_, 1) ∧ ex_ ∈ ([0] : List Nat) ∧ vx_271t k_ S0_ S1_) := by
  have hF_ : ai_fr (sx_W vw_271t) S0_ S0_ := ai_fr_rf
  refine sm_T_go 1 (c1 := (1, [some (.inr (.inr (some (12, 0)))), some (.inl k_)], [.inl k_], S0_)) rfl ?_
  refine sm_T_b0 (a := 2) (z := 24) rfl (fun cx1_ => ?_) (fun cx1_ => ?_)
  · have cx1_ : k_ < 0 := of_decide_eq_true cx1_
    refine sm_T_go 1 (c1 := (26, [some (.inr (.inr (some (12, 0)))), some (.inl k_)], [.inl 0], S0_)) rfl ?_
    refine sm_T_cale (d1_ := 0) (Q1_ := vq_265e 0 S0_) (Q2_ := (fun ex_ S1_ => ex_ ∈ ([0] : List Nat) ∧ vx_265e 0 S0_ S1_)) rfl rfl (by decide) (vc_265e 0 S0_ hI_ ) rfl (fun xx7_ Sx2_ px5_ => ?_) (fun u_ Sx2_ px5_ => ?_)
    · obtain ⟨px5m, hIx3_, hFx4_, px5_⟩ := px5_
      refine Or.inr ⟨_, _, rfl, by first | exact px5m | (simp only [List.mem_cons, List.not_mem_nil, or_false] at px5m ⊢; omega), hIx3_, ai_fr_tr hF_ (fr_le hFx4_ rfl), ?_⟩
      exact ⟨px5_.2, by (have y9_ := px5_.1; omega)⟩
    · exact absurd rfl px5_.2.2.2.1
  · have cx1_ : ¬ (k_ < 0) := of_decide_eq_false cx1_
    refine sm_T_go 2 (c1 := (6, [some (.inr (.inr (some (12, 0)))), some (.inl k_)], [.inl 3, .inl k_], S0_)) rfl ?_
    refine sm_T_br (a := 3) (z := 19) rfl (fun cx8_ => ?_) (fun cx8_ => ?_)
    · have cx8_ : 3 ≤ k_ := of_decide_eq_true cx8_
      refine sm_T_go 1 (c1 := (26, [some (.inr (.inr (some (12, 0)))), some (.inl k_)], [.inl 0], S0_)) rfl ?_
      refine sm_T_cale (d1_ := 0) (Q1_ := vq_265e 0 S0_) (Q2_ := (fun ex_ S1_ => ex_ ∈ ([0] : List Nat) ∧ vx_265e 0 S0_ S1_)) rfl rfl (by decide) (vc_265e 0 S0_ hI_ ) rfl (fun xx14_ Sx9_ px12_ => ?_) (fun u_ Sx9_ px12_ => ?_)
      · obtain ⟨px12m, hIx10_, hFx11_, px12_⟩ := px12_
        refine Or.inr ⟨_, _, rfl, by first | exact px12m | (simp only [List.mem_cons, List.not_mem_nil, or_false] at px12m ⊢; omega), hIx10_, ai_fr_tr hF_ (fr_le hFx11_ rfl), ?_⟩
        exact ⟨px12_.2, by (have y9_ := px12_.1; omega)⟩
      · exact absurd rfl px12_.2.2.2.1
    · have cx8_ : ¬ (3 ≤ k_) := of_decide_eq_false cx8_
      refine sm_T_go 3 (c1 := (14, [some (.inr (.inr (some (12, 0)))), some (.inl k_)], [.inl k_, .inr (.inr (some (111, 0)))], S0_)) rfl ?_
      refine sm_T_aald (t0 := 5) (n := 3) rfl rfl (by omega) (by omega) ?_
      have bx15_ : 0 ≤ S0_.1 5 k_.toNat 0 ∧ S0_.1 5 k_.toNat 0 ≤ 1 := hI_.1 5 k_.toNat 0 rfl
      refine sm_T_go 1 (c1 := (18, [some (.inr (.inr (some (12, 0)))), some (.inl k_)], [.inl (S0_.1 5 k_.toNat 0)], S0_)) rfl ?_
      refine sm_T_b0 (a := 0) (z := 7) rfl (fun cx16_ => ?_) (fun cx16_ => ?_)
      · have cx16_ : (S0_.1 5 k_.toNat 0) = 0 := of_decide_eq_true cx16_
        refine sm_T_go 1 (c1 := (26, [some (.inr (.inr (some (12, 0)))), some (.inl k_)], [.inl 0], S0_)) rfl ?_
        refine sm_T_cale (d1_ := 0) (Q1_ := vq_265e 0 S0_) (Q2_ := (fun ex_ S1_ => ex_ ∈ ([0] : List Nat) ∧ vx_265e 0 S0_ S1_)) rfl rfl (by decide) (vc_265e 0 S0_ hI_ ) rfl (fun xx22_ Sx17_ px20_ => ?_) (fun u_ Sx17_ px20_ => ?_)
        · obtain ⟨px20m, hIx18_, hFx19_, px20_⟩ := px20_
          refine Or.inr ⟨_, _, rfl, by first | exact px20m | (simp only [List.mem_cons, List.not_mem_nil, or_false] at px20m ⊢; omega), hIx18_, ai_fr_tr hF_ (fr_le hFx19_ rfl), ?_⟩
          exact ⟨px20_.2, by (have y9_ := px20_.1; omega)⟩
        · exact absurd rfl px20_.2.2.2.1
      · have cx16_ : ¬ ((S0_.1 5 k_.toNat 0) = 0) := of_decide_eq_false cx16_
        refine sm_T_go 2 (c1 := (26, [some (.inr (.inr (some (12, 0)))), some (.inl k_)], [.inl 1], S0_)) rfl ?_
        refine sm_T_cale (d1_ := 0) (Q1_ := vq_265e 1 S0_) (Q2_ := (fun ex_ S1_ => ex_ ∈ ([0] : List Nat) ∧ vx_265e 1 S0_ S1_)) rfl rfl (by decide) (vc_265e 1 S0_ hI_ ) rfl (fun xx28_ Sx23_ px26_ => ?_) (fun u_ Sx23_ px26_ => ?_)
        · exact absurd px26_.2.2.2.1 (by decide)
        obtain ⟨rfl, -, -, px26_, rfl⟩ := px26_
        refine sm_T_go 3 (c1 := (34, [some (.inr (.inr (some (12, 0)))), some (.inl k_)], [.inl k_, .inr (.inr (some (111, 0)))], S0_)) rfl ?_
        refine sm_T_aald (t0 := 5) (n := 3) rfl rfl (by omega) (by omega) ?_
        refine sm_T_ra rfl (Or.inl ⟨_, _, rfl, rfl, hI_, hF_, ?_⟩)
        exact ⟨rfl, by omega, by omega⟩
/-! ChipFlow.end -/
def vw_212t : sx_Wl := ([(10, 1)], [], [])
def vq_212t (n_ : Int) (S0_ : sm_S) (u_ : Option sm_V) (S1_ : sm_S) : Prop := u_ = none ∧ gi S1_ ∧ ai_fr (sx_W vw_212t) S0_ S1_ ∧ (0 ≤ n_ ∧ n_ ≤ (S0_.1 10 0 1) ∧ (S1_.1 10 0 1) = n_)
def vx_212t (n_ : Int) (S0_ : sm_S) (S1_ : sm_S) : Prop := gi S1_ ∧ ai_fr (sx_W vw_212t) S0_ S1_ ∧ (S1_ = S0_ ∧ ¬ (0 ≤ n_ ∧ n_ ≤ S0_.1 10 0 1))
set_option maxHeartbeats 400000 in
theorem vc_212t {sc_ : Nat × (Nat → Int)} (n_ : Int) (S0_ : sm_S) (hI_ : gi S0_)  : sm_T (mt_P sc_) 1 212 (0, [some (.inr (.inr (some (12, 0)))), some (.inl n_)], [], S0_) (fun ro9_ => (∃ u_ S1_, ro9_ = (.inl u_, S1_, 0) ∧ vq_212t n_ S0_ u_ S1_) ∨ ∃ ex_ S1_, ro9_ = (.inr ex_, S1_, 1) ∧ ex_ ∈ ([1] : List Nat) ∧ vx_212t n_ S0_ S1_) := by
  have hF_ : ai_fr (sx_W vw_212t) S0_ S0_ := ai_fr_rf
  refine sm_T_go 1 (c1 := (1, [some (.inr (.inr (some (12, 0)))), some (.inl n_)], [.inl n_], S0_)) rfl ?_
  refine sm_T_b0 (a := 2) (z := 18) rfl (fun cx1_ => ?_) (fun cx1_ => ?_)
  · have cx1_ : n_ < 0 := of_decide_eq_true cx1_
    refine sm_T_go 1 (c1 := (20, [some (.inr (.inr (some (12, 0)))), some (.inl n_)], [.inl 0], S0_)) rfl ?_
    refine sm_T_cale (d1_ := 0) (Q1_ := vq_266e 0 S0_) (Q2_ := (fun ex_ S1_ => ex_ ∈ ([1] : List Nat) ∧ vx_266e 0 S0_ S1_)) rfl rfl (by decide) (vc_266e 0 S0_ hI_ ) rfl (fun xx7_ Sx2_ px5_ => ?_) (fun u_ Sx2_ px5_ => ?_)
    · obtain ⟨px5m, hIx3_, hFx4_, px5_⟩ := px5_
      refine Or.inr ⟨_, _, rfl, by first | exact px5m | (simp only [List.mem_cons, List.not_mem_nil, or_false] at px5m ⊢; omega), hIx3_, ai_fr_tr hF_ (fr_le hFx4_ rfl), ?_⟩
      exact ⟨px5_.2, by (have y9_ := px5_.1; omega)⟩
    · exact absurd rfl px5_.2.2.2.1
  · have cx1_ : ¬ (n_ < 0) := of_decide_eq_false cx1_
    have bx8_ : 0 ≤ S0_.1 10 0 1 ∧ S0_.1 10 0 1 ≤ 1280 := hI_.1 10 0 1 rfl
    refine sm_T_go 4 (c1 := (12, [some (.inr (.inr (some (12, 0)))), some (.inl n_)], [.inl (S0_.1 10 0 1), .inl n_], S0_)) rfl ?_
    refine sm_T_br (a := 4) (z := 7) rfl (fun cx9_ => ?_) (fun cx9_ => ?_)
    · have cx9_ : (S0_.1 10 0 1) < n_ := of_decide_eq_true cx9_
      refine sm_T_go 1 (c1 := (20, [some (.inr (.inr (some (12, 0)))), some (.inl n_)], [.inl 0], S0_)) rfl ?_
      refine sm_T_cale (d1_ := 0) (Q1_ := vq_266e 0 S0_) (Q2_ := (fun ex_ S1_ => ex_ ∈ ([1] : List Nat) ∧ vx_266e 0 S0_ S1_)) rfl rfl (by decide) (vc_266e 0 S0_ hI_ ) rfl (fun xx15_ Sx10_ px13_ => ?_) (fun u_ Sx10_ px13_ => ?_)
      · obtain ⟨px13m, hIx11_, hFx12_, px13_⟩ := px13_
        refine Or.inr ⟨_, _, rfl, by first | exact px13m | (simp only [List.mem_cons, List.not_mem_nil, or_false] at px13m ⊢; omega), hIx11_, ai_fr_tr hF_ (fr_le hFx12_ rfl), ?_⟩
        exact ⟨px13_.2, by (have y9_ := px13_.1; omega)⟩
      · exact absurd rfl px13_.2.2.2.1
    · have cx9_ : ¬ ((S0_.1 10 0 1) < n_) := of_decide_eq_false cx9_
      refine sm_T_go 2 (c1 := (20, [some (.inr (.inr (some (12, 0)))), some (.inl n_)], [.inl 1], S0_)) rfl ?_
      refine sm_T_cale (d1_ := 0) (Q1_ := vq_266e 1 S0_) (Q2_ := (fun ex_ S1_ => ex_ ∈ ([1] : List Nat) ∧ vx_266e 1 S0_ S1_)) rfl rfl (by decide) (vc_266e 1 S0_ hI_ ) rfl (fun xx21_ Sx16_ px19_ => ?_) (fun u_ Sx16_ px19_ => ?_)
      · exact absurd px19_.2.2.2.1 (by decide)
      obtain ⟨rfl, -, -, px19_, rfl⟩ := px19_
      have hIx22_ : gi (sm_pI S0_ 10 0 1 n_) := gi_pI hI_ (show 0 ≤ n_ ∧ n_ ≤ 1280 from ⟨by omega, by omega⟩)
      have hFx23_ : ai_fr (sx_W vw_212t) S0_ (sm_pI S0_ 10 0 1 n_) := ai_fr_tr hF_ (ai_fr_pI rfl)
      refine sm_T_go 4 (c1 := (31, [some (.inr (.inr (some (12, 0)))), some (.inl n_)], [], sm_pI S0_ 10 0 1 n_)) rfl ?_
      refine sm_T_rv rfl (Or.inl ⟨_, _, rfl, rfl, hIx22_, hFx23_, ?_⟩)
      exact ⟨by omega, by omega, rf_eq⟩
/-! ChipFlow.feed -/
def vw_211t : sx_Wl := ([(10, 1)], [98], [])
def vq_211t (a1_ : Int) (a2_ : Int) (a3_ : Int) (a4_ : Int) (a5_ : Int) (S0_ : sm_S) (u_ : Option sm_V) (S1_ : sm_S) : Prop := ∃ v_ : Int, u_ = some (.inl v_) ∧ gi S1_ ∧ ai_fr (sx_W vw_211t) S0_ S1_ ∧ (v_ = S1_.1 10 0 1 ∧ S1_.1 10 0 1 = S0_.1 10 0 1 + 20 ∧ S0_.1 10 0 1 ≤ 65516 ∧ S1_.2.2.1 98 0 = fed (S0_.2.2.1 98 0) (S0_.1 10 0 1).toNat a1_ a2_ a3_ a4_ a5_)
def vx_211t (a1_ : Int) (a2_ : Int) (a3_ : Int) (a4_ : Int) (a5_ : Int) (S0_ : sm_S) (S1_ : sm_S) : Prop := gi S1_ ∧ ai_fr (sx_W vw_211t) S0_ S1_ ∧ (S1_ = S0_ ∧ 65516 < S0_.1 10 0 1)
set_option maxHeartbeats 400000 in
theorem vc_211t {sc_ : Nat × (Nat → Int)} (a1_ : Int) (a2_ : Int) (a3_ : Int) (a4_ : Int) (a5_ : Int) (S0_ : sm_S) (hI_ : gi S0_) (hn9_ : S0_.1 10 0 1 ≤ 1260) : sm_T (mt_P sc_) 2 211 (0, [some (.inr (.inr (some (12, 0)))), some (.inl a1_), some (.inl a2_), some (.inl a3_), some (.inl a4_), some (.inl a5_)], [], S0_) (fun ro9_ => (∃ u_ S1_, ro9_ = (.inl u_, S1_, 0) ∧ vq_211t a1_ a2_ a3_ a4_ a5_ S0_ u_ S1_) ∨ ∃ ex_ S1_, ro9_ = (.inr ex_, S1_, 1) ∧ ex_ ∈ ([3] : List Nat) ∧ vx_211t a1_ a2_ a3_ a4_ a5_ S0_ S1_) := by
  have hF_ : ai_fr (sx_W vw_211t) S0_ S0_ := ai_fr_rf
  have cl_ : 0 ≤ S0_.1 10 0 1 ∧ S0_.1 10 0 1 ≤ 1280 := hI_.1 10 0 1 rfl
  have bx1_ : 0 ≤ S0_.1 10 0 1 ∧ S0_.1 10 0 1 ≤ 1280 := hI_.1 10 0 1 rfl
  refine sm_T_go 4 (c1 := (9, [some (.inr (.inr (some (12, 0)))), some (.inl a1_), some (.inl a2_), some (.inl a3_), some (.inl a4_), some (.inl a5_)], [.inl 20, .inl (S0_.1 10 0 1)], S0_)) rfl ?_
  refine sm_T_bin (w := (S0_.1 10 0 1) + 20) rfl (bi_add (by omega) (by omega) (by omega)) ?_ -- pc_ 9
  refine sm_T_nt (u := some (.inl 65536)) (S1 := S0_) rfl rfl rfl ?_
  refine sm_T_br (a := 4) (z := 7) rfl (fun cx2_ => ?_) (fun cx2_ => ?_)
  · have cx2_ : 65536 < (S0_.1 10 0 1) + 20 := of_decide_eq_true cx2_
    refine sm_T_go 1 (c1 := (20, [some (.inr (.inr (some (12, 0)))), some (.inl a1_), some (.inl a2_), some (.inl a3_), some (.inl a4_), some (.inl a5_)], [.inl 0], S0_)) rfl ?_
    refine sm_T_cale (d1_ := 0) (Q1_ := vq_268e 0 S0_) (Q2_ := (fun ex_ S1_ => ex_ ∈ ([3] : List Nat) ∧ vx_268e 0 S0_ S1_)) rfl rfl (by decide) (vc_268e 0 S0_ hI_ ) rfl (fun xx8_ Sx3_ px6_ => ?_) (fun u_ Sx3_ px6_ => ?_)
    · obtain ⟨px6m, hIx4_, hFx5_, px6_⟩ := px6_
      refine Or.inr ⟨_, _, rfl, by first | exact px6m | (simp only [List.mem_cons, List.not_mem_nil, or_false] at px6m ⊢; omega), hIx4_, ai_fr_tr hF_ (fr_le hFx5_ rfl), ?_⟩
      exact ⟨px6_.2, by (have y9_ := px6_.1; omega)⟩
    · exact absurd rfl px6_.2.2.2.1
  · have cx2_ : ¬ (65536 < (S0_.1 10 0 1) + 20) := of_decide_eq_false cx2_
    refine sm_T_go 2 (c1 := (20, [some (.inr (.inr (some (12, 0)))), some (.inl a1_), some (.inl a2_), some (.inl a3_), some (.inl a4_), some (.inl a5_)], [.inl 1], S0_)) rfl ?_
    refine sm_T_cale (d1_ := 0) (Q1_ := vq_268e 1 S0_) (Q2_ := (fun ex_ S1_ => ex_ ∈ ([3] : List Nat) ∧ vx_268e 1 S0_ S1_)) rfl rfl (by decide) (vc_268e 1 S0_ hI_ ) rfl (fun xx14_ Sx9_ px12_ => ?_) (fun u_ Sx9_ px12_ => ?_)
    · exact absurd px12_.2.2.2.1 (by decide)
    obtain ⟨rfl, -, -, px12_, rfl⟩ := px12_
    refine sm_T_go 3 (c1 := (28, [some (.inr (.inr (some (12, 0)))), some (.inl a1_), some (.inl a2_), some (.inl a3_), some (.inl a4_), some (.inl a5_)], [.inl a1_, .inr (.inr (some (10, 0)))], S0_)) rfl ?_
    refine sm_T_cal (d1 := 0) (Q1 := vq_185 a1_ S0_) rfl rfl (by decide) (vc_185 a1_ S0_ hI_ (by omega)) (fun u_ Sx15_ px18_ => ?_)
    obtain ⟨rfl, hIx16_, hFx17_, px18_⟩ := px18_
    have hFx19_ : ai_fr (sx_W vw_211t) S0_ Sx15_ := ai_fr_tr hF_ (fr_le hFx17_ rfl)
    have p28_ := px18_.1
    have q28_ := px18_.2
    refine sm_T_go 3 (c1 := (36, [some (.inr (.inr (some (12, 0)))), some (.inl a1_), some (.inl a2_), some (.inl a3_), some (.inl a4_), some (.inl a5_)], [.inl a2_, .inr (.inr (some (10, 0)))], Sx15_)) rfl ?_
    refine sm_T_cal (d1 := 0) (Q1 := vq_185 a2_ Sx15_) rfl rfl (by decide) (vc_185 a2_ Sx15_ hIx16_ (by omega)) (fun u_ Sx20_ px23_ => ?_)
    obtain ⟨rfl, hIx21_, hFx22_, px23_⟩ := px23_
    have hFx24_ : ai_fr (sx_W vw_211t) S0_ Sx20_ := ai_fr_tr hFx19_ (fr_le hFx22_ rfl)
    have p36_ := px23_.1
    have q36_ := px23_.2
    rw [q28_, show (Sx15_.1 10 0 1).toNat = (S0_.1 10 0 1).toNat + 4 by omega] at q36_
    refine sm_T_go 3 (c1 := (44, [some (.inr (.inr (some (12, 0)))), some (.inl a1_), some (.inl a2_), some (.inl a3_), some (.inl a4_), some (.inl a5_)], [.inl a3_, .inr (.inr (some (10, 0)))], Sx20_)) rfl ?_
    refine sm_T_cal (d1 := 0) (Q1 := vq_185 a3_ Sx20_) rfl rfl (by decide) (vc_185 a3_ Sx20_ hIx21_ (by omega)) (fun u_ Sx25_ px28_ => ?_)
    obtain ⟨rfl, hIx26_, hFx27_, px28_⟩ := px28_
    have hFx29_ : ai_fr (sx_W vw_211t) S0_ Sx25_ := ai_fr_tr hFx24_ (fr_le hFx27_ rfl)
    have p44_ := px28_.1
    have q44_ := px28_.2
    rw [q36_, show (Sx20_.1 10 0 1).toNat = (S0_.1 10 0 1).toNat + 8 by omega] at q44_
    refine sm_T_go 3 (c1 := (53, [some (.inr (.inr (some (12, 0)))), some (.inl a1_), some (.inl a2_), some (.inl a3_), some (.inl a4_), some (.inl a5_)], [.inl a4_, .inr (.inr (some (10, 0)))], Sx25_)) rfl ?_
    refine sm_T_cal (d1 := 0) (Q1 := vq_185 a4_ Sx25_) rfl rfl (by decide) (vc_185 a4_ Sx25_ hIx26_ (by omega)) (fun u_ Sx30_ px33_ => ?_)
    obtain ⟨rfl, hIx31_, hFx32_, px33_⟩ := px33_
    have hFx34_ : ai_fr (sx_W vw_211t) S0_ Sx30_ := ai_fr_tr hFx29_ (fr_le hFx32_ rfl)
    have p53_ := px33_.1
    have q53_ := px33_.2
    rw [q44_, show (Sx25_.1 10 0 1).toNat = (S0_.1 10 0 1).toNat + 12 by omega] at q53_
    refine sm_T_go 3 (c1 := (62, [some (.inr (.inr (some (12, 0)))), some (.inl a1_), some (.inl a2_), some (.inl a3_), some (.inl a4_), some (.inl a5_)], [.inl a5_, .inr (.inr (some (10, 0)))], Sx30_)) rfl ?_
    refine sm_T_cal (d1 := 0) (Q1 := vq_185 a5_ Sx30_) rfl rfl (by decide) (vc_185 a5_ Sx30_ hIx31_ (by omega)) (fun u_ Sx35_ px38_ => ?_)
    obtain ⟨rfl, hIx36_, hFx37_, px38_⟩ := px38_
    have hFx39_ : ai_fr (sx_W vw_211t) S0_ Sx35_ := ai_fr_tr hFx34_ (fr_le hFx37_ rfl)
    have p62_ := px38_.1
    have q62_ := px38_.2
    rw [q53_, show (Sx30_.1 10 0 1).toNat = (S0_.1 10 0 1).toNat + 16 by omega] at q62_
    have bx40_ : 0 ≤ Sx35_.1 10 0 1 ∧ Sx35_.1 10 0 1 ≤ 1280 := hIx36_.1 10 0 1 rfl
    refine sm_T_go 3 (c1 := (72, [some (.inr (.inr (some (12, 0)))), some (.inl a1_), some (.inl a2_), some (.inl a3_), some (.inl a4_), some (.inl a5_)], [.inl (Sx35_.1 10 0 1)], Sx35_)) rfl ?_
    refine sm_T_ri rfl (Or.inl ⟨_, _, rfl, _, rfl, hIx36_, hFx39_, ?_⟩)
    exact ⟨rfl, by omega, by omega, by rw [q62_, fd4_5]⟩
/-! ChipFlow.drop -/
def vw_217t : sx_Wl := ([(2, 0), (3, 0), (5, 0)], [], [])
