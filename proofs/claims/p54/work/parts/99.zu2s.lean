/-! drop: the class; written by wip/p55/gen/vg -/
/-! ChipFlow.chipAt -/
def vw_272t : sx_Wl := ([], [], [])
def vq_272t (k_ : Int) (S0_ : sm_S) (u_ : Option sm_V) (S1_ : sm_S) : Prop := u_ = some (.inr (.inr (some (2, k_.toNat)))) ∧ gi S1_ ∧ ai_fr (sx_W vw_272t) S0_ S1_ ∧ (S0_ = S1_ ∧ (0 ≤ k_ ∧ k_ < 4) ∧ S0_.1 2 k_.toNat 0 = 1)
def vx_272t (k_ : Int) (S0_ : sm_S) (S1_ : sm_S) : Prop := gi S1_ ∧ ai_fr (sx_W vw_272t) S0_ S1_ ∧ (S1_ = S0_ ∧ ¬ (0 ≤ k_ ∧ k_ < 4 ∧ S0_.1 2 k_.toNat 0 = 1))
set_option maxHeartbeats 400000 in
theorem vc_272t {sc_ : Nat × (Nat → Int)} (k_ : Int) (S0_ : sm_S) (hI_ : gi S0_)  : sm_T (mt_P sc_) 1 272 (0, [some (.inr (.inr (some (12, 0)))), some (.inl k_)], [], S0_) (fun ro9_ => (∃ u_ S1_, ro9_ = (.inl u_, S1_, 0) ∧ vq_272t k_ S0_ u_ S1_) ∨ ∃ ex_ S1_, ro9_ = (.inr ex_, S1_, 1) ∧ ex_ ∈ ([0] : List Nat) ∧ vx_272t k_ S0_ S1_) := by
  have hF_ : ai_fr (sx_W vw_272t) S0_ S0_ := ai_fr_rf
  refine sm_T_go 1 (c1 := (1, [some (.inr (.inr (some (12, 0)))), some (.inl k_)], [.inl k_], S0_)) rfl ?_
  refine sm_T_b0 (a := 2) (z := 24) rfl (fun cx1_ => ?_) (fun cx1_ => ?_)
  · have cx1_ : k_ < 0 := of_decide_eq_true cx1_
    refine sm_T_go 1 (c1 := (26, [some (.inr (.inr (some (12, 0)))), some (.inl k_)], [.inl 0], S0_)) rfl ?_
    refine sm_T_cale (d1_ := 0) (Q1_ := vq_265e 0 S0_) (Q2_ := (fun ex_ S1_ => ex_ ∈ ([0] : List Nat) ∧ vx_265e 0 S0_ S1_)) rfl rfl (by decide) (vc_265e 0 S0_ hI_ ) rfl (fun xx7_ Sx2_ px5_ => ?_) (fun u_ Sx2_ px5_ => ?_)
    · obtain ⟨px5m, hIx3_, hFx4_, px5_⟩ := px5_
      refine Or.inr ⟨_, _, rfl, by first | exact px5m | (simp only [List.mem_cons, List.not_mem_nil, or_false] at px5m ⊢; omega), hIx3_, ai_fr_tr hF_ (fr_le hFx4_ rfl), ?_⟩
      exact ⟨px5_.2, by (have y9_ := px5_.1; omega)⟩
    · exact absurd rfl px5_.2.2.2.1
  · have cx1_ : ¬ (k_ < 0) := of_decide_eq_false cx1_
    refine sm_T_go 2 (c1 := (6, [some (.inr (.inr (some (12, 0)))), some (.inl k_)], [.inl 4, .inl k_], S0_)) rfl ?_
    refine sm_T_br (a := 3) (z := 19) rfl (fun cx8_ => ?_) (fun cx8_ => ?_)
    · have cx8_ : 4 ≤ k_ := of_decide_eq_true cx8_
      refine sm_T_go 1 (c1 := (26, [some (.inr (.inr (some (12, 0)))), some (.inl k_)], [.inl 0], S0_)) rfl ?_
      refine sm_T_cale (d1_ := 0) (Q1_ := vq_265e 0 S0_) (Q2_ := (fun ex_ S1_ => ex_ ∈ ([0] : List Nat) ∧ vx_265e 0 S0_ S1_)) rfl rfl (by decide) (vc_265e 0 S0_ hI_ ) rfl (fun xx14_ Sx9_ px12_ => ?_) (fun u_ Sx9_ px12_ => ?_)
      · obtain ⟨px12m, hIx10_, hFx11_, px12_⟩ := px12_
        refine Or.inr ⟨_, _, rfl, by first | exact px12m | (simp only [List.mem_cons, List.not_mem_nil, or_false] at px12m ⊢; omega), hIx10_, ai_fr_tr hF_ (fr_le hFx11_ rfl), ?_⟩
        exact ⟨px12_.2, by (have y9_ := px12_.1; omega)⟩
      · exact absurd rfl px12_.2.2.2.1
    · have cx8_ : ¬ (4 ≤ k_) := of_decide_eq_false cx8_
      refine sm_T_go 3 (c1 := (14, [some (.inr (.inr (some (12, 0)))), some (.inl k_)], [.inl k_, .inr (.inr (some (112, 0)))], S0_)) rfl ?_
      refine sm_T_aald (t0 := 6) (n := 4) rfl rfl (by omega) (by omega) ?_
      have bx15_ : 0 ≤ S0_.1 2 k_.toNat 0 ∧ S0_.1 2 k_.toNat 0 ≤ 1 := hI_.1 2 k_.toNat 0 rfl
      refine sm_T_go 1 (c1 := (18, [some (.inr (.inr (some (12, 0)))), some (.inl k_)], [.inl (S0_.1 2 k_.toNat 0)], S0_)) rfl ?_
      refine sm_T_b0 (a := 0) (z := 7) rfl (fun cx16_ => ?_) (fun cx16_ => ?_)
      · have cx16_ : (S0_.1 2 k_.toNat 0) = 0 := of_decide_eq_true cx16_
        refine sm_T_go 1 (c1 := (26, [some (.inr (.inr (some (12, 0)))), some (.inl k_)], [.inl 0], S0_)) rfl ?_
        refine sm_T_cale (d1_ := 0) (Q1_ := vq_265e 0 S0_) (Q2_ := (fun ex_ S1_ => ex_ ∈ ([0] : List Nat) ∧ vx_265e 0 S0_ S1_)) rfl rfl (by decide) (vc_265e 0 S0_ hI_ ) rfl (fun xx22_ Sx17_ px20_ => ?_) (fun u_ Sx17_ px20_ => ?_)
        · obtain ⟨px20m, hIx18_, hFx19_, px20_⟩ := px20_
          refine Or.inr ⟨_, _, rfl, by first | exact px20m | (simp only [List.mem_cons, List.not_mem_nil, or_false] at px20m ⊢; omega), hIx18_, ai_fr_tr hF_ (fr_le hFx19_ rfl), ?_⟩
          exact ⟨px20_.2, by (have y9_ := px20_.1; omega)⟩
        · exact absurd rfl px20_.2.2.2.1
      · have cx16_ : ¬ ((S0_.1 2 k_.toNat 0) = 0) := of_decide_eq_false cx16_
        refine sm_T_go 2 (c1 := (26, [some (.inr (.inr (some (12, 0)))), some (.inl k_)], [.inl 1], S0_)) rfl ?_
        refine sm_T_cale (d1_ := 0) (Q1_ := vq_265e 1 S0_) (Q2_ := (fun ex_ S1_ => ex_ ∈ ([0] : List Nat) ∧ vx_265e 1 S0_ S1_)) rfl rfl (by decide) (vc_265e 1 S0_ hI_ ) rfl (fun xx28_ Sx23_ px26_ => ?_) (fun u_ Sx23_ px26_ => ?_)
        · exact absurd px26_.2.2.2.1 (by decide)
        obtain ⟨rfl, -, -, px26_, rfl⟩ := px26_
        refine sm_T_go 3 (c1 := (34, [some (.inr (.inr (some (12, 0)))), some (.inl k_)], [.inl k_, .inr (.inr (some (112, 0)))], S0_)) rfl ?_
        refine sm_T_aald (t0 := 6) (n := 4) rfl rfl (by omega) (by omega) ?_
        refine sm_T_ra rfl (Or.inl ⟨_, _, rfl, rfl, hI_, hF_, ?_⟩)
        exact ⟨rfl, by omega, by omega⟩
def okc_drop (kd_ k_ : Int) (S_ : sm_S) : Prop := (kd_ = 0 ∧ 0 ≤ k_ ∧ k_ < 6 ∧ S_.1 3 k_.toNat 0 = 1) ∨ (kd_ = 1 ∧ 0 ≤ k_ ∧ k_ < 3 ∧ S_.1 5 k_.toNat 0 = 1) ∨ (kd_ = 2 ∧ 0 ≤ k_ ∧ k_ < 4 ∧ S_.1 2 k_.toNat 0 = 1)
/-! ChipFlow.drop -/
def vw_217n : sx_Wl := ([(2, 0), (3, 0), (5, 0)], [], [])
def vq_217n (kd_ : Int) (k_ : Int) (S0_ : sm_S) (u_ : Option sm_V) (S1_ : sm_S) : Prop := u_ = none ∧ gi S1_ ∧ ai_fr (sx_W vw_217n) S0_ S1_ ∧ (jC S1_ ∧ okc_drop kd_ k_ S0_ ∧ (∀ j_, S1_.1 3 j_ 0 = if kd_ = 0 ∧ j_ = k_.toNat then 0 else S0_.1 3 j_ 0) ∧ (∀ j_, S1_.1 5 j_ 0 = if kd_ = 1 ∧ j_ = k_.toNat then 0 else S0_.1 5 j_ 0) ∧ (∀ j_, S1_.1 2 j_ 0 = if kd_ = 2 ∧ j_ = k_.toNat then 0 else S0_.1 2 j_ 0))
def vx_217n (kd_ : Int) (k_ : Int) (S0_ : sm_S) (ex_ : Nat) (S1_ : sm_S) : Prop := gi S1_ ∧ ai_fr (sx_W vw_217n) S0_ S1_ ∧ (S1_ = S0_ ∧ ((ex_ = 1 ∧ ¬ (0 ≤ kd_ ∧ kd_ ≤ 2)) ∨ (ex_ = 0 ∧ (0 ≤ kd_ ∧ kd_ ≤ 2) ∧ ¬ okc_drop kd_ k_ S0_)))
set_option maxHeartbeats 400000 in
theorem vc_217n {sc_ : Nat × (Nat → Int)} (kd_ : Int) (k_ : Int) (S0_ : sm_S) (hI_ : gi S0_) (hJ_ : jC S0_) : sm_T (mt_P sc_) 2 217 (0, [some (.inr (.inr (some (12, 0)))), some (.inl kd_), some (.inl k_)], [], S0_) (fun ro9_ => (∃ u_ S1_, ro9_ = (.inl u_, S1_, 0) ∧ vq_217n kd_ k_ S0_ u_ S1_) ∨ ∃ ex_ S1_, ro9_ = (.inr ex_, S1_, 1) ∧ ex_ ∈ ([0, 1] : List Nat) ∧ vx_217n kd_ k_ S0_ ex_ S1_) := by
  have hF_ : ai_fr (sx_W vw_217n) S0_ S0_ := ai_fr_rf
  refine sm_T_go 1 (c1 := (1, [some (.inr (.inr (some (12, 0)))), some (.inl kd_), some (.inl k_)], [.inl kd_], S0_)) rfl ?_
  refine sm_T_b0 (a := 2) (z := 12) rfl (fun cx1_ => ?_) (fun cx1_ => ?_)
  · have cx1_ : kd_ < 0 := of_decide_eq_true cx1_
    refine sm_T_go 1 (c1 := (14, [some (.inr (.inr (some (12, 0)))), some (.inl kd_), some (.inl k_)], [.inl 0], S0_)) rfl ?_
    refine sm_T_cale (d1_ := 0) (Q1_ := vq_266e 0 S0_) (Q2_ := (fun ex_ S1_ => ex_ ∈ ([1] : List Nat) ∧ vx_266e 0 S0_ S1_)) rfl rfl (by decide) (vc_266e 0 S0_ hI_ ) rfl (fun xx7_ Sx2_ px5_ => ?_) (fun u_ Sx2_ px5_ => ?_)
    · obtain ⟨px5m, hIx3_, hFx4_, px5_⟩ := px5_
      refine Or.inr ⟨_, _, rfl, by first | exact px5m | (simp only [List.mem_cons, List.not_mem_nil, or_false] at px5m ⊢; omega), hIx3_, ai_fr_tr hF_ (fr_le hFx4_ rfl), ?_⟩
      exact ⟨px5_.2, Or.inl ⟨List.mem_singleton.mp px5m, by (have y9_ := px5_.1; omega)⟩⟩
    · exact absurd rfl px5_.2.2.2.1
  · have cx1_ : ¬ (kd_ < 0) := of_decide_eq_false cx1_
    refine sm_T_go 2 (c1 := (6, [some (.inr (.inr (some (12, 0)))), some (.inl kd_), some (.inl k_)], [.inl 2, .inl kd_], S0_)) rfl ?_
    refine sm_T_br (a := 4) (z := 7) rfl (fun cx8_ => ?_) (fun cx8_ => ?_)
    · have cx8_ : 2 < kd_ := of_decide_eq_true cx8_
      refine sm_T_go 1 (c1 := (14, [some (.inr (.inr (some (12, 0)))), some (.inl kd_), some (.inl k_)], [.inl 0], S0_)) rfl ?_
      refine sm_T_cale (d1_ := 0) (Q1_ := vq_266e 0 S0_) (Q2_ := (fun ex_ S1_ => ex_ ∈ ([1] : List Nat) ∧ vx_266e 0 S0_ S1_)) rfl rfl (by decide) (vc_266e 0 S0_ hI_ ) rfl (fun xx14_ Sx9_ px12_ => ?_) (fun u_ Sx9_ px12_ => ?_)
      · obtain ⟨px12m, hIx10_, hFx11_, px12_⟩ := px12_
        refine Or.inr ⟨_, _, rfl, by first | exact px12m | (simp only [List.mem_cons, List.not_mem_nil, or_false] at px12m ⊢; omega), hIx10_, ai_fr_tr hF_ (fr_le hFx11_ rfl), ?_⟩
        exact ⟨px12_.2, Or.inl ⟨List.mem_singleton.mp px12m, by (have y9_ := px12_.1; omega)⟩⟩
      · exact absurd rfl px12_.2.2.2.1
    · have cx8_ : ¬ (2 < kd_) := of_decide_eq_false cx8_
      refine sm_T_go 2 (c1 := (14, [some (.inr (.inr (some (12, 0)))), some (.inl kd_), some (.inl k_)], [.inl 1], S0_)) rfl ?_
      refine sm_T_cale (d1_ := 0) (Q1_ := vq_266e 1 S0_) (Q2_ := (fun ex_ S1_ => ex_ ∈ ([1] : List Nat) ∧ vx_266e 1 S0_ S1_)) rfl rfl (by decide) (vc_266e 1 S0_ hI_ ) rfl (fun xx20_ Sx15_ px18_ => ?_) (fun u_ Sx15_ px18_ => ?_)
      · exact absurd px18_.2.2.2.1 (by decide)
      obtain ⟨rfl, -, -, px18_, rfl⟩ := px18_
      refine sm_T_go 1 (c1 := (18, [some (.inr (.inr (some (12, 0)))), some (.inl kd_), some (.inl k_)], [.inl kd_], S0_)) rfl ?_
      refine sm_T_b0 (a := 1) (z := 15) rfl (fun cx21_ => ?_) (fun cx21_ => ?_)
      · have cx21_ : kd_ ≠ 0 := of_decide_eq_true cx21_
        refine sm_T_go 2 (c1 := (35, [some (.inr (.inr (some (12, 0)))), some (.inl kd_), some (.inl k_)], [.inl 1, .inl kd_], S0_)) rfl ?_
        refine sm_T_br (a := 1) (z := 15) rfl (fun cx22_ => ?_) (fun cx22_ => ?_)
        · have cx22_ : kd_ ≠ 1 := of_decide_eq_true cx22_
          refine sm_T_go 2 (c1 := (52, [some (.inr (.inr (some (12, 0)))), some (.inl kd_), some (.inl k_)], [.inl k_, .inr (.inr (some (12, 0)))], S0_)) rfl ?_
          refine sm_T_cale (d1_ := 1) (Q1_ := vq_272t k_ S0_) (Q2_ := (fun ex_ S1_ => ex_ ∈ ([0] : List Nat) ∧ vx_272t k_ S0_ S1_)) rfl rfl (by decide) (vc_272t k_ S0_ hI_ ) rfl (fun xx28_ Sx23_ px26_ => ?_) (fun u_ Sx23_ px26_ => ?_)
          · obtain ⟨px26m, hIx24_, hFx25_, px26_⟩ := px26_
            refine Or.inr ⟨_, _, rfl, by first | exact px26m | (simp only [List.mem_cons, List.not_mem_nil, or_false] at px26m ⊢; omega), hIx24_, ai_fr_tr hF_ (fr_le hFx25_ rfl), ?_⟩
            exact ⟨px26_.1, Or.inr ⟨List.mem_singleton.mp px26m, by omega, fun y9_ => by (unfold okc_drop at y9_; have z9_ := px26_.2; omega)⟩⟩
          obtain ⟨rfl, -, -, rfl, px26_⟩ := px26_
          have a52_ := px26_
          have hIx29_ : gi (sm_pI S0_ 2 k_.toNat 0 0) := gi_pI hI_ (show 0 ≤ 0 ∧ 0 ≤ 1 from ⟨by omega, by omega⟩)
          have hFx30_ : ai_fr (sx_W vw_217n) S0_ (sm_pI S0_ 2 k_.toNat 0 0) := ai_fr_tr hF_ (ai_fr_pI rfl)
          refine sm_T_go 2 (c1 := (59, [some (.inr (.inr (some (12, 0)))), some (.inl kd_), some (.inl k_)], [], sm_pI S0_ 2 k_.toNat 0 0)) rfl ?_
          refine sm_T_rv rfl (Or.inl ⟨_, _, rfl, rfl, hIx29_, hFx30_, ?_⟩)
          first | (have z9_ := a23_.1; exact ⟨jC_d (w_ := ([(3, 0)], [], [])) hJ_ (ai_fr_pI rfl) (dAll_dr hJ_.1) (by decide) (by decide) (by decide) rfl rfl rfl rfl rfl rfl, by (unfold okc_drop; omega), (fun j_ => by (rw [rd_ff]; by_cases z_ : j_ = k_.toNat; (rw [if_pos ⟨rfl, z_, rfl⟩, if_pos ⟨by omega, z_⟩]); (rw [if_neg (fun q_ => z_ q_.2.1), if_neg (fun q_ => z_ q_.2)]))), (fun j_ => by (rw [rf_nt (by decide), if_neg (by omega)])), (fun j_ => by (rw [rf_nt (by decide), if_neg (by omega)]))⟩) | (have z9_ := a40_.1; exact ⟨jC_d (w_ := ([(5, 0)], [], [])) hJ_ (ai_fr_pI rfl) (dAll_fr (w_ := ([(5, 0)], [], [])) hJ_.1 (ai_fr_pI rfl) (by decide) (by decide)) (by decide) (by decide) (by decide) rfl rfl rfl rfl rfl rfl, by (unfold okc_drop; omega), (fun j_ => by (rw [rf_nt (by decide), if_neg (by omega)])), (fun j_ => by (rw [rd_ff]; by_cases z_ : j_ = k_.toNat; (rw [if_pos ⟨rfl, z_, rfl⟩, if_pos ⟨by omega, z_⟩]); (rw [if_neg (fun q_ => z_ q_.2.1), if_neg (fun q_ => z_ q_.2)]))), (fun j_ => by (rw [rf_nt (by decide), if_neg (by omega)]))⟩) | (have z9_ := a52_.1; exact ⟨jC_dr hJ_, by (unfold okc_drop; omega), (fun j_ => by (rw [rf_nt (by decide), if_neg (by omega)])), (fun j_ => by (rw [rf_nt (by decide), if_neg (by omega)])), (fun j_ => by (rw [rd_ff]; by_cases z_ : j_ = k_.toNat; (rw [if_pos ⟨rfl, z_, rfl⟩, if_pos ⟨by omega, z_⟩]); (rw [if_neg (fun q_ => z_ q_.2.1), if_neg (fun q_ => z_ q_.2)])))⟩)
        · have cx22_ : ¬ (kd_ ≠ 1) := of_decide_eq_false cx22_
          refine sm_T_go 2 (c1 := (40, [some (.inr (.inr (some (12, 0)))), some (.inl kd_), some (.inl k_)], [.inl k_, .inr (.inr (some (12, 0)))], S0_)) rfl ?_
          refine sm_T_cale (d1_ := 1) (Q1_ := vq_271t k_ S0_) (Q2_ := (fun ex_ S1_ => ex_ ∈ ([0] : List Nat) ∧ vx_271t k_ S0_ S1_)) rfl rfl (by decide) (vc_271t k_ S0_ hI_ ) rfl (fun xx36_ Sx31_ px34_ => ?_) (fun u_ Sx31_ px34_ => ?_)
          · obtain ⟨px34m, hIx32_, hFx33_, px34_⟩ := px34_
            refine Or.inr ⟨_, _, rfl, by first | exact px34m | (simp only [List.mem_cons, List.not_mem_nil, or_false] at px34m ⊢; omega), hIx32_, ai_fr_tr hF_ (fr_le hFx33_ rfl), ?_⟩
            exact ⟨px34_.1, Or.inr ⟨List.mem_singleton.mp px34m, by omega, fun y9_ => by (unfold okc_drop at y9_; have z9_ := px34_.2; omega)⟩⟩
          obtain ⟨rfl, -, -, rfl, px34_⟩ := px34_
          have a40_ := px34_
          have hIx37_ : gi (sm_pI S0_ 5 k_.toNat 0 0) := gi_pI hI_ (show 0 ≤ 0 ∧ 0 ≤ 1 from ⟨by omega, by omega⟩)
          have hFx38_ : ai_fr (sx_W vw_217n) S0_ (sm_pI S0_ 5 k_.toNat 0 0) := ai_fr_tr hF_ (ai_fr_pI rfl)
          refine sm_T_go 3 (c1 := (59, [some (.inr (.inr (some (12, 0)))), some (.inl kd_), some (.inl k_)], [], sm_pI S0_ 5 k_.toNat 0 0)) rfl ?_
          refine sm_T_rv rfl (Or.inl ⟨_, _, rfl, rfl, hIx37_, hFx38_, ?_⟩)
          first | (have z9_ := a23_.1; exact ⟨jC_d (w_ := ([(3, 0)], [], [])) hJ_ (ai_fr_pI rfl) (dAll_dr hJ_.1) (by decide) (by decide) (by decide) rfl rfl rfl rfl rfl rfl, by (unfold okc_drop; omega), (fun j_ => by (rw [rd_ff]; by_cases z_ : j_ = k_.toNat; (rw [if_pos ⟨rfl, z_, rfl⟩, if_pos ⟨by omega, z_⟩]); (rw [if_neg (fun q_ => z_ q_.2.1), if_neg (fun q_ => z_ q_.2)]))), (fun j_ => by (rw [rf_nt (by decide), if_neg (by omega)])), (fun j_ => by (rw [rf_nt (by decide), if_neg (by omega)]))⟩) | (have z9_ := a40_.1; exact ⟨jC_d (w_ := ([(5, 0)], [], [])) hJ_ (ai_fr_pI rfl) (dAll_fr (w_ := ([(5, 0)], [], [])) hJ_.1 (ai_fr_pI rfl) (by decide) (by decide)) (by decide) (by decide) (by decide) rfl rfl rfl rfl rfl rfl, by (unfold okc_drop; omega), (fun j_ => by (rw [rf_nt (by decide), if_neg (by omega)])), (fun j_ => by (rw [rd_ff]; by_cases z_ : j_ = k_.toNat; (rw [if_pos ⟨rfl, z_, rfl⟩, if_pos ⟨by omega, z_⟩]); (rw [if_neg (fun q_ => z_ q_.2.1), if_neg (fun q_ => z_ q_.2)]))), (fun j_ => by (rw [rf_nt (by decide), if_neg (by omega)]))⟩) | (have z9_ := a52_.1; exact ⟨jC_dr hJ_, by (unfold okc_drop; omega), (fun j_ => by (rw [rf_nt (by decide), if_neg (by omega)])), (fun j_ => by (rw [rf_nt (by decide), if_neg (by omega)])), (fun j_ => by (rw [rd_ff]; by_cases z_ : j_ = k_.toNat; (rw [if_pos ⟨rfl, z_, rfl⟩, if_pos ⟨by omega, z_⟩]); (rw [if_neg (fun q_ => z_ q_.2.1), if_neg (fun q_ => z_ q_.2)])))⟩)
      · have cx21_ : ¬ (kd_ ≠ 0) := of_decide_eq_false cx21_
        refine sm_T_go 2 (c1 := (23, [some (.inr (.inr (some (12, 0)))), some (.inl kd_), some (.inl k_)], [.inl k_, .inr (.inr (some (12, 0)))], S0_)) rfl ?_
        refine sm_T_cale (d1_ := 1) (Q1_ := vq_270t k_ S0_) (Q2_ := (fun ex_ S1_ => ex_ ∈ ([0] : List Nat) ∧ vx_270t k_ S0_ S1_)) rfl rfl (by decide) (vc_270t k_ S0_ hI_ ) rfl (fun xx44_ Sx39_ px42_ => ?_) (fun u_ Sx39_ px42_ => ?_)
        · obtain ⟨px42m, hIx40_, hFx41_, px42_⟩ := px42_
          refine Or.inr ⟨_, _, rfl, by first | exact px42m | (simp only [List.mem_cons, List.not_mem_nil, or_false] at px42m ⊢; omega), hIx40_, ai_fr_tr hF_ (fr_le hFx41_ rfl), ?_⟩
          exact ⟨px42_.1, Or.inr ⟨List.mem_singleton.mp px42m, by omega, fun y9_ => by (unfold okc_drop at y9_; have z9_ := px42_.2; omega)⟩⟩
        obtain ⟨rfl, -, -, rfl, px42_⟩ := px42_
        have a23_ := px42_
        have hIx45_ : gi (sm_pI S0_ 3 k_.toNat 0 0) := gi_pI hI_ (show 0 ≤ 0 ∧ 0 ≤ 1 from ⟨by omega, by omega⟩)
        have hFx46_ : ai_fr (sx_W vw_217n) S0_ (sm_pI S0_ 3 k_.toNat 0 0) := ai_fr_tr hF_ (ai_fr_pI rfl)
        refine sm_T_go 3 (c1 := (59, [some (.inr (.inr (some (12, 0)))), some (.inl kd_), some (.inl k_)], [], sm_pI S0_ 3 k_.toNat 0 0)) rfl ?_
        refine sm_T_rv rfl (Or.inl ⟨_, _, rfl, rfl, hIx45_, hFx46_, ?_⟩)
        first | (have z9_ := a23_.1; exact ⟨jC_d (w_ := ([(3, 0)], [], [])) hJ_ (ai_fr_pI rfl) (dAll_dr hJ_.1) (by decide) (by decide) (by decide) rfl rfl rfl rfl rfl rfl, by (unfold okc_drop; omega), (fun j_ => by (rw [rd_ff]; by_cases z_ : j_ = k_.toNat; (rw [if_pos ⟨rfl, z_, rfl⟩, if_pos ⟨by omega, z_⟩]); (rw [if_neg (fun q_ => z_ q_.2.1), if_neg (fun q_ => z_ q_.2)]))), (fun j_ => by (rw [rf_nt (by decide), if_neg (by omega)])), (fun j_ => by (rw [rf_nt (by decide), if_neg (by omega)]))⟩) | (have z9_ := a40_.1; exact ⟨jC_d (w_ := ([(5, 0)], [], [])) hJ_ (ai_fr_pI rfl) (dAll_fr (w_ := ([(5, 0)], [], [])) hJ_.1 (ai_fr_pI rfl) (by decide) (by decide)) (by decide) (by decide) (by decide) rfl rfl rfl rfl rfl rfl, by (unfold okc_drop; omega), (fun j_ => by (rw [rf_nt (by decide), if_neg (by omega)])), (fun j_ => by (rw [rd_ff]; by_cases z_ : j_ = k_.toNat; (rw [if_pos ⟨rfl, z_, rfl⟩, if_pos ⟨by omega, z_⟩]); (rw [if_neg (fun q_ => z_ q_.2.1), if_neg (fun q_ => z_ q_.2)]))), (fun j_ => by (rw [rf_nt (by decide), if_neg (by omega)]))⟩) | (have z9_ := a52_.1; exact ⟨jC_dr hJ_, by (unfold okc_drop; omega), (fun j_ => by (rw [rf_nt (by decide), if_neg (by omega)])), (fun j_ => by (rw [rf_nt (by decide), if_neg (by omega)])), (fun j_ => by (rw [rd_ff]; by_cases z_ : j_ = k_.toNat; (rw [if_pos ⟨rfl, z_, rfl⟩, if_pos ⟨by omega, z_⟩]); (rw [if_neg (fun q_ => z_ q_.2.1), if_neg (fun q_ => z_ q_.2)])))⟩)
