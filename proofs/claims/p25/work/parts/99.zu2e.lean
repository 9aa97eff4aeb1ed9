/-! what the class answers where it is asked for a root; written by wip/p55/gen/vg -/
def okc_root (kk_ k_ nx_ : Int) (S_ : sm_S) : Prop := (0 ≤ kk_ ∧ kk_ < 6 ∧ S_.1 3 kk_.toNat 0 = 1) ∧ ((nx_ = 0 ∧ 0 ≤ k_ ∧ k_ < S_.1 3 kk_.toNat 3) ∨ (nx_ ≠ 0 ∧ 0 ≤ k_ ∧ k_ < S_.1 3 kk_.toNat 2))
def vac_root (kk_ k_ nx_ : Int) (S_ : sm_S) : Int := if nx_ = 0 then S_.2.2.1 45 (0 + kk_.toNat) k_.toNat else S_.2.2.1 46 (0 + kk_.toNat) k_.toNat
/-! ChipFlow.root -/
def vw_222t : sx_Wl := ([], [], [])
def vq_222t (kk_ : Int) (k_ : Int) (nx_ : Int) (S0_ : sm_S) (u_ : Option sm_V) (S1_ : sm_S) : Prop := ∃ v_ : Int, u_ = some (.inl v_) ∧ gi S1_ ∧ ai_fr (sx_W vw_222t) S0_ S1_ ∧ (S1_ = S0_ ∧ okc_root kk_ k_ nx_ S0_ ∧ v_ = vac_root kk_ k_ nx_ S0_)
def vx_222t (kk_ : Int) (k_ : Int) (nx_ : Int) (S0_ : sm_S) (S1_ : sm_S) : Prop := gi S1_ ∧ ai_fr (sx_W vw_222t) S0_ S1_ ∧ (S1_ = S0_ ∧ ¬ okc_root kk_ k_ nx_ S0_)
set_option maxHeartbeats 400000 in
theorem vc_222t {sc_ : Nat × (Nat → Int)} (kk_ : Int) (k_ : Int) (nx_ : Int) (S0_ : sm_S) (hI_ : gi S0_) (hJ_ : dAll S0_) : sm_T (mt_P sc_) 2 222 (0, [some (.inr (.inr (some (12, 0)))), some (.inl kk_), some (.inl k_), some (.inl nx_), none], [], S0_) (fun ro9_ => (∃ u_ S1_, ro9_ = (.inl u_, S1_, 0) ∧ vq_222t kk_ k_ nx_ S0_ u_ S1_) ∨ ∃ ex_ S1_, ro9_ = (.inr ex_, S1_, 1) ∧ ex_ ∈ ([0] : List Nat) ∧ vx_222t kk_ k_ nx_ S0_ S1_) := by
  have hF_ : ai_fr (sx_W vw_222t) S0_ S0_ := ai_fr_rf
  refine sm_T_go 2 (c1 := (2, [some (.inr (.inr (some (12, 0)))), some (.inl kk_), some (.inl k_), some (.inl nx_), none], [.inl kk_, .inr (.inr (some (12, 0)))], S0_)) rfl ?_
  refine sm_T_cale (d1_ := 1) (Q1_ := vq_270t kk_ S0_) (Q2_ := (fun ex_ S1_ => ex_ ∈ ([0] : List Nat) ∧ vx_270t kk_ S0_ S1_)) rfl rfl (by decide) (vc_270t kk_ S0_ hI_ ) rfl (fun xx6_ Sx1_ px4_ => ?_) (fun u_ Sx1_ px4_ => ?_)
  · obtain ⟨px4m, hIx2_, hFx3_, px4_⟩ := px4_
    refine Or.inr ⟨_, _, rfl, by first | exact px4m | (simp only [List.mem_cons, List.not_mem_nil, or_false] at px4m ⊢; omega), hIx2_, ai_fr_tr hF_ (fr_le hFx3_ rfl), ?_⟩
    exact ⟨px4_.1, fun y9_ => px4_.2 y9_.1⟩
  obtain ⟨rfl, -, -, rfl, px4_⟩ := px4_
  have a9_ := px4_
  have J9_ := dOk_b (hJ_ kk_.toNat (by omega) a9_.2)
  have J9a := J9_.1
  have J9b := J9_.2.1
  refine sm_T_go 2 (c1 := (8, [some (.inr (.inr (some (12, 0)))), some (.inl kk_), some (.inl k_), some (.inl nx_), some (.inr (.inr (some (3, kk_.toNat))))], [.inl k_], S0_)) rfl ?_
  refine sm_T_b0 (a := 2) (z := 28) rfl (fun cx7_ => ?_) (fun cx7_ => ?_)
  · have cx7_ : k_ < 0 := of_decide_eq_true cx7_
    refine sm_T_go 1 (c1 := (37, [some (.inr (.inr (some (12, 0)))), some (.inl kk_), some (.inl k_), some (.inl nx_), some (.inr (.inr (some (3, kk_.toNat))))], [.inl 0], S0_)) rfl ?_
    refine sm_T_cale (d1_ := 0) (Q1_ := vq_265e 0 S0_) (Q2_ := (fun ex_ S1_ => ex_ ∈ ([0] : List Nat) ∧ vx_265e 0 S0_ S1_)) rfl rfl (by decide) (vc_265e 0 S0_ hI_ ) rfl (fun xx13_ Sx8_ px11_ => ?_) (fun u_ Sx8_ px11_ => ?_)
    · obtain ⟨px11m, hIx9_, hFx10_, px11_⟩ := px11_
      refine Or.inr ⟨_, _, rfl, by first | exact px11m | (simp only [List.mem_cons, List.not_mem_nil, or_false] at px11m ⊢; omega), hIx9_, ai_fr_tr hF_ (fr_le hFx10_ rfl), ?_⟩
      exact ⟨px11_.2, by (have y9_ := px11_.1; unfold okc_root; omega)⟩
    · exact absurd rfl px11_.2.2.2.1
  · have cx7_ : ¬ (k_ < 0) := of_decide_eq_false cx7_
    refine sm_T_go 2 (c1 := (13, [some (.inr (.inr (some (12, 0)))), some (.inl kk_), some (.inl k_), some (.inl nx_), some (.inr (.inr (some (3, kk_.toNat))))], [.inl nx_, .inl k_], S0_)) rfl ?_
    refine sm_T_b0 (a := 0) (z := 11) rfl (fun cx14_ => ?_) (fun cx14_ => ?_)
    · have cx14_ : nx_ = 0 := of_decide_eq_true cx14_
      have bx15_ : 0 ≤ S0_.1 3 kk_.toNat 3 ∧ S0_.1 3 kk_.toNat 3 ≤ 320 := hI_.1 3 kk_.toNat 3 rfl
      refine sm_T_go 2 (c1 := (29, [some (.inr (.inr (some (12, 0)))), some (.inl kk_), some (.inl k_), some (.inl nx_), some (.inr (.inr (some (3, kk_.toNat))))], [.inl (S0_.1 3 kk_.toNat 3), .inl k_], S0_)) rfl ?_
      refine sm_T_br (a := 3) (z := 7) rfl (fun cx16_ => ?_) (fun cx16_ => ?_)
      · have cx16_ : (S0_.1 3 kk_.toNat 3) ≤ k_ := of_decide_eq_true cx16_
        refine sm_T_go 1 (c1 := (37, [some (.inr (.inr (some (12, 0)))), some (.inl kk_), some (.inl k_), some (.inl nx_), some (.inr (.inr (some (3, kk_.toNat))))], [.inl 0], S0_)) rfl ?_
        refine sm_T_cale (d1_ := 0) (Q1_ := vq_265e 0 S0_) (Q2_ := (fun ex_ S1_ => ex_ ∈ ([0] : List Nat) ∧ vx_265e 0 S0_ S1_)) rfl rfl (by decide) (vc_265e 0 S0_ hI_ ) rfl (fun xx22_ Sx17_ px20_ => ?_) (fun u_ Sx17_ px20_ => ?_)
        · obtain ⟨px20m, hIx18_, hFx19_, px20_⟩ := px20_
          refine Or.inr ⟨_, _, rfl, by first | exact px20m | (simp only [List.mem_cons, List.not_mem_nil, or_false] at px20m ⊢; omega), hIx18_, ai_fr_tr hF_ (fr_le hFx19_ rfl), ?_⟩
          exact ⟨px20_.2, by (have y9_ := px20_.1; unfold okc_root; omega)⟩
        · exact absurd rfl px20_.2.2.2.1
      · have cx16_ : ¬ ((S0_.1 3 kk_.toNat 3) ≤ k_) := of_decide_eq_false cx16_
        refine sm_T_go 2 (c1 := (37, [some (.inr (.inr (some (12, 0)))), some (.inl kk_), some (.inl k_), some (.inl nx_), some (.inr (.inr (some (3, kk_.toNat))))], [.inl 1], S0_)) rfl ?_
        refine sm_T_cale (d1_ := 0) (Q1_ := vq_265e 1 S0_) (Q2_ := (fun ex_ S1_ => ex_ ∈ ([0] : List Nat) ∧ vx_265e 1 S0_ S1_)) rfl rfl (by decide) (vc_265e 1 S0_ hI_ ) rfl (fun xx28_ Sx23_ px26_ => ?_) (fun u_ Sx23_ px26_ => ?_)
        · exact absurd px26_.2.2.2.1 (by decide)
        obtain ⟨rfl, -, -, px26_, rfl⟩ := px26_
        refine sm_T_go 1 (c1 := (41, [some (.inr (.inr (some (12, 0)))), some (.inl kk_), some (.inl k_), some (.inl nx_), some (.inr (.inr (some (3, kk_.toNat))))], [.inl nx_], S0_)) rfl ?_
        refine sm_T_b0 (a := 0) (z := 13) rfl (fun cx29_ => ?_) (fun cx29_ => ?_)
        · have cx29_ : nx_ = 0 := of_decide_eq_true cx29_
          refine sm_T_go 3 (c1 := (60, [some (.inr (.inr (some (12, 0)))), some (.inl kk_), some (.inl k_), some (.inl nx_), some (.inr (.inr (some (3, kk_.toNat))))], [.inl k_, .inr (.inr (some (45, (0 + kk_.toNat))))], S0_)) rfl ?_
          refine sm_T_iald (n := 16) rfl rfl (by omega) (by omega) ?_
          have bx30_ : 0 ≤ S0_.2.2.1 45 (0 + kk_.toNat) k_.toNat ∧ S0_.2.2.1 45 (0 + kk_.toNat) k_.toNat ≤ 2025 := hI_.2 45 (0 + kk_.toNat) _
          refine sm_T_ri rfl (Or.inl ⟨_, _, rfl, _, rfl, hI_, hF_, ?_⟩)
          refine ⟨rfl, by (unfold okc_root; omega), ?_⟩; unfold vac_root; first | exact (if_pos (by omega)).symm | exact (if_neg (by omega)).symm
        · have cx29_ : ¬ (nx_ = 0) := of_decide_eq_false cx29_
          exfalso; omega
    · have cx14_ : ¬ (nx_ = 0) := of_decide_eq_false cx14_
      have bx31_ : 0 ≤ S0_.1 3 kk_.toNat 2 ∧ S0_.1 3 kk_.toNat 2 ≤ 100000 := hI_.1 3 kk_.toNat 2 rfl
      refine sm_T_go 3 (c1 := (29, [some (.inr (.inr (some (12, 0)))), some (.inl kk_), some (.inl k_), some (.inl nx_), some (.inr (.inr (some (3, kk_.toNat))))], [.inl (S0_.1 3 kk_.toNat 2), .inl k_], S0_)) rfl ?_
      refine sm_T_br (a := 3) (z := 7) rfl (fun cx32_ => ?_) (fun cx32_ => ?_)
      · have cx32_ : (S0_.1 3 kk_.toNat 2) ≤ k_ := of_decide_eq_true cx32_
        refine sm_T_go 1 (c1 := (37, [some (.inr (.inr (some (12, 0)))), some (.inl kk_), some (.inl k_), some (.inl nx_), some (.inr (.inr (some (3, kk_.toNat))))], [.inl 0], S0_)) rfl ?_
        refine sm_T_cale (d1_ := 0) (Q1_ := vq_265e 0 S0_) (Q2_ := (fun ex_ S1_ => ex_ ∈ ([0] : List Nat) ∧ vx_265e 0 S0_ S1_)) rfl rfl (by decide) (vc_265e 0 S0_ hI_ ) rfl (fun xx38_ Sx33_ px36_ => ?_) (fun u_ Sx33_ px36_ => ?_)
        · obtain ⟨px36m, hIx34_, hFx35_, px36_⟩ := px36_
          refine Or.inr ⟨_, _, rfl, by first | exact px36m | (simp only [List.mem_cons, List.not_mem_nil, or_false] at px36m ⊢; omega), hIx34_, ai_fr_tr hF_ (fr_le hFx35_ rfl), ?_⟩
          exact ⟨px36_.2, by (have y9_ := px36_.1; unfold okc_root; omega)⟩
        · exact absurd rfl px36_.2.2.2.1
      · have cx32_ : ¬ ((S0_.1 3 kk_.toNat 2) ≤ k_) := of_decide_eq_false cx32_
        refine sm_T_go 2 (c1 := (37, [some (.inr (.inr (some (12, 0)))), some (.inl kk_), some (.inl k_), some (.inl nx_), some (.inr (.inr (some (3, kk_.toNat))))], [.inl 1], S0_)) rfl ?_
        refine sm_T_cale (d1_ := 0) (Q1_ := vq_265e 1 S0_) (Q2_ := (fun ex_ S1_ => ex_ ∈ ([0] : List Nat) ∧ vx_265e 1 S0_ S1_)) rfl rfl (by decide) (vc_265e 1 S0_ hI_ ) rfl (fun xx44_ Sx39_ px42_ => ?_) (fun u_ Sx39_ px42_ => ?_)
        · exact absurd px42_.2.2.2.1 (by decide)
        obtain ⟨rfl, -, -, px42_, rfl⟩ := px42_
        refine sm_T_go 1 (c1 := (41, [some (.inr (.inr (some (12, 0)))), some (.inl kk_), some (.inl k_), some (.inl nx_), some (.inr (.inr (some (3, kk_.toNat))))], [.inl nx_], S0_)) rfl ?_
        refine sm_T_b0 (a := 0) (z := 13) rfl (fun cx45_ => ?_) (fun cx45_ => ?_)
        · have cx45_ : nx_ = 0 := of_decide_eq_true cx45_
          refine sm_T_go 3 (c1 := (60, [some (.inr (.inr (some (12, 0)))), some (.inl kk_), some (.inl k_), some (.inl nx_), some (.inr (.inr (some (3, kk_.toNat))))], [.inl k_, .inr (.inr (some (45, (0 + kk_.toNat))))], S0_)) rfl ?_
          refine sm_T_iald (n := 16) rfl rfl (by omega) (by omega) ?_
          have bx46_ : 0 ≤ S0_.2.2.1 45 (0 + kk_.toNat) k_.toNat ∧ S0_.2.2.1 45 (0 + kk_.toNat) k_.toNat ≤ 2025 := hI_.2 45 (0 + kk_.toNat) _
          refine sm_T_ri rfl (Or.inl ⟨_, _, rfl, _, rfl, hI_, hF_, ?_⟩)
          refine ⟨rfl, by (unfold okc_root; omega), ?_⟩; unfold vac_root; first | exact (if_pos (by omega)).symm | exact (if_neg (by omega)).symm
        · have cx45_ : ¬ (nx_ = 0) := of_decide_eq_false cx45_
          refine sm_T_go 3 (c1 := (50, [some (.inr (.inr (some (12, 0)))), some (.inl kk_), some (.inl k_), some (.inl nx_), some (.inr (.inr (some (3, kk_.toNat))))], [.inl k_, .inr (.inr (some (46, (0 + kk_.toNat))))], S0_)) rfl ?_
          refine sm_T_iald (n := 6) rfl rfl (by omega) (by omega) ?_
          have bx47_ : 0 ≤ S0_.2.2.1 46 (0 + kk_.toNat) k_.toNat ∧ S0_.2.2.1 46 (0 + kk_.toNat) k_.toNat ≤ 2025 := hI_.2 46 (0 + kk_.toNat) _
          refine sm_T_go 1 (c1 := (61, [some (.inr (.inr (some (12, 0)))), some (.inl kk_), some (.inl k_), some (.inl nx_), some (.inr (.inr (some (3, kk_.toNat))))], [.inl (S0_.2.2.1 46 (0 + kk_.toNat) k_.toNat)], S0_)) rfl ?_
          refine sm_T_ri rfl (Or.inl ⟨_, _, rfl, _, rfl, hI_, hF_, ?_⟩)
          refine ⟨rfl, by (unfold okc_root; omega), ?_⟩; unfold vac_root; first | exact (if_pos (by omega)).symm | exact (if_neg (by omega)).symm
def okc_swept (kk_ nd_ : Int) (S_ : sm_S) : Prop := (0 ≤ kk_ ∧ kk_ < 6 ∧ S_.1 3 kk_.toNat 0 = 1) ∧ (0 ≤ nd_ ∧ nd_ < S_.1 3 kk_.toNat 4)
def vac_swept (kk_ nd_ : Int) (S_ : sm_S) : Int := S_.2.2.1 44 (0 + kk_.toNat) nd_.toNat
/-! ChipFlow.swept -/
def vw_221t : sx_Wl := ([], [], [])
def vq_221t (kk_ : Int) (nd_ : Int) (S0_ : sm_S) (u_ : Option sm_V) (S1_ : sm_S) : Prop := ∃ v_ : Int, u_ = some (.inl v_) ∧ gi S1_ ∧ ai_fr (sx_W vw_221t) S0_ S1_ ∧ (S1_ = S0_ ∧ okc_swept kk_ nd_ S0_ ∧ v_ = vac_swept kk_ nd_ S0_)
def vx_221t (kk_ : Int) (nd_ : Int) (S0_ : sm_S) (S1_ : sm_S) : Prop := gi S1_ ∧ ai_fr (sx_W vw_221t) S0_ S1_ ∧ (S1_ = S0_ ∧ ¬ okc_swept kk_ nd_ S0_)
set_option maxHeartbeats 400000 in
theorem vc_221t {sc_ : Nat × (Nat → Int)} (kk_ : Int) (nd_ : Int) (S0_ : sm_S) (hI_ : gi S0_) (hJ_ : dAll S0_) : sm_T (mt_P sc_) 2 221 (0, [some (.inr (.inr (some (12, 0)))), some (.inl kk_), some (.inl nd_), none], [], S0_) (fun ro9_ => (∃ u_ S1_, ro9_ = (.inl u_, S1_, 0) ∧ vq_221t kk_ nd_ S0_ u_ S1_) ∨ ∃ ex_ S1_, ro9_ = (.inr ex_, S1_, 1) ∧ ex_ ∈ ([0] : List Nat) ∧ vx_221t kk_ nd_ S0_ S1_) := by
  have hF_ : ai_fr (sx_W vw_221t) S0_ S0_ := ai_fr_rf
  refine sm_T_go 2 (c1 := (2, [some (.inr (.inr (some (12, 0)))), some (.inl kk_), some (.inl nd_), none], [.inl kk_, .inr (.inr (some (12, 0)))], S0_)) rfl ?_
  refine sm_T_cale (d1_ := 1) (Q1_ := vq_270t kk_ S0_) (Q2_ := (fun ex_ S1_ => ex_ ∈ ([0] : List Nat) ∧ vx_270t kk_ S0_ S1_)) rfl rfl (by decide) (vc_270t kk_ S0_ hI_ ) rfl (fun xx6_ Sx1_ px4_ => ?_) (fun u_ Sx1_ px4_ => ?_)
  · obtain ⟨px4m, hIx2_, hFx3_, px4_⟩ := px4_
    refine Or.inr ⟨_, _, rfl, by first | exact px4m | (simp only [List.mem_cons, List.not_mem_nil, or_false] at px4m ⊢; omega), hIx2_, ai_fr_tr hF_ (fr_le hFx3_ rfl), ?_⟩
    exact ⟨px4_.1, fun y9_ => px4_.2 y9_.1⟩
  obtain ⟨rfl, -, -, rfl, px4_⟩ := px4_
  have a9_ := px4_
  have J9_ := dOk_b (hJ_ kk_.toNat (by omega) a9_.2)
  have J9a := J9_.1
  have J9b := J9_.2.1
  refine sm_T_go 2 (c1 := (7, [some (.inr (.inr (some (12, 0)))), some (.inl kk_), some (.inl nd_), some (.inr (.inr (some (3, kk_.toNat))))], [.inl nd_], S0_)) rfl ?_
  refine sm_T_b0 (a := 2) (z := 15) rfl (fun cx7_ => ?_) (fun cx7_ => ?_)
  · have cx7_ : nd_ < 0 := of_decide_eq_true cx7_
    refine sm_T_go 1 (c1 := (23, [some (.inr (.inr (some (12, 0)))), some (.inl kk_), some (.inl nd_), some (.inr (.inr (some (3, kk_.toNat))))], [.inl 0], S0_)) rfl ?_
    refine sm_T_cale (d1_ := 0) (Q1_ := vq_265e 0 S0_) (Q2_ := (fun ex_ S1_ => ex_ ∈ ([0] : List Nat) ∧ vx_265e 0 S0_ S1_)) rfl rfl (by decide) (vc_265e 0 S0_ hI_ ) rfl (fun xx13_ Sx8_ px11_ => ?_) (fun u_ Sx8_ px11_ => ?_)
    · obtain ⟨px11m, hIx9_, hFx10_, px11_⟩ := px11_
      refine Or.inr ⟨_, _, rfl, by first | exact px11m | (simp only [List.mem_cons, List.not_mem_nil, or_false] at px11m ⊢; omega), hIx9_, ai_fr_tr hF_ (fr_le hFx10_ rfl), ?_⟩
      exact ⟨px11_.2, by (have y9_ := px11_.1; unfold okc_swept; omega)⟩
    · exact absurd rfl px11_.2.2.2.1
  · have cx7_ : ¬ (nd_ < 0) := of_decide_eq_false cx7_
    have bx14_ : 0 ≤ S0_.1 3 kk_.toNat 4 ∧ S0_.1 3 kk_.toNat 4 ≤ 1013 := hI_.1 3 kk_.toNat 4 rfl
    refine sm_T_go 3 (c1 := (15, [some (.inr (.inr (some (12, 0)))), some (.inl kk_), some (.inl nd_), some (.inr (.inr (some (3, kk_.toNat))))], [.inl (S0_.1 3 kk_.toNat 4), .inl nd_], S0_)) rfl ?_
    refine sm_T_br (a := 3) (z := 7) rfl (fun cx15_ => ?_) (fun cx15_ => ?_)
    · have cx15_ : (S0_.1 3 kk_.toNat 4) ≤ nd_ := of_decide_eq_true cx15_
      refine sm_T_go 1 (c1 := (23, [some (.inr (.inr (some (12, 0)))), some (.inl kk_), some (.inl nd_), some (.inr (.inr (some (3, kk_.toNat))))], [.inl 0], S0_)) rfl ?_
      refine sm_T_cale (d1_ := 0) (Q1_ := vq_265e 0 S0_) (Q2_ := (fun ex_ S1_ => ex_ ∈ ([0] : List Nat) ∧ vx_265e 0 S0_ S1_)) rfl rfl (by decide) (vc_265e 0 S0_ hI_ ) rfl (fun xx21_ Sx16_ px19_ => ?_) (fun u_ Sx16_ px19_ => ?_)
      · obtain ⟨px19m, hIx17_, hFx18_, px19_⟩ := px19_
        refine Or.inr ⟨_, _, rfl, by first | exact px19m | (simp only [List.mem_cons, List.not_mem_nil, or_false] at px19m ⊢; omega), hIx17_, ai_fr_tr hF_ (fr_le hFx18_ rfl), ?_⟩
        exact ⟨px19_.2, by (have y9_ := px19_.1; unfold okc_swept; omega)⟩
      · exact absurd rfl px19_.2.2.2.1
    · have cx15_ : ¬ ((S0_.1 3 kk_.toNat 4) ≤ nd_) := of_decide_eq_false cx15_
      refine sm_T_go 2 (c1 := (23, [some (.inr (.inr (some (12, 0)))), some (.inl kk_), some (.inl nd_), some (.inr (.inr (some (3, kk_.toNat))))], [.inl 1], S0_)) rfl ?_
      refine sm_T_cale (d1_ := 0) (Q1_ := vq_265e 1 S0_) (Q2_ := (fun ex_ S1_ => ex_ ∈ ([0] : List Nat) ∧ vx_265e 1 S0_ S1_)) rfl rfl (by decide) (vc_265e 1 S0_ hI_ ) rfl (fun xx27_ Sx22_ px25_ => ?_) (fun u_ Sx22_ px25_ => ?_)
      · exact absurd px25_.2.2.2.1 (by decide)
      obtain ⟨rfl, -, -, px25_, rfl⟩ := px25_
      refine sm_T_go 3 (c1 := (31, [some (.inr (.inr (some (12, 0)))), some (.inl kk_), some (.inl nd_), some (.inr (.inr (some (3, kk_.toNat))))], [.inl nd_, .inr (.inr (some (44, (0 + kk_.toNat))))], S0_)) rfl ?_
      refine sm_T_iald (n := 1013) rfl rfl (by omega) (by omega) ?_
      have bx28_ : 0 ≤ S0_.2.2.1 44 (0 + kk_.toNat) nd_.toNat ∧ S0_.2.2.1 44 (0 + kk_.toNat) nd_.toNat ≤ 2025 := hI_.2 44 (0 + kk_.toNat) _
      refine sm_T_ri rfl (Or.inl ⟨_, _, rfl, _, rfl, hI_, hF_, ?_⟩)
      refine ⟨rfl, by (unfold okc_swept; omega), ?_⟩; unfold vac_swept; first | rfl | exact rfl
