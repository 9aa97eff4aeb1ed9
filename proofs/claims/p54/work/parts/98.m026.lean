/-! 99.zs1 -/
section
/-! the reference: parts of a layout; written by wip/p55/gen/vg -/

/-! the_ reference: parts of_ a_ layout -/
def pts (M_ : Int) (S_ : sm_S) : Prop := ∀ k_ : Int, 0 ≤ k_ → k_ < M_ → S_.2.2.1 266 0 k_.toNat ≤ k_
theorem pts_fr {w_ : sx_Wl} {M_ : Int} {S_ S'_ : sm_S} (h_ : pts M_ S_) (g_ : ai_fr (sx_W w_) S_ S'_) (h1_ : (sx_W w_).2.1 266 = false := by rfl) : pts M_ S'_ := by
  unfold pts
  rw [fr_arr g_ h1_]
  exact h_
theorem pts_aI {M_ v_ : Int} {j_ : Nat} {S_ : sm_S} (h_ : pts M_ S_) (hv_ : v_ ≤ (j_ : Int)) : pts M_ (sm_aI S_ 266 0 j_ v_) := fun k_ a_ b_ => by
  rw [rd_eq]
  split
  · omega
  · exact h_ k_ a_ b_
/-! M_.partOf -/
def vw_488 : sx_Wl := ([], [266], [])
def vq_488 (k_ : Int) (M_ : Int) (S0_ : sm_S) (u_ : Option sm_V) (S1_ : sm_S) : Prop := ∃ v_ : Int, u_ = some (.inl v_) ∧ gi S1_ ∧ ai_fr (sx_W vw_488) S0_ S1_ ∧ (0 ≤ v_ ∧ v_ ≤ k_ ∧ pts M_ S1_)
set_option maxHeartbeats 400000 in
set_option maxRecDepth 20000 in
theorem vl_488 {sc_ : Nat × (Nat → Int)} (k_ : Int) (M_ : Int) (S0_ : sm_S) (hk_ : 0 ≤ k_ ∧ k_ < M_ ∧ M_ ≤ 2700) (hp_ : pts M_ S0_) : ∀ nn_ : Nat, (∀ (p_ : Int) (S_ : sm_S), gi S_ → ai_fr (sx_W vw_488) S0_ S_ → ((0 ≤ p_ ∧ p_ ≤ k_) ∧ (pts M_ S_) ∧ True) → ((p_ + 1).toNat) < nn_ → sm_T (mt_P sc_) 0 488 (2, [some (.inr (.inr (some (13, 0)))), some (.inl k_), some (.inl p_)], [], S_) (fun ro9_ => ∃ u_ S1_, ro9_ = (.inl u_, S1_, 0) ∧ vq_488 k_ M_ S0_ u_ S1_)) := by
  intro nn_
  induction nn_ with
  | zero => exact fun _ _ _ _ _ h_ => absurd h_ (Nat.not_lt_zero _)
  | succ nn_ ih_ =>
    rintro p_ S_ hI_ hF_ ⟨h0_, h1_, -⟩ hm_
    have q9_ := h1_ p_ (by omega) (by omega)
    refine sm_T_go 3 (c1 := (7, [some (.inr (.inr (some (13, 0)))), some (.inl k_), some (.inl p_)], [.inl p_, .inr (.inr (some (266, 0)))], S_)) rfl ?_
    refine sm_T_iald (n := 2700) rfl rfl (by omega) (by omega) ?_
    have bx1_ : 0 ≤ S_.2.2.1 266 0 p_.toNat ∧ S_.2.2.1 266 0 p_.toNat ≤ 2699 := hI_.2 266 0 _
    refine sm_T_go 1 (c1 := (9, [some (.inr (.inr (some (13, 0)))), some (.inl k_), some (.inl p_)], [.inl p_, .inl (S_.2.2.1 266 0 p_.toNat)], S_)) rfl ?_
    refine sm_T_br (a := 0) (z := 13) rfl (fun cx2_ => ?_) (fun cx2_ => ?_)
    · have cx2_ : (S_.2.2.1 266 0 p_.toNat) = p_ := of_decide_eq_true cx2_
      refine sm_T_go 4 (c1 := (28, [some (.inr (.inr (some (13, 0)))), some (.inl k_), some (.inl p_)], [.inl p_, .inl k_, .inr (.inr (some (266, 0)))], S_)) rfl ?_
      refine sm_T_iast (n := 2700) rfl rfl (by omega) (by omega) ?_
      have hIx3_ : gi (sm_aI S_ 266 0 k_.toNat p_) := gi_aI hI_ (show 0 ≤ p_ ∧ p_ ≤ 2699 from ⟨by omega, by omega⟩)
      have hFx4_ : ai_fr (sx_W vw_488) S0_ (sm_aI S_ 266 0 k_.toNat p_) := ai_fr_tr hF_ (ai_fr_aI rfl)
      refine sm_T_go 1 (c1 := (30, [some (.inr (.inr (some (13, 0)))), some (.inl k_), some (.inl p_)], [.inl p_], sm_aI S_ 266 0 k_.toNat p_)) rfl ?_
      refine sm_T_ri rfl ⟨_, _, rfl, _, rfl, hIx3_, hFx4_, ?_⟩
      exact ⟨by omega, by omega, pts_aI h1_ (by omega)⟩
    · have cx2_ : ¬ ((S_.2.2.1 266 0 p_.toNat) = p_) := of_decide_eq_false cx2_
      refine sm_T_go 3 (c1 := (17, [some (.inr (.inr (some (13, 0)))), some (.inl k_), some (.inl p_)], [.inl p_, .inr (.inr (some (266, 0)))], S_)) rfl ?_
      refine sm_T_iald (n := 2700) rfl rfl (by omega) (by omega) ?_
      refine sm_T_go 2 (c1 := (2, [some (.inr (.inr (some (13, 0)))), some (.inl k_), some (.inl (S_.2.2.1 266 0 p_.toNat))], [], S_)) rfl ?_
      refine ih_ (S_.2.2.1 266 0 p_.toNat) S_ hI_ hF_ ⟨?_, ?_, trivial⟩ ?_
      · omega
      · exact h1_
      · omega
set_option maxHeartbeats 400000 in
set_option maxRecDepth 20000 in
theorem vc_488 {sc_ : Nat × (Nat → Int)} (k_ : Int) (M_ : Int) (S0_ : sm_S) (hI_ : gi S0_) (hk_ : 0 ≤ k_ ∧ k_ < M_ ∧ M_ ≤ 2700) (hp_ : pts M_ S0_) : sm_T (mt_P sc_) 0 488 (0, [some (.inr (.inr (some (13, 0)))), some (.inl k_), none], [], S0_) (fun ro9_ => ∃ u_ S1_, ro9_ = (.inl u_, S1_, 0) ∧ vq_488 k_ M_ S0_ u_ S1_) := by
  have hF_ : ai_fr (sx_W vw_488) S0_ S0_ := ai_fr_rf
  refine sm_T_go 2 (c1 := (2, [some (.inr (.inr (some (13, 0)))), some (.inl k_), some (.inl k_)], [], S0_)) rfl ?_
  refine (vl_488 k_ M_ S0_ hk_ hp_ _) k_ S0_ hI_ hF_ ⟨?_, ?_, trivial⟩ (Nat.lt_succ_self _)
  · omega
  · exact hp_
/-! M_.unite -/
def vw_489 : sx_Wl := ([], [266], [])
def vq_489 (a_ : Int) (b_ : Int) (M_ : Int) (S0_ : sm_S) (u_ : Option sm_V) (S1_ : sm_S) : Prop := u_ = none ∧ gi S1_ ∧ ai_fr (sx_W vw_489) S0_ S1_ ∧ (pts M_ S1_)
set_option maxHeartbeats 400000 in
set_option maxRecDepth 20000 in
theorem vc_489 {sc_ : Nat × (Nat → Int)} (a_ : Int) (b_ : Int) (M_ : Int) (S0_ : sm_S) (hI_ : gi S0_) (ha_ : 0 ≤ a_ ∧ a_ < M_ ∧ 0 ≤ b_ ∧ b_ < M_ ∧ M_ ≤ 2700) (hp_ : pts M_ S0_) : sm_T (mt_P sc_) 1 489 (0, [some (.inr (.inr (some (13, 0)))), some (.inl a_), some (.inl b_), none, none], [], S0_) (fun ro9_ => ∃ u_ S1_, ro9_ = (.inl u_, S1_, 0) ∧ vq_489 a_ b_ M_ S0_ u_ S1_) := by
  have hF_ : ai_fr (sx_W vw_489) S0_ S0_ := ai_fr_rf
  refine sm_T_go 2 (c1 := (2, [some (.inr (.inr (some (13, 0)))), some (.inl a_), some (.inl b_), none, none], [.inl a_, .inr (.inr (some (13, 0)))], S0_)) rfl ?_
  refine sm_T_cal (d1 := 0) (Q1 := vq_488 a_ M_ S0_) rfl rfl (by decide) (vc_488 a_ M_ S0_ hI_ (by omega) (by exact hp_)) (fun u_ Sx1_ px4_ => ?_)
  obtain ⟨vx6_, rfl, hIx2_, hFx3_, px4_⟩ := px4_
  have hFx5_ : ai_fr (sx_W vw_489) S0_ Sx1_ := ai_fr_tr hF_ (fr_le hFx3_ rfl)
  have e2_ := px4_
  refine sm_T_go 3 (c1 := (8, [some (.inr (.inr (some (13, 0)))), some (.inl a_), some (.inl b_), some (.inl vx6_), none], [.inl b_, .inr (.inr (some (13, 0)))], Sx1_)) rfl ?_
  refine sm_T_cal (d1 := 0) (Q1 := vq_488 b_ M_ Sx1_) rfl rfl (by decide) (vc_488 b_ M_ Sx1_ hIx2_ (by omega) (by exact e2_.2.2)) (fun u_ Sx7_ px10_ => ?_)
  obtain ⟨vx12_, rfl, hIx8_, hFx9_, px10_⟩ := px10_
  have hFx11_ : ai_fr (sx_W vw_489) S0_ Sx7_ := ai_fr_tr hFx5_ (fr_le hFx9_ rfl)
  have e8_ := px10_
  refine sm_T_go 5 (c1 := (20, [some (.inr (.inr (some (13, 0)))), some (.inl a_), some (.inl b_), some (.inl vx6_), some (.inl vx12_)], [.inl vx12_, .inl vx6_, .inr (.inr (some (266, 0)))], Sx7_)) rfl ?_
  refine sm_T_br (a := 5) (z := 7) rfl (fun cx13_ => ?_) (fun cx13_ => ?_)
  · have cx13_ : vx6_ ≤ vx12_ := of_decide_eq_true cx13_
    refine sm_T_go 3 (c1 := (32, [some (.inr (.inr (some (13, 0)))), some (.inl a_), some (.inl b_), some (.inl vx6_), some (.inl vx12_)], [.inl vx12_, .inl vx6_, .inl vx12_, .inr (.inr (some (266, 0)))], Sx7_)) rfl ?_
    refine sm_T_br (a := 5) (z := 8) rfl (fun cx14_ => ?_) (fun cx14_ => ?_)
    · have cx14_ : vx6_ ≤ vx12_ := of_decide_eq_true cx14_
      refine sm_T_go 1 (c1 := (41, [some (.inr (.inr (some (13, 0)))), some (.inl a_), some (.inl b_), some (.inl vx6_), some (.inl vx12_)], [.inl vx6_, .inl vx12_, .inr (.inr (some (266, 0)))], Sx7_)) rfl ?_
      refine sm_T_iast (n := 2700) rfl rfl (by omega) (by omega) ?_
      have hIx15_ : gi (sm_aI Sx7_ 266 0 vx12_.toNat vx6_) := gi_aI hIx8_ (show 0 ≤ vx6_ ∧ vx6_ ≤ 2699 from ⟨by omega, by omega⟩)
      have hFx16_ : ai_fr (sx_W vw_489) S0_ (sm_aI Sx7_ 266 0 vx12_.toNat vx6_) := ai_fr_tr hFx11_ (ai_fr_aI rfl)
      refine sm_T_rv rfl ⟨_, _, rfl, rfl, hIx15_, hFx16_, ?_⟩
      exact pts_aI e8_.2.2 (by omega)
    · have cx14_ : ¬ (vx6_ ≤ vx12_) := of_decide_eq_false cx14_
      exfalso; omega
  · have cx13_ : ¬ (vx6_ ≤ vx12_) := of_decide_eq_false cx13_
    refine sm_T_go 4 (c1 := (32, [some (.inr (.inr (some (13, 0)))), some (.inl a_), some (.inl b_), some (.inl vx6_), some (.inl vx12_)], [.inl vx12_, .inl vx6_, .inl vx6_, .inr (.inr (some (266, 0)))], Sx7_)) rfl ?_
    refine sm_T_br (a := 5) (z := 8) rfl (fun cx17_ => ?_) (fun cx17_ => ?_)
    · have cx17_ : vx6_ ≤ vx12_ := of_decide_eq_true cx17_
      exfalso; omega
    · have cx17_ : ¬ (vx6_ ≤ vx12_) := of_decide_eq_false cx17_
      refine sm_T_go 2 (c1 := (41, [some (.inr (.inr (some (13, 0)))), some (.inl a_), some (.inl b_), some (.inl vx6_), some (.inl vx12_)], [.inl vx12_, .inl vx6_, .inr (.inr (some (266, 0)))], Sx7_)) rfl ?_
      refine sm_T_iast (n := 2700) rfl rfl (by omega) (by omega) ?_
      have hIx18_ : gi (sm_aI Sx7_ 266 0 vx6_.toNat vx12_) := gi_aI hIx8_ (show 0 ≤ vx12_ ∧ vx12_ ≤ 2699 from ⟨by omega, by omega⟩)
      have hFx19_ : ai_fr (sx_W vw_489) S0_ (sm_aI Sx7_ 266 0 vx6_.toNat vx12_) := ai_fr_tr hFx11_ (ai_fr_aI rfl)
      refine sm_T_rv rfl ⟨_, _, rfl, rfl, hIx18_, hFx19_, ?_⟩
      exact pts_aI e8_.2.2 (by omega)
/-! M_.areJoined -/
def vw_490 : sx_Wl := ([], [], [])
def vq_490 (c_ : Int) (a_ : Int) (b_ : Int) (S0_ : sm_S) (u_ : Option sm_V) (S1_ : sm_S) : Prop := S0_ = S1_ ∧ ∃ v_ : Int, u_ = some (.inl v_) ∧ (((-2147483648) ≤ v_ ∧ v_ ≤ 2147483647) ∧ (v_ = 0 ∨ v_ = 1))
set_option maxHeartbeats 400000 in
set_option maxRecDepth 20000 in
theorem vc_490 {sc_ : Nat × (Nat → Int)} (c_ : Int) (a_ : Int) (b_ : Int) (S0_ : sm_S) (hI_ : gi S0_) (hc_ : 0 ≤ c_ ∧ c_ ≤ 3) (ha_ : 0 ≤ a_ ∧ a_ ≤ 1999) (hb_ : 0 ≤ b_ ∧ b_ ≤ 1999) : sm_T (mt_P sc_) 3 490 (0, [some (.inr (.inr (some (13, 0)))), some (.inl c_), some (.inl a_), some (.inl b_), none, none, none], [], S0_) (fun ro9_ => ∃ u_ S1_, ro9_ = (.inl u_, S1_, 0) ∧ vq_490 c_ a_ b_ S0_ u_ S1_) := by
  have hF_ : ai_fr (sx_W vw_490) S0_ S0_ := ai_fr_rf
  refine sm_T_go 4 (c1 := (4, [some (.inr (.inr (some (13, 0)))), some (.inl c_), some (.inl a_), some (.inl b_), none, none, none], [.inl 0, .inl a_, .inl c_, .inr (.inr (some (13, 0)))], S0_)) rfl ?_
  refine sm_T_cal (d1 := 0) (Q1 := vq_476 c_ a_ 0 S0_) rfl rfl (by decide) (vc_476 c_ a_ 0 S0_ hI_ (by omega) (by omega) (by omega)) (fun u_ Sx1_ px4_ => ?_)
  obtain ⟨rfl, vx6_, rfl, px4_⟩ := px4_
  refine sm_T_go 5 (c1 := (13, [some (.inr (.inr (some (13, 0)))), some (.inl c_), some (.inl a_), some (.inl b_), some (.inl vx6_), none, none], [.inl 0, .inl b_, .inl c_, .inr (.inr (some (13, 0)))], S0_)) rfl ?_
  refine sm_T_cal (d1 := 0) (Q1 := vq_476 c_ b_ 0 S0_) rfl rfl (by decide) (vc_476 c_ b_ 0 S0_ hI_ (by omega) (by omega) (by omega)) (fun u_ Sx7_ px10_ => ?_)
  obtain ⟨rfl, vx12_, rfl, px10_⟩ := px10_
  refine sm_T_go 3 (c1 := (22, [some (.inr (.inr (some (13, 0)))), some (.inl c_), some (.inl a_), some (.inl b_), some (.inl vx6_), some (.inl vx12_), none], [.inl vx12_, .inl vx6_], S0_)) rfl ?_
  refine sm_T_br (a := 1) (z := 17) rfl (fun cx13_ => ?_) (fun cx13_ => ?_)
  · have cx13_ : vx6_ ≠ vx12_ := of_decide_eq_true cx13_
    refine sm_T_go 2 (c1 := (42, [some (.inr (.inr (some (13, 0)))), some (.inl c_), some (.inl a_), some (.inl b_), some (.inl vx6_), some (.inl vx12_), none], [.inl 2, .inl vx6_], S0_)) rfl ?_
    refine sm_T_br (a := 0) (z := 9) rfl (fun cx14_ => ?_) (fun cx14_ => ?_)
    · have cx14_ : vx6_ = 2 := of_decide_eq_true cx14_
      refine sm_T_go 9 (c1 := (67, [some (.inr (.inr (some (13, 0)))), some (.inl c_), some (.inl a_), some (.inl b_), some (.inl vx6_), some (.inl vx12_), some (.inl 1)], [.inl b_, .inl a_, .inl c_, .inr (.inr (some (13, 0)))], S0_)) rfl ?_
      refine sm_T_cal (d1 := 2) (Q1 := vq_482 c_ a_ b_ S0_) rfl rfl (by decide) (vc_482 c_ a_ b_ S0_ hI_ (by omega) (by omega) (by omega)) (fun u_ Sx15_ px18_ => ?_)
      obtain ⟨rfl, vx20_, rfl, px18_⟩ := px18_
      refine sm_T_b0 (a := 0) (z := 7) rfl (fun cx21_ => ?_) (fun cx21_ => ?_)
      · have cx21_ : vx20_ = 0 := of_decide_eq_true cx21_
        refine sm_T_go 1 (c1 := (78, [some (.inr (.inr (some (13, 0)))), some (.inl c_), some (.inl a_), some (.inl b_), some (.inl vx6_), some (.inl vx12_), some (.inl 1)], [.inl 0], S0_)) rfl ?_
        refine sm_T_rz rfl (by omega) ⟨_, _, rfl, rfl, _, rfl, ?_⟩
        omega
      · have cx21_ : ¬ (vx20_ = 0) := of_decide_eq_false cx21_
        refine sm_T_go 2 (c1 := (78, [some (.inr (.inr (some (13, 0)))), some (.inl c_), some (.inl a_), some (.inl b_), some (.inl vx6_), some (.inl vx12_), some (.inl 1)], [.inl 1], S0_)) rfl ?_
        refine sm_T_rz rfl (by omega) ⟨_, _, rfl, rfl, _, rfl, ?_⟩
        omega
    · have cx14_ : ¬ (vx6_ = 2) := of_decide_eq_false cx14_
      refine sm_T_go 2 (c1 := (48, [some (.inr (.inr (some (13, 0)))), some (.inl c_), some (.inl a_), some (.inl b_), some (.inl vx6_), some (.inl vx12_), none], [.inl 2, .inl vx12_], S0_)) rfl ?_
      refine sm_T_br (a := 1) (z := 7) rfl (fun cx22_ => ?_) (fun cx22_ => ?_)
      · have cx22_ : vx12_ ≠ 2 := of_decide_eq_true cx22_
        refine sm_T_go 5 (c1 := (78, [some (.inr (.inr (some (13, 0)))), some (.inl c_), some (.inl a_), some (.inl b_), some (.inl vx6_), some (.inl vx12_), some (.inl 0)], [.inl 0], S0_)) rfl ?_
        refine sm_T_rz rfl (by omega) ⟨_, _, rfl, rfl, _, rfl, ?_⟩
        omega
      · have cx22_ : ¬ (vx12_ ≠ 2) := of_decide_eq_false cx22_
        refine sm_T_go 9 (c1 := (67, [some (.inr (.inr (some (13, 0)))), some (.inl c_), some (.inl a_), some (.inl b_), some (.inl vx6_), some (.inl vx12_), some (.inl 1)], [.inl b_, .inl a_, .inl c_, .inr (.inr (some (13, 0)))], S0_)) rfl ?_
        refine sm_T_cal (d1 := 2) (Q1 := vq_482 c_ a_ b_ S0_) rfl rfl (by decide) (vc_482 c_ a_ b_ S0_ hI_ (by omega) (by omega) (by omega)) (fun u_ Sx23_ px26_ => ?_)
        obtain ⟨rfl, vx28_, rfl, px26_⟩ := px26_
        refine sm_T_b0 (a := 0) (z := 7) rfl (fun cx29_ => ?_) (fun cx29_ => ?_)
        · have cx29_ : vx28_ = 0 := of_decide_eq_true cx29_
          refine sm_T_go 1 (c1 := (78, [some (.inr (.inr (some (13, 0)))), some (.inl c_), some (.inl a_), some (.inl b_), some (.inl vx6_), some (.inl vx12_), some (.inl 1)], [.inl 0], S0_)) rfl ?_
          refine sm_T_rz rfl (by omega) ⟨_, _, rfl, rfl, _, rfl, ?_⟩
          omega
        · have cx29_ : ¬ (vx28_ = 0) := of_decide_eq_false cx29_
          refine sm_T_go 2 (c1 := (78, [some (.inr (.inr (some (13, 0)))), some (.inl c_), some (.inl a_), some (.inl b_), some (.inl vx6_), some (.inl vx12_), some (.inl 1)], [.inl 1], S0_)) rfl ?_
          refine sm_T_rz rfl (by omega) ⟨_, _, rfl, rfl, _, rfl, ?_⟩
          omega
  · have cx13_ : ¬ (vx6_ ≠ vx12_) := of_decide_eq_false cx13_
    refine sm_T_go 2 (c1 := (28, [some (.inr (.inr (some (13, 0)))), some (.inl c_), some (.inl a_), some (.inl b_), some (.inl vx6_), some (.inl vx12_), none], [.inl 2, .inl vx6_], S0_)) rfl ?_
    refine sm_T_br (a := 3) (z := 7) rfl (fun cx30_ => ?_) (fun cx30_ => ?_)
    · have cx30_ : 2 ≤ vx6_ := of_decide_eq_true cx30_
      refine sm_T_go 6 (c1 := (78, [some (.inr (.inr (some (13, 0)))), some (.inl c_), some (.inl a_), some (.inl b_), some (.inl vx6_), some (.inl vx12_), some (.inl 0)], [.inl 0], S0_)) rfl ?_
      refine sm_T_rz rfl (by omega) ⟨_, _, rfl, rfl, _, rfl, ?_⟩
      omega
    · have cx30_ : ¬ (2 ≤ vx6_) := of_decide_eq_false cx30_
      refine sm_T_go 9 (c1 := (67, [some (.inr (.inr (some (13, 0)))), some (.inl c_), some (.inl a_), some (.inl b_), some (.inl vx6_), some (.inl vx12_), some (.inl 1)], [.inl b_, .inl a_, .inl c_, .inr (.inr (some (13, 0)))], S0_)) rfl ?_
      refine sm_T_cal (d1 := 2) (Q1 := vq_482 c_ a_ b_ S0_) rfl rfl (by decide) (vc_482 c_ a_ b_ S0_ hI_ (by omega) (by omega) (by omega)) (fun u_ Sx31_ px34_ => ?_)
      obtain ⟨rfl, vx36_, rfl, px34_⟩ := px34_
      refine sm_T_b0 (a := 0) (z := 7) rfl (fun cx37_ => ?_) (fun cx37_ => ?_)
      · have cx37_ : vx36_ = 0 := of_decide_eq_true cx37_
        refine sm_T_go 1 (c1 := (78, [some (.inr (.inr (some (13, 0)))), some (.inl c_), some (.inl a_), some (.inl b_), some (.inl vx6_), some (.inl vx12_), some (.inl 1)], [.inl 0], S0_)) rfl ?_
        refine sm_T_rz rfl (by omega) ⟨_, _, rfl, rfl, _, rfl, ?_⟩
        omega
      · have cx37_ : ¬ (vx36_ = 0) := of_decide_eq_false cx37_
        refine sm_T_go 2 (c1 := (78, [some (.inr (.inr (some (13, 0)))), some (.inl c_), some (.inl a_), some (.inl b_), some (.inl vx6_), some (.inl vx12_), some (.inl 1)], [.inl 1], S0_)) rfl ?_
        refine sm_T_rz rfl (by omega) ⟨_, _, rfl, rfl, _, rfl, ?_⟩
        omega
/-! M_.isIn -/
def vw_491 : sx_Wl := ([], [], [])
def vq_491 (c_ : Int) (b_ : Int) (x_ : Int) (y_ : Int) (S0_ : sm_S) (u_ : Option sm_V) (S1_ : sm_S) : Prop := S0_ = S1_ ∧ ∃ v_ : Int, u_ = some (.inl v_) ∧ (((-2147483648) ≤ v_ ∧ v_ ≤ 2147483647) ∧ (v_ = 0 ∨ v_ = 1))
set_option maxHeartbeats 400000 in
set_option maxRecDepth 20000 in
theorem vc_491 {sc_ : Nat × (Nat → Int)} (c_ : Int) (b_ : Int) (x_ : Int) (y_ : Int) (S0_ : sm_S) (hI_ : gi S0_) (hc_ : 0 ≤ c_ ∧ c_ ≤ 3) (hb_ : 0 ≤ b_ ∧ b_ ≤ 1999) (hx_ : (-2147483648) ≤ x_ ∧ x_ ≤ 2147483647) (hy_ : (-2147483648) ≤ y_ ∧ y_ ≤ 2147483647) : sm_T (mt_P sc_) 1 491 (0, [some (.inr (.inr (some (13, 0)))), some (.inl c_), some (.inl b_), some (.inl x_), some (.inl y_)], [], S0_) (fun ro9_ => ∃ u_ S1_, ro9_ = (.inl u_, S1_, 0) ∧ vq_491 c_ b_ x_ y_ S0_ u_ S1_) := by
  have hF_ : ai_fr (sx_W vw_491) S0_ S0_ := ai_fr_rf
  refine sm_T_go 4 (c1 := (4, [some (.inr (.inr (some (13, 0)))), some (.inl c_), some (.inl b_), some (.inl x_), some (.inl y_)], [.inl 0, .inl b_, .inl c_, .inr (.inr (some (13, 0)))], S0_)) rfl ?_
  refine sm_T_cal (d1 := 0) (Q1 := vq_476 c_ b_ 0 S0_) rfl rfl (by decide) (vc_476 c_ b_ 0 S0_ hI_ (by omega) (by omega) (by omega)) (fun u_ Sx1_ px4_ => ?_)
  obtain ⟨rfl, vx6_, rfl, px4_⟩ := px4_
  refine sm_T_b0 (a := 1) (z := 53) rfl (fun cx7_ => ?_) (fun cx7_ => ?_)
  · have cx7_ : vx6_ ≠ 0 := of_decide_eq_true cx7_
    refine sm_T_go 1 (c1 := (61, [some (.inr (.inr (some (13, 0)))), some (.inl c_), some (.inl b_), some (.inl x_), some (.inl y_)], [.inl 0], S0_)) rfl ?_
    refine sm_T_rz rfl (by omega) ⟨_, _, rfl, rfl, _, rfl, ?_⟩
    omega
  · have cx7_ : ¬ (vx6_ ≠ 0) := of_decide_eq_false cx7_
    refine sm_T_go 5 (c1 := (15, [some (.inr (.inr (some (13, 0)))), some (.inl c_), some (.inl b_), some (.inl x_), some (.inl y_)], [.inl 1, .inl b_, .inl c_, .inr (.inr (some (13, 0))), .inl x_], S0_)) rfl ?_
    refine sm_T_cal (d1 := 0) (Q1 := vq_476 c_ b_ 1 S0_) rfl rfl (by decide) (vc_476 c_ b_ 1 S0_ hI_ (by omega) (by omega) (by omega)) (fun u_ Sx8_ px11_ => ?_)
    obtain ⟨rfl, vx13_, rfl, px11_⟩ := px11_
    refine sm_T_br (a := 2) (z := 42) rfl (fun cx14_ => ?_) (fun cx14_ => ?_)
    · have cx14_ : x_ < vx13_ := of_decide_eq_true cx14_
      refine sm_T_go 1 (c1 := (61, [some (.inr (.inr (some (13, 0)))), some (.inl c_), some (.inl b_), some (.inl x_), some (.inl y_)], [.inl 0], S0_)) rfl ?_
      refine sm_T_rz rfl (by omega) ⟨_, _, rfl, rfl, _, rfl, ?_⟩
      omega
    · have cx14_ : ¬ (x_ < vx13_) := of_decide_eq_false cx14_
      refine sm_T_go 5 (c1 := (26, [some (.inr (.inr (some (13, 0)))), some (.inl c_), some (.inl b_), some (.inl x_), some (.inl y_)], [.inl 3, .inl b_, .inl c_, .inr (.inr (some (13, 0))), .inl x_], S0_)) rfl ?_
      refine sm_T_cal (d1 := 0) (Q1 := vq_476 c_ b_ 3 S0_) rfl rfl (by decide) (vc_476 c_ b_ 3 S0_ hI_ (by omega) (by omega) (by omega)) (fun u_ Sx15_ px18_ => ?_)
      obtain ⟨rfl, vx20_, rfl, px18_⟩ := px18_
      refine sm_T_br (a := 4) (z := 31) rfl (fun cx21_ => ?_) (fun cx21_ => ?_)
      · have cx21_ : vx20_ < x_ := of_decide_eq_true cx21_
        refine sm_T_go 1 (c1 := (61, [some (.inr (.inr (some (13, 0)))), some (.inl c_), some (.inl b_), some (.inl x_), some (.inl y_)], [.inl 0], S0_)) rfl ?_
        refine sm_T_rz rfl (by omega) ⟨_, _, rfl, rfl, _, rfl, ?_⟩
        omega
      · have cx21_ : ¬ (vx20_ < x_) := of_decide_eq_false cx21_
        refine sm_T_go 5 (c1 := (38, [some (.inr (.inr (some (13, 0)))), some (.inl c_), some (.inl b_), some (.inl x_), some (.inl y_)], [.inl 2, .inl b_, .inl c_, .inr (.inr (some (13, 0))), .inl y_], S0_)) rfl ?_
        refine sm_T_cal (d1 := 0) (Q1 := vq_476 c_ b_ 2 S0_) rfl rfl (by decide) (vc_476 c_ b_ 2 S0_ hI_ (by omega) (by omega) (by omega)) (fun u_ Sx22_ px25_ => ?_)
        obtain ⟨rfl, vx27_, rfl, px25_⟩ := px25_
        refine sm_T_br (a := 2) (z := 19) rfl (fun cx28_ => ?_) (fun cx28_ => ?_)
        · have cx28_ : y_ < vx27_ := of_decide_eq_true cx28_
          refine sm_T_go 1 (c1 := (61, [some (.inr (.inr (some (13, 0)))), some (.inl c_), some (.inl b_), some (.inl x_), some (.inl y_)], [.inl 0], S0_)) rfl ?_
          refine sm_T_rz rfl (by omega) ⟨_, _, rfl, rfl, _, rfl, ?_⟩
          omega
        · have cx28_ : ¬ (y_ < vx27_) := of_decide_eq_false cx28_
          refine sm_T_go 5 (c1 := (50, [some (.inr (.inr (some (13, 0)))), some (.inl c_), some (.inl b_), some (.inl x_), some (.inl y_)], [.inl 4, .inl b_, .inl c_, .inr (.inr (some (13, 0))), .inl y_], S0_)) rfl ?_
          refine sm_T_cal (d1 := 0) (Q1 := vq_476 c_ b_ 4 S0_) rfl rfl (by decide) (vc_476 c_ b_ 4 S0_ hI_ (by omega) (by omega) (by omega)) (fun u_ Sx29_ px32_ => ?_)
          obtain ⟨rfl, vx34_, rfl, px32_⟩ := px32_
          refine sm_T_br (a := 4) (z := 7) rfl (fun cx35_ => ?_) (fun cx35_ => ?_)
          · have cx35_ : vx34_ < y_ := of_decide_eq_true cx35_
            refine sm_T_go 1 (c1 := (61, [some (.inr (.inr (some (13, 0)))), some (.inl c_), some (.inl b_), some (.inl x_), some (.inl y_)], [.inl 0], S0_)) rfl ?_
            refine sm_T_rz rfl (by omega) ⟨_, _, rfl, rfl, _, rfl, ?_⟩
            omega
          · have cx35_ : ¬ (vx34_ < y_) := of_decide_eq_false cx35_
            refine sm_T_go 2 (c1 := (61, [some (.inr (.inr (some (13, 0)))), some (.inl c_), some (.inl b_), some (.inl x_), some (.inl y_)], [.inl 1], S0_)) rfl ?_
            refine sm_T_rz rfl (by omega) ⟨_, _, rfl, rfl, _, rfl, ?_⟩
            omega
/-! M_.findParts -/
def vw_492 : sx_Wl := ([(13, 159)], [243, 244, 245, 266], [])
def vq_492 (c_ : Int) (S0_ : sm_S) (u_ : Option sm_V) (S1_ : sm_S) : Prop := u_ = none ∧ gi S1_ ∧ ai_fr (sx_W vw_492) S0_ S1_ ∧ (pts (S0_.2.2.1 264 0 c_.toNat + S1_.1 13 0 159) S1_)
set_option maxHeartbeats 1000000 in
set_option maxRecDepth 20000 in
theorem vl_492 {sc_ : Nat × (Nat → Int)} (c_ : Int) (S0_ : sm_S) (hc_ : 0 ≤ c_ ∧ c_ ≤ 3) (hx_ : S0_.2.2.1 223 0 c_.toNat + S0_.2.2.1 224 0 c_.toNat ≤ 12) (hg_ : cgt c_ S0_) (ho_ : con c_ S0_) : ∀ nn_ : Nat, (∀ (n_ : Int) (k_ : Int) (S_ : sm_S), gi S_ → ai_fr (sx_W vw_492) S0_ S_ → ((0 ≤ k_ ∧ k_ ≤ n_ + S_.1 13 0 159) ∧ (n_ = S0_.2.2.1 264 0 c_.toNat) ∧ (pts k_ S_) ∧ True) → ((90000000 - k_).toNat) < nn_ → sm_T (mt_P sc_) 4 492 (14, [some (.inr (.inr (some (13, 0)))), some (.inl c_), some (.inl n_), some (.inl k_), none], [], S_) (fun ro9_ => ∃ u_ S1_, ro9_ = (.inl u_, S1_, 0) ∧ vq_492 c_ S0_ u_ S1_)) ∧ (∀ (n_ : Int) (a_ : Int) (S_ : sm_S), gi S_ → ai_fr (sx_W vw_492) S0_ S_ → ((0 ≤ a_ ∧ a_ ≤ n_) ∧ (n_ = S0_.2.2.1 264 0 c_.toNat) ∧ (pts (n_ + S_.1 13 0 159) S_) ∧ True) → ((10000 * (5000 - a_) + 9000).toNat) < nn_ → sm_T (mt_P sc_) 4 492 (39, [some (.inr (.inr (some (13, 0)))), some (.inl c_), some (.inl n_), some (.inl a_), none], [], S_) (fun ro9_ => ∃ u_ S1_, ro9_ = (.inl u_, S1_, 0) ∧ vq_492 c_ S0_ u_ S1_)) ∧ (∀ (n_ : Int) (a_ : Int) (b_ : Int) (S_ : sm_S), gi S_ → ai_fr (sx_W vw_492) S0_ S_ → ((0 ≤ a_ ∧ a_ < n_ ∧ a_ < b_ ∧ b_ ≤ 2001) ∧ (n_ = S0_.2.2.1 264 0 c_.toNat) ∧ (pts (n_ + S_.1 13 0 159) S_) ∧ True) → ((10000 * (5000 - a_) + 8000 - b_).toNat) < nn_ → sm_T (mt_P sc_) 4 492 (49, [some (.inr (.inr (some (13, 0)))), some (.inl c_), some (.inl n_), some (.inl a_), some (.inl b_)], [], S_) (fun ro9_ => ∃ u_ S1_, ro9_ = (.inl u_, S1_, 0) ∧ vq_492 c_ S0_ u_ S1_)) ∧ (∀ (n_ : Int) (a_ : Int) (k_ : Int) (S_ : sm_S), gi S_ → ai_fr (sx_W vw_492) S0_ S_ → ((0 ≤ a_ ∧ a_ < n_ ∧ 0 ≤ k_ ∧ k_ ≤ 700) ∧ (n_ = S0_.2.2.1 264 0 c_.toNat) ∧ (pts (n_ + S_.1 13 0 159) S_) ∧ True) → ((10000 * (5000 - a_) + 3000 - k_).toNat) < nn_ → sm_T (mt_P sc_) 4 492 (82, [some (.inr (.inr (some (13, 0)))), some (.inl c_), some (.inl n_), some (.inl a_), some (.inl k_)], [], S_) (fun ro9_ => ∃ u_ S1_, ro9_ = (.inl u_, S1_, 0) ∧ vq_492 c_ S0_ u_ S1_)) := by
  intro nn_
  induction nn_ with
  | zero => exact ⟨fun _ _ _ _ _ _ h_ => absurd h_ (Nat.not_lt_zero _), fun _ _ _ _ _ _ h_ => absurd h_ (Nat.not_lt_zero _), fun _ _ _ _ _ _ _ h_ => absurd h_ (Nat.not_lt_zero _), fun _ _ _ _ _ _ _ h_ => absurd h_ (Nat.not_lt_zero _)⟩
  | succ nn_ ih_ =>
    refine ⟨?_, ?_, ?_, ?_⟩
    · rintro n_ k_ S_ hI_ hF_ ⟨h0_, hn_, h1_, -⟩ hm_
      have P9_ : 0 ≤ S_.1 13 0 159 ∧ S_.1 13 0 159 ≤ 700 := hI_.1 13 0 159 rfl
      have n9_ : n_ = S_.2.2.1 264 0 c_.toNat := by (rw [fr_arr (t := 264) (i := 0) hF_ rfl]; exact hn_)
      have b9_ : 0 ≤ S_.2.2.1 264 0 c_.toNat ∧ S_.2.2.1 264 0 c_.toNat ≤ 2000 := hI_.2 264 0 _
      have bx1_ : 0 ≤ S_.1 13 0 159 ∧ S_.1 13 0 159 ≤ 700 := hI_.1 13 0 159 rfl
      refine sm_T_go 4 (c1 := (20, [some (.inr (.inr (some (13, 0)))), some (.inl c_), some (.inl n_), some (.inl k_), none], [.inl (S_.1 13 0 159), .inl n_, .inl k_], S_)) rfl ?_
      refine sm_T_bin (w := n_ + (S_.1 13 0 159)) rfl (bi_add (by omega) (by omega) (by omega)) ?_ -- pc_ 20
      refine sm_T_br (a := 3) (z := 16) rfl (fun cx2_ => ?_) (fun cx2_ => ?_)
      · have cx2_ : n_ + (S_.1 13 0 159) ≤ k_ := of_decide_eq_true cx2_
        refine sm_T_go 2 (c1 := (39, [some (.inr (.inr (some (13, 0)))), some (.inl c_), some (.inl n_), some (.inl 0), none], [], S_)) rfl ?_
        refine ih_.2.1 n_ 0 S_ hI_ hF_ ⟨?_, ?_, ?_, trivial⟩ ?_
        · omega
        · exact hn_
        · (intro k9_ u0_ u1_; exact h1_ k9_ u0_ (by omega))
        · omega
      · have cx2_ : ¬ (n_ + (S_.1 13 0 159) ≤ k_) := of_decide_eq_false cx2_
        refine sm_T_go 4 (c1 := (30, [some (.inr (.inr (some (13, 0)))), some (.inl c_), some (.inl n_), some (.inl k_), none], [.inl k_, .inl k_, .inr (.inr (some (266, 0)))], S_)) rfl ?_
        refine sm_T_iast (n := 2700) rfl rfl (by omega) (by omega) ?_
        have hIx3_ : gi (sm_aI S_ 266 0 k_.toNat k_) := gi_aI hI_ (show 0 ≤ k_ ∧ k_ ≤ 2699 from ⟨by omega, by omega⟩)
        have hFx4_ : ai_fr (sx_W vw_492) S0_ (sm_aI S_ 266 0 k_.toNat k_) := ai_fr_tr hF_ (ai_fr_aI rfl)
        refine sm_T_inc (a := 3) (z := 1) (v := k_) (w := k_ + 1) rfl rfl (by omega) (by omega) (by omega) ?_ -- pc_ 31
        refine sm_T_go 1 (c1 := (14, [some (.inr (.inr (some (13, 0)))), some (.inl c_), some (.inl n_), some (.inl (k_ + 1)), none], [], sm_aI S_ 266 0 k_.toNat k_)) rfl ?_
        refine ih_.1 n_ (k_ + 1) (sm_aI S_ 266 0 k_.toNat k_) hIx3_ hFx4_ ⟨?_, ?_, ?_, trivial⟩ ?_
        · ((try simp only [rd_eq, rd_ne, rf_eq, rf_nk, rf_nt, rd_fa, rd_af, rd_fl, rd_al, rd_lf, rd_la, rd_leq, rd_lne, rd_fr, rd_ar, ne_eq, Nat.reduceEqDiff, not_false_eq_true]); omega)
        · exact hn_
        · intro k9_ u0_ u1_
          rw [rd_eq]
          split
          · omega
          · exact h1_ k9_ u0_ (by omega)
        · omega
    · rintro n_ a_ S_ hI_ hF_ ⟨h0_, hn_, h1_, -⟩ hm_
      have P9_ : 0 ≤ S_.1 13 0 159 ∧ S_.1 13 0 159 ≤ 700 := hI_.1 13 0 159 rfl
      have n9_ : n_ = S_.2.2.1 264 0 c_.toNat := by (rw [fr_arr (t := 264) (i := 0) hF_ rfl]; exact hn_)
      have b9_ : 0 ≤ S_.2.2.1 264 0 c_.toNat ∧ S_.2.2.1 264 0 c_.toNat ≤ 2000 := hI_.2 264 0 _
      refine sm_T_go 2 (c1 := (41, [some (.inr (.inr (some (13, 0)))), some (.inl c_), some (.inl n_), some (.inl a_), none], [.inl n_, .inl a_], S_)) rfl ?_
      refine sm_T_br (a := 3) (z := 98) rfl (fun cx1_ => ?_) (fun cx1_ => ?_)
      · have cx1_ : n_ ≤ a_ := of_decide_eq_true cx1_
        refine sm_T_rv rfl ⟨_, _, rfl, rfl, hI_, hF_, ?_⟩
        rw [← hn_]
        exact h1_
      · have cx1_ : ¬ (n_ ≤ a_) := of_decide_eq_false cx1_
        refine sm_T_go 2 (c1 := (46, [some (.inr (.inr (some (13, 0)))), some (.inl c_), some (.inl n_), some (.inl a_), none], [.inl 1, .inl a_], S_)) rfl ?_
        refine sm_T_bin (w := a_ + 1) rfl (bi_add (by omega) (by omega) (by omega)) ?_ -- pc_ 46
        refine sm_T_go 1 (c1 := (49, [some (.inr (.inr (some (13, 0)))), some (.inl c_), some (.inl n_), some (.inl a_), some (.inl (a_ + 1))], [], S_)) rfl ?_
        refine ih_.2.2.1 n_ a_ (a_ + 1) S_ hI_ hF_ ⟨?_, ?_, ?_, trivial⟩ ?_
        · omega
        · exact hn_
        · exact h1_
        · omega
    · rintro n_ a_ b_ S_ hI_ hF_ ⟨h0_, hn_, h1_, -⟩ hm_
      have P9_ : 0 ≤ S_.1 13 0 159 ∧ S_.1 13 0 159 ≤ 700 := hI_.1 13 0 159 rfl
      have n9_ : n_ = S_.2.2.1 264 0 c_.toNat := by (rw [fr_arr (t := 264) (i := 0) hF_ rfl]; exact hn_)
      have b9_ : 0 ≤ S_.2.2.1 264 0 c_.toNat ∧ S_.2.2.1 264 0 c_.toNat ≤ 2000 := hI_.2 264 0 _
      refine sm_T_go 2 (c1 := (52, [some (.inr (.inr (some (13, 0)))), some (.inl c_), some (.inl n_), some (.inl a_), some (.inl b_)], [.inl n_, .inl b_], S_)) rfl ?_
      refine sm_T_br (a := 3) (z := 27) rfl (fun cx1_ => ?_) (fun cx1_ => ?_)
      · have cx1_ : n_ ≤ b_ := of_decide_eq_true cx1_
        refine sm_T_go 2 (c1 := (82, [some (.inr (.inr (some (13, 0)))), some (.inl c_), some (.inl n_), some (.inl a_), some (.inl 0)], [], S_)) rfl ?_
        refine ih_.2.2.2 n_ a_ 0 S_ hI_ hF_ ⟨?_, ?_, ?_, trivial⟩ ?_
        · omega
        · exact hn_
        · exact h1_
        · omega
      · have cx1_ : ¬ (n_ ≤ b_) := of_decide_eq_false cx1_
        refine sm_T_go 4 (c1 := (60, [some (.inr (.inr (some (13, 0)))), some (.inl c_), some (.inl n_), some (.inl a_), some (.inl b_)], [.inl b_, .inl a_, .inl c_, .inr (.inr (some (13, 0)))], S_)) rfl ?_
        refine sm_T_cal (d1 := 3) (Q1 := vq_490 c_ a_ b_ S_) rfl rfl (by decide) (vc_490 c_ a_ b_ S_ hI_ (by omega) (by omega) (by omega)) (fun u_ Sx2_ px5_ => ?_)
        obtain ⟨rfl, vx7_, rfl, px5_⟩ := px5_
        refine sm_T_b0 (a := 0) (z := 10) rfl (fun cx8_ => ?_) (fun cx8_ => ?_)
        · have cx8_ : vx7_ = 0 := of_decide_eq_true cx8_
          refine sm_T_inc (a := 4) (z := 1) (v := b_) (w := b_ + 1) rfl rfl (by omega) (by omega) (by omega) ?_ -- pc_ 73
          refine sm_T_go 1 (c1 := (49, [some (.inr (.inr (some (13, 0)))), some (.inl c_), some (.inl n_), some (.inl a_), some (.inl (b_ + 1))], [], S_)) rfl ?_
          refine ih_.2.2.1 n_ a_ (b_ + 1) S_ hI_ hF_ ⟨?_, ?_, ?_, trivial⟩ ?_
          · omega
          · exact hn_
          · first | exact h1_ | (rw [y70_]; exact e70_)
          · omega
        · have cx8_ : ¬ (vx7_ = 0) := of_decide_eq_false cx8_
          refine sm_T_go 3 (c1 := (70, [some (.inr (.inr (some (13, 0)))), some (.inl c_), some (.inl n_), some (.inl a_), some (.inl b_)], [.inl b_, .inl a_, .inr (.inr (some (13, 0)))], S_)) rfl ?_
          refine sm_T_cal (d1 := 1) (Q1 := vq_489 a_ b_ (n_ + S_.1 13 0 159) S_) rfl rfl (by decide) (vc_489 a_ b_ (n_ + S_.1 13 0 159) S_ hI_ (by omega) (by exact h1_)) (fun u_ Sx9_ px12_ => ?_)
          obtain ⟨rfl, hIx10_, hFx11_, px12_⟩ := px12_
          have hFx13_ : ai_fr (sx_W vw_492) S0_ Sx9_ := ai_fr_tr hF_ (fr_le hFx11_ rfl)
          have e70_ := px12_
          have y70_ := hFx11_.1 13 0 159 rfl
          refine sm_T_inc (a := 4) (z := 1) (v := b_) (w := b_ + 1) rfl rfl (by omega) (by omega) (by omega) ?_ -- pc_ 73
          refine sm_T_go 1 (c1 := (49, [some (.inr (.inr (some (13, 0)))), some (.inl c_), some (.inl n_), some (.inl a_), some (.inl (b_ + 1))], [], Sx9_)) rfl ?_
          refine ih_.2.2.1 n_ a_ (b_ + 1) Sx9_ hIx10_ hFx13_ ⟨?_, ?_, ?_, trivial⟩ ?_
          · omega
          · exact hn_
          · first | exact h1_ | (rw [y70_]; exact e70_)
          · omega
    · rintro n_ a_ k_ S_ hI_ hF_ ⟨h0_, hn_, h1_, -⟩ hm_
      have P9_ : 0 ≤ S_.1 13 0 159 ∧ S_.1 13 0 159 ≤ 700 := hI_.1 13 0 159 rfl
      have n9_ : n_ = S_.2.2.1 264 0 c_.toNat := by (rw [fr_arr (t := 264) (i := 0) hF_ rfl]; exact hn_)
      have b9_ : 0 ≤ S_.2.2.1 264 0 c_.toNat ∧ S_.2.2.1 264 0 c_.toNat ≤ 2000 := hI_.2 264 0 _
      have bx1_ : 0 ≤ S_.1 13 0 159 ∧ S_.1 13 0 159 ≤ 700 := hI_.1 13 0 159 rfl
      refine sm_T_go 3 (c1 := (88, [some (.inr (.inr (some (13, 0)))), some (.inl c_), some (.inl n_), some (.inl a_), some (.inl k_)], [.inl (S_.1 13 0 159), .inl k_], S_)) rfl ?_
      refine sm_T_br (a := 3) (z := 45) rfl (fun cx2_ => ?_) (fun cx2_ => ?_)
      · have cx2_ : (S_.1 13 0 159) ≤ k_ := of_decide_eq_true cx2_
        refine sm_T_inc (a := 3) (z := 1) (v := a_) (w := a_ + 1) rfl rfl (by omega) (by omega) (by omega) ?_ -- pc_ 133
        refine sm_T_go 1 (c1 := (39, [some (.inr (.inr (some (13, 0)))), some (.inl c_), some (.inl n_), some (.inl (a_ + 1)), some (.inl k_)], [], S_)) rfl ?_
        refine sm_T_wk [some (.inr (.inr (some (13, 0)))), some (.inl c_), some (.inl n_), some (.inl (a_ + 1)), none] (by exact ⟨rfl, rfl, rfl, rfl, trivial⟩) ?_
        refine ih_.2.1 n_ (a_ + 1) S_ hI_ hF_ ⟨?_, ?_, ?_, trivial⟩ ?_
        · omega
        · exact hn_
        · exact h1_
        · omega
      · have cx2_ : ¬ ((S_.1 13 0 159) ≤ k_) := of_decide_eq_false cx2_
        refine sm_T_go 7 (c1 := (101, [some (.inr (.inr (some (13, 0)))), some (.inl c_), some (.inl n_), some (.inl a_), some (.inl k_)], [.inl k_, .inr (.inr (some (244, 0))), .inl 4, .inl a_, .inl c_, .inr (.inr (some (13, 0)))], S_)) rfl ?_
        refine sm_T_iald (n := 700) rfl rfl (by omega) (by omega) ?_
        have bx3_ : 0 ≤ S_.2.2.1 244 0 k_.toNat ∧ S_.2.2.1 244 0 k_.toNat ≤ 200 := hI_.2 244 0 _
        refine sm_T_bin (w := 4 * (S_.2.2.1 244 0 k_.toNat)) rfl (bi_mul (by omega) (by omega) (by omega)) ?_ -- pc_ 102
        refine sm_T_go 4 (c1 := (110, [some (.inr (.inr (some (13, 0)))), some (.inl c_), some (.inl n_), some (.inl a_), some (.inl k_)], [.inl k_, .inr (.inr (some (245, 0))), .inl 4, .inl (4 * (S_.2.2.1 244 0 k_.toNat)), .inl a_, .inl c_, .inr (.inr (some (13, 0)))], S_)) rfl ?_
        refine sm_T_iald (n := 700) rfl rfl (by omega) (by omega) ?_
        have bx4_ : 0 ≤ S_.2.2.1 245 0 k_.toNat ∧ S_.2.2.1 245 0 k_.toNat ≤ 40 := hI_.2 245 0 _
        refine sm_T_bin (w := 4 * (S_.2.2.1 245 0 k_.toNat)) rfl (bi_mul (by omega) (by omega) (by omega)) ?_ -- pc_ 111
        refine sm_T_cal (d1 := 1) (Q1 := vq_491 c_ a_ (4 * (S_.2.2.1 244 0 k_.toNat)) (4 * (S_.2.2.1 245 0 k_.toNat)) S_) rfl rfl (by decide) (vc_491 c_ a_ (4 * (S_.2.2.1 244 0 k_.toNat)) (4 * (S_.2.2.1 245 0 k_.toNat)) S_ hI_ (by omega) (by omega) (by omega) (by omega)) (fun u_ Sx5_ px8_ => ?_)
        obtain ⟨rfl, vx10_, rfl, px8_⟩ := px8_
        refine sm_T_b0 (a := 0) (z := 12) rfl (fun cx11_ => ?_) (fun cx11_ => ?_)
        · have cx11_ : vx10_ = 0 := of_decide_eq_true cx11_
          refine sm_T_inc (a := 4) (z := 1) (v := k_) (w := k_ + 1) rfl rfl (by omega) (by omega) (by omega) ?_ -- pc_ 127
          refine sm_T_go 1 (c1 := (82, [some (.inr (.inr (some (13, 0)))), some (.inl c_), some (.inl n_), some (.inl a_), some (.inl (k_ + 1))], [], S_)) rfl ?_
          refine ih_.2.2.2 n_ a_ (k_ + 1) S_ hI_ hF_ ⟨?_, ?_, ?_, trivial⟩ ?_
          · omega
          · exact hn_
          · first | exact h1_ | (rw [y124_]; exact e124_)
          · omega
        · have cx11_ : ¬ (vx10_ = 0) := of_decide_eq_false cx11_
          refine sm_T_go 4 (c1 := (123, [some (.inr (.inr (some (13, 0)))), some (.inl c_), some (.inl n_), some (.inl a_), some (.inl k_)], [.inl k_, .inl n_, .inl a_, .inr (.inr (some (13, 0)))], S_)) rfl ?_
          refine sm_T_bin (w := n_ + k_) rfl (bi_add (by omega) (by omega) (by omega)) ?_ -- pc_ 123
          refine sm_T_cal (d1 := 1) (Q1 := vq_489 a_ (n_ + k_) (n_ + S_.1 13 0 159) S_) rfl rfl (by decide) (vc_489 a_ (n_ + k_) (n_ + S_.1 13 0 159) S_ hI_ (by omega) (by exact h1_)) (fun u_ Sx12_ px15_ => ?_)
          obtain ⟨rfl, hIx13_, hFx14_, px15_⟩ := px15_
          have hFx16_ : ai_fr (sx_W vw_492) S0_ Sx12_ := ai_fr_tr hF_ (fr_le hFx14_ rfl)
          have ex17_ : Sx12_.1 13 0 159 = S_.1 13 0 159 := hFx14_.1 13 0 159 rfl
          have e124_ := px15_
          have y124_ := hFx14_.1 13 0 159 rfl
          refine sm_T_inc (a := 4) (z := 1) (v := k_) (w := k_ + 1) rfl rfl (by omega) (by omega) (by omega) ?_ -- pc_ 127
          refine sm_T_go 1 (c1 := (82, [some (.inr (.inr (some (13, 0)))), some (.inl c_), some (.inl n_), some (.inl a_), some (.inl (k_ + 1))], [], Sx12_)) rfl ?_
          refine ih_.2.2.2 n_ a_ (k_ + 1) Sx12_ hIx13_ hFx16_ ⟨?_, ?_, ?_, trivial⟩ ?_
          · omega
          · exact hn_
          · first | exact h1_ | (rw [y124_]; exact e124_)
          · omega
set_option maxHeartbeats 1000000 in
set_option maxRecDepth 20000 in
theorem vc_492 {sc_ : Nat × (Nat → Int)} (c_ : Int) (S0_ : sm_S) (hI_ : gi S0_) (hc_ : 0 ≤ c_ ∧ c_ ≤ 3) (hx_ : S0_.2.2.1 223 0 c_.toNat + S0_.2.2.1 224 0 c_.toNat ≤ 12) (hg_ : cgt c_ S0_) (ho_ : con c_ S0_) : sm_T (mt_P sc_) 4 492 (0, [some (.inr (.inr (some (13, 0)))), some (.inl c_), none, none, none], [], S0_) (fun ro9_ => ∃ u_ S1_, ro9_ = (.inl u_, S1_, 0) ∧ vq_492 c_ S0_ u_ S1_) := by
  have hF_ : ai_fr (sx_W vw_492) S0_ S0_ := ai_fr_rf
  refine sm_T_go 2 (c1 := (2, [some (.inr (.inr (some (13, 0)))), some (.inl c_), none, none, none], [.inl c_, .inr (.inr (some (13, 0)))], S0_)) rfl ?_
  refine sm_T_cal (d1 := 2) (Q1 := vq_439 c_ 300 300 S0_) rfl rfl (by decide) (vc_439 c_ 300 300 S0_ hI_ (by exact hc_) (by exact hx_) (by exact hg_) (by exact ho_) (by exact ple_any hI_)) (fun u_ Sx1_ px4_ => ?_)
  obtain ⟨rfl, hIx2_, hFx3_, px4_⟩ := px4_
  have hFx5_ : ai_fr (sx_W vw_492) S0_ Sx1_ := ai_fr_tr hF_ (fr_le hFx3_ rfl)
  have P1_ : 0 ≤ Sx1_.1 13 0 159 ∧ Sx1_.1 13 0 159 ≤ 700 := hIx2_.1 13 0 159 rfl
  have x264_ : Sx1_.2.2.1 264 0 c_.toNat = S0_.2.2.1 264 0 c_.toNat := congrFun (fr_arr hFx3_ rfl) _
  refine sm_T_go 3 (c1 := (10, [some (.inr (.inr (some (13, 0)))), some (.inl c_), none, none, none], [.inl c_, .inr (.inr (some (264, 0)))], Sx1_)) rfl ?_
  refine sm_T_iald (n := 4) rfl rfl (by omega) (by omega) ?_
  have bx6_ : 0 ≤ Sx1_.2.2.1 264 0 c_.toNat ∧ Sx1_.2.2.1 264 0 c_.toNat ≤ 2000 := hIx2_.2 264 0 _
  refine sm_T_go 3 (c1 := (14, [some (.inr (.inr (some (13, 0)))), some (.inl c_), some (.inl (Sx1_.2.2.1 264 0 c_.toNat)), some (.inl 0), none], [], Sx1_)) rfl ?_
  refine (vl_492 c_ S0_ hc_ hx_ hg_ ho_ _).1 (Sx1_.2.2.1 264 0 c_.toNat) 0 Sx1_ hIx2_ hFx5_ ⟨?_, ?_, ?_, trivial⟩ (Nat.lt_succ_self _)
  · (have b9_ : 0 ≤ S0_.2.2.1 264 0 c_.toNat := (hI_.2 264 0 _).1; omega)
  · exact x264_
  · (intro k9_ u0_ u1_; exfalso; omega)
/-! M_.pinTroubles -/
def vw_493 : sx_Wl := ([], [266, 267, 268], [])
def vq_493 (c_ : Int) (wh_ : Int) (S0_ : sm_S) (u_ : Option sm_V) (S1_ : sm_S) : Prop := ∃ v_ : Int, u_ = some (.inl v_) ∧ gi S1_ ∧ ai_fr (sx_W vw_493) S0_ S1_ ∧ (-2147483648 ≤ v_ ∧ v_ ≤ 2147483647)
set_option maxHeartbeats 1500000 in
set_option maxRecDepth 20000 in
theorem vl_493 {sc_ : Nat × (Nat → Int)} (c_ : Int) (wh_ : Int) (S0_ : sm_S) (hc_ : 0 ≤ c_ ∧ c_ ≤ 3) (hp_ : pts (S0_.2.2.1 264 0 c_.toNat + S0_.1 13 0 159) S0_) : ∀ nn_ : Nat, (∀ (n_ : Int) (k_ : Int) (S_ : sm_S), gi S_ → ai_fr (sx_W vw_493) S0_ S_ → ((n_ = S0_.2.2.1 264 0 c_.toNat ∧ 0 ≤ k_ ∧ k_ ≤ 65536) ∧ (pts (S0_.2.2.1 264 0 c_.toNat + S0_.1 13 0 159) S_) ∧ True) → ((900000000 - k_).toNat) < nn_ → sm_T (mt_P sc_) 1 493 (10, [some (.inr (.inr (some (13, 0)))), some (.inl c_), some (.inl wh_), some (.inl n_), some (.inl k_), none, none, none, none, none, none], [], S_) (fun ro9_ => ∃ u_ S1_, ro9_ = (.inl u_, S1_, 0) ∧ vq_493 c_ wh_ S0_ u_ S1_)) ∧ (∀ (n_ : Int) (k_ : Int) (S_ : sm_S), gi S_ → ai_fr (sx_W vw_493) S0_ S_ → ((n_ = S0_.2.2.1 264 0 c_.toNat ∧ 0 ≤ k_ ∧ k_ ≤ 256) ∧ (pts (S0_.2.2.1 264 0 c_.toNat + S0_.1 13 0 159) S_) ∧ True) → ((800000000 - k_).toNat) < nn_ → sm_T (mt_P sc_) 1 493 (34, [some (.inr (.inr (some (13, 0)))), some (.inl c_), some (.inl wh_), some (.inl n_), some (.inl k_), none, none, none, none, none, none], [], S_) (fun ro9_ => ∃ u_ S1_, ro9_ = (.inl u_, S1_, 0) ∧ vq_493 c_ wh_ S0_ u_ S1_)) ∧ (∀ (n_ : Int) (sh_ : Int) (op_ : Int) (i_ : Int) (S_ : sm_S), gi S_ → ai_fr (sx_W vw_493) S0_ S_ → ((n_ = S0_.2.2.1 264 0 c_.toNat ∧ 0 ≤ i_ ∧ i_ ≤ 700 ∧ 0 ≤ sh_ ∧ sh_ ≤ 800 * i_ ∧ 0 ≤ op_ ∧ op_ ≤ 800 * i_) ∧ (pts (S0_.2.2.1 264 0 c_.toNat + S0_.1 13 0 159) S_) ∧ True) → ((1000 * (5000 - i_) + 900).toNat) < nn_ → sm_T (mt_P sc_) 1 493 (65, [some (.inr (.inr (some (13, 0)))), some (.inl c_), some (.inl wh_), some (.inl n_), some (.inl sh_), some (.inl op_), some (.inl i_), none, none, none, none], [], S_) (fun ro9_ => ∃ u_ S1_, ro9_ = (.inl u_, S1_, 0) ∧ vq_493 c_ wh_ S0_ u_ S1_)) ∧ (∀ (n_ : Int) (sh_ : Int) (op_ : Int) (i_ : Int) (j_ : Int) (S_ : sm_S), gi S_ → ai_fr (sx_W vw_493) S0_ S_ → ((n_ = S0_.2.2.1 264 0 c_.toNat ∧ 0 ≤ i_ ∧ i_ < S0_.1 13 0 159 ∧ i_ < j_ ∧ j_ ≤ 701 ∧ 0 ≤ sh_ ∧ sh_ ≤ 800 * i_ + j_ ∧ 0 ≤ op_ ∧ op_ ≤ 800 * i_ + j_) ∧ (pts (S0_.2.2.1 264 0 c_.toNat + S0_.1 13 0 159) S_) ∧ True) → ((1000 * (5000 - i_) + 800 - j_).toNat) < nn_ → sm_T (mt_P sc_) 1 493 (80, [some (.inr (.inr (some (13, 0)))), some (.inl c_), some (.inl wh_), some (.inl n_), some (.inl sh_), some (.inl op_), some (.inl i_), some (.inl j_), none, none, none], [], S_) (fun ro9_ => ∃ u_ S1_, ro9_ = (.inl u_, S1_, 0) ∧ vq_493 c_ wh_ S0_ u_ S1_)) := by
  intro nn_
  induction nn_ with
  | zero => exact ⟨fun _ _ _ _ _ _ h_ => absurd h_ (Nat.not_lt_zero _), fun _ _ _ _ _ _ h_ => absurd h_ (Nat.not_lt_zero _), fun _ _ _ _ _ _ _ _ h_ => absurd h_ (Nat.not_lt_zero _), fun _ _ _ _ _ _ _ _ _ h_ => absurd h_ (Nat.not_lt_zero _)⟩
  | succ nn_ ih_ =>
    refine ⟨?_, ?_, ?_, ?_⟩
    · rintro n_ k_ S_ hI_ hF_ ⟨h0_, h1_, -⟩ hm_
      have P9_ : 0 ≤ S_.1 13 0 159 ∧ S_.1 13 0 159 ≤ 700 := hI_.1 13 0 159 rfl
      have g159_ : S_.1 13 0 159 = S0_.1 13 0 159 := hF_.1 13 0 159 rfl
      have b9_ : 0 ≤ S_.2.2.1 264 0 c_.toNat ∧ S_.2.2.1 264 0 c_.toNat ≤ 2000 := hI_.2 264 0 _
      have x264_ : S_.2.2.1 264 0 c_.toNat = S0_.2.2.1 264 0 c_.toNat := congrFun (fr_arr hF_ rfl) _
      refine sm_T_go 1 (c1 := (12, [some (.inr (.inr (some (13, 0)))), some (.inl c_), some (.inl wh_), some (.inl n_), some (.inl k_), none, none, none, none, none, none], [.inl k_], S_)) rfl ?_
      refine sm_T_nt (u := some (.inl 65536)) (S1 := S_) rfl rfl rfl ?_
      refine sm_T_br (a := 3) (z := 17) rfl (fun cx1_ => ?_) (fun cx1_ => ?_)
      · have cx1_ : 65536 ≤ k_ := of_decide_eq_true cx1_
        refine sm_T_go 2 (c1 := (34, [some (.inr (.inr (some (13, 0)))), some (.inl c_), some (.inl wh_), some (.inl n_), some (.inl 0), none, none, none, none, none, none], [], S_)) rfl ?_
        refine ih_.2.1 n_ 0 S_ hI_ hF_ ⟨?_, ?_, trivial⟩ ?_
        · omega
        · first | exact h1_ | exact e102_.2.2 | exact pts_fr (w_ := ([], [267], [])) h1_ (ai_fr_aI rfl) | exact pts_fr (w_ := ([], [268], [])) h1_ (ai_fr_aI rfl) | exact pts_fr (w_ := ([], [267], [])) e102_.2.2 (ai_fr_aI rfl) | exact pts_fr (w_ := ([], [268], [])) e102_.2.2 (ai_fr_aI rfl) | exact pts_fr (w_ := ([], [267, 268], [])) e102_.2.2 (ai_fr_tr (ai_fr_aI rfl) (ai_fr_aI rfl))
        · omega
      · have cx1_ : ¬ (65536 ≤ k_) := of_decide_eq_false cx1_
        refine sm_T_go 4 (c1 := (24, [some (.inr (.inr (some (13, 0)))), some (.inl c_), some (.inl wh_), some (.inl n_), some (.inl k_), none, none, none, none, none, none], [.inl 0, .inl k_, .inr (.inr (some (267, 0)))], S_)) rfl ?_
        refine sm_T_zas1 (n := 65536) rfl rfl (by omega) (by omega) (by omega) ?_
        have hIx2_ : gi (sm_aI S_ 267 0 k_.toNat 0) := gi_aI hI_ (show 0 ≤ 0 ∧ 0 ≤ 1 from ⟨by omega, by omega⟩)
        have hFx3_ : ai_fr (sx_W vw_493) S0_ (sm_aI S_ 267 0 k_.toNat 0) := ai_fr_tr hF_ (ai_fr_aI rfl)
        refine sm_T_inc (a := 4) (z := 1) (v := k_) (w := k_ + 1) rfl rfl (by omega) (by omega) (by omega) ?_ -- pc_ 25
        refine sm_T_go 1 (c1 := (10, [some (.inr (.inr (some (13, 0)))), some (.inl c_), some (.inl wh_), some (.inl n_), some (.inl (k_ + 1)), none, none, none, none, none, none], [], sm_aI S_ 267 0 k_.toNat 0)) rfl ?_
        refine ih_.1 n_ (k_ + 1) (sm_aI S_ 267 0 k_.toNat 0) hIx2_ hFx3_ ⟨?_, ?_, trivial⟩ ?_
        · omega
        · first | exact h1_ | exact e102_.2.2 | exact pts_fr (w_ := ([], [267], [])) h1_ (ai_fr_aI rfl) | exact pts_fr (w_ := ([], [268], [])) h1_ (ai_fr_aI rfl) | exact pts_fr (w_ := ([], [267], [])) e102_.2.2 (ai_fr_aI rfl) | exact pts_fr (w_ := ([], [268], [])) e102_.2.2 (ai_fr_aI rfl) | exact pts_fr (w_ := ([], [267, 268], [])) e102_.2.2 (ai_fr_tr (ai_fr_aI rfl) (ai_fr_aI rfl))
        · omega
    · rintro n_ k_ S_ hI_ hF_ ⟨h0_, h1_, -⟩ hm_
      have P9_ : 0 ≤ S_.1 13 0 159 ∧ S_.1 13 0 159 ≤ 700 := hI_.1 13 0 159 rfl
      have g159_ : S_.1 13 0 159 = S0_.1 13 0 159 := hF_.1 13 0 159 rfl
      have b9_ : 0 ≤ S_.2.2.1 264 0 c_.toNat ∧ S_.2.2.1 264 0 c_.toNat ≤ 2000 := hI_.2 264 0 _
      have x264_ : S_.2.2.1 264 0 c_.toNat = S0_.2.2.1 264 0 c_.toNat := congrFun (fr_arr hF_ rfl) _
      refine sm_T_go 2 (c1 := (39, [some (.inr (.inr (some (13, 0)))), some (.inl c_), some (.inl wh_), some (.inl n_), some (.inl k_), none, none, none, none, none, none], [.inl 256, .inl k_], S_)) rfl ?_
      refine sm_T_br (a := 3) (z := 17) rfl (fun cx1_ => ?_) (fun cx1_ => ?_)
      · have cx1_ : 256 ≤ k_ := of_decide_eq_true cx1_
        refine sm_T_go 6 (c1 := (65, [some (.inr (.inr (some (13, 0)))), some (.inl c_), some (.inl wh_), some (.inl n_), some (.inl 0), some (.inl 0), some (.inl 0), none, none, none, none], [], S_)) rfl ?_
        refine ih_.2.2.1 n_ 0 0 0 S_ hI_ hF_ ⟨?_, ?_, trivial⟩ ?_
        · omega
        · first | exact h1_ | exact e102_.2.2 | exact pts_fr (w_ := ([], [267], [])) h1_ (ai_fr_aI rfl) | exact pts_fr (w_ := ([], [268], [])) h1_ (ai_fr_aI rfl) | exact pts_fr (w_ := ([], [267], [])) e102_.2.2 (ai_fr_aI rfl) | exact pts_fr (w_ := ([], [268], [])) e102_.2.2 (ai_fr_aI rfl) | exact pts_fr (w_ := ([], [267, 268], [])) e102_.2.2 (ai_fr_tr (ai_fr_aI rfl) (ai_fr_aI rfl))
        · omega
      · have cx1_ : ¬ (256 ≤ k_) := of_decide_eq_false cx1_
        refine sm_T_go 4 (c1 := (49, [some (.inr (.inr (some (13, 0)))), some (.inl c_), some (.inl wh_), some (.inl n_), some (.inl k_), none, none, none, none, none, none], [.inl 0, .inl k_, .inr (.inr (some (268, 0)))], S_)) rfl ?_
        refine sm_T_zas1 (n := 256) rfl rfl (by omega) (by omega) (by omega) ?_
        have hIx2_ : gi (sm_aI S_ 268 0 k_.toNat 0) := gi_aI hI_ (show 0 ≤ 0 ∧ 0 ≤ 1 from ⟨by omega, by omega⟩)
        have hFx3_ : ai_fr (sx_W vw_493) S0_ (sm_aI S_ 268 0 k_.toNat 0) := ai_fr_tr hF_ (ai_fr_aI rfl)
        refine sm_T_inc (a := 4) (z := 1) (v := k_) (w := k_ + 1) rfl rfl (by omega) (by omega) (by omega) ?_ -- pc_ 50
        refine sm_T_go 1 (c1 := (34, [some (.inr (.inr (some (13, 0)))), some (.inl c_), some (.inl wh_), some (.inl n_), some (.inl (k_ + 1)), none, none, none, none, none, none], [], sm_aI S_ 268 0 k_.toNat 0)) rfl ?_
        refine ih_.2.1 n_ (k_ + 1) (sm_aI S_ 268 0 k_.toNat 0) hIx2_ hFx3_ ⟨?_, ?_, trivial⟩ ?_
        · omega
        · first | exact h1_ | exact e102_.2.2 | exact pts_fr (w_ := ([], [267], [])) h1_ (ai_fr_aI rfl) | exact pts_fr (w_ := ([], [268], [])) h1_ (ai_fr_aI rfl) | exact pts_fr (w_ := ([], [267], [])) e102_.2.2 (ai_fr_aI rfl) | exact pts_fr (w_ := ([], [268], [])) e102_.2.2 (ai_fr_aI rfl) | exact pts_fr (w_ := ([], [267, 268], [])) e102_.2.2 (ai_fr_tr (ai_fr_aI rfl) (ai_fr_aI rfl))
        · omega
    · rintro n_ sh_ op_ i_ S_ hI_ hF_ ⟨h0_, h1_, -⟩ hm_
      have P9_ : 0 ≤ S_.1 13 0 159 ∧ S_.1 13 0 159 ≤ 700 := hI_.1 13 0 159 rfl
      have g159_ : S_.1 13 0 159 = S0_.1 13 0 159 := hF_.1 13 0 159 rfl
      have b9_ : 0 ≤ S_.2.2.1 264 0 c_.toNat ∧ S_.2.2.1 264 0 c_.toNat ≤ 2000 := hI_.2 264 0 _
      have x264_ : S_.2.2.1 264 0 c_.toNat = S0_.2.2.1 264 0 c_.toNat := congrFun (fr_arr hF_ rfl) _
      have bx1_ : 0 ≤ S_.1 13 0 159 ∧ S_.1 13 0 159 ≤ 700 := hI_.1 13 0 159 rfl
      refine sm_T_go 3 (c1 := (71, [some (.inr (.inr (some (13, 0)))), some (.inl c_), some (.inl wh_), some (.inl n_), some (.inl sh_), some (.inl op_), some (.inl i_), none, none, none, none], [.inl (S_.1 13 0 159), .inl i_], S_)) rfl ?_
      refine sm_T_br (a := 3) (z := 208) rfl (fun cx2_ => ?_) (fun cx2_ => ?_)
      · have cx2_ : (S_.1 13 0 159) ≤ i_ := of_decide_eq_true cx2_
        refine sm_T_go 2 (c1 := (281, [some (.inr (.inr (some (13, 0)))), some (.inl c_), some (.inl wh_), some (.inl n_), some (.inl sh_), some (.inl op_), some (.inl i_), none, none, none, none], [.inl 1, .inl wh_], S_)) rfl ?_
        refine sm_T_br (a := 1) (z := 8) rfl (fun cx3_ => ?_) (fun cx3_ => ?_)
        · have cx3_ : wh_ ≠ 1 := of_decide_eq_true cx3_
          refine sm_T_go 2 (c1 := (291, [some (.inr (.inr (some (13, 0)))), some (.inl c_), some (.inl wh_), some (.inl n_), some (.inl sh_), some (.inl op_), some (.inl i_), none, none, none, none], [.inl 2, .inl wh_], S_)) rfl ?_
          refine sm_T_br (a := 1) (z := 8) rfl (fun cx4_ => ?_) (fun cx4_ => ?_)
          · have cx4_ : wh_ ≠ 2 := of_decide_eq_true cx4_
            refine sm_T_go 2 (c1 := (303, [some (.inr (.inr (some (13, 0)))), some (.inl c_), some (.inl wh_), some (.inl n_), some (.inl sh_), some (.inl op_), some (.inl i_), none, none, none, none], [.inl op_, .inl sh_], S_)) rfl ?_
            refine sm_T_bin (w := sh_ + op_) rfl (bi_add (by omega) (by omega) (by omega)) ?_ -- pc_ 303
            refine sm_T_ri rfl ⟨_, _, rfl, _, rfl, hI_, hF_, ?_⟩
            omega
          · have cx4_ : ¬ (wh_ ≠ 2) := of_decide_eq_false cx4_
            refine sm_T_go 2 (c1 := (304, [some (.inr (.inr (some (13, 0)))), some (.inl c_), some (.inl wh_), some (.inl n_), some (.inl sh_), some (.inl op_), some (.inl i_), none, none, none, none], [.inl op_], S_)) rfl ?_
            refine sm_T_ri rfl ⟨_, _, rfl, _, rfl, hI_, hF_, ?_⟩
            omega
        · have cx3_ : ¬ (wh_ ≠ 1) := of_decide_eq_false cx3_
          refine sm_T_go 2 (c1 := (304, [some (.inr (.inr (some (13, 0)))), some (.inl c_), some (.inl wh_), some (.inl n_), some (.inl sh_), some (.inl op_), some (.inl i_), none, none, none, none], [.inl sh_], S_)) rfl ?_
          refine sm_T_ri rfl ⟨_, _, rfl, _, rfl, hI_, hF_, ?_⟩
          omega
      · have cx2_ : ¬ ((S_.1 13 0 159) ≤ i_) := of_decide_eq_false cx2_
        refine sm_T_go 2 (c1 := (77, [some (.inr (.inr (some (13, 0)))), some (.inl c_), some (.inl wh_), some (.inl n_), some (.inl sh_), some (.inl op_), some (.inl i_), none, none, none, none], [.inl 1, .inl i_], S_)) rfl ?_
        refine sm_T_bin (w := i_ + 1) rfl (bi_add (by omega) (by omega) (by omega)) ?_ -- pc_ 77
        refine sm_T_go 1 (c1 := (80, [some (.inr (.inr (some (13, 0)))), some (.inl c_), some (.inl wh_), some (.inl n_), some (.inl sh_), some (.inl op_), some (.inl i_), some (.inl (i_ + 1)), none, none, none], [], S_)) rfl ?_
        refine ih_.2.2.2 n_ sh_ op_ i_ (i_ + 1) S_ hI_ hF_ ⟨?_, ?_, trivial⟩ ?_
        · omega
        · first | exact h1_ | exact e102_.2.2 | exact pts_fr (w_ := ([], [267], [])) h1_ (ai_fr_aI rfl) | exact pts_fr (w_ := ([], [268], [])) h1_ (ai_fr_aI rfl) | exact pts_fr (w_ := ([], [267], [])) e102_.2.2 (ai_fr_aI rfl) | exact pts_fr (w_ := ([], [268], [])) e102_.2.2 (ai_fr_aI rfl) | exact pts_fr (w_ := ([], [267, 268], [])) e102_.2.2 (ai_fr_tr (ai_fr_aI rfl) (ai_fr_aI rfl))
        · omega
    · rintro n_ sh_ op_ i_ j_ S_ hI_ hF_ ⟨h0_, h1_, -⟩ hm_
      have P9_ : 0 ≤ S_.1 13 0 159 ∧ S_.1 13 0 159 ≤ 700 := hI_.1 13 0 159 rfl
      have g159_ : S_.1 13 0 159 = S0_.1 13 0 159 := hF_.1 13 0 159 rfl
      have b9_ : 0 ≤ S_.2.2.1 264 0 c_.toNat ∧ S_.2.2.1 264 0 c_.toNat ≤ 2000 := hI_.2 264 0 _
      have x264_ : S_.2.2.1 264 0 c_.toNat = S0_.2.2.1 264 0 c_.toNat := congrFun (fr_arr hF_ rfl) _
      have bx1_ : 0 ≤ S_.1 13 0 159 ∧ S_.1 13 0 159 ≤ 700 := hI_.1 13 0 159 rfl
      refine sm_T_go 3 (c1 := (86, [some (.inr (.inr (some (13, 0)))), some (.inl c_), some (.inl wh_), some (.inl n_), some (.inl sh_), some (.inl op_), some (.inl i_), some (.inl j_), none, none, none], [.inl (S_.1 13 0 159), .inl j_], S_)) rfl ?_
      refine sm_T_br (a := 3) (z := 187) rfl (fun cx2_ => ?_) (fun cx2_ => ?_)
      · have cx2_ : (S_.1 13 0 159) ≤ j_ := of_decide_eq_true cx2_
        refine sm_T_inc (a := 6) (z := 1) (v := i_) (w := i_ + 1) rfl rfl (by omega) (by omega) (by omega) ?_ -- pc_ 273
        refine sm_T_go 1 (c1 := (65, [some (.inr (.inr (some (13, 0)))), some (.inl c_), some (.inl wh_), some (.inl n_), some (.inl sh_), some (.inl op_), some (.inl (i_ + 1)), some (.inl j_), none, none, none], [], S_)) rfl ?_
        refine sm_T_wk [some (.inr (.inr (some (13, 0)))), some (.inl c_), some (.inl wh_), some (.inl n_), some (.inl sh_), some (.inl op_), some (.inl (i_ + 1)), none, none, none, none] (by exact ⟨rfl, rfl, rfl, rfl, rfl, rfl, rfl, trivial⟩) ?_
        refine ih_.2.2.1 n_ sh_ op_ (i_ + 1) S_ hI_ hF_ ⟨?_, ?_, trivial⟩ ?_
        · omega
        · first | exact h1_ | exact e102_.2.2 | exact pts_fr (w_ := ([], [267], [])) h1_ (ai_fr_aI rfl) | exact pts_fr (w_ := ([], [268], [])) h1_ (ai_fr_aI rfl) | exact pts_fr (w_ := ([], [267], [])) e102_.2.2 (ai_fr_aI rfl) | exact pts_fr (w_ := ([], [268], [])) e102_.2.2 (ai_fr_aI rfl) | exact pts_fr (w_ := ([], [267, 268], [])) e102_.2.2 (ai_fr_tr (ai_fr_aI rfl) (ai_fr_aI rfl))
        · omega
      · have cx2_ : ¬ ((S_.1 13 0 159) ≤ j_) := of_decide_eq_false cx2_
        refine sm_T_go 3 (c1 := (93, [some (.inr (.inr (some (13, 0)))), some (.inl c_), some (.inl wh_), some (.inl n_), some (.inl sh_), some (.inl op_), some (.inl i_), some (.inl j_), none, none, none], [.inl i_, .inl n_, .inr (.inr (some (13, 0)))], S_)) rfl ?_
        refine sm_T_bin (w := n_ + i_) rfl (bi_add (by omega) (by omega) (by omega)) ?_ -- pc_ 93
        refine sm_T_cal (d1 := 0) (Q1 := vq_488 (n_ + i_) (S0_.2.2.1 264 0 c_.toNat + S0_.1 13 0 159) S_) rfl rfl (by decide) (vc_488 (n_ + i_) (S0_.2.2.1 264 0 c_.toNat + S0_.1 13 0 159) S_ hI_ (by omega) (by exact h1_)) (fun u_ Sx3_ px6_ => ?_)
        obtain ⟨vx8_, rfl, hIx4_, hFx5_, px6_⟩ := px6_
        have hFx7_ : ai_fr (sx_W vw_493) S0_ Sx3_ := ai_fr_tr hF_ (fr_le hFx5_ rfl)
        have ex9_ : Sx3_.1 13 0 159 = S_.1 13 0 159 := hFx5_.1 13 0 159 rfl
        have e94_ := px6_
        refine sm_T_go 3 (c1 := (101, [some (.inr (.inr (some (13, 0)))), some (.inl c_), some (.inl wh_), some (.inl n_), some (.inl sh_), some (.inl op_), some (.inl i_), some (.inl j_), none, none, none], [.inl j_, .inl n_, .inr (.inr (some (13, 0))), .inl vx8_], Sx3_)) rfl ?_
        refine sm_T_bin (w := n_ + j_) rfl (bi_add (by omega) (by omega) (by omega)) ?_ -- pc_ 101
        refine sm_T_cal (d1 := 0) (Q1 := vq_488 (n_ + j_) (S0_.2.2.1 264 0 c_.toNat + S0_.1 13 0 159) Sx3_) rfl rfl (by decide) (vc_488 (n_ + j_) (S0_.2.2.1 264 0 c_.toNat + S0_.1 13 0 159) Sx3_ hIx4_ (by omega) (by exact e94_.2.2)) (fun u_ Sx10_ px13_ => ?_)
        obtain ⟨vx15_, rfl, hIx11_, hFx12_, px13_⟩ := px13_
        have hFx14_ : ai_fr (sx_W vw_493) S0_ Sx10_ := ai_fr_tr hFx7_ (fr_le hFx12_ rfl)
        have e102_ := px13_
        refine sm_T_br (a := 1) (z := 7) rfl (fun cx16_ => ?_) (fun cx16_ => ?_)
        · have cx16_ : vx8_ ≠ vx15_ := of_decide_eq_true cx16_
          refine sm_T_go 5 (c1 := (121, [some (.inr (.inr (some (13, 0)))), some (.inl c_), some (.inl wh_), some (.inl n_), some (.inl sh_), some (.inl op_), some (.inl i_), some (.inl j_), some (.inl 0), none, none], [.inl i_, .inr (.inr (some (243, 0)))], Sx10_)) rfl ?_
          refine sm_T_iald (n := 700) rfl rfl (by omega) (by omega) ?_
          have bx17_ : 0 ≤ Sx10_.2.2.1 243 0 i_.toNat ∧ Sx10_.2.2.1 243 0 i_.toNat ≤ 161 := hIx11_.2 243 0 _
          refine sm_T_go 3 (c1 := (128, [some (.inr (.inr (some (13, 0)))), some (.inl c_), some (.inl wh_), some (.inl n_), some (.inl sh_), some (.inl op_), some (.inl i_), some (.inl j_), some (.inl 0), none, none], [.inl j_, .inr (.inr (some (243, 0))), .inl (Sx10_.2.2.1 243 0 i_.toNat)], Sx10_)) rfl ?_
          refine sm_T_iald (n := 700) rfl rfl (by omega) (by omega) ?_
          have bx18_ : 0 ≤ Sx10_.2.2.1 243 0 j_.toNat ∧ Sx10_.2.2.1 243 0 j_.toNat ≤ 161 := hIx11_.2 243 0 _
          refine sm_T_br (a := 3) (z := 13) rfl (fun cx19_ => ?_) (fun cx19_ => ?_)
          · have cx19_ : (Sx10_.2.2.1 243 0 j_.toNat) ≤ (Sx10_.2.2.1 243 0 i_.toNat) := of_decide_eq_true cx19_
            refine sm_T_go 3 (c1 := (148, [some (.inr (.inr (some (13, 0)))), some (.inl c_), some (.inl wh_), some (.inl n_), some (.inl sh_), some (.inl op_), some (.inl i_), some (.inl j_), some (.inl 0), none, none], [.inl j_, .inr (.inr (some (243, 0)))], Sx10_)) rfl ?_
            refine sm_T_iald (n := 700) rfl rfl (by omega) (by omega) ?_
            refine sm_T_go 4 (c1 := (157, [some (.inr (.inr (some (13, 0)))), some (.inl c_), some (.inl wh_), some (.inl n_), some (.inl sh_), some (.inl op_), some (.inl i_), some (.inl j_), some (.inl 0), some (.inl (Sx10_.2.2.1 243 0 j_.toNat)), none], [.inl i_, .inr (.inr (some (243, 0)))], Sx10_)) rfl ?_
            refine sm_T_iald (n := 700) rfl rfl (by omega) (by omega) ?_
            refine sm_T_go 3 (c1 := (164, [some (.inr (.inr (some (13, 0)))), some (.inl c_), some (.inl wh_), some (.inl n_), some (.inl sh_), some (.inl op_), some (.inl i_), some (.inl j_), some (.inl 0), some (.inl (Sx10_.2.2.1 243 0 j_.toNat)), none], [.inl j_, .inr (.inr (some (243, 0))), .inl (Sx10_.2.2.1 243 0 i_.toNat)], Sx10_)) rfl ?_
            refine sm_T_iald (n := 700) rfl rfl (by omega) (by omega) ?_
            refine sm_T_br (a := 3) (z := 13) rfl (fun cx20_ => ?_) (fun cx20_ => ?_)
            · have cx20_ : (Sx10_.2.2.1 243 0 j_.toNat) ≤ (Sx10_.2.2.1 243 0 i_.toNat) := of_decide_eq_true cx20_
              refine sm_T_go 3 (c1 := (184, [some (.inr (.inr (some (13, 0)))), some (.inl c_), some (.inl wh_), some (.inl n_), some (.inl sh_), some (.inl op_), some (.inl i_), some (.inl j_), some (.inl 0), some (.inl (Sx10_.2.2.1 243 0 j_.toNat)), none], [.inl i_, .inr (.inr (some (243, 0)))], Sx10_)) rfl ?_
              refine sm_T_iald (n := 700) rfl rfl (by omega) (by omega) ?_
              refine sm_T_go 7 (c1 := (243, [some (.inr (.inr (some (13, 0)))), some (.inl c_), some (.inl wh_), some (.inl n_), some (.inl sh_), some (.inl op_), some (.inl i_), some (.inl j_), some (.inl 0), some (.inl (Sx10_.2.2.1 243 0 j_.toNat)), some (.inl (Sx10_.2.2.1 243 0 i_.toNat))], [.inl (Sx10_.2.2.1 243 0 i_.toNat), .inl (Sx10_.2.2.1 243 0 j_.toNat)], Sx10_)) rfl ?_
              refine sm_T_br (a := 1) (z := 24) rfl (fun cx21_ => ?_) (fun cx21_ => ?_)
              · have cx21_ : (Sx10_.2.2.1 243 0 j_.toNat) ≠ (Sx10_.2.2.1 243 0 i_.toNat) := of_decide_eq_true cx21_
                refine sm_T_inc (a := 7) (z := 1) (v := j_) (w := j_ + 1) rfl rfl (by omega) (by omega) (by omega) ?_ -- pc_ 267
                refine sm_T_go 1 (c1 := (80, [some (.inr (.inr (some (13, 0)))), some (.inl c_), some (.inl wh_), some (.inl n_), some (.inl sh_), some (.inl op_), some (.inl i_), some (.inl (j_ + 1)), some (.inl 0), some (.inl (Sx10_.2.2.1 243 0 j_.toNat)), some (.inl (Sx10_.2.2.1 243 0 i_.toNat))], [], Sx10_)) rfl ?_
                refine sm_T_wk [some (.inr (.inr (some (13, 0)))), some (.inl c_), some (.inl wh_), some (.inl n_), some (.inl sh_), some (.inl op_), some (.inl i_), some (.inl (j_ + 1)), none, none, none] (by exact ⟨rfl, rfl, rfl, rfl, rfl, rfl, rfl, rfl, trivial⟩) ?_
                refine ih_.2.2.2 n_ sh_ op_ i_ (j_ + 1) Sx10_ hIx11_ hFx14_ ⟨?_, ?_, trivial⟩ ?_
                · omega
                · first | exact h1_ | exact e102_.2.2 | exact pts_fr (w_ := ([], [267], [])) h1_ (ai_fr_aI rfl) | exact pts_fr (w_ := ([], [268], [])) h1_ (ai_fr_aI rfl) | exact pts_fr (w_ := ([], [267], [])) e102_.2.2 (ai_fr_aI rfl) | exact pts_fr (w_ := ([], [268], [])) e102_.2.2 (ai_fr_aI rfl) | exact pts_fr (w_ := ([], [267, 268], [])) e102_.2.2 (ai_fr_tr (ai_fr_aI rfl) (ai_fr_aI rfl))
                · omega
              · have cx21_ : ¬ ((Sx10_.2.2.1 243 0 j_.toNat) ≠ (Sx10_.2.2.1 243 0 i_.toNat)) := of_decide_eq_false cx21_
                refine sm_T_go 3 (c1 := (252, [some (.inr (.inr (some (13, 0)))), some (.inl c_), some (.inl wh_), some (.inl n_), some (.inl sh_), some (.inl op_), some (.inl i_), some (.inl j_), some (.inl 0), some (.inl (Sx10_.2.2.1 243 0 j_.toNat)), some (.inl (Sx10_.2.2.1 243 0 i_.toNat))], [.inl (Sx10_.2.2.1 243 0 j_.toNat), .inr (.inr (some (268, 0)))], Sx10_)) rfl ?_
                refine sm_T_zald (n := 256) rfl rfl (by omega) (by omega) ?_
                have bx22_ : 0 ≤ Sx10_.2.2.1 268 0 (Sx10_.2.2.1 243 0 j_.toNat).toNat ∧ Sx10_.2.2.1 268 0 (Sx10_.2.2.1 243 0 j_.toNat).toNat ≤ 1 := hIx11_.2 268 0 _
                refine sm_T_b0 (a := 1) (z := 14) rfl (fun cx23_ => ?_) (fun cx23_ => ?_)
                · have cx23_ : (Sx10_.2.2.1 268 0 (Sx10_.2.2.1 243 0 j_.toNat).toNat) ≠ 0 := of_decide_eq_true cx23_
                  refine sm_T_inc (a := 7) (z := 1) (v := j_) (w := j_ + 1) rfl rfl (by omega) (by omega) (by omega) ?_ -- pc_ 267
                  refine sm_T_go 1 (c1 := (80, [some (.inr (.inr (some (13, 0)))), some (.inl c_), some (.inl wh_), some (.inl n_), some (.inl sh_), some (.inl op_), some (.inl i_), some (.inl (j_ + 1)), some (.inl 0), some (.inl (Sx10_.2.2.1 243 0 j_.toNat)), some (.inl (Sx10_.2.2.1 243 0 i_.toNat))], [], Sx10_)) rfl ?_
                  refine sm_T_wk [some (.inr (.inr (some (13, 0)))), some (.inl c_), some (.inl wh_), some (.inl n_), some (.inl sh_), some (.inl op_), some (.inl i_), some (.inl (j_ + 1)), none, none, none] (by exact ⟨rfl, rfl, rfl, rfl, rfl, rfl, rfl, rfl, trivial⟩) ?_
                  refine ih_.2.2.2 n_ sh_ op_ i_ (j_ + 1) Sx10_ hIx11_ hFx14_ ⟨?_, ?_, trivial⟩ ?_
                  · omega
                  · first | exact h1_ | exact e102_.2.2 | exact pts_fr (w_ := ([], [267], [])) h1_ (ai_fr_aI rfl) | exact pts_fr (w_ := ([], [268], [])) h1_ (ai_fr_aI rfl) | exact pts_fr (w_ := ([], [267], [])) e102_.2.2 (ai_fr_aI rfl) | exact pts_fr (w_ := ([], [268], [])) e102_.2.2 (ai_fr_aI rfl) | exact pts_fr (w_ := ([], [267, 268], [])) e102_.2.2 (ai_fr_tr (ai_fr_aI rfl) (ai_fr_aI rfl))
                  · omega
                · have cx23_ : ¬ ((Sx10_.2.2.1 268 0 (Sx10_.2.2.1 243 0 j_.toNat).toNat) ≠ 0) := of_decide_eq_false cx23_
                  refine sm_T_go 4 (c1 := (263, [some (.inr (.inr (some (13, 0)))), some (.inl c_), some (.inl wh_), some (.inl n_), some (.inl sh_), some (.inl op_), some (.inl i_), some (.inl j_), some (.inl 0), some (.inl (Sx10_.2.2.1 243 0 j_.toNat)), some (.inl (Sx10_.2.2.1 243 0 i_.toNat))], [.inl 1, .inl (Sx10_.2.2.1 243 0 j_.toNat), .inr (.inr (some (268, 0)))], Sx10_)) rfl ?_
                  refine sm_T_zas1 (n := 256) rfl rfl (by omega) (by omega) (by omega) ?_
                  have hIx24_ : gi (sm_aI Sx10_ 268 0 (Sx10_.2.2.1 243 0 j_.toNat).toNat 1) := gi_aI hIx11_ (show 0 ≤ 1 ∧ 1 ≤ 1 from ⟨by omega, by omega⟩)
                  have hFx25_ : ai_fr (sx_W vw_493) S0_ (sm_aI Sx10_ 268 0 (Sx10_.2.2.1 243 0 j_.toNat).toNat 1) := ai_fr_tr hFx14_ (ai_fr_aI rfl)
                  refine sm_T_inc (a := 5) (z := 1) (v := op_) (w := op_ + 1) rfl rfl (by omega) (by omega) (by omega) ?_ -- pc_ 264
                  refine sm_T_inc (a := 7) (z := 1) (v := j_) (w := j_ + 1) rfl rfl (by omega) (by omega) (by omega) ?_ -- pc_ 267
                  refine sm_T_go 1 (c1 := (80, [some (.inr (.inr (some (13, 0)))), some (.inl c_), some (.inl wh_), some (.inl n_), some (.inl sh_), some (.inl (op_ + 1)), some (.inl i_), some (.inl (j_ + 1)), some (.inl 0), some (.inl (Sx10_.2.2.1 243 0 j_.toNat)), some (.inl (Sx10_.2.2.1 243 0 i_.toNat))], [], sm_aI Sx10_ 268 0 (Sx10_.2.2.1 243 0 j_.toNat).toNat 1)) rfl ?_
                  refine sm_T_wk [some (.inr (.inr (some (13, 0)))), some (.inl c_), some (.inl wh_), some (.inl n_), some (.inl sh_), some (.inl (op_ + 1)), some (.inl i_), some (.inl (j_ + 1)), none, none, none] (by exact ⟨rfl, rfl, rfl, rfl, rfl, rfl, rfl, rfl, trivial⟩) ?_
                  refine ih_.2.2.2 n_ sh_ (op_ + 1) i_ (j_ + 1) (sm_aI Sx10_ 268 0 (Sx10_.2.2.1 243 0 j_.toNat).toNat 1) hIx24_ hFx25_ ⟨?_, ?_, trivial⟩ ?_
                  · omega
                  · first | exact h1_ | exact e102_.2.2 | exact pts_fr (w_ := ([], [267], [])) h1_ (ai_fr_aI rfl) | exact pts_fr (w_ := ([], [268], [])) h1_ (ai_fr_aI rfl) | exact pts_fr (w_ := ([], [267], [])) e102_.2.2 (ai_fr_aI rfl) | exact pts_fr (w_ := ([], [268], [])) e102_.2.2 (ai_fr_aI rfl) | exact pts_fr (w_ := ([], [267, 268], [])) e102_.2.2 (ai_fr_tr (ai_fr_aI rfl) (ai_fr_aI rfl))
                  · omega
            · have cx20_ : ¬ ((Sx10_.2.2.1 243 0 j_.toNat) ≤ (Sx10_.2.2.1 243 0 i_.toNat)) := of_decide_eq_false cx20_
              exfalso; omega
          · have cx19_ : ¬ ((Sx10_.2.2.1 243 0 j_.toNat) ≤ (Sx10_.2.2.1 243 0 i_.toNat)) := of_decide_eq_false cx19_
            refine sm_T_go 3 (c1 := (138, [some (.inr (.inr (some (13, 0)))), some (.inl c_), some (.inl wh_), some (.inl n_), some (.inl sh_), some (.inl op_), some (.inl i_), some (.inl j_), some (.inl 0), none, none], [.inl i_, .inr (.inr (some (243, 0)))], Sx10_)) rfl ?_
            refine sm_T_iald (n := 700) rfl rfl (by omega) (by omega) ?_
            refine sm_T_go 5 (c1 := (157, [some (.inr (.inr (some (13, 0)))), some (.inl c_), some (.inl wh_), some (.inl n_), some (.inl sh_), some (.inl op_), some (.inl i_), some (.inl j_), some (.inl 0), some (.inl (Sx10_.2.2.1 243 0 i_.toNat)), none], [.inl i_, .inr (.inr (some (243, 0)))], Sx10_)) rfl ?_
            refine sm_T_iald (n := 700) rfl rfl (by omega) (by omega) ?_
            refine sm_T_go 3 (c1 := (164, [some (.inr (.inr (some (13, 0)))), some (.inl c_), some (.inl wh_), some (.inl n_), some (.inl sh_), some (.inl op_), some (.inl i_), some (.inl j_), some (.inl 0), some (.inl (Sx10_.2.2.1 243 0 i_.toNat)), none], [.inl j_, .inr (.inr (some (243, 0))), .inl (Sx10_.2.2.1 243 0 i_.toNat)], Sx10_)) rfl ?_
            refine sm_T_iald (n := 700) rfl rfl (by omega) (by omega) ?_
            refine sm_T_br (a := 3) (z := 13) rfl (fun cx26_ => ?_) (fun cx26_ => ?_)
            · have cx26_ : (Sx10_.2.2.1 243 0 j_.toNat) ≤ (Sx10_.2.2.1 243 0 i_.toNat) := of_decide_eq_true cx26_
              exfalso; omega
            · have cx26_ : ¬ ((Sx10_.2.2.1 243 0 j_.toNat) ≤ (Sx10_.2.2.1 243 0 i_.toNat)) := of_decide_eq_false cx26_
              refine sm_T_go 3 (c1 := (174, [some (.inr (.inr (some (13, 0)))), some (.inl c_), some (.inl wh_), some (.inl n_), some (.inl sh_), some (.inl op_), some (.inl i_), some (.inl j_), some (.inl 0), some (.inl (Sx10_.2.2.1 243 0 i_.toNat)), none], [.inl j_, .inr (.inr (some (243, 0)))], Sx10_)) rfl ?_
              refine sm_T_iald (n := 700) rfl rfl (by omega) (by omega) ?_
              refine sm_T_go 8 (c1 := (243, [some (.inr (.inr (some (13, 0)))), some (.inl c_), some (.inl wh_), some (.inl n_), some (.inl sh_), some (.inl op_), some (.inl i_), some (.inl j_), some (.inl 0), some (.inl (Sx10_.2.2.1 243 0 i_.toNat)), some (.inl (Sx10_.2.2.1 243 0 j_.toNat))], [.inl (Sx10_.2.2.1 243 0 j_.toNat), .inl (Sx10_.2.2.1 243 0 i_.toNat)], Sx10_)) rfl ?_
              refine sm_T_br (a := 1) (z := 24) rfl (fun cx27_ => ?_) (fun cx27_ => ?_)
              · have cx27_ : (Sx10_.2.2.1 243 0 i_.toNat) ≠ (Sx10_.2.2.1 243 0 j_.toNat) := of_decide_eq_true cx27_
                refine sm_T_inc (a := 7) (z := 1) (v := j_) (w := j_ + 1) rfl rfl (by omega) (by omega) (by omega) ?_ -- pc_ 267
                refine sm_T_go 1 (c1 := (80, [some (.inr (.inr (some (13, 0)))), some (.inl c_), some (.inl wh_), some (.inl n_), some (.inl sh_), some (.inl op_), some (.inl i_), some (.inl (j_ + 1)), some (.inl 0), some (.inl (Sx10_.2.2.1 243 0 i_.toNat)), some (.inl (Sx10_.2.2.1 243 0 j_.toNat))], [], Sx10_)) rfl ?_
                refine sm_T_wk [some (.inr (.inr (some (13, 0)))), some (.inl c_), some (.inl wh_), some (.inl n_), some (.inl sh_), some (.inl op_), some (.inl i_), some (.inl (j_ + 1)), none, none, none] (by exact ⟨rfl, rfl, rfl, rfl, rfl, rfl, rfl, rfl, trivial⟩) ?_
                refine ih_.2.2.2 n_ sh_ op_ i_ (j_ + 1) Sx10_ hIx11_ hFx14_ ⟨?_, ?_, trivial⟩ ?_
                · omega
                · first | exact h1_ | exact e102_.2.2 | exact pts_fr (w_ := ([], [267], [])) h1_ (ai_fr_aI rfl) | exact pts_fr (w_ := ([], [268], [])) h1_ (ai_fr_aI rfl) | exact pts_fr (w_ := ([], [267], [])) e102_.2.2 (ai_fr_aI rfl) | exact pts_fr (w_ := ([], [268], [])) e102_.2.2 (ai_fr_aI rfl) | exact pts_fr (w_ := ([], [267, 268], [])) e102_.2.2 (ai_fr_tr (ai_fr_aI rfl) (ai_fr_aI rfl))
                · omega
              · have cx27_ : ¬ ((Sx10_.2.2.1 243 0 i_.toNat) ≠ (Sx10_.2.2.1 243 0 j_.toNat)) := of_decide_eq_false cx27_
                exfalso; omega
        · have cx16_ : ¬ (vx8_ ≠ vx15_) := of_decide_eq_false cx16_
          refine sm_T_go 6 (c1 := (121, [some (.inr (.inr (some (13, 0)))), some (.inl c_), some (.inl wh_), some (.inl n_), some (.inl sh_), some (.inl op_), some (.inl i_), some (.inl j_), some (.inl 1), none, none], [.inl i_, .inr (.inr (some (243, 0)))], Sx10_)) rfl ?_
          refine sm_T_iald (n := 700) rfl rfl (by omega) (by omega) ?_
          have bx28_ : 0 ≤ Sx10_.2.2.1 243 0 i_.toNat ∧ Sx10_.2.2.1 243 0 i_.toNat ≤ 161 := hIx11_.2 243 0 _
          refine sm_T_go 3 (c1 := (128, [some (.inr (.inr (some (13, 0)))), some (.inl c_), some (.inl wh_), some (.inl n_), some (.inl sh_), some (.inl op_), some (.inl i_), some (.inl j_), some (.inl 1), none, none], [.inl j_, .inr (.inr (some (243, 0))), .inl (Sx10_.2.2.1 243 0 i_.toNat)], Sx10_)) rfl ?_
          refine sm_T_iald (n := 700) rfl rfl (by omega) (by omega) ?_
          have bx29_ : 0 ≤ Sx10_.2.2.1 243 0 j_.toNat ∧ Sx10_.2.2.1 243 0 j_.toNat ≤ 161 := hIx11_.2 243 0 _
          refine sm_T_br (a := 3) (z := 13) rfl (fun cx30_ => ?_) (fun cx30_ => ?_)
          · have cx30_ : (Sx10_.2.2.1 243 0 j_.toNat) ≤ (Sx10_.2.2.1 243 0 i_.toNat) := of_decide_eq_true cx30_
            refine sm_T_go 3 (c1 := (148, [some (.inr (.inr (some (13, 0)))), some (.inl c_), some (.inl wh_), some (.inl n_), some (.inl sh_), some (.inl op_), some (.inl i_), some (.inl j_), some (.inl 1), none, none], [.inl j_, .inr (.inr (some (243, 0)))], Sx10_)) rfl ?_
            refine sm_T_iald (n := 700) rfl rfl (by omega) (by omega) ?_
            refine sm_T_go 4 (c1 := (157, [some (.inr (.inr (some (13, 0)))), some (.inl c_), some (.inl wh_), some (.inl n_), some (.inl sh_), some (.inl op_), some (.inl i_), some (.inl j_), some (.inl 1), some (.inl (Sx10_.2.2.1 243 0 j_.toNat)), none], [.inl i_, .inr (.inr (some (243, 0)))], Sx10_)) rfl ?_
            refine sm_T_iald (n := 700) rfl rfl (by omega) (by omega) ?_
            refine sm_T_go 3 (c1 := (164, [some (.inr (.inr (some (13, 0)))), some (.inl c_), some (.inl wh_), some (.inl n_), some (.inl sh_), some (.inl op_), some (.inl i_), some (.inl j_), some (.inl 1), some (.inl (Sx10_.2.2.1 243 0 j_.toNat)), none], [.inl j_, .inr (.inr (some (243, 0))), .inl (Sx10_.2.2.1 243 0 i_.toNat)], Sx10_)) rfl ?_
            refine sm_T_iald (n := 700) rfl rfl (by omega) (by omega) ?_
            refine sm_T_br (a := 3) (z := 13) rfl (fun cx31_ => ?_) (fun cx31_ => ?_)
            · have cx31_ : (Sx10_.2.2.1 243 0 j_.toNat) ≤ (Sx10_.2.2.1 243 0 i_.toNat) := of_decide_eq_true cx31_
              refine sm_T_go 3 (c1 := (184, [some (.inr (.inr (some (13, 0)))), some (.inl c_), some (.inl wh_), some (.inl n_), some (.inl sh_), some (.inl op_), some (.inl i_), some (.inl j_), some (.inl 1), some (.inl (Sx10_.2.2.1 243 0 j_.toNat)), none], [.inl i_, .inr (.inr (some (243, 0)))], Sx10_)) rfl ?_
              refine sm_T_iald (n := 700) rfl rfl (by omega) (by omega) ?_
              refine sm_T_go 5 (c1 := (196, [some (.inr (.inr (some (13, 0)))), some (.inl c_), some (.inl wh_), some (.inl n_), some (.inl sh_), some (.inl op_), some (.inl i_), some (.inl j_), some (.inl 1), some (.inl (Sx10_.2.2.1 243 0 j_.toNat)), some (.inl (Sx10_.2.2.1 243 0 i_.toNat))], [.inl (Sx10_.2.2.1 243 0 i_.toNat), .inl (Sx10_.2.2.1 243 0 j_.toNat)], Sx10_)) rfl ?_
              refine sm_T_br (a := 0) (z := 38) rfl (fun cx32_ => ?_) (fun cx32_ => ?_)
              · have cx32_ : (Sx10_.2.2.1 243 0 j_.toNat) = (Sx10_.2.2.1 243 0 i_.toNat) := of_decide_eq_true cx32_
                refine sm_T_go 2 (c1 := (267, [some (.inr (.inr (some (13, 0)))), some (.inl c_), some (.inl wh_), some (.inl n_), some (.inl sh_), some (.inl op_), some (.inl i_), some (.inl j_), some (.inl 1), some (.inl (Sx10_.2.2.1 243 0 j_.toNat)), some (.inl (Sx10_.2.2.1 243 0 i_.toNat))], [], Sx10_)) rfl ?_
                refine sm_T_inc (a := 7) (z := 1) (v := j_) (w := j_ + 1) rfl rfl (by omega) (by omega) (by omega) ?_ -- pc_ 267
                refine sm_T_go 1 (c1 := (80, [some (.inr (.inr (some (13, 0)))), some (.inl c_), some (.inl wh_), some (.inl n_), some (.inl sh_), some (.inl op_), some (.inl i_), some (.inl (j_ + 1)), some (.inl 1), some (.inl (Sx10_.2.2.1 243 0 j_.toNat)), some (.inl (Sx10_.2.2.1 243 0 i_.toNat))], [], Sx10_)) rfl ?_
                refine sm_T_wk [some (.inr (.inr (some (13, 0)))), some (.inl c_), some (.inl wh_), some (.inl n_), some (.inl sh_), some (.inl op_), some (.inl i_), some (.inl (j_ + 1)), none, none, none] (by exact ⟨rfl, rfl, rfl, rfl, rfl, rfl, rfl, rfl, trivial⟩) ?_
                refine ih_.2.2.2 n_ sh_ op_ i_ (j_ + 1) Sx10_ hIx11_ hFx14_ ⟨?_, ?_, trivial⟩ ?_
                · omega
                · first | exact h1_ | exact e102_.2.2 | exact pts_fr (w_ := ([], [267], [])) h1_ (ai_fr_aI rfl) | exact pts_fr (w_ := ([], [268], [])) h1_ (ai_fr_aI rfl) | exact pts_fr (w_ := ([], [267], [])) e102_.2.2 (ai_fr_aI rfl) | exact pts_fr (w_ := ([], [268], [])) e102_.2.2 (ai_fr_aI rfl) | exact pts_fr (w_ := ([], [267, 268], [])) e102_.2.2 (ai_fr_tr (ai_fr_aI rfl) (ai_fr_aI rfl))
                · omega
              · have cx32_ : ¬ ((Sx10_.2.2.1 243 0 j_.toNat) = (Sx10_.2.2.1 243 0 i_.toNat)) := of_decide_eq_false cx32_
                refine sm_T_go 4 (c1 := (208, [some (.inr (.inr (some (13, 0)))), some (.inl c_), some (.inl wh_), some (.inl n_), some (.inl sh_), some (.inl op_), some (.inl i_), some (.inl j_), some (.inl 1), some (.inl (Sx10_.2.2.1 243 0 j_.toNat)), some (.inl (Sx10_.2.2.1 243 0 i_.toNat))], [.inl (Sx10_.2.2.1 243 0 j_.toNat), .inl 256, .inr (.inr (some (267, 0)))], Sx10_)) rfl ?_
                refine sm_T_bin (w := 256 * (Sx10_.2.2.1 243 0 j_.toNat)) rfl (bi_mul (by omega) (by omega) (by omega)) ?_ -- pc_ 208
                refine sm_T_go 1 (c1 := (211, [some (.inr (.inr (some (13, 0)))), some (.inl c_), some (.inl wh_), some (.inl n_), some (.inl sh_), some (.inl op_), some (.inl i_), some (.inl j_), some (.inl 1), some (.inl (Sx10_.2.2.1 243 0 j_.toNat)), some (.inl (Sx10_.2.2.1 243 0 i_.toNat))], [.inl (Sx10_.2.2.1 243 0 i_.toNat), .inl (256 * (Sx10_.2.2.1 243 0 j_.toNat)), .inr (.inr (some (267, 0)))], Sx10_)) rfl ?_
                refine sm_T_bin (w := 256 * (Sx10_.2.2.1 243 0 j_.toNat) + (Sx10_.2.2.1 243 0 i_.toNat)) rfl (bi_add (by omega) (by omega) (by omega)) ?_ -- pc_ 211
                refine sm_T_zald (n := 65536) rfl rfl (by omega) (by omega) ?_
                have bx33_ : 0 ≤ Sx10_.2.2.1 267 0 (256 * (Sx10_.2.2.1 243 0 j_.toNat) + (Sx10_.2.2.1 243 0 i_.toNat)).toNat ∧ Sx10_.2.2.1 267 0 (256 * (Sx10_.2.2.1 243 0 j_.toNat) + (Sx10_.2.2.1 243 0 i_.toNat)).toNat ≤ 1 := hIx11_.2 267 0 _
                refine sm_T_b0 (a := 1) (z := 21) rfl (fun cx34_ => ?_) (fun cx34_ => ?_)
                · have cx34_ : (Sx10_.2.2.1 267 0 (256 * (Sx10_.2.2.1 243 0 j_.toNat) + (Sx10_.2.2.1 243 0 i_.toNat)).toNat) ≠ 0 := of_decide_eq_true cx34_
                  refine sm_T_go 2 (c1 := (267, [some (.inr (.inr (some (13, 0)))), some (.inl c_), some (.inl wh_), some (.inl n_), some (.inl sh_), some (.inl op_), some (.inl i_), some (.inl j_), some (.inl 1), some (.inl (Sx10_.2.2.1 243 0 j_.toNat)), some (.inl (Sx10_.2.2.1 243 0 i_.toNat))], [], Sx10_)) rfl ?_
                  refine sm_T_inc (a := 7) (z := 1) (v := j_) (w := j_ + 1) rfl rfl (by omega) (by omega) (by omega) ?_ -- pc_ 267
                  refine sm_T_go 1 (c1 := (80, [some (.inr (.inr (some (13, 0)))), some (.inl c_), some (.inl wh_), some (.inl n_), some (.inl sh_), some (.inl op_), some (.inl i_), some (.inl (j_ + 1)), some (.inl 1), some (.inl (Sx10_.2.2.1 243 0 j_.toNat)), some (.inl (Sx10_.2.2.1 243 0 i_.toNat))], [], Sx10_)) rfl ?_
                  refine sm_T_wk [some (.inr (.inr (some (13, 0)))), some (.inl c_), some (.inl wh_), some (.inl n_), some (.inl sh_), some (.inl op_), some (.inl i_), some (.inl (j_ + 1)), none, none, none] (by exact ⟨rfl, rfl, rfl, rfl, rfl, rfl, rfl, rfl, trivial⟩) ?_
                  refine ih_.2.2.2 n_ sh_ op_ i_ (j_ + 1) Sx10_ hIx11_ hFx14_ ⟨?_, ?_, trivial⟩ ?_
                  · omega
                  · first | exact h1_ | exact e102_.2.2 | exact pts_fr (w_ := ([], [267], [])) h1_ (ai_fr_aI rfl) | exact pts_fr (w_ := ([], [268], [])) h1_ (ai_fr_aI rfl) | exact pts_fr (w_ := ([], [267], [])) e102_.2.2 (ai_fr_aI rfl) | exact pts_fr (w_ := ([], [268], [])) e102_.2.2 (ai_fr_aI rfl) | exact pts_fr (w_ := ([], [267, 268], [])) e102_.2.2 (ai_fr_tr (ai_fr_aI rfl) (ai_fr_aI rfl))
                  · omega
                · have cx34_ : ¬ ((Sx10_.2.2.1 267 0 (256 * (Sx10_.2.2.1 243 0 j_.toNat) + (Sx10_.2.2.1 243 0 i_.toNat)).toNat) ≠ 0) := of_decide_eq_false cx34_
                  refine sm_T_go 4 (c1 := (225, [some (.inr (.inr (some (13, 0)))), some (.inl c_), some (.inl wh_), some (.inl n_), some (.inl sh_), some (.inl op_), some (.inl i_), some (.inl j_), some (.inl 1), some (.inl (Sx10_.2.2.1 243 0 j_.toNat)), some (.inl (Sx10_.2.2.1 243 0 i_.toNat))], [.inl (Sx10_.2.2.1 243 0 j_.toNat), .inl 256, .inr (.inr (some (267, 0)))], Sx10_)) rfl ?_
                  refine sm_T_bin (w := 256 * (Sx10_.2.2.1 243 0 j_.toNat)) rfl (bi_mul (by omega) (by omega) (by omega)) ?_ -- pc_ 225
                  refine sm_T_go 1 (c1 := (228, [some (.inr (.inr (some (13, 0)))), some (.inl c_), some (.inl wh_), some (.inl n_), some (.inl sh_), some (.inl op_), some (.inl i_), some (.inl j_), some (.inl 1), some (.inl (Sx10_.2.2.1 243 0 j_.toNat)), some (.inl (Sx10_.2.2.1 243 0 i_.toNat))], [.inl (Sx10_.2.2.1 243 0 i_.toNat), .inl (256 * (Sx10_.2.2.1 243 0 j_.toNat)), .inr (.inr (some (267, 0)))], Sx10_)) rfl ?_
                  refine sm_T_bin (w := 256 * (Sx10_.2.2.1 243 0 j_.toNat) + (Sx10_.2.2.1 243 0 i_.toNat)) rfl (bi_add (by omega) (by omega) (by omega)) ?_ -- pc_ 228
                  refine sm_T_go 1 (c1 := (230, [some (.inr (.inr (some (13, 0)))), some (.inl c_), some (.inl wh_), some (.inl n_), some (.inl sh_), some (.inl op_), some (.inl i_), some (.inl j_), some (.inl 1), some (.inl (Sx10_.2.2.1 243 0 j_.toNat)), some (.inl (Sx10_.2.2.1 243 0 i_.toNat))], [.inl 1, .inl (256 * (Sx10_.2.2.1 243 0 j_.toNat) + (Sx10_.2.2.1 243 0 i_.toNat)), .inr (.inr (some (267, 0)))], Sx10_)) rfl ?_
                  refine sm_T_zas1 (n := 65536) rfl rfl (by omega) (by omega) (by omega) ?_
                  have hIx35_ : gi (sm_aI Sx10_ 267 0 (256 * (Sx10_.2.2.1 243 0 j_.toNat) + (Sx10_.2.2.1 243 0 i_.toNat)).toNat 1) := gi_aI hIx11_ (show 0 ≤ 1 ∧ 1 ≤ 1 from ⟨by omega, by omega⟩)
                  have hFx36_ : ai_fr (sx_W vw_493) S0_ (sm_aI Sx10_ 267 0 (256 * (Sx10_.2.2.1 243 0 j_.toNat) + (Sx10_.2.2.1 243 0 i_.toNat)).toNat 1) := ai_fr_tr hFx14_ (ai_fr_aI rfl)
                  refine sm_T_inc (a := 4) (z := 1) (v := sh_) (w := sh_ + 1) rfl rfl (by omega) (by omega) (by omega) ?_ -- pc_ 231
                  refine sm_T_go 2 (c1 := (267, [some (.inr (.inr (some (13, 0)))), some (.inl c_), some (.inl wh_), some (.inl n_), some (.inl (sh_ + 1)), some (.inl op_), some (.inl i_), some (.inl j_), some (.inl 1), some (.inl (Sx10_.2.2.1 243 0 j_.toNat)), some (.inl (Sx10_.2.2.1 243 0 i_.toNat))], [], sm_aI Sx10_ 267 0 (256 * (Sx10_.2.2.1 243 0 j_.toNat) + (Sx10_.2.2.1 243 0 i_.toNat)).toNat 1)) rfl ?_
                  refine sm_T_inc (a := 7) (z := 1) (v := j_) (w := j_ + 1) rfl rfl (by omega) (by omega) (by omega) ?_ -- pc_ 267
                  refine sm_T_go 1 (c1 := (80, [some (.inr (.inr (some (13, 0)))), some (.inl c_), some (.inl wh_), some (.inl n_), some (.inl (sh_ + 1)), some (.inl op_), some (.inl i_), some (.inl (j_ + 1)), some (.inl 1), some (.inl (Sx10_.2.2.1 243 0 j_.toNat)), some (.inl (Sx10_.2.2.1 243 0 i_.toNat))], [], sm_aI Sx10_ 267 0 (256 * (Sx10_.2.2.1 243 0 j_.toNat) + (Sx10_.2.2.1 243 0 i_.toNat)).toNat 1)) rfl ?_
                  refine sm_T_wk [some (.inr (.inr (some (13, 0)))), some (.inl c_), some (.inl wh_), some (.inl n_), some (.inl (sh_ + 1)), some (.inl op_), some (.inl i_), some (.inl (j_ + 1)), none, none, none] (by exact ⟨rfl, rfl, rfl, rfl, rfl, rfl, rfl, rfl, trivial⟩) ?_
                  refine ih_.2.2.2 n_ (sh_ + 1) op_ i_ (j_ + 1) (sm_aI Sx10_ 267 0 (256 * (Sx10_.2.2.1 243 0 j_.toNat) + (Sx10_.2.2.1 243 0 i_.toNat)).toNat 1) hIx35_ hFx36_ ⟨?_, ?_, trivial⟩ ?_
                  · omega
                  · first | exact h1_ | exact e102_.2.2 | exact pts_fr (w_ := ([], [267], [])) h1_ (ai_fr_aI rfl) | exact pts_fr (w_ := ([], [268], [])) h1_ (ai_fr_aI rfl) | exact pts_fr (w_ := ([], [267], [])) e102_.2.2 (ai_fr_aI rfl) | exact pts_fr (w_ := ([], [268], [])) e102_.2.2 (ai_fr_aI rfl) | exact pts_fr (w_ := ([], [267, 268], [])) e102_.2.2 (ai_fr_tr (ai_fr_aI rfl) (ai_fr_aI rfl))
                  · omega
            · have cx31_ : ¬ ((Sx10_.2.2.1 243 0 j_.toNat) ≤ (Sx10_.2.2.1 243 0 i_.toNat)) := of_decide_eq_false cx31_
              exfalso; omega
          · have cx30_ : ¬ ((Sx10_.2.2.1 243 0 j_.toNat) ≤ (Sx10_.2.2.1 243 0 i_.toNat)) := of_decide_eq_false cx30_
            refine sm_T_go 3 (c1 := (138, [some (.inr (.inr (some (13, 0)))), some (.inl c_), some (.inl wh_), some (.inl n_), some (.inl sh_), some (.inl op_), some (.inl i_), some (.inl j_), some (.inl 1), none, none], [.inl i_, .inr (.inr (some (243, 0)))], Sx10_)) rfl ?_
            refine sm_T_iald (n := 700) rfl rfl (by omega) (by omega) ?_
            refine sm_T_go 5 (c1 := (157, [some (.inr (.inr (some (13, 0)))), some (.inl c_), some (.inl wh_), some (.inl n_), some (.inl sh_), some (.inl op_), some (.inl i_), some (.inl j_), some (.inl 1), some (.inl (Sx10_.2.2.1 243 0 i_.toNat)), none], [.inl i_, .inr (.inr (some (243, 0)))], Sx10_)) rfl ?_
            refine sm_T_iald (n := 700) rfl rfl (by omega) (by omega) ?_
            refine sm_T_go 3 (c1 := (164, [some (.inr (.inr (some (13, 0)))), some (.inl c_), some (.inl wh_), some (.inl n_), some (.inl sh_), some (.inl op_), some (.inl i_), some (.inl j_), some (.inl 1), some (.inl (Sx10_.2.2.1 243 0 i_.toNat)), none], [.inl j_, .inr (.inr (some (243, 0))), .inl (Sx10_.2.2.1 243 0 i_.toNat)], Sx10_)) rfl ?_
            refine sm_T_iald (n := 700) rfl rfl (by omega) (by omega) ?_
            refine sm_T_br (a := 3) (z := 13) rfl (fun cx37_ => ?_) (fun cx37_ => ?_)
            · have cx37_ : (Sx10_.2.2.1 243 0 j_.toNat) ≤ (Sx10_.2.2.1 243 0 i_.toNat) := of_decide_eq_true cx37_
              exfalso; omega
            · have cx37_ : ¬ ((Sx10_.2.2.1 243 0 j_.toNat) ≤ (Sx10_.2.2.1 243 0 i_.toNat)) := of_decide_eq_false cx37_
              refine sm_T_go 3 (c1 := (174, [some (.inr (.inr (some (13, 0)))), some (.inl c_), some (.inl wh_), some (.inl n_), some (.inl sh_), some (.inl op_), some (.inl i_), some (.inl j_), some (.inl 1), some (.inl (Sx10_.2.2.1 243 0 i_.toNat)), none], [.inl j_, .inr (.inr (some (243, 0)))], Sx10_)) rfl ?_
              refine sm_T_iald (n := 700) rfl rfl (by omega) (by omega) ?_
              refine sm_T_go 6 (c1 := (196, [some (.inr (.inr (some (13, 0)))), some (.inl c_), some (.inl wh_), some (.inl n_), some (.inl sh_), some (.inl op_), some (.inl i_), some (.inl j_), some (.inl 1), some (.inl (Sx10_.2.2.1 243 0 i_.toNat)), some (.inl (Sx10_.2.2.1 243 0 j_.toNat))], [.inl (Sx10_.2.2.1 243 0 j_.toNat), .inl (Sx10_.2.2.1 243 0 i_.toNat)], Sx10_)) rfl ?_
              refine sm_T_br (a := 0) (z := 38) rfl (fun cx38_ => ?_) (fun cx38_ => ?_)
              · have cx38_ : (Sx10_.2.2.1 243 0 i_.toNat) = (Sx10_.2.2.1 243 0 j_.toNat) := of_decide_eq_true cx38_
                exfalso; omega
              · have cx38_ : ¬ ((Sx10_.2.2.1 243 0 i_.toNat) = (Sx10_.2.2.1 243 0 j_.toNat)) := of_decide_eq_false cx38_
                refine sm_T_go 4 (c1 := (208, [some (.inr (.inr (some (13, 0)))), some (.inl c_), some (.inl wh_), some (.inl n_), some (.inl sh_), some (.inl op_), some (.inl i_), some (.inl j_), some (.inl 1), some (.inl (Sx10_.2.2.1 243 0 i_.toNat)), some (.inl (Sx10_.2.2.1 243 0 j_.toNat))], [.inl (Sx10_.2.2.1 243 0 i_.toNat), .inl 256, .inr (.inr (some (267, 0)))], Sx10_)) rfl ?_
                refine sm_T_bin (w := 256 * (Sx10_.2.2.1 243 0 i_.toNat)) rfl (bi_mul (by omega) (by omega) (by omega)) ?_ -- pc_ 208
                refine sm_T_go 1 (c1 := (211, [some (.inr (.inr (some (13, 0)))), some (.inl c_), some (.inl wh_), some (.inl n_), some (.inl sh_), some (.inl op_), some (.inl i_), some (.inl j_), some (.inl 1), some (.inl (Sx10_.2.2.1 243 0 i_.toNat)), some (.inl (Sx10_.2.2.1 243 0 j_.toNat))], [.inl (Sx10_.2.2.1 243 0 j_.toNat), .inl (256 * (Sx10_.2.2.1 243 0 i_.toNat)), .inr (.inr (some (267, 0)))], Sx10_)) rfl ?_
                refine sm_T_bin (w := 256 * (Sx10_.2.2.1 243 0 i_.toNat) + (Sx10_.2.2.1 243 0 j_.toNat)) rfl (bi_add (by omega) (by omega) (by omega)) ?_ -- pc_ 211
                refine sm_T_zald (n := 65536) rfl rfl (by omega) (by omega) ?_
                have bx39_ : 0 ≤ Sx10_.2.2.1 267 0 (256 * (Sx10_.2.2.1 243 0 i_.toNat) + (Sx10_.2.2.1 243 0 j_.toNat)).toNat ∧ Sx10_.2.2.1 267 0 (256 * (Sx10_.2.2.1 243 0 i_.toNat) + (Sx10_.2.2.1 243 0 j_.toNat)).toNat ≤ 1 := hIx11_.2 267 0 _
                refine sm_T_b0 (a := 1) (z := 21) rfl (fun cx40_ => ?_) (fun cx40_ => ?_)
                · have cx40_ : (Sx10_.2.2.1 267 0 (256 * (Sx10_.2.2.1 243 0 i_.toNat) + (Sx10_.2.2.1 243 0 j_.toNat)).toNat) ≠ 0 := of_decide_eq_true cx40_
                  refine sm_T_go 2 (c1 := (267, [some (.inr (.inr (some (13, 0)))), some (.inl c_), some (.inl wh_), some (.inl n_), some (.inl sh_), some (.inl op_), some (.inl i_), some (.inl j_), some (.inl 1), some (.inl (Sx10_.2.2.1 243 0 i_.toNat)), some (.inl (Sx10_.2.2.1 243 0 j_.toNat))], [], Sx10_)) rfl ?_
                  refine sm_T_inc (a := 7) (z := 1) (v := j_) (w := j_ + 1) rfl rfl (by omega) (by omega) (by omega) ?_ -- pc_ 267
                  refine sm_T_go 1 (c1 := (80, [some (.inr (.inr (some (13, 0)))), some (.inl c_), some (.inl wh_), some (.inl n_), some (.inl sh_), some (.inl op_), some (.inl i_), some (.inl (j_ + 1)), some (.inl 1), some (.inl (Sx10_.2.2.1 243 0 i_.toNat)), some (.inl (Sx10_.2.2.1 243 0 j_.toNat))], [], Sx10_)) rfl ?_
                  refine sm_T_wk [some (.inr (.inr (some (13, 0)))), some (.inl c_), some (.inl wh_), some (.inl n_), some (.inl sh_), some (.inl op_), some (.inl i_), some (.inl (j_ + 1)), none, none, none] (by exact ⟨rfl, rfl, rfl, rfl, rfl, rfl, rfl, rfl, trivial⟩) ?_
                  refine ih_.2.2.2 n_ sh_ op_ i_ (j_ + 1) Sx10_ hIx11_ hFx14_ ⟨?_, ?_, trivial⟩ ?_
                  · omega
                  · first | exact h1_ | exact e102_.2.2 | exact pts_fr (w_ := ([], [267], [])) h1_ (ai_fr_aI rfl) | exact pts_fr (w_ := ([], [268], [])) h1_ (ai_fr_aI rfl) | exact pts_fr (w_ := ([], [267], [])) e102_.2.2 (ai_fr_aI rfl) | exact pts_fr (w_ := ([], [268], [])) e102_.2.2 (ai_fr_aI rfl) | exact pts_fr (w_ := ([], [267, 268], [])) e102_.2.2 (ai_fr_tr (ai_fr_aI rfl) (ai_fr_aI rfl))
                  · omega
                · have cx40_ : ¬ ((Sx10_.2.2.1 267 0 (256 * (Sx10_.2.2.1 243 0 i_.toNat) + (Sx10_.2.2.1 243 0 j_.toNat)).toNat) ≠ 0) := of_decide_eq_false cx40_
                  refine sm_T_go 4 (c1 := (225, [some (.inr (.inr (some (13, 0)))), some (.inl c_), some (.inl wh_), some (.inl n_), some (.inl sh_), some (.inl op_), some (.inl i_), some (.inl j_), some (.inl 1), some (.inl (Sx10_.2.2.1 243 0 i_.toNat)), some (.inl (Sx10_.2.2.1 243 0 j_.toNat))], [.inl (Sx10_.2.2.1 243 0 i_.toNat), .inl 256, .inr (.inr (some (267, 0)))], Sx10_)) rfl ?_
                  refine sm_T_bin (w := 256 * (Sx10_.2.2.1 243 0 i_.toNat)) rfl (bi_mul (by omega) (by omega) (by omega)) ?_ -- pc_ 225
                  refine sm_T_go 1 (c1 := (228, [some (.inr (.inr (some (13, 0)))), some (.inl c_), some (.inl wh_), some (.inl n_), some (.inl sh_), some (.inl op_), some (.inl i_), some (.inl j_), some (.inl 1), some (.inl (Sx10_.2.2.1 243 0 i_.toNat)), some (.inl (Sx10_.2.2.1 243 0 j_.toNat))], [.inl (Sx10_.2.2.1 243 0 j_.toNat), .inl (256 * (Sx10_.2.2.1 243 0 i_.toNat)), .inr (.inr (some (267, 0)))], Sx10_)) rfl ?_
                  refine sm_T_bin (w := 256 * (Sx10_.2.2.1 243 0 i_.toNat) + (Sx10_.2.2.1 243 0 j_.toNat)) rfl (bi_add (by omega) (by omega) (by omega)) ?_ -- pc_ 228
                  refine sm_T_go 1 (c1 := (230, [some (.inr (.inr (some (13, 0)))), some (.inl c_), some (.inl wh_), some (.inl n_), some (.inl sh_), some (.inl op_), some (.inl i_), some (.inl j_), some (.inl 1), some (.inl (Sx10_.2.2.1 243 0 i_.toNat)), some (.inl (Sx10_.2.2.1 243 0 j_.toNat))], [.inl 1, .inl (256 * (Sx10_.2.2.1 243 0 i_.toNat) + (Sx10_.2.2.1 243 0 j_.toNat)), .inr (.inr (some (267, 0)))], Sx10_)) rfl ?_
                  refine sm_T_zas1 (n := 65536) rfl rfl (by omega) (by omega) (by omega) ?_
                  have hIx41_ : gi (sm_aI Sx10_ 267 0 (256 * (Sx10_.2.2.1 243 0 i_.toNat) + (Sx10_.2.2.1 243 0 j_.toNat)).toNat 1) := gi_aI hIx11_ (show 0 ≤ 1 ∧ 1 ≤ 1 from ⟨by omega, by omega⟩)
                  have hFx42_ : ai_fr (sx_W vw_493) S0_ (sm_aI Sx10_ 267 0 (256 * (Sx10_.2.2.1 243 0 i_.toNat) + (Sx10_.2.2.1 243 0 j_.toNat)).toNat 1) := ai_fr_tr hFx14_ (ai_fr_aI rfl)
                  refine sm_T_inc (a := 4) (z := 1) (v := sh_) (w := sh_ + 1) rfl rfl (by omega) (by omega) (by omega) ?_ -- pc_ 231
                  refine sm_T_go 2 (c1 := (267, [some (.inr (.inr (some (13, 0)))), some (.inl c_), some (.inl wh_), some (.inl n_), some (.inl (sh_ + 1)), some (.inl op_), some (.inl i_), some (.inl j_), some (.inl 1), some (.inl (Sx10_.2.2.1 243 0 i_.toNat)), some (.inl (Sx10_.2.2.1 243 0 j_.toNat))], [], sm_aI Sx10_ 267 0 (256 * (Sx10_.2.2.1 243 0 i_.toNat) + (Sx10_.2.2.1 243 0 j_.toNat)).toNat 1)) rfl ?_
                  refine sm_T_inc (a := 7) (z := 1) (v := j_) (w := j_ + 1) rfl rfl (by omega) (by omega) (by omega) ?_ -- pc_ 267
                  refine sm_T_go 1 (c1 := (80, [some (.inr (.inr (some (13, 0)))), some (.inl c_), some (.inl wh_), some (.inl n_), some (.inl (sh_ + 1)), some (.inl op_), some (.inl i_), some (.inl (j_ + 1)), some (.inl 1), some (.inl (Sx10_.2.2.1 243 0 i_.toNat)), some (.inl (Sx10_.2.2.1 243 0 j_.toNat))], [], sm_aI Sx10_ 267 0 (256 * (Sx10_.2.2.1 243 0 i_.toNat) + (Sx10_.2.2.1 243 0 j_.toNat)).toNat 1)) rfl ?_
                  refine sm_T_wk [some (.inr (.inr (some (13, 0)))), some (.inl c_), some (.inl wh_), some (.inl n_), some (.inl (sh_ + 1)), some (.inl op_), some (.inl i_), some (.inl (j_ + 1)), none, none, none] (by exact ⟨rfl, rfl, rfl, rfl, rfl, rfl, rfl, rfl, trivial⟩) ?_
                  refine ih_.2.2.2 n_ (sh_ + 1) op_ i_ (j_ + 1) (sm_aI Sx10_ 267 0 (256 * (Sx10_.2.2.1 243 0 i_.toNat) + (Sx10_.2.2.1 243 0 j_.toNat)).toNat 1) hIx41_ hFx42_ ⟨?_, ?_, trivial⟩ ?_
                  · omega
                  · first | exact h1_ | exact e102_.2.2 | exact pts_fr (w_ := ([], [267], [])) h1_ (ai_fr_aI rfl) | exact pts_fr (w_ := ([], [268], [])) h1_ (ai_fr_aI rfl) | exact pts_fr (w_ := ([], [267], [])) e102_.2.2 (ai_fr_aI rfl) | exact pts_fr (w_ := ([], [268], [])) e102_.2.2 (ai_fr_aI rfl) | exact pts_fr (w_ := ([], [267, 268], [])) e102_.2.2 (ai_fr_tr (ai_fr_aI rfl) (ai_fr_aI rfl))
                  · omega
set_option maxHeartbeats 1500000 in
set_option maxRecDepth 20000 in
theorem vc_493 {sc_ : Nat × (Nat → Int)} (c_ : Int) (wh_ : Int) (S0_ : sm_S) (hI_ : gi S0_) (hc_ : 0 ≤ c_ ∧ c_ ≤ 3) (hp_ : pts (S0_.2.2.1 264 0 c_.toNat + S0_.1 13 0 159) S0_) : sm_T (mt_P sc_) 1 493 (0, [some (.inr (.inr (some (13, 0)))), some (.inl c_), some (.inl wh_), none, none, none, none, none, none, none, none], [], S0_) (fun ro9_ => ∃ u_ S1_, ro9_ = (.inl u_, S1_, 0) ∧ vq_493 c_ wh_ S0_ u_ S1_) := by
  have hF_ : ai_fr (sx_W vw_493) S0_ S0_ := ai_fr_rf
  refine sm_T_go 3 (c1 := (5, [some (.inr (.inr (some (13, 0)))), some (.inl c_), some (.inl wh_), none, none, none, none, none, none, none, none], [.inl c_, .inr (.inr (some (264, 0)))], S0_)) rfl ?_
  refine sm_T_iald (n := 4) rfl rfl (by omega) (by omega) ?_
  have bx1_ : 0 ≤ S0_.2.2.1 264 0 c_.toNat ∧ S0_.2.2.1 264 0 c_.toNat ≤ 2000 := hI_.2 264 0 _
  refine sm_T_go 3 (c1 := (10, [some (.inr (.inr (some (13, 0)))), some (.inl c_), some (.inl wh_), some (.inl (S0_.2.2.1 264 0 c_.toNat)), some (.inl 0), none, none, none, none, none, none], [], S0_)) rfl ?_
  refine (vl_493 c_ wh_ S0_ hc_ hp_ _).1 (S0_.2.2.1 264 0 c_.toNat) 0 S0_ hI_ hF_ ⟨?_, ?_, trivial⟩ (Nat.lt_succ_self _)
  · omega
  · exact hp_
/-! M_.found -/
def vw_494 : sx_Wl := ([(13, 0), (13, 159)], [243, 244, 245, 266, 267, 268, 269], [])
def vq_494 (a1_ : Int) (a2_ : Int) (S0_ : sm_S) (u_ : Option sm_V) (S1_ : sm_S) : Prop := ∃ v_ : Int, u_ = some (.inl v_) ∧ gi S1_ ∧ ai_fr (sx_W vw_494) S0_ S1_ ∧ ((-2147483648 ≤ v_ ∧ v_ ≤ 2147483647) ∧ jR S1_)
set_option maxHeartbeats 1000000 in
set_option maxRecDepth 20000 in
theorem vl_494 {sc_ : Nat × (Nat → Int)} (a1_ : Int) (a2_ : Int) (S0_ : sm_S) (ha1_ : (-2147483648) ≤ a1_ ∧ a1_ ≤ 2147483647) (ha2_ : (-2147483648) ≤ a2_ ∧ a2_ ≤ 2147483647) (hJ_ : jR S0_) : ∀ nn_ : Nat, (∀ (n_ : Int) (k_ : Int) (S_ : sm_S), gi S_ → ai_fr (sx_W vw_494) S0_ S_ → ((0 ≤ a1_ ∧ a1_ < 4 ∧ 3 ≤ a2_ ∧ a2_ ≤ 4 ∧ n_ = S_.2.2.1 264 0 a1_.toNat ∧ 0 ≤ k_ ∧ k_ ≤ 2700) ∧ (pts (n_ + S_.1 13 0 159) S_) ∧ True) → ((90000 - k_).toNat) < nn_ → sm_T (mt_P sc_) 5 494 (97, [some (.inr (.inr (some (13, 0)))), some (.inl a1_), some (.inl a2_), some (.inl n_), some (.inl k_), none, none], [], S_) (fun ro9_ => ∃ u_ S1_, ro9_ = (.inl u_, S1_, 0) ∧ vq_494 a1_ a2_ S0_ u_ S1_)) ∧ (∀ (n_ : Int) (k_ : Int) (S_ : sm_S), gi S_ → ai_fr (sx_W vw_494) S0_ S_ → ((0 ≤ a1_ ∧ a1_ < 4 ∧ 3 ≤ a2_ ∧ a2_ ≤ 4 ∧ n_ = S_.2.2.1 264 0 a1_.toNat ∧ 0 ≤ k_ ∧ k_ ≤ 700) ∧ (pts (n_ + S_.1 13 0 159) S_) ∧ True) → ((80000 - k_).toNat) < nn_ → sm_T (mt_P sc_) 5 494 (125, [some (.inr (.inr (some (13, 0)))), some (.inl a1_), some (.inl a2_), some (.inl n_), some (.inl k_), none, none], [], S_) (fun ro9_ => ∃ u_ S1_, ro9_ = (.inl u_, S1_, 0) ∧ vq_494 a1_ a2_ S0_ u_ S1_)) ∧ (∀ (n_ : Int) (wi_ : Int) (wo : Int) (k_ : Int) (S_ : sm_S), gi S_ → ai_fr (sx_W vw_494) S0_ S_ → ((0 ≤ a1_ ∧ a1_ < 4 ∧ 3 ≤ a2_ ∧ a2_ ≤ 4 ∧ n_ = S_.2.2.1 264 0 a1_.toNat ∧ 0 ≤ k_ ∧ k_ ≤ 2700 ∧ 0 ≤ wi_ ∧ wi_ ≤ k_ ∧ 0 ≤ wo ∧ wo ≤ k_) ∧ (pts (n_ + S_.1 13 0 159) S_) ∧ True) → ((70000 - k_).toNat) < nn_ → sm_T (mt_P sc_) 5 494 (163, [some (.inr (.inr (some (13, 0)))), some (.inl a1_), some (.inl a2_), some (.inl n_), some (.inl wi_), some (.inl wo), some (.inl k_)], [], S_) (fun ro9_ => ∃ u_ S1_, ro9_ = (.inl u_, S1_, 0) ∧ vq_494 a1_ a2_ S0_ u_ S1_)) := by
  intro nn_
  induction nn_ with
  | zero => exact ⟨fun _ _ _ _ _ _ h_ => absurd h_ (Nat.not_lt_zero _), fun _ _ _ _ _ _ h_ => absurd h_ (Nat.not_lt_zero _), fun _ _ _ _ _ _ _ _ h_ => absurd h_ (Nat.not_lt_zero _)⟩
  | succ nn_ ih_ =>
    refine ⟨?_, ?_, ?_⟩
    · rintro n_ k_ S_ hI_ hF_ ⟨h0_, h1_, -⟩ hm_
      have P9_ : 0 ≤ S_.1 13 0 159 ∧ S_.1 13 0 159 ≤ 700 := hI_.1 13 0 159 rfl
      have b9_ : 0 ≤ S_.2.2.1 264 0 a1_.toNat ∧ S_.2.2.1 264 0 a1_.toNat ≤ 2000 := hI_.2 264 0 _
      have bx1_ : 0 ≤ S_.1 13 0 159 ∧ S_.1 13 0 159 ≤ 700 := hI_.1 13 0 159 rfl
      refine sm_T_go 4 (c1 := (104, [some (.inr (.inr (some (13, 0)))), some (.inl a1_), some (.inl a2_), some (.inl n_), some (.inl k_), none, none], [.inl (S_.1 13 0 159), .inl n_, .inl k_], S_)) rfl ?_
      refine sm_T_bin (w := n_ + (S_.1 13 0 159)) rfl (bi_add (by omega) (by omega) (by omega)) ?_ -- pc_ 104
      refine sm_T_br (a := 3) (z := 17) rfl (fun cx2_ => ?_) (fun cx2_ => ?_)
      · have cx2_ : n_ + (S_.1 13 0 159) ≤ k_ := of_decide_eq_true cx2_
        refine sm_T_go 2 (c1 := (125, [some (.inr (.inr (some (13, 0)))), some (.inl a1_), some (.inl a2_), some (.inl n_), some (.inl 0), none, none], [], S_)) rfl ?_
        refine ih_.2.1 n_ 0 S_ hI_ hF_ ⟨?_, ?_, trivial⟩ ?_
        · omega
        · exact h1_
        · omega
      · have cx2_ : ¬ (n_ + (S_.1 13 0 159) ≤ k_) := of_decide_eq_false cx2_
        refine sm_T_go 4 (c1 := (115, [some (.inr (.inr (some (13, 0)))), some (.inl a1_), some (.inl a2_), some (.inl n_), some (.inl k_), none, none], [.inl 0, .inl k_, .inr (.inr (some (269, 0)))], S_)) rfl ?_
        refine sm_T_zas1 (n := 2700) rfl rfl (by omega) (by omega) (by omega) ?_
        have hIx3_ : gi (sm_aI S_ 269 0 k_.toNat 0) := gi_aI hI_ (show 0 ≤ 0 ∧ 0 ≤ 1 from ⟨by omega, by omega⟩)
        have hFx4_ : ai_fr (sx_W vw_494) S0_ (sm_aI S_ 269 0 k_.toNat 0) := ai_fr_tr hF_ (ai_fr_aI rfl)
        refine sm_T_inc (a := 4) (z := 1) (v := k_) (w := k_ + 1) rfl rfl (by omega) (by omega) (by omega) ?_ -- pc_ 116
        refine sm_T_go 1 (c1 := (97, [some (.inr (.inr (some (13, 0)))), some (.inl a1_), some (.inl a2_), some (.inl n_), some (.inl (k_ + 1)), none, none], [], sm_aI S_ 269 0 k_.toNat 0)) rfl ?_
        refine ih_.1 n_ (k_ + 1) (sm_aI S_ 269 0 k_.toNat 0) hIx3_ hFx4_ ⟨?_, ?_, trivial⟩ ?_
        · ((try simp only [rd_eq, rd_ne, rf_eq, rf_nk, rf_nt, rd_fa, rd_af, rd_fl, rd_al, rd_lf, rd_la, rd_leq, rd_lne, rd_fr, rd_ar, ne_eq, Nat.reduceEqDiff, not_false_eq_true]); omega)
        · exact pts_fr (w_ := ([], [269], [])) h1_ (ai_fr_aI rfl)
        · omega
    · rintro n_ k_ S_ hI_ hF_ ⟨h0_, h1_, -⟩ hm_
      have P9_ : 0 ≤ S_.1 13 0 159 ∧ S_.1 13 0 159 ≤ 700 := hI_.1 13 0 159 rfl
      have b9_ : 0 ≤ S_.2.2.1 264 0 a1_.toNat ∧ S_.2.2.1 264 0 a1_.toNat ≤ 2000 := hI_.2 264 0 _
      have bx1_ : 0 ≤ S_.1 13 0 159 ∧ S_.1 13 0 159 ≤ 700 := hI_.1 13 0 159 rfl
      refine sm_T_go 3 (c1 := (131, [some (.inr (.inr (some (13, 0)))), some (.inl a1_), some (.inl a2_), some (.inl n_), some (.inl k_), none, none], [.inl (S_.1 13 0 159), .inl k_], S_)) rfl ?_
      refine sm_T_br (a := 3) (z := 23) rfl (fun cx2_ => ?_) (fun cx2_ => ?_)
      · have cx2_ : (S_.1 13 0 159) ≤ k_ := of_decide_eq_true cx2_
        refine sm_T_go 6 (c1 := (163, [some (.inr (.inr (some (13, 0)))), some (.inl a1_), some (.inl a2_), some (.inl n_), some (.inl 0), some (.inl 0), some (.inl 0)], [], S_)) rfl ?_
        refine ih_.2.2 n_ 0 0 0 S_ hI_ hF_ ⟨?_, ?_, trivial⟩ ?_
        · omega
        · exact h1_
        · omega
      · have cx2_ : ¬ ((S_.1 13 0 159) ≤ k_) := of_decide_eq_false cx2_
        refine sm_T_go 5 (c1 := (142, [some (.inr (.inr (some (13, 0)))), some (.inl a1_), some (.inl a2_), some (.inl n_), some (.inl k_), none, none], [.inl k_, .inl n_, .inr (.inr (some (13, 0))), .inr (.inr (some (269, 0)))], S_)) rfl ?_
        refine sm_T_bin (w := n_ + k_) rfl (bi_add (by omega) (by omega) (by omega)) ?_ -- pc_ 142
        refine sm_T_cal (d1 := 0) (Q1 := vq_488 (n_ + k_) (n_ + S_.1 13 0 159) S_) rfl rfl (by decide) (vc_488 (n_ + k_) (n_ + S_.1 13 0 159) S_ hI_ (by omega) (by exact h1_)) (fun u_ Sx3_ px6_ => ?_)
        obtain ⟨vx8_, rfl, hIx4_, hFx5_, px6_⟩ := px6_
        have hFx7_ : ai_fr (sx_W vw_494) S0_ Sx3_ := ai_fr_tr hF_ (fr_le hFx5_ rfl)
        have ex9_ : Sx3_.1 13 0 159 = S_.1 13 0 159 := hFx5_.1 13 0 159 rfl
        have e143_ := px6_
        have y143_ := hFx5_.1 13 0 159 rfl
        have z143_ : Sx3_.2.2.1 264 0 = _ := fr_arr hFx5_ rfl
        refine sm_T_go 1 (c1 := (147, [some (.inr (.inr (some (13, 0)))), some (.inl a1_), some (.inl a2_), some (.inl n_), some (.inl k_), none, none], [.inl 1, .inl vx8_, .inr (.inr (some (269, 0)))], Sx3_)) rfl ?_
        refine sm_T_zas1 (n := 2700) rfl rfl (by omega) (by omega) (by omega) ?_
        have hIx10_ : gi (sm_aI Sx3_ 269 0 vx8_.toNat 1) := gi_aI hIx4_ (show 0 ≤ 1 ∧ 1 ≤ 1 from ⟨by omega, by omega⟩)
        have hFx11_ : ai_fr (sx_W vw_494) S0_ (sm_aI Sx3_ 269 0 vx8_.toNat 1) := ai_fr_tr hFx7_ (ai_fr_aI rfl)
        refine sm_T_inc (a := 4) (z := 1) (v := k_) (w := k_ + 1) rfl rfl (by omega) (by omega) (by omega) ?_ -- pc_ 148
        refine sm_T_go 1 (c1 := (125, [some (.inr (.inr (some (13, 0)))), some (.inl a1_), some (.inl a2_), some (.inl n_), some (.inl (k_ + 1)), none, none], [], sm_aI Sx3_ 269 0 vx8_.toNat 1)) rfl ?_
        refine ih_.2.1 n_ (k_ + 1) (sm_aI Sx3_ 269 0 vx8_.toNat 1) hIx10_ hFx11_ ⟨?_, ?_, trivial⟩ ?_
        · ((try simp only [rd_eq, rd_ne, rf_eq, rf_nk, rf_nt, rd_fa, rd_af, rd_fl, rd_al, rd_lf, rd_la, rd_leq, rd_lne, rd_fr, rd_ar, ne_eq, Nat.reduceEqDiff, not_false_eq_true]); rw [z143_]; omega)
        · (show pts (n_ + _) _; rw [show ((sm_aI Sx3_ 269 0 vx8_.toNat 1)).1 13 0 159 = _ from y143_]; exact pts_fr (w_ := ([], [269], [])) e143_.2.2 (ai_fr_aI rfl))
        · omega
    · rintro n_ wi_ wo k_ S_ hI_ hF_ ⟨h0_, h1_, -⟩ hm_
      have P9_ : 0 ≤ S_.1 13 0 159 ∧ S_.1 13 0 159 ≤ 700 := hI_.1 13 0 159 rfl
      have b9_ : 0 ≤ S_.2.2.1 264 0 a1_.toNat ∧ S_.2.2.1 264 0 a1_.toNat ≤ 2000 := hI_.2 264 0 _
      have bx1_ : 0 ≤ S_.1 13 0 159 ∧ S_.1 13 0 159 ≤ 700 := hI_.1 13 0 159 rfl
      refine sm_T_go 4 (c1 := (170, [some (.inr (.inr (some (13, 0)))), some (.inl a1_), some (.inl a2_), some (.inl n_), some (.inl wi_), some (.inl wo), some (.inl k_)], [.inl (S_.1 13 0 159), .inl n_, .inl k_], S_)) rfl ?_
      refine sm_T_bin (w := n_ + (S_.1 13 0 159)) rfl (bi_add (by omega) (by omega) (by omega)) ?_ -- pc_ 170
      refine sm_T_br (a := 3) (z := 71) rfl (fun cx2_ => ?_) (fun cx2_ => ?_)
      · have cx2_ : n_ + (S_.1 13 0 159) ≤ k_ := of_decide_eq_true cx2_
        refine sm_T_go 2 (c1 := (244, [some (.inr (.inr (some (13, 0)))), some (.inl a1_), some (.inl a2_), some (.inl n_), some (.inl wi_), some (.inl wo), some (.inl k_)], [.inl 3, .inl a2_], S_)) rfl ?_
        refine sm_T_br (a := 1) (z := 8) rfl (fun cx3_ => ?_) (fun cx3_ => ?_)
        · have cx3_ : a2_ ≠ 3 := of_decide_eq_true cx3_
          refine sm_T_go 1 (c1 := (254, [some (.inr (.inr (some (13, 0)))), some (.inl a1_), some (.inl a2_), some (.inl n_), some (.inl wi_), some (.inl wo), some (.inl k_)], [.inl wo], S_)) rfl ?_
          refine sm_T_ri rfl ⟨_, _, rfl, _, rfl, hI_, hF_, ?_⟩
          exact ⟨⟨by omega, by omega⟩, jR_fr hJ_ hI_ hF_⟩
        · have cx3_ : ¬ (a2_ ≠ 3) := of_decide_eq_false cx3_
          refine sm_T_go 2 (c1 := (254, [some (.inr (.inr (some (13, 0)))), some (.inl a1_), some (.inl a2_), some (.inl n_), some (.inl wi_), some (.inl wo), some (.inl k_)], [.inl wi_], S_)) rfl ?_
          refine sm_T_ri rfl ⟨_, _, rfl, _, rfl, hI_, hF_, ?_⟩
          exact ⟨⟨by omega, by omega⟩, jR_fr hJ_ hI_ hF_⟩
      · have cx2_ : ¬ (n_ + (S_.1 13 0 159) ≤ k_) := of_decide_eq_false cx2_
        refine sm_T_go 3 (c1 := (179, [some (.inr (.inr (some (13, 0)))), some (.inl a1_), some (.inl a2_), some (.inl n_), some (.inl wi_), some (.inl wo), some (.inl k_)], [.inl k_, .inr (.inr (some (13, 0))), .inl wi_], S_)) rfl ?_
        refine sm_T_cal (d1 := 0) (Q1 := vq_488 k_ (n_ + S_.1 13 0 159) S_) rfl rfl (by decide) (vc_488 k_ (n_ + S_.1 13 0 159) S_ hI_ (by omega) (by exact h1_)) (fun u_ Sx4_ px7_ => ?_)
        obtain ⟨vx9_, rfl, hIx5_, hFx6_, px7_⟩ := px7_
        have hFx8_ : ai_fr (sx_W vw_494) S0_ Sx4_ := ai_fr_tr hF_ (fr_le hFx6_ rfl)
        have ex10_ : Sx4_.1 13 0 159 = S_.1 13 0 159 := hFx6_.1 13 0 159 rfl
        have e179_ := px7_
        have y179_ := hFx6_.1 13 0 159 rfl
        have z179_ : Sx4_.2.2.1 264 0 = _ := fr_arr hFx6_ rfl
        refine sm_T_go 1 (c1 := (184, [some (.inr (.inr (some (13, 0)))), some (.inl a1_), some (.inl a2_), some (.inl n_), some (.inl wi_), some (.inl wo), some (.inl k_)], [.inl k_, .inl vx9_, .inl wi_], Sx4_)) rfl ?_
        refine sm_T_br (a := 1) (z := 17) rfl (fun cx11_ => ?_) (fun cx11_ => ?_)
        · have cx11_ : vx9_ ≠ k_ := of_decide_eq_true cx11_
          refine sm_T_go 1 (c1 := (202, [some (.inr (.inr (some (13, 0)))), some (.inl a1_), some (.inl a2_), some (.inl n_), some (.inl wi_), some (.inl wo), some (.inl k_)], [.inl 0, .inl wi_], Sx4_)) rfl ?_
          refine sm_T_bin (w := wi_) rfl (bi_add (by omega) (by omega) (by omega)) ?_ -- pc_ 202
          refine sm_T_go 4 (c1 := (210, [some (.inr (.inr (some (13, 0)))), some (.inl a1_), some (.inl a2_), some (.inl n_), some (.inl wi_), some (.inl wo), some (.inl k_)], [.inl k_, .inr (.inr (some (13, 0))), .inl wo], Sx4_)) rfl ?_
          refine sm_T_cal (d1 := 0) (Q1 := vq_488 k_ (n_ + S_.1 13 0 159) Sx4_) rfl rfl (by decide) (vc_488 k_ (n_ + S_.1 13 0 159) Sx4_ hIx5_ (by omega) (by exact e179_.2.2)) (fun u_ Sx12_ px15_ => ?_)
          obtain ⟨vx17_, rfl, hIx13_, hFx14_, px15_⟩ := px15_
          have hFx16_ : ai_fr (sx_W vw_494) S0_ Sx12_ := ai_fr_tr hFx8_ (fr_le hFx14_ rfl)
          have e210_ := px15_
          have y210_ := hFx14_.1 13 0 159 rfl
          have z210_ : Sx12_.2.2.1 264 0 = _ := fr_arr hFx14_ rfl
          refine sm_T_go 1 (c1 := (215, [some (.inr (.inr (some (13, 0)))), some (.inl a1_), some (.inl a2_), some (.inl n_), some (.inl wi_), some (.inl wo), some (.inl k_)], [.inl k_, .inl vx17_, .inl wo], Sx12_)) rfl ?_
          refine sm_T_br (a := 1) (z := 17) rfl (fun cx18_ => ?_) (fun cx18_ => ?_)
          · have cx18_ : vx17_ ≠ k_ := of_decide_eq_true cx18_
            refine sm_T_go 1 (c1 := (233, [some (.inr (.inr (some (13, 0)))), some (.inl a1_), some (.inl a2_), some (.inl n_), some (.inl wi_), some (.inl wo), some (.inl k_)], [.inl 0, .inl wo], Sx12_)) rfl ?_
            refine sm_T_bin (w := wo) rfl (bi_add (by omega) (by omega) (by omega)) ?_ -- pc_ 233
            refine sm_T_go 1 (c1 := (236, [some (.inr (.inr (some (13, 0)))), some (.inl a1_), some (.inl a2_), some (.inl n_), some (.inl wi_), some (.inl wo), some (.inl k_)], [], Sx12_)) rfl ?_
            refine sm_T_inc (a := 6) (z := 1) (v := k_) (w := k_ + 1) rfl rfl (by omega) (by omega) (by omega) ?_ -- pc_ 236
            refine sm_T_go 1 (c1 := (163, [some (.inr (.inr (some (13, 0)))), some (.inl a1_), some (.inl a2_), some (.inl n_), some (.inl wi_), some (.inl wo), some (.inl (k_ + 1))], [], Sx12_)) rfl ?_
            refine ih_.2.2 n_ wi_ wo (k_ + 1) Sx12_ hIx13_ hFx16_ ⟨?_, ?_, trivial⟩ ?_
            · (rw [z210_, z179_]; omega)
            · (rw [y210_, y179_]; exact e210_.2.2)
            · omega
          · have cx18_ : ¬ (vx17_ ≠ k_) := of_decide_eq_false cx18_
            refine sm_T_go 3 (c1 := (224, [some (.inr (.inr (some (13, 0)))), some (.inl a1_), some (.inl a2_), some (.inl n_), some (.inl wi_), some (.inl wo), some (.inl k_)], [.inl k_, .inr (.inr (some (269, 0))), .inl wo], Sx12_)) rfl ?_
            refine sm_T_zald (n := 2700) rfl rfl (by omega) (by omega) ?_
            have bx19_ : 0 ≤ Sx12_.2.2.1 269 0 k_.toNat ∧ Sx12_.2.2.1 269 0 k_.toNat ≤ 1 := hIx13_.2 269 0 _
            refine sm_T_b0 (a := 1) (z := 7) rfl (fun cx20_ => ?_) (fun cx20_ => ?_)
            · have cx20_ : (Sx12_.2.2.1 269 0 k_.toNat) ≠ 0 := of_decide_eq_true cx20_
              refine sm_T_go 1 (c1 := (233, [some (.inr (.inr (some (13, 0)))), some (.inl a1_), some (.inl a2_), some (.inl n_), some (.inl wi_), some (.inl wo), some (.inl k_)], [.inl 0, .inl wo], Sx12_)) rfl ?_
              refine sm_T_bin (w := wo) rfl (bi_add (by omega) (by omega) (by omega)) ?_ -- pc_ 233
              refine sm_T_go 1 (c1 := (236, [some (.inr (.inr (some (13, 0)))), some (.inl a1_), some (.inl a2_), some (.inl n_), some (.inl wi_), some (.inl wo), some (.inl k_)], [], Sx12_)) rfl ?_
              refine sm_T_inc (a := 6) (z := 1) (v := k_) (w := k_ + 1) rfl rfl (by omega) (by omega) (by omega) ?_ -- pc_ 236
              refine sm_T_go 1 (c1 := (163, [some (.inr (.inr (some (13, 0)))), some (.inl a1_), some (.inl a2_), some (.inl n_), some (.inl wi_), some (.inl wo), some (.inl (k_ + 1))], [], Sx12_)) rfl ?_
              refine ih_.2.2 n_ wi_ wo (k_ + 1) Sx12_ hIx13_ hFx16_ ⟨?_, ?_, trivial⟩ ?_
              · (rw [z210_, z179_]; omega)
              · (rw [y210_, y179_]; exact e210_.2.2)
              · omega
            · have cx20_ : ¬ ((Sx12_.2.2.1 269 0 k_.toNat) ≠ 0) := of_decide_eq_false cx20_
              refine sm_T_go 2 (c1 := (233, [some (.inr (.inr (some (13, 0)))), some (.inl a1_), some (.inl a2_), some (.inl n_), some (.inl wi_), some (.inl wo), some (.inl k_)], [.inl 1, .inl wo], Sx12_)) rfl ?_
              refine sm_T_bin (w := wo + 1) rfl (bi_add (by omega) (by omega) (by omega)) ?_ -- pc_ 233
              refine sm_T_go 1 (c1 := (236, [some (.inr (.inr (some (13, 0)))), some (.inl a1_), some (.inl a2_), some (.inl n_), some (.inl wi_), some (.inl (wo + 1)), some (.inl k_)], [], Sx12_)) rfl ?_
              refine sm_T_inc (a := 6) (z := 1) (v := k_) (w := k_ + 1) rfl rfl (by omega) (by omega) (by omega) ?_ -- pc_ 236
              refine sm_T_go 1 (c1 := (163, [some (.inr (.inr (some (13, 0)))), some (.inl a1_), some (.inl a2_), some (.inl n_), some (.inl wi_), some (.inl (wo + 1)), some (.inl (k_ + 1))], [], Sx12_)) rfl ?_
              refine ih_.2.2 n_ wi_ (wo + 1) (k_ + 1) Sx12_ hIx13_ hFx16_ ⟨?_, ?_, trivial⟩ ?_
              · (rw [z210_, z179_]; omega)
              · (rw [y210_, y179_]; exact e210_.2.2)
              · omega
        · have cx11_ : ¬ (vx9_ ≠ k_) := of_decide_eq_false cx11_
          refine sm_T_go 3 (c1 := (193, [some (.inr (.inr (some (13, 0)))), some (.inl a1_), some (.inl a2_), some (.inl n_), some (.inl wi_), some (.inl wo), some (.inl k_)], [.inl k_, .inr (.inr (some (269, 0))), .inl wi_], Sx4_)) rfl ?_
          refine sm_T_zald (n := 2700) rfl rfl (by omega) (by omega) ?_
          have bx21_ : 0 ≤ Sx4_.2.2.1 269 0 k_.toNat ∧ Sx4_.2.2.1 269 0 k_.toNat ≤ 1 := hIx5_.2 269 0 _
          refine sm_T_b0 (a := 0) (z := 7) rfl (fun cx22_ => ?_) (fun cx22_ => ?_)
          · have cx22_ : (Sx4_.2.2.1 269 0 k_.toNat) = 0 := of_decide_eq_true cx22_
            refine sm_T_go 1 (c1 := (202, [some (.inr (.inr (some (13, 0)))), some (.inl a1_), some (.inl a2_), some (.inl n_), some (.inl wi_), some (.inl wo), some (.inl k_)], [.inl 0, .inl wi_], Sx4_)) rfl ?_
            refine sm_T_bin (w := wi_) rfl (bi_add (by omega) (by omega) (by omega)) ?_ -- pc_ 202
            refine sm_T_go 4 (c1 := (210, [some (.inr (.inr (some (13, 0)))), some (.inl a1_), some (.inl a2_), some (.inl n_), some (.inl wi_), some (.inl wo), some (.inl k_)], [.inl k_, .inr (.inr (some (13, 0))), .inl wo], Sx4_)) rfl ?_
            refine sm_T_cal (d1 := 0) (Q1 := vq_488 k_ (n_ + S_.1 13 0 159) Sx4_) rfl rfl (by decide) (vc_488 k_ (n_ + S_.1 13 0 159) Sx4_ hIx5_ (by omega) (by exact e179_.2.2)) (fun u_ Sx23_ px26_ => ?_)
            obtain ⟨vx28_, rfl, hIx24_, hFx25_, px26_⟩ := px26_
            have hFx27_ : ai_fr (sx_W vw_494) S0_ Sx23_ := ai_fr_tr hFx8_ (fr_le hFx25_ rfl)
            have e210_ := px26_
            have y210_ := hFx25_.1 13 0 159 rfl
            have z210_ : Sx23_.2.2.1 264 0 = _ := fr_arr hFx25_ rfl
            refine sm_T_go 1 (c1 := (215, [some (.inr (.inr (some (13, 0)))), some (.inl a1_), some (.inl a2_), some (.inl n_), some (.inl wi_), some (.inl wo), some (.inl k_)], [.inl k_, .inl vx28_, .inl wo], Sx23_)) rfl ?_
            refine sm_T_br (a := 1) (z := 17) rfl (fun cx29_ => ?_) (fun cx29_ => ?_)
            · have cx29_ : vx28_ ≠ k_ := of_decide_eq_true cx29_
              refine sm_T_go 1 (c1 := (233, [some (.inr (.inr (some (13, 0)))), some (.inl a1_), some (.inl a2_), some (.inl n_), some (.inl wi_), some (.inl wo), some (.inl k_)], [.inl 0, .inl wo], Sx23_)) rfl ?_
              refine sm_T_bin (w := wo) rfl (bi_add (by omega) (by omega) (by omega)) ?_ -- pc_ 233
              refine sm_T_go 1 (c1 := (236, [some (.inr (.inr (some (13, 0)))), some (.inl a1_), some (.inl a2_), some (.inl n_), some (.inl wi_), some (.inl wo), some (.inl k_)], [], Sx23_)) rfl ?_
              refine sm_T_inc (a := 6) (z := 1) (v := k_) (w := k_ + 1) rfl rfl (by omega) (by omega) (by omega) ?_ -- pc_ 236
              refine sm_T_go 1 (c1 := (163, [some (.inr (.inr (some (13, 0)))), some (.inl a1_), some (.inl a2_), some (.inl n_), some (.inl wi_), some (.inl wo), some (.inl (k_ + 1))], [], Sx23_)) rfl ?_
              refine ih_.2.2 n_ wi_ wo (k_ + 1) Sx23_ hIx24_ hFx27_ ⟨?_, ?_, trivial⟩ ?_
              · (rw [z210_, z179_]; omega)
              · (rw [y210_, y179_]; exact e210_.2.2)
              · omega
            · have cx29_ : ¬ (vx28_ ≠ k_) := of_decide_eq_false cx29_
              refine sm_T_go 3 (c1 := (224, [some (.inr (.inr (some (13, 0)))), some (.inl a1_), some (.inl a2_), some (.inl n_), some (.inl wi_), some (.inl wo), some (.inl k_)], [.inl k_, .inr (.inr (some (269, 0))), .inl wo], Sx23_)) rfl ?_
              refine sm_T_zald (n := 2700) rfl rfl (by omega) (by omega) ?_
              have bx30_ : 0 ≤ Sx23_.2.2.1 269 0 k_.toNat ∧ Sx23_.2.2.1 269 0 k_.toNat ≤ 1 := hIx24_.2 269 0 _
              refine sm_T_b0 (a := 1) (z := 7) rfl (fun cx31_ => ?_) (fun cx31_ => ?_)
              · have cx31_ : (Sx23_.2.2.1 269 0 k_.toNat) ≠ 0 := of_decide_eq_true cx31_
                refine sm_T_go 1 (c1 := (233, [some (.inr (.inr (some (13, 0)))), some (.inl a1_), some (.inl a2_), some (.inl n_), some (.inl wi_), some (.inl wo), some (.inl k_)], [.inl 0, .inl wo], Sx23_)) rfl ?_
                refine sm_T_bin (w := wo) rfl (bi_add (by omega) (by omega) (by omega)) ?_ -- pc_ 233
                refine sm_T_go 1 (c1 := (236, [some (.inr (.inr (some (13, 0)))), some (.inl a1_), some (.inl a2_), some (.inl n_), some (.inl wi_), some (.inl wo), some (.inl k_)], [], Sx23_)) rfl ?_
                refine sm_T_inc (a := 6) (z := 1) (v := k_) (w := k_ + 1) rfl rfl (by omega) (by omega) (by omega) ?_ -- pc_ 236
                refine sm_T_go 1 (c1 := (163, [some (.inr (.inr (some (13, 0)))), some (.inl a1_), some (.inl a2_), some (.inl n_), some (.inl wi_), some (.inl wo), some (.inl (k_ + 1))], [], Sx23_)) rfl ?_
                refine ih_.2.2 n_ wi_ wo (k_ + 1) Sx23_ hIx24_ hFx27_ ⟨?_, ?_, trivial⟩ ?_
                · (rw [z210_, z179_]; omega)
                · (rw [y210_, y179_]; exact e210_.2.2)
                · omega
              · have cx31_ : ¬ ((Sx23_.2.2.1 269 0 k_.toNat) ≠ 0) := of_decide_eq_false cx31_
                refine sm_T_go 2 (c1 := (233, [some (.inr (.inr (some (13, 0)))), some (.inl a1_), some (.inl a2_), some (.inl n_), some (.inl wi_), some (.inl wo), some (.inl k_)], [.inl 1, .inl wo], Sx23_)) rfl ?_
                refine sm_T_bin (w := wo + 1) rfl (bi_add (by omega) (by omega) (by omega)) ?_ -- pc_ 233
                refine sm_T_go 1 (c1 := (236, [some (.inr (.inr (some (13, 0)))), some (.inl a1_), some (.inl a2_), some (.inl n_), some (.inl wi_), some (.inl (wo + 1)), some (.inl k_)], [], Sx23_)) rfl ?_
                refine sm_T_inc (a := 6) (z := 1) (v := k_) (w := k_ + 1) rfl rfl (by omega) (by omega) (by omega) ?_ -- pc_ 236
                refine sm_T_go 1 (c1 := (163, [some (.inr (.inr (some (13, 0)))), some (.inl a1_), some (.inl a2_), some (.inl n_), some (.inl wi_), some (.inl (wo + 1)), some (.inl (k_ + 1))], [], Sx23_)) rfl ?_
                refine ih_.2.2 n_ wi_ (wo + 1) (k_ + 1) Sx23_ hIx24_ hFx27_ ⟨?_, ?_, trivial⟩ ?_
                · (rw [z210_, z179_]; omega)
                · (rw [y210_, y179_]; exact e210_.2.2)
                · omega
          · have cx22_ : ¬ ((Sx4_.2.2.1 269 0 k_.toNat) = 0) := of_decide_eq_false cx22_
            refine sm_T_go 2 (c1 := (202, [some (.inr (.inr (some (13, 0)))), some (.inl a1_), some (.inl a2_), some (.inl n_), some (.inl wi_), some (.inl wo), some (.inl k_)], [.inl 1, .inl wi_], Sx4_)) rfl ?_
            refine sm_T_bin (w := wi_ + 1) rfl (bi_add (by omega) (by omega) (by omega)) ?_ -- pc_ 202
            refine sm_T_go 4 (c1 := (210, [some (.inr (.inr (some (13, 0)))), some (.inl a1_), some (.inl a2_), some (.inl n_), some (.inl (wi_ + 1)), some (.inl wo), some (.inl k_)], [.inl k_, .inr (.inr (some (13, 0))), .inl wo], Sx4_)) rfl ?_
            refine sm_T_cal (d1 := 0) (Q1 := vq_488 k_ (n_ + S_.1 13 0 159) Sx4_) rfl rfl (by decide) (vc_488 k_ (n_ + S_.1 13 0 159) Sx4_ hIx5_ (by omega) (by exact e179_.2.2)) (fun u_ Sx32_ px35_ => ?_)
            obtain ⟨vx37_, rfl, hIx33_, hFx34_, px35_⟩ := px35_
            have hFx36_ : ai_fr (sx_W vw_494) S0_ Sx32_ := ai_fr_tr hFx8_ (fr_le hFx34_ rfl)
            have e210_ := px35_
            have y210_ := hFx34_.1 13 0 159 rfl
            have z210_ : Sx32_.2.2.1 264 0 = _ := fr_arr hFx34_ rfl
            refine sm_T_go 1 (c1 := (215, [some (.inr (.inr (some (13, 0)))), some (.inl a1_), some (.inl a2_), some (.inl n_), some (.inl (wi_ + 1)), some (.inl wo), some (.inl k_)], [.inl k_, .inl vx37_, .inl wo], Sx32_)) rfl ?_
            refine sm_T_br (a := 1) (z := 17) rfl (fun cx38_ => ?_) (fun cx38_ => ?_)
            · have cx38_ : vx37_ ≠ k_ := of_decide_eq_true cx38_
              refine sm_T_go 1 (c1 := (233, [some (.inr (.inr (some (13, 0)))), some (.inl a1_), some (.inl a2_), some (.inl n_), some (.inl (wi_ + 1)), some (.inl wo), some (.inl k_)], [.inl 0, .inl wo], Sx32_)) rfl ?_
              refine sm_T_bin (w := wo) rfl (bi_add (by omega) (by omega) (by omega)) ?_ -- pc_ 233
              refine sm_T_go 1 (c1 := (236, [some (.inr (.inr (some (13, 0)))), some (.inl a1_), some (.inl a2_), some (.inl n_), some (.inl (wi_ + 1)), some (.inl wo), some (.inl k_)], [], Sx32_)) rfl ?_
              refine sm_T_inc (a := 6) (z := 1) (v := k_) (w := k_ + 1) rfl rfl (by omega) (by omega) (by omega) ?_ -- pc_ 236
              refine sm_T_go 1 (c1 := (163, [some (.inr (.inr (some (13, 0)))), some (.inl a1_), some (.inl a2_), some (.inl n_), some (.inl (wi_ + 1)), some (.inl wo), some (.inl (k_ + 1))], [], Sx32_)) rfl ?_
              refine ih_.2.2 n_ (wi_ + 1) wo (k_ + 1) Sx32_ hIx33_ hFx36_ ⟨?_, ?_, trivial⟩ ?_
              · (rw [z210_, z179_]; omega)
              · (rw [y210_, y179_]; exact e210_.2.2)
              · omega
            · have cx38_ : ¬ (vx37_ ≠ k_) := of_decide_eq_false cx38_
              refine sm_T_go 3 (c1 := (224, [some (.inr (.inr (some (13, 0)))), some (.inl a1_), some (.inl a2_), some (.inl n_), some (.inl (wi_ + 1)), some (.inl wo), some (.inl k_)], [.inl k_, .inr (.inr (some (269, 0))), .inl wo], Sx32_)) rfl ?_
              refine sm_T_zald (n := 2700) rfl rfl (by omega) (by omega) ?_
              have bx39_ : 0 ≤ Sx32_.2.2.1 269 0 k_.toNat ∧ Sx32_.2.2.1 269 0 k_.toNat ≤ 1 := hIx33_.2 269 0 _
              refine sm_T_b0 (a := 1) (z := 7) rfl (fun cx40_ => ?_) (fun cx40_ => ?_)
              · have cx40_ : (Sx32_.2.2.1 269 0 k_.toNat) ≠ 0 := of_decide_eq_true cx40_
                refine sm_T_go 1 (c1 := (233, [some (.inr (.inr (some (13, 0)))), some (.inl a1_), some (.inl a2_), some (.inl n_), some (.inl (wi_ + 1)), some (.inl wo), some (.inl k_)], [.inl 0, .inl wo], Sx32_)) rfl ?_
                refine sm_T_bin (w := wo) rfl (bi_add (by omega) (by omega) (by omega)) ?_ -- pc_ 233
                refine sm_T_go 1 (c1 := (236, [some (.inr (.inr (some (13, 0)))), some (.inl a1_), some (.inl a2_), some (.inl n_), some (.inl (wi_ + 1)), some (.inl wo), some (.inl k_)], [], Sx32_)) rfl ?_
                refine sm_T_inc (a := 6) (z := 1) (v := k_) (w := k_ + 1) rfl rfl (by omega) (by omega) (by omega) ?_ -- pc_ 236
                refine sm_T_go 1 (c1 := (163, [some (.inr (.inr (some (13, 0)))), some (.inl a1_), some (.inl a2_), some (.inl n_), some (.inl (wi_ + 1)), some (.inl wo), some (.inl (k_ + 1))], [], Sx32_)) rfl ?_
                refine ih_.2.2 n_ (wi_ + 1) wo (k_ + 1) Sx32_ hIx33_ hFx36_ ⟨?_, ?_, trivial⟩ ?_
                · (rw [z210_, z179_]; omega)
                · (rw [y210_, y179_]; exact e210_.2.2)
                · omega
              · have cx40_ : ¬ ((Sx32_.2.2.1 269 0 k_.toNat) ≠ 0) := of_decide_eq_false cx40_
                refine sm_T_go 2 (c1 := (233, [some (.inr (.inr (some (13, 0)))), some (.inl a1_), some (.inl a2_), some (.inl n_), some (.inl (wi_ + 1)), some (.inl wo), some (.inl k_)], [.inl 1, .inl wo], Sx32_)) rfl ?_
                refine sm_T_bin (w := wo + 1) rfl (bi_add (by omega) (by omega) (by omega)) ?_ -- pc_ 233
                refine sm_T_go 1 (c1 := (236, [some (.inr (.inr (some (13, 0)))), some (.inl a1_), some (.inl a2_), some (.inl n_), some (.inl (wi_ + 1)), some (.inl (wo + 1)), some (.inl k_)], [], Sx32_)) rfl ?_
                refine sm_T_inc (a := 6) (z := 1) (v := k_) (w := k_ + 1) rfl rfl (by omega) (by omega) (by omega) ?_ -- pc_ 236
                refine sm_T_go 1 (c1 := (163, [some (.inr (.inr (some (13, 0)))), some (.inl a1_), some (.inl a2_), some (.inl n_), some (.inl (wi_ + 1)), some (.inl (wo + 1)), some (.inl (k_ + 1))], [], Sx32_)) rfl ?_
                refine ih_.2.2 n_ (wi_ + 1) (wo + 1) (k_ + 1) Sx32_ hIx33_ hFx36_ ⟨?_, ?_, trivial⟩ ?_
                · (rw [z210_, z179_]; omega)
                · (rw [y210_, y179_]; exact e210_.2.2)
                · omega
set_option maxHeartbeats 1000000 in
set_option maxRecDepth 20000 in
theorem vc_494 {sc_ : Nat × (Nat → Int)} (a1_ : Int) (a2_ : Int) (S0_ : sm_S) (hI_ : gi S0_) (ha1_ : (-2147483648) ≤ a1_ ∧ a1_ ≤ 2147483647) (ha2_ : (-2147483648) ≤ a2_ ∧ a2_ ≤ 2147483647) (hJ_ : jR S0_) : sm_T (mt_P sc_) 5 494 (0, [some (.inr (.inr (some (13, 0)))), some (.inl a1_), some (.inl a2_), none, none, none, none], [], S0_) (fun ro9_ => ∃ u_ S1_, ro9_ = (.inl u_, S1_, 0) ∧ vq_494 a1_ a2_ S0_ u_ S1_) := by
  have hF_ : ai_fr (sx_W vw_494) S0_ S0_ := ai_fr_rf
  refine sm_T_go 3 (c1 := (3, [some (.inr (.inr (some (13, 0)))), some (.inl a1_), some (.inl a2_), none, none, none, none], [.inl a1_, .inr (.inr (some (13, 0))), .inr (.inr (some (13, 0)))], S0_)) rfl ?_
  refine sm_T_cal (d1 := 0) (Q1 := vq_371 a1_ S0_) rfl rfl (by decide) (vc_371 a1_ S0_ hI_ (by omega)) (fun u_ Sx1_ px4_ => ?_)
  obtain ⟨rfl, vx6_, rfl, px4_⟩ := px4_
  have d3_ := px4_
  refine sm_T_b0 (a := 1) (z := 7) rfl (fun cx7_ => ?_) (fun cx7_ => ?_)
  · have cx7_ : vx6_ ≠ 0 := of_decide_eq_true cx7_
    refine sm_T_go 3 (c1 := (16, [some (.inr (.inr (some (13, 0)))), some (.inl a1_), some (.inl a2_), none, none, none, none], [.inl 4, .inl 0, .inl a2_, .inr (.inr (some (13, 0)))], S0_)) rfl ?_
    refine sm_T_cal (d1 := 0) (Q1 := vq_278 a2_ 0 4 S0_) rfl rfl (by decide) (vc_278 a2_ 0 4 S0_ hI_ ) (fun u_ Sx8_ px11_ => ?_)
    obtain ⟨rfl, vx13_, rfl, px11_⟩ := px11_
    refine sm_T_b0 (a := 1) (z := 7) rfl (fun cx14_ => ?_) (fun cx14_ => ?_)
    · have cx14_ : vx13_ ≠ 0 := of_decide_eq_true cx14_
      refine sm_T_go 3 (c1 := (31, [some (.inr (.inr (some (13, 0)))), some (.inl a1_), some (.inl a2_), none, none, none, none], [.inl a1_, .inr (.inr (some (263, 0))), .inr (.inr (some (13, 0)))], S0_)) rfl ?_
      refine sm_T_zald (n := 4) rfl rfl (by omega) (by omega) ?_
      have bx15_ : 0 ≤ S0_.2.2.1 263 0 a1_.toNat ∧ S0_.2.2.1 263 0 a1_.toNat ≤ 1 := hI_.2 263 0 _
      refine sm_T_b0 (a := 1) (z := 7) rfl (fun cx16_ => ?_) (fun cx16_ => ?_)
      · have cx16_ : (S0_.2.2.1 263 0 a1_.toNat) ≠ 0 := of_decide_eq_true cx16_
        have K9_ : cRk a1_ S0_ := hJ_.2 a1_ (by omega) (by omega) (by omega)
        obtain ⟨K1_, K2_, K3_, K4_, K5_, K6_, K7_⟩ := K9_
        have hIx17_ : gi (sm_pI S0_ 13 0 0 0) := gi_pI hI_ (show 0 ≤ 0 ∧ 0 ≤ 4 from ⟨by omega, by omega⟩)
        have hFx18_ : ai_fr (sx_W vw_494) S0_ (sm_pI S0_ 13 0 0 0) := ai_fr_tr hF_ (ai_fr_pI rfl)
        refine sm_T_go 7 (c1 := (54, [some (.inr (.inr (some (13, 0)))), some (.inl a1_), some (.inl a2_), none, none, none, none], [.inl a1_, .inr (.inr (some (13, 0)))], sm_pI S0_ 13 0 0 0)) rfl ?_
        refine sm_T_cal (d1 := 4) (Q1 := vq_492 a1_ (sm_pI S0_ 13 0 0 0)) rfl rfl (by decide) (vc_492 a1_ (sm_pI S0_ 13 0 0 0) hIx17_ (by omega) (by exact K1_) (by exact K4_) (by exact K5_)) (fun u_ Sx19_ px22_ => ?_)
        obtain ⟨rfl, hIx20_, hFx21_, px22_⟩ := px22_
        have hFx23_ : ai_fr (sx_W vw_494) S0_ Sx19_ := ai_fr_tr hFx18_ (fr_le hFx21_ rfl)
        have e54_ := px22_
        have z54_ : Sx19_.2.2.1 264 0 a1_.toNat = S0_.2.2.1 264 0 a1_.toNat := congrFun (fr_arr hFx23_ rfl) _
        have e55_ : pts (Sx19_.2.2.1 264 0 a1_.toNat + Sx19_.1 13 0 159) Sx19_ := by (rw [z54_]; exact e54_)
        refine sm_T_go 2 (c1 := (59, [some (.inr (.inr (some (13, 0)))), some (.inl a1_), some (.inl a2_), none, none, none, none], [.inl 3, .inl a2_], Sx19_)) rfl ?_
        refine sm_T_br (a := 3) (z := 28) rfl (fun cx24_ => ?_) (fun cx24_ => ?_)
        · have cx24_ : 3 ≤ a2_ := of_decide_eq_true cx24_
          refine sm_T_go 3 (c1 := (92, [some (.inr (.inr (some (13, 0)))), some (.inl a1_), some (.inl a2_), none, none, none, none], [.inl a1_, .inr (.inr (some (264, 0)))], Sx19_)) rfl ?_
          refine sm_T_iald (n := 4) rfl rfl (by omega) (by omega) ?_
          have bx25_ : 0 ≤ Sx19_.2.2.1 264 0 a1_.toNat ∧ Sx19_.2.2.1 264 0 a1_.toNat ≤ 2000 := hIx20_.2 264 0 _
          refine sm_T_go 3 (c1 := (97, [some (.inr (.inr (some (13, 0)))), some (.inl a1_), some (.inl a2_), some (.inl (Sx19_.2.2.1 264 0 a1_.toNat)), some (.inl 0), none, none], [], Sx19_)) rfl ?_
          refine (vl_494 a1_ a2_ S0_ ha1_ ha2_ hJ_ _).1 (Sx19_.2.2.1 264 0 a1_.toNat) 0 Sx19_ hIx20_ hFx23_ ⟨?_, ?_, trivial⟩ (Nat.lt_succ_self _)
          · omega
          · exact e55_
        · have cx24_ : ¬ (3 ≤ a2_) := of_decide_eq_false cx24_
          refine sm_T_go 3 (c1 := (65, [some (.inr (.inr (some (13, 0)))), some (.inl a1_), some (.inl a2_), none, none, none, none], [.inl a2_, .inl a1_, .inr (.inr (some (13, 0)))], Sx19_)) rfl ?_
          refine sm_T_cal (d1 := 1) (Q1 := vq_493 a1_ a2_ Sx19_) rfl rfl (by decide) (vc_493 a1_ a2_ Sx19_ hIx20_ (by omega) (by exact e55_)) (fun u_ Sx26_ px29_ => ?_)
          obtain ⟨vx31_, rfl, hIx27_, hFx28_, px29_⟩ := px29_
          have hFx30_ : ai_fr (sx_W vw_494) S0_ Sx26_ := ai_fr_tr hFx23_ (fr_le hFx28_ rfl)
          refine sm_T_go 2 (c1 := (70, [some (.inr (.inr (some (13, 0)))), some (.inl a1_), some (.inl a2_), some (.inl vx31_), none, none, none], [.inl a2_], Sx26_)) rfl ?_
          refine sm_T_b0 (a := 5) (z := 7) rfl (fun cx32_ => ?_) (fun cx32_ => ?_)
          · have cx32_ : a2_ ≤ 0 := of_decide_eq_true cx32_
            refine sm_T_go 1 (c1 := (78, [some (.inr (.inr (some (13, 0)))), some (.inl a1_), some (.inl a2_), some (.inl vx31_), none, none, none], [.inl vx31_], Sx26_)) rfl ?_
            refine sm_T_b0 (a := 1) (z := 7) rfl (fun cx33_ => ?_) (fun cx33_ => ?_)
            · have cx33_ : vx31_ ≠ 0 := of_decide_eq_true cx33_
              refine sm_T_go 1 (c1 := (86, [some (.inr (.inr (some (13, 0)))), some (.inl a1_), some (.inl a2_), some (.inl vx31_), none, none, none], [.inl 0], Sx26_)) rfl ?_
              refine sm_T_ri rfl ⟨_, _, rfl, _, rfl, hIx27_, hFx30_, ?_⟩
              exact ⟨⟨by omega, by omega⟩, jR_fr hJ_ hIx27_ hFx30_⟩
            · have cx33_ : ¬ (vx31_ ≠ 0) := of_decide_eq_false cx33_
              refine sm_T_go 2 (c1 := (86, [some (.inr (.inr (some (13, 0)))), some (.inl a1_), some (.inl a2_), some (.inl vx31_), none, none, none], [.inl 1], Sx26_)) rfl ?_
              refine sm_T_ri rfl ⟨_, _, rfl, _, rfl, hIx27_, hFx30_, ?_⟩
              exact ⟨⟨by omega, by omega⟩, jR_fr hJ_ hIx27_ hFx30_⟩
          · have cx32_ : ¬ (a2_ ≤ 0) := of_decide_eq_false cx32_
            refine sm_T_go 2 (c1 := (86, [some (.inr (.inr (some (13, 0)))), some (.inl a1_), some (.inl a2_), some (.inl vx31_), none, none, none], [.inl vx31_], Sx26_)) rfl ?_
            refine sm_T_ri rfl ⟨_, _, rfl, _, rfl, hIx27_, hFx30_, ?_⟩
            exact ⟨⟨by omega, by omega⟩, jR_fr hJ_ hIx27_ hFx30_⟩
      · have cx16_ : ¬ ((S0_.2.2.1 263 0 a1_.toNat) ≠ 0) := of_decide_eq_false cx16_
        have hIx34_ : gi (sm_pI S0_ 13 0 0 3) := gi_pI hI_ (show 0 ≤ 3 ∧ 3 ≤ 4 from ⟨by omega, by omega⟩)
        have hFx35_ : ai_fr (sx_W vw_494) S0_ (sm_pI S0_ 13 0 0 3) := ai_fr_tr hF_ (ai_fr_pI rfl)
        refine sm_T_go 7 (c1 := (51, [some (.inr (.inr (some (13, 0)))), some (.inl a1_), some (.inl a2_), none, none, none, none], [.inl 0], sm_pI S0_ 13 0 0 3)) rfl ?_
        refine sm_T_ri rfl ⟨_, _, rfl, _, rfl, hIx34_, hFx35_, ?_⟩
        exact ⟨⟨by omega, by omega⟩, jR_fr hJ_ hIx34_ hFx35_⟩
    · have cx14_ : ¬ (vx13_ ≠ 0) := of_decide_eq_false cx14_
      have hIx36_ : gi (sm_pI S0_ 13 0 0 2) := gi_pI hI_ (show 0 ≤ 2 ∧ 2 ≤ 4 from ⟨by omega, by omega⟩)
      have hFx37_ : ai_fr (sx_W vw_494) S0_ (sm_pI S0_ 13 0 0 2) := ai_fr_tr hF_ (ai_fr_pI rfl)
      refine sm_T_go 7 (c1 := (51, [some (.inr (.inr (some (13, 0)))), some (.inl a1_), some (.inl a2_), none, none, none, none], [.inl 0], sm_pI S0_ 13 0 0 2)) rfl ?_
      refine sm_T_ri rfl ⟨_, _, rfl, _, rfl, hIx36_, hFx37_, ?_⟩
      exact ⟨⟨by omega, by omega⟩, jR_fr hJ_ hIx36_ hFx37_⟩
  · have cx7_ : ¬ (vx6_ ≠ 0) := of_decide_eq_false cx7_
    have hIx38_ : gi (sm_pI S0_ 13 0 0 1) := gi_pI hI_ (show 0 ≤ 1 ∧ 1 ≤ 4 from ⟨by omega, by omega⟩)
    have hFx39_ : ai_fr (sx_W vw_494) S0_ (sm_pI S0_ 13 0 0 1) := ai_fr_tr hF_ (ai_fr_pI rfl)
    refine sm_T_go 7 (c1 := (51, [some (.inr (.inr (some (13, 0)))), some (.inl a1_), some (.inl a2_), none, none, none, none], [.inl 0], sm_pI S0_ 13 0 0 1)) rfl ?_
    refine sm_T_ri rfl ⟨_, _, rfl, _, rfl, hIx38_, hFx39_, ?_⟩
    exact ⟨⟨by omega, by omega⟩, jR_fr hJ_ hIx38_ hFx39_⟩
end
