/-! nets connected; written by wip/p55/gen/vg -/

/-! nets connected -/
theorem trt_1 {bb_ : Nat} {t_ x_ : Int} {S_ S'_ : sm_S} (hx_ : 0 ≤ x_ ∧ x_ < 2 * S'_.1 8 0 2) (ho_ : ∀ p_ : Nat, (p_ : Int) < 2 * S'_.1 8 0 2 → S_.2.2.1 22 (0 + bb_) p_ ≠ t_) (h1_ : ∀ j_, S'_.2.2.1 22 (0 + bb_) j_ = if j_ = x_.toNat then t_ else S_.2.2.1 22 (0 + bb_) j_) (h2_ : S'_.2.2.1 90 0 0 = x_) (h3_ : S'_.1 8 0 11 = 1) : trt bb_ t_ S'_ := by
  refine ⟨?_, fun i_ hi_ => ?_, fun p_ hp_ hq_ => ?_⟩
  · have u_ := cne_up (f := S_.2.2.1 22 (0 + bb_)) (g := S'_.2.2.1 22 (0 + bb_)) (c := t_) (j := x_.toNat) (ho_ _ (by omega)) (by rw [h1_, if_pos rfl]) (fun k_ hk_ => by rw [h1_, if_neg hk_]) (n := (2 * S'_.1 8 0 2).toNat) (by omega)
    rw [cne_0 (fun k_ hk_ => ho_ k_ (by omega))] at u_
    rw [h3_, u_]
    rfl
  · have z_ : i_ = 0 := by omega
    rw [z_, h2_]
    exact ⟨hx_, by rw [h1_, if_pos rfl]⟩
  · rw [h1_] at hq_
    by_cases z_ : p_ = x_.toNat
    · exact ⟨0, by omega, by rw [h2_]; omega⟩
    · rw [if_neg z_] at hq_
      exact absurd hq_ (ho_ p_ hp_)
theorem rot_tr {bb_ : Nat} {t_ : Int} {S_ S'_ S2_ : sm_S} (h_ : rot bb_ t_ S_ S'_) (g_ : rot bb_ t_ S'_ S2_) : rot bb_ t_ S_ S2_ := by
  intro p_
  rcases g_ p_ with a_ | a_ | a_
  · rw [a_]; exact h_ p_
  · exact Or.inr (Or.inl a_)
  · exact Or.inr (Or.inr a_)
theorem ropn_cg {bb_ : Nat} {S_ S'_ : sm_S} (h_ : ropn bb_ S_) (e_ : S'_.1 8 0 2 = S_.1 8 0 2) (a_ : S'_.2.2.1 22 (0 + bb_) = S_.2.2.1 22 (0 + bb_)) (b_ : S'_.2.2.1 24 (0 + bb_) = S_.2.2.1 24 (0 + bb_)) : ropn bb_ S'_ := by
  unfold ropn
  rw [e_, a_, b_]
  exact h_
theorem bst_cg {bb_ : Nat} {S_ S'_ : sm_S} (h_ : bst bb_ S_) (a_ : S'_.2.2.1 22 (0 + bb_) = S_.2.2.1 22 (0 + bb_)) (b_ : S'_.2.2.1 23 (0 + bb_) = S_.2.2.1 23 (0 + bb_)) : bst bb_ S'_ := by
  unfold bst
  rw [a_, b_]
  exact h_
/-! Router.connect -/
def vw_157 : sx_Wl := ([(8, 6), (8, 8), (8, 11)], [22, 23, 24, 86, 87, 88, 89, 90], [])
def vq_157 (a1_ : Int) (a2_ : Int) (bb_ : Nat) (S0_ : sm_S) (u_ : Option sm_V) (S1_ : sm_S) : Prop := ∃ v_ : Int, u_ = some (.inl v_) ∧ gi S1_ ∧ ai_fr (sx_W vw_157) S0_ S1_ ∧ (cdf bb_ S0_ S1_ ∧ ((0 ≤ v_ ∧ v_ ≤ 1) ∧ bst bb_ S1_ ∧ ropn bb_ S1_ ∧ rot bb_ a1_ S0_ S1_))
set_option maxHeartbeats 3000000 in
theorem vl_157 {sc_ : Nat × (Nat → Int)} (a1_ : Int) (a2_ : Int) (bb_ : Nat) (S0_ : sm_S) (hb_ : S0_.2.1 8 0 0 = some bb_) (hg_ : rgw S0_) (h1_ : 0 ≤ a1_ ∧ a1_ ≤ 161) (hn_ : bpn bb_ S0_) (hp_ : rpt bb_ S0_) (hst_ : bst bb_ S0_) (hop_ : ropn bb_ S0_) (hno_ : ∀ p_ : Nat, (p_ : Int) < 2 * S0_.1 8 0 2 → S0_.2.2.1 22 (0 + bb_) p_ ≠ a1_) (hk1_ : 1 ≤ S0_.2.2.1 20 (0 + bb_) a1_.toNat) : ∀ nn_ : Nat, (∀ (k_ : Int) (S_ : sm_S), gi S_ → ai_fr (sx_W vw_157) S0_ S_ → ((1 ≤ k_ ∧ k_ ≤ 652) ∧ (trt bb_ a1_ S_) ∧ (bst bb_ S_) ∧ (ropn bb_ S_) ∧ (rot bb_ a1_ S0_ S_) ∧ (S_.2.2.1 24 (0 + bb_) a1_.toNat = 0) ∧ (cdf bb_ S0_ S_) ∧ True) → ((1000 - k_).toNat) < nn_ → sm_T (mt_P sc_) 4 157 (42, [some (.inr (.inr (some (8, 0)))), some (.inl a1_), some (.inl a2_), none, some (.inl k_), none], [], S_) (fun ro9_ => ∃ u_ S1_, ro9_ = (.inl u_, S1_, 0) ∧ vq_157 a1_ a2_ bb_ S0_ u_ S1_)) := by
  intro nn_
  induction nn_ with
  | zero => exact fun _ _ _ _ _ h_ => absurd h_ (Nat.not_lt_zero _)
  | succ nn_ ih_ =>
    rintro k_ S_ hI_ hF_ ⟨h0_, htt_, hst1_, hop1_, hro_, hz1_, hC_, -⟩ hm_
    have e2_ : S_.1 8 0 2 = S0_.1 8 0 2 := hF_.1 8 0 2 rfl
    have cL_ : 0 ≤ S_.1 8 0 2 ∧ S_.1 8 0 2 ≤ 2356 := hI_.1 8 0 2 rfl
    have k20_ : S_.2.2.1 20 (0 + bb_) = S0_.2.2.1 20 (0 + bb_) := fr_arr hF_ rfl
    refine sm_T_go 2 (c1 := (45, [some (.inr (.inr (some (8, 0)))), some (.inl a1_), some (.inl a2_), none, some (.inl k_), none], [.inr (.inr (some (8, 0))), .inl k_], S_)) rfl ?_
    refine sm_T_gr rfl rfl ((hF_.2.1 8 0 0 rfl).trans hb_) ?_
    refine sm_T_go 2 (c1 := (52, [some (.inr (.inr (some (8, 0)))), some (.inl a1_), some (.inl a2_), none, some (.inl k_), none], [.inl a1_, .inr (.inr (some (20, (0 + bb_)))), .inl k_], S_)) rfl ?_
    refine sm_T_iald (n := 162) rfl rfl (by omega) (by omega) ?_
    have bx1_ : 0 ≤ S_.2.2.1 20 (0 + bb_) a1_.toNat ∧ S_.2.2.1 20 (0 + bb_) a1_.toNat ≤ 652 := hI_.2 20 (0 + bb_) _
    refine sm_T_br (a := 3) (z := 47) rfl (fun cx2_ => ?_) (fun cx2_ => ?_)
    · have cx2_ : (S_.2.2.1 20 (0 + bb_) a1_.toNat) ≤ k_ := of_decide_eq_true cx2_
      refine sm_T_go 1 (c1 := (101, [some (.inr (.inr (some (8, 0)))), some (.inl a1_), some (.inl a2_), none, some (.inl k_), none], [.inl 1], S_)) rfl ?_
      refine sm_T_rz rfl (by omega) ⟨_, _, rfl, _, rfl, hI_, hF_, ?_⟩
      refine ⟨hC_, ?_⟩
      exact ⟨by omega, hst1_, hop1_, hro_⟩
    · have cx2_ : ¬ ((S_.2.2.1 20 (0 + bb_) a1_.toNat) ≤ k_) := of_decide_eq_false cx2_
      refine sm_T_go 3 (c1 := (59, [some (.inr (.inr (some (8, 0)))), some (.inl a1_), some (.inl a2_), none, some (.inl k_), none], [.inl (-1), .inl a1_, .inr (.inr (some (8, 0)))], S_)) rfl ?_
      refine sm_T_cal (d1 := 2) (Q1 := vq_158 a1_ (-1) bb_ S_) rfl rfl (by decide) (vc_158 a1_ (-1) bb_ S_ hI_ (by exact (hF_.2.1 8 0 0 rfl).trans hb_) (by omega) (by exact bpn_fr hn_ hF_ rfl rfl rfl rfl) (by exact rpt_fr hp_ hF_)) (fun u_ Sx3_ px6_ => ?_)
      obtain ⟨rfl, vx8_, rfl, px6_⟩ := px6_
      refine sm_T_go 1 (c1 := (63, [some (.inr (.inr (some (8, 0)))), some (.inl a1_), some (.inl a2_), none, some (.inl k_), none], [.inl (-1), .inl vx8_], S_)) rfl ?_
      refine sm_T_br (a := 0) (z := 37) rfl (fun cx9_ => ?_) (fun cx9_ => ?_)
      · have cx9_ : vx8_ = (-1) := of_decide_eq_true cx9_
        refine sm_T_go 1 (c1 := (101, [some (.inr (.inr (some (8, 0)))), some (.inl a1_), some (.inl a2_), none, some (.inl k_), none], [.inl 1], S_)) rfl ?_
        refine sm_T_rz rfl (by omega) ⟨_, _, rfl, _, rfl, hI_, hF_, ?_⟩
        refine ⟨hC_, ?_⟩
        exact ⟨by omega, hst1_, hop1_, hro_⟩
      · have cx9_ : ¬ (vx8_ = (-1)) := of_decide_eq_false cx9_
        refine sm_T_go 3 (c1 := (69, [some (.inr (.inr (some (8, 0)))), some (.inl a1_), some (.inl a2_), none, some (.inl k_), none], [.inl a2_, .inl a1_, .inr (.inr (some (8, 0)))], S_)) rfl ?_
        refine sm_T_cal (d1 := 3) (Q1 := vq_161 a1_ a2_ bb_ S_) rfl rfl (by decide) (vc_161 a1_ a2_ bb_ S_ hI_ (by exact (hF_.2.1 8 0 0 rfl).trans hb_) (by exact rgw_fr hg_ hF_) (by omega) (by exact bpn_fr hn_ hF_ rfl rfl rfl rfl) (by exact rpt_fr hp_ hF_) (by exact htt_)) (fun u_ Sx10_ px13_ => ?_)
        obtain ⟨vx15_, rfl, hIx11_, hFx12_, px13_⟩ := px13_
        have hFx14_ : ai_fr (sx_W vw_157) S0_ Sx10_ := ai_fr_tr hF_ (fr_le hFx12_ rfl)
        have hCx16_ : cdf bb_ S0_ Sx10_ := cdf_tr hC_ (cdf_fr hFx12_ rfl)
        have s9_ := px13_
        have f2_ := hFx12_.1 8 0 2 rfl
        have f22_ : Sx10_.2.2.1 22 (0 + bb_) = S_.2.2.1 22 (0 + bb_) := fr_arr hFx12_ rfl
        have f23_ : Sx10_.2.2.1 23 (0 + bb_) = S_.2.2.1 23 (0 + bb_) := fr_arr hFx12_ rfl
        have f24_ : Sx10_.2.2.1 24 (0 + bb_) = S_.2.2.1 24 (0 + bb_) := fr_arr hFx12_ rfl
        have f90_ : Sx10_.2.2.1 90 0 = S_.2.2.1 90 0 := fr_arr hFx12_ rfl
        have f11_ := hFx12_.1 8 0 11 rfl
        have t9_ := trt_cg htt_ f2_ f11_ f90_ (fun p_ => by rw [f22_])
        have b9_ := bst_cg hst1_ f22_ f23_
        have o9_ := ropn_cg hop1_ f2_ f22_ f24_
        have z9_ : Sx10_.2.2.1 24 (0 + bb_) a1_.toNat = 0 := by (rw [f24_]; exact hz1_)
        have r9_ : rot bb_ a1_ S0_ Sx10_ := by (intro p_; rw [f22_]; exact hro_ p_)
        refine sm_T_go 3 (c1 := (77, [some (.inr (.inr (some (8, 0)))), some (.inl a1_), some (.inl a2_), none, some (.inl k_), some (.inl vx15_)], [.inl (-1), .inl vx15_], Sx10_)) rfl ?_
        refine sm_T_br (a := 1) (z := 10) rfl (fun cx17_ => ?_) (fun cx17_ => ?_)
        · have cx17_ : vx15_ ≠ (-1) := of_decide_eq_true cx17_
          refine sm_T_go 3 (c1 := (91, [some (.inr (.inr (some (8, 0)))), some (.inl a1_), some (.inl a2_), none, some (.inl k_), some (.inl vx15_)], [.inl a1_, .inl vx15_, .inr (.inr (some (8, 0)))], Sx10_)) rfl ?_
          refine sm_T_cal (d1 := 2) (Q1 := vq_165 vx15_ a1_ bb_ Sx10_) rfl rfl (by decide) (vc_165 vx15_ a1_ bb_ Sx10_ hIx11_ (by exact (hFx14_.2.1 8 0 0 rfl).trans hb_) (by exact rgw_fr hg_ hFx14_) (by (rcases s9_ with u9_ | u9_; (exfalso; omega); exact u9_.1)) (by omega) (by (rcases s9_ with u9_ | u9_; (exfalso; omega); exact u9_.2.1)) (by exact t9_) (by (rcases s9_ with u9_ | u9_; (exfalso; omega); exact u9_.2.2.1)) (by exact b9_) (by exact o9_) (by exact z9_)) (fun u_ Sx18_ px21_ => ?_)
          obtain ⟨rfl, hIx19_, hFx20_, px21_⟩ := px21_
          have hFx22_ : ai_fr (sx_W vw_157) S0_ Sx18_ := ai_fr_tr hFx14_ (fr_le hFx20_ rfl)
          obtain ⟨dx24_, px21_⟩ := px21_
          have hCx23_ : cdf bb_ S0_ Sx18_ := cdf_tr hCx16_ (cdf_cg (by omega) dx24_)
          have w9_ := px21_
          refine sm_T_inc (a := 4) (z := 1) (v := k_) (w := k_ + 1) rfl rfl (by omega) (by omega) (by omega) ?_ -- pc_ 94
          refine sm_T_go 1 (c1 := (42, [some (.inr (.inr (some (8, 0)))), some (.inl a1_), some (.inl a2_), none, some (.inl (k_ + 1)), some (.inl vx15_)], [], Sx18_)) rfl ?_
          refine sm_T_wk [some (.inr (.inr (some (8, 0)))), some (.inl a1_), some (.inl a2_), none, some (.inl (k_ + 1)), none] (by exact ⟨rfl, rfl, rfl, rfl, trivial⟩) ?_
          refine ih_ (k_ + 1) Sx18_ hIx19_ hFx22_ ⟨?_, ?_, ?_, ?_, ?_, ?_, ?_, trivial⟩ ?_
          · omega
          · exact w9_.1
          · exact w9_.2.1
          · exact w9_.2.2.1
          · exact rot_tr r9_ w9_.2.2.2.1
          · exact w9_.2.2.2.2.1
          · exact hCx23_
          · omega
        · have cx17_ : ¬ (vx15_ ≠ (-1)) := of_decide_eq_false cx17_
          refine sm_T_go 2 (c1 := (82, [some (.inr (.inr (some (8, 0)))), some (.inl a1_), some (.inl a2_), none, some (.inl k_), some (.inl vx15_)], [.inl a1_, .inr (.inr (some (8, 0)))], Sx10_)) rfl ?_
          refine sm_T_cal (d1 := 0) (Q1 := vq_159 a1_ bb_ Sx10_) rfl rfl (by decide) (vc_159 a1_ bb_ Sx10_ hIx11_ (by exact (hFx14_.2.1 8 0 0 rfl).trans hb_) (by omega)) (fun u_ Sx25_ px28_ => ?_)
          obtain ⟨rfl, hIx26_, hFx27_, px28_⟩ := px28_
          have hFx29_ : ai_fr (sx_W vw_157) S0_ Sx25_ := ai_fr_tr hFx14_ (fr_le hFx27_ rfl)
          obtain ⟨dx31_, px28_⟩ := px28_
          have hCx30_ : cdf bb_ S0_ Sx25_ := cdf_tr hCx16_ (cdf_cg (by omega) dx31_)
          have l9_ := px28_
          have g2_ := hFx27_.1 8 0 2 rfl
          refine sm_T_go 1 (c1 := (86, [some (.inr (.inr (some (8, 0)))), some (.inl a1_), some (.inl a2_), none, some (.inl k_), some (.inl vx15_)], [.inl 0], Sx25_)) rfl ?_
          refine sm_T_rz rfl (by omega) ⟨_, _, rfl, _, rfl, hIx26_, hFx29_, ?_⟩
          refine ⟨hCx30_, ?_⟩
          exact ⟨by omega, bst_ls b9_ l9_.1, ropn_ls o9_ l9_.1 h1_.1 g2_ l9_.2, rot_ls r9_ l9_.1⟩
set_option maxHeartbeats 3000000 in
theorem vc_157 {sc_ : Nat × (Nat → Int)} (a1_ : Int) (a2_ : Int) (bb_ : Nat) (S0_ : sm_S) (hI_ : gi S0_) (hb_ : S0_.2.1 8 0 0 = some bb_) (hg_ : rgw S0_) (h1_ : 0 ≤ a1_ ∧ a1_ ≤ 161) (hn_ : bpn bb_ S0_) (hp_ : rpt bb_ S0_) (hst_ : bst bb_ S0_) (hop_ : ropn bb_ S0_) (hno_ : ∀ p_ : Nat, (p_ : Int) < 2 * S0_.1 8 0 2 → S0_.2.2.1 22 (0 + bb_) p_ ≠ a1_) (hk1_ : 1 ≤ S0_.2.2.1 20 (0 + bb_) a1_.toNat) : sm_T (mt_P sc_) 4 157 (0, [some (.inr (.inr (some (8, 0)))), some (.inl a1_), some (.inl a2_), none, none, none], [], S0_) (fun ro9_ => ∃ u_ S1_, ro9_ = (.inl u_, S1_, 0) ∧ vq_157 a1_ a2_ bb_ S0_ u_ S1_) := by
  have hF_ : ai_fr (sx_W vw_157) S0_ S0_ := ai_fr_rf
  have hC_ : cdf bb_ S0_ S0_ := cdf_rf
  have cL_ : 0 ≤ S0_.1 8 0 2 ∧ S0_.1 8 0 2 ≤ 2356 := hI_.1 8 0 2 rfl
  refine sm_T_go 3 (c1 := (3, [some (.inr (.inr (some (8, 0)))), some (.inl a1_), some (.inl a2_), none, none, none], [.inl (-1), .inl a1_, .inr (.inr (some (8, 0)))], S0_)) rfl ?_
  refine sm_T_cal (d1 := 2) (Q1 := vq_158 a1_ (-1) bb_ S0_) rfl rfl (by decide) (vc_158 a1_ (-1) bb_ S0_ hI_ (by exact hb_) (by omega) (by exact hn_) (by exact hp_)) (fun u_ Sx1_ px4_ => ?_)
  obtain ⟨rfl, vx6_, rfl, px4_⟩ := px4_
  have n3_ := px4_
  have p3_ := hp_ a1_.toNat (by omega) 0 (by omega)
  have v3_ : (0 ≤ vx6_ ∧ vx6_ < S0_.1 8 0 2) := by (rcases n3_ with u9_ | u9_; (exfalso; rcases u9_.2 0 (by omega) with w9_ | w9_; exact hno_ _ (by omega) w9_; exact w9_.1 rfl); exact u9_.1)
  refine sm_T_go 2 (c1 := (8, [some (.inr (.inr (some (8, 0)))), some (.inl a1_), some (.inl a2_), some (.inl vx6_), none, none], [.inr (.inr (some (8, 0)))], S0_)) rfl ?_
  refine sm_T_gr rfl rfl ((hF_.2.1 8 0 0 rfl).trans hb_) ?_
  refine sm_T_go 3 (c1 := (16, [some (.inr (.inr (some (8, 0)))), some (.inl a1_), some (.inl a2_), some (.inl vx6_), none, none], [.inl 0, .inl a1_, .inr (.inr (some (24, (0 + bb_))))], S0_)) rfl ?_
  refine sm_T_iast (n := 162) rfl rfl (by omega) (by omega) ?_
  have hIx7_ : gi (sm_aI S0_ 24 (0 + bb_) a1_.toNat 0) := gi_aI hI_ (show 0 ≤ 0 ∧ 0 ≤ 1 from ⟨by omega, by omega⟩)
  have hFx8_ : ai_fr (sx_W vw_157) S0_ (sm_aI S0_ 24 (0 + bb_) a1_.toNat 0) := ai_fr_tr hF_ (ai_fr_aI rfl)
  have hCx9_ : cdf bb_ S0_ (sm_aI S0_ 24 (0 + bb_) a1_.toNat 0) := cdf_aI hC_ (Or.inr (by rw [show cof 24 = 0 from rfl] <;> omega))
  refine sm_T_go 1 (c1 := (18, [some (.inr (.inr (some (8, 0)))), some (.inl a1_), some (.inl a2_), some (.inl vx6_), none, none], [.inr (.inr (some (8, 0)))], sm_aI S0_ 24 (0 + bb_) a1_.toNat 0)) rfl ?_
  refine sm_T_gr rfl rfl ((hFx8_.2.1 8 0 0 rfl).trans hb_) ?_
  refine sm_T_go 3 (c1 := (26, [some (.inr (.inr (some (8, 0)))), some (.inl a1_), some (.inl a2_), some (.inl vx6_), none, none], [.inl a1_, .inl vx6_, .inr (.inr (some (22, (0 + bb_))))], sm_aI S0_ 24 (0 + bb_) a1_.toNat 0)) rfl ?_
  refine sm_T_iast (n := 4712) rfl rfl (by omega) (by omega) ?_
  have hIx10_ : gi (sm_aI (sm_aI S0_ 24 (0 + bb_) a1_.toNat 0) 22 (0 + bb_) vx6_.toNat a1_) := gi_aI hIx7_ (show (-1) ≤ a1_ ∧ a1_ ≤ 161 from ⟨by omega, by omega⟩)
  have hFx11_ : ai_fr (sx_W vw_157) S0_ (sm_aI (sm_aI S0_ 24 (0 + bb_) a1_.toNat 0) 22 (0 + bb_) vx6_.toNat a1_) := ai_fr_tr hFx8_ (ai_fr_aI rfl)
  have hCx12_ : cdf bb_ S0_ (sm_aI (sm_aI S0_ 24 (0 + bb_) a1_.toNat 0) 22 (0 + bb_) vx6_.toNat a1_) := cdf_aI hCx9_ (Or.inr (by rw [show cof 22 = 0 from rfl] <;> omega))
  refine sm_T_go 4 (c1 := (33, [some (.inr (.inr (some (8, 0)))), some (.inl a1_), some (.inl a2_), some (.inl vx6_), none, none], [.inl vx6_, .inl 0, .inr (.inr (some (90, 0)))], sm_aI (sm_aI S0_ 24 (0 + bb_) a1_.toNat 0) 22 (0 + bb_) vx6_.toNat a1_)) rfl ?_
  refine sm_T_iast (n := 4712) rfl rfl (by omega) (by omega) ?_
  have hIx13_ : gi (sm_aI (sm_aI (sm_aI S0_ 24 (0 + bb_) a1_.toNat 0) 22 (0 + bb_) vx6_.toNat a1_) 90 0 (0 : Int).toNat vx6_) := gi_aI hIx10_ (show 0 ≤ vx6_ ∧ vx6_ ≤ 4711 from ⟨by omega, by omega⟩)
  have hFx14_ : ai_fr (sx_W vw_157) S0_ (sm_aI (sm_aI (sm_aI S0_ 24 (0 + bb_) a1_.toNat 0) 22 (0 + bb_) vx6_.toNat a1_) 90 0 (0 : Int).toNat vx6_) := ai_fr_tr hFx11_ (ai_fr_aI rfl)
  have hCx15_ : cdf bb_ S0_ (sm_aI (sm_aI (sm_aI S0_ 24 (0 + bb_) a1_.toNat 0) 22 (0 + bb_) vx6_.toNat a1_) 90 0 (0 : Int).toNat vx6_) := cdf_aI hCx12_ (Or.inl rfl)
  have hIx16_ : gi (sm_pI (sm_aI (sm_aI (sm_aI S0_ 24 (0 + bb_) a1_.toNat 0) 22 (0 + bb_) vx6_.toNat a1_) 90 0 (0 : Int).toNat vx6_) 8 0 11 1) := gi_pI hIx13_ (show 0 ≤ 1 ∧ 1 ≤ 4712 from ⟨by omega, by omega⟩)
  have hFx17_ : ai_fr (sx_W vw_157) S0_ (sm_pI (sm_aI (sm_aI (sm_aI S0_ 24 (0 + bb_) a1_.toNat 0) 22 (0 + bb_) vx6_.toNat a1_) 90 0 (0 : Int).toNat vx6_) 8 0 11 1) := ai_fr_tr hFx14_ (ai_fr_pI rfl)
  have hCx18_ : cdf bb_ S0_ (sm_pI (sm_aI (sm_aI (sm_aI S0_ 24 (0 + bb_) a1_.toNat 0) 22 (0 + bb_) vx6_.toNat a1_) 90 0 (0 : Int).toNat vx6_) 8 0 11 1) := cdf_pI hCx15_ (Or.inl rfl)
  refine sm_T_go 5 (c1 := (42, [some (.inr (.inr (some (8, 0)))), some (.inl a1_), some (.inl a2_), some (.inl vx6_), some (.inl 1), none], [], sm_pI (sm_aI (sm_aI (sm_aI S0_ 24 (0 + bb_) a1_.toNat 0) 22 (0 + bb_) vx6_.toNat a1_) 90 0 (0 : Int).toNat vx6_) 8 0 11 1)) rfl ?_
  refine sm_T_wk [some (.inr (.inr (some (8, 0)))), some (.inl a1_), some (.inl a2_), none, some (.inl 1), none] (by exact ⟨rfl, rfl, rfl, rfl, trivial⟩) ?_
  refine (vl_157 a1_ a2_ bb_ S0_ hb_ hg_ h1_ hn_ hp_ hst_ hop_ hno_ hk1_ _) 1 (sm_pI (sm_aI (sm_aI (sm_aI S0_ 24 (0 + bb_) a1_.toNat 0) 22 (0 + bb_) vx6_.toNat a1_) 90 0 (0 : Int).toNat vx6_) 8 0 11 1) hIx16_ hFx17_ ⟨?_, ?_, ?_, ?_, ?_, ?_, ?_, trivial⟩ (Nat.lt_succ_self _)
  · omega
  · exact trt_1 (S_ := S0_) (by first | exact ⟨v3_.1, by show _ < 2 * S0_.1 8 0 2; omega⟩ | omega) hno_ (fun j_ => by rw [rd_fa, rd_ne (by decide), rd_eq, rd_ne (by decide)]) (by rw [rd_fa, rd_eq, if_pos (by decide)]) rfl
  · intro p_ u_ w_
    rw [rd_fa, rd_ne (by decide), rd_ne (by decide), rd_ne (by decide)] at w_
    rw [rd_fa, rd_ne (by decide), rd_eq, rd_ne (by decide)]
    split
    · omega
    · exact hst_ p_ u_ w_
  · intro c_ u_ w_ p_ v_
    rw [rd_fa, rd_ne (by decide), rd_ne (by decide), rd_eq] at w_
    rw [rd_fa, rd_ne (by decide), rd_eq, rd_ne (by decide)]
    by_cases y_ : c_ = a1_.toNat
    · rw [if_pos y_] at w_; exact absurd rfl w_
    · rw [if_neg y_] at w_
      split
      · omega
      · exact hop_ c_ u_ w_ p_ v_
  · intro p_
    rw [rd_fa, rd_ne (by decide), rd_eq, rd_ne (by decide)]
    split
    · right; right; rfl
    · left; rfl
  · (rw [rd_fa, rd_ne (by decide), rd_ne (by decide), rd_eq, if_pos rfl])
  · exact hCx18_
