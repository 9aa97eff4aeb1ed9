/-! a chip is built; written by wip/p55/gen/vg -/

/-! a_ chip is_ built -/
def rtm (dd_ : Nat) (S_ : sm_S) : Prop := ∀ i_ : Int, 0 ≤ i_ → i_ < S_.1 3 dd_ 3 + S_.1 3 dd_ 2 → S_.2.2.1 60 0 (srp dd_ S_ (rtv dd_ S_ i_)) ≠ 0
theorem rtm_of {w_ : sx_Wl} {dd_ : Nat} {S_ S'_ : sm_S} (h_ : ∀ i_ : Int, 0 ≤ i_ → i_ < S_.1 3 dd_ 3 + S_.1 3 dd_ 2 → S'_.2.2.1 60 0 (srp dd_ S_ (rtv dd_ S_ i_)) ≠ 0) (g_ : ai_fr (sx_W w_) S_ S'_) (h2_ : (sx_W w_).1 3 2 = false := by rfl) (h3_ : (sx_W w_).1 3 3 = false := by rfl) (a3_ : (sx_W w_).2.1 44 = false := by rfl) (a4_ : (sx_W w_).2.1 45 = false := by rfl) (a5_ : (sx_W w_).2.1 46 = false := by rfl) : rtm dd_ S'_ := by
  unfold rtm srp rtv at *
  rw [g_.1 3 dd_ 2 h2_, g_.1 3 dd_ 3 h3_, fr_arr g_ a3_, fr_arr g_ a4_, fr_arr g_ a5_]
  exact h_
theorem rtm_fr {w_ : sx_Wl} {dd_ : Nat} {S_ S'_ : sm_S} (h_ : rtm dd_ S_) (g_ : ai_fr (sx_W w_) S_ S'_) (h2_ : (sx_W w_).1 3 2 = false := by rfl) (h3_ : (sx_W w_).1 3 3 = false := by rfl) (a3_ : (sx_W w_).2.1 44 = false := by rfl) (a4_ : (sx_W w_).2.1 45 = false := by rfl) (a5_ : (sx_W w_).2.1 46 = false := by rfl) (a6_ : (sx_W w_).2.1 60 = false := by rfl) : rtm dd_ S'_ :=
  rtm_of (fun i_ a_ b_ => by rw [fr_arr g_ a6_]; exact h_ i_ a_ b_) g_ h2_ h3_ a3_ a4_ a5_
theorem wal_z {f_ n_ : Int} {ll_ : Nat} {S_ : sm_S} (h_ : wal f_ n_ ll_ S_) (h0_ : 0 ≤ n_) (z_ : S_.2.2.1 59 0 n_.toNat = 0) : wal f_ (n_ + 1) ll_ S_ := fun k_ h1_ h2_ h3_ => by
  by_cases e_ : (k_ : Int) = n_
  · rw [show k_ = n_.toNat by omega, z_] at h3_
    exact absurd h3_ (by decide)
  · exact h_ k_ h1_ (by omega) h3_
/-! Mapper.build -/
def vw_91 : sx_Wl := ([(0, 1), (0, 11), (0, 16), (2, 1), (2, 2), (2, 3), (2, 4), (2, 5), (2, 8), (2, 14), (2, 15), (2, 19), (4, 0), (5, 1), (5, 2), (6, 11), (6, 13)], [16, 17, 18, 19, 20, 21, 35, 36, 37, 38, 39, 55, 56, 57, 58, 59, 60, 61, 62, 63, 64, 65, 66, 67, 68, 69, 70, 71, 72, 73], [(6, 0), (6, 1)])
def vq_91 (dd_ : Nat) (ll_ : Nat) (cc_ : Nat) (F_ : Nat) (S0_ : sm_S) (u_ : Option sm_V) (S1_ : sm_S) : Prop := ∃ v_ : Int, u_ = some (.inl v_) ∧ gi S1_ ∧ ai_fr (sx_W vw_91) S0_ S1_ ∧ (cdf cc_ S0_ S1_ ∧ ((v_ = 0 ∧ (S1_.1 2 cc_ 1 = S0_.1 3 dd_ 1 ∧ S1_.1 2 cc_ 2 = S0_.1 3 dd_ 2 ∧ S1_.1 2 cc_ 3 = S0_.1 3 dd_ 3 ∧ S1_.1 2 cc_ 4 = S0_.1 3 dd_ 5 ∧ S1_.1 2 cc_ 5 = S0_.1 3 dd_ 5) ∧ bpn (0 + cc_) S1_ ∧ bpp (0 + cc_) cc_ S1_ ∧ S1_.1 0 (0 + cc_) 1 = 0 ∧ S1_.1 0 (0 + cc_) 11 = 0 ∧ S1_.1 4 (0 + (0 + cc_)) 0 = 0) ∨ v_ = -1 ∨ v_ = -2))
set_option maxHeartbeats 4000000 in
theorem vl_91 {sc_ : Nat × (Nat → Int)} (dd_ : Nat) (ll_ : Nat) (cc_ : Nat) (F_ : Nat) (S0_ : sm_S) (hok_ : dOk dd_ S0_) (hg_ : dgr dd_ F_ S0_) (hr_ : drt dd_ S0_) (hs_ : swp dd_ F_ S0_) (hl_ : ll_ < 3) : ∀ nn_ : Nat, (∀ (n_ : Int) (S_ : sm_S), gi S_ → ai_fr (sx_W vw_91) S0_ S_ → (((F_ : Int) ≤ n_ ∧ n_ ≤ S0_.1 3 dd_ 4) ∧ (S_.2.1 6 0 0 = some dd_) ∧ (S_.2.1 6 0 1 = some ll_) ∧ (mkd dd_ F_ S_ (S_.2.2.1 59 0)) ∧ (rtm dd_ S_) ∧ (wal (1 + S0_.1 3 dd_ 1 + S0_.1 3 dd_ 2) n_ ll_ S_) ∧ (cdf cc_ S0_ S_) ∧ True) → ((9000 - n_).toNat) < nn_ → sm_T (mt_P sc_) 6 91 (39, [some (.inr (.inr (some (6, 0)))), some (.inr (.inr (some (3, dd_)))), some (.inr (.inr (some (5, ll_)))), some (.inr (.inr (some (2, cc_)))), some (.inl n_)], [], S_) (fun ro9_ => ∃ u_ S1_, ro9_ = (.inl u_, S1_, 0) ∧ vq_91 dd_ ll_ cc_ F_ S0_ u_ S1_)) := by
  intro nn_
  induction nn_ with
  | zero => exact fun _ _ _ _ _ h_ => absurd h_ (Nat.not_lt_zero _)
  | succ nn_ ih_ =>
    rintro n_ S_ hI_ hF_ ⟨h0_, htk_, htk2_, hk_, hrr_, hwl_, hC_, -⟩ hm_
    have f1_ : S_.1 3 dd_ 1 = S0_.1 3 dd_ 1 := hF_.1 3 dd_ 1 rfl
    have f2_ : S_.1 3 dd_ 2 = S0_.1 3 dd_ 2 := hF_.1 3 dd_ 2 rfl
    have f3_ : S_.1 3 dd_ 3 = S0_.1 3 dd_ 3 := hF_.1 3 dd_ 3 rfl
    have f4_ : S_.1 3 dd_ 4 = S0_.1 3 dd_ 4 := hF_.1 3 dd_ 4 rfl
    have f6_ : S_.1 3 dd_ 5 = S0_.1 3 dd_ 5 := hF_.1 3 dd_ 5 rfl
    have g1_ := hg_.1
    have g2_ := hg_.2.1
    have cN_ : 0 ≤ S_.1 3 dd_ 4 ∧ S_.1 3 dd_ 4 ≤ 1013 := hI_.1 3 dd_ 4 rfl
    refine sm_T_go 2 (c1 := (42, [some (.inr (.inr (some (6, 0)))), some (.inr (.inr (some (3, dd_)))), some (.inr (.inr (some (5, ll_)))), some (.inr (.inr (some (2, cc_)))), some (.inl n_)], [.inr (.inr (some (6, 0))), .inl n_], S_)) rfl ?_
    refine sm_T_gr rfl rfl htk_ ?_
    have bx1_ : 0 ≤ S_.1 3 dd_ 4 ∧ S_.1 3 dd_ 4 ≤ 1013 := hI_.1 3 dd_ 4 rfl
    refine sm_T_go 1 (c1 := (48, [some (.inr (.inr (some (6, 0)))), some (.inr (.inr (some (3, dd_)))), some (.inr (.inr (some (5, ll_)))), some (.inr (.inr (some (2, cc_)))), some (.inl n_)], [.inl (S_.1 3 dd_ 4), .inl n_], S_)) rfl ?_
    refine sm_T_br (a := 3) (z := 51) rfl (fun cx2_ => ?_) (fun cx2_ => ?_)
    · have cx2_ : (S_.1 3 dd_ 4) ≤ n_ := of_decide_eq_true cx2_
      have W9_ : wal (1 + S0_.1 3 dd_ 1 + S0_.1 3 dd_ 2) (S_.1 3 dd_ 4) ll_ S_ := by (rw [f4_, show S0_.1 3 dd_ 4 = n_ by omega]; exact hwl_)
      refine sm_T_go 1 (c1 := (100, [some (.inr (.inr (some (6, 0)))), some (.inr (.inr (some (3, dd_)))), some (.inr (.inr (some (5, ll_)))), some (.inr (.inr (some (2, cc_)))), some (.inl n_)], [.inr (.inr (some (6, 0)))], S_)) rfl ?_
      refine sm_T_gr rfl rfl htk2_ ?_
      have bx3_ : (-1) ≤ S_.1 5 ll_ 2 ∧ S_.1 5 ll_ 2 ≤ 11 := hI_.1 5 ll_ 2 rfl
      refine sm_T_go 2 (c1 := (107, [some (.inr (.inr (some (6, 0)))), some (.inr (.inr (some (3, dd_)))), some (.inr (.inr (some (5, ll_)))), some (.inr (.inr (some (2, cc_)))), some (.inl n_)], [.inl (-1), .inl (S_.1 5 ll_ 2)], S_)) rfl ?_
      refine sm_T_br (a := 1) (z := 12) rfl (fun cx4_ => ?_) (fun cx4_ => ?_)
      · have cx4_ : (S_.1 5 ll_ 2) ≠ (-1) := of_decide_eq_true cx4_
        have R9_ : rgt dd_ ll_ S_ := rgt_of (dgr_fr hg_ hF_ rfl rfl rfl rfl rfl) (drt_fr hr_ hF_ rfl rfl rfl rfl rfl) (swp_fr hs_ hF_ rfl rfl rfl rfl) hk_ (by omega) hrr_ (by rw [f1_, f2_]; exact W9_) (Or.inl (by omega))
        refine sm_T_go 2 (c1 := (121, [some (.inr (.inr (some (6, 0)))), some (.inr (.inr (some (3, dd_)))), some (.inr (.inr (some (5, ll_)))), some (.inr (.inr (some (2, cc_)))), some (.inl n_)], [.inr (.inr (some (6, 0))), .inr (.inr (some (2, cc_)))], S_)) rfl ?_
        refine sm_T_gr rfl rfl htk_ ?_
        refine sm_T_go 1 (c1 := (125, [some (.inr (.inr (some (6, 0)))), some (.inr (.inr (some (3, dd_)))), some (.inr (.inr (some (5, ll_)))), some (.inr (.inr (some (2, cc_)))), some (.inl n_)], [.inr (.inr (some (6, 0))), .inr (.inr (some (3, dd_))), .inr (.inr (some (2, cc_)))], S_)) rfl ?_
        refine sm_T_gr rfl rfl htk2_ ?_
        refine sm_T_cal (d1 := 1) (Q1 := vq_53 cc_ dd_ ll_ S_) rfl rfl (by decide) (vc_53 cc_ dd_ ll_ S_ hI_ (by exact dOk_fr hok_ hF_ (by decide) (by decide))) (fun u_ Sx5_ px8_ => ?_)
        obtain ⟨rfl, hIx6_, hFx7_, px8_⟩ := px8_
        have hFx9_ : ai_fr (sx_W vw_91) S0_ Sx5_ := ai_fr_tr hF_ (fr_le hFx7_ rfl)
        obtain ⟨dx11_, px8_⟩ := px8_
        have hCx10_ : cdf cc_ S0_ Sx5_ := cdf_tr hC_ (cdf_cg (by omega) dx11_)
        have tx12_ : Sx5_.2.1 6 0 1 = some ll_ := (hFx7_.2.1 6 0 1 rfl).trans htk2_
        have tx13_ : Sx5_.2.1 6 0 0 = some dd_ := (hFx7_.2.1 6 0 0 rfl).trans htk_
        have ex14_ : Sx5_.1 3 dd_ 4 = S_.1 3 dd_ 4 := hFx7_.1 3 dd_ 4 rfl
        have c128_ := px8_
        have g128_ := hFx7_
        refine sm_T_go 2 (c1 := (133, [some (.inr (.inr (some (6, 0)))), some (.inr (.inr (some (3, dd_)))), some (.inr (.inr (some (5, ll_)))), some (.inr (.inr (some (2, cc_)))), some (.inl n_)], [.inr (.inr (some (2, cc_))), .inr (.inr (some (6, 0)))], Sx5_)) rfl ?_
        refine sm_T_cal (d1 := 5) (Q1 := vq_109 dd_ ll_ cc_ Sx5_) rfl rfl (by decide) (vc_109 dd_ ll_ cc_ Sx5_ hIx6_ (by exact tx13_) (by exact tx12_) (by (rw [g128_.1 3 dd_ 1 rfl, g128_.1 3 dd_ 2 rfl, g128_.1 3 dd_ 4 rfl, f1_, f2_]; exact wal_cd W9_ g128_ hC_ hCx10_ hl_)) (by omega) (by exact drt_fr hr_ hFx9_ rfl rfl rfl rfl rfl) (by (rw [g128_.1 3 dd_ 1 rfl, g128_.1 3 dd_ 2 rfl]; omega)) (by exact rgt_cd R9_ g128_ hC_ hCx10_ hl_)) (fun u_ Sx15_ px18_ => ?_)
        obtain ⟨vx20_, rfl, hIx16_, hFx17_, px18_⟩ := px18_
        have hFx19_ : ai_fr (sx_W vw_91) S0_ Sx15_ := ai_fr_tr hFx9_ (fr_le hFx17_ rfl)
        obtain ⟨dx22_, px18_⟩ := px18_
        have hCx21_ : cdf cc_ S0_ Sx15_ := cdf_tr hCx10_ (cdf_cg (by omega) dx22_)
        have tx23_ : Sx15_.2.1 6 0 1 = some ll_ := (hFx17_.2.1 6 0 1 rfl).trans tx12_
        have tx24_ : Sx15_.2.1 6 0 0 = some dd_ := (hFx17_.2.1 6 0 0 rfl).trans tx13_
        have v133_ := px18_
        have d1_ := hFx17_.1 2 cc_ 1 rfl
        have d2_ := hFx17_.1 2 cc_ 2 rfl
        have d3_ := hFx17_.1 2 cc_ 3 rfl
        have d4_ := hFx17_.1 2 cc_ 4 rfl
        have d5_ := hFx17_.1 2 cc_ 5 rfl
        refine sm_T_b0 (a := 1) (z := 6) rfl (fun cx25_ => ?_) (fun cx25_ => ?_)
        · have cx25_ : vx20_ ≠ 0 := of_decide_eq_true cx25_
          refine sm_T_go 3 (c1 := (147, [some (.inr (.inr (some (6, 0)))), some (.inr (.inr (some (3, dd_)))), some (.inr (.inr (some (5, ll_)))), some (.inr (.inr (some (2, cc_)))), some (.inl n_)], [.inr (.inr (some (2, cc_))), .inr (.inr (some (0, (0 + cc_))))], Sx15_)) rfl ?_
          refine sm_T_cal (d1 := 2) (Q1 := vq_11 (0 + cc_) cc_ Sx15_) rfl rfl (by decide) (vc_11 (0 + cc_) cc_ Sx15_ hIx16_ (by omega)) (fun u_ Sx26_ px29_ => ?_)
          obtain ⟨rfl, hIx27_, hFx28_, px29_⟩ := px29_
          have hFx30_ : ai_fr (sx_W vw_91) S0_ Sx26_ := ai_fr_tr hFx19_ (fr_le hFx28_ rfl)
          obtain ⟨dx32_, px29_⟩ := px29_
          have hCx31_ : cdf cc_ S0_ Sx26_ := cdf_tr hCx21_ (cdf_cg (by omega) dx32_)
          have tx33_ : Sx26_.2.1 6 0 1 = some ll_ := (hFx28_.2.1 6 0 1 rfl).trans tx23_
          have tx34_ : Sx26_.2.1 6 0 0 = some dd_ := (hFx28_.2.1 6 0 0 rfl).trans tx24_
          have b147_ := px29_
          have x1_ := hFx28_.1 2 cc_ 1 rfl
          have x2_ := hFx28_.1 2 cc_ 2 rfl
          have x3_ := hFx28_.1 2 cc_ 3 rfl
          have x4_ := hFx28_.1 2 cc_ 4 rfl
          have x5_ := hFx28_.1 2 cc_ 5 rfl
          refine sm_T_go 1 (c1 := (151, [some (.inr (.inr (some (6, 0)))), some (.inr (.inr (some (3, dd_)))), some (.inr (.inr (some (5, ll_)))), some (.inr (.inr (some (2, cc_)))), some (.inl n_)], [.inl 0], Sx26_)) rfl ?_
          refine sm_T_ri rfl ⟨_, _, rfl, _, rfl, hIx27_, hFx30_, ?_⟩
          refine ⟨hCx31_, ?_⟩
          left
          exact ⟨rfl, by omega, b147_⟩
        · have cx25_ : ¬ (vx20_ ≠ 0) := of_decide_eq_false cx25_
          refine sm_T_go 1 (c1 := (141, [some (.inr (.inr (some (6, 0)))), some (.inr (.inr (some (3, dd_)))), some (.inr (.inr (some (5, ll_)))), some (.inr (.inr (some (2, cc_)))), some (.inl n_)], [.inl (-2)], Sx15_)) rfl ?_
          refine sm_T_ri rfl ⟨_, _, rfl, _, rfl, hIx16_, hFx19_, ?_⟩
          refine ⟨hCx21_, ?_⟩
          right; right; rfl
      · have cx4_ : ¬ ((S_.1 5 ll_ 2) ≠ (-1)) := of_decide_eq_false cx4_
        refine sm_T_go 1 (c1 := (111, [some (.inr (.inr (some (6, 0)))), some (.inr (.inr (some (3, dd_)))), some (.inr (.inr (some (5, ll_)))), some (.inr (.inr (some (2, cc_)))), some (.inl n_)], [.inr (.inr (some (6, 0)))], S_)) rfl ?_
        refine sm_T_cal (d1 := 1) (Q1 := vq_96 dd_ S_) rfl rfl (by decide) (vc_96 dd_ S_ hI_ (by exact htk_) (by exact drt_fr hr_ hF_ rfl rfl rfl rfl rfl)) (fun u_ Sx35_ px38_ => ?_)
        obtain ⟨rfl, vx40_, rfl, px38_⟩ := px38_
        have w111_ := px38_.2
        refine sm_T_b0 (a := 0) (z := 5) rfl (fun cx41_ => ?_) (fun cx41_ => ?_)
        · have cx41_ : vx40_ = 0 := of_decide_eq_true cx41_
          have R9_ : rgt dd_ ll_ S_ := rgt_of (dgr_fr hg_ hF_ rfl rfl rfl rfl rfl) (drt_fr hr_ hF_ rfl rfl rfl rfl rfl) (swp_fr hs_ hF_ rfl rfl rfl rfl) hk_ (by omega) hrr_ (by rw [f1_, f2_]; exact W9_) (Or.inr (w111_ (by omega)))
          refine sm_T_go 2 (c1 := (121, [some (.inr (.inr (some (6, 0)))), some (.inr (.inr (some (3, dd_)))), some (.inr (.inr (some (5, ll_)))), some (.inr (.inr (some (2, cc_)))), some (.inl n_)], [.inr (.inr (some (6, 0))), .inr (.inr (some (2, cc_)))], S_)) rfl ?_
          refine sm_T_gr rfl rfl htk_ ?_
          refine sm_T_go 1 (c1 := (125, [some (.inr (.inr (some (6, 0)))), some (.inr (.inr (some (3, dd_)))), some (.inr (.inr (some (5, ll_)))), some (.inr (.inr (some (2, cc_)))), some (.inl n_)], [.inr (.inr (some (6, 0))), .inr (.inr (some (3, dd_))), .inr (.inr (some (2, cc_)))], S_)) rfl ?_
          refine sm_T_gr rfl rfl htk2_ ?_
          refine sm_T_cal (d1 := 1) (Q1 := vq_53 cc_ dd_ ll_ S_) rfl rfl (by decide) (vc_53 cc_ dd_ ll_ S_ hI_ (by exact dOk_fr hok_ hF_ (by decide) (by decide))) (fun u_ Sx42_ px45_ => ?_)
          obtain ⟨rfl, hIx43_, hFx44_, px45_⟩ := px45_
          have hFx46_ : ai_fr (sx_W vw_91) S0_ Sx42_ := ai_fr_tr hF_ (fr_le hFx44_ rfl)
          obtain ⟨dx48_, px45_⟩ := px45_
          have hCx47_ : cdf cc_ S0_ Sx42_ := cdf_tr hC_ (cdf_cg (by omega) dx48_)
          have tx49_ : Sx42_.2.1 6 0 1 = some ll_ := (hFx44_.2.1 6 0 1 rfl).trans htk2_
          have tx50_ : Sx42_.2.1 6 0 0 = some dd_ := (hFx44_.2.1 6 0 0 rfl).trans htk_
          have ex51_ : Sx42_.1 3 dd_ 4 = S_.1 3 dd_ 4 := hFx44_.1 3 dd_ 4 rfl
          have c128_ := px45_
          have g128_ := hFx44_
          refine sm_T_go 2 (c1 := (133, [some (.inr (.inr (some (6, 0)))), some (.inr (.inr (some (3, dd_)))), some (.inr (.inr (some (5, ll_)))), some (.inr (.inr (some (2, cc_)))), some (.inl n_)], [.inr (.inr (some (2, cc_))), .inr (.inr (some (6, 0)))], Sx42_)) rfl ?_
          refine sm_T_cal (d1 := 5) (Q1 := vq_109 dd_ ll_ cc_ Sx42_) rfl rfl (by decide) (vc_109 dd_ ll_ cc_ Sx42_ hIx43_ (by exact tx50_) (by exact tx49_) (by (rw [g128_.1 3 dd_ 1 rfl, g128_.1 3 dd_ 2 rfl, g128_.1 3 dd_ 4 rfl, f1_, f2_]; exact wal_cd W9_ g128_ hC_ hCx47_ hl_)) (by omega) (by exact drt_fr hr_ hFx46_ rfl rfl rfl rfl rfl) (by (rw [g128_.1 3 dd_ 1 rfl, g128_.1 3 dd_ 2 rfl]; omega)) (by exact rgt_cd R9_ g128_ hC_ hCx47_ hl_)) (fun u_ Sx52_ px55_ => ?_)
          obtain ⟨vx57_, rfl, hIx53_, hFx54_, px55_⟩ := px55_
          have hFx56_ : ai_fr (sx_W vw_91) S0_ Sx52_ := ai_fr_tr hFx46_ (fr_le hFx54_ rfl)
          obtain ⟨dx59_, px55_⟩ := px55_
          have hCx58_ : cdf cc_ S0_ Sx52_ := cdf_tr hCx47_ (cdf_cg (by omega) dx59_)
          have tx60_ : Sx52_.2.1 6 0 1 = some ll_ := (hFx54_.2.1 6 0 1 rfl).trans tx49_
          have tx61_ : Sx52_.2.1 6 0 0 = some dd_ := (hFx54_.2.1 6 0 0 rfl).trans tx50_
          have v133_ := px55_
          have d1_ := hFx54_.1 2 cc_ 1 rfl
          have d2_ := hFx54_.1 2 cc_ 2 rfl
          have d3_ := hFx54_.1 2 cc_ 3 rfl
          have d4_ := hFx54_.1 2 cc_ 4 rfl
          have d5_ := hFx54_.1 2 cc_ 5 rfl
          refine sm_T_b0 (a := 1) (z := 6) rfl (fun cx62_ => ?_) (fun cx62_ => ?_)
          · have cx62_ : vx57_ ≠ 0 := of_decide_eq_true cx62_
            refine sm_T_go 3 (c1 := (147, [some (.inr (.inr (some (6, 0)))), some (.inr (.inr (some (3, dd_)))), some (.inr (.inr (some (5, ll_)))), some (.inr (.inr (some (2, cc_)))), some (.inl n_)], [.inr (.inr (some (2, cc_))), .inr (.inr (some (0, (0 + cc_))))], Sx52_)) rfl ?_
            refine sm_T_cal (d1 := 2) (Q1 := vq_11 (0 + cc_) cc_ Sx52_) rfl rfl (by decide) (vc_11 (0 + cc_) cc_ Sx52_ hIx53_ (by omega)) (fun u_ Sx63_ px66_ => ?_)
            obtain ⟨rfl, hIx64_, hFx65_, px66_⟩ := px66_
            have hFx67_ : ai_fr (sx_W vw_91) S0_ Sx63_ := ai_fr_tr hFx56_ (fr_le hFx65_ rfl)
            obtain ⟨dx69_, px66_⟩ := px66_
            have hCx68_ : cdf cc_ S0_ Sx63_ := cdf_tr hCx58_ (cdf_cg (by omega) dx69_)
            have tx70_ : Sx63_.2.1 6 0 1 = some ll_ := (hFx65_.2.1 6 0 1 rfl).trans tx60_
            have tx71_ : Sx63_.2.1 6 0 0 = some dd_ := (hFx65_.2.1 6 0 0 rfl).trans tx61_
            have b147_ := px66_
            have x1_ := hFx65_.1 2 cc_ 1 rfl
            have x2_ := hFx65_.1 2 cc_ 2 rfl
            have x3_ := hFx65_.1 2 cc_ 3 rfl
            have x4_ := hFx65_.1 2 cc_ 4 rfl
            have x5_ := hFx65_.1 2 cc_ 5 rfl
            refine sm_T_go 1 (c1 := (151, [some (.inr (.inr (some (6, 0)))), some (.inr (.inr (some (3, dd_)))), some (.inr (.inr (some (5, ll_)))), some (.inr (.inr (some (2, cc_)))), some (.inl n_)], [.inl 0], Sx63_)) rfl ?_
            refine sm_T_ri rfl ⟨_, _, rfl, _, rfl, hIx64_, hFx67_, ?_⟩
            refine ⟨hCx68_, ?_⟩
            left
            exact ⟨rfl, by omega, b147_⟩
          · have cx62_ : ¬ (vx57_ ≠ 0) := of_decide_eq_false cx62_
            refine sm_T_go 1 (c1 := (141, [some (.inr (.inr (some (6, 0)))), some (.inr (.inr (some (3, dd_)))), some (.inr (.inr (some (5, ll_)))), some (.inr (.inr (some (2, cc_)))), some (.inl n_)], [.inl (-2)], Sx52_)) rfl ?_
            refine sm_T_ri rfl ⟨_, _, rfl, _, rfl, hIx53_, hFx56_, ?_⟩
            refine ⟨hCx58_, ?_⟩
            right; right; rfl
        · have cx41_ : ¬ (vx40_ = 0) := of_decide_eq_false cx41_
          refine sm_T_go 1 (c1 := (118, [some (.inr (.inr (some (6, 0)))), some (.inr (.inr (some (3, dd_)))), some (.inr (.inr (some (5, ll_)))), some (.inr (.inr (some (2, cc_)))), some (.inl n_)], [.inl (-1)], S_)) rfl ?_
          refine sm_T_ri rfl ⟨_, _, rfl, _, rfl, hI_, hF_, ?_⟩
          refine ⟨hC_, ?_⟩
          right; left; rfl
    · have cx2_ : ¬ ((S_.1 3 dd_ 4) ≤ n_) := of_decide_eq_false cx2_
      refine sm_T_go 3 (c1 := (57, [some (.inr (.inr (some (6, 0)))), some (.inr (.inr (some (3, dd_)))), some (.inr (.inr (some (5, ll_)))), some (.inr (.inr (some (2, cc_)))), some (.inl n_)], [.inl n_, .inr (.inr (some (59, 0)))], S_)) rfl ?_
      refine sm_T_iald (n := 1013) rfl rfl (by omega) (by omega) ?_
      have bx72_ : 0 ≤ S_.2.2.1 59 0 n_.toNat ∧ S_.2.2.1 59 0 n_.toNat ≤ 1 := hI_.2 59 0 _
      refine sm_T_b0 (a := 0) (z := 35) rfl (fun cx73_ => ?_) (fun cx73_ => ?_)
      · have cx73_ : (S_.2.2.1 59 0 n_.toNat) = 0 := of_decide_eq_true cx73_
        refine sm_T_inc (a := 4) (z := 1) (v := n_) (w := n_ + 1) rfl rfl (by omega) (by omega) (by omega) ?_ -- pc_ 93
        refine sm_T_go 1 (c1 := (39, [some (.inr (.inr (some (6, 0)))), some (.inr (.inr (some (3, dd_)))), some (.inr (.inr (some (5, ll_)))), some (.inr (.inr (some (2, cc_)))), some (.inl (n_ + 1))], [], S_)) rfl ?_
        refine ih_ (n_ + 1) S_ hI_ hF_ ⟨?_, ?_, ?_, ?_, ?_, ?_, ?_, trivial⟩ ?_
        · omega
        · exact htk_
        · exact htk2_
        · first | exact hk_ | exact m64_
        · first | exact hrr_ | exact r64_
        · first | exact wal_z hwl_ (by omega) (by omega) | exact w64_ (Or.inl (by omega)) | exact w64_ (Or.inr (by omega)) | exact w64_ (Or.inr (by rw [← t64_]; omega))
        · exact hC_
        · omega
      · have cx73_ : ¬ ((S_.2.2.1 59 0 n_.toNat) = 0) := of_decide_eq_false cx73_
        refine sm_T_go 2 (c1 := (64, [some (.inr (.inr (some (6, 0)))), some (.inr (.inr (some (3, dd_)))), some (.inr (.inr (some (5, ll_)))), some (.inr (.inr (some (2, cc_)))), some (.inl n_)], [.inl n_, .inr (.inr (some (6, 0)))], S_)) rfl ?_
        refine sm_T_cal (d1 := 4) (Q1 := vq_99 n_ dd_ F_ ll_ S_) rfl rfl (by decide) (vc_99 n_ dd_ F_ ll_ S_ hI_ (by exact htk_) (by exact htk2_) (by exact dgr_fr hg_ hF_ rfl rfl rfl rfl rfl) (by exact swp_fr hs_ hF_ rfl rfl rfl rfl) (by exact hk_) (by omega) (by omega)) (fun u_ Sx74_ px77_ => ?_)
        obtain ⟨rfl, hIx75_, hFx76_, px77_⟩ := px77_
        have hFx78_ : ai_fr (sx_W vw_91) S0_ Sx74_ := ai_fr_tr hF_ (fr_le hFx76_ rfl)
        have hCx79_ : cdf cc_ S0_ Sx74_ := cdf_tr hC_ (cdf_fr hFx76_ rfl)
        have tx80_ : Sx74_.2.1 6 0 1 = some ll_ := (hFx76_.2.1 6 0 1 rfl).trans htk2_
        have tx81_ : Sx74_.2.1 6 0 0 = some dd_ := (hFx76_.2.1 6 0 0 rfl).trans htk_
        have ex82_ : Sx74_.1 3 dd_ 4 = S_.1 3 dd_ 4 := hFx76_.1 3 dd_ 4 rfl
        have p64_ := px77_
        rw [f1_, f2_] at p64_
        have e64_ : ((n_.toNat : Nat) : Int) = n_ := by omega
        have w64_ : (Sx74_.2.2.1 60 0 n_.toNat = 0 ∨ Sx74_.2.2.1 61 0 (2 * n_.toNat) < 268435456) → wal (1 + S0_.1 3 dd_ 1 + S0_.1 3 dd_ 2) (n_ + 1) ll_ Sx74_ := fun z9_ => by (have y9_ := wal_s (n_ := n_.toNat) (by rw [e64_]; exact hwl_) p64_.2.2 (by rw [e64_, show 2 * n_.toNat = (2 * n_).toNat by omega, show (2 * n_).toNat + 1 = (2 * n_ + 1).toNat by omega]; exact p64_.1) (by rw [e64_, show 2 * n_.toNat = (2 * n_).toNat by omega, show (2 * n_).toNat + 1 = (2 * n_ + 1).toNat by omega]; exact p64_.2.1) (fun k9_ => (hI_.2 55 (0 + ll_) k9_).2) (fr_arr hFx76_ rfl) (fr_arr hFx76_ rfl) (fr_arr hFx76_ rfl) (hFx76_.1 5 ll_ 2 rfl) z9_; rw [e64_] at y9_; exact y9_)
        have m64_ := mkd_fr hk_ hFx76_
        have r64_ := rtm_fr hrr_ hFx76_
        have t64_ : (2 * n_).toNat = 2 * n_.toNat := by omega
        refine sm_T_go 3 (c1 := (73, [some (.inr (.inr (some (6, 0)))), some (.inr (.inr (some (3, dd_)))), some (.inr (.inr (some (5, ll_)))), some (.inr (.inr (some (2, cc_)))), some (.inl n_)], [.inl n_, .inr (.inr (some (60, 0)))], Sx74_)) rfl ?_
        refine sm_T_iald (n := 1013) rfl rfl (by omega) (by omega) ?_
        have bx83_ : (-2147483648) ≤ Sx74_.2.2.1 60 0 n_.toNat ∧ Sx74_.2.2.1 60 0 n_.toNat ≤ 2147483647 := hIx75_.2 60 0 _
        refine sm_T_b0 (a := 0) (z := 19) rfl (fun cx84_ => ?_) (fun cx84_ => ?_)
        · have cx84_ : (Sx74_.2.2.1 60 0 n_.toNat) = 0 := of_decide_eq_true cx84_
          refine sm_T_inc (a := 4) (z := 1) (v := n_) (w := n_ + 1) rfl rfl (by omega) (by omega) (by omega) ?_ -- pc_ 93
          refine sm_T_go 1 (c1 := (39, [some (.inr (.inr (some (6, 0)))), some (.inr (.inr (some (3, dd_)))), some (.inr (.inr (some (5, ll_)))), some (.inr (.inr (some (2, cc_)))), some (.inl (n_ + 1))], [], Sx74_)) rfl ?_
          refine ih_ (n_ + 1) Sx74_ hIx75_ hFx78_ ⟨?_, ?_, ?_, ?_, ?_, ?_, ?_, trivial⟩ ?_
          · omega
          · exact tx81_
          · exact tx80_
          · first | exact hk_ | exact m64_
          · first | exact hrr_ | exact r64_
          · first | exact wal_z hwl_ (by omega) (by omega) | exact w64_ (Or.inl (by omega)) | exact w64_ (Or.inr (by omega)) | exact w64_ (Or.inr (by rw [← t64_]; omega))
          · exact hCx79_
          · omega
        · have cx84_ : ¬ ((Sx74_.2.2.1 60 0 n_.toNat) = 0) := of_decide_eq_false cx84_
          refine sm_T_go 4 (c1 := (84, [some (.inr (.inr (some (6, 0)))), some (.inr (.inr (some (3, dd_)))), some (.inr (.inr (some (5, ll_)))), some (.inr (.inr (some (2, cc_)))), some (.inl n_)], [.inl n_, .inl 2, .inr (.inr (some (61, 0)))], Sx74_)) rfl ?_
          refine sm_T_bin (w := 2 * n_) rfl (bi_mul (by omega) (by omega) (by omega)) ?_ -- pc_ 84
          refine sm_T_iald (n := 2026) rfl rfl (by omega) (by omega) ?_
          have bx85_ : 0 ≤ Sx74_.2.2.1 61 0 (2 * n_).toNat ∧ Sx74_.2.2.1 61 0 (2 * n_).toNat ≤ 268435456 := hIx75_.2 61 0 _
          refine sm_T_nt (u := some (.inl 268435456)) (S1 := Sx74_) rfl rfl rfl ?_
          refine sm_T_br (a := 2) (z := 5) rfl (fun cx86_ => ?_) (fun cx86_ => ?_)
          · have cx86_ : (Sx74_.2.2.1 61 0 (2 * n_).toNat) < 268435456 := of_decide_eq_true cx86_
            refine sm_T_inc (a := 4) (z := 1) (v := n_) (w := n_ + 1) rfl rfl (by omega) (by omega) (by omega) ?_ -- pc_ 93
            refine sm_T_go 1 (c1 := (39, [some (.inr (.inr (some (6, 0)))), some (.inr (.inr (some (3, dd_)))), some (.inr (.inr (some (5, ll_)))), some (.inr (.inr (some (2, cc_)))), some (.inl (n_ + 1))], [], Sx74_)) rfl ?_
            refine ih_ (n_ + 1) Sx74_ hIx75_ hFx78_ ⟨?_, ?_, ?_, ?_, ?_, ?_, ?_, trivial⟩ ?_
            · omega
            · exact tx81_
            · exact tx80_
            · first | exact hk_ | exact m64_
            · first | exact hrr_ | exact r64_
            · first | exact wal_z hwl_ (by omega) (by omega) | exact w64_ (Or.inl (by omega)) | exact w64_ (Or.inr (by omega)) | exact w64_ (Or.inr (by rw [← t64_]; omega))
            · exact hCx79_
            · omega
          · have cx86_ : ¬ ((Sx74_.2.2.1 61 0 (2 * n_).toNat) < 268435456) := of_decide_eq_false cx86_
            refine sm_T_go 1 (c1 := (92, [some (.inr (.inr (some (6, 0)))), some (.inr (.inr (some (3, dd_)))), some (.inr (.inr (some (5, ll_)))), some (.inr (.inr (some (2, cc_)))), some (.inl n_)], [.inl (-1)], Sx74_)) rfl ?_
            refine sm_T_ri rfl ⟨_, _, rfl, _, rfl, hIx75_, hFx78_, ?_⟩
            refine ⟨hCx79_, ?_⟩
            right; left; rfl
set_option maxHeartbeats 4000000 in
theorem vc_91 {sc_ : Nat × (Nat → Int)} (dd_ : Nat) (ll_ : Nat) (cc_ : Nat) (F_ : Nat) (S0_ : sm_S) (hI_ : gi S0_) (hok_ : dOk dd_ S0_) (hg_ : dgr dd_ F_ S0_) (hr_ : drt dd_ S0_) (hs_ : swp dd_ F_ S0_) (hl_ : ll_ < 3) : sm_T (mt_P sc_) 6 91 (0, [some (.inr (.inr (some (6, 0)))), some (.inr (.inr (some (3, dd_)))), some (.inr (.inr (some (5, ll_)))), some (.inr (.inr (some (2, cc_)))), none], [], S0_) (fun ro9_ => ∃ u_ S1_, ro9_ = (.inl u_, S1_, 0) ∧ vq_91 dd_ ll_ cc_ F_ S0_ u_ S1_) := by
  have hF_ : ai_fr (sx_W vw_91) S0_ S0_ := ai_fr_rf
  have hC_ : cdf cc_ S0_ S0_ := cdf_rf
  have g1_ := hg_.1
  have g2_ := hg_.2.1
  have r1_ := hr_.1
  have hIx1_ : gi (sm_pR S0_ 6 0 0 (some dd_)) := gi_pR hI_
  have hFx2_ : ai_fr (sx_W vw_91) S0_ (sm_pR S0_ 6 0 0 (some dd_)) := ai_fr_tr hF_ (ai_fr_pR rfl)
  have tx3_ : (sm_pR S0_ 6 0 0 (some dd_)).2.1 6 0 0 = some dd_ := (sm_up_self (f := S0_.2.1) (t := 6) (i := 0) (k := 0) (v := some dd_))
  have hCx4_ : cdf cc_ S0_ (sm_pR S0_ 6 0 0 (some dd_)) := cdf_pR hC_
  have hIx5_ : gi (sm_pR (sm_pR S0_ 6 0 0 (some dd_)) 6 0 1 (some ll_)) := gi_pR hIx1_
  have hFx6_ : ai_fr (sx_W vw_91) S0_ (sm_pR (sm_pR S0_ 6 0 0 (some dd_)) 6 0 1 (some ll_)) := ai_fr_tr hFx2_ (ai_fr_pR rfl)
  have tx7_ : (sm_pR (sm_pR S0_ 6 0 0 (some dd_)) 6 0 1 (some ll_)).2.1 6 0 0 = some dd_ := (sm_up_ne (f := (sm_pR S0_ 6 0 0 (some dd_)).2.1) (t := 6) (i := 0) (k := 1) (v := some ll_) (by decide)).trans tx3_
  have tx8_ : (sm_pR (sm_pR S0_ 6 0 0 (some dd_)) 6 0 1 (some ll_)).2.1 6 0 1 = some ll_ := sm_up_self (f := (sm_pR S0_ 6 0 0 (some dd_)).2.1) (t := 6) (i := 0) (k := 1) (v := some ll_)
  have hCx9_ : cdf cc_ S0_ (sm_pR (sm_pR S0_ 6 0 0 (some dd_)) 6 0 1 (some ll_)) := cdf_pR hCx4_
  refine sm_T_go 7 (c1 := (11, [some (.inr (.inr (some (6, 0)))), some (.inr (.inr (some (3, dd_)))), some (.inr (.inr (some (5, ll_)))), some (.inr (.inr (some (2, cc_)))), none], [.inr (.inr (some (6, 0)))], sm_pR (sm_pR S0_ 6 0 0 (some dd_)) 6 0 1 (some ll_))) rfl ?_
  refine sm_T_gr rfl rfl tx7_ ?_
  refine sm_T_go 2 (c1 := (18, [some (.inr (.inr (some (6, 0)))), some (.inr (.inr (some (3, dd_)))), some (.inr (.inr (some (5, ll_)))), some (.inr (.inr (some (2, cc_)))), none], [.inr (.inr (some (59, 0))), .inr (.inr (some (3, dd_)))], sm_pR (sm_pR S0_ 6 0 0 (some dd_)) 6 0 1 (some ll_))) rfl ?_
  refine sm_T_cal (d1 := 1) (Q1 := vq_67m dd_ F_ (sm_pR (sm_pR S0_ 6 0 0 (some dd_)) 6 0 1 (some ll_))) rfl rfl (by decide) (vc_67m dd_ F_ (sm_pR (sm_pR S0_ 6 0 0 (some dd_)) 6 0 1 (some ll_)) hIx5_ (by exact dgr_fr hg_ hFx6_ rfl rfl rfl rfl rfl) (by exact drt_fr hr_ hFx6_ rfl rfl rfl rfl rfl) (by exact swp_fr hs_ hFx6_ rfl rfl rfl rfl)) (fun u_ Sx10_ px13_ => ?_)
  obtain ⟨vx15_, rfl, hIx11_, hFx12_, px13_⟩ := px13_
  have hFx14_ : ai_fr (sx_W vw_91) S0_ Sx10_ := ai_fr_tr hFx6_ (fr_le hFx12_ rfl)
  have hCx16_ : cdf cc_ S0_ Sx10_ := cdf_tr hCx9_ (cdf_fr hFx12_ rfl)
  have tx17_ : Sx10_.2.1 6 0 1 = some ll_ := (hFx12_.2.1 6 0 1 rfl).trans tx8_
  have tx18_ : Sx10_.2.1 6 0 0 = some dd_ := (hFx12_.2.1 6 0 0 rfl).trans tx7_
  have k18_ := px13_.2
  refine sm_T_go 2 (c1 := (23, [some (.inr (.inr (some (6, 0)))), some (.inr (.inr (some (3, dd_)))), some (.inr (.inr (some (5, ll_)))), some (.inr (.inr (some (2, cc_)))), none], [.inr (.inr (some (6, 0)))], Sx10_)) rfl ?_
  refine sm_T_cal (d1 := 2) (Q1 := vq_95 dd_ F_ Sx10_) rfl rfl (by decide) (vc_95 dd_ F_ Sx10_ hIx11_ (by exact tx18_) (by exact drt_fr hr_ hFx14_ rfl rfl rfl rfl rfl) (by exact dgr_fr hg_ hFx14_ rfl rfl rfl rfl rfl) (by exact swp_fr hs_ hFx14_ rfl rfl rfl rfl)) (fun u_ Sx19_ px22_ => ?_)
  obtain ⟨rfl, hIx20_, hFx21_, px22_⟩ := px22_
  have hFx23_ : ai_fr (sx_W vw_91) S0_ Sx19_ := ai_fr_tr hFx14_ (fr_le hFx21_ rfl)
  have hCx24_ : cdf cc_ S0_ Sx19_ := cdf_tr hCx16_ (cdf_fr hFx21_ rfl)
  have tx25_ : Sx19_.2.1 6 0 1 = some ll_ := (hFx21_.2.1 6 0 1 rfl).trans tx17_
  have tx26_ : Sx19_.2.1 6 0 0 = some dd_ := (hFx21_.2.1 6 0 0 rfl).trans tx18_
  have q23_ : rtm dd_ Sx19_ := rtm_of px22_ hFx21_
  have k23_ := mkd_fr k18_ hFx21_
  refine sm_T_go 1 (c1 := (27, [some (.inr (.inr (some (6, 0)))), some (.inr (.inr (some (3, dd_)))), some (.inr (.inr (some (5, ll_)))), some (.inr (.inr (some (2, cc_)))), none], [.inr (.inr (some (6, 0)))], Sx19_)) rfl ?_
  refine sm_T_cal (d1 := 1) (Q1 := vq_97 ll_ Sx19_) rfl rfl (by decide) (vc_97 ll_ Sx19_ hIx20_ (by exact tx25_)) (fun u_ Sx27_ px30_ => ?_)
  obtain ⟨rfl, hIx28_, hFx29_, px30_⟩ := px30_
  have hFx31_ : ai_fr (sx_W vw_91) S0_ Sx27_ := ai_fr_tr hFx23_ (fr_le hFx29_ rfl)
  have hCx32_ : cdf cc_ S0_ Sx27_ := cdf_tr hCx24_ (cdf_fr hFx29_ rfl)
  have tx33_ : Sx27_.2.1 6 0 1 = some ll_ := (hFx29_.2.1 6 0 1 rfl).trans tx25_
  have tx34_ : Sx27_.2.1 6 0 0 = some dd_ := (hFx29_.2.1 6 0 0 rfl).trans tx26_
  have q27_ := rtm_fr q23_ hFx29_
  have k27_ := mkd_fr k23_ hFx29_
  have z1_ := hFx31_.1 3 dd_ 1 rfl
  have z2_ := hFx31_.1 3 dd_ 2 rfl
  refine sm_T_go 1 (c1 := (31, [some (.inr (.inr (some (6, 0)))), some (.inr (.inr (some (3, dd_)))), some (.inr (.inr (some (5, ll_)))), some (.inr (.inr (some (2, cc_)))), none], [.inr (.inr (some (6, 0)))], Sx27_)) rfl ?_
  refine sm_T_gr rfl rfl tx34_ ?_
  refine sm_T_cal (d1 := 0) (Q1 := vq_63 dd_ Sx27_) rfl rfl (by decide) (vc_63 dd_ Sx27_ hIx28_ (by omega)) (fun u_ Sx35_ px38_ => ?_)
  obtain ⟨rfl, vx40_, rfl, px38_⟩ := px38_
  have a34_ := px38_
  refine sm_T_go 1 (c1 := (39, [some (.inr (.inr (some (6, 0)))), some (.inr (.inr (some (3, dd_)))), some (.inr (.inr (some (5, ll_)))), some (.inr (.inr (some (2, cc_)))), some (.inl vx40_)], [], Sx27_)) rfl ?_
  refine (vl_91 dd_ ll_ cc_ F_ S0_ hok_ hg_ hr_ hs_ hl_ _) vx40_ Sx27_ hIx28_ hFx31_ ⟨?_, ?_, ?_, ?_, ?_, ?_, ?_, trivial⟩ (Nat.lt_succ_self _)
  · omega
  · exact tx34_
  · exact tx33_
  · exact k27_
  · exact q27_
  · (intro k9_ u9_ w9_ y9_; exfalso; omega)
  · exact hCx32_
