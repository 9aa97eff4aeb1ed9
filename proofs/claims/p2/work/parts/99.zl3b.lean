/-! Layout.countBoxes -/
def vw_71 : sx_Wl := ([(4, 11)], [48, 49], [])
def vq_71 (a2_ : Int) (ii_ : Nat) (bb_ : Nat) (S0_ : sm_S) (u_ : Option sm_V) (S1_ : sm_S) : Prop := ∃ v_ : Int, u_ = some (.inl v_) ∧ gi S1_ ∧ ai_fr (sx_W vw_71) S0_ S1_ ∧ (cdf ii_ S0_ S1_ ∧ (v_ = ssm (btf bb_ S0_) a2_.toNat ∧ ∀ c_ : Nat, c_ < 162 → S1_.2.2.1 49 (0 + ii_) c_ = btf bb_ S0_ c_))
set_option maxHeartbeats 400000 in
theorem vl_71 {sc_ : Nat × (Nat → Int)} (a2_ : Int) (ii_ : Nat) (bb_ : Nat) (S0_ : sm_S) (h2_ : 0 ≤ a2_ ∧ a2_ ≤ 162) (hst_ : bst bb_ S0_) : ∀ nn_ : Nat, (∀ (al_ : Int) (k_ : Int) (S_ : sm_S), gi S_ → ai_fr (sx_W vw_71) S0_ S_ → ((0 ≤ k_ ∧ k_ ≤ a2_ ∧ 0 ≤ al_ ∧ al_ ≤ 7068 * k_) ∧ (al_ = ssm (btf bb_ S0_) k_.toNat) ∧ (∀ c_ : Nat, c_ < 162 → S_.2.2.1 49 (0 + ii_) c_ = btf bb_ S0_ c_) ∧ (cdf ii_ S0_ S_) ∧ True) → ((1000 - k_).toNat) < nn_ → sm_T (mt_P sc_) 4 71 (23, [some (.inr (.inr (some (4, ii_)))), some (.inr (.inr (some (0, bb_)))), some (.inl a2_), some (.inl al_), some (.inl k_)], [], S_) (fun ro9_ => ∃ u_ S1_, ro9_ = (.inl u_, S1_, 0) ∧ vq_71 a2_ ii_ bb_ S0_ u_ S1_)) := by
  intro nn_
  induction nn_ with
  | zero => exact fun _ _ _ _ _ _ h_ => absurd h_ (Nat.not_lt_zero _)
  | succ nn_ ih_ =>
    rintro al_ k_ S_ hI_ hF_ ⟨h0_, hal_, hnx_, hC_, -⟩ hm_
    have c0_ : 0 ≤ S_.1 0 bb_ 0 ∧ S_.1 0 bb_ 0 ≤ 60 := hI_.1 0 bb_ 0 rfl
    have c2_ : 0 ≤ S_.1 0 bb_ 2 ∧ S_.1 0 bb_ 2 ≤ 38 := hI_.1 0 bb_ 2 rfl
    have e0_ : S_.1 0 bb_ 0 = S0_.1 0 bb_ 0 := hF_.1 0 bb_ 0 rfl
    have e2_ : S_.1 0 bb_ 2 = S0_.1 0 bb_ 2 := hF_.1 0 bb_ 2 rfl
    refine sm_T_go 2 (c1 := (26, [some (.inr (.inr (some (4, ii_)))), some (.inr (.inr (some (0, bb_)))), some (.inl a2_), some (.inl al_), some (.inl k_)], [.inl a2_, .inl k_], S_)) rfl ?_
    refine sm_T_br (a := 3) (z := 19) rfl (fun cx1_ => ?_) (fun cx1_ => ?_)
    · have cx1_ : a2_ ≤ k_ := of_decide_eq_true cx1_
      refine sm_T_go 1 (c1 := (46, [some (.inr (.inr (some (4, ii_)))), some (.inr (.inr (some (0, bb_)))), some (.inl a2_), some (.inl al_), some (.inl k_)], [.inl al_], S_)) rfl ?_
      refine sm_T_ri rfl ⟨_, _, rfl, _, rfl, hI_, hF_, ?_⟩
      refine ⟨hC_, ?_⟩
      exact ⟨by rw [hal_, show k_.toNat = a2_.toNat by omega], hnx_⟩
    · have cx1_ : ¬ (a2_ ≤ k_) := of_decide_eq_false cx1_
      have n9_ := hnx_ k_.toNat (by omega)
      have b9_ := btot_le (bb_ := bb_) (S_ := S0_) (by omega) (by omega) (k_.toNat : Int)
      have u9_ : btf bb_ S0_ k_.toNat = (btot bb_ S0_ (k_.toNat : Int) : Int) := rfl
      refine sm_T_go 4 (c1 := (36, [some (.inr (.inr (some (4, ii_)))), some (.inr (.inr (some (0, bb_)))), some (.inl a2_), some (.inl al_), some (.inl k_)], [.inl k_, .inr (.inr (some (49, (0 + ii_)))), .inl al_], S_)) rfl ?_
      refine sm_T_iald (n := 162) rfl rfl (by omega) (by omega) ?_
      have bx2_ : 0 ≤ S_.2.2.1 49 (0 + ii_) k_.toNat ∧ S_.2.2.1 49 (0 + ii_) k_.toNat ≤ 20000 := hI_.2 49 (0 + ii_) _
      refine sm_T_bin (w := al_ + (S_.2.2.1 49 (0 + ii_) k_.toNat)) rfl (bi_add (by omega) (by omega) (by omega)) ?_ -- pc_ 37
      refine sm_T_go 1 (c1 := (39, [some (.inr (.inr (some (4, ii_)))), some (.inr (.inr (some (0, bb_)))), some (.inl a2_), some (.inl (al_ + (S_.2.2.1 49 (0 + ii_) k_.toNat))), some (.inl k_)], [], S_)) rfl ?_
      refine sm_T_inc (a := 4) (z := 1) (v := k_) (w := k_ + 1) rfl rfl (by omega) (by omega) (by omega) ?_ -- pc_ 39
      refine sm_T_go 1 (c1 := (23, [some (.inr (.inr (some (4, ii_)))), some (.inr (.inr (some (0, bb_)))), some (.inl a2_), some (.inl (al_ + (S_.2.2.1 49 (0 + ii_) k_.toNat))), some (.inl (k_ + 1))], [], S_)) rfl ?_
      refine ih_ (al_ + (S_.2.2.1 49 (0 + ii_) k_.toNat)) (k_ + 1) S_ hI_ hF_ ⟨?_, ?_, ?_, ?_, trivial⟩ ?_
      · omega
      · (rw [show (k_ + 1).toNat = k_.toNat + 1 by omega, ssm_s]; omega)
      · exact hnx_
      · exact hC_
      · omega
set_option maxHeartbeats 400000 in
theorem vc_71 {sc_ : Nat × (Nat → Int)} (a2_ : Int) (ii_ : Nat) (bb_ : Nat) (S0_ : sm_S) (hI_ : gi S0_) (h2_ : 0 ≤ a2_ ∧ a2_ ≤ 162) (hst_ : bst bb_ S0_) : sm_T (mt_P sc_) 4 71 (0, [some (.inr (.inr (some (4, ii_)))), some (.inr (.inr (some (0, bb_)))), some (.inl a2_), none, none], [], S0_) (fun ro9_ => ∃ u_ S1_, ro9_ = (.inl u_, S1_, 0) ∧ vq_71 a2_ ii_ bb_ S0_ u_ S1_) := by
  have hF_ : ai_fr (sx_W vw_71) S0_ S0_ := ai_fr_rf
  have hC_ : cdf ii_ S0_ S0_ := cdf_rf
  have c0_ : 0 ≤ S0_.1 0 bb_ 0 ∧ S0_.1 0 bb_ 0 ≤ 60 := hI_.1 0 bb_ 0 rfl
  have c2_ : 0 ≤ S0_.1 0 bb_ 2 ∧ S0_.1 0 bb_ 2 ≤ 38 := hI_.1 0 bb_ 2 rfl
  have hIx1_ : gi (sm_pI S0_ 4 ii_ 11 0) := gi_pI hI_ (show 0 ≤ 0 ∧ 0 ≤ 1 from ⟨by omega, by omega⟩)
  have hFx2_ : ai_fr (sx_W vw_71) S0_ (sm_pI S0_ 4 ii_ 11 0) := ai_fr_tr hF_ (ai_fr_pI rfl)
  have hCx3_ : cdf ii_ S0_ (sm_pI S0_ 4 ii_ 11 0) := cdf_pI hC_ (Or.inr (by rw [show cof 4 = 0 from rfl] <;> omega))
  refine sm_T_go 6 (c1 := (10, [some (.inr (.inr (some (4, ii_)))), some (.inr (.inr (some (0, bb_)))), some (.inl a2_), none, none], [.inl 0, .inr (.inr (some (49, (0 + ii_))))], sm_pI S0_ 4 ii_ 11 0)) rfl ?_
  refine sm_T_cal (d1 := 0) (Q1 := vq_2n9 0 ii_ (sm_pI S0_ 4 ii_ 11 0)) rfl rfl (by decide) (vc_2n9 0 ii_ (sm_pI S0_ 4 ii_ 11 0) hIx1_ (by decide)) (fun u_ Sx4_ px7_ => ?_)
  obtain ⟨rfl, hIx5_, hFx6_, px7_⟩ := px7_
  have hFx8_ : ai_fr (sx_W vw_71) S0_ Sx4_ := ai_fr_tr hFx2_ (fr_le hFx6_ rfl)
  obtain ⟨dx10_, px7_⟩ := px7_
  have hCx9_ : cdf ii_ S0_ Sx4_ := cdf_tr hCx3_ (cdf_cg (by omega) dx10_)
  have e10 := px7_
  have g22_ : Sx4_.2.2.1 22 (0 + bb_) = (sm_pI S0_ 4 ii_ 11 0).2.2.1 22 (0 + bb_) := fr_arr hFx6_ rfl
  have g23_ : Sx4_.2.2.1 23 (0 + bb_) = (sm_pI S0_ 4 ii_ 11 0).2.2.1 23 (0 + bb_) := fr_arr hFx6_ rfl
  have g0_ := hFx6_.1 0 bb_ 0 rfl
  have g2_ := hFx6_.1 0 bb_ 2 rfl
  have w10_ := hFx6_.1 4 ii_ 11 rfl
  rw [rf_eq] at w10_
  rw [rd_fa] at g22_ g23_
  rw [rf_nt (by decide)] at g0_ g2_
  have B10_ : btot bb_ Sx4_ = btot bb_ S0_ := btot_cg g22_ g23_ g0_ g2_
  refine sm_T_go 2 (c1 := (15, [some (.inr (.inr (some (4, ii_)))), some (.inr (.inr (some (0, bb_)))), some (.inl a2_), none, none], [.inr (.inr (some (0, bb_))), .inr (.inr (some (4, ii_)))], Sx4_)) rfl ?_
  refine sm_T_cal (d1 := 3) (Q1 := vq_73 ii_ bb_ Sx4_) rfl rfl (by decide) (vc_73 ii_ bb_ Sx4_ hIx5_ (by exact hIx5_) (by exact bst_cg hst_ g22_ g23_) (by (intro c_ hc_; rw [e10 c_ hc_, B10_]; have z9_ := btot_le c0_ c2_ (c_ : Int); omega)) (by (intro u9_; exact absurd w10_ u9_))) (fun u_ Sx11_ px14_ => ?_)
  obtain ⟨rfl, hIx12_, hFx13_, px14_⟩ := px14_
  have hFx15_ : ai_fr (sx_W vw_71) S0_ Sx11_ := ai_fr_tr hFx8_ (fr_le hFx13_ rfl)
  obtain ⟨dx17_, px14_⟩ := px14_
  have hCx16_ : cdf ii_ S0_ Sx11_ := cdf_tr hCx9_ (cdf_cg (by omega) dx17_)
  have n15_ : ∀ c_ : Nat, c_ < 162 → Sx11_.2.2.1 49 (0 + ii_) c_ = btf bb_ S0_ c_ := by (intro c_ hc_; have z9_ := px14_ c_ hc_; rw [e10 c_ hc_, B10_] at z9_; unfold btf; omega)
  refine sm_T_go 4 (c1 := (23, [some (.inr (.inr (some (4, ii_)))), some (.inr (.inr (some (0, bb_)))), some (.inl a2_), some (.inl 0), some (.inl 0)], [], Sx11_)) rfl ?_
  refine (vl_71 a2_ ii_ bb_ S0_ h2_ hst_ _) 0 0 Sx11_ hIx12_ hFx15_ ⟨?_, ?_, ?_, ?_, trivial⟩ (Nat.lt_succ_self _)
  · omega
  · rfl
  · exact n15_
  · exact hCx16_
