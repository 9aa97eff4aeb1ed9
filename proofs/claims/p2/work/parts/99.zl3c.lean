/-! Layout.drawBoxes -/
def vw_72 : sx_Wl := ([(4, 0), (4, 1), (4, 9), (4, 10), (4, 11)], [48, 49], [])
def vq_72 (a2_ : Int) (ii_ : Nat) (bb_ : Nat) (S0_ : sm_S) (u_ : Option sm_V) (S1_ : sm_S) : Prop := u_ = none ∧ gi S1_ ∧ ai_fr (sx_W vw_72) S0_ S1_ ∧ (cdf ii_ S0_ S1_ ∧ (True))
set_option maxHeartbeats 400000 in
theorem vl_72 {sc_ : Nat × (Nat → Int)} (a2_ : Int) (ii_ : Nat) (bb_ : Nat) (S0_ : sm_S) (h2_ : 0 ≤ a2_ ∧ a2_ ≤ 162) (hst_ : bst bb_ S0_) (hox_ : ∀ p_ : Nat, p_ < 4712 → S0_.2.2.1 22 (0 + bb_) p_ < a2_) (hnx_ : ∀ c_ : Nat, c_ < 162 → S0_.2.2.1 49 (0 + ii_) c_ = btf bb_ S0_ c_) (hsm_ : ssm (btf bb_ S0_) a2_.toNat ≤ 2000) (hzz_ : ∀ c_ : Nat, a2_ ≤ (c_ : Int) → btf bb_ S0_ c_ = 0) : ∀ nn_ : Nat, (∀ (al_ : Int) (k_ : Int) (S_ : sm_S), gi S_ → ai_fr (sx_W vw_72) S0_ S_ → ((0 ≤ k_ ∧ k_ ≤ a2_ ∧ 0 ≤ al_ ∧ al_ ≤ 2000) ∧ (al_ = ssm (btf bb_ S0_) k_.toNat) ∧ (∀ c_ : Nat, (c_ : Int) < k_ → S_.2.2.1 49 (0 + ii_) c_ = ssm (btf bb_ S0_) c_) ∧ (∀ c_ : Nat, k_ ≤ (c_ : Int) → c_ < 162 → S_.2.2.1 49 (0 + ii_) c_ = btf bb_ S0_ c_) ∧ (cdf ii_ S0_ S_) ∧ True) → ((1000 - k_).toNat) < nn_ → sm_T (mt_P sc_) 4 72 (5, [some (.inr (.inr (some (4, ii_)))), some (.inr (.inr (some (0, bb_)))), some (.inl a2_), some (.inl al_), some (.inl k_), none], [], S_) (fun ro9_ => ∃ u_ S1_, ro9_ = (.inl u_, S1_, 0) ∧ vq_72 a2_ ii_ bb_ S0_ u_ S1_)) := by
  intro nn_
  induction nn_ with
  | zero => exact fun _ _ _ _ _ _ h_ => absurd h_ (Nat.not_lt_zero _)
  | succ nn_ ih_ =>
    rintro al_ k_ S_ hI_ hF_ ⟨h0_, hal_, hn1_, hn2_, hC_, -⟩ hm_
    refine sm_T_go 2 (c1 := (8, [some (.inr (.inr (some (4, ii_)))), some (.inr (.inr (some (0, bb_)))), some (.inl a2_), some (.inl al_), some (.inl k_), none], [.inl a2_, .inl k_], S_)) rfl ?_
    refine sm_T_br (a := 3) (z := 31) rfl (fun cx1_ => ?_) (fun cx1_ => ?_)
    · have cx1_ : a2_ ≤ k_ := of_decide_eq_true cx1_
      have f22_ : S_.2.2.1 22 (0 + bb_) = S0_.2.2.1 22 (0 + bb_) := fr_arr hF_ rfl
      have f23_ : S_.2.2.1 23 (0 + bb_) = S0_.2.2.1 23 (0 + bb_) := fr_arr hF_ rfl
      have B9_ : btot bb_ S_ = btot bb_ S0_ := btot_cg f22_ f23_ (hF_.1 0 bb_ 0 rfl) (hF_.1 0 bb_ 2 rfl)
      have T9_ : ∀ c_ : Nat, c_ < 162 → S_.2.2.1 49 (0 + ii_) c_ + btf bb_ S0_ c_ ≤ 2000 := by (intro c_ hc_; by_cases y9_ : (c_ : Int) < k_; (have q9_ := ssm_mo (btf_0 bb_ S0_) (n_ := c_ + 1) (m_ := a2_.toNat) (by omega); rw [ssm_s] at q9_; rw [hn1_ c_ y9_]; omega); (rw [hn2_ c_ (by omega) hc_, hzz_ c_ (by omega)]; omega))
      have hIx2_ : gi (sm_pI S_ 4 ii_ 11 1) := gi_pI hI_ (show 0 ≤ 1 ∧ 1 ≤ 1 from ⟨by omega, by omega⟩)
      have hFx3_ : ai_fr (sx_W vw_72) S0_ (sm_pI S_ 4 ii_ 11 1) := ai_fr_tr hF_ (ai_fr_pI rfl)
      have hCx4_ : cdf ii_ S0_ (sm_pI S_ 4 ii_ 11 1) := cdf_pI hC_ (Or.inr (by rw [show cof 4 = 0 from rfl] <;> omega))
      refine sm_T_go 5 (c1 := (46, [some (.inr (.inr (some (4, ii_)))), some (.inr (.inr (some (0, bb_)))), some (.inl a2_), some (.inl al_), some (.inl k_), none], [.inr (.inr (some (0, bb_))), .inr (.inr (some (4, ii_)))], sm_pI S_ 4 ii_ 11 1)) rfl ?_
      refine sm_T_cal (d1 := 3) (Q1 := vq_73 ii_ bb_ (sm_pI S_ 4 ii_ 11 1)) rfl rfl (by decide) (vc_73 ii_ bb_ (sm_pI S_ 4 ii_ 11 1) hIx2_ (by exact hIx2_) (by exact bst_cg hst_ f22_ f23_) (by (intro c_ hc_; rw [rd_fa, btot_cg (S_ := S_) (S'_ := sm_pI S_ 4 ii_ 11 1) rfl rfl (rf_nt (by decide)) (rf_nt (by decide)), B9_]; have w9_ := T9_ c_ hc_; unfold btf at w9_; omega)) (by (intro _ c_ hc_; rw [rd_fa, btot_cg (S_ := S_) (S'_ := sm_pI S_ 4 ii_ 11 1) rfl rfl (rf_nt (by decide)) (rf_nt (by decide)), B9_]; have w9_ := T9_ c_ hc_; unfold btf at w9_; omega))) (fun u_ Sx5_ px8_ => ?_)
      obtain ⟨rfl, hIx6_, hFx7_, px8_⟩ := px8_
      have hFx9_ : ai_fr (sx_W vw_72) S0_ Sx5_ := ai_fr_tr hFx3_ (fr_le hFx7_ rfl)
      obtain ⟨dx11_, px8_⟩ := px8_
      have hCx10_ : cdf ii_ S0_ Sx5_ := cdf_tr hCx4_ (cdf_cg (by omega) dx11_)
      have hIx12_ : gi (sm_pI Sx5_ 4 ii_ 1 al_) := gi_pI hIx6_ (show 0 ≤ al_ ∧ al_ ≤ 2000 from ⟨by omega, by omega⟩)
      have hFx13_ : ai_fr (sx_W vw_72) S0_ (sm_pI Sx5_ 4 ii_ 1 al_) := ai_fr_tr hFx9_ (ai_fr_pI rfl)
      have hCx14_ : cdf ii_ S0_ (sm_pI Sx5_ 4 ii_ 1 al_) := cdf_pI hCx10_ (Or.inr (by rw [show cof 4 = 0 from rfl] <;> omega))
      have hIx15_ : gi (sm_pI (sm_pI Sx5_ 4 ii_ 1 al_) 4 ii_ 0 1) := gi_pI hIx12_ (show 0 ≤ 1 ∧ 1 ≤ 1 from ⟨by omega, by omega⟩)
      have hFx16_ : ai_fr (sx_W vw_72) S0_ (sm_pI (sm_pI Sx5_ 4 ii_ 1 al_) 4 ii_ 0 1) := ai_fr_tr hFx13_ (ai_fr_pI rfl)
      have hCx17_ : cdf ii_ S0_ (sm_pI (sm_pI Sx5_ 4 ii_ 1 al_) 4 ii_ 0 1) := cdf_pI hCx14_ (Or.inr (by rw [show cof 4 = 0 from rfl] <;> omega))
      refine sm_T_go 7 (c1 := (60, [some (.inr (.inr (some (4, ii_)))), some (.inr (.inr (some (0, bb_)))), some (.inl a2_), some (.inl al_), some (.inl k_), none], [.inr (.inr (some (4, ii_)))], sm_pI (sm_pI Sx5_ 4 ii_ 1 al_) 4 ii_ 0 1)) rfl ?_
      refine sm_T_cal (d1 := 0) (Q1 := vq_68 ii_ (sm_pI (sm_pI Sx5_ 4 ii_ 1 al_) 4 ii_ 0 1)) rfl rfl (by decide) (vc_68 ii_ (sm_pI (sm_pI Sx5_ 4 ii_ 1 al_) 4 ii_ 0 1) hIx15_ ) (fun u_ Sx18_ px21_ => ?_)
      obtain ⟨rfl, hIx19_, hFx20_, px21_⟩ := px21_
      have hFx22_ : ai_fr (sx_W vw_72) S0_ Sx18_ := ai_fr_tr hFx16_ (fr_le hFx20_ rfl)
      obtain ⟨dx24_, px21_⟩ := px21_
      have hCx23_ : cdf ii_ S0_ Sx18_ := cdf_tr hCx17_ (cdf_cg (by omega) dx24_)
      refine sm_T_rv rfl ⟨_, _, rfl, rfl, hIx19_, hFx22_, ?_⟩
      refine ⟨hCx23_, ?_⟩
      trivial
    · have cx1_ : ¬ (a2_ ≤ k_) := of_decide_eq_false cx1_
      have n9_ := hn2_ k_.toNat (by omega) (by omega)
      have m9_ := ssm_mo (btf_0 bb_ S0_) (n_ := k_.toNat + 1) (m_ := a2_.toNat) (by omega)
      rw [ssm_s] at m9_
      have z9_ := btf_0 bb_ S0_ k_.toNat
      refine sm_T_go 3 (c1 := (17, [some (.inr (.inr (some (4, ii_)))), some (.inr (.inr (some (0, bb_)))), some (.inl a2_), some (.inl al_), some (.inl k_), none], [.inl k_, .inr (.inr (some (49, (0 + ii_))))], S_)) rfl ?_
      refine sm_T_iald (n := 162) rfl rfl (by omega) (by omega) ?_
      have bx25_ : 0 ≤ S_.2.2.1 49 (0 + ii_) k_.toNat ∧ S_.2.2.1 49 (0 + ii_) k_.toNat ≤ 20000 := hI_.2 49 (0 + ii_) _
      refine sm_T_go 5 (c1 := (27, [some (.inr (.inr (some (4, ii_)))), some (.inr (.inr (some (0, bb_)))), some (.inl a2_), some (.inl al_), some (.inl k_), some (.inl (S_.2.2.1 49 (0 + ii_) k_.toNat))], [.inl al_, .inl k_, .inr (.inr (some (49, (0 + ii_))))], S_)) rfl ?_
      refine sm_T_iast (n := 162) rfl rfl (by omega) (by omega) ?_
      have hIx26_ : gi (sm_aI S_ 49 (0 + ii_) k_.toNat al_) := gi_aI hI_ (show 0 ≤ al_ ∧ al_ ≤ 20000 from ⟨by omega, by omega⟩)
      have hFx27_ : ai_fr (sx_W vw_72) S0_ (sm_aI S_ 49 (0 + ii_) k_.toNat al_) := ai_fr_tr hF_ (ai_fr_aI rfl)
      have hCx28_ : cdf ii_ S0_ (sm_aI S_ 49 (0 + ii_) k_.toNat al_) := cdf_aI hC_ (Or.inr (by rw [show cof 49 = 0 from rfl] <;> omega))
      refine sm_T_go 2 (c1 := (31, [some (.inr (.inr (some (4, ii_)))), some (.inr (.inr (some (0, bb_)))), some (.inl a2_), some (.inl al_), some (.inl k_), some (.inl (S_.2.2.1 49 (0 + ii_) k_.toNat))], [.inl (S_.2.2.1 49 (0 + ii_) k_.toNat), .inl al_], sm_aI S_ 49 (0 + ii_) k_.toNat al_)) rfl ?_
      refine sm_T_bin (w := al_ + (S_.2.2.1 49 (0 + ii_) k_.toNat)) rfl (bi_add (by omega) (by omega) (by omega)) ?_ -- pc_ 31
      refine sm_T_go 1 (c1 := (33, [some (.inr (.inr (some (4, ii_)))), some (.inr (.inr (some (0, bb_)))), some (.inl a2_), some (.inl (al_ + (S_.2.2.1 49 (0 + ii_) k_.toNat))), some (.inl k_), some (.inl (S_.2.2.1 49 (0 + ii_) k_.toNat))], [], sm_aI S_ 49 (0 + ii_) k_.toNat al_)) rfl ?_
      refine sm_T_inc (a := 4) (z := 1) (v := k_) (w := k_ + 1) rfl rfl (by omega) (by omega) (by omega) ?_ -- pc_ 33
      refine sm_T_go 1 (c1 := (5, [some (.inr (.inr (some (4, ii_)))), some (.inr (.inr (some (0, bb_)))), some (.inl a2_), some (.inl (al_ + (S_.2.2.1 49 (0 + ii_) k_.toNat))), some (.inl (k_ + 1)), some (.inl (S_.2.2.1 49 (0 + ii_) k_.toNat))], [], sm_aI S_ 49 (0 + ii_) k_.toNat al_)) rfl ?_
      refine sm_T_wk [some (.inr (.inr (some (4, ii_)))), some (.inr (.inr (some (0, bb_)))), some (.inl a2_), some (.inl (al_ + (S_.2.2.1 49 (0 + ii_) k_.toNat))), some (.inl (k_ + 1)), none] (by exact ⟨rfl, rfl, rfl, rfl, rfl, trivial⟩) ?_
      refine ih_ (al_ + (S_.2.2.1 49 (0 + ii_) k_.toNat)) (k_ + 1) (sm_aI S_ 49 (0 + ii_) k_.toNat al_) hIx26_ hFx27_ ⟨?_, ?_, ?_, ?_, ?_, trivial⟩ ?_
      · omega
      · (rw [show (k_ + 1).toNat = k_.toNat + 1 by omega, ssm_s]; omega)
      · intro c_ hc_
        rw [rd_eq]
        by_cases z_ : c_ = k_.toNat
        · rw [if_pos z_, z_]; exact hal_
        · rw [if_neg z_]; exact hn1_ c_ (by omega)
      · intro c_ hc_ h_
        rw [rd_eq, if_neg (by omega)]
        exact hn2_ c_ (by omega) h_
      · exact hCx28_
      · omega
set_option maxHeartbeats 400000 in
theorem vc_72 {sc_ : Nat × (Nat → Int)} (a2_ : Int) (ii_ : Nat) (bb_ : Nat) (S0_ : sm_S) (hI_ : gi S0_) (h2_ : 0 ≤ a2_ ∧ a2_ ≤ 162) (hst_ : bst bb_ S0_) (hox_ : ∀ p_ : Nat, p_ < 4712 → S0_.2.2.1 22 (0 + bb_) p_ < a2_) (hnx_ : ∀ c_ : Nat, c_ < 162 → S0_.2.2.1 49 (0 + ii_) c_ = btf bb_ S0_ c_) (hsm_ : ssm (btf bb_ S0_) a2_.toNat ≤ 2000) (hzz_ : ∀ c_ : Nat, a2_ ≤ (c_ : Int) → btf bb_ S0_ c_ = 0) : sm_T (mt_P sc_) 4 72 (0, [some (.inr (.inr (some (4, ii_)))), some (.inr (.inr (some (0, bb_)))), some (.inl a2_), none, none, none], [], S0_) (fun ro9_ => ∃ u_ S1_, ro9_ = (.inl u_, S1_, 0) ∧ vq_72 a2_ ii_ bb_ S0_ u_ S1_) := by
  have hF_ : ai_fr (sx_W vw_72) S0_ S0_ := ai_fr_rf
  have hC_ : cdf ii_ S0_ S0_ := cdf_rf
  refine sm_T_go 4 (c1 := (5, [some (.inr (.inr (some (4, ii_)))), some (.inr (.inr (some (0, bb_)))), some (.inl a2_), some (.inl 0), some (.inl 0), none], [], S0_)) rfl ?_
  refine (vl_72 a2_ ii_ bb_ S0_ h2_ hst_ hox_ hnx_ hsm_ hzz_ _) 0 0 S0_ hI_ hF_ ⟨?_, ?_, ?_, ?_, ?_, trivial⟩ (Nat.lt_succ_self _)
  · omega
  · rfl
  · (intro c_ hc_; exfalso; omega)
  · (intro c_ hc_ h_; exact hnx_ c_ h_)
  · exact hC_
