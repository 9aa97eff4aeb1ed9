/-! Mapper.sortCuts -/
def vw_103 : sx_Wl := ([], [66], [])
def vq_103  (S0_ : sm_S) (u_ : Option sm_V) (S1_ : sm_S) : Prop := u_ = none ∧ gi S1_ ∧ ai_fr (sx_W vw_103) S0_ S1_ ∧ (∀ i_ : Nat, (i_ : Int) < S0_.1 6 0 11 → S1_.2.2.1 66 0 i_ < S0_.1 6 0 11)
set_option maxHeartbeats 400000 in
theorem vl_103 {sc_ : Nat × (Nat → Int)}  (S0_ : sm_S)  : ∀ nn_ : Nat, (∀ (i9_ : Int) (S_ : sm_S), gi S_ → ai_fr (sx_W vw_103) S0_ S_ → ((0 ≤ i9_ ∧ i9_ ≤ 1024 ∧ i9_ ≤ S0_.1 6 0 11) ∧ (∀ i_ : Nat, (i_ : Int) < i9_ → S_.2.2.1 66 0 i_ < i9_) ∧ True) → ((10000 * (2000 - i9_) + 9000).toNat) < nn_ → sm_T (mt_P sc_) 1 103 (2, [some (.inr (.inr (some (6, 0)))), some (.inl i9_), none], [], S_) (fun ro9_ => ∃ u_ S1_, ro9_ = (.inl u_, S1_, 0) ∧ vq_103  S0_ u_ S1_)) ∧ (∀ (i9_ : Int) (a9_ : Int) (S_ : sm_S), gi S_ → ai_fr (sx_W vw_103) S0_ S_ → ((0 ≤ i9_ ∧ i9_ < 1024 ∧ 0 ≤ a9_ ∧ a9_ ≤ i9_ ∧ i9_ < S0_.1 6 0 11) ∧ (∀ i_ : Nat, (i_ : Int) ≤ i9_ → (i_ : Int) ≠ a9_ → S_.2.2.1 66 0 i_ < i9_) ∧ True) → ((10000 * (2000 - i9_) + a9_).toNat) < nn_ → sm_T (mt_P sc_) 1 103 (12, [some (.inr (.inr (some (6, 0)))), some (.inl i9_), some (.inl a9_)], [], S_) (fun ro9_ => ∃ u_ S1_, ro9_ = (.inl u_, S1_, 0) ∧ vq_103  S0_ u_ S1_)) := by
  intro nn_
  induction nn_ with
  | zero => exact ⟨fun _ _ _ _ _ h_ => absurd h_ (Nat.not_lt_zero _), fun _ _ _ _ _ _ h_ => absurd h_ (Nat.not_lt_zero _)⟩
  | succ nn_ ih_ =>
    refine ⟨?_, ?_⟩
    · rintro i9_ S_ hI_ hF_ ⟨h0_, ho_, -⟩ hm_
      have ck_ : 0 ≤ S_.1 6 0 11 ∧ S_.1 6 0 11 ≤ 1024 := hI_.1 6 0 11 rfl
      have cm_ : 0 ≤ S_.1 6 0 13 ∧ S_.1 6 0 13 ≤ 4 := hI_.1 6 0 13 rfl
      have es_ : S_.1 6 0 11 = S0_.1 6 0 11 := hF_.1 6 0 11 rfl
      have bx1_ : 0 ≤ S_.1 6 0 11 ∧ S_.1 6 0 11 ≤ 1024 := hI_.1 6 0 11 rfl
      refine sm_T_go 3 (c1 := (7, [some (.inr (.inr (some (6, 0)))), some (.inl i9_), none], [.inl (S_.1 6 0 11), .inl i9_], S_)) rfl ?_
      refine sm_T_br (a := 3) (z := 58) rfl (fun cx2_ => ?_) (fun cx2_ => ?_)
      · have cx2_ : (S_.1 6 0 11) ≤ i9_ := of_decide_eq_true cx2_
        refine sm_T_rv rfl ⟨_, _, rfl, rfl, hI_, hF_, ?_⟩
        intro i_ hi_
        have w_ := ho_ i_ (by omega)
        omega
      · have cx2_ : ¬ ((S_.1 6 0 11) ≤ i9_) := of_decide_eq_false cx2_
        refine sm_T_go 2 (c1 := (12, [some (.inr (.inr (some (6, 0)))), some (.inl i9_), some (.inl i9_)], [], S_)) rfl ?_
        refine ih_.2 i9_ i9_ S_ hI_ hF_ ⟨?_, ?_, trivial⟩ ?_
        · omega
        · (intro i_ hi_ hn_; exact ho_ i_ (by omega))
        · omega
    · rintro i9_ a9_ S_ hI_ hF_ ⟨h0_, ho_, -⟩ hm_
      have ck_ : 0 ≤ S_.1 6 0 11 ∧ S_.1 6 0 11 ≤ 1024 := hI_.1 6 0 11 rfl
      have cm_ : 0 ≤ S_.1 6 0 13 ∧ S_.1 6 0 13 ≤ 4 := hI_.1 6 0 13 rfl
      refine sm_T_go 1 (c1 := (13, [some (.inr (.inr (some (6, 0)))), some (.inl i9_), some (.inl a9_)], [.inl a9_], S_)) rfl ?_
      refine sm_T_b0 (a := 5) (z := 39) rfl (fun cx1_ => ?_) (fun cx1_ => ?_)
      · have cx1_ : a9_ ≤ 0 := of_decide_eq_true cx1_
        refine sm_T_go 4 (c1 := (58, [some (.inr (.inr (some (6, 0)))), some (.inl i9_), some (.inl a9_)], [.inl i9_, .inl a9_, .inr (.inr (some (66, 0)))], S_)) rfl ?_
        refine sm_T_iast (n := 1024) rfl rfl (by omega) (by omega) ?_
        have hIx2_ : gi (sm_aI S_ 66 0 a9_.toNat i9_) := gi_aI hI_ (show 0 ≤ i9_ ∧ i9_ ≤ 1023 from ⟨by omega, by omega⟩)
        have hFx3_ : ai_fr (sx_W vw_103) S0_ (sm_aI S_ 66 0 a9_.toNat i9_) := ai_fr_tr hF_ (ai_fr_aI rfl)
        refine sm_T_inc (a := 1) (z := 1) (v := i9_) (w := i9_ + 1) rfl rfl (by omega) (by omega) (by omega) ?_ -- pc_ 59
        refine sm_T_go 1 (c1 := (2, [some (.inr (.inr (some (6, 0)))), some (.inl (i9_ + 1)), some (.inl a9_)], [], sm_aI S_ 66 0 a9_.toNat i9_)) rfl ?_
        refine sm_T_wk [some (.inr (.inr (some (6, 0)))), some (.inl (i9_ + 1)), none] (by exact ⟨rfl, rfl, trivial⟩) ?_
        refine ih_.1 (i9_ + 1) (sm_aI S_ 66 0 a9_.toNat i9_) hIx2_ hFx3_ ⟨?_, ?_, trivial⟩ ?_
        · omega
        · intro i_ hi_
          rw [rd_eq]
          by_cases y_ : i_ = a9_.toNat
          · rw [if_pos y_]; omega
          · rw [if_neg y_]; have w_ := ho_ i_ (by omega) (by omega); omega
        · omega
      · have cx1_ : ¬ (a9_ ≤ 0) := of_decide_eq_false cx1_
        refine sm_T_go 6 (c1 := (24, [some (.inr (.inr (some (6, 0)))), some (.inl i9_), some (.inl a9_)], [.inl 1, .inl a9_, .inr (.inr (some (66, 0))), .inl i9_, .inr (.inr (some (6, 0)))], S_)) rfl ?_
        refine sm_T_bin (w := a9_ - 1) rfl (bi_sub (by omega) (by omega) (by omega)) ?_ -- pc_ 24
        refine sm_T_iald (n := 1024) rfl rfl (by omega) (by omega) ?_
        have bx4_ : 0 ≤ S_.2.2.1 66 0 (a9_ - 1).toNat ∧ S_.2.2.1 66 0 (a9_ - 1).toNat ≤ 1023 := hI_.2 66 0 _
        refine sm_T_cal (d1 := 0) (Q1 := vq_104 i9_ (S_.2.2.1 66 0 (a9_ - 1).toNat) S_) rfl rfl (by decide) (vc_104 i9_ (S_.2.2.1 66 0 (a9_ - 1).toNat) S_ hI_ (by omega) (by omega)) (fun u_ Sx5_ px8_ => ?_)
        obtain ⟨rfl, vx10_, rfl, px8_⟩ := px8_
        refine sm_T_b0 (a := 0) (z := 23) rfl (fun cx11_ => ?_) (fun cx11_ => ?_)
        · have cx11_ : vx10_ = 0 := of_decide_eq_true cx11_
          refine sm_T_go 4 (c1 := (58, [some (.inr (.inr (some (6, 0)))), some (.inl i9_), some (.inl a9_)], [.inl i9_, .inl a9_, .inr (.inr (some (66, 0)))], S_)) rfl ?_
          refine sm_T_iast (n := 1024) rfl rfl (by omega) (by omega) ?_
          have hIx12_ : gi (sm_aI S_ 66 0 a9_.toNat i9_) := gi_aI hI_ (show 0 ≤ i9_ ∧ i9_ ≤ 1023 from ⟨by omega, by omega⟩)
          have hFx13_ : ai_fr (sx_W vw_103) S0_ (sm_aI S_ 66 0 a9_.toNat i9_) := ai_fr_tr hF_ (ai_fr_aI rfl)
          refine sm_T_inc (a := 1) (z := 1) (v := i9_) (w := i9_ + 1) rfl rfl (by omega) (by omega) (by omega) ?_ -- pc_ 59
          refine sm_T_go 1 (c1 := (2, [some (.inr (.inr (some (6, 0)))), some (.inl (i9_ + 1)), some (.inl a9_)], [], sm_aI S_ 66 0 a9_.toNat i9_)) rfl ?_
          refine sm_T_wk [some (.inr (.inr (some (6, 0)))), some (.inl (i9_ + 1)), none] (by exact ⟨rfl, rfl, trivial⟩) ?_
          refine ih_.1 (i9_ + 1) (sm_aI S_ 66 0 a9_.toNat i9_) hIx12_ hFx13_ ⟨?_, ?_, trivial⟩ ?_
          · omega
          · intro i_ hi_
            rw [rd_eq]
            by_cases y_ : i_ = a9_.toNat
            · rw [if_pos y_]; omega
            · rw [if_neg y_]; have w_ := ho_ i_ (by omega) (by omega); omega
          · omega
        · have cx11_ : ¬ (vx10_ = 0) := of_decide_eq_false cx11_
          refine sm_T_go 7 (c1 := (43, [some (.inr (.inr (some (6, 0)))), some (.inl i9_), some (.inl a9_)], [.inl 1, .inl a9_, .inr (.inr (some (66, 0))), .inl a9_, .inr (.inr (some (66, 0)))], S_)) rfl ?_
          refine sm_T_bin (w := a9_ - 1) rfl (bi_sub (by omega) (by omega) (by omega)) ?_ -- pc_ 43
          refine sm_T_iald (n := 1024) rfl rfl (by omega) (by omega) ?_
          refine sm_T_iast (n := 1024) rfl rfl (by omega) (by omega) ?_
          have hIx14_ : gi (sm_aI S_ 66 0 a9_.toNat (S_.2.2.1 66 0 (a9_ - 1).toNat)) := gi_aI hI_ (show 0 ≤ (S_.2.2.1 66 0 (a9_ - 1).toNat) ∧ (S_.2.2.1 66 0 (a9_ - 1).toNat) ≤ 1023 from ⟨by omega, by omega⟩)
          have hFx15_ : ai_fr (sx_W vw_103) S0_ (sm_aI S_ 66 0 a9_.toNat (S_.2.2.1 66 0 (a9_ - 1).toNat)) := ai_fr_tr hF_ (ai_fr_aI rfl)
          refine sm_T_inc (a := 2) (z := (-1)) (v := a9_) (w := a9_ - 1) rfl rfl (by omega) (by omega) (by omega) ?_ -- pc_ 46
          refine sm_T_go 1 (c1 := (12, [some (.inr (.inr (some (6, 0)))), some (.inl i9_), some (.inl (a9_ - 1))], [], sm_aI S_ 66 0 a9_.toNat (S_.2.2.1 66 0 (a9_ - 1).toNat))) rfl ?_
          refine ih_.2 i9_ (a9_ - 1) (sm_aI S_ 66 0 a9_.toNat (S_.2.2.1 66 0 (a9_ - 1).toNat)) hIx14_ hFx15_ ⟨?_, ?_, trivial⟩ ?_
          · omega
          · intro i_ hi_ hn_
            rw [rd_eq]
            by_cases y_ : i_ = a9_.toNat
            · rw [if_pos y_]; exact ho_ (a9_ - 1).toNat (by omega) (by omega)
            · rw [if_neg y_]; exact ho_ i_ hi_ (by omega)
          · omega
set_option maxHeartbeats 400000 in
theorem vc_103 {sc_ : Nat × (Nat → Int)}  (S0_ : sm_S) (hI_ : gi S0_)  : sm_T (mt_P sc_) 1 103 (0, [some (.inr (.inr (some (6, 0)))), none, none], [], S0_) (fun ro9_ => ∃ u_ S1_, ro9_ = (.inl u_, S1_, 0) ∧ vq_103  S0_ u_ S1_) := by
  have hF_ : ai_fr (sx_W vw_103) S0_ S0_ := ai_fr_rf
  have ck0_ : 0 ≤ S0_.1 6 0 11 ∧ S0_.1 6 0 11 ≤ 1024 := hI_.1 6 0 11 rfl
  refine sm_T_go 2 (c1 := (2, [some (.inr (.inr (some (6, 0)))), some (.inl 0), none], [], S0_)) rfl ?_
  refine (vl_103 S0_ _).1 0 S0_ hI_ hF_ ⟨?_, ?_, trivial⟩ (Nat.lt_succ_self _)
  · omega
  · (intro i_ hi_; exfalso; omega)
