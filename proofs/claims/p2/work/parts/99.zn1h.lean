/-! Mapper.addCut -/
def vw_102 : sx_Wl := ([(6, 11)], [65], [])
def vq_102 (P_ : Int → Prop) (S0_ : sm_S) (u_ : Option sm_V) (S1_ : sm_S) : Prop := u_ = none ∧ gi S1_ ∧ ai_fr (sx_W vw_102) S0_ S1_ ∧ (mcs P_ S1_ ∧ S0_.1 6 0 11 ≤ S1_.1 6 0 11)
set_option maxHeartbeats 400000 in
set_option maxRecDepth 20000 in
theorem vl_102 {sc_ : Nat × (Nat → Int)} (P_ : Int → Prop) (S0_ : sm_S) (h3_ : 2 ≤ S0_.1 6 0 13) (hms_ : mms P_ S0_ (S0_.1 6 0 13) (S0_.1 6 0 13)) (hcs_ : mcs P_ S0_) : ∀ nn_ : Nat, (∀ (th9_ : Int) (k_ : Int) (S_ : sm_S), gi S_ → ai_fr (sx_W vw_102) S0_ S_ → ((0 ≤ k_ ∧ k_ ≤ 1024 ∧ S0_.1 6 0 11 ≤ 1023 ∧ -1 ≤ th9_ ∧ th9_ ≤ 1012 ∧ S0_.1 6 0 13 ≤ 3) ∧ (S_ = S0_) ∧ (th9_ = -1 ∨ P_ th9_) ∧ True) → ((3000 - k_).toNat) < nn_ → sm_T (mt_P sc_) 0 102 (40, [some (.inr (.inr (some (6, 0)))), some (.inl th9_), some (.inl k_)], [], S_) (fun ro9_ => ∃ u_ S1_, ro9_ = (.inl u_, S1_, 0) ∧ vq_102 P_ S0_ u_ S1_)) := by
  intro nn_
  induction nn_ with
  | zero => exact fun _ _ _ _ _ _ h_ => absurd h_ (Nat.not_lt_zero _)
  | succ nn_ ih_ =>
    rintro th9_ k_ S_ hI_ hF_ ⟨h0_, hS_, ht_, -⟩ hm_
    have ck_ : 0 ≤ S_.1 6 0 11 ∧ S_.1 6 0 11 ≤ 1024 := hI_.1 6 0 11 rfl
    have cm_ : 0 ≤ S_.1 6 0 13 ∧ S_.1 6 0 13 ≤ 4 := hI_.1 6 0 13 rfl
    have es_ : S_.1 6 0 11 = S0_.1 6 0 11 := by rw [hS_]
    have bx1_ : 0 ≤ S_.1 6 0 11 ∧ S_.1 6 0 11 ≤ 1024 := hI_.1 6 0 11 rfl
    refine sm_T_go 3 (c1 := (45, [some (.inr (.inr (some (6, 0)))), some (.inl th9_), some (.inl k_)], [.inl (S_.1 6 0 11), .inl k_], S_)) rfl ?_
    refine sm_T_br (a := 3) (z := 60) rfl (fun cx2_ => ?_) (fun cx2_ => ?_)
    · have cx2_ : (S_.1 6 0 11) ≤ k_ := of_decide_eq_true cx2_
      refine sm_T_go 5 (c1 := (114, [some (.inr (.inr (some (6, 0)))), some (.inl th9_), some (.inl k_)], [.inl (S_.1 6 0 11), .inl 3, .inr (.inr (some (65, 0)))], S_)) rfl ?_
      refine sm_T_bin (w := 3 * (S_.1 6 0 11)) rfl (bi_mul (by omega) (by omega) (by omega)) ?_ -- pc_ 114
      refine sm_T_go 3 (c1 := (120, [some (.inr (.inr (some (6, 0)))), some (.inl th9_), some (.inl k_)], [.inl 0, .inr (.inr (some (68, 0))), .inl (3 * (S_.1 6 0 11)), .inr (.inr (some (65, 0)))], S_)) rfl ?_
      refine sm_T_iald (n := 4) rfl rfl (by omega) (by omega) ?_
      have bx3_ : 0 ≤ S_.2.2.1 68 0 (0 : Int).toNat ∧ S_.2.2.1 68 0 (0 : Int).toNat ≤ 1012 := hI_.2 68 0 _
      refine sm_T_iast (n := 3072) rfl rfl (by omega) (by omega) ?_
      have hIx4_ : gi (sm_aI S_ 65 0 (3 * (S_.1 6 0 11)).toNat (S_.2.2.1 68 0 (0 : Int).toNat)) := gi_aI hI_ (show (-1) ≤ (S_.2.2.1 68 0 (0 : Int).toNat) ∧ (S_.2.2.1 68 0 (0 : Int).toNat) ≤ 1012 from ⟨by omega, by omega⟩)
      have hFx5_ : ai_fr (sx_W vw_102) S0_ (sm_aI S_ 65 0 (3 * (S_.1 6 0 11)).toNat (S_.2.2.1 68 0 (0 : Int).toNat)) := ai_fr_tr hF_ (ai_fr_aI rfl)
      refine sm_T_go 5 (c1 := (131, [some (.inr (.inr (some (6, 0)))), some (.inl th9_), some (.inl k_)], [.inl (S_.1 6 0 11), .inl 3, .inr (.inr (some (65, 0)))], sm_aI S_ 65 0 (3 * (S_.1 6 0 11)).toNat (S_.2.2.1 68 0 (0 : Int).toNat))) rfl ?_
      refine sm_T_bin (w := 3 * (S_.1 6 0 11)) rfl (bi_mul (by omega) (by omega) (by omega)) ?_ -- pc_ 131
      refine sm_T_go 1 (c1 := (133, [some (.inr (.inr (some (6, 0)))), some (.inl th9_), some (.inl k_)], [.inl 1, .inl (3 * (S_.1 6 0 11)), .inr (.inr (some (65, 0)))], sm_aI S_ 65 0 (3 * (S_.1 6 0 11)).toNat (S_.2.2.1 68 0 (0 : Int).toNat))) rfl ?_
      refine sm_T_bin (w := 3 * (S_.1 6 0 11) + 1) rfl (bi_add (by omega) (by omega) (by omega)) ?_ -- pc_ 133
      refine sm_T_go 3 (c1 := (139, [some (.inr (.inr (some (6, 0)))), some (.inl th9_), some (.inl k_)], [.inl 1, .inr (.inr (some (68, 0))), .inl (3 * (S_.1 6 0 11) + 1), .inr (.inr (some (65, 0)))], sm_aI S_ 65 0 (3 * (S_.1 6 0 11)).toNat (S_.2.2.1 68 0 (0 : Int).toNat))) rfl ?_
      refine sm_T_iald (n := 4) rfl rfl (by omega) (by omega) ?_
      have bx6_ : 0 ≤ S_.2.2.1 68 0 (1 : Int).toNat ∧ S_.2.2.1 68 0 (1 : Int).toNat ≤ 1012 := hI_.2 68 0 _
      refine sm_T_go 0 (c1 := (140, [some (.inr (.inr (some (6, 0)))), some (.inl th9_), some (.inl k_)], [.inl (S_.2.2.1 68 0 (1 : Int).toNat), .inl (3 * (S_.1 6 0 11) + 1), .inr (.inr (some (65, 0)))], sm_aI S_ 65 0 (3 * (S_.1 6 0 11)).toNat (S_.2.2.1 68 0 (0 : Int).toNat))) rfl ?_
      refine sm_T_iast (n := 3072) rfl rfl (by omega) (by omega) ?_
      have hIx7_ : gi (sm_aI (sm_aI S_ 65 0 (3 * (S_.1 6 0 11)).toNat (S_.2.2.1 68 0 (0 : Int).toNat)) 65 0 (3 * (S_.1 6 0 11) + 1).toNat (S_.2.2.1 68 0 (1 : Int).toNat)) := gi_aI hIx4_ (show (-1) ≤ (S_.2.2.1 68 0 (1 : Int).toNat) ∧ (S_.2.2.1 68 0 (1 : Int).toNat) ≤ 1012 from ⟨by omega, by omega⟩)
      have hFx8_ : ai_fr (sx_W vw_102) S0_ (sm_aI (sm_aI S_ 65 0 (3 * (S_.1 6 0 11)).toNat (S_.2.2.1 68 0 (0 : Int).toNat)) 65 0 (3 * (S_.1 6 0 11) + 1).toNat (S_.2.2.1 68 0 (1 : Int).toNat)) := ai_fr_tr hFx5_ (ai_fr_aI rfl)
      refine sm_T_go 5 (c1 := (150, [some (.inr (.inr (some (6, 0)))), some (.inl th9_), some (.inl k_)], [.inl (S_.1 6 0 11), .inl 3, .inr (.inr (some (65, 0)))], sm_aI (sm_aI S_ 65 0 (3 * (S_.1 6 0 11)).toNat (S_.2.2.1 68 0 (0 : Int).toNat)) 65 0 (3 * (S_.1 6 0 11) + 1).toNat (S_.2.2.1 68 0 (1 : Int).toNat))) rfl ?_
      refine sm_T_bin (w := 3 * (S_.1 6 0 11)) rfl (bi_mul (by omega) (by omega) (by omega)) ?_ -- pc_ 150
      refine sm_T_go 1 (c1 := (152, [some (.inr (.inr (some (6, 0)))), some (.inl th9_), some (.inl k_)], [.inl 2, .inl (3 * (S_.1 6 0 11)), .inr (.inr (some (65, 0)))], sm_aI (sm_aI S_ 65 0 (3 * (S_.1 6 0 11)).toNat (S_.2.2.1 68 0 (0 : Int).toNat)) 65 0 (3 * (S_.1 6 0 11) + 1).toNat (S_.2.2.1 68 0 (1 : Int).toNat))) rfl ?_
      refine sm_T_bin (w := 3 * (S_.1 6 0 11) + 2) rfl (bi_add (by omega) (by omega) (by omega)) ?_ -- pc_ 152
      refine sm_T_go 1 (c1 := (154, [some (.inr (.inr (some (6, 0)))), some (.inl th9_), some (.inl k_)], [.inl th9_, .inl (3 * (S_.1 6 0 11) + 2), .inr (.inr (some (65, 0)))], sm_aI (sm_aI S_ 65 0 (3 * (S_.1 6 0 11)).toNat (S_.2.2.1 68 0 (0 : Int).toNat)) 65 0 (3 * (S_.1 6 0 11) + 1).toNat (S_.2.2.1 68 0 (1 : Int).toNat))) rfl ?_
      refine sm_T_iast (n := 3072) rfl rfl (by omega) (by omega) ?_
      have hIx9_ : gi (sm_aI (sm_aI (sm_aI S_ 65 0 (3 * (S_.1 6 0 11)).toNat (S_.2.2.1 68 0 (0 : Int).toNat)) 65 0 (3 * (S_.1 6 0 11) + 1).toNat (S_.2.2.1 68 0 (1 : Int).toNat)) 65 0 (3 * (S_.1 6 0 11) + 2).toNat th9_) := gi_aI hIx7_ (show (-1) ≤ th9_ ∧ th9_ ≤ 1012 from ⟨by omega, by omega⟩)
      have hFx10_ : ai_fr (sx_W vw_102) S0_ (sm_aI (sm_aI (sm_aI S_ 65 0 (3 * (S_.1 6 0 11)).toNat (S_.2.2.1 68 0 (0 : Int).toNat)) 65 0 (3 * (S_.1 6 0 11) + 1).toNat (S_.2.2.1 68 0 (1 : Int).toNat)) 65 0 (3 * (S_.1 6 0 11) + 2).toNat th9_) := ai_fr_tr hFx8_ (ai_fr_aI rfl)
      refine sm_T_go 4 (c1 := (161, [some (.inr (.inr (some (6, 0)))), some (.inl th9_), some (.inl k_)], [.inl 1, .inl (S_.1 6 0 11), .inr (.inr (some (6, 0)))], sm_aI (sm_aI (sm_aI S_ 65 0 (3 * (S_.1 6 0 11)).toNat (S_.2.2.1 68 0 (0 : Int).toNat)) 65 0 (3 * (S_.1 6 0 11) + 1).toNat (S_.2.2.1 68 0 (1 : Int).toNat)) 65 0 (3 * (S_.1 6 0 11) + 2).toNat th9_)) rfl ?_
      refine sm_T_bin (w := (S_.1 6 0 11) + 1) rfl (bi_add (by omega) (by omega) (by omega)) ?_ -- pc_ 161
      have hIx11_ : gi (sm_pI (sm_aI (sm_aI (sm_aI S_ 65 0 (3 * (S_.1 6 0 11)).toNat (S_.2.2.1 68 0 (0 : Int).toNat)) 65 0 (3 * (S_.1 6 0 11) + 1).toNat (S_.2.2.1 68 0 (1 : Int).toNat)) 65 0 (3 * (S_.1 6 0 11) + 2).toNat th9_) 6 0 11 ((S_.1 6 0 11) + 1)) := gi_pI hIx9_ (show 0 ≤ (S_.1 6 0 11) + 1 ∧ (S_.1 6 0 11) + 1 ≤ 1024 from ⟨by omega, by omega⟩)
      have hFx12_ : ai_fr (sx_W vw_102) S0_ (sm_pI (sm_aI (sm_aI (sm_aI S_ 65 0 (3 * (S_.1 6 0 11)).toNat (S_.2.2.1 68 0 (0 : Int).toNat)) 65 0 (3 * (S_.1 6 0 11) + 1).toNat (S_.2.2.1 68 0 (1 : Int).toNat)) 65 0 (3 * (S_.1 6 0 11) + 2).toNat th9_) 6 0 11 ((S_.1 6 0 11) + 1)) := ai_fr_tr hFx10_ (ai_fr_pI rfl)
      refine sm_T_go 1 (c1 := (165, [some (.inr (.inr (some (6, 0)))), some (.inl th9_), some (.inl k_)], [], sm_pI (sm_aI (sm_aI (sm_aI S_ 65 0 (3 * (S_.1 6 0 11)).toNat (S_.2.2.1 68 0 (0 : Int).toNat)) 65 0 (3 * (S_.1 6 0 11) + 1).toNat (S_.2.2.1 68 0 (1 : Int).toNat)) 65 0 (3 * (S_.1 6 0 11) + 2).toNat th9_) 6 0 11 ((S_.1 6 0 11) + 1))) rfl ?_
      refine sm_T_rv rfl ⟨_, _, rfl, rfl, hIx11_, hFx12_, ?_⟩
      rw [hS_]
      have m0_ := hms_ 0 (by omega) (by omega)
      have m1_ := hms_ 1 (by omega) (by omega)
      have R_ : ∀ i_, (sm_pI (sm_aI (sm_aI (sm_aI S0_ 65 0 (3 * S0_.1 6 0 11).toNat (S0_.2.2.1 68 0 (0 : Int).toNat)) 65 0 (3 * S0_.1 6 0 11 + 1).toNat (S0_.2.2.1 68 0 (1 : Int).toNat)) 65 0 (3 * S0_.1 6 0 11 + 2).toNat th9_) 6 0 11 (S0_.1 6 0 11 + 1)).2.2.1 65 0 i_ = if i_ = (3 * S0_.1 6 0 11 + 2).toNat then th9_ else if i_ = (3 * S0_.1 6 0 11 + 1).toNat then S0_.2.2.1 68 0 1 else if i_ = (3 * S0_.1 6 0 11).toNat then S0_.2.2.1 68 0 0 else S0_.2.2.1 65 0 i_ := fun i_ => by rw [rd_fa, rd_eq, rd_eq, rd_eq]; rfl
      refine ⟨fun c_ hc_ => ?_, by rw [rf_eq]; omega⟩
      rw [rf_eq] at hc_
      rw [R_, R_, R_]
      by_cases y_ : (c_ : Int) = S0_.1 6 0 11
      · rw [if_neg (by omega), if_neg (by omega), if_pos (by omega), if_neg (by omega), if_pos (by omega), if_pos (by omega)]; exact ⟨m0_, m1_, ht_⟩
      · rw [if_neg (by omega), if_neg (by omega), if_neg (by omega), if_neg (by omega), if_neg (by omega), if_neg (by omega), if_neg (by omega), if_neg (by omega), if_neg (by omega)]; exact hcs_ c_ (by omega)
    · have cx2_ : ¬ ((S_.1 6 0 11) ≤ k_) := of_decide_eq_false cx2_
      refine sm_T_go 4 (c1 := (54, [some (.inr (.inr (some (6, 0)))), some (.inl th9_), some (.inl k_)], [.inl k_, .inl 3, .inr (.inr (some (65, 0)))], S_)) rfl ?_
      refine sm_T_bin (w := 3 * k_) rfl (bi_mul (by omega) (by omega) (by omega)) ?_ -- pc_ 54
      refine sm_T_iald (n := 3072) rfl rfl (by omega) (by omega) ?_
      have bx13_ : (-1) ≤ S_.2.2.1 65 0 (3 * k_).toNat ∧ S_.2.2.1 65 0 (3 * k_).toNat ≤ 1012 := hI_.2 65 0 _
      refine sm_T_go 3 (c1 := (61, [some (.inr (.inr (some (6, 0)))), some (.inl th9_), some (.inl k_)], [.inl 0, .inr (.inr (some (68, 0))), .inl (S_.2.2.1 65 0 (3 * k_).toNat)], S_)) rfl ?_
      refine sm_T_iald (n := 4) rfl rfl (by omega) (by omega) ?_
      have bx14_ : 0 ≤ S_.2.2.1 68 0 (0 : Int).toNat ∧ S_.2.2.1 68 0 (0 : Int).toNat ≤ 1012 := hI_.2 68 0 _
      refine sm_T_br (a := 1) (z := 37) rfl (fun cx15_ => ?_) (fun cx15_ => ?_)
      · have cx15_ : (S_.2.2.1 65 0 (3 * k_).toNat) ≠ (S_.2.2.1 68 0 (0 : Int).toNat) := of_decide_eq_true cx15_
        refine sm_T_inc (a := 2) (z := 1) (v := k_) (w := k_ + 1) rfl rfl (by omega) (by omega) (by omega) ?_ -- pc_ 99
        refine sm_T_go 1 (c1 := (40, [some (.inr (.inr (some (6, 0)))), some (.inl th9_), some (.inl (k_ + 1))], [], S_)) rfl ?_
        refine ih_ th9_ (k_ + 1) S_ hI_ hF_ ⟨?_, ?_, ?_, trivial⟩ ?_
        · omega
        · exact hS_
        · exact ht_
        · omega
      · have cx15_ : ¬ ((S_.2.2.1 65 0 (3 * k_).toNat) ≠ (S_.2.2.1 68 0 (0 : Int).toNat)) := of_decide_eq_false cx15_
        refine sm_T_go 4 (c1 := (71, [some (.inr (.inr (some (6, 0)))), some (.inl th9_), some (.inl k_)], [.inl k_, .inl 3, .inr (.inr (some (65, 0)))], S_)) rfl ?_
        refine sm_T_bin (w := 3 * k_) rfl (bi_mul (by omega) (by omega) (by omega)) ?_ -- pc_ 71
        refine sm_T_go 1 (c1 := (73, [some (.inr (.inr (some (6, 0)))), some (.inl th9_), some (.inl k_)], [.inl 1, .inl (3 * k_), .inr (.inr (some (65, 0)))], S_)) rfl ?_
        refine sm_T_bin (w := 3 * k_ + 1) rfl (bi_add (by omega) (by omega) (by omega)) ?_ -- pc_ 73
        refine sm_T_iald (n := 3072) rfl rfl (by omega) (by omega) ?_
        have bx16_ : (-1) ≤ S_.2.2.1 65 0 (3 * k_ + 1).toNat ∧ S_.2.2.1 65 0 (3 * k_ + 1).toNat ≤ 1012 := hI_.2 65 0 _
        refine sm_T_go 3 (c1 := (80, [some (.inr (.inr (some (6, 0)))), some (.inl th9_), some (.inl k_)], [.inl 1, .inr (.inr (some (68, 0))), .inl (S_.2.2.1 65 0 (3 * k_ + 1).toNat)], S_)) rfl ?_
        refine sm_T_iald (n := 4) rfl rfl (by omega) (by omega) ?_
        have bx17_ : 0 ≤ S_.2.2.1 68 0 (1 : Int).toNat ∧ S_.2.2.1 68 0 (1 : Int).toNat ≤ 1012 := hI_.2 68 0 _
        refine sm_T_br (a := 1) (z := 18) rfl (fun cx18_ => ?_) (fun cx18_ => ?_)
        · have cx18_ : (S_.2.2.1 65 0 (3 * k_ + 1).toNat) ≠ (S_.2.2.1 68 0 (1 : Int).toNat) := of_decide_eq_true cx18_
          refine sm_T_inc (a := 2) (z := 1) (v := k_) (w := k_ + 1) rfl rfl (by omega) (by omega) (by omega) ?_ -- pc_ 99
          refine sm_T_go 1 (c1 := (40, [some (.inr (.inr (some (6, 0)))), some (.inl th9_), some (.inl (k_ + 1))], [], S_)) rfl ?_
          refine ih_ th9_ (k_ + 1) S_ hI_ hF_ ⟨?_, ?_, ?_, trivial⟩ ?_
          · omega
          · exact hS_
          · exact ht_
          · omega
        · have cx18_ : ¬ ((S_.2.2.1 65 0 (3 * k_ + 1).toNat) ≠ (S_.2.2.1 68 0 (1 : Int).toNat)) := of_decide_eq_false cx18_
          refine sm_T_go 4 (c1 := (90, [some (.inr (.inr (some (6, 0)))), some (.inl th9_), some (.inl k_)], [.inl k_, .inl 3, .inr (.inr (some (65, 0)))], S_)) rfl ?_
          refine sm_T_bin (w := 3 * k_) rfl (bi_mul (by omega) (by omega) (by omega)) ?_ -- pc_ 90
          refine sm_T_go 1 (c1 := (92, [some (.inr (.inr (some (6, 0)))), some (.inl th9_), some (.inl k_)], [.inl 2, .inl (3 * k_), .inr (.inr (some (65, 0)))], S_)) rfl ?_
          refine sm_T_bin (w := 3 * k_ + 2) rfl (bi_add (by omega) (by omega) (by omega)) ?_ -- pc_ 92
          refine sm_T_iald (n := 3072) rfl rfl (by omega) (by omega) ?_
          have bx19_ : (-1) ≤ S_.2.2.1 65 0 (3 * k_ + 2).toNat ∧ S_.2.2.1 65 0 (3 * k_ + 2).toNat ≤ 1012 := hI_.2 65 0 _
          refine sm_T_go 1 (c1 := (95, [some (.inr (.inr (some (6, 0)))), some (.inl th9_), some (.inl k_)], [.inl th9_, .inl (S_.2.2.1 65 0 (3 * k_ + 2).toNat)], S_)) rfl ?_
          refine sm_T_br (a := 1) (z := 4) rfl (fun cx20_ => ?_) (fun cx20_ => ?_)
          · have cx20_ : (S_.2.2.1 65 0 (3 * k_ + 2).toNat) ≠ th9_ := of_decide_eq_true cx20_
            refine sm_T_inc (a := 2) (z := 1) (v := k_) (w := k_ + 1) rfl rfl (by omega) (by omega) (by omega) ?_ -- pc_ 99
            refine sm_T_go 1 (c1 := (40, [some (.inr (.inr (some (6, 0)))), some (.inl th9_), some (.inl (k_ + 1))], [], S_)) rfl ?_
            refine ih_ th9_ (k_ + 1) S_ hI_ hF_ ⟨?_, ?_, ?_, trivial⟩ ?_
            · omega
            · exact hS_
            · exact ht_
            · omega
          · have cx20_ : ¬ ((S_.2.2.1 65 0 (3 * k_ + 2).toNat) ≠ th9_) := of_decide_eq_false cx20_
            refine sm_T_rv rfl ⟨_, _, rfl, rfl, hI_, hF_, ?_⟩
            rw [hS_]
            exact ⟨hcs_, Int.le_refl _⟩
set_option maxHeartbeats 400000 in
set_option maxRecDepth 20000 in
theorem vc_102 {sc_ : Nat × (Nat → Int)} (P_ : Int → Prop) (S0_ : sm_S) (hI_ : gi S0_) (h3_ : 2 ≤ S0_.1 6 0 13) (hms_ : mms P_ S0_ (S0_.1 6 0 13) (S0_.1 6 0 13)) (hcs_ : mcs P_ S0_) : sm_T (mt_P sc_) 0 102 (0, [some (.inr (.inr (some (6, 0)))), none, none], [], S0_) (fun ro9_ => ∃ u_ S1_, ro9_ = (.inl u_, S1_, 0) ∧ vq_102 P_ S0_ u_ S1_) := by
  have hF_ : ai_fr (sx_W vw_102) S0_ S0_ := ai_fr_rf
  have ck0_ : 0 ≤ S0_.1 6 0 11 ∧ S0_.1 6 0 11 ≤ 1024 := hI_.1 6 0 11 rfl
  have cm0_ : 0 ≤ S0_.1 6 0 13 ∧ S0_.1 6 0 13 ≤ 4 := hI_.1 6 0 13 rfl
  have bx1_ : 0 ≤ S0_.1 6 0 13 ∧ S0_.1 6 0 13 ≤ 4 := hI_.1 6 0 13 rfl
  refine sm_T_go 3 (c1 := (5, [some (.inr (.inr (some (6, 0)))), none, none], [.inl 3, .inl (S0_.1 6 0 13)], S0_)) rfl ?_
  refine sm_T_br (a := 4) (z := 13) rfl (fun cx2_ => ?_) (fun cx2_ => ?_)
  · have cx2_ : 3 < (S0_.1 6 0 13) := of_decide_eq_true cx2_
    refine sm_T_rv rfl ⟨_, _, rfl, rfl, hI_, hF_, ?_⟩
    exact ⟨hcs_, Int.le_refl _⟩
  · have cx2_ : ¬ (3 < (S0_.1 6 0 13)) := of_decide_eq_false cx2_
    have bx3_ : 0 ≤ S0_.1 6 0 11 ∧ S0_.1 6 0 11 ≤ 1024 := hI_.1 6 0 11 rfl
    refine sm_T_go 3 (c1 := (15, [some (.inr (.inr (some (6, 0)))), none, none], [.inl 1024, .inl (S0_.1 6 0 11)], S0_)) rfl ?_
    refine sm_T_br (a := 1) (z := 4) rfl (fun cx4_ => ?_) (fun cx4_ => ?_)
    · have cx4_ : (S0_.1 6 0 11) ≠ 1024 := of_decide_eq_true cx4_
      refine sm_T_go 3 (c1 := (24, [some (.inr (.inr (some (6, 0)))), none, none], [.inl 3, .inl (S0_.1 6 0 13)], S0_)) rfl ?_
      refine sm_T_br (a := 1) (z := 12) rfl (fun cx5_ => ?_) (fun cx5_ => ?_)
      · have cx5_ : (S0_.1 6 0 13) ≠ 3 := of_decide_eq_true cx5_
        refine sm_T_go 4 (c1 := (40, [some (.inr (.inr (some (6, 0)))), some (.inl (-1)), some (.inl 0)], [], S0_)) rfl ?_
        refine (vl_102 P_ S0_ h3_ hms_ hcs_ _) (-1) 0 S0_ hI_ hF_ ⟨?_, ?_, ?_, trivial⟩ (Nat.lt_succ_self _)
        · omega
        · rfl
        · first | (left; rfl) | (right; exact hms_ 2 (by omega) (by omega))
      · have cx5_ : ¬ ((S0_.1 6 0 13) ≠ 3) := of_decide_eq_false cx5_
        refine sm_T_go 3 (c1 := (32, [some (.inr (.inr (some (6, 0)))), none, none], [.inl 2, .inr (.inr (some (68, 0)))], S0_)) rfl ?_
        refine sm_T_iald (n := 4) rfl rfl (by omega) (by omega) ?_
        have bx6_ : 0 ≤ S0_.2.2.1 68 0 (2 : Int).toNat ∧ S0_.2.2.1 68 0 (2 : Int).toNat ≤ 1012 := hI_.2 68 0 _
        refine sm_T_go 4 (c1 := (40, [some (.inr (.inr (some (6, 0)))), some (.inl (S0_.2.2.1 68 0 (2 : Int).toNat)), some (.inl 0)], [], S0_)) rfl ?_
        refine (vl_102 P_ S0_ h3_ hms_ hcs_ _) (S0_.2.2.1 68 0 (2 : Int).toNat) 0 S0_ hI_ hF_ ⟨?_, ?_, ?_, trivial⟩ (Nat.lt_succ_self _)
        · omega
        · rfl
        · first | (left; rfl) | (right; exact hms_ 2 (by omega) (by omega))
    · have cx4_ : ¬ ((S0_.1 6 0 11) ≠ 1024) := of_decide_eq_false cx4_
      refine sm_T_rv rfl ⟨_, _, rfl, rfl, hI_, hF_, ?_⟩
      exact ⟨hcs_, Int.le_refl _⟩
