/-! 99.zg8c -/
section
/-! Builder.countReached -/
def vw_52 : sx_Wl := ([], [33], [])
def vq_52 (dd_ : Nat) (F_ : Nat) (S0_ : sm_S) (u_ : Option sm_V) (S1_ : sm_S) : Prop := ∃ v_ : Int, u_ = some (.inl v_) ∧ gi S1_ ∧ ai_fr (sx_W vw_52) S0_ S1_ ∧ (idf dd_ S0_ S1_ ∧ (1 ≤ v_ ∧ v_ ≤ 64))
set_option maxHeartbeats 2000000 in
theorem vl_52 {sc_ : Nat × (Nat → Int)} (dd_ : Nat) (F_ : Nat) (S0_ : sm_S) (hd_ : S0_.2.1 1 0 1 = some dd_) (hg_ : dgr dd_ F_ S0_) (hr_ : S0_.1 3 dd_ 2 ≤ 6) (ht_ : dtb dd_ S0_) (hb_ : 0 ≤ S0_.1 3 dd_ 5 ∧ S0_.1 3 dd_ 5 < 2 ^ (S0_.1 3 dd_ 2).toNat) : ∀ nn_ : Nat, (∀ (st_ : Int) (tl_ : Int) (hd9_ : Int) (S_ : sm_S), gi S_ → ai_fr (sx_W vw_52) S0_ S_ → ((st_ = 2 ^ (S0_.1 3 dd_ 2).toNat) ∧ (∀ j9_ : Nat, (j9_ : Int) < st_ → S_.2.2.1 33 0 j9_ = 0 ∨ S_.2.2.1 33 0 j9_ = 1) ∧ (∀ j9_ : Nat, (j9_ : Int) < tl_ → 0 ≤ S_.2.2.1 33 0 (st_.toNat + j9_) ∧ S_.2.2.1 33 0 (st_.toNat + j9_) < st_) ∧ (tl_ = (cn1 (fun k9_ => S_.2.2.1 33 0 k9_) st_.toNat : Int)) ∧ (1 ≤ tl_ ∧ 0 ≤ hd9_) ∧ (idf dd_ S0_ S_) ∧ True) → ((10000 * (100 - hd9_) + 5000).toNat) < nn_ → sm_T (mt_P sc_) 1 52 (48, [some (.inr (.inr (some (1, 0)))), some (.inl st_), some (.inl tl_), some (.inl hd9_), none, none, none], [], S_) (fun ro9_ => ∃ u_ S1_, ro9_ = (.inl u_, S1_, 0) ∧ vq_52 dd_ F_ S0_ u_ S1_)) ∧ (∀ (st_ : Int) (tl_ : Int) (hd9_ : Int) (he_ : Int) (ip_ : Int) (sq_ : Int) (S_ : sm_S), gi S_ → ai_fr (sx_W vw_52) S0_ S_ → ((st_ = 2 ^ (S0_.1 3 dd_ 2).toNat) ∧ (∀ j9_ : Nat, (j9_ : Int) < st_ → S_.2.2.1 33 0 j9_ = 0 ∨ S_.2.2.1 33 0 j9_ = 1) ∧ (∀ j9_ : Nat, (j9_ : Int) < tl_ → 0 ≤ S_.2.2.1 33 0 (st_.toNat + j9_) ∧ S_.2.2.1 33 0 (st_.toNat + j9_) < st_) ∧ (tl_ = (cn1 (fun k9_ => S_.2.2.1 33 0 k9_) st_.toNat : Int)) ∧ (1 ≤ tl_ ∧ 0 ≤ hd9_ ∧ hd9_ < st_ ∧ 0 ≤ ip_ ∧ ip_ ≤ 4096 ∧ 0 ≤ sq_ ∧ sq_ < st_) ∧ (he_ = i_shl sq_ (S0_.1 3 dd_ 1)) ∧ (idf dd_ S0_ S_) ∧ True) → ((10000 * (100 - hd9_) + 4500 - ip_).toNat) < nn_ → sm_T (mt_P sc_) 1 52 (79, [some (.inr (.inr (some (1, 0)))), some (.inl st_), some (.inl tl_), some (.inl hd9_), some (.inl he_), some (.inl ip_), none], [], S_) (fun ro9_ => ∃ u_ S1_, ro9_ = (.inl u_, S1_, 0) ∧ vq_52 dd_ F_ S0_ u_ S1_)) := by
  intro nn_
  induction nn_ with
  | zero => exact ⟨fun _ _ _ _ _ _ _ h_ => absurd h_ (Nat.not_lt_zero _), fun _ _ _ _ _ _ _ _ _ _ h_ => absurd h_ (Nat.not_lt_zero _)⟩
  | succ nn_ ih_ =>
    refine ⟨?_, ?_⟩
    · rintro st_ tl_ hd9_ S_ hI_ hF_ ⟨hs_, hmz_, hq_, hc_, h0_, hD_, -⟩ hm_
      have e1_ : S_.1 3 dd_ 1 = S0_.1 3 dd_ 1 := hF_.1 3 dd_ 1 rfl
      have e2_ : S_.1 3 dd_ 2 = S0_.1 3 dd_ 2 := hF_.1 3 dd_ 2 rfl
      have f47_ : S_.2.2.1 47 (0 + dd_) = S0_.2.2.1 47 (0 + dd_) := fr_arr hF_ rfl
      have g1_ := hg_.1
      have st64_ := pw_le (n := (S0_.1 3 dd_ 2).toNat) (m := 6) (by omega)
      have st0_ := pw_pos (S0_.1 3 dd_ 2).toNat
      have cl9_ := cn1_le (fun k9_ => S_.2.2.1 33 0 k9_) st_.toNat
      refine sm_T_go 2 (c1 := (50, [some (.inr (.inr (some (1, 0)))), some (.inl st_), some (.inl tl_), some (.inl hd9_), none, none, none], [.inl tl_, .inl hd9_], S_)) rfl ?_
      refine sm_T_br (a := 3) (z := 104) rfl (fun cx1_ => ?_) (fun cx1_ => ?_)
      · have cx1_ : tl_ ≤ hd9_ := of_decide_eq_true cx1_
        refine sm_T_go 1 (c1 := (155, [some (.inr (.inr (some (1, 0)))), some (.inl st_), some (.inl tl_), some (.inl hd9_), none, none, none], [.inl tl_], S_)) rfl ?_
        refine sm_T_ri rfl ⟨_, _, rfl, _, rfl, hI_, hF_, ?_⟩
        refine ⟨hD_, ?_⟩
        omega
      · have cx1_ : ¬ (tl_ ≤ hd9_) := of_decide_eq_false cx1_
        refine sm_T_go 2 (c1 := (55, [some (.inr (.inr (some (1, 0)))), some (.inl st_), some (.inl tl_), some (.inl hd9_), none, none, none], [.inl st_, .inl hd9_], S_)) rfl ?_
        refine sm_T_br (a := 3) (z := 99) rfl (fun cx2_ => ?_) (fun cx2_ => ?_)
        · have cx2_ : st_ ≤ hd9_ := of_decide_eq_true cx2_
          refine sm_T_go 1 (c1 := (155, [some (.inr (.inr (some (1, 0)))), some (.inl st_), some (.inl tl_), some (.inl hd9_), none, none, none], [.inl tl_], S_)) rfl ?_
          refine sm_T_ri rfl ⟨_, _, rfl, _, rfl, hI_, hF_, ?_⟩
          refine ⟨hD_, ?_⟩
          omega
        · have cx2_ : ¬ (st_ ≤ hd9_) := of_decide_eq_false cx2_
          have hq9_ := hq_ hd9_.toNat (by omega)
          rw [show st_.toNat + hd9_.toNat = (st_ + hd9_).toNat by omega] at hq9_
          refine sm_T_go 4 (c1 := (64, [some (.inr (.inr (some (1, 0)))), some (.inl st_), some (.inl tl_), some (.inl hd9_), none, none, none], [.inl hd9_, .inl st_, .inr (.inr (some (33, 0)))], S_)) rfl ?_
          refine sm_T_bin (w := st_ + hd9_) rfl (bi_add (by omega) (by omega) (by omega)) ?_
          refine sm_T_iald (n := 1013) rfl rfl (by omega) (by omega) ?_
          have bx3_ : 0 ≤ S_.2.2.1 33 0 (st_ + hd9_).toNat ∧ S_.2.2.1 33 0 (st_ + hd9_).toNat ≤ 1012 := hI_.2 33 0 _
          refine sm_T_go 1 (c1 := (67, [some (.inr (.inr (some (1, 0)))), some (.inl st_), some (.inl tl_), some (.inl hd9_), none, none, none], [.inr (.inr (some (1, 0))), .inl (S_.2.2.1 33 0 (st_ + hd9_).toNat)], S_)) rfl ?_
          refine sm_T_gr rfl rfl ((hF_.2.1 1 0 1 rfl).trans hd_) ?_
          have bx4_ : 0 ≤ S_.1 3 dd_ 1 ∧ S_.1 3 dd_ 1 ≤ 320 := hI_.1 3 dd_ 1 rfl
          refine sm_T_go 1 (c1 := (73, [some (.inr (.inr (some (1, 0)))), some (.inl st_), some (.inl tl_), some (.inl hd9_), none, none, none], [.inl (S_.1 3 dd_ 1), .inl (S_.2.2.1 33 0 (st_ + hd9_).toNat)], S_)) rfl ?_
          refine sm_T_bin (w := (i_shl (S_.2.2.1 33 0 (st_ + hd9_).toNat) (S_.1 3 dd_ 1))) rfl rfl ?_
          refine sm_T_go 3 (c1 := (79, [some (.inr (.inr (some (1, 0)))), some (.inl st_), some (.inl tl_), some (.inl hd9_), some (.inl (i_shl (S_.2.2.1 33 0 (st_ + hd9_).toNat) (S_.1 3 dd_ 1))), some (.inl 0), none], [], S_)) rfl ?_
          refine ih_.2 st_ tl_ hd9_ (i_shl (S_.2.2.1 33 0 (st_ + hd9_).toNat) (S_.1 3 dd_ 1)) 0 (S_.2.2.1 33 0 (st_ + hd9_).toNat) S_ hI_ hF_ ⟨?_, ?_, ?_, ?_, ?_, ?_, ?_, trivial⟩ ?_
          · exact hs_
          · exact hmz_
          · exact hq_
          · exact hc_
          · omega
          · (rw [e1_])
          · exact hD_
          · omega
    · rintro st_ tl_ hd9_ he_ ip_ sq_ S_ hI_ hF_ ⟨hs_, hmz_, hq_, hc_, h0_, hh_, hD_, -⟩ hm_
      have e1_ : S_.1 3 dd_ 1 = S0_.1 3 dd_ 1 := hF_.1 3 dd_ 1 rfl
      have e2_ : S_.1 3 dd_ 2 = S0_.1 3 dd_ 2 := hF_.1 3 dd_ 2 rfl
      have f47_ : S_.2.2.1 47 (0 + dd_) = S0_.2.2.1 47 (0 + dd_) := fr_arr hF_ rfl
      have g1_ := hg_.1
      have st64_ := pw_le (n := (S0_.1 3 dd_ 2).toNat) (m := 6) (by omega)
      have st0_ := pw_pos (S0_.1 3 dd_ 2).toNat
      have cl9_ := cn1_le (fun k9_ => S_.2.2.1 33 0 k9_) st_.toNat
      refine sm_T_go 3 (c1 := (83, [some (.inr (.inr (some (1, 0)))), some (.inl st_), some (.inl tl_), some (.inl hd9_), some (.inl he_), some (.inl ip_), none], [.inr (.inr (some (1, 0))), .inl 1, .inl ip_], S_)) rfl ?_
      refine sm_T_gr rfl rfl ((hF_.2.1 1 0 1 rfl).trans hd_) ?_
      have bx1_ : 0 ≤ S_.1 3 dd_ 1 ∧ S_.1 3 dd_ 1 ≤ 320 := hI_.1 3 dd_ 1 rfl
      refine sm_T_go 1 (c1 := (89, [some (.inr (.inr (some (1, 0)))), some (.inl st_), some (.inl tl_), some (.inl hd9_), some (.inl he_), some (.inl ip_), none], [.inl (S_.1 3 dd_ 1), .inl 1, .inl ip_], S_)) rfl ?_
      refine sm_T_bin (w := (i_shl 1 (S_.1 3 dd_ 1))) rfl rfl ?_
      have bx2_ := i_shl1 (e := (S_.1 3 dd_ 1)) (by omega) (by omega)
      have hp_ := pw_le (n := ((S_.1 3 dd_ 1)).toNat) (m := 12) (by omega)
      have hp0_ := pw_pos ((S_.1 3 dd_ 1)).toNat
      have hk9_ : (2 : Int) ^ ((S_.1 3 dd_ 1)).toNat = 2 ^ (S0_.1 3 dd_ 1).toNat := by rw [e1_]
      refine sm_T_br (a := 3) (z := 58) rfl (fun cx6_ => ?_) (fun cx6_ => ?_)
      · have cx6_ : (i_shl 1 (S_.1 3 dd_ 1)) ≤ ip_ := of_decide_eq_true cx6_
        refine sm_T_inc (a := 3) (z := 1) (v := hd9_) (w := hd9_ + 1) rfl rfl (by omega) (by omega) (by omega) ?_
        refine sm_T_go 1 (c1 := (48, [some (.inr (.inr (some (1, 0)))), some (.inl st_), some (.inl tl_), some (.inl (hd9_ + 1)), some (.inl he_), some (.inl ip_), none], [], S_)) rfl ?_
        refine sm_T_wk [some (.inr (.inr (some (1, 0)))), some (.inl st_), some (.inl tl_), some (.inl (hd9_ + 1)), none, none, none] (by exact ⟨rfl, rfl, rfl, rfl, trivial⟩) ?_
        refine ih_.1 st_ tl_ (hd9_ + 1) S_ hI_ hF_ ⟨?_, ?_, ?_, ?_, ?_, ?_, trivial⟩ ?_
        · exact hs_
        · exact hmz_
        · exact hq_
        · exact hc_
        · omega
        · exact hD_
        · omega
      · have cx6_ : ¬ ((i_shl 1 (S_.1 3 dd_ 1)) ≤ ip_) := of_decide_eq_false cx6_
        have pt9_ := pat_b (s_ := sq_) (i_ := ip_) (R_ := (S0_.1 3 dd_ 2).toNat) (I_ := (S0_.1 3 dd_ 1).toNat) (by omega) (by omega) (by omega)
        have pt8_ := pw_le (n := (S0_.1 3 dd_ 2).toNat + (S0_.1 3 dd_ 1).toNat) (m := 12) (by omega)
        rw [show (((S0_.1 3 dd_ 1).toNat : Nat) : Int) = S0_.1 3 dd_ 1 by omega, ← hh_] at pt9_
        have tb9_ := ht_ (i_or he_ ip_).toNat (by omega)
        rw [← f47_] at tb9_
        have nx9_ := shr16 tb9_
        have hm9_ := hmz_ (S_.2.2.1 47 (0 + dd_) (i_or he_ ip_).toNat / 65536).toNat (by omega)
        refine sm_T_go 1 (c1 := (94, [some (.inr (.inr (some (1, 0)))), some (.inl st_), some (.inl tl_), some (.inl hd9_), some (.inl he_), some (.inl ip_), none], [.inr (.inr (some (1, 0)))], S_)) rfl ?_
        refine sm_T_gr rfl rfl ((hF_.2.1 1 0 1 rfl).trans hd_) ?_
        refine sm_T_go 3 (c1 := (104, [some (.inr (.inr (some (1, 0)))), some (.inl st_), some (.inl tl_), some (.inl hd9_), some (.inl he_), some (.inl ip_), none], [.inl ip_, .inl he_, .inr (.inr (some (47, (0 + dd_))))], S_)) rfl ?_
        refine sm_T_bin (w := (i_or he_ ip_)) rfl rfl ?_
        refine sm_T_iald (n := 4096) rfl rfl (by omega) (by omega) ?_
        have bx7_ : 0 ≤ S_.2.2.1 47 (0 + dd_) (i_or he_ ip_).toNat ∧ S_.2.2.1 47 (0 + dd_) (i_or he_ ip_).toNat ≤ 4194303 := hI_.2 47 (0 + dd_) _
        refine sm_T_go 1 (c1 := (108, [some (.inr (.inr (some (1, 0)))), some (.inl st_), some (.inl tl_), some (.inl hd9_), some (.inl he_), some (.inl ip_), none], [.inl 16, .inl (S_.2.2.1 47 (0 + dd_) (i_or he_ ip_).toNat)], S_)) rfl ?_
        refine sm_T_bin (w := ((S_.2.2.1 47 (0 + dd_) (i_or he_ ip_).toNat) / 65536)) rfl (bi_shr (k := 16) (by decide) (by omega) (by omega)) ?_
        refine sm_T_go 4 (c1 := (117, [some (.inr (.inr (some (1, 0)))), some (.inl st_), some (.inl tl_), some (.inl hd9_), some (.inl he_), some (.inl ip_), some (.inl ((S_.2.2.1 47 (0 + dd_) (i_or he_ ip_).toNat) / 65536))], [.inl ((S_.2.2.1 47 (0 + dd_) (i_or he_ ip_).toNat) / 65536), .inr (.inr (some (33, 0)))], S_)) rfl ?_
        refine sm_T_iald (n := 1013) rfl rfl (by omega) (by omega) ?_
        have bx8_ : 0 ≤ S_.2.2.1 33 0 ((S_.2.2.1 47 (0 + dd_) (i_or he_ ip_).toNat) / 65536).toNat ∧ S_.2.2.1 33 0 ((S_.2.2.1 47 (0 + dd_) (i_or he_ ip_).toNat) / 65536).toNat ≤ 1012 := hI_.2 33 0 _
        refine sm_T_b0 (a := 1) (z := 24) rfl (fun cx9_ => ?_) (fun cx9_ => ?_)
        · have cx9_ : (S_.2.2.1 33 0 ((S_.2.2.1 47 (0 + dd_) (i_or he_ ip_).toNat) / 65536).toNat) ≠ 0 := of_decide_eq_true cx9_
          refine sm_T_inc (a := 5) (z := 1) (v := ip_) (w := ip_ + 1) rfl rfl (by omega) (by omega) (by omega) ?_
          refine sm_T_go 1 (c1 := (79, [some (.inr (.inr (some (1, 0)))), some (.inl st_), some (.inl tl_), some (.inl hd9_), some (.inl he_), some (.inl (ip_ + 1)), some (.inl ((S_.2.2.1 47 (0 + dd_) (i_or he_ ip_).toNat) / 65536))], [], S_)) rfl ?_
          refine sm_T_wk [some (.inr (.inr (some (1, 0)))), some (.inl st_), some (.inl tl_), some (.inl hd9_), some (.inl he_), some (.inl (ip_ + 1)), none] (by exact ⟨rfl, rfl, rfl, rfl, rfl, rfl, trivial⟩) ?_
          refine ih_.2 st_ tl_ hd9_ he_ (ip_ + 1) sq_ S_ hI_ hF_ ⟨?_, ?_, ?_, ?_, ?_, ?_, ?_, trivial⟩ ?_
          · exact hs_
          · exact hmz_
          · exact hq_
          · exact hc_
          · omega
          · exact hh_
          · exact hD_
          · omega
        · have cx9_ : ¬ ((S_.2.2.1 33 0 ((S_.2.2.1 47 (0 + dd_) (i_or he_ ip_).toNat) / 65536).toNat) ≠ 0) := of_decide_eq_false cx9_
          refine sm_T_go 4 (c1 := (128, [some (.inr (.inr (some (1, 0)))), some (.inl st_), some (.inl tl_), some (.inl hd9_), some (.inl he_), some (.inl ip_), some (.inl ((S_.2.2.1 47 (0 + dd_) (i_or he_ ip_).toNat) / 65536))], [.inl 1, .inl ((S_.2.2.1 47 (0 + dd_) (i_or he_ ip_).toNat) / 65536), .inr (.inr (some (33, 0)))], S_)) rfl ?_
          refine sm_T_iast (n := 1013) rfl rfl (by omega) (by omega) ?_
          have hIx10_ : gi (sm_aI S_ 33 0 ((S_.2.2.1 47 (0 + dd_) (i_or he_ ip_).toNat) / 65536).toNat 1) := gi_aI hI_ (show 0 ≤ 1 ∧ 1 ≤ 1012 from ⟨by omega, by omega⟩)
          have hFx11_ : ai_fr (sx_W vw_52) S0_ (sm_aI S_ 33 0 ((S_.2.2.1 47 (0 + dd_) (i_or he_ ip_).toNat) / 65536).toNat 1) := ai_fr_tr hF_ (ai_fr_aI rfl)
          have hDx12_ : idf dd_ S0_ (sm_aI S_ 33 0 ((S_.2.2.1 47 (0 + dd_) (i_or he_ ip_).toNat) / 65536).toNat 1) := idf_aI hD_ (Or.inl (by decide))
          refine sm_T_go 4 (c1 := (135, [some (.inr (.inr (some (1, 0)))), some (.inl st_), some (.inl tl_), some (.inl hd9_), some (.inl he_), some (.inl ip_), some (.inl ((S_.2.2.1 47 (0 + dd_) (i_or he_ ip_).toNat) / 65536))], [.inl tl_, .inl st_, .inr (.inr (some (33, 0)))], sm_aI S_ 33 0 ((S_.2.2.1 47 (0 + dd_) (i_or he_ ip_).toNat) / 65536).toNat 1)) rfl ?_
          refine sm_T_bin (w := st_ + tl_) rfl (bi_add (by omega) (by omega) (by omega)) ?_
          refine sm_T_go 1 (c1 := (138, [some (.inr (.inr (some (1, 0)))), some (.inl st_), some (.inl tl_), some (.inl hd9_), some (.inl he_), some (.inl ip_), some (.inl ((S_.2.2.1 47 (0 + dd_) (i_or he_ ip_).toNat) / 65536))], [.inl ((S_.2.2.1 47 (0 + dd_) (i_or he_ ip_).toNat) / 65536), .inl (st_ + tl_), .inr (.inr (some (33, 0)))], sm_aI S_ 33 0 ((S_.2.2.1 47 (0 + dd_) (i_or he_ ip_).toNat) / 65536).toNat 1)) rfl ?_
          refine sm_T_iast (n := 1013) rfl rfl (by omega) (by omega) ?_
          have hIx13_ : gi (sm_aI (sm_aI S_ 33 0 ((S_.2.2.1 47 (0 + dd_) (i_or he_ ip_).toNat) / 65536).toNat 1) 33 0 (st_ + tl_).toNat ((S_.2.2.1 47 (0 + dd_) (i_or he_ ip_).toNat) / 65536)) := gi_aI hIx10_ (show 0 ≤ ((S_.2.2.1 47 (0 + dd_) (i_or he_ ip_).toNat) / 65536) ∧ ((S_.2.2.1 47 (0 + dd_) (i_or he_ ip_).toNat) / 65536) ≤ 1012 from ⟨by omega, by omega⟩)
          have hFx14_ : ai_fr (sx_W vw_52) S0_ (sm_aI (sm_aI S_ 33 0 ((S_.2.2.1 47 (0 + dd_) (i_or he_ ip_).toNat) / 65536).toNat 1) 33 0 (st_ + tl_).toNat ((S_.2.2.1 47 (0 + dd_) (i_or he_ ip_).toNat) / 65536)) := ai_fr_tr hFx11_ (ai_fr_aI rfl)
          have hDx15_ : idf dd_ S0_ (sm_aI (sm_aI S_ 33 0 ((S_.2.2.1 47 (0 + dd_) (i_or he_ ip_).toNat) / 65536).toNat 1) 33 0 (st_ + tl_).toNat ((S_.2.2.1 47 (0 + dd_) (i_or he_ ip_).toNat) / 65536)) := idf_aI hDx12_ (Or.inl (by decide))
          refine sm_T_inc (a := 2) (z := 1) (v := tl_) (w := tl_ + 1) rfl rfl (by omega) (by omega) (by omega) ?_
          refine sm_T_inc (a := 5) (z := 1) (v := ip_) (w := ip_ + 1) rfl rfl (by omega) (by omega) (by omega) ?_
          refine sm_T_go 1 (c1 := (79, [some (.inr (.inr (some (1, 0)))), some (.inl st_), some (.inl (tl_ + 1)), some (.inl hd9_), some (.inl he_), some (.inl (ip_ + 1)), some (.inl ((S_.2.2.1 47 (0 + dd_) (i_or he_ ip_).toNat) / 65536))], [], sm_aI (sm_aI S_ 33 0 ((S_.2.2.1 47 (0 + dd_) (i_or he_ ip_).toNat) / 65536).toNat 1) 33 0 (st_ + tl_).toNat ((S_.2.2.1 47 (0 + dd_) (i_or he_ ip_).toNat) / 65536))) rfl ?_
          refine sm_T_wk [some (.inr (.inr (some (1, 0)))), some (.inl st_), some (.inl (tl_ + 1)), some (.inl hd9_), some (.inl he_), some (.inl (ip_ + 1)), none] (by exact ⟨rfl, rfl, rfl, rfl, rfl, rfl, trivial⟩) ?_
          refine ih_.2 st_ (tl_ + 1) hd9_ he_ (ip_ + 1) sq_ (sm_aI (sm_aI S_ 33 0 ((S_.2.2.1 47 (0 + dd_) (i_or he_ ip_).toNat) / 65536).toNat 1) 33 0 (st_ + tl_).toNat ((S_.2.2.1 47 (0 + dd_) (i_or he_ ip_).toNat) / 65536)) hIx13_ hFx14_ ⟨?_, ?_, ?_, ?_, ?_, ?_, ?_, trivial⟩ ?_
          · exact hs_
          · intro j9_ hj9_
            (try simp only [rd_eq, rd_ne, rf_eq, rf_nk, rf_nt, rd_fa, rd_af, rd_fl, rd_al, rd_lf, rd_la, rd_leq, rd_lne, rd_fr, rd_ar, ne_eq, Nat.reduceEqDiff, not_false_eq_true])
            rw [if_neg (by omega)]
            split
            · right; rfl
            · exact hmz_ j9_ hj9_
          · intro j9_ hj9_
            (try simp only [rd_eq, rd_ne, rf_eq, rf_nk, rf_nt, rd_fa, rd_af, rd_fl, rd_al, rd_lf, rd_la, rd_leq, rd_lne, rd_fr, rd_ar, ne_eq, Nat.reduceEqDiff, not_false_eq_true])
            by_cases z9_ : (j9_ : Int) = tl_
            · rw [if_pos (by omega)]; omega
            · rw [if_neg (by omega), if_neg (by omega)]; exact hq_ j9_ (by omega)
          · have u9_ := cn1_up (f := fun k9_ => S_.2.2.1 33 0 k9_) (g := fun k9_ => (sm_aI S_ 33 0 (S_.2.2.1 47 (0 + dd_) (i_or he_ ip_).toNat / 65536).toNat 1).2.2.1 33 0 k9_) (j := (S_.2.2.1 47 (0 + dd_) (i_or he_ ip_).toNat / 65536).toNat) (by show S_.2.2.1 33 0 _ ≠ 1; omega) (by show _ = _; rw [rd_eq, if_pos rfl]) (by intro k9_ hk9_; show _ = _; rw [rd_eq, if_neg hk9_]) (n := st_.toNat) (by omega)
            rw [cn1_cg (g := fun k9_ => (sm_aI S_ 33 0 (S_.2.2.1 47 (0 + dd_) (i_or he_ ip_).toNat / 65536).toNat 1).2.2.1 33 0 k9_) (fun k9_ hk9_ => by show ((sm_aI (sm_aI S_ 33 0 ((S_.2.2.1 47 (0 + dd_) (i_or he_ ip_).toNat) / 65536).toNat 1) 33 0 (st_ + tl_).toNat ((S_.2.2.1 47 (0 + dd_) (i_or he_ ip_).toNat) / 65536))).2.2.1 33 0 k9_ = _; rw [rd_eq, if_neg (by omega)]), u9_]
            push_cast
            omega
          · omega
          · exact hh_
          · exact hDx15_
          · omega
set_option maxHeartbeats 2000000 in
theorem vc_52 {sc_ : Nat × (Nat → Int)} (dd_ : Nat) (F_ : Nat) (S0_ : sm_S) (hI_ : gi S0_) (hd_ : S0_.2.1 1 0 1 = some dd_) (hg_ : dgr dd_ F_ S0_) (hr_ : S0_.1 3 dd_ 2 ≤ 6) (ht_ : dtb dd_ S0_) (hb_ : 0 ≤ S0_.1 3 dd_ 5 ∧ S0_.1 3 dd_ 5 < 2 ^ (S0_.1 3 dd_ 2).toNat) : sm_T (mt_P sc_) 1 52 (0, [some (.inr (.inr (some (1, 0)))), none, none, none, none, none, none], [], S0_) (fun ro9_ => ∃ u_ S1_, ro9_ = (.inl u_, S1_, 0) ∧ vq_52 dd_ F_ S0_ u_ S1_) := by
  have hF_ : ai_fr (sx_W vw_52) S0_ S0_ := ai_fr_rf
  have hD_ : idf dd_ S0_ S0_ := idf_rf
  have g1_ := hg_.1
  have st64_ := pw_le (n := (S0_.1 3 dd_ 2).toNat) (m := 6) (by omega)
  have st0_ := pw_pos (S0_.1 3 dd_ 2).toNat
  refine sm_T_go 3 (c1 := (5, [some (.inr (.inr (some (1, 0)))), none, none, none, none, none, none], [.inl 0, .inr (.inr (some (33, 0)))], S0_)) rfl ?_
  refine sm_T_cal (d1 := 0) (Q1 := vq_2s 0 S0_) rfl rfl (by decide) (vc_2s 0 S0_ hI_ (by decide)) (fun u_ Sx1_ px4_ => ?_)
  obtain ⟨rfl, hIx2_, hFx3_, px4_⟩ := px4_
  have hFx5_ : ai_fr (sx_W vw_52) S0_ Sx1_ := ai_fr_tr hF_ (fr_le hFx3_ rfl)
  have hDx6_ : idf dd_ S0_ Sx1_ := idf_tr hD_ (idf_fr hFx3_ (by decide) (by decide))
  have e5_ := px4_
  have q1_ := hFx3_.1 3 dd_ 1 rfl
  have q2_ := hFx3_.1 3 dd_ 2 rfl
  have q5_ := hFx3_.1 3 dd_ 5 rfl
  have b9_ := hb_
  refine sm_T_go 2 (c1 := (10, [some (.inr (.inr (some (1, 0)))), none, none, none, none, none, none], [.inr (.inr (some (1, 0))), .inl 1], Sx1_)) rfl ?_
  refine sm_T_gr rfl rfl ((hFx5_.2.1 1 0 1 rfl).trans hd_) ?_
  have bx7_ : 0 ≤ Sx1_.1 3 dd_ 2 ∧ Sx1_.1 3 dd_ 2 ≤ 100000 := hIx2_.1 3 dd_ 2 rfl
  refine sm_T_go 1 (c1 := (16, [some (.inr (.inr (some (1, 0)))), none, none, none, none, none, none], [.inl (Sx1_.1 3 dd_ 2), .inl 1], Sx1_)) rfl ?_
  refine sm_T_bin (w := (i_shl 1 (Sx1_.1 3 dd_ 2))) rfl rfl ?_
  have bx8_ : i_shl 1 (Sx1_.1 3 dd_ 2) = 2 ^ (S0_.1 3 dd_ 2).toNat := by rw [q2_]; exact i_shl1 (by omega) (by omega)
  obtain ⟨st9_, hst9_⟩ : ∃ st9_, st9_ = i_shl 1 (Sx1_.1 3 dd_ 2) := ⟨_, rfl⟩
  refine sm_T_go 5 (c1 := (24, [some (.inr (.inr (some (1, 0)))), some (.inl (i_shl 1 (Sx1_.1 3 dd_ 2))), none, none, none, none, none], [.inr (.inr (some (1, 0))), .inl (i_shl 1 (Sx1_.1 3 dd_ 2)), .inr (.inr (some (33, 0)))], Sx1_)) rfl ?_
  refine sm_T_gr rfl rfl ((hFx5_.2.1 1 0 1 rfl).trans hd_) ?_
  have bx10_ : 0 ≤ Sx1_.1 3 dd_ 5 ∧ Sx1_.1 3 dd_ 5 ≤ 63 := hIx2_.1 3 dd_ 5 rfl
  refine sm_T_go 1 (c1 := (30, [some (.inr (.inr (some (1, 0)))), some (.inl (i_shl 1 (Sx1_.1 3 dd_ 2))), none, none, none, none, none], [.inl (Sx1_.1 3 dd_ 5), .inl (i_shl 1 (Sx1_.1 3 dd_ 2)), .inr (.inr (some (33, 0)))], Sx1_)) rfl ?_
  refine sm_T_iast (n := 1013) rfl rfl (by omega) (by omega) ?_
  have hIx11_ : gi (sm_aI Sx1_ 33 0 (i_shl 1 (Sx1_.1 3 dd_ 2)).toNat (Sx1_.1 3 dd_ 5)) := gi_aI hIx2_ (show 0 ≤ (Sx1_.1 3 dd_ 5) ∧ (Sx1_.1 3 dd_ 5) ≤ 1012 from ⟨by omega, by omega⟩)
  have hFx12_ : ai_fr (sx_W vw_52) S0_ (sm_aI Sx1_ 33 0 (i_shl 1 (Sx1_.1 3 dd_ 2)).toNat (Sx1_.1 3 dd_ 5)) := ai_fr_tr hFx5_ (ai_fr_aI rfl)
  have hDx13_ : idf dd_ S0_ (sm_aI Sx1_ 33 0 (i_shl 1 (Sx1_.1 3 dd_ 2)).toNat (Sx1_.1 3 dd_ 5)) := idf_aI hDx6_ (Or.inl (by decide))
  refine sm_T_go 3 (c1 := (36, [some (.inr (.inr (some (1, 0)))), some (.inl (i_shl 1 (Sx1_.1 3 dd_ 2))), none, none, none, none, none], [.inr (.inr (some (1, 0))), .inr (.inr (some (33, 0)))], sm_aI Sx1_ 33 0 (i_shl 1 (Sx1_.1 3 dd_ 2)).toNat (Sx1_.1 3 dd_ 5))) rfl ?_
  refine sm_T_gr rfl rfl ((hFx12_.2.1 1 0 1 rfl).trans hd_) ?_
  refine sm_T_go 2 (c1 := (43, [some (.inr (.inr (some (1, 0)))), some (.inl (i_shl 1 (Sx1_.1 3 dd_ 2))), none, none, none, none, none], [.inl 1, .inl (Sx1_.1 3 dd_ 5), .inr (.inr (some (33, 0)))], sm_aI Sx1_ 33 0 (i_shl 1 (Sx1_.1 3 dd_ 2)).toNat (Sx1_.1 3 dd_ 5))) rfl ?_
  refine sm_T_iast (n := 1013) rfl rfl (by omega) (by omega) ?_
  have hIx14_ : gi (sm_aI (sm_aI Sx1_ 33 0 (i_shl 1 (Sx1_.1 3 dd_ 2)).toNat (Sx1_.1 3 dd_ 5)) 33 0 (Sx1_.1 3 dd_ 5).toNat 1) := gi_aI hIx11_ (show 0 ≤ 1 ∧ 1 ≤ 1012 from ⟨by omega, by omega⟩)
  have hFx15_ : ai_fr (sx_W vw_52) S0_ (sm_aI (sm_aI Sx1_ 33 0 (i_shl 1 (Sx1_.1 3 dd_ 2)).toNat (Sx1_.1 3 dd_ 5)) 33 0 (Sx1_.1 3 dd_ 5).toNat 1) := ai_fr_tr hFx12_ (ai_fr_aI rfl)
  have hDx16_ : idf dd_ S0_ (sm_aI (sm_aI Sx1_ 33 0 (i_shl 1 (Sx1_.1 3 dd_ 2)).toNat (Sx1_.1 3 dd_ 5)) 33 0 (Sx1_.1 3 dd_ 5).toNat 1) := idf_aI hDx13_ (Or.inl (by decide))
  refine sm_T_go 4 (c1 := (48, [some (.inr (.inr (some (1, 0)))), some (.inl (i_shl 1 (Sx1_.1 3 dd_ 2))), some (.inl 1), some (.inl 0), none, none, none], [], sm_aI (sm_aI Sx1_ 33 0 (i_shl 1 (Sx1_.1 3 dd_ 2)).toNat (Sx1_.1 3 dd_ 5)) 33 0 (Sx1_.1 3 dd_ 5).toNat 1)) rfl ?_
  refine (vl_52 dd_ F_ S0_ hd_ hg_ hr_ ht_ hb_ _).1 (i_shl 1 (Sx1_.1 3 dd_ 2)) 1 0 (sm_aI (sm_aI Sx1_ 33 0 (i_shl 1 (Sx1_.1 3 dd_ 2)).toNat (Sx1_.1 3 dd_ 5)) 33 0 (Sx1_.1 3 dd_ 5).toNat 1) hIx14_ hFx15_ ⟨?_, ?_, ?_, ?_, ?_, ?_, trivial⟩ (Nat.lt_succ_self _)
  · omega
  · intro j9_ hj9_
    (try simp only [rd_eq, rd_ne, rf_eq, rf_nk, rf_nt, rd_fa, rd_af, rd_fl, rd_al, rd_lf, rd_la, rd_leq, rd_lne, rd_fr, rd_ar, ne_eq, Nat.reduceEqDiff, not_false_eq_true])
    split
    · right; rfl
    · split
      · exfalso; omega
      · left; exact e5_ j9_ (by omega)
  · intro j9_ hj9_
    (try simp only [rd_eq, rd_ne, rf_eq, rf_nk, rf_nt, rd_fa, rd_af, rd_fl, rd_al, rd_lf, rd_la, rd_leq, rd_lne, rd_fr, rd_ar, ne_eq, Nat.reduceEqDiff, not_false_eq_true])
    rw [if_neg (by omega), if_pos (by omega)]
    omega
  · rw [← hst9_]
    have c9_ := cn1_one (f := fun k9_ : Nat => if k9_ = (S0_.1 3 dd_ 5).toNat then (1 : Int) else 0) (j := (S0_.1 3 dd_ 5).toNat) (by intro k9_; constructor; (intro z9_; by_cases y9_ : k9_ = (S0_.1 3 dd_ 5).toNat; exact y9_; (rw [if_neg y9_] at z9_; exact absurd z9_ (by decide))); (intro z9_; exact if_pos z9_)) st9_.toNat
    rw [if_pos (by omega)] at c9_
    rw [cn1_cg (g := fun k9_ : Nat => if k9_ = (S0_.1 3 dd_ 5).toNat then (1 : Int) else 0) (fun k9_ hk9_ => ?_), c9_]
    · rfl
    · (try dsimp only)
      (try simp only [rd_eq, rd_ne, rf_eq, rf_nk, rf_nt, rd_fa, rd_af, rd_fl, rd_al, rd_lf, rd_la, rd_leq, rd_lne, rd_fr, rd_ar, ne_eq, Nat.reduceEqDiff, not_false_eq_true])
      by_cases z9_ : k9_ = (S0_.1 3 dd_ 5).toNat
      · rw [if_pos (by omega), if_pos z9_]
      · rw [if_neg (by omega), if_neg (by omega), if_neg z9_]; exact e5_ k9_ (by omega)
  · omega
  · exact hDx16_
end
/-! 99.zg9a -/
section
/-! the class: which nodes are needed; written by wip/p55/gen/vg -/

/-! which nodes are_ needed -/
/-- marks of_ nodes: those that stand for_ themselves, with all_ that they need -/
def mkd (dd_ F_ : Nat) (S_ : sm_S) (u_ : Nat → Int) : Prop := (∀ j_ : Nat, j_ < 1013 → u_ j_ = 0 ∨ (u_ j_ = 1 ∧ (j_ : Int) < S_.1 3 dd_ 4 ∧ S_.2.2.1 44 (0 + dd_) j_ = 2 * (j_ : Int))) ∧ (∀ i_ : Int, 0 ≤ i_ → i_ < S_.1 3 dd_ 3 + S_.1 3 dd_ 2 → u_ (srp dd_ S_ (rtv dd_ S_ i_)) = 1) ∧ ∀ j_ : Nat, F_ ≤ j_ → (j_ : Int) < S_.1 3 dd_ 4 → u_ j_ = 1 → u_ (srp dd_ S_ (S_.2.2.1 42 (0 + dd_) j_)) = 1 ∧ u_ (srp dd_ S_ (S_.2.2.1 43 (0 + dd_) j_)) = 1
theorem srp_b {dd_ F_ : Nat} {S_ : sm_S} {l_ : Int} (h_ : swp dd_ F_ S_) (h0_ : 0 ≤ l_) (h1_ : l_ < 2 * S_.1 3 dd_ 4) : (srp dd_ S_ l_ : Int) ≤ l_ / 2 ∧ S_.2.2.1 44 (0 + dd_) (srp dd_ S_ l_) = 2 * (srp dd_ S_ l_ : Int) ∧ 2 * (srp dd_ S_ l_ : Int) ≤ S_.2.2.1 44 (0 + dd_) (l_ / 2).toNat ∧ S_.2.2.1 44 (0 + dd_) (l_ / 2).toNat ≤ 2 * (srp dd_ S_ l_ : Int) + 1 := by
  have q_ := h_.2 (l_ / 2).toNat (by omega)
  obtain ⟨q1_, q2_, -⟩ := q_
  have e_ : (srp dd_ S_ l_ : Int) = S_.2.2.1 44 (0 + dd_) (l_ / 2).toNat / 2 := by unfold srp; omega
  refine ⟨by omega, ?_, by omega, by omega⟩
  have e2_ : srp dd_ S_ l_ = (S_.2.2.1 44 (0 + dd_) (l_ / 2).toNat / 2).toNat := rfl
  rw [e2_, q2_]
  omega
theorem swl_n {dd_ F_ : Nat} {S_ : sm_S} {l_ : Int} (h_ : swp dd_ F_ S_) (h0_ : 0 ≤ l_) (h1_ : l_ < 2 * S_.1 3 dd_ 4) (h2_ : S_.1 3 dd_ 4 ≤ 1013) : i_xor (S_.2.2.1 44 (0 + dd_) (l_ / 2).toNat) (l_ % 2) / 2 = (srp dd_ S_ l_ : Int) ∧ 0 ≤ i_xor (S_.2.2.1 44 (0 + dd_) (l_ / 2).toNat) (l_ % 2) ∧ i_xor (S_.2.2.1 44 (0 + dd_) (l_ / 2).toNat) (l_ % 2) ≤ 2025 := by
  have b_ := srp_b h_ h0_ h1_
  have x_ := i_xb (x_ := S_.2.2.1 44 (0 + dd_) (l_ / 2).toNat) (b_ := l_ % 2) (by omega) (by omega)
  omega
/-! Design.markNeeded -/
def vw_67s : sx_Wl := ([], [33], [])
def vq_67s (dd_ : Nat) (F_ : Nat) (S0_ : sm_S) (u_ : Option sm_V) (S1_ : sm_S) : Prop := ∃ v_ : Int, u_ = some (.inl v_) ∧ gi S1_ ∧ ai_fr (sx_W vw_67s) S0_ S1_ ∧ ((0 ≤ v_ ∧ v_ ≤ 1000) ∧ mkd dd_ F_ S1_ (S1_.2.2.1 33 0))
set_option maxHeartbeats 2000000 in
theorem vl_67s {sc_ : Nat × (Nat → Int)} (dd_ : Nat) (F_ : Nat) (S0_ : sm_S) (hg_ : dgr dd_ F_ S0_) (hr_ : drt dd_ S0_) (hs_ : swp dd_ F_ S0_) : ∀ nn_ : Nat, (∀ (k_ : Int) (S_ : sm_S), gi S_ → ai_fr (sx_W vw_67s) S0_ S_ → ((0 ≤ k_ ∧ k_ ≤ S0_.1 3 dd_ 3 + S0_.1 3 dd_ 2) ∧ (∀ j9_ : Nat, j9_ < 1013 → S_.2.2.1 33 0 j9_ = 0 ∨ (S_.2.2.1 33 0 j9_ = 1 ∧ (j9_ : Int) < S0_.1 3 dd_ 4 ∧ S0_.2.2.1 44 (0 + dd_) j9_ = 2 * (j9_ : Int))) ∧ (∀ i9_ : Int, 0 ≤ i9_ → i9_ < k_ → S_.2.2.1 33 0 (srp dd_ S0_ (rtv dd_ S0_ i9_)) = 1) ∧ True) → ((5000 + (100 - k_)).toNat) < nn_ → sm_T (mt_P sc_) 1 67 (7, [some (.inr (.inr (some (3, dd_)))), some (.inr (.inr (some (33, 0)))), some (.inl k_), none], [], S_) (fun ro9_ => ∃ u_ S1_, ro9_ = (.inl u_, S1_, 0) ∧ vq_67s dd_ F_ S0_ u_ S1_)) ∧ (∀ (c_ : Int) (n_ : Int) (S_ : sm_S), gi S_ → ai_fr (sx_W vw_67s) S0_ S_ → (((F_ : Int) - 1 ≤ n_ ∧ n_ < S0_.1 3 dd_ 4 ∧ 0 ≤ c_ ∧ c_ ≤ S0_.1 3 dd_ 4 - 1 - n_) ∧ (∀ j9_ : Nat, j9_ < 1013 → S_.2.2.1 33 0 j9_ = 0 ∨ (S_.2.2.1 33 0 j9_ = 1 ∧ (j9_ : Int) < S0_.1 3 dd_ 4 ∧ S0_.2.2.1 44 (0 + dd_) j9_ = 2 * (j9_ : Int))) ∧ (∀ i9_ : Int, 0 ≤ i9_ → i9_ < S0_.1 3 dd_ 3 + S0_.1 3 dd_ 2 → S_.2.2.1 33 0 (srp dd_ S0_ (rtv dd_ S0_ i9_)) = 1) ∧ (∀ j9_ : Nat, n_ < (j9_ : Int) → F_ ≤ j9_ → (j9_ : Int) < S0_.1 3 dd_ 4 → S_.2.2.1 33 0 j9_ = 1 → S_.2.2.1 33 0 (srp dd_ S0_ (S0_.2.2.1 42 (0 + dd_) j9_)) = 1 ∧ S_.2.2.1 33 0 (srp dd_ S0_ (S0_.2.2.1 43 (0 + dd_) j9_)) = 1) ∧ True) → ((n_ + 1).toNat) < nn_ → sm_T (mt_P sc_) 1 67 (44, [some (.inr (.inr (some (3, dd_)))), some (.inr (.inr (some (33, 0)))), some (.inl c_), some (.inl n_)], [], S_) (fun ro9_ => ∃ u_ S1_, ro9_ = (.inl u_, S1_, 0) ∧ vq_67s dd_ F_ S0_ u_ S1_)) := by
  intro nn_
  induction nn_ with
  | zero => exact ⟨fun _ _ _ _ _ h_ => absurd h_ (Nat.not_lt_zero _), fun _ _ _ _ _ _ h_ => absurd h_ (Nat.not_lt_zero _)⟩
  | succ nn_ ih_ =>
    refine ⟨?_, ?_⟩
    · rintro k_ S_ hI_ hF_ ⟨h0_, hz_, hq_, -⟩ hm_
      have g1_ := hg_.1
      have g2_ := hg_.2.1
      have r1_ := hr_.1
      have e2_ : S_.1 3 dd_ 2 = S0_.1 3 dd_ 2 := hF_.1 3 dd_ 2 rfl
      have e1_ : S_.1 3 dd_ 1 = S0_.1 3 dd_ 1 := hF_.1 3 dd_ 1 rfl
      have e3_ : S_.1 3 dd_ 3 = S0_.1 3 dd_ 3 := hF_.1 3 dd_ 3 rfl
      have e4_ : S_.1 3 dd_ 4 = S0_.1 3 dd_ 4 := hF_.1 3 dd_ 4 rfl
      have n13_ : S_.1 3 dd_ 4 ≤ 1013 := (hI_.1 3 dd_ 4 rfl).2
      have f44_ : S_.2.2.1 44 (0 + dd_) = S0_.2.2.1 44 (0 + dd_) := fr_arr hF_ rfl
      have f42_ : S_.2.2.1 42 (0 + dd_) = S0_.2.2.1 42 (0 + dd_) := fr_arr hF_ rfl
      have f43_ : S_.2.2.1 43 (0 + dd_) = S0_.2.2.1 43 (0 + dd_) := fr_arr hF_ rfl
      have f45_ : S_.2.2.1 45 (0 + dd_) = S0_.2.2.1 45 (0 + dd_) := fr_arr hF_ rfl
      have f46_ : S_.2.2.1 46 (0 + dd_) = S0_.2.2.1 46 (0 + dd_) := fr_arr hF_ rfl
      refine sm_T_go 2 (c1 := (9, [some (.inr (.inr (some (3, dd_)))), some (.inr (.inr (some (33, 0)))), some (.inl k_), none], [.inr (.inr (some (3, dd_))), .inl k_], S_)) rfl ?_
      refine sm_T_cal (d1 := 0) (Q1 := vq_66 dd_ S_) rfl rfl (by decide) (vc_66 dd_ S_ hI_ (by omega)) (fun u_ Sx1_ px4_ => ?_)
      obtain ⟨rfl, vx6_, rfl, px4_⟩ := px4_
      have e9_ := px4_
      refine sm_T_br (a := 3) (z := 23) rfl (fun cx7_ => ?_) (fun cx7_ => ?_)
      · have cx7_ : vx6_ ≤ k_ := of_decide_eq_true cx7_
        have bx8_ : 0 ≤ S_.1 3 dd_ 4 ∧ S_.1 3 dd_ 4 ≤ 1013 := hI_.1 3 dd_ 4 rfl
        refine sm_T_go 5 (c1 := (42, [some (.inr (.inr (some (3, dd_)))), some (.inr (.inr (some (33, 0)))), some (.inl 0), none], [.inl 1, .inl (S_.1 3 dd_ 4)], S_)) rfl ?_
        refine sm_T_bin (w := (S_.1 3 dd_ 4) - 1) rfl (bi_sub (by omega) (by omega) (by omega)) ?_
        refine sm_T_go 1 (c1 := (44, [some (.inr (.inr (some (3, dd_)))), some (.inr (.inr (some (33, 0)))), some (.inl 0), some (.inl ((S_.1 3 dd_ 4) - 1))], [], S_)) rfl ?_
        refine ih_.2 0 ((S_.1 3 dd_ 4) - 1) S_ hI_ hF_ ⟨?_, ?_, ?_, ?_, trivial⟩ ?_
        · omega
        · exact hz_
        · (intro i9_ q8_ q9_; exact hq_ i9_ q8_ (by omega))
        · (intro j9_ q7_ q8_ q9_; omega)
        · omega
      · have cx7_ : ¬ (vx6_ ≤ k_) := of_decide_eq_false cx7_
        refine sm_T_go 4 (c1 := (19, [some (.inr (.inr (some (3, dd_)))), some (.inr (.inr (some (33, 0)))), some (.inl k_), none], [.inl k_, .inr (.inr (some (3, dd_))), .inr (.inr (some (3, dd_))), .inr (.inr (some (33, 0)))], S_)) rfl ?_
        refine sm_T_cal (d1 := 0) (Q1 := vq_65 k_ dd_ S_) rfl rfl (by decide) (vc_65 k_ dd_ S_ hI_ (by exact drt_fr hr_ hF_ rfl rfl rfl rfl rfl) (by omega)) (fun u_ Sx9_ px12_ => ?_)
        obtain ⟨rfl, vx14_, rfl, px12_⟩ := px12_
        have e19_ := px12_
        have v19_ : vx14_ = rtv dd_ S0_ k_ := by rw [e19_.1]; unfold rtv; rw [e3_, f45_, f46_]
        refine sm_T_cal (d1 := 0) (Q1 := vq_64 vx14_ dd_ S_) rfl rfl (by decide) (vc_64 vx14_ dd_ S_ hI_ (by omega)) (fun u_ Sx15_ px18_ => ?_)
        obtain ⟨rfl, vx20_, rfl, px18_⟩ := px18_
        have e22_ := px18_
        rw [f44_] at e22_
        have sw9_ := swl_n hs_ (l_ := rtv dd_ S0_ k_) (by omega) (by omega) (by omega)
        rw [v19_] at e22_
        rw [← e22_] at sw9_
        have sb9_ := srp_b hs_ (l_ := rtv dd_ S0_ k_) (by omega) (by omega)
        have tn9_ : (vx20_ / 2).toNat = srp dd_ S0_ (rtv dd_ S0_ k_) := by omega
        refine sm_T_go 1 (c1 := (26, [some (.inr (.inr (some (3, dd_)))), some (.inr (.inr (some (33, 0)))), some (.inl k_), none], [.inl 1, .inl vx20_, .inr (.inr (some (33, 0)))], S_)) rfl ?_
        refine sm_T_bin (w := (vx20_ / 2)) rfl (bi_shr (k := 1) (by decide) (by omega) (by omega)) ?_
        refine sm_T_go 1 (c1 := (28, [some (.inr (.inr (some (3, dd_)))), some (.inr (.inr (some (33, 0)))), some (.inl k_), none], [.inl 1, .inl (vx20_ / 2), .inr (.inr (some (33, 0)))], S_)) rfl ?_
        refine sm_T_iast (n := 1013) rfl rfl (by omega) (by omega) ?_
        have hIx21_ : gi (sm_aI S_ 33 0 (vx20_ / 2).toNat 1) := gi_aI hI_ (show 0 ≤ 1 ∧ 1 ≤ 1012 from ⟨by omega, by omega⟩)
        have hFx22_ : ai_fr (sx_W vw_67s) S0_ (sm_aI S_ 33 0 (vx20_ / 2).toNat 1) := ai_fr_tr hF_ (ai_fr_aI rfl)
        refine sm_T_inc (a := 2) (z := 1) (v := k_) (w := k_ + 1) rfl rfl (by omega) (by omega) (by omega) ?_
        refine sm_T_go 1 (c1 := (7, [some (.inr (.inr (some (3, dd_)))), some (.inr (.inr (some (33, 0)))), some (.inl (k_ + 1)), none], [], sm_aI S_ 33 0 (vx20_ / 2).toNat 1)) rfl ?_
        refine ih_.1 (k_ + 1) (sm_aI S_ 33 0 (vx20_ / 2).toNat 1) hIx21_ hFx22_ ⟨?_, ?_, ?_, trivial⟩ ?_
        · omega
        · intro j9_ hj9_
          rw [rd_eq]
          by_cases z9_ : j9_ = srp dd_ S0_ (rtv dd_ S0_ k_)
          · rw [if_pos (by omega)]; right; rw [z9_]; exact ⟨rfl, by omega, sb9_.2.1⟩
          · rw [if_neg (by omega)]; exact hz_ j9_ hj9_
        · intro i9_ q8_ q9_
          rw [rd_eq]
          by_cases z9_ : srp dd_ S0_ (rtv dd_ S0_ i9_) = srp dd_ S0_ (rtv dd_ S0_ k_)
          · rw [if_pos (by omega)]
          · rw [if_neg (by omega)]; exact hq_ i9_ q8_ (by by_cases y9_ : i9_ = k_; (exact absurd (by rw [y9_]) z9_); omega)
        · omega
    · rintro c_ n_ S_ hI_ hF_ ⟨h0_, hz_, hq_, hc_, -⟩ hm_
      have g1_ := hg_.1
      have g2_ := hg_.2.1
      have r1_ := hr_.1
      have e2_ : S_.1 3 dd_ 2 = S0_.1 3 dd_ 2 := hF_.1 3 dd_ 2 rfl
      have e1_ : S_.1 3 dd_ 1 = S0_.1 3 dd_ 1 := hF_.1 3 dd_ 1 rfl
      have e3_ : S_.1 3 dd_ 3 = S0_.1 3 dd_ 3 := hF_.1 3 dd_ 3 rfl
      have e4_ : S_.1 3 dd_ 4 = S0_.1 3 dd_ 4 := hF_.1 3 dd_ 4 rfl
      have n13_ : S_.1 3 dd_ 4 ≤ 1013 := (hI_.1 3 dd_ 4 rfl).2
      have f44_ : S_.2.2.1 44 (0 + dd_) = S0_.2.2.1 44 (0 + dd_) := fr_arr hF_ rfl
      have f42_ : S_.2.2.1 42 (0 + dd_) = S0_.2.2.1 42 (0 + dd_) := fr_arr hF_ rfl
      have f43_ : S_.2.2.1 43 (0 + dd_) = S0_.2.2.1 43 (0 + dd_) := fr_arr hF_ rfl
      have f45_ : S_.2.2.1 45 (0 + dd_) = S0_.2.2.1 45 (0 + dd_) := fr_arr hF_ rfl
      have f46_ : S_.2.2.1 46 (0 + dd_) = S0_.2.2.1 46 (0 + dd_) := fr_arr hF_ rfl
      refine sm_T_go 2 (c1 := (46, [some (.inr (.inr (some (3, dd_)))), some (.inr (.inr (some (33, 0)))), some (.inl c_), some (.inl n_)], [.inr (.inr (some (3, dd_))), .inl n_], S_)) rfl ?_
      refine sm_T_cal (d1 := 0) (Q1 := vq_63 dd_ S_) rfl rfl (by decide) (vc_63 dd_ S_ hI_ (by omega)) (fun u_ Sx1_ px4_ => ?_)
      obtain ⟨rfl, vx6_, rfl, px4_⟩ := px4_
      have e46_ := px4_
      refine sm_T_br (a := 2) (z := 48) rfl (fun cx7_ => ?_) (fun cx7_ => ?_)
      · have cx7_ : n_ < vx6_ := of_decide_eq_true cx7_
        refine sm_T_go 1 (c1 := (98, [some (.inr (.inr (some (3, dd_)))), some (.inr (.inr (some (33, 0)))), some (.inl c_), some (.inl n_)], [.inl c_], S_)) rfl ?_
        refine sm_T_ri rfl ⟨_, _, rfl, _, rfl, hI_, hF_, ?_⟩
        refine ⟨by omega, fun j9_ hj9_ => ?_, fun i9_ q8_ q9_ => ?_, fun j9_ q7_ q8_ q9_ => ?_⟩
        · have q9_ := hz_ j9_ hj9_; rw [e4_, f44_]; exact q9_
        · have q7_ := hq_ i9_ q8_ (by omega); unfold srp rtv; rw [e3_, f44_, f45_, f46_]; exact q7_
        · have q6_ := hc_ j9_ (by omega) q7_ (by omega) q9_; unfold srp; rw [f42_, f43_, f44_]; exact q6_
      · have cx7_ : ¬ (n_ < vx6_) := of_decide_eq_false cx7_
        have gn_ := hg_.2.2 n_.toNat (by omega) (by omega)
        rw [← f42_, ← f43_] at gn_
        refine sm_T_go 2 (c1 := (54, [some (.inr (.inr (some (3, dd_)))), some (.inr (.inr (some (33, 0)))), some (.inl c_), some (.inl n_)], [.inl n_, .inr (.inr (some (33, 0)))], S_)) rfl ?_
        refine sm_T_iald (n := 1013) rfl rfl (by omega) (by omega) ?_
        have bx8_ : 0 ≤ S_.2.2.1 33 0 n_.toNat ∧ S_.2.2.1 33 0 n_.toNat ≤ 1012 := hI_.2 33 0 _
        refine sm_T_b0 (a := 0) (z := 36) rfl (fun cx9_ => ?_) (fun cx9_ => ?_)
        · have cx9_ : (S_.2.2.1 33 0 n_.toNat) = 0 := of_decide_eq_true cx9_
          refine sm_T_inc (a := 3) (z := (-1)) (v := n_) (w := n_ - 1) rfl rfl (by omega) (by omega) (by omega) ?_
          refine sm_T_go 1 (c1 := (44, [some (.inr (.inr (some (3, dd_)))), some (.inr (.inr (some (33, 0)))), some (.inl c_), some (.inl (n_ - 1))], [], S_)) rfl ?_
          refine ih_.2 c_ (n_ - 1) S_ hI_ hF_ ⟨?_, ?_, ?_, ?_, trivial⟩ ?_
          · omega
          · exact hz_
          · exact hq_
          · intro j9_ q6_ q7_ q8_ q9_
            by_cases z9_ : (j9_ : Int) = n_
            · exfalso; rw [show j9_ = n_.toNat by omega] at q9_; omega
            · exact hc_ j9_ (by omega) q7_ q8_ q9_
          · omega
        · have cx9_ : ¬ ((S_.2.2.1 33 0 n_.toNat) = 0) := of_decide_eq_false cx9_
          refine sm_T_inc (a := 2) (z := 1) (v := c_) (w := c_ + 1) rfl rfl (by omega) (by omega) (by omega) ?_
          refine sm_T_go 5 (c1 := (68, [some (.inr (.inr (some (3, dd_)))), some (.inr (.inr (some (33, 0)))), some (.inl (c_ + 1)), some (.inl n_)], [.inl n_, .inr (.inr (some (42, (0 + dd_)))), .inr (.inr (some (3, dd_))), .inr (.inr (some (33, 0)))], S_)) rfl ?_
          refine sm_T_iald (n := 1013) rfl rfl (by omega) (by omega) ?_
          have bx10_ : 0 ≤ S_.2.2.1 42 (0 + dd_) n_.toNat ∧ S_.2.2.1 42 (0 + dd_) n_.toNat ≤ 2025 := hI_.2 42 (0 + dd_) _
          refine sm_T_cal (d1 := 0) (Q1 := vq_64 (S_.2.2.1 42 (0 + dd_) n_.toNat) dd_ S_) rfl rfl (by decide) (vc_64 (S_.2.2.1 42 (0 + dd_) n_.toNat) dd_ S_ hI_ (by omega)) (fun u_ Sx11_ px14_ => ?_)
          obtain ⟨rfl, vx16_, rfl, px14_⟩ := px14_
          have e69_ := px14_
          rw [f44_, f42_] at e69_
          rw [f42_, f43_] at gn_
          have sw9_ := swl_n hs_ (l_ := S0_.2.2.1 42 (0 + dd_) n_.toNat) (by omega) (by omega) (by omega)
          rw [← e69_] at sw9_
          have sb9_ := srp_b hs_ (l_ := S0_.2.2.1 42 (0 + dd_) n_.toNat) (by omega) (by omega)
          have tl9_ : (vx16_ / 2).toNat = srp dd_ S0_ (S0_.2.2.1 42 (0 + dd_) n_.toNat) := by omega
          refine sm_T_go 1 (c1 := (73, [some (.inr (.inr (some (3, dd_)))), some (.inr (.inr (some (33, 0)))), some (.inl (c_ + 1)), some (.inl n_)], [.inl 1, .inl vx16_, .inr (.inr (some (33, 0)))], S_)) rfl ?_
          refine sm_T_bin (w := (vx16_ / 2)) rfl (bi_shr (k := 1) (by decide) (by omega) (by omega)) ?_
          refine sm_T_go 1 (c1 := (75, [some (.inr (.inr (some (3, dd_)))), some (.inr (.inr (some (33, 0)))), some (.inl (c_ + 1)), some (.inl n_)], [.inl 1, .inl (vx16_ / 2), .inr (.inr (some (33, 0)))], S_)) rfl ?_
          refine sm_T_iast (n := 1013) rfl rfl (by omega) (by omega) ?_
          have hIx17_ : gi (sm_aI S_ 33 0 (vx16_ / 2).toNat 1) := gi_aI hI_ (show 0 ≤ 1 ∧ 1 ≤ 1012 from ⟨by omega, by omega⟩)
          have hFx18_ : ai_fr (sx_W vw_67s) S0_ (sm_aI S_ 33 0 (vx16_ / 2).toNat 1) := ai_fr_tr hF_ (ai_fr_aI rfl)
          refine sm_T_go 5 (c1 := (83, [some (.inr (.inr (some (3, dd_)))), some (.inr (.inr (some (33, 0)))), some (.inl (c_ + 1)), some (.inl n_)], [.inl n_, .inr (.inr (some (43, (0 + dd_)))), .inr (.inr (some (3, dd_))), .inr (.inr (some (33, 0)))], sm_aI S_ 33 0 (vx16_ / 2).toNat 1)) rfl ?_
          refine sm_T_iald (n := 1013) rfl rfl (by omega) (by omega) ?_
          have bx19_ : 0 ≤ S_.2.2.1 43 (0 + dd_) n_.toNat ∧ S_.2.2.1 43 (0 + dd_) n_.toNat ≤ 2025 := hI_.2 43 (0 + dd_) _
          refine sm_T_go 0 (c1 := (84, [some (.inr (.inr (some (3, dd_)))), some (.inr (.inr (some (33, 0)))), some (.inl (c_ + 1)), some (.inl n_)], [.inl (S_.2.2.1 43 (0 + dd_) n_.toNat), .inr (.inr (some (3, dd_))), .inr (.inr (some (33, 0)))], sm_aI S_ 33 0 (vx16_ / 2).toNat 1)) rfl ?_
          refine sm_T_cal (d1 := 0) (Q1 := vq_64 (S_.2.2.1 43 (0 + dd_) n_.toNat) dd_ (sm_aI S_ 33 0 (vx16_ / 2).toNat 1)) rfl rfl (by decide) (vc_64 (S_.2.2.1 43 (0 + dd_) n_.toNat) dd_ (sm_aI S_ 33 0 (vx16_ / 2).toNat 1) hIx17_ (by (rw [f43_]; omega))) (fun u_ Sx20_ px23_ => ?_)
          obtain ⟨rfl, vx25_, rfl, px23_⟩ := px23_
          have e84_ := px23_
          simp only [rd_ne, ne_eq, Nat.reduceEqDiff, not_false_eq_true] at e84_
          rw [f44_, f43_] at e84_
          have sw8_ := swl_n hs_ (l_ := S0_.2.2.1 43 (0 + dd_) n_.toNat) (by omega) (by omega) (by omega)
          rw [← e84_] at sw8_
          have sb8_ := srp_b hs_ (l_ := S0_.2.2.1 43 (0 + dd_) n_.toNat) (by omega) (by omega)
          have th9_ : (vx25_ / 2).toNat = srp dd_ S0_ (S0_.2.2.1 43 (0 + dd_) n_.toNat) := by omega
          refine sm_T_go 1 (c1 := (88, [some (.inr (.inr (some (3, dd_)))), some (.inr (.inr (some (33, 0)))), some (.inl (c_ + 1)), some (.inl n_)], [.inl 1, .inl vx25_, .inr (.inr (some (33, 0)))], sm_aI S_ 33 0 (vx16_ / 2).toNat 1)) rfl ?_
          refine sm_T_bin (w := (vx25_ / 2)) rfl (bi_shr (k := 1) (by decide) (by omega) (by omega)) ?_
          refine sm_T_go 1 (c1 := (90, [some (.inr (.inr (some (3, dd_)))), some (.inr (.inr (some (33, 0)))), some (.inl (c_ + 1)), some (.inl n_)], [.inl 1, .inl (vx25_ / 2), .inr (.inr (some (33, 0)))], sm_aI S_ 33 0 (vx16_ / 2).toNat 1)) rfl ?_
          refine sm_T_iast (n := 1013) rfl rfl (by omega) (by omega) ?_
          have hIx26_ : gi (sm_aI (sm_aI S_ 33 0 (vx16_ / 2).toNat 1) 33 0 (vx25_ / 2).toNat 1) := gi_aI hIx17_ (show 0 ≤ 1 ∧ 1 ≤ 1012 from ⟨by omega, by omega⟩)
          have hFx27_ : ai_fr (sx_W vw_67s) S0_ (sm_aI (sm_aI S_ 33 0 (vx16_ / 2).toNat 1) 33 0 (vx25_ / 2).toNat 1) := ai_fr_tr hFx18_ (ai_fr_aI rfl)
          refine sm_T_inc (a := 3) (z := (-1)) (v := n_) (w := n_ - 1) rfl rfl (by omega) (by omega) (by omega) ?_
          refine sm_T_go 1 (c1 := (44, [some (.inr (.inr (some (3, dd_)))), some (.inr (.inr (some (33, 0)))), some (.inl (c_ + 1)), some (.inl (n_ - 1))], [], sm_aI (sm_aI S_ 33 0 (vx16_ / 2).toNat 1) 33 0 (vx25_ / 2).toNat 1)) rfl ?_
          refine ih_.2 (c_ + 1) (n_ - 1) (sm_aI (sm_aI S_ 33 0 (vx16_ / 2).toNat 1) 33 0 (vx25_ / 2).toNat 1) hIx26_ hFx27_ ⟨?_, ?_, ?_, ?_, trivial⟩ ?_
          · omega
          · intro j9_ hj9_
            rw [rd_eq]
            by_cases z9_ : j9_ = srp dd_ S0_ (S0_.2.2.1 43 (0 + dd_) n_.toNat)
            · rw [if_pos (by omega)]; right; rw [z9_]; exact ⟨rfl, by omega, sb8_.2.1⟩
            · rw [if_neg (by omega), rd_eq]
              by_cases y9_ : j9_ = srp dd_ S0_ (S0_.2.2.1 42 (0 + dd_) n_.toNat)
              · rw [if_pos (by omega)]; right; rw [y9_]; exact ⟨rfl, by omega, sb9_.2.1⟩
              · rw [if_neg (by omega)]; exact hz_ j9_ hj9_
          · intro i9_ q8_ q9_
            rw [rd_eq]
            split
            · rfl
            · rw [rd_eq]; split; rfl; exact hq_ i9_ q8_ q9_
          · have mono : ∀ j8_ : Nat, S_.2.2.1 33 0 j8_ = 1 → ((sm_aI (sm_aI S_ 33 0 (vx16_ / 2).toNat 1) 33 0 (vx25_ / 2).toNat 1)).2.2.1 33 0 j8_ = 1 := fun j8_ w8_ => by rw [rd_eq]; split; rfl; (rw [rd_eq]; split; rfl; exact w8_)
            intro j9_ q6_ q7_ q8_ q9_
            by_cases z9_ : (j9_ : Int) = n_
            · rw [show j9_ = n_.toNat by omega]
              refine ⟨?_, ?_⟩
              · rw [rd_eq]; split; rfl; (rw [rd_eq, if_pos (by omega)])
              · rw [rd_eq, if_pos (by omega)]
            · have lt9_ := hg_.2.2 j9_ q7_ q8_
              have q5_ : S_.2.2.1 33 0 j9_ = 1 := by rw [rd_eq, if_neg (by omega), rd_eq, if_neg (by omega)] at q9_; exact q9_
              have w9_ := hc_ j9_ (by omega) q7_ q8_ q5_
              exact ⟨mono _ w9_.1, mono _ w9_.2⟩
          · omega
set_option maxHeartbeats 2000000 in
theorem vc_67s {sc_ : Nat × (Nat → Int)} (dd_ : Nat) (F_ : Nat) (S0_ : sm_S) (hI_ : gi S0_) (hg_ : dgr dd_ F_ S0_) (hr_ : drt dd_ S0_) (hs_ : swp dd_ F_ S0_) : sm_T (mt_P sc_) 1 67 (0, [some (.inr (.inr (some (3, dd_)))), some (.inr (.inr (some (33, 0)))), none, none], [], S0_) (fun ro9_ => ∃ u_ S1_, ro9_ = (.inl u_, S1_, 0) ∧ vq_67s dd_ F_ S0_ u_ S1_) := by
  have hF_ : ai_fr (sx_W vw_67s) S0_ S0_ := ai_fr_rf
  refine sm_T_go 2 (c1 := (2, [some (.inr (.inr (some (3, dd_)))), some (.inr (.inr (some (33, 0)))), none, none], [.inl 0, .inr (.inr (some (33, 0)))], S0_)) rfl ?_
  refine sm_T_cal (d1 := 0) (Q1 := vq_2s 0 S0_) rfl rfl (by decide) (vc_2s 0 S0_ hI_ (by decide)) (fun u_ Sx1_ px4_ => ?_)
  obtain ⟨rfl, hIx2_, hFx3_, px4_⟩ := px4_
  have hFx5_ : ai_fr (sx_W vw_67s) S0_ Sx1_ := ai_fr_tr hF_ (fr_le hFx3_ rfl)
  have e0_ := px4_
  refine sm_T_go 2 (c1 := (7, [some (.inr (.inr (some (3, dd_)))), some (.inr (.inr (some (33, 0)))), some (.inl 0), none], [], Sx1_)) rfl ?_
  refine (vl_67s dd_ F_ S0_ hg_ hr_ hs_ _).1 0 Sx1_ hIx2_ hFx5_ ⟨?_, ?_, ?_, trivial⟩ (Nat.lt_succ_self _)
  · (have r1_ := hr_.1; omega)
  · (intro j9_ hj9_; left; exact e0_ j9_ hj9_)
  · (intro i9_ q8_ q9_; omega)
end
/-! 99.zh1a -/
section
/-! the class: a design is built; written by wip/p55/gen/vg -/

/-! a_ design is_ built -/
theorem stk_suf {f_ : Nat → Int} : ∀ {l_ s_ : List Int}, stk f_ (l_ ++ s_) → stk f_ s_
  | [], _, h_ => h_
  | _ :: l_, _, h_ => stk_suf (l_ := l_) h_.2
theorem stk_rw {f_ : Nat → Int} {l_ w_ c_ : List Int} (h_ : stk f_ (l_ ++ (w_.reverse ++ c_))) : rwv f_ c_.length w_ := by
  intro k_ z_ e_
  have h1_ := stk_suf h_
  obtain ⟨hk_, hz_⟩ := List.getElem?_eq_some_iff.mp e_
  have e2_ : w_ = w_.take k_ ++ z_ :: w_.drop (k_ + 1) := by
    rw [← hz_, List.getElem_cons_drop, List.take_append_drop]
  rw [e2_, List.reverse_append, List.reverse_cons, List.append_assoc, List.append_assoc] at h1_
  have h2_ := stk_suf h1_
  have h3_ : f_ ((w_.take k_).reverse ++ c_).length = z_ := h2_.1
  rw [← h3_]
  congr 1
  rw [List.length_append, List.length_reverse, List.length_take]
  omega
theorem ccd_of {b_ : Nat → Int} {n_ : Nat} {r_ : pD} {S_ : sm_S} (hn_ : n_ ≤ 1280) (hr_ : p_de b_ n_ = .inr r_) (hc_ : cr r_.2.2.2.2 S_) (hg_ : gi S_) (hm_ : ∀ k_ : Nat, k_ ≤ r_.2.2.1 → S_.2.2.1 76 0 k_ = (r_.2.2.2.1 k_ : Int)) : ccd (dC r_) (d_tp r_) S_ := by
  obtain ⟨h1_, h2_⟩ := de_ch hn_ hr_
  intro k_ hk_
  have kM_ : k_ < r_.2.2.1 := by unfold d_tp at hk_; omega
  obtain ⟨f_, A_, c0_, u_, ce_, l_, w1_, w2_, w3_, w4_, w5_, w6_, w7_⟩ := dC_r hn_ (h1_ k_ kM_).1
  refine ⟨c0_.length, by rw [hm_ k_ (by omega), w5_], by rw [hm_ (k_ + 1) (by omega), w6_], ?_, ?_⟩
  · have q_ := hc_.2.1
    have q2_ : S_.1 7 0 2 ≤ 65536 := (hg_.1 7 0 2 rfl).2
    have q3_ : r_.2.2.2.2.length = l_.length + ((dC r_ k_).length + c0_.length) := by rw [w7_, w3_, List.length_append, List.length_append, List.length_reverse]
    omega
  · have q_ := hc_.2.2
    rw [w7_, w3_] at q_
    exact stk_rw q_
theorem d_zz {b_ : Nat → Int} {n_ : Nat} {r_ : pD} (hn_ : n_ ≤ 1280) (h_ : p_de b_ n_ = .inr r_) (hl_ : d_lm r_ = 0) : ∃ z_, exm (1 + d_I r_ + d_R r_) (d_I r_) r_.1 (dC r_) 16 (d_tp r_) ([], 0, 1) (ein r_.1 (d_tp r_)) = some z_ ∧ z_.1.2.1 = d_R r_ ∧ ∀ s_, s_ < r_.1.1 (d_tp r_) → r_.1.2.2.1 (40 * d_tp r_ + s_) ≠ 5 → ((z_.2 s_).length : Int) = r_.1.2.2.2.1 (40 * d_tp r_ + s_) := by
  obtain ⟨h1_, h2_⟩ := de_ch hn_ h_
  obtain ⟨i1_, i2_, i3_, i4_, i5_⟩ := d_in hn_ h_
  have l_ := lm_0 hl_
  have g_ := g_sum (fun m_ hm_ => (h1_ m_ hm_).2)
  obtain ⟨G'_, e'_, w_, w2_⟩ := exm_tot (F_ := 1 + d_I r_ + d_R r_) (I_ := d_I r_) (C_ := dC r_) (N_ := r_.2.1) hn_ (fun m_ hm_ => (h1_ m_ hm_).2) g_.1 g_.2 (fun m_ hm_ => by
    obtain ⟨f_, A_, c0_, u_, ce_, l_, w1_, w2_, w3_, -⟩ := dC_r hn_ (h1_ m_ hm_).1
    exact ⟨f_, A_, c0_, u_, ce_, w1_, w2_, w3_⟩) (d_tp r_ + 1) (d_tp r_) (by omega) i3_ l_.2.2.1 l_.1 16 [] 0 1 (ein r_.1 (d_tp r_)) (by omega) (by simpa using l_.2.2.1) (by have := l_.1; push_cast; omega) (ein_o (h1_ (d_tp r_) i3_).2)
  refine ⟨_, w_, ?_, w2_⟩
  show 0 + (gR r_.1 r_.2.2.1 (d_tp r_)).toNat = d_R r_
  unfold d_R
  omega
theorem swp_fr {w_ : sx_Wl} {dd_ F_ : Nat} {S_ S'_ : sm_S} (h_ : swp dd_ F_ S_) (g_ : ai_fr (sx_W w_) S_ S'_) (h3_ : (sx_W w_).1 3 4 = false) (h4_ : (sx_W w_).2.1 42 = false) (h5_ : (sx_W w_).2.1 43 = false) (h6_ : (sx_W w_).2.1 44 = false) : swp dd_ F_ S'_ := by
  unfold swp
  rw [g_.1 3 dd_ 4 h3_, fr_arr (t := 42) g_ h4_, fr_arr (t := 43) g_ h5_, fr_arr (t := 44) g_ h6_]
  exact h_
theorem dtb_fr {w_ : sx_Wl} {dd_ : Nat} {S_ S'_ : sm_S} (h_ : dtb dd_ S_) (g_ : ai_fr (sx_W w_) S_ S'_) (h3_ : (sx_W w_).1 3 2 = false) (h4_ : (sx_W w_).2.1 47 = false) : dtb dd_ S'_ := by
  unfold dtb
  rw [g_.1 3 dd_ 2 h3_, fr_arr (t := 47) g_ h4_]
  exact h_
theorem lm_b {r_ : pD} : 0 ≤ d_lm r_ ∧ d_lm r_ ≤ 22 := by
  unfold d_lm p_lm
  repeat' split
  all_goals omega
theorem cgl_x {dd_ F_ : Nat} {G_ : pGr} {S_ : sm_S} (h_ : cgl dd_ F_ G_ S_) (hl_ : G_.length ≤ 1000) : cgx dd_ F_ G_ S_ := by
  obtain ⟨G1_, x_, y_⟩ := h_
  rcases y_ with y_ | y_
  · rw [← y_.2.1]; exact x_
  · omega
/-- a_ design that is_ there -/
def dOk (dd_ : Nat) (S_ : sm_S) : Prop := ∃ F_, dgr dd_ F_ S_ ∧ drt dd_ S_ ∧ swp dd_ F_ S_ ∧ dtb dd_ S_ ∧ (0 ≤ S_.1 3 dd_ 5 ∧ S_.1 3 dd_ 5 < 2 ^ (S_.1 3 dd_ 2).toNat) ∧ 0 ≤ S_.1 3 dd_ 6 ∧ S_.1 3 dd_ 6 < 2 ^ (S_.1 3 dd_ 2).toNat
theorem idf_ds {dd_ j_ : Nat} {S_ S'_ : sm_S} (h_ : idf dd_ S_ S'_) (hj_ : j_ ≠ dd_) (hd_ : S_.1 3 j_ 0 = 1 → dOk j_ S_) : S'_.1 3 j_ 0 = 1 → dOk j_ S'_ := by
  intro q_
  have e_ := (h_ j_ hj_).1
  have a_ := (h_ j_ hj_).2
  rw [e_ 0 (by decide)] at q_
  obtain ⟨F_, h1_, h2_, h3_, h4_, h5_, h6_⟩ := hd_ q_
  refine ⟨F_, ?_, ?_, ?_, ?_, ?_⟩
  · unfold dgr
    rw [e_ 1 (by decide), e_ 2 (by decide), e_ 4 (by decide), a_ 42 (by decide) (by decide), a_ 43 (by decide) (by decide)]
    exact h1_
  · unfold drt
    rw [e_ 3 (by decide), e_ 2 (by decide), e_ 4 (by decide), a_ 45 (by decide) (by decide), a_ 46 (by decide) (by decide)]
    exact h2_
  · unfold swp
    rw [e_ 4 (by decide), a_ 42 (by decide) (by decide), a_ 43 (by decide) (by decide), a_ 44 (by decide) (by decide)]
    exact h3_
  · unfold dtb
    rw [e_ 2 (by decide), a_ 47 (by decide) (by decide)]
    exact h4_
  · rw [e_ 2 (by decide), e_ 5 (by decide), e_ 6 (by decide)]
    exact ⟨h5_, h6_⟩
/-- what a_ right design comes to_: 0, or the_ number of_ a_ fault -/
def d_gr (r_ : pD) (z_ : gQ × gE) : Prop := exm (1 + d_I r_ + d_R r_) (d_I r_) r_.1 (dC r_) 16 (d_tp r_) ([], 0, 1) (ein r_.1 (d_tp r_)) = some z_
/-! Builder.build -/
end
/-! 99.zh2a -/
section
/-! the class: design; written by wip/p55/gen/vg -/

/-! the_ class: a_ text becomes a_ design -/
/-- a_ text that is_ a_ design -/
def dacc (b_ : Nat → Int) (n_ : Nat) : Prop := ∃ r_ z_, p_de b_ n_ = .inr r_ ∧ d_lm r_ = 0 ∧ d_gr r_ z_ ∧ z_.1.1.length ≤ 1000
theorem dacc_l {b_ : Nat → Int} {n_ : Nat} {e_ : Int × Nat} (h_ : p_de b_ n_ = .inl e_) : ¬ dacc b_ n_ := by
  rintro ⟨r_, z_, h1_, -⟩
  rw [h_] at h1_
  cases h1_
theorem dacc_r {b_ : Nat → Int} {n_ : Nat} {r_ : pD} (h_ : p_de b_ n_ = .inr r_) (hq_ : d_lm r_ ≠ 0 ∨ (d_lm r_ = 0 ∧ ∃ z_, d_gr r_ z_ ∧ 1000 < z_.1.1.length)) : ¬ dacc b_ n_ := by
  rintro ⟨r1_, z1_, h1_, h2_, h3_, h4_⟩
  rw [h_] at h1_
  cases h1_
  rcases hq_ with q_ | ⟨-, z_, q1_, q2_⟩
  · exact q_ h2_
  · unfold d_gr at q1_ h3_
    rw [q1_] at h3_
    cases h3_
    omega
/-! ChipFlow.design -/
def vw_213 : sx_Wl := ([(1, 3), (1, 6), (1, 8), (1, 9), (1, 13), (3, 0), (3, 1), (3, 2), (3, 3), (3, 4), (3, 5), (3, 6), (3, 7), (3, 8), (3, 9), (7, 2), (7, 3), (7, 14), (7, 16), (7, 17), (10, 1), (10, 2), (10, 3), (10, 4), (10, 5), (10, 6), (10, 7), (10, 8), (12, 10)], [26, 27, 28, 29, 30, 31, 32, 33, 42, 43, 44, 45, 46, 47, 74, 75, 76, 77, 78, 79, 80, 81, 82, 83, 84], [(1, 1), (7, 11)])
def vq_213 (b_ : Nat → Int) (n_ : Nat) (S0_ : sm_S) (u_ : Option sm_V) (S1_ : sm_S) : Prop := ∃ v_ : Int, u_ = some (.inl v_) ∧ gi S1_ ∧ ai_fr (sx_W vw_213) S0_ S1_ ∧ (∃ sl_ : Nat, sl_ < 6 ∧ S0_.1 3 sl_ 0 = 0 ∧ (∀ j_ : Nat, j_ < sl_ → S0_.1 3 j_ 0 = 1) ∧ (S1_.1 10 0 1) = 0 ∧ idf sl_ S0_ S1_ ∧ ((dacc b_ n_ ∧ S1_.1 3 sl_ 0 = 1 ∧ dOk sl_ S1_) ∨ (¬ dacc b_ n_ ∧ S1_.1 3 sl_ 0 = 0)))
end
/-! 99.zi1a -/
section
/-! the reference: rows of values; written by wip/p55/gen/vg -/

/-! the_ reference's graph as_ it_ stands -/
def rgr (F_ : Nat) (S_ : sm_S) : Prop := (S_.1 13 0 38 = (F_ : Int) ∧ (1 ≤ F_ ∧ F_ ≤ 13)) ∧ ((F_ : Int) ≤ S_.1 13 0 37 ∧ S_.1 13 0 37 ≤ F_ + 1000) ∧ ∀ n_ : Nat, F_ ≤ n_ → (n_ : Int) < S_.1 13 0 37 → 2 ≤ S_.2.2.1 140 0 n_ ∧ S_.2.2.1 140 0 n_ < S_.2.2.1 141 0 n_ ∧ S_.2.2.1 141 0 n_ < 2 * (n_ : Int)
theorem rgr_fr {w_ : sx_Wl} {F_ : Nat} {S_ S'_ : sm_S} (h_ : rgr F_ S_) (g_ : ai_fr (sx_W w_) S_ S'_) (h1_ : (sx_W w_).1 13 38 = false) (h2_ : (sx_W w_).1 13 37 = false) (h4_ : (sx_W w_).2.1 140 = false) (h5_ : (sx_W w_).2.1 141 = false) : rgr F_ S'_ := by
  unfold rgr
  rw [g_.1 13 0 38 h1_, g_.1 13 0 37 h2_, fr_arr (t := 140) g_ h4_, fr_arr (t := 141) g_ h5_]
  exact h_
theorem rgl_rgr {F_ : Nat} {G_ : pGr} {S_ : sm_S} (h_ : rgl F_ G_ S_) (hw_ : gwf F_ G_) (hl_ : G_.length ≤ 1000) : rgr F_ S_ := by
  obtain ⟨G1_, x_, y_⟩ := h_
  have e_ : G1_ = G_ := by
    rcases y_ with y_ | y_
    · exact y_.2
    · omega
  rw [e_] at x_
  obtain ⟨x1_, x2_, x3_, x4_, x5_, -, -⟩ := x_
  refine ⟨⟨x1_, x2_⟩, by rw [x3_]; push_cast; omega, fun n_ hn_ hN_ => ?_⟩
  rw [x3_] at hN_
  have l_ : n_ - F_ < G_.length := by omega
  have e_ := List.getElem?_eq_getElem l_
  have q_ := x5_ (n_ - F_) G_[n_ - F_].1 G_[n_ - F_].2 e_
  have w_ := hw_.2 (n_ - F_) G_[n_ - F_].1 G_[n_ - F_].2 e_
  rw [show F_ + (n_ - F_) = n_ by omega] at q_ w_
  rw [q_.1, q_.2]
  exact w_
theorem l3_m1 {x_ : Int} (h_ : lcn x_) : l_3 x_ (-1) = x_ := by
  unfold l_3
  rw [show Int64.ofInt (-1) = -1 from rfl, Int64.and_neg_one]
  exact h_
theorem srw_cg {F_ n_ : Nat} {mk_ : Int} {lo_ hi_ R_ Q_ : Nat → Int} (hg_ : F_ ≤ n_ → 2 ≤ lo_ n_ ∧ lo_ n_ < hi_ n_ ∧ hi_ n_ < 2 * (n_ : Int)) (h_ : srw F_ n_ 64 mk_ lo_ hi_ R_) (e_ : ∀ k_, k_ < 64 * (n_ + 1) → Q_ k_ = R_ k_) : srw F_ n_ 64 mk_ lo_ hi_ Q_ := by
  intro j_ hj_
  have q_ := h_ j_ hj_
  rw [e_ _ (by omega)]
  refine ⟨q_.1, fun a_ => ?_, q_.2.2⟩
  have g_ := hg_ a_
  rw [wlt_cg (R_ := R_) (e_ _ (by omega)), wlt_cg (R_ := R_) (e_ _ (by omega))]
  exact q_.2.1 a_
theorem lcn_c : lcn 0 ∧ lcn (-1) ∧ lcn (-6148914691236517206) ∧ lcn (-3689348814741910324) ∧ lcn (-1085102592571150096) ∧ lcn (-71777214294589696) ∧ lcn (-281470681808896) ∧ lcn (-4294967296) := by
  unfold lcn
  decide
/-! M_.function -/
def vw_351 : sx_Wl := ([], [], [])
def vq_351 (l_ : Int) (w_ : Int) (S0_ : sm_S) (u_ : Option sm_V) (S1_ : sm_S) : Prop := S0_ = S1_ ∧ ∃ v_ : Int, u_ = some (.inr (.inl v_)) ∧ (v_ = wlt (S0_.2.2.2 171 0) l_ w_.toNat)
set_option maxHeartbeats 400000 in
theorem vc_351 {sc_ : Nat × (Nat → Int)} (l_ : Int) (w_ : Int) (S0_ : sm_S) (hI_ : gi S0_) (hl_ : 0 ≤ l_ ∧ l_ ≤ 2047) (hw_ : 0 ≤ w_ ∧ w_ ≤ 63) : sm_T (mt_P sc_) 0 351 (0, [some (.inr (.inr (some (13, 0)))), some (.inl l_), some (.inl w_), none, none], [], S0_) (fun ro9_ => ∃ u_ S1_, ro9_ = (.inl u_, S1_, 0) ∧ vq_351 l_ w_ S0_ u_ S1_) := by
  have hF_ : ai_fr (sx_W vw_351) S0_ S0_ := ai_fr_rf
  refine sm_T_go 5 (c1 := (8, [some (.inr (.inr (some (13, 0)))), some (.inl l_), some (.inl w_), none, none], [.inl 1, .inl l_, .inl 64, .inr (.inr (some (171, 0)))], S0_)) rfl ?_
  refine sm_T_bin (w := (l_ / 2)) rfl (bi_shr (k := 1) (by decide) (by omega) (by omega)) ?_
  refine sm_T_bin (w := 64 * (l_ / 2)) rfl (bi_mul (by omega) (by omega) (by omega)) ?_
  refine sm_T_go 1 (c1 := (11, [some (.inr (.inr (some (13, 0)))), some (.inl l_), some (.inl w_), none, none], [.inl w_, .inl (64 * (l_ / 2)), .inr (.inr (some (171, 0)))], S0_)) rfl ?_
  refine sm_T_bin (w := 64 * (l_ / 2) + w_) rfl (bi_add (by omega) (by omega) (by omega)) ?_
  refine sm_T_lald (n := 131072) rfl rfl (by omega) (by omega) ?_
  refine sm_T_go 3 (c1 := (16, [some (.inr (.inr (some (13, 0)))), some (.inl l_), some (.inl w_), some (.inr (.inl (S0_.2.2.2 171 0 (64 * (l_ / 2) + w_).toNat))), none], [.inl 1, .inl l_], S0_)) rfl ?_
  refine sm_T_bin (w := (l_ % 2)) rfl (bi_msk (k := 1) (by decide)) ?_
  refine sm_T_go 1 (c1 := (18, [some (.inr (.inr (some (13, 0)))), some (.inl l_), some (.inl w_), some (.inr (.inl (S0_.2.2.2 171 0 (64 * (l_ / 2) + w_).toNat))), none], [.inl 1, .inl (l_ % 2)], S0_)) rfl ?_
  refine sm_T_br (a := 1) (z := 11) rfl (fun cx1_ => ?_) (fun cx1_ => ?_)
  · have cx1_ : (l_ % 2) ≠ 1 := of_decide_eq_true cx1_
    refine sm_T_go 1 (c1 := (30, [some (.inr (.inr (some (13, 0)))), some (.inl l_), some (.inl w_), some (.inr (.inl (S0_.2.2.2 171 0 (64 * (l_ / 2) + w_).toNat))), none], [.inr (.inl (S0_.2.2.2 171 0 (64 * (l_ / 2) + w_).toNat))], S0_)) rfl ?_
    refine sm_T_rl rfl ⟨_, _, rfl, rfl, _, rfl, ?_⟩
    unfold wlt
    rw [show 64 * (l_ / 2).toNat + w_.toNat = (64 * (l_ / 2) + w_).toNat by omega]
    first | rw [if_pos (by omega)] | rw [if_neg (by omega)]
  · have cx1_ : ¬ ((l_ % 2) ≠ 1) := of_decide_eq_false cx1_
    refine sm_T_go 1 (c1 := (22, [some (.inr (.inr (some (13, 0)))), some (.inl l_), some (.inl w_), some (.inr (.inl (S0_.2.2.2 171 0 (64 * (l_ / 2) + w_).toNat))), none], [.inr (.inl (S0_.2.2.2 171 0 (64 * (l_ / 2) + w_).toNat))], S0_)) rfl ?_
    refine sm_T_nt (u := some (.inr (.inl (-1)))) (S1 := S0_) rfl rfl rfl ?_
    refine sm_T_go 2 (c1 := (30, [some (.inr (.inr (some (13, 0)))), some (.inl l_), some (.inl w_), some (.inr (.inl (S0_.2.2.2 171 0 (64 * (l_ / 2) + w_).toNat))), none], [.inr (.inl (l_5 ((S0_.2.2.2 171 0 (64 * (l_ / 2) + w_).toNat)) (-1)))], S0_)) rfl ?_
    refine sm_T_rl rfl ⟨_, _, rfl, rfl, _, rfl, ?_⟩
    unfold wlt
    rw [show 64 * (l_ / 2).toNat + w_.toNat = (64 * (l_ / 2) + w_).toNat by omega]
    first | rw [if_pos (by omega)] | rw [if_neg (by omega)]
end
/-! 99.zi1b -/
section
/-! M_.base -/
def vw_350 : sx_Wl := ([], [], [])
def vq_350 (k_ : Int) (w_ : Int) (S0_ : sm_S) (u_ : Option sm_V) (S1_ : sm_S) : Prop := S0_ = S1_ ∧ ∃ v_ : Int, u_ = some (.inr (.inl v_)) ∧ (lcn v_)
set_option maxHeartbeats 400000 in
theorem vc_350 {sc_ : Nat × (Nat → Int)} (k_ : Int) (w_ : Int) (S0_ : sm_S) (hI_ : gi S0_) (hb_ : 0 ≤ k_ ∧ k_ ≤ 11) (hw_ : 0 ≤ w_ ∧ w_ ≤ 63) : sm_T (mt_P sc_) 0 350 (0, [some (.inl k_), some (.inl w_)], [], S0_) (fun ro9_ => ∃ u_ S1_, ro9_ = (.inl u_, S1_, 0) ∧ vq_350 k_ w_ S0_ u_ S1_) := by
  have hF_ : ai_fr (sx_W vw_350) S0_ S0_ := ai_fr_rf
  refine sm_T_go 1 (c1 := (1, [some (.inl k_), some (.inl w_)], [.inl k_], S0_)) rfl ?_
  by_cases cx1_ : k_ = 0
  · refine sm_T_sw (t := 40) rfl rfl (by rw [cx1_]; rfl) ?_
    refine sm_T_nt (u := some (.inr (.inl (-6148914691236517206)))) (S1 := S0_) rfl rfl rfl ?_
    refine sm_T_rl rfl ⟨_, _, rfl, rfl, _, rfl, ?_⟩
    first | exact lcn_c.1 | exact lcn_c.2.1 | exact lcn_c.2.2.1 | exact lcn_c.2.2.2.1 | exact lcn_c.2.2.2.2.1 | exact lcn_c.2.2.2.2.2.1 | exact lcn_c.2.2.2.2.2.2.1 | exact lcn_c.2.2.2.2.2.2.2
  by_cases cx2_ : k_ = 1
  · refine sm_T_sw (t := 44) rfl rfl (by rw [cx2_]; rfl) ?_
    refine sm_T_nt (u := some (.inr (.inl (-3689348814741910324)))) (S1 := S0_) rfl rfl rfl ?_
    refine sm_T_rl rfl ⟨_, _, rfl, rfl, _, rfl, ?_⟩
    first | exact lcn_c.1 | exact lcn_c.2.1 | exact lcn_c.2.2.1 | exact lcn_c.2.2.2.1 | exact lcn_c.2.2.2.2.1 | exact lcn_c.2.2.2.2.2.1 | exact lcn_c.2.2.2.2.2.2.1 | exact lcn_c.2.2.2.2.2.2.2
  by_cases cx3_ : k_ = 2
  · refine sm_T_sw (t := 48) rfl rfl (by rw [cx3_]; rfl) ?_
    refine sm_T_nt (u := some (.inr (.inl (-1085102592571150096)))) (S1 := S0_) rfl rfl rfl ?_
    refine sm_T_rl rfl ⟨_, _, rfl, rfl, _, rfl, ?_⟩
    first | exact lcn_c.1 | exact lcn_c.2.1 | exact lcn_c.2.2.1 | exact lcn_c.2.2.2.1 | exact lcn_c.2.2.2.2.1 | exact lcn_c.2.2.2.2.2.1 | exact lcn_c.2.2.2.2.2.2.1 | exact lcn_c.2.2.2.2.2.2.2
  by_cases cx4_ : k_ = 3
  · refine sm_T_sw (t := 52) rfl rfl (by rw [cx4_]; rfl) ?_
    refine sm_T_nt (u := some (.inr (.inl (-71777214294589696)))) (S1 := S0_) rfl rfl rfl ?_
    refine sm_T_rl rfl ⟨_, _, rfl, rfl, _, rfl, ?_⟩
    first | exact lcn_c.1 | exact lcn_c.2.1 | exact lcn_c.2.2.1 | exact lcn_c.2.2.2.1 | exact lcn_c.2.2.2.2.1 | exact lcn_c.2.2.2.2.2.1 | exact lcn_c.2.2.2.2.2.2.1 | exact lcn_c.2.2.2.2.2.2.2
  by_cases cx5_ : k_ = 4
  · refine sm_T_sw (t := 56) rfl rfl (by rw [cx5_]; rfl) ?_
    refine sm_T_nt (u := some (.inr (.inl (-281470681808896)))) (S1 := S0_) rfl rfl rfl ?_
    refine sm_T_rl rfl ⟨_, _, rfl, rfl, _, rfl, ?_⟩
    first | exact lcn_c.1 | exact lcn_c.2.1 | exact lcn_c.2.2.1 | exact lcn_c.2.2.2.1 | exact lcn_c.2.2.2.2.1 | exact lcn_c.2.2.2.2.2.1 | exact lcn_c.2.2.2.2.2.2.1 | exact lcn_c.2.2.2.2.2.2.2
  by_cases cx6_ : k_ = 5
  · refine sm_T_sw (t := 60) rfl rfl (by rw [cx6_]; rfl) ?_
    refine sm_T_nt (u := some (.inr (.inl (-4294967296)))) (S1 := S0_) rfl rfl rfl ?_
    refine sm_T_rl rfl ⟨_, _, rfl, rfl, _, rfl, ?_⟩
    first | exact lcn_c.1 | exact lcn_c.2.1 | exact lcn_c.2.2.1 | exact lcn_c.2.2.2.1 | exact lcn_c.2.2.2.2.1 | exact lcn_c.2.2.2.2.2.1 | exact lcn_c.2.2.2.2.2.2.1 | exact lcn_c.2.2.2.2.2.2.2
  refine sm_T_sw (t := 64) rfl rfl (by (have hh_ : k_ < 0 ∨ 6 ≤ k_ := by omega); rcases hh_ with hh_ | hh_; (exact sm_swd (Or.inl hh_)); (exact sm_swd (Or.inr (by simp only [List.length_cons, List.length_nil]; omega)))) ?_
  refine sm_T_go 3 (c1 := (68, [some (.inl k_), some (.inl w_)], [.inl 6, .inl k_, .inl w_], S0_)) rfl ?_
  refine sm_T_bin (w := k_ - 6) rfl (bi_sub (by omega) (by omega) (by omega)) ?_
  refine sm_T_bin (w := (i_shr w_ (k_ - 6))) rfl rfl ?_
  refine sm_T_go 1 (c1 := (71, [some (.inl k_), some (.inl w_)], [.inl 1, .inl (i_shr w_ (k_ - 6))], S0_)) rfl ?_
  refine sm_T_bin (w := ((i_shr w_ (k_ - 6)) % 2)) rfl (bi_msk (k := 1) (by decide)) ?_
  refine sm_T_go 1 (c1 := (73, [some (.inl k_), some (.inl w_)], [.inl 1, .inl ((i_shr w_ (k_ - 6)) % 2)], S0_)) rfl ?_
  refine sm_T_br (a := 1) (z := 9) rfl (fun cx7_ => ?_) (fun cx7_ => ?_)
  · have cx7_ : ((i_shr w_ (k_ - 6)) % 2) ≠ 1 := of_decide_eq_true cx7_
    refine sm_T_go 1 (c1 := (83, [some (.inl k_), some (.inl w_)], [.inr (.inl 0)], S0_)) rfl ?_
    refine sm_T_rl rfl ⟨_, _, rfl, rfl, _, rfl, ?_⟩
    first | exact lcn_c.1 | exact lcn_c.2.1 | exact lcn_c.2.2.1 | exact lcn_c.2.2.2.1 | exact lcn_c.2.2.2.2.1 | exact lcn_c.2.2.2.2.2.1 | exact lcn_c.2.2.2.2.2.2.1 | exact lcn_c.2.2.2.2.2.2.2
  · have cx7_ : ¬ (((i_shr w_ (k_ - 6)) % 2) ≠ 1) := of_decide_eq_false cx7_
    refine sm_T_nt (u := some (.inr (.inl (-1)))) (S1 := S0_) rfl rfl rfl ?_
    refine sm_T_go 1 (c1 := (83, [some (.inl k_), some (.inl w_)], [.inr (.inl (-1))], S0_)) rfl ?_
    refine sm_T_rl rfl ⟨_, _, rfl, rfl, _, rfl, ?_⟩
    first | exact lcn_c.1 | exact lcn_c.2.1 | exact lcn_c.2.2.1 | exact lcn_c.2.2.2.1 | exact lcn_c.2.2.2.2.1 | exact lcn_c.2.2.2.2.2.1 | exact lcn_c.2.2.2.2.2.2.1 | exact lcn_c.2.2.2.2.2.2.2
end
/-! 99.zi1c -/
section
/-! M_.workFunctions -/
end
/-! 99.zi2a -/
section
/-! the reference: the sweep; written by wip/p55/gen/vg -/

/-! the_ reference's sweep -/
/-- how_ far_ two_ rows are_ the_ same -/
def alk (R_ : Nat → Int) (a_ b_ : Nat) (t_ f_ w_ : Int) : Prop := (f_ = 0 ∨ f_ = 1) ∧ imq (f_ = 1) (∀ j_, j_ < w_.toNat → R_ (64 * a_ + j_) = l_5 (R_ (64 * b_ + j_)) t_) ∧ imq (f_ = 0) (∃ j_, j_ < 64 ∧ R_ (64 * a_ + j_) ≠ l_5 (R_ (64 * b_ + j_)) t_)
theorem alk_0 {R_ : Nat → Int} {a_ b_ : Nat} {t_ : Int} : alk R_ a_ b_ t_ 1 0 := ⟨Or.inr rfl, fun _ j_ hj_ => absurd hj_ (Nat.not_lt_zero _), fun h_ => absurd h_ (by decide)⟩
theorem alk_y {R_ : Nat → Int} {a_ b_ : Nat} {t_ w_ : Int} (h_ : alk R_ a_ b_ t_ 1 w_) (hw_ : 0 ≤ w_) (e_ : R_ (64 * a_ + w_.toNat) = l_5 (R_ (64 * b_ + w_.toNat)) t_) : alk R_ a_ b_ t_ 1 (w_ + 1) := by
  refine ⟨Or.inr rfl, fun _ j_ hj_ => ?_, fun h_ => absurd h_ (by decide)⟩
  by_cases z_ : j_ < w_.toNat
  · exact h_.2.1 rfl j_ z_
  · rw [show j_ = w_.toNat by omega]; exact e_
theorem alk_n {R_ : Nat → Int} {a_ b_ : Nat} {t_ w_ w'_ : Int} (hw_ : 0 ≤ w_ ∧ w_ < 64) (e_ : R_ (64 * a_ + w_.toNat) ≠ l_5 (R_ (64 * b_ + w_.toNat)) t_) : alk R_ a_ b_ t_ 0 w'_ := ⟨Or.inl rfl, fun h_ => absurd h_ (by decide), fun _ => ⟨w_.toNat, by omega, e_⟩⟩
theorem alk_z {R_ : Nat → Int} {a_ b_ : Nat} {t_ w_ w'_ : Int} (h_ : alk R_ a_ b_ t_ 0 w_) : alk R_ a_ b_ t_ 0 w'_ := ⟨Or.inl rfl, fun h_ => absurd h_ (by decide), h_.2.2⟩
theorem alk_l {R_ : Nat → Int} {a_ b_ : Nat} {t_ w_ : Int} (h_ : alk R_ a_ b_ t_ 1 w_) (hw_ : 64 ≤ w_) : lik 64 R_ a_ b_ t_ := fun j_ hj_ => h_.2.1 rfl j_ (by omega)
theorem alk_x {R_ : Nat → Int} {a_ b_ : Nat} {t_ w_ : Int} (h_ : alk R_ a_ b_ t_ 0 w_) : ¬ lik 64 R_ a_ b_ t_ := fun q_ => by
  obtain ⟨j_, h1_, h2_⟩ := h_.2.2 rfl
  exact h2_ (q_ j_ h1_)
theorem lik_sy {W_ a_ b_ : Nat} {t_ : Int} {R_ : Nat → Int} (hb_ : ∀ w_, w_ < W_ → lcn (R_ (64 * b_ + w_))) (h_ : lik W_ R_ a_ b_ t_) : lik W_ R_ b_ a_ t_ := fun w_ hw_ => by
  rw [h_ w_ hw_, l5_5 (hb_ w_ hw_)]
theorem sw1_sf {F_ W_ n_ N_ : Nat} {mk_ : Int} {lo_ hi_ sf_ sg_ R_ : Nat → Int} (hg_ : glo F_ N_ lo_ hi_) (hN_ : n_ ≤ N_) (h_ : sw1 F_ W_ n_ mk_ lo_ hi_ sf_ R_) (e_ : ∀ k_, k_ < n_ → sg_ k_ = sf_ k_) : sw1 F_ W_ n_ mk_ lo_ hi_ sg_ R_ := fun m_ hm_ => by
  obtain ⟨q1_, q2_, t_, q3_, q4_⟩ := h_ m_ hm_
  refine ⟨sfo_cg (fun a_ => hg_ m_ a_ (by omega)) hm_ q1_ e_, q2_, t_, q3_, ?_⟩
  rw [e_ m_ hm_]
  exact q4_
theorem sPn_sf {sf_ sg_ : Nat → Int} {n_ m_ : Nat} (e_ : ∀ k_, k_ < n_ → sg_ k_ = sf_ k_) : sPn sg_ n_ m_ ↔ sPn sf_ n_ m_ := by
  unfold sPn
  constructor
  · rintro ⟨h1_, h2_⟩; exact ⟨h1_, by rw [← e_ m_ h1_]; exact h2_⟩
  · rintro ⟨h1_, h2_⟩; exact ⟨h1_, by rw [e_ m_ h1_]; exact h2_⟩
/-- the_ search for_ a_ row_ that is_ like the_ row_ of_ n_: how_ far_ it_ is_, what it_ found -/
def rfn (n_ m_ : Nat) (sf_ R_ : Nat → Int) (f_ : Int) : Prop := (f_ = 0 ∧ sf_ n_ = 2 * (n_ : Int) ∧ ∀ p_, p_ < m_ → sPn sf_ n_ p_ → ∀ t_, tmk (-1) t_ → ¬ lik 64 R_ n_ p_ t_) ∨ (f_ = 1 ∧ ∃ p_ t_, sPn sf_ n_ p_ ∧ tmk (-1) t_ ∧ lik 64 R_ n_ p_ t_ ∧ sf_ n_ = 2 * (p_ : Int) + (if t_ = 0 then 0 else 1))
theorem rfn_b {n_ m_ : Nat} {sf_ R_ : Nat → Int} {f_ : Int} (h_ : rfn n_ m_ sf_ R_ f_) : 0 ≤ sf_ n_ ∧ sf_ n_ ≤ 2 * (n_ : Int) + 1 := by
  rcases h_ with ⟨-, h_, -⟩ | ⟨-, p_, t_, h1_, -, -, h4_⟩
  · omega
  · have := h1_.1
    rw [h4_]
    split <;> omega
theorem sw_rf {F_ n_ N_ : Nat} {lo_ hi_ sf_ R_ : Nat → Int} (hg_ : glo F_ N_ lo_ hi_) (hF_ : 1 ≤ F_) (hN_ : n_ < N_) (h_ : sw1 F_ 64 n_ (-1) lo_ hi_ sf_ R_) (hz_ : 0 < n_ → sf_ 0 = 0) (hr_ : ∀ m_, m_ ≤ n_ → srw F_ m_ 64 (-1) lo_ hi_ R_) {f_ : Int} (hf_ : rfn n_ n_ sf_ R_ f_) : sw1 F_ 64 (n_ + 1) (-1) lo_ hi_ sf_ R_ := by
  have rk_ : rok 64 (-1) R_ n_ := fun w_ hw_ => (hr_ n_ (Nat.le_refl _) w_ hw_).1
  rcases hf_ with ⟨-, h1_, h2_⟩ | ⟨-, p_, t_, h1_, h2_, h3_, h4_⟩
  · exact sw_nw (N_ := N_) hg_ hF_ hN_ (by decide) lcn_c.2.1 h_ (fun z_ w_ hw_ => by
      have q_ := (hr_ 0 (by omega) w_ hw_).2.2 rfl
      rw [Nat.mul_zero, Nat.zero_add] at q_
      exact q_) rk_ (fun a_ w_ hw_ => (hr_ n_ (Nat.le_refl _) w_ hw_).2.1 a_) (fun p_ hp_ => h2_ p_ hp_.1 hp_) (fun k_ => by
      by_cases z_ : k_ = n_
      · rw [if_pos z_, z_]; exact h1_
      · rw [if_neg z_]) hz_
  · exact sw_fd (N_ := N_) hg_ hN_ h_ rk_ h1_ h2_ h3_ h4_ (fun k_ => by
      by_cases z_ : k_ = n_
      · rw [if_pos z_, z_]
      · rw [if_neg z_])
/-! M_.alike -/
def vw_353 : sx_Wl := ([], [], [])
def vq_353 (a_ : Int) (b_ : Int) (aa_ : Nat) (bb_ : Nat) (S0_ : sm_S) (u_ : Option sm_V) (S1_ : sm_S) : Prop := S0_ = S1_ ∧ ∃ v_ : Int, u_ = some (.inl v_) ∧ ((v_ = 0 ∧ lik 64 (S0_.2.2.2 171 0) aa_ bb_ 0) ∨ (v_ = 1 ∧ lik 64 (S0_.2.2.2 171 0) aa_ bb_ (-1)) ∨ (v_ = 2 ∧ ¬ lik 64 (S0_.2.2.2 171 0) aa_ bb_ 0 ∧ ¬ lik 64 (S0_.2.2.2 171 0) aa_ bb_ (-1)))
set_option maxHeartbeats 3000000 in
theorem vl_353 {sc_ : Nat × (Nat → Int)} (a_ : Int) (b_ : Int) (aa_ : Nat) (bb_ : Nat) (S0_ : sm_S) (ha_ : a_ = (aa_ : Int) ∧ aa_ ≤ 1012) (hb_ : b_ = (bb_ : Int) ∧ bb_ ≤ 1012) (hrb_ : rok 64 (-1) (S0_.2.2.2 171 0) bb_) : ∀ nn_ : Nat, (∀ (sa_ : Int) (tu_ : Int) (w_ : Int) (S_ : sm_S), gi S_ → ai_fr (sx_W vw_353) S0_ S_ → ((0 ≤ w_ ∧ w_ ≤ 64) ∧ (alk (S0_.2.2.2 171 0) aa_ bb_ 0 sa_ w_) ∧ (alk (S0_.2.2.2 171 0) aa_ bb_ (-1) tu_ w_) ∧ (S_ = S0_) ∧ True) → ((65 - w_).toNat) < nn_ → sm_T (mt_P sc_) 0 353 (8, [some (.inr (.inr (some (13, 0)))), some (.inl a_), some (.inl b_), some (.inl sa_), some (.inl tu_), some (.inl w_)], [], S_) (fun ro9_ => ∃ u_ S1_, ro9_ = (.inl u_, S1_, 0) ∧ vq_353 a_ b_ aa_ bb_ S0_ u_ S1_)) := by
  intro nn_
  induction nn_ with
  | zero => exact fun _ _ _ _ _ _ _ h_ => absurd h_ (Nat.not_lt_zero _)
  | succ nn_ ih_ =>
    rintro sa_ tu_ w_ S_ hI_ hF_ ⟨h0_, h1_, h2_, hS_, -⟩ hm_
    have s01_ := h1_.1
    have t01_ := h2_.1
    refine sm_T_go 2 (c1 := (12, [some (.inr (.inr (some (13, 0)))), some (.inl a_), some (.inl b_), some (.inl sa_), some (.inl tu_), some (.inl w_)], [.inl 64, .inl w_], S_)) rfl ?_
    refine sm_T_br (a := 3) (z := 100) rfl (fun cx1_ => ?_) (fun cx1_ => ?_)
    · have cx1_ : 64 ≤ w_ := of_decide_eq_true cx1_
      refine sm_T_go 1 (c1 := (113, [some (.inr (.inr (some (13, 0)))), some (.inl a_), some (.inl b_), some (.inl sa_), some (.inl tu_), some (.inl w_)], [.inl sa_], S_)) rfl ?_
      refine sm_T_b0 (a := 0) (z := 7) rfl (fun cx2_ => ?_) (fun cx2_ => ?_)
      · have cx2_ : sa_ = 0 := of_decide_eq_true cx2_
        refine sm_T_go 1 (c1 := (122, [some (.inr (.inr (some (13, 0)))), some (.inl a_), some (.inl b_), some (.inl sa_), some (.inl tu_), some (.inl w_)], [.inl tu_], S_)) rfl ?_
        refine sm_T_b0 (a := 0) (z := 7) rfl (fun cx3_ => ?_) (fun cx3_ => ?_)
        · have cx3_ : tu_ = 0 := of_decide_eq_true cx3_
          refine sm_T_go 1 (c1 := (130, [some (.inr (.inr (some (13, 0)))), some (.inl a_), some (.inl b_), some (.inl sa_), some (.inl tu_), some (.inl w_)], [.inl 2], S_)) rfl ?_
          refine sm_T_ri rfl ⟨_, _, rfl, (by first | rfl | exact hS_.symm), _, rfl, ?_⟩
          first | (have s1_ : sa_ = 1 := (by omega); rw [s1_] at h1_; exact Or.inl ⟨rfl, alk_l h1_ (by omega)⟩) | (have t1_ : tu_ = 1 := (by omega); rw [t1_] at h2_; exact Or.inr (Or.inl ⟨rfl, alk_l h2_ (by omega)⟩)) | (have s0_ : sa_ = 0 := (by omega); have t0_ : tu_ = 0 := (by omega); rw [s0_] at h1_; rw [t0_] at h2_; exact Or.inr (Or.inr ⟨rfl, alk_x h1_, alk_x h2_⟩))
        · have cx3_ : ¬ (tu_ = 0) := of_decide_eq_false cx3_
          refine sm_T_go 2 (c1 := (130, [some (.inr (.inr (some (13, 0)))), some (.inl a_), some (.inl b_), some (.inl sa_), some (.inl tu_), some (.inl w_)], [.inl 1], S_)) rfl ?_
          refine sm_T_ri rfl ⟨_, _, rfl, (by first | rfl | exact hS_.symm), _, rfl, ?_⟩
          first | (have s1_ : sa_ = 1 := (by omega); rw [s1_] at h1_; exact Or.inl ⟨rfl, alk_l h1_ (by omega)⟩) | (have t1_ : tu_ = 1 := (by omega); rw [t1_] at h2_; exact Or.inr (Or.inl ⟨rfl, alk_l h2_ (by omega)⟩)) | (have s0_ : sa_ = 0 := (by omega); have t0_ : tu_ = 0 := (by omega); rw [s0_] at h1_; rw [t0_] at h2_; exact Or.inr (Or.inr ⟨rfl, alk_x h1_, alk_x h2_⟩))
      · have cx2_ : ¬ (sa_ = 0) := of_decide_eq_false cx2_
        refine sm_T_go 2 (c1 := (130, [some (.inr (.inr (some (13, 0)))), some (.inl a_), some (.inl b_), some (.inl sa_), some (.inl tu_), some (.inl w_)], [.inl 0], S_)) rfl ?_
        refine sm_T_ri rfl ⟨_, _, rfl, (by first | rfl | exact hS_.symm), _, rfl, ?_⟩
        first | (have s1_ : sa_ = 1 := (by omega); rw [s1_] at h1_; exact Or.inl ⟨rfl, alk_l h1_ (by omega)⟩) | (have t1_ : tu_ = 1 := (by omega); rw [t1_] at h2_; exact Or.inr (Or.inl ⟨rfl, alk_l h2_ (by omega)⟩)) | (have s0_ : sa_ = 0 := (by omega); have t0_ : tu_ = 0 := (by omega); rw [s0_] at h1_; rw [t0_] at h2_; exact Or.inr (Or.inr ⟨rfl, alk_x h1_, alk_x h2_⟩))
    · have cx1_ : ¬ (64 ≤ w_) := of_decide_eq_false cx1_
      refine sm_T_go 1 (c1 := (16, [some (.inr (.inr (some (13, 0)))), some (.inl a_), some (.inl b_), some (.inl sa_), some (.inl tu_), some (.inl w_)], [.inl sa_], S_)) rfl ?_
      refine sm_T_b0 (a := 1) (z := 8) rfl (fun cx4_ => ?_) (fun cx4_ => ?_)
      · have cx4_ : sa_ ≠ 0 := of_decide_eq_true cx4_
        refine sm_T_go 1 (c1 := (25, [some (.inr (.inr (some (13, 0)))), some (.inl a_), some (.inl b_), some (.inl sa_), some (.inl tu_), some (.inl w_)], [.inl sa_], S_)) rfl ?_
        refine sm_T_b0 (a := 0) (z := 35) rfl (fun cx5_ => ?_) (fun cx5_ => ?_)
        · have cx5_ : sa_ = 0 := of_decide_eq_true cx5_
          refine sm_T_go 3 (c1 := (64, [some (.inr (.inr (some (13, 0)))), some (.inl a_), some (.inl b_), some (.inl 0), some (.inl tu_), some (.inl w_)], [.inl tu_], S_)) rfl ?_
          refine sm_T_b0 (a := 0) (z := 39) rfl (fun cx6_ => ?_) (fun cx6_ => ?_)
          · have cx6_ : tu_ = 0 := of_decide_eq_true cx6_
            refine sm_T_go 2 (c1 := (106, [some (.inr (.inr (some (13, 0)))), some (.inl a_), some (.inl b_), some (.inl 0), some (.inl 0), some (.inl w_)], [], S_)) rfl ?_
            refine sm_T_inc (a := 5) (z := 1) (v := w_) (w := w_ + 1) rfl rfl (by omega) (by omega) (by omega) ?_
            refine sm_T_go 1 (c1 := (8, [some (.inr (.inr (some (13, 0)))), some (.inl a_), some (.inl b_), some (.inl 0), some (.inl 0), some (.inl (w_ + 1))], [], S_)) rfl ?_
            refine ih_ 0 0 (w_ + 1) S_ hI_ hF_ ⟨?_, ?_, ?_, ?_, trivial⟩ ?_
            · omega
            · have i1_ : (64 * a_ + w_).toNat = 64 * aa_ + w_.toNat := by omega
              have i2_ : (64 * b_ + w_).toNat = 64 * bb_ + w_.toNat := by omega
              have cb_ := rok_c hrb_ w_.toNat (by omega)
              by_cases E9_ : S0_.2.2.2 171 0 (64 * aa_ + w_.toNat) = S0_.2.2.2 171 0 (64 * bb_ + w_.toNat)
              · have E8_ : sm_lcmp (S_.2.2.2 171 0 (64 * a_ + w_).toNat) (S_.2.2.2 171 0 (64 * b_ + w_).toNat) = 0 := by rw [hS_, i1_, i2_]; exact lc_0.mpr E9_
                first | (have s1_ : sa_ = 1 := (by omega); rw [s1_] at h1_; exact alk_y h1_ (by omega) (by rw [l5_0 cb_]; exact E9_)) | (have s0_ : sa_ = 0 := (by omega); rw [s0_] at h1_; exact alk_z h1_) | (exfalso; omega)
              · have E8_ : sm_lcmp (S_.2.2.2 171 0 (64 * a_ + w_).toNat) (S_.2.2.2 171 0 (64 * b_ + w_).toNat) ≠ 0 := by rw [hS_, i1_, i2_]; exact fun q9_ => E9_ (lc_0.mp q9_)
                first | exact alk_n (w_ := w_) (by omega) (by rw [l5_0 cb_]; exact E9_) | (exfalso; omega)
            · have i1_ : (64 * a_ + w_).toNat = 64 * aa_ + w_.toNat := by omega
              have i2_ : (64 * b_ + w_).toNat = 64 * bb_ + w_.toNat := by omega
              by_cases E9_ : S0_.2.2.2 171 0 (64 * aa_ + w_.toNat) = l_5 (S0_.2.2.2 171 0 (64 * bb_ + w_.toNat)) (-1)
              · have E8_ : sm_lcmp (S_.2.2.2 171 0 (64 * a_ + w_).toNat) (l_5 (S_.2.2.2 171 0 (64 * b_ + w_).toNat) (-1)) = 0 := by rw [hS_, i1_, i2_]; exact lc_0.mpr E9_
                first | (have s1_ : tu_ = 1 := (by omega); rw [s1_] at h2_; exact alk_y h2_ (by omega) E9_) | (have s0_ : tu_ = 0 := (by omega); rw [s0_] at h2_; exact alk_z h2_) | (exfalso; omega)
              · have E8_ : sm_lcmp (S_.2.2.2 171 0 (64 * a_ + w_).toNat) (l_5 (S_.2.2.2 171 0 (64 * b_ + w_).toNat) (-1)) ≠ 0 := by rw [hS_, i1_, i2_]; exact fun q9_ => E9_ (lc_0.mp q9_)
                first | exact alk_n (w_ := w_) (by omega) E9_ | (exfalso; omega)
            · first | rfl | exact hS_
            · omega
          · have cx6_ : ¬ (tu_ = 0) := of_decide_eq_false cx6_
            refine sm_T_go 4 (c1 := (74, [some (.inr (.inr (some (13, 0)))), some (.inl a_), some (.inl b_), some (.inl 0), some (.inl tu_), some (.inl w_)], [.inl a_, .inl 64, .inr (.inr (some (171, 0)))], S_)) rfl ?_
            refine sm_T_bin (w := 64 * a_) rfl (bi_mul (by omega) (by omega) (by omega)) ?_
            refine sm_T_go 1 (c1 := (77, [some (.inr (.inr (some (13, 0)))), some (.inl a_), some (.inl b_), some (.inl 0), some (.inl tu_), some (.inl w_)], [.inl w_, .inl (64 * a_), .inr (.inr (some (171, 0)))], S_)) rfl ?_
            refine sm_T_bin (w := 64 * a_ + w_) rfl (bi_add (by omega) (by omega) (by omega)) ?_
            refine sm_T_lald (n := 131072) rfl rfl (by omega) (by omega) ?_
            refine sm_T_go 4 (c1 := (86, [some (.inr (.inr (some (13, 0)))), some (.inl a_), some (.inl b_), some (.inl 0), some (.inl tu_), some (.inl w_)], [.inl b_, .inl 64, .inr (.inr (some (171, 0))), .inr (.inl (S_.2.2.2 171 0 (64 * a_ + w_).toNat))], S_)) rfl ?_
            refine sm_T_bin (w := 64 * b_) rfl (bi_mul (by omega) (by omega) (by omega)) ?_
            refine sm_T_go 1 (c1 := (89, [some (.inr (.inr (some (13, 0)))), some (.inl a_), some (.inl b_), some (.inl 0), some (.inl tu_), some (.inl w_)], [.inl w_, .inl (64 * b_), .inr (.inr (some (171, 0))), .inr (.inl (S_.2.2.2 171 0 (64 * a_ + w_).toNat))], S_)) rfl ?_
            refine sm_T_bin (w := 64 * b_ + w_) rfl (bi_add (by omega) (by omega) (by omega)) ?_
            refine sm_T_lald (n := 131072) rfl rfl (by omega) (by omega) ?_
            refine sm_T_nt (u := some (.inr (.inl (-1)))) (S1 := S_) rfl rfl rfl ?_
            refine sm_T_go 2 (c1 := (96, [some (.inr (.inr (some (13, 0)))), some (.inl a_), some (.inl b_), some (.inl 0), some (.inl tu_), some (.inl w_)], [.inl (sm_lcmp ((S_.2.2.2 171 0 (64 * a_ + w_).toNat)) ((l_5 ((S_.2.2.2 171 0 (64 * b_ + w_).toNat)) (-1))))], S_)) rfl ?_
            refine sm_T_b0 (a := 1) (z := 7) rfl (fun cx7_ => ?_) (fun cx7_ => ?_)
            · have cx7_ : (sm_lcmp ((S_.2.2.2 171 0 (64 * a_ + w_).toNat)) ((l_5 ((S_.2.2.2 171 0 (64 * b_ + w_).toNat)) (-1)))) ≠ 0 := of_decide_eq_true cx7_
              refine sm_T_go 2 (c1 := (106, [some (.inr (.inr (some (13, 0)))), some (.inl a_), some (.inl b_), some (.inl 0), some (.inl 0), some (.inl w_)], [], S_)) rfl ?_
              refine sm_T_inc (a := 5) (z := 1) (v := w_) (w := w_ + 1) rfl rfl (by omega) (by omega) (by omega) ?_
              refine sm_T_go 1 (c1 := (8, [some (.inr (.inr (some (13, 0)))), some (.inl a_), some (.inl b_), some (.inl 0), some (.inl 0), some (.inl (w_ + 1))], [], S_)) rfl ?_
              refine ih_ 0 0 (w_ + 1) S_ hI_ hF_ ⟨?_, ?_, ?_, ?_, trivial⟩ ?_
              · omega
              · have i1_ : (64 * a_ + w_).toNat = 64 * aa_ + w_.toNat := by omega
                have i2_ : (64 * b_ + w_).toNat = 64 * bb_ + w_.toNat := by omega
                have cb_ := rok_c hrb_ w_.toNat (by omega)
                by_cases E9_ : S0_.2.2.2 171 0 (64 * aa_ + w_.toNat) = S0_.2.2.2 171 0 (64 * bb_ + w_.toNat)
                · have E8_ : sm_lcmp (S_.2.2.2 171 0 (64 * a_ + w_).toNat) (S_.2.2.2 171 0 (64 * b_ + w_).toNat) = 0 := by rw [hS_, i1_, i2_]; exact lc_0.mpr E9_
                  first | (have s1_ : sa_ = 1 := (by omega); rw [s1_] at h1_; exact alk_y h1_ (by omega) (by rw [l5_0 cb_]; exact E9_)) | (have s0_ : sa_ = 0 := (by omega); rw [s0_] at h1_; exact alk_z h1_) | (exfalso; omega)
                · have E8_ : sm_lcmp (S_.2.2.2 171 0 (64 * a_ + w_).toNat) (S_.2.2.2 171 0 (64 * b_ + w_).toNat) ≠ 0 := by rw [hS_, i1_, i2_]; exact fun q9_ => E9_ (lc_0.mp q9_)
                  first | exact alk_n (w_ := w_) (by omega) (by rw [l5_0 cb_]; exact E9_) | (exfalso; omega)
              · have i1_ : (64 * a_ + w_).toNat = 64 * aa_ + w_.toNat := by omega
                have i2_ : (64 * b_ + w_).toNat = 64 * bb_ + w_.toNat := by omega
                by_cases E9_ : S0_.2.2.2 171 0 (64 * aa_ + w_.toNat) = l_5 (S0_.2.2.2 171 0 (64 * bb_ + w_.toNat)) (-1)
                · have E8_ : sm_lcmp (S_.2.2.2 171 0 (64 * a_ + w_).toNat) (l_5 (S_.2.2.2 171 0 (64 * b_ + w_).toNat) (-1)) = 0 := by rw [hS_, i1_, i2_]; exact lc_0.mpr E9_
                  first | (have s1_ : tu_ = 1 := (by omega); rw [s1_] at h2_; exact alk_y h2_ (by omega) E9_) | (have s0_ : tu_ = 0 := (by omega); rw [s0_] at h2_; exact alk_z h2_) | (exfalso; omega)
                · have E8_ : sm_lcmp (S_.2.2.2 171 0 (64 * a_ + w_).toNat) (l_5 (S_.2.2.2 171 0 (64 * b_ + w_).toNat) (-1)) ≠ 0 := by rw [hS_, i1_, i2_]; exact fun q9_ => E9_ (lc_0.mp q9_)
                  first | exact alk_n (w_ := w_) (by omega) E9_ | (exfalso; omega)
              · first | rfl | exact hS_
              · omega
            · have cx7_ : ¬ ((sm_lcmp ((S_.2.2.2 171 0 (64 * a_ + w_).toNat)) ((l_5 ((S_.2.2.2 171 0 (64 * b_ + w_).toNat)) (-1)))) ≠ 0) := of_decide_eq_false cx7_
              refine sm_T_go 3 (c1 := (106, [some (.inr (.inr (some (13, 0)))), some (.inl a_), some (.inl b_), some (.inl 0), some (.inl 1), some (.inl w_)], [], S_)) rfl ?_
              refine sm_T_inc (a := 5) (z := 1) (v := w_) (w := w_ + 1) rfl rfl (by omega) (by omega) (by omega) ?_
              refine sm_T_go 1 (c1 := (8, [some (.inr (.inr (some (13, 0)))), some (.inl a_), some (.inl b_), some (.inl 0), some (.inl 1), some (.inl (w_ + 1))], [], S_)) rfl ?_
              refine ih_ 0 1 (w_ + 1) S_ hI_ hF_ ⟨?_, ?_, ?_, ?_, trivial⟩ ?_
              · omega
              · have i1_ : (64 * a_ + w_).toNat = 64 * aa_ + w_.toNat := by omega
                have i2_ : (64 * b_ + w_).toNat = 64 * bb_ + w_.toNat := by omega
                have cb_ := rok_c hrb_ w_.toNat (by omega)
                by_cases E9_ : S0_.2.2.2 171 0 (64 * aa_ + w_.toNat) = S0_.2.2.2 171 0 (64 * bb_ + w_.toNat)
                · have E8_ : sm_lcmp (S_.2.2.2 171 0 (64 * a_ + w_).toNat) (S_.2.2.2 171 0 (64 * b_ + w_).toNat) = 0 := by rw [hS_, i1_, i2_]; exact lc_0.mpr E9_
                  first | (have s1_ : sa_ = 1 := (by omega); rw [s1_] at h1_; exact alk_y h1_ (by omega) (by rw [l5_0 cb_]; exact E9_)) | (have s0_ : sa_ = 0 := (by omega); rw [s0_] at h1_; exact alk_z h1_) | (exfalso; omega)
                · have E8_ : sm_lcmp (S_.2.2.2 171 0 (64 * a_ + w_).toNat) (S_.2.2.2 171 0 (64 * b_ + w_).toNat) ≠ 0 := by rw [hS_, i1_, i2_]; exact fun q9_ => E9_ (lc_0.mp q9_)
                  first | exact alk_n (w_ := w_) (by omega) (by rw [l5_0 cb_]; exact E9_) | (exfalso; omega)
              · have i1_ : (64 * a_ + w_).toNat = 64 * aa_ + w_.toNat := by omega
                have i2_ : (64 * b_ + w_).toNat = 64 * bb_ + w_.toNat := by omega
                by_cases E9_ : S0_.2.2.2 171 0 (64 * aa_ + w_.toNat) = l_5 (S0_.2.2.2 171 0 (64 * bb_ + w_.toNat)) (-1)
                · have E8_ : sm_lcmp (S_.2.2.2 171 0 (64 * a_ + w_).toNat) (l_5 (S_.2.2.2 171 0 (64 * b_ + w_).toNat) (-1)) = 0 := by rw [hS_, i1_, i2_]; exact lc_0.mpr E9_
                  first | (have s1_ : tu_ = 1 := (by omega); rw [s1_] at h2_; exact alk_y h2_ (by omega) E9_) | (have s0_ : tu_ = 0 := (by omega); rw [s0_] at h2_; exact alk_z h2_) | (exfalso; omega)
                · have E8_ : sm_lcmp (S_.2.2.2 171 0 (64 * a_ + w_).toNat) (l_5 (S_.2.2.2 171 0 (64 * b_ + w_).toNat) (-1)) ≠ 0 := by rw [hS_, i1_, i2_]; exact fun q9_ => E9_ (lc_0.mp q9_)
                  first | exact alk_n (w_ := w_) (by omega) E9_ | (exfalso; omega)
              · first | rfl | exact hS_
              · omega
        · have cx5_ : ¬ (sa_ = 0) := of_decide_eq_false cx5_
          refine sm_T_go 4 (c1 := (35, [some (.inr (.inr (some (13, 0)))), some (.inl a_), some (.inl b_), some (.inl sa_), some (.inl tu_), some (.inl w_)], [.inl a_, .inl 64, .inr (.inr (some (171, 0)))], S_)) rfl ?_
          refine sm_T_bin (w := 64 * a_) rfl (bi_mul (by omega) (by omega) (by omega)) ?_
          refine sm_T_go 1 (c1 := (38, [some (.inr (.inr (some (13, 0)))), some (.inl a_), some (.inl b_), some (.inl sa_), some (.inl tu_), some (.inl w_)], [.inl w_, .inl (64 * a_), .inr (.inr (some (171, 0)))], S_)) rfl ?_
          refine sm_T_bin (w := 64 * a_ + w_) rfl (bi_add (by omega) (by omega) (by omega)) ?_
          refine sm_T_lald (n := 131072) rfl rfl (by omega) (by omega) ?_
          refine sm_T_go 4 (c1 := (47, [some (.inr (.inr (some (13, 0)))), some (.inl a_), some (.inl b_), some (.inl sa_), some (.inl tu_), some (.inl w_)], [.inl b_, .inl 64, .inr (.inr (some (171, 0))), .inr (.inl (S_.2.2.2 171 0 (64 * a_ + w_).toNat))], S_)) rfl ?_
          refine sm_T_bin (w := 64 * b_) rfl (bi_mul (by omega) (by omega) (by omega)) ?_
          refine sm_T_go 1 (c1 := (50, [some (.inr (.inr (some (13, 0)))), some (.inl a_), some (.inl b_), some (.inl sa_), some (.inl tu_), some (.inl w_)], [.inl w_, .inl (64 * b_), .inr (.inr (some (171, 0))), .inr (.inl (S_.2.2.2 171 0 (64 * a_ + w_).toNat))], S_)) rfl ?_
          refine sm_T_bin (w := 64 * b_ + w_) rfl (bi_add (by omega) (by omega) (by omega)) ?_
          refine sm_T_lald (n := 131072) rfl rfl (by omega) (by omega) ?_
          refine sm_T_go 1 (c1 := (53, [some (.inr (.inr (some (13, 0)))), some (.inl a_), some (.inl b_), some (.inl sa_), some (.inl tu_), some (.inl w_)], [.inl (sm_lcmp ((S_.2.2.2 171 0 (64 * a_ + w_).toNat)) ((S_.2.2.2 171 0 (64 * b_ + w_).toNat)))], S_)) rfl ?_
          refine sm_T_b0 (a := 1) (z := 7) rfl (fun cx8_ => ?_) (fun cx8_ => ?_)
          · have cx8_ : (sm_lcmp ((S_.2.2.2 171 0 (64 * a_ + w_).toNat)) ((S_.2.2.2 171 0 (64 * b_ + w_).toNat))) ≠ 0 := of_decide_eq_true cx8_
            refine sm_T_go 3 (c1 := (64, [some (.inr (.inr (some (13, 0)))), some (.inl a_), some (.inl b_), some (.inl 0), some (.inl tu_), some (.inl w_)], [.inl tu_], S_)) rfl ?_
            refine sm_T_b0 (a := 0) (z := 39) rfl (fun cx9_ => ?_) (fun cx9_ => ?_)
            · have cx9_ : tu_ = 0 := of_decide_eq_true cx9_
              refine sm_T_go 2 (c1 := (106, [some (.inr (.inr (some (13, 0)))), some (.inl a_), some (.inl b_), some (.inl 0), some (.inl 0), some (.inl w_)], [], S_)) rfl ?_
              refine sm_T_inc (a := 5) (z := 1) (v := w_) (w := w_ + 1) rfl rfl (by omega) (by omega) (by omega) ?_
              refine sm_T_go 1 (c1 := (8, [some (.inr (.inr (some (13, 0)))), some (.inl a_), some (.inl b_), some (.inl 0), some (.inl 0), some (.inl (w_ + 1))], [], S_)) rfl ?_
              refine ih_ 0 0 (w_ + 1) S_ hI_ hF_ ⟨?_, ?_, ?_, ?_, trivial⟩ ?_
              · omega
              · have i1_ : (64 * a_ + w_).toNat = 64 * aa_ + w_.toNat := by omega
                have i2_ : (64 * b_ + w_).toNat = 64 * bb_ + w_.toNat := by omega
                have cb_ := rok_c hrb_ w_.toNat (by omega)
                by_cases E9_ : S0_.2.2.2 171 0 (64 * aa_ + w_.toNat) = S0_.2.2.2 171 0 (64 * bb_ + w_.toNat)
                · have E8_ : sm_lcmp (S_.2.2.2 171 0 (64 * a_ + w_).toNat) (S_.2.2.2 171 0 (64 * b_ + w_).toNat) = 0 := by rw [hS_, i1_, i2_]; exact lc_0.mpr E9_
                  first | (have s1_ : sa_ = 1 := (by omega); rw [s1_] at h1_; exact alk_y h1_ (by omega) (by rw [l5_0 cb_]; exact E9_)) | (have s0_ : sa_ = 0 := (by omega); rw [s0_] at h1_; exact alk_z h1_) | (exfalso; omega)
                · have E8_ : sm_lcmp (S_.2.2.2 171 0 (64 * a_ + w_).toNat) (S_.2.2.2 171 0 (64 * b_ + w_).toNat) ≠ 0 := by rw [hS_, i1_, i2_]; exact fun q9_ => E9_ (lc_0.mp q9_)
                  first | exact alk_n (w_ := w_) (by omega) (by rw [l5_0 cb_]; exact E9_) | (exfalso; omega)
              · have i1_ : (64 * a_ + w_).toNat = 64 * aa_ + w_.toNat := by omega
                have i2_ : (64 * b_ + w_).toNat = 64 * bb_ + w_.toNat := by omega
                by_cases E9_ : S0_.2.2.2 171 0 (64 * aa_ + w_.toNat) = l_5 (S0_.2.2.2 171 0 (64 * bb_ + w_.toNat)) (-1)
                · have E8_ : sm_lcmp (S_.2.2.2 171 0 (64 * a_ + w_).toNat) (l_5 (S_.2.2.2 171 0 (64 * b_ + w_).toNat) (-1)) = 0 := by rw [hS_, i1_, i2_]; exact lc_0.mpr E9_
                  first | (have s1_ : tu_ = 1 := (by omega); rw [s1_] at h2_; exact alk_y h2_ (by omega) E9_) | (have s0_ : tu_ = 0 := (by omega); rw [s0_] at h2_; exact alk_z h2_) | (exfalso; omega)
                · have E8_ : sm_lcmp (S_.2.2.2 171 0 (64 * a_ + w_).toNat) (l_5 (S_.2.2.2 171 0 (64 * b_ + w_).toNat) (-1)) ≠ 0 := by rw [hS_, i1_, i2_]; exact fun q9_ => E9_ (lc_0.mp q9_)
                  first | exact alk_n (w_ := w_) (by omega) E9_ | (exfalso; omega)
              · first | rfl | exact hS_
              · omega
            · have cx9_ : ¬ (tu_ = 0) := of_decide_eq_false cx9_
              refine sm_T_go 4 (c1 := (74, [some (.inr (.inr (some (13, 0)))), some (.inl a_), some (.inl b_), some (.inl 0), some (.inl tu_), some (.inl w_)], [.inl a_, .inl 64, .inr (.inr (some (171, 0)))], S_)) rfl ?_
              refine sm_T_bin (w := 64 * a_) rfl (bi_mul (by omega) (by omega) (by omega)) ?_
              refine sm_T_go 1 (c1 := (77, [some (.inr (.inr (some (13, 0)))), some (.inl a_), some (.inl b_), some (.inl 0), some (.inl tu_), some (.inl w_)], [.inl w_, .inl (64 * a_), .inr (.inr (some (171, 0)))], S_)) rfl ?_
              refine sm_T_bin (w := 64 * a_ + w_) rfl (bi_add (by omega) (by omega) (by omega)) ?_
              refine sm_T_lald (n := 131072) rfl rfl (by omega) (by omega) ?_
              refine sm_T_go 4 (c1 := (86, [some (.inr (.inr (some (13, 0)))), some (.inl a_), some (.inl b_), some (.inl 0), some (.inl tu_), some (.inl w_)], [.inl b_, .inl 64, .inr (.inr (some (171, 0))), .inr (.inl (S_.2.2.2 171 0 (64 * a_ + w_).toNat))], S_)) rfl ?_
              refine sm_T_bin (w := 64 * b_) rfl (bi_mul (by omega) (by omega) (by omega)) ?_
              refine sm_T_go 1 (c1 := (89, [some (.inr (.inr (some (13, 0)))), some (.inl a_), some (.inl b_), some (.inl 0), some (.inl tu_), some (.inl w_)], [.inl w_, .inl (64 * b_), .inr (.inr (some (171, 0))), .inr (.inl (S_.2.2.2 171 0 (64 * a_ + w_).toNat))], S_)) rfl ?_
              refine sm_T_bin (w := 64 * b_ + w_) rfl (bi_add (by omega) (by omega) (by omega)) ?_
              refine sm_T_lald (n := 131072) rfl rfl (by omega) (by omega) ?_
              refine sm_T_nt (u := some (.inr (.inl (-1)))) (S1 := S_) rfl rfl rfl ?_
              refine sm_T_go 2 (c1 := (96, [some (.inr (.inr (some (13, 0)))), some (.inl a_), some (.inl b_), some (.inl 0), some (.inl tu_), some (.inl w_)], [.inl (sm_lcmp ((S_.2.2.2 171 0 (64 * a_ + w_).toNat)) ((l_5 ((S_.2.2.2 171 0 (64 * b_ + w_).toNat)) (-1))))], S_)) rfl ?_
              refine sm_T_b0 (a := 1) (z := 7) rfl (fun cx10_ => ?_) (fun cx10_ => ?_)
              · have cx10_ : (sm_lcmp ((S_.2.2.2 171 0 (64 * a_ + w_).toNat)) ((l_5 ((S_.2.2.2 171 0 (64 * b_ + w_).toNat)) (-1)))) ≠ 0 := of_decide_eq_true cx10_
                refine sm_T_go 2 (c1 := (106, [some (.inr (.inr (some (13, 0)))), some (.inl a_), some (.inl b_), some (.inl 0), some (.inl 0), some (.inl w_)], [], S_)) rfl ?_
                refine sm_T_inc (a := 5) (z := 1) (v := w_) (w := w_ + 1) rfl rfl (by omega) (by omega) (by omega) ?_
                refine sm_T_go 1 (c1 := (8, [some (.inr (.inr (some (13, 0)))), some (.inl a_), some (.inl b_), some (.inl 0), some (.inl 0), some (.inl (w_ + 1))], [], S_)) rfl ?_
                refine ih_ 0 0 (w_ + 1) S_ hI_ hF_ ⟨?_, ?_, ?_, ?_, trivial⟩ ?_
                · omega
                · have i1_ : (64 * a_ + w_).toNat = 64 * aa_ + w_.toNat := by omega
                  have i2_ : (64 * b_ + w_).toNat = 64 * bb_ + w_.toNat := by omega
                  have cb_ := rok_c hrb_ w_.toNat (by omega)
                  by_cases E9_ : S0_.2.2.2 171 0 (64 * aa_ + w_.toNat) = S0_.2.2.2 171 0 (64 * bb_ + w_.toNat)
                  · have E8_ : sm_lcmp (S_.2.2.2 171 0 (64 * a_ + w_).toNat) (S_.2.2.2 171 0 (64 * b_ + w_).toNat) = 0 := by rw [hS_, i1_, i2_]; exact lc_0.mpr E9_
                    first | (have s1_ : sa_ = 1 := (by omega); rw [s1_] at h1_; exact alk_y h1_ (by omega) (by rw [l5_0 cb_]; exact E9_)) | (have s0_ : sa_ = 0 := (by omega); rw [s0_] at h1_; exact alk_z h1_) | (exfalso; omega)
                  · have E8_ : sm_lcmp (S_.2.2.2 171 0 (64 * a_ + w_).toNat) (S_.2.2.2 171 0 (64 * b_ + w_).toNat) ≠ 0 := by rw [hS_, i1_, i2_]; exact fun q9_ => E9_ (lc_0.mp q9_)
                    first | exact alk_n (w_ := w_) (by omega) (by rw [l5_0 cb_]; exact E9_) | (exfalso; omega)
                · have i1_ : (64 * a_ + w_).toNat = 64 * aa_ + w_.toNat := by omega
                  have i2_ : (64 * b_ + w_).toNat = 64 * bb_ + w_.toNat := by omega
                  by_cases E9_ : S0_.2.2.2 171 0 (64 * aa_ + w_.toNat) = l_5 (S0_.2.2.2 171 0 (64 * bb_ + w_.toNat)) (-1)
                  · have E8_ : sm_lcmp (S_.2.2.2 171 0 (64 * a_ + w_).toNat) (l_5 (S_.2.2.2 171 0 (64 * b_ + w_).toNat) (-1)) = 0 := by rw [hS_, i1_, i2_]; exact lc_0.mpr E9_
                    first | (have s1_ : tu_ = 1 := (by omega); rw [s1_] at h2_; exact alk_y h2_ (by omega) E9_) | (have s0_ : tu_ = 0 := (by omega); rw [s0_] at h2_; exact alk_z h2_) | (exfalso; omega)
                  · have E8_ : sm_lcmp (S_.2.2.2 171 0 (64 * a_ + w_).toNat) (l_5 (S_.2.2.2 171 0 (64 * b_ + w_).toNat) (-1)) ≠ 0 := by rw [hS_, i1_, i2_]; exact fun q9_ => E9_ (lc_0.mp q9_)
                    first | exact alk_n (w_ := w_) (by omega) E9_ | (exfalso; omega)
                · first | rfl | exact hS_
                · omega
              · have cx10_ : ¬ ((sm_lcmp ((S_.2.2.2 171 0 (64 * a_ + w_).toNat)) ((l_5 ((S_.2.2.2 171 0 (64 * b_ + w_).toNat)) (-1)))) ≠ 0) := of_decide_eq_false cx10_
                refine sm_T_go 3 (c1 := (106, [some (.inr (.inr (some (13, 0)))), some (.inl a_), some (.inl b_), some (.inl 0), some (.inl 1), some (.inl w_)], [], S_)) rfl ?_
                refine sm_T_inc (a := 5) (z := 1) (v := w_) (w := w_ + 1) rfl rfl (by omega) (by omega) (by omega) ?_
                refine sm_T_go 1 (c1 := (8, [some (.inr (.inr (some (13, 0)))), some (.inl a_), some (.inl b_), some (.inl 0), some (.inl 1), some (.inl (w_ + 1))], [], S_)) rfl ?_
                refine ih_ 0 1 (w_ + 1) S_ hI_ hF_ ⟨?_, ?_, ?_, ?_, trivial⟩ ?_
                · omega
                · have i1_ : (64 * a_ + w_).toNat = 64 * aa_ + w_.toNat := by omega
                  have i2_ : (64 * b_ + w_).toNat = 64 * bb_ + w_.toNat := by omega
                  have cb_ := rok_c hrb_ w_.toNat (by omega)
                  by_cases E9_ : S0_.2.2.2 171 0 (64 * aa_ + w_.toNat) = S0_.2.2.2 171 0 (64 * bb_ + w_.toNat)
                  · have E8_ : sm_lcmp (S_.2.2.2 171 0 (64 * a_ + w_).toNat) (S_.2.2.2 171 0 (64 * b_ + w_).toNat) = 0 := by rw [hS_, i1_, i2_]; exact lc_0.mpr E9_
                    first | (have s1_ : sa_ = 1 := (by omega); rw [s1_] at h1_; exact alk_y h1_ (by omega) (by rw [l5_0 cb_]; exact E9_)) | (have s0_ : sa_ = 0 := (by omega); rw [s0_] at h1_; exact alk_z h1_) | (exfalso; omega)
                  · have E8_ : sm_lcmp (S_.2.2.2 171 0 (64 * a_ + w_).toNat) (S_.2.2.2 171 0 (64 * b_ + w_).toNat) ≠ 0 := by rw [hS_, i1_, i2_]; exact fun q9_ => E9_ (lc_0.mp q9_)
                    first | exact alk_n (w_ := w_) (by omega) (by rw [l5_0 cb_]; exact E9_) | (exfalso; omega)
                · have i1_ : (64 * a_ + w_).toNat = 64 * aa_ + w_.toNat := by omega
                  have i2_ : (64 * b_ + w_).toNat = 64 * bb_ + w_.toNat := by omega
                  by_cases E9_ : S0_.2.2.2 171 0 (64 * aa_ + w_.toNat) = l_5 (S0_.2.2.2 171 0 (64 * bb_ + w_.toNat)) (-1)
                  · have E8_ : sm_lcmp (S_.2.2.2 171 0 (64 * a_ + w_).toNat) (l_5 (S_.2.2.2 171 0 (64 * b_ + w_).toNat) (-1)) = 0 := by rw [hS_, i1_, i2_]; exact lc_0.mpr E9_
                    first | (have s1_ : tu_ = 1 := (by omega); rw [s1_] at h2_; exact alk_y h2_ (by omega) E9_) | (have s0_ : tu_ = 0 := (by omega); rw [s0_] at h2_; exact alk_z h2_) | (exfalso; omega)
                  · have E8_ : sm_lcmp (S_.2.2.2 171 0 (64 * a_ + w_).toNat) (l_5 (S_.2.2.2 171 0 (64 * b_ + w_).toNat) (-1)) ≠ 0 := by rw [hS_, i1_, i2_]; exact fun q9_ => E9_ (lc_0.mp q9_)
                    first | exact alk_n (w_ := w_) (by omega) E9_ | (exfalso; omega)
                · first | rfl | exact hS_
                · omega
          · have cx8_ : ¬ ((sm_lcmp ((S_.2.2.2 171 0 (64 * a_ + w_).toNat)) ((S_.2.2.2 171 0 (64 * b_ + w_).toNat))) ≠ 0) := of_decide_eq_false cx8_
            refine sm_T_go 4 (c1 := (64, [some (.inr (.inr (some (13, 0)))), some (.inl a_), some (.inl b_), some (.inl 1), some (.inl tu_), some (.inl w_)], [.inl tu_], S_)) rfl ?_
            refine sm_T_b0 (a := 0) (z := 39) rfl (fun cx11_ => ?_) (fun cx11_ => ?_)
            · have cx11_ : tu_ = 0 := of_decide_eq_true cx11_
              refine sm_T_go 2 (c1 := (106, [some (.inr (.inr (some (13, 0)))), some (.inl a_), some (.inl b_), some (.inl 1), some (.inl 0), some (.inl w_)], [], S_)) rfl ?_
              refine sm_T_inc (a := 5) (z := 1) (v := w_) (w := w_ + 1) rfl rfl (by omega) (by omega) (by omega) ?_
              refine sm_T_go 1 (c1 := (8, [some (.inr (.inr (some (13, 0)))), some (.inl a_), some (.inl b_), some (.inl 1), some (.inl 0), some (.inl (w_ + 1))], [], S_)) rfl ?_
              refine ih_ 1 0 (w_ + 1) S_ hI_ hF_ ⟨?_, ?_, ?_, ?_, trivial⟩ ?_
              · omega
              · have i1_ : (64 * a_ + w_).toNat = 64 * aa_ + w_.toNat := by omega
                have i2_ : (64 * b_ + w_).toNat = 64 * bb_ + w_.toNat := by omega
                have cb_ := rok_c hrb_ w_.toNat (by omega)
                by_cases E9_ : S0_.2.2.2 171 0 (64 * aa_ + w_.toNat) = S0_.2.2.2 171 0 (64 * bb_ + w_.toNat)
                · have E8_ : sm_lcmp (S_.2.2.2 171 0 (64 * a_ + w_).toNat) (S_.2.2.2 171 0 (64 * b_ + w_).toNat) = 0 := by rw [hS_, i1_, i2_]; exact lc_0.mpr E9_
                  first | (have s1_ : sa_ = 1 := (by omega); rw [s1_] at h1_; exact alk_y h1_ (by omega) (by rw [l5_0 cb_]; exact E9_)) | (have s0_ : sa_ = 0 := (by omega); rw [s0_] at h1_; exact alk_z h1_) | (exfalso; omega)
                · have E8_ : sm_lcmp (S_.2.2.2 171 0 (64 * a_ + w_).toNat) (S_.2.2.2 171 0 (64 * b_ + w_).toNat) ≠ 0 := by rw [hS_, i1_, i2_]; exact fun q9_ => E9_ (lc_0.mp q9_)
                  first | exact alk_n (w_ := w_) (by omega) (by rw [l5_0 cb_]; exact E9_) | (exfalso; omega)
              · have i1_ : (64 * a_ + w_).toNat = 64 * aa_ + w_.toNat := by omega
                have i2_ : (64 * b_ + w_).toNat = 64 * bb_ + w_.toNat := by omega
                by_cases E9_ : S0_.2.2.2 171 0 (64 * aa_ + w_.toNat) = l_5 (S0_.2.2.2 171 0 (64 * bb_ + w_.toNat)) (-1)
                · have E8_ : sm_lcmp (S_.2.2.2 171 0 (64 * a_ + w_).toNat) (l_5 (S_.2.2.2 171 0 (64 * b_ + w_).toNat) (-1)) = 0 := by rw [hS_, i1_, i2_]; exact lc_0.mpr E9_
                  first | (have s1_ : tu_ = 1 := (by omega); rw [s1_] at h2_; exact alk_y h2_ (by omega) E9_) | (have s0_ : tu_ = 0 := (by omega); rw [s0_] at h2_; exact alk_z h2_) | (exfalso; omega)
                · have E8_ : sm_lcmp (S_.2.2.2 171 0 (64 * a_ + w_).toNat) (l_5 (S_.2.2.2 171 0 (64 * b_ + w_).toNat) (-1)) ≠ 0 := by rw [hS_, i1_, i2_]; exact fun q9_ => E9_ (lc_0.mp q9_)
                  first | exact alk_n (w_ := w_) (by omega) E9_ | (exfalso; omega)
              · first | rfl | exact hS_
              · omega
            · have cx11_ : ¬ (tu_ = 0) := of_decide_eq_false cx11_
              refine sm_T_go 4 (c1 := (74, [some (.inr (.inr (some (13, 0)))), some (.inl a_), some (.inl b_), some (.inl 1), some (.inl tu_), some (.inl w_)], [.inl a_, .inl 64, .inr (.inr (some (171, 0)))], S_)) rfl ?_
              refine sm_T_bin (w := 64 * a_) rfl (bi_mul (by omega) (by omega) (by omega)) ?_
              refine sm_T_go 1 (c1 := (77, [some (.inr (.inr (some (13, 0)))), some (.inl a_), some (.inl b_), some (.inl 1), some (.inl tu_), some (.inl w_)], [.inl w_, .inl (64 * a_), .inr (.inr (some (171, 0)))], S_)) rfl ?_
              refine sm_T_bin (w := 64 * a_ + w_) rfl (bi_add (by omega) (by omega) (by omega)) ?_
              refine sm_T_lald (n := 131072) rfl rfl (by omega) (by omega) ?_
              refine sm_T_go 4 (c1 := (86, [some (.inr (.inr (some (13, 0)))), some (.inl a_), some (.inl b_), some (.inl 1), some (.inl tu_), some (.inl w_)], [.inl b_, .inl 64, .inr (.inr (some (171, 0))), .inr (.inl (S_.2.2.2 171 0 (64 * a_ + w_).toNat))], S_)) rfl ?_
              refine sm_T_bin (w := 64 * b_) rfl (bi_mul (by omega) (by omega) (by omega)) ?_
              refine sm_T_go 1 (c1 := (89, [some (.inr (.inr (some (13, 0)))), some (.inl a_), some (.inl b_), some (.inl 1), some (.inl tu_), some (.inl w_)], [.inl w_, .inl (64 * b_), .inr (.inr (some (171, 0))), .inr (.inl (S_.2.2.2 171 0 (64 * a_ + w_).toNat))], S_)) rfl ?_
              refine sm_T_bin (w := 64 * b_ + w_) rfl (bi_add (by omega) (by omega) (by omega)) ?_
              refine sm_T_lald (n := 131072) rfl rfl (by omega) (by omega) ?_
              refine sm_T_nt (u := some (.inr (.inl (-1)))) (S1 := S_) rfl rfl rfl ?_
              refine sm_T_go 2 (c1 := (96, [some (.inr (.inr (some (13, 0)))), some (.inl a_), some (.inl b_), some (.inl 1), some (.inl tu_), some (.inl w_)], [.inl (sm_lcmp ((S_.2.2.2 171 0 (64 * a_ + w_).toNat)) ((l_5 ((S_.2.2.2 171 0 (64 * b_ + w_).toNat)) (-1))))], S_)) rfl ?_
              refine sm_T_b0 (a := 1) (z := 7) rfl (fun cx12_ => ?_) (fun cx12_ => ?_)
              · have cx12_ : (sm_lcmp ((S_.2.2.2 171 0 (64 * a_ + w_).toNat)) ((l_5 ((S_.2.2.2 171 0 (64 * b_ + w_).toNat)) (-1)))) ≠ 0 := of_decide_eq_true cx12_
                refine sm_T_go 2 (c1 := (106, [some (.inr (.inr (some (13, 0)))), some (.inl a_), some (.inl b_), some (.inl 1), some (.inl 0), some (.inl w_)], [], S_)) rfl ?_
                refine sm_T_inc (a := 5) (z := 1) (v := w_) (w := w_ + 1) rfl rfl (by omega) (by omega) (by omega) ?_
                refine sm_T_go 1 (c1 := (8, [some (.inr (.inr (some (13, 0)))), some (.inl a_), some (.inl b_), some (.inl 1), some (.inl 0), some (.inl (w_ + 1))], [], S_)) rfl ?_
                refine ih_ 1 0 (w_ + 1) S_ hI_ hF_ ⟨?_, ?_, ?_, ?_, trivial⟩ ?_
                · omega
                · have i1_ : (64 * a_ + w_).toNat = 64 * aa_ + w_.toNat := by omega
                  have i2_ : (64 * b_ + w_).toNat = 64 * bb_ + w_.toNat := by omega
                  have cb_ := rok_c hrb_ w_.toNat (by omega)
                  by_cases E9_ : S0_.2.2.2 171 0 (64 * aa_ + w_.toNat) = S0_.2.2.2 171 0 (64 * bb_ + w_.toNat)
                  · have E8_ : sm_lcmp (S_.2.2.2 171 0 (64 * a_ + w_).toNat) (S_.2.2.2 171 0 (64 * b_ + w_).toNat) = 0 := by rw [hS_, i1_, i2_]; exact lc_0.mpr E9_
                    first | (have s1_ : sa_ = 1 := (by omega); rw [s1_] at h1_; exact alk_y h1_ (by omega) (by rw [l5_0 cb_]; exact E9_)) | (have s0_ : sa_ = 0 := (by omega); rw [s0_] at h1_; exact alk_z h1_) | (exfalso; omega)
                  · have E8_ : sm_lcmp (S_.2.2.2 171 0 (64 * a_ + w_).toNat) (S_.2.2.2 171 0 (64 * b_ + w_).toNat) ≠ 0 := by rw [hS_, i1_, i2_]; exact fun q9_ => E9_ (lc_0.mp q9_)
                    first | exact alk_n (w_ := w_) (by omega) (by rw [l5_0 cb_]; exact E9_) | (exfalso; omega)
                · have i1_ : (64 * a_ + w_).toNat = 64 * aa_ + w_.toNat := by omega
                  have i2_ : (64 * b_ + w_).toNat = 64 * bb_ + w_.toNat := by omega
                  by_cases E9_ : S0_.2.2.2 171 0 (64 * aa_ + w_.toNat) = l_5 (S0_.2.2.2 171 0 (64 * bb_ + w_.toNat)) (-1)
                  · have E8_ : sm_lcmp (S_.2.2.2 171 0 (64 * a_ + w_).toNat) (l_5 (S_.2.2.2 171 0 (64 * b_ + w_).toNat) (-1)) = 0 := by rw [hS_, i1_, i2_]; exact lc_0.mpr E9_
                    first | (have s1_ : tu_ = 1 := (by omega); rw [s1_] at h2_; exact alk_y h2_ (by omega) E9_) | (have s0_ : tu_ = 0 := (by omega); rw [s0_] at h2_; exact alk_z h2_) | (exfalso; omega)
                  · have E8_ : sm_lcmp (S_.2.2.2 171 0 (64 * a_ + w_).toNat) (l_5 (S_.2.2.2 171 0 (64 * b_ + w_).toNat) (-1)) ≠ 0 := by rw [hS_, i1_, i2_]; exact fun q9_ => E9_ (lc_0.mp q9_)
                    first | exact alk_n (w_ := w_) (by omega) E9_ | (exfalso; omega)
                · first | rfl | exact hS_
                · omega
              · have cx12_ : ¬ ((sm_lcmp ((S_.2.2.2 171 0 (64 * a_ + w_).toNat)) ((l_5 ((S_.2.2.2 171 0 (64 * b_ + w_).toNat)) (-1)))) ≠ 0) := of_decide_eq_false cx12_
                refine sm_T_go 3 (c1 := (106, [some (.inr (.inr (some (13, 0)))), some (.inl a_), some (.inl b_), some (.inl 1), some (.inl 1), some (.inl w_)], [], S_)) rfl ?_
                refine sm_T_inc (a := 5) (z := 1) (v := w_) (w := w_ + 1) rfl rfl (by omega) (by omega) (by omega) ?_
                refine sm_T_go 1 (c1 := (8, [some (.inr (.inr (some (13, 0)))), some (.inl a_), some (.inl b_), some (.inl 1), some (.inl 1), some (.inl (w_ + 1))], [], S_)) rfl ?_
                refine ih_ 1 1 (w_ + 1) S_ hI_ hF_ ⟨?_, ?_, ?_, ?_, trivial⟩ ?_
                · omega
                · have i1_ : (64 * a_ + w_).toNat = 64 * aa_ + w_.toNat := by omega
                  have i2_ : (64 * b_ + w_).toNat = 64 * bb_ + w_.toNat := by omega
                  have cb_ := rok_c hrb_ w_.toNat (by omega)
                  by_cases E9_ : S0_.2.2.2 171 0 (64 * aa_ + w_.toNat) = S0_.2.2.2 171 0 (64 * bb_ + w_.toNat)
                  · have E8_ : sm_lcmp (S_.2.2.2 171 0 (64 * a_ + w_).toNat) (S_.2.2.2 171 0 (64 * b_ + w_).toNat) = 0 := by rw [hS_, i1_, i2_]; exact lc_0.mpr E9_
                    first | (have s1_ : sa_ = 1 := (by omega); rw [s1_] at h1_; exact alk_y h1_ (by omega) (by rw [l5_0 cb_]; exact E9_)) | (have s0_ : sa_ = 0 := (by omega); rw [s0_] at h1_; exact alk_z h1_) | (exfalso; omega)
                  · have E8_ : sm_lcmp (S_.2.2.2 171 0 (64 * a_ + w_).toNat) (S_.2.2.2 171 0 (64 * b_ + w_).toNat) ≠ 0 := by rw [hS_, i1_, i2_]; exact fun q9_ => E9_ (lc_0.mp q9_)
                    first | exact alk_n (w_ := w_) (by omega) (by rw [l5_0 cb_]; exact E9_) | (exfalso; omega)
                · have i1_ : (64 * a_ + w_).toNat = 64 * aa_ + w_.toNat := by omega
                  have i2_ : (64 * b_ + w_).toNat = 64 * bb_ + w_.toNat := by omega
                  by_cases E9_ : S0_.2.2.2 171 0 (64 * aa_ + w_.toNat) = l_5 (S0_.2.2.2 171 0 (64 * bb_ + w_.toNat)) (-1)
                  · have E8_ : sm_lcmp (S_.2.2.2 171 0 (64 * a_ + w_).toNat) (l_5 (S_.2.2.2 171 0 (64 * b_ + w_).toNat) (-1)) = 0 := by rw [hS_, i1_, i2_]; exact lc_0.mpr E9_
                    first | (have s1_ : tu_ = 1 := (by omega); rw [s1_] at h2_; exact alk_y h2_ (by omega) E9_) | (have s0_ : tu_ = 0 := (by omega); rw [s0_] at h2_; exact alk_z h2_) | (exfalso; omega)
                  · have E8_ : sm_lcmp (S_.2.2.2 171 0 (64 * a_ + w_).toNat) (l_5 (S_.2.2.2 171 0 (64 * b_ + w_).toNat) (-1)) ≠ 0 := by rw [hS_, i1_, i2_]; exact fun q9_ => E9_ (lc_0.mp q9_)
                    first | exact alk_n (w_ := w_) (by omega) E9_ | (exfalso; omega)
                · first | rfl | exact hS_
                · omega
      · have cx4_ : ¬ (sa_ ≠ 0) := of_decide_eq_false cx4_
        refine sm_T_go 1 (c1 := (21, [some (.inr (.inr (some (13, 0)))), some (.inl a_), some (.inl b_), some (.inl sa_), some (.inl tu_), some (.inl w_)], [.inl tu_], S_)) rfl ?_
        refine sm_T_b0 (a := 0) (z := 91) rfl (fun cx13_ => ?_) (fun cx13_ => ?_)
        · have cx13_ : tu_ = 0 := of_decide_eq_true cx13_
          refine sm_T_go 1 (c1 := (113, [some (.inr (.inr (some (13, 0)))), some (.inl a_), some (.inl b_), some (.inl sa_), some (.inl tu_), some (.inl w_)], [.inl sa_], S_)) rfl ?_
          refine sm_T_b0 (a := 0) (z := 7) rfl (fun cx14_ => ?_) (fun cx14_ => ?_)
          · have cx14_ : sa_ = 0 := of_decide_eq_true cx14_
            refine sm_T_go 1 (c1 := (122, [some (.inr (.inr (some (13, 0)))), some (.inl a_), some (.inl b_), some (.inl sa_), some (.inl tu_), some (.inl w_)], [.inl tu_], S_)) rfl ?_
            refine sm_T_b0 (a := 0) (z := 7) rfl (fun cx15_ => ?_) (fun cx15_ => ?_)
            · have cx15_ : tu_ = 0 := of_decide_eq_true cx15_
              refine sm_T_go 1 (c1 := (130, [some (.inr (.inr (some (13, 0)))), some (.inl a_), some (.inl b_), some (.inl sa_), some (.inl tu_), some (.inl w_)], [.inl 2], S_)) rfl ?_
              refine sm_T_ri rfl ⟨_, _, rfl, (by first | rfl | exact hS_.symm), _, rfl, ?_⟩
              first | (have s1_ : sa_ = 1 := (by omega); rw [s1_] at h1_; exact Or.inl ⟨rfl, alk_l h1_ (by omega)⟩) | (have t1_ : tu_ = 1 := (by omega); rw [t1_] at h2_; exact Or.inr (Or.inl ⟨rfl, alk_l h2_ (by omega)⟩)) | (have s0_ : sa_ = 0 := (by omega); have t0_ : tu_ = 0 := (by omega); rw [s0_] at h1_; rw [t0_] at h2_; exact Or.inr (Or.inr ⟨rfl, alk_x h1_, alk_x h2_⟩))
            · have cx15_ : ¬ (tu_ = 0) := of_decide_eq_false cx15_
              exfalso; omega
          · have cx14_ : ¬ (sa_ = 0) := of_decide_eq_false cx14_
            exfalso; omega
        · have cx13_ : ¬ (tu_ = 0) := of_decide_eq_false cx13_
          refine sm_T_go 1 (c1 := (25, [some (.inr (.inr (some (13, 0)))), some (.inl a_), some (.inl b_), some (.inl sa_), some (.inl tu_), some (.inl w_)], [.inl sa_], S_)) rfl ?_
          refine sm_T_b0 (a := 0) (z := 35) rfl (fun cx16_ => ?_) (fun cx16_ => ?_)
          · have cx16_ : sa_ = 0 := of_decide_eq_true cx16_
            refine sm_T_go 3 (c1 := (64, [some (.inr (.inr (some (13, 0)))), some (.inl a_), some (.inl b_), some (.inl 0), some (.inl tu_), some (.inl w_)], [.inl tu_], S_)) rfl ?_
            refine sm_T_b0 (a := 0) (z := 39) rfl (fun cx17_ => ?_) (fun cx17_ => ?_)
            · have cx17_ : tu_ = 0 := of_decide_eq_true cx17_
              refine sm_T_go 2 (c1 := (106, [some (.inr (.inr (some (13, 0)))), some (.inl a_), some (.inl b_), some (.inl 0), some (.inl 0), some (.inl w_)], [], S_)) rfl ?_
              refine sm_T_inc (a := 5) (z := 1) (v := w_) (w := w_ + 1) rfl rfl (by omega) (by omega) (by omega) ?_
              refine sm_T_go 1 (c1 := (8, [some (.inr (.inr (some (13, 0)))), some (.inl a_), some (.inl b_), some (.inl 0), some (.inl 0), some (.inl (w_ + 1))], [], S_)) rfl ?_
              refine ih_ 0 0 (w_ + 1) S_ hI_ hF_ ⟨?_, ?_, ?_, ?_, trivial⟩ ?_
              · omega
              · have i1_ : (64 * a_ + w_).toNat = 64 * aa_ + w_.toNat := by omega
                have i2_ : (64 * b_ + w_).toNat = 64 * bb_ + w_.toNat := by omega
                have cb_ := rok_c hrb_ w_.toNat (by omega)
                by_cases E9_ : S0_.2.2.2 171 0 (64 * aa_ + w_.toNat) = S0_.2.2.2 171 0 (64 * bb_ + w_.toNat)
                · have E8_ : sm_lcmp (S_.2.2.2 171 0 (64 * a_ + w_).toNat) (S_.2.2.2 171 0 (64 * b_ + w_).toNat) = 0 := by rw [hS_, i1_, i2_]; exact lc_0.mpr E9_
                  first | (have s1_ : sa_ = 1 := (by omega); rw [s1_] at h1_; exact alk_y h1_ (by omega) (by rw [l5_0 cb_]; exact E9_)) | (have s0_ : sa_ = 0 := (by omega); rw [s0_] at h1_; exact alk_z h1_) | (exfalso; omega)
                · have E8_ : sm_lcmp (S_.2.2.2 171 0 (64 * a_ + w_).toNat) (S_.2.2.2 171 0 (64 * b_ + w_).toNat) ≠ 0 := by rw [hS_, i1_, i2_]; exact fun q9_ => E9_ (lc_0.mp q9_)
                  first | exact alk_n (w_ := w_) (by omega) (by rw [l5_0 cb_]; exact E9_) | (exfalso; omega)
              · have i1_ : (64 * a_ + w_).toNat = 64 * aa_ + w_.toNat := by omega
                have i2_ : (64 * b_ + w_).toNat = 64 * bb_ + w_.toNat := by omega
                by_cases E9_ : S0_.2.2.2 171 0 (64 * aa_ + w_.toNat) = l_5 (S0_.2.2.2 171 0 (64 * bb_ + w_.toNat)) (-1)
                · have E8_ : sm_lcmp (S_.2.2.2 171 0 (64 * a_ + w_).toNat) (l_5 (S_.2.2.2 171 0 (64 * b_ + w_).toNat) (-1)) = 0 := by rw [hS_, i1_, i2_]; exact lc_0.mpr E9_
                  first | (have s1_ : tu_ = 1 := (by omega); rw [s1_] at h2_; exact alk_y h2_ (by omega) E9_) | (have s0_ : tu_ = 0 := (by omega); rw [s0_] at h2_; exact alk_z h2_) | (exfalso; omega)
                · have E8_ : sm_lcmp (S_.2.2.2 171 0 (64 * a_ + w_).toNat) (l_5 (S_.2.2.2 171 0 (64 * b_ + w_).toNat) (-1)) ≠ 0 := by rw [hS_, i1_, i2_]; exact fun q9_ => E9_ (lc_0.mp q9_)
                  first | exact alk_n (w_ := w_) (by omega) E9_ | (exfalso; omega)
              · first | rfl | exact hS_
              · omega
            · have cx17_ : ¬ (tu_ = 0) := of_decide_eq_false cx17_
              refine sm_T_go 4 (c1 := (74, [some (.inr (.inr (some (13, 0)))), some (.inl a_), some (.inl b_), some (.inl 0), some (.inl tu_), some (.inl w_)], [.inl a_, .inl 64, .inr (.inr (some (171, 0)))], S_)) rfl ?_
              refine sm_T_bin (w := 64 * a_) rfl (bi_mul (by omega) (by omega) (by omega)) ?_
              refine sm_T_go 1 (c1 := (77, [some (.inr (.inr (some (13, 0)))), some (.inl a_), some (.inl b_), some (.inl 0), some (.inl tu_), some (.inl w_)], [.inl w_, .inl (64 * a_), .inr (.inr (some (171, 0)))], S_)) rfl ?_
              refine sm_T_bin (w := 64 * a_ + w_) rfl (bi_add (by omega) (by omega) (by omega)) ?_
              refine sm_T_lald (n := 131072) rfl rfl (by omega) (by omega) ?_
              refine sm_T_go 4 (c1 := (86, [some (.inr (.inr (some (13, 0)))), some (.inl a_), some (.inl b_), some (.inl 0), some (.inl tu_), some (.inl w_)], [.inl b_, .inl 64, .inr (.inr (some (171, 0))), .inr (.inl (S_.2.2.2 171 0 (64 * a_ + w_).toNat))], S_)) rfl ?_
              refine sm_T_bin (w := 64 * b_) rfl (bi_mul (by omega) (by omega) (by omega)) ?_
              refine sm_T_go 1 (c1 := (89, [some (.inr (.inr (some (13, 0)))), some (.inl a_), some (.inl b_), some (.inl 0), some (.inl tu_), some (.inl w_)], [.inl w_, .inl (64 * b_), .inr (.inr (some (171, 0))), .inr (.inl (S_.2.2.2 171 0 (64 * a_ + w_).toNat))], S_)) rfl ?_
              refine sm_T_bin (w := 64 * b_ + w_) rfl (bi_add (by omega) (by omega) (by omega)) ?_
              refine sm_T_lald (n := 131072) rfl rfl (by omega) (by omega) ?_
              refine sm_T_nt (u := some (.inr (.inl (-1)))) (S1 := S_) rfl rfl rfl ?_
              refine sm_T_go 2 (c1 := (96, [some (.inr (.inr (some (13, 0)))), some (.inl a_), some (.inl b_), some (.inl 0), some (.inl tu_), some (.inl w_)], [.inl (sm_lcmp ((S_.2.2.2 171 0 (64 * a_ + w_).toNat)) ((l_5 ((S_.2.2.2 171 0 (64 * b_ + w_).toNat)) (-1))))], S_)) rfl ?_
              refine sm_T_b0 (a := 1) (z := 7) rfl (fun cx18_ => ?_) (fun cx18_ => ?_)
              · have cx18_ : (sm_lcmp ((S_.2.2.2 171 0 (64 * a_ + w_).toNat)) ((l_5 ((S_.2.2.2 171 0 (64 * b_ + w_).toNat)) (-1)))) ≠ 0 := of_decide_eq_true cx18_
                refine sm_T_go 2 (c1 := (106, [some (.inr (.inr (some (13, 0)))), some (.inl a_), some (.inl b_), some (.inl 0), some (.inl 0), some (.inl w_)], [], S_)) rfl ?_
                refine sm_T_inc (a := 5) (z := 1) (v := w_) (w := w_ + 1) rfl rfl (by omega) (by omega) (by omega) ?_
                refine sm_T_go 1 (c1 := (8, [some (.inr (.inr (some (13, 0)))), some (.inl a_), some (.inl b_), some (.inl 0), some (.inl 0), some (.inl (w_ + 1))], [], S_)) rfl ?_
                refine ih_ 0 0 (w_ + 1) S_ hI_ hF_ ⟨?_, ?_, ?_, ?_, trivial⟩ ?_
                · omega
                · have i1_ : (64 * a_ + w_).toNat = 64 * aa_ + w_.toNat := by omega
                  have i2_ : (64 * b_ + w_).toNat = 64 * bb_ + w_.toNat := by omega
                  have cb_ := rok_c hrb_ w_.toNat (by omega)
                  by_cases E9_ : S0_.2.2.2 171 0 (64 * aa_ + w_.toNat) = S0_.2.2.2 171 0 (64 * bb_ + w_.toNat)
                  · have E8_ : sm_lcmp (S_.2.2.2 171 0 (64 * a_ + w_).toNat) (S_.2.2.2 171 0 (64 * b_ + w_).toNat) = 0 := by rw [hS_, i1_, i2_]; exact lc_0.mpr E9_
                    first | (have s1_ : sa_ = 1 := (by omega); rw [s1_] at h1_; exact alk_y h1_ (by omega) (by rw [l5_0 cb_]; exact E9_)) | (have s0_ : sa_ = 0 := (by omega); rw [s0_] at h1_; exact alk_z h1_) | (exfalso; omega)
                  · have E8_ : sm_lcmp (S_.2.2.2 171 0 (64 * a_ + w_).toNat) (S_.2.2.2 171 0 (64 * b_ + w_).toNat) ≠ 0 := by rw [hS_, i1_, i2_]; exact fun q9_ => E9_ (lc_0.mp q9_)
                    first | exact alk_n (w_ := w_) (by omega) (by rw [l5_0 cb_]; exact E9_) | (exfalso; omega)
                · have i1_ : (64 * a_ + w_).toNat = 64 * aa_ + w_.toNat := by omega
                  have i2_ : (64 * b_ + w_).toNat = 64 * bb_ + w_.toNat := by omega
                  by_cases E9_ : S0_.2.2.2 171 0 (64 * aa_ + w_.toNat) = l_5 (S0_.2.2.2 171 0 (64 * bb_ + w_.toNat)) (-1)
                  · have E8_ : sm_lcmp (S_.2.2.2 171 0 (64 * a_ + w_).toNat) (l_5 (S_.2.2.2 171 0 (64 * b_ + w_).toNat) (-1)) = 0 := by rw [hS_, i1_, i2_]; exact lc_0.mpr E9_
                    first | (have s1_ : tu_ = 1 := (by omega); rw [s1_] at h2_; exact alk_y h2_ (by omega) E9_) | (have s0_ : tu_ = 0 := (by omega); rw [s0_] at h2_; exact alk_z h2_) | (exfalso; omega)
                  · have E8_ : sm_lcmp (S_.2.2.2 171 0 (64 * a_ + w_).toNat) (l_5 (S_.2.2.2 171 0 (64 * b_ + w_).toNat) (-1)) ≠ 0 := by rw [hS_, i1_, i2_]; exact fun q9_ => E9_ (lc_0.mp q9_)
                    first | exact alk_n (w_ := w_) (by omega) E9_ | (exfalso; omega)
                · first | rfl | exact hS_
                · omega
              · have cx18_ : ¬ ((sm_lcmp ((S_.2.2.2 171 0 (64 * a_ + w_).toNat)) ((l_5 ((S_.2.2.2 171 0 (64 * b_ + w_).toNat)) (-1)))) ≠ 0) := of_decide_eq_false cx18_
                refine sm_T_go 3 (c1 := (106, [some (.inr (.inr (some (13, 0)))), some (.inl a_), some (.inl b_), some (.inl 0), some (.inl 1), some (.inl w_)], [], S_)) rfl ?_
                refine sm_T_inc (a := 5) (z := 1) (v := w_) (w := w_ + 1) rfl rfl (by omega) (by omega) (by omega) ?_
                refine sm_T_go 1 (c1 := (8, [some (.inr (.inr (some (13, 0)))), some (.inl a_), some (.inl b_), some (.inl 0), some (.inl 1), some (.inl (w_ + 1))], [], S_)) rfl ?_
                refine ih_ 0 1 (w_ + 1) S_ hI_ hF_ ⟨?_, ?_, ?_, ?_, trivial⟩ ?_
                · omega
                · have i1_ : (64 * a_ + w_).toNat = 64 * aa_ + w_.toNat := by omega
                  have i2_ : (64 * b_ + w_).toNat = 64 * bb_ + w_.toNat := by omega
                  have cb_ := rok_c hrb_ w_.toNat (by omega)
                  by_cases E9_ : S0_.2.2.2 171 0 (64 * aa_ + w_.toNat) = S0_.2.2.2 171 0 (64 * bb_ + w_.toNat)
                  · have E8_ : sm_lcmp (S_.2.2.2 171 0 (64 * a_ + w_).toNat) (S_.2.2.2 171 0 (64 * b_ + w_).toNat) = 0 := by rw [hS_, i1_, i2_]; exact lc_0.mpr E9_
                    first | (have s1_ : sa_ = 1 := (by omega); rw [s1_] at h1_; exact alk_y h1_ (by omega) (by rw [l5_0 cb_]; exact E9_)) | (have s0_ : sa_ = 0 := (by omega); rw [s0_] at h1_; exact alk_z h1_) | (exfalso; omega)
                  · have E8_ : sm_lcmp (S_.2.2.2 171 0 (64 * a_ + w_).toNat) (S_.2.2.2 171 0 (64 * b_ + w_).toNat) ≠ 0 := by rw [hS_, i1_, i2_]; exact fun q9_ => E9_ (lc_0.mp q9_)
                    first | exact alk_n (w_ := w_) (by omega) (by rw [l5_0 cb_]; exact E9_) | (exfalso; omega)
                · have i1_ : (64 * a_ + w_).toNat = 64 * aa_ + w_.toNat := by omega
                  have i2_ : (64 * b_ + w_).toNat = 64 * bb_ + w_.toNat := by omega
                  by_cases E9_ : S0_.2.2.2 171 0 (64 * aa_ + w_.toNat) = l_5 (S0_.2.2.2 171 0 (64 * bb_ + w_.toNat)) (-1)
                  · have E8_ : sm_lcmp (S_.2.2.2 171 0 (64 * a_ + w_).toNat) (l_5 (S_.2.2.2 171 0 (64 * b_ + w_).toNat) (-1)) = 0 := by rw [hS_, i1_, i2_]; exact lc_0.mpr E9_
                    first | (have s1_ : tu_ = 1 := (by omega); rw [s1_] at h2_; exact alk_y h2_ (by omega) E9_) | (have s0_ : tu_ = 0 := (by omega); rw [s0_] at h2_; exact alk_z h2_) | (exfalso; omega)
                  · have E8_ : sm_lcmp (S_.2.2.2 171 0 (64 * a_ + w_).toNat) (l_5 (S_.2.2.2 171 0 (64 * b_ + w_).toNat) (-1)) ≠ 0 := by rw [hS_, i1_, i2_]; exact fun q9_ => E9_ (lc_0.mp q9_)
                    first | exact alk_n (w_ := w_) (by omega) E9_ | (exfalso; omega)
                · first | rfl | exact hS_
                · omega
          · have cx16_ : ¬ (sa_ = 0) := of_decide_eq_false cx16_
            exfalso; omega
set_option maxHeartbeats 3000000 in
theorem vc_353 {sc_ : Nat × (Nat → Int)} (a_ : Int) (b_ : Int) (aa_ : Nat) (bb_ : Nat) (S0_ : sm_S) (hI_ : gi S0_) (ha_ : a_ = (aa_ : Int) ∧ aa_ ≤ 1012) (hb_ : b_ = (bb_ : Int) ∧ bb_ ≤ 1012) (hrb_ : rok 64 (-1) (S0_.2.2.2 171 0) bb_) : sm_T (mt_P sc_) 0 353 (0, [some (.inr (.inr (some (13, 0)))), some (.inl a_), some (.inl b_), none, none, none], [], S0_) (fun ro9_ => ∃ u_ S1_, ro9_ = (.inl u_, S1_, 0) ∧ vq_353 a_ b_ aa_ bb_ S0_ u_ S1_) := by
  have hF_ : ai_fr (sx_W vw_353) S0_ S0_ := ai_fr_rf
  refine sm_T_go 6 (c1 := (8, [some (.inr (.inr (some (13, 0)))), some (.inl a_), some (.inl b_), some (.inl 1), some (.inl 1), some (.inl 0)], [], S0_)) rfl ?_
  refine (vl_353 a_ b_ aa_ bb_ S0_ ha_ hb_ hrb_ _) 1 1 0 S0_ hI_ hF_ ⟨?_, ?_, ?_, ?_, trivial⟩ (Nat.lt_succ_self _)
  · omega
  · exact alk_0
  · exact alk_0
  · first | rfl | exact hS_

theorem glo_r {F_ : Nat} {S_ : sm_S} (h_ : rgr F_ S_) : glo F_ (S_.1 13 0 37).toNat (S_.2.2.1 140 0) (S_.2.2.1 141 0) := fun k_ h1_ h2_ => h_.2.2 k_ h1_ (by omega)
/-- whom the_ nodes stand for_, in the_ reference -/
def rsw (F_ : Nat) (S_ : sm_S) : Prop := S_.2.2.1 172 0 0 = 0 ∧ ∀ m_ : Nat, (m_ : Int) < S_.1 13 0 37 → sfo F_ (S_.2.2.1 140 0) (S_.2.2.1 141 0) (S_.2.2.1 172 0) m_
end
/-! 99.zi2b -/
section
/-! M_.sweep -/
end
/-! 99.zi3a -/
section
/-! the reference: what is told of a design; written by wip/p55/gen/vg -/

/-! what is_ told of_ a_ design, in the_ reference -/
/-- roots and next values are_ literals of_ the_ graph -/
def rrt (o_ : Int) (S_ : sm_S) : Prop := (0 ≤ o_ ∧ o_ ≤ 16) ∧ (0 ≤ S_.1 13 0 53 ∧ S_.1 13 0 53 ≤ 6) ∧ (∀ k_ : Nat, (k_ : Int) < o_ → 0 ≤ S_.2.2.1 175 0 k_ ∧ S_.2.2.1 175 0 k_ < 2 * S_.1 13 0 37) ∧ ∀ k_ : Nat, (k_ : Int) < S_.1 13 0 53 → 0 ≤ S_.2.2.1 151 0 k_ ∧ S_.2.2.1 151 0 k_ < 2 * S_.1 13 0 37
theorem rrt_fr {w_ : sx_Wl} {o_ : Int} {S_ S'_ : sm_S} (h_ : rrt o_ S_) (g_ : ai_fr (sx_W w_) S_ S'_) (h1_ : (sx_W w_).1 13 53 = false) (h2_ : (sx_W w_).1 13 37 = false) (h4_ : (sx_W w_).2.1 175 = false) (h5_ : (sx_W w_).2.1 151 = false) : rrt o_ S'_ := by
  unfold rrt
  rw [g_.1 13 0 53 h1_, g_.1 13 0 37 h2_, fr_arr (t := 175) g_ h4_, fr_arr (t := 151) g_ h5_]
  exact h_
theorem rsw_fr {w_ : sx_Wl} {F_ : Nat} {S_ S'_ : sm_S} (h_ : rsw F_ S_) (g_ : ai_fr (sx_W w_) S_ S'_) (h1_ : (sx_W w_).1 13 37 = false) (h2_ : (sx_W w_).2.1 140 = false) (h3_ : (sx_W w_).2.1 141 = false) (h4_ : (sx_W w_).2.1 172 = false) : rsw F_ S'_ := by
  unfold rsw
  rw [g_.1 13 0 37 h1_, fr_arr (t := 140) g_ h2_, fr_arr (t := 141) g_ h3_, fr_arr (t := 172) g_ h4_]
  exact h_
theorem rsl_n {F_ : Nat} {S_ : sm_S} {l_ : Int} (h_ : rsw F_ S_) (h0_ : 0 ≤ l_) (h1_ : l_ < 2 * S_.1 13 0 37) (h2_ : S_.1 13 0 37 ≤ 1013) : 0 ≤ i_xor (S_.2.2.1 172 0 (l_ / 2).toNat) (l_ % 2) / 2 ∧ i_xor (S_.2.2.1 172 0 (l_ / 2).toNat) (l_ % 2) / 2 ≤ l_ / 2 ∧ 0 ≤ i_xor (S_.2.2.1 172 0 (l_ / 2).toNat) (l_ % 2) ∧ i_xor (S_.2.2.1 172 0 (l_ / 2).toNat) (l_ % 2) ≤ 2025 := by
  obtain ⟨q1_, q2_, -⟩ := h_.2 (l_ / 2).toNat (by omega)
  have x_ := i_xb (x_ := S_.2.2.1 172 0 (l_ / 2).toNat) (b_ := l_ % 2) (by omega) (by omega)
  omega
/-! M_.gatherOutputs -/
end
/-! 99.zi3b -/
section
/-! M_.greatestDepth -/
def vw_358 : sx_Wl := ([], [174], [])
def vq_358 (o_ : Int) (F_ : Nat) (S0_ : sm_S) (u_ : Option sm_V) (S1_ : sm_S) : Prop := ∃ v_ : Int, u_ = some (.inl v_) ∧ gi S1_ ∧ ai_fr (sx_W vw_358) S0_ S1_ ∧ (0 ≤ v_ ∧ v_ ≤ 1000)
set_option maxHeartbeats 2000000 in
set_option maxRecDepth 20000 in
theorem vl_358 {sc_ : Nat × (Nat → Int)} (o_ : Int) (F_ : Nat) (S0_ : sm_S) (hg_ : rgr F_ S0_) (hr_ : rrt o_ S0_) : ∀ nn_ : Nat, (∀ (n_ : Int) (S_ : sm_S), gi S_ → ai_fr (sx_W vw_358) S0_ S_ → ((0 ≤ n_ ∧ n_ ≤ S0_.1 13 0 37) ∧ (∀ k9_ : Nat, (k9_ : Int) < n_ → 0 ≤ S_.2.2.1 174 0 k9_ ∧ S_.2.2.1 174 0 k9_ ≤ (if k9_ < F_ then 0 else (k9_ : Int) - F_ + 1)) ∧ True) → ((5000 - n_).toNat) < nn_ → sm_T (mt_P sc_) 0 358 (2, [some (.inr (.inr (some (13, 0)))), some (.inl o_), some (.inl n_), none, none], [], S_) (fun ro9_ => ∃ u_ S1_, ro9_ = (.inl u_, S1_, 0) ∧ vq_358 o_ F_ S0_ u_ S1_)) ∧ (∀ (md_ : Int) (k_ : Int) (S_ : sm_S), gi S_ → ai_fr (sx_W vw_358) S0_ S_ → ((0 ≤ k_ ∧ k_ ≤ 16 ∧ 0 ≤ md_ ∧ md_ ≤ 1000) ∧ (∀ k9_ : Nat, (k9_ : Int) < S0_.1 13 0 37 → 0 ≤ S_.2.2.1 174 0 k9_ ∧ S_.2.2.1 174 0 k9_ ≤ 1000) ∧ True) → ((2000 - k_).toNat) < nn_ → sm_T (mt_P sc_) 0 358 (105, [some (.inr (.inr (some (13, 0)))), some (.inl o_), some (.inl md_), some (.inl k_), none], [], S_) (fun ro9_ => ∃ u_ S1_, ro9_ = (.inl u_, S1_, 0) ∧ vq_358 o_ F_ S0_ u_ S1_)) ∧ (∀ (md_ : Int) (k_ : Int) (S_ : sm_S), gi S_ → ai_fr (sx_W vw_358) S0_ S_ → ((0 ≤ k_ ∧ 0 ≤ md_ ∧ md_ ≤ 1000) ∧ (∀ k9_ : Nat, (k9_ : Int) < S0_.1 13 0 37 → 0 ≤ S_.2.2.1 174 0 k9_ ∧ S_.2.2.1 174 0 k9_ ≤ 1000) ∧ True) → ((1000 - k_).toNat) < nn_ → sm_T (mt_P sc_) 0 358 (153, [some (.inr (.inr (some (13, 0)))), some (.inl o_), some (.inl md_), some (.inl k_), none], [], S_) (fun ro9_ => ∃ u_ S1_, ro9_ = (.inl u_, S1_, 0) ∧ vq_358 o_ F_ S0_ u_ S1_)) := by
  intro nn_
  induction nn_ with
  | zero => exact ⟨fun _ _ _ _ _ h_ => absurd h_ (Nat.not_lt_zero _), fun _ _ _ _ _ _ h_ => absurd h_ (Nat.not_lt_zero _), fun _ _ _ _ _ _ h_ => absurd h_ (Nat.not_lt_zero _)⟩
  | succ nn_ ih_ =>
    refine ⟨?_, ?_, ?_⟩
    · rintro n_ S_ hI_ hF_ ⟨h0_, h1_, -⟩ hm_
      have g1_ := hg_.1
      have g2_ := hg_.2.1
      have e37_ : S_.1 13 0 37 = S0_.1 13 0 37 := hF_.1 13 0 37 rfl
      have e38_ : S_.1 13 0 38 = S0_.1 13 0 38 := hF_.1 13 0 38 rfl
      have e53_ : S_.1 13 0 53 = S0_.1 13 0 53 := hF_.1 13 0 53 rfl
      have f40_ : S_.2.2.1 140 0 = S0_.2.2.1 140 0 := fr_arr hF_ rfl
      have f41_ : S_.2.2.1 141 0 = S0_.2.2.1 141 0 := fr_arr hF_ rfl
      have r1_ := hr_.1
      have r2_ := hr_.2.1
      have f75_ : S_.2.2.1 175 0 = S0_.2.2.1 175 0 := fr_arr hF_ rfl
      have f51_ : S_.2.2.1 151 0 = S0_.2.2.1 151 0 := fr_arr hF_ rfl
      have bx1_ : 0 ≤ S_.1 13 0 37 ∧ S_.1 13 0 37 ≤ 1014 := hI_.1 13 0 37 rfl
      refine sm_T_go 3 (c1 := (7, [some (.inr (.inr (some (13, 0)))), some (.inl o_), some (.inl n_), none, none], [.inl (S_.1 13 0 37), .inl n_], S_)) rfl ?_
      refine sm_T_br (a := 3) (z := 94) rfl (fun cx2_ => ?_) (fun cx2_ => ?_)
      · have cx2_ : (S_.1 13 0 37) ≤ n_ := of_decide_eq_true cx2_
        refine sm_T_go 4 (c1 := (105, [some (.inr (.inr (some (13, 0)))), some (.inl o_), some (.inl 0), some (.inl 0), none], [], S_)) rfl ?_
        refine ih_.2.1 0 0 S_ hI_ hF_ ⟨?_, ?_, trivial⟩ ?_
        · omega
        · intro k9_ hk9_
          have w9_ := h1_ k9_ (by omega)
          refine ⟨w9_.1, ?_⟩
          have w8_ := w9_.2
          split at w8_ <;> omega
        · omega
      · have cx2_ : ¬ ((S_.1 13 0 37) ≤ n_) := of_decide_eq_false cx2_
        have bx3_ : 0 ≤ S_.1 13 0 38 ∧ S_.1 13 0 38 ≤ 19 := hI_.1 13 0 38 rfl
        refine sm_T_go 3 (c1 := (15, [some (.inr (.inr (some (13, 0)))), some (.inl o_), some (.inl n_), none, none], [.inl (S_.1 13 0 38), .inl n_], S_)) rfl ?_
        refine sm_T_br (a := 3) (z := 7) rfl (fun cx4_ => ?_) (fun cx4_ => ?_)
        · have cx4_ : (S_.1 13 0 38) ≤ n_ := of_decide_eq_true cx4_
          have gn_ := hg_.2.2 n_.toNat (by omega) (by omega)
          rw [← f40_, ← f41_] at gn_
          have lo_ := h1_ (S_.2.2.1 140 0 n_.toNat / 2).toNat (by omega)
          have hi_ := h1_ (S_.2.2.1 141 0 n_.toNat / 2).toNat (by omega)
          refine sm_T_go 5 (c1 := (31, [some (.inr (.inr (some (13, 0)))), some (.inl o_), some (.inl n_), none, none], [.inl n_, .inr (.inr (some (140, 0))), .inr (.inr (some (174, 0)))], S_)) rfl ?_
          refine sm_T_iald (n := 2048) rfl rfl (by omega) (by omega) ?_
          have bx5_ : 0 ≤ S_.2.2.1 140 0 n_.toNat ∧ S_.2.2.1 140 0 n_.toNat ≤ 2047 := hI_.2 140 0 _
          refine sm_T_go 1 (c1 := (33, [some (.inr (.inr (some (13, 0)))), some (.inl o_), some (.inl n_), none, none], [.inl 1, .inl (S_.2.2.1 140 0 n_.toNat), .inr (.inr (some (174, 0)))], S_)) rfl ?_
          refine sm_T_bin (w := ((S_.2.2.1 140 0 n_.toNat) / 2)) rfl (bi_shr (k := 1) (by decide) (by omega) (by omega)) ?_
          refine sm_T_iald (n := 2048) rfl rfl (by omega) (by omega) ?_
          have bx6_ : 0 ≤ S_.2.2.1 174 0 ((S_.2.2.1 140 0 n_.toNat) / 2).toNat ∧ S_.2.2.1 174 0 ((S_.2.2.1 140 0 n_.toNat) / 2).toNat ≤ 1000 := hI_.2 174 0 _
          refine sm_T_go 4 (c1 := (41, [some (.inr (.inr (some (13, 0)))), some (.inl o_), some (.inl n_), some (.inl (S_.2.2.1 174 0 ((S_.2.2.1 140 0 n_.toNat) / 2).toNat)), none], [.inl (S_.1 13 0 38), .inl n_], S_)) rfl ?_
          refine sm_T_br (a := 3) (z := 7) rfl (fun cx7_ => ?_) (fun cx7_ => ?_)
          · have cx7_ : (S_.1 13 0 38) ≤ n_ := of_decide_eq_true cx7_
            refine sm_T_go 5 (c1 := (57, [some (.inr (.inr (some (13, 0)))), some (.inl o_), some (.inl n_), some (.inl (S_.2.2.1 174 0 ((S_.2.2.1 140 0 n_.toNat) / 2).toNat)), none], [.inl n_, .inr (.inr (some (141, 0))), .inr (.inr (some (174, 0)))], S_)) rfl ?_
            refine sm_T_iald (n := 2048) rfl rfl (by omega) (by omega) ?_
            have bx8_ : 0 ≤ S_.2.2.1 141 0 n_.toNat ∧ S_.2.2.1 141 0 n_.toNat ≤ 2047 := hI_.2 141 0 _
            refine sm_T_go 1 (c1 := (59, [some (.inr (.inr (some (13, 0)))), some (.inl o_), some (.inl n_), some (.inl (S_.2.2.1 174 0 ((S_.2.2.1 140 0 n_.toNat) / 2).toNat)), none], [.inl 1, .inl (S_.2.2.1 141 0 n_.toNat), .inr (.inr (some (174, 0)))], S_)) rfl ?_
            refine sm_T_bin (w := ((S_.2.2.1 141 0 n_.toNat) / 2)) rfl (bi_shr (k := 1) (by decide) (by omega) (by omega)) ?_
            refine sm_T_iald (n := 2048) rfl rfl (by omega) (by omega) ?_
            have bx9_ : 0 ≤ S_.2.2.1 174 0 ((S_.2.2.1 141 0 n_.toNat) / 2).toNat ∧ S_.2.2.1 174 0 ((S_.2.2.1 141 0 n_.toNat) / 2).toNat ≤ 1000 := hI_.2 174 0 _
            refine sm_T_go 7 (c1 := (73, [some (.inr (.inr (some (13, 0)))), some (.inl o_), some (.inl n_), some (.inl (S_.2.2.1 174 0 ((S_.2.2.1 140 0 n_.toNat) / 2).toNat)), some (.inl (S_.2.2.1 174 0 ((S_.2.2.1 141 0 n_.toNat) / 2).toNat))], [.inl (S_.1 13 0 38), .inl n_, .inl n_, .inr (.inr (some (174, 0)))], S_)) rfl ?_
            refine sm_T_br (a := 3) (z := 7) rfl (fun cx10_ => ?_) (fun cx10_ => ?_)
            · have cx10_ : (S_.1 13 0 38) ≤ n_ := of_decide_eq_true cx10_
              refine sm_T_go 3 (c1 := (84, [some (.inr (.inr (some (13, 0)))), some (.inl o_), some (.inl n_), some (.inl (S_.2.2.1 174 0 ((S_.2.2.1 140 0 n_.toNat) / 2).toNat)), some (.inl (S_.2.2.1 174 0 ((S_.2.2.1 141 0 n_.toNat) / 2).toNat))], [.inl (S_.2.2.1 174 0 ((S_.2.2.1 141 0 n_.toNat) / 2).toNat), .inl (S_.2.2.1 174 0 ((S_.2.2.1 140 0 n_.toNat) / 2).toNat), .inl 1, .inl n_, .inr (.inr (some (174, 0)))], S_)) rfl ?_
              refine sm_T_br (a := 5) (z := 7) rfl (fun cx11_ => ?_) (fun cx11_ => ?_)
              · have cx11_ : (S_.2.2.1 174 0 ((S_.2.2.1 140 0 n_.toNat) / 2).toNat) ≤ (S_.2.2.1 174 0 ((S_.2.2.1 141 0 n_.toNat) / 2).toNat) := of_decide_eq_true cx11_
                refine sm_T_go 1 (c1 := (93, [some (.inr (.inr (some (13, 0)))), some (.inl o_), some (.inl n_), some (.inl (S_.2.2.1 174 0 ((S_.2.2.1 140 0 n_.toNat) / 2).toNat)), some (.inl (S_.2.2.1 174 0 ((S_.2.2.1 141 0 n_.toNat) / 2).toNat))], [.inl (S_.2.2.1 174 0 ((S_.2.2.1 141 0 n_.toNat) / 2).toNat), .inl 1, .inl n_, .inr (.inr (some (174, 0)))], S_)) rfl ?_
                refine sm_T_bin (w := (S_.2.2.1 174 0 ((S_.2.2.1 141 0 n_.toNat) / 2).toNat) + 1) rfl (bi_add (by omega) (by omega) (by omega)) ?_
                refine sm_T_iast (n := 2048) rfl rfl (by omega) (by omega) ?_
                have hIx12_ : gi (sm_aI S_ 174 0 n_.toNat ((S_.2.2.1 174 0 ((S_.2.2.1 141 0 n_.toNat) / 2).toNat) + 1)) := gi_aI hI_ (show 0 ≤ (S_.2.2.1 174 0 ((S_.2.2.1 141 0 n_.toNat) / 2).toNat) + 1 ∧ (S_.2.2.1 174 0 ((S_.2.2.1 141 0 n_.toNat) / 2).toNat) + 1 ≤ 1000 from ⟨by omega, by omega⟩)
                have hFx13_ : ai_fr (sx_W vw_358) S0_ (sm_aI S_ 174 0 n_.toNat ((S_.2.2.1 174 0 ((S_.2.2.1 141 0 n_.toNat) / 2).toNat) + 1)) := ai_fr_tr hF_ (ai_fr_aI rfl)
                refine sm_T_inc (a := 2) (z := 1) (v := n_) (w := n_ + 1) rfl rfl (by omega) (by omega) (by omega) ?_
                refine sm_T_go 1 (c1 := (2, [some (.inr (.inr (some (13, 0)))), some (.inl o_), some (.inl (n_ + 1)), some (.inl (S_.2.2.1 174 0 ((S_.2.2.1 140 0 n_.toNat) / 2).toNat)), some (.inl (S_.2.2.1 174 0 ((S_.2.2.1 141 0 n_.toNat) / 2).toNat))], [], sm_aI S_ 174 0 n_.toNat ((S_.2.2.1 174 0 ((S_.2.2.1 141 0 n_.toNat) / 2).toNat) + 1))) rfl ?_
                refine sm_T_wk [some (.inr (.inr (some (13, 0)))), some (.inl o_), some (.inl (n_ + 1)), none, none] (by exact ⟨rfl, rfl, rfl, trivial⟩) ?_
                refine ih_.1 (n_ + 1) (sm_aI S_ 174 0 n_.toNat ((S_.2.2.1 174 0 ((S_.2.2.1 141 0 n_.toNat) / 2).toNat) + 1)) hIx12_ hFx13_ ⟨?_, ?_, trivial⟩ ?_
                · omega
                · intro k9_ hk9_
                  rw [rd_eq]
                  by_cases z9_ : k9_ = n_.toNat
                  · rw [if_pos z9_]; first | (have lt9_ : n_ < (F_ : Int) := (by omega); rw [if_pos (by omega)]; omega) | (have ge9_ : (F_ : Int) ≤ n_ := (by omega); rw [if_neg (by omega)]; split at lo_ <;> split at hi_ <;> omega)
                  · rw [if_neg z9_]; exact h1_ k9_ (by omega)
                · omega
              · have cx11_ : ¬ ((S_.2.2.1 174 0 ((S_.2.2.1 140 0 n_.toNat) / 2).toNat) ≤ (S_.2.2.1 174 0 ((S_.2.2.1 141 0 n_.toNat) / 2).toNat)) := of_decide_eq_false cx11_
                refine sm_T_go 2 (c1 := (93, [some (.inr (.inr (some (13, 0)))), some (.inl o_), some (.inl n_), some (.inl (S_.2.2.1 174 0 ((S_.2.2.1 140 0 n_.toNat) / 2).toNat)), some (.inl (S_.2.2.1 174 0 ((S_.2.2.1 141 0 n_.toNat) / 2).toNat))], [.inl (S_.2.2.1 174 0 ((S_.2.2.1 140 0 n_.toNat) / 2).toNat), .inl 1, .inl n_, .inr (.inr (some (174, 0)))], S_)) rfl ?_
                refine sm_T_bin (w := (S_.2.2.1 174 0 ((S_.2.2.1 140 0 n_.toNat) / 2).toNat) + 1) rfl (bi_add (by omega) (by omega) (by omega)) ?_
                refine sm_T_iast (n := 2048) rfl rfl (by omega) (by omega) ?_
                have hIx14_ : gi (sm_aI S_ 174 0 n_.toNat ((S_.2.2.1 174 0 ((S_.2.2.1 140 0 n_.toNat) / 2).toNat) + 1)) := gi_aI hI_ (show 0 ≤ (S_.2.2.1 174 0 ((S_.2.2.1 140 0 n_.toNat) / 2).toNat) + 1 ∧ (S_.2.2.1 174 0 ((S_.2.2.1 140 0 n_.toNat) / 2).toNat) + 1 ≤ 1000 from ⟨by omega, by omega⟩)
                have hFx15_ : ai_fr (sx_W vw_358) S0_ (sm_aI S_ 174 0 n_.toNat ((S_.2.2.1 174 0 ((S_.2.2.1 140 0 n_.toNat) / 2).toNat) + 1)) := ai_fr_tr hF_ (ai_fr_aI rfl)
                refine sm_T_inc (a := 2) (z := 1) (v := n_) (w := n_ + 1) rfl rfl (by omega) (by omega) (by omega) ?_
                refine sm_T_go 1 (c1 := (2, [some (.inr (.inr (some (13, 0)))), some (.inl o_), some (.inl (n_ + 1)), some (.inl (S_.2.2.1 174 0 ((S_.2.2.1 140 0 n_.toNat) / 2).toNat)), some (.inl (S_.2.2.1 174 0 ((S_.2.2.1 141 0 n_.toNat) / 2).toNat))], [], sm_aI S_ 174 0 n_.toNat ((S_.2.2.1 174 0 ((S_.2.2.1 140 0 n_.toNat) / 2).toNat) + 1))) rfl ?_
                refine sm_T_wk [some (.inr (.inr (some (13, 0)))), some (.inl o_), some (.inl (n_ + 1)), none, none] (by exact ⟨rfl, rfl, rfl, trivial⟩) ?_
                refine ih_.1 (n_ + 1) (sm_aI S_ 174 0 n_.toNat ((S_.2.2.1 174 0 ((S_.2.2.1 140 0 n_.toNat) / 2).toNat) + 1)) hIx14_ hFx15_ ⟨?_, ?_, trivial⟩ ?_
                · omega
                · intro k9_ hk9_
                  rw [rd_eq]
                  by_cases z9_ : k9_ = n_.toNat
                  · rw [if_pos z9_]; first | (have lt9_ : n_ < (F_ : Int) := (by omega); rw [if_pos (by omega)]; omega) | (have ge9_ : (F_ : Int) ≤ n_ := (by omega); rw [if_neg (by omega)]; split at lo_ <;> split at hi_ <;> omega)
                  · rw [if_neg z9_]; exact h1_ k9_ (by omega)
                · omega
            · have cx10_ : ¬ ((S_.1 13 0 38) ≤ n_) := of_decide_eq_false cx10_
              exfalso; omega
          · have cx7_ : ¬ ((S_.1 13 0 38) ≤ n_) := of_decide_eq_false cx7_
            exfalso; omega
        · have cx4_ : ¬ ((S_.1 13 0 38) ≤ n_) := of_decide_eq_false cx4_
          refine sm_T_go 6 (c1 := (41, [some (.inr (.inr (some (13, 0)))), some (.inl o_), some (.inl n_), some (.inl 0), none], [.inl (S_.1 13 0 38), .inl n_], S_)) rfl ?_
          refine sm_T_br (a := 3) (z := 7) rfl (fun cx16_ => ?_) (fun cx16_ => ?_)
          · have cx16_ : (S_.1 13 0 38) ≤ n_ := of_decide_eq_true cx16_
            exfalso; omega
          · have cx16_ : ¬ ((S_.1 13 0 38) ≤ n_) := of_decide_eq_false cx16_
            refine sm_T_go 9 (c1 := (73, [some (.inr (.inr (some (13, 0)))), some (.inl o_), some (.inl n_), some (.inl 0), some (.inl 0)], [.inl (S_.1 13 0 38), .inl n_, .inl n_, .inr (.inr (some (174, 0)))], S_)) rfl ?_
            refine sm_T_br (a := 3) (z := 7) rfl (fun cx17_ => ?_) (fun cx17_ => ?_)
            · have cx17_ : (S_.1 13 0 38) ≤ n_ := of_decide_eq_true cx17_
              exfalso; omega
            · have cx17_ : ¬ ((S_.1 13 0 38) ≤ n_) := of_decide_eq_false cx17_
              refine sm_T_go 2 (c1 := (94, [some (.inr (.inr (some (13, 0)))), some (.inl o_), some (.inl n_), some (.inl 0), some (.inl 0)], [.inl 0, .inl n_, .inr (.inr (some (174, 0)))], S_)) rfl ?_
              refine sm_T_iast (n := 2048) rfl rfl (by omega) (by omega) ?_
              have hIx18_ : gi (sm_aI S_ 174 0 n_.toNat 0) := gi_aI hI_ (show 0 ≤ 0 ∧ 0 ≤ 1000 from ⟨by omega, by omega⟩)
              have hFx19_ : ai_fr (sx_W vw_358) S0_ (sm_aI S_ 174 0 n_.toNat 0) := ai_fr_tr hF_ (ai_fr_aI rfl)
              refine sm_T_inc (a := 2) (z := 1) (v := n_) (w := n_ + 1) rfl rfl (by omega) (by omega) (by omega) ?_
              refine sm_T_go 1 (c1 := (2, [some (.inr (.inr (some (13, 0)))), some (.inl o_), some (.inl (n_ + 1)), some (.inl 0), some (.inl 0)], [], sm_aI S_ 174 0 n_.toNat 0)) rfl ?_
              refine sm_T_wk [some (.inr (.inr (some (13, 0)))), some (.inl o_), some (.inl (n_ + 1)), none, none] (by exact ⟨rfl, rfl, rfl, trivial⟩) ?_
              refine ih_.1 (n_ + 1) (sm_aI S_ 174 0 n_.toNat 0) hIx18_ hFx19_ ⟨?_, ?_, trivial⟩ ?_
              · omega
              · intro k9_ hk9_
                rw [rd_eq]
                by_cases z9_ : k9_ = n_.toNat
                · rw [if_pos z9_]; first | (have lt9_ : n_ < (F_ : Int) := (by omega); rw [if_pos (by omega)]; omega) | (have ge9_ : (F_ : Int) ≤ n_ := (by omega); rw [if_neg (by omega)]; split at lo_ <;> split at hi_ <;> omega)
                · rw [if_neg z9_]; exact h1_ k9_ (by omega)
              · omega
    · rintro md_ k_ S_ hI_ hF_ ⟨h0_, h1_, -⟩ hm_
      have g1_ := hg_.1
      have g2_ := hg_.2.1
      have e37_ : S_.1 13 0 37 = S0_.1 13 0 37 := hF_.1 13 0 37 rfl
      have e38_ : S_.1 13 0 38 = S0_.1 13 0 38 := hF_.1 13 0 38 rfl
      have e53_ : S_.1 13 0 53 = S0_.1 13 0 53 := hF_.1 13 0 53 rfl
      have f40_ : S_.2.2.1 140 0 = S0_.2.2.1 140 0 := fr_arr hF_ rfl
      have f41_ : S_.2.2.1 141 0 = S0_.2.2.1 141 0 := fr_arr hF_ rfl
      have r1_ := hr_.1
      have r2_ := hr_.2.1
      have f75_ : S_.2.2.1 175 0 = S0_.2.2.1 175 0 := fr_arr hF_ rfl
      have f51_ : S_.2.2.1 151 0 = S0_.2.2.1 151 0 := fr_arr hF_ rfl
      refine sm_T_go 2 (c1 := (107, [some (.inr (.inr (some (13, 0)))), some (.inl o_), some (.inl md_), some (.inl k_), none], [.inl o_, .inl k_], S_)) rfl ?_
      refine sm_T_br (a := 3) (z := 44) rfl (fun cx1_ => ?_) (fun cx1_ => ?_)
      · have cx1_ : o_ ≤ k_ := of_decide_eq_true cx1_
        refine sm_T_go 2 (c1 := (153, [some (.inr (.inr (some (13, 0)))), some (.inl o_), some (.inl md_), some (.inl 0), none], [], S_)) rfl ?_
        refine ih_.2.2 md_ 0 S_ hI_ hF_ ⟨?_, ?_, trivial⟩ ?_
        · omega
        · exact h1_
        · omega
      · have cx1_ : ¬ (o_ ≤ k_) := of_decide_eq_false cx1_
        have ro_ := hr_.2.2.1 k_.toNat (by omega)
        rw [← f75_] at ro_
        have w9_ := h1_ (S_.2.2.1 175 0 k_.toNat / 2).toNat (by omega)
        refine sm_T_go 5 (c1 := (119, [some (.inr (.inr (some (13, 0)))), some (.inl o_), some (.inl md_), some (.inl k_), none], [.inl k_, .inr (.inr (some (175, 0))), .inr (.inr (some (174, 0)))], S_)) rfl ?_
        refine sm_T_iald (n := 16) rfl rfl (by omega) (by omega) ?_
        have bx2_ : 0 ≤ S_.2.2.1 175 0 k_.toNat ∧ S_.2.2.1 175 0 k_.toNat ≤ 2047 := hI_.2 175 0 _
        refine sm_T_go 1 (c1 := (121, [some (.inr (.inr (some (13, 0)))), some (.inl o_), some (.inl md_), some (.inl k_), none], [.inl 1, .inl (S_.2.2.1 175 0 k_.toNat), .inr (.inr (some (174, 0)))], S_)) rfl ?_
        refine sm_T_bin (w := ((S_.2.2.1 175 0 k_.toNat) / 2)) rfl (bi_shr (k := 1) (by decide) (by omega) (by omega)) ?_
        refine sm_T_iald (n := 2048) rfl rfl (by omega) (by omega) ?_
        have bx3_ : 0 ≤ S_.2.2.1 174 0 ((S_.2.2.1 175 0 k_.toNat) / 2).toNat ∧ S_.2.2.1 174 0 ((S_.2.2.1 175 0 k_.toNat) / 2).toNat ≤ 1000 := hI_.2 174 0 _
        refine sm_T_go 1 (c1 := (124, [some (.inr (.inr (some (13, 0)))), some (.inl o_), some (.inl md_), some (.inl k_), none], [.inl md_, .inl (S_.2.2.1 174 0 ((S_.2.2.1 175 0 k_.toNat) / 2).toNat)], S_)) rfl ?_
        refine sm_T_br (a := 5) (z := 19) rfl (fun cx4_ => ?_) (fun cx4_ => ?_)
        · have cx4_ : (S_.2.2.1 174 0 ((S_.2.2.1 175 0 k_.toNat) / 2).toNat) ≤ md_ := of_decide_eq_true cx4_
          refine sm_T_go 2 (c1 := (145, [some (.inr (.inr (some (13, 0)))), some (.inl o_), some (.inl md_), some (.inl k_), none], [], S_)) rfl ?_
          refine sm_T_inc (a := 3) (z := 1) (v := k_) (w := k_ + 1) rfl rfl (by omega) (by omega) (by omega) ?_
          refine sm_T_go 1 (c1 := (105, [some (.inr (.inr (some (13, 0)))), some (.inl o_), some (.inl md_), some (.inl (k_ + 1)), none], [], S_)) rfl ?_
          refine ih_.2.1 md_ (k_ + 1) S_ hI_ hF_ ⟨?_, ?_, trivial⟩ ?_
          · omega
          · exact h1_
          · omega
        · have cx4_ : ¬ ((S_.2.2.1 174 0 ((S_.2.2.1 175 0 k_.toNat) / 2).toNat) ≤ md_) := of_decide_eq_false cx4_
          refine sm_T_go 5 (c1 := (136, [some (.inr (.inr (some (13, 0)))), some (.inl o_), some (.inl md_), some (.inl k_), none], [.inl k_, .inr (.inr (some (175, 0))), .inr (.inr (some (174, 0)))], S_)) rfl ?_
          refine sm_T_iald (n := 16) rfl rfl (by omega) (by omega) ?_
          refine sm_T_go 1 (c1 := (138, [some (.inr (.inr (some (13, 0)))), some (.inl o_), some (.inl md_), some (.inl k_), none], [.inl 1, .inl (S_.2.2.1 175 0 k_.toNat), .inr (.inr (some (174, 0)))], S_)) rfl ?_
          refine sm_T_bin (w := ((S_.2.2.1 175 0 k_.toNat) / 2)) rfl (bi_shr (k := 1) (by decide) (by omega) (by omega)) ?_
          refine sm_T_iald (n := 2048) rfl rfl (by omega) (by omega) ?_
          refine sm_T_go 2 (c1 := (145, [some (.inr (.inr (some (13, 0)))), some (.inl o_), some (.inl (S_.2.2.1 174 0 ((S_.2.2.1 175 0 k_.toNat) / 2).toNat)), some (.inl k_), none], [], S_)) rfl ?_
          refine sm_T_inc (a := 3) (z := 1) (v := k_) (w := k_ + 1) rfl rfl (by omega) (by omega) (by omega) ?_
          refine sm_T_go 1 (c1 := (105, [some (.inr (.inr (some (13, 0)))), some (.inl o_), some (.inl (S_.2.2.1 174 0 ((S_.2.2.1 175 0 k_.toNat) / 2).toNat)), some (.inl (k_ + 1)), none], [], S_)) rfl ?_
          refine ih_.2.1 (S_.2.2.1 174 0 ((S_.2.2.1 175 0 k_.toNat) / 2).toNat) (k_ + 1) S_ hI_ hF_ ⟨?_, ?_, trivial⟩ ?_
          · omega
          · exact h1_
          · omega
    · rintro md_ k_ S_ hI_ hF_ ⟨h0_, h1_, -⟩ hm_
      have g1_ := hg_.1
      have g2_ := hg_.2.1
      have e37_ : S_.1 13 0 37 = S0_.1 13 0 37 := hF_.1 13 0 37 rfl
      have e38_ : S_.1 13 0 38 = S0_.1 13 0 38 := hF_.1 13 0 38 rfl
      have e53_ : S_.1 13 0 53 = S0_.1 13 0 53 := hF_.1 13 0 53 rfl
      have f40_ : S_.2.2.1 140 0 = S0_.2.2.1 140 0 := fr_arr hF_ rfl
      have f41_ : S_.2.2.1 141 0 = S0_.2.2.1 141 0 := fr_arr hF_ rfl
      have r1_ := hr_.1
      have r2_ := hr_.2.1
      have f75_ : S_.2.2.1 175 0 = S0_.2.2.1 175 0 := fr_arr hF_ rfl
      have f51_ : S_.2.2.1 151 0 = S0_.2.2.1 151 0 := fr_arr hF_ rfl
      have bx1_ : 0 ≤ S_.1 13 0 53 ∧ S_.1 13 0 53 ≤ 6 := hI_.1 13 0 53 rfl
      refine sm_T_go 3 (c1 := (158, [some (.inr (.inr (some (13, 0)))), some (.inl o_), some (.inl md_), some (.inl k_), none], [.inl (S_.1 13 0 53), .inl k_], S_)) rfl ?_
      refine sm_T_br (a := 3) (z := 44) rfl (fun cx2_ => ?_) (fun cx2_ => ?_)
      · have cx2_ : (S_.1 13 0 53) ≤ k_ := of_decide_eq_true cx2_
        refine sm_T_go 1 (c1 := (203, [some (.inr (.inr (some (13, 0)))), some (.inl o_), some (.inl md_), some (.inl k_), none], [.inl md_], S_)) rfl ?_
        refine sm_T_ri rfl ⟨_, _, rfl, _, rfl, hI_, hF_, ?_⟩
        omega
      · have cx2_ : ¬ ((S_.1 13 0 53) ≤ k_) := of_decide_eq_false cx2_
        have ro_ := hr_.2.2.2 k_.toNat (by omega)
        rw [← f51_] at ro_
        have w9_ := h1_ (S_.2.2.1 151 0 k_.toNat / 2).toNat (by omega)
        refine sm_T_go 5 (c1 := (170, [some (.inr (.inr (some (13, 0)))), some (.inl o_), some (.inl md_), some (.inl k_), none], [.inl k_, .inr (.inr (some (151, 0))), .inr (.inr (some (174, 0)))], S_)) rfl ?_
        refine sm_T_iald (n := 1024) rfl rfl (by omega) (by omega) ?_
        have bx3_ : 0 ≤ S_.2.2.1 151 0 k_.toNat ∧ S_.2.2.1 151 0 k_.toNat ≤ 2047 := hI_.2 151 0 _
        refine sm_T_go 1 (c1 := (172, [some (.inr (.inr (some (13, 0)))), some (.inl o_), some (.inl md_), some (.inl k_), none], [.inl 1, .inl (S_.2.2.1 151 0 k_.toNat), .inr (.inr (some (174, 0)))], S_)) rfl ?_
        refine sm_T_bin (w := ((S_.2.2.1 151 0 k_.toNat) / 2)) rfl (bi_shr (k := 1) (by decide) (by omega) (by omega)) ?_
        refine sm_T_iald (n := 2048) rfl rfl (by omega) (by omega) ?_
        have bx4_ : 0 ≤ S_.2.2.1 174 0 ((S_.2.2.1 151 0 k_.toNat) / 2).toNat ∧ S_.2.2.1 174 0 ((S_.2.2.1 151 0 k_.toNat) / 2).toNat ≤ 1000 := hI_.2 174 0 _
        refine sm_T_go 1 (c1 := (175, [some (.inr (.inr (some (13, 0)))), some (.inl o_), some (.inl md_), some (.inl k_), none], [.inl md_, .inl (S_.2.2.1 174 0 ((S_.2.2.1 151 0 k_.toNat) / 2).toNat)], S_)) rfl ?_
        refine sm_T_br (a := 5) (z := 19) rfl (fun cx5_ => ?_) (fun cx5_ => ?_)
        · have cx5_ : (S_.2.2.1 174 0 ((S_.2.2.1 151 0 k_.toNat) / 2).toNat) ≤ md_ := of_decide_eq_true cx5_
          refine sm_T_go 2 (c1 := (196, [some (.inr (.inr (some (13, 0)))), some (.inl o_), some (.inl md_), some (.inl k_), none], [], S_)) rfl ?_
          refine sm_T_inc (a := 3) (z := 1) (v := k_) (w := k_ + 1) rfl rfl (by omega) (by omega) (by omega) ?_
          refine sm_T_go 1 (c1 := (153, [some (.inr (.inr (some (13, 0)))), some (.inl o_), some (.inl md_), some (.inl (k_ + 1)), none], [], S_)) rfl ?_
          refine ih_.2.2 md_ (k_ + 1) S_ hI_ hF_ ⟨?_, ?_, trivial⟩ ?_
          · omega
          · exact h1_
          · omega
        · have cx5_ : ¬ ((S_.2.2.1 174 0 ((S_.2.2.1 151 0 k_.toNat) / 2).toNat) ≤ md_) := of_decide_eq_false cx5_
          refine sm_T_go 5 (c1 := (187, [some (.inr (.inr (some (13, 0)))), some (.inl o_), some (.inl md_), some (.inl k_), none], [.inl k_, .inr (.inr (some (151, 0))), .inr (.inr (some (174, 0)))], S_)) rfl ?_
          refine sm_T_iald (n := 1024) rfl rfl (by omega) (by omega) ?_
          refine sm_T_go 1 (c1 := (189, [some (.inr (.inr (some (13, 0)))), some (.inl o_), some (.inl md_), some (.inl k_), none], [.inl 1, .inl (S_.2.2.1 151 0 k_.toNat), .inr (.inr (some (174, 0)))], S_)) rfl ?_
          refine sm_T_bin (w := ((S_.2.2.1 151 0 k_.toNat) / 2)) rfl (bi_shr (k := 1) (by decide) (by omega) (by omega)) ?_
          refine sm_T_iald (n := 2048) rfl rfl (by omega) (by omega) ?_
          refine sm_T_go 2 (c1 := (196, [some (.inr (.inr (some (13, 0)))), some (.inl o_), some (.inl (S_.2.2.1 174 0 ((S_.2.2.1 151 0 k_.toNat) / 2).toNat)), some (.inl k_), none], [], S_)) rfl ?_
          refine sm_T_inc (a := 3) (z := 1) (v := k_) (w := k_ + 1) rfl rfl (by omega) (by omega) (by omega) ?_
          refine sm_T_go 1 (c1 := (153, [some (.inr (.inr (some (13, 0)))), some (.inl o_), some (.inl (S_.2.2.1 174 0 ((S_.2.2.1 151 0 k_.toNat) / 2).toNat)), some (.inl (k_ + 1)), none], [], S_)) rfl ?_
          refine ih_.2.2 (S_.2.2.1 174 0 ((S_.2.2.1 151 0 k_.toNat) / 2).toNat) (k_ + 1) S_ hI_ hF_ ⟨?_, ?_, trivial⟩ ?_
          · omega
          · exact h1_
          · omega
set_option maxHeartbeats 2000000 in
set_option maxRecDepth 20000 in
theorem vc_358 {sc_ : Nat × (Nat → Int)} (o_ : Int) (F_ : Nat) (S0_ : sm_S) (hI_ : gi S0_) (hg_ : rgr F_ S0_) (hr_ : rrt o_ S0_) : sm_T (mt_P sc_) 0 358 (0, [some (.inr (.inr (some (13, 0)))), some (.inl o_), none, none, none], [], S0_) (fun ro9_ => ∃ u_ S1_, ro9_ = (.inl u_, S1_, 0) ∧ vq_358 o_ F_ S0_ u_ S1_) := by
  have hF_ : ai_fr (sx_W vw_358) S0_ S0_ := ai_fr_rf
  refine sm_T_go 2 (c1 := (2, [some (.inr (.inr (some (13, 0)))), some (.inl o_), some (.inl 0), none, none], [], S0_)) rfl ?_
  refine (vl_358 o_ F_ S0_ hg_ hr_ _).1 0 S0_ hI_ hF_ ⟨?_, ?_, trivial⟩ (Nat.lt_succ_self _)
  · (have g1_ := hg_.1; have g2_ := hg_.2.1; omega)
  · (intro k9_ hk9_; omega)
end
