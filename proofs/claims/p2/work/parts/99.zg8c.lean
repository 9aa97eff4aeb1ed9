/-! Builder.countReached -/
def vw_52 : sx_Wl := ([], [33], [])
def vq_52 (dd_ : Nat) (F_ : Nat) (S0_ : sm_S) (u_ : Option sm_V) (S1_ : sm_S) : Prop := ∃ v_ : Int, u_ = some (.inl v_) ∧ gi S1_ ∧ ai_fr (sx_W vw_52) S0_ S1_ ∧ (idf dd_ S0_ S1_ ∧ (1 ≤ v_ ∧ v_ ≤ 64))
set_option maxHeartbeats 2000000 in
theorem vl_52 {sc_ : Nat × (Nat → Int)} (dd_ : Nat) (F_ : Nat) (S0_ : sm_S) (hd_ : S0_.2.1 1 0 1 = some dd_) (hg_ : dgr dd_ F_ S0_) (hr_ : S0_.1 3 dd_ 2 ≤ 6) (ht_ : dtb dd_ S0_) (hb_ : 0 ≤ S0_.1 3 dd_ 5 ∧ S0_.1 3 dd_ 5 < 2 ^ (S0_.1 3 dd_ 2).toNat) : ∀ nn_ : Nat, (∀ (st_ : Int) (tl_ : Int) (hd9_ : Int) (S_ : sm_S), gi S_ → ai_fr (sx_W vw_52) S0_ S_ → ((st_ = 2 ^ (S0_.1 3 dd_ 2).toNat) ∧ (∀ j9_ : Nat, (j9_ : Int) < st_ → S_.2.2.1 33 0 j9_ = 0 ∨ S_.2.2.1 33 0 j9_ = 1) ∧ (∀ j9_ : Nat, (j9_ : Int) < tl_ → 0 ≤ S_.2.2.1 33 0 (st_.toNat + j9_) ∧ S_.2.2.1 33 0 (st_.toNat + j9_) < st_) ∧ (tl_ = (cn1 (fun k9_ => S_.2.2.1 33 0 k9_) st_.toNat : Int)) ∧ (1 ≤ tl_ ∧ 0 ≤ hd9_) ∧ (idf dd_ S0_ S_) ∧ True) → ((10000 * (100 - hd9_) + 5000).toNat) < nn_ → sm_T (mt_P sc_) 1 52 (48, [some (.inr (.inr (some (1, 0)))), some (.inl st_), some (.inl tl_), some (.inl hd9_), none, none, none], [], S_) (fun ro9_ => ∃ u_ S1_, ro9_ = (.inl u_, S1_, 0) ∧ vq_52 dd_ F_ S0_ u_ S1_)) ∧ (∀ (st_ : Int) (tl_ : Int) (hd9_ : Int) (he_ : Int) (ip_ : Int) (sq_ : Int) (S_ : sm_S), gi S_ → ai_fr (sx_W vw_52) S0_ S_ → ((st_ = 2 ^ (S0_.1 3 dd_ 2).toNat) ∧ (∀ j9_ : Nat, (j9_ : Int) < st_ → S_.2.2.1 33 0 j9_ = 0 ∨ S_.2.2.1 33 0 j9_ = 1) ∧ (∀ j9_ : Nat, (j9_ : Int) < tl_ → 0 ≤ S_.2.2.1 33 0 (st_.toNat + j9_) ∧ S_.2.2.1 33 0 (st_.toNat + j9_) < st_) ∧ (tl_ = (cn1 (fun k9_ => S_.2.2.1 33 0 k9_) st_.toNat : Int)) ∧ (1 ≤ tl_ ∧ 0 ≤ hd9_ ∧ hd9_ < st_ ∧ 0 ≤ ip_ ∧ ip_ ≤ 4096 ∧ 0 ≤ sq_ ∧ sq_ < st_) ∧ (he_ = i_shl sq_ (S0_.1 3 dd_ 1)) ∧ (idf dd_ S0_ S_) ∧ True) → ((10000 * (100 - hd9_) + 4500 - ip_).toNat) < nn_ → sm_T (mt_P sc_) 1 52 (79, [some (.inr (.inr (some (1, 0)))), some (.inl st_), some (.inl tl_), some (.inl hd9_), some (.inl he_), some (.inl ip_), none], [], S_) (fun ro9_ => ∃ u_ S1_, ro9_ = (.inl u_, S1_, 0) ∧ vq_52 dd_ F_ S0_ u_ S1_)) := by
  intro nn_
  induction nn_ with
  | zero => exact ⟨fun _ _ _ _ _ _ _ h_ => absurd h_ (Nat.not_lt_zero _), fun _ _ _ _ _ _ _ _ _ _ h_ => absurd h_ (Nat.not_lt_zero _)⟩
  | succ nn_ ih_ =>
    refine ⟨?_, ?_⟩
    · rintro st_ tl_ hd9_ S_ hI_ hF_ ⟨hs_, hmz_, hq_, hc_, h0_, hD_, -⟩ hm_
      have e1_ : S_.1 3 dd_ 1 = S0_.1 3 dd_ 1 := hF_.1 3 dd_ 1 rfl
      have e2_ : S_.1 3 dd_ 2 = S0_.1 3 dd_ 2 := hF_.1 3 dd_ 2 rfl
      have f47_ : S_.2.2.1 47 (0 + dd_) = S0_.2.2.1 47 (0 + dd_) := fr_arr hF_ rfl
      have g1_ := hg_.1
      have st64_ := pw_le (n := (S0_.1 3 dd_ 2).toNat) (m := 6) (by omega)
      have st0_ := pw_pos (S0_.1 3 dd_ 2).toNat
      have cl9_ := cn1_le (fun k9_ => S_.2.2.1 33 0 k9_) st_.toNat
      refine sm_T_go 2 (c1 := (50, [some (.inr (.inr (some (1, 0)))), some (.inl st_), some (.inl tl_), some (.inl hd9_), none, none, none], [.inl tl_, .inl hd9_], S_)) rfl ?_
      refine sm_T_br (a := 3) (z := 104) rfl (fun cx1_ => ?_) (fun cx1_ => ?_)
      · have cx1_ : tl_ ≤ hd9_ := of_decide_eq_true cx1_
        refine sm_T_go 1 (c1 := (155, [some (.inr (.inr (some (1, 0)))), some (.inl st_), some (.inl tl_), some (.inl hd9_), none, none, none], [.inl tl_], S_)) rfl ?_
        refine sm_T_ri rfl ⟨_, _, rfl, _, rfl, hI_, hF_, ?_⟩
        refine ⟨hD_, ?_⟩
        omega
      · have cx1_ : ¬ (tl_ ≤ hd9_) := of_decide_eq_false cx1_
        refine sm_T_go 2 (c1 := (55, [some (.inr (.inr (some (1, 0)))), some (.inl st_), some (.inl tl_), some (.inl hd9_), none, none, none], [.inl st_, .inl hd9_], S_)) rfl ?_
        refine sm_T_br (a := 3) (z := 99) rfl (fun cx2_ => ?_) (fun cx2_ => ?_)
        · have cx2_ : st_ ≤ hd9_ := of_decide_eq_true cx2_
          refine sm_T_go 1 (c1 := (155, [some (.inr (.inr (some (1, 0)))), some (.inl st_), some (.inl tl_), some (.inl hd9_), none, none, none], [.inl tl_], S_)) rfl ?_
          refine sm_T_ri rfl ⟨_, _, rfl, _, rfl, hI_, hF_, ?_⟩
          refine ⟨hD_, ?_⟩
          omega
        · have cx2_ : ¬ (st_ ≤ hd9_) := of_decide_eq_false cx2_
          have hq9_ := hq_ hd9_.toNat (by omega)
          rw [show st_.toNat + hd9_.toNat = (st_ + hd9_).toNat by omega] at hq9_
          refine sm_T_go 4 (c1 := (64, [some (.inr (.inr (some (1, 0)))), some (.inl st_), some (.inl tl_), some (.inl hd9_), none, none, none], [.inl hd9_, .inl st_, .inr (.inr (some (33, 0)))], S_)) rfl ?_
          refine sm_T_bin (w := st_ + hd9_) rfl (bi_add (by omega) (by omega) (by omega)) ?_
          refine sm_T_iald (n := 1013) rfl rfl (by omega) (by omega) ?_
          have bx3_ : 0 ≤ S_.2.2.1 33 0 (st_ + hd9_).toNat ∧ S_.2.2.1 33 0 (st_ + hd9_).toNat ≤ 1012 := hI_.2 33 0 _
          refine sm_T_go 1 (c1 := (67, [some (.inr (.inr (some (1, 0)))), some (.inl st_), some (.inl tl_), some (.inl hd9_), none, none, none], [.inr (.inr (some (1, 0))), .inl (S_.2.2.1 33 0 (st_ + hd9_).toNat)], S_)) rfl ?_
          refine sm_T_gr rfl rfl ((hF_.2.1 1 0 1 rfl).trans hd_) ?_
          have bx4_ : 0 ≤ S_.1 3 dd_ 1 ∧ S_.1 3 dd_ 1 ≤ 320 := hI_.1 3 dd_ 1 rfl
          refine sm_T_go 1 (c1 := (73, [some (.inr (.inr (some (1, 0)))), some (.inl st_), some (.inl tl_), some (.inl hd9_), none, none, none], [.inl (S_.1 3 dd_ 1), .inl (S_.2.2.1 33 0 (st_ + hd9_).toNat)], S_)) rfl ?_
          refine sm_T_bin (w := (i_shl (S_.2.2.1 33 0 (st_ + hd9_).toNat) (S_.1 3 dd_ 1))) rfl rfl ?_
          refine sm_T_go 3 (c1 := (79, [some (.inr (.inr (some (1, 0)))), some (.inl st_), some (.inl tl_), some (.inl hd9_), some (.inl (i_shl (S_.2.2.1 33 0 (st_ + hd9_).toNat) (S_.1 3 dd_ 1))), some (.inl 0), none], [], S_)) rfl ?_
          refine ih_.2 st_ tl_ hd9_ (i_shl (S_.2.2.1 33 0 (st_ + hd9_).toNat) (S_.1 3 dd_ 1)) 0 (S_.2.2.1 33 0 (st_ + hd9_).toNat) S_ hI_ hF_ ⟨?_, ?_, ?_, ?_, ?_, ?_, ?_, trivial⟩ ?_
          · exact hs_
          · exact hmz_
          · exact hq_
          · exact hc_
          · omega
          · (rw [e1_])
          · exact hD_
          · omega
    · rintro st_ tl_ hd9_ he_ ip_ sq_ S_ hI_ hF_ ⟨hs_, hmz_, hq_, hc_, h0_, hh_, hD_, -⟩ hm_
      have e1_ : S_.1 3 dd_ 1 = S0_.1 3 dd_ 1 := hF_.1 3 dd_ 1 rfl
      have e2_ : S_.1 3 dd_ 2 = S0_.1 3 dd_ 2 := hF_.1 3 dd_ 2 rfl
      have f47_ : S_.2.2.1 47 (0 + dd_) = S0_.2.2.1 47 (0 + dd_) := fr_arr hF_ rfl
      have g1_ := hg_.1
      have st64_ := pw_le (n := (S0_.1 3 dd_ 2).toNat) (m := 6) (by omega)
      have st0_ := pw_pos (S0_.1 3 dd_ 2).toNat
      have cl9_ := cn1_le (fun k9_ => S_.2.2.1 33 0 k9_) st_.toNat
      refine sm_T_go 3 (c1 := (83, [some (.inr (.inr (some (1, 0)))), some (.inl st_), some (.inl tl_), some (.inl hd9_), some (.inl he_), some (.inl ip_), none], [.inr (.inr (some (1, 0))), .inl 1, .inl ip_], S_)) rfl ?_
      refine sm_T_gr rfl rfl ((hF_.2.1 1 0 1 rfl).trans hd_) ?_
      have bx1_ : 0 ≤ S_.1 3 dd_ 1 ∧ S_.1 3 dd_ 1 ≤ 320 := hI_.1 3 dd_ 1 rfl
      refine sm_T_go 1 (c1 := (89, [some (.inr (.inr (some (1, 0)))), some (.inl st_), some (.inl tl_), some (.inl hd9_), some (.inl he_), some (.inl ip_), none], [.inl (S_.1 3 dd_ 1), .inl 1, .inl ip_], S_)) rfl ?_
      refine sm_T_bin (w := (i_shl 1 (S_.1 3 dd_ 1))) rfl rfl ?_
      have bx2_ := i_shl1 (e := (S_.1 3 dd_ 1)) (by omega) (by omega)
      have hp_ := pw_le (n := ((S_.1 3 dd_ 1)).toNat) (m := 12) (by omega)
      have hp0_ := pw_pos ((S_.1 3 dd_ 1)).toNat
      have hk9_ : (2 : Int) ^ ((S_.1 3 dd_ 1)).toNat = 2 ^ (S0_.1 3 dd_ 1).toNat := by rw [e1_]
      refine sm_T_br (a := 3) (z := 58) rfl (fun cx6_ => ?_) (fun cx6_ => ?_)
      · have cx6_ : (i_shl 1 (S_.1 3 dd_ 1)) ≤ ip_ := of_decide_eq_true cx6_
        refine sm_T_inc (a := 3) (z := 1) (v := hd9_) (w := hd9_ + 1) rfl rfl (by omega) (by omega) (by omega) ?_
        refine sm_T_go 1 (c1 := (48, [some (.inr (.inr (some (1, 0)))), some (.inl st_), some (.inl tl_), some (.inl (hd9_ + 1)), some (.inl he_), some (.inl ip_), none], [], S_)) rfl ?_
        refine sm_T_wk [some (.inr (.inr (some (1, 0)))), some (.inl st_), some (.inl tl_), some (.inl (hd9_ + 1)), none, none, none] (by exact ⟨rfl, rfl, rfl, rfl, trivial⟩) ?_
        refine ih_.1 st_ tl_ (hd9_ + 1) S_ hI_ hF_ ⟨?_, ?_, ?_, ?_, ?_, ?_, trivial⟩ ?_
        · exact hs_
        · exact hmz_
        · exact hq_
        · exact hc_
        · omega
        · exact hD_
        · omega
      · have cx6_ : ¬ ((i_shl 1 (S_.1 3 dd_ 1)) ≤ ip_) := of_decide_eq_false cx6_
        have pt9_ := pat_b (s_ := sq_) (i_ := ip_) (R_ := (S0_.1 3 dd_ 2).toNat) (I_ := (S0_.1 3 dd_ 1).toNat) (by omega) (by omega) (by omega)
        have pt8_ := pw_le (n := (S0_.1 3 dd_ 2).toNat + (S0_.1 3 dd_ 1).toNat) (m := 12) (by omega)
        rw [show (((S0_.1 3 dd_ 1).toNat : Nat) : Int) = S0_.1 3 dd_ 1 by omega, ← hh_] at pt9_
        have tb9_ := ht_ (i_or he_ ip_).toNat (by omega)
        rw [← f47_] at tb9_
        have nx9_ := shr16 tb9_
        have hm9_ := hmz_ (S_.2.2.1 47 (0 + dd_) (i_or he_ ip_).toNat / 65536).toNat (by omega)
        refine sm_T_go 1 (c1 := (94, [some (.inr (.inr (some (1, 0)))), some (.inl st_), some (.inl tl_), some (.inl hd9_), some (.inl he_), some (.inl ip_), none], [.inr (.inr (some (1, 0)))], S_)) rfl ?_
        refine sm_T_gr rfl rfl ((hF_.2.1 1 0 1 rfl).trans hd_) ?_
        refine sm_T_go 3 (c1 := (104, [some (.inr (.inr (some (1, 0)))), some (.inl st_), some (.inl tl_), some (.inl hd9_), some (.inl he_), some (.inl ip_), none], [.inl ip_, .inl he_, .inr (.inr (some (47, (0 + dd_))))], S_)) rfl ?_
        refine sm_T_bin (w := (i_or he_ ip_)) rfl rfl ?_
        refine sm_T_iald (n := 4096) rfl rfl (by omega) (by omega) ?_
        have bx7_ : 0 ≤ S_.2.2.1 47 (0 + dd_) (i_or he_ ip_).toNat ∧ S_.2.2.1 47 (0 + dd_) (i_or he_ ip_).toNat ≤ 4194303 := hI_.2 47 (0 + dd_) _
        refine sm_T_go 1 (c1 := (108, [some (.inr (.inr (some (1, 0)))), some (.inl st_), some (.inl tl_), some (.inl hd9_), some (.inl he_), some (.inl ip_), none], [.inl 16, .inl (S_.2.2.1 47 (0 + dd_) (i_or he_ ip_).toNat)], S_)) rfl ?_
        refine sm_T_bin (w := ((S_.2.2.1 47 (0 + dd_) (i_or he_ ip_).toNat) / 65536)) rfl (bi_shr (k := 16) (by decide) (by omega) (by omega)) ?_
        refine sm_T_go 4 (c1 := (117, [some (.inr (.inr (some (1, 0)))), some (.inl st_), some (.inl tl_), some (.inl hd9_), some (.inl he_), some (.inl ip_), some (.inl ((S_.2.2.1 47 (0 + dd_) (i_or he_ ip_).toNat) / 65536))], [.inl ((S_.2.2.1 47 (0 + dd_) (i_or he_ ip_).toNat) / 65536), .inr (.inr (some (33, 0)))], S_)) rfl ?_
        refine sm_T_iald (n := 1013) rfl rfl (by omega) (by omega) ?_
        have bx8_ : 0 ≤ S_.2.2.1 33 0 ((S_.2.2.1 47 (0 + dd_) (i_or he_ ip_).toNat) / 65536).toNat ∧ S_.2.2.1 33 0 ((S_.2.2.1 47 (0 + dd_) (i_or he_ ip_).toNat) / 65536).toNat ≤ 1012 := hI_.2 33 0 _
        refine sm_T_b0 (a := 1) (z := 24) rfl (fun cx9_ => ?_) (fun cx9_ => ?_)
        · have cx9_ : (S_.2.2.1 33 0 ((S_.2.2.1 47 (0 + dd_) (i_or he_ ip_).toNat) / 65536).toNat) ≠ 0 := of_decide_eq_true cx9_
          refine sm_T_inc (a := 5) (z := 1) (v := ip_) (w := ip_ + 1) rfl rfl (by omega) (by omega) (by omega) ?_
          refine sm_T_go 1 (c1 := (79, [some (.inr (.inr (some (1, 0)))), some (.inl st_), some (.inl tl_), some (.inl hd9_), some (.inl he_), some (.inl (ip_ + 1)), some (.inl ((S_.2.2.1 47 (0 + dd_) (i_or he_ ip_).toNat) / 65536))], [], S_)) rfl ?_
          refine sm_T_wk [some (.inr (.inr (some (1, 0)))), some (.inl st_), some (.inl tl_), some (.inl hd9_), some (.inl he_), some (.inl (ip_ + 1)), none] (by exact ⟨rfl, rfl, rfl, rfl, rfl, rfl, trivial⟩) ?_
          refine ih_.2 st_ tl_ hd9_ he_ (ip_ + 1) sq_ S_ hI_ hF_ ⟨?_, ?_, ?_, ?_, ?_, ?_, ?_, trivial⟩ ?_
          · exact hs_
          · exact hmz_
          · exact hq_
          · exact hc_
          · omega
          · exact hh_
          · exact hD_
          · omega
        · have cx9_ : ¬ ((S_.2.2.1 33 0 ((S_.2.2.1 47 (0 + dd_) (i_or he_ ip_).toNat) / 65536).toNat) ≠ 0) := of_decide_eq_false cx9_
          refine sm_T_go 4 (c1 := (128, [some (.inr (.inr (some (1, 0)))), some (.inl st_), some (.inl tl_), some (.inl hd9_), some (.inl he_), some (.inl ip_), some (.inl ((S_.2.2.1 47 (0 + dd_) (i_or he_ ip_).toNat) / 65536))], [.inl 1, .inl ((S_.2.2.1 47 (0 + dd_) (i_or he_ ip_).toNat) / 65536), .inr (.inr (some (33, 0)))], S_)) rfl ?_
          refine sm_T_iast (n := 1013) rfl rfl (by omega) (by omega) ?_
          have hIx10_ : gi (sm_aI S_ 33 0 ((S_.2.2.1 47 (0 + dd_) (i_or he_ ip_).toNat) / 65536).toNat 1) := gi_aI hI_ (show 0 ≤ 1 ∧ 1 ≤ 1012 from ⟨by omega, by omega⟩)
          have hFx11_ : ai_fr (sx_W vw_52) S0_ (sm_aI S_ 33 0 ((S_.2.2.1 47 (0 + dd_) (i_or he_ ip_).toNat) / 65536).toNat 1) := ai_fr_tr hF_ (ai_fr_aI rfl)
          have hDx12_ : idf dd_ S0_ (sm_aI S_ 33 0 ((S_.2.2.1 47 (0 + dd_) (i_or he_ ip_).toNat) / 65536).toNat 1) := idf_aI hD_ (Or.inl (by decide))
          refine sm_T_go 4 (c1 := (135, [some (.inr (.inr (some (1, 0)))), some (.inl st_), some (.inl tl_), some (.inl hd9_), some (.inl he_), some (.inl ip_), some (.inl ((S_.2.2.1 47 (0 + dd_) (i_or he_ ip_).toNat) / 65536))], [.inl tl_, .inl st_, .inr (.inr (some (33, 0)))], sm_aI S_ 33 0 ((S_.2.2.1 47 (0 + dd_) (i_or he_ ip_).toNat) / 65536).toNat 1)) rfl ?_
          refine sm_T_bin (w := st_ + tl_) rfl (bi_add (by omega) (by omega) (by omega)) ?_
          refine sm_T_go 1 (c1 := (138, [some (.inr (.inr (some (1, 0)))), some (.inl st_), some (.inl tl_), some (.inl hd9_), some (.inl he_), some (.inl ip_), some (.inl ((S_.2.2.1 47 (0 + dd_) (i_or he_ ip_).toNat) / 65536))], [.inl ((S_.2.2.1 47 (0 + dd_) (i_or he_ ip_).toNat) / 65536), .inl (st_ + tl_), .inr (.inr (some (33, 0)))], sm_aI S_ 33 0 ((S_.2.2.1 47 (0 + dd_) (i_or he_ ip_).toNat) / 65536).toNat 1)) rfl ?_
          refine sm_T_iast (n := 1013) rfl rfl (by omega) (by omega) ?_
          have hIx13_ : gi (sm_aI (sm_aI S_ 33 0 ((S_.2.2.1 47 (0 + dd_) (i_or he_ ip_).toNat) / 65536).toNat 1) 33 0 (st_ + tl_).toNat ((S_.2.2.1 47 (0 + dd_) (i_or he_ ip_).toNat) / 65536)) := gi_aI hIx10_ (show 0 ≤ ((S_.2.2.1 47 (0 + dd_) (i_or he_ ip_).toNat) / 65536) ∧ ((S_.2.2.1 47 (0 + dd_) (i_or he_ ip_).toNat) / 65536) ≤ 1012 from ⟨by omega, by omega⟩)
          have hFx14_ : ai_fr (sx_W vw_52) S0_ (sm_aI (sm_aI S_ 33 0 ((S_.2.2.1 47 (0 + dd_) (i_or he_ ip_).toNat) / 65536).toNat 1) 33 0 (st_ + tl_).toNat ((S_.2.2.1 47 (0 + dd_) (i_or he_ ip_).toNat) / 65536)) := ai_fr_tr hFx11_ (ai_fr_aI rfl)
          have hDx15_ : idf dd_ S0_ (sm_aI (sm_aI S_ 33 0 ((S_.2.2.1 47 (0 + dd_) (i_or he_ ip_).toNat) / 65536).toNat 1) 33 0 (st_ + tl_).toNat ((S_.2.2.1 47 (0 + dd_) (i_or he_ ip_).toNat) / 65536)) := idf_aI hDx12_ (Or.inl (by decide))
          refine sm_T_inc (a := 2) (z := 1) (v := tl_) (w := tl_ + 1) rfl rfl (by omega) (by omega) (by omega) ?_
          refine sm_T_inc (a := 5) (z := 1) (v := ip_) (w := ip_ + 1) rfl rfl (by omega) (by omega) (by omega) ?_
          refine sm_T_go 1 (c1 := (79, [some (.inr (.inr (some (1, 0)))), some (.inl st_), some (.inl (tl_ + 1)), some (.inl hd9_), some (.inl he_), some (.inl (ip_ + 1)), some (.inl ((S_.2.2.1 47 (0 + dd_) (i_or he_ ip_).toNat) / 65536))], [], sm_aI (sm_aI S_ 33 0 ((S_.2.2.1 47 (0 + dd_) (i_or he_ ip_).toNat) / 65536).toNat 1) 33 0 (st_ + tl_).toNat ((S_.2.2.1 47 (0 + dd_) (i_or he_ ip_).toNat) / 65536))) rfl ?_
          refine sm_T_wk [some (.inr (.inr (some (1, 0)))), some (.inl st_), some (.inl (tl_ + 1)), some (.inl hd9_), some (.inl he_), some (.inl (ip_ + 1)), none] (by exact ⟨rfl, rfl, rfl, rfl, rfl, rfl, trivial⟩) ?_
          refine ih_.2 st_ (tl_ + 1) hd9_ he_ (ip_ + 1) sq_ (sm_aI (sm_aI S_ 33 0 ((S_.2.2.1 47 (0 + dd_) (i_or he_ ip_).toNat) / 65536).toNat 1) 33 0 (st_ + tl_).toNat ((S_.2.2.1 47 (0 + dd_) (i_or he_ ip_).toNat) / 65536)) hIx13_ hFx14_ ⟨?_, ?_, ?_, ?_, ?_, ?_, ?_, trivial⟩ ?_
          · exact hs_
          · intro j9_ hj9_
            (try simp only [rd_eq, rd_ne, rf_eq, rf_nk, rf_nt, rd_fa, rd_af, rd_fl, rd_al, rd_lf, rd_la, rd_leq, rd_lne, rd_fr, rd_ar, ne_eq, Nat.reduceEqDiff, not_false_eq_true])
            rw [if_neg (by omega)]
            split
            · right; rfl
            · exact hmz_ j9_ hj9_
          · intro j9_ hj9_
            (try simp only [rd_eq, rd_ne, rf_eq, rf_nk, rf_nt, rd_fa, rd_af, rd_fl, rd_al, rd_lf, rd_la, rd_leq, rd_lne, rd_fr, rd_ar, ne_eq, Nat.reduceEqDiff, not_false_eq_true])
            by_cases z9_ : (j9_ : Int) = tl_
            · rw [if_pos (by omega)]; omega
            · rw [if_neg (by omega), if_neg (by omega)]; exact hq_ j9_ (by omega)
          · have u9_ := cn1_up (f := fun k9_ => S_.2.2.1 33 0 k9_) (g := fun k9_ => (sm_aI S_ 33 0 (S_.2.2.1 47 (0 + dd_) (i_or he_ ip_).toNat / 65536).toNat 1).2.2.1 33 0 k9_) (j := (S_.2.2.1 47 (0 + dd_) (i_or he_ ip_).toNat / 65536).toNat) (by show S_.2.2.1 33 0 _ ≠ 1; omega) (by show _ = _; rw [rd_eq, if_pos rfl]) (by intro k9_ hk9_; show _ = _; rw [rd_eq, if_neg hk9_]) (n := st_.toNat) (by omega)
            rw [cn1_cg (g := fun k9_ => (sm_aI S_ 33 0 (S_.2.2.1 47 (0 + dd_) (i_or he_ ip_).toNat / 65536).toNat 1).2.2.1 33 0 k9_) (fun k9_ hk9_ => by show ((sm_aI (sm_aI S_ 33 0 ((S_.2.2.1 47 (0 + dd_) (i_or he_ ip_).toNat) / 65536).toNat 1) 33 0 (st_ + tl_).toNat ((S_.2.2.1 47 (0 + dd_) (i_or he_ ip_).toNat) / 65536))).2.2.1 33 0 k9_ = _; rw [rd_eq, if_neg (by omega)]), u9_]
            push_cast
            omega
          · omega
          · exact hh_
          · exact hDx15_
          · omega
set_option maxHeartbeats 2000000 in
theorem vc_52 {sc_ : Nat × (Nat → Int)} (dd_ : Nat) (F_ : Nat) (S0_ : sm_S) (hI_ : gi S0_) (hd_ : S0_.2.1 1 0 1 = some dd_) (hg_ : dgr dd_ F_ S0_) (hr_ : S0_.1 3 dd_ 2 ≤ 6) (ht_ : dtb dd_ S0_) (hb_ : 0 ≤ S0_.1 3 dd_ 5 ∧ S0_.1 3 dd_ 5 < 2 ^ (S0_.1 3 dd_ 2).toNat) : sm_T (mt_P sc_) 1 52 (0, [some (.inr (.inr (some (1, 0)))), none, none, none, none, none, none], [], S0_) (fun ro9_ => ∃ u_ S1_, ro9_ = (.inl u_, S1_, 0) ∧ vq_52 dd_ F_ S0_ u_ S1_) := by
  have hF_ : ai_fr (sx_W vw_52) S0_ S0_ := ai_fr_rf
  have hD_ : idf dd_ S0_ S0_ := idf_rf
  have g1_ := hg_.1
  have st64_ := pw_le (n := (S0_.1 3 dd_ 2).toNat) (m := 6) (by omega)
  have st0_ := pw_pos (S0_.1 3 dd_ 2).toNat
  refine sm_T_go 3 (c1 := (5, [some (.inr (.inr (some (1, 0)))), none, none, none, none, none, none], [.inl 0, .inr (.inr (some (33, 0)))], S0_)) rfl ?_
  refine sm_T_cal (d1 := 0) (Q1 := vq_2s 0 S0_) rfl rfl (by decide) (vc_2s 0 S0_ hI_ (by decide)) (fun u_ Sx1_ px4_ => ?_)
  obtain ⟨rfl, hIx2_, hFx3_, px4_⟩ := px4_
  have hFx5_ : ai_fr (sx_W vw_52) S0_ Sx1_ := ai_fr_tr hF_ (fr_le hFx3_ rfl)
  have hDx6_ : idf dd_ S0_ Sx1_ := idf_tr hD_ (idf_fr hFx3_ (by decide) (by decide))
  have e5_ := px4_
  have q1_ := hFx3_.1 3 dd_ 1 rfl
  have q2_ := hFx3_.1 3 dd_ 2 rfl
  have q5_ := hFx3_.1 3 dd_ 5 rfl
  have b9_ := hb_
  refine sm_T_go 2 (c1 := (10, [some (.inr (.inr (some (1, 0)))), none, none, none, none, none, none], [.inr (.inr (some (1, 0))), .inl 1], Sx1_)) rfl ?_
  refine sm_T_gr rfl rfl ((hFx5_.2.1 1 0 1 rfl).trans hd_) ?_
  have bx7_ : 0 ≤ Sx1_.1 3 dd_ 2 ∧ Sx1_.1 3 dd_ 2 ≤ 100000 := hIx2_.1 3 dd_ 2 rfl
  refine sm_T_go 1 (c1 := (16, [some (.inr (.inr (some (1, 0)))), none, none, none, none, none, none], [.inl (Sx1_.1 3 dd_ 2), .inl 1], Sx1_)) rfl ?_
  refine sm_T_bin (w := (i_shl 1 (Sx1_.1 3 dd_ 2))) rfl rfl ?_
  have bx8_ : i_shl 1 (Sx1_.1 3 dd_ 2) = 2 ^ (S0_.1 3 dd_ 2).toNat := by rw [q2_]; exact i_shl1 (by omega) (by omega)
  obtain ⟨st9_, hst9_⟩ : ∃ st9_, st9_ = i_shl 1 (Sx1_.1 3 dd_ 2) := ⟨_, rfl⟩
  refine sm_T_go 5 (c1 := (24, [some (.inr (.inr (some (1, 0)))), some (.inl (i_shl 1 (Sx1_.1 3 dd_ 2))), none, none, none, none, none], [.inr (.inr (some (1, 0))), .inl (i_shl 1 (Sx1_.1 3 dd_ 2)), .inr (.inr (some (33, 0)))], Sx1_)) rfl ?_
  refine sm_T_gr rfl rfl ((hFx5_.2.1 1 0 1 rfl).trans hd_) ?_
  have bx10_ : 0 ≤ Sx1_.1 3 dd_ 5 ∧ Sx1_.1 3 dd_ 5 ≤ 63 := hIx2_.1 3 dd_ 5 rfl
  refine sm_T_go 1 (c1 := (30, [some (.inr (.inr (some (1, 0)))), some (.inl (i_shl 1 (Sx1_.1 3 dd_ 2))), none, none, none, none, none], [.inl (Sx1_.1 3 dd_ 5), .inl (i_shl 1 (Sx1_.1 3 dd_ 2)), .inr (.inr (some (33, 0)))], Sx1_)) rfl ?_
  refine sm_T_iast (n := 1013) rfl rfl (by omega) (by omega) ?_
  have hIx11_ : gi (sm_aI Sx1_ 33 0 (i_shl 1 (Sx1_.1 3 dd_ 2)).toNat (Sx1_.1 3 dd_ 5)) := gi_aI hIx2_ (show 0 ≤ (Sx1_.1 3 dd_ 5) ∧ (Sx1_.1 3 dd_ 5) ≤ 1012 from ⟨by omega, by omega⟩)
  have hFx12_ : ai_fr (sx_W vw_52) S0_ (sm_aI Sx1_ 33 0 (i_shl 1 (Sx1_.1 3 dd_ 2)).toNat (Sx1_.1 3 dd_ 5)) := ai_fr_tr hFx5_ (ai_fr_aI rfl)
  have hDx13_ : idf dd_ S0_ (sm_aI Sx1_ 33 0 (i_shl 1 (Sx1_.1 3 dd_ 2)).toNat (Sx1_.1 3 dd_ 5)) := idf_aI hDx6_ (Or.inl (by decide))
  refine sm_T_go 3 (c1 := (36, [some (.inr (.inr (some (1, 0)))), some (.inl (i_shl 1 (Sx1_.1 3 dd_ 2))), none, none, none, none, none], [.inr (.inr (some (1, 0))), .inr (.inr (some (33, 0)))], sm_aI Sx1_ 33 0 (i_shl 1 (Sx1_.1 3 dd_ 2)).toNat (Sx1_.1 3 dd_ 5))) rfl ?_
  refine sm_T_gr rfl rfl ((hFx12_.2.1 1 0 1 rfl).trans hd_) ?_
  refine sm_T_go 2 (c1 := (43, [some (.inr (.inr (some (1, 0)))), some (.inl (i_shl 1 (Sx1_.1 3 dd_ 2))), none, none, none, none, none], [.inl 1, .inl (Sx1_.1 3 dd_ 5), .inr (.inr (some (33, 0)))], sm_aI Sx1_ 33 0 (i_shl 1 (Sx1_.1 3 dd_ 2)).toNat (Sx1_.1 3 dd_ 5))) rfl ?_
  refine sm_T_iast (n := 1013) rfl rfl (by omega) (by omega) ?_
  have hIx14_ : gi (sm_aI (sm_aI Sx1_ 33 0 (i_shl 1 (Sx1_.1 3 dd_ 2)).toNat (Sx1_.1 3 dd_ 5)) 33 0 (Sx1_.1 3 dd_ 5).toNat 1) := gi_aI hIx11_ (show 0 ≤ 1 ∧ 1 ≤ 1012 from ⟨by omega, by omega⟩)
  have hFx15_ : ai_fr (sx_W vw_52) S0_ (sm_aI (sm_aI Sx1_ 33 0 (i_shl 1 (Sx1_.1 3 dd_ 2)).toNat (Sx1_.1 3 dd_ 5)) 33 0 (Sx1_.1 3 dd_ 5).toNat 1) := ai_fr_tr hFx12_ (ai_fr_aI rfl)
  have hDx16_ : idf dd_ S0_ (sm_aI (sm_aI Sx1_ 33 0 (i_shl 1 (Sx1_.1 3 dd_ 2)).toNat (Sx1_.1 3 dd_ 5)) 33 0 (Sx1_.1 3 dd_ 5).toNat 1) := idf_aI hDx13_ (Or.inl (by decide))
  refine sm_T_go 4 (c1 := (48, [some (.inr (.inr (some (1, 0)))), some (.inl (i_shl 1 (Sx1_.1 3 dd_ 2))), some (.inl 1), some (.inl 0), none, none, none], [], sm_aI (sm_aI Sx1_ 33 0 (i_shl 1 (Sx1_.1 3 dd_ 2)).toNat (Sx1_.1 3 dd_ 5)) 33 0 (Sx1_.1 3 dd_ 5).toNat 1)) rfl ?_
  refine (vl_52 dd_ F_ S0_ hd_ hg_ hr_ ht_ hb_ _).1 (i_shl 1 (Sx1_.1 3 dd_ 2)) 1 0 (sm_aI (sm_aI Sx1_ 33 0 (i_shl 1 (Sx1_.1 3 dd_ 2)).toNat (Sx1_.1 3 dd_ 5)) 33 0 (Sx1_.1 3 dd_ 5).toNat 1) hIx14_ hFx15_ ⟨?_, ?_, ?_, ?_, ?_, ?_, trivial⟩ (Nat.lt_succ_self _)
  · omega
  · intro j9_ hj9_
    (try simp only [rd_eq, rd_ne, rf_eq, rf_nk, rf_nt, rd_fa, rd_af, rd_fl, rd_al, rd_lf, rd_la, rd_leq, rd_lne, rd_fr, rd_ar, ne_eq, Nat.reduceEqDiff, not_false_eq_true])
    split
    · right; rfl
    · split
      · exfalso; omega
      · left; exact e5_ j9_ (by omega)
  · intro j9_ hj9_
    (try simp only [rd_eq, rd_ne, rf_eq, rf_nk, rf_nt, rd_fa, rd_af, rd_fl, rd_al, rd_lf, rd_la, rd_leq, rd_lne, rd_fr, rd_ar, ne_eq, Nat.reduceEqDiff, not_false_eq_true])
    rw [if_neg (by omega), if_pos (by omega)]
    omega
  · rw [← hst9_]
    have c9_ := cn1_one (f := fun k9_ : Nat => if k9_ = (S0_.1 3 dd_ 5).toNat then (1 : Int) else 0) (j := (S0_.1 3 dd_ 5).toNat) (by intro k9_; constructor; (intro z9_; by_cases y9_ : k9_ = (S0_.1 3 dd_ 5).toNat; exact y9_; (rw [if_neg y9_] at z9_; exact absurd z9_ (by decide))); (intro z9_; exact if_pos z9_)) st9_.toNat
    rw [if_pos (by omega)] at c9_
    rw [cn1_cg (g := fun k9_ : Nat => if k9_ = (S0_.1 3 dd_ 5).toNat then (1 : Int) else 0) (fun k9_ hk9_ => ?_), c9_]
    · rfl
    · (try dsimp only)
      (try simp only [rd_eq, rd_ne, rf_eq, rf_nk, rf_nt, rd_fa, rd_af, rd_fl, rd_al, rd_lf, rd_la, rd_leq, rd_lne, rd_fr, rd_ar, ne_eq, Nat.reduceEqDiff, not_false_eq_true])
      by_cases z9_ : k9_ = (S0_.1 3 dd_ 5).toNat
      · rw [if_pos (by omega), if_pos z9_]
      · rw [if_neg (by omega), if_neg (by omega), if_neg z9_]; exact e5_ k9_ (by omega)
  · omega
  · exact hDx16_
