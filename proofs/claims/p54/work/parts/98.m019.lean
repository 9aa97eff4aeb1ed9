/-! 99.zp3b -/
section
/-! ChipFlow.compare -/
def vw_276s : sx_Wl := ([(12, 16)], [113, 114, 115, 117], [])
def vq_276s (bg_ : Int) (mk_ : Int) (dd_ : Nat) (R1_ : Nat) (S0_ : sm_S) (u_ : Option sm_V) (S1_ : sm_S) : Prop := ∃ v_ : Int, u_ = some (.inl v_) ∧ gi S1_ ∧ ai_fr (sx_W vw_276s) S0_ S1_ ∧ (True)
set_option maxHeartbeats 2000000 in
set_option maxRecDepth 20000 in
theorem vl_276s {sc_ : Nat × (Nat → Int)} (bg_ : Int) (mk_ : Int) (dd_ : Nat) (R1_ : Nat) (S0_ : sm_S) (hd_ : dOk dd_ S0_) (hb_ : 0 ≤ bg_ ∧ bg_ < 2 ^ R1_) (hr_ : R1_ ≤ 6 ∧ (R1_ : Int) + S0_.1 3 dd_ 1 ≤ 12) (ht_ : ∀ p9_ : Nat, p9_ < 4096 → 0 ≤ S0_.2.2.1 116 0 p9_ ∧ S0_.2.2.1 116 0 p9_ < 2 ^ (16 + R1_)) : ∀ nn_ : Nat, (∀ (ip9_ : Int) (tl_ : Int) (hd9_ : Int) (S_ : sm_S), gi S_ → ai_fr (sx_W vw_276s) S0_ S_ → ((prf S_) ∧ (∀ j9_ : Nat, (j9_ : Int) < tl_ → S_.2.2.1 113 0 (S_.2.2.1 115 0 j9_).toNat ≠ -2 ∧ S_.2.2.1 115 0 j9_ / 64 < 2 ^ R1_ ∧ S_.2.2.1 115 0 j9_ % 64 < 2 ^ (S0_.1 3 dd_ 2).toNat) ∧ (tl_ = (cn1 (pn2 (S_.2.2.1 113 0)) 4096 : Int)) ∧ (1 ≤ tl_ ∧ 0 ≤ hd9_ ∧ hd9_ ≤ 4096 ∧ ip9_ = S0_.1 3 dd_ 1) ∧ True) → ((10000 * (5000 - hd9_) + 5000).toNat) < nn_ → sm_T (mt_P sc_) 1 276 (53, [some (.inr (.inr (some (12, 0)))), some (.inr (.inr (some (116, 0)))), some (.inl bg_), some (.inr (.inr (some (3, dd_)))), some (.inl mk_), some (.inl ip9_), none, some (.inl tl_), some (.inl hd9_), none, none, none, none, none, none, none], [], S_) (fun ro9_ => ∃ u_ S1_, ro9_ = (.inl u_, S1_, 0) ∧ vq_276s bg_ mk_ dd_ R1_ S0_ u_ S1_)) ∧ (∀ (ip9_ : Int) (tl_ : Int) (hd9_ : Int) (pr_ : Int) (he_ : Int) (te_ : Int) (ip_ : Int) (S_ : sm_S), gi S_ → ai_fr (sx_W vw_276s) S0_ S_ → ((prf S_) ∧ (∀ j9_ : Nat, (j9_ : Int) < tl_ → S_.2.2.1 113 0 (S_.2.2.1 115 0 j9_).toNat ≠ -2 ∧ S_.2.2.1 115 0 j9_ / 64 < 2 ^ R1_ ∧ S_.2.2.1 115 0 j9_ % 64 < 2 ^ (S0_.1 3 dd_ 2).toNat) ∧ (tl_ = (cn1 (pn2 (S_.2.2.1 113 0)) 4096 : Int)) ∧ (1 ≤ tl_ ∧ 0 ≤ hd9_ ∧ hd9_ < 4096 ∧ ip9_ = S0_.1 3 dd_ 1 ∧ 0 ≤ ip_ ∧ ip_ ≤ 4096 ∧ 0 ≤ pr_ ∧ pr_ ≤ 4095) ∧ (he_ = i_shl (pr_ / 64) ip9_ ∧ te_ = i_shl (pr_ % 64) ip9_) ∧ (S_.2.2.1 113 0 pr_.toNat ≠ -2 ∧ pr_ / 64 < 2 ^ R1_ ∧ pr_ % 64 < 2 ^ (S0_.1 3 dd_ 2).toNat) ∧ True) → ((10000 * (5000 - hd9_) + 4500 - ip_).toNat) < nn_ → sm_T (mt_P sc_) 1 276 (100, [some (.inr (.inr (some (12, 0)))), some (.inr (.inr (some (116, 0)))), some (.inl bg_), some (.inr (.inr (some (3, dd_)))), some (.inl mk_), some (.inl ip9_), none, some (.inl tl_), some (.inl hd9_), some (.inl pr_), some (.inl he_), some (.inl te_), some (.inl ip_), none, none, none], [], S_) (fun ro9_ => ∃ u_ S1_, ro9_ = (.inl u_, S1_, 0) ∧ vq_276s bg_ mk_ dd_ R1_ S0_ u_ S1_)) := by
  intro nn_
  induction nn_ with
  | zero => exact ⟨fun _ _ _ _ _ _ _ h_ => absurd h_ (Nat.not_lt_zero _), fun _ _ _ _ _ _ _ _ _ _ _ h_ => absurd h_ (Nat.not_lt_zero _)⟩
  | succ nn_ ih_ =>
    refine ⟨?_, ?_⟩
    · rintro ip9_ tl_ hd9_ S_ hI_ hF_ ⟨hp_, hq_, hc_, h0_, -⟩ hm_
      have J9_ := dOk_b hd_
      have J9a := J9_.1
      have J9b := J9_.2.1
      have J9c := J9_.2.2.1
      have J9t := J9_.2.2.2.2
      have wa_ := pw_le (n := R1_) (m := 6) (by omega)
      have wb_ := pw_le (n := (S0_.1 3 dd_ 2).toNat) (m := 6) (by omega)
      have wc_ := pw_pos R1_
      have wd_ := pw_pos (S0_.1 3 dd_ 2).toNat
      have fT_ : S_.2.2.1 116 0 = S0_.2.2.1 116 0 := fr_arr hF_ rfl
      have f47_ : S_.2.2.1 47 (0 + dd_) = S0_.2.2.1 47 (0 + dd_) := fr_arr hF_ rfl
      have cl9_ := cn1_le (pn2 (S_.2.2.1 113 0)) 4096
      refine sm_T_go 2 (c1 := (57, [some (.inr (.inr (some (12, 0)))), some (.inr (.inr (some (116, 0)))), some (.inl bg_), some (.inr (.inr (some (3, dd_)))), some (.inl mk_), some (.inl ip9_), none, some (.inl tl_), some (.inl hd9_), none, none, none, none, none, none, none], [.inl tl_, .inl hd9_], S_)) rfl ?_
      refine sm_T_br (a := 3) (z := 167) rfl (fun cx1_ => ?_) (fun cx1_ => ?_)
      · have cx1_ : tl_ ≤ hd9_ := of_decide_eq_true cx1_
        refine sm_T_go 1 (c1 := (225, [some (.inr (.inr (some (12, 0)))), some (.inr (.inr (some (116, 0)))), some (.inl bg_), some (.inr (.inr (some (3, dd_)))), some (.inl mk_), some (.inl ip9_), none, some (.inl tl_), some (.inl hd9_), none, none, none, none, none, none, none], [.inl 0], S_)) rfl ?_
        refine sm_T_ri rfl ⟨_, _, rfl, _, rfl, hI_, hF_, ?_⟩
        trivial
      · have cx1_ : ¬ (tl_ ≤ hd9_) := of_decide_eq_false cx1_
        refine sm_T_go 2 (c1 := (65, [some (.inr (.inr (some (12, 0)))), some (.inr (.inr (some (116, 0)))), some (.inl bg_), some (.inr (.inr (some (3, dd_)))), some (.inl mk_), some (.inl ip9_), none, some (.inl tl_), some (.inl hd9_), none, none, none, none, none, none, none], [.inl 4096, .inl hd9_], S_)) rfl ?_
        refine sm_T_br (a := 3) (z := 159) rfl (fun cx2_ => ?_) (fun cx2_ => ?_)
        · have cx2_ : 4096 ≤ hd9_ := of_decide_eq_true cx2_
          refine sm_T_go 1 (c1 := (225, [some (.inr (.inr (some (12, 0)))), some (.inr (.inr (some (116, 0)))), some (.inl bg_), some (.inr (.inr (some (3, dd_)))), some (.inl mk_), some (.inl ip9_), none, some (.inl tl_), some (.inl hd9_), none, none, none, none, none, none, none], [.inl 0], S_)) rfl ?_
          refine sm_T_ri rfl ⟨_, _, rfl, _, rfl, hI_, hF_, ?_⟩
          trivial
        · have cx2_ : ¬ (4096 ≤ hd9_) := of_decide_eq_false cx2_
          have hq9_ := hq_ hd9_.toNat (by omega)
          have qc9_ := hI_.2 115 0 hd9_.toNat
          refine sm_T_go 3 (c1 := (74, [some (.inr (.inr (some (12, 0)))), some (.inr (.inr (some (116, 0)))), some (.inl bg_), some (.inr (.inr (some (3, dd_)))), some (.inl mk_), some (.inl ip9_), none, some (.inl tl_), some (.inl hd9_), none, none, none, none, none, none, none], [.inl hd9_, .inr (.inr (some (115, 0)))], S_)) rfl ?_
          refine sm_T_iald (n := 4096) rfl rfl (by omega) (by omega) ?_
          have bx3_ : 0 ≤ S_.2.2.1 115 0 hd9_.toNat ∧ S_.2.2.1 115 0 hd9_.toNat ≤ 4095 := hI_.2 115 0 _
          refine sm_T_go 3 (c1 := (81, [some (.inr (.inr (some (12, 0)))), some (.inr (.inr (some (116, 0)))), some (.inl bg_), some (.inr (.inr (some (3, dd_)))), some (.inl mk_), some (.inl ip9_), none, some (.inl tl_), some (.inl hd9_), some (.inl (S_.2.2.1 115 0 hd9_.toNat)), none, none, none, none, none, none], [.inl 6, .inl (S_.2.2.1 115 0 hd9_.toNat)], S_)) rfl ?_
          refine sm_T_bin (w := ((S_.2.2.1 115 0 hd9_.toNat) / 64)) rfl (bi_shr (k := 6) (by decide) (by omega) (by omega)) ?_ -- pc_ 81
          refine sm_T_go 1 (c1 := (84, [some (.inr (.inr (some (12, 0)))), some (.inr (.inr (some (116, 0)))), some (.inl bg_), some (.inr (.inr (some (3, dd_)))), some (.inl mk_), some (.inl ip9_), none, some (.inl tl_), some (.inl hd9_), some (.inl (S_.2.2.1 115 0 hd9_.toNat)), none, none, none, none, none, none], [.inl ip9_, .inl ((S_.2.2.1 115 0 hd9_.toNat) / 64)], S_)) rfl ?_
          refine sm_T_bin (w := (i_shl ((S_.2.2.1 115 0 hd9_.toNat) / 64) ip9_)) rfl rfl ?_ -- pc_ 84
          refine sm_T_go 3 (c1 := (91, [some (.inr (.inr (some (12, 0)))), some (.inr (.inr (some (116, 0)))), some (.inl bg_), some (.inr (.inr (some (3, dd_)))), some (.inl mk_), some (.inl ip9_), none, some (.inl tl_), some (.inl hd9_), some (.inl (S_.2.2.1 115 0 hd9_.toNat)), some (.inl (i_shl ((S_.2.2.1 115 0 hd9_.toNat) / 64) ip9_)), none, none, none, none, none], [.inl 63, .inl (S_.2.2.1 115 0 hd9_.toNat)], S_)) rfl ?_
          refine sm_T_bin (w := ((S_.2.2.1 115 0 hd9_.toNat) % 64)) rfl (bi_msk (k := 6) (by decide)) ?_ -- pc_ 91
          refine sm_T_go 1 (c1 := (94, [some (.inr (.inr (some (12, 0)))), some (.inr (.inr (some (116, 0)))), some (.inl bg_), some (.inr (.inr (some (3, dd_)))), some (.inl mk_), some (.inl ip9_), none, some (.inl tl_), some (.inl hd9_), some (.inl (S_.2.2.1 115 0 hd9_.toNat)), some (.inl (i_shl ((S_.2.2.1 115 0 hd9_.toNat) / 64) ip9_)), none, none, none, none, none], [.inl ip9_, .inl ((S_.2.2.1 115 0 hd9_.toNat) % 64)], S_)) rfl ?_
          refine sm_T_bin (w := (i_shl ((S_.2.2.1 115 0 hd9_.toNat) % 64) ip9_)) rfl rfl ?_ -- pc_ 94
          refine sm_T_go 3 (c1 := (100, [some (.inr (.inr (some (12, 0)))), some (.inr (.inr (some (116, 0)))), some (.inl bg_), some (.inr (.inr (some (3, dd_)))), some (.inl mk_), some (.inl ip9_), none, some (.inl tl_), some (.inl hd9_), some (.inl (S_.2.2.1 115 0 hd9_.toNat)), some (.inl (i_shl ((S_.2.2.1 115 0 hd9_.toNat) / 64) ip9_)), some (.inl (i_shl ((S_.2.2.1 115 0 hd9_.toNat) % 64) ip9_)), some (.inl 0), none, none, none], [], S_)) rfl ?_
          refine ih_.2 ip9_ tl_ hd9_ (S_.2.2.1 115 0 hd9_.toNat) (i_shl ((S_.2.2.1 115 0 hd9_.toNat) / 64) ip9_) (i_shl ((S_.2.2.1 115 0 hd9_.toNat) % 64) ip9_) 0 S_ hI_ hF_ ⟨?_, ?_, ?_, ?_, ?_, ?_, trivial⟩ ?_
          · exact hp_
          · exact hq_
          · exact hc_
          · omega
          · exact ⟨rfl, rfl⟩
          · exact hq9_
          · omega
    · rintro ip9_ tl_ hd9_ pr_ he_ te_ ip_ S_ hI_ hF_ ⟨hp_, hq_, hc_, h0_, hh_, hz_, -⟩ hm_
      have J9_ := dOk_b hd_
      have J9a := J9_.1
      have J9b := J9_.2.1
      have J9c := J9_.2.2.1
      have J9t := J9_.2.2.2.2
      have wa_ := pw_le (n := R1_) (m := 6) (by omega)
      have wb_ := pw_le (n := (S0_.1 3 dd_ 2).toNat) (m := 6) (by omega)
      have wc_ := pw_pos R1_
      have wd_ := pw_pos (S0_.1 3 dd_ 2).toNat
      have fT_ : S_.2.2.1 116 0 = S0_.2.2.1 116 0 := fr_arr hF_ rfl
      have f47_ : S_.2.2.1 47 (0 + dd_) = S0_.2.2.1 47 (0 + dd_) := fr_arr hF_ rfl
      have cl9_ := cn1_le (pn2 (S_.2.2.1 113 0)) 4096
      refine sm_T_go 3 (c1 := (105, [some (.inr (.inr (some (12, 0)))), some (.inr (.inr (some (116, 0)))), some (.inl bg_), some (.inr (.inr (some (3, dd_)))), some (.inl mk_), some (.inl ip9_), none, some (.inl tl_), some (.inl hd9_), some (.inl pr_), some (.inl he_), some (.inl te_), some (.inl ip_), none, none, none], [.inl ip9_, .inl 1, .inl ip_], S_)) rfl ?_
      refine sm_T_bin (w := (i_shl 1 ip9_)) rfl rfl ?_ -- pc_ 105
      have bx1_ := i_shl1 (e := ip9_) (by omega) (by omega)
      have wp_ := pw_le (n := (ip9_).toNat) (m := 12) (by omega)
      have wp0_ := pw_pos (ip9_).toNat
      have wp1_ : (2 : Int) ^ (ip9_).toNat = 2 ^ (S0_.1 3 dd_ 1).toNat := by rw [show ip9_ = S0_.1 3 dd_ 1 by omega]
      refine sm_T_br (a := 3) (z := 112) rfl (fun cx5_ => ?_) (fun cx5_ => ?_)
      · have cx5_ : (i_shl 1 ip9_) ≤ ip_ := of_decide_eq_true cx5_
        refine sm_T_inc (a := 8) (z := 1) (v := hd9_) (w := hd9_ + 1) rfl rfl (by omega) (by omega) (by omega) ?_ -- pc_ 218
        refine sm_T_go 1 (c1 := (53, [some (.inr (.inr (some (12, 0)))), some (.inr (.inr (some (116, 0)))), some (.inl bg_), some (.inr (.inr (some (3, dd_)))), some (.inl mk_), some (.inl ip9_), none, some (.inl tl_), some (.inl (hd9_ + 1)), some (.inl pr_), some (.inl he_), some (.inl te_), some (.inl ip_), none, none, none], [], S_)) rfl ?_
        refine sm_T_wk [some (.inr (.inr (some (12, 0)))), some (.inr (.inr (some (116, 0)))), some (.inl bg_), some (.inr (.inr (some (3, dd_)))), some (.inl mk_), some (.inl ip9_), none, some (.inl tl_), some (.inl (hd9_ + 1)), none, none, none, none, none, none, none] (by exact ⟨rfl, rfl, rfl, rfl, rfl, rfl, rfl, rfl, trivial⟩) ?_
        refine ih_.1 ip9_ tl_ (hd9_ + 1) S_ hI_ hF_ ⟨?_, ?_, ?_, ?_, trivial⟩ ?_
        · exact hp_
        · exact hq_
        · exact hc_
        · omega
        · omega
      · have cx5_ : ¬ ((i_shl 1 ip9_) ≤ ip_) := of_decide_eq_false cx5_
        have p1_ := pat_b (s_ := pr_ / 64) (i_ := ip_) (R_ := R1_) (I_ := (S0_.1 3 dd_ 1).toNat) (by omega) (by omega) (by omega)
        have p2_ := pat_b (s_ := pr_ % 64) (i_ := ip_) (R_ := (S0_.1 3 dd_ 2).toNat) (I_ := (S0_.1 3 dd_ 1).toNat) (by omega) (by omega) (by omega)
        have p3_ := pw_le (n := R1_ + (S0_.1 3 dd_ 1).toNat) (m := 12) (by omega)
        have p4_ := pw_le (n := (S0_.1 3 dd_ 2).toNat + (S0_.1 3 dd_ 1).toNat) (m := 12) (by omega)
        rw [show (((S0_.1 3 dd_ 1).toNat : Nat) : Int) = ip9_ by omega, ← hh_.1] at p1_
        rw [show (((S0_.1 3 dd_ 1).toNat : Nat) : Int) = ip9_ by omega, ← hh_.2] at p2_
        have t1_ := ht_ (i_or he_ ip_).toNat (by omega)
        have t2_ := J9t (i_or te_ ip_).toNat (by omega)
        rw [← fT_] at t1_
        rw [← f47_] at t2_
        have n1_ := shr16 t1_
        have n2_ := shr16 t2_
        have o9_ := or64 (a_ := S_.2.2.1 116 0 (i_or he_ ip_).toNat / 65536) (b_ := S_.2.2.1 47 (0 + dd_) (i_or te_ ip_).toNat / 65536) (by omega) (by omega)
        refine sm_T_go 3 (c1 := (114, [some (.inr (.inr (some (12, 0)))), some (.inr (.inr (some (116, 0)))), some (.inl bg_), some (.inr (.inr (some (3, dd_)))), some (.inl mk_), some (.inl ip9_), none, some (.inl tl_), some (.inl hd9_), some (.inl pr_), some (.inl he_), some (.inl te_), some (.inl ip_), none, none, none], [.inl ip_, .inl he_, .inr (.inr (some (116, 0)))], S_)) rfl ?_
        refine sm_T_bin (w := (i_or he_ ip_)) rfl rfl ?_ -- pc_ 114
        refine sm_T_iald (n := 4096) rfl rfl (by omega) (by omega) ?_
        have bx6_ : 0 ≤ S_.2.2.1 116 0 (i_or he_ ip_).toNat ∧ S_.2.2.1 116 0 (i_or he_ ip_).toNat ≤ 0 := hI_.2 116 0 _
        refine sm_T_go 5 (c1 := (126, [some (.inr (.inr (some (12, 0)))), some (.inr (.inr (some (116, 0)))), some (.inl bg_), some (.inr (.inr (some (3, dd_)))), some (.inl mk_), some (.inl ip9_), none, some (.inl tl_), some (.inl hd9_), some (.inl pr_), some (.inl he_), some (.inl te_), some (.inl ip_), some (.inl (S_.2.2.1 116 0 (i_or he_ ip_).toNat)), none, none], [.inl ip_, .inl te_, .inr (.inr (some (47, (0 + dd_))))], S_)) rfl ?_
        refine sm_T_bin (w := (i_or te_ ip_)) rfl rfl ?_ -- pc_ 126
        refine sm_T_iald (n := 4096) rfl rfl (by omega) (by omega) ?_
        have bx7_ : 0 ≤ S_.2.2.1 47 (0 + dd_) (i_or te_ ip_).toNat ∧ S_.2.2.1 47 (0 + dd_) (i_or te_ ip_).toNat ≤ 4194303 := hI_.2 47 (0 + dd_) _
        refine sm_T_go 3 (c1 := (134, [some (.inr (.inr (some (12, 0)))), some (.inr (.inr (some (116, 0)))), some (.inl bg_), some (.inr (.inr (some (3, dd_)))), some (.inl mk_), some (.inl ip9_), none, some (.inl tl_), some (.inl hd9_), some (.inl pr_), some (.inl he_), some (.inl te_), some (.inl ip_), some (.inl (S_.2.2.1 116 0 (i_or he_ ip_).toNat)), some (.inl (S_.2.2.1 47 (0 + dd_) (i_or te_ ip_).toNat)), none], [.inl (S_.2.2.1 47 (0 + dd_) (i_or te_ ip_).toNat), .inl (S_.2.2.1 116 0 (i_or he_ ip_).toNat)], S_)) rfl ?_
        refine sm_T_bin (w := (i_xor (S_.2.2.1 116 0 (i_or he_ ip_).toNat) (S_.2.2.1 47 (0 + dd_) (i_or te_ ip_).toNat))) rfl rfl ?_ -- pc_ 134
        refine sm_T_go 1 (c1 := (137, [some (.inr (.inr (some (12, 0)))), some (.inr (.inr (some (116, 0)))), some (.inl bg_), some (.inr (.inr (some (3, dd_)))), some (.inl mk_), some (.inl ip9_), none, some (.inl tl_), some (.inl hd9_), some (.inl pr_), some (.inl he_), some (.inl te_), some (.inl ip_), some (.inl (S_.2.2.1 116 0 (i_or he_ ip_).toNat)), some (.inl (S_.2.2.1 47 (0 + dd_) (i_or te_ ip_).toNat)), none], [.inl mk_, .inl (i_xor (S_.2.2.1 116 0 (i_or he_ ip_).toNat) (S_.2.2.1 47 (0 + dd_) (i_or te_ ip_).toNat))], S_)) rfl ?_
        refine sm_T_bin (w := (i_and (i_xor (S_.2.2.1 116 0 (i_or he_ ip_).toNat) (S_.2.2.1 47 (0 + dd_) (i_or te_ ip_).toNat)) mk_)) rfl rfl ?_ -- pc_ 137
        refine sm_T_b0 (a := 0) (z := 16) rfl (fun cx8_ => ?_) (fun cx8_ => ?_)
        · have cx8_ : (i_and (i_xor (S_.2.2.1 116 0 (i_or he_ ip_).toNat) (S_.2.2.1 47 (0 + dd_) (i_or te_ ip_).toNat)) mk_) = 0 := of_decide_eq_true cx8_
          refine sm_T_go 2 (c1 := (158, [some (.inr (.inr (some (12, 0)))), some (.inr (.inr (some (116, 0)))), some (.inl bg_), some (.inr (.inr (some (3, dd_)))), some (.inl mk_), some (.inl ip9_), none, some (.inl tl_), some (.inl hd9_), some (.inl pr_), some (.inl he_), some (.inl te_), some (.inl ip_), some (.inl (S_.2.2.1 116 0 (i_or he_ ip_).toNat)), some (.inl (S_.2.2.1 47 (0 + dd_) (i_or te_ ip_).toNat)), none], [.inl 16, .inl (S_.2.2.1 116 0 (i_or he_ ip_).toNat)], S_)) rfl ?_
          refine sm_T_bin (w := ((S_.2.2.1 116 0 (i_or he_ ip_).toNat) / 65536)) rfl (bi_shr (k := 16) (by decide) (by omega) (by omega)) ?_ -- pc_ 158
          refine sm_T_go 1 (c1 := (161, [some (.inr (.inr (some (12, 0)))), some (.inr (.inr (some (116, 0)))), some (.inl bg_), some (.inr (.inr (some (3, dd_)))), some (.inl mk_), some (.inl ip9_), none, some (.inl tl_), some (.inl hd9_), some (.inl pr_), some (.inl he_), some (.inl te_), some (.inl ip_), some (.inl (S_.2.2.1 116 0 (i_or he_ ip_).toNat)), some (.inl (S_.2.2.1 47 (0 + dd_) (i_or te_ ip_).toNat)), none], [.inl 6, .inl ((S_.2.2.1 116 0 (i_or he_ ip_).toNat) / 65536)], S_)) rfl ?_
          refine sm_T_bin (w := 64 * ((S_.2.2.1 116 0 (i_or he_ ip_).toNat) / 65536)) rfl (bi_shl (k := 6) (by decide) (by omega) (by omega) (by omega)) ?_ -- pc_ 161
          refine sm_T_go 2 (c1 := (166, [some (.inr (.inr (some (12, 0)))), some (.inr (.inr (some (116, 0)))), some (.inl bg_), some (.inr (.inr (some (3, dd_)))), some (.inl mk_), some (.inl ip9_), none, some (.inl tl_), some (.inl hd9_), some (.inl pr_), some (.inl he_), some (.inl te_), some (.inl ip_), some (.inl (S_.2.2.1 116 0 (i_or he_ ip_).toNat)), some (.inl (S_.2.2.1 47 (0 + dd_) (i_or te_ ip_).toNat)), none], [.inl 16, .inl (S_.2.2.1 47 (0 + dd_) (i_or te_ ip_).toNat), .inl (64 * ((S_.2.2.1 116 0 (i_or he_ ip_).toNat) / 65536))], S_)) rfl ?_
          refine sm_T_bin (w := ((S_.2.2.1 47 (0 + dd_) (i_or te_ ip_).toNat) / 65536)) rfl (bi_shr (k := 16) (by decide) (by omega) (by omega)) ?_ -- pc_ 166
          refine sm_T_bin (w := (i_or (64 * ((S_.2.2.1 116 0 (i_or he_ ip_).toNat) / 65536)) ((S_.2.2.1 47 (0 + dd_) (i_or te_ ip_).toNat) / 65536))) rfl rfl ?_ -- pc_ 167
          refine sm_T_go 4 (c1 := (176, [some (.inr (.inr (some (12, 0)))), some (.inr (.inr (some (116, 0)))), some (.inl bg_), some (.inr (.inr (some (3, dd_)))), some (.inl mk_), some (.inl ip9_), none, some (.inl tl_), some (.inl hd9_), some (.inl pr_), some (.inl he_), some (.inl te_), some (.inl ip_), some (.inl (S_.2.2.1 116 0 (i_or he_ ip_).toNat)), some (.inl (S_.2.2.1 47 (0 + dd_) (i_or te_ ip_).toNat)), some (.inl (i_or (64 * ((S_.2.2.1 116 0 (i_or he_ ip_).toNat) / 65536)) ((S_.2.2.1 47 (0 + dd_) (i_or te_ ip_).toNat) / 65536)))], [.inl (i_or (64 * ((S_.2.2.1 116 0 (i_or he_ ip_).toNat) / 65536)) ((S_.2.2.1 47 (0 + dd_) (i_or te_ ip_).toNat) / 65536)), .inr (.inr (some (113, 0)))], S_)) rfl ?_
          refine sm_T_iald (n := 4096) rfl rfl (by omega) (by omega) ?_
          have bx9_ : (-2) ≤ S_.2.2.1 113 0 (i_or (64 * ((S_.2.2.1 116 0 (i_or he_ ip_).toNat) / 65536)) ((S_.2.2.1 47 (0 + dd_) (i_or te_ ip_).toNat) / 65536)).toNat ∧ S_.2.2.1 113 0 (i_or (64 * ((S_.2.2.1 116 0 (i_or he_ ip_).toNat) / 65536)) ((S_.2.2.1 47 (0 + dd_) (i_or te_ ip_).toNat) / 65536)).toNat ≤ 4095 := hI_.2 113 0 _
          refine sm_T_go 1 (c1 := (179, [some (.inr (.inr (some (12, 0)))), some (.inr (.inr (some (116, 0)))), some (.inl bg_), some (.inr (.inr (some (3, dd_)))), some (.inl mk_), some (.inl ip9_), none, some (.inl tl_), some (.inl hd9_), some (.inl pr_), some (.inl he_), some (.inl te_), some (.inl ip_), some (.inl (S_.2.2.1 116 0 (i_or he_ ip_).toNat)), some (.inl (S_.2.2.1 47 (0 + dd_) (i_or te_ ip_).toNat)), some (.inl (i_or (64 * ((S_.2.2.1 116 0 (i_or he_ ip_).toNat) / 65536)) ((S_.2.2.1 47 (0 + dd_) (i_or te_ ip_).toNat) / 65536)))], [.inl (-2), .inl (S_.2.2.1 113 0 (i_or (64 * ((S_.2.2.1 116 0 (i_or he_ ip_).toNat) / 65536)) ((S_.2.2.1 47 (0 + dd_) (i_or te_ ip_).toNat) / 65536)).toNat)], S_)) rfl ?_
          refine sm_T_br (a := 1) (z := 33) rfl (fun cx10_ => ?_) (fun cx10_ => ?_)
          · have cx10_ : (S_.2.2.1 113 0 (i_or (64 * ((S_.2.2.1 116 0 (i_or he_ ip_).toNat) / 65536)) ((S_.2.2.1 47 (0 + dd_) (i_or te_ ip_).toNat) / 65536)).toNat) ≠ (-2) := of_decide_eq_true cx10_
            refine sm_T_inc (a := 12) (z := 1) (v := ip_) (w := ip_ + 1) rfl rfl (by omega) (by omega) (by omega) ?_ -- pc_ 212
            refine sm_T_go 1 (c1 := (100, [some (.inr (.inr (some (12, 0)))), some (.inr (.inr (some (116, 0)))), some (.inl bg_), some (.inr (.inr (some (3, dd_)))), some (.inl mk_), some (.inl ip9_), none, some (.inl tl_), some (.inl hd9_), some (.inl pr_), some (.inl he_), some (.inl te_), some (.inl (ip_ + 1)), some (.inl (S_.2.2.1 116 0 (i_or he_ ip_).toNat)), some (.inl (S_.2.2.1 47 (0 + dd_) (i_or te_ ip_).toNat)), some (.inl (i_or (64 * ((S_.2.2.1 116 0 (i_or he_ ip_).toNat) / 65536)) ((S_.2.2.1 47 (0 + dd_) (i_or te_ ip_).toNat) / 65536)))], [], S_)) rfl ?_
            refine sm_T_wk [some (.inr (.inr (some (12, 0)))), some (.inr (.inr (some (116, 0)))), some (.inl bg_), some (.inr (.inr (some (3, dd_)))), some (.inl mk_), some (.inl ip9_), none, some (.inl tl_), some (.inl hd9_), some (.inl pr_), some (.inl he_), some (.inl te_), some (.inl (ip_ + 1)), none, none, none] (by exact ⟨rfl, rfl, rfl, rfl, rfl, rfl, rfl, rfl, rfl, rfl, rfl, rfl, trivial⟩) ?_
            refine ih_.2 ip9_ tl_ hd9_ pr_ he_ te_ (ip_ + 1) S_ hI_ hF_ ⟨?_, ?_, ?_, ?_, ?_, ?_, trivial⟩ ?_
            · exact hp_
            · exact hq_
            · exact hc_
            · omega
            · exact hh_
            · exact hz_
            · omega
          · have cx10_ : ¬ ((S_.2.2.1 113 0 (i_or (64 * ((S_.2.2.1 116 0 (i_or he_ ip_).toNat) / 65536)) ((S_.2.2.1 47 (0 + dd_) (i_or te_ ip_).toNat) / 65536)).toNat) ≠ (-2)) := of_decide_eq_false cx10_
            have lt9_ := cn1_lt (f := pn2 (S_.2.2.1 113 0)) (j := (i_or (64 * (S_.2.2.1 116 0 (i_or he_ ip_).toNat / 65536)) (S_.2.2.1 47 (0 + dd_) (i_or te_ ip_).toNat / 65536)).toNat) (fun y9_ => absurd (pn2_1.mp y9_) cx10_) (n := 4096) (by omega)
            refine sm_T_go 4 (c1 := (190, [some (.inr (.inr (some (12, 0)))), some (.inr (.inr (some (116, 0)))), some (.inl bg_), some (.inr (.inr (some (3, dd_)))), some (.inl mk_), some (.inl ip9_), none, some (.inl tl_), some (.inl hd9_), some (.inl pr_), some (.inl he_), some (.inl te_), some (.inl ip_), some (.inl (S_.2.2.1 116 0 (i_or he_ ip_).toNat)), some (.inl (S_.2.2.1 47 (0 + dd_) (i_or te_ ip_).toNat)), some (.inl (i_or (64 * ((S_.2.2.1 116 0 (i_or he_ ip_).toNat) / 65536)) ((S_.2.2.1 47 (0 + dd_) (i_or te_ ip_).toNat) / 65536)))], [.inl pr_, .inl (i_or (64 * ((S_.2.2.1 116 0 (i_or he_ ip_).toNat) / 65536)) ((S_.2.2.1 47 (0 + dd_) (i_or te_ ip_).toNat) / 65536)), .inr (.inr (some (113, 0)))], S_)) rfl ?_
            refine sm_T_iast (n := 4096) rfl rfl (by omega) (by omega) ?_
            have hIx11_ : gi (sm_aI S_ 113 0 (i_or (64 * ((S_.2.2.1 116 0 (i_or he_ ip_).toNat) / 65536)) ((S_.2.2.1 47 (0 + dd_) (i_or te_ ip_).toNat) / 65536)).toNat pr_) := gi_aI hI_ (show (-2) ≤ pr_ ∧ pr_ ≤ 4095 from ⟨by omega, by omega⟩)
            have hFx12_ : ai_fr (sx_W vw_276s) S0_ (sm_aI S_ 113 0 (i_or (64 * ((S_.2.2.1 116 0 (i_or he_ ip_).toNat) / 65536)) ((S_.2.2.1 47 (0 + dd_) (i_or te_ ip_).toNat) / 65536)).toNat pr_) := ai_fr_tr hF_ (ai_fr_aI rfl)
            refine sm_T_go 4 (c1 := (199, [some (.inr (.inr (some (12, 0)))), some (.inr (.inr (some (116, 0)))), some (.inl bg_), some (.inr (.inr (some (3, dd_)))), some (.inl mk_), some (.inl ip9_), none, some (.inl tl_), some (.inl hd9_), some (.inl pr_), some (.inl he_), some (.inl te_), some (.inl ip_), some (.inl (S_.2.2.1 116 0 (i_or he_ ip_).toNat)), some (.inl (S_.2.2.1 47 (0 + dd_) (i_or te_ ip_).toNat)), some (.inl (i_or (64 * ((S_.2.2.1 116 0 (i_or he_ ip_).toNat) / 65536)) ((S_.2.2.1 47 (0 + dd_) (i_or te_ ip_).toNat) / 65536)))], [.inl ip_, .inl (i_or (64 * ((S_.2.2.1 116 0 (i_or he_ ip_).toNat) / 65536)) ((S_.2.2.1 47 (0 + dd_) (i_or te_ ip_).toNat) / 65536)), .inr (.inr (some (114, 0)))], sm_aI S_ 113 0 (i_or (64 * ((S_.2.2.1 116 0 (i_or he_ ip_).toNat) / 65536)) ((S_.2.2.1 47 (0 + dd_) (i_or te_ ip_).toNat) / 65536)).toNat pr_)) rfl ?_
            refine sm_T_iast (n := 4096) rfl rfl (by omega) (by omega) ?_
            have hIx13_ : gi (sm_aI (sm_aI S_ 113 0 (i_or (64 * ((S_.2.2.1 116 0 (i_or he_ ip_).toNat) / 65536)) ((S_.2.2.1 47 (0 + dd_) (i_or te_ ip_).toNat) / 65536)).toNat pr_) 114 0 (i_or (64 * ((S_.2.2.1 116 0 (i_or he_ ip_).toNat) / 65536)) ((S_.2.2.1 47 (0 + dd_) (i_or te_ ip_).toNat) / 65536)).toNat ip_) := gi_aI hIx11_ (show 0 ≤ ip_ ∧ ip_ ≤ 4095 from ⟨by omega, by omega⟩)
            have hFx14_ : ai_fr (sx_W vw_276s) S0_ (sm_aI (sm_aI S_ 113 0 (i_or (64 * ((S_.2.2.1 116 0 (i_or he_ ip_).toNat) / 65536)) ((S_.2.2.1 47 (0 + dd_) (i_or te_ ip_).toNat) / 65536)).toNat pr_) 114 0 (i_or (64 * ((S_.2.2.1 116 0 (i_or he_ ip_).toNat) / 65536)) ((S_.2.2.1 47 (0 + dd_) (i_or te_ ip_).toNat) / 65536)).toNat ip_) := ai_fr_tr hFx12_ (ai_fr_aI rfl)
            refine sm_T_go 4 (c1 := (208, [some (.inr (.inr (some (12, 0)))), some (.inr (.inr (some (116, 0)))), some (.inl bg_), some (.inr (.inr (some (3, dd_)))), some (.inl mk_), some (.inl ip9_), none, some (.inl tl_), some (.inl hd9_), some (.inl pr_), some (.inl he_), some (.inl te_), some (.inl ip_), some (.inl (S_.2.2.1 116 0 (i_or he_ ip_).toNat)), some (.inl (S_.2.2.1 47 (0 + dd_) (i_or te_ ip_).toNat)), some (.inl (i_or (64 * ((S_.2.2.1 116 0 (i_or he_ ip_).toNat) / 65536)) ((S_.2.2.1 47 (0 + dd_) (i_or te_ ip_).toNat) / 65536)))], [.inl (i_or (64 * ((S_.2.2.1 116 0 (i_or he_ ip_).toNat) / 65536)) ((S_.2.2.1 47 (0 + dd_) (i_or te_ ip_).toNat) / 65536)), .inl tl_, .inr (.inr (some (115, 0)))], sm_aI (sm_aI S_ 113 0 (i_or (64 * ((S_.2.2.1 116 0 (i_or he_ ip_).toNat) / 65536)) ((S_.2.2.1 47 (0 + dd_) (i_or te_ ip_).toNat) / 65536)).toNat pr_) 114 0 (i_or (64 * ((S_.2.2.1 116 0 (i_or he_ ip_).toNat) / 65536)) ((S_.2.2.1 47 (0 + dd_) (i_or te_ ip_).toNat) / 65536)).toNat ip_)) rfl ?_
            refine sm_T_iast (n := 4096) rfl rfl (by omega) (by omega) ?_
            have hIx15_ : gi (sm_aI (sm_aI (sm_aI S_ 113 0 (i_or (64 * ((S_.2.2.1 116 0 (i_or he_ ip_).toNat) / 65536)) ((S_.2.2.1 47 (0 + dd_) (i_or te_ ip_).toNat) / 65536)).toNat pr_) 114 0 (i_or (64 * ((S_.2.2.1 116 0 (i_or he_ ip_).toNat) / 65536)) ((S_.2.2.1 47 (0 + dd_) (i_or te_ ip_).toNat) / 65536)).toNat ip_) 115 0 tl_.toNat (i_or (64 * ((S_.2.2.1 116 0 (i_or he_ ip_).toNat) / 65536)) ((S_.2.2.1 47 (0 + dd_) (i_or te_ ip_).toNat) / 65536))) := gi_aI hIx13_ (show 0 ≤ (i_or (64 * ((S_.2.2.1 116 0 (i_or he_ ip_).toNat) / 65536)) ((S_.2.2.1 47 (0 + dd_) (i_or te_ ip_).toNat) / 65536)) ∧ (i_or (64 * ((S_.2.2.1 116 0 (i_or he_ ip_).toNat) / 65536)) ((S_.2.2.1 47 (0 + dd_) (i_or te_ ip_).toNat) / 65536)) ≤ 4095 from ⟨by omega, by omega⟩)
            have hFx16_ : ai_fr (sx_W vw_276s) S0_ (sm_aI (sm_aI (sm_aI S_ 113 0 (i_or (64 * ((S_.2.2.1 116 0 (i_or he_ ip_).toNat) / 65536)) ((S_.2.2.1 47 (0 + dd_) (i_or te_ ip_).toNat) / 65536)).toNat pr_) 114 0 (i_or (64 * ((S_.2.2.1 116 0 (i_or he_ ip_).toNat) / 65536)) ((S_.2.2.1 47 (0 + dd_) (i_or te_ ip_).toNat) / 65536)).toNat ip_) 115 0 tl_.toNat (i_or (64 * ((S_.2.2.1 116 0 (i_or he_ ip_).toNat) / 65536)) ((S_.2.2.1 47 (0 + dd_) (i_or te_ ip_).toNat) / 65536))) := ai_fr_tr hFx14_ (ai_fr_aI rfl)
            refine sm_T_inc (a := 7) (z := 1) (v := tl_) (w := tl_ + 1) rfl rfl (by omega) (by omega) (by omega) ?_ -- pc_ 209
            refine sm_T_inc (a := 12) (z := 1) (v := ip_) (w := ip_ + 1) rfl rfl (by omega) (by omega) (by omega) ?_ -- pc_ 212
            refine sm_T_go 1 (c1 := (100, [some (.inr (.inr (some (12, 0)))), some (.inr (.inr (some (116, 0)))), some (.inl bg_), some (.inr (.inr (some (3, dd_)))), some (.inl mk_), some (.inl ip9_), none, some (.inl (tl_ + 1)), some (.inl hd9_), some (.inl pr_), some (.inl he_), some (.inl te_), some (.inl (ip_ + 1)), some (.inl (S_.2.2.1 116 0 (i_or he_ ip_).toNat)), some (.inl (S_.2.2.1 47 (0 + dd_) (i_or te_ ip_).toNat)), some (.inl (i_or (64 * ((S_.2.2.1 116 0 (i_or he_ ip_).toNat) / 65536)) ((S_.2.2.1 47 (0 + dd_) (i_or te_ ip_).toNat) / 65536)))], [], sm_aI (sm_aI (sm_aI S_ 113 0 (i_or (64 * ((S_.2.2.1 116 0 (i_or he_ ip_).toNat) / 65536)) ((S_.2.2.1 47 (0 + dd_) (i_or te_ ip_).toNat) / 65536)).toNat pr_) 114 0 (i_or (64 * ((S_.2.2.1 116 0 (i_or he_ ip_).toNat) / 65536)) ((S_.2.2.1 47 (0 + dd_) (i_or te_ ip_).toNat) / 65536)).toNat ip_) 115 0 tl_.toNat (i_or (64 * ((S_.2.2.1 116 0 (i_or he_ ip_).toNat) / 65536)) ((S_.2.2.1 47 (0 + dd_) (i_or te_ ip_).toNat) / 65536)))) rfl ?_
            refine sm_T_wk [some (.inr (.inr (some (12, 0)))), some (.inr (.inr (some (116, 0)))), some (.inl bg_), some (.inr (.inr (some (3, dd_)))), some (.inl mk_), some (.inl ip9_), none, some (.inl (tl_ + 1)), some (.inl hd9_), some (.inl pr_), some (.inl he_), some (.inl te_), some (.inl (ip_ + 1)), none, none, none] (by exact ⟨rfl, rfl, rfl, rfl, rfl, rfl, rfl, rfl, rfl, rfl, rfl, rfl, trivial⟩) ?_
            refine ih_.2 ip9_ (tl_ + 1) hd9_ pr_ he_ te_ (ip_ + 1) (sm_aI (sm_aI (sm_aI S_ 113 0 (i_or (64 * ((S_.2.2.1 116 0 (i_or he_ ip_).toNat) / 65536)) ((S_.2.2.1 47 (0 + dd_) (i_or te_ ip_).toNat) / 65536)).toNat pr_) 114 0 (i_or (64 * ((S_.2.2.1 116 0 (i_or he_ ip_).toNat) / 65536)) ((S_.2.2.1 47 (0 + dd_) (i_or te_ ip_).toNat) / 65536)).toNat ip_) 115 0 tl_.toNat (i_or (64 * ((S_.2.2.1 116 0 (i_or he_ ip_).toNat) / 65536)) ((S_.2.2.1 47 (0 + dd_) (i_or te_ ip_).toNat) / 65536))) hIx15_ hFx16_ ⟨?_, ?_, ?_, ?_, ?_, ?_, trivial⟩ ?_
            · obtain ⟨NN_, hNN_⟩ : ∃ NN_, NN_ = i_or (64 * (S_.2.2.1 116 0 (i_or he_ ip_).toNat / 65536)) (S_.2.2.1 47 (0 + dd_) (i_or te_ ip_).toNat / 65536) := ⟨_, rfl⟩
              have cx9_ : ¬ (S_.2.2.1 113 0 NN_.toNat ≠ -2) := by (rw [hNN_]; exact cx10_)
              have r1_ : ∀ j9_, ((sm_aI (sm_aI (sm_aI S_ 113 0 (i_or (64 * ((S_.2.2.1 116 0 (i_or he_ ip_).toNat) / 65536)) ((S_.2.2.1 47 (0 + dd_) (i_or te_ ip_).toNat) / 65536)).toNat pr_) 114 0 (i_or (64 * ((S_.2.2.1 116 0 (i_or he_ ip_).toNat) / 65536)) ((S_.2.2.1 47 (0 + dd_) (i_or te_ ip_).toNat) / 65536)).toNat ip_) 115 0 tl_.toNat (i_or (64 * ((S_.2.2.1 116 0 (i_or he_ ip_).toNat) / 65536)) ((S_.2.2.1 47 (0 + dd_) (i_or te_ ip_).toNat) / 65536)))).2.2.1 115 0 j9_ = if j9_ = tl_.toNat then NN_ else S_.2.2.1 115 0 j9_ := fun j9_ => by rw [rd_eq, rd_ne (by decide), rd_ne (by decide), hNN_]
              have r2_ : ∀ j9_, ((sm_aI (sm_aI (sm_aI S_ 113 0 (i_or (64 * ((S_.2.2.1 116 0 (i_or he_ ip_).toNat) / 65536)) ((S_.2.2.1 47 (0 + dd_) (i_or te_ ip_).toNat) / 65536)).toNat pr_) 114 0 (i_or (64 * ((S_.2.2.1 116 0 (i_or he_ ip_).toNat) / 65536)) ((S_.2.2.1 47 (0 + dd_) (i_or te_ ip_).toNat) / 65536)).toNat ip_) 115 0 tl_.toNat (i_or (64 * ((S_.2.2.1 116 0 (i_or he_ ip_).toNat) / 65536)) ((S_.2.2.1 47 (0 + dd_) (i_or te_ ip_).toNat) / 65536)))).2.2.1 113 0 j9_ = if j9_ = NN_.toNat then pr_ else S_.2.2.1 113 0 j9_ := fun j9_ => by rw [rd_ne (by decide), rd_ne (by decide), rd_eq, hNN_]
              intro j9_ hj9_ w9_
              rw [r2_] at w9_ ⊢
              by_cases z9_ : j9_ = NN_.toNat
              · rw [if_pos z9_]; right; rw [r2_]; refine ⟨by omega, ?_⟩; split; omega; exact hz_.1
              · rw [if_neg z9_] at w9_ ⊢; rcases hp_ j9_ hj9_ w9_ with q9_ | q9_
                · left; exact q9_
                · right; refine ⟨q9_.1, ?_⟩; rw [r2_]; split; omega; exact q9_.2
            · obtain ⟨NN_, hNN_⟩ : ∃ NN_, NN_ = i_or (64 * (S_.2.2.1 116 0 (i_or he_ ip_).toNat / 65536)) (S_.2.2.1 47 (0 + dd_) (i_or te_ ip_).toNat / 65536) := ⟨_, rfl⟩
              have cx9_ : ¬ (S_.2.2.1 113 0 NN_.toNat ≠ -2) := by (rw [hNN_]; exact cx10_)
              have r1_ : ∀ j9_, ((sm_aI (sm_aI (sm_aI S_ 113 0 (i_or (64 * ((S_.2.2.1 116 0 (i_or he_ ip_).toNat) / 65536)) ((S_.2.2.1 47 (0 + dd_) (i_or te_ ip_).toNat) / 65536)).toNat pr_) 114 0 (i_or (64 * ((S_.2.2.1 116 0 (i_or he_ ip_).toNat) / 65536)) ((S_.2.2.1 47 (0 + dd_) (i_or te_ ip_).toNat) / 65536)).toNat ip_) 115 0 tl_.toNat (i_or (64 * ((S_.2.2.1 116 0 (i_or he_ ip_).toNat) / 65536)) ((S_.2.2.1 47 (0 + dd_) (i_or te_ ip_).toNat) / 65536)))).2.2.1 115 0 j9_ = if j9_ = tl_.toNat then NN_ else S_.2.2.1 115 0 j9_ := fun j9_ => by rw [rd_eq, rd_ne (by decide), rd_ne (by decide), hNN_]
              have r2_ : ∀ j9_, ((sm_aI (sm_aI (sm_aI S_ 113 0 (i_or (64 * ((S_.2.2.1 116 0 (i_or he_ ip_).toNat) / 65536)) ((S_.2.2.1 47 (0 + dd_) (i_or te_ ip_).toNat) / 65536)).toNat pr_) 114 0 (i_or (64 * ((S_.2.2.1 116 0 (i_or he_ ip_).toNat) / 65536)) ((S_.2.2.1 47 (0 + dd_) (i_or te_ ip_).toNat) / 65536)).toNat ip_) 115 0 tl_.toNat (i_or (64 * ((S_.2.2.1 116 0 (i_or he_ ip_).toNat) / 65536)) ((S_.2.2.1 47 (0 + dd_) (i_or te_ ip_).toNat) / 65536)))).2.2.1 113 0 j9_ = if j9_ = NN_.toNat then pr_ else S_.2.2.1 113 0 j9_ := fun j9_ => by rw [rd_ne (by decide), rd_ne (by decide), rd_eq, hNN_]
              intro j9_ hj9_
              by_cases z9_ : (j9_ : Int) = tl_
              · rw [r1_, if_pos (by omega), r2_, if_pos rfl]; exact ⟨by omega, by omega, by omega⟩
              · have q9_ := hq_ j9_ (by omega)
                rw [r1_, if_neg (by omega), r2_]; refine ⟨?_, q9_.2⟩; split; omega; exact q9_.1
            · obtain ⟨NN_, hNN_⟩ : ∃ NN_, NN_ = i_or (64 * (S_.2.2.1 116 0 (i_or he_ ip_).toNat / 65536)) (S_.2.2.1 47 (0 + dd_) (i_or te_ ip_).toNat / 65536) := ⟨_, rfl⟩
              have cx9_ : ¬ (S_.2.2.1 113 0 NN_.toNat ≠ -2) := by (rw [hNN_]; exact cx10_)
              have r1_ : ∀ j9_, ((sm_aI (sm_aI (sm_aI S_ 113 0 (i_or (64 * ((S_.2.2.1 116 0 (i_or he_ ip_).toNat) / 65536)) ((S_.2.2.1 47 (0 + dd_) (i_or te_ ip_).toNat) / 65536)).toNat pr_) 114 0 (i_or (64 * ((S_.2.2.1 116 0 (i_or he_ ip_).toNat) / 65536)) ((S_.2.2.1 47 (0 + dd_) (i_or te_ ip_).toNat) / 65536)).toNat ip_) 115 0 tl_.toNat (i_or (64 * ((S_.2.2.1 116 0 (i_or he_ ip_).toNat) / 65536)) ((S_.2.2.1 47 (0 + dd_) (i_or te_ ip_).toNat) / 65536)))).2.2.1 115 0 j9_ = if j9_ = tl_.toNat then NN_ else S_.2.2.1 115 0 j9_ := fun j9_ => by rw [rd_eq, rd_ne (by decide), rd_ne (by decide), hNN_]
              have r2_ : ∀ j9_, ((sm_aI (sm_aI (sm_aI S_ 113 0 (i_or (64 * ((S_.2.2.1 116 0 (i_or he_ ip_).toNat) / 65536)) ((S_.2.2.1 47 (0 + dd_) (i_or te_ ip_).toNat) / 65536)).toNat pr_) 114 0 (i_or (64 * ((S_.2.2.1 116 0 (i_or he_ ip_).toNat) / 65536)) ((S_.2.2.1 47 (0 + dd_) (i_or te_ ip_).toNat) / 65536)).toNat ip_) 115 0 tl_.toNat (i_or (64 * ((S_.2.2.1 116 0 (i_or he_ ip_).toNat) / 65536)) ((S_.2.2.1 47 (0 + dd_) (i_or te_ ip_).toNat) / 65536)))).2.2.1 113 0 j9_ = if j9_ = NN_.toNat then pr_ else S_.2.2.1 113 0 j9_ := fun j9_ => by rw [rd_ne (by decide), rd_ne (by decide), rd_eq, hNN_]
              have u9_ := cn1_up (f := pn2 (S_.2.2.1 113 0)) (g := pn2 (((sm_aI (sm_aI (sm_aI S_ 113 0 (i_or (64 * ((S_.2.2.1 116 0 (i_or he_ ip_).toNat) / 65536)) ((S_.2.2.1 47 (0 + dd_) (i_or te_ ip_).toNat) / 65536)).toNat pr_) 114 0 (i_or (64 * ((S_.2.2.1 116 0 (i_or he_ ip_).toNat) / 65536)) ((S_.2.2.1 47 (0 + dd_) (i_or te_ ip_).toNat) / 65536)).toNat ip_) 115 0 tl_.toNat (i_or (64 * ((S_.2.2.1 116 0 (i_or he_ ip_).toNat) / 65536)) ((S_.2.2.1 47 (0 + dd_) (i_or te_ ip_).toNat) / 65536)))).2.2.1 113 0)) (j := NN_.toNat) (fun y9_ => absurd (pn2_1.mp y9_) cx9_) (pn2_1.mpr (by rw [r2_, if_pos rfl]; omega)) (fun k9_ hk9_ => by unfold pn2; rw [r2_, if_neg hk9_]) (n := 4096) (by omega)
              rw [u9_]
              push_cast
              omega
            · omega
            · exact hh_
            · obtain ⟨NN_, hNN_⟩ : ∃ NN_, NN_ = i_or (64 * (S_.2.2.1 116 0 (i_or he_ ip_).toNat / 65536)) (S_.2.2.1 47 (0 + dd_) (i_or te_ ip_).toNat / 65536) := ⟨_, rfl⟩
              have cx9_ : ¬ (S_.2.2.1 113 0 NN_.toNat ≠ -2) := by (rw [hNN_]; exact cx10_)
              have r1_ : ∀ j9_, ((sm_aI (sm_aI (sm_aI S_ 113 0 (i_or (64 * ((S_.2.2.1 116 0 (i_or he_ ip_).toNat) / 65536)) ((S_.2.2.1 47 (0 + dd_) (i_or te_ ip_).toNat) / 65536)).toNat pr_) 114 0 (i_or (64 * ((S_.2.2.1 116 0 (i_or he_ ip_).toNat) / 65536)) ((S_.2.2.1 47 (0 + dd_) (i_or te_ ip_).toNat) / 65536)).toNat ip_) 115 0 tl_.toNat (i_or (64 * ((S_.2.2.1 116 0 (i_or he_ ip_).toNat) / 65536)) ((S_.2.2.1 47 (0 + dd_) (i_or te_ ip_).toNat) / 65536)))).2.2.1 115 0 j9_ = if j9_ = tl_.toNat then NN_ else S_.2.2.1 115 0 j9_ := fun j9_ => by rw [rd_eq, rd_ne (by decide), rd_ne (by decide), hNN_]
              have r2_ : ∀ j9_, ((sm_aI (sm_aI (sm_aI S_ 113 0 (i_or (64 * ((S_.2.2.1 116 0 (i_or he_ ip_).toNat) / 65536)) ((S_.2.2.1 47 (0 + dd_) (i_or te_ ip_).toNat) / 65536)).toNat pr_) 114 0 (i_or (64 * ((S_.2.2.1 116 0 (i_or he_ ip_).toNat) / 65536)) ((S_.2.2.1 47 (0 + dd_) (i_or te_ ip_).toNat) / 65536)).toNat ip_) 115 0 tl_.toNat (i_or (64 * ((S_.2.2.1 116 0 (i_or he_ ip_).toNat) / 65536)) ((S_.2.2.1 47 (0 + dd_) (i_or te_ ip_).toNat) / 65536)))).2.2.1 113 0 j9_ = if j9_ = NN_.toNat then pr_ else S_.2.2.1 113 0 j9_ := fun j9_ => by rw [rd_ne (by decide), rd_ne (by decide), rd_eq, hNN_]
              rw [r2_]
              refine ⟨?_, hz_.2⟩
              split
              · omega
              · exact hz_.1
            · omega
        · have cx8_ : ¬ ((i_and (i_xor (S_.2.2.1 116 0 (i_or he_ ip_).toNat) (S_.2.2.1 47 (0 + dd_) (i_or te_ ip_).toNat)) mk_) = 0) := of_decide_eq_false cx8_
          refine sm_T_go 3 (c1 := (146, [some (.inr (.inr (some (12, 0)))), some (.inr (.inr (some (116, 0)))), some (.inl bg_), some (.inr (.inr (some (3, dd_)))), some (.inl mk_), some (.inl ip9_), none, some (.inl tl_), some (.inl hd9_), some (.inl pr_), some (.inl he_), some (.inl te_), some (.inl ip_), some (.inl (S_.2.2.1 116 0 (i_or he_ ip_).toNat)), some (.inl (S_.2.2.1 47 (0 + dd_) (i_or te_ ip_).toNat)), none], [.inl ip_, .inl pr_, .inr (.inr (some (12, 0)))], S_)) rfl ?_
          refine sm_T_cal (d1 := 0) (Q1 := vq_277 pr_ ip_ S_) rfl rfl (by decide) (vc_277 pr_ ip_ S_ hI_ (by exact hp_) (by omega) (by omega) (by exact hz_.1)) (fun u_ Sx17_ px20_ => ?_)
          obtain ⟨rfl, hIx18_, hFx19_, px20_⟩ := px20_
          have hFx21_ : ai_fr (sx_W vw_276s) S0_ Sx17_ := ai_fr_tr hF_ (fr_le hFx19_ rfl)
          have bx22_ : 0 ≤ Sx17_.1 12 0 16 ∧ Sx17_.1 12 0 16 ≤ 4096 := hIx18_.1 12 0 16 rfl
          refine sm_T_go 2 (c1 := (153, [some (.inr (.inr (some (12, 0)))), some (.inr (.inr (some (116, 0)))), some (.inl bg_), some (.inr (.inr (some (3, dd_)))), some (.inl mk_), some (.inl ip9_), none, some (.inl tl_), some (.inl hd9_), some (.inl pr_), some (.inl he_), some (.inl te_), some (.inl ip_), some (.inl (S_.2.2.1 116 0 (i_or he_ ip_).toNat)), some (.inl (S_.2.2.1 47 (0 + dd_) (i_or te_ ip_).toNat)), none], [.inl (Sx17_.1 12 0 16)], Sx17_)) rfl ?_
          refine sm_T_ri rfl ⟨_, _, rfl, _, rfl, hIx18_, hFx21_, ?_⟩
          trivial
set_option maxHeartbeats 2000000 in
set_option maxRecDepth 20000 in
theorem vc_276s {sc_ : Nat × (Nat → Int)} (bg_ : Int) (mk_ : Int) (dd_ : Nat) (R1_ : Nat) (S0_ : sm_S) (hI_ : gi S0_) (hd_ : dOk dd_ S0_) (hb_ : 0 ≤ bg_ ∧ bg_ < 2 ^ R1_) (hr_ : R1_ ≤ 6 ∧ (R1_ : Int) + S0_.1 3 dd_ 1 ≤ 12) (ht_ : ∀ p9_ : Nat, p9_ < 4096 → 0 ≤ S0_.2.2.1 116 0 p9_ ∧ S0_.2.2.1 116 0 p9_ < 2 ^ (16 + R1_)) : sm_T (mt_P sc_) 1 276 (0, [some (.inr (.inr (some (12, 0)))), some (.inr (.inr (some (116, 0)))), some (.inl bg_), some (.inr (.inr (some (3, dd_)))), some (.inl mk_), none, none, none, none, none, none, none, none, none, none, none], [], S0_) (fun ro9_ => ∃ u_ S1_, ro9_ = (.inl u_, S1_, 0) ∧ vq_276s bg_ mk_ dd_ R1_ S0_ u_ S1_) := by
  have hF_ : ai_fr (sx_W vw_276s) S0_ S0_ := ai_fr_rf
  have J9_ := dOk_b hd_
  have J9a := J9_.1
  have J9b := J9_.2.1
  have J9c := J9_.2.2.1
  have J9t := J9_.2.2.2.2
  have wa_ := pw_le (n := R1_) (m := 6) (by omega)
  have wb_ := pw_le (n := (S0_.1 3 dd_ 2).toNat) (m := 6) (by omega)
  have wc_ := pw_pos R1_
  have wd_ := pw_pos (S0_.1 3 dd_ 2).toNat
  have hIx1_ : gi (sm_pI S0_ 12 0 16 0) := gi_pI hI_ (show 0 ≤ 0 ∧ 0 ≤ 4096 from ⟨by omega, by omega⟩)
  have hFx2_ : ai_fr (sx_W vw_276s) S0_ (sm_pI S0_ 12 0 16 0) := ai_fr_tr hF_ (ai_fr_pI rfl)
  have bx3_ : 0 ≤ S0_.1 3 dd_ 1 ∧ S0_.1 3 dd_ 1 ≤ 320 := hI_.1 3 dd_ 1 rfl
  refine sm_T_go 9 (c1 := (17, [some (.inr (.inr (some (12, 0)))), some (.inr (.inr (some (116, 0)))), some (.inl bg_), some (.inr (.inr (some (3, dd_)))), some (.inl mk_), some (.inl (S0_.1 3 dd_ 1)), none, none, none, none, none, none, none, none, none, none], [.inl (-2), .inr (.inr (some (113, 0)))], sm_pI S0_ 12 0 16 0)) rfl ?_
  refine sm_T_cal (d1 := 0) (Q1 := vq_2p (-2) (sm_pI S0_ 12 0 16 0)) rfl rfl (by decide) (vc_2p (-2) (sm_pI S0_ 12 0 16 0) hIx1_ (by decide)) (fun u_ Sx4_ px7_ => ?_)
  obtain ⟨rfl, hIx5_, hFx6_, px7_⟩ := px7_
  have hFx8_ : ai_fr (sx_W vw_276s) S0_ Sx4_ := ai_fr_tr hFx2_ (fr_le hFx6_ rfl)
  have e17_ := px7_
  have q5_ := hFx6_.1 3 dd_ 5 rfl
  have q1_ := hFx6_.1 3 dd_ 1 rfl
  simp only [rf_nt, rf_nk, ne_eq, Nat.reduceEqDiff, not_false_eq_true] at q5_ q1_
  refine sm_T_go 2 (c1 := (23, [some (.inr (.inr (some (12, 0)))), some (.inr (.inr (some (116, 0)))), some (.inl bg_), some (.inr (.inr (some (3, dd_)))), some (.inl mk_), some (.inl (S0_.1 3 dd_ 1)), none, none, none, none, none, none, none, none, none, none], [.inl 6, .inl bg_], Sx4_)) rfl ?_
  refine sm_T_bin (w := 64 * bg_) rfl (bi_shl (k := 6) (by decide) (by omega) (by omega) (by omega)) ?_ -- pc_ 23
  have bx9_ : 0 ≤ Sx4_.1 3 dd_ 5 ∧ Sx4_.1 3 dd_ 5 ≤ 63 := hIx5_.1 3 dd_ 5 rfl
  refine sm_T_go 2 (c1 := (28, [some (.inr (.inr (some (12, 0)))), some (.inr (.inr (some (116, 0)))), some (.inl bg_), some (.inr (.inr (some (3, dd_)))), some (.inl mk_), some (.inl (S0_.1 3 dd_ 1)), none, none, none, none, none, none, none, none, none, none], [.inl (Sx4_.1 3 dd_ 5), .inl (64 * bg_)], Sx4_)) rfl ?_
  refine sm_T_bin (w := (i_or (64 * bg_) (Sx4_.1 3 dd_ 5))) rfl rfl ?_ -- pc_ 28
  have bx10_ := or64 (a_ := bg_) (b_ := (Sx4_.1 3 dd_ 5)) (by omega) (by omega)
  refine sm_T_go 5 (c1 := (38, [some (.inr (.inr (some (12, 0)))), some (.inr (.inr (some (116, 0)))), some (.inl bg_), some (.inr (.inr (some (3, dd_)))), some (.inl mk_), some (.inl (S0_.1 3 dd_ 1)), some (.inl (i_or (64 * bg_) (Sx4_.1 3 dd_ 5))), none, none, none, none, none, none, none, none, none], [.inl (-1), .inl (i_or (64 * bg_) (Sx4_.1 3 dd_ 5)), .inr (.inr (some (113, 0)))], Sx4_)) rfl ?_
  refine sm_T_iast (n := 4096) rfl rfl (by omega) (by omega) ?_
  have hIx11_ : gi (sm_aI Sx4_ 113 0 (i_or (64 * bg_) (Sx4_.1 3 dd_ 5)).toNat (-1)) := gi_aI hIx5_ (show (-2) ≤ (-1) ∧ (-1) ≤ 4095 from ⟨by omega, by omega⟩)
  have hFx12_ : ai_fr (sx_W vw_276s) S0_ (sm_aI Sx4_ 113 0 (i_or (64 * bg_) (Sx4_.1 3 dd_ 5)).toNat (-1)) := ai_fr_tr hFx8_ (ai_fr_aI rfl)
  refine sm_T_go 4 (c1 := (46, [some (.inr (.inr (some (12, 0)))), some (.inr (.inr (some (116, 0)))), some (.inl bg_), some (.inr (.inr (some (3, dd_)))), some (.inl mk_), some (.inl (S0_.1 3 dd_ 1)), some (.inl (i_or (64 * bg_) (Sx4_.1 3 dd_ 5))), none, none, none, none, none, none, none, none, none], [.inl (i_or (64 * bg_) (Sx4_.1 3 dd_ 5)), .inl 0, .inr (.inr (some (115, 0)))], sm_aI Sx4_ 113 0 (i_or (64 * bg_) (Sx4_.1 3 dd_ 5)).toNat (-1))) rfl ?_
  refine sm_T_iast (n := 4096) rfl rfl (by omega) (by omega) ?_
  have hIx13_ : gi (sm_aI (sm_aI Sx4_ 113 0 (i_or (64 * bg_) (Sx4_.1 3 dd_ 5)).toNat (-1)) 115 0 (0 : Int).toNat (i_or (64 * bg_) (Sx4_.1 3 dd_ 5))) := gi_aI hIx11_ (show 0 ≤ (i_or (64 * bg_) (Sx4_.1 3 dd_ 5)) ∧ (i_or (64 * bg_) (Sx4_.1 3 dd_ 5)) ≤ 4095 from ⟨by omega, by omega⟩)
  have hFx14_ : ai_fr (sx_W vw_276s) S0_ (sm_aI (sm_aI Sx4_ 113 0 (i_or (64 * bg_) (Sx4_.1 3 dd_ 5)).toNat (-1)) 115 0 (0 : Int).toNat (i_or (64 * bg_) (Sx4_.1 3 dd_ 5))) := ai_fr_tr hFx12_ (ai_fr_aI rfl)
  refine sm_T_go 4 (c1 := (53, [some (.inr (.inr (some (12, 0)))), some (.inr (.inr (some (116, 0)))), some (.inl bg_), some (.inr (.inr (some (3, dd_)))), some (.inl mk_), some (.inl (S0_.1 3 dd_ 1)), some (.inl (i_or (64 * bg_) (Sx4_.1 3 dd_ 5))), some (.inl 1), some (.inl 0), none, none, none, none, none, none, none], [], sm_aI (sm_aI Sx4_ 113 0 (i_or (64 * bg_) (Sx4_.1 3 dd_ 5)).toNat (-1)) 115 0 (0 : Int).toNat (i_or (64 * bg_) (Sx4_.1 3 dd_ 5)))) rfl ?_
  refine sm_T_wk [some (.inr (.inr (some (12, 0)))), some (.inr (.inr (some (116, 0)))), some (.inl bg_), some (.inr (.inr (some (3, dd_)))), some (.inl mk_), some (.inl (S0_.1 3 dd_ 1)), none, some (.inl 1), some (.inl 0), none, none, none, none, none, none, none] (by exact ⟨rfl, rfl, rfl, rfl, rfl, rfl, rfl, rfl, trivial⟩) ?_
  refine (vl_276s bg_ mk_ dd_ R1_ S0_ hd_ hb_ hr_ ht_ _).1 (S0_.1 3 dd_ 1) 1 0 (sm_aI (sm_aI Sx4_ 113 0 (i_or (64 * bg_) (Sx4_.1 3 dd_ 5)).toNat (-1)) 115 0 (0 : Int).toNat (i_or (64 * bg_) (Sx4_.1 3 dd_ 5))) hIx13_ hFx14_ ⟨?_, ?_, ?_, ?_, trivial⟩ (Nat.lt_succ_self _)
  · obtain ⟨FF_, hFF_⟩ : ∃ FF_, FF_ = i_or (64 * bg_) (Sx4_.1 3 dd_ 5) := ⟨_, rfl⟩
    have r1_ : ((sm_aI (sm_aI Sx4_ 113 0 (i_or (64 * bg_) (Sx4_.1 3 dd_ 5)).toNat (-1)) 115 0 (0 : Int).toNat (i_or (64 * bg_) (Sx4_.1 3 dd_ 5)))).2.2.1 115 0 0 = FF_ := by (rw [rd_eq, if_pos (by decide)]; exact hFF_.symm)
    have r2_ : ∀ j9_, ((sm_aI (sm_aI Sx4_ 113 0 (i_or (64 * bg_) (Sx4_.1 3 dd_ 5)).toNat (-1)) 115 0 (0 : Int).toNat (i_or (64 * bg_) (Sx4_.1 3 dd_ 5)))).2.2.1 113 0 j9_ = if j9_ = FF_.toNat then (-1) else Sx4_.2.2.1 113 0 j9_ := fun j9_ => by rw [rd_ne (by decide), rd_eq, hFF_]
    intro j9_ hj9_ w9_
    rw [r2_] at w9_ ⊢
    left
    by_cases z9_ : j9_ = FF_.toNat
    · rw [if_pos z9_]
    · rw [if_neg z9_, e17_ j9_ hj9_] at w9_
      exact absurd rfl w9_
  · obtain ⟨FF_, hFF_⟩ : ∃ FF_, FF_ = i_or (64 * bg_) (Sx4_.1 3 dd_ 5) := ⟨_, rfl⟩
    have r1_ : ((sm_aI (sm_aI Sx4_ 113 0 (i_or (64 * bg_) (Sx4_.1 3 dd_ 5)).toNat (-1)) 115 0 (0 : Int).toNat (i_or (64 * bg_) (Sx4_.1 3 dd_ 5)))).2.2.1 115 0 0 = FF_ := by (rw [rd_eq, if_pos (by decide)]; exact hFF_.symm)
    have r2_ : ∀ j9_, ((sm_aI (sm_aI Sx4_ 113 0 (i_or (64 * bg_) (Sx4_.1 3 dd_ 5)).toNat (-1)) 115 0 (0 : Int).toNat (i_or (64 * bg_) (Sx4_.1 3 dd_ 5)))).2.2.1 113 0 j9_ = if j9_ = FF_.toNat then (-1) else Sx4_.2.2.1 113 0 j9_ := fun j9_ => by rw [rd_ne (by decide), rd_eq, hFF_]
    intro j9_ hj9_
    have z9_ : j9_ = 0 := by omega
    rw [z9_, r1_, r2_, if_pos rfl]
    exact ⟨by decide, by omega, by omega⟩
  · obtain ⟨FF_, hFF_⟩ : ∃ FF_, FF_ = i_or (64 * bg_) (Sx4_.1 3 dd_ 5) := ⟨_, rfl⟩
    have r1_ : ((sm_aI (sm_aI Sx4_ 113 0 (i_or (64 * bg_) (Sx4_.1 3 dd_ 5)).toNat (-1)) 115 0 (0 : Int).toNat (i_or (64 * bg_) (Sx4_.1 3 dd_ 5)))).2.2.1 115 0 0 = FF_ := by (rw [rd_eq, if_pos (by decide)]; exact hFF_.symm)
    have r2_ : ∀ j9_, ((sm_aI (sm_aI Sx4_ 113 0 (i_or (64 * bg_) (Sx4_.1 3 dd_ 5)).toNat (-1)) 115 0 (0 : Int).toNat (i_or (64 * bg_) (Sx4_.1 3 dd_ 5)))).2.2.1 113 0 j9_ = if j9_ = FF_.toNat then (-1) else Sx4_.2.2.1 113 0 j9_ := fun j9_ => by rw [rd_ne (by decide), rd_eq, hFF_]
    rw [cn1_cg (g := fun k9_ : Nat => if k9_ = FF_.toNat then (1 : Int) else 0) (fun k9_ hk9_ => ?_), cn1_one (j := FF_.toNat) (fun k9_ => ?_) 4096, if_pos (by omega)]
    · rfl
    · constructor
      · intro y9_; by_cases y8_ : k9_ = FF_.toNat; exact y8_; (rw [if_neg y8_] at y9_; exact absurd y9_ (by decide))
      · intro y9_; exact if_pos y9_
    · unfold pn2
      rw [r2_]
      by_cases y9_ : k9_ = FF_.toNat
      · rw [if_pos y9_, if_pos y9_]; rfl
      · rw [if_neg y9_, if_neg y9_, e17_ k9_ hk9_]; rfl
  · omega
end
/-! 99.zp3c -/
section
/-! ChipFlow.equal -/
def vw_227 : sx_Wl := ([(12, 16)], [113, 114, 115, 117], [])
def vq_227 (aa_ : Int) (bb_ : Int) (S0_ : sm_S) (u_ : Option sm_V) (S1_ : sm_S) : Prop := ∃ v_ : Int, u_ = some (.inl v_) ∧ gi S1_ ∧ ai_fr (sx_W vw_227) S0_ S1_ ∧ (jC S1_)
def vx_227 (aa_ : Int) (bb_ : Int) (S0_ : sm_S) (S1_ : sm_S) : Prop := gi S1_ ∧ ai_fr (sx_W vw_227) S0_ S1_ ∧ (S1_ = S0_)
set_option maxHeartbeats 400000 in
theorem vc_227 {sc_ : Nat × (Nat → Int)} (aa_ : Int) (bb_ : Int) (S0_ : sm_S) (hI_ : gi S0_) (hJ_ : jC S0_) : sm_T (mt_P sc_) 2 227 (0, [some (.inr (.inr (some (12, 0)))), some (.inl aa_), some (.inl bb_), none, none], [], S0_) (fun ro9_ => (∃ u_ S1_, ro9_ = (.inl u_, S1_, 0) ∧ vq_227 aa_ bb_ S0_ u_ S1_) ∨ ∃ ex_ S1_, ro9_ = (.inr ex_, S1_, 1) ∧ ex_ ∈ ([0, 1] : List Nat) ∧ vx_227 aa_ bb_ S0_ S1_) := by
  have hF_ : ai_fr (sx_W vw_227) S0_ S0_ := ai_fr_rf
  refine sm_T_go 2 (c1 := (2, [some (.inr (.inr (some (12, 0)))), some (.inl aa_), some (.inl bb_), none, none], [.inl aa_, .inr (.inr (some (12, 0)))], S0_)) rfl ?_
  refine sm_T_cale (d1_ := 1) (Q1_ := vq_270 aa_ S0_) (Q2_ := (fun ex_ S1_ => ex_ ∈ ([0] : List Nat) ∧ vx_270 aa_ S0_ S1_)) rfl rfl (by decide) (vc_270 aa_ S0_ hI_ ) rfl (fun xx6_ Sx1_ px4_ => ?_) (fun u_ Sx1_ px4_ => ?_)
  · obtain ⟨px4m, hIx2_, hFx3_, px4_⟩ := px4_
    refine Or.inr ⟨_, _, rfl, by first | exact px4m | (simp only [List.mem_cons, List.not_mem_nil, or_false] at px4m ⊢; omega), hIx2_, ai_fr_tr hF_ (fr_le hFx3_ rfl), ?_⟩
    first | exact px4_.2 | exact px4_ | rfl
  obtain ⟨rfl, -, -, rfl, px4_⟩ := px4_
  have d1_ := px4_
  have k1_ := hJ_.1 aa_.toNat (by omega) d1_.2
  have b1_ := dOk_b k1_
  have x1_ := b1_.1
  have y1_ := b1_.2.1
  refine sm_T_go 3 (c1 := (8, [some (.inr (.inr (some (12, 0)))), some (.inl aa_), some (.inl bb_), some (.inr (.inr (some (3, aa_.toNat)))), none], [.inl bb_, .inr (.inr (some (12, 0)))], S0_)) rfl ?_
  refine sm_T_cale (d1_ := 1) (Q1_ := vq_270 bb_ S0_) (Q2_ := (fun ex_ S1_ => ex_ ∈ ([0] : List Nat) ∧ vx_270 bb_ S0_ S1_)) rfl rfl (by decide) (vc_270 bb_ S0_ hI_ ) rfl (fun xx12_ Sx7_ px10_ => ?_) (fun u_ Sx7_ px10_ => ?_)
  · obtain ⟨px10m, hIx8_, hFx9_, px10_⟩ := px10_
    refine Or.inr ⟨_, _, rfl, by first | exact px10m | (simp only [List.mem_cons, List.not_mem_nil, or_false] at px10m ⊢; omega), hIx8_, ai_fr_tr hF_ (fr_le hFx9_ rfl), ?_⟩
    first | exact px10_.2 | exact px10_ | rfl
  obtain ⟨rfl, -, -, rfl, px10_⟩ := px10_
  have d2_ := px10_
  have k2_ := hJ_.1 bb_.toNat (by omega) d2_.2
  have b2_ := dOk_b k2_
  have x2_ := b2_.1
  have y2_ := b2_.2.1
  have bx13_ : 0 ≤ S0_.1 3 aa_.toNat 1 ∧ S0_.1 3 aa_.toNat 1 ≤ 320 := hI_.1 3 aa_.toNat 1 rfl
  have bx14_ : 0 ≤ S0_.1 3 bb_.toNat 1 ∧ S0_.1 3 bb_.toNat 1 ≤ 320 := hI_.1 3 bb_.toNat 1 rfl
  refine sm_T_go 5 (c1 := (22, [some (.inr (.inr (some (12, 0)))), some (.inl aa_), some (.inl bb_), some (.inr (.inr (some (3, aa_.toNat)))), some (.inr (.inr (some (3, bb_.toNat))))], [.inl (S0_.1 3 bb_.toNat 1), .inl (S0_.1 3 aa_.toNat 1)], S0_)) rfl ?_
  refine sm_T_br (a := 1) (z := 19) rfl (fun cx15_ => ?_) (fun cx15_ => ?_)
  · have cx15_ : (S0_.1 3 aa_.toNat 1) ≠ (S0_.1 3 bb_.toNat 1) := of_decide_eq_true cx15_
    refine sm_T_go 1 (c1 := (42, [some (.inr (.inr (some (12, 0)))), some (.inl aa_), some (.inl bb_), some (.inr (.inr (some (3, aa_.toNat)))), some (.inr (.inr (some (3, bb_.toNat))))], [.inl 0], S0_)) rfl ?_
    refine sm_T_cale (d1_ := 0) (Q1_ := vq_266e 0 S0_) (Q2_ := (fun ex_ S1_ => ex_ ∈ ([1] : List Nat) ∧ vx_266e 0 S0_ S1_)) rfl rfl (by decide) (vc_266e 0 S0_ hI_ ) rfl (fun xx21_ Sx16_ px19_ => ?_) (fun u_ Sx16_ px19_ => ?_)
    · obtain ⟨px19m, hIx17_, hFx18_, px19_⟩ := px19_
      refine Or.inr ⟨_, _, rfl, by first | exact px19m | (simp only [List.mem_cons, List.not_mem_nil, or_false] at px19m ⊢; omega), hIx17_, ai_fr_tr hF_ (fr_le hFx18_ rfl), ?_⟩
      first | exact px19_.2 | exact px19_ | rfl
    · exact absurd rfl px19_.2.2.2.1
  · have cx15_ : ¬ ((S0_.1 3 aa_.toNat 1) ≠ (S0_.1 3 bb_.toNat 1)) := of_decide_eq_false cx15_
    have bx22_ : 0 ≤ S0_.1 3 aa_.toNat 3 ∧ S0_.1 3 aa_.toNat 3 ≤ 320 := hI_.1 3 aa_.toNat 3 rfl
    have bx23_ : 0 ≤ S0_.1 3 bb_.toNat 3 ∧ S0_.1 3 bb_.toNat 3 ≤ 320 := hI_.1 3 bb_.toNat 3 rfl
    refine sm_T_go 4 (c1 := (34, [some (.inr (.inr (some (12, 0)))), some (.inl aa_), some (.inl bb_), some (.inr (.inr (some (3, aa_.toNat)))), some (.inr (.inr (some (3, bb_.toNat))))], [.inl (S0_.1 3 bb_.toNat 3), .inl (S0_.1 3 aa_.toNat 3)], S0_)) rfl ?_
    refine sm_T_br (a := 1) (z := 7) rfl (fun cx24_ => ?_) (fun cx24_ => ?_)
    · have cx24_ : (S0_.1 3 aa_.toNat 3) ≠ (S0_.1 3 bb_.toNat 3) := of_decide_eq_true cx24_
      refine sm_T_go 1 (c1 := (42, [some (.inr (.inr (some (12, 0)))), some (.inl aa_), some (.inl bb_), some (.inr (.inr (some (3, aa_.toNat)))), some (.inr (.inr (some (3, bb_.toNat))))], [.inl 0], S0_)) rfl ?_
      refine sm_T_cale (d1_ := 0) (Q1_ := vq_266e 0 S0_) (Q2_ := (fun ex_ S1_ => ex_ ∈ ([1] : List Nat) ∧ vx_266e 0 S0_ S1_)) rfl rfl (by decide) (vc_266e 0 S0_ hI_ ) rfl (fun xx30_ Sx25_ px28_ => ?_) (fun u_ Sx25_ px28_ => ?_)
      · obtain ⟨px28m, hIx26_, hFx27_, px28_⟩ := px28_
        refine Or.inr ⟨_, _, rfl, by first | exact px28m | (simp only [List.mem_cons, List.not_mem_nil, or_false] at px28m ⊢; omega), hIx26_, ai_fr_tr hF_ (fr_le hFx27_ rfl), ?_⟩
        first | exact px28_.2 | exact px28_ | rfl
      · exact absurd rfl px28_.2.2.2.1
    · have cx24_ : ¬ ((S0_.1 3 aa_.toNat 3) ≠ (S0_.1 3 bb_.toNat 3)) := of_decide_eq_false cx24_
      refine sm_T_go 2 (c1 := (42, [some (.inr (.inr (some (12, 0)))), some (.inl aa_), some (.inl bb_), some (.inr (.inr (some (3, aa_.toNat)))), some (.inr (.inr (some (3, bb_.toNat))))], [.inl 1], S0_)) rfl ?_
      refine sm_T_cale (d1_ := 0) (Q1_ := vq_266e 1 S0_) (Q2_ := (fun ex_ S1_ => ex_ ∈ ([1] : List Nat) ∧ vx_266e 1 S0_ S1_)) rfl rfl (by decide) (vc_266e 1 S0_ hI_ ) rfl (fun xx36_ Sx31_ px34_ => ?_) (fun u_ Sx31_ px34_ => ?_)
      · exact absurd px34_.2.2.2.1 (by decide)
      obtain ⟨rfl, -, -, px34_, rfl⟩ := px34_
      have bx37_ : 0 ≤ S0_.1 3 aa_.toNat 5 ∧ S0_.1 3 aa_.toNat 5 ≤ 63 := hI_.1 3 aa_.toNat 5 rfl
      refine sm_T_go 6 (c1 := (56, [some (.inr (.inr (some (12, 0)))), some (.inl aa_), some (.inl bb_), some (.inr (.inr (some (3, aa_.toNat)))), some (.inr (.inr (some (3, bb_.toNat))))], [.inr (.inr (some (3, bb_.toNat))), .inl (S0_.1 3 aa_.toNat 5), .inr (.inr (some (47, (0 + aa_.toNat)))), .inr (.inr (some (12, 0)))], S0_)) rfl ?_
      refine sm_T_nt (u := some (.inl 65535)) (S1 := S0_) rfl rfl rfl ?_
      refine sm_T_cal (d1 := 1) (Q1 := vq_276d (S0_.1 3 aa_.toNat 5) 65535 aa_.toNat bb_.toNat (S0_.1 3 aa_.toNat 2).toNat S0_) rfl rfl (by decide) (vc_276d (S0_.1 3 aa_.toNat 5) 65535 aa_.toNat bb_.toNat (S0_.1 3 aa_.toNat 2).toNat S0_ hI_ (by exact k2_) (by exact b1_.2.2.1) (by omega) (by exact b1_.2.2.2.2)) (fun u_ Sx38_ px41_ => ?_)
      obtain ⟨vx43_, rfl, hIx39_, hFx40_, px41_⟩ := px41_
      have hFx42_ : ai_fr (sx_W vw_227) S0_ Sx38_ := ai_fr_tr hF_ (fr_le hFx40_ rfl)
      have ex44_ : Sx38_.1 3 bb_.toNat 1 = S0_.1 3 bb_.toNat 1 := hFx40_.1 3 bb_.toNat 1 rfl
      have ex45_ : Sx38_.1 3 aa_.toNat 1 = S0_.1 3 aa_.toNat 1 := hFx40_.1 3 aa_.toNat 1 rfl
      have ex46_ : Sx38_.1 3 aa_.toNat 5 = S0_.1 3 aa_.toNat 5 := hFx40_.1 3 aa_.toNat 5 rfl
      have ex47_ : Sx38_.1 3 aa_.toNat 3 = S0_.1 3 aa_.toNat 3 := hFx40_.1 3 aa_.toNat 3 rfl
      have ex48_ : Sx38_.1 3 bb_.toNat 3 = S0_.1 3 bb_.toNat 3 := hFx40_.1 3 bb_.toNat 3 rfl
      refine sm_T_ri rfl (Or.inl ⟨_, _, rfl, _, rfl, hIx39_, hFx42_, ?_⟩)
      exact jC_fr hJ_ hFx42_ (by decide) (by decide) (by decide) (by decide) (by decide) rfl rfl rfl rfl rfl rfl
end
/-! 99.zp3d -/
section
/-! ChipFlow.proves -/
def vw_237 : sx_Wl := ([(12, 16)], [113, 114, 115, 117], [])
def vq_237 (kk_ : Int) (bb_ : Int) (S0_ : sm_S) (u_ : Option sm_V) (S1_ : sm_S) : Prop := ∃ v_ : Int, u_ = some (.inl v_) ∧ gi S1_ ∧ ai_fr (sx_W vw_237) S0_ S1_ ∧ (jC S1_)
def vx_237 (kk_ : Int) (bb_ : Int) (S0_ : sm_S) (S1_ : sm_S) : Prop := gi S1_ ∧ ai_fr (sx_W vw_237) S0_ S1_ ∧ (S1_ = S0_)
set_option maxHeartbeats 400000 in
theorem vc_237 {sc_ : Nat × (Nat → Int)} (kk_ : Int) (bb_ : Int) (S0_ : sm_S) (hI_ : gi S0_) (hJ_ : jC S0_) : sm_T (mt_P sc_) 2 237 (0, [some (.inr (.inr (some (12, 0)))), some (.inl kk_), some (.inl bb_), none, none], [], S0_) (fun ro9_ => (∃ u_ S1_, ro9_ = (.inl u_, S1_, 0) ∧ vq_237 kk_ bb_ S0_ u_ S1_) ∨ ∃ ex_ S1_, ro9_ = (.inr ex_, S1_, 1) ∧ ex_ ∈ ([0, 1] : List Nat) ∧ vx_237 kk_ bb_ S0_ S1_) := by
  have hF_ : ai_fr (sx_W vw_237) S0_ S0_ := ai_fr_rf
  refine sm_T_go 2 (c1 := (2, [some (.inr (.inr (some (12, 0)))), some (.inl kk_), some (.inl bb_), none, none], [.inl kk_, .inr (.inr (some (12, 0)))], S0_)) rfl ?_
  refine sm_T_cale (d1_ := 1) (Q1_ := vq_272 kk_ S0_) (Q2_ := (fun ex_ S1_ => ex_ ∈ ([0] : List Nat) ∧ vx_272 kk_ S0_ S1_)) rfl rfl (by decide) (vc_272 kk_ S0_ hI_ ) rfl (fun xx6_ Sx1_ px4_ => ?_) (fun u_ Sx1_ px4_ => ?_)
  · obtain ⟨px4m, hIx2_, hFx3_, px4_⟩ := px4_
    refine Or.inr ⟨_, _, rfl, by first | exact px4m | (simp only [List.mem_cons, List.not_mem_nil, or_false] at px4m ⊢; omega), hIx2_, ai_fr_tr hF_ (fr_le hFx3_ rfl), ?_⟩
    first | exact px4_.2 | exact px4_ | rfl
  obtain ⟨rfl, -, -, rfl, px4_⟩ := px4_
  have a9_ := px4_
  have J9_ := hJ_.2.1 kk_.toNat (by omega) a9_.2
  have J1_ := J9_.1
  have q9_ := a9_.2
  have c8_ : 0 ≤ S0_.1 2 (kk_.toNat) 8 ∧ S0_.1 2 (kk_.toNat) 8 ≤ 150 := hI_.1 2 (kk_.toNat) 8 rfl
  have c1_ : 0 ≤ S0_.1 2 (kk_.toNat) 1 ∧ S0_.1 2 (kk_.toNat) 1 ≤ 12 := hI_.1 2 (kk_.toNat) 1 rfl
  have c2_ : 0 ≤ S0_.1 2 (kk_.toNat) 2 ∧ S0_.1 2 (kk_.toNat) 2 ≤ 6 := hI_.1 2 (kk_.toNat) 2 rfl
  refine sm_T_go 3 (c1 := (8, [some (.inr (.inr (some (12, 0)))), some (.inl kk_), some (.inl bb_), some (.inr (.inr (some (2, kk_.toNat)))), none], [.inl bb_, .inr (.inr (some (12, 0)))], S0_)) rfl ?_
  refine sm_T_cale (d1_ := 1) (Q1_ := vq_270 bb_ S0_) (Q2_ := (fun ex_ S1_ => ex_ ∈ ([0] : List Nat) ∧ vx_270 bb_ S0_ S1_)) rfl rfl (by decide) (vc_270 bb_ S0_ hI_ ) rfl (fun xx12_ Sx7_ px10_ => ?_) (fun u_ Sx7_ px10_ => ?_)
  · obtain ⟨px10m, hIx8_, hFx9_, px10_⟩ := px10_
    refine Or.inr ⟨_, _, rfl, by first | exact px10m | (simp only [List.mem_cons, List.not_mem_nil, or_false] at px10m ⊢; omega), hIx8_, ai_fr_tr hF_ (fr_le hFx9_ rfl), ?_⟩
    first | exact px10_.2 | exact px10_ | rfl
  obtain ⟨rfl, -, -, rfl, px10_⟩ := px10_
  have d2_ := px10_
  have k2_ := hJ_.1 bb_.toNat (by omega) d2_.2
  have b2_ := dOk_b k2_
  have x2_ := b2_.1
  have y2_ := b2_.2.1
  have bx13_ : 0 ≤ S0_.1 2 kk_.toNat 1 ∧ S0_.1 2 kk_.toNat 1 ≤ 12 := hI_.1 2 kk_.toNat 1 rfl
  have bx14_ : 0 ≤ S0_.1 3 bb_.toNat 1 ∧ S0_.1 3 bb_.toNat 1 ≤ 320 := hI_.1 3 bb_.toNat 1 rfl
  refine sm_T_go 5 (c1 := (22, [some (.inr (.inr (some (12, 0)))), some (.inl kk_), some (.inl bb_), some (.inr (.inr (some (2, kk_.toNat)))), some (.inr (.inr (some (3, bb_.toNat))))], [.inl (S0_.1 3 bb_.toNat 1), .inl (S0_.1 2 kk_.toNat 1)], S0_)) rfl ?_
  refine sm_T_br (a := 1) (z := 19) rfl (fun cx15_ => ?_) (fun cx15_ => ?_)
  · have cx15_ : (S0_.1 2 kk_.toNat 1) ≠ (S0_.1 3 bb_.toNat 1) := of_decide_eq_true cx15_
    refine sm_T_go 1 (c1 := (42, [some (.inr (.inr (some (12, 0)))), some (.inl kk_), some (.inl bb_), some (.inr (.inr (some (2, kk_.toNat)))), some (.inr (.inr (some (3, bb_.toNat))))], [.inl 0], S0_)) rfl ?_
    refine sm_T_cale (d1_ := 0) (Q1_ := vq_266e 0 S0_) (Q2_ := (fun ex_ S1_ => ex_ ∈ ([1] : List Nat) ∧ vx_266e 0 S0_ S1_)) rfl rfl (by decide) (vc_266e 0 S0_ hI_ ) rfl (fun xx21_ Sx16_ px19_ => ?_) (fun u_ Sx16_ px19_ => ?_)
    · obtain ⟨px19m, hIx17_, hFx18_, px19_⟩ := px19_
      refine Or.inr ⟨_, _, rfl, by first | exact px19m | (simp only [List.mem_cons, List.not_mem_nil, or_false] at px19m ⊢; omega), hIx17_, ai_fr_tr hF_ (fr_le hFx18_ rfl), ?_⟩
      first | exact px19_.2 | exact px19_ | rfl
    · exact absurd rfl px19_.2.2.2.1
  · have cx15_ : ¬ ((S0_.1 2 kk_.toNat 1) ≠ (S0_.1 3 bb_.toNat 1)) := of_decide_eq_false cx15_
    have bx22_ : 0 ≤ S0_.1 2 kk_.toNat 3 ∧ S0_.1 2 kk_.toNat 3 ≤ 16 := hI_.1 2 kk_.toNat 3 rfl
    have bx23_ : 0 ≤ S0_.1 3 bb_.toNat 3 ∧ S0_.1 3 bb_.toNat 3 ≤ 320 := hI_.1 3 bb_.toNat 3 rfl
    refine sm_T_go 4 (c1 := (34, [some (.inr (.inr (some (12, 0)))), some (.inl kk_), some (.inl bb_), some (.inr (.inr (some (2, kk_.toNat)))), some (.inr (.inr (some (3, bb_.toNat))))], [.inl (S0_.1 3 bb_.toNat 3), .inl (S0_.1 2 kk_.toNat 3)], S0_)) rfl ?_
    refine sm_T_br (a := 1) (z := 7) rfl (fun cx24_ => ?_) (fun cx24_ => ?_)
    · have cx24_ : (S0_.1 2 kk_.toNat 3) ≠ (S0_.1 3 bb_.toNat 3) := of_decide_eq_true cx24_
      refine sm_T_go 1 (c1 := (42, [some (.inr (.inr (some (12, 0)))), some (.inl kk_), some (.inl bb_), some (.inr (.inr (some (2, kk_.toNat)))), some (.inr (.inr (some (3, bb_.toNat))))], [.inl 0], S0_)) rfl ?_
      refine sm_T_cale (d1_ := 0) (Q1_ := vq_266e 0 S0_) (Q2_ := (fun ex_ S1_ => ex_ ∈ ([1] : List Nat) ∧ vx_266e 0 S0_ S1_)) rfl rfl (by decide) (vc_266e 0 S0_ hI_ ) rfl (fun xx30_ Sx25_ px28_ => ?_) (fun u_ Sx25_ px28_ => ?_)
      · obtain ⟨px28m, hIx26_, hFx27_, px28_⟩ := px28_
        refine Or.inr ⟨_, _, rfl, by first | exact px28m | (simp only [List.mem_cons, List.not_mem_nil, or_false] at px28m ⊢; omega), hIx26_, ai_fr_tr hF_ (fr_le hFx27_ rfl), ?_⟩
        first | exact px28_.2 | exact px28_ | rfl
      · exact absurd rfl px28_.2.2.2.1
    · have cx24_ : ¬ ((S0_.1 2 kk_.toNat 3) ≠ (S0_.1 3 bb_.toNat 3)) := of_decide_eq_false cx24_
      refine sm_T_go 2 (c1 := (42, [some (.inr (.inr (some (12, 0)))), some (.inl kk_), some (.inl bb_), some (.inr (.inr (some (2, kk_.toNat)))), some (.inr (.inr (some (3, bb_.toNat))))], [.inl 1], S0_)) rfl ?_
      refine sm_T_cale (d1_ := 0) (Q1_ := vq_266e 1 S0_) (Q2_ := (fun ex_ S1_ => ex_ ∈ ([1] : List Nat) ∧ vx_266e 1 S0_ S1_)) rfl rfl (by decide) (vc_266e 1 S0_ hI_ ) rfl (fun xx36_ Sx31_ px34_ => ?_) (fun u_ Sx31_ px34_ => ?_)
      · exact absurd px34_.2.2.2.1 (by decide)
      obtain ⟨rfl, -, -, px34_, rfl⟩ := px34_
      have bx37_ : 0 ≤ S0_.1 2 kk_.toNat 4 ∧ S0_.1 2 kk_.toNat 4 ≤ 63 := hI_.1 2 kk_.toNat 4 rfl
      refine sm_T_go 6 (c1 := (56, [some (.inr (.inr (some (12, 0)))), some (.inl kk_), some (.inl bb_), some (.inr (.inr (some (2, kk_.toNat)))), some (.inr (.inr (some (3, bb_.toNat))))], [.inr (.inr (some (3, bb_.toNat))), .inl (S0_.1 2 kk_.toNat 4), .inr (.inr (some (34, (0 + kk_.toNat)))), .inr (.inr (some (12, 0)))], S0_)) rfl ?_
      refine sm_T_nt (u := some (.inl 65535)) (S1 := S0_) rfl rfl rfl ?_
      refine sm_T_cal (d1 := 1) (Q1 := vq_276c (S0_.1 2 kk_.toNat 4) 65535 kk_.toNat bb_.toNat (S0_.1 2 kk_.toNat 2).toNat S0_) rfl rfl (by decide) (vc_276c (S0_.1 2 kk_.toNat 4) 65535 kk_.toNat bb_.toNat (S0_.1 2 kk_.toNat 2).toNat S0_ hI_ (by exact k2_) (by exact J9_.2.1) (by omega) (by exact J9_.2.2.2.1)) (fun u_ Sx38_ px41_ => ?_)
      obtain ⟨vx43_, rfl, hIx39_, hFx40_, px41_⟩ := px41_
      have hFx42_ : ai_fr (sx_W vw_237) S0_ Sx38_ := ai_fr_tr hF_ (fr_le hFx40_ rfl)
      have ex44_ : Sx38_.1 2 kk_.toNat 3 = S0_.1 2 kk_.toNat 3 := hFx40_.1 2 kk_.toNat 3 rfl
      have ex45_ : Sx38_.1 3 bb_.toNat 1 = S0_.1 3 bb_.toNat 1 := hFx40_.1 3 bb_.toNat 1 rfl
      have ex46_ : Sx38_.1 2 kk_.toNat 1 = S0_.1 2 kk_.toNat 1 := hFx40_.1 2 kk_.toNat 1 rfl
      have ex47_ : Sx38_.1 2 kk_.toNat 4 = S0_.1 2 kk_.toNat 4 := hFx40_.1 2 kk_.toNat 4 rfl
      have ex48_ : Sx38_.1 3 bb_.toNat 3 = S0_.1 3 bb_.toNat 3 := hFx40_.1 3 bb_.toNat 3 rfl
      refine sm_T_ri rfl (Or.inl ⟨_, _, rfl, _, rfl, hIx39_, hFx42_, ?_⟩)
      exact jC_fr hJ_ hFx42_ (by decide) (by decide) (by decide) (by decide) (by decide) rfl rfl rfl rfl rfl rfl
end
/-! 99.zp3e -/
section
/-! ChipFlow.never -/
def vw_228 : sx_Wl := ([(12, 16)], [113, 114, 115, 117], [])
def vq_228 (bb_ : Int) (k_ : Int) (S0_ : sm_S) (u_ : Option sm_V) (S1_ : sm_S) : Prop := ∃ v_ : Int, u_ = some (.inl v_) ∧ gi S1_ ∧ ai_fr (sx_W vw_228) S0_ S1_ ∧ (jC S1_)
def vx_228 (bb_ : Int) (k_ : Int) (S0_ : sm_S) (S1_ : sm_S) : Prop := gi S1_ ∧ ai_fr (sx_W vw_228) S0_ S1_ ∧ (S1_ = S0_)
set_option maxHeartbeats 400000 in
theorem vc_228 {sc_ : Nat × (Nat → Int)} (bb_ : Int) (k_ : Int) (S0_ : sm_S) (hI_ : gi S0_) (hJ_ : jC S0_) : sm_T (mt_P sc_) 2 228 (0, [some (.inr (.inr (some (12, 0)))), some (.inl bb_), some (.inl k_), none], [], S0_) (fun ro9_ => (∃ u_ S1_, ro9_ = (.inl u_, S1_, 0) ∧ vq_228 bb_ k_ S0_ u_ S1_) ∨ ∃ ex_ S1_, ro9_ = (.inr ex_, S1_, 1) ∧ ex_ ∈ ([0] : List Nat) ∧ vx_228 bb_ k_ S0_ S1_) := by
  have hF_ : ai_fr (sx_W vw_228) S0_ S0_ := ai_fr_rf
  refine sm_T_go 2 (c1 := (2, [some (.inr (.inr (some (12, 0)))), some (.inl bb_), some (.inl k_), none], [.inl bb_, .inr (.inr (some (12, 0)))], S0_)) rfl ?_
  refine sm_T_cale (d1_ := 1) (Q1_ := vq_270 bb_ S0_) (Q2_ := (fun ex_ S1_ => ex_ ∈ ([0] : List Nat) ∧ vx_270 bb_ S0_ S1_)) rfl rfl (by decide) (vc_270 bb_ S0_ hI_ ) rfl (fun xx6_ Sx1_ px4_ => ?_) (fun u_ Sx1_ px4_ => ?_)
  · obtain ⟨px4m, hIx2_, hFx3_, px4_⟩ := px4_
    refine Or.inr ⟨_, _, rfl, by first | exact px4m | (simp only [List.mem_cons, List.not_mem_nil, or_false] at px4m ⊢; omega), hIx2_, ai_fr_tr hF_ (fr_le hFx3_ rfl), ?_⟩
    first | exact px4_.2 | exact px4_ | rfl
  obtain ⟨rfl, -, -, rfl, px4_⟩ := px4_
  have d2_ := px4_
  have k2_ := hJ_.1 bb_.toNat (by omega) d2_.2
  have b2_ := dOk_b k2_
  have x2_ := b2_.1
  have y2_ := b2_.2.1
  refine sm_T_go 2 (c1 := (7, [some (.inr (.inr (some (12, 0)))), some (.inl bb_), some (.inl k_), some (.inr (.inr (some (3, bb_.toNat))))], [.inl k_], S0_)) rfl ?_
  refine sm_T_b0 (a := 2) (z := 15) rfl (fun cx7_ => ?_) (fun cx7_ => ?_)
  · have cx7_ : k_ < 0 := of_decide_eq_true cx7_
    refine sm_T_go 1 (c1 := (23, [some (.inr (.inr (some (12, 0)))), some (.inl bb_), some (.inl k_), some (.inr (.inr (some (3, bb_.toNat))))], [.inl 0], S0_)) rfl ?_
    refine sm_T_cale (d1_ := 0) (Q1_ := vq_265e 0 S0_) (Q2_ := (fun ex_ S1_ => ex_ ∈ ([0] : List Nat) ∧ vx_265e 0 S0_ S1_)) rfl rfl (by decide) (vc_265e 0 S0_ hI_ ) rfl (fun xx13_ Sx8_ px11_ => ?_) (fun u_ Sx8_ px11_ => ?_)
    · obtain ⟨px11m, hIx9_, hFx10_, px11_⟩ := px11_
      refine Or.inr ⟨_, _, rfl, by first | exact px11m | (simp only [List.mem_cons, List.not_mem_nil, or_false] at px11m ⊢; omega), hIx9_, ai_fr_tr hF_ (fr_le hFx10_ rfl), ?_⟩
      first | exact px11_.2 | exact px11_ | rfl
    · exact absurd rfl px11_.2.2.2.1
  · have cx7_ : ¬ (k_ < 0) := of_decide_eq_false cx7_
    have bx14_ : 0 ≤ S0_.1 3 bb_.toNat 3 ∧ S0_.1 3 bb_.toNat 3 ≤ 320 := hI_.1 3 bb_.toNat 3 rfl
    refine sm_T_go 3 (c1 := (15, [some (.inr (.inr (some (12, 0)))), some (.inl bb_), some (.inl k_), some (.inr (.inr (some (3, bb_.toNat))))], [.inl (S0_.1 3 bb_.toNat 3), .inl k_], S0_)) rfl ?_
    refine sm_T_br (a := 3) (z := 7) rfl (fun cx15_ => ?_) (fun cx15_ => ?_)
    · have cx15_ : (S0_.1 3 bb_.toNat 3) ≤ k_ := of_decide_eq_true cx15_
      refine sm_T_go 1 (c1 := (23, [some (.inr (.inr (some (12, 0)))), some (.inl bb_), some (.inl k_), some (.inr (.inr (some (3, bb_.toNat))))], [.inl 0], S0_)) rfl ?_
      refine sm_T_cale (d1_ := 0) (Q1_ := vq_265e 0 S0_) (Q2_ := (fun ex_ S1_ => ex_ ∈ ([0] : List Nat) ∧ vx_265e 0 S0_ S1_)) rfl rfl (by decide) (vc_265e 0 S0_ hI_ ) rfl (fun xx21_ Sx16_ px19_ => ?_) (fun u_ Sx16_ px19_ => ?_)
      · obtain ⟨px19m, hIx17_, hFx18_, px19_⟩ := px19_
        refine Or.inr ⟨_, _, rfl, by first | exact px19m | (simp only [List.mem_cons, List.not_mem_nil, or_false] at px19m ⊢; omega), hIx17_, ai_fr_tr hF_ (fr_le hFx18_ rfl), ?_⟩
        first | exact px19_.2 | exact px19_ | rfl
      · exact absurd rfl px19_.2.2.2.1
    · have cx15_ : ¬ ((S0_.1 3 bb_.toNat 3) ≤ k_) := of_decide_eq_false cx15_
      refine sm_T_go 2 (c1 := (23, [some (.inr (.inr (some (12, 0)))), some (.inl bb_), some (.inl k_), some (.inr (.inr (some (3, bb_.toNat))))], [.inl 1], S0_)) rfl ?_
      refine sm_T_cale (d1_ := 0) (Q1_ := vq_265e 1 S0_) (Q2_ := (fun ex_ S1_ => ex_ ∈ ([0] : List Nat) ∧ vx_265e 1 S0_ S1_)) rfl rfl (by decide) (vc_265e 1 S0_ hI_ ) rfl (fun xx27_ Sx22_ px25_ => ?_) (fun u_ Sx22_ px25_ => ?_)
      · exact absurd px25_.2.2.2.1 (by decide)
      obtain ⟨rfl, -, -, px25_, rfl⟩ := px25_
      refine sm_T_go 7 (c1 := (35, [some (.inr (.inr (some (12, 0)))), some (.inl bb_), some (.inl k_), some (.inr (.inr (some (3, bb_.toNat))))], [.inl k_, .inl 1, .inr (.inr (some (3, bb_.toNat))), .inl 0, .inr (.inr (some (116, 0))), .inr (.inr (some (12, 0)))], S0_)) rfl ?_
      refine sm_T_bin (w := (i_shl 1 k_)) rfl rfl ?_ -- pc_ 35
      have bx28_ := i_shl1 (e := k_) (by omega) (by omega)
      refine sm_T_cal (d1 := 1) (Q1 := vq_276s 0 (i_shl 1 k_) bb_.toNat 0 S0_) rfl rfl (by decide) (vc_276s 0 (i_shl 1 k_) bb_.toNat 0 S0_ hI_ (by exact k2_) (by decide) (by omega) (by (intro p9_ _; have z9_ := hI_.2 116 0 p9_; exact ⟨z9_.1, by have z8_ := z9_.2; exact Int.lt_of_le_of_lt z8_ (by decide)⟩))) (fun u_ Sx29_ px32_ => ?_)
      obtain ⟨vx34_, rfl, hIx30_, hFx31_, px32_⟩ := px32_
      have hFx33_ : ai_fr (sx_W vw_228) S0_ Sx29_ := ai_fr_tr hF_ (fr_le hFx31_ rfl)
      have ex35_ : Sx29_.1 3 bb_.toNat 3 = S0_.1 3 bb_.toNat 3 := hFx31_.1 3 bb_.toNat 3 rfl
      refine sm_T_ri rfl (Or.inl ⟨_, _, rfl, _, rfl, hIx30_, hFx33_, ?_⟩)
      exact jC_fr hJ_ hFx33_ (by decide) (by decide) (by decide) (by decide) (by decide) rfl rfl rfl rfl rfl rfl
end
/-! 99.zp4a -/
section
/-! a chip is made; written by wip/p55/gen/vg -/

/-! a_ chip is_ made -/
theorem cOk_nw {w_ : sx_Wl} {c_ dd_ : Nat} {S0_ S1_ S2_ : sm_S} (hd_ : dOk dd_ S0_) (h_ : S1_.1 2 c_ 1 = S0_.1 3 dd_ 1 ∧ S1_.1 2 c_ 2 = S0_.1 3 dd_ 2 ∧ S1_.1 2 c_ 3 = S0_.1 3 dd_ 3 ∧ S1_.1 2 c_ 4 = S0_.1 3 dd_ 5 ∧ S1_.1 2 c_ 5 = S0_.1 3 dd_ 5) (hn_ : bpn (0 + c_) S1_) (hp_ : bpp (0 + c_) c_ S1_) (r1_ : S1_.1 0 (0 + c_) 1 = 0) (r11_ : S1_.1 0 (0 + c_) 11 = 0) (g_ : ai_fr (sx_W w_) S1_ S2_) (h2_ : ∀ k_, k_ < 9 → (sx_W w_).1 2 k_ = false) (h0_ : ∀ k_, k_ < 12 → (sx_W w_).1 0 k_ = false) (ha_ : ∀ t_, t_ < 24 → 14 ≤ t_ → (sx_W w_).2.1 t_ = false) (ht_ : ctb c_ S2_) : cOk c_ S2_ := by
  have q_ := dOk_b hd_
  have q1_ := q_.1
  have q2_ := q_.2.1
  refine ⟨?_, ?_, ?_, ht_, ⟨bpn_fr hn_ g_ (ha_ _ (by decide) (by decide)) (ha_ _ (by decide) (by decide)) (ha_ _ (by decide) (by decide)) (ha_ _ (by decide) (by decide)), bpp_fr hp_ g_ (h2_ _ (by decide)) (h2_ _ (by decide)) (h2_ _ (by decide)) (h2_ _ (by decide)) (ha_ _ (by decide) (by decide)) (ha_ _ (by decide) (by decide)), fun z_ => ?_⟩, fun z_ => ?_⟩
  · rw [g_.1 2 c_ 1 (h2_ _ (by decide)), g_.1 2 c_ 2 (h2_ _ (by decide)), g_.1 2 c_ 3 (h2_ _ (by decide)), h_.1, h_.2.1, h_.2.2.1]; omega
  · rw [g_.1 2 c_ 4 (h2_ _ (by decide)), g_.1 2 c_ 2 (h2_ _ (by decide)), h_.2.2.2.1, h_.2.1]; exact q_.2.2.1
  · rw [g_.1 2 c_ 5 (h2_ _ (by decide)), g_.1 2 c_ 2 (h2_ _ (by decide)), h_.2.2.2.2, h_.2.1]; exact q_.2.2.1
  · rw [g_.1 0 (0 + c_) 1 (h0_ _ (by decide)), r1_] at z_
    exact absurd z_ (by decide)
  · rw [g_.1 0 (0 + c_) 11 (h0_ _ (by decide)), r11_] at z_
    exact absurd z_ (by decide)
theorem cOk_us {c_ : Nat} {S_ : sm_S} {v_ : Int} (h_ : cOk c_ S_) : cOk c_ (sm_pI S_ 2 c_ 0 v_) :=
  cOk_q h_ (fun k_ a_ _ => rf_nk (by omega)) (fun k_ _ => rf_nt (by decide)) (fun t_ _ _ _ => rfl) rfl
/-! ChipFlow.freeChip -/
theorem cOk_tb {w_ : sx_Wl} {i_ : Nat} {S_ S'_ : sm_S} (h_ : cOk i_ S_) (g_ : ai_fr (sx_W w_) S_ S'_) (h2_ : ∀ k_, k_ < 9 → (sx_W w_).1 2 k_ = false) (h0_ : ∀ k_, k_ < 12 → (sx_W w_).1 0 k_ = false) (ha_ : ∀ t_, t_ < 24 → 14 ≤ t_ → (sx_W w_).2.1 t_ = false) (ht_ : ctb i_ S'_) : cOk i_ S'_ := by
  obtain ⟨a1_, a2_, a3_, a4_, ⟨a5_, a6_, a7_⟩, a8_⟩ := h_
  refine ⟨?_, ?_, ?_, ht_, ⟨bpn_fr a5_ g_ (ha_ _ (by decide) (by decide)) (ha_ _ (by decide) (by decide)) (ha_ _ (by decide) (by decide)) (ha_ _ (by decide) (by decide)), bpp_fr a6_ g_ (h2_ _ (by decide)) (h2_ _ (by decide)) (h2_ _ (by decide)) (h2_ _ (by decide)) (ha_ _ (by decide) (by decide)) (ha_ _ (by decide) (by decide)), ?_⟩, ?_⟩
  · rw [g_.1 2 i_ 1 (h2_ _ (by decide)), g_.1 2 i_ 2 (h2_ _ (by decide)), g_.1 2 i_ 3 (h2_ _ (by decide))]; exact a1_
  · rw [g_.1 2 i_ 4 (h2_ _ (by decide)), g_.1 2 i_ 2 (h2_ _ (by decide))]; exact a2_
  · rw [g_.1 2 i_ 5 (h2_ _ (by decide)), g_.1 2 i_ 2 (h2_ _ (by decide))]; exact a3_
  · unfold bpl
    rw [g_.1 0 (0 + i_) 0 (h0_ _ (by decide)), g_.1 0 (0 + i_) 1 (h0_ _ (by decide)), g_.1 0 (0 + i_) 2 (h0_ _ (by decide)), g_.1 2 i_ 1 (h2_ _ (by decide)), g_.1 2 i_ 2 (h2_ _ (by decide)), g_.1 2 i_ 3 (h2_ _ (by decide)), g_.1 2 i_ 8 (h2_ _ (by decide)), fr_arr g_ (ha_ 14 (by decide) (by decide)), fr_arr g_ (ha_ 15 (by decide) (by decide)), fr_arr g_ (ha_ 16 (by decide) (by decide))]
    exact a7_
  · unfold bst
    rw [g_.1 0 (0 + i_) 11 (h0_ _ (by decide)), fr_arr g_ (ha_ 22 (by decide) (by decide)), fr_arr g_ (ha_ 23 (by decide) (by decide)), g_.1 2 i_ 1 (h2_ _ (by decide)), g_.1 2 i_ 2 (h2_ _ (by decide)), g_.1 2 i_ 8 (h2_ _ (by decide))]
    exact a8_
end
/-! 99.zp5a -/
section
/-! the face of the class: wires, times, tests; written by wip/p55/gen/vg -/

/-! faces: wires, times, tests -/
theorem jC_mk {w_ : sx_Wl} {S_ S'_ : sm_S} (h_ : jC S_) (g_ : ai_fr (sx_W w_) S_ S'_) (tp_ : tpo S'_) (sh_ : shn S'_) (d1_ : ∀ k_, k_ < 7 → (sx_W w_).1 3 k_ = false) (d2_ : ∀ t_, t_ < 48 → 42 ≤ t_ → (sx_W w_).2.1 t_ = false) (h2_ : ∀ k_, k_ < 9 → (sx_W w_).1 2 k_ = false) (h0_ : ∀ k_, k_ < 12 → (sx_W w_).1 0 k_ = false) (ha_ : ∀ t_, t_ < 24 → 14 ≤ t_ → t_ ≠ 21 → (sx_W w_).2.1 t_ = false) (hb_ : (sx_W w_).2.1 34 = false := by rfl) : jC S'_ :=
  ⟨dAll_fr h_.1 g_ d1_ d2_, cAll_fr h_.2.1 g_ h2_ h0_ ha_ hb_, tp_, sh_⟩
/-! ChipFlow.point -/
def vw_244 : sx_Wl := ([], [], [])
def vq_244 (kk_ : Int) (nu_ : Int) (S0_ : sm_S) (u_ : Option sm_V) (S1_ : sm_S) : Prop := ∃ v_ : Int, u_ = some (.inl v_) ∧ gi S1_ ∧ ai_fr (sx_W vw_244) S0_ S1_ ∧ (True)
def vx_244 (kk_ : Int) (nu_ : Int) (S0_ : sm_S) (S1_ : sm_S) : Prop := gi S1_ ∧ ai_fr (sx_W vw_244) S0_ S1_ ∧ (S1_ = S0_)
set_option maxHeartbeats 400000 in
theorem vc_244 {sc_ : Nat × (Nat → Int)} (kk_ : Int) (nu_ : Int) (S0_ : sm_S) (hI_ : gi S0_) (hJ_ : jC S0_) : sm_T (mt_P sc_) 2 244 (0, [some (.inr (.inr (some (12, 0)))), some (.inl kk_), some (.inl nu_), none], [], S0_) (fun ro9_ => (∃ u_ S1_, ro9_ = (.inl u_, S1_, 0) ∧ vq_244 kk_ nu_ S0_ u_ S1_) ∨ ∃ ex_ S1_, ro9_ = (.inr ex_, S1_, 1) ∧ ex_ ∈ ([0, 2] : List Nat) ∧ vx_244 kk_ nu_ S0_ S1_) := by
  have hF_ : ai_fr (sx_W vw_244) S0_ S0_ := ai_fr_rf
  refine sm_T_go 2 (c1 := (2, [some (.inr (.inr (some (12, 0)))), some (.inl kk_), some (.inl nu_), none], [.inl kk_, .inr (.inr (some (12, 0)))], S0_)) rfl ?_
  refine sm_T_cale (d1_ := 1) (Q1_ := vq_272 kk_ S0_) (Q2_ := (fun ex_ S1_ => ex_ ∈ ([0] : List Nat) ∧ vx_272 kk_ S0_ S1_)) rfl rfl (by decide) (vc_272 kk_ S0_ hI_ ) rfl (fun xx6_ Sx1_ px4_ => ?_) (fun u_ Sx1_ px4_ => ?_)
  · obtain ⟨px4m, hIx2_, hFx3_, px4_⟩ := px4_
    refine Or.inr ⟨_, _, rfl, by first | exact px4m | (simp only [List.mem_cons, List.not_mem_nil, or_false] at px4m ⊢; omega), hIx2_, ai_fr_tr hF_ (fr_le hFx3_ rfl), ?_⟩
    first | exact px4_.2 | exact px4_ | rfl
  obtain ⟨rfl, -, -, rfl, px4_⟩ := px4_
  have a9_ := px4_
  have J9_ := hJ_.2.1 kk_.toNat (by omega) a9_.2
  have J1_ := J9_.1
  have q9_ := a9_.2
  have c8_ : 0 ≤ S0_.1 2 (kk_.toNat) 8 ∧ S0_.1 2 (kk_.toNat) 8 ≤ 150 := hI_.1 2 (kk_.toNat) 8 rfl
  have c1_ : 0 ≤ S0_.1 2 (kk_.toNat) 1 ∧ S0_.1 2 (kk_.toNat) 1 ≤ 12 := hI_.1 2 (kk_.toNat) 1 rfl
  have c2_ : 0 ≤ S0_.1 2 (kk_.toNat) 2 ∧ S0_.1 2 (kk_.toNat) 2 ≤ 6 := hI_.1 2 (kk_.toNat) 2 rfl
  refine sm_T_go 2 (c1 := (7, [some (.inr (.inr (some (12, 0)))), some (.inl kk_), some (.inl nu_), some (.inr (.inr (some (2, kk_.toNat))))], [.inl nu_], S0_)) rfl ?_
  refine sm_T_b0 (a := 2) (z := 28) rfl (fun cx7_ => ?_) (fun cx7_ => ?_)
  · have cx7_ : nu_ < 0 := of_decide_eq_true cx7_
    refine sm_T_go 1 (c1 := (36, [some (.inr (.inr (some (12, 0)))), some (.inl kk_), some (.inl nu_), some (.inr (.inr (some (2, kk_.toNat))))], [.inl 0], S0_)) rfl ?_
    refine sm_T_cale (d1_ := 0) (Q1_ := vq_265e 0 S0_) (Q2_ := (fun ex_ S1_ => ex_ ∈ ([0] : List Nat) ∧ vx_265e 0 S0_ S1_)) rfl rfl (by decide) (vc_265e 0 S0_ hI_ ) rfl (fun xx13_ Sx8_ px11_ => ?_) (fun u_ Sx8_ px11_ => ?_)
    · obtain ⟨px11m, hIx9_, hFx10_, px11_⟩ := px11_
      refine Or.inr ⟨_, _, rfl, by first | exact px11m | (simp only [List.mem_cons, List.not_mem_nil, or_false] at px11m ⊢; omega), hIx9_, ai_fr_tr hF_ (fr_le hFx10_ rfl), ?_⟩
      first | exact px11_.2 | exact px11_ | rfl
    · exact absurd rfl px11_.2.2.2.1
  · have cx7_ : ¬ (nu_ < 0) := of_decide_eq_false cx7_
    have bx14_ : 0 ≤ S0_.1 0 (0 + kk_.toNat) 11 ∧ S0_.1 0 (0 + kk_.toNat) 11 ≤ 1 := hI_.1 0 (0 + kk_.toNat) 11 rfl
    refine sm_T_go 3 (c1 := (17, [some (.inr (.inr (some (12, 0)))), some (.inl kk_), some (.inl nu_), some (.inr (.inr (some (2, kk_.toNat))))], [.inl (S0_.1 0 (0 + kk_.toNat) 11)], S0_)) rfl ?_
    refine sm_T_b0 (a := 0) (z := 14) rfl (fun cx15_ => ?_) (fun cx15_ => ?_)
    · have cx15_ : (S0_.1 0 (0 + kk_.toNat) 11) = 0 := of_decide_eq_true cx15_
      refine sm_T_go 2 (c1 := (36, [some (.inr (.inr (some (12, 0)))), some (.inl kk_), some (.inl nu_), some (.inr (.inr (some (2, kk_.toNat))))], [.inl 1], S0_)) rfl ?_
      refine sm_T_cale (d1_ := 0) (Q1_ := vq_265e 1 S0_) (Q2_ := (fun ex_ S1_ => ex_ ∈ ([0] : List Nat) ∧ vx_265e 1 S0_ S1_)) rfl rfl (by decide) (vc_265e 1 S0_ hI_ ) rfl (fun xx21_ Sx16_ px19_ => ?_) (fun u_ Sx16_ px19_ => ?_)
      · exact absurd px19_.2.2.2.1 (by decide)
      obtain ⟨rfl, -, -, px19_, rfl⟩ := px19_
      refine sm_T_go 3 (c1 := (46, [some (.inr (.inr (some (12, 0)))), some (.inl kk_), some (.inl nu_), some (.inr (.inr (some (2, kk_.toNat))))], [.inl (S0_.1 0 (0 + kk_.toNat) 11)], S0_)) rfl ?_
      refine sm_T_cale (d1_ := 0) (Q1_ := vq_267e (S0_.1 0 (0 + kk_.toNat) 11) S0_) (Q2_ := (fun ex_ S1_ => ex_ ∈ ([2] : List Nat) ∧ vx_267e (S0_.1 0 (0 + kk_.toNat) 11) S0_ S1_)) rfl rfl (by decide) (vc_267e (S0_.1 0 (0 + kk_.toNat) 11) S0_ hI_ ) rfl (fun xx27_ Sx22_ px25_ => ?_) (fun u_ Sx22_ px25_ => ?_)
      · obtain ⟨px25m, hIx23_, hFx24_, px25_⟩ := px25_
        refine Or.inr ⟨_, _, rfl, by first | exact px25m | (simp only [List.mem_cons, List.not_mem_nil, or_false] at px25m ⊢; omega), hIx23_, ai_fr_tr hF_ (fr_le hFx24_ rfl), ?_⟩
        first | exact px25_.2 | exact px25_ | rfl
      obtain ⟨rfl, -, -, px25_, rfl⟩ := px25_
      refine sm_T_go 4 (c1 := (57, [some (.inr (.inr (some (12, 0)))), some (.inl kk_), some (.inl nu_), some (.inr (.inr (some (2, kk_.toNat))))], [.inl nu_, .inr (.inr (some (22, (0 + (0 + kk_.toNat)))))], S0_)) rfl ?_
      refine sm_T_iald (n := 4712) rfl rfl (by omega) (by omega) ?_
      have bx28_ : (-1) ≤ S0_.2.2.1 22 (0 + (0 + kk_.toNat)) nu_.toNat ∧ S0_.2.2.1 22 (0 + (0 + kk_.toNat)) nu_.toNat ≤ 161 := hI_.2 22 (0 + (0 + kk_.toNat)) _
      refine sm_T_ri rfl (Or.inl ⟨_, _, rfl, _, rfl, hI_, hF_, ?_⟩)
      trivial
    · have cx15_ : ¬ ((S0_.1 0 (0 + kk_.toNat) 11) = 0) := of_decide_eq_false cx15_
      refine sm_T_go 3 (c1 := (25, [some (.inr (.inr (some (12, 0)))), some (.inl kk_), some (.inl nu_), some (.inr (.inr (some (2, kk_.toNat))))], [.inr (.inr (some (0, (0 + kk_.toNat)))), .inl nu_], S0_)) rfl ?_
      refine sm_T_cal (d1 := 0) (Q1 := vq_16 (0 + kk_.toNat) S0_) rfl rfl (by decide) (vc_16 (0 + kk_.toNat) S0_ hI_ ) (fun u_ Sx29_ px32_ => ?_)
      obtain ⟨rfl, vx34_, rfl, px32_⟩ := px32_
      have p25_ := px32_
      refine sm_T_br (a := 3) (z := 7) rfl (fun cx35_ => ?_) (fun cx35_ => ?_)
      · have cx35_ : vx34_ ≤ nu_ := of_decide_eq_true cx35_
        refine sm_T_go 1 (c1 := (36, [some (.inr (.inr (some (12, 0)))), some (.inl kk_), some (.inl nu_), some (.inr (.inr (some (2, kk_.toNat))))], [.inl 0], S0_)) rfl ?_
        refine sm_T_cale (d1_ := 0) (Q1_ := vq_265e 0 S0_) (Q2_ := (fun ex_ S1_ => ex_ ∈ ([0] : List Nat) ∧ vx_265e 0 S0_ S1_)) rfl rfl (by decide) (vc_265e 0 S0_ hI_ ) rfl (fun xx41_ Sx36_ px39_ => ?_) (fun u_ Sx36_ px39_ => ?_)
        · obtain ⟨px39m, hIx37_, hFx38_, px39_⟩ := px39_
          refine Or.inr ⟨_, _, rfl, by first | exact px39m | (simp only [List.mem_cons, List.not_mem_nil, or_false] at px39m ⊢; omega), hIx37_, ai_fr_tr hF_ (fr_le hFx38_ rfl), ?_⟩
          first | exact px39_.2 | exact px39_ | rfl
        · exact absurd rfl px39_.2.2.2.1
      · have cx35_ : ¬ (vx34_ ≤ nu_) := of_decide_eq_false cx35_
        refine sm_T_go 2 (c1 := (36, [some (.inr (.inr (some (12, 0)))), some (.inl kk_), some (.inl nu_), some (.inr (.inr (some (2, kk_.toNat))))], [.inl 1], S0_)) rfl ?_
        refine sm_T_cale (d1_ := 0) (Q1_ := vq_265e 1 S0_) (Q2_ := (fun ex_ S1_ => ex_ ∈ ([0] : List Nat) ∧ vx_265e 1 S0_ S1_)) rfl rfl (by decide) (vc_265e 1 S0_ hI_ ) rfl (fun xx47_ Sx42_ px45_ => ?_) (fun u_ Sx42_ px45_ => ?_)
        · exact absurd px45_.2.2.2.1 (by decide)
        obtain ⟨rfl, -, -, px45_, rfl⟩ := px45_
        refine sm_T_go 3 (c1 := (46, [some (.inr (.inr (some (12, 0)))), some (.inl kk_), some (.inl nu_), some (.inr (.inr (some (2, kk_.toNat))))], [.inl (S0_.1 0 (0 + kk_.toNat) 11)], S0_)) rfl ?_
        refine sm_T_cale (d1_ := 0) (Q1_ := vq_267e (S0_.1 0 (0 + kk_.toNat) 11) S0_) (Q2_ := (fun ex_ S1_ => ex_ ∈ ([2] : List Nat) ∧ vx_267e (S0_.1 0 (0 + kk_.toNat) 11) S0_ S1_)) rfl rfl (by decide) (vc_267e (S0_.1 0 (0 + kk_.toNat) 11) S0_ hI_ ) rfl (fun xx53_ Sx48_ px51_ => ?_) (fun u_ Sx48_ px51_ => ?_)
        · obtain ⟨px51m, hIx49_, hFx50_, px51_⟩ := px51_
          refine Or.inr ⟨_, _, rfl, by first | exact px51m | (simp only [List.mem_cons, List.not_mem_nil, or_false] at px51m ⊢; omega), hIx49_, ai_fr_tr hF_ (fr_le hFx50_ rfl), ?_⟩
          first | exact px51_.2 | exact px51_ | rfl
        obtain ⟨rfl, -, -, px51_, rfl⟩ := px51_
        refine sm_T_go 4 (c1 := (57, [some (.inr (.inr (some (12, 0)))), some (.inl kk_), some (.inl nu_), some (.inr (.inr (some (2, kk_.toNat))))], [.inl nu_, .inr (.inr (some (22, (0 + (0 + kk_.toNat)))))], S0_)) rfl ?_
        refine sm_T_iald (n := 4712) rfl rfl (by omega) (by omega) ?_
        have bx54_ : (-1) ≤ S0_.2.2.1 22 (0 + (0 + kk_.toNat)) nu_.toNat ∧ S0_.2.2.1 22 (0 + (0 + kk_.toNat)) nu_.toNat ≤ 161 := hI_.2 22 (0 + (0 + kk_.toNat)) _
        refine sm_T_ri rfl (Or.inl ⟨_, _, rfl, _, rfl, hI_, hF_, ?_⟩)
        trivial
end
/-! 99.zp5b -/
section
/-! ChipFlow.routed -/
def vw_245 : sx_Wl := ([], [], [])
def vq_245 (kk_ : Int) (n_ : Int) (wh_ : Int) (S0_ : sm_S) (u_ : Option sm_V) (S1_ : sm_S) : Prop := ∃ v_ : Int, u_ = some (.inl v_) ∧ gi S1_ ∧ ai_fr (sx_W vw_245) S0_ S1_ ∧ (True)
def vx_245 (kk_ : Int) (n_ : Int) (wh_ : Int) (S0_ : sm_S) (S1_ : sm_S) : Prop := gi S1_ ∧ ai_fr (sx_W vw_245) S0_ S1_ ∧ (S1_ = S0_)
set_option maxHeartbeats 400000 in
theorem vc_245 {sc_ : Nat × (Nat → Int)} (kk_ : Int) (n_ : Int) (wh_ : Int) (S0_ : sm_S) (hI_ : gi S0_) (hJ_ : jC S0_) : sm_T (mt_P sc_) 2 245 (0, [some (.inr (.inr (some (12, 0)))), some (.inl kk_), some (.inl n_), some (.inl wh_), none], [], S0_) (fun ro9_ => (∃ u_ S1_, ro9_ = (.inl u_, S1_, 0) ∧ vq_245 kk_ n_ wh_ S0_ u_ S1_) ∨ ∃ ex_ S1_, ro9_ = (.inr ex_, S1_, 1) ∧ ex_ ∈ ([0, 1, 2] : List Nat) ∧ vx_245 kk_ n_ wh_ S0_ S1_) := by
  have hF_ : ai_fr (sx_W vw_245) S0_ S0_ := ai_fr_rf
  refine sm_T_go 2 (c1 := (2, [some (.inr (.inr (some (12, 0)))), some (.inl kk_), some (.inl n_), some (.inl wh_), none], [.inl kk_, .inr (.inr (some (12, 0)))], S0_)) rfl ?_
  refine sm_T_cale (d1_ := 1) (Q1_ := vq_272 kk_ S0_) (Q2_ := (fun ex_ S1_ => ex_ ∈ ([0] : List Nat) ∧ vx_272 kk_ S0_ S1_)) rfl rfl (by decide) (vc_272 kk_ S0_ hI_ ) rfl (fun xx6_ Sx1_ px4_ => ?_) (fun u_ Sx1_ px4_ => ?_)
  · obtain ⟨px4m, hIx2_, hFx3_, px4_⟩ := px4_
    refine Or.inr ⟨_, _, rfl, by first | exact px4m | (simp only [List.mem_cons, List.not_mem_nil, or_false] at px4m ⊢; omega), hIx2_, ai_fr_tr hF_ (fr_le hFx3_ rfl), ?_⟩
    first | exact px4_.2 | exact px4_ | rfl
  obtain ⟨rfl, -, -, rfl, px4_⟩ := px4_
  have a9_ := px4_
  have J9_ := hJ_.2.1 kk_.toNat (by omega) a9_.2
  have J1_ := J9_.1
  have q9_ := a9_.2
  have c8_ : 0 ≤ S0_.1 2 (kk_.toNat) 8 ∧ S0_.1 2 (kk_.toNat) 8 ≤ 150 := hI_.1 2 (kk_.toNat) 8 rfl
  have c1_ : 0 ≤ S0_.1 2 (kk_.toNat) 1 ∧ S0_.1 2 (kk_.toNat) 1 ≤ 12 := hI_.1 2 (kk_.toNat) 1 rfl
  have c2_ : 0 ≤ S0_.1 2 (kk_.toNat) 2 ∧ S0_.1 2 (kk_.toNat) 2 ≤ 6 := hI_.1 2 (kk_.toNat) 2 rfl
  refine sm_T_go 2 (c1 := (8, [some (.inr (.inr (some (12, 0)))), some (.inl kk_), some (.inl n_), some (.inl wh_), some (.inr (.inr (some (2, kk_.toNat))))], [.inl n_], S0_)) rfl ?_
  refine sm_T_b0 (a := 2) (z := 16) rfl (fun cx7_ => ?_) (fun cx7_ => ?_)
  · have cx7_ : n_ < 0 := of_decide_eq_true cx7_
    refine sm_T_go 1 (c1 := (25, [some (.inr (.inr (some (12, 0)))), some (.inl kk_), some (.inl n_), some (.inl wh_), some (.inr (.inr (some (2, kk_.toNat))))], [.inl 0], S0_)) rfl ?_
    refine sm_T_cale (d1_ := 0) (Q1_ := vq_265e 0 S0_) (Q2_ := (fun ex_ S1_ => ex_ ∈ ([0] : List Nat) ∧ vx_265e 0 S0_ S1_)) rfl rfl (by decide) (vc_265e 0 S0_ hI_ ) rfl (fun xx13_ Sx8_ px11_ => ?_) (fun u_ Sx8_ px11_ => ?_)
    · obtain ⟨px11m, hIx9_, hFx10_, px11_⟩ := px11_
      refine Or.inr ⟨_, _, rfl, by first | exact px11m | (simp only [List.mem_cons, List.not_mem_nil, or_false] at px11m ⊢; omega), hIx9_, ai_fr_tr hF_ (fr_le hFx10_ rfl), ?_⟩
      first | exact px11_.2 | exact px11_ | rfl
    · exact absurd rfl px11_.2.2.2.1
  · have cx7_ : ¬ (n_ < 0) := of_decide_eq_false cx7_
    refine sm_T_go 2 (c1 := (14, [some (.inr (.inr (some (12, 0)))), some (.inl kk_), some (.inl n_), some (.inl wh_), some (.inr (.inr (some (2, kk_.toNat))))], [.inr (.inr (some (2, kk_.toNat))), .inl n_], S0_)) rfl ?_
    refine sm_T_cal (d1 := 0) (Q1 := vq_55 kk_.toNat S0_) rfl rfl (by decide) (vc_55 kk_.toNat S0_ hI_ ) (fun u_ Sx14_ px17_ => ?_)
    obtain ⟨rfl, vx19_, rfl, px17_⟩ := px17_
    refine sm_T_br (a := 3) (z := 7) rfl (fun cx20_ => ?_) (fun cx20_ => ?_)
    · have cx20_ : vx19_ ≤ n_ := of_decide_eq_true cx20_
      refine sm_T_go 1 (c1 := (25, [some (.inr (.inr (some (12, 0)))), some (.inl kk_), some (.inl n_), some (.inl wh_), some (.inr (.inr (some (2, kk_.toNat))))], [.inl 0], S0_)) rfl ?_
      refine sm_T_cale (d1_ := 0) (Q1_ := vq_265e 0 S0_) (Q2_ := (fun ex_ S1_ => ex_ ∈ ([0] : List Nat) ∧ vx_265e 0 S0_ S1_)) rfl rfl (by decide) (vc_265e 0 S0_ hI_ ) rfl (fun xx26_ Sx21_ px24_ => ?_) (fun u_ Sx21_ px24_ => ?_)
      · obtain ⟨px24m, hIx22_, hFx23_, px24_⟩ := px24_
        refine Or.inr ⟨_, _, rfl, by first | exact px24m | (simp only [List.mem_cons, List.not_mem_nil, or_false] at px24m ⊢; omega), hIx22_, ai_fr_tr hF_ (fr_le hFx23_ rfl), ?_⟩
        first | exact px24_.2 | exact px24_ | rfl
      · exact absurd rfl px24_.2.2.2.1
    · have cx20_ : ¬ (vx19_ ≤ n_) := of_decide_eq_false cx20_
      refine sm_T_go 2 (c1 := (25, [some (.inr (.inr (some (12, 0)))), some (.inl kk_), some (.inl n_), some (.inl wh_), some (.inr (.inr (some (2, kk_.toNat))))], [.inl 1], S0_)) rfl ?_
      refine sm_T_cale (d1_ := 0) (Q1_ := vq_265e 1 S0_) (Q2_ := (fun ex_ S1_ => ex_ ∈ ([0] : List Nat) ∧ vx_265e 1 S0_ S1_)) rfl rfl (by decide) (vc_265e 1 S0_ hI_ ) rfl (fun xx32_ Sx27_ px30_ => ?_) (fun u_ Sx27_ px30_ => ?_)
      · exact absurd px30_.2.2.2.1 (by decide)
      obtain ⟨rfl, -, -, px30_, rfl⟩ := px30_
      refine sm_T_go 1 (c1 := (29, [some (.inr (.inr (some (12, 0)))), some (.inl kk_), some (.inl n_), some (.inl wh_), some (.inr (.inr (some (2, kk_.toNat))))], [.inl wh_], S0_)) rfl ?_
      refine sm_T_b0 (a := 2) (z := 12) rfl (fun cx33_ => ?_) (fun cx33_ => ?_)
      · have cx33_ : wh_ < 0 := of_decide_eq_true cx33_
        refine sm_T_go 1 (c1 := (42, [some (.inr (.inr (some (12, 0)))), some (.inl kk_), some (.inl n_), some (.inl wh_), some (.inr (.inr (some (2, kk_.toNat))))], [.inl 0], S0_)) rfl ?_
        refine sm_T_cale (d1_ := 0) (Q1_ := vq_266e 0 S0_) (Q2_ := (fun ex_ S1_ => ex_ ∈ ([1] : List Nat) ∧ vx_266e 0 S0_ S1_)) rfl rfl (by decide) (vc_266e 0 S0_ hI_ ) rfl (fun xx39_ Sx34_ px37_ => ?_) (fun u_ Sx34_ px37_ => ?_)
        · obtain ⟨px37m, hIx35_, hFx36_, px37_⟩ := px37_
          refine Or.inr ⟨_, _, rfl, by first | exact px37m | (simp only [List.mem_cons, List.not_mem_nil, or_false] at px37m ⊢; omega), hIx35_, ai_fr_tr hF_ (fr_le hFx36_ rfl), ?_⟩
          first | exact px37_.2 | exact px37_ | rfl
        · exact absurd rfl px37_.2.2.2.1
      · have cx33_ : ¬ (wh_ < 0) := of_decide_eq_false cx33_
        refine sm_T_go 2 (c1 := (34, [some (.inr (.inr (some (12, 0)))), some (.inl kk_), some (.inl n_), some (.inl wh_), some (.inr (.inr (some (2, kk_.toNat))))], [.inl 4, .inl wh_], S0_)) rfl ?_
        refine sm_T_br (a := 4) (z := 7) rfl (fun cx40_ => ?_) (fun cx40_ => ?_)
        · have cx40_ : 4 < wh_ := of_decide_eq_true cx40_
          refine sm_T_go 1 (c1 := (42, [some (.inr (.inr (some (12, 0)))), some (.inl kk_), some (.inl n_), some (.inl wh_), some (.inr (.inr (some (2, kk_.toNat))))], [.inl 0], S0_)) rfl ?_
          refine sm_T_cale (d1_ := 0) (Q1_ := vq_266e 0 S0_) (Q2_ := (fun ex_ S1_ => ex_ ∈ ([1] : List Nat) ∧ vx_266e 0 S0_ S1_)) rfl rfl (by decide) (vc_266e 0 S0_ hI_ ) rfl (fun xx46_ Sx41_ px44_ => ?_) (fun u_ Sx41_ px44_ => ?_)
          · obtain ⟨px44m, hIx42_, hFx43_, px44_⟩ := px44_
            refine Or.inr ⟨_, _, rfl, by first | exact px44m | (simp only [List.mem_cons, List.not_mem_nil, or_false] at px44m ⊢; omega), hIx42_, ai_fr_tr hF_ (fr_le hFx43_ rfl), ?_⟩
            first | exact px44_.2 | exact px44_ | rfl
          · exact absurd rfl px44_.2.2.2.1
        · have cx40_ : ¬ (4 < wh_) := of_decide_eq_false cx40_
          refine sm_T_go 2 (c1 := (42, [some (.inr (.inr (some (12, 0)))), some (.inl kk_), some (.inl n_), some (.inl wh_), some (.inr (.inr (some (2, kk_.toNat))))], [.inl 1], S0_)) rfl ?_
          refine sm_T_cale (d1_ := 0) (Q1_ := vq_266e 1 S0_) (Q2_ := (fun ex_ S1_ => ex_ ∈ ([1] : List Nat) ∧ vx_266e 1 S0_ S1_)) rfl rfl (by decide) (vc_266e 1 S0_ hI_ ) rfl (fun xx52_ Sx47_ px50_ => ?_) (fun u_ Sx47_ px50_ => ?_)
          · exact absurd px50_.2.2.2.1 (by decide)
          obtain ⟨rfl, -, -, px50_, rfl⟩ := px50_
          have bx53_ : 0 ≤ S0_.1 0 (0 + kk_.toNat) 11 ∧ S0_.1 0 (0 + kk_.toNat) 11 ≤ 1 := hI_.1 0 (0 + kk_.toNat) 11 rfl
          refine sm_T_go 3 (c1 := (53, [some (.inr (.inr (some (12, 0)))), some (.inl kk_), some (.inl n_), some (.inl wh_), some (.inr (.inr (some (2, kk_.toNat))))], [.inl (S0_.1 0 (0 + kk_.toNat) 11)], S0_)) rfl ?_
          refine sm_T_cale (d1_ := 0) (Q1_ := vq_267e (S0_.1 0 (0 + kk_.toNat) 11) S0_) (Q2_ := (fun ex_ S1_ => ex_ ∈ ([2] : List Nat) ∧ vx_267e (S0_.1 0 (0 + kk_.toNat) 11) S0_ S1_)) rfl rfl (by decide) (vc_267e (S0_.1 0 (0 + kk_.toNat) 11) S0_ hI_ ) rfl (fun xx59_ Sx54_ px57_ => ?_) (fun u_ Sx54_ px57_ => ?_)
          · obtain ⟨px57m, hIx55_, hFx56_, px57_⟩ := px57_
            refine Or.inr ⟨_, _, rfl, by first | exact px57m | (simp only [List.mem_cons, List.not_mem_nil, or_false] at px57m ⊢; omega), hIx55_, ai_fr_tr hF_ (fr_le hFx56_ rfl), ?_⟩
            first | exact px57_.2 | exact px57_ | rfl
          obtain ⟨rfl, -, -, px57_, rfl⟩ := px57_
          refine sm_T_go 2 (c1 := (58, [some (.inr (.inr (some (12, 0)))), some (.inl kk_), some (.inl n_), some (.inl wh_), some (.inr (.inr (some (2, kk_.toNat))))], [.inl 3, .inl wh_], S0_)) rfl ?_
          refine sm_T_br (a := 1) (z := 14) rfl (fun cx60_ => ?_) (fun cx60_ => ?_)
          · have cx60_ : wh_ ≠ 3 := of_decide_eq_true cx60_
            refine sm_T_go 2 (c1 := (74, [some (.inr (.inr (some (12, 0)))), some (.inl kk_), some (.inl n_), some (.inl wh_), some (.inr (.inr (some (2, kk_.toNat))))], [.inl 4, .inl wh_], S0_)) rfl ?_
            refine sm_T_br (a := 1) (z := 16) rfl (fun cx61_ => ?_) (fun cx61_ => ?_)
            · have cx61_ : wh_ ≠ 4 := of_decide_eq_true cx61_
              refine sm_T_go 4 (c1 := (97, [some (.inr (.inr (some (12, 0)))), some (.inl kk_), some (.inl n_), some (.inl wh_), some (.inr (.inr (some (2, kk_.toNat))))], [.inl wh_, .inl n_, .inr (.inr (some (0, (0 + kk_.toNat))))], S0_)) rfl ?_
              refine sm_T_cal (d1 := 1) (Q1 := vq_30 n_ wh_ (0 + kk_.toNat) S0_) rfl rfl (by decide) (vc_30 n_ wh_ (0 + kk_.toNat) S0_ hI_ (by omega)) (fun u_ Sx62_ px65_ => ?_)
              obtain ⟨rfl, vx67_, rfl, px65_⟩ := px65_
              refine sm_T_ri rfl (Or.inl ⟨_, _, rfl, _, rfl, hI_, hF_, ?_⟩)
              trivial
            · have cx61_ : ¬ (wh_ ≠ 4) := of_decide_eq_false cx61_
              refine sm_T_go 4 (c1 := (86, [some (.inr (.inr (some (12, 0)))), some (.inl kk_), some (.inl n_), some (.inl wh_), some (.inr (.inr (some (2, kk_.toNat))))], [.inl n_, .inr (.inr (some (20, (0 + (0 + kk_.toNat)))))], S0_)) rfl ?_
              refine sm_T_iald (n := 162) rfl rfl (by omega) (by omega) ?_
              have bx68_ : 0 ≤ S0_.2.2.1 20 (0 + (0 + kk_.toNat)) n_.toNat ∧ S0_.2.2.1 20 (0 + (0 + kk_.toNat)) n_.toNat ≤ 652 := hI_.2 20 (0 + (0 + kk_.toNat)) _
              refine sm_T_go 1 (c1 := (100, [some (.inr (.inr (some (12, 0)))), some (.inl kk_), some (.inl n_), some (.inl wh_), some (.inr (.inr (some (2, kk_.toNat))))], [.inl (S0_.2.2.1 20 (0 + (0 + kk_.toNat)) n_.toNat)], S0_)) rfl ?_
              refine sm_T_ri rfl (Or.inl ⟨_, _, rfl, _, rfl, hI_, hF_, ?_⟩)
              trivial
          · have cx60_ : ¬ (wh_ ≠ 3) := of_decide_eq_false cx60_
            refine sm_T_go 4 (c1 := (70, [some (.inr (.inr (some (12, 0)))), some (.inl kk_), some (.inl n_), some (.inl wh_), some (.inr (.inr (some (2, kk_.toNat))))], [.inl n_, .inr (.inr (some (24, (0 + (0 + kk_.toNat)))))], S0_)) rfl ?_
            refine sm_T_iald (n := 162) rfl rfl (by omega) (by omega) ?_
            have bx69_ : 0 ≤ S0_.2.2.1 24 (0 + (0 + kk_.toNat)) n_.toNat ∧ S0_.2.2.1 24 (0 + (0 + kk_.toNat)) n_.toNat ≤ 1 := hI_.2 24 (0 + (0 + kk_.toNat)) _
            refine sm_T_ri rfl (Or.inl ⟨_, _, rfl, _, rfl, hI_, hF_, ?_⟩)
            trivial
end
/-! 99.zp5c -/
section
/-! ChipFlow.check -/
def vw_250 : sx_Wl := ([(4, 3), (4, 8), (4, 9)], [50], [])
def vq_250 (kk_ : Int) (S0_ : sm_S) (u_ : Option sm_V) (S1_ : sm_S) : Prop := ∃ v_ : Int, u_ = some (.inl v_) ∧ gi S1_ ∧ ai_fr (sx_W vw_250) S0_ S1_ ∧ (jC S1_)
def vx_250 (kk_ : Int) (S0_ : sm_S) (S1_ : sm_S) : Prop := gi S1_ ∧ ai_fr (sx_W vw_250) S0_ S1_ ∧ (S1_ = S0_)
set_option maxHeartbeats 400000 in
theorem vc_250 {sc_ : Nat × (Nat → Int)} (kk_ : Int) (S0_ : sm_S) (hI_ : gi S0_) (hJ_ : jC S0_) : sm_T (mt_P sc_) 2 250 (0, [some (.inr (.inr (some (12, 0)))), some (.inl kk_), none], [], S0_) (fun ro9_ => (∃ u_ S1_, ro9_ = (.inl u_, S1_, 0) ∧ vq_250 kk_ S0_ u_ S1_) ∨ ∃ ex_ S1_, ro9_ = (.inr ex_, S1_, 1) ∧ ex_ ∈ ([0, 2] : List Nat) ∧ vx_250 kk_ S0_ S1_) := by
  have hF_ : ai_fr (sx_W vw_250) S0_ S0_ := ai_fr_rf
  refine sm_T_go 2 (c1 := (2, [some (.inr (.inr (some (12, 0)))), some (.inl kk_), none], [.inl kk_, .inr (.inr (some (12, 0)))], S0_)) rfl ?_
  refine sm_T_cale (d1_ := 1) (Q1_ := vq_272 kk_ S0_) (Q2_ := (fun ex_ S1_ => ex_ ∈ ([0] : List Nat) ∧ vx_272 kk_ S0_ S1_)) rfl rfl (by decide) (vc_272 kk_ S0_ hI_ ) rfl (fun xx6_ Sx1_ px4_ => ?_) (fun u_ Sx1_ px4_ => ?_)
  · obtain ⟨px4m, hIx2_, hFx3_, px4_⟩ := px4_
    refine Or.inr ⟨_, _, rfl, by first | exact px4m | (simp only [List.mem_cons, List.not_mem_nil, or_false] at px4m ⊢; omega), hIx2_, ai_fr_tr hF_ (fr_le hFx3_ rfl), ?_⟩
    first | exact px4_.2 | exact px4_ | rfl
  obtain ⟨rfl, -, -, rfl, px4_⟩ := px4_
  have a9_ := px4_
  have J9_ := hJ_.2.1 kk_.toNat (by omega) a9_.2
  have J1_ := J9_.1
  have q9_ := a9_.2
  have c8_ : 0 ≤ S0_.1 2 (kk_.toNat) 8 ∧ S0_.1 2 (kk_.toNat) 8 ≤ 150 := hI_.1 2 (kk_.toNat) 8 rfl
  have c1_ : 0 ≤ S0_.1 2 (kk_.toNat) 1 ∧ S0_.1 2 (kk_.toNat) 1 ≤ 12 := hI_.1 2 (kk_.toNat) 1 rfl
  have c2_ : 0 ≤ S0_.1 2 (kk_.toNat) 2 ∧ S0_.1 2 (kk_.toNat) 2 ≤ 6 := hI_.1 2 (kk_.toNat) 2 rfl
  have bx7_ : 0 ≤ S0_.1 4 (0 + (0 + kk_.toNat)) 0 ∧ S0_.1 4 (0 + (0 + kk_.toNat)) 0 ≤ 1 := hI_.1 4 (0 + (0 + kk_.toNat)) 0 rfl
  refine sm_T_go 5 (c1 := (16, [some (.inr (.inr (some (12, 0)))), some (.inl kk_), some (.inr (.inr (some (4, (0 + (0 + kk_.toNat))))))], [.inl (S0_.1 4 (0 + (0 + kk_.toNat)) 0)], S0_)) rfl ?_
  refine sm_T_cale (d1_ := 0) (Q1_ := vq_267e (S0_.1 4 (0 + (0 + kk_.toNat)) 0) S0_) (Q2_ := (fun ex_ S1_ => ex_ ∈ ([2] : List Nat) ∧ vx_267e (S0_.1 4 (0 + (0 + kk_.toNat)) 0) S0_ S1_)) rfl rfl (by decide) (vc_267e (S0_.1 4 (0 + (0 + kk_.toNat)) 0) S0_ hI_ ) rfl (fun xx13_ Sx8_ px11_ => ?_) (fun u_ Sx8_ px11_ => ?_)
  · obtain ⟨px11m, hIx9_, hFx10_, px11_⟩ := px11_
    refine Or.inr ⟨_, _, rfl, by first | exact px11m | (simp only [List.mem_cons, List.not_mem_nil, or_false] at px11m ⊢; omega), hIx9_, ai_fr_tr hF_ (fr_le hFx10_ rfl), ?_⟩
    first | exact px11_.2 | exact px11_ | rfl
  obtain ⟨rfl, -, -, px11_, rfl⟩ := px11_
  refine sm_T_go 1 (c1 := (20, [some (.inr (.inr (some (12, 0)))), some (.inl kk_), some (.inr (.inr (some (4, (0 + (0 + kk_.toNat))))))], [.inr (.inr (some (4, (0 + (0 + kk_.toNat)))))], S0_)) rfl ?_
  refine sm_T_cal (d1 := 1) (Q1 := vq_79 (0 + (0 + kk_.toNat)) S0_) rfl rfl (by decide) (vc_79 (0 + (0 + kk_.toNat)) S0_ hI_ ) (fun u_ Sx14_ px17_ => ?_)
  obtain ⟨rfl, hIx15_, hFx16_, px17_⟩ := px17_
  have hFx18_ : ai_fr (sx_W vw_250) S0_ Sx14_ := ai_fr_tr hF_ (fr_le hFx16_ rfl)
  obtain ⟨dx19_, px17_⟩ := px17_
  have bx20_ : 0 ≤ Sx14_.1 4 (0 + (0 + kk_.toNat)) 3 ∧ Sx14_.1 4 (0 + (0 + kk_.toNat)) 3 ≤ 1073741823 := hIx15_.1 4 (0 + (0 + kk_.toNat)) 3 rfl
  refine sm_T_go 2 (c1 := (27, [some (.inr (.inr (some (12, 0)))), some (.inl kk_), some (.inr (.inr (some (4, (0 + (0 + kk_.toNat))))))], [.inl (Sx14_.1 4 (0 + (0 + kk_.toNat)) 3)], Sx14_)) rfl ?_
  refine sm_T_ri rfl (Or.inl ⟨_, _, rfl, _, rfl, hIx15_, hFx18_, ?_⟩)
  exact jC_fr hJ_ hFx18_ (by decide) (by decide) (by decide) (by decide) (by decide) rfl rfl rfl rfl rfl rfl
end
/-! 99.zp5d -/
section
/-! ChipFlow.arrival -/
def vw_253 : sx_Wl := ([], [99, 100], [])
def vq_253 (kk_ : Int) (n_ : Int) (lt_ : Int) (S0_ : sm_S) (u_ : Option sm_V) (S1_ : sm_S) : Prop := ∃ v_ : Int, u_ = some (.inl v_) ∧ gi S1_ ∧ ai_fr (sx_W vw_253) S0_ S1_ ∧ (jC S1_)
def vx_253 (kk_ : Int) (n_ : Int) (lt_ : Int) (S0_ : sm_S) (S1_ : sm_S) : Prop := gi S1_ ∧ ai_fr (sx_W vw_253) S0_ S1_ ∧ (S1_ = S0_)
set_option maxHeartbeats 400000 in
theorem vc_253 {sc_ : Nat × (Nat → Int)} (kk_ : Int) (n_ : Int) (lt_ : Int) (S0_ : sm_S) (hI_ : gi S0_) (hJ_ : jC S0_) : sm_T (mt_P sc_) 3 253 (0, [some (.inr (.inr (some (12, 0)))), some (.inl kk_), some (.inl n_), some (.inl lt_), none], [], S0_) (fun ro9_ => (∃ u_ S1_, ro9_ = (.inl u_, S1_, 0) ∧ vq_253 kk_ n_ lt_ S0_ u_ S1_) ∨ ∃ ex_ S1_, ro9_ = (.inr ex_, S1_, 1) ∧ ex_ ∈ ([0] : List Nat) ∧ vx_253 kk_ n_ lt_ S0_ S1_) := by
  have hF_ : ai_fr (sx_W vw_253) S0_ S0_ := ai_fr_rf
  refine sm_T_go 2 (c1 := (2, [some (.inr (.inr (some (12, 0)))), some (.inl kk_), some (.inl n_), some (.inl lt_), none], [.inl kk_, .inr (.inr (some (12, 0)))], S0_)) rfl ?_
  refine sm_T_cale (d1_ := 1) (Q1_ := vq_272 kk_ S0_) (Q2_ := (fun ex_ S1_ => ex_ ∈ ([0] : List Nat) ∧ vx_272 kk_ S0_ S1_)) rfl rfl (by decide) (vc_272 kk_ S0_ hI_ ) rfl (fun xx6_ Sx1_ px4_ => ?_) (fun u_ Sx1_ px4_ => ?_)
  · obtain ⟨px4m, hIx2_, hFx3_, px4_⟩ := px4_
    refine Or.inr ⟨_, _, rfl, by first | exact px4m | (simp only [List.mem_cons, List.not_mem_nil, or_false] at px4m ⊢; omega), hIx2_, ai_fr_tr hF_ (fr_le hFx3_ rfl), ?_⟩
    first | exact px4_.2 | exact px4_ | rfl
  obtain ⟨rfl, -, -, rfl, px4_⟩ := px4_
  have a9_ := px4_
  have J9_ := hJ_.2.1 kk_.toNat (by omega) a9_.2
  have J1_ := J9_.1
  have q9_ := a9_.2
  have c8_ : 0 ≤ S0_.1 2 (kk_.toNat) 8 ∧ S0_.1 2 (kk_.toNat) 8 ≤ 150 := hI_.1 2 (kk_.toNat) 8 rfl
  have c1_ : 0 ≤ S0_.1 2 (kk_.toNat) 1 ∧ S0_.1 2 (kk_.toNat) 1 ≤ 12 := hI_.1 2 (kk_.toNat) 1 rfl
  have c2_ : 0 ≤ S0_.1 2 (kk_.toNat) 2 ∧ S0_.1 2 (kk_.toNat) 2 ≤ 6 := hI_.1 2 (kk_.toNat) 2 rfl
  refine sm_T_go 2 (c1 := (8, [some (.inr (.inr (some (12, 0)))), some (.inl kk_), some (.inl n_), some (.inl lt_), some (.inr (.inr (some (2, kk_.toNat))))], [.inl n_], S0_)) rfl ?_
  refine sm_T_b0 (a := 2) (z := 16) rfl (fun cx7_ => ?_) (fun cx7_ => ?_)
  · have cx7_ : n_ < 0 := of_decide_eq_true cx7_
    refine sm_T_go 1 (c1 := (25, [some (.inr (.inr (some (12, 0)))), some (.inl kk_), some (.inl n_), some (.inl lt_), some (.inr (.inr (some (2, kk_.toNat))))], [.inl 0], S0_)) rfl ?_
    refine sm_T_cale (d1_ := 0) (Q1_ := vq_265e 0 S0_) (Q2_ := (fun ex_ S1_ => ex_ ∈ ([0] : List Nat) ∧ vx_265e 0 S0_ S1_)) rfl rfl (by decide) (vc_265e 0 S0_ hI_ ) rfl (fun xx13_ Sx8_ px11_ => ?_) (fun u_ Sx8_ px11_ => ?_)
    · obtain ⟨px11m, hIx9_, hFx10_, px11_⟩ := px11_
      refine Or.inr ⟨_, _, rfl, by first | exact px11m | (simp only [List.mem_cons, List.not_mem_nil, or_false] at px11m ⊢; omega), hIx9_, ai_fr_tr hF_ (fr_le hFx10_ rfl), ?_⟩
      first | exact px11_.2 | exact px11_ | rfl
    · exact absurd rfl px11_.2.2.2.1
  · have cx7_ : ¬ (n_ < 0) := of_decide_eq_false cx7_
    refine sm_T_go 2 (c1 := (14, [some (.inr (.inr (some (12, 0)))), some (.inl kk_), some (.inl n_), some (.inl lt_), some (.inr (.inr (some (2, kk_.toNat))))], [.inr (.inr (some (2, kk_.toNat))), .inl n_], S0_)) rfl ?_
    refine sm_T_cal (d1 := 0) (Q1 := vq_55 kk_.toNat S0_) rfl rfl (by decide) (vc_55 kk_.toNat S0_ hI_ ) (fun u_ Sx14_ px17_ => ?_)
    obtain ⟨rfl, vx19_, rfl, px17_⟩ := px17_
    refine sm_T_br (a := 3) (z := 7) rfl (fun cx20_ => ?_) (fun cx20_ => ?_)
    · have cx20_ : vx19_ ≤ n_ := of_decide_eq_true cx20_
      refine sm_T_go 1 (c1 := (25, [some (.inr (.inr (some (12, 0)))), some (.inl kk_), some (.inl n_), some (.inl lt_), some (.inr (.inr (some (2, kk_.toNat))))], [.inl 0], S0_)) rfl ?_
      refine sm_T_cale (d1_ := 0) (Q1_ := vq_265e 0 S0_) (Q2_ := (fun ex_ S1_ => ex_ ∈ ([0] : List Nat) ∧ vx_265e 0 S0_ S1_)) rfl rfl (by decide) (vc_265e 0 S0_ hI_ ) rfl (fun xx26_ Sx21_ px24_ => ?_) (fun u_ Sx21_ px24_ => ?_)
      · obtain ⟨px24m, hIx22_, hFx23_, px24_⟩ := px24_
        refine Or.inr ⟨_, _, rfl, by first | exact px24m | (simp only [List.mem_cons, List.not_mem_nil, or_false] at px24m ⊢; omega), hIx22_, ai_fr_tr hF_ (fr_le hFx23_ rfl), ?_⟩
        first | exact px24_.2 | exact px24_ | rfl
      · exact absurd rfl px24_.2.2.2.1
    · have cx20_ : ¬ (vx19_ ≤ n_) := of_decide_eq_false cx20_
      refine sm_T_go 2 (c1 := (25, [some (.inr (.inr (some (12, 0)))), some (.inl kk_), some (.inl n_), some (.inl lt_), some (.inr (.inr (some (2, kk_.toNat))))], [.inl 1], S0_)) rfl ?_
      refine sm_T_cale (d1_ := 0) (Q1_ := vq_265e 1 S0_) (Q2_ := (fun ex_ S1_ => ex_ ∈ ([0] : List Nat) ∧ vx_265e 1 S0_ S1_)) rfl rfl (by decide) (vc_265e 1 S0_ hI_ ) rfl (fun xx32_ Sx27_ px30_ => ?_) (fun u_ Sx27_ px30_ => ?_)
      · exact absurd px30_.2.2.2.1 (by decide)
      obtain ⟨rfl, -, -, px30_, rfl⟩ := px30_
      refine sm_T_go 5 (c1 := (36, [some (.inr (.inr (some (12, 0)))), some (.inl kk_), some (.inl n_), some (.inl lt_), some (.inr (.inr (some (2, kk_.toNat))))], [.inl lt_, .inl n_, .inr (.inr (some (2, kk_.toNat))), .inr (.inr (some (11, 0)))], S0_)) rfl ?_
      refine sm_T_cal (d1 := 2) (Q1 := vq_197 n_ lt_ kk_.toNat S0_) rfl rfl (by decide) (vc_197 n_ lt_ kk_.toNat S0_ hI_ (by omega) (by omega)) (fun u_ Sx33_ px36_ => ?_)
      obtain ⟨vx38_, rfl, hIx34_, hFx35_, px36_⟩ := px36_
      have hFx37_ : ai_fr (sx_W vw_253) S0_ Sx33_ := ai_fr_tr hF_ (fr_le hFx35_ rfl)
      refine sm_T_ri rfl (Or.inl ⟨_, _, rfl, _, rfl, hIx34_, hFx37_, ?_⟩)
      exact jC_fr hJ_ hFx37_ (by decide) (by decide) (by decide) (by decide) (by decide) rfl rfl rfl rfl rfl rfl
end
/-! 99.zp5e -/
section
/-! ChipFlow.path -/
def vw_255 : sx_Wl := ([(11, 4), (11, 5), (11, 11)], [99, 101, 102, 103, 104, 105, 106], [(11, 3)])
def vq_255 (kk_ : Int) (k_ : Int) (wh_ : Int) (S0_ : sm_S) (u_ : Option sm_V) (S1_ : sm_S) : Prop := ∃ v_ : Int, u_ = some (.inl v_) ∧ gi S1_ ∧ ai_fr (sx_W vw_255) S0_ S1_ ∧ (jC S1_)
def vx_255 (kk_ : Int) (k_ : Int) (wh_ : Int) (S0_ : sm_S) (S1_ : sm_S) : Prop := gi S1_ ∧ ai_fr (sx_W vw_255) S0_ S1_ ∧ (S1_ = S0_)
set_option maxHeartbeats 400000 in
theorem vc_255 {sc_ : Nat × (Nat → Int)} (kk_ : Int) (k_ : Int) (wh_ : Int) (S0_ : sm_S) (hI_ : gi S0_) (hJ_ : jC S0_) : sm_T (mt_P sc_) 4 255 (0, [some (.inr (.inr (some (12, 0)))), some (.inl kk_), some (.inl k_), some (.inl wh_), none], [], S0_) (fun ro9_ => (∃ u_ S1_, ro9_ = (.inl u_, S1_, 0) ∧ vq_255 kk_ k_ wh_ S0_ u_ S1_) ∨ ∃ ex_ S1_, ro9_ = (.inr ex_, S1_, 1) ∧ ex_ ∈ ([0] : List Nat) ∧ vx_255 kk_ k_ wh_ S0_ S1_) := by
  have hF_ : ai_fr (sx_W vw_255) S0_ S0_ := ai_fr_rf
  refine sm_T_go 2 (c1 := (2, [some (.inr (.inr (some (12, 0)))), some (.inl kk_), some (.inl k_), some (.inl wh_), none], [.inl kk_, .inr (.inr (some (12, 0)))], S0_)) rfl ?_
  refine sm_T_cale (d1_ := 1) (Q1_ := vq_272 kk_ S0_) (Q2_ := (fun ex_ S1_ => ex_ ∈ ([0] : List Nat) ∧ vx_272 kk_ S0_ S1_)) rfl rfl (by decide) (vc_272 kk_ S0_ hI_ ) rfl (fun xx6_ Sx1_ px4_ => ?_) (fun u_ Sx1_ px4_ => ?_)
  · obtain ⟨px4m, hIx2_, hFx3_, px4_⟩ := px4_
    refine Or.inr ⟨_, _, rfl, by first | exact px4m | (simp only [List.mem_cons, List.not_mem_nil, or_false] at px4m ⊢; omega), hIx2_, ai_fr_tr hF_ (fr_le hFx3_ rfl), ?_⟩
    first | exact px4_.2 | exact px4_ | rfl
  obtain ⟨rfl, -, -, rfl, px4_⟩ := px4_
  have a9_ := px4_
  have J9_ := hJ_.2.1 kk_.toNat (by omega) a9_.2
  have J1_ := J9_.1
  have q9_ := a9_.2
  have c8_ : 0 ≤ S0_.1 2 (kk_.toNat) 8 ∧ S0_.1 2 (kk_.toNat) 8 ≤ 150 := hI_.1 2 (kk_.toNat) 8 rfl
  have c1_ : 0 ≤ S0_.1 2 (kk_.toNat) 1 ∧ S0_.1 2 (kk_.toNat) 1 ≤ 12 := hI_.1 2 (kk_.toNat) 1 rfl
  have c2_ : 0 ≤ S0_.1 2 (kk_.toNat) 2 ∧ S0_.1 2 (kk_.toNat) 2 ≤ 6 := hI_.1 2 (kk_.toNat) 2 rfl
  refine sm_T_go 2 (c1 := (8, [some (.inr (.inr (some (12, 0)))), some (.inl kk_), some (.inl k_), some (.inl wh_), some (.inr (.inr (some (2, kk_.toNat))))], [.inl k_], S0_)) rfl ?_
  refine sm_T_b0 (a := 2) (z := 13) rfl (fun cx7_ => ?_) (fun cx7_ => ?_)
  · have cx7_ : k_ < 0 := of_decide_eq_true cx7_
    refine sm_T_go 1 (c1 := (22, [some (.inr (.inr (some (12, 0)))), some (.inl kk_), some (.inl k_), some (.inl wh_), some (.inr (.inr (some (2, kk_.toNat))))], [.inl 0], S0_)) rfl ?_
    refine sm_T_cale (d1_ := 0) (Q1_ := vq_265e 0 S0_) (Q2_ := (fun ex_ S1_ => ex_ ∈ ([0] : List Nat) ∧ vx_265e 0 S0_ S1_)) rfl rfl (by decide) (vc_265e 0 S0_ hI_ ) rfl (fun xx13_ Sx8_ px11_ => ?_) (fun u_ Sx8_ px11_ => ?_)
    · obtain ⟨px11m, hIx9_, hFx10_, px11_⟩ := px11_
      refine Or.inr ⟨_, _, rfl, by first | exact px11m | (simp only [List.mem_cons, List.not_mem_nil, or_false] at px11m ⊢; omega), hIx9_, ai_fr_tr hF_ (fr_le hFx10_ rfl), ?_⟩
      first | exact px11_.2 | exact px11_ | rfl
    · exact absurd rfl px11_.2.2.2.1
  · have cx7_ : ¬ (k_ < 0) := of_decide_eq_false cx7_
    refine sm_T_go 2 (c1 := (14, [some (.inr (.inr (some (12, 0)))), some (.inl kk_), some (.inl k_), some (.inl wh_), some (.inr (.inr (some (2, kk_.toNat))))], [.inl 40, .inl k_], S0_)) rfl ?_
    refine sm_T_br (a := 3) (z := 7) rfl (fun cx14_ => ?_) (fun cx14_ => ?_)
    · have cx14_ : 40 ≤ k_ := of_decide_eq_true cx14_
      refine sm_T_go 1 (c1 := (22, [some (.inr (.inr (some (12, 0)))), some (.inl kk_), some (.inl k_), some (.inl wh_), some (.inr (.inr (some (2, kk_.toNat))))], [.inl 0], S0_)) rfl ?_
      refine sm_T_cale (d1_ := 0) (Q1_ := vq_265e 0 S0_) (Q2_ := (fun ex_ S1_ => ex_ ∈ ([0] : List Nat) ∧ vx_265e 0 S0_ S1_)) rfl rfl (by decide) (vc_265e 0 S0_ hI_ ) rfl (fun xx20_ Sx15_ px18_ => ?_) (fun u_ Sx15_ px18_ => ?_)
      · obtain ⟨px18m, hIx16_, hFx17_, px18_⟩ := px18_
        refine Or.inr ⟨_, _, rfl, by first | exact px18m | (simp only [List.mem_cons, List.not_mem_nil, or_false] at px18m ⊢; omega), hIx16_, ai_fr_tr hF_ (fr_le hFx17_ rfl), ?_⟩
        first | exact px18_.2 | exact px18_ | rfl
      · exact absurd rfl px18_.2.2.2.1
    · have cx14_ : ¬ (40 ≤ k_) := of_decide_eq_false cx14_
      refine sm_T_go 2 (c1 := (22, [some (.inr (.inr (some (12, 0)))), some (.inl kk_), some (.inl k_), some (.inl wh_), some (.inr (.inr (some (2, kk_.toNat))))], [.inl 1], S0_)) rfl ?_
      refine sm_T_cale (d1_ := 0) (Q1_ := vq_265e 1 S0_) (Q2_ := (fun ex_ S1_ => ex_ ∈ ([0] : List Nat) ∧ vx_265e 1 S0_ S1_)) rfl rfl (by decide) (vc_265e 1 S0_ hI_ ) rfl (fun xx26_ Sx21_ px24_ => ?_) (fun u_ Sx21_ px24_ => ?_)
      · exact absurd px24_.2.2.2.1 (by decide)
      obtain ⟨rfl, -, -, px24_, rfl⟩ := px24_
      refine sm_T_go 2 (c1 := (28, [some (.inr (.inr (some (12, 0)))), some (.inl kk_), some (.inl k_), some (.inl wh_), some (.inr (.inr (some (2, kk_.toNat))))], [.inl (-3), .inl wh_], S0_)) rfl ?_
      refine sm_T_br (a := 2) (z := 7) rfl (fun cx27_ => ?_) (fun cx27_ => ?_)
      · have cx27_ : wh_ < (-3) := of_decide_eq_true cx27_
        refine sm_T_go 1 (c1 := (36, [some (.inr (.inr (some (12, 0)))), some (.inl kk_), some (.inl k_), some (.inl wh_), some (.inr (.inr (some (2, kk_.toNat))))], [.inl 0], S0_)) rfl ?_
        refine sm_T_cale (d1_ := 0) (Q1_ := vq_265e 0 S0_) (Q2_ := (fun ex_ S1_ => ex_ ∈ ([0] : List Nat) ∧ vx_265e 0 S0_ S1_)) rfl rfl (by decide) (vc_265e 0 S0_ hI_ ) rfl (fun xx33_ Sx28_ px31_ => ?_) (fun u_ Sx28_ px31_ => ?_)
        · obtain ⟨px31m, hIx29_, hFx30_, px31_⟩ := px31_
          refine Or.inr ⟨_, _, rfl, by first | exact px31m | (simp only [List.mem_cons, List.not_mem_nil, or_false] at px31m ⊢; omega), hIx29_, ai_fr_tr hF_ (fr_le hFx30_ rfl), ?_⟩
          first | exact px31_.2 | exact px31_ | rfl
        · exact absurd rfl px31_.2.2.2.1
      · have cx27_ : ¬ (wh_ < (-3)) := of_decide_eq_false cx27_
        refine sm_T_go 2 (c1 := (36, [some (.inr (.inr (some (12, 0)))), some (.inl kk_), some (.inl k_), some (.inl wh_), some (.inr (.inr (some (2, kk_.toNat))))], [.inl 1], S0_)) rfl ?_
        refine sm_T_cale (d1_ := 0) (Q1_ := vq_265e 1 S0_) (Q2_ := (fun ex_ S1_ => ex_ ∈ ([0] : List Nat) ∧ vx_265e 1 S0_ S1_)) rfl rfl (by decide) (vc_265e 1 S0_ hI_ ) rfl (fun xx39_ Sx34_ px37_ => ?_) (fun u_ Sx34_ px37_ => ?_)
        · exact absurd px37_.2.2.2.1 (by decide)
        obtain ⟨rfl, -, -, px37_, rfl⟩ := px37_
        refine sm_T_go 3 (c1 := (45, [some (.inr (.inr (some (12, 0)))), some (.inl kk_), some (.inl k_), some (.inl wh_), some (.inr (.inr (some (2, kk_.toNat))))], [.inr (.inr (some (2, kk_.toNat))), .inr (.inr (some (11, 0)))], S0_)) rfl ?_
        refine sm_T_cal (d1 := 3) (Q1 := vq_199 kk_.toNat S0_) rfl rfl (by decide) (vc_199 kk_.toNat S0_ hI_ (by omega) (by exact hJ_.2.2.1)) (fun u_ Sx40_ px43_ => ?_)
        obtain ⟨rfl, hIx41_, hFx42_, px43_⟩ := px43_
        have hFx44_ : ai_fr (sx_W vw_255) S0_ Sx40_ := ai_fr_tr hF_ (fr_le hFx42_ rfl)
        have p45_ := px43_
        refine sm_T_go 4 (c1 := (54, [some (.inr (.inr (some (12, 0)))), some (.inl kk_), some (.inl k_), some (.inl wh_), some (.inr (.inr (some (2, kk_.toNat))))], [.inl wh_, .inl k_, .inr (.inr (some (11, 0)))], Sx40_)) rfl ?_
        refine sm_T_cal (d1 := 0) (Q1 := vq_198 k_ wh_ Sx40_) rfl rfl (by decide) (vc_198 k_ wh_ Sx40_ hIx41_ (by omega) (by exact p45_)) (fun u_ Sx45_ px48_ => ?_)
        obtain ⟨rfl, vx50_, rfl, px48_⟩ := px48_
        refine sm_T_ri rfl (Or.inl ⟨_, _, rfl, _, rfl, hIx41_, hFx44_, ?_⟩)
        exact jC_mk hJ_ hFx44_ p45_ (shn_fr hJ_.2.2.2 hFx44_) (by decide) (by decide) (by decide) (by decide) (by decide)
end
/-! 99.zp6a -/
section
/-! the face of the class: wires, layouts; written by wip/p55/gen/vg -/

/-! faces: wires, layouts -/
theorem jC_rt {w_ : sx_Wl} {i_ : Nat} {S_ S'_ : sm_S} (h_ : jC S_) (u_ : S_.1 2 i_ 0 = 1 ∧ i_ < 4) (g_ : ai_fr (sx_W w_) S_ S'_) (c_ : cdf i_ S_ S'_) (hst_ : bst (0 + i_) S'_) (ho_ : ∀ p_ : Nat, p_ < 4712 → S'_.2.2.1 22 (0 + (0 + i_)) p_ < S_.1 2 i_ 1 + S_.1 2 i_ 2 + S_.1 2 i_ 8) (d1_ : ∀ k_, k_ < 7 → (sx_W w_).1 3 k_ = false) (d2_ : ∀ t_, t_ < 48 → 42 ≤ t_ → (sx_W w_).2.1 t_ = false) (h2_ : ∀ k_, k_ < 9 → (sx_W w_).1 2 k_ = false) (h0_ : ∀ k_, k_ < 3 → (sx_W w_).1 0 k_ = false) (ha_ : ∀ t_, t_ < 21 → 14 ≤ t_ → (sx_W w_).2.1 t_ = false) (hb_ : (sx_W w_).2.1 34 = false := by rfl) (t1_ : (sx_W w_).1 11 5 = false := by rfl) (t2_ : (sx_W w_).2.1 102 = false := by rfl) (t3_ : (sx_W w_).2.1 104 = false := by rfl) (t4_ : (sx_W w_).2.1 105 = false := by rfl) (t5_ : (sx_W w_).2.1 95 = false := by rfl) : jC S'_ := by
  refine ⟨dAll_fr h_.1 g_ d1_ d2_, cAll_cd h_.2.1 c_ (fun _ => ?_), tpo_fr h_.2.2.1 g_ t1_ t2_ t3_ t4_, shn_fr h_.2.2.2 g_ t5_⟩
  obtain ⟨a1_, a2_, a3_, a4_, ⟨a5_, a6_, a7_⟩, a8_⟩ := h_.2.1 i_ u_.2 u_.1
  refine ⟨?_, ?_, ?_, ?_, ⟨bpn_fr a5_ g_ (ha_ _ (by decide) (by decide)) (ha_ _ (by decide) (by decide)) (ha_ _ (by decide) (by decide)) (ha_ _ (by decide) (by decide)), bpp_fr a6_ g_ (h2_ _ (by decide)) (h2_ _ (by decide)) (h2_ _ (by decide)) (h2_ _ (by decide)) (ha_ _ (by decide) (by decide)) (ha_ _ (by decide) (by decide)), ?_⟩, fun q_ => ⟨hst_, ?_⟩⟩
  · rw [g_.1 2 i_ 1 (h2_ _ (by decide)), g_.1 2 i_ 2 (h2_ _ (by decide)), g_.1 2 i_ 3 (h2_ _ (by decide))]; exact a1_
  · rw [g_.1 2 i_ 4 (h2_ _ (by decide)), g_.1 2 i_ 2 (h2_ _ (by decide))]; exact a2_
  · rw [g_.1 2 i_ 5 (h2_ _ (by decide)), g_.1 2 i_ 2 (h2_ _ (by decide))]; exact a3_
  · unfold ctb
    rw [fr_arr g_ hb_, g_.1 2 i_ 2 (h2_ _ (by decide))]; exact a4_
  · exact bpl_fr a7_ g_ (h0_ _ (by decide)) (h0_ _ (by decide)) (h0_ _ (by decide)) (h2_ _ (by decide)) (h2_ _ (by decide)) (h2_ _ (by decide)) (h2_ _ (by decide)) (ha_ _ (by decide) (by decide)) (ha_ _ (by decide) (by decide)) (ha_ _ (by decide) (by decide))
  · rw [g_.1 2 i_ 1 (h2_ _ (by decide)), g_.1 2 i_ 2 (h2_ _ (by decide)), g_.1 2 i_ 8 (h2_ _ (by decide))]; exact ho_
/-! ChipFlow.route -/
def vw_243 : sx_Wl := ([(0, 11), (4, 0), (8, 1), (8, 2), (8, 6), (8, 8), (8, 11), (8, 13)], [22, 23, 24, 85, 86, 87, 88, 89, 90, 91], [(8, 0)])
def vq_243 (kk_ : Int) (rd_ : Int) (S0_ : sm_S) (u_ : Option sm_V) (S1_ : sm_S) : Prop := ∃ v_ : Int, u_ = some (.inl v_) ∧ gi S1_ ∧ ai_fr (sx_W vw_243) S0_ S1_ ∧ (cdf kk_.toNat S0_ S1_ ∧ (jC S1_))
def vx_243 (kk_ : Int) (rd_ : Int) (S0_ : sm_S) (S1_ : sm_S) : Prop := gi S1_ ∧ ai_fr (sx_W vw_243) S0_ S1_ ∧ (S1_ = S0_)
set_option maxHeartbeats 400000 in
theorem vc_243 {sc_ : Nat × (Nat → Int)} (kk_ : Int) (rd_ : Int) (S0_ : sm_S) (hI_ : gi S0_) (hJ_ : jC S0_) : sm_T (mt_P sc_) 6 243 (0, [some (.inr (.inr (some (12, 0)))), some (.inl kk_), some (.inl rd_), none], [], S0_) (fun ro9_ => (∃ u_ S1_, ro9_ = (.inl u_, S1_, 0) ∧ vq_243 kk_ rd_ S0_ u_ S1_) ∨ ∃ ex_ S1_, ro9_ = (.inr ex_, S1_, 1) ∧ ex_ ∈ ([0, 1, 2] : List Nat) ∧ vx_243 kk_ rd_ S0_ S1_) := by
  have hF_ : ai_fr (sx_W vw_243) S0_ S0_ := ai_fr_rf
  have hC_ : cdf kk_.toNat S0_ S0_ := cdf_rf
  refine sm_T_go 2 (c1 := (2, [some (.inr (.inr (some (12, 0)))), some (.inl kk_), some (.inl rd_), none], [.inl kk_, .inr (.inr (some (12, 0)))], S0_)) rfl ?_
  refine sm_T_cale (d1_ := 1) (Q1_ := vq_272 kk_ S0_) (Q2_ := (fun ex_ S1_ => ex_ ∈ ([0] : List Nat) ∧ vx_272 kk_ S0_ S1_)) rfl rfl (by decide) (vc_272 kk_ S0_ hI_ ) rfl (fun xx6_ Sx1_ px4_ => ?_) (fun u_ Sx1_ px4_ => ?_)
  · obtain ⟨px4m, hIx2_, hFx3_, px4_⟩ := px4_
    refine Or.inr ⟨_, _, rfl, by first | exact px4m | (simp only [List.mem_cons, List.not_mem_nil, or_false] at px4m ⊢; omega), hIx2_, ai_fr_tr hF_ (fr_le hFx3_ rfl), ?_⟩
    first | exact px4_.2 | exact px4_ | rfl
  obtain ⟨rfl, -, -, rfl, px4_⟩ := px4_
  have a9_ := px4_
  have J9_ := hJ_.2.1 kk_.toNat (by omega) a9_.2
  have J1_ := J9_.1
  have q9_ := a9_.2
  have c8_ : 0 ≤ S0_.1 2 (kk_.toNat) 8 ∧ S0_.1 2 (kk_.toNat) 8 ≤ 150 := hI_.1 2 (kk_.toNat) 8 rfl
  have c1_ : 0 ≤ S0_.1 2 (kk_.toNat) 1 ∧ S0_.1 2 (kk_.toNat) 1 ≤ 12 := hI_.1 2 (kk_.toNat) 1 rfl
  have c2_ : 0 ≤ S0_.1 2 (kk_.toNat) 2 ∧ S0_.1 2 (kk_.toNat) 2 ≤ 6 := hI_.1 2 (kk_.toNat) 2 rfl
  refine sm_T_go 2 (c1 := (7, [some (.inr (.inr (some (12, 0)))), some (.inl kk_), some (.inl rd_), some (.inr (.inr (some (2, kk_.toNat))))], [.inl rd_], S0_)) rfl ?_
  refine sm_T_b0 (a := 2) (z := 13) rfl (fun cx7_ => ?_) (fun cx7_ => ?_)
  · have cx7_ : rd_ < 0 := of_decide_eq_true cx7_
    refine sm_T_go 1 (c1 := (21, [some (.inr (.inr (some (12, 0)))), some (.inl kk_), some (.inl rd_), some (.inr (.inr (some (2, kk_.toNat))))], [.inl 0], S0_)) rfl ?_
    refine sm_T_cale (d1_ := 0) (Q1_ := vq_266e 0 S0_) (Q2_ := (fun ex_ S1_ => ex_ ∈ ([1] : List Nat) ∧ vx_266e 0 S0_ S1_)) rfl rfl (by decide) (vc_266e 0 S0_ hI_ ) rfl (fun xx13_ Sx8_ px11_ => ?_) (fun u_ Sx8_ px11_ => ?_)
    · obtain ⟨px11m, hIx9_, hFx10_, px11_⟩ := px11_
      refine Or.inr ⟨_, _, rfl, by first | exact px11m | (simp only [List.mem_cons, List.not_mem_nil, or_false] at px11m ⊢; omega), hIx9_, ai_fr_tr hF_ (fr_le hFx10_ rfl), ?_⟩
      first | exact px11_.2 | exact px11_ | rfl
    · exact absurd rfl px11_.2.2.2.1
  · have cx7_ : ¬ (rd_ < 0) := of_decide_eq_false cx7_
    refine sm_T_go 2 (c1 := (13, [some (.inr (.inr (some (12, 0)))), some (.inl kk_), some (.inl rd_), some (.inr (.inr (some (2, kk_.toNat))))], [.inl 12, .inl rd_], S0_)) rfl ?_
    refine sm_T_br (a := 4) (z := 7) rfl (fun cx14_ => ?_) (fun cx14_ => ?_)
    · have cx14_ : 12 < rd_ := of_decide_eq_true cx14_
      refine sm_T_go 1 (c1 := (21, [some (.inr (.inr (some (12, 0)))), some (.inl kk_), some (.inl rd_), some (.inr (.inr (some (2, kk_.toNat))))], [.inl 0], S0_)) rfl ?_
      refine sm_T_cale (d1_ := 0) (Q1_ := vq_266e 0 S0_) (Q2_ := (fun ex_ S1_ => ex_ ∈ ([1] : List Nat) ∧ vx_266e 0 S0_ S1_)) rfl rfl (by decide) (vc_266e 0 S0_ hI_ ) rfl (fun xx20_ Sx15_ px18_ => ?_) (fun u_ Sx15_ px18_ => ?_)
      · obtain ⟨px18m, hIx16_, hFx17_, px18_⟩ := px18_
        refine Or.inr ⟨_, _, rfl, by first | exact px18m | (simp only [List.mem_cons, List.not_mem_nil, or_false] at px18m ⊢; omega), hIx16_, ai_fr_tr hF_ (fr_le hFx17_ rfl), ?_⟩
        first | exact px18_.2 | exact px18_ | rfl
      · exact absurd rfl px18_.2.2.2.1
    · have cx14_ : ¬ (12 < rd_) := of_decide_eq_false cx14_
      refine sm_T_go 2 (c1 := (21, [some (.inr (.inr (some (12, 0)))), some (.inl kk_), some (.inl rd_), some (.inr (.inr (some (2, kk_.toNat))))], [.inl 1], S0_)) rfl ?_
      refine sm_T_cale (d1_ := 0) (Q1_ := vq_266e 1 S0_) (Q2_ := (fun ex_ S1_ => ex_ ∈ ([1] : List Nat) ∧ vx_266e 1 S0_ S1_)) rfl rfl (by decide) (vc_266e 1 S0_ hI_ ) rfl (fun xx26_ Sx21_ px24_ => ?_) (fun u_ Sx21_ px24_ => ?_)
      · exact absurd px24_.2.2.2.1 (by decide)
      obtain ⟨rfl, -, -, px24_, rfl⟩ := px24_
      have bx27_ : 0 ≤ S0_.1 0 (0 + kk_.toNat) 1 ∧ S0_.1 0 (0 + kk_.toNat) 1 ≤ 12 := hI_.1 0 (0 + kk_.toNat) 1 rfl
      refine sm_T_go 3 (c1 := (31, [some (.inr (.inr (some (12, 0)))), some (.inl kk_), some (.inl rd_), some (.inr (.inr (some (2, kk_.toNat))))], [.inl (S0_.1 0 (0 + kk_.toNat) 1)], S0_)) rfl ?_
      refine sm_T_b0 (a := 5) (z := 7) rfl (fun cx28_ => ?_) (fun cx28_ => ?_)
      · have cx28_ : (S0_.1 0 (0 + kk_.toNat) 1) ≤ 0 := of_decide_eq_true cx28_
        refine sm_T_go 1 (c1 := (39, [some (.inr (.inr (some (12, 0)))), some (.inl kk_), some (.inl rd_), some (.inr (.inr (some (2, kk_.toNat))))], [.inl 0], S0_)) rfl ?_
        refine sm_T_cale (d1_ := 0) (Q1_ := vq_267e 0 S0_) (Q2_ := (fun ex_ S1_ => ex_ ∈ ([2] : List Nat) ∧ vx_267e 0 S0_ S1_)) rfl rfl (by decide) (vc_267e 0 S0_ hI_ ) rfl (fun xx34_ Sx29_ px32_ => ?_) (fun u_ Sx29_ px32_ => ?_)
        · obtain ⟨px32m, hIx30_, hFx31_, px32_⟩ := px32_
          refine Or.inr ⟨_, _, rfl, by first | exact px32m | (simp only [List.mem_cons, List.not_mem_nil, or_false] at px32m ⊢; omega), hIx30_, ai_fr_tr hF_ (fr_le hFx31_ rfl), ?_⟩
          first | exact px32_.2 | exact px32_ | rfl
        · exact absurd rfl px32_.2.2.2.1
      · have cx28_ : ¬ ((S0_.1 0 (0 + kk_.toNat) 1) ≤ 0) := of_decide_eq_false cx28_
        refine sm_T_go 2 (c1 := (39, [some (.inr (.inr (some (12, 0)))), some (.inl kk_), some (.inl rd_), some (.inr (.inr (some (2, kk_.toNat))))], [.inl 1], S0_)) rfl ?_
        refine sm_T_cale (d1_ := 0) (Q1_ := vq_267e 1 S0_) (Q2_ := (fun ex_ S1_ => ex_ ∈ ([2] : List Nat) ∧ vx_267e 1 S0_ S1_)) rfl rfl (by decide) (vc_267e 1 S0_ hI_ ) rfl (fun xx40_ Sx35_ px38_ => ?_) (fun u_ Sx35_ px38_ => ?_)
        · exact absurd px38_.2.2.2.1 (by decide)
        obtain ⟨rfl, -, -, px38_, rfl⟩ := px38_
        have hIx41_ : gi (sm_pI S0_ 4 (0 + (0 + kk_.toNat)) 0 0) := gi_pI hI_ (show 0 ≤ 0 ∧ 0 ≤ 1 from ⟨by omega, by omega⟩)
        have hFx42_ : ai_fr (sx_W vw_243) S0_ (sm_pI S0_ 4 (0 + (0 + kk_.toNat)) 0 0) := ai_fr_tr hF_ (ai_fr_pI rfl)
        have hCx43_ : cdf kk_.toNat S0_ (sm_pI S0_ 4 (0 + (0 + kk_.toNat)) 0 0) := cdf_pI hC_ (Or.inr (by rw [show cof 4 = 0 from rfl] <;> omega))
        refine sm_T_go 10 (c1 := (62, [some (.inr (.inr (some (12, 0)))), some (.inl kk_), some (.inl rd_), some (.inr (.inr (some (2, kk_.toNat))))], [.inr (.inr (some (2, kk_.toNat))), .inr (.inr (some (0, (0 + kk_.toNat)))), .inr (.inr (some (8, 0)))], sm_pI S0_ 4 (0 + (0 + kk_.toNat)) 0 0)) rfl ?_
        refine sm_T_cal (d1 := 0) (Q1 := vq_55 kk_.toNat (sm_pI S0_ 4 (0 + (0 + kk_.toNat)) 0 0)) rfl rfl (by decide) (vc_55 kk_.toNat (sm_pI S0_ 4 (0 + (0 + kk_.toNat)) 0 0) hIx41_ ) (fun u_ Sx44_ px47_ => ?_)
        obtain ⟨rfl, vx49_, rfl, px47_⟩ := px47_
        have n62_ := px47_
        refine sm_T_go 1 (c1 := (66, [some (.inr (.inr (some (12, 0)))), some (.inl kk_), some (.inl rd_), some (.inr (.inr (some (2, kk_.toNat))))], [.inl rd_, .inl vx49_, .inr (.inr (some (0, (0 + kk_.toNat)))), .inr (.inr (some (8, 0)))], sm_pI S0_ 4 (0 + (0 + kk_.toNat)) 0 0)) rfl ?_
        refine sm_T_cal (d1 := 5) (Q1 := vq_153 vx49_ rd_ (0 + kk_.toNat) kk_.toNat (sm_pI S0_ 4 (0 + (0 + kk_.toNat)) 0 0)) rfl rfl (by decide) (vc_153 vx49_ rd_ (0 + kk_.toNat) kk_.toNat (sm_pI S0_ 4 (0 + (0 + kk_.toNat)) 0 0) hIx41_ (by (simp only [rf_nt, ne_eq, Nat.reduceEqDiff, not_false_eq_true] at n62_; omega)) (by omega) (by exact bpn_fr J9_.2.2.2.2.1.1 hFx42_ rfl rfl rfl rfl) (by exact bpl_fr J9_.2.2.2.2.1.2.2 hFx42_ rfl rfl rfl rfl rfl rfl rfl rfl rfl rfl) (by exact bpp_fr J9_.2.2.2.2.1.2.1 hFx42_) (by (rw [hFx42_.1 0 (0 + kk_.toNat) 1 rfl]; omega))) (fun u_ Sx50_ px53_ => ?_)
        obtain ⟨vx55_, rfl, hIx51_, hFx52_, px53_⟩ := px53_
        have hFx54_ : ai_fr (sx_W vw_243) S0_ Sx50_ := ai_fr_tr hFx42_ (fr_le hFx52_ rfl)
        obtain ⟨dx57_, px53_⟩ := px53_
        have hCx56_ : cdf kk_.toNat S0_ Sx50_ := cdf_tr hCx43_ (cdf_cg (by omega) dx57_)
        have p66_ := px53_
        refine sm_T_ri rfl (Or.inl ⟨_, _, rfl, _, rfl, hIx51_, hFx54_, ?_⟩)
        refine ⟨hCx56_, ?_⟩
        exact jC_rt hJ_ ⟨a9_.2, by omega⟩ hFx54_ hCx56_ p66_.1 (fun p9_ h9_ => by (have z9_ := p66_.2 p9_ h9_; simp only [rf_nt, ne_eq, Nat.reduceEqDiff, not_false_eq_true] at n62_; omega)) (by decide) (by decide) (by decide) (by decide) (by decide)
end
/-! 99.zp6b -/
section
/-! ChipFlow.box -/
def vw_247 : sx_Wl := ([], [], [])
def vq_247 (kk_ : Int) (b_ : Int) (wh_ : Int) (S0_ : sm_S) (u_ : Option sm_V) (S1_ : sm_S) : Prop := ∃ v_ : Int, u_ = some (.inl v_) ∧ gi S1_ ∧ ai_fr (sx_W vw_247) S0_ S1_ ∧ (True)
def vx_247 (kk_ : Int) (b_ : Int) (wh_ : Int) (S0_ : sm_S) (S1_ : sm_S) : Prop := gi S1_ ∧ ai_fr (sx_W vw_247) S0_ S1_ ∧ (S1_ = S0_)
set_option maxHeartbeats 400000 in
theorem vc_247 {sc_ : Nat × (Nat → Int)} (kk_ : Int) (b_ : Int) (wh_ : Int) (S0_ : sm_S) (hI_ : gi S0_) (hJ_ : jC S0_) : sm_T (mt_P sc_) 2 247 (0, [some (.inr (.inr (some (12, 0)))), some (.inl kk_), some (.inl b_), some (.inl wh_), none], [], S0_) (fun ro9_ => (∃ u_ S1_, ro9_ = (.inl u_, S1_, 0) ∧ vq_247 kk_ b_ wh_ S0_ u_ S1_) ∨ ∃ ex_ S1_, ro9_ = (.inr ex_, S1_, 1) ∧ ex_ ∈ ([0, 1, 2] : List Nat) ∧ vx_247 kk_ b_ wh_ S0_ S1_) := by
  have hF_ : ai_fr (sx_W vw_247) S0_ S0_ := ai_fr_rf
  refine sm_T_go 2 (c1 := (2, [some (.inr (.inr (some (12, 0)))), some (.inl kk_), some (.inl b_), some (.inl wh_), none], [.inl kk_, .inr (.inr (some (12, 0)))], S0_)) rfl ?_
  refine sm_T_cale (d1_ := 1) (Q1_ := vq_272 kk_ S0_) (Q2_ := (fun ex_ S1_ => ex_ ∈ ([0] : List Nat) ∧ vx_272 kk_ S0_ S1_)) rfl rfl (by decide) (vc_272 kk_ S0_ hI_ ) rfl (fun xx6_ Sx1_ px4_ => ?_) (fun u_ Sx1_ px4_ => ?_)
  · obtain ⟨px4m, hIx2_, hFx3_, px4_⟩ := px4_
    refine Or.inr ⟨_, _, rfl, by first | exact px4m | (simp only [List.mem_cons, List.not_mem_nil, or_false] at px4m ⊢; omega), hIx2_, ai_fr_tr hF_ (fr_le hFx3_ rfl), ?_⟩
    first | exact px4_.2 | exact px4_ | rfl
  obtain ⟨rfl, -, -, rfl, px4_⟩ := px4_
  have a9_ := px4_
  have J9_ := hJ_.2.1 kk_.toNat (by omega) a9_.2
  have J1_ := J9_.1
  have q9_ := a9_.2
  have c8_ : 0 ≤ S0_.1 2 (kk_.toNat) 8 ∧ S0_.1 2 (kk_.toNat) 8 ≤ 150 := hI_.1 2 (kk_.toNat) 8 rfl
  have c1_ : 0 ≤ S0_.1 2 (kk_.toNat) 1 ∧ S0_.1 2 (kk_.toNat) 1 ≤ 12 := hI_.1 2 (kk_.toNat) 1 rfl
  have c2_ : 0 ≤ S0_.1 2 (kk_.toNat) 2 ∧ S0_.1 2 (kk_.toNat) 2 ≤ 6 := hI_.1 2 (kk_.toNat) 2 rfl
  refine sm_T_go 5 (c1 := (15, [some (.inr (.inr (some (12, 0)))), some (.inl kk_), some (.inl b_), some (.inl wh_), some (.inr (.inr (some (4, (0 + (0 + kk_.toNat))))))], [.inl (-1), .inl b_], S0_)) rfl ?_
  refine sm_T_br (a := 2) (z := 24) rfl (fun cx7_ => ?_) (fun cx7_ => ?_)
  · have cx7_ : b_ < (-1) := of_decide_eq_true cx7_
    refine sm_T_go 1 (c1 := (40, [some (.inr (.inr (some (12, 0)))), some (.inl kk_), some (.inl b_), some (.inl wh_), some (.inr (.inr (some (4, (0 + (0 + kk_.toNat))))))], [.inl 0], S0_)) rfl ?_
    refine sm_T_cale (d1_ := 0) (Q1_ := vq_265e 0 S0_) (Q2_ := (fun ex_ S1_ => ex_ ∈ ([0] : List Nat) ∧ vx_265e 0 S0_ S1_)) rfl rfl (by decide) (vc_265e 0 S0_ hI_ ) rfl (fun xx13_ Sx8_ px11_ => ?_) (fun u_ Sx8_ px11_ => ?_)
    · obtain ⟨px11m, hIx9_, hFx10_, px11_⟩ := px11_
      refine Or.inr ⟨_, _, rfl, by first | exact px11m | (simp only [List.mem_cons, List.not_mem_nil, or_false] at px11m ⊢; omega), hIx9_, ai_fr_tr hF_ (fr_le hFx10_ rfl), ?_⟩
      first | exact px11_.2 | exact px11_ | rfl
    · exact absurd rfl px11_.2.2.2.1
  · have cx7_ : ¬ (b_ < (-1)) := of_decide_eq_false cx7_
    have bx14_ : 0 ≤ S0_.1 4 (0 + (0 + kk_.toNat)) 0 ∧ S0_.1 4 (0 + (0 + kk_.toNat)) 0 ≤ 1 := hI_.1 4 (0 + (0 + kk_.toNat)) 0 rfl
    refine sm_T_go 2 (c1 := (23, [some (.inr (.inr (some (12, 0)))), some (.inl kk_), some (.inl b_), some (.inl wh_), some (.inr (.inr (some (4, (0 + (0 + kk_.toNat))))))], [.inl (S0_.1 4 (0 + (0 + kk_.toNat)) 0)], S0_)) rfl ?_
    refine sm_T_b0 (a := 0) (z := 12) rfl (fun cx15_ => ?_) (fun cx15_ => ?_)
    · have cx15_ : (S0_.1 4 (0 + (0 + kk_.toNat)) 0) = 0 := of_decide_eq_true cx15_
      refine sm_T_go 2 (c1 := (40, [some (.inr (.inr (some (12, 0)))), some (.inl kk_), some (.inl b_), some (.inl wh_), some (.inr (.inr (some (4, (0 + (0 + kk_.toNat))))))], [.inl 1], S0_)) rfl ?_
      refine sm_T_cale (d1_ := 0) (Q1_ := vq_265e 1 S0_) (Q2_ := (fun ex_ S1_ => ex_ ∈ ([0] : List Nat) ∧ vx_265e 1 S0_ S1_)) rfl rfl (by decide) (vc_265e 1 S0_ hI_ ) rfl (fun xx21_ Sx16_ px19_ => ?_) (fun u_ Sx16_ px19_ => ?_)
      · exact absurd px19_.2.2.2.1 (by decide)
      obtain ⟨rfl, -, -, px19_, rfl⟩ := px19_
      refine sm_T_go 1 (c1 := (44, [some (.inr (.inr (some (12, 0)))), some (.inl kk_), some (.inl b_), some (.inl wh_), some (.inr (.inr (some (4, (0 + (0 + kk_.toNat))))))], [.inl wh_], S0_)) rfl ?_
      refine sm_T_b0 (a := 2) (z := 21) rfl (fun cx22_ => ?_) (fun cx22_ => ?_)
      · have cx22_ : wh_ < 0 := of_decide_eq_true cx22_
        refine sm_T_go 1 (c1 := (66, [some (.inr (.inr (some (12, 0)))), some (.inl kk_), some (.inl b_), some (.inl wh_), some (.inr (.inr (some (4, (0 + (0 + kk_.toNat))))))], [.inl 0], S0_)) rfl ?_
        refine sm_T_cale (d1_ := 0) (Q1_ := vq_266e 0 S0_) (Q2_ := (fun ex_ S1_ => ex_ ∈ ([1] : List Nat) ∧ vx_266e 0 S0_ S1_)) rfl rfl (by decide) (vc_266e 0 S0_ hI_ ) rfl (fun xx28_ Sx23_ px26_ => ?_) (fun u_ Sx23_ px26_ => ?_)
        · obtain ⟨px26m, hIx24_, hFx25_, px26_⟩ := px26_
          refine Or.inr ⟨_, _, rfl, by first | exact px26m | (simp only [List.mem_cons, List.not_mem_nil, or_false] at px26m ⊢; omega), hIx24_, ai_fr_tr hF_ (fr_le hFx25_ rfl), ?_⟩
          first | exact px26_.2 | exact px26_ | rfl
        · exact absurd rfl px26_.2.2.2.1
      · have cx22_ : ¬ (wh_ < 0) := of_decide_eq_false cx22_
        refine sm_T_go 3 (c1 := (50, [some (.inr (.inr (some (12, 0)))), some (.inl kk_), some (.inl b_), some (.inl wh_), some (.inr (.inr (some (4, (0 + (0 + kk_.toNat))))))], [.inl (-1), .inl b_, .inl wh_], S0_)) rfl ?_
        refine sm_T_br (a := 1) (z := 7) rfl (fun cx29_ => ?_) (fun cx29_ => ?_)
        · have cx29_ : b_ ≠ (-1) := of_decide_eq_true cx29_
          refine sm_T_go 1 (c1 := (58, [some (.inr (.inr (some (12, 0)))), some (.inl kk_), some (.inl b_), some (.inl wh_), some (.inr (.inr (some (4, (0 + (0 + kk_.toNat))))))], [.inl 4, .inl wh_], S0_)) rfl ?_
          refine sm_T_br (a := 4) (z := 7) rfl (fun cx30_ => ?_) (fun cx30_ => ?_)
          · have cx30_ : 4 < wh_ := of_decide_eq_true cx30_
            refine sm_T_go 1 (c1 := (66, [some (.inr (.inr (some (12, 0)))), some (.inl kk_), some (.inl b_), some (.inl wh_), some (.inr (.inr (some (4, (0 + (0 + kk_.toNat))))))], [.inl 0], S0_)) rfl ?_
            refine sm_T_cale (d1_ := 0) (Q1_ := vq_266e 0 S0_) (Q2_ := (fun ex_ S1_ => ex_ ∈ ([1] : List Nat) ∧ vx_266e 0 S0_ S1_)) rfl rfl (by decide) (vc_266e 0 S0_ hI_ ) rfl (fun xx36_ Sx31_ px34_ => ?_) (fun u_ Sx31_ px34_ => ?_)
            · obtain ⟨px34m, hIx32_, hFx33_, px34_⟩ := px34_
              refine Or.inr ⟨_, _, rfl, by first | exact px34m | (simp only [List.mem_cons, List.not_mem_nil, or_false] at px34m ⊢; omega), hIx32_, ai_fr_tr hF_ (fr_le hFx33_ rfl), ?_⟩
              first | exact px34_.2 | exact px34_ | rfl
            · exact absurd rfl px34_.2.2.2.1
          · have cx30_ : ¬ (4 < wh_) := of_decide_eq_false cx30_
            refine sm_T_go 2 (c1 := (66, [some (.inr (.inr (some (12, 0)))), some (.inl kk_), some (.inl b_), some (.inl wh_), some (.inr (.inr (some (4, (0 + (0 + kk_.toNat))))))], [.inl 1], S0_)) rfl ?_
            refine sm_T_cale (d1_ := 0) (Q1_ := vq_266e 1 S0_) (Q2_ := (fun ex_ S1_ => ex_ ∈ ([1] : List Nat) ∧ vx_266e 1 S0_ S1_)) rfl rfl (by decide) (vc_266e 1 S0_ hI_ ) rfl (fun xx42_ Sx37_ px40_ => ?_) (fun u_ Sx37_ px40_ => ?_)
            · exact absurd px40_.2.2.2.1 (by decide)
            obtain ⟨rfl, -, -, px40_, rfl⟩ := px40_
            refine sm_T_go 2 (c1 := (74, [some (.inr (.inr (some (12, 0)))), some (.inl kk_), some (.inl b_), some (.inl wh_), some (.inr (.inr (some (4, (0 + (0 + kk_.toNat))))))], [.inl (S0_.1 4 (0 + (0 + kk_.toNat)) 0)], S0_)) rfl ?_
            refine sm_T_cale (d1_ := 0) (Q1_ := vq_267e (S0_.1 4 (0 + (0 + kk_.toNat)) 0) S0_) (Q2_ := (fun ex_ S1_ => ex_ ∈ ([2] : List Nat) ∧ vx_267e (S0_.1 4 (0 + (0 + kk_.toNat)) 0) S0_ S1_)) rfl rfl (by decide) (vc_267e (S0_.1 4 (0 + (0 + kk_.toNat)) 0) S0_ hI_ ) rfl (fun xx48_ Sx43_ px46_ => ?_) (fun u_ Sx43_ px46_ => ?_)
            · obtain ⟨px46m, hIx44_, hFx45_, px46_⟩ := px46_
              refine Or.inr ⟨_, _, rfl, by first | exact px46m | (simp only [List.mem_cons, List.not_mem_nil, or_false] at px46m ⊢; omega), hIx44_, ai_fr_tr hF_ (fr_le hFx45_ rfl), ?_⟩
              first | exact px46_.2 | exact px46_ | rfl
            obtain ⟨rfl, -, -, px46_, rfl⟩ := px46_
            refine sm_T_go 2 (c1 := (79, [some (.inr (.inr (some (12, 0)))), some (.inl kk_), some (.inl b_), some (.inl wh_), some (.inr (.inr (some (4, (0 + (0 + kk_.toNat))))))], [.inl (-1), .inl b_], S0_)) rfl ?_
            refine sm_T_br (a := 1) (z := 11) rfl (fun cx49_ => ?_) (fun cx49_ => ?_)
            · have cx49_ : b_ ≠ (-1) := of_decide_eq_true cx49_
              refine sm_T_go 4 (c1 := (97, [some (.inr (.inr (some (12, 0)))), some (.inl kk_), some (.inl b_), some (.inl wh_), some (.inr (.inr (some (4, (0 + (0 + kk_.toNat))))))], [.inl b_, .inl 5, .inr (.inr (some (48, (0 + (0 + (0 + kk_.toNat))))))], S0_)) rfl ?_
              refine sm_T_bin (w := 5 * b_) rfl (bi_mul (by omega) (by omega) (by omega)) ?_ -- pc_ 97
              refine sm_T_go 1 (c1 := (99, [some (.inr (.inr (some (12, 0)))), some (.inl kk_), some (.inl b_), some (.inl wh_), some (.inr (.inr (some (4, (0 + (0 + kk_.toNat))))))], [.inl wh_, .inl (5 * b_), .inr (.inr (some (48, (0 + (0 + (0 + kk_.toNat))))))], S0_)) rfl ?_
              refine sm_T_bin (w := 5 * b_ + wh_) rfl (bi_add (by omega) (by omega) (by omega)) ?_ -- pc_ 99
              refine sm_T_iald (n := 10000) rfl rfl (by omega) (by omega) ?_
              have bx50_ : (-1000) ≤ S0_.2.2.1 48 (0 + (0 + (0 + kk_.toNat))) (5 * b_ + wh_).toNat ∧ S0_.2.2.1 48 (0 + (0 + (0 + kk_.toNat))) (5 * b_ + wh_).toNat ≤ 1000 := hI_.2 48 (0 + (0 + (0 + kk_.toNat))) _
              refine sm_T_ri rfl (Or.inl ⟨_, _, rfl, _, rfl, hI_, hF_, ?_⟩)
              trivial
            · have cx49_ : ¬ (b_ ≠ (-1)) := of_decide_eq_false cx49_
              exfalso; omega
        · have cx29_ : ¬ (b_ ≠ (-1)) := of_decide_eq_false cx29_
          refine sm_T_go 2 (c1 := (58, [some (.inr (.inr (some (12, 0)))), some (.inl kk_), some (.inl b_), some (.inl wh_), some (.inr (.inr (some (4, (0 + (0 + kk_.toNat))))))], [.inl 0, .inl wh_], S0_)) rfl ?_
          refine sm_T_br (a := 4) (z := 7) rfl (fun cx51_ => ?_) (fun cx51_ => ?_)
          · have cx51_ : 0 < wh_ := of_decide_eq_true cx51_
            refine sm_T_go 1 (c1 := (66, [some (.inr (.inr (some (12, 0)))), some (.inl kk_), some (.inl b_), some (.inl wh_), some (.inr (.inr (some (4, (0 + (0 + kk_.toNat))))))], [.inl 0], S0_)) rfl ?_
            refine sm_T_cale (d1_ := 0) (Q1_ := vq_266e 0 S0_) (Q2_ := (fun ex_ S1_ => ex_ ∈ ([1] : List Nat) ∧ vx_266e 0 S0_ S1_)) rfl rfl (by decide) (vc_266e 0 S0_ hI_ ) rfl (fun xx57_ Sx52_ px55_ => ?_) (fun u_ Sx52_ px55_ => ?_)
            · obtain ⟨px55m, hIx53_, hFx54_, px55_⟩ := px55_
              refine Or.inr ⟨_, _, rfl, by first | exact px55m | (simp only [List.mem_cons, List.not_mem_nil, or_false] at px55m ⊢; omega), hIx53_, ai_fr_tr hF_ (fr_le hFx54_ rfl), ?_⟩
              first | exact px55_.2 | exact px55_ | rfl
            · exact absurd rfl px55_.2.2.2.1
          · have cx51_ : ¬ (0 < wh_) := of_decide_eq_false cx51_
            refine sm_T_go 2 (c1 := (66, [some (.inr (.inr (some (12, 0)))), some (.inl kk_), some (.inl b_), some (.inl wh_), some (.inr (.inr (some (4, (0 + (0 + kk_.toNat))))))], [.inl 1], S0_)) rfl ?_
            refine sm_T_cale (d1_ := 0) (Q1_ := vq_266e 1 S0_) (Q2_ := (fun ex_ S1_ => ex_ ∈ ([1] : List Nat) ∧ vx_266e 1 S0_ S1_)) rfl rfl (by decide) (vc_266e 1 S0_ hI_ ) rfl (fun xx63_ Sx58_ px61_ => ?_) (fun u_ Sx58_ px61_ => ?_)
            · exact absurd px61_.2.2.2.1 (by decide)
            obtain ⟨rfl, -, -, px61_, rfl⟩ := px61_
            refine sm_T_go 2 (c1 := (74, [some (.inr (.inr (some (12, 0)))), some (.inl kk_), some (.inl b_), some (.inl wh_), some (.inr (.inr (some (4, (0 + (0 + kk_.toNat))))))], [.inl (S0_.1 4 (0 + (0 + kk_.toNat)) 0)], S0_)) rfl ?_
            refine sm_T_cale (d1_ := 0) (Q1_ := vq_267e (S0_.1 4 (0 + (0 + kk_.toNat)) 0) S0_) (Q2_ := (fun ex_ S1_ => ex_ ∈ ([2] : List Nat) ∧ vx_267e (S0_.1 4 (0 + (0 + kk_.toNat)) 0) S0_ S1_)) rfl rfl (by decide) (vc_267e (S0_.1 4 (0 + (0 + kk_.toNat)) 0) S0_ hI_ ) rfl (fun xx69_ Sx64_ px67_ => ?_) (fun u_ Sx64_ px67_ => ?_)
            · obtain ⟨px67m, hIx65_, hFx66_, px67_⟩ := px67_
              refine Or.inr ⟨_, _, rfl, by first | exact px67m | (simp only [List.mem_cons, List.not_mem_nil, or_false] at px67m ⊢; omega), hIx65_, ai_fr_tr hF_ (fr_le hFx66_ rfl), ?_⟩
              first | exact px67_.2 | exact px67_ | rfl
            obtain ⟨rfl, -, -, px67_, rfl⟩ := px67_
            refine sm_T_go 2 (c1 := (79, [some (.inr (.inr (some (12, 0)))), some (.inl kk_), some (.inl b_), some (.inl wh_), some (.inr (.inr (some (4, (0 + (0 + kk_.toNat))))))], [.inl (-1), .inl b_], S0_)) rfl ?_
            refine sm_T_br (a := 1) (z := 11) rfl (fun cx70_ => ?_) (fun cx70_ => ?_)
            · have cx70_ : b_ ≠ (-1) := of_decide_eq_true cx70_
              exfalso; omega
            · have cx70_ : ¬ (b_ ≠ (-1)) := of_decide_eq_false cx70_
              have bx71_ : 0 ≤ S0_.1 4 (0 + (0 + kk_.toNat)) 1 ∧ S0_.1 4 (0 + (0 + kk_.toNat)) 1 ≤ 2000 := hI_.1 4 (0 + (0 + kk_.toNat)) 1 rfl
              refine sm_T_go 3 (c1 := (101, [some (.inr (.inr (some (12, 0)))), some (.inl kk_), some (.inl b_), some (.inl wh_), some (.inr (.inr (some (4, (0 + (0 + kk_.toNat))))))], [.inl (S0_.1 4 (0 + (0 + kk_.toNat)) 1)], S0_)) rfl ?_
              refine sm_T_ri rfl (Or.inl ⟨_, _, rfl, _, rfl, hI_, hF_, ?_⟩)
              trivial
    · have cx15_ : ¬ ((S0_.1 4 (0 + (0 + kk_.toNat)) 0) = 0) := of_decide_eq_false cx15_
      have bx72_ : 0 ≤ S0_.1 4 (0 + (0 + kk_.toNat)) 1 ∧ S0_.1 4 (0 + (0 + kk_.toNat)) 1 ≤ 2000 := hI_.1 4 (0 + (0 + kk_.toNat)) 1 rfl
      refine sm_T_go 3 (c1 := (32, [some (.inr (.inr (some (12, 0)))), some (.inl kk_), some (.inl b_), some (.inl wh_), some (.inr (.inr (some (4, (0 + (0 + kk_.toNat))))))], [.inl (S0_.1 4 (0 + (0 + kk_.toNat)) 1), .inl b_], S0_)) rfl ?_
      refine sm_T_br (a := 3) (z := 7) rfl (fun cx73_ => ?_) (fun cx73_ => ?_)
      · have cx73_ : (S0_.1 4 (0 + (0 + kk_.toNat)) 1) ≤ b_ := of_decide_eq_true cx73_
        refine sm_T_go 1 (c1 := (40, [some (.inr (.inr (some (12, 0)))), some (.inl kk_), some (.inl b_), some (.inl wh_), some (.inr (.inr (some (4, (0 + (0 + kk_.toNat))))))], [.inl 0], S0_)) rfl ?_
        refine sm_T_cale (d1_ := 0) (Q1_ := vq_265e 0 S0_) (Q2_ := (fun ex_ S1_ => ex_ ∈ ([0] : List Nat) ∧ vx_265e 0 S0_ S1_)) rfl rfl (by decide) (vc_265e 0 S0_ hI_ ) rfl (fun xx79_ Sx74_ px77_ => ?_) (fun u_ Sx74_ px77_ => ?_)
        · obtain ⟨px77m, hIx75_, hFx76_, px77_⟩ := px77_
          refine Or.inr ⟨_, _, rfl, by first | exact px77m | (simp only [List.mem_cons, List.not_mem_nil, or_false] at px77m ⊢; omega), hIx75_, ai_fr_tr hF_ (fr_le hFx76_ rfl), ?_⟩
          first | exact px77_.2 | exact px77_ | rfl
        · exact absurd rfl px77_.2.2.2.1
      · have cx73_ : ¬ ((S0_.1 4 (0 + (0 + kk_.toNat)) 1) ≤ b_) := of_decide_eq_false cx73_
        refine sm_T_go 2 (c1 := (40, [some (.inr (.inr (some (12, 0)))), some (.inl kk_), some (.inl b_), some (.inl wh_), some (.inr (.inr (some (4, (0 + (0 + kk_.toNat))))))], [.inl 1], S0_)) rfl ?_
        refine sm_T_cale (d1_ := 0) (Q1_ := vq_265e 1 S0_) (Q2_ := (fun ex_ S1_ => ex_ ∈ ([0] : List Nat) ∧ vx_265e 1 S0_ S1_)) rfl rfl (by decide) (vc_265e 1 S0_ hI_ ) rfl (fun xx85_ Sx80_ px83_ => ?_) (fun u_ Sx80_ px83_ => ?_)
        · exact absurd px83_.2.2.2.1 (by decide)
        obtain ⟨rfl, -, -, px83_, rfl⟩ := px83_
        refine sm_T_go 1 (c1 := (44, [some (.inr (.inr (some (12, 0)))), some (.inl kk_), some (.inl b_), some (.inl wh_), some (.inr (.inr (some (4, (0 + (0 + kk_.toNat))))))], [.inl wh_], S0_)) rfl ?_
        refine sm_T_b0 (a := 2) (z := 21) rfl (fun cx86_ => ?_) (fun cx86_ => ?_)
        · have cx86_ : wh_ < 0 := of_decide_eq_true cx86_
          refine sm_T_go 1 (c1 := (66, [some (.inr (.inr (some (12, 0)))), some (.inl kk_), some (.inl b_), some (.inl wh_), some (.inr (.inr (some (4, (0 + (0 + kk_.toNat))))))], [.inl 0], S0_)) rfl ?_
          refine sm_T_cale (d1_ := 0) (Q1_ := vq_266e 0 S0_) (Q2_ := (fun ex_ S1_ => ex_ ∈ ([1] : List Nat) ∧ vx_266e 0 S0_ S1_)) rfl rfl (by decide) (vc_266e 0 S0_ hI_ ) rfl (fun xx92_ Sx87_ px90_ => ?_) (fun u_ Sx87_ px90_ => ?_)
          · obtain ⟨px90m, hIx88_, hFx89_, px90_⟩ := px90_
            refine Or.inr ⟨_, _, rfl, by first | exact px90m | (simp only [List.mem_cons, List.not_mem_nil, or_false] at px90m ⊢; omega), hIx88_, ai_fr_tr hF_ (fr_le hFx89_ rfl), ?_⟩
            first | exact px90_.2 | exact px90_ | rfl
          · exact absurd rfl px90_.2.2.2.1
        · have cx86_ : ¬ (wh_ < 0) := of_decide_eq_false cx86_
          refine sm_T_go 3 (c1 := (50, [some (.inr (.inr (some (12, 0)))), some (.inl kk_), some (.inl b_), some (.inl wh_), some (.inr (.inr (some (4, (0 + (0 + kk_.toNat))))))], [.inl (-1), .inl b_, .inl wh_], S0_)) rfl ?_
          refine sm_T_br (a := 1) (z := 7) rfl (fun cx93_ => ?_) (fun cx93_ => ?_)
          · have cx93_ : b_ ≠ (-1) := of_decide_eq_true cx93_
            refine sm_T_go 1 (c1 := (58, [some (.inr (.inr (some (12, 0)))), some (.inl kk_), some (.inl b_), some (.inl wh_), some (.inr (.inr (some (4, (0 + (0 + kk_.toNat))))))], [.inl 4, .inl wh_], S0_)) rfl ?_
            refine sm_T_br (a := 4) (z := 7) rfl (fun cx94_ => ?_) (fun cx94_ => ?_)
            · have cx94_ : 4 < wh_ := of_decide_eq_true cx94_
              refine sm_T_go 1 (c1 := (66, [some (.inr (.inr (some (12, 0)))), some (.inl kk_), some (.inl b_), some (.inl wh_), some (.inr (.inr (some (4, (0 + (0 + kk_.toNat))))))], [.inl 0], S0_)) rfl ?_
              refine sm_T_cale (d1_ := 0) (Q1_ := vq_266e 0 S0_) (Q2_ := (fun ex_ S1_ => ex_ ∈ ([1] : List Nat) ∧ vx_266e 0 S0_ S1_)) rfl rfl (by decide) (vc_266e 0 S0_ hI_ ) rfl (fun xx100_ Sx95_ px98_ => ?_) (fun u_ Sx95_ px98_ => ?_)
              · obtain ⟨px98m, hIx96_, hFx97_, px98_⟩ := px98_
                refine Or.inr ⟨_, _, rfl, by first | exact px98m | (simp only [List.mem_cons, List.not_mem_nil, or_false] at px98m ⊢; omega), hIx96_, ai_fr_tr hF_ (fr_le hFx97_ rfl), ?_⟩
                first | exact px98_.2 | exact px98_ | rfl
              · exact absurd rfl px98_.2.2.2.1
            · have cx94_ : ¬ (4 < wh_) := of_decide_eq_false cx94_
              refine sm_T_go 2 (c1 := (66, [some (.inr (.inr (some (12, 0)))), some (.inl kk_), some (.inl b_), some (.inl wh_), some (.inr (.inr (some (4, (0 + (0 + kk_.toNat))))))], [.inl 1], S0_)) rfl ?_
              refine sm_T_cale (d1_ := 0) (Q1_ := vq_266e 1 S0_) (Q2_ := (fun ex_ S1_ => ex_ ∈ ([1] : List Nat) ∧ vx_266e 1 S0_ S1_)) rfl rfl (by decide) (vc_266e 1 S0_ hI_ ) rfl (fun xx106_ Sx101_ px104_ => ?_) (fun u_ Sx101_ px104_ => ?_)
              · exact absurd px104_.2.2.2.1 (by decide)
              obtain ⟨rfl, -, -, px104_, rfl⟩ := px104_
              refine sm_T_go 2 (c1 := (74, [some (.inr (.inr (some (12, 0)))), some (.inl kk_), some (.inl b_), some (.inl wh_), some (.inr (.inr (some (4, (0 + (0 + kk_.toNat))))))], [.inl (S0_.1 4 (0 + (0 + kk_.toNat)) 0)], S0_)) rfl ?_
              refine sm_T_cale (d1_ := 0) (Q1_ := vq_267e (S0_.1 4 (0 + (0 + kk_.toNat)) 0) S0_) (Q2_ := (fun ex_ S1_ => ex_ ∈ ([2] : List Nat) ∧ vx_267e (S0_.1 4 (0 + (0 + kk_.toNat)) 0) S0_ S1_)) rfl rfl (by decide) (vc_267e (S0_.1 4 (0 + (0 + kk_.toNat)) 0) S0_ hI_ ) rfl (fun xx112_ Sx107_ px110_ => ?_) (fun u_ Sx107_ px110_ => ?_)
              · obtain ⟨px110m, hIx108_, hFx109_, px110_⟩ := px110_
                refine Or.inr ⟨_, _, rfl, by first | exact px110m | (simp only [List.mem_cons, List.not_mem_nil, or_false] at px110m ⊢; omega), hIx108_, ai_fr_tr hF_ (fr_le hFx109_ rfl), ?_⟩
                first | exact px110_.2 | exact px110_ | rfl
              obtain ⟨rfl, -, -, px110_, rfl⟩ := px110_
              refine sm_T_go 2 (c1 := (79, [some (.inr (.inr (some (12, 0)))), some (.inl kk_), some (.inl b_), some (.inl wh_), some (.inr (.inr (some (4, (0 + (0 + kk_.toNat))))))], [.inl (-1), .inl b_], S0_)) rfl ?_
              refine sm_T_br (a := 1) (z := 11) rfl (fun cx113_ => ?_) (fun cx113_ => ?_)
              · have cx113_ : b_ ≠ (-1) := of_decide_eq_true cx113_
                refine sm_T_go 4 (c1 := (97, [some (.inr (.inr (some (12, 0)))), some (.inl kk_), some (.inl b_), some (.inl wh_), some (.inr (.inr (some (4, (0 + (0 + kk_.toNat))))))], [.inl b_, .inl 5, .inr (.inr (some (48, (0 + (0 + (0 + kk_.toNat))))))], S0_)) rfl ?_
                refine sm_T_bin (w := 5 * b_) rfl (bi_mul (by omega) (by omega) (by omega)) ?_ -- pc_ 97
                refine sm_T_go 1 (c1 := (99, [some (.inr (.inr (some (12, 0)))), some (.inl kk_), some (.inl b_), some (.inl wh_), some (.inr (.inr (some (4, (0 + (0 + kk_.toNat))))))], [.inl wh_, .inl (5 * b_), .inr (.inr (some (48, (0 + (0 + (0 + kk_.toNat))))))], S0_)) rfl ?_
                refine sm_T_bin (w := 5 * b_ + wh_) rfl (bi_add (by omega) (by omega) (by omega)) ?_ -- pc_ 99
                refine sm_T_iald (n := 10000) rfl rfl (by omega) (by omega) ?_
                have bx114_ : (-1000) ≤ S0_.2.2.1 48 (0 + (0 + (0 + kk_.toNat))) (5 * b_ + wh_).toNat ∧ S0_.2.2.1 48 (0 + (0 + (0 + kk_.toNat))) (5 * b_ + wh_).toNat ≤ 1000 := hI_.2 48 (0 + (0 + (0 + kk_.toNat))) _
                refine sm_T_ri rfl (Or.inl ⟨_, _, rfl, _, rfl, hI_, hF_, ?_⟩)
                trivial
              · have cx113_ : ¬ (b_ ≠ (-1)) := of_decide_eq_false cx113_
                exfalso; omega
          · have cx93_ : ¬ (b_ ≠ (-1)) := of_decide_eq_false cx93_
            refine sm_T_go 2 (c1 := (58, [some (.inr (.inr (some (12, 0)))), some (.inl kk_), some (.inl b_), some (.inl wh_), some (.inr (.inr (some (4, (0 + (0 + kk_.toNat))))))], [.inl 0, .inl wh_], S0_)) rfl ?_
            refine sm_T_br (a := 4) (z := 7) rfl (fun cx115_ => ?_) (fun cx115_ => ?_)
            · have cx115_ : 0 < wh_ := of_decide_eq_true cx115_
              refine sm_T_go 1 (c1 := (66, [some (.inr (.inr (some (12, 0)))), some (.inl kk_), some (.inl b_), some (.inl wh_), some (.inr (.inr (some (4, (0 + (0 + kk_.toNat))))))], [.inl 0], S0_)) rfl ?_
              refine sm_T_cale (d1_ := 0) (Q1_ := vq_266e 0 S0_) (Q2_ := (fun ex_ S1_ => ex_ ∈ ([1] : List Nat) ∧ vx_266e 0 S0_ S1_)) rfl rfl (by decide) (vc_266e 0 S0_ hI_ ) rfl (fun xx121_ Sx116_ px119_ => ?_) (fun u_ Sx116_ px119_ => ?_)
              · obtain ⟨px119m, hIx117_, hFx118_, px119_⟩ := px119_
                refine Or.inr ⟨_, _, rfl, by first | exact px119m | (simp only [List.mem_cons, List.not_mem_nil, or_false] at px119m ⊢; omega), hIx117_, ai_fr_tr hF_ (fr_le hFx118_ rfl), ?_⟩
                first | exact px119_.2 | exact px119_ | rfl
              · exact absurd rfl px119_.2.2.2.1
            · have cx115_ : ¬ (0 < wh_) := of_decide_eq_false cx115_
              refine sm_T_go 2 (c1 := (66, [some (.inr (.inr (some (12, 0)))), some (.inl kk_), some (.inl b_), some (.inl wh_), some (.inr (.inr (some (4, (0 + (0 + kk_.toNat))))))], [.inl 1], S0_)) rfl ?_
              refine sm_T_cale (d1_ := 0) (Q1_ := vq_266e 1 S0_) (Q2_ := (fun ex_ S1_ => ex_ ∈ ([1] : List Nat) ∧ vx_266e 1 S0_ S1_)) rfl rfl (by decide) (vc_266e 1 S0_ hI_ ) rfl (fun xx127_ Sx122_ px125_ => ?_) (fun u_ Sx122_ px125_ => ?_)
              · exact absurd px125_.2.2.2.1 (by decide)
              obtain ⟨rfl, -, -, px125_, rfl⟩ := px125_
              refine sm_T_go 2 (c1 := (74, [some (.inr (.inr (some (12, 0)))), some (.inl kk_), some (.inl b_), some (.inl wh_), some (.inr (.inr (some (4, (0 + (0 + kk_.toNat))))))], [.inl (S0_.1 4 (0 + (0 + kk_.toNat)) 0)], S0_)) rfl ?_
              refine sm_T_cale (d1_ := 0) (Q1_ := vq_267e (S0_.1 4 (0 + (0 + kk_.toNat)) 0) S0_) (Q2_ := (fun ex_ S1_ => ex_ ∈ ([2] : List Nat) ∧ vx_267e (S0_.1 4 (0 + (0 + kk_.toNat)) 0) S0_ S1_)) rfl rfl (by decide) (vc_267e (S0_.1 4 (0 + (0 + kk_.toNat)) 0) S0_ hI_ ) rfl (fun xx133_ Sx128_ px131_ => ?_) (fun u_ Sx128_ px131_ => ?_)
              · obtain ⟨px131m, hIx129_, hFx130_, px131_⟩ := px131_
                refine Or.inr ⟨_, _, rfl, by first | exact px131m | (simp only [List.mem_cons, List.not_mem_nil, or_false] at px131m ⊢; omega), hIx129_, ai_fr_tr hF_ (fr_le hFx130_ rfl), ?_⟩
                first | exact px131_.2 | exact px131_ | rfl
              obtain ⟨rfl, -, -, px131_, rfl⟩ := px131_
              refine sm_T_go 2 (c1 := (79, [some (.inr (.inr (some (12, 0)))), some (.inl kk_), some (.inl b_), some (.inl wh_), some (.inr (.inr (some (4, (0 + (0 + kk_.toNat))))))], [.inl (-1), .inl b_], S0_)) rfl ?_
              refine sm_T_br (a := 1) (z := 11) rfl (fun cx134_ => ?_) (fun cx134_ => ?_)
              · have cx134_ : b_ ≠ (-1) := of_decide_eq_true cx134_
                exfalso; omega
              · have cx134_ : ¬ (b_ ≠ (-1)) := of_decide_eq_false cx134_
                refine sm_T_go 3 (c1 := (101, [some (.inr (.inr (some (12, 0)))), some (.inl kk_), some (.inl b_), some (.inl wh_), some (.inr (.inr (some (4, (0 + (0 + kk_.toNat))))))], [.inl (S0_.1 4 (0 + (0 + kk_.toNat)) 1)], S0_)) rfl ?_
                refine sm_T_ri rfl (Or.inl ⟨_, _, rfl, _, rfl, hI_, hF_, ?_⟩)
                trivial
end
/-! 99.zp6c -/
section
/-! ChipFlow.erase -/
def vw_249 : sx_Wl := ([(4, 1), (4, 9), (4, 10)], [48], [])
def vq_249 (kk_ : Int) (b_ : Int) (S0_ : sm_S) (u_ : Option sm_V) (S1_ : sm_S) : Prop := ∃ v_ : Int, u_ = some (.inl v_) ∧ gi S1_ ∧ ai_fr (sx_W vw_249) S0_ S1_ ∧ (jC S1_)
def vx_249 (kk_ : Int) (b_ : Int) (S0_ : sm_S) (S1_ : sm_S) : Prop := gi S1_ ∧ ai_fr (sx_W vw_249) S0_ S1_ ∧ (S1_ = S0_)
set_option maxHeartbeats 400000 in
theorem vc_249 {sc_ : Nat × (Nat → Int)} (kk_ : Int) (b_ : Int) (S0_ : sm_S) (hI_ : gi S0_) (hJ_ : jC S0_) : sm_T (mt_P sc_) 2 249 (0, [some (.inr (.inr (some (12, 0)))), some (.inl kk_), some (.inl b_), none], [], S0_) (fun ro9_ => (∃ u_ S1_, ro9_ = (.inl u_, S1_, 0) ∧ vq_249 kk_ b_ S0_ u_ S1_) ∨ ∃ ex_ S1_, ro9_ = (.inr ex_, S1_, 1) ∧ ex_ ∈ ([0, 2] : List Nat) ∧ vx_249 kk_ b_ S0_ S1_) := by
  have hF_ : ai_fr (sx_W vw_249) S0_ S0_ := ai_fr_rf
  refine sm_T_go 2 (c1 := (2, [some (.inr (.inr (some (12, 0)))), some (.inl kk_), some (.inl b_), none], [.inl kk_, .inr (.inr (some (12, 0)))], S0_)) rfl ?_
  refine sm_T_cale (d1_ := 1) (Q1_ := vq_272 kk_ S0_) (Q2_ := (fun ex_ S1_ => ex_ ∈ ([0] : List Nat) ∧ vx_272 kk_ S0_ S1_)) rfl rfl (by decide) (vc_272 kk_ S0_ hI_ ) rfl (fun xx6_ Sx1_ px4_ => ?_) (fun u_ Sx1_ px4_ => ?_)
  · obtain ⟨px4m, hIx2_, hFx3_, px4_⟩ := px4_
    refine Or.inr ⟨_, _, rfl, by first | exact px4m | (simp only [List.mem_cons, List.not_mem_nil, or_false] at px4m ⊢; omega), hIx2_, ai_fr_tr hF_ (fr_le hFx3_ rfl), ?_⟩
    first | exact px4_.2 | exact px4_ | rfl
  obtain ⟨rfl, -, -, rfl, px4_⟩ := px4_
  have a9_ := px4_
  have J9_ := hJ_.2.1 kk_.toNat (by omega) a9_.2
  have J1_ := J9_.1
  have q9_ := a9_.2
  have c8_ : 0 ≤ S0_.1 2 (kk_.toNat) 8 ∧ S0_.1 2 (kk_.toNat) 8 ≤ 150 := hI_.1 2 (kk_.toNat) 8 rfl
  have c1_ : 0 ≤ S0_.1 2 (kk_.toNat) 1 ∧ S0_.1 2 (kk_.toNat) 1 ≤ 12 := hI_.1 2 (kk_.toNat) 1 rfl
  have c2_ : 0 ≤ S0_.1 2 (kk_.toNat) 2 ∧ S0_.1 2 (kk_.toNat) 2 ≤ 6 := hI_.1 2 (kk_.toNat) 2 rfl
  refine sm_T_go 4 (c1 := (13, [some (.inr (.inr (some (12, 0)))), some (.inl kk_), some (.inl b_), some (.inr (.inr (some (4, (0 + (0 + kk_.toNat))))))], [.inl b_], S0_)) rfl ?_
  refine sm_T_b0 (a := 2) (z := 22) rfl (fun cx7_ => ?_) (fun cx7_ => ?_)
  · have cx7_ : b_ < 0 := of_decide_eq_true cx7_
    refine sm_T_go 1 (c1 := (36, [some (.inr (.inr (some (12, 0)))), some (.inl kk_), some (.inl b_), some (.inr (.inr (some (4, (0 + (0 + kk_.toNat))))))], [.inl 0], S0_)) rfl ?_
    refine sm_T_cale (d1_ := 0) (Q1_ := vq_265e 0 S0_) (Q2_ := (fun ex_ S1_ => ex_ ∈ ([0] : List Nat) ∧ vx_265e 0 S0_ S1_)) rfl rfl (by decide) (vc_265e 0 S0_ hI_ ) rfl (fun xx13_ Sx8_ px11_ => ?_) (fun u_ Sx8_ px11_ => ?_)
    · obtain ⟨px11m, hIx9_, hFx10_, px11_⟩ := px11_
      refine Or.inr ⟨_, _, rfl, by first | exact px11m | (simp only [List.mem_cons, List.not_mem_nil, or_false] at px11m ⊢; omega), hIx9_, ai_fr_tr hF_ (fr_le hFx10_ rfl), ?_⟩
      first | exact px11_.2 | exact px11_ | rfl
    · exact absurd rfl px11_.2.2.2.1
  · have cx7_ : ¬ (b_ < 0) := of_decide_eq_false cx7_
    have bx14_ : 0 ≤ S0_.1 4 (0 + (0 + kk_.toNat)) 0 ∧ S0_.1 4 (0 + (0 + kk_.toNat)) 0 ≤ 1 := hI_.1 4 (0 + (0 + kk_.toNat)) 0 rfl
    refine sm_T_go 2 (c1 := (20, [some (.inr (.inr (some (12, 0)))), some (.inl kk_), some (.inl b_), some (.inr (.inr (some (4, (0 + (0 + kk_.toNat))))))], [.inl (S0_.1 4 (0 + (0 + kk_.toNat)) 0)], S0_)) rfl ?_
    refine sm_T_b0 (a := 0) (z := 11) rfl (fun cx15_ => ?_) (fun cx15_ => ?_)
    · have cx15_ : (S0_.1 4 (0 + (0 + kk_.toNat)) 0) = 0 := of_decide_eq_true cx15_
      refine sm_T_go 2 (c1 := (36, [some (.inr (.inr (some (12, 0)))), some (.inl kk_), some (.inl b_), some (.inr (.inr (some (4, (0 + (0 + kk_.toNat))))))], [.inl 1], S0_)) rfl ?_
      refine sm_T_cale (d1_ := 0) (Q1_ := vq_265e 1 S0_) (Q2_ := (fun ex_ S1_ => ex_ ∈ ([0] : List Nat) ∧ vx_265e 1 S0_ S1_)) rfl rfl (by decide) (vc_265e 1 S0_ hI_ ) rfl (fun xx21_ Sx16_ px19_ => ?_) (fun u_ Sx16_ px19_ => ?_)
      · exact absurd px19_.2.2.2.1 (by decide)
      obtain ⟨rfl, -, -, px19_, rfl⟩ := px19_
      refine sm_T_go 2 (c1 := (43, [some (.inr (.inr (some (12, 0)))), some (.inl kk_), some (.inl b_), some (.inr (.inr (some (4, (0 + (0 + kk_.toNat))))))], [.inl (S0_.1 4 (0 + (0 + kk_.toNat)) 0)], S0_)) rfl ?_
      refine sm_T_cale (d1_ := 0) (Q1_ := vq_267e (S0_.1 4 (0 + (0 + kk_.toNat)) 0) S0_) (Q2_ := (fun ex_ S1_ => ex_ ∈ ([2] : List Nat) ∧ vx_267e (S0_.1 4 (0 + (0 + kk_.toNat)) 0) S0_ S1_)) rfl rfl (by decide) (vc_267e (S0_.1 4 (0 + (0 + kk_.toNat)) 0) S0_ hI_ ) rfl (fun xx27_ Sx22_ px25_ => ?_) (fun u_ Sx22_ px25_ => ?_)
      · obtain ⟨px25m, hIx23_, hFx24_, px25_⟩ := px25_
        refine Or.inr ⟨_, _, rfl, by first | exact px25m | (simp only [List.mem_cons, List.not_mem_nil, or_false] at px25m ⊢; omega), hIx23_, ai_fr_tr hF_ (fr_le hFx24_ rfl), ?_⟩
        first | exact px25_.2 | exact px25_ | rfl
      obtain ⟨rfl, -, -, px25_, rfl⟩ := px25_
      refine sm_T_go 2 (c1 := (48, [some (.inr (.inr (some (12, 0)))), some (.inl kk_), some (.inl b_), some (.inr (.inr (some (4, (0 + (0 + kk_.toNat))))))], [.inl b_, .inr (.inr (some (4, (0 + (0 + kk_.toNat)))))], S0_)) rfl ?_
      refine sm_T_cal (d1 := 1) (Q1 := vq_70 b_ (0 + (0 + kk_.toNat)) S0_) rfl rfl (by decide) (vc_70 b_ (0 + (0 + kk_.toNat)) S0_ hI_ (by omega)) (fun u_ Sx28_ px31_ => ?_)
      obtain ⟨rfl, hIx29_, hFx30_, px31_⟩ := px31_
      have hFx32_ : ai_fr (sx_W vw_249) S0_ Sx28_ := ai_fr_tr hF_ (fr_le hFx30_ rfl)
      obtain ⟨dx33_, px31_⟩ := px31_
      have bx34_ : 0 ≤ Sx28_.1 4 (0 + (0 + kk_.toNat)) 1 ∧ Sx28_.1 4 (0 + (0 + kk_.toNat)) 1 ≤ 2000 := hIx29_.1 4 (0 + (0 + kk_.toNat)) 1 rfl
      refine sm_T_go 2 (c1 := (55, [some (.inr (.inr (some (12, 0)))), some (.inl kk_), some (.inl b_), some (.inr (.inr (some (4, (0 + (0 + kk_.toNat))))))], [.inl (Sx28_.1 4 (0 + (0 + kk_.toNat)) 1)], Sx28_)) rfl ?_
      refine sm_T_ri rfl (Or.inl ⟨_, _, rfl, _, rfl, hIx29_, hFx32_, ?_⟩)
      exact jC_fr hJ_ hFx32_ (by decide) (by decide) (by decide) (by decide) (by decide) rfl rfl rfl rfl rfl rfl
    · have cx15_ : ¬ ((S0_.1 4 (0 + (0 + kk_.toNat)) 0) = 0) := of_decide_eq_false cx15_
      have bx35_ : 0 ≤ S0_.1 4 (0 + (0 + kk_.toNat)) 1 ∧ S0_.1 4 (0 + (0 + kk_.toNat)) 1 ≤ 2000 := hI_.1 4 (0 + (0 + kk_.toNat)) 1 rfl
      refine sm_T_go 3 (c1 := (28, [some (.inr (.inr (some (12, 0)))), some (.inl kk_), some (.inl b_), some (.inr (.inr (some (4, (0 + (0 + kk_.toNat))))))], [.inl (S0_.1 4 (0 + (0 + kk_.toNat)) 1), .inl b_], S0_)) rfl ?_
      refine sm_T_br (a := 3) (z := 7) rfl (fun cx36_ => ?_) (fun cx36_ => ?_)
      · have cx36_ : (S0_.1 4 (0 + (0 + kk_.toNat)) 1) ≤ b_ := of_decide_eq_true cx36_
        refine sm_T_go 1 (c1 := (36, [some (.inr (.inr (some (12, 0)))), some (.inl kk_), some (.inl b_), some (.inr (.inr (some (4, (0 + (0 + kk_.toNat))))))], [.inl 0], S0_)) rfl ?_
        refine sm_T_cale (d1_ := 0) (Q1_ := vq_265e 0 S0_) (Q2_ := (fun ex_ S1_ => ex_ ∈ ([0] : List Nat) ∧ vx_265e 0 S0_ S1_)) rfl rfl (by decide) (vc_265e 0 S0_ hI_ ) rfl (fun xx42_ Sx37_ px40_ => ?_) (fun u_ Sx37_ px40_ => ?_)
        · obtain ⟨px40m, hIx38_, hFx39_, px40_⟩ := px40_
          refine Or.inr ⟨_, _, rfl, by first | exact px40m | (simp only [List.mem_cons, List.not_mem_nil, or_false] at px40m ⊢; omega), hIx38_, ai_fr_tr hF_ (fr_le hFx39_ rfl), ?_⟩
          first | exact px40_.2 | exact px40_ | rfl
        · exact absurd rfl px40_.2.2.2.1
      · have cx36_ : ¬ ((S0_.1 4 (0 + (0 + kk_.toNat)) 1) ≤ b_) := of_decide_eq_false cx36_
        refine sm_T_go 2 (c1 := (36, [some (.inr (.inr (some (12, 0)))), some (.inl kk_), some (.inl b_), some (.inr (.inr (some (4, (0 + (0 + kk_.toNat))))))], [.inl 1], S0_)) rfl ?_
        refine sm_T_cale (d1_ := 0) (Q1_ := vq_265e 1 S0_) (Q2_ := (fun ex_ S1_ => ex_ ∈ ([0] : List Nat) ∧ vx_265e 1 S0_ S1_)) rfl rfl (by decide) (vc_265e 1 S0_ hI_ ) rfl (fun xx48_ Sx43_ px46_ => ?_) (fun u_ Sx43_ px46_ => ?_)
        · exact absurd px46_.2.2.2.1 (by decide)
        obtain ⟨rfl, -, -, px46_, rfl⟩ := px46_
        refine sm_T_go 2 (c1 := (43, [some (.inr (.inr (some (12, 0)))), some (.inl kk_), some (.inl b_), some (.inr (.inr (some (4, (0 + (0 + kk_.toNat))))))], [.inl (S0_.1 4 (0 + (0 + kk_.toNat)) 0)], S0_)) rfl ?_
        refine sm_T_cale (d1_ := 0) (Q1_ := vq_267e (S0_.1 4 (0 + (0 + kk_.toNat)) 0) S0_) (Q2_ := (fun ex_ S1_ => ex_ ∈ ([2] : List Nat) ∧ vx_267e (S0_.1 4 (0 + (0 + kk_.toNat)) 0) S0_ S1_)) rfl rfl (by decide) (vc_267e (S0_.1 4 (0 + (0 + kk_.toNat)) 0) S0_ hI_ ) rfl (fun xx54_ Sx49_ px52_ => ?_) (fun u_ Sx49_ px52_ => ?_)
        · obtain ⟨px52m, hIx50_, hFx51_, px52_⟩ := px52_
          refine Or.inr ⟨_, _, rfl, by first | exact px52m | (simp only [List.mem_cons, List.not_mem_nil, or_false] at px52m ⊢; omega), hIx50_, ai_fr_tr hF_ (fr_le hFx51_ rfl), ?_⟩
          first | exact px52_.2 | exact px52_ | rfl
        obtain ⟨rfl, -, -, px52_, rfl⟩ := px52_
        refine sm_T_go 2 (c1 := (48, [some (.inr (.inr (some (12, 0)))), some (.inl kk_), some (.inl b_), some (.inr (.inr (some (4, (0 + (0 + kk_.toNat))))))], [.inl b_, .inr (.inr (some (4, (0 + (0 + kk_.toNat)))))], S0_)) rfl ?_
        refine sm_T_cal (d1 := 1) (Q1 := vq_70 b_ (0 + (0 + kk_.toNat)) S0_) rfl rfl (by decide) (vc_70 b_ (0 + (0 + kk_.toNat)) S0_ hI_ (by omega)) (fun u_ Sx55_ px58_ => ?_)
        obtain ⟨rfl, hIx56_, hFx57_, px58_⟩ := px58_
        have hFx59_ : ai_fr (sx_W vw_249) S0_ Sx55_ := ai_fr_tr hF_ (fr_le hFx57_ rfl)
        obtain ⟨dx60_, px58_⟩ := px58_
        have bx61_ : 0 ≤ Sx55_.1 4 (0 + (0 + kk_.toNat)) 1 ∧ Sx55_.1 4 (0 + (0 + kk_.toNat)) 1 ≤ 2000 := hIx56_.1 4 (0 + (0 + kk_.toNat)) 1 rfl
        refine sm_T_go 2 (c1 := (55, [some (.inr (.inr (some (12, 0)))), some (.inl kk_), some (.inl b_), some (.inr (.inr (some (4, (0 + (0 + kk_.toNat))))))], [.inl (Sx55_.1 4 (0 + (0 + kk_.toNat)) 1)], Sx55_)) rfl ?_
        refine sm_T_ri rfl (Or.inl ⟨_, _, rfl, _, rfl, hIx56_, hFx59_, ?_⟩)
        exact jC_fr hJ_ hFx59_ (by decide) (by decide) (by decide) (by decide) (by decide) rfl rfl rfl rfl rfl rfl
end
/-! 99.zp6d -/
section
/-! ChipFlow.found -/
def vw_252 : sx_Wl := ([(4, 4), (4, 5), (4, 6), (4, 7), (4, 10)], [51, 52, 53, 54], [])
def vq_252 (kk_ : Int) (wh_ : Int) (S0_ : sm_S) (u_ : Option sm_V) (S1_ : sm_S) : Prop := ∃ v_ : Int, u_ = some (.inl v_) ∧ gi S1_ ∧ ai_fr (sx_W vw_252) S0_ S1_ ∧ (jC S1_)
def vx_252 (kk_ : Int) (wh_ : Int) (S0_ : sm_S) (S1_ : sm_S) : Prop := gi S1_ ∧ ai_fr (sx_W vw_252) S0_ S1_ ∧ (S1_ = S0_)
set_option maxHeartbeats 400000 in
theorem vc_252 {sc_ : Nat × (Nat → Int)} (kk_ : Int) (wh_ : Int) (S0_ : sm_S) (hI_ : gi S0_) (hJ_ : jC S0_) : sm_T (mt_P sc_) 4 252 (0, [some (.inr (.inr (some (12, 0)))), some (.inl kk_), some (.inl wh_), none, none], [], S0_) (fun ro9_ => (∃ u_ S1_, ro9_ = (.inl u_, S1_, 0) ∧ vq_252 kk_ wh_ S0_ u_ S1_) ∨ ∃ ex_ S1_, ro9_ = (.inr ex_, S1_, 1) ∧ ex_ ∈ ([0, 1, 2] : List Nat) ∧ vx_252 kk_ wh_ S0_ S1_) := by
  have hF_ : ai_fr (sx_W vw_252) S0_ S0_ := ai_fr_rf
  refine sm_T_go 2 (c1 := (2, [some (.inr (.inr (some (12, 0)))), some (.inl kk_), some (.inl wh_), none, none], [.inl kk_, .inr (.inr (some (12, 0)))], S0_)) rfl ?_
  refine sm_T_cale (d1_ := 1) (Q1_ := vq_272 kk_ S0_) (Q2_ := (fun ex_ S1_ => ex_ ∈ ([0] : List Nat) ∧ vx_272 kk_ S0_ S1_)) rfl rfl (by decide) (vc_272 kk_ S0_ hI_ ) rfl (fun xx6_ Sx1_ px4_ => ?_) (fun u_ Sx1_ px4_ => ?_)
  · obtain ⟨px4m, hIx2_, hFx3_, px4_⟩ := px4_
    refine Or.inr ⟨_, _, rfl, by first | exact px4m | (simp only [List.mem_cons, List.not_mem_nil, or_false] at px4m ⊢; omega), hIx2_, ai_fr_tr hF_ (fr_le hFx3_ rfl), ?_⟩
    first | exact px4_.2 | exact px4_ | rfl
  obtain ⟨rfl, -, -, rfl, px4_⟩ := px4_
  have a9_ := px4_
  have J9_ := hJ_.2.1 kk_.toNat (by omega) a9_.2
  have J1_ := J9_.1
  have q9_ := a9_.2
  have c8_ : 0 ≤ S0_.1 2 (kk_.toNat) 8 ∧ S0_.1 2 (kk_.toNat) 8 ≤ 150 := hI_.1 2 (kk_.toNat) 8 rfl
  have c1_ : 0 ≤ S0_.1 2 (kk_.toNat) 1 ∧ S0_.1 2 (kk_.toNat) 1 ≤ 12 := hI_.1 2 (kk_.toNat) 1 rfl
  have c2_ : 0 ≤ S0_.1 2 (kk_.toNat) 2 ∧ S0_.1 2 (kk_.toNat) 2 ≤ 6 := hI_.1 2 (kk_.toNat) 2 rfl
  refine sm_T_go 6 (c1 := (16, [some (.inr (.inr (some (12, 0)))), some (.inl kk_), some (.inl wh_), some (.inr (.inr (some (2, kk_.toNat)))), some (.inr (.inr (some (4, (0 + (0 + kk_.toNat))))))], [.inl wh_], S0_)) rfl ?_
  refine sm_T_b0 (a := 2) (z := 12) rfl (fun cx7_ => ?_) (fun cx7_ => ?_)
  · have cx7_ : wh_ < 0 := of_decide_eq_true cx7_
    refine sm_T_go 1 (c1 := (29, [some (.inr (.inr (some (12, 0)))), some (.inl kk_), some (.inl wh_), some (.inr (.inr (some (2, kk_.toNat)))), some (.inr (.inr (some (4, (0 + (0 + kk_.toNat))))))], [.inl 0], S0_)) rfl ?_
    refine sm_T_cale (d1_ := 0) (Q1_ := vq_266e 0 S0_) (Q2_ := (fun ex_ S1_ => ex_ ∈ ([1] : List Nat) ∧ vx_266e 0 S0_ S1_)) rfl rfl (by decide) (vc_266e 0 S0_ hI_ ) rfl (fun xx13_ Sx8_ px11_ => ?_) (fun u_ Sx8_ px11_ => ?_)
    · obtain ⟨px11m, hIx9_, hFx10_, px11_⟩ := px11_
      refine Or.inr ⟨_, _, rfl, by first | exact px11m | (simp only [List.mem_cons, List.not_mem_nil, or_false] at px11m ⊢; omega), hIx9_, ai_fr_tr hF_ (fr_le hFx10_ rfl), ?_⟩
      first | exact px11_.2 | exact px11_ | rfl
    · exact absurd rfl px11_.2.2.2.1
  · have cx7_ : ¬ (wh_ < 0) := of_decide_eq_false cx7_
    refine sm_T_go 2 (c1 := (21, [some (.inr (.inr (some (12, 0)))), some (.inl kk_), some (.inl wh_), some (.inr (.inr (some (2, kk_.toNat)))), some (.inr (.inr (some (4, (0 + (0 + kk_.toNat))))))], [.inl 4, .inl wh_], S0_)) rfl ?_
    refine sm_T_br (a := 4) (z := 7) rfl (fun cx14_ => ?_) (fun cx14_ => ?_)
    · have cx14_ : 4 < wh_ := of_decide_eq_true cx14_
      refine sm_T_go 1 (c1 := (29, [some (.inr (.inr (some (12, 0)))), some (.inl kk_), some (.inl wh_), some (.inr (.inr (some (2, kk_.toNat)))), some (.inr (.inr (some (4, (0 + (0 + kk_.toNat))))))], [.inl 0], S0_)) rfl ?_
      refine sm_T_cale (d1_ := 0) (Q1_ := vq_266e 0 S0_) (Q2_ := (fun ex_ S1_ => ex_ ∈ ([1] : List Nat) ∧ vx_266e 0 S0_ S1_)) rfl rfl (by decide) (vc_266e 0 S0_ hI_ ) rfl (fun xx20_ Sx15_ px18_ => ?_) (fun u_ Sx15_ px18_ => ?_)
      · obtain ⟨px18m, hIx16_, hFx17_, px18_⟩ := px18_
        refine Or.inr ⟨_, _, rfl, by first | exact px18m | (simp only [List.mem_cons, List.not_mem_nil, or_false] at px18m ⊢; omega), hIx16_, ai_fr_tr hF_ (fr_le hFx17_ rfl), ?_⟩
        first | exact px18_.2 | exact px18_ | rfl
      · exact absurd rfl px18_.2.2.2.1
    · have cx14_ : ¬ (4 < wh_) := of_decide_eq_false cx14_
      refine sm_T_go 2 (c1 := (29, [some (.inr (.inr (some (12, 0)))), some (.inl kk_), some (.inl wh_), some (.inr (.inr (some (2, kk_.toNat)))), some (.inr (.inr (some (4, (0 + (0 + kk_.toNat))))))], [.inl 1], S0_)) rfl ?_
      refine sm_T_cale (d1_ := 0) (Q1_ := vq_266e 1 S0_) (Q2_ := (fun ex_ S1_ => ex_ ∈ ([1] : List Nat) ∧ vx_266e 1 S0_ S1_)) rfl rfl (by decide) (vc_266e 1 S0_ hI_ ) rfl (fun xx26_ Sx21_ px24_ => ?_) (fun u_ Sx21_ px24_ => ?_)
      · exact absurd px24_.2.2.2.1 (by decide)
      obtain ⟨rfl, -, -, px24_, rfl⟩ := px24_
      have bx27_ : 0 ≤ S0_.1 4 (0 + (0 + kk_.toNat)) 0 ∧ S0_.1 4 (0 + (0 + kk_.toNat)) 0 ≤ 1 := hI_.1 4 (0 + (0 + kk_.toNat)) 0 rfl
      refine sm_T_go 2 (c1 := (37, [some (.inr (.inr (some (12, 0)))), some (.inl kk_), some (.inl wh_), some (.inr (.inr (some (2, kk_.toNat)))), some (.inr (.inr (some (4, (0 + (0 + kk_.toNat))))))], [.inl (S0_.1 4 (0 + (0 + kk_.toNat)) 0)], S0_)) rfl ?_
      refine sm_T_cale (d1_ := 0) (Q1_ := vq_267e (S0_.1 4 (0 + (0 + kk_.toNat)) 0) S0_) (Q2_ := (fun ex_ S1_ => ex_ ∈ ([2] : List Nat) ∧ vx_267e (S0_.1 4 (0 + (0 + kk_.toNat)) 0) S0_ S1_)) rfl rfl (by decide) (vc_267e (S0_.1 4 (0 + (0 + kk_.toNat)) 0) S0_ hI_ ) rfl (fun xx33_ Sx28_ px31_ => ?_) (fun u_ Sx28_ px31_ => ?_)
      · obtain ⟨px31m, hIx29_, hFx30_, px31_⟩ := px31_
        refine Or.inr ⟨_, _, rfl, by first | exact px31m | (simp only [List.mem_cons, List.not_mem_nil, or_false] at px31m ⊢; omega), hIx29_, ai_fr_tr hF_ (fr_le hFx30_ rfl), ?_⟩
        first | exact px31_.2 | exact px31_ | rfl
      obtain ⟨rfl, -, -, px31_, rfl⟩ := px31_
      have bx34_ : 0 ≤ S0_.1 2 kk_.toNat 2 ∧ S0_.1 2 kk_.toNat 2 ≤ 6 := hI_.1 2 kk_.toNat 2 rfl
      refine sm_T_go 5 (c1 := (50, [some (.inr (.inr (some (12, 0)))), some (.inl kk_), some (.inl wh_), some (.inr (.inr (some (2, kk_.toNat)))), some (.inr (.inr (some (4, (0 + (0 + kk_.toNat))))))], [.inl (S0_.1 2 kk_.toNat 2), .inr (.inr (some (0, (0 + kk_.toNat)))), .inr (.inr (some (4, (0 + (0 + kk_.toNat)))))], S0_)) rfl ?_
      refine sm_T_cal (d1 := 3) (Q1 := vq_82 (S0_.1 2 kk_.toNat 2) (0 + (0 + kk_.toNat)) (0 + kk_.toNat) S0_) rfl rfl (by decide) (vc_82 (S0_.1 2 kk_.toNat 2) (0 + (0 + kk_.toNat)) (0 + kk_.toNat) S0_ hI_ (by exact J9_.2.2.2.2.1.1) (by omega)) (fun u_ Sx35_ px38_ => ?_)
      obtain ⟨rfl, hIx36_, hFx37_, px38_⟩ := px38_
      have hFx39_ : ai_fr (sx_W vw_252) S0_ Sx35_ := ai_fr_tr hF_ (fr_le hFx37_ rfl)
      obtain ⟨dx40_, px38_⟩ := px38_
      have ex41_ : Sx35_.1 2 kk_.toNat 2 = S0_.1 2 kk_.toNat 2 := hFx37_.1 2 kk_.toNat 2 rfl
      refine sm_T_go 1 (c1 := (54, [some (.inr (.inr (some (12, 0)))), some (.inl kk_), some (.inl wh_), some (.inr (.inr (some (2, kk_.toNat)))), some (.inr (.inr (some (4, (0 + (0 + kk_.toNat))))))], [.inl wh_], Sx35_)) rfl ?_
      by_cases cx42_ : wh_ = 0
      · refine sm_T_sw (t := 84) rfl rfl (by rw [cx42_]; rfl) ?_
        have bx43_ : 0 ≤ Sx35_.1 4 (0 + (0 + kk_.toNat)) 4 ∧ Sx35_.1 4 (0 + (0 + kk_.toNat)) 4 ≤ 1073741823 := hIx36_.1 4 (0 + (0 + kk_.toNat)) 4 rfl
        refine sm_T_go 2 (c1 := (89, [some (.inr (.inr (some (12, 0)))), some (.inl kk_), some (.inl wh_), some (.inr (.inr (some (2, kk_.toNat)))), some (.inr (.inr (some (4, (0 + (0 + kk_.toNat))))))], [.inl (Sx35_.1 4 (0 + (0 + kk_.toNat)) 4)], Sx35_)) rfl ?_
        refine sm_T_b0 (a := 1) (z := 15) rfl (fun cx44_ => ?_) (fun cx44_ => ?_)
        · have cx44_ : (Sx35_.1 4 (0 + (0 + kk_.toNat)) 4) ≠ 0 := of_decide_eq_true cx44_
          refine sm_T_go 1 (c1 := (105, [some (.inr (.inr (some (12, 0)))), some (.inl kk_), some (.inl wh_), some (.inr (.inr (some (2, kk_.toNat)))), some (.inr (.inr (some (4, (0 + (0 + kk_.toNat))))))], [.inl 0], Sx35_)) rfl ?_
          refine sm_T_ri rfl (Or.inl ⟨_, _, rfl, _, rfl, hIx36_, hFx39_, ?_⟩)
          exact jC_fr hJ_ hFx39_ (by decide) (by decide) (by decide) (by decide) (by decide) rfl rfl rfl rfl rfl rfl
        · have cx44_ : ¬ ((Sx35_.1 4 (0 + (0 + kk_.toNat)) 4) ≠ 0) := of_decide_eq_false cx44_
          have bx45_ : 0 ≤ Sx35_.1 4 (0 + (0 + kk_.toNat)) 5 ∧ Sx35_.1 4 (0 + (0 + kk_.toNat)) 5 ≤ 100000 := hIx36_.1 4 (0 + (0 + kk_.toNat)) 5 rfl
          refine sm_T_go 2 (c1 := (97, [some (.inr (.inr (some (12, 0)))), some (.inl kk_), some (.inl wh_), some (.inr (.inr (some (2, kk_.toNat)))), some (.inr (.inr (some (4, (0 + (0 + kk_.toNat))))))], [.inl (Sx35_.1 4 (0 + (0 + kk_.toNat)) 5)], Sx35_)) rfl ?_
          refine sm_T_b0 (a := 1) (z := 7) rfl (fun cx46_ => ?_) (fun cx46_ => ?_)
          · have cx46_ : (Sx35_.1 4 (0 + (0 + kk_.toNat)) 5) ≠ 0 := of_decide_eq_true cx46_
            refine sm_T_go 1 (c1 := (105, [some (.inr (.inr (some (12, 0)))), some (.inl kk_), some (.inl wh_), some (.inr (.inr (some (2, kk_.toNat)))), some (.inr (.inr (some (4, (0 + (0 + kk_.toNat))))))], [.inl 0], Sx35_)) rfl ?_
            refine sm_T_ri rfl (Or.inl ⟨_, _, rfl, _, rfl, hIx36_, hFx39_, ?_⟩)
            exact jC_fr hJ_ hFx39_ (by decide) (by decide) (by decide) (by decide) (by decide) rfl rfl rfl rfl rfl rfl
          · have cx46_ : ¬ ((Sx35_.1 4 (0 + (0 + kk_.toNat)) 5) ≠ 0) := of_decide_eq_false cx46_
            refine sm_T_go 2 (c1 := (105, [some (.inr (.inr (some (12, 0)))), some (.inl kk_), some (.inl wh_), some (.inr (.inr (some (2, kk_.toNat)))), some (.inr (.inr (some (4, (0 + (0 + kk_.toNat))))))], [.inl 1], Sx35_)) rfl ?_
            refine sm_T_ri rfl (Or.inl ⟨_, _, rfl, _, rfl, hIx36_, hFx39_, ?_⟩)
            exact jC_fr hJ_ hFx39_ (by decide) (by decide) (by decide) (by decide) (by decide) rfl rfl rfl rfl rfl rfl
      by_cases cx47_ : wh_ = 1
      · refine sm_T_sw (t := 106) rfl rfl (by rw [cx47_]; rfl) ?_
        have bx48_ : 0 ≤ Sx35_.1 4 (0 + (0 + kk_.toNat)) 4 ∧ Sx35_.1 4 (0 + (0 + kk_.toNat)) 4 ≤ 1073741823 := hIx36_.1 4 (0 + (0 + kk_.toNat)) 4 rfl
        refine sm_T_go 2 (c1 := (111, [some (.inr (.inr (some (12, 0)))), some (.inl kk_), some (.inl wh_), some (.inr (.inr (some (2, kk_.toNat)))), some (.inr (.inr (some (4, (0 + (0 + kk_.toNat))))))], [.inl (Sx35_.1 4 (0 + (0 + kk_.toNat)) 4)], Sx35_)) rfl ?_
        refine sm_T_ri rfl (Or.inl ⟨_, _, rfl, _, rfl, hIx36_, hFx39_, ?_⟩)
        exact jC_fr hJ_ hFx39_ (by decide) (by decide) (by decide) (by decide) (by decide) rfl rfl rfl rfl rfl rfl
      by_cases cx49_ : wh_ = 2
      · refine sm_T_sw (t := 112) rfl rfl (by rw [cx49_]; rfl) ?_
        have bx50_ : 0 ≤ Sx35_.1 4 (0 + (0 + kk_.toNat)) 5 ∧ Sx35_.1 4 (0 + (0 + kk_.toNat)) 5 ≤ 100000 := hIx36_.1 4 (0 + (0 + kk_.toNat)) 5 rfl
        refine sm_T_go 2 (c1 := (117, [some (.inr (.inr (some (12, 0)))), some (.inl kk_), some (.inl wh_), some (.inr (.inr (some (2, kk_.toNat)))), some (.inr (.inr (some (4, (0 + (0 + kk_.toNat))))))], [.inl (Sx35_.1 4 (0 + (0 + kk_.toNat)) 5)], Sx35_)) rfl ?_
        refine sm_T_ri rfl (Or.inl ⟨_, _, rfl, _, rfl, hIx36_, hFx39_, ?_⟩)
        exact jC_fr hJ_ hFx39_ (by decide) (by decide) (by decide) (by decide) (by decide) rfl rfl rfl rfl rfl rfl
      by_cases cx51_ : wh_ = 3
      · refine sm_T_sw (t := 118) rfl rfl (by rw [cx51_]; rfl) ?_
        have bx52_ : 0 ≤ Sx35_.1 4 (0 + (0 + kk_.toNat)) 6 ∧ Sx35_.1 4 (0 + (0 + kk_.toNat)) 6 ≤ 2652 := hIx36_.1 4 (0 + (0 + kk_.toNat)) 6 rfl
        refine sm_T_go 2 (c1 := (123, [some (.inr (.inr (some (12, 0)))), some (.inl kk_), some (.inl wh_), some (.inr (.inr (some (2, kk_.toNat)))), some (.inr (.inr (some (4, (0 + (0 + kk_.toNat))))))], [.inl (Sx35_.1 4 (0 + (0 + kk_.toNat)) 6)], Sx35_)) rfl ?_
        refine sm_T_ri rfl (Or.inl ⟨_, _, rfl, _, rfl, hIx36_, hFx39_, ?_⟩)
        exact jC_fr hJ_ hFx39_ (by decide) (by decide) (by decide) (by decide) (by decide) rfl rfl rfl rfl rfl rfl
      refine sm_T_sw (t := 124) rfl rfl (by (have hh_ : wh_ < 0 ∨ 4 ≤ wh_ := by omega); rcases hh_ with hh_ | hh_; (exact sm_swd (Or.inl hh_)); (exact sm_swd (Or.inr (by simp only [List.length_cons, List.length_nil]; omega)))) ?_
      have bx53_ : (-700) ≤ Sx35_.1 4 (0 + (0 + kk_.toNat)) 7 ∧ Sx35_.1 4 (0 + (0 + kk_.toNat)) 7 ≤ 2000 := hIx36_.1 4 (0 + (0 + kk_.toNat)) 7 rfl
      refine sm_T_go 2 (c1 := (129, [some (.inr (.inr (some (12, 0)))), some (.inl kk_), some (.inl wh_), some (.inr (.inr (some (2, kk_.toNat)))), some (.inr (.inr (some (4, (0 + (0 + kk_.toNat))))))], [.inl (Sx35_.1 4 (0 + (0 + kk_.toNat)) 7)], Sx35_)) rfl ?_
      refine sm_T_ri rfl (Or.inl ⟨_, _, rfl, _, rfl, hIx36_, hFx39_, ?_⟩)
      exact jC_fr hJ_ hFx39_ (by decide) (by decide) (by decide) (by decide) (by decide) rfl rfl rfl rfl rfl rfl
end
/-! 99.zp6e -/
section
/-! ChipFlow.add -/
def vw_248 : sx_Wl := ([(4, 1), (4, 9), (4, 10)], [48], [])
def vq_248 (kk_ : Int) (ly_ : Int) (x0_ : Int) (y0_ : Int) (x1_ : Int) (y1_ : Int) (S0_ : sm_S) (u_ : Option sm_V) (S1_ : sm_S) : Prop := ∃ v_ : Int, u_ = some (.inl v_) ∧ gi S1_ ∧ ai_fr (sx_W vw_248) S0_ S1_ ∧ (jC S1_)
def vx_248 (kk_ : Int) (ly_ : Int) (x0_ : Int) (y0_ : Int) (x1_ : Int) (y1_ : Int) (S0_ : sm_S) (S1_ : sm_S) : Prop := gi S1_ ∧ ai_fr (sx_W vw_248) S0_ S1_ ∧ (S1_ = S0_)
set_option maxHeartbeats 400000 in
theorem vc_248 {sc_ : Nat × (Nat → Int)} (kk_ : Int) (ly_ : Int) (x0_ : Int) (y0_ : Int) (x1_ : Int) (y1_ : Int) (S0_ : sm_S) (hI_ : gi S0_) (hJ_ : jC S0_) : sm_T (mt_P sc_) 2 248 (0, [some (.inr (.inr (some (12, 0)))), some (.inl kk_), some (.inl ly_), some (.inl x0_), some (.inl y0_), some (.inl x1_), some (.inl y1_), none], [], S0_) (fun ro9_ => (∃ u_ S1_, ro9_ = (.inl u_, S1_, 0) ∧ vq_248 kk_ ly_ x0_ y0_ x1_ y1_ S0_ u_ S1_) ∨ ∃ ex_ S1_, ro9_ = (.inr ex_, S1_, 1) ∧ ex_ ∈ ([0, 1, 2, 3] : List Nat) ∧ vx_248 kk_ ly_ x0_ y0_ x1_ y1_ S0_ S1_) := by
  have hF_ : ai_fr (sx_W vw_248) S0_ S0_ := ai_fr_rf
  refine sm_T_go 2 (c1 := (2, [some (.inr (.inr (some (12, 0)))), some (.inl kk_), some (.inl ly_), some (.inl x0_), some (.inl y0_), some (.inl x1_), some (.inl y1_), none], [.inl kk_, .inr (.inr (some (12, 0)))], S0_)) rfl ?_
  refine sm_T_cale (d1_ := 1) (Q1_ := vq_272 kk_ S0_) (Q2_ := (fun ex_ S1_ => ex_ ∈ ([0] : List Nat) ∧ vx_272 kk_ S0_ S1_)) rfl rfl (by decide) (vc_272 kk_ S0_ hI_ ) rfl (fun xx6_ Sx1_ px4_ => ?_) (fun u_ Sx1_ px4_ => ?_)
  · obtain ⟨px4m, hIx2_, hFx3_, px4_⟩ := px4_
    refine Or.inr ⟨_, _, rfl, by first | exact px4m | (simp only [List.mem_cons, List.not_mem_nil, or_false] at px4m ⊢; omega), hIx2_, ai_fr_tr hF_ (fr_le hFx3_ rfl), ?_⟩
    first | exact px4_.2 | exact px4_ | rfl
  obtain ⟨rfl, -, -, rfl, px4_⟩ := px4_
  have a9_ := px4_
  have J9_ := hJ_.2.1 kk_.toNat (by omega) a9_.2
  have J1_ := J9_.1
  have q9_ := a9_.2
  have c8_ : 0 ≤ S0_.1 2 (kk_.toNat) 8 ∧ S0_.1 2 (kk_.toNat) 8 ≤ 150 := hI_.1 2 (kk_.toNat) 8 rfl
  have c1_ : 0 ≤ S0_.1 2 (kk_.toNat) 1 ∧ S0_.1 2 (kk_.toNat) 1 ≤ 12 := hI_.1 2 (kk_.toNat) 1 rfl
  have c2_ : 0 ≤ S0_.1 2 (kk_.toNat) 2 ∧ S0_.1 2 (kk_.toNat) 2 ≤ 6 := hI_.1 2 (kk_.toNat) 2 rfl
  refine sm_T_go 4 (c1 := (14, [some (.inr (.inr (some (12, 0)))), some (.inl kk_), some (.inl ly_), some (.inl x0_), some (.inl y0_), some (.inl x1_), some (.inl y1_), some (.inr (.inr (some (4, (0 + (0 + kk_.toNat))))))], [.inl ly_], S0_)) rfl ?_
  refine sm_T_b0 (a := 2) (z := 12) rfl (fun cx7_ => ?_) (fun cx7_ => ?_)
  · have cx7_ : ly_ < 0 := of_decide_eq_true cx7_
    refine sm_T_go 1 (c1 := (27, [some (.inr (.inr (some (12, 0)))), some (.inl kk_), some (.inl ly_), some (.inl x0_), some (.inl y0_), some (.inl x1_), some (.inl y1_), some (.inr (.inr (some (4, (0 + (0 + kk_.toNat))))))], [.inl 0], S0_)) rfl ?_
    refine sm_T_cale (d1_ := 0) (Q1_ := vq_266e 0 S0_) (Q2_ := (fun ex_ S1_ => ex_ ∈ ([1] : List Nat) ∧ vx_266e 0 S0_ S1_)) rfl rfl (by decide) (vc_266e 0 S0_ hI_ ) rfl (fun xx13_ Sx8_ px11_ => ?_) (fun u_ Sx8_ px11_ => ?_)
    · obtain ⟨px11m, hIx9_, hFx10_, px11_⟩ := px11_
      refine Or.inr ⟨_, _, rfl, by first | exact px11m | (simp only [List.mem_cons, List.not_mem_nil, or_false] at px11m ⊢; omega), hIx9_, ai_fr_tr hF_ (fr_le hFx10_ rfl), ?_⟩
      first | exact px11_.2 | exact px11_ | rfl
    · exact absurd rfl px11_.2.2.2.1
  · have cx7_ : ¬ (ly_ < 0) := of_decide_eq_false cx7_
    refine sm_T_go 2 (c1 := (19, [some (.inr (.inr (some (12, 0)))), some (.inl kk_), some (.inl ly_), some (.inl x0_), some (.inl y0_), some (.inl x1_), some (.inl y1_), some (.inr (.inr (some (4, (0 + (0 + kk_.toNat))))))], [.inl 2, .inl ly_], S0_)) rfl ?_
    refine sm_T_br (a := 4) (z := 7) rfl (fun cx14_ => ?_) (fun cx14_ => ?_)
    · have cx14_ : 2 < ly_ := of_decide_eq_true cx14_
      refine sm_T_go 1 (c1 := (27, [some (.inr (.inr (some (12, 0)))), some (.inl kk_), some (.inl ly_), some (.inl x0_), some (.inl y0_), some (.inl x1_), some (.inl y1_), some (.inr (.inr (some (4, (0 + (0 + kk_.toNat))))))], [.inl 0], S0_)) rfl ?_
      refine sm_T_cale (d1_ := 0) (Q1_ := vq_266e 0 S0_) (Q2_ := (fun ex_ S1_ => ex_ ∈ ([1] : List Nat) ∧ vx_266e 0 S0_ S1_)) rfl rfl (by decide) (vc_266e 0 S0_ hI_ ) rfl (fun xx20_ Sx15_ px18_ => ?_) (fun u_ Sx15_ px18_ => ?_)
      · obtain ⟨px18m, hIx16_, hFx17_, px18_⟩ := px18_
        refine Or.inr ⟨_, _, rfl, by first | exact px18m | (simp only [List.mem_cons, List.not_mem_nil, or_false] at px18m ⊢; omega), hIx16_, ai_fr_tr hF_ (fr_le hFx17_ rfl), ?_⟩
        first | exact px18_.2 | exact px18_ | rfl
      · exact absurd rfl px18_.2.2.2.1
    · have cx14_ : ¬ (2 < ly_) := of_decide_eq_false cx14_
      refine sm_T_go 2 (c1 := (27, [some (.inr (.inr (some (12, 0)))), some (.inl kk_), some (.inl ly_), some (.inl x0_), some (.inl y0_), some (.inl x1_), some (.inl y1_), some (.inr (.inr (some (4, (0 + (0 + kk_.toNat))))))], [.inl 1], S0_)) rfl ?_
      refine sm_T_cale (d1_ := 0) (Q1_ := vq_266e 1 S0_) (Q2_ := (fun ex_ S1_ => ex_ ∈ ([1] : List Nat) ∧ vx_266e 1 S0_ S1_)) rfl rfl (by decide) (vc_266e 1 S0_ hI_ ) rfl (fun xx26_ Sx21_ px24_ => ?_) (fun u_ Sx21_ px24_ => ?_)
      · exact absurd px24_.2.2.2.1 (by decide)
      obtain ⟨rfl, -, -, px24_, rfl⟩ := px24_
      refine sm_T_go 2 (c1 := (34, [some (.inr (.inr (some (12, 0)))), some (.inl kk_), some (.inl ly_), some (.inl x0_), some (.inl y0_), some (.inl x1_), some (.inl y1_), some (.inr (.inr (some (4, (0 + (0 + kk_.toNat))))))], [.inl (-1000), .inl x0_], S0_)) rfl ?_
      refine sm_T_br (a := 2) (z := 21) rfl (fun cx27_ => ?_) (fun cx27_ => ?_)
      · have cx27_ : x0_ < (-1000) := of_decide_eq_true cx27_
        refine sm_T_go 1 (c1 := (56, [some (.inr (.inr (some (12, 0)))), some (.inl kk_), some (.inl ly_), some (.inl x0_), some (.inl y0_), some (.inl x1_), some (.inl y1_), some (.inr (.inr (some (4, (0 + (0 + kk_.toNat))))))], [.inl 0], S0_)) rfl ?_
        refine sm_T_cale (d1_ := 0) (Q1_ := vq_266e 0 S0_) (Q2_ := (fun ex_ S1_ => ex_ ∈ ([1] : List Nat) ∧ vx_266e 0 S0_ S1_)) rfl rfl (by decide) (vc_266e 0 S0_ hI_ ) rfl (fun xx33_ Sx28_ px31_ => ?_) (fun u_ Sx28_ px31_ => ?_)
        · obtain ⟨px31m, hIx29_, hFx30_, px31_⟩ := px31_
          refine Or.inr ⟨_, _, rfl, by first | exact px31m | (simp only [List.mem_cons, List.not_mem_nil, or_false] at px31m ⊢; omega), hIx29_, ai_fr_tr hF_ (fr_le hFx30_ rfl), ?_⟩
          first | exact px31_.2 | exact px31_ | rfl
        · exact absurd rfl px31_.2.2.2.1
      · have cx27_ : ¬ (x0_ < (-1000)) := of_decide_eq_false cx27_
        refine sm_T_go 2 (c1 := (40, [some (.inr (.inr (some (12, 0)))), some (.inl kk_), some (.inl ly_), some (.inl x0_), some (.inl y0_), some (.inl x1_), some (.inl y1_), some (.inr (.inr (some (4, (0 + (0 + kk_.toNat))))))], [.inl x1_, .inl x0_], S0_)) rfl ?_
        refine sm_T_br (a := 3) (z := 15) rfl (fun cx34_ => ?_) (fun cx34_ => ?_)
        · have cx34_ : x1_ ≤ x0_ := of_decide_eq_true cx34_
          refine sm_T_go 1 (c1 := (56, [some (.inr (.inr (some (12, 0)))), some (.inl kk_), some (.inl ly_), some (.inl x0_), some (.inl y0_), some (.inl x1_), some (.inl y1_), some (.inr (.inr (some (4, (0 + (0 + kk_.toNat))))))], [.inl 0], S0_)) rfl ?_
          refine sm_T_cale (d1_ := 0) (Q1_ := vq_266e 0 S0_) (Q2_ := (fun ex_ S1_ => ex_ ∈ ([1] : List Nat) ∧ vx_266e 0 S0_ S1_)) rfl rfl (by decide) (vc_266e 0 S0_ hI_ ) rfl (fun xx40_ Sx35_ px38_ => ?_) (fun u_ Sx35_ px38_ => ?_)
          · obtain ⟨px38m, hIx36_, hFx37_, px38_⟩ := px38_
            refine Or.inr ⟨_, _, rfl, by first | exact px38m | (simp only [List.mem_cons, List.not_mem_nil, or_false] at px38m ⊢; omega), hIx36_, ai_fr_tr hF_ (fr_le hFx37_ rfl), ?_⟩
            first | exact px38_.2 | exact px38_ | rfl
          · exact absurd rfl px38_.2.2.2.1
        · have cx34_ : ¬ (x1_ ≤ x0_) := of_decide_eq_false cx34_
          refine sm_T_go 2 (c1 := (48, [some (.inr (.inr (some (12, 0)))), some (.inl kk_), some (.inl ly_), some (.inl x0_), some (.inl y0_), some (.inl x1_), some (.inl y1_), some (.inr (.inr (some (4, (0 + (0 + kk_.toNat))))))], [.inl 1000, .inl x1_], S0_)) rfl ?_
          refine sm_T_br (a := 4) (z := 7) rfl (fun cx41_ => ?_) (fun cx41_ => ?_)
          · have cx41_ : 1000 < x1_ := of_decide_eq_true cx41_
            refine sm_T_go 1 (c1 := (56, [some (.inr (.inr (some (12, 0)))), some (.inl kk_), some (.inl ly_), some (.inl x0_), some (.inl y0_), some (.inl x1_), some (.inl y1_), some (.inr (.inr (some (4, (0 + (0 + kk_.toNat))))))], [.inl 0], S0_)) rfl ?_
            refine sm_T_cale (d1_ := 0) (Q1_ := vq_266e 0 S0_) (Q2_ := (fun ex_ S1_ => ex_ ∈ ([1] : List Nat) ∧ vx_266e 0 S0_ S1_)) rfl rfl (by decide) (vc_266e 0 S0_ hI_ ) rfl (fun xx47_ Sx42_ px45_ => ?_) (fun u_ Sx42_ px45_ => ?_)
            · obtain ⟨px45m, hIx43_, hFx44_, px45_⟩ := px45_
              refine Or.inr ⟨_, _, rfl, by first | exact px45m | (simp only [List.mem_cons, List.not_mem_nil, or_false] at px45m ⊢; omega), hIx43_, ai_fr_tr hF_ (fr_le hFx44_ rfl), ?_⟩
              first | exact px45_.2 | exact px45_ | rfl
            · exact absurd rfl px45_.2.2.2.1
          · have cx41_ : ¬ (1000 < x1_) := of_decide_eq_false cx41_
            refine sm_T_go 2 (c1 := (56, [some (.inr (.inr (some (12, 0)))), some (.inl kk_), some (.inl ly_), some (.inl x0_), some (.inl y0_), some (.inl x1_), some (.inl y1_), some (.inr (.inr (some (4, (0 + (0 + kk_.toNat))))))], [.inl 1], S0_)) rfl ?_
            refine sm_T_cale (d1_ := 0) (Q1_ := vq_266e 1 S0_) (Q2_ := (fun ex_ S1_ => ex_ ∈ ([1] : List Nat) ∧ vx_266e 1 S0_ S1_)) rfl rfl (by decide) (vc_266e 1 S0_ hI_ ) rfl (fun xx53_ Sx48_ px51_ => ?_) (fun u_ Sx48_ px51_ => ?_)
            · exact absurd px51_.2.2.2.1 (by decide)
            obtain ⟨rfl, -, -, px51_, rfl⟩ := px51_
            refine sm_T_go 2 (c1 := (64, [some (.inr (.inr (some (12, 0)))), some (.inl kk_), some (.inl ly_), some (.inl x0_), some (.inl y0_), some (.inl x1_), some (.inl y1_), some (.inr (.inr (some (4, (0 + (0 + kk_.toNat))))))], [.inl (-1000), .inl y0_], S0_)) rfl ?_
            refine sm_T_br (a := 2) (z := 22) rfl (fun cx54_ => ?_) (fun cx54_ => ?_)
            · have cx54_ : y0_ < (-1000) := of_decide_eq_true cx54_
              refine sm_T_go 1 (c1 := (87, [some (.inr (.inr (some (12, 0)))), some (.inl kk_), some (.inl ly_), some (.inl x0_), some (.inl y0_), some (.inl x1_), some (.inl y1_), some (.inr (.inr (some (4, (0 + (0 + kk_.toNat))))))], [.inl 0], S0_)) rfl ?_
              refine sm_T_cale (d1_ := 0) (Q1_ := vq_266e 0 S0_) (Q2_ := (fun ex_ S1_ => ex_ ∈ ([1] : List Nat) ∧ vx_266e 0 S0_ S1_)) rfl rfl (by decide) (vc_266e 0 S0_ hI_ ) rfl (fun xx60_ Sx55_ px58_ => ?_) (fun u_ Sx55_ px58_ => ?_)
              · obtain ⟨px58m, hIx56_, hFx57_, px58_⟩ := px58_
                refine Or.inr ⟨_, _, rfl, by first | exact px58m | (simp only [List.mem_cons, List.not_mem_nil, or_false] at px58m ⊢; omega), hIx56_, ai_fr_tr hF_ (fr_le hFx57_ rfl), ?_⟩
                first | exact px58_.2 | exact px58_ | rfl
              · exact absurd rfl px58_.2.2.2.1
            · have cx54_ : ¬ (y0_ < (-1000)) := of_decide_eq_false cx54_
              refine sm_T_go 2 (c1 := (71, [some (.inr (.inr (some (12, 0)))), some (.inl kk_), some (.inl ly_), some (.inl x0_), some (.inl y0_), some (.inl x1_), some (.inl y1_), some (.inr (.inr (some (4, (0 + (0 + kk_.toNat))))))], [.inl y1_, .inl y0_], S0_)) rfl ?_
              refine sm_T_br (a := 3) (z := 15) rfl (fun cx61_ => ?_) (fun cx61_ => ?_)
              · have cx61_ : y1_ ≤ y0_ := of_decide_eq_true cx61_
                refine sm_T_go 1 (c1 := (87, [some (.inr (.inr (some (12, 0)))), some (.inl kk_), some (.inl ly_), some (.inl x0_), some (.inl y0_), some (.inl x1_), some (.inl y1_), some (.inr (.inr (some (4, (0 + (0 + kk_.toNat))))))], [.inl 0], S0_)) rfl ?_
                refine sm_T_cale (d1_ := 0) (Q1_ := vq_266e 0 S0_) (Q2_ := (fun ex_ S1_ => ex_ ∈ ([1] : List Nat) ∧ vx_266e 0 S0_ S1_)) rfl rfl (by decide) (vc_266e 0 S0_ hI_ ) rfl (fun xx67_ Sx62_ px65_ => ?_) (fun u_ Sx62_ px65_ => ?_)
                · obtain ⟨px65m, hIx63_, hFx64_, px65_⟩ := px65_
                  refine Or.inr ⟨_, _, rfl, by first | exact px65m | (simp only [List.mem_cons, List.not_mem_nil, or_false] at px65m ⊢; omega), hIx63_, ai_fr_tr hF_ (fr_le hFx64_ rfl), ?_⟩
                  first | exact px65_.2 | exact px65_ | rfl
                · exact absurd rfl px65_.2.2.2.1
              · have cx61_ : ¬ (y1_ ≤ y0_) := of_decide_eq_false cx61_
                refine sm_T_go 2 (c1 := (79, [some (.inr (.inr (some (12, 0)))), some (.inl kk_), some (.inl ly_), some (.inl x0_), some (.inl y0_), some (.inl x1_), some (.inl y1_), some (.inr (.inr (some (4, (0 + (0 + kk_.toNat))))))], [.inl 1000, .inl y1_], S0_)) rfl ?_
                refine sm_T_br (a := 4) (z := 7) rfl (fun cx68_ => ?_) (fun cx68_ => ?_)
                · have cx68_ : 1000 < y1_ := of_decide_eq_true cx68_
                  refine sm_T_go 1 (c1 := (87, [some (.inr (.inr (some (12, 0)))), some (.inl kk_), some (.inl ly_), some (.inl x0_), some (.inl y0_), some (.inl x1_), some (.inl y1_), some (.inr (.inr (some (4, (0 + (0 + kk_.toNat))))))], [.inl 0], S0_)) rfl ?_
                  refine sm_T_cale (d1_ := 0) (Q1_ := vq_266e 0 S0_) (Q2_ := (fun ex_ S1_ => ex_ ∈ ([1] : List Nat) ∧ vx_266e 0 S0_ S1_)) rfl rfl (by decide) (vc_266e 0 S0_ hI_ ) rfl (fun xx74_ Sx69_ px72_ => ?_) (fun u_ Sx69_ px72_ => ?_)
                  · obtain ⟨px72m, hIx70_, hFx71_, px72_⟩ := px72_
                    refine Or.inr ⟨_, _, rfl, by first | exact px72m | (simp only [List.mem_cons, List.not_mem_nil, or_false] at px72m ⊢; omega), hIx70_, ai_fr_tr hF_ (fr_le hFx71_ rfl), ?_⟩
                    first | exact px72_.2 | exact px72_ | rfl
                  · exact absurd rfl px72_.2.2.2.1
                · have cx68_ : ¬ (1000 < y1_) := of_decide_eq_false cx68_
                  refine sm_T_go 2 (c1 := (87, [some (.inr (.inr (some (12, 0)))), some (.inl kk_), some (.inl ly_), some (.inl x0_), some (.inl y0_), some (.inl x1_), some (.inl y1_), some (.inr (.inr (some (4, (0 + (0 + kk_.toNat))))))], [.inl 1], S0_)) rfl ?_
                  refine sm_T_cale (d1_ := 0) (Q1_ := vq_266e 1 S0_) (Q2_ := (fun ex_ S1_ => ex_ ∈ ([1] : List Nat) ∧ vx_266e 1 S0_ S1_)) rfl rfl (by decide) (vc_266e 1 S0_ hI_ ) rfl (fun xx80_ Sx75_ px78_ => ?_) (fun u_ Sx75_ px78_ => ?_)
                  · exact absurd px78_.2.2.2.1 (by decide)
                  obtain ⟨rfl, -, -, px78_, rfl⟩ := px78_
                  have bx81_ : 0 ≤ S0_.1 4 (0 + (0 + kk_.toNat)) 0 ∧ S0_.1 4 (0 + (0 + kk_.toNat)) 0 ≤ 1 := hI_.1 4 (0 + (0 + kk_.toNat)) 0 rfl
                  refine sm_T_go 2 (c1 := (95, [some (.inr (.inr (some (12, 0)))), some (.inl kk_), some (.inl ly_), some (.inl x0_), some (.inl y0_), some (.inl x1_), some (.inl y1_), some (.inr (.inr (some (4, (0 + (0 + kk_.toNat))))))], [.inl (S0_.1 4 (0 + (0 + kk_.toNat)) 0)], S0_)) rfl ?_
                  refine sm_T_cale (d1_ := 0) (Q1_ := vq_267e (S0_.1 4 (0 + (0 + kk_.toNat)) 0) S0_) (Q2_ := (fun ex_ S1_ => ex_ ∈ ([2] : List Nat) ∧ vx_267e (S0_.1 4 (0 + (0 + kk_.toNat)) 0) S0_ S1_)) rfl rfl (by decide) (vc_267e (S0_.1 4 (0 + (0 + kk_.toNat)) 0) S0_ hI_ ) rfl (fun xx87_ Sx82_ px85_ => ?_) (fun u_ Sx82_ px85_ => ?_)
                  · obtain ⟨px85m, hIx83_, hFx84_, px85_⟩ := px85_
                    refine Or.inr ⟨_, _, rfl, by first | exact px85m | (simp only [List.mem_cons, List.not_mem_nil, or_false] at px85m ⊢; omega), hIx83_, ai_fr_tr hF_ (fr_le hFx84_ rfl), ?_⟩
                    first | exact px85_.2 | exact px85_ | rfl
                  obtain ⟨rfl, -, -, px85_, rfl⟩ := px85_
                  have bx88_ : 0 ≤ S0_.1 4 (0 + (0 + kk_.toNat)) 1 ∧ S0_.1 4 (0 + (0 + kk_.toNat)) 1 ≤ 2000 := hI_.1 4 (0 + (0 + kk_.toNat)) 1 rfl
                  refine sm_T_go 3 (c1 := (106, [some (.inr (.inr (some (12, 0)))), some (.inl kk_), some (.inl ly_), some (.inl x0_), some (.inl y0_), some (.inl x1_), some (.inl y1_), some (.inr (.inr (some (4, (0 + (0 + kk_.toNat))))))], [.inl 2000, .inl (S0_.1 4 (0 + (0 + kk_.toNat)) 1)], S0_)) rfl ?_
                  refine sm_T_br (a := 3) (z := 7) rfl (fun cx89_ => ?_) (fun cx89_ => ?_)
                  · have cx89_ : 2000 ≤ (S0_.1 4 (0 + (0 + kk_.toNat)) 1) := of_decide_eq_true cx89_
                    refine sm_T_go 1 (c1 := (114, [some (.inr (.inr (some (12, 0)))), some (.inl kk_), some (.inl ly_), some (.inl x0_), some (.inl y0_), some (.inl x1_), some (.inl y1_), some (.inr (.inr (some (4, (0 + (0 + kk_.toNat))))))], [.inl 0], S0_)) rfl ?_
                    refine sm_T_cale (d1_ := 0) (Q1_ := vq_268e 0 S0_) (Q2_ := (fun ex_ S1_ => ex_ ∈ ([3] : List Nat) ∧ vx_268e 0 S0_ S1_)) rfl rfl (by decide) (vc_268e 0 S0_ hI_ ) rfl (fun xx95_ Sx90_ px93_ => ?_) (fun u_ Sx90_ px93_ => ?_)
                    · obtain ⟨px93m, hIx91_, hFx92_, px93_⟩ := px93_
                      refine Or.inr ⟨_, _, rfl, by first | exact px93m | (simp only [List.mem_cons, List.not_mem_nil, or_false] at px93m ⊢; omega), hIx91_, ai_fr_tr hF_ (fr_le hFx92_ rfl), ?_⟩
                      first | exact px93_.2 | exact px93_ | rfl
                    · exact absurd rfl px93_.2.2.2.1
                  · have cx89_ : ¬ (2000 ≤ (S0_.1 4 (0 + (0 + kk_.toNat)) 1)) := of_decide_eq_false cx89_
                    refine sm_T_go 2 (c1 := (114, [some (.inr (.inr (some (12, 0)))), some (.inl kk_), some (.inl ly_), some (.inl x0_), some (.inl y0_), some (.inl x1_), some (.inl y1_), some (.inr (.inr (some (4, (0 + (0 + kk_.toNat))))))], [.inl 1], S0_)) rfl ?_
                    refine sm_T_cale (d1_ := 0) (Q1_ := vq_268e 1 S0_) (Q2_ := (fun ex_ S1_ => ex_ ∈ ([3] : List Nat) ∧ vx_268e 1 S0_ S1_)) rfl rfl (by decide) (vc_268e 1 S0_ hI_ ) rfl (fun xx101_ Sx96_ px99_ => ?_) (fun u_ Sx96_ px99_ => ?_)
                    · exact absurd px99_.2.2.2.1 (by decide)
                    obtain ⟨rfl, -, -, px99_, rfl⟩ := px99_
                    refine sm_T_go 8 (c1 := (132, [some (.inr (.inr (some (12, 0)))), some (.inl kk_), some (.inl ly_), some (.inl x0_), some (.inl y0_), some (.inl x1_), some (.inl y1_), some (.inr (.inr (some (4, (0 + (0 + kk_.toNat))))))], [.inl y1_, .inl x1_, .inl y0_, .inl x0_, .inl ly_, .inl (S0_.1 4 (0 + (0 + kk_.toNat)) 1), .inr (.inr (some (4, (0 + (0 + kk_.toNat)))))], S0_)) rfl ?_
                    refine sm_T_cal (d1 := 0) (Q1 := vq_69 (S0_.1 4 (0 + (0 + kk_.toNat)) 1) ly_ x0_ y0_ x1_ y1_ (0 + (0 + kk_.toNat)) S0_) rfl rfl (by decide) (vc_69 (S0_.1 4 (0 + (0 + kk_.toNat)) 1) ly_ x0_ y0_ x1_ y1_ (0 + (0 + kk_.toNat)) S0_ hI_ (by omega) (by omega) (by omega) (by omega) (by omega) (by omega)) (fun u_ Sx102_ px105_ => ?_)
                    obtain ⟨rfl, hIx103_, hFx104_, px105_⟩ := px105_
                    have hFx106_ : ai_fr (sx_W vw_248) S0_ Sx102_ := ai_fr_tr hF_ (fr_le hFx104_ rfl)
                    obtain ⟨dx107_, px105_⟩ := px105_
                    have y132_ := hFx104_.1 4 (0 + (0 + kk_.toNat)) 1 rfl
                    have bx108_ : 0 ≤ Sx102_.1 4 (0 + (0 + kk_.toNat)) 1 ∧ Sx102_.1 4 (0 + (0 + kk_.toNat)) 1 ≤ 2000 := hIx103_.1 4 (0 + (0 + kk_.toNat)) 1 rfl
                    refine sm_T_go 4 (c1 := (142, [some (.inr (.inr (some (12, 0)))), some (.inl kk_), some (.inl ly_), some (.inl x0_), some (.inl y0_), some (.inl x1_), some (.inl y1_), some (.inr (.inr (some (4, (0 + (0 + kk_.toNat))))))], [.inl 1, .inl (Sx102_.1 4 (0 + (0 + kk_.toNat)) 1), .inr (.inr (some (4, (0 + (0 + kk_.toNat)))))], Sx102_)) rfl ?_
                    refine sm_T_bin (w := (Sx102_.1 4 (0 + (0 + kk_.toNat)) 1) + 1) rfl (bi_add (by omega) (by omega) (by omega)) ?_ -- pc_ 142
                    have hIx109_ : gi (sm_pI Sx102_ 4 (0 + (0 + kk_.toNat)) 1 ((Sx102_.1 4 (0 + (0 + kk_.toNat)) 1) + 1)) := gi_pI hIx103_ (show 0 ≤ (Sx102_.1 4 (0 + (0 + kk_.toNat)) 1) + 1 ∧ (Sx102_.1 4 (0 + (0 + kk_.toNat)) 1) + 1 ≤ 2000 from ⟨by omega, by omega⟩)
                    have hFx110_ : ai_fr (sx_W vw_248) S0_ (sm_pI Sx102_ 4 (0 + (0 + kk_.toNat)) 1 ((Sx102_.1 4 (0 + (0 + kk_.toNat)) 1) + 1)) := ai_fr_tr hFx106_ (ai_fr_pI rfl)
                    refine sm_T_go 2 (c1 := (148, [some (.inr (.inr (some (12, 0)))), some (.inl kk_), some (.inl ly_), some (.inl x0_), some (.inl y0_), some (.inl x1_), some (.inl y1_), some (.inr (.inr (some (4, (0 + (0 + kk_.toNat))))))], [.inr (.inr (some (4, (0 + (0 + kk_.toNat)))))], sm_pI Sx102_ 4 (0 + (0 + kk_.toNat)) 1 ((Sx102_.1 4 (0 + (0 + kk_.toNat)) 1) + 1))) rfl ?_
                    refine sm_T_cal (d1 := 0) (Q1 := vq_68 (0 + (0 + kk_.toNat)) (sm_pI Sx102_ 4 (0 + (0 + kk_.toNat)) 1 ((Sx102_.1 4 (0 + (0 + kk_.toNat)) 1) + 1))) rfl rfl (by decide) (vc_68 (0 + (0 + kk_.toNat)) (sm_pI Sx102_ 4 (0 + (0 + kk_.toNat)) 1 ((Sx102_.1 4 (0 + (0 + kk_.toNat)) 1) + 1)) hIx109_ ) (fun u_ Sx111_ px114_ => ?_)
                    obtain ⟨rfl, hIx112_, hFx113_, px114_⟩ := px114_
                    have hFx115_ : ai_fr (sx_W vw_248) S0_ Sx111_ := ai_fr_tr hFx110_ (fr_le hFx113_ rfl)
                    obtain ⟨dx116_, px114_⟩ := px114_
                    have bx117_ : 0 ≤ Sx111_.1 4 (0 + (0 + kk_.toNat)) 1 ∧ Sx111_.1 4 (0 + (0 + kk_.toNat)) 1 ≤ 2000 := hIx112_.1 4 (0 + (0 + kk_.toNat)) 1 rfl
                    refine sm_T_go 3 (c1 := (157, [some (.inr (.inr (some (12, 0)))), some (.inl kk_), some (.inl ly_), some (.inl x0_), some (.inl y0_), some (.inl x1_), some (.inl y1_), some (.inr (.inr (some (4, (0 + (0 + kk_.toNat))))))], [.inl 1, .inl (Sx111_.1 4 (0 + (0 + kk_.toNat)) 1)], Sx111_)) rfl ?_
                    refine sm_T_bin (w := (Sx111_.1 4 (0 + (0 + kk_.toNat)) 1) - 1) rfl (bi_sub (by omega) (by omega) (by omega)) ?_ -- pc_ 157
                    refine sm_T_ri rfl (Or.inl ⟨_, _, rfl, _, rfl, hIx112_, hFx115_, ?_⟩)
                    exact jC_fr hJ_ hFx115_ (by decide) (by decide) (by decide) (by decide) (by decide) rfl rfl rfl rfl rfl rfl
end
/-! 99.zp7a -/
section
/-! the face of the class: tests; written by wip/p55/gen/vg -/
/-! Chip.isPattern -/
def vw_61p : sx_Wl := ([], [], [])
def vq_61p (a1_ : Int) (ii_ : Nat) (S0_ : sm_S) (u_ : Option sm_V) (S1_ : sm_S) : Prop := S0_ = S1_ ∧ ∃ v_ : Int, u_ = some (.inl v_) ∧ ((v_ = 0 ∨ v_ = 1) ∧ imq (v_ = 1) (0 ≤ a1_ ∧ a1_ ≤ 4095))
set_option maxHeartbeats 400000 in
theorem vc_61p {sc_ : Nat × (Nat → Int)} (a1_ : Int) (ii_ : Nat) (S0_ : sm_S) (hI_ : gi S0_) (hs_ : S0_.1 2 ii_ 1 + S0_.1 2 ii_ 2 ≤ 12) : sm_T (mt_P sc_) 0 61 (0, [some (.inr (.inr (some (2, ii_)))), some (.inl a1_)], [], S0_) (fun ro9_ => ∃ u_ S1_, ro9_ = (.inl u_, S1_, 0) ∧ vq_61p a1_ ii_ S0_ u_ S1_) := by
  have hF_ : ai_fr (sx_W vw_61p) S0_ S0_ := ai_fr_rf
  have c1_ : 0 ≤ S0_.1 2 ii_ 1 ∧ S0_.1 2 ii_ 1 ≤ 12 := hI_.1 2 ii_ 1 rfl
  have c2_ : 0 ≤ S0_.1 2 ii_ 2 ∧ S0_.1 2 ii_ 2 ≤ 6 := hI_.1 2 ii_ 2 rfl
  refine sm_T_go 1 (c1 := (1, [some (.inr (.inr (some (2, ii_)))), some (.inl a1_)], [.inl a1_], S0_)) rfl ?_
  refine sm_T_b0 (a := 2) (z := 22) rfl (fun cx1_ => ?_) (fun cx1_ => ?_)
  · have cx1_ : a1_ < 0 := of_decide_eq_true cx1_
    refine sm_T_go 1 (c1 := (24, [some (.inr (.inr (some (2, ii_)))), some (.inl a1_)], [.inl 0], S0_)) rfl ?_
    refine sm_T_rz rfl (by omega) ⟨_, _, rfl, rfl, _, rfl, ?_⟩
    first | exact ⟨Or.inr rfl, fun _ => ⟨by omega, by omega⟩⟩ | exact ⟨Or.inl rfl, fun q9_ => absurd q9_ (by decide)⟩
  · have cx1_ : ¬ (a1_ < 0) := of_decide_eq_false cx1_
    have bx2_ : 0 ≤ S0_.1 2 ii_ 1 ∧ S0_.1 2 ii_ 1 ≤ 12 := hI_.1 2 ii_ 1 rfl
    have bx3_ : 0 ≤ S0_.1 2 ii_ 2 ∧ S0_.1 2 ii_ 2 ≤ 6 := hI_.1 2 ii_ 2 rfl
    refine sm_T_go 6 (c1 := (14, [some (.inr (.inr (some (2, ii_)))), some (.inl a1_)], [.inl (S0_.1 2 ii_ 2), .inl (S0_.1 2 ii_ 1), .inl 1, .inl a1_], S0_)) rfl ?_
    refine sm_T_bin (w := (S0_.1 2 ii_ 1) + (S0_.1 2 ii_ 2)) rfl (bi_add (by omega) (by omega) (by omega)) ?_ -- pc_ 14
    refine sm_T_bin (w := (i_shl 1 ((S0_.1 2 ii_ 1) + (S0_.1 2 ii_ 2)))) rfl rfl ?_ -- pc_ 15
    have bx4_ := i_shl1 (e := ((S0_.1 2 ii_ 1) + (S0_.1 2 ii_ 2))) (by omega) (by omega)
    have hp8_ := pw_le (n := (((S0_.1 2 ii_ 1) + (S0_.1 2 ii_ 2))).toNat) (m := 12) (by omega)
    refine sm_T_br (a := 3) (z := 7) rfl (fun cx6_ => ?_) (fun cx6_ => ?_)
    · have cx6_ : (i_shl 1 ((S0_.1 2 ii_ 1) + (S0_.1 2 ii_ 2))) ≤ a1_ := of_decide_eq_true cx6_
      refine sm_T_go 1 (c1 := (24, [some (.inr (.inr (some (2, ii_)))), some (.inl a1_)], [.inl 0], S0_)) rfl ?_
      refine sm_T_rz rfl (by omega) ⟨_, _, rfl, rfl, _, rfl, ?_⟩
      first | exact ⟨Or.inr rfl, fun _ => ⟨by omega, by omega⟩⟩ | exact ⟨Or.inl rfl, fun q9_ => absurd q9_ (by decide)⟩
    · have cx6_ : ¬ ((i_shl 1 ((S0_.1 2 ii_ 1) + (S0_.1 2 ii_ 2))) ≤ a1_) := of_decide_eq_false cx6_
      refine sm_T_go 2 (c1 := (24, [some (.inr (.inr (some (2, ii_)))), some (.inl a1_)], [.inl 1], S0_)) rfl ?_
      refine sm_T_rz rfl (by omega) ⟨_, _, rfl, rfl, _, rfl, ?_⟩
      first | exact ⟨Or.inr rfl, fun _ => ⟨by omega, by omega⟩⟩ | exact ⟨Or.inl rfl, fun q9_ => absurd q9_ (by decide)⟩
end
/-! 99.zp7b -/
section
/-! ChipFlow.needPattern -/
def vw_269 : sx_Wl := ([], [], [])
def vq_269 (k_ : Int) (cc_ : Nat) (S0_ : sm_S) (u_ : Option sm_V) (S1_ : sm_S) : Prop := u_ = none ∧ gi S1_ ∧ ai_fr (sx_W vw_269) S0_ S1_ ∧ (S0_ = S1_ ∧ 0 ≤ k_ ∧ k_ < S0_.1 2 cc_ 15)
def vx_269 (k_ : Int) (cc_ : Nat) (S0_ : sm_S) (S1_ : sm_S) : Prop := gi S1_ ∧ ai_fr (sx_W vw_269) S0_ S1_ ∧ (S1_ = S0_)
set_option maxHeartbeats 400000 in
theorem vc_269 {sc_ : Nat × (Nat → Int)} (k_ : Int) (cc_ : Nat) (S0_ : sm_S) (hI_ : gi S0_)  : sm_T (mt_P sc_) 1 269 (0, [some (.inr (.inr (some (2, cc_)))), some (.inl k_)], [], S0_) (fun ro9_ => (∃ u_ S1_, ro9_ = (.inl u_, S1_, 0) ∧ vq_269 k_ cc_ S0_ u_ S1_) ∨ ∃ ex_ S1_, ro9_ = (.inr ex_, S1_, 1) ∧ ex_ ∈ ([0, 2] : List Nat) ∧ vx_269 k_ cc_ S0_ S1_) := by
  have hF_ : ai_fr (sx_W vw_269) S0_ S0_ := ai_fr_rf
  refine sm_T_go 1 (c1 := (1, [some (.inr (.inr (some (2, cc_)))), some (.inl k_)], [.inl k_], S0_)) rfl ?_
  refine sm_T_b0 (a := 2) (z := 23) rfl (fun cx1_ => ?_) (fun cx1_ => ?_)
  · have cx1_ : k_ < 0 := of_decide_eq_true cx1_
    refine sm_T_go 1 (c1 := (25, [some (.inr (.inr (some (2, cc_)))), some (.inl k_)], [.inl 0], S0_)) rfl ?_
    refine sm_T_cale (d1_ := 0) (Q1_ := vq_265e 0 S0_) (Q2_ := (fun ex_ S1_ => ex_ ∈ ([0] : List Nat) ∧ vx_265e 0 S0_ S1_)) rfl rfl (by decide) (vc_265e 0 S0_ hI_ ) rfl (fun xx7_ Sx2_ px5_ => ?_) (fun u_ Sx2_ px5_ => ?_)
    · obtain ⟨px5m, hIx3_, hFx4_, px5_⟩ := px5_
      refine Or.inr ⟨_, _, rfl, by first | exact px5m | (simp only [List.mem_cons, List.not_mem_nil, or_false] at px5m ⊢; omega), hIx3_, ai_fr_tr hF_ (fr_le hFx4_ rfl), ?_⟩
      exact px5_.2
    · exact absurd rfl px5_.2.2.2.1
  · have cx1_ : ¬ (k_ < 0) := of_decide_eq_false cx1_
    have bx8_ : (-1) ≤ S0_.1 2 cc_ 15 ∧ S0_.1 2 cc_ 15 ≤ 1224 := hI_.1 2 cc_ 15 rfl
    refine sm_T_go 3 (c1 := (9, [some (.inr (.inr (some (2, cc_)))), some (.inl k_)], [.inl (-1), .inl (S0_.1 2 cc_ 15)], S0_)) rfl ?_
    refine sm_T_br (a := 0) (z := 11) rfl (fun cx9_ => ?_) (fun cx9_ => ?_)
    · have cx9_ : (S0_.1 2 cc_ 15) = (-1) := of_decide_eq_true cx9_
      refine sm_T_go 2 (c1 := (25, [some (.inr (.inr (some (2, cc_)))), some (.inl k_)], [.inl 1], S0_)) rfl ?_
      refine sm_T_cale (d1_ := 0) (Q1_ := vq_265e 1 S0_) (Q2_ := (fun ex_ S1_ => ex_ ∈ ([0] : List Nat) ∧ vx_265e 1 S0_ S1_)) rfl rfl (by decide) (vc_265e 1 S0_ hI_ ) rfl (fun xx15_ Sx10_ px13_ => ?_) (fun u_ Sx10_ px13_ => ?_)
      · exact absurd px13_.2.2.2.1 (by decide)
      obtain ⟨rfl, -, -, px13_, rfl⟩ := px13_
      refine sm_T_go 3 (c1 := (33, [some (.inr (.inr (some (2, cc_)))), some (.inl k_)], [.inl (-1), .inl (S0_.1 2 cc_ 15)], S0_)) rfl ?_
      refine sm_T_br (a := 0) (z := 7) rfl (fun cx16_ => ?_) (fun cx16_ => ?_)
      · have cx16_ : (S0_.1 2 cc_ 15) = (-1) := of_decide_eq_true cx16_
        refine sm_T_go 1 (c1 := (41, [some (.inr (.inr (some (2, cc_)))), some (.inl k_)], [.inl 0], S0_)) rfl ?_
        refine sm_T_cale (d1_ := 0) (Q1_ := vq_267e 0 S0_) (Q2_ := (fun ex_ S1_ => ex_ ∈ ([2] : List Nat) ∧ vx_267e 0 S0_ S1_)) rfl rfl (by decide) (vc_267e 0 S0_ hI_ ) rfl (fun xx22_ Sx17_ px20_ => ?_) (fun u_ Sx17_ px20_ => ?_)
        · obtain ⟨px20m, hIx18_, hFx19_, px20_⟩ := px20_
          refine Or.inr ⟨_, _, rfl, by first | exact px20m | (simp only [List.mem_cons, List.not_mem_nil, or_false] at px20m ⊢; omega), hIx18_, ai_fr_tr hF_ (fr_le hFx19_ rfl), ?_⟩
          exact px20_.2
        · exact absurd rfl px20_.2.2.2.1
      · have cx16_ : ¬ ((S0_.1 2 cc_ 15) = (-1)) := of_decide_eq_false cx16_
        exfalso; omega
    · have cx9_ : ¬ ((S0_.1 2 cc_ 15) = (-1)) := of_decide_eq_false cx9_
      refine sm_T_go 3 (c1 := (17, [some (.inr (.inr (some (2, cc_)))), some (.inl k_)], [.inl (S0_.1 2 cc_ 15), .inl k_], S0_)) rfl ?_
      refine sm_T_br (a := 3) (z := 7) rfl (fun cx23_ => ?_) (fun cx23_ => ?_)
      · have cx23_ : (S0_.1 2 cc_ 15) ≤ k_ := of_decide_eq_true cx23_
        refine sm_T_go 1 (c1 := (25, [some (.inr (.inr (some (2, cc_)))), some (.inl k_)], [.inl 0], S0_)) rfl ?_
        refine sm_T_cale (d1_ := 0) (Q1_ := vq_265e 0 S0_) (Q2_ := (fun ex_ S1_ => ex_ ∈ ([0] : List Nat) ∧ vx_265e 0 S0_ S1_)) rfl rfl (by decide) (vc_265e 0 S0_ hI_ ) rfl (fun xx29_ Sx24_ px27_ => ?_) (fun u_ Sx24_ px27_ => ?_)
        · obtain ⟨px27m, hIx25_, hFx26_, px27_⟩ := px27_
          refine Or.inr ⟨_, _, rfl, by first | exact px27m | (simp only [List.mem_cons, List.not_mem_nil, or_false] at px27m ⊢; omega), hIx25_, ai_fr_tr hF_ (fr_le hFx26_ rfl), ?_⟩
          exact px27_.2
        · exact absurd rfl px27_.2.2.2.1
      · have cx23_ : ¬ ((S0_.1 2 cc_ 15) ≤ k_) := of_decide_eq_false cx23_
        refine sm_T_go 2 (c1 := (25, [some (.inr (.inr (some (2, cc_)))), some (.inl k_)], [.inl 1], S0_)) rfl ?_
        refine sm_T_cale (d1_ := 0) (Q1_ := vq_265e 1 S0_) (Q2_ := (fun ex_ S1_ => ex_ ∈ ([0] : List Nat) ∧ vx_265e 1 S0_ S1_)) rfl rfl (by decide) (vc_265e 1 S0_ hI_ ) rfl (fun xx35_ Sx30_ px33_ => ?_) (fun u_ Sx30_ px33_ => ?_)
        · exact absurd px33_.2.2.2.1 (by decide)
        obtain ⟨rfl, -, -, px33_, rfl⟩ := px33_
        refine sm_T_go 3 (c1 := (33, [some (.inr (.inr (some (2, cc_)))), some (.inl k_)], [.inl (-1), .inl (S0_.1 2 cc_ 15)], S0_)) rfl ?_
        refine sm_T_br (a := 0) (z := 7) rfl (fun cx36_ => ?_) (fun cx36_ => ?_)
        · have cx36_ : (S0_.1 2 cc_ 15) = (-1) := of_decide_eq_true cx36_
          refine sm_T_go 1 (c1 := (41, [some (.inr (.inr (some (2, cc_)))), some (.inl k_)], [.inl 0], S0_)) rfl ?_
          refine sm_T_cale (d1_ := 0) (Q1_ := vq_267e 0 S0_) (Q2_ := (fun ex_ S1_ => ex_ ∈ ([2] : List Nat) ∧ vx_267e 0 S0_ S1_)) rfl rfl (by decide) (vc_267e 0 S0_ hI_ ) rfl (fun xx42_ Sx37_ px40_ => ?_) (fun u_ Sx37_ px40_ => ?_)
          · obtain ⟨px40m, hIx38_, hFx39_, px40_⟩ := px40_
            refine Or.inr ⟨_, _, rfl, by first | exact px40m | (simp only [List.mem_cons, List.not_mem_nil, or_false] at px40m ⊢; omega), hIx38_, ai_fr_tr hF_ (fr_le hFx39_ rfl), ?_⟩
            exact px40_.2
          · exact absurd rfl px40_.2.2.2.1
        · have cx36_ : ¬ ((S0_.1 2 cc_ 15) = (-1)) := of_decide_eq_false cx36_
          refine sm_T_go 2 (c1 := (41, [some (.inr (.inr (some (2, cc_)))), some (.inl k_)], [.inl 1], S0_)) rfl ?_
          refine sm_T_cale (d1_ := 0) (Q1_ := vq_267e 1 S0_) (Q2_ := (fun ex_ S1_ => ex_ ∈ ([2] : List Nat) ∧ vx_267e 1 S0_ S1_)) rfl rfl (by decide) (vc_267e 1 S0_ hI_ ) rfl (fun xx48_ Sx43_ px46_ => ?_) (fun u_ Sx43_ px46_ => ?_)
          · exact absurd px46_.2.2.2.1 (by decide)
          obtain ⟨rfl, -, -, px46_, rfl⟩ := px46_
          refine sm_T_go 0 (c1 := (44, [some (.inr (.inr (some (2, cc_)))), some (.inl k_)], [], S0_)) rfl ?_
          refine sm_T_rv rfl (Or.inl ⟨_, _, rfl, rfl, hI_, hF_, ?_⟩)
          exact ⟨rfl, by omega, by omega⟩
end
/-! 99.zp7c -/
section
/-! ChipFlow.falsify -/
def vw_254 : sx_Wl := ([(0, 16), (2, 14)], [39], [])
def vq_254 (kk_ : Int) (n_ : Int) (e_ : Int) (S0_ : sm_S) (u_ : Option sm_V) (S1_ : sm_S) : Prop := ∃ v_ : Int, u_ = some (.inl v_) ∧ gi S1_ ∧ ai_fr (sx_W vw_254) S0_ S1_ ∧ (jC S1_)
def vx_254 (kk_ : Int) (n_ : Int) (e_ : Int) (S0_ : sm_S) (S1_ : sm_S) : Prop := gi S1_ ∧ ai_fr (sx_W vw_254) S0_ S1_ ∧ (S1_ = S0_)
set_option maxHeartbeats 400000 in
theorem vc_254 {sc_ : Nat × (Nat → Int)} (kk_ : Int) (n_ : Int) (e_ : Int) (S0_ : sm_S) (hI_ : gi S0_) (hJ_ : jC S0_) : sm_T (mt_P sc_) 2 254 (0, [some (.inr (.inr (some (12, 0)))), some (.inl kk_), some (.inl n_), some (.inl e_), none], [], S0_) (fun ro9_ => (∃ u_ S1_, ro9_ = (.inl u_, S1_, 0) ∧ vq_254 kk_ n_ e_ S0_ u_ S1_) ∨ ∃ ex_ S1_, ro9_ = (.inr ex_, S1_, 1) ∧ ex_ ∈ ([0, 3] : List Nat) ∧ vx_254 kk_ n_ e_ S0_ S1_) := by
  have hF_ : ai_fr (sx_W vw_254) S0_ S0_ := ai_fr_rf
  refine sm_T_go 2 (c1 := (2, [some (.inr (.inr (some (12, 0)))), some (.inl kk_), some (.inl n_), some (.inl e_), none], [.inl kk_, .inr (.inr (some (12, 0)))], S0_)) rfl ?_
  refine sm_T_cale (d1_ := 1) (Q1_ := vq_272 kk_ S0_) (Q2_ := (fun ex_ S1_ => ex_ ∈ ([0] : List Nat) ∧ vx_272 kk_ S0_ S1_)) rfl rfl (by decide) (vc_272 kk_ S0_ hI_ ) rfl (fun xx6_ Sx1_ px4_ => ?_) (fun u_ Sx1_ px4_ => ?_)
  · obtain ⟨px4m, hIx2_, hFx3_, px4_⟩ := px4_
    refine Or.inr ⟨_, _, rfl, by first | exact px4m | (simp only [List.mem_cons, List.not_mem_nil, or_false] at px4m ⊢; omega), hIx2_, ai_fr_tr hF_ (fr_le hFx3_ rfl), ?_⟩
    first | exact px4_.2 | exact px4_ | rfl
  obtain ⟨rfl, -, -, rfl, px4_⟩ := px4_
  have a9_ := px4_
  have J9_ := hJ_.2.1 kk_.toNat (by omega) a9_.2
  have J1_ := J9_.1
  have q9_ := a9_.2
  have c8_ : 0 ≤ S0_.1 2 (kk_.toNat) 8 ∧ S0_.1 2 (kk_.toNat) 8 ≤ 150 := hI_.1 2 (kk_.toNat) 8 rfl
  have c1_ : 0 ≤ S0_.1 2 (kk_.toNat) 1 ∧ S0_.1 2 (kk_.toNat) 1 ≤ 12 := hI_.1 2 (kk_.toNat) 1 rfl
  have c2_ : 0 ≤ S0_.1 2 (kk_.toNat) 2 ∧ S0_.1 2 (kk_.toNat) 2 ≤ 6 := hI_.1 2 (kk_.toNat) 2 rfl
  refine sm_T_go 2 (c1 := (8, [some (.inr (.inr (some (12, 0)))), some (.inl kk_), some (.inl n_), some (.inl e_), some (.inr (.inr (some (2, kk_.toNat))))], [.inl n_], S0_)) rfl ?_
  refine sm_T_b0 (a := 2) (z := 16) rfl (fun cx7_ => ?_) (fun cx7_ => ?_)
  · have cx7_ : n_ < 0 := of_decide_eq_true cx7_
    refine sm_T_go 1 (c1 := (25, [some (.inr (.inr (some (12, 0)))), some (.inl kk_), some (.inl n_), some (.inl e_), some (.inr (.inr (some (2, kk_.toNat))))], [.inl 0], S0_)) rfl ?_
    refine sm_T_cale (d1_ := 0) (Q1_ := vq_265e 0 S0_) (Q2_ := (fun ex_ S1_ => ex_ ∈ ([0] : List Nat) ∧ vx_265e 0 S0_ S1_)) rfl rfl (by decide) (vc_265e 0 S0_ hI_ ) rfl (fun xx13_ Sx8_ px11_ => ?_) (fun u_ Sx8_ px11_ => ?_)
    · obtain ⟨px11m, hIx9_, hFx10_, px11_⟩ := px11_
      refine Or.inr ⟨_, _, rfl, by first | exact px11m | (simp only [List.mem_cons, List.not_mem_nil, or_false] at px11m ⊢; omega), hIx9_, ai_fr_tr hF_ (fr_le hFx10_ rfl), ?_⟩
      first | exact px11_.2 | exact px11_ | rfl
    · exact absurd rfl px11_.2.2.2.1
  · have cx7_ : ¬ (n_ < 0) := of_decide_eq_false cx7_
    refine sm_T_go 2 (c1 := (14, [some (.inr (.inr (some (12, 0)))), some (.inl kk_), some (.inl n_), some (.inl e_), some (.inr (.inr (some (2, kk_.toNat))))], [.inr (.inr (some (2, kk_.toNat))), .inl n_], S0_)) rfl ?_
    refine sm_T_cal (d1 := 0) (Q1 := vq_54 kk_.toNat S0_) rfl rfl (by decide) (vc_54 kk_.toNat S0_ hI_ ) (fun u_ Sx14_ px17_ => ?_)
    obtain ⟨rfl, vx19_, rfl, px17_⟩ := px17_
    refine sm_T_br (a := 3) (z := 7) rfl (fun cx20_ => ?_) (fun cx20_ => ?_)
    · have cx20_ : vx19_ ≤ n_ := of_decide_eq_true cx20_
      refine sm_T_go 1 (c1 := (25, [some (.inr (.inr (some (12, 0)))), some (.inl kk_), some (.inl n_), some (.inl e_), some (.inr (.inr (some (2, kk_.toNat))))], [.inl 0], S0_)) rfl ?_
      refine sm_T_cale (d1_ := 0) (Q1_ := vq_265e 0 S0_) (Q2_ := (fun ex_ S1_ => ex_ ∈ ([0] : List Nat) ∧ vx_265e 0 S0_ S1_)) rfl rfl (by decide) (vc_265e 0 S0_ hI_ ) rfl (fun xx26_ Sx21_ px24_ => ?_) (fun u_ Sx21_ px24_ => ?_)
      · obtain ⟨px24m, hIx22_, hFx23_, px24_⟩ := px24_
        refine Or.inr ⟨_, _, rfl, by first | exact px24m | (simp only [List.mem_cons, List.not_mem_nil, or_false] at px24m ⊢; omega), hIx22_, ai_fr_tr hF_ (fr_le hFx23_ rfl), ?_⟩
        first | exact px24_.2 | exact px24_ | rfl
      · exact absurd rfl px24_.2.2.2.1
    · have cx20_ : ¬ (vx19_ ≤ n_) := of_decide_eq_false cx20_
      refine sm_T_go 2 (c1 := (25, [some (.inr (.inr (some (12, 0)))), some (.inl kk_), some (.inl n_), some (.inl e_), some (.inr (.inr (some (2, kk_.toNat))))], [.inl 1], S0_)) rfl ?_
      refine sm_T_cale (d1_ := 0) (Q1_ := vq_265e 1 S0_) (Q2_ := (fun ex_ S1_ => ex_ ∈ ([0] : List Nat) ∧ vx_265e 1 S0_ S1_)) rfl rfl (by decide) (vc_265e 1 S0_ hI_ ) rfl (fun xx32_ Sx27_ px30_ => ?_) (fun u_ Sx27_ px30_ => ?_)
      · exact absurd px30_.2.2.2.1 (by decide)
      obtain ⟨rfl, -, -, px30_, rfl⟩ := px30_
      refine sm_T_go 1 (c1 := (29, [some (.inr (.inr (some (12, 0)))), some (.inl kk_), some (.inl n_), some (.inl e_), some (.inr (.inr (some (2, kk_.toNat))))], [.inl e_], S0_)) rfl ?_
      refine sm_T_b0 (a := 2) (z := 25) rfl (fun cx33_ => ?_) (fun cx33_ => ?_)
      · have cx33_ : e_ < 0 := of_decide_eq_true cx33_
        refine sm_T_go 1 (c1 := (55, [some (.inr (.inr (some (12, 0)))), some (.inl kk_), some (.inl n_), some (.inl e_), some (.inr (.inr (some (2, kk_.toNat))))], [.inl 0], S0_)) rfl ?_
        refine sm_T_cale (d1_ := 0) (Q1_ := vq_265e 0 S0_) (Q2_ := (fun ex_ S1_ => ex_ ∈ ([0] : List Nat) ∧ vx_265e 0 S0_ S1_)) rfl rfl (by decide) (vc_265e 0 S0_ hI_ ) rfl (fun xx39_ Sx34_ px37_ => ?_) (fun u_ Sx34_ px37_ => ?_)
        · obtain ⟨px37m, hIx35_, hFx36_, px37_⟩ := px37_
          refine Or.inr ⟨_, _, rfl, by first | exact px37m | (simp only [List.mem_cons, List.not_mem_nil, or_false] at px37m ⊢; omega), hIx35_, ai_fr_tr hF_ (fr_le hFx36_ rfl), ?_⟩
          first | exact px37_.2 | exact px37_ | rfl
        · exact absurd rfl px37_.2.2.2.1
      · have cx33_ : ¬ (e_ < 0) := of_decide_eq_false cx33_
        refine sm_T_go 2 (c1 := (35, [some (.inr (.inr (some (12, 0)))), some (.inl kk_), some (.inl n_), some (.inl e_), some (.inr (.inr (some (2, kk_.toNat))))], [.inr (.inr (some (2, kk_.toNat))), .inl e_], S0_)) rfl ?_
        refine sm_T_cal (d1 := 0) (Q1 := vq_57 kk_.toNat S0_) rfl rfl (by decide) (vc_57 kk_.toNat S0_ hI_ ) (fun u_ Sx40_ px43_ => ?_)
        obtain ⟨rfl, vx45_, rfl, px43_⟩ := px43_
        refine sm_T_br (a := 3) (z := 16) rfl (fun cx46_ => ?_) (fun cx46_ => ?_)
        · have cx46_ : vx45_ ≤ e_ := of_decide_eq_true cx46_
          refine sm_T_go 1 (c1 := (55, [some (.inr (.inr (some (12, 0)))), some (.inl kk_), some (.inl n_), some (.inl e_), some (.inr (.inr (some (2, kk_.toNat))))], [.inl 0], S0_)) rfl ?_
          refine sm_T_cale (d1_ := 0) (Q1_ := vq_265e 0 S0_) (Q2_ := (fun ex_ S1_ => ex_ ∈ ([0] : List Nat) ∧ vx_265e 0 S0_ S1_)) rfl rfl (by decide) (vc_265e 0 S0_ hI_ ) rfl (fun xx52_ Sx47_ px50_ => ?_) (fun u_ Sx47_ px50_ => ?_)
          · obtain ⟨px50m, hIx48_, hFx49_, px50_⟩ := px50_
            refine Or.inr ⟨_, _, rfl, by first | exact px50m | (simp only [List.mem_cons, List.not_mem_nil, or_false] at px50m ⊢; omega), hIx48_, ai_fr_tr hF_ (fr_le hFx49_ rfl), ?_⟩
            first | exact px50_.2 | exact px50_ | rfl
          · exact absurd rfl px50_.2.2.2.1
        · have cx46_ : ¬ (vx45_ ≤ e_) := of_decide_eq_false cx46_
          refine sm_T_go 2 (c1 := (44, [some (.inr (.inr (some (12, 0)))), some (.inl kk_), some (.inl n_), some (.inl e_), some (.inr (.inr (some (2, kk_.toNat))))], [.inl e_, .inr (.inr (some (2, kk_.toNat)))], S0_)) rfl ?_
          refine sm_T_cal (d1 := 0) (Q1 := vq_58 e_ kk_.toNat S0_) rfl rfl (by decide) (vc_58 e_ kk_.toNat S0_ hI_ (by omega)) (fun u_ Sx53_ px56_ => ?_)
          obtain ⟨rfl, vx58_, rfl, px56_⟩ := px56_
          refine sm_T_b0 (a := 2) (z := 7) rfl (fun cx59_ => ?_) (fun cx59_ => ?_)
          · have cx59_ : vx58_ < 0 := of_decide_eq_true cx59_
            refine sm_T_go 1 (c1 := (55, [some (.inr (.inr (some (12, 0)))), some (.inl kk_), some (.inl n_), some (.inl e_), some (.inr (.inr (some (2, kk_.toNat))))], [.inl 0], S0_)) rfl ?_
            refine sm_T_cale (d1_ := 0) (Q1_ := vq_265e 0 S0_) (Q2_ := (fun ex_ S1_ => ex_ ∈ ([0] : List Nat) ∧ vx_265e 0 S0_ S1_)) rfl rfl (by decide) (vc_265e 0 S0_ hI_ ) rfl (fun xx65_ Sx60_ px63_ => ?_) (fun u_ Sx60_ px63_ => ?_)
            · obtain ⟨px63m, hIx61_, hFx62_, px63_⟩ := px63_
              refine Or.inr ⟨_, _, rfl, by first | exact px63m | (simp only [List.mem_cons, List.not_mem_nil, or_false] at px63m ⊢; omega), hIx61_, ai_fr_tr hF_ (fr_le hFx62_ rfl), ?_⟩
              first | exact px63_.2 | exact px63_ | rfl
            · exact absurd rfl px63_.2.2.2.1
          · have cx59_ : ¬ (vx58_ < 0) := of_decide_eq_false cx59_
            refine sm_T_go 2 (c1 := (55, [some (.inr (.inr (some (12, 0)))), some (.inl kk_), some (.inl n_), some (.inl e_), some (.inr (.inr (some (2, kk_.toNat))))], [.inl 1], S0_)) rfl ?_
            refine sm_T_cale (d1_ := 0) (Q1_ := vq_265e 1 S0_) (Q2_ := (fun ex_ S1_ => ex_ ∈ ([0] : List Nat) ∧ vx_265e 1 S0_ S1_)) rfl rfl (by decide) (vc_265e 1 S0_ hI_ ) rfl (fun xx71_ Sx66_ px69_ => ?_) (fun u_ Sx66_ px69_ => ?_)
            · exact absurd px69_.2.2.2.1 (by decide)
            obtain ⟨rfl, -, -, px69_, rfl⟩ := px69_
            refine sm_T_go 3 (c1 := (64, [some (.inr (.inr (some (12, 0)))), some (.inl kk_), some (.inl n_), some (.inl e_), some (.inr (.inr (some (2, kk_.toNat))))], [.inl n_, .inr (.inr (some (39, (0 + kk_.toNat))))], S0_)) rfl ?_
            refine sm_T_iald (n := 12) rfl rfl (by omega) (by omega) ?_
            have bx72_ : 0 ≤ S0_.2.2.1 39 (0 + kk_.toNat) n_.toNat ∧ S0_.2.2.1 39 (0 + kk_.toNat) n_.toNat ≤ 4194303 := hI_.2 39 (0 + kk_.toNat) _
            refine sm_T_go 1 (c1 := (66, [some (.inr (.inr (some (12, 0)))), some (.inl kk_), some (.inl n_), some (.inl e_), some (.inr (.inr (some (2, kk_.toNat))))], [.inl e_, .inl (S0_.2.2.1 39 (0 + kk_.toNat) n_.toNat)], S0_)) rfl ?_
            refine sm_T_bin (w := (i_shr (S0_.2.2.1 39 (0 + kk_.toNat) n_.toNat) e_)) rfl rfl ?_ -- pc_ 66
            have bx73_ := i_shr_p (x_ := (S0_.2.2.1 39 (0 + kk_.toNat) n_.toNat)) (e_ := e_) (by omega) (by omega) (by omega)
            refine sm_T_go 1 (c1 := (68, [some (.inr (.inr (some (12, 0)))), some (.inl kk_), some (.inl n_), some (.inl e_), some (.inr (.inr (some (2, kk_.toNat))))], [.inl 1, .inl (i_shr (S0_.2.2.1 39 (0 + kk_.toNat) n_.toNat) e_)], S0_)) rfl ?_
            refine sm_T_bin (w := ((i_shr (S0_.2.2.1 39 (0 + kk_.toNat) n_.toNat) e_) % 2)) rfl (bi_msk (k := 1) (by decide)) ?_ -- pc_ 68
            refine sm_T_b0 (a := 0) (z := 5) rfl (fun cx74_ => ?_) (fun cx74_ => ?_)
            · have cx74_ : ((i_shr (S0_.2.2.1 39 (0 + kk_.toNat) n_.toNat) e_) % 2) = 0 := of_decide_eq_true cx74_
              have bx75_ : 0 ≤ S0_.1 2 kk_.toNat 14 ∧ S0_.1 2 kk_.toNat 14 ≤ 40 := hI_.1 2 kk_.toNat 14 rfl
              refine sm_T_go 3 (c1 := (81, [some (.inr (.inr (some (12, 0)))), some (.inl kk_), some (.inl n_), some (.inl e_), some (.inr (.inr (some (2, kk_.toNat))))], [.inl 40, .inl (S0_.1 2 kk_.toNat 14)], S0_)) rfl ?_
              refine sm_T_br (a := 3) (z := 7) rfl (fun cx76_ => ?_) (fun cx76_ => ?_)
              · have cx76_ : 40 ≤ (S0_.1 2 kk_.toNat 14) := of_decide_eq_true cx76_
                refine sm_T_go 1 (c1 := (89, [some (.inr (.inr (some (12, 0)))), some (.inl kk_), some (.inl n_), some (.inl e_), some (.inr (.inr (some (2, kk_.toNat))))], [.inl 0], S0_)) rfl ?_
                refine sm_T_cale (d1_ := 0) (Q1_ := vq_268e 0 S0_) (Q2_ := (fun ex_ S1_ => ex_ ∈ ([3] : List Nat) ∧ vx_268e 0 S0_ S1_)) rfl rfl (by decide) (vc_268e 0 S0_ hI_ ) rfl (fun xx82_ Sx77_ px80_ => ?_) (fun u_ Sx77_ px80_ => ?_)
                · obtain ⟨px80m, hIx78_, hFx79_, px80_⟩ := px80_
                  refine Or.inr ⟨_, _, rfl, by first | exact px80m | (simp only [List.mem_cons, List.not_mem_nil, or_false] at px80m ⊢; omega), hIx78_, ai_fr_tr hF_ (fr_le hFx79_ rfl), ?_⟩
                  first | exact px80_.2 | exact px80_ | rfl
                · exact absurd rfl px80_.2.2.2.1
              · have cx76_ : ¬ (40 ≤ (S0_.1 2 kk_.toNat 14)) := of_decide_eq_false cx76_
                refine sm_T_go 2 (c1 := (89, [some (.inr (.inr (some (12, 0)))), some (.inl kk_), some (.inl n_), some (.inl e_), some (.inr (.inr (some (2, kk_.toNat))))], [.inl 1], S0_)) rfl ?_
                refine sm_T_cale (d1_ := 0) (Q1_ := vq_268e 1 S0_) (Q2_ := (fun ex_ S1_ => ex_ ∈ ([3] : List Nat) ∧ vx_268e 1 S0_ S1_)) rfl rfl (by decide) (vc_268e 1 S0_ hI_ ) rfl (fun xx88_ Sx83_ px86_ => ?_) (fun u_ Sx83_ px86_ => ?_)
                · exact absurd px86_.2.2.2.1 (by decide)
                obtain ⟨rfl, -, -, px86_, rfl⟩ := px86_
                refine sm_T_go 4 (c1 := (99, [some (.inr (.inr (some (12, 0)))), some (.inl kk_), some (.inl n_), some (.inl e_), some (.inr (.inr (some (2, kk_.toNat))))], [.inl n_, .inr (.inr (some (39, (0 + kk_.toNat)))), .inl n_, .inr (.inr (some (39, (0 + kk_.toNat))))], S0_)) rfl ?_
                refine sm_T_iald (n := 12) rfl rfl (by omega) (by omega) ?_
                refine sm_T_go 2 (c1 := (102, [some (.inr (.inr (some (12, 0)))), some (.inl kk_), some (.inl n_), some (.inl e_), some (.inr (.inr (some (2, kk_.toNat))))], [.inl e_, .inl 1, .inl (S0_.2.2.1 39 (0 + kk_.toNat) n_.toNat), .inl n_, .inr (.inr (some (39, (0 + kk_.toNat))))], S0_)) rfl ?_
                refine sm_T_bin (w := (i_shl 1 e_)) rfl rfl ?_ -- pc_ 102
                have bx89_ := bsh (x_ := 1) (e_ := e_) (k_ := 22) (by omega) (by omega) (by omega) (by decide)
                refine sm_T_bin (w := (i_or (S0_.2.2.1 39 (0 + kk_.toNat) n_.toNat) (i_shl 1 e_))) rfl rfl ?_ -- pc_ 103
                have bx90_ := i_orp (x_ := (S0_.2.2.1 39 (0 + kk_.toNat) n_.toNat)) (y_ := (i_shl 1 e_)) (k_ := 22) (by decide) (by omega) (by omega)
                refine sm_T_iast (n := 12) rfl rfl (by omega) (by omega) ?_
                have hIx91_ : gi (sm_aI S0_ 39 (0 + kk_.toNat) n_.toNat (i_or (S0_.2.2.1 39 (0 + kk_.toNat) n_.toNat) (i_shl 1 e_))) := gi_aI hI_ (show 0 ≤ (i_or (S0_.2.2.1 39 (0 + kk_.toNat) n_.toNat) (i_shl 1 e_)) ∧ (i_or (S0_.2.2.1 39 (0 + kk_.toNat) n_.toNat) (i_shl 1 e_)) ≤ 4194303 from ⟨by omega, by omega⟩)
                have hFx92_ : ai_fr (sx_W vw_254) S0_ (sm_aI S0_ 39 (0 + kk_.toNat) n_.toNat (i_or (S0_.2.2.1 39 (0 + kk_.toNat) n_.toNat) (i_shl 1 e_))) := ai_fr_tr hF_ (ai_fr_aI rfl)
                refine sm_T_go 4 (c1 := (112, [some (.inr (.inr (some (12, 0)))), some (.inl kk_), some (.inl n_), some (.inl e_), some (.inr (.inr (some (2, kk_.toNat))))], [.inl 1, .inl (S0_.1 2 kk_.toNat 14), .inr (.inr (some (2, kk_.toNat)))], sm_aI S0_ 39 (0 + kk_.toNat) n_.toNat (i_or (S0_.2.2.1 39 (0 + kk_.toNat) n_.toNat) (i_shl 1 e_)))) rfl ?_
                refine sm_T_bin (w := (S0_.1 2 kk_.toNat 14) + 1) rfl (bi_add (by omega) (by omega) (by omega)) ?_ -- pc_ 112
                have hIx93_ : gi (sm_pI (sm_aI S0_ 39 (0 + kk_.toNat) n_.toNat (i_or (S0_.2.2.1 39 (0 + kk_.toNat) n_.toNat) (i_shl 1 e_))) 2 kk_.toNat 14 ((S0_.1 2 kk_.toNat 14) + 1)) := gi_pI hIx91_ (show 0 ≤ (S0_.1 2 kk_.toNat 14) + 1 ∧ (S0_.1 2 kk_.toNat 14) + 1 ≤ 40 from ⟨by omega, by omega⟩)
                have hFx94_ : ai_fr (sx_W vw_254) S0_ (sm_pI (sm_aI S0_ 39 (0 + kk_.toNat) n_.toNat (i_or (S0_.2.2.1 39 (0 + kk_.toNat) n_.toNat) (i_shl 1 e_))) 2 kk_.toNat 14 ((S0_.1 2 kk_.toNat 14) + 1)) := ai_fr_tr hFx92_ (ai_fr_pI rfl)
                have bx95_ : (-2147483648) ≤ S0_.1 0 (0 + kk_.toNat) 16 ∧ S0_.1 0 (0 + kk_.toNat) 16 ≤ 2147483647 := hI_.1 0 (0 + kk_.toNat) 16 rfl
                refine sm_T_go 6 (c1 := (126, [some (.inr (.inr (some (12, 0)))), some (.inl kk_), some (.inl n_), some (.inl e_), some (.inr (.inr (some (2, kk_.toNat))))], [.inl 1, .inl (S0_.1 0 (0 + kk_.toNat) 16), .inr (.inr (some (0, (0 + kk_.toNat))))], sm_pI (sm_aI S0_ 39 (0 + kk_.toNat) n_.toNat (i_or (S0_.2.2.1 39 (0 + kk_.toNat) n_.toNat) (i_shl 1 e_))) 2 kk_.toNat 14 ((S0_.1 2 kk_.toNat 14) + 1))) rfl ?_
                refine sm_T_bin (w := (i_add (S0_.1 0 (0 + kk_.toNat) 16) 1)) rfl rfl ?_ -- pc_ 126
                have bx96_ := i_add_r (S0_.1 0 (0 + kk_.toNat) 16) 1
                have hIx97_ : gi (sm_pI (sm_pI (sm_aI S0_ 39 (0 + kk_.toNat) n_.toNat (i_or (S0_.2.2.1 39 (0 + kk_.toNat) n_.toNat) (i_shl 1 e_))) 2 kk_.toNat 14 ((S0_.1 2 kk_.toNat 14) + 1)) 0 (0 + kk_.toNat) 16 (i_add (S0_.1 0 (0 + kk_.toNat) 16) 1)) := gi_pI hIx93_ (show (-2147483648) ≤ (i_add (S0_.1 0 (0 + kk_.toNat) 16) 1) ∧ (i_add (S0_.1 0 (0 + kk_.toNat) 16) 1) ≤ 2147483647 from ⟨by omega, by omega⟩)
                have hFx98_ : ai_fr (sx_W vw_254) S0_ (sm_pI (sm_pI (sm_aI S0_ 39 (0 + kk_.toNat) n_.toNat (i_or (S0_.2.2.1 39 (0 + kk_.toNat) n_.toNat) (i_shl 1 e_))) 2 kk_.toNat 14 ((S0_.1 2 kk_.toNat 14) + 1)) 0 (0 + kk_.toNat) 16 (i_add (S0_.1 0 (0 + kk_.toNat) 16) 1)) := ai_fr_tr hFx94_ (ai_fr_pI rfl)
                refine sm_T_go 2 (c1 := (131, [some (.inr (.inr (some (12, 0)))), some (.inl kk_), some (.inl n_), some (.inl e_), some (.inr (.inr (some (2, kk_.toNat))))], [.inl 1], sm_pI (sm_pI (sm_aI S0_ 39 (0 + kk_.toNat) n_.toNat (i_or (S0_.2.2.1 39 (0 + kk_.toNat) n_.toNat) (i_shl 1 e_))) 2 kk_.toNat 14 ((S0_.1 2 kk_.toNat 14) + 1)) 0 (0 + kk_.toNat) 16 (i_add (S0_.1 0 (0 + kk_.toNat) 16) 1))) rfl ?_
                refine sm_T_rz rfl (by omega) (Or.inl ⟨_, _, rfl, _, rfl, hIx97_, hFx98_, ?_⟩)
                first | exact hJ_ | exact jC_fr hJ_ hFx98_ (by decide) (by decide) (by decide) (by decide) (by decide) rfl rfl rfl rfl rfl rfl
            · have cx74_ : ¬ (((i_shr (S0_.2.2.1 39 (0 + kk_.toNat) n_.toNat) e_) % 2) = 0) := of_decide_eq_false cx74_
              refine sm_T_go 1 (c1 := (73, [some (.inr (.inr (some (12, 0)))), some (.inl kk_), some (.inl n_), some (.inl e_), some (.inr (.inr (some (2, kk_.toNat))))], [.inl 0], S0_)) rfl ?_
              refine sm_T_rz rfl (by omega) (Or.inl ⟨_, _, rfl, _, rfl, hI_, hF_, ?_⟩)
              first | exact hJ_ | exact jC_fr hJ_ hF_ (by decide) (by decide) (by decide) (by decide) (by decide) rfl rfl rfl rfl rfl rfl
end
/-! 99.zp7d -/
section
/-! ChipFlow.pattern -/
def vw_261 : sx_Wl := ([], [], [])
def vq_261 (kk_ : Int) (k_ : Int) (S0_ : sm_S) (u_ : Option sm_V) (S1_ : sm_S) : Prop := ∃ v_ : Int, u_ = some (.inl v_) ∧ gi S1_ ∧ ai_fr (sx_W vw_261) S0_ S1_ ∧ (True)
def vx_261 (kk_ : Int) (k_ : Int) (S0_ : sm_S) (S1_ : sm_S) : Prop := gi S1_ ∧ ai_fr (sx_W vw_261) S0_ S1_ ∧ (S1_ = S0_)
set_option maxHeartbeats 400000 in
theorem vc_261 {sc_ : Nat × (Nat → Int)} (kk_ : Int) (k_ : Int) (S0_ : sm_S) (hI_ : gi S0_) (hJ_ : jC S0_) : sm_T (mt_P sc_) 2 261 (0, [some (.inr (.inr (some (12, 0)))), some (.inl kk_), some (.inl k_), none], [], S0_) (fun ro9_ => (∃ u_ S1_, ro9_ = (.inl u_, S1_, 0) ∧ vq_261 kk_ k_ S0_ u_ S1_) ∨ ∃ ex_ S1_, ro9_ = (.inr ex_, S1_, 1) ∧ ex_ ∈ ([0, 2] : List Nat) ∧ vx_261 kk_ k_ S0_ S1_) := by
  have hF_ : ai_fr (sx_W vw_261) S0_ S0_ := ai_fr_rf
  refine sm_T_go 2 (c1 := (2, [some (.inr (.inr (some (12, 0)))), some (.inl kk_), some (.inl k_), none], [.inl kk_, .inr (.inr (some (12, 0)))], S0_)) rfl ?_
  refine sm_T_cale (d1_ := 1) (Q1_ := vq_272 kk_ S0_) (Q2_ := (fun ex_ S1_ => ex_ ∈ ([0] : List Nat) ∧ vx_272 kk_ S0_ S1_)) rfl rfl (by decide) (vc_272 kk_ S0_ hI_ ) rfl (fun xx6_ Sx1_ px4_ => ?_) (fun u_ Sx1_ px4_ => ?_)
  · obtain ⟨px4m, hIx2_, hFx3_, px4_⟩ := px4_
    refine Or.inr ⟨_, _, rfl, by first | exact px4m | (simp only [List.mem_cons, List.not_mem_nil, or_false] at px4m ⊢; omega), hIx2_, ai_fr_tr hF_ (fr_le hFx3_ rfl), ?_⟩
    first | exact px4_.2 | exact px4_ | rfl
  obtain ⟨rfl, -, -, rfl, px4_⟩ := px4_
  have a9_ := px4_
  have J9_ := hJ_.2.1 kk_.toNat (by omega) a9_.2
  have J1_ := J9_.1
  have q9_ := a9_.2
  have c8_ : 0 ≤ S0_.1 2 (kk_.toNat) 8 ∧ S0_.1 2 (kk_.toNat) 8 ≤ 150 := hI_.1 2 (kk_.toNat) 8 rfl
  have c1_ : 0 ≤ S0_.1 2 (kk_.toNat) 1 ∧ S0_.1 2 (kk_.toNat) 1 ≤ 12 := hI_.1 2 (kk_.toNat) 1 rfl
  have c2_ : 0 ≤ S0_.1 2 (kk_.toNat) 2 ∧ S0_.1 2 (kk_.toNat) 2 ≤ 6 := hI_.1 2 (kk_.toNat) 2 rfl
  refine sm_T_go 3 (c1 := (8, [some (.inr (.inr (some (12, 0)))), some (.inl kk_), some (.inl k_), some (.inr (.inr (some (2, kk_.toNat))))], [.inl k_, .inr (.inr (some (2, kk_.toNat)))], S0_)) rfl ?_
  refine sm_T_cale (d1_ := 1) (Q1_ := vq_269 k_ kk_.toNat S0_) (Q2_ := (fun ex_ S1_ => ex_ ∈ ([0, 2] : List Nat) ∧ vx_269 k_ kk_.toNat S0_ S1_)) rfl rfl (by decide) (vc_269 k_ kk_.toNat S0_ hI_ ) rfl (fun xx12_ Sx7_ px10_ => ?_) (fun u_ Sx7_ px10_ => ?_)
  · obtain ⟨px10m, hIx8_, hFx9_, px10_⟩ := px10_
    refine Or.inr ⟨_, _, rfl, by first | exact px10m | (simp only [List.mem_cons, List.not_mem_nil, or_false] at px10m ⊢; omega), hIx8_, ai_fr_tr hF_ (fr_le hFx9_ rfl), ?_⟩
    first | exact px10_.2 | exact px10_ | rfl
  obtain ⟨rfl, -, -, rfl, px10_⟩ := px10_
  have n8_ := px10_
  have c15_ : (-1) ≤ S0_.1 2 (kk_.toNat) 15 ∧ S0_.1 2 (kk_.toNat) 15 ≤ 1224 := hI_.1 2 (kk_.toNat) 15 rfl
  refine sm_T_go 3 (c1 := (16, [some (.inr (.inr (some (12, 0)))), some (.inl kk_), some (.inl k_), some (.inr (.inr (some (2, kk_.toNat))))], [.inl k_, .inr (.inr (some (40, (0 + kk_.toNat))))], S0_)) rfl ?_
  refine sm_T_iald (n := 1224) rfl rfl (by omega) (by omega) ?_
  have bx13_ : 0 ≤ S0_.2.2.1 40 (0 + kk_.toNat) k_.toNat ∧ S0_.2.2.1 40 (0 + kk_.toNat) k_.toNat ≤ 4095 := hI_.2 40 (0 + kk_.toNat) _
  refine sm_T_ri rfl (Or.inl ⟨_, _, rfl, _, rfl, hI_, hF_, ?_⟩)
  trivial
end
/-! 99.zp8a -/
section
/-! the face of the class: waves; written by wip/p55/gen/vg -/
/-! ChipFlow.wave -/
def vw_256 : sx_Wl := ([(11, 13), (11, 14), (11, 15), (11, 16)], [99, 107, 108, 109], [(11, 12)])
def vq_256 (kk_ : Int) (a_ : Int) (b_ : Int) (n_ : Int) (t_ : Int) (S0_ : sm_S) (u_ : Option sm_V) (S1_ : sm_S) : Prop := ∃ v_ : Int, u_ = some (.inl v_) ∧ gi S1_ ∧ ai_fr (sx_W vw_256) S0_ S1_ ∧ (jC S1_)
def vx_256 (kk_ : Int) (a_ : Int) (b_ : Int) (n_ : Int) (t_ : Int) (S0_ : sm_S) (S1_ : sm_S) : Prop := gi S1_ ∧ ai_fr (sx_W vw_256) S0_ S1_ ∧ (jC S1_)
set_option maxHeartbeats 400000 in
theorem vc_256 {sc_ : Nat × (Nat → Int)} (kk_ : Int) (a_ : Int) (b_ : Int) (n_ : Int) (t_ : Int) (S0_ : sm_S) (hI_ : gi S0_) (hJ_ : jC S0_) : sm_T (mt_P sc_) 3 256 (0, [some (.inr (.inr (some (12, 0)))), some (.inl kk_), some (.inl a_), some (.inl b_), some (.inl n_), some (.inl t_), none], [], S0_) (fun ro9_ => (∃ u_ S1_, ro9_ = (.inl u_, S1_, 0) ∧ vq_256 kk_ a_ b_ n_ t_ S0_ u_ S1_) ∨ ∃ ex_ S1_, ro9_ = (.inr ex_, S1_, 1) ∧ ex_ ∈ ([0, 1, 3] : List Nat) ∧ vx_256 kk_ a_ b_ n_ t_ S0_ S1_) := by
  have hF_ : ai_fr (sx_W vw_256) S0_ S0_ := ai_fr_rf
  refine sm_T_go 2 (c1 := (2, [some (.inr (.inr (some (12, 0)))), some (.inl kk_), some (.inl a_), some (.inl b_), some (.inl n_), some (.inl t_), none], [.inl kk_, .inr (.inr (some (12, 0)))], S0_)) rfl ?_
  refine sm_T_cale (d1_ := 1) (Q1_ := vq_272 kk_ S0_) (Q2_ := (fun ex_ S1_ => ex_ ∈ ([0] : List Nat) ∧ vx_272 kk_ S0_ S1_)) rfl rfl (by decide) (vc_272 kk_ S0_ hI_ ) rfl (fun xx6_ Sx1_ px4_ => ?_) (fun u_ Sx1_ px4_ => ?_)
  · obtain ⟨px4m, hIx2_, hFx3_, px4_⟩ := px4_
    refine Or.inr ⟨_, _, rfl, by first | exact px4m | (simp only [List.mem_cons, List.not_mem_nil, or_false] at px4m ⊢; omega), hIx2_, ai_fr_tr hF_ (fr_le hFx3_ rfl), ?_⟩
    first | (rw [px4_.2]; exact hJ_) | (rw [px4_]; exact hJ_)
  obtain ⟨rfl, -, -, rfl, px4_⟩ := px4_
  have a9_ := px4_
  have J9_ := hJ_.2.1 kk_.toNat (by omega) a9_.2
  have J1_ := J9_.1
  have q9_ := a9_.2
  have c8_ : 0 ≤ S0_.1 2 (kk_.toNat) 8 ∧ S0_.1 2 (kk_.toNat) 8 ≤ 150 := hI_.1 2 (kk_.toNat) 8 rfl
  have c1_ : 0 ≤ S0_.1 2 (kk_.toNat) 1 ∧ S0_.1 2 (kk_.toNat) 1 ≤ 12 := hI_.1 2 (kk_.toNat) 1 rfl
  have c2_ : 0 ≤ S0_.1 2 (kk_.toNat) 2 ∧ S0_.1 2 (kk_.toNat) 2 ≤ 6 := hI_.1 2 (kk_.toNat) 2 rfl
  refine sm_T_go 2 (c1 := (9, [some (.inr (.inr (some (12, 0)))), some (.inl kk_), some (.inl a_), some (.inl b_), some (.inl n_), some (.inl t_), some (.inr (.inr (some (2, kk_.toNat))))], [.inl n_], S0_)) rfl ?_
  refine sm_T_b0 (a := 2) (z := 17) rfl (fun cx7_ => ?_) (fun cx7_ => ?_)
  · have cx7_ : n_ < 0 := of_decide_eq_true cx7_
    refine sm_T_go 1 (c1 := (27, [some (.inr (.inr (some (12, 0)))), some (.inl kk_), some (.inl a_), some (.inl b_), some (.inl n_), some (.inl t_), some (.inr (.inr (some (2, kk_.toNat))))], [.inl 0], S0_)) rfl ?_
    refine sm_T_cale (d1_ := 0) (Q1_ := vq_265e 0 S0_) (Q2_ := (fun ex_ S1_ => ex_ ∈ ([0] : List Nat) ∧ vx_265e 0 S0_ S1_)) rfl rfl (by decide) (vc_265e 0 S0_ hI_ ) rfl (fun xx13_ Sx8_ px11_ => ?_) (fun u_ Sx8_ px11_ => ?_)
    · obtain ⟨px11m, hIx9_, hFx10_, px11_⟩ := px11_
      refine Or.inr ⟨_, _, rfl, by first | exact px11m | (simp only [List.mem_cons, List.not_mem_nil, or_false] at px11m ⊢; omega), hIx9_, ai_fr_tr hF_ (fr_le hFx10_ rfl), ?_⟩
      first | (rw [px11_.2]; exact hJ_) | (rw [px11_]; exact hJ_)
    · exact absurd rfl px11_.2.2.2.1
  · have cx7_ : ¬ (n_ < 0) := of_decide_eq_false cx7_
    refine sm_T_go 2 (c1 := (16, [some (.inr (.inr (some (12, 0)))), some (.inl kk_), some (.inl a_), some (.inl b_), some (.inl n_), some (.inl t_), some (.inr (.inr (some (2, kk_.toNat))))], [.inr (.inr (some (2, kk_.toNat))), .inl n_], S0_)) rfl ?_
    refine sm_T_cal (d1 := 0) (Q1 := vq_55 kk_.toNat S0_) rfl rfl (by decide) (vc_55 kk_.toNat S0_ hI_ ) (fun u_ Sx14_ px17_ => ?_)
    obtain ⟨rfl, vx19_, rfl, px17_⟩ := px17_
    refine sm_T_br (a := 3) (z := 7) rfl (fun cx20_ => ?_) (fun cx20_ => ?_)
    · have cx20_ : vx19_ ≤ n_ := of_decide_eq_true cx20_
      refine sm_T_go 1 (c1 := (27, [some (.inr (.inr (some (12, 0)))), some (.inl kk_), some (.inl a_), some (.inl b_), some (.inl n_), some (.inl t_), some (.inr (.inr (some (2, kk_.toNat))))], [.inl 0], S0_)) rfl ?_
      refine sm_T_cale (d1_ := 0) (Q1_ := vq_265e 0 S0_) (Q2_ := (fun ex_ S1_ => ex_ ∈ ([0] : List Nat) ∧ vx_265e 0 S0_ S1_)) rfl rfl (by decide) (vc_265e 0 S0_ hI_ ) rfl (fun xx26_ Sx21_ px24_ => ?_) (fun u_ Sx21_ px24_ => ?_)
      · obtain ⟨px24m, hIx22_, hFx23_, px24_⟩ := px24_
        refine Or.inr ⟨_, _, rfl, by first | exact px24m | (simp only [List.mem_cons, List.not_mem_nil, or_false] at px24m ⊢; omega), hIx22_, ai_fr_tr hF_ (fr_le hFx23_ rfl), ?_⟩
        first | (rw [px24_.2]; exact hJ_) | (rw [px24_]; exact hJ_)
      · exact absurd rfl px24_.2.2.2.1
    · have cx20_ : ¬ (vx19_ ≤ n_) := of_decide_eq_false cx20_
      refine sm_T_go 2 (c1 := (27, [some (.inr (.inr (some (12, 0)))), some (.inl kk_), some (.inl a_), some (.inl b_), some (.inl n_), some (.inl t_), some (.inr (.inr (some (2, kk_.toNat))))], [.inl 1], S0_)) rfl ?_
      refine sm_T_cale (d1_ := 0) (Q1_ := vq_265e 1 S0_) (Q2_ := (fun ex_ S1_ => ex_ ∈ ([0] : List Nat) ∧ vx_265e 1 S0_ S1_)) rfl rfl (by decide) (vc_265e 1 S0_ hI_ ) rfl (fun xx32_ Sx27_ px30_ => ?_) (fun u_ Sx27_ px30_ => ?_)
      · exact absurd px30_.2.2.2.1 (by decide)
      obtain ⟨rfl, -, -, px30_, rfl⟩ := px30_
      refine sm_T_go 2 (c1 := (33, [some (.inr (.inr (some (12, 0)))), some (.inl kk_), some (.inl a_), some (.inl b_), some (.inl n_), some (.inl t_), some (.inr (.inr (some (2, kk_.toNat))))], [.inl a_, .inr (.inr (some (2, kk_.toNat)))], S0_)) rfl ?_
      refine sm_T_cal (d1 := 0) (Q1 := vq_61p a_ kk_.toNat S0_) rfl rfl (by decide) (vc_61p a_ kk_.toNat S0_ hI_ (by omega)) (fun u_ Sx33_ px36_ => ?_)
      obtain ⟨rfl, vx38_, rfl, px36_⟩ := px36_
      have m33_ := px36_.2
      have n33_ := px36_.1
      refine sm_T_b0 (a := 0) (z := 16) rfl (fun cx39_ => ?_) (fun cx39_ => ?_)
      · have cx39_ : vx38_ = 0 := of_decide_eq_true cx39_
        refine sm_T_go 1 (c1 := (53, [some (.inr (.inr (some (12, 0)))), some (.inl kk_), some (.inl a_), some (.inl b_), some (.inl n_), some (.inl t_), some (.inr (.inr (some (2, kk_.toNat))))], [.inl 0], S0_)) rfl ?_
        refine sm_T_cale (d1_ := 0) (Q1_ := vq_266e 0 S0_) (Q2_ := (fun ex_ S1_ => ex_ ∈ ([1] : List Nat) ∧ vx_266e 0 S0_ S1_)) rfl rfl (by decide) (vc_266e 0 S0_ hI_ ) rfl (fun xx45_ Sx40_ px43_ => ?_) (fun u_ Sx40_ px43_ => ?_)
        · obtain ⟨px43m, hIx41_, hFx42_, px43_⟩ := px43_
          refine Or.inr ⟨_, _, rfl, by first | exact px43m | (simp only [List.mem_cons, List.not_mem_nil, or_false] at px43m ⊢; omega), hIx41_, ai_fr_tr hF_ (fr_le hFx42_ rfl), ?_⟩
          first | (rw [px43_.2]; exact hJ_) | (rw [px43_]; exact hJ_)
        · exact absurd rfl px43_.2.2.2.1
      · have cx39_ : ¬ (vx38_ = 0) := of_decide_eq_false cx39_
        have o33_ := m33_ (by omega)
        refine sm_T_go 2 (c1 := (42, [some (.inr (.inr (some (12, 0)))), some (.inl kk_), some (.inl a_), some (.inl b_), some (.inl n_), some (.inl t_), some (.inr (.inr (some (2, kk_.toNat))))], [.inl b_, .inr (.inr (some (2, kk_.toNat)))], S0_)) rfl ?_
        refine sm_T_cal (d1 := 0) (Q1 := vq_61p b_ kk_.toNat S0_) rfl rfl (by decide) (vc_61p b_ kk_.toNat S0_ hI_ (by omega)) (fun u_ Sx46_ px49_ => ?_)
        obtain ⟨rfl, vx51_, rfl, px49_⟩ := px49_
        have m42_ := px49_.2
        have n42_ := px49_.1
        refine sm_T_b0 (a := 0) (z := 7) rfl (fun cx52_ => ?_) (fun cx52_ => ?_)
        · have cx52_ : vx51_ = 0 := of_decide_eq_true cx52_
          refine sm_T_go 1 (c1 := (53, [some (.inr (.inr (some (12, 0)))), some (.inl kk_), some (.inl a_), some (.inl b_), some (.inl n_), some (.inl t_), some (.inr (.inr (some (2, kk_.toNat))))], [.inl 0], S0_)) rfl ?_
          refine sm_T_cale (d1_ := 0) (Q1_ := vq_266e 0 S0_) (Q2_ := (fun ex_ S1_ => ex_ ∈ ([1] : List Nat) ∧ vx_266e 0 S0_ S1_)) rfl rfl (by decide) (vc_266e 0 S0_ hI_ ) rfl (fun xx58_ Sx53_ px56_ => ?_) (fun u_ Sx53_ px56_ => ?_)
          · obtain ⟨px56m, hIx54_, hFx55_, px56_⟩ := px56_
            refine Or.inr ⟨_, _, rfl, by first | exact px56m | (simp only [List.mem_cons, List.not_mem_nil, or_false] at px56m ⊢; omega), hIx54_, ai_fr_tr hF_ (fr_le hFx55_ rfl), ?_⟩
            first | (rw [px56_.2]; exact hJ_) | (rw [px56_]; exact hJ_)
          · exact absurd rfl px56_.2.2.2.1
        · have cx52_ : ¬ (vx51_ = 0) := of_decide_eq_false cx52_
          have o42_ := m42_ (by omega)
          refine sm_T_go 2 (c1 := (53, [some (.inr (.inr (some (12, 0)))), some (.inl kk_), some (.inl a_), some (.inl b_), some (.inl n_), some (.inl t_), some (.inr (.inr (some (2, kk_.toNat))))], [.inl 1], S0_)) rfl ?_
          refine sm_T_cale (d1_ := 0) (Q1_ := vq_266e 1 S0_) (Q2_ := (fun ex_ S1_ => ex_ ∈ ([1] : List Nat) ∧ vx_266e 1 S0_ S1_)) rfl rfl (by decide) (vc_266e 1 S0_ hI_ ) rfl (fun xx64_ Sx59_ px62_ => ?_) (fun u_ Sx59_ px62_ => ?_)
          · exact absurd px62_.2.2.2.1 (by decide)
          obtain ⟨rfl, -, -, px62_, rfl⟩ := px62_
          refine sm_T_go 2 (c1 := (59, [some (.inr (.inr (some (12, 0)))), some (.inl kk_), some (.inl a_), some (.inl b_), some (.inl n_), some (.inl t_), some (.inr (.inr (some (2, kk_.toNat))))], [.inl (-1), .inl t_], S0_)) rfl ?_
          refine sm_T_br (a := 2) (z := 15) rfl (fun cx65_ => ?_) (fun cx65_ => ?_)
          · have cx65_ : t_ < (-1) := of_decide_eq_true cx65_
            refine sm_T_go 1 (c1 := (75, [some (.inr (.inr (some (12, 0)))), some (.inl kk_), some (.inl a_), some (.inl b_), some (.inl n_), some (.inl t_), some (.inr (.inr (some (2, kk_.toNat))))], [.inl 0], S0_)) rfl ?_
            refine sm_T_cale (d1_ := 0) (Q1_ := vq_266e 0 S0_) (Q2_ := (fun ex_ S1_ => ex_ ∈ ([1] : List Nat) ∧ vx_266e 0 S0_ S1_)) rfl rfl (by decide) (vc_266e 0 S0_ hI_ ) rfl (fun xx71_ Sx66_ px69_ => ?_) (fun u_ Sx66_ px69_ => ?_)
            · obtain ⟨px69m, hIx67_, hFx68_, px69_⟩ := px69_
              refine Or.inr ⟨_, _, rfl, by first | exact px69m | (simp only [List.mem_cons, List.not_mem_nil, or_false] at px69m ⊢; omega), hIx67_, ai_fr_tr hF_ (fr_le hFx68_ rfl), ?_⟩
              first | (rw [px69_.2]; exact hJ_) | (rw [px69_]; exact hJ_)
            · exact absurd rfl px69_.2.2.2.1
          · have cx65_ : ¬ (t_ < (-1)) := of_decide_eq_false cx65_
            refine sm_T_go 1 (c1 := (64, [some (.inr (.inr (some (12, 0)))), some (.inl kk_), some (.inl a_), some (.inl b_), some (.inl n_), some (.inl t_), some (.inr (.inr (some (2, kk_.toNat))))], [.inl t_], S0_)) rfl ?_
            refine sm_T_nt (u := some (.inl 100000)) (S1 := S0_) rfl rfl rfl ?_
            refine sm_T_br (a := 4) (z := 7) rfl (fun cx72_ => ?_) (fun cx72_ => ?_)
            · have cx72_ : 100000 < t_ := of_decide_eq_true cx72_
              refine sm_T_go 1 (c1 := (75, [some (.inr (.inr (some (12, 0)))), some (.inl kk_), some (.inl a_), some (.inl b_), some (.inl n_), some (.inl t_), some (.inr (.inr (some (2, kk_.toNat))))], [.inl 0], S0_)) rfl ?_
              refine sm_T_cale (d1_ := 0) (Q1_ := vq_266e 0 S0_) (Q2_ := (fun ex_ S1_ => ex_ ∈ ([1] : List Nat) ∧ vx_266e 0 S0_ S1_)) rfl rfl (by decide) (vc_266e 0 S0_ hI_ ) rfl (fun xx78_ Sx73_ px76_ => ?_) (fun u_ Sx73_ px76_ => ?_)
              · obtain ⟨px76m, hIx74_, hFx75_, px76_⟩ := px76_
                refine Or.inr ⟨_, _, rfl, by first | exact px76m | (simp only [List.mem_cons, List.not_mem_nil, or_false] at px76m ⊢; omega), hIx74_, ai_fr_tr hF_ (fr_le hFx75_ rfl), ?_⟩
                first | (rw [px76_.2]; exact hJ_) | (rw [px76_]; exact hJ_)
              · exact absurd rfl px76_.2.2.2.1
            · have cx72_ : ¬ (100000 < t_) := of_decide_eq_false cx72_
              refine sm_T_go 2 (c1 := (75, [some (.inr (.inr (some (12, 0)))), some (.inl kk_), some (.inl a_), some (.inl b_), some (.inl n_), some (.inl t_), some (.inr (.inr (some (2, kk_.toNat))))], [.inl 1], S0_)) rfl ?_
              refine sm_T_cale (d1_ := 0) (Q1_ := vq_266e 1 S0_) (Q2_ := (fun ex_ S1_ => ex_ ∈ ([1] : List Nat) ∧ vx_266e 1 S0_ S1_)) rfl rfl (by decide) (vc_266e 1 S0_ hI_ ) rfl (fun xx84_ Sx79_ px82_ => ?_) (fun u_ Sx79_ px82_ => ?_)
              · exact absurd px82_.2.2.2.1 (by decide)
              obtain ⟨rfl, -, -, px82_, rfl⟩ := px82_
              refine sm_T_go 5 (c1 := (86, [some (.inr (.inr (some (12, 0)))), some (.inl kk_), some (.inl a_), some (.inl b_), some (.inl n_), some (.inl t_), some (.inr (.inr (some (2, kk_.toNat))))], [.inl b_, .inl a_, .inr (.inr (some (2, kk_.toNat))), .inr (.inr (some (11, 0)))], S0_)) rfl ?_
              refine sm_T_cal (d1 := 2) (Q1 := vq_205 a_ b_ kk_.toNat S0_) rfl rfl (by decide) (vc_205 a_ b_ kk_.toNat S0_ hI_ (by omega) (by omega) (by omega)) (fun u_ Sx85_ px88_ => ?_)
              obtain ⟨rfl, hIx86_, hFx87_, px88_⟩ := px88_
              have hFx89_ : ai_fr (sx_W vw_256) S0_ Sx85_ := ai_fr_tr hF_ (fr_le hFx87_ rfl)
              have J8_ := jC_fr hJ_ hFx89_ (by decide) (by decide) (by decide) (by decide) (by decide) rfl rfl rfl rfl rfl rfl
              have y1_ := hFx87_.1 2 kk_.toNat 1 rfl
              have y2_ := hFx87_.1 2 kk_.toNat 2 rfl
              have y8_ := hFx87_.1 2 kk_.toNat 8 rfl
              have bx90_ : 0 ≤ Sx85_.1 11 0 16 ∧ Sx85_.1 11 0 16 ≤ 1 := hIx86_.1 11 0 16 rfl
              refine sm_T_go 3 (c1 := (96, [some (.inr (.inr (some (12, 0)))), some (.inl kk_), some (.inl a_), some (.inl b_), some (.inl n_), some (.inl t_), some (.inr (.inr (some (2, kk_.toNat))))], [.inl (Sx85_.1 11 0 16)], Sx85_)) rfl ?_
              refine sm_T_b0 (a := 1) (z := 7) rfl (fun cx91_ => ?_) (fun cx91_ => ?_)
              · have cx91_ : (Sx85_.1 11 0 16) ≠ 0 := of_decide_eq_true cx91_
                refine sm_T_go 1 (c1 := (104, [some (.inr (.inr (some (12, 0)))), some (.inl kk_), some (.inl a_), some (.inl b_), some (.inl n_), some (.inl t_), some (.inr (.inr (some (2, kk_.toNat))))], [.inl 0], Sx85_)) rfl ?_
                refine sm_T_cale (d1_ := 0) (Q1_ := vq_268e 0 Sx85_) (Q2_ := (fun ex_ S1_ => ex_ ∈ ([3] : List Nat) ∧ vx_268e 0 Sx85_ S1_)) rfl rfl (by decide) (vc_268e 0 Sx85_ hIx86_ ) rfl (fun xx97_ Sx92_ px95_ => ?_) (fun u_ Sx92_ px95_ => ?_)
                · obtain ⟨px95m, hIx93_, hFx94_, px95_⟩ := px95_
                  refine Or.inr ⟨_, _, rfl, by first | exact px95m | (simp only [List.mem_cons, List.not_mem_nil, or_false] at px95m ⊢; omega), hIx93_, ai_fr_tr hFx89_ (fr_le hFx94_ rfl), ?_⟩
                  rw [px95_.2]; exact J8_
                · exact absurd rfl px95_.2.2.2.1
              · have cx91_ : ¬ ((Sx85_.1 11 0 16) ≠ 0) := of_decide_eq_false cx91_
                refine sm_T_go 2 (c1 := (104, [some (.inr (.inr (some (12, 0)))), some (.inl kk_), some (.inl a_), some (.inl b_), some (.inl n_), some (.inl t_), some (.inr (.inr (some (2, kk_.toNat))))], [.inl 1], Sx85_)) rfl ?_
                refine sm_T_cale (d1_ := 0) (Q1_ := vq_268e 1 Sx85_) (Q2_ := (fun ex_ S1_ => ex_ ∈ ([3] : List Nat) ∧ vx_268e 1 Sx85_ S1_)) rfl rfl (by decide) (vc_268e 1 Sx85_ hIx86_ ) rfl (fun xx103_ Sx98_ px101_ => ?_) (fun u_ Sx98_ px101_ => ?_)
                · exact absurd px101_.2.2.2.1 (by decide)
                obtain ⟨rfl, -, -, px101_, rfl⟩ := px101_
                refine sm_T_go 4 (c1 := (115, [some (.inr (.inr (some (12, 0)))), some (.inl kk_), some (.inl a_), some (.inl b_), some (.inl n_), some (.inl t_), some (.inr (.inr (some (2, kk_.toNat))))], [.inl t_, .inl n_, .inr (.inr (some (11, 0)))], Sx85_)) rfl ?_
                refine sm_T_cal (d1 := 0) (Q1 := vq_209 n_ t_ Sx85_) rfl rfl (by decide) (vc_209 n_ t_ Sx85_ hIx86_ (by omega)) (fun u_ Sx104_ px107_ => ?_)
                obtain ⟨rfl, vx109_, rfl, px107_⟩ := px107_
                refine sm_T_ri rfl (Or.inl ⟨_, _, rfl, _, rfl, hIx86_, hFx89_, ?_⟩)
                exact J8_
end
/-! 99.zp8b -/
section
/-! ChipFlow.changes -/
def vw_257 : sx_Wl := ([(11, 13), (11, 14), (11, 15), (11, 16)], [99, 107, 108, 109], [(11, 12)])
def vq_257 (kk_ : Int) (a_ : Int) (b_ : Int) (n_ : Int) (S0_ : sm_S) (u_ : Option sm_V) (S1_ : sm_S) : Prop := ∃ v_ : Int, u_ = some (.inl v_) ∧ gi S1_ ∧ ai_fr (sx_W vw_257) S0_ S1_ ∧ (jC S1_)
def vx_257 (kk_ : Int) (a_ : Int) (b_ : Int) (n_ : Int) (S0_ : sm_S) (S1_ : sm_S) : Prop := gi S1_ ∧ ai_fr (sx_W vw_257) S0_ S1_ ∧ (jC S1_)
set_option maxHeartbeats 400000 in
theorem vc_257 {sc_ : Nat × (Nat → Int)} (kk_ : Int) (a_ : Int) (b_ : Int) (n_ : Int) (S0_ : sm_S) (hI_ : gi S0_) (hJ_ : jC S0_) : sm_T (mt_P sc_) 3 257 (0, [some (.inr (.inr (some (12, 0)))), some (.inl kk_), some (.inl a_), some (.inl b_), some (.inl n_), none], [], S0_) (fun ro9_ => (∃ u_ S1_, ro9_ = (.inl u_, S1_, 0) ∧ vq_257 kk_ a_ b_ n_ S0_ u_ S1_) ∨ ∃ ex_ S1_, ro9_ = (.inr ex_, S1_, 1) ∧ ex_ ∈ ([0, 1, 3] : List Nat) ∧ vx_257 kk_ a_ b_ n_ S0_ S1_) := by
  have hF_ : ai_fr (sx_W vw_257) S0_ S0_ := ai_fr_rf
  refine sm_T_go 2 (c1 := (2, [some (.inr (.inr (some (12, 0)))), some (.inl kk_), some (.inl a_), some (.inl b_), some (.inl n_), none], [.inl kk_, .inr (.inr (some (12, 0)))], S0_)) rfl ?_
  refine sm_T_cale (d1_ := 1) (Q1_ := vq_272 kk_ S0_) (Q2_ := (fun ex_ S1_ => ex_ ∈ ([0] : List Nat) ∧ vx_272 kk_ S0_ S1_)) rfl rfl (by decide) (vc_272 kk_ S0_ hI_ ) rfl (fun xx6_ Sx1_ px4_ => ?_) (fun u_ Sx1_ px4_ => ?_)
  · obtain ⟨px4m, hIx2_, hFx3_, px4_⟩ := px4_
    refine Or.inr ⟨_, _, rfl, by first | exact px4m | (simp only [List.mem_cons, List.not_mem_nil, or_false] at px4m ⊢; omega), hIx2_, ai_fr_tr hF_ (fr_le hFx3_ rfl), ?_⟩
    first | (rw [px4_.2]; exact hJ_) | (rw [px4_]; exact hJ_)
  obtain ⟨rfl, -, -, rfl, px4_⟩ := px4_
  have a9_ := px4_
  have J9_ := hJ_.2.1 kk_.toNat (by omega) a9_.2
  have J1_ := J9_.1
  have q9_ := a9_.2
  have c8_ : 0 ≤ S0_.1 2 (kk_.toNat) 8 ∧ S0_.1 2 (kk_.toNat) 8 ≤ 150 := hI_.1 2 (kk_.toNat) 8 rfl
  have c1_ : 0 ≤ S0_.1 2 (kk_.toNat) 1 ∧ S0_.1 2 (kk_.toNat) 1 ≤ 12 := hI_.1 2 (kk_.toNat) 1 rfl
  have c2_ : 0 ≤ S0_.1 2 (kk_.toNat) 2 ∧ S0_.1 2 (kk_.toNat) 2 ≤ 6 := hI_.1 2 (kk_.toNat) 2 rfl
  refine sm_T_go 3 (c1 := (10, [some (.inr (.inr (some (12, 0)))), some (.inl kk_), some (.inl a_), some (.inl b_), some (.inl n_), some (.inr (.inr (some (2, kk_.toNat))))], [.inl (-1), .inl n_], S0_)) rfl ?_
  refine sm_T_br (a := 2) (z := 17) rfl (fun cx7_ => ?_) (fun cx7_ => ?_)
  · have cx7_ : n_ < (-1) := of_decide_eq_true cx7_
    refine sm_T_go 1 (c1 := (28, [some (.inr (.inr (some (12, 0)))), some (.inl kk_), some (.inl a_), some (.inl b_), some (.inl n_), some (.inr (.inr (some (2, kk_.toNat))))], [.inl 0], S0_)) rfl ?_
    refine sm_T_cale (d1_ := 0) (Q1_ := vq_265e 0 S0_) (Q2_ := (fun ex_ S1_ => ex_ ∈ ([0] : List Nat) ∧ vx_265e 0 S0_ S1_)) rfl rfl (by decide) (vc_265e 0 S0_ hI_ ) rfl (fun xx13_ Sx8_ px11_ => ?_) (fun u_ Sx8_ px11_ => ?_)
    · obtain ⟨px11m, hIx9_, hFx10_, px11_⟩ := px11_
      refine Or.inr ⟨_, _, rfl, by first | exact px11m | (simp only [List.mem_cons, List.not_mem_nil, or_false] at px11m ⊢; omega), hIx9_, ai_fr_tr hF_ (fr_le hFx10_ rfl), ?_⟩
      first | (rw [px11_.2]; exact hJ_) | (rw [px11_]; exact hJ_)
    · exact absurd rfl px11_.2.2.2.1
  · have cx7_ : ¬ (n_ < (-1)) := of_decide_eq_false cx7_
    refine sm_T_go 2 (c1 := (17, [some (.inr (.inr (some (12, 0)))), some (.inl kk_), some (.inl a_), some (.inl b_), some (.inl n_), some (.inr (.inr (some (2, kk_.toNat))))], [.inr (.inr (some (2, kk_.toNat))), .inl n_], S0_)) rfl ?_
    refine sm_T_cal (d1 := 0) (Q1 := vq_55 kk_.toNat S0_) rfl rfl (by decide) (vc_55 kk_.toNat S0_ hI_ ) (fun u_ Sx14_ px17_ => ?_)
    obtain ⟨rfl, vx19_, rfl, px17_⟩ := px17_
    refine sm_T_br (a := 3) (z := 7) rfl (fun cx20_ => ?_) (fun cx20_ => ?_)
    · have cx20_ : vx19_ ≤ n_ := of_decide_eq_true cx20_
      refine sm_T_go 1 (c1 := (28, [some (.inr (.inr (some (12, 0)))), some (.inl kk_), some (.inl a_), some (.inl b_), some (.inl n_), some (.inr (.inr (some (2, kk_.toNat))))], [.inl 0], S0_)) rfl ?_
      refine sm_T_cale (d1_ := 0) (Q1_ := vq_265e 0 S0_) (Q2_ := (fun ex_ S1_ => ex_ ∈ ([0] : List Nat) ∧ vx_265e 0 S0_ S1_)) rfl rfl (by decide) (vc_265e 0 S0_ hI_ ) rfl (fun xx26_ Sx21_ px24_ => ?_) (fun u_ Sx21_ px24_ => ?_)
      · obtain ⟨px24m, hIx22_, hFx23_, px24_⟩ := px24_
        refine Or.inr ⟨_, _, rfl, by first | exact px24m | (simp only [List.mem_cons, List.not_mem_nil, or_false] at px24m ⊢; omega), hIx22_, ai_fr_tr hF_ (fr_le hFx23_ rfl), ?_⟩
        first | (rw [px24_.2]; exact hJ_) | (rw [px24_]; exact hJ_)
      · exact absurd rfl px24_.2.2.2.1
    · have cx20_ : ¬ (vx19_ ≤ n_) := of_decide_eq_false cx20_
      refine sm_T_go 2 (c1 := (28, [some (.inr (.inr (some (12, 0)))), some (.inl kk_), some (.inl a_), some (.inl b_), some (.inl n_), some (.inr (.inr (some (2, kk_.toNat))))], [.inl 1], S0_)) rfl ?_
      refine sm_T_cale (d1_ := 0) (Q1_ := vq_265e 1 S0_) (Q2_ := (fun ex_ S1_ => ex_ ∈ ([0] : List Nat) ∧ vx_265e 1 S0_ S1_)) rfl rfl (by decide) (vc_265e 1 S0_ hI_ ) rfl (fun xx32_ Sx27_ px30_ => ?_) (fun u_ Sx27_ px30_ => ?_)
      · exact absurd px30_.2.2.2.1 (by decide)
      obtain ⟨rfl, -, -, px30_, rfl⟩ := px30_
      refine sm_T_go 2 (c1 := (34, [some (.inr (.inr (some (12, 0)))), some (.inl kk_), some (.inl a_), some (.inl b_), some (.inl n_), some (.inr (.inr (some (2, kk_.toNat))))], [.inl a_, .inr (.inr (some (2, kk_.toNat)))], S0_)) rfl ?_
      refine sm_T_cal (d1 := 0) (Q1 := vq_61p a_ kk_.toNat S0_) rfl rfl (by decide) (vc_61p a_ kk_.toNat S0_ hI_ (by omega)) (fun u_ Sx33_ px36_ => ?_)
      obtain ⟨rfl, vx38_, rfl, px36_⟩ := px36_
      have m34_ := px36_.2
      have n34_ := px36_.1
      refine sm_T_b0 (a := 0) (z := 16) rfl (fun cx39_ => ?_) (fun cx39_ => ?_)
      · have cx39_ : vx38_ = 0 := of_decide_eq_true cx39_
        refine sm_T_go 1 (c1 := (54, [some (.inr (.inr (some (12, 0)))), some (.inl kk_), some (.inl a_), some (.inl b_), some (.inl n_), some (.inr (.inr (some (2, kk_.toNat))))], [.inl 0], S0_)) rfl ?_
        refine sm_T_cale (d1_ := 0) (Q1_ := vq_266e 0 S0_) (Q2_ := (fun ex_ S1_ => ex_ ∈ ([1] : List Nat) ∧ vx_266e 0 S0_ S1_)) rfl rfl (by decide) (vc_266e 0 S0_ hI_ ) rfl (fun xx45_ Sx40_ px43_ => ?_) (fun u_ Sx40_ px43_ => ?_)
        · obtain ⟨px43m, hIx41_, hFx42_, px43_⟩ := px43_
          refine Or.inr ⟨_, _, rfl, by first | exact px43m | (simp only [List.mem_cons, List.not_mem_nil, or_false] at px43m ⊢; omega), hIx41_, ai_fr_tr hF_ (fr_le hFx42_ rfl), ?_⟩
          first | (rw [px43_.2]; exact hJ_) | (rw [px43_]; exact hJ_)
        · exact absurd rfl px43_.2.2.2.1
      · have cx39_ : ¬ (vx38_ = 0) := of_decide_eq_false cx39_
        have o34_ := m34_ (by omega)
        refine sm_T_go 2 (c1 := (43, [some (.inr (.inr (some (12, 0)))), some (.inl kk_), some (.inl a_), some (.inl b_), some (.inl n_), some (.inr (.inr (some (2, kk_.toNat))))], [.inl b_, .inr (.inr (some (2, kk_.toNat)))], S0_)) rfl ?_
        refine sm_T_cal (d1 := 0) (Q1 := vq_61p b_ kk_.toNat S0_) rfl rfl (by decide) (vc_61p b_ kk_.toNat S0_ hI_ (by omega)) (fun u_ Sx46_ px49_ => ?_)
        obtain ⟨rfl, vx51_, rfl, px49_⟩ := px49_
        have m43_ := px49_.2
        have n43_ := px49_.1
        refine sm_T_b0 (a := 0) (z := 7) rfl (fun cx52_ => ?_) (fun cx52_ => ?_)
        · have cx52_ : vx51_ = 0 := of_decide_eq_true cx52_
          refine sm_T_go 1 (c1 := (54, [some (.inr (.inr (some (12, 0)))), some (.inl kk_), some (.inl a_), some (.inl b_), some (.inl n_), some (.inr (.inr (some (2, kk_.toNat))))], [.inl 0], S0_)) rfl ?_
          refine sm_T_cale (d1_ := 0) (Q1_ := vq_266e 0 S0_) (Q2_ := (fun ex_ S1_ => ex_ ∈ ([1] : List Nat) ∧ vx_266e 0 S0_ S1_)) rfl rfl (by decide) (vc_266e 0 S0_ hI_ ) rfl (fun xx58_ Sx53_ px56_ => ?_) (fun u_ Sx53_ px56_ => ?_)
          · obtain ⟨px56m, hIx54_, hFx55_, px56_⟩ := px56_
            refine Or.inr ⟨_, _, rfl, by first | exact px56m | (simp only [List.mem_cons, List.not_mem_nil, or_false] at px56m ⊢; omega), hIx54_, ai_fr_tr hF_ (fr_le hFx55_ rfl), ?_⟩
            first | (rw [px56_.2]; exact hJ_) | (rw [px56_]; exact hJ_)
          · exact absurd rfl px56_.2.2.2.1
        · have cx52_ : ¬ (vx51_ = 0) := of_decide_eq_false cx52_
          have o43_ := m43_ (by omega)
          refine sm_T_go 2 (c1 := (54, [some (.inr (.inr (some (12, 0)))), some (.inl kk_), some (.inl a_), some (.inl b_), some (.inl n_), some (.inr (.inr (some (2, kk_.toNat))))], [.inl 1], S0_)) rfl ?_
          refine sm_T_cale (d1_ := 0) (Q1_ := vq_266e 1 S0_) (Q2_ := (fun ex_ S1_ => ex_ ∈ ([1] : List Nat) ∧ vx_266e 1 S0_ S1_)) rfl rfl (by decide) (vc_266e 1 S0_ hI_ ) rfl (fun xx64_ Sx59_ px62_ => ?_) (fun u_ Sx59_ px62_ => ?_)
          · exact absurd px62_.2.2.2.1 (by decide)
          obtain ⟨rfl, -, -, px62_, rfl⟩ := px62_
          refine sm_T_go 5 (c1 := (65, [some (.inr (.inr (some (12, 0)))), some (.inl kk_), some (.inl a_), some (.inl b_), some (.inl n_), some (.inr (.inr (some (2, kk_.toNat))))], [.inl b_, .inl a_, .inr (.inr (some (2, kk_.toNat))), .inr (.inr (some (11, 0)))], S0_)) rfl ?_
          refine sm_T_cal (d1 := 2) (Q1 := vq_205 a_ b_ kk_.toNat S0_) rfl rfl (by decide) (vc_205 a_ b_ kk_.toNat S0_ hI_ (by omega) (by omega) (by omega)) (fun u_ Sx65_ px68_ => ?_)
          obtain ⟨rfl, hIx66_, hFx67_, px68_⟩ := px68_
          have hFx69_ : ai_fr (sx_W vw_257) S0_ Sx65_ := ai_fr_tr hF_ (fr_le hFx67_ rfl)
          have J8_ := jC_fr hJ_ hFx69_ (by decide) (by decide) (by decide) (by decide) (by decide) rfl rfl rfl rfl rfl rfl
          have y1_ := hFx67_.1 2 kk_.toNat 1 rfl
          have y2_ := hFx67_.1 2 kk_.toNat 2 rfl
          have y8_ := hFx67_.1 2 kk_.toNat 8 rfl
          have bx70_ : 0 ≤ Sx65_.1 11 0 16 ∧ Sx65_.1 11 0 16 ≤ 1 := hIx66_.1 11 0 16 rfl
          refine sm_T_go 3 (c1 := (75, [some (.inr (.inr (some (12, 0)))), some (.inl kk_), some (.inl a_), some (.inl b_), some (.inl n_), some (.inr (.inr (some (2, kk_.toNat))))], [.inl (Sx65_.1 11 0 16)], Sx65_)) rfl ?_
          refine sm_T_b0 (a := 1) (z := 7) rfl (fun cx71_ => ?_) (fun cx71_ => ?_)
          · have cx71_ : (Sx65_.1 11 0 16) ≠ 0 := of_decide_eq_true cx71_
            refine sm_T_go 1 (c1 := (83, [some (.inr (.inr (some (12, 0)))), some (.inl kk_), some (.inl a_), some (.inl b_), some (.inl n_), some (.inr (.inr (some (2, kk_.toNat))))], [.inl 0], Sx65_)) rfl ?_
            refine sm_T_cale (d1_ := 0) (Q1_ := vq_268e 0 Sx65_) (Q2_ := (fun ex_ S1_ => ex_ ∈ ([3] : List Nat) ∧ vx_268e 0 Sx65_ S1_)) rfl rfl (by decide) (vc_268e 0 Sx65_ hIx66_ ) rfl (fun xx77_ Sx72_ px75_ => ?_) (fun u_ Sx72_ px75_ => ?_)
            · obtain ⟨px75m, hIx73_, hFx74_, px75_⟩ := px75_
              refine Or.inr ⟨_, _, rfl, by first | exact px75m | (simp only [List.mem_cons, List.not_mem_nil, or_false] at px75m ⊢; omega), hIx73_, ai_fr_tr hFx69_ (fr_le hFx74_ rfl), ?_⟩
              rw [px75_.2]; exact J8_
            · exact absurd rfl px75_.2.2.2.1
          · have cx71_ : ¬ ((Sx65_.1 11 0 16) ≠ 0) := of_decide_eq_false cx71_
            refine sm_T_go 2 (c1 := (83, [some (.inr (.inr (some (12, 0)))), some (.inl kk_), some (.inl a_), some (.inl b_), some (.inl n_), some (.inr (.inr (some (2, kk_.toNat))))], [.inl 1], Sx65_)) rfl ?_
            refine sm_T_cale (d1_ := 0) (Q1_ := vq_268e 1 Sx65_) (Q2_ := (fun ex_ S1_ => ex_ ∈ ([3] : List Nat) ∧ vx_268e 1 Sx65_ S1_)) rfl rfl (by decide) (vc_268e 1 Sx65_ hIx66_ ) rfl (fun xx83_ Sx78_ px81_ => ?_) (fun u_ Sx78_ px81_ => ?_)
            · exact absurd px81_.2.2.2.1 (by decide)
            obtain ⟨rfl, -, -, px81_, rfl⟩ := px81_
            refine sm_T_go 2 (c1 := (89, [some (.inr (.inr (some (12, 0)))), some (.inl kk_), some (.inl a_), some (.inl b_), some (.inl n_), some (.inr (.inr (some (2, kk_.toNat))))], [.inl (-1), .inl n_], Sx65_)) rfl ?_
            refine sm_T_br (a := 1) (z := 18) rfl (fun cx84_ => ?_) (fun cx84_ => ?_)
            · have cx84_ : n_ ≠ (-1) := of_decide_eq_true cx84_
              refine sm_T_go 3 (c1 := (113, [some (.inr (.inr (some (12, 0)))), some (.inl kk_), some (.inl a_), some (.inl b_), some (.inl n_), some (.inr (.inr (some (2, kk_.toNat))))], [.inl n_, .inr (.inr (some (11, 0)))], Sx65_)) rfl ?_
              refine sm_T_cal (d1 := 0) (Q1 := vq_208 n_ Sx65_) rfl rfl (by decide) (vc_208 n_ Sx65_ hIx66_ (by omega)) (fun u_ Sx85_ px88_ => ?_)
              obtain ⟨rfl, vx90_, rfl, px88_⟩ := px88_
              refine sm_T_ri rfl (Or.inl ⟨_, _, rfl, _, rfl, hIx66_, hFx69_, ?_⟩)
              exact J8_
            · have cx84_ : ¬ (n_ ≠ (-1)) := of_decide_eq_false cx84_
              refine sm_T_go 3 (c1 := (98, [some (.inr (.inr (some (12, 0)))), some (.inl kk_), some (.inl a_), some (.inl b_), some (.inl n_), some (.inr (.inr (some (2, kk_.toNat))))], [.inr (.inr (some (2, kk_.toNat))), .inr (.inr (some (11, 0)))], Sx65_)) rfl ?_
              refine sm_T_cal (d1 := 0) (Q1 := vq_55 kk_.toNat Sx65_) rfl rfl (by decide) (vc_55 kk_.toNat Sx65_ hIx66_ ) (fun u_ Sx91_ px94_ => ?_)
              obtain ⟨rfl, vx96_, rfl, px94_⟩ := px94_
              refine sm_T_cal (d1 := 0) (Q1 := vq_210 vx96_ Sx65_) rfl rfl (by decide) (vc_210 vx96_ Sx65_ hIx66_ (by omega)) (fun u_ Sx97_ px100_ => ?_)
              obtain ⟨rfl, vx102_, rfl, px100_⟩ := px100_
              refine sm_T_go 1 (c1 := (116, [some (.inr (.inr (some (12, 0)))), some (.inl kk_), some (.inl a_), some (.inl b_), some (.inl n_), some (.inr (.inr (some (2, kk_.toNat))))], [.inl vx102_], Sx65_)) rfl ?_
              refine sm_T_ri rfl (Or.inl ⟨_, _, rfl, _, rfl, hIx66_, hFx69_, ?_⟩)
              exact J8_
end
/-! 99.zp8c -/
section
/-! ChipFlow.violation -/
def vw_251 : sx_Wl := ([(4, 3), (4, 8), (4, 9)], [50], [])
def vq_251 (kk_ : Int) (k_ : Int) (sd_ : Int) (S0_ : sm_S) (u_ : Option sm_V) (S1_ : sm_S) : Prop := ∃ v_ : Int, u_ = some (.inl v_) ∧ gi S1_ ∧ ai_fr (sx_W vw_251) S0_ S1_ ∧ (jC S1_)
def vx_251 (kk_ : Int) (k_ : Int) (sd_ : Int) (S0_ : sm_S) (S1_ : sm_S) : Prop := gi S1_ ∧ ai_fr (sx_W vw_251) S0_ S1_ ∧ (jC S1_)
set_option maxHeartbeats 400000 in
theorem vc_251 {sc_ : Nat × (Nat → Int)} (kk_ : Int) (k_ : Int) (sd_ : Int) (S0_ : sm_S) (hI_ : gi S0_) (hJ_ : jC S0_) (hk9_ : -2147483648 ≤ k_ ∧ k_ ≤ 2147483647) : sm_T (mt_P sc_) 3 251 (0, [some (.inr (.inr (some (12, 0)))), some (.inl kk_), some (.inl k_), some (.inl sd_), none], [], S0_) (fun ro9_ => (∃ u_ S1_, ro9_ = (.inl u_, S1_, 0) ∧ vq_251 kk_ k_ sd_ S0_ u_ S1_) ∨ ∃ ex_ S1_, ro9_ = (.inr ex_, S1_, 1) ∧ ex_ ∈ ([0, 2] : List Nat) ∧ vx_251 kk_ k_ sd_ S0_ S1_) := by
  have hF_ : ai_fr (sx_W vw_251) S0_ S0_ := ai_fr_rf
  refine sm_T_go 2 (c1 := (2, [some (.inr (.inr (some (12, 0)))), some (.inl kk_), some (.inl k_), some (.inl sd_), none], [.inl kk_, .inr (.inr (some (12, 0)))], S0_)) rfl ?_
  refine sm_T_cale (d1_ := 1) (Q1_ := vq_272 kk_ S0_) (Q2_ := (fun ex_ S1_ => ex_ ∈ ([0] : List Nat) ∧ vx_272 kk_ S0_ S1_)) rfl rfl (by decide) (vc_272 kk_ S0_ hI_ ) rfl (fun xx6_ Sx1_ px4_ => ?_) (fun u_ Sx1_ px4_ => ?_)
  · obtain ⟨px4m, hIx2_, hFx3_, px4_⟩ := px4_
    refine Or.inr ⟨_, _, rfl, by first | exact px4m | (simp only [List.mem_cons, List.not_mem_nil, or_false] at px4m ⊢; omega), hIx2_, ai_fr_tr hF_ (fr_le hFx3_ rfl), ?_⟩
    first | (rw [px4_.2]; exact hJ_) | (rw [px4_]; exact hJ_)
  obtain ⟨rfl, -, -, rfl, px4_⟩ := px4_
  have a9_ := px4_
  have J9_ := hJ_.2.1 kk_.toNat (by omega) a9_.2
  have J1_ := J9_.1
  have q9_ := a9_.2
  have c8_ : 0 ≤ S0_.1 2 (kk_.toNat) 8 ∧ S0_.1 2 (kk_.toNat) 8 ≤ 150 := hI_.1 2 (kk_.toNat) 8 rfl
  have c1_ : 0 ≤ S0_.1 2 (kk_.toNat) 1 ∧ S0_.1 2 (kk_.toNat) 1 ≤ 12 := hI_.1 2 (kk_.toNat) 1 rfl
  have c2_ : 0 ≤ S0_.1 2 (kk_.toNat) 2 ∧ S0_.1 2 (kk_.toNat) 2 ≤ 6 := hI_.1 2 (kk_.toNat) 2 rfl
  refine sm_T_go 4 (c1 := (14, [some (.inr (.inr (some (12, 0)))), some (.inl kk_), some (.inl k_), some (.inl sd_), some (.inr (.inr (some (4, (0 + (0 + kk_.toNat))))))], [.inl k_], S0_)) rfl ?_
  refine sm_T_b0 (a := 2) (z := 16) rfl (fun cx7_ => ?_) (fun cx7_ => ?_)
  · have cx7_ : k_ < 0 := of_decide_eq_true cx7_
    refine sm_T_go 1 (c1 := (31, [some (.inr (.inr (some (12, 0)))), some (.inl kk_), some (.inl k_), some (.inl sd_), some (.inr (.inr (some (4, (0 + (0 + kk_.toNat))))))], [.inl 0], S0_)) rfl ?_
    refine sm_T_cale (d1_ := 0) (Q1_ := vq_265e 0 S0_) (Q2_ := (fun ex_ S1_ => ex_ ∈ ([0] : List Nat) ∧ vx_265e 0 S0_ S1_)) rfl rfl (by decide) (vc_265e 0 S0_ hI_ ) rfl (fun xx13_ Sx8_ px11_ => ?_) (fun u_ Sx8_ px11_ => ?_)
    · obtain ⟨px11m, hIx9_, hFx10_, px11_⟩ := px11_
      refine Or.inr ⟨_, _, rfl, by first | exact px11m | (simp only [List.mem_cons, List.not_mem_nil, or_false] at px11m ⊢; omega), hIx9_, ai_fr_tr hF_ (fr_le hFx10_ rfl), ?_⟩
      first | (rw [px11_.2]; exact hJ_) | (rw [px11_]; exact hJ_)
    · exact absurd rfl px11_.2.2.2.1
  · have cx7_ : ¬ (k_ < 0) := of_decide_eq_false cx7_
    refine sm_T_go 1 (c1 := (18, [some (.inr (.inr (some (12, 0)))), some (.inl kk_), some (.inl k_), some (.inl sd_), some (.inr (.inr (some (4, (0 + (0 + kk_.toNat))))))], [.inl sd_], S0_)) rfl ?_
    refine sm_T_b0 (a := 0) (z := 8) rfl (fun cx14_ => ?_) (fun cx14_ => ?_)
    · have cx14_ : sd_ = 0 := of_decide_eq_true cx14_
      refine sm_T_go 2 (c1 := (31, [some (.inr (.inr (some (12, 0)))), some (.inl kk_), some (.inl k_), some (.inl sd_), some (.inr (.inr (some (4, (0 + (0 + kk_.toNat))))))], [.inl 1], S0_)) rfl ?_
      refine sm_T_cale (d1_ := 0) (Q1_ := vq_265e 1 S0_) (Q2_ := (fun ex_ S1_ => ex_ ∈ ([0] : List Nat) ∧ vx_265e 1 S0_ S1_)) rfl rfl (by decide) (vc_265e 1 S0_ hI_ ) rfl (fun xx20_ Sx15_ px18_ => ?_) (fun u_ Sx15_ px18_ => ?_)
      · exact absurd px18_.2.2.2.1 (by decide)
      obtain ⟨rfl, -, -, px18_, rfl⟩ := px18_
      have bx21_ : 0 ≤ S0_.1 4 (0 + (0 + kk_.toNat)) 0 ∧ S0_.1 4 (0 + (0 + kk_.toNat)) 0 ≤ 1 := hI_.1 4 (0 + (0 + kk_.toNat)) 0 rfl
      refine sm_T_go 2 (c1 := (39, [some (.inr (.inr (some (12, 0)))), some (.inl kk_), some (.inl k_), some (.inl sd_), some (.inr (.inr (some (4, (0 + (0 + kk_.toNat))))))], [.inl (S0_.1 4 (0 + (0 + kk_.toNat)) 0)], S0_)) rfl ?_
      refine sm_T_cale (d1_ := 0) (Q1_ := vq_267e (S0_.1 4 (0 + (0 + kk_.toNat)) 0) S0_) (Q2_ := (fun ex_ S1_ => ex_ ∈ ([2] : List Nat) ∧ vx_267e (S0_.1 4 (0 + (0 + kk_.toNat)) 0) S0_ S1_)) rfl rfl (by decide) (vc_267e (S0_.1 4 (0 + (0 + kk_.toNat)) 0) S0_ hI_ ) rfl (fun xx27_ Sx22_ px25_ => ?_) (fun u_ Sx22_ px25_ => ?_)
      · obtain ⟨px25m, hIx23_, hFx24_, px25_⟩ := px25_
        refine Or.inr ⟨_, _, rfl, by first | exact px25m | (simp only [List.mem_cons, List.not_mem_nil, or_false] at px25m ⊢; omega), hIx23_, ai_fr_tr hF_ (fr_le hFx24_ rfl), ?_⟩
        first | (rw [px25_.2]; exact hJ_) | (rw [px25_]; exact hJ_)
      obtain ⟨rfl, -, -, px25_, rfl⟩ := px25_
      refine sm_T_go 1 (c1 := (44, [some (.inr (.inr (some (12, 0)))), some (.inl kk_), some (.inl k_), some (.inl sd_), some (.inr (.inr (some (4, (0 + (0 + kk_.toNat))))))], [.inr (.inr (some (4, (0 + (0 + kk_.toNat)))))], S0_)) rfl ?_
      refine sm_T_cal (d1 := 1) (Q1 := vq_79 (0 + (0 + kk_.toNat)) S0_) rfl rfl (by decide) (vc_79 (0 + (0 + kk_.toNat)) S0_ hI_ ) (fun u_ Sx28_ px31_ => ?_)
      obtain ⟨rfl, hIx29_, hFx30_, px31_⟩ := px31_
      have hFx32_ : ai_fr (sx_W vw_251) S0_ Sx28_ := ai_fr_tr hF_ (fr_le hFx30_ rfl)
      obtain ⟨dx33_, px31_⟩ := px31_
      have J8_ := jC_fr hJ_ hFx32_ (by decide) (by decide) (by decide) (by decide) (by decide) rfl rfl rfl rfl rfl rfl
      have bx34_ : 0 ≤ Sx28_.1 4 (0 + (0 + kk_.toNat)) 3 ∧ Sx28_.1 4 (0 + (0 + kk_.toNat)) 3 ≤ 1073741823 := hIx29_.1 4 (0 + (0 + kk_.toNat)) 3 rfl
      refine sm_T_go 3 (c1 := (53, [some (.inr (.inr (some (12, 0)))), some (.inl kk_), some (.inl k_), some (.inl sd_), some (.inr (.inr (some (4, (0 + (0 + kk_.toNat))))))], [.inl (Sx28_.1 4 (0 + (0 + kk_.toNat)) 3), .inl k_], Sx28_)) rfl ?_
      refine sm_T_br (a := 3) (z := 7) rfl (fun cx35_ => ?_) (fun cx35_ => ?_)
      · have cx35_ : (Sx28_.1 4 (0 + (0 + kk_.toNat)) 3) ≤ k_ := of_decide_eq_true cx35_
        refine sm_T_go 1 (c1 := (61, [some (.inr (.inr (some (12, 0)))), some (.inl kk_), some (.inl k_), some (.inl sd_), some (.inr (.inr (some (4, (0 + (0 + kk_.toNat))))))], [.inl 0], Sx28_)) rfl ?_
        refine sm_T_cale (d1_ := 0) (Q1_ := vq_265e 0 Sx28_) (Q2_ := (fun ex_ S1_ => ex_ ∈ ([0] : List Nat) ∧ vx_265e 0 Sx28_ S1_)) rfl rfl (by decide) (vc_265e 0 Sx28_ hIx29_ ) rfl (fun xx41_ Sx36_ px39_ => ?_) (fun u_ Sx36_ px39_ => ?_)
        · obtain ⟨px39m, hIx37_, hFx38_, px39_⟩ := px39_
          refine Or.inr ⟨_, _, rfl, by first | exact px39m | (simp only [List.mem_cons, List.not_mem_nil, or_false] at px39m ⊢; omega), hIx37_, ai_fr_tr hFx32_ (fr_le hFx38_ rfl), ?_⟩
          rw [px39_.2]; exact J8_
        · exact absurd rfl px39_.2.2.2.1
      · have cx35_ : ¬ ((Sx28_.1 4 (0 + (0 + kk_.toNat)) 3) ≤ k_) := of_decide_eq_false cx35_
        refine sm_T_go 2 (c1 := (61, [some (.inr (.inr (some (12, 0)))), some (.inl kk_), some (.inl k_), some (.inl sd_), some (.inr (.inr (some (4, (0 + (0 + kk_.toNat))))))], [.inl 1], Sx28_)) rfl ?_
        refine sm_T_cale (d1_ := 0) (Q1_ := vq_265e 1 Sx28_) (Q2_ := (fun ex_ S1_ => ex_ ∈ ([0] : List Nat) ∧ vx_265e 1 Sx28_ S1_)) rfl rfl (by decide) (vc_265e 1 Sx28_ hIx29_ ) rfl (fun xx47_ Sx42_ px45_ => ?_) (fun u_ Sx42_ px45_ => ?_)
        · exact absurd px45_.2.2.2.1 (by decide)
        obtain ⟨rfl, -, -, px45_, rfl⟩ := px45_
        refine sm_T_go 3 (c1 := (68, [some (.inr (.inr (some (12, 0)))), some (.inl kk_), some (.inl k_), some (.inl sd_), some (.inr (.inr (some (4, (0 + (0 + kk_.toNat))))))], [.inl sd_, .inl k_, .inr (.inr (some (4, (0 + (0 + kk_.toNat)))))], Sx28_)) rfl ?_
        refine sm_T_cal (d1 := 2) (Q1 := vq_80 k_ sd_ (0 + (0 + kk_.toNat)) Sx28_) rfl rfl (by decide) (vc_80 k_ sd_ (0 + (0 + kk_.toNat)) Sx28_ hIx29_ (by omega)) (fun u_ Sx48_ px51_ => ?_)
        obtain ⟨rfl, vx53_, rfl, px51_⟩ := px51_
        refine sm_T_ri rfl (Or.inl ⟨_, _, rfl, _, rfl, hIx29_, hFx32_, ?_⟩)
        exact J8_
    · have cx14_ : ¬ (sd_ = 0) := of_decide_eq_false cx14_
      refine sm_T_go 2 (c1 := (23, [some (.inr (.inr (some (12, 0)))), some (.inl kk_), some (.inl k_), some (.inl sd_), some (.inr (.inr (some (4, (0 + (0 + kk_.toNat))))))], [.inl 1, .inl sd_], S0_)) rfl ?_
      refine sm_T_br (a := 1) (z := 7) rfl (fun cx54_ => ?_) (fun cx54_ => ?_)
      · have cx54_ : sd_ ≠ 1 := of_decide_eq_true cx54_
        refine sm_T_go 1 (c1 := (31, [some (.inr (.inr (some (12, 0)))), some (.inl kk_), some (.inl k_), some (.inl sd_), some (.inr (.inr (some (4, (0 + (0 + kk_.toNat))))))], [.inl 0], S0_)) rfl ?_
        refine sm_T_cale (d1_ := 0) (Q1_ := vq_265e 0 S0_) (Q2_ := (fun ex_ S1_ => ex_ ∈ ([0] : List Nat) ∧ vx_265e 0 S0_ S1_)) rfl rfl (by decide) (vc_265e 0 S0_ hI_ ) rfl (fun xx60_ Sx55_ px58_ => ?_) (fun u_ Sx55_ px58_ => ?_)
        · obtain ⟨px58m, hIx56_, hFx57_, px58_⟩ := px58_
          refine Or.inr ⟨_, _, rfl, by first | exact px58m | (simp only [List.mem_cons, List.not_mem_nil, or_false] at px58m ⊢; omega), hIx56_, ai_fr_tr hF_ (fr_le hFx57_ rfl), ?_⟩
          first | (rw [px58_.2]; exact hJ_) | (rw [px58_]; exact hJ_)
        · exact absurd rfl px58_.2.2.2.1
      · have cx54_ : ¬ (sd_ ≠ 1) := of_decide_eq_false cx54_
        refine sm_T_go 2 (c1 := (31, [some (.inr (.inr (some (12, 0)))), some (.inl kk_), some (.inl k_), some (.inl sd_), some (.inr (.inr (some (4, (0 + (0 + kk_.toNat))))))], [.inl 1], S0_)) rfl ?_
        refine sm_T_cale (d1_ := 0) (Q1_ := vq_265e 1 S0_) (Q2_ := (fun ex_ S1_ => ex_ ∈ ([0] : List Nat) ∧ vx_265e 1 S0_ S1_)) rfl rfl (by decide) (vc_265e 1 S0_ hI_ ) rfl (fun xx66_ Sx61_ px64_ => ?_) (fun u_ Sx61_ px64_ => ?_)
        · exact absurd px64_.2.2.2.1 (by decide)
        obtain ⟨rfl, -, -, px64_, rfl⟩ := px64_
        have bx67_ : 0 ≤ S0_.1 4 (0 + (0 + kk_.toNat)) 0 ∧ S0_.1 4 (0 + (0 + kk_.toNat)) 0 ≤ 1 := hI_.1 4 (0 + (0 + kk_.toNat)) 0 rfl
        refine sm_T_go 2 (c1 := (39, [some (.inr (.inr (some (12, 0)))), some (.inl kk_), some (.inl k_), some (.inl sd_), some (.inr (.inr (some (4, (0 + (0 + kk_.toNat))))))], [.inl (S0_.1 4 (0 + (0 + kk_.toNat)) 0)], S0_)) rfl ?_
        refine sm_T_cale (d1_ := 0) (Q1_ := vq_267e (S0_.1 4 (0 + (0 + kk_.toNat)) 0) S0_) (Q2_ := (fun ex_ S1_ => ex_ ∈ ([2] : List Nat) ∧ vx_267e (S0_.1 4 (0 + (0 + kk_.toNat)) 0) S0_ S1_)) rfl rfl (by decide) (vc_267e (S0_.1 4 (0 + (0 + kk_.toNat)) 0) S0_ hI_ ) rfl (fun xx73_ Sx68_ px71_ => ?_) (fun u_ Sx68_ px71_ => ?_)
        · obtain ⟨px71m, hIx69_, hFx70_, px71_⟩ := px71_
          refine Or.inr ⟨_, _, rfl, by first | exact px71m | (simp only [List.mem_cons, List.not_mem_nil, or_false] at px71m ⊢; omega), hIx69_, ai_fr_tr hF_ (fr_le hFx70_ rfl), ?_⟩
          first | (rw [px71_.2]; exact hJ_) | (rw [px71_]; exact hJ_)
        obtain ⟨rfl, -, -, px71_, rfl⟩ := px71_
        refine sm_T_go 1 (c1 := (44, [some (.inr (.inr (some (12, 0)))), some (.inl kk_), some (.inl k_), some (.inl sd_), some (.inr (.inr (some (4, (0 + (0 + kk_.toNat))))))], [.inr (.inr (some (4, (0 + (0 + kk_.toNat)))))], S0_)) rfl ?_
        refine sm_T_cal (d1 := 1) (Q1 := vq_79 (0 + (0 + kk_.toNat)) S0_) rfl rfl (by decide) (vc_79 (0 + (0 + kk_.toNat)) S0_ hI_ ) (fun u_ Sx74_ px77_ => ?_)
        obtain ⟨rfl, hIx75_, hFx76_, px77_⟩ := px77_
        have hFx78_ : ai_fr (sx_W vw_251) S0_ Sx74_ := ai_fr_tr hF_ (fr_le hFx76_ rfl)
        obtain ⟨dx79_, px77_⟩ := px77_
        have J8_ := jC_fr hJ_ hFx78_ (by decide) (by decide) (by decide) (by decide) (by decide) rfl rfl rfl rfl rfl rfl
        have bx80_ : 0 ≤ Sx74_.1 4 (0 + (0 + kk_.toNat)) 3 ∧ Sx74_.1 4 (0 + (0 + kk_.toNat)) 3 ≤ 1073741823 := hIx75_.1 4 (0 + (0 + kk_.toNat)) 3 rfl
        refine sm_T_go 3 (c1 := (53, [some (.inr (.inr (some (12, 0)))), some (.inl kk_), some (.inl k_), some (.inl sd_), some (.inr (.inr (some (4, (0 + (0 + kk_.toNat))))))], [.inl (Sx74_.1 4 (0 + (0 + kk_.toNat)) 3), .inl k_], Sx74_)) rfl ?_
        refine sm_T_br (a := 3) (z := 7) rfl (fun cx81_ => ?_) (fun cx81_ => ?_)
        · have cx81_ : (Sx74_.1 4 (0 + (0 + kk_.toNat)) 3) ≤ k_ := of_decide_eq_true cx81_
          refine sm_T_go 1 (c1 := (61, [some (.inr (.inr (some (12, 0)))), some (.inl kk_), some (.inl k_), some (.inl sd_), some (.inr (.inr (some (4, (0 + (0 + kk_.toNat))))))], [.inl 0], Sx74_)) rfl ?_
          refine sm_T_cale (d1_ := 0) (Q1_ := vq_265e 0 Sx74_) (Q2_ := (fun ex_ S1_ => ex_ ∈ ([0] : List Nat) ∧ vx_265e 0 Sx74_ S1_)) rfl rfl (by decide) (vc_265e 0 Sx74_ hIx75_ ) rfl (fun xx87_ Sx82_ px85_ => ?_) (fun u_ Sx82_ px85_ => ?_)
          · obtain ⟨px85m, hIx83_, hFx84_, px85_⟩ := px85_
            refine Or.inr ⟨_, _, rfl, by first | exact px85m | (simp only [List.mem_cons, List.not_mem_nil, or_false] at px85m ⊢; omega), hIx83_, ai_fr_tr hFx78_ (fr_le hFx84_ rfl), ?_⟩
            rw [px85_.2]; exact J8_
          · exact absurd rfl px85_.2.2.2.1
        · have cx81_ : ¬ ((Sx74_.1 4 (0 + (0 + kk_.toNat)) 3) ≤ k_) := of_decide_eq_false cx81_
          refine sm_T_go 2 (c1 := (61, [some (.inr (.inr (some (12, 0)))), some (.inl kk_), some (.inl k_), some (.inl sd_), some (.inr (.inr (some (4, (0 + (0 + kk_.toNat))))))], [.inl 1], Sx74_)) rfl ?_
          refine sm_T_cale (d1_ := 0) (Q1_ := vq_265e 1 Sx74_) (Q2_ := (fun ex_ S1_ => ex_ ∈ ([0] : List Nat) ∧ vx_265e 1 Sx74_ S1_)) rfl rfl (by decide) (vc_265e 1 Sx74_ hIx75_ ) rfl (fun xx93_ Sx88_ px91_ => ?_) (fun u_ Sx88_ px91_ => ?_)
          · exact absurd px91_.2.2.2.1 (by decide)
          obtain ⟨rfl, -, -, px91_, rfl⟩ := px91_
          refine sm_T_go 3 (c1 := (68, [some (.inr (.inr (some (12, 0)))), some (.inl kk_), some (.inl k_), some (.inl sd_), some (.inr (.inr (some (4, (0 + (0 + kk_.toNat))))))], [.inl sd_, .inl k_, .inr (.inr (some (4, (0 + (0 + kk_.toNat)))))], Sx74_)) rfl ?_
          refine sm_T_cal (d1 := 2) (Q1 := vq_80 k_ sd_ (0 + (0 + kk_.toNat)) Sx74_) rfl rfl (by decide) (vc_80 k_ sd_ (0 + (0 + kk_.toNat)) Sx74_ hIx75_ (by omega)) (fun u_ Sx94_ px97_ => ?_)
          obtain ⟨rfl, vx99_, rfl, px97_⟩ := px97_
          refine sm_T_ri rfl (Or.inl ⟨_, _, rfl, _, rfl, hIx75_, hFx78_, ?_⟩)
          exact J8_
end
/-! 99.zp9a -/
section
/-! the face of the class: draw; written by wip/p55/gen/vg -/

/-! the_ face: draw -/
theorem idx_b {y_ W_ x_ : Int} (hy_ : 0 ≤ y_ ∧ y_ ≤ 75) (hW_ : 0 ≤ W_ ∧ W_ ≤ 62) (hx_ : 0 ≤ x_ ∧ x_ < W_) : (y_ * W_ + x_).toNat < 4712 := by
  have a_ : y_ * W_ ≤ 75 * W_ := Int.mul_le_mul_of_nonneg_right hy_.2 hW_.1
  have b_ : 0 ≤ y_ * W_ := Int.mul_nonneg hy_.1 hW_.1
  omega
theorem cg_zb {g_ : Nat → Nat → Int} {c_ : Int} {w_ : Nat} : ∀ {h_ : Nat}, (∀ y_ x_, y_ < h_ → x_ < w_ → g_ y_ x_ ≠ c_) → cg g_ c_ w_ h_ = 0
  | 0, _ => rfl
  | h_ + 1, q_ => by rw [cg_s, cg_zb (h_ := h_) (fun y_ x_ a_ b_ => q_ y_ x_ (by omega) b_), cne_0 (fun x_ hx_ => q_ h_ x_ (by omega) hx_)]
theorem btot_zb {bb_ : Nat} {S_ : sm_S} {c_ : Int} (hc_ : 0 ≤ c_) (hw_ : 0 ≤ S_.1 0 bb_ 0 ∧ S_.1 0 bb_ 0 ≤ 60) (hh_ : 0 ≤ S_.1 0 bb_ 2 ∧ S_.1 0 bb_ 2 ≤ 38) (h_ : ∀ k_, k_ < 4712 → S_.2.2.1 22 (0 + bb_) k_ ≠ c_) : btot bb_ S_ c_ = 0 := by
  have n_ : (-1 : Int) ≠ c_ := by omega
  unfold btot gtw gth
  rw [cg_zb, cg_zb, cg_zb]
  · intro y_ x_ hy_ hx_
    unfold gt2 tk2
    split
    · exact n_
    · exact h_ _ (idx_b (by omega) (by omega) (by omega))
  · intro x_ y_ hx_ hy_
    unfold gt1 tk1
    split
    · exact n_
    · split
      · exact n_
      · exact h_ _ (idx_b (by omega) (by omega) (by omega))
  · intro y_ x_ hy_ hx_
    unfold gt0 tk0
    split
    · exact n_
    · split
      · exact n_
      · exact h_ _ (idx_b (by omega) (by omega) (by omega))
/-! ChipFlow.draw -/
def vw_246 : sx_Wl := ([(4, 0), (4, 1), (4, 9), (4, 10), (4, 11)], [48, 49], [])
def vq_246 (kk_ : Int) (S0_ : sm_S) (u_ : Option sm_V) (S1_ : sm_S) : Prop := ∃ v_ : Int, u_ = some (.inl v_) ∧ gi S1_ ∧ ai_fr (sx_W vw_246) S0_ S1_ ∧ (jC S1_)
def vx_246 (kk_ : Int) (S0_ : sm_S) (S1_ : sm_S) : Prop := gi S1_ ∧ ai_fr (sx_W vw_246) S0_ S1_ ∧ (jC S1_)
set_option maxHeartbeats 400000 in
theorem vc_246 {sc_ : Nat × (Nat → Int)} (kk_ : Int) (S0_ : sm_S) (hI_ : gi S0_) (hJ_ : jC S0_) : sm_T (mt_P sc_) 5 246 (0, [some (.inr (.inr (some (12, 0)))), some (.inl kk_), none, none], [], S0_) (fun ro9_ => (∃ u_ S1_, ro9_ = (.inl u_, S1_, 0) ∧ vq_246 kk_ S0_ u_ S1_) ∨ ∃ ex_ S1_, ro9_ = (.inr ex_, S1_, 1) ∧ ex_ ∈ ([0, 2, 3] : List Nat) ∧ vx_246 kk_ S0_ S1_) := by
  have hF_ : ai_fr (sx_W vw_246) S0_ S0_ := ai_fr_rf
  refine sm_T_go 2 (c1 := (2, [some (.inr (.inr (some (12, 0)))), some (.inl kk_), none, none], [.inl kk_, .inr (.inr (some (12, 0)))], S0_)) rfl ?_
  refine sm_T_cale (d1_ := 1) (Q1_ := vq_272 kk_ S0_) (Q2_ := (fun ex_ S1_ => ex_ ∈ ([0] : List Nat) ∧ vx_272 kk_ S0_ S1_)) rfl rfl (by decide) (vc_272 kk_ S0_ hI_ ) rfl (fun xx6_ Sx1_ px4_ => ?_) (fun u_ Sx1_ px4_ => ?_)
  · obtain ⟨px4m, hIx2_, hFx3_, px4_⟩ := px4_
    refine Or.inr ⟨_, _, rfl, by first | exact px4m | (simp only [List.mem_cons, List.not_mem_nil, or_false] at px4m ⊢; omega), hIx2_, ai_fr_tr hF_ (fr_le hFx3_ rfl), ?_⟩
    first | (rw [px4_.2]; exact hJ_) | (rw [px4_]; exact hJ_)
  obtain ⟨rfl, -, -, rfl, px4_⟩ := px4_
  have a9_ := px4_
  have J9_ := hJ_.2.1 kk_.toNat (by omega) a9_.2
  have J1_ := J9_.1
  have q9_ := a9_.2
  have c8_ : 0 ≤ S0_.1 2 (kk_.toNat) 8 ∧ S0_.1 2 (kk_.toNat) 8 ≤ 150 := hI_.1 2 (kk_.toNat) 8 rfl
  have c1_ : 0 ≤ S0_.1 2 (kk_.toNat) 1 ∧ S0_.1 2 (kk_.toNat) 1 ≤ 12 := hI_.1 2 (kk_.toNat) 1 rfl
  have c2_ : 0 ≤ S0_.1 2 (kk_.toNat) 2 ∧ S0_.1 2 (kk_.toNat) 2 ≤ 6 := hI_.1 2 (kk_.toNat) 2 rfl
  have bx7_ : 0 ≤ S0_.1 0 (0 + kk_.toNat) 11 ∧ S0_.1 0 (0 + kk_.toNat) 11 ≤ 1 := hI_.1 0 (0 + kk_.toNat) 11 rfl
  refine sm_T_go 4 (c1 := (13, [some (.inr (.inr (some (12, 0)))), some (.inl kk_), some (.inr (.inr (some (2, kk_.toNat)))), none], [.inl (S0_.1 0 (0 + kk_.toNat) 11)], S0_)) rfl ?_
  refine sm_T_cale (d1_ := 0) (Q1_ := vq_267e (S0_.1 0 (0 + kk_.toNat) 11) S0_) (Q2_ := (fun ex_ S1_ => ex_ ∈ ([2] : List Nat) ∧ vx_267e (S0_.1 0 (0 + kk_.toNat) 11) S0_ S1_)) rfl rfl (by decide) (vc_267e (S0_.1 0 (0 + kk_.toNat) 11) S0_ hI_ ) rfl (fun xx13_ Sx8_ px11_ => ?_) (fun u_ Sx8_ px11_ => ?_)
  · obtain ⟨px11m, hIx9_, hFx10_, px11_⟩ := px11_
    refine Or.inr ⟨_, _, rfl, by first | exact px11m | (simp only [List.mem_cons, List.not_mem_nil, or_false] at px11m ⊢; omega), hIx9_, ai_fr_tr hF_ (fr_le hFx10_ rfl), ?_⟩
    first | (rw [px11_.2]; exact hJ_) | (rw [px11_]; exact hJ_)
  obtain ⟨rfl, -, -, px11_, rfl⟩ := px11_
  have n13_ := px11_
  have cr : 0 ≤ S0_.1 0 (0 + kk_.toNat) 11 ∧ S0_.1 0 (0 + kk_.toNat) 11 ≤ 1 := hI_.1 0 (0 + kk_.toNat) 11 rfl
  have cs_ : 0 ≤ S0_.1 0 (0 + kk_.toNat) 0 ∧ S0_.1 0 (0 + kk_.toNat) 0 ≤ 60 := hI_.1 0 (0 + kk_.toNat) 0 rfl
  have ch_ : 0 ≤ S0_.1 0 (0 + kk_.toNat) 2 ∧ S0_.1 0 (0 + kk_.toNat) 2 ≤ 38 := hI_.1 0 (0 + kk_.toNat) 2 rfl
  have R9_ := J9_.2.2.2.2.2 (by omega)
  refine sm_T_go 6 (c1 := (28, [some (.inr (.inr (some (12, 0)))), some (.inl kk_), some (.inr (.inr (some (2, kk_.toNat)))), none], [.inr (.inr (some (2, kk_.toNat))), .inr (.inr (some (0, (0 + kk_.toNat)))), .inr (.inr (some (4, (0 + (0 + kk_.toNat)))))], S0_)) rfl ?_
  refine sm_T_cal (d1 := 0) (Q1 := vq_55 kk_.toNat S0_) rfl rfl (by decide) (vc_55 kk_.toNat S0_ hI_ ) (fun u_ Sx14_ px17_ => ?_)
  obtain ⟨rfl, vx19_, rfl, px17_⟩ := px17_
  have n28_ := px17_
  obtain ⟨N9_, hN9_⟩ : ∃ N9_, N9_ = vx19_ := ⟨_, rfl⟩
  refine sm_T_cal (d1 := 4) (Q1 := vq_71 vx19_ (0 + (0 + kk_.toNat)) (0 + kk_.toNat) S0_) rfl rfl (by decide) (vc_71 vx19_ (0 + (0 + kk_.toNat)) (0 + kk_.toNat) S0_ hI_ (by omega) (by exact R9_.1)) (fun u_ Sx20_ px23_ => ?_)
  obtain ⟨vx25_, rfl, hIx21_, hFx22_, px23_⟩ := px23_
  have hFx24_ : ai_fr (sx_W vw_246) S0_ Sx20_ := ai_fr_tr hF_ (fr_le hFx22_ rfl)
  obtain ⟨dx26_, px23_⟩ := px23_
  have p31_ := px23_
  rw [← hN9_] at p31_
  have g31_ := hFx22_
  have J8_ := jC_fr hJ_ hFx24_ (by decide) (by decide) (by decide) (by decide) (by decide) rfl rfl rfl rfl rfl rfl
  have y1_ := hFx22_.1 2 kk_.toNat 1 rfl
  have y2_ := hFx22_.1 2 kk_.toNat 2 rfl
  have y8_ := hFx22_.1 2 kk_.toNat 8 rfl
  refine sm_T_go 3 (c1 := (39, [some (.inr (.inr (some (12, 0)))), some (.inl kk_), some (.inr (.inr (some (2, kk_.toNat)))), some (.inl vx25_)], [.inl 2000, .inl vx25_], Sx20_)) rfl ?_
  refine sm_T_br (a := 4) (z := 7) rfl (fun cx27_ => ?_) (fun cx27_ => ?_)
  · have cx27_ : 2000 < vx25_ := of_decide_eq_true cx27_
    refine sm_T_go 1 (c1 := (47, [some (.inr (.inr (some (12, 0)))), some (.inl kk_), some (.inr (.inr (some (2, kk_.toNat)))), some (.inl vx25_)], [.inl 0], Sx20_)) rfl ?_
    refine sm_T_cale (d1_ := 0) (Q1_ := vq_268e 0 Sx20_) (Q2_ := (fun ex_ S1_ => ex_ ∈ ([3] : List Nat) ∧ vx_268e 0 Sx20_ S1_)) rfl rfl (by decide) (vc_268e 0 Sx20_ hIx21_ ) rfl (fun xx33_ Sx28_ px31_ => ?_) (fun u_ Sx28_ px31_ => ?_)
    · obtain ⟨px31m, hIx29_, hFx30_, px31_⟩ := px31_
      refine Or.inr ⟨_, _, rfl, by first | exact px31m | (simp only [List.mem_cons, List.not_mem_nil, or_false] at px31m ⊢; omega), hIx29_, ai_fr_tr hFx24_ (fr_le hFx30_ rfl), ?_⟩
      rw [px31_.2]; exact J8_
    · exact absurd rfl px31_.2.2.2.1
  · have cx27_ : ¬ (2000 < vx25_) := of_decide_eq_false cx27_
    refine sm_T_go 2 (c1 := (47, [some (.inr (.inr (some (12, 0)))), some (.inl kk_), some (.inr (.inr (some (2, kk_.toNat)))), some (.inl vx25_)], [.inl 1], Sx20_)) rfl ?_
    refine sm_T_cale (d1_ := 0) (Q1_ := vq_268e 1 Sx20_) (Q2_ := (fun ex_ S1_ => ex_ ∈ ([3] : List Nat) ∧ vx_268e 1 Sx20_ S1_)) rfl rfl (by decide) (vc_268e 1 Sx20_ hIx21_ ) rfl (fun xx39_ Sx34_ px37_ => ?_) (fun u_ Sx34_ px37_ => ?_)
    · exact absurd px37_.2.2.2.1 (by decide)
    obtain ⟨rfl, -, -, px37_, rfl⟩ := px37_
    refine sm_T_go 6 (c1 := (62, [some (.inr (.inr (some (12, 0)))), some (.inl kk_), some (.inr (.inr (some (2, kk_.toNat)))), some (.inl vx25_)], [.inr (.inr (some (2, kk_.toNat))), .inr (.inr (some (0, (0 + kk_.toNat)))), .inr (.inr (some (4, (0 + (0 + kk_.toNat)))))], Sx20_)) rfl ?_
    refine sm_T_cal (d1 := 0) (Q1 := vq_55 kk_.toNat Sx20_) rfl rfl (by decide) (vc_55 kk_.toNat Sx20_ hIx21_ ) (fun u_ Sx40_ px43_ => ?_)
    obtain ⟨rfl, vx45_, rfl, px43_⟩ := px43_
    have n62_ := px43_
    have q62_ : vx45_ = N9_ := by omega
    refine sm_T_cal (d1 := 4) (Q1 := vq_72 vx45_ (0 + (0 + kk_.toNat)) (0 + kk_.toNat) Sx20_) rfl rfl (by decide) (vc_72 vx45_ (0 + (0 + kk_.toNat)) (0 + kk_.toNat) Sx20_ hIx21_ (by omega) (by (unfold bst; rw [fr_arr (t := 22) (i := 0 + (0 + kk_.toNat)) g31_ rfl, fr_arr (t := 23) (i := 0 + (0 + kk_.toNat)) g31_ rfl]; exact R9_.1)) (by (intro p9_ h9_; rw [fr_arr (t := 22) (i := 0 + (0 + kk_.toNat)) g31_ rfl]; have z9_ := R9_.2 p9_ h9_; omega)) (by (intro c9_ h9_; rw [p31_.2 c9_ h9_]; unfold btf; rw [btot_cg (fr_arr g31_ rfl) (fr_arr g31_ rfl) (g31_.1 0 (0 + kk_.toNat) 0 rfl) (g31_.1 0 (0 + kk_.toNat) 2 rfl)])) (by (rw [q62_, ssm_cg (g_ := btf (0 + kk_.toNat) S0_) (fun k9_ _ => by (unfold btf; rw [btot_cg (fr_arr g31_ rfl) (fr_arr g31_ rfl) (g31_.1 0 (0 + kk_.toNat) 0 rfl) (g31_.1 0 (0 + kk_.toNat) 2 rfl)]))]; omega)) (by (intro c9_ h9_; unfold btf; rw [btot_cg (fr_arr g31_ rfl) (fr_arr g31_ rfl) (g31_.1 0 (0 + kk_.toNat) 0 rfl) (g31_.1 0 (0 + kk_.toNat) 2 rfl), btot_zb (by omega) (by omega) (by omega) (fun k9_ h8_ => by (have z9_ := R9_.2 k9_ h8_; omega))]; rfl))) (fun u_ Sx46_ px49_ => ?_)
    obtain ⟨rfl, hIx47_, hFx48_, px49_⟩ := px49_
    have hFx50_ : ai_fr (sx_W vw_246) S0_ Sx46_ := ai_fr_tr hFx24_ (fr_le hFx48_ rfl)
    obtain ⟨dx51_, px49_⟩ := px49_
    refine sm_T_go 1 (c1 := (69, [some (.inr (.inr (some (12, 0)))), some (.inl kk_), some (.inr (.inr (some (2, kk_.toNat)))), some (.inl vx25_)], [.inl vx25_], Sx46_)) rfl ?_
    refine sm_T_ri rfl (Or.inl ⟨_, _, rfl, _, rfl, hIx47_, hFx50_, ?_⟩)
    exact jC_fr hJ_ hFx50_ (by decide) (by decide) (by decide) (by decide) (by decide) rfl rfl rfl rfl rfl rfl
end
/-! 99.zq1a -/
section
/-! bytes fed; written by wip/p55/gen/vg -/

/-! bytes fed -/
def fby (x_ e_ : Int) : Int := (vp_nar .byte (Int32.ofInt (i_i2b (i_shr x_ e_)))).toInt
def fdw (a_ b_ c_ d_ e_ : Int) (j_ : Nat) : Int := fby (if j_ < 4 then a_ else if j_ < 8 then b_ else if j_ < 12 then c_ else if j_ < 16 then d_ else e_) (24 - 8 * ((j_ % 4 : Nat) : Int))
def fed (f_ : Nat → Int) (n_ : Nat) (a_ b_ c_ d_ e_ : Int) : Nat → Int := fun k_ => if n_ ≤ k_ ∧ k_ < n_ + 20 then fdw a_ b_ c_ d_ e_ (k_ - n_) else f_ k_
def fd4 (f_ : Nat → Int) (n_ : Nat) (x_ : Int) : Nat → Int := fun k_ => if n_ ≤ k_ ∧ k_ < n_ + 4 then fby x_ (24 - 8 * ((k_ - n_ : Nat) : Int)) else f_ k_
theorem fd4_5 {f_ : Nat → Int} {n_ : Nat} {a_ b_ c_ d_ e_ : Int} : fd4 (fd4 (fd4 (fd4 (fd4 f_ n_ a_) (n_ + 4) b_) (n_ + 8) c_) (n_ + 12) d_) (n_ + 16) e_ = fed f_ n_ a_ b_ c_ d_ e_ := by
  funext k_
  unfold fd4 fed fdw
  by_cases h_ : n_ ≤ k_ ∧ k_ < n_ + 20
  · rw [if_pos h_]
    have hh_ : k_ < n_ + 4 ∨ (n_ + 4 ≤ k_ ∧ k_ < n_ + 8) ∨ (n_ + 8 ≤ k_ ∧ k_ < n_ + 12) ∨ (n_ + 12 ≤ k_ ∧ k_ < n_ + 16) ∨ n_ + 16 ≤ k_ := by omega
    rcases hh_ with z_ | z_ | z_ | z_ | z_
    · rw [if_neg (by omega), if_neg (by omega), if_neg (by omega), if_neg (by omega), if_pos (by omega), if_pos (by omega), show (k_ - n_) % 4 = k_ - n_ by omega]
    · rw [if_neg (by omega), if_neg (by omega), if_neg (by omega), if_pos (by omega), if_neg (by omega), if_pos (by omega), show (k_ - n_) % 4 = k_ - (n_ + 4) by omega]
    · rw [if_neg (by omega), if_neg (by omega), if_pos (by omega), if_neg (by omega), if_neg (by omega), if_pos (by omega), show (k_ - n_) % 4 = k_ - (n_ + 8) by omega]
    · rw [if_neg (by omega), if_pos (by omega), if_neg (by omega), if_neg (by omega), if_neg (by omega), if_pos (by omega), show (k_ - n_) % 4 = k_ - (n_ + 12) by omega]
    · rw [if_pos (by omega), if_neg (by omega), if_neg (by omega), if_neg (by omega), if_neg (by omega), show (k_ - n_) % 4 = k_ - (n_ + 16) by omega]
  · rw [if_neg h_, if_neg (by omega), if_neg (by omega), if_neg (by omega), if_neg (by omega), if_neg (by omega)]
/-! Text.append -/
def vw_185 : sx_Wl := ([(10, 1)], [98], [])
def vq_185 (a1_ : Int) (S0_ : sm_S) (u_ : Option sm_V) (S1_ : sm_S) : Prop := u_ = none ∧ gi S1_ ∧ ai_fr (sx_W vw_185) S0_ S1_ ∧ (S1_.1 10 0 1 = S0_.1 10 0 1 + 4 ∧ S1_.2.2.1 98 0 = fd4 (S0_.2.2.1 98 0) (S0_.1 10 0 1).toNat a1_)
set_option maxHeartbeats 2000000 in
theorem vl_185 {sc_ : Nat × (Nat → Int)} (a1_ : Int) (S0_ : sm_S) (h1_ : S0_.1 10 0 1 ≤ 1276) : ∀ nn_ : Nat, (∀ (i9_ : Int) (S_ : sm_S), gi S_ → ai_fr (sx_W vw_185) S0_ S_ → ((i9_ = 24 - 8 * (S_.1 10 0 1 - S0_.1 10 0 1) ∧ 0 ≤ S_.1 10 0 1 - S0_.1 10 0 1 ∧ S_.1 10 0 1 - S0_.1 10 0 1 ≤ 4) ∧ (∀ k_ : Nat, S_.2.2.1 98 0 k_ = if (S0_.1 10 0 1).toNat ≤ k_ ∧ (k_ : Int) < S_.1 10 0 1 then fby a1_ (24 - 8 * ((k_ - (S0_.1 10 0 1).toNat : Nat) : Int)) else S0_.2.2.1 98 0 k_) ∧ (0 ≤ S0_.1 10 0 1) ∧ True) → ((i9_ + 100).toNat) < nn_ → sm_T (mt_P sc_) 0 185 (3, [some (.inr (.inr (some (10, 0)))), some (.inl a1_), some (.inl i9_)], [], S_) (fun ro9_ => ∃ u_ S1_, ro9_ = (.inl u_, S1_, 0) ∧ vq_185 a1_ S0_ u_ S1_)) := by
  intro nn_
  induction nn_ with
  | zero => exact fun _ _ _ _ _ h_ => absurd h_ (Nat.not_lt_zero _)
  | succ nn_ ih_ =>
    rintro i9_ S_ hI_ hF_ ⟨h0_, hb_, hc0_, -⟩ hm_
    refine sm_T_go 1 (c1 := (4, [some (.inr (.inr (some (10, 0)))), some (.inl a1_), some (.inl i9_)], [.inl i9_], S_)) rfl ?_
    refine sm_T_b0 (a := 2) (z := 41) rfl (fun cx1_ => ?_) (fun cx1_ => ?_)
    · have cx1_ : i9_ < 0 := of_decide_eq_true cx1_
      refine sm_T_rv rfl ⟨_, _, rfl, rfl, hI_, hF_, ?_⟩
      refine ⟨by omega, funext fun k_ => ?_⟩
      rw [hb_ k_]
      unfold fd4
      by_cases y_ : (S0_.1 10 0 1).toNat ≤ k_ ∧ k_ < (S0_.1 10 0 1).toNat + 4
      · rw [if_pos y_, if_pos (by omega)]
      · rw [if_neg y_, if_neg (by omega)]
    · have cx1_ : ¬ (i9_ < 0) := of_decide_eq_false cx1_
      have bx2_ : 0 ≤ S_.1 10 0 1 ∧ S_.1 10 0 1 ≤ 1280 := hI_.1 10 0 1 rfl
      refine sm_T_go 2 (c1 := (11, [some (.inr (.inr (some (10, 0)))), some (.inl a1_), some (.inl i9_)], [.inl (S_.1 10 0 1)], S_)) rfl ?_
      refine sm_T_nt (u := some (.inl 65536)) (S1 := S_) rfl rfl rfl ?_
      refine sm_T_br (a := 3) (z := 26) rfl (fun cx3_ => ?_) (fun cx3_ => ?_)
      · have cx3_ : 65536 ≤ (S_.1 10 0 1) := of_decide_eq_true cx3_
        exfalso; omega
      · have cx3_ : ¬ (65536 ≤ (S_.1 10 0 1)) := of_decide_eq_false cx3_
        refine sm_T_go 6 (c1 := (26, [some (.inr (.inr (some (10, 0)))), some (.inl a1_), some (.inl i9_)], [.inl i9_, .inl a1_, .inl (S_.1 10 0 1), .inr (.inr (some (98, 0)))], S_)) rfl ?_
        refine sm_T_bin (w := (i_shr a1_ i9_)) rfl rfl ?_ -- pc_ 26
        refine sm_T_go 1 (c1 := (28, [some (.inr (.inr (some (10, 0)))), some (.inl a1_), some (.inl i9_)], [.inl (i_i2b (i_shr a1_ i9_)), .inl (S_.1 10 0 1), .inr (.inr (some (98, 0)))], S_)) rfl ?_
        refine sm_T_bast (n := 65536) rfl rfl (by omega) (by omega) ?_
        have bx4_ := ai_nar_b (Int32.ofInt (i_i2b (i_shr a1_ i9_)))
        have hIx5_ : gi (sm_aI S_ 98 0 (S_.1 10 0 1).toNat ((vp_nar .byte (Int32.ofInt (i_i2b (i_shr a1_ i9_)))).toInt)) := gi_aI hI_ (show (-128) ≤ ((vp_nar .byte (Int32.ofInt (i_i2b (i_shr a1_ i9_)))).toInt) ∧ ((vp_nar .byte (Int32.ofInt (i_i2b (i_shr a1_ i9_)))).toInt) ≤ 127 from ⟨by omega, by omega⟩)
        have hFx6_ : ai_fr (sx_W vw_185) S0_ (sm_aI S_ 98 0 (S_.1 10 0 1).toNat ((vp_nar .byte (Int32.ofInt (i_i2b (i_shr a1_ i9_)))).toInt)) := ai_fr_tr hF_ (ai_fr_aI rfl)
        refine sm_T_go 4 (c1 := (35, [some (.inr (.inr (some (10, 0)))), some (.inl a1_), some (.inl i9_)], [.inl 1, .inl (S_.1 10 0 1), .inr (.inr (some (10, 0)))], sm_aI S_ 98 0 (S_.1 10 0 1).toNat ((vp_nar .byte (Int32.ofInt (i_i2b (i_shr a1_ i9_)))).toInt))) rfl ?_
        refine sm_T_bin (w := (S_.1 10 0 1) + 1) rfl (bi_add (by omega) (by omega) (by omega)) ?_ -- pc_ 35
        have hIx7_ : gi (sm_pI (sm_aI S_ 98 0 (S_.1 10 0 1).toNat ((vp_nar .byte (Int32.ofInt (i_i2b (i_shr a1_ i9_)))).toInt)) 10 0 1 ((S_.1 10 0 1) + 1)) := gi_pI hIx5_ (show 0 ≤ (S_.1 10 0 1) + 1 ∧ (S_.1 10 0 1) + 1 ≤ 1280 from ⟨by omega, by omega⟩)
        have hFx8_ : ai_fr (sx_W vw_185) S0_ (sm_pI (sm_aI S_ 98 0 (S_.1 10 0 1).toNat ((vp_nar .byte (Int32.ofInt (i_i2b (i_shr a1_ i9_)))).toInt)) 10 0 1 ((S_.1 10 0 1) + 1)) := ai_fr_tr hFx6_ (ai_fr_pI rfl)
        refine sm_T_go 1 (c1 := (39, [some (.inr (.inr (some (10, 0)))), some (.inl a1_), some (.inl i9_)], [], sm_pI (sm_aI S_ 98 0 (S_.1 10 0 1).toNat ((vp_nar .byte (Int32.ofInt (i_i2b (i_shr a1_ i9_)))).toInt)) 10 0 1 ((S_.1 10 0 1) + 1))) rfl ?_
        refine sm_T_inc (a := 2) (z := (-8)) (v := i9_) (w := i9_ - 8) rfl rfl (by omega) (by omega) (by omega) ?_ -- pc_ 39
        refine sm_T_go 1 (c1 := (3, [some (.inr (.inr (some (10, 0)))), some (.inl a1_), some (.inl (i9_ - 8))], [], sm_pI (sm_aI S_ 98 0 (S_.1 10 0 1).toNat ((vp_nar .byte (Int32.ofInt (i_i2b (i_shr a1_ i9_)))).toInt)) 10 0 1 ((S_.1 10 0 1) + 1))) rfl ?_
        refine ih_ (i9_ - 8) (sm_pI (sm_aI S_ 98 0 (S_.1 10 0 1).toNat ((vp_nar .byte (Int32.ofInt (i_i2b (i_shr a1_ i9_)))).toInt)) 10 0 1 ((S_.1 10 0 1) + 1)) hIx7_ hFx8_ ⟨?_, ?_, ?_, trivial⟩ ?_
        · (rw [rf_eq]; omega)
        · intro k_
          have w9_ := hb_ k_
          rw [rd_fa, rd_eq, rf_eq]
          by_cases y_ : k_ = (S_.1 10 0 1).toNat
          · rw [if_pos y_, if_pos (by omega)]
            unfold fby
            rw [show 24 - 8 * ((k_ - (S0_.1 10 0 1).toNat : Nat) : Int) = i9_ by omega]
          · rw [if_neg y_, w9_]
            by_cases z_ : (S0_.1 10 0 1).toNat ≤ k_ ∧ (k_ : Int) < S_.1 10 0 1
            · rw [if_pos z_, if_pos (by omega)]
            · rw [if_neg z_, if_neg (by omega)]
        · omega
        · omega
set_option maxHeartbeats 2000000 in
theorem vc_185 {sc_ : Nat × (Nat → Int)} (a1_ : Int) (S0_ : sm_S) (hI_ : gi S0_) (h1_ : S0_.1 10 0 1 ≤ 1276) : sm_T (mt_P sc_) 0 185 (0, [some (.inr (.inr (some (10, 0)))), some (.inl a1_), none], [], S0_) (fun ro9_ => ∃ u_ S1_, ro9_ = (.inl u_, S1_, 0) ∧ vq_185 a1_ S0_ u_ S1_) := by
  have hF_ : ai_fr (sx_W vw_185) S0_ S0_ := ai_fr_rf
  have cl_ : 0 ≤ S0_.1 10 0 1 ∧ S0_.1 10 0 1 ≤ 1280 := hI_.1 10 0 1 rfl
  refine sm_T_go 2 (c1 := (3, [some (.inr (.inr (some (10, 0)))), some (.inl a1_), some (.inl 24)], [], S0_)) rfl ?_
  refine (vl_185 a1_ S0_ h1_ _) 24 S0_ hI_ hF_ ⟨?_, ?_, ?_, trivial⟩ (Nat.lt_succ_self _)
  · omega
  · (intro k_; rw [if_neg (by omega)])
  · omega
end
